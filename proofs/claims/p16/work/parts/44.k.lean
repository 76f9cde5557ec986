set_option maxHeartbeats 4000000 in
theorem T_M_mendTables (w : am_MS) (mf : Int32) (h0_ : 0 ≤ w.2.2.2.2.1) (h1_ : w.2.2.2.2.1 ≤ 26) (h2_ : ta 0 255 w.2.2.2.2.2.2.2.1) (h3_ : ta 0 2224 w.2.2.2.2.2.2.2.2) : ∃ r : am_MS × Int32, f_M_mendTables w mf = some r ∧ 0 ≤ r.1.2.2.2.2.1 ∧ r.1.2.2.2.2.1 ≤ 26 ∧ ta 0 255 r.1.2.2.2.2.2.2.2.1 ∧ ta 0 2224 r.1.2.2.2.2.2.2.2.2 ∧ tT 64 r.1 := by
  rw [f_M_mendTables]
  exact T_M_mendTables_L2 100000000000 w mf 0 (by (first | assumption | (dsimp only; first | assumption | grind) | grind)) (by (first | assumption | (dsimp only; first | assumption | grind) | grind)) (by assumption) (by assumption) (by (first | assumption | (dsimp only; first | assumption | grind) | grind)) (tmz _ _)
set_option maxHeartbeats 4000000 in
theorem T_M_follow_L4 : ∀ (fuel : Nat) (w : am_MS) (mf : Int32) (mu : Nat → Int32) (ch : Nat → Int32) (x2 : Int32) (x3 : Int32), 0 ≤ w.2.2.2.2.1 → w.2.2.2.2.1 ≤ 26 → ta 0 255 w.2.2.2.2.2.2.2.1 → ta 0 2224 w.2.2.2.2.2.2.2.2 → ta 0 63 ch → 0 ≤ x2 → tT 64 w → (x3 = 0 ∨ 1 ≤ x3 ∧ x3 ≤ 63 ∧ mu x3.toNatClampNeg = 0) → tu mu x2 → tm 64 x2 fuel → ∃ r : Int32 × am_MS × Int32 × (Nat → Int32) × (Nat → Int32), f_M_follow_L4 fuel w mf mu ch x2 x3 = some r ∧ 0 ≤ r.2.1.2.2.2.2.1 ∧ r.2.1.2.2.2.2.1 ≤ 26 ∧ ta 0 255 r.2.1.2.2.2.2.2.2.2.1 ∧ ta 0 2224 r.2.1.2.2.2.2.2.2.2.2 ∧ ta 0 63 r.2.2.2.2 ∧ 0 ≤ r.1 ∧ r.1 ≤ 64 ∧ tT 64 r.2.1 ∧ th w r.2.1 := by
  intro fuel
  induction fuel with
  | zero =>
    intro w mf mu ch x2 x3 h0_ h1_ h2_ h3_ h4_ h5_ h6_ h7_ h8_ hm
    exact (tm0 hm).elim
  | succ fuel ih =>
    intro w mf mu ch x2 x3 h0_ h1_ h2_ h3_ h4_ h5_ h6_ h7_ h8_ hm
    rw [f_M_follow_L4]
    have hu9 : tu mu x2 := by assumption
    have hl9 := tu_le hu9
    have hc9 : x3 = 0 ∨ 1 ≤ x3 ∧ x3 ≤ 63 ∧ mu x3.toNatClampNeg = 0 := by assumption
    have hx9 : ¬ x3 ≤ 0 → x2 < 64 := fun hz => tu_lt (y := x3) hu9 (by clear ih hm; grind) (by clear ih hm; grind) (by clear ih hm; grind)
    have hT9 : tT 64 w := by assumption
    have ht9 : w.2.1 = 0 → ¬ x3 ≤ 0 → ce w.2.2.2.2.2.2.2.1 x3.toNatClampNeg ≤ 63 ∨ ce w.2.2.2.2.2.2.2.1 x3.toNatClampNeg = 65535 := fun hz hz2 => hT9 hz _ (tcl64 (by clear ih hm; grind) (by clear ih hm; grind))
    by_cases q1 : x3 ≤ 0
    · refine pu_pos q1 ?_
      exact ⟨_, rfl, (by (try clear ih); (first | assumption | (dsimp only; first | assumption | grind) | grind)), (by (try clear ih); (first | assumption | (dsimp only; first | assumption | grind) | grind)), (by assumption), (by assumption), (by assumption), (by (try clear ih); (first | assumption | (dsimp only; first | assumption | grind) | grind)), (by (try clear ih); (first | assumption | (dsimp only; first | assumption | grind) | grind)), (by first | assumption | exact tT_d (by assumption) | exact tT_s (by assumption) (Nat.le_refl _) (by assumption) | exact tT_k (by assumption) (Nat.le_refl _) (by assumption) | exact tT_k (tn_x (by assumption) (by (try clear ih); (first | assumption | (dsimp only; first | assumption | grind) | grind))) (Nat.le_refl _) (by assumption) | exact tT_e (by assumption) (by assumption) (by assumption)), (by first | exact th_r | assumption | exact th_s (by assumption))⟩
    · refine pu_neg q1 ?_
      by_cases q2 : w.2.1 = 0
      · refine pu_pos q2 ?_
        refine pu_pos (ti 64 (by (try clear ih); (first | assumption | (dsimp only; first | assumption | grind) | grind)) (by (try clear ih); (first | assumption | (dsimp only; first | assumption | grind) | grind)) rfl) ?_
        refine pu_pos (ti 64 (by (try clear ih); (first | assumption | (dsimp only; first | assumption | grind) | grind)) (by (try clear ih); (first | assumption | (dsimp only; first | assumption | grind) | grind)) rfl) ?_
        obtain ⟨r5, h3, p4, p5, p6⟩ := T_M_cell w.2.2.2.2.2.2.2.1 x3 (by assumption) (by (try clear ih); (first | assumption | (dsimp only; first | assumption | grind) | grind)) (by (try clear ih); (first | assumption | (dsimp only; first | assumption | grind) | grind))
        refine pu_bind h3 ?_
        clear h3
        by_cases q7 : r5 = 65535
        · refine pu_pos q7 ?_
          exact ih w mf (upd mu x3.toNatClampNeg (vp_nar .boolean 1)) (upd ch x2.toNatClampNeg x3) (x2 + 1) 0 (by (try clear ih); (first | assumption | (dsimp only; first | assumption | grind) | grind)) (by (try clear ih); (first | assumption | (dsimp only; first | assumption | grind) | grind)) (by assumption) (by assumption) (ta_upd (by assumption) (by (try clear ih); (first | assumption | (dsimp only; first | assumption | grind) | grind)) (by (try clear ih); (first | assumption | (dsimp only; first | assumption | grind) | grind))) (by (try clear ih); (first | assumption | (dsimp only; first | assumption | grind) | grind)) (by first | assumption | exact tT_d (by assumption) | exact tT_s (by assumption) (Nat.le_refl _) (by assumption) | exact tT_k (by assumption) (Nat.le_refl _) (by assumption) | exact tT_k (tn_x (by assumption) (by (try clear ih); (first | assumption | (dsimp only; first | assumption | grind) | grind))) (Nat.le_refl _) (by assumption) | exact tT_e (by assumption) (by assumption) (by assumption)) (by (try clear ih); (first | assumption | (dsimp only; first | assumption | grind) | grind)) (by exact tu_s hu9 (by (try clear ih); (first | assumption | (dsimp only; first | assumption | grind) | grind)) (by (try clear ih); (first | assumption | (dsimp only; first | assumption | grind) | grind)) (by (try clear ih); (first | assumption | (dsimp only; first | assumption | grind) | grind))) (tm1 (by (try clear ih); (first | assumption | (dsimp only; first | assumption | grind) | grind)) hm)
        · refine pu_neg q7 ?_
          obtain ⟨r11, h8, p9, p10, p11⟩ := T_M_cell w.2.2.2.2.2.2.2.1 r5 (by assumption) (by (try clear ih); (first | assumption | (dsimp only; first | assumption | grind) | grind)) (by (try clear ih); (first | assumption | (dsimp only; first | assumption | grind) | grind))
          refine pu_bind h8 ?_
          clear h8
          by_cases q12 : r11 = 0
          · refine pu_pos q12 ?_
            obtain ⟨r16, h13, p14, p15, p16, p17, p18⟩ := T_M_fix w mf x3 65535 (by (try clear ih); (first | assumption | (dsimp only; first | assumption | grind) | grind)) (by (try clear ih); (first | assumption | (dsimp only; first | assumption | grind) | grind)) (by assumption) (by assumption) (by (try clear ih); (first | assumption | (dsimp only; first | assumption | grind) | grind)) (by (try clear ih); (first | assumption | (dsimp only; first | assumption | grind) | grind))
            refine pu_bind h13 ?_
            clear h13
            obtain ⟨z19, e20, q21, q22, q23, q24, q25, q26, q27, q28, q29⟩ := ih r16.1 r16.2 (upd mu x3.toNatClampNeg (vp_nar .boolean 1)) (upd ch x2.toNatClampNeg x3) (x2 + 1) 0 (by (try clear ih); (first | assumption | (dsimp only; first | assumption | grind) | grind)) (by (try clear ih); (first | assumption | (dsimp only; first | assumption | grind) | grind)) (by assumption) (by assumption) (ta_upd (by assumption) (by (try clear ih); (first | assumption | (dsimp only; first | assumption | grind) | grind)) (by (try clear ih); (first | assumption | (dsimp only; first | assumption | grind) | grind))) (by (try clear ih); (first | assumption | (dsimp only; first | assumption | grind) | grind)) (by first | assumption | exact tT_d (by assumption) | exact tT_s (by assumption) (Nat.le_refl _) (by assumption) | exact tT_k (by assumption) (Nat.le_refl _) (by assumption) | exact tT_k (tn_x (by assumption) (by (try clear ih); (first | assumption | (dsimp only; first | assumption | grind) | grind))) (Nat.le_refl _) (by assumption) | exact tT_e (by assumption) (by assumption) (by assumption)) (by (try clear ih); (first | assumption | (dsimp only; first | assumption | grind) | grind)) (by exact tu_s hu9 (by (try clear ih); (first | assumption | (dsimp only; first | assumption | grind) | grind)) (by (try clear ih); (first | assumption | (dsimp only; first | assumption | grind) | grind)) (by (try clear ih); (first | assumption | (dsimp only; first | assumption | grind) | grind))) (tm1 (by (try clear ih); (first | assumption | (dsimp only; first | assumption | grind) | grind)) hm)
            exact ⟨z19, e20, q21, q22, q23, q24, q25, q26, q27, q28, (th_t (by first | exact th_r | assumption | exact th_s (by assumption)) q29)⟩
          · refine pu_neg q12 ?_
            refine pu_pos (ti 64 (by (try clear ih); (first | assumption | (dsimp only; first | assumption | grind) | grind)) (by (try clear ih); (first | assumption | (dsimp only; first | assumption | grind) | grind)) rfl) ?_
            by_cases q30 : ((upd mu x3.toNatClampNeg (vp_nar .boolean 1)) r5.toNatClampNeg) = 0
            · refine pu_pos q30 ?_
              exact ih w mf (upd mu x3.toNatClampNeg (vp_nar .boolean 1)) (upd ch x2.toNatClampNeg x3) (x2 + 1) r5 (by (try clear ih); (first | assumption | (dsimp only; first | assumption | grind) | grind)) (by (try clear ih); (first | assumption | (dsimp only; first | assumption | grind) | grind)) (by assumption) (by assumption) (ta_upd (by assumption) (by (try clear ih); (first | assumption | (dsimp only; first | assumption | grind) | grind)) (by (try clear ih); (first | assumption | (dsimp only; first | assumption | grind) | grind))) (by (try clear ih); (first | assumption | (dsimp only; first | assumption | grind) | grind)) (by first | assumption | exact tT_d (by assumption) | exact tT_s (by assumption) (Nat.le_refl _) (by assumption) | exact tT_k (by assumption) (Nat.le_refl _) (by assumption) | exact tT_k (tn_x (by assumption) (by (try clear ih); (first | assumption | (dsimp only; first | assumption | grind) | grind))) (Nat.le_refl _) (by assumption) | exact tT_e (by assumption) (by assumption) (by assumption)) (by (try clear ih); (first | assumption | (dsimp only; first | assumption | grind) | grind)) (by exact tu_s hu9 (by (try clear ih); (first | assumption | (dsimp only; first | assumption | grind) | grind)) (by (try clear ih); (first | assumption | (dsimp only; first | assumption | grind) | grind)) (by (try clear ih); (first | assumption | (dsimp only; first | assumption | grind) | grind))) (tm1 (by (try clear ih); (first | assumption | (dsimp only; first | assumption | grind) | grind)) hm)
            · refine pu_neg q30 ?_
              obtain ⟨r23, h31, p32, p33, p34, p35, p36⟩ := T_M_fix w mf x3 65535 (by (try clear ih); (first | assumption | (dsimp only; first | assumption | grind) | grind)) (by (try clear ih); (first | assumption | (dsimp only; first | assumption | grind) | grind)) (by assumption) (by assumption) (by (try clear ih); (first | assumption | (dsimp only; first | assumption | grind) | grind)) (by (try clear ih); (first | assumption | (dsimp only; first | assumption | grind) | grind))
              refine pu_bind h31 ?_
              clear h31
              obtain ⟨z37, e38, q39, q40, q41, q42, q43, q44, q45, q46, q47⟩ := ih r23.1 r23.2 (upd mu x3.toNatClampNeg (vp_nar .boolean 1)) (upd ch x2.toNatClampNeg x3) (x2 + 1) 0 (by (try clear ih); (first | assumption | (dsimp only; first | assumption | grind) | grind)) (by (try clear ih); (first | assumption | (dsimp only; first | assumption | grind) | grind)) (by assumption) (by assumption) (ta_upd (by assumption) (by (try clear ih); (first | assumption | (dsimp only; first | assumption | grind) | grind)) (by (try clear ih); (first | assumption | (dsimp only; first | assumption | grind) | grind))) (by (try clear ih); (first | assumption | (dsimp only; first | assumption | grind) | grind)) (by first | assumption | exact tT_d (by assumption) | exact tT_s (by assumption) (Nat.le_refl _) (by assumption) | exact tT_k (by assumption) (Nat.le_refl _) (by assumption) | exact tT_k (tn_x (by assumption) (by (try clear ih); (first | assumption | (dsimp only; first | assumption | grind) | grind))) (Nat.le_refl _) (by assumption) | exact tT_e (by assumption) (by assumption) (by assumption)) (by (try clear ih); (first | assumption | (dsimp only; first | assumption | grind) | grind)) (by exact tu_s hu9 (by (try clear ih); (first | assumption | (dsimp only; first | assumption | grind) | grind)) (by (try clear ih); (first | assumption | (dsimp only; first | assumption | grind) | grind)) (by (try clear ih); (first | assumption | (dsimp only; first | assumption | grind) | grind))) (tm1 (by (try clear ih); (first | assumption | (dsimp only; first | assumption | grind) | grind)) hm)
              exact ⟨z37, e38, q39, q40, q41, q42, q43, q44, q45, q46, (th_t (by first | exact th_r | assumption | exact th_s (by assumption)) q47)⟩
      · refine pu_neg q2 ?_
        exact ⟨_, rfl, (by (try clear ih); (first | assumption | (dsimp only; first | assumption | grind) | grind)), (by (try clear ih); (first | assumption | (dsimp only; first | assumption | grind) | grind)), (by assumption), (by assumption), (by assumption), (by (try clear ih); (first | assumption | (dsimp only; first | assumption | grind) | grind)), (by (try clear ih); (first | assumption | (dsimp only; first | assumption | grind) | grind)), (by first | assumption | exact tT_d (by assumption) | exact tT_s (by assumption) (Nat.le_refl _) (by assumption) | exact tT_k (by assumption) (Nat.le_refl _) (by assumption) | exact tT_k (tn_x (by assumption) (by (try clear ih); (first | assumption | (dsimp only; first | assumption | grind) | grind))) (Nat.le_refl _) (by assumption) | exact tT_e (by assumption) (by assumption) (by assumption)), (by first | exact th_r | assumption | exact th_s (by assumption))⟩
set_option maxHeartbeats 4000000 in
theorem T_M_follow (w : am_MS) (mf : Int32) (mu : Nat → Int32) (ch : Nat → Int32) (x1 : Int32) (h0_ : 0 ≤ w.2.2.2.2.1) (h1_ : w.2.2.2.2.1 ≤ 26) (h2_ : ta 0 255 w.2.2.2.2.2.2.2.1) (h3_ : ta 0 2224 w.2.2.2.2.2.2.2.2) (h4_ : ta 0 63 ch) (h5_ : tT 64 w) (h6_ : (x1 = 0 ∨ 1 ≤ x1 ∧ x1 ≤ 63 ∧ mu x1.toNatClampNeg = 0)) : ∃ r : Int32 × am_MS × Int32 × (Nat → Int32) × (Nat → Int32), f_M_follow w mf mu ch x1 = some r ∧ 0 ≤ r.2.1.2.2.2.2.1 ∧ r.2.1.2.2.2.2.1 ≤ 26 ∧ ta 0 255 r.2.1.2.2.2.2.2.2.2.1 ∧ ta 0 2224 r.2.1.2.2.2.2.2.2.2.2 ∧ ta 0 63 r.2.2.2.2 ∧ 0 ≤ r.1 ∧ r.1 ≤ 64 ∧ tT 64 r.2.1 ∧ th w r.2.1 := by
  rw [f_M_follow]
  exact T_M_follow_L4 100000000000 w mf mu ch 0 x1 (by (first | assumption | (dsimp only; first | assumption | grind) | grind)) (by (first | assumption | (dsimp only; first | assumption | grind) | grind)) (by assumption) (by assumption) (by assumption) (by (first | assumption | (dsimp only; first | assumption | grind) | grind)) (by first | assumption | exact tT_d (by assumption) | exact tT_s (by assumption) (Nat.le_refl _) (by assumption) | exact tT_k (by assumption) (Nat.le_refl _) (by assumption) | exact tT_k (tn_x (by assumption) (by (first | assumption | (dsimp only; first | assumption | grind) | grind))) (Nat.le_refl _) (by assumption) | exact tT_e (by assumption) (by assumption) (by assumption)) (by (first | assumption | (dsimp only; first | assumption | grind) | grind)) (by exact tu_0 _) (tmz _ _)
set_option maxHeartbeats 4000000 in
theorem T_M_tells (dk : Nat → Int32) (x1 : Int32) (x2 : Int32) (h0_ : ta 0 255 dk) : ∃ r : Int32, f_M_tells dk x1 x2 = some r ∧ (r = 0 ∨ r = 1) := by
  rw [f_M_tells]
  obtain ⟨r1, h1, p2, p3, p4⟩ := T_M_length dk x1 (by assumption)
  refine pu_bind h1 ?_
  clear h1
  obtain ⟨r3, h5, p6, p7, p8⟩ := T_M_place dk x1 x2 (by assumption)
  refine pu_bind h5 ?_
  clear h5
  refine pu_pos (ti 2240 (by (first | assumption | (dsimp only; first | assumption | grind) | grind)) (by (first | assumption | (dsimp only; first | assumption | grind) | grind)) rfl) ?_
  have a9 := ((by assumption) : ta 0 255 dk) (r3 + 6).toNatClampNeg
  by_cases q10 : (dk (r3 + 6).toNatClampNeg) = 15
  · refine pu_pos q10 ?_
    by_cases q11 : (2 * r1) ≤ (x2 + 1)
    · refine pu_pos q11 ?_
      by_cases q12 : (2 * r1) ≤ (x2 + 2)
      · refine pu_pos q12 ?_
        exact ⟨_, rfl, (by (first | assumption | (dsimp only; first | assumption | grind) | grind))⟩
      · refine pu_neg q12 ?_
        obtain ⟨r9, h13, p14, p15⟩ := T_M_partsOf dk x1 (x2 + 2) (by assumption)
        refine pu_bind h13 ?_
        clear h13
        by_cases q16 : r9 = 2
        · refine pu_pos q16 ?_
          exact ⟨_, rfl, (by (first | assumption | (dsimp only; first | assumption | grind) | grind))⟩
        · refine pu_neg q16 ?_
          exact ⟨_, rfl, (by (first | assumption | (dsimp only; first | assumption | grind) | grind))⟩
    · refine pu_neg q11 ?_
      obtain ⟨r12, h17, p18, p19⟩ := T_M_partsOf dk x1 (x2 + 1) (by assumption)
      refine pu_bind h17 ?_
      clear h17
      by_cases q20 : 0 < r12
      · refine pu_pos q20 ?_
        exact ⟨_, rfl, (by (first | assumption | (dsimp only; first | assumption | grind) | grind))⟩
      · refine pu_neg q20 ?_
        by_cases q21 : (2 * r1) ≤ (x2 + 2)
        · refine pu_pos q21 ?_
          exact ⟨_, rfl, (by (first | assumption | (dsimp only; first | assumption | grind) | grind))⟩
        · refine pu_neg q21 ?_
          obtain ⟨r16, h22, p23, p24⟩ := T_M_partsOf dk x1 (x2 + 2) (by assumption)
          refine pu_bind h22 ?_
          clear h22
          by_cases q25 : r16 = 2
          · refine pu_pos q25 ?_
            exact ⟨_, rfl, (by (first | assumption | (dsimp only; first | assumption | grind) | grind))⟩
          · refine pu_neg q25 ?_
            exact ⟨_, rfl, (by (first | assumption | (dsimp only; first | assumption | grind) | grind))⟩
  · refine pu_neg q10 ?_
    exact ⟨_, rfl, (by (first | assumption | (dsimp only; first | assumption | grind) | grind))⟩
set_option maxHeartbeats 4000000 in
theorem T_M_isBad (dk : Nat → Int32) (mu : Nat → Int32) (x1 : Int32) (x2 : Int32) (h0_ : ta 0 255 dk) (h1_ : 176 ≤ x1) (h2_ : x1 ≤ 2224) : ∃ r : Int32, f_M_isBad dk mu x1 x2 = some r ∧ (r = 0 ∨ r = 1) ∧ (r = 0 → (dk (x1 + 8).toNatClampNeg + 256 * dk ((x1 + 8) + 1).toNatClampNeg = 0 ∨ 2 ≤ dk (x1 + 8).toNatClampNeg + 256 * dk ((x1 + 8) + 1).toNatClampNeg ∧ dk (x1 + 8).toNatClampNeg + 256 * dk ((x1 + 8) + 1).toNatClampNeg ≤ 63 ∧ mu (dk (x1 + 8).toNatClampNeg + 256 * dk ((x1 + 8) + 1).toNatClampNeg).toNatClampNeg = 0) ∧ (dk (x1 + 6).toNatClampNeg = 1 ∨ dk (x1 + 6).toNatClampNeg = 2 ∧ ¬ x2 = 4 ∧ ¬ dk (x1 + 8).toNatClampNeg + 256 * dk ((x1 + 8) + 1).toNatClampNeg = 0)) := by
  rw [f_M_isBad]
  refine pu_pos (ti 2240 (by (first | assumption | (dsimp only; first | assumption | grind) | grind)) (by (first | assumption | (dsimp only; first | assumption | grind) | grind)) rfl) ?_
  obtain ⟨r2, h1, p2, p3, p4⟩ := T_M_numberAt dk (x1 + 8) (by assumption) (by (first | assumption | (dsimp only; first | assumption | grind) | grind)) (by (first | assumption | (dsimp only; first | assumption | grind) | grind))
  refine pu_bind h1 ?_
  clear h1
  have a5 := ((by assumption) : ta 0 255 dk) (x1 + 6).toNatClampNeg
  obtain ⟨r4, h6, p7⟩ := T_M_in (dk (x1 + 6).toNatClampNeg) 1 2 
  refine pu_bind h6 ?_
  clear h6
  by_cases q8 : r4 = 0
  · refine pu_pos q8 ?_
    exact ⟨_, rfl, (by (first | assumption | (dsimp only; first | assumption | grind) | grind)), (by (first | assumption | (dsimp only; first | assumption | grind) | grind))⟩
  · refine pu_neg q8 ?_
    by_cases q9 : r2 = 1
    · refine pu_pos q9 ?_
      exact ⟨_, rfl, (by (first | assumption | (dsimp only; first | assumption | grind) | grind)), (by (first | assumption | (dsimp only; first | assumption | grind) | grind))⟩
    · refine pu_neg q9 ?_
      by_cases q10 : 63 < r2
      · refine pu_pos q10 ?_
        exact ⟨_, rfl, (by (first | assumption | (dsimp only; first | assumption | grind) | grind)), (by (first | assumption | (dsimp only; first | assumption | grind) | grind))⟩
      · refine pu_neg q10 ?_
        by_cases q11 : r2 ≤ 1
        · refine pu_pos q11 ?_
          by_cases q12 : (dk (x1 + 6).toNatClampNeg) = 2
          · refine pu_pos q12 ?_
            by_cases q13 : r2 = 0
            · refine pu_pos q13 ?_
              exact ⟨_, rfl, (by (first | assumption | (dsimp only; first | assumption | grind) | grind)), (by (first | assumption | (dsimp only; first | assumption | grind) | grind))⟩
            · refine pu_neg q13 ?_
              by_cases q14 : x2 = 4
              · refine pu_pos q14 ?_
                exact ⟨_, rfl, (by (first | assumption | (dsimp only; first | assumption | grind) | grind)), (by (first | assumption | (dsimp only; first | assumption | grind) | grind))⟩
              · refine pu_neg q14 ?_
                exact ⟨_, rfl, (by (first | assumption | (dsimp only; first | assumption | grind) | grind)), (by (first | assumption | (dsimp only; first | assumption | grind) | grind))⟩
          · refine pu_neg q12 ?_
            exact ⟨_, rfl, (by (first | assumption | (dsimp only; first | assumption | grind) | grind)), (by (first | assumption | (dsimp only; first | assumption | grind) | grind))⟩
        · refine pu_neg q11 ?_
          obtain ⟨r17, h15, p16, p17, p18⟩ := T_M_cell dk r2 (by assumption) (by (first | assumption | (dsimp only; first | assumption | grind) | grind)) (by (first | assumption | (dsimp only; first | assumption | grind) | grind))
          refine pu_bind h15 ?_
          clear h15
          by_cases q19 : r17 = 0
          · refine pu_pos q19 ?_
            exact ⟨_, rfl, (by (first | assumption | (dsimp only; first | assumption | grind) | grind)), (by (first | assumption | (dsimp only; first | assumption | grind) | grind))⟩
          · refine pu_neg q19 ?_
            refine pu_pos (ti 64 (by (first | assumption | (dsimp only; first | assumption | grind) | grind)) (by (first | assumption | (dsimp only; first | assumption | grind) | grind)) rfl) ?_
            by_cases q20 : (mu r2.toNatClampNeg) = 0
            · refine pu_pos q20 ?_
              by_cases q21 : (dk (x1 + 6).toNatClampNeg) = 2
              · refine pu_pos q21 ?_
                by_cases q22 : r2 = 0
                · refine pu_pos q22 ?_
                  exact ⟨_, rfl, (by (first | assumption | (dsimp only; first | assumption | grind) | grind)), (by (first | assumption | (dsimp only; first | assumption | grind) | grind))⟩
                · refine pu_neg q22 ?_
                  by_cases q23 : x2 = 4
                  · refine pu_pos q23 ?_
                    exact ⟨_, rfl, (by (first | assumption | (dsimp only; first | assumption | grind) | grind)), (by (first | assumption | (dsimp only; first | assumption | grind) | grind))⟩
                  · refine pu_neg q23 ?_
                    exact ⟨_, rfl, (by (first | assumption | (dsimp only; first | assumption | grind) | grind)), (by (first | assumption | (dsimp only; first | assumption | grind) | grind))⟩
              · refine pu_neg q21 ?_
                exact ⟨_, rfl, (by (first | assumption | (dsimp only; first | assumption | grind) | grind)), (by (first | assumption | (dsimp only; first | assumption | grind) | grind))⟩
            · refine pu_neg q20 ?_
              exact ⟨_, rfl, (by (first | assumption | (dsimp only; first | assumption | grind) | grind)), (by (first | assumption | (dsimp only; first | assumption | grind) | grind))⟩
set_option maxHeartbeats 4000000 in
theorem T_M_mendFile_L50 : ∀ (fuel : Nat) (w : am_MS) (mf : Int32) (mu : Nat → Int32) (ch : Nat → Int32) (x1 : Int32) (x2 : Int32) (x3 : Int32) (x4 : Int32), 0 ≤ w.2.2.2.2.1 → w.2.2.2.2.1 ≤ 26 → ta 0 255 w.2.2.2.2.2.2.2.1 → ta 0 2224 w.2.2.2.2.2.2.2.2 → ta 0 63 ch → 0 ≤ x4 → 176 ≤ x1 → x1 ≤ 2224 → x2 ≤ 64 → 0 ≤ x3 → x3 ≤ 64 → tT 64 w → tm x2 x4 fuel → ∃ r : am_MS × Int32 × (Nat → Int32), f_M_mendFile_L50 fuel w mf mu ch x1 x2 x3 x4 = some r ∧ 0 ≤ r.1.2.2.2.2.1 ∧ r.1.2.2.2.2.1 ≤ 26 ∧ ta 0 255 r.1.2.2.2.2.2.2.2.1 ∧ ta 0 2224 r.1.2.2.2.2.2.2.2.2 ∧ tT 64 r.1 := by
  intro fuel
  induction fuel with
  | zero =>
    intro w mf mu ch x1 x2 x3 x4 h0_ h1_ h2_ h3_ h4_ h5_ h6_ h7_ h8_ h9_ h10_ h11_ hm
    exact (tm0 hm).elim
  | succ fuel ih =>
    intro w mf mu ch x1 x2 x3 x4 h0_ h1_ h2_ h3_ h4_ h5_ h6_ h7_ h8_ h9_ h10_ h11_ hm
    rw [f_M_mendFile_L50]
    by_cases q1 : x2 ≤ x4
    · refine pu_pos q1 ?_
      by_cases q2 : x3 ≤ 0
      · refine pu_pos q2 ?_
        obtain ⟨r7, h3, p4, p5, p6, p7, p8⟩ := T_M_writeNumber w (x1 + 8) 0 (by (try clear ih); (first | assumption | (dsimp only; first | assumption | grind) | grind)) (by (try clear ih); (first | assumption | (dsimp only; first | assumption | grind) | grind)) (by assumption) (by assumption) (by (try clear ih); (first | assumption | (dsimp only; first | assumption | grind) | grind)) (by (try clear ih); (first | assumption | (dsimp only; first | assumption | grind) | grind))
        refine pu_bind h3 ?_
        clear h3
        exact ⟨_, rfl, (by (try clear ih); (first | assumption | (dsimp only; first | assumption | grind) | grind)), (by (try clear ih); (first | assumption | (dsimp only; first | assumption | grind) | grind)), (by assumption), (by assumption), (by first | assumption | exact tT_d (by assumption) | exact tT_s (by assumption) (Nat.le_refl _) (by assumption) | exact tT_k (by assumption) (Nat.le_refl _) (by assumption) | exact tT_k (tn_x (by assumption) (by (try clear ih); (first | assumption | (dsimp only; first | assumption | grind) | grind))) (Nat.le_refl _) (by assumption) | exact tT_e (by assumption) (by assumption) (by assumption))⟩
      · refine pu_neg q2 ?_
        refine pu_pos (ti 64 (by (try clear ih); (first | assumption | (dsimp only; first | assumption | grind) | grind)) (by (try clear ih); (first | assumption | (dsimp only; first | assumption | grind) | grind)) rfl) ?_
        have a9 := ((by assumption) : ta 0 63 ch) (x3 - 1).toNatClampNeg
        obtain ⟨r10, h10, p11, p12, p13, p14, p15⟩ := T_M_fix w mf (ch (x3 - 1).toNatClampNeg) 65535 (by (try clear ih); (first | assumption | (dsimp only; first | assumption | grind) | grind)) (by (try clear ih); (first | assumption | (dsimp only; first | assumption | grind) | grind)) (by assumption) (by assumption) (by (try clear ih); (first | assumption | (dsimp only; first | assumption | grind) | grind)) (by (try clear ih); (first | assumption | (dsimp only; first | assumption | grind) | grind))
        refine pu_bind h10 ?_
        clear h10
        exact ⟨_, rfl, (by (try clear ih); (first | assumption | (dsimp only; first | assumption | grind) | grind)), (by (try clear ih); (first | assumption | (dsimp only; first | assumption | grind) | grind)), (by assumption), (by assumption), (by first | assumption | exact tT_d (by assumption) | exact tT_s (by assumption) (Nat.le_refl _) (by assumption) | exact tT_k (by assumption) (Nat.le_refl _) (by assumption) | exact tT_k (tn_x (by assumption) (by (try clear ih); (first | assumption | (dsimp only; first | assumption | grind) | grind))) (Nat.le_refl _) (by assumption) | exact tT_e (by assumption) (by assumption) (by assumption))⟩
    · refine pu_neg q1 ?_
      refine pu_pos (ti 64 (by (try clear ih); (first | assumption | (dsimp only; first | assumption | grind) | grind)) (by (try clear ih); (first | assumption | (dsimp only; first | assumption | grind) | grind)) rfl) ?_
      have a16 := ((by assumption) : ta 0 63 ch) x4.toNatClampNeg
      refine pu_pos (ti 64 (by (try clear ih); (first | assumption | (dsimp only; first | assumption | grind) | grind)) (by (try clear ih); (first | assumption | (dsimp only; first | assumption | grind) | grind)) rfl) ?_
      exact ih w mf (upd mu (ch x4.toNatClampNeg).toNatClampNeg (vp_nar .boolean 0)) ch x1 x2 x3 (x4 + 1) (by (try clear ih); (first | assumption | (dsimp only; first | assumption | grind) | grind)) (by (try clear ih); (first | assumption | (dsimp only; first | assumption | grind) | grind)) (by assumption) (by assumption) (by assumption) (by (try clear ih); (first | assumption | (dsimp only; first | assumption | grind) | grind)) (by (try clear ih); (first | assumption | (dsimp only; first | assumption | grind) | grind)) (by (try clear ih); (first | assumption | (dsimp only; first | assumption | grind) | grind)) (by (try clear ih); (first | assumption | (dsimp only; first | assumption | grind) | grind)) (by (try clear ih); (first | assumption | (dsimp only; first | assumption | grind) | grind)) (by (try clear ih); (first | assumption | (dsimp only; first | assumption | grind) | grind)) (by first | assumption | exact tT_d (by assumption) | exact tT_s (by assumption) (Nat.le_refl _) (by assumption) | exact tT_k (by assumption) (Nat.le_refl _) (by assumption) | exact tT_k (tn_x (by assumption) (by (try clear ih); (first | assumption | (dsimp only; first | assumption | grind) | grind))) (Nat.le_refl _) (by assumption) | exact tT_e (by assumption) (by assumption) (by assumption)) (tm1 (by (try clear ih); (first | assumption | (dsimp only; first | assumption | grind) | grind)) hm)
