set_option maxHeartbeats 4000000 in
theorem T_M_isEmpty_L4 : ∀ (fuel : Nat) (dk : Nat → Int32) (x1 : Int32) (x2 : Int32) (x3 : Int32), ta 0 255 dk → 0 ≤ x3 → (x2 = 0 ∨ x2 = 1) → tm 128 x3 fuel → ∃ r : Int32, f_M_isEmpty_L4 fuel dk x1 x2 x3 = some r ∧ (r = 0 ∨ r = 1) := by
  intro fuel
  induction fuel with
  | zero =>
    intro dk x1 x2 x3 h0_ h1_ h2_ hm
    exact (tm0 hm).elim
  | succ fuel ih =>
    intro dk x1 x2 x3 h0_ h1_ h2_ hm
    rw [f_M_isEmpty_L4]
    obtain ⟨r1, h1, p2, p3, p4⟩ := T_M_length dk x1 (by assumption)
    refine pu_bind h1 ?_
    clear h1
    by_cases q5 : (2 * r1) ≤ x3
    · refine pu_pos q5 ?_
      refine pu_pos (tb (by (try clear ih); (first | assumption | (dsimp only; first | assumption | grind) | grind))) ?_
      exact ⟨_, rfl, (by (try clear ih); (first | assumption | (dsimp only; first | assumption | grind) | grind))⟩
    · refine pu_neg q5 ?_
      by_cases q6 : x2 = 0
      · refine pu_pos q6 ?_
        exact ih dk x1 0 (x3 + 1) (by assumption) (by (try clear ih); (first | assumption | (dsimp only; first | assumption | grind) | grind)) (by (try clear ih); (first | assumption | (dsimp only; first | assumption | grind) | grind)) (tm1 (by (try clear ih); (first | assumption | (dsimp only; first | assumption | grind) | grind)) hm)
      · refine pu_neg q6 ?_
        obtain ⟨r6, h7, p8, p9, p10⟩ := T_M_place dk x1 x3 (by assumption)
        refine pu_bind h7 ?_
        clear h7
        obtain ⟨r8, h11, p12⟩ := T_M_isFree dk r6 (by assumption) (by (try clear ih); (first | assumption | (dsimp only; first | assumption | grind) | grind)) (by (try clear ih); (first | assumption | (dsimp only; first | assumption | grind) | grind))
        refine pu_bind h11 ?_
        clear h11
        by_cases q13 : r8 = 0
        · refine pu_pos q13 ?_
          exact ih dk x1 0 (x3 + 1) (by assumption) (by (try clear ih); (first | assumption | (dsimp only; first | assumption | grind) | grind)) (by (try clear ih); (first | assumption | (dsimp only; first | assumption | grind) | grind)) (tm1 (by (try clear ih); (first | assumption | (dsimp only; first | assumption | grind) | grind)) hm)
        · refine pu_neg q13 ?_
          exact ih dk x1 1 (x3 + 1) (by assumption) (by (try clear ih); (first | assumption | (dsimp only; first | assumption | grind) | grind)) (by (try clear ih); (first | assumption | (dsimp only; first | assumption | grind) | grind)) (tm1 (by (try clear ih); (first | assumption | (dsimp only; first | assumption | grind) | grind)) hm)
set_option maxHeartbeats 4000000 in
theorem T_M_isEmpty (dk : Nat → Int32) (x1 : Int32) (h0_ : ta 0 255 dk) : ∃ r : Int32, f_M_isEmpty dk x1 = some r ∧ (r = 0 ∨ r = 1) := by
  rw [f_M_isEmpty]
  exact T_M_isEmpty_L4 100000000000 dk x1 1 0 (by assumption) (by (first | assumption | (dsimp only; first | assumption | grind) | grind)) (by (first | assumption | (dsimp only; first | assumption | grind) | grind)) (tmz _ _)
set_option maxHeartbeats 4000000 in
theorem T_M_mark (w : am_MS) (x1 : Int32) (h0_ : 0 ≤ w.2.2.2.2.1) (h1_ : w.2.2.2.2.1 ≤ 26) (h2_ : ta 0 255 w.2.2.2.2.2.2.2.1) (h3_ : ta 0 2224 w.2.2.2.2.2.2.2.2) (h4_ : 128 ≤ x1) (h5_ : x1 ≤ 2239) : ∃ r : am_MS, f_M_mark w x1 = some r ∧ 0 ≤ r.2.2.2.2.1 ∧ r.2.2.2.2.1 ≤ 26 ∧ ta 0 255 r.2.2.2.2.2.2.2.1 ∧ ta 0 2224 r.2.2.2.2.2.2.2.2 ∧ tk w r := by
  rw [f_M_mark]
  obtain ⟨r1, h1, p2, p3, p4, p5, p6, p7⟩ := T_M_door w (by (first | assumption | (dsimp only; first | assumption | grind) | grind)) (by (first | assumption | (dsimp only; first | assumption | grind) | grind)) (by assumption) (by assumption)
  refine pu_bind h1 ?_
  clear h1
  by_cases q8 : r1.1 = 0
  · refine pu_pos q8 ?_
    exact ⟨_, rfl, (by (first | assumption | (dsimp only; first | assumption | grind) | grind)), (by (first | assumption | (dsimp only; first | assumption | grind) | grind)), (by assumption), (by assumption), (by first | exact tk_r | assumption | exact tk_e (by (first | assumption | (dsimp only; first | assumption | grind) | grind)) (by (first | assumption | (dsimp only; first | assumption | grind) | grind)) | exact tk_b (by (first | assumption | (dsimp only; first | assumption | grind) | grind)) (by (first | assumption | (dsimp only; first | assumption | grind) | grind)) rfl (by first | assumption | rfl) | exact tk_n (by (first | assumption | (dsimp only; first | assumption | grind) | grind)) (by (first | assumption | (dsimp only; first | assumption | grind) | grind)) (by (first | assumption | (dsimp only; first | assumption | grind) | grind)) (by assumption) (by assumption))⟩
  · refine pu_neg q8 ?_
    refine pu_pos (ti 2240 (by (first | assumption | (dsimp only; first | assumption | grind) | grind)) (by (first | assumption | (dsimp only; first | assumption | grind) | grind)) rfl) ?_
    exact ⟨_, rfl, (by (first | assumption | (dsimp only; first | assumption | grind) | grind)), (by (first | assumption | (dsimp only; first | assumption | grind) | grind)), (ta_upd (by assumption) (by (first | assumption | (dsimp only; first | assumption | grind) | grind)) (by (first | assumption | (dsimp only; first | assumption | grind) | grind))), (by assumption), (by first | exact tk_r | assumption | exact tk_e (by (first | assumption | (dsimp only; first | assumption | grind) | grind)) (by (first | assumption | (dsimp only; first | assumption | grind) | grind)) | exact tk_b (by (first | assumption | (dsimp only; first | assumption | grind) | grind)) (by (first | assumption | (dsimp only; first | assumption | grind) | grind)) rfl (by first | assumption | rfl) | exact tk_n (by (first | assumption | (dsimp only; first | assumption | grind) | grind)) (by (first | assumption | (dsimp only; first | assumption | grind) | grind)) (by (first | assumption | (dsimp only; first | assumption | grind) | grind)) (by assumption) (by assumption))⟩
set_option maxHeartbeats 4000000 in
theorem T_M_free_L9 : ∀ (fuel : Nat) (w : am_MS) (x1 : Int32) (x2 : Int32) (x3 : Int32), 0 ≤ w.2.2.2.2.1 → w.2.2.2.2.1 ≤ 26 → ta 0 255 w.2.2.2.2.2.2.2.1 → ta 0 2224 w.2.2.2.2.2.2.2.2 → x2 ≤ 1000 → tm x2 x3 fuel → ∃ r : am_MS, f_M_free_L9 fuel w x1 x2 x3 = some r ∧ 0 ≤ r.2.2.2.2.1 ∧ r.2.2.2.2.1 ≤ 26 ∧ ta 0 255 r.2.2.2.2.2.2.2.1 ∧ ta 0 2224 r.2.2.2.2.2.2.2.2 ∧ tk w r := by
  intro fuel
  induction fuel with
  | zero =>
    intro w x1 x2 x3 h0_ h1_ h2_ h3_ h4_ hm
    exact (tm0 hm).elim
  | succ fuel ih =>
    intro w x1 x2 x3 h0_ h1_ h2_ h3_ h4_ hm
    rw [f_M_free_L9]
    by_cases q1 : x2 < x3
    · refine pu_pos q1 ?_
      exact ⟨_, rfl, (by (try clear ih); (first | assumption | (dsimp only; first | assumption | grind) | grind)), (by (try clear ih); (first | assumption | (dsimp only; first | assumption | grind) | grind)), (by assumption), (by assumption), (by first | exact tk_r | assumption | exact tk_e (by (try clear ih); (first | assumption | (dsimp only; first | assumption | grind) | grind)) (by (try clear ih); (first | assumption | (dsimp only; first | assumption | grind) | grind)) | exact tk_b (by (try clear ih); (first | assumption | (dsimp only; first | assumption | grind) | grind)) (by (try clear ih); (first | assumption | (dsimp only; first | assumption | grind) | grind)) rfl (by first | assumption | rfl) | exact tk_n (by (try clear ih); (first | assumption | (dsimp only; first | assumption | grind) | grind)) (by (try clear ih); (first | assumption | (dsimp only; first | assumption | grind) | grind)) (by (try clear ih); (first | assumption | (dsimp only; first | assumption | grind) | grind)) (by assumption) (by assumption))⟩
    · refine pu_neg q1 ?_
      obtain ⟨r4, h2, p3, p4, p5⟩ := T_M_place w.2.2.2.2.2.2.2.1 x1 x3 (by assumption)
      refine pu_bind h2 ?_
      clear h2
      obtain ⟨r6, h6, p7, p8, p9, p10, p11⟩ := T_M_mark w r4 (by (try clear ih); (first | assumption | (dsimp only; first | assumption | grind) | grind)) (by (try clear ih); (first | assumption | (dsimp only; first | assumption | grind) | grind)) (by assumption) (by assumption) (by (try clear ih); (first | assumption | (dsimp only; first | assumption | grind) | grind)) (by (try clear ih); (first | assumption | (dsimp only; first | assumption | grind) | grind))
      refine pu_bind h6 ?_
      clear h6
      obtain ⟨z12, e13, q14, q15, q16, q17, q18⟩ := ih r6 x1 x2 (x3 + 1) (by (try clear ih); (first | assumption | (dsimp only; first | assumption | grind) | grind)) (by (try clear ih); (first | assumption | (dsimp only; first | assumption | grind) | grind)) (by assumption) (by assumption) (by (try clear ih); (first | assumption | (dsimp only; first | assumption | grind) | grind)) (tm2 (by (try clear ih); (first | assumption | (dsimp only; first | assumption | grind) | grind)) (by (try clear ih); (first | assumption | (dsimp only; first | assumption | grind) | grind)) hm)
      exact ⟨z12, e13, q14, q15, q16, q17, (tk_t (by first | exact tk_r | assumption | exact tk_e (by (try clear ih); (first | assumption | (dsimp only; first | assumption | grind) | grind)) (by (try clear ih); (first | assumption | (dsimp only; first | assumption | grind) | grind)) | exact tk_b (by (try clear ih); (first | assumption | (dsimp only; first | assumption | grind) | grind)) (by (try clear ih); (first | assumption | (dsimp only; first | assumption | grind) | grind)) rfl (by first | assumption | rfl) | exact tk_n (by (try clear ih); (first | assumption | (dsimp only; first | assumption | grind) | grind)) (by (try clear ih); (first | assumption | (dsimp only; first | assumption | grind) | grind)) (by (try clear ih); (first | assumption | (dsimp only; first | assumption | grind) | grind)) (by assumption) (by assumption)) q18)⟩
set_option maxHeartbeats 4000000 in
theorem T_M_free (w : am_MS) (x1 : Int32) (x2 : Int32) (h0_ : 0 ≤ w.2.2.2.2.1) (h1_ : w.2.2.2.2.1 ≤ 26) (h2_ : ta 0 255 w.2.2.2.2.2.2.2.1) (h3_ : ta 0 2224 w.2.2.2.2.2.2.2.2) (h4_ : x2 ≤ 1000) : ∃ r : am_MS, f_M_free w x1 x2 = some r ∧ 0 ≤ r.2.2.2.2.1 ∧ r.2.2.2.2.1 ≤ 26 ∧ ta 0 255 r.2.2.2.2.2.2.2.1 ∧ ta 0 2224 r.2.2.2.2.2.2.2.2 ∧ tk w r := by
  rw [f_M_free]
  obtain ⟨r1, h1, p2, p3⟩ := T_M_partsOf w.2.2.2.2.2.2.2.1 x1 x2 (by assumption)
  refine pu_bind h1 ?_
  clear h1
  exact T_M_free_L9 100000000000 w x1 x2 (x2 - r1) (by (first | assumption | (dsimp only; first | assumption | grind) | grind)) (by (first | assumption | (dsimp only; first | assumption | grind) | grind)) (by assumption) (by assumption) (by (first | assumption | (dsimp only; first | assumption | grind) | grind)) (tmz _ _)
set_option maxHeartbeats 4000000 in
theorem T_M_delete_L150 : ∀ (fuel : Nat) (w : am_MS) (th : Int32) (sp : Int32) (ml : Nat → Int32) (x3 : Int32), 0 ≤ w.2.2.2.2.1 → w.2.2.2.2.1 ≤ 26 → ta 0 255 w.2.2.2.2.2.2.2.1 → ta 0 2224 w.2.2.2.2.2.2.2.2 → ta 0 255 ml → tj w x3 fuel → ∃ r : am_MS × Int32, f_M_delete_L150 fuel w th sp ml x3 = some r ∧ 0 ≤ r.1.2.2.2.2.1 ∧ r.1.2.2.2.2.1 ≤ 26 ∧ ta 0 255 r.1.2.2.2.2.2.2.2.1 ∧ ta 0 2224 r.1.2.2.2.2.2.2.2.2 := by
  intro fuel
  induction fuel with
  | zero =>
    intro w th sp ml x3 h0_ h1_ h2_ h3_ h4_ hm
    exact absurd hm.1 (Nat.lt_irrefl _)
  | succ fuel ih =>
    intro w th sp ml x3 h0_ h1_ h2_ h3_ h4_ hm
    rw [f_M_delete_L150]
    obtain ⟨r20, h1, p2⟩ := T_M_in x3 2 63 
    refine pu_bind h1 ?_
    clear h1
    by_cases q3 : r20 = 0
    · refine pu_pos q3 ?_
      by_cases q4 : w.2.1 = 0
      · refine pu_pos q4 ?_
        exact ⟨_, rfl, (by (try clear ih); (first | assumption | (dsimp only; first | assumption | grind) | grind)), (by (try clear ih); (first | assumption | (dsimp only; first | assumption | grind) | grind)), (by assumption), (by assumption)⟩
      · refine pu_neg q4 ?_
        exact ⟨_, rfl, (by (try clear ih); (first | assumption | (dsimp only; first | assumption | grind) | grind)), (by (try clear ih); (first | assumption | (dsimp only; first | assumption | grind) | grind)), (by assumption), (by assumption)⟩
    · refine pu_neg q3 ?_
      by_cases q5 : w.2.1 = 0
      · refine pu_pos q5 ?_
        obtain ⟨r26, h6, p7, p8, p9⟩ := T_M_cell w.2.2.2.2.2.2.2.1 x3 (by assumption) (by (try clear ih); (first | assumption | (dsimp only; first | assumption | grind) | grind)) (by (try clear ih); (first | assumption | (dsimp only; first | assumption | grind) | grind))
        refine pu_bind h6 ?_
        clear h6
        obtain ⟨r28, h10, p11, p12, p13, p14, p15⟩ := T_M_set w x3 0 (by (try clear ih); (first | assumption | (dsimp only; first | assumption | grind) | grind)) (by (try clear ih); (first | assumption | (dsimp only; first | assumption | grind) | grind)) (by assumption) (by assumption) (by (try clear ih); (first | assumption | (dsimp only; first | assumption | grind) | grind)) (by (try clear ih); (first | assumption | (dsimp only; first | assumption | grind) | grind))
        refine pu_bind h10 ?_
        clear h10
        exact ih r28 th sp ml r26 (by (try clear ih); (first | assumption | (dsimp only; first | assumption | grind) | grind)) (by (try clear ih); (first | assumption | (dsimp only; first | assumption | grind) | grind)) (by assumption) (by assumption) (by assumption) (tj_s hm (by assumption) (by (try clear ih); grind) (by (try clear ih); grind) (by assumption) (by assumption))
      · refine pu_neg q5 ?_
        exact ⟨_, rfl, (by (try clear ih); (first | assumption | (dsimp only; first | assumption | grind) | grind)), (by (try clear ih); (first | assumption | (dsimp only; first | assumption | grind) | grind)), (by assumption), (by assumption)⟩
set_option maxHeartbeats 4000000 in
theorem T_M_delete_L86 : ∀ (fuel : Nat) (w : am_MS) (th : Int32) (sp : Int32) (ml : Nat → Int32) (x1 : Int32) (x2 : Int32) (x3 : Int32) (x4 : Int32) (x5 : Int32), 0 ≤ w.2.2.2.2.1 → w.2.2.2.2.1 ≤ 26 → ta 0 255 w.2.2.2.2.2.2.2.1 → ta 0 2224 w.2.2.2.2.2.2.2.2 → ta 0 255 ml → 0 ≤ x5 → x1 ≤ 1000 → tm 4 x5 fuel → ∃ r : am_MS × Int32, f_M_delete_L86 fuel w th sp ml x1 x2 x3 x4 x5 = some r ∧ 0 ≤ r.1.2.2.2.2.1 ∧ r.1.2.2.2.2.1 ≤ 26 ∧ ta 0 255 r.1.2.2.2.2.2.2.2.1 ∧ ta 0 2224 r.1.2.2.2.2.2.2.2.2 := by
  intro fuel
  induction fuel with
  | zero =>
    intro w th sp ml x1 x2 x3 x4 x5 h0_ h1_ h2_ h3_ h4_ h5_ h6_ hm
    exact (tm0 hm).elim
  | succ fuel ih =>
    intro w th sp ml x1 x2 x3 x4 x5 h0_ h1_ h2_ h3_ h4_ h5_ h6_ hm
    rw [f_M_delete_L86]
    by_cases q1 : 4 ≤ x5
    · refine pu_pos q1 ?_
      by_cases q2 : x4 = 0
      · refine pu_pos q2 ?_
        exact ⟨_, rfl, (by (try clear ih); (first | assumption | (dsimp only; first | assumption | grind) | grind)), (by (try clear ih); (first | assumption | (dsimp only; first | assumption | grind) | grind)), (by assumption), (by assumption)⟩
      · refine pu_neg q2 ?_
        obtain ⟨r18, h3, p4, p5, p6, p7, p8⟩ := T_M_free w w.2.2.2.2.2.1 x1 (by (try clear ih); (first | assumption | (dsimp only; first | assumption | grind) | grind)) (by (try clear ih); (first | assumption | (dsimp only; first | assumption | grind) | grind)) (by assumption) (by assumption) (by (try clear ih); (first | assumption | (dsimp only; first | assumption | grind) | grind))
        refine pu_bind h3 ?_
        clear h3
        exact T_M_delete_L150 100000000000 r18 0 sp ml x3 (by (try clear ih); (first | assumption | (dsimp only; first | assumption | grind) | grind)) (by (try clear ih); (first | assumption | (dsimp only; first | assumption | grind) | grind)) (by assumption) (by assumption) (by assumption) (tj_z _ _)
    · refine pu_neg q1 ?_
      by_cases q9 : x4 = 0
      · refine pu_pos q9 ?_
        exact ih w th sp ml x1 x2 x3 0 (x5 + 1) (by (try clear ih); (first | assumption | (dsimp only; first | assumption | grind) | grind)) (by (try clear ih); (first | assumption | (dsimp only; first | assumption | grind) | grind)) (by assumption) (by assumption) (by assumption) (by (try clear ih); (first | assumption | (dsimp only; first | assumption | grind) | grind)) (by (try clear ih); (first | assumption | (dsimp only; first | assumption | grind) | grind)) (tm1 (by (try clear ih); (first | assumption | (dsimp only; first | assumption | grind) | grind)) hm)
      · refine pu_neg q9 ?_
        refine pu_pos (ti 4 (by (try clear ih); (first | assumption | (dsimp only; first | assumption | grind) | grind)) (by (try clear ih); (first | assumption | (dsimp only; first | assumption | grind) | grind)) rfl) ?_
        have a10 := ((by assumption) : ta 0 2224 w.2.2.2.2.2.2.2.2) x5.toNatClampNeg
        by_cases q11 : (w.2.2.2.2.2.2.2.2 x5.toNatClampNeg) = x2
        · refine pu_pos q11 ?_
          exact ih w th sp ml x1 x2 x3 0 (x5 + 1) (by (try clear ih); (first | assumption | (dsimp only; first | assumption | grind) | grind)) (by (try clear ih); (first | assumption | (dsimp only; first | assumption | grind) | grind)) (by assumption) (by assumption) (by assumption) (by (try clear ih); (first | assumption | (dsimp only; first | assumption | grind) | grind)) (by (try clear ih); (first | assumption | (dsimp only; first | assumption | grind) | grind)) (tm1 (by (try clear ih); (first | assumption | (dsimp only; first | assumption | grind) | grind)) hm)
        · refine pu_neg q11 ?_
          exact ih w th sp ml x1 x2 x3 1 (x5 + 1) (by (try clear ih); (first | assumption | (dsimp only; first | assumption | grind) | grind)) (by (try clear ih); (first | assumption | (dsimp only; first | assumption | grind) | grind)) (by assumption) (by assumption) (by assumption) (by (try clear ih); (first | assumption | (dsimp only; first | assumption | grind) | grind)) (by (try clear ih); (first | assumption | (dsimp only; first | assumption | grind) | grind)) (tm1 (by (try clear ih); (first | assumption | (dsimp only; first | assumption | grind) | grind)) hm)
set_option maxHeartbeats 4000000 in
theorem T_M_delete (w : am_MS) (th : Int32) (sp : Int32) (ml : Nat → Int32) (h0_ : 0 ≤ w.2.2.2.2.1) (h1_ : w.2.2.2.2.1 ≤ 26) (h2_ : ta 0 255 w.2.2.2.2.2.2.2.1) (h3_ : ta 0 2224 w.2.2.2.2.2.2.2.2) (h4_ : ta 0 255 ml) : ∃ r : am_MS × Int32, f_M_delete w th sp ml = some r ∧ 0 ≤ r.1.2.2.2.2.1 ∧ r.1.2.2.2.2.1 ≤ 26 ∧ ta 0 255 r.1.2.2.2.2.2.2.2.1 ∧ ta 0 2224 r.1.2.2.2.2.2.2.2.2 := by
  rw [f_M_delete]
  obtain ⟨r1, h1, p2⟩ := T_M_ready w.1 w.2.1 th sp 
  refine pu_bind h1 ?_
  clear h1
  by_cases q3 : r1.1 = 0
  · refine pu_pos q3 ?_
    exact ⟨_, rfl, (by (first | assumption | (dsimp only; first | assumption | grind) | grind)), (by (first | assumption | (dsimp only; first | assumption | grind) | grind)), (by assumption), (by assumption)⟩
  · refine pu_neg q3 ?_
    obtain ⟨r4, h4, p5⟩ := T_M_find w.2.2.2.2.1 w.2.2.2.2.2.1 w.2.2.2.2.2.2.2.1 ml (by (first | assumption | (dsimp only; first | assumption | grind) | grind)) (by (first | assumption | (dsimp only; first | assumption | grind) | grind)) (by assumption) (by assumption)
    refine pu_bind h4 ?_
    clear h4
    by_cases q6 : 0 ≤ r4
    · refine pu_pos q6 ?_
      obtain ⟨r8, h7, p8, p9, p10⟩ := T_M_place w.2.2.2.2.2.2.2.1 w.2.2.2.2.2.1 r4 (by assumption)
      refine pu_bind h7 ?_
      clear h7
      obtain ⟨r10, h11, p12, p13, p14⟩ := T_M_numberAt w.2.2.2.2.2.2.2.1 (r8 + 8) (by assumption) (by (first | assumption | (dsimp only; first | assumption | grind) | grind)) (by (first | assumption | (dsimp only; first | assumption | grind) | grind))
      refine pu_bind h11 ?_
      clear h11
      refine pu_pos (ti 2240 (by (first | assumption | (dsimp only; first | assumption | grind) | grind)) (by (first | assumption | (dsimp only; first | assumption | grind) | grind)) rfl) ?_
      have a15 := ((by assumption) : ta 0 255 w.2.2.2.2.2.2.2.1) (r8 + 6).toNatClampNeg
      by_cases q16 : (w.2.2.2.2.2.2.2.1 (r8 + 6).toNatClampNeg) = 1
      · refine pu_pos q16 ?_
        exact T_M_delete_L86 100000000000 (w.1, r1.2.1, w.2.2.1, w.2.2.2.1, 0, w.2.2.2.2.2.1, w.2.2.2.2.2.2.1, w.2.2.2.2.2.2.2.1, w.2.2.2.2.2.2.2.2) 0 sp ml r4 r8 r10 1 0 (by (first | assumption | (dsimp only; first | assumption | grind) | grind)) (by (first | assumption | (dsimp only; first | assumption | grind) | grind)) (by assumption) (by assumption) (by assumption) (by (first | assumption | (dsimp only; first | assumption | grind) | grind)) (by (first | assumption | (dsimp only; first | assumption | grind) | grind)) (tmz _ _)
      · refine pu_neg q16 ?_
        obtain ⟨r33, h17, p18⟩ := T_M_isEmpty w.2.2.2.2.2.2.2.1 r10 (by assumption)
        refine pu_bind h17 ?_
        clear h17
        by_cases q19 : r33 = 0
        · refine pu_pos q19 ?_
          exact T_M_delete_L86 100000000000 (w.1, r1.2.1, w.2.2.1, w.2.2.2.1, 0, w.2.2.2.2.2.1, w.2.2.2.2.2.2.1, w.2.2.2.2.2.2.2.1, w.2.2.2.2.2.2.2.2) 0 sp ml r4 r8 r10 0 0 (by (first | assumption | (dsimp only; first | assumption | grind) | grind)) (by (first | assumption | (dsimp only; first | assumption | grind) | grind)) (by assumption) (by assumption) (by assumption) (by (first | assumption | (dsimp only; first | assumption | grind) | grind)) (by (first | assumption | (dsimp only; first | assumption | grind) | grind)) (tmz _ _)
        · refine pu_neg q19 ?_
          exact T_M_delete_L86 100000000000 (w.1, r1.2.1, w.2.2.1, w.2.2.2.1, 0, w.2.2.2.2.2.1, w.2.2.2.2.2.2.1, w.2.2.2.2.2.2.2.1, w.2.2.2.2.2.2.2.2) 0 sp ml r4 r8 r10 1 0 (by (first | assumption | (dsimp only; first | assumption | grind) | grind)) (by (first | assumption | (dsimp only; first | assumption | grind) | grind)) (by assumption) (by assumption) (by assumption) (by (first | assumption | (dsimp only; first | assumption | grind) | grind)) (by (first | assumption | (dsimp only; first | assumption | grind) | grind)) (tmz _ _)
    · refine pu_neg q6 ?_
      exact ⟨_, rfl, (by (first | assumption | (dsimp only; first | assumption | grind) | grind)), (by (first | assumption | (dsimp only; first | assumption | grind) | grind)), (by assumption), (by assumption)⟩
set_option maxHeartbeats 4000000 in
theorem T_M_enter (on : Int32) (dd : Int32) (ty : Int32) (mh : Int32) (md : Int32) (dk : Nat → Int32) (th : Int32) (sp : Int32) (ml : Nat → Int32) (h0_ : 0 ≤ ty) (h1_ : ty ≤ 26) (h2_ : ta 0 255 dk) (h3_ : ta 0 255 ml) : ∃ r : Int32 × Int32 × Int32 × Int32 × Int32, f_M_enter on dd ty mh md dk th sp ml = some r ∧ 0 ≤ r.2.1 ∧ r.2.1 ≤ 26 := by
  rw [f_M_enter]
  obtain ⟨r1, h1, p2⟩ := T_M_ready on dd th sp 
  refine pu_bind h1 ?_
  clear h1
  by_cases q3 : r1.1 = 0
  · refine pu_pos q3 ?_
    exact ⟨_, rfl, (by (first | assumption | (dsimp only; first | assumption | grind) | grind)), (by (first | assumption | (dsimp only; first | assumption | grind) | grind))⟩
  · refine pu_neg q3 ?_
    by_cases q4 : ty = 0
    · refine pu_pos q4 ?_
      exact ⟨_, rfl, (by (first | assumption | (dsimp only; first | assumption | grind) | grind)), (by (first | assumption | (dsimp only; first | assumption | grind) | grind))⟩
    · refine pu_neg q4 ?_
      obtain ⟨r5, h5, p6⟩ := T_M_find ty mh dk ml (by (first | assumption | (dsimp only; first | assumption | grind) | grind)) (by (first | assumption | (dsimp only; first | assumption | grind) | grind)) (by assumption) (by assumption)
      refine pu_bind h5 ?_
      clear h5
      by_cases q7 : r5 < 0
      · refine pu_pos q7 ?_
        exact ⟨_, rfl, (by (first | assumption | (dsimp only; first | assumption | grind) | grind)), (by (first | assumption | (dsimp only; first | assumption | grind) | grind))⟩
      · refine pu_neg q7 ?_
        obtain ⟨r9, h8, p9, p10, p11⟩ := T_M_place dk mh r5 (by assumption)
        refine pu_bind h8 ?_
        clear h8
        refine pu_pos (ti 2240 (by (first | assumption | (dsimp only; first | assumption | grind) | grind)) (by (first | assumption | (dsimp only; first | assumption | grind) | grind)) rfl) ?_
        have a12 := ((by assumption) : ta 0 255 dk) (r9 + 6).toNatClampNeg
        by_cases q13 : (dk (r9 + 6).toNatClampNeg) = 2
        · refine pu_pos q13 ?_
          obtain ⟨r14, h14, p15, p16, p17⟩ := T_M_place dk mh r5 (by assumption)
          refine pu_bind h14 ?_
          clear h14
          obtain ⟨r16, h18, p19, p20, p21⟩ := T_M_numberAt dk (r14 + 8) (by assumption) (by (first | assumption | (dsimp only; first | assumption | grind) | grind)) (by (first | assumption | (dsimp only; first | assumption | grind) | grind))
          refine pu_bind h18 ?_
          clear h18
          exact ⟨_, rfl, (by (first | assumption | (dsimp only; first | assumption | grind) | grind)), (by (first | assumption | (dsimp only; first | assumption | grind) | grind))⟩
        · refine pu_neg q13 ?_
          exact ⟨_, rfl, (by (first | assumption | (dsimp only; first | assumption | grind) | grind)), (by (first | assumption | (dsimp only; first | assumption | grind) | grind))⟩
set_option maxHeartbeats 4000000 in
theorem T_M_open_L64 : ∀ (fuel : Nat) (on : Int32) (dd : Int32) (ty : Int32) (mh : Int32) (dk : Nat → Int32) (op : Nat → Int32) (th : Int32) (sp : Int32) (ml : Nat → Int32) (ps : Nat → Int32) (x1 : Int32) (x2 : Int32), 0 ≤ ty → ty ≤ 26 → ta 0 255 dk → ta 0 2224 op → ta 0 255 ml → 0 ≤ x2 → tm 4 x2 fuel → ∃ r : Int32 × Int32 × Int32 × (Nat → Int32) × Int32 × (Nat → Int32), f_M_open_L64 fuel on dd ty mh dk op th sp ml ps x1 x2 = some r ∧ 0 ≤ r.2.2.1 ∧ r.2.2.1 ≤ 26 ∧ ta 0 2224 r.2.2.2.1 := by
  intro fuel
  induction fuel with
  | zero =>
    intro on dd ty mh dk op th sp ml ps x1 x2 h0_ h1_ h2_ h3_ h4_ h5_ hm
    exact (tm0 hm).elim
  | succ fuel ih =>
    intro on dd ty mh dk op th sp ml ps x1 x2 h0_ h1_ h2_ h3_ h4_ h5_ hm
    rw [f_M_open_L64]
    by_cases q1 : 4 ≤ x2
    · refine pu_pos q1 ?_
      exact ⟨_, rfl, (by (try clear ih); (first | assumption | (dsimp only; first | assumption | grind) | grind)), (by (try clear ih); (first | assumption | (dsimp only; first | assumption | grind) | grind)), (by assumption)⟩
    · refine pu_neg q1 ?_
      refine pu_pos (ti 4 (by (try clear ih); (first | assumption | (dsimp only; first | assumption | grind) | grind)) (by (try clear ih); (first | assumption | (dsimp only; first | assumption | grind) | grind)) rfl) ?_
      have a2 := ((by assumption) : ta 0 2224 op) x2.toNatClampNeg
      by_cases q3 : (op x2.toNatClampNeg) = 0
      · refine pu_pos q3 ?_
        obtain ⟨r16, h4, p5, p6, p7⟩ := T_M_place dk mh x1 (by assumption)
        refine pu_bind h4 ?_
        clear h4
        refine pu_pos (ti 4 (by (try clear ih); (first | assumption | (dsimp only; first | assumption | grind) | grind)) (by (try clear ih); (first | assumption | (dsimp only; first | assumption | grind) | grind)) rfl) ?_
        refine pu_pos (ti 4 (by (try clear ih); (first | assumption | (dsimp only; first | assumption | grind) | grind)) (by (try clear ih); (first | assumption | (dsimp only; first | assumption | grind) | grind)) rfl) ?_
        exact ⟨_, rfl, (by (try clear ih); (first | assumption | (dsimp only; first | assumption | grind) | grind)), (by (try clear ih); (first | assumption | (dsimp only; first | assumption | grind) | grind)), (ta_upd (by assumption) (by (try clear ih); (first | assumption | (dsimp only; first | assumption | grind) | grind)) (by (try clear ih); (first | assumption | (dsimp only; first | assumption | grind) | grind)))⟩
      · refine pu_neg q3 ?_
        exact ih on dd ty mh dk op th sp ml ps x1 (x2 + 1) (by (try clear ih); (first | assumption | (dsimp only; first | assumption | grind) | grind)) (by (try clear ih); (first | assumption | (dsimp only; first | assumption | grind) | grind)) (by assumption) (by assumption) (by assumption) (by (try clear ih); (first | assumption | (dsimp only; first | assumption | grind) | grind)) (tm1 (by (try clear ih); (first | assumption | (dsimp only; first | assumption | grind) | grind)) hm)
