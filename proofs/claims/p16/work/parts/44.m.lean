set_option maxHeartbeats 4000000 in
theorem T_M_walk (w : am_MS) (mf : Int32) (mu : Nat → Int32) (ch : Nat → Int32) (wy : Nat → Int32) (nx : Nat → Int32) (h0_ : 0 ≤ w.2.2.2.2.1) (h1_ : w.2.2.2.2.1 ≤ 26) (h2_ : ta 0 255 w.2.2.2.2.2.2.2.1) (h3_ : ta 0 2224 w.2.2.2.2.2.2.2.2) (h4_ : ta 0 63 ch) (h5_ : ta 0 128 nx) (h6_ : tT 64 w) : ∃ r : am_MS × Int32 × (Nat → Int32) × (Nat → Int32) × (Nat → Int32) × (Nat → Int32), f_M_walk w mf mu ch wy nx = some r ∧ 0 ≤ r.1.2.2.2.2.1 ∧ r.1.2.2.2.2.1 ≤ 26 ∧ ta 0 255 r.1.2.2.2.2.2.2.2.1 ∧ ta 0 2224 r.1.2.2.2.2.2.2.2.2 ∧ ta 0 63 r.2.2.2.1 ∧ ta 0 128 r.2.2.2.2.2 := by
  rw [f_M_walk]
  exact T_M_walk_L16 100000000000 w mf mu ch (upd wy (0 : Int32).toNatClampNeg 2) (upd nx (0 : Int32).toNatClampNeg 0) 0 (by (first | assumption | (dsimp only; first | assumption | grind) | grind)) (by (first | assumption | (dsimp only; first | assumption | grind) | grind)) (by assumption) (by assumption) (by assumption) (ta_upd (by assumption) (by (first | assumption | (dsimp only; first | assumption | grind) | grind)) (by (first | assumption | (dsimp only; first | assumption | grind) | grind))) (by first | assumption | exact tT_d (by assumption) | exact tT_s (by assumption) (Nat.le_refl _) (by assumption) | exact tT_k (by assumption) (Nat.le_refl _) (by assumption) | exact tT_k (tn_x (by assumption) (by (first | assumption | (dsimp only; first | assumption | grind) | grind))) (Nat.le_refl _) (by assumption) | exact tT_e (by assumption) (by assumption) (by assumption)) (by (first | assumption | (dsimp only; first | assumption | grind) | grind)) (by (first | assumption | (dsimp only; first | assumption | grind) | grind)) (tw_z (ta_upd (by assumption) (by decide) (by decide)) _)
set_option maxHeartbeats 4000000 in
theorem T_M_repair_L105 : ∀ (fuel : Nat) (w : am_MS) (th : Int32) (sp : Int32) (mf : Int32) (mu : Nat → Int32) (ch : Nat → Int32) (wy : Nat → Int32) (nx : Nat → Int32) (x1 : Int32), 0 ≤ w.2.2.2.2.1 → w.2.2.2.2.1 ≤ 26 → ta 0 255 w.2.2.2.2.2.2.2.1 → ta 0 2224 w.2.2.2.2.2.2.2.2 → ta 0 63 ch → ta 0 128 nx → 0 ≤ x1 → tm 64 x1 fuel → ∃ r : Int32 × am_MS × Int32 × Int32 × Int32 × (Nat → Int32) × (Nat → Int32) × (Nat → Int32) × (Nat → Int32), f_M_repair_L105 fuel w th sp mf mu ch wy nx x1 = some r ∧ 0 ≤ r.2.1.2.2.2.2.1 ∧ r.2.1.2.2.2.2.1 ≤ 26 ∧ ta 0 255 r.2.1.2.2.2.2.2.2.2.1 ∧ ta 0 2224 r.2.1.2.2.2.2.2.2.2.2 ∧ ta 0 63 r.2.2.2.2.2.2.1 ∧ ta 0 128 r.2.2.2.2.2.2.2.2 := by
  intro fuel
  induction fuel with
  | zero =>
    intro w th sp mf mu ch wy nx x1 h0_ h1_ h2_ h3_ h4_ h5_ h6_ hm
    exact (tm0 hm).elim
  | succ fuel ih =>
    intro w th sp mf mu ch wy nx x1 h0_ h1_ h2_ h3_ h4_ h5_ h6_ hm
    rw [f_M_repair_L105]
    by_cases q1 : 64 ≤ x1
    · refine pu_pos q1 ?_
      by_cases q2 : w.2.1 = 0
      · refine pu_pos q2 ?_
        by_cases q3 : sp = 0
        · refine pu_pos q3 ?_
          exact ⟨_, rfl, (by (try clear ih); (first | assumption | (dsimp only; first | assumption | grind) | grind)), (by (try clear ih); (first | assumption | (dsimp only; first | assumption | grind) | grind)), (by assumption), (by assumption), (by assumption), (by assumption)⟩
        · refine pu_neg q3 ?_
          exact ⟨_, rfl, (by (try clear ih); (first | assumption | (dsimp only; first | assumption | grind) | grind)), (by (try clear ih); (first | assumption | (dsimp only; first | assumption | grind) | grind)), (by assumption), (by assumption), (by assumption), (by assumption)⟩
      · refine pu_neg q2 ?_
        by_cases q4 : sp = 0
        · refine pu_pos q4 ?_
          exact ⟨_, rfl, (by (try clear ih); (first | assumption | (dsimp only; first | assumption | grind) | grind)), (by (try clear ih); (first | assumption | (dsimp only; first | assumption | grind) | grind)), (by assumption), (by assumption), (by assumption), (by assumption)⟩
        · refine pu_neg q4 ?_
          exact ⟨_, rfl, (by (try clear ih); (first | assumption | (dsimp only; first | assumption | grind) | grind)), (by (try clear ih); (first | assumption | (dsimp only; first | assumption | grind) | grind)), (by assumption), (by assumption), (by assumption), (by assumption)⟩
    · refine pu_neg q1 ?_
      by_cases q5 : w.2.1 = 0
      · refine pu_pos q5 ?_
        obtain ⟨r29, h6, p7, p8, p9⟩ := T_M_cell w.2.2.2.2.2.2.2.1 x1 (by assumption) (by (try clear ih); (first | assumption | (dsimp only; first | assumption | grind) | grind)) (by (try clear ih); (first | assumption | (dsimp only; first | assumption | grind) | grind))
        refine pu_bind h6 ?_
        clear h6
        by_cases q10 : r29 = 0
        · refine pu_pos q10 ?_
          exact ih w th sp mf mu ch wy nx (x1 + 1) (by (try clear ih); (first | assumption | (dsimp only; first | assumption | grind) | grind)) (by (try clear ih); (first | assumption | (dsimp only; first | assumption | grind) | grind)) (by assumption) (by assumption) (by assumption) (by assumption) (by (try clear ih); (first | assumption | (dsimp only; first | assumption | grind) | grind)) (tm1 (by (try clear ih); (first | assumption | (dsimp only; first | assumption | grind) | grind)) hm)
        · refine pu_neg q10 ?_
          refine pu_pos (ti 64 (by (try clear ih); (first | assumption | (dsimp only; first | assumption | grind) | grind)) (by (try clear ih); (first | assumption | (dsimp only; first | assumption | grind) | grind)) rfl) ?_
          by_cases q11 : (mu x1.toNatClampNeg) = 0
          · refine pu_pos q11 ?_
            obtain ⟨r34, h12, p13, p14, p15, p16, p17⟩ := T_M_fix w mf x1 0 (by (try clear ih); (first | assumption | (dsimp only; first | assumption | grind) | grind)) (by (try clear ih); (first | assumption | (dsimp only; first | assumption | grind) | grind)) (by assumption) (by assumption) (by (try clear ih); (first | assumption | (dsimp only; first | assumption | grind) | grind)) (by (try clear ih); (first | assumption | (dsimp only; first | assumption | grind) | grind))
            refine pu_bind h12 ?_
            clear h12
            exact ih r34.1 th sp r34.2 mu ch wy nx (x1 + 1) (by (try clear ih); (first | assumption | (dsimp only; first | assumption | grind) | grind)) (by (try clear ih); (first | assumption | (dsimp only; first | assumption | grind) | grind)) (by assumption) (by assumption) (by assumption) (by assumption) (by (try clear ih); (first | assumption | (dsimp only; first | assumption | grind) | grind)) (tm1 (by (try clear ih); (first | assumption | (dsimp only; first | assumption | grind) | grind)) hm)
          · refine pu_neg q11 ?_
            exact ih w th sp mf mu ch wy nx (x1 + 1) (by (try clear ih); (first | assumption | (dsimp only; first | assumption | grind) | grind)) (by (try clear ih); (first | assumption | (dsimp only; first | assumption | grind) | grind)) (by assumption) (by assumption) (by assumption) (by assumption) (by (try clear ih); (first | assumption | (dsimp only; first | assumption | grind) | grind)) (tm1 (by (try clear ih); (first | assumption | (dsimp only; first | assumption | grind) | grind)) hm)
      · refine pu_neg q5 ?_
        by_cases q18 : sp = 0
        · refine pu_pos q18 ?_
          exact ⟨_, rfl, (by (try clear ih); (first | assumption | (dsimp only; first | assumption | grind) | grind)), (by (try clear ih); (first | assumption | (dsimp only; first | assumption | grind) | grind)), (by assumption), (by assumption), (by assumption), (by assumption)⟩
        · refine pu_neg q18 ?_
          exact ⟨_, rfl, (by (try clear ih); (first | assumption | (dsimp only; first | assumption | grind) | grind)), (by (try clear ih); (first | assumption | (dsimp only; first | assumption | grind) | grind)), (by assumption), (by assumption), (by assumption), (by assumption)⟩
set_option maxHeartbeats 4000000 in
theorem T_M_repair_L41 : ∀ (fuel : Nat) (w : am_MS) (th : Int32) (sp : Int32) (mf : Int32) (mu : Nat → Int32) (ch : Nat → Int32) (wy : Nat → Int32) (nx : Nat → Int32) (x1 : Int32), 0 ≤ w.2.2.2.2.1 → w.2.2.2.2.1 ≤ 26 → ta 0 255 w.2.2.2.2.2.2.2.1 → ta 0 2224 w.2.2.2.2.2.2.2.2 → ta 0 63 ch → ta 0 128 nx → 0 ≤ x1 → (2 < x1 → mu 2 = 0) → tm 64 x1 fuel → ∃ r : Int32 × am_MS × Int32 × Int32 × Int32 × (Nat → Int32) × (Nat → Int32) × (Nat → Int32) × (Nat → Int32), f_M_repair_L41 fuel w th sp mf mu ch wy nx x1 = some r ∧ 0 ≤ r.2.1.2.2.2.2.1 ∧ r.2.1.2.2.2.2.1 ≤ 26 ∧ ta 0 255 r.2.1.2.2.2.2.2.2.2.1 ∧ ta 0 2224 r.2.1.2.2.2.2.2.2.2.2 ∧ ta 0 63 r.2.2.2.2.2.2.1 ∧ ta 0 128 r.2.2.2.2.2.2.2.2 := by
  intro fuel
  induction fuel with
  | zero =>
    intro w th sp mf mu ch wy nx x1 h0_ h1_ h2_ h3_ h4_ h5_ h6_ h7_ hm
    exact (tm0 hm).elim
  | succ fuel ih =>
    intro w th sp mf mu ch wy nx x1 h0_ h1_ h2_ h3_ h4_ h5_ h6_ h7_ hm
    rw [f_M_repair_L41]
    have h22 : (2 : Int32).toNatClampNeg = 2 := rfl
    by_cases q1 : 64 ≤ x1
    · refine pu_pos q1 ?_
      obtain ⟨r7, h2, p3, p4, p5, p6, p7⟩ := T_M_mendTables w mf (by (try clear ih); (first | assumption | (dsimp only; first | assumption | grind) | grind)) (by (try clear ih); (first | assumption | (dsimp only; first | assumption | grind) | grind)) (by assumption) (by assumption)
      refine pu_bind h2 ?_
      clear h2
      obtain ⟨r9, h8, p9, p10, p11⟩ := T_M_cell r7.1.2.2.2.2.2.2.2.1 2 (by assumption) (by (try clear ih); (first | assumption | (dsimp only; first | assumption | grind) | grind)) (by (try clear ih); (first | assumption | (dsimp only; first | assumption | grind) | grind))
      refine pu_bind h8 ?_
      clear h8
      by_cases q12 : r9 = 0
      · refine pu_pos q12 ?_
        by_cases q13 : r7.1.2.1 = 0
        · refine pu_pos q13 ?_
          obtain ⟨r42, h14, p15, p16, p17, p18, p19⟩ := T_M_fix r7.1 r7.2 2 65535 (by (try clear ih); (first | assumption | (dsimp only; first | assumption | grind) | grind)) (by (try clear ih); (first | assumption | (dsimp only; first | assumption | grind) | grind)) (by assumption) (by assumption) (by (try clear ih); (first | assumption | (dsimp only; first | assumption | grind) | grind)) (by (try clear ih); (first | assumption | (dsimp only; first | assumption | grind) | grind))
          refine pu_bind h14 ?_
          clear h14
          by_cases q20 : r42.1.2.1 = 0
          · refine pu_pos q20 ?_
            obtain ⟨r45, h21, p22, p23, p24, p25, p26, p27, p28, p29, p30⟩ := T_M_follow r42.1 r42.2 mu ch 2 (by (try clear ih); (first | assumption | (dsimp only; first | assumption | grind) | grind)) (by (try clear ih); (first | assumption | (dsimp only; first | assumption | grind) | grind)) (by assumption) (by assumption) (by assumption) (by first | assumption | exact tT_d (by assumption) | exact tT_s (by assumption) (Nat.le_refl _) (by assumption) | exact tT_k (by assumption) (Nat.le_refl _) (by assumption) | exact tT_k (tn_x (by assumption) (by (try clear ih); (first | assumption | (dsimp only; first | assumption | grind) | grind))) (Nat.le_refl _) (by assumption) | exact tT_e (by assumption) (by assumption) (by assumption)) (by (try clear ih); (first | assumption | (dsimp only; first | assumption | grind) | grind))
            refine pu_bind h21 ?_
            clear h21
            obtain ⟨r47, h31, p32, p33, p34, p35, p36, p37⟩ := T_M_walk r45.2.1 r45.2.2.1 r45.2.2.2.1 r45.2.2.2.2 wy nx (by (try clear ih); (first | assumption | (dsimp only; first | assumption | grind) | grind)) (by (try clear ih); (first | assumption | (dsimp only; first | assumption | grind) | grind)) (by assumption) (by assumption) (by assumption) (by assumption) (by first | assumption | exact tT_d (by assumption) | exact tT_s (by assumption) (Nat.le_refl _) (by assumption) | exact tT_k (by assumption) (Nat.le_refl _) (by assumption) | exact tT_k (tn_x (by assumption) (by (try clear ih); (first | assumption | (dsimp only; first | assumption | grind) | grind))) (Nat.le_refl _) (by assumption) | exact tT_e (by assumption) (by assumption) (by assumption))
            refine pu_bind h31 ?_
            clear h31
            exact T_M_repair_L105 100000000000 r47.1 th sp r47.2.1 r47.2.2.1 r47.2.2.2.1 r47.2.2.2.2.1 r47.2.2.2.2.2 2 (by (try clear ih); (first | assumption | (dsimp only; first | assumption | grind) | grind)) (by (try clear ih); (first | assumption | (dsimp only; first | assumption | grind) | grind)) (by assumption) (by assumption) (by assumption) (by assumption) (by (try clear ih); (first | assumption | (dsimp only; first | assumption | grind) | grind)) (tmz _ _)
          · refine pu_neg q20 ?_
            exact T_M_repair_L105 100000000000 r42.1 th sp r42.2 mu ch wy nx 2 (by (try clear ih); (first | assumption | (dsimp only; first | assumption | grind) | grind)) (by (try clear ih); (first | assumption | (dsimp only; first | assumption | grind) | grind)) (by assumption) (by assumption) (by assumption) (by assumption) (by (try clear ih); (first | assumption | (dsimp only; first | assumption | grind) | grind)) (tmz _ _)
        · refine pu_neg q13 ?_
          exact T_M_repair_L105 100000000000 r7.1 th sp r7.2 mu ch wy nx 2 (by (try clear ih); (first | assumption | (dsimp only; first | assumption | grind) | grind)) (by (try clear ih); (first | assumption | (dsimp only; first | assumption | grind) | grind)) (by assumption) (by assumption) (by assumption) (by assumption) (by (try clear ih); (first | assumption | (dsimp only; first | assumption | grind) | grind)) (tmz _ _)
      · refine pu_neg q12 ?_
        by_cases q38 : r7.1.2.1 = 0
        · refine pu_pos q38 ?_
          obtain ⟨r36, h39, p40, p41, p42, p43, p44, p45, p46, p47, p48⟩ := T_M_follow r7.1 r7.2 mu ch 2 (by (try clear ih); (first | assumption | (dsimp only; first | assumption | grind) | grind)) (by (try clear ih); (first | assumption | (dsimp only; first | assumption | grind) | grind)) (by assumption) (by assumption) (by assumption) (by first | assumption | exact tT_d (by assumption) | exact tT_s (by assumption) (Nat.le_refl _) (by assumption) | exact tT_k (by assumption) (Nat.le_refl _) (by assumption) | exact tT_k (tn_x (by assumption) (by (try clear ih); (first | assumption | (dsimp only; first | assumption | grind) | grind))) (Nat.le_refl _) (by assumption) | exact tT_e (by assumption) (by assumption) (by assumption)) (by (try clear ih); (first | assumption | (dsimp only; first | assumption | grind) | grind))
          refine pu_bind h39 ?_
          clear h39
          obtain ⟨r38, h49, p50, p51, p52, p53, p54, p55⟩ := T_M_walk r36.2.1 r36.2.2.1 r36.2.2.2.1 r36.2.2.2.2 wy nx (by (try clear ih); (first | assumption | (dsimp only; first | assumption | grind) | grind)) (by (try clear ih); (first | assumption | (dsimp only; first | assumption | grind) | grind)) (by assumption) (by assumption) (by assumption) (by assumption) (by first | assumption | exact tT_d (by assumption) | exact tT_s (by assumption) (Nat.le_refl _) (by assumption) | exact tT_k (by assumption) (Nat.le_refl _) (by assumption) | exact tT_k (tn_x (by assumption) (by (try clear ih); (first | assumption | (dsimp only; first | assumption | grind) | grind))) (Nat.le_refl _) (by assumption) | exact tT_e (by assumption) (by assumption) (by assumption))
          refine pu_bind h49 ?_
          clear h49
          exact T_M_repair_L105 100000000000 r38.1 th sp r38.2.1 r38.2.2.1 r38.2.2.2.1 r38.2.2.2.2.1 r38.2.2.2.2.2 2 (by (try clear ih); (first | assumption | (dsimp only; first | assumption | grind) | grind)) (by (try clear ih); (first | assumption | (dsimp only; first | assumption | grind) | grind)) (by assumption) (by assumption) (by assumption) (by assumption) (by (try clear ih); (first | assumption | (dsimp only; first | assumption | grind) | grind)) (tmz _ _)
        · refine pu_neg q38 ?_
          exact T_M_repair_L105 100000000000 r7.1 th sp r7.2 mu ch wy nx 2 (by (try clear ih); (first | assumption | (dsimp only; first | assumption | grind) | grind)) (by (try clear ih); (first | assumption | (dsimp only; first | assumption | grind) | grind)) (by assumption) (by assumption) (by assumption) (by assumption) (by (try clear ih); (first | assumption | (dsimp only; first | assumption | grind) | grind)) (tmz _ _)
    · refine pu_neg q1 ?_
      refine pu_pos (ti 64 (by (try clear ih); (first | assumption | (dsimp only; first | assumption | grind) | grind)) (by (try clear ih); (first | assumption | (dsimp only; first | assumption | grind) | grind)) rfl) ?_
      exact ih w th sp mf (upd mu x1.toNatClampNeg (vp_nar .boolean 0)) ch wy nx (x1 + 1) (by (try clear ih); (first | assumption | (dsimp only; first | assumption | grind) | grind)) (by (try clear ih); (first | assumption | (dsimp only; first | assumption | grind) | grind)) (by assumption) (by assumption) (by assumption) (by assumption) (by (try clear ih); (first | assumption | (dsimp only; first | assumption | grind) | grind)) (by first | exact tm_2 (by assumption) (by assumption) (by assumption) | exact fun z9 => absurd z9 (by decide)) (tm1 (by (try clear ih); (first | assumption | (dsimp only; first | assumption | grind) | grind)) hm)
set_option maxHeartbeats 4000000 in
theorem T_M_repair (w : am_MS) (th : Int32) (sp : Int32) (mf : Int32) (mu : Nat → Int32) (ch : Nat → Int32) (wy : Nat → Int32) (nx : Nat → Int32) (h0_ : 0 ≤ w.2.2.2.2.1) (h1_ : w.2.2.2.2.1 ≤ 26) (h2_ : ta 0 255 w.2.2.2.2.2.2.2.1) (h3_ : ta 0 2224 w.2.2.2.2.2.2.2.2) (h4_ : ta 0 63 ch) (h5_ : ta 0 128 nx) : ∃ r : Int32 × am_MS × Int32 × Int32 × Int32 × (Nat → Int32) × (Nat → Int32) × (Nat → Int32) × (Nat → Int32), f_M_repair w th sp mf mu ch wy nx = some r ∧ 0 ≤ r.2.1.2.2.2.2.1 ∧ r.2.1.2.2.2.2.1 ≤ 26 ∧ ta 0 255 r.2.1.2.2.2.2.2.2.2.1 ∧ ta 0 2224 r.2.1.2.2.2.2.2.2.2.2 ∧ ta 0 63 r.2.2.2.2.2.2.1 ∧ ta 0 128 r.2.2.2.2.2.2.2.2 := by
  rw [f_M_repair]
  by_cases q1 : w.1 = 0
  · refine pu_pos q1 ?_
    exact ⟨_, rfl, (by (first | assumption | (dsimp only; first | assumption | grind) | grind)), (by (first | assumption | (dsimp only; first | assumption | grind) | grind)), (by assumption), (by assumption), (by assumption), (by assumption)⟩
  · refine pu_neg q1 ?_
    obtain ⟨r4, h2, p3⟩ := T_M_home w.2.2.2.2.2.1 w.2.2.2.2.2.2.1 w.2.2.2.2.2.2.2.2 (by assumption)
    refine pu_bind h2 ?_
    clear h2
    exact T_M_repair_L41 100000000000 (w.1, 0, w.2.2.1, w.2.2.2.1, w.2.2.2.2.1, r4.1, r4.2.1, w.2.2.2.2.2.2.2.1, r4.2.2) 0 sp 0 mu ch wy nx 0 (by (first | assumption | (dsimp only; first | assumption | grind) | grind)) (by (first | assumption | (dsimp only; first | assumption | grind) | grind)) (by assumption) (by assumption) (by assumption) (by assumption) (by (first | assumption | (dsimp only; first | assumption | grind) | grind)) (by exact fun z9 => absurd z9 (by decide)) (tmz _ _)
set_option maxHeartbeats 4000000 in
theorem T_M_octet (dk : Nat → Int32) (th : Int32) (x1 : Int32) (x2 : Int32) (h0_ : ta 0 255 dk) : ∃ r : Int32 × Int32, f_M_octet dk th x1 x2 = some r ∧ True := by
  rw [f_M_octet]
  obtain ⟨r1, h1, p2⟩ := T_M_in x1 0 69 
  refine pu_bind h1 ?_
  clear h1
  by_cases q3 : r1 = 0
  · refine pu_pos q3 ?_
    exact ⟨_, rfl, trivial⟩
  · refine pu_neg q3 ?_
    obtain ⟨r4, h4, p5⟩ := T_M_in x2 0 31 
    refine pu_bind h4 ?_
    clear h4
    by_cases q6 : r4 = 0
    · refine pu_pos q6 ?_
      exact ⟨_, rfl, trivial⟩
    · refine pu_neg q6 ?_
      refine pu_pos (ti 2240 (by (first | assumption | (dsimp only; first | assumption | grind) | grind)) (by (first | assumption | (dsimp only; first | assumption | grind) | grind)) rfl) ?_
      have a7 := ((by assumption) : ta 0 255 dk) ((32 * x1) + x2).toNatClampNeg
      exact ⟨_, rfl, trivial⟩
set_option maxHeartbeats 4000000 in
theorem T_M_poke (mh : Int32) (md : Int32) (dk : Nat → Int32) (op : Nat → Int32) (th : Int32) (sp : Int32) (x1 : Int32) (x2 : Int32) (x3 : Int32) (h0_ : ta 0 255 dk) (h1_ : ta 0 2224 op) : ∃ r : Int32 × Int32 × Int32 × (Nat → Int32) × (Nat → Int32) × Int32 × Int32, f_M_poke mh md dk op th sp x1 x2 x3 = some r ∧ ta 0 255 r.2.2.2.1 ∧ ta 0 2224 r.2.2.2.2.1 ∧ (r.1 = 1 ∧ 0 ≤ x1 ∧ x1 < 70 ∧ 0 ≤ x2 ∧ x2 < 32 ∨ r.1 = 0 ∧ ¬ (0 ≤ x1 ∧ x1 < 70 ∧ 0 ≤ x2 ∧ x2 < 32)) := by
  rw [f_M_poke]
  obtain ⟨r1, h1, p2⟩ := T_M_in x1 0 69 
  refine pu_bind h1 ?_
  clear h1
  by_cases q3 : r1 = 0
  · refine pu_pos q3 ?_
    exact ⟨_, rfl, (by assumption), (by assumption), (by (first | assumption | (dsimp only; first | assumption | grind) | grind))⟩
  · refine pu_neg q3 ?_
    obtain ⟨r4, h4, p5⟩ := T_M_in x2 0 31 
    refine pu_bind h4 ?_
    clear h4
    by_cases q6 : r4 = 0
    · refine pu_pos q6 ?_
      exact ⟨_, rfl, (by assumption), (by assumption), (by (first | assumption | (dsimp only; first | assumption | grind) | grind))⟩
    · refine pu_neg q6 ?_
      refine pu_pos (ti 2240 (by (first | assumption | (dsimp only; first | assumption | grind) | grind)) (by (first | assumption | (dsimp only; first | assumption | grind) | grind)) rfl) ?_
      obtain ⟨r8, h7, p8⟩ := T_M_home mh md op (by assumption)
      refine pu_bind h7 ?_
      clear h7
      have n9 := tand x3 255 (by decide)
      exact ⟨_, rfl, (ta_upd (by assumption) (by (first | assumption | (dsimp only; first | assumption | grind) | grind)) (by (first | assumption | (dsimp only; first | assumption | grind) | grind))), (by assumption), (by (first | assumption | (dsimp only; first | assumption | grind) | grind))⟩
set_option maxHeartbeats 4000000 in
theorem T_M_look_L45 : ∀ (fuel : Nat) (on : Int32) (mw : Int32) (ty : Int32) (mh : Int32) (dk : Nat → Int32) (op : Nat → Int32) (th : Int32) (ps : Nat → Int32) (x1 : Int32) (x2 : Int32) (x3 : Int32), 0 ≤ ty → ty ≤ 26 → ta 0 255 dk → ta 0 2224 op → 0 ≤ x3 → tm 64 x3 fuel → ∃ r : Int32 × Int32, f_M_look_L45 fuel on mw ty mh dk op th ps x1 x2 x3 = some r ∧ True := by
  intro fuel
  induction fuel with
  | zero =>
    intro on mw ty mh dk op th ps x1 x2 x3 h0_ h1_ h2_ h3_ h4_ hm
    exact (tm0 hm).elim
  | succ fuel ih =>
    intro on mw ty mh dk op th ps x1 x2 x3 h0_ h1_ h2_ h3_ h4_ hm
    rw [f_M_look_L45]
    by_cases q1 : 64 ≤ x3
    · refine pu_pos q1 ?_
      by_cases q2 : 3 ≤ x1
      · refine pu_pos q2 ?_
        by_cases q3 : x1 = 3
        · refine pu_pos q3 ?_
          exact ⟨_, rfl, trivial⟩
        · refine pu_neg q3 ?_
          by_cases q4 : x1 = 4
          · refine pu_pos q4 ?_
            exact ⟨_, rfl, trivial⟩
          · refine pu_neg q4 ?_
            exact ⟨_, rfl, trivial⟩
      · refine pu_neg q2 ?_
        by_cases q5 : x1 = 0
        · refine pu_pos q5 ?_
          by_cases q6 : on = 0
          · refine pu_pos q6 ?_
            exact ⟨_, rfl, trivial⟩
          · refine pu_neg q6 ?_
            exact ⟨_, rfl, trivial⟩
        · refine pu_neg q5 ?_
          by_cases q7 : x1 = 1
          · refine pu_pos q7 ?_
            exact ⟨_, rfl, trivial⟩
          · refine pu_neg q7 ?_
            by_cases q8 : x1 = 2
            · refine pu_pos q8 ?_
              exact ⟨_, rfl, trivial⟩
            · refine pu_neg q8 ?_
              exact ⟨_, rfl, trivial⟩
    · refine pu_neg q1 ?_
      obtain ⟨r12, h9, p10, p11, p12⟩ := T_M_cell dk x3 (by assumption) (by (try clear ih); (first | assumption | (dsimp only; first | assumption | grind) | grind)) (by (try clear ih); (first | assumption | (dsimp only; first | assumption | grind) | grind))
      refine pu_bind h9 ?_
      clear h9
      by_cases q13 : r12 = 0
      · refine pu_pos q13 ?_
        exact ih on mw ty mh dk op th ps x1 (x2 + 1) (x3 + 1) (by (try clear ih); (first | assumption | (dsimp only; first | assumption | grind) | grind)) (by (try clear ih); (first | assumption | (dsimp only; first | assumption | grind) | grind)) (by assumption) (by assumption) (by (try clear ih); (first | assumption | (dsimp only; first | assumption | grind) | grind)) (tm1 (by (try clear ih); (first | assumption | (dsimp only; first | assumption | grind) | grind)) hm)
      · refine pu_neg q13 ?_
        exact ih on mw ty mh dk op th ps x1 (x2 + 0) (x3 + 1) (by (try clear ih); (first | assumption | (dsimp only; first | assumption | grind) | grind)) (by (try clear ih); (first | assumption | (dsimp only; first | assumption | grind) | grind)) (by assumption) (by assumption) (by (try clear ih); (first | assumption | (dsimp only; first | assumption | grind) | grind)) (tm1 (by (try clear ih); (first | assumption | (dsimp only; first | assumption | grind) | grind)) hm)
set_option maxHeartbeats 4000000 in
theorem T_M_look (on : Int32) (mw : Int32) (ty : Int32) (mh : Int32) (dk : Nat → Int32) (op : Nat → Int32) (th : Int32) (ps : Nat → Int32) (x1 : Int32) (h0_ : 0 ≤ ty) (h1_ : ty ≤ 26) (h2_ : ta 0 255 dk) (h3_ : ta 0 2224 op) : ∃ r : Int32 × Int32, f_M_look on mw ty mh dk op th ps x1 = some r ∧ True := by
  rw [f_M_look]
  obtain ⟨r1, h1, p2⟩ := T_M_in x1 10 13 
  refine pu_bind h1 ?_
  clear h1
  by_cases q3 : r1 = 0
  · refine pu_pos q3 ?_
    exact T_M_look_L45 100000000000 on mw ty mh dk op 0 ps x1 0 2 (by (first | assumption | (dsimp only; first | assumption | grind) | grind)) (by (first | assumption | (dsimp only; first | assumption | grind) | grind)) (by assumption) (by assumption) (by (first | assumption | (dsimp only; first | assumption | grind) | grind)) (tmz _ _)
  · refine pu_neg q3 ?_
    obtain ⟨r15, h4, p5⟩ := T_M_isOpen op (x1 - 10) (by assumption)
    refine pu_bind h4 ?_
    clear h4
    by_cases q6 : r15 = 0
    · refine pu_pos q6 ?_
      exact ⟨_, rfl, trivial⟩
    · refine pu_neg q6 ?_
      refine pu_pos (ti 4 (by (first | assumption | (dsimp only; first | assumption | grind) | grind)) (by (first | assumption | (dsimp only; first | assumption | grind) | grind)) rfl) ?_
      exact ⟨_, rfl, trivial⟩
