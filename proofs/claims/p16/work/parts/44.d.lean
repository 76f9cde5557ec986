set_option maxHeartbeats 4000000 in
theorem T_M_shorten_L57 : ∀ (fuel : Nat) (ty : Int32) (mh : Int32) (dk : Nat → Int32) (mp : Int32) (ml : Nat → Int32) (nm : Nat → Int32) (x1 : Int32) (x2 : Int32) (x3 : Int32), 0 ≤ ty → ty ≤ 26 → ta 0 255 dk → 0 ≤ mp → mp ≤ 2 → ta 0 255 ml → ta 0 255 nm → 0 ≤ x3 → x2 = 0 → tm 6 x3 fuel → ∃ r : Int32 × Int32 × (Nat → Int32), f_M_shorten_L57 fuel ty mh dk mp ml nm x1 x2 x3 = some r ∧ (r.1 = 0 ∨ r.1 = 1) ∧ 0 ≤ r.2.1 ∧ r.2.1 ≤ 2 ∧ ta 0 255 r.2.2 := by
  intro fuel
  induction fuel with
  | zero =>
    intro ty mh dk mp ml nm x1 x2 x3 h0_ h1_ h2_ h3_ h4_ h5_ h6_ h7_ h8_ hm
    exact (tm0 hm).elim
  | succ fuel ih =>
    intro ty mh dk mp ml nm x1 x2 x3 h0_ h1_ h2_ h3_ h4_ h5_ h6_ h7_ h8_ hm
    rw [f_M_shorten_L57]
    by_cases q1 : 6 ≤ x3
    · refine pu_pos q1 ?_
      exact T_M_shorten_L79 100000000000 ty mh dk mp ml nm x1 x2 0 (by (try clear ih); (first | assumption | (dsimp only; first | assumption | grind) | grind)) (by (try clear ih); (first | assumption | (dsimp only; first | assumption | grind) | grind)) (by assumption) (by (try clear ih); (first | assumption | (dsimp only; first | assumption | grind) | grind)) (by (try clear ih); (first | assumption | (dsimp only; first | assumption | grind) | grind)) (by assumption) (by assumption) (by (try clear ih); (first | assumption | (dsimp only; first | assumption | grind) | grind)) (by (try clear ih); (first | assumption | (dsimp only; first | assumption | grind) | grind)) (by (try clear ih); (first | assumption | (dsimp only; first | assumption | grind) | grind)) (by (try clear ih); (first | assumption | (dsimp only; first | assumption | grind) | grind)) (tmz _ _)
    · refine pu_neg q1 ?_
      refine pu_pos (ti 6 (by (try clear ih); (first | assumption | (dsimp only; first | assumption | grind) | grind)) (by (try clear ih); (first | assumption | (dsimp only; first | assumption | grind) | grind)) rfl) ?_
      exact ih ty mh dk mp ml (upd nm x3.toNatClampNeg 32) x1 x2 (x3 + 1) (by (try clear ih); (first | assumption | (dsimp only; first | assumption | grind) | grind)) (by (try clear ih); (first | assumption | (dsimp only; first | assumption | grind) | grind)) (by assumption) (by (try clear ih); (first | assumption | (dsimp only; first | assumption | grind) | grind)) (by (try clear ih); (first | assumption | (dsimp only; first | assumption | grind) | grind)) (by assumption) (ta_upd (by assumption) (by (try clear ih); (first | assumption | (dsimp only; first | assumption | grind) | grind)) (by (try clear ih); (first | assumption | (dsimp only; first | assumption | grind) | grind))) (by (try clear ih); (first | assumption | (dsimp only; first | assumption | grind) | grind)) (by (try clear ih); (first | assumption | (dsimp only; first | assumption | grind) | grind)) (tm1 (by (try clear ih); (first | assumption | (dsimp only; first | assumption | grind) | grind)) hm)
set_option maxHeartbeats 4000000 in
theorem T_M_shorten_L19 : ∀ (fuel : Nat) (ty : Int32) (mh : Int32) (dk : Nat → Int32) (mp : Int32) (ml : Nat → Int32) (nm : Nat → Int32) (x1 : Int32) (x2 : Int32) (x3 : Int32), 0 ≤ ty → ty ≤ 26 → ta 0 255 dk → 0 ≤ mp → mp ≤ 2 → ta 0 255 ml → ta 0 255 nm → 0 ≤ x3 → x2 = 0 → tm ty x3 fuel → ∃ r : Int32 × Int32 × (Nat → Int32), f_M_shorten_L19 fuel ty mh dk mp ml nm x1 x2 x3 = some r ∧ (r.1 = 0 ∨ r.1 = 1) ∧ 0 ≤ r.2.1 ∧ r.2.1 ≤ 2 ∧ ta 0 255 r.2.2 := by
  intro fuel
  induction fuel with
  | zero =>
    intro ty mh dk mp ml nm x1 x2 x3 h0_ h1_ h2_ h3_ h4_ h5_ h6_ h7_ h8_ hm
    exact (tm0 hm).elim
  | succ fuel ih =>
    intro ty mh dk mp ml nm x1 x2 x3 h0_ h1_ h2_ h3_ h4_ h5_ h6_ h7_ h8_ hm
    rw [f_M_shorten_L19]
    by_cases q1 : ty ≤ x3
    · refine pu_pos q1 ?_
      exact T_M_shorten_L57 100000000000 ty mh dk mp ml nm x1 x2 0 (by (try clear ih); (first | assumption | (dsimp only; first | assumption | grind) | grind)) (by (try clear ih); (first | assumption | (dsimp only; first | assumption | grind) | grind)) (by assumption) (by (try clear ih); (first | assumption | (dsimp only; first | assumption | grind) | grind)) (by (try clear ih); (first | assumption | (dsimp only; first | assumption | grind) | grind)) (by assumption) (by assumption) (by (try clear ih); (first | assumption | (dsimp only; first | assumption | grind) | grind)) (by (try clear ih); (first | assumption | (dsimp only; first | assumption | grind) | grind)) (tmz _ _)
    · refine pu_neg q1 ?_
      by_cases q2 : x1 = 0
      · refine pu_pos q2 ?_
        exact ih ty mh dk mp ml nm 0 x2 (x3 + 1) (by (try clear ih); (first | assumption | (dsimp only; first | assumption | grind) | grind)) (by (try clear ih); (first | assumption | (dsimp only; first | assumption | grind) | grind)) (by assumption) (by (try clear ih); (first | assumption | (dsimp only; first | assumption | grind) | grind)) (by (try clear ih); (first | assumption | (dsimp only; first | assumption | grind) | grind)) (by assumption) (by assumption) (by (try clear ih); (first | assumption | (dsimp only; first | assumption | grind) | grind)) (by (try clear ih); (first | assumption | (dsimp only; first | assumption | grind) | grind)) (tm1 (by (try clear ih); (first | assumption | (dsimp only; first | assumption | grind) | grind)) hm)
      · refine pu_neg q2 ?_
        refine pu_pos (ti 26 (by (try clear ih); (first | assumption | (dsimp only; first | assumption | grind) | grind)) (by (try clear ih); (first | assumption | (dsimp only; first | assumption | grind) | grind)) rfl) ?_
        have a3 := ((by assumption) : ta 0 255 ml) x3.toNatClampNeg
        obtain ⟨r45, h4, p5⟩ := T_M_isPlain (ml x3.toNatClampNeg) 
        refine pu_bind h4 ?_
        clear h4
        by_cases q6 : r45 = 0
        · refine pu_pos q6 ?_
          exact ih ty mh dk mp ml nm 0 x2 (x3 + 1) (by (try clear ih); (first | assumption | (dsimp only; first | assumption | grind) | grind)) (by (try clear ih); (first | assumption | (dsimp only; first | assumption | grind) | grind)) (by assumption) (by (try clear ih); (first | assumption | (dsimp only; first | assumption | grind) | grind)) (by (try clear ih); (first | assumption | (dsimp only; first | assumption | grind) | grind)) (by assumption) (by assumption) (by (try clear ih); (first | assumption | (dsimp only; first | assumption | grind) | grind)) (by (try clear ih); (first | assumption | (dsimp only; first | assumption | grind) | grind)) (tm1 (by (try clear ih); (first | assumption | (dsimp only; first | assumption | grind) | grind)) hm)
        · refine pu_neg q6 ?_
          exact ih ty mh dk mp ml nm 1 x2 (x3 + 1) (by (try clear ih); (first | assumption | (dsimp only; first | assumption | grind) | grind)) (by (try clear ih); (first | assumption | (dsimp only; first | assumption | grind) | grind)) (by assumption) (by (try clear ih); (first | assumption | (dsimp only; first | assumption | grind) | grind)) (by (try clear ih); (first | assumption | (dsimp only; first | assumption | grind) | grind)) (by assumption) (by assumption) (by (try clear ih); (first | assumption | (dsimp only; first | assumption | grind) | grind)) (by (try clear ih); (first | assumption | (dsimp only; first | assumption | grind) | grind)) (tm1 (by (try clear ih); (first | assumption | (dsimp only; first | assumption | grind) | grind)) hm)
set_option maxHeartbeats 4000000 in
theorem T_M_shorten (ty : Int32) (mh : Int32) (dk : Nat → Int32) (mp : Int32) (ml : Nat → Int32) (nm : Nat → Int32) (h0_ : 0 ≤ ty) (h1_ : ty ≤ 26) (h2_ : ta 0 255 dk) (h3_ : 0 ≤ mp) (h4_ : mp ≤ 2) (h5_ : ta 0 255 ml) (h6_ : ta 0 255 nm) : ∃ r : Int32 × Int32 × (Nat → Int32), f_M_shorten ty mh dk mp ml nm = some r ∧ (r.1 = 0 ∨ r.1 = 1) ∧ 0 ≤ r.2.1 ∧ r.2.1 ≤ 2 ∧ ta 0 255 r.2.2 := by
  rw [f_M_shorten]
  by_cases q1 : 7 ≤ ty
  · refine pu_pos q1 ?_
    exact T_M_shorten_L19 100000000000 ty mh dk mp ml nm 0 0 0 (by (first | assumption | (dsimp only; first | assumption | grind) | grind)) (by (first | assumption | (dsimp only; first | assumption | grind) | grind)) (by assumption) (by (first | assumption | (dsimp only; first | assumption | grind) | grind)) (by (first | assumption | (dsimp only; first | assumption | grind) | grind)) (by assumption) (by assumption) (by (first | assumption | (dsimp only; first | assumption | grind) | grind)) (by (first | assumption | (dsimp only; first | assumption | grind) | grind)) (tmz _ _)
  · refine pu_neg q1 ?_
    exact T_M_shorten_L19 100000000000 ty mh dk mp ml nm 1 0 0 (by (first | assumption | (dsimp only; first | assumption | grind) | grind)) (by (first | assumption | (dsimp only; first | assumption | grind) | grind)) (by assumption) (by (first | assumption | (dsimp only; first | assumption | grind) | grind)) (by (first | assumption | (dsimp only; first | assumption | grind) | grind)) (by assumption) (by assumption) (by (first | assumption | (dsimp only; first | assumption | grind) | grind)) (by (first | assumption | (dsimp only; first | assumption | grind) | grind)) (tmz _ _)
set_option maxHeartbeats 4000000 in
theorem T_M_home_L12 : ∀ (fuel : Nat) (mh : Int32) (md : Int32) (op : Nat → Int32) (x1 : Int32), ta 0 2224 op → 0 ≤ x1 → tm 4 x1 fuel → ∃ r : Int32 × Int32 × (Nat → Int32), f_M_home_L12 fuel mh md op x1 = some r ∧ ta 0 2224 r.2.2 := by
  intro fuel
  induction fuel with
  | zero =>
    intro mh md op x1 h0_ h1_ hm
    exact (tm0 hm).elim
  | succ fuel ih =>
    intro mh md op x1 h0_ h1_ hm
    rw [f_M_home_L12]
    by_cases q1 : 4 ≤ x1
    · refine pu_pos q1 ?_
      exact ⟨_, rfl, (by assumption)⟩
    · refine pu_neg q1 ?_
      refine pu_pos (ti 4 (by (try clear ih); (first | assumption | (dsimp only; first | assumption | grind) | grind)) (by (try clear ih); (first | assumption | (dsimp only; first | assumption | grind) | grind)) rfl) ?_
      exact ih mh md (upd op x1.toNatClampNeg 0) (x1 + 1) (ta_upd (by assumption) (by (try clear ih); (first | assumption | (dsimp only; first | assumption | grind) | grind)) (by (try clear ih); (first | assumption | (dsimp only; first | assumption | grind) | grind))) (by (try clear ih); (first | assumption | (dsimp only; first | assumption | grind) | grind)) (tm1 (by (try clear ih); (first | assumption | (dsimp only; first | assumption | grind) | grind)) hm)
set_option maxHeartbeats 4000000 in
theorem T_M_home (mh : Int32) (md : Int32) (op : Nat → Int32) (h0_ : ta 0 2224 op) : ∃ r : Int32 × Int32 × (Nat → Int32), f_M_home mh md op = some r ∧ ta 0 2224 r.2.2 := by
  rw [f_M_home]
  exact T_M_home_L12 100000000000 2 1 op 0 (by assumption) (by (first | assumption | (dsimp only; first | assumption | grind) | grind)) (tmz _ _)
set_option maxHeartbeats 4000000 in
theorem T_M_door (w : am_MS) (h0_ : 0 ≤ w.2.2.2.2.1) (h1_ : w.2.2.2.2.1 ≤ 26) (h2_ : ta 0 255 w.2.2.2.2.2.2.2.1) (h3_ : ta 0 2224 w.2.2.2.2.2.2.2.2) : ∃ r : Int32 × am_MS, f_M_door w = some r ∧ 0 ≤ r.2.2.2.2.2.1 ∧ r.2.2.2.2.2.1 ≤ 26 ∧ ta 0 255 r.2.2.2.2.2.2.2.2.1 ∧ ta 0 2224 r.2.2.2.2.2.2.2.2.2 ∧ (r.1 = 1 ∧ r.2.2.1 = 0 ∧ w.2.1 = 0 ∨ r.1 = 0 ∧ ¬ r.2.2.1 = 0) ∧ r.2.2.2.2.2.2.2.2.1 = w.2.2.2.2.2.2.2.1 := by
  rw [f_M_door]
  by_cases q1 : w.2.1 = 0
  · refine pu_pos q1 ?_
    by_cases q2 : w.2.2.2.1 = 0
    · refine pu_pos q2 ?_
      obtain ⟨r4, h3, p4⟩ := T_M_home w.2.2.2.2.2.1 w.2.2.2.2.2.2.1 w.2.2.2.2.2.2.2.2 (by assumption)
      refine pu_bind h3 ?_
      clear h3
      exact ⟨_, rfl, (by (first | assumption | (dsimp only; first | assumption | grind) | grind)), (by (first | assumption | (dsimp only; first | assumption | grind) | grind)), (by assumption), (by assumption), (by (first | assumption | (dsimp only; first | assumption | grind) | grind)), (by (first | assumption | (dsimp only; first | assumption | grind) | grind))⟩
    · refine pu_neg q2 ?_
      by_cases q5 : w.2.2.2.1 ≤ 0
      · refine pu_pos q5 ?_
        exact ⟨_, rfl, (by (first | assumption | (dsimp only; first | assumption | grind) | grind)), (by (first | assumption | (dsimp only; first | assumption | grind) | grind)), (by assumption), (by assumption), (by (first | assumption | (dsimp only; first | assumption | grind) | grind)), (by (first | assumption | (dsimp only; first | assumption | grind) | grind))⟩
      · refine pu_neg q5 ?_
        exact ⟨_, rfl, (by (first | assumption | (dsimp only; first | assumption | grind) | grind)), (by (first | assumption | (dsimp only; first | assumption | grind) | grind)), (by assumption), (by assumption), (by (first | assumption | (dsimp only; first | assumption | grind) | grind)), (by (first | assumption | (dsimp only; first | assumption | grind) | grind))⟩
  · refine pu_neg q1 ?_
    exact ⟨_, rfl, (by (first | assumption | (dsimp only; first | assumption | grind) | grind)), (by (first | assumption | (dsimp only; first | assumption | grind) | grind)), (by assumption), (by assumption), (by (first | assumption | (dsimp only; first | assumption | grind) | grind)), (by (first | assumption | (dsimp only; first | assumption | grind) | grind))⟩
set_option maxHeartbeats 4000000 in
theorem T_M_number (dk : Nat → Int32) (x1 : Int32) (x2 : Int32) (h0_ : ta 0 255 dk) (h1_ : 0 ≤ x1) (h2_ : x1 ≤ 2238) : ∃ r : (Nat → Int32), f_M_number dk x1 x2 = some r ∧ ta 0 255 r ∧ r = upd (upd dk x1.toNatClampNeg (x2 &&& 255)) (x1 + 1).toNatClampNeg ((x2 >>> (8 &&& 31)) &&& 255) := by
  rw [f_M_number]
  refine pu_pos (ti 2240 (by (first | assumption | (dsimp only; first | assumption | grind) | grind)) (by (first | assumption | (dsimp only; first | assumption | grind) | grind)) rfl) ?_
  refine pu_pos (ti 2240 (by (first | assumption | (dsimp only; first | assumption | grind) | grind)) (by (first | assumption | (dsimp only; first | assumption | grind) | grind)) rfl) ?_
  have n1 := tand x2 255 (by decide)
  have n2 := tand (x2 >>> (8 &&& 31)) 255 (by decide)
  exact ⟨_, rfl, (ta_upd (ta_upd (by assumption) (by (first | assumption | (dsimp only; first | assumption | grind) | grind)) (by (first | assumption | (dsimp only; first | assumption | grind) | grind))) (by (first | assumption | (dsimp only; first | assumption | grind) | grind)) (by (first | assumption | (dsimp only; first | assumption | grind) | grind))), (by (first | assumption | (dsimp only; first | assumption | grind) | grind))⟩
set_option maxHeartbeats 4000000 in
theorem T_M_set (w : am_MS) (x1 : Int32) (x2 : Int32) (h0_ : 0 ≤ w.2.2.2.2.1) (h1_ : w.2.2.2.2.1 ≤ 26) (h2_ : ta 0 255 w.2.2.2.2.2.2.2.1) (h3_ : ta 0 2224 w.2.2.2.2.2.2.2.2) (h4_ : 0 ≤ x1) (h5_ : x1 ≤ 63) : ∃ r : am_MS, f_M_set w x1 x2 = some r ∧ 0 ≤ r.2.2.2.2.1 ∧ r.2.2.2.2.1 ≤ 26 ∧ ta 0 255 r.2.2.2.2.2.2.2.1 ∧ ta 0 2224 r.2.2.2.2.2.2.2.2 ∧ ts w r x1 x2 := by
  rw [f_M_set]
  obtain ⟨r1, h1, p2, p3, p4, p5, p6, p7⟩ := T_M_door w (by (first | assumption | (dsimp only; first | assumption | grind) | grind)) (by (first | assumption | (dsimp only; first | assumption | grind) | grind)) (by assumption) (by assumption)
  refine pu_bind h1 ?_
  clear h1
  by_cases q8 : r1.1 = 0
  · refine pu_pos q8 ?_
    obtain ⟨r4, h9, p10, p11, p12, p13, p14, p15⟩ := T_M_door r1.2 (by (first | assumption | (dsimp only; first | assumption | grind) | grind)) (by (first | assumption | (dsimp only; first | assumption | grind) | grind)) (by assumption) (by assumption)
    refine pu_bind h9 ?_
    clear h9
    by_cases q16 : r4.1 = 0
    · refine pu_pos q16 ?_
      exact ⟨_, rfl, (by (first | assumption | (dsimp only; first | assumption | grind) | grind)), (by (first | assumption | (dsimp only; first | assumption | grind) | grind)), (by assumption), (by assumption), (by first | (exfalso; grind) | exact ts_d (by (first | assumption | (dsimp only; first | assumption | grind) | grind)) (by (first | assumption | (dsimp only; first | assumption | grind) | grind)) | exact ts_1 (by assumption) (by assumption) (by (first | assumption | (dsimp only; first | assumption | grind) | grind)) (by (first | assumption | (dsimp only; first | assumption | grind) | grind)) | exact ts_2 (f := r9) (by assumption) (by assumption) (by (first | assumption | (dsimp only; first | assumption | grind) | grind)) (by (first | assumption | (dsimp only; first | assumption | grind) | grind)) (by (first | assumption | (dsimp only; first | assumption | grind) | grind)))⟩
    · refine pu_neg q16 ?_
      obtain ⟨r7, h17, p18, p19⟩ := T_M_number r4.2.2.2.2.2.2.2.2.1 (128 + (2 * x1)) x2 (by assumption) (by (first | assumption | (dsimp only; first | assumption | grind) | grind)) (by (first | assumption | (dsimp only; first | assumption | grind) | grind))
      refine pu_bind h17 ?_
      clear h17
      exact ⟨_, rfl, (by (first | assumption | (dsimp only; first | assumption | grind) | grind)), (by (first | assumption | (dsimp only; first | assumption | grind) | grind)), (by assumption), (by assumption), (by first | (exfalso; grind) | exact ts_d (by (first | assumption | (dsimp only; first | assumption | grind) | grind)) (by (first | assumption | (dsimp only; first | assumption | grind) | grind)) | exact ts_1 (by assumption) (by assumption) (by (first | assumption | (dsimp only; first | assumption | grind) | grind)) (by (first | assumption | (dsimp only; first | assumption | grind) | grind)) | exact ts_2 (f := r9) (by assumption) (by assumption) (by (first | assumption | (dsimp only; first | assumption | grind) | grind)) (by (first | assumption | (dsimp only; first | assumption | grind) | grind)) (by (first | assumption | (dsimp only; first | assumption | grind) | grind)))⟩
  · refine pu_neg q8 ?_
    obtain ⟨r9, h20, p21, p22⟩ := T_M_number r1.2.2.2.2.2.2.2.2.1 (2 * x1) x2 (by assumption) (by (first | assumption | (dsimp only; first | assumption | grind) | grind)) (by (first | assumption | (dsimp only; first | assumption | grind) | grind))
    refine pu_bind h20 ?_
    clear h20
    obtain ⟨r11, h23, p24, p25, p26, p27, p28, p29⟩ := T_M_door (r1.2.1, r1.2.2.1, r1.2.2.2.1, r1.2.2.2.2.1, r1.2.2.2.2.2.1, r1.2.2.2.2.2.2.1, r1.2.2.2.2.2.2.2.1, r9, r1.2.2.2.2.2.2.2.2.2) (by (first | assumption | (dsimp only; first | assumption | grind) | grind)) (by (first | assumption | (dsimp only; first | assumption | grind) | grind)) (by assumption) (by assumption)
    refine pu_bind h23 ?_
    clear h23
    try dsimp only at p24 p25 p26 p27 p28 p29
    by_cases q30 : r11.1 = 0
    · refine pu_pos q30 ?_
      exact ⟨_, rfl, (by (first | assumption | (dsimp only; first | assumption | grind) | grind)), (by (first | assumption | (dsimp only; first | assumption | grind) | grind)), (by assumption), (by assumption), (by first | (exfalso; grind) | exact ts_d (by (first | assumption | (dsimp only; first | assumption | grind) | grind)) (by (first | assumption | (dsimp only; first | assumption | grind) | grind)) | exact ts_1 (by assumption) (by assumption) (by (first | assumption | (dsimp only; first | assumption | grind) | grind)) (by (first | assumption | (dsimp only; first | assumption | grind) | grind)) | exact ts_2 (f := r9) (by assumption) (by assumption) (by (first | assumption | (dsimp only; first | assumption | grind) | grind)) (by (first | assumption | (dsimp only; first | assumption | grind) | grind)) (by (first | assumption | (dsimp only; first | assumption | grind) | grind)))⟩
    · refine pu_neg q30 ?_
      obtain ⟨r14, h31, p32, p33⟩ := T_M_number r11.2.2.2.2.2.2.2.2.1 (128 + (2 * x1)) x2 (by assumption) (by (first | assumption | (dsimp only; first | assumption | grind) | grind)) (by (first | assumption | (dsimp only; first | assumption | grind) | grind))
      refine pu_bind h31 ?_
      clear h31
      exact ⟨_, rfl, (by (first | assumption | (dsimp only; first | assumption | grind) | grind)), (by (first | assumption | (dsimp only; first | assumption | grind) | grind)), (by assumption), (by assumption), (by first | (exfalso; grind) | exact ts_d (by (first | assumption | (dsimp only; first | assumption | grind) | grind)) (by (first | assumption | (dsimp only; first | assumption | grind) | grind)) | exact ts_1 (by assumption) (by assumption) (by (first | assumption | (dsimp only; first | assumption | grind) | grind)) (by (first | assumption | (dsimp only; first | assumption | grind) | grind)) | exact ts_2 (f := r9) (by assumption) (by assumption) (by (first | assumption | (dsimp only; first | assumption | grind) | grind)) (by (first | assumption | (dsimp only; first | assumption | grind) | grind)) (by (first | assumption | (dsimp only; first | assumption | grind) | grind)))⟩
set_option maxHeartbeats 4000000 in
theorem T_M_take_L46 : ∀ (fuel : Nat) (w : am_MS) (x1 : Int32) (x2 : Int32), 0 ≤ w.2.2.2.2.1 → w.2.2.2.2.1 ≤ 26 → ta 0 255 w.2.2.2.2.2.2.2.1 → ta 0 2224 w.2.2.2.2.2.2.2.2 → 0 ≤ x2 → 2 ≤ x1 → x1 ≤ 63 → tm 32 x2 fuel → ∃ r : Int32 × am_MS, f_M_take_L46 fuel w x1 x2 = some r ∧ r.1 = x1 ∧ 0 ≤ r.2.2.2.2.2.1 ∧ r.2.2.2.2.2.1 ≤ 26 ∧ ta 0 255 r.2.2.2.2.2.2.2.2.1 ∧ ta 0 2224 r.2.2.2.2.2.2.2.2.2 ∧ tk w r.2 := by
  intro fuel
  induction fuel with
  | zero =>
    intro w x1 x2 h0_ h1_ h2_ h3_ h4_ h5_ h6_ hm
    exact (tm0 hm).elim
  | succ fuel ih =>
    intro w x1 x2 h0_ h1_ h2_ h3_ h4_ h5_ h6_ hm
    rw [f_M_take_L46]
    by_cases q1 : 32 ≤ x2
    · refine pu_pos q1 ?_
      exact ⟨_, rfl, (by (try clear ih); (first | assumption | (dsimp only; first | assumption | grind) | grind)), (by (try clear ih); (first | assumption | (dsimp only; first | assumption | grind) | grind)), (by (try clear ih); (first | assumption | (dsimp only; first | assumption | grind) | grind)), (by assumption), (by assumption), (by first | exact tk_r | assumption | exact tk_e (by (try clear ih); (first | assumption | (dsimp only; first | assumption | grind) | grind)) (by (try clear ih); (first | assumption | (dsimp only; first | assumption | grind) | grind)) | exact tk_b (by (try clear ih); (first | assumption | (dsimp only; first | assumption | grind) | grind)) (by (try clear ih); (first | assumption | (dsimp only; first | assumption | grind) | grind)) rfl (by first | assumption | rfl) | exact tk_n (by (try clear ih); (first | assumption | (dsimp only; first | assumption | grind) | grind)) (by (try clear ih); (first | assumption | (dsimp only; first | assumption | grind) | grind)) (by (try clear ih); (first | assumption | (dsimp only; first | assumption | grind) | grind)) (by assumption) (by assumption))⟩
    · refine pu_neg q1 ?_
      refine pu_pos (ti 2240 (by (try clear ih); (first | assumption | (dsimp only; first | assumption | grind) | grind)) (by (try clear ih); (first | assumption | (dsimp only; first | assumption | grind) | grind)) rfl) ?_
      obtain ⟨z2, e3, q4, q5, q6, q7, q8, q9⟩ := ih (w.1, w.2.1, w.2.2.1, w.2.2.2.1, w.2.2.2.2.1, w.2.2.2.2.2.1, w.2.2.2.2.2.2.1, (upd w.2.2.2.2.2.2.2.1 ((32 * (x1 + 6)) + x2).toNatClampNeg 0), w.2.2.2.2.2.2.2.2) x1 (x2 + 1) (by (try clear ih); (first | assumption | (dsimp only; first | assumption | grind) | grind)) (by (try clear ih); (first | assumption | (dsimp only; first | assumption | grind) | grind)) (ta_upd (by assumption) (by (try clear ih); (first | assumption | (dsimp only; first | assumption | grind) | grind)) (by (try clear ih); (first | assumption | (dsimp only; first | assumption | grind) | grind))) (by assumption) (by (try clear ih); (first | assumption | (dsimp only; first | assumption | grind) | grind)) (by (try clear ih); (first | assumption | (dsimp only; first | assumption | grind) | grind)) (by (try clear ih); (first | assumption | (dsimp only; first | assumption | grind) | grind)) (tm1 (by (try clear ih); (first | assumption | (dsimp only; first | assumption | grind) | grind)) hm)
      exact ⟨z2, e3, q4, q5, q6, q7, q8, (tk_t (by first | exact tk_r | assumption | exact tk_e (by (try clear ih); (first | assumption | (dsimp only; first | assumption | grind) | grind)) (by (try clear ih); (first | assumption | (dsimp only; first | assumption | grind) | grind)) | exact tk_b (by (try clear ih); (first | assumption | (dsimp only; first | assumption | grind) | grind)) (by (try clear ih); (first | assumption | (dsimp only; first | assumption | grind) | grind)) rfl (by first | assumption | rfl) | exact tk_n (by (try clear ih); (first | assumption | (dsimp only; first | assumption | grind) | grind)) (by (try clear ih); (first | assumption | (dsimp only; first | assumption | grind) | grind)) (by (try clear ih); (first | assumption | (dsimp only; first | assumption | grind) | grind)) (by assumption) (by assumption)) q9)⟩
set_option maxHeartbeats 4000000 in
theorem T_M_take_L2 : ∀ (fuel : Nat) (w : am_MS) (x1 : Int32), 0 ≤ w.2.2.2.2.1 → w.2.2.2.2.1 ≤ 26 → ta 0 255 w.2.2.2.2.2.2.2.1 → ta 0 2224 w.2.2.2.2.2.2.2.2 → 0 ≤ x1 → 2 ≤ x1 → x1 ≤ 64 → tm 64 x1 fuel → ∃ r : Int32 × am_MS, f_M_take_L2 fuel w x1 = some r ∧ 0 ≤ r.2.2.2.2.2.1 ∧ r.2.2.2.2.2.1 ≤ 26 ∧ ta 0 255 r.2.2.2.2.2.2.2.2.1 ∧ ta 0 2224 r.2.2.2.2.2.2.2.2.2 ∧ (r.1 = 0 ∨ 2 ≤ r.1 ∧ r.1 ≤ 63) ∧ tg w r := by
  intro fuel
  induction fuel with
  | zero =>
    intro w x1 h0_ h1_ h2_ h3_ h4_ h5_ h6_ hm
    exact (tm0 hm).elim
  | succ fuel ih =>
    intro w x1 h0_ h1_ h2_ h3_ h4_ h5_ h6_ hm
    rw [f_M_take_L2]
    by_cases q1 : 64 ≤ x1
    · refine pu_pos q1 ?_
      by_cases q2 : x1 = 64
      · refine pu_pos q2 ?_
        exact ⟨_, rfl, (by (try clear ih); (first | assumption | (dsimp only; first | assumption | grind) | grind)), (by (try clear ih); (first | assumption | (dsimp only; first | assumption | grind) | grind)), (by assumption), (by assumption), (by (try clear ih); (first | assumption | (dsimp only; first | assumption | grind) | grind)), (by first | exact fun h9 _ => absurd rfl h9 | exact fun _ z9 => absurd z9 (by (try clear ih); (first | assumption | (dsimp only; first | assumption | grind) | grind)) | exact tg_i (by assumption) (by (try clear ih); (first | assumption | (dsimp only; first | assumption | grind) | grind)) (by assumption) (by assumption) (by (try clear ih); (first | assumption | (dsimp only; first | assumption | grind) | grind)) (by (try clear ih); (first | assumption | (dsimp only; first | assumption | grind) | grind)) (by (try clear ih); (first | assumption | (dsimp only; first | assumption | grind) | grind)))⟩
      · refine pu_neg q2 ?_
        obtain ⟨r3, h3, p4, p5, p6, p7, p8⟩ := T_M_set w x1 65535 (by (try clear ih); (first | assumption | (dsimp only; first | assumption | grind) | grind)) (by (try clear ih); (first | assumption | (dsimp only; first | assumption | grind) | grind)) (by assumption) (by assumption) (by (try clear ih); (first | assumption | (dsimp only; first | assumption | grind) | grind)) (by (try clear ih); (first | assumption | (dsimp only; first | assumption | grind) | grind))
        refine pu_bind h3 ?_
        clear h3
        obtain ⟨r5, h9, p10, p11, p12, p13, p14, p15⟩ := T_M_door r3 (by (try clear ih); (first | assumption | (dsimp only; first | assumption | grind) | grind)) (by (try clear ih); (first | assumption | (dsimp only; first | assumption | grind) | grind)) (by assumption) (by assumption)
        refine pu_bind h9 ?_
        clear h9
        by_cases q16 : r5.1 = 0
        · refine pu_pos q16 ?_
          exact ⟨_, rfl, (by (try clear ih); (first | assumption | (dsimp only; first | assumption | grind) | grind)), (by (try clear ih); (first | assumption | (dsimp only; first | assumption | grind) | grind)), (by assumption), (by assumption), (by (try clear ih); (first | assumption | (dsimp only; first | assumption | grind) | grind)), (by first | exact fun h9 _ => absurd rfl h9 | exact fun _ z9 => absurd z9 (by (try clear ih); (first | assumption | (dsimp only; first | assumption | grind) | grind)) | exact tg_i (by assumption) (by (try clear ih); (first | assumption | (dsimp only; first | assumption | grind) | grind)) (by assumption) (by assumption) (by (try clear ih); (first | assumption | (dsimp only; first | assumption | grind) | grind)) (by (try clear ih); (first | assumption | (dsimp only; first | assumption | grind) | grind)) (by (try clear ih); (first | assumption | (dsimp only; first | assumption | grind) | grind)))⟩
        · refine pu_neg q16 ?_
          obtain ⟨z17, e18, q19, q20, q21, q22, q23, q24⟩ := T_M_take_L46 100000000000 r5.2 x1 0 (by (try clear ih); (first | assumption | (dsimp only; first | assumption | grind) | grind)) (by (try clear ih); (first | assumption | (dsimp only; first | assumption | grind) | grind)) (by assumption) (by assumption) (by (try clear ih); (first | assumption | (dsimp only; first | assumption | grind) | grind)) (by (try clear ih); (first | assumption | (dsimp only; first | assumption | grind) | grind)) (by (try clear ih); (first | assumption | (dsimp only; first | assumption | grind) | grind)) (tmz _ _)
          exact ⟨z17, e18, q20, q21, q22, q23, (by (try clear ih); (first | assumption | (dsimp only; first | assumption | grind) | grind)), (by first | exact fun h9 _ => absurd rfl h9 | exact fun _ z9 => absurd z9 (by (try clear ih); (first | assumption | (dsimp only; first | assumption | grind) | grind)) | exact tg_i (by assumption) (by (try clear ih); (first | assumption | (dsimp only; first | assumption | grind) | grind)) (by assumption) (by assumption) (by (try clear ih); (first | assumption | (dsimp only; first | assumption | grind) | grind)) (by (try clear ih); (first | assumption | (dsimp only; first | assumption | grind) | grind)) (by (try clear ih); (first | assumption | (dsimp only; first | assumption | grind) | grind)))⟩
    · refine pu_neg q1 ?_
      obtain ⟨r10, h25, p26, p27, p28⟩ := T_M_cell w.2.2.2.2.2.2.2.1 x1 (by assumption) (by (try clear ih); (first | assumption | (dsimp only; first | assumption | grind) | grind)) (by (try clear ih); (first | assumption | (dsimp only; first | assumption | grind) | grind))
      refine pu_bind h25 ?_
      clear h25
      by_cases q29 : r10 = 0
      · refine pu_pos q29 ?_
        by_cases q30 : x1 = 64
        · refine pu_pos q30 ?_
          exact ⟨_, rfl, (by (try clear ih); (first | assumption | (dsimp only; first | assumption | grind) | grind)), (by (try clear ih); (first | assumption | (dsimp only; first | assumption | grind) | grind)), (by assumption), (by assumption), (by (try clear ih); (first | assumption | (dsimp only; first | assumption | grind) | grind)), (by first | exact fun h9 _ => absurd rfl h9 | exact fun _ z9 => absurd z9 (by (try clear ih); (first | assumption | (dsimp only; first | assumption | grind) | grind)) | exact tg_i (by assumption) (by (try clear ih); (first | assumption | (dsimp only; first | assumption | grind) | grind)) (by assumption) (by assumption) (by (try clear ih); (first | assumption | (dsimp only; first | assumption | grind) | grind)) (by (try clear ih); (first | assumption | (dsimp only; first | assumption | grind) | grind)) (by (try clear ih); (first | assumption | (dsimp only; first | assumption | grind) | grind)))⟩
        · refine pu_neg q30 ?_
          obtain ⟨r14, h31, p32, p33, p34, p35, p36⟩ := T_M_set w x1 65535 (by (try clear ih); (first | assumption | (dsimp only; first | assumption | grind) | grind)) (by (try clear ih); (first | assumption | (dsimp only; first | assumption | grind) | grind)) (by assumption) (by assumption) (by (try clear ih); (first | assumption | (dsimp only; first | assumption | grind) | grind)) (by (try clear ih); (first | assumption | (dsimp only; first | assumption | grind) | grind))
          refine pu_bind h31 ?_
          clear h31
          obtain ⟨r16, h37, p38, p39, p40, p41, p42, p43⟩ := T_M_door r14 (by (try clear ih); (first | assumption | (dsimp only; first | assumption | grind) | grind)) (by (try clear ih); (first | assumption | (dsimp only; first | assumption | grind) | grind)) (by assumption) (by assumption)
          refine pu_bind h37 ?_
          clear h37
          by_cases q44 : r16.1 = 0
          · refine pu_pos q44 ?_
            exact ⟨_, rfl, (by (try clear ih); (first | assumption | (dsimp only; first | assumption | grind) | grind)), (by (try clear ih); (first | assumption | (dsimp only; first | assumption | grind) | grind)), (by assumption), (by assumption), (by (try clear ih); (first | assumption | (dsimp only; first | assumption | grind) | grind)), (by first | exact fun h9 _ => absurd rfl h9 | exact fun _ z9 => absurd z9 (by (try clear ih); (first | assumption | (dsimp only; first | assumption | grind) | grind)) | exact tg_i (by assumption) (by (try clear ih); (first | assumption | (dsimp only; first | assumption | grind) | grind)) (by assumption) (by assumption) (by (try clear ih); (first | assumption | (dsimp only; first | assumption | grind) | grind)) (by (try clear ih); (first | assumption | (dsimp only; first | assumption | grind) | grind)) (by (try clear ih); (first | assumption | (dsimp only; first | assumption | grind) | grind)))⟩
          · refine pu_neg q44 ?_
            obtain ⟨z45, e46, q47, q48, q49, q50, q51, q52⟩ := T_M_take_L46 100000000000 r16.2 x1 0 (by (try clear ih); (first | assumption | (dsimp only; first | assumption | grind) | grind)) (by (try clear ih); (first | assumption | (dsimp only; first | assumption | grind) | grind)) (by assumption) (by assumption) (by (try clear ih); (first | assumption | (dsimp only; first | assumption | grind) | grind)) (by (try clear ih); (first | assumption | (dsimp only; first | assumption | grind) | grind)) (by (try clear ih); (first | assumption | (dsimp only; first | assumption | grind) | grind)) (tmz _ _)
            exact ⟨z45, e46, q48, q49, q50, q51, (by (try clear ih); (first | assumption | (dsimp only; first | assumption | grind) | grind)), (by first | exact fun h9 _ => absurd rfl h9 | exact fun _ z9 => absurd z9 (by (try clear ih); (first | assumption | (dsimp only; first | assumption | grind) | grind)) | exact tg_i (by assumption) (by (try clear ih); (first | assumption | (dsimp only; first | assumption | grind) | grind)) (by assumption) (by assumption) (by (try clear ih); (first | assumption | (dsimp only; first | assumption | grind) | grind)) (by (try clear ih); (first | assumption | (dsimp only; first | assumption | grind) | grind)) (by (try clear ih); (first | assumption | (dsimp only; first | assumption | grind) | grind)))⟩
      · refine pu_neg q29 ?_
        exact ih w (x1 + 1) (by (try clear ih); (first | assumption | (dsimp only; first | assumption | grind) | grind)) (by (try clear ih); (first | assumption | (dsimp only; first | assumption | grind) | grind)) (by assumption) (by assumption) (by (try clear ih); (first | assumption | (dsimp only; first | assumption | grind) | grind)) (by (try clear ih); (first | assumption | (dsimp only; first | assumption | grind) | grind)) (by (try clear ih); (first | assumption | (dsimp only; first | assumption | grind) | grind)) (tm1 (by (try clear ih); (first | assumption | (dsimp only; first | assumption | grind) | grind)) hm)
