set_option maxHeartbeats 4000000 in
theorem T_M_take (w : am_MS) (h0_ : 0 ≤ w.2.2.2.2.1) (h1_ : w.2.2.2.2.1 ≤ 26) (h2_ : ta 0 255 w.2.2.2.2.2.2.2.1) (h3_ : ta 0 2224 w.2.2.2.2.2.2.2.2) : ∃ r : Int32 × am_MS, f_M_take w = some r ∧ 0 ≤ r.2.2.2.2.2.1 ∧ r.2.2.2.2.2.1 ≤ 26 ∧ ta 0 255 r.2.2.2.2.2.2.2.2.1 ∧ ta 0 2224 r.2.2.2.2.2.2.2.2.2 ∧ (r.1 = 0 ∨ 2 ≤ r.1 ∧ r.1 ≤ 63) ∧ tg w r := by
  rw [f_M_take]
  exact T_M_take_L2 100000000000 w 2 (by (first | assumption | (dsimp only; first | assumption | grind) | grind)) (by (first | assumption | (dsimp only; first | assumption | grind) | grind)) (by assumption) (by assumption) (by (first | assumption | (dsimp only; first | assumption | grind) | grind)) (by (first | assumption | (dsimp only; first | assumption | grind) | grind)) (by (first | assumption | (dsimp only; first | assumption | grind) | grind)) (tmz _ _)
set_option maxHeartbeats 4000000 in
theorem T_M_space_L26 (k13 : Int32 → (Nat → Int32) → Int32 → Int32 → Int32 → Option (Int32)) (fo13 : Nat) (hk13 : ∀ (mh : Int32) (dk : Nat → Int32) (x1 : Int32) (x2 : Int32) (x3 : Int32), ta 0 255 dk → 0 ≤ x3 → 1 ≤ x1 → x1 ≤ 3 → 0 ≤ x2 → x2 ≤ 128 → x3 ≤ 129 → tm (x2 - x1) x3 fo13 → ∃ r : Int32, k13 mh dk x1 x2 x3 = some r ∧ True) : ∀ (fuel : Nat) (mh : Int32) (dk : Nat → Int32) (x1 : Int32) (x2 : Int32) (x3 : Int32) (x4 : Int32) (x5 : Int32), ta 0 255 dk → 0 ≤ x3 → 1 ≤ x1 → x1 ≤ 3 → 0 ≤ x2 → x2 ≤ 128 → x3 ≤ 129 → ¬ (x2 - x1) < x3 → 0 ≤ x5 → tm (x2 - x1) x3 (fo13 + 1) → tm x1 x5 fuel → ∃ r : Int32, f_M_space_L26 k13 fuel mh dk x1 x2 x3 x4 x5 = some r ∧ True := by
  intro fuel
  induction fuel with
  | zero =>
    intro mh dk x1 x2 x3 x4 x5 h0_ h1_ h2_ h3_ h4_ h5_ h6_ h7_ h8_ hm13 hm
    exact (tm0 hm).elim
  | succ fuel ih =>
    intro mh dk x1 x2 x3 x4 x5 h0_ h1_ h2_ h3_ h4_ h5_ h6_ h7_ h8_ hm13 hm
    rw [f_M_space_L26]
    by_cases q1 : x1 ≤ x5
    · refine pu_pos q1 ?_
      by_cases q2 : x4 = 0
      · refine pu_pos q2 ?_
        exact hk13 mh dk x1 x2 (x3 + 1) (by assumption) (by (try clear ih); (try clear hk13); (first | assumption | (dsimp only; first | assumption | grind) | grind)) (by (try clear ih); (try clear hk13); (first | assumption | (dsimp only; first | assumption | grind) | grind)) (by (try clear ih); (try clear hk13); (first | assumption | (dsimp only; first | assumption | grind) | grind)) (by (try clear ih); (try clear hk13); (first | assumption | (dsimp only; first | assumption | grind) | grind)) (by (try clear ih); (try clear hk13); (first | assumption | (dsimp only; first | assumption | grind) | grind)) (by (try clear ih); (try clear hk13); (first | assumption | (dsimp only; first | assumption | grind) | grind)) (tm2 (by (try clear ih); (try clear hk13); (first | assumption | (dsimp only; first | assumption | grind) | grind)) (by (try clear ih); (try clear hk13); (first | assumption | (dsimp only; first | assumption | grind) | grind)) hm13)
      · refine pu_neg q2 ?_
        exact ⟨_, rfl, trivial⟩
    · refine pu_neg q1 ?_
      by_cases q3 : x4 = 0
      · refine pu_pos q3 ?_
        exact ih mh dk x1 x2 x3 0 (x5 + 1) (by assumption) (by (try clear ih); (try clear hk13); (first | assumption | (dsimp only; first | assumption | grind) | grind)) (by (try clear ih); (try clear hk13); (first | assumption | (dsimp only; first | assumption | grind) | grind)) (by (try clear ih); (try clear hk13); (first | assumption | (dsimp only; first | assumption | grind) | grind)) (by (try clear ih); (try clear hk13); (first | assumption | (dsimp only; first | assumption | grind) | grind)) (by (try clear ih); (try clear hk13); (first | assumption | (dsimp only; first | assumption | grind) | grind)) (by (try clear ih); (try clear hk13); (first | assumption | (dsimp only; first | assumption | grind) | grind)) (by (try clear ih); (try clear hk13); (first | assumption | (dsimp only; first | assumption | grind) | grind)) (by (try clear ih); (try clear hk13); (first | assumption | (dsimp only; first | assumption | grind) | grind)) hm13 (tm1 (by (try clear ih); (try clear hk13); (first | assumption | (dsimp only; first | assumption | grind) | grind)) hm)
      · refine pu_neg q3 ?_
        obtain ⟨r7, h4, p5, p6, p7⟩ := T_M_place dk mh (x3 + x5) (by assumption)
        refine pu_bind h4 ?_
        clear h4
        obtain ⟨r9, h8, p9⟩ := T_M_isFree dk r7 (by assumption) (by (try clear ih); (try clear hk13); (first | assumption | (dsimp only; first | assumption | grind) | grind)) (by (try clear ih); (try clear hk13); (first | assumption | (dsimp only; first | assumption | grind) | grind))
        refine pu_bind h8 ?_
        clear h8
        by_cases q10 : r9 = 0
        · refine pu_pos q10 ?_
          exact ih mh dk x1 x2 x3 0 (x5 + 1) (by assumption) (by (try clear ih); (try clear hk13); (first | assumption | (dsimp only; first | assumption | grind) | grind)) (by (try clear ih); (try clear hk13); (first | assumption | (dsimp only; first | assumption | grind) | grind)) (by (try clear ih); (try clear hk13); (first | assumption | (dsimp only; first | assumption | grind) | grind)) (by (try clear ih); (try clear hk13); (first | assumption | (dsimp only; first | assumption | grind) | grind)) (by (try clear ih); (try clear hk13); (first | assumption | (dsimp only; first | assumption | grind) | grind)) (by (try clear ih); (try clear hk13); (first | assumption | (dsimp only; first | assumption | grind) | grind)) (by (try clear ih); (try clear hk13); (first | assumption | (dsimp only; first | assumption | grind) | grind)) (by (try clear ih); (try clear hk13); (first | assumption | (dsimp only; first | assumption | grind) | grind)) hm13 (tm1 (by (try clear ih); (try clear hk13); (first | assumption | (dsimp only; first | assumption | grind) | grind)) hm)
        · refine pu_neg q10 ?_
          exact ih mh dk x1 x2 x3 1 (x5 + 1) (by assumption) (by (try clear ih); (try clear hk13); (first | assumption | (dsimp only; first | assumption | grind) | grind)) (by (try clear ih); (try clear hk13); (first | assumption | (dsimp only; first | assumption | grind) | grind)) (by (try clear ih); (try clear hk13); (first | assumption | (dsimp only; first | assumption | grind) | grind)) (by (try clear ih); (try clear hk13); (first | assumption | (dsimp only; first | assumption | grind) | grind)) (by (try clear ih); (try clear hk13); (first | assumption | (dsimp only; first | assumption | grind) | grind)) (by (try clear ih); (try clear hk13); (first | assumption | (dsimp only; first | assumption | grind) | grind)) (by (try clear ih); (try clear hk13); (first | assumption | (dsimp only; first | assumption | grind) | grind)) (by (try clear ih); (try clear hk13); (first | assumption | (dsimp only; first | assumption | grind) | grind)) hm13 (tm1 (by (try clear ih); (try clear hk13); (first | assumption | (dsimp only; first | assumption | grind) | grind)) hm)
set_option maxHeartbeats 4000000 in
theorem T_M_space_L13 : ∀ (fuel : Nat) (mh : Int32) (dk : Nat → Int32) (x1 : Int32) (x2 : Int32) (x3 : Int32), ta 0 255 dk → 0 ≤ x3 → 1 ≤ x1 → x1 ≤ 3 → 0 ≤ x2 → x2 ≤ 128 → x3 ≤ 129 → tm (x2 - x1) x3 fuel → ∃ r : Int32, f_M_space_L13 fuel mh dk x1 x2 x3 = some r ∧ True := by
  intro fuel
  induction fuel with
  | zero =>
    intro mh dk x1 x2 x3 h0_ h1_ h2_ h3_ h4_ h5_ h6_ hm
    exact (tm0 hm).elim
  | succ fuel ih =>
    intro mh dk x1 x2 x3 h0_ h1_ h2_ h3_ h4_ h5_ h6_ hm
    rw [f_M_space_L13]
    by_cases q1 : x2 < (x3 + x1)
    · refine pu_pos q1 ?_
      exact ⟨_, rfl, trivial⟩
    · refine pu_neg q1 ?_
      exact T_M_space_L26 (f_M_space_L13 fuel) fuel ih 100000000000 mh dk x1 x2 x3 1 0 (by assumption) (by (try clear ih); (first | assumption | (dsimp only; first | assumption | grind) | grind)) (by (try clear ih); (first | assumption | (dsimp only; first | assumption | grind) | grind)) (by (try clear ih); (first | assumption | (dsimp only; first | assumption | grind) | grind)) (by (try clear ih); (first | assumption | (dsimp only; first | assumption | grind) | grind)) (by (try clear ih); (first | assumption | (dsimp only; first | assumption | grind) | grind)) (by (try clear ih); (first | assumption | (dsimp only; first | assumption | grind) | grind)) (by (try clear ih); (first | assumption | (dsimp only; first | assumption | grind) | grind)) (by (try clear ih); (first | assumption | (dsimp only; first | assumption | grind) | grind)) hm (tmz _ _)
set_option maxHeartbeats 4000000 in
theorem T_M_space (mh : Int32) (dk : Nat → Int32) (x1 : Int32) (h0_ : ta 0 255 dk) (h1_ : 1 ≤ x1) (h2_ : x1 ≤ 3) : ∃ r : Int32, f_M_space mh dk x1 = some r ∧ True := by
  rw [f_M_space]
  obtain ⟨r1, h1, p2, p3, p4⟩ := T_M_length dk mh (by assumption)
  refine pu_bind h1 ?_
  clear h1
  exact T_M_space_L13 100000000000 mh dk x1 (2 * r1) 0 (by assumption) (by (first | assumption | (dsimp only; first | assumption | grind) | grind)) (by (first | assumption | (dsimp only; first | assumption | grind) | grind)) (by (first | assumption | (dsimp only; first | assumption | grind) | grind)) (by (first | assumption | (dsimp only; first | assumption | grind) | grind)) (by (first | assumption | (dsimp only; first | assumption | grind) | grind)) (by (first | assumption | (dsimp only; first | assumption | grind) | grind)) (tmz _ _)
set_option maxHeartbeats 4000000 in
theorem T_M_writePart_L84 : ∀ (fuel : Nat) (w : am_MS) (mp : Int32) (ml : Nat → Int32) (nm : Nat → Int32) (x1 : Int32) (x2 : Int32) (x4 : Int32), 0 ≤ w.2.2.2.2.1 → w.2.2.2.2.1 ≤ 26 → ta 0 255 w.2.2.2.2.2.2.2.1 → ta 0 2224 w.2.2.2.2.2.2.2.2 → 0 ≤ mp → mp ≤ 2 → ta 0 255 ml → ta 0 255 nm → 0 ≤ x4 → 176 ≤ x1 → x1 ≤ 2224 → 1 ≤ x2 → x2 ≤ 2 → tm 13 x4 fuel → ∃ r : am_MS, f_M_writePart_L84 fuel w mp ml nm x1 x2 x4 = some r ∧ 0 ≤ r.2.2.2.2.1 ∧ r.2.2.2.2.1 ≤ 26 ∧ ta 0 255 r.2.2.2.2.2.2.2.1 ∧ ta 0 2224 r.2.2.2.2.2.2.2.2 := by
  intro fuel
  induction fuel with
  | zero =>
    intro w mp ml nm x1 x2 x4 h0_ h1_ h2_ h3_ h4_ h5_ h6_ h7_ h8_ h9_ h10_ h11_ h12_ hm
    exact (tm0 hm).elim
  | succ fuel ih =>
    intro w mp ml nm x1 x2 x4 h0_ h1_ h2_ h3_ h4_ h5_ h6_ h7_ h8_ h9_ h10_ h11_ h12_ hm
    rw [f_M_writePart_L84]
    by_cases q1 : 13 ≤ x4
    · refine pu_pos q1 ?_
      exact ⟨_, rfl, (by (try clear ih); (first | assumption | (dsimp only; first | assumption | grind) | grind)), (by (try clear ih); (first | assumption | (dsimp only; first | assumption | grind) | grind)), (by assumption), (by assumption)⟩
    · refine pu_neg q1 ?_
      obtain ⟨r10, h2, p3⟩ := T_M_spot x4 
      refine pu_bind h2 ?_
      clear h2
      by_cases q4 : w.2.2.2.2.1 ≤ (((13 * x2) - 13) + x4)
      · refine pu_pos q4 ?_
        refine pu_pos (ti 2240 (by (try clear ih); (first | assumption | (dsimp only; first | assumption | grind) | grind)) (by (try clear ih); (first | assumption | (dsimp only; first | assumption | grind) | grind)) rfl) ?_
        exact ih (w.1, w.2.1, w.2.2.1, w.2.2.2.1, w.2.2.2.2.1, w.2.2.2.2.2.1, w.2.2.2.2.2.2.1, (upd w.2.2.2.2.2.2.2.1 (x1 + r10).toNatClampNeg 0), w.2.2.2.2.2.2.2.2) mp ml nm x1 x2 (x4 + 1) (by (try clear ih); (first | assumption | (dsimp only; first | assumption | grind) | grind)) (by (try clear ih); (first | assumption | (dsimp only; first | assumption | grind) | grind)) (ta_upd (by assumption) (by (try clear ih); (first | assumption | (dsimp only; first | assumption | grind) | grind)) (by (try clear ih); (first | assumption | (dsimp only; first | assumption | grind) | grind))) (by assumption) (by (try clear ih); (first | assumption | (dsimp only; first | assumption | grind) | grind)) (by (try clear ih); (first | assumption | (dsimp only; first | assumption | grind) | grind)) (by assumption) (by assumption) (by (try clear ih); (first | assumption | (dsimp only; first | assumption | grind) | grind)) (by (try clear ih); (first | assumption | (dsimp only; first | assumption | grind) | grind)) (by (try clear ih); (first | assumption | (dsimp only; first | assumption | grind) | grind)) (by (try clear ih); (first | assumption | (dsimp only; first | assumption | grind) | grind)) (by (try clear ih); (first | assumption | (dsimp only; first | assumption | grind) | grind)) (tm1 (by (try clear ih); (first | assumption | (dsimp only; first | assumption | grind) | grind)) hm)
      · refine pu_neg q4 ?_
        refine pu_pos (ti 26 (by (try clear ih); (first | assumption | (dsimp only; first | assumption | grind) | grind)) (by (try clear ih); (first | assumption | (dsimp only; first | assumption | grind) | grind)) rfl) ?_
        refine pu_pos (ti 2240 (by (try clear ih); (first | assumption | (dsimp only; first | assumption | grind) | grind)) (by (try clear ih); (first | assumption | (dsimp only; first | assumption | grind) | grind)) rfl) ?_
        have a5 := ((by assumption) : ta 0 255 ml) (((13 * x2) - 13) + x4).toNatClampNeg
        exact ih (w.1, w.2.1, w.2.2.1, w.2.2.2.1, w.2.2.2.2.1, w.2.2.2.2.2.1, w.2.2.2.2.2.2.1, (upd w.2.2.2.2.2.2.2.1 (x1 + r10).toNatClampNeg (ml (((13 * x2) - 13) + x4).toNatClampNeg)), w.2.2.2.2.2.2.2.2) mp ml nm x1 x2 (x4 + 1) (by (try clear ih); (first | assumption | (dsimp only; first | assumption | grind) | grind)) (by (try clear ih); (first | assumption | (dsimp only; first | assumption | grind) | grind)) (ta_upd (by assumption) (by (try clear ih); (first | assumption | (dsimp only; first | assumption | grind) | grind)) (by (try clear ih); (first | assumption | (dsimp only; first | assumption | grind) | grind))) (by assumption) (by (try clear ih); (first | assumption | (dsimp only; first | assumption | grind) | grind)) (by (try clear ih); (first | assumption | (dsimp only; first | assumption | grind) | grind)) (by assumption) (by assumption) (by (try clear ih); (first | assumption | (dsimp only; first | assumption | grind) | grind)) (by (try clear ih); (first | assumption | (dsimp only; first | assumption | grind) | grind)) (by (try clear ih); (first | assumption | (dsimp only; first | assumption | grind) | grind)) (by (try clear ih); (first | assumption | (dsimp only; first | assumption | grind) | grind)) (by (try clear ih); (first | assumption | (dsimp only; first | assumption | grind) | grind)) (tm1 (by (try clear ih); (first | assumption | (dsimp only; first | assumption | grind) | grind)) hm)
set_option maxHeartbeats 4000000 in
theorem T_M_writePart_L13 : ∀ (fuel : Nat) (w : am_MS) (mp : Int32) (ml : Nat → Int32) (nm : Nat → Int32) (x1 : Int32) (x2 : Int32) (x3 : Int32) (x4 : Int32), 0 ≤ w.2.2.2.2.1 → w.2.2.2.2.1 ≤ 26 → ta 0 255 w.2.2.2.2.2.2.2.1 → ta 0 2224 w.2.2.2.2.2.2.2.2 → 0 ≤ mp → mp ≤ 2 → ta 0 255 ml → ta 0 255 nm → 0 ≤ x4 → 176 ≤ x1 → x1 ≤ 2224 → 1 ≤ x2 → x2 ≤ 2 → 0 ≤ x3 → x3 ≤ 255 → tm 6 x4 fuel → ∃ r : am_MS, f_M_writePart_L13 fuel w mp ml nm x1 x2 x3 x4 = some r ∧ 0 ≤ r.2.2.2.2.1 ∧ r.2.2.2.2.1 ≤ 26 ∧ ta 0 255 r.2.2.2.2.2.2.2.1 ∧ ta 0 2224 r.2.2.2.2.2.2.2.2 := by
  intro fuel
  induction fuel with
  | zero =>
    intro w mp ml nm x1 x2 x3 x4 h0_ h1_ h2_ h3_ h4_ h5_ h6_ h7_ h8_ h9_ h10_ h11_ h12_ h13_ h14_ hm
    exact (tm0 hm).elim
  | succ fuel ih =>
    intro w mp ml nm x1 x2 x3 x4 h0_ h1_ h2_ h3_ h4_ h5_ h6_ h7_ h8_ h9_ h10_ h11_ h12_ h13_ h14_ hm
    rw [f_M_writePart_L13]
    by_cases q1 : 6 ≤ x4
    · refine pu_pos q1 ?_
      by_cases q2 : x2 = mp
      · refine pu_pos q2 ?_
        refine pu_pos (ti 2240 (by (try clear ih); (first | assumption | (dsimp only; first | assumption | grind) | grind)) (by (try clear ih); (first | assumption | (dsimp only; first | assumption | grind) | grind)) rfl) ?_
        refine pu_pos (ti 2240 (by (try clear ih); (first | assumption | (dsimp only; first | assumption | grind) | grind)) (by (try clear ih); (first | assumption | (dsimp only; first | assumption | grind) | grind)) rfl) ?_
        refine pu_pos (ti 2240 (by (try clear ih); (first | assumption | (dsimp only; first | assumption | grind) | grind)) (by (try clear ih); (first | assumption | (dsimp only; first | assumption | grind) | grind)) rfl) ?_
        exact T_M_writePart_L84 100000000000 (w.1, w.2.1, w.2.2.1, w.2.2.2.1, w.2.2.2.2.1, w.2.2.2.2.2.1, w.2.2.2.2.2.2.1, (upd (upd (upd w.2.2.2.2.2.2.2.1 x1.toNatClampNeg (x2 + 64)) (x1 + 6).toNatClampNeg 15) (x1 + 7).toNatClampNeg x3), w.2.2.2.2.2.2.2.2) mp ml nm x1 x2 0 (by (try clear ih); (first | assumption | (dsimp only; first | assumption | grind) | grind)) (by (try clear ih); (first | assumption | (dsimp only; first | assumption | grind) | grind)) (ta_upd (ta_upd (ta_upd (by assumption) (by (try clear ih); (first | assumption | (dsimp only; first | assumption | grind) | grind)) (by (try clear ih); (first | assumption | (dsimp only; first | assumption | grind) | grind))) (by (try clear ih); (first | assumption | (dsimp only; first | assumption | grind) | grind)) (by (try clear ih); (first | assumption | (dsimp only; first | assumption | grind) | grind))) (by (try clear ih); (first | assumption | (dsimp only; first | assumption | grind) | grind)) (by (try clear ih); (first | assumption | (dsimp only; first | assumption | grind) | grind))) (by assumption) (by (try clear ih); (first | assumption | (dsimp only; first | assumption | grind) | grind)) (by (try clear ih); (first | assumption | (dsimp only; first | assumption | grind) | grind)) (by assumption) (by assumption) (by (try clear ih); (first | assumption | (dsimp only; first | assumption | grind) | grind)) (by (try clear ih); (first | assumption | (dsimp only; first | assumption | grind) | grind)) (by (try clear ih); (first | assumption | (dsimp only; first | assumption | grind) | grind)) (by (try clear ih); (first | assumption | (dsimp only; first | assumption | grind) | grind)) (by (try clear ih); (first | assumption | (dsimp only; first | assumption | grind) | grind)) (tmz _ _)
      · refine pu_neg q2 ?_
        refine pu_pos (ti 2240 (by (try clear ih); (first | assumption | (dsimp only; first | assumption | grind) | grind)) (by (try clear ih); (first | assumption | (dsimp only; first | assumption | grind) | grind)) rfl) ?_
        refine pu_pos (ti 2240 (by (try clear ih); (first | assumption | (dsimp only; first | assumption | grind) | grind)) (by (try clear ih); (first | assumption | (dsimp only; first | assumption | grind) | grind)) rfl) ?_
        refine pu_pos (ti 2240 (by (try clear ih); (first | assumption | (dsimp only; first | assumption | grind) | grind)) (by (try clear ih); (first | assumption | (dsimp only; first | assumption | grind) | grind)) rfl) ?_
        exact T_M_writePart_L84 100000000000 (w.1, w.2.1, w.2.2.1, w.2.2.2.1, w.2.2.2.2.1, w.2.2.2.2.2.1, w.2.2.2.2.2.2.1, (upd (upd (upd w.2.2.2.2.2.2.2.1 x1.toNatClampNeg x2) (x1 + 6).toNatClampNeg 15) (x1 + 7).toNatClampNeg x3), w.2.2.2.2.2.2.2.2) mp ml nm x1 x2 0 (by (try clear ih); (first | assumption | (dsimp only; first | assumption | grind) | grind)) (by (try clear ih); (first | assumption | (dsimp only; first | assumption | grind) | grind)) (ta_upd (ta_upd (ta_upd (by assumption) (by (try clear ih); (first | assumption | (dsimp only; first | assumption | grind) | grind)) (by (try clear ih); (first | assumption | (dsimp only; first | assumption | grind) | grind))) (by (try clear ih); (first | assumption | (dsimp only; first | assumption | grind) | grind)) (by (try clear ih); (first | assumption | (dsimp only; first | assumption | grind) | grind))) (by (try clear ih); (first | assumption | (dsimp only; first | assumption | grind) | grind)) (by (try clear ih); (first | assumption | (dsimp only; first | assumption | grind) | grind))) (by assumption) (by (try clear ih); (first | assumption | (dsimp only; first | assumption | grind) | grind)) (by (try clear ih); (first | assumption | (dsimp only; first | assumption | grind) | grind)) (by assumption) (by assumption) (by (try clear ih); (first | assumption | (dsimp only; first | assumption | grind) | grind)) (by (try clear ih); (first | assumption | (dsimp only; first | assumption | grind) | grind)) (by (try clear ih); (first | assumption | (dsimp only; first | assumption | grind) | grind)) (by (try clear ih); (first | assumption | (dsimp only; first | assumption | grind) | grind)) (by (try clear ih); (first | assumption | (dsimp only; first | assumption | grind) | grind)) (tmz _ _)
    · refine pu_neg q1 ?_
      refine pu_pos (ti 6 (by (try clear ih); (first | assumption | (dsimp only; first | assumption | grind) | grind)) (by (try clear ih); (first | assumption | (dsimp only; first | assumption | grind) | grind)) rfl) ?_
      have a3 := ((by assumption) : ta 0 255 nm) x4.toNatClampNeg
      obtain ⟨r20, h4, p5, p6⟩ := T_M_summed x3 (nm x4.toNatClampNeg) 
      refine pu_bind h4 ?_
      clear h4
      exact ih w mp ml nm x1 x2 r20 (x4 + 1) (by (try clear ih); (first | assumption | (dsimp only; first | assumption | grind) | grind)) (by (try clear ih); (first | assumption | (dsimp only; first | assumption | grind) | grind)) (by assumption) (by assumption) (by (try clear ih); (first | assumption | (dsimp only; first | assumption | grind) | grind)) (by (try clear ih); (first | assumption | (dsimp only; first | assumption | grind) | grind)) (by assumption) (by assumption) (by (try clear ih); (first | assumption | (dsimp only; first | assumption | grind) | grind)) (by (try clear ih); (first | assumption | (dsimp only; first | assumption | grind) | grind)) (by (try clear ih); (first | assumption | (dsimp only; first | assumption | grind) | grind)) (by (try clear ih); (first | assumption | (dsimp only; first | assumption | grind) | grind)) (by (try clear ih); (first | assumption | (dsimp only; first | assumption | grind) | grind)) (by (try clear ih); (first | assumption | (dsimp only; first | assumption | grind) | grind)) (by (try clear ih); (first | assumption | (dsimp only; first | assumption | grind) | grind)) (tm1 (by (try clear ih); (first | assumption | (dsimp only; first | assumption | grind) | grind)) hm)
set_option maxHeartbeats 4000000 in
theorem T_M_writePart (w : am_MS) (mp : Int32) (ml : Nat → Int32) (nm : Nat → Int32) (x1 : Int32) (x2 : Int32) (h0_ : 0 ≤ w.2.2.2.2.1) (h1_ : w.2.2.2.2.1 ≤ 26) (h2_ : ta 0 255 w.2.2.2.2.2.2.2.1) (h3_ : ta 0 2224 w.2.2.2.2.2.2.2.2) (h4_ : 0 ≤ mp) (h5_ : mp ≤ 2) (h6_ : ta 0 255 ml) (h7_ : ta 0 255 nm) (h8_ : 176 ≤ x1) (h9_ : x1 ≤ 2224) (h10_ : 1 ≤ x2) (h11_ : x2 ≤ 2) : ∃ r : am_MS, f_M_writePart w mp ml nm x1 x2 = some r ∧ 0 ≤ r.2.2.2.2.1 ∧ r.2.2.2.2.1 ≤ 26 ∧ ta 0 255 r.2.2.2.2.2.2.2.1 ∧ ta 0 2224 r.2.2.2.2.2.2.2.2 := by
  rw [f_M_writePart]
  obtain ⟨r1, h1, p2, p3, p4, p5, p6, p7⟩ := T_M_door w (by (first | assumption | (dsimp only; first | assumption | grind) | grind)) (by (first | assumption | (dsimp only; first | assumption | grind) | grind)) (by assumption) (by assumption)
  refine pu_bind h1 ?_
  clear h1
  by_cases q8 : r1.1 = 0
  · refine pu_pos q8 ?_
    exact ⟨_, rfl, (by (first | assumption | (dsimp only; first | assumption | grind) | grind)), (by (first | assumption | (dsimp only; first | assumption | grind) | grind)), (by assumption), (by assumption)⟩
  · refine pu_neg q8 ?_
    exact T_M_writePart_L13 100000000000 r1.2 mp ml nm x1 x2 0 0 (by (first | assumption | (dsimp only; first | assumption | grind) | grind)) (by (first | assumption | (dsimp only; first | assumption | grind) | grind)) (by assumption) (by assumption) (by (first | assumption | (dsimp only; first | assumption | grind) | grind)) (by (first | assumption | (dsimp only; first | assumption | grind) | grind)) (by assumption) (by assumption) (by (first | assumption | (dsimp only; first | assumption | grind) | grind)) (by (first | assumption | (dsimp only; first | assumption | grind) | grind)) (by (first | assumption | (dsimp only; first | assumption | grind) | grind)) (by (first | assumption | (dsimp only; first | assumption | grind) | grind)) (by (first | assumption | (dsimp only; first | assumption | grind) | grind)) (by (first | assumption | (dsimp only; first | assumption | grind) | grind)) (by (first | assumption | (dsimp only; first | assumption | grind) | grind)) (tmz _ _)
set_option maxHeartbeats 4000000 in
theorem T_M_writeEntry_L11 : ∀ (fuel : Nat) (w : am_MS) (nm : Nat → Int32) (x1 : Int32) (x2 : Int32) (x3 : Int32) (x4 : Int32), 0 ≤ w.2.2.2.2.1 → w.2.2.2.2.1 ≤ 26 → ta 0 255 w.2.2.2.2.2.2.2.1 → ta 0 2224 w.2.2.2.2.2.2.2.2 → ta 0 255 nm → 0 ≤ x4 → 176 ≤ x1 → x1 ≤ 2224 → 0 ≤ x2 → x2 ≤ 255 → tm 16 x4 fuel → ∃ r : am_MS, f_M_writeEntry_L11 fuel w nm x1 x2 x3 x4 = some r ∧ 0 ≤ r.2.2.2.2.1 ∧ r.2.2.2.2.1 ≤ 26 ∧ ta 0 255 r.2.2.2.2.2.2.2.1 ∧ ta 0 2224 r.2.2.2.2.2.2.2.2 := by
  intro fuel
  induction fuel with
  | zero =>
    intro w nm x1 x2 x3 x4 h0_ h1_ h2_ h3_ h4_ h5_ h6_ h7_ h8_ h9_ hm
    exact (tm0 hm).elim
  | succ fuel ih =>
    intro w nm x1 x2 x3 x4 h0_ h1_ h2_ h3_ h4_ h5_ h6_ h7_ h8_ h9_ hm
    rw [f_M_writeEntry_L11]
    by_cases q1 : 16 ≤ x4
    · refine pu_pos q1 ?_
      refine pu_pos (ti 2240 (by (try clear ih); (first | assumption | (dsimp only; first | assumption | grind) | grind)) (by (try clear ih); (first | assumption | (dsimp only; first | assumption | grind) | grind)) rfl) ?_
      obtain ⟨r6, h2, p3, p4⟩ := T_M_number (upd w.2.2.2.2.2.2.2.1 (x1 + 6).toNatClampNeg x2) (x1 + 8) x3 (ta_upd (by assumption) (by (try clear ih); (first | assumption | (dsimp only; first | assumption | grind) | grind)) (by (try clear ih); (first | assumption | (dsimp only; first | assumption | grind) | grind))) (by (try clear ih); (first | assumption | (dsimp only; first | assumption | grind) | grind)) (by (try clear ih); (first | assumption | (dsimp only; first | assumption | grind) | grind))
      refine pu_bind h2 ?_
      clear h2
      exact ⟨_, rfl, (by (try clear ih); (first | assumption | (dsimp only; first | assumption | grind) | grind)), (by (try clear ih); (first | assumption | (dsimp only; first | assumption | grind) | grind)), (by assumption), (by assumption)⟩
    · refine pu_neg q1 ?_
      by_cases q5 : 6 ≤ x4
      · refine pu_pos q5 ?_
        refine pu_pos (ti 2240 (by (try clear ih); (first | assumption | (dsimp only; first | assumption | grind) | grind)) (by (try clear ih); (first | assumption | (dsimp only; first | assumption | grind) | grind)) rfl) ?_
        exact ih (w.1, w.2.1, w.2.2.1, w.2.2.2.1, w.2.2.2.2.1, w.2.2.2.2.2.1, w.2.2.2.2.2.2.1, (upd w.2.2.2.2.2.2.2.1 (x1 + x4).toNatClampNeg 0), w.2.2.2.2.2.2.2.2) nm x1 x2 x3 (x4 + 1) (by (try clear ih); (first | assumption | (dsimp only; first | assumption | grind) | grind)) (by (try clear ih); (first | assumption | (dsimp only; first | assumption | grind) | grind)) (ta_upd (by assumption) (by (try clear ih); (first | assumption | (dsimp only; first | assumption | grind) | grind)) (by (try clear ih); (first | assumption | (dsimp only; first | assumption | grind) | grind))) (by assumption) (by assumption) (by (try clear ih); (first | assumption | (dsimp only; first | assumption | grind) | grind)) (by (try clear ih); (first | assumption | (dsimp only; first | assumption | grind) | grind)) (by (try clear ih); (first | assumption | (dsimp only; first | assumption | grind) | grind)) (by (try clear ih); (first | assumption | (dsimp only; first | assumption | grind) | grind)) (by (try clear ih); (first | assumption | (dsimp only; first | assumption | grind) | grind)) (tm1 (by (try clear ih); (first | assumption | (dsimp only; first | assumption | grind) | grind)) hm)
      · refine pu_neg q5 ?_
        refine pu_pos (ti 6 (by (try clear ih); (first | assumption | (dsimp only; first | assumption | grind) | grind)) (by (try clear ih); (first | assumption | (dsimp only; first | assumption | grind) | grind)) rfl) ?_
        refine pu_pos (ti 2240 (by (try clear ih); (first | assumption | (dsimp only; first | assumption | grind) | grind)) (by (try clear ih); (first | assumption | (dsimp only; first | assumption | grind) | grind)) rfl) ?_
        have a6 := ((by assumption) : ta 0 255 nm) x4.toNatClampNeg
        exact ih (w.1, w.2.1, w.2.2.1, w.2.2.2.1, w.2.2.2.2.1, w.2.2.2.2.2.1, w.2.2.2.2.2.2.1, (upd w.2.2.2.2.2.2.2.1 (x1 + x4).toNatClampNeg (nm x4.toNatClampNeg)), w.2.2.2.2.2.2.2.2) nm x1 x2 x3 (x4 + 1) (by (try clear ih); (first | assumption | (dsimp only; first | assumption | grind) | grind)) (by (try clear ih); (first | assumption | (dsimp only; first | assumption | grind) | grind)) (ta_upd (by assumption) (by (try clear ih); (first | assumption | (dsimp only; first | assumption | grind) | grind)) (by (try clear ih); (first | assumption | (dsimp only; first | assumption | grind) | grind))) (by assumption) (by assumption) (by (try clear ih); (first | assumption | (dsimp only; first | assumption | grind) | grind)) (by (try clear ih); (first | assumption | (dsimp only; first | assumption | grind) | grind)) (by (try clear ih); (first | assumption | (dsimp only; first | assumption | grind) | grind)) (by (try clear ih); (first | assumption | (dsimp only; first | assumption | grind) | grind)) (by (try clear ih); (first | assumption | (dsimp only; first | assumption | grind) | grind)) (tm1 (by (try clear ih); (first | assumption | (dsimp only; first | assumption | grind) | grind)) hm)
