set_option maxHeartbeats 4000000 in
theorem T_M_isCalled (ty : Int32) (mh : Int32) (dk : Nat → Int32) (ml : Nat → Int32) (x1 : Int32) (h0_ : 0 ≤ ty) (h1_ : ty ≤ 26) (h2_ : ta 0 255 dk) (h3_ : ta 0 255 ml) : ∃ r : Int32, f_M_isCalled ty mh dk ml x1 = some r ∧ (r = 0 ∨ r = 1) := by
  rw [f_M_isCalled]
  obtain ⟨r1, h1, p2, p3, p4⟩ := T_M_place dk mh x1 (by assumption)
  refine pu_bind h1 ?_
  clear h1
  obtain ⟨r3, h5, p6⟩ := T_M_isNamed dk r1 (by assumption) (by (first | assumption | (dsimp only; first | assumption | grind) | grind)) (by (first | assumption | (dsimp only; first | assumption | grind) | grind))
  refine pu_bind h5 ?_
  clear h5
  by_cases q7 : r3 = 0
  · refine pu_pos q7 ?_
    exact ⟨_, rfl, (by (first | assumption | (dsimp only; first | assumption | grind) | grind))⟩
  · refine pu_neg q7 ?_
    by_cases q8 : ty = 0
    · refine pu_pos q8 ?_
      exact ⟨_, rfl, (by (first | assumption | (dsimp only; first | assumption | grind) | grind))⟩
    · refine pu_neg q8 ?_
      obtain ⟨r7, h9, p10, p11⟩ := T_M_partsOf dk mh x1 (by assumption)
      refine pu_bind h9 ?_
      clear h9
      by_cases q12 : r7 ≤ 0
      · refine pu_pos q12 ?_
        exact T_M_isCalled_L51 100000000000 ty mh dk ml x1 r1 1 0 0 (by (first | assumption | (dsimp only; first | assumption | grind) | grind)) (by (first | assumption | (dsimp only; first | assumption | grind) | grind)) (by assumption) (by assumption) (by (first | assumption | (dsimp only; first | assumption | grind) | grind)) (by (first | assumption | (dsimp only; first | assumption | grind) | grind)) (by (first | assumption | (dsimp only; first | assumption | grind) | grind)) (tmz _ _)
      · refine pu_neg q12 ?_
        exact T_M_isCalled_L51 100000000000 ty mh dk ml x1 r1 1 1 0 (by (first | assumption | (dsimp only; first | assumption | grind) | grind)) (by (first | assumption | (dsimp only; first | assumption | grind) | grind)) (by assumption) (by assumption) (by (first | assumption | (dsimp only; first | assumption | grind) | grind)) (by (first | assumption | (dsimp only; first | assumption | grind) | grind)) (by (first | assumption | (dsimp only; first | assumption | grind) | grind)) (tmz _ _)
set_option maxHeartbeats 4000000 in
theorem T_M_find_L13 : ∀ (fuel : Nat) (ty : Int32) (mh : Int32) (dk : Nat → Int32) (ml : Nat → Int32) (x1 : Int32) (x2 : Int32), 0 ≤ ty → ty ≤ 26 → ta 0 255 dk → ta 0 255 ml → 0 ≤ x2 → x1 ≤ 128 → tm x1 x2 fuel → ∃ r : Int32, f_M_find_L13 fuel ty mh dk ml x1 x2 = some r ∧ r ≤ 1000 := by
  intro fuel
  induction fuel with
  | zero =>
    intro ty mh dk ml x1 x2 h0_ h1_ h2_ h3_ h4_ h5_ hm
    exact (tm0 hm).elim
  | succ fuel ih =>
    intro ty mh dk ml x1 x2 h0_ h1_ h2_ h3_ h4_ h5_ hm
    rw [f_M_find_L13]
    by_cases q1 : x1 ≤ x2
    · refine pu_pos q1 ?_
      exact ⟨_, rfl, (by (try clear ih); (first | assumption | (dsimp only; first | assumption | grind) | grind))⟩
    · refine pu_neg q1 ?_
      obtain ⟨r4, h2, p3⟩ := T_M_isCalled ty mh dk ml x2 (by (try clear ih); (first | assumption | (dsimp only; first | assumption | grind) | grind)) (by (try clear ih); (first | assumption | (dsimp only; first | assumption | grind) | grind)) (by assumption) (by assumption)
      refine pu_bind h2 ?_
      clear h2
      by_cases q4 : r4 = 0
      · refine pu_pos q4 ?_
        exact ih ty mh dk ml x1 (x2 + 1) (by (try clear ih); (first | assumption | (dsimp only; first | assumption | grind) | grind)) (by (try clear ih); (first | assumption | (dsimp only; first | assumption | grind) | grind)) (by assumption) (by assumption) (by (try clear ih); (first | assumption | (dsimp only; first | assumption | grind) | grind)) (by (try clear ih); (first | assumption | (dsimp only; first | assumption | grind) | grind)) (tm1 (by (try clear ih); (first | assumption | (dsimp only; first | assumption | grind) | grind)) hm)
      · refine pu_neg q4 ?_
        exact ⟨_, rfl, (by (try clear ih); (first | assumption | (dsimp only; first | assumption | grind) | grind))⟩
set_option maxHeartbeats 4000000 in
theorem T_M_find (ty : Int32) (mh : Int32) (dk : Nat → Int32) (ml : Nat → Int32) (h0_ : 0 ≤ ty) (h1_ : ty ≤ 26) (h2_ : ta 0 255 dk) (h3_ : ta 0 255 ml) : ∃ r : Int32, f_M_find ty mh dk ml = some r ∧ r ≤ 1000 := by
  rw [f_M_find]
  obtain ⟨r1, h1, p2, p3, p4⟩ := T_M_length dk mh (by assumption)
  refine pu_bind h1 ?_
  clear h1
  exact T_M_find_L13 100000000000 ty mh dk ml (2 * r1) 0 (by (first | assumption | (dsimp only; first | assumption | grind) | grind)) (by (first | assumption | (dsimp only; first | assumption | grind) | grind)) (by assumption) (by assumption) (by (first | assumption | (dsimp only; first | assumption | grind) | grind)) (by (first | assumption | (dsimp only; first | assumption | grind) | grind)) (tmz _ _)
set_option maxHeartbeats 4000000 in
theorem T_M_isPlain (x0 : Int32)  : ∃ r : Int32, f_M_isPlain x0 = some r ∧ (r = 0 ∨ r = 1) := by
  rw [f_M_isPlain]
  obtain ⟨r1, h1, p2⟩ := T_M_in x0 65 90 
  refine pu_bind h1 ?_
  clear h1
  by_cases q3 : r1 = 0
  · refine pu_pos q3 ?_
    obtain ⟨r4, h4, p5⟩ := T_M_in x0 48 57 
    refine pu_bind h4 ?_
    clear h4
    by_cases q6 : r4 = 0
    · refine pu_pos q6 ?_
      exact ⟨_, rfl, (by (first | assumption | (dsimp only; first | assumption | grind) | grind))⟩
    · refine pu_neg q6 ?_
      exact ⟨_, rfl, (by (first | assumption | (dsimp only; first | assumption | grind) | grind))⟩
  · refine pu_neg q3 ?_
    exact ⟨_, rfl, (by (first | assumption | (dsimp only; first | assumption | grind) | grind))⟩
set_option maxHeartbeats 4000000 in
theorem T_M_isTaken_L42 (k15 : Int32 → (Nat → Int32) → (Nat → Int32) → Int32 → Int32 → Int32 → Option (Int32)) (fo15 : Nat) (hk15 : ∀ (mh : Int32) (dk : Nat → Int32) (nm : Nat → Int32) (x1 : Int32) (x2 : Int32) (x3 : Int32), ta 0 255 dk → ta 0 255 nm → 0 ≤ x3 → (x2 = 0 ∨ x2 = 1) → tm x1 x3 fo15 → ∃ r : Int32, k15 mh dk nm x1 x2 x3 = some r ∧ (r = 0 ∨ r = 1)) : ∀ (fuel : Nat) (mh : Int32) (dk : Nat → Int32) (nm : Nat → Int32) (x1 : Int32) (x2 : Int32) (x3 : Int32) (x4 : Int32) (x5 : Int32) (x6 : Int32), ta 0 255 dk → ta 0 255 nm → 0 ≤ x3 → (x2 = 0 ∨ x2 = 1) → ¬ x1 ≤ x3 → 0 ≤ x6 → 176 ≤ x4 → x4 ≤ 2224 → tm x1 x3 (fo15 + 1) → tm 6 x6 fuel → ∃ r : Int32, f_M_isTaken_L42 k15 fuel mh dk nm x1 x2 x3 x4 x5 x6 = some r ∧ (r = 0 ∨ r = 1) := by
  intro fuel
  induction fuel with
  | zero =>
    intro mh dk nm x1 x2 x3 x4 x5 x6 h0_ h1_ h2_ h3_ h4_ h5_ h6_ h7_ hm15 hm
    exact (tm0 hm).elim
  | succ fuel ih =>
    intro mh dk nm x1 x2 x3 x4 x5 x6 h0_ h1_ h2_ h3_ h4_ h5_ h6_ h7_ hm15 hm
    rw [f_M_isTaken_L42]
    by_cases q1 : 6 ≤ x6
    · refine pu_pos q1 ?_
      by_cases q2 : x2 = 0
      · refine pu_pos q2 ?_
        by_cases q3 : x5 = 0
        · refine pu_pos q3 ?_
          exact hk15 mh dk nm x1 0 (x3 + 1) (by assumption) (by assumption) (by (try clear ih); (try clear hk15); (first | assumption | (dsimp only; first | assumption | grind) | grind)) (by (try clear ih); (try clear hk15); (first | assumption | (dsimp only; first | assumption | grind) | grind)) (tm1 (by (try clear ih); (try clear hk15); (first | assumption | (dsimp only; first | assumption | grind) | grind)) hm15)
        · refine pu_neg q3 ?_
          exact hk15 mh dk nm x1 1 (x3 + 1) (by assumption) (by assumption) (by (try clear ih); (try clear hk15); (first | assumption | (dsimp only; first | assumption | grind) | grind)) (by (try clear ih); (try clear hk15); (first | assumption | (dsimp only; first | assumption | grind) | grind)) (tm1 (by (try clear ih); (try clear hk15); (first | assumption | (dsimp only; first | assumption | grind) | grind)) hm15)
      · refine pu_neg q2 ?_
        exact hk15 mh dk nm x1 1 (x3 + 1) (by assumption) (by assumption) (by (try clear ih); (try clear hk15); (first | assumption | (dsimp only; first | assumption | grind) | grind)) (by (try clear ih); (try clear hk15); (first | assumption | (dsimp only; first | assumption | grind) | grind)) (tm1 (by (try clear ih); (try clear hk15); (first | assumption | (dsimp only; first | assumption | grind) | grind)) hm15)
    · refine pu_neg q1 ?_
      by_cases q4 : x5 = 0
      · refine pu_pos q4 ?_
        exact ih mh dk nm x1 x2 x3 x4 0 (x6 + 1) (by assumption) (by assumption) (by (try clear ih); (try clear hk15); (first | assumption | (dsimp only; first | assumption | grind) | grind)) (by (try clear ih); (try clear hk15); (first | assumption | (dsimp only; first | assumption | grind) | grind)) (by (try clear ih); (try clear hk15); (first | assumption | (dsimp only; first | assumption | grind) | grind)) (by (try clear ih); (try clear hk15); (first | assumption | (dsimp only; first | assumption | grind) | grind)) (by (try clear ih); (try clear hk15); (first | assumption | (dsimp only; first | assumption | grind) | grind)) (by (try clear ih); (try clear hk15); (first | assumption | (dsimp only; first | assumption | grind) | grind)) hm15 (tm1 (by (try clear ih); (try clear hk15); (first | assumption | (dsimp only; first | assumption | grind) | grind)) hm)
      · refine pu_neg q4 ?_
        refine pu_pos (ti 2240 (by (try clear ih); (try clear hk15); (first | assumption | (dsimp only; first | assumption | grind) | grind)) (by (try clear ih); (try clear hk15); (first | assumption | (dsimp only; first | assumption | grind) | grind)) rfl) ?_
        refine pu_pos (ti 6 (by (try clear ih); (try clear hk15); (first | assumption | (dsimp only; first | assumption | grind) | grind)) (by (try clear ih); (try clear hk15); (first | assumption | (dsimp only; first | assumption | grind) | grind)) rfl) ?_
        have a5 := ((by assumption) : ta 0 255 dk) (x4 + x6).toNatClampNeg
        have a6 := ((by assumption) : ta 0 255 nm) x6.toNatClampNeg
        by_cases q7 : (dk (x4 + x6).toNatClampNeg) = (nm x6.toNatClampNeg)
        · refine pu_pos q7 ?_
          exact ih mh dk nm x1 x2 x3 x4 1 (x6 + 1) (by assumption) (by assumption) (by (try clear ih); (try clear hk15); (first | assumption | (dsimp only; first | assumption | grind) | grind)) (by (try clear ih); (try clear hk15); (first | assumption | (dsimp only; first | assumption | grind) | grind)) (by (try clear ih); (try clear hk15); (first | assumption | (dsimp only; first | assumption | grind) | grind)) (by (try clear ih); (try clear hk15); (first | assumption | (dsimp only; first | assumption | grind) | grind)) (by (try clear ih); (try clear hk15); (first | assumption | (dsimp only; first | assumption | grind) | grind)) (by (try clear ih); (try clear hk15); (first | assumption | (dsimp only; first | assumption | grind) | grind)) hm15 (tm1 (by (try clear ih); (try clear hk15); (first | assumption | (dsimp only; first | assumption | grind) | grind)) hm)
        · refine pu_neg q7 ?_
          exact ih mh dk nm x1 x2 x3 x4 0 (x6 + 1) (by assumption) (by assumption) (by (try clear ih); (try clear hk15); (first | assumption | (dsimp only; first | assumption | grind) | grind)) (by (try clear ih); (try clear hk15); (first | assumption | (dsimp only; first | assumption | grind) | grind)) (by (try clear ih); (try clear hk15); (first | assumption | (dsimp only; first | assumption | grind) | grind)) (by (try clear ih); (try clear hk15); (first | assumption | (dsimp only; first | assumption | grind) | grind)) (by (try clear ih); (try clear hk15); (first | assumption | (dsimp only; first | assumption | grind) | grind)) (by (try clear ih); (try clear hk15); (first | assumption | (dsimp only; first | assumption | grind) | grind)) hm15 (tm1 (by (try clear ih); (try clear hk15); (first | assumption | (dsimp only; first | assumption | grind) | grind)) hm)
set_option maxHeartbeats 4000000 in
theorem T_M_isTaken_L15 : ∀ (fuel : Nat) (mh : Int32) (dk : Nat → Int32) (nm : Nat → Int32) (x1 : Int32) (x2 : Int32) (x3 : Int32), ta 0 255 dk → ta 0 255 nm → 0 ≤ x3 → (x2 = 0 ∨ x2 = 1) → tm x1 x3 fuel → ∃ r : Int32, f_M_isTaken_L15 fuel mh dk nm x1 x2 x3 = some r ∧ (r = 0 ∨ r = 1) := by
  intro fuel
  induction fuel with
  | zero =>
    intro mh dk nm x1 x2 x3 h0_ h1_ h2_ h3_ hm
    exact (tm0 hm).elim
  | succ fuel ih =>
    intro mh dk nm x1 x2 x3 h0_ h1_ h2_ h3_ hm
    rw [f_M_isTaken_L15]
    by_cases q1 : x1 ≤ x3
    · refine pu_pos q1 ?_
      refine pu_pos (tb (by (try clear ih); (first | assumption | (dsimp only; first | assumption | grind) | grind))) ?_
      exact ⟨_, rfl, (by (try clear ih); (first | assumption | (dsimp only; first | assumption | grind) | grind))⟩
    · refine pu_neg q1 ?_
      obtain ⟨r5, h2, p3, p4, p5⟩ := T_M_place dk mh x3 (by assumption)
      refine pu_bind h2 ?_
      clear h2
      obtain ⟨r7, h6, p7⟩ := T_M_isNamed dk r5 (by assumption) (by (try clear ih); (first | assumption | (dsimp only; first | assumption | grind) | grind)) (by (try clear ih); (first | assumption | (dsimp only; first | assumption | grind) | grind))
      refine pu_bind h6 ?_
      clear h6
      exact T_M_isTaken_L42 (f_M_isTaken_L15 fuel) fuel ih 100000000000 mh dk nm x1 x2 x3 r5 r7 0 (by assumption) (by assumption) (by (try clear ih); (first | assumption | (dsimp only; first | assumption | grind) | grind)) (by (try clear ih); (first | assumption | (dsimp only; first | assumption | grind) | grind)) (by (try clear ih); (first | assumption | (dsimp only; first | assumption | grind) | grind)) (by (try clear ih); (first | assumption | (dsimp only; first | assumption | grind) | grind)) (by (try clear ih); (first | assumption | (dsimp only; first | assumption | grind) | grind)) (by (try clear ih); (first | assumption | (dsimp only; first | assumption | grind) | grind)) hm (tmz _ _)
set_option maxHeartbeats 4000000 in
theorem T_M_isTaken (mh : Int32) (dk : Nat → Int32) (nm : Nat → Int32) (h0_ : ta 0 255 dk) (h1_ : ta 0 255 nm) : ∃ r : Int32, f_M_isTaken mh dk nm = some r ∧ (r = 0 ∨ r = 1) := by
  rw [f_M_isTaken]
  obtain ⟨r1, h1, p2, p3, p4⟩ := T_M_length dk mh (by assumption)
  refine pu_bind h1 ?_
  clear h1
  exact T_M_isTaken_L15 100000000000 mh dk nm (2 * r1) 0 0 (by assumption) (by assumption) (by (first | assumption | (dsimp only; first | assumption | grind) | grind)) (by (first | assumption | (dsimp only; first | assumption | grind) | grind)) (tmz _ _)
set_option maxHeartbeats 4000000 in
theorem T_M_shorten_L190 : ∀ (fuel : Nat) (ty : Int32) (mh : Int32) (dk : Nat → Int32) (mp : Int32) (ml : Nat → Int32) (nm : Nat → Int32) (x2 : Int32), 0 ≤ ty → ty ≤ 26 → ta 0 255 dk → 0 ≤ mp → mp ≤ 2 → ta 0 255 ml → ta 0 255 nm → 0 ≤ x2 → x2 ≤ 4 → tm 58 (nm (x2 + 1).toNatClampNeg) fuel → ∃ r : Int32 × Int32 × (Nat → Int32), f_M_shorten_L190 fuel ty mh dk mp ml nm x2 = some r ∧ (r.1 = 0 ∨ r.1 = 1) ∧ 0 ≤ r.2.1 ∧ r.2.1 ≤ 2 ∧ ta 0 255 r.2.2 := by
  intro fuel
  induction fuel with
  | zero =>
    intro ty mh dk mp ml nm x2 h0_ h1_ h2_ h3_ h4_ h5_ h6_ h7_ h8_ hm
    exact (tm0 hm).elim
  | succ fuel ih =>
    intro ty mh dk mp ml nm x2 h0_ h1_ h2_ h3_ h4_ h5_ h6_ h7_ h8_ hm
    rw [f_M_shorten_L190]
    refine pu_pos (ti 6 (by (try clear ih); (first | assumption | (dsimp only; first | assumption | grind) | grind)) (by (try clear ih); (first | assumption | (dsimp only; first | assumption | grind) | grind)) rfl) ?_
    have a1 := ((by assumption) : ta 0 255 nm) (x2 + 1).toNatClampNeg
    by_cases q2 : 57 < (nm (x2 + 1).toNatClampNeg)
    · refine pu_pos q2 ?_
      refine pu_pos (ti 6 (by (try clear ih); (first | assumption | (dsimp only; first | assumption | grind) | grind)) (by (try clear ih); (first | assumption | (dsimp only; first | assumption | grind) | grind)) rfl) ?_
      exact ⟨_, rfl, (by (try clear ih); (first | assumption | (dsimp only; first | assumption | grind) | grind)), (by (try clear ih); (first | assumption | (dsimp only; first | assumption | grind) | grind)), (by (try clear ih); (first | assumption | (dsimp only; first | assumption | grind) | grind)), (by assumption)⟩
    · refine pu_neg q2 ?_
      obtain ⟨r14, h3, p4⟩ := T_M_isTaken mh dk nm (by assumption) (by assumption)
      refine pu_bind h3 ?_
      clear h3
      by_cases q5 : r14 = 0
      · refine pu_pos q5 ?_
        refine pu_pos (ti 6 (by (try clear ih); (first | assumption | (dsimp only; first | assumption | grind) | grind)) (by (try clear ih); (first | assumption | (dsimp only; first | assumption | grind) | grind)) rfl) ?_
        exact ⟨_, rfl, (by (try clear ih); (first | assumption | (dsimp only; first | assumption | grind) | grind)), (by (try clear ih); (first | assumption | (dsimp only; first | assumption | grind) | grind)), (by (try clear ih); (first | assumption | (dsimp only; first | assumption | grind) | grind)), (by assumption)⟩
      · refine pu_neg q5 ?_
        refine pu_pos (ti 6 (by (try clear ih); (first | assumption | (dsimp only; first | assumption | grind) | grind)) (by (try clear ih); (first | assumption | (dsimp only; first | assumption | grind) | grind)) rfl) ?_
        refine pu_pos (ti 6 (by (try clear ih); (first | assumption | (dsimp only; first | assumption | grind) | grind)) (by (try clear ih); (first | assumption | (dsimp only; first | assumption | grind) | grind)) rfl) ?_
        exact ih ty mh dk mp ml (upd nm (x2 + 1).toNatClampNeg ((nm (x2 + 1).toNatClampNeg) + 1)) x2 (by (try clear ih); (first | assumption | (dsimp only; first | assumption | grind) | grind)) (by (try clear ih); (first | assumption | (dsimp only; first | assumption | grind) | grind)) (by assumption) (by (try clear ih); (first | assumption | (dsimp only; first | assumption | grind) | grind)) (by (try clear ih); (first | assumption | (dsimp only; first | assumption | grind) | grind)) (by assumption) (ta_upd (by assumption) (by (try clear ih); (first | assumption | (dsimp only; first | assumption | grind) | grind)) (by (try clear ih); (first | assumption | (dsimp only; first | assumption | grind) | grind))) (by (try clear ih); (first | assumption | (dsimp only; first | assumption | grind) | grind)) (by (try clear ih); (first | assumption | (dsimp only; first | assumption | grind) | grind)) (by rw [tup]; exact tm1 (by (try clear ih); grind) hm)
set_option maxHeartbeats 4000000 in
theorem T_M_shorten_L79 : ∀ (fuel : Nat) (ty : Int32) (mh : Int32) (dk : Nat → Int32) (mp : Int32) (ml : Nat → Int32) (nm : Nat → Int32) (x1 : Int32) (x2 : Int32) (x3 : Int32), 0 ≤ ty → ty ≤ 26 → ta 0 255 dk → 0 ≤ mp → mp ≤ 2 → ta 0 255 ml → ta 0 255 nm → 0 ≤ x3 → 0 ≤ x2 → x2 ≤ 6 → (x1 = 0 → x2 ≤ 4) → tm ty x3 fuel → ∃ r : Int32 × Int32 × (Nat → Int32), f_M_shorten_L79 fuel ty mh dk mp ml nm x1 x2 x3 = some r ∧ (r.1 = 0 ∨ r.1 = 1) ∧ 0 ≤ r.2.1 ∧ r.2.1 ≤ 2 ∧ ta 0 255 r.2.2 := by
  intro fuel
  induction fuel with
  | zero =>
    intro ty mh dk mp ml nm x1 x2 x3 h0_ h1_ h2_ h3_ h4_ h5_ h6_ h7_ h8_ h9_ h10_ hm
    exact (tm0 hm).elim
  | succ fuel ih =>
    intro ty mh dk mp ml nm x1 x2 x3 h0_ h1_ h2_ h3_ h4_ h5_ h6_ h7_ h8_ h9_ h10_ hm
    rw [f_M_shorten_L79]
    by_cases q1 : ty ≤ x3
    · refine pu_pos q1 ?_
      by_cases q2 : x1 = 0
      · refine pu_pos q2 ?_
        by_cases q3 : ty ≤ 13
        · refine pu_pos q3 ?_
          refine pu_pos (ti 6 (by (try clear ih); (first | assumption | (dsimp only; first | assumption | grind) | grind)) (by (try clear ih); (first | assumption | (dsimp only; first | assumption | grind) | grind)) rfl) ?_
          refine pu_pos (ti 6 (by (try clear ih); (first | assumption | (dsimp only; first | assumption | grind) | grind)) (by (try clear ih); (first | assumption | (dsimp only; first | assumption | grind) | grind)) rfl) ?_
          exact T_M_shorten_L190 100000000000 ty mh dk 1 ml (upd (upd nm x2.toNatClampNeg 126) (x2 + 1).toNatClampNeg 49) x2 (by (try clear ih); (first | assumption | (dsimp only; first | assumption | grind) | grind)) (by (try clear ih); (first | assumption | (dsimp only; first | assumption | grind) | grind)) (by assumption) (by (try clear ih); (first | assumption | (dsimp only; first | assumption | grind) | grind)) (by (try clear ih); (first | assumption | (dsimp only; first | assumption | grind) | grind)) (by assumption) (ta_upd (ta_upd (by assumption) (by (try clear ih); (first | assumption | (dsimp only; first | assumption | grind) | grind)) (by (try clear ih); (first | assumption | (dsimp only; first | assumption | grind) | grind))) (by (try clear ih); (first | assumption | (dsimp only; first | assumption | grind) | grind)) (by (try clear ih); (first | assumption | (dsimp only; first | assumption | grind) | grind))) (by (try clear ih); (first | assumption | (dsimp only; first | assumption | grind) | grind)) (by (try clear ih); (first | assumption | (dsimp only; first | assumption | grind) | grind)) (tmz _ _)
        · refine pu_neg q3 ?_
          refine pu_pos (ti 6 (by (try clear ih); (first | assumption | (dsimp only; first | assumption | grind) | grind)) (by (try clear ih); (first | assumption | (dsimp only; first | assumption | grind) | grind)) rfl) ?_
          refine pu_pos (ti 6 (by (try clear ih); (first | assumption | (dsimp only; first | assumption | grind) | grind)) (by (try clear ih); (first | assumption | (dsimp only; first | assumption | grind) | grind)) rfl) ?_
          exact T_M_shorten_L190 100000000000 ty mh dk 2 ml (upd (upd nm x2.toNatClampNeg 126) (x2 + 1).toNatClampNeg 49) x2 (by (try clear ih); (first | assumption | (dsimp only; first | assumption | grind) | grind)) (by (try clear ih); (first | assumption | (dsimp only; first | assumption | grind) | grind)) (by assumption) (by (try clear ih); (first | assumption | (dsimp only; first | assumption | grind) | grind)) (by (try clear ih); (first | assumption | (dsimp only; first | assumption | grind) | grind)) (by assumption) (ta_upd (ta_upd (by assumption) (by (try clear ih); (first | assumption | (dsimp only; first | assumption | grind) | grind)) (by (try clear ih); (first | assumption | (dsimp only; first | assumption | grind) | grind))) (by (try clear ih); (first | assumption | (dsimp only; first | assumption | grind) | grind)) (by (try clear ih); (first | assumption | (dsimp only; first | assumption | grind) | grind))) (by (try clear ih); (first | assumption | (dsimp only; first | assumption | grind) | grind)) (by (try clear ih); (first | assumption | (dsimp only; first | assumption | grind) | grind)) (tmz _ _)
      · refine pu_neg q2 ?_
        exact ⟨_, rfl, (by (try clear ih); (first | assumption | (dsimp only; first | assumption | grind) | grind)), (by (try clear ih); (first | assumption | (dsimp only; first | assumption | grind) | grind)), (by (try clear ih); (first | assumption | (dsimp only; first | assumption | grind) | grind)), (by assumption)⟩
    · refine pu_neg q1 ?_
      refine pu_pos (ti 26 (by (try clear ih); (first | assumption | (dsimp only; first | assumption | grind) | grind)) (by (try clear ih); (first | assumption | (dsimp only; first | assumption | grind) | grind)) rfl) ?_
      have a4 := ((by assumption) : ta 0 255 ml) x3.toNatClampNeg
      obtain ⟨r26, h5, p6⟩ := T_M_capital (ml x3.toNatClampNeg) 
      refine pu_bind h5 ?_
      clear h5
      obtain ⟨r28, h7, p8⟩ := T_M_isPlain r26 
      refine pu_bind h7 ?_
      clear h7
      by_cases q9 : r28 = 0
      · refine pu_pos q9 ?_
        exact ih ty mh dk mp ml nm x1 x2 (x3 + 1) (by (try clear ih); (first | assumption | (dsimp only; first | assumption | grind) | grind)) (by (try clear ih); (first | assumption | (dsimp only; first | assumption | grind) | grind)) (by assumption) (by (try clear ih); (first | assumption | (dsimp only; first | assumption | grind) | grind)) (by (try clear ih); (first | assumption | (dsimp only; first | assumption | grind) | grind)) (by assumption) (by assumption) (by (try clear ih); (first | assumption | (dsimp only; first | assumption | grind) | grind)) (by (try clear ih); (first | assumption | (dsimp only; first | assumption | grind) | grind)) (by (try clear ih); (first | assumption | (dsimp only; first | assumption | grind) | grind)) (by (try clear ih); (first | assumption | (dsimp only; first | assumption | grind) | grind)) (tm1 (by (try clear ih); (first | assumption | (dsimp only; first | assumption | grind) | grind)) hm)
      · refine pu_neg q9 ?_
        by_cases q10 : x1 = 0
        · refine pu_pos q10 ?_
          by_cases q11 : 4 ≤ x2
          · refine pu_pos q11 ?_
            exact ih ty mh dk mp ml nm x1 x2 (x3 + 1) (by (try clear ih); (first | assumption | (dsimp only; first | assumption | grind) | grind)) (by (try clear ih); (first | assumption | (dsimp only; first | assumption | grind) | grind)) (by assumption) (by (try clear ih); (first | assumption | (dsimp only; first | assumption | grind) | grind)) (by (try clear ih); (first | assumption | (dsimp only; first | assumption | grind) | grind)) (by assumption) (by assumption) (by (try clear ih); (first | assumption | (dsimp only; first | assumption | grind) | grind)) (by (try clear ih); (first | assumption | (dsimp only; first | assumption | grind) | grind)) (by (try clear ih); (first | assumption | (dsimp only; first | assumption | grind) | grind)) (by (try clear ih); (first | assumption | (dsimp only; first | assumption | grind) | grind)) (tm1 (by (try clear ih); (first | assumption | (dsimp only; first | assumption | grind) | grind)) hm)
          · refine pu_neg q11 ?_
            refine pu_pos (ti 26 (by (try clear ih); (first | assumption | (dsimp only; first | assumption | grind) | grind)) (by (try clear ih); (first | assumption | (dsimp only; first | assumption | grind) | grind)) rfl) ?_
            obtain ⟨r34, h12, p13⟩ := T_M_capital (ml x3.toNatClampNeg) 
            refine pu_bind h12 ?_
            clear h12
            refine pu_pos (ti 6 (by (try clear ih); (first | assumption | (dsimp only; first | assumption | grind) | grind)) (by (try clear ih); (first | assumption | (dsimp only; first | assumption | grind) | grind)) rfl) ?_
            exact ih ty mh dk mp ml (upd nm x2.toNatClampNeg r34) x1 (x2 + 1) (x3 + 1) (by (try clear ih); (first | assumption | (dsimp only; first | assumption | grind) | grind)) (by (try clear ih); (first | assumption | (dsimp only; first | assumption | grind) | grind)) (by assumption) (by (try clear ih); (first | assumption | (dsimp only; first | assumption | grind) | grind)) (by (try clear ih); (first | assumption | (dsimp only; first | assumption | grind) | grind)) (by assumption) (ta_upd (by assumption) (by (try clear ih); (first | assumption | (dsimp only; first | assumption | grind) | grind)) (by (try clear ih); (first | assumption | (dsimp only; first | assumption | grind) | grind))) (by (try clear ih); (first | assumption | (dsimp only; first | assumption | grind) | grind)) (by (try clear ih); (first | assumption | (dsimp only; first | assumption | grind) | grind)) (by (try clear ih); (first | assumption | (dsimp only; first | assumption | grind) | grind)) (by (try clear ih); (first | assumption | (dsimp only; first | assumption | grind) | grind)) (tm1 (by (try clear ih); (first | assumption | (dsimp only; first | assumption | grind) | grind)) hm)
        · refine pu_neg q10 ?_
          by_cases q14 : 6 ≤ x2
          · refine pu_pos q14 ?_
            exact ih ty mh dk mp ml nm x1 x2 (x3 + 1) (by (try clear ih); (first | assumption | (dsimp only; first | assumption | grind) | grind)) (by (try clear ih); (first | assumption | (dsimp only; first | assumption | grind) | grind)) (by assumption) (by (try clear ih); (first | assumption | (dsimp only; first | assumption | grind) | grind)) (by (try clear ih); (first | assumption | (dsimp only; first | assumption | grind) | grind)) (by assumption) (by assumption) (by (try clear ih); (first | assumption | (dsimp only; first | assumption | grind) | grind)) (by (try clear ih); (first | assumption | (dsimp only; first | assumption | grind) | grind)) (by (try clear ih); (first | assumption | (dsimp only; first | assumption | grind) | grind)) (by (try clear ih); (first | assumption | (dsimp only; first | assumption | grind) | grind)) (tm1 (by (try clear ih); (first | assumption | (dsimp only; first | assumption | grind) | grind)) hm)
          · refine pu_neg q14 ?_
            refine pu_pos (ti 26 (by (try clear ih); (first | assumption | (dsimp only; first | assumption | grind) | grind)) (by (try clear ih); (first | assumption | (dsimp only; first | assumption | grind) | grind)) rfl) ?_
            obtain ⟨r39, h15, p16⟩ := T_M_capital (ml x3.toNatClampNeg) 
            refine pu_bind h15 ?_
            clear h15
            refine pu_pos (ti 6 (by (try clear ih); (first | assumption | (dsimp only; first | assumption | grind) | grind)) (by (try clear ih); (first | assumption | (dsimp only; first | assumption | grind) | grind)) rfl) ?_
            exact ih ty mh dk mp ml (upd nm x2.toNatClampNeg r39) x1 (x2 + 1) (x3 + 1) (by (try clear ih); (first | assumption | (dsimp only; first | assumption | grind) | grind)) (by (try clear ih); (first | assumption | (dsimp only; first | assumption | grind) | grind)) (by assumption) (by (try clear ih); (first | assumption | (dsimp only; first | assumption | grind) | grind)) (by (try clear ih); (first | assumption | (dsimp only; first | assumption | grind) | grind)) (by assumption) (ta_upd (by assumption) (by (try clear ih); (first | assumption | (dsimp only; first | assumption | grind) | grind)) (by (try clear ih); (first | assumption | (dsimp only; first | assumption | grind) | grind))) (by (try clear ih); (first | assumption | (dsimp only; first | assumption | grind) | grind)) (by (try clear ih); (first | assumption | (dsimp only; first | assumption | grind) | grind)) (by (try clear ih); (first | assumption | (dsimp only; first | assumption | grind) | grind)) (by (try clear ih); (first | assumption | (dsimp only; first | assumption | grind) | grind)) (tm1 (by (try clear ih); (first | assumption | (dsimp only; first | assumption | grind) | grind)) hm)
