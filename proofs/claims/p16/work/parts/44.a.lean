set_option maxHeartbeats 4000000 in
theorem T_M_type (ty : Int32) (th : Int32) (ml : Nat → Int32) (x1 : Int32) (h0_ : 0 ≤ ty) (h1_ : ty ≤ 26) (h2_ : ta 0 255 ml) : ∃ r : Int32 × Int32 × Int32 × (Nat → Int32), f_M_type ty th ml x1 = some r ∧ (r.1 = 0 ∨ r.1 = 1) ∧ 0 ≤ r.2.1 ∧ r.2.1 ≤ 26 ∧ ta 0 255 r.2.2.2 := by
  rw [f_M_type]
  by_cases q1 : x1 < 33
  · refine pu_pos q1 ?_
    exact ⟨_, rfl, (by (first | assumption | (dsimp only; first | assumption | grind) | grind)), (by (first | assumption | (dsimp only; first | assumption | grind) | grind)), (by (first | assumption | (dsimp only; first | assumption | grind) | grind)), (by assumption)⟩
  · refine pu_neg q1 ?_
    by_cases q2 : 126 < x1
    · refine pu_pos q2 ?_
      exact ⟨_, rfl, (by (first | assumption | (dsimp only; first | assumption | grind) | grind)), (by (first | assumption | (dsimp only; first | assumption | grind) | grind)), (by (first | assumption | (dsimp only; first | assumption | grind) | grind)), (by assumption)⟩
    · refine pu_neg q2 ?_
      by_cases q3 : x1 = 47
      · refine pu_pos q3 ?_
        exact ⟨_, rfl, (by (first | assumption | (dsimp only; first | assumption | grind) | grind)), (by (first | assumption | (dsimp only; first | assumption | grind) | grind)), (by (first | assumption | (dsimp only; first | assumption | grind) | grind)), (by assumption)⟩
      · refine pu_neg q3 ?_
        by_cases q4 : ty = 26
        · refine pu_pos q4 ?_
          exact ⟨_, rfl, (by (first | assumption | (dsimp only; first | assumption | grind) | grind)), (by (first | assumption | (dsimp only; first | assumption | grind) | grind)), (by (first | assumption | (dsimp only; first | assumption | grind) | grind)), (by assumption)⟩
        · refine pu_neg q4 ?_
          refine pu_pos (ti 26 (by (first | assumption | (dsimp only; first | assumption | grind) | grind)) (by (first | assumption | (dsimp only; first | assumption | grind) | grind)) rfl) ?_
          exact ⟨_, rfl, (by (first | assumption | (dsimp only; first | assumption | grind) | grind)), (by (first | assumption | (dsimp only; first | assumption | grind) | grind)), (by (first | assumption | (dsimp only; first | assumption | grind) | grind)), (ta_upd (by assumption) (by (first | assumption | (dsimp only; first | assumption | grind) | grind)) (by (first | assumption | (dsimp only; first | assumption | grind) | grind)))⟩
set_option maxHeartbeats 4000000 in
theorem T_M_ready (on : Int32) (dd : Int32) (th : Int32) (sp : Int32)  : ∃ r : Int32 × Int32 × Int32, f_M_ready on dd th sp = some r ∧ (r.1 = 0 ∨ r.1 = 1) := by
  rw [f_M_ready]
  by_cases q1 : on = 0
  · refine pu_pos q1 ?_
    exact ⟨_, rfl, (by (first | assumption | (dsimp only; first | assumption | grind) | grind))⟩
  · refine pu_neg q1 ?_
    by_cases q2 : sp = 0
    · refine pu_pos q2 ?_
      exact ⟨_, rfl, (by (first | assumption | (dsimp only; first | assumption | grind) | grind))⟩
    · refine pu_neg q2 ?_
      exact ⟨_, rfl, (by (first | assumption | (dsimp only; first | assumption | grind) | grind))⟩
set_option maxHeartbeats 4000000 in
theorem T_M_in (x0 : Int32) (x1 : Int32) (x2 : Int32)  : ∃ r : Int32, f_M_in x0 x1 x2 = some r ∧ (r = 1 ∧ x1 ≤ x0 ∧ x0 ≤ x2 ∨ r = 0 ∧ ¬ (x1 ≤ x0 ∧ x0 ≤ x2)) := by
  rw [f_M_in]
  by_cases q1 : x0 < x1
  · refine pu_pos q1 ?_
    exact ⟨_, rfl, (by (first | assumption | (dsimp only; first | assumption | grind) | grind))⟩
  · refine pu_neg q1 ?_
    by_cases q2 : x2 < x0
    · refine pu_pos q2 ?_
      exact ⟨_, rfl, (by (first | assumption | (dsimp only; first | assumption | grind) | grind))⟩
    · refine pu_neg q2 ?_
      exact ⟨_, rfl, (by (first | assumption | (dsimp only; first | assumption | grind) | grind))⟩
set_option maxHeartbeats 4000000 in
theorem T_M_numberAt (dk : Nat → Int32) (x1 : Int32) (h0_ : ta 0 255 dk) (h1_ : 0 ≤ x1) (h2_ : x1 ≤ 2238) : ∃ r : Int32, f_M_numberAt dk x1 = some r ∧ 0 ≤ r ∧ r ≤ 65535 ∧ r = dk x1.toNatClampNeg + 256 * dk (x1 + 1).toNatClampNeg := by
  rw [f_M_numberAt]
  refine pu_pos (ti 2240 (by (first | assumption | (dsimp only; first | assumption | grind) | grind)) (by (first | assumption | (dsimp only; first | assumption | grind) | grind)) rfl) ?_
  refine pu_pos (ti 2240 (by (first | assumption | (dsimp only; first | assumption | grind) | grind)) (by (first | assumption | (dsimp only; first | assumption | grind) | grind)) rfl) ?_
  have a1 := ((by assumption) : ta 0 255 dk) x1.toNatClampNeg
  have a2 := ((by assumption) : ta 0 255 dk) (x1 + 1).toNatClampNeg
  exact ⟨_, rfl, (by (first | assumption | (dsimp only; first | assumption | grind) | grind)), (by (first | assumption | (dsimp only; first | assumption | grind) | grind)), (by (first | assumption | (dsimp only; first | assumption | grind) | grind))⟩
set_option maxHeartbeats 4000000 in
theorem T_M_cell (dk : Nat → Int32) (x1 : Int32) (h0_ : ta 0 255 dk) (h1_ : 0 ≤ x1) (h2_ : x1 ≤ 63) : ∃ r : Int32, f_M_cell dk x1 = some r ∧ 0 ≤ r ∧ r ≤ 65535 ∧ r = ce dk x1.toNatClampNeg := by
  rw [f_M_cell]
  obtain ⟨r1, h1, p2, p3, p4⟩ := T_M_numberAt dk (2 * x1) (by assumption) (by (first | assumption | (dsimp only; first | assumption | grind) | grind)) (by (first | assumption | (dsimp only; first | assumption | grind) | grind))
  refine pu_bind h1 ?_
  clear h1
  exact ⟨_, rfl, (by (first | assumption | (dsimp only; first | assumption | grind) | grind)), (by (first | assumption | (dsimp only; first | assumption | grind) | grind)), (by first | assumption | exact Eq.trans (by assumption) (ce_x (by assumption) (by assumption)))⟩
set_option maxHeartbeats 4000000 in
theorem T_M_cluster_L5 : ∀ (fuel : Nat) (dk : Nat → Int32) (x2 : Int32) (x3 : Int32) (x4 : Int32), ta 0 255 dk → 0 ≤ x4 → tm x2 x4 fuel → ∃ r : Int32, f_M_cluster_L5 fuel dk x2 x3 x4 = some r ∧ (r = 0 ∨ 2 ≤ r ∧ r ≤ 63) := by
  intro fuel
  induction fuel with
  | zero =>
    intro dk x2 x3 x4 h0_ h1_ hm
    exact (tm0 hm).elim
  | succ fuel ih =>
    intro dk x2 x3 x4 h0_ h1_ hm
    rw [f_M_cluster_L5]
    by_cases q1 : x2 ≤ x4
    · refine pu_pos q1 ?_
      obtain ⟨r2, h2, p3⟩ := T_M_in x3 2 63 
      refine pu_bind h2 ?_
      clear h2
      by_cases q4 : r2 = 0
      · refine pu_pos q4 ?_
        exact ⟨_, rfl, (by (try clear ih); (first | assumption | (dsimp only; first | assumption | grind) | grind))⟩
      · refine pu_neg q4 ?_
        exact ⟨_, rfl, (by (try clear ih); (first | assumption | (dsimp only; first | assumption | grind) | grind))⟩
    · refine pu_neg q1 ?_
      obtain ⟨r5, h5, p6⟩ := T_M_in x3 2 63 
      refine pu_bind h5 ?_
      clear h5
      by_cases q7 : r5 = 0
      · refine pu_pos q7 ?_
        obtain ⟨r8, h8, p9⟩ := T_M_in x3 2 63 
        refine pu_bind h8 ?_
        clear h8
        by_cases q10 : r8 = 0
        · refine pu_pos q10 ?_
          exact ⟨_, rfl, (by (try clear ih); (first | assumption | (dsimp only; first | assumption | grind) | grind))⟩
        · refine pu_neg q10 ?_
          exact ⟨_, rfl, (by (try clear ih); (first | assumption | (dsimp only; first | assumption | grind) | grind))⟩
      · refine pu_neg q7 ?_
        obtain ⟨r11, h11, p12, p13, p14⟩ := T_M_cell dk x3 (by assumption) (by (try clear ih); (first | assumption | (dsimp only; first | assumption | grind) | grind)) (by (try clear ih); (first | assumption | (dsimp only; first | assumption | grind) | grind))
        refine pu_bind h11 ?_
        clear h11
        exact ih dk x2 r11 (x4 + 1) (by assumption) (by (try clear ih); (first | assumption | (dsimp only; first | assumption | grind) | grind)) (tm1 (by (try clear ih); (first | assumption | (dsimp only; first | assumption | grind) | grind)) hm)
set_option maxHeartbeats 4000000 in
theorem T_M_cluster (dk : Nat → Int32) (x1 : Int32) (x2 : Int32) (h0_ : ta 0 255 dk) : ∃ r : Int32, f_M_cluster dk x1 x2 = some r ∧ (r = 0 ∨ 2 ≤ r ∧ r ≤ 63) := by
  rw [f_M_cluster]
  exact T_M_cluster_L5 100000000000 dk x2 x1 0 (by assumption) (by (first | assumption | (dsimp only; first | assumption | grind) | grind)) (tmz _ _)
set_option maxHeartbeats 4000000 in
theorem T_M_length_L2 : ∀ (fuel : Nat) (dk : Nat → Int32) (x1 : Int32) (x2 : Int32), ta 0 255 dk → 0 ≤ x2 → x2 ≤ 64 → tc dk x1 x2 → tm 64 x2 fuel → ∃ r : Int32, f_M_length_L2 fuel dk x1 x2 = some r ∧ 0 ≤ r ∧ r ≤ 64 ∧ tc dk x1 r := by
  intro fuel
  induction fuel with
  | zero =>
    intro dk x1 x2 h0_ h1_ h2_ h3_ hm
    exact (tm0 hm).elim
  | succ fuel ih =>
    intro dk x1 x2 h0_ h1_ h2_ h3_ hm
    rw [f_M_length_L2]
    by_cases q1 : 64 ≤ x2
    · refine pu_pos q1 ?_
      exact ⟨_, rfl, (by (try clear ih); (first | assumption | (dsimp only; first | assumption | grind) | grind)), (by (try clear ih); (first | assumption | (dsimp only; first | assumption | grind) | grind)), (by first | assumption | exact tc_0 | exact tc_s (by assumption) (by (try clear ih); (first | assumption | (dsimp only; first | assumption | grind) | grind)) (by assumption) (by assumption) (by (try clear ih); (first | assumption | (dsimp only; first | assumption | grind) | grind)))⟩
    · refine pu_neg q1 ?_
      obtain ⟨r2, h2, p3⟩ := T_M_cluster dk x1 x2 (by assumption)
      refine pu_bind h2 ?_
      by_cases q4 : r2 ≤ 0
      · refine pu_pos q4 ?_
        exact ⟨_, rfl, (by (try clear ih); (first | assumption | (dsimp only; first | assumption | grind) | grind)), (by (try clear ih); (first | assumption | (dsimp only; first | assumption | grind) | grind)), (by first | assumption | exact tc_0 | exact tc_s (by assumption) (by (try clear ih); (first | assumption | (dsimp only; first | assumption | grind) | grind)) (by assumption) (by assumption) (by (try clear ih); (first | assumption | (dsimp only; first | assumption | grind) | grind)))⟩
      · refine pu_neg q4 ?_
        exact ih dk x1 (x2 + 1) (by assumption) (by (try clear ih); (first | assumption | (dsimp only; first | assumption | grind) | grind)) (by (try clear ih); (first | assumption | (dsimp only; first | assumption | grind) | grind)) (by first | assumption | exact tc_0 | exact tc_s (by assumption) (by (try clear ih); (first | assumption | (dsimp only; first | assumption | grind) | grind)) (by assumption) (by assumption) (by (try clear ih); (first | assumption | (dsimp only; first | assumption | grind) | grind))) (tm1 (by (try clear ih); (first | assumption | (dsimp only; first | assumption | grind) | grind)) hm)
set_option maxHeartbeats 4000000 in
theorem T_M_length (dk : Nat → Int32) (x1 : Int32) (h0_ : ta 0 255 dk) : ∃ r : Int32, f_M_length dk x1 = some r ∧ 0 ≤ r ∧ r ≤ 64 ∧ tc dk x1 r := by
  rw [f_M_length]
  exact T_M_length_L2 100000000000 dk x1 0 (by assumption) (by (first | assumption | (dsimp only; first | assumption | grind) | grind)) (by (first | assumption | (dsimp only; first | assumption | grind) | grind)) (by first | assumption | exact tc_0 | exact tc_s (by assumption) (by (first | assumption | (dsimp only; first | assumption | grind) | grind)) (by assumption) (by assumption) (by (first | assumption | (dsimp only; first | assumption | grind) | grind))) (tmz _ _)
set_option maxHeartbeats 4000000 in
theorem T_M_place (dk : Nat → Int32) (x1 : Int32) (x2 : Int32) (h0_ : ta 0 255 dk) : ∃ r : Int32, f_M_place dk x1 x2 = some r ∧ 176 ≤ r ∧ r ≤ 2224 ∧ tp dk x1 x2 r := by
  rw [f_M_place]
  have d1 := td x2 2 (by decide)
  obtain ⟨r1, h2, p3⟩ := T_M_cluster dk x1 (x2 / 2) (by assumption)
  refine pu_bind h2 ?_
  exact ⟨_, rfl, (by (first | assumption | (dsimp only; first | assumption | grind) | grind)), (by (first | assumption | (dsimp only; first | assumption | grind) | grind)), (by (intro n hn n0 n1 k0 k1; have hv9 := hn (x2 / 2) r1 (by clear hn; grind) (by clear hn; grind) (by assumption); clear hn; grind))⟩
set_option maxHeartbeats 4000000 in
theorem T_M_isFree (dk : Nat → Int32) (x1 : Int32) (h0_ : ta 0 255 dk) (h1_ : 0 ≤ x1) (h2_ : x1 ≤ 2239) : ∃ r : Int32, f_M_isFree dk x1 = some r ∧ (r = 0 ∨ r = 1) := by
  rw [f_M_isFree]
  refine pu_pos (ti 2240 (by (first | assumption | (dsimp only; first | assumption | grind) | grind)) (by (first | assumption | (dsimp only; first | assumption | grind) | grind)) rfl) ?_
  have a1 := ((by assumption) : ta 0 255 dk) x1.toNatClampNeg
  by_cases q2 : (dk x1.toNatClampNeg) = 0
  · refine pu_pos q2 ?_
    exact ⟨_, rfl, (by (first | assumption | (dsimp only; first | assumption | grind) | grind))⟩
  · refine pu_neg q2 ?_
    refine pu_pos (ti 2240 (by (first | assumption | (dsimp only; first | assumption | grind) | grind)) (by (first | assumption | (dsimp only; first | assumption | grind) | grind)) rfl) ?_
    by_cases q3 : (dk x1.toNatClampNeg) = 229
    · refine pu_pos q3 ?_
      exact ⟨_, rfl, (by (first | assumption | (dsimp only; first | assumption | grind) | grind))⟩
    · refine pu_neg q3 ?_
      exact ⟨_, rfl, (by (first | assumption | (dsimp only; first | assumption | grind) | grind))⟩
set_option maxHeartbeats 4000000 in
theorem T_M_isNamed (dk : Nat → Int32) (x1 : Int32) (h0_ : ta 0 255 dk) (h1_ : 0 ≤ x1) (h2_ : x1 ≤ 2233) : ∃ r : Int32, f_M_isNamed dk x1 = some r ∧ (r = 0 ∨ r = 1) := by
  rw [f_M_isNamed]
  obtain ⟨r1, h1, p2⟩ := T_M_isFree dk x1 (by assumption) (by (first | assumption | (dsimp only; first | assumption | grind) | grind)) (by (first | assumption | (dsimp only; first | assumption | grind) | grind))
  refine pu_bind h1 ?_
  clear h1
  by_cases q3 : r1 = 0
  · refine pu_pos q3 ?_
    refine pu_pos (ti 2240 (by (first | assumption | (dsimp only; first | assumption | grind) | grind)) (by (first | assumption | (dsimp only; first | assumption | grind) | grind)) rfl) ?_
    have a4 := ((by assumption) : ta 0 255 dk) (x1 + 6).toNatClampNeg
    by_cases q5 : (dk (x1 + 6).toNatClampNeg) = 1
    · refine pu_pos q5 ?_
      exact ⟨_, rfl, (by (first | assumption | (dsimp only; first | assumption | grind) | grind))⟩
    · refine pu_neg q5 ?_
      refine pu_pos (ti 2240 (by (first | assumption | (dsimp only; first | assumption | grind) | grind)) (by (first | assumption | (dsimp only; first | assumption | grind) | grind)) rfl) ?_
      by_cases q6 : (dk (x1 + 6).toNatClampNeg) = 2
      · refine pu_pos q6 ?_
        exact ⟨_, rfl, (by (first | assumption | (dsimp only; first | assumption | grind) | grind))⟩
      · refine pu_neg q6 ?_
        exact ⟨_, rfl, (by (first | assumption | (dsimp only; first | assumption | grind) | grind))⟩
  · refine pu_neg q3 ?_
    exact ⟨_, rfl, (by (first | assumption | (dsimp only; first | assumption | grind) | grind))⟩
set_option maxHeartbeats 4000000 in
theorem T_M_summed (x0 : Int32) (x1 : Int32)  : ∃ r : Int32, f_M_summed x0 x1 = some r ∧ 0 ≤ r ∧ r ≤ 255 := by
  rw [f_M_summed]
  have d1 := td x0 128 (by decide)
  have n2 := tand (((x0 * 2) + (x0 / 128)) + x1) 255 (by decide)
  exact ⟨_, rfl, (by (first | assumption | (dsimp only; first | assumption | grind) | grind)), (by (first | assumption | (dsimp only; first | assumption | grind) | grind))⟩
set_option maxHeartbeats 4000000 in
theorem T_M_isPart (dk : Nat → Int32) (x1 : Int32) (x2 : Int32) (x3 : Int32) (h0_ : ta 0 255 dk) (h1_ : 0 ≤ x1) (h2_ : x1 ≤ 2232) : ∃ r : Int32, f_M_isPart dk x1 x2 x3 = some r ∧ (r = 0 ∨ r = 1) := by
  rw [f_M_isPart]
  refine pu_pos (ti 2240 (by (first | assumption | (dsimp only; first | assumption | grind) | grind)) (by (first | assumption | (dsimp only; first | assumption | grind) | grind)) rfl) ?_
  have a1 := ((by assumption) : ta 0 255 dk) (x1 + 6).toNatClampNeg
  by_cases q2 : (dk (x1 + 6).toNatClampNeg) = 15
  · refine pu_pos q2 ?_
    refine pu_pos (ti 2240 (by (first | assumption | (dsimp only; first | assumption | grind) | grind)) (by (first | assumption | (dsimp only; first | assumption | grind) | grind)) rfl) ?_
    have a3 := ((by assumption) : ta 0 255 dk) x1.toNatClampNeg
    by_cases q4 : (dk x1.toNatClampNeg) = x2
    · refine pu_pos q4 ?_
      refine pu_pos (ti 2240 (by (first | assumption | (dsimp only; first | assumption | grind) | grind)) (by (first | assumption | (dsimp only; first | assumption | grind) | grind)) rfl) ?_
      have a5 := ((by assumption) : ta 0 255 dk) (x1 + 7).toNatClampNeg
      by_cases q6 : (dk (x1 + 7).toNatClampNeg) = x3
      · refine pu_pos q6 ?_
        exact ⟨_, rfl, (by (first | assumption | (dsimp only; first | assumption | grind) | grind))⟩
      · refine pu_neg q6 ?_
        exact ⟨_, rfl, (by (first | assumption | (dsimp only; first | assumption | grind) | grind))⟩
    · refine pu_neg q4 ?_
      exact ⟨_, rfl, (by (first | assumption | (dsimp only; first | assumption | grind) | grind))⟩
  · refine pu_neg q2 ?_
    exact ⟨_, rfl, (by (first | assumption | (dsimp only; first | assumption | grind) | grind))⟩
set_option maxHeartbeats 4000000 in
theorem T_M_partsOf_L23 : ∀ (fuel : Nat) (dk : Nat → Int32) (x1 : Int32) (x2 : Int32) (x3 : Int32) (x4 : Int32) (x5 : Int32), ta 0 255 dk → 0 ≤ x5 → 176 ≤ x3 → x3 ≤ 2224 → tm 6 x5 fuel → ∃ r : Int32, f_M_partsOf_L23 fuel dk x1 x2 x3 x4 x5 = some r ∧ 0 ≤ r ∧ r ≤ 2 := by
  intro fuel
  induction fuel with
  | zero =>
    intro dk x1 x2 x3 x4 x5 h0_ h1_ h2_ h3_ hm
    exact (tm0 hm).elim
  | succ fuel ih =>
    intro dk x1 x2 x3 x4 x5 h0_ h1_ h2_ h3_ hm
    rw [f_M_partsOf_L23]
    by_cases q1 : 6 ≤ x5
    · refine pu_pos q1 ?_
      by_cases q2 : x2 ≤ 0
      · refine pu_pos q2 ?_
        by_cases q3 : x2 ≤ 1
        · refine pu_pos q3 ?_
          exact ⟨_, rfl, (by (try clear ih); (first | assumption | (dsimp only; first | assumption | grind) | grind)), (by (try clear ih); (first | assumption | (dsimp only; first | assumption | grind) | grind))⟩
        · refine pu_neg q3 ?_
          obtain ⟨r9, h4, p5, p6, p7⟩ := T_M_place dk x1 (x2 - 1) (by assumption)
          refine pu_bind h4 ?_
          clear h4
          obtain ⟨r11, h8, p9⟩ := T_M_isPart dk r9 1 x4 (by assumption) (by (try clear ih); (first | assumption | (dsimp only; first | assumption | grind) | grind)) (by (try clear ih); (first | assumption | (dsimp only; first | assumption | grind) | grind))
          refine pu_bind h8 ?_
          clear h8
          by_cases q10 : r11 = 0
          · refine pu_pos q10 ?_
            exact ⟨_, rfl, (by (try clear ih); (first | assumption | (dsimp only; first | assumption | grind) | grind)), (by (try clear ih); (first | assumption | (dsimp only; first | assumption | grind) | grind))⟩
          · refine pu_neg q10 ?_
            obtain ⟨r14, h11, p12, p13, p14⟩ := T_M_place dk x1 (x2 - 2) (by assumption)
            refine pu_bind h11 ?_
            clear h11
            obtain ⟨r16, h15, p16⟩ := T_M_isPart dk r14 66 x4 (by assumption) (by (try clear ih); (first | assumption | (dsimp only; first | assumption | grind) | grind)) (by (try clear ih); (first | assumption | (dsimp only; first | assumption | grind) | grind))
            refine pu_bind h15 ?_
            clear h15
            by_cases q17 : r16 = 0
            · refine pu_pos q17 ?_
              exact ⟨_, rfl, (by (try clear ih); (first | assumption | (dsimp only; first | assumption | grind) | grind)), (by (try clear ih); (first | assumption | (dsimp only; first | assumption | grind) | grind))⟩
            · refine pu_neg q17 ?_
              exact ⟨_, rfl, (by (try clear ih); (first | assumption | (dsimp only; first | assumption | grind) | grind)), (by (try clear ih); (first | assumption | (dsimp only; first | assumption | grind) | grind))⟩
      · refine pu_neg q2 ?_
        obtain ⟨r19, h18, p19, p20, p21⟩ := T_M_place dk x1 (x2 - 1) (by assumption)
        refine pu_bind h18 ?_
        clear h18
        obtain ⟨r21, h22, p23⟩ := T_M_isPart dk r19 65 x4 (by assumption) (by (try clear ih); (first | assumption | (dsimp only; first | assumption | grind) | grind)) (by (try clear ih); (first | assumption | (dsimp only; first | assumption | grind) | grind))
        refine pu_bind h22 ?_
        clear h22
        by_cases q24 : r21 = 0
        · refine pu_pos q24 ?_
          by_cases q25 : x2 ≤ 1
          · refine pu_pos q25 ?_
            exact ⟨_, rfl, (by (try clear ih); (first | assumption | (dsimp only; first | assumption | grind) | grind)), (by (try clear ih); (first | assumption | (dsimp only; first | assumption | grind) | grind))⟩
          · refine pu_neg q25 ?_
            obtain ⟨r25, h26, p27, p28, p29⟩ := T_M_place dk x1 (x2 - 1) (by assumption)
            refine pu_bind h26 ?_
            clear h26
            obtain ⟨r27, h30, p31⟩ := T_M_isPart dk r25 1 x4 (by assumption) (by (try clear ih); (first | assumption | (dsimp only; first | assumption | grind) | grind)) (by (try clear ih); (first | assumption | (dsimp only; first | assumption | grind) | grind))
            refine pu_bind h30 ?_
            clear h30
            by_cases q32 : r27 = 0
            · refine pu_pos q32 ?_
              exact ⟨_, rfl, (by (try clear ih); (first | assumption | (dsimp only; first | assumption | grind) | grind)), (by (try clear ih); (first | assumption | (dsimp only; first | assumption | grind) | grind))⟩
            · refine pu_neg q32 ?_
              obtain ⟨r30, h33, p34, p35, p36⟩ := T_M_place dk x1 (x2 - 2) (by assumption)
              refine pu_bind h33 ?_
              clear h33
              obtain ⟨r32, h37, p38⟩ := T_M_isPart dk r30 66 x4 (by assumption) (by (try clear ih); (first | assumption | (dsimp only; first | assumption | grind) | grind)) (by (try clear ih); (first | assumption | (dsimp only; first | assumption | grind) | grind))
              refine pu_bind h37 ?_
              clear h37
              by_cases q39 : r32 = 0
              · refine pu_pos q39 ?_
                exact ⟨_, rfl, (by (try clear ih); (first | assumption | (dsimp only; first | assumption | grind) | grind)), (by (try clear ih); (first | assumption | (dsimp only; first | assumption | grind) | grind))⟩
              · refine pu_neg q39 ?_
                exact ⟨_, rfl, (by (try clear ih); (first | assumption | (dsimp only; first | assumption | grind) | grind)), (by (try clear ih); (first | assumption | (dsimp only; first | assumption | grind) | grind))⟩
        · refine pu_neg q24 ?_
          exact ⟨_, rfl, (by (try clear ih); (first | assumption | (dsimp only; first | assumption | grind) | grind)), (by (try clear ih); (first | assumption | (dsimp only; first | assumption | grind) | grind))⟩
    · refine pu_neg q1 ?_
      refine pu_pos (ti 2240 (by (try clear ih); (first | assumption | (dsimp only; first | assumption | grind) | grind)) (by (try clear ih); (first | assumption | (dsimp only; first | assumption | grind) | grind)) rfl) ?_
      have a40 := ((by assumption) : ta 0 255 dk) (x3 + x5).toNatClampNeg
      obtain ⟨r36, h41, p42, p43⟩ := T_M_summed x4 (dk (x3 + x5).toNatClampNeg) 
      refine pu_bind h41 ?_
      clear h41
      exact ih dk x1 x2 x3 r36 (x5 + 1) (by assumption) (by (try clear ih); (first | assumption | (dsimp only; first | assumption | grind) | grind)) (by (try clear ih); (first | assumption | (dsimp only; first | assumption | grind) | grind)) (by (try clear ih); (first | assumption | (dsimp only; first | assumption | grind) | grind)) (tm1 (by (try clear ih); (first | assumption | (dsimp only; first | assumption | grind) | grind)) hm)
set_option maxHeartbeats 4000000 in
theorem T_M_partsOf (dk : Nat → Int32) (x1 : Int32) (x2 : Int32) (h0_ : ta 0 255 dk) : ∃ r : Int32, f_M_partsOf dk x1 x2 = some r ∧ 0 ≤ r ∧ r ≤ 2 := by
  rw [f_M_partsOf]
  obtain ⟨r1, h1, p2, p3, p4⟩ := T_M_place dk x1 x2 (by assumption)
  refine pu_bind h1 ?_
  clear h1
  obtain ⟨r3, h5, p6⟩ := T_M_isNamed dk r1 (by assumption) (by (first | assumption | (dsimp only; first | assumption | grind) | grind)) (by (first | assumption | (dsimp only; first | assumption | grind) | grind))
  refine pu_bind h5 ?_
  clear h5
  by_cases q7 : r3 = 0
  · refine pu_pos q7 ?_
    exact ⟨_, rfl, (by (first | assumption | (dsimp only; first | assumption | grind) | grind)), (by (first | assumption | (dsimp only; first | assumption | grind) | grind))⟩
  · refine pu_neg q7 ?_
    exact T_M_partsOf_L23 100000000000 dk x1 x2 r1 0 0 (by assumption) (by (first | assumption | (dsimp only; first | assumption | grind) | grind)) (by (first | assumption | (dsimp only; first | assumption | grind) | grind)) (by (first | assumption | (dsimp only; first | assumption | grind) | grind)) (tmz _ _)
set_option maxHeartbeats 4000000 in
theorem T_M_capital (x0 : Int32)  : ∃ r : Int32, f_M_capital x0 = some r ∧ (0 ≤ x0 → x0 ≤ 255 → 0 ≤ r ∧ r ≤ 255) := by
  rw [f_M_capital]
  obtain ⟨r1, h1, p2⟩ := T_M_in x0 97 122 
  refine pu_bind h1 ?_
  clear h1
  by_cases q3 : r1 = 0
  · refine pu_pos q3 ?_
    exact ⟨_, rfl, (by (first | assumption | (dsimp only; first | assumption | grind) | grind))⟩
  · refine pu_neg q3 ?_
    exact ⟨_, rfl, (by (first | assumption | (dsimp only; first | assumption | grind) | grind))⟩
set_option maxHeartbeats 4000000 in
theorem T_M_shortLetter_L2 : ∀ (fuel : Nat) (dk : Nat → Int32) (x1 : Int32) (x2 : Int32) (x3 : Int32), ta 0 255 dk → 0 ≤ x3 → 176 ≤ x1 → x1 ≤ 2224 → 0 ≤ x2 → x2 ≤ 1000 → tm x2 x3 fuel → ∃ r : Int32, f_M_shortLetter_L2 fuel dk x1 x2 x3 = some r ∧ True := by
  intro fuel
  induction fuel with
  | zero =>
    intro dk x1 x2 x3 h0_ h1_ h2_ h3_ h4_ h5_ hm
    exact (tm0 hm).elim
  | succ fuel ih =>
    intro dk x1 x2 x3 h0_ h1_ h2_ h3_ h4_ h5_ hm
    rw [f_M_shortLetter_L2]
    by_cases q1 : x2 < x3
    · refine pu_pos q1 ?_
      by_cases q2 : 6 ≤ x2
      · refine pu_pos q2 ?_
        exact ⟨_, rfl, trivial⟩
      · refine pu_neg q2 ?_
        refine pu_pos (ti 2240 (by (try clear ih); (first | assumption | (dsimp only; first | assumption | grind) | grind)) (by (try clear ih); (first | assumption | (dsimp only; first | assumption | grind) | grind)) rfl) ?_
        have a3 := ((by assumption) : ta 0 255 dk) (x1 + x2).toNatClampNeg
        exact ⟨_, rfl, trivial⟩
    · refine pu_neg q1 ?_
      by_cases q4 : 6 ≤ x3
      · refine pu_pos q4 ?_
        by_cases q5 : 6 ≤ x2
        · refine pu_pos q5 ?_
          exact ⟨_, rfl, trivial⟩
        · refine pu_neg q5 ?_
          refine pu_pos (ti 2240 (by (try clear ih); (first | assumption | (dsimp only; first | assumption | grind) | grind)) (by (try clear ih); (first | assumption | (dsimp only; first | assumption | grind) | grind)) rfl) ?_
          have a6 := ((by assumption) : ta 0 255 dk) (x1 + x2).toNatClampNeg
          exact ⟨_, rfl, trivial⟩
      · refine pu_neg q4 ?_
        refine pu_pos (ti 2240 (by (try clear ih); (first | assumption | (dsimp only; first | assumption | grind) | grind)) (by (try clear ih); (first | assumption | (dsimp only; first | assumption | grind) | grind)) rfl) ?_
        have a7 := ((by assumption) : ta 0 255 dk) (x1 + x3).toNatClampNeg
        by_cases q8 : (dk (x1 + x3).toNatClampNeg) = 32
        · refine pu_pos q8 ?_
          exact ⟨_, rfl, trivial⟩
        · refine pu_neg q8 ?_
          refine pu_pos (ti 2240 (by (try clear ih); (first | assumption | (dsimp only; first | assumption | grind) | grind)) (by (try clear ih); (first | assumption | (dsimp only; first | assumption | grind) | grind)) rfl) ?_
          by_cases q9 : (dk (x1 + x3).toNatClampNeg) = 0
          · refine pu_pos q9 ?_
            exact ⟨_, rfl, trivial⟩
          · refine pu_neg q9 ?_
            exact ih dk x1 x2 (x3 + 1) (by assumption) (by (try clear ih); (first | assumption | (dsimp only; first | assumption | grind) | grind)) (by (try clear ih); (first | assumption | (dsimp only; first | assumption | grind) | grind)) (by (try clear ih); (first | assumption | (dsimp only; first | assumption | grind) | grind)) (by (try clear ih); (first | assumption | (dsimp only; first | assumption | grind) | grind)) (by (try clear ih); (first | assumption | (dsimp only; first | assumption | grind) | grind)) (tm2 (by (try clear ih); (first | assumption | (dsimp only; first | assumption | grind) | grind)) (by (try clear ih); (first | assumption | (dsimp only; first | assumption | grind) | grind)) hm)
