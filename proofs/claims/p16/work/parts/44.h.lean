set_option maxHeartbeats 4000000 in
theorem T_M_open (on : Int32) (dd : Int32) (ty : Int32) (mh : Int32) (dk : Nat → Int32) (op : Nat → Int32) (th : Int32) (sp : Int32) (ml : Nat → Int32) (ps : Nat → Int32) (h0_ : 0 ≤ ty) (h1_ : ty ≤ 26) (h2_ : ta 0 255 dk) (h3_ : ta 0 2224 op) (h4_ : ta 0 255 ml) : ∃ r : Int32 × Int32 × Int32 × (Nat → Int32) × Int32 × (Nat → Int32), f_M_open on dd ty mh dk op th sp ml ps = some r ∧ 0 ≤ r.2.2.1 ∧ r.2.2.1 ≤ 26 ∧ ta 0 2224 r.2.2.2.1 := by
  rw [f_M_open]
  obtain ⟨r1, h1, p2⟩ := T_M_ready on dd th sp 
  refine pu_bind h1 ?_
  clear h1
  by_cases q3 : r1.1 = 0
  · refine pu_pos q3 ?_
    exact ⟨_, rfl, (by (first | assumption | (dsimp only; first | assumption | grind) | grind)), (by (first | assumption | (dsimp only; first | assumption | grind) | grind)), (by assumption)⟩
  · refine pu_neg q3 ?_
    obtain ⟨r4, h4, p5⟩ := T_M_find ty mh dk ml (by (first | assumption | (dsimp only; first | assumption | grind) | grind)) (by (first | assumption | (dsimp only; first | assumption | grind) | grind)) (by assumption) (by assumption)
    refine pu_bind h4 ?_
    clear h4
    by_cases q6 : r4 < 0
    · refine pu_pos q6 ?_
      exact ⟨_, rfl, (by (first | assumption | (dsimp only; first | assumption | grind) | grind)), (by (first | assumption | (dsimp only; first | assumption | grind) | grind)), (by assumption)⟩
    · refine pu_neg q6 ?_
      obtain ⟨r8, h7, p8, p9, p10⟩ := T_M_place dk mh r4 (by assumption)
      refine pu_bind h7 ?_
      clear h7
      refine pu_pos (ti 2240 (by (first | assumption | (dsimp only; first | assumption | grind) | grind)) (by (first | assumption | (dsimp only; first | assumption | grind) | grind)) rfl) ?_
      have a11 := ((by assumption) : ta 0 255 dk) (r8 + 6).toNatClampNeg
      by_cases q12 : (dk (r8 + 6).toNatClampNeg) = 1
      · refine pu_pos q12 ?_
        exact T_M_open_L64 100000000000 on r1.2.1 0 mh dk op 0 sp ml ps r4 0 (by (first | assumption | (dsimp only; first | assumption | grind) | grind)) (by (first | assumption | (dsimp only; first | assumption | grind) | grind)) (by assumption) (by assumption) (by assumption) (by (first | assumption | (dsimp only; first | assumption | grind) | grind)) (tmz _ _)
      · refine pu_neg q12 ?_
        exact ⟨_, rfl, (by (first | assumption | (dsimp only; first | assumption | grind) | grind)), (by (first | assumption | (dsimp only; first | assumption | grind) | grind)), (by assumption)⟩
set_option maxHeartbeats 4000000 in
theorem T_M_isOpen (op : Nat → Int32) (x1 : Int32) (h0_ : ta 0 2224 op) : ∃ r : Int32, f_M_isOpen op x1 = some r ∧ (r = 0 ∨ r = 1 ∧ 0 ≤ x1 ∧ x1 ≤ 3) := by
  rw [f_M_isOpen]
  obtain ⟨r1, h1, p2⟩ := T_M_in x1 0 3 
  refine pu_bind h1 ?_
  clear h1
  by_cases q3 : r1 = 0
  · refine pu_pos q3 ?_
    exact ⟨_, rfl, (by (first | assumption | (dsimp only; first | assumption | grind) | grind))⟩
  · refine pu_neg q3 ?_
    refine pu_pos (ti 4 (by (first | assumption | (dsimp only; first | assumption | grind) | grind)) (by (first | assumption | (dsimp only; first | assumption | grind) | grind)) rfl) ?_
    have a4 := ((by assumption) : ta 0 2224 op) x1.toNatClampNeg
    by_cases q5 : (op x1.toNatClampNeg) ≤ 0
    · refine pu_pos q5 ?_
      exact ⟨_, rfl, (by (first | assumption | (dsimp only; first | assumption | grind) | grind))⟩
    · refine pu_neg q5 ?_
      exact ⟨_, rfl, (by (first | assumption | (dsimp only; first | assumption | grind) | grind))⟩
set_option maxHeartbeats 4000000 in
theorem T_M_close (op : Nat → Int32) (th : Int32) (x1 : Int32) (h0_ : ta 0 2224 op) : ∃ r : Int32 × (Nat → Int32) × Int32, f_M_close op th x1 = some r ∧ (r.1 = 0 ∨ r.1 = 1) ∧ ta 0 2224 r.2.1 := by
  rw [f_M_close]
  obtain ⟨r1, h1, p2⟩ := T_M_isOpen op x1 (by assumption)
  refine pu_bind h1 ?_
  clear h1
  by_cases q3 : r1 = 0
  · refine pu_pos q3 ?_
    exact ⟨_, rfl, (by (first | assumption | (dsimp only; first | assumption | grind) | grind)), (by assumption)⟩
  · refine pu_neg q3 ?_
    refine pu_pos (ti 4 (by (first | assumption | (dsimp only; first | assumption | grind) | grind)) (by (first | assumption | (dsimp only; first | assumption | grind) | grind)) rfl) ?_
    exact ⟨_, rfl, (by (first | assumption | (dsimp only; first | assumption | grind) | grind)), (ta_upd (by assumption) (by (first | assumption | (dsimp only; first | assumption | grind) | grind)) (by (first | assumption | (dsimp only; first | assumption | grind) | grind)))⟩
set_option maxHeartbeats 4000000 in
theorem T_M_sizeOf (dk : Nat → Int32) (op : Nat → Int32) (x1 : Int32) (h0_ : ta 0 255 dk) (h1_ : ta 0 2224 op) (h2_ : 0 ≤ x1) (h3_ : x1 ≤ 3) : ∃ r : Int32, f_M_sizeOf dk op x1 = some r ∧ True := by
  rw [f_M_sizeOf]
  refine pu_pos (ti 4 (by (first | assumption | (dsimp only; first | assumption | grind) | grind)) (by (first | assumption | (dsimp only; first | assumption | grind) | grind)) rfl) ?_
  have a1 := ((by assumption) : ta 0 2224 op) x1.toNatClampNeg
  obtain ⟨r2, h2, p3, p4, p5⟩ := T_M_numberAt dk ((op x1.toNatClampNeg) + 10) (by assumption) (by (first | assumption | (dsimp only; first | assumption | grind) | grind)) (by (first | assumption | (dsimp only; first | assumption | grind) | grind))
  refine pu_bind h2 ?_
  clear h2
  exact ⟨_, rfl, trivial⟩
set_option maxHeartbeats 4000000 in
theorem T_M_seek (dk : Nat → Int32) (op : Nat → Int32) (th : Int32) (ps : Nat → Int32) (x1 : Int32) (x2 : Int32) (h0_ : ta 0 255 dk) (h1_ : ta 0 2224 op) : ∃ r : Int32 × Int32 × (Nat → Int32), f_M_seek dk op th ps x1 x2 = some r ∧ (r.1 = 0 ∨ r.1 = 1) := by
  rw [f_M_seek]
  obtain ⟨r1, h1, p2⟩ := T_M_isOpen op x1 (by assumption)
  refine pu_bind h1 ?_
  clear h1
  by_cases q3 : r1 = 0
  · refine pu_pos q3 ?_
    exact ⟨_, rfl, (by (first | assumption | (dsimp only; first | assumption | grind) | grind))⟩
  · refine pu_neg q3 ?_
    obtain ⟨r4, h4, p5⟩ := T_M_sizeOf dk op x1 (by assumption) (by assumption) (by (first | assumption | (dsimp only; first | assumption | grind) | grind)) (by (first | assumption | (dsimp only; first | assumption | grind) | grind))
    refine pu_bind h4 ?_
    clear h4
    obtain ⟨r6, h6, p7⟩ := T_M_in x2 0 r4 
    refine pu_bind h6 ?_
    clear h6
    by_cases q8 : r6 = 0
    · refine pu_pos q8 ?_
      exact ⟨_, rfl, (by (first | assumption | (dsimp only; first | assumption | grind) | grind))⟩
    · refine pu_neg q8 ?_
      refine pu_pos (ti 4 (by (first | assumption | (dsimp only; first | assumption | grind) | grind)) (by (first | assumption | (dsimp only; first | assumption | grind) | grind)) rfl) ?_
      exact ⟨_, rfl, (by (first | assumption | (dsimp only; first | assumption | grind) | grind))⟩
set_option maxHeartbeats 4000000 in
theorem T_M_byteOf (dk : Nat → Int32) (op : Nat → Int32) (x1 : Int32) (x2 : Int32) (h0_ : ta 0 255 dk) (h1_ : ta 0 2224 op) (h2_ : 0 ≤ x1) (h3_ : x1 ≤ 3) : ∃ r : Int32, f_M_byteOf dk op x1 x2 = some r ∧ 0 ≤ r ∧ r < 2240 := by
  rw [f_M_byteOf]
  refine pu_pos (ti 4 (by (first | assumption | (dsimp only; first | assumption | grind) | grind)) (by (first | assumption | (dsimp only; first | assumption | grind) | grind)) rfl) ?_
  have a1 := ((by assumption) : ta 0 2224 op) x1.toNatClampNeg
  obtain ⟨r2, h2, p3, p4, p5⟩ := T_M_numberAt dk ((op x1.toNatClampNeg) + 8) (by assumption) (by (first | assumption | (dsimp only; first | assumption | grind) | grind)) (by (first | assumption | (dsimp only; first | assumption | grind) | grind))
  refine pu_bind h2 ?_
  clear h2
  have d6 := td x2 32 (by decide)
  obtain ⟨r4, h7, p8⟩ := T_M_cluster dk r2 (x2 / 32) (by assumption)
  refine pu_bind h7 ?_
  clear h7
  exact ⟨_, rfl, (by (first | assumption | (dsimp only; first | assumption | grind) | grind)), (by (first | assumption | (dsimp only; first | assumption | grind) | grind))⟩
set_option maxHeartbeats 4000000 in
theorem T_M_read_L76 : ∀ (fuel : Nat) (on : Int32) (dd : Int32) (dk : Nat → Int32) (op : Nat → Int32) (th : Int32) (sp : Int32) (ps : Nat → Int32) (x1 : Int32) (x4 : Int32) (x5 : Int64) (x7 : Int32), ta 0 255 dk → ta 0 2224 op → 0 ≤ x7 → 0 ≤ x1 → x1 ≤ 3 → tm x4 x7 fuel → ∃ r : Int64 × Int32 × Int32 × (Nat → Int32), f_M_read_L76 fuel on dd dk op th sp ps x1 x4 x5 x7 = some r ∧ True := by
  intro fuel
  induction fuel with
  | zero =>
    intro on dd dk op th sp ps x1 x4 x5 x7 h0_ h1_ h2_ h3_ h4_ hm
    exact (tm0 hm).elim
  | succ fuel ih =>
    intro on dd dk op th sp ps x1 x4 x5 x7 h0_ h1_ h2_ h3_ h4_ hm
    rw [f_M_read_L76]
    by_cases q1 : x4 ≤ x7
    · refine pu_pos q1 ?_
      exact ⟨_, rfl, trivial⟩
    · refine pu_neg q1 ?_
      refine pu_pos (ti 4 (by (try clear ih); (first | assumption | (dsimp only; first | assumption | grind) | grind)) (by (try clear ih); (first | assumption | (dsimp only; first | assumption | grind) | grind)) rfl) ?_
      obtain ⟨r19, h2, p3, p4⟩ := T_M_byteOf dk op x1 (ps x1.toNatClampNeg) (by assumption) (by assumption) (by (try clear ih); (first | assumption | (dsimp only; first | assumption | grind) | grind)) (by (try clear ih); (first | assumption | (dsimp only; first | assumption | grind) | grind))
      refine pu_bind h2 ?_
      clear h2
      refine pu_pos (ti 2240 (by (try clear ih); (first | assumption | (dsimp only; first | assumption | grind) | grind)) (by (try clear ih); (first | assumption | (dsimp only; first | assumption | grind) | grind)) rfl) ?_
      refine pu_pos (ti 4 (by (try clear ih); (first | assumption | (dsimp only; first | assumption | grind) | grind)) (by (try clear ih); (first | assumption | (dsimp only; first | assumption | grind) | grind)) rfl) ?_
      refine pu_pos (ti 4 (by (try clear ih); (first | assumption | (dsimp only; first | assumption | grind) | grind)) (by (try clear ih); (first | assumption | (dsimp only; first | assumption | grind) | grind)) rfl) ?_
      have a5 := ((by assumption) : ta 0 255 dk) r19.toNatClampNeg
      exact ih on dd dk op th sp (upd ps x1.toNatClampNeg ((ps x1.toNatClampNeg) + 1)) x1 x4 ((x5 * 256) + ((dk r19.toNatClampNeg).toInt64)) (x7 + 1) (by assumption) (by assumption) (by (try clear ih); (first | assumption | (dsimp only; first | assumption | grind) | grind)) (by (try clear ih); (first | assumption | (dsimp only; first | assumption | grind) | grind)) (by (try clear ih); (first | assumption | (dsimp only; first | assumption | grind) | grind)) (tm1 (by (try clear ih); (first | assumption | (dsimp only; first | assumption | grind) | grind)) hm)
set_option maxHeartbeats 4000000 in
theorem T_M_read (on : Int32) (dd : Int32) (dk : Nat → Int32) (op : Nat → Int32) (th : Int32) (sp : Int32) (ps : Nat → Int32) (x1 : Int32) (x2 : Int32) (h0_ : ta 0 255 dk) (h1_ : ta 0 2224 op) : ∃ r : Int64 × Int32 × Int32 × (Nat → Int32), f_M_read on dd dk op th sp ps x1 x2 = some r ∧ True := by
  rw [f_M_read]
  obtain ⟨r1, h1, p2⟩ := T_M_ready on dd th sp 
  refine pu_bind h1 ?_
  clear h1
  by_cases q3 : r1.1 = 0
  · refine pu_pos q3 ?_
    exact ⟨_, rfl, trivial⟩
  · refine pu_neg q3 ?_
    obtain ⟨r4, h4, p5⟩ := T_M_isOpen op x1 (by assumption)
    refine pu_bind h4 ?_
    clear h4
    by_cases q6 : r4 = 0
    · refine pu_pos q6 ?_
      exact ⟨_, rfl, trivial⟩
    · refine pu_neg q6 ?_
      obtain ⟨r8, h7, p8⟩ := T_M_in x2 1 7 
      refine pu_bind h7 ?_
      clear h7
      by_cases q9 : r8 = 0
      · refine pu_pos q9 ?_
        exact ⟨_, rfl, trivial⟩
      · refine pu_neg q9 ?_
        obtain ⟨r13, h10, p11⟩ := T_M_sizeOf dk op x1 (by assumption) (by assumption) (by (first | assumption | (dsimp only; first | assumption | grind) | grind)) (by (first | assumption | (dsimp only; first | assumption | grind) | grind))
        refine pu_bind h10 ?_
        clear h10
        refine pu_pos (ti 4 (by (first | assumption | (dsimp only; first | assumption | grind) | grind)) (by (first | assumption | (dsimp only; first | assumption | grind) | grind)) rfl) ?_
        by_cases q12 : (r13 - (ps x1.toNatClampNeg)) ≤ x2
        · refine pu_pos q12 ?_
          exact T_M_read_L76 100000000000 on r1.2.1 dk op 0 sp ps x1 (r13 - (ps x1.toNatClampNeg)) 0 0 (by assumption) (by assumption) (by (first | assumption | (dsimp only; first | assumption | grind) | grind)) (by (first | assumption | (dsimp only; first | assumption | grind) | grind)) (by (first | assumption | (dsimp only; first | assumption | grind) | grind)) (tmz _ _)
        · refine pu_neg q12 ?_
          exact T_M_read_L76 100000000000 on r1.2.1 dk op 0 sp ps x1 x2 0 0 (by assumption) (by assumption) (by (first | assumption | (dsimp only; first | assumption | grind) | grind)) (by (first | assumption | (dsimp only; first | assumption | grind) | grind)) (by (first | assumption | (dsimp only; first | assumption | grind) | grind)) (tmz _ _)
set_option maxHeartbeats 4000000 in
theorem T_M_writeNumber (w : am_MS) (x1 : Int32) (x2 : Int32) (h0_ : 0 ≤ w.2.2.2.2.1) (h1_ : w.2.2.2.2.1 ≤ 26) (h2_ : ta 0 255 w.2.2.2.2.2.2.2.1) (h3_ : ta 0 2224 w.2.2.2.2.2.2.2.2) (h4_ : 0 ≤ x1) (h5_ : x1 ≤ 2238) : ∃ r : am_MS, f_M_writeNumber w x1 x2 = some r ∧ 0 ≤ r.2.2.2.2.1 ∧ r.2.2.2.2.1 ≤ 26 ∧ ta 0 255 r.2.2.2.2.2.2.2.1 ∧ ta 0 2224 r.2.2.2.2.2.2.2.2 ∧ tn w r x1 := by
  rw [f_M_writeNumber]
  obtain ⟨r1, h1, p2, p3, p4, p5, p6, p7⟩ := T_M_door w (by (first | assumption | (dsimp only; first | assumption | grind) | grind)) (by (first | assumption | (dsimp only; first | assumption | grind) | grind)) (by assumption) (by assumption)
  refine pu_bind h1 ?_
  clear h1
  by_cases q8 : r1.1 = 0
  · refine pu_pos q8 ?_
    exact ⟨_, rfl, (by (first | assumption | (dsimp only; first | assumption | grind) | grind)), (by (first | assumption | (dsimp only; first | assumption | grind) | grind)), (by assumption), (by assumption), (by (intro hx9; first | exact tk_e (by (first | assumption | (dsimp only; first | assumption | grind) | grind)) (by (first | assumption | (dsimp only; first | assumption | grind) | grind)) | exact tk_n hx9 (by (first | assumption | (dsimp only; first | assumption | grind) | grind)) (by (first | assumption | (dsimp only; first | assumption | grind) | grind)) (by assumption) (by assumption)))⟩
  · refine pu_neg q8 ?_
    obtain ⟨r4, h9, p10, p11⟩ := T_M_number r1.2.2.2.2.2.2.2.2.1 x1 x2 (by assumption) (by (first | assumption | (dsimp only; first | assumption | grind) | grind)) (by (first | assumption | (dsimp only; first | assumption | grind) | grind))
    refine pu_bind h9 ?_
    clear h9
    exact ⟨_, rfl, (by (first | assumption | (dsimp only; first | assumption | grind) | grind)), (by (first | assumption | (dsimp only; first | assumption | grind) | grind)), (by assumption), (by assumption), (by (intro hx9; first | exact tk_e (by (first | assumption | (dsimp only; first | assumption | grind) | grind)) (by (first | assumption | (dsimp only; first | assumption | grind) | grind)) | exact tk_n hx9 (by (first | assumption | (dsimp only; first | assumption | grind) | grind)) (by (first | assumption | (dsimp only; first | assumption | grind) | grind)) (by assumption) (by assumption)))⟩
set_option maxHeartbeats 4000000 in
theorem T_M_fill_L3 : ∀ (fuel : Nat) (w : am_MS) (x1 : Int32) (x2 : Int32) (x3 : Int32) (x4 : Int64) (x6 : Int32) (x7 : Int32), 0 ≤ w.2.2.2.2.1 → w.2.2.2.2.1 ≤ 26 → ta 0 255 w.2.2.2.2.2.2.2.1 → ta 0 2224 w.2.2.2.2.2.2.2.2 → 0 ≤ x1 → x1 ≤ 2224 → tm (x2 + x3) x7 fuel → ∃ r : am_MS, f_M_fill_L3 fuel w x1 x2 x3 x4 x6 x7 = some r ∧ 0 ≤ r.2.2.2.2.1 ∧ r.2.2.2.2.1 ≤ 26 ∧ ta 0 255 r.2.2.2.2.2.2.2.1 ∧ ta 0 2224 r.2.2.2.2.2.2.2.2 := by
  intro fuel
  induction fuel with
  | zero =>
    intro w x1 x2 x3 x4 x6 x7 h0_ h1_ h2_ h3_ h4_ h5_ hm
    exact (tm0 hm).elim
  | succ fuel ih =>
    intro w x1 x2 x3 x4 x6 x7 h0_ h1_ h2_ h3_ h4_ h5_ hm
    rw [f_M_fill_L3]
    by_cases q1 : (x2 + x3) ≤ x7
    · refine pu_pos q1 ?_
      exact ⟨_, rfl, (by (try clear ih); (first | assumption | (dsimp only; first | assumption | grind) | grind)), (by (try clear ih); (first | assumption | (dsimp only; first | assumption | grind) | grind)), (by assumption), (by assumption)⟩
    · refine pu_neg q1 ?_
      by_cases q2 : x7 ≤ x2
      · refine pu_pos q2 ?_
        obtain ⟨r3, h3, p4, p5, p6, p7, p8, p9⟩ := T_M_door w (by (try clear ih); (first | assumption | (dsimp only; first | assumption | grind) | grind)) (by (try clear ih); (first | assumption | (dsimp only; first | assumption | grind) | grind)) (by assumption) (by assumption)
        refine pu_bind h3 ?_
        clear h3
        by_cases q10 : r3.1 = 0
        · refine pu_pos q10 ?_
          exact ih r3.2 x1 x2 x3 x4 x6 (x7 + 1) (by (try clear ih); (first | assumption | (dsimp only; first | assumption | grind) | grind)) (by (try clear ih); (first | assumption | (dsimp only; first | assumption | grind) | grind)) (by assumption) (by assumption) (by (try clear ih); (first | assumption | (dsimp only; first | assumption | grind) | grind)) (by (try clear ih); (first | assumption | (dsimp only; first | assumption | grind) | grind)) (tm1 (by (try clear ih); (first | assumption | (dsimp only; first | assumption | grind) | grind)) hm)
        · refine pu_neg q10 ?_
          obtain ⟨r6, h11, p12, p13, p14⟩ := T_M_numberAt r3.2.2.2.2.2.2.2.2.1 (x1 + 8) (by assumption) (by (try clear ih); (first | assumption | (dsimp only; first | assumption | grind) | grind)) (by (try clear ih); (first | assumption | (dsimp only; first | assumption | grind) | grind))
          refine pu_bind h11 ?_
          clear h11
          have d15 := td x7 32 (by decide)
          obtain ⟨r8, h16, p17⟩ := T_M_cluster r3.2.2.2.2.2.2.2.2.1 r6 (x7 / 32) (by assumption)
          refine pu_bind h16 ?_
          clear h16
          refine pu_pos (ti 2240 (by (try clear ih); (first | assumption | (dsimp only; first | assumption | grind) | grind)) (by (try clear ih); (first | assumption | (dsimp only; first | assumption | grind) | grind)) rfl) ?_
          have n18 := tand64 (x4 >>> ((8 * (((x6 - 1) - x7) + x2)).toInt64 &&& 63)) 255 (by decide)
          exact ih (r3.2.1, r3.2.2.1, r3.2.2.2.1, r3.2.2.2.2.1, r3.2.2.2.2.2.1, r3.2.2.2.2.2.2.1, r3.2.2.2.2.2.2.2.1, (upd r3.2.2.2.2.2.2.2.2.1 ((32 * (r8 + 6)) + (x7 - x7 / 32 * 32)).toNatClampNeg (((x4 >>> ((8 * (((x6 - 1) - x7) + x2)).toInt64 &&& 63)) &&& 255).toInt32)), r3.2.2.2.2.2.2.2.2.2) x1 x2 x3 x4 x6 (x7 + 1) (by (try clear ih); (first | assumption | (dsimp only; first | assumption | grind) | grind)) (by (try clear ih); (first | assumption | (dsimp only; first | assumption | grind) | grind)) (ta_upd (by assumption) (by (try clear ih); (first | assumption | (dsimp only; first | assumption | grind) | grind)) (by (try clear ih); (first | assumption | (dsimp only; first | assumption | grind) | grind))) (by assumption) (by (try clear ih); (first | assumption | (dsimp only; first | assumption | grind) | grind)) (by (try clear ih); (first | assumption | (dsimp only; first | assumption | grind) | grind)) (tm1 (by (try clear ih); (first | assumption | (dsimp only; first | assumption | grind) | grind)) hm)
      · refine pu_neg q2 ?_
        have d19 := td x7 32 (by decide)
        by_cases q20 : (x7 - x7 / 32 * 32) = 0
        · refine pu_pos q20 ?_
          obtain ⟨r12, h21, p22, p23, p24, p25, p26, p27⟩ := T_M_door w (by (try clear ih); (first | assumption | (dsimp only; first | assumption | grind) | grind)) (by (try clear ih); (first | assumption | (dsimp only; first | assumption | grind) | grind)) (by assumption) (by assumption)
          refine pu_bind h21 ?_
          clear h21
          by_cases q28 : r12.1 = 0
          · refine pu_pos q28 ?_
            exact ih r12.2 x1 x2 x3 x4 x6 (x7 + 1) (by (try clear ih); (first | assumption | (dsimp only; first | assumption | grind) | grind)) (by (try clear ih); (first | assumption | (dsimp only; first | assumption | grind) | grind)) (by assumption) (by assumption) (by (try clear ih); (first | assumption | (dsimp only; first | assumption | grind) | grind)) (by (try clear ih); (first | assumption | (dsimp only; first | assumption | grind) | grind)) (tm1 (by (try clear ih); (first | assumption | (dsimp only; first | assumption | grind) | grind)) hm)
          · refine pu_neg q28 ?_
            obtain ⟨r15, h29, p30, p31, p32⟩ := T_M_numberAt r12.2.2.2.2.2.2.2.2.1 (x1 + 8) (by assumption) (by (try clear ih); (first | assumption | (dsimp only; first | assumption | grind) | grind)) (by (try clear ih); (first | assumption | (dsimp only; first | assumption | grind) | grind))
            refine pu_bind h29 ?_
            clear h29
            obtain ⟨r17, h33, p34⟩ := T_M_cluster r12.2.2.2.2.2.2.2.2.1 r15 (x7 / 32) (by assumption)
            refine pu_bind h33 ?_
            clear h33
            refine pu_pos (ti 2240 (by (try clear ih); (first | assumption | (dsimp only; first | assumption | grind) | grind)) (by (try clear ih); (first | assumption | (dsimp only; first | assumption | grind) | grind)) rfl) ?_
            have n35 := tand64 (x4 >>> ((8 * (((x6 - 1) - x7) + x2)).toInt64 &&& 63)) 255 (by decide)
            exact ih (r12.2.1, r12.2.2.1, r12.2.2.2.1, r12.2.2.2.2.1, r12.2.2.2.2.2.1, r12.2.2.2.2.2.2.1, r12.2.2.2.2.2.2.2.1, (upd r12.2.2.2.2.2.2.2.2.1 ((32 * (r17 + 6)) + (x7 - x7 / 32 * 32)).toNatClampNeg (((x4 >>> ((8 * (((x6 - 1) - x7) + x2)).toInt64 &&& 63)) &&& 255).toInt32)), r12.2.2.2.2.2.2.2.2.2) x1 x2 x3 x4 x6 (x7 + 1) (by (try clear ih); (first | assumption | (dsimp only; first | assumption | grind) | grind)) (by (try clear ih); (first | assumption | (dsimp only; first | assumption | grind) | grind)) (ta_upd (by assumption) (by (try clear ih); (first | assumption | (dsimp only; first | assumption | grind) | grind)) (by (try clear ih); (first | assumption | (dsimp only; first | assumption | grind) | grind))) (by assumption) (by (try clear ih); (first | assumption | (dsimp only; first | assumption | grind) | grind)) (by (try clear ih); (first | assumption | (dsimp only; first | assumption | grind) | grind)) (tm1 (by (try clear ih); (first | assumption | (dsimp only; first | assumption | grind) | grind)) hm)
        · refine pu_neg q20 ?_
          by_cases q36 : w.2.1 = 0
          · refine pu_pos q36 ?_
            obtain ⟨r23, h37, p38, p39, p40⟩ := T_M_numberAt w.2.2.2.2.2.2.2.1 (x1 + 8) (by assumption) (by (try clear ih); (first | assumption | (dsimp only; first | assumption | grind) | grind)) (by (try clear ih); (first | assumption | (dsimp only; first | assumption | grind) | grind))
            refine pu_bind h37 ?_
            clear h37
            obtain ⟨r25, h41, p42⟩ := T_M_cluster w.2.2.2.2.2.2.2.1 r23 (x7 / 32) (by assumption)
            refine pu_bind h41 ?_
            clear h41
            refine pu_pos (ti 2240 (by (try clear ih); (first | assumption | (dsimp only; first | assumption | grind) | grind)) (by (try clear ih); (first | assumption | (dsimp only; first | assumption | grind) | grind)) rfl) ?_
            have n43 := tand64 (x4 >>> ((8 * (((x6 - 1) - x7) + x2)).toInt64 &&& 63)) 255 (by decide)
            exact ih (w.1, w.2.1, w.2.2.1, w.2.2.2.1, w.2.2.2.2.1, w.2.2.2.2.2.1, w.2.2.2.2.2.2.1, (upd w.2.2.2.2.2.2.2.1 ((32 * (r25 + 6)) + (x7 - x7 / 32 * 32)).toNatClampNeg (((x4 >>> ((8 * (((x6 - 1) - x7) + x2)).toInt64 &&& 63)) &&& 255).toInt32)), w.2.2.2.2.2.2.2.2) x1 x2 x3 x4 x6 (x7 + 1) (by (try clear ih); (first | assumption | (dsimp only; first | assumption | grind) | grind)) (by (try clear ih); (first | assumption | (dsimp only; first | assumption | grind) | grind)) (ta_upd (by assumption) (by (try clear ih); (first | assumption | (dsimp only; first | assumption | grind) | grind)) (by (try clear ih); (first | assumption | (dsimp only; first | assumption | grind) | grind))) (by assumption) (by (try clear ih); (first | assumption | (dsimp only; first | assumption | grind) | grind)) (by (try clear ih); (first | assumption | (dsimp only; first | assumption | grind) | grind)) (tm1 (by (try clear ih); (first | assumption | (dsimp only; first | assumption | grind) | grind)) hm)
          · refine pu_neg q36 ?_
            exact ih w x1 x2 x3 x4 x6 (x7 + 1) (by (try clear ih); (first | assumption | (dsimp only; first | assumption | grind) | grind)) (by (try clear ih); (first | assumption | (dsimp only; first | assumption | grind) | grind)) (by assumption) (by assumption) (by (try clear ih); (first | assumption | (dsimp only; first | assumption | grind) | grind)) (by (try clear ih); (first | assumption | (dsimp only; first | assumption | grind) | grind)) (tm1 (by (try clear ih); (first | assumption | (dsimp only; first | assumption | grind) | grind)) hm)
set_option maxHeartbeats 4000000 in
theorem T_M_fill (w : am_MS) (x1 : Int32) (x2 : Int32) (x3 : Int32) (x4 : Int64) (x6 : Int32) (h0_ : 0 ≤ w.2.2.2.2.1) (h1_ : w.2.2.2.2.1 ≤ 26) (h2_ : ta 0 255 w.2.2.2.2.2.2.2.1) (h3_ : ta 0 2224 w.2.2.2.2.2.2.2.2) (h4_ : 0 ≤ x1) (h5_ : x1 ≤ 2224) : ∃ r : am_MS, f_M_fill w x1 x2 x3 x4 x6 = some r ∧ 0 ≤ r.2.2.2.2.1 ∧ r.2.2.2.2.1 ≤ 26 ∧ ta 0 255 r.2.2.2.2.2.2.2.1 ∧ ta 0 2224 r.2.2.2.2.2.2.2.2 := by
  rw [f_M_fill]
  exact T_M_fill_L3 100000000000 w x1 x2 x3 x4 x6 x2 (by (first | assumption | (dsimp only; first | assumption | grind) | grind)) (by (first | assumption | (dsimp only; first | assumption | grind) | grind)) (by assumption) (by assumption) (by (first | assumption | (dsimp only; first | assumption | grind) | grind)) (by (first | assumption | (dsimp only; first | assumption | grind) | grind)) (tmz _ _)
