set_option maxHeartbeats 4000000 in
theorem T_M_writeEntry (w : am_MS) (nm : Nat → Int32) (x1 : Int32) (x2 : Int32) (x3 : Int32) (h0_ : 0 ≤ w.2.2.2.2.1) (h1_ : w.2.2.2.2.1 ≤ 26) (h2_ : ta 0 255 w.2.2.2.2.2.2.2.1) (h3_ : ta 0 2224 w.2.2.2.2.2.2.2.2) (h4_ : ta 0 255 nm) (h5_ : 176 ≤ x1) (h6_ : x1 ≤ 2224) (h7_ : 0 ≤ x2) (h8_ : x2 ≤ 255) : ∃ r : am_MS, f_M_writeEntry w nm x1 x2 x3 = some r ∧ 0 ≤ r.2.2.2.2.1 ∧ r.2.2.2.2.1 ≤ 26 ∧ ta 0 255 r.2.2.2.2.2.2.2.1 ∧ ta 0 2224 r.2.2.2.2.2.2.2.2 := by
  rw [f_M_writeEntry]
  obtain ⟨r1, h1, p2, p3, p4, p5, p6, p7⟩ := T_M_door w (by (first | assumption | (dsimp only; first | assumption | grind) | grind)) (by (first | assumption | (dsimp only; first | assumption | grind) | grind)) (by assumption) (by assumption)
  refine pu_bind h1 ?_
  clear h1
  by_cases q8 : r1.1 = 0
  · refine pu_pos q8 ?_
    exact ⟨_, rfl, (by (first | assumption | (dsimp only; first | assumption | grind) | grind)), (by (first | assumption | (dsimp only; first | assumption | grind) | grind)), (by assumption), (by assumption)⟩
  · refine pu_neg q8 ?_
    exact T_M_writeEntry_L11 100000000000 r1.2 nm x1 x2 x3 0 (by (first | assumption | (dsimp only; first | assumption | grind) | grind)) (by (first | assumption | (dsimp only; first | assumption | grind) | grind)) (by assumption) (by assumption) (by assumption) (by (first | assumption | (dsimp only; first | assumption | grind) | grind)) (by (first | assumption | (dsimp only; first | assumption | grind) | grind)) (by (first | assumption | (dsimp only; first | assumption | grind) | grind)) (by (first | assumption | (dsimp only; first | assumption | grind) | grind)) (by (first | assumption | (dsimp only; first | assumption | grind) | grind)) (tmz _ _)
set_option maxHeartbeats 4000000 in
theorem T_M_make_L104 : ∀ (fuel : Nat) (w : am_MS) (mp : Int32) (ml : Nat → Int32) (nm : Nat → Int32) (x1 : Int32) (x2 : Int32) (x3 : Int32) (x4 : Int32), 0 ≤ w.2.2.2.2.1 → w.2.2.2.2.1 ≤ 26 → ta 0 255 w.2.2.2.2.2.2.2.1 → ta 0 2224 w.2.2.2.2.2.2.2.2 → 0 ≤ mp → mp ≤ 2 → ta 0 255 ml → ta 0 255 nm → 0 ≤ x1 → x1 ≤ 255 → x4 ≤ 2 → tm x4 0 fuel → ∃ r : Int32 × am_MS, f_M_make_L104 fuel w mp ml nm x1 x2 x3 x4 = some r ∧ (r.1 = 0 ∨ r.1 = 1) ∧ 0 ≤ r.2.2.2.2.2.1 ∧ r.2.2.2.2.2.1 ≤ 26 ∧ ta 0 255 r.2.2.2.2.2.2.2.2.1 ∧ ta 0 2224 r.2.2.2.2.2.2.2.2.2 := by
  intro fuel
  induction fuel with
  | zero =>
    intro w mp ml nm x1 x2 x3 x4 h0_ h1_ h2_ h3_ h4_ h5_ h6_ h7_ h8_ h9_ h10_ hm
    exact (tm0 hm).elim
  | succ fuel ih =>
    intro w mp ml nm x1 x2 x3 x4 h0_ h1_ h2_ h3_ h4_ h5_ h6_ h7_ h8_ h9_ h10_ hm
    rw [f_M_make_L104]
    by_cases q1 : x4 ≤ 0
    · refine pu_pos q1 ?_
      by_cases q2 : w.2.1 = 0
      · refine pu_pos q2 ?_
        obtain ⟨r8, h3, p4, p5, p6⟩ := T_M_place w.2.2.2.2.2.2.2.1 w.2.2.2.2.2.1 (x3 + mp) (by assumption)
        refine pu_bind h3 ?_
        clear h3
        obtain ⟨r10, h7, p8, p9, p10, p11⟩ := T_M_writeEntry w nm r8 x1 x2 (by (try clear ih); (first | (with_reducible assumption) | (dsimp only; first | (with_reducible assumption) | grind) | grind)) (by (try clear ih); (first | (with_reducible assumption) | (dsimp only; first | (with_reducible assumption) | grind) | grind)) (by assumption) (by assumption) (by assumption) (by (try clear ih); (first | (with_reducible assumption) | (dsimp only; first | (with_reducible assumption) | grind) | grind)) (by (try clear ih); (first | (with_reducible assumption) | (dsimp only; first | (with_reducible assumption) | grind) | grind)) (by (try clear ih); (first | (with_reducible assumption) | (dsimp only; first | (with_reducible assumption) | grind) | grind)) (by (try clear ih); (first | (with_reducible assumption) | (dsimp only; first | (with_reducible assumption) | grind) | grind))
        refine pu_bind h7 ?_
        clear h7
        exact ⟨_, rfl, (by (try clear ih); (first | (with_reducible assumption) | (dsimp only; first | (with_reducible assumption) | grind) | grind)), (by (try clear ih); (first | (with_reducible assumption) | (dsimp only; first | (with_reducible assumption) | grind) | grind)), (by (try clear ih); (first | (with_reducible assumption) | (dsimp only; first | (with_reducible assumption) | grind) | grind)), (by assumption), (by assumption)⟩
      · refine pu_neg q2 ?_
        exact ⟨_, rfl, (by (try clear ih); (first | (with_reducible assumption) | (dsimp only; first | (with_reducible assumption) | grind) | grind)), (by (try clear ih); (first | (with_reducible assumption) | (dsimp only; first | (with_reducible assumption) | grind) | grind)), (by (try clear ih); (first | (with_reducible assumption) | (dsimp only; first | (with_reducible assumption) | grind) | grind)), (by assumption), (by assumption)⟩
    · refine pu_neg q1 ?_
      by_cases q12 : w.2.1 = 0
      · refine pu_pos q12 ?_
        obtain ⟨r14, h13, p14, p15, p16⟩ := T_M_place w.2.2.2.2.2.2.2.1 w.2.2.2.2.2.1 ((x3 + mp) - x4) (by assumption)
        refine pu_bind h13 ?_
        clear h13
        obtain ⟨r16, h17, p18, p19, p20, p21⟩ := T_M_writePart w mp ml nm r14 x4 (by (try clear ih); (first | (with_reducible assumption) | (dsimp only; first | (with_reducible assumption) | grind) | grind)) (by (try clear ih); (first | (with_reducible assumption) | (dsimp only; first | (with_reducible assumption) | grind) | grind)) (by assumption) (by assumption) (by (try clear ih); (first | (with_reducible assumption) | (dsimp only; first | (with_reducible assumption) | grind) | grind)) (by (try clear ih); (first | (with_reducible assumption) | (dsimp only; first | (with_reducible assumption) | grind) | grind)) (by assumption) (by assumption) (by (try clear ih); (first | (with_reducible assumption) | (dsimp only; first | (with_reducible assumption) | grind) | grind)) (by (try clear ih); (first | (with_reducible assumption) | (dsimp only; first | (with_reducible assumption) | grind) | grind)) (by (try clear ih); (first | (with_reducible assumption) | (dsimp only; first | (with_reducible assumption) | grind) | grind)) (by (try clear ih); (first | (with_reducible assumption) | (dsimp only; first | (with_reducible assumption) | grind) | grind))
        refine pu_bind h17 ?_
        clear h17
        exact ih r16 mp ml nm x1 x2 x3 (x4 + (-1)) (by (try clear ih); (first | (with_reducible assumption) | (dsimp only; first | (with_reducible assumption) | grind) | grind)) (by (try clear ih); (first | (with_reducible assumption) | (dsimp only; first | (with_reducible assumption) | grind) | grind)) (by assumption) (by assumption) (by (try clear ih); (first | (with_reducible assumption) | (dsimp only; first | (with_reducible assumption) | grind) | grind)) (by (try clear ih); (first | (with_reducible assumption) | (dsimp only; first | (with_reducible assumption) | grind) | grind)) (by assumption) (by assumption) (by (try clear ih); (first | (with_reducible assumption) | (dsimp only; first | (with_reducible assumption) | grind) | grind)) (by (try clear ih); (first | (with_reducible assumption) | (dsimp only; first | (with_reducible assumption) | grind) | grind)) (by (try clear ih); (first | (with_reducible assumption) | (dsimp only; first | (with_reducible assumption) | grind) | grind)) (tmd (by (try clear ih); (first | (with_reducible assumption) | (dsimp only; first | (with_reducible assumption) | grind) | grind)) hm)
      · refine pu_neg q12 ?_
        exact ⟨_, rfl, (by (try clear ih); (first | (with_reducible assumption) | (dsimp only; first | (with_reducible assumption) | grind) | grind)), (by (try clear ih); (first | (with_reducible assumption) | (dsimp only; first | (with_reducible assumption) | grind) | grind)), (by (try clear ih); (first | (with_reducible assumption) | (dsimp only; first | (with_reducible assumption) | grind) | grind)), (by assumption), (by assumption)⟩
set_option maxHeartbeats 4000000 in
theorem T_M_make_L36 : ∀ (fuel : Nat) (w : am_MS) (mp : Int32) (ml : Nat → Int32) (nm : Nat → Int32) (x1 : Int32) (x2 : Int32) (x3 : Int32), 0 ≤ w.2.2.2.2.1 → w.2.2.2.2.1 ≤ 26 → ta 0 255 w.2.2.2.2.2.2.2.1 → ta 0 2224 w.2.2.2.2.2.2.2.2 → 0 ≤ mp → mp ≤ 2 → ta 0 255 ml → ta 0 255 nm → 0 ≤ x1 → x1 ≤ 255 → tq w fuel → ∃ r : Int32 × am_MS, f_M_make_L36 fuel w mp ml nm x1 x2 x3 = some r ∧ (r.1 = 0 ∨ r.1 = 1) ∧ 0 ≤ r.2.2.2.2.2.1 ∧ r.2.2.2.2.2.1 ≤ 26 ∧ ta 0 255 r.2.2.2.2.2.2.2.2.1 ∧ ta 0 2224 r.2.2.2.2.2.2.2.2.2 := by
  intro fuel
  induction fuel with
  | zero =>
    intro w mp ml nm x1 x2 x3 h0_ h1_ h2_ h3_ h4_ h5_ h6_ h7_ h8_ h9_ hm
    exact absurd hm.1 (Nat.lt_irrefl _)
  | succ fuel ih =>
    intro w mp ml nm x1 x2 x3 h0_ h1_ h2_ h3_ h4_ h5_ h6_ h7_ h8_ h9_ hm
    rw [f_M_make_L36]
    by_cases q1 : 0 ≤ x3
    · refine pu_pos q1 ?_
      exact T_M_make_L104 100000000000 w mp ml nm x1 x2 x3 mp (by (try clear ih); (first | assumption | (dsimp only; first | assumption | grind) | grind)) (by (try clear ih); (first | assumption | (dsimp only; first | assumption | grind) | grind)) (by assumption) (by assumption) (by (try clear ih); (first | assumption | (dsimp only; first | assumption | grind) | grind)) (by (try clear ih); (first | assumption | (dsimp only; first | assumption | grind) | grind)) (by assumption) (by assumption) (by (try clear ih); (first | assumption | (dsimp only; first | assumption | grind) | grind)) (by (try clear ih); (first | assumption | (dsimp only; first | assumption | grind) | grind)) (by (try clear ih); (first | assumption | (dsimp only; first | assumption | grind) | grind)) (tmz _ _)
    · refine pu_neg q1 ?_
      by_cases q2 : w.2.1 = 0
      · refine pu_pos q2 ?_
        obtain ⟨r19, h3, p4, p5, p6, p7, p8, p9⟩ := T_M_take w (by (try clear ih); (first | assumption | (dsimp only; first | assumption | grind) | grind)) (by (try clear ih); (first | assumption | (dsimp only; first | assumption | grind) | grind)) (by assumption) (by assumption)
        refine pu_bind h3 ?_
        clear h3
        by_cases q10 : r19.1 = 0
        · refine pu_pos q10 ?_
          exact ⟨_, rfl, (by (try clear ih); (first | assumption | (dsimp only; first | assumption | grind) | grind)), (by (try clear ih); (first | assumption | (dsimp only; first | assumption | grind) | grind)), (by (try clear ih); (first | assumption | (dsimp only; first | assumption | grind) | grind)), (by assumption), (by assumption)⟩
        · refine pu_neg q10 ?_
          obtain ⟨r22, h11, p12, p13, p14⟩ := T_M_length r19.2.2.2.2.2.2.2.2.1 r19.2.2.2.2.2.2.1 (by assumption)
          refine pu_bind h11 ?_
          clear h11
          obtain ⟨r24, h15, p16⟩ := T_M_cluster r19.2.2.2.2.2.2.2.2.1 r19.2.2.2.2.2.2.1 (r22 - 1) (by assumption)
          refine pu_bind h15 ?_
          clear h15
          obtain ⟨r26, h17, p18, p19, p20, p21, p22⟩ := T_M_set r19.2 r24 r19.1 (by (try clear ih); (first | assumption | (dsimp only; first | assumption | grind) | grind)) (by (try clear ih); (first | assumption | (dsimp only; first | assumption | grind) | grind)) (by assumption) (by assumption) (by (try clear ih); (first | assumption | (dsimp only; first | assumption | grind) | grind)) (by (try clear ih); (first | assumption | (dsimp only; first | assumption | grind) | grind))
          refine pu_bind h17 ?_
          clear h17
          obtain ⟨r28, h23, p24⟩ := T_M_space r26.2.2.2.2.2.1 r26.2.2.2.2.2.2.2.1 (mp + 1) (by assumption) (by (try clear ih); (first | assumption | (dsimp only; first | assumption | grind) | grind)) (by (try clear ih); (first | assumption | (dsimp only; first | assumption | grind) | grind))
          refine pu_bind h23 ?_
          clear h23
          exact ih r26 mp ml nm x1 x2 r28 (by (try clear ih); (first | assumption | (dsimp only; first | assumption | grind) | grind)) (by (try clear ih); (first | assumption | (dsimp only; first | assumption | grind) | grind)) (by assumption) (by assumption) (by (try clear ih); (first | assumption | (dsimp only; first | assumption | grind) | grind)) (by (try clear ih); (first | assumption | (dsimp only; first | assumption | grind) | grind)) (by assumption) (by assumption) (by (try clear ih); (first | assumption | (dsimp only; first | assumption | grind) | grind)) (by (try clear ih); (first | assumption | (dsimp only; first | assumption | grind) | grind)) (tq_s hm (by assumption) (by assumption) (by assumption) (by assumption) (by assumption))
      · refine pu_neg q2 ?_
        exact T_M_make_L104 100000000000 w mp ml nm x1 x2 x3 mp (by (try clear ih); (first | assumption | (dsimp only; first | assumption | grind) | grind)) (by (try clear ih); (first | assumption | (dsimp only; first | assumption | grind) | grind)) (by assumption) (by assumption) (by (try clear ih); (first | assumption | (dsimp only; first | assumption | grind) | grind)) (by (try clear ih); (first | assumption | (dsimp only; first | assumption | grind) | grind)) (by assumption) (by assumption) (by (try clear ih); (first | assumption | (dsimp only; first | assumption | grind) | grind)) (by (try clear ih); (first | assumption | (dsimp only; first | assumption | grind) | grind)) (by (try clear ih); (first | assumption | (dsimp only; first | assumption | grind) | grind)) (tmz _ _)
set_option maxHeartbeats 4000000 in
theorem T_M_make (w : am_MS) (mp : Int32) (ml : Nat → Int32) (nm : Nat → Int32) (x1 : Int32) (h0_ : 0 ≤ w.2.2.2.2.1) (h1_ : w.2.2.2.2.1 ≤ 26) (h2_ : ta 0 255 w.2.2.2.2.2.2.2.1) (h3_ : ta 0 2224 w.2.2.2.2.2.2.2.2) (h4_ : 0 ≤ mp) (h5_ : mp ≤ 2) (h6_ : ta 0 255 ml) (h7_ : ta 0 255 nm) (h8_ : 0 ≤ x1) (h9_ : x1 ≤ 255) : ∃ r : Int32 × am_MS, f_M_make w mp ml nm x1 = some r ∧ (r.1 = 0 ∨ r.1 = 1) ∧ 0 ≤ r.2.2.2.2.2.1 ∧ r.2.2.2.2.2.1 ≤ 26 ∧ ta 0 255 r.2.2.2.2.2.2.2.2.1 ∧ ta 0 2224 r.2.2.2.2.2.2.2.2.2 := by
  rw [f_M_make]
  by_cases q1 : x1 = 2
  · refine pu_pos q1 ?_
    obtain ⟨r30, h2, p3, p4, p5, p6, p7, p8⟩ := T_M_take w (by (first | assumption | (dsimp only; first | assumption | grind) | grind)) (by (first | assumption | (dsimp only; first | assumption | grind) | grind)) (by assumption) (by assumption)
    refine pu_bind h2 ?_
    clear h2
    by_cases q9 : r30.1 = 0
    · refine pu_pos q9 ?_
      exact ⟨_, rfl, (by (first | assumption | (dsimp only; first | assumption | grind) | grind)), (by (first | assumption | (dsimp only; first | assumption | grind) | grind)), (by (first | assumption | (dsimp only; first | assumption | grind) | grind)), (by assumption), (by assumption)⟩
    · refine pu_neg q9 ?_
      obtain ⟨r34, h10, p11⟩ := T_M_space r30.2.2.2.2.2.2.1 r30.2.2.2.2.2.2.2.2.1 (mp + 1) (by assumption) (by (first | assumption | (dsimp only; first | assumption | grind) | grind)) (by (first | assumption | (dsimp only; first | assumption | grind) | grind))
      refine pu_bind h10 ?_
      clear h10
      exact T_M_make_L36 100000000000 r30.2 mp ml nm x1 r30.1 r34 (by (first | assumption | (dsimp only; first | assumption | grind) | grind)) (by (first | assumption | (dsimp only; first | assumption | grind) | grind)) (by assumption) (by assumption) (by (first | assumption | (dsimp only; first | assumption | grind) | grind)) (by (first | assumption | (dsimp only; first | assumption | grind) | grind)) (by assumption) (by assumption) (by (first | assumption | (dsimp only; first | assumption | grind) | grind)) (by (first | assumption | (dsimp only; first | assumption | grind) | grind)) (tq_z _)
  · refine pu_neg q1 ?_
    obtain ⟨r3, h12, p13⟩ := T_M_space w.2.2.2.2.2.1 w.2.2.2.2.2.2.2.1 (mp + 1) (by assumption) (by (first | assumption | (dsimp only; first | assumption | grind) | grind)) (by (first | assumption | (dsimp only; first | assumption | grind) | grind))
    refine pu_bind h12 ?_
    clear h12
    exact T_M_make_L36 100000000000 w mp ml nm x1 0 r3 (by (first | assumption | (dsimp only; first | assumption | grind) | grind)) (by (first | assumption | (dsimp only; first | assumption | grind) | grind)) (by assumption) (by assumption) (by (first | assumption | (dsimp only; first | assumption | grind) | grind)) (by (first | assumption | (dsimp only; first | assumption | grind) | grind)) (by assumption) (by assumption) (by (first | assumption | (dsimp only; first | assumption | grind) | grind)) (by (first | assumption | (dsimp only; first | assumption | grind) | grind)) (tq_z _)
set_option maxHeartbeats 4000000 in
theorem T_M_create (w : am_MS) (th : Int32) (sp : Int32) (mp : Int32) (ml : Nat → Int32) (nm : Nat → Int32) (x1 : Int32) (h0_ : 0 ≤ w.2.2.2.2.1) (h1_ : w.2.2.2.2.1 ≤ 26) (h2_ : ta 0 255 w.2.2.2.2.2.2.2.1) (h3_ : ta 0 2224 w.2.2.2.2.2.2.2.2) (h4_ : 0 ≤ mp) (h5_ : mp ≤ 2) (h6_ : ta 0 255 ml) (h7_ : ta 0 255 nm) : ∃ r : am_MS × Int32 × Int32 × (Nat → Int32), f_M_create w th sp mp ml nm x1 = some r ∧ 0 ≤ r.1.2.2.2.2.1 ∧ r.1.2.2.2.2.1 ≤ 26 ∧ ta 0 255 r.1.2.2.2.2.2.2.2.1 ∧ ta 0 2224 r.1.2.2.2.2.2.2.2.2 ∧ 0 ≤ r.2.2.1 ∧ r.2.2.1 ≤ 2 ∧ ta 0 255 r.2.2.2 := by
  rw [f_M_create]
  obtain ⟨r1, h1, p2⟩ := T_M_ready w.1 w.2.1 th sp 
  refine pu_bind h1 ?_
  clear h1
  by_cases q3 : r1.1 = 0
  · refine pu_pos q3 ?_
    exact ⟨_, rfl, (by (first | assumption | (dsimp only; first | assumption | grind) | grind)), (by (first | assumption | (dsimp only; first | assumption | grind) | grind)), (by assumption), (by assumption), (by (first | assumption | (dsimp only; first | assumption | grind) | grind)), (by (first | assumption | (dsimp only; first | assumption | grind) | grind)), (by assumption)⟩
  · refine pu_neg q3 ?_
    by_cases q4 : w.2.2.2.2.1 = 0
    · refine pu_pos q4 ?_
      exact ⟨_, rfl, (by (first | assumption | (dsimp only; first | assumption | grind) | grind)), (by (first | assumption | (dsimp only; first | assumption | grind) | grind)), (by assumption), (by assumption), (by (first | assumption | (dsimp only; first | assumption | grind) | grind)), (by (first | assumption | (dsimp only; first | assumption | grind) | grind)), (by assumption)⟩
    · refine pu_neg q4 ?_
      have a5 := ((by assumption) : ta 0 255 ml) (0 : Int32).toNatClampNeg
      by_cases q6 : (ml (0 : Int32).toNatClampNeg) = 46
      · refine pu_pos q6 ?_
        exact ⟨_, rfl, (by (first | assumption | (dsimp only; first | assumption | grind) | grind)), (by (first | assumption | (dsimp only; first | assumption | grind) | grind)), (by assumption), (by assumption), (by (first | assumption | (dsimp only; first | assumption | grind) | grind)), (by (first | assumption | (dsimp only; first | assumption | grind) | grind)), (by assumption)⟩
      · refine pu_neg q6 ?_
        obtain ⟨r6, h7, p8⟩ := T_M_in x1 1 2 
        refine pu_bind h7 ?_
        clear h7
        by_cases q9 : r6 = 0
        · refine pu_pos q9 ?_
          exact ⟨_, rfl, (by (first | assumption | (dsimp only; first | assumption | grind) | grind)), (by (first | assumption | (dsimp only; first | assumption | grind) | grind)), (by assumption), (by assumption), (by (first | assumption | (dsimp only; first | assumption | grind) | grind)), (by (first | assumption | (dsimp only; first | assumption | grind) | grind)), (by assumption)⟩
        · refine pu_neg q9 ?_
          obtain ⟨r9, h10, p11⟩ := T_M_find w.2.2.2.2.1 w.2.2.2.2.2.1 w.2.2.2.2.2.2.2.1 ml (by (first | assumption | (dsimp only; first | assumption | grind) | grind)) (by (first | assumption | (dsimp only; first | assumption | grind) | grind)) (by assumption) (by assumption)
          refine pu_bind h10 ?_
          clear h10
          by_cases q12 : 0 ≤ r9
          · refine pu_pos q12 ?_
            by_cases q13 : r1.2.1 = 0
            · refine pu_pos q13 ?_
              exact ⟨_, rfl, (by (first | assumption | (dsimp only; first | assumption | grind) | grind)), (by (first | assumption | (dsimp only; first | assumption | grind) | grind)), (by assumption), (by assumption), (by (first | assumption | (dsimp only; first | assumption | grind) | grind)), (by (first | assumption | (dsimp only; first | assumption | grind) | grind)), (by assumption)⟩
            · refine pu_neg q13 ?_
              exact ⟨_, rfl, (by (first | assumption | (dsimp only; first | assumption | grind) | grind)), (by (first | assumption | (dsimp only; first | assumption | grind) | grind)), (by assumption), (by assumption), (by (first | assumption | (dsimp only; first | assumption | grind) | grind)), (by (first | assumption | (dsimp only; first | assumption | grind) | grind)), (by assumption)⟩
          · refine pu_neg q12 ?_
            by_cases q14 : x1 = 1
            · refine pu_pos q14 ?_
              obtain ⟨r15, h15, p16, p17, p18, p19⟩ := T_M_shorten w.2.2.2.2.1 w.2.2.2.2.2.1 w.2.2.2.2.2.2.2.1 mp ml nm (by (first | assumption | (dsimp only; first | assumption | grind) | grind)) (by (first | assumption | (dsimp only; first | assumption | grind) | grind)) (by assumption) (by (first | assumption | (dsimp only; first | assumption | grind) | grind)) (by (first | assumption | (dsimp only; first | assumption | grind) | grind)) (by assumption) (by assumption)
              refine pu_bind h15 ?_
              clear h15
              by_cases q20 : r15.1 = 0
              · refine pu_pos q20 ?_
                by_cases q21 : r1.2.1 = 0
                · refine pu_pos q21 ?_
                  exact ⟨_, rfl, (by (first | assumption | (dsimp only; first | assumption | grind) | grind)), (by (first | assumption | (dsimp only; first | assumption | grind) | grind)), (by assumption), (by assumption), (by (first | assumption | (dsimp only; first | assumption | grind) | grind)), (by (first | assumption | (dsimp only; first | assumption | grind) | grind)), (by assumption)⟩
                · refine pu_neg q21 ?_
                  exact ⟨_, rfl, (by (first | assumption | (dsimp only; first | assumption | grind) | grind)), (by (first | assumption | (dsimp only; first | assumption | grind) | grind)), (by assumption), (by assumption), (by (first | assumption | (dsimp only; first | assumption | grind) | grind)), (by (first | assumption | (dsimp only; first | assumption | grind) | grind)), (by assumption)⟩
              · refine pu_neg q20 ?_
                obtain ⟨r20, h22, p23, p24, p25, p26, p27⟩ := T_M_make (w.1, r1.2.1, w.2.2.1, w.2.2.2.1, w.2.2.2.2.1, w.2.2.2.2.2.1, w.2.2.2.2.2.2.1, w.2.2.2.2.2.2.2.1, w.2.2.2.2.2.2.2.2) r15.2.1 ml r15.2.2 x1 (by (first | assumption | (dsimp only; first | assumption | grind) | grind)) (by (first | assumption | (dsimp only; first | assumption | grind) | grind)) (by assumption) (by assumption) (by (first | assumption | (dsimp only; first | assumption | grind) | grind)) (by (first | assumption | (dsimp only; first | assumption | grind) | grind)) (by assumption) (by assumption) (by (first | assumption | (dsimp only; first | assumption | grind) | grind)) (by (first | assumption | (dsimp only; first | assumption | grind) | grind))
                refine pu_bind h22 ?_
                clear h22
                try dsimp only at p23 p24 p25 p26 p27
                by_cases q28 : r20.1 = 0
                · refine pu_pos q28 ?_
                  by_cases q29 : r20.2.2.1 = 0
                  · refine pu_pos q29 ?_
                    exact ⟨_, rfl, (by (first | assumption | (dsimp only; first | assumption | grind) | grind)), (by (first | assumption | (dsimp only; first | assumption | grind) | grind)), (by assumption), (by assumption), (by (first | assumption | (dsimp only; first | assumption | grind) | grind)), (by (first | assumption | (dsimp only; first | assumption | grind) | grind)), (by assumption)⟩
                  · refine pu_neg q29 ?_
                    exact ⟨_, rfl, (by (first | assumption | (dsimp only; first | assumption | grind) | grind)), (by (first | assumption | (dsimp only; first | assumption | grind) | grind)), (by assumption), (by assumption), (by (first | assumption | (dsimp only; first | assumption | grind) | grind)), (by (first | assumption | (dsimp only; first | assumption | grind) | grind)), (by assumption)⟩
                · refine pu_neg q28 ?_
                  by_cases q30 : r20.2.2.1 = 0
                  · refine pu_pos q30 ?_
                    exact ⟨_, rfl, (by (first | assumption | (dsimp only; first | assumption | grind) | grind)), (by (first | assumption | (dsimp only; first | assumption | grind) | grind)), (by assumption), (by assumption), (by (first | assumption | (dsimp only; first | assumption | grind) | grind)), (by (first | assumption | (dsimp only; first | assumption | grind) | grind)), (by assumption)⟩
                  · refine pu_neg q30 ?_
                    exact ⟨_, rfl, (by (first | assumption | (dsimp only; first | assumption | grind) | grind)), (by (first | assumption | (dsimp only; first | assumption | grind) | grind)), (by assumption), (by assumption), (by (first | assumption | (dsimp only; first | assumption | grind) | grind)), (by (first | assumption | (dsimp only; first | assumption | grind) | grind)), (by assumption)⟩
            · refine pu_neg q14 ?_
              by_cases q31 : 5 ≤ w.2.2.2.2.2.2.1
              · refine pu_pos q31 ?_
                by_cases q32 : r1.2.1 = 0
                · refine pu_pos q32 ?_
                  exact ⟨_, rfl, (by (first | assumption | (dsimp only; first | assumption | grind) | grind)), (by (first | assumption | (dsimp only; first | assumption | grind) | grind)), (by assumption), (by assumption), (by (first | assumption | (dsimp only; first | assumption | grind) | grind)), (by (first | assumption | (dsimp only; first | assumption | grind) | grind)), (by assumption)⟩
                · refine pu_neg q32 ?_
                  exact ⟨_, rfl, (by (first | assumption | (dsimp only; first | assumption | grind) | grind)), (by (first | assumption | (dsimp only; first | assumption | grind) | grind)), (by assumption), (by assumption), (by (first | assumption | (dsimp only; first | assumption | grind) | grind)), (by (first | assumption | (dsimp only; first | assumption | grind) | grind)), (by assumption)⟩
              · refine pu_neg q31 ?_
                obtain ⟨r30, h33, p34, p35, p36, p37⟩ := T_M_shorten w.2.2.2.2.1 w.2.2.2.2.2.1 w.2.2.2.2.2.2.2.1 mp ml nm (by (first | assumption | (dsimp only; first | assumption | grind) | grind)) (by (first | assumption | (dsimp only; first | assumption | grind) | grind)) (by assumption) (by (first | assumption | (dsimp only; first | assumption | grind) | grind)) (by (first | assumption | (dsimp only; first | assumption | grind) | grind)) (by assumption) (by assumption)
                refine pu_bind h33 ?_
                clear h33
                by_cases q38 : r30.1 = 0
                · refine pu_pos q38 ?_
                  by_cases q39 : r1.2.1 = 0
                  · refine pu_pos q39 ?_
                    exact ⟨_, rfl, (by (first | assumption | (dsimp only; first | assumption | grind) | grind)), (by (first | assumption | (dsimp only; first | assumption | grind) | grind)), (by assumption), (by assumption), (by (first | assumption | (dsimp only; first | assumption | grind) | grind)), (by (first | assumption | (dsimp only; first | assumption | grind) | grind)), (by assumption)⟩
                  · refine pu_neg q39 ?_
                    exact ⟨_, rfl, (by (first | assumption | (dsimp only; first | assumption | grind) | grind)), (by (first | assumption | (dsimp only; first | assumption | grind) | grind)), (by assumption), (by assumption), (by (first | assumption | (dsimp only; first | assumption | grind) | grind)), (by (first | assumption | (dsimp only; first | assumption | grind) | grind)), (by assumption)⟩
                · refine pu_neg q38 ?_
                  obtain ⟨r35, h40, p41, p42, p43, p44, p45⟩ := T_M_make (w.1, r1.2.1, w.2.2.1, w.2.2.2.1, w.2.2.2.2.1, w.2.2.2.2.2.1, w.2.2.2.2.2.2.1, w.2.2.2.2.2.2.2.1, w.2.2.2.2.2.2.2.2) r30.2.1 ml r30.2.2 x1 (by (first | assumption | (dsimp only; first | assumption | grind) | grind)) (by (first | assumption | (dsimp only; first | assumption | grind) | grind)) (by assumption) (by assumption) (by (first | assumption | (dsimp only; first | assumption | grind) | grind)) (by (first | assumption | (dsimp only; first | assumption | grind) | grind)) (by assumption) (by assumption) (by (first | assumption | (dsimp only; first | assumption | grind) | grind)) (by (first | assumption | (dsimp only; first | assumption | grind) | grind))
                  refine pu_bind h40 ?_
                  clear h40
                  try dsimp only at p41 p42 p43 p44 p45
                  by_cases q46 : r35.1 = 0
                  · refine pu_pos q46 ?_
                    by_cases q47 : r35.2.2.1 = 0
                    · refine pu_pos q47 ?_
                      exact ⟨_, rfl, (by (first | assumption | (dsimp only; first | assumption | grind) | grind)), (by (first | assumption | (dsimp only; first | assumption | grind) | grind)), (by assumption), (by assumption), (by (first | assumption | (dsimp only; first | assumption | grind) | grind)), (by (first | assumption | (dsimp only; first | assumption | grind) | grind)), (by assumption)⟩
                    · refine pu_neg q47 ?_
                      exact ⟨_, rfl, (by (first | assumption | (dsimp only; first | assumption | grind) | grind)), (by (first | assumption | (dsimp only; first | assumption | grind) | grind)), (by assumption), (by assumption), (by (first | assumption | (dsimp only; first | assumption | grind) | grind)), (by (first | assumption | (dsimp only; first | assumption | grind) | grind)), (by assumption)⟩
                  · refine pu_neg q46 ?_
                    by_cases q48 : r35.2.2.1 = 0
                    · refine pu_pos q48 ?_
                      exact ⟨_, rfl, (by (first | assumption | (dsimp only; first | assumption | grind) | grind)), (by (first | assumption | (dsimp only; first | assumption | grind) | grind)), (by assumption), (by assumption), (by (first | assumption | (dsimp only; first | assumption | grind) | grind)), (by (first | assumption | (dsimp only; first | assumption | grind) | grind)), (by assumption)⟩
                    · refine pu_neg q48 ?_
                      exact ⟨_, rfl, (by (first | assumption | (dsimp only; first | assumption | grind) | grind)), (by (first | assumption | (dsimp only; first | assumption | grind) | grind)), (by assumption), (by assumption), (by (first | assumption | (dsimp only; first | assumption | grind) | grind)), (by (first | assumption | (dsimp only; first | assumption | grind) | grind)), (by assumption)⟩
