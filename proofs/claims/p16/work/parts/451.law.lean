set_option maxHeartbeats 4000000 in
theorem T_H_create (g : am_WS) (li : Nat → Int32) (su : Int32) (ct : Int32) (lc : Int32) (ad : Nat → Int32) (ln : Int32) (pt : Int32) (tx : Nat → Int32) (br : Nat → Int32) (rw : Nat → Int32) (x1 : Int32) (h0_ : 0 ≤ g.1) (h1_ : g.1 ≤ 26) (h2_ : 0 ≤ ct) (h3_ : ct ≤ 128) (h4_ : 0 ≤ ln) (h5_ : ln ≤ 26) (h6_ : 0 ≤ pt) (h7_ : pt ≤ 2) : ∃ r : Int32 × am_WS × Int32 × Int32 × (Nat → Int32) × Int32 × Int32 × (Nat → Int32) × (Nat → Int32) × (Nat → Int32), f_H_create g li su ct lc ad ln pt tx br rw x1 = some r ∧ 0 ≤ r.2.1.1 ∧ r.2.1.1 ≤ 26 ∧ 0 ≤ r.2.2.1 ∧ r.2.2.1 ≤ 128 ∧ 0 ≤ r.2.2.2.2.2.1 ∧ r.2.2.2.2.2.1 ≤ 26 ∧ 0 ≤ r.2.2.2.2.2.2.1 ∧ r.2.2.2.2.2.2.1 ≤ 2 := by
  rw [f_H_create]
  obtain ⟨r1, h1, p2, p3, p4, p5, p6, p7, p8, p9, p10⟩ := T_V_create g li su ct lc ad ln pt tx br rw x1 (by (first | assumption | (dsimp only; first | assumption | grind) | grind)) (by (first | assumption | (dsimp only; first | assumption | grind) | grind)) (by (first | assumption | (dsimp only; first | assumption | grind) | grind)) (by (first | assumption | (dsimp only; first | assumption | grind) | grind)) (by (first | assumption | (dsimp only; first | assumption | grind) | grind)) (by (first | assumption | (dsimp only; first | assumption | grind) | grind)) (by (first | assumption | (dsimp only; first | assumption | grind) | grind)) (by (first | assumption | (dsimp only; first | assumption | grind) | grind))
  refine pu_bind h1 ?_
  clear h1
  refine pu_t (fun E1 w12 => ?_) (fun v11 w13 => ?_)
  · skip
    by_cases q14 : E1 = "java/lang/IllegalStateException"
    · refine pu_pos q14 ?_
      exact ⟨_, rfl, (by (first | assumption | (dsimp only; first | assumption | grind) | grind)), (by (first | assumption | (dsimp only; first | assumption | grind) | grind)), (by (first | assumption | (dsimp only; first | assumption | grind) | grind)), (by (first | assumption | (dsimp only; first | assumption | grind) | grind)), (by (first | assumption | (dsimp only; first | assumption | grind) | grind)), (by (first | assumption | (dsimp only; first | assumption | grind) | grind)), (by (first | assumption | (dsimp only; first | assumption | grind) | grind)), (by (first | assumption | (dsimp only; first | assumption | grind) | grind))⟩
    · refine pu_neg q14 ?_
      by_cases q15 : E1 = "java/lang/IllegalArgumentException"
      · refine pu_pos q15 ?_
        exact ⟨_, rfl, (by (first | assumption | (dsimp only; first | assumption | grind) | grind)), (by (first | assumption | (dsimp only; first | assumption | grind) | grind)), (by (first | assumption | (dsimp only; first | assumption | grind) | grind)), (by (first | assumption | (dsimp only; first | assumption | grind) | grind)), (by (first | assumption | (dsimp only; first | assumption | grind) | grind)), (by (first | assumption | (dsimp only; first | assumption | grind) | grind)), (by (first | assumption | (dsimp only; first | assumption | grind) | grind)), (by (first | assumption | (dsimp only; first | assumption | grind) | grind))⟩
      · refine pu_neg q15 ?_
        by_cases q16 : E1 = "java/lang/UnsupportedOperationException"
        · refine pu_pos q16 ?_
          exact ⟨_, rfl, (by (first | assumption | (dsimp only; first | assumption | grind) | grind)), (by (first | assumption | (dsimp only; first | assumption | grind) | grind)), (by (first | assumption | (dsimp only; first | assumption | grind) | grind)), (by (first | assumption | (dsimp only; first | assumption | grind) | grind)), (by (first | assumption | (dsimp only; first | assumption | grind) | grind)), (by (first | assumption | (dsimp only; first | assumption | grind) | grind)), (by (first | assumption | (dsimp only; first | assumption | grind) | grind)), (by (first | assumption | (dsimp only; first | assumption | grind) | grind))⟩
        · refine pu_neg q16 ?_
          exfalso
          rcases p2 _ w12 with z9 | z9 | z9 <;> contradiction
  · skip
    exact ⟨_, rfl, (by (first | assumption | (dsimp only; first | assumption | grind) | grind)), (by (first | assumption | (dsimp only; first | assumption | grind) | grind)), (by (first | assumption | (dsimp only; first | assumption | grind) | grind)), (by (first | assumption | (dsimp only; first | assumption | grind) | grind)), (by (first | assumption | (dsimp only; first | assumption | grind) | grind)), (by (first | assumption | (dsimp only; first | assumption | grind) | grind)), (by (first | assumption | (dsimp only; first | assumption | grind) | grind)), (by (first | assumption | (dsimp only; first | assumption | grind) | grind))⟩
set_option maxHeartbeats 4000000 in
theorem T_H_delete (g : am_WS) (li : Nat → Int32) (su : Int32) (ct : Int32) (lc : Int32) (ad : Nat → Int32) (ctb : Int32) (lcb : Int32) (adb : Nat → Int32) (ln : Int32) (tx : Nat → Int32) (h0_ : 0 ≤ g.1) (h1_ : g.1 ≤ 26) (h2_ : 0 ≤ ct) (h3_ : ct ≤ 128) (h4_ : 0 ≤ ctb) (h5_ : ctb ≤ 128) (h6_ : 0 ≤ ln) (h7_ : ln ≤ 26) : ∃ r : Int32 × am_WS × Int32 × Int32 × (Nat → Int32) × Int32 × Int32 × (Nat → Int32) × Int32 × (Nat → Int32), f_H_delete g li su ct lc ad ctb lcb adb ln tx = some r ∧ 0 ≤ r.2.1.1 ∧ r.2.1.1 ≤ 26 ∧ 0 ≤ r.2.2.1 ∧ r.2.2.1 ≤ 128 ∧ 0 ≤ r.2.2.2.2.2.1 ∧ r.2.2.2.2.2.1 ≤ 128 ∧ 0 ≤ r.2.2.2.2.2.2.2.2.1 ∧ r.2.2.2.2.2.2.2.2.1 ≤ 26 := by
  rw [f_H_delete]
  obtain ⟨r1, h1, p2, p3, p4, p5, p6, p7, p8, p9, p10⟩ := T_V_delete g li su ct lc ad ctb lcb adb ln tx (by (first | assumption | (dsimp only; first | assumption | grind) | grind)) (by (first | assumption | (dsimp only; first | assumption | grind) | grind)) (by (first | assumption | (dsimp only; first | assumption | grind) | grind)) (by (first | assumption | (dsimp only; first | assumption | grind) | grind)) (by (first | assumption | (dsimp only; first | assumption | grind) | grind)) (by (first | assumption | (dsimp only; first | assumption | grind) | grind)) (by (first | assumption | (dsimp only; first | assumption | grind) | grind)) (by (first | assumption | (dsimp only; first | assumption | grind) | grind))
  refine pu_bind h1 ?_
  clear h1
  refine pu_t (fun E1 w12 => ?_) (fun v11 w13 => ?_)
  · skip
    by_cases q14 : E1 = "java/lang/IllegalStateException"
    · refine pu_pos q14 ?_
      exact ⟨_, rfl, (by (first | assumption | (dsimp only; first | assumption | grind) | grind)), (by (first | assumption | (dsimp only; first | assumption | grind) | grind)), (by (first | assumption | (dsimp only; first | assumption | grind) | grind)), (by (first | assumption | (dsimp only; first | assumption | grind) | grind)), (by (first | assumption | (dsimp only; first | assumption | grind) | grind)), (by (first | assumption | (dsimp only; first | assumption | grind) | grind)), (by (first | assumption | (dsimp only; first | assumption | grind) | grind)), (by (first | assumption | (dsimp only; first | assumption | grind) | grind))⟩
    · refine pu_neg q14 ?_
      by_cases q15 : E1 = "java/util/NoSuchElementException"
      · refine pu_pos q15 ?_
        exact ⟨_, rfl, (by (first | assumption | (dsimp only; first | assumption | grind) | grind)), (by (first | assumption | (dsimp only; first | assumption | grind) | grind)), (by (first | assumption | (dsimp only; first | assumption | grind) | grind)), (by (first | assumption | (dsimp only; first | assumption | grind) | grind)), (by (first | assumption | (dsimp only; first | assumption | grind) | grind)), (by (first | assumption | (dsimp only; first | assumption | grind) | grind)), (by (first | assumption | (dsimp only; first | assumption | grind) | grind)), (by (first | assumption | (dsimp only; first | assumption | grind) | grind))⟩
      · refine pu_neg q15 ?_
        by_cases q16 : E1 = "java/lang/UnsupportedOperationException"
        · refine pu_pos q16 ?_
          exact ⟨_, rfl, (by (first | assumption | (dsimp only; first | assumption | grind) | grind)), (by (first | assumption | (dsimp only; first | assumption | grind) | grind)), (by (first | assumption | (dsimp only; first | assumption | grind) | grind)), (by (first | assumption | (dsimp only; first | assumption | grind) | grind)), (by (first | assumption | (dsimp only; first | assumption | grind) | grind)), (by (first | assumption | (dsimp only; first | assumption | grind) | grind)), (by (first | assumption | (dsimp only; first | assumption | grind) | grind)), (by (first | assumption | (dsimp only; first | assumption | grind) | grind))⟩
        · refine pu_neg q16 ?_
          exfalso
          rcases p2 _ w12 with z9 | z9 | z9 <;> contradiction
  · skip
    exact ⟨_, rfl, (by (first | assumption | (dsimp only; first | assumption | grind) | grind)), (by (first | assumption | (dsimp only; first | assumption | grind) | grind)), (by (first | assumption | (dsimp only; first | assumption | grind) | grind)), (by (first | assumption | (dsimp only; first | assumption | grind) | grind)), (by (first | assumption | (dsimp only; first | assumption | grind) | grind)), (by (first | assumption | (dsimp only; first | assumption | grind) | grind)), (by (first | assumption | (dsimp only; first | assumption | grind) | grind)), (by (first | assumption | (dsimp only; first | assumption | grind) | grind))⟩
set_option maxHeartbeats 4000000 in
theorem T_H_enter (ll : Int32) (he : Int32) (de : Int32) (li : Nat → Int32) (pw : Int32) (su : Int32) (bt : Nat → Int32) (ct : Int32) (lc : Int32) (ad : Nat → Int32) (ln : Int32) (tx : Nat → Int32) (h0_ : 0 ≤ ll) (h1_ : ll ≤ 26) (h2_ : 0 ≤ ct) (h3_ : ct ≤ 128) (h4_ : 0 ≤ ln) (h5_ : ln ≤ 26) : ∃ r : Int32 × Int32 × Int32 × Int32 × Int32 × Int32 × (Nat → Int32) × Int32 × (Nat → Int32), f_H_enter ll he de li pw su bt ct lc ad ln tx = some r ∧ 0 ≤ r.2.1 ∧ r.2.1 ≤ 26 ∧ 0 ≤ r.2.2.2.2.1 ∧ r.2.2.2.2.1 ≤ 128 ∧ 0 ≤ r.2.2.2.2.2.2.2.1 ∧ r.2.2.2.2.2.2.2.1 ≤ 26 := by
  rw [f_H_enter]
  obtain ⟨r1, h1, p2, p3, p4, p5, p6, p7, p8⟩ := T_V_enter ll he de li pw su bt ct lc ad ln tx (by (first | assumption | (dsimp only; first | assumption | grind) | grind)) (by (first | assumption | (dsimp only; first | assumption | grind) | grind)) (by (first | assumption | (dsimp only; first | assumption | grind) | grind)) (by (first | assumption | (dsimp only; first | assumption | grind) | grind)) (by (first | assumption | (dsimp only; first | assumption | grind) | grind)) (by (first | assumption | (dsimp only; first | assumption | grind) | grind))
  refine pu_bind h1 ?_
  clear h1
  refine pu_t (fun E1 w10 => ?_) (fun v9 w11 => ?_)
  · skip
    by_cases q12 : E1 = "java/lang/IllegalStateException"
    · refine pu_pos q12 ?_
      exact ⟨_, rfl, (by (first | assumption | (dsimp only; first | assumption | grind) | grind)), (by (first | assumption | (dsimp only; first | assumption | grind) | grind)), (by (first | assumption | (dsimp only; first | assumption | grind) | grind)), (by (first | assumption | (dsimp only; first | assumption | grind) | grind)), (by (first | assumption | (dsimp only; first | assumption | grind) | grind)), (by (first | assumption | (dsimp only; first | assumption | grind) | grind))⟩
    · refine pu_neg q12 ?_
      by_cases q13 : E1 = "java/util/NoSuchElementException"
      · refine pu_pos q13 ?_
        exact ⟨_, rfl, (by (first | assumption | (dsimp only; first | assumption | grind) | grind)), (by (first | assumption | (dsimp only; first | assumption | grind) | grind)), (by (first | assumption | (dsimp only; first | assumption | grind) | grind)), (by (first | assumption | (dsimp only; first | assumption | grind) | grind)), (by (first | assumption | (dsimp only; first | assumption | grind) | grind)), (by (first | assumption | (dsimp only; first | assumption | grind) | grind))⟩
      · refine pu_neg q13 ?_
        exfalso
        rcases p2 _ w10 with z9 | z9 | z9 <;> contradiction
  · skip
    exact ⟨_, rfl, (by (first | assumption | (dsimp only; first | assumption | grind) | grind)), (by (first | assumption | (dsimp only; first | assumption | grind) | grind)), (by (first | assumption | (dsimp only; first | assumption | grind) | grind)), (by (first | assumption | (dsimp only; first | assumption | grind) | grind)), (by (first | assumption | (dsimp only; first | assumption | grind) | grind)), (by (first | assumption | (dsimp only; first | assumption | grind) | grind))⟩
set_option maxHeartbeats 4000000 in
theorem T_H_open (ll : Int32) (he : Int32) (li : Nat → Int32) (en : Nat → Int32) (po : Nat → Int32) (pw : Int32) (su : Int32) (bt : Nat → Int32) (ct : Int32) (lc : Int32) (ad : Nat → Int32) (ln : Int32) (tx : Nat → Int32) (ou : Nat → Int64) (h0_ : 0 ≤ ll) (h1_ : ll ≤ 26) (h2_ : 0 ≤ ct) (h3_ : ct ≤ 128) (h4_ : 0 ≤ ln) (h5_ : ln ≤ 26) : ∃ r : Int32 × (Nat → Int64) × Int32 × (Nat → Int32) × (Nat → Int32) × Int32 × Int32 × (Nat → Int32) × Int32 × (Nat → Int32), f_H_open ll he li en po pw su bt ct lc ad ln tx ou = some r ∧ 0 ≤ r.2.2.1 ∧ r.2.2.1 ≤ 26 ∧ 0 ≤ r.2.2.2.2.2.1 ∧ r.2.2.2.2.2.1 ≤ 128 ∧ 0 ≤ r.2.2.2.2.2.2.2.2.1 ∧ r.2.2.2.2.2.2.2.2.1 ≤ 26 := by
  rw [f_H_open]
  obtain ⟨r1, h1, p2, p3, p4, p5, p6, p7, p8⟩ := T_V_open ll he li en po pw su bt ct lc ad ln tx (by (first | assumption | (dsimp only; first | assumption | grind) | grind)) (by (first | assumption | (dsimp only; first | assumption | grind) | grind)) (by (first | assumption | (dsimp only; first | assumption | grind) | grind)) (by (first | assumption | (dsimp only; first | assumption | grind) | grind)) (by (first | assumption | (dsimp only; first | assumption | grind) | grind)) (by (first | assumption | (dsimp only; first | assumption | grind) | grind))
  refine pu_bind h1 ?_
  clear h1
  refine pu_t (fun E1 w9 => ?_) (fun v1 w10 => ?_)
  · skip
    by_cases q11 : E1 = "java/lang/IllegalStateException"
    · refine pu_pos q11 ?_
      exact ⟨_, rfl, (by (first | assumption | (dsimp only; first | assumption | grind) | grind)), (by (first | assumption | (dsimp only; first | assumption | grind) | grind)), (by (first | assumption | (dsimp only; first | assumption | grind) | grind)), (by (first | assumption | (dsimp only; first | assumption | grind) | grind)), (by (first | assumption | (dsimp only; first | assumption | grind) | grind)), (by (first | assumption | (dsimp only; first | assumption | grind) | grind))⟩
    · refine pu_neg q11 ?_
      by_cases q12 : E1 = "java/util/NoSuchElementException"
      · refine pu_pos q12 ?_
        exact ⟨_, rfl, (by (first | assumption | (dsimp only; first | assumption | grind) | grind)), (by (first | assumption | (dsimp only; first | assumption | grind) | grind)), (by (first | assumption | (dsimp only; first | assumption | grind) | grind)), (by (first | assumption | (dsimp only; first | assumption | grind) | grind)), (by (first | assumption | (dsimp only; first | assumption | grind) | grind)), (by (first | assumption | (dsimp only; first | assumption | grind) | grind))⟩
      · refine pu_neg q12 ?_
        by_cases q13 : E1 = "java/lang/UnsupportedOperationException"
        · refine pu_pos q13 ?_
          exact ⟨_, rfl, (by (first | assumption | (dsimp only; first | assumption | grind) | grind)), (by (first | assumption | (dsimp only; first | assumption | grind) | grind)), (by (first | assumption | (dsimp only; first | assumption | grind) | grind)), (by (first | assumption | (dsimp only; first | assumption | grind) | grind)), (by (first | assumption | (dsimp only; first | assumption | grind) | grind)), (by (first | assumption | (dsimp only; first | assumption | grind) | grind))⟩
        · refine pu_neg q13 ?_
          exfalso
          rcases p2 _ w9 with z9 | z9 | z9 <;> contradiction
  · skip
    exact ⟨_, rfl, (by (first | assumption | (dsimp only; first | assumption | grind) | grind)), (by (first | assumption | (dsimp only; first | assumption | grind) | grind)), (by (first | assumption | (dsimp only; first | assumption | grind) | grind)), (by (first | assumption | (dsimp only; first | assumption | grind) | grind)), (by (first | assumption | (dsimp only; first | assumption | grind) | grind)), (by (first | assumption | (dsimp only; first | assumption | grind) | grind))⟩
set_option maxHeartbeats 4000000 in
theorem T_H_read (en : Nat → Int32) (po : Nat → Int32) (pw : Int32) (su : Int32) (bt : Nat → Int32) (ou : Nat → Int64) (x1 : Int32) (x2 : Int32)  : ∃ r : Int32 × (Nat → Int64) × (Nat → Int32), f_H_read en po pw su bt ou x1 x2 = some r ∧ True := by
  rw [f_H_read]
  obtain ⟨r1, h1, p2⟩ := T_V_read en po pw su bt x1 x2 
  refine pu_bind h1 ?_
  clear h1
  refine pu_t (fun E1 w3 => ?_) (fun v1 w4 => ?_)
  · skip
    by_cases q5 : E1 = "java/lang/IllegalStateException"
    · refine pu_pos q5 ?_
      exact ⟨_, rfl, trivial⟩
    · refine pu_neg q5 ?_
      by_cases q6 : E1 = "java/lang/IllegalArgumentException"
      · refine pu_pos q6 ?_
        exact ⟨_, rfl, trivial⟩
      · refine pu_neg q6 ?_
        exfalso
        rcases p2 _ w3 with z9 | z9 | z9 <;> contradiction
  · skip
    exact ⟨_, rfl, trivial⟩
set_option maxHeartbeats 4000000 in
theorem T_H_write (g : am_WS) (su : Int32) (rw : Nat → Int32) (ou : Nat → Int64) (x1 : Int32) (x2 : Int64) (x4 : Int32) (h0_ : 0 ≤ g.1) (h1_ : g.1 ≤ 26) : ∃ r : Int32 × (Nat → Int64) × am_WS × (Nat → Int32), f_H_write g su rw ou x1 x2 x4 = some r ∧ 0 ≤ r.2.2.1.1 ∧ r.2.2.1.1 ≤ 26 := by
  rw [f_H_write]
  obtain ⟨r1, h1, p2, p3, p4⟩ := T_V_write g su rw x1 x2 x4 (by (first | assumption | (dsimp only; first | assumption | grind) | grind)) (by (first | assumption | (dsimp only; first | assumption | grind) | grind))
  refine pu_bind h1 ?_
  clear h1
  refine pu_t (fun E1 w5 => ?_) (fun v1 w6 => ?_)
  · skip
    by_cases q7 : E1 = "java/lang/IllegalStateException"
    · refine pu_pos q7 ?_
      exact ⟨_, rfl, (by (first | assumption | (dsimp only; first | assumption | grind) | grind)), (by (first | assumption | (dsimp only; first | assumption | grind) | grind))⟩
    · refine pu_neg q7 ?_
      by_cases q8 : E1 = "java/lang/IllegalArgumentException"
      · refine pu_pos q8 ?_
        exact ⟨_, rfl, (by (first | assumption | (dsimp only; first | assumption | grind) | grind)), (by (first | assumption | (dsimp only; first | assumption | grind) | grind))⟩
      · refine pu_neg q8 ?_
        by_cases q9 : E1 = "java/lang/UnsupportedOperationException"
        · refine pu_pos q9 ?_
          exact ⟨_, rfl, (by (first | assumption | (dsimp only; first | assumption | grind) | grind)), (by (first | assumption | (dsimp only; first | assumption | grind) | grind))⟩
        · refine pu_neg q9 ?_
          exfalso
          rcases p2 _ w5 with z9 | z9 | z9 <;> contradiction
  · skip
    exact ⟨_, rfl, (by (first | assumption | (dsimp only; first | assumption | grind) | grind)), (by (first | assumption | (dsimp only; first | assumption | grind) | grind))⟩
set_option maxHeartbeats 4000000 in
theorem T_H_list (he : Int32) (pw : Int32) (su : Int32) (bt : Nat → Int32) (ct : Int32) (lc : Int32) (ad : Nat → Int32) (ou : Nat → Int64) (x1 : Int32) (x2 : Int32) (h0_ : 0 ≤ ct) (h1_ : ct ≤ 128) : ∃ r : Int32 × (Nat → Int64) × Int32 × Int32 × (Nat → Int32), f_H_list he pw su bt ct lc ad ou x1 x2 = some r ∧ 0 ≤ r.2.2.1 ∧ r.2.2.1 ≤ 128 := by
  rw [f_H_list]
  obtain ⟨r1, h1, p2, p3, p4⟩ := T_V_list he pw su bt ct lc ad x1 x2 (by (first | assumption | (dsimp only; first | assumption | grind) | grind)) (by (first | assumption | (dsimp only; first | assumption | grind) | grind))
  refine pu_bind h1 ?_
  clear h1
  refine pu_t (fun E1 w5 => ?_) (fun v1 w6 => ?_)
  · skip
    by_cases q7 : E1 = "java/lang/IllegalStateException"
    · refine pu_pos q7 ?_
      exact ⟨_, rfl, (by (first | assumption | (dsimp only; first | assumption | grind) | grind)), (by (first | assumption | (dsimp only; first | assumption | grind) | grind))⟩
    · refine pu_neg q7 ?_
      by_cases q8 : E1 = "java/util/NoSuchElementException"
      · refine pu_pos q8 ?_
        exact ⟨_, rfl, (by (first | assumption | (dsimp only; first | assumption | grind) | grind)), (by (first | assumption | (dsimp only; first | assumption | grind) | grind))⟩
      · refine pu_neg q8 ?_
        by_cases q9 : E1 = "java/lang/IndexOutOfBoundsException"
        · refine pu_pos q9 ?_
          exact ⟨_, rfl, (by (first | assumption | (dsimp only; first | assumption | grind) | grind)), (by (first | assumption | (dsimp only; first | assumption | grind) | grind))⟩
        · refine pu_neg q9 ?_
          exfalso
          rcases p2 _ w5 with z9 | z9 | z9 <;> contradiction
  · skip
    exact ⟨_, rfl, (by (first | assumption | (dsimp only; first | assumption | grind) | grind)), (by (first | assumption | (dsimp only; first | assumption | grind) | grind))⟩
set_option maxHeartbeats 4000000 in
theorem T_H_repair (g : am_WS) (su : Int32) (ct : Int32) (lc : Int32) (ad : Nat → Int32) (fx : Int32) (us : Nat → Int32) (ou : Nat → Int64) (h0_ : 0 ≤ g.1) (h1_ : g.1 ≤ 26) (h2_ : 0 ≤ ct) (h3_ : ct ≤ 128) : ∃ r : Int32 × (Nat → Int64) × am_WS × Int32 × Int32 × Int32 × (Nat → Int32) × Int32 × (Nat → Int32), f_H_repair g su ct lc ad fx us ou = some r ∧ 0 ≤ r.2.2.1.1 ∧ r.2.2.1.1 ≤ 26 ∧ 0 ≤ r.2.2.2.2.1 ∧ r.2.2.2.2.1 ≤ 128 := by
  rw [f_H_repair]
  obtain ⟨r1, h1, p2, p3, p4, p5, p6⟩ := T_V_repair g su ct lc ad fx us (by (first | assumption | (dsimp only; first | assumption | grind) | grind)) (by (first | assumption | (dsimp only; first | assumption | grind) | grind)) (by (first | assumption | (dsimp only; first | assumption | grind) | grind)) (by (first | assumption | (dsimp only; first | assumption | grind) | grind))
  refine pu_bind h1 ?_
  clear h1
  refine pu_t (fun E1 w7 => ?_) (fun v1 w8 => ?_)
  · skip
    by_cases q9 : E1 = "java/lang/IllegalStateException"
    · refine pu_pos q9 ?_
      exact ⟨_, rfl, (by (first | assumption | (dsimp only; first | assumption | grind) | grind)), (by (first | assumption | (dsimp only; first | assumption | grind) | grind)), (by (first | assumption | (dsimp only; first | assumption | grind) | grind)), (by (first | assumption | (dsimp only; first | assumption | grind) | grind))⟩
    · refine pu_neg q9 ?_
      exfalso
      rcases p2 _ w7 with z9 | z9 | z9 <;> contradiction
  · skip
    exact ⟨_, rfl, (by (first | assumption | (dsimp only; first | assumption | grind) | grind)), (by (first | assumption | (dsimp only; first | assumption | grind) | grind)), (by (first | assumption | (dsimp only; first | assumption | grind) | grind)), (by (first | assumption | (dsimp only; first | assumption | grind) | grind))⟩
