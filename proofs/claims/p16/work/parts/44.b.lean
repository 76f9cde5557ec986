set_option maxHeartbeats 4000000 in
theorem T_M_shortLetter (dk : Nat → Int32) (x1 : Int32) (x2 : Int32) (h0_ : ta 0 255 dk) (h1_ : 176 ≤ x1) (h2_ : x1 ≤ 2224) (h3_ : 0 ≤ x2) (h4_ : x2 ≤ 1000) : ∃ r : Int32, f_M_shortLetter dk x1 x2 = some r ∧ True := by
  rw [f_M_shortLetter]
  exact T_M_shortLetter_L2 100000000000 dk x1 x2 0 (by assumption) (by (first | assumption | (dsimp only; first | assumption | grind) | grind)) (by (first | assumption | (dsimp only; first | assumption | grind) | grind)) (by (first | assumption | (dsimp only; first | assumption | grind) | grind)) (by (first | assumption | (dsimp only; first | assumption | grind) | grind)) (by (first | assumption | (dsimp only; first | assumption | grind) | grind)) (tmz _ _)
set_option maxHeartbeats 4000000 in
theorem T_M_spot (x0 : Int32)  : ∃ r : Int32, f_M_spot x0 = some r ∧ (0 ≤ x0 → x0 < 13 → 1 ≤ r ∧ r ≤ 15) := by
  rw [f_M_spot]
  by_cases q1 : 5 ≤ x0
  · refine pu_pos q1 ?_
    exact ⟨_, rfl, (by (first | assumption | (dsimp only; first | assumption | grind) | grind))⟩
  · refine pu_neg q1 ?_
    exact ⟨_, rfl, (by (first | assumption | (dsimp only; first | assumption | grind) | grind))⟩
set_option maxHeartbeats 4000000 in
theorem T_M_letter_L17 : ∀ (fuel : Nat) (dk : Nat → Int32) (x1 : Int32) (x2 : Int32) (x3 : Int32) (x4 : Int32) (x5 : Int32) (x6 : Int32), ta 0 255 dk → 0 ≤ x6 → x3 ≤ 1000 → tm x3 x6 fuel → ∃ r : Int32, f_M_letter_L17 fuel dk x1 x2 x3 x4 x5 x6 = some r ∧ True := by
  intro fuel
  induction fuel with
  | zero =>
    intro dk x1 x2 x3 x4 x5 x6 h0_ h1_ h2_ hm
    exact (tm0 hm).elim
  | succ fuel ih =>
    intro dk x1 x2 x3 x4 x5 x6 h0_ h1_ h2_ hm
    rw [f_M_letter_L17]
    by_cases q1 : x3 < x6
    · refine pu_pos q1 ?_
      exact ⟨_, rfl, trivial⟩
    · refine pu_neg q1 ?_
      by_cases q2 : x4 ≤ x6
      · refine pu_pos q2 ?_
        exact ih dk x1 x2 x3 x4 0 (x6 + 1) (by assumption) (by (try clear ih); (first | assumption | (dsimp only; first | assumption | grind) | grind)) (by (try clear ih); (first | assumption | (dsimp only; first | assumption | grind) | grind)) (tm2 (by (try clear ih); (first | assumption | (dsimp only; first | assumption | grind) | grind)) (by (try clear ih); (first | assumption | (dsimp only; first | assumption | grind) | grind)) hm)
      · refine pu_neg q2 ?_
        by_cases q3 : x6 = 0
        · refine pu_pos q3 ?_
          have d4 := td x6 13 (by decide)
          obtain ⟨r6, h5, p6, p7, p8⟩ := T_M_place dk x1 ((x2 - 1) - (x6 / 13)) (by assumption)
          refine pu_bind h5 ?_
          clear h5
          obtain ⟨r8, h9, p10⟩ := T_M_spot (x6 - x6 / 13 * 13) 
          refine pu_bind h9 ?_
          clear h9
          refine pu_pos (ti 2240 (by (try clear ih); (first | assumption | (dsimp only; first | assumption | grind) | grind)) (by (try clear ih); (first | assumption | (dsimp only; first | assumption | grind) | grind)) rfl) ?_
          have a11 := ((by assumption) : ta 0 255 dk) (r6 + r8).toNatClampNeg
          exact ih dk x1 x2 x3 x4 (dk (r6 + r8).toNatClampNeg) (x6 + 1) (by assumption) (by (try clear ih); (first | assumption | (dsimp only; first | assumption | grind) | grind)) (by (try clear ih); (first | assumption | (dsimp only; first | assumption | grind) | grind)) (tm2 (by (try clear ih); (first | assumption | (dsimp only; first | assumption | grind) | grind)) (by (try clear ih); (first | assumption | (dsimp only; first | assumption | grind) | grind)) hm)
        · refine pu_neg q3 ?_
          by_cases q12 : x5 = 0
          · refine pu_pos q12 ?_
            exact ih dk x1 x2 x3 x4 0 (x6 + 1) (by assumption) (by (try clear ih); (first | assumption | (dsimp only; first | assumption | grind) | grind)) (by (try clear ih); (first | assumption | (dsimp only; first | assumption | grind) | grind)) (tm2 (by (try clear ih); (first | assumption | (dsimp only; first | assumption | grind) | grind)) (by (try clear ih); (first | assumption | (dsimp only; first | assumption | grind) | grind)) hm)
          · refine pu_neg q12 ?_
            have d13 := td x6 13 (by decide)
            obtain ⟨r12, h14, p15, p16, p17⟩ := T_M_place dk x1 ((x2 - 1) - (x6 / 13)) (by assumption)
            refine pu_bind h14 ?_
            clear h14
            obtain ⟨r14, h18, p19⟩ := T_M_spot (x6 - x6 / 13 * 13) 
            refine pu_bind h18 ?_
            clear h18
            refine pu_pos (ti 2240 (by (try clear ih); (first | assumption | (dsimp only; first | assumption | grind) | grind)) (by (try clear ih); (first | assumption | (dsimp only; first | assumption | grind) | grind)) rfl) ?_
            have a20 := ((by assumption) : ta 0 255 dk) (r12 + r14).toNatClampNeg
            exact ih dk x1 x2 x3 x4 (dk (r12 + r14).toNatClampNeg) (x6 + 1) (by assumption) (by (try clear ih); (first | assumption | (dsimp only; first | assumption | grind) | grind)) (by (try clear ih); (first | assumption | (dsimp only; first | assumption | grind) | grind)) (tm2 (by (try clear ih); (first | assumption | (dsimp only; first | assumption | grind) | grind)) (by (try clear ih); (first | assumption | (dsimp only; first | assumption | grind) | grind)) hm)
set_option maxHeartbeats 4000000 in
theorem T_M_letter (dk : Nat → Int32) (x1 : Int32) (x2 : Int32) (x3 : Int32) (h0_ : ta 0 255 dk) (h1_ : x3 ≤ 1000) : ∃ r : Int32, f_M_letter dk x1 x2 x3 = some r ∧ True := by
  rw [f_M_letter]
  obtain ⟨r1, h1, p2, p3⟩ := T_M_partsOf dk x1 x2 (by assumption)
  refine pu_bind h1 ?_
  clear h1
  exact T_M_letter_L17 100000000000 dk x1 x2 x3 (13 * r1) 0 0 (by assumption) (by (first | assumption | (dsimp only; first | assumption | grind) | grind)) (by (first | assumption | (dsimp only; first | assumption | grind) | grind)) (tmz _ _)
set_option maxHeartbeats 4000000 in
theorem T_M_isCalled_L51 : ∀ (fuel : Nat) (ty : Int32) (mh : Int32) (dk : Nat → Int32) (ml : Nat → Int32) (x1 : Int32) (x2 : Int32) (x3 : Int32) (x4 : Int32) (x5 : Int32), 0 ≤ ty → ty ≤ 26 → ta 0 255 dk → ta 0 255 ml → 0 ≤ x5 → 176 ≤ x2 → x2 ≤ 2224 → tm ty x5 fuel → ∃ r : Int32, f_M_isCalled_L51 fuel ty mh dk ml x1 x2 x3 x4 x5 = some r ∧ (r = 0 ∨ r = 1) := by
  intro fuel
  induction fuel with
  | zero =>
    intro ty mh dk ml x1 x2 x3 x4 x5 h0_ h1_ h2_ h3_ h4_ h5_ h6_ hm
    exact (tm0 hm).elim
  | succ fuel ih =>
    intro ty mh dk ml x1 x2 x3 x4 x5 h0_ h1_ h2_ h3_ h4_ h5_ h6_ hm
    rw [f_M_isCalled_L51]
    by_cases q1 : ty < x5
    · refine pu_pos q1 ?_
      by_cases q2 : x3 = 0
      · refine pu_pos q2 ?_
        by_cases q3 : x4 = 0
        · refine pu_pos q3 ?_
          exact ⟨_, rfl, (by (try clear ih); (first | assumption | (dsimp only; first | assumption | grind) | grind))⟩
        · refine pu_neg q3 ?_
          exact ⟨_, rfl, (by (try clear ih); (first | assumption | (dsimp only; first | assumption | grind) | grind))⟩
      · refine pu_neg q2 ?_
        exact ⟨_, rfl, (by (try clear ih); (first | assumption | (dsimp only; first | assumption | grind) | grind))⟩
    · refine pu_neg q1 ?_
      by_cases q4 : ty ≤ x5
      · refine pu_pos q4 ?_
        by_cases q5 : x3 = 0
        · refine pu_pos q5 ?_
          by_cases q6 : x4 = 0
          · refine pu_pos q6 ?_
            exact ih ty mh dk ml x1 x2 0 0 (x5 + 1) (by (try clear ih); (first | assumption | (dsimp only; first | assumption | grind) | grind)) (by (try clear ih); (first | assumption | (dsimp only; first | assumption | grind) | grind)) (by assumption) (by assumption) (by (try clear ih); (first | assumption | (dsimp only; first | assumption | grind) | grind)) (by (try clear ih); (first | assumption | (dsimp only; first | assumption | grind) | grind)) (by (try clear ih); (first | assumption | (dsimp only; first | assumption | grind) | grind)) (tm2 (by (try clear ih); (first | assumption | (dsimp only; first | assumption | grind) | grind)) (by (try clear ih); (first | assumption | (dsimp only; first | assumption | grind) | grind)) hm)
          · refine pu_neg q6 ?_
            by_cases q7 : 26 ≤ x5
            · refine pu_pos q7 ?_
              exact ih ty mh dk ml x1 x2 0 1 (x5 + 1) (by (try clear ih); (first | assumption | (dsimp only; first | assumption | grind) | grind)) (by (try clear ih); (first | assumption | (dsimp only; first | assumption | grind) | grind)) (by assumption) (by assumption) (by (try clear ih); (first | assumption | (dsimp only; first | assumption | grind) | grind)) (by (try clear ih); (first | assumption | (dsimp only; first | assumption | grind) | grind)) (by (try clear ih); (first | assumption | (dsimp only; first | assumption | grind) | grind)) (tm2 (by (try clear ih); (first | assumption | (dsimp only; first | assumption | grind) | grind)) (by (try clear ih); (first | assumption | (dsimp only; first | assumption | grind) | grind)) hm)
            · refine pu_neg q7 ?_
              obtain ⟨r18, h8, p9⟩ := T_M_letter dk mh x1 x5 (by assumption) (by (try clear ih); (first | assumption | (dsimp only; first | assumption | grind) | grind))
              refine pu_bind h8 ?_
              clear h8
              obtain ⟨r20, h10, p11⟩ := T_M_capital r18 
              refine pu_bind h10 ?_
              clear h10
              by_cases q12 : r20 = 0
              · refine pu_pos q12 ?_
                exact ih ty mh dk ml x1 x2 0 1 (x5 + 1) (by (try clear ih); (first | assumption | (dsimp only; first | assumption | grind) | grind)) (by (try clear ih); (first | assumption | (dsimp only; first | assumption | grind) | grind)) (by assumption) (by assumption) (by (try clear ih); (first | assumption | (dsimp only; first | assumption | grind) | grind)) (by (try clear ih); (first | assumption | (dsimp only; first | assumption | grind) | grind)) (by (try clear ih); (first | assumption | (dsimp only; first | assumption | grind) | grind)) (tm2 (by (try clear ih); (first | assumption | (dsimp only; first | assumption | grind) | grind)) (by (try clear ih); (first | assumption | (dsimp only; first | assumption | grind) | grind)) hm)
              · refine pu_neg q12 ?_
                exact ih ty mh dk ml x1 x2 0 0 (x5 + 1) (by (try clear ih); (first | assumption | (dsimp only; first | assumption | grind) | grind)) (by (try clear ih); (first | assumption | (dsimp only; first | assumption | grind) | grind)) (by assumption) (by assumption) (by (try clear ih); (first | assumption | (dsimp only; first | assumption | grind) | grind)) (by (try clear ih); (first | assumption | (dsimp only; first | assumption | grind) | grind)) (by (try clear ih); (first | assumption | (dsimp only; first | assumption | grind) | grind)) (tm2 (by (try clear ih); (first | assumption | (dsimp only; first | assumption | grind) | grind)) (by (try clear ih); (first | assumption | (dsimp only; first | assumption | grind) | grind)) hm)
        · refine pu_neg q5 ?_
          obtain ⟨r23, h13, p14⟩ := T_M_shortLetter dk x2 x5 (by assumption) (by (try clear ih); (first | assumption | (dsimp only; first | assumption | grind) | grind)) (by (try clear ih); (first | assumption | (dsimp only; first | assumption | grind) | grind)) (by (try clear ih); (first | assumption | (dsimp only; first | assumption | grind) | grind)) (by (try clear ih); (first | assumption | (dsimp only; first | assumption | grind) | grind))
          refine pu_bind h13 ?_
          clear h13
          obtain ⟨r25, h15, p16⟩ := T_M_capital r23 
          refine pu_bind h15 ?_
          clear h15
          by_cases q17 : r25 = 0
          · refine pu_pos q17 ?_
            by_cases q18 : x4 = 0
            · refine pu_pos q18 ?_
              exact ih ty mh dk ml x1 x2 1 0 (x5 + 1) (by (try clear ih); (first | assumption | (dsimp only; first | assumption | grind) | grind)) (by (try clear ih); (first | assumption | (dsimp only; first | assumption | grind) | grind)) (by assumption) (by assumption) (by (try clear ih); (first | assumption | (dsimp only; first | assumption | grind) | grind)) (by (try clear ih); (first | assumption | (dsimp only; first | assumption | grind) | grind)) (by (try clear ih); (first | assumption | (dsimp only; first | assumption | grind) | grind)) (tm2 (by (try clear ih); (first | assumption | (dsimp only; first | assumption | grind) | grind)) (by (try clear ih); (first | assumption | (dsimp only; first | assumption | grind) | grind)) hm)
            · refine pu_neg q18 ?_
              by_cases q19 : 26 ≤ x5
              · refine pu_pos q19 ?_
                exact ih ty mh dk ml x1 x2 1 1 (x5 + 1) (by (try clear ih); (first | assumption | (dsimp only; first | assumption | grind) | grind)) (by (try clear ih); (first | assumption | (dsimp only; first | assumption | grind) | grind)) (by assumption) (by assumption) (by (try clear ih); (first | assumption | (dsimp only; first | assumption | grind) | grind)) (by (try clear ih); (first | assumption | (dsimp only; first | assumption | grind) | grind)) (by (try clear ih); (first | assumption | (dsimp only; first | assumption | grind) | grind)) (tm2 (by (try clear ih); (first | assumption | (dsimp only; first | assumption | grind) | grind)) (by (try clear ih); (first | assumption | (dsimp only; first | assumption | grind) | grind)) hm)
              · refine pu_neg q19 ?_
                obtain ⟨r39, h20, p21⟩ := T_M_letter dk mh x1 x5 (by assumption) (by (try clear ih); (first | assumption | (dsimp only; first | assumption | grind) | grind))
                refine pu_bind h20 ?_
                clear h20
                obtain ⟨r41, h22, p23⟩ := T_M_capital r39 
                refine pu_bind h22 ?_
                clear h22
                by_cases q24 : r41 = 0
                · refine pu_pos q24 ?_
                  exact ih ty mh dk ml x1 x2 1 1 (x5 + 1) (by (try clear ih); (first | assumption | (dsimp only; first | assumption | grind) | grind)) (by (try clear ih); (first | assumption | (dsimp only; first | assumption | grind) | grind)) (by assumption) (by assumption) (by (try clear ih); (first | assumption | (dsimp only; first | assumption | grind) | grind)) (by (try clear ih); (first | assumption | (dsimp only; first | assumption | grind) | grind)) (by (try clear ih); (first | assumption | (dsimp only; first | assumption | grind) | grind)) (tm2 (by (try clear ih); (first | assumption | (dsimp only; first | assumption | grind) | grind)) (by (try clear ih); (first | assumption | (dsimp only; first | assumption | grind) | grind)) hm)
                · refine pu_neg q24 ?_
                  exact ih ty mh dk ml x1 x2 1 0 (x5 + 1) (by (try clear ih); (first | assumption | (dsimp only; first | assumption | grind) | grind)) (by (try clear ih); (first | assumption | (dsimp only; first | assumption | grind) | grind)) (by assumption) (by assumption) (by (try clear ih); (first | assumption | (dsimp only; first | assumption | grind) | grind)) (by (try clear ih); (first | assumption | (dsimp only; first | assumption | grind) | grind)) (by (try clear ih); (first | assumption | (dsimp only; first | assumption | grind) | grind)) (tm2 (by (try clear ih); (first | assumption | (dsimp only; first | assumption | grind) | grind)) (by (try clear ih); (first | assumption | (dsimp only; first | assumption | grind) | grind)) hm)
          · refine pu_neg q17 ?_
            by_cases q25 : x4 = 0
            · refine pu_pos q25 ?_
              exact ih ty mh dk ml x1 x2 0 0 (x5 + 1) (by (try clear ih); (first | assumption | (dsimp only; first | assumption | grind) | grind)) (by (try clear ih); (first | assumption | (dsimp only; first | assumption | grind) | grind)) (by assumption) (by assumption) (by (try clear ih); (first | assumption | (dsimp only; first | assumption | grind) | grind)) (by (try clear ih); (first | assumption | (dsimp only; first | assumption | grind) | grind)) (by (try clear ih); (first | assumption | (dsimp only; first | assumption | grind) | grind)) (tm2 (by (try clear ih); (first | assumption | (dsimp only; first | assumption | grind) | grind)) (by (try clear ih); (first | assumption | (dsimp only; first | assumption | grind) | grind)) hm)
            · refine pu_neg q25 ?_
              by_cases q26 : 26 ≤ x5
              · refine pu_pos q26 ?_
                exact ih ty mh dk ml x1 x2 0 1 (x5 + 1) (by (try clear ih); (first | assumption | (dsimp only; first | assumption | grind) | grind)) (by (try clear ih); (first | assumption | (dsimp only; first | assumption | grind) | grind)) (by assumption) (by assumption) (by (try clear ih); (first | assumption | (dsimp only; first | assumption | grind) | grind)) (by (try clear ih); (first | assumption | (dsimp only; first | assumption | grind) | grind)) (by (try clear ih); (first | assumption | (dsimp only; first | assumption | grind) | grind)) (tm2 (by (try clear ih); (first | assumption | (dsimp only; first | assumption | grind) | grind)) (by (try clear ih); (first | assumption | (dsimp only; first | assumption | grind) | grind)) hm)
              · refine pu_neg q26 ?_
                obtain ⟨r31, h27, p28⟩ := T_M_letter dk mh x1 x5 (by assumption) (by (try clear ih); (first | assumption | (dsimp only; first | assumption | grind) | grind))
                refine pu_bind h27 ?_
                clear h27
                obtain ⟨r33, h29, p30⟩ := T_M_capital r31 
                refine pu_bind h29 ?_
                clear h29
                by_cases q31 : r33 = 0
                · refine pu_pos q31 ?_
                  exact ih ty mh dk ml x1 x2 0 1 (x5 + 1) (by (try clear ih); (first | assumption | (dsimp only; first | assumption | grind) | grind)) (by (try clear ih); (first | assumption | (dsimp only; first | assumption | grind) | grind)) (by assumption) (by assumption) (by (try clear ih); (first | assumption | (dsimp only; first | assumption | grind) | grind)) (by (try clear ih); (first | assumption | (dsimp only; first | assumption | grind) | grind)) (by (try clear ih); (first | assumption | (dsimp only; first | assumption | grind) | grind)) (tm2 (by (try clear ih); (first | assumption | (dsimp only; first | assumption | grind) | grind)) (by (try clear ih); (first | assumption | (dsimp only; first | assumption | grind) | grind)) hm)
                · refine pu_neg q31 ?_
                  exact ih ty mh dk ml x1 x2 0 0 (x5 + 1) (by (try clear ih); (first | assumption | (dsimp only; first | assumption | grind) | grind)) (by (try clear ih); (first | assumption | (dsimp only; first | assumption | grind) | grind)) (by assumption) (by assumption) (by (try clear ih); (first | assumption | (dsimp only; first | assumption | grind) | grind)) (by (try clear ih); (first | assumption | (dsimp only; first | assumption | grind) | grind)) (by (try clear ih); (first | assumption | (dsimp only; first | assumption | grind) | grind)) (tm2 (by (try clear ih); (first | assumption | (dsimp only; first | assumption | grind) | grind)) (by (try clear ih); (first | assumption | (dsimp only; first | assumption | grind) | grind)) hm)
      · refine pu_neg q4 ?_
        refine pu_pos (ti 26 (by (try clear ih); (first | assumption | (dsimp only; first | assumption | grind) | grind)) (by (try clear ih); (first | assumption | (dsimp only; first | assumption | grind) | grind)) rfl) ?_
        have a32 := ((by assumption) : ta 0 255 ml) x5.toNatClampNeg
        obtain ⟨r45, h33, p34⟩ := T_M_capital (ml x5.toNatClampNeg) 
        refine pu_bind h33 ?_
        clear h33
        by_cases q35 : x3 = 0
        · refine pu_pos q35 ?_
          by_cases q36 : x4 = 0
          · refine pu_pos q36 ?_
            exact ih ty mh dk ml x1 x2 0 0 (x5 + 1) (by (try clear ih); (first | assumption | (dsimp only; first | assumption | grind) | grind)) (by (try clear ih); (first | assumption | (dsimp only; first | assumption | grind) | grind)) (by assumption) (by assumption) (by (try clear ih); (first | assumption | (dsimp only; first | assumption | grind) | grind)) (by (try clear ih); (first | assumption | (dsimp only; first | assumption | grind) | grind)) (by (try clear ih); (first | assumption | (dsimp only; first | assumption | grind) | grind)) (tm2 (by (try clear ih); (first | assumption | (dsimp only; first | assumption | grind) | grind)) (by (try clear ih); (first | assumption | (dsimp only; first | assumption | grind) | grind)) hm)
          · refine pu_neg q36 ?_
            by_cases q37 : 26 ≤ x5
            · refine pu_pos q37 ?_
              by_cases q38 : 0 = r45
              · refine pu_pos q38 ?_
                exact ih ty mh dk ml x1 x2 0 1 (x5 + 1) (by (try clear ih); (first | assumption | (dsimp only; first | assumption | grind) | grind)) (by (try clear ih); (first | assumption | (dsimp only; first | assumption | grind) | grind)) (by assumption) (by assumption) (by (try clear ih); (first | assumption | (dsimp only; first | assumption | grind) | grind)) (by (try clear ih); (first | assumption | (dsimp only; first | assumption | grind) | grind)) (by (try clear ih); (first | assumption | (dsimp only; first | assumption | grind) | grind)) (tm2 (by (try clear ih); (first | assumption | (dsimp only; first | assumption | grind) | grind)) (by (try clear ih); (first | assumption | (dsimp only; first | assumption | grind) | grind)) hm)
              · refine pu_neg q38 ?_
                exact ih ty mh dk ml x1 x2 0 0 (x5 + 1) (by (try clear ih); (first | assumption | (dsimp only; first | assumption | grind) | grind)) (by (try clear ih); (first | assumption | (dsimp only; first | assumption | grind) | grind)) (by assumption) (by assumption) (by (try clear ih); (first | assumption | (dsimp only; first | assumption | grind) | grind)) (by (try clear ih); (first | assumption | (dsimp only; first | assumption | grind) | grind)) (by (try clear ih); (first | assumption | (dsimp only; first | assumption | grind) | grind)) (tm2 (by (try clear ih); (first | assumption | (dsimp only; first | assumption | grind) | grind)) (by (try clear ih); (first | assumption | (dsimp only; first | assumption | grind) | grind)) hm)
            · refine pu_neg q37 ?_
              obtain ⟨r51, h39, p40⟩ := T_M_letter dk mh x1 x5 (by assumption) (by (try clear ih); (first | assumption | (dsimp only; first | assumption | grind) | grind))
              refine pu_bind h39 ?_
              clear h39
              obtain ⟨r53, h41, p42⟩ := T_M_capital r51 
              refine pu_bind h41 ?_
              clear h41
              by_cases q43 : r53 = r45
              · refine pu_pos q43 ?_
                exact ih ty mh dk ml x1 x2 0 1 (x5 + 1) (by (try clear ih); (first | assumption | (dsimp only; first | assumption | grind) | grind)) (by (try clear ih); (first | assumption | (dsimp only; first | assumption | grind) | grind)) (by assumption) (by assumption) (by (try clear ih); (first | assumption | (dsimp only; first | assumption | grind) | grind)) (by (try clear ih); (first | assumption | (dsimp only; first | assumption | grind) | grind)) (by (try clear ih); (first | assumption | (dsimp only; first | assumption | grind) | grind)) (tm2 (by (try clear ih); (first | assumption | (dsimp only; first | assumption | grind) | grind)) (by (try clear ih); (first | assumption | (dsimp only; first | assumption | grind) | grind)) hm)
              · refine pu_neg q43 ?_
                exact ih ty mh dk ml x1 x2 0 0 (x5 + 1) (by (try clear ih); (first | assumption | (dsimp only; first | assumption | grind) | grind)) (by (try clear ih); (first | assumption | (dsimp only; first | assumption | grind) | grind)) (by assumption) (by assumption) (by (try clear ih); (first | assumption | (dsimp only; first | assumption | grind) | grind)) (by (try clear ih); (first | assumption | (dsimp only; first | assumption | grind) | grind)) (by (try clear ih); (first | assumption | (dsimp only; first | assumption | grind) | grind)) (tm2 (by (try clear ih); (first | assumption | (dsimp only; first | assumption | grind) | grind)) (by (try clear ih); (first | assumption | (dsimp only; first | assumption | grind) | grind)) hm)
        · refine pu_neg q35 ?_
          obtain ⟨r56, h44, p45⟩ := T_M_shortLetter dk x2 x5 (by assumption) (by (try clear ih); (first | assumption | (dsimp only; first | assumption | grind) | grind)) (by (try clear ih); (first | assumption | (dsimp only; first | assumption | grind) | grind)) (by (try clear ih); (first | assumption | (dsimp only; first | assumption | grind) | grind)) (by (try clear ih); (first | assumption | (dsimp only; first | assumption | grind) | grind))
          refine pu_bind h44 ?_
          clear h44
          obtain ⟨r58, h46, p47⟩ := T_M_capital r56 
          refine pu_bind h46 ?_
          clear h46
          by_cases q48 : r58 = r45
          · refine pu_pos q48 ?_
            by_cases q49 : x4 = 0
            · refine pu_pos q49 ?_
              exact ih ty mh dk ml x1 x2 1 0 (x5 + 1) (by (try clear ih); (first | assumption | (dsimp only; first | assumption | grind) | grind)) (by (try clear ih); (first | assumption | (dsimp only; first | assumption | grind) | grind)) (by assumption) (by assumption) (by (try clear ih); (first | assumption | (dsimp only; first | assumption | grind) | grind)) (by (try clear ih); (first | assumption | (dsimp only; first | assumption | grind) | grind)) (by (try clear ih); (first | assumption | (dsimp only; first | assumption | grind) | grind)) (tm2 (by (try clear ih); (first | assumption | (dsimp only; first | assumption | grind) | grind)) (by (try clear ih); (first | assumption | (dsimp only; first | assumption | grind) | grind)) hm)
            · refine pu_neg q49 ?_
              by_cases q50 : 26 ≤ x5
              · refine pu_pos q50 ?_
                by_cases q51 : 0 = r45
                · refine pu_pos q51 ?_
                  exact ih ty mh dk ml x1 x2 1 1 (x5 + 1) (by (try clear ih); (first | assumption | (dsimp only; first | assumption | grind) | grind)) (by (try clear ih); (first | assumption | (dsimp only; first | assumption | grind) | grind)) (by assumption) (by assumption) (by (try clear ih); (first | assumption | (dsimp only; first | assumption | grind) | grind)) (by (try clear ih); (first | assumption | (dsimp only; first | assumption | grind) | grind)) (by (try clear ih); (first | assumption | (dsimp only; first | assumption | grind) | grind)) (tm2 (by (try clear ih); (first | assumption | (dsimp only; first | assumption | grind) | grind)) (by (try clear ih); (first | assumption | (dsimp only; first | assumption | grind) | grind)) hm)
                · refine pu_neg q51 ?_
                  exact ih ty mh dk ml x1 x2 1 0 (x5 + 1) (by (try clear ih); (first | assumption | (dsimp only; first | assumption | grind) | grind)) (by (try clear ih); (first | assumption | (dsimp only; first | assumption | grind) | grind)) (by assumption) (by assumption) (by (try clear ih); (first | assumption | (dsimp only; first | assumption | grind) | grind)) (by (try clear ih); (first | assumption | (dsimp only; first | assumption | grind) | grind)) (by (try clear ih); (first | assumption | (dsimp only; first | assumption | grind) | grind)) (tm2 (by (try clear ih); (first | assumption | (dsimp only; first | assumption | grind) | grind)) (by (try clear ih); (first | assumption | (dsimp only; first | assumption | grind) | grind)) hm)
              · refine pu_neg q50 ?_
                obtain ⟨r72, h52, p53⟩ := T_M_letter dk mh x1 x5 (by assumption) (by (try clear ih); (first | assumption | (dsimp only; first | assumption | grind) | grind))
                refine pu_bind h52 ?_
                clear h52
                obtain ⟨r74, h54, p55⟩ := T_M_capital r72 
                refine pu_bind h54 ?_
                clear h54
                by_cases q56 : r74 = r45
                · refine pu_pos q56 ?_
                  exact ih ty mh dk ml x1 x2 1 1 (x5 + 1) (by (try clear ih); (first | assumption | (dsimp only; first | assumption | grind) | grind)) (by (try clear ih); (first | assumption | (dsimp only; first | assumption | grind) | grind)) (by assumption) (by assumption) (by (try clear ih); (first | assumption | (dsimp only; first | assumption | grind) | grind)) (by (try clear ih); (first | assumption | (dsimp only; first | assumption | grind) | grind)) (by (try clear ih); (first | assumption | (dsimp only; first | assumption | grind) | grind)) (tm2 (by (try clear ih); (first | assumption | (dsimp only; first | assumption | grind) | grind)) (by (try clear ih); (first | assumption | (dsimp only; first | assumption | grind) | grind)) hm)
                · refine pu_neg q56 ?_
                  exact ih ty mh dk ml x1 x2 1 0 (x5 + 1) (by (try clear ih); (first | assumption | (dsimp only; first | assumption | grind) | grind)) (by (try clear ih); (first | assumption | (dsimp only; first | assumption | grind) | grind)) (by assumption) (by assumption) (by (try clear ih); (first | assumption | (dsimp only; first | assumption | grind) | grind)) (by (try clear ih); (first | assumption | (dsimp only; first | assumption | grind) | grind)) (by (try clear ih); (first | assumption | (dsimp only; first | assumption | grind) | grind)) (tm2 (by (try clear ih); (first | assumption | (dsimp only; first | assumption | grind) | grind)) (by (try clear ih); (first | assumption | (dsimp only; first | assumption | grind) | grind)) hm)
          · refine pu_neg q48 ?_
            by_cases q57 : x4 = 0
            · refine pu_pos q57 ?_
              exact ih ty mh dk ml x1 x2 0 0 (x5 + 1) (by (try clear ih); (first | assumption | (dsimp only; first | assumption | grind) | grind)) (by (try clear ih); (first | assumption | (dsimp only; first | assumption | grind) | grind)) (by assumption) (by assumption) (by (try clear ih); (first | assumption | (dsimp only; first | assumption | grind) | grind)) (by (try clear ih); (first | assumption | (dsimp only; first | assumption | grind) | grind)) (by (try clear ih); (first | assumption | (dsimp only; first | assumption | grind) | grind)) (tm2 (by (try clear ih); (first | assumption | (dsimp only; first | assumption | grind) | grind)) (by (try clear ih); (first | assumption | (dsimp only; first | assumption | grind) | grind)) hm)
            · refine pu_neg q57 ?_
              by_cases q58 : 26 ≤ x5
              · refine pu_pos q58 ?_
                by_cases q59 : 0 = r45
                · refine pu_pos q59 ?_
                  exact ih ty mh dk ml x1 x2 0 1 (x5 + 1) (by (try clear ih); (first | assumption | (dsimp only; first | assumption | grind) | grind)) (by (try clear ih); (first | assumption | (dsimp only; first | assumption | grind) | grind)) (by assumption) (by assumption) (by (try clear ih); (first | assumption | (dsimp only; first | assumption | grind) | grind)) (by (try clear ih); (first | assumption | (dsimp only; first | assumption | grind) | grind)) (by (try clear ih); (first | assumption | (dsimp only; first | assumption | grind) | grind)) (tm2 (by (try clear ih); (first | assumption | (dsimp only; first | assumption | grind) | grind)) (by (try clear ih); (first | assumption | (dsimp only; first | assumption | grind) | grind)) hm)
                · refine pu_neg q59 ?_
                  exact ih ty mh dk ml x1 x2 0 0 (x5 + 1) (by (try clear ih); (first | assumption | (dsimp only; first | assumption | grind) | grind)) (by (try clear ih); (first | assumption | (dsimp only; first | assumption | grind) | grind)) (by assumption) (by assumption) (by (try clear ih); (first | assumption | (dsimp only; first | assumption | grind) | grind)) (by (try clear ih); (first | assumption | (dsimp only; first | assumption | grind) | grind)) (by (try clear ih); (first | assumption | (dsimp only; first | assumption | grind) | grind)) (tm2 (by (try clear ih); (first | assumption | (dsimp only; first | assumption | grind) | grind)) (by (try clear ih); (first | assumption | (dsimp only; first | assumption | grind) | grind)) hm)
              · refine pu_neg q58 ?_
                obtain ⟨r64, h60, p61⟩ := T_M_letter dk mh x1 x5 (by assumption) (by (try clear ih); (first | assumption | (dsimp only; first | assumption | grind) | grind))
                refine pu_bind h60 ?_
                clear h60
                obtain ⟨r66, h62, p63⟩ := T_M_capital r64 
                refine pu_bind h62 ?_
                clear h62
                by_cases q64 : r66 = r45
                · refine pu_pos q64 ?_
                  exact ih ty mh dk ml x1 x2 0 1 (x5 + 1) (by (try clear ih); (first | assumption | (dsimp only; first | assumption | grind) | grind)) (by (try clear ih); (first | assumption | (dsimp only; first | assumption | grind) | grind)) (by assumption) (by assumption) (by (try clear ih); (first | assumption | (dsimp only; first | assumption | grind) | grind)) (by (try clear ih); (first | assumption | (dsimp only; first | assumption | grind) | grind)) (by (try clear ih); (first | assumption | (dsimp only; first | assumption | grind) | grind)) (tm2 (by (try clear ih); (first | assumption | (dsimp only; first | assumption | grind) | grind)) (by (try clear ih); (first | assumption | (dsimp only; first | assumption | grind) | grind)) hm)
                · refine pu_neg q64 ?_
                  exact ih ty mh dk ml x1 x2 0 0 (x5 + 1) (by (try clear ih); (first | assumption | (dsimp only; first | assumption | grind) | grind)) (by (try clear ih); (first | assumption | (dsimp only; first | assumption | grind) | grind)) (by assumption) (by assumption) (by (try clear ih); (first | assumption | (dsimp only; first | assumption | grind) | grind)) (by (try clear ih); (first | assumption | (dsimp only; first | assumption | grind) | grind)) (by (try clear ih); (first | assumption | (dsimp only; first | assumption | grind) | grind)) (tm2 (by (try clear ih); (first | assumption | (dsimp only; first | assumption | grind) | grind)) (by (try clear ih); (first | assumption | (dsimp only; first | assumption | grind) | grind)) hm)
