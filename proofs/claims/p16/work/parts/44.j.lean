set_option maxHeartbeats 4000000 in
theorem T_M_list_L192 : ∀ (fuel : Nat) (on : Int32) (dd : Int32) (mh : Int32) (dk : Nat → Int32) (th : Int32) (sp : Int32) (x3 : Int32) (x6 : Int32), ta 0 255 dk → 0 ≤ x6 → tm 26 x6 fuel → ∃ r : Int32 × Int32 × Int32, f_M_list_L192 fuel on dd mh dk th sp x3 x6 = some r ∧ True := by
  intro fuel
  induction fuel with
  | zero =>
    intro on dd mh dk th sp x3 x6 h0_ h1_ hm
    exact (tm0 hm).elim
  | succ fuel ih =>
    intro on dd mh dk th sp x3 x6 h0_ h1_ hm
    rw [f_M_list_L192]
    by_cases q1 : 26 ≤ x6
    · refine pu_pos q1 ?_
      exact ⟨_, rfl, trivial⟩
    · refine pu_neg q1 ?_
      obtain ⟨r24, h2, p3⟩ := T_M_letter dk mh x3 x6 (by assumption) (by (try clear ih); (first | assumption | (dsimp only; first | assumption | grind) | grind))
      refine pu_bind h2 ?_
      clear h2
      by_cases q4 : r24 = 0
      · refine pu_pos q4 ?_
        exact ⟨_, rfl, trivial⟩
      · refine pu_neg q4 ?_
        exact ih on dd mh dk th sp x3 (x6 + 1) (by assumption) (by (try clear ih); (first | assumption | (dsimp only; first | assumption | grind) | grind)) (tm1 (by (try clear ih); (first | assumption | (dsimp only; first | assumption | grind) | grind)) hm)
set_option maxHeartbeats 4000000 in
theorem T_M_list_L17 : ∀ (fuel : Nat) (on : Int32) (dd : Int32) (mh : Int32) (dk : Nat → Int32) (th : Int32) (sp : Int32) (x1 : Int32) (x2 : Int32) (x3 : Int32) (x4 : Int32) (x5 : Int32), ta 0 255 dk → 0 ≤ x5 → tm 128 x5 fuel → ∃ r : Int32 × Int32 × Int32, f_M_list_L17 fuel on dd mh dk th sp x1 x2 x3 x4 x5 = some r ∧ True := by
  intro fuel
  induction fuel with
  | zero =>
    intro on dd mh dk th sp x1 x2 x3 x4 x5 h0_ h1_ hm
    exact (tm0 hm).elim
  | succ fuel ih =>
    intro on dd mh dk th sp x1 x2 x3 x4 x5 h0_ h1_ hm
    rw [f_M_list_L17]
    obtain ⟨r4, h1, p2, p3, p4⟩ := T_M_length dk mh (by assumption)
    refine pu_bind h1 ?_
    clear h1
    by_cases q5 : (2 * r4) ≤ x5
    · refine pu_pos q5 ?_
      by_cases q6 : 0 ≤ x3
      · refine pu_pos q6 ?_
        obtain ⟨r8, h7, p8⟩ := T_M_in x2 0 3 
        refine pu_bind h7 ?_
        clear h7
        by_cases q9 : r8 = 0
        · refine pu_pos q9 ?_
          obtain ⟨r34, h10, p11⟩ := T_M_in x2 10 15 
          refine pu_bind h10 ?_
          clear h10
          by_cases q12 : r34 = 0
          · refine pu_pos q12 ?_
            obtain ⟨r56, h13, p14⟩ := T_M_in x2 20 45 
            refine pu_bind h13 ?_
            clear h13
            by_cases q15 : r56 = 0
            · refine pu_pos q15 ?_
              exact ⟨_, rfl, trivial⟩
            · refine pu_neg q15 ?_
              obtain ⟨r60, h16, p17, p18, p19⟩ := T_M_place dk mh x3 (by assumption)
              refine pu_bind h16 ?_
              clear h16
              by_cases q20 : 3 ≤ x2
              · refine pu_pos q20 ?_
                by_cases q21 : x2 = 3
                · refine pu_pos q21 ?_
                  exact T_M_list_L192 100000000000 on dd mh dk 0 sp x3 0 (by assumption) (by (try clear ih); (first | assumption | (dsimp only; first | assumption | grind) | grind)) (tmz _ _)
                · refine pu_neg q21 ?_
                  by_cases q22 : 20 ≤ x2
                  · refine pu_pos q22 ?_
                    obtain ⟨r65, h23, p24⟩ := T_M_letter dk mh x3 (x2 - 20) (by assumption) (by (try clear ih); (first | assumption | (dsimp only; first | assumption | grind) | grind))
                    refine pu_bind h23 ?_
                    clear h23
                    by_cases q25 : r65 = 0
                    · refine pu_pos q25 ?_
                      exact ⟨_, rfl, trivial⟩
                    · refine pu_neg q25 ?_
                      exact ⟨_, rfl, trivial⟩
                  · refine pu_neg q22 ?_
                    obtain ⟨r68, h26, p27⟩ := T_M_shortLetter dk r60 (x2 - 10) (by assumption) (by (try clear ih); (first | assumption | (dsimp only; first | assumption | grind) | grind)) (by (try clear ih); (first | assumption | (dsimp only; first | assumption | grind) | grind)) (by (try clear ih); (first | assumption | (dsimp only; first | assumption | grind) | grind)) (by (try clear ih); (first | assumption | (dsimp only; first | assumption | grind) | grind))
                    refine pu_bind h26 ?_
                    clear h26
                    by_cases q28 : r68 = 0
                    · refine pu_pos q28 ?_
                      exact ⟨_, rfl, trivial⟩
                    · refine pu_neg q28 ?_
                      exact ⟨_, rfl, trivial⟩
              · refine pu_neg q20 ?_
                by_cases q29 : x2 = 0
                · refine pu_pos q29 ?_
                  refine pu_pos (ti 2240 (by (try clear ih); (first | assumption | (dsimp only; first | assumption | grind) | grind)) (by (try clear ih); (first | assumption | (dsimp only; first | assumption | grind) | grind)) rfl) ?_
                  have a30 := ((by assumption) : ta 0 255 dk) (r60 + 6).toNatClampNeg
                  exact ⟨_, rfl, trivial⟩
                · refine pu_neg q29 ?_
                  by_cases q31 : x2 = 1
                  · refine pu_pos q31 ?_
                    obtain ⟨r75, h32, p33, p34, p35⟩ := T_M_numberAt dk (r60 + 10) (by assumption) (by (try clear ih); (first | assumption | (dsimp only; first | assumption | grind) | grind)) (by (try clear ih); (first | assumption | (dsimp only; first | assumption | grind) | grind))
                    refine pu_bind h32 ?_
                    clear h32
                    exact ⟨_, rfl, trivial⟩
                  · refine pu_neg q31 ?_
                    obtain ⟨r73, h36, p37, p38, p39⟩ := T_M_numberAt dk (r60 + 8) (by assumption) (by (try clear ih); (first | assumption | (dsimp only; first | assumption | grind) | grind)) (by (try clear ih); (first | assumption | (dsimp only; first | assumption | grind) | grind))
                    refine pu_bind h36 ?_
                    clear h36
                    exact ⟨_, rfl, trivial⟩
          · refine pu_neg q12 ?_
            obtain ⟨r38, h40, p41, p42, p43⟩ := T_M_place dk mh x3 (by assumption)
            refine pu_bind h40 ?_
            clear h40
            by_cases q44 : 3 ≤ x2
            · refine pu_pos q44 ?_
              by_cases q45 : x2 = 3
              · refine pu_pos q45 ?_
                exact T_M_list_L192 100000000000 on dd mh dk 0 sp x3 0 (by assumption) (by (try clear ih); (first | assumption | (dsimp only; first | assumption | grind) | grind)) (tmz _ _)
              · refine pu_neg q45 ?_
                by_cases q46 : 20 ≤ x2
                · refine pu_pos q46 ?_
                  obtain ⟨r43, h47, p48⟩ := T_M_letter dk mh x3 (x2 - 20) (by assumption) (by (try clear ih); (first | assumption | (dsimp only; first | assumption | grind) | grind))
                  refine pu_bind h47 ?_
                  clear h47
                  by_cases q49 : r43 = 0
                  · refine pu_pos q49 ?_
                    exact ⟨_, rfl, trivial⟩
                  · refine pu_neg q49 ?_
                    exact ⟨_, rfl, trivial⟩
                · refine pu_neg q46 ?_
                  obtain ⟨r46, h50, p51⟩ := T_M_shortLetter dk r38 (x2 - 10) (by assumption) (by (try clear ih); (first | assumption | (dsimp only; first | assumption | grind) | grind)) (by (try clear ih); (first | assumption | (dsimp only; first | assumption | grind) | grind)) (by (try clear ih); (first | assumption | (dsimp only; first | assumption | grind) | grind)) (by (try clear ih); (first | assumption | (dsimp only; first | assumption | grind) | grind))
                  refine pu_bind h50 ?_
                  clear h50
                  by_cases q52 : r46 = 0
                  · refine pu_pos q52 ?_
                    exact ⟨_, rfl, trivial⟩
                  · refine pu_neg q52 ?_
                    exact ⟨_, rfl, trivial⟩
            · refine pu_neg q44 ?_
              by_cases q53 : x2 = 0
              · refine pu_pos q53 ?_
                refine pu_pos (ti 2240 (by (try clear ih); (first | assumption | (dsimp only; first | assumption | grind) | grind)) (by (try clear ih); (first | assumption | (dsimp only; first | assumption | grind) | grind)) rfl) ?_
                have a54 := ((by assumption) : ta 0 255 dk) (r38 + 6).toNatClampNeg
                exact ⟨_, rfl, trivial⟩
              · refine pu_neg q53 ?_
                by_cases q55 : x2 = 1
                · refine pu_pos q55 ?_
                  obtain ⟨r53, h56, p57, p58, p59⟩ := T_M_numberAt dk (r38 + 10) (by assumption) (by (try clear ih); (first | assumption | (dsimp only; first | assumption | grind) | grind)) (by (try clear ih); (first | assumption | (dsimp only; first | assumption | grind) | grind))
                  refine pu_bind h56 ?_
                  clear h56
                  exact ⟨_, rfl, trivial⟩
                · refine pu_neg q55 ?_
                  obtain ⟨r51, h60, p61, p62, p63⟩ := T_M_numberAt dk (r38 + 8) (by assumption) (by (try clear ih); (first | assumption | (dsimp only; first | assumption | grind) | grind)) (by (try clear ih); (first | assumption | (dsimp only; first | assumption | grind) | grind))
                  refine pu_bind h60 ?_
                  clear h60
                  exact ⟨_, rfl, trivial⟩
        · refine pu_neg q9 ?_
          obtain ⟨r12, h64, p65, p66, p67⟩ := T_M_place dk mh x3 (by assumption)
          refine pu_bind h64 ?_
          clear h64
          by_cases q68 : 3 ≤ x2
          · refine pu_pos q68 ?_
            by_cases q69 : x2 = 3
            · refine pu_pos q69 ?_
              exact T_M_list_L192 100000000000 on dd mh dk 0 sp x3 0 (by assumption) (by (try clear ih); (first | assumption | (dsimp only; first | assumption | grind) | grind)) (tmz _ _)
            · refine pu_neg q69 ?_
              by_cases q70 : 20 ≤ x2
              · refine pu_pos q70 ?_
                obtain ⟨r17, h71, p72⟩ := T_M_letter dk mh x3 (x2 - 20) (by assumption) (by (try clear ih); (first | assumption | (dsimp only; first | assumption | grind) | grind))
                refine pu_bind h71 ?_
                clear h71
                by_cases q73 : r17 = 0
                · refine pu_pos q73 ?_
                  exact ⟨_, rfl, trivial⟩
                · refine pu_neg q73 ?_
                  exact ⟨_, rfl, trivial⟩
              · refine pu_neg q70 ?_
                obtain ⟨r20, h74, p75⟩ := T_M_shortLetter dk r12 (x2 - 10) (by assumption) (by (try clear ih); (first | assumption | (dsimp only; first | assumption | grind) | grind)) (by (try clear ih); (first | assumption | (dsimp only; first | assumption | grind) | grind)) (by (try clear ih); (first | assumption | (dsimp only; first | assumption | grind) | grind)) (by (try clear ih); (first | assumption | (dsimp only; first | assumption | grind) | grind))
                refine pu_bind h74 ?_
                clear h74
                by_cases q76 : r20 = 0
                · refine pu_pos q76 ?_
                  exact ⟨_, rfl, trivial⟩
                · refine pu_neg q76 ?_
                  exact ⟨_, rfl, trivial⟩
          · refine pu_neg q68 ?_
            by_cases q77 : x2 = 0
            · refine pu_pos q77 ?_
              refine pu_pos (ti 2240 (by (try clear ih); (first | assumption | (dsimp only; first | assumption | grind) | grind)) (by (try clear ih); (first | assumption | (dsimp only; first | assumption | grind) | grind)) rfl) ?_
              have a78 := ((by assumption) : ta 0 255 dk) (r12 + 6).toNatClampNeg
              exact ⟨_, rfl, trivial⟩
            · refine pu_neg q77 ?_
              by_cases q79 : x2 = 1
              · refine pu_pos q79 ?_
                obtain ⟨r31, h80, p81, p82, p83⟩ := T_M_numberAt dk (r12 + 10) (by assumption) (by (try clear ih); (first | assumption | (dsimp only; first | assumption | grind) | grind)) (by (try clear ih); (first | assumption | (dsimp only; first | assumption | grind) | grind))
                refine pu_bind h80 ?_
                clear h80
                exact ⟨_, rfl, trivial⟩
              · refine pu_neg q79 ?_
                obtain ⟨r29, h84, p85, p86, p87⟩ := T_M_numberAt dk (r12 + 8) (by assumption) (by (try clear ih); (first | assumption | (dsimp only; first | assumption | grind) | grind)) (by (try clear ih); (first | assumption | (dsimp only; first | assumption | grind) | grind))
                refine pu_bind h84 ?_
                clear h84
                exact ⟨_, rfl, trivial⟩
      · refine pu_neg q6 ?_
        exact ⟨_, rfl, trivial⟩
    · refine pu_neg q5 ?_
      obtain ⟨r80, h88, p89, p90, p91⟩ := T_M_place dk mh x5 (by assumption)
      refine pu_bind h88 ?_
      clear h88
      obtain ⟨r82, h92, p93⟩ := T_M_isNamed dk r80 (by assumption) (by (try clear ih); (first | assumption | (dsimp only; first | assumption | grind) | grind)) (by (try clear ih); (first | assumption | (dsimp only; first | assumption | grind) | grind))
      refine pu_bind h92 ?_
      clear h92
      by_cases q94 : r82 = 0
      · refine pu_pos q94 ?_
        exact ih on dd mh dk th sp x1 x2 x3 x4 (x5 + 1) (by assumption) (by (try clear ih); (first | assumption | (dsimp only; first | assumption | grind) | grind)) (tm1 (by (try clear ih); (first | assumption | (dsimp only; first | assumption | grind) | grind)) hm)
      · refine pu_neg q94 ?_
        by_cases q95 : x4 = x1
        · refine pu_pos q95 ?_
          exact ih on dd mh dk th sp x1 x2 x5 (x4 + 1) (x5 + 1) (by assumption) (by (try clear ih); (first | assumption | (dsimp only; first | assumption | grind) | grind)) (tm1 (by (try clear ih); (first | assumption | (dsimp only; first | assumption | grind) | grind)) hm)
        · refine pu_neg q95 ?_
          exact ih on dd mh dk th sp x1 x2 x3 (x4 + 1) (x5 + 1) (by assumption) (by (try clear ih); (first | assumption | (dsimp only; first | assumption | grind) | grind)) (tm1 (by (try clear ih); (first | assumption | (dsimp only; first | assumption | grind) | grind)) hm)
set_option maxHeartbeats 4000000 in
theorem T_M_list (on : Int32) (dd : Int32) (mh : Int32) (dk : Nat → Int32) (th : Int32) (sp : Int32) (x1 : Int32) (x2 : Int32) (h0_ : ta 0 255 dk) : ∃ r : Int32 × Int32 × Int32, f_M_list on dd mh dk th sp x1 x2 = some r ∧ True := by
  rw [f_M_list]
  obtain ⟨r1, h1, p2⟩ := T_M_ready on dd th sp 
  refine pu_bind h1 ?_
  clear h1
  by_cases q3 : r1.1 = 0
  · refine pu_pos q3 ?_
    exact ⟨_, rfl, trivial⟩
  · refine pu_neg q3 ?_
    exact T_M_list_L17 100000000000 on r1.2.1 mh dk r1.2.2 sp x1 x2 (-1) 0 0 (by assumption) (by (first | assumption | (dsimp only; first | assumption | grind) | grind)) (tmz _ _)
set_option maxHeartbeats 4000000 in
theorem T_M_cut (on : Int32) (cu : Int32) (th : Int32) (x1 : Int32)  : ∃ r : Int32 × Int32 × Int32, f_M_cut on cu th x1 = some r ∧ (r.1 = 0 ∨ r.1 = 1) := by
  rw [f_M_cut]
  by_cases q1 : x1 < 0
  · refine pu_pos q1 ?_
    exact ⟨_, rfl, (by (first | assumption | (dsimp only; first | assumption | grind) | grind))⟩
  · refine pu_neg q1 ?_
    by_cases q2 : on = 0
    · refine pu_pos q2 ?_
      exact ⟨_, rfl, (by (first | assumption | (dsimp only; first | assumption | grind) | grind))⟩
    · refine pu_neg q2 ?_
      exact ⟨_, rfl, (by (first | assumption | (dsimp only; first | assumption | grind) | grind))⟩
set_option maxHeartbeats 4000000 in
theorem T_M_power (on : Int32) (th : Int32)  : ∃ r : Int32 × Int32 × Int32, f_M_power on th = some r ∧ (r.1 = 0 ∨ r.1 = 1) := by
  rw [f_M_power]
  by_cases q1 : on = 0
  · refine pu_pos q1 ?_
    exact ⟨_, rfl, (by (first | assumption | (dsimp only; first | assumption | grind) | grind))⟩
  · refine pu_neg q1 ?_
    exact ⟨_, rfl, (by (first | assumption | (dsimp only; first | assumption | grind) | grind))⟩
set_option maxHeartbeats 4000000 in
theorem T_M_fix (w : am_MS) (mf : Int32) (x1 : Int32) (x2 : Int32) (h0_ : 0 ≤ w.2.2.2.2.1) (h1_ : w.2.2.2.2.1 ≤ 26) (h2_ : ta 0 255 w.2.2.2.2.2.2.2.1) (h3_ : ta 0 2224 w.2.2.2.2.2.2.2.2) (h4_ : 0 ≤ x1) (h5_ : x1 ≤ 63) : ∃ r : am_MS × Int32, f_M_fix w mf x1 x2 = some r ∧ 0 ≤ r.1.2.2.2.2.1 ∧ r.1.2.2.2.2.1 ≤ 26 ∧ ta 0 255 r.1.2.2.2.2.2.2.2.1 ∧ ta 0 2224 r.1.2.2.2.2.2.2.2.2 ∧ ts w r.1 x1 x2 := by
  rw [f_M_fix]
  obtain ⟨r1, h1, p2, p3, p4, p5, p6⟩ := T_M_set w x1 x2 (by (first | assumption | (dsimp only; first | assumption | grind) | grind)) (by (first | assumption | (dsimp only; first | assumption | grind) | grind)) (by assumption) (by assumption) (by (first | assumption | (dsimp only; first | assumption | grind) | grind)) (by (first | assumption | (dsimp only; first | assumption | grind) | grind))
  refine pu_bind h1 ?_
  clear h1
  exact ⟨_, rfl, (by (first | assumption | (dsimp only; first | assumption | grind) | grind)), (by (first | assumption | (dsimp only; first | assumption | grind) | grind)), (by assumption), (by assumption), (by assumption)⟩
set_option maxHeartbeats 4000000 in
theorem T_M_mendTables_L61 : ∀ (fuel : Nat) (w : am_MS) (mf : Int32) (x1 : Int32), 0 ≤ w.2.2.2.2.1 → w.2.2.2.2.1 ≤ 26 → ta 0 255 w.2.2.2.2.2.2.2.1 → ta 0 2224 w.2.2.2.2.2.2.2.2 → 0 ≤ x1 → tT x1.toNatClampNeg w → tm 64 x1 fuel → ∃ r : am_MS × Int32, f_M_mendTables_L61 fuel w mf x1 = some r ∧ 0 ≤ r.1.2.2.2.2.1 ∧ r.1.2.2.2.2.1 ≤ 26 ∧ ta 0 255 r.1.2.2.2.2.2.2.2.1 ∧ ta 0 2224 r.1.2.2.2.2.2.2.2.2 ∧ tT 64 r.1 := by
  intro fuel
  induction fuel with
  | zero =>
    intro w mf x1 h0_ h1_ h2_ h3_ h4_ h5_ hm
    exact (tm0 hm).elim
  | succ fuel ih =>
    intro w mf x1 h0_ h1_ h2_ h3_ h4_ h5_ hm
    rw [f_M_mendTables_L61]
    by_cases q1 : 64 ≤ x1
    · refine pu_pos q1 ?_
      exact ⟨_, rfl, (by (try clear ih); (first | assumption | (dsimp only; first | assumption | grind) | grind)), (by (try clear ih); (first | assumption | (dsimp only; first | assumption | grind) | grind)), (by assumption), (by assumption), (by first | assumption | exact tT_d (by assumption) | exact tT_s (by assumption) (Nat.le_refl _) (by assumption) | exact tT_k (by assumption) (Nat.le_refl _) (by assumption) | exact tT_k (tn_x (by assumption) (by (try clear ih); (first | assumption | (dsimp only; first | assumption | grind) | grind))) (Nat.le_refl _) (by assumption) | exact tT_e (by assumption) (by assumption) (by assumption))⟩
    · refine pu_neg q1 ?_
      by_cases q2 : w.2.1 = 0
      · refine pu_pos q2 ?_
        obtain ⟨r4, h3, p4, p5, p6⟩ := T_M_cell w.2.2.2.2.2.2.2.1 x1 (by assumption) (by (try clear ih); (first | assumption | (dsimp only; first | assumption | grind) | grind)) (by (try clear ih); (first | assumption | (dsimp only; first | assumption | grind) | grind))
        refine pu_bind h3 ?_
        clear h3
        by_cases q7 : 2 ≤ x1
        · refine pu_pos q7 ?_
          by_cases q8 : r4 = 1
          · refine pu_pos q8 ?_
            obtain ⟨r8, h9, p10, p11, p12, p13, p14⟩ := T_M_fix w mf x1 65535 (by (try clear ih); (first | assumption | (dsimp only; first | assumption | grind) | grind)) (by (try clear ih); (first | assumption | (dsimp only; first | assumption | grind) | grind)) (by assumption) (by assumption) (by (try clear ih); (first | assumption | (dsimp only; first | assumption | grind) | grind)) (by (try clear ih); (first | assumption | (dsimp only; first | assumption | grind) | grind))
            refine pu_bind h9 ?_
            clear h9
            exact ih r8.1 r8.2 (x1 + 1) (by (try clear ih); (first | assumption | (dsimp only; first | assumption | grind) | grind)) (by (try clear ih); (first | assumption | (dsimp only; first | assumption | grind) | grind)) (by assumption) (by assumption) (by (try clear ih); (first | assumption | (dsimp only; first | assumption | grind) | grind)) (by first | exact tT_0 | exact tT_2 (by assumption) (by assumption) (by assumption) (by assumption) | exact tT_1 (by assumption) (by assumption) (by assumption) (by (try clear ih); (first | assumption | (dsimp only; first | assumption | grind) | grind))) (tm1 (by (try clear ih); (first | assumption | (dsimp only; first | assumption | grind) | grind)) hm)
          · refine pu_neg q8 ?_
            obtain ⟨r10, h15, p16⟩ := T_M_in r4 64 65534 
            refine pu_bind h15 ?_
            clear h15
            by_cases q17 : r10 = 0
            · refine pu_pos q17 ?_
              exact ih w mf (x1 + 1) (by (try clear ih); (first | assumption | (dsimp only; first | assumption | grind) | grind)) (by (try clear ih); (first | assumption | (dsimp only; first | assumption | grind) | grind)) (by assumption) (by assumption) (by (try clear ih); (first | assumption | (dsimp only; first | assumption | grind) | grind)) (by first | exact tT_0 | exact tT_2 (by assumption) (by assumption) (by assumption) (by assumption) | exact tT_1 (by assumption) (by assumption) (by assumption) (by (try clear ih); (first | assumption | (dsimp only; first | assumption | grind) | grind))) (tm1 (by (try clear ih); (first | assumption | (dsimp only; first | assumption | grind) | grind)) hm)
            · refine pu_neg q17 ?_
              obtain ⟨r13, h18, p19, p20, p21, p22, p23⟩ := T_M_fix w mf x1 65535 (by (try clear ih); (first | assumption | (dsimp only; first | assumption | grind) | grind)) (by (try clear ih); (first | assumption | (dsimp only; first | assumption | grind) | grind)) (by assumption) (by assumption) (by (try clear ih); (first | assumption | (dsimp only; first | assumption | grind) | grind)) (by (try clear ih); (first | assumption | (dsimp only; first | assumption | grind) | grind))
              refine pu_bind h18 ?_
              clear h18
              exact ih r13.1 r13.2 (x1 + 1) (by (try clear ih); (first | assumption | (dsimp only; first | assumption | grind) | grind)) (by (try clear ih); (first | assumption | (dsimp only; first | assumption | grind) | grind)) (by assumption) (by assumption) (by (try clear ih); (first | assumption | (dsimp only; first | assumption | grind) | grind)) (by first | exact tT_0 | exact tT_2 (by assumption) (by assumption) (by assumption) (by assumption) | exact tT_1 (by assumption) (by assumption) (by assumption) (by (try clear ih); (first | assumption | (dsimp only; first | assumption | grind) | grind))) (tm1 (by (try clear ih); (first | assumption | (dsimp only; first | assumption | grind) | grind)) hm)
        · refine pu_neg q7 ?_
          by_cases q24 : r4 = 65535
          · refine pu_pos q24 ?_
            exact ih w mf (x1 + 1) (by (try clear ih); (first | assumption | (dsimp only; first | assumption | grind) | grind)) (by (try clear ih); (first | assumption | (dsimp only; first | assumption | grind) | grind)) (by assumption) (by assumption) (by (try clear ih); (first | assumption | (dsimp only; first | assumption | grind) | grind)) (by first | exact tT_0 | exact tT_2 (by assumption) (by assumption) (by assumption) (by assumption) | exact tT_1 (by assumption) (by assumption) (by assumption) (by (try clear ih); (first | assumption | (dsimp only; first | assumption | grind) | grind))) (tm1 (by (try clear ih); (first | assumption | (dsimp only; first | assumption | grind) | grind)) hm)
          · refine pu_neg q24 ?_
            obtain ⟨r16, h25, p26, p27, p28, p29, p30⟩ := T_M_fix w mf x1 65535 (by (try clear ih); (first | assumption | (dsimp only; first | assumption | grind) | grind)) (by (try clear ih); (first | assumption | (dsimp only; first | assumption | grind) | grind)) (by assumption) (by assumption) (by (try clear ih); (first | assumption | (dsimp only; first | assumption | grind) | grind)) (by (try clear ih); (first | assumption | (dsimp only; first | assumption | grind) | grind))
            refine pu_bind h25 ?_
            clear h25
            exact ih r16.1 r16.2 (x1 + 1) (by (try clear ih); (first | assumption | (dsimp only; first | assumption | grind) | grind)) (by (try clear ih); (first | assumption | (dsimp only; first | assumption | grind) | grind)) (by assumption) (by assumption) (by (try clear ih); (first | assumption | (dsimp only; first | assumption | grind) | grind)) (by first | exact tT_0 | exact tT_2 (by assumption) (by assumption) (by assumption) (by assumption) | exact tT_1 (by assumption) (by assumption) (by assumption) (by (try clear ih); (first | assumption | (dsimp only; first | assumption | grind) | grind))) (tm1 (by (try clear ih); (first | assumption | (dsimp only; first | assumption | grind) | grind)) hm)
      · refine pu_neg q2 ?_
        exact ⟨_, rfl, (by (try clear ih); (first | assumption | (dsimp only; first | assumption | grind) | grind)), (by (try clear ih); (first | assumption | (dsimp only; first | assumption | grind) | grind)), (by assumption), (by assumption), (by first | assumption | exact tT_d (by assumption) | exact tT_s (by assumption) (Nat.le_refl _) (by assumption) | exact tT_k (by assumption) (Nat.le_refl _) (by assumption) | exact tT_k (tn_x (by assumption) (by (try clear ih); (first | assumption | (dsimp only; first | assumption | grind) | grind))) (Nat.le_refl _) (by assumption) | exact tT_e (by assumption) (by assumption) (by assumption))⟩
set_option maxHeartbeats 4000000 in
theorem T_M_mendTables_L2 : ∀ (fuel : Nat) (w : am_MS) (mf : Int32) (x1 : Int32), 0 ≤ w.2.2.2.2.1 → w.2.2.2.2.1 ≤ 26 → ta 0 255 w.2.2.2.2.2.2.2.1 → ta 0 2224 w.2.2.2.2.2.2.2.2 → 0 ≤ x1 → tm 64 x1 fuel → ∃ r : am_MS × Int32, f_M_mendTables_L2 fuel w mf x1 = some r ∧ 0 ≤ r.1.2.2.2.2.1 ∧ r.1.2.2.2.2.1 ≤ 26 ∧ ta 0 255 r.1.2.2.2.2.2.2.2.1 ∧ ta 0 2224 r.1.2.2.2.2.2.2.2.2 ∧ tT 64 r.1 := by
  intro fuel
  induction fuel with
  | zero =>
    intro w mf x1 h0_ h1_ h2_ h3_ h4_ hm
    exact (tm0 hm).elim
  | succ fuel ih =>
    intro w mf x1 h0_ h1_ h2_ h3_ h4_ hm
    rw [f_M_mendTables_L2]
    by_cases q1 : 64 ≤ x1
    · refine pu_pos q1 ?_
      exact T_M_mendTables_L61 100000000000 w mf 0 (by (try clear ih); (first | assumption | (dsimp only; first | assumption | grind) | grind)) (by (try clear ih); (first | assumption | (dsimp only; first | assumption | grind) | grind)) (by assumption) (by assumption) (by (try clear ih); (first | assumption | (dsimp only; first | assumption | grind) | grind)) (by first | exact tT_0 | exact tT_2 (by assumption) (by assumption) (by assumption) (by assumption) | exact tT_1 (by assumption) (by assumption) (by assumption) (by (try clear ih); (first | assumption | (dsimp only; first | assumption | grind) | grind))) (tmz _ _)
    · refine pu_neg q1 ?_
      obtain ⟨r18, h2, p3, p4, p5⟩ := T_M_numberAt w.2.2.2.2.2.2.2.1 (128 + (2 * x1)) (by assumption) (by (try clear ih); (first | assumption | (dsimp only; first | assumption | grind) | grind)) (by (try clear ih); (first | assumption | (dsimp only; first | assumption | grind) | grind))
      refine pu_bind h2 ?_
      clear h2
      obtain ⟨r20, h6, p7, p8, p9⟩ := T_M_cell w.2.2.2.2.2.2.2.1 x1 (by assumption) (by (try clear ih); (first | assumption | (dsimp only; first | assumption | grind) | grind)) (by (try clear ih); (first | assumption | (dsimp only; first | assumption | grind) | grind))
      refine pu_bind h6 ?_
      clear h6
      by_cases q10 : r18 = r20
      · refine pu_pos q10 ?_
        exact ih w mf (x1 + 1) (by (try clear ih); (first | assumption | (dsimp only; first | assumption | grind) | grind)) (by (try clear ih); (first | assumption | (dsimp only; first | assumption | grind) | grind)) (by assumption) (by assumption) (by (try clear ih); (first | assumption | (dsimp only; first | assumption | grind) | grind)) (tm1 (by (try clear ih); (first | assumption | (dsimp only; first | assumption | grind) | grind)) hm)
      · refine pu_neg q10 ?_
        obtain ⟨r23, h11, p12, p13, p14⟩ := T_M_cell w.2.2.2.2.2.2.2.1 x1 (by assumption) (by (try clear ih); (first | assumption | (dsimp only; first | assumption | grind) | grind)) (by (try clear ih); (first | assumption | (dsimp only; first | assumption | grind) | grind))
        refine pu_bind h11 ?_
        clear h11
        obtain ⟨r25, h15, p16, p17, p18, p19, p20⟩ := T_M_writeNumber w (128 + (2 * x1)) r23 (by (try clear ih); (first | assumption | (dsimp only; first | assumption | grind) | grind)) (by (try clear ih); (first | assumption | (dsimp only; first | assumption | grind) | grind)) (by assumption) (by assumption) (by (try clear ih); (first | assumption | (dsimp only; first | assumption | grind) | grind)) (by (try clear ih); (first | assumption | (dsimp only; first | assumption | grind) | grind))
        refine pu_bind h15 ?_
        clear h15
        exact ih r25 (mf + 1) (x1 + 1) (by (try clear ih); (first | assumption | (dsimp only; first | assumption | grind) | grind)) (by (try clear ih); (first | assumption | (dsimp only; first | assumption | grind) | grind)) (by assumption) (by assumption) (by (try clear ih); (first | assumption | (dsimp only; first | assumption | grind) | grind)) (tm1 (by (try clear ih); (first | assumption | (dsimp only; first | assumption | grind) | grind)) hm)
