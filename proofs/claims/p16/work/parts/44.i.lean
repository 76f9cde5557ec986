set_option maxHeartbeats 4000000 in
theorem T_M_write_L99 : ∀ (fuel : Nat) (w : am_MS) (th : Int32) (sp : Int32) (ps : Nat → Int32) (x1 : Int32) (x2 : Int64) (x4 : Int32) (x5 : Int32) (x6 : Int32) (x7 : Int32) (x8 : Int32), 0 ≤ w.2.2.2.2.1 → w.2.2.2.2.1 ≤ 26 → ta 0 255 w.2.2.2.2.2.2.2.1 → ta 0 2224 w.2.2.2.2.2.2.2.2 → 0 ≤ x1 → x1 ≤ 3 → 0 ≤ x5 → x5 ≤ 2224 → 0 ≤ x7 → x7 ≤ 64 → (x6 + x4) ≤ 1024 → tW x7 x8 fuel → ∃ r : Int32 × am_MS × Int32 × (Nat → Int32), f_M_write_L99 fuel w th sp ps x1 x2 x4 x5 x6 x7 x8 = some r ∧ 0 ≤ r.2.1.2.2.2.2.1 ∧ r.2.1.2.2.2.2.1 ≤ 26 ∧ ta 0 255 r.2.1.2.2.2.2.2.2.2.1 ∧ ta 0 2224 r.2.1.2.2.2.2.2.2.2.2 := by
  intro fuel
  induction fuel with
  | zero =>
    intro w th sp ps x1 x2 x4 x5 x6 x7 x8 h0_ h1_ h2_ h3_ h4_ h5_ h6_ h7_ h8_ h9_ h10_ hm
    exact absurd hm.1 (Nat.lt_irrefl _)
  | succ fuel ih =>
    intro w th sp ps x1 x2 x4 x5 x6 x7 x8 h0_ h1_ h2_ h3_ h4_ h5_ h6_ h7_ h8_ h9_ h10_ hm
    rw [f_M_write_L99]
    by_cases q1 : x8 = 0
    · refine pu_pos q1 ?_
      by_cases q2 : x4 ≤ ((32 * x7) - x6)
      · refine pu_pos q2 ?_
        by_cases q3 : w.2.1 = 0
        · refine pu_pos q3 ?_
          by_cases q4 : 0 < x4
          · refine pu_pos q4 ?_
            obtain ⟨r25, h5, p6, p7, p8, p9⟩ := T_M_fill w x5 x6 x4 x2 x4 (by (try clear ih); (first | assumption | (dsimp only; first | assumption | grind) | grind)) (by (try clear ih); (first | assumption | (dsimp only; first | assumption | grind) | grind)) (by assumption) (by assumption) (by (try clear ih); (first | assumption | (dsimp only; first | assumption | grind) | grind)) (by (try clear ih); (first | assumption | (dsimp only; first | assumption | grind) | grind))
            refine pu_bind h5 ?_
            clear h5
            obtain ⟨r27, h10, p11, p12, p13⟩ := T_M_numberAt r25.2.2.2.2.2.2.2.1 (x5 + 10) (by assumption) (by (try clear ih); (first | assumption | (dsimp only; first | assumption | grind) | grind)) (by (try clear ih); (first | assumption | (dsimp only; first | assumption | grind) | grind))
            refine pu_bind h10 ?_
            clear h10
            by_cases q14 : (x6 + x4) ≤ r27
            · refine pu_pos q14 ?_
              by_cases q15 : r25.2.1 = 0
              · refine pu_pos q15 ?_
                refine pu_pos (ti 4 (by (try clear ih); (first | assumption | (dsimp only; first | assumption | grind) | grind)) (by (try clear ih); (first | assumption | (dsimp only; first | assumption | grind) | grind)) rfl) ?_
                exact ⟨_, rfl, (by (try clear ih); (first | assumption | (dsimp only; first | assumption | grind) | grind)), (by (try clear ih); (first | assumption | (dsimp only; first | assumption | grind) | grind)), (by assumption), (by assumption)⟩
              · refine pu_neg q15 ?_
                exact ⟨_, rfl, (by (try clear ih); (first | assumption | (dsimp only; first | assumption | grind) | grind)), (by (try clear ih); (first | assumption | (dsimp only; first | assumption | grind) | grind)), (by assumption), (by assumption)⟩
            · refine pu_neg q14 ?_
              obtain ⟨r34, h16, p17, p18, p19, p20, p21⟩ := T_M_writeNumber r25 (x5 + 10) (x6 + x4) (by (try clear ih); (first | assumption | (dsimp only; first | assumption | grind) | grind)) (by (try clear ih); (first | assumption | (dsimp only; first | assumption | grind) | grind)) (by assumption) (by assumption) (by (try clear ih); (first | assumption | (dsimp only; first | assumption | grind) | grind)) (by (try clear ih); (first | assumption | (dsimp only; first | assumption | grind) | grind))
              refine pu_bind h16 ?_
              clear h16
              by_cases q22 : r34.2.1 = 0
              · refine pu_pos q22 ?_
                refine pu_pos (ti 4 (by (try clear ih); (first | assumption | (dsimp only; first | assumption | grind) | grind)) (by (try clear ih); (first | assumption | (dsimp only; first | assumption | grind) | grind)) rfl) ?_
                exact ⟨_, rfl, (by (try clear ih); (first | assumption | (dsimp only; first | assumption | grind) | grind)), (by (try clear ih); (first | assumption | (dsimp only; first | assumption | grind) | grind)), (by assumption), (by assumption)⟩
              · refine pu_neg q22 ?_
                exact ⟨_, rfl, (by (try clear ih); (first | assumption | (dsimp only; first | assumption | grind) | grind)), (by (try clear ih); (first | assumption | (dsimp only; first | assumption | grind) | grind)), (by assumption), (by assumption)⟩
          · refine pu_neg q4 ?_
            exact ⟨_, rfl, (by (try clear ih); (first | assumption | (dsimp only; first | assumption | grind) | grind)), (by (try clear ih); (first | assumption | (dsimp only; first | assumption | grind) | grind)), (by assumption), (by assumption)⟩
        · refine pu_neg q3 ?_
          exact ⟨_, rfl, (by (try clear ih); (first | assumption | (dsimp only; first | assumption | grind) | grind)), (by (try clear ih); (first | assumption | (dsimp only; first | assumption | grind) | grind)), (by assumption), (by assumption)⟩
      · refine pu_neg q2 ?_
        by_cases q23 : w.2.1 = 0
        · refine pu_pos q23 ?_
          by_cases q24 : 0 < ((32 * x7) - x6)
          · refine pu_pos q24 ?_
            obtain ⟨r45, h25, p26, p27, p28, p29⟩ := T_M_fill w x5 x6 ((32 * x7) - x6) x2 x4 (by (try clear ih); (first | assumption | (dsimp only; first | assumption | grind) | grind)) (by (try clear ih); (first | assumption | (dsimp only; first | assumption | grind) | grind)) (by assumption) (by assumption) (by (try clear ih); (first | assumption | (dsimp only; first | assumption | grind) | grind)) (by (try clear ih); (first | assumption | (dsimp only; first | assumption | grind) | grind))
            refine pu_bind h25 ?_
            clear h25
            obtain ⟨r47, h30, p31, p32, p33⟩ := T_M_numberAt r45.2.2.2.2.2.2.2.1 (x5 + 10) (by assumption) (by (try clear ih); (first | assumption | (dsimp only; first | assumption | grind) | grind)) (by (try clear ih); (first | assumption | (dsimp only; first | assumption | grind) | grind))
            refine pu_bind h30 ?_
            clear h30
            by_cases q34 : (x6 + ((32 * x7) - x6)) ≤ r47
            · refine pu_pos q34 ?_
              by_cases q35 : r45.2.1 = 0
              · refine pu_pos q35 ?_
                refine pu_pos (ti 4 (by (try clear ih); (first | assumption | (dsimp only; first | assumption | grind) | grind)) (by (try clear ih); (first | assumption | (dsimp only; first | assumption | grind) | grind)) rfl) ?_
                exact ⟨_, rfl, (by (try clear ih); (first | assumption | (dsimp only; first | assumption | grind) | grind)), (by (try clear ih); (first | assumption | (dsimp only; first | assumption | grind) | grind)), (by assumption), (by assumption)⟩
              · refine pu_neg q35 ?_
                exact ⟨_, rfl, (by (try clear ih); (first | assumption | (dsimp only; first | assumption | grind) | grind)), (by (try clear ih); (first | assumption | (dsimp only; first | assumption | grind) | grind)), (by assumption), (by assumption)⟩
            · refine pu_neg q34 ?_
              obtain ⟨r54, h36, p37, p38, p39, p40, p41⟩ := T_M_writeNumber r45 (x5 + 10) (x6 + ((32 * x7) - x6)) (by (try clear ih); (first | assumption | (dsimp only; first | assumption | grind) | grind)) (by (try clear ih); (first | assumption | (dsimp only; first | assumption | grind) | grind)) (by assumption) (by assumption) (by (try clear ih); (first | assumption | (dsimp only; first | assumption | grind) | grind)) (by (try clear ih); (first | assumption | (dsimp only; first | assumption | grind) | grind))
              refine pu_bind h36 ?_
              clear h36
              by_cases q42 : r54.2.1 = 0
              · refine pu_pos q42 ?_
                refine pu_pos (ti 4 (by (try clear ih); (first | assumption | (dsimp only; first | assumption | grind) | grind)) (by (try clear ih); (first | assumption | (dsimp only; first | assumption | grind) | grind)) rfl) ?_
                exact ⟨_, rfl, (by (try clear ih); (first | assumption | (dsimp only; first | assumption | grind) | grind)), (by (try clear ih); (first | assumption | (dsimp only; first | assumption | grind) | grind)), (by assumption), (by assumption)⟩
              · refine pu_neg q42 ?_
                exact ⟨_, rfl, (by (try clear ih); (first | assumption | (dsimp only; first | assumption | grind) | grind)), (by (try clear ih); (first | assumption | (dsimp only; first | assumption | grind) | grind)), (by assumption), (by assumption)⟩
          · refine pu_neg q24 ?_
            exact ⟨_, rfl, (by (try clear ih); (first | assumption | (dsimp only; first | assumption | grind) | grind)), (by (try clear ih); (first | assumption | (dsimp only; first | assumption | grind) | grind)), (by assumption), (by assumption)⟩
        · refine pu_neg q23 ?_
          exact ⟨_, rfl, (by (try clear ih); (first | assumption | (dsimp only; first | assumption | grind) | grind)), (by (try clear ih); (first | assumption | (dsimp only; first | assumption | grind) | grind)), (by assumption), (by assumption)⟩
    · refine pu_neg q1 ?_
      by_cases q43 : (x6 + x4) ≤ (32 * x7)
      · refine pu_pos q43 ?_
        by_cases q44 : x4 ≤ ((32 * x7) - x6)
        · refine pu_pos q44 ?_
          by_cases q45 : w.2.1 = 0
          · refine pu_pos q45 ?_
            by_cases q46 : 0 < x4
            · refine pu_pos q46 ?_
              obtain ⟨r67, h47, p48, p49, p50, p51⟩ := T_M_fill w x5 x6 x4 x2 x4 (by (try clear ih); (first | assumption | (dsimp only; first | assumption | grind) | grind)) (by (try clear ih); (first | assumption | (dsimp only; first | assumption | grind) | grind)) (by assumption) (by assumption) (by (try clear ih); (first | assumption | (dsimp only; first | assumption | grind) | grind)) (by (try clear ih); (first | assumption | (dsimp only; first | assumption | grind) | grind))
              refine pu_bind h47 ?_
              clear h47
              obtain ⟨r69, h52, p53, p54, p55⟩ := T_M_numberAt r67.2.2.2.2.2.2.2.1 (x5 + 10) (by assumption) (by (try clear ih); (first | assumption | (dsimp only; first | assumption | grind) | grind)) (by (try clear ih); (first | assumption | (dsimp only; first | assumption | grind) | grind))
              refine pu_bind h52 ?_
              clear h52
              by_cases q56 : (x6 + x4) ≤ r69
              · refine pu_pos q56 ?_
                by_cases q57 : r67.2.1 = 0
                · refine pu_pos q57 ?_
                  refine pu_pos (ti 4 (by (try clear ih); (first | assumption | (dsimp only; first | assumption | grind) | grind)) (by (try clear ih); (first | assumption | (dsimp only; first | assumption | grind) | grind)) rfl) ?_
                  exact ⟨_, rfl, (by (try clear ih); (first | assumption | (dsimp only; first | assumption | grind) | grind)), (by (try clear ih); (first | assumption | (dsimp only; first | assumption | grind) | grind)), (by assumption), (by assumption)⟩
                · refine pu_neg q57 ?_
                  exact ⟨_, rfl, (by (try clear ih); (first | assumption | (dsimp only; first | assumption | grind) | grind)), (by (try clear ih); (first | assumption | (dsimp only; first | assumption | grind) | grind)), (by assumption), (by assumption)⟩
              · refine pu_neg q56 ?_
                obtain ⟨r76, h58, p59, p60, p61, p62, p63⟩ := T_M_writeNumber r67 (x5 + 10) (x6 + x4) (by (try clear ih); (first | assumption | (dsimp only; first | assumption | grind) | grind)) (by (try clear ih); (first | assumption | (dsimp only; first | assumption | grind) | grind)) (by assumption) (by assumption) (by (try clear ih); (first | assumption | (dsimp only; first | assumption | grind) | grind)) (by (try clear ih); (first | assumption | (dsimp only; first | assumption | grind) | grind))
                refine pu_bind h58 ?_
                clear h58
                by_cases q64 : r76.2.1 = 0
                · refine pu_pos q64 ?_
                  refine pu_pos (ti 4 (by (try clear ih); (first | assumption | (dsimp only; first | assumption | grind) | grind)) (by (try clear ih); (first | assumption | (dsimp only; first | assumption | grind) | grind)) rfl) ?_
                  exact ⟨_, rfl, (by (try clear ih); (first | assumption | (dsimp only; first | assumption | grind) | grind)), (by (try clear ih); (first | assumption | (dsimp only; first | assumption | grind) | grind)), (by assumption), (by assumption)⟩
                · refine pu_neg q64 ?_
                  exact ⟨_, rfl, (by (try clear ih); (first | assumption | (dsimp only; first | assumption | grind) | grind)), (by (try clear ih); (first | assumption | (dsimp only; first | assumption | grind) | grind)), (by assumption), (by assumption)⟩
            · refine pu_neg q46 ?_
              exact ⟨_, rfl, (by (try clear ih); (first | assumption | (dsimp only; first | assumption | grind) | grind)), (by (try clear ih); (first | assumption | (dsimp only; first | assumption | grind) | grind)), (by assumption), (by assumption)⟩
          · refine pu_neg q45 ?_
            exact ⟨_, rfl, (by (try clear ih); (first | assumption | (dsimp only; first | assumption | grind) | grind)), (by (try clear ih); (first | assumption | (dsimp only; first | assumption | grind) | grind)), (by assumption), (by assumption)⟩
        · refine pu_neg q44 ?_
          by_cases q65 : w.2.1 = 0
          · refine pu_pos q65 ?_
            by_cases q66 : 0 < ((32 * x7) - x6)
            · refine pu_pos q66 ?_
              obtain ⟨r87, h67, p68, p69, p70, p71⟩ := T_M_fill w x5 x6 ((32 * x7) - x6) x2 x4 (by (try clear ih); (first | assumption | (dsimp only; first | assumption | grind) | grind)) (by (try clear ih); (first | assumption | (dsimp only; first | assumption | grind) | grind)) (by assumption) (by assumption) (by (try clear ih); (first | assumption | (dsimp only; first | assumption | grind) | grind)) (by (try clear ih); (first | assumption | (dsimp only; first | assumption | grind) | grind))
              refine pu_bind h67 ?_
              clear h67
              obtain ⟨r89, h72, p73, p74, p75⟩ := T_M_numberAt r87.2.2.2.2.2.2.2.1 (x5 + 10) (by assumption) (by (try clear ih); (first | assumption | (dsimp only; first | assumption | grind) | grind)) (by (try clear ih); (first | assumption | (dsimp only; first | assumption | grind) | grind))
              refine pu_bind h72 ?_
              clear h72
              by_cases q76 : (x6 + ((32 * x7) - x6)) ≤ r89
              · refine pu_pos q76 ?_
                by_cases q77 : r87.2.1 = 0
                · refine pu_pos q77 ?_
                  refine pu_pos (ti 4 (by (try clear ih); (first | assumption | (dsimp only; first | assumption | grind) | grind)) (by (try clear ih); (first | assumption | (dsimp only; first | assumption | grind) | grind)) rfl) ?_
                  exact ⟨_, rfl, (by (try clear ih); (first | assumption | (dsimp only; first | assumption | grind) | grind)), (by (try clear ih); (first | assumption | (dsimp only; first | assumption | grind) | grind)), (by assumption), (by assumption)⟩
                · refine pu_neg q77 ?_
                  exact ⟨_, rfl, (by (try clear ih); (first | assumption | (dsimp only; first | assumption | grind) | grind)), (by (try clear ih); (first | assumption | (dsimp only; first | assumption | grind) | grind)), (by assumption), (by assumption)⟩
              · refine pu_neg q76 ?_
                obtain ⟨r96, h78, p79, p80, p81, p82, p83⟩ := T_M_writeNumber r87 (x5 + 10) (x6 + ((32 * x7) - x6)) (by (try clear ih); (first | assumption | (dsimp only; first | assumption | grind) | grind)) (by (try clear ih); (first | assumption | (dsimp only; first | assumption | grind) | grind)) (by assumption) (by assumption) (by (try clear ih); (first | assumption | (dsimp only; first | assumption | grind) | grind)) (by (try clear ih); (first | assumption | (dsimp only; first | assumption | grind) | grind))
                refine pu_bind h78 ?_
                clear h78
                by_cases q84 : r96.2.1 = 0
                · refine pu_pos q84 ?_
                  refine pu_pos (ti 4 (by (try clear ih); (first | assumption | (dsimp only; first | assumption | grind) | grind)) (by (try clear ih); (first | assumption | (dsimp only; first | assumption | grind) | grind)) rfl) ?_
                  exact ⟨_, rfl, (by (try clear ih); (first | assumption | (dsimp only; first | assumption | grind) | grind)), (by (try clear ih); (first | assumption | (dsimp only; first | assumption | grind) | grind)), (by assumption), (by assumption)⟩
                · refine pu_neg q84 ?_
                  exact ⟨_, rfl, (by (try clear ih); (first | assumption | (dsimp only; first | assumption | grind) | grind)), (by (try clear ih); (first | assumption | (dsimp only; first | assumption | grind) | grind)), (by assumption), (by assumption)⟩
            · refine pu_neg q66 ?_
              exact ⟨_, rfl, (by (try clear ih); (first | assumption | (dsimp only; first | assumption | grind) | grind)), (by (try clear ih); (first | assumption | (dsimp only; first | assumption | grind) | grind)), (by assumption), (by assumption)⟩
          · refine pu_neg q65 ?_
            exact ⟨_, rfl, (by (try clear ih); (first | assumption | (dsimp only; first | assumption | grind) | grind)), (by (try clear ih); (first | assumption | (dsimp only; first | assumption | grind) | grind)), (by assumption), (by assumption)⟩
      · refine pu_neg q43 ?_
        by_cases q85 : w.2.1 = 0
        · refine pu_pos q85 ?_
          obtain ⟨r110, h86, p87, p88, p89, p90, p91, p92⟩ := T_M_take w (by (try clear ih); (first | assumption | (dsimp only; first | assumption | grind) | grind)) (by (try clear ih); (first | assumption | (dsimp only; first | assumption | grind) | grind)) (by assumption) (by assumption)
          refine pu_bind h86 ?_
          clear h86
          by_cases q93 : r110.1 ≤ 0
          · refine pu_pos q93 ?_
            exact ih r110.2 th sp ps x1 x2 x4 x5 x6 x7 0 (by (try clear ih); (first | assumption | (dsimp only; first | assumption | grind) | grind)) (by (try clear ih); (first | assumption | (dsimp only; first | assumption | grind) | grind)) (by assumption) (by assumption) (by (try clear ih); (first | assumption | (dsimp only; first | assumption | grind) | grind)) (by (try clear ih); (first | assumption | (dsimp only; first | assumption | grind) | grind)) (by (try clear ih); (first | assumption | (dsimp only; first | assumption | grind) | grind)) (by (try clear ih); (first | assumption | (dsimp only; first | assumption | grind) | grind)) (by (try clear ih); (first | assumption | (dsimp only; first | assumption | grind) | grind)) (by (try clear ih); (first | assumption | (dsimp only; first | assumption | grind) | grind)) (by (try clear ih); (first | assumption | (dsimp only; first | assumption | grind) | grind)) (tW_0 (by (try clear ih); grind) (by assumption) hm)
          · refine pu_neg q93 ?_
            by_cases q94 : x7 = 0
            · refine pu_pos q94 ?_
              obtain ⟨r122, h95, p96, p97, p98, p99, p100⟩ := T_M_writeNumber r110.2 (x5 + 8) r110.1 (by (try clear ih); (first | assumption | (dsimp only; first | assumption | grind) | grind)) (by (try clear ih); (first | assumption | (dsimp only; first | assumption | grind) | grind)) (by assumption) (by assumption) (by (try clear ih); (first | assumption | (dsimp only; first | assumption | grind) | grind)) (by (try clear ih); (first | assumption | (dsimp only; first | assumption | grind) | grind))
              refine pu_bind h95 ?_
              clear h95
              exact ih r122 th sp ps x1 x2 x4 x5 x6 (x7 + 1) 1 (by (try clear ih); (first | assumption | (dsimp only; first | assumption | grind) | grind)) (by (try clear ih); (first | assumption | (dsimp only; first | assumption | grind) | grind)) (by assumption) (by assumption) (by (try clear ih); (first | assumption | (dsimp only; first | assumption | grind) | grind)) (by (try clear ih); (first | assumption | (dsimp only; first | assumption | grind) | grind)) (by (try clear ih); (first | assumption | (dsimp only; first | assumption | grind) | grind)) (by (try clear ih); (first | assumption | (dsimp only; first | assumption | grind) | grind)) (by (try clear ih); (first | assumption | (dsimp only; first | assumption | grind) | grind)) (by (try clear ih); (first | assumption | (dsimp only; first | assumption | grind) | grind)) (by (try clear ih); (first | assumption | (dsimp only; first | assumption | grind) | grind)) (tW_1 _ (by (try clear ih); grind) (by assumption) hm)
            · refine pu_neg q94 ?_
              obtain ⟨r116, h101, p102, p103, p104⟩ := T_M_numberAt r110.2.2.2.2.2.2.2.2.1 (x5 + 8) (by assumption) (by (try clear ih); (first | assumption | (dsimp only; first | assumption | grind) | grind)) (by (try clear ih); (first | assumption | (dsimp only; first | assumption | grind) | grind))
              refine pu_bind h101 ?_
              clear h101
              obtain ⟨r118, h105, p106⟩ := T_M_cluster r110.2.2.2.2.2.2.2.2.1 r116 (x7 - 1) (by assumption)
              refine pu_bind h105 ?_
              clear h105
              obtain ⟨r120, h107, p108, p109, p110, p111, p112⟩ := T_M_set r110.2 r118 r110.1 (by (try clear ih); (first | assumption | (dsimp only; first | assumption | grind) | grind)) (by (try clear ih); (first | assumption | (dsimp only; first | assumption | grind) | grind)) (by assumption) (by assumption) (by (try clear ih); (first | assumption | (dsimp only; first | assumption | grind) | grind)) (by (try clear ih); (first | assumption | (dsimp only; first | assumption | grind) | grind))
              refine pu_bind h107 ?_
              clear h107
              exact ih r120 th sp ps x1 x2 x4 x5 x6 (x7 + 1) 1 (by (try clear ih); (first | assumption | (dsimp only; first | assumption | grind) | grind)) (by (try clear ih); (first | assumption | (dsimp only; first | assumption | grind) | grind)) (by assumption) (by assumption) (by (try clear ih); (first | assumption | (dsimp only; first | assumption | grind) | grind)) (by (try clear ih); (first | assumption | (dsimp only; first | assumption | grind) | grind)) (by (try clear ih); (first | assumption | (dsimp only; first | assumption | grind) | grind)) (by (try clear ih); (first | assumption | (dsimp only; first | assumption | grind) | grind)) (by (try clear ih); (first | assumption | (dsimp only; first | assumption | grind) | grind)) (by (try clear ih); (first | assumption | (dsimp only; first | assumption | grind) | grind)) (by (try clear ih); (first | assumption | (dsimp only; first | assumption | grind) | grind)) (tW_1 _ (by (try clear ih); grind) (by assumption) hm)
        · refine pu_neg q85 ?_
          by_cases q113 : x4 ≤ ((32 * x7) - x6)
          · refine pu_pos q113 ?_
            exact ⟨_, rfl, (by (try clear ih); (first | assumption | (dsimp only; first | assumption | grind) | grind)), (by (try clear ih); (first | assumption | (dsimp only; first | assumption | grind) | grind)), (by assumption), (by assumption)⟩
          · refine pu_neg q113 ?_
            exact ⟨_, rfl, (by (try clear ih); (first | assumption | (dsimp only; first | assumption | grind) | grind)), (by (try clear ih); (first | assumption | (dsimp only; first | assumption | grind) | grind)), (by assumption), (by assumption)⟩
set_option maxHeartbeats 4000000 in
theorem T_M_write (w : am_MS) (th : Int32) (sp : Int32) (ps : Nat → Int32) (x1 : Int32) (x2 : Int64) (x4 : Int32) (h0_ : 0 ≤ w.2.2.2.2.1) (h1_ : w.2.2.2.2.1 ≤ 26) (h2_ : ta 0 255 w.2.2.2.2.2.2.2.1) (h3_ : ta 0 2224 w.2.2.2.2.2.2.2.2) : ∃ r : Int32 × am_MS × Int32 × (Nat → Int32), f_M_write w th sp ps x1 x2 x4 = some r ∧ 0 ≤ r.2.1.2.2.2.2.1 ∧ r.2.1.2.2.2.2.1 ≤ 26 ∧ ta 0 255 r.2.1.2.2.2.2.2.2.2.1 ∧ ta 0 2224 r.2.1.2.2.2.2.2.2.2.2 := by
  rw [f_M_write]
  obtain ⟨r1, h1, p2⟩ := T_M_ready w.1 w.2.1 th sp 
  refine pu_bind h1 ?_
  clear h1
  by_cases q3 : r1.1 = 0
  · refine pu_pos q3 ?_
    exact ⟨_, rfl, (by (first | assumption | (dsimp only; first | assumption | grind) | grind)), (by (first | assumption | (dsimp only; first | assumption | grind) | grind)), (by assumption), (by assumption)⟩
  · refine pu_neg q3 ?_
    obtain ⟨r4, h4, p5⟩ := T_M_isOpen w.2.2.2.2.2.2.2.2 x1 (by assumption)
    refine pu_bind h4 ?_
    clear h4
    by_cases q6 : r4 = 0
    · refine pu_pos q6 ?_
      exact ⟨_, rfl, (by (first | assumption | (dsimp only; first | assumption | grind) | grind)), (by (first | assumption | (dsimp only; first | assumption | grind) | grind)), (by assumption), (by assumption)⟩
    · refine pu_neg q6 ?_
      obtain ⟨r8, h7, p8⟩ := T_M_in x4 1 8 
      refine pu_bind h7 ?_
      clear h7
      by_cases q9 : r8 = 0
      · refine pu_pos q9 ?_
        exact ⟨_, rfl, (by (first | assumption | (dsimp only; first | assumption | grind) | grind)), (by (first | assumption | (dsimp only; first | assumption | grind) | grind)), (by assumption), (by assumption)⟩
      · refine pu_neg q9 ?_
        refine pu_pos (ti 4 (by (first | assumption | (dsimp only; first | assumption | grind) | grind)) (by (first | assumption | (dsimp only; first | assumption | grind) | grind)) rfl) ?_
        by_cases q10 : ((ps x1.toNatClampNeg) + x4) ≤ 1024
        · refine pu_pos q10 ?_
          refine pu_pos (ti 4 (by (first | assumption | (dsimp only; first | assumption | grind) | grind)) (by (first | assumption | (dsimp only; first | assumption | grind) | grind)) rfl) ?_
          refine pu_pos (ti 4 (by (first | assumption | (dsimp only; first | assumption | grind) | grind)) (by (first | assumption | (dsimp only; first | assumption | grind) | grind)) rfl) ?_
          have a11 := ((by assumption) : ta 0 2224 w.2.2.2.2.2.2.2.2) x1.toNatClampNeg
          obtain ⟨r16, h12, p13, p14, p15⟩ := T_M_numberAt w.2.2.2.2.2.2.2.1 ((w.2.2.2.2.2.2.2.2 x1.toNatClampNeg) + 8) (by assumption) (by (first | assumption | (dsimp only; first | assumption | grind) | grind)) (by (first | assumption | (dsimp only; first | assumption | grind) | grind))
          refine pu_bind h12 ?_
          clear h12
          obtain ⟨r18, h16, p17, p18, p19⟩ := T_M_length w.2.2.2.2.2.2.2.1 r16 (by assumption)
          refine pu_bind h16 ?_
          clear h16
          exact T_M_write_L99 100000000000 (w.1, r1.2.1, w.2.2.1, w.2.2.2.1, w.2.2.2.2.1, w.2.2.2.2.2.1, w.2.2.2.2.2.2.1, w.2.2.2.2.2.2.2.1, w.2.2.2.2.2.2.2.2) 0 sp ps x1 x2 x4 (w.2.2.2.2.2.2.2.2 x1.toNatClampNeg) (ps x1.toNatClampNeg) r18 1 (by (first | assumption | (dsimp only; first | assumption | grind) | grind)) (by (first | assumption | (dsimp only; first | assumption | grind) | grind)) (by assumption) (by assumption) (by (first | assumption | (dsimp only; first | assumption | grind) | grind)) (by (first | assumption | (dsimp only; first | assumption | grind) | grind)) (by (first | assumption | (dsimp only; first | assumption | grind) | grind)) (by (first | assumption | (dsimp only; first | assumption | grind) | grind)) (by (first | assumption | (dsimp only; first | assumption | grind) | grind)) (by (first | assumption | (dsimp only; first | assumption | grind) | grind)) (by (first | assumption | (dsimp only; first | assumption | grind) | grind)) (tW_z _ _)
        · refine pu_neg q10 ?_
          exact ⟨_, rfl, (by (first | assumption | (dsimp only; first | assumption | grind) | grind)), (by (first | assumption | (dsimp only; first | assumption | grind) | grind)), (by assumption), (by assumption)⟩
