set_option maxHeartbeats 4000000 in
theorem T_Disk_setCut (pw : Int32) (cs : Int32) (wb : Int32) (x1 : Int32)  : ∃ r : Int32 × Int32 × Int32, f_Disk_setCut pw cs wb x1 = some r ∧ (r.1 = 0 ∨ r.1 = 1) := by
  rw [f_Disk_setCut]
  by_cases q1 : x1 < 0
  · refine pu_pos q1 ?_
    exact ⟨_, rfl, (by (first | assumption | (dsimp only; first | assumption | grind) | grind))⟩
  · refine pu_neg q1 ?_
    by_cases q2 : pw = 0
    · refine pu_pos q2 ?_
      exact ⟨_, rfl, (by (first | assumption | (dsimp only; first | assumption | grind) | grind))⟩
    · refine pu_neg q2 ?_
      exact ⟨_, rfl, (by (first | assumption | (dsimp only; first | assumption | grind) | grind))⟩
set_option maxHeartbeats 4000000 in
theorem T_V_cut (pw : Int32) (cs : Int32) (wb : Int32) (x1 : Int32)  : ∃ r : Int32 × Int32 × Int32, f_V_cut pw cs wb x1 = some r ∧ (r.1 = 0 ∨ r.1 = 1) := by
  rw [f_V_cut]
  obtain ⟨r1, h1, p2⟩ := T_Disk_setCut pw cs wb x1 
  refine pu_bind h1 ?_
  clear h1
  refine pu_pos (tb (by (first | assumption | (dsimp only; first | assumption | grind) | grind))) ?_
  exact ⟨_, rfl, (by (first | assumption | (dsimp only; first | assumption | grind) | grind))⟩
set_option maxHeartbeats 4000000 in
theorem T_Disk_switchOn (pw : Int32)  : ∃ r : Int32 × Int32, f_Disk_switchOn pw = some r ∧ (r.1 = 0 ∨ r.1 = 1) := by
  rw [f_Disk_switchOn]
  by_cases q1 : pw = 0
  · refine pu_pos q1 ?_
    exact ⟨_, rfl, (by (first | assumption | (dsimp only; first | assumption | grind) | grind))⟩
  · refine pu_neg q1 ?_
    exact ⟨_, rfl, (by (first | assumption | (dsimp only; first | assumption | grind) | grind))⟩
set_option maxHeartbeats 4000000 in
theorem T_V_power (pw : Int32)  : ∃ r : Int32 × Int32, f_V_power pw = some r ∧ (r.1 = 0 ∨ r.1 = 1) := by
  rw [f_V_power]
  obtain ⟨r1, h1, p2⟩ := T_Disk_switchOn pw 
  refine pu_bind h1 ?_
  clear h1
  refine pu_pos (tb (by (first | assumption | (dsimp only; first | assumption | grind) | grind))) ?_
  exact ⟨_, rfl, (by (first | assumption | (dsimp only; first | assumption | grind) | grind))⟩
set_option maxHeartbeats 4000000 in
theorem T_Table_secondCell (bt : Nat → Int32) (x1 : Int32)  : ∃ r : Int32, f_Table_secondCell bt x1 = some r ∧ True := by
  rw [f_Table_secondCell]
  obtain ⟨r1, h1, p2⟩ := T_Disk_pairAt bt (128 + (2 * x1)) 
  refine pu_bind h1 ?_
  clear h1
  exact ⟨_, rfl, trivial⟩
set_option maxHeartbeats 4000000 in
theorem T_Table_setSecond (g : am_WS) (x1 : Int32) (x2 : Int32) (h0_ : 0 ≤ g.1) (h1_ : g.1 ≤ 26) : ∃ r : (String ⊕ Unit) × am_WS, f_Table_setSecond g x1 x2 = some r ∧ tV "java/lang/IllegalStateException" "java/lang/IllegalStateException" r.1 ∧ 0 ≤ r.2.1 ∧ r.2.1 ≤ 26 := by
  rw [f_Table_setSecond]
  obtain ⟨r1, h1, p2, p3, p4⟩ := T_Disk_writePair g (128 + (2 * x1)) x2 (by (first | assumption | (dsimp only; first | assumption | grind) | grind)) (by (first | assumption | (dsimp only; first | assumption | grind) | grind))
  refine pu_bind h1 ?_
  clear h1
  refine pu_t (fun E3 w5 => ?_) (fun v4 w6 => ?_)
  · skip
    exact ⟨_, rfl, (tV_u p2 w5), (by (first | assumption | (dsimp only; first | assumption | grind) | grind)), (by (first | assumption | (dsimp only; first | assumption | grind) | grind))⟩
  · skip
    exact ⟨_, rfl, tV_r, (by (first | assumption | (dsimp only; first | assumption | grind) | grind)), (by (first | assumption | (dsimp only; first | assumption | grind) | grind))⟩
set_option maxHeartbeats 4000000 in
theorem T_Rep_isBad (bt : Nat → Int32) (x1 : Int32)  : ∃ r : Int32, f_Rep_isBad bt x1 = some r ∧ (r = 0 ∨ r = 1) := by
  rw [f_Rep_isBad]
  obtain ⟨r1, h1, p2⟩ := T_Table_cell bt x1 
  refine pu_bind h1 ?_
  clear h1
  by_cases q3 : r1 = 0
  · refine pu_pos q3 ?_
    by_cases q4 : x1 < 2
    · refine pu_pos q4 ?_
      exact ⟨_, rfl, (by (first | assumption | (dsimp only; first | assumption | grind) | grind))⟩
    · refine pu_neg q4 ?_
      exact ⟨_, rfl, (by (first | assumption | (dsimp only; first | assumption | grind) | grind))⟩
  · refine pu_neg q3 ?_
    obtain ⟨r7, h5, p6⟩ := T_V_isCluster r1 
    refine pu_bind h5 ?_
    clear h5
    by_cases q7 : r7 = 0
    · refine pu_pos q7 ?_
      by_cases q8 : r1 = 65535
      · refine pu_pos q8 ?_
        exact ⟨_, rfl, (by (first | assumption | (dsimp only; first | assumption | grind) | grind))⟩
      · refine pu_neg q8 ?_
        by_cases q9 : x1 < 2
        · refine pu_pos q9 ?_
          exact ⟨_, rfl, (by (first | assumption | (dsimp only; first | assumption | grind) | grind))⟩
        · refine pu_neg q9 ?_
          exact ⟨_, rfl, (by (first | assumption | (dsimp only; first | assumption | grind) | grind))⟩
    · refine pu_neg q7 ?_
      by_cases q10 : r1 = 65535
      · refine pu_pos q10 ?_
        exact ⟨_, rfl, (by (first | assumption | (dsimp only; first | assumption | grind) | grind))⟩
      · refine pu_neg q10 ?_
        by_cases q11 : x1 < 2
        · refine pu_pos q11 ?_
          exact ⟨_, rfl, (by (first | assumption | (dsimp only; first | assumption | grind) | grind))⟩
        · refine pu_neg q11 ?_
          exact ⟨_, rfl, (by (first | assumption | (dsimp only; first | assumption | grind) | grind))⟩
set_option maxHeartbeats 4000000 in
theorem T_Rep_mendTables_L73 : ∀ (fuel : Nat) (g : am_WS) (fx : Int32) (us : Nat → Int32) (x1 : Int32), 0 ≤ g.1 → g.1 ≤ 26 → 0 ≤ x1 → tm 64 x1 fuel → ∃ r : (String ⊕ Unit) × am_WS × Int32 × (Nat → Int32), f_Rep_mendTables_L73 fuel g fx us x1 = some r ∧ tV "java/lang/IllegalStateException" "java/lang/IllegalStateException" r.1 ∧ 0 ≤ r.2.1.1 ∧ r.2.1.1 ≤ 26 := by
  intro fuel
  induction fuel with
  | zero =>
    intro g fx us x1 h0_ h1_ h2_ hm
    exact (tm0 hm).elim
  | succ fuel ih =>
    intro g fx us x1 h0_ h1_ h2_ hm
    rw [f_Rep_mendTables_L73]
    by_cases q1 : 64 ≤ x1
    · refine pu_pos q1 ?_
      exact ⟨_, rfl, tV_r, (by (try clear ih); (first | assumption | (dsimp only; first | assumption | grind) | grind)), (by (try clear ih); (first | assumption | (dsimp only; first | assumption | grind) | grind))⟩
    · refine pu_neg q1 ?_
      obtain ⟨r3, h2, p3⟩ := T_Rep_isBad g.2.2.2.2.2.2.2.2.2 x1 
      refine pu_bind h2 ?_
      clear h2
      by_cases q4 : r3 = 0
      · refine pu_pos q4 ?_
        exact ih g fx us (x1 + 1) (by (try clear ih); (first | assumption | (dsimp only; first | assumption | grind) | grind)) (by (try clear ih); (first | assumption | (dsimp only; first | assumption | grind) | grind)) (by (try clear ih); (first | assumption | (dsimp only; first | assumption | grind) | grind)) (tm1 (by (try clear ih); (first | assumption | (dsimp only; first | assumption | grind) | grind)) hm)
      · refine pu_neg q4 ?_
        obtain ⟨r6, h5, p6, p7, p8⟩ := T_Table_set g x1 65535 (by (try clear ih); (first | assumption | (dsimp only; first | assumption | grind) | grind)) (by (try clear ih); (first | assumption | (dsimp only; first | assumption | grind) | grind))
        refine pu_bind h5 ?_
        clear h5
        refine pu_t (fun E8 w9 => ?_) (fun v9 w10 => ?_)
        · skip
          exact ⟨_, rfl, (tV_u p6 w9), (by (try clear ih); (first | assumption | (dsimp only; first | assumption | grind) | grind)), (by (try clear ih); (first | assumption | (dsimp only; first | assumption | grind) | grind))⟩
        · skip
          exact ih r6.2 (fx + 1) us (x1 + 1) (by (try clear ih); (first | assumption | (dsimp only; first | assumption | grind) | grind)) (by (try clear ih); (first | assumption | (dsimp only; first | assumption | grind) | grind)) (by (try clear ih); (first | assumption | (dsimp only; first | assumption | grind) | grind)) (tm1 (by (try clear ih); (first | assumption | (dsimp only; first | assumption | grind) | grind)) hm)
set_option maxHeartbeats 4000000 in
theorem T_Rep_mendTables_L7 : ∀ (fuel : Nat) (g : am_WS) (fx : Int32) (us : Nat → Int32) (x1 : Int32), 0 ≤ g.1 → g.1 ≤ 26 → 0 ≤ x1 → tm 64 x1 fuel → ∃ r : (String ⊕ Unit) × am_WS × Int32 × (Nat → Int32), f_Rep_mendTables_L7 fuel g fx us x1 = some r ∧ tV "java/lang/IllegalStateException" "java/lang/IllegalStateException" r.1 ∧ 0 ≤ r.2.1.1 ∧ r.2.1.1 ≤ 26 := by
  intro fuel
  induction fuel with
  | zero =>
    intro g fx us x1 h0_ h1_ h2_ hm
    exact (tm0 hm).elim
  | succ fuel ih =>
    intro g fx us x1 h0_ h1_ h2_ hm
    rw [f_Rep_mendTables_L7]
    by_cases q1 : 64 ≤ x1
    · refine pu_pos q1 ?_
      exact T_Rep_mendTables_L73 100000000000 g fx us 0 (by (try clear ih); (first | assumption | (dsimp only; first | assumption | grind) | grind)) (by (try clear ih); (first | assumption | (dsimp only; first | assumption | grind) | grind)) (by (try clear ih); (first | assumption | (dsimp only; first | assumption | grind) | grind)) (tmz _ _)
    · refine pu_neg q1 ?_
      refine pu_pos (ti 64 (by (try clear ih); (first | assumption | (dsimp only; first | assumption | grind) | grind)) (by (try clear ih); (first | assumption | (dsimp only; first | assumption | grind) | grind)) rfl) ?_
      obtain ⟨r12, h2, p3⟩ := T_Table_secondCell g.2.2.2.2.2.2.2.2.2 x1 
      refine pu_bind h2 ?_
      clear h2
      obtain ⟨r14, h4, p5⟩ := T_Table_cell g.2.2.2.2.2.2.2.2.2 x1 
      refine pu_bind h4 ?_
      clear h4
      by_cases q6 : r12 = r14
      · refine pu_pos q6 ?_
        exact ih g fx (upd us x1.toNatClampNeg (vp_nar .boolean 0)) (x1 + 1) (by (try clear ih); (first | assumption | (dsimp only; first | assumption | grind) | grind)) (by (try clear ih); (first | assumption | (dsimp only; first | assumption | grind) | grind)) (by (try clear ih); (first | assumption | (dsimp only; first | assumption | grind) | grind)) (tm1 (by (try clear ih); (first | assumption | (dsimp only; first | assumption | grind) | grind)) hm)
      · refine pu_neg q6 ?_
        obtain ⟨r17, h7, p8⟩ := T_Table_cell g.2.2.2.2.2.2.2.2.2 x1 
        refine pu_bind h7 ?_
        clear h7
        obtain ⟨r19, h9, p10, p11, p12⟩ := T_Table_setSecond g x1 r17 (by (try clear ih); (first | assumption | (dsimp only; first | assumption | grind) | grind)) (by (try clear ih); (first | assumption | (dsimp only; first | assumption | grind) | grind))
        refine pu_bind h9 ?_
        clear h9
        refine pu_t (fun E21 w13 => ?_) (fun v22 w14 => ?_)
        · skip
          exact ⟨_, rfl, (tV_u p10 w13), (by (try clear ih); (first | assumption | (dsimp only; first | assumption | grind) | grind)), (by (try clear ih); (first | assumption | (dsimp only; first | assumption | grind) | grind))⟩
        · skip
          exact ih r19.2 (fx + 1) (upd us x1.toNatClampNeg (vp_nar .boolean 0)) (x1 + 1) (by (try clear ih); (first | assumption | (dsimp only; first | assumption | grind) | grind)) (by (try clear ih); (first | assumption | (dsimp only; first | assumption | grind) | grind)) (by (try clear ih); (first | assumption | (dsimp only; first | assumption | grind) | grind)) (tm1 (by (try clear ih); (first | assumption | (dsimp only; first | assumption | grind) | grind)) hm)
set_option maxHeartbeats 4000000 in
theorem T_Rep_mendTables (g : am_WS) (fx : Int32) (us : Nat → Int32) (h0_ : 0 ≤ g.1) (h1_ : g.1 ≤ 26) : ∃ r : (String ⊕ Unit) × am_WS × Int32 × (Nat → Int32), f_Rep_mendTables g fx us = some r ∧ tV "java/lang/IllegalStateException" "java/lang/IllegalStateException" r.1 ∧ 0 ≤ r.2.1.1 ∧ r.2.1.1 ≤ 26 := by
  rw [f_Rep_mendTables]
  exact T_Rep_mendTables_L7 100000000000 g 0 us 0 (by (first | assumption | (dsimp only; first | assumption | grind) | grind)) (by (first | assumption | (dsimp only; first | assumption | grind) | grind)) (by (first | assumption | (dsimp only; first | assumption | grind) | grind)) (tmz _ _)
set_option maxHeartbeats 4000000 in
theorem T_Rep_follow_L4 : ∀ (fuel : Nat) (g : am_WS) (fx : Int32) (us : Nat → Int32) (x2 : Int32) (x3 : Int32), 0 ≤ g.1 → g.1 ≤ 26 → 0 ≤ x3 → tm 64 x3 fuel → ∃ r : (String ⊕ Int32) × am_WS × Int32 × (Nat → Int32), f_Rep_follow_L4 fuel g fx us x2 x3 = some r ∧ tV "java/lang/IllegalStateException" "java/lang/IllegalStateException" r.1 ∧ 0 ≤ r.2.1.1 ∧ r.2.1.1 ≤ 26 := by
  intro fuel
  induction fuel with
  | zero =>
    intro g fx us x2 x3 h0_ h1_ h2_ hm
    exact (tm0 hm).elim
  | succ fuel ih =>
    intro g fx us x2 x3 h0_ h1_ h2_ hm
    rw [f_Rep_follow_L4]
    by_cases q1 : 64 ≤ x3
    · refine pu_pos q1 ?_
      exact ⟨_, rfl, tV_r, (by (try clear ih); (first | assumption | (dsimp only; first | assumption | grind) | grind)), (by (try clear ih); (first | assumption | (dsimp only; first | assumption | grind) | grind))⟩
    · refine pu_neg q1 ?_
      obtain ⟨r2, h2, p3⟩ := T_V_isCluster x2 
      refine pu_bind h2 ?_
      clear h2
      by_cases q4 : r2 = 0
      · refine pu_pos q4 ?_
        exact ⟨_, rfl, tV_r, (by (try clear ih); (first | assumption | (dsimp only; first | assumption | grind) | grind)), (by (try clear ih); (first | assumption | (dsimp only; first | assumption | grind) | grind))⟩
      · refine pu_neg q4 ?_
        refine pu_pos (ti 64 (by (try clear ih); (first | assumption | (dsimp only; first | assumption | grind) | grind)) (by (try clear ih); (first | assumption | (dsimp only; first | assumption | grind) | grind)) rfl) ?_
        obtain ⟨r6, h5, p6⟩ := T_Table_cell g.2.2.2.2.2.2.2.2.2 x2 
        refine pu_bind h5 ?_
        clear h5
        obtain ⟨r8, h7, p8⟩ := T_V_isCluster r6 
        refine pu_bind h7 ?_
        clear h7
        by_cases q9 : r8 = 0
        · refine pu_pos q9 ?_
          exact ih g fx (upd us x2.toNatClampNeg (vp_nar .boolean 1)) r6 (x3 + 1) (by (try clear ih); (first | assumption | (dsimp only; first | assumption | grind) | grind)) (by (try clear ih); (first | assumption | (dsimp only; first | assumption | grind) | grind)) (by (try clear ih); (first | assumption | (dsimp only; first | assumption | grind) | grind)) (tm1 (by (try clear ih); (first | assumption | (dsimp only; first | assumption | grind) | grind)) hm)
        · refine pu_neg q9 ?_
          obtain ⟨r11, h10, p11⟩ := T_Table_isFree g.2.2.2.2.2.2.2.2.2 r6 
          refine pu_bind h10 ?_
          clear h10
          by_cases q12 : r11 = 0
          · refine pu_pos q12 ?_
            refine pu_pos (ti 64 (by (try clear ih); (first | assumption | (dsimp only; first | assumption | grind) | grind)) (by (try clear ih); (first | assumption | (dsimp only; first | assumption | grind) | grind)) rfl) ?_
            by_cases q13 : ((upd us x2.toNatClampNeg (vp_nar .boolean 1)) r6.toNatClampNeg) = 0
            · refine pu_pos q13 ?_
              exact ih g fx (upd us x2.toNatClampNeg (vp_nar .boolean 1)) r6 (x3 + 1) (by (try clear ih); (first | assumption | (dsimp only; first | assumption | grind) | grind)) (by (try clear ih); (first | assumption | (dsimp only; first | assumption | grind) | grind)) (by (try clear ih); (first | assumption | (dsimp only; first | assumption | grind) | grind)) (tm1 (by (try clear ih); (first | assumption | (dsimp only; first | assumption | grind) | grind)) hm)
            · refine pu_neg q13 ?_
              obtain ⟨r21, h14, p15, p16, p17⟩ := T_Table_set g x2 65535 (by (try clear ih); (first | assumption | (dsimp only; first | assumption | grind) | grind)) (by (try clear ih); (first | assumption | (dsimp only; first | assumption | grind) | grind))
              refine pu_bind h14 ?_
              clear h14
              refine pu_t (fun E23 w18 => ?_) (fun v24 w19 => ?_)
              · skip
                exact ⟨_, rfl, (tV_u p15 w18), (by (try clear ih); (first | assumption | (dsimp only; first | assumption | grind) | grind)), (by (try clear ih); (first | assumption | (dsimp only; first | assumption | grind) | grind))⟩
              · skip
                exact ⟨_, rfl, tV_r, (by (try clear ih); (first | assumption | (dsimp only; first | assumption | grind) | grind)), (by (try clear ih); (first | assumption | (dsimp only; first | assumption | grind) | grind))⟩
          · refine pu_neg q12 ?_
            obtain ⟨r14, h20, p21, p22, p23⟩ := T_Table_set g x2 65535 (by (try clear ih); (first | assumption | (dsimp only; first | assumption | grind) | grind)) (by (try clear ih); (first | assumption | (dsimp only; first | assumption | grind) | grind))
            refine pu_bind h20 ?_
            clear h20
            refine pu_t (fun E16 w24 => ?_) (fun v17 w25 => ?_)
            · skip
              exact ⟨_, rfl, (tV_u p21 w24), (by (try clear ih); (first | assumption | (dsimp only; first | assumption | grind) | grind)), (by (try clear ih); (first | assumption | (dsimp only; first | assumption | grind) | grind))⟩
            · skip
              exact ⟨_, rfl, tV_r, (by (try clear ih); (first | assumption | (dsimp only; first | assumption | grind) | grind)), (by (try clear ih); (first | assumption | (dsimp only; first | assumption | grind) | grind))⟩
set_option maxHeartbeats 4000000 in
theorem T_Rep_follow (g : am_WS) (fx : Int32) (us : Nat → Int32) (x1 : Int32) (h0_ : 0 ≤ g.1) (h1_ : g.1 ≤ 26) : ∃ r : (String ⊕ Int32) × am_WS × Int32 × (Nat → Int32), f_Rep_follow g fx us x1 = some r ∧ tV "java/lang/IllegalStateException" "java/lang/IllegalStateException" r.1 ∧ 0 ≤ r.2.1.1 ∧ r.2.1.1 ≤ 26 := by
  rw [f_Rep_follow]
  exact T_Rep_follow_L4 100000000000 g fx us x1 0 (by (first | assumption | (dsimp only; first | assumption | grind) | grind)) (by (first | assumption | (dsimp only; first | assumption | grind) | grind)) (by (first | assumption | (dsimp only; first | assumption | grind) | grind)) (tmz _ _)
set_option maxHeartbeats 4000000 in
theorem T_Rep_mendRoot (g : am_WS) (fx : Int32) (us : Nat → Int32) (h0_ : 0 ≤ g.1) (h1_ : g.1 ≤ 26) : ∃ r : (String ⊕ Unit) × am_WS × Int32 × (Nat → Int32), f_Rep_mendRoot g fx us = some r ∧ tV "java/lang/IllegalStateException" "java/lang/IllegalStateException" r.1 ∧ 0 ≤ r.2.1.1 ∧ r.2.1.1 ≤ 26 := by
  rw [f_Rep_mendRoot]
  obtain ⟨r1, h1, p2⟩ := T_Table_isFree g.2.2.2.2.2.2.2.2.2 2 
  refine pu_bind h1 ?_
  clear h1
  by_cases q3 : r1 = 0
  · refine pu_pos q3 ?_
    obtain ⟨r4, h4, p5, p6, p7⟩ := T_Rep_follow g fx us 2 (by (first | assumption | (dsimp only; first | assumption | grind) | grind)) (by (first | assumption | (dsimp only; first | assumption | grind) | grind))
    refine pu_bind h4 ?_
    clear h4
    refine pu_t (fun E6 w8 => ?_) (fun v7 w9 => ?_)
    · skip
      exact ⟨_, rfl, (tV_u p5 w8), (by (first | assumption | (dsimp only; first | assumption | grind) | grind)), (by (first | assumption | (dsimp only; first | assumption | grind) | grind))⟩
    · skip
      exact ⟨_, rfl, tV_r, (by (first | assumption | (dsimp only; first | assumption | grind) | grind)), (by (first | assumption | (dsimp only; first | assumption | grind) | grind))⟩
  · refine pu_neg q3 ?_
    obtain ⟨r9, h10, p11, p12, p13⟩ := T_Table_set g 2 65535 (by (first | assumption | (dsimp only; first | assumption | grind) | grind)) (by (first | assumption | (dsimp only; first | assumption | grind) | grind))
    refine pu_bind h10 ?_
    clear h10
    refine pu_t (fun E11 w14 => ?_) (fun v12 w15 => ?_)
    · skip
      exact ⟨_, rfl, (tV_u p11 w14), (by (first | assumption | (dsimp only; first | assumption | grind) | grind)), (by (first | assumption | (dsimp only; first | assumption | grind) | grind))⟩
    · skip
      obtain ⟨r14, h16, p17, p18, p19⟩ := T_Rep_follow r9.2 (fx + 1) us 2 (by (first | assumption | (dsimp only; first | assumption | grind) | grind)) (by (first | assumption | (dsimp only; first | assumption | grind) | grind))
      refine pu_bind h16 ?_
      clear h16
      refine pu_t (fun E16 w20 => ?_) (fun v17 w21 => ?_)
      · skip
        exact ⟨_, rfl, (tV_u p17 w20), (by (first | assumption | (dsimp only; first | assumption | grind) | grind)), (by (first | assumption | (dsimp only; first | assumption | grind) | grind))⟩
      · skip
        exact ⟨_, rfl, tV_r, (by (first | assumption | (dsimp only; first | assumption | grind) | grind)), (by (first | assumption | (dsimp only; first | assumption | grind) | grind))⟩
set_option maxHeartbeats 4000000 in
theorem T_Folder_isTellingPart (bt : Nat → Int32) (ct : Int32) (ad : Nat → Int32) (x1 : Int32) (h0_ : 0 ≤ ct) (h1_ : ct ≤ 128) : ∃ r : Int32, f_Folder_isTellingPart bt ct ad x1 = some r ∧ (r = 0 ∨ r = 1) := by
  rw [f_Folder_isTellingPart]
  obtain ⟨r1, h1, p2⟩ := T_Folder_kindOf bt ct ad x1 (by (first | assumption | (dsimp only; first | assumption | grind) | grind)) (by (first | assumption | (dsimp only; first | assumption | grind) | grind))
  refine pu_bind h1 ?_
  clear h1
  by_cases q3 : r1 = 15
  · refine pu_pos q3 ?_
    obtain ⟨r4, h4, p5, p6⟩ := T_Folder_partsOf bt ct ad (x1 + 1) (by (first | assumption | (dsimp only; first | assumption | grind) | grind)) (by (first | assumption | (dsimp only; first | assumption | grind) | grind))
    refine pu_bind h4 ?_
    clear h4
    by_cases q7 : 0 < r4
    · refine pu_pos q7 ?_
      exact ⟨_, rfl, (by (first | assumption | (dsimp only; first | assumption | grind) | grind))⟩
    · refine pu_neg q7 ?_
      obtain ⟨r7, h8, p9, p10⟩ := T_Folder_partsOf bt ct ad (x1 + 2) (by (first | assumption | (dsimp only; first | assumption | grind) | grind)) (by (first | assumption | (dsimp only; first | assumption | grind) | grind))
      refine pu_bind h8 ?_
      clear h8
      by_cases q11 : r7 ≤ 1
      · refine pu_pos q11 ?_
        exact ⟨_, rfl, (by (first | assumption | (dsimp only; first | assumption | grind) | grind))⟩
      · refine pu_neg q11 ?_
        exact ⟨_, rfl, (by (first | assumption | (dsimp only; first | assumption | grind) | grind))⟩
  · refine pu_neg q3 ?_
    exact ⟨_, rfl, (by (first | assumption | (dsimp only; first | assumption | grind) | grind))⟩
set_option maxHeartbeats 4000000 in
theorem T_Rep_isHopeless (bt : Nat → Int32) (ct : Int32) (ad : Nat → Int32) (us : Nat → Int32) (x1 : Int32) (x2 : Int32) (h0_ : 0 ≤ ct) (h1_ : ct ≤ 128) : ∃ r : Int32, f_Rep_isHopeless bt ct ad us x1 x2 = some r ∧ (r = 0 ∨ r = 1) := by
  rw [f_Rep_isHopeless]
  obtain ⟨r1, h1, p2⟩ := T_Folder_isNamed bt ct ad x1 (by (first | assumption | (dsimp only; first | assumption | grind) | grind)) (by (first | assumption | (dsimp only; first | assumption | grind) | grind))
  refine pu_bind h1 ?_
  clear h1
  by_cases q3 : r1 = 0
  · refine pu_pos q3 ?_
    exact ⟨_, rfl, (by (first | assumption | (dsimp only; first | assumption | grind) | grind))⟩
  · refine pu_neg q3 ?_
    obtain ⟨r4, h4, p5⟩ := T_Folder_kindOf bt ct ad x1 (by (first | assumption | (dsimp only; first | assumption | grind) | grind)) (by (first | assumption | (dsimp only; first | assumption | grind) | grind))
    refine pu_bind h4 ?_
    clear h4
    by_cases q6 : r4 = 2
    · refine pu_pos q6 ?_
      obtain ⟨r19, h7, p8⟩ := T_Folder_firstClusterOf bt ct ad x1 (by (first | assumption | (dsimp only; first | assumption | grind) | grind)) (by (first | assumption | (dsimp only; first | assumption | grind) | grind))
      refine pu_bind h7 ?_
      clear h7
      by_cases q9 : r19 = 0
      · refine pu_pos q9 ?_
        exact ⟨_, rfl, (by (first | assumption | (dsimp only; first | assumption | grind) | grind))⟩
      · refine pu_neg q9 ?_
        obtain ⟨r22, h10, p11⟩ := T_V_isCluster r19 
        refine pu_bind h10 ?_
        clear h10
        by_cases q12 : r22 = 0
        · refine pu_pos q12 ?_
          exact ⟨_, rfl, (by (first | assumption | (dsimp only; first | assumption | grind) | grind))⟩
        · refine pu_neg q12 ?_
          obtain ⟨r25, h13, p14⟩ := T_Table_isFree bt r19 
          refine pu_bind h13 ?_
          clear h13
          by_cases q15 : r25 = 0
          · refine pu_pos q15 ?_
            refine pu_pos (ti 64 (by (first | assumption | (dsimp only; first | assumption | grind) | grind)) (by (first | assumption | (dsimp only; first | assumption | grind) | grind)) rfl) ?_
            by_cases q16 : (us r19.toNatClampNeg) = 0
            · refine pu_pos q16 ?_
              by_cases q17 : x2 < 5
              · refine pu_pos q17 ?_
                exact ⟨_, rfl, (by (first | assumption | (dsimp only; first | assumption | grind) | grind))⟩
              · refine pu_neg q17 ?_
                exact ⟨_, rfl, (by (first | assumption | (dsimp only; first | assumption | grind) | grind))⟩
            · refine pu_neg q16 ?_
              exact ⟨_, rfl, (by (first | assumption | (dsimp only; first | assumption | grind) | grind))⟩
          · refine pu_neg q15 ?_
            exact ⟨_, rfl, (by (first | assumption | (dsimp only; first | assumption | grind) | grind))⟩
    · refine pu_neg q6 ?_
      obtain ⟨r7, h18, p19⟩ := T_Folder_firstClusterOf bt ct ad x1 (by (first | assumption | (dsimp only; first | assumption | grind) | grind)) (by (first | assumption | (dsimp only; first | assumption | grind) | grind))
      refine pu_bind h18 ?_
      clear h18
      by_cases q20 : r7 = 0
      · refine pu_pos q20 ?_
        exact ⟨_, rfl, (by (first | assumption | (dsimp only; first | assumption | grind) | grind))⟩
      · refine pu_neg q20 ?_
        obtain ⟨r10, h21, p22⟩ := T_V_isCluster r7 
        refine pu_bind h21 ?_
        clear h21
        by_cases q23 : r10 = 0
        · refine pu_pos q23 ?_
          exact ⟨_, rfl, (by (first | assumption | (dsimp only; first | assumption | grind) | grind))⟩
        · refine pu_neg q23 ?_
          obtain ⟨r13, h24, p25⟩ := T_Table_isFree bt r7 
          refine pu_bind h24 ?_
          clear h24
          by_cases q26 : r13 = 0
          · refine pu_pos q26 ?_
            refine pu_pos (ti 64 (by (first | assumption | (dsimp only; first | assumption | grind) | grind)) (by (first | assumption | (dsimp only; first | assumption | grind) | grind)) rfl) ?_
            by_cases q27 : (us r7.toNatClampNeg) = 0
            · refine pu_pos q27 ?_
              exact ⟨_, rfl, (by (first | assumption | (dsimp only; first | assumption | grind) | grind))⟩
            · refine pu_neg q27 ?_
              exact ⟨_, rfl, (by (first | assumption | (dsimp only; first | assumption | grind) | grind))⟩
          · refine pu_neg q26 ?_
            exact ⟨_, rfl, (by (first | assumption | (dsimp only; first | assumption | grind) | grind))⟩
set_option maxHeartbeats 4000000 in
theorem T_Rep_forget_L4 : ∀ (fuel : Nat) (bt : Nat → Int32) (us : Nat → Int32) (x2 : Int32) (x3 : Int32), 0 ≤ x3 → tm 64 x3 fuel → ∃ r : (Nat → Int32), f_Rep_forget_L4 fuel bt us x2 x3 = some r ∧ True := by
  intro fuel
  induction fuel with
  | zero =>
    intro bt us x2 x3 h0_ hm
    exact (tm0 hm).elim
  | succ fuel ih =>
    intro bt us x2 x3 h0_ hm
    rw [f_Rep_forget_L4]
    by_cases q1 : 64 ≤ x3
    · refine pu_pos q1 ?_
      exact ⟨_, rfl, trivial⟩
    · refine pu_neg q1 ?_
      obtain ⟨r2, h2, p3⟩ := T_V_isCluster x2 
      refine pu_bind h2 ?_
      clear h2
      by_cases q4 : r2 = 0
      · refine pu_pos q4 ?_
        exact ⟨_, rfl, trivial⟩
      · refine pu_neg q4 ?_
        refine pu_pos (ti 64 (by (try clear ih); (first | assumption | (dsimp only; first | assumption | grind) | grind)) (by (try clear ih); (first | assumption | (dsimp only; first | assumption | grind) | grind)) rfl) ?_
        obtain ⟨r6, h5, p6⟩ := T_Table_cell bt x2 
        refine pu_bind h5 ?_
        clear h5
        exact ih bt (upd us x2.toNatClampNeg (vp_nar .boolean 0)) r6 (x3 + 1) (by (try clear ih); (first | assumption | (dsimp only; first | assumption | grind) | grind)) (tm1 (by (try clear ih); (first | assumption | (dsimp only; first | assumption | grind) | grind)) hm)
set_option maxHeartbeats 4000000 in
theorem T_Rep_forget (bt : Nat → Int32) (us : Nat → Int32) (x1 : Int32)  : ∃ r : (Nat → Int32), f_Rep_forget bt us x1 = some r ∧ True := by
  rw [f_Rep_forget]
  exact T_Rep_forget_L4 100000000000 bt us x1 0 (by (first | assumption | (dsimp only; first | assumption | grind) | grind)) (tmz _ _)
set_option maxHeartbeats 4000000 in
theorem T_Rep_mendFile (g : am_WS) (ct : Int32) (ad : Nat → Int32) (fx : Int32) (us : Nat → Int32) (x1 : Int32) (x2 : Int32) (h0_ : 0 ≤ g.1) (h1_ : g.1 ≤ 26) (h2_ : 0 ≤ ct) (h3_ : ct ≤ 128) : ∃ r : (String ⊕ Unit) × am_WS × Int32 × (Nat → Int32), f_Rep_mendFile g ct ad fx us x1 x2 = some r ∧ tV "java/lang/IllegalStateException" "java/lang/IllegalStateException" r.1 ∧ 0 ≤ r.2.1.1 ∧ r.2.1.1 ≤ 26 := by
  rw [f_Rep_mendFile]
  obtain ⟨r1, h1, p2⟩ := T_Folder_addressOf ct ad x1 (by (first | assumption | (dsimp only; first | assumption | grind) | grind)) (by (first | assumption | (dsimp only; first | assumption | grind) | grind))
  refine pu_bind h1 ?_
  clear h1
  obtain ⟨r3, h3, p4⟩ := T_Folder_firstClusterOf g.2.2.2.2.2.2.2.2.2 ct ad x1 (by (first | assumption | (dsimp only; first | assumption | grind) | grind)) (by (first | assumption | (dsimp only; first | assumption | grind) | grind))
  refine pu_bind h3 ?_
  clear h3
  obtain ⟨r5, h5, p6⟩ := T_Folder_sizeOf g.2.2.2.2.2.2.2.2.2 ct ad x1 (by (first | assumption | (dsimp only; first | assumption | grind) | grind)) (by (first | assumption | (dsimp only; first | assumption | grind) | grind))
  refine pu_bind h5 ?_
  clear h5
  by_cases q7 : (((r5 + 32) - 1) / 32) ≤ x2
  · refine pu_pos q7 ?_
    by_cases q8 : (((r5 + 32) - 1) / 32) = 0
    · refine pu_pos q8 ?_
      by_cases q9 : x2 ≤ 0
      · refine pu_pos q9 ?_
        by_cases q10 : x2 ≤ (((r5 + 32) - 1) / 32)
        · refine pu_pos q10 ?_
          exact ⟨_, rfl, tV_r, (by (first | assumption | (dsimp only; first | assumption | grind) | grind)), (by (first | assumption | (dsimp only; first | assumption | grind) | grind))⟩
        · refine pu_neg q10 ?_
          obtain ⟨r23, h11, p12⟩ := T_Table_clusterAt g.2.2.2.2.2.2.2.2.2 r3 ((((r5 + 32) - 1) / 32) - 1) 
          refine pu_bind h11 ?_
          clear h11
          obtain ⟨r25, h13, p14⟩ := T_Table_cell g.2.2.2.2.2.2.2.2.2 r23 
          refine pu_bind h13 ?_
          clear h13
          obtain ⟨r27, h15, p16⟩ := T_Rep_forget g.2.2.2.2.2.2.2.2.2 us r25 
          refine pu_bind h15 ?_
          clear h15
          obtain ⟨r29, h17, p18, p19, p20⟩ := T_Table_set g r23 65535 (by (first | assumption | (dsimp only; first | assumption | grind) | grind)) (by (first | assumption | (dsimp only; first | assumption | grind) | grind))
          refine pu_bind h17 ?_
          clear h17
          refine pu_t (fun E31 w21 => ?_) (fun v32 w22 => ?_)
          · skip
            exact ⟨_, rfl, (tV_u p18 w21), (by (first | assumption | (dsimp only; first | assumption | grind) | grind)), (by (first | assumption | (dsimp only; first | assumption | grind) | grind))⟩
          · skip
            exact ⟨_, rfl, tV_r, (by (first | assumption | (dsimp only; first | assumption | grind) | grind)), (by (first | assumption | (dsimp only; first | assumption | grind) | grind))⟩
      · refine pu_neg q9 ?_
        obtain ⟨r34, h23, p24⟩ := T_Rep_forget g.2.2.2.2.2.2.2.2.2 us r3 
        refine pu_bind h23 ?_
        clear h23
        obtain ⟨r36, h25, p26, p27, p28⟩ := T_Disk_writePair g (r1 + 8) 0 (by (first | assumption | (dsimp only; first | assumption | grind) | grind)) (by (first | assumption | (dsimp only; first | assumption | grind) | grind))
        refine pu_bind h25 ?_
        clear h25
        refine pu_t (fun E38 w29 => ?_) (fun v39 w30 => ?_)
        · skip
          exact ⟨_, rfl, (tV_u p26 w29), (by (first | assumption | (dsimp only; first | assumption | grind) | grind)), (by (first | assumption | (dsimp only; first | assumption | grind) | grind))⟩
        · skip
          exact ⟨_, rfl, tV_r, (by (first | assumption | (dsimp only; first | assumption | grind) | grind)), (by (first | assumption | (dsimp only; first | assumption | grind) | grind))⟩
    · refine pu_neg q8 ?_
      by_cases q31 : x2 ≤ (((r5 + 32) - 1) / 32)
      · refine pu_pos q31 ?_
        exact ⟨_, rfl, tV_r, (by (first | assumption | (dsimp only; first | assumption | grind) | grind)), (by (first | assumption | (dsimp only; first | assumption | grind) | grind))⟩
      · refine pu_neg q31 ?_
        obtain ⟨r10, h32, p33⟩ := T_Table_clusterAt g.2.2.2.2.2.2.2.2.2 r3 ((((r5 + 32) - 1) / 32) - 1) 
        refine pu_bind h32 ?_
        clear h32
        obtain ⟨r12, h34, p35⟩ := T_Table_cell g.2.2.2.2.2.2.2.2.2 r10 
        refine pu_bind h34 ?_
        clear h34
        obtain ⟨r14, h36, p37⟩ := T_Rep_forget g.2.2.2.2.2.2.2.2.2 us r12 
        refine pu_bind h36 ?_
        clear h36
        obtain ⟨r16, h38, p39, p40, p41⟩ := T_Table_set g r10 65535 (by (first | assumption | (dsimp only; first | assumption | grind) | grind)) (by (first | assumption | (dsimp only; first | assumption | grind) | grind))
        refine pu_bind h38 ?_
        clear h38
        refine pu_t (fun E18 w42 => ?_) (fun v19 w43 => ?_)
        · skip
          exact ⟨_, rfl, (tV_u p39 w42), (by (first | assumption | (dsimp only; first | assumption | grind) | grind)), (by (first | assumption | (dsimp only; first | assumption | grind) | grind))⟩
        · skip
          exact ⟨_, rfl, tV_r, (by (first | assumption | (dsimp only; first | assumption | grind) | grind)), (by (first | assumption | (dsimp only; first | assumption | grind) | grind))⟩
  · refine pu_neg q7 ?_
    obtain ⟨r41, h44, p45, p46, p47⟩ := T_Disk_writePair g (r1 + 10) (x2 * 32) (by (first | assumption | (dsimp only; first | assumption | grind) | grind)) (by (first | assumption | (dsimp only; first | assumption | grind) | grind))
    refine pu_bind h44 ?_
    clear h44
    refine pu_t (fun E43 w48 => ?_) (fun v44 w49 => ?_)
    · skip
      exact ⟨_, rfl, (tV_u p45 w48), (by (first | assumption | (dsimp only; first | assumption | grind) | grind)), (by (first | assumption | (dsimp only; first | assumption | grind) | grind))⟩
    · skip
      exact ⟨_, rfl, tV_r, (by (first | assumption | (dsimp only; first | assumption | grind) | grind)), (by (first | assumption | (dsimp only; first | assumption | grind) | grind))⟩
set_option maxHeartbeats 4000000 in
theorem T_Rep_visit (g : am_WS) (ct : Int32) (ad : Nat → Int32) (fx : Int32) (us : Nat → Int32) (x1 : Int32) (x2 : Int32) (h0_ : 0 ≤ g.1) (h1_ : g.1 ≤ 26) (h2_ : 0 ≤ ct) (h3_ : ct ≤ 128) : ∃ r : (String ⊕ Int32) × am_WS × Int32 × (Nat → Int32), f_Rep_visit g ct ad fx us x1 x2 = some r ∧ tV "java/lang/IllegalStateException" "java/lang/IllegalStateException" r.1 ∧ 0 ≤ r.2.1.1 ∧ r.2.1.1 ≤ 26 := by
  rw [f_Rep_visit]
  obtain ⟨r1, h1, p2⟩ := T_Folder_isFree g.2.2.2.2.2.2.2.2.2 ct ad x1 (by (first | assumption | (dsimp only; first | assumption | grind) | grind)) (by (first | assumption | (dsimp only; first | assumption | grind) | grind))
  refine pu_bind h1 ?_
  clear h1
  by_cases q3 : r1 = 0
  · refine pu_pos q3 ?_
    obtain ⟨r4, h4, p5⟩ := T_Folder_isTellingPart g.2.2.2.2.2.2.2.2.2 ct ad x1 (by (first | assumption | (dsimp only; first | assumption | grind) | grind)) (by (first | assumption | (dsimp only; first | assumption | grind) | grind))
    refine pu_bind h4 ?_
    clear h4
    by_cases q6 : r4 = 0
    · refine pu_pos q6 ?_
      obtain ⟨r7, h7, p8⟩ := T_Rep_isHopeless g.2.2.2.2.2.2.2.2.2 ct ad us x1 x2 (by (first | assumption | (dsimp only; first | assumption | grind) | grind)) (by (first | assumption | (dsimp only; first | assumption | grind) | grind))
      refine pu_bind h7 ?_
      clear h7
      by_cases q9 : r7 = 0
      · refine pu_pos q9 ?_
        obtain ⟨r10, h10, p11⟩ := T_Folder_firstClusterOf g.2.2.2.2.2.2.2.2.2 ct ad x1 (by (first | assumption | (dsimp only; first | assumption | grind) | grind)) (by (first | assumption | (dsimp only; first | assumption | grind) | grind))
        refine pu_bind h10 ?_
        clear h10
        obtain ⟨r12, h12, p13, p14, p15⟩ := T_Rep_follow g fx us r10 (by (first | assumption | (dsimp only; first | assumption | grind) | grind)) (by (first | assumption | (dsimp only; first | assumption | grind) | grind))
        refine pu_bind h12 ?_
        clear h12
        refine pu_t (fun E14 w16 => ?_) (fun v15 w17 => ?_)
        · skip
          exact ⟨_, rfl, (tV_u p13 w16), (by (first | assumption | (dsimp only; first | assumption | grind) | grind)), (by (first | assumption | (dsimp only; first | assumption | grind) | grind))⟩
        · skip
          obtain ⟨r17, h18, p19⟩ := T_Folder_kindOf r12.2.1.2.2.2.2.2.2.2.2.2 ct ad x1 (by (first | assumption | (dsimp only; first | assumption | grind) | grind)) (by (first | assumption | (dsimp only; first | assumption | grind) | grind))
          refine pu_bind h18 ?_
          clear h18
          by_cases q20 : r17 = 2
          · refine pu_pos q20 ?_
            exact ⟨_, rfl, tV_r, (by (first | assumption | (dsimp only; first | assumption | grind) | grind)), (by (first | assumption | (dsimp only; first | assumption | grind) | grind))⟩
          · refine pu_neg q20 ?_
            obtain ⟨r20, h21, p22, p23, p24⟩ := T_Rep_mendFile r12.2.1 ct ad r12.2.2.1 r12.2.2.2 x1 v15 (by (first | assumption | (dsimp only; first | assumption | grind) | grind)) (by (first | assumption | (dsimp only; first | assumption | grind) | grind)) (by (first | assumption | (dsimp only; first | assumption | grind) | grind)) (by (first | assumption | (dsimp only; first | assumption | grind) | grind))
            refine pu_bind h21 ?_
            clear h21
            refine pu_t (fun E22 w25 => ?_) (fun v23 w26 => ?_)
            · skip
              exact ⟨_, rfl, (tV_u p22 w25), (by (first | assumption | (dsimp only; first | assumption | grind) | grind)), (by (first | assumption | (dsimp only; first | assumption | grind) | grind))⟩
            · skip
              exact ⟨_, rfl, tV_r, (by (first | assumption | (dsimp only; first | assumption | grind) | grind)), (by (first | assumption | (dsimp only; first | assumption | grind) | grind))⟩
      · refine pu_neg q9 ?_
        obtain ⟨r25, h27, p28, p29, p30⟩ := T_Folder_markFreed g ct ad x1 (by (first | assumption | (dsimp only; first | assumption | grind) | grind)) (by (first | assumption | (dsimp only; first | assumption | grind) | grind)) (by (first | assumption | (dsimp only; first | assumption | grind) | grind)) (by (first | assumption | (dsimp only; first | assumption | grind) | grind))
        refine pu_bind h27 ?_
        clear h27
        refine pu_t (fun E27 w31 => ?_) (fun v28 w32 => ?_)
        · skip
          exact ⟨_, rfl, (tV_u p28 w31), (by (first | assumption | (dsimp only; first | assumption | grind) | grind)), (by (first | assumption | (dsimp only; first | assumption | grind) | grind))⟩
        · skip
          exact ⟨_, rfl, tV_r, (by (first | assumption | (dsimp only; first | assumption | grind) | grind)), (by (first | assumption | (dsimp only; first | assumption | grind) | grind))⟩
    · refine pu_neg q6 ?_
      exact ⟨_, rfl, tV_r, (by (first | assumption | (dsimp only; first | assumption | grind) | grind)), (by (first | assumption | (dsimp only; first | assumption | grind) | grind))⟩
  · refine pu_neg q3 ?_
    exact ⟨_, rfl, tV_r, (by (first | assumption | (dsimp only; first | assumption | grind) | grind)), (by (first | assumption | (dsimp only; first | assumption | grind) | grind))⟩
set_option maxHeartbeats 4000000 in
theorem T_Rep_goThrough_L19 (rc : am_WS → Int32 → Int32 → (Nat → Int32) → Int32 → (Nat → Int32) → Int32 → Int32 → Option ((String ⊕ Unit) × am_WS × Int32 × Int32 × (Nat → Int32) × Int32 × (Nat → Int32))) (n9 : Nat) (hk : ∀ (g : am_WS) (ct : Int32) (lc : Int32) (ad : Nat → Int32) (fx : Int32) (us : Nat → Int32) (x1 : Int32) (x2 : Int32), 0 ≤ g.1 → g.1 ≤ 26 → 0 ≤ ct → ct ≤ 128 → tm 5 x2 n9 → ∃ r : (String ⊕ Unit) × am_WS × Int32 × Int32 × (Nat → Int32) × Int32 × (Nat → Int32), rc g ct lc ad fx us x1 x2 = some r ∧ tV "java/lang/IllegalStateException" "java/lang/IllegalStateException" r.1 ∧ 0 ≤ r.2.1.1 ∧ r.2.1.1 ≤ 26 ∧ 0 ≤ r.2.2.1 ∧ r.2.2.1 ≤ 128) : ∀ (fuel : Nat) (g : am_WS) (ct : Int32) (lc : Int32) (ad : Nat → Int32) (fx : Int32) (us : Nat → Int32) (x1 : Int32) (x2 : Int32) (x3 : Int32) (x4 : Int32), 0 ≤ g.1 → g.1 ≤ 26 → 0 ≤ ct → ct ≤ 128 → 0 ≤ x4 → tm 5 x2 (n9 + 1) → tm x3 x4 fuel → ∃ r : (String ⊕ Unit) × am_WS × Int32 × Int32 × (Nat → Int32) × Int32 × (Nat → Int32), f_Rep_goThrough_L19 rc fuel g ct lc ad fx us x1 x2 x3 x4 = some r ∧ tV "java/lang/IllegalStateException" "java/lang/IllegalStateException" r.1 ∧ 0 ≤ r.2.1.1 ∧ r.2.1.1 ≤ 26 ∧ 0 ≤ r.2.2.1 ∧ r.2.2.1 ≤ 128 := by
  intro fuel
  induction fuel with
  | zero =>
    intro g ct lc ad fx us x1 x2 x3 x4 h0_ h1_ h2_ h3_ h4_ hmr hm
    exact (tm0 hm).elim
  | succ fuel ih =>
    intro g ct lc ad fx us x1 x2 x3 x4 h0_ h1_ h2_ h3_ h4_ hmr hm
    rw [f_Rep_goThrough_L19]
    by_cases q1 : x3 ≤ x4
    · refine pu_pos q1 ?_
      exact ⟨_, rfl, tV_r, (by (try clear ih); (try clear hk); (first | assumption | (dsimp only; first | assumption | grind) | grind)), (by (try clear ih); (try clear hk); (first | assumption | (dsimp only; first | assumption | grind) | grind)), (by (try clear ih); (try clear hk); (first | assumption | (dsimp only; first | assumption | grind) | grind)), (by (try clear ih); (try clear hk); (first | assumption | (dsimp only; first | assumption | grind) | grind))⟩
    · refine pu_neg q1 ?_
      obtain ⟨r4, h2, p3, p4, p5⟩ := T_Rep_visit g ct ad fx us x4 x2 (by (try clear ih); (try clear hk); (first | assumption | (dsimp only; first | assumption | grind) | grind)) (by (try clear ih); (try clear hk); (first | assumption | (dsimp only; first | assumption | grind) | grind)) (by (try clear ih); (try clear hk); (first | assumption | (dsimp only; first | assumption | grind) | grind)) (by (try clear ih); (try clear hk); (first | assumption | (dsimp only; first | assumption | grind) | grind))
      refine pu_bind h2 ?_
      clear h2
      refine pu_t (fun E6 w6 => ?_) (fun v7 w7 => ?_)
      · skip
        exact ⟨_, rfl, (tV_u p3 w6), (by (try clear ih); (try clear hk); (first | assumption | (dsimp only; first | assumption | grind) | grind)), (by (try clear ih); (try clear hk); (first | assumption | (dsimp only; first | assumption | grind) | grind)), (by (try clear ih); (try clear hk); (first | assumption | (dsimp only; first | assumption | grind) | grind)), (by (try clear ih); (try clear hk); (first | assumption | (dsimp only; first | assumption | grind) | grind))⟩
      · skip
        by_cases q8 : v7 = 0
        · refine pu_pos q8 ?_
          exact ih r4.2.1 ct lc ad r4.2.2.1 r4.2.2.2 x1 x2 x3 (x4 + 1) (by (try clear ih); (try clear hk); (first | assumption | (dsimp only; first | assumption | grind) | grind)) (by (try clear ih); (try clear hk); (first | assumption | (dsimp only; first | assumption | grind) | grind)) (by (try clear ih); (try clear hk); (first | assumption | (dsimp only; first | assumption | grind) | grind)) (by (try clear ih); (try clear hk); (first | assumption | (dsimp only; first | assumption | grind) | grind)) (by (try clear ih); (try clear hk); (first | assumption | (dsimp only; first | assumption | grind) | grind)) hmr (tm1 (by (try clear ih); (try clear hk); (first | assumption | (dsimp only; first | assumption | grind) | grind)) hm)
        · refine pu_neg q8 ?_
          by_cases q9 : 5 ≤ x2
          · refine pu_pos q9 ?_
            exact ih r4.2.1 ct lc ad r4.2.2.1 r4.2.2.2 x1 x2 x3 (x4 + 1) (by (try clear ih); (try clear hk); (first | assumption | (dsimp only; first | assumption | grind) | grind)) (by (try clear ih); (try clear hk); (first | assumption | (dsimp only; first | assumption | grind) | grind)) (by (try clear ih); (try clear hk); (first | assumption | (dsimp only; first | assumption | grind) | grind)) (by (try clear ih); (try clear hk); (first | assumption | (dsimp only; first | assumption | grind) | grind)) (by (try clear ih); (try clear hk); (first | assumption | (dsimp only; first | assumption | grind) | grind)) hmr (tm1 (by (try clear ih); (try clear hk); (first | assumption | (dsimp only; first | assumption | grind) | grind)) hm)
          · refine pu_neg q9 ?_
            obtain ⟨r11, h10, p11, p12, p13, p14, p15⟩ := hk r4.2.1 ct lc ad r4.2.2.1 r4.2.2.2 v7 (x2 + 1) (by (try clear ih); (try clear hk); (first | assumption | (dsimp only; first | assumption | grind) | grind)) (by (try clear ih); (try clear hk); (first | assumption | (dsimp only; first | assumption | grind) | grind)) (by (try clear ih); (try clear hk); (first | assumption | (dsimp only; first | assumption | grind) | grind)) (by (try clear ih); (try clear hk); (first | assumption | (dsimp only; first | assumption | grind) | grind)) (tm1 (by (try clear ih); (try clear hk); (first | assumption | (dsimp only; first | assumption | grind) | grind)) hmr)
            refine pu_bind h10 ?_
            clear h10
            refine pu_t (fun E13 w16 => ?_) (fun v14 w17 => ?_)
            · skip
              exact ⟨_, rfl, (tV_u p11 w16), (by (try clear ih); (try clear hk); (first | assumption | (dsimp only; first | assumption | grind) | grind)), (by (try clear ih); (try clear hk); (first | assumption | (dsimp only; first | assumption | grind) | grind)), (by (try clear ih); (try clear hk); (first | assumption | (dsimp only; first | assumption | grind) | grind)), (by (try clear ih); (try clear hk); (first | assumption | (dsimp only; first | assumption | grind) | grind))⟩
            · skip
              obtain ⟨r16, h18, p19, p20⟩ := T_Folder_load r11.2.1.2.2.2.2.2.2.2.2.2 r11.2.2.1 r11.2.2.2.1 r11.2.2.2.2.1 x1 (by (try clear ih); (try clear hk); (first | assumption | (dsimp only; first | assumption | grind) | grind)) (by (try clear ih); (try clear hk); (first | assumption | (dsimp only; first | assumption | grind) | grind))
              refine pu_bind h18 ?_
              clear h18
              exact ih r11.2.1 r16.1 r16.2.1 r16.2.2 r11.2.2.2.2.2.1 r11.2.2.2.2.2.2 x1 x2 x3 (x4 + 1) (by (try clear ih); (try clear hk); (first | assumption | (dsimp only; first | assumption | grind) | grind)) (by (try clear ih); (try clear hk); (first | assumption | (dsimp only; first | assumption | grind) | grind)) (by (try clear ih); (try clear hk); (first | assumption | (dsimp only; first | assumption | grind) | grind)) (by (try clear ih); (try clear hk); (first | assumption | (dsimp only; first | assumption | grind) | grind)) (by (try clear ih); (try clear hk); (first | assumption | (dsimp only; first | assumption | grind) | grind)) hmr (tm1 (by (try clear ih); (try clear hk); (first | assumption | (dsimp only; first | assumption | grind) | grind)) hm)
