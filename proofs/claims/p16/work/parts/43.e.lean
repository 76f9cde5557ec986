set_option maxHeartbeats 4000000 in
theorem T_Ses_isOpen (en : Nat → Int32) (x1 : Int32)  : ∃ r : Int32, f_Ses_isOpen en x1 = some r ∧ (r = 0 ∨ r = 1) := by
  rw [f_Ses_isOpen]
  by_cases q1 : x1 < 0
  · refine pu_pos q1 ?_
    exact ⟨_, rfl, (by (first | assumption | (dsimp only; first | assumption | grind) | grind))⟩
  · refine pu_neg q1 ?_
    by_cases q2 : 4 ≤ x1
    · refine pu_pos q2 ?_
      exact ⟨_, rfl, (by (first | assumption | (dsimp only; first | assumption | grind) | grind))⟩
    · refine pu_neg q2 ?_
      refine pu_pos (ti 4 (by (first | assumption | (dsimp only; first | assumption | grind) | grind)) (by (first | assumption | (dsimp only; first | assumption | grind) | grind)) rfl) ?_
      by_cases q3 : (en x1.toNatClampNeg) = (-1)
      · refine pu_pos q3 ?_
        exact ⟨_, rfl, (by (first | assumption | (dsimp only; first | assumption | grind) | grind))⟩
      · refine pu_neg q3 ?_
        exact ⟨_, rfl, (by (first | assumption | (dsimp only; first | assumption | grind) | grind))⟩
set_option maxHeartbeats 4000000 in
theorem T_Ses_drop (en : Nat → Int32) (x1 : Int32)  : ∃ r : (Nat → Int32), f_Ses_drop en x1 = some r ∧ True := by
  rw [f_Ses_drop]
  by_cases q1 : x1 < 0
  · refine pu_pos q1 ?_
    exact ⟨_, rfl, trivial⟩
  · refine pu_neg q1 ?_
    by_cases q2 : 4 ≤ x1
    · refine pu_pos q2 ?_
      exact ⟨_, rfl, trivial⟩
    · refine pu_neg q2 ?_
      refine pu_pos (ti 4 (by (first | assumption | (dsimp only; first | assumption | grind) | grind)) (by (first | assumption | (dsimp only; first | assumption | grind) | grind)) rfl) ?_
      exact ⟨_, rfl, trivial⟩
set_option maxHeartbeats 4000000 in
theorem T_V_close (en : Nat → Int32) (x1 : Int32)  : ∃ r : Int32 × (Nat → Int32), f_V_close en x1 = some r ∧ (r.1 = 0 ∨ r.1 = 1) := by
  rw [f_V_close]
  obtain ⟨r1, h1, p2⟩ := T_Ses_isOpen en x1 
  refine pu_bind h1 ?_
  clear h1
  by_cases q3 : r1 = 0
  · refine pu_pos q3 ?_
    exact ⟨_, rfl, (by (first | assumption | (dsimp only; first | assumption | grind) | grind))⟩
  · refine pu_neg q3 ?_
    obtain ⟨r4, h4, p5⟩ := T_Ses_drop en x1 
    refine pu_bind h4 ?_
    clear h4
    exact ⟨_, rfl, (by (first | assumption | (dsimp only; first | assumption | grind) | grind))⟩
set_option maxHeartbeats 4000000 in
theorem T_Ses_entryOf (en : Nat → Int32) (x1 : Int32)  : ∃ r : Int32, f_Ses_entryOf en x1 = some r ∧ True := by
  rw [f_Ses_entryOf]
  by_cases q1 : x1 < 0
  · refine pu_pos q1 ?_
    exact ⟨_, rfl, trivial⟩
  · refine pu_neg q1 ?_
    by_cases q2 : 4 ≤ x1
    · refine pu_pos q2 ?_
      exact ⟨_, rfl, trivial⟩
    · refine pu_neg q2 ?_
      refine pu_pos (ti 4 (by (first | assumption | (dsimp only; first | assumption | grind) | grind)) (by (first | assumption | (dsimp only; first | assumption | grind) | grind)) rfl) ?_
      exact ⟨_, rfl, trivial⟩
set_option maxHeartbeats 4000000 in
theorem T_V_sizeOfFile (en : Nat → Int32) (bt : Nat → Int32) (x1 : Int32)  : ∃ r : Int32, f_V_sizeOfFile en bt x1 = some r ∧ True := by
  rw [f_V_sizeOfFile]
  obtain ⟨r1, h1, p2⟩ := T_Ses_entryOf en x1 
  refine pu_bind h1 ?_
  clear h1
  obtain ⟨r3, h3, p4⟩ := T_Disk_pairAt bt (r1 + 10) 
  refine pu_bind h3 ?_
  clear h3
  exact ⟨_, rfl, trivial⟩
set_option maxHeartbeats 4000000 in
theorem T_Ses_moveTo (po : Nat → Int32) (x1 : Int32) (x2 : Int32)  : ∃ r : (Nat → Int32), f_Ses_moveTo po x1 x2 = some r ∧ True := by
  rw [f_Ses_moveTo]
  by_cases q1 : x1 < 0
  · refine pu_pos q1 ?_
    exact ⟨_, rfl, trivial⟩
  · refine pu_neg q1 ?_
    by_cases q2 : 4 ≤ x1
    · refine pu_pos q2 ?_
      exact ⟨_, rfl, trivial⟩
    · refine pu_neg q2 ?_
      refine pu_pos (ti 4 (by (first | assumption | (dsimp only; first | assumption | grind) | grind)) (by (first | assumption | (dsimp only; first | assumption | grind) | grind)) rfl) ?_
      exact ⟨_, rfl, trivial⟩
set_option maxHeartbeats 4000000 in
theorem T_V_seek (en : Nat → Int32) (po : Nat → Int32) (bt : Nat → Int32) (x1 : Int32) (x2 : Int32)  : ∃ r : Int32 × (Nat → Int32), f_V_seek en po bt x1 x2 = some r ∧ (r.1 = 0 ∨ r.1 = 1) := by
  rw [f_V_seek]
  obtain ⟨r1, h1, p2⟩ := T_Ses_isOpen en x1 
  refine pu_bind h1 ?_
  clear h1
  by_cases q3 : r1 = 0
  · refine pu_pos q3 ?_
    exact ⟨_, rfl, (by (first | assumption | (dsimp only; first | assumption | grind) | grind))⟩
  · refine pu_neg q3 ?_
    by_cases q4 : x2 < 0
    · refine pu_pos q4 ?_
      exact ⟨_, rfl, (by (first | assumption | (dsimp only; first | assumption | grind) | grind))⟩
    · refine pu_neg q4 ?_
      obtain ⟨r5, h5, p6⟩ := T_V_sizeOfFile en bt x1 
      refine pu_bind h5 ?_
      clear h5
      by_cases q7 : x2 ≤ r5
      · refine pu_pos q7 ?_
        obtain ⟨r8, h8, p9⟩ := T_Ses_moveTo po x1 x2 
        refine pu_bind h8 ?_
        clear h8
        exact ⟨_, rfl, (by (first | assumption | (dsimp only; first | assumption | grind) | grind))⟩
      · refine pu_neg q7 ?_
        exact ⟨_, rfl, (by (first | assumption | (dsimp only; first | assumption | grind) | grind))⟩
set_option maxHeartbeats 4000000 in
theorem T_Ses_positionOf (po : Nat → Int32) (x1 : Int32)  : ∃ r : Int32, f_Ses_positionOf po x1 = some r ∧ True := by
  rw [f_Ses_positionOf]
  by_cases q1 : x1 < 0
  · refine pu_pos q1 ?_
    exact ⟨_, rfl, trivial⟩
  · refine pu_neg q1 ?_
    by_cases q2 : 4 ≤ x1
    · refine pu_pos q2 ?_
      exact ⟨_, rfl, trivial⟩
    · refine pu_neg q2 ?_
      refine pu_pos (ti 4 (by (first | assumption | (dsimp only; first | assumption | grind) | grind)) (by (first | assumption | (dsimp only; first | assumption | grind) | grind)) rfl) ?_
      exact ⟨_, rfl, trivial⟩
set_option maxHeartbeats 4000000 in
theorem T_Table_clusterAt_L5 : ∀ (fuel : Nat) (bt : Nat → Int32) (x2 : Int32) (x3 : Int32) (x4 : Int32), 0 ≤ x4 → tm x2 x4 fuel → ∃ r : Int32, f_Table_clusterAt_L5 fuel bt x2 x3 x4 = some r ∧ True := by
  intro fuel
  induction fuel with
  | zero =>
    intro bt x2 x3 x4 h0_ hm
    exact (tm0 hm).elim
  | succ fuel ih =>
    intro bt x2 x3 x4 h0_ hm
    rw [f_Table_clusterAt_L5]
    by_cases q1 : x2 ≤ x4
    · refine pu_pos q1 ?_
      obtain ⟨r2, h2, p3⟩ := T_V_isCluster x3 
      refine pu_bind h2 ?_
      clear h2
      by_cases q4 : r2 = 0
      · refine pu_pos q4 ?_
        exact ⟨_, rfl, trivial⟩
      · refine pu_neg q4 ?_
        exact ⟨_, rfl, trivial⟩
    · refine pu_neg q1 ?_
      by_cases q5 : 64 ≤ x4
      · refine pu_pos q5 ?_
        obtain ⟨r6, h6, p7⟩ := T_V_isCluster x3 
        refine pu_bind h6 ?_
        clear h6
        by_cases q8 : r6 = 0
        · refine pu_pos q8 ?_
          exact ⟨_, rfl, trivial⟩
        · refine pu_neg q8 ?_
          exact ⟨_, rfl, trivial⟩
      · refine pu_neg q5 ?_
        obtain ⟨r9, h9, p10⟩ := T_V_isCluster x3 
        refine pu_bind h9 ?_
        clear h9
        by_cases q11 : r9 = 0
        · refine pu_pos q11 ?_
          obtain ⟨r12, h12, p13⟩ := T_V_isCluster x3 
          refine pu_bind h12 ?_
          clear h12
          by_cases q14 : r12 = 0
          · refine pu_pos q14 ?_
            exact ⟨_, rfl, trivial⟩
          · refine pu_neg q14 ?_
            exact ⟨_, rfl, trivial⟩
        · refine pu_neg q11 ?_
          obtain ⟨r15, h15, p16⟩ := T_Table_cell bt x3 
          refine pu_bind h15 ?_
          clear h15
          exact ih bt x2 r15 (x4 + 1) (by (try clear ih); (first | assumption | (dsimp only; first | assumption | grind) | grind)) (tm1 (by (try clear ih); (first | assumption | (dsimp only; first | assumption | grind) | grind)) hm)
set_option maxHeartbeats 4000000 in
theorem T_Table_clusterAt (bt : Nat → Int32) (x1 : Int32) (x2 : Int32)  : ∃ r : Int32, f_Table_clusterAt bt x1 x2 = some r ∧ True := by
  rw [f_Table_clusterAt]
  exact T_Table_clusterAt_L5 100000000000 bt x2 x1 0 (by (first | assumption | (dsimp only; first | assumption | grind) | grind)) (tmz _ _)
set_option maxHeartbeats 4000000 in
theorem T_V_addressInChain (bt : Nat → Int32) (x1 : Int32) (x2 : Int32)  : ∃ r : Int32, f_V_addressInChain bt x1 x2 = some r ∧ True := by
  rw [f_V_addressInChain]
  obtain ⟨r1, h1, p2⟩ := T_Table_clusterAt bt x1 (x2 / 32) 
  refine pu_bind h1 ?_
  clear h1
  obtain ⟨r3, h3, p4⟩ := T_V_sectorOf r1 
  refine pu_bind h3 ?_
  clear h3
  exact ⟨_, rfl, trivial⟩
set_option maxHeartbeats 4000000 in
theorem T_V_read_L84 : ∀ (fuel : Nat) (en : Nat → Int32) (po : Nat → Int32) (pw : Int32) (su : Int32) (bt : Nat → Int32) (x1 : Int32) (x3 : Int32) (x4 : Int32) (x5 : Int32) (x6 : Int64) (x8 : Int32), 0 ≤ x8 → tm x5 x8 fuel → ∃ r : (String ⊕ Int64) × (Nat → Int32), f_V_read_L84 fuel en po pw su bt x1 x3 x4 x5 x6 x8 = some r ∧ tV "java/lang/IllegalArgumentException" "java/lang/IllegalArgumentException" r.1 := by
  intro fuel
  induction fuel with
  | zero =>
    intro en po pw su bt x1 x3 x4 x5 x6 x8 h0_ hm
    exact (tm0 hm).elim
  | succ fuel ih =>
    intro en po pw su bt x1 x3 x4 x5 x6 x8 h0_ hm
    rw [f_V_read_L84]
    by_cases q1 : x5 ≤ x8
    · refine pu_pos q1 ?_
      obtain ⟨r20, h2, p3⟩ := T_Ses_moveTo po x1 (x3 + x5) 
      refine pu_bind h2 ?_
      clear h2
      exact ⟨_, rfl, tV_r⟩
    · refine pu_neg q1 ?_
      obtain ⟨r22, h4, p5⟩ := T_V_addressInChain bt x4 (x3 + x8) 
      refine pu_bind h4 ?_
      clear h4
      obtain ⟨r24, h6, p7⟩ := T_Disk_at bt r22 
      refine pu_bind h6 ?_
      clear h6
      exact ih en po pw su bt x1 x3 x4 x5 ((x6 <<< ((8 : Int32).toInt64 &&& 63)) ||| r24.toInt64) (x8 + 1) (by (try clear ih); (first | assumption | (dsimp only; first | assumption | grind) | grind)) (tm1 (by (try clear ih); (first | assumption | (dsimp only; first | assumption | grind) | grind)) hm)
set_option maxHeartbeats 4000000 in
theorem T_V_read (en : Nat → Int32) (po : Nat → Int32) (pw : Int32) (su : Int32) (bt : Nat → Int32) (x1 : Int32) (x2 : Int32)  : ∃ r : (String ⊕ Int64) × (Nat → Int32), f_V_read en po pw su bt x1 x2 = some r ∧ tV "java/lang/IllegalArgumentException" "java/lang/IllegalArgumentException" r.1 := by
  rw [f_V_read]
  obtain ⟨r1, h1, p2⟩ := T_V_demandSoundDisk pw su 
  refine pu_bind h1 ?_
  clear h1
  refine pu_t (fun E3 w3 => ?_) (fun v4 w4 => ?_)
  · skip
    exact ⟨_, rfl, (tV_u p2 w3)⟩
  · skip
    obtain ⟨r6, h5, p6⟩ := T_Ses_isOpen en x1 
    refine pu_bind h5 ?_
    clear h5
    by_cases q7 : r6 = 0
    · refine pu_pos q7 ?_
      exact ⟨_, rfl, tV_a⟩
    · refine pu_neg q7 ?_
      by_cases q8 : x2 < 1
      · refine pu_pos q8 ?_
        exact ⟨_, rfl, tV_a⟩
      · refine pu_neg q8 ?_
        by_cases q9 : x2 ≤ 7
        · refine pu_pos q9 ?_
          obtain ⟨r11, h10, p11⟩ := T_Ses_positionOf po x1 
          refine pu_bind h10 ?_
          clear h10
          obtain ⟨r13, h12, p13⟩ := T_Ses_entryOf en x1 
          refine pu_bind h12 ?_
          clear h12
          obtain ⟨r15, h14, p15⟩ := T_Disk_pairAt bt (r13 + 8) 
          refine pu_bind h14 ?_
          clear h14
          obtain ⟨r17, h16, p17⟩ := T_V_sizeOfFile en bt x1 
          refine pu_bind h16 ?_
          clear h16
          exact T_V_read_L84 100000000000 en po pw su bt x1 r11 r15 (if (r17 - r11) < x2 then (r17 - r11) else x2) 0 0 (by (first | assumption | (dsimp only; first | assumption | grind) | grind)) (tmz _ _)
        · refine pu_neg q9 ?_
          exact ⟨_, rfl, tV_a⟩
set_option maxHeartbeats 4000000 in
theorem T_Table_lengthOf_L4 : ∀ (fuel : Nat) (bt : Nat → Int32) (x2 : Int32) (x3 : Int32), 0 ≤ x3 → tm 64 x3 fuel → ∃ r : Int32, f_Table_lengthOf_L4 fuel bt x2 x3 = some r ∧ True := by
  intro fuel
  induction fuel with
  | zero =>
    intro bt x2 x3 h0_ hm
    exact (tm0 hm).elim
  | succ fuel ih =>
    intro bt x2 x3 h0_ hm
    rw [f_Table_lengthOf_L4]
    by_cases q1 : 64 ≤ x3
    · refine pu_pos q1 ?_
      exact ⟨_, rfl, trivial⟩
    · refine pu_neg q1 ?_
      obtain ⟨r2, h2, p3⟩ := T_V_isCluster x2 
      refine pu_bind h2 ?_
      clear h2
      by_cases q4 : r2 = 0
      · refine pu_pos q4 ?_
        exact ⟨_, rfl, trivial⟩
      · refine pu_neg q4 ?_
        obtain ⟨r5, h5, p6⟩ := T_Table_cell bt x2 
        refine pu_bind h5 ?_
        clear h5
        exact ih bt r5 (x3 + 1) (by (try clear ih); (first | assumption | (dsimp only; first | assumption | grind) | grind)) (tm1 (by (try clear ih); (first | assumption | (dsimp only; first | assumption | grind) | grind)) hm)
set_option maxHeartbeats 4000000 in
theorem T_Table_lengthOf (bt : Nat → Int32) (x1 : Int32)  : ∃ r : Int32, f_Table_lengthOf bt x1 = some r ∧ True := by
  rw [f_Table_lengthOf]
  exact T_Table_lengthOf_L4 100000000000 bt x1 0 (by (first | assumption | (dsimp only; first | assumption | grind) | grind)) (tmz _ _)
set_option maxHeartbeats 4000000 in
theorem T_V_roomAfterGrowing_L22 : ∀ (fuel : Nat) (g : am_WS) (x1 : Int32) (x2 : Int32) (x3 : Int32) (x4 : Int32), 0 ≤ g.1 → g.1 ≤ 26 → 0 ≤ x4 → tm 64 x4 fuel → ∃ r : (String ⊕ Int32) × am_WS, f_V_roomAfterGrowing_L22 fuel g x1 x2 x3 x4 = some r ∧ tV "java/lang/IllegalStateException" "java/lang/IllegalStateException" r.1 ∧ 0 ≤ r.2.1 ∧ r.2.1 ≤ 26 := by
  intro fuel
  induction fuel with
  | zero =>
    intro g x1 x2 x3 x4 h0_ h1_ h2_ hm
    exact (tm0 hm).elim
  | succ fuel ih =>
    intro g x1 x2 x3 x4 h0_ h1_ h2_ hm
    rw [f_V_roomAfterGrowing_L22]
    by_cases q1 : 64 ≤ x4
    · refine pu_pos q1 ?_
      exact ⟨_, rfl, tV_r, (by (try clear ih); (first | assumption | (dsimp only; first | assumption | grind) | grind)), (by (try clear ih); (first | assumption | (dsimp only; first | assumption | grind) | grind))⟩
    · refine pu_neg q1 ?_
      by_cases q2 : x2 ≤ (x3 * 32)
      · refine pu_pos q2 ?_
        exact ⟨_, rfl, tV_r, (by (try clear ih); (first | assumption | (dsimp only; first | assumption | grind) | grind)), (by (try clear ih); (first | assumption | (dsimp only; first | assumption | grind) | grind))⟩
      · refine pu_neg q2 ?_
        obtain ⟨r7, h3, p4, p5, p6⟩ := T_Table_take g (by (try clear ih); (first | assumption | (dsimp only; first | assumption | grind) | grind)) (by (try clear ih); (first | assumption | (dsimp only; first | assumption | grind) | grind))
        refine pu_bind h3 ?_
        clear h3
        refine pu_t (fun E9 w7 => ?_) (fun v10 w8 => ?_)
        · skip
          exact ⟨_, rfl, (tV_u p4 w7), (by (try clear ih); (first | assumption | (dsimp only; first | assumption | grind) | grind)), (by (try clear ih); (first | assumption | (dsimp only; first | assumption | grind) | grind))⟩
        · skip
          by_cases q9 : v10 = 0
          · refine pu_pos q9 ?_
            exact ⟨_, rfl, tV_r, (by (try clear ih); (first | assumption | (dsimp only; first | assumption | grind) | grind)), (by (try clear ih); (first | assumption | (dsimp only; first | assumption | grind) | grind))⟩
          · refine pu_neg q9 ?_
            by_cases q10 : x3 = 0
            · refine pu_pos q10 ?_
              obtain ⟨r23, h11, p12, p13, p14⟩ := T_Disk_writePair r7.2 (x1 + 8) v10 (by (try clear ih); (first | assumption | (dsimp only; first | assumption | grind) | grind)) (by (try clear ih); (first | assumption | (dsimp only; first | assumption | grind) | grind))
              refine pu_bind h11 ?_
              clear h11
              refine pu_t (fun E25 w15 => ?_) (fun v26 w16 => ?_)
              · skip
                exact ⟨_, rfl, (tV_u p12 w15), (by (try clear ih); (first | assumption | (dsimp only; first | assumption | grind) | grind)), (by (try clear ih); (first | assumption | (dsimp only; first | assumption | grind) | grind))⟩
              · skip
                exact ih r23.2 x1 x2 (x3 + 1) (x4 + 1) (by (try clear ih); (first | assumption | (dsimp only; first | assumption | grind) | grind)) (by (try clear ih); (first | assumption | (dsimp only; first | assumption | grind) | grind)) (by (try clear ih); (first | assumption | (dsimp only; first | assumption | grind) | grind)) (tm1 (by (try clear ih); (first | assumption | (dsimp only; first | assumption | grind) | grind)) hm)
            · refine pu_neg q10 ?_
              obtain ⟨r14, h17, p18⟩ := T_Disk_pairAt r7.2.2.2.2.2.2.2.2.2.2 (x1 + 8) 
              refine pu_bind h17 ?_
              clear h17
              obtain ⟨r16, h19, p20⟩ := T_Table_clusterAt r7.2.2.2.2.2.2.2.2.2.2 r14 (x3 - 1) 
              refine pu_bind h19 ?_
              clear h19
              obtain ⟨r18, h21, p22, p23, p24⟩ := T_Table_set r7.2 r16 v10 (by (try clear ih); (first | assumption | (dsimp only; first | assumption | grind) | grind)) (by (try clear ih); (first | assumption | (dsimp only; first | assumption | grind) | grind))
              refine pu_bind h21 ?_
              clear h21
              refine pu_t (fun E20 w25 => ?_) (fun v21 w26 => ?_)
              · skip
                exact ⟨_, rfl, (tV_u p22 w25), (by (try clear ih); (first | assumption | (dsimp only; first | assumption | grind) | grind)), (by (try clear ih); (first | assumption | (dsimp only; first | assumption | grind) | grind))⟩
              · skip
                exact ih r18.2 x1 x2 (x3 + 1) (x4 + 1) (by (try clear ih); (first | assumption | (dsimp only; first | assumption | grind) | grind)) (by (try clear ih); (first | assumption | (dsimp only; first | assumption | grind) | grind)) (by (try clear ih); (first | assumption | (dsimp only; first | assumption | grind) | grind)) (tm1 (by (try clear ih); (first | assumption | (dsimp only; first | assumption | grind) | grind)) hm)
set_option maxHeartbeats 4000000 in
theorem T_V_roomAfterGrowing (g : am_WS) (x1 : Int32) (x2 : Int32) (h0_ : 0 ≤ g.1) (h1_ : g.1 ≤ 26) : ∃ r : (String ⊕ Int32) × am_WS, f_V_roomAfterGrowing g x1 x2 = some r ∧ tV "java/lang/IllegalStateException" "java/lang/IllegalStateException" r.1 ∧ 0 ≤ r.2.1 ∧ r.2.1 ≤ 26 := by
  rw [f_V_roomAfterGrowing]
  obtain ⟨r1, h1, p2⟩ := T_Disk_pairAt g.2.2.2.2.2.2.2.2.2 (x1 + 8) 
  refine pu_bind h1 ?_
  clear h1
  obtain ⟨r3, h3, p4⟩ := T_Table_lengthOf g.2.2.2.2.2.2.2.2.2 r1 
  refine pu_bind h3 ?_
  clear h3
  exact T_V_roomAfterGrowing_L22 100000000000 g x1 x2 r3 0 (by (first | assumption | (dsimp only; first | assumption | grind) | grind)) (by (first | assumption | (dsimp only; first | assumption | grind) | grind)) (by (first | assumption | (dsimp only; first | assumption | grind) | grind)) (tmz _ _)
set_option maxHeartbeats 4000000 in
theorem T_V_spread_L3 : ∀ (fuel : Nat) (rw : Nat → Int32) (x1 : Int64) (x3 : Int32) (x4 : Int32), 0 ≤ x4 → x3 ≤ 8 → tm x3 x4 fuel → ∃ r : (Nat → Int32), f_V_spread_L3 fuel rw x1 x3 x4 = some r ∧ True := by
  intro fuel
  induction fuel with
  | zero =>
    intro rw x1 x3 x4 h0_ h1_ hm
    exact (tm0 hm).elim
  | succ fuel ih =>
    intro rw x1 x3 x4 h0_ h1_ hm
    rw [f_V_spread_L3]
    by_cases q1 : x3 ≤ x4
    · refine pu_pos q1 ?_
      exact ⟨_, rfl, trivial⟩
    · refine pu_neg q1 ?_
      refine pu_pos (ti 16 (by (try clear ih); (first | assumption | (dsimp only; first | assumption | grind) | grind)) (by (try clear ih); (first | assumption | (dsimp only; first | assumption | grind) | grind)) rfl) ?_
      exact ih (upd rw x4.toNatClampNeg (((x1 >>> ((8 * ((x3 - 1) - x4)).toInt64 &&& 63)).toInt32) &&& 255)) x1 x3 (x4 + 1) (by (try clear ih); (first | assumption | (dsimp only; first | assumption | grind) | grind)) (by (try clear ih); (first | assumption | (dsimp only; first | assumption | grind) | grind)) (tm1 (by (try clear ih); (first | assumption | (dsimp only; first | assumption | grind) | grind)) hm)
set_option maxHeartbeats 4000000 in
theorem T_V_spread (rw : Nat → Int32) (x1 : Int64) (x3 : Int32) (h0_ : x3 ≤ 8) : ∃ r : (Nat → Int32), f_V_spread rw x1 x3 = some r ∧ True := by
  rw [f_V_spread]
  exact T_V_spread_L3 100000000000 rw x1 x3 0 (by (first | assumption | (dsimp only; first | assumption | grind) | grind)) (by (first | assumption | (dsimp only; first | assumption | grind) | grind)) (tmz _ _)
set_option maxHeartbeats 4000000 in
theorem T_V_writeData_L6 : ∀ (fuel : Nat) (g : am_WS) (rw : Nat → Int32) (x1 : Int32) (x2 : Int32) (x3 : Int32) (x4 : Int32) (x5 : Int32), 0 ≤ g.1 → g.1 ≤ 26 → 0 ≤ x5 → tm 8 x5 fuel → ∃ r : (String ⊕ Unit) × am_WS, f_V_writeData_L6 fuel g rw x1 x2 x3 x4 x5 = some r ∧ tV "java/lang/IllegalStateException" "java/lang/IllegalStateException" r.1 ∧ 0 ≤ r.2.1 ∧ r.2.1 ≤ 26 := by
  intro fuel
  induction fuel with
  | zero =>
    intro g rw x1 x2 x3 x4 x5 h0_ h1_ h2_ hm
    exact (tm0 hm).elim
  | succ fuel ih =>
    intro g rw x1 x2 x3 x4 x5 h0_ h1_ h2_ hm
    rw [f_V_writeData_L6]
    by_cases q1 : 8 ≤ x5
    · refine pu_pos q1 ?_
      exact ⟨_, rfl, tV_r, (by (try clear ih); (first | assumption | (dsimp only; first | assumption | grind) | grind)), (by (try clear ih); (first | assumption | (dsimp only; first | assumption | grind) | grind))⟩
    · refine pu_neg q1 ?_
      by_cases q2 : x3 ≤ x4
      · refine pu_pos q2 ?_
        exact ⟨_, rfl, tV_r, (by (try clear ih); (first | assumption | (dsimp only; first | assumption | grind) | grind)), (by (try clear ih); (first | assumption | (dsimp only; first | assumption | grind) | grind))⟩
      · refine pu_neg q2 ?_
        obtain ⟨r3, h3, p4⟩ := T_V_addressInChain g.2.2.2.2.2.2.2.2.2 x1 (x2 + x4) 
        refine pu_bind h3 ?_
        clear h3
        obtain ⟨r5, h5, p6, p7, p8⟩ := T_Disk_writeRow g rw r3 x4 (if (x3 - x4) < (32 - ((x2 + x4) - (x2 + x4) / 32 * 32)) then (x3 - x4) else (32 - ((x2 + x4) - (x2 + x4) / 32 * 32))) (by (try clear ih); (first | assumption | (dsimp only; first | assumption | grind) | grind)) (by (try clear ih); (first | assumption | (dsimp only; first | assumption | grind) | grind))
        refine pu_bind h5 ?_
        clear h5
        refine pu_t (fun E7 w9 => ?_) (fun v8 w10 => ?_)
        · skip
          exact ⟨_, rfl, (tV_u p6 w9), (by (try clear ih); (first | assumption | (dsimp only; first | assumption | grind) | grind)), (by (try clear ih); (first | assumption | (dsimp only; first | assumption | grind) | grind))⟩
        · skip
          exact ih r5.2 rw x1 x2 x3 (x4 + (if (x3 - x4) < (32 - ((x2 + x4) - (x2 + x4) / 32 * 32)) then (x3 - x4) else (32 - ((x2 + x4) - (x2 + x4) / 32 * 32)))) (x5 + 1) (by (try clear ih); (first | assumption | (dsimp only; first | assumption | grind) | grind)) (by (try clear ih); (first | assumption | (dsimp only; first | assumption | grind) | grind)) (by (try clear ih); (first | assumption | (dsimp only; first | assumption | grind) | grind)) (tm1 (by (try clear ih); (first | assumption | (dsimp only; first | assumption | grind) | grind)) hm)
set_option maxHeartbeats 4000000 in
theorem T_V_writeData (g : am_WS) (rw : Nat → Int32) (x1 : Int32) (x2 : Int32) (x3 : Int32) (h0_ : 0 ≤ g.1) (h1_ : g.1 ≤ 26) : ∃ r : (String ⊕ Unit) × am_WS, f_V_writeData g rw x1 x2 x3 = some r ∧ tV "java/lang/IllegalStateException" "java/lang/IllegalStateException" r.1 ∧ 0 ≤ r.2.1 ∧ r.2.1 ≤ 26 := by
  rw [f_V_writeData]
  exact T_V_writeData_L6 100000000000 g rw x1 x2 x3 0 0 (by (first | assumption | (dsimp only; first | assumption | grind) | grind)) (by (first | assumption | (dsimp only; first | assumption | grind) | grind)) (by (first | assumption | (dsimp only; first | assumption | grind) | grind)) (tmz _ _)
set_option maxHeartbeats 4000000 in
theorem T_V_write (g : am_WS) (su : Int32) (rw : Nat → Int32) (x1 : Int32) (x2 : Int64) (x4 : Int32) (h0_ : 0 ≤ g.1) (h1_ : g.1 ≤ 26) : ∃ r : (String ⊕ Int32) × am_WS × (Nat → Int32), f_V_write g su rw x1 x2 x4 = some r ∧ tV "java/lang/IllegalArgumentException" "java/lang/UnsupportedOperationException" r.1 ∧ 0 ≤ r.2.1.1 ∧ r.2.1.1 ≤ 26 := by
  rw [f_V_write]
  obtain ⟨r1, h1, p2⟩ := T_V_demandSoundDisk g.2.2.2.2.2.1 su 
  refine pu_bind h1 ?_
  clear h1
  refine pu_t (fun E3 w3 => ?_) (fun v4 w4 => ?_)
  · skip
    exact ⟨_, rfl, (tV_u p2 w3), (by (first | assumption | (dsimp only; first | assumption | grind) | grind)), (by (first | assumption | (dsimp only; first | assumption | grind) | grind))⟩
  · skip
    obtain ⟨r6, h5, p6⟩ := T_Ses_isOpen g.2.2.2.1 x1 
    refine pu_bind h5 ?_
    clear h5
    by_cases q7 : r6 = 0
    · refine pu_pos q7 ?_
      exact ⟨_, rfl, tV_a, (by (first | assumption | (dsimp only; first | assumption | grind) | grind)), (by (first | assumption | (dsimp only; first | assumption | grind) | grind))⟩
    · refine pu_neg q7 ?_
      by_cases q8 : x4 < 1
      · refine pu_pos q8 ?_
        exact ⟨_, rfl, tV_a, (by (first | assumption | (dsimp only; first | assumption | grind) | grind)), (by (first | assumption | (dsimp only; first | assumption | grind) | grind))⟩
      · refine pu_neg q8 ?_
        by_cases q9 : x4 ≤ 8
        · refine pu_pos q9 ?_
          obtain ⟨r11, h10, p11⟩ := T_Ses_positionOf g.2.2.2.2.1 x1 
          refine pu_bind h10 ?_
          clear h10
          obtain ⟨r13, h12, p13⟩ := T_Ses_entryOf g.2.2.2.1 x1 
          refine pu_bind h12 ?_
          clear h12
          by_cases q14 : (r11 + x4) ≤ 1024
          · refine pu_pos q14 ?_
            obtain ⟨r16, h15, p16, p17, p18⟩ := T_V_roomAfterGrowing g r13 (r11 + x4) (by (first | assumption | (dsimp only; first | assumption | grind) | grind)) (by (first | assumption | (dsimp only; first | assumption | grind) | grind))
            refine pu_bind h15 ?_
            clear h15
            refine pu_t (fun E18 w19 => ?_) (fun v19 w20 => ?_)
            · skip
              exact ⟨_, rfl, (tV_u p16 w19), (by (first | assumption | (dsimp only; first | assumption | grind) | grind)), (by (first | assumption | (dsimp only; first | assumption | grind) | grind))⟩
            · skip
              by_cases q21 : 0 < (if (v19 - r11) < x4 then (v19 - r11) else x4)
              · refine pu_pos q21 ?_
                obtain ⟨r22, h22, p23⟩ := T_V_spread rw x2 x4 (by (first | assumption | (dsimp only; first | assumption | grind) | grind))
                refine pu_bind h22 ?_
                clear h22
                obtain ⟨r24, h24, p25⟩ := T_Disk_pairAt r16.2.2.2.2.2.2.2.2.2.2 (r13 + 8) 
                refine pu_bind h24 ?_
                clear h24
                obtain ⟨r26, h26, p27, p28, p29⟩ := T_V_writeData r16.2 r22 r24 r11 (if (v19 - r11) < x4 then (v19 - r11) else x4) (by (first | assumption | (dsimp only; first | assumption | grind) | grind)) (by (first | assumption | (dsimp only; first | assumption | grind) | grind))
                refine pu_bind h26 ?_
                clear h26
                refine pu_t (fun E28 w30 => ?_) (fun v29 w31 => ?_)
                · skip
                  exact ⟨_, rfl, (tV_u p27 w30), (by (first | assumption | (dsimp only; first | assumption | grind) | grind)), (by (first | assumption | (dsimp only; first | assumption | grind) | grind))⟩
                · skip
                  obtain ⟨r31, h32, p33⟩ := T_Disk_pairAt r26.2.2.2.2.2.2.2.2.2.2 (r13 + 10) 
                  refine pu_bind h32 ?_
                  clear h32
                  by_cases q34 : (r11 + (if (v19 - r11) < x4 then (v19 - r11) else x4)) ≤ r31
                  · refine pu_pos q34 ?_
                    obtain ⟨r34, h35, p36⟩ := T_Ses_moveTo r26.2.2.2.2.2.1 x1 (r11 + (if (v19 - r11) < x4 then (v19 - r11) else x4)) 
                    refine pu_bind h35 ?_
                    clear h35
                    exact ⟨_, rfl, tV_r, (by (first | assumption | (dsimp only; first | assumption | grind) | grind)), (by (first | assumption | (dsimp only; first | assumption | grind) | grind))⟩
                  · refine pu_neg q34 ?_
                    obtain ⟨r36, h37, p38, p39, p40⟩ := T_Disk_writePair r26.2 (r13 + 10) (r11 + (if (v19 - r11) < x4 then (v19 - r11) else x4)) (by (first | assumption | (dsimp only; first | assumption | grind) | grind)) (by (first | assumption | (dsimp only; first | assumption | grind) | grind))
                    refine pu_bind h37 ?_
                    clear h37
                    refine pu_t (fun E38 w41 => ?_) (fun v39 w42 => ?_)
                    · skip
                      exact ⟨_, rfl, (tV_u p38 w41), (by (first | assumption | (dsimp only; first | assumption | grind) | grind)), (by (first | assumption | (dsimp only; first | assumption | grind) | grind))⟩
                    · skip
                      obtain ⟨r41, h43, p44⟩ := T_Ses_moveTo r36.2.2.2.2.2.1 x1 (r11 + (if (v19 - r11) < x4 then (v19 - r11) else x4)) 
                      refine pu_bind h43 ?_
                      clear h43
                      exact ⟨_, rfl, tV_r, (by (first | assumption | (dsimp only; first | assumption | grind) | grind)), (by (first | assumption | (dsimp only; first | assumption | grind) | grind))⟩
              · refine pu_neg q21 ?_
                exact ⟨_, rfl, tV_b, (by (first | assumption | (dsimp only; first | assumption | grind) | grind)), (by (first | assumption | (dsimp only; first | assumption | grind) | grind))⟩
          · refine pu_neg q14 ?_
            exact ⟨_, rfl, tV_b, (by (first | assumption | (dsimp only; first | assumption | grind) | grind)), (by (first | assumption | (dsimp only; first | assumption | grind) | grind))⟩
        · refine pu_neg q9 ?_
          exact ⟨_, rfl, tV_a, (by (first | assumption | (dsimp only; first | assumption | grind) | grind)), (by (first | assumption | (dsimp only; first | assumption | grind) | grind))⟩
set_option maxHeartbeats 4000000 in
theorem T_Folder_indexOfNamed_L4 : ∀ (fuel : Nat) (bt : Nat → Int32) (ct : Int32) (ad : Nat → Int32) (x1 : Int32) (x2 : Int32) (x3 : Int32), 0 ≤ ct → ct ≤ 128 → 0 ≤ x3 → tm ct x3 fuel → ∃ r : Int32, f_Folder_indexOfNamed_L4 fuel bt ct ad x1 x2 x3 = some r ∧ True := by
  intro fuel
  induction fuel with
  | zero =>
    intro bt ct ad x1 x2 x3 h0_ h1_ h2_ hm
    exact (tm0 hm).elim
  | succ fuel ih =>
    intro bt ct ad x1 x2 x3 h0_ h1_ h2_ hm
    rw [f_Folder_indexOfNamed_L4]
    by_cases q1 : ct ≤ x3
    · refine pu_pos q1 ?_
      exact ⟨_, rfl, trivial⟩
    · refine pu_neg q1 ?_
      obtain ⟨r2, h2, p3⟩ := T_Folder_isNamed bt ct ad x3 (by (try clear ih); (first | assumption | (dsimp only; first | assumption | grind) | grind)) (by (try clear ih); (first | assumption | (dsimp only; first | assumption | grind) | grind))
      refine pu_bind h2 ?_
      clear h2
      by_cases q4 : r2 = 0
      · refine pu_pos q4 ?_
        exact ih bt ct ad x1 x2 (x3 + 1) (by (try clear ih); (first | assumption | (dsimp only; first | assumption | grind) | grind)) (by (try clear ih); (first | assumption | (dsimp only; first | assumption | grind) | grind)) (by (try clear ih); (first | assumption | (dsimp only; first | assumption | grind) | grind)) (tm1 (by (try clear ih); (first | assumption | (dsimp only; first | assumption | grind) | grind)) hm)
      · refine pu_neg q4 ?_
        by_cases q5 : x2 = x1
        · refine pu_pos q5 ?_
          exact ⟨_, rfl, trivial⟩
        · refine pu_neg q5 ?_
          exact ih bt ct ad x1 (x2 + 1) (x3 + 1) (by (try clear ih); (first | assumption | (dsimp only; first | assumption | grind) | grind)) (by (try clear ih); (first | assumption | (dsimp only; first | assumption | grind) | grind)) (by (try clear ih); (first | assumption | (dsimp only; first | assumption | grind) | grind)) (tm1 (by (try clear ih); (first | assumption | (dsimp only; first | assumption | grind) | grind)) hm)
set_option maxHeartbeats 4000000 in
theorem T_Folder_indexOfNamed (bt : Nat → Int32) (ct : Int32) (ad : Nat → Int32) (x1 : Int32) (h0_ : 0 ≤ ct) (h1_ : ct ≤ 128) : ∃ r : Int32, f_Folder_indexOfNamed bt ct ad x1 = some r ∧ True := by
  rw [f_Folder_indexOfNamed]
  exact T_Folder_indexOfNamed_L4 100000000000 bt ct ad x1 0 0 (by (first | assumption | (dsimp only; first | assumption | grind) | grind)) (by (first | assumption | (dsimp only; first | assumption | grind) | grind)) (by (first | assumption | (dsimp only; first | assumption | grind) | grind)) (tmz _ _)
set_option maxHeartbeats 4000000 in
theorem T_V_canBeListed (x0 : Int32)  : ∃ r : Int32, f_V_canBeListed x0 = some r ∧ (r = 0 ∨ r = 1) := by
  rw [f_V_canBeListed]
  by_cases q1 : x0 < 0
  · refine pu_pos q1 ?_
    by_cases q2 : x0 < 10
    · refine pu_pos q2 ?_
      by_cases q3 : x0 < 20
      · refine pu_pos q3 ?_
        exact ⟨_, rfl, (by (first | assumption | (dsimp only; first | assumption | grind) | grind))⟩
      · refine pu_neg q3 ?_
        by_cases q4 : 46 ≤ x0
        · refine pu_pos q4 ?_
          exact ⟨_, rfl, (by (first | assumption | (dsimp only; first | assumption | grind) | grind))⟩
        · refine pu_neg q4 ?_
          exact ⟨_, rfl, (by (first | assumption | (dsimp only; first | assumption | grind) | grind))⟩
    · refine pu_neg q2 ?_
      by_cases q5 : x0 < 16
      · refine pu_pos q5 ?_
        exact ⟨_, rfl, (by (first | assumption | (dsimp only; first | assumption | grind) | grind))⟩
      · refine pu_neg q5 ?_
        by_cases q6 : x0 < 20
        · refine pu_pos q6 ?_
          exact ⟨_, rfl, (by (first | assumption | (dsimp only; first | assumption | grind) | grind))⟩
        · refine pu_neg q6 ?_
          by_cases q7 : 46 ≤ x0
          · refine pu_pos q7 ?_
            exact ⟨_, rfl, (by (first | assumption | (dsimp only; first | assumption | grind) | grind))⟩
          · refine pu_neg q7 ?_
            exact ⟨_, rfl, (by (first | assumption | (dsimp only; first | assumption | grind) | grind))⟩
  · refine pu_neg q1 ?_
    by_cases q8 : x0 ≤ 3
    · refine pu_pos q8 ?_
      exact ⟨_, rfl, (by (first | assumption | (dsimp only; first | assumption | grind) | grind))⟩
    · refine pu_neg q8 ?_
      by_cases q9 : x0 < 10
      · refine pu_pos q9 ?_
        by_cases q10 : x0 < 20
        · refine pu_pos q10 ?_
          exact ⟨_, rfl, (by (first | assumption | (dsimp only; first | assumption | grind) | grind))⟩
        · refine pu_neg q10 ?_
          by_cases q11 : 46 ≤ x0
          · refine pu_pos q11 ?_
            exact ⟨_, rfl, (by (first | assumption | (dsimp only; first | assumption | grind) | grind))⟩
          · refine pu_neg q11 ?_
            exact ⟨_, rfl, (by (first | assumption | (dsimp only; first | assumption | grind) | grind))⟩
      · refine pu_neg q9 ?_
        by_cases q12 : x0 < 16
        · refine pu_pos q12 ?_
          exact ⟨_, rfl, (by (first | assumption | (dsimp only; first | assumption | grind) | grind))⟩
        · refine pu_neg q12 ?_
          by_cases q13 : x0 < 20
          · refine pu_pos q13 ?_
            exact ⟨_, rfl, (by (first | assumption | (dsimp only; first | assumption | grind) | grind))⟩
          · refine pu_neg q13 ?_
            by_cases q14 : 46 ≤ x0
            · refine pu_pos q14 ?_
              exact ⟨_, rfl, (by (first | assumption | (dsimp only; first | assumption | grind) | grind))⟩
            · refine pu_neg q14 ?_
              exact ⟨_, rfl, (by (first | assumption | (dsimp only; first | assumption | grind) | grind))⟩
set_option maxHeartbeats 4000000 in
theorem T_Folder_shortCharOf (bt : Nat → Int32) (ct : Int32) (ad : Nat → Int32) (x1 : Int32) (x2 : Int32) (h0_ : 0 ≤ ct) (h1_ : ct ≤ 128) : ∃ r : Int32, f_Folder_shortCharOf bt ct ad x1 x2 = some r ∧ True := by
  rw [f_Folder_shortCharOf]
  obtain ⟨r1, h1, p2⟩ := T_Folder_shortLengthOf bt ct ad x1 (by (first | assumption | (dsimp only; first | assumption | grind) | grind)) (by (first | assumption | (dsimp only; first | assumption | grind) | grind))
  refine pu_bind h1 ?_
  clear h1
  by_cases q3 : r1 ≤ x2
  · refine pu_pos q3 ?_
    exact ⟨_, rfl, trivial⟩
  · refine pu_neg q3 ?_
    obtain ⟨r4, h4, p5⟩ := T_Folder_byteOf bt ct ad x1 x2 (by (first | assumption | (dsimp only; first | assumption | grind) | grind)) (by (first | assumption | (dsimp only; first | assumption | grind) | grind))
    refine pu_bind h4 ?_
    clear h4
    exact ⟨_, rfl, trivial⟩
set_option maxHeartbeats 4000000 in
theorem T_Folder_longCharOf (bt : Nat → Int32) (ct : Int32) (ad : Nat → Int32) (x1 : Int32) (x2 : Int32) (h0_ : 0 ≤ ct) (h1_ : ct ≤ 128) : ∃ r : Int32, f_Folder_longCharOf bt ct ad x1 x2 = some r ∧ True := by
  rw [f_Folder_longCharOf]
  obtain ⟨r1, h1, p2, p3⟩ := T_Folder_partsOf bt ct ad x1 (by (first | assumption | (dsimp only; first | assumption | grind) | grind)) (by (first | assumption | (dsimp only; first | assumption | grind) | grind))
  refine pu_bind h1 ?_
  clear h1
  obtain ⟨r3, h4, p5⟩ := T_Folder_longLengthOf bt ct ad x1 r1 (by (first | assumption | (dsimp only; first | assumption | grind) | grind)) (by (first | assumption | (dsimp only; first | assumption | grind) | grind))
  refine pu_bind h4 ?_
  clear h4
  by_cases q6 : r3 ≤ x2
  · refine pu_pos q6 ?_
    exact ⟨_, rfl, trivial⟩
  · refine pu_neg q6 ?_
    obtain ⟨r6, h7, p8⟩ := T_Folder_longByteOf bt ct ad x1 x2 (by (first | assumption | (dsimp only; first | assumption | grind) | grind)) (by (first | assumption | (dsimp only; first | assumption | grind) | grind))
    refine pu_bind h7 ?_
    clear h7
    exact ⟨_, rfl, trivial⟩
set_option maxHeartbeats 4000000 in
theorem T_Folder_sizeOf (bt : Nat → Int32) (ct : Int32) (ad : Nat → Int32) (x1 : Int32) (h0_ : 0 ≤ ct) (h1_ : ct ≤ 128) : ∃ r : Int32, f_Folder_sizeOf bt ct ad x1 = some r ∧ True := by
  rw [f_Folder_sizeOf]
  obtain ⟨r1, h1, p2⟩ := T_Folder_pairOf bt ct ad x1 10 (by (first | assumption | (dsimp only; first | assumption | grind) | grind)) (by (first | assumption | (dsimp only; first | assumption | grind) | grind))
  refine pu_bind h1 ?_
  clear h1
  exact ⟨_, rfl, trivial⟩
set_option maxHeartbeats 4000000 in
theorem T_V_list (he : Int32) (pw : Int32) (su : Int32) (bt : Nat → Int32) (ct : Int32) (lc : Int32) (ad : Nat → Int32) (x1 : Int32) (x2 : Int32) (h0_ : 0 ≤ ct) (h1_ : ct ≤ 128) : ∃ r : (String ⊕ Int32) × Int32 × Int32 × (Nat → Int32), f_V_list he pw su bt ct lc ad x1 x2 = some r ∧ tV "java/util/NoSuchElementException" "java/lang/IndexOutOfBoundsException" r.1 ∧ 0 ≤ r.2.1 ∧ r.2.1 ≤ 128 := by
  rw [f_V_list]
  obtain ⟨r1, h1, p2⟩ := T_V_demandSoundDisk pw su 
  refine pu_bind h1 ?_
  clear h1
  refine pu_t (fun E3 w3 => ?_) (fun v4 w4 => ?_)
  · skip
    exact ⟨_, rfl, (tV_u p2 w3), (by (first | assumption | (dsimp only; first | assumption | grind) | grind)), (by (first | assumption | (dsimp only; first | assumption | grind) | grind))⟩
  · skip
    obtain ⟨r6, h5, p6, p7⟩ := T_Folder_load bt ct lc ad he (by (first | assumption | (dsimp only; first | assumption | grind) | grind)) (by (first | assumption | (dsimp only; first | assumption | grind) | grind))
    refine pu_bind h5 ?_
    clear h5
    obtain ⟨r8, h8, p9⟩ := T_Folder_indexOfNamed bt r6.1 r6.2.2 x1 (by (first | assumption | (dsimp only; first | assumption | grind) | grind)) (by (first | assumption | (dsimp only; first | assumption | grind) | grind))
    refine pu_bind h8 ?_
    clear h8
    by_cases q10 : r8 = (-1)
    · refine pu_pos q10 ?_
      exact ⟨_, rfl, tV_a, (by (first | assumption | (dsimp only; first | assumption | grind) | grind)), (by (first | assumption | (dsimp only; first | assumption | grind) | grind))⟩
    · refine pu_neg q10 ?_
      obtain ⟨r11, h11, p12⟩ := T_V_canBeListed x2 
      refine pu_bind h11 ?_
      clear h11
      by_cases q13 : r11 = 0
      · refine pu_pos q13 ?_
        exact ⟨_, rfl, tV_b, (by (first | assumption | (dsimp only; first | assumption | grind) | grind)), (by (first | assumption | (dsimp only; first | assumption | grind) | grind))⟩
      · refine pu_neg q13 ?_
        by_cases q14 : x2 = 0
        · refine pu_pos q14 ?_
          obtain ⟨r15, h15, p16⟩ := T_Folder_kindOf bt r6.1 r6.2.2 r8 (by (first | assumption | (dsimp only; first | assumption | grind) | grind)) (by (first | assumption | (dsimp only; first | assumption | grind) | grind))
          refine pu_bind h15 ?_
          clear h15
          exact ⟨_, rfl, tV_r, (by (first | assumption | (dsimp only; first | assumption | grind) | grind)), (by (first | assumption | (dsimp only; first | assumption | grind) | grind))⟩
        · refine pu_neg q14 ?_
          by_cases q17 : x2 = 1
          · refine pu_pos q17 ?_
            obtain ⟨r18, h18, p19⟩ := T_Folder_sizeOf bt r6.1 r6.2.2 r8 (by (first | assumption | (dsimp only; first | assumption | grind) | grind)) (by (first | assumption | (dsimp only; first | assumption | grind) | grind))
            refine pu_bind h18 ?_
            clear h18
            exact ⟨_, rfl, tV_r, (by (first | assumption | (dsimp only; first | assumption | grind) | grind)), (by (first | assumption | (dsimp only; first | assumption | grind) | grind))⟩
          · refine pu_neg q17 ?_
            by_cases q20 : x2 = 2
            · refine pu_pos q20 ?_
              obtain ⟨r21, h21, p22⟩ := T_Folder_firstClusterOf bt r6.1 r6.2.2 r8 (by (first | assumption | (dsimp only; first | assumption | grind) | grind)) (by (first | assumption | (dsimp only; first | assumption | grind) | grind))
              refine pu_bind h21 ?_
              clear h21
              exact ⟨_, rfl, tV_r, (by (first | assumption | (dsimp only; first | assumption | grind) | grind)), (by (first | assumption | (dsimp only; first | assumption | grind) | grind))⟩
            · refine pu_neg q20 ?_
              by_cases q23 : x2 = 3
              · refine pu_pos q23 ?_
                obtain ⟨r24, h24, p25, p26⟩ := T_Folder_partsOf bt r6.1 r6.2.2 r8 (by (first | assumption | (dsimp only; first | assumption | grind) | grind)) (by (first | assumption | (dsimp only; first | assumption | grind) | grind))
                refine pu_bind h24 ?_
                clear h24
                obtain ⟨r26, h27, p28⟩ := T_Folder_longLengthOf bt r6.1 r6.2.2 r8 r24 (by (first | assumption | (dsimp only; first | assumption | grind) | grind)) (by (first | assumption | (dsimp only; first | assumption | grind) | grind))
                refine pu_bind h27 ?_
                clear h27
                exact ⟨_, rfl, tV_r, (by (first | assumption | (dsimp only; first | assumption | grind) | grind)), (by (first | assumption | (dsimp only; first | assumption | grind) | grind))⟩
              · refine pu_neg q23 ?_
                by_cases q29 : 20 ≤ x2
                · refine pu_pos q29 ?_
                  obtain ⟨r29, h30, p31⟩ := T_Folder_longCharOf bt r6.1 r6.2.2 r8 (x2 - 20) (by (first | assumption | (dsimp only; first | assumption | grind) | grind)) (by (first | assumption | (dsimp only; first | assumption | grind) | grind))
                  refine pu_bind h30 ?_
                  clear h30
                  exact ⟨_, rfl, tV_r, (by (first | assumption | (dsimp only; first | assumption | grind) | grind)), (by (first | assumption | (dsimp only; first | assumption | grind) | grind))⟩
                · refine pu_neg q29 ?_
                  obtain ⟨r31, h32, p33⟩ := T_Folder_shortCharOf bt r6.1 r6.2.2 r8 (x2 - 10) (by (first | assumption | (dsimp only; first | assumption | grind) | grind)) (by (first | assumption | (dsimp only; first | assumption | grind) | grind))
                  refine pu_bind h32 ?_
                  clear h32
                  exact ⟨_, rfl, tV_r, (by (first | assumption | (dsimp only; first | assumption | grind) | grind)), (by (first | assumption | (dsimp only; first | assumption | grind) | grind))⟩
