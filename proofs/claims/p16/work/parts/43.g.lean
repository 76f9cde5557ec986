set_option maxHeartbeats 4000000 in
theorem T_Rep_goThrough : ∀ (n9 : Nat) (g : am_WS) (ct : Int32) (lc : Int32) (ad : Nat → Int32) (fx : Int32) (us : Nat → Int32) (x1 : Int32) (x2 : Int32), 0 ≤ g.1 → g.1 ≤ 26 → 0 ≤ ct → ct ≤ 128 → tm 5 x2 n9 → ∃ r : (String ⊕ Unit) × am_WS × Int32 × Int32 × (Nat → Int32) × Int32 × (Nat → Int32), f_Rep_goThrough n9 g ct lc ad fx us x1 x2 = some r ∧ tV "java/lang/IllegalStateException" "java/lang/IllegalStateException" r.1 ∧ 0 ≤ r.2.1.1 ∧ r.2.1.1 ≤ 26 ∧ 0 ≤ r.2.2.1 ∧ r.2.2.1 ≤ 128 := by
  intro n9
  induction n9 with
  | zero =>
    intro g ct lc ad fx us x1 x2 h0_ h1_ h2_ h3_ hm
    exact (tm0 hm).elim
  | succ n9 ih =>
    intro g ct lc ad fx us x1 x2 h0_ h1_ h2_ h3_ hm
    rw [f_Rep_goThrough]
    obtain ⟨r1, h1, p2, p3⟩ := T_Folder_load g.2.2.2.2.2.2.2.2.2 ct lc ad x1 (by (first | assumption | (dsimp only; first | assumption | grind) | grind)) (by (first | assumption | (dsimp only; first | assumption | grind) | grind))
    refine pu_bind h1 ?_
    clear h1
    exact T_Rep_goThrough_L19 (f_Rep_goThrough n9) n9 ih 100000000000 g r1.1 r1.2.1 r1.2.2 fx us x1 x2 r1.1 0 (by (first | assumption | (dsimp only; first | assumption | grind) | grind)) (by (first | assumption | (dsimp only; first | assumption | grind) | grind)) (by (first | assumption | (dsimp only; first | assumption | grind) | grind)) (by (first | assumption | (dsimp only; first | assumption | grind) | grind)) (by (first | assumption | (dsimp only; first | assumption | grind) | grind)) hm (tmz _ _)
set_option maxHeartbeats 4000000 in
theorem T_Rep_clearLost_L2 : ∀ (fuel : Nat) (g : am_WS) (fx : Int32) (us : Nat → Int32) (x1 : Int32), 0 ≤ g.1 → g.1 ≤ 26 → 0 ≤ x1 → tm 64 x1 fuel → ∃ r : (String ⊕ Unit) × am_WS × Int32, f_Rep_clearLost_L2 fuel g fx us x1 = some r ∧ tV "java/lang/IllegalStateException" "java/lang/IllegalStateException" r.1 ∧ 0 ≤ r.2.1.1 ∧ r.2.1.1 ≤ 26 := by
  intro fuel
  induction fuel with
  | zero =>
    intro g fx us x1 h0_ h1_ h2_ hm
    exact (tm0 hm).elim
  | succ fuel ih =>
    intro g fx us x1 h0_ h1_ h2_ hm
    rw [f_Rep_clearLost_L2]
    by_cases q1 : 64 ≤ x1
    · refine pu_pos q1 ?_
      exact ⟨_, rfl, tV_r, (by (try clear ih); (first | assumption | (dsimp only; first | assumption | grind) | grind)), (by (try clear ih); (first | assumption | (dsimp only; first | assumption | grind) | grind))⟩
    · refine pu_neg q1 ?_
      refine pu_pos (ti 64 (by (try clear ih); (first | assumption | (dsimp only; first | assumption | grind) | grind)) (by (try clear ih); (first | assumption | (dsimp only; first | assumption | grind) | grind)) rfl) ?_
      by_cases q2 : (us x1.toNatClampNeg) = 0
      · refine pu_pos q2 ?_
        obtain ⟨r4, h3, p4⟩ := T_Table_isFree g.2.2.2.2.2.2.2.2.2 x1 
        refine pu_bind h3 ?_
        clear h3
        by_cases q5 : r4 = 0
        · refine pu_pos q5 ?_
          obtain ⟨r7, h6, p7, p8, p9⟩ := T_Table_set g x1 0 (by (try clear ih); (first | assumption | (dsimp only; first | assumption | grind) | grind)) (by (try clear ih); (first | assumption | (dsimp only; first | assumption | grind) | grind))
          refine pu_bind h6 ?_
          clear h6
          refine pu_t (fun E9 w10 => ?_) (fun v10 w11 => ?_)
          · skip
            exact ⟨_, rfl, (tV_u p7 w10), (by (try clear ih); (first | assumption | (dsimp only; first | assumption | grind) | grind)), (by (try clear ih); (first | assumption | (dsimp only; first | assumption | grind) | grind))⟩
          · skip
            exact ih r7.2 (fx + 1) us (x1 + 1) (by (try clear ih); (first | assumption | (dsimp only; first | assumption | grind) | grind)) (by (try clear ih); (first | assumption | (dsimp only; first | assumption | grind) | grind)) (by (try clear ih); (first | assumption | (dsimp only; first | assumption | grind) | grind)) (tm1 (by (try clear ih); (first | assumption | (dsimp only; first | assumption | grind) | grind)) hm)
        · refine pu_neg q5 ?_
          exact ih g fx us (x1 + 1) (by (try clear ih); (first | assumption | (dsimp only; first | assumption | grind) | grind)) (by (try clear ih); (first | assumption | (dsimp only; first | assumption | grind) | grind)) (by (try clear ih); (first | assumption | (dsimp only; first | assumption | grind) | grind)) (tm1 (by (try clear ih); (first | assumption | (dsimp only; first | assumption | grind) | grind)) hm)
      · refine pu_neg q2 ?_
        exact ih g fx us (x1 + 1) (by (try clear ih); (first | assumption | (dsimp only; first | assumption | grind) | grind)) (by (try clear ih); (first | assumption | (dsimp only; first | assumption | grind) | grind)) (by (try clear ih); (first | assumption | (dsimp only; first | assumption | grind) | grind)) (tm1 (by (try clear ih); (first | assumption | (dsimp only; first | assumption | grind) | grind)) hm)
set_option maxHeartbeats 4000000 in
theorem T_Rep_clearLost (g : am_WS) (fx : Int32) (us : Nat → Int32) (h0_ : 0 ≤ g.1) (h1_ : g.1 ≤ 26) : ∃ r : (String ⊕ Unit) × am_WS × Int32, f_Rep_clearLost g fx us = some r ∧ tV "java/lang/IllegalStateException" "java/lang/IllegalStateException" r.1 ∧ 0 ≤ r.2.1.1 ∧ r.2.1.1 ≤ 26 := by
  rw [f_Rep_clearLost]
  exact T_Rep_clearLost_L2 100000000000 g fx us 2 (by (first | assumption | (dsimp only; first | assumption | grind) | grind)) (by (first | assumption | (dsimp only; first | assumption | grind) | grind)) (by (first | assumption | (dsimp only; first | assumption | grind) | grind)) (tmz _ _)
set_option maxHeartbeats 4000000 in
theorem T_V_repair (g : am_WS) (su : Int32) (ct : Int32) (lc : Int32) (ad : Nat → Int32) (fx : Int32) (us : Nat → Int32) (h0_ : 0 ≤ g.1) (h1_ : g.1 ≤ 26) (h2_ : 0 ≤ ct) (h3_ : ct ≤ 128) : ∃ r : (String ⊕ Int32) × am_WS × Int32 × Int32 × Int32 × (Nat → Int32) × Int32 × (Nat → Int32), f_V_repair g su ct lc ad fx us = some r ∧ tV "java/lang/IllegalStateException" "java/lang/IllegalStateException" r.1 ∧ 0 ≤ r.2.1.1 ∧ r.2.1.1 ≤ 26 ∧ 0 ≤ r.2.2.2.1 ∧ r.2.2.2.1 ≤ 128 := by
  rw [f_V_repair]
  by_cases q1 : g.2.2.2.2.2.1 = 0
  · refine pu_pos q1 ?_
    exact ⟨_, rfl, tV_0, (by (first | assumption | (dsimp only; first | assumption | grind) | grind)), (by (first | assumption | (dsimp only; first | assumption | grind) | grind)), (by (first | assumption | (dsimp only; first | assumption | grind) | grind)), (by (first | assumption | (dsimp only; first | assumption | grind) | grind))⟩
  · refine pu_neg q1 ?_
    obtain ⟨r2, h2, p3⟩ := T_Ses_leave g.2.1 g.2.2.1 g.2.2.2.1 g.2.2.2.2.1 
    refine pu_bind h2 ?_
    clear h2
    obtain ⟨r4, h4, p5, p6, p7⟩ := T_Rep_mendTables (g.1, r2.1, r2.2.1, r2.2.2.1, r2.2.2.2, g.2.2.2.2.2.1, g.2.2.2.2.2.2.1, g.2.2.2.2.2.2.2.1, g.2.2.2.2.2.2.2.2.1, g.2.2.2.2.2.2.2.2.2) fx us (by (first | assumption | (dsimp only; first | assumption | grind) | grind)) (by (first | assumption | (dsimp only; first | assumption | grind) | grind))
    refine pu_bind h4 ?_
    clear h4
    try dsimp only at p5 p6 p7
    refine pu_t (fun E6 w8 => ?_) (fun v7 w9 => ?_)
    · skip
      exact ⟨_, rfl, (tV_u p5 w8), (by (first | assumption | (dsimp only; first | assumption | grind) | grind)), (by (first | assumption | (dsimp only; first | assumption | grind) | grind)), (by (first | assumption | (dsimp only; first | assumption | grind) | grind)), (by (first | assumption | (dsimp only; first | assumption | grind) | grind))⟩
    · skip
      obtain ⟨r9, h10, p11, p12, p13⟩ := T_Rep_mendRoot r4.2.1 r4.2.2.1 r4.2.2.2 (by (first | assumption | (dsimp only; first | assumption | grind) | grind)) (by (first | assumption | (dsimp only; first | assumption | grind) | grind))
      refine pu_bind h10 ?_
      clear h10
      refine pu_t (fun E11 w14 => ?_) (fun v12 w15 => ?_)
      · skip
        exact ⟨_, rfl, (tV_u p11 w14), (by (first | assumption | (dsimp only; first | assumption | grind) | grind)), (by (first | assumption | (dsimp only; first | assumption | grind) | grind)), (by (first | assumption | (dsimp only; first | assumption | grind) | grind)), (by (first | assumption | (dsimp only; first | assumption | grind) | grind))⟩
      · skip
        obtain ⟨r14, h16, p17, p18, p19, p20, p21⟩ := T_Rep_goThrough 8 r9.2.1 ct lc ad r9.2.2.1 r9.2.2.2 2 1 (by (first | assumption | (dsimp only; first | assumption | grind) | grind)) (by (first | assumption | (dsimp only; first | assumption | grind) | grind)) (by (first | assumption | (dsimp only; first | assumption | grind) | grind)) (by (first | assumption | (dsimp only; first | assumption | grind) | grind)) ⟨by decide, by decide⟩
        refine pu_bind h16 ?_
        clear h16
        refine pu_t (fun E16 w22 => ?_) (fun v17 w23 => ?_)
        · skip
          exact ⟨_, rfl, (tV_u p17 w22), (by (first | assumption | (dsimp only; first | assumption | grind) | grind)), (by (first | assumption | (dsimp only; first | assumption | grind) | grind)), (by (first | assumption | (dsimp only; first | assumption | grind) | grind)), (by (first | assumption | (dsimp only; first | assumption | grind) | grind))⟩
        · skip
          obtain ⟨r19, h24, p25, p26, p27⟩ := T_Rep_clearLost r14.2.1 r14.2.2.2.2.2.1 r14.2.2.2.2.2.2 (by (first | assumption | (dsimp only; first | assumption | grind) | grind)) (by (first | assumption | (dsimp only; first | assumption | grind) | grind))
          refine pu_bind h24 ?_
          clear h24
          refine pu_t (fun E21 w28 => ?_) (fun v22 w29 => ?_)
          · skip
            exact ⟨_, rfl, (tV_u p25 w28), (by (first | assumption | (dsimp only; first | assumption | grind) | grind)), (by (first | assumption | (dsimp only; first | assumption | grind) | grind)), (by (first | assumption | (dsimp only; first | assumption | grind) | grind)), (by (first | assumption | (dsimp only; first | assumption | grind) | grind))⟩
          · skip
            exact ⟨_, rfl, tV_r, (by (first | assumption | (dsimp only; first | assumption | grind) | grind)), (by (first | assumption | (dsimp only; first | assumption | grind) | grind)), (by (first | assumption | (dsimp only; first | assumption | grind) | grind)), (by (first | assumption | (dsimp only; first | assumption | grind) | grind))⟩
set_option maxHeartbeats 4000000 in
theorem T_V_isOnDisk (x0 : Int32) (x1 : Int32)  : ∃ r : Int32, f_V_isOnDisk x0 x1 = some r ∧ (r = 1 ∧ 0 ≤ x0 ∧ x0 < 70 ∧ 0 ≤ x1 ∧ x1 < 32 ∨ r = 0 ∧ ¬ (0 ≤ x0 ∧ x0 < 70 ∧ 0 ≤ x1 ∧ x1 < 32)) := by
  rw [f_V_isOnDisk]
  by_cases q1 : x0 < 0
  · refine pu_pos q1 ?_
    exact ⟨_, rfl, (by (first | assumption | (dsimp only; first | assumption | grind) | grind))⟩
  · refine pu_neg q1 ?_
    by_cases q2 : 70 ≤ x0
    · refine pu_pos q2 ?_
      exact ⟨_, rfl, (by (first | assumption | (dsimp only; first | assumption | grind) | grind))⟩
    · refine pu_neg q2 ?_
      by_cases q3 : x1 < 0
      · refine pu_pos q3 ?_
        exact ⟨_, rfl, (by (first | assumption | (dsimp only; first | assumption | grind) | grind))⟩
      · refine pu_neg q3 ?_
        by_cases q4 : 32 ≤ x1
        · refine pu_pos q4 ?_
          exact ⟨_, rfl, (by (first | assumption | (dsimp only; first | assumption | grind) | grind))⟩
        · refine pu_neg q4 ?_
          exact ⟨_, rfl, (by (first | assumption | (dsimp only; first | assumption | grind) | grind))⟩
set_option maxHeartbeats 4000000 in
theorem T_V_octet (bt : Nat → Int32) (x1 : Int32) (x2 : Int32)  : ∃ r : Int32, f_V_octet bt x1 x2 = some r ∧ True := by
  rw [f_V_octet]
  obtain ⟨r1, h1, p2⟩ := T_V_isOnDisk x1 x2 
  refine pu_bind h1 ?_
  clear h1
  by_cases q3 : r1 = 0
  · refine pu_pos q3 ?_
    exact ⟨_, rfl, trivial⟩
  · refine pu_neg q3 ?_
    obtain ⟨r4, h4, p5⟩ := T_Disk_at bt ((x1 * 32) + x2) 
    refine pu_bind h4 ?_
    clear h4
    exact ⟨_, rfl, trivial⟩
set_option maxHeartbeats 4000000 in
theorem T_V_poke (he : Int32) (de : Int32) (en : Nat → Int32) (po : Nat → Int32) (su : Int32) (bt : Nat → Int32) (x1 : Int32) (x2 : Int32) (x3 : Int32)  : ∃ r : Int32 × Int32 × Int32 × (Nat → Int32) × (Nat → Int32) × Int32 × (Nat → Int32), f_V_poke he de en po su bt x1 x2 x3 = some r ∧ (r.1 = 1 ∧ 0 ≤ x1 ∧ x1 < 70 ∧ 0 ≤ x2 ∧ x2 < 32 ∨ r.1 = 0 ∧ ¬ (0 ≤ x1 ∧ x1 < 70 ∧ 0 ≤ x2 ∧ x2 < 32)) := by
  rw [f_V_poke]
  obtain ⟨r1, h1, p2⟩ := T_V_isOnDisk x1 x2 
  refine pu_bind h1 ?_
  clear h1
  by_cases q3 : r1 = 0
  · refine pu_pos q3 ?_
    exact ⟨_, rfl, (by (first | assumption | (dsimp only; first | assumption | grind) | grind))⟩
  · refine pu_neg q3 ?_
    obtain ⟨r4, h4, p5⟩ := T_Disk_put bt ((x1 * 32) + x2) x3 
    refine pu_bind h4 ?_
    clear h4
    obtain ⟨r6, h6, p7⟩ := T_Ses_leave he de en po 
    refine pu_bind h6 ?_
    clear h6
    exact ⟨_, rfl, (by (first | assumption | (dsimp only; first | assumption | grind) | grind))⟩
set_option maxHeartbeats 4000000 in
theorem T_Table_countFree_L4 : ∀ (fuel : Nat) (bt : Nat → Int32) (x1 : Int32) (x2 : Int32), 0 ≤ x2 → tm 64 x2 fuel → ∃ r : Int32, f_Table_countFree_L4 fuel bt x1 x2 = some r ∧ True := by
  intro fuel
  induction fuel with
  | zero =>
    intro bt x1 x2 h0_ hm
    exact (tm0 hm).elim
  | succ fuel ih =>
    intro bt x1 x2 h0_ hm
    rw [f_Table_countFree_L4]
    by_cases q1 : 64 ≤ x2
    · refine pu_pos q1 ?_
      exact ⟨_, rfl, trivial⟩
    · refine pu_neg q1 ?_
      obtain ⟨r2, h2, p3⟩ := T_Table_isFree bt x2 
      refine pu_bind h2 ?_
      clear h2
      by_cases q4 : r2 = 0
      · refine pu_pos q4 ?_
        exact ih bt x1 (x2 + 1) (by (try clear ih); (first | assumption | (dsimp only; first | assumption | grind) | grind)) (tm1 (by (try clear ih); (first | assumption | (dsimp only; first | assumption | grind) | grind)) hm)
      · refine pu_neg q4 ?_
        exact ih bt (x1 + 1) (x2 + 1) (by (try clear ih); (first | assumption | (dsimp only; first | assumption | grind) | grind)) (tm1 (by (try clear ih); (first | assumption | (dsimp only; first | assumption | grind) | grind)) hm)
set_option maxHeartbeats 4000000 in
theorem T_Table_countFree (bt : Nat → Int32)  : ∃ r : Int32, f_Table_countFree bt = some r ∧ True := by
  rw [f_Table_countFree]
  exact T_Table_countFree_L4 100000000000 bt 0 2 (by (first | assumption | (dsimp only; first | assumption | grind) | grind)) (tmz _ _)
set_option maxHeartbeats 4000000 in
theorem T_V_look (ll : Int32) (he : Int32) (en : Nat → Int32) (po : Nat → Int32) (pw : Int32) (wr : Int32) (bt : Nat → Int32) (x1 : Int32) (h0_ : 0 ≤ ll) (h1_ : ll ≤ 26) : ∃ r : Int32, f_V_look ll he en po pw wr bt x1 = some r ∧ True := by
  rw [f_V_look]
  by_cases q1 : x1 = 0
  · refine pu_pos q1 ?_
    by_cases q2 : pw = 0
    · refine pu_pos q2 ?_
      exact ⟨_, rfl, trivial⟩
    · refine pu_neg q2 ?_
      exact ⟨_, rfl, trivial⟩
  · refine pu_neg q1 ?_
    by_cases q3 : x1 = 1
    · refine pu_pos q3 ?_
      exact ⟨_, rfl, trivial⟩
    · refine pu_neg q3 ?_
      by_cases q4 : x1 = 2
      · refine pu_pos q4 ?_
        obtain ⟨r5, h5, p6⟩ := T_Table_countFree bt 
        refine pu_bind h5 ?_
        clear h5
        exact ⟨_, rfl, trivial⟩
      · refine pu_neg q4 ?_
        by_cases q7 : x1 = 3
        · refine pu_pos q7 ?_
          exact ⟨_, rfl, trivial⟩
        · refine pu_neg q7 ?_
          by_cases q8 : x1 = 4
          · refine pu_pos q8 ?_
            exact ⟨_, rfl, trivial⟩
          · refine pu_neg q8 ?_
            by_cases q9 : x1 < 10
            · refine pu_pos q9 ?_
              exact ⟨_, rfl, trivial⟩
            · refine pu_neg q9 ?_
              obtain ⟨r10, h10, p11⟩ := T_Ses_isOpen en (x1 - 10) 
              refine pu_bind h10 ?_
              clear h10
              by_cases q12 : r10 = 0
              · refine pu_pos q12 ?_
                exact ⟨_, rfl, trivial⟩
              · refine pu_neg q12 ?_
                obtain ⟨r13, h13, p14⟩ := T_Ses_positionOf po (x1 - 10) 
                refine pu_bind h13 ?_
                clear h13
                exact ⟨_, rfl, trivial⟩
