set_option maxHeartbeats 4000000 in
theorem T_Folder_findFreeRow (bt : Nat → Int32) (ct : Int32) (ad : Nat → Int32) (x1 : Int32) (h0_ : 0 ≤ ct) (h1_ : ct ≤ 128) : ∃ r : Int32, f_Folder_findFreeRow bt ct ad x1 = some r ∧ True := by
  rw [f_Folder_findFreeRow]
  exact T_Folder_findFreeRow_L4 100000000000 bt ct ad x1 0 0 (by (first | assumption | (dsimp only; first | assumption | grind) | grind)) (by (first | assumption | (dsimp only; first | assumption | grind) | grind)) (by (first | assumption | (dsimp only; first | assumption | grind) | grind)) (tmz _ _)
set_option maxHeartbeats 4000000 in
theorem T_V_makeFreeRow_L2 : ∀ (fuel : Nat) (g : am_WS) (ct : Int32) (lc : Int32) (ad : Nat → Int32) (x1 : Int32) (x2 : Int32), 0 ≤ g.1 → g.1 ≤ 26 → 0 ≤ ct → ct ≤ 128 → 0 ≤ x2 → tm 64 x2 fuel → ∃ r : (String ⊕ Int32) × am_WS × Int32 × Int32 × (Nat → Int32), f_V_makeFreeRow_L2 fuel g ct lc ad x1 x2 = some r ∧ tV "java/lang/IllegalStateException" "java/lang/IllegalStateException" r.1 ∧ 0 ≤ r.2.1.1 ∧ r.2.1.1 ≤ 26 ∧ 0 ≤ r.2.2.1 ∧ r.2.2.1 ≤ 128 := by
  intro fuel
  induction fuel with
  | zero =>
    intro g ct lc ad x1 x2 h0_ h1_ h2_ h3_ h4_ hm
    exact (tm0 hm).elim
  | succ fuel ih =>
    intro g ct lc ad x1 x2 h0_ h1_ h2_ h3_ h4_ hm
    rw [f_V_makeFreeRow_L2]
    by_cases q1 : 64 < x2
    · refine pu_pos q1 ?_
      exact ⟨_, rfl, tV_r, (by (try clear ih); (first | assumption | (dsimp only; first | assumption | grind) | grind)), (by (try clear ih); (first | assumption | (dsimp only; first | assumption | grind) | grind)), (by (try clear ih); (first | assumption | (dsimp only; first | assumption | grind) | grind)), (by (try clear ih); (first | assumption | (dsimp only; first | assumption | grind) | grind))⟩
    · refine pu_neg q1 ?_
      obtain ⟨r2, h2, p3⟩ := T_Folder_findFreeRow g.2.2.2.2.2.2.2.2.2 ct ad x1 (by (try clear ih); (first | assumption | (dsimp only; first | assumption | grind) | grind)) (by (try clear ih); (first | assumption | (dsimp only; first | assumption | grind) | grind))
      refine pu_bind h2 ?_
      clear h2
      by_cases q4 : r2 = (-1)
      · refine pu_pos q4 ?_
        obtain ⟨r5, h5, p6, p7, p8⟩ := T_Table_take g (by (try clear ih); (first | assumption | (dsimp only; first | assumption | grind) | grind)) (by (try clear ih); (first | assumption | (dsimp only; first | assumption | grind) | grind))
        refine pu_bind h5 ?_
        clear h5
        refine pu_t (fun E7 w9 => ?_) (fun v8 w10 => ?_)
        · skip
          exact ⟨_, rfl, (tV_u p6 w9), (by (try clear ih); (first | assumption | (dsimp only; first | assumption | grind) | grind)), (by (try clear ih); (first | assumption | (dsimp only; first | assumption | grind) | grind)), (by (try clear ih); (first | assumption | (dsimp only; first | assumption | grind) | grind)), (by (try clear ih); (first | assumption | (dsimp only; first | assumption | grind) | grind))⟩
        · skip
          by_cases q11 : v8 = 0
          · refine pu_pos q11 ?_
            exact ⟨_, rfl, tV_r, (by (try clear ih); (first | assumption | (dsimp only; first | assumption | grind) | grind)), (by (try clear ih); (first | assumption | (dsimp only; first | assumption | grind) | grind)), (by (try clear ih); (first | assumption | (dsimp only; first | assumption | grind) | grind)), (by (try clear ih); (first | assumption | (dsimp only; first | assumption | grind) | grind))⟩
          · refine pu_neg q11 ?_
            obtain ⟨r11, h12, p13, p14, p15⟩ := T_Table_set r5.2 lc v8 (by (try clear ih); (first | assumption | (dsimp only; first | assumption | grind) | grind)) (by (try clear ih); (first | assumption | (dsimp only; first | assumption | grind) | grind))
            refine pu_bind h12 ?_
            clear h12
            refine pu_t (fun E13 w16 => ?_) (fun v14 w17 => ?_)
            · skip
              exact ⟨_, rfl, (tV_u p13 w16), (by (try clear ih); (first | assumption | (dsimp only; first | assumption | grind) | grind)), (by (try clear ih); (first | assumption | (dsimp only; first | assumption | grind) | grind)), (by (try clear ih); (first | assumption | (dsimp only; first | assumption | grind) | grind)), (by (try clear ih); (first | assumption | (dsimp only; first | assumption | grind) | grind))⟩
            · skip
              obtain ⟨r16, h18, p19, p20⟩ := T_Folder_load r11.2.2.2.2.2.2.2.2.2.2 ct lc ad r11.2.2.1 (by (try clear ih); (first | assumption | (dsimp only; first | assumption | grind) | grind)) (by (try clear ih); (first | assumption | (dsimp only; first | assumption | grind) | grind))
              refine pu_bind h18 ?_
              clear h18
              exact ih r11.2 r16.1 r16.2.1 r16.2.2 x1 (x2 + 1) (by (try clear ih); (first | assumption | (dsimp only; first | assumption | grind) | grind)) (by (try clear ih); (first | assumption | (dsimp only; first | assumption | grind) | grind)) (by (try clear ih); (first | assumption | (dsimp only; first | assumption | grind) | grind)) (by (try clear ih); (first | assumption | (dsimp only; first | assumption | grind) | grind)) (by (try clear ih); (first | assumption | (dsimp only; first | assumption | grind) | grind)) (tm2 (by (try clear ih); (first | assumption | (dsimp only; first | assumption | grind) | grind)) (by (try clear ih); (first | assumption | (dsimp only; first | assumption | grind) | grind)) hm)
      · refine pu_neg q4 ?_
        exact ⟨_, rfl, tV_r, (by (try clear ih); (first | assumption | (dsimp only; first | assumption | grind) | grind)), (by (try clear ih); (first | assumption | (dsimp only; first | assumption | grind) | grind)), (by (try clear ih); (first | assumption | (dsimp only; first | assumption | grind) | grind)), (by (try clear ih); (first | assumption | (dsimp only; first | assumption | grind) | grind))⟩
set_option maxHeartbeats 4000000 in
theorem T_V_makeFreeRow (g : am_WS) (ct : Int32) (lc : Int32) (ad : Nat → Int32) (x1 : Int32) (h0_ : 0 ≤ g.1) (h1_ : g.1 ≤ 26) (h2_ : 0 ≤ ct) (h3_ : ct ≤ 128) : ∃ r : (String ⊕ Int32) × am_WS × Int32 × Int32 × (Nat → Int32), f_V_makeFreeRow g ct lc ad x1 = some r ∧ tV "java/lang/IllegalStateException" "java/lang/IllegalStateException" r.1 ∧ 0 ≤ r.2.1.1 ∧ r.2.1.1 ≤ 26 ∧ 0 ≤ r.2.2.1 ∧ r.2.2.1 ≤ 128 := by
  rw [f_V_makeFreeRow]
  exact T_V_makeFreeRow_L2 100000000000 g ct lc ad x1 0 (by (first | assumption | (dsimp only; first | assumption | grind) | grind)) (by (first | assumption | (dsimp only; first | assumption | grind) | grind)) (by (first | assumption | (dsimp only; first | assumption | grind) | grind)) (by (first | assumption | (dsimp only; first | assumption | grind) | grind)) (by (first | assumption | (dsimp only; first | assumption | grind) | grind)) (tmz _ _)
set_option maxHeartbeats 4000000 in
theorem T_Name_sum_L4 : ∀ (fuel : Nat) (br : Nat → Int32) (x1 : Int32) (x2 : Int32), 0 ≤ x2 → tm 6 x2 fuel → ∃ r : Int32, f_Name_sum_L4 fuel br x1 x2 = some r ∧ True := by
  intro fuel
  induction fuel with
  | zero =>
    intro br x1 x2 h0_ hm
    exact (tm0 hm).elim
  | succ fuel ih =>
    intro br x1 x2 h0_ hm
    rw [f_Name_sum_L4]
    by_cases q1 : 6 ≤ x2
    · refine pu_pos q1 ?_
      exact ⟨_, rfl, trivial⟩
    · refine pu_neg q1 ?_
      refine pu_pos (ti 6 (by (try clear ih); (first | assumption | (dsimp only; first | assumption | grind) | grind)) (by (try clear ih); (first | assumption | (dsimp only; first | assumption | grind) | grind)) rfl) ?_
      obtain ⟨r3, h2, p3⟩ := T_V_addToSum x1 (br x2.toNatClampNeg) 
      refine pu_bind h2 ?_
      clear h2
      exact ih br r3 (x2 + 1) (by (try clear ih); (first | assumption | (dsimp only; first | assumption | grind) | grind)) (tm1 (by (try clear ih); (first | assumption | (dsimp only; first | assumption | grind) | grind)) hm)
set_option maxHeartbeats 4000000 in
theorem T_Name_sum (br : Nat → Int32)  : ∃ r : Int32, f_Name_sum br = some r ∧ True := by
  rw [f_Name_sum]
  exact T_Name_sum_L4 100000000000 br 0 0 (by (first | assumption | (dsimp only; first | assumption | grind) | grind)) (tmz _ _)
set_option maxHeartbeats 4000000 in
theorem T_Name_fillPart_L43 : ∀ (fuel : Nat) (ln : Int32) (pt : Int32) (tx : Nat → Int32) (br : Nat → Int32) (rw : Nat → Int32) (x1 : Int32) (x3 : Int32), 0 ≤ ln → ln ≤ 26 → 0 ≤ pt → pt ≤ 2 → 0 ≤ x3 → tm 13 x3 fuel → ∃ r : (Nat → Int32), f_Name_fillPart_L43 fuel ln pt tx br rw x1 x3 = some r ∧ True := by
  intro fuel
  induction fuel with
  | zero =>
    intro ln pt tx br rw x1 x3 h0_ h1_ h2_ h3_ h4_ hm
    exact (tm0 hm).elim
  | succ fuel ih =>
    intro ln pt tx br rw x1 x3 h0_ h1_ h2_ h3_ h4_ hm
    rw [f_Name_fillPart_L43]
    by_cases q1 : 13 ≤ x3
    · refine pu_pos q1 ?_
      exact ⟨_, rfl, trivial⟩
    · refine pu_neg q1 ?_
      obtain ⟨r6, h2, p3⟩ := T_V_placeInPart x3 
      refine pu_bind h2 ?_
      clear h2
      obtain ⟨r8, h4, p5⟩ := T_Name_charAt ln tx (((x1 - 1) * 13) + x3) (by (try clear ih); (first | assumption | (dsimp only; first | assumption | grind) | grind)) (by (try clear ih); (first | assumption | (dsimp only; first | assumption | grind) | grind))
      refine pu_bind h4 ?_
      clear h4
      refine pu_pos (ti 16 (by (try clear ih); (first | assumption | (dsimp only; first | assumption | grind) | grind)) (by (try clear ih); (first | assumption | (dsimp only; first | assumption | grind) | grind)) rfl) ?_
      exact ih ln pt tx br (upd rw r6.toNatClampNeg r8) x1 (x3 + 1) (by (try clear ih); (first | assumption | (dsimp only; first | assumption | grind) | grind)) (by (try clear ih); (first | assumption | (dsimp only; first | assumption | grind) | grind)) (by (try clear ih); (first | assumption | (dsimp only; first | assumption | grind) | grind)) (by (try clear ih); (first | assumption | (dsimp only; first | assumption | grind) | grind)) (by (try clear ih); (first | assumption | (dsimp only; first | assumption | grind) | grind)) (tm1 (by (try clear ih); (first | assumption | (dsimp only; first | assumption | grind) | grind)) hm)
set_option maxHeartbeats 4000000 in
theorem T_Name_fillPart (ln : Int32) (pt : Int32) (tx : Nat → Int32) (br : Nat → Int32) (rw : Nat → Int32) (x1 : Int32) (h0_ : 0 ≤ ln) (h1_ : ln ≤ 26) (h2_ : 0 ≤ pt) (h3_ : pt ≤ 2) : ∃ r : (Nat → Int32), f_Name_fillPart ln pt tx br rw x1 = some r ∧ True := by
  rw [f_Name_fillPart]
  by_cases q1 : x1 = pt
  · refine pu_pos q1 ?_
    obtain ⟨r11, h2, p3⟩ := T_Name_sum br 
    refine pu_bind h2 ?_
    clear h2
    exact T_Name_fillPart_L43 100000000000 ln pt tx br (upd (upd (upd rw (0 : Int32).toNatClampNeg (x1 + 64)) (6 : Int32).toNatClampNeg 15) (7 : Int32).toNatClampNeg r11) x1 0 (by (first | assumption | (dsimp only; first | assumption | grind) | grind)) (by (first | assumption | (dsimp only; first | assumption | grind) | grind)) (by (first | assumption | (dsimp only; first | assumption | grind) | grind)) (by (first | assumption | (dsimp only; first | assumption | grind) | grind)) (by (first | assumption | (dsimp only; first | assumption | grind) | grind)) (tmz _ _)
  · refine pu_neg q1 ?_
    obtain ⟨r3, h4, p5⟩ := T_Name_sum br 
    refine pu_bind h4 ?_
    clear h4
    exact T_Name_fillPart_L43 100000000000 ln pt tx br (upd (upd (upd rw (0 : Int32).toNatClampNeg x1) (6 : Int32).toNatClampNeg 15) (7 : Int32).toNatClampNeg r3) x1 0 (by (first | assumption | (dsimp only; first | assumption | grind) | grind)) (by (first | assumption | (dsimp only; first | assumption | grind) | grind)) (by (first | assumption | (dsimp only; first | assumption | grind) | grind)) (by (first | assumption | (dsimp only; first | assumption | grind) | grind)) (by (first | assumption | (dsimp only; first | assumption | grind) | grind)) (tmz _ _)
set_option maxHeartbeats 4000000 in
theorem T_Folder_addressOf (ct : Int32) (ad : Nat → Int32) (x1 : Int32) (h0_ : 0 ≤ ct) (h1_ : ct ≤ 128) : ∃ r : Int32, f_Folder_addressOf ct ad x1 = some r ∧ True := by
  rw [f_Folder_addressOf]
  by_cases q1 : x1 < 0
  · refine pu_pos q1 ?_
    exact ⟨_, rfl, trivial⟩
  · refine pu_neg q1 ?_
    by_cases q2 : ct ≤ x1
    · refine pu_pos q2 ?_
      exact ⟨_, rfl, trivial⟩
    · refine pu_neg q2 ?_
      refine pu_pos (ti 128 (by (first | assumption | (dsimp only; first | assumption | grind) | grind)) (by (first | assumption | (dsimp only; first | assumption | grind) | grind)) rfl) ?_
      exact ⟨_, rfl, trivial⟩
set_option maxHeartbeats 4000000 in
theorem T_Disk_writeRow_L7 : ∀ (fuel : Nat) (g : am_WS) (rw : Nat → Int32) (x1 : Int32) (x3 : Int32) (x4 : Int32) (x5 : Int32), 0 ≤ g.1 → g.1 ≤ 26 → 0 ≤ x5 → tm x4 x5 fuel → ∃ r : (String ⊕ Unit) × am_WS, f_Disk_writeRow_L7 fuel g rw x1 x3 x4 x5 = some r ∧ tV "java/lang/IllegalStateException" "java/lang/IllegalStateException" r.1 ∧ 0 ≤ r.2.1 ∧ r.2.1 ≤ 26 := by
  intro fuel
  induction fuel with
  | zero =>
    intro g rw x1 x3 x4 x5 h0_ h1_ h2_ hm
    exact (tm0 hm).elim
  | succ fuel ih =>
    intro g rw x1 x3 x4 x5 h0_ h1_ h2_ hm
    rw [f_Disk_writeRow_L7]
    by_cases q1 : x4 ≤ x5
    · refine pu_pos q1 ?_
      exact ⟨_, rfl, tV_r, (by (try clear ih); (first | assumption | (dsimp only; first | assumption | grind) | grind)), (by (try clear ih); (first | assumption | (dsimp only; first | assumption | grind) | grind))⟩
    · refine pu_neg q1 ?_
      by_cases q2 : (x3 + x5) < 0
      · refine pu_pos q2 ?_
        exact ih g rw x1 x3 x4 (x5 + 1) (by (try clear ih); (first | assumption | (dsimp only; first | assumption | grind) | grind)) (by (try clear ih); (first | assumption | (dsimp only; first | assumption | grind) | grind)) (by (try clear ih); (first | assumption | (dsimp only; first | assumption | grind) | grind)) (tm1 (by (try clear ih); (first | assumption | (dsimp only; first | assumption | grind) | grind)) hm)
      · refine pu_neg q2 ?_
        by_cases q3 : 16 ≤ (x3 + x5)
        · refine pu_pos q3 ?_
          exact ih g rw x1 x3 x4 (x5 + 1) (by (try clear ih); (first | assumption | (dsimp only; first | assumption | grind) | grind)) (by (try clear ih); (first | assumption | (dsimp only; first | assumption | grind) | grind)) (by (try clear ih); (first | assumption | (dsimp only; first | assumption | grind) | grind)) (tm1 (by (try clear ih); (first | assumption | (dsimp only; first | assumption | grind) | grind)) hm)
        · refine pu_neg q3 ?_
          refine pu_pos (ti 16 (by (try clear ih); (first | assumption | (dsimp only; first | assumption | grind) | grind)) (by (try clear ih); (first | assumption | (dsimp only; first | assumption | grind) | grind)) rfl) ?_
          obtain ⟨r10, h4, p5⟩ := T_Disk_put g.2.2.2.2.2.2.2.2.2 (x1 + x5) (rw (x3 + x5).toNatClampNeg) 
          refine pu_bind h4 ?_
          clear h4
          exact ih (g.1, g.2.1, g.2.2.1, g.2.2.2.1, g.2.2.2.2.1, g.2.2.2.2.2.1, g.2.2.2.2.2.2.1, g.2.2.2.2.2.2.2.1, g.2.2.2.2.2.2.2.2.1, r10) rw x1 x3 x4 (x5 + 1) (by (try clear ih); (first | assumption | (dsimp only; first | assumption | grind) | grind)) (by (try clear ih); (first | assumption | (dsimp only; first | assumption | grind) | grind)) (by (try clear ih); (first | assumption | (dsimp only; first | assumption | grind) | grind)) (tm1 (by (try clear ih); (first | assumption | (dsimp only; first | assumption | grind) | grind)) hm)
set_option maxHeartbeats 4000000 in
theorem T_Disk_writeRow (g : am_WS) (rw : Nat → Int32) (x1 : Int32) (x3 : Int32) (x4 : Int32) (h0_ : 0 ≤ g.1) (h1_ : g.1 ≤ 26) : ∃ r : (String ⊕ Unit) × am_WS, f_Disk_writeRow g rw x1 x3 x4 = some r ∧ tV "java/lang/IllegalStateException" "java/lang/IllegalStateException" r.1 ∧ 0 ≤ r.2.1 ∧ r.2.1 ≤ 26 := by
  rw [f_Disk_writeRow]
  obtain ⟨r1, h1, p2, p3, p4⟩ := T_Disk_countWrite g (by (first | assumption | (dsimp only; first | assumption | grind) | grind)) (by (first | assumption | (dsimp only; first | assumption | grind) | grind))
  refine pu_bind h1 ?_
  clear h1
  refine pu_t (fun E3 w5 => ?_) (fun v4 w6 => ?_)
  · skip
    exact ⟨_, rfl, (tV_u p2 w5), (by (first | assumption | (dsimp only; first | assumption | grind) | grind)), (by (first | assumption | (dsimp only; first | assumption | grind) | grind))⟩
  · skip
    exact T_Disk_writeRow_L7 100000000000 r1.2 rw x1 x3 x4 0 (by (first | assumption | (dsimp only; first | assumption | grind) | grind)) (by (first | assumption | (dsimp only; first | assumption | grind) | grind)) (by (first | assumption | (dsimp only; first | assumption | grind) | grind)) (tmz _ _)
set_option maxHeartbeats 4000000 in
theorem T_Name_fillEntry_L11 : ∀ (fuel : Nat) (br : Nat → Int32) (rw : Nat → Int32) (x1 : Int32) (x2 : Int32) (x4 : Int32), 0 ≤ x4 → tm 16 x4 fuel → ∃ r : (Nat → Int32), f_Name_fillEntry_L11 fuel br rw x1 x2 x4 = some r ∧ True := by
  intro fuel
  induction fuel with
  | zero =>
    intro br rw x1 x2 x4 h0_ hm
    exact (tm0 hm).elim
  | succ fuel ih =>
    intro br rw x1 x2 x4 h0_ hm
    rw [f_Name_fillEntry_L11]
    by_cases q1 : 16 ≤ x4
    · refine pu_pos q1 ?_
      exact ⟨_, rfl, trivial⟩
    · refine pu_neg q1 ?_
      by_cases q2 : 6 ≤ x4
      · refine pu_pos q2 ?_
        refine pu_pos (ti 16 (by (try clear ih); (first | assumption | (dsimp only; first | assumption | grind) | grind)) (by (try clear ih); (first | assumption | (dsimp only; first | assumption | grind) | grind)) rfl) ?_
        exact ih br (upd rw x4.toNatClampNeg 0) x1 x2 (x4 + 1) (by (try clear ih); (first | assumption | (dsimp only; first | assumption | grind) | grind)) (tm1 (by (try clear ih); (first | assumption | (dsimp only; first | assumption | grind) | grind)) hm)
      · refine pu_neg q2 ?_
        refine pu_pos (ti 6 (by (try clear ih); (first | assumption | (dsimp only; first | assumption | grind) | grind)) (by (try clear ih); (first | assumption | (dsimp only; first | assumption | grind) | grind)) rfl) ?_
        refine pu_pos (ti 16 (by (try clear ih); (first | assumption | (dsimp only; first | assumption | grind) | grind)) (by (try clear ih); (first | assumption | (dsimp only; first | assumption | grind) | grind)) rfl) ?_
        exact ih br (upd rw x4.toNatClampNeg (br x4.toNatClampNeg)) x1 x2 (x4 + 1) (by (try clear ih); (first | assumption | (dsimp only; first | assumption | grind) | grind)) (tm1 (by (try clear ih); (first | assumption | (dsimp only; first | assumption | grind) | grind)) hm)
set_option maxHeartbeats 4000000 in
theorem T_Name_fillEntry (br : Nat → Int32) (rw : Nat → Int32) (x1 : Int32) (x2 : Int32)  : ∃ r : (Nat → Int32), f_Name_fillEntry br rw x1 x2 = some r ∧ True := by
  rw [f_Name_fillEntry]
  exact T_Name_fillEntry_L11 100000000000 br rw x1 x2 0 (by (first | assumption | (dsimp only; first | assumption | grind) | grind)) (tmz _ _)
set_option maxHeartbeats 4000000 in
theorem T_V_writeEntries_L3 : ∀ (fuel : Nat) (g : am_WS) (ct : Int32) (ad : Nat → Int32) (ln : Int32) (pt : Int32) (tx : Nat → Int32) (br : Nat → Int32) (rw : Nat → Int32) (x1 : Int32) (x2 : Int32) (x3 : Int32) (x4 : Int32), 0 ≤ g.1 → g.1 ≤ 26 → 0 ≤ ct → ct ≤ 128 → 0 ≤ ln → ln ≤ 26 → 0 ≤ pt → pt ≤ 2 → 0 ≤ x4 → tm pt x4 fuel → ∃ r : (String ⊕ Unit) × am_WS × (Nat → Int32), f_V_writeEntries_L3 fuel g ct ad ln pt tx br rw x1 x2 x3 x4 = some r ∧ tV "java/lang/IllegalStateException" "java/lang/IllegalStateException" r.1 ∧ 0 ≤ r.2.1.1 ∧ r.2.1.1 ≤ 26 := by
  intro fuel
  induction fuel with
  | zero =>
    intro g ct ad ln pt tx br rw x1 x2 x3 x4 h0_ h1_ h2_ h3_ h4_ h5_ h6_ h7_ h8_ hm
    exact (tm0 hm).elim
  | succ fuel ih =>
    intro g ct ad ln pt tx br rw x1 x2 x3 x4 h0_ h1_ h2_ h3_ h4_ h5_ h6_ h7_ h8_ hm
    rw [f_V_writeEntries_L3]
    by_cases q1 : pt ≤ x4
    · refine pu_pos q1 ?_
      obtain ⟨r2, h2, p3⟩ := T_Name_fillEntry br rw x2 x3 
      refine pu_bind h2 ?_
      clear h2
      obtain ⟨r4, h4, p5⟩ := T_Folder_addressOf ct ad (x1 + pt) (by (try clear ih); (first | assumption | (dsimp only; first | assumption | grind) | grind)) (by (try clear ih); (first | assumption | (dsimp only; first | assumption | grind) | grind))
      refine pu_bind h4 ?_
      clear h4
      obtain ⟨r6, h6, p7, p8, p9⟩ := T_Disk_writeRow g r2 r4 0 16 (by (try clear ih); (first | assumption | (dsimp only; first | assumption | grind) | grind)) (by (try clear ih); (first | assumption | (dsimp only; first | assumption | grind) | grind))
      refine pu_bind h6 ?_
      clear h6
      refine pu_t (fun E8 w10 => ?_) (fun v9 w11 => ?_)
      · skip
        exact ⟨_, rfl, (tV_u p7 w10), (by (try clear ih); (first | assumption | (dsimp only; first | assumption | grind) | grind)), (by (try clear ih); (first | assumption | (dsimp only; first | assumption | grind) | grind))⟩
      · skip
        exact ⟨_, rfl, tV_r, (by (try clear ih); (first | assumption | (dsimp only; first | assumption | grind) | grind)), (by (try clear ih); (first | assumption | (dsimp only; first | assumption | grind) | grind))⟩
    · refine pu_neg q1 ?_
      obtain ⟨r11, h12, p13⟩ := T_Name_fillPart ln pt tx br rw (pt - x4) (by (try clear ih); (first | assumption | (dsimp only; first | assumption | grind) | grind)) (by (try clear ih); (first | assumption | (dsimp only; first | assumption | grind) | grind)) (by (try clear ih); (first | assumption | (dsimp only; first | assumption | grind) | grind)) (by (try clear ih); (first | assumption | (dsimp only; first | assumption | grind) | grind))
      refine pu_bind h12 ?_
      clear h12
      obtain ⟨r13, h14, p15⟩ := T_Folder_addressOf ct ad (x1 + x4) (by (try clear ih); (first | assumption | (dsimp only; first | assumption | grind) | grind)) (by (try clear ih); (first | assumption | (dsimp only; first | assumption | grind) | grind))
      refine pu_bind h14 ?_
      clear h14
      obtain ⟨r15, h16, p17, p18, p19⟩ := T_Disk_writeRow g r11 r13 0 16 (by (try clear ih); (first | assumption | (dsimp only; first | assumption | grind) | grind)) (by (try clear ih); (first | assumption | (dsimp only; first | assumption | grind) | grind))
      refine pu_bind h16 ?_
      clear h16
      refine pu_t (fun E17 w20 => ?_) (fun v18 w21 => ?_)
      · skip
        exact ⟨_, rfl, (tV_u p17 w20), (by (try clear ih); (first | assumption | (dsimp only; first | assumption | grind) | grind)), (by (try clear ih); (first | assumption | (dsimp only; first | assumption | grind) | grind))⟩
      · skip
        exact ih r15.2 ct ad ln pt tx br r11 x1 x2 x3 (x4 + 1) (by (try clear ih); (first | assumption | (dsimp only; first | assumption | grind) | grind)) (by (try clear ih); (first | assumption | (dsimp only; first | assumption | grind) | grind)) (by (try clear ih); (first | assumption | (dsimp only; first | assumption | grind) | grind)) (by (try clear ih); (first | assumption | (dsimp only; first | assumption | grind) | grind)) (by (try clear ih); (first | assumption | (dsimp only; first | assumption | grind) | grind)) (by (try clear ih); (first | assumption | (dsimp only; first | assumption | grind) | grind)) (by (try clear ih); (first | assumption | (dsimp only; first | assumption | grind) | grind)) (by (try clear ih); (first | assumption | (dsimp only; first | assumption | grind) | grind)) (by (try clear ih); (first | assumption | (dsimp only; first | assumption | grind) | grind)) (tm1 (by (try clear ih); (first | assumption | (dsimp only; first | assumption | grind) | grind)) hm)
set_option maxHeartbeats 4000000 in
theorem T_V_writeEntries (g : am_WS) (ct : Int32) (ad : Nat → Int32) (ln : Int32) (pt : Int32) (tx : Nat → Int32) (br : Nat → Int32) (rw : Nat → Int32) (x1 : Int32) (x2 : Int32) (x3 : Int32) (h0_ : 0 ≤ g.1) (h1_ : g.1 ≤ 26) (h2_ : 0 ≤ ct) (h3_ : ct ≤ 128) (h4_ : 0 ≤ ln) (h5_ : ln ≤ 26) (h6_ : 0 ≤ pt) (h7_ : pt ≤ 2) : ∃ r : (String ⊕ Unit) × am_WS × (Nat → Int32), f_V_writeEntries g ct ad ln pt tx br rw x1 x2 x3 = some r ∧ tV "java/lang/IllegalStateException" "java/lang/IllegalStateException" r.1 ∧ 0 ≤ r.2.1.1 ∧ r.2.1.1 ≤ 26 := by
  rw [f_V_writeEntries]
  exact T_V_writeEntries_L3 100000000000 g ct ad ln pt tx br rw x1 x2 x3 0 (by (first | assumption | (dsimp only; first | assumption | grind) | grind)) (by (first | assumption | (dsimp only; first | assumption | grind) | grind)) (by (first | assumption | (dsimp only; first | assumption | grind) | grind)) (by (first | assumption | (dsimp only; first | assumption | grind) | grind)) (by (first | assumption | (dsimp only; first | assumption | grind) | grind)) (by (first | assumption | (dsimp only; first | assumption | grind) | grind)) (by (first | assumption | (dsimp only; first | assumption | grind) | grind)) (by (first | assumption | (dsimp only; first | assumption | grind) | grind)) (by (first | assumption | (dsimp only; first | assumption | grind) | grind)) (tmz _ _)
set_option maxHeartbeats 4000000 in
theorem T_V_create (g : am_WS) (li : Nat → Int32) (su : Int32) (ct : Int32) (lc : Int32) (ad : Nat → Int32) (ln : Int32) (pt : Int32) (tx : Nat → Int32) (br : Nat → Int32) (rw : Nat → Int32) (x1 : Int32) (h0_ : 0 ≤ g.1) (h1_ : g.1 ≤ 26) (h2_ : 0 ≤ ct) (h3_ : ct ≤ 128) (h4_ : 0 ≤ ln) (h5_ : ln ≤ 26) (h6_ : 0 ≤ pt) (h7_ : pt ≤ 2) : ∃ r : (String ⊕ Unit) × am_WS × Int32 × Int32 × (Nat → Int32) × Int32 × Int32 × (Nat → Int32) × (Nat → Int32) × (Nat → Int32), f_V_create g li su ct lc ad ln pt tx br rw x1 = some r ∧ tV "java/lang/IllegalArgumentException" "java/lang/UnsupportedOperationException" r.1 ∧ 0 ≤ r.2.1.1 ∧ r.2.1.1 ≤ 26 ∧ 0 ≤ r.2.2.1 ∧ r.2.2.1 ≤ 128 ∧ 0 ≤ r.2.2.2.2.2.1 ∧ r.2.2.2.2.2.1 ≤ 26 ∧ 0 ≤ r.2.2.2.2.2.2.1 ∧ r.2.2.2.2.2.2.1 ≤ 2 := by
  rw [f_V_create]
  obtain ⟨r1, h1, p2⟩ := T_V_demandSoundDisk g.2.2.2.2.2.1 su 
  refine pu_bind h1 ?_
  clear h1
  refine pu_t (fun E3 w3 => ?_) (fun v4 w4 => ?_)
  · skip
    exact ⟨_, rfl, (tV_u p2 w3), (by (first | assumption | (dsimp only; first | assumption | grind) | grind)), (by (first | assumption | (dsimp only; first | assumption | grind) | grind)), (by (first | assumption | (dsimp only; first | assumption | grind) | grind)), (by (first | assumption | (dsimp only; first | assumption | grind) | grind)), (by (first | assumption | (dsimp only; first | assumption | grind) | grind)), (by (first | assumption | (dsimp only; first | assumption | grind) | grind)), (by (first | assumption | (dsimp only; first | assumption | grind) | grind)), (by (first | assumption | (dsimp only; first | assumption | grind) | grind))⟩
  · skip
    obtain ⟨r6, h5, p6, p7, p8, p9⟩ := T_Name_takeLineOf g.1 li ln tx (by (first | assumption | (dsimp only; first | assumption | grind) | grind)) (by (first | assumption | (dsimp only; first | assumption | grind) | grind)) (by (first | assumption | (dsimp only; first | assumption | grind) | grind)) (by (first | assumption | (dsimp only; first | assumption | grind) | grind))
    refine pu_bind h5 ?_
    clear h5
    obtain ⟨r8, h10, p11⟩ := T_Name_isGood r6.2.1 r6.2.2 (by (first | assumption | (dsimp only; first | assumption | grind) | grind)) (by (first | assumption | (dsimp only; first | assumption | grind) | grind))
    refine pu_bind h10 ?_
    clear h10
    by_cases q12 : r8 = 0
    · refine pu_pos q12 ?_
      exact ⟨_, rfl, tV_a, (by (first | assumption | (dsimp only; first | assumption | grind) | grind)), (by (first | assumption | (dsimp only; first | assumption | grind) | grind)), (by (first | assumption | (dsimp only; first | assumption | grind) | grind)), (by (first | assumption | (dsimp only; first | assumption | grind) | grind)), (by (first | assumption | (dsimp only; first | assumption | grind) | grind)), (by (first | assumption | (dsimp only; first | assumption | grind) | grind)), (by (first | assumption | (dsimp only; first | assumption | grind) | grind)), (by (first | assumption | (dsimp only; first | assumption | grind) | grind))⟩
    · refine pu_neg q12 ?_
      by_cases q13 : x1 = 1
      · refine pu_pos q13 ?_
        obtain ⟨r12, h14, p15, p16⟩ := T_Folder_load g.2.2.2.2.2.2.2.2.2 ct lc ad g.2.1 (by (first | assumption | (dsimp only; first | assumption | grind) | grind)) (by (first | assumption | (dsimp only; first | assumption | grind) | grind))
        refine pu_bind h14 ?_
        clear h14
        obtain ⟨r16, h17, p18⟩ := T_Folder_find g.2.2.2.2.2.2.2.2.2 r12.1 r12.2.2 r6.2.1 r6.2.2 0 (by (first | assumption | (dsimp only; first | assumption | grind) | grind)) (by (first | assumption | (dsimp only; first | assumption | grind) | grind)) (by (first | assumption | (dsimp only; first | assumption | grind) | grind)) (by (first | assumption | (dsimp only; first | assumption | grind) | grind))
        refine pu_bind h17 ?_
        clear h17
        by_cases q19 : r16 = (-1)
        · refine pu_pos q19 ?_
          obtain ⟨r19, h20, p21, p22, p23⟩ := T_Name_chooseShort g.2.2.2.2.2.2.2.2.2 r12.1 r12.2.2 r6.2.1 pt r6.2.2 br (by (first | assumption | (dsimp only; first | assumption | grind) | grind)) (by (first | assumption | (dsimp only; first | assumption | grind) | grind)) (by (first | assumption | (dsimp only; first | assumption | grind) | grind)) (by (first | assumption | (dsimp only; first | assumption | grind) | grind)) (by (first | assumption | (dsimp only; first | assumption | grind) | grind)) (by (first | assumption | (dsimp only; first | assumption | grind) | grind))
          refine pu_bind h20 ?_
          clear h20
          by_cases q24 : r19.1 = 0
          · refine pu_pos q24 ?_
            exact ⟨_, rfl, tV_b, (by (first | assumption | (dsimp only; first | assumption | grind) | grind)), (by (first | assumption | (dsimp only; first | assumption | grind) | grind)), (by (first | assumption | (dsimp only; first | assumption | grind) | grind)), (by (first | assumption | (dsimp only; first | assumption | grind) | grind)), (by (first | assumption | (dsimp only; first | assumption | grind) | grind)), (by (first | assumption | (dsimp only; first | assumption | grind) | grind)), (by (first | assumption | (dsimp only; first | assumption | grind) | grind)), (by (first | assumption | (dsimp only; first | assumption | grind) | grind))⟩
          · refine pu_neg q24 ?_
            obtain ⟨r24, h25, p26, p27, p28, p29, p30⟩ := T_V_makeFreeRow (r6.1, g.2.1, g.2.2.1, g.2.2.2.1, g.2.2.2.2.1, g.2.2.2.2.2.1, g.2.2.2.2.2.2.1, g.2.2.2.2.2.2.2.1, g.2.2.2.2.2.2.2.2.1, g.2.2.2.2.2.2.2.2.2) r12.1 r12.2.1 r12.2.2 (r19.2.1 + 1) (by (first | assumption | (dsimp only; first | assumption | grind) | grind)) (by (first | assumption | (dsimp only; first | assumption | grind) | grind)) (by (first | assumption | (dsimp only; first | assumption | grind) | grind)) (by (first | assumption | (dsimp only; first | assumption | grind) | grind))
            refine pu_bind h25 ?_
            clear h25
            try dsimp only at p26 p27 p28 p29 p30
            refine pu_t (fun E26 w31 => ?_) (fun v27 w32 => ?_)
            · skip
              exact ⟨_, rfl, (tV_u p26 w31), (by (first | assumption | (dsimp only; first | assumption | grind) | grind)), (by (first | assumption | (dsimp only; first | assumption | grind) | grind)), (by (first | assumption | (dsimp only; first | assumption | grind) | grind)), (by (first | assumption | (dsimp only; first | assumption | grind) | grind)), (by (first | assumption | (dsimp only; first | assumption | grind) | grind)), (by (first | assumption | (dsimp only; first | assumption | grind) | grind)), (by (first | assumption | (dsimp only; first | assumption | grind) | grind)), (by (first | assumption | (dsimp only; first | assumption | grind) | grind))⟩
            · skip
              by_cases q33 : v27 = (-1)
              · refine pu_pos q33 ?_
                exact ⟨_, rfl, tV_b, (by (first | assumption | (dsimp only; first | assumption | grind) | grind)), (by (first | assumption | (dsimp only; first | assumption | grind) | grind)), (by (first | assumption | (dsimp only; first | assumption | grind) | grind)), (by (first | assumption | (dsimp only; first | assumption | grind) | grind)), (by (first | assumption | (dsimp only; first | assumption | grind) | grind)), (by (first | assumption | (dsimp only; first | assumption | grind) | grind)), (by (first | assumption | (dsimp only; first | assumption | grind) | grind)), (by (first | assumption | (dsimp only; first | assumption | grind) | grind))⟩
              · refine pu_neg q33 ?_
                obtain ⟨r30, h34, p35, p36, p37⟩ := T_V_writeEntries r24.2.1 r24.2.2.1 r24.2.2.2.2 r6.2.1 r19.2.1 r6.2.2 r19.2.2 rw v27 x1 0 (by (first | assumption | (dsimp only; first | assumption | grind) | grind)) (by (first | assumption | (dsimp only; first | assumption | grind) | grind)) (by (first | assumption | (dsimp only; first | assumption | grind) | grind)) (by (first | assumption | (dsimp only; first | assumption | grind) | grind)) (by (first | assumption | (dsimp only; first | assumption | grind) | grind)) (by (first | assumption | (dsimp only; first | assumption | grind) | grind)) (by (first | assumption | (dsimp only; first | assumption | grind) | grind)) (by (first | assumption | (dsimp only; first | assumption | grind) | grind))
                refine pu_bind h34 ?_
                clear h34
                refine pu_t (fun E32 w38 => ?_) (fun v33 w39 => ?_)
                · skip
                  exact ⟨_, rfl, (tV_u p35 w38), (by (first | assumption | (dsimp only; first | assumption | grind) | grind)), (by (first | assumption | (dsimp only; first | assumption | grind) | grind)), (by (first | assumption | (dsimp only; first | assumption | grind) | grind)), (by (first | assumption | (dsimp only; first | assumption | grind) | grind)), (by (first | assumption | (dsimp only; first | assumption | grind) | grind)), (by (first | assumption | (dsimp only; first | assumption | grind) | grind)), (by (first | assumption | (dsimp only; first | assumption | grind) | grind)), (by (first | assumption | (dsimp only; first | assumption | grind) | grind))⟩
                · skip
                  exact ⟨_, rfl, tV_r, (by (first | assumption | (dsimp only; first | assumption | grind) | grind)), (by (first | assumption | (dsimp only; first | assumption | grind) | grind)), (by (first | assumption | (dsimp only; first | assumption | grind) | grind)), (by (first | assumption | (dsimp only; first | assumption | grind) | grind)), (by (first | assumption | (dsimp only; first | assumption | grind) | grind)), (by (first | assumption | (dsimp only; first | assumption | grind) | grind)), (by (first | assumption | (dsimp only; first | assumption | grind) | grind)), (by (first | assumption | (dsimp only; first | assumption | grind) | grind))⟩
        · refine pu_neg q19 ?_
          exact ⟨_, rfl, tV_b, (by (first | assumption | (dsimp only; first | assumption | grind) | grind)), (by (first | assumption | (dsimp only; first | assumption | grind) | grind)), (by (first | assumption | (dsimp only; first | assumption | grind) | grind)), (by (first | assumption | (dsimp only; first | assumption | grind) | grind)), (by (first | assumption | (dsimp only; first | assumption | grind) | grind)), (by (first | assumption | (dsimp only; first | assumption | grind) | grind)), (by (first | assumption | (dsimp only; first | assumption | grind) | grind)), (by (first | assumption | (dsimp only; first | assumption | grind) | grind))⟩
      · refine pu_neg q13 ?_
        by_cases q40 : x1 = 2
        · refine pu_pos q40 ?_
          obtain ⟨r36, h41, p42, p43⟩ := T_Folder_load g.2.2.2.2.2.2.2.2.2 ct lc ad g.2.1 (by (first | assumption | (dsimp only; first | assumption | grind) | grind)) (by (first | assumption | (dsimp only; first | assumption | grind) | grind))
          refine pu_bind h41 ?_
          clear h41
          by_cases q44 : g.2.2.1 < 5
          · refine pu_pos q44 ?_
            obtain ⟨r41, h45, p46⟩ := T_Folder_find g.2.2.2.2.2.2.2.2.2 r36.1 r36.2.2 r6.2.1 r6.2.2 0 (by (first | assumption | (dsimp only; first | assumption | grind) | grind)) (by (first | assumption | (dsimp only; first | assumption | grind) | grind)) (by (first | assumption | (dsimp only; first | assumption | grind) | grind)) (by (first | assumption | (dsimp only; first | assumption | grind) | grind))
            refine pu_bind h45 ?_
            clear h45
            by_cases q47 : r41 = (-1)
            · refine pu_pos q47 ?_
              obtain ⟨r44, h48, p49, p50, p51⟩ := T_Name_chooseShort g.2.2.2.2.2.2.2.2.2 r36.1 r36.2.2 r6.2.1 pt r6.2.2 br (by (first | assumption | (dsimp only; first | assumption | grind) | grind)) (by (first | assumption | (dsimp only; first | assumption | grind) | grind)) (by (first | assumption | (dsimp only; first | assumption | grind) | grind)) (by (first | assumption | (dsimp only; first | assumption | grind) | grind)) (by (first | assumption | (dsimp only; first | assumption | grind) | grind)) (by (first | assumption | (dsimp only; first | assumption | grind) | grind))
              refine pu_bind h48 ?_
              clear h48
              by_cases q52 : r44.1 = 0
              · refine pu_pos q52 ?_
                exact ⟨_, rfl, tV_b, (by (first | assumption | (dsimp only; first | assumption | grind) | grind)), (by (first | assumption | (dsimp only; first | assumption | grind) | grind)), (by (first | assumption | (dsimp only; first | assumption | grind) | grind)), (by (first | assumption | (dsimp only; first | assumption | grind) | grind)), (by (first | assumption | (dsimp only; first | assumption | grind) | grind)), (by (first | assumption | (dsimp only; first | assumption | grind) | grind)), (by (first | assumption | (dsimp only; first | assumption | grind) | grind)), (by (first | assumption | (dsimp only; first | assumption | grind) | grind))⟩
              · refine pu_neg q52 ?_
                obtain ⟨r48, h53, p54, p55, p56⟩ := T_Table_take (r6.1, g.2.1, g.2.2.1, g.2.2.2.1, g.2.2.2.2.1, g.2.2.2.2.2.1, g.2.2.2.2.2.2.1, g.2.2.2.2.2.2.2.1, g.2.2.2.2.2.2.2.2.1, g.2.2.2.2.2.2.2.2.2) (by (first | assumption | (dsimp only; first | assumption | grind) | grind)) (by (first | assumption | (dsimp only; first | assumption | grind) | grind))
                refine pu_bind h53 ?_
                clear h53
                try dsimp only at p54 p55 p56
                refine pu_t (fun E50 w57 => ?_) (fun v51 w58 => ?_)
                · skip
                  exact ⟨_, rfl, (tV_u p54 w57), (by (first | assumption | (dsimp only; first | assumption | grind) | grind)), (by (first | assumption | (dsimp only; first | assumption | grind) | grind)), (by (first | assumption | (dsimp only; first | assumption | grind) | grind)), (by (first | assumption | (dsimp only; first | assumption | grind) | grind)), (by (first | assumption | (dsimp only; first | assumption | grind) | grind)), (by (first | assumption | (dsimp only; first | assumption | grind) | grind)), (by (first | assumption | (dsimp only; first | assumption | grind) | grind)), (by (first | assumption | (dsimp only; first | assumption | grind) | grind))⟩
                · skip
                  by_cases q59 : v51 = 0
                  · refine pu_pos q59 ?_
                    exact ⟨_, rfl, tV_b, (by (first | assumption | (dsimp only; first | assumption | grind) | grind)), (by (first | assumption | (dsimp only; first | assumption | grind) | grind)), (by (first | assumption | (dsimp only; first | assumption | grind) | grind)), (by (first | assumption | (dsimp only; first | assumption | grind) | grind)), (by (first | assumption | (dsimp only; first | assumption | grind) | grind)), (by (first | assumption | (dsimp only; first | assumption | grind) | grind)), (by (first | assumption | (dsimp only; first | assumption | grind) | grind)), (by (first | assumption | (dsimp only; first | assumption | grind) | grind))⟩
                  · refine pu_neg q59 ?_
                    obtain ⟨r55, h60, p61, p62, p63, p64, p65⟩ := T_V_makeFreeRow r48.2 r36.1 r36.2.1 r36.2.2 (r44.2.1 + 1) (by (first | assumption | (dsimp only; first | assumption | grind) | grind)) (by (first | assumption | (dsimp only; first | assumption | grind) | grind)) (by (first | assumption | (dsimp only; first | assumption | grind) | grind)) (by (first | assumption | (dsimp only; first | assumption | grind) | grind))
                    refine pu_bind h60 ?_
                    clear h60
                    refine pu_t (fun E57 w66 => ?_) (fun v58 w67 => ?_)
                    · skip
                      exact ⟨_, rfl, (tV_u p61 w66), (by (first | assumption | (dsimp only; first | assumption | grind) | grind)), (by (first | assumption | (dsimp only; first | assumption | grind) | grind)), (by (first | assumption | (dsimp only; first | assumption | grind) | grind)), (by (first | assumption | (dsimp only; first | assumption | grind) | grind)), (by (first | assumption | (dsimp only; first | assumption | grind) | grind)), (by (first | assumption | (dsimp only; first | assumption | grind) | grind)), (by (first | assumption | (dsimp only; first | assumption | grind) | grind)), (by (first | assumption | (dsimp only; first | assumption | grind) | grind))⟩
                    · skip
                      by_cases q68 : v58 = (-1)
                      · refine pu_pos q68 ?_
                        exact ⟨_, rfl, tV_b, (by (first | assumption | (dsimp only; first | assumption | grind) | grind)), (by (first | assumption | (dsimp only; first | assumption | grind) | grind)), (by (first | assumption | (dsimp only; first | assumption | grind) | grind)), (by (first | assumption | (dsimp only; first | assumption | grind) | grind)), (by (first | assumption | (dsimp only; first | assumption | grind) | grind)), (by (first | assumption | (dsimp only; first | assumption | grind) | grind)), (by (first | assumption | (dsimp only; first | assumption | grind) | grind)), (by (first | assumption | (dsimp only; first | assumption | grind) | grind))⟩
                      · refine pu_neg q68 ?_
                        obtain ⟨r61, h69, p70, p71, p72⟩ := T_V_writeEntries r55.2.1 r55.2.2.1 r55.2.2.2.2 r6.2.1 r44.2.1 r6.2.2 r44.2.2 rw v58 x1 v51 (by (first | assumption | (dsimp only; first | assumption | grind) | grind)) (by (first | assumption | (dsimp only; first | assumption | grind) | grind)) (by (first | assumption | (dsimp only; first | assumption | grind) | grind)) (by (first | assumption | (dsimp only; first | assumption | grind) | grind)) (by (first | assumption | (dsimp only; first | assumption | grind) | grind)) (by (first | assumption | (dsimp only; first | assumption | grind) | grind)) (by (first | assumption | (dsimp only; first | assumption | grind) | grind)) (by (first | assumption | (dsimp only; first | assumption | grind) | grind))
                        refine pu_bind h69 ?_
                        clear h69
                        refine pu_t (fun E63 w73 => ?_) (fun v64 w74 => ?_)
                        · skip
                          exact ⟨_, rfl, (tV_u p70 w73), (by (first | assumption | (dsimp only; first | assumption | grind) | grind)), (by (first | assumption | (dsimp only; first | assumption | grind) | grind)), (by (first | assumption | (dsimp only; first | assumption | grind) | grind)), (by (first | assumption | (dsimp only; first | assumption | grind) | grind)), (by (first | assumption | (dsimp only; first | assumption | grind) | grind)), (by (first | assumption | (dsimp only; first | assumption | grind) | grind)), (by (first | assumption | (dsimp only; first | assumption | grind) | grind)), (by (first | assumption | (dsimp only; first | assumption | grind) | grind))⟩
                        · skip
                          exact ⟨_, rfl, tV_r, (by (first | assumption | (dsimp only; first | assumption | grind) | grind)), (by (first | assumption | (dsimp only; first | assumption | grind) | grind)), (by (first | assumption | (dsimp only; first | assumption | grind) | grind)), (by (first | assumption | (dsimp only; first | assumption | grind) | grind)), (by (first | assumption | (dsimp only; first | assumption | grind) | grind)), (by (first | assumption | (dsimp only; first | assumption | grind) | grind)), (by (first | assumption | (dsimp only; first | assumption | grind) | grind)), (by (first | assumption | (dsimp only; first | assumption | grind) | grind))⟩
            · refine pu_neg q47 ?_
              exact ⟨_, rfl, tV_b, (by (first | assumption | (dsimp only; first | assumption | grind) | grind)), (by (first | assumption | (dsimp only; first | assumption | grind) | grind)), (by (first | assumption | (dsimp only; first | assumption | grind) | grind)), (by (first | assumption | (dsimp only; first | assumption | grind) | grind)), (by (first | assumption | (dsimp only; first | assumption | grind) | grind)), (by (first | assumption | (dsimp only; first | assumption | grind) | grind)), (by (first | assumption | (dsimp only; first | assumption | grind) | grind)), (by (first | assumption | (dsimp only; first | assumption | grind) | grind))⟩
          · refine pu_neg q44 ?_
            exact ⟨_, rfl, tV_b, (by (first | assumption | (dsimp only; first | assumption | grind) | grind)), (by (first | assumption | (dsimp only; first | assumption | grind) | grind)), (by (first | assumption | (dsimp only; first | assumption | grind) | grind)), (by (first | assumption | (dsimp only; first | assumption | grind) | grind)), (by (first | assumption | (dsimp only; first | assumption | grind) | grind)), (by (first | assumption | (dsimp only; first | assumption | grind) | grind)), (by (first | assumption | (dsimp only; first | assumption | grind) | grind)), (by (first | assumption | (dsimp only; first | assumption | grind) | grind))⟩
        · refine pu_neg q40 ?_
          exact ⟨_, rfl, tV_a, (by (first | assumption | (dsimp only; first | assumption | grind) | grind)), (by (first | assumption | (dsimp only; first | assumption | grind) | grind)), (by (first | assumption | (dsimp only; first | assumption | grind) | grind)), (by (first | assumption | (dsimp only; first | assumption | grind) | grind)), (by (first | assumption | (dsimp only; first | assumption | grind) | grind)), (by (first | assumption | (dsimp only; first | assumption | grind) | grind)), (by (first | assumption | (dsimp only; first | assumption | grind) | grind)), (by (first | assumption | (dsimp only; first | assumption | grind) | grind))⟩
