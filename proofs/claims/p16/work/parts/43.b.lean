set_option maxHeartbeats 4000000 in
theorem T_Folder_find (bt : Nat → Int32) (ct : Int32) (ad : Nat → Int32) (ln : Int32) (tx : Nat → Int32) (x2 : Int32) (h0_ : 0 ≤ ct) (h1_ : ct ≤ 128) (h2_ : 0 ≤ ln) (h3_ : ln ≤ 26) : ∃ r : Int32, f_Folder_find bt ct ad ln tx x2 = some r ∧ True := by
  rw [f_Folder_find]
  exact T_Folder_find_L2 100000000000 bt ct ad ln tx x2 0 (by (first | assumption | (dsimp only; first | assumption | grind) | grind)) (by (first | assumption | (dsimp only; first | assumption | grind) | grind)) (by (first | assumption | (dsimp only; first | assumption | grind) | grind)) (by (first | assumption | (dsimp only; first | assumption | grind) | grind)) (by (first | assumption | (dsimp only; first | assumption | grind) | grind)) (tmz _ _)
set_option maxHeartbeats 4000000 in
theorem T_V_isShortChar (x0 : Int32)  : ∃ r : Int32, f_V_isShortChar x0 = some r ∧ (r = 0 ∨ r = 1) := by
  rw [f_V_isShortChar]
  by_cases q1 : x0 < 65
  · refine pu_pos q1 ?_
    by_cases q2 : x0 < 48
    · refine pu_pos q2 ?_
      exact ⟨_, rfl, (by (first | assumption | (dsimp only; first | assumption | grind) | grind))⟩
    · refine pu_neg q2 ?_
      by_cases q3 : 57 < x0
      · refine pu_pos q3 ?_
        exact ⟨_, rfl, (by (first | assumption | (dsimp only; first | assumption | grind) | grind))⟩
      · refine pu_neg q3 ?_
        exact ⟨_, rfl, (by (first | assumption | (dsimp only; first | assumption | grind) | grind))⟩
  · refine pu_neg q1 ?_
    by_cases q4 : x0 ≤ 90
    · refine pu_pos q4 ?_
      exact ⟨_, rfl, (by (first | assumption | (dsimp only; first | assumption | grind) | grind))⟩
    · refine pu_neg q4 ?_
      by_cases q5 : x0 < 48
      · refine pu_pos q5 ?_
        exact ⟨_, rfl, (by (first | assumption | (dsimp only; first | assumption | grind) | grind))⟩
      · refine pu_neg q5 ?_
        by_cases q6 : 57 < x0
        · refine pu_pos q6 ?_
          exact ⟨_, rfl, (by (first | assumption | (dsimp only; first | assumption | grind) | grind))⟩
        · refine pu_neg q6 ?_
          exact ⟨_, rfl, (by (first | assumption | (dsimp only; first | assumption | grind) | grind))⟩
set_option maxHeartbeats 4000000 in
theorem T_Name_isShort_L2 : ∀ (fuel : Nat) (ln : Int32) (tx : Nat → Int32) (x1 : Int32), 0 ≤ ln → ln ≤ 26 → 0 ≤ x1 → tm ln x1 fuel → ∃ r : Int32, f_Name_isShort_L2 fuel ln tx x1 = some r ∧ (r = 0 ∨ r = 1) := by
  intro fuel
  induction fuel with
  | zero =>
    intro ln tx x1 h0_ h1_ h2_ hm
    exact (tm0 hm).elim
  | succ fuel ih =>
    intro ln tx x1 h0_ h1_ h2_ hm
    rw [f_Name_isShort_L2]
    by_cases q1 : ln ≤ x1
    · refine pu_pos q1 ?_
      by_cases q2 : 6 < ln
      · refine pu_pos q2 ?_
        exact ⟨_, rfl, (by (try clear ih); (first | assumption | (dsimp only; first | assumption | grind) | grind))⟩
      · refine pu_neg q2 ?_
        exact ⟨_, rfl, (by (try clear ih); (first | assumption | (dsimp only; first | assumption | grind) | grind))⟩
    · refine pu_neg q1 ?_
      obtain ⟨r3, h3, p4⟩ := T_Name_charAt ln tx x1 (by (try clear ih); (first | assumption | (dsimp only; first | assumption | grind) | grind)) (by (try clear ih); (first | assumption | (dsimp only; first | assumption | grind) | grind))
      refine pu_bind h3 ?_
      clear h3
      obtain ⟨r5, h5, p6⟩ := T_V_isShortChar r3 
      refine pu_bind h5 ?_
      clear h5
      by_cases q7 : r5 = 0
      · refine pu_pos q7 ?_
        exact ⟨_, rfl, (by (try clear ih); (first | assumption | (dsimp only; first | assumption | grind) | grind))⟩
      · refine pu_neg q7 ?_
        exact ih ln tx (x1 + 1) (by (try clear ih); (first | assumption | (dsimp only; first | assumption | grind) | grind)) (by (try clear ih); (first | assumption | (dsimp only; first | assumption | grind) | grind)) (by (try clear ih); (first | assumption | (dsimp only; first | assumption | grind) | grind)) (tm1 (by (try clear ih); (first | assumption | (dsimp only; first | assumption | grind) | grind)) hm)
set_option maxHeartbeats 4000000 in
theorem T_Name_isShort (ln : Int32) (tx : Nat → Int32) (h0_ : 0 ≤ ln) (h1_ : ln ≤ 26) : ∃ r : Int32, f_Name_isShort ln tx = some r ∧ (r = 0 ∨ r = 1) := by
  rw [f_Name_isShort]
  exact T_Name_isShort_L2 100000000000 ln tx 0 (by (first | assumption | (dsimp only; first | assumption | grind) | grind)) (by (first | assumption | (dsimp only; first | assumption | grind) | grind)) (by (first | assumption | (dsimp only; first | assumption | grind) | grind)) (tmz _ _)
set_option maxHeartbeats 4000000 in
theorem T_Name_copyCapitals_L4 : ∀ (fuel : Nat) (ln : Int32) (tx : Nat → Int32) (br : Nat → Int32) (x1 : Int32) (x2 : Int32) (x3 : Int32), 0 ≤ ln → ln ≤ 26 → 0 ≤ x3 → 0 ≤ x1 → x1 ≤ 6 → 0 ≤ x2 → x2 ≤ x1 → tm ln x3 fuel → ∃ r : Int32 × (Nat → Int32), f_Name_copyCapitals_L4 fuel ln tx br x1 x2 x3 = some r ∧ 0 ≤ r.1 ∧ r.1 ≤ x1 := by
  intro fuel
  induction fuel with
  | zero =>
    intro ln tx br x1 x2 x3 h0_ h1_ h2_ h3_ h4_ h5_ h6_ hm
    exact (tm0 hm).elim
  | succ fuel ih =>
    intro ln tx br x1 x2 x3 h0_ h1_ h2_ h3_ h4_ h5_ h6_ hm
    rw [f_Name_copyCapitals_L4]
    by_cases q1 : ln ≤ x3
    · refine pu_pos q1 ?_
      exact ⟨_, rfl, (by (try clear ih); (first | assumption | (dsimp only; first | assumption | grind) | grind)), (by (try clear ih); (first | assumption | (dsimp only; first | assumption | grind) | grind))⟩
    · refine pu_neg q1 ?_
      by_cases q2 : x1 ≤ x2
      · refine pu_pos q2 ?_
        exact ⟨_, rfl, (by (try clear ih); (first | assumption | (dsimp only; first | assumption | grind) | grind)), (by (try clear ih); (first | assumption | (dsimp only; first | assumption | grind) | grind))⟩
      · refine pu_neg q2 ?_
        by_cases q3 : 6 ≤ x2
        · refine pu_pos q3 ?_
          exact ⟨_, rfl, (by (try clear ih); (first | assumption | (dsimp only; first | assumption | grind) | grind)), (by (try clear ih); (first | assumption | (dsimp only; first | assumption | grind) | grind))⟩
        · refine pu_neg q3 ?_
          obtain ⟨r4, h4, p5⟩ := T_Name_charAt ln tx x3 (by (try clear ih); (first | assumption | (dsimp only; first | assumption | grind) | grind)) (by (try clear ih); (first | assumption | (dsimp only; first | assumption | grind) | grind))
          refine pu_bind h4 ?_
          clear h4
          obtain ⟨r6, h6, p7⟩ := T_V_capital r4 
          refine pu_bind h6 ?_
          clear h6
          obtain ⟨r8, h8, p9⟩ := T_V_isShortChar r6 
          refine pu_bind h8 ?_
          clear h8
          by_cases q10 : r8 = 0
          · refine pu_pos q10 ?_
            exact ih ln tx br x1 x2 (x3 + 1) (by (try clear ih); (first | assumption | (dsimp only; first | assumption | grind) | grind)) (by (try clear ih); (first | assumption | (dsimp only; first | assumption | grind) | grind)) (by (try clear ih); (first | assumption | (dsimp only; first | assumption | grind) | grind)) (by (try clear ih); (first | assumption | (dsimp only; first | assumption | grind) | grind)) (by (try clear ih); (first | assumption | (dsimp only; first | assumption | grind) | grind)) (by (try clear ih); (first | assumption | (dsimp only; first | assumption | grind) | grind)) (by (try clear ih); (first | assumption | (dsimp only; first | assumption | grind) | grind)) (tm1 (by (try clear ih); (first | assumption | (dsimp only; first | assumption | grind) | grind)) hm)
          · refine pu_neg q10 ?_
            refine pu_pos (ti 6 (by (try clear ih); (first | assumption | (dsimp only; first | assumption | grind) | grind)) (by (try clear ih); (first | assumption | (dsimp only; first | assumption | grind) | grind)) rfl) ?_
            exact ih ln tx (upd br x2.toNatClampNeg r6) x1 (x2 + 1) (x3 + 1) (by (try clear ih); (first | assumption | (dsimp only; first | assumption | grind) | grind)) (by (try clear ih); (first | assumption | (dsimp only; first | assumption | grind) | grind)) (by (try clear ih); (first | assumption | (dsimp only; first | assumption | grind) | grind)) (by (try clear ih); (first | assumption | (dsimp only; first | assumption | grind) | grind)) (by (try clear ih); (first | assumption | (dsimp only; first | assumption | grind) | grind)) (by (try clear ih); (first | assumption | (dsimp only; first | assumption | grind) | grind)) (by (try clear ih); (first | assumption | (dsimp only; first | assumption | grind) | grind)) (tm1 (by (try clear ih); (first | assumption | (dsimp only; first | assumption | grind) | grind)) hm)
set_option maxHeartbeats 4000000 in
theorem T_Name_copyCapitals (ln : Int32) (tx : Nat → Int32) (br : Nat → Int32) (x1 : Int32) (h0_ : 0 ≤ ln) (h1_ : ln ≤ 26) (h2_ : 0 ≤ x1) (h3_ : x1 ≤ 6) : ∃ r : Int32 × (Nat → Int32), f_Name_copyCapitals ln tx br x1 = some r ∧ 0 ≤ r.1 ∧ r.1 ≤ x1 := by
  rw [f_Name_copyCapitals]
  exact T_Name_copyCapitals_L4 100000000000 ln tx br x1 0 0 (by (first | assumption | (dsimp only; first | assumption | grind) | grind)) (by (first | assumption | (dsimp only; first | assumption | grind) | grind)) (by (first | assumption | (dsimp only; first | assumption | grind) | grind)) (by (first | assumption | (dsimp only; first | assumption | grind) | grind)) (by (first | assumption | (dsimp only; first | assumption | grind) | grind)) (by (first | assumption | (dsimp only; first | assumption | grind) | grind)) (by (first | assumption | (dsimp only; first | assumption | grind) | grind)) (tmz _ _)
set_option maxHeartbeats 4000000 in
theorem T_Folder_isShort_L14 : ∀ (fuel : Nat) (bt : Nat → Int32) (ct : Int32) (ad : Nat → Int32) (br : Nat → Int32) (x1 : Int32) (x3 : Int32) (x4 : Int32), 0 ≤ ct → ct ≤ 128 → 0 ≤ x4 → tm x3 x4 fuel → ∃ r : Int32, f_Folder_isShort_L14 fuel bt ct ad br x1 x3 x4 = some r ∧ (r = 0 ∨ r = 1) := by
  intro fuel
  induction fuel with
  | zero =>
    intro bt ct ad br x1 x3 x4 h0_ h1_ h2_ hm
    exact (tm0 hm).elim
  | succ fuel ih =>
    intro bt ct ad br x1 x3 x4 h0_ h1_ h2_ hm
    rw [f_Folder_isShort_L14]
    by_cases q1 : x3 ≤ x4
    · refine pu_pos q1 ?_
      exact ⟨_, rfl, (by (try clear ih); (first | assumption | (dsimp only; first | assumption | grind) | grind))⟩
    · refine pu_neg q1 ?_
      by_cases q2 : 6 ≤ x4
      · refine pu_pos q2 ?_
        exact ⟨_, rfl, (by (try clear ih); (first | assumption | (dsimp only; first | assumption | grind) | grind))⟩
      · refine pu_neg q2 ?_
        obtain ⟨r6, h3, p4⟩ := T_Folder_byteOf bt ct ad x1 x4 (by (try clear ih); (first | assumption | (dsimp only; first | assumption | grind) | grind)) (by (try clear ih); (first | assumption | (dsimp only; first | assumption | grind) | grind))
        refine pu_bind h3 ?_
        clear h3
        obtain ⟨r8, h5, p6⟩ := T_V_capital r6 
        refine pu_bind h5 ?_
        clear h5
        refine pu_pos (ti 6 (by (try clear ih); (first | assumption | (dsimp only; first | assumption | grind) | grind)) (by (try clear ih); (first | assumption | (dsimp only; first | assumption | grind) | grind)) rfl) ?_
        by_cases q7 : r8 = (br x4.toNatClampNeg)
        · refine pu_pos q7 ?_
          exact ih bt ct ad br x1 x3 (x4 + 1) (by (try clear ih); (first | assumption | (dsimp only; first | assumption | grind) | grind)) (by (try clear ih); (first | assumption | (dsimp only; first | assumption | grind) | grind)) (by (try clear ih); (first | assumption | (dsimp only; first | assumption | grind) | grind)) (tm1 (by (try clear ih); (first | assumption | (dsimp only; first | assumption | grind) | grind)) hm)
        · refine pu_neg q7 ?_
          exact ⟨_, rfl, (by (try clear ih); (first | assumption | (dsimp only; first | assumption | grind) | grind))⟩
set_option maxHeartbeats 4000000 in
theorem T_Folder_isShort (bt : Nat → Int32) (ct : Int32) (ad : Nat → Int32) (br : Nat → Int32) (x1 : Int32) (x3 : Int32) (h0_ : 0 ≤ ct) (h1_ : ct ≤ 128) : ∃ r : Int32, f_Folder_isShort bt ct ad br x1 x3 = some r ∧ (r = 0 ∨ r = 1) := by
  rw [f_Folder_isShort]
  obtain ⟨r1, h1, p2⟩ := T_Folder_shortLengthOf bt ct ad x1 (by (first | assumption | (dsimp only; first | assumption | grind) | grind)) (by (first | assumption | (dsimp only; first | assumption | grind) | grind))
  refine pu_bind h1 ?_
  clear h1
  by_cases q3 : r1 = x3
  · refine pu_pos q3 ?_
    exact T_Folder_isShort_L14 100000000000 bt ct ad br x1 x3 0 (by (first | assumption | (dsimp only; first | assumption | grind) | grind)) (by (first | assumption | (dsimp only; first | assumption | grind) | grind)) (by (first | assumption | (dsimp only; first | assumption | grind) | grind)) (tmz _ _)
  · refine pu_neg q3 ?_
    exact ⟨_, rfl, (by (first | assumption | (dsimp only; first | assumption | grind) | grind))⟩
set_option maxHeartbeats 4000000 in
theorem T_Folder_hasShort_L2 : ∀ (fuel : Nat) (bt : Nat → Int32) (ct : Int32) (ad : Nat → Int32) (br : Nat → Int32) (x2 : Int32) (x3 : Int32), 0 ≤ ct → ct ≤ 128 → 0 ≤ x3 → tm ct x3 fuel → ∃ r : Int32, f_Folder_hasShort_L2 fuel bt ct ad br x2 x3 = some r ∧ (r = 0 ∨ r = 1) := by
  intro fuel
  induction fuel with
  | zero =>
    intro bt ct ad br x2 x3 h0_ h1_ h2_ hm
    exact (tm0 hm).elim
  | succ fuel ih =>
    intro bt ct ad br x2 x3 h0_ h1_ h2_ hm
    rw [f_Folder_hasShort_L2]
    by_cases q1 : ct ≤ x3
    · refine pu_pos q1 ?_
      exact ⟨_, rfl, (by (try clear ih); (first | assumption | (dsimp only; first | assumption | grind) | grind))⟩
    · refine pu_neg q1 ?_
      obtain ⟨r2, h2, p3⟩ := T_Folder_isNamed bt ct ad x3 (by (try clear ih); (first | assumption | (dsimp only; first | assumption | grind) | grind)) (by (try clear ih); (first | assumption | (dsimp only; first | assumption | grind) | grind))
      refine pu_bind h2 ?_
      clear h2
      by_cases q4 : r2 = 0
      · refine pu_pos q4 ?_
        exact ih bt ct ad br x2 (x3 + 1) (by (try clear ih); (first | assumption | (dsimp only; first | assumption | grind) | grind)) (by (try clear ih); (first | assumption | (dsimp only; first | assumption | grind) | grind)) (by (try clear ih); (first | assumption | (dsimp only; first | assumption | grind) | grind)) (tm1 (by (try clear ih); (first | assumption | (dsimp only; first | assumption | grind) | grind)) hm)
      · refine pu_neg q4 ?_
        obtain ⟨r5, h5, p6⟩ := T_Folder_isShort bt ct ad br x3 x2 (by (try clear ih); (first | assumption | (dsimp only; first | assumption | grind) | grind)) (by (try clear ih); (first | assumption | (dsimp only; first | assumption | grind) | grind))
        refine pu_bind h5 ?_
        clear h5
        by_cases q7 : r5 = 0
        · refine pu_pos q7 ?_
          exact ih bt ct ad br x2 (x3 + 1) (by (try clear ih); (first | assumption | (dsimp only; first | assumption | grind) | grind)) (by (try clear ih); (first | assumption | (dsimp only; first | assumption | grind) | grind)) (by (try clear ih); (first | assumption | (dsimp only; first | assumption | grind) | grind)) (tm1 (by (try clear ih); (first | assumption | (dsimp only; first | assumption | grind) | grind)) hm)
        · refine pu_neg q7 ?_
          exact ⟨_, rfl, (by (try clear ih); (first | assumption | (dsimp only; first | assumption | grind) | grind))⟩
set_option maxHeartbeats 4000000 in
theorem T_Folder_hasShort (bt : Nat → Int32) (ct : Int32) (ad : Nat → Int32) (br : Nat → Int32) (x2 : Int32) (h0_ : 0 ≤ ct) (h1_ : ct ≤ 128) : ∃ r : Int32, f_Folder_hasShort bt ct ad br x2 = some r ∧ (r = 0 ∨ r = 1) := by
  rw [f_Folder_hasShort]
  exact T_Folder_hasShort_L2 100000000000 bt ct ad br x2 0 (by (first | assumption | (dsimp only; first | assumption | grind) | grind)) (by (first | assumption | (dsimp only; first | assumption | grind) | grind)) (by (first | assumption | (dsimp only; first | assumption | grind) | grind)) (tmz _ _)
set_option maxHeartbeats 4000000 in
theorem T_Name_chooseShort_L78 : ∀ (fuel : Nat) (bt : Nat → Int32) (ct : Int32) (ad : Nat → Int32) (ln : Int32) (pt : Int32) (tx : Nat → Int32) (br : Nat → Int32) (x2 : Int32) (x3 : Int32), 0 ≤ ct → ct ≤ 128 → 0 ≤ ln → ln ≤ 26 → 0 ≤ pt → pt ≤ 2 → 0 ≤ x3 → 0 ≤ x2 → x2 ≤ 4 → tm 57 x3 fuel → ∃ r : Int32 × Int32 × (Nat → Int32), f_Name_chooseShort_L78 fuel bt ct ad ln pt tx br x2 x3 = some r ∧ (r.1 = 0 ∨ r.1 = 1) ∧ 0 ≤ r.2.1 ∧ r.2.1 ≤ 2 := by
  intro fuel
  induction fuel with
  | zero =>
    intro bt ct ad ln pt tx br x2 x3 h0_ h1_ h2_ h3_ h4_ h5_ h6_ h7_ h8_ hm
    exact (tm0 hm).elim
  | succ fuel ih =>
    intro bt ct ad ln pt tx br x2 x3 h0_ h1_ h2_ h3_ h4_ h5_ h6_ h7_ h8_ hm
    rw [f_Name_chooseShort_L78]
    by_cases q1 : 57 < x3
    · refine pu_pos q1 ?_
      exact ⟨_, rfl, (by (try clear ih); (first | assumption | (dsimp only; first | assumption | grind) | grind)), (by (try clear ih); (first | assumption | (dsimp only; first | assumption | grind) | grind)), (by (try clear ih); (first | assumption | (dsimp only; first | assumption | grind) | grind))⟩
    · refine pu_neg q1 ?_
      refine pu_pos (ti 6 (by (try clear ih); (first | assumption | (dsimp only; first | assumption | grind) | grind)) (by (try clear ih); (first | assumption | (dsimp only; first | assumption | grind) | grind)) rfl) ?_
      obtain ⟨r11, h2, p3⟩ := T_Folder_hasShort bt ct ad (upd br (x2 + 1).toNatClampNeg x3) (x2 + 2) (by (try clear ih); (first | assumption | (dsimp only; first | assumption | grind) | grind)) (by (try clear ih); (first | assumption | (dsimp only; first | assumption | grind) | grind))
      refine pu_bind h2 ?_
      clear h2
      by_cases q4 : r11 = 0
      · refine pu_pos q4 ?_
        exact ⟨_, rfl, (by (try clear ih); (first | assumption | (dsimp only; first | assumption | grind) | grind)), (by (try clear ih); (first | assumption | (dsimp only; first | assumption | grind) | grind)), (by (try clear ih); (first | assumption | (dsimp only; first | assumption | grind) | grind))⟩
      · refine pu_neg q4 ?_
        exact ih bt ct ad ln pt tx (upd br (x2 + 1).toNatClampNeg x3) x2 (x3 + 1) (by (try clear ih); (first | assumption | (dsimp only; first | assumption | grind) | grind)) (by (try clear ih); (first | assumption | (dsimp only; first | assumption | grind) | grind)) (by (try clear ih); (first | assumption | (dsimp only; first | assumption | grind) | grind)) (by (try clear ih); (first | assumption | (dsimp only; first | assumption | grind) | grind)) (by (try clear ih); (first | assumption | (dsimp only; first | assumption | grind) | grind)) (by (try clear ih); (first | assumption | (dsimp only; first | assumption | grind) | grind)) (by (try clear ih); (first | assumption | (dsimp only; first | assumption | grind) | grind)) (by (try clear ih); (first | assumption | (dsimp only; first | assumption | grind) | grind)) (by (try clear ih); (first | assumption | (dsimp only; first | assumption | grind) | grind)) (tm2 (by (try clear ih); (first | assumption | (dsimp only; first | assumption | grind) | grind)) (by (try clear ih); (first | assumption | (dsimp only; first | assumption | grind) | grind)) hm)
set_option maxHeartbeats 4000000 in
theorem T_Name_chooseShort_L2 : ∀ (fuel : Nat) (bt : Nat → Int32) (ct : Int32) (ad : Nat → Int32) (ln : Int32) (pt : Int32) (tx : Nat → Int32) (br : Nat → Int32) (x2 : Int32), 0 ≤ ct → ct ≤ 128 → 0 ≤ ln → ln ≤ 26 → 0 ≤ pt → pt ≤ 2 → 0 ≤ x2 → tm 6 x2 fuel → ∃ r : Int32 × Int32 × (Nat → Int32), f_Name_chooseShort_L2 fuel bt ct ad ln pt tx br x2 = some r ∧ (r.1 = 0 ∨ r.1 = 1) ∧ 0 ≤ r.2.1 ∧ r.2.1 ≤ 2 := by
  intro fuel
  induction fuel with
  | zero =>
    intro bt ct ad ln pt tx br x2 h0_ h1_ h2_ h3_ h4_ h5_ h6_ hm
    exact (tm0 hm).elim
  | succ fuel ih =>
    intro bt ct ad ln pt tx br x2 h0_ h1_ h2_ h3_ h4_ h5_ h6_ hm
    rw [f_Name_chooseShort_L2]
    by_cases q1 : 6 ≤ x2
    · refine pu_pos q1 ?_
      obtain ⟨r2, h2, p3⟩ := T_Name_isShort ln tx (by (try clear ih); (first | assumption | (dsimp only; first | assumption | grind) | grind)) (by (try clear ih); (first | assumption | (dsimp only; first | assumption | grind) | grind))
      refine pu_bind h2 ?_
      clear h2
      by_cases q4 : r2 = 0
      · refine pu_pos q4 ?_
        by_cases q5 : ln ≤ 13
        · refine pu_pos q5 ?_
          obtain ⟨r6, h6, p7, p8⟩ := T_Name_copyCapitals ln tx br 4 (by (try clear ih); (first | assumption | (dsimp only; first | assumption | grind) | grind)) (by (try clear ih); (first | assumption | (dsimp only; first | assumption | grind) | grind)) (by (try clear ih); (first | assumption | (dsimp only; first | assumption | grind) | grind)) (by (try clear ih); (first | assumption | (dsimp only; first | assumption | grind) | grind))
          refine pu_bind h6 ?_
          clear h6
          refine pu_pos (ti 6 (by (try clear ih); (first | assumption | (dsimp only; first | assumption | grind) | grind)) (by (try clear ih); (first | assumption | (dsimp only; first | assumption | grind) | grind)) rfl) ?_
          exact T_Name_chooseShort_L78 100000000000 bt ct ad ln 1 tx (upd r6.2 r6.1.toNatClampNeg 126) r6.1 49 (by (try clear ih); (first | assumption | (dsimp only; first | assumption | grind) | grind)) (by (try clear ih); (first | assumption | (dsimp only; first | assumption | grind) | grind)) (by (try clear ih); (first | assumption | (dsimp only; first | assumption | grind) | grind)) (by (try clear ih); (first | assumption | (dsimp only; first | assumption | grind) | grind)) (by (try clear ih); (first | assumption | (dsimp only; first | assumption | grind) | grind)) (by (try clear ih); (first | assumption | (dsimp only; first | assumption | grind) | grind)) (by (try clear ih); (first | assumption | (dsimp only; first | assumption | grind) | grind)) (by (try clear ih); (first | assumption | (dsimp only; first | assumption | grind) | grind)) (by (try clear ih); (first | assumption | (dsimp only; first | assumption | grind) | grind)) (tmz _ _)
        · refine pu_neg q5 ?_
          obtain ⟨r14, h9, p10, p11⟩ := T_Name_copyCapitals ln tx br 4 (by (try clear ih); (first | assumption | (dsimp only; first | assumption | grind) | grind)) (by (try clear ih); (first | assumption | (dsimp only; first | assumption | grind) | grind)) (by (try clear ih); (first | assumption | (dsimp only; first | assumption | grind) | grind)) (by (try clear ih); (first | assumption | (dsimp only; first | assumption | grind) | grind))
          refine pu_bind h9 ?_
          clear h9
          refine pu_pos (ti 6 (by (try clear ih); (first | assumption | (dsimp only; first | assumption | grind) | grind)) (by (try clear ih); (first | assumption | (dsimp only; first | assumption | grind) | grind)) rfl) ?_
          exact T_Name_chooseShort_L78 100000000000 bt ct ad ln 2 tx (upd r14.2 r14.1.toNatClampNeg 126) r14.1 49 (by (try clear ih); (first | assumption | (dsimp only; first | assumption | grind) | grind)) (by (try clear ih); (first | assumption | (dsimp only; first | assumption | grind) | grind)) (by (try clear ih); (first | assumption | (dsimp only; first | assumption | grind) | grind)) (by (try clear ih); (first | assumption | (dsimp only; first | assumption | grind) | grind)) (by (try clear ih); (first | assumption | (dsimp only; first | assumption | grind) | grind)) (by (try clear ih); (first | assumption | (dsimp only; first | assumption | grind) | grind)) (by (try clear ih); (first | assumption | (dsimp only; first | assumption | grind) | grind)) (by (try clear ih); (first | assumption | (dsimp only; first | assumption | grind) | grind)) (by (try clear ih); (first | assumption | (dsimp only; first | assumption | grind) | grind)) (tmz _ _)
      · refine pu_neg q4 ?_
        obtain ⟨r17, h12, p13, p14⟩ := T_Name_copyCapitals ln tx br 6 (by (try clear ih); (first | assumption | (dsimp only; first | assumption | grind) | grind)) (by (try clear ih); (first | assumption | (dsimp only; first | assumption | grind) | grind)) (by (try clear ih); (first | assumption | (dsimp only; first | assumption | grind) | grind)) (by (try clear ih); (first | assumption | (dsimp only; first | assumption | grind) | grind))
        refine pu_bind h12 ?_
        clear h12
        exact ⟨_, rfl, (by (try clear ih); (first | assumption | (dsimp only; first | assumption | grind) | grind)), (by (try clear ih); (first | assumption | (dsimp only; first | assumption | grind) | grind)), (by (try clear ih); (first | assumption | (dsimp only; first | assumption | grind) | grind))⟩
    · refine pu_neg q1 ?_
      refine pu_pos (ti 6 (by (try clear ih); (first | assumption | (dsimp only; first | assumption | grind) | grind)) (by (try clear ih); (first | assumption | (dsimp only; first | assumption | grind) | grind)) rfl) ?_
      exact ih bt ct ad ln pt tx (upd br x2.toNatClampNeg 32) (x2 + 1) (by (try clear ih); (first | assumption | (dsimp only; first | assumption | grind) | grind)) (by (try clear ih); (first | assumption | (dsimp only; first | assumption | grind) | grind)) (by (try clear ih); (first | assumption | (dsimp only; first | assumption | grind) | grind)) (by (try clear ih); (first | assumption | (dsimp only; first | assumption | grind) | grind)) (by (try clear ih); (first | assumption | (dsimp only; first | assumption | grind) | grind)) (by (try clear ih); (first | assumption | (dsimp only; first | assumption | grind) | grind)) (by (try clear ih); (first | assumption | (dsimp only; first | assumption | grind) | grind)) (tm1 (by (try clear ih); (first | assumption | (dsimp only; first | assumption | grind) | grind)) hm)
set_option maxHeartbeats 4000000 in
theorem T_Name_chooseShort (bt : Nat → Int32) (ct : Int32) (ad : Nat → Int32) (ln : Int32) (pt : Int32) (tx : Nat → Int32) (br : Nat → Int32) (h0_ : 0 ≤ ct) (h1_ : ct ≤ 128) (h2_ : 0 ≤ ln) (h3_ : ln ≤ 26) (h4_ : 0 ≤ pt) (h5_ : pt ≤ 2) : ∃ r : Int32 × Int32 × (Nat → Int32), f_Name_chooseShort bt ct ad ln pt tx br = some r ∧ (r.1 = 0 ∨ r.1 = 1) ∧ 0 ≤ r.2.1 ∧ r.2.1 ≤ 2 := by
  rw [f_Name_chooseShort]
  exact T_Name_chooseShort_L2 100000000000 bt ct ad ln pt tx br 0 (by (first | assumption | (dsimp only; first | assumption | grind) | grind)) (by (first | assumption | (dsimp only; first | assumption | grind) | grind)) (by (first | assumption | (dsimp only; first | assumption | grind) | grind)) (by (first | assumption | (dsimp only; first | assumption | grind) | grind)) (by (first | assumption | (dsimp only; first | assumption | grind) | grind)) (by (first | assumption | (dsimp only; first | assumption | grind) | grind)) (by (first | assumption | (dsimp only; first | assumption | grind) | grind)) (tmz _ _)
set_option maxHeartbeats 4000000 in
theorem T_Table_isFree (bt : Nat → Int32) (x1 : Int32)  : ∃ r : Int32, f_Table_isFree bt x1 = some r ∧ (r = 0 ∨ r = 1) := by
  rw [f_Table_isFree]
  obtain ⟨r1, h1, p2⟩ := T_Table_cell bt x1 
  refine pu_bind h1 ?_
  clear h1
  by_cases q3 : r1 = 0
  · refine pu_pos q3 ?_
    exact ⟨_, rfl, (by (first | assumption | (dsimp only; first | assumption | grind) | grind))⟩
  · refine pu_neg q3 ?_
    exact ⟨_, rfl, (by (first | assumption | (dsimp only; first | assumption | grind) | grind))⟩
set_option maxHeartbeats 4000000 in
theorem T_Table_leastFree_L2 : ∀ (fuel : Nat) (bt : Nat → Int32) (x1 : Int32), 0 ≤ x1 → tm 64 x1 fuel → ∃ r : Int32, f_Table_leastFree_L2 fuel bt x1 = some r ∧ True := by
  intro fuel
  induction fuel with
  | zero =>
    intro bt x1 h0_ hm
    exact (tm0 hm).elim
  | succ fuel ih =>
    intro bt x1 h0_ hm
    rw [f_Table_leastFree_L2]
    by_cases q1 : 64 ≤ x1
    · refine pu_pos q1 ?_
      exact ⟨_, rfl, trivial⟩
    · refine pu_neg q1 ?_
      obtain ⟨r2, h2, p3⟩ := T_Table_isFree bt x1 
      refine pu_bind h2 ?_
      clear h2
      by_cases q4 : r2 = 0
      · refine pu_pos q4 ?_
        exact ih bt (x1 + 1) (by (try clear ih); (first | assumption | (dsimp only; first | assumption | grind) | grind)) (tm1 (by (try clear ih); (first | assumption | (dsimp only; first | assumption | grind) | grind)) hm)
      · refine pu_neg q4 ?_
        exact ⟨_, rfl, trivial⟩
set_option maxHeartbeats 4000000 in
theorem T_Table_leastFree (bt : Nat → Int32)  : ∃ r : Int32, f_Table_leastFree bt = some r ∧ True := by
  rw [f_Table_leastFree]
  exact T_Table_leastFree_L2 100000000000 bt 2 (by (first | assumption | (dsimp only; first | assumption | grind) | grind)) (tmz _ _)
set_option maxHeartbeats 4000000 in
theorem T_Ses_leave_L12 : ∀ (fuel : Nat) (he : Int32) (de : Int32) (en : Nat → Int32) (po : Nat → Int32) (x1 : Int32), 0 ≤ x1 → tm 4 x1 fuel → ∃ r : Int32 × Int32 × (Nat → Int32) × (Nat → Int32), f_Ses_leave_L12 fuel he de en po x1 = some r ∧ True := by
  intro fuel
  induction fuel with
  | zero =>
    intro he de en po x1 h0_ hm
    exact (tm0 hm).elim
  | succ fuel ih =>
    intro he de en po x1 h0_ hm
    rw [f_Ses_leave_L12]
    by_cases q1 : 4 ≤ x1
    · refine pu_pos q1 ?_
      exact ⟨_, rfl, trivial⟩
    · refine pu_neg q1 ?_
      refine pu_pos (ti 4 (by (try clear ih); (first | assumption | (dsimp only; first | assumption | grind) | grind)) (by (try clear ih); (first | assumption | (dsimp only; first | assumption | grind) | grind)) rfl) ?_
      refine pu_pos (ti 4 (by (try clear ih); (first | assumption | (dsimp only; first | assumption | grind) | grind)) (by (try clear ih); (first | assumption | (dsimp only; first | assumption | grind) | grind)) rfl) ?_
      exact ih he de (upd en x1.toNatClampNeg (-1)) (upd po x1.toNatClampNeg 0) (x1 + 1) (by (try clear ih); (first | assumption | (dsimp only; first | assumption | grind) | grind)) (tm1 (by (try clear ih); (first | assumption | (dsimp only; first | assumption | grind) | grind)) hm)
set_option maxHeartbeats 4000000 in
theorem T_Ses_leave (he : Int32) (de : Int32) (en : Nat → Int32) (po : Nat → Int32)  : ∃ r : Int32 × Int32 × (Nat → Int32) × (Nat → Int32), f_Ses_leave he de en po = some r ∧ True := by
  rw [f_Ses_leave]
  exact T_Ses_leave_L12 100000000000 2 1 en po 0 (by (first | assumption | (dsimp only; first | assumption | grind) | grind)) (tmz _ _)
set_option maxHeartbeats 4000000 in
theorem T_Disk_countWrite (g : am_WS) (h0_ : 0 ≤ g.1) (h1_ : g.1 ≤ 26) : ∃ r : (String ⊕ Unit) × am_WS, f_Disk_countWrite g = some r ∧ tV "java/lang/IllegalStateException" "java/lang/IllegalStateException" r.1 ∧ 0 ≤ r.2.1 ∧ r.2.1 ≤ 26 := by
  rw [f_Disk_countWrite]
  by_cases q1 : g.2.2.2.2.2.2.2.1 = 0
  · refine pu_pos q1 ?_
    exact ⟨_, rfl, tV_r, (by (first | assumption | (dsimp only; first | assumption | grind) | grind)), (by (first | assumption | (dsimp only; first | assumption | grind) | grind))⟩
  · refine pu_neg q1 ?_
    by_cases q2 : g.2.2.2.2.2.2.2.2.1 = 0
    · refine pu_pos q2 ?_
      obtain ⟨r5, h3, p4⟩ := T_Ses_leave g.2.1 g.2.2.1 g.2.2.2.1 g.2.2.2.2.1 
      refine pu_bind h3 ?_
      clear h3
      exact ⟨_, rfl, tV_0, (by (first | assumption | (dsimp only; first | assumption | grind) | grind)), (by (first | assumption | (dsimp only; first | assumption | grind) | grind))⟩
    · refine pu_neg q2 ?_
      exact ⟨_, rfl, tV_r, (by (first | assumption | (dsimp only; first | assumption | grind) | grind)), (by (first | assumption | (dsimp only; first | assumption | grind) | grind))⟩
set_option maxHeartbeats 4000000 in
theorem T_Disk_put (bt : Nat → Int32) (x1 : Int32) (x2 : Int32)  : ∃ r : (Nat → Int32), f_Disk_put bt x1 x2 = some r ∧ True := by
  rw [f_Disk_put]
  by_cases q1 : x1 < 0
  · refine pu_pos q1 ?_
    exact ⟨_, rfl, trivial⟩
  · refine pu_neg q1 ?_
    by_cases q2 : 2240 ≤ x1
    · refine pu_pos q2 ?_
      exact ⟨_, rfl, trivial⟩
    · refine pu_neg q2 ?_
      refine pu_pos (ti 2240 (by (first | assumption | (dsimp only; first | assumption | grind) | grind)) (by (first | assumption | (dsimp only; first | assumption | grind) | grind)) rfl) ?_
      exact ⟨_, rfl, trivial⟩
set_option maxHeartbeats 4000000 in
theorem T_Disk_writePair (g : am_WS) (x1 : Int32) (x2 : Int32) (h0_ : 0 ≤ g.1) (h1_ : g.1 ≤ 26) : ∃ r : (String ⊕ Unit) × am_WS, f_Disk_writePair g x1 x2 = some r ∧ tV "java/lang/IllegalStateException" "java/lang/IllegalStateException" r.1 ∧ 0 ≤ r.2.1 ∧ r.2.1 ≤ 26 := by
  rw [f_Disk_writePair]
  obtain ⟨r1, h1, p2, p3, p4⟩ := T_Disk_countWrite g (by (first | assumption | (dsimp only; first | assumption | grind) | grind)) (by (first | assumption | (dsimp only; first | assumption | grind) | grind))
  refine pu_bind h1 ?_
  clear h1
  refine pu_t (fun E3 w5 => ?_) (fun v4 w6 => ?_)
  · skip
    exact ⟨_, rfl, (tV_u p2 w5), (by (first | assumption | (dsimp only; first | assumption | grind) | grind)), (by (first | assumption | (dsimp only; first | assumption | grind) | grind))⟩
  · skip
    obtain ⟨r6, h7, p8⟩ := T_Disk_put r1.2.2.2.2.2.2.2.2.2.2 x1 x2 
    refine pu_bind h7 ?_
    clear h7
    obtain ⟨r8, h9, p10⟩ := T_Disk_put r6 (x1 + 1) (x2 >>> (8 &&& 31)) 
    refine pu_bind h9 ?_
    clear h9
    exact ⟨_, rfl, tV_r, (by (first | assumption | (dsimp only; first | assumption | grind) | grind)), (by (first | assumption | (dsimp only; first | assumption | grind) | grind))⟩
set_option maxHeartbeats 4000000 in
theorem T_Table_set (g : am_WS) (x1 : Int32) (x2 : Int32) (h0_ : 0 ≤ g.1) (h1_ : g.1 ≤ 26) : ∃ r : (String ⊕ Unit) × am_WS, f_Table_set g x1 x2 = some r ∧ tV "java/lang/IllegalStateException" "java/lang/IllegalStateException" r.1 ∧ 0 ≤ r.2.1 ∧ r.2.1 ≤ 26 := by
  rw [f_Table_set]
  obtain ⟨r1, h1, p2, p3, p4⟩ := T_Disk_writePair g (2 * x1) x2 (by (first | assumption | (dsimp only; first | assumption | grind) | grind)) (by (first | assumption | (dsimp only; first | assumption | grind) | grind))
  refine pu_bind h1 ?_
  clear h1
  refine pu_t (fun E3 w5 => ?_) (fun v4 w6 => ?_)
  · skip
    exact ⟨_, rfl, (tV_u p2 w5), (by (first | assumption | (dsimp only; first | assumption | grind) | grind)), (by (first | assumption | (dsimp only; first | assumption | grind) | grind))⟩
  · skip
    obtain ⟨r6, h7, p8, p9, p10⟩ := T_Disk_writePair r1.2 (128 + (2 * x1)) x2 (by (first | assumption | (dsimp only; first | assumption | grind) | grind)) (by (first | assumption | (dsimp only; first | assumption | grind) | grind))
    refine pu_bind h7 ?_
    clear h7
    refine pu_t (fun E8 w11 => ?_) (fun v9 w12 => ?_)
    · skip
      exact ⟨_, rfl, (tV_u p8 w11), (by (first | assumption | (dsimp only; first | assumption | grind) | grind)), (by (first | assumption | (dsimp only; first | assumption | grind) | grind))⟩
    · skip
      exact ⟨_, rfl, tV_r, (by (first | assumption | (dsimp only; first | assumption | grind) | grind)), (by (first | assumption | (dsimp only; first | assumption | grind) | grind))⟩
set_option maxHeartbeats 4000000 in
theorem T_Disk_clearSector_L6 : ∀ (fuel : Nat) (g : am_WS) (x1 : Int32) (x2 : Int32), 0 ≤ g.1 → g.1 ≤ 26 → 0 ≤ x2 → tm 32 x2 fuel → ∃ r : (String ⊕ Unit) × am_WS, f_Disk_clearSector_L6 fuel g x1 x2 = some r ∧ tV "java/lang/IllegalStateException" "java/lang/IllegalStateException" r.1 ∧ 0 ≤ r.2.1 ∧ r.2.1 ≤ 26 := by
  intro fuel
  induction fuel with
  | zero =>
    intro g x1 x2 h0_ h1_ h2_ hm
    exact (tm0 hm).elim
  | succ fuel ih =>
    intro g x1 x2 h0_ h1_ h2_ hm
    rw [f_Disk_clearSector_L6]
    by_cases q1 : 32 ≤ x2
    · refine pu_pos q1 ?_
      exact ⟨_, rfl, tV_r, (by (try clear ih); (first | assumption | (dsimp only; first | assumption | grind) | grind)), (by (try clear ih); (first | assumption | (dsimp only; first | assumption | grind) | grind))⟩
    · refine pu_neg q1 ?_
      obtain ⟨r7, h2, p3⟩ := T_Disk_put g.2.2.2.2.2.2.2.2.2 ((x1 * 32) + x2) 0 
      refine pu_bind h2 ?_
      clear h2
      exact ih (g.1, g.2.1, g.2.2.1, g.2.2.2.1, g.2.2.2.2.1, g.2.2.2.2.2.1, g.2.2.2.2.2.2.1, g.2.2.2.2.2.2.2.1, g.2.2.2.2.2.2.2.2.1, r7) x1 (x2 + 1) (by (try clear ih); (first | assumption | (dsimp only; first | assumption | grind) | grind)) (by (try clear ih); (first | assumption | (dsimp only; first | assumption | grind) | grind)) (by (try clear ih); (first | assumption | (dsimp only; first | assumption | grind) | grind)) (tm1 (by (try clear ih); (first | assumption | (dsimp only; first | assumption | grind) | grind)) hm)
set_option maxHeartbeats 4000000 in
theorem T_Disk_clearSector (g : am_WS) (x1 : Int32) (h0_ : 0 ≤ g.1) (h1_ : g.1 ≤ 26) : ∃ r : (String ⊕ Unit) × am_WS, f_Disk_clearSector g x1 = some r ∧ tV "java/lang/IllegalStateException" "java/lang/IllegalStateException" r.1 ∧ 0 ≤ r.2.1 ∧ r.2.1 ≤ 26 := by
  rw [f_Disk_clearSector]
  obtain ⟨r1, h1, p2, p3, p4⟩ := T_Disk_countWrite g (by (first | assumption | (dsimp only; first | assumption | grind) | grind)) (by (first | assumption | (dsimp only; first | assumption | grind) | grind))
  refine pu_bind h1 ?_
  clear h1
  refine pu_t (fun E3 w5 => ?_) (fun v4 w6 => ?_)
  · skip
    exact ⟨_, rfl, (tV_u p2 w5), (by (first | assumption | (dsimp only; first | assumption | grind) | grind)), (by (first | assumption | (dsimp only; first | assumption | grind) | grind))⟩
  · skip
    exact T_Disk_clearSector_L6 100000000000 r1.2 x1 0 (by (first | assumption | (dsimp only; first | assumption | grind) | grind)) (by (first | assumption | (dsimp only; first | assumption | grind) | grind)) (by (first | assumption | (dsimp only; first | assumption | grind) | grind)) (tmz _ _)
set_option maxHeartbeats 4000000 in
theorem T_Table_take (g : am_WS) (h0_ : 0 ≤ g.1) (h1_ : g.1 ≤ 26) : ∃ r : (String ⊕ Int32) × am_WS, f_Table_take g = some r ∧ tV "java/lang/IllegalStateException" "java/lang/IllegalStateException" r.1 ∧ 0 ≤ r.2.1 ∧ r.2.1 ≤ 26 := by
  rw [f_Table_take]
  obtain ⟨r1, h1, p2⟩ := T_Table_leastFree g.2.2.2.2.2.2.2.2.2 
  refine pu_bind h1 ?_
  clear h1
  by_cases q3 : r1 = 0
  · refine pu_pos q3 ?_
    exact ⟨_, rfl, tV_r, (by (first | assumption | (dsimp only; first | assumption | grind) | grind)), (by (first | assumption | (dsimp only; first | assumption | grind) | grind))⟩
  · refine pu_neg q3 ?_
    obtain ⟨r4, h4, p5, p6, p7⟩ := T_Table_set g r1 65535 (by (first | assumption | (dsimp only; first | assumption | grind) | grind)) (by (first | assumption | (dsimp only; first | assumption | grind) | grind))
    refine pu_bind h4 ?_
    clear h4
    refine pu_t (fun E6 w8 => ?_) (fun v7 w9 => ?_)
    · skip
      exact ⟨_, rfl, (tV_u p5 w8), (by (first | assumption | (dsimp only; first | assumption | grind) | grind)), (by (first | assumption | (dsimp only; first | assumption | grind) | grind))⟩
    · skip
      obtain ⟨r9, h10, p11⟩ := T_V_sectorOf r1 
      refine pu_bind h10 ?_
      clear h10
      obtain ⟨r11, h12, p13, p14, p15⟩ := T_Disk_clearSector r4.2 r9 (by (first | assumption | (dsimp only; first | assumption | grind) | grind)) (by (first | assumption | (dsimp only; first | assumption | grind) | grind))
      refine pu_bind h12 ?_
      clear h12
      refine pu_t (fun E13 w16 => ?_) (fun v14 w17 => ?_)
      · skip
        exact ⟨_, rfl, (tV_u p13 w16), (by (first | assumption | (dsimp only; first | assumption | grind) | grind)), (by (first | assumption | (dsimp only; first | assumption | grind) | grind))⟩
      · skip
        exact ⟨_, rfl, tV_r, (by (first | assumption | (dsimp only; first | assumption | grind) | grind)), (by (first | assumption | (dsimp only; first | assumption | grind) | grind))⟩
set_option maxHeartbeats 4000000 in
theorem T_Folder_isFree (bt : Nat → Int32) (ct : Int32) (ad : Nat → Int32) (x1 : Int32) (h0_ : 0 ≤ ct) (h1_ : ct ≤ 128) : ∃ r : Int32, f_Folder_isFree bt ct ad x1 = some r ∧ (r = 0 ∨ r = 1) := by
  rw [f_Folder_isFree]
  obtain ⟨r1, h1, p2⟩ := T_Folder_byteOf bt ct ad x1 0 (by (first | assumption | (dsimp only; first | assumption | grind) | grind)) (by (first | assumption | (dsimp only; first | assumption | grind) | grind))
  refine pu_bind h1 ?_
  clear h1
  by_cases q3 : r1 = 0
  · refine pu_pos q3 ?_
    exact ⟨_, rfl, (by (first | assumption | (dsimp only; first | assumption | grind) | grind))⟩
  · refine pu_neg q3 ?_
    by_cases q4 : r1 = 229
    · refine pu_pos q4 ?_
      exact ⟨_, rfl, (by (first | assumption | (dsimp only; first | assumption | grind) | grind))⟩
    · refine pu_neg q4 ?_
      exact ⟨_, rfl, (by (first | assumption | (dsimp only; first | assumption | grind) | grind))⟩
set_option maxHeartbeats 4000000 in
theorem T_Folder_findFreeRow_L4 : ∀ (fuel : Nat) (bt : Nat → Int32) (ct : Int32) (ad : Nat → Int32) (x1 : Int32) (x2 : Int32) (x3 : Int32), 0 ≤ ct → ct ≤ 128 → 0 ≤ x3 → tm ct x3 fuel → ∃ r : Int32, f_Folder_findFreeRow_L4 fuel bt ct ad x1 x2 x3 = some r ∧ True := by
  intro fuel
  induction fuel with
  | zero =>
    intro bt ct ad x1 x2 x3 h0_ h1_ h2_ hm
    exact (tm0 hm).elim
  | succ fuel ih =>
    intro bt ct ad x1 x2 x3 h0_ h1_ h2_ hm
    rw [f_Folder_findFreeRow_L4]
    by_cases q1 : ct ≤ x3
    · refine pu_pos q1 ?_
      exact ⟨_, rfl, trivial⟩
    · refine pu_neg q1 ?_
      obtain ⟨r2, h2, p3⟩ := T_Folder_isFree bt ct ad x3 (by (try clear ih); (first | assumption | (dsimp only; first | assumption | grind) | grind)) (by (try clear ih); (first | assumption | (dsimp only; first | assumption | grind) | grind))
      refine pu_bind h2 ?_
      clear h2
      by_cases q4 : r2 = 0
      · refine pu_pos q4 ?_
        by_cases q5 : 0 = x1
        · refine pu_pos q5 ?_
          exact ⟨_, rfl, trivial⟩
        · refine pu_neg q5 ?_
          exact ih bt ct ad x1 0 (x3 + 1) (by (try clear ih); (first | assumption | (dsimp only; first | assumption | grind) | grind)) (by (try clear ih); (first | assumption | (dsimp only; first | assumption | grind) | grind)) (by (try clear ih); (first | assumption | (dsimp only; first | assumption | grind) | grind)) (tm1 (by (try clear ih); (first | assumption | (dsimp only; first | assumption | grind) | grind)) hm)
      · refine pu_neg q4 ?_
        by_cases q6 : (x2 + 1) = x1
        · refine pu_pos q6 ?_
          exact ⟨_, rfl, trivial⟩
        · refine pu_neg q6 ?_
          exact ih bt ct ad x1 (x2 + 1) (x3 + 1) (by (try clear ih); (first | assumption | (dsimp only; first | assumption | grind) | grind)) (by (try clear ih); (first | assumption | (dsimp only; first | assumption | grind) | grind)) (by (try clear ih); (first | assumption | (dsimp only; first | assumption | grind) | grind)) (tm1 (by (try clear ih); (first | assumption | (dsimp only; first | assumption | grind) | grind)) hm)
