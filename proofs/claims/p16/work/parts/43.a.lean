set_option maxHeartbeats 4000000 in
theorem T_Ses_append (ll : Int32) (li : Nat → Int32) (x1 : Int32) (h0_ : 0 ≤ ll) (h1_ : ll ≤ 26) : ∃ r : Int32 × Int32 × (Nat → Int32), f_Ses_append ll li x1 = some r ∧ (r.1 = 0 ∨ r.1 = 1) ∧ 0 ≤ r.2.1 ∧ r.2.1 ≤ 26 := by
  rw [f_Ses_append]
  by_cases q1 : x1 < 33
  · refine pu_pos q1 ?_
    exact ⟨_, rfl, (by (first | assumption | (dsimp only; first | assumption | grind) | grind)), (by (first | assumption | (dsimp only; first | assumption | grind) | grind)), (by (first | assumption | (dsimp only; first | assumption | grind) | grind))⟩
  · refine pu_neg q1 ?_
    by_cases q2 : 126 < x1
    · refine pu_pos q2 ?_
      exact ⟨_, rfl, (by (first | assumption | (dsimp only; first | assumption | grind) | grind)), (by (first | assumption | (dsimp only; first | assumption | grind) | grind)), (by (first | assumption | (dsimp only; first | assumption | grind) | grind))⟩
    · refine pu_neg q2 ?_
      by_cases q3 : x1 = 47
      · refine pu_pos q3 ?_
        exact ⟨_, rfl, (by (first | assumption | (dsimp only; first | assumption | grind) | grind)), (by (first | assumption | (dsimp only; first | assumption | grind) | grind)), (by (first | assumption | (dsimp only; first | assumption | grind) | grind))⟩
      · refine pu_neg q3 ?_
        by_cases q4 : ll < 26
        · refine pu_pos q4 ?_
          refine pu_pos (ti 26 (by (first | assumption | (dsimp only; first | assumption | grind) | grind)) (by (first | assumption | (dsimp only; first | assumption | grind) | grind)) rfl) ?_
          exact ⟨_, rfl, (by (first | assumption | (dsimp only; first | assumption | grind) | grind)), (by (first | assumption | (dsimp only; first | assumption | grind) | grind)), (by (first | assumption | (dsimp only; first | assumption | grind) | grind))⟩
        · refine pu_neg q4 ?_
          exact ⟨_, rfl, (by (first | assumption | (dsimp only; first | assumption | grind) | grind)), (by (first | assumption | (dsimp only; first | assumption | grind) | grind)), (by (first | assumption | (dsimp only; first | assumption | grind) | grind))⟩
set_option maxHeartbeats 4000000 in
theorem T_V_type (ll : Int32) (li : Nat → Int32) (x1 : Int32) (h0_ : 0 ≤ ll) (h1_ : ll ≤ 26) : ∃ r : Int32 × Int32 × (Nat → Int32), f_V_type ll li x1 = some r ∧ (r.1 = 0 ∨ r.1 = 1) ∧ 0 ≤ r.2.1 ∧ r.2.1 ≤ 26 := by
  rw [f_V_type]
  obtain ⟨r1, h1, p2, p3, p4⟩ := T_Ses_append ll li x1 (by (first | assumption | (dsimp only; first | assumption | grind) | grind)) (by (first | assumption | (dsimp only; first | assumption | grind) | grind))
  refine pu_bind h1 ?_
  clear h1
  refine pu_pos (tb (by (first | assumption | (dsimp only; first | assumption | grind) | grind))) ?_
  exact ⟨_, rfl, (by (first | assumption | (dsimp only; first | assumption | grind) | grind)), (by (first | assumption | (dsimp only; first | assumption | grind) | grind)), (by (first | assumption | (dsimp only; first | assumption | grind) | grind))⟩
set_option maxHeartbeats 4000000 in
theorem T_V_demandSoundDisk (pw : Int32) (su : Int32)  : ∃ r : (String ⊕ Unit), f_V_demandSoundDisk pw su = some r ∧ tV "java/lang/IllegalStateException" "java/lang/IllegalStateException" r := by
  rw [f_V_demandSoundDisk]
  by_cases q1 : pw = 0
  · refine pu_pos q1 ?_
    exact ⟨_, rfl, tV_0⟩
  · refine pu_neg q1 ?_
    by_cases q2 : su = 0
    · refine pu_pos q2 ?_
      exact ⟨_, rfl, tV_r⟩
    · refine pu_neg q2 ?_
      exact ⟨_, rfl, tV_0⟩
set_option maxHeartbeats 4000000 in
theorem T_Name_takeLineOf_L10 : ∀ (fuel : Nat) (ll : Int32) (li : Nat → Int32) (ln : Int32) (tx : Nat → Int32) (x2 : Int32), 0 ≤ ll → ll ≤ 26 → 0 ≤ ln → ln ≤ 26 → 0 ≤ x2 → tm 26 x2 fuel → ∃ r : Int32 × Int32 × (Nat → Int32), f_Name_takeLineOf_L10 fuel ll li ln tx x2 = some r ∧ 0 ≤ r.1 ∧ r.1 ≤ 26 ∧ 0 ≤ r.2.1 ∧ r.2.1 ≤ 26 := by
  intro fuel
  induction fuel with
  | zero =>
    intro ll li ln tx x2 h0_ h1_ h2_ h3_ h4_ hm
    exact (tm0 hm).elim
  | succ fuel ih =>
    intro ll li ln tx x2 h0_ h1_ h2_ h3_ h4_ hm
    rw [f_Name_takeLineOf_L10]
    by_cases q1 : 26 ≤ x2
    · refine pu_pos q1 ?_
      exact ⟨_, rfl, (by (try clear ih); (first | assumption | (dsimp only; first | assumption | grind) | grind)), (by (try clear ih); (first | assumption | (dsimp only; first | assumption | grind) | grind)), (by (try clear ih); (first | assumption | (dsimp only; first | assumption | grind) | grind)), (by (try clear ih); (first | assumption | (dsimp only; first | assumption | grind) | grind))⟩
    · refine pu_neg q1 ?_
      refine pu_pos (ti 26 (by (try clear ih); (first | assumption | (dsimp only; first | assumption | grind) | grind)) (by (try clear ih); (first | assumption | (dsimp only; first | assumption | grind) | grind)) rfl) ?_
      refine pu_pos (ti 26 (by (try clear ih); (first | assumption | (dsimp only; first | assumption | grind) | grind)) (by (try clear ih); (first | assumption | (dsimp only; first | assumption | grind) | grind)) rfl) ?_
      exact ih ll li ln (upd tx x2.toNatClampNeg (vp_nar .char (li x2.toNatClampNeg))) (x2 + 1) (by (try clear ih); (first | assumption | (dsimp only; first | assumption | grind) | grind)) (by (try clear ih); (first | assumption | (dsimp only; first | assumption | grind) | grind)) (by (try clear ih); (first | assumption | (dsimp only; first | assumption | grind) | grind)) (by (try clear ih); (first | assumption | (dsimp only; first | assumption | grind) | grind)) (by (try clear ih); (first | assumption | (dsimp only; first | assumption | grind) | grind)) (tm1 (by (try clear ih); (first | assumption | (dsimp only; first | assumption | grind) | grind)) hm)
set_option maxHeartbeats 4000000 in
theorem T_Name_takeLineOf (ll : Int32) (li : Nat → Int32) (ln : Int32) (tx : Nat → Int32) (h0_ : 0 ≤ ll) (h1_ : ll ≤ 26) (h2_ : 0 ≤ ln) (h3_ : ln ≤ 26) : ∃ r : Int32 × Int32 × (Nat → Int32), f_Name_takeLineOf ll li ln tx = some r ∧ 0 ≤ r.1 ∧ r.1 ≤ 26 ∧ 0 ≤ r.2.1 ∧ r.2.1 ≤ 26 := by
  rw [f_Name_takeLineOf]
  exact T_Name_takeLineOf_L10 100000000000 ll li ll tx 0 (by (first | assumption | (dsimp only; first | assumption | grind) | grind)) (by (first | assumption | (dsimp only; first | assumption | grind) | grind)) (by (first | assumption | (dsimp only; first | assumption | grind) | grind)) (by (first | assumption | (dsimp only; first | assumption | grind) | grind)) (by (first | assumption | (dsimp only; first | assumption | grind) | grind)) (tmz _ _)
set_option maxHeartbeats 4000000 in
theorem T_Name_charAt (ln : Int32) (tx : Nat → Int32) (x1 : Int32) (h0_ : 0 ≤ ln) (h1_ : ln ≤ 26) : ∃ r : Int32, f_Name_charAt ln tx x1 = some r ∧ True := by
  rw [f_Name_charAt]
  by_cases q1 : x1 < 0
  · refine pu_pos q1 ?_
    exact ⟨_, rfl, trivial⟩
  · refine pu_neg q1 ?_
    by_cases q2 : ln ≤ x1
    · refine pu_pos q2 ?_
      exact ⟨_, rfl, trivial⟩
    · refine pu_neg q2 ?_
      by_cases q3 : 26 ≤ x1
      · refine pu_pos q3 ?_
        exact ⟨_, rfl, trivial⟩
      · refine pu_neg q3 ?_
        refine pu_pos (ti 26 (by (first | assumption | (dsimp only; first | assumption | grind) | grind)) (by (first | assumption | (dsimp only; first | assumption | grind) | grind)) rfl) ?_
        exact ⟨_, rfl, trivial⟩
set_option maxHeartbeats 4000000 in
theorem T_Name_isGood (ln : Int32) (tx : Nat → Int32) (h0_ : 0 ≤ ln) (h1_ : ln ≤ 26) : ∃ r : Int32, f_Name_isGood ln tx = some r ∧ (r = 0 ∨ r = 1) := by
  rw [f_Name_isGood]
  by_cases q1 : ln ≤ 0
  · refine pu_pos q1 ?_
    exact ⟨_, rfl, (by (first | assumption | (dsimp only; first | assumption | grind) | grind))⟩
  · refine pu_neg q1 ?_
    obtain ⟨r2, h2, p3⟩ := T_Name_charAt ln tx 0 (by (first | assumption | (dsimp only; first | assumption | grind) | grind)) (by (first | assumption | (dsimp only; first | assumption | grind) | grind))
    refine pu_bind h2 ?_
    clear h2
    by_cases q4 : r2 = 46
    · refine pu_pos q4 ?_
      exact ⟨_, rfl, (by (first | assumption | (dsimp only; first | assumption | grind) | grind))⟩
    · refine pu_neg q4 ?_
      exact ⟨_, rfl, (by (first | assumption | (dsimp only; first | assumption | grind) | grind))⟩
set_option maxHeartbeats 4000000 in
theorem T_V_isCluster (x0 : Int32)  : ∃ r : Int32, f_V_isCluster x0 = some r ∧ (r = 0 ∨ r = 1 ∧ 2 ≤ x0 ∧ x0 < 64) := by
  rw [f_V_isCluster]
  by_cases q1 : x0 < 2
  · refine pu_pos q1 ?_
    exact ⟨_, rfl, (by (first | assumption | (dsimp only; first | assumption | grind) | grind))⟩
  · refine pu_neg q1 ?_
    by_cases q2 : 64 ≤ x0
    · refine pu_pos q2 ?_
      exact ⟨_, rfl, (by (first | assumption | (dsimp only; first | assumption | grind) | grind))⟩
    · refine pu_neg q2 ?_
      exact ⟨_, rfl, (by (first | assumption | (dsimp only; first | assumption | grind) | grind))⟩
set_option maxHeartbeats 4000000 in
theorem T_V_sectorOf (x0 : Int32)  : ∃ r : Int32, f_V_sectorOf x0 = some r ∧ True := by
  rw [f_V_sectorOf]
  exact ⟨_, rfl, trivial⟩
set_option maxHeartbeats 4000000 in
theorem T_Disk_pairAt (bt : Nat → Int32) (x1 : Int32)  : ∃ r : Int32, f_Disk_pairAt bt x1 = some r ∧ True := by
  rw [f_Disk_pairAt]
  by_cases q1 : x1 < 0
  · refine pu_pos q1 ?_
    exact ⟨_, rfl, trivial⟩
  · refine pu_neg q1 ?_
    by_cases q2 : (2240 - 1) ≤ x1
    · refine pu_pos q2 ?_
      exact ⟨_, rfl, trivial⟩
    · refine pu_neg q2 ?_
      refine pu_pos (ti 2240 (by (first | assumption | (dsimp only; first | assumption | grind) | grind)) (by (first | assumption | (dsimp only; first | assumption | grind) | grind)) rfl) ?_
      refine pu_pos (ti 2240 (by (first | assumption | (dsimp only; first | assumption | grind) | grind)) (by (first | assumption | (dsimp only; first | assumption | grind) | grind)) rfl) ?_
      exact ⟨_, rfl, trivial⟩
set_option maxHeartbeats 4000000 in
theorem T_Table_cell (bt : Nat → Int32) (x1 : Int32)  : ∃ r : Int32, f_Table_cell bt x1 = some r ∧ True := by
  rw [f_Table_cell]
  obtain ⟨r1, h1, p2⟩ := T_Disk_pairAt bt (2 * x1) 
  refine pu_bind h1 ?_
  clear h1
  exact ⟨_, rfl, trivial⟩
set_option maxHeartbeats 4000000 in
theorem T_Folder_load_L9 : ∀ (fuel : Nat) (bt : Nat → Int32) (ct : Int32) (lc : Int32) (ad : Nat → Int32) (x2 : Int32) (x3 : Int32), 0 ≤ x3 → ct = 2 * x3 → x3 ≤ 64 → tm 64 x3 fuel → ∃ r : Int32 × Int32 × (Nat → Int32), f_Folder_load_L9 fuel bt ct lc ad x2 x3 = some r ∧ 0 ≤ r.1 ∧ r.1 ≤ 128 := by
  intro fuel
  induction fuel with
  | zero =>
    intro bt ct lc ad x2 x3 h0_ h1_ h2_ hm
    exact (tm0 hm).elim
  | succ fuel ih =>
    intro bt ct lc ad x2 x3 h0_ h1_ h2_ hm
    rw [f_Folder_load_L9]
    by_cases q1 : 64 ≤ x3
    · refine pu_pos q1 ?_
      exact ⟨_, rfl, (by (try clear ih); (first | assumption | (dsimp only; first | assumption | grind) | grind)), (by (try clear ih); (first | assumption | (dsimp only; first | assumption | grind) | grind))⟩
    · refine pu_neg q1 ?_
      obtain ⟨r2, h2, p3⟩ := T_V_isCluster x2 
      refine pu_bind h2 ?_
      clear h2
      by_cases q4 : r2 = 0
      · refine pu_pos q4 ?_
        exact ⟨_, rfl, (by (try clear ih); (first | assumption | (dsimp only; first | assumption | grind) | grind)), (by (try clear ih); (first | assumption | (dsimp only; first | assumption | grind) | grind))⟩
      · refine pu_neg q4 ?_
        obtain ⟨r5, h5, p6⟩ := T_V_sectorOf x2 
        refine pu_bind h5 ?_
        clear h5
        refine pu_pos (ti 128 (by (try clear ih); (first | assumption | (dsimp only; first | assumption | grind) | grind)) (by (try clear ih); (first | assumption | (dsimp only; first | assumption | grind) | grind)) rfl) ?_
        refine pu_pos (ti 128 (by (try clear ih); (first | assumption | (dsimp only; first | assumption | grind) | grind)) (by (try clear ih); (first | assumption | (dsimp only; first | assumption | grind) | grind)) rfl) ?_
        obtain ⟨r9, h7, p8⟩ := T_Table_cell bt x2 
        refine pu_bind h7 ?_
        clear h7
        exact ih bt (ct + 2) x2 (upd (upd ad (2 * x3).toNatClampNeg (r5 * 32)) ((2 * x3) + 1).toNatClampNeg ((r5 * 32) + 16)) r9 (x3 + 1) (by (try clear ih); (first | assumption | (dsimp only; first | assumption | grind) | grind)) (by (try clear ih); (first | assumption | (dsimp only; first | assumption | grind) | grind)) (by (try clear ih); (first | assumption | (dsimp only; first | assumption | grind) | grind)) (tm1 (by (try clear ih); (first | assumption | (dsimp only; first | assumption | grind) | grind)) hm)
set_option maxHeartbeats 4000000 in
theorem T_Folder_load (bt : Nat → Int32) (ct : Int32) (lc : Int32) (ad : Nat → Int32) (x1 : Int32) (h0_ : 0 ≤ ct) (h1_ : ct ≤ 128) : ∃ r : Int32 × Int32 × (Nat → Int32), f_Folder_load bt ct lc ad x1 = some r ∧ 0 ≤ r.1 ∧ r.1 ≤ 128 := by
  rw [f_Folder_load]
  exact T_Folder_load_L9 100000000000 bt 0 lc ad x1 0 (by (first | assumption | (dsimp only; first | assumption | grind) | grind)) (by (first | assumption | (dsimp only; first | assumption | grind) | grind)) (by (first | assumption | (dsimp only; first | assumption | grind) | grind)) (tmz _ _)
set_option maxHeartbeats 4000000 in
theorem T_Disk_at (bt : Nat → Int32) (x1 : Int32)  : ∃ r : Int32, f_Disk_at bt x1 = some r ∧ True := by
  rw [f_Disk_at]
  by_cases q1 : x1 < 0
  · refine pu_pos q1 ?_
    exact ⟨_, rfl, trivial⟩
  · refine pu_neg q1 ?_
    by_cases q2 : 2240 ≤ x1
    · refine pu_pos q2 ?_
      exact ⟨_, rfl, trivial⟩
    · refine pu_neg q2 ?_
      refine pu_pos (ti 2240 (by (first | assumption | (dsimp only; first | assumption | grind) | grind)) (by (first | assumption | (dsimp only; first | assumption | grind) | grind)) rfl) ?_
      exact ⟨_, rfl, trivial⟩
set_option maxHeartbeats 4000000 in
theorem T_Folder_byteOf (bt : Nat → Int32) (ct : Int32) (ad : Nat → Int32) (x1 : Int32) (x2 : Int32) (h0_ : 0 ≤ ct) (h1_ : ct ≤ 128) : ∃ r : Int32, f_Folder_byteOf bt ct ad x1 x2 = some r ∧ True := by
  rw [f_Folder_byteOf]
  by_cases q1 : x1 < 0
  · refine pu_pos q1 ?_
    exact ⟨_, rfl, trivial⟩
  · refine pu_neg q1 ?_
    by_cases q2 : ct ≤ x1
    · refine pu_pos q2 ?_
      exact ⟨_, rfl, trivial⟩
    · refine pu_neg q2 ?_
      refine pu_pos (ti 128 (by (first | assumption | (dsimp only; first | assumption | grind) | grind)) (by (first | assumption | (dsimp only; first | assumption | grind) | grind)) rfl) ?_
      obtain ⟨r4, h3, p4⟩ := T_Disk_at bt ((ad x1.toNatClampNeg) + x2) 
      refine pu_bind h3 ?_
      clear h3
      exact ⟨_, rfl, trivial⟩
set_option maxHeartbeats 4000000 in
theorem T_Folder_kindOf (bt : Nat → Int32) (ct : Int32) (ad : Nat → Int32) (x1 : Int32) (h0_ : 0 ≤ ct) (h1_ : ct ≤ 128) : ∃ r : Int32, f_Folder_kindOf bt ct ad x1 = some r ∧ True := by
  rw [f_Folder_kindOf]
  obtain ⟨r1, h1, p2⟩ := T_Folder_byteOf bt ct ad x1 6 (by (first | assumption | (dsimp only; first | assumption | grind) | grind)) (by (first | assumption | (dsimp only; first | assumption | grind) | grind))
  refine pu_bind h1 ?_
  clear h1
  exact ⟨_, rfl, trivial⟩
set_option maxHeartbeats 4000000 in
theorem T_Folder_isNamed (bt : Nat → Int32) (ct : Int32) (ad : Nat → Int32) (x1 : Int32) (h0_ : 0 ≤ ct) (h1_ : ct ≤ 128) : ∃ r : Int32, f_Folder_isNamed bt ct ad x1 = some r ∧ (r = 0 ∨ r = 1) := by
  rw [f_Folder_isNamed]
  obtain ⟨r1, h1, p2⟩ := T_Folder_byteOf bt ct ad x1 0 (by (first | assumption | (dsimp only; first | assumption | grind) | grind)) (by (first | assumption | (dsimp only; first | assumption | grind) | grind))
  refine pu_bind h1 ?_
  clear h1
  obtain ⟨r3, h3, p4⟩ := T_Folder_byteOf bt ct ad x1 6 (by (first | assumption | (dsimp only; first | assumption | grind) | grind)) (by (first | assumption | (dsimp only; first | assumption | grind) | grind))
  refine pu_bind h3 ?_
  clear h3
  by_cases q5 : r1 = 0
  · refine pu_pos q5 ?_
    exact ⟨_, rfl, (by (first | assumption | (dsimp only; first | assumption | grind) | grind))⟩
  · refine pu_neg q5 ?_
    by_cases q6 : r1 = 229
    · refine pu_pos q6 ?_
      exact ⟨_, rfl, (by (first | assumption | (dsimp only; first | assumption | grind) | grind))⟩
    · refine pu_neg q6 ?_
      by_cases q7 : r3 = 1
      · refine pu_pos q7 ?_
        exact ⟨_, rfl, (by (first | assumption | (dsimp only; first | assumption | grind) | grind))⟩
      · refine pu_neg q7 ?_
        by_cases q8 : r3 = 2
        · refine pu_pos q8 ?_
          exact ⟨_, rfl, (by (first | assumption | (dsimp only; first | assumption | grind) | grind))⟩
        · refine pu_neg q8 ?_
          exact ⟨_, rfl, (by (first | assumption | (dsimp only; first | assumption | grind) | grind))⟩
set_option maxHeartbeats 4000000 in
theorem T_Folder_shortLengthOf_L2 : ∀ (fuel : Nat) (bt : Nat → Int32) (ct : Int32) (ad : Nat → Int32) (x1 : Int32) (x2 : Int32), 0 ≤ ct → ct ≤ 128 → 0 ≤ x2 → tm 6 x2 fuel → ∃ r : Int32, f_Folder_shortLengthOf_L2 fuel bt ct ad x1 x2 = some r ∧ True := by
  intro fuel
  induction fuel with
  | zero =>
    intro bt ct ad x1 x2 h0_ h1_ h2_ hm
    exact (tm0 hm).elim
  | succ fuel ih =>
    intro bt ct ad x1 x2 h0_ h1_ h2_ hm
    rw [f_Folder_shortLengthOf_L2]
    by_cases q1 : 6 ≤ x2
    · refine pu_pos q1 ?_
      exact ⟨_, rfl, trivial⟩
    · refine pu_neg q1 ?_
      obtain ⟨r2, h2, p3⟩ := T_Folder_byteOf bt ct ad x1 x2 (by (try clear ih); (first | assumption | (dsimp only; first | assumption | grind) | grind)) (by (try clear ih); (first | assumption | (dsimp only; first | assumption | grind) | grind))
      refine pu_bind h2 ?_
      clear h2
      by_cases q4 : r2 = 32
      · refine pu_pos q4 ?_
        exact ⟨_, rfl, trivial⟩
      · refine pu_neg q4 ?_
        by_cases q5 : r2 = 0
        · refine pu_pos q5 ?_
          exact ⟨_, rfl, trivial⟩
        · refine pu_neg q5 ?_
          exact ih bt ct ad x1 (x2 + 1) (by (try clear ih); (first | assumption | (dsimp only; first | assumption | grind) | grind)) (by (try clear ih); (first | assumption | (dsimp only; first | assumption | grind) | grind)) (by (try clear ih); (first | assumption | (dsimp only; first | assumption | grind) | grind)) (tm1 (by (try clear ih); (first | assumption | (dsimp only; first | assumption | grind) | grind)) hm)
set_option maxHeartbeats 4000000 in
theorem T_Folder_shortLengthOf (bt : Nat → Int32) (ct : Int32) (ad : Nat → Int32) (x1 : Int32) (h0_ : 0 ≤ ct) (h1_ : ct ≤ 128) : ∃ r : Int32, f_Folder_shortLengthOf bt ct ad x1 = some r ∧ True := by
  rw [f_Folder_shortLengthOf]
  exact T_Folder_shortLengthOf_L2 100000000000 bt ct ad x1 0 (by (first | assumption | (dsimp only; first | assumption | grind) | grind)) (by (first | assumption | (dsimp only; first | assumption | grind) | grind)) (by (first | assumption | (dsimp only; first | assumption | grind) | grind)) (tmz _ _)
set_option maxHeartbeats 4000000 in
theorem T_V_capital (x0 : Int32)  : ∃ r : Int32, f_V_capital x0 = some r ∧ True := by
  rw [f_V_capital]
  by_cases q1 : x0 < 97
  · refine pu_pos q1 ?_
    exact ⟨_, rfl, trivial⟩
  · refine pu_neg q1 ?_
    by_cases q2 : 122 < x0
    · refine pu_pos q2 ?_
      exact ⟨_, rfl, trivial⟩
    · refine pu_neg q2 ?_
      exact ⟨_, rfl, trivial⟩
set_option maxHeartbeats 4000000 in
theorem T_Folder_isShortCalled_L16 : ∀ (fuel : Nat) (bt : Nat → Int32) (ct : Int32) (ad : Nat → Int32) (ln : Int32) (tx : Nat → Int32) (x1 : Int32) (x3 : Int32), 0 ≤ ct → ct ≤ 128 → 0 ≤ ln → ln ≤ 26 → 0 ≤ x3 → tm ln x3 fuel → ∃ r : Int32, f_Folder_isShortCalled_L16 fuel bt ct ad ln tx x1 x3 = some r ∧ (r = 0 ∨ r = 1) := by
  intro fuel
  induction fuel with
  | zero =>
    intro bt ct ad ln tx x1 x3 h0_ h1_ h2_ h3_ h4_ hm
    exact (tm0 hm).elim
  | succ fuel ih =>
    intro bt ct ad ln tx x1 x3 h0_ h1_ h2_ h3_ h4_ hm
    rw [f_Folder_isShortCalled_L16]
    by_cases q1 : ln ≤ x3
    · refine pu_pos q1 ?_
      exact ⟨_, rfl, (by (try clear ih); (first | assumption | (dsimp only; first | assumption | grind) | grind))⟩
    · refine pu_neg q1 ?_
      obtain ⟨r5, h2, p3⟩ := T_Folder_byteOf bt ct ad x1 x3 (by (try clear ih); (first | assumption | (dsimp only; first | assumption | grind) | grind)) (by (try clear ih); (first | assumption | (dsimp only; first | assumption | grind) | grind))
      refine pu_bind h2 ?_
      clear h2
      obtain ⟨r7, h4, p5⟩ := T_V_capital r5 
      refine pu_bind h4 ?_
      clear h4
      obtain ⟨r9, h6, p7⟩ := T_Name_charAt ln tx x3 (by (try clear ih); (first | assumption | (dsimp only; first | assumption | grind) | grind)) (by (try clear ih); (first | assumption | (dsimp only; first | assumption | grind) | grind))
      refine pu_bind h6 ?_
      clear h6
      obtain ⟨r11, h8, p9⟩ := T_V_capital r9 
      refine pu_bind h8 ?_
      clear h8
      by_cases q10 : r7 = r11
      · refine pu_pos q10 ?_
        exact ih bt ct ad ln tx x1 (x3 + 1) (by (try clear ih); (first | assumption | (dsimp only; first | assumption | grind) | grind)) (by (try clear ih); (first | assumption | (dsimp only; first | assumption | grind) | grind)) (by (try clear ih); (first | assumption | (dsimp only; first | assumption | grind) | grind)) (by (try clear ih); (first | assumption | (dsimp only; first | assumption | grind) | grind)) (by (try clear ih); (first | assumption | (dsimp only; first | assumption | grind) | grind)) (tm1 (by (try clear ih); (first | assumption | (dsimp only; first | assumption | grind) | grind)) hm)
      · refine pu_neg q10 ?_
        exact ⟨_, rfl, (by (try clear ih); (first | assumption | (dsimp only; first | assumption | grind) | grind))⟩
set_option maxHeartbeats 4000000 in
theorem T_Folder_isShortCalled (bt : Nat → Int32) (ct : Int32) (ad : Nat → Int32) (ln : Int32) (tx : Nat → Int32) (x1 : Int32) (h0_ : 0 ≤ ct) (h1_ : ct ≤ 128) (h2_ : 0 ≤ ln) (h3_ : ln ≤ 26) : ∃ r : Int32, f_Folder_isShortCalled bt ct ad ln tx x1 = some r ∧ (r = 0 ∨ r = 1) := by
  rw [f_Folder_isShortCalled]
  obtain ⟨r1, h1, p2⟩ := T_Folder_shortLengthOf bt ct ad x1 (by (first | assumption | (dsimp only; first | assumption | grind) | grind)) (by (first | assumption | (dsimp only; first | assumption | grind) | grind))
  refine pu_bind h1 ?_
  clear h1
  by_cases q3 : r1 = ln
  · refine pu_pos q3 ?_
    exact T_Folder_isShortCalled_L16 100000000000 bt ct ad ln tx x1 0 (by (first | assumption | (dsimp only; first | assumption | grind) | grind)) (by (first | assumption | (dsimp only; first | assumption | grind) | grind)) (by (first | assumption | (dsimp only; first | assumption | grind) | grind)) (by (first | assumption | (dsimp only; first | assumption | grind) | grind)) (by (first | assumption | (dsimp only; first | assumption | grind) | grind)) (tmz _ _)
  · refine pu_neg q3 ?_
    exact ⟨_, rfl, (by (first | assumption | (dsimp only; first | assumption | grind) | grind))⟩
set_option maxHeartbeats 4000000 in
theorem T_V_addToSum (x0 : Int32) (x1 : Int32)  : ∃ r : Int32, f_V_addToSum x0 x1 = some r ∧ True := by
  rw [f_V_addToSum]
  exact ⟨_, rfl, trivial⟩
set_option maxHeartbeats 4000000 in
theorem T_Folder_sumOf_L4 : ∀ (fuel : Nat) (bt : Nat → Int32) (ct : Int32) (ad : Nat → Int32) (x1 : Int32) (x2 : Int32) (x3 : Int32), 0 ≤ ct → ct ≤ 128 → 0 ≤ x3 → tm 6 x3 fuel → ∃ r : Int32, f_Folder_sumOf_L4 fuel bt ct ad x1 x2 x3 = some r ∧ True := by
  intro fuel
  induction fuel with
  | zero =>
    intro bt ct ad x1 x2 x3 h0_ h1_ h2_ hm
    exact (tm0 hm).elim
  | succ fuel ih =>
    intro bt ct ad x1 x2 x3 h0_ h1_ h2_ hm
    rw [f_Folder_sumOf_L4]
    by_cases q1 : 6 ≤ x3
    · refine pu_pos q1 ?_
      exact ⟨_, rfl, trivial⟩
    · refine pu_neg q1 ?_
      obtain ⟨r2, h2, p3⟩ := T_Folder_byteOf bt ct ad x1 x3 (by (try clear ih); (first | assumption | (dsimp only; first | assumption | grind) | grind)) (by (try clear ih); (first | assumption | (dsimp only; first | assumption | grind) | grind))
      refine pu_bind h2 ?_
      clear h2
      obtain ⟨r4, h4, p5⟩ := T_V_addToSum x2 r2 
      refine pu_bind h4 ?_
      clear h4
      exact ih bt ct ad x1 r4 (x3 + 1) (by (try clear ih); (first | assumption | (dsimp only; first | assumption | grind) | grind)) (by (try clear ih); (first | assumption | (dsimp only; first | assumption | grind) | grind)) (by (try clear ih); (first | assumption | (dsimp only; first | assumption | grind) | grind)) (tm1 (by (try clear ih); (first | assumption | (dsimp only; first | assumption | grind) | grind)) hm)
set_option maxHeartbeats 4000000 in
theorem T_Folder_sumOf (bt : Nat → Int32) (ct : Int32) (ad : Nat → Int32) (x1 : Int32) (h0_ : 0 ≤ ct) (h1_ : ct ≤ 128) : ∃ r : Int32, f_Folder_sumOf bt ct ad x1 = some r ∧ True := by
  rw [f_Folder_sumOf]
  exact T_Folder_sumOf_L4 100000000000 bt ct ad x1 0 0 (by (first | assumption | (dsimp only; first | assumption | grind) | grind)) (by (first | assumption | (dsimp only; first | assumption | grind) | grind)) (by (first | assumption | (dsimp only; first | assumption | grind) | grind)) (tmz _ _)
set_option maxHeartbeats 4000000 in
theorem T_Folder_isPart (bt : Nat → Int32) (ct : Int32) (ad : Nat → Int32) (x1 : Int32) (x2 : Int32) (x3 : Int32) (h0_ : 0 ≤ ct) (h1_ : ct ≤ 128) : ∃ r : Int32, f_Folder_isPart bt ct ad x1 x2 x3 = some r ∧ (r = 0 ∨ r = 1) := by
  rw [f_Folder_isPart]
  obtain ⟨r1, h1, p2⟩ := T_Folder_byteOf bt ct ad x1 0 (by (first | assumption | (dsimp only; first | assumption | grind) | grind)) (by (first | assumption | (dsimp only; first | assumption | grind) | grind))
  refine pu_bind h1 ?_
  clear h1
  by_cases q3 : r1 = x2
  · refine pu_pos q3 ?_
    obtain ⟨r4, h4, p5⟩ := T_Folder_byteOf bt ct ad x1 6 (by (first | assumption | (dsimp only; first | assumption | grind) | grind)) (by (first | assumption | (dsimp only; first | assumption | grind) | grind))
    refine pu_bind h4 ?_
    clear h4
    by_cases q6 : r4 = 15
    · refine pu_pos q6 ?_
      obtain ⟨r7, h7, p8⟩ := T_Folder_byteOf bt ct ad x1 7 (by (first | assumption | (dsimp only; first | assumption | grind) | grind)) (by (first | assumption | (dsimp only; first | assumption | grind) | grind))
      refine pu_bind h7 ?_
      clear h7
      by_cases q9 : r7 = x3
      · refine pu_pos q9 ?_
        exact ⟨_, rfl, (by (first | assumption | (dsimp only; first | assumption | grind) | grind))⟩
      · refine pu_neg q9 ?_
        exact ⟨_, rfl, (by (first | assumption | (dsimp only; first | assumption | grind) | grind))⟩
    · refine pu_neg q6 ?_
      exact ⟨_, rfl, (by (first | assumption | (dsimp only; first | assumption | grind) | grind))⟩
  · refine pu_neg q3 ?_
    exact ⟨_, rfl, (by (first | assumption | (dsimp only; first | assumption | grind) | grind))⟩
set_option maxHeartbeats 4000000 in
theorem T_Folder_partsOf (bt : Nat → Int32) (ct : Int32) (ad : Nat → Int32) (x1 : Int32) (h0_ : 0 ≤ ct) (h1_ : ct ≤ 128) : ∃ r : Int32, f_Folder_partsOf bt ct ad x1 = some r ∧ 0 ≤ r ∧ r ≤ 2 := by
  rw [f_Folder_partsOf]
  obtain ⟨r1, h1, p2⟩ := T_Folder_isNamed bt ct ad x1 (by (first | assumption | (dsimp only; first | assumption | grind) | grind)) (by (first | assumption | (dsimp only; first | assumption | grind) | grind))
  refine pu_bind h1 ?_
  clear h1
  by_cases q3 : r1 = 0
  · refine pu_pos q3 ?_
    exact ⟨_, rfl, (by (first | assumption | (dsimp only; first | assumption | grind) | grind)), (by (first | assumption | (dsimp only; first | assumption | grind) | grind))⟩
  · refine pu_neg q3 ?_
    obtain ⟨r4, h4, p5⟩ := T_Folder_sumOf bt ct ad x1 (by (first | assumption | (dsimp only; first | assumption | grind) | grind)) (by (first | assumption | (dsimp only; first | assumption | grind) | grind))
    refine pu_bind h4 ?_
    clear h4
    obtain ⟨r6, h6, p7⟩ := T_Folder_isPart bt ct ad (x1 - 1) 65 r4 (by (first | assumption | (dsimp only; first | assumption | grind) | grind)) (by (first | assumption | (dsimp only; first | assumption | grind) | grind))
    refine pu_bind h6 ?_
    clear h6
    by_cases q8 : r6 = 0
    · refine pu_pos q8 ?_
      obtain ⟨r9, h9, p10⟩ := T_Folder_isPart bt ct ad (x1 - 1) 1 r4 (by (first | assumption | (dsimp only; first | assumption | grind) | grind)) (by (first | assumption | (dsimp only; first | assumption | grind) | grind))
      refine pu_bind h9 ?_
      clear h9
      by_cases q11 : r9 = 0
      · refine pu_pos q11 ?_
        exact ⟨_, rfl, (by (first | assumption | (dsimp only; first | assumption | grind) | grind)), (by (first | assumption | (dsimp only; first | assumption | grind) | grind))⟩
      · refine pu_neg q11 ?_
        obtain ⟨r13, h12, p13⟩ := T_Folder_isPart bt ct ad (x1 - 2) 66 r4 (by (first | assumption | (dsimp only; first | assumption | grind) | grind)) (by (first | assumption | (dsimp only; first | assumption | grind) | grind))
        refine pu_bind h12 ?_
        clear h12
        by_cases q14 : r13 = 0
        · refine pu_pos q14 ?_
          exact ⟨_, rfl, (by (first | assumption | (dsimp only; first | assumption | grind) | grind)), (by (first | assumption | (dsimp only; first | assumption | grind) | grind))⟩
        · refine pu_neg q14 ?_
          exact ⟨_, rfl, (by (first | assumption | (dsimp only; first | assumption | grind) | grind)), (by (first | assumption | (dsimp only; first | assumption | grind) | grind))⟩
    · refine pu_neg q8 ?_
      exact ⟨_, rfl, (by (first | assumption | (dsimp only; first | assumption | grind) | grind)), (by (first | assumption | (dsimp only; first | assumption | grind) | grind))⟩
set_option maxHeartbeats 4000000 in
theorem T_V_placeInPart (x0 : Int32)  : ∃ r : Int32, f_V_placeInPart x0 = some r ∧ (0 ≤ x0 → x0 < 13 → 1 ≤ r ∧ r ≤ 15) := by
  rw [f_V_placeInPart]
  by_cases q1 : 5 ≤ x0
  · refine pu_pos q1 ?_
    exact ⟨_, rfl, (by (first | assumption | (dsimp only; first | assumption | grind) | grind))⟩
  · refine pu_neg q1 ?_
    exact ⟨_, rfl, (by (first | assumption | (dsimp only; first | assumption | grind) | grind))⟩
set_option maxHeartbeats 4000000 in
theorem T_Folder_longByteOf (bt : Nat → Int32) (ct : Int32) (ad : Nat → Int32) (x1 : Int32) (x2 : Int32) (h0_ : 0 ≤ ct) (h1_ : ct ≤ 128) : ∃ r : Int32, f_Folder_longByteOf bt ct ad x1 x2 = some r ∧ True := by
  rw [f_Folder_longByteOf]
  obtain ⟨r1, h1, p2⟩ := T_V_placeInPart (x2 - x2 / 13 * 13) 
  refine pu_bind h1 ?_
  clear h1
  obtain ⟨r3, h3, p4⟩ := T_Folder_byteOf bt ct ad ((x1 - 1) - (x2 / 13)) r1 (by (first | assumption | (dsimp only; first | assumption | grind) | grind)) (by (first | assumption | (dsimp only; first | assumption | grind) | grind))
  refine pu_bind h3 ?_
  clear h3
  exact ⟨_, rfl, trivial⟩
set_option maxHeartbeats 4000000 in
theorem T_Folder_longLengthOf_L2 : ∀ (fuel : Nat) (bt : Nat → Int32) (ct : Int32) (ad : Nat → Int32) (x1 : Int32) (x2 : Int32) (x3 : Int32), 0 ≤ ct → ct ≤ 128 → 0 ≤ x3 → tm (x2 * 13) x3 fuel → ∃ r : Int32, f_Folder_longLengthOf_L2 fuel bt ct ad x1 x2 x3 = some r ∧ True := by
  intro fuel
  induction fuel with
  | zero =>
    intro bt ct ad x1 x2 x3 h0_ h1_ h2_ hm
    exact (tm0 hm).elim
  | succ fuel ih =>
    intro bt ct ad x1 x2 x3 h0_ h1_ h2_ hm
    rw [f_Folder_longLengthOf_L2]
    by_cases q1 : (x2 * 13) ≤ x3
    · refine pu_pos q1 ?_
      exact ⟨_, rfl, trivial⟩
    · refine pu_neg q1 ?_
      obtain ⟨r2, h2, p3⟩ := T_Folder_longByteOf bt ct ad x1 x3 (by (try clear ih); (first | assumption | (dsimp only; first | assumption | grind) | grind)) (by (try clear ih); (first | assumption | (dsimp only; first | assumption | grind) | grind))
      refine pu_bind h2 ?_
      clear h2
      by_cases q4 : r2 = 0
      · refine pu_pos q4 ?_
        exact ⟨_, rfl, trivial⟩
      · refine pu_neg q4 ?_
        exact ih bt ct ad x1 x2 (x3 + 1) (by (try clear ih); (first | assumption | (dsimp only; first | assumption | grind) | grind)) (by (try clear ih); (first | assumption | (dsimp only; first | assumption | grind) | grind)) (by (try clear ih); (first | assumption | (dsimp only; first | assumption | grind) | grind)) (tm1 (by (try clear ih); (first | assumption | (dsimp only; first | assumption | grind) | grind)) hm)
set_option maxHeartbeats 4000000 in
theorem T_Folder_longLengthOf (bt : Nat → Int32) (ct : Int32) (ad : Nat → Int32) (x1 : Int32) (x2 : Int32) (h0_ : 0 ≤ ct) (h1_ : ct ≤ 128) : ∃ r : Int32, f_Folder_longLengthOf bt ct ad x1 x2 = some r ∧ True := by
  rw [f_Folder_longLengthOf]
  exact T_Folder_longLengthOf_L2 100000000000 bt ct ad x1 x2 0 (by (first | assumption | (dsimp only; first | assumption | grind) | grind)) (by (first | assumption | (dsimp only; first | assumption | grind) | grind)) (by (first | assumption | (dsimp only; first | assumption | grind) | grind)) (tmz _ _)
set_option maxHeartbeats 4000000 in
theorem T_Folder_isLongCalled_L22 : ∀ (fuel : Nat) (bt : Nat → Int32) (ct : Int32) (ad : Nat → Int32) (ln : Int32) (tx : Nat → Int32) (x1 : Int32) (x4 : Int32), 0 ≤ ct → ct ≤ 128 → 0 ≤ ln → ln ≤ 26 → 0 ≤ x4 → tm ln x4 fuel → ∃ r : Int32, f_Folder_isLongCalled_L22 fuel bt ct ad ln tx x1 x4 = some r ∧ (r = 0 ∨ r = 1) := by
  intro fuel
  induction fuel with
  | zero =>
    intro bt ct ad ln tx x1 x4 h0_ h1_ h2_ h3_ h4_ hm
    exact (tm0 hm).elim
  | succ fuel ih =>
    intro bt ct ad ln tx x1 x4 h0_ h1_ h2_ h3_ h4_ hm
    rw [f_Folder_isLongCalled_L22]
    by_cases q1 : ln ≤ x4
    · refine pu_pos q1 ?_
      exact ⟨_, rfl, (by (try clear ih); (first | assumption | (dsimp only; first | assumption | grind) | grind))⟩
    · refine pu_neg q1 ?_
      obtain ⟨r6, h2, p3⟩ := T_Folder_longByteOf bt ct ad x1 x4 (by (try clear ih); (first | assumption | (dsimp only; first | assumption | grind) | grind)) (by (try clear ih); (first | assumption | (dsimp only; first | assumption | grind) | grind))
      refine pu_bind h2 ?_
      clear h2
      obtain ⟨r8, h4, p5⟩ := T_V_capital r6 
      refine pu_bind h4 ?_
      clear h4
      obtain ⟨r10, h6, p7⟩ := T_Name_charAt ln tx x4 (by (try clear ih); (first | assumption | (dsimp only; first | assumption | grind) | grind)) (by (try clear ih); (first | assumption | (dsimp only; first | assumption | grind) | grind))
      refine pu_bind h6 ?_
      clear h6
      obtain ⟨r12, h8, p9⟩ := T_V_capital r10 
      refine pu_bind h8 ?_
      clear h8
      by_cases q10 : r8 = r12
      · refine pu_pos q10 ?_
        exact ih bt ct ad ln tx x1 (x4 + 1) (by (try clear ih); (first | assumption | (dsimp only; first | assumption | grind) | grind)) (by (try clear ih); (first | assumption | (dsimp only; first | assumption | grind) | grind)) (by (try clear ih); (first | assumption | (dsimp only; first | assumption | grind) | grind)) (by (try clear ih); (first | assumption | (dsimp only; first | assumption | grind) | grind)) (by (try clear ih); (first | assumption | (dsimp only; first | assumption | grind) | grind)) (tm1 (by (try clear ih); (first | assumption | (dsimp only; first | assumption | grind) | grind)) hm)
      · refine pu_neg q10 ?_
        exact ⟨_, rfl, (by (try clear ih); (first | assumption | (dsimp only; first | assumption | grind) | grind))⟩
set_option maxHeartbeats 4000000 in
theorem T_Folder_isLongCalled (bt : Nat → Int32) (ct : Int32) (ad : Nat → Int32) (ln : Int32) (tx : Nat → Int32) (x1 : Int32) (x3 : Int32) (h0_ : 0 ≤ ct) (h1_ : ct ≤ 128) (h2_ : 0 ≤ ln) (h3_ : ln ≤ 26) : ∃ r : Int32, f_Folder_isLongCalled bt ct ad ln tx x1 x3 = some r ∧ (r = 0 ∨ r = 1) := by
  rw [f_Folder_isLongCalled]
  by_cases q1 : x3 = 0
  · refine pu_pos q1 ?_
    exact ⟨_, rfl, (by (first | assumption | (dsimp only; first | assumption | grind) | grind))⟩
  · refine pu_neg q1 ?_
    obtain ⟨r2, h2, p3⟩ := T_Folder_longLengthOf bt ct ad x1 x3 (by (first | assumption | (dsimp only; first | assumption | grind) | grind)) (by (first | assumption | (dsimp only; first | assumption | grind) | grind))
    refine pu_bind h2 ?_
    clear h2
    by_cases q4 : r2 = ln
    · refine pu_pos q4 ?_
      exact T_Folder_isLongCalled_L22 100000000000 bt ct ad ln tx x1 0 (by (first | assumption | (dsimp only; first | assumption | grind) | grind)) (by (first | assumption | (dsimp only; first | assumption | grind) | grind)) (by (first | assumption | (dsimp only; first | assumption | grind) | grind)) (by (first | assumption | (dsimp only; first | assumption | grind) | grind)) (by (first | assumption | (dsimp only; first | assumption | grind) | grind)) (tmz _ _)
    · refine pu_neg q4 ?_
      exact ⟨_, rfl, (by (first | assumption | (dsimp only; first | assumption | grind) | grind))⟩
set_option maxHeartbeats 4000000 in
theorem T_Folder_isCalled (bt : Nat → Int32) (ct : Int32) (ad : Nat → Int32) (ln : Int32) (tx : Nat → Int32) (x1 : Int32) (h0_ : 0 ≤ ct) (h1_ : ct ≤ 128) (h2_ : 0 ≤ ln) (h3_ : ln ≤ 26) : ∃ r : Int32, f_Folder_isCalled bt ct ad ln tx x1 = some r ∧ (r = 0 ∨ r = 1) := by
  rw [f_Folder_isCalled]
  obtain ⟨r1, h1, p2⟩ := T_Folder_isShortCalled bt ct ad ln tx x1 (by (first | assumption | (dsimp only; first | assumption | grind) | grind)) (by (first | assumption | (dsimp only; first | assumption | grind) | grind)) (by (first | assumption | (dsimp only; first | assumption | grind) | grind)) (by (first | assumption | (dsimp only; first | assumption | grind) | grind))
  refine pu_bind h1 ?_
  clear h1
  by_cases q3 : r1 = 0
  · refine pu_pos q3 ?_
    obtain ⟨r4, h4, p5, p6⟩ := T_Folder_partsOf bt ct ad x1 (by (first | assumption | (dsimp only; first | assumption | grind) | grind)) (by (first | assumption | (dsimp only; first | assumption | grind) | grind))
    refine pu_bind h4 ?_
    clear h4
    obtain ⟨r6, h7, p8⟩ := T_Folder_isLongCalled bt ct ad ln tx x1 r4 (by (first | assumption | (dsimp only; first | assumption | grind) | grind)) (by (first | assumption | (dsimp only; first | assumption | grind) | grind)) (by (first | assumption | (dsimp only; first | assumption | grind) | grind)) (by (first | assumption | (dsimp only; first | assumption | grind) | grind))
    refine pu_bind h7 ?_
    clear h7
    by_cases q9 : r6 = 0
    · refine pu_pos q9 ?_
      exact ⟨_, rfl, (by (first | assumption | (dsimp only; first | assumption | grind) | grind))⟩
    · refine pu_neg q9 ?_
      exact ⟨_, rfl, (by (first | assumption | (dsimp only; first | assumption | grind) | grind))⟩
  · refine pu_neg q3 ?_
    exact ⟨_, rfl, (by (first | assumption | (dsimp only; first | assumption | grind) | grind))⟩
set_option maxHeartbeats 4000000 in
theorem T_Folder_find_L2 : ∀ (fuel : Nat) (bt : Nat → Int32) (ct : Int32) (ad : Nat → Int32) (ln : Int32) (tx : Nat → Int32) (x2 : Int32) (x3 : Int32), 0 ≤ ct → ct ≤ 128 → 0 ≤ ln → ln ≤ 26 → 0 ≤ x3 → tm ct x3 fuel → ∃ r : Int32, f_Folder_find_L2 fuel bt ct ad ln tx x2 x3 = some r ∧ True := by
  intro fuel
  induction fuel with
  | zero =>
    intro bt ct ad ln tx x2 x3 h0_ h1_ h2_ h3_ h4_ hm
    exact (tm0 hm).elim
  | succ fuel ih =>
    intro bt ct ad ln tx x2 x3 h0_ h1_ h2_ h3_ h4_ hm
    rw [f_Folder_find_L2]
    by_cases q1 : ct ≤ x3
    · refine pu_pos q1 ?_
      exact ⟨_, rfl, trivial⟩
    · refine pu_neg q1 ?_
      by_cases q2 : x2 = 0
      · refine pu_pos q2 ?_
        obtain ⟨r4, h3, p4⟩ := T_Folder_isNamed bt ct ad x3 (by (try clear ih); (first | assumption | (dsimp only; first | assumption | grind) | grind)) (by (try clear ih); (first | assumption | (dsimp only; first | assumption | grind) | grind))
        refine pu_bind h3 ?_
        clear h3
        by_cases q5 : r4 = 0
        · refine pu_pos q5 ?_
          exact ih bt ct ad ln tx x2 (x3 + 1) (by (try clear ih); (first | assumption | (dsimp only; first | assumption | grind) | grind)) (by (try clear ih); (first | assumption | (dsimp only; first | assumption | grind) | grind)) (by (try clear ih); (first | assumption | (dsimp only; first | assumption | grind) | grind)) (by (try clear ih); (first | assumption | (dsimp only; first | assumption | grind) | grind)) (by (try clear ih); (first | assumption | (dsimp only; first | assumption | grind) | grind)) (tm1 (by (try clear ih); (first | assumption | (dsimp only; first | assumption | grind) | grind)) hm)
        · refine pu_neg q5 ?_
          obtain ⟨r7, h6, p7⟩ := T_Folder_isCalled bt ct ad ln tx x3 (by (try clear ih); (first | assumption | (dsimp only; first | assumption | grind) | grind)) (by (try clear ih); (first | assumption | (dsimp only; first | assumption | grind) | grind)) (by (try clear ih); (first | assumption | (dsimp only; first | assumption | grind) | grind)) (by (try clear ih); (first | assumption | (dsimp only; first | assumption | grind) | grind))
          refine pu_bind h6 ?_
          clear h6
          by_cases q8 : r7 = 0
          · refine pu_pos q8 ?_
            exact ih bt ct ad ln tx x2 (x3 + 1) (by (try clear ih); (first | assumption | (dsimp only; first | assumption | grind) | grind)) (by (try clear ih); (first | assumption | (dsimp only; first | assumption | grind) | grind)) (by (try clear ih); (first | assumption | (dsimp only; first | assumption | grind) | grind)) (by (try clear ih); (first | assumption | (dsimp only; first | assumption | grind) | grind)) (by (try clear ih); (first | assumption | (dsimp only; first | assumption | grind) | grind)) (tm1 (by (try clear ih); (first | assumption | (dsimp only; first | assumption | grind) | grind)) hm)
          · refine pu_neg q8 ?_
            exact ⟨_, rfl, trivial⟩
      · refine pu_neg q2 ?_
        obtain ⟨r10, h9, p10⟩ := T_Folder_kindOf bt ct ad x3 (by (try clear ih); (first | assumption | (dsimp only; first | assumption | grind) | grind)) (by (try clear ih); (first | assumption | (dsimp only; first | assumption | grind) | grind))
        refine pu_bind h9 ?_
        clear h9
        by_cases q11 : r10 = x2
        · refine pu_pos q11 ?_
          obtain ⟨r15, h12, p13⟩ := T_Folder_isNamed bt ct ad x3 (by (try clear ih); (first | assumption | (dsimp only; first | assumption | grind) | grind)) (by (try clear ih); (first | assumption | (dsimp only; first | assumption | grind) | grind))
          refine pu_bind h12 ?_
          clear h12
          by_cases q14 : r15 = 0
          · refine pu_pos q14 ?_
            exact ih bt ct ad ln tx x2 (x3 + 1) (by (try clear ih); (first | assumption | (dsimp only; first | assumption | grind) | grind)) (by (try clear ih); (first | assumption | (dsimp only; first | assumption | grind) | grind)) (by (try clear ih); (first | assumption | (dsimp only; first | assumption | grind) | grind)) (by (try clear ih); (first | assumption | (dsimp only; first | assumption | grind) | grind)) (by (try clear ih); (first | assumption | (dsimp only; first | assumption | grind) | grind)) (tm1 (by (try clear ih); (first | assumption | (dsimp only; first | assumption | grind) | grind)) hm)
          · refine pu_neg q14 ?_
            obtain ⟨r18, h15, p16⟩ := T_Folder_isCalled bt ct ad ln tx x3 (by (try clear ih); (first | assumption | (dsimp only; first | assumption | grind) | grind)) (by (try clear ih); (first | assumption | (dsimp only; first | assumption | grind) | grind)) (by (try clear ih); (first | assumption | (dsimp only; first | assumption | grind) | grind)) (by (try clear ih); (first | assumption | (dsimp only; first | assumption | grind) | grind))
            refine pu_bind h15 ?_
            clear h15
            by_cases q17 : r18 = 0
            · refine pu_pos q17 ?_
              exact ih bt ct ad ln tx x2 (x3 + 1) (by (try clear ih); (first | assumption | (dsimp only; first | assumption | grind) | grind)) (by (try clear ih); (first | assumption | (dsimp only; first | assumption | grind) | grind)) (by (try clear ih); (first | assumption | (dsimp only; first | assumption | grind) | grind)) (by (try clear ih); (first | assumption | (dsimp only; first | assumption | grind) | grind)) (by (try clear ih); (first | assumption | (dsimp only; first | assumption | grind) | grind)) (tm1 (by (try clear ih); (first | assumption | (dsimp only; first | assumption | grind) | grind)) hm)
            · refine pu_neg q17 ?_
              exact ⟨_, rfl, trivial⟩
        · refine pu_neg q11 ?_
          exact ih bt ct ad ln tx x2 (x3 + 1) (by (try clear ih); (first | assumption | (dsimp only; first | assumption | grind) | grind)) (by (try clear ih); (first | assumption | (dsimp only; first | assumption | grind) | grind)) (by (try clear ih); (first | assumption | (dsimp only; first | assumption | grind) | grind)) (by (try clear ih); (first | assumption | (dsimp only; first | assumption | grind) | grind)) (by (try clear ih); (first | assumption | (dsimp only; first | assumption | grind) | grind)) (tm1 (by (try clear ih); (first | assumption | (dsimp only; first | assumption | grind) | grind)) hm)
