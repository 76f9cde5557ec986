set_option maxHeartbeats 4000000 in
theorem T_Ses_holds_L2 : ∀ (fuel : Nat) (en : Nat → Int32) (x1 : Int32) (x2 : Int32), 0 ≤ x2 → tm 4 x2 fuel → ∃ r : Int32, f_Ses_holds_L2 fuel en x1 x2 = some r ∧ (r = 0 ∨ r = 1) := by
  intro fuel
  induction fuel with
  | zero =>
    intro en x1 x2 h0_ hm
    exact (tm0 hm).elim
  | succ fuel ih =>
    intro en x1 x2 h0_ hm
    rw [f_Ses_holds_L2]
    by_cases q1 : 4 ≤ x2
    · refine pu_pos q1 ?_
      exact ⟨_, rfl, (by (try clear ih); (first | assumption | (dsimp only; first | assumption | grind) | grind))⟩
    · refine pu_neg q1 ?_
      refine pu_pos (ti 4 (by (try clear ih); (first | assumption | (dsimp only; first | assumption | grind) | grind)) (by (try clear ih); (first | assumption | (dsimp only; first | assumption | grind) | grind)) rfl) ?_
      by_cases q2 : (en x2.toNatClampNeg) = x1
      · refine pu_pos q2 ?_
        exact ⟨_, rfl, (by (try clear ih); (first | assumption | (dsimp only; first | assumption | grind) | grind))⟩
      · refine pu_neg q2 ?_
        exact ih en x1 (x2 + 1) (by (try clear ih); (first | assumption | (dsimp only; first | assumption | grind) | grind)) (tm1 (by (try clear ih); (first | assumption | (dsimp only; first | assumption | grind) | grind)) hm)
set_option maxHeartbeats 4000000 in
theorem T_Ses_holds (en : Nat → Int32) (x1 : Int32)  : ∃ r : Int32, f_Ses_holds en x1 = some r ∧ (r = 0 ∨ r = 1) := by
  rw [f_Ses_holds]
  exact T_Ses_holds_L2 100000000000 en x1 0 (by (first | assumption | (dsimp only; first | assumption | grind) | grind)) (tmz _ _)
set_option maxHeartbeats 4000000 in
theorem T_Folder_pairOf (bt : Nat → Int32) (ct : Int32) (ad : Nat → Int32) (x1 : Int32) (x2 : Int32) (h0_ : 0 ≤ ct) (h1_ : ct ≤ 128) : ∃ r : Int32, f_Folder_pairOf bt ct ad x1 x2 = some r ∧ True := by
  rw [f_Folder_pairOf]
  by_cases q1 : x1 < 0
  · refine pu_pos q1 ?_
    exact ⟨_, rfl, trivial⟩
  · refine pu_neg q1 ?_
    by_cases q2 : ct ≤ x1
    · refine pu_pos q2 ?_
      exact ⟨_, rfl, trivial⟩
    · refine pu_neg q2 ?_
      refine pu_pos (ti 128 (by (first | assumption | (dsimp only; first | assumption | grind) | grind)) (by (first | assumption | (dsimp only; first | assumption | grind) | grind)) rfl) ?_
      obtain ⟨r4, h3, p4⟩ := T_Disk_pairAt bt ((ad x1.toNatClampNeg) + x2) 
      refine pu_bind h3 ?_
      clear h3
      exact ⟨_, rfl, trivial⟩
set_option maxHeartbeats 4000000 in
theorem T_Folder_firstClusterOf (bt : Nat → Int32) (ct : Int32) (ad : Nat → Int32) (x1 : Int32) (h0_ : 0 ≤ ct) (h1_ : ct ≤ 128) : ∃ r : Int32, f_Folder_firstClusterOf bt ct ad x1 = some r ∧ True := by
  rw [f_Folder_firstClusterOf]
  obtain ⟨r1, h1, p2⟩ := T_Folder_pairOf bt ct ad x1 8 (by (first | assumption | (dsimp only; first | assumption | grind) | grind)) (by (first | assumption | (dsimp only; first | assumption | grind) | grind))
  refine pu_bind h1 ?_
  clear h1
  exact ⟨_, rfl, trivial⟩
set_option maxHeartbeats 4000000 in
theorem T_Folder_loadb_L9 : ∀ (fuel : Nat) (bt : Nat → Int32) (ctb : Int32) (lcb : Int32) (adb : Nat → Int32) (x2 : Int32) (x3 : Int32), 0 ≤ x3 → ctb = 2 * x3 → x3 ≤ 64 → tm 64 x3 fuel → ∃ r : Int32 × Int32 × (Nat → Int32), f_Folder_loadb_L9 fuel bt ctb lcb adb x2 x3 = some r ∧ 0 ≤ r.1 ∧ r.1 ≤ 128 := by
  intro fuel
  induction fuel with
  | zero =>
    intro bt ctb lcb adb x2 x3 h0_ h1_ h2_ hm
    exact (tm0 hm).elim
  | succ fuel ih =>
    intro bt ctb lcb adb x2 x3 h0_ h1_ h2_ hm
    rw [f_Folder_loadb_L9]
    by_cases q1 : 64 ≤ x3
    · refine pu_pos q1 ?_
      exact ⟨_, rfl, (by (try clear ih); (first | assumption | (dsimp only; first | assumption | grind) | grind)), (by (try clear ih); (first | assumption | (dsimp only; first | assumption | grind) | grind))⟩
    · refine pu_neg q1 ?_
      obtain ⟨r2, h2, p3⟩ := T_V_isCluster x2 
      refine pu_bind h2 ?_
      clear h2
      by_cases q4 : r2 = 0
      · refine pu_pos q4 ?_
        exact ⟨_, rfl, (by (try clear ih); (first | assumption | (dsimp only; first | assumption | grind) | grind)), (by (try clear ih); (first | assumption | (dsimp only; first | assumption | grind) | grind))⟩
      · refine pu_neg q4 ?_
        obtain ⟨r5, h5, p6⟩ := T_V_sectorOf x2 
        refine pu_bind h5 ?_
        clear h5
        refine pu_pos (ti 128 (by (try clear ih); (first | assumption | (dsimp only; first | assumption | grind) | grind)) (by (try clear ih); (first | assumption | (dsimp only; first | assumption | grind) | grind)) rfl) ?_
        refine pu_pos (ti 128 (by (try clear ih); (first | assumption | (dsimp only; first | assumption | grind) | grind)) (by (try clear ih); (first | assumption | (dsimp only; first | assumption | grind) | grind)) rfl) ?_
        obtain ⟨r9, h7, p8⟩ := T_Table_cell bt x2 
        refine pu_bind h7 ?_
        clear h7
        exact ih bt (ctb + 2) x2 (upd (upd adb (2 * x3).toNatClampNeg (r5 * 32)) ((2 * x3) + 1).toNatClampNeg ((r5 * 32) + 16)) r9 (x3 + 1) (by (try clear ih); (first | assumption | (dsimp only; first | assumption | grind) | grind)) (by (try clear ih); (first | assumption | (dsimp only; first | assumption | grind) | grind)) (by (try clear ih); (first | assumption | (dsimp only; first | assumption | grind) | grind)) (tm1 (by (try clear ih); (first | assumption | (dsimp only; first | assumption | grind) | grind)) hm)
set_option maxHeartbeats 4000000 in
theorem T_Folder_loadb (bt : Nat → Int32) (ctb : Int32) (lcb : Int32) (adb : Nat → Int32) (x1 : Int32) (h0_ : 0 ≤ ctb) (h1_ : ctb ≤ 128) : ∃ r : Int32 × Int32 × (Nat → Int32), f_Folder_loadb bt ctb lcb adb x1 = some r ∧ 0 ≤ r.1 ∧ r.1 ≤ 128 := by
  rw [f_Folder_loadb]
  exact T_Folder_loadb_L9 100000000000 bt 0 lcb adb x1 0 (by (first | assumption | (dsimp only; first | assumption | grind) | grind)) (by (first | assumption | (dsimp only; first | assumption | grind) | grind)) (by (first | assumption | (dsimp only; first | assumption | grind) | grind)) (tmz _ _)
set_option maxHeartbeats 4000000 in
theorem T_Folder_byteOfb (bt : Nat → Int32) (ctb : Int32) (adb : Nat → Int32) (x1 : Int32) (x2 : Int32) (h0_ : 0 ≤ ctb) (h1_ : ctb ≤ 128) : ∃ r : Int32, f_Folder_byteOfb bt ctb adb x1 x2 = some r ∧ True := by
  rw [f_Folder_byteOfb]
  by_cases q1 : x1 < 0
  · refine pu_pos q1 ?_
    exact ⟨_, rfl, trivial⟩
  · refine pu_neg q1 ?_
    by_cases q2 : ctb ≤ x1
    · refine pu_pos q2 ?_
      exact ⟨_, rfl, trivial⟩
    · refine pu_neg q2 ?_
      refine pu_pos (ti 128 (by (first | assumption | (dsimp only; first | assumption | grind) | grind)) (by (first | assumption | (dsimp only; first | assumption | grind) | grind)) rfl) ?_
      obtain ⟨r4, h3, p4⟩ := T_Disk_at bt ((adb x1.toNatClampNeg) + x2) 
      refine pu_bind h3 ?_
      clear h3
      exact ⟨_, rfl, trivial⟩
set_option maxHeartbeats 4000000 in
theorem T_Folder_isFreeb (bt : Nat → Int32) (ctb : Int32) (adb : Nat → Int32) (x1 : Int32) (h0_ : 0 ≤ ctb) (h1_ : ctb ≤ 128) : ∃ r : Int32, f_Folder_isFreeb bt ctb adb x1 = some r ∧ (r = 0 ∨ r = 1) := by
  rw [f_Folder_isFreeb]
  obtain ⟨r1, h1, p2⟩ := T_Folder_byteOfb bt ctb adb x1 0 (by (first | assumption | (dsimp only; first | assumption | grind) | grind)) (by (first | assumption | (dsimp only; first | assumption | grind) | grind))
  refine pu_bind h1 ?_
  clear h1
  by_cases q3 : r1 = 0
  · refine pu_pos q3 ?_
    exact ⟨_, rfl, (by (first | assumption | (dsimp only; first | assumption | grind) | grind))⟩
  · refine pu_neg q3 ?_
    by_cases q4 : r1 = 229
    · refine pu_pos q4 ?_
      exact ⟨_, rfl, (by (first | assumption | (dsimp only; first | assumption | grind) | grind))⟩
    · refine pu_neg q4 ?_
      exact ⟨_, rfl, (by (first | assumption | (dsimp only; first | assumption | grind) | grind))⟩
set_option maxHeartbeats 4000000 in
theorem T_Folder_isEmptyb_L2 : ∀ (fuel : Nat) (bt : Nat → Int32) (ctb : Int32) (adb : Nat → Int32) (x1 : Int32), 0 ≤ ctb → ctb ≤ 128 → 0 ≤ x1 → tm ctb x1 fuel → ∃ r : Int32, f_Folder_isEmptyb_L2 fuel bt ctb adb x1 = some r ∧ (r = 0 ∨ r = 1) := by
  intro fuel
  induction fuel with
  | zero =>
    intro bt ctb adb x1 h0_ h1_ h2_ hm
    exact (tm0 hm).elim
  | succ fuel ih =>
    intro bt ctb adb x1 h0_ h1_ h2_ hm
    rw [f_Folder_isEmptyb_L2]
    by_cases q1 : ctb ≤ x1
    · refine pu_pos q1 ?_
      exact ⟨_, rfl, (by (try clear ih); (first | assumption | (dsimp only; first | assumption | grind) | grind))⟩
    · refine pu_neg q1 ?_
      obtain ⟨r2, h2, p3⟩ := T_Folder_isFreeb bt ctb adb x1 (by (try clear ih); (first | assumption | (dsimp only; first | assumption | grind) | grind)) (by (try clear ih); (first | assumption | (dsimp only; first | assumption | grind) | grind))
      refine pu_bind h2 ?_
      clear h2
      by_cases q4 : r2 = 0
      · refine pu_pos q4 ?_
        exact ⟨_, rfl, (by (try clear ih); (first | assumption | (dsimp only; first | assumption | grind) | grind))⟩
      · refine pu_neg q4 ?_
        exact ih bt ctb adb (x1 + 1) (by (try clear ih); (first | assumption | (dsimp only; first | assumption | grind) | grind)) (by (try clear ih); (first | assumption | (dsimp only; first | assumption | grind) | grind)) (by (try clear ih); (first | assumption | (dsimp only; first | assumption | grind) | grind)) (tm1 (by (try clear ih); (first | assumption | (dsimp only; first | assumption | grind) | grind)) hm)
set_option maxHeartbeats 4000000 in
theorem T_Folder_isEmptyb (bt : Nat → Int32) (ctb : Int32) (adb : Nat → Int32) (h0_ : 0 ≤ ctb) (h1_ : ctb ≤ 128) : ∃ r : Int32, f_Folder_isEmptyb bt ctb adb = some r ∧ (r = 0 ∨ r = 1) := by
  rw [f_Folder_isEmptyb]
  exact T_Folder_isEmptyb_L2 100000000000 bt ctb adb 0 (by (first | assumption | (dsimp only; first | assumption | grind) | grind)) (by (first | assumption | (dsimp only; first | assumption | grind) | grind)) (by (first | assumption | (dsimp only; first | assumption | grind) | grind)) (tmz _ _)
set_option maxHeartbeats 4000000 in
theorem T_V_canBeDeleted (en : Nat → Int32) (bt : Nat → Int32) (ct : Int32) (ad : Nat → Int32) (ctb : Int32) (lcb : Int32) (adb : Nat → Int32) (x1 : Int32) (h0_ : 0 ≤ ct) (h1_ : ct ≤ 128) (h2_ : 0 ≤ ctb) (h3_ : ctb ≤ 128) : ∃ r : Int32 × Int32 × Int32 × (Nat → Int32), f_V_canBeDeleted en bt ct ad ctb lcb adb x1 = some r ∧ (r.1 = 0 ∨ r.1 = 1) ∧ 0 ≤ r.2.1 ∧ r.2.1 ≤ 128 := by
  rw [f_V_canBeDeleted]
  obtain ⟨r1, h1, p2⟩ := T_Folder_kindOf bt ct ad x1 (by (first | assumption | (dsimp only; first | assumption | grind) | grind)) (by (first | assumption | (dsimp only; first | assumption | grind) | grind))
  refine pu_bind h1 ?_
  clear h1
  by_cases q3 : r1 = 1
  · refine pu_pos q3 ?_
    obtain ⟨r11, h4, p5⟩ := T_Folder_addressOf ct ad x1 (by (first | assumption | (dsimp only; first | assumption | grind) | grind)) (by (first | assumption | (dsimp only; first | assumption | grind) | grind))
    refine pu_bind h4 ?_
    clear h4
    obtain ⟨r13, h6, p7⟩ := T_Ses_holds en r11 
    refine pu_bind h6 ?_
    clear h6
    by_cases q8 : r13 = 0
    · refine pu_pos q8 ?_
      exact ⟨_, rfl, (by (first | assumption | (dsimp only; first | assumption | grind) | grind)), (by (first | assumption | (dsimp only; first | assumption | grind) | grind)), (by (first | assumption | (dsimp only; first | assumption | grind) | grind))⟩
    · refine pu_neg q8 ?_
      exact ⟨_, rfl, (by (first | assumption | (dsimp only; first | assumption | grind) | grind)), (by (first | assumption | (dsimp only; first | assumption | grind) | grind)), (by (first | assumption | (dsimp only; first | assumption | grind) | grind))⟩
  · refine pu_neg q3 ?_
    obtain ⟨r4, h9, p10⟩ := T_Folder_firstClusterOf bt ct ad x1 (by (first | assumption | (dsimp only; first | assumption | grind) | grind)) (by (first | assumption | (dsimp only; first | assumption | grind) | grind))
    refine pu_bind h9 ?_
    clear h9
    obtain ⟨r6, h11, p12, p13⟩ := T_Folder_loadb bt ctb lcb adb r4 (by (first | assumption | (dsimp only; first | assumption | grind) | grind)) (by (first | assumption | (dsimp only; first | assumption | grind) | grind))
    refine pu_bind h11 ?_
    clear h11
    obtain ⟨r8, h14, p15⟩ := T_Folder_isEmptyb bt r6.1 r6.2.2 (by (first | assumption | (dsimp only; first | assumption | grind) | grind)) (by (first | assumption | (dsimp only; first | assumption | grind) | grind))
    refine pu_bind h14 ?_
    clear h14
    refine pu_pos (tb (by (first | assumption | (dsimp only; first | assumption | grind) | grind))) ?_
    exact ⟨_, rfl, (by (first | assumption | (dsimp only; first | assumption | grind) | grind)), (by (first | assumption | (dsimp only; first | assumption | grind) | grind)), (by (first | assumption | (dsimp only; first | assumption | grind) | grind))⟩
set_option maxHeartbeats 4000000 in
theorem T_Disk_writeByte (g : am_WS) (x1 : Int32) (x2 : Int32) (h0_ : 0 ≤ g.1) (h1_ : g.1 ≤ 26) : ∃ r : (String ⊕ Unit) × am_WS, f_Disk_writeByte g x1 x2 = some r ∧ tV "java/lang/IllegalStateException" "java/lang/IllegalStateException" r.1 ∧ 0 ≤ r.2.1 ∧ r.2.1 ≤ 26 := by
  rw [f_Disk_writeByte]
  obtain ⟨r1, h1, p2, p3, p4⟩ := T_Disk_countWrite g (by (first | assumption | (dsimp only; first | assumption | grind) | grind)) (by (first | assumption | (dsimp only; first | assumption | grind) | grind))
  refine pu_bind h1 ?_
  clear h1
  refine pu_t (fun E3 w5 => ?_) (fun v4 w6 => ?_)
  · skip
    exact ⟨_, rfl, (tV_u p2 w5), (by (first | assumption | (dsimp only; first | assumption | grind) | grind)), (by (first | assumption | (dsimp only; first | assumption | grind) | grind))⟩
  · skip
    obtain ⟨r6, h7, p8⟩ := T_Disk_put r1.2.2.2.2.2.2.2.2.2.2 x1 x2 
    refine pu_bind h7 ?_
    clear h7
    exact ⟨_, rfl, tV_r, (by (first | assumption | (dsimp only; first | assumption | grind) | grind)), (by (first | assumption | (dsimp only; first | assumption | grind) | grind))⟩
set_option maxHeartbeats 4000000 in
theorem T_Folder_markFreed_L6 : ∀ (fuel : Nat) (g : am_WS) (ct : Int32) (ad : Nat → Int32) (x1 : Int32) (x2 : Int32), 0 ≤ g.1 → g.1 ≤ 26 → 0 ≤ ct → ct ≤ 128 → tm x2 0 fuel → ∃ r : (String ⊕ Unit) × am_WS, f_Folder_markFreed_L6 fuel g ct ad x1 x2 = some r ∧ tV "java/lang/IllegalStateException" "java/lang/IllegalStateException" r.1 ∧ 0 ≤ r.2.1 ∧ r.2.1 ≤ 26 := by
  intro fuel
  induction fuel with
  | zero =>
    intro g ct ad x1 x2 h0_ h1_ h2_ h3_ hm
    exact (tm0 hm).elim
  | succ fuel ih =>
    intro g ct ad x1 x2 h0_ h1_ h2_ h3_ hm
    rw [f_Folder_markFreed_L6]
    by_cases q1 : x2 ≤ 0
    · refine pu_pos q1 ?_
      obtain ⟨r4, h2, p3⟩ := T_Folder_addressOf ct ad x1 (by (try clear ih); (first | assumption | (dsimp only; first | assumption | grind) | grind)) (by (try clear ih); (first | assumption | (dsimp only; first | assumption | grind) | grind))
      refine pu_bind h2 ?_
      clear h2
      obtain ⟨r6, h4, p5, p6, p7⟩ := T_Disk_writeByte g r4 229 (by (try clear ih); (first | assumption | (dsimp only; first | assumption | grind) | grind)) (by (try clear ih); (first | assumption | (dsimp only; first | assumption | grind) | grind))
      refine pu_bind h4 ?_
      clear h4
      refine pu_t (fun E8 w8 => ?_) (fun v9 w9 => ?_)
      · skip
        exact ⟨_, rfl, (tV_u p5 w8), (by (try clear ih); (first | assumption | (dsimp only; first | assumption | grind) | grind)), (by (try clear ih); (first | assumption | (dsimp only; first | assumption | grind) | grind))⟩
      · skip
        exact ⟨_, rfl, tV_r, (by (try clear ih); (first | assumption | (dsimp only; first | assumption | grind) | grind)), (by (try clear ih); (first | assumption | (dsimp only; first | assumption | grind) | grind))⟩
    · refine pu_neg q1 ?_
      obtain ⟨r11, h10, p11⟩ := T_Folder_addressOf ct ad (x1 - x2) (by (try clear ih); (first | assumption | (dsimp only; first | assumption | grind) | grind)) (by (try clear ih); (first | assumption | (dsimp only; first | assumption | grind) | grind))
      refine pu_bind h10 ?_
      clear h10
      obtain ⟨r13, h12, p13, p14, p15⟩ := T_Disk_writeByte g r11 229 (by (try clear ih); (first | assumption | (dsimp only; first | assumption | grind) | grind)) (by (try clear ih); (first | assumption | (dsimp only; first | assumption | grind) | grind))
      refine pu_bind h12 ?_
      clear h12
      refine pu_t (fun E15 w16 => ?_) (fun v16 w17 => ?_)
      · skip
        exact ⟨_, rfl, (tV_u p13 w16), (by (try clear ih); (first | assumption | (dsimp only; first | assumption | grind) | grind)), (by (try clear ih); (first | assumption | (dsimp only; first | assumption | grind) | grind))⟩
      · skip
        exact ih r13.2 ct ad x1 (x2 + (-1)) (by (try clear ih); (first | assumption | (dsimp only; first | assumption | grind) | grind)) (by (try clear ih); (first | assumption | (dsimp only; first | assumption | grind) | grind)) (by (try clear ih); (first | assumption | (dsimp only; first | assumption | grind) | grind)) (by (try clear ih); (first | assumption | (dsimp only; first | assumption | grind) | grind)) (tmd (by (try clear ih); (first | assumption | (dsimp only; first | assumption | grind) | grind)) hm)
set_option maxHeartbeats 4000000 in
theorem T_Folder_markFreed (g : am_WS) (ct : Int32) (ad : Nat → Int32) (x1 : Int32) (h0_ : 0 ≤ g.1) (h1_ : g.1 ≤ 26) (h2_ : 0 ≤ ct) (h3_ : ct ≤ 128) : ∃ r : (String ⊕ Unit) × am_WS, f_Folder_markFreed g ct ad x1 = some r ∧ tV "java/lang/IllegalStateException" "java/lang/IllegalStateException" r.1 ∧ 0 ≤ r.2.1 ∧ r.2.1 ≤ 26 := by
  rw [f_Folder_markFreed]
  obtain ⟨r1, h1, p2, p3⟩ := T_Folder_partsOf g.2.2.2.2.2.2.2.2.2 ct ad x1 (by (first | assumption | (dsimp only; first | assumption | grind) | grind)) (by (first | assumption | (dsimp only; first | assumption | grind) | grind))
  refine pu_bind h1 ?_
  clear h1
  exact T_Folder_markFreed_L6 100000000000 g ct ad x1 r1 (by (first | assumption | (dsimp only; first | assumption | grind) | grind)) (by (first | assumption | (dsimp only; first | assumption | grind) | grind)) (by (first | assumption | (dsimp only; first | assumption | grind) | grind)) (by (first | assumption | (dsimp only; first | assumption | grind) | grind)) (tmz _ _)
set_option maxHeartbeats 4000000 in
theorem T_Table_release_L4 : ∀ (fuel : Nat) (g : am_WS) (x2 : Int32) (x3 : Int32), 0 ≤ g.1 → g.1 ≤ 26 → 0 ≤ x3 → tm 64 x3 fuel → ∃ r : (String ⊕ Unit) × am_WS, f_Table_release_L4 fuel g x2 x3 = some r ∧ tV "java/lang/IllegalStateException" "java/lang/IllegalStateException" r.1 ∧ 0 ≤ r.2.1 ∧ r.2.1 ≤ 26 := by
  intro fuel
  induction fuel with
  | zero =>
    intro g x2 x3 h0_ h1_ h2_ hm
    exact (tm0 hm).elim
  | succ fuel ih =>
    intro g x2 x3 h0_ h1_ h2_ hm
    rw [f_Table_release_L4]
    by_cases q1 : 64 ≤ x3
    · refine pu_pos q1 ?_
      exact ⟨_, rfl, tV_r, (by (try clear ih); (first | assumption | (dsimp only; first | assumption | grind) | grind)), (by (try clear ih); (first | assumption | (dsimp only; first | assumption | grind) | grind))⟩
    · refine pu_neg q1 ?_
      obtain ⟨r2, h2, p3⟩ := T_V_isCluster x2 
      refine pu_bind h2 ?_
      clear h2
      by_cases q4 : r2 = 0
      · refine pu_pos q4 ?_
        exact ⟨_, rfl, tV_r, (by (try clear ih); (first | assumption | (dsimp only; first | assumption | grind) | grind)), (by (try clear ih); (first | assumption | (dsimp only; first | assumption | grind) | grind))⟩
      · refine pu_neg q4 ?_
        obtain ⟨r5, h5, p6⟩ := T_Table_cell g.2.2.2.2.2.2.2.2.2 x2 
        refine pu_bind h5 ?_
        clear h5
        obtain ⟨r7, h7, p8, p9, p10⟩ := T_Table_set g x2 0 (by (try clear ih); (first | assumption | (dsimp only; first | assumption | grind) | grind)) (by (try clear ih); (first | assumption | (dsimp only; first | assumption | grind) | grind))
        refine pu_bind h7 ?_
        clear h7
        refine pu_t (fun E9 w11 => ?_) (fun v10 w12 => ?_)
        · skip
          exact ⟨_, rfl, (tV_u p8 w11), (by (try clear ih); (first | assumption | (dsimp only; first | assumption | grind) | grind)), (by (try clear ih); (first | assumption | (dsimp only; first | assumption | grind) | grind))⟩
        · skip
          exact ih r7.2 r5 (x3 + 1) (by (try clear ih); (first | assumption | (dsimp only; first | assumption | grind) | grind)) (by (try clear ih); (first | assumption | (dsimp only; first | assumption | grind) | grind)) (by (try clear ih); (first | assumption | (dsimp only; first | assumption | grind) | grind)) (tm1 (by (try clear ih); (first | assumption | (dsimp only; first | assumption | grind) | grind)) hm)
set_option maxHeartbeats 4000000 in
theorem T_Table_release (g : am_WS) (x1 : Int32) (h0_ : 0 ≤ g.1) (h1_ : g.1 ≤ 26) : ∃ r : (String ⊕ Unit) × am_WS, f_Table_release g x1 = some r ∧ tV "java/lang/IllegalStateException" "java/lang/IllegalStateException" r.1 ∧ 0 ≤ r.2.1 ∧ r.2.1 ≤ 26 := by
  rw [f_Table_release]
  exact T_Table_release_L4 100000000000 g x1 0 (by (first | assumption | (dsimp only; first | assumption | grind) | grind)) (by (first | assumption | (dsimp only; first | assumption | grind) | grind)) (by (first | assumption | (dsimp only; first | assumption | grind) | grind)) (tmz _ _)
set_option maxHeartbeats 4000000 in
theorem T_V_delete (g : am_WS) (li : Nat → Int32) (su : Int32) (ct : Int32) (lc : Int32) (ad : Nat → Int32) (ctb : Int32) (lcb : Int32) (adb : Nat → Int32) (ln : Int32) (tx : Nat → Int32) (h0_ : 0 ≤ g.1) (h1_ : g.1 ≤ 26) (h2_ : 0 ≤ ct) (h3_ : ct ≤ 128) (h4_ : 0 ≤ ctb) (h5_ : ctb ≤ 128) (h6_ : 0 ≤ ln) (h7_ : ln ≤ 26) : ∃ r : (String ⊕ Unit) × am_WS × Int32 × Int32 × (Nat → Int32) × Int32 × Int32 × (Nat → Int32) × Int32 × (Nat → Int32), f_V_delete g li su ct lc ad ctb lcb adb ln tx = some r ∧ tV "java/util/NoSuchElementException" "java/lang/UnsupportedOperationException" r.1 ∧ 0 ≤ r.2.1.1 ∧ r.2.1.1 ≤ 26 ∧ 0 ≤ r.2.2.1 ∧ r.2.2.1 ≤ 128 ∧ 0 ≤ r.2.2.2.2.2.1 ∧ r.2.2.2.2.2.1 ≤ 128 ∧ 0 ≤ r.2.2.2.2.2.2.2.2.1 ∧ r.2.2.2.2.2.2.2.2.1 ≤ 26 := by
  rw [f_V_delete]
  obtain ⟨r1, h1, p2⟩ := T_V_demandSoundDisk g.2.2.2.2.2.1 su 
  refine pu_bind h1 ?_
  clear h1
  refine pu_t (fun E3 w3 => ?_) (fun v4 w4 => ?_)
  · skip
    exact ⟨_, rfl, (tV_u p2 w3), (by (first | assumption | (dsimp only; first | assumption | grind) | grind)), (by (first | assumption | (dsimp only; first | assumption | grind) | grind)), (by (first | assumption | (dsimp only; first | assumption | grind) | grind)), (by (first | assumption | (dsimp only; first | assumption | grind) | grind)), (by (first | assumption | (dsimp only; first | assumption | grind) | grind)), (by (first | assumption | (dsimp only; first | assumption | grind) | grind)), (by (first | assumption | (dsimp only; first | assumption | grind) | grind)), (by (first | assumption | (dsimp only; first | assumption | grind) | grind))⟩
  · skip
    obtain ⟨r6, h5, p6, p7, p8, p9⟩ := T_Name_takeLineOf g.1 li ln tx (by (first | assumption | (dsimp only; first | assumption | grind) | grind)) (by (first | assumption | (dsimp only; first | assumption | grind) | grind)) (by (first | assumption | (dsimp only; first | assumption | grind) | grind)) (by (first | assumption | (dsimp only; first | assumption | grind) | grind))
    refine pu_bind h5 ?_
    clear h5
    obtain ⟨r8, h10, p11, p12⟩ := T_Folder_load g.2.2.2.2.2.2.2.2.2 ct lc ad g.2.1 (by (first | assumption | (dsimp only; first | assumption | grind) | grind)) (by (first | assumption | (dsimp only; first | assumption | grind) | grind))
    refine pu_bind h10 ?_
    clear h10
    obtain ⟨r10, h13, p14⟩ := T_Folder_find g.2.2.2.2.2.2.2.2.2 r8.1 r8.2.2 r6.2.1 r6.2.2 0 (by (first | assumption | (dsimp only; first | assumption | grind) | grind)) (by (first | assumption | (dsimp only; first | assumption | grind) | grind)) (by (first | assumption | (dsimp only; first | assumption | grind) | grind)) (by (first | assumption | (dsimp only; first | assumption | grind) | grind))
    refine pu_bind h13 ?_
    clear h13
    by_cases q15 : r10 = (-1)
    · refine pu_pos q15 ?_
      exact ⟨_, rfl, tV_a, (by (first | assumption | (dsimp only; first | assumption | grind) | grind)), (by (first | assumption | (dsimp only; first | assumption | grind) | grind)), (by (first | assumption | (dsimp only; first | assumption | grind) | grind)), (by (first | assumption | (dsimp only; first | assumption | grind) | grind)), (by (first | assumption | (dsimp only; first | assumption | grind) | grind)), (by (first | assumption | (dsimp only; first | assumption | grind) | grind)), (by (first | assumption | (dsimp only; first | assumption | grind) | grind)), (by (first | assumption | (dsimp only; first | assumption | grind) | grind))⟩
    · refine pu_neg q15 ?_
      obtain ⟨r13, h16, p17, p18, p19⟩ := T_V_canBeDeleted g.2.2.2.1 g.2.2.2.2.2.2.2.2.2 r8.1 r8.2.2 ctb lcb adb r10 (by (first | assumption | (dsimp only; first | assumption | grind) | grind)) (by (first | assumption | (dsimp only; first | assumption | grind) | grind)) (by (first | assumption | (dsimp only; first | assumption | grind) | grind)) (by (first | assumption | (dsimp only; first | assumption | grind) | grind))
      refine pu_bind h16 ?_
      clear h16
      by_cases q20 : r13.1 = 0
      · refine pu_pos q20 ?_
        exact ⟨_, rfl, tV_b, (by (first | assumption | (dsimp only; first | assumption | grind) | grind)), (by (first | assumption | (dsimp only; first | assumption | grind) | grind)), (by (first | assumption | (dsimp only; first | assumption | grind) | grind)), (by (first | assumption | (dsimp only; first | assumption | grind) | grind)), (by (first | assumption | (dsimp only; first | assumption | grind) | grind)), (by (first | assumption | (dsimp only; first | assumption | grind) | grind)), (by (first | assumption | (dsimp only; first | assumption | grind) | grind)), (by (first | assumption | (dsimp only; first | assumption | grind) | grind))⟩
      · refine pu_neg q20 ?_
        obtain ⟨r16, h21, p22, p23, p24⟩ := T_Folder_markFreed (r6.1, g.2.1, g.2.2.1, g.2.2.2.1, g.2.2.2.2.1, g.2.2.2.2.2.1, g.2.2.2.2.2.2.1, g.2.2.2.2.2.2.2.1, g.2.2.2.2.2.2.2.2.1, g.2.2.2.2.2.2.2.2.2) r8.1 r8.2.2 r10 (by (first | assumption | (dsimp only; first | assumption | grind) | grind)) (by (first | assumption | (dsimp only; first | assumption | grind) | grind)) (by (first | assumption | (dsimp only; first | assumption | grind) | grind)) (by (first | assumption | (dsimp only; first | assumption | grind) | grind))
        refine pu_bind h21 ?_
        clear h21
        try dsimp only at p22 p23 p24
        refine pu_t (fun E18 w25 => ?_) (fun v19 w26 => ?_)
        · skip
          exact ⟨_, rfl, (tV_u p22 w25), (by (first | assumption | (dsimp only; first | assumption | grind) | grind)), (by (first | assumption | (dsimp only; first | assumption | grind) | grind)), (by (first | assumption | (dsimp only; first | assumption | grind) | grind)), (by (first | assumption | (dsimp only; first | assumption | grind) | grind)), (by (first | assumption | (dsimp only; first | assumption | grind) | grind)), (by (first | assumption | (dsimp only; first | assumption | grind) | grind)), (by (first | assumption | (dsimp only; first | assumption | grind) | grind)), (by (first | assumption | (dsimp only; first | assumption | grind) | grind))⟩
        · skip
          obtain ⟨r21, h27, p28⟩ := T_Folder_firstClusterOf r16.2.2.2.2.2.2.2.2.2.2 r8.1 r8.2.2 r10 (by (first | assumption | (dsimp only; first | assumption | grind) | grind)) (by (first | assumption | (dsimp only; first | assumption | grind) | grind))
          refine pu_bind h27 ?_
          clear h27
          obtain ⟨r23, h29, p30, p31, p32⟩ := T_Table_release r16.2 r21 (by (first | assumption | (dsimp only; first | assumption | grind) | grind)) (by (first | assumption | (dsimp only; first | assumption | grind) | grind))
          refine pu_bind h29 ?_
          clear h29
          refine pu_t (fun E25 w33 => ?_) (fun v26 w34 => ?_)
          · skip
            exact ⟨_, rfl, (tV_u p30 w33), (by (first | assumption | (dsimp only; first | assumption | grind) | grind)), (by (first | assumption | (dsimp only; first | assumption | grind) | grind)), (by (first | assumption | (dsimp only; first | assumption | grind) | grind)), (by (first | assumption | (dsimp only; first | assumption | grind) | grind)), (by (first | assumption | (dsimp only; first | assumption | grind) | grind)), (by (first | assumption | (dsimp only; first | assumption | grind) | grind)), (by (first | assumption | (dsimp only; first | assumption | grind) | grind)), (by (first | assumption | (dsimp only; first | assumption | grind) | grind))⟩
          · skip
            exact ⟨_, rfl, tV_r, (by (first | assumption | (dsimp only; first | assumption | grind) | grind)), (by (first | assumption | (dsimp only; first | assumption | grind) | grind)), (by (first | assumption | (dsimp only; first | assumption | grind) | grind)), (by (first | assumption | (dsimp only; first | assumption | grind) | grind)), (by (first | assumption | (dsimp only; first | assumption | grind) | grind)), (by (first | assumption | (dsimp only; first | assumption | grind) | grind)), (by (first | assumption | (dsimp only; first | assumption | grind) | grind)), (by (first | assumption | (dsimp only; first | assumption | grind) | grind))⟩
set_option maxHeartbeats 4000000 in
theorem T_Ses_goToRoot (he : Int32) (de : Int32)  : ∃ r : Int32 × Int32, f_Ses_goToRoot he de = some r ∧ True := by
  rw [f_Ses_goToRoot]
  exact ⟨_, rfl, trivial⟩
set_option maxHeartbeats 4000000 in
theorem T_Ses_goDown (he : Int32) (de : Int32) (x1 : Int32)  : ∃ r : Int32 × Int32, f_Ses_goDown he de x1 = some r ∧ True := by
  rw [f_Ses_goDown]
  exact ⟨_, rfl, trivial⟩
set_option maxHeartbeats 4000000 in
theorem T_V_enter (ll : Int32) (he : Int32) (de : Int32) (li : Nat → Int32) (pw : Int32) (su : Int32) (bt : Nat → Int32) (ct : Int32) (lc : Int32) (ad : Nat → Int32) (ln : Int32) (tx : Nat → Int32) (h0_ : 0 ≤ ll) (h1_ : ll ≤ 26) (h2_ : 0 ≤ ct) (h3_ : ct ≤ 128) (h4_ : 0 ≤ ln) (h5_ : ln ≤ 26) : ∃ r : (String ⊕ Unit) × Int32 × Int32 × Int32 × Int32 × Int32 × (Nat → Int32) × Int32 × (Nat → Int32), f_V_enter ll he de li pw su bt ct lc ad ln tx = some r ∧ tV "java/util/NoSuchElementException" "java/util/NoSuchElementException" r.1 ∧ 0 ≤ r.2.1 ∧ r.2.1 ≤ 26 ∧ 0 ≤ r.2.2.2.2.1 ∧ r.2.2.2.2.1 ≤ 128 ∧ 0 ≤ r.2.2.2.2.2.2.2.1 ∧ r.2.2.2.2.2.2.2.1 ≤ 26 := by
  rw [f_V_enter]
  obtain ⟨r1, h1, p2⟩ := T_V_demandSoundDisk pw su 
  refine pu_bind h1 ?_
  clear h1
  refine pu_t (fun E3 w3 => ?_) (fun v4 w4 => ?_)
  · skip
    exact ⟨_, rfl, (tV_u p2 w3), (by (first | assumption | (dsimp only; first | assumption | grind) | grind)), (by (first | assumption | (dsimp only; first | assumption | grind) | grind)), (by (first | assumption | (dsimp only; first | assumption | grind) | grind)), (by (first | assumption | (dsimp only; first | assumption | grind) | grind)), (by (first | assumption | (dsimp only; first | assumption | grind) | grind)), (by (first | assumption | (dsimp only; first | assumption | grind) | grind))⟩
  · skip
    obtain ⟨r6, h5, p6, p7, p8, p9⟩ := T_Name_takeLineOf ll li ln tx (by (first | assumption | (dsimp only; first | assumption | grind) | grind)) (by (first | assumption | (dsimp only; first | assumption | grind) | grind)) (by (first | assumption | (dsimp only; first | assumption | grind) | grind)) (by (first | assumption | (dsimp only; first | assumption | grind) | grind))
    refine pu_bind h5 ?_
    clear h5
    by_cases q10 : r6.2.1 = 0
    · refine pu_pos q10 ?_
      obtain ⟨r18, h11, p12⟩ := T_Ses_goToRoot he de 
      refine pu_bind h11 ?_
      clear h11
      exact ⟨_, rfl, tV_r, (by (first | assumption | (dsimp only; first | assumption | grind) | grind)), (by (first | assumption | (dsimp only; first | assumption | grind) | grind)), (by (first | assumption | (dsimp only; first | assumption | grind) | grind)), (by (first | assumption | (dsimp only; first | assumption | grind) | grind)), (by (first | assumption | (dsimp only; first | assumption | grind) | grind)), (by (first | assumption | (dsimp only; first | assumption | grind) | grind))⟩
    · refine pu_neg q10 ?_
      obtain ⟨r9, h13, p14, p15⟩ := T_Folder_load bt ct lc ad he (by (first | assumption | (dsimp only; first | assumption | grind) | grind)) (by (first | assumption | (dsimp only; first | assumption | grind) | grind))
      refine pu_bind h13 ?_
      clear h13
      obtain ⟨r11, h16, p17⟩ := T_Folder_find bt r9.1 r9.2.2 r6.2.1 r6.2.2 2 (by (first | assumption | (dsimp only; first | assumption | grind) | grind)) (by (first | assumption | (dsimp only; first | assumption | grind) | grind)) (by (first | assumption | (dsimp only; first | assumption | grind) | grind)) (by (first | assumption | (dsimp only; first | assumption | grind) | grind))
      refine pu_bind h16 ?_
      clear h16
      by_cases q18 : r11 = (-1)
      · refine pu_pos q18 ?_
        exact ⟨_, rfl, tV_a, (by (first | assumption | (dsimp only; first | assumption | grind) | grind)), (by (first | assumption | (dsimp only; first | assumption | grind) | grind)), (by (first | assumption | (dsimp only; first | assumption | grind) | grind)), (by (first | assumption | (dsimp only; first | assumption | grind) | grind)), (by (first | assumption | (dsimp only; first | assumption | grind) | grind)), (by (first | assumption | (dsimp only; first | assumption | grind) | grind))⟩
      · refine pu_neg q18 ?_
        obtain ⟨r14, h19, p20⟩ := T_Folder_firstClusterOf bt r9.1 r9.2.2 r11 (by (first | assumption | (dsimp only; first | assumption | grind) | grind)) (by (first | assumption | (dsimp only; first | assumption | grind) | grind))
        refine pu_bind h19 ?_
        clear h19
        obtain ⟨r16, h21, p22⟩ := T_Ses_goDown he de r14 
        refine pu_bind h21 ?_
        clear h21
        exact ⟨_, rfl, tV_r, (by (first | assumption | (dsimp only; first | assumption | grind) | grind)), (by (first | assumption | (dsimp only; first | assumption | grind) | grind)), (by (first | assumption | (dsimp only; first | assumption | grind) | grind)), (by (first | assumption | (dsimp only; first | assumption | grind) | grind)), (by (first | assumption | (dsimp only; first | assumption | grind) | grind)), (by (first | assumption | (dsimp only; first | assumption | grind) | grind))⟩
set_option maxHeartbeats 4000000 in
theorem T_Ses_leastFreeHandle_L2 : ∀ (fuel : Nat) (en : Nat → Int32) (x1 : Int32), 0 ≤ x1 → tm 4 x1 fuel → ∃ r : Int32, f_Ses_leastFreeHandle_L2 fuel en x1 = some r ∧ True := by
  intro fuel
  induction fuel with
  | zero =>
    intro en x1 h0_ hm
    exact (tm0 hm).elim
  | succ fuel ih =>
    intro en x1 h0_ hm
    rw [f_Ses_leastFreeHandle_L2]
    by_cases q1 : 4 ≤ x1
    · refine pu_pos q1 ?_
      exact ⟨_, rfl, trivial⟩
    · refine pu_neg q1 ?_
      refine pu_pos (ti 4 (by (try clear ih); (first | assumption | (dsimp only; first | assumption | grind) | grind)) (by (try clear ih); (first | assumption | (dsimp only; first | assumption | grind) | grind)) rfl) ?_
      by_cases q2 : (en x1.toNatClampNeg) = (-1)
      · refine pu_pos q2 ?_
        exact ⟨_, rfl, trivial⟩
      · refine pu_neg q2 ?_
        exact ih en (x1 + 1) (by (try clear ih); (first | assumption | (dsimp only; first | assumption | grind) | grind)) (tm1 (by (try clear ih); (first | assumption | (dsimp only; first | assumption | grind) | grind)) hm)
set_option maxHeartbeats 4000000 in
theorem T_Ses_leastFreeHandle (en : Nat → Int32)  : ∃ r : Int32, f_Ses_leastFreeHandle en = some r ∧ True := by
  rw [f_Ses_leastFreeHandle]
  exact T_Ses_leastFreeHandle_L2 100000000000 en 0 (by (first | assumption | (dsimp only; first | assumption | grind) | grind)) (tmz _ _)
set_option maxHeartbeats 4000000 in
theorem T_Ses_hold (en : Nat → Int32) (po : Nat → Int32) (x1 : Int32) (x2 : Int32)  : ∃ r : (Nat → Int32) × (Nat → Int32), f_Ses_hold en po x1 x2 = some r ∧ True := by
  rw [f_Ses_hold]
  by_cases q1 : x1 < 0
  · refine pu_pos q1 ?_
    exact ⟨_, rfl, trivial⟩
  · refine pu_neg q1 ?_
    by_cases q2 : 4 ≤ x1
    · refine pu_pos q2 ?_
      exact ⟨_, rfl, trivial⟩
    · refine pu_neg q2 ?_
      refine pu_pos (ti 4 (by (first | assumption | (dsimp only; first | assumption | grind) | grind)) (by (first | assumption | (dsimp only; first | assumption | grind) | grind)) rfl) ?_
      refine pu_pos (ti 4 (by (first | assumption | (dsimp only; first | assumption | grind) | grind)) (by (first | assumption | (dsimp only; first | assumption | grind) | grind)) rfl) ?_
      exact ⟨_, rfl, trivial⟩
set_option maxHeartbeats 4000000 in
theorem T_V_open (ll : Int32) (he : Int32) (li : Nat → Int32) (en : Nat → Int32) (po : Nat → Int32) (pw : Int32) (su : Int32) (bt : Nat → Int32) (ct : Int32) (lc : Int32) (ad : Nat → Int32) (ln : Int32) (tx : Nat → Int32) (h0_ : 0 ≤ ll) (h1_ : ll ≤ 26) (h2_ : 0 ≤ ct) (h3_ : ct ≤ 128) (h4_ : 0 ≤ ln) (h5_ : ln ≤ 26) : ∃ r : (String ⊕ Int32) × Int32 × (Nat → Int32) × (Nat → Int32) × Int32 × Int32 × (Nat → Int32) × Int32 × (Nat → Int32), f_V_open ll he li en po pw su bt ct lc ad ln tx = some r ∧ tV "java/util/NoSuchElementException" "java/lang/UnsupportedOperationException" r.1 ∧ 0 ≤ r.2.1 ∧ r.2.1 ≤ 26 ∧ 0 ≤ r.2.2.2.2.1 ∧ r.2.2.2.2.1 ≤ 128 ∧ 0 ≤ r.2.2.2.2.2.2.2.1 ∧ r.2.2.2.2.2.2.2.1 ≤ 26 := by
  rw [f_V_open]
  obtain ⟨r1, h1, p2⟩ := T_V_demandSoundDisk pw su 
  refine pu_bind h1 ?_
  clear h1
  refine pu_t (fun E3 w3 => ?_) (fun v4 w4 => ?_)
  · skip
    exact ⟨_, rfl, (tV_u p2 w3), (by (first | assumption | (dsimp only; first | assumption | grind) | grind)), (by (first | assumption | (dsimp only; first | assumption | grind) | grind)), (by (first | assumption | (dsimp only; first | assumption | grind) | grind)), (by (first | assumption | (dsimp only; first | assumption | grind) | grind)), (by (first | assumption | (dsimp only; first | assumption | grind) | grind)), (by (first | assumption | (dsimp only; first | assumption | grind) | grind))⟩
  · skip
    obtain ⟨r6, h5, p6, p7, p8, p9⟩ := T_Name_takeLineOf ll li ln tx (by (first | assumption | (dsimp only; first | assumption | grind) | grind)) (by (first | assumption | (dsimp only; first | assumption | grind) | grind)) (by (first | assumption | (dsimp only; first | assumption | grind) | grind)) (by (first | assumption | (dsimp only; first | assumption | grind) | grind))
    refine pu_bind h5 ?_
    clear h5
    obtain ⟨r8, h10, p11, p12⟩ := T_Folder_load bt ct lc ad he (by (first | assumption | (dsimp only; first | assumption | grind) | grind)) (by (first | assumption | (dsimp only; first | assumption | grind) | grind))
    refine pu_bind h10 ?_
    clear h10
    obtain ⟨r10, h13, p14⟩ := T_Folder_find bt r8.1 r8.2.2 r6.2.1 r6.2.2 1 (by (first | assumption | (dsimp only; first | assumption | grind) | grind)) (by (first | assumption | (dsimp only; first | assumption | grind) | grind)) (by (first | assumption | (dsimp only; first | assumption | grind) | grind)) (by (first | assumption | (dsimp only; first | assumption | grind) | grind))
    refine pu_bind h13 ?_
    clear h13
    by_cases q15 : r10 = (-1)
    · refine pu_pos q15 ?_
      exact ⟨_, rfl, tV_a, (by (first | assumption | (dsimp only; first | assumption | grind) | grind)), (by (first | assumption | (dsimp only; first | assumption | grind) | grind)), (by (first | assumption | (dsimp only; first | assumption | grind) | grind)), (by (first | assumption | (dsimp only; first | assumption | grind) | grind)), (by (first | assumption | (dsimp only; first | assumption | grind) | grind)), (by (first | assumption | (dsimp only; first | assumption | grind) | grind))⟩
    · refine pu_neg q15 ?_
      obtain ⟨r13, h16, p17⟩ := T_Ses_leastFreeHandle en 
      refine pu_bind h16 ?_
      clear h16
      by_cases q18 : r13 = (-1)
      · refine pu_pos q18 ?_
        exact ⟨_, rfl, tV_b, (by (first | assumption | (dsimp only; first | assumption | grind) | grind)), (by (first | assumption | (dsimp only; first | assumption | grind) | grind)), (by (first | assumption | (dsimp only; first | assumption | grind) | grind)), (by (first | assumption | (dsimp only; first | assumption | grind) | grind)), (by (first | assumption | (dsimp only; first | assumption | grind) | grind)), (by (first | assumption | (dsimp only; first | assumption | grind) | grind))⟩
      · refine pu_neg q18 ?_
        obtain ⟨r16, h19, p20⟩ := T_Folder_addressOf r8.1 r8.2.2 r10 (by (first | assumption | (dsimp only; first | assumption | grind) | grind)) (by (first | assumption | (dsimp only; first | assumption | grind) | grind))
        refine pu_bind h19 ?_
        clear h19
        obtain ⟨r18, h21, p22⟩ := T_Ses_hold en po r13 r16 
        refine pu_bind h21 ?_
        clear h21
        exact ⟨_, rfl, tV_r, (by (first | assumption | (dsimp only; first | assumption | grind) | grind)), (by (first | assumption | (dsimp only; first | assumption | grind) | grind)), (by (first | assumption | (dsimp only; first | assumption | grind) | grind)), (by (first | assumption | (dsimp only; first | assumption | grind) | grind)), (by (first | assumption | (dsimp only; first | assumption | grind) | grind)), (by (first | assumption | (dsimp only; first | assumption | grind) | grind))⟩
