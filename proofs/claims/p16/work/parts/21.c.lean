def f_Folder_find (bt : Nat → Int32) (ct : Int32) (ad : Nat → Int32) (ln : Int32) (tx : Nat → Int32) (x2 : Int32) : Option (Int32) :=
  f_Folder_find_L2 100000000000 bt ct ad ln tx x2 0
set_option maxHeartbeats 4000000 in
set_option maxRecDepth 100000 in
theorem s_Folder_find {l : Launch} {D : va_G} {dA : FieldType → ClassId} (htr : l.stackTraces = false) {rest : List am_E} {ll : Int32} {he : Int32} {de : Int32} {li : Nat → Int32} {en : Nat → Int32} {po : Nat → Int32} {pw : Int32} {su : Int32} {wr : Int32} {cs : Int32} {wb : Int32} {bt : Nat → Int32} {ct : Int32} {lc : Int32} {ad : Nat → Int32} {ctb : Int32} {lcb : Int32} {adb : Nat → Int32} {fx : Int32} {us : Nat → Int32} {ln : Int32} {pt : Int32} {tx : Nat → Int32} {br : Nat → Int32} {rw : Nat → Int32}  {x2 : Int32} {r : Int32} (hf : f_Folder_find bt ct ad ln tx x2 = some r) {o : am_O} (ho : .inl (some (.int r)) = o) :
    am_M (am_kk l D dA) y_Folder_find ws_Folder_find (am_rm 6 o) [.ref 8, .ref 14, .int x2] (hC ll he de li en po pw su wr cs wb bt ct lc ad ctb lcb adb fx us ln pt tx br rw rest) o (hC ll he de li en po pw su wr cs wb bt ct lc ad ctb lcb adb fx us ln pt tx br rw rest) := by
  subst ho
  refine am_body (by decide) rfl (Nat.le_of_ble_eq_true rfl) rfl ?_
  rw [f_Folder_find] at hf
  refine g_iconst (n := 1) (v := 0) d_Folder_find_0 rfl (by decide) ?_
  refine g_istore_n (n := 2) (ls' := [(3, .int 0), (0, .ref 8), (1, .ref 14), (2, .int x2)]) d_Folder_find_1 rfl rfl (am_ltb rfl) rfl ?_
  refine g_ls [1, 2, 3, 0] rfl ?_
  exact s_Folder_find_L2 htr 100000000000 bt ct ad ln tx x2 0 _ hf _ rfl
def f_V_isShortChar (x0 : Int32) : Option (Int32) :=
  (if x0 < 65 then (if x0 < 48 then some 0 else (if 57 < x0 then some 0 else some 1)) else (if x0 ≤ 90 then some 1 else (if x0 < 48 then some 0 else (if 57 < x0 then some 0 else some 1))))
set_option maxHeartbeats 4000000 in
set_option maxRecDepth 100000 in
theorem s_V_isShortChar {l : Launch} {D : va_G} {dA : FieldType → ClassId} (htr : l.stackTraces = false) {rest : List am_E} {ll : Int32} {he : Int32} {de : Int32} {li : Nat → Int32} {en : Nat → Int32} {po : Nat → Int32} {pw : Int32} {su : Int32} {wr : Int32} {cs : Int32} {wb : Int32} {bt : Nat → Int32} {ct : Int32} {lc : Int32} {ad : Nat → Int32} {ctb : Int32} {lcb : Int32} {adb : Nat → Int32} {fx : Int32} {us : Nat → Int32} {ln : Int32} {pt : Int32} {tx : Nat → Int32} {br : Nat → Int32} {rw : Nat → Int32}  {x0 : Int32} {r : Int32} (hf : f_V_isShortChar x0 = some r) {o : am_O} (ho : .inl (some (.int r)) = o) :
    am_M (am_kk l D dA) y_V_isShortChar ws_V_isShortChar (am_rm 0 o) [.int x0] (hC ll he de li en po pw su wr cs wb bt ct lc ad ctb lcb adb fx us ln pt tx br rw rest) o (hC ll he de li en po pw su wr cs wb bt ct lc ad ctb lcb adb fx us ln pt tx br rw rest) := by
  subst ho
  refine am_body (by decide) rfl (Nat.le_of_ble_eq_true rfl) rfl ?_
  rw [f_V_isShortChar] at hf
  refine g_iload_n (n := 1) d_V_isShortChar_0 rfl 0 rfl rfl ?_
  refine g_bipush (n := 3) (v := 65) d_V_isShortChar_1 rfl (by decide) ?_
  refine g_icmp_lt (n := 6) (tgt := 12) d_V_isShortChar_3 rfl (by decide) (fun q1 => ?_) (fun q1 => ?_)
  · have hf := ob_pos q1 hf
    refine g_iload_n (n := 13) d_V_isShortChar_12 rfl 0 rfl rfl ?_
    refine g_bipush (n := 15) (v := 48) d_V_isShortChar_13 rfl (by decide) ?_
    refine g_icmp_lt (n := 18) (tgt := 28) d_V_isShortChar_15 rfl (by decide) (fun q2 => ?_) (fun q2 => ?_)
    · have hf := ob_pos q2 hf
      refine g_iconst (n := 29) (v := 0) d_V_isShortChar_28 rfl (by decide) ?_
      cases hf
      exact g_zret d_V_isShortChar_29 rfl am_z0 (Nat.zero_le _) (Nat.zero_le _)
    · have hf := ob_neg q2 hf
      refine g_iload_n (n := 19) d_V_isShortChar_18 rfl 0 rfl rfl ?_
      refine g_bipush (n := 21) (v := 57) d_V_isShortChar_19 rfl (by decide) ?_
      refine g_icmp_gt (n := 24) (tgt := 28) d_V_isShortChar_21 rfl (by decide) (fun q3 => ?_) (fun q3 => ?_)
      · have hf := ob_pos q3 hf
        refine g_iconst (n := 29) (v := 0) d_V_isShortChar_28 rfl (by decide) ?_
        cases hf
        exact g_zret d_V_isShortChar_29 rfl am_z0 (Nat.zero_le _) (Nat.zero_le _)
      · have hf := ob_neg q3 hf
        refine g_iconst (n := 25) (v := 1) d_V_isShortChar_24 rfl (by decide) ?_
        refine g_goto (n := 29) d_V_isShortChar_25 (by decide) ?_
        cases hf
        exact g_zret d_V_isShortChar_29 rfl am_z1 (Nat.zero_le _) (Nat.zero_le _)
  · have hf := ob_neg q1 hf
    refine g_iload_n (n := 7) d_V_isShortChar_6 rfl 0 rfl rfl ?_
    refine g_bipush (n := 9) (v := 90) d_V_isShortChar_7 rfl (by decide) ?_
    refine g_icmp_le (n := 12) (tgt := 24) d_V_isShortChar_9 rfl (by decide) (fun q4 => ?_) (fun q4 => ?_)
    · have hf := ob_pos q4 hf
      refine g_iconst (n := 25) (v := 1) d_V_isShortChar_24 rfl (by decide) ?_
      refine g_goto (n := 29) d_V_isShortChar_25 (by decide) ?_
      cases hf
      exact g_zret d_V_isShortChar_29 rfl am_z1 (Nat.zero_le _) (Nat.zero_le _)
    · have hf := ob_neg q4 hf
      refine g_iload_n (n := 13) d_V_isShortChar_12 rfl 0 rfl rfl ?_
      refine g_bipush (n := 15) (v := 48) d_V_isShortChar_13 rfl (by decide) ?_
      refine g_icmp_lt (n := 18) (tgt := 28) d_V_isShortChar_15 rfl (by decide) (fun q5 => ?_) (fun q5 => ?_)
      · have hf := ob_pos q5 hf
        refine g_iconst (n := 29) (v := 0) d_V_isShortChar_28 rfl (by decide) ?_
        cases hf
        exact g_zret d_V_isShortChar_29 rfl am_z0 (Nat.zero_le _) (Nat.zero_le _)
      · have hf := ob_neg q5 hf
        refine g_iload_n (n := 19) d_V_isShortChar_18 rfl 0 rfl rfl ?_
        refine g_bipush (n := 21) (v := 57) d_V_isShortChar_19 rfl (by decide) ?_
        refine g_icmp_gt (n := 24) (tgt := 28) d_V_isShortChar_21 rfl (by decide) (fun q6 => ?_) (fun q6 => ?_)
        · have hf := ob_pos q6 hf
          refine g_iconst (n := 29) (v := 0) d_V_isShortChar_28 rfl (by decide) ?_
          cases hf
          exact g_zret d_V_isShortChar_29 rfl am_z0 (Nat.zero_le _) (Nat.zero_le _)
        · have hf := ob_neg q6 hf
          refine g_iconst (n := 25) (v := 1) d_V_isShortChar_24 rfl (by decide) ?_
          refine g_goto (n := 29) d_V_isShortChar_25 (by decide) ?_
          cases hf
          exact g_zret d_V_isShortChar_29 rfl am_z1 (Nat.zero_le _) (Nat.zero_le _)
def f_Name_isShort_L2 : Nat → Int32 → (Nat → Int32) → Int32 → Option (Int32)
  | 0, _, _, _ => none
  | fuel + 1, ln, tx, x1 =>
  (if ln ≤ x1 then (if 6 < ln then some 0 else some 1) else ((f_Name_charAt ln tx x1).bind fun r3 => ((f_V_isShortChar r3).bind fun r5 => (if r5 = 0 then some 0 else f_Name_isShort_L2 fuel ln tx (x1 + 1)))))
set_option maxHeartbeats 4000000 in
set_option maxRecDepth 100000 in
theorem s_Name_isShort_L2 {l : Launch} {D : va_G} {dA : FieldType → ClassId} (htr : l.stackTraces = false) {rest : List am_E} {ll : Int32} {he : Int32} {de : Int32} {li : Nat → Int32} {en : Nat → Int32} {po : Nat → Int32} {pw : Int32} {su : Int32} {wr : Int32} {cs : Int32} {wb : Int32} {bt : Nat → Int32} {ct : Int32} {lc : Int32} {ad : Nat → Int32} {ctb : Int32} {lcb : Int32} {adb : Nat → Int32} {fx : Int32} {us : Nat → Int32} {pt : Int32} {br : Nat → Int32} {rw : Nat → Int32}  : ∀ (fuel : Nat) (ln : Int32) (tx : Nat → Int32) (x1 : Int32) (r : Int32), f_Name_isShort_L2 fuel ln tx x1 = some r → ∀ o : am_O, .inl (some (.int r)) = o →
    am_G (am_kk l D dA) (ws_Name_isShort, y_Name_isShort.cls, prog_4_method_5_code, 2, (some .boolean), y_Name_isShort.name, [], am_rm 1 (o), none) o (hC ll he de li en po pw su wr cs wb bt ct lc ad ctb lcb adb fx us ln pt tx br rw rest) 0 0 2 [(0, .ref 14), (1, .int x1)] [] (hC ll he de li en po pw su wr cs wb bt ct lc ad ctb lcb adb fx us ln pt tx br rw rest) := by
  intro fuel
  induction fuel with
  | zero =>
    intro ln tx x1 r hf
    cases hf
  | succ fuel ih =>
    intro ln tx x1 r hf o ho
    subst ho
    rw [f_Name_isShort_L2] at hf
    refine g_iload_n (n := 3) d_Name_isShort_2 rfl 1 rfl rfl ?_
    refine g_aload_n (n := 4) d_Name_isShort_3 rfl 0 rfl rfl ?_
    refine g_get (n := 7) (q0 := 14) d_Name_isShort_4 rfl (am_fl in_Name rfl (by decide : 2 < 4)) (List.mem_cons_of_mem _ tw_159) rfl rfl ?_
    refine g_icmp_ge (n := 10) (tgt := 29) d_Name_isShort_7 rfl (by decide) (fun q1 => ?_) (fun q1 => ?_)
    · have hf := ob_pos q1 hf
      refine g_aload_n (n := 30) d_Name_isShort_29 rfl 0 rfl rfl ?_
      refine g_get (n := 33) (q0 := 14) d_Name_isShort_30 rfl (am_fl in_Name rfl (by decide : 2 < 4)) (List.mem_cons_of_mem _ tw_159) rfl rfl ?_
      refine g_bipush (n := 35) (v := 6) d_Name_isShort_33 rfl (by decide) ?_
      refine g_icmp_gt (n := 38) (tgt := 42) d_Name_isShort_35 rfl (by decide) (fun q2 => ?_) (fun q2 => ?_)
      · have hf := ob_pos q2 hf
        refine g_iconst (n := 43) (v := 0) d_Name_isShort_42 rfl (by decide) ?_
        cases hf
        exact g_zret d_Name_isShort_43 rfl am_z0 (Nat.zero_le _) (Nat.zero_le _)
      · have hf := ob_neg q2 hf
        refine g_iconst (n := 39) (v := 1) d_Name_isShort_38 rfl (by decide) ?_
        refine g_goto (n := 43) d_Name_isShort_39 (by decide) ?_
        cases hf
        exact g_zret d_Name_isShort_43 rfl am_z1 (Nat.zero_le _) (Nat.zero_le _)
    · have hf := ob_neg q1 hf
      refine g_aload_n (n := 11) d_Name_isShort_10 rfl 0 rfl rfl ?_
      refine g_iload_n (n := 12) d_Name_isShort_11 rfl 1 rfl rfl ?_
      obtain ⟨r3, h4, hf⟩ := ob_bind hf
      refine c_Vr (n := 15) (st' := [.int r3]) [.int x1] [] d_Name_isShort_12 rfl (s_Name_charAt htr h4 rfl) tw_387 tw_388 tw_389 tw_7 tw_390 hd_Name_charAt (by omega) (by decide) (ci := 2) rfl rfl rfl (Nat.le_of_ble_eq_true rfl) rfl rfl ?_
      obtain ⟨r5, h6, hf⟩ := ob_bind hf
      refine c_SNr (n := 18) (st' := [.int r5]) [.int r3] [] d_Name_isShort_15 rfl (s_V_isShortChar htr h6 rfl) nw_489 tw_490 tw_1 tw_491 hd_V_isShortChar (by omega) (by decide) rfl (Nat.le_of_ble_eq_true rfl) rfl rfl ?_
      refine g_if_ne (n := 21) (tgt := 23) d_Name_isShort_18 rfl (by decide) (fun q7 => ?_) (fun q7 => ?_)
      · have hf := ob_neg q7 hf
        refine g_iinc (n := 26) (v := (x1 + 1)) (ls' := [(1, .int (x1 + 1)), (0, .ref 14)]) d_Name_isShort_23 rfl 1 rfl rfl (am_ltb rfl) rfl ?_
        refine g_goto (n := 2) d_Name_isShort_26 (by decide) ?_
        refine g_ls [1, 0] rfl ?_
        exact ih ln tx (x1 + 1) _ hf _ rfl
      · have hf := ob_pos q7 hf
        refine g_iconst (n := 22) (v := 0) d_Name_isShort_21 rfl (by decide) ?_
        cases hf
        exact g_zret d_Name_isShort_22 rfl am_z0 (Nat.zero_le _) (Nat.zero_le _)
def f_Name_isShort (ln : Int32) (tx : Nat → Int32) : Option (Int32) :=
  f_Name_isShort_L2 100000000000 ln tx 0
set_option maxHeartbeats 4000000 in
set_option maxRecDepth 100000 in
theorem s_Name_isShort {l : Launch} {D : va_G} {dA : FieldType → ClassId} (htr : l.stackTraces = false) {rest : List am_E} {ll : Int32} {he : Int32} {de : Int32} {li : Nat → Int32} {en : Nat → Int32} {po : Nat → Int32} {pw : Int32} {su : Int32} {wr : Int32} {cs : Int32} {wb : Int32} {bt : Nat → Int32} {ct : Int32} {lc : Int32} {ad : Nat → Int32} {ctb : Int32} {lcb : Int32} {adb : Nat → Int32} {fx : Int32} {us : Nat → Int32} {ln : Int32} {pt : Int32} {tx : Nat → Int32} {br : Nat → Int32} {rw : Nat → Int32}   {r : Int32} (hf : f_Name_isShort ln tx = some r) {o : am_O} (ho : .inl (some (.int r)) = o) :
    am_M (am_kk l D dA) y_Name_isShort ws_Name_isShort (am_rm 1 o) [.ref 14] (hC ll he de li en po pw su wr cs wb bt ct lc ad ctb lcb adb fx us ln pt tx br rw rest) o (hC ll he de li en po pw su wr cs wb bt ct lc ad ctb lcb adb fx us ln pt tx br rw rest) := by
  subst ho
  refine am_body (by decide) rfl (Nat.le_of_ble_eq_true rfl) rfl ?_
  rw [f_Name_isShort] at hf
  refine g_iconst (n := 1) (v := 0) d_Name_isShort_0 rfl (by decide) ?_
  refine g_istore_n (n := 2) (ls' := [(1, .int 0), (0, .ref 14)]) d_Name_isShort_1 rfl rfl (am_ltb rfl) rfl ?_
  refine g_ls [1, 0] rfl ?_
  exact s_Name_isShort_L2 htr 100000000000 ln tx 0 _ hf _ rfl
def f_Name_copyCapitals_L4 : Nat → Int32 → (Nat → Int32) → (Nat → Int32) → Int32 → Int32 → Int32 → Option (Int32 × (Nat → Int32))
  | 0, _, _, _, _, _, _ => none
  | fuel + 1, ln, tx, br, x1, x2, x3 =>
  (if ln ≤ x3 then some (x2, br) else (if x1 ≤ x2 then some (x2, br) else (if 6 ≤ x2 then some (x2, br) else ((f_Name_charAt ln tx x3).bind fun r4 => ((f_V_capital r4).bind fun r6 => ((f_V_isShortChar r6).bind fun r8 => (if r8 = 0 then f_Name_copyCapitals_L4 fuel ln tx br x1 x2 (x3 + 1) else (if am_in x2 6 = true then f_Name_copyCapitals_L4 fuel ln tx (upd br x2.toNatClampNeg r6) x1 (x2 + 1) (x3 + 1) else none))))))))
set_option maxHeartbeats 4000000 in
set_option maxRecDepth 100000 in
theorem s_Name_copyCapitals_L4 {l : Launch} {D : va_G} {dA : FieldType → ClassId} (htr : l.stackTraces = false) {rest : List am_E} {ll : Int32} {he : Int32} {de : Int32} {li : Nat → Int32} {en : Nat → Int32} {po : Nat → Int32} {pw : Int32} {su : Int32} {wr : Int32} {cs : Int32} {wb : Int32} {bt : Nat → Int32} {ct : Int32} {lc : Int32} {ad : Nat → Int32} {ctb : Int32} {lcb : Int32} {adb : Nat → Int32} {fx : Int32} {us : Nat → Int32} {pt : Int32} {rw : Nat → Int32}  : ∀ (fuel : Nat) (ln : Int32) (tx : Nat → Int32) (br : Nat → Int32) (x1 : Int32) (x2 : Int32) (x3 : Int32) (r : Int32 × (Nat → Int32)), f_Name_copyCapitals_L4 fuel ln tx br x1 x2 x3 = some r → ∀ o : am_O, .inl (some (.int r.1)) = o →
    am_G (am_kk l D dA) (ws_Name_copyCapitals, y_Name_copyCapitals.cls, prog_4_method_7_code, 5, (some .int), y_Name_copyCapitals.name, [], am_rm 1 (o), none) o (hC ll he de li en po pw su wr cs wb bt ct lc ad ctb lcb adb fx us ln pt tx r.2 rw rest) 0 0 4 [(0, .ref 14), (1, .int x1), (2, .int x2), (3, .int x3)] [] (hC ll he de li en po pw su wr cs wb bt ct lc ad ctb lcb adb fx us ln pt tx br rw rest) := by
  intro fuel
  induction fuel with
  | zero =>
    intro ln tx br x1 x2 x3 r hf
    cases hf
  | succ fuel ih =>
    intro ln tx br x1 x2 x3 r hf o ho
    subst ho
    rw [f_Name_copyCapitals_L4] at hf
    refine g_iload_n (n := 5) d_Name_copyCapitals_4 rfl 3 rfl rfl ?_
    refine g_aload_n (n := 6) d_Name_copyCapitals_5 rfl 0 rfl rfl ?_
    refine g_get (n := 9) (q0 := 14) d_Name_copyCapitals_6 rfl (am_fl in_Name rfl (by decide : 2 < 4)) (List.mem_cons_of_mem _ tw_159) rfl rfl ?_
    refine g_icmp_ge (n := 12) (tgt := 58) d_Name_copyCapitals_9 rfl (by decide) (fun q1 => ?_) (fun q1 => ?_)
    · have hf := ob_pos q1 hf
      refine g_iload_n (n := 59) d_Name_copyCapitals_58 rfl 2 rfl rfl ?_
      cases hf
      exact g_iret d_Name_copyCapitals_59 rfl (Nat.zero_le _) (Nat.zero_le _)
    · have hf := ob_neg q1 hf
      refine g_iload_n (n := 13) d_Name_copyCapitals_12 rfl 2 rfl rfl ?_
      refine g_iload_n (n := 14) d_Name_copyCapitals_13 rfl 1 rfl rfl ?_
      refine g_icmp_ge (n := 17) (tgt := 58) d_Name_copyCapitals_14 rfl (by decide) (fun q2 => ?_) (fun q2 => ?_)
      · have hf := ob_pos q2 hf
        refine g_iload_n (n := 59) d_Name_copyCapitals_58 rfl 2 rfl rfl ?_
        cases hf
        exact g_iret d_Name_copyCapitals_59 rfl (Nat.zero_le _) (Nat.zero_le _)
      · have hf := ob_neg q2 hf
        refine g_iload_n (n := 18) d_Name_copyCapitals_17 rfl 2 rfl rfl ?_
        refine g_bipush (n := 20) (v := 6) d_Name_copyCapitals_18 rfl (by decide) ?_
        refine g_icmp_ge (n := 23) (tgt := 58) d_Name_copyCapitals_20 rfl (by decide) (fun q3 => ?_) (fun q3 => ?_)
        · have hf := ob_pos q3 hf
          refine g_iload_n (n := 59) d_Name_copyCapitals_58 rfl 2 rfl rfl ?_
          cases hf
          exact g_iret d_Name_copyCapitals_59 rfl (Nat.zero_le _) (Nat.zero_le _)
        · have hf := ob_neg q3 hf
          refine g_aload_n (n := 24) d_Name_copyCapitals_23 rfl 0 rfl rfl ?_
          refine g_iload_n (n := 25) d_Name_copyCapitals_24 rfl 3 rfl rfl ?_
          obtain ⟨r4, h5, hf⟩ := ob_bind hf
          refine c_Vr (n := 28) (st' := [.int r4]) [.int x3] [] d_Name_copyCapitals_25 rfl (s_Name_charAt htr h5 rfl) tw_387 tw_388 tw_389 tw_7 tw_390 hd_Name_charAt (by omega) (by decide) (ci := 2) rfl rfl rfl (Nat.le_of_ble_eq_true rfl) rfl rfl ?_
          obtain ⟨r6, h7, hf⟩ := ob_bind hf
          refine c_SNr (n := 31) (st' := [.int r6]) [.int r4] [] d_Name_copyCapitals_28 rfl (s_V_capital htr h7 rfl) nw_496 tw_448 tw_1 tw_449 hd_V_capital (by omega) (by decide) rfl (Nat.le_of_ble_eq_true rfl) rfl rfl ?_
          refine g_istore (n := 33) (ls' := [(4, .int r6), (0, .ref 14), (1, .int x1), (2, .int x2), (3, .int x3)]) d_Name_copyCapitals_31 rfl (am_ltb rfl) rfl ?_
          refine g_iload (n := 35) d_Name_copyCapitals_33 rfl 0 rfl ?_
          obtain ⟨r8, h9, hf⟩ := ob_bind hf
          refine c_SNr (n := 38) (st' := [.int r8]) [.int r6] [] d_Name_copyCapitals_35 rfl (s_V_isShortChar htr h9 rfl) nw_489 tw_490 tw_1 tw_491 hd_V_isShortChar (by omega) (by decide) rfl (Nat.le_of_ble_eq_true rfl) rfl rfl ?_
          refine g_if_eq (n := 41) (tgt := 52) d_Name_copyCapitals_38 rfl (by decide) (fun q10 => ?_) (fun q10 => ?_)
          · have hf := ob_pos q10 hf
            refine g_iinc (n := 55) (v := (x3 + 1)) (ls' := [(3, .int (x3 + 1)), (4, .int r6), (0, .ref 14), (1, .int x1), (2, .int x2)]) d_Name_copyCapitals_52 rfl 4 rfl rfl (am_ltb rfl) rfl ?_
            refine g_goto (n := 4) d_Name_copyCapitals_55 (by decide) ?_
            refine g_ls [2, 3, 4, 0] rfl ?_
            exact ih ln tx br x1 x2 (x3 + 1) _ hf _ rfl
          · have hf := ob_neg q10 hf
            refine g_aload_n (n := 42) d_Name_copyCapitals_41 rfl 1 rfl rfl ?_
            refine g_get (n := 45) (q0 := 14) d_Name_copyCapitals_42 rfl (am_fl in_Name rfl (by decide : 1 < 4)) (List.mem_cons_of_mem _ tw_158) rfl rfl ?_
            refine g_iload_n (n := 46) d_Name_copyCapitals_45 rfl 3 rfl rfl ?_
            refine g_iload (n := 48) d_Name_copyCapitals_46 rfl 0 rfl ?_
            obtain ⟨b11, hf⟩ := ob_chk hf
            refine g_iast (n := 49) (q0 := 16) (h' := (hC ll he de li en po pw su wr cs wb bt ct lc ad ctb lcb adb fx us ln pt tx (upd br x2.toNatClampNeg r6) rw rest)) d_Name_copyCapitals_48 rfl rfl (am_inl b11) rfl ?_
            refine g_iinc (n := 52) (v := (x2 + 1)) (ls' := [(2, .int (x2 + 1)), (4, .int r6), (0, .ref 14), (1, .int x1), (3, .int x3)]) d_Name_copyCapitals_49 rfl 3 rfl rfl (am_ltb rfl) rfl ?_
            refine g_iinc (n := 55) (v := (x3 + 1)) (ls' := [(3, .int (x3 + 1)), (2, .int (x2 + 1)), (4, .int r6), (0, .ref 14), (1, .int x1)]) d_Name_copyCapitals_52 rfl 4 rfl rfl (am_ltb rfl) rfl ?_
            refine g_goto (n := 4) d_Name_copyCapitals_55 (by decide) ?_
            refine g_ls [3, 4, 1, 0] rfl ?_
            exact ih ln tx (upd br x2.toNatClampNeg r6) x1 (x2 + 1) (x3 + 1) _ hf _ rfl
def f_Name_copyCapitals (ln : Int32) (tx : Nat → Int32) (br : Nat → Int32) (x1 : Int32) : Option (Int32 × (Nat → Int32)) :=
  f_Name_copyCapitals_L4 100000000000 ln tx br x1 0 0
set_option maxHeartbeats 4000000 in
set_option maxRecDepth 100000 in
theorem s_Name_copyCapitals {l : Launch} {D : va_G} {dA : FieldType → ClassId} (htr : l.stackTraces = false) {rest : List am_E} {ll : Int32} {he : Int32} {de : Int32} {li : Nat → Int32} {en : Nat → Int32} {po : Nat → Int32} {pw : Int32} {su : Int32} {wr : Int32} {cs : Int32} {wb : Int32} {bt : Nat → Int32} {ct : Int32} {lc : Int32} {ad : Nat → Int32} {ctb : Int32} {lcb : Int32} {adb : Nat → Int32} {fx : Int32} {us : Nat → Int32} {ln : Int32} {pt : Int32} {tx : Nat → Int32} {br : Nat → Int32} {rw : Nat → Int32}  {x1 : Int32} {r : Int32 × (Nat → Int32)} (hf : f_Name_copyCapitals ln tx br x1 = some r) {o : am_O} (ho : .inl (some (.int r.1)) = o) :
    am_M (am_kk l D dA) y_Name_copyCapitals ws_Name_copyCapitals (am_rm 1 o) [.ref 14, .int x1] (hC ll he de li en po pw su wr cs wb bt ct lc ad ctb lcb adb fx us ln pt tx br rw rest) o (hC ll he de li en po pw su wr cs wb bt ct lc ad ctb lcb adb fx us ln pt tx r.2 rw rest) := by
  subst ho
  refine am_body (by decide) rfl (Nat.le_of_ble_eq_true rfl) rfl ?_
  rw [f_Name_copyCapitals] at hf
  refine g_iconst (n := 1) (v := 0) d_Name_copyCapitals_0 rfl (by decide) ?_
  refine g_istore_n (n := 2) (ls' := [(2, .int 0), (0, .ref 14), (1, .int x1)]) d_Name_copyCapitals_1 rfl rfl (am_ltb rfl) rfl ?_
  refine g_iconst (n := 3) (v := 0) d_Name_copyCapitals_2 rfl (by decide) ?_
  refine g_istore_n (n := 4) (ls' := [(3, .int 0), (2, .int 0), (0, .ref 14), (1, .int x1)]) d_Name_copyCapitals_3 rfl rfl (am_ltb rfl) rfl ?_
  refine g_ls [2, 3, 1, 0] rfl ?_
  exact s_Name_copyCapitals_L4 htr 100000000000 ln tx br x1 0 0 _ hf _ rfl
def f_Folder_isShort_L14 : Nat → (Nat → Int32) → Int32 → (Nat → Int32) → (Nat → Int32) → Int32 → Int32 → Int32 → Option (Int32)
  | 0, _, _, _, _, _, _, _ => none
  | fuel + 1, bt, ct, ad, br, x1, x3, x4 =>
  (if x3 ≤ x4 then some 1 else (if 6 ≤ x4 then some 1 else ((f_Folder_byteOf bt ct ad x1 x4).bind fun r6 => ((f_V_capital r6).bind fun r8 => (if am_in x4 6 = true then (if r8 = (br x4.toNatClampNeg) then f_Folder_isShort_L14 fuel bt ct ad br x1 x3 (x4 + 1) else some 0) else none)))))
set_option maxHeartbeats 4000000 in
set_option maxRecDepth 100000 in
theorem s_Folder_isShort_L14 {l : Launch} {D : va_G} {dA : FieldType → ClassId} (htr : l.stackTraces = false) {rest : List am_E} {ll : Int32} {he : Int32} {de : Int32} {li : Nat → Int32} {en : Nat → Int32} {po : Nat → Int32} {pw : Int32} {su : Int32} {wr : Int32} {cs : Int32} {wb : Int32} {lc : Int32} {ctb : Int32} {lcb : Int32} {adb : Nat → Int32} {fx : Int32} {us : Nat → Int32} {ln : Int32} {pt : Int32} {tx : Nat → Int32} {rw : Nat → Int32}  : ∀ (fuel : Nat) (bt : Nat → Int32) (ct : Int32) (ad : Nat → Int32) (br : Nat → Int32) (x1 : Int32) (x3 : Int32) (x4 : Int32) (r : Int32), f_Folder_isShort_L14 fuel bt ct ad br x1 x3 x4 = some r → ∀ o : am_O, .inl (some (.int r)) = o →
    am_G (am_kk l D dA) (ws_Folder_isShort, y_Folder_isShort.cls, prog_3_method_19_code, 5, (some .boolean), y_Folder_isShort.name, [], am_rm 3 (o), none) o (hC ll he de li en po pw su wr cs wb bt ct lc ad ctb lcb adb fx us ln pt tx br rw rest) 0 0 14 [(0, .ref 8), (1, .int x1), (2, .ref 16), (3, .int x3), (4, .int x4)] [] (hC ll he de li en po pw su wr cs wb bt ct lc ad ctb lcb adb fx us ln pt tx br rw rest) := by
  intro fuel
  induction fuel with
  | zero =>
    intro bt ct ad br x1 x3 x4 r hf
    cases hf
  | succ fuel ih =>
    intro bt ct ad br x1 x3 x4 r hf o ho
    subst ho
    rw [f_Folder_isShort_L14] at hf
    refine g_iload (n := 16) d_Folder_isShort_14 rfl 4 rfl ?_
    refine g_iload_n (n := 17) d_Folder_isShort_16 rfl 3 rfl rfl ?_
    refine g_icmp_ge (n := 20) (tgt := 52) d_Folder_isShort_17 rfl (by decide) (fun q4 => ?_) (fun q4 => ?_)
    · have hf := ob_pos q4 hf
      refine g_iconst (n := 53) (v := 1) d_Folder_isShort_52 rfl (by decide) ?_
      cases hf
      exact g_zret d_Folder_isShort_53 rfl am_z1 (Nat.zero_le _) (Nat.zero_le _)
    · have hf := ob_neg q4 hf
      refine g_iload (n := 22) d_Folder_isShort_20 rfl 4 rfl ?_
      refine g_aload_n (n := 23) d_Folder_isShort_22 rfl 2 rfl rfl ?_
      refine g_ialen (n := 24) (q0 := 16) (v := 6) d_Folder_isShort_23 rfl rfl (by decide) ?_
      refine g_icmp_ge (n := 27) (tgt := 52) d_Folder_isShort_24 rfl (by decide) (fun q5 => ?_) (fun q5 => ?_)
      · have hf := ob_pos q5 hf
        refine g_iconst (n := 53) (v := 1) d_Folder_isShort_52 rfl (by decide) ?_
        cases hf
        exact g_zret d_Folder_isShort_53 rfl am_z1 (Nat.zero_le _) (Nat.zero_le _)
      · have hf := ob_neg q5 hf
        refine g_aload_n (n := 28) d_Folder_isShort_27 rfl 0 rfl rfl ?_
        refine g_iload_n (n := 29) d_Folder_isShort_28 rfl 1 rfl rfl ?_
        refine g_iload (n := 31) d_Folder_isShort_29 rfl 4 rfl ?_
        obtain ⟨r6, h7, hf⟩ := ob_bind hf
        refine c_Vr (n := 34) (st' := [.int r6]) [.int x1, .int x4] [] d_Folder_isShort_31 rfl (s_Folder_byteOf htr h7 rfl) tw_426 tw_427 tw_428 tw_5 tw_429 hd_Folder_byteOf (by omega) (by decide) (ci := 1) rfl rfl rfl (Nat.le_of_ble_eq_true rfl) rfl rfl ?_
        obtain ⟨r8, h9, hf⟩ := ob_bind hf
        refine c_SNr (n := 37) (st' := [.int r8]) [.int r6] [] d_Folder_isShort_34 rfl (s_V_capital htr h9 rfl) nw_447 tw_448 tw_1 tw_449 hd_V_capital (by omega) (by decide) rfl (Nat.le_of_ble_eq_true rfl) rfl rfl ?_
        refine g_aload_n (n := 38) d_Folder_isShort_37 rfl 2 rfl rfl ?_
        refine g_iload (n := 40) d_Folder_isShort_38 rfl 4 rfl ?_
        obtain ⟨b10, hf⟩ := ob_chk hf
        refine g_iald (n := 41) (q0 := 16) d_Folder_isShort_40 rfl rfl (am_inl b10) ?_
        refine g_icmp_eq (n := 44) (tgt := 46) d_Folder_isShort_41 rfl (by decide) (fun q11 => ?_) (fun q11 => ?_)
        · have hf := ob_pos q11 hf
          refine g_iinc (n := 49) (v := (x4 + 1)) (ls' := [(4, .int (x4 + 1)), (0, .ref 8), (1, .int x1), (2, .ref 16), (3, .int x3)]) d_Folder_isShort_46 rfl 4 rfl rfl (am_ltb rfl) rfl ?_
          refine g_goto (n := 14) d_Folder_isShort_49 (by decide) ?_
          refine g_ls [1, 2, 3, 4, 0] rfl ?_
          exact ih bt ct ad br x1 x3 (x4 + 1) _ hf _ rfl
        · have hf := ob_neg q11 hf
          refine g_iconst (n := 45) (v := 0) d_Folder_isShort_44 rfl (by decide) ?_
          cases hf
          exact g_zret d_Folder_isShort_45 rfl am_z0 (Nat.zero_le _) (Nat.zero_le _)
def f_Folder_isShort (bt : Nat → Int32) (ct : Int32) (ad : Nat → Int32) (br : Nat → Int32) (x1 : Int32) (x3 : Int32) : Option (Int32) :=
  ((f_Folder_shortLengthOf bt ct ad x1).bind fun r1 => (if r1 = x3 then f_Folder_isShort_L14 100000000000 bt ct ad br x1 x3 0 else some 0))
set_option maxHeartbeats 4000000 in
set_option maxRecDepth 100000 in
theorem s_Folder_isShort {l : Launch} {D : va_G} {dA : FieldType → ClassId} (htr : l.stackTraces = false) {rest : List am_E} {ll : Int32} {he : Int32} {de : Int32} {li : Nat → Int32} {en : Nat → Int32} {po : Nat → Int32} {pw : Int32} {su : Int32} {wr : Int32} {cs : Int32} {wb : Int32} {bt : Nat → Int32} {ct : Int32} {lc : Int32} {ad : Nat → Int32} {ctb : Int32} {lcb : Int32} {adb : Nat → Int32} {fx : Int32} {us : Nat → Int32} {ln : Int32} {pt : Int32} {tx : Nat → Int32} {br : Nat → Int32} {rw : Nat → Int32}  {x1 : Int32} {x3 : Int32} {r : Int32} (hf : f_Folder_isShort bt ct ad br x1 x3 = some r) {o : am_O} (ho : .inl (some (.int r)) = o) :
    am_M (am_kk l D dA) y_Folder_isShort ws_Folder_isShort (am_rm 3 o) [.ref 8, .int x1, .ref 16, .int x3] (hC ll he de li en po pw su wr cs wb bt ct lc ad ctb lcb adb fx us ln pt tx br rw rest) o (hC ll he de li en po pw su wr cs wb bt ct lc ad ctb lcb adb fx us ln pt tx br rw rest) := by
  subst ho
  refine am_body (by decide) rfl (Nat.le_of_ble_eq_true rfl) rfl ?_
  rw [f_Folder_isShort] at hf
  refine g_aload_n (n := 1) d_Folder_isShort_0 rfl 0 rfl rfl ?_
  refine g_iload_n (n := 2) d_Folder_isShort_1 rfl 1 rfl rfl ?_
  obtain ⟨r1, h2, hf⟩ := ob_bind hf
  refine c_Vr (n := 5) (st' := [.int r1]) [.int x1] [] d_Folder_isShort_2 rfl (s_Folder_shortLengthOf htr h2 rfl) tw_443 tw_444 tw_445 tw_5 tw_446 hd_Folder_shortLengthOf (by omega) (by decide) (ci := 1) rfl rfl rfl (Nat.le_of_ble_eq_true rfl) rfl rfl ?_
  refine g_iload_n (n := 6) d_Folder_isShort_5 rfl 3 rfl rfl ?_
  refine g_icmp_eq (n := 9) (tgt := 11) d_Folder_isShort_6 rfl (by decide) (fun q3 => ?_) (fun q3 => ?_)
  · have hf := ob_pos q3 hf
    refine g_iconst (n := 12) (v := 0) d_Folder_isShort_11 rfl (by decide) ?_
    refine g_istore (n := 14) (ls' := [(4, .int 0), (0, .ref 8), (1, .int x1), (2, .ref 16), (3, .int x3)]) d_Folder_isShort_12 rfl (am_ltb rfl) rfl ?_
    refine g_ls [1, 2, 3, 4, 0] rfl ?_
    exact s_Folder_isShort_L14 htr 100000000000 bt ct ad br x1 x3 0 _ hf _ rfl
  · have hf := ob_neg q3 hf
    refine g_iconst (n := 10) (v := 0) d_Folder_isShort_9 rfl (by decide) ?_
    cases hf
    exact g_zret d_Folder_isShort_10 rfl am_z0 (Nat.zero_le _) (Nat.zero_le _)
def f_Folder_hasShort_L2 : Nat → (Nat → Int32) → Int32 → (Nat → Int32) → (Nat → Int32) → Int32 → Int32 → Option (Int32)
  | 0, _, _, _, _, _, _ => none
  | fuel + 1, bt, ct, ad, br, x2, x3 =>
  (if ct ≤ x3 then some 0 else ((f_Folder_isNamed bt ct ad x3).bind fun r2 => (if r2 = 0 then f_Folder_hasShort_L2 fuel bt ct ad br x2 (x3 + 1) else ((f_Folder_isShort bt ct ad br x3 x2).bind fun r5 => (if r5 = 0 then f_Folder_hasShort_L2 fuel bt ct ad br x2 (x3 + 1) else some 1)))))
set_option maxHeartbeats 4000000 in
set_option maxRecDepth 100000 in
theorem s_Folder_hasShort_L2 {l : Launch} {D : va_G} {dA : FieldType → ClassId} (htr : l.stackTraces = false) {rest : List am_E} {ll : Int32} {he : Int32} {de : Int32} {li : Nat → Int32} {en : Nat → Int32} {po : Nat → Int32} {pw : Int32} {su : Int32} {wr : Int32} {cs : Int32} {wb : Int32} {lc : Int32} {ctb : Int32} {lcb : Int32} {adb : Nat → Int32} {fx : Int32} {us : Nat → Int32} {ln : Int32} {pt : Int32} {tx : Nat → Int32} {rw : Nat → Int32}  : ∀ (fuel : Nat) (bt : Nat → Int32) (ct : Int32) (ad : Nat → Int32) (br : Nat → Int32) (x2 : Int32) (x3 : Int32) (r : Int32), f_Folder_hasShort_L2 fuel bt ct ad br x2 x3 = some r → ∀ o : am_O, .inl (some (.int r)) = o →
    am_G (am_kk l D dA) (ws_Folder_hasShort, y_Folder_hasShort.cls, prog_3_method_18_code, 4, (some .boolean), y_Folder_hasShort.name, [], am_rm 4 (o), none) o (hC ll he de li en po pw su wr cs wb bt ct lc ad ctb lcb adb fx us ln pt tx br rw rest) 0 0 2 [(0, .ref 8), (1, .ref 16), (2, .int x2), (3, .int x3)] [] (hC ll he de li en po pw su wr cs wb bt ct lc ad ctb lcb adb fx us ln pt tx br rw rest) := by
  intro fuel
  induction fuel with
  | zero =>
    intro bt ct ad br x2 x3 r hf
    cases hf
  | succ fuel ih =>
    intro bt ct ad br x2 x3 r hf o ho
    subst ho
    rw [f_Folder_hasShort_L2] at hf
    refine g_iload_n (n := 3) d_Folder_hasShort_2 rfl 3 rfl rfl ?_
    refine g_aload_n (n := 4) d_Folder_hasShort_3 rfl 0 rfl rfl ?_
    refine g_get (n := 7) (q0 := 8) d_Folder_hasShort_4 rfl (am_fl in_Folder rfl (by decide : 3 < 5)) (List.mem_cons_of_mem _ tw_112) rfl rfl ?_
    refine g_icmp_ge (n := 10) (tgt := 36) d_Folder_hasShort_7 rfl (by decide) (fun q1 => ?_) (fun q1 => ?_)
    · have hf := ob_pos q1 hf
      refine g_iconst (n := 37) (v := 0) d_Folder_hasShort_36 rfl (by decide) ?_
      cases hf
      exact g_zret d_Folder_hasShort_37 rfl am_z0 (Nat.zero_le _) (Nat.zero_le _)
    · have hf := ob_neg q1 hf
      refine g_aload_n (n := 11) d_Folder_hasShort_10 rfl 0 rfl rfl ?_
      refine g_iload_n (n := 12) d_Folder_hasShort_11 rfl 3 rfl rfl ?_
      obtain ⟨r2, h3, hf⟩ := ob_bind hf
      refine c_Vr (n := 15) (st' := [.int r2]) [.int x3] [] d_Folder_hasShort_12 rfl (s_Folder_isNamed htr h3 rfl) tw_431 tw_432 tw_433 tw_5 tw_434 hd_Folder_isNamed (by omega) (by decide) (ci := 1) rfl rfl rfl (Nat.le_of_ble_eq_true rfl) rfl rfl ?_
      refine g_if_eq (n := 18) (tgt := 30) d_Folder_hasShort_15 rfl (by decide) (fun q4 => ?_) (fun q4 => ?_)
      · have hf := ob_pos q4 hf
        refine g_iinc (n := 33) (v := (x3 + 1)) (ls' := [(3, .int (x3 + 1)), (0, .ref 8), (1, .ref 16), (2, .int x2)]) d_Folder_hasShort_30 rfl 3 rfl rfl (am_ltb rfl) rfl ?_
        refine g_goto (n := 2) d_Folder_hasShort_33 (by decide) ?_
        refine g_ls [1, 2, 3, 0] rfl ?_
        exact ih bt ct ad br x2 (x3 + 1) _ hf _ rfl
      · have hf := ob_neg q4 hf
        refine g_aload_n (n := 19) d_Folder_hasShort_18 rfl 0 rfl rfl ?_
        refine g_iload_n (n := 20) d_Folder_hasShort_19 rfl 3 rfl rfl ?_
        refine g_aload_n (n := 21) d_Folder_hasShort_20 rfl 1 rfl rfl ?_
        refine g_iload_n (n := 22) d_Folder_hasShort_21 rfl 2 rfl rfl ?_
        obtain ⟨r5, h6, hf⟩ := ob_bind hf
        refine c_Vr (n := 25) (st' := [.int r5]) [.int x3, .ref 16, .int x2] [] d_Folder_hasShort_22 rfl (s_Folder_isShort htr h6 rfl) tw_501 tw_502 tw_503 tw_5 tw_504 hd_Folder_isShort (by omega) (by decide) (ci := 1) rfl rfl rfl (Nat.le_of_ble_eq_true rfl) rfl rfl ?_
        refine g_if_eq (n := 28) (tgt := 30) d_Folder_hasShort_25 rfl (by decide) (fun q7 => ?_) (fun q7 => ?_)
        · have hf := ob_pos q7 hf
          refine g_iinc (n := 33) (v := (x3 + 1)) (ls' := [(3, .int (x3 + 1)), (0, .ref 8), (1, .ref 16), (2, .int x2)]) d_Folder_hasShort_30 rfl 3 rfl rfl (am_ltb rfl) rfl ?_
          refine g_goto (n := 2) d_Folder_hasShort_33 (by decide) ?_
          refine g_ls [1, 2, 3, 0] rfl ?_
          exact ih bt ct ad br x2 (x3 + 1) _ hf _ rfl
        · have hf := ob_neg q7 hf
          refine g_iconst (n := 29) (v := 1) d_Folder_hasShort_28 rfl (by decide) ?_
          cases hf
          exact g_zret d_Folder_hasShort_29 rfl am_z1 (Nat.zero_le _) (Nat.zero_le _)
def f_Folder_hasShort (bt : Nat → Int32) (ct : Int32) (ad : Nat → Int32) (br : Nat → Int32) (x2 : Int32) : Option (Int32) :=
  f_Folder_hasShort_L2 100000000000 bt ct ad br x2 0
set_option maxHeartbeats 4000000 in
set_option maxRecDepth 100000 in
theorem s_Folder_hasShort {l : Launch} {D : va_G} {dA : FieldType → ClassId} (htr : l.stackTraces = false) {rest : List am_E} {ll : Int32} {he : Int32} {de : Int32} {li : Nat → Int32} {en : Nat → Int32} {po : Nat → Int32} {pw : Int32} {su : Int32} {wr : Int32} {cs : Int32} {wb : Int32} {bt : Nat → Int32} {ct : Int32} {lc : Int32} {ad : Nat → Int32} {ctb : Int32} {lcb : Int32} {adb : Nat → Int32} {fx : Int32} {us : Nat → Int32} {ln : Int32} {pt : Int32} {tx : Nat → Int32} {br : Nat → Int32} {rw : Nat → Int32}  {x2 : Int32} {r : Int32} (hf : f_Folder_hasShort bt ct ad br x2 = some r) {o : am_O} (ho : .inl (some (.int r)) = o) :
    am_M (am_kk l D dA) y_Folder_hasShort ws_Folder_hasShort (am_rm 4 o) [.ref 8, .ref 16, .int x2] (hC ll he de li en po pw su wr cs wb bt ct lc ad ctb lcb adb fx us ln pt tx br rw rest) o (hC ll he de li en po pw su wr cs wb bt ct lc ad ctb lcb adb fx us ln pt tx br rw rest) := by
  subst ho
  refine am_body (by decide) rfl (Nat.le_of_ble_eq_true rfl) rfl ?_
  rw [f_Folder_hasShort] at hf
  refine g_iconst (n := 1) (v := 0) d_Folder_hasShort_0 rfl (by decide) ?_
  refine g_istore_n (n := 2) (ls' := [(3, .int 0), (0, .ref 8), (1, .ref 16), (2, .int x2)]) d_Folder_hasShort_1 rfl rfl (am_ltb rfl) rfl ?_
  refine g_ls [1, 2, 3, 0] rfl ?_
  exact s_Folder_hasShort_L2 htr 100000000000 bt ct ad br x2 0 _ hf _ rfl
def f_Name_chooseShort_L78 : Nat → (Nat → Int32) → Int32 → (Nat → Int32) → Int32 → Int32 → (Nat → Int32) → (Nat → Int32) → Int32 → Int32 → Option (Int32 × Int32 × (Nat → Int32))
  | 0, _, _, _, _, _, _, _, _, _ => none
  | fuel + 1, bt, ct, ad, ln, pt, tx, br, x2, x3 =>
  (if 57 < x3 then some (0, pt, br) else (if am_in (x2 + 1) 6 = true then ((f_Folder_hasShort bt ct ad (upd br (x2 + 1).toNatClampNeg x3) (x2 + 2)).bind fun r11 => (if r11 = 0 then some (1, pt, (upd br (x2 + 1).toNatClampNeg x3)) else f_Name_chooseShort_L78 fuel bt ct ad ln pt tx (upd br (x2 + 1).toNatClampNeg x3) x2 (x3 + 1))) else none))
set_option maxHeartbeats 4000000 in
set_option maxRecDepth 100000 in
theorem s_Name_chooseShort_L78 {l : Launch} {D : va_G} {dA : FieldType → ClassId} (htr : l.stackTraces = false) {rest : List am_E} {ll : Int32} {he : Int32} {de : Int32} {li : Nat → Int32} {en : Nat → Int32} {po : Nat → Int32} {pw : Int32} {su : Int32} {wr : Int32} {cs : Int32} {wb : Int32} {lc : Int32} {ctb : Int32} {lcb : Int32} {adb : Nat → Int32} {fx : Int32} {us : Nat → Int32} {rw : Nat → Int32}  : ∀ (fuel : Nat) (bt : Nat → Int32) (ct : Int32) (ad : Nat → Int32) (ln : Int32) (pt : Int32) (tx : Nat → Int32) (br : Nat → Int32) (x2 : Int32) (x3 : Int32) (r : Int32 × Int32 × (Nat → Int32)), f_Name_chooseShort_L78 fuel bt ct ad ln pt tx br x2 x3 = some r → ∀ o : am_O, .inl (some (.int r.1)) = o →
    am_G (am_kk l D dA) (ws_Name_chooseShort, y_Name_chooseShort.cls, prog_4_method_6_code, 4, (some .boolean), y_Name_chooseShort.name, [], am_rm 5 (o), none) o (hC ll he de li en po pw su wr cs wb bt ct lc ad ctb lcb adb fx us ln r.2.1 tx r.2.2 rw rest) 0 0 78 [(0, .ref 14), (1, .ref 8), (2, .int x2), (3, .int x3)] [] (hC ll he de li en po pw su wr cs wb bt ct lc ad ctb lcb adb fx us ln pt tx br rw rest) := by
  intro fuel
  induction fuel with
  | zero =>
    intro bt ct ad ln pt tx br x2 x3 r hf
    cases hf
  | succ fuel ih =>
    intro bt ct ad ln pt tx br x2 x3 r hf o ho
    subst ho
    rw [f_Name_chooseShort_L78] at hf
    refine g_iload_n (n := 79) d_Name_chooseShort_78 rfl 3 rfl rfl ?_
    refine g_bipush (n := 81) (v := 57) d_Name_chooseShort_79 rfl (by decide) ?_
    refine g_icmp_gt (n := 84) (tgt := 115) d_Name_chooseShort_81 rfl (by decide) (fun q9 => ?_) (fun q9 => ?_)
    · have hf := ob_pos q9 hf
      refine g_iconst (n := 116) (v := 0) d_Name_chooseShort_115 rfl (by decide) ?_
      cases hf
      exact g_zret d_Name_chooseShort_116 rfl am_z0 (Nat.zero_le _) (Nat.zero_le _)
    · have hf := ob_neg q9 hf
      refine g_aload_n (n := 85) d_Name_chooseShort_84 rfl 0 rfl rfl ?_
      refine g_get (n := 88) (q0 := 14) d_Name_chooseShort_85 rfl (am_fl in_Name rfl (by decide : 1 < 4)) (List.mem_cons_of_mem _ tw_158) rfl rfl ?_
      refine g_iload_n (n := 89) d_Name_chooseShort_88 rfl 2 rfl rfl ?_
      refine g_iconst (n := 90) (v := 1) d_Name_chooseShort_89 rfl (by decide) ?_
      refine g_iadd (n := 91) d_Name_chooseShort_90 rfl ?_
      refine g_iload_n (n := 92) d_Name_chooseShort_91 rfl 3 rfl rfl ?_
      obtain ⟨b10, hf⟩ := ob_chk hf
      refine g_iast (n := 93) (q0 := 16) (h' := (hC ll he de li en po pw su wr cs wb bt ct lc ad ctb lcb adb fx us ln pt tx (upd br (x2 + 1).toNatClampNeg x3) rw rest)) d_Name_chooseShort_92 rfl rfl (am_inl b10) rfl ?_
      refine g_aload_n (n := 94) d_Name_chooseShort_93 rfl 1 rfl rfl ?_
      refine g_aload_n (n := 95) d_Name_chooseShort_94 rfl 0 rfl rfl ?_
      refine g_get (n := 98) (q0 := 14) d_Name_chooseShort_95 rfl (am_fl in_Name rfl (by decide : 1 < 4)) (List.mem_cons_of_mem _ tw_158) rfl rfl ?_
      refine g_iload_n (n := 99) d_Name_chooseShort_98 rfl 2 rfl rfl ?_
      refine g_iconst (n := 100) (v := 2) d_Name_chooseShort_99 rfl (by decide) ?_
      refine g_iadd (n := 101) d_Name_chooseShort_100 rfl ?_
      obtain ⟨r11, h12, hf⟩ := ob_bind hf
      refine c_Vr (n := 104) (st' := [.int r11]) [.ref 16, .int (x2 + 2)] [] d_Name_chooseShort_101 rfl (s_Folder_hasShort htr h12 rfl) tw_497 tw_498 tw_499 tw_5 tw_500 hd_Folder_hasShort (by omega) (by decide) (ci := 1) rfl rfl rfl (Nat.le_of_ble_eq_true rfl) rfl rfl ?_
      refine g_if_ne (n := 107) (tgt := 109) d_Name_chooseShort_104 rfl (by decide) (fun q13 => ?_) (fun q13 => ?_)
      · have hf := ob_neg q13 hf
        refine g_iinc (n := 112) (v := (x3 + 1)) (ls' := [(3, .int (x3 + 1)), (0, .ref 14), (1, .ref 8), (2, .int x2)]) d_Name_chooseShort_109 rfl 3 rfl rfl (am_ltb rfl) rfl ?_
        refine g_goto (n := 78) d_Name_chooseShort_112 (by decide) ?_
        refine g_ls [1, 2, 3, 0] rfl ?_
        exact ih bt ct ad ln pt tx (upd br (x2 + 1).toNatClampNeg x3) x2 (x3 + 1) _ hf _ rfl
      · have hf := ob_pos q13 hf
        refine g_iconst (n := 108) (v := 1) d_Name_chooseShort_107 rfl (by decide) ?_
        cases hf
        exact g_zret d_Name_chooseShort_108 rfl am_z1 (Nat.zero_le _) (Nat.zero_le _)
def f_Name_chooseShort_L2 : Nat → (Nat → Int32) → Int32 → (Nat → Int32) → Int32 → Int32 → (Nat → Int32) → (Nat → Int32) → Int32 → Option (Int32 × Int32 × (Nat → Int32))
  | 0, _, _, _, _, _, _, _, _ => none
  | fuel + 1, bt, ct, ad, ln, pt, tx, br, x2 =>
  (if 6 ≤ x2 then ((f_Name_isShort ln tx).bind fun r2 => (if r2 = 0 then (if ln ≤ 13 then ((f_Name_copyCapitals ln tx br 4).bind fun r6 => (if am_in r6.1 6 = true then f_Name_chooseShort_L78 100000000000 bt ct ad ln 1 tx (upd r6.2 r6.1.toNatClampNeg 126) r6.1 49 else none)) else ((f_Name_copyCapitals ln tx br 4).bind fun r14 => (if am_in r14.1 6 = true then f_Name_chooseShort_L78 100000000000 bt ct ad ln 2 tx (upd r14.2 r14.1.toNatClampNeg 126) r14.1 49 else none))) else ((f_Name_copyCapitals ln tx br 6).bind fun r17 => some (1, 0, r17.2)))) else (if am_in x2 6 = true then f_Name_chooseShort_L2 fuel bt ct ad ln pt tx (upd br x2.toNatClampNeg 32) (x2 + 1) else none))
set_option maxHeartbeats 4000000 in
set_option maxRecDepth 100000 in
theorem s_Name_chooseShort_L2 {l : Launch} {D : va_G} {dA : FieldType → ClassId} (htr : l.stackTraces = false) {rest : List am_E} {ll : Int32} {he : Int32} {de : Int32} {li : Nat → Int32} {en : Nat → Int32} {po : Nat → Int32} {pw : Int32} {su : Int32} {wr : Int32} {cs : Int32} {wb : Int32} {lc : Int32} {ctb : Int32} {lcb : Int32} {adb : Nat → Int32} {fx : Int32} {us : Nat → Int32} {rw : Nat → Int32}  : ∀ (fuel : Nat) (bt : Nat → Int32) (ct : Int32) (ad : Nat → Int32) (ln : Int32) (pt : Int32) (tx : Nat → Int32) (br : Nat → Int32) (x2 : Int32) (r : Int32 × Int32 × (Nat → Int32)), f_Name_chooseShort_L2 fuel bt ct ad ln pt tx br x2 = some r → ∀ o : am_O, .inl (some (.int r.1)) = o →
    am_G (am_kk l D dA) (ws_Name_chooseShort, y_Name_chooseShort.cls, prog_4_method_6_code, 4, (some .boolean), y_Name_chooseShort.name, [], am_rm 5 (o), none) o (hC ll he de li en po pw su wr cs wb bt ct lc ad ctb lcb adb fx us ln r.2.1 tx r.2.2 rw rest) 0 0 2 [(0, .ref 14), (1, .ref 8), (2, .int x2)] [] (hC ll he de li en po pw su wr cs wb bt ct lc ad ctb lcb adb fx us ln pt tx br rw rest) := by
  intro fuel
  induction fuel with
  | zero =>
    intro bt ct ad ln pt tx br x2 r hf
    cases hf
  | succ fuel ih =>
    intro bt ct ad ln pt tx br x2 r hf o ho
    subst ho
    rw [f_Name_chooseShort_L2] at hf
    refine g_iload_n (n := 3) d_Name_chooseShort_2 rfl 2 rfl rfl ?_
    refine g_bipush (n := 5) (v := 6) d_Name_chooseShort_3 rfl (by decide) ?_
    refine g_icmp_ge (n := 8) (tgt := 22) d_Name_chooseShort_5 rfl (by decide) (fun q1 => ?_) (fun q1 => ?_)
    · have hf := ob_pos q1 hf
      refine g_aload_n (n := 23) d_Name_chooseShort_22 rfl 0 rfl rfl ?_
      obtain ⟨r2, h3, hf⟩ := ob_bind hf
      refine c_Vr (n := 26) (st' := [.int r2]) [] [] d_Name_chooseShort_23 rfl (s_Name_isShort htr h3 rfl) tw_485 tw_486 tw_487 tw_7 tw_488 hd_Name_isShort (by omega) (by decide) (ci := 2) rfl rfl rfl (Nat.le_of_ble_eq_true rfl) rfl rfl ?_
      refine g_if_eq (n := 29) (tgt := 43) d_Name_chooseShort_26 rfl (by decide) (fun q4 => ?_) (fun q4 => ?_)
      · have hf := ob_pos q4 hf
        refine g_aload_n (n := 44) d_Name_chooseShort_43 rfl 0 rfl rfl ?_
        refine g_aload_n (n := 45) d_Name_chooseShort_44 rfl 0 rfl rfl ?_
        refine g_get (n := 48) (q0 := 14) d_Name_chooseShort_45 rfl (am_fl in_Name rfl (by decide : 2 < 4)) (List.mem_cons_of_mem _ tw_159) rfl rfl ?_
        refine g_bipush (n := 50) (v := 13) d_Name_chooseShort_48 rfl (by decide) ?_
        refine g_icmp_le (n := 53) (tgt := 57) d_Name_chooseShort_50 rfl (by decide) (fun q5 => ?_) (fun q5 => ?_)
        · have hf := ob_pos q5 hf
          refine g_iconst (n := 58) (v := 1) d_Name_chooseShort_57 rfl (by decide) ?_
          refine g_put (n := 61) (q0 := 14) (h' := (hC ll he de li en po pw su wr cs wb bt ct lc ad ctb lcb adb fx us ln 1 tx br rw rest)) d_Name_chooseShort_58 rfl (am_fl in_Name rfl (by decide : 3 < 4)) typ_Name (List.mem_cons_of_mem _ tw_163) rfl (fun _ _ => rfl) (fun _ _ => rfl) rfl (am_ltb rfl) rfl ?_
          refine g_aload_n (n := 62) d_Name_chooseShort_61 rfl 0 rfl rfl ?_
          refine g_iconst (n := 63) (v := 4) d_Name_chooseShort_62 rfl (by decide) ?_
          obtain ⟨r6, h7, hf⟩ := ob_bind hf
          refine c_Vr (n := 66) (st' := [.int r6.1]) [.int 4] [] d_Name_chooseShort_63 rfl (s_Name_copyCapitals htr h7 rfl) tw_492 tw_493 tw_494 tw_7 tw_495 hd_Name_copyCapitals (by omega) (by decide) (ci := 2) rfl rfl rfl (Nat.le_of_ble_eq_true rfl) rfl rfl ?_
          refine g_istore_n (n := 67) (ls' := [(2, .int r6.1), (0, .ref 14), (1, .ref 8)]) d_Name_chooseShort_66 rfl rfl (am_ltb rfl) rfl ?_
          refine g_aload_n (n := 68) d_Name_chooseShort_67 rfl 1 rfl rfl ?_
          refine g_get (n := 71) (q0 := 14) d_Name_chooseShort_68 rfl (am_fl in_Name rfl (by decide : 1 < 4)) (List.mem_cons_of_mem _ tw_158) rfl rfl ?_
          refine g_iload_n (n := 72) d_Name_chooseShort_71 rfl 0 rfl rfl ?_
          refine g_bipush (n := 74) (v := 126) d_Name_chooseShort_72 rfl (by decide) ?_
          obtain ⟨b8, hf⟩ := ob_chk hf
          refine g_iast (n := 75) (q0 := 16) (h' := (hC ll he de li en po pw su wr cs wb bt ct lc ad ctb lcb adb fx us ln 1 tx (upd r6.2 r6.1.toNatClampNeg 126) rw rest)) d_Name_chooseShort_74 rfl rfl (am_inl b8) rfl ?_
          refine g_bipush (n := 77) (v := 49) d_Name_chooseShort_75 rfl (by decide) ?_
          refine g_istore_n (n := 78) (ls' := [(3, .int 49), (2, .int r6.1), (0, .ref 14), (1, .ref 8)]) d_Name_chooseShort_77 rfl rfl (am_ltb rfl) rfl ?_
          refine g_ls [2, 3, 1, 0] rfl ?_
          exact s_Name_chooseShort_L78 htr 100000000000 bt ct ad ln 1 tx (upd r6.2 r6.1.toNatClampNeg 126) r6.1 49 _ hf _ rfl
        · have hf := ob_neg q5 hf
          refine g_iconst (n := 54) (v := 2) d_Name_chooseShort_53 rfl (by decide) ?_
          refine g_goto (n := 58) d_Name_chooseShort_54 (by decide) ?_
          refine g_put (n := 61) (q0 := 14) (h' := (hC ll he de li en po pw su wr cs wb bt ct lc ad ctb lcb adb fx us ln 2 tx br rw rest)) d_Name_chooseShort_58 rfl (am_fl in_Name rfl (by decide : 3 < 4)) typ_Name (List.mem_cons_of_mem _ tw_163) rfl (fun _ _ => rfl) (fun _ _ => rfl) rfl (am_ltb rfl) rfl ?_
          refine g_aload_n (n := 62) d_Name_chooseShort_61 rfl 0 rfl rfl ?_
          refine g_iconst (n := 63) (v := 4) d_Name_chooseShort_62 rfl (by decide) ?_
          obtain ⟨r14, h15, hf⟩ := ob_bind hf
          refine c_Vr (n := 66) (st' := [.int r14.1]) [.int 4] [] d_Name_chooseShort_63 rfl (s_Name_copyCapitals htr h15 rfl) tw_492 tw_493 tw_494 tw_7 tw_495 hd_Name_copyCapitals (by omega) (by decide) (ci := 2) rfl rfl rfl (Nat.le_of_ble_eq_true rfl) rfl rfl ?_
          refine g_istore_n (n := 67) (ls' := [(2, .int r14.1), (0, .ref 14), (1, .ref 8)]) d_Name_chooseShort_66 rfl rfl (am_ltb rfl) rfl ?_
          refine g_aload_n (n := 68) d_Name_chooseShort_67 rfl 1 rfl rfl ?_
          refine g_get (n := 71) (q0 := 14) d_Name_chooseShort_68 rfl (am_fl in_Name rfl (by decide : 1 < 4)) (List.mem_cons_of_mem _ tw_158) rfl rfl ?_
          refine g_iload_n (n := 72) d_Name_chooseShort_71 rfl 0 rfl rfl ?_
          refine g_bipush (n := 74) (v := 126) d_Name_chooseShort_72 rfl (by decide) ?_
          obtain ⟨b16, hf⟩ := ob_chk hf
          refine g_iast (n := 75) (q0 := 16) (h' := (hC ll he de li en po pw su wr cs wb bt ct lc ad ctb lcb adb fx us ln 2 tx (upd r14.2 r14.1.toNatClampNeg 126) rw rest)) d_Name_chooseShort_74 rfl rfl (am_inl b16) rfl ?_
          refine g_bipush (n := 77) (v := 49) d_Name_chooseShort_75 rfl (by decide) ?_
          refine g_istore_n (n := 78) (ls' := [(3, .int 49), (2, .int r14.1), (0, .ref 14), (1, .ref 8)]) d_Name_chooseShort_77 rfl rfl (am_ltb rfl) rfl ?_
          refine g_ls [2, 3, 1, 0] rfl ?_
          exact s_Name_chooseShort_L78 htr 100000000000 bt ct ad ln 2 tx (upd r14.2 r14.1.toNatClampNeg 126) r14.1 49 _ hf _ rfl
      · have hf := ob_neg q4 hf
        refine g_aload_n (n := 30) d_Name_chooseShort_29 rfl 0 rfl rfl ?_
        refine g_iconst (n := 31) (v := 0) d_Name_chooseShort_30 rfl (by decide) ?_
        refine g_put (n := 34) (q0 := 14) (h' := (hC ll he de li en po pw su wr cs wb bt ct lc ad ctb lcb adb fx us ln 0 tx br rw rest)) d_Name_chooseShort_31 rfl (am_fl in_Name rfl (by decide : 3 < 4)) typ_Name (List.mem_cons_of_mem _ tw_163) rfl (fun _ _ => rfl) (fun _ _ => rfl) rfl (am_ltb rfl) rfl ?_
        refine g_aload_n (n := 35) d_Name_chooseShort_34 rfl 0 rfl rfl ?_
        refine g_bipush (n := 37) (v := 6) d_Name_chooseShort_35 rfl (by decide) ?_
        obtain ⟨r17, h18, hf⟩ := ob_bind hf
        refine c_Vr (n := 40) (st' := [.int r17.1]) [.int 6] [] d_Name_chooseShort_37 rfl (s_Name_copyCapitals htr h18 rfl) tw_492 tw_493 tw_494 tw_7 tw_495 hd_Name_copyCapitals (by omega) (by decide) (ci := 2) rfl rfl rfl (Nat.le_of_ble_eq_true rfl) rfl rfl ?_
        refine g_pop (n := 41) d_Name_chooseShort_40 rfl rfl ?_
        refine g_iconst (n := 42) (v := 1) d_Name_chooseShort_41 rfl (by decide) ?_
        cases hf
        exact g_zret d_Name_chooseShort_42 rfl am_z1 (Nat.zero_le _) (Nat.zero_le _)
    · have hf := ob_neg q1 hf
      refine g_aload_n (n := 9) d_Name_chooseShort_8 rfl 0 rfl rfl ?_
      refine g_get (n := 12) (q0 := 14) d_Name_chooseShort_9 rfl (am_fl in_Name rfl (by decide : 1 < 4)) (List.mem_cons_of_mem _ tw_158) rfl rfl ?_
      refine g_iload_n (n := 13) d_Name_chooseShort_12 rfl 2 rfl rfl ?_
      refine g_bipush (n := 15) (v := 32) d_Name_chooseShort_13 rfl (by decide) ?_
      obtain ⟨b19, hf⟩ := ob_chk hf
      refine g_iast (n := 16) (q0 := 16) (h' := (hC ll he de li en po pw su wr cs wb bt ct lc ad ctb lcb adb fx us ln pt tx (upd br x2.toNatClampNeg 32) rw rest)) d_Name_chooseShort_15 rfl rfl (am_inl b19) rfl ?_
      refine g_iinc (n := 19) (v := (x2 + 1)) (ls' := [(2, .int (x2 + 1)), (0, .ref 14), (1, .ref 8)]) d_Name_chooseShort_16 rfl 2 rfl rfl (am_ltb rfl) rfl ?_
      refine g_goto (n := 2) d_Name_chooseShort_19 (by decide) ?_
      refine g_ls [1, 2, 0] rfl ?_
      exact ih bt ct ad ln pt tx (upd br x2.toNatClampNeg 32) (x2 + 1) _ hf _ rfl
def f_Name_chooseShort (bt : Nat → Int32) (ct : Int32) (ad : Nat → Int32) (ln : Int32) (pt : Int32) (tx : Nat → Int32) (br : Nat → Int32) : Option (Int32 × Int32 × (Nat → Int32)) :=
  f_Name_chooseShort_L2 100000000000 bt ct ad ln pt tx br 0
set_option maxHeartbeats 4000000 in
set_option maxRecDepth 100000 in
theorem s_Name_chooseShort {l : Launch} {D : va_G} {dA : FieldType → ClassId} (htr : l.stackTraces = false) {rest : List am_E} {ll : Int32} {he : Int32} {de : Int32} {li : Nat → Int32} {en : Nat → Int32} {po : Nat → Int32} {pw : Int32} {su : Int32} {wr : Int32} {cs : Int32} {wb : Int32} {bt : Nat → Int32} {ct : Int32} {lc : Int32} {ad : Nat → Int32} {ctb : Int32} {lcb : Int32} {adb : Nat → Int32} {fx : Int32} {us : Nat → Int32} {ln : Int32} {pt : Int32} {tx : Nat → Int32} {br : Nat → Int32} {rw : Nat → Int32}   {r : Int32 × Int32 × (Nat → Int32)} (hf : f_Name_chooseShort bt ct ad ln pt tx br = some r) {o : am_O} (ho : .inl (some (.int r.1)) = o) :
    am_M (am_kk l D dA) y_Name_chooseShort ws_Name_chooseShort (am_rm 5 o) [.ref 14, .ref 8] (hC ll he de li en po pw su wr cs wb bt ct lc ad ctb lcb adb fx us ln pt tx br rw rest) o (hC ll he de li en po pw su wr cs wb bt ct lc ad ctb lcb adb fx us ln r.2.1 tx r.2.2 rw rest) := by
  subst ho
  refine am_body (by decide) rfl (Nat.le_of_ble_eq_true rfl) rfl ?_
  rw [f_Name_chooseShort] at hf
  refine g_iconst (n := 1) (v := 0) d_Name_chooseShort_0 rfl (by decide) ?_
  refine g_istore_n (n := 2) (ls' := [(2, .int 0), (0, .ref 14), (1, .ref 8)]) d_Name_chooseShort_1 rfl rfl (am_ltb rfl) rfl ?_
  refine g_ls [1, 2, 0] rfl ?_
  exact s_Name_chooseShort_L2 htr 100000000000 bt ct ad ln pt tx br 0 _ hf _ rfl
def f_Table_isFree (bt : Nat → Int32) (x1 : Int32) : Option (Int32) :=
  ((f_Table_cell bt x1).bind fun r1 => (if r1 = 0 then some 1 else some 0))
set_option maxHeartbeats 4000000 in
set_option maxRecDepth 100000 in
theorem s_Table_isFree {l : Launch} {D : va_G} {dA : FieldType → ClassId} (htr : l.stackTraces = false) {rest : List am_E} {ll : Int32} {he : Int32} {de : Int32} {li : Nat → Int32} {en : Nat → Int32} {po : Nat → Int32} {pw : Int32} {su : Int32} {wr : Int32} {cs : Int32} {wb : Int32} {bt : Nat → Int32} {ct : Int32} {lc : Int32} {ad : Nat → Int32} {ctb : Int32} {lcb : Int32} {adb : Nat → Int32} {fx : Int32} {us : Nat → Int32} {ln : Int32} {pt : Int32} {tx : Nat → Int32} {br : Nat → Int32} {rw : Nat → Int32}  {x1 : Int32} {r : Int32} (hf : f_Table_isFree bt x1 = some r) {o : am_O} (ho : .inl (some (.int r)) = o) :
    am_M (am_kk l D dA) y_Table_isFree ws_Table_isFree (am_rm 2 o) [.ref 7, .int x1] (hC ll he de li en po pw su wr cs wb bt ct lc ad ctb lcb adb fx us ln pt tx br rw rest) o (hC ll he de li en po pw su wr cs wb bt ct lc ad ctb lcb adb fx us ln pt tx br rw rest) := by
  subst ho
  refine am_body (by decide) rfl (Nat.le_of_ble_eq_true rfl) rfl ?_
  rw [f_Table_isFree] at hf
  refine g_aload_n (n := 1) d_Table_isFree_0 rfl 0 rfl rfl ?_
  refine g_iload_n (n := 2) d_Table_isFree_1 rfl 1 rfl rfl ?_
  obtain ⟨r1, h2, hf⟩ := ob_bind hf
  refine c_Vr (n := 5) (st' := [.int r1]) [.int x1] [] d_Table_isFree_2 rfl (s_Table_cell htr h2 rfl) tw_286 tw_287 tw_288 tw_4 tw_289 hd_Table_cell (by omega) (by decide) (ci := 5) rfl rfl rfl (Nat.le_of_ble_eq_true rfl) rfl rfl ?_
  refine g_if_ne (n := 8) (tgt := 12) d_Table_isFree_5 rfl (by decide) (fun q3 => ?_) (fun q3 => ?_)
  · have hf := ob_neg q3 hf
    refine g_iconst (n := 13) (v := 0) d_Table_isFree_12 rfl (by decide) ?_
    cases hf
    exact g_zret d_Table_isFree_13 rfl am_z0 (Nat.zero_le _) (Nat.zero_le _)
  · have hf := ob_pos q3 hf
    refine g_iconst (n := 9) (v := 1) d_Table_isFree_8 rfl (by decide) ?_
    refine g_goto (n := 13) d_Table_isFree_9 (by decide) ?_
    cases hf
    exact g_zret d_Table_isFree_13 rfl am_z1 (Nat.zero_le _) (Nat.zero_le _)
def f_Table_leastFree_L2 : Nat → (Nat → Int32) → Int32 → Option (Int32)
  | 0, _, _ => none
  | fuel + 1, bt, x1 =>
  (if 64 ≤ x1 then some 0 else ((f_Table_isFree bt x1).bind fun r2 => (if r2 = 0 then f_Table_leastFree_L2 fuel bt (x1 + 1) else some x1)))
set_option maxHeartbeats 4000000 in
set_option maxRecDepth 100000 in
theorem s_Table_leastFree_L2 {l : Launch} {D : va_G} {dA : FieldType → ClassId} (htr : l.stackTraces = false) {rest : List am_E} {ll : Int32} {he : Int32} {de : Int32} {li : Nat → Int32} {en : Nat → Int32} {po : Nat → Int32} {pw : Int32} {su : Int32} {wr : Int32} {cs : Int32} {wb : Int32} {ct : Int32} {lc : Int32} {ad : Nat → Int32} {ctb : Int32} {lcb : Int32} {adb : Nat → Int32} {fx : Int32} {us : Nat → Int32} {ln : Int32} {pt : Int32} {tx : Nat → Int32} {br : Nat → Int32} {rw : Nat → Int32}  : ∀ (fuel : Nat) (bt : Nat → Int32) (x1 : Int32) (r : Int32), f_Table_leastFree_L2 fuel bt x1 = some r → ∀ o : am_O, .inl (some (.int r)) = o →
    am_G (am_kk l D dA) (ws_Table_leastFree, y_Table_leastFree.cls, prog_7_method_8_code, 2, (some .int), y_Table_leastFree.name, [], am_rm 3 (o), none) o (hC ll he de li en po pw su wr cs wb bt ct lc ad ctb lcb adb fx us ln pt tx br rw rest) 0 0 2 [(0, .ref 7), (1, .int x1)] [] (hC ll he de li en po pw su wr cs wb bt ct lc ad ctb lcb adb fx us ln pt tx br rw rest) := by
  intro fuel
  induction fuel with
  | zero =>
    intro bt x1 r hf
    cases hf
  | succ fuel ih =>
    intro bt x1 r hf o ho
    subst ho
    rw [f_Table_leastFree_L2] at hf
    refine g_iload_n (n := 3) d_Table_leastFree_2 rfl 1 rfl rfl ?_
    refine g_bipush (n := 5) (v := 64) d_Table_leastFree_3 rfl (by decide) ?_
    refine g_icmp_ge (n := 8) (tgt := 24) d_Table_leastFree_5 rfl (by decide) (fun q1 => ?_) (fun q1 => ?_)
    · have hf := ob_pos q1 hf
      refine g_iconst (n := 25) (v := 0) d_Table_leastFree_24 rfl (by decide) ?_
      cases hf
      exact g_iret d_Table_leastFree_25 rfl (Nat.zero_le _) (Nat.zero_le _)
    · have hf := ob_neg q1 hf
      refine g_aload_n (n := 9) d_Table_leastFree_8 rfl 0 rfl rfl ?_
      refine g_iload_n (n := 10) d_Table_leastFree_9 rfl 1 rfl rfl ?_
      obtain ⟨r2, h3, hf⟩ := ob_bind hf
      refine c_Vr (n := 13) (st' := [.int r2]) [.int x1] [] d_Table_leastFree_10 rfl (s_Table_isFree htr h3 rfl) tw_282 tw_283 tw_284 tw_4 tw_285 hd_Table_isFree (by omega) (by decide) (ci := 5) rfl rfl rfl (Nat.le_of_ble_eq_true rfl) rfl rfl ?_
      refine g_if_eq (n := 16) (tgt := 18) d_Table_leastFree_13 rfl (by decide) (fun q4 => ?_) (fun q4 => ?_)
      · have hf := ob_pos q4 hf
        refine g_iinc (n := 21) (v := (x1 + 1)) (ls' := [(1, .int (x1 + 1)), (0, .ref 7)]) d_Table_leastFree_18 rfl 1 rfl rfl (am_ltb rfl) rfl ?_
        refine g_goto (n := 2) d_Table_leastFree_21 (by decide) ?_
        refine g_ls [1, 0] rfl ?_
        exact ih bt (x1 + 1) _ hf _ rfl
      · have hf := ob_neg q4 hf
        refine g_iload_n (n := 17) d_Table_leastFree_16 rfl 1 rfl rfl ?_
        cases hf
        exact g_iret d_Table_leastFree_17 rfl (Nat.zero_le _) (Nat.zero_le _)
def f_Table_leastFree (bt : Nat → Int32) : Option (Int32) :=
  f_Table_leastFree_L2 100000000000 bt 2
set_option maxHeartbeats 4000000 in
set_option maxRecDepth 100000 in
theorem s_Table_leastFree {l : Launch} {D : va_G} {dA : FieldType → ClassId} (htr : l.stackTraces = false) {rest : List am_E} {ll : Int32} {he : Int32} {de : Int32} {li : Nat → Int32} {en : Nat → Int32} {po : Nat → Int32} {pw : Int32} {su : Int32} {wr : Int32} {cs : Int32} {wb : Int32} {bt : Nat → Int32} {ct : Int32} {lc : Int32} {ad : Nat → Int32} {ctb : Int32} {lcb : Int32} {adb : Nat → Int32} {fx : Int32} {us : Nat → Int32} {ln : Int32} {pt : Int32} {tx : Nat → Int32} {br : Nat → Int32} {rw : Nat → Int32}   {r : Int32} (hf : f_Table_leastFree bt = some r) {o : am_O} (ho : .inl (some (.int r)) = o) :
    am_M (am_kk l D dA) y_Table_leastFree ws_Table_leastFree (am_rm 3 o) [.ref 7] (hC ll he de li en po pw su wr cs wb bt ct lc ad ctb lcb adb fx us ln pt tx br rw rest) o (hC ll he de li en po pw su wr cs wb bt ct lc ad ctb lcb adb fx us ln pt tx br rw rest) := by
  subst ho
  refine am_body (by decide) rfl (Nat.le_of_ble_eq_true rfl) rfl ?_
  rw [f_Table_leastFree] at hf
  refine g_iconst (n := 1) (v := 2) d_Table_leastFree_0 rfl (by decide) ?_
  refine g_istore_n (n := 2) (ls' := [(1, .int 2), (0, .ref 7)]) d_Table_leastFree_1 rfl rfl (am_ltb rfl) rfl ?_
  refine g_ls [1, 0] rfl ?_
  exact s_Table_leastFree_L2 htr 100000000000 bt 2 _ hf _ rfl
def f_Ses_leave_L12 : Nat → Int32 → Int32 → (Nat → Int32) → (Nat → Int32) → Int32 → Option (Int32 × Int32 × (Nat → Int32) × (Nat → Int32))
  | 0, _, _, _, _, _ => none
  | fuel + 1, he, de, en, po, x1 =>
  (if 4 ≤ x1 then some (he, de, en, po) else (if am_in x1 4 = true then (if am_in x1 4 = true then f_Ses_leave_L12 fuel he de (upd en x1.toNatClampNeg (-1)) (upd po x1.toNatClampNeg 0) (x1 + 1) else none) else none))
set_option maxHeartbeats 4000000 in
set_option maxRecDepth 100000 in
theorem s_Ses_leave_L12 {l : Launch} {D : va_G} {dA : FieldType → ClassId} (htr : l.stackTraces = false) {rest : List am_E} {ll : Int32} {li : Nat → Int32} {pw : Int32} {su : Int32} {wr : Int32} {cs : Int32} {wb : Int32} {bt : Nat → Int32} {ct : Int32} {lc : Int32} {ad : Nat → Int32} {ctb : Int32} {lcb : Int32} {adb : Nat → Int32} {fx : Int32} {us : Nat → Int32} {ln : Int32} {pt : Int32} {tx : Nat → Int32} {br : Nat → Int32} {rw : Nat → Int32}  : ∀ (fuel : Nat) (he : Int32) (de : Int32) (en : Nat → Int32) (po : Nat → Int32) (x1 : Int32) (r : Int32 × Int32 × (Nat → Int32) × (Nat → Int32)), f_Ses_leave_L12 fuel he de en po x1 = some r → ∀ o : am_O, .inl none = o →
    am_G (am_kk l D dA) (ws_Ses_leave, y_Ses_leave.cls, prog_6_method_5_code, 2, none, y_Ses_leave.name, [], am_rm 0 (o), none) o (hC ll r.1 r.2.1 li r.2.2.1 r.2.2.2 pw su wr cs wb bt ct lc ad ctb lcb adb fx us ln pt tx br rw rest) 0 0 12 [(0, .ref 1), (1, .int x1)] [] (hC ll he de li en po pw su wr cs wb bt ct lc ad ctb lcb adb fx us ln pt tx br rw rest) := by
  intro fuel
  induction fuel with
  | zero =>
    intro he de en po x1 r hf
    cases hf
  | succ fuel ih =>
    intro he de en po x1 r hf o ho
    subst ho
    rw [f_Ses_leave_L12] at hf
    refine g_iload_n (n := 13) d_Ses_leave_12 rfl 1 rfl rfl ?_
    refine g_iconst (n := 14) (v := 4) d_Ses_leave_13 rfl (by decide) ?_
    refine g_icmp_ge (n := 17) (tgt := 37) d_Ses_leave_14 rfl (by decide) (fun q1 => ?_) (fun q1 => ?_)
    · have hf := ob_pos q1 hf
      cases hf
      exact g_vret d_Ses_leave_37 rfl (Nat.zero_le _) (Nat.zero_le _)
    · have hf := ob_neg q1 hf
      refine g_aload_n (n := 18) d_Ses_leave_17 rfl 0 rfl rfl ?_
      refine g_get (n := 21) (q0 := 1) d_Ses_leave_18 rfl (am_fl in_Ses rfl (by decide : 1 < 6)) (List.mem_cons_of_mem _ tw_38) rfl rfl ?_
      refine g_iload_n (n := 22) d_Ses_leave_21 rfl 1 rfl rfl ?_
      refine g_iconst (n := 23) (v := (-1)) d_Ses_leave_22 rfl (by decide) ?_
      obtain ⟨b2, hf⟩ := ob_chk hf
      refine g_iast (n := 24) (q0 := 3) (h' := (hC ll he de li (upd en x1.toNatClampNeg (-1)) po pw su wr cs wb bt ct lc ad ctb lcb adb fx us ln pt tx br rw rest)) d_Ses_leave_23 rfl rfl (am_inl b2) rfl ?_
      refine g_aload_n (n := 25) d_Ses_leave_24 rfl 0 rfl rfl ?_
      refine g_get (n := 28) (q0 := 1) d_Ses_leave_25 rfl (am_fl in_Ses rfl (by decide : 2 < 6)) (List.mem_cons_of_mem _ tw_39) rfl rfl ?_
      refine g_iload_n (n := 29) d_Ses_leave_28 rfl 1 rfl rfl ?_
      refine g_iconst (n := 30) (v := 0) d_Ses_leave_29 rfl (by decide) ?_
      obtain ⟨b3, hf⟩ := ob_chk hf
      refine g_iast (n := 31) (q0 := 4) (h' := (hC ll he de li (upd en x1.toNatClampNeg (-1)) (upd po x1.toNatClampNeg 0) pw su wr cs wb bt ct lc ad ctb lcb adb fx us ln pt tx br rw rest)) d_Ses_leave_30 rfl rfl (am_inl b3) rfl ?_
      refine g_iinc (n := 34) (v := (x1 + 1)) (ls' := [(1, .int (x1 + 1)), (0, .ref 1)]) d_Ses_leave_31 rfl 1 rfl rfl (am_ltb rfl) rfl ?_
      refine g_goto (n := 12) d_Ses_leave_34 (by decide) ?_
      refine g_ls [1, 0] rfl ?_
      exact ih he de (upd en x1.toNatClampNeg (-1)) (upd po x1.toNatClampNeg 0) (x1 + 1) _ hf _ rfl
