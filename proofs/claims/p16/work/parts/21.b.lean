def f_Folder_shortLengthOf (bt : Nat → Int32) (ct : Int32) (ad : Nat → Int32) (x1 : Int32) : Option (Int32) :=
  f_Folder_shortLengthOf_L2 100000000000 bt ct ad x1 0
set_option maxHeartbeats 4000000 in
set_option maxRecDepth 100000 in
theorem s_Folder_shortLengthOf {l : Launch} {D : va_G} {dA : FieldType → ClassId} (htr : l.stackTraces = false) {rest : List am_E} {ll : Int32} {he : Int32} {de : Int32} {li : Nat → Int32} {en : Nat → Int32} {po : Nat → Int32} {pw : Int32} {su : Int32} {wr : Int32} {cs : Int32} {wb : Int32} {bt : Nat → Int32} {ct : Int32} {lc : Int32} {ad : Nat → Int32} {ctb : Int32} {lcb : Int32} {adb : Nat → Int32} {fx : Int32} {us : Nat → Int32} {ln : Int32} {pt : Int32} {tx : Nat → Int32} {br : Nat → Int32} {rw : Nat → Int32}  {x1 : Int32} {r : Int32} (hf : f_Folder_shortLengthOf bt ct ad x1 = some r) {o : am_O} (ho : .inl (some (.int r)) = o) :
    am_M (am_kk l D dA) y_Folder_shortLengthOf ws_Folder_shortLengthOf (am_rm 2 o) [.ref 8, .int x1] (hC ll he de li en po pw su wr cs wb bt ct lc ad ctb lcb adb fx us ln pt tx br rw rest) o (hC ll he de li en po pw su wr cs wb bt ct lc ad ctb lcb adb fx us ln pt tx br rw rest) := by
  subst ho
  refine am_body (by decide) rfl (Nat.le_of_ble_eq_true rfl) rfl ?_
  rw [f_Folder_shortLengthOf] at hf
  refine g_iconst (n := 1) (v := 0) d_Folder_shortLengthOf_0 rfl (by decide) ?_
  refine g_istore_n (n := 2) (ls' := [(2, .int 0), (0, .ref 8), (1, .int x1)]) d_Folder_shortLengthOf_1 rfl rfl (am_ltb rfl) rfl ?_
  refine g_ls [1, 2, 0] rfl ?_
  exact s_Folder_shortLengthOf_L2 htr 100000000000 bt ct ad x1 0 _ hf _ rfl
def f_V_capital (x0 : Int32) : Option (Int32) :=
  (if x0 < 97 then some x0 else (if 122 < x0 then some x0 else some ((x0 - 97) + 65)))
set_option maxHeartbeats 4000000 in
set_option maxRecDepth 100000 in
theorem s_V_capital {l : Launch} {D : va_G} {dA : FieldType → ClassId} (htr : l.stackTraces = false) {rest : List am_E} {ll : Int32} {he : Int32} {de : Int32} {li : Nat → Int32} {en : Nat → Int32} {po : Nat → Int32} {pw : Int32} {su : Int32} {wr : Int32} {cs : Int32} {wb : Int32} {bt : Nat → Int32} {ct : Int32} {lc : Int32} {ad : Nat → Int32} {ctb : Int32} {lcb : Int32} {adb : Nat → Int32} {fx : Int32} {us : Nat → Int32} {ln : Int32} {pt : Int32} {tx : Nat → Int32} {br : Nat → Int32} {rw : Nat → Int32}  {x0 : Int32} {r : Int32} (hf : f_V_capital x0 = some r) {o : am_O} (ho : .inl (some (.int r)) = o) :
    am_M (am_kk l D dA) y_V_capital ws_V_capital (am_rm 0 o) [.int x0] (hC ll he de li en po pw su wr cs wb bt ct lc ad ctb lcb adb fx us ln pt tx br rw rest) o (hC ll he de li en po pw su wr cs wb bt ct lc ad ctb lcb adb fx us ln pt tx br rw rest) := by
  subst ho
  refine am_body (by decide) rfl (Nat.le_of_ble_eq_true rfl) rfl ?_
  rw [f_V_capital] at hf
  refine g_iload_n (n := 1) d_V_capital_0 rfl 0 rfl rfl ?_
  refine g_bipush (n := 3) (v := 97) d_V_capital_1 rfl (by decide) ?_
  refine g_icmp_lt (n := 6) (tgt := 22) d_V_capital_3 rfl (by decide) (fun q1 => ?_) (fun q1 => ?_)
  · have hf := ob_pos q1 hf
    refine g_iload_n (n := 23) d_V_capital_22 rfl 0 rfl rfl ?_
    cases hf
    exact g_iret d_V_capital_23 rfl (Nat.zero_le _) (Nat.zero_le _)
  · have hf := ob_neg q1 hf
    refine g_iload_n (n := 7) d_V_capital_6 rfl 0 rfl rfl ?_
    refine g_bipush (n := 9) (v := 122) d_V_capital_7 rfl (by decide) ?_
    refine g_icmp_gt (n := 12) (tgt := 22) d_V_capital_9 rfl (by decide) (fun q2 => ?_) (fun q2 => ?_)
    · have hf := ob_pos q2 hf
      refine g_iload_n (n := 23) d_V_capital_22 rfl 0 rfl rfl ?_
      cases hf
      exact g_iret d_V_capital_23 rfl (Nat.zero_le _) (Nat.zero_le _)
    · have hf := ob_neg q2 hf
      refine g_iload_n (n := 13) d_V_capital_12 rfl 0 rfl rfl ?_
      refine g_bipush (n := 15) (v := 97) d_V_capital_13 rfl (by decide) ?_
      refine g_isub (n := 16) d_V_capital_15 rfl ?_
      refine g_bipush (n := 18) (v := 65) d_V_capital_16 rfl (by decide) ?_
      refine g_iadd (n := 19) d_V_capital_18 rfl ?_
      refine g_goto (n := 23) d_V_capital_19 (by decide) ?_
      cases hf
      exact g_iret d_V_capital_23 rfl (Nat.zero_le _) (Nat.zero_le _)
def f_Folder_isShortCalled_L16 : Nat → (Nat → Int32) → Int32 → (Nat → Int32) → Int32 → (Nat → Int32) → Int32 → Int32 → Option (Int32)
  | 0, _, _, _, _, _, _, _ => none
  | fuel + 1, bt, ct, ad, ln, tx, x1, x3 =>
  (if ln ≤ x3 then some 1 else ((f_Folder_byteOf bt ct ad x1 x3).bind fun r5 => ((f_V_capital r5).bind fun r7 => ((f_Name_charAt ln tx x3).bind fun r9 => ((f_V_capital r9).bind fun r11 => (if r7 = r11 then f_Folder_isShortCalled_L16 fuel bt ct ad ln tx x1 (x3 + 1) else some 0))))))
set_option maxHeartbeats 4000000 in
set_option maxRecDepth 100000 in
theorem s_Folder_isShortCalled_L16 {l : Launch} {D : va_G} {dA : FieldType → ClassId} (htr : l.stackTraces = false) {rest : List am_E} {ll : Int32} {he : Int32} {de : Int32} {li : Nat → Int32} {en : Nat → Int32} {po : Nat → Int32} {pw : Int32} {su : Int32} {wr : Int32} {cs : Int32} {wb : Int32} {lc : Int32} {ctb : Int32} {lcb : Int32} {adb : Nat → Int32} {fx : Int32} {us : Nat → Int32} {pt : Int32} {br : Nat → Int32} {rw : Nat → Int32}  : ∀ (fuel : Nat) (bt : Nat → Int32) (ct : Int32) (ad : Nat → Int32) (ln : Int32) (tx : Nat → Int32) (x1 : Int32) (x3 : Int32) (r : Int32), f_Folder_isShortCalled_L16 fuel bt ct ad ln tx x1 x3 = some r → ∀ o : am_O, .inl (some (.int r)) = o →
    am_G (am_kk l D dA) (ws_Folder_isShortCalled, y_Folder_isShortCalled.cls, prog_3_method_16_code, 4, (some .boolean), y_Folder_isShortCalled.name, [], am_rm 3 (o), none) o (hC ll he de li en po pw su wr cs wb bt ct lc ad ctb lcb adb fx us ln pt tx br rw rest) 0 0 16 [(0, .ref 8), (1, .int x1), (2, .ref 14), (3, .int x3)] [] (hC ll he de li en po pw su wr cs wb bt ct lc ad ctb lcb adb fx us ln pt tx br rw rest) := by
  intro fuel
  induction fuel with
  | zero =>
    intro bt ct ad ln tx x1 x3 r hf
    cases hf
  | succ fuel ih =>
    intro bt ct ad ln tx x1 x3 r hf o ho
    subst ho
    rw [f_Folder_isShortCalled_L16] at hf
    refine g_iload_n (n := 17) d_Folder_isShortCalled_16 rfl 3 rfl rfl ?_
    refine g_aload_n (n := 18) d_Folder_isShortCalled_17 rfl 2 rfl rfl ?_
    refine g_getN (n := 21) (q0 := 14) d_Folder_isShortCalled_18 rfl (am_fl in_Name rfl (by decide : 2 < 4)) nw_161 rfl rfl ?_
    refine g_icmp_ge (n := 24) (tgt := 52) d_Folder_isShortCalled_21 rfl (by decide) (fun q4 => ?_) (fun q4 => ?_)
    · have hf := ob_pos q4 hf
      refine g_iconst (n := 53) (v := 1) d_Folder_isShortCalled_52 rfl (by decide) ?_
      cases hf
      exact g_zret d_Folder_isShortCalled_53 rfl am_z1 (Nat.zero_le _) (Nat.zero_le _)
    · have hf := ob_neg q4 hf
      refine g_aload_n (n := 25) d_Folder_isShortCalled_24 rfl 0 rfl rfl ?_
      refine g_iload_n (n := 26) d_Folder_isShortCalled_25 rfl 1 rfl rfl ?_
      refine g_iload_n (n := 27) d_Folder_isShortCalled_26 rfl 3 rfl rfl ?_
      obtain ⟨r5, h6, hf⟩ := ob_bind hf
      refine c_Vr (n := 30) (st' := [.int r5]) [.int x1, .int x3] [] d_Folder_isShortCalled_27 rfl (s_Folder_byteOf htr h6 rfl) tw_426 tw_427 tw_428 tw_5 tw_429 hd_Folder_byteOf (by omega) (by decide) (ci := 1) rfl rfl rfl (Nat.le_of_ble_eq_true rfl) rfl rfl ?_
      obtain ⟨r7, h8, hf⟩ := ob_bind hf
      refine c_SNr (n := 33) (st' := [.int r7]) [.int r5] [] d_Folder_isShortCalled_30 rfl (s_V_capital htr h8 rfl) nw_447 tw_448 tw_1 tw_449 hd_V_capital (by omega) (by decide) rfl (Nat.le_of_ble_eq_true rfl) rfl rfl ?_
      refine g_aload_n (n := 34) d_Folder_isShortCalled_33 rfl 2 rfl rfl ?_
      refine g_iload_n (n := 35) d_Folder_isShortCalled_34 rfl 3 rfl rfl ?_
      obtain ⟨r9, h10, hf⟩ := ob_bind hf
      refine c_Vr (n := 38) (st' := [.int r9, .int r7]) [.int x3] [.int r7] d_Folder_isShortCalled_35 rfl (s_Name_charAt htr h10 rfl) tw_450 tw_388 tw_389 tw_7 tw_390 hd_Name_charAt (by omega) (by decide) (ci := 2) rfl rfl rfl (Nat.le_of_ble_eq_true rfl) rfl rfl ?_
      obtain ⟨r11, h12, hf⟩ := ob_bind hf
      refine c_SNr (n := 41) (st' := [.int r11, .int r7]) [.int r9] [.int r7] d_Folder_isShortCalled_38 rfl (s_V_capital htr h12 rfl) nw_447 tw_448 tw_1 tw_449 hd_V_capital (by omega) (by decide) rfl (Nat.le_of_ble_eq_true rfl) rfl rfl ?_
      refine g_icmp_eq (n := 44) (tgt := 46) d_Folder_isShortCalled_41 rfl (by decide) (fun q13 => ?_) (fun q13 => ?_)
      · have hf := ob_pos q13 hf
        refine g_iinc (n := 49) (v := (x3 + 1)) (ls' := [(3, .int (x3 + 1)), (0, .ref 8), (1, .int x1), (2, .ref 14)]) d_Folder_isShortCalled_46 rfl 3 rfl rfl (am_ltb rfl) rfl ?_
        refine g_goto (n := 16) d_Folder_isShortCalled_49 (by decide) ?_
        refine g_ls [1, 2, 3, 0] rfl ?_
        exact ih bt ct ad ln tx x1 (x3 + 1) _ hf _ rfl
      · have hf := ob_neg q13 hf
        refine g_iconst (n := 45) (v := 0) d_Folder_isShortCalled_44 rfl (by decide) ?_
        cases hf
        exact g_zret d_Folder_isShortCalled_45 rfl am_z0 (Nat.zero_le _) (Nat.zero_le _)
def f_Folder_isShortCalled (bt : Nat → Int32) (ct : Int32) (ad : Nat → Int32) (ln : Int32) (tx : Nat → Int32) (x1 : Int32) : Option (Int32) :=
  ((f_Folder_shortLengthOf bt ct ad x1).bind fun r1 => (if r1 = ln then f_Folder_isShortCalled_L16 100000000000 bt ct ad ln tx x1 0 else some 0))
set_option maxHeartbeats 4000000 in
set_option maxRecDepth 100000 in
theorem s_Folder_isShortCalled {l : Launch} {D : va_G} {dA : FieldType → ClassId} (htr : l.stackTraces = false) {rest : List am_E} {ll : Int32} {he : Int32} {de : Int32} {li : Nat → Int32} {en : Nat → Int32} {po : Nat → Int32} {pw : Int32} {su : Int32} {wr : Int32} {cs : Int32} {wb : Int32} {bt : Nat → Int32} {ct : Int32} {lc : Int32} {ad : Nat → Int32} {ctb : Int32} {lcb : Int32} {adb : Nat → Int32} {fx : Int32} {us : Nat → Int32} {ln : Int32} {pt : Int32} {tx : Nat → Int32} {br : Nat → Int32} {rw : Nat → Int32}  {x1 : Int32} {r : Int32} (hf : f_Folder_isShortCalled bt ct ad ln tx x1 = some r) {o : am_O} (ho : .inl (some (.int r)) = o) :
    am_M (am_kk l D dA) y_Folder_isShortCalled ws_Folder_isShortCalled (am_rm 3 o) [.ref 8, .int x1, .ref 14] (hC ll he de li en po pw su wr cs wb bt ct lc ad ctb lcb adb fx us ln pt tx br rw rest) o (hC ll he de li en po pw su wr cs wb bt ct lc ad ctb lcb adb fx us ln pt tx br rw rest) := by
  subst ho
  refine am_body (by decide) rfl (Nat.le_of_ble_eq_true rfl) rfl ?_
  rw [f_Folder_isShortCalled] at hf
  refine g_aload_n (n := 1) d_Folder_isShortCalled_0 rfl 0 rfl rfl ?_
  refine g_iload_n (n := 2) d_Folder_isShortCalled_1 rfl 1 rfl rfl ?_
  obtain ⟨r1, h2, hf⟩ := ob_bind hf
  refine c_Vr (n := 5) (st' := [.int r1]) [.int x1] [] d_Folder_isShortCalled_2 rfl (s_Folder_shortLengthOf htr h2 rfl) tw_443 tw_444 tw_445 tw_5 tw_446 hd_Folder_shortLengthOf (by omega) (by decide) (ci := 1) rfl rfl rfl (Nat.le_of_ble_eq_true rfl) rfl rfl ?_
  refine g_aload_n (n := 6) d_Folder_isShortCalled_5 rfl 2 rfl rfl ?_
  refine g_getN (n := 9) (q0 := 14) d_Folder_isShortCalled_6 rfl (am_fl in_Name rfl (by decide : 2 < 4)) nw_161 rfl rfl ?_
  refine g_icmp_eq (n := 12) (tgt := 14) d_Folder_isShortCalled_9 rfl (by decide) (fun q3 => ?_) (fun q3 => ?_)
  · have hf := ob_pos q3 hf
    refine g_iconst (n := 15) (v := 0) d_Folder_isShortCalled_14 rfl (by decide) ?_
    refine g_istore_n (n := 16) (ls' := [(3, .int 0), (0, .ref 8), (1, .int x1), (2, .ref 14)]) d_Folder_isShortCalled_15 rfl rfl (am_ltb rfl) rfl ?_
    refine g_ls [1, 2, 3, 0] rfl ?_
    exact s_Folder_isShortCalled_L16 htr 100000000000 bt ct ad ln tx x1 0 _ hf _ rfl
  · have hf := ob_neg q3 hf
    refine g_iconst (n := 13) (v := 0) d_Folder_isShortCalled_12 rfl (by decide) ?_
    cases hf
    exact g_zret d_Folder_isShortCalled_13 rfl am_z0 (Nat.zero_le _) (Nat.zero_le _)
def f_V_addToSum (x0 : Int32) (x1 : Int32) : Option (Int32) :=
  some ((((x0 * 2) + (x0 / 128)) + x1) &&& 255)
set_option maxHeartbeats 4000000 in
set_option maxRecDepth 100000 in
theorem s_V_addToSum {l : Launch} {D : va_G} {dA : FieldType → ClassId} (htr : l.stackTraces = false) {rest : List am_E} {ll : Int32} {he : Int32} {de : Int32} {li : Nat → Int32} {en : Nat → Int32} {po : Nat → Int32} {pw : Int32} {su : Int32} {wr : Int32} {cs : Int32} {wb : Int32} {bt : Nat → Int32} {ct : Int32} {lc : Int32} {ad : Nat → Int32} {ctb : Int32} {lcb : Int32} {adb : Nat → Int32} {fx : Int32} {us : Nat → Int32} {ln : Int32} {pt : Int32} {tx : Nat → Int32} {br : Nat → Int32} {rw : Nat → Int32}  {x0 : Int32} {x1 : Int32} {r : Int32} (hf : f_V_addToSum x0 x1 = some r) {o : am_O} (ho : .inl (some (.int r)) = o) :
    am_M (am_kk l D dA) y_V_addToSum ws_V_addToSum (am_rm 0 o) [.int x0, .int x1] (hC ll he de li en po pw su wr cs wb bt ct lc ad ctb lcb adb fx us ln pt tx br rw rest) o (hC ll he de li en po pw su wr cs wb bt ct lc ad ctb lcb adb fx us ln pt tx br rw rest) := by
  subst ho
  refine am_body (by decide) rfl (Nat.le_of_ble_eq_true rfl) rfl ?_
  rw [f_V_addToSum] at hf
  refine g_iload_n (n := 1) d_V_addToSum_0 rfl 0 rfl rfl ?_
  refine g_iconst (n := 2) (v := 2) d_V_addToSum_1 rfl (by decide) ?_
  refine g_imul (n := 3) d_V_addToSum_2 rfl ?_
  refine g_iload_n (n := 4) d_V_addToSum_3 rfl 0 rfl rfl ?_
  refine g_sipush (n := 7) (v := 128) d_V_addToSum_4 rfl (by decide) ?_
  refine g_idiv (n := 8) d_V_addToSum_7 rfl (by decide) ?_
  refine g_iadd (n := 9) d_V_addToSum_8 rfl ?_
  refine g_iload_n (n := 10) d_V_addToSum_9 rfl 1 rfl rfl ?_
  refine g_iadd (n := 11) d_V_addToSum_10 rfl ?_
  refine g_sipush (n := 14) (v := 255) d_V_addToSum_11 rfl (by decide) ?_
  refine g_iand (n := 15) d_V_addToSum_14 rfl ?_
  cases hf
  exact g_iret d_V_addToSum_15 rfl (Nat.zero_le _) (Nat.zero_le _)
def f_Folder_sumOf_L4 : Nat → (Nat → Int32) → Int32 → (Nat → Int32) → Int32 → Int32 → Int32 → Option (Int32)
  | 0, _, _, _, _, _, _ => none
  | fuel + 1, bt, ct, ad, x1, x2, x3 =>
  (if 6 ≤ x3 then some x2 else ((f_Folder_byteOf bt ct ad x1 x3).bind fun r2 => ((f_V_addToSum x2 r2).bind fun r4 => f_Folder_sumOf_L4 fuel bt ct ad x1 r4 (x3 + 1))))
set_option maxHeartbeats 4000000 in
set_option maxRecDepth 100000 in
theorem s_Folder_sumOf_L4 {l : Launch} {D : va_G} {dA : FieldType → ClassId} (htr : l.stackTraces = false) {rest : List am_E} {ll : Int32} {he : Int32} {de : Int32} {li : Nat → Int32} {en : Nat → Int32} {po : Nat → Int32} {pw : Int32} {su : Int32} {wr : Int32} {cs : Int32} {wb : Int32} {lc : Int32} {ctb : Int32} {lcb : Int32} {adb : Nat → Int32} {fx : Int32} {us : Nat → Int32} {ln : Int32} {pt : Int32} {tx : Nat → Int32} {br : Nat → Int32} {rw : Nat → Int32}  : ∀ (fuel : Nat) (bt : Nat → Int32) (ct : Int32) (ad : Nat → Int32) (x1 : Int32) (x2 : Int32) (x3 : Int32) (r : Int32), f_Folder_sumOf_L4 fuel bt ct ad x1 x2 x3 = some r → ∀ o : am_O, .inl (some (.int r)) = o →
    am_G (am_kk l D dA) (ws_Folder_sumOf, y_Folder_sumOf.cls, prog_3_method_22_code, 4, (some .int), y_Folder_sumOf.name, [], am_rm 2 (o), none) o (hC ll he de li en po pw su wr cs wb bt ct lc ad ctb lcb adb fx us ln pt tx br rw rest) 0 0 4 [(0, .ref 8), (1, .int x1), (2, .int x2), (3, .int x3)] [] (hC ll he de li en po pw su wr cs wb bt ct lc ad ctb lcb adb fx us ln pt tx br rw rest) := by
  intro fuel
  induction fuel with
  | zero =>
    intro bt ct ad x1 x2 x3 r hf
    cases hf
  | succ fuel ih =>
    intro bt ct ad x1 x2 x3 r hf o ho
    subst ho
    rw [f_Folder_sumOf_L4] at hf
    refine g_iload_n (n := 5) d_Folder_sumOf_4 rfl 3 rfl rfl ?_
    refine g_bipush (n := 7) (v := 6) d_Folder_sumOf_5 rfl (by decide) ?_
    refine g_icmp_ge (n := 10) (tgt := 27) d_Folder_sumOf_7 rfl (by decide) (fun q1 => ?_) (fun q1 => ?_)
    · have hf := ob_pos q1 hf
      refine g_iload_n (n := 28) d_Folder_sumOf_27 rfl 2 rfl rfl ?_
      cases hf
      exact g_iret d_Folder_sumOf_28 rfl (Nat.zero_le _) (Nat.zero_le _)
    · have hf := ob_neg q1 hf
      refine g_iload_n (n := 11) d_Folder_sumOf_10 rfl 2 rfl rfl ?_
      refine g_aload_n (n := 12) d_Folder_sumOf_11 rfl 0 rfl rfl ?_
      refine g_iload_n (n := 13) d_Folder_sumOf_12 rfl 1 rfl rfl ?_
      refine g_iload_n (n := 14) d_Folder_sumOf_13 rfl 3 rfl rfl ?_
      obtain ⟨r2, h3, hf⟩ := ob_bind hf
      refine c_Vr (n := 17) (st' := [.int r2, .int x2]) [.int x1, .int x3] [.int x2] d_Folder_sumOf_14 rfl (s_Folder_byteOf htr h3 rfl) tw_426 tw_427 tw_428 tw_5 tw_429 hd_Folder_byteOf (by omega) (by decide) (ci := 1) rfl rfl rfl (Nat.le_of_ble_eq_true rfl) rfl rfl ?_
      obtain ⟨r4, h5, hf⟩ := ob_bind hf
      refine c_SNr (n := 20) (st' := [.int r4]) [.int x2, .int r2] [] d_Folder_sumOf_17 rfl (s_V_addToSum htr h5 rfl) nw_459 tw_460 tw_1 tw_461 hd_V_addToSum (by omega) (by decide) rfl (Nat.le_of_ble_eq_true rfl) rfl rfl ?_
      refine g_istore_n (n := 21) (ls' := [(2, .int r4), (0, .ref 8), (1, .int x1), (3, .int x3)]) d_Folder_sumOf_20 rfl rfl (am_ltb rfl) rfl ?_
      refine g_iinc (n := 24) (v := (x3 + 1)) (ls' := [(3, .int (x3 + 1)), (2, .int r4), (0, .ref 8), (1, .int x1)]) d_Folder_sumOf_21 rfl 3 rfl rfl (am_ltb rfl) rfl ?_
      refine g_goto (n := 4) d_Folder_sumOf_24 (by decide) ?_
      refine g_ls [2, 3, 1, 0] rfl ?_
      exact ih bt ct ad x1 r4 (x3 + 1) _ hf _ rfl
def f_Folder_sumOf (bt : Nat → Int32) (ct : Int32) (ad : Nat → Int32) (x1 : Int32) : Option (Int32) :=
  f_Folder_sumOf_L4 100000000000 bt ct ad x1 0 0
set_option maxHeartbeats 4000000 in
set_option maxRecDepth 100000 in
theorem s_Folder_sumOf {l : Launch} {D : va_G} {dA : FieldType → ClassId} (htr : l.stackTraces = false) {rest : List am_E} {ll : Int32} {he : Int32} {de : Int32} {li : Nat → Int32} {en : Nat → Int32} {po : Nat → Int32} {pw : Int32} {su : Int32} {wr : Int32} {cs : Int32} {wb : Int32} {bt : Nat → Int32} {ct : Int32} {lc : Int32} {ad : Nat → Int32} {ctb : Int32} {lcb : Int32} {adb : Nat → Int32} {fx : Int32} {us : Nat → Int32} {ln : Int32} {pt : Int32} {tx : Nat → Int32} {br : Nat → Int32} {rw : Nat → Int32}  {x1 : Int32} {r : Int32} (hf : f_Folder_sumOf bt ct ad x1 = some r) {o : am_O} (ho : .inl (some (.int r)) = o) :
    am_M (am_kk l D dA) y_Folder_sumOf ws_Folder_sumOf (am_rm 2 o) [.ref 8, .int x1] (hC ll he de li en po pw su wr cs wb bt ct lc ad ctb lcb adb fx us ln pt tx br rw rest) o (hC ll he de li en po pw su wr cs wb bt ct lc ad ctb lcb adb fx us ln pt tx br rw rest) := by
  subst ho
  refine am_body (by decide) rfl (Nat.le_of_ble_eq_true rfl) rfl ?_
  rw [f_Folder_sumOf] at hf
  refine g_iconst (n := 1) (v := 0) d_Folder_sumOf_0 rfl (by decide) ?_
  refine g_istore_n (n := 2) (ls' := [(2, .int 0), (0, .ref 8), (1, .int x1)]) d_Folder_sumOf_1 rfl rfl (am_ltb rfl) rfl ?_
  refine g_iconst (n := 3) (v := 0) d_Folder_sumOf_2 rfl (by decide) ?_
  refine g_istore_n (n := 4) (ls' := [(3, .int 0), (2, .int 0), (0, .ref 8), (1, .int x1)]) d_Folder_sumOf_3 rfl rfl (am_ltb rfl) rfl ?_
  refine g_ls [2, 3, 1, 0] rfl ?_
  exact s_Folder_sumOf_L4 htr 100000000000 bt ct ad x1 0 0 _ hf _ rfl
def f_Folder_isPart (bt : Nat → Int32) (ct : Int32) (ad : Nat → Int32) (x1 : Int32) (x2 : Int32) (x3 : Int32) : Option (Int32) :=
  ((f_Folder_byteOf bt ct ad x1 0).bind fun r1 => (if r1 = x2 then ((f_Folder_byteOf bt ct ad x1 6).bind fun r4 => (if r4 = 15 then ((f_Folder_byteOf bt ct ad x1 7).bind fun r7 => (if r7 = x3 then some 1 else some 0)) else some 0)) else some 0))
set_option maxHeartbeats 4000000 in
set_option maxRecDepth 100000 in
theorem s_Folder_isPart {l : Launch} {D : va_G} {dA : FieldType → ClassId} (htr : l.stackTraces = false) {rest : List am_E} {ll : Int32} {he : Int32} {de : Int32} {li : Nat → Int32} {en : Nat → Int32} {po : Nat → Int32} {pw : Int32} {su : Int32} {wr : Int32} {cs : Int32} {wb : Int32} {bt : Nat → Int32} {ct : Int32} {lc : Int32} {ad : Nat → Int32} {ctb : Int32} {lcb : Int32} {adb : Nat → Int32} {fx : Int32} {us : Nat → Int32} {ln : Int32} {pt : Int32} {tx : Nat → Int32} {br : Nat → Int32} {rw : Nat → Int32}  {x1 : Int32} {x2 : Int32} {x3 : Int32} {r : Int32} (hf : f_Folder_isPart bt ct ad x1 x2 x3 = some r) {o : am_O} (ho : .inl (some (.int r)) = o) :
    am_M (am_kk l D dA) y_Folder_isPart ws_Folder_isPart (am_rm 2 o) [.ref 8, .int x1, .int x2, .int x3] (hC ll he de li en po pw su wr cs wb bt ct lc ad ctb lcb adb fx us ln pt tx br rw rest) o (hC ll he de li en po pw su wr cs wb bt ct lc ad ctb lcb adb fx us ln pt tx br rw rest) := by
  subst ho
  refine am_body (by decide) rfl (Nat.le_of_ble_eq_true rfl) rfl ?_
  rw [f_Folder_isPart] at hf
  refine g_aload_n (n := 1) d_Folder_isPart_0 rfl 0 rfl rfl ?_
  refine g_iload_n (n := 2) d_Folder_isPart_1 rfl 1 rfl rfl ?_
  refine g_iconst (n := 3) (v := 0) d_Folder_isPart_2 rfl (by decide) ?_
  obtain ⟨r1, h2, hf⟩ := ob_bind hf
  refine c_Vr (n := 6) (st' := [.int r1]) [.int x1, .int 0] [] d_Folder_isPart_3 rfl (s_Folder_byteOf htr h2 rfl) tw_426 tw_427 tw_428 tw_5 tw_429 hd_Folder_byteOf (by omega) (by decide) (ci := 1) rfl rfl rfl (Nat.le_of_ble_eq_true rfl) rfl rfl ?_
  refine g_iload_n (n := 7) d_Folder_isPart_6 rfl 2 rfl rfl ?_
  refine g_icmp_ne (n := 10) (tgt := 37) d_Folder_isPart_7 rfl (by decide) (fun q3 => ?_) (fun q3 => ?_)
  · have hf := ob_neg q3 hf
    refine g_iconst (n := 38) (v := 0) d_Folder_isPart_37 rfl (by decide) ?_
    cases hf
    exact g_zret d_Folder_isPart_38 rfl am_z0 (Nat.zero_le _) (Nat.zero_le _)
  · have hf := ob_pos q3 hf
    refine g_aload_n (n := 11) d_Folder_isPart_10 rfl 0 rfl rfl ?_
    refine g_iload_n (n := 12) d_Folder_isPart_11 rfl 1 rfl rfl ?_
    refine g_bipush (n := 14) (v := 6) d_Folder_isPart_12 rfl (by decide) ?_
    obtain ⟨r4, h5, hf⟩ := ob_bind hf
    refine c_Vr (n := 17) (st' := [.int r4]) [.int x1, .int 6] [] d_Folder_isPart_14 rfl (s_Folder_byteOf htr h5 rfl) tw_426 tw_427 tw_428 tw_5 tw_429 hd_Folder_byteOf (by omega) (by decide) (ci := 1) rfl rfl rfl (Nat.le_of_ble_eq_true rfl) rfl rfl ?_
    refine g_bipush (n := 19) (v := 15) d_Folder_isPart_17 rfl (by decide) ?_
    refine g_icmp_ne (n := 22) (tgt := 37) d_Folder_isPart_19 rfl (by decide) (fun q6 => ?_) (fun q6 => ?_)
    · have hf := ob_neg q6 hf
      refine g_iconst (n := 38) (v := 0) d_Folder_isPart_37 rfl (by decide) ?_
      cases hf
      exact g_zret d_Folder_isPart_38 rfl am_z0 (Nat.zero_le _) (Nat.zero_le _)
    · have hf := ob_pos q6 hf
      refine g_aload_n (n := 23) d_Folder_isPart_22 rfl 0 rfl rfl ?_
      refine g_iload_n (n := 24) d_Folder_isPart_23 rfl 1 rfl rfl ?_
      refine g_bipush (n := 26) (v := 7) d_Folder_isPart_24 rfl (by decide) ?_
      obtain ⟨r7, h8, hf⟩ := ob_bind hf
      refine c_Vr (n := 29) (st' := [.int r7]) [.int x1, .int 7] [] d_Folder_isPart_26 rfl (s_Folder_byteOf htr h8 rfl) tw_426 tw_427 tw_428 tw_5 tw_429 hd_Folder_byteOf (by omega) (by decide) (ci := 1) rfl rfl rfl (Nat.le_of_ble_eq_true rfl) rfl rfl ?_
      refine g_iload_n (n := 30) d_Folder_isPart_29 rfl 3 rfl rfl ?_
      refine g_icmp_ne (n := 33) (tgt := 37) d_Folder_isPart_30 rfl (by decide) (fun q9 => ?_) (fun q9 => ?_)
      · have hf := ob_neg q9 hf
        refine g_iconst (n := 38) (v := 0) d_Folder_isPart_37 rfl (by decide) ?_
        cases hf
        exact g_zret d_Folder_isPart_38 rfl am_z0 (Nat.zero_le _) (Nat.zero_le _)
      · have hf := ob_pos q9 hf
        refine g_iconst (n := 34) (v := 1) d_Folder_isPart_33 rfl (by decide) ?_
        refine g_goto (n := 38) d_Folder_isPart_34 (by decide) ?_
        cases hf
        exact g_zret d_Folder_isPart_38 rfl am_z1 (Nat.zero_le _) (Nat.zero_le _)
def f_Folder_partsOf (bt : Nat → Int32) (ct : Int32) (ad : Nat → Int32) (x1 : Int32) : Option (Int32) :=
  ((f_Folder_isNamed bt ct ad x1).bind fun r1 => (if r1 = 0 then some 0 else ((f_Folder_sumOf bt ct ad x1).bind fun r4 => ((f_Folder_isPart bt ct ad (x1 - 1) 65 r4).bind fun r6 => (if r6 = 0 then ((f_Folder_isPart bt ct ad (x1 - 1) 1 r4).bind fun r9 => (if r9 = 0 then some 0 else ((f_Folder_isPart bt ct ad (x1 - 2) 66 r4).bind fun r13 => (if r13 = 0 then some 0 else some 2)))) else some 1)))))
set_option maxHeartbeats 4000000 in
set_option maxRecDepth 100000 in
theorem s_Folder_partsOf {l : Launch} {D : va_G} {dA : FieldType → ClassId} (htr : l.stackTraces = false) {rest : List am_E} {ll : Int32} {he : Int32} {de : Int32} {li : Nat → Int32} {en : Nat → Int32} {po : Nat → Int32} {pw : Int32} {su : Int32} {wr : Int32} {cs : Int32} {wb : Int32} {bt : Nat → Int32} {ct : Int32} {lc : Int32} {ad : Nat → Int32} {ctb : Int32} {lcb : Int32} {adb : Nat → Int32} {fx : Int32} {us : Nat → Int32} {ln : Int32} {pt : Int32} {tx : Nat → Int32} {br : Nat → Int32} {rw : Nat → Int32}  {x1 : Int32} {r : Int32} (hf : f_Folder_partsOf bt ct ad x1 = some r) {o : am_O} (ho : .inl (some (.int r)) = o) :
    am_M (am_kk l D dA) y_Folder_partsOf ws_Folder_partsOf (am_rm 3 o) [.ref 8, .int x1] (hC ll he de li en po pw su wr cs wb bt ct lc ad ctb lcb adb fx us ln pt tx br rw rest) o (hC ll he de li en po pw su wr cs wb bt ct lc ad ctb lcb adb fx us ln pt tx br rw rest) := by
  subst ho
  refine am_body (by decide) rfl (Nat.le_of_ble_eq_true rfl) rfl ?_
  rw [f_Folder_partsOf] at hf
  refine g_aload_n (n := 1) d_Folder_partsOf_0 rfl 0 rfl rfl ?_
  refine g_iload_n (n := 2) d_Folder_partsOf_1 rfl 1 rfl rfl ?_
  obtain ⟨r1, h2, hf⟩ := ob_bind hf
  refine c_Vr (n := 5) (st' := [.int r1]) [.int x1] [] d_Folder_partsOf_2 rfl (s_Folder_isNamed htr h2 rfl) tw_431 tw_432 tw_433 tw_5 tw_434 hd_Folder_isNamed (by omega) (by decide) (ci := 1) rfl rfl rfl (Nat.le_of_ble_eq_true rfl) rfl rfl ?_
  refine g_if_ne (n := 8) (tgt := 10) d_Folder_partsOf_5 rfl (by decide) (fun q3 => ?_) (fun q3 => ?_)
  · have hf := ob_neg q3 hf
    refine g_aload_n (n := 11) d_Folder_partsOf_10 rfl 0 rfl rfl ?_
    refine g_iload_n (n := 12) d_Folder_partsOf_11 rfl 1 rfl rfl ?_
    obtain ⟨r4, h5, hf⟩ := ob_bind hf
    refine c_Vr (n := 15) (st' := [.int r4]) [.int x1] [] d_Folder_partsOf_12 rfl (s_Folder_sumOf htr h5 rfl) tw_455 tw_456 tw_457 tw_5 tw_458 hd_Folder_sumOf (by omega) (by decide) (ci := 1) rfl rfl rfl (Nat.le_of_ble_eq_true rfl) rfl rfl ?_
    refine g_istore_n (n := 16) (ls' := [(2, .int r4), (0, .ref 8), (1, .int x1)]) d_Folder_partsOf_15 rfl rfl (am_ltb rfl) rfl ?_
    refine g_aload_n (n := 17) d_Folder_partsOf_16 rfl 1 rfl rfl ?_
    refine g_iload_n (n := 18) d_Folder_partsOf_17 rfl 2 rfl rfl ?_
    refine g_iconst (n := 19) (v := 1) d_Folder_partsOf_18 rfl (by decide) ?_
    refine g_isub (n := 20) d_Folder_partsOf_19 rfl ?_
    refine g_bipush (n := 22) (v := 65) d_Folder_partsOf_20 rfl (by decide) ?_
    refine g_iload_n (n := 23) d_Folder_partsOf_22 rfl 0 rfl rfl ?_
    obtain ⟨r6, h7, hf⟩ := ob_bind hf
    refine c_Vr (n := 26) (st' := [.int r6]) [.int (x1 - 1), .int 65, .int r4] [] d_Folder_partsOf_23 rfl (s_Folder_isPart htr h7 rfl) tw_462 tw_463 tw_464 tw_5 tw_465 hd_Folder_isPart (by omega) (by decide) (ci := 1) rfl rfl rfl (Nat.le_of_ble_eq_true rfl) rfl rfl ?_
    refine g_if_eq (n := 29) (tgt := 31) d_Folder_partsOf_26 rfl (by decide) (fun q8 => ?_) (fun q8 => ?_)
    · have hf := ob_pos q8 hf
      refine g_aload_n (n := 32) d_Folder_partsOf_31 rfl 1 rfl rfl ?_
      refine g_iload_n (n := 33) d_Folder_partsOf_32 rfl 2 rfl rfl ?_
      refine g_iconst (n := 34) (v := 1) d_Folder_partsOf_33 rfl (by decide) ?_
      refine g_isub (n := 35) d_Folder_partsOf_34 rfl ?_
      refine g_iconst (n := 36) (v := 1) d_Folder_partsOf_35 rfl (by decide) ?_
      refine g_iload_n (n := 37) d_Folder_partsOf_36 rfl 0 rfl rfl ?_
      obtain ⟨r9, h10, hf⟩ := ob_bind hf
      refine c_Vr (n := 40) (st' := [.int r9]) [.int (x1 - 1), .int 1, .int r4] [] d_Folder_partsOf_37 rfl (s_Folder_isPart htr h10 rfl) tw_462 tw_463 tw_464 tw_5 tw_465 hd_Folder_isPart (by omega) (by decide) (ci := 1) rfl rfl rfl (Nat.le_of_ble_eq_true rfl) rfl rfl ?_
      refine g_if_eq (n := 43) (tgt := 60) d_Folder_partsOf_40 rfl (by decide) (fun q11 => ?_) (fun q11 => ?_)
      · have hf := ob_pos q11 hf
        refine g_iconst (n := 61) (v := 0) d_Folder_partsOf_60 rfl (by decide) ?_
        refine g_istore_n (n := 62) (ls' := [(3, .int 0), (2, .int r4), (0, .ref 8), (1, .int x1)]) d_Folder_partsOf_61 rfl rfl (am_ltb rfl) rfl ?_
        refine g_iload_n (n := 63) d_Folder_partsOf_62 rfl 0 rfl rfl ?_
        refine g_if_eq (n := 66) (tgt := 70) d_Folder_partsOf_63 rfl (by decide) (fun _ => ?_) (fun q12 => absurd q12 (by decide))
        refine g_iconst (n := 71) (v := 0) d_Folder_partsOf_70 rfl (by decide) ?_
        cases hf
        exact g_iret d_Folder_partsOf_71 rfl (Nat.zero_le _) (Nat.zero_le _)
      · have hf := ob_neg q11 hf
        refine g_aload_n (n := 44) d_Folder_partsOf_43 rfl 1 rfl rfl ?_
        refine g_iload_n (n := 45) d_Folder_partsOf_44 rfl 2 rfl rfl ?_
        refine g_iconst (n := 46) (v := 2) d_Folder_partsOf_45 rfl (by decide) ?_
        refine g_isub (n := 47) d_Folder_partsOf_46 rfl ?_
        refine g_bipush (n := 49) (v := 66) d_Folder_partsOf_47 rfl (by decide) ?_
        refine g_iload_n (n := 50) d_Folder_partsOf_49 rfl 0 rfl rfl ?_
        obtain ⟨r13, h14, hf⟩ := ob_bind hf
        refine c_Vr (n := 53) (st' := [.int r13]) [.int (x1 - 2), .int 66, .int r4] [] d_Folder_partsOf_50 rfl (s_Folder_isPart htr h14 rfl) tw_462 tw_463 tw_464 tw_5 tw_465 hd_Folder_isPart (by omega) (by decide) (ci := 1) rfl rfl rfl (Nat.le_of_ble_eq_true rfl) rfl rfl ?_
        refine g_if_eq (n := 56) (tgt := 60) d_Folder_partsOf_53 rfl (by decide) (fun q15 => ?_) (fun q15 => ?_)
        · have hf := ob_pos q15 hf
          refine g_iconst (n := 61) (v := 0) d_Folder_partsOf_60 rfl (by decide) ?_
          refine g_istore_n (n := 62) (ls' := [(3, .int 0), (2, .int r4), (0, .ref 8), (1, .int x1)]) d_Folder_partsOf_61 rfl rfl (am_ltb rfl) rfl ?_
          refine g_iload_n (n := 63) d_Folder_partsOf_62 rfl 0 rfl rfl ?_
          refine g_if_eq (n := 66) (tgt := 70) d_Folder_partsOf_63 rfl (by decide) (fun _ => ?_) (fun q16 => absurd q16 (by decide))
          refine g_iconst (n := 71) (v := 0) d_Folder_partsOf_70 rfl (by decide) ?_
          cases hf
          exact g_iret d_Folder_partsOf_71 rfl (Nat.zero_le _) (Nat.zero_le _)
        · have hf := ob_neg q15 hf
          refine g_iconst (n := 57) (v := 1) d_Folder_partsOf_56 rfl (by decide) ?_
          refine g_goto (n := 61) d_Folder_partsOf_57 (by decide) ?_
          refine g_istore_n (n := 62) (ls' := [(3, .int 1), (2, .int r4), (0, .ref 8), (1, .int x1)]) d_Folder_partsOf_61 rfl rfl (am_ltb rfl) rfl ?_
          refine g_iload_n (n := 63) d_Folder_partsOf_62 rfl 0 rfl rfl ?_
          refine g_if_eq (n := 66) (tgt := 70) d_Folder_partsOf_63 rfl (by decide) (fun q17 => absurd q17 (by decide)) (fun _ => ?_)
          refine g_iconst (n := 67) (v := 2) d_Folder_partsOf_66 rfl (by decide) ?_
          refine g_goto (n := 71) d_Folder_partsOf_67 (by decide) ?_
          cases hf
          exact g_iret d_Folder_partsOf_71 rfl (Nat.zero_le _) (Nat.zero_le _)
    · have hf := ob_neg q8 hf
      refine g_iconst (n := 30) (v := 1) d_Folder_partsOf_29 rfl (by decide) ?_
      cases hf
      exact g_iret d_Folder_partsOf_30 rfl (Nat.zero_le _) (Nat.zero_le _)
  · have hf := ob_pos q3 hf
    refine g_iconst (n := 9) (v := 0) d_Folder_partsOf_8 rfl (by decide) ?_
    cases hf
    exact g_iret d_Folder_partsOf_9 rfl (Nat.zero_le _) (Nat.zero_le _)
def f_V_placeInPart (x0 : Int32) : Option (Int32) :=
  (if 5 ≤ x0 then some (x0 + 3) else some (x0 + 1))
set_option maxHeartbeats 4000000 in
set_option maxRecDepth 100000 in
theorem s_V_placeInPart {l : Launch} {D : va_G} {dA : FieldType → ClassId} (htr : l.stackTraces = false) {rest : List am_E} {ll : Int32} {he : Int32} {de : Int32} {li : Nat → Int32} {en : Nat → Int32} {po : Nat → Int32} {pw : Int32} {su : Int32} {wr : Int32} {cs : Int32} {wb : Int32} {bt : Nat → Int32} {ct : Int32} {lc : Int32} {ad : Nat → Int32} {ctb : Int32} {lcb : Int32} {adb : Nat → Int32} {fx : Int32} {us : Nat → Int32} {ln : Int32} {pt : Int32} {tx : Nat → Int32} {br : Nat → Int32} {rw : Nat → Int32}  {x0 : Int32} {r : Int32} (hf : f_V_placeInPart x0 = some r) {o : am_O} (ho : .inl (some (.int r)) = o) :
    am_M (am_kk l D dA) y_V_placeInPart ws_V_placeInPart (am_rm 0 o) [.int x0] (hC ll he de li en po pw su wr cs wb bt ct lc ad ctb lcb adb fx us ln pt tx br rw rest) o (hC ll he de li en po pw su wr cs wb bt ct lc ad ctb lcb adb fx us ln pt tx br rw rest) := by
  subst ho
  refine am_body (by decide) rfl (Nat.le_of_ble_eq_true rfl) rfl ?_
  rw [f_V_placeInPart] at hf
  refine g_iload_n (n := 1) d_V_placeInPart_0 rfl 0 rfl rfl ?_
  refine g_iconst (n := 2) (v := 5) d_V_placeInPart_1 rfl (by decide) ?_
  refine g_icmp_ge (n := 5) (tgt := 11) d_V_placeInPart_2 rfl (by decide) (fun q1 => ?_) (fun q1 => ?_)
  · have hf := ob_pos q1 hf
    refine g_iload_n (n := 12) d_V_placeInPart_11 rfl 0 rfl rfl ?_
    refine g_iconst (n := 13) (v := 3) d_V_placeInPart_12 rfl (by decide) ?_
    refine g_iadd (n := 14) d_V_placeInPart_13 rfl ?_
    cases hf
    exact g_iret d_V_placeInPart_14 rfl (Nat.zero_le _) (Nat.zero_le _)
  · have hf := ob_neg q1 hf
    refine g_iload_n (n := 6) d_V_placeInPart_5 rfl 0 rfl rfl ?_
    refine g_iconst (n := 7) (v := 1) d_V_placeInPart_6 rfl (by decide) ?_
    refine g_iadd (n := 8) d_V_placeInPart_7 rfl ?_
    refine g_goto (n := 14) d_V_placeInPart_8 (by decide) ?_
    cases hf
    exact g_iret d_V_placeInPart_14 rfl (Nat.zero_le _) (Nat.zero_le _)
def f_Folder_longByteOf (bt : Nat → Int32) (ct : Int32) (ad : Nat → Int32) (x1 : Int32) (x2 : Int32) : Option (Int32) :=
  ((f_V_placeInPart (x2 - x2 / 13 * 13)).bind fun r1 => ((f_Folder_byteOf bt ct ad ((x1 - 1) - (x2 / 13)) r1).bind fun r3 => some r3))
set_option maxHeartbeats 4000000 in
set_option maxRecDepth 100000 in
theorem s_Folder_longByteOf {l : Launch} {D : va_G} {dA : FieldType → ClassId} (htr : l.stackTraces = false) {rest : List am_E} {ll : Int32} {he : Int32} {de : Int32} {li : Nat → Int32} {en : Nat → Int32} {po : Nat → Int32} {pw : Int32} {su : Int32} {wr : Int32} {cs : Int32} {wb : Int32} {bt : Nat → Int32} {ct : Int32} {lc : Int32} {ad : Nat → Int32} {ctb : Int32} {lcb : Int32} {adb : Nat → Int32} {fx : Int32} {us : Nat → Int32} {ln : Int32} {pt : Int32} {tx : Nat → Int32} {br : Nat → Int32} {rw : Nat → Int32}  {x1 : Int32} {x2 : Int32} {r : Int32} (hf : f_Folder_longByteOf bt ct ad x1 x2 = some r) {o : am_O} (ho : .inl (some (.int r)) = o) :
    am_M (am_kk l D dA) y_Folder_longByteOf ws_Folder_longByteOf (am_rm 2 o) [.ref 8, .int x1, .int x2] (hC ll he de li en po pw su wr cs wb bt ct lc ad ctb lcb adb fx us ln pt tx br rw rest) o (hC ll he de li en po pw su wr cs wb bt ct lc ad ctb lcb adb fx us ln pt tx br rw rest) := by
  subst ho
  refine am_body (by decide) rfl (Nat.le_of_ble_eq_true rfl) rfl ?_
  rw [f_Folder_longByteOf] at hf
  refine g_aload_n (n := 1) d_Folder_longByteOf_0 rfl 0 rfl rfl ?_
  refine g_iload_n (n := 2) d_Folder_longByteOf_1 rfl 1 rfl rfl ?_
  refine g_iconst (n := 3) (v := 1) d_Folder_longByteOf_2 rfl (by decide) ?_
  refine g_isub (n := 4) d_Folder_longByteOf_3 rfl ?_
  refine g_iload_n (n := 5) d_Folder_longByteOf_4 rfl 2 rfl rfl ?_
  refine g_bipush (n := 7) (v := 13) d_Folder_longByteOf_5 rfl (by decide) ?_
  refine g_idiv (n := 8) d_Folder_longByteOf_7 rfl (by decide) ?_
  refine g_isub (n := 9) d_Folder_longByteOf_8 rfl ?_
  refine g_iload_n (n := 10) d_Folder_longByteOf_9 rfl 2 rfl rfl ?_
  refine g_bipush (n := 12) (v := 13) d_Folder_longByteOf_10 rfl (by decide) ?_
  refine g_irem (n := 13) d_Folder_longByteOf_12 rfl (by decide) ?_
  obtain ⟨r1, h2, hf⟩ := ob_bind hf
  refine c_SNr (n := 16) (st' := [.int r1, .int ((x1 - 1) - (x2 / 13)), .ref 8]) [.int (x2 - x2 / 13 * 13)] [.int ((x1 - 1) - (x2 / 13)), .ref 8] d_Folder_longByteOf_13 rfl (s_V_placeInPart htr h2 rfl) nw_478 tw_479 tw_1 tw_480 hd_V_placeInPart (by omega) (by decide) rfl (Nat.le_of_ble_eq_true rfl) rfl rfl ?_
  obtain ⟨r3, h4, hf⟩ := ob_bind hf
  refine c_Vr (n := 19) (st' := [.int r3]) [.int ((x1 - 1) - (x2 / 13)), .int r1] [] d_Folder_longByteOf_16 rfl (s_Folder_byteOf htr h4 rfl) tw_426 tw_427 tw_428 tw_5 tw_429 hd_Folder_byteOf (by omega) (by decide) (ci := 1) rfl rfl rfl (Nat.le_of_ble_eq_true rfl) rfl rfl ?_
  cases hf
  exact g_iret d_Folder_longByteOf_19 rfl (Nat.zero_le _) (Nat.zero_le _)
def f_Folder_longLengthOf_L2 : Nat → (Nat → Int32) → Int32 → (Nat → Int32) → Int32 → Int32 → Int32 → Option (Int32)
  | 0, _, _, _, _, _, _ => none
  | fuel + 1, bt, ct, ad, x1, x2, x3 =>
  (if (x2 * 13) ≤ x3 then some (x2 * 13) else ((f_Folder_longByteOf bt ct ad x1 x3).bind fun r2 => (if r2 = 0 then some x3 else f_Folder_longLengthOf_L2 fuel bt ct ad x1 x2 (x3 + 1))))
set_option maxHeartbeats 4000000 in
set_option maxRecDepth 100000 in
theorem s_Folder_longLengthOf_L2 {l : Launch} {D : va_G} {dA : FieldType → ClassId} (htr : l.stackTraces = false) {rest : List am_E} {ll : Int32} {he : Int32} {de : Int32} {li : Nat → Int32} {en : Nat → Int32} {po : Nat → Int32} {pw : Int32} {su : Int32} {wr : Int32} {cs : Int32} {wb : Int32} {lc : Int32} {ctb : Int32} {lcb : Int32} {adb : Nat → Int32} {fx : Int32} {us : Nat → Int32} {ln : Int32} {pt : Int32} {tx : Nat → Int32} {br : Nat → Int32} {rw : Nat → Int32}  : ∀ (fuel : Nat) (bt : Nat → Int32) (ct : Int32) (ad : Nat → Int32) (x1 : Int32) (x2 : Int32) (x3 : Int32) (r : Int32), f_Folder_longLengthOf_L2 fuel bt ct ad x1 x2 x3 = some r → ∀ o : am_O, .inl (some (.int r)) = o →
    am_G (am_kk l D dA) (ws_Folder_longLengthOf, y_Folder_longLengthOf.cls, prog_3_method_27_code, 4, (some .int), y_Folder_longLengthOf.name, [], am_rm 3 (o), none) o (hC ll he de li en po pw su wr cs wb bt ct lc ad ctb lcb adb fx us ln pt tx br rw rest) 0 0 2 [(0, .ref 8), (1, .int x1), (2, .int x2), (3, .int x3)] [] (hC ll he de li en po pw su wr cs wb bt ct lc ad ctb lcb adb fx us ln pt tx br rw rest) := by
  intro fuel
  induction fuel with
  | zero =>
    intro bt ct ad x1 x2 x3 r hf
    cases hf
  | succ fuel ih =>
    intro bt ct ad x1 x2 x3 r hf o ho
    subst ho
    rw [f_Folder_longLengthOf_L2] at hf
    refine g_iload_n (n := 3) d_Folder_longLengthOf_2 rfl 3 rfl rfl ?_
    refine g_iload_n (n := 4) d_Folder_longLengthOf_3 rfl 2 rfl rfl ?_
    refine g_bipush (n := 6) (v := 13) d_Folder_longLengthOf_4 rfl (by decide) ?_
    refine g_imul (n := 7) d_Folder_longLengthOf_6 rfl ?_
    refine g_icmp_ge (n := 10) (tgt := 27) d_Folder_longLengthOf_7 rfl (by decide) (fun q1 => ?_) (fun q1 => ?_)
    · have hf := ob_pos q1 hf
      refine g_iload_n (n := 28) d_Folder_longLengthOf_27 rfl 2 rfl rfl ?_
      refine g_bipush (n := 30) (v := 13) d_Folder_longLengthOf_28 rfl (by decide) ?_
      refine g_imul (n := 31) d_Folder_longLengthOf_30 rfl ?_
      cases hf
      exact g_iret d_Folder_longLengthOf_31 rfl (Nat.zero_le _) (Nat.zero_le _)
    · have hf := ob_neg q1 hf
      refine g_aload_n (n := 11) d_Folder_longLengthOf_10 rfl 0 rfl rfl ?_
      refine g_iload_n (n := 12) d_Folder_longLengthOf_11 rfl 1 rfl rfl ?_
      refine g_iload_n (n := 13) d_Folder_longLengthOf_12 rfl 3 rfl rfl ?_
      obtain ⟨r2, h3, hf⟩ := ob_bind hf
      refine c_Vr (n := 16) (st' := [.int r2]) [.int x1, .int x3] [] d_Folder_longLengthOf_13 rfl (s_Folder_longByteOf htr h3 rfl) tw_474 tw_475 tw_476 tw_5 tw_477 hd_Folder_longByteOf (by omega) (by decide) (ci := 1) rfl rfl rfl (Nat.le_of_ble_eq_true rfl) rfl rfl ?_
      refine g_if_ne (n := 19) (tgt := 21) d_Folder_longLengthOf_16 rfl (by decide) (fun q4 => ?_) (fun q4 => ?_)
      · have hf := ob_neg q4 hf
        refine g_iinc (n := 24) (v := (x3 + 1)) (ls' := [(3, .int (x3 + 1)), (0, .ref 8), (1, .int x1), (2, .int x2)]) d_Folder_longLengthOf_21 rfl 3 rfl rfl (am_ltb rfl) rfl ?_
        refine g_goto (n := 2) d_Folder_longLengthOf_24 (by decide) ?_
        refine g_ls [1, 2, 3, 0] rfl ?_
        exact ih bt ct ad x1 x2 (x3 + 1) _ hf _ rfl
      · have hf := ob_pos q4 hf
        refine g_iload_n (n := 20) d_Folder_longLengthOf_19 rfl 3 rfl rfl ?_
        cases hf
        exact g_iret d_Folder_longLengthOf_20 rfl (Nat.zero_le _) (Nat.zero_le _)
def f_Folder_longLengthOf (bt : Nat → Int32) (ct : Int32) (ad : Nat → Int32) (x1 : Int32) (x2 : Int32) : Option (Int32) :=
  f_Folder_longLengthOf_L2 100000000000 bt ct ad x1 x2 0
set_option maxHeartbeats 4000000 in
set_option maxRecDepth 100000 in
theorem s_Folder_longLengthOf {l : Launch} {D : va_G} {dA : FieldType → ClassId} (htr : l.stackTraces = false) {rest : List am_E} {ll : Int32} {he : Int32} {de : Int32} {li : Nat → Int32} {en : Nat → Int32} {po : Nat → Int32} {pw : Int32} {su : Int32} {wr : Int32} {cs : Int32} {wb : Int32} {bt : Nat → Int32} {ct : Int32} {lc : Int32} {ad : Nat → Int32} {ctb : Int32} {lcb : Int32} {adb : Nat → Int32} {fx : Int32} {us : Nat → Int32} {ln : Int32} {pt : Int32} {tx : Nat → Int32} {br : Nat → Int32} {rw : Nat → Int32}  {x1 : Int32} {x2 : Int32} {r : Int32} (hf : f_Folder_longLengthOf bt ct ad x1 x2 = some r) {o : am_O} (ho : .inl (some (.int r)) = o) :
    am_M (am_kk l D dA) y_Folder_longLengthOf ws_Folder_longLengthOf (am_rm 3 o) [.ref 8, .int x1, .int x2] (hC ll he de li en po pw su wr cs wb bt ct lc ad ctb lcb adb fx us ln pt tx br rw rest) o (hC ll he de li en po pw su wr cs wb bt ct lc ad ctb lcb adb fx us ln pt tx br rw rest) := by
  subst ho
  refine am_body (by decide) rfl (Nat.le_of_ble_eq_true rfl) rfl ?_
  rw [f_Folder_longLengthOf] at hf
  refine g_iconst (n := 1) (v := 0) d_Folder_longLengthOf_0 rfl (by decide) ?_
  refine g_istore_n (n := 2) (ls' := [(3, .int 0), (0, .ref 8), (1, .int x1), (2, .int x2)]) d_Folder_longLengthOf_1 rfl rfl (am_ltb rfl) rfl ?_
  refine g_ls [1, 2, 3, 0] rfl ?_
  exact s_Folder_longLengthOf_L2 htr 100000000000 bt ct ad x1 x2 0 _ hf _ rfl
def f_Folder_isLongCalled_L22 : Nat → (Nat → Int32) → Int32 → (Nat → Int32) → Int32 → (Nat → Int32) → Int32 → Int32 → Option (Int32)
  | 0, _, _, _, _, _, _, _ => none
  | fuel + 1, bt, ct, ad, ln, tx, x1, x4 =>
  (if ln ≤ x4 then some 1 else ((f_Folder_longByteOf bt ct ad x1 x4).bind fun r6 => ((f_V_capital r6).bind fun r8 => ((f_Name_charAt ln tx x4).bind fun r10 => ((f_V_capital r10).bind fun r12 => (if r8 = r12 then f_Folder_isLongCalled_L22 fuel bt ct ad ln tx x1 (x4 + 1) else some 0))))))
set_option maxHeartbeats 4000000 in
set_option maxRecDepth 100000 in
theorem s_Folder_isLongCalled_L22 {l : Launch} {D : va_G} {dA : FieldType → ClassId} (htr : l.stackTraces = false) {rest : List am_E} {ll : Int32} {he : Int32} {de : Int32} {li : Nat → Int32} {en : Nat → Int32} {po : Nat → Int32} {pw : Int32} {su : Int32} {wr : Int32} {cs : Int32} {wb : Int32} {lc : Int32} {ctb : Int32} {lcb : Int32} {adb : Nat → Int32} {fx : Int32} {us : Nat → Int32} {pt : Int32} {br : Nat → Int32} {rw : Nat → Int32}  : ∀ (fuel : Nat) (bt : Nat → Int32) (ct : Int32) (ad : Nat → Int32) (ln : Int32) (tx : Nat → Int32) (x1 : Int32) (x4 : Int32) (r : Int32), f_Folder_isLongCalled_L22 fuel bt ct ad ln tx x1 x4 = some r → ∀ o : am_O, .inl (some (.int r)) = o →
    am_G (am_kk l D dA) (ws_Folder_isLongCalled, y_Folder_isLongCalled.cls, prog_3_method_17_code, 5, (some .boolean), y_Folder_isLongCalled.name, [], am_rm 4 (o), none) o (hC ll he de li en po pw su wr cs wb bt ct lc ad ctb lcb adb fx us ln pt tx br rw rest) 0 0 22 [(0, .ref 8), (1, .int x1), (2, .ref 14), (4, .int x4)] [] (hC ll he de li en po pw su wr cs wb bt ct lc ad ctb lcb adb fx us ln pt tx br rw rest) := by
  intro fuel
  induction fuel with
  | zero =>
    intro bt ct ad ln tx x1 x4 r hf
    cases hf
  | succ fuel ih =>
    intro bt ct ad ln tx x1 x4 r hf o ho
    subst ho
    rw [f_Folder_isLongCalled_L22] at hf
    refine g_iload (n := 24) d_Folder_isLongCalled_22 rfl 3 rfl ?_
    refine g_aload_n (n := 25) d_Folder_isLongCalled_24 rfl 2 rfl rfl ?_
    refine g_getN (n := 28) (q0 := 14) d_Folder_isLongCalled_25 rfl (am_fl in_Name rfl (by decide : 2 < 4)) nw_161 rfl rfl ?_
    refine g_icmp_ge (n := 31) (tgt := 61) d_Folder_isLongCalled_28 rfl (by decide) (fun q5 => ?_) (fun q5 => ?_)
    · have hf := ob_pos q5 hf
      refine g_iconst (n := 62) (v := 1) d_Folder_isLongCalled_61 rfl (by decide) ?_
      cases hf
      exact g_zret d_Folder_isLongCalled_62 rfl am_z1 (Nat.zero_le _) (Nat.zero_le _)
    · have hf := ob_neg q5 hf
      refine g_aload_n (n := 32) d_Folder_isLongCalled_31 rfl 0 rfl rfl ?_
      refine g_iload_n (n := 33) d_Folder_isLongCalled_32 rfl 1 rfl rfl ?_
      refine g_iload (n := 35) d_Folder_isLongCalled_33 rfl 3 rfl ?_
      obtain ⟨r6, h7, hf⟩ := ob_bind hf
      refine c_Vr (n := 38) (st' := [.int r6]) [.int x1, .int x4] [] d_Folder_isLongCalled_35 rfl (s_Folder_longByteOf htr h7 rfl) tw_474 tw_475 tw_476 tw_5 tw_477 hd_Folder_longByteOf (by omega) (by decide) (ci := 1) rfl rfl rfl (Nat.le_of_ble_eq_true rfl) rfl rfl ?_
      obtain ⟨r8, h9, hf⟩ := ob_bind hf
      refine c_SNr (n := 41) (st' := [.int r8]) [.int r6] [] d_Folder_isLongCalled_38 rfl (s_V_capital htr h9 rfl) nw_447 tw_448 tw_1 tw_449 hd_V_capital (by omega) (by decide) rfl (Nat.le_of_ble_eq_true rfl) rfl rfl ?_
      refine g_aload_n (n := 42) d_Folder_isLongCalled_41 rfl 2 rfl rfl ?_
      refine g_iload (n := 44) d_Folder_isLongCalled_42 rfl 3 rfl ?_
      obtain ⟨r10, h11, hf⟩ := ob_bind hf
      refine c_Vr (n := 47) (st' := [.int r10, .int r8]) [.int x4] [.int r8] d_Folder_isLongCalled_44 rfl (s_Name_charAt htr h11 rfl) tw_450 tw_388 tw_389 tw_7 tw_390 hd_Name_charAt (by omega) (by decide) (ci := 2) rfl rfl rfl (Nat.le_of_ble_eq_true rfl) rfl rfl ?_
      obtain ⟨r12, h13, hf⟩ := ob_bind hf
      refine c_SNr (n := 50) (st' := [.int r12, .int r8]) [.int r10] [.int r8] d_Folder_isLongCalled_47 rfl (s_V_capital htr h13 rfl) nw_447 tw_448 tw_1 tw_449 hd_V_capital (by omega) (by decide) rfl (Nat.le_of_ble_eq_true rfl) rfl rfl ?_
      refine g_icmp_eq (n := 53) (tgt := 55) d_Folder_isLongCalled_50 rfl (by decide) (fun q14 => ?_) (fun q14 => ?_)
      · have hf := ob_pos q14 hf
        refine g_iinc (n := 58) (v := (x4 + 1)) (ls' := [(4, .int (x4 + 1)), (0, .ref 8), (1, .int x1), (2, .ref 14)]) d_Folder_isLongCalled_55 rfl 3 rfl rfl (am_ltb rfl) rfl ?_
        refine g_goto (n := 22) d_Folder_isLongCalled_58 (by decide) ?_
        refine g_ls [1, 2, 3, 0] rfl ?_
        exact ih bt ct ad ln tx x1 (x4 + 1) _ hf _ rfl
      · have hf := ob_neg q14 hf
        refine g_iconst (n := 54) (v := 0) d_Folder_isLongCalled_53 rfl (by decide) ?_
        cases hf
        exact g_zret d_Folder_isLongCalled_54 rfl am_z0 (Nat.zero_le _) (Nat.zero_le _)
def f_Folder_isLongCalled (bt : Nat → Int32) (ct : Int32) (ad : Nat → Int32) (ln : Int32) (tx : Nat → Int32) (x1 : Int32) (x3 : Int32) : Option (Int32) :=
  (if x3 = 0 then some 0 else ((f_Folder_longLengthOf bt ct ad x1 x3).bind fun r2 => (if r2 = ln then f_Folder_isLongCalled_L22 100000000000 bt ct ad ln tx x1 0 else some 0)))
set_option maxHeartbeats 4000000 in
set_option maxRecDepth 100000 in
theorem s_Folder_isLongCalled {l : Launch} {D : va_G} {dA : FieldType → ClassId} (htr : l.stackTraces = false) {rest : List am_E} {ll : Int32} {he : Int32} {de : Int32} {li : Nat → Int32} {en : Nat → Int32} {po : Nat → Int32} {pw : Int32} {su : Int32} {wr : Int32} {cs : Int32} {wb : Int32} {bt : Nat → Int32} {ct : Int32} {lc : Int32} {ad : Nat → Int32} {ctb : Int32} {lcb : Int32} {adb : Nat → Int32} {fx : Int32} {us : Nat → Int32} {ln : Int32} {pt : Int32} {tx : Nat → Int32} {br : Nat → Int32} {rw : Nat → Int32}  {x1 : Int32} {x3 : Int32} {r : Int32} (hf : f_Folder_isLongCalled bt ct ad ln tx x1 x3 = some r) {o : am_O} (ho : .inl (some (.int r)) = o) :
    am_M (am_kk l D dA) y_Folder_isLongCalled ws_Folder_isLongCalled (am_rm 4 o) [.ref 8, .int x1, .ref 14, .int x3] (hC ll he de li en po pw su wr cs wb bt ct lc ad ctb lcb adb fx us ln pt tx br rw rest) o (hC ll he de li en po pw su wr cs wb bt ct lc ad ctb lcb adb fx us ln pt tx br rw rest) := by
  subst ho
  refine am_body (by decide) rfl (Nat.le_of_ble_eq_true rfl) rfl ?_
  rw [f_Folder_isLongCalled] at hf
  refine g_iload_n (n := 1) d_Folder_isLongCalled_0 rfl 3 rfl rfl ?_
  refine g_if_eq (n := 4) (tgt := 17) d_Folder_isLongCalled_1 rfl (by decide) (fun q1 => ?_) (fun q1 => ?_)
  · have hf := ob_pos q1 hf
    refine g_iconst (n := 18) (v := 0) d_Folder_isLongCalled_17 rfl (by decide) ?_
    cases hf
    exact g_zret d_Folder_isLongCalled_18 rfl am_z0 (Nat.zero_le _) (Nat.zero_le _)
  · have hf := ob_neg q1 hf
    refine g_aload_n (n := 5) d_Folder_isLongCalled_4 rfl 0 rfl rfl ?_
    refine g_iload_n (n := 6) d_Folder_isLongCalled_5 rfl 1 rfl rfl ?_
    refine g_iload_n (n := 7) d_Folder_isLongCalled_6 rfl 3 rfl rfl ?_
    obtain ⟨r2, h3, hf⟩ := ob_bind hf
    refine c_Vr (n := 10) (st' := [.int r2]) [.int x1, .int x3] [] d_Folder_isLongCalled_7 rfl (s_Folder_longLengthOf htr h3 rfl) tw_470 tw_471 tw_472 tw_5 tw_473 hd_Folder_longLengthOf (by omega) (by decide) (ci := 1) rfl rfl rfl (Nat.le_of_ble_eq_true rfl) rfl rfl ?_
    refine g_aload_n (n := 11) d_Folder_isLongCalled_10 rfl 2 rfl rfl ?_
    refine g_getN (n := 14) (q0 := 14) d_Folder_isLongCalled_11 rfl (am_fl in_Name rfl (by decide : 2 < 4)) nw_161 rfl rfl ?_
    refine g_icmp_eq (n := 17) (tgt := 19) d_Folder_isLongCalled_14 rfl (by decide) (fun q4 => ?_) (fun q4 => ?_)
    · have hf := ob_pos q4 hf
      refine g_iconst (n := 20) (v := 0) d_Folder_isLongCalled_19 rfl (by decide) ?_
      refine g_istore (n := 22) (ls' := [(4, .int 0), (0, .ref 8), (1, .int x1), (2, .ref 14), (3, .int x3)]) d_Folder_isLongCalled_20 rfl (am_ltb rfl) rfl ?_
      refine g_ls [1, 2, 3, 0] rfl ?_
      exact s_Folder_isLongCalled_L22 htr 100000000000 bt ct ad ln tx x1 0 _ hf _ rfl
    · have hf := ob_neg q4 hf
      refine g_iconst (n := 18) (v := 0) d_Folder_isLongCalled_17 rfl (by decide) ?_
      cases hf
      exact g_zret d_Folder_isLongCalled_18 rfl am_z0 (Nat.zero_le _) (Nat.zero_le _)
def f_Folder_isCalled (bt : Nat → Int32) (ct : Int32) (ad : Nat → Int32) (ln : Int32) (tx : Nat → Int32) (x1 : Int32) : Option (Int32) :=
  ((f_Folder_isShortCalled bt ct ad ln tx x1).bind fun r1 => (if r1 = 0 then ((f_Folder_partsOf bt ct ad x1).bind fun r4 => ((f_Folder_isLongCalled bt ct ad ln tx x1 r4).bind fun r6 => (if r6 = 0 then some 0 else some 1))) else some 1))
set_option maxHeartbeats 4000000 in
set_option maxRecDepth 100000 in
theorem s_Folder_isCalled {l : Launch} {D : va_G} {dA : FieldType → ClassId} (htr : l.stackTraces = false) {rest : List am_E} {ll : Int32} {he : Int32} {de : Int32} {li : Nat → Int32} {en : Nat → Int32} {po : Nat → Int32} {pw : Int32} {su : Int32} {wr : Int32} {cs : Int32} {wb : Int32} {bt : Nat → Int32} {ct : Int32} {lc : Int32} {ad : Nat → Int32} {ctb : Int32} {lcb : Int32} {adb : Nat → Int32} {fx : Int32} {us : Nat → Int32} {ln : Int32} {pt : Int32} {tx : Nat → Int32} {br : Nat → Int32} {rw : Nat → Int32}  {x1 : Int32} {r : Int32} (hf : f_Folder_isCalled bt ct ad ln tx x1 = some r) {o : am_O} (ho : .inl (some (.int r)) = o) :
    am_M (am_kk l D dA) y_Folder_isCalled ws_Folder_isCalled (am_rm 5 o) [.ref 8, .int x1, .ref 14] (hC ll he de li en po pw su wr cs wb bt ct lc ad ctb lcb adb fx us ln pt tx br rw rest) o (hC ll he de li en po pw su wr cs wb bt ct lc ad ctb lcb adb fx us ln pt tx br rw rest) := by
  subst ho
  refine am_body (by decide) rfl (Nat.le_of_ble_eq_true rfl) rfl ?_
  rw [f_Folder_isCalled] at hf
  refine g_aload_n (n := 1) d_Folder_isCalled_0 rfl 0 rfl rfl ?_
  refine g_iload_n (n := 2) d_Folder_isCalled_1 rfl 1 rfl rfl ?_
  refine g_aload_n (n := 3) d_Folder_isCalled_2 rfl 2 rfl rfl ?_
  obtain ⟨r1, h2, hf⟩ := ob_bind hf
  refine c_Vr (n := 6) (st' := [.int r1]) [.int x1, .ref 14] [] d_Folder_isCalled_3 rfl (s_Folder_isShortCalled htr h2 rfl) tw_439 tw_440 tw_441 tw_5 tw_442 hd_Folder_isShortCalled (by omega) (by decide) (ci := 1) rfl rfl rfl (Nat.le_of_ble_eq_true rfl) rfl rfl ?_
  refine g_if_ne (n := 9) (tgt := 23) d_Folder_isCalled_6 rfl (by decide) (fun q3 => ?_) (fun q3 => ?_)
  · have hf := ob_neg q3 hf
    refine g_iconst (n := 24) (v := 1) d_Folder_isCalled_23 rfl (by decide) ?_
    refine g_goto (n := 28) d_Folder_isCalled_24 (by decide) ?_
    cases hf
    exact g_zret d_Folder_isCalled_28 rfl am_z1 (Nat.zero_le _) (Nat.zero_le _)
  · have hf := ob_pos q3 hf
    refine g_aload_n (n := 10) d_Folder_isCalled_9 rfl 0 rfl rfl ?_
    refine g_iload_n (n := 11) d_Folder_isCalled_10 rfl 1 rfl rfl ?_
    refine g_aload_n (n := 12) d_Folder_isCalled_11 rfl 2 rfl rfl ?_
    refine g_aload_n (n := 13) d_Folder_isCalled_12 rfl 0 rfl rfl ?_
    refine g_iload_n (n := 14) d_Folder_isCalled_13 rfl 1 rfl rfl ?_
    obtain ⟨r4, h5, hf⟩ := ob_bind hf
    refine c_Vr (n := 17) (st' := [.int r4, .ref 14, .int x1, .ref 8]) [.int x1] [.ref 14, .int x1, .ref 8] d_Folder_isCalled_14 rfl (s_Folder_partsOf htr h5 rfl) tw_451 tw_452 tw_453 tw_5 tw_454 hd_Folder_partsOf (by omega) (by decide) (ci := 1) rfl rfl rfl (Nat.le_of_ble_eq_true rfl) rfl rfl ?_
    obtain ⟨r6, h7, hf⟩ := ob_bind hf
    refine c_Vr (n := 20) (st' := [.int r6]) [.int x1, .ref 14, .int r4] [] d_Folder_isCalled_17 rfl (s_Folder_isLongCalled htr h7 rfl) tw_466 tw_467 tw_468 tw_5 tw_469 hd_Folder_isLongCalled (by omega) (by decide) (ci := 1) rfl rfl rfl (Nat.le_of_ble_eq_true rfl) rfl rfl ?_
    refine g_if_eq (n := 23) (tgt := 27) d_Folder_isCalled_20 rfl (by decide) (fun q8 => ?_) (fun q8 => ?_)
    · have hf := ob_pos q8 hf
      refine g_iconst (n := 28) (v := 0) d_Folder_isCalled_27 rfl (by decide) ?_
      cases hf
      exact g_zret d_Folder_isCalled_28 rfl am_z0 (Nat.zero_le _) (Nat.zero_le _)
    · have hf := ob_neg q8 hf
      refine g_iconst (n := 24) (v := 1) d_Folder_isCalled_23 rfl (by decide) ?_
      refine g_goto (n := 28) d_Folder_isCalled_24 (by decide) ?_
      cases hf
      exact g_zret d_Folder_isCalled_28 rfl am_z1 (Nat.zero_le _) (Nat.zero_le _)
def f_Folder_find_L2 : Nat → (Nat → Int32) → Int32 → (Nat → Int32) → Int32 → (Nat → Int32) → Int32 → Int32 → Option (Int32)
  | 0, _, _, _, _, _, _, _ => none
  | fuel + 1, bt, ct, ad, ln, tx, x2, x3 =>
  (if ct ≤ x3 then some (-1) else (if x2 = 0 then ((f_Folder_isNamed bt ct ad x3).bind fun r4 => (if r4 = 0 then f_Folder_find_L2 fuel bt ct ad ln tx x2 (x3 + 1) else ((f_Folder_isCalled bt ct ad ln tx x3).bind fun r7 => (if r7 = 0 then f_Folder_find_L2 fuel bt ct ad ln tx x2 (x3 + 1) else some x3)))) else ((f_Folder_kindOf bt ct ad x3).bind fun r10 => (if r10 = x2 then ((f_Folder_isNamed bt ct ad x3).bind fun r15 => (if r15 = 0 then f_Folder_find_L2 fuel bt ct ad ln tx x2 (x3 + 1) else ((f_Folder_isCalled bt ct ad ln tx x3).bind fun r18 => (if r18 = 0 then f_Folder_find_L2 fuel bt ct ad ln tx x2 (x3 + 1) else some x3)))) else f_Folder_find_L2 fuel bt ct ad ln tx x2 (x3 + 1)))))
set_option maxHeartbeats 4000000 in
set_option maxRecDepth 100000 in
theorem s_Folder_find_L2 {l : Launch} {D : va_G} {dA : FieldType → ClassId} (htr : l.stackTraces = false) {rest : List am_E} {ll : Int32} {he : Int32} {de : Int32} {li : Nat → Int32} {en : Nat → Int32} {po : Nat → Int32} {pw : Int32} {su : Int32} {wr : Int32} {cs : Int32} {wb : Int32} {lc : Int32} {ctb : Int32} {lcb : Int32} {adb : Nat → Int32} {fx : Int32} {us : Nat → Int32} {pt : Int32} {br : Nat → Int32} {rw : Nat → Int32}  : ∀ (fuel : Nat) (bt : Nat → Int32) (ct : Int32) (ad : Nat → Int32) (ln : Int32) (tx : Nat → Int32) (x2 : Int32) (x3 : Int32) (r : Int32), f_Folder_find_L2 fuel bt ct ad ln tx x2 x3 = some r → ∀ o : am_O, .inl (some (.int r)) = o →
    am_G (am_kk l D dA) (ws_Folder_find, y_Folder_find.cls, prog_3_method_14_code, 5, (some .int), y_Folder_find.name, [], am_rm 6 (o), none) o (hC ll he de li en po pw su wr cs wb bt ct lc ad ctb lcb adb fx us ln pt tx br rw rest) 0 0 2 [(0, .ref 8), (1, .ref 14), (2, .int x2), (3, .int x3)] [] (hC ll he de li en po pw su wr cs wb bt ct lc ad ctb lcb adb fx us ln pt tx br rw rest) := by
  intro fuel
  induction fuel with
  | zero =>
    intro bt ct ad ln tx x2 x3 r hf
    cases hf
  | succ fuel ih =>
    intro bt ct ad ln tx x2 x3 r hf o ho
    subst ho
    rw [f_Folder_find_L2] at hf
    refine g_iload_n (n := 3) d_Folder_find_2 rfl 3 rfl rfl ?_
    refine g_aload_n (n := 4) d_Folder_find_3 rfl 0 rfl rfl ?_
    refine g_get (n := 7) (q0 := 8) d_Folder_find_4 rfl (am_fl in_Folder rfl (by decide : 3 < 5)) (List.mem_cons_of_mem _ tw_112) rfl rfl ?_
    refine g_icmp_ge (n := 10) (tgt := 60) d_Folder_find_7 rfl (by decide) (fun q1 => ?_) (fun q1 => ?_)
    · have hf := ob_pos q1 hf
      refine g_iconst (n := 61) (v := (-1)) d_Folder_find_60 rfl (by decide) ?_
      cases hf
      exact g_iret d_Folder_find_61 rfl (Nat.zero_le _) (Nat.zero_le _)
    · have hf := ob_neg q1 hf
      refine g_iload_n (n := 11) d_Folder_find_10 rfl 2 rfl rfl ?_
      refine g_if_eq (n := 14) (tgt := 23) d_Folder_find_11 rfl (by decide) (fun q2 => ?_) (fun q2 => ?_)
      · have hf := ob_pos q2 hf
        refine g_iconst (n := 24) (v := 1) d_Folder_find_23 rfl (by decide) ?_
        refine g_goto (n := 28) d_Folder_find_24 (by decide) ?_
        refine g_istore (n := 30) (ls' := [(4, .int 1), (0, .ref 8), (1, .ref 14), (2, .int x2), (3, .int x3)]) d_Folder_find_28 rfl (am_ltb rfl) rfl ?_
        refine g_iload (n := 32) d_Folder_find_30 rfl 0 rfl ?_
        refine g_if_eq (n := 35) (tgt := 54) d_Folder_find_32 rfl (by decide) (fun q3 => absurd q3 (by decide)) (fun _ => ?_)
        refine g_aload_n (n := 36) d_Folder_find_35 rfl 1 rfl rfl ?_
        refine g_iload_n (n := 37) d_Folder_find_36 rfl 4 rfl rfl ?_
        obtain ⟨r4, h5, hf⟩ := ob_bind hf
        refine c_Vr (n := 40) (st' := [.int r4]) [.int x3] [] d_Folder_find_37 rfl (s_Folder_isNamed htr h5 rfl) tw_431 tw_432 tw_433 tw_5 tw_434 hd_Folder_isNamed (by omega) (by decide) (ci := 1) rfl rfl rfl (Nat.le_of_ble_eq_true rfl) rfl rfl ?_
        refine g_if_eq (n := 43) (tgt := 54) d_Folder_find_40 rfl (by decide) (fun q6 => ?_) (fun q6 => ?_)
        · have hf := ob_pos q6 hf
          refine g_iinc (n := 57) (v := (x3 + 1)) (ls' := [(3, .int (x3 + 1)), (4, .int 1), (0, .ref 8), (1, .ref 14), (2, .int x2)]) d_Folder_find_54 rfl 4 rfl rfl (am_ltb rfl) rfl ?_
          refine g_goto (n := 2) d_Folder_find_57 (by decide) ?_
          refine g_ls [2, 3, 4, 0] rfl ?_
          exact ih bt ct ad ln tx x2 (x3 + 1) _ hf _ rfl
        · have hf := ob_neg q6 hf
          refine g_aload_n (n := 44) d_Folder_find_43 rfl 1 rfl rfl ?_
          refine g_iload_n (n := 45) d_Folder_find_44 rfl 4 rfl rfl ?_
          refine g_aload_n (n := 46) d_Folder_find_45 rfl 2 rfl rfl ?_
          obtain ⟨r7, h8, hf⟩ := ob_bind hf
          refine c_Vr (n := 49) (st' := [.int r7]) [.int x3, .ref 14] [] d_Folder_find_46 rfl (s_Folder_isCalled htr h8 rfl) tw_435 tw_436 tw_437 tw_5 tw_438 hd_Folder_isCalled (by omega) (by decide) (ci := 1) rfl rfl rfl (Nat.le_of_ble_eq_true rfl) rfl rfl ?_
          refine g_if_eq (n := 52) (tgt := 54) d_Folder_find_49 rfl (by decide) (fun q9 => ?_) (fun q9 => ?_)
          · have hf := ob_pos q9 hf
            refine g_iinc (n := 57) (v := (x3 + 1)) (ls' := [(3, .int (x3 + 1)), (4, .int 1), (0, .ref 8), (1, .ref 14), (2, .int x2)]) d_Folder_find_54 rfl 4 rfl rfl (am_ltb rfl) rfl ?_
            refine g_goto (n := 2) d_Folder_find_57 (by decide) ?_
            refine g_ls [2, 3, 4, 0] rfl ?_
            exact ih bt ct ad ln tx x2 (x3 + 1) _ hf _ rfl
          · have hf := ob_neg q9 hf
            refine g_iload_n (n := 53) d_Folder_find_52 rfl 4 rfl rfl ?_
            cases hf
            exact g_iret d_Folder_find_53 rfl (Nat.zero_le _) (Nat.zero_le _)
      · have hf := ob_neg q2 hf
        refine g_aload_n (n := 15) d_Folder_find_14 rfl 0 rfl rfl ?_
        refine g_iload_n (n := 16) d_Folder_find_15 rfl 3 rfl rfl ?_
        obtain ⟨r10, h11, hf⟩ := ob_bind hf
        refine c_Vr (n := 19) (st' := [.int r10]) [.int x3] [] d_Folder_find_16 rfl (s_Folder_kindOf htr h11 rfl) tw_422 tw_423 tw_424 tw_5 tw_425 hd_Folder_kindOf (by omega) (by decide) (ci := 1) rfl rfl rfl (Nat.le_of_ble_eq_true rfl) rfl rfl ?_
        refine g_iload_n (n := 20) d_Folder_find_19 rfl 2 rfl rfl ?_
        refine g_icmp_ne (n := 23) (tgt := 27) d_Folder_find_20 rfl (by decide) (fun q12 => ?_) (fun q12 => ?_)
        · have hf := ob_neg q12 hf
          refine g_iconst (n := 28) (v := 0) d_Folder_find_27 rfl (by decide) ?_
          refine g_istore (n := 30) (ls' := [(4, .int 0), (0, .ref 8), (1, .ref 14), (2, .int x2), (3, .int x3)]) d_Folder_find_28 rfl (am_ltb rfl) rfl ?_
          refine g_iload (n := 32) d_Folder_find_30 rfl 0 rfl ?_
          refine g_if_eq (n := 35) (tgt := 54) d_Folder_find_32 rfl (by decide) (fun _ => ?_) (fun q13 => absurd q13 (by decide))
          refine g_iinc (n := 57) (v := (x3 + 1)) (ls' := [(3, .int (x3 + 1)), (4, .int 0), (0, .ref 8), (1, .ref 14), (2, .int x2)]) d_Folder_find_54 rfl 4 rfl rfl (am_ltb rfl) rfl ?_
          refine g_goto (n := 2) d_Folder_find_57 (by decide) ?_
          refine g_ls [2, 3, 4, 0] rfl ?_
          exact ih bt ct ad ln tx x2 (x3 + 1) _ hf _ rfl
        · have hf := ob_pos q12 hf
          refine g_iconst (n := 24) (v := 1) d_Folder_find_23 rfl (by decide) ?_
          refine g_goto (n := 28) d_Folder_find_24 (by decide) ?_
          refine g_istore (n := 30) (ls' := [(4, .int 1), (0, .ref 8), (1, .ref 14), (2, .int x2), (3, .int x3)]) d_Folder_find_28 rfl (am_ltb rfl) rfl ?_
          refine g_iload (n := 32) d_Folder_find_30 rfl 0 rfl ?_
          refine g_if_eq (n := 35) (tgt := 54) d_Folder_find_32 rfl (by decide) (fun q14 => absurd q14 (by decide)) (fun _ => ?_)
          refine g_aload_n (n := 36) d_Folder_find_35 rfl 1 rfl rfl ?_
          refine g_iload_n (n := 37) d_Folder_find_36 rfl 4 rfl rfl ?_
          obtain ⟨r15, h16, hf⟩ := ob_bind hf
          refine c_Vr (n := 40) (st' := [.int r15]) [.int x3] [] d_Folder_find_37 rfl (s_Folder_isNamed htr h16 rfl) tw_431 tw_432 tw_433 tw_5 tw_434 hd_Folder_isNamed (by omega) (by decide) (ci := 1) rfl rfl rfl (Nat.le_of_ble_eq_true rfl) rfl rfl ?_
          refine g_if_eq (n := 43) (tgt := 54) d_Folder_find_40 rfl (by decide) (fun q17 => ?_) (fun q17 => ?_)
          · have hf := ob_pos q17 hf
            refine g_iinc (n := 57) (v := (x3 + 1)) (ls' := [(3, .int (x3 + 1)), (4, .int 1), (0, .ref 8), (1, .ref 14), (2, .int x2)]) d_Folder_find_54 rfl 4 rfl rfl (am_ltb rfl) rfl ?_
            refine g_goto (n := 2) d_Folder_find_57 (by decide) ?_
            refine g_ls [2, 3, 4, 0] rfl ?_
            exact ih bt ct ad ln tx x2 (x3 + 1) _ hf _ rfl
          · have hf := ob_neg q17 hf
            refine g_aload_n (n := 44) d_Folder_find_43 rfl 1 rfl rfl ?_
            refine g_iload_n (n := 45) d_Folder_find_44 rfl 4 rfl rfl ?_
            refine g_aload_n (n := 46) d_Folder_find_45 rfl 2 rfl rfl ?_
            obtain ⟨r18, h19, hf⟩ := ob_bind hf
            refine c_Vr (n := 49) (st' := [.int r18]) [.int x3, .ref 14] [] d_Folder_find_46 rfl (s_Folder_isCalled htr h19 rfl) tw_435 tw_436 tw_437 tw_5 tw_438 hd_Folder_isCalled (by omega) (by decide) (ci := 1) rfl rfl rfl (Nat.le_of_ble_eq_true rfl) rfl rfl ?_
            refine g_if_eq (n := 52) (tgt := 54) d_Folder_find_49 rfl (by decide) (fun q20 => ?_) (fun q20 => ?_)
            · have hf := ob_pos q20 hf
              refine g_iinc (n := 57) (v := (x3 + 1)) (ls' := [(3, .int (x3 + 1)), (4, .int 1), (0, .ref 8), (1, .ref 14), (2, .int x2)]) d_Folder_find_54 rfl 4 rfl rfl (am_ltb rfl) rfl ?_
              refine g_goto (n := 2) d_Folder_find_57 (by decide) ?_
              refine g_ls [2, 3, 4, 0] rfl ?_
              exact ih bt ct ad ln tx x2 (x3 + 1) _ hf _ rfl
            · have hf := ob_neg q20 hf
              refine g_iload_n (n := 53) d_Folder_find_52 rfl 4 rfl rfl ?_
              cases hf
              exact g_iret d_Folder_find_53 rfl (Nat.zero_le _) (Nat.zero_le _)
