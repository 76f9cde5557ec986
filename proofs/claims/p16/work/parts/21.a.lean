def f_Ses_append (ll : Int32) (li : Nat → Int32) (x1 : Int32) : Option (Int32 × Int32 × (Nat → Int32)) :=
  (if x1 < 33 then some (0, ll, li) else (if 126 < x1 then some (0, ll, li) else (if x1 = 47 then some (0, ll, li) else (if ll < 26 then (if am_in ll 26 = true then some (1, (ll + 1), (upd li ll.toNatClampNeg (vp_nar .char x1))) else none) else some (0, ll, li)))))
set_option maxHeartbeats 4000000 in
set_option maxRecDepth 100000 in
theorem s_Ses_append {l : Launch} {D : va_G} {dA : FieldType → ClassId} (htr : l.stackTraces = false) {rest : List am_E} {ll : Int32} {he : Int32} {de : Int32} {li : Nat → Int32} {en : Nat → Int32} {po : Nat → Int32} {pw : Int32} {su : Int32} {wr : Int32} {cs : Int32} {wb : Int32} {bt : Nat → Int32} {ct : Int32} {lc : Int32} {ad : Nat → Int32} {ctb : Int32} {lcb : Int32} {adb : Nat → Int32} {fx : Int32} {us : Nat → Int32} {ln : Int32} {pt : Int32} {tx : Nat → Int32} {br : Nat → Int32} {rw : Nat → Int32}  {x1 : Int32} {r : Int32 × Int32 × (Nat → Int32)} (hf : f_Ses_append ll li x1 = some r) {o : am_O} (ho : .inl (some (.int r.1)) = o) :
    am_M (am_kk l D dA) y_Ses_append ws_Ses_append (am_rm 0 o) [.ref 1, .int x1] (hC ll he de li en po pw su wr cs wb bt ct lc ad ctb lcb adb fx us ln pt tx br rw rest) o (hC r.2.1 he de r.2.2 en po pw su wr cs wb bt ct lc ad ctb lcb adb fx us ln pt tx br rw rest) := by
  subst ho
  refine am_body (by decide) rfl (Nat.le_of_ble_eq_true rfl) rfl ?_
  rw [f_Ses_append] at hf
  refine g_iload_n (n := 1) d_Ses_append_0 rfl 1 rfl rfl ?_
  refine g_bipush (n := 3) (v := 33) d_Ses_append_1 rfl (by decide) ?_
  refine g_icmp_lt (n := 6) (tgt := 27) d_Ses_append_3 rfl (by decide) (fun q1 => ?_) (fun q1 => ?_)
  · have hf := ob_pos q1 hf
    refine g_iconst (n := 28) (v := 0) d_Ses_append_27 rfl (by decide) ?_
    cases hf
    exact g_zret d_Ses_append_28 rfl am_z0 (Nat.zero_le _) (Nat.zero_le _)
  · have hf := ob_neg q1 hf
    refine g_iload_n (n := 7) d_Ses_append_6 rfl 1 rfl rfl ?_
    refine g_bipush (n := 9) (v := 126) d_Ses_append_7 rfl (by decide) ?_
    refine g_icmp_gt (n := 12) (tgt := 27) d_Ses_append_9 rfl (by decide) (fun q2 => ?_) (fun q2 => ?_)
    · have hf := ob_pos q2 hf
      refine g_iconst (n := 28) (v := 0) d_Ses_append_27 rfl (by decide) ?_
      cases hf
      exact g_zret d_Ses_append_28 rfl am_z0 (Nat.zero_le _) (Nat.zero_le _)
    · have hf := ob_neg q2 hf
      refine g_iload_n (n := 13) d_Ses_append_12 rfl 1 rfl rfl ?_
      refine g_bipush (n := 15) (v := 47) d_Ses_append_13 rfl (by decide) ?_
      refine g_icmp_eq (n := 18) (tgt := 27) d_Ses_append_15 rfl (by decide) (fun q3 => ?_) (fun q3 => ?_)
      · have hf := ob_pos q3 hf
        refine g_iconst (n := 28) (v := 0) d_Ses_append_27 rfl (by decide) ?_
        cases hf
        exact g_zret d_Ses_append_28 rfl am_z0 (Nat.zero_le _) (Nat.zero_le _)
      · have hf := ob_neg q3 hf
        refine g_aload_n (n := 19) d_Ses_append_18 rfl 0 rfl rfl ?_
        refine g_get (n := 22) (q0 := 1) d_Ses_append_19 rfl (am_fl in_Ses rfl (by decide : 3 < 6)) (List.mem_cons_of_mem _ tw_41) rfl rfl ?_
        refine g_bipush (n := 24) (v := 26) d_Ses_append_22 rfl (by decide) ?_
        refine g_icmp_lt (n := 27) (tgt := 29) d_Ses_append_24 rfl (by decide) (fun q4 => ?_) (fun q4 => ?_)
        · have hf := ob_pos q4 hf
          refine g_aload_n (n := 30) d_Ses_append_29 rfl 0 rfl rfl ?_
          refine g_get (n := 33) (q0 := 1) d_Ses_append_30 rfl (am_fl in_Ses rfl (by decide : 0 < 6)) (List.mem_cons_of_mem _ tw_36) rfl rfl ?_
          refine g_aload_n (n := 34) d_Ses_append_33 rfl 0 rfl rfl ?_
          refine g_get (n := 37) (q0 := 1) d_Ses_append_34 rfl (am_fl in_Ses rfl (by decide : 3 < 6)) (List.mem_cons_of_mem _ tw_41) rfl rfl ?_
          refine g_iload_n (n := 38) d_Ses_append_37 rfl 1 rfl rfl ?_
          obtain ⟨b5, hf⟩ := ob_chk hf
          refine g_cast (n := 39) (q0 := 2) (h' := (hC ll he de (upd li ll.toNatClampNeg (vp_nar .char x1)) en po pw su wr cs wb bt ct lc ad ctb lcb adb fx us ln pt tx br rw rest)) d_Ses_append_38 rfl rfl (am_inl b5) rfl ?_
          refine g_aload_n (n := 40) d_Ses_append_39 rfl 0 rfl rfl ?_
          refine g_dup (n := 41) d_Ses_append_40 rfl rfl ?_
          refine g_get (n := 44) (q0 := 1) d_Ses_append_41 rfl (am_fl in_Ses rfl (by decide : 3 < 6)) (List.mem_cons_of_mem _ tw_41) rfl rfl ?_
          refine g_iconst (n := 45) (v := 1) d_Ses_append_44 rfl (by decide) ?_
          refine g_iadd (n := 46) d_Ses_append_45 rfl ?_
          refine g_put (n := 49) (q0 := 1) (h' := (hC (ll + 1) he de (upd li ll.toNatClampNeg (vp_nar .char x1)) en po pw su wr cs wb bt ct lc ad ctb lcb adb fx us ln pt tx br rw rest)) d_Ses_append_46 rfl (am_fl in_Ses rfl (by decide : 3 < 6)) typ_Ses (List.mem_cons_of_mem _ tw_41) rfl (fun _ _ => rfl) (fun _ _ => rfl) rfl (am_ltb rfl) rfl ?_
          refine g_iconst (n := 50) (v := 1) d_Ses_append_49 rfl (by decide) ?_
          cases hf
          exact g_zret d_Ses_append_50 rfl am_z1 (Nat.zero_le _) (Nat.zero_le _)
        · have hf := ob_neg q4 hf
          refine g_iconst (n := 28) (v := 0) d_Ses_append_27 rfl (by decide) ?_
          cases hf
          exact g_zret d_Ses_append_28 rfl am_z0 (Nat.zero_le _) (Nat.zero_le _)
def f_V_type (ll : Int32) (li : Nat → Int32) (x1 : Int32) : Option (Int32 × Int32 × (Nat → Int32)) :=
  ((f_Ses_append ll li x1).bind fun r1 => (if am_bl r1.1 = true then some (r1.1, r1.2.1, r1.2.2) else none))
set_option maxHeartbeats 4000000 in
set_option maxRecDepth 100000 in
theorem s_V_type {l : Launch} {D : va_G} {dA : FieldType → ClassId} (htr : l.stackTraces = false) {rest : List am_E} {ll : Int32} {he : Int32} {de : Int32} {li : Nat → Int32} {en : Nat → Int32} {po : Nat → Int32} {pw : Int32} {su : Int32} {wr : Int32} {cs : Int32} {wb : Int32} {bt : Nat → Int32} {ct : Int32} {lc : Int32} {ad : Nat → Int32} {ctb : Int32} {lcb : Int32} {adb : Nat → Int32} {fx : Int32} {us : Nat → Int32} {ln : Int32} {pt : Int32} {tx : Nat → Int32} {br : Nat → Int32} {rw : Nat → Int32}  {x1 : Int32} {r : Int32 × Int32 × (Nat → Int32)} (hf : f_V_type ll li x1 = some r) {o : am_O} (ho : .inl (some (.int r.1)) = o) :
    am_M (am_kk l D dA) y_V_type ws_V_type (am_rm 1 o) [.ref 0, .int x1] (hC ll he de li en po pw su wr cs wb bt ct lc ad ctb lcb adb fx us ln pt tx br rw rest) o (hC r.2.1 he de r.2.2 en po pw su wr cs wb bt ct lc ad ctb lcb adb fx us ln pt tx br rw rest) := by
  subst ho
  refine am_body (by decide) rfl (Nat.le_of_ble_eq_true rfl) rfl ?_
  rw [f_V_type] at hf
  refine g_aload_n (n := 1) d_V_type_0 rfl 0 rfl rfl ?_
  refine g_get (n := 4) (q0 := 0) d_V_type_1 rfl (am_fl in_V rfl (by decide : 0 < 8)) (List.mem_cons_of_mem _ tw_173) rfl rfl ?_
  refine g_iload_n (n := 5) d_V_type_4 rfl 1 rfl rfl ?_
  obtain ⟨r1, h2, hf⟩ := ob_bind hf
  refine c_Vr (n := 8) (st' := [.int r1.1]) [.int x1] [] d_V_type_5 rfl (s_Ses_append htr h2 rfl) tw_202 tw_203 tw_204 tw_2 tw_205 hd_Ses_append (by omega) (by decide) (ci := 4) rfl rfl rfl (Nat.le_of_ble_eq_true rfl) rfl rfl ?_
  obtain ⟨b3, hf⟩ := ob_chk hf
  cases hf
  exact g_zret d_V_type_8 rfl (am_blz b3) (Nat.zero_le _) (Nat.zero_le _)
def f_V_demandSoundDisk (pw : Int32) (su : Int32) : Option ((String ⊕ Unit)) :=
  (if pw = 0 then some (.inl "java/lang/IllegalStateException") else (if su = 0 then some (.inr ()) else some (.inl "java/lang/IllegalStateException")))
set_option maxHeartbeats 4000000 in
set_option maxRecDepth 100000 in
theorem s_V_demandSoundDisk {l : Launch} {D : va_G} {dA : FieldType → ClassId} (htr : l.stackTraces = false) {rest : List am_E} {ll : Int32} {he : Int32} {de : Int32} {li : Nat → Int32} {en : Nat → Int32} {po : Nat → Int32} {pw : Int32} {su : Int32} {wr : Int32} {cs : Int32} {wb : Int32} {bt : Nat → Int32} {ct : Int32} {lc : Int32} {ad : Nat → Int32} {ctb : Int32} {lcb : Int32} {adb : Nat → Int32} {fx : Int32} {us : Nat → Int32} {ln : Int32} {pt : Int32} {tx : Nat → Int32} {br : Nat → Int32} {rw : Nat → Int32}   {r : (String ⊕ Unit)} (hf : f_V_demandSoundDisk pw su = some r) {o : am_O} (ho : am_ov r = o) :
    am_M (am_kk l D dA) y_V_demandSoundDisk ws_V_demandSoundDisk (am_rm 0 o) [.ref 0] (hC ll he de li en po pw su wr cs wb bt ct lc ad ctb lcb adb fx us ln pt tx br rw rest) o (hC ll he de li en po pw su wr cs wb bt ct lc ad ctb lcb adb fx us ln pt tx br rw rest) := by
  subst ho
  refine am_body (by decide) rfl (Nat.le_of_ble_eq_true rfl) rfl ?_
  rw [f_V_demandSoundDisk] at hf
  refine g_aload_n (n := 1) d_V_demandSoundDisk_0 rfl 0 rfl rfl ?_
  refine g_get (n := 4) (q0 := 0) d_V_demandSoundDisk_1 rfl (am_fl in_V rfl (by decide : 1 < 8)) (List.mem_cons_of_mem _ tw_174) rfl rfl ?_
  refine g_getN (n := 7) (q0 := 5) d_V_demandSoundDisk_4 rfl (am_fl in_Disk rfl (by decide : 2 < 7)) nw_72 rfl rfl ?_
  refine g_if_eq (n := 10) (tgt := 20) d_V_demandSoundDisk_7 rfl (by decide) (fun q1 => ?_) (fun q1 => ?_)
  · have hf := ob_pos q1 hf
    cases hf
    exact c_T htr (by decide +kernel) e_IllegalStateException_0 e_IllegalStateException_1 e_IllegalStateException_2 e_IllegalStateException_5 tw_309 tw_12 rfl (List.mem_of_getElem? (i := 0) rfl) at_V_270 d_V_demandSoundDisk_20 d_V_demandSoundDisk_23 (Or.inr ⟨d_V_demandSoundDisk_24, rfl⟩) d_V_demandSoundDisk_27 d_V_demandSoundDisk_30 (Nat.le_of_ble_eq_true rfl)
  · have hf := ob_neg q1 hf
    refine g_aload_n (n := 11) d_V_demandSoundDisk_10 rfl 0 rfl rfl ?_
    refine g_get (n := 14) (q0 := 0) d_V_demandSoundDisk_11 rfl (am_fl in_V rfl (by decide : 1 < 8)) (List.mem_cons_of_mem _ tw_174) rfl rfl ?_
    refine g_getN (n := 17) (q0 := 5) d_V_demandSoundDisk_14 rfl (am_fl in_Disk rfl (by decide : 3 < 7)) nw_73 rfl rfl ?_
    refine g_if_eq (n := 20) (tgt := 31) d_V_demandSoundDisk_17 rfl (by decide) (fun q2 => ?_) (fun q2 => ?_)
    · have hf := ob_pos q2 hf
      cases hf
      exact g_vret d_V_demandSoundDisk_31 rfl (Nat.zero_le _) (Nat.zero_le _)
    · have hf := ob_neg q2 hf
      cases hf
      exact c_T htr (by decide +kernel) e_IllegalStateException_0 e_IllegalStateException_1 e_IllegalStateException_2 e_IllegalStateException_5 tw_309 tw_12 rfl (List.mem_of_getElem? (i := 0) rfl) at_V_270 d_V_demandSoundDisk_20 d_V_demandSoundDisk_23 (Or.inr ⟨d_V_demandSoundDisk_24, rfl⟩) d_V_demandSoundDisk_27 d_V_demandSoundDisk_30 (Nat.le_of_ble_eq_true rfl)
def f_Name_takeLineOf_L10 : Nat → Int32 → (Nat → Int32) → Int32 → (Nat → Int32) → Int32 → Option (Int32 × Int32 × (Nat → Int32))
  | 0, _, _, _, _, _ => none
  | fuel + 1, ll, li, ln, tx, x2 =>
  (if 26 ≤ x2 then some (0, ln, tx) else (if am_in x2 26 = true then (if am_in x2 26 = true then f_Name_takeLineOf_L10 fuel ll li ln (upd tx x2.toNatClampNeg (vp_nar .char (li x2.toNatClampNeg))) (x2 + 1) else none) else none))
set_option maxHeartbeats 4000000 in
set_option maxRecDepth 100000 in
theorem s_Name_takeLineOf_L10 {l : Launch} {D : va_G} {dA : FieldType → ClassId} (htr : l.stackTraces = false) {rest : List am_E} {he : Int32} {de : Int32} {en : Nat → Int32} {po : Nat → Int32} {pw : Int32} {su : Int32} {wr : Int32} {cs : Int32} {wb : Int32} {bt : Nat → Int32} {ct : Int32} {lc : Int32} {ad : Nat → Int32} {ctb : Int32} {lcb : Int32} {adb : Nat → Int32} {fx : Int32} {us : Nat → Int32} {pt : Int32} {br : Nat → Int32} {rw : Nat → Int32}  : ∀ (fuel : Nat) (ll : Int32) (li : Nat → Int32) (ln : Int32) (tx : Nat → Int32) (x2 : Int32) (r : Int32 × Int32 × (Nat → Int32)), f_Name_takeLineOf_L10 fuel ll li ln tx x2 = some r → ∀ o : am_O, .inl none = o →
    am_G (am_kk l D dA) (ws_Name_takeLineOf, y_Name_takeLineOf.cls, prog_4_method_2_code, 3, none, y_Name_takeLineOf.name, [], am_rm 0 (o), none) o (hC r.1 he de li en po pw su wr cs wb bt ct lc ad ctb lcb adb fx us r.2.1 pt r.2.2 br rw rest) 0 0 10 [(0, .ref 14), (1, .ref 1), (2, .int x2)] [] (hC ll he de li en po pw su wr cs wb bt ct lc ad ctb lcb adb fx us ln pt tx br rw rest) := by
  intro fuel
  induction fuel with
  | zero =>
    intro ll li ln tx x2 r hf
    cases hf
  | succ fuel ih =>
    intro ll li ln tx x2 r hf o ho
    subst ho
    rw [f_Name_takeLineOf_L10] at hf
    refine g_iload_n (n := 11) d_Name_takeLineOf_10 rfl 2 rfl rfl ?_
    refine g_bipush (n := 13) (v := 26) d_Name_takeLineOf_11 rfl (by decide) ?_
    refine g_icmp_ge (n := 16) (tgt := 34) d_Name_takeLineOf_13 rfl (by decide) (fun q1 => ?_) (fun q1 => ?_)
    · have hf := ob_pos q1 hf
      refine g_aload_n (n := 35) d_Name_takeLineOf_34 rfl 1 rfl rfl ?_
      refine g_iconst (n := 36) (v := 0) d_Name_takeLineOf_35 rfl (by decide) ?_
      refine g_putN (n := 39) (q0 := 1) (h' := (hC 0 he de li en po pw su wr cs wb bt ct lc ad ctb lcb adb fx us ln pt tx br rw rest)) d_Name_takeLineOf_36 rfl (am_fl in_Ses rfl (by decide : 3 < 6)) typ_Ses nw_40 rfl (fun _ _ => rfl) (fun _ _ => rfl) rfl (am_ltb rfl) rfl ?_
      cases hf
      exact g_vret d_Name_takeLineOf_39 rfl (Nat.zero_le _) (Nat.zero_le _)
    · have hf := ob_neg q1 hf
      refine g_aload_n (n := 17) d_Name_takeLineOf_16 rfl 0 rfl rfl ?_
      refine g_get (n := 20) (q0 := 14) d_Name_takeLineOf_17 rfl (am_fl in_Name rfl (by decide : 0 < 4)) (List.mem_cons_of_mem _ tw_157) rfl rfl ?_
      refine g_iload_n (n := 21) d_Name_takeLineOf_20 rfl 2 rfl rfl ?_
      refine g_aload_n (n := 22) d_Name_takeLineOf_21 rfl 1 rfl rfl ?_
      refine g_getN (n := 25) (q0 := 1) d_Name_takeLineOf_22 rfl (am_fl in_Ses rfl (by decide : 0 < 6)) nw_37 rfl rfl ?_
      refine g_iload_n (n := 26) d_Name_takeLineOf_25 rfl 2 rfl rfl ?_
      obtain ⟨b2, hf⟩ := ob_chk hf
      refine g_cald (n := 27) (q0 := 2) d_Name_takeLineOf_26 rfl rfl (am_inl b2) ?_
      obtain ⟨b3, hf⟩ := ob_chk hf
      refine g_cast (n := 28) (q0 := 15) (h' := (hC ll he de li en po pw su wr cs wb bt ct lc ad ctb lcb adb fx us ln pt (upd tx x2.toNatClampNeg (vp_nar .char (li x2.toNatClampNeg))) br rw rest)) d_Name_takeLineOf_27 rfl rfl (am_inl b3) rfl ?_
      refine g_iinc (n := 31) (v := (x2 + 1)) (ls' := [(2, .int (x2 + 1)), (0, .ref 14), (1, .ref 1)]) d_Name_takeLineOf_28 rfl 2 rfl rfl (am_ltb rfl) rfl ?_
      refine g_goto (n := 10) d_Name_takeLineOf_31 (by decide) ?_
      refine g_ls [1, 2, 0] rfl ?_
      exact ih ll li ln (upd tx x2.toNatClampNeg (vp_nar .char (li x2.toNatClampNeg))) (x2 + 1) _ hf _ rfl
def f_Name_takeLineOf (ll : Int32) (li : Nat → Int32) (ln : Int32) (tx : Nat → Int32) : Option (Int32 × Int32 × (Nat → Int32)) :=
  f_Name_takeLineOf_L10 100000000000 ll li ll tx 0
set_option maxHeartbeats 4000000 in
set_option maxRecDepth 100000 in
theorem s_Name_takeLineOf {l : Launch} {D : va_G} {dA : FieldType → ClassId} (htr : l.stackTraces = false) {rest : List am_E} {ll : Int32} {he : Int32} {de : Int32} {li : Nat → Int32} {en : Nat → Int32} {po : Nat → Int32} {pw : Int32} {su : Int32} {wr : Int32} {cs : Int32} {wb : Int32} {bt : Nat → Int32} {ct : Int32} {lc : Int32} {ad : Nat → Int32} {ctb : Int32} {lcb : Int32} {adb : Nat → Int32} {fx : Int32} {us : Nat → Int32} {ln : Int32} {pt : Int32} {tx : Nat → Int32} {br : Nat → Int32} {rw : Nat → Int32}   {r : Int32 × Int32 × (Nat → Int32)} (hf : f_Name_takeLineOf ll li ln tx = some r) {o : am_O} (ho : .inl none = o) :
    am_M (am_kk l D dA) y_Name_takeLineOf ws_Name_takeLineOf (am_rm 0 o) [.ref 14, .ref 1] (hC ll he de li en po pw su wr cs wb bt ct lc ad ctb lcb adb fx us ln pt tx br rw rest) o (hC r.1 he de li en po pw su wr cs wb bt ct lc ad ctb lcb adb fx us r.2.1 pt r.2.2 br rw rest) := by
  subst ho
  refine am_body (by decide) rfl (Nat.le_of_ble_eq_true rfl) rfl ?_
  rw [f_Name_takeLineOf] at hf
  refine g_aload_n (n := 1) d_Name_takeLineOf_0 rfl 0 rfl rfl ?_
  refine g_aload_n (n := 2) d_Name_takeLineOf_1 rfl 1 rfl rfl ?_
  refine g_getN (n := 5) (q0 := 1) d_Name_takeLineOf_2 rfl (am_fl in_Ses rfl (by decide : 3 < 6)) nw_40 rfl rfl ?_
  refine g_put (n := 8) (q0 := 14) (h' := (hC ll he de li en po pw su wr cs wb bt ct lc ad ctb lcb adb fx us ll pt tx br rw rest)) d_Name_takeLineOf_5 rfl (am_fl in_Name rfl (by decide : 2 < 4)) typ_Name (List.mem_cons_of_mem _ tw_159) rfl (fun _ _ => rfl) (fun _ _ => rfl) rfl (am_ltb rfl) rfl ?_
  refine g_iconst (n := 9) (v := 0) d_Name_takeLineOf_8 rfl (by decide) ?_
  refine g_istore_n (n := 10) (ls' := [(2, .int 0), (0, .ref 14), (1, .ref 1)]) d_Name_takeLineOf_9 rfl rfl (am_ltb rfl) rfl ?_
  refine g_ls [1, 2, 0] rfl ?_
  exact s_Name_takeLineOf_L10 htr 100000000000 ll li ll tx 0 _ hf _ rfl
def f_Name_charAt (ln : Int32) (tx : Nat → Int32) (x1 : Int32) : Option (Int32) :=
  (if x1 < 0 then some 0 else (if ln ≤ x1 then some 0 else (if 26 ≤ x1 then some 0 else (if am_in x1 26 = true then some (tx x1.toNatClampNeg) else none))))
set_option maxHeartbeats 4000000 in
set_option maxRecDepth 100000 in
theorem s_Name_charAt {l : Launch} {D : va_G} {dA : FieldType → ClassId} (htr : l.stackTraces = false) {rest : List am_E} {ll : Int32} {he : Int32} {de : Int32} {li : Nat → Int32} {en : Nat → Int32} {po : Nat → Int32} {pw : Int32} {su : Int32} {wr : Int32} {cs : Int32} {wb : Int32} {bt : Nat → Int32} {ct : Int32} {lc : Int32} {ad : Nat → Int32} {ctb : Int32} {lcb : Int32} {adb : Nat → Int32} {fx : Int32} {us : Nat → Int32} {ln : Int32} {pt : Int32} {tx : Nat → Int32} {br : Nat → Int32} {rw : Nat → Int32}  {x1 : Int32} {r : Int32} (hf : f_Name_charAt ln tx x1 = some r) {o : am_O} (ho : .inl (some (.int r)) = o) :
    am_M (am_kk l D dA) y_Name_charAt ws_Name_charAt (am_rm 0 o) [.ref 14, .int x1] (hC ll he de li en po pw su wr cs wb bt ct lc ad ctb lcb adb fx us ln pt tx br rw rest) o (hC ll he de li en po pw su wr cs wb bt ct lc ad ctb lcb adb fx us ln pt tx br rw rest) := by
  subst ho
  refine am_body (by decide) rfl (Nat.le_of_ble_eq_true rfl) rfl ?_
  rw [f_Name_charAt] at hf
  refine g_iload_n (n := 1) d_Name_charAt_0 rfl 1 rfl rfl ?_
  refine g_if_lt (n := 4) (tgt := 30) d_Name_charAt_1 rfl (by decide) (fun q1 => ?_) (fun q1 => ?_)
  · have hf := ob_pos q1 hf
    refine g_iconst (n := 31) (v := 0) d_Name_charAt_30 rfl (by decide) ?_
    cases hf
    exact g_iret d_Name_charAt_31 rfl (Nat.zero_le _) (Nat.zero_le _)
  · have hf := ob_neg q1 hf
    refine g_iload_n (n := 5) d_Name_charAt_4 rfl 1 rfl rfl ?_
    refine g_aload_n (n := 6) d_Name_charAt_5 rfl 0 rfl rfl ?_
    refine g_get (n := 9) (q0 := 14) d_Name_charAt_6 rfl (am_fl in_Name rfl (by decide : 2 < 4)) (List.mem_cons_of_mem _ tw_159) rfl rfl ?_
    refine g_icmp_ge (n := 12) (tgt := 30) d_Name_charAt_9 rfl (by decide) (fun q2 => ?_) (fun q2 => ?_)
    · have hf := ob_pos q2 hf
      refine g_iconst (n := 31) (v := 0) d_Name_charAt_30 rfl (by decide) ?_
      cases hf
      exact g_iret d_Name_charAt_31 rfl (Nat.zero_le _) (Nat.zero_le _)
    · have hf := ob_neg q2 hf
      refine g_iload_n (n := 13) d_Name_charAt_12 rfl 1 rfl rfl ?_
      refine g_aload_n (n := 14) d_Name_charAt_13 rfl 0 rfl rfl ?_
      refine g_get (n := 17) (q0 := 14) d_Name_charAt_14 rfl (am_fl in_Name rfl (by decide : 0 < 4)) (List.mem_cons_of_mem _ tw_157) rfl rfl ?_
      refine g_calen (n := 18) (q0 := 15) (v := 26) d_Name_charAt_17 rfl rfl (by decide) ?_
      refine g_icmp_ge (n := 21) (tgt := 30) d_Name_charAt_18 rfl (by decide) (fun q3 => ?_) (fun q3 => ?_)
      · have hf := ob_pos q3 hf
        refine g_iconst (n := 31) (v := 0) d_Name_charAt_30 rfl (by decide) ?_
        cases hf
        exact g_iret d_Name_charAt_31 rfl (Nat.zero_le _) (Nat.zero_le _)
      · have hf := ob_neg q3 hf
        refine g_aload_n (n := 22) d_Name_charAt_21 rfl 0 rfl rfl ?_
        refine g_get (n := 25) (q0 := 14) d_Name_charAt_22 rfl (am_fl in_Name rfl (by decide : 0 < 4)) (List.mem_cons_of_mem _ tw_157) rfl rfl ?_
        refine g_iload_n (n := 26) d_Name_charAt_25 rfl 1 rfl rfl ?_
        obtain ⟨b4, hf⟩ := ob_chk hf
        refine g_cald (n := 27) (q0 := 15) d_Name_charAt_26 rfl rfl (am_inl b4) ?_
        refine g_goto (n := 31) d_Name_charAt_27 (by decide) ?_
        cases hf
        exact g_iret d_Name_charAt_31 rfl (Nat.zero_le _) (Nat.zero_le _)
def f_Name_isGood (ln : Int32) (tx : Nat → Int32) : Option (Int32) :=
  (if ln ≤ 0 then some 0 else ((f_Name_charAt ln tx 0).bind fun r2 => (if r2 = 46 then some 0 else some 1)))
set_option maxHeartbeats 4000000 in
set_option maxRecDepth 100000 in
theorem s_Name_isGood {l : Launch} {D : va_G} {dA : FieldType → ClassId} (htr : l.stackTraces = false) {rest : List am_E} {ll : Int32} {he : Int32} {de : Int32} {li : Nat → Int32} {en : Nat → Int32} {po : Nat → Int32} {pw : Int32} {su : Int32} {wr : Int32} {cs : Int32} {wb : Int32} {bt : Nat → Int32} {ct : Int32} {lc : Int32} {ad : Nat → Int32} {ctb : Int32} {lcb : Int32} {adb : Nat → Int32} {fx : Int32} {us : Nat → Int32} {ln : Int32} {pt : Int32} {tx : Nat → Int32} {br : Nat → Int32} {rw : Nat → Int32}   {r : Int32} (hf : f_Name_isGood ln tx = some r) {o : am_O} (ho : .inl (some (.int r)) = o) :
    am_M (am_kk l D dA) y_Name_isGood ws_Name_isGood (am_rm 1 o) [.ref 14] (hC ll he de li en po pw su wr cs wb bt ct lc ad ctb lcb adb fx us ln pt tx br rw rest) o (hC ll he de li en po pw su wr cs wb bt ct lc ad ctb lcb adb fx us ln pt tx br rw rest) := by
  subst ho
  refine am_body (by decide) rfl (Nat.le_of_ble_eq_true rfl) rfl ?_
  rw [f_Name_isGood] at hf
  refine g_aload_n (n := 1) d_Name_isGood_0 rfl 0 rfl rfl ?_
  refine g_get (n := 4) (q0 := 14) d_Name_isGood_1 rfl (am_fl in_Name rfl (by decide : 2 < 4)) (List.mem_cons_of_mem _ tw_159) rfl rfl ?_
  refine g_if_le (n := 7) (tgt := 21) d_Name_isGood_4 rfl (by decide) (fun q1 => ?_) (fun q1 => ?_)
  · have hf := ob_pos q1 hf
    refine g_iconst (n := 22) (v := 0) d_Name_isGood_21 rfl (by decide) ?_
    cases hf
    exact g_zret d_Name_isGood_22 rfl am_z0 (Nat.zero_le _) (Nat.zero_le _)
  · have hf := ob_neg q1 hf
    refine g_aload_n (n := 8) d_Name_isGood_7 rfl 0 rfl rfl ?_
    refine g_iconst (n := 9) (v := 0) d_Name_isGood_8 rfl (by decide) ?_
    obtain ⟨r2, h3, hf⟩ := ob_bind hf
    refine c_Vr (n := 12) (st' := [.int r2]) [.int 0] [] d_Name_isGood_9 rfl (s_Name_charAt htr h3 rfl) tw_387 tw_388 tw_389 tw_7 tw_390 hd_Name_charAt (by omega) (by decide) (ci := 2) rfl rfl rfl (Nat.le_of_ble_eq_true rfl) rfl rfl ?_
    refine g_bipush (n := 14) (v := 46) d_Name_isGood_12 rfl (by decide) ?_
    refine g_icmp_eq (n := 17) (tgt := 21) d_Name_isGood_14 rfl (by decide) (fun q4 => ?_) (fun q4 => ?_)
    · have hf := ob_pos q4 hf
      refine g_iconst (n := 22) (v := 0) d_Name_isGood_21 rfl (by decide) ?_
      cases hf
      exact g_zret d_Name_isGood_22 rfl am_z0 (Nat.zero_le _) (Nat.zero_le _)
    · have hf := ob_neg q4 hf
      refine g_iconst (n := 18) (v := 1) d_Name_isGood_17 rfl (by decide) ?_
      refine g_goto (n := 22) d_Name_isGood_18 (by decide) ?_
      cases hf
      exact g_zret d_Name_isGood_22 rfl am_z1 (Nat.zero_le _) (Nat.zero_le _)
def f_V_isCluster (x0 : Int32) : Option (Int32) :=
  (if x0 < 2 then some 0 else (if 64 ≤ x0 then some 0 else some 1))
set_option maxHeartbeats 4000000 in
set_option maxRecDepth 100000 in
theorem s_V_isCluster {l : Launch} {D : va_G} {dA : FieldType → ClassId} (htr : l.stackTraces = false) {rest : List am_E} {ll : Int32} {he : Int32} {de : Int32} {li : Nat → Int32} {en : Nat → Int32} {po : Nat → Int32} {pw : Int32} {su : Int32} {wr : Int32} {cs : Int32} {wb : Int32} {bt : Nat → Int32} {ct : Int32} {lc : Int32} {ad : Nat → Int32} {ctb : Int32} {lcb : Int32} {adb : Nat → Int32} {fx : Int32} {us : Nat → Int32} {ln : Int32} {pt : Int32} {tx : Nat → Int32} {br : Nat → Int32} {rw : Nat → Int32}  {x0 : Int32} {r : Int32} (hf : f_V_isCluster x0 = some r) {o : am_O} (ho : .inl (some (.int r)) = o) :
    am_M (am_kk l D dA) y_V_isCluster ws_V_isCluster (am_rm 0 o) [.int x0] (hC ll he de li en po pw su wr cs wb bt ct lc ad ctb lcb adb fx us ln pt tx br rw rest) o (hC ll he de li en po pw su wr cs wb bt ct lc ad ctb lcb adb fx us ln pt tx br rw rest) := by
  subst ho
  refine am_body (by decide) rfl (Nat.le_of_ble_eq_true rfl) rfl ?_
  rw [f_V_isCluster] at hf
  refine g_iload_n (n := 1) d_V_isCluster_0 rfl 0 rfl rfl ?_
  refine g_iconst (n := 2) (v := 2) d_V_isCluster_1 rfl (by decide) ?_
  refine g_icmp_lt (n := 5) (tgt := 15) d_V_isCluster_2 rfl (by decide) (fun q1 => ?_) (fun q1 => ?_)
  · have hf := ob_pos q1 hf
    refine g_iconst (n := 16) (v := 0) d_V_isCluster_15 rfl (by decide) ?_
    cases hf
    exact g_zret d_V_isCluster_16 rfl am_z0 (Nat.zero_le _) (Nat.zero_le _)
  · have hf := ob_neg q1 hf
    refine g_iload_n (n := 6) d_V_isCluster_5 rfl 0 rfl rfl ?_
    refine g_bipush (n := 8) (v := 64) d_V_isCluster_6 rfl (by decide) ?_
    refine g_icmp_ge (n := 11) (tgt := 15) d_V_isCluster_8 rfl (by decide) (fun q2 => ?_) (fun q2 => ?_)
    · have hf := ob_pos q2 hf
      refine g_iconst (n := 16) (v := 0) d_V_isCluster_15 rfl (by decide) ?_
      cases hf
      exact g_zret d_V_isCluster_16 rfl am_z0 (Nat.zero_le _) (Nat.zero_le _)
    · have hf := ob_neg q2 hf
      refine g_iconst (n := 12) (v := 1) d_V_isCluster_11 rfl (by decide) ?_
      refine g_goto (n := 16) d_V_isCluster_12 (by decide) ?_
      cases hf
      exact g_zret d_V_isCluster_16 rfl am_z1 (Nat.zero_le _) (Nat.zero_le _)
def f_V_sectorOf (x0 : Int32) : Option (Int32) :=
  some (x0 + 6)
set_option maxHeartbeats 4000000 in
set_option maxRecDepth 100000 in
theorem s_V_sectorOf {l : Launch} {D : va_G} {dA : FieldType → ClassId} (htr : l.stackTraces = false) {rest : List am_E} {ll : Int32} {he : Int32} {de : Int32} {li : Nat → Int32} {en : Nat → Int32} {po : Nat → Int32} {pw : Int32} {su : Int32} {wr : Int32} {cs : Int32} {wb : Int32} {bt : Nat → Int32} {ct : Int32} {lc : Int32} {ad : Nat → Int32} {ctb : Int32} {lcb : Int32} {adb : Nat → Int32} {fx : Int32} {us : Nat → Int32} {ln : Int32} {pt : Int32} {tx : Nat → Int32} {br : Nat → Int32} {rw : Nat → Int32}  {x0 : Int32} {r : Int32} (hf : f_V_sectorOf x0 = some r) {o : am_O} (ho : .inl (some (.int r)) = o) :
    am_M (am_kk l D dA) y_V_sectorOf ws_V_sectorOf (am_rm 0 o) [.int x0] (hC ll he de li en po pw su wr cs wb bt ct lc ad ctb lcb adb fx us ln pt tx br rw rest) o (hC ll he de li en po pw su wr cs wb bt ct lc ad ctb lcb adb fx us ln pt tx br rw rest) := by
  subst ho
  refine am_body (by decide) rfl (Nat.le_of_ble_eq_true rfl) rfl ?_
  rw [f_V_sectorOf] at hf
  refine g_iload_n (n := 1) d_V_sectorOf_0 rfl 0 rfl rfl ?_
  refine g_bipush (n := 3) (v := 6) d_V_sectorOf_1 rfl (by decide) ?_
  refine g_iadd (n := 4) d_V_sectorOf_3 rfl ?_
  cases hf
  exact g_iret d_V_sectorOf_4 rfl (Nat.zero_le _) (Nat.zero_le _)
def f_Disk_pairAt (bt : Nat → Int32) (x1 : Int32) : Option (Int32) :=
  (if x1 < 0 then some 0 else (if (2240 - 1) ≤ x1 then some 0 else (if am_in x1 2240 = true then (if am_in (x1 + 1) 2240 = true then some ((bt x1.toNatClampNeg) + (256 * (bt (x1 + 1).toNatClampNeg))) else none) else none)))
set_option maxHeartbeats 4000000 in
set_option maxRecDepth 100000 in
theorem s_Disk_pairAt {l : Launch} {D : va_G} {dA : FieldType → ClassId} (htr : l.stackTraces = false) {rest : List am_E} {ll : Int32} {he : Int32} {de : Int32} {li : Nat → Int32} {en : Nat → Int32} {po : Nat → Int32} {pw : Int32} {su : Int32} {wr : Int32} {cs : Int32} {wb : Int32} {bt : Nat → Int32} {ct : Int32} {lc : Int32} {ad : Nat → Int32} {ctb : Int32} {lcb : Int32} {adb : Nat → Int32} {fx : Int32} {us : Nat → Int32} {ln : Int32} {pt : Int32} {tx : Nat → Int32} {br : Nat → Int32} {rw : Nat → Int32}  {x1 : Int32} {r : Int32} (hf : f_Disk_pairAt bt x1 = some r) {o : am_O} (ho : .inl (some (.int r)) = o) :
    am_M (am_kk l D dA) y_Disk_pairAt ws_Disk_pairAt (am_rm 0 o) [.ref 5, .int x1] (hC ll he de li en po pw su wr cs wb bt ct lc ad ctb lcb adb fx us ln pt tx br rw rest) o (hC ll he de li en po pw su wr cs wb bt ct lc ad ctb lcb adb fx us ln pt tx br rw rest) := by
  subst ho
  refine am_body (by decide) rfl (Nat.le_of_ble_eq_true rfl) rfl ?_
  rw [f_Disk_pairAt] at hf
  refine g_iload_n (n := 1) d_Disk_pairAt_0 rfl 1 rfl rfl ?_
  refine g_if_lt (n := 4) (tgt := 19) d_Disk_pairAt_1 rfl (by decide) (fun q1 => ?_) (fun q1 => ?_)
  · have hf := ob_pos q1 hf
    refine g_iconst (n := 20) (v := 0) d_Disk_pairAt_19 rfl (by decide) ?_
    refine g_istore_n (n := 21) (ls' := [(2, .int 0), (0, .ref 5), (1, .int x1)]) d_Disk_pairAt_20 rfl rfl (am_ltb rfl) rfl ?_
    refine g_iload_n (n := 22) d_Disk_pairAt_21 rfl 0 rfl rfl ?_
    refine g_if_eq (n := 25) (tgt := 47) d_Disk_pairAt_22 rfl (by decide) (fun _ => ?_) (fun q2 => absurd q2 (by decide))
    refine g_iconst (n := 48) (v := 0) d_Disk_pairAt_47 rfl (by decide) ?_
    cases hf
    exact g_iret d_Disk_pairAt_48 rfl (Nat.zero_le _) (Nat.zero_le _)
  · have hf := ob_neg q1 hf
    refine g_iload_n (n := 5) d_Disk_pairAt_4 rfl 1 rfl rfl ?_
    refine g_aload_n (n := 6) d_Disk_pairAt_5 rfl 0 rfl rfl ?_
    refine g_get (n := 9) (q0 := 5) d_Disk_pairAt_6 rfl (am_fl in_Disk rfl (by decide : 0 < 7)) (List.mem_cons_of_mem _ tw_69) rfl rfl ?_
    refine g_ialen (n := 10) (q0 := 6) (v := 2240) d_Disk_pairAt_9 rfl rfl (by decide) ?_
    refine g_iconst (n := 11) (v := 1) d_Disk_pairAt_10 rfl (by decide) ?_
    refine g_isub (n := 12) d_Disk_pairAt_11 rfl ?_
    refine g_icmp_ge (n := 15) (tgt := 19) d_Disk_pairAt_12 rfl (by decide) (fun q3 => ?_) (fun q3 => ?_)
    · have hf := ob_pos q3 hf
      refine g_iconst (n := 20) (v := 0) d_Disk_pairAt_19 rfl (by decide) ?_
      refine g_istore_n (n := 21) (ls' := [(2, .int 0), (0, .ref 5), (1, .int x1)]) d_Disk_pairAt_20 rfl rfl (am_ltb rfl) rfl ?_
      refine g_iload_n (n := 22) d_Disk_pairAt_21 rfl 0 rfl rfl ?_
      refine g_if_eq (n := 25) (tgt := 47) d_Disk_pairAt_22 rfl (by decide) (fun _ => ?_) (fun q4 => absurd q4 (by decide))
      refine g_iconst (n := 48) (v := 0) d_Disk_pairAt_47 rfl (by decide) ?_
      cases hf
      exact g_iret d_Disk_pairAt_48 rfl (Nat.zero_le _) (Nat.zero_le _)
    · have hf := ob_neg q3 hf
      refine g_iconst (n := 16) (v := 1) d_Disk_pairAt_15 rfl (by decide) ?_
      refine g_goto (n := 20) d_Disk_pairAt_16 (by decide) ?_
      refine g_istore_n (n := 21) (ls' := [(2, .int 1), (0, .ref 5), (1, .int x1)]) d_Disk_pairAt_20 rfl rfl (am_ltb rfl) rfl ?_
      refine g_iload_n (n := 22) d_Disk_pairAt_21 rfl 0 rfl rfl ?_
      refine g_if_eq (n := 25) (tgt := 47) d_Disk_pairAt_22 rfl (by decide) (fun q5 => absurd q5 (by decide)) (fun _ => ?_)
      refine g_aload_n (n := 26) d_Disk_pairAt_25 rfl 1 rfl rfl ?_
      refine g_get (n := 29) (q0 := 5) d_Disk_pairAt_26 rfl (am_fl in_Disk rfl (by decide : 0 < 7)) (List.mem_cons_of_mem _ tw_69) rfl rfl ?_
      refine g_iload_n (n := 30) d_Disk_pairAt_29 rfl 2 rfl rfl ?_
      obtain ⟨b6, hf⟩ := ob_chk hf
      refine g_iald (n := 31) (q0 := 6) d_Disk_pairAt_30 rfl rfl (am_inl b6) ?_
      refine g_sipush (n := 34) (v := 256) d_Disk_pairAt_31 rfl (by decide) ?_
      refine g_aload_n (n := 35) d_Disk_pairAt_34 rfl 1 rfl rfl ?_
      refine g_get (n := 38) (q0 := 5) d_Disk_pairAt_35 rfl (am_fl in_Disk rfl (by decide : 0 < 7)) (List.mem_cons_of_mem _ tw_69) rfl rfl ?_
      refine g_iload_n (n := 39) d_Disk_pairAt_38 rfl 2 rfl rfl ?_
      refine g_iconst (n := 40) (v := 1) d_Disk_pairAt_39 rfl (by decide) ?_
      refine g_iadd (n := 41) d_Disk_pairAt_40 rfl ?_
      obtain ⟨b7, hf⟩ := ob_chk hf
      refine g_iald (n := 42) (q0 := 6) d_Disk_pairAt_41 rfl rfl (am_inl b7) ?_
      refine g_imul (n := 43) d_Disk_pairAt_42 rfl ?_
      refine g_iadd (n := 44) d_Disk_pairAt_43 rfl ?_
      refine g_goto (n := 48) d_Disk_pairAt_44 (by decide) ?_
      cases hf
      exact g_iret d_Disk_pairAt_48 rfl (Nat.zero_le _) (Nat.zero_le _)
def f_Table_cell (bt : Nat → Int32) (x1 : Int32) : Option (Int32) :=
  ((f_Disk_pairAt bt (2 * x1)).bind fun r1 => some r1)
set_option maxHeartbeats 4000000 in
set_option maxRecDepth 100000 in
theorem s_Table_cell {l : Launch} {D : va_G} {dA : FieldType → ClassId} (htr : l.stackTraces = false) {rest : List am_E} {ll : Int32} {he : Int32} {de : Int32} {li : Nat → Int32} {en : Nat → Int32} {po : Nat → Int32} {pw : Int32} {su : Int32} {wr : Int32} {cs : Int32} {wb : Int32} {bt : Nat → Int32} {ct : Int32} {lc : Int32} {ad : Nat → Int32} {ctb : Int32} {lcb : Int32} {adb : Nat → Int32} {fx : Int32} {us : Nat → Int32} {ln : Int32} {pt : Int32} {tx : Nat → Int32} {br : Nat → Int32} {rw : Nat → Int32}  {x1 : Int32} {r : Int32} (hf : f_Table_cell bt x1 = some r) {o : am_O} (ho : .inl (some (.int r)) = o) :
    am_M (am_kk l D dA) y_Table_cell ws_Table_cell (am_rm 1 o) [.ref 7, .int x1] (hC ll he de li en po pw su wr cs wb bt ct lc ad ctb lcb adb fx us ln pt tx br rw rest) o (hC ll he de li en po pw su wr cs wb bt ct lc ad ctb lcb adb fx us ln pt tx br rw rest) := by
  subst ho
  refine am_body (by decide) rfl (Nat.le_of_ble_eq_true rfl) rfl ?_
  rw [f_Table_cell] at hf
  refine g_aload_n (n := 1) d_Table_cell_0 rfl 0 rfl rfl ?_
  refine g_get (n := 4) (q0 := 7) d_Table_cell_1 rfl (am_fl in_Table rfl (by decide : 0 < 1)) (List.mem_cons_of_mem _ tw_99) rfl rfl ?_
  refine g_iconst (n := 5) (v := 2) d_Table_cell_4 rfl (by decide) ?_
  refine g_iload_n (n := 6) d_Table_cell_5 rfl 1 rfl rfl ?_
  refine g_imul (n := 7) d_Table_cell_6 rfl ?_
  obtain ⟨r1, h2, hf⟩ := ob_bind hf
  refine c_Vr (n := 10) (st' := [.int r1]) [.int (2 * x1)] [] d_Table_cell_7 rfl (s_Disk_pairAt htr h2 rfl) tw_290 tw_231 tw_232 tw_3 tw_233 hd_Disk_pairAt (by omega) (by decide) (ci := 0) rfl rfl rfl (Nat.le_of_ble_eq_true rfl) rfl rfl ?_
  cases hf
  exact g_iret d_Table_cell_10 rfl (Nat.zero_le _) (Nat.zero_le _)
def f_Folder_load_L9 : Nat → (Nat → Int32) → Int32 → Int32 → (Nat → Int32) → Int32 → Int32 → Option (Int32 × Int32 × (Nat → Int32))
  | 0, _, _, _, _, _, _ => none
  | fuel + 1, bt, ct, lc, ad, x2, x3 =>
  (if 64 ≤ x3 then some (ct, lc, ad) else ((f_V_isCluster x2).bind fun r2 => (if r2 = 0 then some (ct, lc, ad) else ((f_V_sectorOf x2).bind fun r5 => (if am_in (2 * x3) 128 = true then (if am_in ((2 * x3) + 1) 128 = true then ((f_Table_cell bt x2).bind fun r9 => f_Folder_load_L9 fuel bt (ct + 2) x2 (upd (upd ad (2 * x3).toNatClampNeg (r5 * 32)) ((2 * x3) + 1).toNatClampNeg ((r5 * 32) + 16)) r9 (x3 + 1)) else none) else none)))))
set_option maxHeartbeats 4000000 in
set_option maxRecDepth 100000 in
theorem s_Folder_load_L9 {l : Launch} {D : va_G} {dA : FieldType → ClassId} (htr : l.stackTraces = false) {rest : List am_E} {ll : Int32} {he : Int32} {de : Int32} {li : Nat → Int32} {en : Nat → Int32} {po : Nat → Int32} {pw : Int32} {su : Int32} {wr : Int32} {cs : Int32} {wb : Int32} {ctb : Int32} {lcb : Int32} {adb : Nat → Int32} {fx : Int32} {us : Nat → Int32} {ln : Int32} {pt : Int32} {tx : Nat → Int32} {br : Nat → Int32} {rw : Nat → Int32}  : ∀ (fuel : Nat) (bt : Nat → Int32) (ct : Int32) (lc : Int32) (ad : Nat → Int32) (x2 : Int32) (x3 : Int32) (r : Int32 × Int32 × (Nat → Int32)), f_Folder_load_L9 fuel bt ct lc ad x2 x3 = some r → ∀ o : am_O, .inl none = o →
    am_G (am_kk l D dA) (ws_Folder_load, y_Folder_load.cls, prog_3_method_2_code, 5, none, y_Folder_load.name, [], am_rm 2 (o), none) o (hC ll he de li en po pw su wr cs wb bt r.1 r.2.1 r.2.2 ctb lcb adb fx us ln pt tx br rw rest) 0 0 9 [(0, .ref 8), (2, .int x2), (3, .int x3)] [] (hC ll he de li en po pw su wr cs wb bt ct lc ad ctb lcb adb fx us ln pt tx br rw rest) := by
  intro fuel
  induction fuel with
  | zero =>
    intro bt ct lc ad x2 x3 r hf
    cases hf
  | succ fuel ih =>
    intro bt ct lc ad x2 x3 r hf o ho
    subst ho
    rw [f_Folder_load_L9] at hf
    refine g_iload_n (n := 10) d_Folder_load_9 rfl 2 rfl rfl ?_
    refine g_bipush (n := 12) (v := 64) d_Folder_load_10 rfl (by decide) ?_
    refine g_icmp_ge (n := 15) (tgt := 86) d_Folder_load_12 rfl (by decide) (fun q1 => ?_) (fun q1 => ?_)
    · have hf := ob_pos q1 hf
      cases hf
      exact g_vret d_Folder_load_86 rfl (Nat.zero_le _) (Nat.zero_le _)
    · have hf := ob_neg q1 hf
      refine g_iload_n (n := 16) d_Folder_load_15 rfl 1 rfl rfl ?_
      obtain ⟨r2, h3, hf⟩ := ob_bind hf
      refine c_SNr (n := 19) (st' := [.int r2]) [.int x2] [] d_Folder_load_16 rfl (s_V_isCluster htr h3 rfl) nw_411 tw_412 tw_1 tw_413 hd_V_isCluster (by omega) (by decide) rfl (Nat.le_of_ble_eq_true rfl) rfl rfl ?_
      refine g_if_eq (n := 22) (tgt := 86) d_Folder_load_19 rfl (by decide) (fun q4 => ?_) (fun q4 => ?_)
      · have hf := ob_pos q4 hf
        cases hf
        exact g_vret d_Folder_load_86 rfl (Nat.zero_le _) (Nat.zero_le _)
      · have hf := ob_neg q4 hf
        refine g_iload_n (n := 23) d_Folder_load_22 rfl 1 rfl rfl ?_
        obtain ⟨r5, h6, hf⟩ := ob_bind hf
        refine c_SNr (n := 26) (st' := [.int r5]) [.int x2] [] d_Folder_load_23 rfl (s_V_sectorOf htr h6 rfl) nw_414 tw_415 tw_1 tw_416 hd_V_sectorOf (by omega) (by decide) rfl (Nat.le_of_ble_eq_true rfl) rfl rfl ?_
        refine g_bipush (n := 28) (v := 32) d_Folder_load_26 rfl (by decide) ?_
        refine g_imul (n := 29) d_Folder_load_28 rfl ?_
        refine g_istore (n := 31) (ls' := [(4, .int (r5 * 32)), (0, .ref 8), (2, .int x2), (3, .int x3)]) d_Folder_load_29 rfl (am_ltb rfl) rfl ?_
        refine g_aload_n (n := 32) d_Folder_load_31 rfl 1 rfl rfl ?_
        refine g_get (n := 35) (q0 := 8) d_Folder_load_32 rfl (am_fl in_Folder rfl (by decide : 2 < 5)) (List.mem_cons_of_mem _ tw_111) rfl rfl ?_
        refine g_iconst (n := 36) (v := 2) d_Folder_load_35 rfl (by decide) ?_
        refine g_iload_n (n := 37) d_Folder_load_36 rfl 3 rfl rfl ?_
        refine g_imul (n := 38) d_Folder_load_37 rfl ?_
        refine g_iload (n := 40) d_Folder_load_38 rfl 0 rfl ?_
        obtain ⟨b7, hf⟩ := ob_chk hf
        refine g_iast (n := 41) (q0 := 9) (h' := (hC ll he de li en po pw su wr cs wb bt ct lc (upd ad (2 * x3).toNatClampNeg (r5 * 32)) ctb lcb adb fx us ln pt tx br rw rest)) d_Folder_load_40 rfl rfl (am_inl b7) rfl ?_
        refine g_aload_n (n := 42) d_Folder_load_41 rfl 1 rfl rfl ?_
        refine g_get (n := 45) (q0 := 8) d_Folder_load_42 rfl (am_fl in_Folder rfl (by decide : 2 < 5)) (List.mem_cons_of_mem _ tw_111) rfl rfl ?_
        refine g_iconst (n := 46) (v := 2) d_Folder_load_45 rfl (by decide) ?_
        refine g_iload_n (n := 47) d_Folder_load_46 rfl 3 rfl rfl ?_
        refine g_imul (n := 48) d_Folder_load_47 rfl ?_
        refine g_iconst (n := 49) (v := 1) d_Folder_load_48 rfl (by decide) ?_
        refine g_iadd (n := 50) d_Folder_load_49 rfl ?_
        refine g_iload (n := 52) d_Folder_load_50 rfl 0 rfl ?_
        refine g_bipush (n := 54) (v := 16) d_Folder_load_52 rfl (by decide) ?_
        refine g_iadd (n := 55) d_Folder_load_54 rfl ?_
        obtain ⟨b8, hf⟩ := ob_chk hf
        refine g_iast (n := 56) (q0 := 9) (h' := (hC ll he de li en po pw su wr cs wb bt ct lc (upd (upd ad (2 * x3).toNatClampNeg (r5 * 32)) ((2 * x3) + 1).toNatClampNeg ((r5 * 32) + 16)) ctb lcb adb fx us ln pt tx br rw rest)) d_Folder_load_55 rfl rfl (am_inl b8) rfl ?_
        refine g_aload_n (n := 57) d_Folder_load_56 rfl 1 rfl rfl ?_
        refine g_dup (n := 58) d_Folder_load_57 rfl rfl ?_
        refine g_get (n := 61) (q0 := 8) d_Folder_load_58 rfl (am_fl in_Folder rfl (by decide : 3 < 5)) (List.mem_cons_of_mem _ tw_112) rfl rfl ?_
        refine g_iconst (n := 62) (v := 2) d_Folder_load_61 rfl (by decide) ?_
        refine g_iadd (n := 63) d_Folder_load_62 rfl ?_
        refine g_put (n := 66) (q0 := 8) (h' := (hC ll he de li en po pw su wr cs wb bt (ct + 2) lc (upd (upd ad (2 * x3).toNatClampNeg (r5 * 32)) ((2 * x3) + 1).toNatClampNeg ((r5 * 32) + 16)) ctb lcb adb fx us ln pt tx br rw rest)) d_Folder_load_63 rfl (am_fl in_Folder rfl (by decide : 3 < 5)) typ_Folder (List.mem_cons_of_mem _ tw_112) rfl (fun _ _ => rfl) (fun _ _ => rfl) rfl (am_ltb rfl) rfl ?_
        refine g_aload_n (n := 67) d_Folder_load_66 rfl 1 rfl rfl ?_
        refine g_iload_n (n := 68) d_Folder_load_67 rfl 2 rfl rfl ?_
        refine g_put (n := 71) (q0 := 8) (h' := (hC ll he de li en po pw su wr cs wb bt (ct + 2) x2 (upd (upd ad (2 * x3).toNatClampNeg (r5 * 32)) ((2 * x3) + 1).toNatClampNeg ((r5 * 32) + 16)) ctb lcb adb fx us ln pt tx br rw rest)) d_Folder_load_68 rfl (am_fl in_Folder rfl (by decide : 4 < 5)) typ_Folder (List.mem_cons_of_mem _ tw_114) rfl (fun _ _ => rfl) (fun _ _ => rfl) rfl (am_ltb rfl) rfl ?_
        refine g_aload_n (n := 72) d_Folder_load_71 rfl 1 rfl rfl ?_
        refine g_get (n := 75) (q0 := 8) d_Folder_load_72 rfl (am_fl in_Folder rfl (by decide : 1 < 5)) (List.mem_cons_of_mem _ tw_110) rfl rfl ?_
        refine g_iload_n (n := 76) d_Folder_load_75 rfl 2 rfl rfl ?_
        obtain ⟨r9, h10, hf⟩ := ob_bind hf
        refine c_Vr (n := 79) (st' := [.int r9]) [.int x2] [] d_Folder_load_76 rfl (s_Table_cell htr h10 rfl) tw_417 tw_287 tw_288 tw_4 tw_289 hd_Table_cell (by omega) (by decide) (ci := 5) rfl rfl rfl (Nat.le_of_ble_eq_true rfl) rfl rfl ?_
        refine g_istore_n (n := 80) (ls' := [(2, .int r9), (4, .int (r5 * 32)), (0, .ref 8), (3, .int x3)]) d_Folder_load_79 rfl rfl (am_ltb rfl) rfl ?_
        refine g_iinc (n := 83) (v := (x3 + 1)) (ls' := [(3, .int (x3 + 1)), (2, .int r9), (4, .int (r5 * 32)), (0, .ref 8)]) d_Folder_load_80 rfl 3 rfl rfl (am_ltb rfl) rfl ?_
        refine g_goto (n := 9) d_Folder_load_83 (by decide) ?_
        refine g_ls [3, 1, 0] rfl ?_
        exact ih bt (ct + 2) x2 (upd (upd ad (2 * x3).toNatClampNeg (r5 * 32)) ((2 * x3) + 1).toNatClampNeg ((r5 * 32) + 16)) r9 (x3 + 1) _ hf _ rfl
def f_Folder_load (bt : Nat → Int32) (ct : Int32) (lc : Int32) (ad : Nat → Int32) (x1 : Int32) : Option (Int32 × Int32 × (Nat → Int32)) :=
  f_Folder_load_L9 100000000000 bt 0 lc ad x1 0
set_option maxHeartbeats 4000000 in
set_option maxRecDepth 100000 in
theorem s_Folder_load {l : Launch} {D : va_G} {dA : FieldType → ClassId} (htr : l.stackTraces = false) {rest : List am_E} {ll : Int32} {he : Int32} {de : Int32} {li : Nat → Int32} {en : Nat → Int32} {po : Nat → Int32} {pw : Int32} {su : Int32} {wr : Int32} {cs : Int32} {wb : Int32} {bt : Nat → Int32} {ct : Int32} {lc : Int32} {ad : Nat → Int32} {ctb : Int32} {lcb : Int32} {adb : Nat → Int32} {fx : Int32} {us : Nat → Int32} {ln : Int32} {pt : Int32} {tx : Nat → Int32} {br : Nat → Int32} {rw : Nat → Int32}  {x1 : Int32} {r : Int32 × Int32 × (Nat → Int32)} (hf : f_Folder_load bt ct lc ad x1 = some r) {o : am_O} (ho : .inl none = o) :
    am_M (am_kk l D dA) y_Folder_load ws_Folder_load (am_rm 2 o) [.ref 8, .int x1] (hC ll he de li en po pw su wr cs wb bt ct lc ad ctb lcb adb fx us ln pt tx br rw rest) o (hC ll he de li en po pw su wr cs wb bt r.1 r.2.1 r.2.2 ctb lcb adb fx us ln pt tx br rw rest) := by
  subst ho
  refine am_body (by decide) rfl (Nat.le_of_ble_eq_true rfl) rfl ?_
  rw [f_Folder_load] at hf
  refine g_aload_n (n := 1) d_Folder_load_0 rfl 0 rfl rfl ?_
  refine g_iconst (n := 2) (v := 0) d_Folder_load_1 rfl (by decide) ?_
  refine g_put (n := 5) (q0 := 8) (h' := (hC ll he de li en po pw su wr cs wb bt 0 lc ad ctb lcb adb fx us ln pt tx br rw rest)) d_Folder_load_2 rfl (am_fl in_Folder rfl (by decide : 3 < 5)) typ_Folder (List.mem_cons_of_mem _ tw_112) rfl (fun _ _ => rfl) (fun _ _ => rfl) rfl (am_ltb rfl) rfl ?_
  refine g_iload_n (n := 6) d_Folder_load_5 rfl 1 rfl rfl ?_
  refine g_istore_n (n := 7) (ls' := [(2, .int x1), (0, .ref 8), (1, .int x1)]) d_Folder_load_6 rfl rfl (am_ltb rfl) rfl ?_
  refine g_iconst (n := 8) (v := 0) d_Folder_load_7 rfl (by decide) ?_
  refine g_istore_n (n := 9) (ls' := [(3, .int 0), (2, .int x1), (0, .ref 8), (1, .int x1)]) d_Folder_load_8 rfl rfl (am_ltb rfl) rfl ?_
  refine g_ls [2, 1, 0] rfl ?_
  exact s_Folder_load_L9 htr 100000000000 bt 0 lc ad x1 0 _ hf _ rfl
def f_Disk_at (bt : Nat → Int32) (x1 : Int32) : Option (Int32) :=
  (if x1 < 0 then some 0 else (if 2240 ≤ x1 then some 0 else (if am_in x1 2240 = true then some (bt x1.toNatClampNeg) else none)))
set_option maxHeartbeats 4000000 in
set_option maxRecDepth 100000 in
theorem s_Disk_at {l : Launch} {D : va_G} {dA : FieldType → ClassId} (htr : l.stackTraces = false) {rest : List am_E} {ll : Int32} {he : Int32} {de : Int32} {li : Nat → Int32} {en : Nat → Int32} {po : Nat → Int32} {pw : Int32} {su : Int32} {wr : Int32} {cs : Int32} {wb : Int32} {bt : Nat → Int32} {ct : Int32} {lc : Int32} {ad : Nat → Int32} {ctb : Int32} {lcb : Int32} {adb : Nat → Int32} {fx : Int32} {us : Nat → Int32} {ln : Int32} {pt : Int32} {tx : Nat → Int32} {br : Nat → Int32} {rw : Nat → Int32}  {x1 : Int32} {r : Int32} (hf : f_Disk_at bt x1 = some r) {o : am_O} (ho : .inl (some (.int r)) = o) :
    am_M (am_kk l D dA) y_Disk_at ws_Disk_at (am_rm 0 o) [.ref 5, .int x1] (hC ll he de li en po pw su wr cs wb bt ct lc ad ctb lcb adb fx us ln pt tx br rw rest) o (hC ll he de li en po pw su wr cs wb bt ct lc ad ctb lcb adb fx us ln pt tx br rw rest) := by
  subst ho
  refine am_body (by decide) rfl (Nat.le_of_ble_eq_true rfl) rfl ?_
  rw [f_Disk_at] at hf
  refine g_iload_n (n := 1) d_Disk_at_0 rfl 1 rfl rfl ?_
  refine g_if_lt (n := 4) (tgt := 22) d_Disk_at_1 rfl (by decide) (fun q1 => ?_) (fun q1 => ?_)
  · have hf := ob_pos q1 hf
    refine g_iconst (n := 23) (v := 0) d_Disk_at_22 rfl (by decide) ?_
    cases hf
    exact g_iret d_Disk_at_23 rfl (Nat.zero_le _) (Nat.zero_le _)
  · have hf := ob_neg q1 hf
    refine g_iload_n (n := 5) d_Disk_at_4 rfl 1 rfl rfl ?_
    refine g_aload_n (n := 6) d_Disk_at_5 rfl 0 rfl rfl ?_
    refine g_get (n := 9) (q0 := 5) d_Disk_at_6 rfl (am_fl in_Disk rfl (by decide : 0 < 7)) (List.mem_cons_of_mem _ tw_69) rfl rfl ?_
    refine g_ialen (n := 10) (q0 := 6) (v := 2240) d_Disk_at_9 rfl rfl (by decide) ?_
    refine g_icmp_ge (n := 13) (tgt := 22) d_Disk_at_10 rfl (by decide) (fun q2 => ?_) (fun q2 => ?_)
    · have hf := ob_pos q2 hf
      refine g_iconst (n := 23) (v := 0) d_Disk_at_22 rfl (by decide) ?_
      cases hf
      exact g_iret d_Disk_at_23 rfl (Nat.zero_le _) (Nat.zero_le _)
    · have hf := ob_neg q2 hf
      refine g_aload_n (n := 14) d_Disk_at_13 rfl 0 rfl rfl ?_
      refine g_get (n := 17) (q0 := 5) d_Disk_at_14 rfl (am_fl in_Disk rfl (by decide : 0 < 7)) (List.mem_cons_of_mem _ tw_69) rfl rfl ?_
      refine g_iload_n (n := 18) d_Disk_at_17 rfl 1 rfl rfl ?_
      obtain ⟨b3, hf⟩ := ob_chk hf
      refine g_iald (n := 19) (q0 := 6) d_Disk_at_18 rfl rfl (am_inl b3) ?_
      refine g_goto (n := 23) d_Disk_at_19 (by decide) ?_
      cases hf
      exact g_iret d_Disk_at_23 rfl (Nat.zero_le _) (Nat.zero_le _)
def f_Folder_byteOf (bt : Nat → Int32) (ct : Int32) (ad : Nat → Int32) (x1 : Int32) (x2 : Int32) : Option (Int32) :=
  (if x1 < 0 then some 0 else (if ct ≤ x1 then some 0 else (if am_in x1 128 = true then ((f_Disk_at bt ((ad x1.toNatClampNeg) + x2)).bind fun r4 => some r4) else none)))
set_option maxHeartbeats 4000000 in
set_option maxRecDepth 100000 in
theorem s_Folder_byteOf {l : Launch} {D : va_G} {dA : FieldType → ClassId} (htr : l.stackTraces = false) {rest : List am_E} {ll : Int32} {he : Int32} {de : Int32} {li : Nat → Int32} {en : Nat → Int32} {po : Nat → Int32} {pw : Int32} {su : Int32} {wr : Int32} {cs : Int32} {wb : Int32} {bt : Nat → Int32} {ct : Int32} {lc : Int32} {ad : Nat → Int32} {ctb : Int32} {lcb : Int32} {adb : Nat → Int32} {fx : Int32} {us : Nat → Int32} {ln : Int32} {pt : Int32} {tx : Nat → Int32} {br : Nat → Int32} {rw : Nat → Int32}  {x1 : Int32} {x2 : Int32} {r : Int32} (hf : f_Folder_byteOf bt ct ad x1 x2 = some r) {o : am_O} (ho : .inl (some (.int r)) = o) :
    am_M (am_kk l D dA) y_Folder_byteOf ws_Folder_byteOf (am_rm 1 o) [.ref 8, .int x1, .int x2] (hC ll he de li en po pw su wr cs wb bt ct lc ad ctb lcb adb fx us ln pt tx br rw rest) o (hC ll he de li en po pw su wr cs wb bt ct lc ad ctb lcb adb fx us ln pt tx br rw rest) := by
  subst ho
  refine am_body (by decide) rfl (Nat.le_of_ble_eq_true rfl) rfl ?_
  rw [f_Folder_byteOf] at hf
  refine g_iload_n (n := 1) d_Folder_byteOf_0 rfl 1 rfl rfl ?_
  refine g_if_lt (n := 4) (tgt := 30) d_Folder_byteOf_1 rfl (by decide) (fun q1 => ?_) (fun q1 => ?_)
  · have hf := ob_pos q1 hf
    refine g_iconst (n := 31) (v := 0) d_Folder_byteOf_30 rfl (by decide) ?_
    cases hf
    exact g_iret d_Folder_byteOf_31 rfl (Nat.zero_le _) (Nat.zero_le _)
  · have hf := ob_neg q1 hf
    refine g_iload_n (n := 5) d_Folder_byteOf_4 rfl 1 rfl rfl ?_
    refine g_aload_n (n := 6) d_Folder_byteOf_5 rfl 0 rfl rfl ?_
    refine g_get (n := 9) (q0 := 8) d_Folder_byteOf_6 rfl (am_fl in_Folder rfl (by decide : 3 < 5)) (List.mem_cons_of_mem _ tw_112) rfl rfl ?_
    refine g_icmp_ge (n := 12) (tgt := 30) d_Folder_byteOf_9 rfl (by decide) (fun q2 => ?_) (fun q2 => ?_)
    · have hf := ob_pos q2 hf
      refine g_iconst (n := 31) (v := 0) d_Folder_byteOf_30 rfl (by decide) ?_
      cases hf
      exact g_iret d_Folder_byteOf_31 rfl (Nat.zero_le _) (Nat.zero_le _)
    · have hf := ob_neg q2 hf
      refine g_aload_n (n := 13) d_Folder_byteOf_12 rfl 0 rfl rfl ?_
      refine g_get (n := 16) (q0 := 8) d_Folder_byteOf_13 rfl (am_fl in_Folder rfl (by decide : 0 < 5)) (List.mem_cons_of_mem _ tw_109) rfl rfl ?_
      refine g_aload_n (n := 17) d_Folder_byteOf_16 rfl 0 rfl rfl ?_
      refine g_get (n := 20) (q0 := 8) d_Folder_byteOf_17 rfl (am_fl in_Folder rfl (by decide : 2 < 5)) (List.mem_cons_of_mem _ tw_111) rfl rfl ?_
      refine g_iload_n (n := 21) d_Folder_byteOf_20 rfl 1 rfl rfl ?_
      obtain ⟨b3, hf⟩ := ob_chk hf
      refine g_iald (n := 22) (q0 := 9) d_Folder_byteOf_21 rfl rfl (am_inl b3) ?_
      refine g_iload_n (n := 23) d_Folder_byteOf_22 rfl 2 rfl rfl ?_
      refine g_iadd (n := 24) d_Folder_byteOf_23 rfl ?_
      obtain ⟨r4, h5, hf⟩ := ob_bind hf
      refine c_Vr (n := 27) (st' := [.int r4]) [.int ((ad x1.toNatClampNeg) + x2)] [] d_Folder_byteOf_24 rfl (s_Disk_at htr h5 rfl) tw_430 tw_262 tw_263 tw_3 tw_264 hd_Disk_at (by omega) (by decide) (ci := 0) rfl rfl rfl (Nat.le_of_ble_eq_true rfl) rfl rfl ?_
      refine g_goto (n := 31) d_Folder_byteOf_27 (by decide) ?_
      cases hf
      exact g_iret d_Folder_byteOf_31 rfl (Nat.zero_le _) (Nat.zero_le _)
def f_Folder_kindOf (bt : Nat → Int32) (ct : Int32) (ad : Nat → Int32) (x1 : Int32) : Option (Int32) :=
  ((f_Folder_byteOf bt ct ad x1 6).bind fun r1 => some r1)
set_option maxHeartbeats 4000000 in
set_option maxRecDepth 100000 in
theorem s_Folder_kindOf {l : Launch} {D : va_G} {dA : FieldType → ClassId} (htr : l.stackTraces = false) {rest : List am_E} {ll : Int32} {he : Int32} {de : Int32} {li : Nat → Int32} {en : Nat → Int32} {po : Nat → Int32} {pw : Int32} {su : Int32} {wr : Int32} {cs : Int32} {wb : Int32} {bt : Nat → Int32} {ct : Int32} {lc : Int32} {ad : Nat → Int32} {ctb : Int32} {lcb : Int32} {adb : Nat → Int32} {fx : Int32} {us : Nat → Int32} {ln : Int32} {pt : Int32} {tx : Nat → Int32} {br : Nat → Int32} {rw : Nat → Int32}  {x1 : Int32} {r : Int32} (hf : f_Folder_kindOf bt ct ad x1 = some r) {o : am_O} (ho : .inl (some (.int r)) = o) :
    am_M (am_kk l D dA) y_Folder_kindOf ws_Folder_kindOf (am_rm 2 o) [.ref 8, .int x1] (hC ll he de li en po pw su wr cs wb bt ct lc ad ctb lcb adb fx us ln pt tx br rw rest) o (hC ll he de li en po pw su wr cs wb bt ct lc ad ctb lcb adb fx us ln pt tx br rw rest) := by
  subst ho
  refine am_body (by decide) rfl (Nat.le_of_ble_eq_true rfl) rfl ?_
  rw [f_Folder_kindOf] at hf
  refine g_aload_n (n := 1) d_Folder_kindOf_0 rfl 0 rfl rfl ?_
  refine g_iload_n (n := 2) d_Folder_kindOf_1 rfl 1 rfl rfl ?_
  refine g_bipush (n := 4) (v := 6) d_Folder_kindOf_2 rfl (by decide) ?_
  obtain ⟨r1, h2, hf⟩ := ob_bind hf
  refine c_Vr (n := 7) (st' := [.int r1]) [.int x1, .int 6] [] d_Folder_kindOf_4 rfl (s_Folder_byteOf htr h2 rfl) tw_426 tw_427 tw_428 tw_5 tw_429 hd_Folder_byteOf (by omega) (by decide) (ci := 1) rfl rfl rfl (Nat.le_of_ble_eq_true rfl) rfl rfl ?_
  cases hf
  exact g_iret d_Folder_kindOf_7 rfl (Nat.zero_le _) (Nat.zero_le _)
def f_Folder_isNamed (bt : Nat → Int32) (ct : Int32) (ad : Nat → Int32) (x1 : Int32) : Option (Int32) :=
  ((f_Folder_byteOf bt ct ad x1 0).bind fun r1 => ((f_Folder_byteOf bt ct ad x1 6).bind fun r3 => (if r1 = 0 then some 0 else (if r1 = 229 then some 0 else (if r3 = 1 then some 1 else (if r3 = 2 then some 1 else some 0))))))
set_option maxHeartbeats 4000000 in
set_option maxRecDepth 100000 in
theorem s_Folder_isNamed {l : Launch} {D : va_G} {dA : FieldType → ClassId} (htr : l.stackTraces = false) {rest : List am_E} {ll : Int32} {he : Int32} {de : Int32} {li : Nat → Int32} {en : Nat → Int32} {po : Nat → Int32} {pw : Int32} {su : Int32} {wr : Int32} {cs : Int32} {wb : Int32} {bt : Nat → Int32} {ct : Int32} {lc : Int32} {ad : Nat → Int32} {ctb : Int32} {lcb : Int32} {adb : Nat → Int32} {fx : Int32} {us : Nat → Int32} {ln : Int32} {pt : Int32} {tx : Nat → Int32} {br : Nat → Int32} {rw : Nat → Int32}  {x1 : Int32} {r : Int32} (hf : f_Folder_isNamed bt ct ad x1 = some r) {o : am_O} (ho : .inl (some (.int r)) = o) :
    am_M (am_kk l D dA) y_Folder_isNamed ws_Folder_isNamed (am_rm 2 o) [.ref 8, .int x1] (hC ll he de li en po pw su wr cs wb bt ct lc ad ctb lcb adb fx us ln pt tx br rw rest) o (hC ll he de li en po pw su wr cs wb bt ct lc ad ctb lcb adb fx us ln pt tx br rw rest) := by
  subst ho
  refine am_body (by decide) rfl (Nat.le_of_ble_eq_true rfl) rfl ?_
  rw [f_Folder_isNamed] at hf
  refine g_aload_n (n := 1) d_Folder_isNamed_0 rfl 0 rfl rfl ?_
  refine g_iload_n (n := 2) d_Folder_isNamed_1 rfl 1 rfl rfl ?_
  refine g_iconst (n := 3) (v := 0) d_Folder_isNamed_2 rfl (by decide) ?_
  obtain ⟨r1, h2, hf⟩ := ob_bind hf
  refine c_Vr (n := 6) (st' := [.int r1]) [.int x1, .int 0] [] d_Folder_isNamed_3 rfl (s_Folder_byteOf htr h2 rfl) tw_426 tw_427 tw_428 tw_5 tw_429 hd_Folder_byteOf (by omega) (by decide) (ci := 1) rfl rfl rfl (Nat.le_of_ble_eq_true rfl) rfl rfl ?_
  refine g_istore_n (n := 7) (ls' := [(2, .int r1), (0, .ref 8), (1, .int x1)]) d_Folder_isNamed_6 rfl rfl (am_ltb rfl) rfl ?_
  refine g_aload_n (n := 8) d_Folder_isNamed_7 rfl 1 rfl rfl ?_
  refine g_iload_n (n := 9) d_Folder_isNamed_8 rfl 2 rfl rfl ?_
  refine g_bipush (n := 11) (v := 6) d_Folder_isNamed_9 rfl (by decide) ?_
  obtain ⟨r3, h4, hf⟩ := ob_bind hf
  refine c_Vr (n := 14) (st' := [.int r3]) [.int x1, .int 6] [] d_Folder_isNamed_11 rfl (s_Folder_byteOf htr h4 rfl) tw_426 tw_427 tw_428 tw_5 tw_429 hd_Folder_byteOf (by omega) (by decide) (ci := 1) rfl rfl rfl (Nat.le_of_ble_eq_true rfl) rfl rfl ?_
  refine g_istore_n (n := 15) (ls' := [(3, .int r3), (2, .int r1), (0, .ref 8), (1, .int x1)]) d_Folder_isNamed_14 rfl rfl (am_ltb rfl) rfl ?_
  refine g_iload_n (n := 16) d_Folder_isNamed_15 rfl 1 rfl rfl ?_
  refine g_if_eq (n := 19) (tgt := 40) d_Folder_isNamed_16 rfl (by decide) (fun q5 => ?_) (fun q5 => ?_)
  · have hf := ob_pos q5 hf
    refine g_iconst (n := 41) (v := 0) d_Folder_isNamed_40 rfl (by decide) ?_
    cases hf
    exact g_zret d_Folder_isNamed_41 rfl am_z0 (Nat.zero_le _) (Nat.zero_le _)
  · have hf := ob_neg q5 hf
    refine g_iload_n (n := 20) d_Folder_isNamed_19 rfl 1 rfl rfl ?_
    refine g_sipush (n := 23) (v := 229) d_Folder_isNamed_20 rfl (by decide) ?_
    refine g_icmp_eq (n := 26) (tgt := 40) d_Folder_isNamed_23 rfl (by decide) (fun q6 => ?_) (fun q6 => ?_)
    · have hf := ob_pos q6 hf
      refine g_iconst (n := 41) (v := 0) d_Folder_isNamed_40 rfl (by decide) ?_
      cases hf
      exact g_zret d_Folder_isNamed_41 rfl am_z0 (Nat.zero_le _) (Nat.zero_le _)
    · have hf := ob_neg q6 hf
      refine g_iload_n (n := 27) d_Folder_isNamed_26 rfl 0 rfl rfl ?_
      refine g_iconst (n := 28) (v := 1) d_Folder_isNamed_27 rfl (by decide) ?_
      refine g_icmp_eq (n := 31) (tgt := 36) d_Folder_isNamed_28 rfl (by decide) (fun q7 => ?_) (fun q7 => ?_)
      · have hf := ob_pos q7 hf
        refine g_iconst (n := 37) (v := 1) d_Folder_isNamed_36 rfl (by decide) ?_
        refine g_goto (n := 41) d_Folder_isNamed_37 (by decide) ?_
        cases hf
        exact g_zret d_Folder_isNamed_41 rfl am_z1 (Nat.zero_le _) (Nat.zero_le _)
      · have hf := ob_neg q7 hf
        refine g_iload_n (n := 32) d_Folder_isNamed_31 rfl 0 rfl rfl ?_
        refine g_iconst (n := 33) (v := 2) d_Folder_isNamed_32 rfl (by decide) ?_
        refine g_icmp_ne (n := 36) (tgt := 40) d_Folder_isNamed_33 rfl (by decide) (fun q8 => ?_) (fun q8 => ?_)
        · have hf := ob_neg q8 hf
          refine g_iconst (n := 41) (v := 0) d_Folder_isNamed_40 rfl (by decide) ?_
          cases hf
          exact g_zret d_Folder_isNamed_41 rfl am_z0 (Nat.zero_le _) (Nat.zero_le _)
        · have hf := ob_pos q8 hf
          refine g_iconst (n := 37) (v := 1) d_Folder_isNamed_36 rfl (by decide) ?_
          refine g_goto (n := 41) d_Folder_isNamed_37 (by decide) ?_
          cases hf
          exact g_zret d_Folder_isNamed_41 rfl am_z1 (Nat.zero_le _) (Nat.zero_le _)
def f_Folder_shortLengthOf_L2 : Nat → (Nat → Int32) → Int32 → (Nat → Int32) → Int32 → Int32 → Option (Int32)
  | 0, _, _, _, _, _ => none
  | fuel + 1, bt, ct, ad, x1, x2 =>
  (if 6 ≤ x2 then some 6 else ((f_Folder_byteOf bt ct ad x1 x2).bind fun r2 => (if r2 = 32 then some x2 else (if r2 = 0 then some x2 else f_Folder_shortLengthOf_L2 fuel bt ct ad x1 (x2 + 1)))))
set_option maxHeartbeats 4000000 in
set_option maxRecDepth 100000 in
theorem s_Folder_shortLengthOf_L2 {l : Launch} {D : va_G} {dA : FieldType → ClassId} (htr : l.stackTraces = false) {rest : List am_E} {ll : Int32} {he : Int32} {de : Int32} {li : Nat → Int32} {en : Nat → Int32} {po : Nat → Int32} {pw : Int32} {su : Int32} {wr : Int32} {cs : Int32} {wb : Int32} {lc : Int32} {ctb : Int32} {lcb : Int32} {adb : Nat → Int32} {fx : Int32} {us : Nat → Int32} {ln : Int32} {pt : Int32} {tx : Nat → Int32} {br : Nat → Int32} {rw : Nat → Int32}  : ∀ (fuel : Nat) (bt : Nat → Int32) (ct : Int32) (ad : Nat → Int32) (x1 : Int32) (x2 : Int32) (r : Int32), f_Folder_shortLengthOf_L2 fuel bt ct ad x1 x2 = some r → ∀ o : am_O, .inl (some (.int r)) = o →
    am_G (am_kk l D dA) (ws_Folder_shortLengthOf, y_Folder_shortLengthOf.cls, prog_3_method_20_code, 4, (some .int), y_Folder_shortLengthOf.name, [], am_rm 2 (o), none) o (hC ll he de li en po pw su wr cs wb bt ct lc ad ctb lcb adb fx us ln pt tx br rw rest) 0 0 2 [(0, .ref 8), (1, .int x1), (2, .int x2)] [] (hC ll he de li en po pw su wr cs wb bt ct lc ad ctb lcb adb fx us ln pt tx br rw rest) := by
  intro fuel
  induction fuel with
  | zero =>
    intro bt ct ad x1 x2 r hf
    cases hf
  | succ fuel ih =>
    intro bt ct ad x1 x2 r hf o ho
    subst ho
    rw [f_Folder_shortLengthOf_L2] at hf
    refine g_iload_n (n := 3) d_Folder_shortLengthOf_2 rfl 2 rfl rfl ?_
    refine g_bipush (n := 5) (v := 6) d_Folder_shortLengthOf_3 rfl (by decide) ?_
    refine g_icmp_ge (n := 8) (tgt := 33) d_Folder_shortLengthOf_5 rfl (by decide) (fun q1 => ?_) (fun q1 => ?_)
    · have hf := ob_pos q1 hf
      refine g_bipush (n := 35) (v := 6) d_Folder_shortLengthOf_33 rfl (by decide) ?_
      cases hf
      exact g_iret d_Folder_shortLengthOf_35 rfl (Nat.zero_le _) (Nat.zero_le _)
    · have hf := ob_neg q1 hf
      refine g_aload_n (n := 9) d_Folder_shortLengthOf_8 rfl 0 rfl rfl ?_
      refine g_iload_n (n := 10) d_Folder_shortLengthOf_9 rfl 1 rfl rfl ?_
      refine g_iload_n (n := 11) d_Folder_shortLengthOf_10 rfl 2 rfl rfl ?_
      obtain ⟨r2, h3, hf⟩ := ob_bind hf
      refine c_Vr (n := 14) (st' := [.int r2]) [.int x1, .int x2] [] d_Folder_shortLengthOf_11 rfl (s_Folder_byteOf htr h3 rfl) tw_426 tw_427 tw_428 tw_5 tw_429 hd_Folder_byteOf (by omega) (by decide) (ci := 1) rfl rfl rfl (Nat.le_of_ble_eq_true rfl) rfl rfl ?_
      refine g_istore_n (n := 15) (ls' := [(3, .int r2), (0, .ref 8), (1, .int x1), (2, .int x2)]) d_Folder_shortLengthOf_14 rfl rfl (am_ltb rfl) rfl ?_
      refine g_iload_n (n := 16) d_Folder_shortLengthOf_15 rfl 0 rfl rfl ?_
      refine g_bipush (n := 18) (v := 32) d_Folder_shortLengthOf_16 rfl (by decide) ?_
      refine g_icmp_eq (n := 21) (tgt := 25) d_Folder_shortLengthOf_18 rfl (by decide) (fun q4 => ?_) (fun q4 => ?_)
      · have hf := ob_pos q4 hf
        refine g_iload_n (n := 26) d_Folder_shortLengthOf_25 rfl 3 rfl rfl ?_
        cases hf
        exact g_iret d_Folder_shortLengthOf_26 rfl (Nat.zero_le _) (Nat.zero_le _)
      · have hf := ob_neg q4 hf
        refine g_iload_n (n := 22) d_Folder_shortLengthOf_21 rfl 0 rfl rfl ?_
        refine g_if_ne (n := 25) (tgt := 27) d_Folder_shortLengthOf_22 rfl (by decide) (fun q5 => ?_) (fun q5 => ?_)
        · have hf := ob_neg q5 hf
          refine g_iinc (n := 30) (v := (x2 + 1)) (ls' := [(2, .int (x2 + 1)), (3, .int r2), (0, .ref 8), (1, .int x1)]) d_Folder_shortLengthOf_27 rfl 3 rfl rfl (am_ltb rfl) rfl ?_
          refine g_goto (n := 2) d_Folder_shortLengthOf_30 (by decide) ?_
          refine g_ls [2, 3, 0] rfl ?_
          exact ih bt ct ad x1 (x2 + 1) _ hf _ rfl
        · have hf := ob_pos q5 hf
          refine g_iload_n (n := 26) d_Folder_shortLengthOf_25 rfl 3 rfl rfl ?_
          cases hf
          exact g_iret d_Folder_shortLengthOf_26 rfl (Nat.zero_le _) (Nat.zero_le _)
