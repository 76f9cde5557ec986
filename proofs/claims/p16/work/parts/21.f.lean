def f_Ses_holds_L2 : Nat → (Nat → Int32) → Int32 → Int32 → Option (Int32)
  | 0, _, _, _ => none
  | fuel + 1, en, x1, x2 =>
  (if 4 ≤ x2 then some 0 else (if am_in x2 4 = true then (if (en x2.toNatClampNeg) = x1 then some 1 else f_Ses_holds_L2 fuel en x1 (x2 + 1)) else none))
set_option maxHeartbeats 4000000 in
set_option maxRecDepth 100000 in
theorem s_Ses_holds_L2 {l : Launch} {D : va_G} {dA : FieldType → ClassId} (htr : l.stackTraces = false) {rest : List am_E} {ll : Int32} {he : Int32} {de : Int32} {li : Nat → Int32} {po : Nat → Int32} {pw : Int32} {su : Int32} {wr : Int32} {cs : Int32} {wb : Int32} {bt : Nat → Int32} {ct : Int32} {lc : Int32} {ad : Nat → Int32} {ctb : Int32} {lcb : Int32} {adb : Nat → Int32} {fx : Int32} {us : Nat → Int32} {ln : Int32} {pt : Int32} {tx : Nat → Int32} {br : Nat → Int32} {rw : Nat → Int32}  : ∀ (fuel : Nat) (en : Nat → Int32) (x1 : Int32) (x2 : Int32) (r : Int32), f_Ses_holds_L2 fuel en x1 x2 = some r → ∀ o : am_O, .inl (some (.int r)) = o →
    am_G (am_kk l D dA) (ws_Ses_holds, y_Ses_holds.cls, prog_6_method_8_code, 3, (some .boolean), y_Ses_holds.name, [], am_rm 0 (o), none) o (hC ll he de li en po pw su wr cs wb bt ct lc ad ctb lcb adb fx us ln pt tx br rw rest) 0 0 2 [(0, .ref 1), (1, .int x1), (2, .int x2)] [] (hC ll he de li en po pw su wr cs wb bt ct lc ad ctb lcb adb fx us ln pt tx br rw rest) := by
  intro fuel
  induction fuel with
  | zero =>
    intro en x1 x2 r hf
    cases hf
  | succ fuel ih =>
    intro en x1 x2 r hf o ho
    subst ho
    rw [f_Ses_holds_L2] at hf
    refine g_iload_n (n := 3) d_Ses_holds_2 rfl 2 rfl rfl ?_
    refine g_iconst (n := 4) (v := 4) d_Ses_holds_3 rfl (by decide) ?_
    refine g_icmp_ge (n := 7) (tgt := 25) d_Ses_holds_4 rfl (by decide) (fun q1 => ?_) (fun q1 => ?_)
    · have hf := ob_pos q1 hf
      refine g_iconst (n := 26) (v := 0) d_Ses_holds_25 rfl (by decide) ?_
      cases hf
      exact g_zret d_Ses_holds_26 rfl am_z0 (Nat.zero_le _) (Nat.zero_le _)
    · have hf := ob_neg q1 hf
      refine g_aload_n (n := 8) d_Ses_holds_7 rfl 0 rfl rfl ?_
      refine g_get (n := 11) (q0 := 1) d_Ses_holds_8 rfl (am_fl in_Ses rfl (by decide : 1 < 6)) (List.mem_cons_of_mem _ tw_38) rfl rfl ?_
      refine g_iload_n (n := 12) d_Ses_holds_11 rfl 2 rfl rfl ?_
      obtain ⟨b2, hf⟩ := ob_chk hf
      refine g_iald (n := 13) (q0 := 3) d_Ses_holds_12 rfl rfl (am_inl b2) ?_
      refine g_iload_n (n := 14) d_Ses_holds_13 rfl 1 rfl rfl ?_
      refine g_icmp_ne (n := 17) (tgt := 19) d_Ses_holds_14 rfl (by decide) (fun q3 => ?_) (fun q3 => ?_)
      · have hf := ob_neg q3 hf
        refine g_iinc (n := 22) (v := (x2 + 1)) (ls' := [(2, .int (x2 + 1)), (0, .ref 1), (1, .int x1)]) d_Ses_holds_19 rfl 2 rfl rfl (am_ltb rfl) rfl ?_
        refine g_goto (n := 2) d_Ses_holds_22 (by decide) ?_
        refine g_ls [1, 2, 0] rfl ?_
        exact ih en x1 (x2 + 1) _ hf _ rfl
      · have hf := ob_pos q3 hf
        refine g_iconst (n := 18) (v := 1) d_Ses_holds_17 rfl (by decide) ?_
        cases hf
        exact g_zret d_Ses_holds_18 rfl am_z1 (Nat.zero_le _) (Nat.zero_le _)
def f_Ses_holds (en : Nat → Int32) (x1 : Int32) : Option (Int32) :=
  f_Ses_holds_L2 100000000000 en x1 0
set_option maxHeartbeats 4000000 in
set_option maxRecDepth 100000 in
theorem s_Ses_holds {l : Launch} {D : va_G} {dA : FieldType → ClassId} (htr : l.stackTraces = false) {rest : List am_E} {ll : Int32} {he : Int32} {de : Int32} {li : Nat → Int32} {en : Nat → Int32} {po : Nat → Int32} {pw : Int32} {su : Int32} {wr : Int32} {cs : Int32} {wb : Int32} {bt : Nat → Int32} {ct : Int32} {lc : Int32} {ad : Nat → Int32} {ctb : Int32} {lcb : Int32} {adb : Nat → Int32} {fx : Int32} {us : Nat → Int32} {ln : Int32} {pt : Int32} {tx : Nat → Int32} {br : Nat → Int32} {rw : Nat → Int32}  {x1 : Int32} {r : Int32} (hf : f_Ses_holds en x1 = some r) {o : am_O} (ho : .inl (some (.int r)) = o) :
    am_M (am_kk l D dA) y_Ses_holds ws_Ses_holds (am_rm 0 o) [.ref 1, .int x1] (hC ll he de li en po pw su wr cs wb bt ct lc ad ctb lcb adb fx us ln pt tx br rw rest) o (hC ll he de li en po pw su wr cs wb bt ct lc ad ctb lcb adb fx us ln pt tx br rw rest) := by
  subst ho
  refine am_body (by decide) rfl (Nat.le_of_ble_eq_true rfl) rfl ?_
  rw [f_Ses_holds] at hf
  refine g_iconst (n := 1) (v := 0) d_Ses_holds_0 rfl (by decide) ?_
  refine g_istore_n (n := 2) (ls' := [(2, .int 0), (0, .ref 1), (1, .int x1)]) d_Ses_holds_1 rfl rfl (am_ltb rfl) rfl ?_
  refine g_ls [1, 2, 0] rfl ?_
  exact s_Ses_holds_L2 htr 100000000000 en x1 0 _ hf _ rfl
def f_Folder_pairOf (bt : Nat → Int32) (ct : Int32) (ad : Nat → Int32) (x1 : Int32) (x2 : Int32) : Option (Int32) :=
  (if x1 < 0 then some 0 else (if ct ≤ x1 then some 0 else (if am_in x1 128 = true then ((f_Disk_pairAt bt ((ad x1.toNatClampNeg) + x2)).bind fun r4 => some r4) else none)))
set_option maxHeartbeats 4000000 in
set_option maxRecDepth 100000 in
theorem s_Folder_pairOf {l : Launch} {D : va_G} {dA : FieldType → ClassId} (htr : l.stackTraces = false) {rest : List am_E} {ll : Int32} {he : Int32} {de : Int32} {li : Nat → Int32} {en : Nat → Int32} {po : Nat → Int32} {pw : Int32} {su : Int32} {wr : Int32} {cs : Int32} {wb : Int32} {bt : Nat → Int32} {ct : Int32} {lc : Int32} {ad : Nat → Int32} {ctb : Int32} {lcb : Int32} {adb : Nat → Int32} {fx : Int32} {us : Nat → Int32} {ln : Int32} {pt : Int32} {tx : Nat → Int32} {br : Nat → Int32} {rw : Nat → Int32}  {x1 : Int32} {x2 : Int32} {r : Int32} (hf : f_Folder_pairOf bt ct ad x1 x2 = some r) {o : am_O} (ho : .inl (some (.int r)) = o) :
    am_M (am_kk l D dA) y_Folder_pairOf ws_Folder_pairOf (am_rm 1 o) [.ref 8, .int x1, .int x2] (hC ll he de li en po pw su wr cs wb bt ct lc ad ctb lcb adb fx us ln pt tx br rw rest) o (hC ll he de li en po pw su wr cs wb bt ct lc ad ctb lcb adb fx us ln pt tx br rw rest) := by
  subst ho
  refine am_body (by decide) rfl (Nat.le_of_ble_eq_true rfl) rfl ?_
  rw [f_Folder_pairOf] at hf
  refine g_iload_n (n := 1) d_Folder_pairOf_0 rfl 1 rfl rfl ?_
  refine g_if_lt (n := 4) (tgt := 30) d_Folder_pairOf_1 rfl (by decide) (fun q1 => ?_) (fun q1 => ?_)
  · have hf := ob_pos q1 hf
    refine g_iconst (n := 31) (v := 0) d_Folder_pairOf_30 rfl (by decide) ?_
    cases hf
    exact g_iret d_Folder_pairOf_31 rfl (Nat.zero_le _) (Nat.zero_le _)
  · have hf := ob_neg q1 hf
    refine g_iload_n (n := 5) d_Folder_pairOf_4 rfl 1 rfl rfl ?_
    refine g_aload_n (n := 6) d_Folder_pairOf_5 rfl 0 rfl rfl ?_
    refine g_get (n := 9) (q0 := 8) d_Folder_pairOf_6 rfl (am_fl in_Folder rfl (by decide : 3 < 5)) (List.mem_cons_of_mem _ tw_112) rfl rfl ?_
    refine g_icmp_ge (n := 12) (tgt := 30) d_Folder_pairOf_9 rfl (by decide) (fun q2 => ?_) (fun q2 => ?_)
    · have hf := ob_pos q2 hf
      refine g_iconst (n := 31) (v := 0) d_Folder_pairOf_30 rfl (by decide) ?_
      cases hf
      exact g_iret d_Folder_pairOf_31 rfl (Nat.zero_le _) (Nat.zero_le _)
    · have hf := ob_neg q2 hf
      refine g_aload_n (n := 13) d_Folder_pairOf_12 rfl 0 rfl rfl ?_
      refine g_get (n := 16) (q0 := 8) d_Folder_pairOf_13 rfl (am_fl in_Folder rfl (by decide : 0 < 5)) (List.mem_cons_of_mem _ tw_109) rfl rfl ?_
      refine g_aload_n (n := 17) d_Folder_pairOf_16 rfl 0 rfl rfl ?_
      refine g_get (n := 20) (q0 := 8) d_Folder_pairOf_17 rfl (am_fl in_Folder rfl (by decide : 2 < 5)) (List.mem_cons_of_mem _ tw_111) rfl rfl ?_
      refine g_iload_n (n := 21) d_Folder_pairOf_20 rfl 1 rfl rfl ?_
      obtain ⟨b3, hf⟩ := ob_chk hf
      refine g_iald (n := 22) (q0 := 9) d_Folder_pairOf_21 rfl rfl (am_inl b3) ?_
      refine g_iload_n (n := 23) d_Folder_pairOf_22 rfl 2 rfl rfl ?_
      refine g_iadd (n := 24) d_Folder_pairOf_23 rfl ?_
      obtain ⟨r4, h5, hf⟩ := ob_bind hf
      refine c_Vr (n := 27) (st' := [.int r4]) [.int ((ad x1.toNatClampNeg) + x2)] [] d_Folder_pairOf_24 rfl (s_Disk_pairAt htr h5 rfl) tw_633 tw_231 tw_232 tw_3 tw_233 hd_Disk_pairAt (by omega) (by decide) (ci := 0) rfl rfl rfl (Nat.le_of_ble_eq_true rfl) rfl rfl ?_
      refine g_goto (n := 31) d_Folder_pairOf_27 (by decide) ?_
      cases hf
      exact g_iret d_Folder_pairOf_31 rfl (Nat.zero_le _) (Nat.zero_le _)
def f_Folder_firstClusterOf (bt : Nat → Int32) (ct : Int32) (ad : Nat → Int32) (x1 : Int32) : Option (Int32) :=
  ((f_Folder_pairOf bt ct ad x1 8).bind fun r1 => some r1)
set_option maxHeartbeats 4000000 in
set_option maxRecDepth 100000 in
theorem s_Folder_firstClusterOf {l : Launch} {D : va_G} {dA : FieldType → ClassId} (htr : l.stackTraces = false) {rest : List am_E} {ll : Int32} {he : Int32} {de : Int32} {li : Nat → Int32} {en : Nat → Int32} {po : Nat → Int32} {pw : Int32} {su : Int32} {wr : Int32} {cs : Int32} {wb : Int32} {bt : Nat → Int32} {ct : Int32} {lc : Int32} {ad : Nat → Int32} {ctb : Int32} {lcb : Int32} {adb : Nat → Int32} {fx : Int32} {us : Nat → Int32} {ln : Int32} {pt : Int32} {tx : Nat → Int32} {br : Nat → Int32} {rw : Nat → Int32}  {x1 : Int32} {r : Int32} (hf : f_Folder_firstClusterOf bt ct ad x1 = some r) {o : am_O} (ho : .inl (some (.int r)) = o) :
    am_M (am_kk l D dA) y_Folder_firstClusterOf ws_Folder_firstClusterOf (am_rm 2 o) [.ref 8, .int x1] (hC ll he de li en po pw su wr cs wb bt ct lc ad ctb lcb adb fx us ln pt tx br rw rest) o (hC ll he de li en po pw su wr cs wb bt ct lc ad ctb lcb adb fx us ln pt tx br rw rest) := by
  subst ho
  refine am_body (by decide) rfl (Nat.le_of_ble_eq_true rfl) rfl ?_
  rw [f_Folder_firstClusterOf] at hf
  refine g_aload_n (n := 1) d_Folder_firstClusterOf_0 rfl 0 rfl rfl ?_
  refine g_iload_n (n := 2) d_Folder_firstClusterOf_1 rfl 1 rfl rfl ?_
  refine g_bipush (n := 4) (v := 8) d_Folder_firstClusterOf_2 rfl (by decide) ?_
  obtain ⟨r1, h2, hf⟩ := ob_bind hf
  refine c_Vr (n := 7) (st' := [.int r1]) [.int x1, .int 8] [] d_Folder_firstClusterOf_4 rfl (s_Folder_pairOf htr h2 rfl) tw_629 tw_630 tw_631 tw_5 tw_632 hd_Folder_pairOf (by omega) (by decide) (ci := 1) rfl rfl rfl (Nat.le_of_ble_eq_true rfl) rfl rfl ?_
  cases hf
  exact g_iret d_Folder_firstClusterOf_7 rfl (Nat.zero_le _) (Nat.zero_le _)
def f_Folder_loadb_L9 : Nat → (Nat → Int32) → Int32 → Int32 → (Nat → Int32) → Int32 → Int32 → Option (Int32 × Int32 × (Nat → Int32))
  | 0, _, _, _, _, _, _ => none
  | fuel + 1, bt, ctb, lcb, adb, x2, x3 =>
  (if 64 ≤ x3 then some (ctb, lcb, adb) else ((f_V_isCluster x2).bind fun r2 => (if r2 = 0 then some (ctb, lcb, adb) else ((f_V_sectorOf x2).bind fun r5 => (if am_in (2 * x3) 128 = true then (if am_in ((2 * x3) + 1) 128 = true then ((f_Table_cell bt x2).bind fun r9 => f_Folder_loadb_L9 fuel bt (ctb + 2) x2 (upd (upd adb (2 * x3).toNatClampNeg (r5 * 32)) ((2 * x3) + 1).toNatClampNeg ((r5 * 32) + 16)) r9 (x3 + 1)) else none) else none)))))
set_option maxHeartbeats 4000000 in
set_option maxRecDepth 100000 in
theorem s_Folder_loadb_L9 {l : Launch} {D : va_G} {dA : FieldType → ClassId} (htr : l.stackTraces = false) {rest : List am_E} {ll : Int32} {he : Int32} {de : Int32} {li : Nat → Int32} {en : Nat → Int32} {po : Nat → Int32} {pw : Int32} {su : Int32} {wr : Int32} {cs : Int32} {wb : Int32} {ct : Int32} {lc : Int32} {ad : Nat → Int32} {fx : Int32} {us : Nat → Int32} {ln : Int32} {pt : Int32} {tx : Nat → Int32} {br : Nat → Int32} {rw : Nat → Int32}  : ∀ (fuel : Nat) (bt : Nat → Int32) (ctb : Int32) (lcb : Int32) (adb : Nat → Int32) (x2 : Int32) (x3 : Int32) (r : Int32 × Int32 × (Nat → Int32)), f_Folder_loadb_L9 fuel bt ctb lcb adb x2 x3 = some r → ∀ o : am_O, .inl none = o →
    am_G (am_kk l D dA) (ws_Folder_load, y_Folder_load.cls, prog_3_method_2_code, 5, none, y_Folder_load.name, [], am_rm 2 (o), none) o (hC ll he de li en po pw su wr cs wb bt ct lc ad r.1 r.2.1 r.2.2 fx us ln pt tx br rw rest) 0 0 9 [(0, .ref 10), (2, .int x2), (3, .int x3)] [] (hC ll he de li en po pw su wr cs wb bt ct lc ad ctb lcb adb fx us ln pt tx br rw rest) := by
  intro fuel
  induction fuel with
  | zero =>
    intro bt ctb lcb adb x2 x3 r hf
    cases hf
  | succ fuel ih =>
    intro bt ctb lcb adb x2 x3 r hf o ho
    subst ho
    rw [f_Folder_loadb_L9] at hf
    refine g_iload_n (n := 10) d_Folder_load_9 rfl 2 rfl rfl ?_
    refine g_bipush (n := 12) (v := 64) d_Folder_load_10 rfl (by decide) ?_
    refine g_icmp_ge (n := 15) (tgt := 86) d_Folder_load_12 rfl (by decide) (fun q1 => ?_) (fun q1 => ?_)
    · have hf := ob_pos q1 hf
      cases hf
      exact g_vret d_Folder_load_86 rfl (Nat.zero_le _) (Nat.zero_le _)
    · have hf := ob_neg q1 hf
      refine g_iload_n (n := 16) d_Folder_load_15 rfl 1 rfl rfl ?_
      obtain ⟨r2, h3, hf⟩ := ob_bind hf
      refine c_SNr (n := 19) (st' := [.int r2]) [.int x2] [] d_Folder_load_16 rfl (s_V_isCluster htr h3 rfl) nw_411 tw_412 tw_1 tw_413 hd_V_isCluster (by omega) (by decide) rfl (Nat.le_of_ble_eq_true rfl) rfl rfl ?_
      refine g_if_eq (n := 22) (tgt := 86) d_Folder_load_19 rfl (by decide) (fun q4 => ?_) (fun q4 => ?_)
      · have hf := ob_pos q4 hf
        cases hf
        exact g_vret d_Folder_load_86 rfl (Nat.zero_le _) (Nat.zero_le _)
      · have hf := ob_neg q4 hf
        refine g_iload_n (n := 23) d_Folder_load_22 rfl 1 rfl rfl ?_
        obtain ⟨r5, h6, hf⟩ := ob_bind hf
        refine c_SNr (n := 26) (st' := [.int r5]) [.int x2] [] d_Folder_load_23 rfl (s_V_sectorOf htr h6 rfl) nw_414 tw_415 tw_1 tw_416 hd_V_sectorOf (by omega) (by decide) rfl (Nat.le_of_ble_eq_true rfl) rfl rfl ?_
        refine g_bipush (n := 28) (v := 32) d_Folder_load_26 rfl (by decide) ?_
        refine g_imul (n := 29) d_Folder_load_28 rfl ?_
        refine g_istore (n := 31) (ls' := [(4, .int (r5 * 32)), (0, .ref 10), (2, .int x2), (3, .int x3)]) d_Folder_load_29 rfl (am_ltb rfl) rfl ?_
        refine g_aload_n (n := 32) d_Folder_load_31 rfl 1 rfl rfl ?_
        refine g_get (n := 35) (q0 := 10) d_Folder_load_32 rfl (am_fl in_Folder rfl (by decide : 2 < 5)) (List.mem_cons_of_mem _ tw_111) rfl rfl ?_
        refine g_iconst (n := 36) (v := 2) d_Folder_load_35 rfl (by decide) ?_
        refine g_iload_n (n := 37) d_Folder_load_36 rfl 3 rfl rfl ?_
        refine g_imul (n := 38) d_Folder_load_37 rfl ?_
        refine g_iload (n := 40) d_Folder_load_38 rfl 0 rfl ?_
        obtain ⟨b7, hf⟩ := ob_chk hf
        refine g_iast (n := 41) (q0 := 11) (h' := (hC ll he de li en po pw su wr cs wb bt ct lc ad ctb lcb (upd adb (2 * x3).toNatClampNeg (r5 * 32)) fx us ln pt tx br rw rest)) d_Folder_load_40 rfl rfl (am_inl b7) rfl ?_
        refine g_aload_n (n := 42) d_Folder_load_41 rfl 1 rfl rfl ?_
        refine g_get (n := 45) (q0 := 10) d_Folder_load_42 rfl (am_fl in_Folder rfl (by decide : 2 < 5)) (List.mem_cons_of_mem _ tw_111) rfl rfl ?_
        refine g_iconst (n := 46) (v := 2) d_Folder_load_45 rfl (by decide) ?_
        refine g_iload_n (n := 47) d_Folder_load_46 rfl 3 rfl rfl ?_
        refine g_imul (n := 48) d_Folder_load_47 rfl ?_
        refine g_iconst (n := 49) (v := 1) d_Folder_load_48 rfl (by decide) ?_
        refine g_iadd (n := 50) d_Folder_load_49 rfl ?_
        refine g_iload (n := 52) d_Folder_load_50 rfl 0 rfl ?_
        refine g_bipush (n := 54) (v := 16) d_Folder_load_52 rfl (by decide) ?_
        refine g_iadd (n := 55) d_Folder_load_54 rfl ?_
        obtain ⟨b8, hf⟩ := ob_chk hf
        refine g_iast (n := 56) (q0 := 11) (h' := (hC ll he de li en po pw su wr cs wb bt ct lc ad ctb lcb (upd (upd adb (2 * x3).toNatClampNeg (r5 * 32)) ((2 * x3) + 1).toNatClampNeg ((r5 * 32) + 16)) fx us ln pt tx br rw rest)) d_Folder_load_55 rfl rfl (am_inl b8) rfl ?_
        refine g_aload_n (n := 57) d_Folder_load_56 rfl 1 rfl rfl ?_
        refine g_dup (n := 58) d_Folder_load_57 rfl rfl ?_
        refine g_get (n := 61) (q0 := 10) d_Folder_load_58 rfl (am_fl in_Folder rfl (by decide : 3 < 5)) (List.mem_cons_of_mem _ tw_112) rfl rfl ?_
        refine g_iconst (n := 62) (v := 2) d_Folder_load_61 rfl (by decide) ?_
        refine g_iadd (n := 63) d_Folder_load_62 rfl ?_
        refine g_put (n := 66) (q0 := 10) (h' := (hC ll he de li en po pw su wr cs wb bt ct lc ad (ctb + 2) lcb (upd (upd adb (2 * x3).toNatClampNeg (r5 * 32)) ((2 * x3) + 1).toNatClampNeg ((r5 * 32) + 16)) fx us ln pt tx br rw rest)) d_Folder_load_63 rfl (am_fl in_Folder rfl (by decide : 3 < 5)) typ_Folder (List.mem_cons_of_mem _ tw_112) rfl (fun _ _ => rfl) (fun _ _ => rfl) rfl (am_ltb rfl) rfl ?_
        refine g_aload_n (n := 67) d_Folder_load_66 rfl 1 rfl rfl ?_
        refine g_iload_n (n := 68) d_Folder_load_67 rfl 2 rfl rfl ?_
        refine g_put (n := 71) (q0 := 10) (h' := (hC ll he de li en po pw su wr cs wb bt ct lc ad (ctb + 2) x2 (upd (upd adb (2 * x3).toNatClampNeg (r5 * 32)) ((2 * x3) + 1).toNatClampNeg ((r5 * 32) + 16)) fx us ln pt tx br rw rest)) d_Folder_load_68 rfl (am_fl in_Folder rfl (by decide : 4 < 5)) typ_Folder (List.mem_cons_of_mem _ tw_114) rfl (fun _ _ => rfl) (fun _ _ => rfl) rfl (am_ltb rfl) rfl ?_
        refine g_aload_n (n := 72) d_Folder_load_71 rfl 1 rfl rfl ?_
        refine g_get (n := 75) (q0 := 10) d_Folder_load_72 rfl (am_fl in_Folder rfl (by decide : 1 < 5)) (List.mem_cons_of_mem _ tw_110) rfl rfl ?_
        refine g_iload_n (n := 76) d_Folder_load_75 rfl 2 rfl rfl ?_
        obtain ⟨r9, h10, hf⟩ := ob_bind hf
        refine c_Vr (n := 79) (st' := [.int r9]) [.int x2] [] d_Folder_load_76 rfl (s_Table_cell htr h10 rfl) tw_417 tw_287 tw_288 tw_4 tw_289 hd_Table_cell (by omega) (by decide) (ci := 5) rfl rfl rfl (Nat.le_of_ble_eq_true rfl) rfl rfl ?_
        refine g_istore_n (n := 80) (ls' := [(2, .int r9), (4, .int (r5 * 32)), (0, .ref 10), (3, .int x3)]) d_Folder_load_79 rfl rfl (am_ltb rfl) rfl ?_
        refine g_iinc (n := 83) (v := (x3 + 1)) (ls' := [(3, .int (x3 + 1)), (2, .int r9), (4, .int (r5 * 32)), (0, .ref 10)]) d_Folder_load_80 rfl 3 rfl rfl (am_ltb rfl) rfl ?_
        refine g_goto (n := 9) d_Folder_load_83 (by decide) ?_
        refine g_ls [3, 1, 0] rfl ?_
        exact ih bt (ctb + 2) x2 (upd (upd adb (2 * x3).toNatClampNeg (r5 * 32)) ((2 * x3) + 1).toNatClampNeg ((r5 * 32) + 16)) r9 (x3 + 1) _ hf _ rfl
def f_Folder_loadb (bt : Nat → Int32) (ctb : Int32) (lcb : Int32) (adb : Nat → Int32) (x1 : Int32) : Option (Int32 × Int32 × (Nat → Int32)) :=
  f_Folder_loadb_L9 100000000000 bt 0 lcb adb x1 0
set_option maxHeartbeats 4000000 in
set_option maxRecDepth 100000 in
theorem s_Folder_loadb {l : Launch} {D : va_G} {dA : FieldType → ClassId} (htr : l.stackTraces = false) {rest : List am_E} {ll : Int32} {he : Int32} {de : Int32} {li : Nat → Int32} {en : Nat → Int32} {po : Nat → Int32} {pw : Int32} {su : Int32} {wr : Int32} {cs : Int32} {wb : Int32} {bt : Nat → Int32} {ct : Int32} {lc : Int32} {ad : Nat → Int32} {ctb : Int32} {lcb : Int32} {adb : Nat → Int32} {fx : Int32} {us : Nat → Int32} {ln : Int32} {pt : Int32} {tx : Nat → Int32} {br : Nat → Int32} {rw : Nat → Int32}  {x1 : Int32} {r : Int32 × Int32 × (Nat → Int32)} (hf : f_Folder_loadb bt ctb lcb adb x1 = some r) {o : am_O} (ho : .inl none = o) :
    am_M (am_kk l D dA) y_Folder_load ws_Folder_load (am_rm 2 o) [.ref 10, .int x1] (hC ll he de li en po pw su wr cs wb bt ct lc ad ctb lcb adb fx us ln pt tx br rw rest) o (hC ll he de li en po pw su wr cs wb bt ct lc ad r.1 r.2.1 r.2.2 fx us ln pt tx br rw rest) := by
  subst ho
  refine am_body (by decide) rfl (Nat.le_of_ble_eq_true rfl) rfl ?_
  rw [f_Folder_loadb] at hf
  refine g_aload_n (n := 1) d_Folder_load_0 rfl 0 rfl rfl ?_
  refine g_iconst (n := 2) (v := 0) d_Folder_load_1 rfl (by decide) ?_
  refine g_put (n := 5) (q0 := 10) (h' := (hC ll he de li en po pw su wr cs wb bt ct lc ad 0 lcb adb fx us ln pt tx br rw rest)) d_Folder_load_2 rfl (am_fl in_Folder rfl (by decide : 3 < 5)) typ_Folder (List.mem_cons_of_mem _ tw_112) rfl (fun _ _ => rfl) (fun _ _ => rfl) rfl (am_ltb rfl) rfl ?_
  refine g_iload_n (n := 6) d_Folder_load_5 rfl 1 rfl rfl ?_
  refine g_istore_n (n := 7) (ls' := [(2, .int x1), (0, .ref 10), (1, .int x1)]) d_Folder_load_6 rfl rfl (am_ltb rfl) rfl ?_
  refine g_iconst (n := 8) (v := 0) d_Folder_load_7 rfl (by decide) ?_
  refine g_istore_n (n := 9) (ls' := [(3, .int 0), (2, .int x1), (0, .ref 10), (1, .int x1)]) d_Folder_load_8 rfl rfl (am_ltb rfl) rfl ?_
  refine g_ls [2, 1, 0] rfl ?_
  exact s_Folder_loadb_L9 htr 100000000000 bt 0 lcb adb x1 0 _ hf _ rfl
def f_Folder_byteOfb (bt : Nat → Int32) (ctb : Int32) (adb : Nat → Int32) (x1 : Int32) (x2 : Int32) : Option (Int32) :=
  (if x1 < 0 then some 0 else (if ctb ≤ x1 then some 0 else (if am_in x1 128 = true then ((f_Disk_at bt ((adb x1.toNatClampNeg) + x2)).bind fun r4 => some r4) else none)))
set_option maxHeartbeats 4000000 in
set_option maxRecDepth 100000 in
theorem s_Folder_byteOfb {l : Launch} {D : va_G} {dA : FieldType → ClassId} (htr : l.stackTraces = false) {rest : List am_E} {ll : Int32} {he : Int32} {de : Int32} {li : Nat → Int32} {en : Nat → Int32} {po : Nat → Int32} {pw : Int32} {su : Int32} {wr : Int32} {cs : Int32} {wb : Int32} {bt : Nat → Int32} {ct : Int32} {lc : Int32} {ad : Nat → Int32} {ctb : Int32} {lcb : Int32} {adb : Nat → Int32} {fx : Int32} {us : Nat → Int32} {ln : Int32} {pt : Int32} {tx : Nat → Int32} {br : Nat → Int32} {rw : Nat → Int32}  {x1 : Int32} {x2 : Int32} {r : Int32} (hf : f_Folder_byteOfb bt ctb adb x1 x2 = some r) {o : am_O} (ho : .inl (some (.int r)) = o) :
    am_M (am_kk l D dA) y_Folder_byteOf ws_Folder_byteOf (am_rm 1 o) [.ref 10, .int x1, .int x2] (hC ll he de li en po pw su wr cs wb bt ct lc ad ctb lcb adb fx us ln pt tx br rw rest) o (hC ll he de li en po pw su wr cs wb bt ct lc ad ctb lcb adb fx us ln pt tx br rw rest) := by
  subst ho
  refine am_body (by decide) rfl (Nat.le_of_ble_eq_true rfl) rfl ?_
  rw [f_Folder_byteOfb] at hf
  refine g_iload_n (n := 1) d_Folder_byteOf_0 rfl 1 rfl rfl ?_
  refine g_if_lt (n := 4) (tgt := 30) d_Folder_byteOf_1 rfl (by decide) (fun q1 => ?_) (fun q1 => ?_)
  · have hf := ob_pos q1 hf
    refine g_iconst (n := 31) (v := 0) d_Folder_byteOf_30 rfl (by decide) ?_
    cases hf
    exact g_iret d_Folder_byteOf_31 rfl (Nat.zero_le _) (Nat.zero_le _)
  · have hf := ob_neg q1 hf
    refine g_iload_n (n := 5) d_Folder_byteOf_4 rfl 1 rfl rfl ?_
    refine g_aload_n (n := 6) d_Folder_byteOf_5 rfl 0 rfl rfl ?_
    refine g_get (n := 9) (q0 := 10) d_Folder_byteOf_6 rfl (am_fl in_Folder rfl (by decide : 3 < 5)) (List.mem_cons_of_mem _ tw_112) rfl rfl ?_
    refine g_icmp_ge (n := 12) (tgt := 30) d_Folder_byteOf_9 rfl (by decide) (fun q2 => ?_) (fun q2 => ?_)
    · have hf := ob_pos q2 hf
      refine g_iconst (n := 31) (v := 0) d_Folder_byteOf_30 rfl (by decide) ?_
      cases hf
      exact g_iret d_Folder_byteOf_31 rfl (Nat.zero_le _) (Nat.zero_le _)
    · have hf := ob_neg q2 hf
      refine g_aload_n (n := 13) d_Folder_byteOf_12 rfl 0 rfl rfl ?_
      refine g_get (n := 16) (q0 := 10) d_Folder_byteOf_13 rfl (am_fl in_Folder rfl (by decide : 0 < 5)) (List.mem_cons_of_mem _ tw_109) rfl rfl ?_
      refine g_aload_n (n := 17) d_Folder_byteOf_16 rfl 0 rfl rfl ?_
      refine g_get (n := 20) (q0 := 10) d_Folder_byteOf_17 rfl (am_fl in_Folder rfl (by decide : 2 < 5)) (List.mem_cons_of_mem _ tw_111) rfl rfl ?_
      refine g_iload_n (n := 21) d_Folder_byteOf_20 rfl 1 rfl rfl ?_
      obtain ⟨b3, hf⟩ := ob_chk hf
      refine g_iald (n := 22) (q0 := 11) d_Folder_byteOf_21 rfl rfl (am_inl b3) ?_
      refine g_iload_n (n := 23) d_Folder_byteOf_22 rfl 2 rfl rfl ?_
      refine g_iadd (n := 24) d_Folder_byteOf_23 rfl ?_
      obtain ⟨r4, h5, hf⟩ := ob_bind hf
      refine c_Vr (n := 27) (st' := [.int r4]) [.int ((adb x1.toNatClampNeg) + x2)] [] d_Folder_byteOf_24 rfl (s_Disk_at htr h5 rfl) tw_430 tw_262 tw_263 tw_3 tw_264 hd_Disk_at (by omega) (by decide) (ci := 0) rfl rfl rfl (Nat.le_of_ble_eq_true rfl) rfl rfl ?_
      refine g_goto (n := 31) d_Folder_byteOf_27 (by decide) ?_
      cases hf
      exact g_iret d_Folder_byteOf_31 rfl (Nat.zero_le _) (Nat.zero_le _)
def f_Folder_isFreeb (bt : Nat → Int32) (ctb : Int32) (adb : Nat → Int32) (x1 : Int32) : Option (Int32) :=
  ((f_Folder_byteOfb bt ctb adb x1 0).bind fun r1 => (if r1 = 0 then some 1 else (if r1 = 229 then some 1 else some 0)))
set_option maxHeartbeats 4000000 in
set_option maxRecDepth 100000 in
theorem s_Folder_isFreeb {l : Launch} {D : va_G} {dA : FieldType → ClassId} (htr : l.stackTraces = false) {rest : List am_E} {ll : Int32} {he : Int32} {de : Int32} {li : Nat → Int32} {en : Nat → Int32} {po : Nat → Int32} {pw : Int32} {su : Int32} {wr : Int32} {cs : Int32} {wb : Int32} {bt : Nat → Int32} {ct : Int32} {lc : Int32} {ad : Nat → Int32} {ctb : Int32} {lcb : Int32} {adb : Nat → Int32} {fx : Int32} {us : Nat → Int32} {ln : Int32} {pt : Int32} {tx : Nat → Int32} {br : Nat → Int32} {rw : Nat → Int32}  {x1 : Int32} {r : Int32} (hf : f_Folder_isFreeb bt ctb adb x1 = some r) {o : am_O} (ho : .inl (some (.int r)) = o) :
    am_M (am_kk l D dA) y_Folder_isFree ws_Folder_isFree (am_rm 2 o) [.ref 10, .int x1] (hC ll he de li en po pw su wr cs wb bt ct lc ad ctb lcb adb fx us ln pt tx br rw rest) o (hC ll he de li en po pw su wr cs wb bt ct lc ad ctb lcb adb fx us ln pt tx br rw rest) := by
  subst ho
  refine am_body (by decide) rfl (Nat.le_of_ble_eq_true rfl) rfl ?_
  rw [f_Folder_isFreeb] at hf
  refine g_aload_n (n := 1) d_Folder_isFree_0 rfl 0 rfl rfl ?_
  refine g_iload_n (n := 2) d_Folder_isFree_1 rfl 1 rfl rfl ?_
  refine g_iconst (n := 3) (v := 0) d_Folder_isFree_2 rfl (by decide) ?_
  obtain ⟨r1, h2, hf⟩ := ob_bind hf
  refine c_Vr (n := 6) (st' := [.int r1]) [.int x1, .int 0] [] d_Folder_isFree_3 rfl (s_Folder_byteOfb htr h2 rfl) tw_426 tw_427 tw_428 tw_5 tw_429 hd_Folder_byteOf (by omega) (by decide) (ci := 1) rfl rfl rfl (Nat.le_of_ble_eq_true rfl) rfl rfl ?_
  refine g_istore_n (n := 7) (ls' := [(2, .int r1), (0, .ref 10), (1, .int x1)]) d_Folder_isFree_6 rfl rfl (am_ltb rfl) rfl ?_
  refine g_iload_n (n := 8) d_Folder_isFree_7 rfl 0 rfl rfl ?_
  refine g_if_eq (n := 11) (tgt := 18) d_Folder_isFree_8 rfl (by decide) (fun q3 => ?_) (fun q3 => ?_)
  · have hf := ob_pos q3 hf
    refine g_iconst (n := 19) (v := 1) d_Folder_isFree_18 rfl (by decide) ?_
    refine g_goto (n := 23) d_Folder_isFree_19 (by decide) ?_
    cases hf
    exact g_zret d_Folder_isFree_23 rfl am_z1 (Nat.zero_le _) (Nat.zero_le _)
  · have hf := ob_neg q3 hf
    refine g_iload_n (n := 12) d_Folder_isFree_11 rfl 0 rfl rfl ?_
    refine g_sipush (n := 15) (v := 229) d_Folder_isFree_12 rfl (by decide) ?_
    refine g_icmp_ne (n := 18) (tgt := 22) d_Folder_isFree_15 rfl (by decide) (fun q4 => ?_) (fun q4 => ?_)
    · have hf := ob_neg q4 hf
      refine g_iconst (n := 23) (v := 0) d_Folder_isFree_22 rfl (by decide) ?_
      cases hf
      exact g_zret d_Folder_isFree_23 rfl am_z0 (Nat.zero_le _) (Nat.zero_le _)
    · have hf := ob_pos q4 hf
      refine g_iconst (n := 19) (v := 1) d_Folder_isFree_18 rfl (by decide) ?_
      refine g_goto (n := 23) d_Folder_isFree_19 (by decide) ?_
      cases hf
      exact g_zret d_Folder_isFree_23 rfl am_z1 (Nat.zero_le _) (Nat.zero_le _)
def f_Folder_isEmptyb_L2 : Nat → (Nat → Int32) → Int32 → (Nat → Int32) → Int32 → Option (Int32)
  | 0, _, _, _, _ => none
  | fuel + 1, bt, ctb, adb, x1 =>
  (if ctb ≤ x1 then some 1 else ((f_Folder_isFreeb bt ctb adb x1).bind fun r2 => (if r2 = 0 then some 0 else f_Folder_isEmptyb_L2 fuel bt ctb adb (x1 + 1))))
set_option maxHeartbeats 4000000 in
set_option maxRecDepth 100000 in
theorem s_Folder_isEmptyb_L2 {l : Launch} {D : va_G} {dA : FieldType → ClassId} (htr : l.stackTraces = false) {rest : List am_E} {ll : Int32} {he : Int32} {de : Int32} {li : Nat → Int32} {en : Nat → Int32} {po : Nat → Int32} {pw : Int32} {su : Int32} {wr : Int32} {cs : Int32} {wb : Int32} {ct : Int32} {lc : Int32} {ad : Nat → Int32} {lcb : Int32} {fx : Int32} {us : Nat → Int32} {ln : Int32} {pt : Int32} {tx : Nat → Int32} {br : Nat → Int32} {rw : Nat → Int32}  : ∀ (fuel : Nat) (bt : Nat → Int32) (ctb : Int32) (adb : Nat → Int32) (x1 : Int32) (r : Int32), f_Folder_isEmptyb_L2 fuel bt ctb adb x1 = some r → ∀ o : am_O, .inl (some (.int r)) = o →
    am_G (am_kk l D dA) (ws_Folder_isEmpty, y_Folder_isEmpty.cls, prog_3_method_11_code, 2, (some .boolean), y_Folder_isEmpty.name, [], am_rm 3 (o), none) o (hC ll he de li en po pw su wr cs wb bt ct lc ad ctb lcb adb fx us ln pt tx br rw rest) 0 0 2 [(0, .ref 10), (1, .int x1)] [] (hC ll he de li en po pw su wr cs wb bt ct lc ad ctb lcb adb fx us ln pt tx br rw rest) := by
  intro fuel
  induction fuel with
  | zero =>
    intro bt ctb adb x1 r hf
    cases hf
  | succ fuel ih =>
    intro bt ctb adb x1 r hf o ho
    subst ho
    rw [f_Folder_isEmptyb_L2] at hf
    refine g_iload_n (n := 3) d_Folder_isEmpty_2 rfl 1 rfl rfl ?_
    refine g_aload_n (n := 4) d_Folder_isEmpty_3 rfl 0 rfl rfl ?_
    refine g_get (n := 7) (q0 := 10) d_Folder_isEmpty_4 rfl (am_fl in_Folder rfl (by decide : 3 < 5)) (List.mem_cons_of_mem _ tw_112) rfl rfl ?_
    refine g_icmp_ge (n := 10) (tgt := 26) d_Folder_isEmpty_7 rfl (by decide) (fun q1 => ?_) (fun q1 => ?_)
    · have hf := ob_pos q1 hf
      refine g_iconst (n := 27) (v := 1) d_Folder_isEmpty_26 rfl (by decide) ?_
      cases hf
      exact g_zret d_Folder_isEmpty_27 rfl am_z1 (Nat.zero_le _) (Nat.zero_le _)
    · have hf := ob_neg q1 hf
      refine g_aload_n (n := 11) d_Folder_isEmpty_10 rfl 0 rfl rfl ?_
      refine g_iload_n (n := 12) d_Folder_isEmpty_11 rfl 1 rfl rfl ?_
      obtain ⟨r2, h3, hf⟩ := ob_bind hf
      refine c_Vr (n := 15) (st' := [.int r2]) [.int x1] [] d_Folder_isEmpty_12 rfl (s_Folder_isFreeb htr h3 rfl) tw_561 tw_562 tw_563 tw_5 tw_564 hd_Folder_isFree (by omega) (by decide) (ci := 1) rfl rfl rfl (Nat.le_of_ble_eq_true rfl) rfl rfl ?_
      refine g_if_ne (n := 18) (tgt := 20) d_Folder_isEmpty_15 rfl (by decide) (fun q4 => ?_) (fun q4 => ?_)
      · have hf := ob_neg q4 hf
        refine g_iinc (n := 23) (v := (x1 + 1)) (ls' := [(1, .int (x1 + 1)), (0, .ref 10)]) d_Folder_isEmpty_20 rfl 1 rfl rfl (am_ltb rfl) rfl ?_
        refine g_goto (n := 2) d_Folder_isEmpty_23 (by decide) ?_
        refine g_ls [1, 0] rfl ?_
        exact ih bt ctb adb (x1 + 1) _ hf _ rfl
      · have hf := ob_pos q4 hf
        refine g_iconst (n := 19) (v := 0) d_Folder_isEmpty_18 rfl (by decide) ?_
        cases hf
        exact g_zret d_Folder_isEmpty_19 rfl am_z0 (Nat.zero_le _) (Nat.zero_le _)
def f_Folder_isEmptyb (bt : Nat → Int32) (ctb : Int32) (adb : Nat → Int32) : Option (Int32) :=
  f_Folder_isEmptyb_L2 100000000000 bt ctb adb 0
set_option maxHeartbeats 4000000 in
set_option maxRecDepth 100000 in
theorem s_Folder_isEmptyb {l : Launch} {D : va_G} {dA : FieldType → ClassId} (htr : l.stackTraces = false) {rest : List am_E} {ll : Int32} {he : Int32} {de : Int32} {li : Nat → Int32} {en : Nat → Int32} {po : Nat → Int32} {pw : Int32} {su : Int32} {wr : Int32} {cs : Int32} {wb : Int32} {bt : Nat → Int32} {ct : Int32} {lc : Int32} {ad : Nat → Int32} {ctb : Int32} {lcb : Int32} {adb : Nat → Int32} {fx : Int32} {us : Nat → Int32} {ln : Int32} {pt : Int32} {tx : Nat → Int32} {br : Nat → Int32} {rw : Nat → Int32}   {r : Int32} (hf : f_Folder_isEmptyb bt ctb adb = some r) {o : am_O} (ho : .inl (some (.int r)) = o) :
    am_M (am_kk l D dA) y_Folder_isEmpty ws_Folder_isEmpty (am_rm 3 o) [.ref 10] (hC ll he de li en po pw su wr cs wb bt ct lc ad ctb lcb adb fx us ln pt tx br rw rest) o (hC ll he de li en po pw su wr cs wb bt ct lc ad ctb lcb adb fx us ln pt tx br rw rest) := by
  subst ho
  refine am_body (by decide) rfl (Nat.le_of_ble_eq_true rfl) rfl ?_
  rw [f_Folder_isEmptyb] at hf
  refine g_iconst (n := 1) (v := 0) d_Folder_isEmpty_0 rfl (by decide) ?_
  refine g_istore_n (n := 2) (ls' := [(1, .int 0), (0, .ref 10)]) d_Folder_isEmpty_1 rfl rfl (am_ltb rfl) rfl ?_
  refine g_ls [1, 0] rfl ?_
  exact s_Folder_isEmptyb_L2 htr 100000000000 bt ctb adb 0 _ hf _ rfl
def f_V_canBeDeleted (en : Nat → Int32) (bt : Nat → Int32) (ct : Int32) (ad : Nat → Int32) (ctb : Int32) (lcb : Int32) (adb : Nat → Int32) (x1 : Int32) : Option (Int32 × Int32 × Int32 × (Nat → Int32)) :=
  ((f_Folder_kindOf bt ct ad x1).bind fun r1 => (if r1 = 1 then ((f_Folder_addressOf ct ad x1).bind fun r11 => ((f_Ses_holds en r11).bind fun r13 => (if r13 = 0 then some (1, ctb, lcb, adb) else some (0, ctb, lcb, adb)))) else ((f_Folder_firstClusterOf bt ct ad x1).bind fun r4 => ((f_Folder_loadb bt ctb lcb adb r4).bind fun r6 => ((f_Folder_isEmptyb bt r6.1 r6.2.2).bind fun r8 => (if am_bl r8 = true then some (r8, r6.1, r6.2.1, r6.2.2) else none))))))
set_option maxHeartbeats 4000000 in
set_option maxRecDepth 100000 in
theorem s_V_canBeDeleted {l : Launch} {D : va_G} {dA : FieldType → ClassId} (htr : l.stackTraces = false) {rest : List am_E} {ll : Int32} {he : Int32} {de : Int32} {li : Nat → Int32} {en : Nat → Int32} {po : Nat → Int32} {pw : Int32} {su : Int32} {wr : Int32} {cs : Int32} {wb : Int32} {bt : Nat → Int32} {ct : Int32} {lc : Int32} {ad : Nat → Int32} {ctb : Int32} {lcb : Int32} {adb : Nat → Int32} {fx : Int32} {us : Nat → Int32} {ln : Int32} {pt : Int32} {tx : Nat → Int32} {br : Nat → Int32} {rw : Nat → Int32}  {x1 : Int32} {r : Int32 × Int32 × Int32 × (Nat → Int32)} (hf : f_V_canBeDeleted en bt ct ad ctb lcb adb x1 = some r) {o : am_O} (ho : .inl (some (.int r.1)) = o) :
    am_M (am_kk l D dA) y_V_canBeDeleted ws_V_canBeDeleted (am_rm 4 o) [.ref 0, .int x1] (hC ll he de li en po pw su wr cs wb bt ct lc ad ctb lcb adb fx us ln pt tx br rw rest) o (hC ll he de li en po pw su wr cs wb bt ct lc ad r.2.1 r.2.2.1 r.2.2.2 fx us ln pt tx br rw rest) := by
  subst ho
  refine am_body (by decide) rfl (Nat.le_of_ble_eq_true rfl) rfl ?_
  rw [f_V_canBeDeleted] at hf
  refine g_aload_n (n := 1) d_V_canBeDeleted_0 rfl 0 rfl rfl ?_
  refine g_get (n := 4) (q0 := 0) d_V_canBeDeleted_1 rfl (am_fl in_V rfl (by decide : 3 < 8)) (List.mem_cons_of_mem _ tw_176) rfl rfl ?_
  refine g_iload_n (n := 5) d_V_canBeDeleted_4 rfl 1 rfl rfl ?_
  obtain ⟨r1, h2, hf⟩ := ob_bind hf
  refine c_Vr (n := 8) (st' := [.int r1]) [.int x1] [] d_V_canBeDeleted_5 rfl (s_Folder_kindOf htr h2 rfl) tw_620 tw_423 tw_424 tw_5 tw_425 hd_Folder_kindOf (by omega) (by decide) (ci := 1) rfl rfl rfl (Nat.le_of_ble_eq_true rfl) rfl rfl ?_
  refine g_iconst (n := 9) (v := 1) d_V_canBeDeleted_8 rfl (by decide) ?_
  refine g_icmp_ne (n := 12) (tgt := 36) d_V_canBeDeleted_9 rfl (by decide) (fun q3 => ?_) (fun q3 => ?_)
  · have hf := ob_neg q3 hf
    refine g_aload_n (n := 37) d_V_canBeDeleted_36 rfl 0 rfl rfl ?_
    refine g_get (n := 40) (q0 := 0) d_V_canBeDeleted_37 rfl (am_fl in_V rfl (by decide : 4 < 8)) (List.mem_cons_of_mem _ tw_177) rfl rfl ?_
    refine g_aload_n (n := 41) d_V_canBeDeleted_40 rfl 0 rfl rfl ?_
    refine g_get (n := 44) (q0 := 0) d_V_canBeDeleted_41 rfl (am_fl in_V rfl (by decide : 3 < 8)) (List.mem_cons_of_mem _ tw_176) rfl rfl ?_
    refine g_iload_n (n := 45) d_V_canBeDeleted_44 rfl 1 rfl rfl ?_
    obtain ⟨r4, h5, hf⟩ := ob_bind hf
    refine c_Vr (n := 48) (st' := [.int r4, .ref 10]) [.int x1] [.ref 10] d_V_canBeDeleted_45 rfl (s_Folder_firstClusterOf htr h5 rfl) tw_625 tw_626 tw_627 tw_5 tw_628 hd_Folder_firstClusterOf (by omega) (by decide) (ci := 1) rfl rfl rfl (Nat.le_of_ble_eq_true rfl) rfl rfl ?_
    obtain ⟨r6, h7, hf⟩ := ob_bind hf
    refine c_Vr (n := 51) (st' := []) [.int r4] [] d_V_canBeDeleted_48 rfl (s_Folder_loadb htr h7 rfl) tw_407 tw_408 tw_409 tw_5 tw_410 hd_Folder_load (by omega) (by decide) (ci := 1) rfl rfl rfl (Nat.le_of_ble_eq_true rfl) rfl rfl ?_
    refine g_aload_n (n := 52) d_V_canBeDeleted_51 rfl 0 rfl rfl ?_
    refine g_get (n := 55) (q0 := 0) d_V_canBeDeleted_52 rfl (am_fl in_V rfl (by decide : 4 < 8)) (List.mem_cons_of_mem _ tw_177) rfl rfl ?_
    obtain ⟨r8, h9, hf⟩ := ob_bind hf
    refine c_Vr (n := 58) (st' := [.int r8]) [] [] d_V_canBeDeleted_55 rfl (s_Folder_isEmptyb htr h9 rfl) tw_634 tw_635 tw_636 tw_5 tw_637 hd_Folder_isEmpty (by omega) (by decide) (ci := 1) rfl rfl rfl (Nat.le_of_ble_eq_true rfl) rfl rfl ?_
    obtain ⟨b10, hf⟩ := ob_chk hf
    cases hf
    exact g_zret d_V_canBeDeleted_58 rfl (am_blz b10) (Nat.zero_le _) (Nat.zero_le _)
  · have hf := ob_pos q3 hf
    refine g_aload_n (n := 13) d_V_canBeDeleted_12 rfl 0 rfl rfl ?_
    refine g_get (n := 16) (q0 := 0) d_V_canBeDeleted_13 rfl (am_fl in_V rfl (by decide : 0 < 8)) (List.mem_cons_of_mem _ tw_173) rfl rfl ?_
    refine g_aload_n (n := 17) d_V_canBeDeleted_16 rfl 0 rfl rfl ?_
    refine g_get (n := 20) (q0 := 0) d_V_canBeDeleted_17 rfl (am_fl in_V rfl (by decide : 3 < 8)) (List.mem_cons_of_mem _ tw_176) rfl rfl ?_
    refine g_iload_n (n := 21) d_V_canBeDeleted_20 rfl 1 rfl rfl ?_
    obtain ⟨r11, h12, hf⟩ := ob_bind hf
    refine c_Vr (n := 24) (st' := [.int r11, .ref 1]) [.int x1] [.ref 1] d_V_canBeDeleted_21 rfl (s_Folder_addressOf htr h12 rfl) tw_580 tw_581 tw_582 tw_5 tw_583 hd_Folder_addressOf (by omega) (by decide) (ci := 1) rfl rfl rfl (Nat.le_of_ble_eq_true rfl) rfl rfl ?_
    obtain ⟨r13, h14, hf⟩ := ob_bind hf
    refine c_Vr (n := 27) (st' := [.int r13]) [.int r11] [] d_V_canBeDeleted_24 rfl (s_Ses_holds htr h14 rfl) tw_621 tw_622 tw_623 tw_2 tw_624 hd_Ses_holds (by omega) (by decide) (ci := 4) rfl rfl rfl (Nat.le_of_ble_eq_true rfl) rfl rfl ?_
    refine g_if_ne (n := 30) (tgt := 34) d_V_canBeDeleted_27 rfl (by decide) (fun q15 => ?_) (fun q15 => ?_)
    · have hf := ob_neg q15 hf
      refine g_iconst (n := 35) (v := 0) d_V_canBeDeleted_34 rfl (by decide) ?_
      cases hf
      exact g_zret d_V_canBeDeleted_35 rfl am_z0 (Nat.zero_le _) (Nat.zero_le _)
    · have hf := ob_pos q15 hf
      refine g_iconst (n := 31) (v := 1) d_V_canBeDeleted_30 rfl (by decide) ?_
      refine g_goto (n := 35) d_V_canBeDeleted_31 (by decide) ?_
      cases hf
      exact g_zret d_V_canBeDeleted_35 rfl am_z1 (Nat.zero_le _) (Nat.zero_le _)
def f_Disk_writeByte (g : am_WS) (x1 : Int32) (x2 : Int32) : Option ((String ⊕ Unit) × am_WS) :=
  ((f_Disk_countWrite g).bind fun r1 => am_t r1.1 (fun E3 => some (.inl E3, r1.2)) (fun v4 => ((f_Disk_put r1.2.2.2.2.2.2.2.2.2.2 x1 x2).bind fun r6 => some (.inr (), (r1.2.1, r1.2.2.1, r1.2.2.2.1, r1.2.2.2.2.1, r1.2.2.2.2.2.1, r1.2.2.2.2.2.2.1, r1.2.2.2.2.2.2.2.1, r1.2.2.2.2.2.2.2.2.1, r1.2.2.2.2.2.2.2.2.2.1, r6)))))
set_option maxHeartbeats 4000000 in
set_option maxRecDepth 100000 in
theorem s_Disk_writeByte {l : Launch} {D : va_G} {dA : FieldType → ClassId} (htr : l.stackTraces = false) {rest : List am_E} {li : Nat → Int32} {su : Int32} {ct : Int32} {lc : Int32} {ad : Nat → Int32} {ctb : Int32} {lcb : Int32} {adb : Nat → Int32} {fx : Int32} {us : Nat → Int32} {ln : Int32} {pt : Int32} {tx : Nat → Int32} {br : Nat → Int32} {rw : Nat → Int32} {g : am_WS} {x1 : Int32} {x2 : Int32} {r : (String ⊕ Unit) × am_WS} (hf : f_Disk_writeByte g x1 x2 = some r) {o : am_O} (ho : am_ov r.1 = o) :
    am_M (am_kk l D dA) y_Disk_writeByte ws_Disk_writeByte (am_rm 2 o) [.ref 5, .int x1, .int x2] (hC g.1 g.2.1 g.2.2.1 li g.2.2.2.1 g.2.2.2.2.1 g.2.2.2.2.2.1 su g.2.2.2.2.2.2.1 g.2.2.2.2.2.2.2.1 g.2.2.2.2.2.2.2.2.1 g.2.2.2.2.2.2.2.2.2 ct lc ad ctb lcb adb fx us ln pt tx br rw rest) o (hC r.2.1 r.2.2.1 r.2.2.2.1 li r.2.2.2.2.1 r.2.2.2.2.2.1 r.2.2.2.2.2.2.1 su r.2.2.2.2.2.2.2.1 r.2.2.2.2.2.2.2.2.1 r.2.2.2.2.2.2.2.2.2.1 r.2.2.2.2.2.2.2.2.2.2 ct lc ad ctb lcb adb fx us ln pt tx br rw rest) := by
  subst ho
  refine am_body (by decide) rfl (Nat.le_of_ble_eq_true rfl) rfl ?_
  rw [f_Disk_writeByte] at hf
  refine g_aload_n (n := 1) d_Disk_writeByte_0 rfl 0 rfl rfl ?_
  obtain ⟨r1, h2, hf⟩ := ob_bind hf
  rcases ob_t hf with ⟨E3, w5, hf⟩ | ⟨v4, w5, hf⟩
  · cases hf
    refine c_Vx (n := 4) (st' := []) [] [] d_Disk_writeByte_1 rfl (s_Disk_countWrite htr h2 (by rw [w5]; rfl)) tw_538 tw_539 tw_540 tw_3 tw_541 hd_Disk_countWrite (by omega) (by decide) (ci := 0) rfl rfl rfl (Nat.le_of_ble_eq_true rfl) rfl ?_
    exact g_out rfl (Nat.le_refl _) (Nat.le_refl _)
  · refine c_Vr (n := 4) (st' := []) [] [] d_Disk_writeByte_1 rfl (s_Disk_countWrite htr h2 (by rw [w5]; rfl)) tw_538 tw_539 tw_540 tw_3 tw_541 hd_Disk_countWrite (by omega) (by decide) (ci := 0) rfl rfl rfl (Nat.le_of_ble_eq_true rfl) rfl rfl ?_
    refine g_aload_n (n := 5) d_Disk_writeByte_4 rfl 0 rfl rfl ?_
    refine g_iload_n (n := 6) d_Disk_writeByte_5 rfl 1 rfl rfl ?_
    refine g_iload_n (n := 7) d_Disk_writeByte_6 rfl 2 rfl rfl ?_
    obtain ⟨r6, h7, hf⟩ := ob_bind hf
    refine c_Vr (n := 10) (st' := []) [.int x1, .int x2] [] d_Disk_writeByte_7 rfl (s_Disk_put htr h7 rfl) tw_546 tw_270 tw_271 tw_3 tw_272 hd_Disk_put (by omega) (by decide) (ci := 0) rfl rfl rfl (Nat.le_of_ble_eq_true rfl) rfl rfl ?_
    cases hf
    exact g_vret d_Disk_writeByte_10 rfl (Nat.zero_le _) (Nat.zero_le _)
def f_Folder_markFreed_L6 : Nat → am_WS → Int32 → (Nat → Int32) → Int32 → Int32 → Option ((String ⊕ Unit) × am_WS)
  | 0, _, _, _, _, _ => none
  | fuel + 1, g, ct, ad, x1, x2 =>
  (if x2 ≤ 0 then ((f_Folder_addressOf ct ad x1).bind fun r4 => ((f_Disk_writeByte g r4 229).bind fun r6 => am_t r6.1 (fun E8 => some (.inl E8, r6.2)) (fun v9 => some (.inr (), r6.2)))) else ((f_Folder_addressOf ct ad (x1 - x2)).bind fun r11 => ((f_Disk_writeByte g r11 229).bind fun r13 => am_t r13.1 (fun E15 => some (.inl E15, r13.2)) (fun v16 => f_Folder_markFreed_L6 fuel r13.2 ct ad x1 (x2 + (-1))))))
set_option maxHeartbeats 4000000 in
set_option maxRecDepth 100000 in
theorem s_Folder_markFreed_L6 {l : Launch} {D : va_G} {dA : FieldType → ClassId} (htr : l.stackTraces = false) {rest : List am_E} {li : Nat → Int32} {su : Int32} {lc : Int32} {ctb : Int32} {lcb : Int32} {adb : Nat → Int32} {fx : Int32} {us : Nat → Int32} {ln : Int32} {pt : Int32} {tx : Nat → Int32} {br : Nat → Int32} {rw : Nat → Int32}  : ∀ (fuel : Nat) (g : am_WS) (ct : Int32) (ad : Nat → Int32) (x1 : Int32) (x2 : Int32) (r : (String ⊕ Unit) × am_WS), f_Folder_markFreed_L6 fuel g ct ad x1 x2 = some r → ∀ o : am_O, am_ov r.1 = o →
    am_G (am_kk l D dA) (ws_Folder_markFreed, y_Folder_markFreed.cls, prog_3_method_29_code, 3, none, y_Folder_markFreed.name, [], am_rm 4 (o), none) o (hC r.2.1 r.2.2.1 r.2.2.2.1 li r.2.2.2.2.1 r.2.2.2.2.2.1 r.2.2.2.2.2.2.1 su r.2.2.2.2.2.2.2.1 r.2.2.2.2.2.2.2.2.1 r.2.2.2.2.2.2.2.2.2.1 r.2.2.2.2.2.2.2.2.2.2 ct lc ad ctb lcb adb fx us ln pt tx br rw rest) 0 0 6 [(0, .ref 8), (1, .int x1), (2, .int x2)] [] (hC g.1 g.2.1 g.2.2.1 li g.2.2.2.1 g.2.2.2.2.1 g.2.2.2.2.2.1 su g.2.2.2.2.2.2.1 g.2.2.2.2.2.2.2.1 g.2.2.2.2.2.2.2.2.1 g.2.2.2.2.2.2.2.2.2 ct lc ad ctb lcb adb fx us ln pt tx br rw rest) := by
  intro fuel
  induction fuel with
  | zero =>
    intro g ct ad x1 x2 r hf
    cases hf
  | succ fuel ih =>
    intro g ct ad x1 x2 r hf o ho
    subst ho
    rw [f_Folder_markFreed_L6] at hf
    refine g_iload_n (n := 7) d_Folder_markFreed_6 rfl 2 rfl rfl ?_
    refine g_if_le (n := 10) (tgt := 33) d_Folder_markFreed_7 rfl (by decide) (fun q3 => ?_) (fun q3 => ?_)
    · have hf := ob_pos q3 hf
      refine g_aload_n (n := 34) d_Folder_markFreed_33 rfl 0 rfl rfl ?_
      refine g_get (n := 37) (q0 := 8) d_Folder_markFreed_34 rfl (am_fl in_Folder rfl (by decide : 0 < 5)) (List.mem_cons_of_mem _ tw_109) rfl rfl ?_
      refine g_aload_n (n := 38) d_Folder_markFreed_37 rfl 0 rfl rfl ?_
      refine g_iload_n (n := 39) d_Folder_markFreed_38 rfl 1 rfl rfl ?_
      obtain ⟨r4, h5, hf⟩ := ob_bind hf
      refine c_Vr (n := 42) (st' := [.int r4, .ref 5]) [.int x1] [.ref 5] d_Folder_markFreed_39 rfl (s_Folder_addressOf htr h5 rfl) tw_643 tw_581 tw_582 tw_5 tw_583 hd_Folder_addressOf (by omega) (by decide) (ci := 1) rfl rfl rfl (Nat.le_of_ble_eq_true rfl) rfl rfl ?_
      refine g_sipush (n := 45) (v := 229) d_Folder_markFreed_42 rfl (by decide) ?_
      obtain ⟨r6, h7, hf⟩ := ob_bind hf
      rcases ob_t hf with ⟨E8, w10, hf⟩ | ⟨v9, w10, hf⟩
      · cases hf
        refine c_Vx (n := 48) (st' := []) [.int r4, .int 229] [] d_Folder_markFreed_45 rfl (s_Disk_writeByte htr h7 (by rw [w10]; rfl)) tw_644 tw_645 tw_646 tw_3 tw_647 hd_Disk_writeByte (by omega) (by decide) (ci := 0) rfl rfl rfl (Nat.le_of_ble_eq_true rfl) rfl ?_
        exact g_out rfl (Nat.le_refl _) (Nat.le_refl _)
      · refine c_Vr (n := 48) (st' := []) [.int r4, .int 229] [] d_Folder_markFreed_45 rfl (s_Disk_writeByte htr h7 (by rw [w10]; rfl)) tw_644 tw_645 tw_646 tw_3 tw_647 hd_Disk_writeByte (by omega) (by decide) (ci := 0) rfl rfl rfl (Nat.le_of_ble_eq_true rfl) rfl rfl ?_
        cases hf
        exact g_vret d_Folder_markFreed_48 rfl (Nat.zero_le _) (Nat.zero_le _)
    · have hf := ob_neg q3 hf
      refine g_aload_n (n := 11) d_Folder_markFreed_10 rfl 0 rfl rfl ?_
      refine g_get (n := 14) (q0 := 8) d_Folder_markFreed_11 rfl (am_fl in_Folder rfl (by decide : 0 < 5)) (List.mem_cons_of_mem _ tw_109) rfl rfl ?_
      refine g_aload_n (n := 15) d_Folder_markFreed_14 rfl 0 rfl rfl ?_
      refine g_iload_n (n := 16) d_Folder_markFreed_15 rfl 1 rfl rfl ?_
      refine g_iload_n (n := 17) d_Folder_markFreed_16 rfl 2 rfl rfl ?_
      refine g_isub (n := 18) d_Folder_markFreed_17 rfl ?_
      obtain ⟨r11, h12, hf⟩ := ob_bind hf
      refine c_Vr (n := 21) (st' := [.int r11, .ref 5]) [.int (x1 - x2)] [.ref 5] d_Folder_markFreed_18 rfl (s_Folder_addressOf htr h12 rfl) tw_643 tw_581 tw_582 tw_5 tw_583 hd_Folder_addressOf (by omega) (by decide) (ci := 1) rfl rfl rfl (Nat.le_of_ble_eq_true rfl) rfl rfl ?_
      refine g_sipush (n := 24) (v := 229) d_Folder_markFreed_21 rfl (by decide) ?_
      obtain ⟨r13, h14, hf⟩ := ob_bind hf
      rcases ob_t hf with ⟨E15, w17, hf⟩ | ⟨v16, w17, hf⟩
      · cases hf
        refine c_Vx (n := 27) (st' := []) [.int r11, .int 229] [] d_Folder_markFreed_24 rfl (s_Disk_writeByte htr h14 (by rw [w17]; rfl)) tw_644 tw_645 tw_646 tw_3 tw_647 hd_Disk_writeByte (by omega) (by decide) (ci := 0) rfl rfl rfl (Nat.le_of_ble_eq_true rfl) rfl ?_
        exact g_out rfl (Nat.le_refl _) (Nat.le_refl _)
      · refine c_Vr (n := 27) (st' := []) [.int r11, .int 229] [] d_Folder_markFreed_24 rfl (s_Disk_writeByte htr h14 (by rw [w17]; rfl)) tw_644 tw_645 tw_646 tw_3 tw_647 hd_Disk_writeByte (by omega) (by decide) (ci := 0) rfl rfl rfl (Nat.le_of_ble_eq_true rfl) rfl rfl ?_
        refine g_iinc (n := 30) (v := (x2 + (-1))) (ls' := [(2, .int (x2 + (-1))), (0, .ref 8), (1, .int x1)]) d_Folder_markFreed_27 rfl 2 rfl rfl (am_ltb rfl) rfl ?_
        refine g_goto (n := 6) d_Folder_markFreed_30 (by decide) ?_
        refine g_ls [1, 2, 0] rfl ?_
        exact ih r13.2 ct ad x1 (x2 + (-1)) _ hf _ rfl
def f_Folder_markFreed (g : am_WS) (ct : Int32) (ad : Nat → Int32) (x1 : Int32) : Option ((String ⊕ Unit) × am_WS) :=
  ((f_Folder_partsOf g.2.2.2.2.2.2.2.2.2 ct ad x1).bind fun r1 => f_Folder_markFreed_L6 100000000000 g ct ad x1 r1)
set_option maxHeartbeats 4000000 in
set_option maxRecDepth 100000 in
theorem s_Folder_markFreed {l : Launch} {D : va_G} {dA : FieldType → ClassId} (htr : l.stackTraces = false) {rest : List am_E} {li : Nat → Int32} {su : Int32} {ct : Int32} {lc : Int32} {ad : Nat → Int32} {ctb : Int32} {lcb : Int32} {adb : Nat → Int32} {fx : Int32} {us : Nat → Int32} {ln : Int32} {pt : Int32} {tx : Nat → Int32} {br : Nat → Int32} {rw : Nat → Int32} {g : am_WS} {x1 : Int32} {r : (String ⊕ Unit) × am_WS} (hf : f_Folder_markFreed g ct ad x1 = some r) {o : am_O} (ho : am_ov r.1 = o) :
    am_M (am_kk l D dA) y_Folder_markFreed ws_Folder_markFreed (am_rm 4 o) [.ref 8, .int x1] (hC g.1 g.2.1 g.2.2.1 li g.2.2.2.1 g.2.2.2.2.1 g.2.2.2.2.2.1 su g.2.2.2.2.2.2.1 g.2.2.2.2.2.2.2.1 g.2.2.2.2.2.2.2.2.1 g.2.2.2.2.2.2.2.2.2 ct lc ad ctb lcb adb fx us ln pt tx br rw rest) o (hC r.2.1 r.2.2.1 r.2.2.2.1 li r.2.2.2.2.1 r.2.2.2.2.2.1 r.2.2.2.2.2.2.1 su r.2.2.2.2.2.2.2.1 r.2.2.2.2.2.2.2.2.1 r.2.2.2.2.2.2.2.2.2.1 r.2.2.2.2.2.2.2.2.2.2 ct lc ad ctb lcb adb fx us ln pt tx br rw rest) := by
  subst ho
  refine am_body (by decide) rfl (Nat.le_of_ble_eq_true rfl) rfl ?_
  rw [f_Folder_markFreed] at hf
  refine g_aload_n (n := 1) d_Folder_markFreed_0 rfl 0 rfl rfl ?_
  refine g_iload_n (n := 2) d_Folder_markFreed_1 rfl 1 rfl rfl ?_
  obtain ⟨r1, h2, hf⟩ := ob_bind hf
  refine c_Vr (n := 5) (st' := [.int r1]) [.int x1] [] d_Folder_markFreed_2 rfl (s_Folder_partsOf htr h2 rfl) tw_451 tw_452 tw_453 tw_5 tw_454 hd_Folder_partsOf (by omega) (by decide) (ci := 1) rfl rfl rfl (Nat.le_of_ble_eq_true rfl) rfl rfl ?_
  refine g_istore_n (n := 6) (ls' := [(2, .int r1), (0, .ref 8), (1, .int x1)]) d_Folder_markFreed_5 rfl rfl (am_ltb rfl) rfl ?_
  refine g_ls [1, 2, 0] rfl ?_
  exact s_Folder_markFreed_L6 htr 100000000000 g ct ad x1 r1 _ hf _ rfl
def f_Table_release_L4 : Nat → am_WS → Int32 → Int32 → Option ((String ⊕ Unit) × am_WS)
  | 0, _, _, _ => none
  | fuel + 1, g, x2, x3 =>
  (if 64 ≤ x3 then some (.inr (), g) else ((f_V_isCluster x2).bind fun r2 => (if r2 = 0 then some (.inr (), g) else ((f_Table_cell g.2.2.2.2.2.2.2.2.2 x2).bind fun r5 => ((f_Table_set g x2 0).bind fun r7 => am_t r7.1 (fun E9 => some (.inl E9, r7.2)) (fun v10 => f_Table_release_L4 fuel r7.2 r5 (x3 + 1)))))))
set_option maxHeartbeats 4000000 in
set_option maxRecDepth 100000 in
theorem s_Table_release_L4 {l : Launch} {D : va_G} {dA : FieldType → ClassId} (htr : l.stackTraces = false) {rest : List am_E} {li : Nat → Int32} {su : Int32} {ct : Int32} {lc : Int32} {ad : Nat → Int32} {ctb : Int32} {lcb : Int32} {adb : Nat → Int32} {fx : Int32} {us : Nat → Int32} {ln : Int32} {pt : Int32} {tx : Nat → Int32} {br : Nat → Int32} {rw : Nat → Int32}  : ∀ (fuel : Nat) (g : am_WS) (x2 : Int32) (x3 : Int32) (r : (String ⊕ Unit) × am_WS), f_Table_release_L4 fuel g x2 x3 = some r → ∀ o : am_O, am_ov r.1 = o →
    am_G (am_kk l D dA) (ws_Table_release, y_Table_release.cls, prog_7_method_10_code, 5, none, y_Table_release.name, [], am_rm 4 (o), none) o (hC r.2.1 r.2.2.1 r.2.2.2.1 li r.2.2.2.2.1 r.2.2.2.2.2.1 r.2.2.2.2.2.2.1 su r.2.2.2.2.2.2.2.1 r.2.2.2.2.2.2.2.2.1 r.2.2.2.2.2.2.2.2.2.1 r.2.2.2.2.2.2.2.2.2.2 ct lc ad ctb lcb adb fx us ln pt tx br rw rest) 0 0 4 [(0, .ref 7), (2, .int x2), (3, .int x3)] [] (hC g.1 g.2.1 g.2.2.1 li g.2.2.2.1 g.2.2.2.2.1 g.2.2.2.2.2.1 su g.2.2.2.2.2.2.1 g.2.2.2.2.2.2.2.1 g.2.2.2.2.2.2.2.2.1 g.2.2.2.2.2.2.2.2.2 ct lc ad ctb lcb adb fx us ln pt tx br rw rest) := by
  intro fuel
  induction fuel with
  | zero =>
    intro g x2 x3 r hf
    cases hf
  | succ fuel ih =>
    intro g x2 x3 r hf o ho
    subst ho
    rw [f_Table_release_L4] at hf
    refine g_iload_n (n := 5) d_Table_release_4 rfl 2 rfl rfl ?_
    refine g_bipush (n := 7) (v := 64) d_Table_release_5 rfl (by decide) ?_
    refine g_icmp_ge (n := 10) (tgt := 39) d_Table_release_7 rfl (by decide) (fun q1 => ?_) (fun q1 => ?_)
    · have hf := ob_pos q1 hf
      cases hf
      exact g_vret d_Table_release_39 rfl (Nat.zero_le _) (Nat.zero_le _)
    · have hf := ob_neg q1 hf
      refine g_iload_n (n := 11) d_Table_release_10 rfl 1 rfl rfl ?_
      obtain ⟨r2, h3, hf⟩ := ob_bind hf
      refine c_SNr (n := 14) (st' := [.int r2]) [.int x2] [] d_Table_release_11 rfl (s_V_isCluster htr h3 rfl) nw_652 tw_412 tw_1 tw_413 hd_V_isCluster (by omega) (by decide) rfl (Nat.le_of_ble_eq_true rfl) rfl rfl ?_
      refine g_if_eq (n := 17) (tgt := 39) d_Table_release_14 rfl (by decide) (fun q4 => ?_) (fun q4 => ?_)
      · have hf := ob_pos q4 hf
        cases hf
        exact g_vret d_Table_release_39 rfl (Nat.zero_le _) (Nat.zero_le _)
      · have hf := ob_neg q4 hf
        refine g_aload_n (n := 18) d_Table_release_17 rfl 0 rfl rfl ?_
        refine g_iload_n (n := 19) d_Table_release_18 rfl 1 rfl rfl ?_
        obtain ⟨r5, h6, hf⟩ := ob_bind hf
        refine c_Vr (n := 22) (st' := [.int r5]) [.int x2] [] d_Table_release_19 rfl (s_Table_cell htr h6 rfl) tw_286 tw_287 tw_288 tw_4 tw_289 hd_Table_cell (by omega) (by decide) (ci := 5) rfl rfl rfl (Nat.le_of_ble_eq_true rfl) rfl rfl ?_
        refine g_istore (n := 24) (ls' := [(4, .int r5), (0, .ref 7), (2, .int x2), (3, .int x3)]) d_Table_release_22 rfl (am_ltb rfl) rfl ?_
        refine g_aload_n (n := 25) d_Table_release_24 rfl 1 rfl rfl ?_
        refine g_iload_n (n := 26) d_Table_release_25 rfl 2 rfl rfl ?_
        refine g_iconst (n := 27) (v := 0) d_Table_release_26 rfl (by decide) ?_
        obtain ⟨r7, h8, hf⟩ := ob_bind hf
        rcases ob_t hf with ⟨E9, w11, hf⟩ | ⟨v10, w11, hf⟩
        · cases hf
          refine c_Vx (n := 30) (st' := []) [.int x2, .int 0] [] d_Table_release_27 rfl (s_Table_set htr h8 (by rw [w11]; rfl)) tw_530 tw_531 tw_532 tw_4 tw_533 hd_Table_set (by omega) (by decide) (ci := 5) rfl rfl rfl (Nat.le_of_ble_eq_true rfl) rfl ?_
          exact g_out rfl (Nat.le_refl _) (Nat.le_refl _)
        · refine c_Vr (n := 30) (st' := []) [.int x2, .int 0] [] d_Table_release_27 rfl (s_Table_set htr h8 (by rw [w11]; rfl)) tw_530 tw_531 tw_532 tw_4 tw_533 hd_Table_set (by omega) (by decide) (ci := 5) rfl rfl rfl (Nat.le_of_ble_eq_true rfl) rfl rfl ?_
          refine g_iload (n := 32) d_Table_release_30 rfl 0 rfl ?_
          refine g_istore_n (n := 33) (ls' := [(2, .int r5), (4, .int r5), (0, .ref 7), (3, .int x3)]) d_Table_release_32 rfl rfl (am_ltb rfl) rfl ?_
          refine g_iinc (n := 36) (v := (x3 + 1)) (ls' := [(3, .int (x3 + 1)), (2, .int r5), (4, .int r5), (0, .ref 7)]) d_Table_release_33 rfl 3 rfl rfl (am_ltb rfl) rfl ?_
          refine g_goto (n := 4) d_Table_release_36 (by decide) ?_
          refine g_ls [3, 1, 0] rfl ?_
          exact ih r7.2 r5 (x3 + 1) _ hf _ rfl
def f_Table_release (g : am_WS) (x1 : Int32) : Option ((String ⊕ Unit) × am_WS) :=
  f_Table_release_L4 100000000000 g x1 0
set_option maxHeartbeats 4000000 in
set_option maxRecDepth 100000 in
theorem s_Table_release {l : Launch} {D : va_G} {dA : FieldType → ClassId} (htr : l.stackTraces = false) {rest : List am_E} {li : Nat → Int32} {su : Int32} {ct : Int32} {lc : Int32} {ad : Nat → Int32} {ctb : Int32} {lcb : Int32} {adb : Nat → Int32} {fx : Int32} {us : Nat → Int32} {ln : Int32} {pt : Int32} {tx : Nat → Int32} {br : Nat → Int32} {rw : Nat → Int32} {g : am_WS} {x1 : Int32} {r : (String ⊕ Unit) × am_WS} (hf : f_Table_release g x1 = some r) {o : am_O} (ho : am_ov r.1 = o) :
    am_M (am_kk l D dA) y_Table_release ws_Table_release (am_rm 4 o) [.ref 7, .int x1] (hC g.1 g.2.1 g.2.2.1 li g.2.2.2.1 g.2.2.2.2.1 g.2.2.2.2.2.1 su g.2.2.2.2.2.2.1 g.2.2.2.2.2.2.2.1 g.2.2.2.2.2.2.2.2.1 g.2.2.2.2.2.2.2.2.2 ct lc ad ctb lcb adb fx us ln pt tx br rw rest) o (hC r.2.1 r.2.2.1 r.2.2.2.1 li r.2.2.2.2.1 r.2.2.2.2.2.1 r.2.2.2.2.2.2.1 su r.2.2.2.2.2.2.2.1 r.2.2.2.2.2.2.2.2.1 r.2.2.2.2.2.2.2.2.2.1 r.2.2.2.2.2.2.2.2.2.2 ct lc ad ctb lcb adb fx us ln pt tx br rw rest) := by
  subst ho
  refine am_body (by decide) rfl (Nat.le_of_ble_eq_true rfl) rfl ?_
  rw [f_Table_release] at hf
  refine g_iload_n (n := 1) d_Table_release_0 rfl 1 rfl rfl ?_
  refine g_istore_n (n := 2) (ls' := [(2, .int x1), (0, .ref 7), (1, .int x1)]) d_Table_release_1 rfl rfl (am_ltb rfl) rfl ?_
  refine g_iconst (n := 3) (v := 0) d_Table_release_2 rfl (by decide) ?_
  refine g_istore_n (n := 4) (ls' := [(3, .int 0), (2, .int x1), (0, .ref 7), (1, .int x1)]) d_Table_release_3 rfl rfl (am_ltb rfl) rfl ?_
  refine g_ls [2, 1, 0] rfl ?_
  exact s_Table_release_L4 htr 100000000000 g x1 0 _ hf _ rfl
def f_V_delete (g : am_WS) (li : Nat → Int32) (su : Int32) (ct : Int32) (lc : Int32) (ad : Nat → Int32) (ctb : Int32) (lcb : Int32) (adb : Nat → Int32) (ln : Int32) (tx : Nat → Int32) : Option ((String ⊕ Unit) × am_WS × Int32 × Int32 × (Nat → Int32) × Int32 × Int32 × (Nat → Int32) × Int32 × (Nat → Int32)) :=
  ((f_V_demandSoundDisk g.2.2.2.2.2.1 su).bind fun r1 => am_t r1 (fun E3 => some (.inl E3, g, ct, lc, ad, ctb, lcb, adb, ln, tx)) (fun v4 => ((f_Name_takeLineOf g.1 li ln tx).bind fun r6 => ((f_Folder_load g.2.2.2.2.2.2.2.2.2 ct lc ad g.2.1).bind fun r8 => ((f_Folder_find g.2.2.2.2.2.2.2.2.2 r8.1 r8.2.2 r6.2.1 r6.2.2 0).bind fun r10 => (if r10 = (-1) then some (.inl "java/util/NoSuchElementException", (r6.1, g.2.1, g.2.2.1, g.2.2.2.1, g.2.2.2.2.1, g.2.2.2.2.2.1, g.2.2.2.2.2.2.1, g.2.2.2.2.2.2.2.1, g.2.2.2.2.2.2.2.2.1, g.2.2.2.2.2.2.2.2.2), r8.1, r8.2.1, r8.2.2, ctb, lcb, adb, r6.2.1, r6.2.2) else ((f_V_canBeDeleted g.2.2.2.1 g.2.2.2.2.2.2.2.2.2 r8.1 r8.2.2 ctb lcb adb r10).bind fun r13 => (if r13.1 = 0 then some (.inl "java/lang/UnsupportedOperationException", (r6.1, g.2.1, g.2.2.1, g.2.2.2.1, g.2.2.2.2.1, g.2.2.2.2.2.1, g.2.2.2.2.2.2.1, g.2.2.2.2.2.2.2.1, g.2.2.2.2.2.2.2.2.1, g.2.2.2.2.2.2.2.2.2), r8.1, r8.2.1, r8.2.2, r13.2.1, r13.2.2.1, r13.2.2.2, r6.2.1, r6.2.2) else ((f_Folder_markFreed (r6.1, g.2.1, g.2.2.1, g.2.2.2.1, g.2.2.2.2.1, g.2.2.2.2.2.1, g.2.2.2.2.2.2.1, g.2.2.2.2.2.2.2.1, g.2.2.2.2.2.2.2.2.1, g.2.2.2.2.2.2.2.2.2) r8.1 r8.2.2 r10).bind fun r16 => am_t r16.1 (fun E18 => some (.inl E18, r16.2, r8.1, r8.2.1, r8.2.2, r13.2.1, r13.2.2.1, r13.2.2.2, r6.2.1, r6.2.2)) (fun v19 => ((f_Folder_firstClusterOf r16.2.2.2.2.2.2.2.2.2.2 r8.1 r8.2.2 r10).bind fun r21 => ((f_Table_release r16.2 r21).bind fun r23 => am_t r23.1 (fun E25 => some (.inl E25, r23.2, r8.1, r8.2.1, r8.2.2, r13.2.1, r13.2.2.1, r13.2.2.2, r6.2.1, r6.2.2)) (fun v26 => some (.inr (), r23.2, r8.1, r8.2.1, r8.2.2, r13.2.1, r13.2.2.1, r13.2.2.2, r6.2.1, r6.2.2))))))))))))))
set_option maxHeartbeats 4000000 in
set_option maxRecDepth 100000 in
theorem s_V_delete {l : Launch} {D : va_G} {dA : FieldType → ClassId} (htr : l.stackTraces = false) {rest : List am_E} {li : Nat → Int32} {su : Int32} {ct : Int32} {lc : Int32} {ad : Nat → Int32} {ctb : Int32} {lcb : Int32} {adb : Nat → Int32} {fx : Int32} {us : Nat → Int32} {ln : Int32} {pt : Int32} {tx : Nat → Int32} {br : Nat → Int32} {rw : Nat → Int32} {g : am_WS}  {r : (String ⊕ Unit) × am_WS × Int32 × Int32 × (Nat → Int32) × Int32 × Int32 × (Nat → Int32) × Int32 × (Nat → Int32)} (hf : f_V_delete g li su ct lc ad ctb lcb adb ln tx = some r) {o : am_O} (ho : am_ov r.1 = o) :
    am_M (am_kk l D dA) y_V_delete ws_V_delete (am_rm 7 o) [.ref 0] (hC g.1 g.2.1 g.2.2.1 li g.2.2.2.1 g.2.2.2.2.1 g.2.2.2.2.2.1 su g.2.2.2.2.2.2.1 g.2.2.2.2.2.2.2.1 g.2.2.2.2.2.2.2.2.1 g.2.2.2.2.2.2.2.2.2 ct lc ad ctb lcb adb fx us ln pt tx br rw rest) o (hC r.2.1.1 r.2.1.2.1 r.2.1.2.2.1 li r.2.1.2.2.2.1 r.2.1.2.2.2.2.1 r.2.1.2.2.2.2.2.1 su r.2.1.2.2.2.2.2.2.1 r.2.1.2.2.2.2.2.2.2.1 r.2.1.2.2.2.2.2.2.2.2.1 r.2.1.2.2.2.2.2.2.2.2.2 r.2.2.1 r.2.2.2.1 r.2.2.2.2.1 r.2.2.2.2.2.1 r.2.2.2.2.2.2.1 r.2.2.2.2.2.2.2.1 fx us r.2.2.2.2.2.2.2.2.1 pt r.2.2.2.2.2.2.2.2.2 br rw rest) := by
  subst ho
  refine am_body (by decide) rfl (Nat.le_of_ble_eq_true rfl) rfl ?_
  rw [f_V_delete] at hf
  refine g_aload_n (n := 1) d_V_delete_0 rfl 0 rfl rfl ?_
  obtain ⟨r1, h2, hf⟩ := ob_bind hf
  rcases ob_t hf with ⟨E3, w5, hf⟩ | ⟨v4, w5, hf⟩
  · cases hf
    refine c_Vx (n := 4) (st' := []) [] [] d_V_delete_1 rfl (s_V_demandSoundDisk htr h2 (by rw [w5]; rfl)) tw_305 tw_307 (am_memS 1 (by decide +kernel) (by decide +kernel)) tw_1 tw_308 hd_V_demandSoundDisk (by omega) (by decide) (ci := 6) rfl rfl rfl (Nat.le_of_ble_eq_true rfl) rfl ?_
    exact g_out rfl (Nat.le_refl _) (Nat.le_refl _)
  · refine c_Vr (n := 4) (st' := []) [] [] d_V_delete_1 rfl (s_V_demandSoundDisk htr h2 (by rw [w5]; rfl)) tw_305 tw_307 (am_memS 1 (by decide +kernel) (by decide +kernel)) tw_1 tw_308 hd_V_demandSoundDisk (by omega) (by decide) (ci := 6) rfl rfl rfl (Nat.le_of_ble_eq_true rfl) rfl rfl ?_
    refine g_aload_n (n := 5) d_V_delete_4 rfl 0 rfl rfl ?_
    refine g_get (n := 8) (q0 := 0) d_V_delete_5 rfl (am_fl in_V rfl (by decide : 6 < 8)) (List.mem_cons_of_mem _ tw_179) rfl rfl ?_
    refine g_aload_n (n := 9) d_V_delete_8 rfl 0 rfl rfl ?_
    refine g_get (n := 12) (q0 := 0) d_V_delete_9 rfl (am_fl in_V rfl (by decide : 0 < 8)) (List.mem_cons_of_mem _ tw_173) rfl rfl ?_
    obtain ⟨r6, h7, hf⟩ := ob_bind hf
    refine c_Vr (n := 15) (st' := []) [.ref 1] [] d_V_delete_12 rfl (s_Name_takeLineOf htr h7 rfl) tw_379 tw_380 tw_381 tw_7 tw_382 hd_Name_takeLineOf (by omega) (by decide) (ci := 2) rfl rfl rfl (Nat.le_of_ble_eq_true rfl) rfl rfl ?_
    refine g_aload_n (n := 16) d_V_delete_15 rfl 0 rfl rfl ?_
    refine g_get (n := 19) (q0 := 0) d_V_delete_16 rfl (am_fl in_V rfl (by decide : 3 < 8)) (List.mem_cons_of_mem _ tw_176) rfl rfl ?_
    refine g_aload_n (n := 20) d_V_delete_19 rfl 0 rfl rfl ?_
    refine g_get (n := 23) (q0 := 0) d_V_delete_20 rfl (am_fl in_V rfl (by decide : 0 < 8)) (List.mem_cons_of_mem _ tw_173) rfl rfl ?_
    refine g_getN (n := 26) (q0 := 1) d_V_delete_23 rfl (am_fl in_Ses rfl (by decide : 4 < 6)) nw_45 rfl rfl ?_
    obtain ⟨r8, h9, hf⟩ := ob_bind hf
    refine c_Vr (n := 29) (st' := []) [.int g.2.1] [] d_V_delete_26 rfl (s_Folder_load htr h9 rfl) tw_407 tw_408 tw_409 tw_5 tw_410 hd_Folder_load (by omega) (by decide) (ci := 1) rfl rfl rfl (Nat.le_of_ble_eq_true rfl) rfl rfl ?_
    refine g_aload_n (n := 30) d_V_delete_29 rfl 0 rfl rfl ?_
    refine g_get (n := 33) (q0 := 0) d_V_delete_30 rfl (am_fl in_V rfl (by decide : 3 < 8)) (List.mem_cons_of_mem _ tw_176) rfl rfl ?_
    refine g_aload_n (n := 34) d_V_delete_33 rfl 0 rfl rfl ?_
    refine g_get (n := 37) (q0 := 0) d_V_delete_34 rfl (am_fl in_V rfl (by decide : 6 < 8)) (List.mem_cons_of_mem _ tw_179) rfl rfl ?_
    refine g_iconst (n := 38) (v := 0) d_V_delete_37 rfl (by decide) ?_
    obtain ⟨r10, h11, hf⟩ := ob_bind hf
    refine c_Vr (n := 41) (st' := [.int r10]) [.ref 14, .int 0] [] d_V_delete_38 rfl (s_Folder_find htr h11 rfl) tw_418 tw_419 tw_420 tw_5 tw_421 hd_Folder_find (by omega) (by decide) (ci := 1) rfl rfl rfl (Nat.le_of_ble_eq_true rfl) rfl rfl ?_
    refine g_istore_n (n := 42) (ls' := [(1, .int r10), (0, .ref 0)]) d_V_delete_41 rfl rfl (am_ltb rfl) rfl ?_
    refine g_iload_n (n := 43) d_V_delete_42 rfl 0 rfl rfl ?_
    refine g_iconst (n := 44) (v := (-1)) d_V_delete_43 rfl (by decide) ?_
    refine g_icmp_ne (n := 47) (tgt := 57) d_V_delete_44 rfl (by decide) (fun q12 => ?_) (fun q12 => ?_)
    · have hf := ob_neg q12 hf
      refine g_aload_n (n := 58) d_V_delete_57 rfl 1 rfl rfl ?_
      refine g_iload_n (n := 59) d_V_delete_58 rfl 0 rfl rfl ?_
      obtain ⟨r13, h14, hf⟩ := ob_bind hf
      refine c_Vr (n := 62) (st' := [.int r13.1]) [.int r10] [] d_V_delete_59 rfl (s_V_canBeDeleted htr h14 rfl) tw_616 tw_618 (am_memS 5 (by decide +kernel) (by decide +kernel)) tw_1 tw_619 hd_V_canBeDeleted (by omega) (by decide) (ci := 6) rfl rfl rfl (Nat.le_of_ble_eq_true rfl) rfl rfl ?_
      refine g_if_ne (n := 65) (tgt := 75) d_V_delete_62 rfl (by decide) (fun q15 => ?_) (fun q15 => ?_)
      · have hf := ob_neg q15 hf
        refine g_aload_n (n := 76) d_V_delete_75 rfl 1 rfl rfl ?_
        refine g_get (n := 79) (q0 := 0) d_V_delete_76 rfl (am_fl in_V rfl (by decide : 3 < 8)) (List.mem_cons_of_mem _ tw_176) rfl rfl ?_
        refine g_iload_n (n := 80) d_V_delete_79 rfl 0 rfl rfl ?_
        obtain ⟨r16, h17, hf⟩ := ob_bind hf
        rcases ob_t hf with ⟨E18, w20, hf⟩ | ⟨v19, w20, hf⟩
        · cases hf
          refine c_Vx (n := 83) (st' := []) [.int r10] [] d_V_delete_80 rfl (s_Folder_markFreed htr h17 (by rw [w20]; rfl)) tw_639 tw_640 tw_641 tw_5 tw_642 hd_Folder_markFreed (by omega) (by decide) (ci := 1) rfl rfl rfl (Nat.le_of_ble_eq_true rfl) rfl ?_
          exact g_out rfl (Nat.le_refl _) (Nat.le_refl _)
        · refine c_Vr (n := 83) (st' := []) [.int r10] [] d_V_delete_80 rfl (s_Folder_markFreed htr h17 (by rw [w20]; rfl)) tw_639 tw_640 tw_641 tw_5 tw_642 hd_Folder_markFreed (by omega) (by decide) (ci := 1) rfl rfl rfl (Nat.le_of_ble_eq_true rfl) rfl rfl ?_
          refine g_aload_n (n := 84) d_V_delete_83 rfl 1 rfl rfl ?_
          refine g_get (n := 87) (q0 := 0) d_V_delete_84 rfl (am_fl in_V rfl (by decide : 2 < 8)) (List.mem_cons_of_mem _ tw_175) rfl rfl ?_
          refine g_aload_n (n := 88) d_V_delete_87 rfl 1 rfl rfl ?_
          refine g_get (n := 91) (q0 := 0) d_V_delete_88 rfl (am_fl in_V rfl (by decide : 3 < 8)) (List.mem_cons_of_mem _ tw_176) rfl rfl ?_
          refine g_iload_n (n := 92) d_V_delete_91 rfl 0 rfl rfl ?_
          obtain ⟨r21, h22, hf⟩ := ob_bind hf
          refine c_Vr (n := 95) (st' := [.int r21, .ref 7]) [.int r10] [.ref 7] d_V_delete_92 rfl (s_Folder_firstClusterOf htr h22 rfl) tw_625 tw_626 tw_627 tw_5 tw_628 hd_Folder_firstClusterOf (by omega) (by decide) (ci := 1) rfl rfl rfl (Nat.le_of_ble_eq_true rfl) rfl rfl ?_
          obtain ⟨r23, h24, hf⟩ := ob_bind hf
          rcases ob_t hf with ⟨E25, w27, hf⟩ | ⟨v26, w27, hf⟩
          · cases hf
            refine c_Vx (n := 98) (st' := []) [.int r21] [] d_V_delete_95 rfl (s_Table_release htr h24 (by rw [w27]; rfl)) tw_648 tw_649 tw_650 tw_4 tw_651 hd_Table_release (by omega) (by decide) (ci := 5) rfl rfl rfl (Nat.le_of_ble_eq_true rfl) rfl ?_
            exact g_out rfl (Nat.le_refl _) (Nat.le_refl _)
          · refine c_Vr (n := 98) (st' := []) [.int r21] [] d_V_delete_95 rfl (s_Table_release htr h24 (by rw [w27]; rfl)) tw_648 tw_649 tw_650 tw_4 tw_651 hd_Table_release (by omega) (by decide) (ci := 5) rfl rfl rfl (Nat.le_of_ble_eq_true rfl) rfl rfl ?_
            cases hf
            exact g_vret d_V_delete_98 rfl (Nat.zero_le _) (Nat.zero_le _)
      · have hf := ob_pos q15 hf
        cases hf
        exact c_T htr (by decide +kernel) e_UnsupportedOperationException_0 e_UnsupportedOperationException_1 e_UnsupportedOperationException_2 e_UnsupportedOperationException_5 tw_505 tw_14 rfl (List.mem_of_getElem? (i := 6) rfl) at_V_110 d_V_delete_65 d_V_delete_68 (Or.inl ⟨d_V_delete_69, rfl⟩) d_V_delete_71 d_V_delete_74 (Nat.le_of_ble_eq_true rfl)
    · have hf := ob_pos q12 hf
      cases hf
      exact c_T htr (by decide +kernel) e_NoSuchElementException_0 e_NoSuchElementException_1 e_NoSuchElementException_2 e_NoSuchElementException_5 tw_600 tw_15 rfl (List.mem_of_getElem? (i := 5) rfl) at_V_132 d_V_delete_47 d_V_delete_50 (Or.inl ⟨d_V_delete_51, rfl⟩) d_V_delete_53 d_V_delete_56 (Nat.le_of_ble_eq_true rfl)
