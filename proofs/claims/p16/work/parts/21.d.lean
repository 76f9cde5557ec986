def f_Ses_leave (he : Int32) (de : Int32) (en : Nat → Int32) (po : Nat → Int32) : Option (Int32 × Int32 × (Nat → Int32) × (Nat → Int32)) :=
  f_Ses_leave_L12 100000000000 2 1 en po 0
set_option maxHeartbeats 4000000 in
set_option maxRecDepth 100000 in
theorem s_Ses_leave {l : Launch} {D : va_G} {dA : FieldType → ClassId} (htr : l.stackTraces = false) {rest : List am_E} {ll : Int32} {he : Int32} {de : Int32} {li : Nat → Int32} {en : Nat → Int32} {po : Nat → Int32} {pw : Int32} {su : Int32} {wr : Int32} {cs : Int32} {wb : Int32} {bt : Nat → Int32} {ct : Int32} {lc : Int32} {ad : Nat → Int32} {ctb : Int32} {lcb : Int32} {adb : Nat → Int32} {fx : Int32} {us : Nat → Int32} {ln : Int32} {pt : Int32} {tx : Nat → Int32} {br : Nat → Int32} {rw : Nat → Int32}   {r : Int32 × Int32 × (Nat → Int32) × (Nat → Int32)} (hf : f_Ses_leave he de en po = some r) {o : am_O} (ho : .inl none = o) :
    am_M (am_kk l D dA) y_Ses_leave ws_Ses_leave (am_rm 0 o) [.ref 1] (hC ll he de li en po pw su wr cs wb bt ct lc ad ctb lcb adb fx us ln pt tx br rw rest) o (hC ll r.1 r.2.1 li r.2.2.1 r.2.2.2 pw su wr cs wb bt ct lc ad ctb lcb adb fx us ln pt tx br rw rest) := by
  subst ho
  refine am_body (by decide) rfl (Nat.le_of_ble_eq_true rfl) rfl ?_
  rw [f_Ses_leave] at hf
  refine g_aload_n (n := 1) d_Ses_leave_0 rfl 0 rfl rfl ?_
  refine g_iconst (n := 2) (v := 2) d_Ses_leave_1 rfl (by decide) ?_
  refine g_put (n := 5) (q0 := 1) (h' := (hC ll 2 de li en po pw su wr cs wb bt ct lc ad ctb lcb adb fx us ln pt tx br rw rest)) d_Ses_leave_2 rfl (am_fl in_Ses rfl (by decide : 4 < 6)) typ_Ses (List.mem_cons_of_mem _ tw_44) rfl (fun _ _ => rfl) (fun _ _ => rfl) rfl (am_ltb rfl) rfl ?_
  refine g_aload_n (n := 6) d_Ses_leave_5 rfl 0 rfl rfl ?_
  refine g_iconst (n := 7) (v := 1) d_Ses_leave_6 rfl (by decide) ?_
  refine g_put (n := 10) (q0 := 1) (h' := (hC ll 2 1 li en po pw su wr cs wb bt ct lc ad ctb lcb adb fx us ln pt tx br rw rest)) d_Ses_leave_7 rfl (am_fl in_Ses rfl (by decide : 5 < 6)) typ_Ses (List.mem_cons_of_mem _ tw_46) rfl (fun _ _ => rfl) (fun _ _ => rfl) rfl (am_ltb rfl) rfl ?_
  refine g_iconst (n := 11) (v := 0) d_Ses_leave_10 rfl (by decide) ?_
  refine g_istore_n (n := 12) (ls' := [(1, .int 0), (0, .ref 1)]) d_Ses_leave_11 rfl rfl (am_ltb rfl) rfl ?_
  refine g_ls [1, 0] rfl ?_
  exact s_Ses_leave_L12 htr 100000000000 2 1 en po 0 _ hf _ rfl
def f_Disk_countWrite (g : am_WS) : Option ((String ⊕ Unit) × am_WS) :=
  (if g.2.2.2.2.2.2.2.1 = 0 then some (.inr (), (g.1, g.2.1, g.2.2.1, g.2.2.2.1, g.2.2.2.2.1, g.2.2.2.2.2.1, (g.2.2.2.2.2.2.1 + 1), g.2.2.2.2.2.2.2.1, g.2.2.2.2.2.2.2.2.1, g.2.2.2.2.2.2.2.2.2)) else (if g.2.2.2.2.2.2.2.2.1 = 0 then ((f_Ses_leave g.2.1 g.2.2.1 g.2.2.2.1 g.2.2.2.2.1).bind fun r5 => some (.inl "java/lang/IllegalStateException", (0, r5.1, r5.2.1, r5.2.2.1, r5.2.2.2, 0, g.2.2.2.2.2.2.1, 0, g.2.2.2.2.2.2.2.2.1, g.2.2.2.2.2.2.2.2.2))) else some (.inr (), (g.1, g.2.1, g.2.2.1, g.2.2.2.1, g.2.2.2.2.1, g.2.2.2.2.2.1, (g.2.2.2.2.2.2.1 + 1), g.2.2.2.2.2.2.2.1, (g.2.2.2.2.2.2.2.2.1 - 1), g.2.2.2.2.2.2.2.2.2))))
set_option maxHeartbeats 4000000 in
set_option maxRecDepth 100000 in
theorem s_Disk_countWrite {l : Launch} {D : va_G} {dA : FieldType → ClassId} (htr : l.stackTraces = false) {rest : List am_E} {li : Nat → Int32} {su : Int32} {ct : Int32} {lc : Int32} {ad : Nat → Int32} {ctb : Int32} {lcb : Int32} {adb : Nat → Int32} {fx : Int32} {us : Nat → Int32} {ln : Int32} {pt : Int32} {tx : Nat → Int32} {br : Nat → Int32} {rw : Nat → Int32} {g : am_WS}  {r : (String ⊕ Unit) × am_WS} (hf : f_Disk_countWrite g = some r) {o : am_O} (ho : am_ov r.1 = o) :
    am_M (am_kk l D dA) y_Disk_countWrite ws_Disk_countWrite (am_rm 1 o) [.ref 5] (hC g.1 g.2.1 g.2.2.1 li g.2.2.2.1 g.2.2.2.2.1 g.2.2.2.2.2.1 su g.2.2.2.2.2.2.1 g.2.2.2.2.2.2.2.1 g.2.2.2.2.2.2.2.2.1 g.2.2.2.2.2.2.2.2.2 ct lc ad ctb lcb adb fx us ln pt tx br rw rest) o (hC r.2.1 r.2.2.1 r.2.2.2.1 li r.2.2.2.2.1 r.2.2.2.2.2.1 r.2.2.2.2.2.2.1 su r.2.2.2.2.2.2.2.1 r.2.2.2.2.2.2.2.2.1 r.2.2.2.2.2.2.2.2.2.1 r.2.2.2.2.2.2.2.2.2.2 ct lc ad ctb lcb adb fx us ln pt tx br rw rest) := by
  subst ho
  refine am_body (by decide) rfl (Nat.le_of_ble_eq_true rfl) rfl ?_
  rw [f_Disk_countWrite] at hf
  refine g_aload_n (n := 1) d_Disk_countWrite_0 rfl 0 rfl rfl ?_
  refine g_get (n := 4) (q0 := 5) d_Disk_countWrite_1 rfl (am_fl in_Disk rfl (by decide : 5 < 7)) (List.mem_cons_of_mem _ tw_76) rfl rfl ?_
  refine g_if_eq (n := 7) (tgt := 49) d_Disk_countWrite_4 rfl (by decide) (fun q1 => ?_) (fun q1 => ?_)
  · have hf := ob_pos q1 hf
    refine g_aload_n (n := 50) d_Disk_countWrite_49 rfl 0 rfl rfl ?_
    refine g_get (n := 53) (q0 := 5) d_Disk_countWrite_50 rfl (am_fl in_Disk rfl (by decide : 5 < 7)) (List.mem_cons_of_mem _ tw_76) rfl rfl ?_
    refine g_if_eq (n := 56) (tgt := 66) d_Disk_countWrite_53 rfl (by decide) (fun _ => ?_) (fun q2 => absurd q1 q2)
    refine g_aload_n (n := 67) d_Disk_countWrite_66 rfl 0 rfl rfl ?_
    refine g_dup (n := 68) d_Disk_countWrite_67 rfl rfl ?_
    refine g_get (n := 71) (q0 := 5) d_Disk_countWrite_68 rfl (am_fl in_Disk rfl (by decide : 4 < 7)) (List.mem_cons_of_mem _ tw_74) rfl rfl ?_
    refine g_iconst (n := 72) (v := 1) d_Disk_countWrite_71 rfl (by decide) ?_
    refine g_iadd (n := 73) d_Disk_countWrite_72 rfl ?_
    refine g_put (n := 76) (q0 := 5) (h' := (hC g.1 g.2.1 g.2.2.1 li g.2.2.2.1 g.2.2.2.2.1 g.2.2.2.2.2.1 su (g.2.2.2.2.2.2.1 + 1) g.2.2.2.2.2.2.2.1 g.2.2.2.2.2.2.2.2.1 g.2.2.2.2.2.2.2.2.2 ct lc ad ctb lcb adb fx us ln pt tx br rw rest)) d_Disk_countWrite_73 rfl (am_fl in_Disk rfl (by decide : 4 < 7)) typ_Disk (List.mem_cons_of_mem _ tw_74) rfl (fun _ _ => rfl) (fun _ _ => rfl) rfl (am_ltb rfl) rfl ?_
    cases hf
    exact g_vret d_Disk_countWrite_76 rfl (Nat.zero_le _) (Nat.zero_le _)
  · have hf := ob_neg q1 hf
    refine g_aload_n (n := 8) d_Disk_countWrite_7 rfl 0 rfl rfl ?_
    refine g_get (n := 11) (q0 := 5) d_Disk_countWrite_8 rfl (am_fl in_Disk rfl (by decide : 6 < 7)) (List.mem_cons_of_mem _ tw_77) rfl rfl ?_
    refine g_if_ne (n := 14) (tgt := 49) d_Disk_countWrite_11 rfl (by decide) (fun q3 => ?_) (fun q3 => ?_)
    · have hf := ob_neg q3 hf
      refine g_aload_n (n := 50) d_Disk_countWrite_49 rfl 0 rfl rfl ?_
      refine g_get (n := 53) (q0 := 5) d_Disk_countWrite_50 rfl (am_fl in_Disk rfl (by decide : 5 < 7)) (List.mem_cons_of_mem _ tw_76) rfl rfl ?_
      refine g_if_eq (n := 56) (tgt := 66) d_Disk_countWrite_53 rfl (by decide) (fun q4 => absurd q4 q1) (fun _ => ?_)
      refine g_aload_n (n := 57) d_Disk_countWrite_56 rfl 0 rfl rfl ?_
      refine g_dup (n := 58) d_Disk_countWrite_57 rfl rfl ?_
      refine g_get (n := 61) (q0 := 5) d_Disk_countWrite_58 rfl (am_fl in_Disk rfl (by decide : 6 < 7)) (List.mem_cons_of_mem _ tw_77) rfl rfl ?_
      refine g_iconst (n := 62) (v := 1) d_Disk_countWrite_61 rfl (by decide) ?_
      refine g_isub (n := 63) d_Disk_countWrite_62 rfl ?_
      refine g_put (n := 66) (q0 := 5) (h' := (hC g.1 g.2.1 g.2.2.1 li g.2.2.2.1 g.2.2.2.2.1 g.2.2.2.2.2.1 su g.2.2.2.2.2.2.1 g.2.2.2.2.2.2.2.1 (g.2.2.2.2.2.2.2.2.1 - 1) g.2.2.2.2.2.2.2.2.2 ct lc ad ctb lcb adb fx us ln pt tx br rw rest)) d_Disk_countWrite_63 rfl (am_fl in_Disk rfl (by decide : 6 < 7)) typ_Disk (List.mem_cons_of_mem _ tw_77) rfl (fun _ _ => rfl) (fun _ _ => rfl) rfl (am_ltb rfl) rfl ?_
      refine g_aload_n (n := 67) d_Disk_countWrite_66 rfl 0 rfl rfl ?_
      refine g_dup (n := 68) d_Disk_countWrite_67 rfl rfl ?_
      refine g_get (n := 71) (q0 := 5) d_Disk_countWrite_68 rfl (am_fl in_Disk rfl (by decide : 4 < 7)) (List.mem_cons_of_mem _ tw_74) rfl rfl ?_
      refine g_iconst (n := 72) (v := 1) d_Disk_countWrite_71 rfl (by decide) ?_
      refine g_iadd (n := 73) d_Disk_countWrite_72 rfl ?_
      refine g_put (n := 76) (q0 := 5) (h' := (hC g.1 g.2.1 g.2.2.1 li g.2.2.2.1 g.2.2.2.2.1 g.2.2.2.2.2.1 su (g.2.2.2.2.2.2.1 + 1) g.2.2.2.2.2.2.2.1 (g.2.2.2.2.2.2.2.2.1 - 1) g.2.2.2.2.2.2.2.2.2 ct lc ad ctb lcb adb fx us ln pt tx br rw rest)) d_Disk_countWrite_73 rfl (am_fl in_Disk rfl (by decide : 4 < 7)) typ_Disk (List.mem_cons_of_mem _ tw_74) rfl (fun _ _ => rfl) (fun _ _ => rfl) rfl (am_ltb rfl) rfl ?_
      cases hf
      exact g_vret d_Disk_countWrite_76 rfl (Nat.zero_le _) (Nat.zero_le _)
    · have hf := ob_pos q3 hf
      refine g_aload_n (n := 15) d_Disk_countWrite_14 rfl 0 rfl rfl ?_
      refine g_iconst (n := 16) (v := 0) d_Disk_countWrite_15 rfl (by decide) ?_
      refine g_put (n := 19) (q0 := 5) (h' := (hC g.1 g.2.1 g.2.2.1 li g.2.2.2.1 g.2.2.2.2.1 g.2.2.2.2.2.1 su g.2.2.2.2.2.2.1 0 g.2.2.2.2.2.2.2.2.1 g.2.2.2.2.2.2.2.2.2 ct lc ad ctb lcb adb fx us ln pt tx br rw rest)) d_Disk_countWrite_16 rfl (am_fl in_Disk rfl (by decide : 5 < 7)) typ_Disk (List.mem_cons_of_mem _ tw_76) rfl (fun _ _ => rfl) (fun _ _ => rfl) rfl (am_ltb rfl) rfl ?_
      refine g_aload_n (n := 20) d_Disk_countWrite_19 rfl 0 rfl rfl ?_
      refine g_iconst (n := 21) (v := 0) d_Disk_countWrite_20 rfl (by decide) ?_
      refine g_put (n := 24) (q0 := 5) (h' := (hC g.1 g.2.1 g.2.2.1 li g.2.2.2.1 g.2.2.2.2.1 0 su g.2.2.2.2.2.2.1 0 g.2.2.2.2.2.2.2.2.1 g.2.2.2.2.2.2.2.2.2 ct lc ad ctb lcb adb fx us ln pt tx br rw rest)) d_Disk_countWrite_21 rfl (am_fl in_Disk rfl (by decide : 2 < 7)) typ_Disk (List.mem_cons_of_mem _ tw_71) rfl (fun _ _ => rfl) (fun _ _ => rfl) rfl (am_ltb rfl) rfl ?_
      refine g_aload_n (n := 25) d_Disk_countWrite_24 rfl 0 rfl rfl ?_
      refine g_get (n := 28) (q0 := 5) d_Disk_countWrite_25 rfl (am_fl in_Disk rfl (by decide : 1 < 7)) (List.mem_cons_of_mem _ tw_70) rfl rfl ?_
      obtain ⟨r5, h6, hf⟩ := ob_bind hf
      refine c_Vr (n := 31) (st' := []) [] [] d_Disk_countWrite_28 rfl (s_Ses_leave htr h6 rfl) tw_542 tw_33 tw_34 tw_2 tw_35 hd_Ses_leave (by omega) (by decide) (ci := 4) rfl rfl rfl (Nat.le_of_ble_eq_true rfl) rfl rfl ?_
      refine g_aload_n (n := 32) d_Disk_countWrite_31 rfl 0 rfl rfl ?_
      refine g_get (n := 35) (q0 := 5) d_Disk_countWrite_32 rfl (am_fl in_Disk rfl (by decide : 1 < 7)) (List.mem_cons_of_mem _ tw_70) rfl rfl ?_
      refine g_iconst (n := 36) (v := 0) d_Disk_countWrite_35 rfl (by decide) ?_
      refine g_putN (n := 39) (q0 := 1) (h' := (hC 0 r5.1 r5.2.1 li r5.2.2.1 r5.2.2.2 0 su g.2.2.2.2.2.2.1 0 g.2.2.2.2.2.2.2.2.1 g.2.2.2.2.2.2.2.2.2 ct lc ad ctb lcb adb fx us ln pt tx br rw rest)) d_Disk_countWrite_36 rfl (am_fl in_Ses rfl (by decide : 3 < 6)) typ_Ses nw_42 rfl (fun _ _ => rfl) (fun _ _ => rfl) rfl (am_ltb rfl) rfl ?_
      cases hf
      exact c_T htr (by decide +kernel) e_IllegalStateException_0 e_IllegalStateException_1 e_IllegalStateException_2 e_IllegalStateException_5 tw_543 tw_12 rfl (List.mem_of_getElem? (i := 3) rfl) at_Disk_42 d_Disk_countWrite_39 d_Disk_countWrite_42 (Or.inl ⟨d_Disk_countWrite_43, rfl⟩) d_Disk_countWrite_45 d_Disk_countWrite_48 (Nat.le_of_ble_eq_true rfl)
def f_Disk_put (bt : Nat → Int32) (x1 : Int32) (x2 : Int32) : Option ((Nat → Int32)) :=
  (if x1 < 0 then some bt else (if 2240 ≤ x1 then some bt else (if am_in x1 2240 = true then some (upd bt x1.toNatClampNeg (x2 &&& 255)) else none)))
set_option maxHeartbeats 4000000 in
set_option maxRecDepth 100000 in
theorem s_Disk_put {l : Launch} {D : va_G} {dA : FieldType → ClassId} (htr : l.stackTraces = false) {rest : List am_E} {ll : Int32} {he : Int32} {de : Int32} {li : Nat → Int32} {en : Nat → Int32} {po : Nat → Int32} {pw : Int32} {su : Int32} {wr : Int32} {cs : Int32} {wb : Int32} {bt : Nat → Int32} {ct : Int32} {lc : Int32} {ad : Nat → Int32} {ctb : Int32} {lcb : Int32} {adb : Nat → Int32} {fx : Int32} {us : Nat → Int32} {ln : Int32} {pt : Int32} {tx : Nat → Int32} {br : Nat → Int32} {rw : Nat → Int32}  {x1 : Int32} {x2 : Int32} {r : (Nat → Int32)} (hf : f_Disk_put bt x1 x2 = some r) {o : am_O} (ho : .inl none = o) :
    am_M (am_kk l D dA) y_Disk_put ws_Disk_put (am_rm 0 o) [.ref 5, .int x1, .int x2] (hC ll he de li en po pw su wr cs wb bt ct lc ad ctb lcb adb fx us ln pt tx br rw rest) o (hC ll he de li en po pw su wr cs wb r ct lc ad ctb lcb adb fx us ln pt tx br rw rest) := by
  subst ho
  refine am_body (by decide) rfl (Nat.le_of_ble_eq_true rfl) rfl ?_
  rw [f_Disk_put] at hf
  refine g_iload_n (n := 1) d_Disk_put_0 rfl 1 rfl rfl ?_
  refine g_if_lt (n := 4) (tgt := 24) d_Disk_put_1 rfl (by decide) (fun q1 => ?_) (fun q1 => ?_)
  · have hf := ob_pos q1 hf
    cases hf
    exact g_vret d_Disk_put_24 rfl (Nat.zero_le _) (Nat.zero_le _)
  · have hf := ob_neg q1 hf
    refine g_iload_n (n := 5) d_Disk_put_4 rfl 1 rfl rfl ?_
    refine g_aload_n (n := 6) d_Disk_put_5 rfl 0 rfl rfl ?_
    refine g_get (n := 9) (q0 := 5) d_Disk_put_6 rfl (am_fl in_Disk rfl (by decide : 0 < 7)) (List.mem_cons_of_mem _ tw_69) rfl rfl ?_
    refine g_ialen (n := 10) (q0 := 6) (v := 2240) d_Disk_put_9 rfl rfl (by decide) ?_
    refine g_icmp_ge (n := 13) (tgt := 24) d_Disk_put_10 rfl (by decide) (fun q2 => ?_) (fun q2 => ?_)
    · have hf := ob_pos q2 hf
      cases hf
      exact g_vret d_Disk_put_24 rfl (Nat.zero_le _) (Nat.zero_le _)
    · have hf := ob_neg q2 hf
      refine g_aload_n (n := 14) d_Disk_put_13 rfl 0 rfl rfl ?_
      refine g_get (n := 17) (q0 := 5) d_Disk_put_14 rfl (am_fl in_Disk rfl (by decide : 0 < 7)) (List.mem_cons_of_mem _ tw_69) rfl rfl ?_
      refine g_iload_n (n := 18) d_Disk_put_17 rfl 1 rfl rfl ?_
      refine g_iload_n (n := 19) d_Disk_put_18 rfl 2 rfl rfl ?_
      refine g_sipush (n := 22) (v := 255) d_Disk_put_19 rfl (by decide) ?_
      refine g_iand (n := 23) d_Disk_put_22 rfl ?_
      obtain ⟨b3, hf⟩ := ob_chk hf
      refine g_iast (n := 24) (q0 := 6) (h' := (hC ll he de li en po pw su wr cs wb (upd bt x1.toNatClampNeg (x2 &&& 255)) ct lc ad ctb lcb adb fx us ln pt tx br rw rest)) d_Disk_put_23 rfl rfl (am_inl b3) rfl ?_
      cases hf
      exact g_vret d_Disk_put_24 rfl (Nat.zero_le _) (Nat.zero_le _)
def f_Disk_writePair (g : am_WS) (x1 : Int32) (x2 : Int32) : Option ((String ⊕ Unit) × am_WS) :=
  ((f_Disk_countWrite g).bind fun r1 => am_t r1.1 (fun E3 => some (.inl E3, r1.2)) (fun v4 => ((f_Disk_put r1.2.2.2.2.2.2.2.2.2.2 x1 x2).bind fun r6 => ((f_Disk_put r6 (x1 + 1) (x2 >>> (8 &&& 31))).bind fun r8 => some (.inr (), (r1.2.1, r1.2.2.1, r1.2.2.2.1, r1.2.2.2.2.1, r1.2.2.2.2.2.1, r1.2.2.2.2.2.2.1, r1.2.2.2.2.2.2.2.1, r1.2.2.2.2.2.2.2.2.1, r1.2.2.2.2.2.2.2.2.2.1, r8))))))
set_option maxHeartbeats 4000000 in
set_option maxRecDepth 100000 in
theorem s_Disk_writePair {l : Launch} {D : va_G} {dA : FieldType → ClassId} (htr : l.stackTraces = false) {rest : List am_E} {li : Nat → Int32} {su : Int32} {ct : Int32} {lc : Int32} {ad : Nat → Int32} {ctb : Int32} {lcb : Int32} {adb : Nat → Int32} {fx : Int32} {us : Nat → Int32} {ln : Int32} {pt : Int32} {tx : Nat → Int32} {br : Nat → Int32} {rw : Nat → Int32} {g : am_WS} {x1 : Int32} {x2 : Int32} {r : (String ⊕ Unit) × am_WS} (hf : f_Disk_writePair g x1 x2 = some r) {o : am_O} (ho : am_ov r.1 = o) :
    am_M (am_kk l D dA) y_Disk_writePair ws_Disk_writePair (am_rm 2 o) [.ref 5, .int x1, .int x2] (hC g.1 g.2.1 g.2.2.1 li g.2.2.2.1 g.2.2.2.2.1 g.2.2.2.2.2.1 su g.2.2.2.2.2.2.1 g.2.2.2.2.2.2.2.1 g.2.2.2.2.2.2.2.2.1 g.2.2.2.2.2.2.2.2.2 ct lc ad ctb lcb adb fx us ln pt tx br rw rest) o (hC r.2.1 r.2.2.1 r.2.2.2.1 li r.2.2.2.2.1 r.2.2.2.2.2.1 r.2.2.2.2.2.2.1 su r.2.2.2.2.2.2.2.1 r.2.2.2.2.2.2.2.2.1 r.2.2.2.2.2.2.2.2.2.1 r.2.2.2.2.2.2.2.2.2.2 ct lc ad ctb lcb adb fx us ln pt tx br rw rest) := by
  subst ho
  refine am_body (by decide) rfl (Nat.le_of_ble_eq_true rfl) rfl ?_
  rw [f_Disk_writePair] at hf
  refine g_aload_n (n := 1) d_Disk_writePair_0 rfl 0 rfl rfl ?_
  obtain ⟨r1, h2, hf⟩ := ob_bind hf
  rcases ob_t hf with ⟨E3, w5, hf⟩ | ⟨v4, w5, hf⟩
  · cases hf
    refine c_Vx (n := 4) (st' := []) [] [] d_Disk_writePair_1 rfl (s_Disk_countWrite htr h2 (by rw [w5]; rfl)) tw_538 tw_539 tw_540 tw_3 tw_541 hd_Disk_countWrite (by omega) (by decide) (ci := 0) rfl rfl rfl (Nat.le_of_ble_eq_true rfl) rfl ?_
    exact g_out rfl (Nat.le_refl _) (Nat.le_refl _)
  · refine c_Vr (n := 4) (st' := []) [] [] d_Disk_writePair_1 rfl (s_Disk_countWrite htr h2 (by rw [w5]; rfl)) tw_538 tw_539 tw_540 tw_3 tw_541 hd_Disk_countWrite (by omega) (by decide) (ci := 0) rfl rfl rfl (Nat.le_of_ble_eq_true rfl) rfl rfl ?_
    refine g_aload_n (n := 5) d_Disk_writePair_4 rfl 0 rfl rfl ?_
    refine g_iload_n (n := 6) d_Disk_writePair_5 rfl 1 rfl rfl ?_
    refine g_iload_n (n := 7) d_Disk_writePair_6 rfl 2 rfl rfl ?_
    obtain ⟨r6, h7, hf⟩ := ob_bind hf
    refine c_Vr (n := 10) (st' := []) [.int x1, .int x2] [] d_Disk_writePair_7 rfl (s_Disk_put htr h7 rfl) tw_546 tw_270 tw_271 tw_3 tw_272 hd_Disk_put (by omega) (by decide) (ci := 0) rfl rfl rfl (Nat.le_of_ble_eq_true rfl) rfl rfl ?_
    refine g_aload_n (n := 11) d_Disk_writePair_10 rfl 0 rfl rfl ?_
    refine g_iload_n (n := 12) d_Disk_writePair_11 rfl 1 rfl rfl ?_
    refine g_iconst (n := 13) (v := 1) d_Disk_writePair_12 rfl (by decide) ?_
    refine g_iadd (n := 14) d_Disk_writePair_13 rfl ?_
    refine g_iload_n (n := 15) d_Disk_writePair_14 rfl 2 rfl rfl ?_
    refine g_bipush (n := 17) (v := 8) d_Disk_writePair_15 rfl (by decide) ?_
    refine g_ishr (n := 18) d_Disk_writePair_17 rfl ?_
    obtain ⟨r8, h9, hf⟩ := ob_bind hf
    refine c_Vr (n := 21) (st' := []) [.int (x1 + 1), .int (x2 >>> (8 &&& 31))] [] d_Disk_writePair_18 rfl (s_Disk_put htr h9 rfl) tw_546 tw_270 tw_271 tw_3 tw_272 hd_Disk_put (by omega) (by decide) (ci := 0) rfl rfl rfl (Nat.le_of_ble_eq_true rfl) rfl rfl ?_
    cases hf
    exact g_vret d_Disk_writePair_21 rfl (Nat.zero_le _) (Nat.zero_le _)
def f_Table_set (g : am_WS) (x1 : Int32) (x2 : Int32) : Option ((String ⊕ Unit) × am_WS) :=
  ((f_Disk_writePair g (2 * x1) x2).bind fun r1 => am_t r1.1 (fun E3 => some (.inl E3, r1.2)) (fun v4 => ((f_Disk_writePair r1.2 (128 + (2 * x1)) x2).bind fun r6 => am_t r6.1 (fun E8 => some (.inl E8, r6.2)) (fun v9 => some (.inr (), r6.2)))))
set_option maxHeartbeats 4000000 in
set_option maxRecDepth 100000 in
theorem s_Table_set {l : Launch} {D : va_G} {dA : FieldType → ClassId} (htr : l.stackTraces = false) {rest : List am_E} {li : Nat → Int32} {su : Int32} {ct : Int32} {lc : Int32} {ad : Nat → Int32} {ctb : Int32} {lcb : Int32} {adb : Nat → Int32} {fx : Int32} {us : Nat → Int32} {ln : Int32} {pt : Int32} {tx : Nat → Int32} {br : Nat → Int32} {rw : Nat → Int32} {g : am_WS} {x1 : Int32} {x2 : Int32} {r : (String ⊕ Unit) × am_WS} (hf : f_Table_set g x1 x2 = some r) {o : am_O} (ho : am_ov r.1 = o) :
    am_M (am_kk l D dA) y_Table_set ws_Table_set (am_rm 3 o) [.ref 7, .int x1, .int x2] (hC g.1 g.2.1 g.2.2.1 li g.2.2.2.1 g.2.2.2.2.1 g.2.2.2.2.2.1 su g.2.2.2.2.2.2.1 g.2.2.2.2.2.2.2.1 g.2.2.2.2.2.2.2.2.1 g.2.2.2.2.2.2.2.2.2 ct lc ad ctb lcb adb fx us ln pt tx br rw rest) o (hC r.2.1 r.2.2.1 r.2.2.2.1 li r.2.2.2.2.1 r.2.2.2.2.2.1 r.2.2.2.2.2.2.1 su r.2.2.2.2.2.2.2.1 r.2.2.2.2.2.2.2.2.1 r.2.2.2.2.2.2.2.2.2.1 r.2.2.2.2.2.2.2.2.2.2 ct lc ad ctb lcb adb fx us ln pt tx br rw rest) := by
  subst ho
  refine am_body (by decide) rfl (Nat.le_of_ble_eq_true rfl) rfl ?_
  rw [f_Table_set] at hf
  refine g_aload_n (n := 1) d_Table_set_0 rfl 0 rfl rfl ?_
  refine g_get (n := 4) (q0 := 7) d_Table_set_1 rfl (am_fl in_Table rfl (by decide : 0 < 1)) (List.mem_cons_of_mem _ tw_99) rfl rfl ?_
  refine g_iconst (n := 5) (v := 2) d_Table_set_4 rfl (by decide) ?_
  refine g_iload_n (n := 6) d_Table_set_5 rfl 1 rfl rfl ?_
  refine g_imul (n := 7) d_Table_set_6 rfl ?_
  refine g_iload_n (n := 8) d_Table_set_7 rfl 2 rfl rfl ?_
  obtain ⟨r1, h2, hf⟩ := ob_bind hf
  rcases ob_t hf with ⟨E3, w5, hf⟩ | ⟨v4, w5, hf⟩
  · cases hf
    refine c_Vx (n := 11) (st' := []) [.int (2 * x1), .int x2] [] d_Table_set_8 rfl (s_Disk_writePair htr h2 (by rw [w5]; rfl)) tw_534 tw_535 tw_536 tw_3 tw_537 hd_Disk_writePair (by omega) (by decide) (ci := 0) rfl rfl rfl (Nat.le_of_ble_eq_true rfl) rfl ?_
    exact g_out rfl (Nat.le_refl _) (Nat.le_refl _)
  · refine c_Vr (n := 11) (st' := []) [.int (2 * x1), .int x2] [] d_Table_set_8 rfl (s_Disk_writePair htr h2 (by rw [w5]; rfl)) tw_534 tw_535 tw_536 tw_3 tw_537 hd_Disk_writePair (by omega) (by decide) (ci := 0) rfl rfl rfl (Nat.le_of_ble_eq_true rfl) rfl rfl ?_
    refine g_aload_n (n := 12) d_Table_set_11 rfl 0 rfl rfl ?_
    refine g_get (n := 15) (q0 := 7) d_Table_set_12 rfl (am_fl in_Table rfl (by decide : 0 < 1)) (List.mem_cons_of_mem _ tw_99) rfl rfl ?_
    refine g_sipush (n := 18) (v := 128) d_Table_set_15 rfl (by decide) ?_
    refine g_iconst (n := 19) (v := 2) d_Table_set_18 rfl (by decide) ?_
    refine g_iload_n (n := 20) d_Table_set_19 rfl 1 rfl rfl ?_
    refine g_imul (n := 21) d_Table_set_20 rfl ?_
    refine g_iadd (n := 22) d_Table_set_21 rfl ?_
    refine g_iload_n (n := 23) d_Table_set_22 rfl 2 rfl rfl ?_
    obtain ⟨r6, h7, hf⟩ := ob_bind hf
    rcases ob_t hf with ⟨E8, w10, hf⟩ | ⟨v9, w10, hf⟩
    · cases hf
      refine c_Vx (n := 26) (st' := []) [.int (128 + (2 * x1)), .int x2] [] d_Table_set_23 rfl (s_Disk_writePair htr h7 (by rw [w10]; rfl)) tw_534 tw_535 tw_536 tw_3 tw_537 hd_Disk_writePair (by omega) (by decide) (ci := 0) rfl rfl rfl (Nat.le_of_ble_eq_true rfl) rfl ?_
      exact g_out rfl (Nat.le_refl _) (Nat.le_refl _)
    · refine c_Vr (n := 26) (st' := []) [.int (128 + (2 * x1)), .int x2] [] d_Table_set_23 rfl (s_Disk_writePair htr h7 (by rw [w10]; rfl)) tw_534 tw_535 tw_536 tw_3 tw_537 hd_Disk_writePair (by omega) (by decide) (ci := 0) rfl rfl rfl (Nat.le_of_ble_eq_true rfl) rfl rfl ?_
      cases hf
      exact g_vret d_Table_set_26 rfl (Nat.zero_le _) (Nat.zero_le _)
def f_Disk_clearSector_L6 : Nat → am_WS → Int32 → Int32 → Option ((String ⊕ Unit) × am_WS)
  | 0, _, _, _ => none
  | fuel + 1, g, x1, x2 =>
  (if 32 ≤ x2 then some (.inr (), g) else ((f_Disk_put g.2.2.2.2.2.2.2.2.2 ((x1 * 32) + x2) 0).bind fun r7 => f_Disk_clearSector_L6 fuel (g.1, g.2.1, g.2.2.1, g.2.2.2.1, g.2.2.2.2.1, g.2.2.2.2.2.1, g.2.2.2.2.2.2.1, g.2.2.2.2.2.2.2.1, g.2.2.2.2.2.2.2.2.1, r7) x1 (x2 + 1)))
set_option maxHeartbeats 4000000 in
set_option maxRecDepth 100000 in
theorem s_Disk_clearSector_L6 {l : Launch} {D : va_G} {dA : FieldType → ClassId} (htr : l.stackTraces = false) {rest : List am_E} {li : Nat → Int32} {su : Int32} {ct : Int32} {lc : Int32} {ad : Nat → Int32} {ctb : Int32} {lcb : Int32} {adb : Nat → Int32} {fx : Int32} {us : Nat → Int32} {ln : Int32} {pt : Int32} {tx : Nat → Int32} {br : Nat → Int32} {rw : Nat → Int32}  : ∀ (fuel : Nat) (g : am_WS) (x1 : Int32) (x2 : Int32) (r : (String ⊕ Unit) × am_WS), f_Disk_clearSector_L6 fuel g x1 x2 = some r → ∀ o : am_O, am_ov r.1 = o →
    am_G (am_kk l D dA) (ws_Disk_clearSector, y_Disk_clearSector.cls, prog_2_method_11_code, 3, none, y_Disk_clearSector.name, [], am_rm 2 (o), none) o (hC r.2.1 r.2.2.1 r.2.2.2.1 li r.2.2.2.2.1 r.2.2.2.2.2.1 r.2.2.2.2.2.2.1 su r.2.2.2.2.2.2.2.1 r.2.2.2.2.2.2.2.2.1 r.2.2.2.2.2.2.2.2.2.1 r.2.2.2.2.2.2.2.2.2.2 ct lc ad ctb lcb adb fx us ln pt tx br rw rest) 0 0 6 [(0, .ref 5), (1, .int x1), (2, .int x2)] [] (hC g.1 g.2.1 g.2.2.1 li g.2.2.2.1 g.2.2.2.2.1 g.2.2.2.2.2.1 su g.2.2.2.2.2.2.1 g.2.2.2.2.2.2.2.1 g.2.2.2.2.2.2.2.2.1 g.2.2.2.2.2.2.2.2.2 ct lc ad ctb lcb adb fx us ln pt tx br rw rest) := by
  intro fuel
  induction fuel with
  | zero =>
    intro g x1 x2 r hf
    cases hf
  | succ fuel ih =>
    intro g x1 x2 r hf o ho
    subst ho
    rw [f_Disk_clearSector_L6] at hf
    refine g_iload_n (n := 7) d_Disk_clearSector_6 rfl 2 rfl rfl ?_
    refine g_bipush (n := 9) (v := 32) d_Disk_clearSector_7 rfl (by decide) ?_
    refine g_icmp_ge (n := 12) (tgt := 29) d_Disk_clearSector_9 rfl (by decide) (fun q6 => ?_) (fun q6 => ?_)
    · have hf := ob_pos q6 hf
      cases hf
      exact g_vret d_Disk_clearSector_29 rfl (Nat.zero_le _) (Nat.zero_le _)
    · have hf := ob_neg q6 hf
      refine g_aload_n (n := 13) d_Disk_clearSector_12 rfl 0 rfl rfl ?_
      refine g_iload_n (n := 14) d_Disk_clearSector_13 rfl 1 rfl rfl ?_
      refine g_bipush (n := 16) (v := 32) d_Disk_clearSector_14 rfl (by decide) ?_
      refine g_imul (n := 17) d_Disk_clearSector_16 rfl ?_
      refine g_iload_n (n := 18) d_Disk_clearSector_17 rfl 2 rfl rfl ?_
      refine g_iadd (n := 19) d_Disk_clearSector_18 rfl ?_
      refine g_iconst (n := 20) (v := 0) d_Disk_clearSector_19 rfl (by decide) ?_
      obtain ⟨r7, h8, hf⟩ := ob_bind hf
      refine c_Vr (n := 23) (st' := []) [.int ((x1 * 32) + x2), .int 0] [] d_Disk_clearSector_20 rfl (s_Disk_put htr h8 rfl) tw_546 tw_270 tw_271 tw_3 tw_272 hd_Disk_put (by omega) (by decide) (ci := 0) rfl rfl rfl (Nat.le_of_ble_eq_true rfl) rfl rfl ?_
      refine g_iinc (n := 26) (v := (x2 + 1)) (ls' := [(2, .int (x2 + 1)), (0, .ref 5), (1, .int x1)]) d_Disk_clearSector_23 rfl 2 rfl rfl (am_ltb rfl) rfl ?_
      refine g_goto (n := 6) d_Disk_clearSector_26 (by decide) ?_
      refine g_ls [1, 2, 0] rfl ?_
      exact ih (g.1, g.2.1, g.2.2.1, g.2.2.2.1, g.2.2.2.2.1, g.2.2.2.2.2.1, g.2.2.2.2.2.2.1, g.2.2.2.2.2.2.2.1, g.2.2.2.2.2.2.2.2.1, r7) x1 (x2 + 1) _ hf _ rfl
def f_Disk_clearSector (g : am_WS) (x1 : Int32) : Option ((String ⊕ Unit) × am_WS) :=
  ((f_Disk_countWrite g).bind fun r1 => am_t r1.1 (fun E3 => some (.inl E3, r1.2)) (fun v4 => f_Disk_clearSector_L6 100000000000 r1.2 x1 0))
set_option maxHeartbeats 4000000 in
set_option maxRecDepth 100000 in
theorem s_Disk_clearSector {l : Launch} {D : va_G} {dA : FieldType → ClassId} (htr : l.stackTraces = false) {rest : List am_E} {li : Nat → Int32} {su : Int32} {ct : Int32} {lc : Int32} {ad : Nat → Int32} {ctb : Int32} {lcb : Int32} {adb : Nat → Int32} {fx : Int32} {us : Nat → Int32} {ln : Int32} {pt : Int32} {tx : Nat → Int32} {br : Nat → Int32} {rw : Nat → Int32} {g : am_WS} {x1 : Int32} {r : (String ⊕ Unit) × am_WS} (hf : f_Disk_clearSector g x1 = some r) {o : am_O} (ho : am_ov r.1 = o) :
    am_M (am_kk l D dA) y_Disk_clearSector ws_Disk_clearSector (am_rm 2 o) [.ref 5, .int x1] (hC g.1 g.2.1 g.2.2.1 li g.2.2.2.1 g.2.2.2.2.1 g.2.2.2.2.2.1 su g.2.2.2.2.2.2.1 g.2.2.2.2.2.2.2.1 g.2.2.2.2.2.2.2.2.1 g.2.2.2.2.2.2.2.2.2 ct lc ad ctb lcb adb fx us ln pt tx br rw rest) o (hC r.2.1 r.2.2.1 r.2.2.2.1 li r.2.2.2.2.1 r.2.2.2.2.2.1 r.2.2.2.2.2.2.1 su r.2.2.2.2.2.2.2.1 r.2.2.2.2.2.2.2.2.1 r.2.2.2.2.2.2.2.2.2.1 r.2.2.2.2.2.2.2.2.2.2 ct lc ad ctb lcb adb fx us ln pt tx br rw rest) := by
  subst ho
  refine am_body (by decide) rfl (Nat.le_of_ble_eq_true rfl) rfl ?_
  rw [f_Disk_clearSector] at hf
  refine g_aload_n (n := 1) d_Disk_clearSector_0 rfl 0 rfl rfl ?_
  obtain ⟨r1, h2, hf⟩ := ob_bind hf
  rcases ob_t hf with ⟨E3, w5, hf⟩ | ⟨v4, w5, hf⟩
  · cases hf
    refine c_Vx (n := 4) (st' := []) [] [] d_Disk_clearSector_1 rfl (s_Disk_countWrite htr h2 (by rw [w5]; rfl)) tw_538 tw_539 tw_540 tw_3 tw_541 hd_Disk_countWrite (by omega) (by decide) (ci := 0) rfl rfl rfl (Nat.le_of_ble_eq_true rfl) rfl ?_
    exact g_out rfl (Nat.le_refl _) (Nat.le_refl _)
  · refine c_Vr (n := 4) (st' := []) [] [] d_Disk_clearSector_1 rfl (s_Disk_countWrite htr h2 (by rw [w5]; rfl)) tw_538 tw_539 tw_540 tw_3 tw_541 hd_Disk_countWrite (by omega) (by decide) (ci := 0) rfl rfl rfl (Nat.le_of_ble_eq_true rfl) rfl rfl ?_
    refine g_iconst (n := 5) (v := 0) d_Disk_clearSector_4 rfl (by decide) ?_
    refine g_istore_n (n := 6) (ls' := [(2, .int 0), (0, .ref 5), (1, .int x1)]) d_Disk_clearSector_5 rfl rfl (am_ltb rfl) rfl ?_
    refine g_ls [1, 2, 0] rfl ?_
    exact s_Disk_clearSector_L6 htr 100000000000 r1.2 x1 0 _ hf _ rfl
def f_Table_take (g : am_WS) : Option ((String ⊕ Int32) × am_WS) :=
  ((f_Table_leastFree g.2.2.2.2.2.2.2.2.2).bind fun r1 => (if r1 = 0 then some (.inr r1, g) else ((f_Table_set g r1 65535).bind fun r4 => am_t r4.1 (fun E6 => some (.inl E6, r4.2)) (fun v7 => ((f_V_sectorOf r1).bind fun r9 => ((f_Disk_clearSector r4.2 r9).bind fun r11 => am_t r11.1 (fun E13 => some (.inl E13, r11.2)) (fun v14 => some (.inr r1, r11.2))))))))
set_option maxHeartbeats 4000000 in
set_option maxRecDepth 100000 in
theorem s_Table_take {l : Launch} {D : va_G} {dA : FieldType → ClassId} (htr : l.stackTraces = false) {rest : List am_E} {li : Nat → Int32} {su : Int32} {ct : Int32} {lc : Int32} {ad : Nat → Int32} {ctb : Int32} {lcb : Int32} {adb : Nat → Int32} {fx : Int32} {us : Nat → Int32} {ln : Int32} {pt : Int32} {tx : Nat → Int32} {br : Nat → Int32} {rw : Nat → Int32} {g : am_WS}  {r : (String ⊕ Int32) × am_WS} (hf : f_Table_take g = some r) {o : am_O} (ho : am_oi r.1 = o) :
    am_M (am_kk l D dA) y_Table_take ws_Table_take (am_rm 4 o) [.ref 7] (hC g.1 g.2.1 g.2.2.1 li g.2.2.2.1 g.2.2.2.2.1 g.2.2.2.2.2.1 su g.2.2.2.2.2.2.1 g.2.2.2.2.2.2.2.1 g.2.2.2.2.2.2.2.2.1 g.2.2.2.2.2.2.2.2.2 ct lc ad ctb lcb adb fx us ln pt tx br rw rest) o (hC r.2.1 r.2.2.1 r.2.2.2.1 li r.2.2.2.2.1 r.2.2.2.2.2.1 r.2.2.2.2.2.2.1 su r.2.2.2.2.2.2.2.1 r.2.2.2.2.2.2.2.2.1 r.2.2.2.2.2.2.2.2.2.1 r.2.2.2.2.2.2.2.2.2.2 ct lc ad ctb lcb adb fx us ln pt tx br rw rest) := by
  subst ho
  refine am_body (by decide) rfl (Nat.le_of_ble_eq_true rfl) rfl ?_
  rw [f_Table_take] at hf
  refine g_aload_n (n := 1) d_Table_take_0 rfl 0 rfl rfl ?_
  obtain ⟨r1, h2, hf⟩ := ob_bind hf
  refine c_Vr (n := 4) (st' := [.int r1]) [] [] d_Table_take_1 rfl (s_Table_leastFree htr h2 rfl) tw_525 tw_526 tw_527 tw_4 tw_528 hd_Table_leastFree (by omega) (by decide) (ci := 5) rfl rfl rfl (Nat.le_of_ble_eq_true rfl) rfl rfl ?_
  refine g_istore_n (n := 5) (ls' := [(1, .int r1), (0, .ref 7)]) d_Table_take_4 rfl rfl (am_ltb rfl) rfl ?_
  refine g_iload_n (n := 6) d_Table_take_5 rfl 0 rfl rfl ?_
  refine g_if_eq (n := 9) (tgt := 27) d_Table_take_6 rfl (by decide) (fun q3 => ?_) (fun q3 => ?_)
  · have hf := ob_pos q3 hf
    refine g_iload_n (n := 28) d_Table_take_27 rfl 0 rfl rfl ?_
    cases hf
    exact g_iret d_Table_take_28 rfl (Nat.zero_le _) (Nat.zero_le _)
  · have hf := ob_neg q3 hf
    refine g_aload_n (n := 10) d_Table_take_9 rfl 1 rfl rfl ?_
    refine g_iload_n (n := 11) d_Table_take_10 rfl 0 rfl rfl ?_
    refine g_ldc (n := 13) (v := 65535) d_Table_take_11 rfl (List.mem_cons_of_mem _ tw_529) ?_
    obtain ⟨r4, h5, hf⟩ := ob_bind hf
    rcases ob_t hf with ⟨E6, w8, hf⟩ | ⟨v7, w8, hf⟩
    · cases hf
      refine c_Vx (n := 16) (st' := []) [.int r1, .int 65535] [] d_Table_take_13 rfl (s_Table_set htr h5 (by rw [w8]; rfl)) tw_530 tw_531 tw_532 tw_4 tw_533 hd_Table_set (by omega) (by decide) (ci := 5) rfl rfl rfl (Nat.le_of_ble_eq_true rfl) rfl ?_
      exact g_out rfl (Nat.le_refl _) (Nat.le_refl _)
    · refine c_Vr (n := 16) (st' := []) [.int r1, .int 65535] [] d_Table_take_13 rfl (s_Table_set htr h5 (by rw [w8]; rfl)) tw_530 tw_531 tw_532 tw_4 tw_533 hd_Table_set (by omega) (by decide) (ci := 5) rfl rfl rfl (Nat.le_of_ble_eq_true rfl) rfl rfl ?_
      refine g_aload_n (n := 17) d_Table_take_16 rfl 1 rfl rfl ?_
      refine g_get (n := 20) (q0 := 7) d_Table_take_17 rfl (am_fl in_Table rfl (by decide : 0 < 1)) (List.mem_cons_of_mem _ tw_99) rfl rfl ?_
      refine g_iload_n (n := 21) d_Table_take_20 rfl 0 rfl rfl ?_
      obtain ⟨r9, h10, hf⟩ := ob_bind hf
      refine c_SNr (n := 24) (st' := [.int r9, .ref 5]) [.int r1] [.ref 5] d_Table_take_21 rfl (s_V_sectorOf htr h10 rfl) nw_547 tw_415 tw_1 tw_416 hd_V_sectorOf (by omega) (by decide) rfl (Nat.le_of_ble_eq_true rfl) rfl rfl ?_
      obtain ⟨r11, h12, hf⟩ := ob_bind hf
      rcases ob_t hf with ⟨E13, w15, hf⟩ | ⟨v14, w15, hf⟩
      · cases hf
        refine c_Vx (n := 27) (st' := []) [.int r9] [] d_Table_take_24 rfl (s_Disk_clearSector htr h12 (by rw [w15]; rfl)) tw_548 tw_549 tw_550 tw_3 tw_551 hd_Disk_clearSector (by omega) (by decide) (ci := 0) rfl rfl rfl (Nat.le_of_ble_eq_true rfl) rfl ?_
        exact g_out rfl (Nat.le_refl _) (Nat.le_refl _)
      · refine c_Vr (n := 27) (st' := []) [.int r9] [] d_Table_take_24 rfl (s_Disk_clearSector htr h12 (by rw [w15]; rfl)) tw_548 tw_549 tw_550 tw_3 tw_551 hd_Disk_clearSector (by omega) (by decide) (ci := 0) rfl rfl rfl (Nat.le_of_ble_eq_true rfl) rfl rfl ?_
        refine g_iload_n (n := 28) d_Table_take_27 rfl 0 rfl rfl ?_
        cases hf
        exact g_iret d_Table_take_28 rfl (Nat.zero_le _) (Nat.zero_le _)
def f_Folder_isFree (bt : Nat → Int32) (ct : Int32) (ad : Nat → Int32) (x1 : Int32) : Option (Int32) :=
  ((f_Folder_byteOf bt ct ad x1 0).bind fun r1 => (if r1 = 0 then some 1 else (if r1 = 229 then some 1 else some 0)))
set_option maxHeartbeats 4000000 in
set_option maxRecDepth 100000 in
theorem s_Folder_isFree {l : Launch} {D : va_G} {dA : FieldType → ClassId} (htr : l.stackTraces = false) {rest : List am_E} {ll : Int32} {he : Int32} {de : Int32} {li : Nat → Int32} {en : Nat → Int32} {po : Nat → Int32} {pw : Int32} {su : Int32} {wr : Int32} {cs : Int32} {wb : Int32} {bt : Nat → Int32} {ct : Int32} {lc : Int32} {ad : Nat → Int32} {ctb : Int32} {lcb : Int32} {adb : Nat → Int32} {fx : Int32} {us : Nat → Int32} {ln : Int32} {pt : Int32} {tx : Nat → Int32} {br : Nat → Int32} {rw : Nat → Int32}  {x1 : Int32} {r : Int32} (hf : f_Folder_isFree bt ct ad x1 = some r) {o : am_O} (ho : .inl (some (.int r)) = o) :
    am_M (am_kk l D dA) y_Folder_isFree ws_Folder_isFree (am_rm 2 o) [.ref 8, .int x1] (hC ll he de li en po pw su wr cs wb bt ct lc ad ctb lcb adb fx us ln pt tx br rw rest) o (hC ll he de li en po pw su wr cs wb bt ct lc ad ctb lcb adb fx us ln pt tx br rw rest) := by
  subst ho
  refine am_body (by decide) rfl (Nat.le_of_ble_eq_true rfl) rfl ?_
  rw [f_Folder_isFree] at hf
  refine g_aload_n (n := 1) d_Folder_isFree_0 rfl 0 rfl rfl ?_
  refine g_iload_n (n := 2) d_Folder_isFree_1 rfl 1 rfl rfl ?_
  refine g_iconst (n := 3) (v := 0) d_Folder_isFree_2 rfl (by decide) ?_
  obtain ⟨r1, h2, hf⟩ := ob_bind hf
  refine c_Vr (n := 6) (st' := [.int r1]) [.int x1, .int 0] [] d_Folder_isFree_3 rfl (s_Folder_byteOf htr h2 rfl) tw_426 tw_427 tw_428 tw_5 tw_429 hd_Folder_byteOf (by omega) (by decide) (ci := 1) rfl rfl rfl (Nat.le_of_ble_eq_true rfl) rfl rfl ?_
  refine g_istore_n (n := 7) (ls' := [(2, .int r1), (0, .ref 8), (1, .int x1)]) d_Folder_isFree_6 rfl rfl (am_ltb rfl) rfl ?_
  refine g_iload_n (n := 8) d_Folder_isFree_7 rfl 0 rfl rfl ?_
  refine g_if_eq (n := 11) (tgt := 18) d_Folder_isFree_8 rfl (by decide) (fun q3 => ?_) (fun q3 => ?_)
  · have hf := ob_pos q3 hf
    refine g_iconst (n := 19) (v := 1) d_Folder_isFree_18 rfl (by decide) ?_
    refine g_goto (n := 23) d_Folder_isFree_19 (by decide) ?_
    cases hf
    exact g_zret d_Folder_isFree_23 rfl am_z1 (Nat.zero_le _) (Nat.zero_le _)
  · have hf := ob_neg q3 hf
    refine g_iload_n (n := 12) d_Folder_isFree_11 rfl 0 rfl rfl ?_
    refine g_sipush (n := 15) (v := 229) d_Folder_isFree_12 rfl (by decide) ?_
    refine g_icmp_ne (n := 18) (tgt := 22) d_Folder_isFree_15 rfl (by decide) (fun q4 => ?_) (fun q4 => ?_)
    · have hf := ob_neg q4 hf
      refine g_iconst (n := 23) (v := 0) d_Folder_isFree_22 rfl (by decide) ?_
      cases hf
      exact g_zret d_Folder_isFree_23 rfl am_z0 (Nat.zero_le _) (Nat.zero_le _)
    · have hf := ob_pos q4 hf
      refine g_iconst (n := 19) (v := 1) d_Folder_isFree_18 rfl (by decide) ?_
      refine g_goto (n := 23) d_Folder_isFree_19 (by decide) ?_
      cases hf
      exact g_zret d_Folder_isFree_23 rfl am_z1 (Nat.zero_le _) (Nat.zero_le _)
def f_Folder_findFreeRow_L4 : Nat → (Nat → Int32) → Int32 → (Nat → Int32) → Int32 → Int32 → Int32 → Option (Int32)
  | 0, _, _, _, _, _, _ => none
  | fuel + 1, bt, ct, ad, x1, x2, x3 =>
  (if ct ≤ x3 then some (-1) else ((f_Folder_isFree bt ct ad x3).bind fun r2 => (if r2 = 0 then (if 0 = x1 then some ((x3 - x1) + 1) else f_Folder_findFreeRow_L4 fuel bt ct ad x1 0 (x3 + 1)) else (if (x2 + 1) = x1 then some ((x3 - x1) + 1) else f_Folder_findFreeRow_L4 fuel bt ct ad x1 (x2 + 1) (x3 + 1)))))
set_option maxHeartbeats 4000000 in
set_option maxRecDepth 100000 in
theorem s_Folder_findFreeRow_L4 {l : Launch} {D : va_G} {dA : FieldType → ClassId} (htr : l.stackTraces = false) {rest : List am_E} {ll : Int32} {he : Int32} {de : Int32} {li : Nat → Int32} {en : Nat → Int32} {po : Nat → Int32} {pw : Int32} {su : Int32} {wr : Int32} {cs : Int32} {wb : Int32} {lc : Int32} {ctb : Int32} {lcb : Int32} {adb : Nat → Int32} {fx : Int32} {us : Nat → Int32} {ln : Int32} {pt : Int32} {tx : Nat → Int32} {br : Nat → Int32} {rw : Nat → Int32}  : ∀ (fuel : Nat) (bt : Nat → Int32) (ct : Int32) (ad : Nat → Int32) (x1 : Int32) (x2 : Int32) (x3 : Int32) (r : Int32), f_Folder_findFreeRow_L4 fuel bt ct ad x1 x2 x3 = some r → ∀ o : am_O, .inl (some (.int r)) = o →
    am_G (am_kk l D dA) (ws_Folder_findFreeRow, y_Folder_findFreeRow.cls, prog_3_method_12_code, 4, (some .int), y_Folder_findFreeRow.name, [], am_rm 3 (o), none) o (hC ll he de li en po pw su wr cs wb bt ct lc ad ctb lcb adb fx us ln pt tx br rw rest) 0 0 4 [(0, .ref 8), (1, .int x1), (2, .int x2), (3, .int x3)] [] (hC ll he de li en po pw su wr cs wb bt ct lc ad ctb lcb adb fx us ln pt tx br rw rest) := by
  intro fuel
  induction fuel with
  | zero =>
    intro bt ct ad x1 x2 x3 r hf
    cases hf
  | succ fuel ih =>
    intro bt ct ad x1 x2 x3 r hf o ho
    subst ho
    rw [f_Folder_findFreeRow_L4] at hf
    refine g_iload_n (n := 5) d_Folder_findFreeRow_4 rfl 3 rfl rfl ?_
    refine g_aload_n (n := 6) d_Folder_findFreeRow_5 rfl 0 rfl rfl ?_
    refine g_get (n := 9) (q0 := 8) d_Folder_findFreeRow_6 rfl (am_fl in_Folder rfl (by decide : 3 < 5)) (List.mem_cons_of_mem _ tw_112) rfl rfl ?_
    refine g_icmp_ge (n := 12) (tgt := 45) d_Folder_findFreeRow_9 rfl (by decide) (fun q1 => ?_) (fun q1 => ?_)
    · have hf := ob_pos q1 hf
      refine g_iconst (n := 46) (v := (-1)) d_Folder_findFreeRow_45 rfl (by decide) ?_
      cases hf
      exact g_iret d_Folder_findFreeRow_46 rfl (Nat.zero_le _) (Nat.zero_le _)
    · have hf := ob_neg q1 hf
      refine g_aload_n (n := 13) d_Folder_findFreeRow_12 rfl 0 rfl rfl ?_
      refine g_iload_n (n := 14) d_Folder_findFreeRow_13 rfl 3 rfl rfl ?_
      obtain ⟨r2, h3, hf⟩ := ob_bind hf
      refine c_Vr (n := 17) (st' := [.int r2]) [.int x3] [] d_Folder_findFreeRow_14 rfl (s_Folder_isFree htr h3 rfl) tw_561 tw_562 tw_563 tw_5 tw_564 hd_Folder_isFree (by omega) (by decide) (ci := 1) rfl rfl rfl (Nat.le_of_ble_eq_true rfl) rfl rfl ?_
      refine g_if_eq (n := 20) (tgt := 26) d_Folder_findFreeRow_17 rfl (by decide) (fun q4 => ?_) (fun q4 => ?_)
      · have hf := ob_pos q4 hf
        refine g_iconst (n := 27) (v := 0) d_Folder_findFreeRow_26 rfl (by decide) ?_
        refine g_istore_n (n := 28) (ls' := [(2, .int 0), (0, .ref 8), (1, .int x1), (3, .int x3)]) d_Folder_findFreeRow_27 rfl rfl (am_ltb rfl) rfl ?_
        refine g_iload_n (n := 29) d_Folder_findFreeRow_28 rfl 0 rfl rfl ?_
        refine g_iload_n (n := 30) d_Folder_findFreeRow_29 rfl 2 rfl rfl ?_
        refine g_icmp_ne (n := 33) (tgt := 39) d_Folder_findFreeRow_30 rfl (by decide) (fun q5 => ?_) (fun q5 => ?_)
        · have hf := ob_neg q5 hf
          refine g_iinc (n := 42) (v := (x3 + 1)) (ls' := [(3, .int (x3 + 1)), (2, .int 0), (0, .ref 8), (1, .int x1)]) d_Folder_findFreeRow_39 rfl 3 rfl rfl (am_ltb rfl) rfl ?_
          refine g_goto (n := 4) d_Folder_findFreeRow_42 (by decide) ?_
          refine g_ls [2, 3, 1, 0] rfl ?_
          exact ih bt ct ad x1 0 (x3 + 1) _ hf _ rfl
        · have hf := ob_pos q5 hf
          refine g_iload_n (n := 34) d_Folder_findFreeRow_33 rfl 3 rfl rfl ?_
          refine g_iload_n (n := 35) d_Folder_findFreeRow_34 rfl 2 rfl rfl ?_
          refine g_isub (n := 36) d_Folder_findFreeRow_35 rfl ?_
          refine g_iconst (n := 37) (v := 1) d_Folder_findFreeRow_36 rfl (by decide) ?_
          refine g_iadd (n := 38) d_Folder_findFreeRow_37 rfl ?_
          cases hf
          exact g_iret d_Folder_findFreeRow_38 rfl (Nat.zero_le _) (Nat.zero_le _)
      · have hf := ob_neg q4 hf
        refine g_iload_n (n := 21) d_Folder_findFreeRow_20 rfl 2 rfl rfl ?_
        refine g_iconst (n := 22) (v := 1) d_Folder_findFreeRow_21 rfl (by decide) ?_
        refine g_iadd (n := 23) d_Folder_findFreeRow_22 rfl ?_
        refine g_goto (n := 27) d_Folder_findFreeRow_23 (by decide) ?_
        refine g_istore_n (n := 28) (ls' := [(2, .int (x2 + 1)), (0, .ref 8), (1, .int x1), (3, .int x3)]) d_Folder_findFreeRow_27 rfl rfl (am_ltb rfl) rfl ?_
        refine g_iload_n (n := 29) d_Folder_findFreeRow_28 rfl 0 rfl rfl ?_
        refine g_iload_n (n := 30) d_Folder_findFreeRow_29 rfl 2 rfl rfl ?_
        refine g_icmp_ne (n := 33) (tgt := 39) d_Folder_findFreeRow_30 rfl (by decide) (fun q6 => ?_) (fun q6 => ?_)
        · have hf := ob_neg q6 hf
          refine g_iinc (n := 42) (v := (x3 + 1)) (ls' := [(3, .int (x3 + 1)), (2, .int (x2 + 1)), (0, .ref 8), (1, .int x1)]) d_Folder_findFreeRow_39 rfl 3 rfl rfl (am_ltb rfl) rfl ?_
          refine g_goto (n := 4) d_Folder_findFreeRow_42 (by decide) ?_
          refine g_ls [2, 3, 1, 0] rfl ?_
          exact ih bt ct ad x1 (x2 + 1) (x3 + 1) _ hf _ rfl
        · have hf := ob_pos q6 hf
          refine g_iload_n (n := 34) d_Folder_findFreeRow_33 rfl 3 rfl rfl ?_
          refine g_iload_n (n := 35) d_Folder_findFreeRow_34 rfl 2 rfl rfl ?_
          refine g_isub (n := 36) d_Folder_findFreeRow_35 rfl ?_
          refine g_iconst (n := 37) (v := 1) d_Folder_findFreeRow_36 rfl (by decide) ?_
          refine g_iadd (n := 38) d_Folder_findFreeRow_37 rfl ?_
          cases hf
          exact g_iret d_Folder_findFreeRow_38 rfl (Nat.zero_le _) (Nat.zero_le _)
def f_Folder_findFreeRow (bt : Nat → Int32) (ct : Int32) (ad : Nat → Int32) (x1 : Int32) : Option (Int32) :=
  f_Folder_findFreeRow_L4 100000000000 bt ct ad x1 0 0
set_option maxHeartbeats 4000000 in
set_option maxRecDepth 100000 in
theorem s_Folder_findFreeRow {l : Launch} {D : va_G} {dA : FieldType → ClassId} (htr : l.stackTraces = false) {rest : List am_E} {ll : Int32} {he : Int32} {de : Int32} {li : Nat → Int32} {en : Nat → Int32} {po : Nat → Int32} {pw : Int32} {su : Int32} {wr : Int32} {cs : Int32} {wb : Int32} {bt : Nat → Int32} {ct : Int32} {lc : Int32} {ad : Nat → Int32} {ctb : Int32} {lcb : Int32} {adb : Nat → Int32} {fx : Int32} {us : Nat → Int32} {ln : Int32} {pt : Int32} {tx : Nat → Int32} {br : Nat → Int32} {rw : Nat → Int32}  {x1 : Int32} {r : Int32} (hf : f_Folder_findFreeRow bt ct ad x1 = some r) {o : am_O} (ho : .inl (some (.int r)) = o) :
    am_M (am_kk l D dA) y_Folder_findFreeRow ws_Folder_findFreeRow (am_rm 3 o) [.ref 8, .int x1] (hC ll he de li en po pw su wr cs wb bt ct lc ad ctb lcb adb fx us ln pt tx br rw rest) o (hC ll he de li en po pw su wr cs wb bt ct lc ad ctb lcb adb fx us ln pt tx br rw rest) := by
  subst ho
  refine am_body (by decide) rfl (Nat.le_of_ble_eq_true rfl) rfl ?_
  rw [f_Folder_findFreeRow] at hf
  refine g_iconst (n := 1) (v := 0) d_Folder_findFreeRow_0 rfl (by decide) ?_
  refine g_istore_n (n := 2) (ls' := [(2, .int 0), (0, .ref 8), (1, .int x1)]) d_Folder_findFreeRow_1 rfl rfl (am_ltb rfl) rfl ?_
  refine g_iconst (n := 3) (v := 0) d_Folder_findFreeRow_2 rfl (by decide) ?_
  refine g_istore_n (n := 4) (ls' := [(3, .int 0), (2, .int 0), (0, .ref 8), (1, .int x1)]) d_Folder_findFreeRow_3 rfl rfl (am_ltb rfl) rfl ?_
  refine g_ls [2, 3, 1, 0] rfl ?_
  exact s_Folder_findFreeRow_L4 htr 100000000000 bt ct ad x1 0 0 _ hf _ rfl
def f_V_makeFreeRow_L2 : Nat → am_WS → Int32 → Int32 → (Nat → Int32) → Int32 → Int32 → Option ((String ⊕ Int32) × am_WS × Int32 × Int32 × (Nat → Int32))
  | 0, _, _, _, _, _, _ => none
  | fuel + 1, g, ct, lc, ad, x1, x2 =>
  (if 64 < x2 then some (.inr (-1), g, ct, lc, ad) else ((f_Folder_findFreeRow g.2.2.2.2.2.2.2.2.2 ct ad x1).bind fun r2 => (if r2 = (-1) then ((f_Table_take g).bind fun r5 => am_t r5.1 (fun E7 => some (.inl E7, r5.2, ct, lc, ad)) (fun v8 => (if v8 = 0 then some (.inr (-1), r5.2, ct, lc, ad) else ((f_Table_set r5.2 lc v8).bind fun r11 => am_t r11.1 (fun E13 => some (.inl E13, r11.2, ct, lc, ad)) (fun v14 => ((f_Folder_load r11.2.2.2.2.2.2.2.2.2.2 ct lc ad r11.2.2.1).bind fun r16 => f_V_makeFreeRow_L2 fuel r11.2 r16.1 r16.2.1 r16.2.2 x1 (x2 + 1))))))) else some (.inr r2, g, ct, lc, ad))))
set_option maxHeartbeats 4000000 in
set_option maxRecDepth 100000 in
theorem s_V_makeFreeRow_L2 {l : Launch} {D : va_G} {dA : FieldType → ClassId} (htr : l.stackTraces = false) {rest : List am_E} {li : Nat → Int32} {su : Int32} {ctb : Int32} {lcb : Int32} {adb : Nat → Int32} {fx : Int32} {us : Nat → Int32} {ln : Int32} {pt : Int32} {tx : Nat → Int32} {br : Nat → Int32} {rw : Nat → Int32}  : ∀ (fuel : Nat) (g : am_WS) (ct : Int32) (lc : Int32) (ad : Nat → Int32) (x1 : Int32) (x2 : Int32) (r : (String ⊕ Int32) × am_WS × Int32 × Int32 × (Nat → Int32)), f_V_makeFreeRow_L2 fuel g ct lc ad x1 x2 = some r → ∀ o : am_O, am_oi r.1 = o →
    am_G (am_kk l D dA) (ws_V_makeFreeRow, y_V_makeFreeRow.cls, prog_1_method_19_code, 5, (some .int), y_V_makeFreeRow.name, [], am_rm 5 (o), none) o (hC r.2.1.1 r.2.1.2.1 r.2.1.2.2.1 li r.2.1.2.2.2.1 r.2.1.2.2.2.2.1 r.2.1.2.2.2.2.2.1 su r.2.1.2.2.2.2.2.2.1 r.2.1.2.2.2.2.2.2.2.1 r.2.1.2.2.2.2.2.2.2.2.1 r.2.1.2.2.2.2.2.2.2.2.2 r.2.2.1 r.2.2.2.1 r.2.2.2.2 ctb lcb adb fx us ln pt tx br rw rest) 0 0 2 [(0, .ref 0), (1, .int x1), (2, .int x2)] [] (hC g.1 g.2.1 g.2.2.1 li g.2.2.2.1 g.2.2.2.2.1 g.2.2.2.2.2.1 su g.2.2.2.2.2.2.1 g.2.2.2.2.2.2.2.1 g.2.2.2.2.2.2.2.2.1 g.2.2.2.2.2.2.2.2.2 ct lc ad ctb lcb adb fx us ln pt tx br rw rest) := by
  intro fuel
  induction fuel with
  | zero =>
    intro g ct lc ad x1 x2 r hf
    cases hf
  | succ fuel ih =>
    intro g ct lc ad x1 x2 r hf o ho
    subst ho
    rw [f_V_makeFreeRow_L2] at hf
    refine g_iload_n (n := 3) d_V_makeFreeRow_2 rfl 2 rfl rfl ?_
    refine g_bipush (n := 5) (v := 64) d_V_makeFreeRow_3 rfl (by decide) ?_
    refine g_icmp_gt (n := 8) (tgt := 76) d_V_makeFreeRow_5 rfl (by decide) (fun q1 => ?_) (fun q1 => ?_)
    · have hf := ob_pos q1 hf
      refine g_iconst (n := 77) (v := (-1)) d_V_makeFreeRow_76 rfl (by decide) ?_
      cases hf
      exact g_iret d_V_makeFreeRow_77 rfl (Nat.zero_le _) (Nat.zero_le _)
    · have hf := ob_neg q1 hf
      refine g_aload_n (n := 9) d_V_makeFreeRow_8 rfl 0 rfl rfl ?_
      refine g_get (n := 12) (q0 := 0) d_V_makeFreeRow_9 rfl (am_fl in_V rfl (by decide : 3 < 8)) (List.mem_cons_of_mem _ tw_176) rfl rfl ?_
      refine g_iload_n (n := 13) d_V_makeFreeRow_12 rfl 1 rfl rfl ?_
      obtain ⟨r2, h3, hf⟩ := ob_bind hf
      refine c_Vr (n := 16) (st' := [.int r2]) [.int x1] [] d_V_makeFreeRow_13 rfl (s_Folder_findFreeRow htr h3 rfl) tw_557 tw_558 tw_559 tw_5 tw_560 hd_Folder_findFreeRow (by omega) (by decide) (ci := 1) rfl rfl rfl (Nat.le_of_ble_eq_true rfl) rfl rfl ?_
      refine g_istore_n (n := 17) (ls' := [(3, .int r2), (0, .ref 0), (1, .int x1), (2, .int x2)]) d_V_makeFreeRow_16 rfl rfl (am_ltb rfl) rfl ?_
      refine g_iload_n (n := 18) d_V_makeFreeRow_17 rfl 0 rfl rfl ?_
      refine g_iconst (n := 19) (v := (-1)) d_V_makeFreeRow_18 rfl (by decide) ?_
      refine g_icmp_eq (n := 22) (tgt := 24) d_V_makeFreeRow_19 rfl (by decide) (fun q4 => ?_) (fun q4 => ?_)
      · have hf := ob_pos q4 hf
        refine g_aload_n (n := 25) d_V_makeFreeRow_24 rfl 1 rfl rfl ?_
        refine g_get (n := 28) (q0 := 0) d_V_makeFreeRow_25 rfl (am_fl in_V rfl (by decide : 2 < 8)) (List.mem_cons_of_mem _ tw_175) rfl rfl ?_
        obtain ⟨r5, h6, hf⟩ := ob_bind hf
        rcases ob_t hf with ⟨E7, w9, hf⟩ | ⟨v8, w9, hf⟩
        · cases hf
          refine c_Vx (n := 31) (st' := []) [] [] d_V_makeFreeRow_28 rfl (s_Table_take htr h6 (by rw [w9]; rfl)) tw_521 tw_522 tw_523 tw_4 tw_524 hd_Table_take (by omega) (by decide) (ci := 5) rfl rfl rfl (Nat.le_of_ble_eq_true rfl) rfl ?_
          exact g_out rfl (Nat.le_refl _) (Nat.le_refl _)
        · refine c_Vr (n := 31) (st' := [.int v8]) [] [] d_V_makeFreeRow_28 rfl (s_Table_take htr h6 (by rw [w9]; rfl)) tw_521 tw_522 tw_523 tw_4 tw_524 hd_Table_take (by omega) (by decide) (ci := 5) rfl rfl rfl (Nat.le_of_ble_eq_true rfl) rfl rfl ?_
          refine g_istore (n := 33) (ls' := [(4, .int v8), (3, .int r2), (0, .ref 0), (1, .int x1), (2, .int x2)]) d_V_makeFreeRow_31 rfl (am_ltb rfl) rfl ?_
          refine g_iload (n := 35) d_V_makeFreeRow_33 rfl 0 rfl ?_
          refine g_if_ne (n := 38) (tgt := 40) d_V_makeFreeRow_35 rfl (by decide) (fun q10 => ?_) (fun q10 => ?_)
          · have hf := ob_neg q10 hf
            refine g_aload_n (n := 41) d_V_makeFreeRow_40 rfl 2 rfl rfl ?_
            refine g_get (n := 44) (q0 := 0) d_V_makeFreeRow_41 rfl (am_fl in_V rfl (by decide : 2 < 8)) (List.mem_cons_of_mem _ tw_175) rfl rfl ?_
            refine g_aload_n (n := 45) d_V_makeFreeRow_44 rfl 2 rfl rfl ?_
            refine g_get (n := 48) (q0 := 0) d_V_makeFreeRow_45 rfl (am_fl in_V rfl (by decide : 3 < 8)) (List.mem_cons_of_mem _ tw_176) rfl rfl ?_
            refine g_getN (n := 51) (q0 := 8) d_V_makeFreeRow_48 rfl (am_fl in_Folder rfl (by decide : 4 < 5)) nw_115 rfl rfl ?_
            refine g_iload (n := 53) d_V_makeFreeRow_51 rfl 0 rfl ?_
            obtain ⟨r11, h12, hf⟩ := ob_bind hf
            rcases ob_t hf with ⟨E13, w15, hf⟩ | ⟨v14, w15, hf⟩
            · cases hf
              refine c_Vx (n := 56) (st' := []) [.int lc, .int v8] [] d_V_makeFreeRow_53 rfl (s_Table_set htr h12 (by rw [w15]; rfl)) tw_565 tw_531 tw_532 tw_4 tw_533 hd_Table_set (by omega) (by decide) (ci := 5) rfl rfl rfl (Nat.le_of_ble_eq_true rfl) rfl ?_
              exact g_out rfl (Nat.le_refl _) (Nat.le_refl _)
            · refine c_Vr (n := 56) (st' := []) [.int lc, .int v8] [] d_V_makeFreeRow_53 rfl (s_Table_set htr h12 (by rw [w15]; rfl)) tw_565 tw_531 tw_532 tw_4 tw_533 hd_Table_set (by omega) (by decide) (ci := 5) rfl rfl rfl (Nat.le_of_ble_eq_true rfl) rfl rfl ?_
              refine g_aload_n (n := 57) d_V_makeFreeRow_56 rfl 2 rfl rfl ?_
              refine g_get (n := 60) (q0 := 0) d_V_makeFreeRow_57 rfl (am_fl in_V rfl (by decide : 3 < 8)) (List.mem_cons_of_mem _ tw_176) rfl rfl ?_
              refine g_aload_n (n := 61) d_V_makeFreeRow_60 rfl 2 rfl rfl ?_
              refine g_get (n := 64) (q0 := 0) d_V_makeFreeRow_61 rfl (am_fl in_V rfl (by decide : 0 < 8)) (List.mem_cons_of_mem _ tw_173) rfl rfl ?_
              refine g_getN (n := 67) (q0 := 1) d_V_makeFreeRow_64 rfl (am_fl in_Ses rfl (by decide : 4 < 6)) nw_45 rfl rfl ?_
              obtain ⟨r16, h17, hf⟩ := ob_bind hf
              refine c_Vr (n := 70) (st' := []) [.int r11.2.2.1] [] d_V_makeFreeRow_67 rfl (s_Folder_load htr h17 rfl) tw_407 tw_408 tw_409 tw_5 tw_410 hd_Folder_load (by omega) (by decide) (ci := 1) rfl rfl rfl (Nat.le_of_ble_eq_true rfl) rfl rfl ?_
              refine g_iinc (n := 73) (v := (x2 + 1)) (ls' := [(2, .int (x2 + 1)), (4, .int v8), (3, .int r2), (0, .ref 0), (1, .int x1)]) d_V_makeFreeRow_70 rfl 4 rfl rfl (am_ltb rfl) rfl ?_
              refine g_goto (n := 2) d_V_makeFreeRow_73 (by decide) ?_
              refine g_ls [3, 4, 0] rfl ?_
              exact ih r11.2 r16.1 r16.2.1 r16.2.2 x1 (x2 + 1) _ hf _ rfl
          · have hf := ob_pos q10 hf
            refine g_iconst (n := 39) (v := (-1)) d_V_makeFreeRow_38 rfl (by decide) ?_
            cases hf
            exact g_iret d_V_makeFreeRow_39 rfl (Nat.zero_le _) (Nat.zero_le _)
      · have hf := ob_neg q4 hf
        refine g_iload_n (n := 23) d_V_makeFreeRow_22 rfl 0 rfl rfl ?_
        cases hf
        exact g_iret d_V_makeFreeRow_23 rfl (Nat.zero_le _) (Nat.zero_le _)
def f_V_makeFreeRow (g : am_WS) (ct : Int32) (lc : Int32) (ad : Nat → Int32) (x1 : Int32) : Option ((String ⊕ Int32) × am_WS × Int32 × Int32 × (Nat → Int32)) :=
  f_V_makeFreeRow_L2 100000000000 g ct lc ad x1 0
set_option maxHeartbeats 4000000 in
set_option maxRecDepth 100000 in
theorem s_V_makeFreeRow {l : Launch} {D : va_G} {dA : FieldType → ClassId} (htr : l.stackTraces = false) {rest : List am_E} {li : Nat → Int32} {su : Int32} {ct : Int32} {lc : Int32} {ad : Nat → Int32} {ctb : Int32} {lcb : Int32} {adb : Nat → Int32} {fx : Int32} {us : Nat → Int32} {ln : Int32} {pt : Int32} {tx : Nat → Int32} {br : Nat → Int32} {rw : Nat → Int32} {g : am_WS} {x1 : Int32} {r : (String ⊕ Int32) × am_WS × Int32 × Int32 × (Nat → Int32)} (hf : f_V_makeFreeRow g ct lc ad x1 = some r) {o : am_O} (ho : am_oi r.1 = o) :
    am_M (am_kk l D dA) y_V_makeFreeRow ws_V_makeFreeRow (am_rm 5 o) [.ref 0, .int x1] (hC g.1 g.2.1 g.2.2.1 li g.2.2.2.1 g.2.2.2.2.1 g.2.2.2.2.2.1 su g.2.2.2.2.2.2.1 g.2.2.2.2.2.2.2.1 g.2.2.2.2.2.2.2.2.1 g.2.2.2.2.2.2.2.2.2 ct lc ad ctb lcb adb fx us ln pt tx br rw rest) o (hC r.2.1.1 r.2.1.2.1 r.2.1.2.2.1 li r.2.1.2.2.2.1 r.2.1.2.2.2.2.1 r.2.1.2.2.2.2.2.1 su r.2.1.2.2.2.2.2.2.1 r.2.1.2.2.2.2.2.2.2.1 r.2.1.2.2.2.2.2.2.2.2.1 r.2.1.2.2.2.2.2.2.2.2.2 r.2.2.1 r.2.2.2.1 r.2.2.2.2 ctb lcb adb fx us ln pt tx br rw rest) := by
  subst ho
  refine am_body (by decide) rfl (Nat.le_of_ble_eq_true rfl) rfl ?_
  rw [f_V_makeFreeRow] at hf
  refine g_iconst (n := 1) (v := 0) d_V_makeFreeRow_0 rfl (by decide) ?_
  refine g_istore_n (n := 2) (ls' := [(2, .int 0), (0, .ref 0), (1, .int x1)]) d_V_makeFreeRow_1 rfl rfl (am_ltb rfl) rfl ?_
  refine g_ls [1, 2, 0] rfl ?_
  exact s_V_makeFreeRow_L2 htr 100000000000 g ct lc ad x1 0 _ hf _ rfl
def f_Name_sum_L4 : Nat → (Nat → Int32) → Int32 → Int32 → Option (Int32)
  | 0, _, _, _ => none
  | fuel + 1, br, x1, x2 =>
  (if 6 ≤ x2 then some x1 else (if am_in x2 6 = true then ((f_V_addToSum x1 (br x2.toNatClampNeg)).bind fun r3 => f_Name_sum_L4 fuel br r3 (x2 + 1)) else none))
set_option maxHeartbeats 4000000 in
set_option maxRecDepth 100000 in
theorem s_Name_sum_L4 {l : Launch} {D : va_G} {dA : FieldType → ClassId} (htr : l.stackTraces = false) {rest : List am_E} {ll : Int32} {he : Int32} {de : Int32} {li : Nat → Int32} {en : Nat → Int32} {po : Nat → Int32} {pw : Int32} {su : Int32} {wr : Int32} {cs : Int32} {wb : Int32} {bt : Nat → Int32} {ct : Int32} {lc : Int32} {ad : Nat → Int32} {ctb : Int32} {lcb : Int32} {adb : Nat → Int32} {fx : Int32} {us : Nat → Int32} {ln : Int32} {pt : Int32} {tx : Nat → Int32} {rw : Nat → Int32}  : ∀ (fuel : Nat) (br : Nat → Int32) (x1 : Int32) (x2 : Int32) (r : Int32), f_Name_sum_L4 fuel br x1 x2 = some r → ∀ o : am_O, .inl (some (.int r)) = o →
    am_G (am_kk l D dA) (ws_Name_sum, y_Name_sum.cls, prog_4_method_8_code, 3, (some .int), y_Name_sum.name, [], am_rm 1 (o), none) o (hC ll he de li en po pw su wr cs wb bt ct lc ad ctb lcb adb fx us ln pt tx br rw rest) 0 0 4 [(0, .ref 14), (1, .int x1), (2, .int x2)] [] (hC ll he de li en po pw su wr cs wb bt ct lc ad ctb lcb adb fx us ln pt tx br rw rest) := by
  intro fuel
  induction fuel with
  | zero =>
    intro br x1 x2 r hf
    cases hf
  | succ fuel ih =>
    intro br x1 x2 r hf o ho
    subst ho
    rw [f_Name_sum_L4] at hf
    refine g_iload_n (n := 5) d_Name_sum_4 rfl 2 rfl rfl ?_
    refine g_bipush (n := 7) (v := 6) d_Name_sum_5 rfl (by decide) ?_
    refine g_icmp_ge (n := 10) (tgt := 27) d_Name_sum_7 rfl (by decide) (fun q1 => ?_) (fun q1 => ?_)
    · have hf := ob_pos q1 hf
      refine g_iload_n (n := 28) d_Name_sum_27 rfl 1 rfl rfl ?_
      cases hf
      exact g_iret d_Name_sum_28 rfl (Nat.zero_le _) (Nat.zero_le _)
    · have hf := ob_neg q1 hf
      refine g_iload_n (n := 11) d_Name_sum_10 rfl 1 rfl rfl ?_
      refine g_aload_n (n := 12) d_Name_sum_11 rfl 0 rfl rfl ?_
      refine g_get (n := 15) (q0 := 14) d_Name_sum_12 rfl (am_fl in_Name rfl (by decide : 1 < 4)) (List.mem_cons_of_mem _ tw_158) rfl rfl ?_
      refine g_iload_n (n := 16) d_Name_sum_15 rfl 2 rfl rfl ?_
      obtain ⟨b2, hf⟩ := ob_chk hf
      refine g_iald (n := 17) (q0 := 16) d_Name_sum_16 rfl rfl (am_inl b2) ?_
      obtain ⟨r3, h4, hf⟩ := ob_bind hf
      refine c_SNr (n := 20) (st' := [.int r3]) [.int x1, .int (br x2.toNatClampNeg)] [] d_Name_sum_17 rfl (s_V_addToSum htr h4 rfl) nw_578 tw_460 tw_1 tw_461 hd_V_addToSum (by omega) (by decide) rfl (Nat.le_of_ble_eq_true rfl) rfl rfl ?_
      refine g_istore_n (n := 21) (ls' := [(1, .int r3), (0, .ref 14), (2, .int x2)]) d_Name_sum_20 rfl rfl (am_ltb rfl) rfl ?_
      refine g_iinc (n := 24) (v := (x2 + 1)) (ls' := [(2, .int (x2 + 1)), (1, .int r3), (0, .ref 14)]) d_Name_sum_21 rfl 2 rfl rfl (am_ltb rfl) rfl ?_
      refine g_goto (n := 4) d_Name_sum_24 (by decide) ?_
      refine g_ls [2, 1, 0] rfl ?_
      exact ih br r3 (x2 + 1) _ hf _ rfl
def f_Name_sum (br : Nat → Int32) : Option (Int32) :=
  f_Name_sum_L4 100000000000 br 0 0
set_option maxHeartbeats 4000000 in
set_option maxRecDepth 100000 in
theorem s_Name_sum {l : Launch} {D : va_G} {dA : FieldType → ClassId} (htr : l.stackTraces = false) {rest : List am_E} {ll : Int32} {he : Int32} {de : Int32} {li : Nat → Int32} {en : Nat → Int32} {po : Nat → Int32} {pw : Int32} {su : Int32} {wr : Int32} {cs : Int32} {wb : Int32} {bt : Nat → Int32} {ct : Int32} {lc : Int32} {ad : Nat → Int32} {ctb : Int32} {lcb : Int32} {adb : Nat → Int32} {fx : Int32} {us : Nat → Int32} {ln : Int32} {pt : Int32} {tx : Nat → Int32} {br : Nat → Int32} {rw : Nat → Int32}   {r : Int32} (hf : f_Name_sum br = some r) {o : am_O} (ho : .inl (some (.int r)) = o) :
    am_M (am_kk l D dA) y_Name_sum ws_Name_sum (am_rm 1 o) [.ref 14] (hC ll he de li en po pw su wr cs wb bt ct lc ad ctb lcb adb fx us ln pt tx br rw rest) o (hC ll he de li en po pw su wr cs wb bt ct lc ad ctb lcb adb fx us ln pt tx br rw rest) := by
  subst ho
  refine am_body (by decide) rfl (Nat.le_of_ble_eq_true rfl) rfl ?_
  rw [f_Name_sum] at hf
  refine g_iconst (n := 1) (v := 0) d_Name_sum_0 rfl (by decide) ?_
  refine g_istore_n (n := 2) (ls' := [(1, .int 0), (0, .ref 14)]) d_Name_sum_1 rfl rfl (am_ltb rfl) rfl ?_
  refine g_iconst (n := 3) (v := 0) d_Name_sum_2 rfl (by decide) ?_
  refine g_istore_n (n := 4) (ls' := [(2, .int 0), (1, .int 0), (0, .ref 14)]) d_Name_sum_3 rfl rfl (am_ltb rfl) rfl ?_
  refine g_ls [2, 1, 0] rfl ?_
  exact s_Name_sum_L4 htr 100000000000 br 0 0 _ hf _ rfl
def f_Name_fillPart_L43 : Nat → Int32 → Int32 → (Nat → Int32) → (Nat → Int32) → (Nat → Int32) → Int32 → Int32 → Option ((Nat → Int32))
  | 0, _, _, _, _, _, _, _ => none
  | fuel + 1, ln, pt, tx, br, rw, x1, x3 =>
  (if 13 ≤ x3 then some rw else ((f_V_placeInPart x3).bind fun r6 => ((f_Name_charAt ln tx (((x1 - 1) * 13) + x3)).bind fun r8 => (if am_in r6 16 = true then f_Name_fillPart_L43 fuel ln pt tx br (upd rw r6.toNatClampNeg r8) x1 (x3 + 1) else none))))
set_option maxHeartbeats 4000000 in
set_option maxRecDepth 100000 in
theorem s_Name_fillPart_L43 {l : Launch} {D : va_G} {dA : FieldType → ClassId} (htr : l.stackTraces = false) {rest : List am_E} {ll : Int32} {he : Int32} {de : Int32} {li : Nat → Int32} {en : Nat → Int32} {po : Nat → Int32} {pw : Int32} {su : Int32} {wr : Int32} {cs : Int32} {wb : Int32} {bt : Nat → Int32} {ct : Int32} {lc : Int32} {ad : Nat → Int32} {ctb : Int32} {lcb : Int32} {adb : Nat → Int32} {fx : Int32} {us : Nat → Int32}  : ∀ (fuel : Nat) (ln : Int32) (pt : Int32) (tx : Nat → Int32) (br : Nat → Int32) (rw : Nat → Int32) (x1 : Int32) (x3 : Int32) (r : (Nat → Int32)), f_Name_fillPart_L43 fuel ln pt tx br rw x1 x3 = some r → ∀ o : am_O, .inl none = o →
    am_G (am_kk l D dA) (ws_Name_fillPart, y_Name_fillPart.cls, prog_4_method_9_code, 4, none, y_Name_fillPart.name, [], am_rm 2 (o), none) o (hC ll he de li en po pw su wr cs wb bt ct lc ad ctb lcb adb fx us ln pt tx br r rest) 0 0 43 [(0, .ref 14), (1, .int x1), (2, .ref 17), (3, .int x3)] [] (hC ll he de li en po pw su wr cs wb bt ct lc ad ctb lcb adb fx us ln pt tx br rw rest) := by
  intro fuel
  induction fuel with
  | zero =>
    intro ln pt tx br rw x1 x3 r hf
    cases hf
  | succ fuel ih =>
    intro ln pt tx br rw x1 x3 r hf o ho
    subst ho
    rw [f_Name_fillPart_L43] at hf
    refine g_iload_n (n := 44) d_Name_fillPart_43 rfl 3 rfl rfl ?_
    refine g_bipush (n := 46) (v := 13) d_Name_fillPart_44 rfl (by decide) ?_
    refine g_icmp_ge (n := 49) (tgt := 73) d_Name_fillPart_46 rfl (by decide) (fun q5 => ?_) (fun q5 => ?_)
    · have hf := ob_pos q5 hf
      cases hf
      exact g_vret d_Name_fillPart_73 rfl (Nat.zero_le _) (Nat.zero_le _)
    · have hf := ob_neg q5 hf
      refine g_aload_n (n := 50) d_Name_fillPart_49 rfl 2 rfl rfl ?_
      refine g_iload_n (n := 51) d_Name_fillPart_50 rfl 3 rfl rfl ?_
      obtain ⟨r6, h7, hf⟩ := ob_bind hf
      refine c_SNr (n := 54) (st' := [.int r6, .ref 17]) [.int x3] [.ref 17] d_Name_fillPart_51 rfl (s_V_placeInPart htr h7 rfl) nw_579 tw_479 tw_1 tw_480 hd_V_placeInPart (by omega) (by decide) rfl (Nat.le_of_ble_eq_true rfl) rfl rfl ?_
      refine g_aload_n (n := 55) d_Name_fillPart_54 rfl 0 rfl rfl ?_
      refine g_iload_n (n := 56) d_Name_fillPart_55 rfl 1 rfl rfl ?_
      refine g_iconst (n := 57) (v := 1) d_Name_fillPart_56 rfl (by decide) ?_
      refine g_isub (n := 58) d_Name_fillPart_57 rfl ?_
      refine g_bipush (n := 60) (v := 13) d_Name_fillPart_58 rfl (by decide) ?_
      refine g_imul (n := 61) d_Name_fillPart_60 rfl ?_
      refine g_iload_n (n := 62) d_Name_fillPart_61 rfl 3 rfl rfl ?_
      refine g_iadd (n := 63) d_Name_fillPart_62 rfl ?_
      obtain ⟨r8, h9, hf⟩ := ob_bind hf
      refine c_Vr (n := 66) (st' := [.int r8, .int r6, .ref 17]) [.int (((x1 - 1) * 13) + x3)] [.int r6, .ref 17] d_Name_fillPart_63 rfl (s_Name_charAt htr h9 rfl) tw_387 tw_388 tw_389 tw_7 tw_390 hd_Name_charAt (by omega) (by decide) (ci := 2) rfl rfl rfl (Nat.le_of_ble_eq_true rfl) rfl rfl ?_
      obtain ⟨b10, hf⟩ := ob_chk hf
      refine g_iast (n := 67) (q0 := 17) (h' := (hC ll he de li en po pw su wr cs wb bt ct lc ad ctb lcb adb fx us ln pt tx br (upd rw r6.toNatClampNeg r8) rest)) d_Name_fillPart_66 rfl rfl (am_inl b10) rfl ?_
      refine g_iinc (n := 70) (v := (x3 + 1)) (ls' := [(3, .int (x3 + 1)), (0, .ref 14), (1, .int x1), (2, .ref 17)]) d_Name_fillPart_67 rfl 3 rfl rfl (am_ltb rfl) rfl ?_
      refine g_goto (n := 43) d_Name_fillPart_70 (by decide) ?_
      refine g_ls [1, 2, 3, 0] rfl ?_
      exact ih ln pt tx br (upd rw r6.toNatClampNeg r8) x1 (x3 + 1) _ hf _ rfl
