def f_Name_fillPart (ln : Int32) (pt : Int32) (tx : Nat → Int32) (br : Nat → Int32) (rw : Nat → Int32) (x1 : Int32) : Option ((Nat → Int32)) :=
  (if x1 = pt then ((f_Name_sum br).bind fun r11 => f_Name_fillPart_L43 100000000000 ln pt tx br (upd (upd (upd rw (0 : Int32).toNatClampNeg (x1 + 64)) (6 : Int32).toNatClampNeg 15) (7 : Int32).toNatClampNeg r11) x1 0) else ((f_Name_sum br).bind fun r3 => f_Name_fillPart_L43 100000000000 ln pt tx br (upd (upd (upd rw (0 : Int32).toNatClampNeg x1) (6 : Int32).toNatClampNeg 15) (7 : Int32).toNatClampNeg r3) x1 0))
set_option maxHeartbeats 4000000 in
set_option maxRecDepth 100000 in
theorem s_Name_fillPart {l : Launch} {D : va_G} {dA : FieldType → ClassId} (htr : l.stackTraces = false) {rest : List am_E} {ll : Int32} {he : Int32} {de : Int32} {li : Nat → Int32} {en : Nat → Int32} {po : Nat → Int32} {pw : Int32} {su : Int32} {wr : Int32} {cs : Int32} {wb : Int32} {bt : Nat → Int32} {ct : Int32} {lc : Int32} {ad : Nat → Int32} {ctb : Int32} {lcb : Int32} {adb : Nat → Int32} {fx : Int32} {us : Nat → Int32} {ln : Int32} {pt : Int32} {tx : Nat → Int32} {br : Nat → Int32} {rw : Nat → Int32}  {x1 : Int32} {r : (Nat → Int32)} (hf : f_Name_fillPart ln pt tx br rw x1 = some r) {o : am_O} (ho : .inl none = o) :
    am_M (am_kk l D dA) y_Name_fillPart ws_Name_fillPart (am_rm 2 o) [.ref 14, .int x1, .ref 17] (hC ll he de li en po pw su wr cs wb bt ct lc ad ctb lcb adb fx us ln pt tx br rw rest) o (hC ll he de li en po pw su wr cs wb bt ct lc ad ctb lcb adb fx us ln pt tx br r rest) := by
  subst ho
  refine am_body (by decide) rfl (Nat.le_of_ble_eq_true rfl) rfl ?_
  rw [f_Name_fillPart] at hf
  refine g_aload_n (n := 1) d_Name_fillPart_0 rfl 2 rfl rfl ?_
  refine g_ialen (n := 2) (q0 := 17) (v := 16) d_Name_fillPart_1 rfl rfl (by decide) ?_
  refine g_bipush (n := 4) (v := 16) d_Name_fillPart_2 rfl (by decide) ?_
  refine g_icmp_ge (n := 7) (tgt := 8) d_Name_fillPart_4 rfl (by decide) (fun _ => ?_) (fun q1 => absurd q1 (by decide))
  refine g_aload_n (n := 9) d_Name_fillPart_8 rfl 2 rfl rfl ?_
  refine g_iconst (n := 10) (v := 0) d_Name_fillPart_9 rfl (by decide) ?_
  refine g_iload_n (n := 11) d_Name_fillPart_10 rfl 1 rfl rfl ?_
  refine g_aload_n (n := 12) d_Name_fillPart_11 rfl 0 rfl rfl ?_
  refine g_get (n := 15) (q0 := 14) d_Name_fillPart_12 rfl (am_fl in_Name rfl (by decide : 3 < 4)) (List.mem_cons_of_mem _ tw_163) rfl rfl ?_
  refine g_icmp_ne (n := 18) (tgt := 25) d_Name_fillPart_15 rfl (by decide) (fun q2 => ?_) (fun q2 => ?_)
  · have hf := ob_neg q2 hf
    refine g_iload_n (n := 26) d_Name_fillPart_25 rfl 1 rfl rfl ?_
    refine g_iast (n := 27) (q0 := 17) (h' := (hC ll he de li en po pw su wr cs wb bt ct lc ad ctb lcb adb fx us ln pt tx br (upd rw (0 : Int32).toNatClampNeg x1) rest)) d_Name_fillPart_26 rfl rfl (am_inl (by decide)) rfl ?_
    refine g_aload_n (n := 28) d_Name_fillPart_27 rfl 2 rfl rfl ?_
    refine g_bipush (n := 30) (v := 6) d_Name_fillPart_28 rfl (by decide) ?_
    refine g_bipush (n := 32) (v := 15) d_Name_fillPart_30 rfl (by decide) ?_
    refine g_iast (n := 33) (q0 := 17) (h' := (hC ll he de li en po pw su wr cs wb bt ct lc ad ctb lcb adb fx us ln pt tx br (upd (upd rw (0 : Int32).toNatClampNeg x1) (6 : Int32).toNatClampNeg 15) rest)) d_Name_fillPart_32 rfl rfl (am_inl (by decide)) rfl ?_
    refine g_aload_n (n := 34) d_Name_fillPart_33 rfl 2 rfl rfl ?_
    refine g_bipush (n := 36) (v := 7) d_Name_fillPart_34 rfl (by decide) ?_
    refine g_aload_n (n := 37) d_Name_fillPart_36 rfl 0 rfl rfl ?_
    obtain ⟨r3, h4, hf⟩ := ob_bind hf
    refine c_Vr (n := 40) (st' := [.int r3, .int 7, .ref 17]) [] [.int 7, .ref 17] d_Name_fillPart_37 rfl (s_Name_sum htr h4 rfl) tw_574 tw_575 tw_576 tw_7 tw_577 hd_Name_sum (by omega) (by decide) (ci := 2) rfl rfl rfl (Nat.le_of_ble_eq_true rfl) rfl rfl ?_
    refine g_iast (n := 41) (q0 := 17) (h' := (hC ll he de li en po pw su wr cs wb bt ct lc ad ctb lcb adb fx us ln pt tx br (upd (upd (upd rw (0 : Int32).toNatClampNeg x1) (6 : Int32).toNatClampNeg 15) (7 : Int32).toNatClampNeg r3) rest)) d_Name_fillPart_40 rfl rfl (am_inl (by decide)) rfl ?_
    refine g_iconst (n := 42) (v := 0) d_Name_fillPart_41 rfl (by decide) ?_
    refine g_istore_n (n := 43) (ls' := [(3, .int 0), (0, .ref 14), (1, .int x1), (2, .ref 17)]) d_Name_fillPart_42 rfl rfl (am_ltb rfl) rfl ?_
    refine g_ls [1, 2, 3, 0] rfl ?_
    exact s_Name_fillPart_L43 htr 100000000000 ln pt tx br (upd (upd (upd rw (0 : Int32).toNatClampNeg x1) (6 : Int32).toNatClampNeg 15) (7 : Int32).toNatClampNeg r3) x1 0 _ hf _ rfl
  · have hf := ob_pos q2 hf
    refine g_iload_n (n := 19) d_Name_fillPart_18 rfl 1 rfl rfl ?_
    refine g_bipush (n := 21) (v := 64) d_Name_fillPart_19 rfl (by decide) ?_
    refine g_iadd (n := 22) d_Name_fillPart_21 rfl ?_
    refine g_goto (n := 26) d_Name_fillPart_22 (by decide) ?_
    refine g_iast (n := 27) (q0 := 17) (h' := (hC ll he de li en po pw su wr cs wb bt ct lc ad ctb lcb adb fx us ln pt tx br (upd rw (0 : Int32).toNatClampNeg (x1 + 64)) rest)) d_Name_fillPart_26 rfl rfl (am_inl (by decide)) rfl ?_
    refine g_aload_n (n := 28) d_Name_fillPart_27 rfl 2 rfl rfl ?_
    refine g_bipush (n := 30) (v := 6) d_Name_fillPart_28 rfl (by decide) ?_
    refine g_bipush (n := 32) (v := 15) d_Name_fillPart_30 rfl (by decide) ?_
    refine g_iast (n := 33) (q0 := 17) (h' := (hC ll he de li en po pw su wr cs wb bt ct lc ad ctb lcb adb fx us ln pt tx br (upd (upd rw (0 : Int32).toNatClampNeg (x1 + 64)) (6 : Int32).toNatClampNeg 15) rest)) d_Name_fillPart_32 rfl rfl (am_inl (by decide)) rfl ?_
    refine g_aload_n (n := 34) d_Name_fillPart_33 rfl 2 rfl rfl ?_
    refine g_bipush (n := 36) (v := 7) d_Name_fillPart_34 rfl (by decide) ?_
    refine g_aload_n (n := 37) d_Name_fillPart_36 rfl 0 rfl rfl ?_
    obtain ⟨r11, h12, hf⟩ := ob_bind hf
    refine c_Vr (n := 40) (st' := [.int r11, .int 7, .ref 17]) [] [.int 7, .ref 17] d_Name_fillPart_37 rfl (s_Name_sum htr h12 rfl) tw_574 tw_575 tw_576 tw_7 tw_577 hd_Name_sum (by omega) (by decide) (ci := 2) rfl rfl rfl (Nat.le_of_ble_eq_true rfl) rfl rfl ?_
    refine g_iast (n := 41) (q0 := 17) (h' := (hC ll he de li en po pw su wr cs wb bt ct lc ad ctb lcb adb fx us ln pt tx br (upd (upd (upd rw (0 : Int32).toNatClampNeg (x1 + 64)) (6 : Int32).toNatClampNeg 15) (7 : Int32).toNatClampNeg r11) rest)) d_Name_fillPart_40 rfl rfl (am_inl (by decide)) rfl ?_
    refine g_iconst (n := 42) (v := 0) d_Name_fillPart_41 rfl (by decide) ?_
    refine g_istore_n (n := 43) (ls' := [(3, .int 0), (0, .ref 14), (1, .int x1), (2, .ref 17)]) d_Name_fillPart_42 rfl rfl (am_ltb rfl) rfl ?_
    refine g_ls [1, 2, 3, 0] rfl ?_
    exact s_Name_fillPart_L43 htr 100000000000 ln pt tx br (upd (upd (upd rw (0 : Int32).toNatClampNeg (x1 + 64)) (6 : Int32).toNatClampNeg 15) (7 : Int32).toNatClampNeg r11) x1 0 _ hf _ rfl
def f_Folder_addressOf (ct : Int32) (ad : Nat → Int32) (x1 : Int32) : Option (Int32) :=
  (if x1 < 0 then some (-1) else (if ct ≤ x1 then some (-1) else (if am_in x1 128 = true then some (ad x1.toNatClampNeg) else none)))
set_option maxHeartbeats 4000000 in
set_option maxRecDepth 100000 in
theorem s_Folder_addressOf {l : Launch} {D : va_G} {dA : FieldType → ClassId} (htr : l.stackTraces = false) {rest : List am_E} {ll : Int32} {he : Int32} {de : Int32} {li : Nat → Int32} {en : Nat → Int32} {po : Nat → Int32} {pw : Int32} {su : Int32} {wr : Int32} {cs : Int32} {wb : Int32} {bt : Nat → Int32} {ct : Int32} {lc : Int32} {ad : Nat → Int32} {ctb : Int32} {lcb : Int32} {adb : Nat → Int32} {fx : Int32} {us : Nat → Int32} {ln : Int32} {pt : Int32} {tx : Nat → Int32} {br : Nat → Int32} {rw : Nat → Int32}  {x1 : Int32} {r : Int32} (hf : f_Folder_addressOf ct ad x1 = some r) {o : am_O} (ho : .inl (some (.int r)) = o) :
    am_M (am_kk l D dA) y_Folder_addressOf ws_Folder_addressOf (am_rm 0 o) [.ref 8, .int x1] (hC ll he de li en po pw su wr cs wb bt ct lc ad ctb lcb adb fx us ln pt tx br rw rest) o (hC ll he de li en po pw su wr cs wb bt ct lc ad ctb lcb adb fx us ln pt tx br rw rest) := by
  subst ho
  refine am_body (by decide) rfl (Nat.le_of_ble_eq_true rfl) rfl ?_
  rw [f_Folder_addressOf] at hf
  refine g_iload_n (n := 1) d_Folder_addressOf_0 rfl 1 rfl rfl ?_
  refine g_if_lt (n := 4) (tgt := 21) d_Folder_addressOf_1 rfl (by decide) (fun q1 => ?_) (fun q1 => ?_)
  · have hf := ob_pos q1 hf
    refine g_iconst (n := 22) (v := (-1)) d_Folder_addressOf_21 rfl (by decide) ?_
    cases hf
    exact g_iret d_Folder_addressOf_22 rfl (Nat.zero_le _) (Nat.zero_le _)
  · have hf := ob_neg q1 hf
    refine g_iload_n (n := 5) d_Folder_addressOf_4 rfl 1 rfl rfl ?_
    refine g_aload_n (n := 6) d_Folder_addressOf_5 rfl 0 rfl rfl ?_
    refine g_get (n := 9) (q0 := 8) d_Folder_addressOf_6 rfl (am_fl in_Folder rfl (by decide : 3 < 5)) (List.mem_cons_of_mem _ tw_112) rfl rfl ?_
    refine g_icmp_ge (n := 12) (tgt := 21) d_Folder_addressOf_9 rfl (by decide) (fun q2 => ?_) (fun q2 => ?_)
    · have hf := ob_pos q2 hf
      refine g_iconst (n := 22) (v := (-1)) d_Folder_addressOf_21 rfl (by decide) ?_
      cases hf
      exact g_iret d_Folder_addressOf_22 rfl (Nat.zero_le _) (Nat.zero_le _)
    · have hf := ob_neg q2 hf
      refine g_aload_n (n := 13) d_Folder_addressOf_12 rfl 0 rfl rfl ?_
      refine g_get (n := 16) (q0 := 8) d_Folder_addressOf_13 rfl (am_fl in_Folder rfl (by decide : 2 < 5)) (List.mem_cons_of_mem _ tw_111) rfl rfl ?_
      refine g_iload_n (n := 17) d_Folder_addressOf_16 rfl 1 rfl rfl ?_
      obtain ⟨b3, hf⟩ := ob_chk hf
      refine g_iald (n := 18) (q0 := 9) d_Folder_addressOf_17 rfl rfl (am_inl b3) ?_
      refine g_goto (n := 22) d_Folder_addressOf_18 (by decide) ?_
      cases hf
      exact g_iret d_Folder_addressOf_22 rfl (Nat.zero_le _) (Nat.zero_le _)
def f_Disk_writeRow_L7 : Nat → am_WS → (Nat → Int32) → Int32 → Int32 → Int32 → Int32 → Option ((String ⊕ Unit) × am_WS)
  | 0, _, _, _, _, _, _ => none
  | fuel + 1, g, rw, x1, x3, x4, x5 =>
  (if x4 ≤ x5 then some (.inr (), g) else (if (x3 + x5) < 0 then f_Disk_writeRow_L7 fuel g rw x1 x3 x4 (x5 + 1) else (if 16 ≤ (x3 + x5) then f_Disk_writeRow_L7 fuel g rw x1 x3 x4 (x5 + 1) else (if am_in (x3 + x5) 16 = true then ((f_Disk_put g.2.2.2.2.2.2.2.2.2 (x1 + x5) (rw (x3 + x5).toNatClampNeg)).bind fun r10 => f_Disk_writeRow_L7 fuel (g.1, g.2.1, g.2.2.1, g.2.2.2.1, g.2.2.2.2.1, g.2.2.2.2.2.1, g.2.2.2.2.2.2.1, g.2.2.2.2.2.2.2.1, g.2.2.2.2.2.2.2.2.1, r10) rw x1 x3 x4 (x5 + 1)) else none))))
set_option maxHeartbeats 4000000 in
set_option maxRecDepth 100000 in
theorem s_Disk_writeRow_L7 {l : Launch} {D : va_G} {dA : FieldType → ClassId} (htr : l.stackTraces = false) {rest : List am_E} {li : Nat → Int32} {su : Int32} {ct : Int32} {lc : Int32} {ad : Nat → Int32} {ctb : Int32} {lcb : Int32} {adb : Nat → Int32} {fx : Int32} {us : Nat → Int32} {ln : Int32} {pt : Int32} {tx : Nat → Int32} {br : Nat → Int32}  : ∀ (fuel : Nat) (g : am_WS) (rw : Nat → Int32) (x1 : Int32) (x3 : Int32) (x4 : Int32) (x5 : Int32) (r : (String ⊕ Unit) × am_WS), f_Disk_writeRow_L7 fuel g rw x1 x3 x4 x5 = some r → ∀ o : am_O, am_ov r.1 = o →
    am_G (am_kk l D dA) (ws_Disk_writeRow, y_Disk_writeRow.cls, prog_2_method_10_code, 7, none, y_Disk_writeRow.name, [], am_rm 2 (o), none) o (hC r.2.1 r.2.2.1 r.2.2.2.1 li r.2.2.2.2.1 r.2.2.2.2.2.1 r.2.2.2.2.2.2.1 su r.2.2.2.2.2.2.2.1 r.2.2.2.2.2.2.2.2.1 r.2.2.2.2.2.2.2.2.2.1 r.2.2.2.2.2.2.2.2.2.2 ct lc ad ctb lcb adb fx us ln pt tx br rw rest) 0 0 7 [(0, .ref 5), (1, .int x1), (2, .ref 17), (3, .int x3), (4, .int x4), (5, .int x5)] [] (hC g.1 g.2.1 g.2.2.1 li g.2.2.2.1 g.2.2.2.2.1 g.2.2.2.2.2.1 su g.2.2.2.2.2.2.1 g.2.2.2.2.2.2.2.1 g.2.2.2.2.2.2.2.2.1 g.2.2.2.2.2.2.2.2.2 ct lc ad ctb lcb adb fx us ln pt tx br rw rest) := by
  intro fuel
  induction fuel with
  | zero =>
    intro g rw x1 x3 x4 x5 r hf
    cases hf
  | succ fuel ih =>
    intro g rw x1 x3 x4 x5 r hf o ho
    subst ho
    rw [f_Disk_writeRow_L7] at hf
    refine g_iload (n := 9) d_Disk_writeRow_7 rfl 5 rfl ?_
    refine g_iload (n := 11) d_Disk_writeRow_9 rfl 4 rfl ?_
    refine g_icmp_ge (n := 14) (tgt := 50) d_Disk_writeRow_11 rfl (by decide) (fun q6 => ?_) (fun q6 => ?_)
    · have hf := ob_pos q6 hf
      cases hf
      exact g_vret d_Disk_writeRow_50 rfl (Nat.zero_le _) (Nat.zero_le _)
    · have hf := ob_neg q6 hf
      refine g_iload_n (n := 15) d_Disk_writeRow_14 rfl 3 rfl rfl ?_
      refine g_iload (n := 17) d_Disk_writeRow_15 rfl 5 rfl ?_
      refine g_iadd (n := 18) d_Disk_writeRow_17 rfl ?_
      refine g_istore (n := 20) (ls' := [(6, .int (x3 + x5)), (0, .ref 5), (1, .int x1), (2, .ref 17), (3, .int x3), (4, .int x4), (5, .int x5)]) d_Disk_writeRow_18 rfl (am_ltb rfl) rfl ?_
      refine g_iload (n := 22) d_Disk_writeRow_20 rfl 0 rfl ?_
      refine g_if_lt (n := 25) (tgt := 44) d_Disk_writeRow_22 rfl (by decide) (fun q7 => ?_) (fun q7 => ?_)
      · have hf := ob_pos q7 hf
        refine g_iinc (n := 47) (v := (x5 + 1)) (ls' := [(5, .int (x5 + 1)), (6, .int (x3 + x5)), (0, .ref 5), (1, .int x1), (2, .ref 17), (3, .int x3), (4, .int x4)]) d_Disk_writeRow_44 rfl 6 rfl rfl (am_ltb rfl) rfl ?_
        refine g_goto (n := 7) d_Disk_writeRow_47 (by decide) ?_
        refine g_ls [2, 3, 4, 5, 6, 0] rfl ?_
        exact ih g rw x1 x3 x4 (x5 + 1) _ hf _ rfl
      · have hf := ob_neg q7 hf
        refine g_iload (n := 27) d_Disk_writeRow_25 rfl 0 rfl ?_
        refine g_aload_n (n := 28) d_Disk_writeRow_27 rfl 3 rfl rfl ?_
        refine g_ialen (n := 29) (q0 := 17) (v := 16) d_Disk_writeRow_28 rfl rfl (by decide) ?_
        refine g_icmp_ge (n := 32) (tgt := 44) d_Disk_writeRow_29 rfl (by decide) (fun q8 => ?_) (fun q8 => ?_)
        · have hf := ob_pos q8 hf
          refine g_iinc (n := 47) (v := (x5 + 1)) (ls' := [(5, .int (x5 + 1)), (6, .int (x3 + x5)), (0, .ref 5), (1, .int x1), (2, .ref 17), (3, .int x3), (4, .int x4)]) d_Disk_writeRow_44 rfl 6 rfl rfl (am_ltb rfl) rfl ?_
          refine g_goto (n := 7) d_Disk_writeRow_47 (by decide) ?_
          refine g_ls [2, 3, 4, 5, 6, 0] rfl ?_
          exact ih g rw x1 x3 x4 (x5 + 1) _ hf _ rfl
        · have hf := ob_neg q8 hf
          refine g_aload_n (n := 33) d_Disk_writeRow_32 rfl 1 rfl rfl ?_
          refine g_iload_n (n := 34) d_Disk_writeRow_33 rfl 2 rfl rfl ?_
          refine g_iload (n := 36) d_Disk_writeRow_34 rfl 6 rfl ?_
          refine g_iadd (n := 37) d_Disk_writeRow_36 rfl ?_
          refine g_aload_n (n := 38) d_Disk_writeRow_37 rfl 3 rfl rfl ?_
          refine g_iload (n := 40) d_Disk_writeRow_38 rfl 0 rfl ?_
          obtain ⟨b9, hf⟩ := ob_chk hf
          refine g_iald (n := 41) (q0 := 17) d_Disk_writeRow_40 rfl rfl (am_inl b9) ?_
          obtain ⟨r10, h11, hf⟩ := ob_bind hf
          refine c_Vr (n := 44) (st' := []) [.int (x1 + x5), .int (rw (x3 + x5).toNatClampNeg)] [] d_Disk_writeRow_41 rfl (s_Disk_put htr h11 rfl) tw_546 tw_270 tw_271 tw_3 tw_272 hd_Disk_put (by omega) (by decide) (ci := 0) rfl rfl rfl (Nat.le_of_ble_eq_true rfl) rfl rfl ?_
          refine g_iinc (n := 47) (v := (x5 + 1)) (ls' := [(5, .int (x5 + 1)), (6, .int (x3 + x5)), (0, .ref 5), (1, .int x1), (2, .ref 17), (3, .int x3), (4, .int x4)]) d_Disk_writeRow_44 rfl 6 rfl rfl (am_ltb rfl) rfl ?_
          refine g_goto (n := 7) d_Disk_writeRow_47 (by decide) ?_
          refine g_ls [2, 3, 4, 5, 6, 0] rfl ?_
          exact ih (g.1, g.2.1, g.2.2.1, g.2.2.2.1, g.2.2.2.2.1, g.2.2.2.2.2.1, g.2.2.2.2.2.2.1, g.2.2.2.2.2.2.2.1, g.2.2.2.2.2.2.2.2.1, r10) rw x1 x3 x4 (x5 + 1) _ hf _ rfl
def f_Disk_writeRow (g : am_WS) (rw : Nat → Int32) (x1 : Int32) (x3 : Int32) (x4 : Int32) : Option ((String ⊕ Unit) × am_WS) :=
  ((f_Disk_countWrite g).bind fun r1 => am_t r1.1 (fun E3 => some (.inl E3, r1.2)) (fun v4 => f_Disk_writeRow_L7 100000000000 r1.2 rw x1 x3 x4 0))
set_option maxHeartbeats 4000000 in
set_option maxRecDepth 100000 in
theorem s_Disk_writeRow {l : Launch} {D : va_G} {dA : FieldType → ClassId} (htr : l.stackTraces = false) {rest : List am_E} {li : Nat → Int32} {su : Int32} {ct : Int32} {lc : Int32} {ad : Nat → Int32} {ctb : Int32} {lcb : Int32} {adb : Nat → Int32} {fx : Int32} {us : Nat → Int32} {ln : Int32} {pt : Int32} {tx : Nat → Int32} {br : Nat → Int32} {rw : Nat → Int32} {g : am_WS} {x1 : Int32} {x3 : Int32} {x4 : Int32} {r : (String ⊕ Unit) × am_WS} (hf : f_Disk_writeRow g rw x1 x3 x4 = some r) {o : am_O} (ho : am_ov r.1 = o) :
    am_M (am_kk l D dA) y_Disk_writeRow ws_Disk_writeRow (am_rm 2 o) [.ref 5, .int x1, .ref 17, .int x3, .int x4] (hC g.1 g.2.1 g.2.2.1 li g.2.2.2.1 g.2.2.2.2.1 g.2.2.2.2.2.1 su g.2.2.2.2.2.2.1 g.2.2.2.2.2.2.2.1 g.2.2.2.2.2.2.2.2.1 g.2.2.2.2.2.2.2.2.2 ct lc ad ctb lcb adb fx us ln pt tx br rw rest) o (hC r.2.1 r.2.2.1 r.2.2.2.1 li r.2.2.2.2.1 r.2.2.2.2.2.1 r.2.2.2.2.2.2.1 su r.2.2.2.2.2.2.2.1 r.2.2.2.2.2.2.2.2.1 r.2.2.2.2.2.2.2.2.2.1 r.2.2.2.2.2.2.2.2.2.2 ct lc ad ctb lcb adb fx us ln pt tx br rw rest) := by
  subst ho
  refine am_body (by decide) rfl (Nat.le_of_ble_eq_true rfl) rfl ?_
  rw [f_Disk_writeRow] at hf
  refine g_aload_n (n := 1) d_Disk_writeRow_0 rfl 0 rfl rfl ?_
  obtain ⟨r1, h2, hf⟩ := ob_bind hf
  rcases ob_t hf with ⟨E3, w5, hf⟩ | ⟨v4, w5, hf⟩
  · cases hf
    refine c_Vx (n := 4) (st' := []) [] [] d_Disk_writeRow_1 rfl (s_Disk_countWrite htr h2 (by rw [w5]; rfl)) tw_538 tw_539 tw_540 tw_3 tw_541 hd_Disk_countWrite (by omega) (by decide) (ci := 0) rfl rfl rfl (Nat.le_of_ble_eq_true rfl) rfl ?_
    exact g_out rfl (Nat.le_refl _) (Nat.le_refl _)
  · refine c_Vr (n := 4) (st' := []) [] [] d_Disk_writeRow_1 rfl (s_Disk_countWrite htr h2 (by rw [w5]; rfl)) tw_538 tw_539 tw_540 tw_3 tw_541 hd_Disk_countWrite (by omega) (by decide) (ci := 0) rfl rfl rfl (Nat.le_of_ble_eq_true rfl) rfl rfl ?_
    refine g_iconst (n := 5) (v := 0) d_Disk_writeRow_4 rfl (by decide) ?_
    refine g_istore (n := 7) (ls' := [(5, .int 0), (0, .ref 5), (1, .int x1), (2, .ref 17), (3, .int x3), (4, .int x4)]) d_Disk_writeRow_5 rfl (am_ltb rfl) rfl ?_
    refine g_ls [1, 2, 3, 4, 5, 0] rfl ?_
    exact s_Disk_writeRow_L7 htr 100000000000 r1.2 rw x1 x3 x4 0 _ hf _ rfl
def f_Name_fillEntry_L11 : Nat → (Nat → Int32) → (Nat → Int32) → Int32 → Int32 → Int32 → Option ((Nat → Int32))
  | 0, _, _, _, _, _ => none
  | fuel + 1, br, rw, x1, x2, x4 =>
  (if 16 ≤ x4 then some (upd (upd rw (6 : Int32).toNatClampNeg x1) (8 : Int32).toNatClampNeg x2) else (if 6 ≤ x4 then (if am_in x4 16 = true then f_Name_fillEntry_L11 fuel br (upd rw x4.toNatClampNeg 0) x1 x2 (x4 + 1) else none) else (if am_in x4 6 = true then (if am_in x4 16 = true then f_Name_fillEntry_L11 fuel br (upd rw x4.toNatClampNeg (br x4.toNatClampNeg)) x1 x2 (x4 + 1) else none) else none)))
set_option maxHeartbeats 4000000 in
set_option maxRecDepth 100000 in
theorem s_Name_fillEntry_L11 {l : Launch} {D : va_G} {dA : FieldType → ClassId} (htr : l.stackTraces = false) {rest : List am_E} {ll : Int32} {he : Int32} {de : Int32} {li : Nat → Int32} {en : Nat → Int32} {po : Nat → Int32} {pw : Int32} {su : Int32} {wr : Int32} {cs : Int32} {wb : Int32} {bt : Nat → Int32} {ct : Int32} {lc : Int32} {ad : Nat → Int32} {ctb : Int32} {lcb : Int32} {adb : Nat → Int32} {fx : Int32} {us : Nat → Int32} {ln : Int32} {pt : Int32} {tx : Nat → Int32}  : ∀ (fuel : Nat) (br : Nat → Int32) (rw : Nat → Int32) (x1 : Int32) (x2 : Int32) (x4 : Int32) (r : (Nat → Int32)), f_Name_fillEntry_L11 fuel br rw x1 x2 x4 = some r → ∀ o : am_O, .inl none = o →
    am_G (am_kk l D dA) (ws_Name_fillEntry, y_Name_fillEntry.cls, prog_4_method_10_code, 5, none, y_Name_fillEntry.name, [], am_rm 0 (o), none) o (hC ll he de li en po pw su wr cs wb bt ct lc ad ctb lcb adb fx us ln pt tx br r rest) 0 0 11 [(0, .ref 14), (1, .int x1), (2, .int x2), (3, .ref 17), (4, .int x4)] [] (hC ll he de li en po pw su wr cs wb bt ct lc ad ctb lcb adb fx us ln pt tx br rw rest) := by
  intro fuel
  induction fuel with
  | zero =>
    intro br rw x1 x2 x4 r hf
    cases hf
  | succ fuel ih =>
    intro br rw x1 x2 x4 r hf o ho
    subst ho
    rw [f_Name_fillEntry_L11] at hf
    refine g_iload (n := 13) d_Name_fillEntry_11 rfl 4 rfl ?_
    refine g_bipush (n := 15) (v := 16) d_Name_fillEntry_13 rfl (by decide) ?_
    refine g_icmp_ge (n := 18) (tgt := 46) d_Name_fillEntry_15 rfl (by decide) (fun q2 => ?_) (fun q2 => ?_)
    · have hf := ob_pos q2 hf
      refine g_aload_n (n := 47) d_Name_fillEntry_46 rfl 3 rfl rfl ?_
      refine g_bipush (n := 49) (v := 6) d_Name_fillEntry_47 rfl (by decide) ?_
      refine g_iload_n (n := 50) d_Name_fillEntry_49 rfl 1 rfl rfl ?_
      refine g_iast (n := 51) (q0 := 17) (h' := (hC ll he de li en po pw su wr cs wb bt ct lc ad ctb lcb adb fx us ln pt tx br (upd rw (6 : Int32).toNatClampNeg x1) rest)) d_Name_fillEntry_50 rfl rfl (am_inl (by decide)) rfl ?_
      refine g_aload_n (n := 52) d_Name_fillEntry_51 rfl 3 rfl rfl ?_
      refine g_bipush (n := 54) (v := 8) d_Name_fillEntry_52 rfl (by decide) ?_
      refine g_iload_n (n := 55) d_Name_fillEntry_54 rfl 2 rfl rfl ?_
      refine g_iast (n := 56) (q0 := 17) (h' := (hC ll he de li en po pw su wr cs wb bt ct lc ad ctb lcb adb fx us ln pt tx br (upd (upd rw (6 : Int32).toNatClampNeg x1) (8 : Int32).toNatClampNeg x2) rest)) d_Name_fillEntry_55 rfl rfl (am_inl (by decide)) rfl ?_
      cases hf
      exact g_vret d_Name_fillEntry_56 rfl (Nat.zero_le _) (Nat.zero_le _)
    · have hf := ob_neg q2 hf
      refine g_aload_n (n := 19) d_Name_fillEntry_18 rfl 3 rfl rfl ?_
      refine g_iload (n := 21) d_Name_fillEntry_19 rfl 4 rfl ?_
      refine g_iload (n := 23) d_Name_fillEntry_21 rfl 4 rfl ?_
      refine g_bipush (n := 25) (v := 6) d_Name_fillEntry_23 rfl (by decide) ?_
      refine g_icmp_ge (n := 28) (tgt := 38) d_Name_fillEntry_25 rfl (by decide) (fun q3 => ?_) (fun q3 => ?_)
      · have hf := ob_pos q3 hf
        refine g_iconst (n := 39) (v := 0) d_Name_fillEntry_38 rfl (by decide) ?_
        obtain ⟨b4, hf⟩ := ob_chk hf
        refine g_iast (n := 40) (q0 := 17) (h' := (hC ll he de li en po pw su wr cs wb bt ct lc ad ctb lcb adb fx us ln pt tx br (upd rw x4.toNatClampNeg 0) rest)) d_Name_fillEntry_39 rfl rfl (am_inl b4) rfl ?_
        refine g_iinc (n := 43) (v := (x4 + 1)) (ls' := [(4, .int (x4 + 1)), (0, .ref 14), (1, .int x1), (2, .int x2), (3, .ref 17)]) d_Name_fillEntry_40 rfl 4 rfl rfl (am_ltb rfl) rfl ?_
        refine g_goto (n := 11) d_Name_fillEntry_43 (by decide) ?_
        refine g_ls [1, 2, 3, 4, 0] rfl ?_
        exact ih br (upd rw x4.toNatClampNeg 0) x1 x2 (x4 + 1) _ hf _ rfl
      · have hf := ob_neg q3 hf
        refine g_aload_n (n := 29) d_Name_fillEntry_28 rfl 0 rfl rfl ?_
        refine g_get (n := 32) (q0 := 14) d_Name_fillEntry_29 rfl (am_fl in_Name rfl (by decide : 1 < 4)) (List.mem_cons_of_mem _ tw_158) rfl rfl ?_
        refine g_iload (n := 34) d_Name_fillEntry_32 rfl 4 rfl ?_
        obtain ⟨b5, hf⟩ := ob_chk hf
        refine g_iald (n := 35) (q0 := 16) d_Name_fillEntry_34 rfl rfl (am_inl b5) ?_
        refine g_goto (n := 39) d_Name_fillEntry_35 (by decide) ?_
        obtain ⟨b6, hf⟩ := ob_chk hf
        refine g_iast (n := 40) (q0 := 17) (h' := (hC ll he de li en po pw su wr cs wb bt ct lc ad ctb lcb adb fx us ln pt tx br (upd rw x4.toNatClampNeg (br x4.toNatClampNeg)) rest)) d_Name_fillEntry_39 rfl rfl (am_inl b6) rfl ?_
        refine g_iinc (n := 43) (v := (x4 + 1)) (ls' := [(4, .int (x4 + 1)), (0, .ref 14), (1, .int x1), (2, .int x2), (3, .ref 17)]) d_Name_fillEntry_40 rfl 4 rfl rfl (am_ltb rfl) rfl ?_
        refine g_goto (n := 11) d_Name_fillEntry_43 (by decide) ?_
        refine g_ls [1, 2, 3, 4, 0] rfl ?_
        exact ih br (upd rw x4.toNatClampNeg (br x4.toNatClampNeg)) x1 x2 (x4 + 1) _ hf _ rfl
def f_Name_fillEntry (br : Nat → Int32) (rw : Nat → Int32) (x1 : Int32) (x2 : Int32) : Option ((Nat → Int32)) :=
  f_Name_fillEntry_L11 100000000000 br rw x1 x2 0
set_option maxHeartbeats 4000000 in
set_option maxRecDepth 100000 in
theorem s_Name_fillEntry {l : Launch} {D : va_G} {dA : FieldType → ClassId} (htr : l.stackTraces = false) {rest : List am_E} {ll : Int32} {he : Int32} {de : Int32} {li : Nat → Int32} {en : Nat → Int32} {po : Nat → Int32} {pw : Int32} {su : Int32} {wr : Int32} {cs : Int32} {wb : Int32} {bt : Nat → Int32} {ct : Int32} {lc : Int32} {ad : Nat → Int32} {ctb : Int32} {lcb : Int32} {adb : Nat → Int32} {fx : Int32} {us : Nat → Int32} {ln : Int32} {pt : Int32} {tx : Nat → Int32} {br : Nat → Int32} {rw : Nat → Int32}  {x1 : Int32} {x2 : Int32} {r : (Nat → Int32)} (hf : f_Name_fillEntry br rw x1 x2 = some r) {o : am_O} (ho : .inl none = o) :
    am_M (am_kk l D dA) y_Name_fillEntry ws_Name_fillEntry (am_rm 0 o) [.ref 14, .int x1, .int x2, .ref 17] (hC ll he de li en po pw su wr cs wb bt ct lc ad ctb lcb adb fx us ln pt tx br rw rest) o (hC ll he de li en po pw su wr cs wb bt ct lc ad ctb lcb adb fx us ln pt tx br r rest) := by
  subst ho
  refine am_body (by decide) rfl (Nat.le_of_ble_eq_true rfl) rfl ?_
  rw [f_Name_fillEntry] at hf
  refine g_aload_n (n := 1) d_Name_fillEntry_0 rfl 3 rfl rfl ?_
  refine g_ialen (n := 2) (q0 := 17) (v := 16) d_Name_fillEntry_1 rfl rfl (by decide) ?_
  refine g_bipush (n := 4) (v := 16) d_Name_fillEntry_2 rfl (by decide) ?_
  refine g_icmp_ge (n := 7) (tgt := 8) d_Name_fillEntry_4 rfl (by decide) (fun _ => ?_) (fun q1 => absurd q1 (by decide))
  refine g_iconst (n := 9) (v := 0) d_Name_fillEntry_8 rfl (by decide) ?_
  refine g_istore (n := 11) (ls' := [(4, .int 0), (0, .ref 14), (1, .int x1), (2, .int x2), (3, .ref 17)]) d_Name_fillEntry_9 rfl (am_ltb rfl) rfl ?_
  refine g_ls [1, 2, 3, 4, 0] rfl ?_
  exact s_Name_fillEntry_L11 htr 100000000000 br rw x1 x2 0 _ hf _ rfl
def f_V_writeEntries_L3 : Nat → am_WS → Int32 → (Nat → Int32) → Int32 → Int32 → (Nat → Int32) → (Nat → Int32) → (Nat → Int32) → Int32 → Int32 → Int32 → Int32 → Option ((String ⊕ Unit) × am_WS × (Nat → Int32))
  | 0, _, _, _, _, _, _, _, _, _, _, _, _ => none
  | fuel + 1, g, ct, ad, ln, pt, tx, br, rw, x1, x2, x3, x4 =>
  (if pt ≤ x4 then ((f_Name_fillEntry br rw x2 x3).bind fun r2 => ((f_Folder_addressOf ct ad (x1 + pt)).bind fun r4 => ((f_Disk_writeRow g r2 r4 0 16).bind fun r6 => am_t r6.1 (fun E8 => some (.inl E8, r6.2, r2)) (fun v9 => some (.inr (), r6.2, r2))))) else ((f_Name_fillPart ln pt tx br rw (pt - x4)).bind fun r11 => ((f_Folder_addressOf ct ad (x1 + x4)).bind fun r13 => ((f_Disk_writeRow g r11 r13 0 16).bind fun r15 => am_t r15.1 (fun E17 => some (.inl E17, r15.2, r11)) (fun v18 => f_V_writeEntries_L3 fuel r15.2 ct ad ln pt tx br r11 x1 x2 x3 (x4 + 1))))))
set_option maxHeartbeats 4000000 in
set_option maxRecDepth 100000 in
theorem s_V_writeEntries_L3 {l : Launch} {D : va_G} {dA : FieldType → ClassId} (htr : l.stackTraces = false) {rest : List am_E} {li : Nat → Int32} {su : Int32} {lc : Int32} {ctb : Int32} {lcb : Int32} {adb : Nat → Int32} {fx : Int32} {us : Nat → Int32}  : ∀ (fuel : Nat) (g : am_WS) (ct : Int32) (ad : Nat → Int32) (ln : Int32) (pt : Int32) (tx : Nat → Int32) (br : Nat → Int32) (rw : Nat → Int32) (x1 : Int32) (x2 : Int32) (x3 : Int32) (x4 : Int32) (r : (String ⊕ Unit) × am_WS × (Nat → Int32)), f_V_writeEntries_L3 fuel g ct ad ln pt tx br rw x1 x2 x3 x4 = some r → ∀ o : am_O, am_ov r.1 = o →
    am_G (am_kk l D dA) (ws_V_writeEntries, y_V_writeEntries.cls, prog_1_method_20_code, 5, none, y_V_writeEntries.name, [], am_rm 3 (o), none) o (hC r.2.1.1 r.2.1.2.1 r.2.1.2.2.1 li r.2.1.2.2.2.1 r.2.1.2.2.2.2.1 r.2.1.2.2.2.2.2.1 su r.2.1.2.2.2.2.2.2.1 r.2.1.2.2.2.2.2.2.2.1 r.2.1.2.2.2.2.2.2.2.2.1 r.2.1.2.2.2.2.2.2.2.2.2 ct lc ad ctb lcb adb fx us ln pt tx br r.2.2 rest) 0 0 3 [(0, .ref 0), (1, .int x1), (2, .int x2), (3, .int x3), (4, .int x4)] [] (hC g.1 g.2.1 g.2.2.1 li g.2.2.2.1 g.2.2.2.2.1 g.2.2.2.2.2.1 su g.2.2.2.2.2.2.1 g.2.2.2.2.2.2.2.1 g.2.2.2.2.2.2.2.2.1 g.2.2.2.2.2.2.2.2.2 ct lc ad ctb lcb adb fx us ln pt tx br rw rest) := by
  intro fuel
  induction fuel with
  | zero =>
    intro g ct ad ln pt tx br rw x1 x2 x3 x4 r hf
    cases hf
  | succ fuel ih =>
    intro g ct ad ln pt tx br rw x1 x2 x3 x4 r hf o ho
    subst ho
    rw [f_V_writeEntries_L3] at hf
    refine g_iload (n := 5) d_V_writeEntries_3 rfl 4 rfl ?_
    refine g_aload_n (n := 6) d_V_writeEntries_5 rfl 0 rfl rfl ?_
    refine g_get (n := 9) (q0 := 0) d_V_writeEntries_6 rfl (am_fl in_V rfl (by decide : 6 < 8)) (List.mem_cons_of_mem _ tw_179) rfl rfl ?_
    refine g_getN (n := 12) (q0 := 14) d_V_writeEntries_9 rfl (am_fl in_Name rfl (by decide : 3 < 4)) nw_162 rfl rfl ?_
    refine g_icmp_ge (n := 15) (tgt := 67) d_V_writeEntries_12 rfl (by decide) (fun q1 => ?_) (fun q1 => ?_)
    · have hf := ob_pos q1 hf
      refine g_aload_n (n := 68) d_V_writeEntries_67 rfl 0 rfl rfl ?_
      refine g_get (n := 71) (q0 := 0) d_V_writeEntries_68 rfl (am_fl in_V rfl (by decide : 6 < 8)) (List.mem_cons_of_mem _ tw_179) rfl rfl ?_
      refine g_iload_n (n := 72) d_V_writeEntries_71 rfl 2 rfl rfl ?_
      refine g_iload_n (n := 73) d_V_writeEntries_72 rfl 3 rfl rfl ?_
      refine g_aload_n (n := 74) d_V_writeEntries_73 rfl 0 rfl rfl ?_
      refine g_get (n := 77) (q0 := 0) d_V_writeEntries_74 rfl (am_fl in_V rfl (by decide : 7 < 8)) (List.mem_cons_of_mem _ tw_180) rfl rfl ?_
      obtain ⟨r2, h3, hf⟩ := ob_bind hf
      refine c_Vr (n := 80) (st' := []) [.int x2, .int x3, .ref 17] [] d_V_writeEntries_77 rfl (s_Name_fillEntry htr h3 rfl) tw_588 tw_589 tw_590 tw_7 tw_591 hd_Name_fillEntry (by omega) (by decide) (ci := 2) rfl rfl rfl (Nat.le_of_ble_eq_true rfl) rfl rfl ?_
      refine g_aload_n (n := 81) d_V_writeEntries_80 rfl 0 rfl rfl ?_
      refine g_get (n := 84) (q0 := 0) d_V_writeEntries_81 rfl (am_fl in_V rfl (by decide : 1 < 8)) (List.mem_cons_of_mem _ tw_174) rfl rfl ?_
      refine g_aload_n (n := 85) d_V_writeEntries_84 rfl 0 rfl rfl ?_
      refine g_get (n := 88) (q0 := 0) d_V_writeEntries_85 rfl (am_fl in_V rfl (by decide : 3 < 8)) (List.mem_cons_of_mem _ tw_176) rfl rfl ?_
      refine g_iload_n (n := 89) d_V_writeEntries_88 rfl 1 rfl rfl ?_
      refine g_aload_n (n := 90) d_V_writeEntries_89 rfl 0 rfl rfl ?_
      refine g_get (n := 93) (q0 := 0) d_V_writeEntries_90 rfl (am_fl in_V rfl (by decide : 6 < 8)) (List.mem_cons_of_mem _ tw_179) rfl rfl ?_
      refine g_getN (n := 96) (q0 := 14) d_V_writeEntries_93 rfl (am_fl in_Name rfl (by decide : 3 < 4)) nw_162 rfl rfl ?_
      refine g_iadd (n := 97) d_V_writeEntries_96 rfl ?_
      obtain ⟨r4, h5, hf⟩ := ob_bind hf
      refine c_Vr (n := 100) (st' := [.int r4, .ref 5]) [.int (x1 + pt)] [.ref 5] d_V_writeEntries_97 rfl (s_Folder_addressOf htr h5 rfl) tw_580 tw_581 tw_582 tw_5 tw_583 hd_Folder_addressOf (by omega) (by decide) (ci := 1) rfl rfl rfl (Nat.le_of_ble_eq_true rfl) rfl rfl ?_
      refine g_aload_n (n := 101) d_V_writeEntries_100 rfl 0 rfl rfl ?_
      refine g_get (n := 104) (q0 := 0) d_V_writeEntries_101 rfl (am_fl in_V rfl (by decide : 7 < 8)) (List.mem_cons_of_mem _ tw_180) rfl rfl ?_
      refine g_iconst (n := 105) (v := 0) d_V_writeEntries_104 rfl (by decide) ?_
      refine g_bipush (n := 107) (v := 16) d_V_writeEntries_105 rfl (by decide) ?_
      obtain ⟨r6, h7, hf⟩ := ob_bind hf
      rcases ob_t hf with ⟨E8, w10, hf⟩ | ⟨v9, w10, hf⟩
      · cases hf
        refine c_Vx (n := 110) (st' := []) [.int r4, .ref 17, .int 0, .int 16] [] d_V_writeEntries_107 rfl (s_Disk_writeRow htr h7 (by rw [w10]; rfl)) tw_584 tw_585 tw_586 tw_3 tw_587 hd_Disk_writeRow (by omega) (by decide) (ci := 0) rfl rfl rfl (Nat.le_of_ble_eq_true rfl) rfl ?_
        exact g_out rfl (Nat.le_refl _) (Nat.le_refl _)
      · refine c_Vr (n := 110) (st' := []) [.int r4, .ref 17, .int 0, .int 16] [] d_V_writeEntries_107 rfl (s_Disk_writeRow htr h7 (by rw [w10]; rfl)) tw_584 tw_585 tw_586 tw_3 tw_587 hd_Disk_writeRow (by omega) (by decide) (ci := 0) rfl rfl rfl (Nat.le_of_ble_eq_true rfl) rfl rfl ?_
        cases hf
        exact g_vret d_V_writeEntries_110 rfl (Nat.zero_le _) (Nat.zero_le _)
    · have hf := ob_neg q1 hf
      refine g_aload_n (n := 16) d_V_writeEntries_15 rfl 0 rfl rfl ?_
      refine g_get (n := 19) (q0 := 0) d_V_writeEntries_16 rfl (am_fl in_V rfl (by decide : 6 < 8)) (List.mem_cons_of_mem _ tw_179) rfl rfl ?_
      refine g_aload_n (n := 20) d_V_writeEntries_19 rfl 0 rfl rfl ?_
      refine g_get (n := 23) (q0 := 0) d_V_writeEntries_20 rfl (am_fl in_V rfl (by decide : 6 < 8)) (List.mem_cons_of_mem _ tw_179) rfl rfl ?_
      refine g_getN (n := 26) (q0 := 14) d_V_writeEntries_23 rfl (am_fl in_Name rfl (by decide : 3 < 4)) nw_162 rfl rfl ?_
      refine g_iload (n := 28) d_V_writeEntries_26 rfl 4 rfl ?_
      refine g_isub (n := 29) d_V_writeEntries_28 rfl ?_
      refine g_aload_n (n := 30) d_V_writeEntries_29 rfl 0 rfl rfl ?_
      refine g_get (n := 33) (q0 := 0) d_V_writeEntries_30 rfl (am_fl in_V rfl (by decide : 7 < 8)) (List.mem_cons_of_mem _ tw_180) rfl rfl ?_
      obtain ⟨r11, h12, hf⟩ := ob_bind hf
      refine c_Vr (n := 36) (st' := []) [.int (pt - x4), .ref 17] [] d_V_writeEntries_33 rfl (s_Name_fillPart htr h12 rfl) tw_570 tw_571 tw_572 tw_7 tw_573 hd_Name_fillPart (by omega) (by decide) (ci := 2) rfl rfl rfl (Nat.le_of_ble_eq_true rfl) rfl rfl ?_
      refine g_aload_n (n := 37) d_V_writeEntries_36 rfl 0 rfl rfl ?_
      refine g_get (n := 40) (q0 := 0) d_V_writeEntries_37 rfl (am_fl in_V rfl (by decide : 1 < 8)) (List.mem_cons_of_mem _ tw_174) rfl rfl ?_
      refine g_aload_n (n := 41) d_V_writeEntries_40 rfl 0 rfl rfl ?_
      refine g_get (n := 44) (q0 := 0) d_V_writeEntries_41 rfl (am_fl in_V rfl (by decide : 3 < 8)) (List.mem_cons_of_mem _ tw_176) rfl rfl ?_
      refine g_iload_n (n := 45) d_V_writeEntries_44 rfl 1 rfl rfl ?_
      refine g_iload (n := 47) d_V_writeEntries_45 rfl 4 rfl ?_
      refine g_iadd (n := 48) d_V_writeEntries_47 rfl ?_
      obtain ⟨r13, h14, hf⟩ := ob_bind hf
      refine c_Vr (n := 51) (st' := [.int r13, .ref 5]) [.int (x1 + x4)] [.ref 5] d_V_writeEntries_48 rfl (s_Folder_addressOf htr h14 rfl) tw_580 tw_581 tw_582 tw_5 tw_583 hd_Folder_addressOf (by omega) (by decide) (ci := 1) rfl rfl rfl (Nat.le_of_ble_eq_true rfl) rfl rfl ?_
      refine g_aload_n (n := 52) d_V_writeEntries_51 rfl 0 rfl rfl ?_
      refine g_get (n := 55) (q0 := 0) d_V_writeEntries_52 rfl (am_fl in_V rfl (by decide : 7 < 8)) (List.mem_cons_of_mem _ tw_180) rfl rfl ?_
      refine g_iconst (n := 56) (v := 0) d_V_writeEntries_55 rfl (by decide) ?_
      refine g_bipush (n := 58) (v := 16) d_V_writeEntries_56 rfl (by decide) ?_
      obtain ⟨r15, h16, hf⟩ := ob_bind hf
      rcases ob_t hf with ⟨E17, w19, hf⟩ | ⟨v18, w19, hf⟩
      · cases hf
        refine c_Vx (n := 61) (st' := []) [.int r13, .ref 17, .int 0, .int 16] [] d_V_writeEntries_58 rfl (s_Disk_writeRow htr h16 (by rw [w19]; rfl)) tw_584 tw_585 tw_586 tw_3 tw_587 hd_Disk_writeRow (by omega) (by decide) (ci := 0) rfl rfl rfl (Nat.le_of_ble_eq_true rfl) rfl ?_
        exact g_out rfl (Nat.le_refl _) (Nat.le_refl _)
      · refine c_Vr (n := 61) (st' := []) [.int r13, .ref 17, .int 0, .int 16] [] d_V_writeEntries_58 rfl (s_Disk_writeRow htr h16 (by rw [w19]; rfl)) tw_584 tw_585 tw_586 tw_3 tw_587 hd_Disk_writeRow (by omega) (by decide) (ci := 0) rfl rfl rfl (Nat.le_of_ble_eq_true rfl) rfl rfl ?_
        refine g_iinc (n := 64) (v := (x4 + 1)) (ls' := [(4, .int (x4 + 1)), (0, .ref 0), (1, .int x1), (2, .int x2), (3, .int x3)]) d_V_writeEntries_61 rfl 4 rfl rfl (am_ltb rfl) rfl ?_
        refine g_goto (n := 3) d_V_writeEntries_64 (by decide) ?_
        refine g_ls [1, 2, 3, 4, 0] rfl ?_
        exact ih r15.2 ct ad ln pt tx br r11 x1 x2 x3 (x4 + 1) _ hf _ rfl
def f_V_writeEntries (g : am_WS) (ct : Int32) (ad : Nat → Int32) (ln : Int32) (pt : Int32) (tx : Nat → Int32) (br : Nat → Int32) (rw : Nat → Int32) (x1 : Int32) (x2 : Int32) (x3 : Int32) : Option ((String ⊕ Unit) × am_WS × (Nat → Int32)) :=
  f_V_writeEntries_L3 100000000000 g ct ad ln pt tx br rw x1 x2 x3 0
set_option maxHeartbeats 4000000 in
set_option maxRecDepth 100000 in
theorem s_V_writeEntries {l : Launch} {D : va_G} {dA : FieldType → ClassId} (htr : l.stackTraces = false) {rest : List am_E} {li : Nat → Int32} {su : Int32} {ct : Int32} {lc : Int32} {ad : Nat → Int32} {ctb : Int32} {lcb : Int32} {adb : Nat → Int32} {fx : Int32} {us : Nat → Int32} {ln : Int32} {pt : Int32} {tx : Nat → Int32} {br : Nat → Int32} {rw : Nat → Int32} {g : am_WS} {x1 : Int32} {x2 : Int32} {x3 : Int32} {r : (String ⊕ Unit) × am_WS × (Nat → Int32)} (hf : f_V_writeEntries g ct ad ln pt tx br rw x1 x2 x3 = some r) {o : am_O} (ho : am_ov r.1 = o) :
    am_M (am_kk l D dA) y_V_writeEntries ws_V_writeEntries (am_rm 3 o) [.ref 0, .int x1, .int x2, .int x3] (hC g.1 g.2.1 g.2.2.1 li g.2.2.2.1 g.2.2.2.2.1 g.2.2.2.2.2.1 su g.2.2.2.2.2.2.1 g.2.2.2.2.2.2.2.1 g.2.2.2.2.2.2.2.2.1 g.2.2.2.2.2.2.2.2.2 ct lc ad ctb lcb adb fx us ln pt tx br rw rest) o (hC r.2.1.1 r.2.1.2.1 r.2.1.2.2.1 li r.2.1.2.2.2.1 r.2.1.2.2.2.2.1 r.2.1.2.2.2.2.2.1 su r.2.1.2.2.2.2.2.2.1 r.2.1.2.2.2.2.2.2.2.1 r.2.1.2.2.2.2.2.2.2.2.1 r.2.1.2.2.2.2.2.2.2.2.2 ct lc ad ctb lcb adb fx us ln pt tx br r.2.2 rest) := by
  subst ho
  refine am_body (by decide) rfl (Nat.le_of_ble_eq_true rfl) rfl ?_
  rw [f_V_writeEntries] at hf
  refine g_iconst (n := 1) (v := 0) d_V_writeEntries_0 rfl (by decide) ?_
  refine g_istore (n := 3) (ls' := [(4, .int 0), (0, .ref 0), (1, .int x1), (2, .int x2), (3, .int x3)]) d_V_writeEntries_1 rfl (am_ltb rfl) rfl ?_
  refine g_ls [1, 2, 3, 4, 0] rfl ?_
  exact s_V_writeEntries_L3 htr 100000000000 g ct ad ln pt tx br rw x1 x2 x3 0 _ hf _ rfl
def f_V_create (g : am_WS) (li : Nat → Int32) (su : Int32) (ct : Int32) (lc : Int32) (ad : Nat → Int32) (ln : Int32) (pt : Int32) (tx : Nat → Int32) (br : Nat → Int32) (rw : Nat → Int32) (x1 : Int32) : Option ((String ⊕ Unit) × am_WS × Int32 × Int32 × (Nat → Int32) × Int32 × Int32 × (Nat → Int32) × (Nat → Int32) × (Nat → Int32)) :=
  ((f_V_demandSoundDisk g.2.2.2.2.2.1 su).bind fun r1 => am_t r1 (fun E3 => some (.inl E3, g, ct, lc, ad, ln, pt, tx, br, rw)) (fun v4 => ((f_Name_takeLineOf g.1 li ln tx).bind fun r6 => ((f_Name_isGood r6.2.1 r6.2.2).bind fun r8 => (if r8 = 0 then some (.inl "java/lang/IllegalArgumentException", (r6.1, g.2.1, g.2.2.1, g.2.2.2.1, g.2.2.2.2.1, g.2.2.2.2.2.1, g.2.2.2.2.2.2.1, g.2.2.2.2.2.2.2.1, g.2.2.2.2.2.2.2.2.1, g.2.2.2.2.2.2.2.2.2), ct, lc, ad, r6.2.1, pt, r6.2.2, br, rw) else (if x1 = 1 then ((f_Folder_load g.2.2.2.2.2.2.2.2.2 ct lc ad g.2.1).bind fun r12 => ((f_Folder_find g.2.2.2.2.2.2.2.2.2 r12.1 r12.2.2 r6.2.1 r6.2.2 0).bind fun r16 => (if r16 = (-1) then ((f_Name_chooseShort g.2.2.2.2.2.2.2.2.2 r12.1 r12.2.2 r6.2.1 pt r6.2.2 br).bind fun r19 => (if r19.1 = 0 then some (.inl "java/lang/UnsupportedOperationException", (r6.1, g.2.1, g.2.2.1, g.2.2.2.1, g.2.2.2.2.1, g.2.2.2.2.2.1, g.2.2.2.2.2.2.1, g.2.2.2.2.2.2.2.1, g.2.2.2.2.2.2.2.2.1, g.2.2.2.2.2.2.2.2.2), r12.1, r12.2.1, r12.2.2, r6.2.1, r19.2.1, r6.2.2, r19.2.2, rw) else ((f_V_makeFreeRow (r6.1, g.2.1, g.2.2.1, g.2.2.2.1, g.2.2.2.2.1, g.2.2.2.2.2.1, g.2.2.2.2.2.2.1, g.2.2.2.2.2.2.2.1, g.2.2.2.2.2.2.2.2.1, g.2.2.2.2.2.2.2.2.2) r12.1 r12.2.1 r12.2.2 (r19.2.1 + 1)).bind fun r24 => am_t r24.1 (fun E26 => some (.inl E26, r24.2.1, r24.2.2.1, r24.2.2.2.1, r24.2.2.2.2, r6.2.1, r19.2.1, r6.2.2, r19.2.2, rw)) (fun v27 => (if v27 = (-1) then some (.inl "java/lang/UnsupportedOperationException", r24.2.1, r24.2.2.1, r24.2.2.2.1, r24.2.2.2.2, r6.2.1, r19.2.1, r6.2.2, r19.2.2, rw) else ((f_V_writeEntries r24.2.1 r24.2.2.1 r24.2.2.2.2 r6.2.1 r19.2.1 r6.2.2 r19.2.2 rw v27 x1 0).bind fun r30 => am_t r30.1 (fun E32 => some (.inl E32, r30.2.1, r24.2.2.1, r24.2.2.2.1, r24.2.2.2.2, r6.2.1, r19.2.1, r6.2.2, r19.2.2, r30.2.2)) (fun v33 => some (.inr (), r30.2.1, r24.2.2.1, r24.2.2.2.1, r24.2.2.2.2, r6.2.1, r19.2.1, r6.2.2, r19.2.2, r30.2.2)))))))) else some (.inl "java/lang/UnsupportedOperationException", (r6.1, g.2.1, g.2.2.1, g.2.2.2.1, g.2.2.2.2.1, g.2.2.2.2.2.1, g.2.2.2.2.2.2.1, g.2.2.2.2.2.2.2.1, g.2.2.2.2.2.2.2.2.1, g.2.2.2.2.2.2.2.2.2), r12.1, r12.2.1, r12.2.2, r6.2.1, pt, r6.2.2, br, rw)))) else (if x1 = 2 then ((f_Folder_load g.2.2.2.2.2.2.2.2.2 ct lc ad g.2.1).bind fun r36 => (if g.2.2.1 < 5 then ((f_Folder_find g.2.2.2.2.2.2.2.2.2 r36.1 r36.2.2 r6.2.1 r6.2.2 0).bind fun r41 => (if r41 = (-1) then ((f_Name_chooseShort g.2.2.2.2.2.2.2.2.2 r36.1 r36.2.2 r6.2.1 pt r6.2.2 br).bind fun r44 => (if r44.1 = 0 then some (.inl "java/lang/UnsupportedOperationException", (r6.1, g.2.1, g.2.2.1, g.2.2.2.1, g.2.2.2.2.1, g.2.2.2.2.2.1, g.2.2.2.2.2.2.1, g.2.2.2.2.2.2.2.1, g.2.2.2.2.2.2.2.2.1, g.2.2.2.2.2.2.2.2.2), r36.1, r36.2.1, r36.2.2, r6.2.1, r44.2.1, r6.2.2, r44.2.2, rw) else ((f_Table_take (r6.1, g.2.1, g.2.2.1, g.2.2.2.1, g.2.2.2.2.1, g.2.2.2.2.2.1, g.2.2.2.2.2.2.1, g.2.2.2.2.2.2.2.1, g.2.2.2.2.2.2.2.2.1, g.2.2.2.2.2.2.2.2.2)).bind fun r48 => am_t r48.1 (fun E50 => some (.inl E50, r48.2, r36.1, r36.2.1, r36.2.2, r6.2.1, r44.2.1, r6.2.2, r44.2.2, rw)) (fun v51 => (if v51 = 0 then some (.inl "java/lang/UnsupportedOperationException", r48.2, r36.1, r36.2.1, r36.2.2, r6.2.1, r44.2.1, r6.2.2, r44.2.2, rw) else ((f_V_makeFreeRow r48.2 r36.1 r36.2.1 r36.2.2 (r44.2.1 + 1)).bind fun r55 => am_t r55.1 (fun E57 => some (.inl E57, r55.2.1, r55.2.2.1, r55.2.2.2.1, r55.2.2.2.2, r6.2.1, r44.2.1, r6.2.2, r44.2.2, rw)) (fun v58 => (if v58 = (-1) then some (.inl "java/lang/UnsupportedOperationException", r55.2.1, r55.2.2.1, r55.2.2.2.1, r55.2.2.2.2, r6.2.1, r44.2.1, r6.2.2, r44.2.2, rw) else ((f_V_writeEntries r55.2.1 r55.2.2.1 r55.2.2.2.2 r6.2.1 r44.2.1 r6.2.2 r44.2.2 rw v58 x1 v51).bind fun r61 => am_t r61.1 (fun E63 => some (.inl E63, r61.2.1, r55.2.2.1, r55.2.2.2.1, r55.2.2.2.2, r6.2.1, r44.2.1, r6.2.2, r44.2.2, r61.2.2)) (fun v64 => some (.inr (), r61.2.1, r55.2.2.1, r55.2.2.2.1, r55.2.2.2.2, r6.2.1, r44.2.1, r6.2.2, r44.2.2, r61.2.2))))))))))) else some (.inl "java/lang/UnsupportedOperationException", (r6.1, g.2.1, g.2.2.1, g.2.2.2.1, g.2.2.2.2.1, g.2.2.2.2.2.1, g.2.2.2.2.2.2.1, g.2.2.2.2.2.2.2.1, g.2.2.2.2.2.2.2.2.1, g.2.2.2.2.2.2.2.2.2), r36.1, r36.2.1, r36.2.2, r6.2.1, pt, r6.2.2, br, rw))) else some (.inl "java/lang/UnsupportedOperationException", (r6.1, g.2.1, g.2.2.1, g.2.2.2.1, g.2.2.2.2.1, g.2.2.2.2.2.1, g.2.2.2.2.2.2.1, g.2.2.2.2.2.2.2.1, g.2.2.2.2.2.2.2.2.1, g.2.2.2.2.2.2.2.2.2), r36.1, r36.2.1, r36.2.2, r6.2.1, pt, r6.2.2, br, rw))) else some (.inl "java/lang/IllegalArgumentException", (r6.1, g.2.1, g.2.2.1, g.2.2.2.1, g.2.2.2.2.1, g.2.2.2.2.2.1, g.2.2.2.2.2.2.1, g.2.2.2.2.2.2.2.1, g.2.2.2.2.2.2.2.2.1, g.2.2.2.2.2.2.2.2.2), ct, lc, ad, r6.2.1, pt, r6.2.2, br, rw))))))))
set_option maxHeartbeats 4000000 in
set_option maxRecDepth 100000 in
theorem s_V_create {l : Launch} {D : va_G} {dA : FieldType → ClassId} (htr : l.stackTraces = false) {rest : List am_E} {li : Nat → Int32} {su : Int32} {ct : Int32} {lc : Int32} {ad : Nat → Int32} {ctb : Int32} {lcb : Int32} {adb : Nat → Int32} {fx : Int32} {us : Nat → Int32} {ln : Int32} {pt : Int32} {tx : Nat → Int32} {br : Nat → Int32} {rw : Nat → Int32} {g : am_WS} {x1 : Int32} {r : (String ⊕ Unit) × am_WS × Int32 × Int32 × (Nat → Int32) × Int32 × Int32 × (Nat → Int32) × (Nat → Int32) × (Nat → Int32)} (hf : f_V_create g li su ct lc ad ln pt tx br rw x1 = some r) {o : am_O} (ho : am_ov r.1 = o) :
    am_M (am_kk l D dA) y_V_create ws_V_create (am_rm 7 o) [.ref 0, .int x1] (hC g.1 g.2.1 g.2.2.1 li g.2.2.2.1 g.2.2.2.2.1 g.2.2.2.2.2.1 su g.2.2.2.2.2.2.1 g.2.2.2.2.2.2.2.1 g.2.2.2.2.2.2.2.2.1 g.2.2.2.2.2.2.2.2.2 ct lc ad ctb lcb adb fx us ln pt tx br rw rest) o (hC r.2.1.1 r.2.1.2.1 r.2.1.2.2.1 li r.2.1.2.2.2.1 r.2.1.2.2.2.2.1 r.2.1.2.2.2.2.2.1 su r.2.1.2.2.2.2.2.2.1 r.2.1.2.2.2.2.2.2.2.1 r.2.1.2.2.2.2.2.2.2.2.1 r.2.1.2.2.2.2.2.2.2.2.2 r.2.2.1 r.2.2.2.1 r.2.2.2.2.1 ctb lcb adb fx us r.2.2.2.2.2.1 r.2.2.2.2.2.2.1 r.2.2.2.2.2.2.2.1 r.2.2.2.2.2.2.2.2.1 r.2.2.2.2.2.2.2.2.2 rest) := by
  subst ho
  refine am_body (by decide) rfl (Nat.le_of_ble_eq_true rfl) rfl ?_
  rw [f_V_create] at hf
  refine g_aload_n (n := 1) d_V_create_0 rfl 0 rfl rfl ?_
  obtain ⟨r1, h2, hf⟩ := ob_bind hf
  rcases ob_t hf with ⟨E3, w5, hf⟩ | ⟨v4, w5, hf⟩
  · cases hf
    refine c_Vx (n := 4) (st' := []) [] [] d_V_create_1 rfl (s_V_demandSoundDisk htr h2 (by rw [w5]; rfl)) tw_305 tw_307 (am_memS 1 (by decide +kernel) (by decide +kernel)) tw_1 tw_308 hd_V_demandSoundDisk (by omega) (by decide) (ci := 6) rfl rfl rfl (Nat.le_of_ble_eq_true rfl) rfl ?_
    exact g_out rfl (Nat.le_refl _) (Nat.le_refl _)
  · refine c_Vr (n := 4) (st' := []) [] [] d_V_create_1 rfl (s_V_demandSoundDisk htr h2 (by rw [w5]; rfl)) tw_305 tw_307 (am_memS 1 (by decide +kernel) (by decide +kernel)) tw_1 tw_308 hd_V_demandSoundDisk (by omega) (by decide) (ci := 6) rfl rfl rfl (Nat.le_of_ble_eq_true rfl) rfl rfl ?_
    refine g_aload_n (n := 5) d_V_create_4 rfl 0 rfl rfl ?_
    refine g_get (n := 8) (q0 := 0) d_V_create_5 rfl (am_fl in_V rfl (by decide : 6 < 8)) (List.mem_cons_of_mem _ tw_179) rfl rfl ?_
    refine g_aload_n (n := 9) d_V_create_8 rfl 0 rfl rfl ?_
    refine g_get (n := 12) (q0 := 0) d_V_create_9 rfl (am_fl in_V rfl (by decide : 0 < 8)) (List.mem_cons_of_mem _ tw_173) rfl rfl ?_
    obtain ⟨r6, h7, hf⟩ := ob_bind hf
    refine c_Vr (n := 15) (st' := []) [.ref 1] [] d_V_create_12 rfl (s_Name_takeLineOf htr h7 rfl) tw_379 tw_380 tw_381 tw_7 tw_382 hd_Name_takeLineOf (by omega) (by decide) (ci := 2) rfl rfl rfl (Nat.le_of_ble_eq_true rfl) rfl rfl ?_
    refine g_aload_n (n := 16) d_V_create_15 rfl 0 rfl rfl ?_
    refine g_get (n := 19) (q0 := 0) d_V_create_16 rfl (am_fl in_V rfl (by decide : 6 < 8)) (List.mem_cons_of_mem _ tw_179) rfl rfl ?_
    obtain ⟨r8, h9, hf⟩ := ob_bind hf
    refine c_Vr (n := 22) (st' := [.int r8]) [] [] d_V_create_19 rfl (s_Name_isGood htr h9 rfl) tw_383 tw_384 tw_385 tw_7 tw_386 hd_Name_isGood (by omega) (by decide) (ci := 2) rfl rfl rfl (Nat.le_of_ble_eq_true rfl) rfl rfl ?_
    refine g_if_eq (n := 25) (tgt := 35) d_V_create_22 rfl (by decide) (fun q10 => ?_) (fun q10 => ?_)
    · have hf := ob_pos q10 hf
      cases hf
      exact c_T htr (by decide +kernel) e_IllegalArgumentException_0 e_IllegalArgumentException_1 e_IllegalArgumentException_2 e_IllegalArgumentException_5 tw_391 tw_13 rfl (List.mem_of_getElem? (i := 1) rfl) at_V_84 d_V_create_35 d_V_create_38 (Or.inl ⟨d_V_create_39, rfl⟩) d_V_create_41 d_V_create_44 (Nat.le_of_ble_eq_true rfl)
    · have hf := ob_neg q10 hf
      refine g_iload_n (n := 26) d_V_create_25 rfl 1 rfl rfl ?_
      refine g_iconst (n := 27) (v := 1) d_V_create_26 rfl (by decide) ?_
      refine g_icmp_eq (n := 30) (tgt := 45) d_V_create_27 rfl (by decide) (fun q11 => ?_) (fun q11 => ?_)
      · have hf := ob_pos q11 hf
        refine g_aload_n (n := 46) d_V_create_45 rfl 0 rfl rfl ?_
        refine g_get (n := 49) (q0 := 0) d_V_create_46 rfl (am_fl in_V rfl (by decide : 3 < 8)) (List.mem_cons_of_mem _ tw_176) rfl rfl ?_
        refine g_aload_n (n := 50) d_V_create_49 rfl 0 rfl rfl ?_
        refine g_get (n := 53) (q0 := 0) d_V_create_50 rfl (am_fl in_V rfl (by decide : 0 < 8)) (List.mem_cons_of_mem _ tw_173) rfl rfl ?_
        refine g_getN (n := 56) (q0 := 1) d_V_create_53 rfl (am_fl in_Ses rfl (by decide : 4 < 6)) nw_45 rfl rfl ?_
        obtain ⟨r12, h13, hf⟩ := ob_bind hf
        refine c_Vr (n := 59) (st' := []) [.int g.2.1] [] d_V_create_56 rfl (s_Folder_load htr h13 rfl) tw_407 tw_408 tw_409 tw_5 tw_410 hd_Folder_load (by omega) (by decide) (ci := 1) rfl rfl rfl (Nat.le_of_ble_eq_true rfl) rfl rfl ?_
        refine g_iload_n (n := 60) d_V_create_59 rfl 1 rfl rfl ?_
        refine g_iconst (n := 61) (v := 2) d_V_create_60 rfl (by decide) ?_
        refine g_icmp_ne (n := 64) (tgt := 79) d_V_create_61 rfl (by decide) (fun _ => ?_) (fun q14 => absurd (q11.symm.trans q14) (by decide))
        refine g_iconst (n := 80) (v := 0) d_V_create_79 rfl (by decide) ?_
        refine g_istore_n (n := 81) (ls' := [(2, .int 0), (0, .ref 0), (1, .int x1)]) d_V_create_80 rfl rfl (am_ltb rfl) rfl ?_
        refine g_iload_n (n := 82) d_V_create_81 rfl 0 rfl rfl ?_
        refine g_if_ne (n := 85) (tgt := 115) d_V_create_82 rfl (by decide) (fun q15 => absurd q15 (by decide)) (fun _ => ?_)
        refine g_aload_n (n := 86) d_V_create_85 rfl 1 rfl rfl ?_
        refine g_get (n := 89) (q0 := 0) d_V_create_86 rfl (am_fl in_V rfl (by decide : 3 < 8)) (List.mem_cons_of_mem _ tw_176) rfl rfl ?_
        refine g_aload_n (n := 90) d_V_create_89 rfl 1 rfl rfl ?_
        refine g_get (n := 93) (q0 := 0) d_V_create_90 rfl (am_fl in_V rfl (by decide : 6 < 8)) (List.mem_cons_of_mem _ tw_179) rfl rfl ?_
        refine g_iconst (n := 94) (v := 0) d_V_create_93 rfl (by decide) ?_
        obtain ⟨r16, h17, hf⟩ := ob_bind hf
        refine c_Vr (n := 97) (st' := [.int r16]) [.ref 14, .int 0] [] d_V_create_94 rfl (s_Folder_find htr h17 rfl) tw_418 tw_419 tw_420 tw_5 tw_421 hd_Folder_find (by omega) (by decide) (ci := 1) rfl rfl rfl (Nat.le_of_ble_eq_true rfl) rfl rfl ?_
        refine g_iconst (n := 98) (v := (-1)) d_V_create_97 rfl (by decide) ?_
        refine g_icmp_ne (n := 101) (tgt := 115) d_V_create_98 rfl (by decide) (fun q18 => ?_) (fun q18 => ?_)
        · have hf := ob_neg q18 hf
          cases hf
          exact c_T htr (by decide +kernel) e_UnsupportedOperationException_0 e_UnsupportedOperationException_1 e_UnsupportedOperationException_2 e_UnsupportedOperationException_5 tw_505 tw_14 rfl (List.mem_of_getElem? (i := 2) rfl) at_V_110 d_V_create_115 d_V_create_118 (Or.inl ⟨d_V_create_119, rfl⟩) d_V_create_121 d_V_create_124 (Nat.le_of_ble_eq_true rfl)
        · have hf := ob_pos q18 hf
          refine g_aload_n (n := 102) d_V_create_101 rfl 1 rfl rfl ?_
          refine g_get (n := 105) (q0 := 0) d_V_create_102 rfl (am_fl in_V rfl (by decide : 6 < 8)) (List.mem_cons_of_mem _ tw_179) rfl rfl ?_
          refine g_aload_n (n := 106) d_V_create_105 rfl 1 rfl rfl ?_
          refine g_get (n := 109) (q0 := 0) d_V_create_106 rfl (am_fl in_V rfl (by decide : 3 < 8)) (List.mem_cons_of_mem _ tw_176) rfl rfl ?_
          obtain ⟨r19, h20, hf⟩ := ob_bind hf
          refine c_Vr (n := 112) (st' := [.int r19.1]) [.ref 8] [] d_V_create_109 rfl (s_Name_chooseShort htr h20 rfl) tw_481 tw_482 tw_483 tw_7 tw_484 hd_Name_chooseShort (by omega) (by decide) (ci := 2) rfl rfl rfl (Nat.le_of_ble_eq_true rfl) rfl rfl ?_
          refine g_if_ne (n := 115) (tgt := 125) d_V_create_112 rfl (by decide) (fun q21 => ?_) (fun q21 => ?_)
          · have hf := ob_neg q21 hf
            refine g_iload_n (n := 126) d_V_create_125 rfl 2 rfl rfl ?_
            refine g_iconst (n := 127) (v := 2) d_V_create_126 rfl (by decide) ?_
            refine g_icmp_ne (n := 130) (tgt := 140) d_V_create_127 rfl (by decide) (fun _ => ?_) (fun q22 => absurd (q11.symm.trans q22) (by decide))
            refine g_iconst (n := 141) (v := 0) d_V_create_140 rfl (by decide) ?_
            refine g_istore_n (n := 142) (ls' := [(3, .int 0), (2, .int 0), (0, .ref 0), (1, .int x1)]) d_V_create_141 rfl rfl (am_ltb rfl) rfl ?_
            refine g_iload_n (n := 143) d_V_create_142 rfl 3 rfl rfl ?_
            refine g_iconst (n := 144) (v := 2) d_V_create_143 rfl (by decide) ?_
            refine g_icmp_ne (n := 147) (tgt := 161) d_V_create_144 rfl (by decide) (fun _ => ?_) (fun q23 => absurd (q11.symm.trans q23) (by decide))
            refine g_aload_n (n := 162) d_V_create_161 rfl 2 rfl rfl ?_
            refine g_aload_n (n := 163) d_V_create_162 rfl 2 rfl rfl ?_
            refine g_get (n := 166) (q0 := 0) d_V_create_163 rfl (am_fl in_V rfl (by decide : 6 < 8)) (List.mem_cons_of_mem _ tw_179) rfl rfl ?_
            refine g_getN (n := 169) (q0 := 14) d_V_create_166 rfl (am_fl in_Name rfl (by decide : 3 < 4)) nw_162 rfl rfl ?_
            refine g_iconst (n := 170) (v := 1) d_V_create_169 rfl (by decide) ?_
            refine g_iadd (n := 171) d_V_create_170 rfl ?_
            obtain ⟨r24, h25, hf⟩ := ob_bind hf
            rcases ob_t hf with ⟨E26, w28, hf⟩ | ⟨v27, w28, hf⟩
            · cases hf
              refine c_Vx (n := 174) (st' := []) [.int (r19.2.1 + 1)] [] d_V_create_171 rfl (s_V_makeFreeRow htr h25 (by rw [w28]; rfl)) tw_553 tw_555 (am_memS 3 (by decide +kernel) (by decide +kernel)) tw_1 tw_556 hd_V_makeFreeRow (by omega) (by decide) (ci := 6) rfl rfl rfl (Nat.le_of_ble_eq_true rfl) rfl ?_
              exact g_out rfl (Nat.le_refl _) (Nat.le_refl _)
            · refine c_Vr (n := 174) (st' := [.int v27]) [.int (r19.2.1 + 1)] [] d_V_create_171 rfl (s_V_makeFreeRow htr h25 (by rw [w28]; rfl)) tw_553 tw_555 (am_memS 3 (by decide +kernel) (by decide +kernel)) tw_1 tw_556 hd_V_makeFreeRow (by omega) (by decide) (ci := 6) rfl rfl rfl (Nat.le_of_ble_eq_true rfl) rfl rfl ?_
              refine g_istore (n := 176) (ls' := [(4, .int v27), (3, .int 0), (2, .int 0), (0, .ref 0), (1, .int x1)]) d_V_create_174 rfl (am_ltb rfl) rfl ?_
              refine g_iload (n := 178) d_V_create_176 rfl 0 rfl ?_
              refine g_iconst (n := 179) (v := (-1)) d_V_create_178 rfl (by decide) ?_
              refine g_icmp_ne (n := 182) (tgt := 192) d_V_create_179 rfl (by decide) (fun q29 => ?_) (fun q29 => ?_)
              · have hf := ob_neg q29 hf
                refine g_aload_n (n := 193) d_V_create_192 rfl 3 rfl rfl ?_
                refine g_iload (n := 195) d_V_create_193 rfl 0 rfl ?_
                refine g_iload_n (n := 196) d_V_create_195 rfl 4 rfl rfl ?_
                refine g_iload_n (n := 197) d_V_create_196 rfl 1 rfl rfl ?_
                obtain ⟨r30, h31, hf⟩ := ob_bind hf
                rcases ob_t hf with ⟨E32, w34, hf⟩ | ⟨v33, w34, hf⟩
                · cases hf
                  refine c_Vx (n := 200) (st' := []) [.int v27, .int x1, .int 0] [] d_V_create_197 rfl (s_V_writeEntries htr h31 (by rw [w34]; rfl)) tw_566 tw_568 (am_memS 4 (by decide +kernel) (by decide +kernel)) tw_1 tw_569 hd_V_writeEntries (by omega) (by decide) (ci := 6) rfl rfl rfl (Nat.le_of_ble_eq_true rfl) rfl ?_
                  exact g_out rfl (Nat.le_refl _) (Nat.le_refl _)
                · refine c_Vr (n := 200) (st' := []) [.int v27, .int x1, .int 0] [] d_V_create_197 rfl (s_V_writeEntries htr h31 (by rw [w34]; rfl)) tw_566 tw_568 (am_memS 4 (by decide +kernel) (by decide +kernel)) tw_1 tw_569 hd_V_writeEntries (by omega) (by decide) (ci := 6) rfl rfl rfl (Nat.le_of_ble_eq_true rfl) rfl rfl ?_
                  cases hf
                  exact g_vret d_V_create_200 rfl (Nat.zero_le _) (Nat.zero_le _)
              · have hf := ob_pos q29 hf
                cases hf
                exact c_T htr (by decide +kernel) e_UnsupportedOperationException_0 e_UnsupportedOperationException_1 e_UnsupportedOperationException_2 e_UnsupportedOperationException_5 tw_505 tw_14 rfl (List.mem_of_getElem? (i := 4) rfl) at_V_110 d_V_create_182 d_V_create_185 (Or.inl ⟨d_V_create_186, rfl⟩) d_V_create_188 d_V_create_191 (Nat.le_of_ble_eq_true rfl)
          · have hf := ob_pos q21 hf
            cases hf
            exact c_T htr (by decide +kernel) e_UnsupportedOperationException_0 e_UnsupportedOperationException_1 e_UnsupportedOperationException_2 e_UnsupportedOperationException_5 tw_505 tw_14 rfl (List.mem_of_getElem? (i := 2) rfl) at_V_110 d_V_create_115 d_V_create_118 (Or.inl ⟨d_V_create_119, rfl⟩) d_V_create_121 d_V_create_124 (Nat.le_of_ble_eq_true rfl)
      · have hf := ob_neg q11 hf
        refine g_iload_n (n := 31) d_V_create_30 rfl 1 rfl rfl ?_
        refine g_iconst (n := 32) (v := 2) d_V_create_31 rfl (by decide) ?_
        refine g_icmp_eq (n := 35) (tgt := 45) d_V_create_32 rfl (by decide) (fun q35 => ?_) (fun q35 => ?_)
        · have hf := ob_pos q35 hf
          refine g_aload_n (n := 46) d_V_create_45 rfl 0 rfl rfl ?_
          refine g_get (n := 49) (q0 := 0) d_V_create_46 rfl (am_fl in_V rfl (by decide : 3 < 8)) (List.mem_cons_of_mem _ tw_176) rfl rfl ?_
          refine g_aload_n (n := 50) d_V_create_49 rfl 0 rfl rfl ?_
          refine g_get (n := 53) (q0 := 0) d_V_create_50 rfl (am_fl in_V rfl (by decide : 0 < 8)) (List.mem_cons_of_mem _ tw_173) rfl rfl ?_
          refine g_getN (n := 56) (q0 := 1) d_V_create_53 rfl (am_fl in_Ses rfl (by decide : 4 < 6)) nw_45 rfl rfl ?_
          obtain ⟨r36, h37, hf⟩ := ob_bind hf
          refine c_Vr (n := 59) (st' := []) [.int g.2.1] [] d_V_create_56 rfl (s_Folder_load htr h37 rfl) tw_407 tw_408 tw_409 tw_5 tw_410 hd_Folder_load (by omega) (by decide) (ci := 1) rfl rfl rfl (Nat.le_of_ble_eq_true rfl) rfl rfl ?_
          refine g_iload_n (n := 60) d_V_create_59 rfl 1 rfl rfl ?_
          refine g_iconst (n := 61) (v := 2) d_V_create_60 rfl (by decide) ?_
          refine g_icmp_ne (n := 64) (tgt := 79) d_V_create_61 rfl (by decide) (fun q38 => absurd q35 q38) (fun _ => ?_)
          refine g_aload_n (n := 65) d_V_create_64 rfl 0 rfl rfl ?_
          refine g_get (n := 68) (q0 := 0) d_V_create_65 rfl (am_fl in_V rfl (by decide : 0 < 8)) (List.mem_cons_of_mem _ tw_173) rfl rfl ?_
          refine g_getN (n := 71) (q0 := 1) d_V_create_68 rfl (am_fl in_Ses rfl (by decide : 5 < 6)) nw_47 rfl rfl ?_
          refine g_iconst (n := 72) (v := 5) d_V_create_71 rfl (by decide) ?_
          refine g_icmp_lt (n := 75) (tgt := 79) d_V_create_72 rfl (by decide) (fun q39 => ?_) (fun q39 => ?_)
          · have hf := ob_pos q39 hf
            refine g_iconst (n := 80) (v := 0) d_V_create_79 rfl (by decide) ?_
            refine g_istore_n (n := 81) (ls' := [(2, .int 0), (0, .ref 0), (1, .int x1)]) d_V_create_80 rfl rfl (am_ltb rfl) rfl ?_
            refine g_iload_n (n := 82) d_V_create_81 rfl 0 rfl rfl ?_
            refine g_if_ne (n := 85) (tgt := 115) d_V_create_82 rfl (by decide) (fun q40 => absurd q40 (by decide)) (fun _ => ?_)
            refine g_aload_n (n := 86) d_V_create_85 rfl 1 rfl rfl ?_
            refine g_get (n := 89) (q0 := 0) d_V_create_86 rfl (am_fl in_V rfl (by decide : 3 < 8)) (List.mem_cons_of_mem _ tw_176) rfl rfl ?_
            refine g_aload_n (n := 90) d_V_create_89 rfl 1 rfl rfl ?_
            refine g_get (n := 93) (q0 := 0) d_V_create_90 rfl (am_fl in_V rfl (by decide : 6 < 8)) (List.mem_cons_of_mem _ tw_179) rfl rfl ?_
            refine g_iconst (n := 94) (v := 0) d_V_create_93 rfl (by decide) ?_
            obtain ⟨r41, h42, hf⟩ := ob_bind hf
            refine c_Vr (n := 97) (st' := [.int r41]) [.ref 14, .int 0] [] d_V_create_94 rfl (s_Folder_find htr h42 rfl) tw_418 tw_419 tw_420 tw_5 tw_421 hd_Folder_find (by omega) (by decide) (ci := 1) rfl rfl rfl (Nat.le_of_ble_eq_true rfl) rfl rfl ?_
            refine g_iconst (n := 98) (v := (-1)) d_V_create_97 rfl (by decide) ?_
            refine g_icmp_ne (n := 101) (tgt := 115) d_V_create_98 rfl (by decide) (fun q43 => ?_) (fun q43 => ?_)
            · have hf := ob_neg q43 hf
              cases hf
              exact c_T htr (by decide +kernel) e_UnsupportedOperationException_0 e_UnsupportedOperationException_1 e_UnsupportedOperationException_2 e_UnsupportedOperationException_5 tw_505 tw_14 rfl (List.mem_of_getElem? (i := 2) rfl) at_V_110 d_V_create_115 d_V_create_118 (Or.inl ⟨d_V_create_119, rfl⟩) d_V_create_121 d_V_create_124 (Nat.le_of_ble_eq_true rfl)
            · have hf := ob_pos q43 hf
              refine g_aload_n (n := 102) d_V_create_101 rfl 1 rfl rfl ?_
              refine g_get (n := 105) (q0 := 0) d_V_create_102 rfl (am_fl in_V rfl (by decide : 6 < 8)) (List.mem_cons_of_mem _ tw_179) rfl rfl ?_
              refine g_aload_n (n := 106) d_V_create_105 rfl 1 rfl rfl ?_
              refine g_get (n := 109) (q0 := 0) d_V_create_106 rfl (am_fl in_V rfl (by decide : 3 < 8)) (List.mem_cons_of_mem _ tw_176) rfl rfl ?_
              obtain ⟨r44, h45, hf⟩ := ob_bind hf
              refine c_Vr (n := 112) (st' := [.int r44.1]) [.ref 8] [] d_V_create_109 rfl (s_Name_chooseShort htr h45 rfl) tw_481 tw_482 tw_483 tw_7 tw_484 hd_Name_chooseShort (by omega) (by decide) (ci := 2) rfl rfl rfl (Nat.le_of_ble_eq_true rfl) rfl rfl ?_
              refine g_if_ne (n := 115) (tgt := 125) d_V_create_112 rfl (by decide) (fun q46 => ?_) (fun q46 => ?_)
              · have hf := ob_neg q46 hf
                refine g_iload_n (n := 126) d_V_create_125 rfl 2 rfl rfl ?_
                refine g_iconst (n := 127) (v := 2) d_V_create_126 rfl (by decide) ?_
                refine g_icmp_ne (n := 130) (tgt := 140) d_V_create_127 rfl (by decide) (fun q47 => absurd q35 q47) (fun _ => ?_)
                refine g_aload_n (n := 131) d_V_create_130 rfl 1 rfl rfl ?_
                refine g_get (n := 134) (q0 := 0) d_V_create_131 rfl (am_fl in_V rfl (by decide : 2 < 8)) (List.mem_cons_of_mem _ tw_175) rfl rfl ?_
                obtain ⟨r48, h49, hf⟩ := ob_bind hf
                rcases ob_t hf with ⟨E50, w52, hf⟩ | ⟨v51, w52, hf⟩
                · cases hf
                  refine c_Vx (n := 137) (st' := []) [] [] d_V_create_134 rfl (s_Table_take htr h49 (by rw [w52]; rfl)) tw_521 tw_522 tw_523 tw_4 tw_524 hd_Table_take (by omega) (by decide) (ci := 5) rfl rfl rfl (Nat.le_of_ble_eq_true rfl) rfl ?_
                  exact g_out rfl (Nat.le_refl _) (Nat.le_refl _)
                · refine c_Vr (n := 137) (st' := [.int v51]) [] [] d_V_create_134 rfl (s_Table_take htr h49 (by rw [w52]; rfl)) tw_521 tw_522 tw_523 tw_4 tw_524 hd_Table_take (by omega) (by decide) (ci := 5) rfl rfl rfl (Nat.le_of_ble_eq_true rfl) rfl rfl ?_
                  refine g_goto (n := 141) d_V_create_137 (by decide) ?_
                  refine g_istore_n (n := 142) (ls' := [(3, .int v51), (2, .int 0), (0, .ref 0), (1, .int x1)]) d_V_create_141 rfl rfl (am_ltb rfl) rfl ?_
                  refine g_iload_n (n := 143) d_V_create_142 rfl 3 rfl rfl ?_
                  refine g_iconst (n := 144) (v := 2) d_V_create_143 rfl (by decide) ?_
                  refine g_icmp_ne (n := 147) (tgt := 161) d_V_create_144 rfl (by decide) (fun q53 => absurd q35 q53) (fun _ => ?_)
                  refine g_iload_n (n := 148) d_V_create_147 rfl 0 rfl rfl ?_
                  refine g_if_ne (n := 151) (tgt := 161) d_V_create_148 rfl (by decide) (fun q54 => ?_) (fun q54 => ?_)
                  · have hf := ob_neg q54 hf
                    refine g_aload_n (n := 162) d_V_create_161 rfl 2 rfl rfl ?_
                    refine g_aload_n (n := 163) d_V_create_162 rfl 2 rfl rfl ?_
                    refine g_get (n := 166) (q0 := 0) d_V_create_163 rfl (am_fl in_V rfl (by decide : 6 < 8)) (List.mem_cons_of_mem _ tw_179) rfl rfl ?_
                    refine g_getN (n := 169) (q0 := 14) d_V_create_166 rfl (am_fl in_Name rfl (by decide : 3 < 4)) nw_162 rfl rfl ?_
                    refine g_iconst (n := 170) (v := 1) d_V_create_169 rfl (by decide) ?_
                    refine g_iadd (n := 171) d_V_create_170 rfl ?_
                    obtain ⟨r55, h56, hf⟩ := ob_bind hf
                    rcases ob_t hf with ⟨E57, w59, hf⟩ | ⟨v58, w59, hf⟩
                    · cases hf
                      refine c_Vx (n := 174) (st' := []) [.int (r44.2.1 + 1)] [] d_V_create_171 rfl (s_V_makeFreeRow htr h56 (by rw [w59]; rfl)) tw_553 tw_555 (am_memS 3 (by decide +kernel) (by decide +kernel)) tw_1 tw_556 hd_V_makeFreeRow (by omega) (by decide) (ci := 6) rfl rfl rfl (Nat.le_of_ble_eq_true rfl) rfl ?_
                      exact g_out rfl (Nat.le_refl _) (Nat.le_refl _)
                    · refine c_Vr (n := 174) (st' := [.int v58]) [.int (r44.2.1 + 1)] [] d_V_create_171 rfl (s_V_makeFreeRow htr h56 (by rw [w59]; rfl)) tw_553 tw_555 (am_memS 3 (by decide +kernel) (by decide +kernel)) tw_1 tw_556 hd_V_makeFreeRow (by omega) (by decide) (ci := 6) rfl rfl rfl (Nat.le_of_ble_eq_true rfl) rfl rfl ?_
                      refine g_istore (n := 176) (ls' := [(4, .int v58), (3, .int v51), (2, .int 0), (0, .ref 0), (1, .int x1)]) d_V_create_174 rfl (am_ltb rfl) rfl ?_
                      refine g_iload (n := 178) d_V_create_176 rfl 0 rfl ?_
                      refine g_iconst (n := 179) (v := (-1)) d_V_create_178 rfl (by decide) ?_
                      refine g_icmp_ne (n := 182) (tgt := 192) d_V_create_179 rfl (by decide) (fun q60 => ?_) (fun q60 => ?_)
                      · have hf := ob_neg q60 hf
                        refine g_aload_n (n := 193) d_V_create_192 rfl 3 rfl rfl ?_
                        refine g_iload (n := 195) d_V_create_193 rfl 0 rfl ?_
                        refine g_iload_n (n := 196) d_V_create_195 rfl 4 rfl rfl ?_
                        refine g_iload_n (n := 197) d_V_create_196 rfl 1 rfl rfl ?_
                        obtain ⟨r61, h62, hf⟩ := ob_bind hf
                        rcases ob_t hf with ⟨E63, w65, hf⟩ | ⟨v64, w65, hf⟩
                        · cases hf
                          refine c_Vx (n := 200) (st' := []) [.int v58, .int x1, .int v51] [] d_V_create_197 rfl (s_V_writeEntries htr h62 (by rw [w65]; rfl)) tw_566 tw_568 (am_memS 4 (by decide +kernel) (by decide +kernel)) tw_1 tw_569 hd_V_writeEntries (by omega) (by decide) (ci := 6) rfl rfl rfl (Nat.le_of_ble_eq_true rfl) rfl ?_
                          exact g_out rfl (Nat.le_refl _) (Nat.le_refl _)
                        · refine c_Vr (n := 200) (st' := []) [.int v58, .int x1, .int v51] [] d_V_create_197 rfl (s_V_writeEntries htr h62 (by rw [w65]; rfl)) tw_566 tw_568 (am_memS 4 (by decide +kernel) (by decide +kernel)) tw_1 tw_569 hd_V_writeEntries (by omega) (by decide) (ci := 6) rfl rfl rfl (Nat.le_of_ble_eq_true rfl) rfl rfl ?_
                          cases hf
                          exact g_vret d_V_create_200 rfl (Nat.zero_le _) (Nat.zero_le _)
                      · have hf := ob_pos q60 hf
                        cases hf
                        exact c_T htr (by decide +kernel) e_UnsupportedOperationException_0 e_UnsupportedOperationException_1 e_UnsupportedOperationException_2 e_UnsupportedOperationException_5 tw_505 tw_14 rfl (List.mem_of_getElem? (i := 4) rfl) at_V_110 d_V_create_182 d_V_create_185 (Or.inl ⟨d_V_create_186, rfl⟩) d_V_create_188 d_V_create_191 (Nat.le_of_ble_eq_true rfl)
                  · have hf := ob_pos q54 hf
                    cases hf
                    exact c_T htr (by decide +kernel) e_UnsupportedOperationException_0 e_UnsupportedOperationException_1 e_UnsupportedOperationException_2 e_UnsupportedOperationException_5 tw_505 tw_14 rfl (List.mem_of_getElem? (i := 4) rfl) at_V_110 d_V_create_151 d_V_create_154 (Or.inl ⟨d_V_create_155, rfl⟩) d_V_create_157 d_V_create_160 (Nat.le_of_ble_eq_true rfl)
              · have hf := ob_pos q46 hf
                cases hf
                exact c_T htr (by decide +kernel) e_UnsupportedOperationException_0 e_UnsupportedOperationException_1 e_UnsupportedOperationException_2 e_UnsupportedOperationException_5 tw_505 tw_14 rfl (List.mem_of_getElem? (i := 2) rfl) at_V_110 d_V_create_115 d_V_create_118 (Or.inl ⟨d_V_create_119, rfl⟩) d_V_create_121 d_V_create_124 (Nat.le_of_ble_eq_true rfl)
          · have hf := ob_neg q39 hf
            refine g_iconst (n := 76) (v := 1) d_V_create_75 rfl (by decide) ?_
            refine g_goto (n := 80) d_V_create_76 (by decide) ?_
            refine g_istore_n (n := 81) (ls' := [(2, .int 1), (0, .ref 0), (1, .int x1)]) d_V_create_80 rfl rfl (am_ltb rfl) rfl ?_
            refine g_iload_n (n := 82) d_V_create_81 rfl 0 rfl rfl ?_
            refine g_if_ne (n := 85) (tgt := 115) d_V_create_82 rfl (by decide) (fun _ => ?_) (fun q66 => absurd q66 (by decide))
            cases hf
            exact c_T htr (by decide +kernel) e_UnsupportedOperationException_0 e_UnsupportedOperationException_1 e_UnsupportedOperationException_2 e_UnsupportedOperationException_5 tw_505 tw_14 rfl (List.mem_of_getElem? (i := 2) rfl) at_V_110 d_V_create_115 d_V_create_118 (Or.inl ⟨d_V_create_119, rfl⟩) d_V_create_121 d_V_create_124 (Nat.le_of_ble_eq_true rfl)
        · have hf := ob_neg q35 hf
          cases hf
          exact c_T htr (by decide +kernel) e_IllegalArgumentException_0 e_IllegalArgumentException_1 e_IllegalArgumentException_2 e_IllegalArgumentException_5 tw_391 tw_13 rfl (List.mem_of_getElem? (i := 1) rfl) at_V_84 d_V_create_35 d_V_create_38 (Or.inl ⟨d_V_create_39, rfl⟩) d_V_create_41 d_V_create_44 (Nat.le_of_ble_eq_true rfl)
