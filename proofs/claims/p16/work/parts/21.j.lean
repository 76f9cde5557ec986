set_option maxHeartbeats 4000000 in
set_option maxRecDepth 100000 in
theorem s_Rep_mendTables_L73 {l : Launch} {D : va_G} {dA : FieldType → ClassId} (htr : l.stackTraces = false) {rest : List am_E} {li : Nat → Int32} {su : Int32} {ct : Int32} {lc : Int32} {ad : Nat → Int32} {ctb : Int32} {lcb : Int32} {adb : Nat → Int32} {ln : Int32} {pt : Int32} {tx : Nat → Int32} {br : Nat → Int32} {rw : Nat → Int32}  : ∀ (fuel : Nat) (g : am_WS) (fx : Int32) (us : Nat → Int32) (x1 : Int32) (r : (String ⊕ Unit) × am_WS × Int32 × (Nat → Int32)), f_Rep_mendTables_L73 fuel g fx us x1 = some r → ∀ o : am_O, am_ov r.1 = o →
    am_G (am_kk l D dA) (ws_Rep_mendTables, y_Rep_mendTables.cls, prog_5_method_2_code, 2, none, y_Rep_mendTables.name, [], am_rm 4 (o), none) o (hC r.2.1.1 r.2.1.2.1 r.2.1.2.2.1 li r.2.1.2.2.2.1 r.2.1.2.2.2.2.1 r.2.1.2.2.2.2.2.1 su r.2.1.2.2.2.2.2.2.1 r.2.1.2.2.2.2.2.2.2.1 r.2.1.2.2.2.2.2.2.2.2.1 r.2.1.2.2.2.2.2.2.2.2.2 ct lc ad ctb lcb adb r.2.2.1 r.2.2.2 ln pt tx br rw rest) 0 0 73 [(0, .ref 12), (1, .int x1)] [] (hC g.1 g.2.1 g.2.2.1 li g.2.2.2.1 g.2.2.2.2.1 g.2.2.2.2.2.1 su g.2.2.2.2.2.2.1 g.2.2.2.2.2.2.2.1 g.2.2.2.2.2.2.2.2.1 g.2.2.2.2.2.2.2.2.2 ct lc ad ctb lcb adb fx us ln pt tx br rw rest) := by
  intro fuel
  induction fuel with
  | zero =>
    intro g fx us x1 r hf
    cases hf
  | succ fuel ih =>
    intro g fx us x1 r hf o ho
    subst ho
    rw [f_Rep_mendTables_L73] at hf
    refine g_iload_n (n := 74) d_Rep_mendTables_73 rfl 1 rfl rfl ?_
    refine g_bipush (n := 76) (v := 64) d_Rep_mendTables_74 rfl (by decide) ?_
    refine g_icmp_ge (n := 79) (tgt := 113) d_Rep_mendTables_76 rfl (by decide) (fun q2 => ?_) (fun q2 => ?_)
    · have hf := ob_pos q2 hf
      cases hf
      exact g_vret d_Rep_mendTables_113 rfl (Nat.zero_le _) (Nat.zero_le _)
    · have hf := ob_neg q2 hf
      refine g_aload_n (n := 80) d_Rep_mendTables_79 rfl 0 rfl rfl ?_
      refine g_iload_n (n := 81) d_Rep_mendTables_80 rfl 1 rfl rfl ?_
      obtain ⟨r3, h4, hf⟩ := ob_bind hf
      refine c_Vr (n := 84) (st' := [.int r3]) [.int x1] [] d_Rep_mendTables_81 rfl (s_Rep_isBad htr h4 rfl) tw_799 tw_800 tw_801 tw_6 tw_802 hd_Rep_isBad (by omega) (by decide) (ci := 3) rfl rfl rfl (Nat.le_of_ble_eq_true rfl) rfl rfl ?_
      refine g_if_eq (n := 87) (tgt := 107) d_Rep_mendTables_84 rfl (by decide) (fun q5 => ?_) (fun q5 => ?_)
      · have hf := ob_pos q5 hf
        refine g_iinc (n := 110) (v := (x1 + 1)) (ls' := [(1, .int (x1 + 1)), (0, .ref 12)]) d_Rep_mendTables_107 rfl 1 rfl rfl (am_ltb rfl) rfl ?_
        refine g_goto (n := 73) d_Rep_mendTables_110 (by decide) ?_
        refine g_ls [1, 0] rfl ?_
        exact ih g fx us (x1 + 1) _ hf _ rfl
      · have hf := ob_neg q5 hf
        refine g_aload_n (n := 88) d_Rep_mendTables_87 rfl 0 rfl rfl ?_
        refine g_get (n := 91) (q0 := 12) d_Rep_mendTables_88 rfl (am_fl in_Rep rfl (by decide : 1 < 5)) (List.mem_cons_of_mem _ tw_134) rfl rfl ?_
        refine g_iload_n (n := 92) d_Rep_mendTables_91 rfl 1 rfl rfl ?_
        refine g_ldc (n := 94) (v := 65535) d_Rep_mendTables_92 rfl (List.mem_cons_of_mem _ tw_804) ?_
        obtain ⟨r6, h7, hf⟩ := ob_bind hf
        rcases ob_t hf with ⟨E8, w10, hf⟩ | ⟨v9, w10, hf⟩
        · cases hf
          refine c_Vx (n := 97) (st' := []) [.int x1, .int 65535] [] d_Rep_mendTables_94 rfl (s_Table_set htr h7 (by rw [w10]; rfl)) tw_805 tw_531 tw_532 tw_4 tw_533 hd_Table_set (by omega) (by decide) (ci := 5) rfl rfl rfl (Nat.le_of_ble_eq_true rfl) rfl ?_
          exact g_out rfl (Nat.le_refl _) (Nat.le_refl _)
        · refine c_Vr (n := 97) (st' := []) [.int x1, .int 65535] [] d_Rep_mendTables_94 rfl (s_Table_set htr h7 (by rw [w10]; rfl)) tw_805 tw_531 tw_532 tw_4 tw_533 hd_Table_set (by omega) (by decide) (ci := 5) rfl rfl rfl (Nat.le_of_ble_eq_true rfl) rfl rfl ?_
          refine g_aload_n (n := 98) d_Rep_mendTables_97 rfl 0 rfl rfl ?_
          refine g_dup (n := 99) d_Rep_mendTables_98 rfl rfl ?_
          refine g_get (n := 102) (q0 := 12) d_Rep_mendTables_99 rfl (am_fl in_Rep rfl (by decide : 4 < 5)) (List.mem_cons_of_mem _ tw_137) rfl rfl ?_
          refine g_iconst (n := 103) (v := 1) d_Rep_mendTables_102 rfl (by decide) ?_
          refine g_iadd (n := 104) d_Rep_mendTables_103 rfl ?_
          refine g_put (n := 107) (q0 := 12) (h' := (hC r6.2.1 r6.2.2.1 r6.2.2.2.1 li r6.2.2.2.2.1 r6.2.2.2.2.2.1 r6.2.2.2.2.2.2.1 su r6.2.2.2.2.2.2.2.1 r6.2.2.2.2.2.2.2.2.1 r6.2.2.2.2.2.2.2.2.2.1 r6.2.2.2.2.2.2.2.2.2.2 ct lc ad ctb lcb adb (fx + 1) us ln pt tx br rw rest)) d_Rep_mendTables_104 rfl (am_fl in_Rep rfl (by decide : 4 < 5)) typ_Rep (List.mem_cons_of_mem _ tw_137) rfl (fun _ _ => rfl) (fun _ _ => rfl) rfl (am_ltb rfl) rfl ?_
          refine g_iinc (n := 110) (v := (x1 + 1)) (ls' := [(1, .int (x1 + 1)), (0, .ref 12)]) d_Rep_mendTables_107 rfl 1 rfl rfl (am_ltb rfl) rfl ?_
          refine g_goto (n := 73) d_Rep_mendTables_110 (by decide) ?_
          refine g_ls [1, 0] rfl ?_
          exact ih r6.2 (fx + 1) us (x1 + 1) _ hf _ rfl
def f_Rep_mendTables_L7 : Nat → am_WS → Int32 → (Nat → Int32) → Int32 → Option ((String ⊕ Unit) × am_WS × Int32 × (Nat → Int32))
  | 0, _, _, _, _ => none
  | fuel + 1, g, fx, us, x1 =>
  (if 64 ≤ x1 then f_Rep_mendTables_L73 100000000000 g fx us 0 else (if am_in x1 64 = true then ((f_Table_secondCell g.2.2.2.2.2.2.2.2.2 x1).bind fun r12 => ((f_Table_cell g.2.2.2.2.2.2.2.2.2 x1).bind fun r14 => (if r12 = r14 then f_Rep_mendTables_L7 fuel g fx (upd us x1.toNatClampNeg (vp_nar .boolean 0)) (x1 + 1) else ((f_Table_cell g.2.2.2.2.2.2.2.2.2 x1).bind fun r17 => ((f_Table_setSecond g x1 r17).bind fun r19 => am_t r19.1 (fun E21 => some (.inl E21, r19.2, fx, (upd us x1.toNatClampNeg (vp_nar .boolean 0)))) (fun v22 => f_Rep_mendTables_L7 fuel r19.2 (fx + 1) (upd us x1.toNatClampNeg (vp_nar .boolean 0)) (x1 + 1))))))) else none))
set_option maxHeartbeats 4000000 in
set_option maxRecDepth 100000 in
theorem s_Rep_mendTables_L7 {l : Launch} {D : va_G} {dA : FieldType → ClassId} (htr : l.stackTraces = false) {rest : List am_E} {li : Nat → Int32} {su : Int32} {ct : Int32} {lc : Int32} {ad : Nat → Int32} {ctb : Int32} {lcb : Int32} {adb : Nat → Int32} {ln : Int32} {pt : Int32} {tx : Nat → Int32} {br : Nat → Int32} {rw : Nat → Int32}  : ∀ (fuel : Nat) (g : am_WS) (fx : Int32) (us : Nat → Int32) (x1 : Int32) (r : (String ⊕ Unit) × am_WS × Int32 × (Nat → Int32)), f_Rep_mendTables_L7 fuel g fx us x1 = some r → ∀ o : am_O, am_ov r.1 = o →
    am_G (am_kk l D dA) (ws_Rep_mendTables, y_Rep_mendTables.cls, prog_5_method_2_code, 2, none, y_Rep_mendTables.name, [], am_rm 4 (o), none) o (hC r.2.1.1 r.2.1.2.1 r.2.1.2.2.1 li r.2.1.2.2.2.1 r.2.1.2.2.2.2.1 r.2.1.2.2.2.2.2.1 su r.2.1.2.2.2.2.2.2.1 r.2.1.2.2.2.2.2.2.2.1 r.2.1.2.2.2.2.2.2.2.2.1 r.2.1.2.2.2.2.2.2.2.2.2 ct lc ad ctb lcb adb r.2.2.1 r.2.2.2 ln pt tx br rw rest) 0 0 7 [(0, .ref 12), (1, .int x1)] [] (hC g.1 g.2.1 g.2.2.1 li g.2.2.2.1 g.2.2.2.2.1 g.2.2.2.2.2.1 su g.2.2.2.2.2.2.1 g.2.2.2.2.2.2.2.1 g.2.2.2.2.2.2.2.2.1 g.2.2.2.2.2.2.2.2.2 ct lc ad ctb lcb adb fx us ln pt tx br rw rest) := by
  intro fuel
  induction fuel with
  | zero =>
    intro g fx us x1 r hf
    cases hf
  | succ fuel ih =>
    intro g fx us x1 r hf o ho
    subst ho
    rw [f_Rep_mendTables_L7] at hf
    refine g_iload_n (n := 8) d_Rep_mendTables_7 rfl 1 rfl rfl ?_
    refine g_bipush (n := 10) (v := 64) d_Rep_mendTables_8 rfl (by decide) ?_
    refine g_icmp_ge (n := 13) (tgt := 71) d_Rep_mendTables_10 rfl (by decide) (fun q1 => ?_) (fun q1 => ?_)
    · have hf := ob_pos q1 hf
      refine g_iconst (n := 72) (v := 0) d_Rep_mendTables_71 rfl (by decide) ?_
      refine g_istore_n (n := 73) (ls' := [(1, .int 0), (0, .ref 12)]) d_Rep_mendTables_72 rfl rfl (am_ltb rfl) rfl ?_
      refine g_ls [1, 0] rfl ?_
      exact s_Rep_mendTables_L73 htr 100000000000 g fx us 0 _ hf _ rfl
    · have hf := ob_neg q1 hf
      refine g_aload_n (n := 14) d_Rep_mendTables_13 rfl 0 rfl rfl ?_
      refine g_get (n := 17) (q0 := 12) d_Rep_mendTables_14 rfl (am_fl in_Rep rfl (by decide : 3 < 5)) (List.mem_cons_of_mem _ tw_136) rfl rfl ?_
      refine g_iload_n (n := 18) d_Rep_mendTables_17 rfl 1 rfl rfl ?_
      refine g_iconst (n := 19) (v := 0) d_Rep_mendTables_18 rfl (by decide) ?_
      obtain ⟨b11, hf⟩ := ob_chk hf
      refine g_zast (n := 20) (q0 := 13) (h' := (hC g.1 g.2.1 g.2.2.1 li g.2.2.2.1 g.2.2.2.2.1 g.2.2.2.2.2.1 su g.2.2.2.2.2.2.1 g.2.2.2.2.2.2.2.1 g.2.2.2.2.2.2.2.2.1 g.2.2.2.2.2.2.2.2.2 ct lc ad ctb lcb adb fx (upd us x1.toNatClampNeg (vp_nar .boolean 0)) ln pt tx br rw rest)) d_Rep_mendTables_19 rfl rfl (am_inl b11) rfl ?_
      refine g_aload_n (n := 21) d_Rep_mendTables_20 rfl 0 rfl rfl ?_
      refine g_get (n := 24) (q0 := 12) d_Rep_mendTables_21 rfl (am_fl in_Rep rfl (by decide : 1 < 5)) (List.mem_cons_of_mem _ tw_134) rfl rfl ?_
      refine g_iload_n (n := 25) d_Rep_mendTables_24 rfl 1 rfl rfl ?_
      obtain ⟨r12, h13, hf⟩ := ob_bind hf
      refine c_Vr (n := 28) (st' := [.int r12]) [.int x1] [] d_Rep_mendTables_25 rfl (s_Table_secondCell htr h13 rfl) tw_790 tw_791 tw_792 tw_4 tw_793 hd_Table_secondCell (by omega) (by decide) (ci := 5) rfl rfl rfl (Nat.le_of_ble_eq_true rfl) rfl rfl ?_
      refine g_aload_n (n := 29) d_Rep_mendTables_28 rfl 0 rfl rfl ?_
      refine g_get (n := 32) (q0 := 12) d_Rep_mendTables_29 rfl (am_fl in_Rep rfl (by decide : 1 < 5)) (List.mem_cons_of_mem _ tw_134) rfl rfl ?_
      refine g_iload_n (n := 33) d_Rep_mendTables_32 rfl 1 rfl rfl ?_
      obtain ⟨r14, h15, hf⟩ := ob_bind hf
      refine c_Vr (n := 36) (st' := [.int r14, .int r12]) [.int x1] [.int r12] d_Rep_mendTables_33 rfl (s_Table_cell htr h15 rfl) tw_794 tw_287 tw_288 tw_4 tw_289 hd_Table_cell (by omega) (by decide) (ci := 5) rfl rfl rfl (Nat.le_of_ble_eq_true rfl) rfl rfl ?_
      refine g_icmp_eq (n := 39) (tgt := 65) d_Rep_mendTables_36 rfl (by decide) (fun q16 => ?_) (fun q16 => ?_)
      · have hf := ob_pos q16 hf
        refine g_iinc (n := 68) (v := (x1 + 1)) (ls' := [(1, .int (x1 + 1)), (0, .ref 12)]) d_Rep_mendTables_65 rfl 1 rfl rfl (am_ltb rfl) rfl ?_
        refine g_goto (n := 7) d_Rep_mendTables_68 (by decide) ?_
        refine g_ls [1, 0] rfl ?_
        exact ih g fx (upd us x1.toNatClampNeg (vp_nar .boolean 0)) (x1 + 1) _ hf _ rfl
      · have hf := ob_neg q16 hf
        refine g_aload_n (n := 40) d_Rep_mendTables_39 rfl 0 rfl rfl ?_
        refine g_get (n := 43) (q0 := 12) d_Rep_mendTables_40 rfl (am_fl in_Rep rfl (by decide : 1 < 5)) (List.mem_cons_of_mem _ tw_134) rfl rfl ?_
        refine g_iload_n (n := 44) d_Rep_mendTables_43 rfl 1 rfl rfl ?_
        refine g_aload_n (n := 45) d_Rep_mendTables_44 rfl 0 rfl rfl ?_
        refine g_get (n := 48) (q0 := 12) d_Rep_mendTables_45 rfl (am_fl in_Rep rfl (by decide : 1 < 5)) (List.mem_cons_of_mem _ tw_134) rfl rfl ?_
        refine g_iload_n (n := 49) d_Rep_mendTables_48 rfl 1 rfl rfl ?_
        obtain ⟨r17, h18, hf⟩ := ob_bind hf
        refine c_Vr (n := 52) (st' := [.int r17, .int x1, .ref 7]) [.int x1] [.int x1, .ref 7] d_Rep_mendTables_49 rfl (s_Table_cell htr h18 rfl) tw_794 tw_287 tw_288 tw_4 tw_289 hd_Table_cell (by omega) (by decide) (ci := 5) rfl rfl rfl (Nat.le_of_ble_eq_true rfl) rfl rfl ?_
        obtain ⟨r19, h20, hf⟩ := ob_bind hf
        rcases ob_t hf with ⟨E21, w23, hf⟩ | ⟨v22, w23, hf⟩
        · cases hf
          refine c_Vx (n := 55) (st' := []) [.int x1, .int r17] [] d_Rep_mendTables_52 rfl (s_Table_setSecond htr h20 (by rw [w23]; rfl)) tw_795 tw_796 tw_797 tw_4 tw_798 hd_Table_setSecond (by omega) (by decide) (ci := 5) rfl rfl rfl (Nat.le_of_ble_eq_true rfl) rfl ?_
          exact g_out rfl (Nat.le_refl _) (Nat.le_refl _)
        · refine c_Vr (n := 55) (st' := []) [.int x1, .int r17] [] d_Rep_mendTables_52 rfl (s_Table_setSecond htr h20 (by rw [w23]; rfl)) tw_795 tw_796 tw_797 tw_4 tw_798 hd_Table_setSecond (by omega) (by decide) (ci := 5) rfl rfl rfl (Nat.le_of_ble_eq_true rfl) rfl rfl ?_
          refine g_aload_n (n := 56) d_Rep_mendTables_55 rfl 0 rfl rfl ?_
          refine g_dup (n := 57) d_Rep_mendTables_56 rfl rfl ?_
          refine g_get (n := 60) (q0 := 12) d_Rep_mendTables_57 rfl (am_fl in_Rep rfl (by decide : 4 < 5)) (List.mem_cons_of_mem _ tw_137) rfl rfl ?_
          refine g_iconst (n := 61) (v := 1) d_Rep_mendTables_60 rfl (by decide) ?_
          refine g_iadd (n := 62) d_Rep_mendTables_61 rfl ?_
          refine g_put (n := 65) (q0 := 12) (h' := (hC r19.2.1 r19.2.2.1 r19.2.2.2.1 li r19.2.2.2.2.1 r19.2.2.2.2.2.1 r19.2.2.2.2.2.2.1 su r19.2.2.2.2.2.2.2.1 r19.2.2.2.2.2.2.2.2.1 r19.2.2.2.2.2.2.2.2.2.1 r19.2.2.2.2.2.2.2.2.2.2 ct lc ad ctb lcb adb (fx + 1) (upd us x1.toNatClampNeg (vp_nar .boolean 0)) ln pt tx br rw rest)) d_Rep_mendTables_62 rfl (am_fl in_Rep rfl (by decide : 4 < 5)) typ_Rep (List.mem_cons_of_mem _ tw_137) rfl (fun _ _ => rfl) (fun _ _ => rfl) rfl (am_ltb rfl) rfl ?_
          refine g_iinc (n := 68) (v := (x1 + 1)) (ls' := [(1, .int (x1 + 1)), (0, .ref 12)]) d_Rep_mendTables_65 rfl 1 rfl rfl (am_ltb rfl) rfl ?_
          refine g_goto (n := 7) d_Rep_mendTables_68 (by decide) ?_
          refine g_ls [1, 0] rfl ?_
          exact ih r19.2 (fx + 1) (upd us x1.toNatClampNeg (vp_nar .boolean 0)) (x1 + 1) _ hf _ rfl
def f_Rep_mendTables (g : am_WS) (fx : Int32) (us : Nat → Int32) : Option ((String ⊕ Unit) × am_WS × Int32 × (Nat → Int32)) :=
  f_Rep_mendTables_L7 100000000000 g 0 us 0
set_option maxHeartbeats 4000000 in
set_option maxRecDepth 100000 in
theorem s_Rep_mendTables {l : Launch} {D : va_G} {dA : FieldType → ClassId} (htr : l.stackTraces = false) {rest : List am_E} {li : Nat → Int32} {su : Int32} {ct : Int32} {lc : Int32} {ad : Nat → Int32} {ctb : Int32} {lcb : Int32} {adb : Nat → Int32} {fx : Int32} {us : Nat → Int32} {ln : Int32} {pt : Int32} {tx : Nat → Int32} {br : Nat → Int32} {rw : Nat → Int32} {g : am_WS}  {r : (String ⊕ Unit) × am_WS × Int32 × (Nat → Int32)} (hf : f_Rep_mendTables g fx us = some r) {o : am_O} (ho : am_ov r.1 = o) :
    am_M (am_kk l D dA) y_Rep_mendTables ws_Rep_mendTables (am_rm 4 o) [.ref 12] (hC g.1 g.2.1 g.2.2.1 li g.2.2.2.1 g.2.2.2.2.1 g.2.2.2.2.2.1 su g.2.2.2.2.2.2.1 g.2.2.2.2.2.2.2.1 g.2.2.2.2.2.2.2.2.1 g.2.2.2.2.2.2.2.2.2 ct lc ad ctb lcb adb fx us ln pt tx br rw rest) o (hC r.2.1.1 r.2.1.2.1 r.2.1.2.2.1 li r.2.1.2.2.2.1 r.2.1.2.2.2.2.1 r.2.1.2.2.2.2.2.1 su r.2.1.2.2.2.2.2.2.1 r.2.1.2.2.2.2.2.2.2.1 r.2.1.2.2.2.2.2.2.2.2.1 r.2.1.2.2.2.2.2.2.2.2.2 ct lc ad ctb lcb adb r.2.2.1 r.2.2.2 ln pt tx br rw rest) := by
  subst ho
  refine am_body (by decide) rfl (Nat.le_of_ble_eq_true rfl) rfl ?_
  rw [f_Rep_mendTables] at hf
  refine g_aload_n (n := 1) d_Rep_mendTables_0 rfl 0 rfl rfl ?_
  refine g_iconst (n := 2) (v := 0) d_Rep_mendTables_1 rfl (by decide) ?_
  refine g_put (n := 5) (q0 := 12) (h' := (hC g.1 g.2.1 g.2.2.1 li g.2.2.2.1 g.2.2.2.2.1 g.2.2.2.2.2.1 su g.2.2.2.2.2.2.1 g.2.2.2.2.2.2.2.1 g.2.2.2.2.2.2.2.2.1 g.2.2.2.2.2.2.2.2.2 ct lc ad ctb lcb adb 0 us ln pt tx br rw rest)) d_Rep_mendTables_2 rfl (am_fl in_Rep rfl (by decide : 4 < 5)) typ_Rep (List.mem_cons_of_mem _ tw_137) rfl (fun _ _ => rfl) (fun _ _ => rfl) rfl (am_ltb rfl) rfl ?_
  refine g_iconst (n := 6) (v := 0) d_Rep_mendTables_5 rfl (by decide) ?_
  refine g_istore_n (n := 7) (ls' := [(1, .int 0), (0, .ref 12)]) d_Rep_mendTables_6 rfl rfl (am_ltb rfl) rfl ?_
  refine g_ls [1, 0] rfl ?_
  exact s_Rep_mendTables_L7 htr 100000000000 g 0 us 0 _ hf _ rfl
def f_Rep_follow_L4 : Nat → am_WS → Int32 → (Nat → Int32) → Int32 → Int32 → Option ((String ⊕ Int32) × am_WS × Int32 × (Nat → Int32))
  | 0, _, _, _, _, _ => none
  | fuel + 1, g, fx, us, x2, x3 =>
  (if 64 ≤ x3 then some (.inr x3, g, fx, us) else ((f_V_isCluster x2).bind fun r2 => (if r2 = 0 then some (.inr x3, g, fx, us) else (if am_in x2 64 = true then ((f_Table_cell g.2.2.2.2.2.2.2.2.2 x2).bind fun r6 => ((f_V_isCluster r6).bind fun r8 => (if r8 = 0 then f_Rep_follow_L4 fuel g fx (upd us x2.toNatClampNeg (vp_nar .boolean 1)) r6 (x3 + 1) else ((f_Table_isFree g.2.2.2.2.2.2.2.2.2 r6).bind fun r11 => (if r11 = 0 then (if am_in r6 64 = true then (if ((upd us x2.toNatClampNeg (vp_nar .boolean 1)) r6.toNatClampNeg) = 0 then f_Rep_follow_L4 fuel g fx (upd us x2.toNatClampNeg (vp_nar .boolean 1)) r6 (x3 + 1) else ((f_Table_set g x2 65535).bind fun r21 => am_t r21.1 (fun E23 => some (.inl E23, r21.2, fx, (upd us x2.toNatClampNeg (vp_nar .boolean 1)))) (fun v24 => some (.inr (x3 + 1), r21.2, (fx + 1), (upd us x2.toNatClampNeg (vp_nar .boolean 1)))))) else none) else ((f_Table_set g x2 65535).bind fun r14 => am_t r14.1 (fun E16 => some (.inl E16, r14.2, fx, (upd us x2.toNatClampNeg (vp_nar .boolean 1)))) (fun v17 => some (.inr (x3 + 1), r14.2, (fx + 1), (upd us x2.toNatClampNeg (vp_nar .boolean 1)))))))))) else none))))
set_option maxHeartbeats 4000000 in
set_option maxRecDepth 100000 in
theorem s_Rep_follow_L4 {l : Launch} {D : va_G} {dA : FieldType → ClassId} (htr : l.stackTraces = false) {rest : List am_E} {li : Nat → Int32} {su : Int32} {ct : Int32} {lc : Int32} {ad : Nat → Int32} {ctb : Int32} {lcb : Int32} {adb : Nat → Int32} {ln : Int32} {pt : Int32} {tx : Nat → Int32} {br : Nat → Int32} {rw : Nat → Int32}  : ∀ (fuel : Nat) (g : am_WS) (fx : Int32) (us : Nat → Int32) (x2 : Int32) (x3 : Int32) (r : (String ⊕ Int32) × am_WS × Int32 × (Nat → Int32)), f_Rep_follow_L4 fuel g fx us x2 x3 = some r → ∀ o : am_O, am_oi r.1 = o →
    am_G (am_kk l D dA) (ws_Rep_follow, y_Rep_follow.cls, prog_5_method_8_code, 5, (some .int), y_Rep_follow.name, [], am_rm 4 (o), none) o (hC r.2.1.1 r.2.1.2.1 r.2.1.2.2.1 li r.2.1.2.2.2.1 r.2.1.2.2.2.2.1 r.2.1.2.2.2.2.2.1 su r.2.1.2.2.2.2.2.2.1 r.2.1.2.2.2.2.2.2.2.1 r.2.1.2.2.2.2.2.2.2.2.1 r.2.1.2.2.2.2.2.2.2.2.2 ct lc ad ctb lcb adb r.2.2.1 r.2.2.2 ln pt tx br rw rest) 0 0 4 [(0, .ref 12), (2, .int x2), (3, .int x3)] [] (hC g.1 g.2.1 g.2.2.1 li g.2.2.2.1 g.2.2.2.2.1 g.2.2.2.2.2.1 su g.2.2.2.2.2.2.1 g.2.2.2.2.2.2.2.1 g.2.2.2.2.2.2.2.2.1 g.2.2.2.2.2.2.2.2.2 ct lc ad ctb lcb adb fx us ln pt tx br rw rest) := by
  intro fuel
  induction fuel with
  | zero =>
    intro g fx us x2 x3 r hf
    cases hf
  | succ fuel ih =>
    intro g fx us x2 x3 r hf o ho
    subst ho
    rw [f_Rep_follow_L4] at hf
    refine g_iload_n (n := 5) d_Rep_follow_4 rfl 2 rfl rfl ?_
    refine g_bipush (n := 7) (v := 64) d_Rep_follow_5 rfl (by decide) ?_
    refine g_icmp_ge (n := 10) (tgt := 95) d_Rep_follow_7 rfl (by decide) (fun q1 => ?_) (fun q1 => ?_)
    · have hf := ob_pos q1 hf
      refine g_iload_n (n := 96) d_Rep_follow_95 rfl 2 rfl rfl ?_
      cases hf
      exact g_iret d_Rep_follow_96 rfl (Nat.zero_le _) (Nat.zero_le _)
    · have hf := ob_neg q1 hf
      refine g_iload_n (n := 11) d_Rep_follow_10 rfl 1 rfl rfl ?_
      obtain ⟨r2, h3, hf⟩ := ob_bind hf
      refine c_SNr (n := 14) (st' := [.int r2]) [.int x2] [] d_Rep_follow_11 rfl (s_V_isCluster htr h3 rfl) nw_803 tw_412 tw_1 tw_413 hd_V_isCluster (by omega) (by decide) rfl (Nat.le_of_ble_eq_true rfl) rfl rfl ?_
      refine g_if_eq (n := 17) (tgt := 95) d_Rep_follow_14 rfl (by decide) (fun q4 => ?_) (fun q4 => ?_)
      · have hf := ob_pos q4 hf
        refine g_iload_n (n := 96) d_Rep_follow_95 rfl 2 rfl rfl ?_
        cases hf
        exact g_iret d_Rep_follow_96 rfl (Nat.zero_le _) (Nat.zero_le _)
      · have hf := ob_neg q4 hf
        refine g_aload_n (n := 18) d_Rep_follow_17 rfl 0 rfl rfl ?_
        refine g_get (n := 21) (q0 := 12) d_Rep_follow_18 rfl (am_fl in_Rep rfl (by decide : 3 < 5)) (List.mem_cons_of_mem _ tw_136) rfl rfl ?_
        refine g_iload_n (n := 22) d_Rep_follow_21 rfl 1 rfl rfl ?_
        refine g_iconst (n := 23) (v := 1) d_Rep_follow_22 rfl (by decide) ?_
        obtain ⟨b5, hf⟩ := ob_chk hf
        refine g_zast (n := 24) (q0 := 13) (h' := (hC g.1 g.2.1 g.2.2.1 li g.2.2.2.1 g.2.2.2.2.1 g.2.2.2.2.2.1 su g.2.2.2.2.2.2.1 g.2.2.2.2.2.2.2.1 g.2.2.2.2.2.2.2.2.1 g.2.2.2.2.2.2.2.2.2 ct lc ad ctb lcb adb fx (upd us x2.toNatClampNeg (vp_nar .boolean 1)) ln pt tx br rw rest)) d_Rep_follow_23 rfl rfl (am_inl b5) rfl ?_
        refine g_iinc (n := 27) (v := (x3 + 1)) (ls' := [(3, .int (x3 + 1)), (0, .ref 12), (2, .int x2)]) d_Rep_follow_24 rfl 2 rfl rfl (am_ltb rfl) rfl ?_
        refine g_aload_n (n := 28) d_Rep_follow_27 rfl 1 rfl rfl ?_
        refine g_get (n := 31) (q0 := 12) d_Rep_follow_28 rfl (am_fl in_Rep rfl (by decide : 1 < 5)) (List.mem_cons_of_mem _ tw_134) rfl rfl ?_
        refine g_iload_n (n := 32) d_Rep_follow_31 rfl 2 rfl rfl ?_
        obtain ⟨r6, h7, hf⟩ := ob_bind hf
        refine c_Vr (n := 35) (st' := [.int r6]) [.int x2] [] d_Rep_follow_32 rfl (s_Table_cell htr h7 rfl) tw_794 tw_287 tw_288 tw_4 tw_289 hd_Table_cell (by omega) (by decide) (ci := 5) rfl rfl rfl (Nat.le_of_ble_eq_true rfl) rfl rfl ?_
        refine g_istore (n := 37) (ls' := [(4, .int r6), (3, .int (x3 + 1)), (0, .ref 12), (2, .int x2)]) d_Rep_follow_35 rfl (am_ltb rfl) rfl ?_
        refine g_iload (n := 39) d_Rep_follow_37 rfl 0 rfl ?_
        obtain ⟨r8, h9, hf⟩ := ob_bind hf
        refine c_SNr (n := 42) (st' := [.int r8]) [.int r6] [] d_Rep_follow_39 rfl (s_V_isCluster htr h9 rfl) nw_803 tw_412 tw_1 tw_413 hd_V_isCluster (by omega) (by decide) rfl (Nat.le_of_ble_eq_true rfl) rfl rfl ?_
        refine g_if_eq (n := 45) (tgt := 89) d_Rep_follow_42 rfl (by decide) (fun q10 => ?_) (fun q10 => ?_)
        · have hf := ob_pos q10 hf
          refine g_iload (n := 91) d_Rep_follow_89 rfl 0 rfl ?_
          refine g_istore_n (n := 92) (ls' := [(2, .int r6), (4, .int r6), (3, .int (x3 + 1)), (0, .ref 12)]) d_Rep_follow_91 rfl rfl (am_ltb rfl) rfl ?_
          refine g_goto (n := 4) d_Rep_follow_92 (by decide) ?_
          refine g_ls [3, 0, 2] rfl ?_
          exact ih g fx (upd us x2.toNatClampNeg (vp_nar .boolean 1)) r6 (x3 + 1) _ hf _ rfl
        · have hf := ob_neg q10 hf
          refine g_aload_n (n := 46) d_Rep_follow_45 rfl 2 rfl rfl ?_
          refine g_get (n := 49) (q0 := 12) d_Rep_follow_46 rfl (am_fl in_Rep rfl (by decide : 1 < 5)) (List.mem_cons_of_mem _ tw_134) rfl rfl ?_
          refine g_iload (n := 51) d_Rep_follow_49 rfl 0 rfl ?_
          obtain ⟨r11, h12, hf⟩ := ob_bind hf
          refine c_Vr (n := 54) (st' := [.int r11]) [.int r6] [] d_Rep_follow_51 rfl (s_Table_isFree htr h12 rfl) tw_810 tw_283 tw_284 tw_4 tw_285 hd_Table_isFree (by omega) (by decide) (ci := 5) rfl rfl rfl (Nat.le_of_ble_eq_true rfl) rfl rfl ?_
          refine g_if_ne (n := 57) (tgt := 67) d_Rep_follow_54 rfl (by decide) (fun q13 => ?_) (fun q13 => ?_)
          · have hf := ob_neg q13 hf
            refine g_aload_n (n := 68) d_Rep_follow_67 rfl 2 rfl rfl ?_
            refine g_get (n := 71) (q0 := 12) d_Rep_follow_68 rfl (am_fl in_Rep rfl (by decide : 1 < 5)) (List.mem_cons_of_mem _ tw_134) rfl rfl ?_
            refine g_iload_n (n := 72) d_Rep_follow_71 rfl 3 rfl rfl ?_
            refine g_ldc (n := 74) (v := 65535) d_Rep_follow_72 rfl (List.mem_cons_of_mem _ tw_804) ?_
            obtain ⟨r14, h15, hf⟩ := ob_bind hf
            rcases ob_t hf with ⟨E16, w18, hf⟩ | ⟨v17, w18, hf⟩
            · cases hf
              refine c_Vx (n := 77) (st' := []) [.int x2, .int 65535] [] d_Rep_follow_74 rfl (s_Table_set htr h15 (by rw [w18]; rfl)) tw_805 tw_531 tw_532 tw_4 tw_533 hd_Table_set (by omega) (by decide) (ci := 5) rfl rfl rfl (Nat.le_of_ble_eq_true rfl) rfl ?_
              exact g_out rfl (Nat.le_refl _) (Nat.le_refl _)
            · refine c_Vr (n := 77) (st' := []) [.int x2, .int 65535] [] d_Rep_follow_74 rfl (s_Table_set htr h15 (by rw [w18]; rfl)) tw_805 tw_531 tw_532 tw_4 tw_533 hd_Table_set (by omega) (by decide) (ci := 5) rfl rfl rfl (Nat.le_of_ble_eq_true rfl) rfl rfl ?_
              refine g_aload_n (n := 78) d_Rep_follow_77 rfl 2 rfl rfl ?_
              refine g_dup (n := 79) d_Rep_follow_78 rfl rfl ?_
              refine g_get (n := 82) (q0 := 12) d_Rep_follow_79 rfl (am_fl in_Rep rfl (by decide : 4 < 5)) (List.mem_cons_of_mem _ tw_137) rfl rfl ?_
              refine g_iconst (n := 83) (v := 1) d_Rep_follow_82 rfl (by decide) ?_
              refine g_iadd (n := 84) d_Rep_follow_83 rfl ?_
              refine g_put (n := 87) (q0 := 12) (h' := (hC r14.2.1 r14.2.2.1 r14.2.2.2.1 li r14.2.2.2.2.1 r14.2.2.2.2.2.1 r14.2.2.2.2.2.2.1 su r14.2.2.2.2.2.2.2.1 r14.2.2.2.2.2.2.2.2.1 r14.2.2.2.2.2.2.2.2.2.1 r14.2.2.2.2.2.2.2.2.2.2 ct lc ad ctb lcb adb (fx + 1) (upd us x2.toNatClampNeg (vp_nar .boolean 1)) ln pt tx br rw rest)) d_Rep_follow_84 rfl (am_fl in_Rep rfl (by decide : 4 < 5)) typ_Rep (List.mem_cons_of_mem _ tw_137) rfl (fun _ _ => rfl) (fun _ _ => rfl) rfl (am_ltb rfl) rfl ?_
              refine g_iload_n (n := 88) d_Rep_follow_87 rfl 1 rfl rfl ?_
              cases hf
              exact g_iret d_Rep_follow_88 rfl (Nat.zero_le _) (Nat.zero_le _)
          · have hf := ob_pos q13 hf
            refine g_aload_n (n := 58) d_Rep_follow_57 rfl 2 rfl rfl ?_
            refine g_get (n := 61) (q0 := 12) d_Rep_follow_58 rfl (am_fl in_Rep rfl (by decide : 3 < 5)) (List.mem_cons_of_mem _ tw_136) rfl rfl ?_
            refine g_iload (n := 63) d_Rep_follow_61 rfl 0 rfl ?_
            obtain ⟨b19, hf⟩ := ob_chk hf
            refine g_zald (n := 64) (q0 := 13) d_Rep_follow_63 rfl rfl (am_inl b19) ?_
            refine g_if_eq (n := 67) (tgt := 89) d_Rep_follow_64 rfl (by decide) (fun q20 => ?_) (fun q20 => ?_)
            · have hf := ob_pos q20 hf
              refine g_iload (n := 91) d_Rep_follow_89 rfl 0 rfl ?_
              refine g_istore_n (n := 92) (ls' := [(2, .int r6), (4, .int r6), (3, .int (x3 + 1)), (0, .ref 12)]) d_Rep_follow_91 rfl rfl (am_ltb rfl) rfl ?_
              refine g_goto (n := 4) d_Rep_follow_92 (by decide) ?_
              refine g_ls [3, 0, 2] rfl ?_
              exact ih g fx (upd us x2.toNatClampNeg (vp_nar .boolean 1)) r6 (x3 + 1) _ hf _ rfl
            · have hf := ob_neg q20 hf
              refine g_aload_n (n := 68) d_Rep_follow_67 rfl 2 rfl rfl ?_
              refine g_get (n := 71) (q0 := 12) d_Rep_follow_68 rfl (am_fl in_Rep rfl (by decide : 1 < 5)) (List.mem_cons_of_mem _ tw_134) rfl rfl ?_
              refine g_iload_n (n := 72) d_Rep_follow_71 rfl 3 rfl rfl ?_
              refine g_ldc (n := 74) (v := 65535) d_Rep_follow_72 rfl (List.mem_cons_of_mem _ tw_804) ?_
              obtain ⟨r21, h22, hf⟩ := ob_bind hf
              rcases ob_t hf with ⟨E23, w25, hf⟩ | ⟨v24, w25, hf⟩
              · cases hf
                refine c_Vx (n := 77) (st' := []) [.int x2, .int 65535] [] d_Rep_follow_74 rfl (s_Table_set htr h22 (by rw [w25]; rfl)) tw_805 tw_531 tw_532 tw_4 tw_533 hd_Table_set (by omega) (by decide) (ci := 5) rfl rfl rfl (Nat.le_of_ble_eq_true rfl) rfl ?_
                exact g_out rfl (Nat.le_refl _) (Nat.le_refl _)
              · refine c_Vr (n := 77) (st' := []) [.int x2, .int 65535] [] d_Rep_follow_74 rfl (s_Table_set htr h22 (by rw [w25]; rfl)) tw_805 tw_531 tw_532 tw_4 tw_533 hd_Table_set (by omega) (by decide) (ci := 5) rfl rfl rfl (Nat.le_of_ble_eq_true rfl) rfl rfl ?_
                refine g_aload_n (n := 78) d_Rep_follow_77 rfl 2 rfl rfl ?_
                refine g_dup (n := 79) d_Rep_follow_78 rfl rfl ?_
                refine g_get (n := 82) (q0 := 12) d_Rep_follow_79 rfl (am_fl in_Rep rfl (by decide : 4 < 5)) (List.mem_cons_of_mem _ tw_137) rfl rfl ?_
                refine g_iconst (n := 83) (v := 1) d_Rep_follow_82 rfl (by decide) ?_
                refine g_iadd (n := 84) d_Rep_follow_83 rfl ?_
                refine g_put (n := 87) (q0 := 12) (h' := (hC r21.2.1 r21.2.2.1 r21.2.2.2.1 li r21.2.2.2.2.1 r21.2.2.2.2.2.1 r21.2.2.2.2.2.2.1 su r21.2.2.2.2.2.2.2.1 r21.2.2.2.2.2.2.2.2.1 r21.2.2.2.2.2.2.2.2.2.1 r21.2.2.2.2.2.2.2.2.2.2 ct lc ad ctb lcb adb (fx + 1) (upd us x2.toNatClampNeg (vp_nar .boolean 1)) ln pt tx br rw rest)) d_Rep_follow_84 rfl (am_fl in_Rep rfl (by decide : 4 < 5)) typ_Rep (List.mem_cons_of_mem _ tw_137) rfl (fun _ _ => rfl) (fun _ _ => rfl) rfl (am_ltb rfl) rfl ?_
                refine g_iload_n (n := 88) d_Rep_follow_87 rfl 1 rfl rfl ?_
                cases hf
                exact g_iret d_Rep_follow_88 rfl (Nat.zero_le _) (Nat.zero_le _)
def f_Rep_follow (g : am_WS) (fx : Int32) (us : Nat → Int32) (x1 : Int32) : Option ((String ⊕ Int32) × am_WS × Int32 × (Nat → Int32)) :=
  f_Rep_follow_L4 100000000000 g fx us x1 0
set_option maxHeartbeats 4000000 in
set_option maxRecDepth 100000 in
theorem s_Rep_follow {l : Launch} {D : va_G} {dA : FieldType → ClassId} (htr : l.stackTraces = false) {rest : List am_E} {li : Nat → Int32} {su : Int32} {ct : Int32} {lc : Int32} {ad : Nat → Int32} {ctb : Int32} {lcb : Int32} {adb : Nat → Int32} {fx : Int32} {us : Nat → Int32} {ln : Int32} {pt : Int32} {tx : Nat → Int32} {br : Nat → Int32} {rw : Nat → Int32} {g : am_WS} {x1 : Int32} {r : (String ⊕ Int32) × am_WS × Int32 × (Nat → Int32)} (hf : f_Rep_follow g fx us x1 = some r) {o : am_O} (ho : am_oi r.1 = o) :
    am_M (am_kk l D dA) y_Rep_follow ws_Rep_follow (am_rm 4 o) [.ref 12, .int x1] (hC g.1 g.2.1 g.2.2.1 li g.2.2.2.1 g.2.2.2.2.1 g.2.2.2.2.2.1 su g.2.2.2.2.2.2.1 g.2.2.2.2.2.2.2.1 g.2.2.2.2.2.2.2.2.1 g.2.2.2.2.2.2.2.2.2 ct lc ad ctb lcb adb fx us ln pt tx br rw rest) o (hC r.2.1.1 r.2.1.2.1 r.2.1.2.2.1 li r.2.1.2.2.2.1 r.2.1.2.2.2.2.1 r.2.1.2.2.2.2.2.1 su r.2.1.2.2.2.2.2.2.1 r.2.1.2.2.2.2.2.2.2.1 r.2.1.2.2.2.2.2.2.2.2.1 r.2.1.2.2.2.2.2.2.2.2.2 ct lc ad ctb lcb adb r.2.2.1 r.2.2.2 ln pt tx br rw rest) := by
  subst ho
  refine am_body (by decide) rfl (Nat.le_of_ble_eq_true rfl) rfl ?_
  rw [f_Rep_follow] at hf
  refine g_iload_n (n := 1) d_Rep_follow_0 rfl 1 rfl rfl ?_
  refine g_istore_n (n := 2) (ls' := [(2, .int x1), (0, .ref 12), (1, .int x1)]) d_Rep_follow_1 rfl rfl (am_ltb rfl) rfl ?_
  refine g_iconst (n := 3) (v := 0) d_Rep_follow_2 rfl (by decide) ?_
  refine g_istore_n (n := 4) (ls' := [(3, .int 0), (2, .int x1), (0, .ref 12), (1, .int x1)]) d_Rep_follow_3 rfl rfl (am_ltb rfl) rfl ?_
  refine g_ls [2, 1, 0] rfl ?_
  exact s_Rep_follow_L4 htr 100000000000 g fx us x1 0 _ hf _ rfl
def f_Rep_mendRoot (g : am_WS) (fx : Int32) (us : Nat → Int32) : Option ((String ⊕ Unit) × am_WS × Int32 × (Nat → Int32)) :=
  ((f_Table_isFree g.2.2.2.2.2.2.2.2.2 2).bind fun r1 => (if r1 = 0 then ((f_Rep_follow g fx us 2).bind fun r4 => am_t r4.1 (fun E6 => some (.inl E6, r4.2.1, r4.2.2.1, r4.2.2.2)) (fun v7 => some (.inr (), r4.2.1, r4.2.2.1, r4.2.2.2))) else ((f_Table_set g 2 65535).bind fun r9 => am_t r9.1 (fun E11 => some (.inl E11, r9.2, fx, us)) (fun v12 => ((f_Rep_follow r9.2 (fx + 1) us 2).bind fun r14 => am_t r14.1 (fun E16 => some (.inl E16, r14.2.1, r14.2.2.1, r14.2.2.2)) (fun v17 => some (.inr (), r14.2.1, r14.2.2.1, r14.2.2.2)))))))
set_option maxHeartbeats 4000000 in
set_option maxRecDepth 100000 in
theorem s_Rep_mendRoot {l : Launch} {D : va_G} {dA : FieldType → ClassId} (htr : l.stackTraces = false) {rest : List am_E} {li : Nat → Int32} {su : Int32} {ct : Int32} {lc : Int32} {ad : Nat → Int32} {ctb : Int32} {lcb : Int32} {adb : Nat → Int32} {fx : Int32} {us : Nat → Int32} {ln : Int32} {pt : Int32} {tx : Nat → Int32} {br : Nat → Int32} {rw : Nat → Int32} {g : am_WS}  {r : (String ⊕ Unit) × am_WS × Int32 × (Nat → Int32)} (hf : f_Rep_mendRoot g fx us = some r) {o : am_O} (ho : am_ov r.1 = o) :
    am_M (am_kk l D dA) y_Rep_mendRoot ws_Rep_mendRoot (am_rm 5 o) [.ref 12] (hC g.1 g.2.1 g.2.2.1 li g.2.2.2.1 g.2.2.2.2.1 g.2.2.2.2.2.1 su g.2.2.2.2.2.2.1 g.2.2.2.2.2.2.2.1 g.2.2.2.2.2.2.2.2.1 g.2.2.2.2.2.2.2.2.2 ct lc ad ctb lcb adb fx us ln pt tx br rw rest) o (hC r.2.1.1 r.2.1.2.1 r.2.1.2.2.1 li r.2.1.2.2.2.1 r.2.1.2.2.2.2.1 r.2.1.2.2.2.2.2.1 su r.2.1.2.2.2.2.2.2.1 r.2.1.2.2.2.2.2.2.2.1 r.2.1.2.2.2.2.2.2.2.2.1 r.2.1.2.2.2.2.2.2.2.2.2 ct lc ad ctb lcb adb r.2.2.1 r.2.2.2 ln pt tx br rw rest) := by
  subst ho
  refine am_body (by decide) rfl (Nat.le_of_ble_eq_true rfl) rfl ?_
  rw [f_Rep_mendRoot] at hf
  refine g_aload_n (n := 1) d_Rep_mendRoot_0 rfl 0 rfl rfl ?_
  refine g_get (n := 4) (q0 := 12) d_Rep_mendRoot_1 rfl (am_fl in_Rep rfl (by decide : 1 < 5)) (List.mem_cons_of_mem _ tw_134) rfl rfl ?_
  refine g_iconst (n := 5) (v := 2) d_Rep_mendRoot_4 rfl (by decide) ?_
  obtain ⟨r1, h2, hf⟩ := ob_bind hf
  refine c_Vr (n := 8) (st' := [.int r1]) [.int 2] [] d_Rep_mendRoot_5 rfl (s_Table_isFree htr h2 rfl) tw_810 tw_283 tw_284 tw_4 tw_285 hd_Table_isFree (by omega) (by decide) (ci := 5) rfl rfl rfl (Nat.le_of_ble_eq_true rfl) rfl rfl ?_
  refine g_if_eq (n := 11) (tgt := 31) d_Rep_mendRoot_8 rfl (by decide) (fun q3 => ?_) (fun q3 => ?_)
  · have hf := ob_pos q3 hf
    refine g_aload_n (n := 32) d_Rep_mendRoot_31 rfl 0 rfl rfl ?_
    refine g_iconst (n := 33) (v := 2) d_Rep_mendRoot_32 rfl (by decide) ?_
    obtain ⟨r4, h5, hf⟩ := ob_bind hf
    rcases ob_t hf with ⟨E6, w8, hf⟩ | ⟨v7, w8, hf⟩
    · cases hf
      refine c_Vx (n := 36) (st' := []) [.int 2] [] d_Rep_mendRoot_33 rfl (s_Rep_follow htr h5 (by rw [w8]; rfl)) tw_811 tw_812 tw_813 tw_6 tw_814 hd_Rep_follow (by omega) (by decide) (ci := 3) rfl rfl rfl (Nat.le_of_ble_eq_true rfl) rfl ?_
      exact g_out rfl (Nat.le_refl _) (Nat.le_refl _)
    · refine c_Vr (n := 36) (st' := [.int v7]) [.int 2] [] d_Rep_mendRoot_33 rfl (s_Rep_follow htr h5 (by rw [w8]; rfl)) tw_811 tw_812 tw_813 tw_6 tw_814 hd_Rep_follow (by omega) (by decide) (ci := 3) rfl rfl rfl (Nat.le_of_ble_eq_true rfl) rfl rfl ?_
      refine g_pop (n := 37) d_Rep_mendRoot_36 rfl rfl ?_
      cases hf
      exact g_vret d_Rep_mendRoot_37 rfl (Nat.zero_le _) (Nat.zero_le _)
  · have hf := ob_neg q3 hf
    refine g_aload_n (n := 12) d_Rep_mendRoot_11 rfl 0 rfl rfl ?_
    refine g_get (n := 15) (q0 := 12) d_Rep_mendRoot_12 rfl (am_fl in_Rep rfl (by decide : 1 < 5)) (List.mem_cons_of_mem _ tw_134) rfl rfl ?_
    refine g_iconst (n := 16) (v := 2) d_Rep_mendRoot_15 rfl (by decide) ?_
    refine g_ldc (n := 18) (v := 65535) d_Rep_mendRoot_16 rfl (List.mem_cons_of_mem _ tw_804) ?_
    obtain ⟨r9, h10, hf⟩ := ob_bind hf
    rcases ob_t hf with ⟨E11, w13, hf⟩ | ⟨v12, w13, hf⟩
    · cases hf
      refine c_Vx (n := 21) (st' := []) [.int 2, .int 65535] [] d_Rep_mendRoot_18 rfl (s_Table_set htr h10 (by rw [w13]; rfl)) tw_805 tw_531 tw_532 tw_4 tw_533 hd_Table_set (by omega) (by decide) (ci := 5) rfl rfl rfl (Nat.le_of_ble_eq_true rfl) rfl ?_
      exact g_out rfl (Nat.le_refl _) (Nat.le_refl _)
    · refine c_Vr (n := 21) (st' := []) [.int 2, .int 65535] [] d_Rep_mendRoot_18 rfl (s_Table_set htr h10 (by rw [w13]; rfl)) tw_805 tw_531 tw_532 tw_4 tw_533 hd_Table_set (by omega) (by decide) (ci := 5) rfl rfl rfl (Nat.le_of_ble_eq_true rfl) rfl rfl ?_
      refine g_aload_n (n := 22) d_Rep_mendRoot_21 rfl 0 rfl rfl ?_
      refine g_dup (n := 23) d_Rep_mendRoot_22 rfl rfl ?_
      refine g_get (n := 26) (q0 := 12) d_Rep_mendRoot_23 rfl (am_fl in_Rep rfl (by decide : 4 < 5)) (List.mem_cons_of_mem _ tw_137) rfl rfl ?_
      refine g_iconst (n := 27) (v := 1) d_Rep_mendRoot_26 rfl (by decide) ?_
      refine g_iadd (n := 28) d_Rep_mendRoot_27 rfl ?_
      refine g_put (n := 31) (q0 := 12) (h' := (hC r9.2.1 r9.2.2.1 r9.2.2.2.1 li r9.2.2.2.2.1 r9.2.2.2.2.2.1 r9.2.2.2.2.2.2.1 su r9.2.2.2.2.2.2.2.1 r9.2.2.2.2.2.2.2.2.1 r9.2.2.2.2.2.2.2.2.2.1 r9.2.2.2.2.2.2.2.2.2.2 ct lc ad ctb lcb adb (fx + 1) us ln pt tx br rw rest)) d_Rep_mendRoot_28 rfl (am_fl in_Rep rfl (by decide : 4 < 5)) typ_Rep (List.mem_cons_of_mem _ tw_137) rfl (fun _ _ => rfl) (fun _ _ => rfl) rfl (am_ltb rfl) rfl ?_
      refine g_aload_n (n := 32) d_Rep_mendRoot_31 rfl 0 rfl rfl ?_
      refine g_iconst (n := 33) (v := 2) d_Rep_mendRoot_32 rfl (by decide) ?_
      obtain ⟨r14, h15, hf⟩ := ob_bind hf
      rcases ob_t hf with ⟨E16, w18, hf⟩ | ⟨v17, w18, hf⟩
      · cases hf
        refine c_Vx (n := 36) (st' := []) [.int 2] [] d_Rep_mendRoot_33 rfl (s_Rep_follow htr h15 (by rw [w18]; rfl)) tw_811 tw_812 tw_813 tw_6 tw_814 hd_Rep_follow (by omega) (by decide) (ci := 3) rfl rfl rfl (Nat.le_of_ble_eq_true rfl) rfl ?_
        exact g_out rfl (Nat.le_refl _) (Nat.le_refl _)
      · refine c_Vr (n := 36) (st' := [.int v17]) [.int 2] [] d_Rep_mendRoot_33 rfl (s_Rep_follow htr h15 (by rw [w18]; rfl)) tw_811 tw_812 tw_813 tw_6 tw_814 hd_Rep_follow (by omega) (by decide) (ci := 3) rfl rfl rfl (Nat.le_of_ble_eq_true rfl) rfl rfl ?_
        refine g_pop (n := 37) d_Rep_mendRoot_36 rfl rfl ?_
        cases hf
        exact g_vret d_Rep_mendRoot_37 rfl (Nat.zero_le _) (Nat.zero_le _)
def f_Folder_isTellingPart (bt : Nat → Int32) (ct : Int32) (ad : Nat → Int32) (x1 : Int32) : Option (Int32) :=
  ((f_Folder_kindOf bt ct ad x1).bind fun r1 => (if r1 = 15 then ((f_Folder_partsOf bt ct ad (x1 + 1)).bind fun r4 => (if 0 < r4 then some 1 else ((f_Folder_partsOf bt ct ad (x1 + 2)).bind fun r7 => (if r7 ≤ 1 then some 0 else some 1)))) else some 0))
set_option maxHeartbeats 4000000 in
set_option maxRecDepth 100000 in
theorem s_Folder_isTellingPart {l : Launch} {D : va_G} {dA : FieldType → ClassId} (htr : l.stackTraces = false) {rest : List am_E} {ll : Int32} {he : Int32} {de : Int32} {li : Nat → Int32} {en : Nat → Int32} {po : Nat → Int32} {pw : Int32} {su : Int32} {wr : Int32} {cs : Int32} {wb : Int32} {bt : Nat → Int32} {ct : Int32} {lc : Int32} {ad : Nat → Int32} {ctb : Int32} {lcb : Int32} {adb : Nat → Int32} {fx : Int32} {us : Nat → Int32} {ln : Int32} {pt : Int32} {tx : Nat → Int32} {br : Nat → Int32} {rw : Nat → Int32}  {x1 : Int32} {r : Int32} (hf : f_Folder_isTellingPart bt ct ad x1 = some r) {o : am_O} (ho : .inl (some (.int r)) = o) :
    am_M (am_kk l D dA) y_Folder_isTellingPart ws_Folder_isTellingPart (am_rm 4 o) [.ref 8, .int x1] (hC ll he de li en po pw su wr cs wb bt ct lc ad ctb lcb adb fx us ln pt tx br rw rest) o (hC ll he de li en po pw su wr cs wb bt ct lc ad ctb lcb adb fx us ln pt tx br rw rest) := by
  subst ho
  refine am_body (by decide) rfl (Nat.le_of_ble_eq_true rfl) rfl ?_
  rw [f_Folder_isTellingPart] at hf
  refine g_aload_n (n := 1) d_Folder_isTellingPart_0 rfl 0 rfl rfl ?_
  refine g_iload_n (n := 2) d_Folder_isTellingPart_1 rfl 1 rfl rfl ?_
  obtain ⟨r1, h2, hf⟩ := ob_bind hf
  refine c_Vr (n := 5) (st' := [.int r1]) [.int x1] [] d_Folder_isTellingPart_2 rfl (s_Folder_kindOf htr h2 rfl) tw_422 tw_423 tw_424 tw_5 tw_425 hd_Folder_kindOf (by omega) (by decide) (ci := 1) rfl rfl rfl (Nat.le_of_ble_eq_true rfl) rfl rfl ?_
  refine g_bipush (n := 7) (v := 15) d_Folder_isTellingPart_5 rfl (by decide) ?_
  refine g_icmp_ne (n := 10) (tgt := 35) d_Folder_isTellingPart_7 rfl (by decide) (fun q3 => ?_) (fun q3 => ?_)
  · have hf := ob_neg q3 hf
    refine g_iconst (n := 36) (v := 0) d_Folder_isTellingPart_35 rfl (by decide) ?_
    cases hf
    exact g_zret d_Folder_isTellingPart_36 rfl am_z0 (Nat.zero_le _) (Nat.zero_le _)
  · have hf := ob_pos q3 hf
    refine g_aload_n (n := 11) d_Folder_isTellingPart_10 rfl 0 rfl rfl ?_
    refine g_iload_n (n := 12) d_Folder_isTellingPart_11 rfl 1 rfl rfl ?_
    refine g_iconst (n := 13) (v := 1) d_Folder_isTellingPart_12 rfl (by decide) ?_
    refine g_iadd (n := 14) d_Folder_isTellingPart_13 rfl ?_
    obtain ⟨r4, h5, hf⟩ := ob_bind hf
    refine c_Vr (n := 17) (st' := [.int r4]) [.int (x1 + 1)] [] d_Folder_isTellingPart_14 rfl (s_Folder_partsOf htr h5 rfl) tw_451 tw_452 tw_453 tw_5 tw_454 hd_Folder_partsOf (by omega) (by decide) (ci := 1) rfl rfl rfl (Nat.le_of_ble_eq_true rfl) rfl rfl ?_
    refine g_if_gt (n := 20) (tgt := 31) d_Folder_isTellingPart_17 rfl (by decide) (fun q6 => ?_) (fun q6 => ?_)
    · have hf := ob_pos q6 hf
      refine g_iconst (n := 32) (v := 1) d_Folder_isTellingPart_31 rfl (by decide) ?_
      refine g_goto (n := 36) d_Folder_isTellingPart_32 (by decide) ?_
      cases hf
      exact g_zret d_Folder_isTellingPart_36 rfl am_z1 (Nat.zero_le _) (Nat.zero_le _)
    · have hf := ob_neg q6 hf
      refine g_aload_n (n := 21) d_Folder_isTellingPart_20 rfl 0 rfl rfl ?_
      refine g_iload_n (n := 22) d_Folder_isTellingPart_21 rfl 1 rfl rfl ?_
      refine g_iconst (n := 23) (v := 2) d_Folder_isTellingPart_22 rfl (by decide) ?_
      refine g_iadd (n := 24) d_Folder_isTellingPart_23 rfl ?_
      obtain ⟨r7, h8, hf⟩ := ob_bind hf
      refine c_Vr (n := 27) (st' := [.int r7]) [.int (x1 + 2)] [] d_Folder_isTellingPart_24 rfl (s_Folder_partsOf htr h8 rfl) tw_451 tw_452 tw_453 tw_5 tw_454 hd_Folder_partsOf (by omega) (by decide) (ci := 1) rfl rfl rfl (Nat.le_of_ble_eq_true rfl) rfl rfl ?_
      refine g_iconst (n := 28) (v := 1) d_Folder_isTellingPart_27 rfl (by decide) ?_
      refine g_icmp_le (n := 31) (tgt := 35) d_Folder_isTellingPart_28 rfl (by decide) (fun q9 => ?_) (fun q9 => ?_)
      · have hf := ob_pos q9 hf
        refine g_iconst (n := 36) (v := 0) d_Folder_isTellingPart_35 rfl (by decide) ?_
        cases hf
        exact g_zret d_Folder_isTellingPart_36 rfl am_z0 (Nat.zero_le _) (Nat.zero_le _)
      · have hf := ob_neg q9 hf
        refine g_iconst (n := 32) (v := 1) d_Folder_isTellingPart_31 rfl (by decide) ?_
        refine g_goto (n := 36) d_Folder_isTellingPart_32 (by decide) ?_
        cases hf
        exact g_zret d_Folder_isTellingPart_36 rfl am_z1 (Nat.zero_le _) (Nat.zero_le _)
def f_Rep_isHopeless (bt : Nat → Int32) (ct : Int32) (ad : Nat → Int32) (us : Nat → Int32) (x1 : Int32) (x2 : Int32) : Option (Int32) :=
  ((f_Folder_isNamed bt ct ad x1).bind fun r1 => (if r1 = 0 then some 1 else ((f_Folder_kindOf bt ct ad x1).bind fun r4 => (if r4 = 2 then ((f_Folder_firstClusterOf bt ct ad x1).bind fun r19 => (if r19 = 0 then some 1 else ((f_V_isCluster r19).bind fun r22 => (if r22 = 0 then some 1 else ((f_Table_isFree bt r19).bind fun r25 => (if r25 = 0 then (if am_in r19 64 = true then (if (us r19.toNatClampNeg) = 0 then (if x2 < 5 then some 0 else some 1) else some 1) else none) else some 1)))))) else ((f_Folder_firstClusterOf bt ct ad x1).bind fun r7 => (if r7 = 0 then some 0 else ((f_V_isCluster r7).bind fun r10 => (if r10 = 0 then some 1 else ((f_Table_isFree bt r7).bind fun r13 => (if r13 = 0 then (if am_in r7 64 = true then (if (us r7.toNatClampNeg) = 0 then some 0 else some 1) else none) else some 1))))))))))
set_option maxHeartbeats 4000000 in
set_option maxRecDepth 100000 in
theorem s_Rep_isHopeless {l : Launch} {D : va_G} {dA : FieldType → ClassId} (htr : l.stackTraces = false) {rest : List am_E} {ll : Int32} {he : Int32} {de : Int32} {li : Nat → Int32} {en : Nat → Int32} {po : Nat → Int32} {pw : Int32} {su : Int32} {wr : Int32} {cs : Int32} {wb : Int32} {bt : Nat → Int32} {ct : Int32} {lc : Int32} {ad : Nat → Int32} {ctb : Int32} {lcb : Int32} {adb : Nat → Int32} {fx : Int32} {us : Nat → Int32} {ln : Int32} {pt : Int32} {tx : Nat → Int32} {br : Nat → Int32} {rw : Nat → Int32}  {x1 : Int32} {x2 : Int32} {r : Int32} (hf : f_Rep_isHopeless bt ct ad us x1 x2 = some r) {o : am_O} (ho : .inl (some (.int r)) = o) :
    am_M (am_kk l D dA) y_Rep_isHopeless ws_Rep_isHopeless (am_rm 3 o) [.ref 12, .int x1, .int x2] (hC ll he de li en po pw su wr cs wb bt ct lc ad ctb lcb adb fx us ln pt tx br rw rest) o (hC ll he de li en po pw su wr cs wb bt ct lc ad ctb lcb adb fx us ln pt tx br rw rest) := by
  subst ho
  refine am_body (by decide) rfl (Nat.le_of_ble_eq_true rfl) rfl ?_
  rw [f_Rep_isHopeless] at hf
  refine g_aload_n (n := 1) d_Rep_isHopeless_0 rfl 0 rfl rfl ?_
  refine g_get (n := 4) (q0 := 12) d_Rep_isHopeless_1 rfl (am_fl in_Rep rfl (by decide : 2 < 5)) (List.mem_cons_of_mem _ tw_135) rfl rfl ?_
  refine g_iload_n (n := 5) d_Rep_isHopeless_4 rfl 1 rfl rfl ?_
  obtain ⟨r1, h2, hf⟩ := ob_bind hf
  refine c_Vr (n := 8) (st' := [.int r1]) [.int x1] [] d_Rep_isHopeless_5 rfl (s_Folder_isNamed htr h2 rfl) tw_833 tw_432 tw_433 tw_5 tw_434 hd_Folder_isNamed (by omega) (by decide) (ci := 1) rfl rfl rfl (Nat.le_of_ble_eq_true rfl) rfl rfl ?_
  refine g_if_ne (n := 11) (tgt := 13) d_Rep_isHopeless_8 rfl (by decide) (fun q3 => ?_) (fun q3 => ?_)
  · have hf := ob_neg q3 hf
    refine g_aload_n (n := 14) d_Rep_isHopeless_13 rfl 0 rfl rfl ?_
    refine g_get (n := 17) (q0 := 12) d_Rep_isHopeless_14 rfl (am_fl in_Rep rfl (by decide : 2 < 5)) (List.mem_cons_of_mem _ tw_135) rfl rfl ?_
    refine g_iload_n (n := 18) d_Rep_isHopeless_17 rfl 1 rfl rfl ?_
    obtain ⟨r4, h5, hf⟩ := ob_bind hf
    refine c_Vr (n := 21) (st' := [.int r4]) [.int x1] [] d_Rep_isHopeless_18 rfl (s_Folder_kindOf htr h5 rfl) tw_834 tw_423 tw_424 tw_5 tw_425 hd_Folder_kindOf (by omega) (by decide) (ci := 1) rfl rfl rfl (Nat.le_of_ble_eq_true rfl) rfl rfl ?_
    refine g_iconst (n := 22) (v := 2) d_Rep_isHopeless_21 rfl (by decide) ?_
    refine g_icmp_ne (n := 25) (tgt := 29) d_Rep_isHopeless_22 rfl (by decide) (fun q6 => ?_) (fun q6 => ?_)
    · have hf := ob_neg q6 hf
      refine g_iconst (n := 30) (v := 0) d_Rep_isHopeless_29 rfl (by decide) ?_
      refine g_istore_n (n := 31) (ls' := [(3, .int 0), (0, .ref 12), (1, .int x1), (2, .int x2)]) d_Rep_isHopeless_30 rfl rfl (am_ltb rfl) rfl ?_
      refine g_aload_n (n := 32) d_Rep_isHopeless_31 rfl 1 rfl rfl ?_
      refine g_get (n := 35) (q0 := 12) d_Rep_isHopeless_32 rfl (am_fl in_Rep rfl (by decide : 2 < 5)) (List.mem_cons_of_mem _ tw_135) rfl rfl ?_
      refine g_iload_n (n := 36) d_Rep_isHopeless_35 rfl 2 rfl rfl ?_
      obtain ⟨r7, h8, hf⟩ := ob_bind hf
      refine c_Vr (n := 39) (st' := [.int r7]) [.int x1] [] d_Rep_isHopeless_36 rfl (s_Folder_firstClusterOf htr h8 rfl) tw_835 tw_626 tw_627 tw_5 tw_628 hd_Folder_firstClusterOf (by omega) (by decide) (ci := 1) rfl rfl rfl (Nat.le_of_ble_eq_true rfl) rfl rfl ?_
      refine g_istore (n := 41) (ls' := [(4, .int r7), (3, .int 0), (0, .ref 12), (1, .int x1), (2, .int x2)]) d_Rep_isHopeless_39 rfl (am_ltb rfl) rfl ?_
      refine g_iload (n := 43) d_Rep_isHopeless_41 rfl 0 rfl ?_
      refine g_if_ne (n := 46) (tgt := 48) d_Rep_isHopeless_43 rfl (by decide) (fun q9 => ?_) (fun q9 => ?_)
      · have hf := ob_neg q9 hf
        refine g_iload (n := 50) d_Rep_isHopeless_48 rfl 0 rfl ?_
        obtain ⟨r10, h11, hf⟩ := ob_bind hf
        refine c_SNr (n := 53) (st' := [.int r10]) [.int r7] [] d_Rep_isHopeless_50 rfl (s_V_isCluster htr h11 rfl) nw_803 tw_412 tw_1 tw_413 hd_V_isCluster (by omega) (by decide) rfl (Nat.le_of_ble_eq_true rfl) rfl rfl ?_
        refine g_if_eq (n := 56) (tgt := 87) d_Rep_isHopeless_53 rfl (by decide) (fun q12 => ?_) (fun q12 => ?_)
        · have hf := ob_pos q12 hf
          refine g_iconst (n := 88) (v := 1) d_Rep_isHopeless_87 rfl (by decide) ?_
          refine g_goto (n := 92) d_Rep_isHopeless_88 (by decide) ?_
          cases hf
          exact g_zret d_Rep_isHopeless_92 rfl am_z1 (Nat.zero_le _) (Nat.zero_le _)
        · have hf := ob_neg q12 hf
          refine g_aload_n (n := 57) d_Rep_isHopeless_56 rfl 2 rfl rfl ?_
          refine g_get (n := 60) (q0 := 12) d_Rep_isHopeless_57 rfl (am_fl in_Rep rfl (by decide : 1 < 5)) (List.mem_cons_of_mem _ tw_134) rfl rfl ?_
          refine g_iload (n := 62) d_Rep_isHopeless_60 rfl 0 rfl ?_
          obtain ⟨r13, h14, hf⟩ := ob_bind hf
          refine c_Vr (n := 65) (st' := [.int r13]) [.int r7] [] d_Rep_isHopeless_62 rfl (s_Table_isFree htr h14 rfl) tw_810 tw_283 tw_284 tw_4 tw_285 hd_Table_isFree (by omega) (by decide) (ci := 5) rfl rfl rfl (Nat.le_of_ble_eq_true rfl) rfl rfl ?_
          refine g_if_ne (n := 68) (tgt := 87) d_Rep_isHopeless_65 rfl (by decide) (fun q15 => ?_) (fun q15 => ?_)
          · have hf := ob_neg q15 hf
            refine g_iconst (n := 88) (v := 1) d_Rep_isHopeless_87 rfl (by decide) ?_
            refine g_goto (n := 92) d_Rep_isHopeless_88 (by decide) ?_
            cases hf
            exact g_zret d_Rep_isHopeless_92 rfl am_z1 (Nat.zero_le _) (Nat.zero_le _)
          · have hf := ob_pos q15 hf
            refine g_aload_n (n := 69) d_Rep_isHopeless_68 rfl 2 rfl rfl ?_
            refine g_get (n := 72) (q0 := 12) d_Rep_isHopeless_69 rfl (am_fl in_Rep rfl (by decide : 3 < 5)) (List.mem_cons_of_mem _ tw_136) rfl rfl ?_
            refine g_iload (n := 74) d_Rep_isHopeless_72 rfl 0 rfl ?_
            obtain ⟨b16, hf⟩ := ob_chk hf
            refine g_zald (n := 75) (q0 := 13) d_Rep_isHopeless_74 rfl rfl (am_inl b16) ?_
            refine g_if_ne (n := 78) (tgt := 87) d_Rep_isHopeless_75 rfl (by decide) (fun q17 => ?_) (fun q17 => ?_)
            · have hf := ob_neg q17 hf
              refine g_iconst (n := 88) (v := 1) d_Rep_isHopeless_87 rfl (by decide) ?_
              refine g_goto (n := 92) d_Rep_isHopeless_88 (by decide) ?_
              cases hf
              exact g_zret d_Rep_isHopeless_92 rfl am_z1 (Nat.zero_le _) (Nat.zero_le _)
            · have hf := ob_pos q17 hf
              refine g_iload_n (n := 79) d_Rep_isHopeless_78 rfl 1 rfl rfl ?_
              refine g_if_eq (n := 82) (tgt := 91) d_Rep_isHopeless_79 rfl (by decide) (fun _ => ?_) (fun q18 => absurd q18 (by decide))
              refine g_iconst (n := 92) (v := 0) d_Rep_isHopeless_91 rfl (by decide) ?_
              cases hf
              exact g_zret d_Rep_isHopeless_92 rfl am_z0 (Nat.zero_le _) (Nat.zero_le _)
      · have hf := ob_pos q9 hf
        refine g_iload_n (n := 47) d_Rep_isHopeless_46 rfl 1 rfl rfl ?_
        cases hf
        exact g_zret d_Rep_isHopeless_47 rfl am_z0 (Nat.zero_le _) (Nat.zero_le _)
    · have hf := ob_pos q6 hf
      refine g_iconst (n := 26) (v := 1) d_Rep_isHopeless_25 rfl (by decide) ?_
      refine g_goto (n := 30) d_Rep_isHopeless_26 (by decide) ?_
      refine g_istore_n (n := 31) (ls' := [(3, .int 1), (0, .ref 12), (1, .int x1), (2, .int x2)]) d_Rep_isHopeless_30 rfl rfl (am_ltb rfl) rfl ?_
      refine g_aload_n (n := 32) d_Rep_isHopeless_31 rfl 1 rfl rfl ?_
      refine g_get (n := 35) (q0 := 12) d_Rep_isHopeless_32 rfl (am_fl in_Rep rfl (by decide : 2 < 5)) (List.mem_cons_of_mem _ tw_135) rfl rfl ?_
      refine g_iload_n (n := 36) d_Rep_isHopeless_35 rfl 2 rfl rfl ?_
      obtain ⟨r19, h20, hf⟩ := ob_bind hf
      refine c_Vr (n := 39) (st' := [.int r19]) [.int x1] [] d_Rep_isHopeless_36 rfl (s_Folder_firstClusterOf htr h20 rfl) tw_835 tw_626 tw_627 tw_5 tw_628 hd_Folder_firstClusterOf (by omega) (by decide) (ci := 1) rfl rfl rfl (Nat.le_of_ble_eq_true rfl) rfl rfl ?_
      refine g_istore (n := 41) (ls' := [(4, .int r19), (3, .int 1), (0, .ref 12), (1, .int x1), (2, .int x2)]) d_Rep_isHopeless_39 rfl (am_ltb rfl) rfl ?_
      refine g_iload (n := 43) d_Rep_isHopeless_41 rfl 0 rfl ?_
      refine g_if_ne (n := 46) (tgt := 48) d_Rep_isHopeless_43 rfl (by decide) (fun q21 => ?_) (fun q21 => ?_)
      · have hf := ob_neg q21 hf
        refine g_iload (n := 50) d_Rep_isHopeless_48 rfl 0 rfl ?_
        obtain ⟨r22, h23, hf⟩ := ob_bind hf
        refine c_SNr (n := 53) (st' := [.int r22]) [.int r19] [] d_Rep_isHopeless_50 rfl (s_V_isCluster htr h23 rfl) nw_803 tw_412 tw_1 tw_413 hd_V_isCluster (by omega) (by decide) rfl (Nat.le_of_ble_eq_true rfl) rfl rfl ?_
        refine g_if_eq (n := 56) (tgt := 87) d_Rep_isHopeless_53 rfl (by decide) (fun q24 => ?_) (fun q24 => ?_)
        · have hf := ob_pos q24 hf
          refine g_iconst (n := 88) (v := 1) d_Rep_isHopeless_87 rfl (by decide) ?_
          refine g_goto (n := 92) d_Rep_isHopeless_88 (by decide) ?_
          cases hf
          exact g_zret d_Rep_isHopeless_92 rfl am_z1 (Nat.zero_le _) (Nat.zero_le _)
        · have hf := ob_neg q24 hf
          refine g_aload_n (n := 57) d_Rep_isHopeless_56 rfl 2 rfl rfl ?_
          refine g_get (n := 60) (q0 := 12) d_Rep_isHopeless_57 rfl (am_fl in_Rep rfl (by decide : 1 < 5)) (List.mem_cons_of_mem _ tw_134) rfl rfl ?_
          refine g_iload (n := 62) d_Rep_isHopeless_60 rfl 0 rfl ?_
          obtain ⟨r25, h26, hf⟩ := ob_bind hf
          refine c_Vr (n := 65) (st' := [.int r25]) [.int r19] [] d_Rep_isHopeless_62 rfl (s_Table_isFree htr h26 rfl) tw_810 tw_283 tw_284 tw_4 tw_285 hd_Table_isFree (by omega) (by decide) (ci := 5) rfl rfl rfl (Nat.le_of_ble_eq_true rfl) rfl rfl ?_
          refine g_if_ne (n := 68) (tgt := 87) d_Rep_isHopeless_65 rfl (by decide) (fun q27 => ?_) (fun q27 => ?_)
          · have hf := ob_neg q27 hf
            refine g_iconst (n := 88) (v := 1) d_Rep_isHopeless_87 rfl (by decide) ?_
            refine g_goto (n := 92) d_Rep_isHopeless_88 (by decide) ?_
            cases hf
            exact g_zret d_Rep_isHopeless_92 rfl am_z1 (Nat.zero_le _) (Nat.zero_le _)
          · have hf := ob_pos q27 hf
            refine g_aload_n (n := 69) d_Rep_isHopeless_68 rfl 2 rfl rfl ?_
            refine g_get (n := 72) (q0 := 12) d_Rep_isHopeless_69 rfl (am_fl in_Rep rfl (by decide : 3 < 5)) (List.mem_cons_of_mem _ tw_136) rfl rfl ?_
            refine g_iload (n := 74) d_Rep_isHopeless_72 rfl 0 rfl ?_
            obtain ⟨b28, hf⟩ := ob_chk hf
            refine g_zald (n := 75) (q0 := 13) d_Rep_isHopeless_74 rfl rfl (am_inl b28) ?_
            refine g_if_ne (n := 78) (tgt := 87) d_Rep_isHopeless_75 rfl (by decide) (fun q29 => ?_) (fun q29 => ?_)
            · have hf := ob_neg q29 hf
              refine g_iconst (n := 88) (v := 1) d_Rep_isHopeless_87 rfl (by decide) ?_
              refine g_goto (n := 92) d_Rep_isHopeless_88 (by decide) ?_
              cases hf
              exact g_zret d_Rep_isHopeless_92 rfl am_z1 (Nat.zero_le _) (Nat.zero_le _)
            · have hf := ob_pos q29 hf
              refine g_iload_n (n := 79) d_Rep_isHopeless_78 rfl 1 rfl rfl ?_
              refine g_if_eq (n := 82) (tgt := 91) d_Rep_isHopeless_79 rfl (by decide) (fun q30 => absurd q30 (by decide)) (fun _ => ?_)
              refine g_iload_n (n := 83) d_Rep_isHopeless_82 rfl 4 rfl rfl ?_
              refine g_iconst (n := 84) (v := 5) d_Rep_isHopeless_83 rfl (by decide) ?_
              refine g_icmp_lt (n := 87) (tgt := 91) d_Rep_isHopeless_84 rfl (by decide) (fun q31 => ?_) (fun q31 => ?_)
              · have hf := ob_pos q31 hf
                refine g_iconst (n := 92) (v := 0) d_Rep_isHopeless_91 rfl (by decide) ?_
                cases hf
                exact g_zret d_Rep_isHopeless_92 rfl am_z0 (Nat.zero_le _) (Nat.zero_le _)
              · have hf := ob_neg q31 hf
                refine g_iconst (n := 88) (v := 1) d_Rep_isHopeless_87 rfl (by decide) ?_
                refine g_goto (n := 92) d_Rep_isHopeless_88 (by decide) ?_
                cases hf
                exact g_zret d_Rep_isHopeless_92 rfl am_z1 (Nat.zero_le _) (Nat.zero_le _)
      · have hf := ob_pos q21 hf
        refine g_iload_n (n := 47) d_Rep_isHopeless_46 rfl 1 rfl rfl ?_
        cases hf
        exact g_zret d_Rep_isHopeless_47 rfl am_z1 (Nat.zero_le _) (Nat.zero_le _)
  · have hf := ob_pos q3 hf
    refine g_iconst (n := 12) (v := 1) d_Rep_isHopeless_11 rfl (by decide) ?_
    cases hf
    exact g_zret d_Rep_isHopeless_12 rfl am_z1 (Nat.zero_le _) (Nat.zero_le _)
def f_Rep_forget_L4 : Nat → (Nat → Int32) → (Nat → Int32) → Int32 → Int32 → Option ((Nat → Int32))
  | 0, _, _, _, _ => none
  | fuel + 1, bt, us, x2, x3 =>
  (if 64 ≤ x3 then some us else ((f_V_isCluster x2).bind fun r2 => (if r2 = 0 then some us else (if am_in x2 64 = true then ((f_Table_cell bt x2).bind fun r6 => f_Rep_forget_L4 fuel bt (upd us x2.toNatClampNeg (vp_nar .boolean 0)) r6 (x3 + 1)) else none))))
set_option maxHeartbeats 4000000 in
set_option maxRecDepth 100000 in
theorem s_Rep_forget_L4 {l : Launch} {D : va_G} {dA : FieldType → ClassId} (htr : l.stackTraces = false) {rest : List am_E} {ll : Int32} {he : Int32} {de : Int32} {li : Nat → Int32} {en : Nat → Int32} {po : Nat → Int32} {pw : Int32} {su : Int32} {wr : Int32} {cs : Int32} {wb : Int32} {ct : Int32} {lc : Int32} {ad : Nat → Int32} {ctb : Int32} {lcb : Int32} {adb : Nat → Int32} {fx : Int32} {ln : Int32} {pt : Int32} {tx : Nat → Int32} {br : Nat → Int32} {rw : Nat → Int32}  : ∀ (fuel : Nat) (bt : Nat → Int32) (us : Nat → Int32) (x2 : Int32) (x3 : Int32) (r : (Nat → Int32)), f_Rep_forget_L4 fuel bt us x2 x3 = some r → ∀ o : am_O, .inl none = o →
    am_G (am_kk l D dA) (ws_Rep_forget, y_Rep_forget.cls, prog_5_method_10_code, 4, none, y_Rep_forget.name, [], am_rm 2 (o), none) o (hC ll he de li en po pw su wr cs wb bt ct lc ad ctb lcb adb fx r ln pt tx br rw rest) 0 0 4 [(0, .ref 12), (2, .int x2), (3, .int x3)] [] (hC ll he de li en po pw su wr cs wb bt ct lc ad ctb lcb adb fx us ln pt tx br rw rest) := by
  intro fuel
  induction fuel with
  | zero =>
    intro bt us x2 x3 r hf
    cases hf
  | succ fuel ih =>
    intro bt us x2 x3 r hf o ho
    subst ho
    rw [f_Rep_forget_L4] at hf
    refine g_iload_n (n := 5) d_Rep_forget_4 rfl 2 rfl rfl ?_
    refine g_bipush (n := 7) (v := 64) d_Rep_forget_5 rfl (by decide) ?_
    refine g_icmp_ge (n := 10) (tgt := 39) d_Rep_forget_7 rfl (by decide) (fun q1 => ?_) (fun q1 => ?_)
    · have hf := ob_pos q1 hf
      cases hf
      exact g_vret d_Rep_forget_39 rfl (Nat.zero_le _) (Nat.zero_le _)
    · have hf := ob_neg q1 hf
      refine g_iload_n (n := 11) d_Rep_forget_10 rfl 1 rfl rfl ?_
      obtain ⟨r2, h3, hf⟩ := ob_bind hf
      refine c_SNr (n := 14) (st' := [.int r2]) [.int x2] [] d_Rep_forget_11 rfl (s_V_isCluster htr h3 rfl) nw_803 tw_412 tw_1 tw_413 hd_V_isCluster (by omega) (by decide) rfl (Nat.le_of_ble_eq_true rfl) rfl rfl ?_
      refine g_if_eq (n := 17) (tgt := 39) d_Rep_forget_14 rfl (by decide) (fun q4 => ?_) (fun q4 => ?_)
      · have hf := ob_pos q4 hf
        cases hf
        exact g_vret d_Rep_forget_39 rfl (Nat.zero_le _) (Nat.zero_le _)
      · have hf := ob_neg q4 hf
        refine g_aload_n (n := 18) d_Rep_forget_17 rfl 0 rfl rfl ?_
        refine g_get (n := 21) (q0 := 12) d_Rep_forget_18 rfl (am_fl in_Rep rfl (by decide : 3 < 5)) (List.mem_cons_of_mem _ tw_136) rfl rfl ?_
        refine g_iload_n (n := 22) d_Rep_forget_21 rfl 1 rfl rfl ?_
        refine g_iconst (n := 23) (v := 0) d_Rep_forget_22 rfl (by decide) ?_
        obtain ⟨b5, hf⟩ := ob_chk hf
        refine g_zast (n := 24) (q0 := 13) (h' := (hC ll he de li en po pw su wr cs wb bt ct lc ad ctb lcb adb fx (upd us x2.toNatClampNeg (vp_nar .boolean 0)) ln pt tx br rw rest)) d_Rep_forget_23 rfl rfl (am_inl b5) rfl ?_
        refine g_aload_n (n := 25) d_Rep_forget_24 rfl 0 rfl rfl ?_
        refine g_get (n := 28) (q0 := 12) d_Rep_forget_25 rfl (am_fl in_Rep rfl (by decide : 1 < 5)) (List.mem_cons_of_mem _ tw_134) rfl rfl ?_
        refine g_iload_n (n := 29) d_Rep_forget_28 rfl 1 rfl rfl ?_
        obtain ⟨r6, h7, hf⟩ := ob_bind hf
        refine c_Vr (n := 32) (st' := [.int r6]) [.int x2] [] d_Rep_forget_29 rfl (s_Table_cell htr h7 rfl) tw_794 tw_287 tw_288 tw_4 tw_289 hd_Table_cell (by omega) (by decide) (ci := 5) rfl rfl rfl (Nat.le_of_ble_eq_true rfl) rfl rfl ?_
        refine g_istore_n (n := 33) (ls' := [(2, .int r6), (0, .ref 12), (3, .int x3)]) d_Rep_forget_32 rfl rfl (am_ltb rfl) rfl ?_
        refine g_iinc (n := 36) (v := (x3 + 1)) (ls' := [(3, .int (x3 + 1)), (2, .int r6), (0, .ref 12)]) d_Rep_forget_33 rfl 2 rfl rfl (am_ltb rfl) rfl ?_
        refine g_goto (n := 4) d_Rep_forget_36 (by decide) ?_
        refine g_ls [2, 1, 0] rfl ?_
        exact ih bt (upd us x2.toNatClampNeg (vp_nar .boolean 0)) r6 (x3 + 1) _ hf _ rfl
def f_Rep_forget (bt : Nat → Int32) (us : Nat → Int32) (x1 : Int32) : Option ((Nat → Int32)) :=
  f_Rep_forget_L4 100000000000 bt us x1 0
set_option maxHeartbeats 4000000 in
set_option maxRecDepth 100000 in
theorem s_Rep_forget {l : Launch} {D : va_G} {dA : FieldType → ClassId} (htr : l.stackTraces = false) {rest : List am_E} {ll : Int32} {he : Int32} {de : Int32} {li : Nat → Int32} {en : Nat → Int32} {po : Nat → Int32} {pw : Int32} {su : Int32} {wr : Int32} {cs : Int32} {wb : Int32} {bt : Nat → Int32} {ct : Int32} {lc : Int32} {ad : Nat → Int32} {ctb : Int32} {lcb : Int32} {adb : Nat → Int32} {fx : Int32} {us : Nat → Int32} {ln : Int32} {pt : Int32} {tx : Nat → Int32} {br : Nat → Int32} {rw : Nat → Int32}  {x1 : Int32} {r : (Nat → Int32)} (hf : f_Rep_forget bt us x1 = some r) {o : am_O} (ho : .inl none = o) :
    am_M (am_kk l D dA) y_Rep_forget ws_Rep_forget (am_rm 2 o) [.ref 12, .int x1] (hC ll he de li en po pw su wr cs wb bt ct lc ad ctb lcb adb fx us ln pt tx br rw rest) o (hC ll he de li en po pw su wr cs wb bt ct lc ad ctb lcb adb fx r ln pt tx br rw rest) := by
  subst ho
  refine am_body (by decide) rfl (Nat.le_of_ble_eq_true rfl) rfl ?_
  rw [f_Rep_forget] at hf
  refine g_iload_n (n := 1) d_Rep_forget_0 rfl 1 rfl rfl ?_
  refine g_istore_n (n := 2) (ls' := [(2, .int x1), (0, .ref 12), (1, .int x1)]) d_Rep_forget_1 rfl rfl (am_ltb rfl) rfl ?_
  refine g_iconst (n := 3) (v := 0) d_Rep_forget_2 rfl (by decide) ?_
  refine g_istore_n (n := 4) (ls' := [(3, .int 0), (2, .int x1), (0, .ref 12), (1, .int x1)]) d_Rep_forget_3 rfl rfl (am_ltb rfl) rfl ?_
  refine g_ls [2, 1, 0] rfl ?_
  exact s_Rep_forget_L4 htr 100000000000 bt us x1 0 _ hf _ rfl
