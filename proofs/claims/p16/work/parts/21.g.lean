def f_Ses_goToRoot (he : Int32) (de : Int32) : Option (Int32 × Int32) :=
  some (2, 1)
set_option maxHeartbeats 4000000 in
set_option maxRecDepth 100000 in
theorem s_Ses_goToRoot {l : Launch} {D : va_G} {dA : FieldType → ClassId} (htr : l.stackTraces = false) {rest : List am_E} {ll : Int32} {he : Int32} {de : Int32} {li : Nat → Int32} {en : Nat → Int32} {po : Nat → Int32} {pw : Int32} {su : Int32} {wr : Int32} {cs : Int32} {wb : Int32} {bt : Nat → Int32} {ct : Int32} {lc : Int32} {ad : Nat → Int32} {ctb : Int32} {lcb : Int32} {adb : Nat → Int32} {fx : Int32} {us : Nat → Int32} {ln : Int32} {pt : Int32} {tx : Nat → Int32} {br : Nat → Int32} {rw : Nat → Int32}   {r : Int32 × Int32} (hf : f_Ses_goToRoot he de = some r) {o : am_O} (ho : .inl none = o) :
    am_M (am_kk l D dA) y_Ses_goToRoot ws_Ses_goToRoot (am_rm 0 o) [.ref 1] (hC ll he de li en po pw su wr cs wb bt ct lc ad ctb lcb adb fx us ln pt tx br rw rest) o (hC ll r.1 r.2 li en po pw su wr cs wb bt ct lc ad ctb lcb adb fx us ln pt tx br rw rest) := by
  subst ho
  refine am_body (by decide) rfl (Nat.le_of_ble_eq_true rfl) rfl ?_
  rw [f_Ses_goToRoot] at hf
  refine g_aload_n (n := 1) d_Ses_goToRoot_0 rfl 0 rfl rfl ?_
  refine g_iconst (n := 2) (v := 2) d_Ses_goToRoot_1 rfl (by decide) ?_
  refine g_put (n := 5) (q0 := 1) (h' := (hC ll 2 de li en po pw su wr cs wb bt ct lc ad ctb lcb adb fx us ln pt tx br rw rest)) d_Ses_goToRoot_2 rfl (am_fl in_Ses rfl (by decide : 4 < 6)) typ_Ses (List.mem_cons_of_mem _ tw_44) rfl (fun _ _ => rfl) (fun _ _ => rfl) rfl (am_ltb rfl) rfl ?_
  refine g_aload_n (n := 6) d_Ses_goToRoot_5 rfl 0 rfl rfl ?_
  refine g_iconst (n := 7) (v := 1) d_Ses_goToRoot_6 rfl (by decide) ?_
  refine g_put (n := 10) (q0 := 1) (h' := (hC ll 2 1 li en po pw su wr cs wb bt ct lc ad ctb lcb adb fx us ln pt tx br rw rest)) d_Ses_goToRoot_7 rfl (am_fl in_Ses rfl (by decide : 5 < 6)) typ_Ses (List.mem_cons_of_mem _ tw_46) rfl (fun _ _ => rfl) (fun _ _ => rfl) rfl (am_ltb rfl) rfl ?_
  cases hf
  exact g_vret d_Ses_goToRoot_10 rfl (Nat.zero_le _) (Nat.zero_le _)
def f_Ses_goDown (he : Int32) (de : Int32) (x1 : Int32) : Option (Int32 × Int32) :=
  some (x1, (de + 1))
set_option maxHeartbeats 4000000 in
set_option maxRecDepth 100000 in
theorem s_Ses_goDown {l : Launch} {D : va_G} {dA : FieldType → ClassId} (htr : l.stackTraces = false) {rest : List am_E} {ll : Int32} {he : Int32} {de : Int32} {li : Nat → Int32} {en : Nat → Int32} {po : Nat → Int32} {pw : Int32} {su : Int32} {wr : Int32} {cs : Int32} {wb : Int32} {bt : Nat → Int32} {ct : Int32} {lc : Int32} {ad : Nat → Int32} {ctb : Int32} {lcb : Int32} {adb : Nat → Int32} {fx : Int32} {us : Nat → Int32} {ln : Int32} {pt : Int32} {tx : Nat → Int32} {br : Nat → Int32} {rw : Nat → Int32}  {x1 : Int32} {r : Int32 × Int32} (hf : f_Ses_goDown he de x1 = some r) {o : am_O} (ho : .inl none = o) :
    am_M (am_kk l D dA) y_Ses_goDown ws_Ses_goDown (am_rm 0 o) [.ref 1, .int x1] (hC ll he de li en po pw su wr cs wb bt ct lc ad ctb lcb adb fx us ln pt tx br rw rest) o (hC ll r.1 r.2 li en po pw su wr cs wb bt ct lc ad ctb lcb adb fx us ln pt tx br rw rest) := by
  subst ho
  refine am_body (by decide) rfl (Nat.le_of_ble_eq_true rfl) rfl ?_
  rw [f_Ses_goDown] at hf
  refine g_aload_n (n := 1) d_Ses_goDown_0 rfl 0 rfl rfl ?_
  refine g_iload_n (n := 2) d_Ses_goDown_1 rfl 1 rfl rfl ?_
  refine g_put (n := 5) (q0 := 1) (h' := (hC ll x1 de li en po pw su wr cs wb bt ct lc ad ctb lcb adb fx us ln pt tx br rw rest)) d_Ses_goDown_2 rfl (am_fl in_Ses rfl (by decide : 4 < 6)) typ_Ses (List.mem_cons_of_mem _ tw_44) rfl (fun _ _ => rfl) (fun _ _ => rfl) rfl (am_ltb rfl) rfl ?_
  refine g_aload_n (n := 6) d_Ses_goDown_5 rfl 0 rfl rfl ?_
  refine g_dup (n := 7) d_Ses_goDown_6 rfl rfl ?_
  refine g_get (n := 10) (q0 := 1) d_Ses_goDown_7 rfl (am_fl in_Ses rfl (by decide : 5 < 6)) (List.mem_cons_of_mem _ tw_46) rfl rfl ?_
  refine g_iconst (n := 11) (v := 1) d_Ses_goDown_10 rfl (by decide) ?_
  refine g_iadd (n := 12) d_Ses_goDown_11 rfl ?_
  refine g_put (n := 15) (q0 := 1) (h' := (hC ll x1 (de + 1) li en po pw su wr cs wb bt ct lc ad ctb lcb adb fx us ln pt tx br rw rest)) d_Ses_goDown_12 rfl (am_fl in_Ses rfl (by decide : 5 < 6)) typ_Ses (List.mem_cons_of_mem _ tw_46) rfl (fun _ _ => rfl) (fun _ _ => rfl) rfl (am_ltb rfl) rfl ?_
  cases hf
  exact g_vret d_Ses_goDown_15 rfl (Nat.zero_le _) (Nat.zero_le _)
def f_V_enter (ll : Int32) (he : Int32) (de : Int32) (li : Nat → Int32) (pw : Int32) (su : Int32) (bt : Nat → Int32) (ct : Int32) (lc : Int32) (ad : Nat → Int32) (ln : Int32) (tx : Nat → Int32) : Option ((String ⊕ Unit) × Int32 × Int32 × Int32 × Int32 × Int32 × (Nat → Int32) × Int32 × (Nat → Int32)) :=
  ((f_V_demandSoundDisk pw su).bind fun r1 => am_t r1 (fun E3 => some (.inl E3, ll, he, de, ct, lc, ad, ln, tx)) (fun v4 => ((f_Name_takeLineOf ll li ln tx).bind fun r6 => (if r6.2.1 = 0 then ((f_Ses_goToRoot he de).bind fun r18 => some (.inr (), r6.1, r18.1, r18.2, ct, lc, ad, r6.2.1, r6.2.2)) else ((f_Folder_load bt ct lc ad he).bind fun r9 => ((f_Folder_find bt r9.1 r9.2.2 r6.2.1 r6.2.2 2).bind fun r11 => (if r11 = (-1) then some (.inl "java/util/NoSuchElementException", r6.1, he, de, r9.1, r9.2.1, r9.2.2, r6.2.1, r6.2.2) else ((f_Folder_firstClusterOf bt r9.1 r9.2.2 r11).bind fun r14 => ((f_Ses_goDown he de r14).bind fun r16 => some (.inr (), r6.1, r16.1, r16.2, r9.1, r9.2.1, r9.2.2, r6.2.1, r6.2.2))))))))))
set_option maxHeartbeats 4000000 in
set_option maxRecDepth 100000 in
theorem s_V_enter {l : Launch} {D : va_G} {dA : FieldType → ClassId} (htr : l.stackTraces = false) {rest : List am_E} {ll : Int32} {he : Int32} {de : Int32} {li : Nat → Int32} {en : Nat → Int32} {po : Nat → Int32} {pw : Int32} {su : Int32} {wr : Int32} {cs : Int32} {wb : Int32} {bt : Nat → Int32} {ct : Int32} {lc : Int32} {ad : Nat → Int32} {ctb : Int32} {lcb : Int32} {adb : Nat → Int32} {fx : Int32} {us : Nat → Int32} {ln : Int32} {pt : Int32} {tx : Nat → Int32} {br : Nat → Int32} {rw : Nat → Int32}   {r : (String ⊕ Unit) × Int32 × Int32 × Int32 × Int32 × Int32 × (Nat → Int32) × Int32 × (Nat → Int32)} (hf : f_V_enter ll he de li pw su bt ct lc ad ln tx = some r) {o : am_O} (ho : am_ov r.1 = o) :
    am_M (am_kk l D dA) y_V_enter ws_V_enter (am_rm 7 o) [.ref 0] (hC ll he de li en po pw su wr cs wb bt ct lc ad ctb lcb adb fx us ln pt tx br rw rest) o (hC r.2.1 r.2.2.1 r.2.2.2.1 li en po pw su wr cs wb bt r.2.2.2.2.1 r.2.2.2.2.2.1 r.2.2.2.2.2.2.1 ctb lcb adb fx us r.2.2.2.2.2.2.2.1 pt r.2.2.2.2.2.2.2.2 br rw rest) := by
  subst ho
  refine am_body (by decide) rfl (Nat.le_of_ble_eq_true rfl) rfl ?_
  rw [f_V_enter] at hf
  refine g_aload_n (n := 1) d_V_enter_0 rfl 0 rfl rfl ?_
  obtain ⟨r1, h2, hf⟩ := ob_bind hf
  rcases ob_t hf with ⟨E3, w5, hf⟩ | ⟨v4, w5, hf⟩
  · cases hf
    refine c_Vx (n := 4) (st' := []) [] [] d_V_enter_1 rfl (s_V_demandSoundDisk htr h2 (by rw [w5]; rfl)) tw_305 tw_307 (am_memS 1 (by decide +kernel) (by decide +kernel)) tw_1 tw_308 hd_V_demandSoundDisk (by omega) (by decide) (ci := 6) rfl rfl rfl (Nat.le_of_ble_eq_true rfl) rfl ?_
    exact g_out rfl (Nat.le_refl _) (Nat.le_refl _)
  · refine c_Vr (n := 4) (st' := []) [] [] d_V_enter_1 rfl (s_V_demandSoundDisk htr h2 (by rw [w5]; rfl)) tw_305 tw_307 (am_memS 1 (by decide +kernel) (by decide +kernel)) tw_1 tw_308 hd_V_demandSoundDisk (by omega) (by decide) (ci := 6) rfl rfl rfl (Nat.le_of_ble_eq_true rfl) rfl rfl ?_
    refine g_aload_n (n := 5) d_V_enter_4 rfl 0 rfl rfl ?_
    refine g_get (n := 8) (q0 := 0) d_V_enter_5 rfl (am_fl in_V rfl (by decide : 6 < 8)) (List.mem_cons_of_mem _ tw_179) rfl rfl ?_
    refine g_aload_n (n := 9) d_V_enter_8 rfl 0 rfl rfl ?_
    refine g_get (n := 12) (q0 := 0) d_V_enter_9 rfl (am_fl in_V rfl (by decide : 0 < 8)) (List.mem_cons_of_mem _ tw_173) rfl rfl ?_
    obtain ⟨r6, h7, hf⟩ := ob_bind hf
    refine c_Vr (n := 15) (st' := []) [.ref 1] [] d_V_enter_12 rfl (s_Name_takeLineOf htr h7 rfl) tw_379 tw_380 tw_381 tw_7 tw_382 hd_Name_takeLineOf (by omega) (by decide) (ci := 2) rfl rfl rfl (Nat.le_of_ble_eq_true rfl) rfl rfl ?_
    refine g_aload_n (n := 16) d_V_enter_15 rfl 0 rfl rfl ?_
    refine g_get (n := 19) (q0 := 0) d_V_enter_16 rfl (am_fl in_V rfl (by decide : 6 < 8)) (List.mem_cons_of_mem _ tw_179) rfl rfl ?_
    refine g_getN (n := 22) (q0 := 14) d_V_enter_19 rfl (am_fl in_Name rfl (by decide : 2 < 4)) nw_160 rfl rfl ?_
    refine g_if_ne (n := 25) (tgt := 33) d_V_enter_22 rfl (by decide) (fun q8 => ?_) (fun q8 => ?_)
    · have hf := ob_neg q8 hf
      refine g_aload_n (n := 34) d_V_enter_33 rfl 0 rfl rfl ?_
      refine g_get (n := 37) (q0 := 0) d_V_enter_34 rfl (am_fl in_V rfl (by decide : 3 < 8)) (List.mem_cons_of_mem _ tw_176) rfl rfl ?_
      refine g_aload_n (n := 38) d_V_enter_37 rfl 0 rfl rfl ?_
      refine g_get (n := 41) (q0 := 0) d_V_enter_38 rfl (am_fl in_V rfl (by decide : 0 < 8)) (List.mem_cons_of_mem _ tw_173) rfl rfl ?_
      refine g_getN (n := 44) (q0 := 1) d_V_enter_41 rfl (am_fl in_Ses rfl (by decide : 4 < 6)) nw_45 rfl rfl ?_
      obtain ⟨r9, h10, hf⟩ := ob_bind hf
      refine c_Vr (n := 47) (st' := []) [.int he] [] d_V_enter_44 rfl (s_Folder_load htr h10 rfl) tw_407 tw_408 tw_409 tw_5 tw_410 hd_Folder_load (by omega) (by decide) (ci := 1) rfl rfl rfl (Nat.le_of_ble_eq_true rfl) rfl rfl ?_
      refine g_aload_n (n := 48) d_V_enter_47 rfl 0 rfl rfl ?_
      refine g_get (n := 51) (q0 := 0) d_V_enter_48 rfl (am_fl in_V rfl (by decide : 3 < 8)) (List.mem_cons_of_mem _ tw_176) rfl rfl ?_
      refine g_aload_n (n := 52) d_V_enter_51 rfl 0 rfl rfl ?_
      refine g_get (n := 55) (q0 := 0) d_V_enter_52 rfl (am_fl in_V rfl (by decide : 6 < 8)) (List.mem_cons_of_mem _ tw_179) rfl rfl ?_
      refine g_iconst (n := 56) (v := 2) d_V_enter_55 rfl (by decide) ?_
      obtain ⟨r11, h12, hf⟩ := ob_bind hf
      refine c_Vr (n := 59) (st' := [.int r11]) [.ref 14, .int 2] [] d_V_enter_56 rfl (s_Folder_find htr h12 rfl) tw_418 tw_419 tw_420 tw_5 tw_421 hd_Folder_find (by omega) (by decide) (ci := 1) rfl rfl rfl (Nat.le_of_ble_eq_true rfl) rfl rfl ?_
      refine g_istore_n (n := 60) (ls' := [(1, .int r11), (0, .ref 0)]) d_V_enter_59 rfl rfl (am_ltb rfl) rfl ?_
      refine g_iload_n (n := 61) d_V_enter_60 rfl 0 rfl rfl ?_
      refine g_iconst (n := 62) (v := (-1)) d_V_enter_61 rfl (by decide) ?_
      refine g_icmp_ne (n := 65) (tgt := 75) d_V_enter_62 rfl (by decide) (fun q13 => ?_) (fun q13 => ?_)
      · have hf := ob_neg q13 hf
        refine g_aload_n (n := 76) d_V_enter_75 rfl 1 rfl rfl ?_
        refine g_get (n := 79) (q0 := 0) d_V_enter_76 rfl (am_fl in_V rfl (by decide : 0 < 8)) (List.mem_cons_of_mem _ tw_173) rfl rfl ?_
        refine g_aload_n (n := 80) d_V_enter_79 rfl 1 rfl rfl ?_
        refine g_get (n := 83) (q0 := 0) d_V_enter_80 rfl (am_fl in_V rfl (by decide : 3 < 8)) (List.mem_cons_of_mem _ tw_176) rfl rfl ?_
        refine g_iload_n (n := 84) d_V_enter_83 rfl 0 rfl rfl ?_
        obtain ⟨r14, h15, hf⟩ := ob_bind hf
        refine c_Vr (n := 87) (st' := [.int r14, .ref 1]) [.int r11] [.ref 1] d_V_enter_84 rfl (s_Folder_firstClusterOf htr h15 rfl) tw_625 tw_626 tw_627 tw_5 tw_628 hd_Folder_firstClusterOf (by omega) (by decide) (ci := 1) rfl rfl rfl (Nat.le_of_ble_eq_true rfl) rfl rfl ?_
        obtain ⟨r16, h17, hf⟩ := ob_bind hf
        refine c_Vr (n := 90) (st' := []) [.int r14] [] d_V_enter_87 rfl (s_Ses_goDown htr h17 rfl) tw_665 tw_666 tw_667 tw_2 tw_668 hd_Ses_goDown (by omega) (by decide) (ci := 4) rfl rfl rfl (Nat.le_of_ble_eq_true rfl) rfl rfl ?_
        cases hf
        exact g_vret d_V_enter_90 rfl (Nat.zero_le _) (Nat.zero_le _)
      · have hf := ob_pos q13 hf
        cases hf
        exact c_T htr (by decide +kernel) e_NoSuchElementException_0 e_NoSuchElementException_1 e_NoSuchElementException_2 e_NoSuchElementException_5 tw_600 tw_15 rfl (List.mem_of_getElem? (i := 7) rfl) at_V_132 d_V_enter_65 d_V_enter_68 (Or.inl ⟨d_V_enter_69, rfl⟩) d_V_enter_71 d_V_enter_74 (Nat.le_of_ble_eq_true rfl)
    · have hf := ob_pos q8 hf
      refine g_aload_n (n := 26) d_V_enter_25 rfl 0 rfl rfl ?_
      refine g_get (n := 29) (q0 := 0) d_V_enter_26 rfl (am_fl in_V rfl (by decide : 0 < 8)) (List.mem_cons_of_mem _ tw_173) rfl rfl ?_
      obtain ⟨r18, h19, hf⟩ := ob_bind hf
      refine c_Vr (n := 32) (st' := []) [] [] d_V_enter_29 rfl (s_Ses_goToRoot htr h19 rfl) tw_660 tw_661 tw_662 tw_2 tw_663 hd_Ses_goToRoot (by omega) (by decide) (ci := 4) rfl rfl rfl (Nat.le_of_ble_eq_true rfl) rfl rfl ?_
      cases hf
      exact g_vret d_V_enter_32 rfl (Nat.zero_le _) (Nat.zero_le _)
def f_Ses_leastFreeHandle_L2 : Nat → (Nat → Int32) → Int32 → Option (Int32)
  | 0, _, _ => none
  | fuel + 1, en, x1 =>
  (if 4 ≤ x1 then some (-1) else (if am_in x1 4 = true then (if (en x1.toNatClampNeg) = (-1) then some x1 else f_Ses_leastFreeHandle_L2 fuel en (x1 + 1)) else none))
set_option maxHeartbeats 4000000 in
set_option maxRecDepth 100000 in
theorem s_Ses_leastFreeHandle_L2 {l : Launch} {D : va_G} {dA : FieldType → ClassId} (htr : l.stackTraces = false) {rest : List am_E} {ll : Int32} {he : Int32} {de : Int32} {li : Nat → Int32} {po : Nat → Int32} {pw : Int32} {su : Int32} {wr : Int32} {cs : Int32} {wb : Int32} {bt : Nat → Int32} {ct : Int32} {lc : Int32} {ad : Nat → Int32} {ctb : Int32} {lcb : Int32} {adb : Nat → Int32} {fx : Int32} {us : Nat → Int32} {ln : Int32} {pt : Int32} {tx : Nat → Int32} {br : Nat → Int32} {rw : Nat → Int32}  : ∀ (fuel : Nat) (en : Nat → Int32) (x1 : Int32) (r : Int32), f_Ses_leastFreeHandle_L2 fuel en x1 = some r → ∀ o : am_O, .inl (some (.int r)) = o →
    am_G (am_kk l D dA) (ws_Ses_leastFreeHandle, y_Ses_leastFreeHandle.cls, prog_6_method_7_code, 2, (some .int), y_Ses_leastFreeHandle.name, [], am_rm 0 (o), none) o (hC ll he de li en po pw su wr cs wb bt ct lc ad ctb lcb adb fx us ln pt tx br rw rest) 0 0 2 [(0, .ref 1), (1, .int x1)] [] (hC ll he de li en po pw su wr cs wb bt ct lc ad ctb lcb adb fx us ln pt tx br rw rest) := by
  intro fuel
  induction fuel with
  | zero =>
    intro en x1 r hf
    cases hf
  | succ fuel ih =>
    intro en x1 r hf o ho
    subst ho
    rw [f_Ses_leastFreeHandle_L2] at hf
    refine g_iload_n (n := 3) d_Ses_leastFreeHandle_2 rfl 1 rfl rfl ?_
    refine g_iconst (n := 4) (v := 4) d_Ses_leastFreeHandle_3 rfl (by decide) ?_
    refine g_icmp_ge (n := 7) (tgt := 25) d_Ses_leastFreeHandle_4 rfl (by decide) (fun q1 => ?_) (fun q1 => ?_)
    · have hf := ob_pos q1 hf
      refine g_iconst (n := 26) (v := (-1)) d_Ses_leastFreeHandle_25 rfl (by decide) ?_
      cases hf
      exact g_iret d_Ses_leastFreeHandle_26 rfl (Nat.zero_le _) (Nat.zero_le _)
    · have hf := ob_neg q1 hf
      refine g_aload_n (n := 8) d_Ses_leastFreeHandle_7 rfl 0 rfl rfl ?_
      refine g_get (n := 11) (q0 := 1) d_Ses_leastFreeHandle_8 rfl (am_fl in_Ses rfl (by decide : 1 < 6)) (List.mem_cons_of_mem _ tw_38) rfl rfl ?_
      refine g_iload_n (n := 12) d_Ses_leastFreeHandle_11 rfl 1 rfl rfl ?_
      obtain ⟨b2, hf⟩ := ob_chk hf
      refine g_iald (n := 13) (q0 := 3) d_Ses_leastFreeHandle_12 rfl rfl (am_inl b2) ?_
      refine g_iconst (n := 14) (v := (-1)) d_Ses_leastFreeHandle_13 rfl (by decide) ?_
      refine g_icmp_ne (n := 17) (tgt := 19) d_Ses_leastFreeHandle_14 rfl (by decide) (fun q3 => ?_) (fun q3 => ?_)
      · have hf := ob_neg q3 hf
        refine g_iinc (n := 22) (v := (x1 + 1)) (ls' := [(1, .int (x1 + 1)), (0, .ref 1)]) d_Ses_leastFreeHandle_19 rfl 1 rfl rfl (am_ltb rfl) rfl ?_
        refine g_goto (n := 2) d_Ses_leastFreeHandle_22 (by decide) ?_
        refine g_ls [1, 0] rfl ?_
        exact ih en (x1 + 1) _ hf _ rfl
      · have hf := ob_pos q3 hf
        refine g_iload_n (n := 18) d_Ses_leastFreeHandle_17 rfl 1 rfl rfl ?_
        cases hf
        exact g_iret d_Ses_leastFreeHandle_18 rfl (Nat.zero_le _) (Nat.zero_le _)
def f_Ses_leastFreeHandle (en : Nat → Int32) : Option (Int32) :=
  f_Ses_leastFreeHandle_L2 100000000000 en 0
set_option maxHeartbeats 4000000 in
set_option maxRecDepth 100000 in
theorem s_Ses_leastFreeHandle {l : Launch} {D : va_G} {dA : FieldType → ClassId} (htr : l.stackTraces = false) {rest : List am_E} {ll : Int32} {he : Int32} {de : Int32} {li : Nat → Int32} {en : Nat → Int32} {po : Nat → Int32} {pw : Int32} {su : Int32} {wr : Int32} {cs : Int32} {wb : Int32} {bt : Nat → Int32} {ct : Int32} {lc : Int32} {ad : Nat → Int32} {ctb : Int32} {lcb : Int32} {adb : Nat → Int32} {fx : Int32} {us : Nat → Int32} {ln : Int32} {pt : Int32} {tx : Nat → Int32} {br : Nat → Int32} {rw : Nat → Int32}   {r : Int32} (hf : f_Ses_leastFreeHandle en = some r) {o : am_O} (ho : .inl (some (.int r)) = o) :
    am_M (am_kk l D dA) y_Ses_leastFreeHandle ws_Ses_leastFreeHandle (am_rm 0 o) [.ref 1] (hC ll he de li en po pw su wr cs wb bt ct lc ad ctb lcb adb fx us ln pt tx br rw rest) o (hC ll he de li en po pw su wr cs wb bt ct lc ad ctb lcb adb fx us ln pt tx br rw rest) := by
  subst ho
  refine am_body (by decide) rfl (Nat.le_of_ble_eq_true rfl) rfl ?_
  rw [f_Ses_leastFreeHandle] at hf
  refine g_iconst (n := 1) (v := 0) d_Ses_leastFreeHandle_0 rfl (by decide) ?_
  refine g_istore_n (n := 2) (ls' := [(1, .int 0), (0, .ref 1)]) d_Ses_leastFreeHandle_1 rfl rfl (am_ltb rfl) rfl ?_
  refine g_ls [1, 0] rfl ?_
  exact s_Ses_leastFreeHandle_L2 htr 100000000000 en 0 _ hf _ rfl
def f_Ses_hold (en : Nat → Int32) (po : Nat → Int32) (x1 : Int32) (x2 : Int32) : Option ((Nat → Int32) × (Nat → Int32)) :=
  (if x1 < 0 then some (en, po) else (if 4 ≤ x1 then some (en, po) else (if am_in x1 4 = true then (if am_in x1 4 = true then some ((upd en x1.toNatClampNeg x2), (upd po x1.toNatClampNeg 0)) else none) else none)))
set_option maxHeartbeats 4000000 in
set_option maxRecDepth 100000 in
theorem s_Ses_hold {l : Launch} {D : va_G} {dA : FieldType → ClassId} (htr : l.stackTraces = false) {rest : List am_E} {ll : Int32} {he : Int32} {de : Int32} {li : Nat → Int32} {en : Nat → Int32} {po : Nat → Int32} {pw : Int32} {su : Int32} {wr : Int32} {cs : Int32} {wb : Int32} {bt : Nat → Int32} {ct : Int32} {lc : Int32} {ad : Nat → Int32} {ctb : Int32} {lcb : Int32} {adb : Nat → Int32} {fx : Int32} {us : Nat → Int32} {ln : Int32} {pt : Int32} {tx : Nat → Int32} {br : Nat → Int32} {rw : Nat → Int32}  {x1 : Int32} {x2 : Int32} {r : (Nat → Int32) × (Nat → Int32)} (hf : f_Ses_hold en po x1 x2 = some r) {o : am_O} (ho : .inl none = o) :
    am_M (am_kk l D dA) y_Ses_hold ws_Ses_hold (am_rm 0 o) [.ref 1, .int x1, .int x2] (hC ll he de li en po pw su wr cs wb bt ct lc ad ctb lcb adb fx us ln pt tx br rw rest) o (hC ll he de li r.1 r.2 pw su wr cs wb bt ct lc ad ctb lcb adb fx us ln pt tx br rw rest) := by
  subst ho
  refine am_body (by decide) rfl (Nat.le_of_ble_eq_true rfl) rfl ?_
  rw [f_Ses_hold] at hf
  refine g_iload_n (n := 1) d_Ses_hold_0 rfl 1 rfl rfl ?_
  refine g_if_lt (n := 4) (tgt := 23) d_Ses_hold_1 rfl (by decide) (fun q1 => ?_) (fun q1 => ?_)
  · have hf := ob_pos q1 hf
    cases hf
    exact g_vret d_Ses_hold_23 rfl (Nat.zero_le _) (Nat.zero_le _)
  · have hf := ob_neg q1 hf
    refine g_iload_n (n := 5) d_Ses_hold_4 rfl 1 rfl rfl ?_
    refine g_iconst (n := 6) (v := 4) d_Ses_hold_5 rfl (by decide) ?_
    refine g_icmp_ge (n := 9) (tgt := 23) d_Ses_hold_6 rfl (by decide) (fun q2 => ?_) (fun q2 => ?_)
    · have hf := ob_pos q2 hf
      cases hf
      exact g_vret d_Ses_hold_23 rfl (Nat.zero_le _) (Nat.zero_le _)
    · have hf := ob_neg q2 hf
      refine g_aload_n (n := 10) d_Ses_hold_9 rfl 0 rfl rfl ?_
      refine g_get (n := 13) (q0 := 1) d_Ses_hold_10 rfl (am_fl in_Ses rfl (by decide : 1 < 6)) (List.mem_cons_of_mem _ tw_38) rfl rfl ?_
      refine g_iload_n (n := 14) d_Ses_hold_13 rfl 1 rfl rfl ?_
      refine g_iload_n (n := 15) d_Ses_hold_14 rfl 2 rfl rfl ?_
      obtain ⟨b3, hf⟩ := ob_chk hf
      refine g_iast (n := 16) (q0 := 3) (h' := (hC ll he de li (upd en x1.toNatClampNeg x2) po pw su wr cs wb bt ct lc ad ctb lcb adb fx us ln pt tx br rw rest)) d_Ses_hold_15 rfl rfl (am_inl b3) rfl ?_
      refine g_aload_n (n := 17) d_Ses_hold_16 rfl 0 rfl rfl ?_
      refine g_get (n := 20) (q0 := 1) d_Ses_hold_17 rfl (am_fl in_Ses rfl (by decide : 2 < 6)) (List.mem_cons_of_mem _ tw_39) rfl rfl ?_
      refine g_iload_n (n := 21) d_Ses_hold_20 rfl 1 rfl rfl ?_
      refine g_iconst (n := 22) (v := 0) d_Ses_hold_21 rfl (by decide) ?_
      obtain ⟨b4, hf⟩ := ob_chk hf
      refine g_iast (n := 23) (q0 := 4) (h' := (hC ll he de li (upd en x1.toNatClampNeg x2) (upd po x1.toNatClampNeg 0) pw su wr cs wb bt ct lc ad ctb lcb adb fx us ln pt tx br rw rest)) d_Ses_hold_22 rfl rfl (am_inl b4) rfl ?_
      cases hf
      exact g_vret d_Ses_hold_23 rfl (Nat.zero_le _) (Nat.zero_le _)
def f_V_open (ll : Int32) (he : Int32) (li : Nat → Int32) (en : Nat → Int32) (po : Nat → Int32) (pw : Int32) (su : Int32) (bt : Nat → Int32) (ct : Int32) (lc : Int32) (ad : Nat → Int32) (ln : Int32) (tx : Nat → Int32) : Option ((String ⊕ Int32) × Int32 × (Nat → Int32) × (Nat → Int32) × Int32 × Int32 × (Nat → Int32) × Int32 × (Nat → Int32)) :=
  ((f_V_demandSoundDisk pw su).bind fun r1 => am_t r1 (fun E3 => some (.inl E3, ll, en, po, ct, lc, ad, ln, tx)) (fun v4 => ((f_Name_takeLineOf ll li ln tx).bind fun r6 => ((f_Folder_load bt ct lc ad he).bind fun r8 => ((f_Folder_find bt r8.1 r8.2.2 r6.2.1 r6.2.2 1).bind fun r10 => (if r10 = (-1) then some (.inl "java/util/NoSuchElementException", r6.1, en, po, r8.1, r8.2.1, r8.2.2, r6.2.1, r6.2.2) else ((f_Ses_leastFreeHandle en).bind fun r13 => (if r13 = (-1) then some (.inl "java/lang/UnsupportedOperationException", r6.1, en, po, r8.1, r8.2.1, r8.2.2, r6.2.1, r6.2.2) else ((f_Folder_addressOf r8.1 r8.2.2 r10).bind fun r16 => ((f_Ses_hold en po r13 r16).bind fun r18 => some (.inr r13, r6.1, r18.1, r18.2, r8.1, r8.2.1, r8.2.2, r6.2.1, r6.2.2)))))))))))
set_option maxHeartbeats 4000000 in
set_option maxRecDepth 100000 in
theorem s_V_open {l : Launch} {D : va_G} {dA : FieldType → ClassId} (htr : l.stackTraces = false) {rest : List am_E} {ll : Int32} {he : Int32} {de : Int32} {li : Nat → Int32} {en : Nat → Int32} {po : Nat → Int32} {pw : Int32} {su : Int32} {wr : Int32} {cs : Int32} {wb : Int32} {bt : Nat → Int32} {ct : Int32} {lc : Int32} {ad : Nat → Int32} {ctb : Int32} {lcb : Int32} {adb : Nat → Int32} {fx : Int32} {us : Nat → Int32} {ln : Int32} {pt : Int32} {tx : Nat → Int32} {br : Nat → Int32} {rw : Nat → Int32}   {r : (String ⊕ Int32) × Int32 × (Nat → Int32) × (Nat → Int32) × Int32 × Int32 × (Nat → Int32) × Int32 × (Nat → Int32)} (hf : f_V_open ll he li en po pw su bt ct lc ad ln tx = some r) {o : am_O} (ho : am_oi r.1 = o) :
    am_M (am_kk l D dA) y_V_open ws_V_open (am_rm 7 o) [.ref 0] (hC ll he de li en po pw su wr cs wb bt ct lc ad ctb lcb adb fx us ln pt tx br rw rest) o (hC r.2.1 he de li r.2.2.1 r.2.2.2.1 pw su wr cs wb bt r.2.2.2.2.1 r.2.2.2.2.2.1 r.2.2.2.2.2.2.1 ctb lcb adb fx us r.2.2.2.2.2.2.2.1 pt r.2.2.2.2.2.2.2.2 br rw rest) := by
  subst ho
  refine am_body (by decide) rfl (Nat.le_of_ble_eq_true rfl) rfl ?_
  rw [f_V_open] at hf
  refine g_aload_n (n := 1) d_V_open_0 rfl 0 rfl rfl ?_
  obtain ⟨r1, h2, hf⟩ := ob_bind hf
  rcases ob_t hf with ⟨E3, w5, hf⟩ | ⟨v4, w5, hf⟩
  · cases hf
    refine c_Vx (n := 4) (st' := []) [] [] d_V_open_1 rfl (s_V_demandSoundDisk htr h2 (by rw [w5]; rfl)) tw_305 tw_307 (am_memS 1 (by decide +kernel) (by decide +kernel)) tw_1 tw_308 hd_V_demandSoundDisk (by omega) (by decide) (ci := 6) rfl rfl rfl (Nat.le_of_ble_eq_true rfl) rfl ?_
    exact g_out rfl (Nat.le_refl _) (Nat.le_refl _)
  · refine c_Vr (n := 4) (st' := []) [] [] d_V_open_1 rfl (s_V_demandSoundDisk htr h2 (by rw [w5]; rfl)) tw_305 tw_307 (am_memS 1 (by decide +kernel) (by decide +kernel)) tw_1 tw_308 hd_V_demandSoundDisk (by omega) (by decide) (ci := 6) rfl rfl rfl (Nat.le_of_ble_eq_true rfl) rfl rfl ?_
    refine g_aload_n (n := 5) d_V_open_4 rfl 0 rfl rfl ?_
    refine g_get (n := 8) (q0 := 0) d_V_open_5 rfl (am_fl in_V rfl (by decide : 6 < 8)) (List.mem_cons_of_mem _ tw_179) rfl rfl ?_
    refine g_aload_n (n := 9) d_V_open_8 rfl 0 rfl rfl ?_
    refine g_get (n := 12) (q0 := 0) d_V_open_9 rfl (am_fl in_V rfl (by decide : 0 < 8)) (List.mem_cons_of_mem _ tw_173) rfl rfl ?_
    obtain ⟨r6, h7, hf⟩ := ob_bind hf
    refine c_Vr (n := 15) (st' := []) [.ref 1] [] d_V_open_12 rfl (s_Name_takeLineOf htr h7 rfl) tw_379 tw_380 tw_381 tw_7 tw_382 hd_Name_takeLineOf (by omega) (by decide) (ci := 2) rfl rfl rfl (Nat.le_of_ble_eq_true rfl) rfl rfl ?_
    refine g_aload_n (n := 16) d_V_open_15 rfl 0 rfl rfl ?_
    refine g_get (n := 19) (q0 := 0) d_V_open_16 rfl (am_fl in_V rfl (by decide : 3 < 8)) (List.mem_cons_of_mem _ tw_176) rfl rfl ?_
    refine g_aload_n (n := 20) d_V_open_19 rfl 0 rfl rfl ?_
    refine g_get (n := 23) (q0 := 0) d_V_open_20 rfl (am_fl in_V rfl (by decide : 0 < 8)) (List.mem_cons_of_mem _ tw_173) rfl rfl ?_
    refine g_getN (n := 26) (q0 := 1) d_V_open_23 rfl (am_fl in_Ses rfl (by decide : 4 < 6)) nw_45 rfl rfl ?_
    obtain ⟨r8, h9, hf⟩ := ob_bind hf
    refine c_Vr (n := 29) (st' := []) [.int he] [] d_V_open_26 rfl (s_Folder_load htr h9 rfl) tw_407 tw_408 tw_409 tw_5 tw_410 hd_Folder_load (by omega) (by decide) (ci := 1) rfl rfl rfl (Nat.le_of_ble_eq_true rfl) rfl rfl ?_
    refine g_aload_n (n := 30) d_V_open_29 rfl 0 rfl rfl ?_
    refine g_get (n := 33) (q0 := 0) d_V_open_30 rfl (am_fl in_V rfl (by decide : 3 < 8)) (List.mem_cons_of_mem _ tw_176) rfl rfl ?_
    refine g_aload_n (n := 34) d_V_open_33 rfl 0 rfl rfl ?_
    refine g_get (n := 37) (q0 := 0) d_V_open_34 rfl (am_fl in_V rfl (by decide : 6 < 8)) (List.mem_cons_of_mem _ tw_179) rfl rfl ?_
    refine g_iconst (n := 38) (v := 1) d_V_open_37 rfl (by decide) ?_
    obtain ⟨r10, h11, hf⟩ := ob_bind hf
    refine c_Vr (n := 41) (st' := [.int r10]) [.ref 14, .int 1] [] d_V_open_38 rfl (s_Folder_find htr h11 rfl) tw_418 tw_419 tw_420 tw_5 tw_421 hd_Folder_find (by omega) (by decide) (ci := 1) rfl rfl rfl (Nat.le_of_ble_eq_true rfl) rfl rfl ?_
    refine g_istore_n (n := 42) (ls' := [(1, .int r10), (0, .ref 0)]) d_V_open_41 rfl rfl (am_ltb rfl) rfl ?_
    refine g_iload_n (n := 43) d_V_open_42 rfl 0 rfl rfl ?_
    refine g_iconst (n := 44) (v := (-1)) d_V_open_43 rfl (by decide) ?_
    refine g_icmp_ne (n := 47) (tgt := 57) d_V_open_44 rfl (by decide) (fun q12 => ?_) (fun q12 => ?_)
    · have hf := ob_neg q12 hf
      refine g_aload_n (n := 58) d_V_open_57 rfl 1 rfl rfl ?_
      refine g_get (n := 61) (q0 := 0) d_V_open_58 rfl (am_fl in_V rfl (by decide : 0 < 8)) (List.mem_cons_of_mem _ tw_173) rfl rfl ?_
      obtain ⟨r13, h14, hf⟩ := ob_bind hf
      refine c_Vr (n := 64) (st' := [.int r13]) [] [] d_V_open_61 rfl (s_Ses_leastFreeHandle htr h14 rfl) tw_677 tw_678 tw_679 tw_2 tw_680 hd_Ses_leastFreeHandle (by omega) (by decide) (ci := 4) rfl rfl rfl (Nat.le_of_ble_eq_true rfl) rfl rfl ?_
      refine g_istore_n (n := 65) (ls' := [(2, .int r13), (1, .int r10), (0, .ref 0)]) d_V_open_64 rfl rfl (am_ltb rfl) rfl ?_
      refine g_iload_n (n := 66) d_V_open_65 rfl 0 rfl rfl ?_
      refine g_iconst (n := 67) (v := (-1)) d_V_open_66 rfl (by decide) ?_
      refine g_icmp_ne (n := 70) (tgt := 80) d_V_open_67 rfl (by decide) (fun q15 => ?_) (fun q15 => ?_)
      · have hf := ob_neg q15 hf
        refine g_aload_n (n := 81) d_V_open_80 rfl 2 rfl rfl ?_
        refine g_get (n := 84) (q0 := 0) d_V_open_81 rfl (am_fl in_V rfl (by decide : 0 < 8)) (List.mem_cons_of_mem _ tw_173) rfl rfl ?_
        refine g_iload_n (n := 85) d_V_open_84 rfl 0 rfl rfl ?_
        refine g_aload_n (n := 86) d_V_open_85 rfl 2 rfl rfl ?_
        refine g_get (n := 89) (q0 := 0) d_V_open_86 rfl (am_fl in_V rfl (by decide : 3 < 8)) (List.mem_cons_of_mem _ tw_176) rfl rfl ?_
        refine g_iload_n (n := 90) d_V_open_89 rfl 1 rfl rfl ?_
        obtain ⟨r16, h17, hf⟩ := ob_bind hf
        refine c_Vr (n := 93) (st' := [.int r16, .int r13, .ref 1]) [.int r10] [.int r13, .ref 1] d_V_open_90 rfl (s_Folder_addressOf htr h17 rfl) tw_580 tw_581 tw_582 tw_5 tw_583 hd_Folder_addressOf (by omega) (by decide) (ci := 1) rfl rfl rfl (Nat.le_of_ble_eq_true rfl) rfl rfl ?_
        obtain ⟨r18, h19, hf⟩ := ob_bind hf
        refine c_Vr (n := 96) (st' := []) [.int r13, .int r16] [] d_V_open_93 rfl (s_Ses_hold htr h19 rfl) tw_682 tw_683 tw_684 tw_2 tw_685 hd_Ses_hold (by omega) (by decide) (ci := 4) rfl rfl rfl (Nat.le_of_ble_eq_true rfl) rfl rfl ?_
        refine g_iload_n (n := 97) d_V_open_96 rfl 0 rfl rfl ?_
        cases hf
        exact g_iret d_V_open_97 rfl (Nat.zero_le _) (Nat.zero_le _)
      · have hf := ob_pos q15 hf
        cases hf
        exact c_T htr (by decide +kernel) e_UnsupportedOperationException_0 e_UnsupportedOperationException_1 e_UnsupportedOperationException_2 e_UnsupportedOperationException_5 tw_505 tw_14 rfl (List.mem_of_getElem? (i := 9) rfl) at_V_110 d_V_open_70 d_V_open_73 (Or.inl ⟨d_V_open_74, rfl⟩) d_V_open_76 d_V_open_79 (Nat.le_of_ble_eq_true rfl)
    · have hf := ob_pos q12 hf
      cases hf
      exact c_T htr (by decide +kernel) e_NoSuchElementException_0 e_NoSuchElementException_1 e_NoSuchElementException_2 e_NoSuchElementException_5 tw_600 tw_15 rfl (List.mem_of_getElem? (i := 8) rfl) at_V_132 d_V_open_47 d_V_open_50 (Or.inl ⟨d_V_open_51, rfl⟩) d_V_open_53 d_V_open_56 (Nat.le_of_ble_eq_true rfl)
def f_Ses_isOpen (en : Nat → Int32) (x1 : Int32) : Option (Int32) :=
  (if x1 < 0 then some 0 else (if 4 ≤ x1 then some 0 else (if am_in x1 4 = true then (if (en x1.toNatClampNeg) = (-1) then some 0 else some 1) else none)))
set_option maxHeartbeats 4000000 in
set_option maxRecDepth 100000 in
theorem s_Ses_isOpen {l : Launch} {D : va_G} {dA : FieldType → ClassId} (htr : l.stackTraces = false) {rest : List am_E} {ll : Int32} {he : Int32} {de : Int32} {li : Nat → Int32} {en : Nat → Int32} {po : Nat → Int32} {pw : Int32} {su : Int32} {wr : Int32} {cs : Int32} {wb : Int32} {bt : Nat → Int32} {ct : Int32} {lc : Int32} {ad : Nat → Int32} {ctb : Int32} {lcb : Int32} {adb : Nat → Int32} {fx : Int32} {us : Nat → Int32} {ln : Int32} {pt : Int32} {tx : Nat → Int32} {br : Nat → Int32} {rw : Nat → Int32}  {x1 : Int32} {r : Int32} (hf : f_Ses_isOpen en x1 = some r) {o : am_O} (ho : .inl (some (.int r)) = o) :
    am_M (am_kk l D dA) y_Ses_isOpen ws_Ses_isOpen (am_rm 0 o) [.ref 1, .int x1] (hC ll he de li en po pw su wr cs wb bt ct lc ad ctb lcb adb fx us ln pt tx br rw rest) o (hC ll he de li en po pw su wr cs wb bt ct lc ad ctb lcb adb fx us ln pt tx br rw rest) := by
  subst ho
  refine am_body (by decide) rfl (Nat.le_of_ble_eq_true rfl) rfl ?_
  rw [f_Ses_isOpen] at hf
  refine g_iload_n (n := 1) d_Ses_isOpen_0 rfl 1 rfl rfl ?_
  refine g_if_lt (n := 4) (tgt := 23) d_Ses_isOpen_1 rfl (by decide) (fun q1 => ?_) (fun q1 => ?_)
  · have hf := ob_pos q1 hf
    refine g_iconst (n := 24) (v := 0) d_Ses_isOpen_23 rfl (by decide) ?_
    cases hf
    exact g_zret d_Ses_isOpen_24 rfl am_z0 (Nat.zero_le _) (Nat.zero_le _)
  · have hf := ob_neg q1 hf
    refine g_iload_n (n := 5) d_Ses_isOpen_4 rfl 1 rfl rfl ?_
    refine g_iconst (n := 6) (v := 4) d_Ses_isOpen_5 rfl (by decide) ?_
    refine g_icmp_ge (n := 9) (tgt := 23) d_Ses_isOpen_6 rfl (by decide) (fun q2 => ?_) (fun q2 => ?_)
    · have hf := ob_pos q2 hf
      refine g_iconst (n := 24) (v := 0) d_Ses_isOpen_23 rfl (by decide) ?_
      cases hf
      exact g_zret d_Ses_isOpen_24 rfl am_z0 (Nat.zero_le _) (Nat.zero_le _)
    · have hf := ob_neg q2 hf
      refine g_aload_n (n := 10) d_Ses_isOpen_9 rfl 0 rfl rfl ?_
      refine g_get (n := 13) (q0 := 1) d_Ses_isOpen_10 rfl (am_fl in_Ses rfl (by decide : 1 < 6)) (List.mem_cons_of_mem _ tw_38) rfl rfl ?_
      refine g_iload_n (n := 14) d_Ses_isOpen_13 rfl 1 rfl rfl ?_
      obtain ⟨b3, hf⟩ := ob_chk hf
      refine g_iald (n := 15) (q0 := 3) d_Ses_isOpen_14 rfl rfl (am_inl b3) ?_
      refine g_iconst (n := 16) (v := (-1)) d_Ses_isOpen_15 rfl (by decide) ?_
      refine g_icmp_eq (n := 19) (tgt := 23) d_Ses_isOpen_16 rfl (by decide) (fun q4 => ?_) (fun q4 => ?_)
      · have hf := ob_pos q4 hf
        refine g_iconst (n := 24) (v := 0) d_Ses_isOpen_23 rfl (by decide) ?_
        cases hf
        exact g_zret d_Ses_isOpen_24 rfl am_z0 (Nat.zero_le _) (Nat.zero_le _)
      · have hf := ob_neg q4 hf
        refine g_iconst (n := 20) (v := 1) d_Ses_isOpen_19 rfl (by decide) ?_
        refine g_goto (n := 24) d_Ses_isOpen_20 (by decide) ?_
        cases hf
        exact g_zret d_Ses_isOpen_24 rfl am_z1 (Nat.zero_le _) (Nat.zero_le _)
def f_Ses_drop (en : Nat → Int32) (x1 : Int32) : Option ((Nat → Int32)) :=
  (if x1 < 0 then some en else (if 4 ≤ x1 then some en else (if am_in x1 4 = true then some (upd en x1.toNatClampNeg (-1)) else none)))
set_option maxHeartbeats 4000000 in
set_option maxRecDepth 100000 in
theorem s_Ses_drop {l : Launch} {D : va_G} {dA : FieldType → ClassId} (htr : l.stackTraces = false) {rest : List am_E} {ll : Int32} {he : Int32} {de : Int32} {li : Nat → Int32} {en : Nat → Int32} {po : Nat → Int32} {pw : Int32} {su : Int32} {wr : Int32} {cs : Int32} {wb : Int32} {bt : Nat → Int32} {ct : Int32} {lc : Int32} {ad : Nat → Int32} {ctb : Int32} {lcb : Int32} {adb : Nat → Int32} {fx : Int32} {us : Nat → Int32} {ln : Int32} {pt : Int32} {tx : Nat → Int32} {br : Nat → Int32} {rw : Nat → Int32}  {x1 : Int32} {r : (Nat → Int32)} (hf : f_Ses_drop en x1 = some r) {o : am_O} (ho : .inl none = o) :
    am_M (am_kk l D dA) y_Ses_drop ws_Ses_drop (am_rm 0 o) [.ref 1, .int x1] (hC ll he de li en po pw su wr cs wb bt ct lc ad ctb lcb adb fx us ln pt tx br rw rest) o (hC ll he de li r po pw su wr cs wb bt ct lc ad ctb lcb adb fx us ln pt tx br rw rest) := by
  subst ho
  refine am_body (by decide) rfl (Nat.le_of_ble_eq_true rfl) rfl ?_
  rw [f_Ses_drop] at hf
  refine g_iload_n (n := 1) d_Ses_drop_0 rfl 1 rfl rfl ?_
  refine g_if_lt (n := 4) (tgt := 16) d_Ses_drop_1 rfl (by decide) (fun q1 => ?_) (fun q1 => ?_)
  · have hf := ob_pos q1 hf
    cases hf
    exact g_vret d_Ses_drop_16 rfl (Nat.zero_le _) (Nat.zero_le _)
  · have hf := ob_neg q1 hf
    refine g_iload_n (n := 5) d_Ses_drop_4 rfl 1 rfl rfl ?_
    refine g_iconst (n := 6) (v := 4) d_Ses_drop_5 rfl (by decide) ?_
    refine g_icmp_ge (n := 9) (tgt := 16) d_Ses_drop_6 rfl (by decide) (fun q2 => ?_) (fun q2 => ?_)
    · have hf := ob_pos q2 hf
      cases hf
      exact g_vret d_Ses_drop_16 rfl (Nat.zero_le _) (Nat.zero_le _)
    · have hf := ob_neg q2 hf
      refine g_aload_n (n := 10) d_Ses_drop_9 rfl 0 rfl rfl ?_
      refine g_get (n := 13) (q0 := 1) d_Ses_drop_10 rfl (am_fl in_Ses rfl (by decide : 1 < 6)) (List.mem_cons_of_mem _ tw_38) rfl rfl ?_
      refine g_iload_n (n := 14) d_Ses_drop_13 rfl 1 rfl rfl ?_
      refine g_iconst (n := 15) (v := (-1)) d_Ses_drop_14 rfl (by decide) ?_
      obtain ⟨b3, hf⟩ := ob_chk hf
      refine g_iast (n := 16) (q0 := 3) (h' := (hC ll he de li (upd en x1.toNatClampNeg (-1)) po pw su wr cs wb bt ct lc ad ctb lcb adb fx us ln pt tx br rw rest)) d_Ses_drop_15 rfl rfl (am_inl b3) rfl ?_
      cases hf
      exact g_vret d_Ses_drop_16 rfl (Nat.zero_le _) (Nat.zero_le _)
def f_V_close (en : Nat → Int32) (x1 : Int32) : Option (Int32 × (Nat → Int32)) :=
  ((f_Ses_isOpen en x1).bind fun r1 => (if r1 = 0 then some (0, en) else ((f_Ses_drop en x1).bind fun r4 => some (1, r4))))
set_option maxHeartbeats 4000000 in
set_option maxRecDepth 100000 in
theorem s_V_close {l : Launch} {D : va_G} {dA : FieldType → ClassId} (htr : l.stackTraces = false) {rest : List am_E} {ll : Int32} {he : Int32} {de : Int32} {li : Nat → Int32} {en : Nat → Int32} {po : Nat → Int32} {pw : Int32} {su : Int32} {wr : Int32} {cs : Int32} {wb : Int32} {bt : Nat → Int32} {ct : Int32} {lc : Int32} {ad : Nat → Int32} {ctb : Int32} {lcb : Int32} {adb : Nat → Int32} {fx : Int32} {us : Nat → Int32} {ln : Int32} {pt : Int32} {tx : Nat → Int32} {br : Nat → Int32} {rw : Nat → Int32}  {x1 : Int32} {r : Int32 × (Nat → Int32)} (hf : f_V_close en x1 = some r) {o : am_O} (ho : .inl (some (.int r.1)) = o) :
    am_M (am_kk l D dA) y_V_close ws_V_close (am_rm 1 o) [.ref 0, .int x1] (hC ll he de li en po pw su wr cs wb bt ct lc ad ctb lcb adb fx us ln pt tx br rw rest) o (hC ll he de li r.2 po pw su wr cs wb bt ct lc ad ctb lcb adb fx us ln pt tx br rw rest) := by
  subst ho
  refine am_body (by decide) rfl (Nat.le_of_ble_eq_true rfl) rfl ?_
  rw [f_V_close] at hf
  refine g_aload_n (n := 1) d_V_close_0 rfl 0 rfl rfl ?_
  refine g_get (n := 4) (q0 := 0) d_V_close_1 rfl (am_fl in_V rfl (by decide : 0 < 8)) (List.mem_cons_of_mem _ tw_173) rfl rfl ?_
  refine g_iload_n (n := 5) d_V_close_4 rfl 1 rfl rfl ?_
  obtain ⟨r1, h2, hf⟩ := ob_bind hf
  refine c_Vr (n := 8) (st' := [.int r1]) [.int x1] [] d_V_close_5 rfl (s_Ses_isOpen htr h2 rfl) tw_210 tw_211 tw_212 tw_2 tw_213 hd_Ses_isOpen (by omega) (by decide) (ci := 4) rfl rfl rfl (Nat.le_of_ble_eq_true rfl) rfl rfl ?_
  refine g_if_ne (n := 11) (tgt := 13) d_V_close_8 rfl (by decide) (fun q3 => ?_) (fun q3 => ?_)
  · have hf := ob_neg q3 hf
    refine g_aload_n (n := 14) d_V_close_13 rfl 0 rfl rfl ?_
    refine g_get (n := 17) (q0 := 0) d_V_close_14 rfl (am_fl in_V rfl (by decide : 0 < 8)) (List.mem_cons_of_mem _ tw_173) rfl rfl ?_
    refine g_iload_n (n := 18) d_V_close_17 rfl 1 rfl rfl ?_
    obtain ⟨r4, h5, hf⟩ := ob_bind hf
    refine c_Vr (n := 21) (st' := []) [.int x1] [] d_V_close_18 rfl (s_Ses_drop htr h5 rfl) tw_214 tw_215 tw_216 tw_2 tw_217 hd_Ses_drop (by omega) (by decide) (ci := 4) rfl rfl rfl (Nat.le_of_ble_eq_true rfl) rfl rfl ?_
    refine g_iconst (n := 22) (v := 1) d_V_close_21 rfl (by decide) ?_
    cases hf
    exact g_zret d_V_close_22 rfl am_z1 (Nat.zero_le _) (Nat.zero_le _)
  · have hf := ob_pos q3 hf
    refine g_iconst (n := 12) (v := 0) d_V_close_11 rfl (by decide) ?_
    cases hf
    exact g_zret d_V_close_12 rfl am_z0 (Nat.zero_le _) (Nat.zero_le _)
def f_Ses_entryOf (en : Nat → Int32) (x1 : Int32) : Option (Int32) :=
  (if x1 < 0 then some (-1) else (if 4 ≤ x1 then some (-1) else (if am_in x1 4 = true then some (en x1.toNatClampNeg) else none)))
set_option maxHeartbeats 4000000 in
set_option maxRecDepth 100000 in
theorem s_Ses_entryOf {l : Launch} {D : va_G} {dA : FieldType → ClassId} (htr : l.stackTraces = false) {rest : List am_E} {ll : Int32} {he : Int32} {de : Int32} {li : Nat → Int32} {en : Nat → Int32} {po : Nat → Int32} {pw : Int32} {su : Int32} {wr : Int32} {cs : Int32} {wb : Int32} {bt : Nat → Int32} {ct : Int32} {lc : Int32} {ad : Nat → Int32} {ctb : Int32} {lcb : Int32} {adb : Nat → Int32} {fx : Int32} {us : Nat → Int32} {ln : Int32} {pt : Int32} {tx : Nat → Int32} {br : Nat → Int32} {rw : Nat → Int32}  {x1 : Int32} {r : Int32} (hf : f_Ses_entryOf en x1 = some r) {o : am_O} (ho : .inl (some (.int r)) = o) :
    am_M (am_kk l D dA) y_Ses_entryOf ws_Ses_entryOf (am_rm 0 o) [.ref 1, .int x1] (hC ll he de li en po pw su wr cs wb bt ct lc ad ctb lcb adb fx us ln pt tx br rw rest) o (hC ll he de li en po pw su wr cs wb bt ct lc ad ctb lcb adb fx us ln pt tx br rw rest) := by
  subst ho
  refine am_body (by decide) rfl (Nat.le_of_ble_eq_true rfl) rfl ?_
  rw [f_Ses_entryOf] at hf
  refine g_iload_n (n := 1) d_Ses_entryOf_0 rfl 1 rfl rfl ?_
  refine g_if_lt (n := 4) (tgt := 18) d_Ses_entryOf_1 rfl (by decide) (fun q1 => ?_) (fun q1 => ?_)
  · have hf := ob_pos q1 hf
    refine g_iconst (n := 19) (v := (-1)) d_Ses_entryOf_18 rfl (by decide) ?_
    cases hf
    exact g_iret d_Ses_entryOf_19 rfl (Nat.zero_le _) (Nat.zero_le _)
  · have hf := ob_neg q1 hf
    refine g_iload_n (n := 5) d_Ses_entryOf_4 rfl 1 rfl rfl ?_
    refine g_iconst (n := 6) (v := 4) d_Ses_entryOf_5 rfl (by decide) ?_
    refine g_icmp_ge (n := 9) (tgt := 18) d_Ses_entryOf_6 rfl (by decide) (fun q2 => ?_) (fun q2 => ?_)
    · have hf := ob_pos q2 hf
      refine g_iconst (n := 19) (v := (-1)) d_Ses_entryOf_18 rfl (by decide) ?_
      cases hf
      exact g_iret d_Ses_entryOf_19 rfl (Nat.zero_le _) (Nat.zero_le _)
    · have hf := ob_neg q2 hf
      refine g_aload_n (n := 10) d_Ses_entryOf_9 rfl 0 rfl rfl ?_
      refine g_get (n := 13) (q0 := 1) d_Ses_entryOf_10 rfl (am_fl in_Ses rfl (by decide : 1 < 6)) (List.mem_cons_of_mem _ tw_38) rfl rfl ?_
      refine g_iload_n (n := 14) d_Ses_entryOf_13 rfl 1 rfl rfl ?_
      obtain ⟨b3, hf⟩ := ob_chk hf
      refine g_iald (n := 15) (q0 := 3) d_Ses_entryOf_14 rfl rfl (am_inl b3) ?_
      refine g_goto (n := 19) d_Ses_entryOf_15 (by decide) ?_
      cases hf
      exact g_iret d_Ses_entryOf_19 rfl (Nat.zero_le _) (Nat.zero_le _)
def f_V_sizeOfFile (en : Nat → Int32) (bt : Nat → Int32) (x1 : Int32) : Option (Int32) :=
  ((f_Ses_entryOf en x1).bind fun r1 => ((f_Disk_pairAt bt (r1 + 10)).bind fun r3 => some r3))
set_option maxHeartbeats 4000000 in
set_option maxRecDepth 100000 in
theorem s_V_sizeOfFile {l : Launch} {D : va_G} {dA : FieldType → ClassId} (htr : l.stackTraces = false) {rest : List am_E} {ll : Int32} {he : Int32} {de : Int32} {li : Nat → Int32} {en : Nat → Int32} {po : Nat → Int32} {pw : Int32} {su : Int32} {wr : Int32} {cs : Int32} {wb : Int32} {bt : Nat → Int32} {ct : Int32} {lc : Int32} {ad : Nat → Int32} {ctb : Int32} {lcb : Int32} {adb : Nat → Int32} {fx : Int32} {us : Nat → Int32} {ln : Int32} {pt : Int32} {tx : Nat → Int32} {br : Nat → Int32} {rw : Nat → Int32}  {x1 : Int32} {r : Int32} (hf : f_V_sizeOfFile en bt x1 = some r) {o : am_O} (ho : .inl (some (.int r)) = o) :
    am_M (am_kk l D dA) y_V_sizeOfFile ws_V_sizeOfFile (am_rm 1 o) [.ref 0, .int x1] (hC ll he de li en po pw su wr cs wb bt ct lc ad ctb lcb adb fx us ln pt tx br rw rest) o (hC ll he de li en po pw su wr cs wb bt ct lc ad ctb lcb adb fx us ln pt tx br rw rest) := by
  subst ho
  refine am_body (by decide) rfl (Nat.le_of_ble_eq_true rfl) rfl ?_
  rw [f_V_sizeOfFile] at hf
  refine g_aload_n (n := 1) d_V_sizeOfFile_0 rfl 0 rfl rfl ?_
  refine g_get (n := 4) (q0 := 0) d_V_sizeOfFile_1 rfl (am_fl in_V rfl (by decide : 1 < 8)) (List.mem_cons_of_mem _ tw_174) rfl rfl ?_
  refine g_aload_n (n := 5) d_V_sizeOfFile_4 rfl 0 rfl rfl ?_
  refine g_get (n := 8) (q0 := 0) d_V_sizeOfFile_5 rfl (am_fl in_V rfl (by decide : 0 < 8)) (List.mem_cons_of_mem _ tw_173) rfl rfl ?_
  refine g_iload_n (n := 9) d_V_sizeOfFile_8 rfl 1 rfl rfl ?_
  obtain ⟨r1, h2, hf⟩ := ob_bind hf
  refine c_Vr (n := 12) (st' := [.int r1, .ref 5]) [.int x1] [.ref 5] d_V_sizeOfFile_9 rfl (s_Ses_entryOf htr h2 rfl) tw_226 tw_227 tw_228 tw_2 tw_229 hd_Ses_entryOf (by omega) (by decide) (ci := 4) rfl rfl rfl (Nat.le_of_ble_eq_true rfl) rfl rfl ?_
  refine g_bipush (n := 14) (v := 10) d_V_sizeOfFile_12 rfl (by decide) ?_
  refine g_iadd (n := 15) d_V_sizeOfFile_14 rfl ?_
  obtain ⟨r3, h4, hf⟩ := ob_bind hf
  refine c_Vr (n := 18) (st' := [.int r3]) [.int (r1 + 10)] [] d_V_sizeOfFile_15 rfl (s_Disk_pairAt htr h4 rfl) tw_230 tw_231 tw_232 tw_3 tw_233 hd_Disk_pairAt (by omega) (by decide) (ci := 0) rfl rfl rfl (Nat.le_of_ble_eq_true rfl) rfl rfl ?_
  cases hf
  exact g_iret d_V_sizeOfFile_18 rfl (Nat.zero_le _) (Nat.zero_le _)
def f_Ses_moveTo (po : Nat → Int32) (x1 : Int32) (x2 : Int32) : Option ((Nat → Int32)) :=
  (if x1 < 0 then some po else (if 4 ≤ x1 then some po else (if am_in x1 4 = true then some (upd po x1.toNatClampNeg x2) else none)))
set_option maxHeartbeats 4000000 in
set_option maxRecDepth 100000 in
theorem s_Ses_moveTo {l : Launch} {D : va_G} {dA : FieldType → ClassId} (htr : l.stackTraces = false) {rest : List am_E} {ll : Int32} {he : Int32} {de : Int32} {li : Nat → Int32} {en : Nat → Int32} {po : Nat → Int32} {pw : Int32} {su : Int32} {wr : Int32} {cs : Int32} {wb : Int32} {bt : Nat → Int32} {ct : Int32} {lc : Int32} {ad : Nat → Int32} {ctb : Int32} {lcb : Int32} {adb : Nat → Int32} {fx : Int32} {us : Nat → Int32} {ln : Int32} {pt : Int32} {tx : Nat → Int32} {br : Nat → Int32} {rw : Nat → Int32}  {x1 : Int32} {x2 : Int32} {r : (Nat → Int32)} (hf : f_Ses_moveTo po x1 x2 = some r) {o : am_O} (ho : .inl none = o) :
    am_M (am_kk l D dA) y_Ses_moveTo ws_Ses_moveTo (am_rm 0 o) [.ref 1, .int x1, .int x2] (hC ll he de li en po pw su wr cs wb bt ct lc ad ctb lcb adb fx us ln pt tx br rw rest) o (hC ll he de li en r pw su wr cs wb bt ct lc ad ctb lcb adb fx us ln pt tx br rw rest) := by
  subst ho
  refine am_body (by decide) rfl (Nat.le_of_ble_eq_true rfl) rfl ?_
  rw [f_Ses_moveTo] at hf
  refine g_iload_n (n := 1) d_Ses_moveTo_0 rfl 1 rfl rfl ?_
  refine g_if_lt (n := 4) (tgt := 16) d_Ses_moveTo_1 rfl (by decide) (fun q1 => ?_) (fun q1 => ?_)
  · have hf := ob_pos q1 hf
    cases hf
    exact g_vret d_Ses_moveTo_16 rfl (Nat.zero_le _) (Nat.zero_le _)
  · have hf := ob_neg q1 hf
    refine g_iload_n (n := 5) d_Ses_moveTo_4 rfl 1 rfl rfl ?_
    refine g_iconst (n := 6) (v := 4) d_Ses_moveTo_5 rfl (by decide) ?_
    refine g_icmp_ge (n := 9) (tgt := 16) d_Ses_moveTo_6 rfl (by decide) (fun q2 => ?_) (fun q2 => ?_)
    · have hf := ob_pos q2 hf
      cases hf
      exact g_vret d_Ses_moveTo_16 rfl (Nat.zero_le _) (Nat.zero_le _)
    · have hf := ob_neg q2 hf
      refine g_aload_n (n := 10) d_Ses_moveTo_9 rfl 0 rfl rfl ?_
      refine g_get (n := 13) (q0 := 1) d_Ses_moveTo_10 rfl (am_fl in_Ses rfl (by decide : 2 < 6)) (List.mem_cons_of_mem _ tw_39) rfl rfl ?_
      refine g_iload_n (n := 14) d_Ses_moveTo_13 rfl 1 rfl rfl ?_
      refine g_iload_n (n := 15) d_Ses_moveTo_14 rfl 2 rfl rfl ?_
      obtain ⟨b3, hf⟩ := ob_chk hf
      refine g_iast (n := 16) (q0 := 4) (h' := (hC ll he de li en (upd po x1.toNatClampNeg x2) pw su wr cs wb bt ct lc ad ctb lcb adb fx us ln pt tx br rw rest)) d_Ses_moveTo_15 rfl rfl (am_inl b3) rfl ?_
      cases hf
      exact g_vret d_Ses_moveTo_16 rfl (Nat.zero_le _) (Nat.zero_le _)
def f_V_seek (en : Nat → Int32) (po : Nat → Int32) (bt : Nat → Int32) (x1 : Int32) (x2 : Int32) : Option (Int32 × (Nat → Int32)) :=
  ((f_Ses_isOpen en x1).bind fun r1 => (if r1 = 0 then some (0, po) else (if x2 < 0 then some (0, po) else ((f_V_sizeOfFile en bt x1).bind fun r5 => (if x2 ≤ r5 then ((f_Ses_moveTo po x1 x2).bind fun r8 => some (1, r8)) else some (0, po))))))
set_option maxHeartbeats 4000000 in
set_option maxRecDepth 100000 in
theorem s_V_seek {l : Launch} {D : va_G} {dA : FieldType → ClassId} (htr : l.stackTraces = false) {rest : List am_E} {ll : Int32} {he : Int32} {de : Int32} {li : Nat → Int32} {en : Nat → Int32} {po : Nat → Int32} {pw : Int32} {su : Int32} {wr : Int32} {cs : Int32} {wb : Int32} {bt : Nat → Int32} {ct : Int32} {lc : Int32} {ad : Nat → Int32} {ctb : Int32} {lcb : Int32} {adb : Nat → Int32} {fx : Int32} {us : Nat → Int32} {ln : Int32} {pt : Int32} {tx : Nat → Int32} {br : Nat → Int32} {rw : Nat → Int32}  {x1 : Int32} {x2 : Int32} {r : Int32 × (Nat → Int32)} (hf : f_V_seek en po bt x1 x2 = some r) {o : am_O} (ho : .inl (some (.int r.1)) = o) :
    am_M (am_kk l D dA) y_V_seek ws_V_seek (am_rm 2 o) [.ref 0, .int x1, .int x2] (hC ll he de li en po pw su wr cs wb bt ct lc ad ctb lcb adb fx us ln pt tx br rw rest) o (hC ll he de li en r.2 pw su wr cs wb bt ct lc ad ctb lcb adb fx us ln pt tx br rw rest) := by
  subst ho
  refine am_body (by decide) rfl (Nat.le_of_ble_eq_true rfl) rfl ?_
  rw [f_V_seek] at hf
  refine g_aload_n (n := 1) d_V_seek_0 rfl 0 rfl rfl ?_
  refine g_get (n := 4) (q0 := 0) d_V_seek_1 rfl (am_fl in_V rfl (by decide : 0 < 8)) (List.mem_cons_of_mem _ tw_173) rfl rfl ?_
  refine g_iload_n (n := 5) d_V_seek_4 rfl 1 rfl rfl ?_
  obtain ⟨r1, h2, hf⟩ := ob_bind hf
  refine c_Vr (n := 8) (st' := [.int r1]) [.int x1] [] d_V_seek_5 rfl (s_Ses_isOpen htr h2 rfl) tw_210 tw_211 tw_212 tw_2 tw_213 hd_Ses_isOpen (by omega) (by decide) (ci := 4) rfl rfl rfl (Nat.le_of_ble_eq_true rfl) rfl rfl ?_
  refine g_if_eq (n := 11) (tgt := 24) d_V_seek_8 rfl (by decide) (fun q3 => ?_) (fun q3 => ?_)
  · have hf := ob_pos q3 hf
    refine g_iconst (n := 25) (v := 0) d_V_seek_24 rfl (by decide) ?_
    cases hf
    exact g_zret d_V_seek_25 rfl am_z0 (Nat.zero_le _) (Nat.zero_le _)
  · have hf := ob_neg q3 hf
    refine g_iload_n (n := 12) d_V_seek_11 rfl 2 rfl rfl ?_
    refine g_if_lt (n := 15) (tgt := 24) d_V_seek_12 rfl (by decide) (fun q4 => ?_) (fun q4 => ?_)
    · have hf := ob_pos q4 hf
      refine g_iconst (n := 25) (v := 0) d_V_seek_24 rfl (by decide) ?_
      cases hf
      exact g_zret d_V_seek_25 rfl am_z0 (Nat.zero_le _) (Nat.zero_le _)
    · have hf := ob_neg q4 hf
      refine g_iload_n (n := 16) d_V_seek_15 rfl 2 rfl rfl ?_
      refine g_aload_n (n := 17) d_V_seek_16 rfl 0 rfl rfl ?_
      refine g_iload_n (n := 18) d_V_seek_17 rfl 1 rfl rfl ?_
      obtain ⟨r5, h6, hf⟩ := ob_bind hf
      refine c_Vr (n := 21) (st' := [.int r5, .int x2]) [.int x1] [.int x2] d_V_seek_18 rfl (s_V_sizeOfFile htr h6 rfl) tw_222 tw_224 (am_memS 0 (by decide +kernel) (by decide +kernel)) tw_1 tw_225 hd_V_sizeOfFile (by omega) (by decide) (ci := 6) rfl rfl rfl (Nat.le_of_ble_eq_true rfl) rfl rfl ?_
      refine g_icmp_le (n := 24) (tgt := 26) d_V_seek_21 rfl (by decide) (fun q7 => ?_) (fun q7 => ?_)
      · have hf := ob_pos q7 hf
        refine g_aload_n (n := 27) d_V_seek_26 rfl 0 rfl rfl ?_
        refine g_get (n := 30) (q0 := 0) d_V_seek_27 rfl (am_fl in_V rfl (by decide : 0 < 8)) (List.mem_cons_of_mem _ tw_173) rfl rfl ?_
        refine g_iload_n (n := 31) d_V_seek_30 rfl 1 rfl rfl ?_
        refine g_iload_n (n := 32) d_V_seek_31 rfl 2 rfl rfl ?_
        obtain ⟨r8, h9, hf⟩ := ob_bind hf
        refine c_Vr (n := 35) (st' := []) [.int x1, .int x2] [] d_V_seek_32 rfl (s_Ses_moveTo htr h9 rfl) tw_234 tw_235 tw_236 tw_2 tw_237 hd_Ses_moveTo (by omega) (by decide) (ci := 4) rfl rfl rfl (Nat.le_of_ble_eq_true rfl) rfl rfl ?_
        refine g_iconst (n := 36) (v := 1) d_V_seek_35 rfl (by decide) ?_
        cases hf
        exact g_zret d_V_seek_36 rfl am_z1 (Nat.zero_le _) (Nat.zero_le _)
      · have hf := ob_neg q7 hf
        refine g_iconst (n := 25) (v := 0) d_V_seek_24 rfl (by decide) ?_
        cases hf
        exact g_zret d_V_seek_25 rfl am_z0 (Nat.zero_le _) (Nat.zero_le _)
def f_Ses_positionOf (po : Nat → Int32) (x1 : Int32) : Option (Int32) :=
  (if x1 < 0 then some 0 else (if 4 ≤ x1 then some 0 else (if am_in x1 4 = true then some (po x1.toNatClampNeg) else none)))
set_option maxHeartbeats 4000000 in
set_option maxRecDepth 100000 in
theorem s_Ses_positionOf {l : Launch} {D : va_G} {dA : FieldType → ClassId} (htr : l.stackTraces = false) {rest : List am_E} {ll : Int32} {he : Int32} {de : Int32} {li : Nat → Int32} {en : Nat → Int32} {po : Nat → Int32} {pw : Int32} {su : Int32} {wr : Int32} {cs : Int32} {wb : Int32} {bt : Nat → Int32} {ct : Int32} {lc : Int32} {ad : Nat → Int32} {ctb : Int32} {lcb : Int32} {adb : Nat → Int32} {fx : Int32} {us : Nat → Int32} {ln : Int32} {pt : Int32} {tx : Nat → Int32} {br : Nat → Int32} {rw : Nat → Int32}  {x1 : Int32} {r : Int32} (hf : f_Ses_positionOf po x1 = some r) {o : am_O} (ho : .inl (some (.int r)) = o) :
    am_M (am_kk l D dA) y_Ses_positionOf ws_Ses_positionOf (am_rm 0 o) [.ref 1, .int x1] (hC ll he de li en po pw su wr cs wb bt ct lc ad ctb lcb adb fx us ln pt tx br rw rest) o (hC ll he de li en po pw su wr cs wb bt ct lc ad ctb lcb adb fx us ln pt tx br rw rest) := by
  subst ho
  refine am_body (by decide) rfl (Nat.le_of_ble_eq_true rfl) rfl ?_
  rw [f_Ses_positionOf] at hf
  refine g_iload_n (n := 1) d_Ses_positionOf_0 rfl 1 rfl rfl ?_
  refine g_if_lt (n := 4) (tgt := 18) d_Ses_positionOf_1 rfl (by decide) (fun q1 => ?_) (fun q1 => ?_)
  · have hf := ob_pos q1 hf
    refine g_iconst (n := 19) (v := 0) d_Ses_positionOf_18 rfl (by decide) ?_
    cases hf
    exact g_iret d_Ses_positionOf_19 rfl (Nat.zero_le _) (Nat.zero_le _)
  · have hf := ob_neg q1 hf
    refine g_iload_n (n := 5) d_Ses_positionOf_4 rfl 1 rfl rfl ?_
    refine g_iconst (n := 6) (v := 4) d_Ses_positionOf_5 rfl (by decide) ?_
    refine g_icmp_ge (n := 9) (tgt := 18) d_Ses_positionOf_6 rfl (by decide) (fun q2 => ?_) (fun q2 => ?_)
    · have hf := ob_pos q2 hf
      refine g_iconst (n := 19) (v := 0) d_Ses_positionOf_18 rfl (by decide) ?_
      cases hf
      exact g_iret d_Ses_positionOf_19 rfl (Nat.zero_le _) (Nat.zero_le _)
    · have hf := ob_neg q2 hf
      refine g_aload_n (n := 10) d_Ses_positionOf_9 rfl 0 rfl rfl ?_
      refine g_get (n := 13) (q0 := 1) d_Ses_positionOf_10 rfl (am_fl in_Ses rfl (by decide : 2 < 6)) (List.mem_cons_of_mem _ tw_39) rfl rfl ?_
      refine g_iload_n (n := 14) d_Ses_positionOf_13 rfl 1 rfl rfl ?_
      obtain ⟨b3, hf⟩ := ob_chk hf
      refine g_iald (n := 15) (q0 := 4) d_Ses_positionOf_14 rfl rfl (am_inl b3) ?_
      refine g_goto (n := 19) d_Ses_positionOf_15 (by decide) ?_
      cases hf
      exact g_iret d_Ses_positionOf_19 rfl (Nat.zero_le _) (Nat.zero_le _)
def f_Table_clusterAt_L5 : Nat → (Nat → Int32) → Int32 → Int32 → Int32 → Option (Int32)
  | 0, _, _, _, _ => none
  | fuel + 1, bt, x2, x3, x4 =>
  (if x2 ≤ x4 then ((f_V_isCluster x3).bind fun r2 => (if r2 = 0 then some 0 else some x3)) else (if 64 ≤ x4 then ((f_V_isCluster x3).bind fun r6 => (if r6 = 0 then some 0 else some x3)) else ((f_V_isCluster x3).bind fun r9 => (if r9 = 0 then ((f_V_isCluster x3).bind fun r12 => (if r12 = 0 then some 0 else some x3)) else ((f_Table_cell bt x3).bind fun r15 => f_Table_clusterAt_L5 fuel bt x2 r15 (x4 + 1))))))
set_option maxHeartbeats 4000000 in
set_option maxRecDepth 100000 in
theorem s_Table_clusterAt_L5 {l : Launch} {D : va_G} {dA : FieldType → ClassId} (htr : l.stackTraces = false) {rest : List am_E} {ll : Int32} {he : Int32} {de : Int32} {li : Nat → Int32} {en : Nat → Int32} {po : Nat → Int32} {pw : Int32} {su : Int32} {wr : Int32} {cs : Int32} {wb : Int32} {ct : Int32} {lc : Int32} {ad : Nat → Int32} {ctb : Int32} {lcb : Int32} {adb : Nat → Int32} {fx : Int32} {us : Nat → Int32} {ln : Int32} {pt : Int32} {tx : Nat → Int32} {br : Nat → Int32} {rw : Nat → Int32}  : ∀ (fuel : Nat) (bt : Nat → Int32) (x2 : Int32) (x3 : Int32) (x4 : Int32) (r : Int32), f_Table_clusterAt_L5 fuel bt x2 x3 x4 = some r → ∀ o : am_O, .inl (some (.int r)) = o →
    am_G (am_kk l D dA) (ws_Table_clusterAt, y_Table_clusterAt.cls, prog_7_method_12_code, 5, (some .int), y_Table_clusterAt.name, [], am_rm 2 (o), none) o (hC ll he de li en po pw su wr cs wb bt ct lc ad ctb lcb adb fx us ln pt tx br rw rest) 0 0 5 [(0, .ref 7), (2, .int x2), (3, .int x3), (4, .int x4)] [] (hC ll he de li en po pw su wr cs wb bt ct lc ad ctb lcb adb fx us ln pt tx br rw rest) := by
  intro fuel
  induction fuel with
  | zero =>
    intro bt x2 x3 x4 r hf
    cases hf
  | succ fuel ih =>
    intro bt x2 x3 x4 r hf o ho
    subst ho
    rw [f_Table_clusterAt_L5] at hf
    refine g_iload (n := 7) d_Table_clusterAt_5 rfl 3 rfl ?_
    refine g_iload_n (n := 8) d_Table_clusterAt_7 rfl 1 rfl rfl ?_
    refine g_icmp_ge (n := 11) (tgt := 37) d_Table_clusterAt_8 rfl (by decide) (fun q1 => ?_) (fun q1 => ?_)
    · have hf := ob_pos q1 hf
      refine g_iload_n (n := 38) d_Table_clusterAt_37 rfl 2 rfl rfl ?_
      obtain ⟨r2, h3, hf⟩ := ob_bind hf
      refine c_SNr (n := 41) (st' := [.int r2]) [.int x3] [] d_Table_clusterAt_38 rfl (s_V_isCluster htr h3 rfl) nw_652 tw_412 tw_1 tw_413 hd_V_isCluster (by omega) (by decide) rfl (Nat.le_of_ble_eq_true rfl) rfl rfl ?_
      refine g_if_eq (n := 44) (tgt := 48) d_Table_clusterAt_41 rfl (by decide) (fun q4 => ?_) (fun q4 => ?_)
      · have hf := ob_pos q4 hf
        refine g_iconst (n := 49) (v := 0) d_Table_clusterAt_48 rfl (by decide) ?_
        cases hf
        exact g_iret d_Table_clusterAt_49 rfl (Nat.zero_le _) (Nat.zero_le _)
      · have hf := ob_neg q4 hf
        refine g_iload_n (n := 45) d_Table_clusterAt_44 rfl 2 rfl rfl ?_
        refine g_goto (n := 49) d_Table_clusterAt_45 (by decide) ?_
        cases hf
        exact g_iret d_Table_clusterAt_49 rfl (Nat.zero_le _) (Nat.zero_le _)
    · have hf := ob_neg q1 hf
      refine g_iload (n := 13) d_Table_clusterAt_11 rfl 3 rfl ?_
      refine g_bipush (n := 15) (v := 64) d_Table_clusterAt_13 rfl (by decide) ?_
      refine g_icmp_ge (n := 18) (tgt := 37) d_Table_clusterAt_15 rfl (by decide) (fun q5 => ?_) (fun q5 => ?_)
      · have hf := ob_pos q5 hf
        refine g_iload_n (n := 38) d_Table_clusterAt_37 rfl 2 rfl rfl ?_
        obtain ⟨r6, h7, hf⟩ := ob_bind hf
        refine c_SNr (n := 41) (st' := [.int r6]) [.int x3] [] d_Table_clusterAt_38 rfl (s_V_isCluster htr h7 rfl) nw_652 tw_412 tw_1 tw_413 hd_V_isCluster (by omega) (by decide) rfl (Nat.le_of_ble_eq_true rfl) rfl rfl ?_
        refine g_if_eq (n := 44) (tgt := 48) d_Table_clusterAt_41 rfl (by decide) (fun q8 => ?_) (fun q8 => ?_)
        · have hf := ob_pos q8 hf
          refine g_iconst (n := 49) (v := 0) d_Table_clusterAt_48 rfl (by decide) ?_
          cases hf
          exact g_iret d_Table_clusterAt_49 rfl (Nat.zero_le _) (Nat.zero_le _)
        · have hf := ob_neg q8 hf
          refine g_iload_n (n := 45) d_Table_clusterAt_44 rfl 2 rfl rfl ?_
          refine g_goto (n := 49) d_Table_clusterAt_45 (by decide) ?_
          cases hf
          exact g_iret d_Table_clusterAt_49 rfl (Nat.zero_le _) (Nat.zero_le _)
      · have hf := ob_neg q5 hf
        refine g_iload_n (n := 19) d_Table_clusterAt_18 rfl 2 rfl rfl ?_
        obtain ⟨r9, h10, hf⟩ := ob_bind hf
        refine c_SNr (n := 22) (st' := [.int r9]) [.int x3] [] d_Table_clusterAt_19 rfl (s_V_isCluster htr h10 rfl) nw_652 tw_412 tw_1 tw_413 hd_V_isCluster (by omega) (by decide) rfl (Nat.le_of_ble_eq_true rfl) rfl rfl ?_
        refine g_if_eq (n := 25) (tgt := 37) d_Table_clusterAt_22 rfl (by decide) (fun q11 => ?_) (fun q11 => ?_)
        · have hf := ob_pos q11 hf
          refine g_iload_n (n := 38) d_Table_clusterAt_37 rfl 2 rfl rfl ?_
          obtain ⟨r12, h13, hf⟩ := ob_bind hf
          refine c_SNr (n := 41) (st' := [.int r12]) [.int x3] [] d_Table_clusterAt_38 rfl (s_V_isCluster htr h13 rfl) nw_652 tw_412 tw_1 tw_413 hd_V_isCluster (by omega) (by decide) rfl (Nat.le_of_ble_eq_true rfl) rfl rfl ?_
          refine g_if_eq (n := 44) (tgt := 48) d_Table_clusterAt_41 rfl (by decide) (fun q14 => ?_) (fun q14 => ?_)
          · have hf := ob_pos q14 hf
            refine g_iconst (n := 49) (v := 0) d_Table_clusterAt_48 rfl (by decide) ?_
            cases hf
            exact g_iret d_Table_clusterAt_49 rfl (Nat.zero_le _) (Nat.zero_le _)
          · have hf := ob_neg q14 hf
            refine g_iload_n (n := 45) d_Table_clusterAt_44 rfl 2 rfl rfl ?_
            refine g_goto (n := 49) d_Table_clusterAt_45 (by decide) ?_
            cases hf
            exact g_iret d_Table_clusterAt_49 rfl (Nat.zero_le _) (Nat.zero_le _)
        · have hf := ob_neg q11 hf
          refine g_aload_n (n := 26) d_Table_clusterAt_25 rfl 0 rfl rfl ?_
          refine g_iload_n (n := 27) d_Table_clusterAt_26 rfl 2 rfl rfl ?_
          obtain ⟨r15, h16, hf⟩ := ob_bind hf
          refine c_Vr (n := 30) (st' := [.int r15]) [.int x3] [] d_Table_clusterAt_27 rfl (s_Table_cell htr h16 rfl) tw_286 tw_287 tw_288 tw_4 tw_289 hd_Table_cell (by omega) (by decide) (ci := 5) rfl rfl rfl (Nat.le_of_ble_eq_true rfl) rfl rfl ?_
          refine g_istore_n (n := 31) (ls' := [(3, .int r15), (0, .ref 7), (2, .int x2), (4, .int x4)]) d_Table_clusterAt_30 rfl rfl (am_ltb rfl) rfl ?_
          refine g_iinc (n := 34) (v := (x4 + 1)) (ls' := [(4, .int (x4 + 1)), (3, .int r15), (0, .ref 7), (2, .int x2)]) d_Table_clusterAt_31 rfl 3 rfl rfl (am_ltb rfl) rfl ?_
          refine g_goto (n := 5) d_Table_clusterAt_34 (by decide) ?_
          refine g_ls [2, 3, 1, 0] rfl ?_
          exact ih bt x2 r15 (x4 + 1) _ hf _ rfl
def f_Table_clusterAt (bt : Nat → Int32) (x1 : Int32) (x2 : Int32) : Option (Int32) :=
  f_Table_clusterAt_L5 100000000000 bt x2 x1 0
set_option maxHeartbeats 4000000 in
set_option maxRecDepth 100000 in
theorem s_Table_clusterAt {l : Launch} {D : va_G} {dA : FieldType → ClassId} (htr : l.stackTraces = false) {rest : List am_E} {ll : Int32} {he : Int32} {de : Int32} {li : Nat → Int32} {en : Nat → Int32} {po : Nat → Int32} {pw : Int32} {su : Int32} {wr : Int32} {cs : Int32} {wb : Int32} {bt : Nat → Int32} {ct : Int32} {lc : Int32} {ad : Nat → Int32} {ctb : Int32} {lcb : Int32} {adb : Nat → Int32} {fx : Int32} {us : Nat → Int32} {ln : Int32} {pt : Int32} {tx : Nat → Int32} {br : Nat → Int32} {rw : Nat → Int32}  {x1 : Int32} {x2 : Int32} {r : Int32} (hf : f_Table_clusterAt bt x1 x2 = some r) {o : am_O} (ho : .inl (some (.int r)) = o) :
    am_M (am_kk l D dA) y_Table_clusterAt ws_Table_clusterAt (am_rm 2 o) [.ref 7, .int x1, .int x2] (hC ll he de li en po pw su wr cs wb bt ct lc ad ctb lcb adb fx us ln pt tx br rw rest) o (hC ll he de li en po pw su wr cs wb bt ct lc ad ctb lcb adb fx us ln pt tx br rw rest) := by
  subst ho
  refine am_body (by decide) rfl (Nat.le_of_ble_eq_true rfl) rfl ?_
  rw [f_Table_clusterAt] at hf
  refine g_iload_n (n := 1) d_Table_clusterAt_0 rfl 1 rfl rfl ?_
  refine g_istore_n (n := 2) (ls' := [(3, .int x1), (0, .ref 7), (1, .int x1), (2, .int x2)]) d_Table_clusterAt_1 rfl rfl (am_ltb rfl) rfl ?_
  refine g_iconst (n := 3) (v := 0) d_Table_clusterAt_2 rfl (by decide) ?_
  refine g_istore (n := 5) (ls' := [(4, .int 0), (3, .int x1), (0, .ref 7), (1, .int x1), (2, .int x2)]) d_Table_clusterAt_3 rfl (am_ltb rfl) rfl ?_
  refine g_ls [2, 4, 1, 0] rfl ?_
  exact s_Table_clusterAt_L5 htr 100000000000 bt x2 x1 0 _ hf _ rfl
