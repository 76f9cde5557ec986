def f_M_mendFile_L50 : Nat → am_MS → Int32 → (Nat → Int32) → (Nat → Int32) → Int32 → Int32 → Int32 → Int32 → Option (am_MS × Int32 × (Nat → Int32))
  | 0, _, _, _, _, _, _, _, _ => none
  | fuel + 1, w, mf, mu, ch, x1, x2, x3, x4 =>
  (if x2 ≤ x4 then (if x3 ≤ 0 then ((f_M_writeNumber w (x1 + 8) 0).bind fun r7 => some (r7, (mf + 1), mu)) else (if am_in (x3 - 1) 64 = true then ((f_M_fix w mf (ch (x3 - 1).toNatClampNeg) 65535).bind fun r10 => some (r10.1, r10.2, mu)) else none)) else (if am_in x4 64 = true then (if am_in (ch x4.toNatClampNeg) 64 = true then f_M_mendFile_L50 fuel w mf (upd mu (ch x4.toNatClampNeg).toNatClampNeg (vp_nar .boolean 0)) ch x1 x2 x3 (x4 + 1) else none) else none))
set_option maxHeartbeats 4000000 in
set_option maxRecDepth 100000 in
theorem s_M_mendFile_L50 {l : Launch} {D : va_G} {dA : FieldType → ClassId} (htr : l.stackTraces = false) {hx : Nat → am_E} {rest : List am_E} {th : Int32} {sp : Int32} {mp : Int32} {ml : Nat → Int32} {ps : Nat → Int32} {nm : Nat → Int32} {wy : Nat → Int32} {nx : Nat → Int32}  : ∀ (fuel : Nat) (w : am_MS) (mf : Int32) (mu : Nat → Int32) (ch : Nat → Int32) (x1 : Int32) (x2 : Int32) (x3 : Int32) (x4 : Int32) (r : am_MS × Int32 × (Nat → Int32)), f_M_mendFile_L50 fuel w mf mu ch x1 x2 x3 x4 = some r → ∀ o : am_O, .inl none = o →
    am_G (am_kk l D dA) (ws_M_mendFile, y_M_mendFile.cls, prog_9_method_56_code, 5, none, y_M_mendFile.name, [], am_rm 4 (o), none) o (hM hx r.1.1 r.1.2.1 r.1.2.2.1 r.1.2.2.2.1 r.1.2.2.2.2.1 r.1.2.2.2.2.2.1 r.1.2.2.2.2.2.2.1 r.1.2.2.2.2.2.2.2.1 r.1.2.2.2.2.2.2.2.2 th sp mp r.2.1 ml ps nm r.2.2 ch wy nx rest) 0 0 50 [(0, .ref 18), (1, .int x1), (2, .int x2), (3, .int x3), (4, .int x4)] [] (hM hx w.1 w.2.1 w.2.2.1 w.2.2.2.1 w.2.2.2.2.1 w.2.2.2.2.2.1 w.2.2.2.2.2.2.1 w.2.2.2.2.2.2.2.1 w.2.2.2.2.2.2.2.2 th sp mp mf ml ps nm mu ch wy nx rest) := by
  intro fuel
  induction fuel with
  | zero =>
    intro w mf mu ch x1 x2 x3 x4 r hf
    cases hf
  | succ fuel ih =>
    intro w mf mu ch x1 x2 x3 x4 r hf o ho
    subst ho
    rw [f_M_mendFile_L50] at hf
    refine g_iload (n := 52) d_M_mendFile_50 rfl 4 rfl ?_
    refine g_iload_n (n := 53) d_M_mendFile_52 rfl 2 rfl rfl ?_
    refine g_icmp_ge (n := 56) (tgt := 75) d_M_mendFile_53 rfl (by decide) (fun q5 => ?_) (fun q5 => ?_)
    · have hf := ob_pos q5 hf
      refine g_iload_n (n := 76) d_M_mendFile_75 rfl 3 rfl rfl ?_
      refine g_if_le (n := 79) (tgt := 96) d_M_mendFile_76 rfl (by decide) (fun q6 => ?_) (fun q6 => ?_)
      · have hf := ob_pos q6 hf
        refine g_aload_n (n := 97) d_M_mendFile_96 rfl 0 rfl rfl ?_
        refine g_iload_n (n := 98) d_M_mendFile_97 rfl 1 rfl rfl ?_
        refine g_bipush (n := 100) (v := 8) d_M_mendFile_98 rfl (by decide) ?_
        refine g_iadd (n := 101) d_M_mendFile_100 rfl ?_
        refine g_iconst (n := 102) (v := 0) d_M_mendFile_101 rfl (by decide) ?_
        obtain ⟨r7, h8, hf⟩ := ob_bind hf
        refine c_Vr (n := 105) (st' := []) [.int (x1 + 8), .int 0] [] d_M_mendFile_102 rfl (s_M_writeNumber htr h8 rfl) tw_1098 tw_1100 (am_memS 42 (by decide +kernel) (by decide +kernel)) tw_8 tw_1101 hd_M_writeNumber (by omega) (by decide) (ci := 7) rfl rfl rfl (Nat.le_of_ble_eq_true rfl) rfl rfl ?_
        refine g_aload_n (n := 106) d_M_mendFile_105 rfl 0 rfl rfl ?_
        refine g_dup (n := 107) d_M_mendFile_106 rfl rfl ?_
        refine g_get (n := 110) (q0 := 18) d_M_mendFile_107 rfl (am_fl in_M rfl (by decide : 19 < 20)) (List.mem_cons_of_mem _ tw_884) rfl rfl ?_
        refine g_iconst (n := 111) (v := 1) d_M_mendFile_110 rfl (by decide) ?_
        refine g_iadd (n := 112) d_M_mendFile_111 rfl ?_
        refine g_put (n := 115) (q0 := 18) (h' := (hM hx r7.1 r7.2.1 r7.2.2.1 r7.2.2.2.1 r7.2.2.2.2.1 r7.2.2.2.2.2.1 r7.2.2.2.2.2.2.1 r7.2.2.2.2.2.2.2.1 r7.2.2.2.2.2.2.2.2 th sp mp (mf + 1) ml ps nm mu ch wy nx rest)) d_M_mendFile_112 rfl (am_fl in_M rfl (by decide : 19 < 20)) typ_M (List.mem_cons_of_mem _ tw_884) rfl (fun _ _ => rfl) (fun _ _ => rfl) rfl (am_ltb rfl) rfl ?_
        cases hf
        exact g_vret d_M_mendFile_115 rfl (Nat.zero_le _) (Nat.zero_le _)
      · have hf := ob_neg q6 hf
        refine g_aload_n (n := 80) d_M_mendFile_79 rfl 0 rfl rfl ?_
        refine g_aload_n (n := 81) d_M_mendFile_80 rfl 0 rfl rfl ?_
        refine g_get (n := 84) (q0 := 18) d_M_mendFile_81 rfl (am_fl in_M rfl (by decide : 16 < 20)) (List.mem_cons_of_mem _ tw_881) rfl rfl ?_
        refine g_iload_n (n := 85) d_M_mendFile_84 rfl 3 rfl rfl ?_
        refine g_iconst (n := 86) (v := 1) d_M_mendFile_85 rfl (by decide) ?_
        refine g_isub (n := 87) d_M_mendFile_86 rfl ?_
        obtain ⟨b9, hf⟩ := ob_chk hf
        refine g_iald (n := 88) (q0 := 25) d_M_mendFile_87 rfl rfl (am_inl b9) ?_
        refine g_ldc (n := 90) (v := 65535) d_M_mendFile_88 rfl (List.mem_cons_of_mem _ tw_860) ?_
        obtain ⟨r10, h11, hf⟩ := ob_bind hf
        refine c_Vr (n := 93) (st' := []) [.int (ch (x3 - 1).toNatClampNeg), .int 65535] [] d_M_mendFile_90 rfl (s_M_fix htr h11 rfl) tw_1128 tw_1130 (am_memS 45 (by decide +kernel) (by decide +kernel)) tw_8 tw_1131 hd_M_fix (by omega) (by decide) (ci := 7) rfl rfl rfl (Nat.le_of_ble_eq_true rfl) rfl rfl ?_
        refine g_goto (n := 115) d_M_mendFile_93 (by decide) ?_
        cases hf
        exact g_vret d_M_mendFile_115 rfl (Nat.zero_le _) (Nat.zero_le _)
    · have hf := ob_neg q5 hf
      refine g_aload_n (n := 57) d_M_mendFile_56 rfl 0 rfl rfl ?_
      refine g_get (n := 60) (q0 := 18) d_M_mendFile_57 rfl (am_fl in_M rfl (by decide : 15 < 20)) (List.mem_cons_of_mem _ tw_880) rfl rfl ?_
      refine g_aload_n (n := 61) d_M_mendFile_60 rfl 0 rfl rfl ?_
      refine g_get (n := 64) (q0 := 18) d_M_mendFile_61 rfl (am_fl in_M rfl (by decide : 16 < 20)) (List.mem_cons_of_mem _ tw_881) rfl rfl ?_
      refine g_iload (n := 66) d_M_mendFile_64 rfl 4 rfl ?_
      obtain ⟨b12, hf⟩ := ob_chk hf
      refine g_iald (n := 67) (q0 := 25) d_M_mendFile_66 rfl rfl (am_inl b12) ?_
      refine g_iconst (n := 68) (v := 0) d_M_mendFile_67 rfl (by decide) ?_
      obtain ⟨b13, hf⟩ := ob_chk hf
      refine g_zast (n := 69) (q0 := 24) (h' := (hM hx w.1 w.2.1 w.2.2.1 w.2.2.2.1 w.2.2.2.2.1 w.2.2.2.2.2.1 w.2.2.2.2.2.2.1 w.2.2.2.2.2.2.2.1 w.2.2.2.2.2.2.2.2 th sp mp mf ml ps nm (upd mu (ch x4.toNatClampNeg).toNatClampNeg (vp_nar .boolean 0)) ch wy nx rest)) d_M_mendFile_68 rfl rfl (am_inl b13) rfl ?_
      refine g_iinc (n := 72) (v := (x4 + 1)) (ls' := [(4, .int (x4 + 1)), (0, .ref 18), (1, .int x1), (2, .int x2), (3, .int x3)]) d_M_mendFile_69 rfl 4 rfl rfl (am_ltb rfl) rfl ?_
      refine g_goto (n := 50) d_M_mendFile_72 (by decide) ?_
      refine g_ls [1, 2, 3, 4, 0] rfl ?_
      exact ih w mf (upd mu (ch x4.toNatClampNeg).toNatClampNeg (vp_nar .boolean 0)) ch x1 x2 x3 (x4 + 1) _ hf _ rfl
def f_M_mendFile (w : am_MS) (mf : Int32) (mu : Nat → Int32) (ch : Nat → Int32) (x1 : Int32) (x2 : Int32) : Option (am_MS × Int32 × (Nat → Int32)) :=
  ((f_M_numberAt w.2.2.2.2.2.2.2.1 (x1 + 10)).bind fun r1 => (if ((r1 + 31) / 32) ≤ x2 then (if x2 ≤ ((r1 + 31) / 32) then some (w, mf, mu) else f_M_mendFile_L50 100000000000 w mf mu ch x1 x2 ((r1 + 31) / 32) ((r1 + 31) / 32)) else ((f_M_writeNumber w (x1 + 10) (32 * x2)).bind fun r14 => (if x2 ≤ ((r1 + 31) / 32) then some (r14, (mf + 1), mu) else f_M_mendFile_L50 100000000000 r14 (mf + 1) mu ch x1 x2 ((r1 + 31) / 32) ((r1 + 31) / 32)))))
set_option maxHeartbeats 4000000 in
set_option maxRecDepth 100000 in
theorem s_M_mendFile {l : Launch} {D : va_G} {dA : FieldType → ClassId} (htr : l.stackTraces = false) {hx : Nat → am_E} {rest : List am_E} {th : Int32} {sp : Int32} {mp : Int32} {mf : Int32} {ml : Nat → Int32} {ps : Nat → Int32} {nm : Nat → Int32} {mu : Nat → Int32} {ch : Nat → Int32} {wy : Nat → Int32} {nx : Nat → Int32} {w : am_MS} {x1 : Int32} {x2 : Int32} {r : am_MS × Int32 × (Nat → Int32)} (hf : f_M_mendFile w mf mu ch x1 x2 = some r) {o : am_O} (ho : .inl none = o) :
    am_M (am_kk l D dA) y_M_mendFile ws_M_mendFile (am_rm 4 o) [.ref 18, .int x1, .int x2] (hM hx w.1 w.2.1 w.2.2.1 w.2.2.2.1 w.2.2.2.2.1 w.2.2.2.2.2.1 w.2.2.2.2.2.2.1 w.2.2.2.2.2.2.2.1 w.2.2.2.2.2.2.2.2 th sp mp mf ml ps nm mu ch wy nx rest) o (hM hx r.1.1 r.1.2.1 r.1.2.2.1 r.1.2.2.2.1 r.1.2.2.2.2.1 r.1.2.2.2.2.2.1 r.1.2.2.2.2.2.2.1 r.1.2.2.2.2.2.2.2.1 r.1.2.2.2.2.2.2.2.2 th sp mp r.2.1 ml ps nm r.2.2 ch wy nx rest) := by
  subst ho
  refine am_body (by decide) rfl (Nat.le_of_ble_eq_true rfl) rfl ?_
  rw [f_M_mendFile] at hf
  refine g_aload_n (n := 1) d_M_mendFile_0 rfl 0 rfl rfl ?_
  refine g_iload_n (n := 2) d_M_mendFile_1 rfl 1 rfl rfl ?_
  refine g_bipush (n := 4) (v := 10) d_M_mendFile_2 rfl (by decide) ?_
  refine g_iadd (n := 5) d_M_mendFile_4 rfl ?_
  obtain ⟨r1, h2, hf⟩ := ob_bind hf
  refine c_Vr (n := 8) (st' := [.int r1]) [.int (x1 + 10)] [] d_M_mendFile_5 rfl (s_M_numberAt htr h2 rfl) tw_957 tw_959 (am_memS 17 (by decide +kernel) (by decide +kernel)) tw_8 tw_960 hd_M_numberAt (by omega) (by decide) (ci := 7) rfl rfl rfl (Nat.le_of_ble_eq_true rfl) rfl rfl ?_
  refine g_bipush (n := 10) (v := 31) d_M_mendFile_8 rfl (by decide) ?_
  refine g_iadd (n := 11) d_M_mendFile_10 rfl ?_
  refine g_bipush (n := 13) (v := 32) d_M_mendFile_11 rfl (by decide) ?_
  refine g_idiv (n := 14) d_M_mendFile_13 rfl (by decide) ?_
  refine g_istore_n (n := 15) (ls' := [(3, .int ((r1 + 31) / 32)), (0, .ref 18), (1, .int x1), (2, .int x2)]) d_M_mendFile_14 rfl rfl (am_ltb rfl) rfl ?_
  refine g_iload_n (n := 16) d_M_mendFile_15 rfl 0 rfl rfl ?_
  refine g_iload_n (n := 17) d_M_mendFile_16 rfl 3 rfl rfl ?_
  refine g_icmp_le (n := 20) (tgt := 42) d_M_mendFile_17 rfl (by decide) (fun q3 => ?_) (fun q3 => ?_)
  · have hf := ob_pos q3 hf
    refine g_iload_n (n := 43) d_M_mendFile_42 rfl 0 rfl rfl ?_
    refine g_iload_n (n := 44) d_M_mendFile_43 rfl 3 rfl rfl ?_
    refine g_icmp_ge (n := 47) (tgt := 115) d_M_mendFile_44 rfl (by decide) (fun q4 => ?_) (fun q4 => ?_)
    · have hf := ob_pos q4 hf
      cases hf
      exact g_vret d_M_mendFile_115 rfl (Nat.zero_le _) (Nat.zero_le _)
    · have hf := ob_neg q4 hf
      refine g_iload_n (n := 48) d_M_mendFile_47 rfl 0 rfl rfl ?_
      refine g_istore (n := 50) (ls' := [(4, .int ((r1 + 31) / 32)), (3, .int ((r1 + 31) / 32)), (0, .ref 18), (1, .int x1), (2, .int x2)]) d_M_mendFile_48 rfl (am_ltb rfl) rfl ?_
      refine g_ls [2, 3, 4, 1, 0] rfl ?_
      exact s_M_mendFile_L50 htr 100000000000 w mf mu ch x1 x2 ((r1 + 31) / 32) ((r1 + 31) / 32) _ hf _ rfl
  · have hf := ob_neg q3 hf
    refine g_aload_n (n := 21) d_M_mendFile_20 rfl 1 rfl rfl ?_
    refine g_iload_n (n := 22) d_M_mendFile_21 rfl 2 rfl rfl ?_
    refine g_bipush (n := 24) (v := 10) d_M_mendFile_22 rfl (by decide) ?_
    refine g_iadd (n := 25) d_M_mendFile_24 rfl ?_
    refine g_bipush (n := 27) (v := 32) d_M_mendFile_25 rfl (by decide) ?_
    refine g_iload_n (n := 28) d_M_mendFile_27 rfl 3 rfl rfl ?_
    refine g_imul (n := 29) d_M_mendFile_28 rfl ?_
    obtain ⟨r14, h15, hf⟩ := ob_bind hf
    refine c_Vr (n := 32) (st' := []) [.int (x1 + 10), .int (32 * x2)] [] d_M_mendFile_29 rfl (s_M_writeNumber htr h15 rfl) tw_1098 tw_1100 (am_memS 42 (by decide +kernel) (by decide +kernel)) tw_8 tw_1101 hd_M_writeNumber (by omega) (by decide) (ci := 7) rfl rfl rfl (Nat.le_of_ble_eq_true rfl) rfl rfl ?_
    refine g_aload_n (n := 33) d_M_mendFile_32 rfl 1 rfl rfl ?_
    refine g_dup (n := 34) d_M_mendFile_33 rfl rfl ?_
    refine g_get (n := 37) (q0 := 18) d_M_mendFile_34 rfl (am_fl in_M rfl (by decide : 19 < 20)) (List.mem_cons_of_mem _ tw_884) rfl rfl ?_
    refine g_iconst (n := 38) (v := 1) d_M_mendFile_37 rfl (by decide) ?_
    refine g_iadd (n := 39) d_M_mendFile_38 rfl ?_
    refine g_put (n := 42) (q0 := 18) (h' := (hM hx r14.1 r14.2.1 r14.2.2.1 r14.2.2.2.1 r14.2.2.2.2.1 r14.2.2.2.2.2.1 r14.2.2.2.2.2.2.1 r14.2.2.2.2.2.2.2.1 r14.2.2.2.2.2.2.2.2 th sp mp (mf + 1) ml ps nm mu ch wy nx rest)) d_M_mendFile_39 rfl (am_fl in_M rfl (by decide : 19 < 20)) typ_M (List.mem_cons_of_mem _ tw_884) rfl (fun _ _ => rfl) (fun _ _ => rfl) rfl (am_ltb rfl) rfl ?_
    refine g_iload_n (n := 43) d_M_mendFile_42 rfl 0 rfl rfl ?_
    refine g_iload_n (n := 44) d_M_mendFile_43 rfl 3 rfl rfl ?_
    refine g_icmp_ge (n := 47) (tgt := 115) d_M_mendFile_44 rfl (by decide) (fun q16 => ?_) (fun q16 => ?_)
    · have hf := ob_pos q16 hf
      cases hf
      exact g_vret d_M_mendFile_115 rfl (Nat.zero_le _) (Nat.zero_le _)
    · have hf := ob_neg q16 hf
      refine g_iload_n (n := 48) d_M_mendFile_47 rfl 0 rfl rfl ?_
      refine g_istore (n := 50) (ls' := [(4, .int ((r1 + 31) / 32)), (3, .int ((r1 + 31) / 32)), (0, .ref 18), (1, .int x1), (2, .int x2)]) d_M_mendFile_48 rfl (am_ltb rfl) rfl ?_
      refine g_ls [2, 3, 4, 1, 0] rfl ?_
      exact s_M_mendFile_L50 htr 100000000000 r14 (mf + 1) mu ch x1 x2 ((r1 + 31) / 32) ((r1 + 31) / 32) _ hf _ rfl
def f_M_walk_L16 : Nat → am_MS → Int32 → (Nat → Int32) → (Nat → Int32) → (Nat → Int32) → (Nat → Int32) → Int32 → Option (am_MS × Int32 × (Nat → Int32) × (Nat → Int32) × (Nat → Int32) × (Nat → Int32))
  | 0, _, _, _, _, _, _, _ => none
  | fuel + 1, w, mf, mu, ch, wy, nx, x1 =>
  (if x1 < 0 then some (w, mf, mu, ch, wy, nx) else (if w.2.1 = 0 then (if am_in x1 5 = true then (if am_in x1 5 = true then ((f_M_length w.2.2.2.2.2.2.2.1 (wy x1.toNatClampNeg)).bind fun r5 => (if (nx x1.toNatClampNeg) < (2 * r5) then (if am_in x1 5 = true then (if am_in x1 5 = true then (if am_in x1 5 = true then ((f_M_place w.2.2.2.2.2.2.2.1 (wy x1.toNatClampNeg) (nx x1.toNatClampNeg)).bind fun r11 => ((f_M_isFree w.2.2.2.2.2.2.2.1 r11).bind fun r13 => (if r13 = 0 then (if am_in x1 5 = true then ((f_M_tells w.2.2.2.2.2.2.2.1 (wy x1.toNatClampNeg) (nx x1.toNatClampNeg)).bind fun r17 => (if r17 = 0 then ((f_M_isBad w.2.2.2.2.2.2.2.1 mu r11 x1).bind fun r20 => (if r20 = 0 then ((f_M_numberAt w.2.2.2.2.2.2.2.1 (r11 + 8)).bind fun r23 => (if r23 = 0 then (if am_in (r11 + 6) 2240 = true then (if (w.2.2.2.2.2.2.2.1 (r11 + 6).toNatClampNeg) = 1 then ((f_M_mendFile w mf mu ch r11 0).bind fun r38 => f_M_walk_L16 fuel r38.1 r38.2.1 r38.2.2 ch wy (upd nx x1.toNatClampNeg ((nx x1.toNatClampNeg) + 1)) x1) else (if am_in (x1 + 1) 5 = true then (if am_in (x1 + 1) 5 = true then f_M_walk_L16 fuel w mf mu ch (upd wy (x1 + 1).toNatClampNeg r23) (upd (upd nx x1.toNatClampNeg ((nx x1.toNatClampNeg) + 1)) (x1 + 1).toNatClampNeg 0) (x1 + 1) else none) else none)) else none) else ((f_M_follow w mf mu ch r23).bind fun r26 => (if am_in (r11 + 6) 2240 = true then (if (r26.2.1.2.2.2.2.2.2.2.1 (r11 + 6).toNatClampNeg) = 1 then ((f_M_mendFile r26.2.1 r26.2.2.1 r26.2.2.2.1 r26.2.2.2.2 r11 r26.1).bind fun r32 => f_M_walk_L16 fuel r32.1 r32.2.1 r32.2.2 r26.2.2.2.2 wy (upd nx x1.toNatClampNeg ((nx x1.toNatClampNeg) + 1)) x1) else (if am_in (x1 + 1) 5 = true then (if am_in (x1 + 1) 5 = true then f_M_walk_L16 fuel r26.2.1 r26.2.2.1 r26.2.2.2.1 r26.2.2.2.2 (upd wy (x1 + 1).toNatClampNeg r23) (upd (upd nx x1.toNatClampNeg ((nx x1.toNatClampNeg) + 1)) (x1 + 1).toNatClampNeg 0) (x1 + 1) else none) else none)) else none)))) else (if am_in x1 5 = true then ((f_M_free w (wy x1.toNatClampNeg) (nx x1.toNatClampNeg)).bind fun r41 => f_M_walk_L16 fuel r41 (mf + 1) mu ch wy (upd nx x1.toNatClampNeg ((nx x1.toNatClampNeg) + 1)) x1) else none))) else f_M_walk_L16 fuel w mf mu ch wy (upd nx x1.toNatClampNeg ((nx x1.toNatClampNeg) + 1)) x1)) else none) else f_M_walk_L16 fuel w mf mu ch wy (upd nx x1.toNatClampNeg ((nx x1.toNatClampNeg) + 1)) x1))) else none) else none) else none) else f_M_walk_L16 fuel w mf mu ch wy nx (x1 + (-1)))) else none) else none) else some (w, mf, mu, ch, wy, nx)))
set_option maxHeartbeats 4000000 in
set_option maxRecDepth 100000 in
theorem s_M_walk_L16 {l : Launch} {D : va_G} {dA : FieldType → ClassId} (htr : l.stackTraces = false) {hx : Nat → am_E} {rest : List am_E} {th : Int32} {sp : Int32} {mp : Int32} {ml : Nat → Int32} {ps : Nat → Int32} {nm : Nat → Int32}  : ∀ (fuel : Nat) (w : am_MS) (mf : Int32) (mu : Nat → Int32) (ch : Nat → Int32) (wy : Nat → Int32) (nx : Nat → Int32) (x1 : Int32) (r : am_MS × Int32 × (Nat → Int32) × (Nat → Int32) × (Nat → Int32) × (Nat → Int32)), f_M_walk_L16 fuel w mf mu ch wy nx x1 = some r → ∀ o : am_O, .inl none = o →
    am_G (am_kk l D dA) (ws_M_walk, y_M_walk.cls, prog_9_method_59_code, 6, none, y_M_walk.name, [], am_rm 6 (o), none) o (hM hx r.1.1 r.1.2.1 r.1.2.2.1 r.1.2.2.2.1 r.1.2.2.2.2.1 r.1.2.2.2.2.2.1 r.1.2.2.2.2.2.2.1 r.1.2.2.2.2.2.2.2.1 r.1.2.2.2.2.2.2.2.2 th sp mp r.2.1 ml ps nm r.2.2.1 r.2.2.2.1 r.2.2.2.2.1 r.2.2.2.2.2 rest) 0 0 16 [(0, .ref 18), (1, .int x1)] [] (hM hx w.1 w.2.1 w.2.2.1 w.2.2.2.1 w.2.2.2.2.1 w.2.2.2.2.2.1 w.2.2.2.2.2.2.1 w.2.2.2.2.2.2.2.1 w.2.2.2.2.2.2.2.2 th sp mp mf ml ps nm mu ch wy nx rest) := by
  intro fuel
  induction fuel with
  | zero =>
    intro w mf mu ch wy nx x1 r hf
    cases hf
  | succ fuel ih =>
    intro w mf mu ch wy nx x1 r hf o ho
    subst ho
    rw [f_M_walk_L16] at hf
    refine g_iload_n (n := 17) d_M_walk_16 rfl 1 rfl rfl ?_
    refine g_if_lt (n := 20) (tgt := 207) d_M_walk_17 rfl (by decide) (fun q1 => ?_) (fun q1 => ?_)
    · have hf := ob_pos q1 hf
      cases hf
      exact g_vret d_M_walk_207 rfl (Nat.zero_le _) (Nat.zero_le _)
    · have hf := ob_neg q1 hf
      refine g_aload_n (n := 21) d_M_walk_20 rfl 0 rfl rfl ?_
      refine g_get (n := 24) (q0 := 18) d_M_walk_21 rfl (am_fl in_M rfl (by decide : 4 < 20)) (List.mem_cons_of_mem _ tw_869) rfl rfl ?_
      refine g_if_ne (n := 27) (tgt := 207) d_M_walk_24 rfl (by decide) (fun q2 => ?_) (fun q2 => ?_)
      · have hf := ob_neg q2 hf
        cases hf
        exact g_vret d_M_walk_207 rfl (Nat.zero_le _) (Nat.zero_le _)
      · have hf := ob_pos q2 hf
        refine g_aload_n (n := 28) d_M_walk_27 rfl 0 rfl rfl ?_
        refine g_get (n := 31) (q0 := 18) d_M_walk_28 rfl (am_fl in_M rfl (by decide : 18 < 20)) (List.mem_cons_of_mem _ tw_883) rfl rfl ?_
        refine g_iload_n (n := 32) d_M_walk_31 rfl 1 rfl rfl ?_
        obtain ⟨b3, hf⟩ := ob_chk hf
        refine g_iald (n := 33) (q0 := 27) d_M_walk_32 rfl rfl (am_inl b3) ?_
        refine g_istore_n (n := 34) (ls' := [(2, .int (nx x1.toNatClampNeg)), (0, .ref 18), (1, .int x1)]) d_M_walk_33 rfl rfl (am_ltb rfl) rfl ?_
        refine g_iload_n (n := 35) d_M_walk_34 rfl 0 rfl rfl ?_
        refine g_iconst (n := 36) (v := 2) d_M_walk_35 rfl (by decide) ?_
        refine g_aload_n (n := 37) d_M_walk_36 rfl 1 rfl rfl ?_
        refine g_aload_n (n := 38) d_M_walk_37 rfl 1 rfl rfl ?_
        refine g_get (n := 41) (q0 := 18) d_M_walk_38 rfl (am_fl in_M rfl (by decide : 17 < 20)) (List.mem_cons_of_mem _ tw_882) rfl rfl ?_
        refine g_iload_n (n := 42) d_M_walk_41 rfl 2 rfl rfl ?_
        obtain ⟨b4, hf⟩ := ob_chk hf
        refine g_iald (n := 43) (q0 := 26) d_M_walk_42 rfl rfl (am_inl b4) ?_
        obtain ⟨r5, h6, hf⟩ := ob_bind hf
        refine c_Vr (n := 46) (st' := [.int r5, .int 2, .int (nx x1.toNatClampNeg)]) [.int (wy x1.toNatClampNeg)] [.int 2, .int (nx x1.toNatClampNeg)] d_M_walk_43 rfl (s_M_length htr h6 rfl) tw_945 tw_947 (am_memS 14 (by decide +kernel) (by decide +kernel)) tw_8 tw_948 hd_M_length (by omega) (by decide) (ci := 7) rfl rfl rfl (Nat.le_of_ble_eq_true rfl) rfl rfl ?_
        refine g_imul (n := 47) d_M_walk_46 rfl ?_
        refine g_icmp_lt (n := 50) (tgt := 56) d_M_walk_47 rfl (by decide) (fun q7 => ?_) (fun q7 => ?_)
        · have hf := ob_pos q7 hf
          refine g_aload_n (n := 57) d_M_walk_56 rfl 1 rfl rfl ?_
          refine g_get (n := 60) (q0 := 18) d_M_walk_57 rfl (am_fl in_M rfl (by decide : 18 < 20)) (List.mem_cons_of_mem _ tw_883) rfl rfl ?_
          refine g_iload_n (n := 61) d_M_walk_60 rfl 2 rfl rfl ?_
          refine g_dup2 (n := 62) d_M_walk_61 rfl rfl rfl ?_
          obtain ⟨b8, hf⟩ := ob_chk hf
          refine g_iald (n := 63) (q0 := 27) d_M_walk_62 rfl rfl (am_inl b8) ?_
          refine g_iconst (n := 64) (v := 1) d_M_walk_63 rfl (by decide) ?_
          refine g_iadd (n := 65) d_M_walk_64 rfl ?_
          obtain ⟨b9, hf⟩ := ob_chk hf
          refine g_iast (n := 66) (q0 := 27) (h' := (hM hx w.1 w.2.1 w.2.2.1 w.2.2.2.1 w.2.2.2.2.1 w.2.2.2.2.2.1 w.2.2.2.2.2.2.1 w.2.2.2.2.2.2.2.1 w.2.2.2.2.2.2.2.2 th sp mp mf ml ps nm mu ch wy (upd nx x1.toNatClampNeg ((nx x1.toNatClampNeg) + 1)) rest)) d_M_walk_65 rfl rfl (am_inl b9) rfl ?_
          refine g_aload_n (n := 67) d_M_walk_66 rfl 1 rfl rfl ?_
          refine g_aload_n (n := 68) d_M_walk_67 rfl 1 rfl rfl ?_
          refine g_get (n := 71) (q0 := 18) d_M_walk_68 rfl (am_fl in_M rfl (by decide : 17 < 20)) (List.mem_cons_of_mem _ tw_882) rfl rfl ?_
          refine g_iload_n (n := 72) d_M_walk_71 rfl 2 rfl rfl ?_
          obtain ⟨b10, hf⟩ := ob_chk hf
          refine g_iald (n := 73) (q0 := 26) d_M_walk_72 rfl rfl (am_inl b10) ?_
          refine g_iload_n (n := 74) d_M_walk_73 rfl 0 rfl rfl ?_
          obtain ⟨r11, h12, hf⟩ := ob_bind hf
          refine c_Vr (n := 77) (st' := [.int r11]) [.int (wy x1.toNatClampNeg), .int (nx x1.toNatClampNeg)] [] d_M_walk_74 rfl (s_M_place htr h12 rfl) tw_965 tw_967 (am_memS 19 (by decide +kernel) (by decide +kernel)) tw_8 tw_968 hd_M_place (by omega) (by decide) (ci := 7) rfl rfl rfl (Nat.le_of_ble_eq_true rfl) rfl rfl ?_
          refine g_istore_n (n := 78) (ls' := [(3, .int r11), (2, .int (nx x1.toNatClampNeg)), (0, .ref 18), (1, .int x1)]) d_M_walk_77 rfl rfl (am_ltb rfl) rfl ?_
          refine g_aload_n (n := 79) d_M_walk_78 rfl 2 rfl rfl ?_
          refine g_iload_n (n := 80) d_M_walk_79 rfl 0 rfl rfl ?_
          obtain ⟨r13, h14, hf⟩ := ob_bind hf
          refine c_Vr (n := 83) (st' := [.int r13]) [.int r11] [] d_M_walk_80 rfl (s_M_isFree htr h14 rfl) tw_973 tw_975 (am_memS 21 (by decide +kernel) (by decide +kernel)) tw_8 tw_976 hd_M_isFree (by omega) (by decide) (ci := 7) rfl rfl rfl (Nat.le_of_ble_eq_true rfl) rfl rfl ?_
          refine g_if_ne (n := 86) (tgt := 16) d_M_walk_83 rfl (by decide) (fun q15 => ?_) (fun q15 => ?_)
          · have hf := ob_neg q15 hf
            refine g_ls [2, 3] rfl ?_
            exact ih w mf mu ch wy (upd nx x1.toNatClampNeg ((nx x1.toNatClampNeg) + 1)) x1 _ hf _ rfl
          · have hf := ob_pos q15 hf
            refine g_aload_n (n := 87) d_M_walk_86 rfl 2 rfl rfl ?_
            refine g_aload_n (n := 88) d_M_walk_87 rfl 2 rfl rfl ?_
            refine g_get (n := 91) (q0 := 18) d_M_walk_88 rfl (am_fl in_M rfl (by decide : 17 < 20)) (List.mem_cons_of_mem _ tw_882) rfl rfl ?_
            refine g_iload_n (n := 92) d_M_walk_91 rfl 3 rfl rfl ?_
            obtain ⟨b16, hf⟩ := ob_chk hf
            refine g_iald (n := 93) (q0 := 26) d_M_walk_92 rfl rfl (am_inl b16) ?_
            refine g_iload_n (n := 94) d_M_walk_93 rfl 1 rfl rfl ?_
            obtain ⟨r17, h18, hf⟩ := ob_bind hf
            refine c_Vr (n := 97) (st' := [.int r17]) [.int (wy x1.toNatClampNeg), .int (nx x1.toNatClampNeg)] [] d_M_walk_94 rfl (s_M_tells htr h18 rfl) tw_1140 tw_1142 (am_memS 48 (by decide +kernel) (by decide +kernel)) tw_8 tw_1143 hd_M_tells (by omega) (by decide) (ci := 7) rfl rfl rfl (Nat.le_of_ble_eq_true rfl) rfl rfl ?_
            refine g_if_eq (n := 100) (tgt := 103) d_M_walk_97 rfl (by decide) (fun q19 => ?_) (fun q19 => ?_)
            · have hf := ob_pos q19 hf
              refine g_aload_n (n := 104) d_M_walk_103 rfl 2 rfl rfl ?_
              refine g_iload_n (n := 105) d_M_walk_104 rfl 0 rfl rfl ?_
              refine g_iload_n (n := 106) d_M_walk_105 rfl 3 rfl rfl ?_
              obtain ⟨r20, h21, hf⟩ := ob_bind hf
              refine c_Vr (n := 109) (st' := [.int r20]) [.int r11, .int x1] [] d_M_walk_106 rfl (s_M_isBad htr h21 rfl) tw_1144 tw_1146 (am_memS 49 (by decide +kernel) (by decide +kernel)) tw_8 tw_1147 hd_M_isBad (by omega) (by decide) (ci := 7) rfl rfl rfl (Nat.le_of_ble_eq_true rfl) rfl rfl ?_
              refine g_if_eq (n := 112) (tgt := 136) d_M_walk_109 rfl (by decide) (fun q22 => ?_) (fun q22 => ?_)
              · have hf := ob_pos q22 hf
                refine g_aload_n (n := 137) d_M_walk_136 rfl 2 rfl rfl ?_
                refine g_iload_n (n := 138) d_M_walk_137 rfl 0 rfl rfl ?_
                refine g_bipush (n := 140) (v := 8) d_M_walk_138 rfl (by decide) ?_
                refine g_iadd (n := 141) d_M_walk_140 rfl ?_
                obtain ⟨r23, h24, hf⟩ := ob_bind hf
                refine c_Vr (n := 144) (st' := [.int r23]) [.int (r11 + 8)] [] d_M_walk_141 rfl (s_M_numberAt htr h24 rfl) tw_957 tw_959 (am_memS 17 (by decide +kernel) (by decide +kernel)) tw_8 tw_960 hd_M_numberAt (by omega) (by decide) (ci := 7) rfl rfl rfl (Nat.le_of_ble_eq_true rfl) rfl rfl ?_
                refine g_istore (n := 146) (ls' := [(4, .int r23), (3, .int r11), (2, .int (nx x1.toNatClampNeg)), (0, .ref 18), (1, .int x1)]) d_M_walk_144 rfl (am_ltb rfl) rfl ?_
                refine g_iload (n := 148) d_M_walk_146 rfl 0 rfl ?_
                refine g_if_ne (n := 151) (tgt := 155) d_M_walk_148 rfl (by decide) (fun q25 => ?_) (fun q25 => ?_)
                · have hf := ob_neg q25 hf
                  refine g_aload_n (n := 156) d_M_walk_155 rfl 3 rfl rfl ?_
                  refine g_iload (n := 158) d_M_walk_156 rfl 0 rfl ?_
                  obtain ⟨r26, h27, hf⟩ := ob_bind hf
                  refine c_Vr (n := 161) (st' := [.int r26.1]) [.int r23] [] d_M_walk_158 rfl (s_M_follow htr h27 rfl) tw_1132 tw_1134 (am_memS 46 (by decide +kernel) (by decide +kernel)) tw_8 tw_1135 hd_M_follow (by omega) (by decide) (ci := 7) rfl rfl rfl (Nat.le_of_ble_eq_true rfl) rfl rfl ?_
                  refine g_istore (n := 163) (ls' := [(5, .int r26.1), (4, .int r23), (3, .int r11), (2, .int (nx x1.toNatClampNeg)), (0, .ref 18), (1, .int x1)]) d_M_walk_161 rfl (am_ltb rfl) rfl ?_
                  refine g_aload_n (n := 164) d_M_walk_163 rfl 4 rfl rfl ?_
                  refine g_get (n := 167) (q0 := 18) d_M_walk_164 rfl (am_fl in_M rfl (by decide : 1 < 20)) (List.mem_cons_of_mem _ tw_866) rfl rfl ?_
                  refine g_iload_n (n := 168) d_M_walk_167 rfl 2 rfl rfl ?_
                  refine g_bipush (n := 170) (v := 6) d_M_walk_168 rfl (by decide) ?_
                  refine g_iadd (n := 171) d_M_walk_170 rfl ?_
                  obtain ⟨b28, hf⟩ := ob_chk hf
                  refine g_iald (n := 172) (q0 := 19) d_M_walk_171 rfl rfl (am_inl b28) ?_
                  refine g_iconst (n := 173) (v := 1) d_M_walk_172 rfl (by decide) ?_
                  refine g_icmp_ne (n := 176) (tgt := 186) d_M_walk_173 rfl (by decide) (fun q29 => ?_) (fun q29 => ?_)
                  · have hf := ob_neg q29 hf
                    refine g_iinc (n := 189) (v := (x1 + 1)) (ls' := [(1, .int (x1 + 1)), (5, .int r26.1), (4, .int r23), (3, .int r11), (2, .int (nx x1.toNatClampNeg)), (0, .ref 18)]) d_M_walk_186 rfl 5 rfl rfl (am_ltb rfl) rfl ?_
                    refine g_aload_n (n := 190) d_M_walk_189 rfl 5 rfl rfl ?_
                    refine g_get (n := 193) (q0 := 18) d_M_walk_190 rfl (am_fl in_M rfl (by decide : 17 < 20)) (List.mem_cons_of_mem _ tw_882) rfl rfl ?_
                    refine g_iload_n (n := 194) d_M_walk_193 rfl 0 rfl rfl ?_
                    refine g_iload (n := 196) d_M_walk_194 rfl 2 rfl ?_
                    obtain ⟨b30, hf⟩ := ob_chk hf
                    refine g_iast (n := 197) (q0 := 26) (h' := (hM hx r26.2.1.1 r26.2.1.2.1 r26.2.1.2.2.1 r26.2.1.2.2.2.1 r26.2.1.2.2.2.2.1 r26.2.1.2.2.2.2.2.1 r26.2.1.2.2.2.2.2.2.1 r26.2.1.2.2.2.2.2.2.2.1 r26.2.1.2.2.2.2.2.2.2.2 th sp mp r26.2.2.1 ml ps nm r26.2.2.2.1 r26.2.2.2.2 (upd wy (x1 + 1).toNatClampNeg r23) (upd nx x1.toNatClampNeg ((nx x1.toNatClampNeg) + 1)) rest)) d_M_walk_196 rfl rfl (am_inl b30) rfl ?_
                    refine g_aload_n (n := 198) d_M_walk_197 rfl 5 rfl rfl ?_
                    refine g_get (n := 201) (q0 := 18) d_M_walk_198 rfl (am_fl in_M rfl (by decide : 18 < 20)) (List.mem_cons_of_mem _ tw_883) rfl rfl ?_
                    refine g_iload_n (n := 202) d_M_walk_201 rfl 0 rfl rfl ?_
                    refine g_iconst (n := 203) (v := 0) d_M_walk_202 rfl (by decide) ?_
                    obtain ⟨b31, hf⟩ := ob_chk hf
                    refine g_iast (n := 204) (q0 := 27) (h' := (hM hx r26.2.1.1 r26.2.1.2.1 r26.2.1.2.2.1 r26.2.1.2.2.2.1 r26.2.1.2.2.2.2.1 r26.2.1.2.2.2.2.2.1 r26.2.1.2.2.2.2.2.2.1 r26.2.1.2.2.2.2.2.2.2.1 r26.2.1.2.2.2.2.2.2.2.2 th sp mp r26.2.2.1 ml ps nm r26.2.2.2.1 r26.2.2.2.2 (upd wy (x1 + 1).toNatClampNeg r23) (upd (upd nx x1.toNatClampNeg ((nx x1.toNatClampNeg) + 1)) (x1 + 1).toNatClampNeg 0) rest)) d_M_walk_203 rfl rfl (am_inl b31) rfl ?_
                    refine g_goto (n := 16) d_M_walk_204 (by decide) ?_
                    refine g_ls [5, 0] rfl ?_
                    exact ih r26.2.1 r26.2.2.1 r26.2.2.2.1 r26.2.2.2.2 (upd wy (x1 + 1).toNatClampNeg r23) (upd (upd nx x1.toNatClampNeg ((nx x1.toNatClampNeg) + 1)) (x1 + 1).toNatClampNeg 0) (x1 + 1) _ hf _ rfl
                  · have hf := ob_pos q29 hf
                    refine g_aload_n (n := 177) d_M_walk_176 rfl 4 rfl rfl ?_
                    refine g_iload_n (n := 178) d_M_walk_177 rfl 2 rfl rfl ?_
                    refine g_iload (n := 180) d_M_walk_178 rfl 0 rfl ?_
                    obtain ⟨r32, h33, hf⟩ := ob_bind hf
                    refine c_Vr (n := 183) (st' := []) [.int r11, .int r26.1] [] d_M_walk_180 rfl (s_M_mendFile htr h33 rfl) tw_1148 tw_1150 (am_memS 50 (by decide +kernel) (by decide +kernel)) tw_8 tw_1151 hd_M_mendFile (by omega) (by decide) (ci := 7) rfl rfl rfl (Nat.le_of_ble_eq_true rfl) rfl rfl ?_
                    refine g_goto (n := 204) d_M_walk_183 (by decide) ?_
                    refine g_goto (n := 16) d_M_walk_204 (by decide) ?_
                    refine g_ls [4, 5] rfl ?_
                    exact ih r32.1 r32.2.1 r32.2.2 r26.2.2.2.2 wy (upd nx x1.toNatClampNeg ((nx x1.toNatClampNeg) + 1)) x1 _ hf _ rfl
                · have hf := ob_pos q25 hf
                  refine g_iconst (n := 152) (v := 0) d_M_walk_151 rfl (by decide) ?_
                  refine g_goto (n := 161) d_M_walk_152 (by decide) ?_
                  refine g_istore (n := 163) (ls' := [(5, .int 0), (4, .int r23), (3, .int r11), (2, .int (nx x1.toNatClampNeg)), (0, .ref 18), (1, .int x1)]) d_M_walk_161 rfl (am_ltb rfl) rfl ?_
                  refine g_aload_n (n := 164) d_M_walk_163 rfl 4 rfl rfl ?_
                  refine g_get (n := 167) (q0 := 18) d_M_walk_164 rfl (am_fl in_M rfl (by decide : 1 < 20)) (List.mem_cons_of_mem _ tw_866) rfl rfl ?_
                  refine g_iload_n (n := 168) d_M_walk_167 rfl 2 rfl rfl ?_
                  refine g_bipush (n := 170) (v := 6) d_M_walk_168 rfl (by decide) ?_
                  refine g_iadd (n := 171) d_M_walk_170 rfl ?_
                  obtain ⟨b34, hf⟩ := ob_chk hf
                  refine g_iald (n := 172) (q0 := 19) d_M_walk_171 rfl rfl (am_inl b34) ?_
                  refine g_iconst (n := 173) (v := 1) d_M_walk_172 rfl (by decide) ?_
                  refine g_icmp_ne (n := 176) (tgt := 186) d_M_walk_173 rfl (by decide) (fun q35 => ?_) (fun q35 => ?_)
                  · have hf := ob_neg q35 hf
                    refine g_iinc (n := 189) (v := (x1 + 1)) (ls' := [(1, .int (x1 + 1)), (5, .int 0), (4, .int r23), (3, .int r11), (2, .int (nx x1.toNatClampNeg)), (0, .ref 18)]) d_M_walk_186 rfl 5 rfl rfl (am_ltb rfl) rfl ?_
                    refine g_aload_n (n := 190) d_M_walk_189 rfl 5 rfl rfl ?_
                    refine g_get (n := 193) (q0 := 18) d_M_walk_190 rfl (am_fl in_M rfl (by decide : 17 < 20)) (List.mem_cons_of_mem _ tw_882) rfl rfl ?_
                    refine g_iload_n (n := 194) d_M_walk_193 rfl 0 rfl rfl ?_
                    refine g_iload (n := 196) d_M_walk_194 rfl 2 rfl ?_
                    obtain ⟨b36, hf⟩ := ob_chk hf
                    refine g_iast (n := 197) (q0 := 26) (h' := (hM hx w.1 w.2.1 w.2.2.1 w.2.2.2.1 w.2.2.2.2.1 w.2.2.2.2.2.1 w.2.2.2.2.2.2.1 w.2.2.2.2.2.2.2.1 w.2.2.2.2.2.2.2.2 th sp mp mf ml ps nm mu ch (upd wy (x1 + 1).toNatClampNeg r23) (upd nx x1.toNatClampNeg ((nx x1.toNatClampNeg) + 1)) rest)) d_M_walk_196 rfl rfl (am_inl b36) rfl ?_
                    refine g_aload_n (n := 198) d_M_walk_197 rfl 5 rfl rfl ?_
                    refine g_get (n := 201) (q0 := 18) d_M_walk_198 rfl (am_fl in_M rfl (by decide : 18 < 20)) (List.mem_cons_of_mem _ tw_883) rfl rfl ?_
                    refine g_iload_n (n := 202) d_M_walk_201 rfl 0 rfl rfl ?_
                    refine g_iconst (n := 203) (v := 0) d_M_walk_202 rfl (by decide) ?_
                    obtain ⟨b37, hf⟩ := ob_chk hf
                    refine g_iast (n := 204) (q0 := 27) (h' := (hM hx w.1 w.2.1 w.2.2.1 w.2.2.2.1 w.2.2.2.2.1 w.2.2.2.2.2.1 w.2.2.2.2.2.2.1 w.2.2.2.2.2.2.2.1 w.2.2.2.2.2.2.2.2 th sp mp mf ml ps nm mu ch (upd wy (x1 + 1).toNatClampNeg r23) (upd (upd nx x1.toNatClampNeg ((nx x1.toNatClampNeg) + 1)) (x1 + 1).toNatClampNeg 0) rest)) d_M_walk_203 rfl rfl (am_inl b37) rfl ?_
                    refine g_goto (n := 16) d_M_walk_204 (by decide) ?_
                    refine g_ls [5, 0] rfl ?_
                    exact ih w mf mu ch (upd wy (x1 + 1).toNatClampNeg r23) (upd (upd nx x1.toNatClampNeg ((nx x1.toNatClampNeg) + 1)) (x1 + 1).toNatClampNeg 0) (x1 + 1) _ hf _ rfl
                  · have hf := ob_pos q35 hf
                    refine g_aload_n (n := 177) d_M_walk_176 rfl 4 rfl rfl ?_
                    refine g_iload_n (n := 178) d_M_walk_177 rfl 2 rfl rfl ?_
                    refine g_iload (n := 180) d_M_walk_178 rfl 0 rfl ?_
                    obtain ⟨r38, h39, hf⟩ := ob_bind hf
                    refine c_Vr (n := 183) (st' := []) [.int r11, .int 0] [] d_M_walk_180 rfl (s_M_mendFile htr h39 rfl) tw_1148 tw_1150 (am_memS 50 (by decide +kernel) (by decide +kernel)) tw_8 tw_1151 hd_M_mendFile (by omega) (by decide) (ci := 7) rfl rfl rfl (Nat.le_of_ble_eq_true rfl) rfl rfl ?_
                    refine g_goto (n := 204) d_M_walk_183 (by decide) ?_
                    refine g_goto (n := 16) d_M_walk_204 (by decide) ?_
                    refine g_ls [4, 5] rfl ?_
                    exact ih r38.1 r38.2.1 r38.2.2 ch wy (upd nx x1.toNatClampNeg ((nx x1.toNatClampNeg) + 1)) x1 _ hf _ rfl
              · have hf := ob_neg q22 hf
                refine g_aload_n (n := 113) d_M_walk_112 rfl 2 rfl rfl ?_
                refine g_aload_n (n := 114) d_M_walk_113 rfl 2 rfl rfl ?_
                refine g_get (n := 117) (q0 := 18) d_M_walk_114 rfl (am_fl in_M rfl (by decide : 17 < 20)) (List.mem_cons_of_mem _ tw_882) rfl rfl ?_
                refine g_iload_n (n := 118) d_M_walk_117 rfl 3 rfl rfl ?_
                obtain ⟨b40, hf⟩ := ob_chk hf
                refine g_iald (n := 119) (q0 := 26) d_M_walk_118 rfl rfl (am_inl b40) ?_
                refine g_iload_n (n := 120) d_M_walk_119 rfl 1 rfl rfl ?_
                obtain ⟨r41, h42, hf⟩ := ob_bind hf
                refine c_Vr (n := 123) (st' := []) [.int (wy x1.toNatClampNeg), .int (nx x1.toNatClampNeg)] [] d_M_walk_120 rfl (s_M_free htr h42 rfl) tw_1053 tw_1055 (am_memS 37 (by decide +kernel) (by decide +kernel)) tw_8 tw_1056 hd_M_free (by omega) (by decide) (ci := 7) rfl rfl rfl (Nat.le_of_ble_eq_true rfl) rfl rfl ?_
                refine g_aload_n (n := 124) d_M_walk_123 rfl 2 rfl rfl ?_
                refine g_dup (n := 125) d_M_walk_124 rfl rfl ?_
                refine g_get (n := 128) (q0 := 18) d_M_walk_125 rfl (am_fl in_M rfl (by decide : 19 < 20)) (List.mem_cons_of_mem _ tw_884) rfl rfl ?_
                refine g_iconst (n := 129) (v := 1) d_M_walk_128 rfl (by decide) ?_
                refine g_iadd (n := 130) d_M_walk_129 rfl ?_
                refine g_put (n := 133) (q0 := 18) (h' := (hM hx r41.1 r41.2.1 r41.2.2.1 r41.2.2.2.1 r41.2.2.2.2.1 r41.2.2.2.2.2.1 r41.2.2.2.2.2.2.1 r41.2.2.2.2.2.2.2.1 r41.2.2.2.2.2.2.2.2 th sp mp (mf + 1) ml ps nm mu ch wy (upd nx x1.toNatClampNeg ((nx x1.toNatClampNeg) + 1)) rest)) d_M_walk_130 rfl (am_fl in_M rfl (by decide : 19 < 20)) typ_M (List.mem_cons_of_mem _ tw_884) rfl (fun _ _ => rfl) (fun _ _ => rfl) rfl (am_ltb rfl) rfl ?_
                refine g_goto (n := 16) d_M_walk_133 (by decide) ?_
                refine g_ls [2, 3] rfl ?_
                exact ih r41 (mf + 1) mu ch wy (upd nx x1.toNatClampNeg ((nx x1.toNatClampNeg) + 1)) x1 _ hf _ rfl
            · have hf := ob_neg q19 hf
              refine g_goto (n := 16) d_M_walk_100 (by decide) ?_
              refine g_ls [2, 3] rfl ?_
              exact ih w mf mu ch wy (upd nx x1.toNatClampNeg ((nx x1.toNatClampNeg) + 1)) x1 _ hf _ rfl
        · have hf := ob_neg q7 hf
          refine g_iinc (n := 53) (v := (x1 + (-1))) (ls' := [(1, .int (x1 + (-1))), (2, .int (nx x1.toNatClampNeg)), (0, .ref 18)]) d_M_walk_50 rfl 2 rfl rfl (am_ltb rfl) rfl ?_
          refine g_goto (n := 16) d_M_walk_53 (by decide) ?_
          refine g_ls [2, 0] rfl ?_
          exact ih w mf mu ch wy nx (x1 + (-1)) _ hf _ rfl
def f_M_walk (w : am_MS) (mf : Int32) (mu : Nat → Int32) (ch : Nat → Int32) (wy : Nat → Int32) (nx : Nat → Int32) : Option (am_MS × Int32 × (Nat → Int32) × (Nat → Int32) × (Nat → Int32) × (Nat → Int32)) :=
  f_M_walk_L16 100000000000 w mf mu ch (upd wy (0 : Int32).toNatClampNeg 2) (upd nx (0 : Int32).toNatClampNeg 0) 0
set_option maxHeartbeats 4000000 in
set_option maxRecDepth 100000 in
theorem s_M_walk {l : Launch} {D : va_G} {dA : FieldType → ClassId} (htr : l.stackTraces = false) {hx : Nat → am_E} {rest : List am_E} {th : Int32} {sp : Int32} {mp : Int32} {mf : Int32} {ml : Nat → Int32} {ps : Nat → Int32} {nm : Nat → Int32} {mu : Nat → Int32} {ch : Nat → Int32} {wy : Nat → Int32} {nx : Nat → Int32} {w : am_MS}  {r : am_MS × Int32 × (Nat → Int32) × (Nat → Int32) × (Nat → Int32) × (Nat → Int32)} (hf : f_M_walk w mf mu ch wy nx = some r) {o : am_O} (ho : .inl none = o) :
    am_M (am_kk l D dA) y_M_walk ws_M_walk (am_rm 6 o) [.ref 18] (hM hx w.1 w.2.1 w.2.2.1 w.2.2.2.1 w.2.2.2.2.1 w.2.2.2.2.2.1 w.2.2.2.2.2.2.1 w.2.2.2.2.2.2.2.1 w.2.2.2.2.2.2.2.2 th sp mp mf ml ps nm mu ch wy nx rest) o (hM hx r.1.1 r.1.2.1 r.1.2.2.1 r.1.2.2.2.1 r.1.2.2.2.2.1 r.1.2.2.2.2.2.1 r.1.2.2.2.2.2.2.1 r.1.2.2.2.2.2.2.2.1 r.1.2.2.2.2.2.2.2.2 th sp mp r.2.1 ml ps nm r.2.2.1 r.2.2.2.1 r.2.2.2.2.1 r.2.2.2.2.2 rest) := by
  subst ho
  refine am_body (by decide) rfl (Nat.le_of_ble_eq_true rfl) rfl ?_
  rw [f_M_walk] at hf
  refine g_iconst (n := 1) (v := 0) d_M_walk_0 rfl (by decide) ?_
  refine g_istore_n (n := 2) (ls' := [(1, .int 0), (0, .ref 18)]) d_M_walk_1 rfl rfl (am_ltb rfl) rfl ?_
  refine g_aload_n (n := 3) d_M_walk_2 rfl 1 rfl rfl ?_
  refine g_get (n := 6) (q0 := 18) d_M_walk_3 rfl (am_fl in_M rfl (by decide : 17 < 20)) (List.mem_cons_of_mem _ tw_882) rfl rfl ?_
  refine g_iconst (n := 7) (v := 0) d_M_walk_6 rfl (by decide) ?_
  refine g_iconst (n := 8) (v := 2) d_M_walk_7 rfl (by decide) ?_
  refine g_iast (n := 9) (q0 := 26) (h' := (hM hx w.1 w.2.1 w.2.2.1 w.2.2.2.1 w.2.2.2.2.1 w.2.2.2.2.2.1 w.2.2.2.2.2.2.1 w.2.2.2.2.2.2.2.1 w.2.2.2.2.2.2.2.2 th sp mp mf ml ps nm mu ch (upd wy (0 : Int32).toNatClampNeg 2) nx rest)) d_M_walk_8 rfl rfl (am_inl (by decide)) rfl ?_
  refine g_aload_n (n := 10) d_M_walk_9 rfl 1 rfl rfl ?_
  refine g_get (n := 13) (q0 := 18) d_M_walk_10 rfl (am_fl in_M rfl (by decide : 18 < 20)) (List.mem_cons_of_mem _ tw_883) rfl rfl ?_
  refine g_iconst (n := 14) (v := 0) d_M_walk_13 rfl (by decide) ?_
  refine g_iconst (n := 15) (v := 0) d_M_walk_14 rfl (by decide) ?_
  refine g_iast (n := 16) (q0 := 27) (h' := (hM hx w.1 w.2.1 w.2.2.1 w.2.2.2.1 w.2.2.2.2.1 w.2.2.2.2.2.1 w.2.2.2.2.2.2.1 w.2.2.2.2.2.2.2.1 w.2.2.2.2.2.2.2.2 th sp mp mf ml ps nm mu ch (upd wy (0 : Int32).toNatClampNeg 2) (upd nx (0 : Int32).toNatClampNeg 0) rest)) d_M_walk_15 rfl rfl (am_inl (by decide)) rfl ?_
  refine g_ls [1, 0] rfl ?_
  exact s_M_walk_L16 htr 100000000000 w mf mu ch (upd wy (0 : Int32).toNatClampNeg 2) (upd nx (0 : Int32).toNatClampNeg 0) 0 _ hf _ rfl
def f_M_repair_L105 : Nat → am_MS → Int32 → Int32 → Int32 → (Nat → Int32) → (Nat → Int32) → (Nat → Int32) → (Nat → Int32) → Int32 → Option (Int32 × am_MS × Int32 × Int32 × Int32 × (Nat → Int32) × (Nat → Int32) × (Nat → Int32) × (Nat → Int32))
  | 0, _, _, _, _, _, _, _, _, _ => none
  | fuel + 1, w, th, sp, mf, mu, ch, wy, nx, x1 =>
  (if 64 ≤ x1 then (if w.2.1 = 0 then (if sp = 0 then some (mf, w, 0, 0, mf, mu, ch, wy, nx) else some (mf, w, 0, 0, mf, mu, ch, wy, nx)) else (if sp = 0 then some (0, w, 1, 0, mf, mu, ch, wy, nx) else some (0, w, 1, 1, mf, mu, ch, wy, nx))) else (if w.2.1 = 0 then ((f_M_cell w.2.2.2.2.2.2.2.1 x1).bind fun r29 => (if r29 = 0 then f_M_repair_L105 fuel w th sp mf mu ch wy nx (x1 + 1) else (if am_in x1 64 = true then (if (mu x1.toNatClampNeg) = 0 then ((f_M_fix w mf x1 0).bind fun r34 => f_M_repair_L105 fuel r34.1 th sp r34.2 mu ch wy nx (x1 + 1)) else f_M_repair_L105 fuel w th sp mf mu ch wy nx (x1 + 1)) else none))) else (if sp = 0 then some (0, w, 1, 0, mf, mu, ch, wy, nx) else some (0, w, 1, 1, mf, mu, ch, wy, nx))))
set_option maxHeartbeats 4000000 in
set_option maxRecDepth 100000 in
theorem s_M_repair_L105 {l : Launch} {D : va_G} {dA : FieldType → ClassId} (htr : l.stackTraces = false) {hx : Nat → am_E} {rest : List am_E} {mp : Int32} {ml : Nat → Int32} {ps : Nat → Int32} {nm : Nat → Int32}  : ∀ (fuel : Nat) (w : am_MS) (th : Int32) (sp : Int32) (mf : Int32) (mu : Nat → Int32) (ch : Nat → Int32) (wy : Nat → Int32) (nx : Nat → Int32) (x1 : Int32) (r : Int32 × am_MS × Int32 × Int32 × Int32 × (Nat → Int32) × (Nat → Int32) × (Nat → Int32) × (Nat → Int32)), f_M_repair_L105 fuel w th sp mf mu ch wy nx x1 = some r → ∀ o : am_O, .inl (some (.int r.1)) = o →
    am_G (am_kk l D dA) (ws_M_repair, y_M_repair.cls, prog_9_method_60_code, 2, (some .int), y_M_repair.name, [], am_rm 7 (o), none) o (hM hx r.2.1.1 r.2.1.2.1 r.2.1.2.2.1 r.2.1.2.2.2.1 r.2.1.2.2.2.2.1 r.2.1.2.2.2.2.2.1 r.2.1.2.2.2.2.2.2.1 r.2.1.2.2.2.2.2.2.2.1 r.2.1.2.2.2.2.2.2.2.2 r.2.2.1 r.2.2.2.1 mp r.2.2.2.2.1 ml ps nm r.2.2.2.2.2.1 r.2.2.2.2.2.2.1 r.2.2.2.2.2.2.2.1 r.2.2.2.2.2.2.2.2 rest) 0 0 105 [(0, .ref 18), (1, .int x1)] [] (hM hx w.1 w.2.1 w.2.2.1 w.2.2.2.1 w.2.2.2.2.1 w.2.2.2.2.2.1 w.2.2.2.2.2.2.1 w.2.2.2.2.2.2.2.1 w.2.2.2.2.2.2.2.2 th sp mp mf ml ps nm mu ch wy nx rest) := by
  intro fuel
  induction fuel with
  | zero =>
    intro w th sp mf mu ch wy nx x1 r hf
    cases hf
  | succ fuel ih =>
    intro w th sp mf mu ch wy nx x1 r hf o ho
    subst ho
    rw [f_M_repair_L105] at hf
    refine g_iload_n (n := 106) d_M_repair_105 rfl 1 rfl rfl ?_
    refine g_bipush (n := 108) (v := 64) d_M_repair_106 rfl (by decide) ?_
    refine g_icmp_ge (n := 111) (tgt := 147) d_M_repair_108 rfl (by decide) (fun q13 => ?_) (fun q13 => ?_)
    · have hf := ob_pos q13 hf
      refine g_aload_n (n := 148) d_M_repair_147 rfl 0 rfl rfl ?_
      refine g_aload_n (n := 149) d_M_repair_148 rfl 0 rfl rfl ?_
      refine g_get (n := 152) (q0 := 18) d_M_repair_149 rfl (am_fl in_M rfl (by decide : 4 < 20)) (List.mem_cons_of_mem _ tw_869) rfl rfl ?_
      refine g_if_eq (n := 155) (tgt := 159) d_M_repair_152 rfl (by decide) (fun q14 => ?_) (fun q14 => ?_)
      · have hf := ob_pos q14 hf
        refine g_iconst (n := 160) (v := 0) d_M_repair_159 rfl (by decide) ?_
        refine g_put (n := 163) (q0 := 18) (h' := (hM hx w.1 w.2.1 w.2.2.1 w.2.2.2.1 w.2.2.2.2.1 w.2.2.2.2.2.1 w.2.2.2.2.2.2.1 w.2.2.2.2.2.2.2.1 w.2.2.2.2.2.2.2.2 0 sp mp mf ml ps nm mu ch wy nx rest)) d_M_repair_160 rfl (am_fl in_M rfl (by decide : 0 < 20)) typ_M (List.mem_cons_of_mem _ tw_865) rfl (fun _ _ => rfl) (fun _ _ => rfl) rfl (am_ltb rfl) rfl ?_
        refine g_aload_n (n := 164) d_M_repair_163 rfl 0 rfl rfl ?_
        refine g_aload_n (n := 165) d_M_repair_164 rfl 0 rfl rfl ?_
        refine g_get (n := 168) (q0 := 18) d_M_repair_165 rfl (am_fl in_M rfl (by decide : 3 < 20)) (List.mem_cons_of_mem _ tw_868) rfl rfl ?_
        refine g_if_eq (n := 171) (tgt := 182) d_M_repair_168 rfl (by decide) (fun q15 => ?_) (fun q15 => ?_)
        · have hf := ob_pos q15 hf
          refine g_iconst (n := 183) (v := 0) d_M_repair_182 rfl (by decide) ?_
          refine g_put (n := 186) (q0 := 18) (h' := (hM hx w.1 w.2.1 w.2.2.1 w.2.2.2.1 w.2.2.2.2.1 w.2.2.2.2.2.1 w.2.2.2.2.2.2.1 w.2.2.2.2.2.2.2.1 w.2.2.2.2.2.2.2.2 0 0 mp mf ml ps nm mu ch wy nx rest)) d_M_repair_183 rfl (am_fl in_M rfl (by decide : 3 < 20)) typ_M (List.mem_cons_of_mem _ tw_868) rfl (fun _ _ => rfl) (fun _ _ => rfl) rfl (am_ltb rfl) rfl ?_
          refine g_aload_n (n := 187) d_M_repair_186 rfl 0 rfl rfl ?_
          refine g_get (n := 190) (q0 := 18) d_M_repair_187 rfl (am_fl in_M rfl (by decide : 4 < 20)) (List.mem_cons_of_mem _ tw_869) rfl rfl ?_
          refine g_if_eq (n := 193) (tgt := 197) d_M_repair_190 rfl (by decide) (fun _ => ?_) (fun q16 => absurd q14 q16)
          refine g_aload_n (n := 198) d_M_repair_197 rfl 0 rfl rfl ?_
          refine g_get (n := 201) (q0 := 18) d_M_repair_198 rfl (am_fl in_M rfl (by decide : 19 < 20)) (List.mem_cons_of_mem _ tw_884) rfl rfl ?_
          cases hf
          exact g_iret d_M_repair_201 rfl (Nat.zero_le _) (Nat.zero_le _)
        · have hf := ob_neg q15 hf
          refine g_aload_n (n := 172) d_M_repair_171 rfl 0 rfl rfl ?_
          refine g_get (n := 175) (q0 := 18) d_M_repair_172 rfl (am_fl in_M rfl (by decide : 4 < 20)) (List.mem_cons_of_mem _ tw_869) rfl rfl ?_
          refine g_if_eq (n := 178) (tgt := 182) d_M_repair_175 rfl (by decide) (fun _ => ?_) (fun q17 => absurd q14 q17)
          refine g_iconst (n := 183) (v := 0) d_M_repair_182 rfl (by decide) ?_
          refine g_put (n := 186) (q0 := 18) (h' := (hM hx w.1 w.2.1 w.2.2.1 w.2.2.2.1 w.2.2.2.2.1 w.2.2.2.2.2.1 w.2.2.2.2.2.2.1 w.2.2.2.2.2.2.2.1 w.2.2.2.2.2.2.2.2 0 0 mp mf ml ps nm mu ch wy nx rest)) d_M_repair_183 rfl (am_fl in_M rfl (by decide : 3 < 20)) typ_M (List.mem_cons_of_mem _ tw_868) rfl (fun _ _ => rfl) (fun _ _ => rfl) rfl (am_ltb rfl) rfl ?_
          refine g_aload_n (n := 187) d_M_repair_186 rfl 0 rfl rfl ?_
          refine g_get (n := 190) (q0 := 18) d_M_repair_187 rfl (am_fl in_M rfl (by decide : 4 < 20)) (List.mem_cons_of_mem _ tw_869) rfl rfl ?_
          refine g_if_eq (n := 193) (tgt := 197) d_M_repair_190 rfl (by decide) (fun _ => ?_) (fun q18 => absurd q14 q18)
          refine g_aload_n (n := 198) d_M_repair_197 rfl 0 rfl rfl ?_
          refine g_get (n := 201) (q0 := 18) d_M_repair_198 rfl (am_fl in_M rfl (by decide : 19 < 20)) (List.mem_cons_of_mem _ tw_884) rfl rfl ?_
          cases hf
          exact g_iret d_M_repair_201 rfl (Nat.zero_le _) (Nat.zero_le _)
      · have hf := ob_neg q14 hf
        refine g_iconst (n := 156) (v := 1) d_M_repair_155 rfl (by decide) ?_
        refine g_goto (n := 160) d_M_repair_156 (by decide) ?_
        refine g_put (n := 163) (q0 := 18) (h' := (hM hx w.1 w.2.1 w.2.2.1 w.2.2.2.1 w.2.2.2.2.1 w.2.2.2.2.2.1 w.2.2.2.2.2.2.1 w.2.2.2.2.2.2.2.1 w.2.2.2.2.2.2.2.2 1 sp mp mf ml ps nm mu ch wy nx rest)) d_M_repair_160 rfl (am_fl in_M rfl (by decide : 0 < 20)) typ_M (List.mem_cons_of_mem _ tw_865) rfl (fun _ _ => rfl) (fun _ _ => rfl) rfl (am_ltb rfl) rfl ?_
        refine g_aload_n (n := 164) d_M_repair_163 rfl 0 rfl rfl ?_
        refine g_aload_n (n := 165) d_M_repair_164 rfl 0 rfl rfl ?_
        refine g_get (n := 168) (q0 := 18) d_M_repair_165 rfl (am_fl in_M rfl (by decide : 3 < 20)) (List.mem_cons_of_mem _ tw_868) rfl rfl ?_
        refine g_if_eq (n := 171) (tgt := 182) d_M_repair_168 rfl (by decide) (fun q19 => ?_) (fun q19 => ?_)
        · have hf := ob_pos q19 hf
          refine g_iconst (n := 183) (v := 0) d_M_repair_182 rfl (by decide) ?_
          refine g_put (n := 186) (q0 := 18) (h' := (hM hx w.1 w.2.1 w.2.2.1 w.2.2.2.1 w.2.2.2.2.1 w.2.2.2.2.2.1 w.2.2.2.2.2.2.1 w.2.2.2.2.2.2.2.1 w.2.2.2.2.2.2.2.2 1 0 mp mf ml ps nm mu ch wy nx rest)) d_M_repair_183 rfl (am_fl in_M rfl (by decide : 3 < 20)) typ_M (List.mem_cons_of_mem _ tw_868) rfl (fun _ _ => rfl) (fun _ _ => rfl) rfl (am_ltb rfl) rfl ?_
          refine g_aload_n (n := 187) d_M_repair_186 rfl 0 rfl rfl ?_
          refine g_get (n := 190) (q0 := 18) d_M_repair_187 rfl (am_fl in_M rfl (by decide : 4 < 20)) (List.mem_cons_of_mem _ tw_869) rfl rfl ?_
          refine g_if_eq (n := 193) (tgt := 197) d_M_repair_190 rfl (by decide) (fun q20 => absurd q20 q14) (fun _ => ?_)
          refine g_iconst (n := 194) (v := 0) d_M_repair_193 rfl (by decide) ?_
          refine g_goto (n := 201) d_M_repair_194 (by decide) ?_
          cases hf
          exact g_iret d_M_repair_201 rfl (Nat.zero_le _) (Nat.zero_le _)
        · have hf := ob_neg q19 hf
          refine g_aload_n (n := 172) d_M_repair_171 rfl 0 rfl rfl ?_
          refine g_get (n := 175) (q0 := 18) d_M_repair_172 rfl (am_fl in_M rfl (by decide : 4 < 20)) (List.mem_cons_of_mem _ tw_869) rfl rfl ?_
          refine g_if_eq (n := 178) (tgt := 182) d_M_repair_175 rfl (by decide) (fun q21 => absurd q21 q14) (fun _ => ?_)
          refine g_iconst (n := 179) (v := 1) d_M_repair_178 rfl (by decide) ?_
          refine g_goto (n := 183) d_M_repair_179 (by decide) ?_
          refine g_put (n := 186) (q0 := 18) (h' := (hM hx w.1 w.2.1 w.2.2.1 w.2.2.2.1 w.2.2.2.2.1 w.2.2.2.2.2.1 w.2.2.2.2.2.2.1 w.2.2.2.2.2.2.2.1 w.2.2.2.2.2.2.2.2 1 1 mp mf ml ps nm mu ch wy nx rest)) d_M_repair_183 rfl (am_fl in_M rfl (by decide : 3 < 20)) typ_M (List.mem_cons_of_mem _ tw_868) rfl (fun _ _ => rfl) (fun _ _ => rfl) rfl (am_ltb rfl) rfl ?_
          refine g_aload_n (n := 187) d_M_repair_186 rfl 0 rfl rfl ?_
          refine g_get (n := 190) (q0 := 18) d_M_repair_187 rfl (am_fl in_M rfl (by decide : 4 < 20)) (List.mem_cons_of_mem _ tw_869) rfl rfl ?_
          refine g_if_eq (n := 193) (tgt := 197) d_M_repair_190 rfl (by decide) (fun q22 => absurd q22 q14) (fun _ => ?_)
          refine g_iconst (n := 194) (v := 0) d_M_repair_193 rfl (by decide) ?_
          refine g_goto (n := 201) d_M_repair_194 (by decide) ?_
          cases hf
          exact g_iret d_M_repair_201 rfl (Nat.zero_le _) (Nat.zero_le _)
    · have hf := ob_neg q13 hf
      refine g_aload_n (n := 112) d_M_repair_111 rfl 0 rfl rfl ?_
      refine g_get (n := 115) (q0 := 18) d_M_repair_112 rfl (am_fl in_M rfl (by decide : 4 < 20)) (List.mem_cons_of_mem _ tw_869) rfl rfl ?_
      refine g_if_ne (n := 118) (tgt := 147) d_M_repair_115 rfl (by decide) (fun q23 => ?_) (fun q23 => ?_)
      · have hf := ob_neg q23 hf
        refine g_aload_n (n := 148) d_M_repair_147 rfl 0 rfl rfl ?_
        refine g_aload_n (n := 149) d_M_repair_148 rfl 0 rfl rfl ?_
        refine g_get (n := 152) (q0 := 18) d_M_repair_149 rfl (am_fl in_M rfl (by decide : 4 < 20)) (List.mem_cons_of_mem _ tw_869) rfl rfl ?_
        refine g_if_eq (n := 155) (tgt := 159) d_M_repair_152 rfl (by decide) (fun q24 => absurd q24 q23) (fun _ => ?_)
        refine g_iconst (n := 156) (v := 1) d_M_repair_155 rfl (by decide) ?_
        refine g_goto (n := 160) d_M_repair_156 (by decide) ?_
        refine g_put (n := 163) (q0 := 18) (h' := (hM hx w.1 w.2.1 w.2.2.1 w.2.2.2.1 w.2.2.2.2.1 w.2.2.2.2.2.1 w.2.2.2.2.2.2.1 w.2.2.2.2.2.2.2.1 w.2.2.2.2.2.2.2.2 1 sp mp mf ml ps nm mu ch wy nx rest)) d_M_repair_160 rfl (am_fl in_M rfl (by decide : 0 < 20)) typ_M (List.mem_cons_of_mem _ tw_865) rfl (fun _ _ => rfl) (fun _ _ => rfl) rfl (am_ltb rfl) rfl ?_
        refine g_aload_n (n := 164) d_M_repair_163 rfl 0 rfl rfl ?_
        refine g_aload_n (n := 165) d_M_repair_164 rfl 0 rfl rfl ?_
        refine g_get (n := 168) (q0 := 18) d_M_repair_165 rfl (am_fl in_M rfl (by decide : 3 < 20)) (List.mem_cons_of_mem _ tw_868) rfl rfl ?_
        refine g_if_eq (n := 171) (tgt := 182) d_M_repair_168 rfl (by decide) (fun q25 => ?_) (fun q25 => ?_)
        · have hf := ob_pos q25 hf
          refine g_iconst (n := 183) (v := 0) d_M_repair_182 rfl (by decide) ?_
          refine g_put (n := 186) (q0 := 18) (h' := (hM hx w.1 w.2.1 w.2.2.1 w.2.2.2.1 w.2.2.2.2.1 w.2.2.2.2.2.1 w.2.2.2.2.2.2.1 w.2.2.2.2.2.2.2.1 w.2.2.2.2.2.2.2.2 1 0 mp mf ml ps nm mu ch wy nx rest)) d_M_repair_183 rfl (am_fl in_M rfl (by decide : 3 < 20)) typ_M (List.mem_cons_of_mem _ tw_868) rfl (fun _ _ => rfl) (fun _ _ => rfl) rfl (am_ltb rfl) rfl ?_
          refine g_aload_n (n := 187) d_M_repair_186 rfl 0 rfl rfl ?_
          refine g_get (n := 190) (q0 := 18) d_M_repair_187 rfl (am_fl in_M rfl (by decide : 4 < 20)) (List.mem_cons_of_mem _ tw_869) rfl rfl ?_
          refine g_if_eq (n := 193) (tgt := 197) d_M_repair_190 rfl (by decide) (fun q26 => absurd q26 q23) (fun _ => ?_)
          refine g_iconst (n := 194) (v := 0) d_M_repair_193 rfl (by decide) ?_
          refine g_goto (n := 201) d_M_repair_194 (by decide) ?_
          cases hf
          exact g_iret d_M_repair_201 rfl (Nat.zero_le _) (Nat.zero_le _)
        · have hf := ob_neg q25 hf
          refine g_aload_n (n := 172) d_M_repair_171 rfl 0 rfl rfl ?_
          refine g_get (n := 175) (q0 := 18) d_M_repair_172 rfl (am_fl in_M rfl (by decide : 4 < 20)) (List.mem_cons_of_mem _ tw_869) rfl rfl ?_
          refine g_if_eq (n := 178) (tgt := 182) d_M_repair_175 rfl (by decide) (fun q27 => absurd q27 q23) (fun _ => ?_)
          refine g_iconst (n := 179) (v := 1) d_M_repair_178 rfl (by decide) ?_
          refine g_goto (n := 183) d_M_repair_179 (by decide) ?_
          refine g_put (n := 186) (q0 := 18) (h' := (hM hx w.1 w.2.1 w.2.2.1 w.2.2.2.1 w.2.2.2.2.1 w.2.2.2.2.2.1 w.2.2.2.2.2.2.1 w.2.2.2.2.2.2.2.1 w.2.2.2.2.2.2.2.2 1 1 mp mf ml ps nm mu ch wy nx rest)) d_M_repair_183 rfl (am_fl in_M rfl (by decide : 3 < 20)) typ_M (List.mem_cons_of_mem _ tw_868) rfl (fun _ _ => rfl) (fun _ _ => rfl) rfl (am_ltb rfl) rfl ?_
          refine g_aload_n (n := 187) d_M_repair_186 rfl 0 rfl rfl ?_
          refine g_get (n := 190) (q0 := 18) d_M_repair_187 rfl (am_fl in_M rfl (by decide : 4 < 20)) (List.mem_cons_of_mem _ tw_869) rfl rfl ?_
          refine g_if_eq (n := 193) (tgt := 197) d_M_repair_190 rfl (by decide) (fun q28 => absurd q28 q23) (fun _ => ?_)
          refine g_iconst (n := 194) (v := 0) d_M_repair_193 rfl (by decide) ?_
          refine g_goto (n := 201) d_M_repair_194 (by decide) ?_
          cases hf
          exact g_iret d_M_repair_201 rfl (Nat.zero_le _) (Nat.zero_le _)
      · have hf := ob_pos q23 hf
        refine g_aload_n (n := 119) d_M_repair_118 rfl 0 rfl rfl ?_
        refine g_iload_n (n := 120) d_M_repair_119 rfl 1 rfl rfl ?_
        obtain ⟨r29, h30, hf⟩ := ob_bind hf
        refine c_Vr (n := 123) (st' := [.int r29]) [.int x1] [] d_M_repair_120 rfl (s_M_cell htr h30 rfl) tw_953 tw_955 (am_memS 16 (by decide +kernel) (by decide +kernel)) tw_8 tw_956 hd_M_cell (by omega) (by decide) (ci := 7) rfl rfl rfl (Nat.le_of_ble_eq_true rfl) rfl rfl ?_
        refine g_if_eq (n := 126) (tgt := 141) d_M_repair_123 rfl (by decide) (fun q31 => ?_) (fun q31 => ?_)
        · have hf := ob_pos q31 hf
          refine g_iinc (n := 144) (v := (x1 + 1)) (ls' := [(1, .int (x1 + 1)), (0, .ref 18)]) d_M_repair_141 rfl 1 rfl rfl (am_ltb rfl) rfl ?_
          refine g_goto (n := 105) d_M_repair_144 (by decide) ?_
          refine g_ls [1, 0] rfl ?_
          exact ih w th sp mf mu ch wy nx (x1 + 1) _ hf _ rfl
        · have hf := ob_neg q31 hf
          refine g_aload_n (n := 127) d_M_repair_126 rfl 0 rfl rfl ?_
          refine g_get (n := 130) (q0 := 18) d_M_repair_127 rfl (am_fl in_M rfl (by decide : 15 < 20)) (List.mem_cons_of_mem _ tw_880) rfl rfl ?_
          refine g_iload_n (n := 131) d_M_repair_130 rfl 1 rfl rfl ?_
          obtain ⟨b32, hf⟩ := ob_chk hf
          refine g_zald (n := 132) (q0 := 24) d_M_repair_131 rfl rfl (am_inl b32) ?_
          refine g_if_ne (n := 135) (tgt := 141) d_M_repair_132 rfl (by decide) (fun q33 => ?_) (fun q33 => ?_)
          · have hf := ob_neg q33 hf
            refine g_iinc (n := 144) (v := (x1 + 1)) (ls' := [(1, .int (x1 + 1)), (0, .ref 18)]) d_M_repair_141 rfl 1 rfl rfl (am_ltb rfl) rfl ?_
            refine g_goto (n := 105) d_M_repair_144 (by decide) ?_
            refine g_ls [1, 0] rfl ?_
            exact ih w th sp mf mu ch wy nx (x1 + 1) _ hf _ rfl
          · have hf := ob_pos q33 hf
            refine g_aload_n (n := 136) d_M_repair_135 rfl 0 rfl rfl ?_
            refine g_iload_n (n := 137) d_M_repair_136 rfl 1 rfl rfl ?_
            refine g_iconst (n := 138) (v := 0) d_M_repair_137 rfl (by decide) ?_
            obtain ⟨r34, h35, hf⟩ := ob_bind hf
            refine c_Vr (n := 141) (st' := []) [.int x1, .int 0] [] d_M_repair_138 rfl (s_M_fix htr h35 rfl) tw_1128 tw_1130 (am_memS 45 (by decide +kernel) (by decide +kernel)) tw_8 tw_1131 hd_M_fix (by omega) (by decide) (ci := 7) rfl rfl rfl (Nat.le_of_ble_eq_true rfl) rfl rfl ?_
            refine g_iinc (n := 144) (v := (x1 + 1)) (ls' := [(1, .int (x1 + 1)), (0, .ref 18)]) d_M_repair_141 rfl 1 rfl rfl (am_ltb rfl) rfl ?_
            refine g_goto (n := 105) d_M_repair_144 (by decide) ?_
            refine g_ls [1, 0] rfl ?_
            exact ih r34.1 th sp r34.2 mu ch wy nx (x1 + 1) _ hf _ rfl
def f_M_repair_L41 : Nat → am_MS → Int32 → Int32 → Int32 → (Nat → Int32) → (Nat → Int32) → (Nat → Int32) → (Nat → Int32) → Int32 → Option (Int32 × am_MS × Int32 × Int32 × Int32 × (Nat → Int32) × (Nat → Int32) × (Nat → Int32) × (Nat → Int32))
  | 0, _, _, _, _, _, _, _, _, _ => none
  | fuel + 1, w, th, sp, mf, mu, ch, wy, nx, x1 =>
  (if 64 ≤ x1 then ((f_M_mendTables w mf).bind fun r7 => ((f_M_cell r7.1.2.2.2.2.2.2.2.1 2).bind fun r9 => (if r9 = 0 then (if r7.1.2.1 = 0 then ((f_M_fix r7.1 r7.2 2 65535).bind fun r42 => (if r42.1.2.1 = 0 then ((f_M_follow r42.1 r42.2 mu ch 2).bind fun r45 => ((f_M_walk r45.2.1 r45.2.2.1 r45.2.2.2.1 r45.2.2.2.2 wy nx).bind fun r47 => f_M_repair_L105 100000000000 r47.1 th sp r47.2.1 r47.2.2.1 r47.2.2.2.1 r47.2.2.2.2.1 r47.2.2.2.2.2 2)) else f_M_repair_L105 100000000000 r42.1 th sp r42.2 mu ch wy nx 2)) else f_M_repair_L105 100000000000 r7.1 th sp r7.2 mu ch wy nx 2) else (if r7.1.2.1 = 0 then ((f_M_follow r7.1 r7.2 mu ch 2).bind fun r36 => ((f_M_walk r36.2.1 r36.2.2.1 r36.2.2.2.1 r36.2.2.2.2 wy nx).bind fun r38 => f_M_repair_L105 100000000000 r38.1 th sp r38.2.1 r38.2.2.1 r38.2.2.2.1 r38.2.2.2.2.1 r38.2.2.2.2.2 2)) else f_M_repair_L105 100000000000 r7.1 th sp r7.2 mu ch wy nx 2)))) else (if am_in x1 64 = true then f_M_repair_L41 fuel w th sp mf (upd mu x1.toNatClampNeg (vp_nar .boolean 0)) ch wy nx (x1 + 1) else none))
set_option maxHeartbeats 4000000 in
set_option maxRecDepth 100000 in
theorem s_M_repair_L41 {l : Launch} {D : va_G} {dA : FieldType → ClassId} (htr : l.stackTraces = false) {hx : Nat → am_E} {rest : List am_E} {mp : Int32} {ml : Nat → Int32} {ps : Nat → Int32} {nm : Nat → Int32}  : ∀ (fuel : Nat) (w : am_MS) (th : Int32) (sp : Int32) (mf : Int32) (mu : Nat → Int32) (ch : Nat → Int32) (wy : Nat → Int32) (nx : Nat → Int32) (x1 : Int32) (r : Int32 × am_MS × Int32 × Int32 × Int32 × (Nat → Int32) × (Nat → Int32) × (Nat → Int32) × (Nat → Int32)), f_M_repair_L41 fuel w th sp mf mu ch wy nx x1 = some r → ∀ o : am_O, .inl (some (.int r.1)) = o →
    am_G (am_kk l D dA) (ws_M_repair, y_M_repair.cls, prog_9_method_60_code, 2, (some .int), y_M_repair.name, [], am_rm 7 (o), none) o (hM hx r.2.1.1 r.2.1.2.1 r.2.1.2.2.1 r.2.1.2.2.2.1 r.2.1.2.2.2.2.1 r.2.1.2.2.2.2.2.1 r.2.1.2.2.2.2.2.2.1 r.2.1.2.2.2.2.2.2.2.1 r.2.1.2.2.2.2.2.2.2.2 r.2.2.1 r.2.2.2.1 mp r.2.2.2.2.1 ml ps nm r.2.2.2.2.2.1 r.2.2.2.2.2.2.1 r.2.2.2.2.2.2.2.1 r.2.2.2.2.2.2.2.2 rest) 0 0 41 [(0, .ref 18), (1, .int x1)] [] (hM hx w.1 w.2.1 w.2.2.1 w.2.2.2.1 w.2.2.2.2.1 w.2.2.2.2.2.1 w.2.2.2.2.2.2.1 w.2.2.2.2.2.2.2.1 w.2.2.2.2.2.2.2.2 th sp mp mf ml ps nm mu ch wy nx rest) := by
  intro fuel
  induction fuel with
  | zero =>
    intro w th sp mf mu ch wy nx x1 r hf
    cases hf
  | succ fuel ih =>
    intro w th sp mf mu ch wy nx x1 r hf o ho
    subst ho
    rw [f_M_repair_L41] at hf
    refine g_iload_n (n := 42) d_M_repair_41 rfl 1 rfl rfl ?_
    refine g_bipush (n := 44) (v := 64) d_M_repair_42 rfl (by decide) ?_
    refine g_icmp_ge (n := 47) (tgt := 60) d_M_repair_44 rfl (by decide) (fun q6 => ?_) (fun q6 => ?_)
    · have hf := ob_pos q6 hf
      refine g_aload_n (n := 61) d_M_repair_60 rfl 0 rfl rfl ?_
      obtain ⟨r7, h8, hf⟩ := ob_bind hf
      refine c_Vr (n := 64) (st' := []) [] [] d_M_repair_61 rfl (s_M_mendTables htr h8 rfl) tw_1123 tw_1125 (am_memS 44 (by decide +kernel) (by decide +kernel)) tw_8 tw_1126 hd_M_mendTables (by omega) (by decide) (ci := 7) rfl rfl rfl (Nat.le_of_ble_eq_true rfl) rfl rfl ?_
      refine g_aload_n (n := 65) d_M_repair_64 rfl 0 rfl rfl ?_
      refine g_iconst (n := 66) (v := 2) d_M_repair_65 rfl (by decide) ?_
      obtain ⟨r9, h10, hf⟩ := ob_bind hf
      refine c_Vr (n := 69) (st' := [.int r9]) [.int 2] [] d_M_repair_66 rfl (s_M_cell htr h10 rfl) tw_953 tw_955 (am_memS 16 (by decide +kernel) (by decide +kernel)) tw_8 tw_956 hd_M_cell (by omega) (by decide) (ci := 7) rfl rfl rfl (Nat.le_of_ble_eq_true rfl) rfl rfl ?_
      refine g_if_ne (n := 72) (tgt := 86) d_M_repair_69 rfl (by decide) (fun q11 => ?_) (fun q11 => ?_)
      · have hf := ob_neg q11 hf
        refine g_aload_n (n := 87) d_M_repair_86 rfl 0 rfl rfl ?_
        refine g_get (n := 90) (q0 := 18) d_M_repair_87 rfl (am_fl in_M rfl (by decide : 4 < 20)) (List.mem_cons_of_mem _ tw_869) rfl rfl ?_
        refine g_if_ne (n := 93) (tgt := 103) d_M_repair_90 rfl (by decide) (fun q12 => ?_) (fun q12 => ?_)
        · have hf := ob_neg q12 hf
          refine g_iconst (n := 104) (v := 2) d_M_repair_103 rfl (by decide) ?_
          refine g_istore_n (n := 105) (ls' := [(1, .int 2), (0, .ref 18)]) d_M_repair_104 rfl rfl (am_ltb rfl) rfl ?_
          refine g_ls [1, 0] rfl ?_
          exact s_M_repair_L105 htr 100000000000 r7.1 th sp r7.2 mu ch wy nx 2 _ hf _ rfl
        · have hf := ob_pos q12 hf
          refine g_aload_n (n := 94) d_M_repair_93 rfl 0 rfl rfl ?_
          refine g_iconst (n := 95) (v := 2) d_M_repair_94 rfl (by decide) ?_
          obtain ⟨r36, h37, hf⟩ := ob_bind hf
          refine c_Vr (n := 98) (st' := [.int r36.1]) [.int 2] [] d_M_repair_95 rfl (s_M_follow htr h37 rfl) tw_1132 tw_1134 (am_memS 46 (by decide +kernel) (by decide +kernel)) tw_8 tw_1135 hd_M_follow (by omega) (by decide) (ci := 7) rfl rfl rfl (Nat.le_of_ble_eq_true rfl) rfl rfl ?_
          refine g_istore_n (n := 99) (ls' := [(1, .int r36.1), (0, .ref 18)]) d_M_repair_98 rfl rfl (am_ltb rfl) rfl ?_
          refine g_aload_n (n := 100) d_M_repair_99 rfl 1 rfl rfl ?_
          obtain ⟨r38, h39, hf⟩ := ob_bind hf
          refine c_Vr (n := 103) (st' := []) [] [] d_M_repair_100 rfl (s_M_walk htr h39 rfl) tw_1136 tw_1138 (am_memS 47 (by decide +kernel) (by decide +kernel)) tw_8 tw_1139 hd_M_walk (by omega) (by decide) (ci := 7) rfl rfl rfl (Nat.le_of_ble_eq_true rfl) rfl rfl ?_
          refine g_iconst (n := 104) (v := 2) d_M_repair_103 rfl (by decide) ?_
          refine g_istore_n (n := 105) (ls' := [(1, .int 2), (0, .ref 18)]) d_M_repair_104 rfl rfl (am_ltb rfl) rfl ?_
          refine g_ls [1, 0] rfl ?_
          exact s_M_repair_L105 htr 100000000000 r38.1 th sp r38.2.1 r38.2.2.1 r38.2.2.2.1 r38.2.2.2.2.1 r38.2.2.2.2.2 2 _ hf _ rfl
      · have hf := ob_pos q11 hf
        refine g_aload_n (n := 73) d_M_repair_72 rfl 0 rfl rfl ?_
        refine g_get (n := 76) (q0 := 18) d_M_repair_73 rfl (am_fl in_M rfl (by decide : 4 < 20)) (List.mem_cons_of_mem _ tw_869) rfl rfl ?_
        refine g_if_ne (n := 79) (tgt := 86) d_M_repair_76 rfl (by decide) (fun q40 => ?_) (fun q40 => ?_)
        · have hf := ob_neg q40 hf
          refine g_aload_n (n := 87) d_M_repair_86 rfl 0 rfl rfl ?_
          refine g_get (n := 90) (q0 := 18) d_M_repair_87 rfl (am_fl in_M rfl (by decide : 4 < 20)) (List.mem_cons_of_mem _ tw_869) rfl rfl ?_
          refine g_if_ne (n := 93) (tgt := 103) d_M_repair_90 rfl (by decide) (fun _ => ?_) (fun q41 => absurd q41 q40)
          refine g_iconst (n := 104) (v := 2) d_M_repair_103 rfl (by decide) ?_
          refine g_istore_n (n := 105) (ls' := [(1, .int 2), (0, .ref 18)]) d_M_repair_104 rfl rfl (am_ltb rfl) rfl ?_
          refine g_ls [1, 0] rfl ?_
          exact s_M_repair_L105 htr 100000000000 r7.1 th sp r7.2 mu ch wy nx 2 _ hf _ rfl
        · have hf := ob_pos q40 hf
          refine g_aload_n (n := 80) d_M_repair_79 rfl 0 rfl rfl ?_
          refine g_iconst (n := 81) (v := 2) d_M_repair_80 rfl (by decide) ?_
          refine g_ldc (n := 83) (v := 65535) d_M_repair_81 rfl (List.mem_cons_of_mem _ tw_860) ?_
          obtain ⟨r42, h43, hf⟩ := ob_bind hf
          refine c_Vr (n := 86) (st' := []) [.int 2, .int 65535] [] d_M_repair_83 rfl (s_M_fix htr h43 rfl) tw_1128 tw_1130 (am_memS 45 (by decide +kernel) (by decide +kernel)) tw_8 tw_1131 hd_M_fix (by omega) (by decide) (ci := 7) rfl rfl rfl (Nat.le_of_ble_eq_true rfl) rfl rfl ?_
          refine g_aload_n (n := 87) d_M_repair_86 rfl 0 rfl rfl ?_
          refine g_get (n := 90) (q0 := 18) d_M_repair_87 rfl (am_fl in_M rfl (by decide : 4 < 20)) (List.mem_cons_of_mem _ tw_869) rfl rfl ?_
          refine g_if_ne (n := 93) (tgt := 103) d_M_repair_90 rfl (by decide) (fun q44 => ?_) (fun q44 => ?_)
          · have hf := ob_neg q44 hf
            refine g_iconst (n := 104) (v := 2) d_M_repair_103 rfl (by decide) ?_
            refine g_istore_n (n := 105) (ls' := [(1, .int 2), (0, .ref 18)]) d_M_repair_104 rfl rfl (am_ltb rfl) rfl ?_
            refine g_ls [1, 0] rfl ?_
            exact s_M_repair_L105 htr 100000000000 r42.1 th sp r42.2 mu ch wy nx 2 _ hf _ rfl
          · have hf := ob_pos q44 hf
            refine g_aload_n (n := 94) d_M_repair_93 rfl 0 rfl rfl ?_
            refine g_iconst (n := 95) (v := 2) d_M_repair_94 rfl (by decide) ?_
            obtain ⟨r45, h46, hf⟩ := ob_bind hf
            refine c_Vr (n := 98) (st' := [.int r45.1]) [.int 2] [] d_M_repair_95 rfl (s_M_follow htr h46 rfl) tw_1132 tw_1134 (am_memS 46 (by decide +kernel) (by decide +kernel)) tw_8 tw_1135 hd_M_follow (by omega) (by decide) (ci := 7) rfl rfl rfl (Nat.le_of_ble_eq_true rfl) rfl rfl ?_
            refine g_istore_n (n := 99) (ls' := [(1, .int r45.1), (0, .ref 18)]) d_M_repair_98 rfl rfl (am_ltb rfl) rfl ?_
            refine g_aload_n (n := 100) d_M_repair_99 rfl 1 rfl rfl ?_
            obtain ⟨r47, h48, hf⟩ := ob_bind hf
            refine c_Vr (n := 103) (st' := []) [] [] d_M_repair_100 rfl (s_M_walk htr h48 rfl) tw_1136 tw_1138 (am_memS 47 (by decide +kernel) (by decide +kernel)) tw_8 tw_1139 hd_M_walk (by omega) (by decide) (ci := 7) rfl rfl rfl (Nat.le_of_ble_eq_true rfl) rfl rfl ?_
            refine g_iconst (n := 104) (v := 2) d_M_repair_103 rfl (by decide) ?_
            refine g_istore_n (n := 105) (ls' := [(1, .int 2), (0, .ref 18)]) d_M_repair_104 rfl rfl (am_ltb rfl) rfl ?_
            refine g_ls [1, 0] rfl ?_
            exact s_M_repair_L105 htr 100000000000 r47.1 th sp r47.2.1 r47.2.2.1 r47.2.2.2.1 r47.2.2.2.2.1 r47.2.2.2.2.2 2 _ hf _ rfl
    · have hf := ob_neg q6 hf
      refine g_aload_n (n := 48) d_M_repair_47 rfl 0 rfl rfl ?_
      refine g_get (n := 51) (q0 := 18) d_M_repair_48 rfl (am_fl in_M rfl (by decide : 15 < 20)) (List.mem_cons_of_mem _ tw_880) rfl rfl ?_
      refine g_iload_n (n := 52) d_M_repair_51 rfl 1 rfl rfl ?_
      refine g_iconst (n := 53) (v := 0) d_M_repair_52 rfl (by decide) ?_
      obtain ⟨b49, hf⟩ := ob_chk hf
      refine g_zast (n := 54) (q0 := 24) (h' := (hM hx w.1 w.2.1 w.2.2.1 w.2.2.2.1 w.2.2.2.2.1 w.2.2.2.2.2.1 w.2.2.2.2.2.2.1 w.2.2.2.2.2.2.2.1 w.2.2.2.2.2.2.2.2 th sp mp mf ml ps nm (upd mu x1.toNatClampNeg (vp_nar .boolean 0)) ch wy nx rest)) d_M_repair_53 rfl rfl (am_inl b49) rfl ?_
      refine g_iinc (n := 57) (v := (x1 + 1)) (ls' := [(1, .int (x1 + 1)), (0, .ref 18)]) d_M_repair_54 rfl 1 rfl rfl (am_ltb rfl) rfl ?_
      refine g_goto (n := 41) d_M_repair_57 (by decide) ?_
      refine g_ls [1, 0] rfl ?_
      exact ih w th sp mf (upd mu x1.toNatClampNeg (vp_nar .boolean 0)) ch wy nx (x1 + 1) _ hf _ rfl
