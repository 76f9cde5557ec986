def f_M_write (w : am_MS) (th : Int32) (sp : Int32) (ps : Nat → Int32) (x1 : Int32) (x2 : Int64) (x4 : Int32) : Option (Int32 × am_MS × Int32 × (Nat → Int32)) :=
  ((f_M_ready w.1 w.2.1 th sp).bind fun r1 => (if r1.1 = 0 then some (0, (w.1, r1.2.1, w.2.2.1, w.2.2.2.1, w.2.2.2.2.1, w.2.2.2.2.2.1, w.2.2.2.2.2.2.1, w.2.2.2.2.2.2.2.1, w.2.2.2.2.2.2.2.2), r1.2.2, ps) else ((f_M_isOpen w.2.2.2.2.2.2.2.2 x1).bind fun r4 => (if r4 = 0 then some (0, (w.1, r1.2.1, w.2.2.1, w.2.2.2.1, w.2.2.2.2.1, w.2.2.2.2.2.1, w.2.2.2.2.2.2.1, w.2.2.2.2.2.2.2.1, w.2.2.2.2.2.2.2.2), 2, ps) else ((f_M_in x4 1 8).bind fun r8 => (if r8 = 0 then some (0, (w.1, r1.2.1, w.2.2.1, w.2.2.2.1, w.2.2.2.2.1, w.2.2.2.2.2.1, w.2.2.2.2.2.2.1, w.2.2.2.2.2.2.2.1, w.2.2.2.2.2.2.2.2), 2, ps) else (if am_in x1 4 = true then (if ((ps x1.toNatClampNeg) + x4) ≤ 1024 then (if am_in x1 4 = true then (if am_in x1 4 = true then ((f_M_numberAt w.2.2.2.2.2.2.2.1 ((w.2.2.2.2.2.2.2.2 x1.toNatClampNeg) + 8)).bind fun r16 => ((f_M_length w.2.2.2.2.2.2.2.1 r16).bind fun r18 => f_M_write_L99 100000000000 (w.1, r1.2.1, w.2.2.1, w.2.2.2.1, w.2.2.2.2.1, w.2.2.2.2.2.1, w.2.2.2.2.2.2.1, w.2.2.2.2.2.2.2.1, w.2.2.2.2.2.2.2.2) 0 sp ps x1 x2 x4 (w.2.2.2.2.2.2.2.2 x1.toNatClampNeg) (ps x1.toNatClampNeg) r18 1)) else none) else none) else some (0, (w.1, r1.2.1, w.2.2.1, w.2.2.2.1, w.2.2.2.2.1, w.2.2.2.2.2.1, w.2.2.2.2.2.2.1, w.2.2.2.2.2.2.2.1, w.2.2.2.2.2.2.2.2), 3, ps)) else none)))))))
set_option maxHeartbeats 4000000 in
set_option maxRecDepth 100000 in
theorem s_M_write {l : Launch} {D : va_G} {dA : FieldType → ClassId} (htr : l.stackTraces = false) {hx : Nat → am_E} {rest : List am_E} {th : Int32} {sp : Int32} {mp : Int32} {mf : Int32} {ml : Nat → Int32} {ps : Nat → Int32} {nm : Nat → Int32} {mu : Nat → Int32} {ch : Nat → Int32} {wy : Nat → Int32} {nx : Nat → Int32} {w : am_MS} {x1 : Int32} {x2 : Int64} {x4 : Int32} {r : Int32 × am_MS × Int32 × (Nat → Int32)} (hf : f_M_write w th sp ps x1 x2 x4 = some r) {o : am_O} (ho : .inl (some (.int r.1)) = o) :
    am_M (am_kk l D dA) y_M_write ws_M_write (am_rm 4 o) [.ref 18, .int x1, .long x2, .int x4] (hM hx w.1 w.2.1 w.2.2.1 w.2.2.2.1 w.2.2.2.2.1 w.2.2.2.2.2.1 w.2.2.2.2.2.2.1 w.2.2.2.2.2.2.2.1 w.2.2.2.2.2.2.2.2 th sp mp mf ml ps nm mu ch wy nx rest) o (hM hx r.2.1.1 r.2.1.2.1 r.2.1.2.2.1 r.2.1.2.2.2.1 r.2.1.2.2.2.2.1 r.2.1.2.2.2.2.2.1 r.2.1.2.2.2.2.2.2.1 r.2.1.2.2.2.2.2.2.2.1 r.2.1.2.2.2.2.2.2.2.2 r.2.2.1 sp mp mf ml r.2.2.2 nm mu ch wy nx rest) := by
  subst ho
  refine am_body (by decide) rfl (Nat.le_of_ble_eq_true rfl) rfl ?_
  rw [f_M_write] at hf
  refine g_aload_n (n := 1) d_M_write_0 rfl 0 rfl rfl ?_
  obtain ⟨r1, h2, hf⟩ := ob_bind hf
  refine c_Vr (n := 4) (st' := [.int r1.1]) [] [] d_M_write_1 rfl (s_M_ready htr h2 rfl) tw_934 tw_936 (am_memS 12 (by decide +kernel) (by decide +kernel)) tw_8 tw_937 hd_M_ready (by omega) (by decide) (ci := 7) rfl rfl rfl (Nat.le_of_ble_eq_true rfl) rfl rfl ?_
  refine g_if_ne (n := 7) (tgt := 9) d_M_write_4 rfl (by decide) (fun q3 => ?_) (fun q3 => ?_)
  · have hf := ob_neg q3 hf
    refine g_aload_n (n := 10) d_M_write_9 rfl 0 rfl rfl ?_
    refine g_aload_n (n := 11) d_M_write_10 rfl 0 rfl rfl ?_
    refine g_iload_n (n := 12) d_M_write_11 rfl 1 rfl rfl ?_
    obtain ⟨r4, h5, hf⟩ := ob_bind hf
    refine c_Vr (n := 15) (st' := [.int r4, .ref 18]) [.int x1] [.ref 18] d_M_write_12 rfl (s_M_isOpen htr h5 rfl) tw_1073 tw_1075 (am_memS 39 (by decide +kernel) (by decide +kernel)) tw_8 tw_1076 hd_M_isOpen (by omega) (by decide) (ci := 7) rfl rfl rfl (Nat.le_of_ble_eq_true rfl) rfl rfl ?_
    refine g_if_eq (n := 18) (tgt := 29) d_M_write_15 rfl (by decide) (fun q6 => ?_) (fun q6 => ?_)
    · have hf := ob_pos q6 hf
      refine g_iconst (n := 30) (v := 2) d_M_write_29 rfl (by decide) ?_
      refine g_goto (n := 53) d_M_write_30 (by decide) ?_
      refine g_put (n := 56) (q0 := 18) (h' := (hM hx w.1 r1.2.1 w.2.2.1 w.2.2.2.1 w.2.2.2.2.1 w.2.2.2.2.2.1 w.2.2.2.2.2.2.1 w.2.2.2.2.2.2.2.1 w.2.2.2.2.2.2.2.2 2 sp mp mf ml ps nm mu ch wy nx rest)) d_M_write_53 rfl (am_fl in_M rfl (by decide : 0 < 20)) typ_M (List.mem_cons_of_mem _ tw_865) rfl (fun _ _ => rfl) (fun _ _ => rfl) rfl (am_ltb rfl) rfl ?_
      refine g_aload_n (n := 57) d_M_write_56 rfl 0 rfl rfl ?_
      refine g_get (n := 60) (q0 := 18) d_M_write_57 rfl (am_fl in_M rfl (by decide : 0 < 20)) (List.mem_cons_of_mem _ tw_865) rfl rfl ?_
      refine g_if_le (n := 63) (tgt := 65) d_M_write_60 rfl (by decide) (fun q7 => absurd q7 (by decide)) (fun _ => ?_)
      refine g_iconst (n := 64) (v := 0) d_M_write_63 rfl (by decide) ?_
      cases hf
      exact g_iret d_M_write_64 rfl (Nat.zero_le _) (Nat.zero_le _)
    · have hf := ob_neg q6 hf
      refine g_iload (n := 20) d_M_write_18 rfl 3 rfl ?_
      refine g_iconst (n := 21) (v := 1) d_M_write_20 rfl (by decide) ?_
      refine g_bipush (n := 23) (v := 8) d_M_write_21 rfl (by decide) ?_
      obtain ⟨r8, h9, hf⟩ := ob_bind hf
      refine c_Sr (n := 26) (st' := [.int r8, .ref 18]) [.int x4, .int 1, .int 8] [.ref 18] d_M_write_23 rfl (s_M_in htr h9 rfl) tw_938 tw_939 tw_8 tw_940 rfl hd_M_in (by omega) (by decide) rfl (Nat.le_of_ble_eq_true rfl) rfl rfl ?_
      refine g_if_ne (n := 29) (tgt := 33) d_M_write_26 rfl (by decide) (fun q10 => ?_) (fun q10 => ?_)
      · have hf := ob_neg q10 hf
        refine g_aload_n (n := 34) d_M_write_33 rfl 0 rfl rfl ?_
        refine g_get (n := 37) (q0 := 18) d_M_write_34 rfl (am_fl in_M rfl (by decide : 12 < 20)) (List.mem_cons_of_mem _ tw_877) rfl rfl ?_
        refine g_iload_n (n := 38) d_M_write_37 rfl 1 rfl rfl ?_
        obtain ⟨b11, hf⟩ := ob_chk hf
        refine g_iald (n := 39) (q0 := 22) d_M_write_38 rfl rfl (am_inl b11) ?_
        refine g_iload (n := 41) d_M_write_39 rfl 3 rfl ?_
        refine g_iadd (n := 42) d_M_write_41 rfl ?_
        refine g_sipush (n := 45) (v := 1024) d_M_write_42 rfl (by decide) ?_
        refine g_icmp_le (n := 48) (tgt := 52) d_M_write_45 rfl (by decide) (fun q12 => ?_) (fun q12 => ?_)
        · have hf := ob_pos q12 hf
          refine g_iconst (n := 53) (v := 0) d_M_write_52 rfl (by decide) ?_
          refine g_put (n := 56) (q0 := 18) (h' := (hM hx w.1 r1.2.1 w.2.2.1 w.2.2.2.1 w.2.2.2.2.1 w.2.2.2.2.2.1 w.2.2.2.2.2.2.1 w.2.2.2.2.2.2.2.1 w.2.2.2.2.2.2.2.2 0 sp mp mf ml ps nm mu ch wy nx rest)) d_M_write_53 rfl (am_fl in_M rfl (by decide : 0 < 20)) typ_M (List.mem_cons_of_mem _ tw_865) rfl (fun _ _ => rfl) (fun _ _ => rfl) rfl (am_ltb rfl) rfl ?_
          refine g_aload_n (n := 57) d_M_write_56 rfl 0 rfl rfl ?_
          refine g_get (n := 60) (q0 := 18) d_M_write_57 rfl (am_fl in_M rfl (by decide : 0 < 20)) (List.mem_cons_of_mem _ tw_865) rfl rfl ?_
          refine g_if_le (n := 63) (tgt := 65) d_M_write_60 rfl (by decide) (fun _ => ?_) (fun q13 => absurd q13 (by decide))
          refine g_aload_n (n := 66) d_M_write_65 rfl 0 rfl rfl ?_
          refine g_get (n := 69) (q0 := 18) d_M_write_66 rfl (am_fl in_M rfl (by decide : 11 < 20)) (List.mem_cons_of_mem _ tw_876) rfl rfl ?_
          refine g_iload_n (n := 70) d_M_write_69 rfl 1 rfl rfl ?_
          obtain ⟨b14, hf⟩ := ob_chk hf
          refine g_iald (n := 71) (q0 := 21) d_M_write_70 rfl rfl (am_inl b14) ?_
          refine g_istore (n := 73) (ls' := [(5, .int (w.2.2.2.2.2.2.2.2 x1.toNatClampNeg)), (0, .ref 18), (1, .int x1), (2, .long x2), (4, .int x4)]) d_M_write_71 rfl (am_ltb rfl) rfl ?_
          refine g_aload_n (n := 74) d_M_write_73 rfl 1 rfl rfl ?_
          refine g_get (n := 77) (q0 := 18) d_M_write_74 rfl (am_fl in_M rfl (by decide : 12 < 20)) (List.mem_cons_of_mem _ tw_877) rfl rfl ?_
          refine g_iload_n (n := 78) d_M_write_77 rfl 2 rfl rfl ?_
          obtain ⟨b15, hf⟩ := ob_chk hf
          refine g_iald (n := 79) (q0 := 22) d_M_write_78 rfl rfl (am_inl b15) ?_
          refine g_istore (n := 81) (ls' := [(6, .int (ps x1.toNatClampNeg)), (5, .int (w.2.2.2.2.2.2.2.2 x1.toNatClampNeg)), (0, .ref 18), (1, .int x1), (2, .long x2), (4, .int x4)]) d_M_write_79 rfl (am_ltb rfl) rfl ?_
          refine g_aload_n (n := 82) d_M_write_81 rfl 2 rfl rfl ?_
          refine g_aload_n (n := 83) d_M_write_82 rfl 2 rfl rfl ?_
          refine g_iload (n := 85) d_M_write_83 rfl 1 rfl ?_
          refine g_bipush (n := 87) (v := 8) d_M_write_85 rfl (by decide) ?_
          refine g_iadd (n := 88) d_M_write_87 rfl ?_
          obtain ⟨r16, h17, hf⟩ := ob_bind hf
          refine c_Vr (n := 91) (st' := [.int r16, .ref 18]) [.int ((w.2.2.2.2.2.2.2.2 x1.toNatClampNeg) + 8)] [.ref 18] d_M_write_88 rfl (s_M_numberAt htr h17 rfl) tw_957 tw_959 (am_memS 17 (by decide +kernel) (by decide +kernel)) tw_8 tw_960 hd_M_numberAt (by omega) (by decide) (ci := 7) rfl rfl rfl (Nat.le_of_ble_eq_true rfl) rfl rfl ?_
          obtain ⟨r18, h19, hf⟩ := ob_bind hf
          refine c_Vr (n := 94) (st' := [.int r18]) [.int r16] [] d_M_write_91 rfl (s_M_length htr h19 rfl) tw_945 tw_947 (am_memS 14 (by decide +kernel) (by decide +kernel)) tw_8 tw_948 hd_M_length (by omega) (by decide) (ci := 7) rfl rfl rfl (Nat.le_of_ble_eq_true rfl) rfl rfl ?_
          refine g_istore (n := 96) (ls' := [(7, .int r18), (6, .int (ps x1.toNatClampNeg)), (5, .int (w.2.2.2.2.2.2.2.2 x1.toNatClampNeg)), (0, .ref 18), (1, .int x1), (2, .long x2), (4, .int x4)]) d_M_write_94 rfl (am_ltb rfl) rfl ?_
          refine g_iconst (n := 97) (v := 1) d_M_write_96 rfl (by decide) ?_
          refine g_istore (n := 99) (ls' := [(8, .int 1), (7, .int r18), (6, .int (ps x1.toNatClampNeg)), (5, .int (w.2.2.2.2.2.2.2.2 x1.toNatClampNeg)), (0, .ref 18), (1, .int x1), (2, .long x2), (4, .int x4)]) d_M_write_97 rfl (am_ltb rfl) rfl ?_
          refine g_ls [4, 5, 6, 7, 3, 2, 1, 0] rfl ?_
          exact s_M_write_L99 htr 100000000000 (w.1, r1.2.1, w.2.2.1, w.2.2.2.1, w.2.2.2.2.1, w.2.2.2.2.2.1, w.2.2.2.2.2.2.1, w.2.2.2.2.2.2.2.1, w.2.2.2.2.2.2.2.2) 0 sp ps x1 x2 x4 (w.2.2.2.2.2.2.2.2 x1.toNatClampNeg) (ps x1.toNatClampNeg) r18 1 _ hf _ rfl
        · have hf := ob_neg q12 hf
          refine g_iconst (n := 49) (v := 3) d_M_write_48 rfl (by decide) ?_
          refine g_goto (n := 53) d_M_write_49 (by decide) ?_
          refine g_put (n := 56) (q0 := 18) (h' := (hM hx w.1 r1.2.1 w.2.2.1 w.2.2.2.1 w.2.2.2.2.1 w.2.2.2.2.2.1 w.2.2.2.2.2.2.1 w.2.2.2.2.2.2.2.1 w.2.2.2.2.2.2.2.2 3 sp mp mf ml ps nm mu ch wy nx rest)) d_M_write_53 rfl (am_fl in_M rfl (by decide : 0 < 20)) typ_M (List.mem_cons_of_mem _ tw_865) rfl (fun _ _ => rfl) (fun _ _ => rfl) rfl (am_ltb rfl) rfl ?_
          refine g_aload_n (n := 57) d_M_write_56 rfl 0 rfl rfl ?_
          refine g_get (n := 60) (q0 := 18) d_M_write_57 rfl (am_fl in_M rfl (by decide : 0 < 20)) (List.mem_cons_of_mem _ tw_865) rfl rfl ?_
          refine g_if_le (n := 63) (tgt := 65) d_M_write_60 rfl (by decide) (fun q124 => absurd q124 (by decide)) (fun _ => ?_)
          refine g_iconst (n := 64) (v := 0) d_M_write_63 rfl (by decide) ?_
          cases hf
          exact g_iret d_M_write_64 rfl (Nat.zero_le _) (Nat.zero_le _)
      · have hf := ob_pos q10 hf
        refine g_iconst (n := 30) (v := 2) d_M_write_29 rfl (by decide) ?_
        refine g_goto (n := 53) d_M_write_30 (by decide) ?_
        refine g_put (n := 56) (q0 := 18) (h' := (hM hx w.1 r1.2.1 w.2.2.1 w.2.2.2.1 w.2.2.2.2.1 w.2.2.2.2.2.1 w.2.2.2.2.2.2.1 w.2.2.2.2.2.2.2.1 w.2.2.2.2.2.2.2.2 2 sp mp mf ml ps nm mu ch wy nx rest)) d_M_write_53 rfl (am_fl in_M rfl (by decide : 0 < 20)) typ_M (List.mem_cons_of_mem _ tw_865) rfl (fun _ _ => rfl) (fun _ _ => rfl) rfl (am_ltb rfl) rfl ?_
        refine g_aload_n (n := 57) d_M_write_56 rfl 0 rfl rfl ?_
        refine g_get (n := 60) (q0 := 18) d_M_write_57 rfl (am_fl in_M rfl (by decide : 0 < 20)) (List.mem_cons_of_mem _ tw_865) rfl rfl ?_
        refine g_if_le (n := 63) (tgt := 65) d_M_write_60 rfl (by decide) (fun q125 => absurd q125 (by decide)) (fun _ => ?_)
        refine g_iconst (n := 64) (v := 0) d_M_write_63 rfl (by decide) ?_
        cases hf
        exact g_iret d_M_write_64 rfl (Nat.zero_le _) (Nat.zero_le _)
  · have hf := ob_pos q3 hf
    refine g_iconst (n := 8) (v := 0) d_M_write_7 rfl (by decide) ?_
    cases hf
    exact g_iret d_M_write_8 rfl (Nat.zero_le _) (Nat.zero_le _)
def f_M_list_L192 : Nat → Int32 → Int32 → Int32 → (Nat → Int32) → Int32 → Int32 → Int32 → Int32 → Option (Int32 × Int32 × Int32)
  | 0, _, _, _, _, _, _, _, _ => none
  | fuel + 1, on, dd, mh, dk, th, sp, x3, x6 =>
  (if 26 ≤ x6 then some (x6, dd, th) else ((f_M_letter dk mh x3 x6).bind fun r24 => (if r24 = 0 then some (x6, dd, th) else f_M_list_L192 fuel on dd mh dk th sp x3 (x6 + 1))))
set_option maxHeartbeats 4000000 in
set_option maxRecDepth 100000 in
theorem s_M_list_L192 {l : Launch} {D : va_G} {dA : FieldType → ClassId} (htr : l.stackTraces = false) {hx : Nat → am_E} {rest : List am_E} {mw : Int32} {cu : Int32} {ty : Int32} {md : Int32} {op : Nat → Int32} {mp : Int32} {mf : Int32} {ml : Nat → Int32} {ps : Nat → Int32} {nm : Nat → Int32} {mu : Nat → Int32} {ch : Nat → Int32} {wy : Nat → Int32} {nx : Nat → Int32}  : ∀ (fuel : Nat) (on : Int32) (dd : Int32) (mh : Int32) (dk : Nat → Int32) (th : Int32) (sp : Int32) (x3 : Int32) (x6 : Int32) (r : Int32 × Int32 × Int32), f_M_list_L192 fuel on dd mh dk th sp x3 x6 = some r → ∀ o : am_O, .inl (some (.int r.1)) = o →
    am_G (am_kk l D dA) (ws_M_list, y_M_list.cls, prog_9_method_50_code, 7, (some .int), y_M_list.name, [], am_rm 6 (o), none) o (hM hx on r.2.1 mw cu ty mh md dk op r.2.2 sp mp mf ml ps nm mu ch wy nx rest) 0 0 192 [(0, .ref 18), (3, .int x3), (6, .int x6)] [] (hM hx on dd mw cu ty mh md dk op th sp mp mf ml ps nm mu ch wy nx rest) := by
  intro fuel
  induction fuel with
  | zero =>
    intro on dd mh dk th sp x3 x6 r hf
    cases hf
  | succ fuel ih =>
    intro on dd mh dk th sp x3 x6 r hf o ho
    subst ho
    rw [f_M_list_L192] at hf
    refine g_iload (n := 194) d_M_list_192 rfl 2 rfl ?_
    refine g_bipush (n := 196) (v := 26) d_M_list_194 rfl (by decide) ?_
    refine g_icmp_ge (n := 199) (tgt := 219) d_M_list_196 rfl (by decide) (fun q23 => ?_) (fun q23 => ?_)
    · have hf := ob_pos q23 hf
      refine g_iload (n := 221) d_M_list_219 rfl 2 rfl ?_
      cases hf
      exact g_iret d_M_list_221 rfl (Nat.zero_le _) (Nat.zero_le _)
    · have hf := ob_neg q23 hf
      refine g_aload_n (n := 200) d_M_list_199 rfl 0 rfl rfl ?_
      refine g_aload_n (n := 201) d_M_list_200 rfl 0 rfl rfl ?_
      refine g_get (n := 204) (q0 := 18) d_M_list_201 rfl (am_fl in_M rfl (by decide : 9 < 20)) (List.mem_cons_of_mem _ tw_874) rfl rfl ?_
      refine g_iload_n (n := 205) d_M_list_204 rfl 1 rfl rfl ?_
      refine g_iload (n := 207) d_M_list_205 rfl 2 rfl ?_
      obtain ⟨r24, h25, hf⟩ := ob_bind hf
      refine c_Vr (n := 210) (st' := [.int r24]) [.int mh, .int x3, .int x6] [] d_M_list_207 rfl (s_M_letter htr h25 rfl) tw_995 tw_997 (am_memS 25 (by decide +kernel) (by decide +kernel)) tw_8 tw_998 hd_M_letter (by omega) (by decide) (ci := 7) rfl rfl rfl (Nat.le_of_ble_eq_true rfl) rfl rfl ?_
      refine g_if_eq (n := 213) (tgt := 219) d_M_list_210 rfl (by decide) (fun q26 => ?_) (fun q26 => ?_)
      · have hf := ob_pos q26 hf
        refine g_iload (n := 221) d_M_list_219 rfl 2 rfl ?_
        cases hf
        exact g_iret d_M_list_221 rfl (Nat.zero_le _) (Nat.zero_le _)
      · have hf := ob_neg q26 hf
        refine g_iinc (n := 216) (v := (x6 + 1)) (ls' := [(6, .int (x6 + 1)), (0, .ref 18), (3, .int x3)]) d_M_list_213 rfl 2 rfl rfl (am_ltb rfl) rfl ?_
        refine g_goto (n := 192) d_M_list_216 (by decide) ?_
        refine g_ls [1, 2, 0] rfl ?_
        exact ih on dd mh dk th sp x3 (x6 + 1) _ hf _ rfl
def f_M_list_L17 : Nat → Int32 → Int32 → Int32 → (Nat → Int32) → Int32 → Int32 → Int32 → Int32 → Int32 → Int32 → Int32 → Option (Int32 × Int32 × Int32)
  | 0, _, _, _, _, _, _, _, _, _, _, _ => none
  | fuel + 1, on, dd, mh, dk, th, sp, x1, x2, x3, x4, x5 =>
  ((f_M_length dk mh).bind fun r4 => (if (2 * r4) ≤ x5 then (if 0 ≤ x3 then ((f_M_in x2 0 3).bind fun r8 => (if r8 = 0 then ((f_M_in x2 10 15).bind fun r34 => (if r34 = 0 then ((f_M_in x2 20 45).bind fun r56 => (if r56 = 0 then some (0, dd, 3) else ((f_M_place dk mh x3).bind fun r60 => (if 3 ≤ x2 then (if x2 = 3 then f_M_list_L192 100000000000 on dd mh dk 0 sp x3 0 else (if 20 ≤ x2 then ((f_M_letter dk mh x3 (x2 - 20)).bind fun r65 => (if r65 = 0 then some ((-1), dd, 0) else some (r65, dd, 0))) else ((f_M_shortLetter dk r60 (x2 - 10)).bind fun r68 => (if r68 = 0 then some ((-1), dd, 0) else some (r68, dd, 0))))) else (if x2 = 0 then (if am_in (r60 + 6) 2240 = true then some ((dk (r60 + 6).toNatClampNeg), dd, 0) else none) else (if x2 = 1 then ((f_M_numberAt dk (r60 + 10)).bind fun r75 => some (r75, dd, 0)) else ((f_M_numberAt dk (r60 + 8)).bind fun r73 => some (r73, dd, 0)))))))) else ((f_M_place dk mh x3).bind fun r38 => (if 3 ≤ x2 then (if x2 = 3 then f_M_list_L192 100000000000 on dd mh dk 0 sp x3 0 else (if 20 ≤ x2 then ((f_M_letter dk mh x3 (x2 - 20)).bind fun r43 => (if r43 = 0 then some ((-1), dd, 0) else some (r43, dd, 0))) else ((f_M_shortLetter dk r38 (x2 - 10)).bind fun r46 => (if r46 = 0 then some ((-1), dd, 0) else some (r46, dd, 0))))) else (if x2 = 0 then (if am_in (r38 + 6) 2240 = true then some ((dk (r38 + 6).toNatClampNeg), dd, 0) else none) else (if x2 = 1 then ((f_M_numberAt dk (r38 + 10)).bind fun r53 => some (r53, dd, 0)) else ((f_M_numberAt dk (r38 + 8)).bind fun r51 => some (r51, dd, 0)))))))) else ((f_M_place dk mh x3).bind fun r12 => (if 3 ≤ x2 then (if x2 = 3 then f_M_list_L192 100000000000 on dd mh dk 0 sp x3 0 else (if 20 ≤ x2 then ((f_M_letter dk mh x3 (x2 - 20)).bind fun r17 => (if r17 = 0 then some ((-1), dd, 0) else some (r17, dd, 0))) else ((f_M_shortLetter dk r12 (x2 - 10)).bind fun r20 => (if r20 = 0 then some ((-1), dd, 0) else some (r20, dd, 0))))) else (if x2 = 0 then (if am_in (r12 + 6) 2240 = true then some ((dk (r12 + 6).toNatClampNeg), dd, 0) else none) else (if x2 = 1 then ((f_M_numberAt dk (r12 + 10)).bind fun r31 => some (r31, dd, 0)) else ((f_M_numberAt dk (r12 + 8)).bind fun r29 => some (r29, dd, 0)))))))) else some (0, dd, 2)) else ((f_M_place dk mh x5).bind fun r80 => ((f_M_isNamed dk r80).bind fun r82 => (if r82 = 0 then f_M_list_L17 fuel on dd mh dk th sp x1 x2 x3 x4 (x5 + 1) else (if x4 = x1 then f_M_list_L17 fuel on dd mh dk th sp x1 x2 x5 (x4 + 1) (x5 + 1) else f_M_list_L17 fuel on dd mh dk th sp x1 x2 x3 (x4 + 1) (x5 + 1)))))))
set_option maxHeartbeats 4000000 in
set_option maxRecDepth 100000 in
theorem s_M_list_L17 {l : Launch} {D : va_G} {dA : FieldType → ClassId} (htr : l.stackTraces = false) {hx : Nat → am_E} {rest : List am_E} {mw : Int32} {cu : Int32} {ty : Int32} {md : Int32} {op : Nat → Int32} {mp : Int32} {mf : Int32} {ml : Nat → Int32} {ps : Nat → Int32} {nm : Nat → Int32} {mu : Nat → Int32} {ch : Nat → Int32} {wy : Nat → Int32} {nx : Nat → Int32}  : ∀ (fuel : Nat) (on : Int32) (dd : Int32) (mh : Int32) (dk : Nat → Int32) (th : Int32) (sp : Int32) (x1 : Int32) (x2 : Int32) (x3 : Int32) (x4 : Int32) (x5 : Int32) (r : Int32 × Int32 × Int32), f_M_list_L17 fuel on dd mh dk th sp x1 x2 x3 x4 x5 = some r → ∀ o : am_O, .inl (some (.int r.1)) = o →
    am_G (am_kk l D dA) (ws_M_list, y_M_list.cls, prog_9_method_50_code, 7, (some .int), y_M_list.name, [], am_rm 6 (o), none) o (hM hx on r.2.1 mw cu ty mh md dk op r.2.2 sp mp mf ml ps nm mu ch wy nx rest) 0 0 17 [(0, .ref 18), (1, .int x1), (2, .int x2), (3, .int x3), (4, .int x4), (5, .int x5)] [] (hM hx on dd mw cu ty mh md dk op th sp mp mf ml ps nm mu ch wy nx rest) := by
  intro fuel
  induction fuel with
  | zero =>
    intro on dd mh dk th sp x1 x2 x3 x4 x5 r hf
    cases hf
  | succ fuel ih =>
    intro on dd mh dk th sp x1 x2 x3 x4 x5 r hf o ho
    subst ho
    rw [f_M_list_L17] at hf
    refine g_iload (n := 19) d_M_list_17 rfl 5 rfl ?_
    refine g_iconst (n := 20) (v := 2) d_M_list_19 rfl (by decide) ?_
    refine g_aload_n (n := 21) d_M_list_20 rfl 0 rfl rfl ?_
    refine g_aload_n (n := 22) d_M_list_21 rfl 0 rfl rfl ?_
    refine g_get (n := 25) (q0 := 18) d_M_list_22 rfl (am_fl in_M rfl (by decide : 9 < 20)) (List.mem_cons_of_mem _ tw_874) rfl rfl ?_
    obtain ⟨r4, h5, hf⟩ := ob_bind hf
    refine c_Vr (n := 28) (st' := [.int r4, .int 2, .int x5]) [.int mh] [.int 2, .int x5] d_M_list_25 rfl (s_M_length htr h5 rfl) tw_945 tw_947 (am_memS 14 (by decide +kernel) (by decide +kernel)) tw_8 tw_948 hd_M_length (by omega) (by decide) (ci := 7) rfl rfl rfl (Nat.le_of_ble_eq_true rfl) rfl rfl ?_
    refine g_imul (n := 29) d_M_list_28 rfl ?_
    refine g_icmp_ge (n := 32) (tgt := 71) d_M_list_29 rfl (by decide) (fun q6 => ?_) (fun q6 => ?_)
    · have hf := ob_pos q6 hf
      refine g_aload_n (n := 72) d_M_list_71 rfl 0 rfl rfl ?_
      refine g_iload_n (n := 73) d_M_list_72 rfl 3 rfl rfl ?_
      refine g_if_ge (n := 76) (tgt := 80) d_M_list_73 rfl (by decide) (fun q7 => ?_) (fun q7 => ?_)
      · have hf := ob_pos q7 hf
        refine g_iload_n (n := 81) d_M_list_80 rfl 2 rfl rfl ?_
        refine g_iconst (n := 82) (v := 0) d_M_list_81 rfl (by decide) ?_
        refine g_iconst (n := 83) (v := 3) d_M_list_82 rfl (by decide) ?_
        obtain ⟨r8, h9, hf⟩ := ob_bind hf
        refine c_Sr (n := 86) (st' := [.int r8, .ref 18]) [.int x2, .int 0, .int 3] [.ref 18] d_M_list_83 rfl (s_M_in htr h9 rfl) tw_938 tw_939 tw_8 tw_940 rfl hd_M_in (by omega) (by decide) rfl (Nat.le_of_ble_eq_true rfl) rfl rfl ?_
        refine g_if_ne (n := 89) (tgt := 115) d_M_list_86 rfl (by decide) (fun q10 => ?_) (fun q10 => ?_)
        · have hf := ob_neg q10 hf
          refine g_iconst (n := 116) (v := 0) d_M_list_115 rfl (by decide) ?_
          refine g_put (n := 119) (q0 := 18) (h' := (hM hx on dd mw cu ty mh md dk op 0 sp mp mf ml ps nm mu ch wy nx rest)) d_M_list_116 rfl (am_fl in_M rfl (by decide : 0 < 20)) typ_M (List.mem_cons_of_mem _ tw_865) rfl (fun _ _ => rfl) (fun _ _ => rfl) rfl (am_ltb rfl) rfl ?_
          refine g_aload_n (n := 120) d_M_list_119 rfl 0 rfl rfl ?_
          refine g_get (n := 123) (q0 := 18) d_M_list_120 rfl (am_fl in_M rfl (by decide : 0 < 20)) (List.mem_cons_of_mem _ tw_865) rfl rfl ?_
          refine g_if_le (n := 126) (tgt := 128) d_M_list_123 rfl (by decide) (fun _ => ?_) (fun q11 => absurd q11 (by decide))
          refine g_aload_n (n := 129) d_M_list_128 rfl 0 rfl rfl ?_
          refine g_aload_n (n := 130) d_M_list_129 rfl 0 rfl rfl ?_
          refine g_get (n := 133) (q0 := 18) d_M_list_130 rfl (am_fl in_M rfl (by decide : 9 < 20)) (List.mem_cons_of_mem _ tw_874) rfl rfl ?_
          refine g_iload_n (n := 134) d_M_list_133 rfl 3 rfl rfl ?_
          obtain ⟨r12, h13, hf⟩ := ob_bind hf
          refine c_Vr (n := 137) (st' := [.int r12]) [.int mh, .int x3] [] d_M_list_134 rfl (s_M_place htr h13 rfl) tw_965 tw_967 (am_memS 19 (by decide +kernel) (by decide +kernel)) tw_8 tw_968 hd_M_place (by omega) (by decide) (ci := 7) rfl rfl rfl (Nat.le_of_ble_eq_true rfl) rfl rfl ?_
          refine g_istore (n := 139) (ls' := [(5, .int r12), (0, .ref 18), (1, .int x1), (2, .int x2), (3, .int x3), (4, .int x4)]) d_M_list_137 rfl (am_ltb rfl) rfl ?_
          refine g_iload_n (n := 140) d_M_list_139 rfl 3 rfl rfl ?_
          refine g_iconst (n := 141) (v := 3) d_M_list_140 rfl (by decide) ?_
          refine g_icmp_ge (n := 144) (tgt := 184) d_M_list_141 rfl (by decide) (fun q14 => ?_) (fun q14 => ?_)
          · have hf := ob_pos q14 hf
            refine g_iload_n (n := 185) d_M_list_184 rfl 3 rfl rfl ?_
            refine g_iconst (n := 186) (v := 3) d_M_list_185 rfl (by decide) ?_
            refine g_icmp_ne (n := 189) (tgt := 222) d_M_list_186 rfl (by decide) (fun q15 => ?_) (fun q15 => ?_)
            · have hf := ob_neg q15 hf
              refine g_iload_n (n := 223) d_M_list_222 rfl 3 rfl rfl ?_
              refine g_bipush (n := 225) (v := 20) d_M_list_223 rfl (by decide) ?_
              refine g_icmp_ge (n := 228) (tgt := 241) d_M_list_225 rfl (by decide) (fun q16 => ?_) (fun q16 => ?_)
              · have hf := ob_pos q16 hf
                refine g_aload_n (n := 242) d_M_list_241 rfl 1 rfl rfl ?_
                refine g_aload_n (n := 243) d_M_list_242 rfl 1 rfl rfl ?_
                refine g_get (n := 246) (q0 := 18) d_M_list_243 rfl (am_fl in_M rfl (by decide : 9 < 20)) (List.mem_cons_of_mem _ tw_874) rfl rfl ?_
                refine g_iload_n (n := 247) d_M_list_246 rfl 4 rfl rfl ?_
                refine g_iload_n (n := 248) d_M_list_247 rfl 3 rfl rfl ?_
                refine g_bipush (n := 250) (v := 20) d_M_list_248 rfl (by decide) ?_
                refine g_isub (n := 251) d_M_list_250 rfl ?_
                obtain ⟨r17, h18, hf⟩ := ob_bind hf
                refine c_Vr (n := 254) (st' := [.int r17]) [.int mh, .int x3, .int (x2 - 20)] [] d_M_list_251 rfl (s_M_letter htr h18 rfl) tw_995 tw_997 (am_memS 25 (by decide +kernel) (by decide +kernel)) tw_8 tw_998 hd_M_letter (by omega) (by decide) (ci := 7) rfl rfl rfl (Nat.le_of_ble_eq_true rfl) rfl rfl ?_
                refine g_istore (n := 256) (ls' := [(6, .int r17), (5, .int r12), (0, .ref 18), (1, .int x1), (2, .int x2), (3, .int x3), (4, .int x4)]) d_M_list_254 rfl (am_ltb rfl) rfl ?_
                refine g_iload (n := 258) d_M_list_256 rfl 0 rfl ?_
                refine g_if_ne (n := 261) (tgt := 265) d_M_list_258 rfl (by decide) (fun q19 => ?_) (fun q19 => ?_)
                · have hf := ob_neg q19 hf
                  refine g_iload (n := 267) d_M_list_265 rfl 0 rfl ?_
                  cases hf
                  exact g_iret d_M_list_267 rfl (Nat.zero_le _) (Nat.zero_le _)
                · have hf := ob_pos q19 hf
                  refine g_iconst (n := 262) (v := (-1)) d_M_list_261 rfl (by decide) ?_
                  refine g_goto (n := 267) d_M_list_262 (by decide) ?_
                  cases hf
                  exact g_iret d_M_list_267 rfl (Nat.zero_le _) (Nat.zero_le _)
              · have hf := ob_neg q16 hf
                refine g_aload_n (n := 229) d_M_list_228 rfl 1 rfl rfl ?_
                refine g_iload (n := 231) d_M_list_229 rfl 0 rfl ?_
                refine g_iload_n (n := 232) d_M_list_231 rfl 3 rfl rfl ?_
                refine g_bipush (n := 234) (v := 10) d_M_list_232 rfl (by decide) ?_
                refine g_isub (n := 235) d_M_list_234 rfl ?_
                obtain ⟨r20, h21, hf⟩ := ob_bind hf
                refine c_Vr (n := 238) (st' := [.int r20]) [.int r12, .int (x2 - 10)] [] d_M_list_235 rfl (s_M_shortLetter htr h21 rfl) tw_991 tw_993 (am_memS 24 (by decide +kernel) (by decide +kernel)) tw_8 tw_994 hd_M_shortLetter (by omega) (by decide) (ci := 7) rfl rfl rfl (Nat.le_of_ble_eq_true rfl) rfl rfl ?_
                refine g_goto (n := 254) d_M_list_238 (by decide) ?_
                refine g_istore (n := 256) (ls' := [(6, .int r20), (5, .int r12), (0, .ref 18), (1, .int x1), (2, .int x2), (3, .int x3), (4, .int x4)]) d_M_list_254 rfl (am_ltb rfl) rfl ?_
                refine g_iload (n := 258) d_M_list_256 rfl 0 rfl ?_
                refine g_if_ne (n := 261) (tgt := 265) d_M_list_258 rfl (by decide) (fun q22 => ?_) (fun q22 => ?_)
                · have hf := ob_neg q22 hf
                  refine g_iload (n := 267) d_M_list_265 rfl 0 rfl ?_
                  cases hf
                  exact g_iret d_M_list_267 rfl (Nat.zero_le _) (Nat.zero_le _)
                · have hf := ob_pos q22 hf
                  refine g_iconst (n := 262) (v := (-1)) d_M_list_261 rfl (by decide) ?_
                  refine g_goto (n := 267) d_M_list_262 (by decide) ?_
                  cases hf
                  exact g_iret d_M_list_267 rfl (Nat.zero_le _) (Nat.zero_le _)
            · have hf := ob_pos q15 hf
              refine g_iconst (n := 190) (v := 0) d_M_list_189 rfl (by decide) ?_
              refine g_istore (n := 192) (ls' := [(6, .int 0), (5, .int r12), (0, .ref 18), (1, .int x1), (2, .int x2), (3, .int x3), (4, .int x4)]) d_M_list_190 rfl (am_ltb rfl) rfl ?_
              refine g_ls [2, 5, 0] rfl ?_
              exact s_M_list_L192 htr 100000000000 on dd mh dk 0 sp x3 0 _ hf _ rfl
          · have hf := ob_neg q14 hf
            refine g_iload_n (n := 145) d_M_list_144 rfl 3 rfl rfl ?_
            refine g_if_ne (n := 148) (tgt := 161) d_M_list_145 rfl (by decide) (fun q27 => ?_) (fun q27 => ?_)
            · have hf := ob_neg q27 hf
              refine g_aload_n (n := 162) d_M_list_161 rfl 1 rfl rfl ?_
              refine g_iload_n (n := 163) d_M_list_162 rfl 3 rfl rfl ?_
              refine g_iconst (n := 164) (v := 1) d_M_list_163 rfl (by decide) ?_
              refine g_icmp_ne (n := 167) (tgt := 175) d_M_list_164 rfl (by decide) (fun q28 => ?_) (fun q28 => ?_)
              · have hf := ob_neg q28 hf
                refine g_iload (n := 177) d_M_list_175 rfl 0 rfl ?_
                refine g_bipush (n := 179) (v := 8) d_M_list_177 rfl (by decide) ?_
                refine g_iadd (n := 180) d_M_list_179 rfl ?_
                obtain ⟨r29, h30, hf⟩ := ob_bind hf
                refine c_Vr (n := 183) (st' := [.int r29]) [.int (r12 + 8)] [] d_M_list_180 rfl (s_M_numberAt htr h30 rfl) tw_957 tw_959 (am_memS 17 (by decide +kernel) (by decide +kernel)) tw_8 tw_960 hd_M_numberAt (by omega) (by decide) (ci := 7) rfl rfl rfl (Nat.le_of_ble_eq_true rfl) rfl rfl ?_
                cases hf
                exact g_iret d_M_list_183 rfl (Nat.zero_le _) (Nat.zero_le _)
              · have hf := ob_pos q28 hf
                refine g_iload (n := 169) d_M_list_167 rfl 0 rfl ?_
                refine g_bipush (n := 171) (v := 10) d_M_list_169 rfl (by decide) ?_
                refine g_iadd (n := 172) d_M_list_171 rfl ?_
                refine g_goto (n := 180) d_M_list_172 (by decide) ?_
                obtain ⟨r31, h32, hf⟩ := ob_bind hf
                refine c_Vr (n := 183) (st' := [.int r31]) [.int (r12 + 10)] [] d_M_list_180 rfl (s_M_numberAt htr h32 rfl) tw_957 tw_959 (am_memS 17 (by decide +kernel) (by decide +kernel)) tw_8 tw_960 hd_M_numberAt (by omega) (by decide) (ci := 7) rfl rfl rfl (Nat.le_of_ble_eq_true rfl) rfl rfl ?_
                cases hf
                exact g_iret d_M_list_183 rfl (Nat.zero_le _) (Nat.zero_le _)
            · have hf := ob_pos q27 hf
              refine g_aload_n (n := 149) d_M_list_148 rfl 1 rfl rfl ?_
              refine g_get (n := 152) (q0 := 18) d_M_list_149 rfl (am_fl in_M rfl (by decide : 1 < 20)) (List.mem_cons_of_mem _ tw_866) rfl rfl ?_
              refine g_iload (n := 154) d_M_list_152 rfl 0 rfl ?_
              refine g_bipush (n := 156) (v := 6) d_M_list_154 rfl (by decide) ?_
              refine g_iadd (n := 157) d_M_list_156 rfl ?_
              obtain ⟨b33, hf⟩ := ob_chk hf
              refine g_iald (n := 158) (q0 := 19) d_M_list_157 rfl rfl (am_inl b33) ?_
              refine g_goto (n := 183) d_M_list_158 (by decide) ?_
              cases hf
              exact g_iret d_M_list_183 rfl (Nat.zero_le _) (Nat.zero_le _)
        · have hf := ob_pos q10 hf
          refine g_iload_n (n := 90) d_M_list_89 rfl 2 rfl rfl ?_
          refine g_bipush (n := 92) (v := 10) d_M_list_90 rfl (by decide) ?_
          refine g_bipush (n := 94) (v := 15) d_M_list_92 rfl (by decide) ?_
          obtain ⟨r34, h35, hf⟩ := ob_bind hf
          refine c_Sr (n := 97) (st' := [.int r34, .ref 18]) [.int x2, .int 10, .int 15] [.ref 18] d_M_list_94 rfl (s_M_in htr h35 rfl) tw_938 tw_939 tw_8 tw_940 rfl hd_M_in (by omega) (by decide) rfl (Nat.le_of_ble_eq_true rfl) rfl rfl ?_
          refine g_if_ne (n := 100) (tgt := 115) d_M_list_97 rfl (by decide) (fun q36 => ?_) (fun q36 => ?_)
          · have hf := ob_neg q36 hf
            refine g_iconst (n := 116) (v := 0) d_M_list_115 rfl (by decide) ?_
            refine g_put (n := 119) (q0 := 18) (h' := (hM hx on dd mw cu ty mh md dk op 0 sp mp mf ml ps nm mu ch wy nx rest)) d_M_list_116 rfl (am_fl in_M rfl (by decide : 0 < 20)) typ_M (List.mem_cons_of_mem _ tw_865) rfl (fun _ _ => rfl) (fun _ _ => rfl) rfl (am_ltb rfl) rfl ?_
            refine g_aload_n (n := 120) d_M_list_119 rfl 0 rfl rfl ?_
            refine g_get (n := 123) (q0 := 18) d_M_list_120 rfl (am_fl in_M rfl (by decide : 0 < 20)) (List.mem_cons_of_mem _ tw_865) rfl rfl ?_
            refine g_if_le (n := 126) (tgt := 128) d_M_list_123 rfl (by decide) (fun _ => ?_) (fun q37 => absurd q37 (by decide))
            refine g_aload_n (n := 129) d_M_list_128 rfl 0 rfl rfl ?_
            refine g_aload_n (n := 130) d_M_list_129 rfl 0 rfl rfl ?_
            refine g_get (n := 133) (q0 := 18) d_M_list_130 rfl (am_fl in_M rfl (by decide : 9 < 20)) (List.mem_cons_of_mem _ tw_874) rfl rfl ?_
            refine g_iload_n (n := 134) d_M_list_133 rfl 3 rfl rfl ?_
            obtain ⟨r38, h39, hf⟩ := ob_bind hf
            refine c_Vr (n := 137) (st' := [.int r38]) [.int mh, .int x3] [] d_M_list_134 rfl (s_M_place htr h39 rfl) tw_965 tw_967 (am_memS 19 (by decide +kernel) (by decide +kernel)) tw_8 tw_968 hd_M_place (by omega) (by decide) (ci := 7) rfl rfl rfl (Nat.le_of_ble_eq_true rfl) rfl rfl ?_
            refine g_istore (n := 139) (ls' := [(5, .int r38), (0, .ref 18), (1, .int x1), (2, .int x2), (3, .int x3), (4, .int x4)]) d_M_list_137 rfl (am_ltb rfl) rfl ?_
            refine g_iload_n (n := 140) d_M_list_139 rfl 3 rfl rfl ?_
            refine g_iconst (n := 141) (v := 3) d_M_list_140 rfl (by decide) ?_
            refine g_icmp_ge (n := 144) (tgt := 184) d_M_list_141 rfl (by decide) (fun q40 => ?_) (fun q40 => ?_)
            · have hf := ob_pos q40 hf
              refine g_iload_n (n := 185) d_M_list_184 rfl 3 rfl rfl ?_
              refine g_iconst (n := 186) (v := 3) d_M_list_185 rfl (by decide) ?_
              refine g_icmp_ne (n := 189) (tgt := 222) d_M_list_186 rfl (by decide) (fun q41 => ?_) (fun q41 => ?_)
              · have hf := ob_neg q41 hf
                refine g_iload_n (n := 223) d_M_list_222 rfl 3 rfl rfl ?_
                refine g_bipush (n := 225) (v := 20) d_M_list_223 rfl (by decide) ?_
                refine g_icmp_ge (n := 228) (tgt := 241) d_M_list_225 rfl (by decide) (fun q42 => ?_) (fun q42 => ?_)
                · have hf := ob_pos q42 hf
                  refine g_aload_n (n := 242) d_M_list_241 rfl 1 rfl rfl ?_
                  refine g_aload_n (n := 243) d_M_list_242 rfl 1 rfl rfl ?_
                  refine g_get (n := 246) (q0 := 18) d_M_list_243 rfl (am_fl in_M rfl (by decide : 9 < 20)) (List.mem_cons_of_mem _ tw_874) rfl rfl ?_
                  refine g_iload_n (n := 247) d_M_list_246 rfl 4 rfl rfl ?_
                  refine g_iload_n (n := 248) d_M_list_247 rfl 3 rfl rfl ?_
                  refine g_bipush (n := 250) (v := 20) d_M_list_248 rfl (by decide) ?_
                  refine g_isub (n := 251) d_M_list_250 rfl ?_
                  obtain ⟨r43, h44, hf⟩ := ob_bind hf
                  refine c_Vr (n := 254) (st' := [.int r43]) [.int mh, .int x3, .int (x2 - 20)] [] d_M_list_251 rfl (s_M_letter htr h44 rfl) tw_995 tw_997 (am_memS 25 (by decide +kernel) (by decide +kernel)) tw_8 tw_998 hd_M_letter (by omega) (by decide) (ci := 7) rfl rfl rfl (Nat.le_of_ble_eq_true rfl) rfl rfl ?_
                  refine g_istore (n := 256) (ls' := [(6, .int r43), (5, .int r38), (0, .ref 18), (1, .int x1), (2, .int x2), (3, .int x3), (4, .int x4)]) d_M_list_254 rfl (am_ltb rfl) rfl ?_
                  refine g_iload (n := 258) d_M_list_256 rfl 0 rfl ?_
                  refine g_if_ne (n := 261) (tgt := 265) d_M_list_258 rfl (by decide) (fun q45 => ?_) (fun q45 => ?_)
                  · have hf := ob_neg q45 hf
                    refine g_iload (n := 267) d_M_list_265 rfl 0 rfl ?_
                    cases hf
                    exact g_iret d_M_list_267 rfl (Nat.zero_le _) (Nat.zero_le _)
                  · have hf := ob_pos q45 hf
                    refine g_iconst (n := 262) (v := (-1)) d_M_list_261 rfl (by decide) ?_
                    refine g_goto (n := 267) d_M_list_262 (by decide) ?_
                    cases hf
                    exact g_iret d_M_list_267 rfl (Nat.zero_le _) (Nat.zero_le _)
                · have hf := ob_neg q42 hf
                  refine g_aload_n (n := 229) d_M_list_228 rfl 1 rfl rfl ?_
                  refine g_iload (n := 231) d_M_list_229 rfl 0 rfl ?_
                  refine g_iload_n (n := 232) d_M_list_231 rfl 3 rfl rfl ?_
                  refine g_bipush (n := 234) (v := 10) d_M_list_232 rfl (by decide) ?_
                  refine g_isub (n := 235) d_M_list_234 rfl ?_
                  obtain ⟨r46, h47, hf⟩ := ob_bind hf
                  refine c_Vr (n := 238) (st' := [.int r46]) [.int r38, .int (x2 - 10)] [] d_M_list_235 rfl (s_M_shortLetter htr h47 rfl) tw_991 tw_993 (am_memS 24 (by decide +kernel) (by decide +kernel)) tw_8 tw_994 hd_M_shortLetter (by omega) (by decide) (ci := 7) rfl rfl rfl (Nat.le_of_ble_eq_true rfl) rfl rfl ?_
                  refine g_goto (n := 254) d_M_list_238 (by decide) ?_
                  refine g_istore (n := 256) (ls' := [(6, .int r46), (5, .int r38), (0, .ref 18), (1, .int x1), (2, .int x2), (3, .int x3), (4, .int x4)]) d_M_list_254 rfl (am_ltb rfl) rfl ?_
                  refine g_iload (n := 258) d_M_list_256 rfl 0 rfl ?_
                  refine g_if_ne (n := 261) (tgt := 265) d_M_list_258 rfl (by decide) (fun q48 => ?_) (fun q48 => ?_)
                  · have hf := ob_neg q48 hf
                    refine g_iload (n := 267) d_M_list_265 rfl 0 rfl ?_
                    cases hf
                    exact g_iret d_M_list_267 rfl (Nat.zero_le _) (Nat.zero_le _)
                  · have hf := ob_pos q48 hf
                    refine g_iconst (n := 262) (v := (-1)) d_M_list_261 rfl (by decide) ?_
                    refine g_goto (n := 267) d_M_list_262 (by decide) ?_
                    cases hf
                    exact g_iret d_M_list_267 rfl (Nat.zero_le _) (Nat.zero_le _)
              · have hf := ob_pos q41 hf
                refine g_iconst (n := 190) (v := 0) d_M_list_189 rfl (by decide) ?_
                refine g_istore (n := 192) (ls' := [(6, .int 0), (5, .int r38), (0, .ref 18), (1, .int x1), (2, .int x2), (3, .int x3), (4, .int x4)]) d_M_list_190 rfl (am_ltb rfl) rfl ?_
                refine g_ls [2, 5, 0] rfl ?_
                exact s_M_list_L192 htr 100000000000 on dd mh dk 0 sp x3 0 _ hf _ rfl
            · have hf := ob_neg q40 hf
              refine g_iload_n (n := 145) d_M_list_144 rfl 3 rfl rfl ?_
              refine g_if_ne (n := 148) (tgt := 161) d_M_list_145 rfl (by decide) (fun q49 => ?_) (fun q49 => ?_)
              · have hf := ob_neg q49 hf
                refine g_aload_n (n := 162) d_M_list_161 rfl 1 rfl rfl ?_
                refine g_iload_n (n := 163) d_M_list_162 rfl 3 rfl rfl ?_
                refine g_iconst (n := 164) (v := 1) d_M_list_163 rfl (by decide) ?_
                refine g_icmp_ne (n := 167) (tgt := 175) d_M_list_164 rfl (by decide) (fun q50 => ?_) (fun q50 => ?_)
                · have hf := ob_neg q50 hf
                  refine g_iload (n := 177) d_M_list_175 rfl 0 rfl ?_
                  refine g_bipush (n := 179) (v := 8) d_M_list_177 rfl (by decide) ?_
                  refine g_iadd (n := 180) d_M_list_179 rfl ?_
                  obtain ⟨r51, h52, hf⟩ := ob_bind hf
                  refine c_Vr (n := 183) (st' := [.int r51]) [.int (r38 + 8)] [] d_M_list_180 rfl (s_M_numberAt htr h52 rfl) tw_957 tw_959 (am_memS 17 (by decide +kernel) (by decide +kernel)) tw_8 tw_960 hd_M_numberAt (by omega) (by decide) (ci := 7) rfl rfl rfl (Nat.le_of_ble_eq_true rfl) rfl rfl ?_
                  cases hf
                  exact g_iret d_M_list_183 rfl (Nat.zero_le _) (Nat.zero_le _)
                · have hf := ob_pos q50 hf
                  refine g_iload (n := 169) d_M_list_167 rfl 0 rfl ?_
                  refine g_bipush (n := 171) (v := 10) d_M_list_169 rfl (by decide) ?_
                  refine g_iadd (n := 172) d_M_list_171 rfl ?_
                  refine g_goto (n := 180) d_M_list_172 (by decide) ?_
                  obtain ⟨r53, h54, hf⟩ := ob_bind hf
                  refine c_Vr (n := 183) (st' := [.int r53]) [.int (r38 + 10)] [] d_M_list_180 rfl (s_M_numberAt htr h54 rfl) tw_957 tw_959 (am_memS 17 (by decide +kernel) (by decide +kernel)) tw_8 tw_960 hd_M_numberAt (by omega) (by decide) (ci := 7) rfl rfl rfl (Nat.le_of_ble_eq_true rfl) rfl rfl ?_
                  cases hf
                  exact g_iret d_M_list_183 rfl (Nat.zero_le _) (Nat.zero_le _)
              · have hf := ob_pos q49 hf
                refine g_aload_n (n := 149) d_M_list_148 rfl 1 rfl rfl ?_
                refine g_get (n := 152) (q0 := 18) d_M_list_149 rfl (am_fl in_M rfl (by decide : 1 < 20)) (List.mem_cons_of_mem _ tw_866) rfl rfl ?_
                refine g_iload (n := 154) d_M_list_152 rfl 0 rfl ?_
                refine g_bipush (n := 156) (v := 6) d_M_list_154 rfl (by decide) ?_
                refine g_iadd (n := 157) d_M_list_156 rfl ?_
                obtain ⟨b55, hf⟩ := ob_chk hf
                refine g_iald (n := 158) (q0 := 19) d_M_list_157 rfl rfl (am_inl b55) ?_
                refine g_goto (n := 183) d_M_list_158 (by decide) ?_
                cases hf
                exact g_iret d_M_list_183 rfl (Nat.zero_le _) (Nat.zero_le _)
          · have hf := ob_pos q36 hf
            refine g_iload_n (n := 101) d_M_list_100 rfl 2 rfl rfl ?_
            refine g_bipush (n := 103) (v := 20) d_M_list_101 rfl (by decide) ?_
            refine g_bipush (n := 105) (v := 45) d_M_list_103 rfl (by decide) ?_
            obtain ⟨r56, h57, hf⟩ := ob_bind hf
            refine c_Sr (n := 108) (st' := [.int r56, .ref 18]) [.int x2, .int 20, .int 45] [.ref 18] d_M_list_105 rfl (s_M_in htr h57 rfl) tw_938 tw_939 tw_8 tw_940 rfl hd_M_in (by omega) (by decide) rfl (Nat.le_of_ble_eq_true rfl) rfl rfl ?_
            refine g_if_ne (n := 111) (tgt := 115) d_M_list_108 rfl (by decide) (fun q58 => ?_) (fun q58 => ?_)
            · have hf := ob_neg q58 hf
              refine g_iconst (n := 116) (v := 0) d_M_list_115 rfl (by decide) ?_
              refine g_put (n := 119) (q0 := 18) (h' := (hM hx on dd mw cu ty mh md dk op 0 sp mp mf ml ps nm mu ch wy nx rest)) d_M_list_116 rfl (am_fl in_M rfl (by decide : 0 < 20)) typ_M (List.mem_cons_of_mem _ tw_865) rfl (fun _ _ => rfl) (fun _ _ => rfl) rfl (am_ltb rfl) rfl ?_
              refine g_aload_n (n := 120) d_M_list_119 rfl 0 rfl rfl ?_
              refine g_get (n := 123) (q0 := 18) d_M_list_120 rfl (am_fl in_M rfl (by decide : 0 < 20)) (List.mem_cons_of_mem _ tw_865) rfl rfl ?_
              refine g_if_le (n := 126) (tgt := 128) d_M_list_123 rfl (by decide) (fun _ => ?_) (fun q59 => absurd q59 (by decide))
              refine g_aload_n (n := 129) d_M_list_128 rfl 0 rfl rfl ?_
              refine g_aload_n (n := 130) d_M_list_129 rfl 0 rfl rfl ?_
              refine g_get (n := 133) (q0 := 18) d_M_list_130 rfl (am_fl in_M rfl (by decide : 9 < 20)) (List.mem_cons_of_mem _ tw_874) rfl rfl ?_
              refine g_iload_n (n := 134) d_M_list_133 rfl 3 rfl rfl ?_
              obtain ⟨r60, h61, hf⟩ := ob_bind hf
              refine c_Vr (n := 137) (st' := [.int r60]) [.int mh, .int x3] [] d_M_list_134 rfl (s_M_place htr h61 rfl) tw_965 tw_967 (am_memS 19 (by decide +kernel) (by decide +kernel)) tw_8 tw_968 hd_M_place (by omega) (by decide) (ci := 7) rfl rfl rfl (Nat.le_of_ble_eq_true rfl) rfl rfl ?_
              refine g_istore (n := 139) (ls' := [(5, .int r60), (0, .ref 18), (1, .int x1), (2, .int x2), (3, .int x3), (4, .int x4)]) d_M_list_137 rfl (am_ltb rfl) rfl ?_
              refine g_iload_n (n := 140) d_M_list_139 rfl 3 rfl rfl ?_
              refine g_iconst (n := 141) (v := 3) d_M_list_140 rfl (by decide) ?_
              refine g_icmp_ge (n := 144) (tgt := 184) d_M_list_141 rfl (by decide) (fun q62 => ?_) (fun q62 => ?_)
              · have hf := ob_pos q62 hf
                refine g_iload_n (n := 185) d_M_list_184 rfl 3 rfl rfl ?_
                refine g_iconst (n := 186) (v := 3) d_M_list_185 rfl (by decide) ?_
                refine g_icmp_ne (n := 189) (tgt := 222) d_M_list_186 rfl (by decide) (fun q63 => ?_) (fun q63 => ?_)
                · have hf := ob_neg q63 hf
                  refine g_iload_n (n := 223) d_M_list_222 rfl 3 rfl rfl ?_
                  refine g_bipush (n := 225) (v := 20) d_M_list_223 rfl (by decide) ?_
                  refine g_icmp_ge (n := 228) (tgt := 241) d_M_list_225 rfl (by decide) (fun q64 => ?_) (fun q64 => ?_)
                  · have hf := ob_pos q64 hf
                    refine g_aload_n (n := 242) d_M_list_241 rfl 1 rfl rfl ?_
                    refine g_aload_n (n := 243) d_M_list_242 rfl 1 rfl rfl ?_
                    refine g_get (n := 246) (q0 := 18) d_M_list_243 rfl (am_fl in_M rfl (by decide : 9 < 20)) (List.mem_cons_of_mem _ tw_874) rfl rfl ?_
                    refine g_iload_n (n := 247) d_M_list_246 rfl 4 rfl rfl ?_
                    refine g_iload_n (n := 248) d_M_list_247 rfl 3 rfl rfl ?_
                    refine g_bipush (n := 250) (v := 20) d_M_list_248 rfl (by decide) ?_
                    refine g_isub (n := 251) d_M_list_250 rfl ?_
                    obtain ⟨r65, h66, hf⟩ := ob_bind hf
                    refine c_Vr (n := 254) (st' := [.int r65]) [.int mh, .int x3, .int (x2 - 20)] [] d_M_list_251 rfl (s_M_letter htr h66 rfl) tw_995 tw_997 (am_memS 25 (by decide +kernel) (by decide +kernel)) tw_8 tw_998 hd_M_letter (by omega) (by decide) (ci := 7) rfl rfl rfl (Nat.le_of_ble_eq_true rfl) rfl rfl ?_
                    refine g_istore (n := 256) (ls' := [(6, .int r65), (5, .int r60), (0, .ref 18), (1, .int x1), (2, .int x2), (3, .int x3), (4, .int x4)]) d_M_list_254 rfl (am_ltb rfl) rfl ?_
                    refine g_iload (n := 258) d_M_list_256 rfl 0 rfl ?_
                    refine g_if_ne (n := 261) (tgt := 265) d_M_list_258 rfl (by decide) (fun q67 => ?_) (fun q67 => ?_)
                    · have hf := ob_neg q67 hf
                      refine g_iload (n := 267) d_M_list_265 rfl 0 rfl ?_
                      cases hf
                      exact g_iret d_M_list_267 rfl (Nat.zero_le _) (Nat.zero_le _)
                    · have hf := ob_pos q67 hf
                      refine g_iconst (n := 262) (v := (-1)) d_M_list_261 rfl (by decide) ?_
                      refine g_goto (n := 267) d_M_list_262 (by decide) ?_
                      cases hf
                      exact g_iret d_M_list_267 rfl (Nat.zero_le _) (Nat.zero_le _)
                  · have hf := ob_neg q64 hf
                    refine g_aload_n (n := 229) d_M_list_228 rfl 1 rfl rfl ?_
                    refine g_iload (n := 231) d_M_list_229 rfl 0 rfl ?_
                    refine g_iload_n (n := 232) d_M_list_231 rfl 3 rfl rfl ?_
                    refine g_bipush (n := 234) (v := 10) d_M_list_232 rfl (by decide) ?_
                    refine g_isub (n := 235) d_M_list_234 rfl ?_
                    obtain ⟨r68, h69, hf⟩ := ob_bind hf
                    refine c_Vr (n := 238) (st' := [.int r68]) [.int r60, .int (x2 - 10)] [] d_M_list_235 rfl (s_M_shortLetter htr h69 rfl) tw_991 tw_993 (am_memS 24 (by decide +kernel) (by decide +kernel)) tw_8 tw_994 hd_M_shortLetter (by omega) (by decide) (ci := 7) rfl rfl rfl (Nat.le_of_ble_eq_true rfl) rfl rfl ?_
                    refine g_goto (n := 254) d_M_list_238 (by decide) ?_
                    refine g_istore (n := 256) (ls' := [(6, .int r68), (5, .int r60), (0, .ref 18), (1, .int x1), (2, .int x2), (3, .int x3), (4, .int x4)]) d_M_list_254 rfl (am_ltb rfl) rfl ?_
                    refine g_iload (n := 258) d_M_list_256 rfl 0 rfl ?_
                    refine g_if_ne (n := 261) (tgt := 265) d_M_list_258 rfl (by decide) (fun q70 => ?_) (fun q70 => ?_)
                    · have hf := ob_neg q70 hf
                      refine g_iload (n := 267) d_M_list_265 rfl 0 rfl ?_
                      cases hf
                      exact g_iret d_M_list_267 rfl (Nat.zero_le _) (Nat.zero_le _)
                    · have hf := ob_pos q70 hf
                      refine g_iconst (n := 262) (v := (-1)) d_M_list_261 rfl (by decide) ?_
                      refine g_goto (n := 267) d_M_list_262 (by decide) ?_
                      cases hf
                      exact g_iret d_M_list_267 rfl (Nat.zero_le _) (Nat.zero_le _)
                · have hf := ob_pos q63 hf
                  refine g_iconst (n := 190) (v := 0) d_M_list_189 rfl (by decide) ?_
                  refine g_istore (n := 192) (ls' := [(6, .int 0), (5, .int r60), (0, .ref 18), (1, .int x1), (2, .int x2), (3, .int x3), (4, .int x4)]) d_M_list_190 rfl (am_ltb rfl) rfl ?_
                  refine g_ls [2, 5, 0] rfl ?_
                  exact s_M_list_L192 htr 100000000000 on dd mh dk 0 sp x3 0 _ hf _ rfl
              · have hf := ob_neg q62 hf
                refine g_iload_n (n := 145) d_M_list_144 rfl 3 rfl rfl ?_
                refine g_if_ne (n := 148) (tgt := 161) d_M_list_145 rfl (by decide) (fun q71 => ?_) (fun q71 => ?_)
                · have hf := ob_neg q71 hf
                  refine g_aload_n (n := 162) d_M_list_161 rfl 1 rfl rfl ?_
                  refine g_iload_n (n := 163) d_M_list_162 rfl 3 rfl rfl ?_
                  refine g_iconst (n := 164) (v := 1) d_M_list_163 rfl (by decide) ?_
                  refine g_icmp_ne (n := 167) (tgt := 175) d_M_list_164 rfl (by decide) (fun q72 => ?_) (fun q72 => ?_)
                  · have hf := ob_neg q72 hf
                    refine g_iload (n := 177) d_M_list_175 rfl 0 rfl ?_
                    refine g_bipush (n := 179) (v := 8) d_M_list_177 rfl (by decide) ?_
                    refine g_iadd (n := 180) d_M_list_179 rfl ?_
                    obtain ⟨r73, h74, hf⟩ := ob_bind hf
                    refine c_Vr (n := 183) (st' := [.int r73]) [.int (r60 + 8)] [] d_M_list_180 rfl (s_M_numberAt htr h74 rfl) tw_957 tw_959 (am_memS 17 (by decide +kernel) (by decide +kernel)) tw_8 tw_960 hd_M_numberAt (by omega) (by decide) (ci := 7) rfl rfl rfl (Nat.le_of_ble_eq_true rfl) rfl rfl ?_
                    cases hf
                    exact g_iret d_M_list_183 rfl (Nat.zero_le _) (Nat.zero_le _)
                  · have hf := ob_pos q72 hf
                    refine g_iload (n := 169) d_M_list_167 rfl 0 rfl ?_
                    refine g_bipush (n := 171) (v := 10) d_M_list_169 rfl (by decide) ?_
                    refine g_iadd (n := 172) d_M_list_171 rfl ?_
                    refine g_goto (n := 180) d_M_list_172 (by decide) ?_
                    obtain ⟨r75, h76, hf⟩ := ob_bind hf
                    refine c_Vr (n := 183) (st' := [.int r75]) [.int (r60 + 10)] [] d_M_list_180 rfl (s_M_numberAt htr h76 rfl) tw_957 tw_959 (am_memS 17 (by decide +kernel) (by decide +kernel)) tw_8 tw_960 hd_M_numberAt (by omega) (by decide) (ci := 7) rfl rfl rfl (Nat.le_of_ble_eq_true rfl) rfl rfl ?_
                    cases hf
                    exact g_iret d_M_list_183 rfl (Nat.zero_le _) (Nat.zero_le _)
                · have hf := ob_pos q71 hf
                  refine g_aload_n (n := 149) d_M_list_148 rfl 1 rfl rfl ?_
                  refine g_get (n := 152) (q0 := 18) d_M_list_149 rfl (am_fl in_M rfl (by decide : 1 < 20)) (List.mem_cons_of_mem _ tw_866) rfl rfl ?_
                  refine g_iload (n := 154) d_M_list_152 rfl 0 rfl ?_
                  refine g_bipush (n := 156) (v := 6) d_M_list_154 rfl (by decide) ?_
                  refine g_iadd (n := 157) d_M_list_156 rfl ?_
                  obtain ⟨b77, hf⟩ := ob_chk hf
                  refine g_iald (n := 158) (q0 := 19) d_M_list_157 rfl rfl (am_inl b77) ?_
                  refine g_goto (n := 183) d_M_list_158 (by decide) ?_
                  cases hf
                  exact g_iret d_M_list_183 rfl (Nat.zero_le _) (Nat.zero_le _)
            · have hf := ob_pos q58 hf
              refine g_iconst (n := 112) (v := 3) d_M_list_111 rfl (by decide) ?_
              refine g_goto (n := 116) d_M_list_112 (by decide) ?_
              refine g_put (n := 119) (q0 := 18) (h' := (hM hx on dd mw cu ty mh md dk op 3 sp mp mf ml ps nm mu ch wy nx rest)) d_M_list_116 rfl (am_fl in_M rfl (by decide : 0 < 20)) typ_M (List.mem_cons_of_mem _ tw_865) rfl (fun _ _ => rfl) (fun _ _ => rfl) rfl (am_ltb rfl) rfl ?_
              refine g_aload_n (n := 120) d_M_list_119 rfl 0 rfl rfl ?_
              refine g_get (n := 123) (q0 := 18) d_M_list_120 rfl (am_fl in_M rfl (by decide : 0 < 20)) (List.mem_cons_of_mem _ tw_865) rfl rfl ?_
              refine g_if_le (n := 126) (tgt := 128) d_M_list_123 rfl (by decide) (fun q78 => absurd q78 (by decide)) (fun _ => ?_)
              refine g_iconst (n := 127) (v := 0) d_M_list_126 rfl (by decide) ?_
              cases hf
              exact g_iret d_M_list_127 rfl (Nat.zero_le _) (Nat.zero_le _)
      · have hf := ob_neg q7 hf
        refine g_iconst (n := 77) (v := 2) d_M_list_76 rfl (by decide) ?_
        refine g_goto (n := 116) d_M_list_77 (by decide) ?_
        refine g_put (n := 119) (q0 := 18) (h' := (hM hx on dd mw cu ty mh md dk op 2 sp mp mf ml ps nm mu ch wy nx rest)) d_M_list_116 rfl (am_fl in_M rfl (by decide : 0 < 20)) typ_M (List.mem_cons_of_mem _ tw_865) rfl (fun _ _ => rfl) (fun _ _ => rfl) rfl (am_ltb rfl) rfl ?_
        refine g_aload_n (n := 120) d_M_list_119 rfl 0 rfl rfl ?_
        refine g_get (n := 123) (q0 := 18) d_M_list_120 rfl (am_fl in_M rfl (by decide : 0 < 20)) (List.mem_cons_of_mem _ tw_865) rfl rfl ?_
        refine g_if_le (n := 126) (tgt := 128) d_M_list_123 rfl (by decide) (fun q79 => absurd q79 (by decide)) (fun _ => ?_)
        refine g_iconst (n := 127) (v := 0) d_M_list_126 rfl (by decide) ?_
        cases hf
        exact g_iret d_M_list_127 rfl (Nat.zero_le _) (Nat.zero_le _)
    · have hf := ob_neg q6 hf
      refine g_aload_n (n := 33) d_M_list_32 rfl 0 rfl rfl ?_
      refine g_aload_n (n := 34) d_M_list_33 rfl 0 rfl rfl ?_
      refine g_aload_n (n := 35) d_M_list_34 rfl 0 rfl rfl ?_
      refine g_get (n := 38) (q0 := 18) d_M_list_35 rfl (am_fl in_M rfl (by decide : 9 < 20)) (List.mem_cons_of_mem _ tw_874) rfl rfl ?_
      refine g_iload (n := 40) d_M_list_38 rfl 5 rfl ?_
      obtain ⟨r80, h81, hf⟩ := ob_bind hf
      refine c_Vr (n := 43) (st' := [.int r80, .ref 18]) [.int mh, .int x5] [.ref 18] d_M_list_40 rfl (s_M_place htr h81 rfl) tw_965 tw_967 (am_memS 19 (by decide +kernel) (by decide +kernel)) tw_8 tw_968 hd_M_place (by omega) (by decide) (ci := 7) rfl rfl rfl (Nat.le_of_ble_eq_true rfl) rfl rfl ?_
      obtain ⟨r82, h83, hf⟩ := ob_bind hf
      refine c_Vr (n := 46) (st' := [.int r82]) [.int r80] [] d_M_list_43 rfl (s_M_isNamed htr h83 rfl) tw_969 tw_971 (am_memS 20 (by decide +kernel) (by decide +kernel)) tw_8 tw_972 hd_M_isNamed (by omega) (by decide) (ci := 7) rfl rfl rfl (Nat.le_of_ble_eq_true rfl) rfl rfl ?_
      refine g_if_eq (n := 49) (tgt := 65) d_M_list_46 rfl (by decide) (fun q84 => ?_) (fun q84 => ?_)
      · have hf := ob_pos q84 hf
        refine g_iinc (n := 68) (v := (x5 + 1)) (ls' := [(5, .int (x5 + 1)), (0, .ref 18), (1, .int x1), (2, .int x2), (3, .int x3), (4, .int x4)]) d_M_list_65 rfl 5 rfl rfl (am_ltb rfl) rfl ?_
        refine g_goto (n := 17) d_M_list_68 (by decide) ?_
        refine g_ls [1, 2, 3, 4, 5, 0] rfl ?_
        exact ih on dd mh dk th sp x1 x2 x3 x4 (x5 + 1) _ hf _ rfl
      · have hf := ob_neg q84 hf
        refine g_iload (n := 51) d_M_list_49 rfl 4 rfl ?_
        refine g_iload_n (n := 52) d_M_list_51 rfl 1 rfl rfl ?_
        refine g_icmp_ne (n := 55) (tgt := 60) d_M_list_52 rfl (by decide) (fun q85 => ?_) (fun q85 => ?_)
        · have hf := ob_neg q85 hf
          refine g_iload_n (n := 61) d_M_list_60 rfl 3 rfl rfl ?_
          refine g_istore_n (n := 62) (ls' := [(3, .int x3), (0, .ref 18), (1, .int x1), (2, .int x2), (4, .int x4), (5, .int x5)]) d_M_list_61 rfl rfl (am_ltb rfl) rfl ?_
          refine g_iinc (n := 65) (v := (x4 + 1)) (ls' := [(4, .int (x4 + 1)), (3, .int x3), (0, .ref 18), (1, .int x1), (2, .int x2), (5, .int x5)]) d_M_list_62 rfl 4 rfl rfl (am_ltb rfl) rfl ?_
          refine g_iinc (n := 68) (v := (x5 + 1)) (ls' := [(5, .int (x5 + 1)), (4, .int (x4 + 1)), (3, .int x3), (0, .ref 18), (1, .int x1), (2, .int x2)]) d_M_list_65 rfl 5 rfl rfl (am_ltb rfl) rfl ?_
          refine g_goto (n := 17) d_M_list_68 (by decide) ?_
          refine g_ls [3, 4, 5, 2, 1, 0] rfl ?_
          exact ih on dd mh dk th sp x1 x2 x3 (x4 + 1) (x5 + 1) _ hf _ rfl
        · have hf := ob_pos q85 hf
          refine g_iload (n := 57) d_M_list_55 rfl 5 rfl ?_
          refine g_goto (n := 61) d_M_list_57 (by decide) ?_
          refine g_istore_n (n := 62) (ls' := [(3, .int x5), (0, .ref 18), (1, .int x1), (2, .int x2), (4, .int x4), (5, .int x5)]) d_M_list_61 rfl rfl (am_ltb rfl) rfl ?_
          refine g_iinc (n := 65) (v := (x4 + 1)) (ls' := [(4, .int (x4 + 1)), (3, .int x5), (0, .ref 18), (1, .int x1), (2, .int x2), (5, .int x5)]) d_M_list_62 rfl 4 rfl rfl (am_ltb rfl) rfl ?_
          refine g_iinc (n := 68) (v := (x5 + 1)) (ls' := [(5, .int (x5 + 1)), (4, .int (x4 + 1)), (3, .int x5), (0, .ref 18), (1, .int x1), (2, .int x2)]) d_M_list_65 rfl 5 rfl rfl (am_ltb rfl) rfl ?_
          refine g_goto (n := 17) d_M_list_68 (by decide) ?_
          refine g_ls [3, 4, 5, 2, 1, 0] rfl ?_
          exact ih on dd mh dk th sp x1 x2 x5 (x4 + 1) (x5 + 1) _ hf _ rfl
def f_M_list (on : Int32) (dd : Int32) (mh : Int32) (dk : Nat → Int32) (th : Int32) (sp : Int32) (x1 : Int32) (x2 : Int32) : Option (Int32 × Int32 × Int32) :=
  ((f_M_ready on dd th sp).bind fun r1 => (if r1.1 = 0 then some (0, r1.2.1, r1.2.2) else f_M_list_L17 100000000000 on r1.2.1 mh dk r1.2.2 sp x1 x2 (-1) 0 0))
set_option maxHeartbeats 4000000 in
set_option maxRecDepth 100000 in
theorem s_M_list {l : Launch} {D : va_G} {dA : FieldType → ClassId} (htr : l.stackTraces = false) {hx : Nat → am_E} {rest : List am_E} {on : Int32} {dd : Int32} {mw : Int32} {cu : Int32} {ty : Int32} {mh : Int32} {md : Int32} {dk : Nat → Int32} {op : Nat → Int32} {th : Int32} {sp : Int32} {mp : Int32} {mf : Int32} {ml : Nat → Int32} {ps : Nat → Int32} {nm : Nat → Int32} {mu : Nat → Int32} {ch : Nat → Int32} {wy : Nat → Int32} {nx : Nat → Int32}  {x1 : Int32} {x2 : Int32} {r : Int32 × Int32 × Int32} (hf : f_M_list on dd mh dk th sp x1 x2 = some r) {o : am_O} (ho : .inl (some (.int r.1)) = o) :
    am_M (am_kk l D dA) y_M_list ws_M_list (am_rm 6 o) [.ref 18, .int x1, .int x2] (hM hx on dd mw cu ty mh md dk op th sp mp mf ml ps nm mu ch wy nx rest) o (hM hx on r.2.1 mw cu ty mh md dk op r.2.2 sp mp mf ml ps nm mu ch wy nx rest) := by
  subst ho
  refine am_body (by decide) rfl (Nat.le_of_ble_eq_true rfl) rfl ?_
  rw [f_M_list] at hf
  refine g_aload_n (n := 1) d_M_list_0 rfl 0 rfl rfl ?_
  obtain ⟨r1, h2, hf⟩ := ob_bind hf
  refine c_Vr (n := 4) (st' := [.int r1.1]) [] [] d_M_list_1 rfl (s_M_ready htr h2 rfl) tw_934 tw_936 (am_memS 12 (by decide +kernel) (by decide +kernel)) tw_8 tw_937 hd_M_ready (by omega) (by decide) (ci := 7) rfl rfl rfl (Nat.le_of_ble_eq_true rfl) rfl rfl ?_
  refine g_if_ne (n := 7) (tgt := 9) d_M_list_4 rfl (by decide) (fun q3 => ?_) (fun q3 => ?_)
  · have hf := ob_neg q3 hf
    refine g_iconst (n := 10) (v := (-1)) d_M_list_9 rfl (by decide) ?_
    refine g_istore_n (n := 11) (ls' := [(3, .int (-1)), (0, .ref 18), (1, .int x1), (2, .int x2)]) d_M_list_10 rfl rfl (am_ltb rfl) rfl ?_
    refine g_iconst (n := 12) (v := 0) d_M_list_11 rfl (by decide) ?_
    refine g_istore (n := 14) (ls' := [(4, .int 0), (3, .int (-1)), (0, .ref 18), (1, .int x1), (2, .int x2)]) d_M_list_12 rfl (am_ltb rfl) rfl ?_
    refine g_iconst (n := 15) (v := 0) d_M_list_14 rfl (by decide) ?_
    refine g_istore (n := 17) (ls' := [(5, .int 0), (4, .int 0), (3, .int (-1)), (0, .ref 18), (1, .int x1), (2, .int x2)]) d_M_list_15 rfl (am_ltb rfl) rfl ?_
    refine g_ls [3, 4, 5, 2, 1, 0] rfl ?_
    exact s_M_list_L17 htr 100000000000 on r1.2.1 mh dk r1.2.2 sp x1 x2 (-1) 0 0 _ hf _ rfl
  · have hf := ob_pos q3 hf
    refine g_iconst (n := 8) (v := 0) d_M_list_7 rfl (by decide) ?_
    cases hf
    exact g_iret d_M_list_8 rfl (Nat.zero_le _) (Nat.zero_le _)
def f_M_cut (on : Int32) (cu : Int32) (th : Int32) (x1 : Int32) : Option (Int32 × Int32 × Int32) :=
  (if x1 < 0 then some (0, cu, 0) else (if on = 0 then some (0, cu, 0) else some (1, x1, 0)))
