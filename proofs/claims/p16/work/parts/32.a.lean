def f_M_repair (w : am_MS) (th : Int32) (sp : Int32) (mf : Int32) (mu : Nat → Int32) (ch : Nat → Int32) (wy : Nat → Int32) (nx : Nat → Int32) : Option (Int32 × am_MS × Int32 × Int32 × Int32 × (Nat → Int32) × (Nat → Int32) × (Nat → Int32) × (Nat → Int32)) :=
  (if w.1 = 0 then some (0, (w.1, 0, w.2.2.1, w.2.2.2.1, w.2.2.2.2.1, w.2.2.2.2.2.1, w.2.2.2.2.2.2.1, w.2.2.2.2.2.2.2.1, w.2.2.2.2.2.2.2.2), 1, sp, mf, mu, ch, wy, nx) else ((f_M_home w.2.2.2.2.2.1 w.2.2.2.2.2.2.1 w.2.2.2.2.2.2.2.2).bind fun r4 => f_M_repair_L41 100000000000 (w.1, 0, w.2.2.1, w.2.2.2.1, w.2.2.2.2.1, r4.1, r4.2.1, w.2.2.2.2.2.2.2.1, r4.2.2) 0 sp 0 mu ch wy nx 0))
set_option maxHeartbeats 4000000 in
set_option maxRecDepth 100000 in
theorem s_M_repair {l : Launch} {D : va_G} {dA : FieldType → ClassId} (htr : l.stackTraces = false) {hx : Nat → am_E} {rest : List am_E} {th : Int32} {sp : Int32} {mp : Int32} {mf : Int32} {ml : Nat → Int32} {ps : Nat → Int32} {nm : Nat → Int32} {mu : Nat → Int32} {ch : Nat → Int32} {wy : Nat → Int32} {nx : Nat → Int32} {w : am_MS}  {r : Int32 × am_MS × Int32 × Int32 × Int32 × (Nat → Int32) × (Nat → Int32) × (Nat → Int32) × (Nat → Int32)} (hf : f_M_repair w th sp mf mu ch wy nx = some r) {o : am_O} (ho : .inl (some (.int r.1)) = o) :
    am_M (am_kk l D dA) y_M_repair ws_M_repair (am_rm 7 o) [.ref 18] (hM hx w.1 w.2.1 w.2.2.1 w.2.2.2.1 w.2.2.2.2.1 w.2.2.2.2.2.1 w.2.2.2.2.2.2.1 w.2.2.2.2.2.2.2.1 w.2.2.2.2.2.2.2.2 th sp mp mf ml ps nm mu ch wy nx rest) o (hM hx r.2.1.1 r.2.1.2.1 r.2.1.2.2.1 r.2.1.2.2.2.1 r.2.1.2.2.2.2.1 r.2.1.2.2.2.2.2.1 r.2.1.2.2.2.2.2.2.1 r.2.1.2.2.2.2.2.2.2.1 r.2.1.2.2.2.2.2.2.2.2 r.2.2.1 r.2.2.2.1 mp r.2.2.2.2.1 ml ps nm r.2.2.2.2.2.1 r.2.2.2.2.2.2.1 r.2.2.2.2.2.2.2.1 r.2.2.2.2.2.2.2.2 rest) := by
  subst ho
  refine am_body (by decide) rfl (Nat.le_of_ble_eq_true rfl) rfl ?_
  rw [f_M_repair] at hf
  refine g_aload_n (n := 1) d_M_repair_0 rfl 0 rfl rfl ?_
  refine g_iconst (n := 2) (v := 0) d_M_repair_1 rfl (by decide) ?_
  refine g_put (n := 5) (q0 := 18) (h' := (hM hx w.1 0 w.2.2.1 w.2.2.2.1 w.2.2.2.2.1 w.2.2.2.2.2.1 w.2.2.2.2.2.2.1 w.2.2.2.2.2.2.2.1 w.2.2.2.2.2.2.2.2 th sp mp mf ml ps nm mu ch wy nx rest)) d_M_repair_2 rfl (am_fl in_M rfl (by decide : 4 < 20)) typ_M (List.mem_cons_of_mem _ tw_869) rfl (fun _ _ => rfl) (fun _ _ => rfl) rfl (am_ltb rfl) rfl ?_
  refine g_aload_n (n := 6) d_M_repair_5 rfl 0 rfl rfl ?_
  refine g_aload_n (n := 7) d_M_repair_6 rfl 0 rfl rfl ?_
  refine g_get (n := 10) (q0 := 18) d_M_repair_7 rfl (am_fl in_M rfl (by decide : 2 < 20)) (List.mem_cons_of_mem _ tw_867) rfl rfl ?_
  refine g_if_eq (n := 13) (tgt := 17) d_M_repair_10 rfl (by decide) (fun q1 => ?_) (fun q1 => ?_)
  · have hf := ob_pos q1 hf
    refine g_iconst (n := 18) (v := 1) d_M_repair_17 rfl (by decide) ?_
    refine g_put (n := 21) (q0 := 18) (h' := (hM hx w.1 0 w.2.2.1 w.2.2.2.1 w.2.2.2.2.1 w.2.2.2.2.2.1 w.2.2.2.2.2.2.1 w.2.2.2.2.2.2.2.1 w.2.2.2.2.2.2.2.2 1 sp mp mf ml ps nm mu ch wy nx rest)) d_M_repair_18 rfl (am_fl in_M rfl (by decide : 0 < 20)) typ_M (List.mem_cons_of_mem _ tw_865) rfl (fun _ _ => rfl) (fun _ _ => rfl) rfl (am_ltb rfl) rfl ?_
    refine g_aload_n (n := 22) d_M_repair_21 rfl 0 rfl rfl ?_
    refine g_get (n := 25) (q0 := 18) d_M_repair_22 rfl (am_fl in_M rfl (by decide : 2 < 20)) (List.mem_cons_of_mem _ tw_867) rfl rfl ?_
    refine g_if_ne (n := 28) (tgt := 30) d_M_repair_25 rfl (by decide) (fun q2 => absurd q1 q2) (fun _ => ?_)
    refine g_iconst (n := 29) (v := 0) d_M_repair_28 rfl (by decide) ?_
    cases hf
    exact g_iret d_M_repair_29 rfl (Nat.zero_le _) (Nat.zero_le _)
  · have hf := ob_neg q1 hf
    refine g_iconst (n := 14) (v := 0) d_M_repair_13 rfl (by decide) ?_
    refine g_goto (n := 18) d_M_repair_14 (by decide) ?_
    refine g_put (n := 21) (q0 := 18) (h' := (hM hx w.1 0 w.2.2.1 w.2.2.2.1 w.2.2.2.2.1 w.2.2.2.2.2.1 w.2.2.2.2.2.2.1 w.2.2.2.2.2.2.2.1 w.2.2.2.2.2.2.2.2 0 sp mp mf ml ps nm mu ch wy nx rest)) d_M_repair_18 rfl (am_fl in_M rfl (by decide : 0 < 20)) typ_M (List.mem_cons_of_mem _ tw_865) rfl (fun _ _ => rfl) (fun _ _ => rfl) rfl (am_ltb rfl) rfl ?_
    refine g_aload_n (n := 22) d_M_repair_21 rfl 0 rfl rfl ?_
    refine g_get (n := 25) (q0 := 18) d_M_repair_22 rfl (am_fl in_M rfl (by decide : 2 < 20)) (List.mem_cons_of_mem _ tw_867) rfl rfl ?_
    refine g_if_ne (n := 28) (tgt := 30) d_M_repair_25 rfl (by decide) (fun _ => ?_) (fun q3 => absurd q3 q1)
    refine g_aload_n (n := 31) d_M_repair_30 rfl 0 rfl rfl ?_
    obtain ⟨r4, h5, hf⟩ := ob_bind hf
    refine c_Vr (n := 34) (st' := []) [] [] d_M_repair_31 rfl (s_M_home htr h5 rfl) tw_1029 tw_1031 (am_memS 32 (by decide +kernel) (by decide +kernel)) tw_8 tw_1032 hd_M_home (by omega) (by decide) (ci := 7) rfl rfl rfl (Nat.le_of_ble_eq_true rfl) rfl rfl ?_
    refine g_aload_n (n := 35) d_M_repair_34 rfl 0 rfl rfl ?_
    refine g_iconst (n := 36) (v := 0) d_M_repair_35 rfl (by decide) ?_
    refine g_put (n := 39) (q0 := 18) (h' := (hM hx w.1 0 w.2.2.1 w.2.2.2.1 w.2.2.2.2.1 r4.1 r4.2.1 w.2.2.2.2.2.2.2.1 r4.2.2 0 sp mp 0 ml ps nm mu ch wy nx rest)) d_M_repair_36 rfl (am_fl in_M rfl (by decide : 19 < 20)) typ_M (List.mem_cons_of_mem _ tw_884) rfl (fun _ _ => rfl) (fun _ _ => rfl) rfl (am_ltb rfl) rfl ?_
    refine g_iconst (n := 40) (v := 0) d_M_repair_39 rfl (by decide) ?_
    refine g_istore_n (n := 41) (ls' := [(1, .int 0), (0, .ref 18)]) d_M_repair_40 rfl rfl (am_ltb rfl) rfl ?_
    refine g_ls [1, 0] rfl ?_
    exact s_M_repair_L41 htr 100000000000 (w.1, 0, w.2.2.1, w.2.2.2.1, w.2.2.2.2.1, r4.1, r4.2.1, w.2.2.2.2.2.2.2.1, r4.2.2) 0 sp 0 mu ch wy nx 0 _ hf _ rfl
def f_M_octet (dk : Nat → Int32) (th : Int32) (x1 : Int32) (x2 : Int32) : Option (Int32 × Int32) :=
  ((f_M_in x1 0 69).bind fun r1 => (if r1 = 0 then some ((-1), 0) else ((f_M_in x2 0 31).bind fun r4 => (if r4 = 0 then some ((-1), 0) else (if am_in ((32 * x1) + x2) 2240 = true then some ((dk ((32 * x1) + x2).toNatClampNeg), 0) else none)))))
set_option maxHeartbeats 4000000 in
set_option maxRecDepth 100000 in
theorem s_M_octet {l : Launch} {D : va_G} {dA : FieldType → ClassId} (htr : l.stackTraces = false) {hx : Nat → am_E} {rest : List am_E} {on : Int32} {dd : Int32} {mw : Int32} {cu : Int32} {ty : Int32} {mh : Int32} {md : Int32} {dk : Nat → Int32} {op : Nat → Int32} {th : Int32} {sp : Int32} {mp : Int32} {mf : Int32} {ml : Nat → Int32} {ps : Nat → Int32} {nm : Nat → Int32} {mu : Nat → Int32} {ch : Nat → Int32} {wy : Nat → Int32} {nx : Nat → Int32}  {x1 : Int32} {x2 : Int32} {r : Int32 × Int32} (hf : f_M_octet dk th x1 x2 = some r) {o : am_O} (ho : .inl (some (.int r.1)) = o) :
    am_M (am_kk l D dA) y_M_octet ws_M_octet (am_rm 1 o) [.ref 18, .int x1, .int x2] (hM hx on dd mw cu ty mh md dk op th sp mp mf ml ps nm mu ch wy nx rest) o (hM hx on dd mw cu ty mh md dk op r.2 sp mp mf ml ps nm mu ch wy nx rest) := by
  subst ho
  refine am_body (by decide) rfl (Nat.le_of_ble_eq_true rfl) rfl ?_
  rw [f_M_octet] at hf
  refine g_aload_n (n := 1) d_M_octet_0 rfl 0 rfl rfl ?_
  refine g_iconst (n := 2) (v := 0) d_M_octet_1 rfl (by decide) ?_
  refine g_put (n := 5) (q0 := 18) (h' := (hM hx on dd mw cu ty mh md dk op 0 sp mp mf ml ps nm mu ch wy nx rest)) d_M_octet_2 rfl (am_fl in_M rfl (by decide : 0 < 20)) typ_M (List.mem_cons_of_mem _ tw_865) rfl (fun _ _ => rfl) (fun _ _ => rfl) rfl (am_ltb rfl) rfl ?_
  refine g_iload_n (n := 6) d_M_octet_5 rfl 1 rfl rfl ?_
  refine g_iconst (n := 7) (v := 0) d_M_octet_6 rfl (by decide) ?_
  refine g_bipush (n := 9) (v := 69) d_M_octet_7 rfl (by decide) ?_
  obtain ⟨r1, h2, hf⟩ := ob_bind hf
  refine c_Sr (n := 12) (st' := [.int r1]) [.int x1, .int 0, .int 69] [] d_M_octet_9 rfl (s_M_in htr h2 rfl) tw_938 tw_939 tw_8 tw_940 rfl hd_M_in (by omega) (by decide) rfl (Nat.le_of_ble_eq_true rfl) rfl rfl ?_
  refine g_if_eq (n := 15) (tgt := 39) d_M_octet_12 rfl (by decide) (fun q3 => ?_) (fun q3 => ?_)
  · have hf := ob_pos q3 hf
    refine g_iconst (n := 40) (v := (-1)) d_M_octet_39 rfl (by decide) ?_
    cases hf
    exact g_iret d_M_octet_40 rfl (Nat.zero_le _) (Nat.zero_le _)
  · have hf := ob_neg q3 hf
    refine g_iload_n (n := 16) d_M_octet_15 rfl 2 rfl rfl ?_
    refine g_iconst (n := 17) (v := 0) d_M_octet_16 rfl (by decide) ?_
    refine g_bipush (n := 19) (v := 31) d_M_octet_17 rfl (by decide) ?_
    obtain ⟨r4, h5, hf⟩ := ob_bind hf
    refine c_Sr (n := 22) (st' := [.int r4]) [.int x2, .int 0, .int 31] [] d_M_octet_19 rfl (s_M_in htr h5 rfl) tw_938 tw_939 tw_8 tw_940 rfl hd_M_in (by omega) (by decide) rfl (Nat.le_of_ble_eq_true rfl) rfl rfl ?_
    refine g_if_eq (n := 25) (tgt := 39) d_M_octet_22 rfl (by decide) (fun q6 => ?_) (fun q6 => ?_)
    · have hf := ob_pos q6 hf
      refine g_iconst (n := 40) (v := (-1)) d_M_octet_39 rfl (by decide) ?_
      cases hf
      exact g_iret d_M_octet_40 rfl (Nat.zero_le _) (Nat.zero_le _)
    · have hf := ob_neg q6 hf
      refine g_aload_n (n := 26) d_M_octet_25 rfl 0 rfl rfl ?_
      refine g_get (n := 29) (q0 := 18) d_M_octet_26 rfl (am_fl in_M rfl (by decide : 1 < 20)) (List.mem_cons_of_mem _ tw_866) rfl rfl ?_
      refine g_bipush (n := 31) (v := 32) d_M_octet_29 rfl (by decide) ?_
      refine g_iload_n (n := 32) d_M_octet_31 rfl 1 rfl rfl ?_
      refine g_imul (n := 33) d_M_octet_32 rfl ?_
      refine g_iload_n (n := 34) d_M_octet_33 rfl 2 rfl rfl ?_
      refine g_iadd (n := 35) d_M_octet_34 rfl ?_
      obtain ⟨b7, hf⟩ := ob_chk hf
      refine g_iald (n := 36) (q0 := 19) d_M_octet_35 rfl rfl (am_inl b7) ?_
      refine g_goto (n := 40) d_M_octet_36 (by decide) ?_
      cases hf
      exact g_iret d_M_octet_40 rfl (Nat.zero_le _) (Nat.zero_le _)
def f_M_poke (mh : Int32) (md : Int32) (dk : Nat → Int32) (op : Nat → Int32) (th : Int32) (sp : Int32) (x1 : Int32) (x2 : Int32) (x3 : Int32) : Option (Int32 × Int32 × Int32 × (Nat → Int32) × (Nat → Int32) × Int32 × Int32) :=
  ((f_M_in x1 0 69).bind fun r1 => (if r1 = 0 then some (0, mh, md, dk, op, 0, sp) else ((f_M_in x2 0 31).bind fun r4 => (if r4 = 0 then some (0, mh, md, dk, op, 0, sp) else (if am_in ((32 * x1) + x2) 2240 = true then ((f_M_home mh md op).bind fun r8 => some (1, r8.1, r8.2.1, (upd dk ((32 * x1) + x2).toNatClampNeg (x3 &&& 255)), r8.2.2, 0, 1)) else none)))))
set_option maxHeartbeats 4000000 in
set_option maxRecDepth 100000 in
theorem s_M_poke {l : Launch} {D : va_G} {dA : FieldType → ClassId} (htr : l.stackTraces = false) {hx : Nat → am_E} {rest : List am_E} {on : Int32} {dd : Int32} {mw : Int32} {cu : Int32} {ty : Int32} {mh : Int32} {md : Int32} {dk : Nat → Int32} {op : Nat → Int32} {th : Int32} {sp : Int32} {mp : Int32} {mf : Int32} {ml : Nat → Int32} {ps : Nat → Int32} {nm : Nat → Int32} {mu : Nat → Int32} {ch : Nat → Int32} {wy : Nat → Int32} {nx : Nat → Int32}  {x1 : Int32} {x2 : Int32} {x3 : Int32} {r : Int32 × Int32 × Int32 × (Nat → Int32) × (Nat → Int32) × Int32 × Int32} (hf : f_M_poke mh md dk op th sp x1 x2 x3 = some r) {o : am_O} (ho : .inl (some (.int r.1)) = o) :
    am_M (am_kk l D dA) y_M_poke ws_M_poke (am_rm 1 o) [.ref 18, .int x1, .int x2, .int x3] (hM hx on dd mw cu ty mh md dk op th sp mp mf ml ps nm mu ch wy nx rest) o (hM hx on dd mw cu ty r.2.1 r.2.2.1 r.2.2.2.1 r.2.2.2.2.1 r.2.2.2.2.2.1 r.2.2.2.2.2.2 mp mf ml ps nm mu ch wy nx rest) := by
  subst ho
  refine am_body (by decide) rfl (Nat.le_of_ble_eq_true rfl) rfl ?_
  rw [f_M_poke] at hf
  refine g_aload_n (n := 1) d_M_poke_0 rfl 0 rfl rfl ?_
  refine g_iconst (n := 2) (v := 0) d_M_poke_1 rfl (by decide) ?_
  refine g_put (n := 5) (q0 := 18) (h' := (hM hx on dd mw cu ty mh md dk op 0 sp mp mf ml ps nm mu ch wy nx rest)) d_M_poke_2 rfl (am_fl in_M rfl (by decide : 0 < 20)) typ_M (List.mem_cons_of_mem _ tw_865) rfl (fun _ _ => rfl) (fun _ _ => rfl) rfl (am_ltb rfl) rfl ?_
  refine g_iload_n (n := 6) d_M_poke_5 rfl 1 rfl rfl ?_
  refine g_iconst (n := 7) (v := 0) d_M_poke_6 rfl (by decide) ?_
  refine g_bipush (n := 9) (v := 69) d_M_poke_7 rfl (by decide) ?_
  obtain ⟨r1, h2, hf⟩ := ob_bind hf
  refine c_Sr (n := 12) (st' := [.int r1]) [.int x1, .int 0, .int 69] [] d_M_poke_9 rfl (s_M_in htr h2 rfl) tw_938 tw_939 tw_8 tw_940 rfl hd_M_in (by omega) (by decide) rfl (Nat.le_of_ble_eq_true rfl) rfl rfl ?_
  refine g_if_eq (n := 15) (tgt := 25) d_M_poke_12 rfl (by decide) (fun q3 => ?_) (fun q3 => ?_)
  · have hf := ob_pos q3 hf
    refine g_iconst (n := 26) (v := 0) d_M_poke_25 rfl (by decide) ?_
    cases hf
    exact g_zret d_M_poke_26 rfl am_z0 (Nat.zero_le _) (Nat.zero_le _)
  · have hf := ob_neg q3 hf
    refine g_iload_n (n := 16) d_M_poke_15 rfl 2 rfl rfl ?_
    refine g_iconst (n := 17) (v := 0) d_M_poke_16 rfl (by decide) ?_
    refine g_bipush (n := 19) (v := 31) d_M_poke_17 rfl (by decide) ?_
    obtain ⟨r4, h5, hf⟩ := ob_bind hf
    refine c_Sr (n := 22) (st' := [.int r4]) [.int x2, .int 0, .int 31] [] d_M_poke_19 rfl (s_M_in htr h5 rfl) tw_938 tw_939 tw_8 tw_940 rfl hd_M_in (by omega) (by decide) rfl (Nat.le_of_ble_eq_true rfl) rfl rfl ?_
    refine g_if_ne (n := 25) (tgt := 27) d_M_poke_22 rfl (by decide) (fun q6 => ?_) (fun q6 => ?_)
    · have hf := ob_neg q6 hf
      refine g_aload_n (n := 28) d_M_poke_27 rfl 0 rfl rfl ?_
      refine g_get (n := 31) (q0 := 18) d_M_poke_28 rfl (am_fl in_M rfl (by decide : 1 < 20)) (List.mem_cons_of_mem _ tw_866) rfl rfl ?_
      refine g_bipush (n := 33) (v := 32) d_M_poke_31 rfl (by decide) ?_
      refine g_iload_n (n := 34) d_M_poke_33 rfl 1 rfl rfl ?_
      refine g_imul (n := 35) d_M_poke_34 rfl ?_
      refine g_iload_n (n := 36) d_M_poke_35 rfl 2 rfl rfl ?_
      refine g_iadd (n := 37) d_M_poke_36 rfl ?_
      refine g_iload_n (n := 38) d_M_poke_37 rfl 3 rfl rfl ?_
      refine g_sipush (n := 41) (v := 255) d_M_poke_38 rfl (by decide) ?_
      refine g_iand (n := 42) d_M_poke_41 rfl ?_
      obtain ⟨b7, hf⟩ := ob_chk hf
      refine g_iast (n := 43) (q0 := 19) (h' := (hM hx on dd mw cu ty mh md (upd dk ((32 * x1) + x2).toNatClampNeg (x3 &&& 255)) op 0 sp mp mf ml ps nm mu ch wy nx rest)) d_M_poke_42 rfl rfl (am_inl b7) rfl ?_
      refine g_aload_n (n := 44) d_M_poke_43 rfl 0 rfl rfl ?_
      refine g_iconst (n := 45) (v := 1) d_M_poke_44 rfl (by decide) ?_
      refine g_put (n := 48) (q0 := 18) (h' := (hM hx on dd mw cu ty mh md (upd dk ((32 * x1) + x2).toNatClampNeg (x3 &&& 255)) op 0 1 mp mf ml ps nm mu ch wy nx rest)) d_M_poke_45 rfl (am_fl in_M rfl (by decide : 3 < 20)) typ_M (List.mem_cons_of_mem _ tw_868) rfl (fun _ _ => rfl) (fun _ _ => rfl) rfl (am_ltb rfl) rfl ?_
      refine g_aload_n (n := 49) d_M_poke_48 rfl 0 rfl rfl ?_
      obtain ⟨r8, h9, hf⟩ := ob_bind hf
      refine c_Vr (n := 52) (st' := []) [] [] d_M_poke_49 rfl (s_M_home htr h9 rfl) tw_1029 tw_1031 (am_memS 32 (by decide +kernel) (by decide +kernel)) tw_8 tw_1032 hd_M_home (by omega) (by decide) (ci := 7) rfl rfl rfl (Nat.le_of_ble_eq_true rfl) rfl rfl ?_
      refine g_iconst (n := 53) (v := 1) d_M_poke_52 rfl (by decide) ?_
      cases hf
      exact g_zret d_M_poke_53 rfl am_z1 (Nat.zero_le _) (Nat.zero_le _)
    · have hf := ob_pos q6 hf
      refine g_iconst (n := 26) (v := 0) d_M_poke_25 rfl (by decide) ?_
      cases hf
      exact g_zret d_M_poke_26 rfl am_z0 (Nat.zero_le _) (Nat.zero_le _)
def f_M_look_L45 : Nat → Int32 → Int32 → Int32 → Int32 → (Nat → Int32) → (Nat → Int32) → Int32 → (Nat → Int32) → Int32 → Int32 → Int32 → Option (Int32 × Int32)
  | 0, _, _, _, _, _, _, _, _, _, _, _ => none
  | fuel + 1, on, mw, ty, mh, dk, op, th, ps, x1, x2, x3 =>
  (if 64 ≤ x3 then (if 3 ≤ x1 then (if x1 = 3 then some (mh, th) else (if x1 = 4 then some (ty, th) else some ((-1), th))) else (if x1 = 0 then (if on = 0 then some (0, th) else some (1, th)) else (if x1 = 1 then some (mw, th) else (if x1 = 2 then some (x2, th) else some ((-1), th))))) else ((f_M_cell dk x3).bind fun r12 => (if r12 = 0 then f_M_look_L45 fuel on mw ty mh dk op th ps x1 (x2 + 1) (x3 + 1) else f_M_look_L45 fuel on mw ty mh dk op th ps x1 (x2 + 0) (x3 + 1))))
set_option maxHeartbeats 4000000 in
set_option maxRecDepth 100000 in
theorem s_M_look_L45 {l : Launch} {D : va_G} {dA : FieldType → ClassId} (htr : l.stackTraces = false) {hx : Nat → am_E} {rest : List am_E} {dd : Int32} {cu : Int32} {md : Int32} {sp : Int32} {mp : Int32} {mf : Int32} {ml : Nat → Int32} {nm : Nat → Int32} {mu : Nat → Int32} {ch : Nat → Int32} {wy : Nat → Int32} {nx : Nat → Int32}  : ∀ (fuel : Nat) (on : Int32) (mw : Int32) (ty : Int32) (mh : Int32) (dk : Nat → Int32) (op : Nat → Int32) (th : Int32) (ps : Nat → Int32) (x1 : Int32) (x2 : Int32) (x3 : Int32) (r : Int32 × Int32), f_M_look_L45 fuel on mw ty mh dk op th ps x1 x2 x3 = some r → ∀ o : am_O, .inl (some (.int r.1)) = o →
    am_G (am_kk l D dA) (ws_M_look, y_M_look.cls, prog_9_method_63_code, 4, (some .int), y_M_look.name, [], am_rm 2 (o), none) o (hM hx on dd mw cu ty mh md dk op r.2 sp mp mf ml ps nm mu ch wy nx rest) 0 0 45 [(0, .ref 18), (1, .int x1), (2, .int x2), (3, .int x3)] [] (hM hx on dd mw cu ty mh md dk op th sp mp mf ml ps nm mu ch wy nx rest) := by
  intro fuel
  induction fuel with
  | zero =>
    intro on mw ty mh dk op th ps x1 x2 x3 r hf
    cases hf
  | succ fuel ih =>
    intro on mw ty mh dk op th ps x1 x2 x3 r hf o ho
    subst ho
    rw [f_M_look_L45] at hf
    refine g_iload_n (n := 46) d_M_look_45 rfl 3 rfl rfl ?_
    refine g_bipush (n := 48) (v := 64) d_M_look_46 rfl (by decide) ?_
    refine g_icmp_ge (n := 51) (tgt := 73) d_M_look_48 rfl (by decide) (fun q4 => ?_) (fun q4 => ?_)
    · have hf := ob_pos q4 hf
      refine g_iload_n (n := 74) d_M_look_73 rfl 1 rfl rfl ?_
      refine g_iconst (n := 75) (v := 3) d_M_look_74 rfl (by decide) ?_
      refine g_icmp_ge (n := 78) (tgt := 120) d_M_look_75 rfl (by decide) (fun q5 => ?_) (fun q5 => ?_)
      · have hf := ob_pos q5 hf
        refine g_iload_n (n := 121) d_M_look_120 rfl 1 rfl rfl ?_
        refine g_iconst (n := 122) (v := 3) d_M_look_121 rfl (by decide) ?_
        refine g_icmp_ne (n := 125) (tgt := 132) d_M_look_122 rfl (by decide) (fun q6 => ?_) (fun q6 => ?_)
        · have hf := ob_neg q6 hf
          refine g_iload_n (n := 133) d_M_look_132 rfl 1 rfl rfl ?_
          refine g_iconst (n := 134) (v := 4) d_M_look_133 rfl (by decide) ?_
          refine g_icmp_ne (n := 137) (tgt := 144) d_M_look_134 rfl (by decide) (fun q7 => ?_) (fun q7 => ?_)
          · have hf := ob_neg q7 hf
            refine g_iconst (n := 145) (v := (-1)) d_M_look_144 rfl (by decide) ?_
            cases hf
            exact g_iret d_M_look_145 rfl (Nat.zero_le _) (Nat.zero_le _)
          · have hf := ob_pos q7 hf
            refine g_aload_n (n := 138) d_M_look_137 rfl 0 rfl rfl ?_
            refine g_get (n := 141) (q0 := 18) d_M_look_138 rfl (am_fl in_M rfl (by decide : 8 < 20)) (List.mem_cons_of_mem _ tw_873) rfl rfl ?_
            refine g_goto (n := 145) d_M_look_141 (by decide) ?_
            cases hf
            exact g_iret d_M_look_145 rfl (Nat.zero_le _) (Nat.zero_le _)
        · have hf := ob_pos q6 hf
          refine g_aload_n (n := 126) d_M_look_125 rfl 0 rfl rfl ?_
          refine g_get (n := 129) (q0 := 18) d_M_look_126 rfl (am_fl in_M rfl (by decide : 9 < 20)) (List.mem_cons_of_mem _ tw_874) rfl rfl ?_
          refine g_goto (n := 145) d_M_look_129 (by decide) ?_
          cases hf
          exact g_iret d_M_look_145 rfl (Nat.zero_le _) (Nat.zero_le _)
      · have hf := ob_neg q5 hf
        refine g_iload_n (n := 79) d_M_look_78 rfl 1 rfl rfl ?_
        refine g_if_ne (n := 82) (tgt := 97) d_M_look_79 rfl (by decide) (fun q8 => ?_) (fun q8 => ?_)
        · have hf := ob_neg q8 hf
          refine g_iload_n (n := 98) d_M_look_97 rfl 1 rfl rfl ?_
          refine g_iconst (n := 99) (v := 1) d_M_look_98 rfl (by decide) ?_
          refine g_icmp_ne (n := 102) (tgt := 109) d_M_look_99 rfl (by decide) (fun q9 => ?_) (fun q9 => ?_)
          · have hf := ob_neg q9 hf
            refine g_iload_n (n := 110) d_M_look_109 rfl 1 rfl rfl ?_
            refine g_iconst (n := 111) (v := 2) d_M_look_110 rfl (by decide) ?_
            refine g_icmp_ne (n := 114) (tgt := 118) d_M_look_111 rfl (by decide) (fun q10 => ?_) (fun q10 => ?_)
            · have hf := ob_neg q10 hf
              refine g_iconst (n := 119) (v := (-1)) d_M_look_118 rfl (by decide) ?_
              cases hf
              exact g_iret d_M_look_119 rfl (Nat.zero_le _) (Nat.zero_le _)
            · have hf := ob_pos q10 hf
              refine g_iload_n (n := 115) d_M_look_114 rfl 2 rfl rfl ?_
              refine g_goto (n := 119) d_M_look_115 (by decide) ?_
              cases hf
              exact g_iret d_M_look_119 rfl (Nat.zero_le _) (Nat.zero_le _)
          · have hf := ob_pos q9 hf
            refine g_aload_n (n := 103) d_M_look_102 rfl 0 rfl rfl ?_
            refine g_get (n := 106) (q0 := 18) d_M_look_103 rfl (am_fl in_M rfl (by decide : 5 < 20)) (List.mem_cons_of_mem _ tw_870) rfl rfl ?_
            refine g_goto (n := 119) d_M_look_106 (by decide) ?_
            cases hf
            exact g_iret d_M_look_119 rfl (Nat.zero_le _) (Nat.zero_le _)
        · have hf := ob_pos q8 hf
          refine g_aload_n (n := 83) d_M_look_82 rfl 0 rfl rfl ?_
          refine g_get (n := 86) (q0 := 18) d_M_look_83 rfl (am_fl in_M rfl (by decide : 2 < 20)) (List.mem_cons_of_mem _ tw_867) rfl rfl ?_
          refine g_if_eq (n := 89) (tgt := 93) d_M_look_86 rfl (by decide) (fun q11 => ?_) (fun q11 => ?_)
          · have hf := ob_pos q11 hf
            refine g_iconst (n := 94) (v := 0) d_M_look_93 rfl (by decide) ?_
            refine g_goto (n := 119) d_M_look_94 (by decide) ?_
            cases hf
            exact g_iret d_M_look_119 rfl (Nat.zero_le _) (Nat.zero_le _)
          · have hf := ob_neg q11 hf
            refine g_iconst (n := 90) (v := 1) d_M_look_89 rfl (by decide) ?_
            refine g_goto (n := 119) d_M_look_90 (by decide) ?_
            cases hf
            exact g_iret d_M_look_119 rfl (Nat.zero_le _) (Nat.zero_le _)
    · have hf := ob_neg q4 hf
      refine g_iload_n (n := 52) d_M_look_51 rfl 2 rfl rfl ?_
      refine g_aload_n (n := 53) d_M_look_52 rfl 0 rfl rfl ?_
      refine g_iload_n (n := 54) d_M_look_53 rfl 3 rfl rfl ?_
      obtain ⟨r12, h13, hf⟩ := ob_bind hf
      refine c_Vr (n := 57) (st' := [.int r12, .int x2]) [.int x3] [.int x2] d_M_look_54 rfl (s_M_cell htr h13 rfl) tw_953 tw_955 (am_memS 16 (by decide +kernel) (by decide +kernel)) tw_8 tw_956 hd_M_cell (by omega) (by decide) (ci := 7) rfl rfl rfl (Nat.le_of_ble_eq_true rfl) rfl rfl ?_
      refine g_if_ne (n := 60) (tgt := 64) d_M_look_57 rfl (by decide) (fun q14 => ?_) (fun q14 => ?_)
      · have hf := ob_neg q14 hf
        refine g_iconst (n := 65) (v := 0) d_M_look_64 rfl (by decide) ?_
        refine g_iadd (n := 66) d_M_look_65 rfl ?_
        refine g_istore_n (n := 67) (ls' := [(2, .int (x2 + 0)), (0, .ref 18), (1, .int x1), (3, .int x3)]) d_M_look_66 rfl rfl (am_ltb rfl) rfl ?_
        refine g_iinc (n := 70) (v := (x3 + 1)) (ls' := [(3, .int (x3 + 1)), (2, .int (x2 + 0)), (0, .ref 18), (1, .int x1)]) d_M_look_67 rfl 3 rfl rfl (am_ltb rfl) rfl ?_
        refine g_goto (n := 45) d_M_look_70 (by decide) ?_
        refine g_ls [2, 3, 1, 0] rfl ?_
        exact ih on mw ty mh dk op th ps x1 (x2 + 0) (x3 + 1) _ hf _ rfl
      · have hf := ob_pos q14 hf
        refine g_iconst (n := 61) (v := 1) d_M_look_60 rfl (by decide) ?_
        refine g_goto (n := 65) d_M_look_61 (by decide) ?_
        refine g_iadd (n := 66) d_M_look_65 rfl ?_
        refine g_istore_n (n := 67) (ls' := [(2, .int (x2 + 1)), (0, .ref 18), (1, .int x1), (3, .int x3)]) d_M_look_66 rfl rfl (am_ltb rfl) rfl ?_
        refine g_iinc (n := 70) (v := (x3 + 1)) (ls' := [(3, .int (x3 + 1)), (2, .int (x2 + 1)), (0, .ref 18), (1, .int x1)]) d_M_look_67 rfl 3 rfl rfl (am_ltb rfl) rfl ?_
        refine g_goto (n := 45) d_M_look_70 (by decide) ?_
        refine g_ls [2, 3, 1, 0] rfl ?_
        exact ih on mw ty mh dk op th ps x1 (x2 + 1) (x3 + 1) _ hf _ rfl
def f_M_look (on : Int32) (mw : Int32) (ty : Int32) (mh : Int32) (dk : Nat → Int32) (op : Nat → Int32) (th : Int32) (ps : Nat → Int32) (x1 : Int32) : Option (Int32 × Int32) :=
  ((f_M_in x1 10 13).bind fun r1 => (if r1 = 0 then f_M_look_L45 100000000000 on mw ty mh dk op 0 ps x1 0 2 else ((f_M_isOpen op (x1 - 10)).bind fun r15 => (if r15 = 0 then some ((-1), 0) else (if am_in (x1 - 10) 4 = true then some ((ps (x1 - 10).toNatClampNeg), 0) else none)))))
set_option maxHeartbeats 4000000 in
set_option maxRecDepth 100000 in
theorem s_M_look {l : Launch} {D : va_G} {dA : FieldType → ClassId} (htr : l.stackTraces = false) {hx : Nat → am_E} {rest : List am_E} {on : Int32} {dd : Int32} {mw : Int32} {cu : Int32} {ty : Int32} {mh : Int32} {md : Int32} {dk : Nat → Int32} {op : Nat → Int32} {th : Int32} {sp : Int32} {mp : Int32} {mf : Int32} {ml : Nat → Int32} {ps : Nat → Int32} {nm : Nat → Int32} {mu : Nat → Int32} {ch : Nat → Int32} {wy : Nat → Int32} {nx : Nat → Int32}  {x1 : Int32} {r : Int32 × Int32} (hf : f_M_look on mw ty mh dk op th ps x1 = some r) {o : am_O} (ho : .inl (some (.int r.1)) = o) :
    am_M (am_kk l D dA) y_M_look ws_M_look (am_rm 2 o) [.ref 18, .int x1] (hM hx on dd mw cu ty mh md dk op th sp mp mf ml ps nm mu ch wy nx rest) o (hM hx on dd mw cu ty mh md dk op r.2 sp mp mf ml ps nm mu ch wy nx rest) := by
  subst ho
  refine am_body (by decide) rfl (Nat.le_of_ble_eq_true rfl) rfl ?_
  rw [f_M_look] at hf
  refine g_aload_n (n := 1) d_M_look_0 rfl 0 rfl rfl ?_
  refine g_iconst (n := 2) (v := 0) d_M_look_1 rfl (by decide) ?_
  refine g_put (n := 5) (q0 := 18) (h' := (hM hx on dd mw cu ty mh md dk op 0 sp mp mf ml ps nm mu ch wy nx rest)) d_M_look_2 rfl (am_fl in_M rfl (by decide : 0 < 20)) typ_M (List.mem_cons_of_mem _ tw_865) rfl (fun _ _ => rfl) (fun _ _ => rfl) rfl (am_ltb rfl) rfl ?_
  refine g_iload_n (n := 6) d_M_look_5 rfl 1 rfl rfl ?_
  refine g_bipush (n := 8) (v := 10) d_M_look_6 rfl (by decide) ?_
  refine g_bipush (n := 10) (v := 13) d_M_look_8 rfl (by decide) ?_
  obtain ⟨r1, h2, hf⟩ := ob_bind hf
  refine c_Sr (n := 13) (st' := [.int r1]) [.int x1, .int 10, .int 13] [] d_M_look_10 rfl (s_M_in htr h2 rfl) tw_938 tw_939 tw_8 tw_940 rfl hd_M_in (by omega) (by decide) rfl (Nat.le_of_ble_eq_true rfl) rfl rfl ?_
  refine g_if_eq (n := 16) (tgt := 41) d_M_look_13 rfl (by decide) (fun q3 => ?_) (fun q3 => ?_)
  · have hf := ob_pos q3 hf
    refine g_iconst (n := 42) (v := 0) d_M_look_41 rfl (by decide) ?_
    refine g_istore_n (n := 43) (ls' := [(2, .int 0), (0, .ref 18), (1, .int x1)]) d_M_look_42 rfl rfl (am_ltb rfl) rfl ?_
    refine g_iconst (n := 44) (v := 2) d_M_look_43 rfl (by decide) ?_
    refine g_istore_n (n := 45) (ls' := [(3, .int 2), (2, .int 0), (0, .ref 18), (1, .int x1)]) d_M_look_44 rfl rfl (am_ltb rfl) rfl ?_
    refine g_ls [2, 3, 1, 0] rfl ?_
    exact s_M_look_L45 htr 100000000000 on mw ty mh dk op 0 ps x1 0 2 _ hf _ rfl
  · have hf := ob_neg q3 hf
    refine g_aload_n (n := 17) d_M_look_16 rfl 0 rfl rfl ?_
    refine g_iload_n (n := 18) d_M_look_17 rfl 1 rfl rfl ?_
    refine g_bipush (n := 20) (v := 10) d_M_look_18 rfl (by decide) ?_
    refine g_isub (n := 21) d_M_look_20 rfl ?_
    obtain ⟨r15, h16, hf⟩ := ob_bind hf
    refine c_Vr (n := 24) (st' := [.int r15]) [.int (x1 - 10)] [] d_M_look_21 rfl (s_M_isOpen htr h16 rfl) tw_1073 tw_1075 (am_memS 39 (by decide +kernel) (by decide +kernel)) tw_8 tw_1076 hd_M_isOpen (by omega) (by decide) (ci := 7) rfl rfl rfl (Nat.le_of_ble_eq_true rfl) rfl rfl ?_
    refine g_if_eq (n := 27) (tgt := 39) d_M_look_24 rfl (by decide) (fun q17 => ?_) (fun q17 => ?_)
    · have hf := ob_pos q17 hf
      refine g_iconst (n := 40) (v := (-1)) d_M_look_39 rfl (by decide) ?_
      cases hf
      exact g_iret d_M_look_40 rfl (Nat.zero_le _) (Nat.zero_le _)
    · have hf := ob_neg q17 hf
      refine g_aload_n (n := 28) d_M_look_27 rfl 0 rfl rfl ?_
      refine g_get (n := 31) (q0 := 18) d_M_look_28 rfl (am_fl in_M rfl (by decide : 12 < 20)) (List.mem_cons_of_mem _ tw_877) rfl rfl ?_
      refine g_iload_n (n := 32) d_M_look_31 rfl 1 rfl rfl ?_
      refine g_bipush (n := 34) (v := 10) d_M_look_32 rfl (by decide) ?_
      refine g_isub (n := 35) d_M_look_34 rfl ?_
      obtain ⟨b18, hf⟩ := ob_chk hf
      refine g_iald (n := 36) (q0 := 22) d_M_look_35 rfl rfl (am_inl b18) ?_
      refine g_goto (n := 40) d_M_look_36 (by decide) ?_
      cases hf
      exact g_iret d_M_look_40 rfl (Nat.zero_le _) (Nat.zero_le _)
