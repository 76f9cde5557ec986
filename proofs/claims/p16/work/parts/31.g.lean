def f_M_isOpen (op : Nat → Int32) (x1 : Int32) : Option (Int32) :=
  ((f_M_in x1 0 3).bind fun r1 => (if r1 = 0 then some 0 else (if am_in x1 4 = true then (if (op x1.toNatClampNeg) ≤ 0 then some 0 else some 1) else none)))
set_option maxHeartbeats 4000000 in
set_option maxRecDepth 100000 in
theorem s_M_isOpen {l : Launch} {D : va_G} {dA : FieldType → ClassId} (htr : l.stackTraces = false) {hx : Nat → am_E} {rest : List am_E} {on : Int32} {dd : Int32} {mw : Int32} {cu : Int32} {ty : Int32} {mh : Int32} {md : Int32} {dk : Nat → Int32} {op : Nat → Int32} {th : Int32} {sp : Int32} {mp : Int32} {mf : Int32} {ml : Nat → Int32} {ps : Nat → Int32} {nm : Nat → Int32} {mu : Nat → Int32} {ch : Nat → Int32} {wy : Nat → Int32} {nx : Nat → Int32}  {x1 : Int32} {r : Int32} (hf : f_M_isOpen op x1 = some r) {o : am_O} (ho : .inl (some (.int r)) = o) :
    am_M (am_kk l D dA) y_M_isOpen ws_M_isOpen (am_rm 1 o) [.ref 18, .int x1] (hM hx on dd mw cu ty mh md dk op th sp mp mf ml ps nm mu ch wy nx rest) o (hM hx on dd mw cu ty mh md dk op th sp mp mf ml ps nm mu ch wy nx rest) := by
  subst ho
  refine am_body (by decide) rfl (Nat.le_of_ble_eq_true rfl) rfl ?_
  rw [f_M_isOpen] at hf
  refine g_iload_n (n := 1) d_M_isOpen_0 rfl 1 rfl rfl ?_
  refine g_iconst (n := 2) (v := 0) d_M_isOpen_1 rfl (by decide) ?_
  refine g_iconst (n := 3) (v := 3) d_M_isOpen_2 rfl (by decide) ?_
  obtain ⟨r1, h2, hf⟩ := ob_bind hf
  refine c_Sr (n := 6) (st' := [.int r1]) [.int x1, .int 0, .int 3] [] d_M_isOpen_3 rfl (s_M_in htr h2 rfl) tw_938 tw_939 tw_8 tw_940 rfl hd_M_in (by omega) (by decide) rfl (Nat.le_of_ble_eq_true rfl) rfl rfl ?_
  refine g_if_eq (n := 9) (tgt := 22) d_M_isOpen_6 rfl (by decide) (fun q3 => ?_) (fun q3 => ?_)
  · have hf := ob_pos q3 hf
    refine g_iconst (n := 23) (v := 0) d_M_isOpen_22 rfl (by decide) ?_
    cases hf
    exact g_zret d_M_isOpen_23 rfl am_z0 (Nat.zero_le _) (Nat.zero_le _)
  · have hf := ob_neg q3 hf
    refine g_aload_n (n := 10) d_M_isOpen_9 rfl 0 rfl rfl ?_
    refine g_get (n := 13) (q0 := 18) d_M_isOpen_10 rfl (am_fl in_M rfl (by decide : 11 < 20)) (List.mem_cons_of_mem _ tw_876) rfl rfl ?_
    refine g_iload_n (n := 14) d_M_isOpen_13 rfl 1 rfl rfl ?_
    obtain ⟨b4, hf⟩ := ob_chk hf
    refine g_iald (n := 15) (q0 := 21) d_M_isOpen_14 rfl rfl (am_inl b4) ?_
    refine g_if_le (n := 18) (tgt := 22) d_M_isOpen_15 rfl (by decide) (fun q5 => ?_) (fun q5 => ?_)
    · have hf := ob_pos q5 hf
      refine g_iconst (n := 23) (v := 0) d_M_isOpen_22 rfl (by decide) ?_
      cases hf
      exact g_zret d_M_isOpen_23 rfl am_z0 (Nat.zero_le _) (Nat.zero_le _)
    · have hf := ob_neg q5 hf
      refine g_iconst (n := 19) (v := 1) d_M_isOpen_18 rfl (by decide) ?_
      refine g_goto (n := 23) d_M_isOpen_19 (by decide) ?_
      cases hf
      exact g_zret d_M_isOpen_23 rfl am_z1 (Nat.zero_le _) (Nat.zero_le _)
def f_M_close (op : Nat → Int32) (th : Int32) (x1 : Int32) : Option (Int32 × (Nat → Int32) × Int32) :=
  ((f_M_isOpen op x1).bind fun r1 => (if r1 = 0 then some (0, op, 0) else (if am_in x1 4 = true then some (1, (upd op x1.toNatClampNeg 0), 0) else none)))
set_option maxHeartbeats 4000000 in
set_option maxRecDepth 100000 in
theorem s_M_close {l : Launch} {D : va_G} {dA : FieldType → ClassId} (htr : l.stackTraces = false) {hx : Nat → am_E} {rest : List am_E} {on : Int32} {dd : Int32} {mw : Int32} {cu : Int32} {ty : Int32} {mh : Int32} {md : Int32} {dk : Nat → Int32} {op : Nat → Int32} {th : Int32} {sp : Int32} {mp : Int32} {mf : Int32} {ml : Nat → Int32} {ps : Nat → Int32} {nm : Nat → Int32} {mu : Nat → Int32} {ch : Nat → Int32} {wy : Nat → Int32} {nx : Nat → Int32}  {x1 : Int32} {r : Int32 × (Nat → Int32) × Int32} (hf : f_M_close op th x1 = some r) {o : am_O} (ho : .inl (some (.int r.1)) = o) :
    am_M (am_kk l D dA) y_M_close ws_M_close (am_rm 2 o) [.ref 18, .int x1] (hM hx on dd mw cu ty mh md dk op th sp mp mf ml ps nm mu ch wy nx rest) o (hM hx on dd mw cu ty mh md dk r.2.1 r.2.2 sp mp mf ml ps nm mu ch wy nx rest) := by
  subst ho
  refine am_body (by decide) rfl (Nat.le_of_ble_eq_true rfl) rfl ?_
  rw [f_M_close] at hf
  refine g_aload_n (n := 1) d_M_close_0 rfl 0 rfl rfl ?_
  refine g_iconst (n := 2) (v := 0) d_M_close_1 rfl (by decide) ?_
  refine g_put (n := 5) (q0 := 18) (h' := (hM hx on dd mw cu ty mh md dk op 0 sp mp mf ml ps nm mu ch wy nx rest)) d_M_close_2 rfl (am_fl in_M rfl (by decide : 0 < 20)) typ_M (List.mem_cons_of_mem _ tw_865) rfl (fun _ _ => rfl) (fun _ _ => rfl) rfl (am_ltb rfl) rfl ?_
  refine g_aload_n (n := 6) d_M_close_5 rfl 0 rfl rfl ?_
  refine g_iload_n (n := 7) d_M_close_6 rfl 1 rfl rfl ?_
  obtain ⟨r1, h2, hf⟩ := ob_bind hf
  refine c_Vr (n := 10) (st' := [.int r1]) [.int x1] [] d_M_close_7 rfl (s_M_isOpen htr h2 rfl) tw_1073 tw_1075 (am_memS 39 (by decide +kernel) (by decide +kernel)) tw_8 tw_1076 hd_M_isOpen (by omega) (by decide) (ci := 7) rfl rfl rfl (Nat.le_of_ble_eq_true rfl) rfl rfl ?_
  refine g_if_ne (n := 13) (tgt := 15) d_M_close_10 rfl (by decide) (fun q3 => ?_) (fun q3 => ?_)
  · have hf := ob_neg q3 hf
    refine g_aload_n (n := 16) d_M_close_15 rfl 0 rfl rfl ?_
    refine g_get (n := 19) (q0 := 18) d_M_close_16 rfl (am_fl in_M rfl (by decide : 11 < 20)) (List.mem_cons_of_mem _ tw_876) rfl rfl ?_
    refine g_iload_n (n := 20) d_M_close_19 rfl 1 rfl rfl ?_
    refine g_iconst (n := 21) (v := 0) d_M_close_20 rfl (by decide) ?_
    obtain ⟨b4, hf⟩ := ob_chk hf
    refine g_iast (n := 22) (q0 := 21) (h' := (hM hx on dd mw cu ty mh md dk (upd op x1.toNatClampNeg 0) 0 sp mp mf ml ps nm mu ch wy nx rest)) d_M_close_21 rfl rfl (am_inl b4) rfl ?_
    refine g_iconst (n := 23) (v := 1) d_M_close_22 rfl (by decide) ?_
    cases hf
    exact g_zret d_M_close_23 rfl am_z1 (Nat.zero_le _) (Nat.zero_le _)
  · have hf := ob_pos q3 hf
    refine g_iconst (n := 14) (v := 0) d_M_close_13 rfl (by decide) ?_
    cases hf
    exact g_zret d_M_close_14 rfl am_z0 (Nat.zero_le _) (Nat.zero_le _)
def f_M_sizeOf (dk : Nat → Int32) (op : Nat → Int32) (x1 : Int32) : Option (Int32) :=
  (if am_in x1 4 = true then ((f_M_numberAt dk ((op x1.toNatClampNeg) + 10)).bind fun r2 => some r2) else none)
set_option maxHeartbeats 4000000 in
set_option maxRecDepth 100000 in
theorem s_M_sizeOf {l : Launch} {D : va_G} {dA : FieldType → ClassId} (htr : l.stackTraces = false) {hx : Nat → am_E} {rest : List am_E} {on : Int32} {dd : Int32} {mw : Int32} {cu : Int32} {ty : Int32} {mh : Int32} {md : Int32} {dk : Nat → Int32} {op : Nat → Int32} {th : Int32} {sp : Int32} {mp : Int32} {mf : Int32} {ml : Nat → Int32} {ps : Nat → Int32} {nm : Nat → Int32} {mu : Nat → Int32} {ch : Nat → Int32} {wy : Nat → Int32} {nx : Nat → Int32}  {x1 : Int32} {r : Int32} (hf : f_M_sizeOf dk op x1 = some r) {o : am_O} (ho : .inl (some (.int r)) = o) :
    am_M (am_kk l D dA) y_M_sizeOf ws_M_sizeOf (am_rm 1 o) [.ref 18, .int x1] (hM hx on dd mw cu ty mh md dk op th sp mp mf ml ps nm mu ch wy nx rest) o (hM hx on dd mw cu ty mh md dk op th sp mp mf ml ps nm mu ch wy nx rest) := by
  subst ho
  refine am_body (by decide) rfl (Nat.le_of_ble_eq_true rfl) rfl ?_
  rw [f_M_sizeOf] at hf
  refine g_aload_n (n := 1) d_M_sizeOf_0 rfl 0 rfl rfl ?_
  refine g_aload_n (n := 2) d_M_sizeOf_1 rfl 0 rfl rfl ?_
  refine g_get (n := 5) (q0 := 18) d_M_sizeOf_2 rfl (am_fl in_M rfl (by decide : 11 < 20)) (List.mem_cons_of_mem _ tw_876) rfl rfl ?_
  refine g_iload_n (n := 6) d_M_sizeOf_5 rfl 1 rfl rfl ?_
  obtain ⟨b1, hf⟩ := ob_chk hf
  refine g_iald (n := 7) (q0 := 21) d_M_sizeOf_6 rfl rfl (am_inl b1) ?_
  refine g_bipush (n := 9) (v := 10) d_M_sizeOf_7 rfl (by decide) ?_
  refine g_iadd (n := 10) d_M_sizeOf_9 rfl ?_
  obtain ⟨r2, h3, hf⟩ := ob_bind hf
  refine c_Vr (n := 13) (st' := [.int r2]) [.int ((op x1.toNatClampNeg) + 10)] [] d_M_sizeOf_10 rfl (s_M_numberAt htr h3 rfl) tw_957 tw_959 (am_memS 17 (by decide +kernel) (by decide +kernel)) tw_8 tw_960 hd_M_numberAt (by omega) (by decide) (ci := 7) rfl rfl rfl (Nat.le_of_ble_eq_true rfl) rfl rfl ?_
  cases hf
  exact g_iret d_M_sizeOf_13 rfl (Nat.zero_le _) (Nat.zero_le _)
def f_M_seek (dk : Nat → Int32) (op : Nat → Int32) (th : Int32) (ps : Nat → Int32) (x1 : Int32) (x2 : Int32) : Option (Int32 × Int32 × (Nat → Int32)) :=
  ((f_M_isOpen op x1).bind fun r1 => (if r1 = 0 then some (0, 0, ps) else ((f_M_sizeOf dk op x1).bind fun r4 => ((f_M_in x2 0 r4).bind fun r6 => (if r6 = 0 then some (0, 0, ps) else (if am_in x1 4 = true then some (1, 0, (upd ps x1.toNatClampNeg x2)) else none))))))
set_option maxHeartbeats 4000000 in
set_option maxRecDepth 100000 in
theorem s_M_seek {l : Launch} {D : va_G} {dA : FieldType → ClassId} (htr : l.stackTraces = false) {hx : Nat → am_E} {rest : List am_E} {on : Int32} {dd : Int32} {mw : Int32} {cu : Int32} {ty : Int32} {mh : Int32} {md : Int32} {dk : Nat → Int32} {op : Nat → Int32} {th : Int32} {sp : Int32} {mp : Int32} {mf : Int32} {ml : Nat → Int32} {ps : Nat → Int32} {nm : Nat → Int32} {mu : Nat → Int32} {ch : Nat → Int32} {wy : Nat → Int32} {nx : Nat → Int32}  {x1 : Int32} {x2 : Int32} {r : Int32 × Int32 × (Nat → Int32)} (hf : f_M_seek dk op th ps x1 x2 = some r) {o : am_O} (ho : .inl (some (.int r.1)) = o) :
    am_M (am_kk l D dA) y_M_seek ws_M_seek (am_rm 2 o) [.ref 18, .int x1, .int x2] (hM hx on dd mw cu ty mh md dk op th sp mp mf ml ps nm mu ch wy nx rest) o (hM hx on dd mw cu ty mh md dk op r.2.1 sp mp mf ml r.2.2 nm mu ch wy nx rest) := by
  subst ho
  refine am_body (by decide) rfl (Nat.le_of_ble_eq_true rfl) rfl ?_
  rw [f_M_seek] at hf
  refine g_aload_n (n := 1) d_M_seek_0 rfl 0 rfl rfl ?_
  refine g_iconst (n := 2) (v := 0) d_M_seek_1 rfl (by decide) ?_
  refine g_put (n := 5) (q0 := 18) (h' := (hM hx on dd mw cu ty mh md dk op 0 sp mp mf ml ps nm mu ch wy nx rest)) d_M_seek_2 rfl (am_fl in_M rfl (by decide : 0 < 20)) typ_M (List.mem_cons_of_mem _ tw_865) rfl (fun _ _ => rfl) (fun _ _ => rfl) rfl (am_ltb rfl) rfl ?_
  refine g_aload_n (n := 6) d_M_seek_5 rfl 0 rfl rfl ?_
  refine g_iload_n (n := 7) d_M_seek_6 rfl 1 rfl rfl ?_
  obtain ⟨r1, h2, hf⟩ := ob_bind hf
  refine c_Vr (n := 10) (st' := [.int r1]) [.int x1] [] d_M_seek_7 rfl (s_M_isOpen htr h2 rfl) tw_1073 tw_1075 (am_memS 39 (by decide +kernel) (by decide +kernel)) tw_8 tw_1076 hd_M_isOpen (by omega) (by decide) (ci := 7) rfl rfl rfl (Nat.le_of_ble_eq_true rfl) rfl rfl ?_
  refine g_if_eq (n := 13) (tgt := 26) d_M_seek_10 rfl (by decide) (fun q3 => ?_) (fun q3 => ?_)
  · have hf := ob_pos q3 hf
    refine g_iconst (n := 27) (v := 0) d_M_seek_26 rfl (by decide) ?_
    cases hf
    exact g_zret d_M_seek_27 rfl am_z0 (Nat.zero_le _) (Nat.zero_le _)
  · have hf := ob_neg q3 hf
    refine g_iload_n (n := 14) d_M_seek_13 rfl 2 rfl rfl ?_
    refine g_iconst (n := 15) (v := 0) d_M_seek_14 rfl (by decide) ?_
    refine g_aload_n (n := 16) d_M_seek_15 rfl 0 rfl rfl ?_
    refine g_iload_n (n := 17) d_M_seek_16 rfl 1 rfl rfl ?_
    obtain ⟨r4, h5, hf⟩ := ob_bind hf
    refine c_Vr (n := 20) (st' := [.int r4, .int 0, .int x2]) [.int x1] [.int 0, .int x2] d_M_seek_17 rfl (s_M_sizeOf htr h5 rfl) tw_1081 tw_1083 (am_memS 40 (by decide +kernel) (by decide +kernel)) tw_8 tw_1084 hd_M_sizeOf (by omega) (by decide) (ci := 7) rfl rfl rfl (Nat.le_of_ble_eq_true rfl) rfl rfl ?_
    obtain ⟨r6, h7, hf⟩ := ob_bind hf
    refine c_Sr (n := 23) (st' := [.int r6]) [.int x2, .int 0, .int r4] [] d_M_seek_20 rfl (s_M_in htr h7 rfl) tw_938 tw_939 tw_8 tw_940 rfl hd_M_in (by omega) (by decide) rfl (Nat.le_of_ble_eq_true rfl) rfl rfl ?_
    refine g_if_ne (n := 26) (tgt := 28) d_M_seek_23 rfl (by decide) (fun q8 => ?_) (fun q8 => ?_)
    · have hf := ob_neg q8 hf
      refine g_aload_n (n := 29) d_M_seek_28 rfl 0 rfl rfl ?_
      refine g_get (n := 32) (q0 := 18) d_M_seek_29 rfl (am_fl in_M rfl (by decide : 12 < 20)) (List.mem_cons_of_mem _ tw_877) rfl rfl ?_
      refine g_iload_n (n := 33) d_M_seek_32 rfl 1 rfl rfl ?_
      refine g_iload_n (n := 34) d_M_seek_33 rfl 2 rfl rfl ?_
      obtain ⟨b9, hf⟩ := ob_chk hf
      refine g_iast (n := 35) (q0 := 22) (h' := (hM hx on dd mw cu ty mh md dk op 0 sp mp mf ml (upd ps x1.toNatClampNeg x2) nm mu ch wy nx rest)) d_M_seek_34 rfl rfl (am_inl b9) rfl ?_
      refine g_iconst (n := 36) (v := 1) d_M_seek_35 rfl (by decide) ?_
      cases hf
      exact g_zret d_M_seek_36 rfl am_z1 (Nat.zero_le _) (Nat.zero_le _)
    · have hf := ob_pos q8 hf
      refine g_iconst (n := 27) (v := 0) d_M_seek_26 rfl (by decide) ?_
      cases hf
      exact g_zret d_M_seek_27 rfl am_z0 (Nat.zero_le _) (Nat.zero_le _)
def f_M_byteOf (dk : Nat → Int32) (op : Nat → Int32) (x1 : Int32) (x2 : Int32) : Option (Int32) :=
  (if am_in x1 4 = true then ((f_M_numberAt dk ((op x1.toNatClampNeg) + 8)).bind fun r2 => ((f_M_cluster dk r2 (x2 / 32)).bind fun r4 => some ((32 * (r4 + 6)) + (x2 - x2 / 32 * 32)))) else none)
set_option maxHeartbeats 4000000 in
set_option maxRecDepth 100000 in
theorem s_M_byteOf {l : Launch} {D : va_G} {dA : FieldType → ClassId} (htr : l.stackTraces = false) {hx : Nat → am_E} {rest : List am_E} {on : Int32} {dd : Int32} {mw : Int32} {cu : Int32} {ty : Int32} {mh : Int32} {md : Int32} {dk : Nat → Int32} {op : Nat → Int32} {th : Int32} {sp : Int32} {mp : Int32} {mf : Int32} {ml : Nat → Int32} {ps : Nat → Int32} {nm : Nat → Int32} {mu : Nat → Int32} {ch : Nat → Int32} {wy : Nat → Int32} {nx : Nat → Int32}  {x1 : Int32} {x2 : Int32} {r : Int32} (hf : f_M_byteOf dk op x1 x2 = some r) {o : am_O} (ho : .inl (some (.int r)) = o) :
    am_M (am_kk l D dA) y_M_byteOf ws_M_byteOf (am_rm 3 o) [.ref 18, .int x1, .int x2] (hM hx on dd mw cu ty mh md dk op th sp mp mf ml ps nm mu ch wy nx rest) o (hM hx on dd mw cu ty mh md dk op th sp mp mf ml ps nm mu ch wy nx rest) := by
  subst ho
  refine am_body (by decide) rfl (Nat.le_of_ble_eq_true rfl) rfl ?_
  rw [f_M_byteOf] at hf
  refine g_bipush (n := 2) (v := 32) d_M_byteOf_0 rfl (by decide) ?_
  refine g_aload_n (n := 3) d_M_byteOf_2 rfl 0 rfl rfl ?_
  refine g_aload_n (n := 4) d_M_byteOf_3 rfl 0 rfl rfl ?_
  refine g_aload_n (n := 5) d_M_byteOf_4 rfl 0 rfl rfl ?_
  refine g_get (n := 8) (q0 := 18) d_M_byteOf_5 rfl (am_fl in_M rfl (by decide : 11 < 20)) (List.mem_cons_of_mem _ tw_876) rfl rfl ?_
  refine g_iload_n (n := 9) d_M_byteOf_8 rfl 1 rfl rfl ?_
  obtain ⟨b1, hf⟩ := ob_chk hf
  refine g_iald (n := 10) (q0 := 21) d_M_byteOf_9 rfl rfl (am_inl b1) ?_
  refine g_bipush (n := 12) (v := 8) d_M_byteOf_10 rfl (by decide) ?_
  refine g_iadd (n := 13) d_M_byteOf_12 rfl ?_
  obtain ⟨r2, h3, hf⟩ := ob_bind hf
  refine c_Vr (n := 16) (st' := [.int r2, .ref 18, .int 32]) [.int ((op x1.toNatClampNeg) + 8)] [.ref 18, .int 32] d_M_byteOf_13 rfl (s_M_numberAt htr h3 rfl) tw_957 tw_959 (am_memS 17 (by decide +kernel) (by decide +kernel)) tw_8 tw_960 hd_M_numberAt (by omega) (by decide) (ci := 7) rfl rfl rfl (Nat.le_of_ble_eq_true rfl) rfl rfl ?_
  refine g_iload_n (n := 17) d_M_byteOf_16 rfl 2 rfl rfl ?_
  refine g_bipush (n := 19) (v := 32) d_M_byteOf_17 rfl (by decide) ?_
  refine g_idiv (n := 20) d_M_byteOf_19 rfl (by decide) ?_
  obtain ⟨r4, h5, hf⟩ := ob_bind hf
  refine c_Vr (n := 23) (st' := [.int r4, .int 32]) [.int r2, .int (x2 / 32)] [.int 32] d_M_byteOf_20 rfl (s_M_cluster htr h5 rfl) tw_949 tw_951 (am_memS 15 (by decide +kernel) (by decide +kernel)) tw_8 tw_952 hd_M_cluster (by omega) (by decide) (ci := 7) rfl rfl rfl (Nat.le_of_ble_eq_true rfl) rfl rfl ?_
  refine g_bipush (n := 25) (v := 6) d_M_byteOf_23 rfl (by decide) ?_
  refine g_iadd (n := 26) d_M_byteOf_25 rfl ?_
  refine g_imul (n := 27) d_M_byteOf_26 rfl ?_
  refine g_iload_n (n := 28) d_M_byteOf_27 rfl 2 rfl rfl ?_
  refine g_bipush (n := 30) (v := 32) d_M_byteOf_28 rfl (by decide) ?_
  refine g_irem (n := 31) d_M_byteOf_30 rfl (by decide) ?_
  refine g_iadd (n := 32) d_M_byteOf_31 rfl ?_
  cases hf
  exact g_iret d_M_byteOf_32 rfl (Nat.zero_le _) (Nat.zero_le _)
def f_M_read_L76 : Nat → Int32 → Int32 → (Nat → Int32) → (Nat → Int32) → Int32 → Int32 → (Nat → Int32) → Int32 → Int32 → Int64 → Int32 → Option (Int64 × Int32 × Int32 × (Nat → Int32))
  | 0, _, _, _, _, _, _, _, _, _, _, _ => none
  | fuel + 1, on, dd, dk, op, th, sp, ps, x1, x4, x5, x7 =>
  (if x4 ≤ x7 then some (((x4.toInt64 <<< ((56 : Int32).toInt64 &&& 63)) + x5), dd, th, ps) else (if am_in x1 4 = true then ((f_M_byteOf dk op x1 (ps x1.toNatClampNeg)).bind fun r19 => (if am_in r19 2240 = true then (if am_in x1 4 = true then (if am_in x1 4 = true then f_M_read_L76 fuel on dd dk op th sp (upd ps x1.toNatClampNeg ((ps x1.toNatClampNeg) + 1)) x1 x4 ((x5 * 256) + ((dk r19.toNatClampNeg).toInt64)) (x7 + 1) else none) else none) else none)) else none))
set_option maxHeartbeats 4000000 in
set_option maxRecDepth 100000 in
theorem s_M_read_L76 {l : Launch} {D : va_G} {dA : FieldType → ClassId} (htr : l.stackTraces = false) {hx : Nat → am_E} {rest : List am_E} {mw : Int32} {cu : Int32} {ty : Int32} {mh : Int32} {md : Int32} {mp : Int32} {mf : Int32} {ml : Nat → Int32} {nm : Nat → Int32} {mu : Nat → Int32} {ch : Nat → Int32} {wy : Nat → Int32} {nx : Nat → Int32}  : ∀ (fuel : Nat) (on : Int32) (dd : Int32) (dk : Nat → Int32) (op : Nat → Int32) (th : Int32) (sp : Int32) (ps : Nat → Int32) (x1 : Int32) (x4 : Int32) (x5 : Int64) (x7 : Int32) (r : Int64 × Int32 × Int32 × (Nat → Int32)), f_M_read_L76 fuel on dd dk op th sp ps x1 x4 x5 x7 = some r → ∀ o : am_O, .inl (some (.long r.1)) = o →
    am_G (am_kk l D dA) (ws_M_read, y_M_read.cls, prog_9_method_47_code, 8, (some .long), y_M_read.name, [], am_rm 4 (o), none) o (hM hx on r.2.1 mw cu ty mh md dk op r.2.2.1 sp mp mf ml r.2.2.2 nm mu ch wy nx rest) 0 0 76 [(0, .ref 18), (1, .int x1), (4, .int x4), (5, .long x5), (7, .int x7)] [] (hM hx on dd mw cu ty mh md dk op th sp mp mf ml ps nm mu ch wy nx rest) := by
  intro fuel
  induction fuel with
  | zero =>
    intro on dd dk op th sp ps x1 x4 x5 x7 r hf
    cases hf
  | succ fuel ih =>
    intro on dd dk op th sp ps x1 x4 x5 x7 r hf o ho
    subst ho
    rw [f_M_read_L76] at hf
    refine g_iload (n := 78) d_M_read_76 rfl 4 rfl ?_
    refine g_iload (n := 80) d_M_read_78 rfl 2 rfl ?_
    refine g_icmp_ge (n := 83) (tgt := 125) d_M_read_80 rfl (by decide) (fun q17 => ?_) (fun q17 => ?_)
    · have hf := ob_pos q17 hf
      refine g_iload (n := 127) d_M_read_125 rfl 2 rfl ?_
      refine g_i2l (n := 128) d_M_read_127 rfl ?_
      refine g_bipush (n := 130) (v := 56) d_M_read_128 rfl (by decide) ?_
      refine g_lshl (n := 131) d_M_read_130 rfl ?_
      refine g_lload (n := 133) d_M_read_131 rfl 3 rfl ?_
      refine g_ladd (n := 134) d_M_read_133 rfl ?_
      cases hf
      exact g_lret d_M_read_134 rfl (Nat.zero_le _) (Nat.zero_le _)
    · have hf := ob_neg q17 hf
      refine g_lload (n := 85) d_M_read_83 rfl 3 rfl ?_
      refine g_ldc2 (n := 88) (v := 256) d_M_read_85 rfl (List.mem_cons_of_mem _ tw_1089) ?_
      refine g_lmul (n := 89) d_M_read_88 rfl ?_
      refine g_aload_n (n := 90) d_M_read_89 rfl 0 rfl rfl ?_
      refine g_get (n := 93) (q0 := 18) d_M_read_90 rfl (am_fl in_M rfl (by decide : 1 < 20)) (List.mem_cons_of_mem _ tw_866) rfl rfl ?_
      refine g_aload_n (n := 94) d_M_read_93 rfl 0 rfl rfl ?_
      refine g_iload_n (n := 95) d_M_read_94 rfl 1 rfl rfl ?_
      refine g_aload_n (n := 96) d_M_read_95 rfl 0 rfl rfl ?_
      refine g_get (n := 99) (q0 := 18) d_M_read_96 rfl (am_fl in_M rfl (by decide : 12 < 20)) (List.mem_cons_of_mem _ tw_877) rfl rfl ?_
      refine g_iload_n (n := 100) d_M_read_99 rfl 1 rfl rfl ?_
      obtain ⟨b18, hf⟩ := ob_chk hf
      refine g_iald (n := 101) (q0 := 22) d_M_read_100 rfl rfl (am_inl b18) ?_
      obtain ⟨r19, h20, hf⟩ := ob_bind hf
      refine c_Vr (n := 104) (st' := [.int r19, .ref 19, .long (x5 * 256)]) [.int x1, .int (ps x1.toNatClampNeg)] [.ref 19, .long (x5 * 256)] d_M_read_101 rfl (s_M_byteOf htr h20 rfl) tw_1090 tw_1092 (am_memS 41 (by decide +kernel) (by decide +kernel)) tw_8 tw_1093 hd_M_byteOf (by omega) (by decide) (ci := 7) rfl rfl rfl (Nat.le_of_ble_eq_true rfl) rfl rfl ?_
      obtain ⟨b21, hf⟩ := ob_chk hf
      refine g_iald (n := 105) (q0 := 19) d_M_read_104 rfl rfl (am_inl b21) ?_
      refine g_i2l (n := 106) d_M_read_105 rfl ?_
      refine g_ladd (n := 107) d_M_read_106 rfl ?_
      refine g_lstore (n := 109) (ls' := [(5, .long ((x5 * 256) + ((dk r19.toNatClampNeg).toInt64))), (0, .ref 18), (1, .int x1), (4, .int x4), (7, .int x7)]) d_M_read_107 rfl (am_ltb rfl) rfl ?_
      refine g_aload_n (n := 110) d_M_read_109 rfl 1 rfl rfl ?_
      refine g_get (n := 113) (q0 := 18) d_M_read_110 rfl (am_fl in_M rfl (by decide : 12 < 20)) (List.mem_cons_of_mem _ tw_877) rfl rfl ?_
      refine g_iload_n (n := 114) d_M_read_113 rfl 2 rfl rfl ?_
      refine g_dup2 (n := 115) d_M_read_114 rfl rfl rfl ?_
      obtain ⟨b22, hf⟩ := ob_chk hf
      refine g_iald (n := 116) (q0 := 22) d_M_read_115 rfl rfl (am_inl b22) ?_
      refine g_iconst (n := 117) (v := 1) d_M_read_116 rfl (by decide) ?_
      refine g_iadd (n := 118) d_M_read_117 rfl ?_
      obtain ⟨b23, hf⟩ := ob_chk hf
      refine g_iast (n := 119) (q0 := 22) (h' := (hM hx on dd mw cu ty mh md dk op th sp mp mf ml (upd ps x1.toNatClampNeg ((ps x1.toNatClampNeg) + 1)) nm mu ch wy nx rest)) d_M_read_118 rfl rfl (am_inl b23) rfl ?_
      refine g_iinc (n := 122) (v := (x7 + 1)) (ls' := [(7, .int (x7 + 1)), (5, .long ((x5 * 256) + ((dk r19.toNatClampNeg).toInt64))), (0, .ref 18), (1, .int x1), (4, .int x4)]) d_M_read_119 rfl 4 rfl rfl (am_ltb rfl) rfl ?_
      refine g_goto (n := 76) d_M_read_122 (by decide) ?_
      refine g_ls [2, 3, 4, 1, 0] rfl ?_
      exact ih on dd dk op th sp (upd ps x1.toNatClampNeg ((ps x1.toNatClampNeg) + 1)) x1 x4 ((x5 * 256) + ((dk r19.toNatClampNeg).toInt64)) (x7 + 1) _ hf _ rfl
def f_M_read (on : Int32) (dd : Int32) (dk : Nat → Int32) (op : Nat → Int32) (th : Int32) (sp : Int32) (ps : Nat → Int32) (x1 : Int32) (x2 : Int32) : Option (Int64 × Int32 × Int32 × (Nat → Int32)) :=
  ((f_M_ready on dd th sp).bind fun r1 => (if r1.1 = 0 then some (0, r1.2.1, r1.2.2, ps) else ((f_M_isOpen op x1).bind fun r4 => (if r4 = 0 then some (0, r1.2.1, 2, ps) else ((f_M_in x2 1 7).bind fun r8 => (if r8 = 0 then some (0, r1.2.1, 2, ps) else ((f_M_sizeOf dk op x1).bind fun r13 => (if am_in x1 4 = true then (if (r13 - (ps x1.toNatClampNeg)) ≤ x2 then f_M_read_L76 100000000000 on r1.2.1 dk op 0 sp ps x1 (r13 - (ps x1.toNatClampNeg)) 0 0 else f_M_read_L76 100000000000 on r1.2.1 dk op 0 sp ps x1 x2 0 0) else none))))))))
set_option maxHeartbeats 4000000 in
set_option maxRecDepth 100000 in
theorem s_M_read {l : Launch} {D : va_G} {dA : FieldType → ClassId} (htr : l.stackTraces = false) {hx : Nat → am_E} {rest : List am_E} {on : Int32} {dd : Int32} {mw : Int32} {cu : Int32} {ty : Int32} {mh : Int32} {md : Int32} {dk : Nat → Int32} {op : Nat → Int32} {th : Int32} {sp : Int32} {mp : Int32} {mf : Int32} {ml : Nat → Int32} {ps : Nat → Int32} {nm : Nat → Int32} {mu : Nat → Int32} {ch : Nat → Int32} {wy : Nat → Int32} {nx : Nat → Int32}  {x1 : Int32} {x2 : Int32} {r : Int64 × Int32 × Int32 × (Nat → Int32)} (hf : f_M_read on dd dk op th sp ps x1 x2 = some r) {o : am_O} (ho : .inl (some (.long r.1)) = o) :
    am_M (am_kk l D dA) y_M_read ws_M_read (am_rm 4 o) [.ref 18, .int x1, .int x2] (hM hx on dd mw cu ty mh md dk op th sp mp mf ml ps nm mu ch wy nx rest) o (hM hx on r.2.1 mw cu ty mh md dk op r.2.2.1 sp mp mf ml r.2.2.2 nm mu ch wy nx rest) := by
  subst ho
  refine am_body (by decide) rfl (Nat.le_of_ble_eq_true rfl) rfl ?_
  rw [f_M_read] at hf
  refine g_aload_n (n := 1) d_M_read_0 rfl 0 rfl rfl ?_
  obtain ⟨r1, h2, hf⟩ := ob_bind hf
  refine c_Vr (n := 4) (st' := [.int r1.1]) [] [] d_M_read_1 rfl (s_M_ready htr h2 rfl) tw_934 tw_936 (am_memS 12 (by decide +kernel) (by decide +kernel)) tw_8 tw_937 hd_M_ready (by omega) (by decide) (ci := 7) rfl rfl rfl (Nat.le_of_ble_eq_true rfl) rfl rfl ?_
  refine g_if_ne (n := 7) (tgt := 9) d_M_read_4 rfl (by decide) (fun q3 => ?_) (fun q3 => ?_)
  · have hf := ob_neg q3 hf
    refine g_aload_n (n := 10) d_M_read_9 rfl 0 rfl rfl ?_
    refine g_aload_n (n := 11) d_M_read_10 rfl 0 rfl rfl ?_
    refine g_iload_n (n := 12) d_M_read_11 rfl 1 rfl rfl ?_
    obtain ⟨r4, h5, hf⟩ := ob_bind hf
    refine c_Vr (n := 15) (st' := [.int r4, .ref 18]) [.int x1] [.ref 18] d_M_read_12 rfl (s_M_isOpen htr h5 rfl) tw_1073 tw_1075 (am_memS 39 (by decide +kernel) (by decide +kernel)) tw_8 tw_1076 hd_M_isOpen (by omega) (by decide) (ci := 7) rfl rfl rfl (Nat.le_of_ble_eq_true rfl) rfl rfl ?_
    refine g_if_eq (n := 18) (tgt := 32) d_M_read_15 rfl (by decide) (fun q6 => ?_) (fun q6 => ?_)
    · have hf := ob_pos q6 hf
      refine g_iconst (n := 33) (v := 2) d_M_read_32 rfl (by decide) ?_
      refine g_put (n := 36) (q0 := 18) (h' := (hM hx on r1.2.1 mw cu ty mh md dk op 2 sp mp mf ml ps nm mu ch wy nx rest)) d_M_read_33 rfl (am_fl in_M rfl (by decide : 0 < 20)) typ_M (List.mem_cons_of_mem _ tw_865) rfl (fun _ _ => rfl) (fun _ _ => rfl) rfl (am_ltb rfl) rfl ?_
      refine g_aload_n (n := 37) d_M_read_36 rfl 0 rfl rfl ?_
      refine g_get (n := 40) (q0 := 18) d_M_read_37 rfl (am_fl in_M rfl (by decide : 0 < 20)) (List.mem_cons_of_mem _ tw_865) rfl rfl ?_
      refine g_if_le (n := 43) (tgt := 45) d_M_read_40 rfl (by decide) (fun q7 => absurd q7 (by decide)) (fun _ => ?_)
      refine g_lconst (n := 44) (v := 0) d_M_read_43 rfl (by decide) ?_
      cases hf
      exact g_lret d_M_read_44 rfl (Nat.zero_le _) (Nat.zero_le _)
    · have hf := ob_neg q6 hf
      refine g_iload_n (n := 19) d_M_read_18 rfl 2 rfl rfl ?_
      refine g_iconst (n := 20) (v := 1) d_M_read_19 rfl (by decide) ?_
      refine g_bipush (n := 22) (v := 7) d_M_read_20 rfl (by decide) ?_
      obtain ⟨r8, h9, hf⟩ := ob_bind hf
      refine c_Sr (n := 25) (st' := [.int r8, .ref 18]) [.int x2, .int 1, .int 7] [.ref 18] d_M_read_22 rfl (s_M_in htr h9 rfl) tw_938 tw_939 tw_8 tw_940 rfl hd_M_in (by omega) (by decide) rfl (Nat.le_of_ble_eq_true rfl) rfl rfl ?_
      refine g_if_eq (n := 28) (tgt := 32) d_M_read_25 rfl (by decide) (fun q10 => ?_) (fun q10 => ?_)
      · have hf := ob_pos q10 hf
        refine g_iconst (n := 33) (v := 2) d_M_read_32 rfl (by decide) ?_
        refine g_put (n := 36) (q0 := 18) (h' := (hM hx on r1.2.1 mw cu ty mh md dk op 2 sp mp mf ml ps nm mu ch wy nx rest)) d_M_read_33 rfl (am_fl in_M rfl (by decide : 0 < 20)) typ_M (List.mem_cons_of_mem _ tw_865) rfl (fun _ _ => rfl) (fun _ _ => rfl) rfl (am_ltb rfl) rfl ?_
        refine g_aload_n (n := 37) d_M_read_36 rfl 0 rfl rfl ?_
        refine g_get (n := 40) (q0 := 18) d_M_read_37 rfl (am_fl in_M rfl (by decide : 0 < 20)) (List.mem_cons_of_mem _ tw_865) rfl rfl ?_
        refine g_if_le (n := 43) (tgt := 45) d_M_read_40 rfl (by decide) (fun q11 => absurd q11 (by decide)) (fun _ => ?_)
        refine g_lconst (n := 44) (v := 0) d_M_read_43 rfl (by decide) ?_
        cases hf
        exact g_lret d_M_read_44 rfl (Nat.zero_le _) (Nat.zero_le _)
      · have hf := ob_neg q10 hf
        refine g_iconst (n := 29) (v := 0) d_M_read_28 rfl (by decide) ?_
        refine g_goto (n := 33) d_M_read_29 (by decide) ?_
        refine g_put (n := 36) (q0 := 18) (h' := (hM hx on r1.2.1 mw cu ty mh md dk op 0 sp mp mf ml ps nm mu ch wy nx rest)) d_M_read_33 rfl (am_fl in_M rfl (by decide : 0 < 20)) typ_M (List.mem_cons_of_mem _ tw_865) rfl (fun _ _ => rfl) (fun _ _ => rfl) rfl (am_ltb rfl) rfl ?_
        refine g_aload_n (n := 37) d_M_read_36 rfl 0 rfl rfl ?_
        refine g_get (n := 40) (q0 := 18) d_M_read_37 rfl (am_fl in_M rfl (by decide : 0 < 20)) (List.mem_cons_of_mem _ tw_865) rfl rfl ?_
        refine g_if_le (n := 43) (tgt := 45) d_M_read_40 rfl (by decide) (fun _ => ?_) (fun q12 => absurd q12 (by decide))
        refine g_aload_n (n := 46) d_M_read_45 rfl 0 rfl rfl ?_
        refine g_iload_n (n := 47) d_M_read_46 rfl 1 rfl rfl ?_
        obtain ⟨r13, h14, hf⟩ := ob_bind hf
        refine c_Vr (n := 50) (st' := [.int r13]) [.int x1] [] d_M_read_47 rfl (s_M_sizeOf htr h14 rfl) tw_1081 tw_1083 (am_memS 40 (by decide +kernel) (by decide +kernel)) tw_8 tw_1084 hd_M_sizeOf (by omega) (by decide) (ci := 7) rfl rfl rfl (Nat.le_of_ble_eq_true rfl) rfl rfl ?_
        refine g_aload_n (n := 51) d_M_read_50 rfl 0 rfl rfl ?_
        refine g_get (n := 54) (q0 := 18) d_M_read_51 rfl (am_fl in_M rfl (by decide : 12 < 20)) (List.mem_cons_of_mem _ tw_877) rfl rfl ?_
        refine g_iload_n (n := 55) d_M_read_54 rfl 1 rfl rfl ?_
        obtain ⟨b15, hf⟩ := ob_chk hf
        refine g_iald (n := 56) (q0 := 22) d_M_read_55 rfl rfl (am_inl b15) ?_
        refine g_isub (n := 57) d_M_read_56 rfl ?_
        refine g_istore_n (n := 58) (ls' := [(3, .int (r13 - (ps x1.toNatClampNeg))), (0, .ref 18), (1, .int x1), (2, .int x2)]) d_M_read_57 rfl rfl (am_ltb rfl) rfl ?_
        refine g_iload_n (n := 59) d_M_read_58 rfl 3 rfl rfl ?_
        refine g_iload_n (n := 60) d_M_read_59 rfl 0 rfl rfl ?_
        refine g_icmp_ge (n := 63) (tgt := 67) d_M_read_60 rfl (by decide) (fun q16 => ?_) (fun q16 => ?_)
        · have hf := ob_pos q16 hf
          refine g_iload_n (n := 68) d_M_read_67 rfl 0 rfl rfl ?_
          refine g_istore (n := 70) (ls' := [(4, .int (r13 - (ps x1.toNatClampNeg))), (3, .int (r13 - (ps x1.toNatClampNeg))), (0, .ref 18), (1, .int x1), (2, .int x2)]) d_M_read_68 rfl (am_ltb rfl) rfl ?_
          refine g_lconst (n := 71) (v := 0) d_M_read_70 rfl (by decide) ?_
          refine g_lstore (n := 73) (ls' := [(5, .long 0), (4, .int (r13 - (ps x1.toNatClampNeg))), (3, .int (r13 - (ps x1.toNatClampNeg))), (0, .ref 18), (1, .int x1), (2, .int x2)]) d_M_read_71 rfl (am_ltb rfl) rfl ?_
          refine g_iconst (n := 74) (v := 0) d_M_read_73 rfl (by decide) ?_
          refine g_istore (n := 76) (ls' := [(7, .int 0), (5, .long 0), (4, .int (r13 - (ps x1.toNatClampNeg))), (3, .int (r13 - (ps x1.toNatClampNeg))), (0, .ref 18), (1, .int x1), (2, .int x2)]) d_M_read_74 rfl (am_ltb rfl) rfl ?_
          refine g_ls [4, 5, 2, 1, 0] rfl ?_
          exact s_M_read_L76 htr 100000000000 on r1.2.1 dk op 0 sp ps x1 (r13 - (ps x1.toNatClampNeg)) 0 0 _ hf _ rfl
        · have hf := ob_neg q16 hf
          refine g_iload_n (n := 64) d_M_read_63 rfl 3 rfl rfl ?_
          refine g_goto (n := 68) d_M_read_64 (by decide) ?_
          refine g_istore (n := 70) (ls' := [(4, .int x2), (3, .int (r13 - (ps x1.toNatClampNeg))), (0, .ref 18), (1, .int x1), (2, .int x2)]) d_M_read_68 rfl (am_ltb rfl) rfl ?_
          refine g_lconst (n := 71) (v := 0) d_M_read_70 rfl (by decide) ?_
          refine g_lstore (n := 73) (ls' := [(5, .long 0), (4, .int x2), (3, .int (r13 - (ps x1.toNatClampNeg))), (0, .ref 18), (1, .int x1), (2, .int x2)]) d_M_read_71 rfl (am_ltb rfl) rfl ?_
          refine g_iconst (n := 74) (v := 0) d_M_read_73 rfl (by decide) ?_
          refine g_istore (n := 76) (ls' := [(7, .int 0), (5, .long 0), (4, .int x2), (3, .int (r13 - (ps x1.toNatClampNeg))), (0, .ref 18), (1, .int x1), (2, .int x2)]) d_M_read_74 rfl (am_ltb rfl) rfl ?_
          refine g_ls [4, 5, 2, 1, 0] rfl ?_
          exact s_M_read_L76 htr 100000000000 on r1.2.1 dk op 0 sp ps x1 x2 0 0 _ hf _ rfl
  · have hf := ob_pos q3 hf
    refine g_lconst (n := 8) (v := 0) d_M_read_7 rfl (by decide) ?_
    cases hf
    exact g_lret d_M_read_8 rfl (Nat.zero_le _) (Nat.zero_le _)
def f_M_writeNumber (w : am_MS) (x1 : Int32) (x2 : Int32) : Option (am_MS) :=
  ((f_M_door w).bind fun r1 => (if r1.1 = 0 then some r1.2 else ((f_M_number r1.2.2.2.2.2.2.2.2.1 x1 x2).bind fun r4 => some (r1.2.1, r1.2.2.1, r1.2.2.2.1, r1.2.2.2.2.1, r1.2.2.2.2.2.1, r1.2.2.2.2.2.2.1, r1.2.2.2.2.2.2.2.1, r4, r1.2.2.2.2.2.2.2.2.2))))
set_option maxHeartbeats 4000000 in
set_option maxRecDepth 100000 in
theorem s_M_writeNumber {l : Launch} {D : va_G} {dA : FieldType → ClassId} (htr : l.stackTraces = false) {hx : Nat → am_E} {rest : List am_E} {th : Int32} {sp : Int32} {mp : Int32} {mf : Int32} {ml : Nat → Int32} {ps : Nat → Int32} {nm : Nat → Int32} {mu : Nat → Int32} {ch : Nat → Int32} {wy : Nat → Int32} {nx : Nat → Int32} {w : am_MS} {x1 : Int32} {x2 : Int32} {r : am_MS} (hf : f_M_writeNumber w x1 x2 = some r) {o : am_O} (ho : .inl none = o) :
    am_M (am_kk l D dA) y_M_writeNumber ws_M_writeNumber (am_rm 2 o) [.ref 18, .int x1, .int x2] (hM hx w.1 w.2.1 w.2.2.1 w.2.2.2.1 w.2.2.2.2.1 w.2.2.2.2.2.1 w.2.2.2.2.2.2.1 w.2.2.2.2.2.2.2.1 w.2.2.2.2.2.2.2.2 th sp mp mf ml ps nm mu ch wy nx rest) o (hM hx r.1 r.2.1 r.2.2.1 r.2.2.2.1 r.2.2.2.2.1 r.2.2.2.2.2.1 r.2.2.2.2.2.2.1 r.2.2.2.2.2.2.2.1 r.2.2.2.2.2.2.2.2 th sp mp mf ml ps nm mu ch wy nx rest) := by
  subst ho
  refine am_body (by decide) rfl (Nat.le_of_ble_eq_true rfl) rfl ?_
  rw [f_M_writeNumber] at hf
  refine g_aload_n (n := 1) d_M_writeNumber_0 rfl 0 rfl rfl ?_
  obtain ⟨r1, h2, hf⟩ := ob_bind hf
  refine c_Vr (n := 4) (st' := [.int r1.1]) [] [] d_M_writeNumber_1 rfl (s_M_door htr h2 rfl) tw_1025 tw_1027 (am_memS 31 (by decide +kernel) (by decide +kernel)) tw_8 tw_1028 hd_M_door (by omega) (by decide) (ci := 7) rfl rfl rfl (Nat.le_of_ble_eq_true rfl) rfl rfl ?_
  refine g_if_eq (n := 7) (tgt := 13) d_M_writeNumber_4 rfl (by decide) (fun q3 => ?_) (fun q3 => ?_)
  · have hf := ob_pos q3 hf
    cases hf
    exact g_vret d_M_writeNumber_13 rfl (Nat.zero_le _) (Nat.zero_le _)
  · have hf := ob_neg q3 hf
    refine g_aload_n (n := 8) d_M_writeNumber_7 rfl 0 rfl rfl ?_
    refine g_iload_n (n := 9) d_M_writeNumber_8 rfl 1 rfl rfl ?_
    refine g_iload_n (n := 10) d_M_writeNumber_9 rfl 2 rfl rfl ?_
    obtain ⟨r4, h5, hf⟩ := ob_bind hf
    refine c_Vr (n := 13) (st' := []) [.int x1, .int x2] [] d_M_writeNumber_10 rfl (s_M_number htr h5 rfl) tw_861 tw_863 (am_memS 11 (by decide +kernel) (by decide +kernel)) tw_8 tw_864 hd_M_number (by omega) (by decide) (ci := 7) rfl rfl rfl (Nat.le_of_ble_eq_true rfl) rfl rfl ?_
    cases hf
    exact g_vret d_M_writeNumber_13 rfl (Nat.zero_le _) (Nat.zero_le _)
def f_M_fill_L3 : Nat → am_MS → Int32 → Int32 → Int32 → Int64 → Int32 → Int32 → Option (am_MS)
  | 0, _, _, _, _, _, _, _ => none
  | fuel + 1, w, x1, x2, x3, x4, x6, x7 =>
  (if (x2 + x3) ≤ x7 then some w else (if x7 ≤ x2 then ((f_M_door w).bind fun r3 => (if r3.1 = 0 then f_M_fill_L3 fuel r3.2 x1 x2 x3 x4 x6 (x7 + 1) else ((f_M_numberAt r3.2.2.2.2.2.2.2.2.1 (x1 + 8)).bind fun r6 => ((f_M_cluster r3.2.2.2.2.2.2.2.2.1 r6 (x7 / 32)).bind fun r8 => (if am_in ((32 * (r8 + 6)) + (x7 - x7 / 32 * 32)) 2240 = true then f_M_fill_L3 fuel (r3.2.1, r3.2.2.1, r3.2.2.2.1, r3.2.2.2.2.1, r3.2.2.2.2.2.1, r3.2.2.2.2.2.2.1, r3.2.2.2.2.2.2.2.1, (upd r3.2.2.2.2.2.2.2.2.1 ((32 * (r8 + 6)) + (x7 - x7 / 32 * 32)).toNatClampNeg (((x4 >>> ((8 * (((x6 - 1) - x7) + x2)).toInt64 &&& 63)) &&& 255).toInt32)), r3.2.2.2.2.2.2.2.2.2) x1 x2 x3 x4 x6 (x7 + 1) else none))))) else (if (x7 - x7 / 32 * 32) = 0 then ((f_M_door w).bind fun r12 => (if r12.1 = 0 then f_M_fill_L3 fuel r12.2 x1 x2 x3 x4 x6 (x7 + 1) else ((f_M_numberAt r12.2.2.2.2.2.2.2.2.1 (x1 + 8)).bind fun r15 => ((f_M_cluster r12.2.2.2.2.2.2.2.2.1 r15 (x7 / 32)).bind fun r17 => (if am_in ((32 * (r17 + 6)) + (x7 - x7 / 32 * 32)) 2240 = true then f_M_fill_L3 fuel (r12.2.1, r12.2.2.1, r12.2.2.2.1, r12.2.2.2.2.1, r12.2.2.2.2.2.1, r12.2.2.2.2.2.2.1, r12.2.2.2.2.2.2.2.1, (upd r12.2.2.2.2.2.2.2.2.1 ((32 * (r17 + 6)) + (x7 - x7 / 32 * 32)).toNatClampNeg (((x4 >>> ((8 * (((x6 - 1) - x7) + x2)).toInt64 &&& 63)) &&& 255).toInt32)), r12.2.2.2.2.2.2.2.2.2) x1 x2 x3 x4 x6 (x7 + 1) else none))))) else (if w.2.1 = 0 then ((f_M_numberAt w.2.2.2.2.2.2.2.1 (x1 + 8)).bind fun r23 => ((f_M_cluster w.2.2.2.2.2.2.2.1 r23 (x7 / 32)).bind fun r25 => (if am_in ((32 * (r25 + 6)) + (x7 - x7 / 32 * 32)) 2240 = true then f_M_fill_L3 fuel (w.1, w.2.1, w.2.2.1, w.2.2.2.1, w.2.2.2.2.1, w.2.2.2.2.2.1, w.2.2.2.2.2.2.1, (upd w.2.2.2.2.2.2.2.1 ((32 * (r25 + 6)) + (x7 - x7 / 32 * 32)).toNatClampNeg (((x4 >>> ((8 * (((x6 - 1) - x7) + x2)).toInt64 &&& 63)) &&& 255).toInt32)), w.2.2.2.2.2.2.2.2) x1 x2 x3 x4 x6 (x7 + 1) else none))) else f_M_fill_L3 fuel w x1 x2 x3 x4 x6 (x7 + 1)))))
set_option maxHeartbeats 4000000 in
set_option maxRecDepth 100000 in
theorem s_M_fill_L3 {l : Launch} {D : va_G} {dA : FieldType → ClassId} (htr : l.stackTraces = false) {hx : Nat → am_E} {rest : List am_E} {th : Int32} {sp : Int32} {mp : Int32} {mf : Int32} {ml : Nat → Int32} {ps : Nat → Int32} {nm : Nat → Int32} {mu : Nat → Int32} {ch : Nat → Int32} {wy : Nat → Int32} {nx : Nat → Int32}  : ∀ (fuel : Nat) (w : am_MS) (x1 : Int32) (x2 : Int32) (x3 : Int32) (x4 : Int64) (x6 : Int32) (x7 : Int32) (r : am_MS), f_M_fill_L3 fuel w x1 x2 x3 x4 x6 x7 = some r → ∀ o : am_O, .inl none = o →
    am_G (am_kk l D dA) (ws_M_fill, y_M_fill.cls, prog_9_method_49_code, 9, none, y_M_fill.name, [], am_rm 3 (o), none) o (hM hx r.1 r.2.1 r.2.2.1 r.2.2.2.1 r.2.2.2.2.1 r.2.2.2.2.2.1 r.2.2.2.2.2.2.1 r.2.2.2.2.2.2.2.1 r.2.2.2.2.2.2.2.2 th sp mp mf ml ps nm mu ch wy nx rest) 0 0 3 [(0, .ref 18), (1, .int x1), (2, .int x2), (3, .int x3), (4, .long x4), (6, .int x6), (7, .int x7)] [] (hM hx w.1 w.2.1 w.2.2.1 w.2.2.2.1 w.2.2.2.2.1 w.2.2.2.2.2.1 w.2.2.2.2.2.2.1 w.2.2.2.2.2.2.2.1 w.2.2.2.2.2.2.2.2 th sp mp mf ml ps nm mu ch wy nx rest) := by
  intro fuel
  induction fuel with
  | zero =>
    intro w x1 x2 x3 x4 x6 x7 r hf
    cases hf
  | succ fuel ih =>
    intro w x1 x2 x3 x4 x6 x7 r hf o ho
    subst ho
    rw [f_M_fill_L3] at hf
    refine g_iload (n := 5) d_M_fill_3 rfl 6 rfl ?_
    refine g_iload_n (n := 6) d_M_fill_5 rfl 2 rfl rfl ?_
    refine g_iload_n (n := 7) d_M_fill_6 rfl 3 rfl rfl ?_
    refine g_iadd (n := 8) d_M_fill_7 rfl ?_
    refine g_icmp_ge (n := 11) (tgt := 111) d_M_fill_8 rfl (by decide) (fun q1 => ?_) (fun q1 => ?_)
    · have hf := ob_pos q1 hf
      cases hf
      exact g_vret d_M_fill_111 rfl (Nat.zero_le _) (Nat.zero_le _)
    · have hf := ob_neg q1 hf
      refine g_iload (n := 13) d_M_fill_11 rfl 6 rfl ?_
      refine g_iload_n (n := 14) d_M_fill_13 rfl 2 rfl rfl ?_
      refine g_icmp_le (n := 17) (tgt := 40) d_M_fill_14 rfl (by decide) (fun q2 => ?_) (fun q2 => ?_)
      · have hf := ob_pos q2 hf
        refine g_aload_n (n := 41) d_M_fill_40 rfl 0 rfl rfl ?_
        obtain ⟨r3, h4, hf⟩ := ob_bind hf
        refine c_Vr (n := 44) (st' := [.int r3.1]) [] [] d_M_fill_41 rfl (s_M_door htr h4 rfl) tw_1025 tw_1027 (am_memS 31 (by decide +kernel) (by decide +kernel)) tw_8 tw_1028 hd_M_door (by omega) (by decide) (ci := 7) rfl rfl rfl (Nat.le_of_ble_eq_true rfl) rfl rfl ?_
        refine g_istore (n := 46) (ls' := [(8, .int r3.1), (0, .ref 18), (1, .int x1), (2, .int x2), (3, .int x3), (4, .long x4), (6, .int x6), (7, .int x7)]) d_M_fill_44 rfl (am_ltb rfl) rfl ?_
        refine g_iload (n := 48) d_M_fill_46 rfl 0 rfl ?_
        refine g_if_eq (n := 51) (tgt := 105) d_M_fill_48 rfl (by decide) (fun q5 => ?_) (fun q5 => ?_)
        · have hf := ob_pos q5 hf
          refine g_iinc (n := 108) (v := (x7 + 1)) (ls' := [(7, .int (x7 + 1)), (8, .int r3.1), (0, .ref 18), (1, .int x1), (2, .int x2), (3, .int x3), (4, .long x4), (6, .int x6)]) d_M_fill_105 rfl 7 rfl rfl (am_ltb rfl) rfl ?_
          refine g_goto (n := 3) d_M_fill_108 (by decide) ?_
          refine g_ls [2, 3, 4, 5, 6, 7, 0] rfl ?_
          exact ih r3.2 x1 x2 x3 x4 x6 (x7 + 1) _ hf _ rfl
        · have hf := ob_neg q5 hf
          refine g_aload_n (n := 52) d_M_fill_51 rfl 1 rfl rfl ?_
          refine g_get (n := 55) (q0 := 18) d_M_fill_52 rfl (am_fl in_M rfl (by decide : 1 < 20)) (List.mem_cons_of_mem _ tw_866) rfl rfl ?_
          refine g_bipush (n := 57) (v := 32) d_M_fill_55 rfl (by decide) ?_
          refine g_aload_n (n := 58) d_M_fill_57 rfl 1 rfl rfl ?_
          refine g_aload_n (n := 59) d_M_fill_58 rfl 1 rfl rfl ?_
          refine g_iload_n (n := 60) d_M_fill_59 rfl 2 rfl rfl ?_
          refine g_bipush (n := 62) (v := 8) d_M_fill_60 rfl (by decide) ?_
          refine g_iadd (n := 63) d_M_fill_62 rfl ?_
          obtain ⟨r6, h7, hf⟩ := ob_bind hf
          refine c_Vr (n := 66) (st' := [.int r6, .ref 18, .int 32, .ref 19]) [.int (x1 + 8)] [.ref 18, .int 32, .ref 19] d_M_fill_63 rfl (s_M_numberAt htr h7 rfl) tw_957 tw_959 (am_memS 17 (by decide +kernel) (by decide +kernel)) tw_8 tw_960 hd_M_numberAt (by omega) (by decide) (ci := 7) rfl rfl rfl (Nat.le_of_ble_eq_true rfl) rfl rfl ?_
          refine g_iload (n := 68) d_M_fill_66 rfl 7 rfl ?_
          refine g_bipush (n := 70) (v := 32) d_M_fill_68 rfl (by decide) ?_
          refine g_idiv (n := 71) d_M_fill_70 rfl (by decide) ?_
          obtain ⟨r8, h9, hf⟩ := ob_bind hf
          refine c_Vr (n := 74) (st' := [.int r8, .int 32, .ref 19]) [.int r6, .int (x7 / 32)] [.int 32, .ref 19] d_M_fill_71 rfl (s_M_cluster htr h9 rfl) tw_949 tw_951 (am_memS 15 (by decide +kernel) (by decide +kernel)) tw_8 tw_952 hd_M_cluster (by omega) (by decide) (ci := 7) rfl rfl rfl (Nat.le_of_ble_eq_true rfl) rfl rfl ?_
          refine g_bipush (n := 76) (v := 6) d_M_fill_74 rfl (by decide) ?_
          refine g_iadd (n := 77) d_M_fill_76 rfl ?_
          refine g_imul (n := 78) d_M_fill_77 rfl ?_
          refine g_iload (n := 80) d_M_fill_78 rfl 7 rfl ?_
          refine g_bipush (n := 82) (v := 32) d_M_fill_80 rfl (by decide) ?_
          refine g_irem (n := 83) d_M_fill_82 rfl (by decide) ?_
          refine g_iadd (n := 84) d_M_fill_83 rfl ?_
          refine g_lload (n := 86) d_M_fill_84 rfl 5 rfl ?_
          refine g_bipush (n := 88) (v := 8) d_M_fill_86 rfl (by decide) ?_
          refine g_iload (n := 90) d_M_fill_88 rfl 6 rfl ?_
          refine g_iconst (n := 91) (v := 1) d_M_fill_90 rfl (by decide) ?_
          refine g_isub (n := 92) d_M_fill_91 rfl ?_
          refine g_iload (n := 94) d_M_fill_92 rfl 7 rfl ?_
          refine g_isub (n := 95) d_M_fill_94 rfl ?_
          refine g_iload_n (n := 96) d_M_fill_95 rfl 3 rfl rfl ?_
          refine g_iadd (n := 97) d_M_fill_96 rfl ?_
          refine g_imul (n := 98) d_M_fill_97 rfl ?_
          refine g_lshr (n := 99) d_M_fill_98 rfl ?_
          refine g_ldc2 (n := 102) (v := 255) d_M_fill_99 rfl (List.mem_cons_of_mem _ tw_1106) ?_
          refine g_land (n := 103) d_M_fill_102 rfl ?_
          refine g_l2i (n := 104) d_M_fill_103 rfl ?_
          obtain ⟨b10, hf⟩ := ob_chk hf
          refine g_iast (n := 105) (q0 := 19) (h' := (hM hx r3.2.1 r3.2.2.1 r3.2.2.2.1 r3.2.2.2.2.1 r3.2.2.2.2.2.1 r3.2.2.2.2.2.2.1 r3.2.2.2.2.2.2.2.1 (upd r3.2.2.2.2.2.2.2.2.1 ((32 * (r8 + 6)) + (x7 - x7 / 32 * 32)).toNatClampNeg (((x4 >>> ((8 * (((x6 - 1) - x7) + x2)).toInt64 &&& 63)) &&& 255).toInt32)) r3.2.2.2.2.2.2.2.2.2 th sp mp mf ml ps nm mu ch wy nx rest)) d_M_fill_104 rfl rfl (am_inl b10) rfl ?_
          refine g_iinc (n := 108) (v := (x7 + 1)) (ls' := [(7, .int (x7 + 1)), (8, .int r3.1), (0, .ref 18), (1, .int x1), (2, .int x2), (3, .int x3), (4, .long x4), (6, .int x6)]) d_M_fill_105 rfl 7 rfl rfl (am_ltb rfl) rfl ?_
          refine g_goto (n := 3) d_M_fill_108 (by decide) ?_
          refine g_ls [2, 3, 4, 5, 6, 7, 0] rfl ?_
          exact ih (r3.2.1, r3.2.2.1, r3.2.2.2.1, r3.2.2.2.2.1, r3.2.2.2.2.2.1, r3.2.2.2.2.2.2.1, r3.2.2.2.2.2.2.2.1, (upd r3.2.2.2.2.2.2.2.2.1 ((32 * (r8 + 6)) + (x7 - x7 / 32 * 32)).toNatClampNeg (((x4 >>> ((8 * (((x6 - 1) - x7) + x2)).toInt64 &&& 63)) &&& 255).toInt32)), r3.2.2.2.2.2.2.2.2.2) x1 x2 x3 x4 x6 (x7 + 1) _ hf _ rfl
      · have hf := ob_neg q2 hf
        refine g_iload (n := 19) d_M_fill_17 rfl 6 rfl ?_
        refine g_bipush (n := 21) (v := 32) d_M_fill_19 rfl (by decide) ?_
        refine g_irem (n := 22) d_M_fill_21 rfl (by decide) ?_
        refine g_if_eq (n := 25) (tgt := 40) d_M_fill_22 rfl (by decide) (fun q11 => ?_) (fun q11 => ?_)
        · have hf := ob_pos q11 hf
          refine g_aload_n (n := 41) d_M_fill_40 rfl 0 rfl rfl ?_
          obtain ⟨r12, h13, hf⟩ := ob_bind hf
          refine c_Vr (n := 44) (st' := [.int r12.1]) [] [] d_M_fill_41 rfl (s_M_door htr h13 rfl) tw_1025 tw_1027 (am_memS 31 (by decide +kernel) (by decide +kernel)) tw_8 tw_1028 hd_M_door (by omega) (by decide) (ci := 7) rfl rfl rfl (Nat.le_of_ble_eq_true rfl) rfl rfl ?_
          refine g_istore (n := 46) (ls' := [(8, .int r12.1), (0, .ref 18), (1, .int x1), (2, .int x2), (3, .int x3), (4, .long x4), (6, .int x6), (7, .int x7)]) d_M_fill_44 rfl (am_ltb rfl) rfl ?_
          refine g_iload (n := 48) d_M_fill_46 rfl 0 rfl ?_
          refine g_if_eq (n := 51) (tgt := 105) d_M_fill_48 rfl (by decide) (fun q14 => ?_) (fun q14 => ?_)
          · have hf := ob_pos q14 hf
            refine g_iinc (n := 108) (v := (x7 + 1)) (ls' := [(7, .int (x7 + 1)), (8, .int r12.1), (0, .ref 18), (1, .int x1), (2, .int x2), (3, .int x3), (4, .long x4), (6, .int x6)]) d_M_fill_105 rfl 7 rfl rfl (am_ltb rfl) rfl ?_
            refine g_goto (n := 3) d_M_fill_108 (by decide) ?_
            refine g_ls [2, 3, 4, 5, 6, 7, 0] rfl ?_
            exact ih r12.2 x1 x2 x3 x4 x6 (x7 + 1) _ hf _ rfl
          · have hf := ob_neg q14 hf
            refine g_aload_n (n := 52) d_M_fill_51 rfl 1 rfl rfl ?_
            refine g_get (n := 55) (q0 := 18) d_M_fill_52 rfl (am_fl in_M rfl (by decide : 1 < 20)) (List.mem_cons_of_mem _ tw_866) rfl rfl ?_
            refine g_bipush (n := 57) (v := 32) d_M_fill_55 rfl (by decide) ?_
            refine g_aload_n (n := 58) d_M_fill_57 rfl 1 rfl rfl ?_
            refine g_aload_n (n := 59) d_M_fill_58 rfl 1 rfl rfl ?_
            refine g_iload_n (n := 60) d_M_fill_59 rfl 2 rfl rfl ?_
            refine g_bipush (n := 62) (v := 8) d_M_fill_60 rfl (by decide) ?_
            refine g_iadd (n := 63) d_M_fill_62 rfl ?_
            obtain ⟨r15, h16, hf⟩ := ob_bind hf
            refine c_Vr (n := 66) (st' := [.int r15, .ref 18, .int 32, .ref 19]) [.int (x1 + 8)] [.ref 18, .int 32, .ref 19] d_M_fill_63 rfl (s_M_numberAt htr h16 rfl) tw_957 tw_959 (am_memS 17 (by decide +kernel) (by decide +kernel)) tw_8 tw_960 hd_M_numberAt (by omega) (by decide) (ci := 7) rfl rfl rfl (Nat.le_of_ble_eq_true rfl) rfl rfl ?_
            refine g_iload (n := 68) d_M_fill_66 rfl 7 rfl ?_
            refine g_bipush (n := 70) (v := 32) d_M_fill_68 rfl (by decide) ?_
            refine g_idiv (n := 71) d_M_fill_70 rfl (by decide) ?_
            obtain ⟨r17, h18, hf⟩ := ob_bind hf
            refine c_Vr (n := 74) (st' := [.int r17, .int 32, .ref 19]) [.int r15, .int (x7 / 32)] [.int 32, .ref 19] d_M_fill_71 rfl (s_M_cluster htr h18 rfl) tw_949 tw_951 (am_memS 15 (by decide +kernel) (by decide +kernel)) tw_8 tw_952 hd_M_cluster (by omega) (by decide) (ci := 7) rfl rfl rfl (Nat.le_of_ble_eq_true rfl) rfl rfl ?_
            refine g_bipush (n := 76) (v := 6) d_M_fill_74 rfl (by decide) ?_
            refine g_iadd (n := 77) d_M_fill_76 rfl ?_
            refine g_imul (n := 78) d_M_fill_77 rfl ?_
            refine g_iload (n := 80) d_M_fill_78 rfl 7 rfl ?_
            refine g_bipush (n := 82) (v := 32) d_M_fill_80 rfl (by decide) ?_
            refine g_irem (n := 83) d_M_fill_82 rfl (by decide) ?_
            refine g_iadd (n := 84) d_M_fill_83 rfl ?_
            refine g_lload (n := 86) d_M_fill_84 rfl 5 rfl ?_
            refine g_bipush (n := 88) (v := 8) d_M_fill_86 rfl (by decide) ?_
            refine g_iload (n := 90) d_M_fill_88 rfl 6 rfl ?_
            refine g_iconst (n := 91) (v := 1) d_M_fill_90 rfl (by decide) ?_
            refine g_isub (n := 92) d_M_fill_91 rfl ?_
            refine g_iload (n := 94) d_M_fill_92 rfl 7 rfl ?_
            refine g_isub (n := 95) d_M_fill_94 rfl ?_
            refine g_iload_n (n := 96) d_M_fill_95 rfl 3 rfl rfl ?_
            refine g_iadd (n := 97) d_M_fill_96 rfl ?_
            refine g_imul (n := 98) d_M_fill_97 rfl ?_
            refine g_lshr (n := 99) d_M_fill_98 rfl ?_
            refine g_ldc2 (n := 102) (v := 255) d_M_fill_99 rfl (List.mem_cons_of_mem _ tw_1106) ?_
            refine g_land (n := 103) d_M_fill_102 rfl ?_
            refine g_l2i (n := 104) d_M_fill_103 rfl ?_
            obtain ⟨b19, hf⟩ := ob_chk hf
            refine g_iast (n := 105) (q0 := 19) (h' := (hM hx r12.2.1 r12.2.2.1 r12.2.2.2.1 r12.2.2.2.2.1 r12.2.2.2.2.2.1 r12.2.2.2.2.2.2.1 r12.2.2.2.2.2.2.2.1 (upd r12.2.2.2.2.2.2.2.2.1 ((32 * (r17 + 6)) + (x7 - x7 / 32 * 32)).toNatClampNeg (((x4 >>> ((8 * (((x6 - 1) - x7) + x2)).toInt64 &&& 63)) &&& 255).toInt32)) r12.2.2.2.2.2.2.2.2.2 th sp mp mf ml ps nm mu ch wy nx rest)) d_M_fill_104 rfl rfl (am_inl b19) rfl ?_
            refine g_iinc (n := 108) (v := (x7 + 1)) (ls' := [(7, .int (x7 + 1)), (8, .int r12.1), (0, .ref 18), (1, .int x1), (2, .int x2), (3, .int x3), (4, .long x4), (6, .int x6)]) d_M_fill_105 rfl 7 rfl rfl (am_ltb rfl) rfl ?_
            refine g_goto (n := 3) d_M_fill_108 (by decide) ?_
            refine g_ls [2, 3, 4, 5, 6, 7, 0] rfl ?_
            exact ih (r12.2.1, r12.2.2.1, r12.2.2.2.1, r12.2.2.2.2.1, r12.2.2.2.2.2.1, r12.2.2.2.2.2.2.1, r12.2.2.2.2.2.2.2.1, (upd r12.2.2.2.2.2.2.2.2.1 ((32 * (r17 + 6)) + (x7 - x7 / 32 * 32)).toNatClampNeg (((x4 >>> ((8 * (((x6 - 1) - x7) + x2)).toInt64 &&& 63)) &&& 255).toInt32)), r12.2.2.2.2.2.2.2.2.2) x1 x2 x3 x4 x6 (x7 + 1) _ hf _ rfl
        · have hf := ob_neg q11 hf
          refine g_aload_n (n := 26) d_M_fill_25 rfl 0 rfl rfl ?_
          refine g_get (n := 29) (q0 := 18) d_M_fill_26 rfl (am_fl in_M rfl (by decide : 4 < 20)) (List.mem_cons_of_mem _ tw_869) rfl rfl ?_
          refine g_if_ne (n := 32) (tgt := 36) d_M_fill_29 rfl (by decide) (fun q20 => ?_) (fun q20 => ?_)
          · have hf := ob_neg q20 hf
            refine g_iconst (n := 37) (v := 0) d_M_fill_36 rfl (by decide) ?_
            refine g_goto (n := 44) d_M_fill_37 (by decide) ?_
            refine g_istore (n := 46) (ls' := [(8, .int 0), (0, .ref 18), (1, .int x1), (2, .int x2), (3, .int x3), (4, .long x4), (6, .int x6), (7, .int x7)]) d_M_fill_44 rfl (am_ltb rfl) rfl ?_
            refine g_iload (n := 48) d_M_fill_46 rfl 0 rfl ?_
            refine g_if_eq (n := 51) (tgt := 105) d_M_fill_48 rfl (by decide) (fun _ => ?_) (fun q21 => absurd q21 (by decide))
            refine g_iinc (n := 108) (v := (x7 + 1)) (ls' := [(7, .int (x7 + 1)), (8, .int 0), (0, .ref 18), (1, .int x1), (2, .int x2), (3, .int x3), (4, .long x4), (6, .int x6)]) d_M_fill_105 rfl 7 rfl rfl (am_ltb rfl) rfl ?_
            refine g_goto (n := 3) d_M_fill_108 (by decide) ?_
            refine g_ls [2, 3, 4, 5, 6, 7, 0] rfl ?_
            exact ih w x1 x2 x3 x4 x6 (x7 + 1) _ hf _ rfl
          · have hf := ob_pos q20 hf
            refine g_iconst (n := 33) (v := 1) d_M_fill_32 rfl (by decide) ?_
            refine g_goto (n := 44) d_M_fill_33 (by decide) ?_
            refine g_istore (n := 46) (ls' := [(8, .int 1), (0, .ref 18), (1, .int x1), (2, .int x2), (3, .int x3), (4, .long x4), (6, .int x6), (7, .int x7)]) d_M_fill_44 rfl (am_ltb rfl) rfl ?_
            refine g_iload (n := 48) d_M_fill_46 rfl 0 rfl ?_
            refine g_if_eq (n := 51) (tgt := 105) d_M_fill_48 rfl (by decide) (fun q22 => absurd q22 (by decide)) (fun _ => ?_)
            refine g_aload_n (n := 52) d_M_fill_51 rfl 1 rfl rfl ?_
            refine g_get (n := 55) (q0 := 18) d_M_fill_52 rfl (am_fl in_M rfl (by decide : 1 < 20)) (List.mem_cons_of_mem _ tw_866) rfl rfl ?_
            refine g_bipush (n := 57) (v := 32) d_M_fill_55 rfl (by decide) ?_
            refine g_aload_n (n := 58) d_M_fill_57 rfl 1 rfl rfl ?_
            refine g_aload_n (n := 59) d_M_fill_58 rfl 1 rfl rfl ?_
            refine g_iload_n (n := 60) d_M_fill_59 rfl 2 rfl rfl ?_
            refine g_bipush (n := 62) (v := 8) d_M_fill_60 rfl (by decide) ?_
            refine g_iadd (n := 63) d_M_fill_62 rfl ?_
            obtain ⟨r23, h24, hf⟩ := ob_bind hf
            refine c_Vr (n := 66) (st' := [.int r23, .ref 18, .int 32, .ref 19]) [.int (x1 + 8)] [.ref 18, .int 32, .ref 19] d_M_fill_63 rfl (s_M_numberAt htr h24 rfl) tw_957 tw_959 (am_memS 17 (by decide +kernel) (by decide +kernel)) tw_8 tw_960 hd_M_numberAt (by omega) (by decide) (ci := 7) rfl rfl rfl (Nat.le_of_ble_eq_true rfl) rfl rfl ?_
            refine g_iload (n := 68) d_M_fill_66 rfl 7 rfl ?_
            refine g_bipush (n := 70) (v := 32) d_M_fill_68 rfl (by decide) ?_
            refine g_idiv (n := 71) d_M_fill_70 rfl (by decide) ?_
            obtain ⟨r25, h26, hf⟩ := ob_bind hf
            refine c_Vr (n := 74) (st' := [.int r25, .int 32, .ref 19]) [.int r23, .int (x7 / 32)] [.int 32, .ref 19] d_M_fill_71 rfl (s_M_cluster htr h26 rfl) tw_949 tw_951 (am_memS 15 (by decide +kernel) (by decide +kernel)) tw_8 tw_952 hd_M_cluster (by omega) (by decide) (ci := 7) rfl rfl rfl (Nat.le_of_ble_eq_true rfl) rfl rfl ?_
            refine g_bipush (n := 76) (v := 6) d_M_fill_74 rfl (by decide) ?_
            refine g_iadd (n := 77) d_M_fill_76 rfl ?_
            refine g_imul (n := 78) d_M_fill_77 rfl ?_
            refine g_iload (n := 80) d_M_fill_78 rfl 7 rfl ?_
            refine g_bipush (n := 82) (v := 32) d_M_fill_80 rfl (by decide) ?_
            refine g_irem (n := 83) d_M_fill_82 rfl (by decide) ?_
            refine g_iadd (n := 84) d_M_fill_83 rfl ?_
            refine g_lload (n := 86) d_M_fill_84 rfl 5 rfl ?_
            refine g_bipush (n := 88) (v := 8) d_M_fill_86 rfl (by decide) ?_
            refine g_iload (n := 90) d_M_fill_88 rfl 6 rfl ?_
            refine g_iconst (n := 91) (v := 1) d_M_fill_90 rfl (by decide) ?_
            refine g_isub (n := 92) d_M_fill_91 rfl ?_
            refine g_iload (n := 94) d_M_fill_92 rfl 7 rfl ?_
            refine g_isub (n := 95) d_M_fill_94 rfl ?_
            refine g_iload_n (n := 96) d_M_fill_95 rfl 3 rfl rfl ?_
            refine g_iadd (n := 97) d_M_fill_96 rfl ?_
            refine g_imul (n := 98) d_M_fill_97 rfl ?_
            refine g_lshr (n := 99) d_M_fill_98 rfl ?_
            refine g_ldc2 (n := 102) (v := 255) d_M_fill_99 rfl (List.mem_cons_of_mem _ tw_1106) ?_
            refine g_land (n := 103) d_M_fill_102 rfl ?_
            refine g_l2i (n := 104) d_M_fill_103 rfl ?_
            obtain ⟨b27, hf⟩ := ob_chk hf
            refine g_iast (n := 105) (q0 := 19) (h' := (hM hx w.1 w.2.1 w.2.2.1 w.2.2.2.1 w.2.2.2.2.1 w.2.2.2.2.2.1 w.2.2.2.2.2.2.1 (upd w.2.2.2.2.2.2.2.1 ((32 * (r25 + 6)) + (x7 - x7 / 32 * 32)).toNatClampNeg (((x4 >>> ((8 * (((x6 - 1) - x7) + x2)).toInt64 &&& 63)) &&& 255).toInt32)) w.2.2.2.2.2.2.2.2 th sp mp mf ml ps nm mu ch wy nx rest)) d_M_fill_104 rfl rfl (am_inl b27) rfl ?_
            refine g_iinc (n := 108) (v := (x7 + 1)) (ls' := [(7, .int (x7 + 1)), (8, .int 1), (0, .ref 18), (1, .int x1), (2, .int x2), (3, .int x3), (4, .long x4), (6, .int x6)]) d_M_fill_105 rfl 7 rfl rfl (am_ltb rfl) rfl ?_
            refine g_goto (n := 3) d_M_fill_108 (by decide) ?_
            refine g_ls [2, 3, 4, 5, 6, 7, 0] rfl ?_
            exact ih (w.1, w.2.1, w.2.2.1, w.2.2.2.1, w.2.2.2.2.1, w.2.2.2.2.2.1, w.2.2.2.2.2.2.1, (upd w.2.2.2.2.2.2.2.1 ((32 * (r25 + 6)) + (x7 - x7 / 32 * 32)).toNatClampNeg (((x4 >>> ((8 * (((x6 - 1) - x7) + x2)).toInt64 &&& 63)) &&& 255).toInt32)), w.2.2.2.2.2.2.2.2) x1 x2 x3 x4 x6 (x7 + 1) _ hf _ rfl
def f_M_fill (w : am_MS) (x1 : Int32) (x2 : Int32) (x3 : Int32) (x4 : Int64) (x6 : Int32) : Option (am_MS) :=
  f_M_fill_L3 100000000000 w x1 x2 x3 x4 x6 x2
set_option maxHeartbeats 4000000 in
set_option maxRecDepth 100000 in
theorem s_M_fill {l : Launch} {D : va_G} {dA : FieldType → ClassId} (htr : l.stackTraces = false) {hx : Nat → am_E} {rest : List am_E} {th : Int32} {sp : Int32} {mp : Int32} {mf : Int32} {ml : Nat → Int32} {ps : Nat → Int32} {nm : Nat → Int32} {mu : Nat → Int32} {ch : Nat → Int32} {wy : Nat → Int32} {nx : Nat → Int32} {w : am_MS} {x1 : Int32} {x2 : Int32} {x3 : Int32} {x4 : Int64} {x6 : Int32} {r : am_MS} (hf : f_M_fill w x1 x2 x3 x4 x6 = some r) {o : am_O} (ho : .inl none = o) :
    am_M (am_kk l D dA) y_M_fill ws_M_fill (am_rm 3 o) [.ref 18, .int x1, .int x2, .int x3, .long x4, .int x6] (hM hx w.1 w.2.1 w.2.2.1 w.2.2.2.1 w.2.2.2.2.1 w.2.2.2.2.2.1 w.2.2.2.2.2.2.1 w.2.2.2.2.2.2.2.1 w.2.2.2.2.2.2.2.2 th sp mp mf ml ps nm mu ch wy nx rest) o (hM hx r.1 r.2.1 r.2.2.1 r.2.2.2.1 r.2.2.2.2.1 r.2.2.2.2.2.1 r.2.2.2.2.2.2.1 r.2.2.2.2.2.2.2.1 r.2.2.2.2.2.2.2.2 th sp mp mf ml ps nm mu ch wy nx rest) := by
  subst ho
  refine am_body (by decide) rfl (Nat.le_of_ble_eq_true rfl) rfl ?_
  rw [f_M_fill] at hf
  refine g_iload_n (n := 1) d_M_fill_0 rfl 2 rfl rfl ?_
  refine g_istore (n := 3) (ls' := [(7, .int x2), (0, .ref 18), (1, .int x1), (2, .int x2), (3, .int x3), (4, .long x4), (6, .int x6)]) d_M_fill_1 rfl (am_ltb rfl) rfl ?_
  refine g_ls [1, 2, 3, 4, 5, 6, 0] rfl ?_
  exact s_M_fill_L3 htr 100000000000 w x1 x2 x3 x4 x6 x2 _ hf _ rfl
def f_M_write_L99 : Nat → am_MS → Int32 → Int32 → (Nat → Int32) → Int32 → Int64 → Int32 → Int32 → Int32 → Int32 → Int32 → Option (Int32 × am_MS × Int32 × (Nat → Int32))
  | 0, _, _, _, _, _, _, _, _, _, _, _ => none
  | fuel + 1, w, th, sp, ps, x1, x2, x4, x5, x6, x7, x8 =>
  (if x8 = 0 then (if x4 ≤ ((32 * x7) - x6) then (if w.2.1 = 0 then (if 0 < x4 then ((f_M_fill w x5 x6 x4 x2 x4).bind fun r25 => ((f_M_numberAt r25.2.2.2.2.2.2.2.1 (x5 + 10)).bind fun r27 => (if (x6 + x4) ≤ r27 then (if r25.2.1 = 0 then (if am_in x1 4 = true then some (x4, r25, 0, (upd ps x1.toNatClampNeg (x6 + x4))) else none) else some (0, r25, 1, ps)) else ((f_M_writeNumber r25 (x5 + 10) (x6 + x4)).bind fun r34 => (if r34.2.1 = 0 then (if am_in x1 4 = true then some (x4, r34, 0, (upd ps x1.toNatClampNeg (x6 + x4))) else none) else some (0, r34, 1, ps)))))) else some (0, w, 3, ps)) else some (0, w, 1, ps)) else (if w.2.1 = 0 then (if 0 < ((32 * x7) - x6) then ((f_M_fill w x5 x6 ((32 * x7) - x6) x2 x4).bind fun r45 => ((f_M_numberAt r45.2.2.2.2.2.2.2.1 (x5 + 10)).bind fun r47 => (if (x6 + ((32 * x7) - x6)) ≤ r47 then (if r45.2.1 = 0 then (if am_in x1 4 = true then some (((32 * x7) - x6), r45, 0, (upd ps x1.toNatClampNeg (x6 + ((32 * x7) - x6)))) else none) else some (0, r45, 1, ps)) else ((f_M_writeNumber r45 (x5 + 10) (x6 + ((32 * x7) - x6))).bind fun r54 => (if r54.2.1 = 0 then (if am_in x1 4 = true then some (((32 * x7) - x6), r54, 0, (upd ps x1.toNatClampNeg (x6 + ((32 * x7) - x6)))) else none) else some (0, r54, 1, ps)))))) else some (0, w, 3, ps)) else some (0, w, 1, ps))) else (if (x6 + x4) ≤ (32 * x7) then (if x4 ≤ ((32 * x7) - x6) then (if w.2.1 = 0 then (if 0 < x4 then ((f_M_fill w x5 x6 x4 x2 x4).bind fun r67 => ((f_M_numberAt r67.2.2.2.2.2.2.2.1 (x5 + 10)).bind fun r69 => (if (x6 + x4) ≤ r69 then (if r67.2.1 = 0 then (if am_in x1 4 = true then some (x4, r67, 0, (upd ps x1.toNatClampNeg (x6 + x4))) else none) else some (0, r67, 1, ps)) else ((f_M_writeNumber r67 (x5 + 10) (x6 + x4)).bind fun r76 => (if r76.2.1 = 0 then (if am_in x1 4 = true then some (x4, r76, 0, (upd ps x1.toNatClampNeg (x6 + x4))) else none) else some (0, r76, 1, ps)))))) else some (0, w, 3, ps)) else some (0, w, 1, ps)) else (if w.2.1 = 0 then (if 0 < ((32 * x7) - x6) then ((f_M_fill w x5 x6 ((32 * x7) - x6) x2 x4).bind fun r87 => ((f_M_numberAt r87.2.2.2.2.2.2.2.1 (x5 + 10)).bind fun r89 => (if (x6 + ((32 * x7) - x6)) ≤ r89 then (if r87.2.1 = 0 then (if am_in x1 4 = true then some (((32 * x7) - x6), r87, 0, (upd ps x1.toNatClampNeg (x6 + ((32 * x7) - x6)))) else none) else some (0, r87, 1, ps)) else ((f_M_writeNumber r87 (x5 + 10) (x6 + ((32 * x7) - x6))).bind fun r96 => (if r96.2.1 = 0 then (if am_in x1 4 = true then some (((32 * x7) - x6), r96, 0, (upd ps x1.toNatClampNeg (x6 + ((32 * x7) - x6)))) else none) else some (0, r96, 1, ps)))))) else some (0, w, 3, ps)) else some (0, w, 1, ps))) else (if w.2.1 = 0 then ((f_M_take w).bind fun r110 => (if r110.1 ≤ 0 then f_M_write_L99 fuel r110.2 th sp ps x1 x2 x4 x5 x6 x7 0 else (if x7 = 0 then ((f_M_writeNumber r110.2 (x5 + 8) r110.1).bind fun r122 => f_M_write_L99 fuel r122 th sp ps x1 x2 x4 x5 x6 (x7 + 1) 1) else ((f_M_numberAt r110.2.2.2.2.2.2.2.2.1 (x5 + 8)).bind fun r116 => ((f_M_cluster r110.2.2.2.2.2.2.2.2.1 r116 (x7 - 1)).bind fun r118 => ((f_M_set r110.2 r118 r110.1).bind fun r120 => f_M_write_L99 fuel r120 th sp ps x1 x2 x4 x5 x6 (x7 + 1) 1)))))) else (if x4 ≤ ((32 * x7) - x6) then some (0, w, 1, ps) else some (0, w, 1, ps)))))
set_option maxHeartbeats 4000000 in
set_option maxRecDepth 100000 in
theorem s_M_write_L99 {l : Launch} {D : va_G} {dA : FieldType → ClassId} (htr : l.stackTraces = false) {hx : Nat → am_E} {rest : List am_E} {mp : Int32} {mf : Int32} {ml : Nat → Int32} {nm : Nat → Int32} {mu : Nat → Int32} {ch : Nat → Int32} {wy : Nat → Int32} {nx : Nat → Int32}  : ∀ (fuel : Nat) (w : am_MS) (th : Int32) (sp : Int32) (ps : Nat → Int32) (x1 : Int32) (x2 : Int64) (x4 : Int32) (x5 : Int32) (x6 : Int32) (x7 : Int32) (x8 : Int32) (r : Int32 × am_MS × Int32 × (Nat → Int32)), f_M_write_L99 fuel w th sp ps x1 x2 x4 x5 x6 x7 x8 = some r → ∀ o : am_O, .inl (some (.int r.1)) = o →
    am_G (am_kk l D dA) (ws_M_write, y_M_write.cls, prog_9_method_48_code, 10, (some .int), y_M_write.name, [], am_rm 4 (o), none) o (hM hx r.2.1.1 r.2.1.2.1 r.2.1.2.2.1 r.2.1.2.2.2.1 r.2.1.2.2.2.2.1 r.2.1.2.2.2.2.2.1 r.2.1.2.2.2.2.2.2.1 r.2.1.2.2.2.2.2.2.2.1 r.2.1.2.2.2.2.2.2.2.2 r.2.2.1 sp mp mf ml r.2.2.2 nm mu ch wy nx rest) 0 0 99 [(0, .ref 18), (1, .int x1), (2, .long x2), (4, .int x4), (5, .int x5), (6, .int x6), (7, .int x7), (8, .int x8)] [] (hM hx w.1 w.2.1 w.2.2.1 w.2.2.2.1 w.2.2.2.2.1 w.2.2.2.2.2.1 w.2.2.2.2.2.2.1 w.2.2.2.2.2.2.2.1 w.2.2.2.2.2.2.2.2 th sp mp mf ml ps nm mu ch wy nx rest) := by
  intro fuel
  induction fuel with
  | zero =>
    intro w th sp ps x1 x2 x4 x5 x6 x7 x8 r hf
    cases hf
  | succ fuel ih =>
    intro w th sp ps x1 x2 x4 x5 x6 x7 x8 r hf o ho
    subst ho
    rw [f_M_write_L99] at hf
    refine g_iload (n := 101) d_M_write_99 rfl 7 rfl ?_
    refine g_if_eq (n := 104) (tgt := 195) d_M_write_101 rfl (by decide) (fun q20 => ?_) (fun q20 => ?_)
    · have hf := ob_pos q20 hf
      refine g_bipush (n := 197) (v := 32) d_M_write_195 rfl (by decide) ?_
      refine g_iload (n := 199) d_M_write_197 rfl 6 rfl ?_
      refine g_imul (n := 200) d_M_write_199 rfl ?_
      refine g_iload (n := 202) d_M_write_200 rfl 5 rfl ?_
      refine g_isub (n := 203) d_M_write_202 rfl ?_
      refine g_iload (n := 205) d_M_write_203 rfl 3 rfl ?_
      refine g_icmp_ge (n := 208) (tgt := 219) d_M_write_205 rfl (by decide) (fun q21 => ?_) (fun q21 => ?_)
      · have hf := ob_pos q21 hf
        refine g_iload (n := 221) d_M_write_219 rfl 3 rfl ?_
        refine g_istore (n := 223) (ls' := [(9, .int x4), (0, .ref 18), (1, .int x1), (2, .long x2), (4, .int x4), (5, .int x5), (6, .int x6), (7, .int x7), (8, .int x8)]) d_M_write_221 rfl (am_ltb rfl) rfl ?_
        refine g_aload_n (n := 224) d_M_write_223 rfl 1 rfl rfl ?_
        refine g_aload_n (n := 225) d_M_write_224 rfl 1 rfl rfl ?_
        refine g_get (n := 228) (q0 := 18) d_M_write_225 rfl (am_fl in_M rfl (by decide : 4 < 20)) (List.mem_cons_of_mem _ tw_869) rfl rfl ?_
        refine g_if_eq (n := 231) (tgt := 235) d_M_write_228 rfl (by decide) (fun q22 => ?_) (fun q22 => ?_)
        · have hf := ob_pos q22 hf
          refine g_iload (n := 237) d_M_write_235 rfl 0 rfl ?_
          refine g_if_gt (n := 240) (tgt := 244) d_M_write_237 rfl (by decide) (fun q23 => ?_) (fun q23 => ?_)
          · have hf := ob_pos q23 hf
            refine g_iconst (n := 245) (v := 0) d_M_write_244 rfl (by decide) ?_
            refine g_put (n := 248) (q0 := 18) (h' := (hM hx w.1 w.2.1 w.2.2.1 w.2.2.2.1 w.2.2.2.2.1 w.2.2.2.2.2.1 w.2.2.2.2.2.2.1 w.2.2.2.2.2.2.2.1 w.2.2.2.2.2.2.2.2 0 sp mp mf ml ps nm mu ch wy nx rest)) d_M_write_245 rfl (am_fl in_M rfl (by decide : 0 < 20)) typ_M (List.mem_cons_of_mem _ tw_865) rfl (fun _ _ => rfl) (fun _ _ => rfl) rfl (am_ltb rfl) rfl ?_
            refine g_aload_n (n := 249) d_M_write_248 rfl 1 rfl rfl ?_
            refine g_get (n := 252) (q0 := 18) d_M_write_249 rfl (am_fl in_M rfl (by decide : 0 < 20)) (List.mem_cons_of_mem _ tw_865) rfl rfl ?_
            refine g_if_le (n := 255) (tgt := 257) d_M_write_252 rfl (by decide) (fun _ => ?_) (fun q24 => absurd q24 (by decide))
            refine g_aload_n (n := 258) d_M_write_257 rfl 1 rfl rfl ?_
            refine g_iload (n := 260) d_M_write_258 rfl 5 rfl ?_
            refine g_iload (n := 262) d_M_write_260 rfl 6 rfl ?_
            refine g_iload (n := 264) d_M_write_262 rfl 0 rfl ?_
            refine g_lload_n (n := 265) d_M_write_264 rfl 3 rfl rfl ?_
            refine g_iload (n := 267) d_M_write_265 rfl 4 rfl ?_
            obtain ⟨r25, h26, hf⟩ := ob_bind hf
            refine c_Vr (n := 270) (st' := []) [.int x5, .int x6, .int x4, .long x2, .int x4] [] d_M_write_267 rfl (s_M_fill htr h26 rfl) tw_1102 tw_1104 (am_memS 43 (by decide +kernel) (by decide +kernel)) tw_8 tw_1105 hd_M_fill (by omega) (by decide) (ci := 7) rfl rfl rfl (Nat.le_of_ble_eq_true rfl) rfl rfl ?_
            refine g_iload (n := 272) d_M_write_270 rfl 6 rfl ?_
            refine g_iload (n := 274) d_M_write_272 rfl 0 rfl ?_
            refine g_iadd (n := 275) d_M_write_274 rfl ?_
            refine g_aload_n (n := 276) d_M_write_275 rfl 1 rfl rfl ?_
            refine g_iload (n := 278) d_M_write_276 rfl 5 rfl ?_
            refine g_bipush (n := 280) (v := 10) d_M_write_278 rfl (by decide) ?_
            refine g_iadd (n := 281) d_M_write_280 rfl ?_
            obtain ⟨r27, h28, hf⟩ := ob_bind hf
            refine c_Vr (n := 284) (st' := [.int r27, .int (x6 + x4)]) [.int (x5 + 10)] [.int (x6 + x4)] d_M_write_281 rfl (s_M_numberAt htr h28 rfl) tw_957 tw_959 (am_memS 17 (by decide +kernel) (by decide +kernel)) tw_8 tw_960 hd_M_numberAt (by omega) (by decide) (ci := 7) rfl rfl rfl (Nat.le_of_ble_eq_true rfl) rfl rfl ?_
            refine g_icmp_le (n := 287) (tgt := 301) d_M_write_284 rfl (by decide) (fun q29 => ?_) (fun q29 => ?_)
            · have hf := ob_pos q29 hf
              refine g_aload_n (n := 302) d_M_write_301 rfl 1 rfl rfl ?_
              refine g_aload_n (n := 303) d_M_write_302 rfl 1 rfl rfl ?_
              refine g_get (n := 306) (q0 := 18) d_M_write_303 rfl (am_fl in_M rfl (by decide : 4 < 20)) (List.mem_cons_of_mem _ tw_869) rfl rfl ?_
              refine g_if_eq (n := 309) (tgt := 313) d_M_write_306 rfl (by decide) (fun q30 => ?_) (fun q30 => ?_)
              · have hf := ob_pos q30 hf
                refine g_iconst (n := 314) (v := 0) d_M_write_313 rfl (by decide) ?_
                refine g_put (n := 317) (q0 := 18) (h' := (hM hx r25.1 r25.2.1 r25.2.2.1 r25.2.2.2.1 r25.2.2.2.2.1 r25.2.2.2.2.2.1 r25.2.2.2.2.2.2.1 r25.2.2.2.2.2.2.2.1 r25.2.2.2.2.2.2.2.2 0 sp mp mf ml ps nm mu ch wy nx rest)) d_M_write_314 rfl (am_fl in_M rfl (by decide : 0 < 20)) typ_M (List.mem_cons_of_mem _ tw_865) rfl (fun _ _ => rfl) (fun _ _ => rfl) rfl (am_ltb rfl) rfl ?_
                refine g_aload_n (n := 318) d_M_write_317 rfl 1 rfl rfl ?_
                refine g_get (n := 321) (q0 := 18) d_M_write_318 rfl (am_fl in_M rfl (by decide : 4 < 20)) (List.mem_cons_of_mem _ tw_869) rfl rfl ?_
                refine g_if_eq (n := 324) (tgt := 326) d_M_write_321 rfl (by decide) (fun _ => ?_) (fun q31 => absurd q30 q31)
                refine g_aload_n (n := 327) d_M_write_326 rfl 1 rfl rfl ?_
                refine g_get (n := 330) (q0 := 18) d_M_write_327 rfl (am_fl in_M rfl (by decide : 12 < 20)) (List.mem_cons_of_mem _ tw_877) rfl rfl ?_
                refine g_iload_n (n := 331) d_M_write_330 rfl 2 rfl rfl ?_
                refine g_iload (n := 333) d_M_write_331 rfl 6 rfl ?_
                refine g_iload (n := 335) d_M_write_333 rfl 0 rfl ?_
                refine g_iadd (n := 336) d_M_write_335 rfl ?_
                obtain ⟨b32, hf⟩ := ob_chk hf
                refine g_iast (n := 337) (q0 := 22) (h' := (hM hx r25.1 r25.2.1 r25.2.2.1 r25.2.2.2.1 r25.2.2.2.2.1 r25.2.2.2.2.2.1 r25.2.2.2.2.2.2.1 r25.2.2.2.2.2.2.2.1 r25.2.2.2.2.2.2.2.2 0 sp mp mf ml (upd ps x1.toNatClampNeg (x6 + x4)) nm mu ch wy nx rest)) d_M_write_336 rfl rfl (am_inl b32) rfl ?_
                refine g_iload (n := 339) d_M_write_337 rfl 0 rfl ?_
                cases hf
                exact g_iret d_M_write_339 rfl (Nat.zero_le _) (Nat.zero_le _)
              · have hf := ob_neg q30 hf
                refine g_iconst (n := 310) (v := 1) d_M_write_309 rfl (by decide) ?_
                refine g_goto (n := 314) d_M_write_310 (by decide) ?_
                refine g_put (n := 317) (q0 := 18) (h' := (hM hx r25.1 r25.2.1 r25.2.2.1 r25.2.2.2.1 r25.2.2.2.2.1 r25.2.2.2.2.2.1 r25.2.2.2.2.2.2.1 r25.2.2.2.2.2.2.2.1 r25.2.2.2.2.2.2.2.2 1 sp mp mf ml ps nm mu ch wy nx rest)) d_M_write_314 rfl (am_fl in_M rfl (by decide : 0 < 20)) typ_M (List.mem_cons_of_mem _ tw_865) rfl (fun _ _ => rfl) (fun _ _ => rfl) rfl (am_ltb rfl) rfl ?_
                refine g_aload_n (n := 318) d_M_write_317 rfl 1 rfl rfl ?_
                refine g_get (n := 321) (q0 := 18) d_M_write_318 rfl (am_fl in_M rfl (by decide : 4 < 20)) (List.mem_cons_of_mem _ tw_869) rfl rfl ?_
                refine g_if_eq (n := 324) (tgt := 326) d_M_write_321 rfl (by decide) (fun q33 => absurd q33 q30) (fun _ => ?_)
                refine g_iconst (n := 325) (v := 0) d_M_write_324 rfl (by decide) ?_
                cases hf
                exact g_iret d_M_write_325 rfl (Nat.zero_le _) (Nat.zero_le _)
            · have hf := ob_neg q29 hf
              refine g_aload_n (n := 288) d_M_write_287 rfl 1 rfl rfl ?_
              refine g_iload (n := 290) d_M_write_288 rfl 5 rfl ?_
              refine g_bipush (n := 292) (v := 10) d_M_write_290 rfl (by decide) ?_
              refine g_iadd (n := 293) d_M_write_292 rfl ?_
              refine g_iload (n := 295) d_M_write_293 rfl 6 rfl ?_
              refine g_iload (n := 297) d_M_write_295 rfl 0 rfl ?_
              refine g_iadd (n := 298) d_M_write_297 rfl ?_
              obtain ⟨r34, h35, hf⟩ := ob_bind hf
              refine c_Vr (n := 301) (st' := []) [.int (x5 + 10), .int (x6 + x4)] [] d_M_write_298 rfl (s_M_writeNumber htr h35 rfl) tw_1098 tw_1100 (am_memS 42 (by decide +kernel) (by decide +kernel)) tw_8 tw_1101 hd_M_writeNumber (by omega) (by decide) (ci := 7) rfl rfl rfl (Nat.le_of_ble_eq_true rfl) rfl rfl ?_
              refine g_aload_n (n := 302) d_M_write_301 rfl 1 rfl rfl ?_
              refine g_aload_n (n := 303) d_M_write_302 rfl 1 rfl rfl ?_
              refine g_get (n := 306) (q0 := 18) d_M_write_303 rfl (am_fl in_M rfl (by decide : 4 < 20)) (List.mem_cons_of_mem _ tw_869) rfl rfl ?_
              refine g_if_eq (n := 309) (tgt := 313) d_M_write_306 rfl (by decide) (fun q36 => ?_) (fun q36 => ?_)
              · have hf := ob_pos q36 hf
                refine g_iconst (n := 314) (v := 0) d_M_write_313 rfl (by decide) ?_
                refine g_put (n := 317) (q0 := 18) (h' := (hM hx r34.1 r34.2.1 r34.2.2.1 r34.2.2.2.1 r34.2.2.2.2.1 r34.2.2.2.2.2.1 r34.2.2.2.2.2.2.1 r34.2.2.2.2.2.2.2.1 r34.2.2.2.2.2.2.2.2 0 sp mp mf ml ps nm mu ch wy nx rest)) d_M_write_314 rfl (am_fl in_M rfl (by decide : 0 < 20)) typ_M (List.mem_cons_of_mem _ tw_865) rfl (fun _ _ => rfl) (fun _ _ => rfl) rfl (am_ltb rfl) rfl ?_
                refine g_aload_n (n := 318) d_M_write_317 rfl 1 rfl rfl ?_
                refine g_get (n := 321) (q0 := 18) d_M_write_318 rfl (am_fl in_M rfl (by decide : 4 < 20)) (List.mem_cons_of_mem _ tw_869) rfl rfl ?_
                refine g_if_eq (n := 324) (tgt := 326) d_M_write_321 rfl (by decide) (fun _ => ?_) (fun q37 => absurd q36 q37)
                refine g_aload_n (n := 327) d_M_write_326 rfl 1 rfl rfl ?_
                refine g_get (n := 330) (q0 := 18) d_M_write_327 rfl (am_fl in_M rfl (by decide : 12 < 20)) (List.mem_cons_of_mem _ tw_877) rfl rfl ?_
                refine g_iload_n (n := 331) d_M_write_330 rfl 2 rfl rfl ?_
                refine g_iload (n := 333) d_M_write_331 rfl 6 rfl ?_
                refine g_iload (n := 335) d_M_write_333 rfl 0 rfl ?_
                refine g_iadd (n := 336) d_M_write_335 rfl ?_
                obtain ⟨b38, hf⟩ := ob_chk hf
                refine g_iast (n := 337) (q0 := 22) (h' := (hM hx r34.1 r34.2.1 r34.2.2.1 r34.2.2.2.1 r34.2.2.2.2.1 r34.2.2.2.2.2.1 r34.2.2.2.2.2.2.1 r34.2.2.2.2.2.2.2.1 r34.2.2.2.2.2.2.2.2 0 sp mp mf ml (upd ps x1.toNatClampNeg (x6 + x4)) nm mu ch wy nx rest)) d_M_write_336 rfl rfl (am_inl b38) rfl ?_
                refine g_iload (n := 339) d_M_write_337 rfl 0 rfl ?_
                cases hf
                exact g_iret d_M_write_339 rfl (Nat.zero_le _) (Nat.zero_le _)
              · have hf := ob_neg q36 hf
                refine g_iconst (n := 310) (v := 1) d_M_write_309 rfl (by decide) ?_
                refine g_goto (n := 314) d_M_write_310 (by decide) ?_
                refine g_put (n := 317) (q0 := 18) (h' := (hM hx r34.1 r34.2.1 r34.2.2.1 r34.2.2.2.1 r34.2.2.2.2.1 r34.2.2.2.2.2.1 r34.2.2.2.2.2.2.1 r34.2.2.2.2.2.2.2.1 r34.2.2.2.2.2.2.2.2 1 sp mp mf ml ps nm mu ch wy nx rest)) d_M_write_314 rfl (am_fl in_M rfl (by decide : 0 < 20)) typ_M (List.mem_cons_of_mem _ tw_865) rfl (fun _ _ => rfl) (fun _ _ => rfl) rfl (am_ltb rfl) rfl ?_
                refine g_aload_n (n := 318) d_M_write_317 rfl 1 rfl rfl ?_
                refine g_get (n := 321) (q0 := 18) d_M_write_318 rfl (am_fl in_M rfl (by decide : 4 < 20)) (List.mem_cons_of_mem _ tw_869) rfl rfl ?_
                refine g_if_eq (n := 324) (tgt := 326) d_M_write_321 rfl (by decide) (fun q39 => absurd q39 q36) (fun _ => ?_)
                refine g_iconst (n := 325) (v := 0) d_M_write_324 rfl (by decide) ?_
                cases hf
                exact g_iret d_M_write_325 rfl (Nat.zero_le _) (Nat.zero_le _)
          · have hf := ob_neg q23 hf
            refine g_iconst (n := 241) (v := 3) d_M_write_240 rfl (by decide) ?_
            refine g_goto (n := 245) d_M_write_241 (by decide) ?_
            refine g_put (n := 248) (q0 := 18) (h' := (hM hx w.1 w.2.1 w.2.2.1 w.2.2.2.1 w.2.2.2.2.1 w.2.2.2.2.2.1 w.2.2.2.2.2.2.1 w.2.2.2.2.2.2.2.1 w.2.2.2.2.2.2.2.2 3 sp mp mf ml ps nm mu ch wy nx rest)) d_M_write_245 rfl (am_fl in_M rfl (by decide : 0 < 20)) typ_M (List.mem_cons_of_mem _ tw_865) rfl (fun _ _ => rfl) (fun _ _ => rfl) rfl (am_ltb rfl) rfl ?_
            refine g_aload_n (n := 249) d_M_write_248 rfl 1 rfl rfl ?_
            refine g_get (n := 252) (q0 := 18) d_M_write_249 rfl (am_fl in_M rfl (by decide : 0 < 20)) (List.mem_cons_of_mem _ tw_865) rfl rfl ?_
            refine g_if_le (n := 255) (tgt := 257) d_M_write_252 rfl (by decide) (fun q40 => absurd q40 (by decide)) (fun _ => ?_)
            refine g_iconst (n := 256) (v := 0) d_M_write_255 rfl (by decide) ?_
            cases hf
            exact g_iret d_M_write_256 rfl (Nat.zero_le _) (Nat.zero_le _)
        · have hf := ob_neg q22 hf
          refine g_iconst (n := 232) (v := 1) d_M_write_231 rfl (by decide) ?_
          refine g_goto (n := 245) d_M_write_232 (by decide) ?_
          refine g_put (n := 248) (q0 := 18) (h' := (hM hx w.1 w.2.1 w.2.2.1 w.2.2.2.1 w.2.2.2.2.1 w.2.2.2.2.2.1 w.2.2.2.2.2.2.1 w.2.2.2.2.2.2.2.1 w.2.2.2.2.2.2.2.2 1 sp mp mf ml ps nm mu ch wy nx rest)) d_M_write_245 rfl (am_fl in_M rfl (by decide : 0 < 20)) typ_M (List.mem_cons_of_mem _ tw_865) rfl (fun _ _ => rfl) (fun _ _ => rfl) rfl (am_ltb rfl) rfl ?_
          refine g_aload_n (n := 249) d_M_write_248 rfl 1 rfl rfl ?_
          refine g_get (n := 252) (q0 := 18) d_M_write_249 rfl (am_fl in_M rfl (by decide : 0 < 20)) (List.mem_cons_of_mem _ tw_865) rfl rfl ?_
          refine g_if_le (n := 255) (tgt := 257) d_M_write_252 rfl (by decide) (fun q41 => absurd q41 (by decide)) (fun _ => ?_)
          refine g_iconst (n := 256) (v := 0) d_M_write_255 rfl (by decide) ?_
          cases hf
          exact g_iret d_M_write_256 rfl (Nat.zero_le _) (Nat.zero_le _)
      · have hf := ob_neg q21 hf
        refine g_bipush (n := 210) (v := 32) d_M_write_208 rfl (by decide) ?_
        refine g_iload (n := 212) d_M_write_210 rfl 6 rfl ?_
        refine g_imul (n := 213) d_M_write_212 rfl ?_
        refine g_iload (n := 215) d_M_write_213 rfl 5 rfl ?_
        refine g_isub (n := 216) d_M_write_215 rfl ?_
        refine g_goto (n := 221) d_M_write_216 (by decide) ?_
        refine g_istore (n := 223) (ls' := [(9, .int ((32 * x7) - x6)), (0, .ref 18), (1, .int x1), (2, .long x2), (4, .int x4), (5, .int x5), (6, .int x6), (7, .int x7), (8, .int x8)]) d_M_write_221 rfl (am_ltb rfl) rfl ?_
        refine g_aload_n (n := 224) d_M_write_223 rfl 1 rfl rfl ?_
        refine g_aload_n (n := 225) d_M_write_224 rfl 1 rfl rfl ?_
        refine g_get (n := 228) (q0 := 18) d_M_write_225 rfl (am_fl in_M rfl (by decide : 4 < 20)) (List.mem_cons_of_mem _ tw_869) rfl rfl ?_
        refine g_if_eq (n := 231) (tgt := 235) d_M_write_228 rfl (by decide) (fun q42 => ?_) (fun q42 => ?_)
        · have hf := ob_pos q42 hf
          refine g_iload (n := 237) d_M_write_235 rfl 0 rfl ?_
          refine g_if_gt (n := 240) (tgt := 244) d_M_write_237 rfl (by decide) (fun q43 => ?_) (fun q43 => ?_)
          · have hf := ob_pos q43 hf
            refine g_iconst (n := 245) (v := 0) d_M_write_244 rfl (by decide) ?_
            refine g_put (n := 248) (q0 := 18) (h' := (hM hx w.1 w.2.1 w.2.2.1 w.2.2.2.1 w.2.2.2.2.1 w.2.2.2.2.2.1 w.2.2.2.2.2.2.1 w.2.2.2.2.2.2.2.1 w.2.2.2.2.2.2.2.2 0 sp mp mf ml ps nm mu ch wy nx rest)) d_M_write_245 rfl (am_fl in_M rfl (by decide : 0 < 20)) typ_M (List.mem_cons_of_mem _ tw_865) rfl (fun _ _ => rfl) (fun _ _ => rfl) rfl (am_ltb rfl) rfl ?_
            refine g_aload_n (n := 249) d_M_write_248 rfl 1 rfl rfl ?_
            refine g_get (n := 252) (q0 := 18) d_M_write_249 rfl (am_fl in_M rfl (by decide : 0 < 20)) (List.mem_cons_of_mem _ tw_865) rfl rfl ?_
            refine g_if_le (n := 255) (tgt := 257) d_M_write_252 rfl (by decide) (fun _ => ?_) (fun q44 => absurd q44 (by decide))
            refine g_aload_n (n := 258) d_M_write_257 rfl 1 rfl rfl ?_
            refine g_iload (n := 260) d_M_write_258 rfl 5 rfl ?_
            refine g_iload (n := 262) d_M_write_260 rfl 6 rfl ?_
            refine g_iload (n := 264) d_M_write_262 rfl 0 rfl ?_
            refine g_lload_n (n := 265) d_M_write_264 rfl 3 rfl rfl ?_
            refine g_iload (n := 267) d_M_write_265 rfl 4 rfl ?_
            obtain ⟨r45, h46, hf⟩ := ob_bind hf
            refine c_Vr (n := 270) (st' := []) [.int x5, .int x6, .int ((32 * x7) - x6), .long x2, .int x4] [] d_M_write_267 rfl (s_M_fill htr h46 rfl) tw_1102 tw_1104 (am_memS 43 (by decide +kernel) (by decide +kernel)) tw_8 tw_1105 hd_M_fill (by omega) (by decide) (ci := 7) rfl rfl rfl (Nat.le_of_ble_eq_true rfl) rfl rfl ?_
            refine g_iload (n := 272) d_M_write_270 rfl 6 rfl ?_
            refine g_iload (n := 274) d_M_write_272 rfl 0 rfl ?_
            refine g_iadd (n := 275) d_M_write_274 rfl ?_
            refine g_aload_n (n := 276) d_M_write_275 rfl 1 rfl rfl ?_
            refine g_iload (n := 278) d_M_write_276 rfl 5 rfl ?_
            refine g_bipush (n := 280) (v := 10) d_M_write_278 rfl (by decide) ?_
            refine g_iadd (n := 281) d_M_write_280 rfl ?_
            obtain ⟨r47, h48, hf⟩ := ob_bind hf
            refine c_Vr (n := 284) (st' := [.int r47, .int (x6 + ((32 * x7) - x6))]) [.int (x5 + 10)] [.int (x6 + ((32 * x7) - x6))] d_M_write_281 rfl (s_M_numberAt htr h48 rfl) tw_957 tw_959 (am_memS 17 (by decide +kernel) (by decide +kernel)) tw_8 tw_960 hd_M_numberAt (by omega) (by decide) (ci := 7) rfl rfl rfl (Nat.le_of_ble_eq_true rfl) rfl rfl ?_
            refine g_icmp_le (n := 287) (tgt := 301) d_M_write_284 rfl (by decide) (fun q49 => ?_) (fun q49 => ?_)
            · have hf := ob_pos q49 hf
              refine g_aload_n (n := 302) d_M_write_301 rfl 1 rfl rfl ?_
              refine g_aload_n (n := 303) d_M_write_302 rfl 1 rfl rfl ?_
              refine g_get (n := 306) (q0 := 18) d_M_write_303 rfl (am_fl in_M rfl (by decide : 4 < 20)) (List.mem_cons_of_mem _ tw_869) rfl rfl ?_
              refine g_if_eq (n := 309) (tgt := 313) d_M_write_306 rfl (by decide) (fun q50 => ?_) (fun q50 => ?_)
              · have hf := ob_pos q50 hf
                refine g_iconst (n := 314) (v := 0) d_M_write_313 rfl (by decide) ?_
                refine g_put (n := 317) (q0 := 18) (h' := (hM hx r45.1 r45.2.1 r45.2.2.1 r45.2.2.2.1 r45.2.2.2.2.1 r45.2.2.2.2.2.1 r45.2.2.2.2.2.2.1 r45.2.2.2.2.2.2.2.1 r45.2.2.2.2.2.2.2.2 0 sp mp mf ml ps nm mu ch wy nx rest)) d_M_write_314 rfl (am_fl in_M rfl (by decide : 0 < 20)) typ_M (List.mem_cons_of_mem _ tw_865) rfl (fun _ _ => rfl) (fun _ _ => rfl) rfl (am_ltb rfl) rfl ?_
                refine g_aload_n (n := 318) d_M_write_317 rfl 1 rfl rfl ?_
                refine g_get (n := 321) (q0 := 18) d_M_write_318 rfl (am_fl in_M rfl (by decide : 4 < 20)) (List.mem_cons_of_mem _ tw_869) rfl rfl ?_
                refine g_if_eq (n := 324) (tgt := 326) d_M_write_321 rfl (by decide) (fun _ => ?_) (fun q51 => absurd q50 q51)
                refine g_aload_n (n := 327) d_M_write_326 rfl 1 rfl rfl ?_
                refine g_get (n := 330) (q0 := 18) d_M_write_327 rfl (am_fl in_M rfl (by decide : 12 < 20)) (List.mem_cons_of_mem _ tw_877) rfl rfl ?_
                refine g_iload_n (n := 331) d_M_write_330 rfl 2 rfl rfl ?_
                refine g_iload (n := 333) d_M_write_331 rfl 6 rfl ?_
                refine g_iload (n := 335) d_M_write_333 rfl 0 rfl ?_
                refine g_iadd (n := 336) d_M_write_335 rfl ?_
                obtain ⟨b52, hf⟩ := ob_chk hf
                refine g_iast (n := 337) (q0 := 22) (h' := (hM hx r45.1 r45.2.1 r45.2.2.1 r45.2.2.2.1 r45.2.2.2.2.1 r45.2.2.2.2.2.1 r45.2.2.2.2.2.2.1 r45.2.2.2.2.2.2.2.1 r45.2.2.2.2.2.2.2.2 0 sp mp mf ml (upd ps x1.toNatClampNeg (x6 + ((32 * x7) - x6))) nm mu ch wy nx rest)) d_M_write_336 rfl rfl (am_inl b52) rfl ?_
                refine g_iload (n := 339) d_M_write_337 rfl 0 rfl ?_
                cases hf
                exact g_iret d_M_write_339 rfl (Nat.zero_le _) (Nat.zero_le _)
              · have hf := ob_neg q50 hf
                refine g_iconst (n := 310) (v := 1) d_M_write_309 rfl (by decide) ?_
                refine g_goto (n := 314) d_M_write_310 (by decide) ?_
                refine g_put (n := 317) (q0 := 18) (h' := (hM hx r45.1 r45.2.1 r45.2.2.1 r45.2.2.2.1 r45.2.2.2.2.1 r45.2.2.2.2.2.1 r45.2.2.2.2.2.2.1 r45.2.2.2.2.2.2.2.1 r45.2.2.2.2.2.2.2.2 1 sp mp mf ml ps nm mu ch wy nx rest)) d_M_write_314 rfl (am_fl in_M rfl (by decide : 0 < 20)) typ_M (List.mem_cons_of_mem _ tw_865) rfl (fun _ _ => rfl) (fun _ _ => rfl) rfl (am_ltb rfl) rfl ?_
                refine g_aload_n (n := 318) d_M_write_317 rfl 1 rfl rfl ?_
                refine g_get (n := 321) (q0 := 18) d_M_write_318 rfl (am_fl in_M rfl (by decide : 4 < 20)) (List.mem_cons_of_mem _ tw_869) rfl rfl ?_
                refine g_if_eq (n := 324) (tgt := 326) d_M_write_321 rfl (by decide) (fun q53 => absurd q53 q50) (fun _ => ?_)
                refine g_iconst (n := 325) (v := 0) d_M_write_324 rfl (by decide) ?_
                cases hf
                exact g_iret d_M_write_325 rfl (Nat.zero_le _) (Nat.zero_le _)
            · have hf := ob_neg q49 hf
              refine g_aload_n (n := 288) d_M_write_287 rfl 1 rfl rfl ?_
              refine g_iload (n := 290) d_M_write_288 rfl 5 rfl ?_
              refine g_bipush (n := 292) (v := 10) d_M_write_290 rfl (by decide) ?_
              refine g_iadd (n := 293) d_M_write_292 rfl ?_
              refine g_iload (n := 295) d_M_write_293 rfl 6 rfl ?_
              refine g_iload (n := 297) d_M_write_295 rfl 0 rfl ?_
              refine g_iadd (n := 298) d_M_write_297 rfl ?_
              obtain ⟨r54, h55, hf⟩ := ob_bind hf
              refine c_Vr (n := 301) (st' := []) [.int (x5 + 10), .int (x6 + ((32 * x7) - x6))] [] d_M_write_298 rfl (s_M_writeNumber htr h55 rfl) tw_1098 tw_1100 (am_memS 42 (by decide +kernel) (by decide +kernel)) tw_8 tw_1101 hd_M_writeNumber (by omega) (by decide) (ci := 7) rfl rfl rfl (Nat.le_of_ble_eq_true rfl) rfl rfl ?_
              refine g_aload_n (n := 302) d_M_write_301 rfl 1 rfl rfl ?_
              refine g_aload_n (n := 303) d_M_write_302 rfl 1 rfl rfl ?_
              refine g_get (n := 306) (q0 := 18) d_M_write_303 rfl (am_fl in_M rfl (by decide : 4 < 20)) (List.mem_cons_of_mem _ tw_869) rfl rfl ?_
              refine g_if_eq (n := 309) (tgt := 313) d_M_write_306 rfl (by decide) (fun q56 => ?_) (fun q56 => ?_)
              · have hf := ob_pos q56 hf
                refine g_iconst (n := 314) (v := 0) d_M_write_313 rfl (by decide) ?_
                refine g_put (n := 317) (q0 := 18) (h' := (hM hx r54.1 r54.2.1 r54.2.2.1 r54.2.2.2.1 r54.2.2.2.2.1 r54.2.2.2.2.2.1 r54.2.2.2.2.2.2.1 r54.2.2.2.2.2.2.2.1 r54.2.2.2.2.2.2.2.2 0 sp mp mf ml ps nm mu ch wy nx rest)) d_M_write_314 rfl (am_fl in_M rfl (by decide : 0 < 20)) typ_M (List.mem_cons_of_mem _ tw_865) rfl (fun _ _ => rfl) (fun _ _ => rfl) rfl (am_ltb rfl) rfl ?_
                refine g_aload_n (n := 318) d_M_write_317 rfl 1 rfl rfl ?_
                refine g_get (n := 321) (q0 := 18) d_M_write_318 rfl (am_fl in_M rfl (by decide : 4 < 20)) (List.mem_cons_of_mem _ tw_869) rfl rfl ?_
                refine g_if_eq (n := 324) (tgt := 326) d_M_write_321 rfl (by decide) (fun _ => ?_) (fun q57 => absurd q56 q57)
                refine g_aload_n (n := 327) d_M_write_326 rfl 1 rfl rfl ?_
                refine g_get (n := 330) (q0 := 18) d_M_write_327 rfl (am_fl in_M rfl (by decide : 12 < 20)) (List.mem_cons_of_mem _ tw_877) rfl rfl ?_
                refine g_iload_n (n := 331) d_M_write_330 rfl 2 rfl rfl ?_
                refine g_iload (n := 333) d_M_write_331 rfl 6 rfl ?_
                refine g_iload (n := 335) d_M_write_333 rfl 0 rfl ?_
                refine g_iadd (n := 336) d_M_write_335 rfl ?_
                obtain ⟨b58, hf⟩ := ob_chk hf
                refine g_iast (n := 337) (q0 := 22) (h' := (hM hx r54.1 r54.2.1 r54.2.2.1 r54.2.2.2.1 r54.2.2.2.2.1 r54.2.2.2.2.2.1 r54.2.2.2.2.2.2.1 r54.2.2.2.2.2.2.2.1 r54.2.2.2.2.2.2.2.2 0 sp mp mf ml (upd ps x1.toNatClampNeg (x6 + ((32 * x7) - x6))) nm mu ch wy nx rest)) d_M_write_336 rfl rfl (am_inl b58) rfl ?_
                refine g_iload (n := 339) d_M_write_337 rfl 0 rfl ?_
                cases hf
                exact g_iret d_M_write_339 rfl (Nat.zero_le _) (Nat.zero_le _)
              · have hf := ob_neg q56 hf
                refine g_iconst (n := 310) (v := 1) d_M_write_309 rfl (by decide) ?_
                refine g_goto (n := 314) d_M_write_310 (by decide) ?_
                refine g_put (n := 317) (q0 := 18) (h' := (hM hx r54.1 r54.2.1 r54.2.2.1 r54.2.2.2.1 r54.2.2.2.2.1 r54.2.2.2.2.2.1 r54.2.2.2.2.2.2.1 r54.2.2.2.2.2.2.2.1 r54.2.2.2.2.2.2.2.2 1 sp mp mf ml ps nm mu ch wy nx rest)) d_M_write_314 rfl (am_fl in_M rfl (by decide : 0 < 20)) typ_M (List.mem_cons_of_mem _ tw_865) rfl (fun _ _ => rfl) (fun _ _ => rfl) rfl (am_ltb rfl) rfl ?_
                refine g_aload_n (n := 318) d_M_write_317 rfl 1 rfl rfl ?_
                refine g_get (n := 321) (q0 := 18) d_M_write_318 rfl (am_fl in_M rfl (by decide : 4 < 20)) (List.mem_cons_of_mem _ tw_869) rfl rfl ?_
                refine g_if_eq (n := 324) (tgt := 326) d_M_write_321 rfl (by decide) (fun q59 => absurd q59 q56) (fun _ => ?_)
                refine g_iconst (n := 325) (v := 0) d_M_write_324 rfl (by decide) ?_
                cases hf
                exact g_iret d_M_write_325 rfl (Nat.zero_le _) (Nat.zero_le _)
          · have hf := ob_neg q43 hf
            refine g_iconst (n := 241) (v := 3) d_M_write_240 rfl (by decide) ?_
            refine g_goto (n := 245) d_M_write_241 (by decide) ?_
            refine g_put (n := 248) (q0 := 18) (h' := (hM hx w.1 w.2.1 w.2.2.1 w.2.2.2.1 w.2.2.2.2.1 w.2.2.2.2.2.1 w.2.2.2.2.2.2.1 w.2.2.2.2.2.2.2.1 w.2.2.2.2.2.2.2.2 3 sp mp mf ml ps nm mu ch wy nx rest)) d_M_write_245 rfl (am_fl in_M rfl (by decide : 0 < 20)) typ_M (List.mem_cons_of_mem _ tw_865) rfl (fun _ _ => rfl) (fun _ _ => rfl) rfl (am_ltb rfl) rfl ?_
            refine g_aload_n (n := 249) d_M_write_248 rfl 1 rfl rfl ?_
            refine g_get (n := 252) (q0 := 18) d_M_write_249 rfl (am_fl in_M rfl (by decide : 0 < 20)) (List.mem_cons_of_mem _ tw_865) rfl rfl ?_
            refine g_if_le (n := 255) (tgt := 257) d_M_write_252 rfl (by decide) (fun q60 => absurd q60 (by decide)) (fun _ => ?_)
            refine g_iconst (n := 256) (v := 0) d_M_write_255 rfl (by decide) ?_
            cases hf
            exact g_iret d_M_write_256 rfl (Nat.zero_le _) (Nat.zero_le _)
        · have hf := ob_neg q42 hf
          refine g_iconst (n := 232) (v := 1) d_M_write_231 rfl (by decide) ?_
          refine g_goto (n := 245) d_M_write_232 (by decide) ?_
          refine g_put (n := 248) (q0 := 18) (h' := (hM hx w.1 w.2.1 w.2.2.1 w.2.2.2.1 w.2.2.2.2.1 w.2.2.2.2.2.1 w.2.2.2.2.2.2.1 w.2.2.2.2.2.2.2.1 w.2.2.2.2.2.2.2.2 1 sp mp mf ml ps nm mu ch wy nx rest)) d_M_write_245 rfl (am_fl in_M rfl (by decide : 0 < 20)) typ_M (List.mem_cons_of_mem _ tw_865) rfl (fun _ _ => rfl) (fun _ _ => rfl) rfl (am_ltb rfl) rfl ?_
          refine g_aload_n (n := 249) d_M_write_248 rfl 1 rfl rfl ?_
          refine g_get (n := 252) (q0 := 18) d_M_write_249 rfl (am_fl in_M rfl (by decide : 0 < 20)) (List.mem_cons_of_mem _ tw_865) rfl rfl ?_
          refine g_if_le (n := 255) (tgt := 257) d_M_write_252 rfl (by decide) (fun q61 => absurd q61 (by decide)) (fun _ => ?_)
          refine g_iconst (n := 256) (v := 0) d_M_write_255 rfl (by decide) ?_
          cases hf
          exact g_iret d_M_write_256 rfl (Nat.zero_le _) (Nat.zero_le _)
    · have hf := ob_neg q20 hf
      refine g_bipush (n := 106) (v := 32) d_M_write_104 rfl (by decide) ?_
      refine g_iload (n := 108) d_M_write_106 rfl 6 rfl ?_
      refine g_imul (n := 109) d_M_write_108 rfl ?_
      refine g_iload (n := 111) d_M_write_109 rfl 5 rfl ?_
      refine g_iload (n := 113) d_M_write_111 rfl 3 rfl ?_
      refine g_iadd (n := 114) d_M_write_113 rfl ?_
      refine g_icmp_ge (n := 117) (tgt := 195) d_M_write_114 rfl (by decide) (fun q62 => ?_) (fun q62 => ?_)
      · have hf := ob_pos q62 hf
        refine g_bipush (n := 197) (v := 32) d_M_write_195 rfl (by decide) ?_
        refine g_iload (n := 199) d_M_write_197 rfl 6 rfl ?_
        refine g_imul (n := 200) d_M_write_199 rfl ?_
        refine g_iload (n := 202) d_M_write_200 rfl 5 rfl ?_
        refine g_isub (n := 203) d_M_write_202 rfl ?_
        refine g_iload (n := 205) d_M_write_203 rfl 3 rfl ?_
        refine g_icmp_ge (n := 208) (tgt := 219) d_M_write_205 rfl (by decide) (fun q63 => ?_) (fun q63 => ?_)
        · have hf := ob_pos q63 hf
          refine g_iload (n := 221) d_M_write_219 rfl 3 rfl ?_
          refine g_istore (n := 223) (ls' := [(9, .int x4), (0, .ref 18), (1, .int x1), (2, .long x2), (4, .int x4), (5, .int x5), (6, .int x6), (7, .int x7), (8, .int x8)]) d_M_write_221 rfl (am_ltb rfl) rfl ?_
          refine g_aload_n (n := 224) d_M_write_223 rfl 1 rfl rfl ?_
          refine g_aload_n (n := 225) d_M_write_224 rfl 1 rfl rfl ?_
          refine g_get (n := 228) (q0 := 18) d_M_write_225 rfl (am_fl in_M rfl (by decide : 4 < 20)) (List.mem_cons_of_mem _ tw_869) rfl rfl ?_
          refine g_if_eq (n := 231) (tgt := 235) d_M_write_228 rfl (by decide) (fun q64 => ?_) (fun q64 => ?_)
          · have hf := ob_pos q64 hf
            refine g_iload (n := 237) d_M_write_235 rfl 0 rfl ?_
            refine g_if_gt (n := 240) (tgt := 244) d_M_write_237 rfl (by decide) (fun q65 => ?_) (fun q65 => ?_)
            · have hf := ob_pos q65 hf
              refine g_iconst (n := 245) (v := 0) d_M_write_244 rfl (by decide) ?_
              refine g_put (n := 248) (q0 := 18) (h' := (hM hx w.1 w.2.1 w.2.2.1 w.2.2.2.1 w.2.2.2.2.1 w.2.2.2.2.2.1 w.2.2.2.2.2.2.1 w.2.2.2.2.2.2.2.1 w.2.2.2.2.2.2.2.2 0 sp mp mf ml ps nm mu ch wy nx rest)) d_M_write_245 rfl (am_fl in_M rfl (by decide : 0 < 20)) typ_M (List.mem_cons_of_mem _ tw_865) rfl (fun _ _ => rfl) (fun _ _ => rfl) rfl (am_ltb rfl) rfl ?_
              refine g_aload_n (n := 249) d_M_write_248 rfl 1 rfl rfl ?_
              refine g_get (n := 252) (q0 := 18) d_M_write_249 rfl (am_fl in_M rfl (by decide : 0 < 20)) (List.mem_cons_of_mem _ tw_865) rfl rfl ?_
              refine g_if_le (n := 255) (tgt := 257) d_M_write_252 rfl (by decide) (fun _ => ?_) (fun q66 => absurd q66 (by decide))
              refine g_aload_n (n := 258) d_M_write_257 rfl 1 rfl rfl ?_
              refine g_iload (n := 260) d_M_write_258 rfl 5 rfl ?_
              refine g_iload (n := 262) d_M_write_260 rfl 6 rfl ?_
              refine g_iload (n := 264) d_M_write_262 rfl 0 rfl ?_
              refine g_lload_n (n := 265) d_M_write_264 rfl 3 rfl rfl ?_
              refine g_iload (n := 267) d_M_write_265 rfl 4 rfl ?_
              obtain ⟨r67, h68, hf⟩ := ob_bind hf
              refine c_Vr (n := 270) (st' := []) [.int x5, .int x6, .int x4, .long x2, .int x4] [] d_M_write_267 rfl (s_M_fill htr h68 rfl) tw_1102 tw_1104 (am_memS 43 (by decide +kernel) (by decide +kernel)) tw_8 tw_1105 hd_M_fill (by omega) (by decide) (ci := 7) rfl rfl rfl (Nat.le_of_ble_eq_true rfl) rfl rfl ?_
              refine g_iload (n := 272) d_M_write_270 rfl 6 rfl ?_
              refine g_iload (n := 274) d_M_write_272 rfl 0 rfl ?_
              refine g_iadd (n := 275) d_M_write_274 rfl ?_
              refine g_aload_n (n := 276) d_M_write_275 rfl 1 rfl rfl ?_
              refine g_iload (n := 278) d_M_write_276 rfl 5 rfl ?_
              refine g_bipush (n := 280) (v := 10) d_M_write_278 rfl (by decide) ?_
              refine g_iadd (n := 281) d_M_write_280 rfl ?_
              obtain ⟨r69, h70, hf⟩ := ob_bind hf
              refine c_Vr (n := 284) (st' := [.int r69, .int (x6 + x4)]) [.int (x5 + 10)] [.int (x6 + x4)] d_M_write_281 rfl (s_M_numberAt htr h70 rfl) tw_957 tw_959 (am_memS 17 (by decide +kernel) (by decide +kernel)) tw_8 tw_960 hd_M_numberAt (by omega) (by decide) (ci := 7) rfl rfl rfl (Nat.le_of_ble_eq_true rfl) rfl rfl ?_
              refine g_icmp_le (n := 287) (tgt := 301) d_M_write_284 rfl (by decide) (fun q71 => ?_) (fun q71 => ?_)
              · have hf := ob_pos q71 hf
                refine g_aload_n (n := 302) d_M_write_301 rfl 1 rfl rfl ?_
                refine g_aload_n (n := 303) d_M_write_302 rfl 1 rfl rfl ?_
                refine g_get (n := 306) (q0 := 18) d_M_write_303 rfl (am_fl in_M rfl (by decide : 4 < 20)) (List.mem_cons_of_mem _ tw_869) rfl rfl ?_
                refine g_if_eq (n := 309) (tgt := 313) d_M_write_306 rfl (by decide) (fun q72 => ?_) (fun q72 => ?_)
                · have hf := ob_pos q72 hf
                  refine g_iconst (n := 314) (v := 0) d_M_write_313 rfl (by decide) ?_
                  refine g_put (n := 317) (q0 := 18) (h' := (hM hx r67.1 r67.2.1 r67.2.2.1 r67.2.2.2.1 r67.2.2.2.2.1 r67.2.2.2.2.2.1 r67.2.2.2.2.2.2.1 r67.2.2.2.2.2.2.2.1 r67.2.2.2.2.2.2.2.2 0 sp mp mf ml ps nm mu ch wy nx rest)) d_M_write_314 rfl (am_fl in_M rfl (by decide : 0 < 20)) typ_M (List.mem_cons_of_mem _ tw_865) rfl (fun _ _ => rfl) (fun _ _ => rfl) rfl (am_ltb rfl) rfl ?_
                  refine g_aload_n (n := 318) d_M_write_317 rfl 1 rfl rfl ?_
                  refine g_get (n := 321) (q0 := 18) d_M_write_318 rfl (am_fl in_M rfl (by decide : 4 < 20)) (List.mem_cons_of_mem _ tw_869) rfl rfl ?_
                  refine g_if_eq (n := 324) (tgt := 326) d_M_write_321 rfl (by decide) (fun _ => ?_) (fun q73 => absurd q72 q73)
                  refine g_aload_n (n := 327) d_M_write_326 rfl 1 rfl rfl ?_
                  refine g_get (n := 330) (q0 := 18) d_M_write_327 rfl (am_fl in_M rfl (by decide : 12 < 20)) (List.mem_cons_of_mem _ tw_877) rfl rfl ?_
                  refine g_iload_n (n := 331) d_M_write_330 rfl 2 rfl rfl ?_
                  refine g_iload (n := 333) d_M_write_331 rfl 6 rfl ?_
                  refine g_iload (n := 335) d_M_write_333 rfl 0 rfl ?_
                  refine g_iadd (n := 336) d_M_write_335 rfl ?_
                  obtain ⟨b74, hf⟩ := ob_chk hf
                  refine g_iast (n := 337) (q0 := 22) (h' := (hM hx r67.1 r67.2.1 r67.2.2.1 r67.2.2.2.1 r67.2.2.2.2.1 r67.2.2.2.2.2.1 r67.2.2.2.2.2.2.1 r67.2.2.2.2.2.2.2.1 r67.2.2.2.2.2.2.2.2 0 sp mp mf ml (upd ps x1.toNatClampNeg (x6 + x4)) nm mu ch wy nx rest)) d_M_write_336 rfl rfl (am_inl b74) rfl ?_
                  refine g_iload (n := 339) d_M_write_337 rfl 0 rfl ?_
                  cases hf
                  exact g_iret d_M_write_339 rfl (Nat.zero_le _) (Nat.zero_le _)
                · have hf := ob_neg q72 hf
                  refine g_iconst (n := 310) (v := 1) d_M_write_309 rfl (by decide) ?_
                  refine g_goto (n := 314) d_M_write_310 (by decide) ?_
                  refine g_put (n := 317) (q0 := 18) (h' := (hM hx r67.1 r67.2.1 r67.2.2.1 r67.2.2.2.1 r67.2.2.2.2.1 r67.2.2.2.2.2.1 r67.2.2.2.2.2.2.1 r67.2.2.2.2.2.2.2.1 r67.2.2.2.2.2.2.2.2 1 sp mp mf ml ps nm mu ch wy nx rest)) d_M_write_314 rfl (am_fl in_M rfl (by decide : 0 < 20)) typ_M (List.mem_cons_of_mem _ tw_865) rfl (fun _ _ => rfl) (fun _ _ => rfl) rfl (am_ltb rfl) rfl ?_
                  refine g_aload_n (n := 318) d_M_write_317 rfl 1 rfl rfl ?_
                  refine g_get (n := 321) (q0 := 18) d_M_write_318 rfl (am_fl in_M rfl (by decide : 4 < 20)) (List.mem_cons_of_mem _ tw_869) rfl rfl ?_
                  refine g_if_eq (n := 324) (tgt := 326) d_M_write_321 rfl (by decide) (fun q75 => absurd q75 q72) (fun _ => ?_)
                  refine g_iconst (n := 325) (v := 0) d_M_write_324 rfl (by decide) ?_
                  cases hf
                  exact g_iret d_M_write_325 rfl (Nat.zero_le _) (Nat.zero_le _)
              · have hf := ob_neg q71 hf
                refine g_aload_n (n := 288) d_M_write_287 rfl 1 rfl rfl ?_
                refine g_iload (n := 290) d_M_write_288 rfl 5 rfl ?_
                refine g_bipush (n := 292) (v := 10) d_M_write_290 rfl (by decide) ?_
                refine g_iadd (n := 293) d_M_write_292 rfl ?_
                refine g_iload (n := 295) d_M_write_293 rfl 6 rfl ?_
                refine g_iload (n := 297) d_M_write_295 rfl 0 rfl ?_
                refine g_iadd (n := 298) d_M_write_297 rfl ?_
                obtain ⟨r76, h77, hf⟩ := ob_bind hf
                refine c_Vr (n := 301) (st' := []) [.int (x5 + 10), .int (x6 + x4)] [] d_M_write_298 rfl (s_M_writeNumber htr h77 rfl) tw_1098 tw_1100 (am_memS 42 (by decide +kernel) (by decide +kernel)) tw_8 tw_1101 hd_M_writeNumber (by omega) (by decide) (ci := 7) rfl rfl rfl (Nat.le_of_ble_eq_true rfl) rfl rfl ?_
                refine g_aload_n (n := 302) d_M_write_301 rfl 1 rfl rfl ?_
                refine g_aload_n (n := 303) d_M_write_302 rfl 1 rfl rfl ?_
                refine g_get (n := 306) (q0 := 18) d_M_write_303 rfl (am_fl in_M rfl (by decide : 4 < 20)) (List.mem_cons_of_mem _ tw_869) rfl rfl ?_
                refine g_if_eq (n := 309) (tgt := 313) d_M_write_306 rfl (by decide) (fun q78 => ?_) (fun q78 => ?_)
                · have hf := ob_pos q78 hf
                  refine g_iconst (n := 314) (v := 0) d_M_write_313 rfl (by decide) ?_
                  refine g_put (n := 317) (q0 := 18) (h' := (hM hx r76.1 r76.2.1 r76.2.2.1 r76.2.2.2.1 r76.2.2.2.2.1 r76.2.2.2.2.2.1 r76.2.2.2.2.2.2.1 r76.2.2.2.2.2.2.2.1 r76.2.2.2.2.2.2.2.2 0 sp mp mf ml ps nm mu ch wy nx rest)) d_M_write_314 rfl (am_fl in_M rfl (by decide : 0 < 20)) typ_M (List.mem_cons_of_mem _ tw_865) rfl (fun _ _ => rfl) (fun _ _ => rfl) rfl (am_ltb rfl) rfl ?_
                  refine g_aload_n (n := 318) d_M_write_317 rfl 1 rfl rfl ?_
                  refine g_get (n := 321) (q0 := 18) d_M_write_318 rfl (am_fl in_M rfl (by decide : 4 < 20)) (List.mem_cons_of_mem _ tw_869) rfl rfl ?_
                  refine g_if_eq (n := 324) (tgt := 326) d_M_write_321 rfl (by decide) (fun _ => ?_) (fun q79 => absurd q78 q79)
                  refine g_aload_n (n := 327) d_M_write_326 rfl 1 rfl rfl ?_
                  refine g_get (n := 330) (q0 := 18) d_M_write_327 rfl (am_fl in_M rfl (by decide : 12 < 20)) (List.mem_cons_of_mem _ tw_877) rfl rfl ?_
                  refine g_iload_n (n := 331) d_M_write_330 rfl 2 rfl rfl ?_
                  refine g_iload (n := 333) d_M_write_331 rfl 6 rfl ?_
                  refine g_iload (n := 335) d_M_write_333 rfl 0 rfl ?_
                  refine g_iadd (n := 336) d_M_write_335 rfl ?_
                  obtain ⟨b80, hf⟩ := ob_chk hf
                  refine g_iast (n := 337) (q0 := 22) (h' := (hM hx r76.1 r76.2.1 r76.2.2.1 r76.2.2.2.1 r76.2.2.2.2.1 r76.2.2.2.2.2.1 r76.2.2.2.2.2.2.1 r76.2.2.2.2.2.2.2.1 r76.2.2.2.2.2.2.2.2 0 sp mp mf ml (upd ps x1.toNatClampNeg (x6 + x4)) nm mu ch wy nx rest)) d_M_write_336 rfl rfl (am_inl b80) rfl ?_
                  refine g_iload (n := 339) d_M_write_337 rfl 0 rfl ?_
                  cases hf
                  exact g_iret d_M_write_339 rfl (Nat.zero_le _) (Nat.zero_le _)
                · have hf := ob_neg q78 hf
                  refine g_iconst (n := 310) (v := 1) d_M_write_309 rfl (by decide) ?_
                  refine g_goto (n := 314) d_M_write_310 (by decide) ?_
                  refine g_put (n := 317) (q0 := 18) (h' := (hM hx r76.1 r76.2.1 r76.2.2.1 r76.2.2.2.1 r76.2.2.2.2.1 r76.2.2.2.2.2.1 r76.2.2.2.2.2.2.1 r76.2.2.2.2.2.2.2.1 r76.2.2.2.2.2.2.2.2 1 sp mp mf ml ps nm mu ch wy nx rest)) d_M_write_314 rfl (am_fl in_M rfl (by decide : 0 < 20)) typ_M (List.mem_cons_of_mem _ tw_865) rfl (fun _ _ => rfl) (fun _ _ => rfl) rfl (am_ltb rfl) rfl ?_
                  refine g_aload_n (n := 318) d_M_write_317 rfl 1 rfl rfl ?_
                  refine g_get (n := 321) (q0 := 18) d_M_write_318 rfl (am_fl in_M rfl (by decide : 4 < 20)) (List.mem_cons_of_mem _ tw_869) rfl rfl ?_
                  refine g_if_eq (n := 324) (tgt := 326) d_M_write_321 rfl (by decide) (fun q81 => absurd q81 q78) (fun _ => ?_)
                  refine g_iconst (n := 325) (v := 0) d_M_write_324 rfl (by decide) ?_
                  cases hf
                  exact g_iret d_M_write_325 rfl (Nat.zero_le _) (Nat.zero_le _)
            · have hf := ob_neg q65 hf
              refine g_iconst (n := 241) (v := 3) d_M_write_240 rfl (by decide) ?_
              refine g_goto (n := 245) d_M_write_241 (by decide) ?_
              refine g_put (n := 248) (q0 := 18) (h' := (hM hx w.1 w.2.1 w.2.2.1 w.2.2.2.1 w.2.2.2.2.1 w.2.2.2.2.2.1 w.2.2.2.2.2.2.1 w.2.2.2.2.2.2.2.1 w.2.2.2.2.2.2.2.2 3 sp mp mf ml ps nm mu ch wy nx rest)) d_M_write_245 rfl (am_fl in_M rfl (by decide : 0 < 20)) typ_M (List.mem_cons_of_mem _ tw_865) rfl (fun _ _ => rfl) (fun _ _ => rfl) rfl (am_ltb rfl) rfl ?_
              refine g_aload_n (n := 249) d_M_write_248 rfl 1 rfl rfl ?_
              refine g_get (n := 252) (q0 := 18) d_M_write_249 rfl (am_fl in_M rfl (by decide : 0 < 20)) (List.mem_cons_of_mem _ tw_865) rfl rfl ?_
              refine g_if_le (n := 255) (tgt := 257) d_M_write_252 rfl (by decide) (fun q82 => absurd q82 (by decide)) (fun _ => ?_)
              refine g_iconst (n := 256) (v := 0) d_M_write_255 rfl (by decide) ?_
              cases hf
              exact g_iret d_M_write_256 rfl (Nat.zero_le _) (Nat.zero_le _)
          · have hf := ob_neg q64 hf
            refine g_iconst (n := 232) (v := 1) d_M_write_231 rfl (by decide) ?_
            refine g_goto (n := 245) d_M_write_232 (by decide) ?_
            refine g_put (n := 248) (q0 := 18) (h' := (hM hx w.1 w.2.1 w.2.2.1 w.2.2.2.1 w.2.2.2.2.1 w.2.2.2.2.2.1 w.2.2.2.2.2.2.1 w.2.2.2.2.2.2.2.1 w.2.2.2.2.2.2.2.2 1 sp mp mf ml ps nm mu ch wy nx rest)) d_M_write_245 rfl (am_fl in_M rfl (by decide : 0 < 20)) typ_M (List.mem_cons_of_mem _ tw_865) rfl (fun _ _ => rfl) (fun _ _ => rfl) rfl (am_ltb rfl) rfl ?_
            refine g_aload_n (n := 249) d_M_write_248 rfl 1 rfl rfl ?_
            refine g_get (n := 252) (q0 := 18) d_M_write_249 rfl (am_fl in_M rfl (by decide : 0 < 20)) (List.mem_cons_of_mem _ tw_865) rfl rfl ?_
            refine g_if_le (n := 255) (tgt := 257) d_M_write_252 rfl (by decide) (fun q83 => absurd q83 (by decide)) (fun _ => ?_)
            refine g_iconst (n := 256) (v := 0) d_M_write_255 rfl (by decide) ?_
            cases hf
            exact g_iret d_M_write_256 rfl (Nat.zero_le _) (Nat.zero_le _)
        · have hf := ob_neg q63 hf
          refine g_bipush (n := 210) (v := 32) d_M_write_208 rfl (by decide) ?_
          refine g_iload (n := 212) d_M_write_210 rfl 6 rfl ?_
          refine g_imul (n := 213) d_M_write_212 rfl ?_
          refine g_iload (n := 215) d_M_write_213 rfl 5 rfl ?_
          refine g_isub (n := 216) d_M_write_215 rfl ?_
          refine g_goto (n := 221) d_M_write_216 (by decide) ?_
          refine g_istore (n := 223) (ls' := [(9, .int ((32 * x7) - x6)), (0, .ref 18), (1, .int x1), (2, .long x2), (4, .int x4), (5, .int x5), (6, .int x6), (7, .int x7), (8, .int x8)]) d_M_write_221 rfl (am_ltb rfl) rfl ?_
          refine g_aload_n (n := 224) d_M_write_223 rfl 1 rfl rfl ?_
          refine g_aload_n (n := 225) d_M_write_224 rfl 1 rfl rfl ?_
          refine g_get (n := 228) (q0 := 18) d_M_write_225 rfl (am_fl in_M rfl (by decide : 4 < 20)) (List.mem_cons_of_mem _ tw_869) rfl rfl ?_
          refine g_if_eq (n := 231) (tgt := 235) d_M_write_228 rfl (by decide) (fun q84 => ?_) (fun q84 => ?_)
          · have hf := ob_pos q84 hf
            refine g_iload (n := 237) d_M_write_235 rfl 0 rfl ?_
            refine g_if_gt (n := 240) (tgt := 244) d_M_write_237 rfl (by decide) (fun q85 => ?_) (fun q85 => ?_)
            · have hf := ob_pos q85 hf
              refine g_iconst (n := 245) (v := 0) d_M_write_244 rfl (by decide) ?_
              refine g_put (n := 248) (q0 := 18) (h' := (hM hx w.1 w.2.1 w.2.2.1 w.2.2.2.1 w.2.2.2.2.1 w.2.2.2.2.2.1 w.2.2.2.2.2.2.1 w.2.2.2.2.2.2.2.1 w.2.2.2.2.2.2.2.2 0 sp mp mf ml ps nm mu ch wy nx rest)) d_M_write_245 rfl (am_fl in_M rfl (by decide : 0 < 20)) typ_M (List.mem_cons_of_mem _ tw_865) rfl (fun _ _ => rfl) (fun _ _ => rfl) rfl (am_ltb rfl) rfl ?_
              refine g_aload_n (n := 249) d_M_write_248 rfl 1 rfl rfl ?_
              refine g_get (n := 252) (q0 := 18) d_M_write_249 rfl (am_fl in_M rfl (by decide : 0 < 20)) (List.mem_cons_of_mem _ tw_865) rfl rfl ?_
              refine g_if_le (n := 255) (tgt := 257) d_M_write_252 rfl (by decide) (fun _ => ?_) (fun q86 => absurd q86 (by decide))
              refine g_aload_n (n := 258) d_M_write_257 rfl 1 rfl rfl ?_
              refine g_iload (n := 260) d_M_write_258 rfl 5 rfl ?_
              refine g_iload (n := 262) d_M_write_260 rfl 6 rfl ?_
              refine g_iload (n := 264) d_M_write_262 rfl 0 rfl ?_
              refine g_lload_n (n := 265) d_M_write_264 rfl 3 rfl rfl ?_
              refine g_iload (n := 267) d_M_write_265 rfl 4 rfl ?_
              obtain ⟨r87, h88, hf⟩ := ob_bind hf
              refine c_Vr (n := 270) (st' := []) [.int x5, .int x6, .int ((32 * x7) - x6), .long x2, .int x4] [] d_M_write_267 rfl (s_M_fill htr h88 rfl) tw_1102 tw_1104 (am_memS 43 (by decide +kernel) (by decide +kernel)) tw_8 tw_1105 hd_M_fill (by omega) (by decide) (ci := 7) rfl rfl rfl (Nat.le_of_ble_eq_true rfl) rfl rfl ?_
              refine g_iload (n := 272) d_M_write_270 rfl 6 rfl ?_
              refine g_iload (n := 274) d_M_write_272 rfl 0 rfl ?_
              refine g_iadd (n := 275) d_M_write_274 rfl ?_
              refine g_aload_n (n := 276) d_M_write_275 rfl 1 rfl rfl ?_
              refine g_iload (n := 278) d_M_write_276 rfl 5 rfl ?_
              refine g_bipush (n := 280) (v := 10) d_M_write_278 rfl (by decide) ?_
              refine g_iadd (n := 281) d_M_write_280 rfl ?_
              obtain ⟨r89, h90, hf⟩ := ob_bind hf
              refine c_Vr (n := 284) (st' := [.int r89, .int (x6 + ((32 * x7) - x6))]) [.int (x5 + 10)] [.int (x6 + ((32 * x7) - x6))] d_M_write_281 rfl (s_M_numberAt htr h90 rfl) tw_957 tw_959 (am_memS 17 (by decide +kernel) (by decide +kernel)) tw_8 tw_960 hd_M_numberAt (by omega) (by decide) (ci := 7) rfl rfl rfl (Nat.le_of_ble_eq_true rfl) rfl rfl ?_
              refine g_icmp_le (n := 287) (tgt := 301) d_M_write_284 rfl (by decide) (fun q91 => ?_) (fun q91 => ?_)
              · have hf := ob_pos q91 hf
                refine g_aload_n (n := 302) d_M_write_301 rfl 1 rfl rfl ?_
                refine g_aload_n (n := 303) d_M_write_302 rfl 1 rfl rfl ?_
                refine g_get (n := 306) (q0 := 18) d_M_write_303 rfl (am_fl in_M rfl (by decide : 4 < 20)) (List.mem_cons_of_mem _ tw_869) rfl rfl ?_
                refine g_if_eq (n := 309) (tgt := 313) d_M_write_306 rfl (by decide) (fun q92 => ?_) (fun q92 => ?_)
                · have hf := ob_pos q92 hf
                  refine g_iconst (n := 314) (v := 0) d_M_write_313 rfl (by decide) ?_
                  refine g_put (n := 317) (q0 := 18) (h' := (hM hx r87.1 r87.2.1 r87.2.2.1 r87.2.2.2.1 r87.2.2.2.2.1 r87.2.2.2.2.2.1 r87.2.2.2.2.2.2.1 r87.2.2.2.2.2.2.2.1 r87.2.2.2.2.2.2.2.2 0 sp mp mf ml ps nm mu ch wy nx rest)) d_M_write_314 rfl (am_fl in_M rfl (by decide : 0 < 20)) typ_M (List.mem_cons_of_mem _ tw_865) rfl (fun _ _ => rfl) (fun _ _ => rfl) rfl (am_ltb rfl) rfl ?_
                  refine g_aload_n (n := 318) d_M_write_317 rfl 1 rfl rfl ?_
                  refine g_get (n := 321) (q0 := 18) d_M_write_318 rfl (am_fl in_M rfl (by decide : 4 < 20)) (List.mem_cons_of_mem _ tw_869) rfl rfl ?_
                  refine g_if_eq (n := 324) (tgt := 326) d_M_write_321 rfl (by decide) (fun _ => ?_) (fun q93 => absurd q92 q93)
                  refine g_aload_n (n := 327) d_M_write_326 rfl 1 rfl rfl ?_
                  refine g_get (n := 330) (q0 := 18) d_M_write_327 rfl (am_fl in_M rfl (by decide : 12 < 20)) (List.mem_cons_of_mem _ tw_877) rfl rfl ?_
                  refine g_iload_n (n := 331) d_M_write_330 rfl 2 rfl rfl ?_
                  refine g_iload (n := 333) d_M_write_331 rfl 6 rfl ?_
                  refine g_iload (n := 335) d_M_write_333 rfl 0 rfl ?_
                  refine g_iadd (n := 336) d_M_write_335 rfl ?_
                  obtain ⟨b94, hf⟩ := ob_chk hf
                  refine g_iast (n := 337) (q0 := 22) (h' := (hM hx r87.1 r87.2.1 r87.2.2.1 r87.2.2.2.1 r87.2.2.2.2.1 r87.2.2.2.2.2.1 r87.2.2.2.2.2.2.1 r87.2.2.2.2.2.2.2.1 r87.2.2.2.2.2.2.2.2 0 sp mp mf ml (upd ps x1.toNatClampNeg (x6 + ((32 * x7) - x6))) nm mu ch wy nx rest)) d_M_write_336 rfl rfl (am_inl b94) rfl ?_
                  refine g_iload (n := 339) d_M_write_337 rfl 0 rfl ?_
                  cases hf
                  exact g_iret d_M_write_339 rfl (Nat.zero_le _) (Nat.zero_le _)
                · have hf := ob_neg q92 hf
                  refine g_iconst (n := 310) (v := 1) d_M_write_309 rfl (by decide) ?_
                  refine g_goto (n := 314) d_M_write_310 (by decide) ?_
                  refine g_put (n := 317) (q0 := 18) (h' := (hM hx r87.1 r87.2.1 r87.2.2.1 r87.2.2.2.1 r87.2.2.2.2.1 r87.2.2.2.2.2.1 r87.2.2.2.2.2.2.1 r87.2.2.2.2.2.2.2.1 r87.2.2.2.2.2.2.2.2 1 sp mp mf ml ps nm mu ch wy nx rest)) d_M_write_314 rfl (am_fl in_M rfl (by decide : 0 < 20)) typ_M (List.mem_cons_of_mem _ tw_865) rfl (fun _ _ => rfl) (fun _ _ => rfl) rfl (am_ltb rfl) rfl ?_
                  refine g_aload_n (n := 318) d_M_write_317 rfl 1 rfl rfl ?_
                  refine g_get (n := 321) (q0 := 18) d_M_write_318 rfl (am_fl in_M rfl (by decide : 4 < 20)) (List.mem_cons_of_mem _ tw_869) rfl rfl ?_
                  refine g_if_eq (n := 324) (tgt := 326) d_M_write_321 rfl (by decide) (fun q95 => absurd q95 q92) (fun _ => ?_)
                  refine g_iconst (n := 325) (v := 0) d_M_write_324 rfl (by decide) ?_
                  cases hf
                  exact g_iret d_M_write_325 rfl (Nat.zero_le _) (Nat.zero_le _)
              · have hf := ob_neg q91 hf
                refine g_aload_n (n := 288) d_M_write_287 rfl 1 rfl rfl ?_
                refine g_iload (n := 290) d_M_write_288 rfl 5 rfl ?_
                refine g_bipush (n := 292) (v := 10) d_M_write_290 rfl (by decide) ?_
                refine g_iadd (n := 293) d_M_write_292 rfl ?_
                refine g_iload (n := 295) d_M_write_293 rfl 6 rfl ?_
                refine g_iload (n := 297) d_M_write_295 rfl 0 rfl ?_
                refine g_iadd (n := 298) d_M_write_297 rfl ?_
                obtain ⟨r96, h97, hf⟩ := ob_bind hf
                refine c_Vr (n := 301) (st' := []) [.int (x5 + 10), .int (x6 + ((32 * x7) - x6))] [] d_M_write_298 rfl (s_M_writeNumber htr h97 rfl) tw_1098 tw_1100 (am_memS 42 (by decide +kernel) (by decide +kernel)) tw_8 tw_1101 hd_M_writeNumber (by omega) (by decide) (ci := 7) rfl rfl rfl (Nat.le_of_ble_eq_true rfl) rfl rfl ?_
                refine g_aload_n (n := 302) d_M_write_301 rfl 1 rfl rfl ?_
                refine g_aload_n (n := 303) d_M_write_302 rfl 1 rfl rfl ?_
                refine g_get (n := 306) (q0 := 18) d_M_write_303 rfl (am_fl in_M rfl (by decide : 4 < 20)) (List.mem_cons_of_mem _ tw_869) rfl rfl ?_
                refine g_if_eq (n := 309) (tgt := 313) d_M_write_306 rfl (by decide) (fun q98 => ?_) (fun q98 => ?_)
                · have hf := ob_pos q98 hf
                  refine g_iconst (n := 314) (v := 0) d_M_write_313 rfl (by decide) ?_
                  refine g_put (n := 317) (q0 := 18) (h' := (hM hx r96.1 r96.2.1 r96.2.2.1 r96.2.2.2.1 r96.2.2.2.2.1 r96.2.2.2.2.2.1 r96.2.2.2.2.2.2.1 r96.2.2.2.2.2.2.2.1 r96.2.2.2.2.2.2.2.2 0 sp mp mf ml ps nm mu ch wy nx rest)) d_M_write_314 rfl (am_fl in_M rfl (by decide : 0 < 20)) typ_M (List.mem_cons_of_mem _ tw_865) rfl (fun _ _ => rfl) (fun _ _ => rfl) rfl (am_ltb rfl) rfl ?_
                  refine g_aload_n (n := 318) d_M_write_317 rfl 1 rfl rfl ?_
                  refine g_get (n := 321) (q0 := 18) d_M_write_318 rfl (am_fl in_M rfl (by decide : 4 < 20)) (List.mem_cons_of_mem _ tw_869) rfl rfl ?_
                  refine g_if_eq (n := 324) (tgt := 326) d_M_write_321 rfl (by decide) (fun _ => ?_) (fun q99 => absurd q98 q99)
                  refine g_aload_n (n := 327) d_M_write_326 rfl 1 rfl rfl ?_
                  refine g_get (n := 330) (q0 := 18) d_M_write_327 rfl (am_fl in_M rfl (by decide : 12 < 20)) (List.mem_cons_of_mem _ tw_877) rfl rfl ?_
                  refine g_iload_n (n := 331) d_M_write_330 rfl 2 rfl rfl ?_
                  refine g_iload (n := 333) d_M_write_331 rfl 6 rfl ?_
                  refine g_iload (n := 335) d_M_write_333 rfl 0 rfl ?_
                  refine g_iadd (n := 336) d_M_write_335 rfl ?_
                  obtain ⟨b100, hf⟩ := ob_chk hf
                  refine g_iast (n := 337) (q0 := 22) (h' := (hM hx r96.1 r96.2.1 r96.2.2.1 r96.2.2.2.1 r96.2.2.2.2.1 r96.2.2.2.2.2.1 r96.2.2.2.2.2.2.1 r96.2.2.2.2.2.2.2.1 r96.2.2.2.2.2.2.2.2 0 sp mp mf ml (upd ps x1.toNatClampNeg (x6 + ((32 * x7) - x6))) nm mu ch wy nx rest)) d_M_write_336 rfl rfl (am_inl b100) rfl ?_
                  refine g_iload (n := 339) d_M_write_337 rfl 0 rfl ?_
                  cases hf
                  exact g_iret d_M_write_339 rfl (Nat.zero_le _) (Nat.zero_le _)
                · have hf := ob_neg q98 hf
                  refine g_iconst (n := 310) (v := 1) d_M_write_309 rfl (by decide) ?_
                  refine g_goto (n := 314) d_M_write_310 (by decide) ?_
                  refine g_put (n := 317) (q0 := 18) (h' := (hM hx r96.1 r96.2.1 r96.2.2.1 r96.2.2.2.1 r96.2.2.2.2.1 r96.2.2.2.2.2.1 r96.2.2.2.2.2.2.1 r96.2.2.2.2.2.2.2.1 r96.2.2.2.2.2.2.2.2 1 sp mp mf ml ps nm mu ch wy nx rest)) d_M_write_314 rfl (am_fl in_M rfl (by decide : 0 < 20)) typ_M (List.mem_cons_of_mem _ tw_865) rfl (fun _ _ => rfl) (fun _ _ => rfl) rfl (am_ltb rfl) rfl ?_
                  refine g_aload_n (n := 318) d_M_write_317 rfl 1 rfl rfl ?_
                  refine g_get (n := 321) (q0 := 18) d_M_write_318 rfl (am_fl in_M rfl (by decide : 4 < 20)) (List.mem_cons_of_mem _ tw_869) rfl rfl ?_
                  refine g_if_eq (n := 324) (tgt := 326) d_M_write_321 rfl (by decide) (fun q101 => absurd q101 q98) (fun _ => ?_)
                  refine g_iconst (n := 325) (v := 0) d_M_write_324 rfl (by decide) ?_
                  cases hf
                  exact g_iret d_M_write_325 rfl (Nat.zero_le _) (Nat.zero_le _)
            · have hf := ob_neg q85 hf
              refine g_iconst (n := 241) (v := 3) d_M_write_240 rfl (by decide) ?_
              refine g_goto (n := 245) d_M_write_241 (by decide) ?_
              refine g_put (n := 248) (q0 := 18) (h' := (hM hx w.1 w.2.1 w.2.2.1 w.2.2.2.1 w.2.2.2.2.1 w.2.2.2.2.2.1 w.2.2.2.2.2.2.1 w.2.2.2.2.2.2.2.1 w.2.2.2.2.2.2.2.2 3 sp mp mf ml ps nm mu ch wy nx rest)) d_M_write_245 rfl (am_fl in_M rfl (by decide : 0 < 20)) typ_M (List.mem_cons_of_mem _ tw_865) rfl (fun _ _ => rfl) (fun _ _ => rfl) rfl (am_ltb rfl) rfl ?_
              refine g_aload_n (n := 249) d_M_write_248 rfl 1 rfl rfl ?_
              refine g_get (n := 252) (q0 := 18) d_M_write_249 rfl (am_fl in_M rfl (by decide : 0 < 20)) (List.mem_cons_of_mem _ tw_865) rfl rfl ?_
              refine g_if_le (n := 255) (tgt := 257) d_M_write_252 rfl (by decide) (fun q102 => absurd q102 (by decide)) (fun _ => ?_)
              refine g_iconst (n := 256) (v := 0) d_M_write_255 rfl (by decide) ?_
              cases hf
              exact g_iret d_M_write_256 rfl (Nat.zero_le _) (Nat.zero_le _)
          · have hf := ob_neg q84 hf
            refine g_iconst (n := 232) (v := 1) d_M_write_231 rfl (by decide) ?_
            refine g_goto (n := 245) d_M_write_232 (by decide) ?_
            refine g_put (n := 248) (q0 := 18) (h' := (hM hx w.1 w.2.1 w.2.2.1 w.2.2.2.1 w.2.2.2.2.1 w.2.2.2.2.2.1 w.2.2.2.2.2.2.1 w.2.2.2.2.2.2.2.1 w.2.2.2.2.2.2.2.2 1 sp mp mf ml ps nm mu ch wy nx rest)) d_M_write_245 rfl (am_fl in_M rfl (by decide : 0 < 20)) typ_M (List.mem_cons_of_mem _ tw_865) rfl (fun _ _ => rfl) (fun _ _ => rfl) rfl (am_ltb rfl) rfl ?_
            refine g_aload_n (n := 249) d_M_write_248 rfl 1 rfl rfl ?_
            refine g_get (n := 252) (q0 := 18) d_M_write_249 rfl (am_fl in_M rfl (by decide : 0 < 20)) (List.mem_cons_of_mem _ tw_865) rfl rfl ?_
            refine g_if_le (n := 255) (tgt := 257) d_M_write_252 rfl (by decide) (fun q103 => absurd q103 (by decide)) (fun _ => ?_)
            refine g_iconst (n := 256) (v := 0) d_M_write_255 rfl (by decide) ?_
            cases hf
            exact g_iret d_M_write_256 rfl (Nat.zero_le _) (Nat.zero_le _)
      · have hf := ob_neg q62 hf
        refine g_aload_n (n := 118) d_M_write_117 rfl 0 rfl rfl ?_
        refine g_get (n := 121) (q0 := 18) d_M_write_118 rfl (am_fl in_M rfl (by decide : 4 < 20)) (List.mem_cons_of_mem _ tw_869) rfl rfl ?_
        refine g_if_ne (n := 124) (tgt := 195) d_M_write_121 rfl (by decide) (fun q104 => ?_) (fun q104 => ?_)
        · have hf := ob_neg q104 hf
          refine g_bipush (n := 197) (v := 32) d_M_write_195 rfl (by decide) ?_
          refine g_iload (n := 199) d_M_write_197 rfl 6 rfl ?_
          refine g_imul (n := 200) d_M_write_199 rfl ?_
          refine g_iload (n := 202) d_M_write_200 rfl 5 rfl ?_
          refine g_isub (n := 203) d_M_write_202 rfl ?_
          refine g_iload (n := 205) d_M_write_203 rfl 3 rfl ?_
          refine g_icmp_ge (n := 208) (tgt := 219) d_M_write_205 rfl (by decide) (fun q105 => ?_) (fun q105 => ?_)
          · have hf := ob_pos q105 hf
            refine g_iload (n := 221) d_M_write_219 rfl 3 rfl ?_
            refine g_istore (n := 223) (ls' := [(9, .int x4), (0, .ref 18), (1, .int x1), (2, .long x2), (4, .int x4), (5, .int x5), (6, .int x6), (7, .int x7), (8, .int x8)]) d_M_write_221 rfl (am_ltb rfl) rfl ?_
            refine g_aload_n (n := 224) d_M_write_223 rfl 1 rfl rfl ?_
            refine g_aload_n (n := 225) d_M_write_224 rfl 1 rfl rfl ?_
            refine g_get (n := 228) (q0 := 18) d_M_write_225 rfl (am_fl in_M rfl (by decide : 4 < 20)) (List.mem_cons_of_mem _ tw_869) rfl rfl ?_
            refine g_if_eq (n := 231) (tgt := 235) d_M_write_228 rfl (by decide) (fun q106 => absurd q106 q104) (fun _ => ?_)
            refine g_iconst (n := 232) (v := 1) d_M_write_231 rfl (by decide) ?_
            refine g_goto (n := 245) d_M_write_232 (by decide) ?_
            refine g_put (n := 248) (q0 := 18) (h' := (hM hx w.1 w.2.1 w.2.2.1 w.2.2.2.1 w.2.2.2.2.1 w.2.2.2.2.2.1 w.2.2.2.2.2.2.1 w.2.2.2.2.2.2.2.1 w.2.2.2.2.2.2.2.2 1 sp mp mf ml ps nm mu ch wy nx rest)) d_M_write_245 rfl (am_fl in_M rfl (by decide : 0 < 20)) typ_M (List.mem_cons_of_mem _ tw_865) rfl (fun _ _ => rfl) (fun _ _ => rfl) rfl (am_ltb rfl) rfl ?_
            refine g_aload_n (n := 249) d_M_write_248 rfl 1 rfl rfl ?_
            refine g_get (n := 252) (q0 := 18) d_M_write_249 rfl (am_fl in_M rfl (by decide : 0 < 20)) (List.mem_cons_of_mem _ tw_865) rfl rfl ?_
            refine g_if_le (n := 255) (tgt := 257) d_M_write_252 rfl (by decide) (fun q107 => absurd q107 (by decide)) (fun _ => ?_)
            refine g_iconst (n := 256) (v := 0) d_M_write_255 rfl (by decide) ?_
            cases hf
            exact g_iret d_M_write_256 rfl (Nat.zero_le _) (Nat.zero_le _)
          · have hf := ob_neg q105 hf
            refine g_bipush (n := 210) (v := 32) d_M_write_208 rfl (by decide) ?_
            refine g_iload (n := 212) d_M_write_210 rfl 6 rfl ?_
            refine g_imul (n := 213) d_M_write_212 rfl ?_
            refine g_iload (n := 215) d_M_write_213 rfl 5 rfl ?_
            refine g_isub (n := 216) d_M_write_215 rfl ?_
            refine g_goto (n := 221) d_M_write_216 (by decide) ?_
            refine g_istore (n := 223) (ls' := [(9, .int ((32 * x7) - x6)), (0, .ref 18), (1, .int x1), (2, .long x2), (4, .int x4), (5, .int x5), (6, .int x6), (7, .int x7), (8, .int x8)]) d_M_write_221 rfl (am_ltb rfl) rfl ?_
            refine g_aload_n (n := 224) d_M_write_223 rfl 1 rfl rfl ?_
            refine g_aload_n (n := 225) d_M_write_224 rfl 1 rfl rfl ?_
            refine g_get (n := 228) (q0 := 18) d_M_write_225 rfl (am_fl in_M rfl (by decide : 4 < 20)) (List.mem_cons_of_mem _ tw_869) rfl rfl ?_
            refine g_if_eq (n := 231) (tgt := 235) d_M_write_228 rfl (by decide) (fun q108 => absurd q108 q104) (fun _ => ?_)
            refine g_iconst (n := 232) (v := 1) d_M_write_231 rfl (by decide) ?_
            refine g_goto (n := 245) d_M_write_232 (by decide) ?_
            refine g_put (n := 248) (q0 := 18) (h' := (hM hx w.1 w.2.1 w.2.2.1 w.2.2.2.1 w.2.2.2.2.1 w.2.2.2.2.2.1 w.2.2.2.2.2.2.1 w.2.2.2.2.2.2.2.1 w.2.2.2.2.2.2.2.2 1 sp mp mf ml ps nm mu ch wy nx rest)) d_M_write_245 rfl (am_fl in_M rfl (by decide : 0 < 20)) typ_M (List.mem_cons_of_mem _ tw_865) rfl (fun _ _ => rfl) (fun _ _ => rfl) rfl (am_ltb rfl) rfl ?_
            refine g_aload_n (n := 249) d_M_write_248 rfl 1 rfl rfl ?_
            refine g_get (n := 252) (q0 := 18) d_M_write_249 rfl (am_fl in_M rfl (by decide : 0 < 20)) (List.mem_cons_of_mem _ tw_865) rfl rfl ?_
            refine g_if_le (n := 255) (tgt := 257) d_M_write_252 rfl (by decide) (fun q109 => absurd q109 (by decide)) (fun _ => ?_)
            refine g_iconst (n := 256) (v := 0) d_M_write_255 rfl (by decide) ?_
            cases hf
            exact g_iret d_M_write_256 rfl (Nat.zero_le _) (Nat.zero_le _)
        · have hf := ob_pos q104 hf
          refine g_aload_n (n := 125) d_M_write_124 rfl 0 rfl rfl ?_
          obtain ⟨r110, h111, hf⟩ := ob_bind hf
          refine c_Vr (n := 128) (st' := [.int r110.1]) [] [] d_M_write_125 rfl (s_M_take htr h111 rfl) tw_1017 tw_1019 (am_memS 29 (by decide +kernel) (by decide +kernel)) tw_8 tw_1020 hd_M_take (by omega) (by decide) (ci := 7) rfl rfl rfl (Nat.le_of_ble_eq_true rfl) rfl rfl ?_
          refine g_istore (n := 130) (ls' := [(9, .int r110.1), (0, .ref 18), (1, .int x1), (2, .long x2), (4, .int x4), (5, .int x5), (6, .int x6), (7, .int x7), (8, .int x8)]) d_M_write_128 rfl (am_ltb rfl) rfl ?_
          refine g_iload (n := 132) d_M_write_130 rfl 0 rfl ?_
          refine g_if_le (n := 135) (tgt := 139) d_M_write_132 rfl (by decide) (fun q112 => ?_) (fun q112 => ?_)
          · have hf := ob_pos q112 hf
            refine g_iconst (n := 140) (v := 0) d_M_write_139 rfl (by decide) ?_
            refine g_istore (n := 142) (ls' := [(8, .int 0), (9, .int r110.1), (0, .ref 18), (1, .int x1), (2, .long x2), (4, .int x4), (5, .int x5), (6, .int x6), (7, .int x7)]) d_M_write_140 rfl (am_ltb rfl) rfl ?_
            refine g_iload (n := 144) d_M_write_142 rfl 0 rfl ?_
            refine g_if_eq (n := 147) (tgt := 192) d_M_write_144 rfl (by decide) (fun _ => ?_) (fun q113 => absurd q113 (by decide))
            refine g_goto (n := 99) d_M_write_192 (by decide) ?_
            refine g_ls [2, 3, 4, 5, 6, 7, 8, 0] rfl ?_
            exact ih r110.2 th sp ps x1 x2 x4 x5 x6 x7 0 _ hf _ rfl
          · have hf := ob_neg q112 hf
            refine g_iconst (n := 136) (v := 1) d_M_write_135 rfl (by decide) ?_
            refine g_goto (n := 140) d_M_write_136 (by decide) ?_
            refine g_istore (n := 142) (ls' := [(8, .int 1), (9, .int r110.1), (0, .ref 18), (1, .int x1), (2, .long x2), (4, .int x4), (5, .int x5), (6, .int x6), (7, .int x7)]) d_M_write_140 rfl (am_ltb rfl) rfl ?_
            refine g_iload (n := 144) d_M_write_142 rfl 0 rfl ?_
            refine g_if_eq (n := 147) (tgt := 192) d_M_write_144 rfl (by decide) (fun q114 => absurd q114 (by decide)) (fun _ => ?_)
            refine g_iload (n := 149) d_M_write_147 rfl 8 rfl ?_
            refine g_if_ne (n := 152) (tgt := 166) d_M_write_149 rfl (by decide) (fun q115 => ?_) (fun q115 => ?_)
            · have hf := ob_neg q115 hf
              refine g_aload_n (n := 167) d_M_write_166 rfl 2 rfl rfl ?_
              refine g_aload_n (n := 168) d_M_write_167 rfl 2 rfl rfl ?_
              refine g_aload_n (n := 169) d_M_write_168 rfl 2 rfl rfl ?_
              refine g_iload (n := 171) d_M_write_169 rfl 6 rfl ?_
              refine g_bipush (n := 173) (v := 8) d_M_write_171 rfl (by decide) ?_
              refine g_iadd (n := 174) d_M_write_173 rfl ?_
              obtain ⟨r116, h117, hf⟩ := ob_bind hf
              refine c_Vr (n := 177) (st' := [.int r116, .ref 18, .ref 18]) [.int (x5 + 8)] [.ref 18, .ref 18] d_M_write_174 rfl (s_M_numberAt htr h117 rfl) tw_957 tw_959 (am_memS 17 (by decide +kernel) (by decide +kernel)) tw_8 tw_960 hd_M_numberAt (by omega) (by decide) (ci := 7) rfl rfl rfl (Nat.le_of_ble_eq_true rfl) rfl rfl ?_
              refine g_iload (n := 179) d_M_write_177 rfl 8 rfl ?_
              refine g_iconst (n := 180) (v := 1) d_M_write_179 rfl (by decide) ?_
              refine g_isub (n := 181) d_M_write_180 rfl ?_
              obtain ⟨r118, h119, hf⟩ := ob_bind hf
              refine c_Vr (n := 184) (st' := [.int r118, .ref 18]) [.int r116, .int (x7 - 1)] [.ref 18] d_M_write_181 rfl (s_M_cluster htr h119 rfl) tw_949 tw_951 (am_memS 15 (by decide +kernel) (by decide +kernel)) tw_8 tw_952 hd_M_cluster (by omega) (by decide) (ci := 7) rfl rfl rfl (Nat.le_of_ble_eq_true rfl) rfl rfl ?_
              refine g_iload (n := 186) d_M_write_184 rfl 1 rfl ?_
              obtain ⟨r120, h121, hf⟩ := ob_bind hf
              refine c_Vr (n := 189) (st' := []) [.int r118, .int r110.1] [] d_M_write_186 rfl (s_M_set htr h121 rfl) tw_1021 tw_1023 (am_memS 30 (by decide +kernel) (by decide +kernel)) tw_8 tw_1024 hd_M_set (by omega) (by decide) (ci := 7) rfl rfl rfl (Nat.le_of_ble_eq_true rfl) rfl rfl ?_
              refine g_iinc (n := 192) (v := (x7 + 1)) (ls' := [(7, .int (x7 + 1)), (8, .int 1), (9, .int r110.1), (0, .ref 18), (1, .int x1), (2, .long x2), (4, .int x4), (5, .int x5), (6, .int x6)]) d_M_write_189 rfl 8 rfl rfl (am_ltb rfl) rfl ?_
              refine g_goto (n := 99) d_M_write_192 (by decide) ?_
              refine g_ls [3, 4, 5, 6, 7, 8, 0, 1] rfl ?_
              exact ih r120 th sp ps x1 x2 x4 x5 x6 (x7 + 1) 1 _ hf _ rfl
            · have hf := ob_pos q115 hf
              refine g_aload_n (n := 153) d_M_write_152 rfl 2 rfl rfl ?_
              refine g_iload (n := 155) d_M_write_153 rfl 6 rfl ?_
              refine g_bipush (n := 157) (v := 8) d_M_write_155 rfl (by decide) ?_
              refine g_iadd (n := 158) d_M_write_157 rfl ?_
              refine g_iload (n := 160) d_M_write_158 rfl 1 rfl ?_
              obtain ⟨r122, h123, hf⟩ := ob_bind hf
              refine c_Vr (n := 163) (st' := []) [.int (x5 + 8), .int r110.1] [] d_M_write_160 rfl (s_M_writeNumber htr h123 rfl) tw_1098 tw_1100 (am_memS 42 (by decide +kernel) (by decide +kernel)) tw_8 tw_1101 hd_M_writeNumber (by omega) (by decide) (ci := 7) rfl rfl rfl (Nat.le_of_ble_eq_true rfl) rfl rfl ?_
              refine g_goto (n := 189) d_M_write_163 (by decide) ?_
              refine g_iinc (n := 192) (v := (x7 + 1)) (ls' := [(7, .int (x7 + 1)), (8, .int 1), (9, .int r110.1), (0, .ref 18), (1, .int x1), (2, .long x2), (4, .int x4), (5, .int x5), (6, .int x6)]) d_M_write_189 rfl 8 rfl rfl (am_ltb rfl) rfl ?_
              refine g_goto (n := 99) d_M_write_192 (by decide) ?_
              refine g_ls [3, 4, 5, 6, 7, 8, 0, 1] rfl ?_
              exact ih r122 th sp ps x1 x2 x4 x5 x6 (x7 + 1) 1 _ hf _ rfl
