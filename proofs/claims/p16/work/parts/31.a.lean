def f_M_type (ty : Int32) (th : Int32) (ml : Nat → Int32) (x1 : Int32) : Option (Int32 × Int32 × Int32 × (Nat → Int32)) :=
  (if x1 < 33 then some (0, ty, 0, ml) else (if 126 < x1 then some (0, ty, 0, ml) else (if x1 = 47 then some (0, ty, 0, ml) else (if ty = 26 then some (0, ty, 0, ml) else (if am_in ty 26 = true then some (1, (ty + 1), 0, (upd ml ty.toNatClampNeg x1)) else none)))))
set_option maxHeartbeats 4000000 in
set_option maxRecDepth 100000 in
theorem s_M_type {l : Launch} {D : va_G} {dA : FieldType → ClassId} (htr : l.stackTraces = false) {hx : Nat → am_E} {rest : List am_E} {on : Int32} {dd : Int32} {mw : Int32} {cu : Int32} {ty : Int32} {mh : Int32} {md : Int32} {dk : Nat → Int32} {op : Nat → Int32} {th : Int32} {sp : Int32} {mp : Int32} {mf : Int32} {ml : Nat → Int32} {ps : Nat → Int32} {nm : Nat → Int32} {mu : Nat → Int32} {ch : Nat → Int32} {wy : Nat → Int32} {nx : Nat → Int32}  {x1 : Int32} {r : Int32 × Int32 × Int32 × (Nat → Int32)} (hf : f_M_type ty th ml x1 = some r) {o : am_O} (ho : .inl (some (.int r.1)) = o) :
    am_M (am_kk l D dA) y_M_type ws_M_type (am_rm 0 o) [.ref 18, .int x1] (hM hx on dd mw cu ty mh md dk op th sp mp mf ml ps nm mu ch wy nx rest) o (hM hx on dd mw cu r.2.1 mh md dk op r.2.2.1 sp mp mf r.2.2.2 ps nm mu ch wy nx rest) := by
  subst ho
  refine am_body (by decide) rfl (Nat.le_of_ble_eq_true rfl) rfl ?_
  rw [f_M_type] at hf
  refine g_aload_n (n := 1) d_M_type_0 rfl 0 rfl rfl ?_
  refine g_iconst (n := 2) (v := 0) d_M_type_1 rfl (by decide) ?_
  refine g_put (n := 5) (q0 := 18) (h' := (hM hx on dd mw cu ty mh md dk op 0 sp mp mf ml ps nm mu ch wy nx rest)) d_M_type_2 rfl (am_fl in_M rfl (by decide : 0 < 20)) typ_M (List.mem_cons_of_mem _ tw_865) rfl (fun _ _ => rfl) (fun _ _ => rfl) rfl (am_ltb rfl) rfl ?_
  refine g_iload_n (n := 6) d_M_type_5 rfl 1 rfl rfl ?_
  refine g_bipush (n := 8) (v := 33) d_M_type_6 rfl (by decide) ?_
  refine g_icmp_lt (n := 11) (tgt := 32) d_M_type_8 rfl (by decide) (fun q1 => ?_) (fun q1 => ?_)
  · have hf := ob_pos q1 hf
    refine g_iconst (n := 33) (v := 0) d_M_type_32 rfl (by decide) ?_
    cases hf
    exact g_zret d_M_type_33 rfl am_z0 (Nat.zero_le _) (Nat.zero_le _)
  · have hf := ob_neg q1 hf
    refine g_iload_n (n := 12) d_M_type_11 rfl 1 rfl rfl ?_
    refine g_bipush (n := 14) (v := 126) d_M_type_12 rfl (by decide) ?_
    refine g_icmp_gt (n := 17) (tgt := 32) d_M_type_14 rfl (by decide) (fun q2 => ?_) (fun q2 => ?_)
    · have hf := ob_pos q2 hf
      refine g_iconst (n := 33) (v := 0) d_M_type_32 rfl (by decide) ?_
      cases hf
      exact g_zret d_M_type_33 rfl am_z0 (Nat.zero_le _) (Nat.zero_le _)
    · have hf := ob_neg q2 hf
      refine g_iload_n (n := 18) d_M_type_17 rfl 1 rfl rfl ?_
      refine g_bipush (n := 20) (v := 47) d_M_type_18 rfl (by decide) ?_
      refine g_icmp_eq (n := 23) (tgt := 32) d_M_type_20 rfl (by decide) (fun q3 => ?_) (fun q3 => ?_)
      · have hf := ob_pos q3 hf
        refine g_iconst (n := 33) (v := 0) d_M_type_32 rfl (by decide) ?_
        cases hf
        exact g_zret d_M_type_33 rfl am_z0 (Nat.zero_le _) (Nat.zero_le _)
      · have hf := ob_neg q3 hf
        refine g_aload_n (n := 24) d_M_type_23 rfl 0 rfl rfl ?_
        refine g_get (n := 27) (q0 := 18) d_M_type_24 rfl (am_fl in_M rfl (by decide : 8 < 20)) (List.mem_cons_of_mem _ tw_873) rfl rfl ?_
        refine g_bipush (n := 29) (v := 26) d_M_type_27 rfl (by decide) ?_
        refine g_icmp_ne (n := 32) (tgt := 34) d_M_type_29 rfl (by decide) (fun q4 => ?_) (fun q4 => ?_)
        · have hf := ob_neg q4 hf
          refine g_aload_n (n := 35) d_M_type_34 rfl 0 rfl rfl ?_
          refine g_get (n := 38) (q0 := 18) d_M_type_35 rfl (am_fl in_M rfl (by decide : 7 < 20)) (List.mem_cons_of_mem _ tw_872) rfl rfl ?_
          refine g_aload_n (n := 39) d_M_type_38 rfl 0 rfl rfl ?_
          refine g_get (n := 42) (q0 := 18) d_M_type_39 rfl (am_fl in_M rfl (by decide : 8 < 20)) (List.mem_cons_of_mem _ tw_873) rfl rfl ?_
          refine g_iload_n (n := 43) d_M_type_42 rfl 1 rfl rfl ?_
          obtain ⟨b5, hf⟩ := ob_chk hf
          refine g_iast (n := 44) (q0 := 20) (h' := (hM hx on dd mw cu ty mh md dk op 0 sp mp mf (upd ml ty.toNatClampNeg x1) ps nm mu ch wy nx rest)) d_M_type_43 rfl rfl (am_inl b5) rfl ?_
          refine g_aload_n (n := 45) d_M_type_44 rfl 0 rfl rfl ?_
          refine g_dup (n := 46) d_M_type_45 rfl rfl ?_
          refine g_get (n := 49) (q0 := 18) d_M_type_46 rfl (am_fl in_M rfl (by decide : 8 < 20)) (List.mem_cons_of_mem _ tw_873) rfl rfl ?_
          refine g_iconst (n := 50) (v := 1) d_M_type_49 rfl (by decide) ?_
          refine g_iadd (n := 51) d_M_type_50 rfl ?_
          refine g_put (n := 54) (q0 := 18) (h' := (hM hx on dd mw cu (ty + 1) mh md dk op 0 sp mp mf (upd ml ty.toNatClampNeg x1) ps nm mu ch wy nx rest)) d_M_type_51 rfl (am_fl in_M rfl (by decide : 8 < 20)) typ_M (List.mem_cons_of_mem _ tw_873) rfl (fun _ _ => rfl) (fun _ _ => rfl) rfl (am_ltb rfl) rfl ?_
          refine g_iconst (n := 55) (v := 1) d_M_type_54 rfl (by decide) ?_
          cases hf
          exact g_zret d_M_type_55 rfl am_z1 (Nat.zero_le _) (Nat.zero_le _)
        · have hf := ob_pos q4 hf
          refine g_iconst (n := 33) (v := 0) d_M_type_32 rfl (by decide) ?_
          cases hf
          exact g_zret d_M_type_33 rfl am_z0 (Nat.zero_le _) (Nat.zero_le _)
def f_M_ready (on : Int32) (dd : Int32) (th : Int32) (sp : Int32) : Option (Int32 × Int32 × Int32) :=
  (if on = 0 then some (0, 0, 1) else (if sp = 0 then some (1, 0, 0) else some (0, 0, 1)))
set_option maxHeartbeats 4000000 in
set_option maxRecDepth 100000 in
theorem s_M_ready {l : Launch} {D : va_G} {dA : FieldType → ClassId} (htr : l.stackTraces = false) {hx : Nat → am_E} {rest : List am_E} {on : Int32} {dd : Int32} {mw : Int32} {cu : Int32} {ty : Int32} {mh : Int32} {md : Int32} {dk : Nat → Int32} {op : Nat → Int32} {th : Int32} {sp : Int32} {mp : Int32} {mf : Int32} {ml : Nat → Int32} {ps : Nat → Int32} {nm : Nat → Int32} {mu : Nat → Int32} {ch : Nat → Int32} {wy : Nat → Int32} {nx : Nat → Int32}   {r : Int32 × Int32 × Int32} (hf : f_M_ready on dd th sp = some r) {o : am_O} (ho : .inl (some (.int r.1)) = o) :
    am_M (am_kk l D dA) y_M_ready ws_M_ready (am_rm 0 o) [.ref 18] (hM hx on dd mw cu ty mh md dk op th sp mp mf ml ps nm mu ch wy nx rest) o (hM hx on r.2.1 mw cu ty mh md dk op r.2.2 sp mp mf ml ps nm mu ch wy nx rest) := by
  subst ho
  refine am_body (by decide) rfl (Nat.le_of_ble_eq_true rfl) rfl ?_
  rw [f_M_ready] at hf
  refine g_aload_n (n := 1) d_M_ready_0 rfl 0 rfl rfl ?_
  refine g_iconst (n := 2) (v := 0) d_M_ready_1 rfl (by decide) ?_
  refine g_put (n := 5) (q0 := 18) (h' := (hM hx on 0 mw cu ty mh md dk op th sp mp mf ml ps nm mu ch wy nx rest)) d_M_ready_2 rfl (am_fl in_M rfl (by decide : 4 < 20)) typ_M (List.mem_cons_of_mem _ tw_869) rfl (fun _ _ => rfl) (fun _ _ => rfl) rfl (am_ltb rfl) rfl ?_
  refine g_aload_n (n := 6) d_M_ready_5 rfl 0 rfl rfl ?_
  refine g_aload_n (n := 7) d_M_ready_6 rfl 0 rfl rfl ?_
  refine g_get (n := 10) (q0 := 18) d_M_ready_7 rfl (am_fl in_M rfl (by decide : 2 < 20)) (List.mem_cons_of_mem _ tw_867) rfl rfl ?_
  refine g_if_eq (n := 13) (tgt := 24) d_M_ready_10 rfl (by decide) (fun q1 => ?_) (fun q1 => ?_)
  · have hf := ob_pos q1 hf
    refine g_iconst (n := 25) (v := 1) d_M_ready_24 rfl (by decide) ?_
    refine g_put (n := 28) (q0 := 18) (h' := (hM hx on 0 mw cu ty mh md dk op 1 sp mp mf ml ps nm mu ch wy nx rest)) d_M_ready_25 rfl (am_fl in_M rfl (by decide : 0 < 20)) typ_M (List.mem_cons_of_mem _ tw_865) rfl (fun _ _ => rfl) (fun _ _ => rfl) rfl (am_ltb rfl) rfl ?_
    refine g_aload_n (n := 29) d_M_ready_28 rfl 0 rfl rfl ?_
    refine g_get (n := 32) (q0 := 18) d_M_ready_29 rfl (am_fl in_M rfl (by decide : 0 < 20)) (List.mem_cons_of_mem _ tw_865) rfl rfl ?_
    refine g_if_ne (n := 35) (tgt := 39) d_M_ready_32 rfl (by decide) (fun _ => ?_) (fun q2 => absurd q2 (by decide))
    refine g_iconst (n := 40) (v := 0) d_M_ready_39 rfl (by decide) ?_
    cases hf
    exact g_zret d_M_ready_40 rfl am_z0 (Nat.zero_le _) (Nat.zero_le _)
  · have hf := ob_neg q1 hf
    refine g_aload_n (n := 14) d_M_ready_13 rfl 0 rfl rfl ?_
    refine g_get (n := 17) (q0 := 18) d_M_ready_14 rfl (am_fl in_M rfl (by decide : 3 < 20)) (List.mem_cons_of_mem _ tw_868) rfl rfl ?_
    refine g_if_ne (n := 20) (tgt := 24) d_M_ready_17 rfl (by decide) (fun q3 => ?_) (fun q3 => ?_)
    · have hf := ob_neg q3 hf
      refine g_iconst (n := 25) (v := 1) d_M_ready_24 rfl (by decide) ?_
      refine g_put (n := 28) (q0 := 18) (h' := (hM hx on 0 mw cu ty mh md dk op 1 sp mp mf ml ps nm mu ch wy nx rest)) d_M_ready_25 rfl (am_fl in_M rfl (by decide : 0 < 20)) typ_M (List.mem_cons_of_mem _ tw_865) rfl (fun _ _ => rfl) (fun _ _ => rfl) rfl (am_ltb rfl) rfl ?_
      refine g_aload_n (n := 29) d_M_ready_28 rfl 0 rfl rfl ?_
      refine g_get (n := 32) (q0 := 18) d_M_ready_29 rfl (am_fl in_M rfl (by decide : 0 < 20)) (List.mem_cons_of_mem _ tw_865) rfl rfl ?_
      refine g_if_ne (n := 35) (tgt := 39) d_M_ready_32 rfl (by decide) (fun _ => ?_) (fun q4 => absurd q4 (by decide))
      refine g_iconst (n := 40) (v := 0) d_M_ready_39 rfl (by decide) ?_
      cases hf
      exact g_zret d_M_ready_40 rfl am_z0 (Nat.zero_le _) (Nat.zero_le _)
    · have hf := ob_pos q3 hf
      refine g_iconst (n := 21) (v := 0) d_M_ready_20 rfl (by decide) ?_
      refine g_goto (n := 25) d_M_ready_21 (by decide) ?_
      refine g_put (n := 28) (q0 := 18) (h' := (hM hx on 0 mw cu ty mh md dk op 0 sp mp mf ml ps nm mu ch wy nx rest)) d_M_ready_25 rfl (am_fl in_M rfl (by decide : 0 < 20)) typ_M (List.mem_cons_of_mem _ tw_865) rfl (fun _ _ => rfl) (fun _ _ => rfl) rfl (am_ltb rfl) rfl ?_
      refine g_aload_n (n := 29) d_M_ready_28 rfl 0 rfl rfl ?_
      refine g_get (n := 32) (q0 := 18) d_M_ready_29 rfl (am_fl in_M rfl (by decide : 0 < 20)) (List.mem_cons_of_mem _ tw_865) rfl rfl ?_
      refine g_if_ne (n := 35) (tgt := 39) d_M_ready_32 rfl (by decide) (fun q5 => absurd q5 (by decide)) (fun _ => ?_)
      refine g_iconst (n := 36) (v := 1) d_M_ready_35 rfl (by decide) ?_
      refine g_goto (n := 40) d_M_ready_36 (by decide) ?_
      cases hf
      exact g_zret d_M_ready_40 rfl am_z1 (Nat.zero_le _) (Nat.zero_le _)
def f_M_in (x0 : Int32) (x1 : Int32) (x2 : Int32) : Option (Int32) :=
  (if x0 < x1 then some 0 else (if x2 < x0 then some 0 else some 1))
set_option maxHeartbeats 4000000 in
set_option maxRecDepth 100000 in
theorem s_M_in {l : Launch} {D : va_G} {dA : FieldType → ClassId} (htr : l.stackTraces = false) {hx : Nat → am_E} {rest : List am_E} {on : Int32} {dd : Int32} {mw : Int32} {cu : Int32} {ty : Int32} {mh : Int32} {md : Int32} {dk : Nat → Int32} {op : Nat → Int32} {th : Int32} {sp : Int32} {mp : Int32} {mf : Int32} {ml : Nat → Int32} {ps : Nat → Int32} {nm : Nat → Int32} {mu : Nat → Int32} {ch : Nat → Int32} {wy : Nat → Int32} {nx : Nat → Int32}  {x0 : Int32} {x1 : Int32} {x2 : Int32} {r : Int32} (hf : f_M_in x0 x1 x2 = some r) {o : am_O} (ho : .inl (some (.int r)) = o) :
    am_M (am_kk l D dA) y_M_in ws_M_in (am_rm 0 o) [.int x0, .int x1, .int x2] (hM hx on dd mw cu ty mh md dk op th sp mp mf ml ps nm mu ch wy nx rest) o (hM hx on dd mw cu ty mh md dk op th sp mp mf ml ps nm mu ch wy nx rest) := by
  subst ho
  refine am_body (by decide) rfl (Nat.le_of_ble_eq_true rfl) rfl ?_
  rw [f_M_in] at hf
  refine g_iload_n (n := 1) d_M_in_0 rfl 0 rfl rfl ?_
  refine g_iload_n (n := 2) d_M_in_1 rfl 1 rfl rfl ?_
  refine g_icmp_lt (n := 5) (tgt := 14) d_M_in_2 rfl (by decide) (fun q1 => ?_) (fun q1 => ?_)
  · have hf := ob_pos q1 hf
    refine g_iconst (n := 15) (v := 0) d_M_in_14 rfl (by decide) ?_
    cases hf
    exact g_zret d_M_in_15 rfl am_z0 (Nat.zero_le _) (Nat.zero_le _)
  · have hf := ob_neg q1 hf
    refine g_iload_n (n := 6) d_M_in_5 rfl 0 rfl rfl ?_
    refine g_iload_n (n := 7) d_M_in_6 rfl 2 rfl rfl ?_
    refine g_icmp_gt (n := 10) (tgt := 14) d_M_in_7 rfl (by decide) (fun q2 => ?_) (fun q2 => ?_)
    · have hf := ob_pos q2 hf
      refine g_iconst (n := 15) (v := 0) d_M_in_14 rfl (by decide) ?_
      cases hf
      exact g_zret d_M_in_15 rfl am_z0 (Nat.zero_le _) (Nat.zero_le _)
    · have hf := ob_neg q2 hf
      refine g_iconst (n := 11) (v := 1) d_M_in_10 rfl (by decide) ?_
      refine g_goto (n := 15) d_M_in_11 (by decide) ?_
      cases hf
      exact g_zret d_M_in_15 rfl am_z1 (Nat.zero_le _) (Nat.zero_le _)
def f_M_numberAt (dk : Nat → Int32) (x1 : Int32) : Option (Int32) :=
  (if am_in x1 2240 = true then (if am_in (x1 + 1) 2240 = true then some ((dk x1.toNatClampNeg) + (256 * (dk (x1 + 1).toNatClampNeg))) else none) else none)
set_option maxHeartbeats 4000000 in
set_option maxRecDepth 100000 in
theorem s_M_numberAt {l : Launch} {D : va_G} {dA : FieldType → ClassId} (htr : l.stackTraces = false) {hx : Nat → am_E} {rest : List am_E} {on : Int32} {dd : Int32} {mw : Int32} {cu : Int32} {ty : Int32} {mh : Int32} {md : Int32} {dk : Nat → Int32} {op : Nat → Int32} {th : Int32} {sp : Int32} {mp : Int32} {mf : Int32} {ml : Nat → Int32} {ps : Nat → Int32} {nm : Nat → Int32} {mu : Nat → Int32} {ch : Nat → Int32} {wy : Nat → Int32} {nx : Nat → Int32}  {x1 : Int32} {r : Int32} (hf : f_M_numberAt dk x1 = some r) {o : am_O} (ho : .inl (some (.int r)) = o) :
    am_M (am_kk l D dA) y_M_numberAt ws_M_numberAt (am_rm 0 o) [.ref 18, .int x1] (hM hx on dd mw cu ty mh md dk op th sp mp mf ml ps nm mu ch wy nx rest) o (hM hx on dd mw cu ty mh md dk op th sp mp mf ml ps nm mu ch wy nx rest) := by
  subst ho
  refine am_body (by decide) rfl (Nat.le_of_ble_eq_true rfl) rfl ?_
  rw [f_M_numberAt] at hf
  refine g_aload_n (n := 1) d_M_numberAt_0 rfl 0 rfl rfl ?_
  refine g_get (n := 4) (q0 := 18) d_M_numberAt_1 rfl (am_fl in_M rfl (by decide : 1 < 20)) (List.mem_cons_of_mem _ tw_866) rfl rfl ?_
  refine g_iload_n (n := 5) d_M_numberAt_4 rfl 1 rfl rfl ?_
  obtain ⟨b1, hf⟩ := ob_chk hf
  refine g_iald (n := 6) (q0 := 19) d_M_numberAt_5 rfl rfl (am_inl b1) ?_
  refine g_sipush (n := 9) (v := 256) d_M_numberAt_6 rfl (by decide) ?_
  refine g_aload_n (n := 10) d_M_numberAt_9 rfl 0 rfl rfl ?_
  refine g_get (n := 13) (q0 := 18) d_M_numberAt_10 rfl (am_fl in_M rfl (by decide : 1 < 20)) (List.mem_cons_of_mem _ tw_866) rfl rfl ?_
  refine g_iload_n (n := 14) d_M_numberAt_13 rfl 1 rfl rfl ?_
  refine g_iconst (n := 15) (v := 1) d_M_numberAt_14 rfl (by decide) ?_
  refine g_iadd (n := 16) d_M_numberAt_15 rfl ?_
  obtain ⟨b2, hf⟩ := ob_chk hf
  refine g_iald (n := 17) (q0 := 19) d_M_numberAt_16 rfl rfl (am_inl b2) ?_
  refine g_imul (n := 18) d_M_numberAt_17 rfl ?_
  refine g_iadd (n := 19) d_M_numberAt_18 rfl ?_
  cases hf
  exact g_iret d_M_numberAt_19 rfl (Nat.zero_le _) (Nat.zero_le _)
def f_M_cell (dk : Nat → Int32) (x1 : Int32) : Option (Int32) :=
  ((f_M_numberAt dk (2 * x1)).bind fun r1 => some r1)
set_option maxHeartbeats 4000000 in
set_option maxRecDepth 100000 in
theorem s_M_cell {l : Launch} {D : va_G} {dA : FieldType → ClassId} (htr : l.stackTraces = false) {hx : Nat → am_E} {rest : List am_E} {on : Int32} {dd : Int32} {mw : Int32} {cu : Int32} {ty : Int32} {mh : Int32} {md : Int32} {dk : Nat → Int32} {op : Nat → Int32} {th : Int32} {sp : Int32} {mp : Int32} {mf : Int32} {ml : Nat → Int32} {ps : Nat → Int32} {nm : Nat → Int32} {mu : Nat → Int32} {ch : Nat → Int32} {wy : Nat → Int32} {nx : Nat → Int32}  {x1 : Int32} {r : Int32} (hf : f_M_cell dk x1 = some r) {o : am_O} (ho : .inl (some (.int r)) = o) :
    am_M (am_kk l D dA) y_M_cell ws_M_cell (am_rm 1 o) [.ref 18, .int x1] (hM hx on dd mw cu ty mh md dk op th sp mp mf ml ps nm mu ch wy nx rest) o (hM hx on dd mw cu ty mh md dk op th sp mp mf ml ps nm mu ch wy nx rest) := by
  subst ho
  refine am_body (by decide) rfl (Nat.le_of_ble_eq_true rfl) rfl ?_
  rw [f_M_cell] at hf
  refine g_aload_n (n := 1) d_M_cell_0 rfl 0 rfl rfl ?_
  refine g_iconst (n := 2) (v := 2) d_M_cell_1 rfl (by decide) ?_
  refine g_iload_n (n := 3) d_M_cell_2 rfl 1 rfl rfl ?_
  refine g_imul (n := 4) d_M_cell_3 rfl ?_
  obtain ⟨r1, h2, hf⟩ := ob_bind hf
  refine c_Vr (n := 7) (st' := [.int r1]) [.int (2 * x1)] [] d_M_cell_4 rfl (s_M_numberAt htr h2 rfl) tw_957 tw_959 (am_memS 17 (by decide +kernel) (by decide +kernel)) tw_8 tw_960 hd_M_numberAt (by omega) (by decide) (ci := 7) rfl rfl rfl (Nat.le_of_ble_eq_true rfl) rfl rfl ?_
  cases hf
  exact g_iret d_M_cell_7 rfl (Nat.zero_le _) (Nat.zero_le _)
def f_M_cluster_L5 : Nat → (Nat → Int32) → Int32 → Int32 → Int32 → Option (Int32)
  | 0, _, _, _, _ => none
  | fuel + 1, dk, x2, x3, x4 =>
  (if x2 ≤ x4 then ((f_M_in x3 2 63).bind fun r2 => (if r2 = 0 then some 0 else some x3)) else ((f_M_in x3 2 63).bind fun r5 => (if r5 = 0 then ((f_M_in x3 2 63).bind fun r8 => (if r8 = 0 then some 0 else some x3)) else ((f_M_cell dk x3).bind fun r11 => f_M_cluster_L5 fuel dk x2 r11 (x4 + 1)))))
set_option maxHeartbeats 4000000 in
set_option maxRecDepth 100000 in
theorem s_M_cluster_L5 {l : Launch} {D : va_G} {dA : FieldType → ClassId} (htr : l.stackTraces = false) {hx : Nat → am_E} {rest : List am_E} {on : Int32} {dd : Int32} {mw : Int32} {cu : Int32} {ty : Int32} {mh : Int32} {md : Int32} {op : Nat → Int32} {th : Int32} {sp : Int32} {mp : Int32} {mf : Int32} {ml : Nat → Int32} {ps : Nat → Int32} {nm : Nat → Int32} {mu : Nat → Int32} {ch : Nat → Int32} {wy : Nat → Int32} {nx : Nat → Int32}  : ∀ (fuel : Nat) (dk : Nat → Int32) (x2 : Int32) (x3 : Int32) (x4 : Int32) (r : Int32), f_M_cluster_L5 fuel dk x2 x3 x4 = some r → ∀ o : am_O, .inl (some (.int r)) = o →
    am_G (am_kk l D dA) (ws_M_cluster, y_M_cluster.cls, prog_9_method_12_code, 5, (some .int), y_M_cluster.name, [], am_rm 2 (o), none) o (hM hx on dd mw cu ty mh md dk op th sp mp mf ml ps nm mu ch wy nx rest) 0 0 5 [(0, .ref 18), (2, .int x2), (3, .int x3), (4, .int x4)] [] (hM hx on dd mw cu ty mh md dk op th sp mp mf ml ps nm mu ch wy nx rest) := by
  intro fuel
  induction fuel with
  | zero =>
    intro dk x2 x3 x4 r hf
    cases hf
  | succ fuel ih =>
    intro dk x2 x3 x4 r hf o ho
    subst ho
    rw [f_M_cluster_L5] at hf
    refine g_iload (n := 7) d_M_cluster_5 rfl 3 rfl ?_
    refine g_iload_n (n := 8) d_M_cluster_7 rfl 1 rfl rfl ?_
    refine g_icmp_ge (n := 11) (tgt := 33) d_M_cluster_8 rfl (by decide) (fun q1 => ?_) (fun q1 => ?_)
    · have hf := ob_pos q1 hf
      refine g_iload_n (n := 34) d_M_cluster_33 rfl 2 rfl rfl ?_
      refine g_iconst (n := 35) (v := 2) d_M_cluster_34 rfl (by decide) ?_
      refine g_bipush (n := 37) (v := 63) d_M_cluster_35 rfl (by decide) ?_
      obtain ⟨r2, h3, hf⟩ := ob_bind hf
      refine c_Sr (n := 40) (st' := [.int r2]) [.int x3, .int 2, .int 63] [] d_M_cluster_37 rfl (s_M_in htr h3 rfl) tw_938 tw_939 tw_8 tw_940 rfl hd_M_in (by omega) (by decide) rfl (Nat.le_of_ble_eq_true rfl) rfl rfl ?_
      refine g_if_eq (n := 43) (tgt := 47) d_M_cluster_40 rfl (by decide) (fun q4 => ?_) (fun q4 => ?_)
      · have hf := ob_pos q4 hf
        refine g_iconst (n := 48) (v := 0) d_M_cluster_47 rfl (by decide) ?_
        cases hf
        exact g_iret d_M_cluster_48 rfl (Nat.zero_le _) (Nat.zero_le _)
      · have hf := ob_neg q4 hf
        refine g_iload_n (n := 44) d_M_cluster_43 rfl 2 rfl rfl ?_
        refine g_goto (n := 48) d_M_cluster_44 (by decide) ?_
        cases hf
        exact g_iret d_M_cluster_48 rfl (Nat.zero_le _) (Nat.zero_le _)
    · have hf := ob_neg q1 hf
      refine g_iload_n (n := 12) d_M_cluster_11 rfl 2 rfl rfl ?_
      refine g_iconst (n := 13) (v := 2) d_M_cluster_12 rfl (by decide) ?_
      refine g_bipush (n := 15) (v := 63) d_M_cluster_13 rfl (by decide) ?_
      obtain ⟨r5, h6, hf⟩ := ob_bind hf
      refine c_Sr (n := 18) (st' := [.int r5]) [.int x3, .int 2, .int 63] [] d_M_cluster_15 rfl (s_M_in htr h6 rfl) tw_938 tw_939 tw_8 tw_940 rfl hd_M_in (by omega) (by decide) rfl (Nat.le_of_ble_eq_true rfl) rfl rfl ?_
      refine g_if_eq (n := 21) (tgt := 33) d_M_cluster_18 rfl (by decide) (fun q7 => ?_) (fun q7 => ?_)
      · have hf := ob_pos q7 hf
        refine g_iload_n (n := 34) d_M_cluster_33 rfl 2 rfl rfl ?_
        refine g_iconst (n := 35) (v := 2) d_M_cluster_34 rfl (by decide) ?_
        refine g_bipush (n := 37) (v := 63) d_M_cluster_35 rfl (by decide) ?_
        obtain ⟨r8, h9, hf⟩ := ob_bind hf
        refine c_Sr (n := 40) (st' := [.int r8]) [.int x3, .int 2, .int 63] [] d_M_cluster_37 rfl (s_M_in htr h9 rfl) tw_938 tw_939 tw_8 tw_940 rfl hd_M_in (by omega) (by decide) rfl (Nat.le_of_ble_eq_true rfl) rfl rfl ?_
        refine g_if_eq (n := 43) (tgt := 47) d_M_cluster_40 rfl (by decide) (fun q10 => ?_) (fun q10 => ?_)
        · have hf := ob_pos q10 hf
          refine g_iconst (n := 48) (v := 0) d_M_cluster_47 rfl (by decide) ?_
          cases hf
          exact g_iret d_M_cluster_48 rfl (Nat.zero_le _) (Nat.zero_le _)
        · have hf := ob_neg q10 hf
          refine g_iload_n (n := 44) d_M_cluster_43 rfl 2 rfl rfl ?_
          refine g_goto (n := 48) d_M_cluster_44 (by decide) ?_
          cases hf
          exact g_iret d_M_cluster_48 rfl (Nat.zero_le _) (Nat.zero_le _)
      · have hf := ob_neg q7 hf
        refine g_aload_n (n := 22) d_M_cluster_21 rfl 0 rfl rfl ?_
        refine g_iload_n (n := 23) d_M_cluster_22 rfl 2 rfl rfl ?_
        obtain ⟨r11, h12, hf⟩ := ob_bind hf
        refine c_Vr (n := 26) (st' := [.int r11]) [.int x3] [] d_M_cluster_23 rfl (s_M_cell htr h12 rfl) tw_953 tw_955 (am_memS 16 (by decide +kernel) (by decide +kernel)) tw_8 tw_956 hd_M_cell (by omega) (by decide) (ci := 7) rfl rfl rfl (Nat.le_of_ble_eq_true rfl) rfl rfl ?_
        refine g_istore_n (n := 27) (ls' := [(3, .int r11), (0, .ref 18), (2, .int x2), (4, .int x4)]) d_M_cluster_26 rfl rfl (am_ltb rfl) rfl ?_
        refine g_iinc (n := 30) (v := (x4 + 1)) (ls' := [(4, .int (x4 + 1)), (3, .int r11), (0, .ref 18), (2, .int x2)]) d_M_cluster_27 rfl 3 rfl rfl (am_ltb rfl) rfl ?_
        refine g_goto (n := 5) d_M_cluster_30 (by decide) ?_
        refine g_ls [2, 3, 1, 0] rfl ?_
        exact ih dk x2 r11 (x4 + 1) _ hf _ rfl
def f_M_cluster (dk : Nat → Int32) (x1 : Int32) (x2 : Int32) : Option (Int32) :=
  f_M_cluster_L5 100000000000 dk x2 x1 0
set_option maxHeartbeats 4000000 in
set_option maxRecDepth 100000 in
theorem s_M_cluster {l : Launch} {D : va_G} {dA : FieldType → ClassId} (htr : l.stackTraces = false) {hx : Nat → am_E} {rest : List am_E} {on : Int32} {dd : Int32} {mw : Int32} {cu : Int32} {ty : Int32} {mh : Int32} {md : Int32} {dk : Nat → Int32} {op : Nat → Int32} {th : Int32} {sp : Int32} {mp : Int32} {mf : Int32} {ml : Nat → Int32} {ps : Nat → Int32} {nm : Nat → Int32} {mu : Nat → Int32} {ch : Nat → Int32} {wy : Nat → Int32} {nx : Nat → Int32}  {x1 : Int32} {x2 : Int32} {r : Int32} (hf : f_M_cluster dk x1 x2 = some r) {o : am_O} (ho : .inl (some (.int r)) = o) :
    am_M (am_kk l D dA) y_M_cluster ws_M_cluster (am_rm 2 o) [.ref 18, .int x1, .int x2] (hM hx on dd mw cu ty mh md dk op th sp mp mf ml ps nm mu ch wy nx rest) o (hM hx on dd mw cu ty mh md dk op th sp mp mf ml ps nm mu ch wy nx rest) := by
  subst ho
  refine am_body (by decide) rfl (Nat.le_of_ble_eq_true rfl) rfl ?_
  rw [f_M_cluster] at hf
  refine g_iload_n (n := 1) d_M_cluster_0 rfl 1 rfl rfl ?_
  refine g_istore_n (n := 2) (ls' := [(3, .int x1), (0, .ref 18), (1, .int x1), (2, .int x2)]) d_M_cluster_1 rfl rfl (am_ltb rfl) rfl ?_
  refine g_iconst (n := 3) (v := 0) d_M_cluster_2 rfl (by decide) ?_
  refine g_istore (n := 5) (ls' := [(4, .int 0), (3, .int x1), (0, .ref 18), (1, .int x1), (2, .int x2)]) d_M_cluster_3 rfl (am_ltb rfl) rfl ?_
  refine g_ls [2, 4, 1, 0] rfl ?_
  exact s_M_cluster_L5 htr 100000000000 dk x2 x1 0 _ hf _ rfl
def f_M_length_L2 : Nat → (Nat → Int32) → Int32 → Int32 → Option (Int32)
  | 0, _, _, _ => none
  | fuel + 1, dk, x1, x2 =>
  (if 64 ≤ x2 then some x2 else ((f_M_cluster dk x1 x2).bind fun r2 => (if r2 ≤ 0 then some x2 else f_M_length_L2 fuel dk x1 (x2 + 1))))
set_option maxHeartbeats 4000000 in
set_option maxRecDepth 100000 in
theorem s_M_length_L2 {l : Launch} {D : va_G} {dA : FieldType → ClassId} (htr : l.stackTraces = false) {hx : Nat → am_E} {rest : List am_E} {on : Int32} {dd : Int32} {mw : Int32} {cu : Int32} {ty : Int32} {mh : Int32} {md : Int32} {op : Nat → Int32} {th : Int32} {sp : Int32} {mp : Int32} {mf : Int32} {ml : Nat → Int32} {ps : Nat → Int32} {nm : Nat → Int32} {mu : Nat → Int32} {ch : Nat → Int32} {wy : Nat → Int32} {nx : Nat → Int32}  : ∀ (fuel : Nat) (dk : Nat → Int32) (x1 : Int32) (x2 : Int32) (r : Int32), f_M_length_L2 fuel dk x1 x2 = some r → ∀ o : am_O, .inl (some (.int r)) = o →
    am_G (am_kk l D dA) (ws_M_length, y_M_length.cls, prog_9_method_13_code, 3, (some .int), y_M_length.name, [], am_rm 3 (o), none) o (hM hx on dd mw cu ty mh md dk op th sp mp mf ml ps nm mu ch wy nx rest) 0 0 2 [(0, .ref 18), (1, .int x1), (2, .int x2)] [] (hM hx on dd mw cu ty mh md dk op th sp mp mf ml ps nm mu ch wy nx rest) := by
  intro fuel
  induction fuel with
  | zero =>
    intro dk x1 x2 r hf
    cases hf
  | succ fuel ih =>
    intro dk x1 x2 r hf o ho
    subst ho
    rw [f_M_length_L2] at hf
    refine g_iload_n (n := 3) d_M_length_2 rfl 2 rfl rfl ?_
    refine g_bipush (n := 5) (v := 64) d_M_length_3 rfl (by decide) ?_
    refine g_icmp_ge (n := 8) (tgt := 23) d_M_length_5 rfl (by decide) (fun q1 => ?_) (fun q1 => ?_)
    · have hf := ob_pos q1 hf
      refine g_iload_n (n := 24) d_M_length_23 rfl 2 rfl rfl ?_
      cases hf
      exact g_iret d_M_length_24 rfl (Nat.zero_le _) (Nat.zero_le _)
    · have hf := ob_neg q1 hf
      refine g_aload_n (n := 9) d_M_length_8 rfl 0 rfl rfl ?_
      refine g_iload_n (n := 10) d_M_length_9 rfl 1 rfl rfl ?_
      refine g_iload_n (n := 11) d_M_length_10 rfl 2 rfl rfl ?_
      obtain ⟨r2, h3, hf⟩ := ob_bind hf
      refine c_Vr (n := 14) (st' := [.int r2]) [.int x1, .int x2] [] d_M_length_11 rfl (s_M_cluster htr h3 rfl) tw_949 tw_951 (am_memS 15 (by decide +kernel) (by decide +kernel)) tw_8 tw_952 hd_M_cluster (by omega) (by decide) (ci := 7) rfl rfl rfl (Nat.le_of_ble_eq_true rfl) rfl rfl ?_
      refine g_if_le (n := 17) (tgt := 23) d_M_length_14 rfl (by decide) (fun q4 => ?_) (fun q4 => ?_)
      · have hf := ob_pos q4 hf
        refine g_iload_n (n := 24) d_M_length_23 rfl 2 rfl rfl ?_
        cases hf
        exact g_iret d_M_length_24 rfl (Nat.zero_le _) (Nat.zero_le _)
      · have hf := ob_neg q4 hf
        refine g_iinc (n := 20) (v := (x2 + 1)) (ls' := [(2, .int (x2 + 1)), (0, .ref 18), (1, .int x1)]) d_M_length_17 rfl 2 rfl rfl (am_ltb rfl) rfl ?_
        refine g_goto (n := 2) d_M_length_20 (by decide) ?_
        refine g_ls [1, 2, 0] rfl ?_
        exact ih dk x1 (x2 + 1) _ hf _ rfl
def f_M_length (dk : Nat → Int32) (x1 : Int32) : Option (Int32) :=
  f_M_length_L2 100000000000 dk x1 0
set_option maxHeartbeats 4000000 in
set_option maxRecDepth 100000 in
theorem s_M_length {l : Launch} {D : va_G} {dA : FieldType → ClassId} (htr : l.stackTraces = false) {hx : Nat → am_E} {rest : List am_E} {on : Int32} {dd : Int32} {mw : Int32} {cu : Int32} {ty : Int32} {mh : Int32} {md : Int32} {dk : Nat → Int32} {op : Nat → Int32} {th : Int32} {sp : Int32} {mp : Int32} {mf : Int32} {ml : Nat → Int32} {ps : Nat → Int32} {nm : Nat → Int32} {mu : Nat → Int32} {ch : Nat → Int32} {wy : Nat → Int32} {nx : Nat → Int32}  {x1 : Int32} {r : Int32} (hf : f_M_length dk x1 = some r) {o : am_O} (ho : .inl (some (.int r)) = o) :
    am_M (am_kk l D dA) y_M_length ws_M_length (am_rm 3 o) [.ref 18, .int x1] (hM hx on dd mw cu ty mh md dk op th sp mp mf ml ps nm mu ch wy nx rest) o (hM hx on dd mw cu ty mh md dk op th sp mp mf ml ps nm mu ch wy nx rest) := by
  subst ho
  refine am_body (by decide) rfl (Nat.le_of_ble_eq_true rfl) rfl ?_
  rw [f_M_length] at hf
  refine g_iconst (n := 1) (v := 0) d_M_length_0 rfl (by decide) ?_
  refine g_istore_n (n := 2) (ls' := [(2, .int 0), (0, .ref 18), (1, .int x1)]) d_M_length_1 rfl rfl (am_ltb rfl) rfl ?_
  refine g_ls [1, 2, 0] rfl ?_
  exact s_M_length_L2 htr 100000000000 dk x1 0 _ hf _ rfl
def f_M_place (dk : Nat → Int32) (x1 : Int32) (x2 : Int32) : Option (Int32) :=
  ((f_M_cluster dk x1 (x2 / 2)).bind fun r1 => some ((32 * (r1 + 6)) + (16 * (x2 - x2 / 2 * 2))))
set_option maxHeartbeats 4000000 in
set_option maxRecDepth 100000 in
theorem s_M_place {l : Launch} {D : va_G} {dA : FieldType → ClassId} (htr : l.stackTraces = false) {hx : Nat → am_E} {rest : List am_E} {on : Int32} {dd : Int32} {mw : Int32} {cu : Int32} {ty : Int32} {mh : Int32} {md : Int32} {dk : Nat → Int32} {op : Nat → Int32} {th : Int32} {sp : Int32} {mp : Int32} {mf : Int32} {ml : Nat → Int32} {ps : Nat → Int32} {nm : Nat → Int32} {mu : Nat → Int32} {ch : Nat → Int32} {wy : Nat → Int32} {nx : Nat → Int32}  {x1 : Int32} {x2 : Int32} {r : Int32} (hf : f_M_place dk x1 x2 = some r) {o : am_O} (ho : .inl (some (.int r)) = o) :
    am_M (am_kk l D dA) y_M_place ws_M_place (am_rm 3 o) [.ref 18, .int x1, .int x2] (hM hx on dd mw cu ty mh md dk op th sp mp mf ml ps nm mu ch wy nx rest) o (hM hx on dd mw cu ty mh md dk op th sp mp mf ml ps nm mu ch wy nx rest) := by
  subst ho
  refine am_body (by decide) rfl (Nat.le_of_ble_eq_true rfl) rfl ?_
  rw [f_M_place] at hf
  refine g_bipush (n := 2) (v := 32) d_M_place_0 rfl (by decide) ?_
  refine g_aload_n (n := 3) d_M_place_2 rfl 0 rfl rfl ?_
  refine g_iload_n (n := 4) d_M_place_3 rfl 1 rfl rfl ?_
  refine g_iload_n (n := 5) d_M_place_4 rfl 2 rfl rfl ?_
  refine g_iconst (n := 6) (v := 2) d_M_place_5 rfl (by decide) ?_
  refine g_idiv (n := 7) d_M_place_6 rfl (by decide) ?_
  obtain ⟨r1, h2, hf⟩ := ob_bind hf
  refine c_Vr (n := 10) (st' := [.int r1, .int 32]) [.int x1, .int (x2 / 2)] [.int 32] d_M_place_7 rfl (s_M_cluster htr h2 rfl) tw_949 tw_951 (am_memS 15 (by decide +kernel) (by decide +kernel)) tw_8 tw_952 hd_M_cluster (by omega) (by decide) (ci := 7) rfl rfl rfl (Nat.le_of_ble_eq_true rfl) rfl rfl ?_
  refine g_bipush (n := 12) (v := 6) d_M_place_10 rfl (by decide) ?_
  refine g_iadd (n := 13) d_M_place_12 rfl ?_
  refine g_imul (n := 14) d_M_place_13 rfl ?_
  refine g_bipush (n := 16) (v := 16) d_M_place_14 rfl (by decide) ?_
  refine g_iload_n (n := 17) d_M_place_16 rfl 2 rfl rfl ?_
  refine g_iconst (n := 18) (v := 2) d_M_place_17 rfl (by decide) ?_
  refine g_irem (n := 19) d_M_place_18 rfl (by decide) ?_
  refine g_imul (n := 20) d_M_place_19 rfl ?_
  refine g_iadd (n := 21) d_M_place_20 rfl ?_
  cases hf
  exact g_iret d_M_place_21 rfl (Nat.zero_le _) (Nat.zero_le _)
def f_M_isFree (dk : Nat → Int32) (x1 : Int32) : Option (Int32) :=
  (if am_in x1 2240 = true then (if (dk x1.toNatClampNeg) = 0 then some 1 else (if am_in x1 2240 = true then (if (dk x1.toNatClampNeg) = 229 then some 1 else some 0) else none)) else none)
set_option maxHeartbeats 4000000 in
set_option maxRecDepth 100000 in
theorem s_M_isFree {l : Launch} {D : va_G} {dA : FieldType → ClassId} (htr : l.stackTraces = false) {hx : Nat → am_E} {rest : List am_E} {on : Int32} {dd : Int32} {mw : Int32} {cu : Int32} {ty : Int32} {mh : Int32} {md : Int32} {dk : Nat → Int32} {op : Nat → Int32} {th : Int32} {sp : Int32} {mp : Int32} {mf : Int32} {ml : Nat → Int32} {ps : Nat → Int32} {nm : Nat → Int32} {mu : Nat → Int32} {ch : Nat → Int32} {wy : Nat → Int32} {nx : Nat → Int32}  {x1 : Int32} {r : Int32} (hf : f_M_isFree dk x1 = some r) {o : am_O} (ho : .inl (some (.int r)) = o) :
    am_M (am_kk l D dA) y_M_isFree ws_M_isFree (am_rm 0 o) [.ref 18, .int x1] (hM hx on dd mw cu ty mh md dk op th sp mp mf ml ps nm mu ch wy nx rest) o (hM hx on dd mw cu ty mh md dk op th sp mp mf ml ps nm mu ch wy nx rest) := by
  subst ho
  refine am_body (by decide) rfl (Nat.le_of_ble_eq_true rfl) rfl ?_
  rw [f_M_isFree] at hf
  refine g_aload_n (n := 1) d_M_isFree_0 rfl 0 rfl rfl ?_
  refine g_get (n := 4) (q0 := 18) d_M_isFree_1 rfl (am_fl in_M rfl (by decide : 1 < 20)) (List.mem_cons_of_mem _ tw_866) rfl rfl ?_
  refine g_iload_n (n := 5) d_M_isFree_4 rfl 1 rfl rfl ?_
  obtain ⟨b1, hf⟩ := ob_chk hf
  refine g_iald (n := 6) (q0 := 19) d_M_isFree_5 rfl rfl (am_inl b1) ?_
  refine g_if_eq (n := 9) (tgt := 21) d_M_isFree_6 rfl (by decide) (fun q2 => ?_) (fun q2 => ?_)
  · have hf := ob_pos q2 hf
    refine g_iconst (n := 22) (v := 1) d_M_isFree_21 rfl (by decide) ?_
    refine g_goto (n := 26) d_M_isFree_22 (by decide) ?_
    cases hf
    exact g_zret d_M_isFree_26 rfl am_z1 (Nat.zero_le _) (Nat.zero_le _)
  · have hf := ob_neg q2 hf
    refine g_aload_n (n := 10) d_M_isFree_9 rfl 0 rfl rfl ?_
    refine g_get (n := 13) (q0 := 18) d_M_isFree_10 rfl (am_fl in_M rfl (by decide : 1 < 20)) (List.mem_cons_of_mem _ tw_866) rfl rfl ?_
    refine g_iload_n (n := 14) d_M_isFree_13 rfl 1 rfl rfl ?_
    obtain ⟨b3, hf⟩ := ob_chk hf
    refine g_iald (n := 15) (q0 := 19) d_M_isFree_14 rfl rfl (am_inl b3) ?_
    refine g_sipush (n := 18) (v := 229) d_M_isFree_15 rfl (by decide) ?_
    refine g_icmp_ne (n := 21) (tgt := 25) d_M_isFree_18 rfl (by decide) (fun q4 => ?_) (fun q4 => ?_)
    · have hf := ob_neg q4 hf
      refine g_iconst (n := 26) (v := 0) d_M_isFree_25 rfl (by decide) ?_
      cases hf
      exact g_zret d_M_isFree_26 rfl am_z0 (Nat.zero_le _) (Nat.zero_le _)
    · have hf := ob_pos q4 hf
      refine g_iconst (n := 22) (v := 1) d_M_isFree_21 rfl (by decide) ?_
      refine g_goto (n := 26) d_M_isFree_22 (by decide) ?_
      cases hf
      exact g_zret d_M_isFree_26 rfl am_z1 (Nat.zero_le _) (Nat.zero_le _)
def f_M_isNamed (dk : Nat → Int32) (x1 : Int32) : Option (Int32) :=
  ((f_M_isFree dk x1).bind fun r1 => (if r1 = 0 then (if am_in (x1 + 6) 2240 = true then (if (dk (x1 + 6).toNatClampNeg) = 1 then some 1 else (if am_in (x1 + 6) 2240 = true then (if (dk (x1 + 6).toNatClampNeg) = 2 then some 1 else some 0) else none)) else none) else some 0))
set_option maxHeartbeats 4000000 in
set_option maxRecDepth 100000 in
theorem s_M_isNamed {l : Launch} {D : va_G} {dA : FieldType → ClassId} (htr : l.stackTraces = false) {hx : Nat → am_E} {rest : List am_E} {on : Int32} {dd : Int32} {mw : Int32} {cu : Int32} {ty : Int32} {mh : Int32} {md : Int32} {dk : Nat → Int32} {op : Nat → Int32} {th : Int32} {sp : Int32} {mp : Int32} {mf : Int32} {ml : Nat → Int32} {ps : Nat → Int32} {nm : Nat → Int32} {mu : Nat → Int32} {ch : Nat → Int32} {wy : Nat → Int32} {nx : Nat → Int32}  {x1 : Int32} {r : Int32} (hf : f_M_isNamed dk x1 = some r) {o : am_O} (ho : .inl (some (.int r)) = o) :
    am_M (am_kk l D dA) y_M_isNamed ws_M_isNamed (am_rm 1 o) [.ref 18, .int x1] (hM hx on dd mw cu ty mh md dk op th sp mp mf ml ps nm mu ch wy nx rest) o (hM hx on dd mw cu ty mh md dk op th sp mp mf ml ps nm mu ch wy nx rest) := by
  subst ho
  refine am_body (by decide) rfl (Nat.le_of_ble_eq_true rfl) rfl ?_
  rw [f_M_isNamed] at hf
  refine g_aload_n (n := 1) d_M_isNamed_0 rfl 0 rfl rfl ?_
  refine g_iload_n (n := 2) d_M_isNamed_1 rfl 1 rfl rfl ?_
  obtain ⟨r1, h2, hf⟩ := ob_bind hf
  refine c_Vr (n := 5) (st' := [.int r1]) [.int x1] [] d_M_isNamed_2 rfl (s_M_isFree htr h2 rfl) tw_973 tw_975 (am_memS 21 (by decide +kernel) (by decide +kernel)) tw_8 tw_976 hd_M_isFree (by omega) (by decide) (ci := 7) rfl rfl rfl (Nat.le_of_ble_eq_true rfl) rfl rfl ?_
  refine g_if_ne (n := 8) (tgt := 38) d_M_isNamed_5 rfl (by decide) (fun q3 => ?_) (fun q3 => ?_)
  · have hf := ob_neg q3 hf
    refine g_iconst (n := 39) (v := 0) d_M_isNamed_38 rfl (by decide) ?_
    cases hf
    exact g_zret d_M_isNamed_39 rfl am_z0 (Nat.zero_le _) (Nat.zero_le _)
  · have hf := ob_pos q3 hf
    refine g_aload_n (n := 9) d_M_isNamed_8 rfl 0 rfl rfl ?_
    refine g_get (n := 12) (q0 := 18) d_M_isNamed_9 rfl (am_fl in_M rfl (by decide : 1 < 20)) (List.mem_cons_of_mem _ tw_866) rfl rfl ?_
    refine g_iload_n (n := 13) d_M_isNamed_12 rfl 1 rfl rfl ?_
    refine g_bipush (n := 15) (v := 6) d_M_isNamed_13 rfl (by decide) ?_
    refine g_iadd (n := 16) d_M_isNamed_15 rfl ?_
    obtain ⟨b4, hf⟩ := ob_chk hf
    refine g_iald (n := 17) (q0 := 19) d_M_isNamed_16 rfl rfl (am_inl b4) ?_
    refine g_iconst (n := 18) (v := 1) d_M_isNamed_17 rfl (by decide) ?_
    refine g_icmp_eq (n := 21) (tgt := 34) d_M_isNamed_18 rfl (by decide) (fun q5 => ?_) (fun q5 => ?_)
    · have hf := ob_pos q5 hf
      refine g_iconst (n := 35) (v := 1) d_M_isNamed_34 rfl (by decide) ?_
      refine g_goto (n := 39) d_M_isNamed_35 (by decide) ?_
      cases hf
      exact g_zret d_M_isNamed_39 rfl am_z1 (Nat.zero_le _) (Nat.zero_le _)
    · have hf := ob_neg q5 hf
      refine g_aload_n (n := 22) d_M_isNamed_21 rfl 0 rfl rfl ?_
      refine g_get (n := 25) (q0 := 18) d_M_isNamed_22 rfl (am_fl in_M rfl (by decide : 1 < 20)) (List.mem_cons_of_mem _ tw_866) rfl rfl ?_
      refine g_iload_n (n := 26) d_M_isNamed_25 rfl 1 rfl rfl ?_
      refine g_bipush (n := 28) (v := 6) d_M_isNamed_26 rfl (by decide) ?_
      refine g_iadd (n := 29) d_M_isNamed_28 rfl ?_
      obtain ⟨b6, hf⟩ := ob_chk hf
      refine g_iald (n := 30) (q0 := 19) d_M_isNamed_29 rfl rfl (am_inl b6) ?_
      refine g_iconst (n := 31) (v := 2) d_M_isNamed_30 rfl (by decide) ?_
      refine g_icmp_ne (n := 34) (tgt := 38) d_M_isNamed_31 rfl (by decide) (fun q7 => ?_) (fun q7 => ?_)
      · have hf := ob_neg q7 hf
        refine g_iconst (n := 39) (v := 0) d_M_isNamed_38 rfl (by decide) ?_
        cases hf
        exact g_zret d_M_isNamed_39 rfl am_z0 (Nat.zero_le _) (Nat.zero_le _)
      · have hf := ob_pos q7 hf
        refine g_iconst (n := 35) (v := 1) d_M_isNamed_34 rfl (by decide) ?_
        refine g_goto (n := 39) d_M_isNamed_35 (by decide) ?_
        cases hf
        exact g_zret d_M_isNamed_39 rfl am_z1 (Nat.zero_le _) (Nat.zero_le _)
def f_M_summed (x0 : Int32) (x1 : Int32) : Option (Int32) :=
  some ((((x0 * 2) + (x0 / 128)) + x1) &&& 255)
set_option maxHeartbeats 4000000 in
set_option maxRecDepth 100000 in
theorem s_M_summed {l : Launch} {D : va_G} {dA : FieldType → ClassId} (htr : l.stackTraces = false) {hx : Nat → am_E} {rest : List am_E} {on : Int32} {dd : Int32} {mw : Int32} {cu : Int32} {ty : Int32} {mh : Int32} {md : Int32} {dk : Nat → Int32} {op : Nat → Int32} {th : Int32} {sp : Int32} {mp : Int32} {mf : Int32} {ml : Nat → Int32} {ps : Nat → Int32} {nm : Nat → Int32} {mu : Nat → Int32} {ch : Nat → Int32} {wy : Nat → Int32} {nx : Nat → Int32}  {x0 : Int32} {x1 : Int32} {r : Int32} (hf : f_M_summed x0 x1 = some r) {o : am_O} (ho : .inl (some (.int r)) = o) :
    am_M (am_kk l D dA) y_M_summed ws_M_summed (am_rm 0 o) [.int x0, .int x1] (hM hx on dd mw cu ty mh md dk op th sp mp mf ml ps nm mu ch wy nx rest) o (hM hx on dd mw cu ty mh md dk op th sp mp mf ml ps nm mu ch wy nx rest) := by
  subst ho
  refine am_body (by decide) rfl (Nat.le_of_ble_eq_true rfl) rfl ?_
  rw [f_M_summed] at hf
  refine g_iload_n (n := 1) d_M_summed_0 rfl 0 rfl rfl ?_
  refine g_iconst (n := 2) (v := 2) d_M_summed_1 rfl (by decide) ?_
  refine g_imul (n := 3) d_M_summed_2 rfl ?_
  refine g_iload_n (n := 4) d_M_summed_3 rfl 0 rfl rfl ?_
  refine g_sipush (n := 7) (v := 128) d_M_summed_4 rfl (by decide) ?_
  refine g_idiv (n := 8) d_M_summed_7 rfl (by decide) ?_
  refine g_iadd (n := 9) d_M_summed_8 rfl ?_
  refine g_iload_n (n := 10) d_M_summed_9 rfl 1 rfl rfl ?_
  refine g_iadd (n := 11) d_M_summed_10 rfl ?_
  refine g_sipush (n := 14) (v := 255) d_M_summed_11 rfl (by decide) ?_
  refine g_iand (n := 15) d_M_summed_14 rfl ?_
  cases hf
  exact g_iret d_M_summed_15 rfl (Nat.zero_le _) (Nat.zero_le _)
def f_M_isPart (dk : Nat → Int32) (x1 : Int32) (x2 : Int32) (x3 : Int32) : Option (Int32) :=
  (if am_in (x1 + 6) 2240 = true then (if (dk (x1 + 6).toNatClampNeg) = 15 then (if am_in x1 2240 = true then (if (dk x1.toNatClampNeg) = x2 then (if am_in (x1 + 7) 2240 = true then (if (dk (x1 + 7).toNatClampNeg) = x3 then some 1 else some 0) else none) else some 0) else none) else some 0) else none)
set_option maxHeartbeats 4000000 in
set_option maxRecDepth 100000 in
theorem s_M_isPart {l : Launch} {D : va_G} {dA : FieldType → ClassId} (htr : l.stackTraces = false) {hx : Nat → am_E} {rest : List am_E} {on : Int32} {dd : Int32} {mw : Int32} {cu : Int32} {ty : Int32} {mh : Int32} {md : Int32} {dk : Nat → Int32} {op : Nat → Int32} {th : Int32} {sp : Int32} {mp : Int32} {mf : Int32} {ml : Nat → Int32} {ps : Nat → Int32} {nm : Nat → Int32} {mu : Nat → Int32} {ch : Nat → Int32} {wy : Nat → Int32} {nx : Nat → Int32}  {x1 : Int32} {x2 : Int32} {x3 : Int32} {r : Int32} (hf : f_M_isPart dk x1 x2 x3 = some r) {o : am_O} (ho : .inl (some (.int r)) = o) :
    am_M (am_kk l D dA) y_M_isPart ws_M_isPart (am_rm 0 o) [.ref 18, .int x1, .int x2, .int x3] (hM hx on dd mw cu ty mh md dk op th sp mp mf ml ps nm mu ch wy nx rest) o (hM hx on dd mw cu ty mh md dk op th sp mp mf ml ps nm mu ch wy nx rest) := by
  subst ho
  refine am_body (by decide) rfl (Nat.le_of_ble_eq_true rfl) rfl ?_
  rw [f_M_isPart] at hf
  refine g_aload_n (n := 1) d_M_isPart_0 rfl 0 rfl rfl ?_
  refine g_get (n := 4) (q0 := 18) d_M_isPart_1 rfl (am_fl in_M rfl (by decide : 1 < 20)) (List.mem_cons_of_mem _ tw_866) rfl rfl ?_
  refine g_iload_n (n := 5) d_M_isPart_4 rfl 1 rfl rfl ?_
  refine g_bipush (n := 7) (v := 6) d_M_isPart_5 rfl (by decide) ?_
  refine g_iadd (n := 8) d_M_isPart_7 rfl ?_
  obtain ⟨b1, hf⟩ := ob_chk hf
  refine g_iald (n := 9) (q0 := 19) d_M_isPart_8 rfl rfl (am_inl b1) ?_
  refine g_bipush (n := 11) (v := 15) d_M_isPart_9 rfl (by decide) ?_
  refine g_icmp_ne (n := 14) (tgt := 41) d_M_isPart_11 rfl (by decide) (fun q2 => ?_) (fun q2 => ?_)
  · have hf := ob_neg q2 hf
    refine g_iconst (n := 42) (v := 0) d_M_isPart_41 rfl (by decide) ?_
    cases hf
    exact g_zret d_M_isPart_42 rfl am_z0 (Nat.zero_le _) (Nat.zero_le _)
  · have hf := ob_pos q2 hf
    refine g_aload_n (n := 15) d_M_isPart_14 rfl 0 rfl rfl ?_
    refine g_get (n := 18) (q0 := 18) d_M_isPart_15 rfl (am_fl in_M rfl (by decide : 1 < 20)) (List.mem_cons_of_mem _ tw_866) rfl rfl ?_
    refine g_iload_n (n := 19) d_M_isPart_18 rfl 1 rfl rfl ?_
    obtain ⟨b3, hf⟩ := ob_chk hf
    refine g_iald (n := 20) (q0 := 19) d_M_isPart_19 rfl rfl (am_inl b3) ?_
    refine g_iload_n (n := 21) d_M_isPart_20 rfl 2 rfl rfl ?_
    refine g_icmp_ne (n := 24) (tgt := 41) d_M_isPart_21 rfl (by decide) (fun q4 => ?_) (fun q4 => ?_)
    · have hf := ob_neg q4 hf
      refine g_iconst (n := 42) (v := 0) d_M_isPart_41 rfl (by decide) ?_
      cases hf
      exact g_zret d_M_isPart_42 rfl am_z0 (Nat.zero_le _) (Nat.zero_le _)
    · have hf := ob_pos q4 hf
      refine g_aload_n (n := 25) d_M_isPart_24 rfl 0 rfl rfl ?_
      refine g_get (n := 28) (q0 := 18) d_M_isPart_25 rfl (am_fl in_M rfl (by decide : 1 < 20)) (List.mem_cons_of_mem _ tw_866) rfl rfl ?_
      refine g_iload_n (n := 29) d_M_isPart_28 rfl 1 rfl rfl ?_
      refine g_bipush (n := 31) (v := 7) d_M_isPart_29 rfl (by decide) ?_
      refine g_iadd (n := 32) d_M_isPart_31 rfl ?_
      obtain ⟨b5, hf⟩ := ob_chk hf
      refine g_iald (n := 33) (q0 := 19) d_M_isPart_32 rfl rfl (am_inl b5) ?_
      refine g_iload_n (n := 34) d_M_isPart_33 rfl 3 rfl rfl ?_
      refine g_icmp_ne (n := 37) (tgt := 41) d_M_isPart_34 rfl (by decide) (fun q6 => ?_) (fun q6 => ?_)
      · have hf := ob_neg q6 hf
        refine g_iconst (n := 42) (v := 0) d_M_isPart_41 rfl (by decide) ?_
        cases hf
        exact g_zret d_M_isPart_42 rfl am_z0 (Nat.zero_le _) (Nat.zero_le _)
      · have hf := ob_pos q6 hf
        refine g_iconst (n := 38) (v := 1) d_M_isPart_37 rfl (by decide) ?_
        refine g_goto (n := 42) d_M_isPart_38 (by decide) ?_
        cases hf
        exact g_zret d_M_isPart_42 rfl am_z1 (Nat.zero_le _) (Nat.zero_le _)
def f_M_partsOf_L23 : Nat → (Nat → Int32) → Int32 → Int32 → Int32 → Int32 → Int32 → Option (Int32)
  | 0, _, _, _, _, _, _ => none
  | fuel + 1, dk, x1, x2, x3, x4, x5 =>
  (if 6 ≤ x5 then (if x2 ≤ 0 then (if x2 ≤ 1 then some 0 else ((f_M_place dk x1 (x2 - 1)).bind fun r9 => ((f_M_isPart dk r9 1 x4).bind fun r11 => (if r11 = 0 then some 0 else ((f_M_place dk x1 (x2 - 2)).bind fun r14 => ((f_M_isPart dk r14 66 x4).bind fun r16 => (if r16 = 0 then some 0 else some 2))))))) else ((f_M_place dk x1 (x2 - 1)).bind fun r19 => ((f_M_isPart dk r19 65 x4).bind fun r21 => (if r21 = 0 then (if x2 ≤ 1 then some 0 else ((f_M_place dk x1 (x2 - 1)).bind fun r25 => ((f_M_isPart dk r25 1 x4).bind fun r27 => (if r27 = 0 then some 0 else ((f_M_place dk x1 (x2 - 2)).bind fun r30 => ((f_M_isPart dk r30 66 x4).bind fun r32 => (if r32 = 0 then some 0 else some 2))))))) else some 1)))) else (if am_in (x3 + x5) 2240 = true then ((f_M_summed x4 (dk (x3 + x5).toNatClampNeg)).bind fun r36 => f_M_partsOf_L23 fuel dk x1 x2 x3 r36 (x5 + 1)) else none))
set_option maxHeartbeats 4000000 in
set_option maxRecDepth 100000 in
theorem s_M_partsOf_L23 {l : Launch} {D : va_G} {dA : FieldType → ClassId} (htr : l.stackTraces = false) {hx : Nat → am_E} {rest : List am_E} {on : Int32} {dd : Int32} {mw : Int32} {cu : Int32} {ty : Int32} {mh : Int32} {md : Int32} {op : Nat → Int32} {th : Int32} {sp : Int32} {mp : Int32} {mf : Int32} {ml : Nat → Int32} {ps : Nat → Int32} {nm : Nat → Int32} {mu : Nat → Int32} {ch : Nat → Int32} {wy : Nat → Int32} {nx : Nat → Int32}  : ∀ (fuel : Nat) (dk : Nat → Int32) (x1 : Int32) (x2 : Int32) (x3 : Int32) (x4 : Int32) (x5 : Int32) (r : Int32), f_M_partsOf_L23 fuel dk x1 x2 x3 x4 x5 = some r → ∀ o : am_O, .inl (some (.int r)) = o →
    am_G (am_kk l D dA) (ws_M_partsOf, y_M_partsOf.cls, prog_9_method_19_code, 6, (some .int), y_M_partsOf.name, [], am_rm 4 (o), none) o (hM hx on dd mw cu ty mh md dk op th sp mp mf ml ps nm mu ch wy nx rest) 0 0 23 [(0, .ref 18), (1, .int x1), (2, .int x2), (3, .int x3), (4, .int x4), (5, .int x5)] [] (hM hx on dd mw cu ty mh md dk op th sp mp mf ml ps nm mu ch wy nx rest) := by
  intro fuel
  induction fuel with
  | zero =>
    intro dk x1 x2 x3 x4 x5 r hf
    cases hf
  | succ fuel ih =>
    intro dk x1 x2 x3 x4 x5 r hf o ho
    subst ho
    rw [f_M_partsOf_L23] at hf
    refine g_iload (n := 25) d_M_partsOf_23 rfl 5 rfl ?_
    refine g_bipush (n := 27) (v := 6) d_M_partsOf_25 rfl (by decide) ?_
    refine g_icmp_ge (n := 30) (tgt := 52) d_M_partsOf_27 rfl (by decide) (fun q6 => ?_) (fun q6 => ?_)
    · have hf := ob_pos q6 hf
      refine g_iload_n (n := 53) d_M_partsOf_52 rfl 2 rfl rfl ?_
      refine g_if_le (n := 56) (tgt := 77) d_M_partsOf_53 rfl (by decide) (fun q7 => ?_) (fun q7 => ?_)
      · have hf := ob_pos q7 hf
        refine g_iload_n (n := 78) d_M_partsOf_77 rfl 2 rfl rfl ?_
        refine g_iconst (n := 79) (v := 1) d_M_partsOf_78 rfl (by decide) ?_
        refine g_icmp_le (n := 82) (tgt := 123) d_M_partsOf_79 rfl (by decide) (fun q8 => ?_) (fun q8 => ?_)
        · have hf := ob_pos q8 hf
          refine g_iconst (n := 124) (v := 0) d_M_partsOf_123 rfl (by decide) ?_
          cases hf
          exact g_iret d_M_partsOf_124 rfl (Nat.zero_le _) (Nat.zero_le _)
        · have hf := ob_neg q8 hf
          refine g_aload_n (n := 83) d_M_partsOf_82 rfl 0 rfl rfl ?_
          refine g_aload_n (n := 84) d_M_partsOf_83 rfl 0 rfl rfl ?_
          refine g_iload_n (n := 85) d_M_partsOf_84 rfl 1 rfl rfl ?_
          refine g_iload_n (n := 86) d_M_partsOf_85 rfl 2 rfl rfl ?_
          refine g_iconst (n := 87) (v := 1) d_M_partsOf_86 rfl (by decide) ?_
          refine g_isub (n := 88) d_M_partsOf_87 rfl ?_
          obtain ⟨r9, h10, hf⟩ := ob_bind hf
          refine c_Vr (n := 91) (st' := [.int r9, .ref 18]) [.int x1, .int (x2 - 1)] [.ref 18] d_M_partsOf_88 rfl (s_M_place htr h10 rfl) tw_965 tw_967 (am_memS 19 (by decide +kernel) (by decide +kernel)) tw_8 tw_968 hd_M_place (by omega) (by decide) (ci := 7) rfl rfl rfl (Nat.le_of_ble_eq_true rfl) rfl rfl ?_
          refine g_iconst (n := 92) (v := 1) d_M_partsOf_91 rfl (by decide) ?_
          refine g_iload (n := 94) d_M_partsOf_92 rfl 4 rfl ?_
          obtain ⟨r11, h12, hf⟩ := ob_bind hf
          refine c_Vr (n := 97) (st' := [.int r11]) [.int r9, .int 1, .int x4] [] d_M_partsOf_94 rfl (s_M_isPart htr h12 rfl) tw_984 tw_986 (am_memS 23 (by decide +kernel) (by decide +kernel)) tw_8 tw_987 hd_M_isPart (by omega) (by decide) (ci := 7) rfl rfl rfl (Nat.le_of_ble_eq_true rfl) rfl rfl ?_
          refine g_if_eq (n := 100) (tgt := 123) d_M_partsOf_97 rfl (by decide) (fun q13 => ?_) (fun q13 => ?_)
          · have hf := ob_pos q13 hf
            refine g_iconst (n := 124) (v := 0) d_M_partsOf_123 rfl (by decide) ?_
            cases hf
            exact g_iret d_M_partsOf_124 rfl (Nat.zero_le _) (Nat.zero_le _)
          · have hf := ob_neg q13 hf
            refine g_aload_n (n := 101) d_M_partsOf_100 rfl 0 rfl rfl ?_
            refine g_aload_n (n := 102) d_M_partsOf_101 rfl 0 rfl rfl ?_
            refine g_iload_n (n := 103) d_M_partsOf_102 rfl 1 rfl rfl ?_
            refine g_iload_n (n := 104) d_M_partsOf_103 rfl 2 rfl rfl ?_
            refine g_iconst (n := 105) (v := 2) d_M_partsOf_104 rfl (by decide) ?_
            refine g_isub (n := 106) d_M_partsOf_105 rfl ?_
            obtain ⟨r14, h15, hf⟩ := ob_bind hf
            refine c_Vr (n := 109) (st' := [.int r14, .ref 18]) [.int x1, .int (x2 - 2)] [.ref 18] d_M_partsOf_106 rfl (s_M_place htr h15 rfl) tw_965 tw_967 (am_memS 19 (by decide +kernel) (by decide +kernel)) tw_8 tw_968 hd_M_place (by omega) (by decide) (ci := 7) rfl rfl rfl (Nat.le_of_ble_eq_true rfl) rfl rfl ?_
            refine g_bipush (n := 111) (v := 66) d_M_partsOf_109 rfl (by decide) ?_
            refine g_iload (n := 113) d_M_partsOf_111 rfl 4 rfl ?_
            obtain ⟨r16, h17, hf⟩ := ob_bind hf
            refine c_Vr (n := 116) (st' := [.int r16]) [.int r14, .int 66, .int x4] [] d_M_partsOf_113 rfl (s_M_isPart htr h17 rfl) tw_984 tw_986 (am_memS 23 (by decide +kernel) (by decide +kernel)) tw_8 tw_987 hd_M_isPart (by omega) (by decide) (ci := 7) rfl rfl rfl (Nat.le_of_ble_eq_true rfl) rfl rfl ?_
            refine g_if_eq (n := 119) (tgt := 123) d_M_partsOf_116 rfl (by decide) (fun q18 => ?_) (fun q18 => ?_)
            · have hf := ob_pos q18 hf
              refine g_iconst (n := 124) (v := 0) d_M_partsOf_123 rfl (by decide) ?_
              cases hf
              exact g_iret d_M_partsOf_124 rfl (Nat.zero_le _) (Nat.zero_le _)
            · have hf := ob_neg q18 hf
              refine g_iconst (n := 120) (v := 2) d_M_partsOf_119 rfl (by decide) ?_
              refine g_goto (n := 124) d_M_partsOf_120 (by decide) ?_
              cases hf
              exact g_iret d_M_partsOf_124 rfl (Nat.zero_le _) (Nat.zero_le _)
      · have hf := ob_neg q7 hf
        refine g_aload_n (n := 57) d_M_partsOf_56 rfl 0 rfl rfl ?_
        refine g_aload_n (n := 58) d_M_partsOf_57 rfl 0 rfl rfl ?_
        refine g_iload_n (n := 59) d_M_partsOf_58 rfl 1 rfl rfl ?_
        refine g_iload_n (n := 60) d_M_partsOf_59 rfl 2 rfl rfl ?_
        refine g_iconst (n := 61) (v := 1) d_M_partsOf_60 rfl (by decide) ?_
        refine g_isub (n := 62) d_M_partsOf_61 rfl ?_
        obtain ⟨r19, h20, hf⟩ := ob_bind hf
        refine c_Vr (n := 65) (st' := [.int r19, .ref 18]) [.int x1, .int (x2 - 1)] [.ref 18] d_M_partsOf_62 rfl (s_M_place htr h20 rfl) tw_965 tw_967 (am_memS 19 (by decide +kernel) (by decide +kernel)) tw_8 tw_968 hd_M_place (by omega) (by decide) (ci := 7) rfl rfl rfl (Nat.le_of_ble_eq_true rfl) rfl rfl ?_
        refine g_bipush (n := 67) (v := 65) d_M_partsOf_65 rfl (by decide) ?_
        refine g_iload (n := 69) d_M_partsOf_67 rfl 4 rfl ?_
        obtain ⟨r21, h22, hf⟩ := ob_bind hf
        refine c_Vr (n := 72) (st' := [.int r21]) [.int r19, .int 65, .int x4] [] d_M_partsOf_69 rfl (s_M_isPart htr h22 rfl) tw_984 tw_986 (am_memS 23 (by decide +kernel) (by decide +kernel)) tw_8 tw_987 hd_M_isPart (by omega) (by decide) (ci := 7) rfl rfl rfl (Nat.le_of_ble_eq_true rfl) rfl rfl ?_
        refine g_if_eq (n := 75) (tgt := 77) d_M_partsOf_72 rfl (by decide) (fun q23 => ?_) (fun q23 => ?_)
        · have hf := ob_pos q23 hf
          refine g_iload_n (n := 78) d_M_partsOf_77 rfl 2 rfl rfl ?_
          refine g_iconst (n := 79) (v := 1) d_M_partsOf_78 rfl (by decide) ?_
          refine g_icmp_le (n := 82) (tgt := 123) d_M_partsOf_79 rfl (by decide) (fun q24 => ?_) (fun q24 => ?_)
          · have hf := ob_pos q24 hf
            refine g_iconst (n := 124) (v := 0) d_M_partsOf_123 rfl (by decide) ?_
            cases hf
            exact g_iret d_M_partsOf_124 rfl (Nat.zero_le _) (Nat.zero_le _)
          · have hf := ob_neg q24 hf
            refine g_aload_n (n := 83) d_M_partsOf_82 rfl 0 rfl rfl ?_
            refine g_aload_n (n := 84) d_M_partsOf_83 rfl 0 rfl rfl ?_
            refine g_iload_n (n := 85) d_M_partsOf_84 rfl 1 rfl rfl ?_
            refine g_iload_n (n := 86) d_M_partsOf_85 rfl 2 rfl rfl ?_
            refine g_iconst (n := 87) (v := 1) d_M_partsOf_86 rfl (by decide) ?_
            refine g_isub (n := 88) d_M_partsOf_87 rfl ?_
            obtain ⟨r25, h26, hf⟩ := ob_bind hf
            refine c_Vr (n := 91) (st' := [.int r25, .ref 18]) [.int x1, .int (x2 - 1)] [.ref 18] d_M_partsOf_88 rfl (s_M_place htr h26 rfl) tw_965 tw_967 (am_memS 19 (by decide +kernel) (by decide +kernel)) tw_8 tw_968 hd_M_place (by omega) (by decide) (ci := 7) rfl rfl rfl (Nat.le_of_ble_eq_true rfl) rfl rfl ?_
            refine g_iconst (n := 92) (v := 1) d_M_partsOf_91 rfl (by decide) ?_
            refine g_iload (n := 94) d_M_partsOf_92 rfl 4 rfl ?_
            obtain ⟨r27, h28, hf⟩ := ob_bind hf
            refine c_Vr (n := 97) (st' := [.int r27]) [.int r25, .int 1, .int x4] [] d_M_partsOf_94 rfl (s_M_isPart htr h28 rfl) tw_984 tw_986 (am_memS 23 (by decide +kernel) (by decide +kernel)) tw_8 tw_987 hd_M_isPart (by omega) (by decide) (ci := 7) rfl rfl rfl (Nat.le_of_ble_eq_true rfl) rfl rfl ?_
            refine g_if_eq (n := 100) (tgt := 123) d_M_partsOf_97 rfl (by decide) (fun q29 => ?_) (fun q29 => ?_)
            · have hf := ob_pos q29 hf
              refine g_iconst (n := 124) (v := 0) d_M_partsOf_123 rfl (by decide) ?_
              cases hf
              exact g_iret d_M_partsOf_124 rfl (Nat.zero_le _) (Nat.zero_le _)
            · have hf := ob_neg q29 hf
              refine g_aload_n (n := 101) d_M_partsOf_100 rfl 0 rfl rfl ?_
              refine g_aload_n (n := 102) d_M_partsOf_101 rfl 0 rfl rfl ?_
              refine g_iload_n (n := 103) d_M_partsOf_102 rfl 1 rfl rfl ?_
              refine g_iload_n (n := 104) d_M_partsOf_103 rfl 2 rfl rfl ?_
              refine g_iconst (n := 105) (v := 2) d_M_partsOf_104 rfl (by decide) ?_
              refine g_isub (n := 106) d_M_partsOf_105 rfl ?_
              obtain ⟨r30, h31, hf⟩ := ob_bind hf
              refine c_Vr (n := 109) (st' := [.int r30, .ref 18]) [.int x1, .int (x2 - 2)] [.ref 18] d_M_partsOf_106 rfl (s_M_place htr h31 rfl) tw_965 tw_967 (am_memS 19 (by decide +kernel) (by decide +kernel)) tw_8 tw_968 hd_M_place (by omega) (by decide) (ci := 7) rfl rfl rfl (Nat.le_of_ble_eq_true rfl) rfl rfl ?_
              refine g_bipush (n := 111) (v := 66) d_M_partsOf_109 rfl (by decide) ?_
              refine g_iload (n := 113) d_M_partsOf_111 rfl 4 rfl ?_
              obtain ⟨r32, h33, hf⟩ := ob_bind hf
              refine c_Vr (n := 116) (st' := [.int r32]) [.int r30, .int 66, .int x4] [] d_M_partsOf_113 rfl (s_M_isPart htr h33 rfl) tw_984 tw_986 (am_memS 23 (by decide +kernel) (by decide +kernel)) tw_8 tw_987 hd_M_isPart (by omega) (by decide) (ci := 7) rfl rfl rfl (Nat.le_of_ble_eq_true rfl) rfl rfl ?_
              refine g_if_eq (n := 119) (tgt := 123) d_M_partsOf_116 rfl (by decide) (fun q34 => ?_) (fun q34 => ?_)
              · have hf := ob_pos q34 hf
                refine g_iconst (n := 124) (v := 0) d_M_partsOf_123 rfl (by decide) ?_
                cases hf
                exact g_iret d_M_partsOf_124 rfl (Nat.zero_le _) (Nat.zero_le _)
              · have hf := ob_neg q34 hf
                refine g_iconst (n := 120) (v := 2) d_M_partsOf_119 rfl (by decide) ?_
                refine g_goto (n := 124) d_M_partsOf_120 (by decide) ?_
                cases hf
                exact g_iret d_M_partsOf_124 rfl (Nat.zero_le _) (Nat.zero_le _)
        · have hf := ob_neg q23 hf
          refine g_iconst (n := 76) (v := 1) d_M_partsOf_75 rfl (by decide) ?_
          cases hf
          exact g_iret d_M_partsOf_76 rfl (Nat.zero_le _) (Nat.zero_le _)
    · have hf := ob_neg q6 hf
      refine g_iload (n := 32) d_M_partsOf_30 rfl 4 rfl ?_
      refine g_aload_n (n := 33) d_M_partsOf_32 rfl 0 rfl rfl ?_
      refine g_get (n := 36) (q0 := 18) d_M_partsOf_33 rfl (am_fl in_M rfl (by decide : 1 < 20)) (List.mem_cons_of_mem _ tw_866) rfl rfl ?_
      refine g_iload_n (n := 37) d_M_partsOf_36 rfl 3 rfl rfl ?_
      refine g_iload (n := 39) d_M_partsOf_37 rfl 5 rfl ?_
      refine g_iadd (n := 40) d_M_partsOf_39 rfl ?_
      obtain ⟨b35, hf⟩ := ob_chk hf
      refine g_iald (n := 41) (q0 := 19) d_M_partsOf_40 rfl rfl (am_inl b35) ?_
      obtain ⟨r36, h37, hf⟩ := ob_bind hf
      refine c_Sr (n := 44) (st' := [.int r36]) [.int x4, .int (dk (x3 + x5).toNatClampNeg)] [] d_M_partsOf_41 rfl (s_M_summed htr h37 rfl) tw_981 tw_982 tw_8 tw_983 rfl hd_M_summed (by omega) (by decide) rfl (Nat.le_of_ble_eq_true rfl) rfl rfl ?_
      refine g_istore (n := 46) (ls' := [(4, .int r36), (0, .ref 18), (1, .int x1), (2, .int x2), (3, .int x3), (5, .int x5)]) d_M_partsOf_44 rfl (am_ltb rfl) rfl ?_
      refine g_iinc (n := 49) (v := (x5 + 1)) (ls' := [(5, .int (x5 + 1)), (4, .int r36), (0, .ref 18), (1, .int x1), (2, .int x2), (3, .int x3)]) d_M_partsOf_46 rfl 5 rfl rfl (am_ltb rfl) rfl ?_
      refine g_goto (n := 23) d_M_partsOf_49 (by decide) ?_
      refine g_ls [2, 3, 4, 5, 1, 0] rfl ?_
      exact ih dk x1 x2 x3 r36 (x5 + 1) _ hf _ rfl
def f_M_partsOf (dk : Nat → Int32) (x1 : Int32) (x2 : Int32) : Option (Int32) :=
  ((f_M_place dk x1 x2).bind fun r1 => ((f_M_isNamed dk r1).bind fun r3 => (if r3 = 0 then some 0 else f_M_partsOf_L23 100000000000 dk x1 x2 r1 0 0)))
set_option maxHeartbeats 4000000 in
set_option maxRecDepth 100000 in
theorem s_M_partsOf {l : Launch} {D : va_G} {dA : FieldType → ClassId} (htr : l.stackTraces = false) {hx : Nat → am_E} {rest : List am_E} {on : Int32} {dd : Int32} {mw : Int32} {cu : Int32} {ty : Int32} {mh : Int32} {md : Int32} {dk : Nat → Int32} {op : Nat → Int32} {th : Int32} {sp : Int32} {mp : Int32} {mf : Int32} {ml : Nat → Int32} {ps : Nat → Int32} {nm : Nat → Int32} {mu : Nat → Int32} {ch : Nat → Int32} {wy : Nat → Int32} {nx : Nat → Int32}  {x1 : Int32} {x2 : Int32} {r : Int32} (hf : f_M_partsOf dk x1 x2 = some r) {o : am_O} (ho : .inl (some (.int r)) = o) :
    am_M (am_kk l D dA) y_M_partsOf ws_M_partsOf (am_rm 4 o) [.ref 18, .int x1, .int x2] (hM hx on dd mw cu ty mh md dk op th sp mp mf ml ps nm mu ch wy nx rest) o (hM hx on dd mw cu ty mh md dk op th sp mp mf ml ps nm mu ch wy nx rest) := by
  subst ho
  refine am_body (by decide) rfl (Nat.le_of_ble_eq_true rfl) rfl ?_
  rw [f_M_partsOf] at hf
  refine g_aload_n (n := 1) d_M_partsOf_0 rfl 0 rfl rfl ?_
  refine g_iload_n (n := 2) d_M_partsOf_1 rfl 1 rfl rfl ?_
  refine g_iload_n (n := 3) d_M_partsOf_2 rfl 2 rfl rfl ?_
  obtain ⟨r1, h2, hf⟩ := ob_bind hf
  refine c_Vr (n := 6) (st' := [.int r1]) [.int x1, .int x2] [] d_M_partsOf_3 rfl (s_M_place htr h2 rfl) tw_965 tw_967 (am_memS 19 (by decide +kernel) (by decide +kernel)) tw_8 tw_968 hd_M_place (by omega) (by decide) (ci := 7) rfl rfl rfl (Nat.le_of_ble_eq_true rfl) rfl rfl ?_
  refine g_istore_n (n := 7) (ls' := [(3, .int r1), (0, .ref 18), (1, .int x1), (2, .int x2)]) d_M_partsOf_6 rfl rfl (am_ltb rfl) rfl ?_
  refine g_aload_n (n := 8) d_M_partsOf_7 rfl 1 rfl rfl ?_
  refine g_iload_n (n := 9) d_M_partsOf_8 rfl 0 rfl rfl ?_
  obtain ⟨r3, h4, hf⟩ := ob_bind hf
  refine c_Vr (n := 12) (st' := [.int r3]) [.int r1] [] d_M_partsOf_9 rfl (s_M_isNamed htr h4 rfl) tw_969 tw_971 (am_memS 20 (by decide +kernel) (by decide +kernel)) tw_8 tw_972 hd_M_isNamed (by omega) (by decide) (ci := 7) rfl rfl rfl (Nat.le_of_ble_eq_true rfl) rfl rfl ?_
  refine g_if_ne (n := 15) (tgt := 17) d_M_partsOf_12 rfl (by decide) (fun q5 => ?_) (fun q5 => ?_)
  · have hf := ob_neg q5 hf
    refine g_iconst (n := 18) (v := 0) d_M_partsOf_17 rfl (by decide) ?_
    refine g_istore (n := 20) (ls' := [(4, .int 0), (3, .int r1), (0, .ref 18), (1, .int x1), (2, .int x2)]) d_M_partsOf_18 rfl (am_ltb rfl) rfl ?_
    refine g_iconst (n := 21) (v := 0) d_M_partsOf_20 rfl (by decide) ?_
    refine g_istore (n := 23) (ls' := [(5, .int 0), (4, .int 0), (3, .int r1), (0, .ref 18), (1, .int x1), (2, .int x2)]) d_M_partsOf_21 rfl (am_ltb rfl) rfl ?_
    refine g_ls [3, 4, 5, 2, 1, 0] rfl ?_
    exact s_M_partsOf_L23 htr 100000000000 dk x1 x2 r1 0 0 _ hf _ rfl
  · have hf := ob_pos q5 hf
    refine g_iconst (n := 16) (v := 0) d_M_partsOf_15 rfl (by decide) ?_
    cases hf
    exact g_iret d_M_partsOf_16 rfl (Nat.zero_le _) (Nat.zero_le _)
