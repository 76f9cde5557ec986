def f_M_shorten (ty : Int32) (mh : Int32) (dk : Nat → Int32) (mp : Int32) (ml : Nat → Int32) (nm : Nat → Int32) : Option (Int32 × Int32 × (Nat → Int32)) :=
  (if 7 ≤ ty then f_M_shorten_L19 100000000000 ty mh dk mp ml nm 0 0 0 else f_M_shorten_L19 100000000000 ty mh dk mp ml nm 1 0 0)
set_option maxHeartbeats 4000000 in
set_option maxRecDepth 100000 in
theorem s_M_shorten {l : Launch} {D : va_G} {dA : FieldType → ClassId} (htr : l.stackTraces = false) {hx : Nat → am_E} {rest : List am_E} {on : Int32} {dd : Int32} {mw : Int32} {cu : Int32} {ty : Int32} {mh : Int32} {md : Int32} {dk : Nat → Int32} {op : Nat → Int32} {th : Int32} {sp : Int32} {mp : Int32} {mf : Int32} {ml : Nat → Int32} {ps : Nat → Int32} {nm : Nat → Int32} {mu : Nat → Int32} {ch : Nat → Int32} {wy : Nat → Int32} {nx : Nat → Int32}   {r : Int32 × Int32 × (Nat → Int32)} (hf : f_M_shorten ty mh dk mp ml nm = some r) {o : am_O} (ho : .inl (some (.int r.1)) = o) :
    am_M (am_kk l D dA) y_M_shorten ws_M_shorten (am_rm 5 o) [.ref 18] (hM hx on dd mw cu ty mh md dk op th sp mp mf ml ps nm mu ch wy nx rest) o (hM hx on dd mw cu ty mh md dk op th sp r.2.1 mf ml ps r.2.2 mu ch wy nx rest) := by
  subst ho
  refine am_body (by decide) rfl (Nat.le_of_ble_eq_true rfl) rfl ?_
  rw [f_M_shorten] at hf
  refine g_aload_n (n := 1) d_M_shorten_0 rfl 0 rfl rfl ?_
  refine g_get (n := 4) (q0 := 18) d_M_shorten_1 rfl (am_fl in_M rfl (by decide : 8 < 20)) (List.mem_cons_of_mem _ tw_873) rfl rfl ?_
  refine g_bipush (n := 6) (v := 7) d_M_shorten_4 rfl (by decide) ?_
  refine g_icmp_ge (n := 9) (tgt := 13) d_M_shorten_6 rfl (by decide) (fun q1 => ?_) (fun q1 => ?_)
  · have hf := ob_pos q1 hf
    refine g_iconst (n := 14) (v := 0) d_M_shorten_13 rfl (by decide) ?_
    refine g_istore_n (n := 15) (ls' := [(1, .int 0), (0, .ref 18)]) d_M_shorten_14 rfl rfl (am_ltb rfl) rfl ?_
    refine g_iconst (n := 16) (v := 0) d_M_shorten_15 rfl (by decide) ?_
    refine g_istore_n (n := 17) (ls' := [(2, .int 0), (1, .int 0), (0, .ref 18)]) d_M_shorten_16 rfl rfl (am_ltb rfl) rfl ?_
    refine g_iconst (n := 18) (v := 0) d_M_shorten_17 rfl (by decide) ?_
    refine g_istore_n (n := 19) (ls' := [(3, .int 0), (2, .int 0), (1, .int 0), (0, .ref 18)]) d_M_shorten_18 rfl rfl (am_ltb rfl) rfl ?_
    refine g_ls [3, 2, 1, 0] rfl ?_
    exact s_M_shorten_L19 htr 100000000000 ty mh dk mp ml nm 0 0 0 _ hf _ rfl
  · have hf := ob_neg q1 hf
    refine g_iconst (n := 10) (v := 1) d_M_shorten_9 rfl (by decide) ?_
    refine g_goto (n := 14) d_M_shorten_10 (by decide) ?_
    refine g_istore_n (n := 15) (ls' := [(1, .int 1), (0, .ref 18)]) d_M_shorten_14 rfl rfl (am_ltb rfl) rfl ?_
    refine g_iconst (n := 16) (v := 0) d_M_shorten_15 rfl (by decide) ?_
    refine g_istore_n (n := 17) (ls' := [(2, .int 0), (1, .int 1), (0, .ref 18)]) d_M_shorten_16 rfl rfl (am_ltb rfl) rfl ?_
    refine g_iconst (n := 18) (v := 0) d_M_shorten_17 rfl (by decide) ?_
    refine g_istore_n (n := 19) (ls' := [(3, .int 0), (2, .int 0), (1, .int 1), (0, .ref 18)]) d_M_shorten_18 rfl rfl (am_ltb rfl) rfl ?_
    refine g_ls [3, 2, 1, 0] rfl ?_
    exact s_M_shorten_L19 htr 100000000000 ty mh dk mp ml nm 1 0 0 _ hf _ rfl
def f_M_home_L12 : Nat → Int32 → Int32 → (Nat → Int32) → Int32 → Option (Int32 × Int32 × (Nat → Int32))
  | 0, _, _, _, _ => none
  | fuel + 1, mh, md, op, x1 =>
  (if 4 ≤ x1 then some (mh, md, op) else (if am_in x1 4 = true then f_M_home_L12 fuel mh md (upd op x1.toNatClampNeg 0) (x1 + 1) else none))
set_option maxHeartbeats 4000000 in
set_option maxRecDepth 100000 in
theorem s_M_home_L12 {l : Launch} {D : va_G} {dA : FieldType → ClassId} (htr : l.stackTraces = false) {hx : Nat → am_E} {rest : List am_E} {on : Int32} {dd : Int32} {mw : Int32} {cu : Int32} {ty : Int32} {dk : Nat → Int32} {th : Int32} {sp : Int32} {mp : Int32} {mf : Int32} {ml : Nat → Int32} {ps : Nat → Int32} {nm : Nat → Int32} {mu : Nat → Int32} {ch : Nat → Int32} {wy : Nat → Int32} {nx : Nat → Int32}  : ∀ (fuel : Nat) (mh : Int32) (md : Int32) (op : Nat → Int32) (x1 : Int32) (r : Int32 × Int32 × (Nat → Int32)), f_M_home_L12 fuel mh md op x1 = some r → ∀ o : am_O, .inl none = o →
    am_G (am_kk l D dA) (ws_M_home, y_M_home.cls, prog_9_method_29_code, 2, none, y_M_home.name, [], am_rm 0 (o), none) o (hM hx on dd mw cu ty r.1 r.2.1 dk r.2.2 th sp mp mf ml ps nm mu ch wy nx rest) 0 0 12 [(0, .ref 18), (1, .int x1)] [] (hM hx on dd mw cu ty mh md dk op th sp mp mf ml ps nm mu ch wy nx rest) := by
  intro fuel
  induction fuel with
  | zero =>
    intro mh md op x1 r hf
    cases hf
  | succ fuel ih =>
    intro mh md op x1 r hf o ho
    subst ho
    rw [f_M_home_L12] at hf
    refine g_iload_n (n := 13) d_M_home_12 rfl 1 rfl rfl ?_
    refine g_iconst (n := 14) (v := 4) d_M_home_13 rfl (by decide) ?_
    refine g_icmp_ge (n := 17) (tgt := 30) d_M_home_14 rfl (by decide) (fun q1 => ?_) (fun q1 => ?_)
    · have hf := ob_pos q1 hf
      cases hf
      exact g_vret d_M_home_30 rfl (Nat.zero_le _) (Nat.zero_le _)
    · have hf := ob_neg q1 hf
      refine g_aload_n (n := 18) d_M_home_17 rfl 0 rfl rfl ?_
      refine g_get (n := 21) (q0 := 18) d_M_home_18 rfl (am_fl in_M rfl (by decide : 11 < 20)) (List.mem_cons_of_mem _ tw_876) rfl rfl ?_
      refine g_iload_n (n := 22) d_M_home_21 rfl 1 rfl rfl ?_
      refine g_iconst (n := 23) (v := 0) d_M_home_22 rfl (by decide) ?_
      obtain ⟨b2, hf⟩ := ob_chk hf
      refine g_iast (n := 24) (q0 := 21) (h' := (hM hx on dd mw cu ty mh md dk (upd op x1.toNatClampNeg 0) th sp mp mf ml ps nm mu ch wy nx rest)) d_M_home_23 rfl rfl (am_inl b2) rfl ?_
      refine g_iinc (n := 27) (v := (x1 + 1)) (ls' := [(1, .int (x1 + 1)), (0, .ref 18)]) d_M_home_24 rfl 1 rfl rfl (am_ltb rfl) rfl ?_
      refine g_goto (n := 12) d_M_home_27 (by decide) ?_
      refine g_ls [1, 0] rfl ?_
      exact ih mh md (upd op x1.toNatClampNeg 0) (x1 + 1) _ hf _ rfl
def f_M_home (mh : Int32) (md : Int32) (op : Nat → Int32) : Option (Int32 × Int32 × (Nat → Int32)) :=
  f_M_home_L12 100000000000 2 1 op 0
set_option maxHeartbeats 4000000 in
set_option maxRecDepth 100000 in
theorem s_M_home {l : Launch} {D : va_G} {dA : FieldType → ClassId} (htr : l.stackTraces = false) {hx : Nat → am_E} {rest : List am_E} {on : Int32} {dd : Int32} {mw : Int32} {cu : Int32} {ty : Int32} {mh : Int32} {md : Int32} {dk : Nat → Int32} {op : Nat → Int32} {th : Int32} {sp : Int32} {mp : Int32} {mf : Int32} {ml : Nat → Int32} {ps : Nat → Int32} {nm : Nat → Int32} {mu : Nat → Int32} {ch : Nat → Int32} {wy : Nat → Int32} {nx : Nat → Int32}   {r : Int32 × Int32 × (Nat → Int32)} (hf : f_M_home mh md op = some r) {o : am_O} (ho : .inl none = o) :
    am_M (am_kk l D dA) y_M_home ws_M_home (am_rm 0 o) [.ref 18] (hM hx on dd mw cu ty mh md dk op th sp mp mf ml ps nm mu ch wy nx rest) o (hM hx on dd mw cu ty r.1 r.2.1 dk r.2.2 th sp mp mf ml ps nm mu ch wy nx rest) := by
  subst ho
  refine am_body (by decide) rfl (Nat.le_of_ble_eq_true rfl) rfl ?_
  rw [f_M_home] at hf
  refine g_aload_n (n := 1) d_M_home_0 rfl 0 rfl rfl ?_
  refine g_iconst (n := 2) (v := 2) d_M_home_1 rfl (by decide) ?_
  refine g_put (n := 5) (q0 := 18) (h' := (hM hx on dd mw cu ty 2 md dk op th sp mp mf ml ps nm mu ch wy nx rest)) d_M_home_2 rfl (am_fl in_M rfl (by decide : 9 < 20)) typ_M (List.mem_cons_of_mem _ tw_874) rfl (fun _ _ => rfl) (fun _ _ => rfl) rfl (am_ltb rfl) rfl ?_
  refine g_aload_n (n := 6) d_M_home_5 rfl 0 rfl rfl ?_
  refine g_iconst (n := 7) (v := 1) d_M_home_6 rfl (by decide) ?_
  refine g_put (n := 10) (q0 := 18) (h' := (hM hx on dd mw cu ty 2 1 dk op th sp mp mf ml ps nm mu ch wy nx rest)) d_M_home_7 rfl (am_fl in_M rfl (by decide : 10 < 20)) typ_M (List.mem_cons_of_mem _ tw_875) rfl (fun _ _ => rfl) (fun _ _ => rfl) rfl (am_ltb rfl) rfl ?_
  refine g_iconst (n := 11) (v := 0) d_M_home_10 rfl (by decide) ?_
  refine g_istore_n (n := 12) (ls' := [(1, .int 0), (0, .ref 18)]) d_M_home_11 rfl rfl (am_ltb rfl) rfl ?_
  refine g_ls [1, 0] rfl ?_
  exact s_M_home_L12 htr 100000000000 2 1 op 0 _ hf _ rfl
def f_M_door (w : am_MS) : Option (Int32 × am_MS) :=
  (if w.2.1 = 0 then (if w.2.2.2.1 = 0 then ((f_M_home w.2.2.2.2.2.1 w.2.2.2.2.2.2.1 w.2.2.2.2.2.2.2.2).bind fun r4 => some (0, (0, 1, w.2.2.1, (-1), 0, r4.1, r4.2.1, w.2.2.2.2.2.2.2.1, r4.2.2))) else (if w.2.2.2.1 ≤ 0 then some (1, (w.1, w.2.1, (w.2.2.1 + 1), w.2.2.2.1, w.2.2.2.2.1, w.2.2.2.2.2.1, w.2.2.2.2.2.2.1, w.2.2.2.2.2.2.2.1, w.2.2.2.2.2.2.2.2)) else some (1, (w.1, w.2.1, (w.2.2.1 + 1), (w.2.2.2.1 - 1), w.2.2.2.2.1, w.2.2.2.2.2.1, w.2.2.2.2.2.2.1, w.2.2.2.2.2.2.2.1, w.2.2.2.2.2.2.2.2)))) else some (0, w))
set_option maxHeartbeats 4000000 in
set_option maxRecDepth 100000 in
theorem s_M_door {l : Launch} {D : va_G} {dA : FieldType → ClassId} (htr : l.stackTraces = false) {hx : Nat → am_E} {rest : List am_E} {th : Int32} {sp : Int32} {mp : Int32} {mf : Int32} {ml : Nat → Int32} {ps : Nat → Int32} {nm : Nat → Int32} {mu : Nat → Int32} {ch : Nat → Int32} {wy : Nat → Int32} {nx : Nat → Int32} {w : am_MS}  {r : Int32 × am_MS} (hf : f_M_door w = some r) {o : am_O} (ho : .inl (some (.int r.1)) = o) :
    am_M (am_kk l D dA) y_M_door ws_M_door (am_rm 1 o) [.ref 18] (hM hx w.1 w.2.1 w.2.2.1 w.2.2.2.1 w.2.2.2.2.1 w.2.2.2.2.2.1 w.2.2.2.2.2.2.1 w.2.2.2.2.2.2.2.1 w.2.2.2.2.2.2.2.2 th sp mp mf ml ps nm mu ch wy nx rest) o (hM hx r.2.1 r.2.2.1 r.2.2.2.1 r.2.2.2.2.1 r.2.2.2.2.2.1 r.2.2.2.2.2.2.1 r.2.2.2.2.2.2.2.1 r.2.2.2.2.2.2.2.2.1 r.2.2.2.2.2.2.2.2.2 th sp mp mf ml ps nm mu ch wy nx rest) := by
  subst ho
  refine am_body (by decide) rfl (Nat.le_of_ble_eq_true rfl) rfl ?_
  rw [f_M_door] at hf
  refine g_aload_n (n := 1) d_M_door_0 rfl 0 rfl rfl ?_
  refine g_get (n := 4) (q0 := 18) d_M_door_1 rfl (am_fl in_M rfl (by decide : 4 < 20)) (List.mem_cons_of_mem _ tw_869) rfl rfl ?_
  refine g_if_eq (n := 7) (tgt := 9) d_M_door_4 rfl (by decide) (fun q1 => ?_) (fun q1 => ?_)
  · have hf := ob_pos q1 hf
    refine g_aload_n (n := 10) d_M_door_9 rfl 0 rfl rfl ?_
    refine g_get (n := 13) (q0 := 18) d_M_door_10 rfl (am_fl in_M rfl (by decide : 6 < 20)) (List.mem_cons_of_mem _ tw_871) rfl rfl ?_
    refine g_if_ne (n := 16) (tgt := 42) d_M_door_13 rfl (by decide) (fun q2 => ?_) (fun q2 => ?_)
    · have hf := ob_neg q2 hf
      refine g_aload_n (n := 43) d_M_door_42 rfl 0 rfl rfl ?_
      refine g_aload_n (n := 44) d_M_door_43 rfl 0 rfl rfl ?_
      refine g_get (n := 47) (q0 := 18) d_M_door_44 rfl (am_fl in_M rfl (by decide : 6 < 20)) (List.mem_cons_of_mem _ tw_871) rfl rfl ?_
      refine g_if_le (n := 50) (tgt := 59) d_M_door_47 rfl (by decide) (fun q3 => ?_) (fun q3 => ?_)
      · have hf := ob_pos q3 hf
        refine g_aload_n (n := 60) d_M_door_59 rfl 0 rfl rfl ?_
        refine g_get (n := 63) (q0 := 18) d_M_door_60 rfl (am_fl in_M rfl (by decide : 6 < 20)) (List.mem_cons_of_mem _ tw_871) rfl rfl ?_
        refine g_put (n := 66) (q0 := 18) (h' := (hM hx w.1 w.2.1 w.2.2.1 w.2.2.2.1 w.2.2.2.2.1 w.2.2.2.2.2.1 w.2.2.2.2.2.2.1 w.2.2.2.2.2.2.2.1 w.2.2.2.2.2.2.2.2 th sp mp mf ml ps nm mu ch wy nx rest)) d_M_door_63 rfl (am_fl in_M rfl (by decide : 6 < 20)) typ_M (List.mem_cons_of_mem _ tw_871) rfl (fun _ _ => rfl) (fun _ _ => rfl) rfl (am_ltb rfl) rfl ?_
        refine g_aload_n (n := 67) d_M_door_66 rfl 0 rfl rfl ?_
        refine g_dup (n := 68) d_M_door_67 rfl rfl ?_
        refine g_get (n := 71) (q0 := 18) d_M_door_68 rfl (am_fl in_M rfl (by decide : 5 < 20)) (List.mem_cons_of_mem _ tw_870) rfl rfl ?_
        refine g_iconst (n := 72) (v := 1) d_M_door_71 rfl (by decide) ?_
        refine g_iadd (n := 73) d_M_door_72 rfl ?_
        refine g_put (n := 76) (q0 := 18) (h' := (hM hx w.1 w.2.1 (w.2.2.1 + 1) w.2.2.2.1 w.2.2.2.2.1 w.2.2.2.2.2.1 w.2.2.2.2.2.2.1 w.2.2.2.2.2.2.2.1 w.2.2.2.2.2.2.2.2 th sp mp mf ml ps nm mu ch wy nx rest)) d_M_door_73 rfl (am_fl in_M rfl (by decide : 5 < 20)) typ_M (List.mem_cons_of_mem _ tw_870) rfl (fun _ _ => rfl) (fun _ _ => rfl) rfl (am_ltb rfl) rfl ?_
        refine g_iconst (n := 77) (v := 1) d_M_door_76 rfl (by decide) ?_
        cases hf
        exact g_zret d_M_door_77 rfl am_z1 (Nat.zero_le _) (Nat.zero_le _)
      · have hf := ob_neg q3 hf
        refine g_aload_n (n := 51) d_M_door_50 rfl 0 rfl rfl ?_
        refine g_get (n := 54) (q0 := 18) d_M_door_51 rfl (am_fl in_M rfl (by decide : 6 < 20)) (List.mem_cons_of_mem _ tw_871) rfl rfl ?_
        refine g_iconst (n := 55) (v := 1) d_M_door_54 rfl (by decide) ?_
        refine g_isub (n := 56) d_M_door_55 rfl ?_
        refine g_goto (n := 63) d_M_door_56 (by decide) ?_
        refine g_put (n := 66) (q0 := 18) (h' := (hM hx w.1 w.2.1 w.2.2.1 (w.2.2.2.1 - 1) w.2.2.2.2.1 w.2.2.2.2.2.1 w.2.2.2.2.2.2.1 w.2.2.2.2.2.2.2.1 w.2.2.2.2.2.2.2.2 th sp mp mf ml ps nm mu ch wy nx rest)) d_M_door_63 rfl (am_fl in_M rfl (by decide : 6 < 20)) typ_M (List.mem_cons_of_mem _ tw_871) rfl (fun _ _ => rfl) (fun _ _ => rfl) rfl (am_ltb rfl) rfl ?_
        refine g_aload_n (n := 67) d_M_door_66 rfl 0 rfl rfl ?_
        refine g_dup (n := 68) d_M_door_67 rfl rfl ?_
        refine g_get (n := 71) (q0 := 18) d_M_door_68 rfl (am_fl in_M rfl (by decide : 5 < 20)) (List.mem_cons_of_mem _ tw_870) rfl rfl ?_
        refine g_iconst (n := 72) (v := 1) d_M_door_71 rfl (by decide) ?_
        refine g_iadd (n := 73) d_M_door_72 rfl ?_
        refine g_put (n := 76) (q0 := 18) (h' := (hM hx w.1 w.2.1 (w.2.2.1 + 1) (w.2.2.2.1 - 1) w.2.2.2.2.1 w.2.2.2.2.2.1 w.2.2.2.2.2.2.1 w.2.2.2.2.2.2.2.1 w.2.2.2.2.2.2.2.2 th sp mp mf ml ps nm mu ch wy nx rest)) d_M_door_73 rfl (am_fl in_M rfl (by decide : 5 < 20)) typ_M (List.mem_cons_of_mem _ tw_870) rfl (fun _ _ => rfl) (fun _ _ => rfl) rfl (am_ltb rfl) rfl ?_
        refine g_iconst (n := 77) (v := 1) d_M_door_76 rfl (by decide) ?_
        cases hf
        exact g_zret d_M_door_77 rfl am_z1 (Nat.zero_le _) (Nat.zero_le _)
    · have hf := ob_pos q2 hf
      refine g_aload_n (n := 17) d_M_door_16 rfl 0 rfl rfl ?_
      refine g_iconst (n := 18) (v := 1) d_M_door_17 rfl (by decide) ?_
      refine g_put (n := 21) (q0 := 18) (h' := (hM hx w.1 1 w.2.2.1 w.2.2.2.1 w.2.2.2.2.1 w.2.2.2.2.2.1 w.2.2.2.2.2.2.1 w.2.2.2.2.2.2.2.1 w.2.2.2.2.2.2.2.2 th sp mp mf ml ps nm mu ch wy nx rest)) d_M_door_18 rfl (am_fl in_M rfl (by decide : 4 < 20)) typ_M (List.mem_cons_of_mem _ tw_869) rfl (fun _ _ => rfl) (fun _ _ => rfl) rfl (am_ltb rfl) rfl ?_
      refine g_aload_n (n := 22) d_M_door_21 rfl 0 rfl rfl ?_
      refine g_iconst (n := 23) (v := 0) d_M_door_22 rfl (by decide) ?_
      refine g_put (n := 26) (q0 := 18) (h' := (hM hx 0 1 w.2.2.1 w.2.2.2.1 w.2.2.2.2.1 w.2.2.2.2.2.1 w.2.2.2.2.2.2.1 w.2.2.2.2.2.2.2.1 w.2.2.2.2.2.2.2.2 th sp mp mf ml ps nm mu ch wy nx rest)) d_M_door_23 rfl (am_fl in_M rfl (by decide : 2 < 20)) typ_M (List.mem_cons_of_mem _ tw_867) rfl (fun _ _ => rfl) (fun _ _ => rfl) rfl (am_ltb rfl) rfl ?_
      refine g_aload_n (n := 27) d_M_door_26 rfl 0 rfl rfl ?_
      refine g_iconst (n := 28) (v := (-1)) d_M_door_27 rfl (by decide) ?_
      refine g_put (n := 31) (q0 := 18) (h' := (hM hx 0 1 w.2.2.1 (-1) w.2.2.2.2.1 w.2.2.2.2.2.1 w.2.2.2.2.2.2.1 w.2.2.2.2.2.2.2.1 w.2.2.2.2.2.2.2.2 th sp mp mf ml ps nm mu ch wy nx rest)) d_M_door_28 rfl (am_fl in_M rfl (by decide : 6 < 20)) typ_M (List.mem_cons_of_mem _ tw_871) rfl (fun _ _ => rfl) (fun _ _ => rfl) rfl (am_ltb rfl) rfl ?_
      refine g_aload_n (n := 32) d_M_door_31 rfl 0 rfl rfl ?_
      refine g_iconst (n := 33) (v := 0) d_M_door_32 rfl (by decide) ?_
      refine g_put (n := 36) (q0 := 18) (h' := (hM hx 0 1 w.2.2.1 (-1) 0 w.2.2.2.2.2.1 w.2.2.2.2.2.2.1 w.2.2.2.2.2.2.2.1 w.2.2.2.2.2.2.2.2 th sp mp mf ml ps nm mu ch wy nx rest)) d_M_door_33 rfl (am_fl in_M rfl (by decide : 8 < 20)) typ_M (List.mem_cons_of_mem _ tw_873) rfl (fun _ _ => rfl) (fun _ _ => rfl) rfl (am_ltb rfl) rfl ?_
      refine g_aload_n (n := 37) d_M_door_36 rfl 0 rfl rfl ?_
      obtain ⟨r4, h5, hf⟩ := ob_bind hf
      refine c_Vr (n := 40) (st' := []) [] [] d_M_door_37 rfl (s_M_home htr h5 rfl) tw_1029 tw_1031 (am_memS 32 (by decide +kernel) (by decide +kernel)) tw_8 tw_1032 hd_M_home (by omega) (by decide) (ci := 7) rfl rfl rfl (Nat.le_of_ble_eq_true rfl) rfl rfl ?_
      refine g_iconst (n := 41) (v := 0) d_M_door_40 rfl (by decide) ?_
      cases hf
      exact g_zret d_M_door_41 rfl am_z0 (Nat.zero_le _) (Nat.zero_le _)
  · have hf := ob_neg q1 hf
    refine g_iconst (n := 8) (v := 0) d_M_door_7 rfl (by decide) ?_
    cases hf
    exact g_zret d_M_door_8 rfl am_z0 (Nat.zero_le _) (Nat.zero_le _)
def f_M_number (dk : Nat → Int32) (x1 : Int32) (x2 : Int32) : Option ((Nat → Int32)) :=
  (if am_in x1 2240 = true then (if am_in (x1 + 1) 2240 = true then some (upd (upd dk x1.toNatClampNeg (x2 &&& 255)) (x1 + 1).toNatClampNeg ((x2 >>> (8 &&& 31)) &&& 255)) else none) else none)
set_option maxHeartbeats 4000000 in
set_option maxRecDepth 100000 in
theorem s_M_number {l : Launch} {D : va_G} {dA : FieldType → ClassId} (htr : l.stackTraces = false) {hx : Nat → am_E} {rest : List am_E} {on : Int32} {dd : Int32} {mw : Int32} {cu : Int32} {ty : Int32} {mh : Int32} {md : Int32} {dk : Nat → Int32} {op : Nat → Int32} {th : Int32} {sp : Int32} {mp : Int32} {mf : Int32} {ml : Nat → Int32} {ps : Nat → Int32} {nm : Nat → Int32} {mu : Nat → Int32} {ch : Nat → Int32} {wy : Nat → Int32} {nx : Nat → Int32}  {x1 : Int32} {x2 : Int32} {r : (Nat → Int32)} (hf : f_M_number dk x1 x2 = some r) {o : am_O} (ho : .inl none = o) :
    am_M (am_kk l D dA) y_M_number ws_M_number (am_rm 0 o) [.ref 18, .int x1, .int x2] (hM hx on dd mw cu ty mh md dk op th sp mp mf ml ps nm mu ch wy nx rest) o (hM hx on dd mw cu ty mh md r op th sp mp mf ml ps nm mu ch wy nx rest) := by
  subst ho
  refine am_body (by decide) rfl (Nat.le_of_ble_eq_true rfl) rfl ?_
  rw [f_M_number] at hf
  refine g_aload_n (n := 1) d_M_number_0 rfl 0 rfl rfl ?_
  refine g_get (n := 4) (q0 := 18) d_M_number_1 rfl (am_fl in_M rfl (by decide : 1 < 20)) (List.mem_cons_of_mem _ tw_866) rfl rfl ?_
  refine g_iload_n (n := 5) d_M_number_4 rfl 1 rfl rfl ?_
  refine g_iload_n (n := 6) d_M_number_5 rfl 2 rfl rfl ?_
  refine g_sipush (n := 9) (v := 255) d_M_number_6 rfl (by decide) ?_
  refine g_iand (n := 10) d_M_number_9 rfl ?_
  obtain ⟨b1, hf⟩ := ob_chk hf
  refine g_iast (n := 11) (q0 := 19) (h' := (hM hx on dd mw cu ty mh md (upd dk x1.toNatClampNeg (x2 &&& 255)) op th sp mp mf ml ps nm mu ch wy nx rest)) d_M_number_10 rfl rfl (am_inl b1) rfl ?_
  refine g_aload_n (n := 12) d_M_number_11 rfl 0 rfl rfl ?_
  refine g_get (n := 15) (q0 := 18) d_M_number_12 rfl (am_fl in_M rfl (by decide : 1 < 20)) (List.mem_cons_of_mem _ tw_866) rfl rfl ?_
  refine g_iload_n (n := 16) d_M_number_15 rfl 1 rfl rfl ?_
  refine g_iconst (n := 17) (v := 1) d_M_number_16 rfl (by decide) ?_
  refine g_iadd (n := 18) d_M_number_17 rfl ?_
  refine g_iload_n (n := 19) d_M_number_18 rfl 2 rfl rfl ?_
  refine g_bipush (n := 21) (v := 8) d_M_number_19 rfl (by decide) ?_
  refine g_ishr (n := 22) d_M_number_21 rfl ?_
  refine g_sipush (n := 25) (v := 255) d_M_number_22 rfl (by decide) ?_
  refine g_iand (n := 26) d_M_number_25 rfl ?_
  obtain ⟨b2, hf⟩ := ob_chk hf
  refine g_iast (n := 27) (q0 := 19) (h' := (hM hx on dd mw cu ty mh md (upd (upd dk x1.toNatClampNeg (x2 &&& 255)) (x1 + 1).toNatClampNeg ((x2 >>> (8 &&& 31)) &&& 255)) op th sp mp mf ml ps nm mu ch wy nx rest)) d_M_number_26 rfl rfl (am_inl b2) rfl ?_
  cases hf
  exact g_vret d_M_number_27 rfl (Nat.zero_le _) (Nat.zero_le _)
def f_M_set (w : am_MS) (x1 : Int32) (x2 : Int32) : Option (am_MS) :=
  ((f_M_door w).bind fun r1 => (if r1.1 = 0 then ((f_M_door r1.2).bind fun r4 => (if r4.1 = 0 then some r4.2 else ((f_M_number r4.2.2.2.2.2.2.2.2.1 (128 + (2 * x1)) x2).bind fun r7 => some (r4.2.1, r4.2.2.1, r4.2.2.2.1, r4.2.2.2.2.1, r4.2.2.2.2.2.1, r4.2.2.2.2.2.2.1, r4.2.2.2.2.2.2.2.1, r7, r4.2.2.2.2.2.2.2.2.2)))) else ((f_M_number r1.2.2.2.2.2.2.2.2.1 (2 * x1) x2).bind fun r9 => ((f_M_door (r1.2.1, r1.2.2.1, r1.2.2.2.1, r1.2.2.2.2.1, r1.2.2.2.2.2.1, r1.2.2.2.2.2.2.1, r1.2.2.2.2.2.2.2.1, r9, r1.2.2.2.2.2.2.2.2.2)).bind fun r11 => (if r11.1 = 0 then some r11.2 else ((f_M_number r11.2.2.2.2.2.2.2.2.1 (128 + (2 * x1)) x2).bind fun r14 => some (r11.2.1, r11.2.2.1, r11.2.2.2.1, r11.2.2.2.2.1, r11.2.2.2.2.2.1, r11.2.2.2.2.2.2.1, r11.2.2.2.2.2.2.2.1, r14, r11.2.2.2.2.2.2.2.2.2)))))))
set_option maxHeartbeats 4000000 in
set_option maxRecDepth 100000 in
theorem s_M_set {l : Launch} {D : va_G} {dA : FieldType → ClassId} (htr : l.stackTraces = false) {hx : Nat → am_E} {rest : List am_E} {th : Int32} {sp : Int32} {mp : Int32} {mf : Int32} {ml : Nat → Int32} {ps : Nat → Int32} {nm : Nat → Int32} {mu : Nat → Int32} {ch : Nat → Int32} {wy : Nat → Int32} {nx : Nat → Int32} {w : am_MS} {x1 : Int32} {x2 : Int32} {r : am_MS} (hf : f_M_set w x1 x2 = some r) {o : am_O} (ho : .inl none = o) :
    am_M (am_kk l D dA) y_M_set ws_M_set (am_rm 2 o) [.ref 18, .int x1, .int x2] (hM hx w.1 w.2.1 w.2.2.1 w.2.2.2.1 w.2.2.2.2.1 w.2.2.2.2.2.1 w.2.2.2.2.2.2.1 w.2.2.2.2.2.2.2.1 w.2.2.2.2.2.2.2.2 th sp mp mf ml ps nm mu ch wy nx rest) o (hM hx r.1 r.2.1 r.2.2.1 r.2.2.2.1 r.2.2.2.2.1 r.2.2.2.2.2.1 r.2.2.2.2.2.2.1 r.2.2.2.2.2.2.2.1 r.2.2.2.2.2.2.2.2 th sp mp mf ml ps nm mu ch wy nx rest) := by
  subst ho
  refine am_body (by decide) rfl (Nat.le_of_ble_eq_true rfl) rfl ?_
  rw [f_M_set] at hf
  refine g_aload_n (n := 1) d_M_set_0 rfl 0 rfl rfl ?_
  obtain ⟨r1, h2, hf⟩ := ob_bind hf
  refine c_Vr (n := 4) (st' := [.int r1.1]) [] [] d_M_set_1 rfl (s_M_door htr h2 rfl) tw_1025 tw_1027 (am_memS 31 (by decide +kernel) (by decide +kernel)) tw_8 tw_1028 hd_M_door (by omega) (by decide) (ci := 7) rfl rfl rfl (Nat.le_of_ble_eq_true rfl) rfl rfl ?_
  refine g_if_eq (n := 7) (tgt := 15) d_M_set_4 rfl (by decide) (fun q3 => ?_) (fun q3 => ?_)
  · have hf := ob_pos q3 hf
    refine g_aload_n (n := 16) d_M_set_15 rfl 0 rfl rfl ?_
    obtain ⟨r4, h5, hf⟩ := ob_bind hf
    refine c_Vr (n := 19) (st' := [.int r4.1]) [] [] d_M_set_16 rfl (s_M_door htr h5 rfl) tw_1025 tw_1027 (am_memS 31 (by decide +kernel) (by decide +kernel)) tw_8 tw_1028 hd_M_door (by omega) (by decide) (ci := 7) rfl rfl rfl (Nat.le_of_ble_eq_true rfl) rfl rfl ?_
    refine g_if_eq (n := 22) (tgt := 34) d_M_set_19 rfl (by decide) (fun q6 => ?_) (fun q6 => ?_)
    · have hf := ob_pos q6 hf
      cases hf
      exact g_vret d_M_set_34 rfl (Nat.zero_le _) (Nat.zero_le _)
    · have hf := ob_neg q6 hf
      refine g_aload_n (n := 23) d_M_set_22 rfl 0 rfl rfl ?_
      refine g_sipush (n := 26) (v := 128) d_M_set_23 rfl (by decide) ?_
      refine g_iconst (n := 27) (v := 2) d_M_set_26 rfl (by decide) ?_
      refine g_iload_n (n := 28) d_M_set_27 rfl 1 rfl rfl ?_
      refine g_imul (n := 29) d_M_set_28 rfl ?_
      refine g_iadd (n := 30) d_M_set_29 rfl ?_
      refine g_iload_n (n := 31) d_M_set_30 rfl 2 rfl rfl ?_
      obtain ⟨r7, h8, hf⟩ := ob_bind hf
      refine c_Vr (n := 34) (st' := []) [.int (128 + (2 * x1)), .int x2] [] d_M_set_31 rfl (s_M_number htr h8 rfl) tw_861 tw_863 (am_memS 11 (by decide +kernel) (by decide +kernel)) tw_8 tw_864 hd_M_number (by omega) (by decide) (ci := 7) rfl rfl rfl (Nat.le_of_ble_eq_true rfl) rfl rfl ?_
      cases hf
      exact g_vret d_M_set_34 rfl (Nat.zero_le _) (Nat.zero_le _)
  · have hf := ob_neg q3 hf
    refine g_aload_n (n := 8) d_M_set_7 rfl 0 rfl rfl ?_
    refine g_iconst (n := 9) (v := 2) d_M_set_8 rfl (by decide) ?_
    refine g_iload_n (n := 10) d_M_set_9 rfl 1 rfl rfl ?_
    refine g_imul (n := 11) d_M_set_10 rfl ?_
    refine g_iload_n (n := 12) d_M_set_11 rfl 2 rfl rfl ?_
    obtain ⟨r9, h10, hf⟩ := ob_bind hf
    refine c_Vr (n := 15) (st' := []) [.int (2 * x1), .int x2] [] d_M_set_12 rfl (s_M_number htr h10 rfl) tw_861 tw_863 (am_memS 11 (by decide +kernel) (by decide +kernel)) tw_8 tw_864 hd_M_number (by omega) (by decide) (ci := 7) rfl rfl rfl (Nat.le_of_ble_eq_true rfl) rfl rfl ?_
    refine g_aload_n (n := 16) d_M_set_15 rfl 0 rfl rfl ?_
    obtain ⟨r11, h12, hf⟩ := ob_bind hf
    refine c_Vr (n := 19) (st' := [.int r11.1]) [] [] d_M_set_16 rfl (s_M_door htr h12 rfl) tw_1025 tw_1027 (am_memS 31 (by decide +kernel) (by decide +kernel)) tw_8 tw_1028 hd_M_door (by omega) (by decide) (ci := 7) rfl rfl rfl (Nat.le_of_ble_eq_true rfl) rfl rfl ?_
    refine g_if_eq (n := 22) (tgt := 34) d_M_set_19 rfl (by decide) (fun q13 => ?_) (fun q13 => ?_)
    · have hf := ob_pos q13 hf
      cases hf
      exact g_vret d_M_set_34 rfl (Nat.zero_le _) (Nat.zero_le _)
    · have hf := ob_neg q13 hf
      refine g_aload_n (n := 23) d_M_set_22 rfl 0 rfl rfl ?_
      refine g_sipush (n := 26) (v := 128) d_M_set_23 rfl (by decide) ?_
      refine g_iconst (n := 27) (v := 2) d_M_set_26 rfl (by decide) ?_
      refine g_iload_n (n := 28) d_M_set_27 rfl 1 rfl rfl ?_
      refine g_imul (n := 29) d_M_set_28 rfl ?_
      refine g_iadd (n := 30) d_M_set_29 rfl ?_
      refine g_iload_n (n := 31) d_M_set_30 rfl 2 rfl rfl ?_
      obtain ⟨r14, h15, hf⟩ := ob_bind hf
      refine c_Vr (n := 34) (st' := []) [.int (128 + (2 * x1)), .int x2] [] d_M_set_31 rfl (s_M_number htr h15 rfl) tw_861 tw_863 (am_memS 11 (by decide +kernel) (by decide +kernel)) tw_8 tw_864 hd_M_number (by omega) (by decide) (ci := 7) rfl rfl rfl (Nat.le_of_ble_eq_true rfl) rfl rfl ?_
      cases hf
      exact g_vret d_M_set_34 rfl (Nat.zero_le _) (Nat.zero_le _)
def f_M_take_L46 : Nat → am_MS → Int32 → Int32 → Option (Int32 × am_MS)
  | 0, _, _, _ => none
  | fuel + 1, w, x1, x2 =>
  (if 32 ≤ x2 then some (x1, w) else (if am_in ((32 * (x1 + 6)) + x2) 2240 = true then f_M_take_L46 fuel (w.1, w.2.1, w.2.2.1, w.2.2.2.1, w.2.2.2.2.1, w.2.2.2.2.2.1, w.2.2.2.2.2.2.1, (upd w.2.2.2.2.2.2.2.1 ((32 * (x1 + 6)) + x2).toNatClampNeg 0), w.2.2.2.2.2.2.2.2) x1 (x2 + 1) else none))
set_option maxHeartbeats 4000000 in
set_option maxRecDepth 100000 in
theorem s_M_take_L46 {l : Launch} {D : va_G} {dA : FieldType → ClassId} (htr : l.stackTraces = false) {hx : Nat → am_E} {rest : List am_E} {th : Int32} {sp : Int32} {mp : Int32} {mf : Int32} {ml : Nat → Int32} {ps : Nat → Int32} {nm : Nat → Int32} {mu : Nat → Int32} {ch : Nat → Int32} {wy : Nat → Int32} {nx : Nat → Int32}  : ∀ (fuel : Nat) (w : am_MS) (x1 : Int32) (x2 : Int32) (r : Int32 × am_MS), f_M_take_L46 fuel w x1 x2 = some r → ∀ o : am_O, .inl (some (.int r.1)) = o →
    am_G (am_kk l D dA) (ws_M_take, y_M_take.cls, prog_9_method_11_code, 3, (some .int), y_M_take.name, [], am_rm 3 (o), none) o (hM hx r.2.1 r.2.2.1 r.2.2.2.1 r.2.2.2.2.1 r.2.2.2.2.2.1 r.2.2.2.2.2.2.1 r.2.2.2.2.2.2.2.1 r.2.2.2.2.2.2.2.2.1 r.2.2.2.2.2.2.2.2.2 th sp mp mf ml ps nm mu ch wy nx rest) 0 0 46 [(0, .ref 18), (1, .int x1), (2, .int x2)] [] (hM hx w.1 w.2.1 w.2.2.1 w.2.2.2.1 w.2.2.2.2.1 w.2.2.2.2.2.1 w.2.2.2.2.2.2.1 w.2.2.2.2.2.2.2.1 w.2.2.2.2.2.2.2.2 th sp mp mf ml ps nm mu ch wy nx rest) := by
  intro fuel
  induction fuel with
  | zero =>
    intro w x1 x2 r hf
    cases hf
  | succ fuel ih =>
    intro w x1 x2 r hf o ho
    subst ho
    rw [f_M_take_L46] at hf
    refine g_iload_n (n := 47) d_M_take_46 rfl 2 rfl rfl ?_
    refine g_bipush (n := 49) (v := 32) d_M_take_47 rfl (by decide) ?_
    refine g_icmp_ge (n := 52) (tgt := 73) d_M_take_49 rfl (by decide) (fun q8 => ?_) (fun q8 => ?_)
    · have hf := ob_pos q8 hf
      refine g_iload_n (n := 74) d_M_take_73 rfl 1 rfl rfl ?_
      cases hf
      exact g_iret d_M_take_74 rfl (Nat.zero_le _) (Nat.zero_le _)
    · have hf := ob_neg q8 hf
      refine g_aload_n (n := 53) d_M_take_52 rfl 0 rfl rfl ?_
      refine g_get (n := 56) (q0 := 18) d_M_take_53 rfl (am_fl in_M rfl (by decide : 1 < 20)) (List.mem_cons_of_mem _ tw_866) rfl rfl ?_
      refine g_bipush (n := 58) (v := 32) d_M_take_56 rfl (by decide) ?_
      refine g_iload_n (n := 59) d_M_take_58 rfl 1 rfl rfl ?_
      refine g_bipush (n := 61) (v := 6) d_M_take_59 rfl (by decide) ?_
      refine g_iadd (n := 62) d_M_take_61 rfl ?_
      refine g_imul (n := 63) d_M_take_62 rfl ?_
      refine g_iload_n (n := 64) d_M_take_63 rfl 2 rfl rfl ?_
      refine g_iadd (n := 65) d_M_take_64 rfl ?_
      refine g_iconst (n := 66) (v := 0) d_M_take_65 rfl (by decide) ?_
      obtain ⟨b9, hf⟩ := ob_chk hf
      refine g_iast (n := 67) (q0 := 19) (h' := (hM hx w.1 w.2.1 w.2.2.1 w.2.2.2.1 w.2.2.2.2.1 w.2.2.2.2.2.1 w.2.2.2.2.2.2.1 (upd w.2.2.2.2.2.2.2.1 ((32 * (x1 + 6)) + x2).toNatClampNeg 0) w.2.2.2.2.2.2.2.2 th sp mp mf ml ps nm mu ch wy nx rest)) d_M_take_66 rfl rfl (am_inl b9) rfl ?_
      refine g_iinc (n := 70) (v := (x2 + 1)) (ls' := [(2, .int (x2 + 1)), (0, .ref 18), (1, .int x1)]) d_M_take_67 rfl 2 rfl rfl (am_ltb rfl) rfl ?_
      refine g_goto (n := 46) d_M_take_70 (by decide) ?_
      refine g_ls [1, 2, 0] rfl ?_
      exact ih (w.1, w.2.1, w.2.2.1, w.2.2.2.1, w.2.2.2.2.1, w.2.2.2.2.2.1, w.2.2.2.2.2.2.1, (upd w.2.2.2.2.2.2.2.1 ((32 * (x1 + 6)) + x2).toNatClampNeg 0), w.2.2.2.2.2.2.2.2) x1 (x2 + 1) _ hf _ rfl
def f_M_take_L2 : Nat → am_MS → Int32 → Option (Int32 × am_MS)
  | 0, _, _ => none
  | fuel + 1, w, x1 =>
  (if 64 ≤ x1 then (if x1 = 64 then some (0, w) else ((f_M_set w x1 65535).bind fun r3 => ((f_M_door r3).bind fun r5 => (if r5.1 = 0 then some (x1, r5.2) else f_M_take_L46 100000000000 r5.2 x1 0)))) else ((f_M_cell w.2.2.2.2.2.2.2.1 x1).bind fun r10 => (if r10 = 0 then (if x1 = 64 then some (0, w) else ((f_M_set w x1 65535).bind fun r14 => ((f_M_door r14).bind fun r16 => (if r16.1 = 0 then some (x1, r16.2) else f_M_take_L46 100000000000 r16.2 x1 0)))) else f_M_take_L2 fuel w (x1 + 1))))
set_option maxHeartbeats 4000000 in
set_option maxRecDepth 100000 in
theorem s_M_take_L2 {l : Launch} {D : va_G} {dA : FieldType → ClassId} (htr : l.stackTraces = false) {hx : Nat → am_E} {rest : List am_E} {th : Int32} {sp : Int32} {mp : Int32} {mf : Int32} {ml : Nat → Int32} {ps : Nat → Int32} {nm : Nat → Int32} {mu : Nat → Int32} {ch : Nat → Int32} {wy : Nat → Int32} {nx : Nat → Int32}  : ∀ (fuel : Nat) (w : am_MS) (x1 : Int32) (r : Int32 × am_MS), f_M_take_L2 fuel w x1 = some r → ∀ o : am_O, .inl (some (.int r.1)) = o →
    am_G (am_kk l D dA) (ws_M_take, y_M_take.cls, prog_9_method_11_code, 3, (some .int), y_M_take.name, [], am_rm 3 (o), none) o (hM hx r.2.1 r.2.2.1 r.2.2.2.1 r.2.2.2.2.1 r.2.2.2.2.2.1 r.2.2.2.2.2.2.1 r.2.2.2.2.2.2.2.1 r.2.2.2.2.2.2.2.2.1 r.2.2.2.2.2.2.2.2.2 th sp mp mf ml ps nm mu ch wy nx rest) 0 0 2 [(0, .ref 18), (1, .int x1)] [] (hM hx w.1 w.2.1 w.2.2.1 w.2.2.2.1 w.2.2.2.2.1 w.2.2.2.2.2.1 w.2.2.2.2.2.2.1 w.2.2.2.2.2.2.2.1 w.2.2.2.2.2.2.2.2 th sp mp mf ml ps nm mu ch wy nx rest) := by
  intro fuel
  induction fuel with
  | zero =>
    intro w x1 r hf
    cases hf
  | succ fuel ih =>
    intro w x1 r hf o ho
    subst ho
    rw [f_M_take_L2] at hf
    refine g_iload_n (n := 3) d_M_take_2 rfl 1 rfl rfl ?_
    refine g_bipush (n := 5) (v := 64) d_M_take_3 rfl (by decide) ?_
    refine g_icmp_ge (n := 8) (tgt := 22) d_M_take_5 rfl (by decide) (fun q1 => ?_) (fun q1 => ?_)
    · have hf := ob_pos q1 hf
      refine g_iload_n (n := 23) d_M_take_22 rfl 1 rfl rfl ?_
      refine g_bipush (n := 25) (v := 64) d_M_take_23 rfl (by decide) ?_
      refine g_icmp_ne (n := 28) (tgt := 30) d_M_take_25 rfl (by decide) (fun q2 => ?_) (fun q2 => ?_)
      · have hf := ob_neg q2 hf
        refine g_aload_n (n := 31) d_M_take_30 rfl 0 rfl rfl ?_
        refine g_iload_n (n := 32) d_M_take_31 rfl 1 rfl rfl ?_
        refine g_ldc (n := 34) (v := 65535) d_M_take_32 rfl (List.mem_cons_of_mem _ tw_860) ?_
        obtain ⟨r3, h4, hf⟩ := ob_bind hf
        refine c_Vr (n := 37) (st' := []) [.int x1, .int 65535] [] d_M_take_34 rfl (s_M_set htr h4 rfl) tw_1021 tw_1023 (am_memS 30 (by decide +kernel) (by decide +kernel)) tw_8 tw_1024 hd_M_set (by omega) (by decide) (ci := 7) rfl rfl rfl (Nat.le_of_ble_eq_true rfl) rfl rfl ?_
        refine g_aload_n (n := 38) d_M_take_37 rfl 0 rfl rfl ?_
        obtain ⟨r5, h6, hf⟩ := ob_bind hf
        refine c_Vr (n := 41) (st' := [.int r5.1]) [] [] d_M_take_38 rfl (s_M_door htr h6 rfl) tw_1025 tw_1027 (am_memS 31 (by decide +kernel) (by decide +kernel)) tw_8 tw_1028 hd_M_door (by omega) (by decide) (ci := 7) rfl rfl rfl (Nat.le_of_ble_eq_true rfl) rfl rfl ?_
        refine g_if_eq (n := 44) (tgt := 73) d_M_take_41 rfl (by decide) (fun q7 => ?_) (fun q7 => ?_)
        · have hf := ob_pos q7 hf
          refine g_iload_n (n := 74) d_M_take_73 rfl 1 rfl rfl ?_
          cases hf
          exact g_iret d_M_take_74 rfl (Nat.zero_le _) (Nat.zero_le _)
        · have hf := ob_neg q7 hf
          refine g_iconst (n := 45) (v := 0) d_M_take_44 rfl (by decide) ?_
          refine g_istore_n (n := 46) (ls' := [(2, .int 0), (0, .ref 18), (1, .int x1)]) d_M_take_45 rfl rfl (am_ltb rfl) rfl ?_
          refine g_ls [1, 2, 0] rfl ?_
          exact s_M_take_L46 htr 100000000000 r5.2 x1 0 _ hf _ rfl
      · have hf := ob_pos q2 hf
        refine g_iconst (n := 29) (v := 0) d_M_take_28 rfl (by decide) ?_
        cases hf
        exact g_iret d_M_take_29 rfl (Nat.zero_le _) (Nat.zero_le _)
    · have hf := ob_neg q1 hf
      refine g_aload_n (n := 9) d_M_take_8 rfl 0 rfl rfl ?_
      refine g_iload_n (n := 10) d_M_take_9 rfl 1 rfl rfl ?_
      obtain ⟨r10, h11, hf⟩ := ob_bind hf
      refine c_Vr (n := 13) (st' := [.int r10]) [.int x1] [] d_M_take_10 rfl (s_M_cell htr h11 rfl) tw_953 tw_955 (am_memS 16 (by decide +kernel) (by decide +kernel)) tw_8 tw_956 hd_M_cell (by omega) (by decide) (ci := 7) rfl rfl rfl (Nat.le_of_ble_eq_true rfl) rfl rfl ?_
      refine g_if_eq (n := 16) (tgt := 22) d_M_take_13 rfl (by decide) (fun q12 => ?_) (fun q12 => ?_)
      · have hf := ob_pos q12 hf
        refine g_iload_n (n := 23) d_M_take_22 rfl 1 rfl rfl ?_
        refine g_bipush (n := 25) (v := 64) d_M_take_23 rfl (by decide) ?_
        refine g_icmp_ne (n := 28) (tgt := 30) d_M_take_25 rfl (by decide) (fun q13 => ?_) (fun q13 => ?_)
        · have hf := ob_neg q13 hf
          refine g_aload_n (n := 31) d_M_take_30 rfl 0 rfl rfl ?_
          refine g_iload_n (n := 32) d_M_take_31 rfl 1 rfl rfl ?_
          refine g_ldc (n := 34) (v := 65535) d_M_take_32 rfl (List.mem_cons_of_mem _ tw_860) ?_
          obtain ⟨r14, h15, hf⟩ := ob_bind hf
          refine c_Vr (n := 37) (st' := []) [.int x1, .int 65535] [] d_M_take_34 rfl (s_M_set htr h15 rfl) tw_1021 tw_1023 (am_memS 30 (by decide +kernel) (by decide +kernel)) tw_8 tw_1024 hd_M_set (by omega) (by decide) (ci := 7) rfl rfl rfl (Nat.le_of_ble_eq_true rfl) rfl rfl ?_
          refine g_aload_n (n := 38) d_M_take_37 rfl 0 rfl rfl ?_
          obtain ⟨r16, h17, hf⟩ := ob_bind hf
          refine c_Vr (n := 41) (st' := [.int r16.1]) [] [] d_M_take_38 rfl (s_M_door htr h17 rfl) tw_1025 tw_1027 (am_memS 31 (by decide +kernel) (by decide +kernel)) tw_8 tw_1028 hd_M_door (by omega) (by decide) (ci := 7) rfl rfl rfl (Nat.le_of_ble_eq_true rfl) rfl rfl ?_
          refine g_if_eq (n := 44) (tgt := 73) d_M_take_41 rfl (by decide) (fun q18 => ?_) (fun q18 => ?_)
          · have hf := ob_pos q18 hf
            refine g_iload_n (n := 74) d_M_take_73 rfl 1 rfl rfl ?_
            cases hf
            exact g_iret d_M_take_74 rfl (Nat.zero_le _) (Nat.zero_le _)
          · have hf := ob_neg q18 hf
            refine g_iconst (n := 45) (v := 0) d_M_take_44 rfl (by decide) ?_
            refine g_istore_n (n := 46) (ls' := [(2, .int 0), (0, .ref 18), (1, .int x1)]) d_M_take_45 rfl rfl (am_ltb rfl) rfl ?_
            refine g_ls [1, 2, 0] rfl ?_
            exact s_M_take_L46 htr 100000000000 r16.2 x1 0 _ hf _ rfl
        · have hf := ob_pos q13 hf
          refine g_iconst (n := 29) (v := 0) d_M_take_28 rfl (by decide) ?_
          cases hf
          exact g_iret d_M_take_29 rfl (Nat.zero_le _) (Nat.zero_le _)
      · have hf := ob_neg q12 hf
        refine g_iinc (n := 19) (v := (x1 + 1)) (ls' := [(1, .int (x1 + 1)), (0, .ref 18)]) d_M_take_16 rfl 1 rfl rfl (am_ltb rfl) rfl ?_
        refine g_goto (n := 2) d_M_take_19 (by decide) ?_
        refine g_ls [1, 0] rfl ?_
        exact ih w (x1 + 1) _ hf _ rfl
def f_M_take (w : am_MS) : Option (Int32 × am_MS) :=
  f_M_take_L2 100000000000 w 2
set_option maxHeartbeats 4000000 in
set_option maxRecDepth 100000 in
theorem s_M_take {l : Launch} {D : va_G} {dA : FieldType → ClassId} (htr : l.stackTraces = false) {hx : Nat → am_E} {rest : List am_E} {th : Int32} {sp : Int32} {mp : Int32} {mf : Int32} {ml : Nat → Int32} {ps : Nat → Int32} {nm : Nat → Int32} {mu : Nat → Int32} {ch : Nat → Int32} {wy : Nat → Int32} {nx : Nat → Int32} {w : am_MS}  {r : Int32 × am_MS} (hf : f_M_take w = some r) {o : am_O} (ho : .inl (some (.int r.1)) = o) :
    am_M (am_kk l D dA) y_M_take ws_M_take (am_rm 3 o) [.ref 18] (hM hx w.1 w.2.1 w.2.2.1 w.2.2.2.1 w.2.2.2.2.1 w.2.2.2.2.2.1 w.2.2.2.2.2.2.1 w.2.2.2.2.2.2.2.1 w.2.2.2.2.2.2.2.2 th sp mp mf ml ps nm mu ch wy nx rest) o (hM hx r.2.1 r.2.2.1 r.2.2.2.1 r.2.2.2.2.1 r.2.2.2.2.2.1 r.2.2.2.2.2.2.1 r.2.2.2.2.2.2.2.1 r.2.2.2.2.2.2.2.2.1 r.2.2.2.2.2.2.2.2.2 th sp mp mf ml ps nm mu ch wy nx rest) := by
  subst ho
  refine am_body (by decide) rfl (Nat.le_of_ble_eq_true rfl) rfl ?_
  rw [f_M_take] at hf
  refine g_iconst (n := 1) (v := 2) d_M_take_0 rfl (by decide) ?_
  refine g_istore_n (n := 2) (ls' := [(1, .int 2), (0, .ref 18)]) d_M_take_1 rfl rfl (am_ltb rfl) rfl ?_
  refine g_ls [1, 0] rfl ?_
  exact s_M_take_L2 htr 100000000000 w 2 _ hf _ rfl
def f_M_space_L26 (k13 : Int32 → (Nat → Int32) → Int32 → Int32 → Int32 → Option (Int32)) : Nat → Int32 → (Nat → Int32) → Int32 → Int32 → Int32 → Int32 → Int32 → Option (Int32)
  | 0, _, _, _, _, _, _, _ => none
  | fuel + 1, mh, dk, x1, x2, x3, x4, x5 =>
  (if x1 ≤ x5 then (if x4 = 0 then k13 mh dk x1 x2 (x3 + 1) else some x3) else (if x4 = 0 then f_M_space_L26 k13 fuel mh dk x1 x2 x3 0 (x5 + 1) else ((f_M_place dk mh (x3 + x5)).bind fun r7 => ((f_M_isFree dk r7).bind fun r9 => (if r9 = 0 then f_M_space_L26 k13 fuel mh dk x1 x2 x3 0 (x5 + 1) else f_M_space_L26 k13 fuel mh dk x1 x2 x3 1 (x5 + 1))))))
set_option maxHeartbeats 4000000 in
set_option maxRecDepth 100000 in
theorem s_M_space_L26 {l : Launch} {D : va_G} {dA : FieldType → ClassId} (htr : l.stackTraces = false) {hx : Nat → am_E} {rest : List am_E} {on : Int32} {dd : Int32} {mw : Int32} {cu : Int32} {ty : Int32} {md : Int32} {op : Nat → Int32} {th : Int32} {sp : Int32} {mp : Int32} {mf : Int32} {ml : Nat → Int32} {ps : Nat → Int32} {nm : Nat → Int32} {mu : Nat → Int32} {ch : Nat → Int32} {wy : Nat → Int32} {nx : Nat → Int32} (k13 : Int32 → (Nat → Int32) → Int32 → Int32 → Int32 → Option (Int32)) (hk13 : ∀ (mh : Int32) (dk : Nat → Int32) (x1 : Int32) (x2 : Int32) (x3 : Int32) (r : Int32), k13 mh dk x1 x2 x3 = some r → ∀ o : am_O, .inl (some (.int r)) = o → am_G (am_kk l D dA) (ws_M_space, y_M_space.cls, prog_9_method_32_code, 6, (some .int), y_M_space.name, [], am_rm 4 (o), none) o (hM hx on dd mw cu ty mh md dk op th sp mp mf ml ps nm mu ch wy nx rest) 0 0 13 [(0, .ref 18), (1, .int x1), (2, .int x2), (3, .int x3)] [] (hM hx on dd mw cu ty mh md dk op th sp mp mf ml ps nm mu ch wy nx rest))  : ∀ (fuel : Nat) (mh : Int32) (dk : Nat → Int32) (x1 : Int32) (x2 : Int32) (x3 : Int32) (x4 : Int32) (x5 : Int32) (r : Int32), f_M_space_L26 k13 fuel mh dk x1 x2 x3 x4 x5 = some r → ∀ o : am_O, .inl (some (.int r)) = o →
    am_G (am_kk l D dA) (ws_M_space, y_M_space.cls, prog_9_method_32_code, 6, (some .int), y_M_space.name, [], am_rm 4 (o), none) o (hM hx on dd mw cu ty mh md dk op th sp mp mf ml ps nm mu ch wy nx rest) 0 0 26 [(0, .ref 18), (1, .int x1), (2, .int x2), (3, .int x3), (4, .int x4), (5, .int x5)] [] (hM hx on dd mw cu ty mh md dk op th sp mp mf ml ps nm mu ch wy nx rest) := by
  intro fuel
  induction fuel with
  | zero =>
    intro mh dk x1 x2 x3 x4 x5 r hf
    cases hf
  | succ fuel ih =>
    intro mh dk x1 x2 x3 x4 x5 r hf o ho
    subst ho
    rw [f_M_space_L26] at hf
    refine g_iload (n := 28) d_M_space_26 rfl 5 rfl ?_
    refine g_iload_n (n := 29) d_M_space_28 rfl 1 rfl rfl ?_
    refine g_icmp_ge (n := 32) (tgt := 69) d_M_space_29 rfl (by decide) (fun q4 => ?_) (fun q4 => ?_)
    · have hf := ob_pos q4 hf
      refine g_iload (n := 71) d_M_space_69 rfl 4 rfl ?_
      refine g_if_eq (n := 74) (tgt := 76) d_M_space_71 rfl (by decide) (fun q5 => ?_) (fun q5 => ?_)
      · have hf := ob_pos q5 hf
        refine g_iinc (n := 79) (v := (x3 + 1)) (ls' := [(3, .int (x3 + 1)), (0, .ref 18), (1, .int x1), (2, .int x2), (4, .int x4), (5, .int x5)]) d_M_space_76 rfl 3 rfl rfl (am_ltb rfl) rfl ?_
        refine g_goto (n := 13) d_M_space_79 (by decide) ?_
        refine g_ls [1, 2, 3, 0] rfl ?_
        exact hk13 mh dk x1 x2 (x3 + 1) _ hf _ rfl
      · have hf := ob_neg q5 hf
        refine g_iload_n (n := 75) d_M_space_74 rfl 3 rfl rfl ?_
        cases hf
        exact g_iret d_M_space_75 rfl (Nat.zero_le _) (Nat.zero_le _)
    · have hf := ob_neg q4 hf
      refine g_iload (n := 34) d_M_space_32 rfl 4 rfl ?_
      refine g_if_eq (n := 37) (tgt := 60) d_M_space_34 rfl (by decide) (fun q6 => ?_) (fun q6 => ?_)
      · have hf := ob_pos q6 hf
        refine g_iconst (n := 61) (v := 0) d_M_space_60 rfl (by decide) ?_
        refine g_istore (n := 63) (ls' := [(4, .int 0), (0, .ref 18), (1, .int x1), (2, .int x2), (3, .int x3), (5, .int x5)]) d_M_space_61 rfl (am_ltb rfl) rfl ?_
        refine g_iinc (n := 66) (v := (x5 + 1)) (ls' := [(5, .int (x5 + 1)), (4, .int 0), (0, .ref 18), (1, .int x1), (2, .int x2), (3, .int x3)]) d_M_space_63 rfl 5 rfl rfl (am_ltb rfl) rfl ?_
        refine g_goto (n := 26) d_M_space_66 (by decide) ?_
        refine g_ls [2, 3, 4, 5, 1, 0] rfl ?_
        exact ih mh dk x1 x2 x3 0 (x5 + 1) _ hf _ rfl
      · have hf := ob_neg q6 hf
        refine g_aload_n (n := 38) d_M_space_37 rfl 0 rfl rfl ?_
        refine g_aload_n (n := 39) d_M_space_38 rfl 0 rfl rfl ?_
        refine g_aload_n (n := 40) d_M_space_39 rfl 0 rfl rfl ?_
        refine g_get (n := 43) (q0 := 18) d_M_space_40 rfl (am_fl in_M rfl (by decide : 9 < 20)) (List.mem_cons_of_mem _ tw_874) rfl rfl ?_
        refine g_iload_n (n := 44) d_M_space_43 rfl 3 rfl rfl ?_
        refine g_iload (n := 46) d_M_space_44 rfl 5 rfl ?_
        refine g_iadd (n := 47) d_M_space_46 rfl ?_
        obtain ⟨r7, h8, hf⟩ := ob_bind hf
        refine c_Vr (n := 50) (st' := [.int r7, .ref 18]) [.int mh, .int (x3 + x5)] [.ref 18] d_M_space_47 rfl (s_M_place htr h8 rfl) tw_965 tw_967 (am_memS 19 (by decide +kernel) (by decide +kernel)) tw_8 tw_968 hd_M_place (by omega) (by decide) (ci := 7) rfl rfl rfl (Nat.le_of_ble_eq_true rfl) rfl rfl ?_
        obtain ⟨r9, h10, hf⟩ := ob_bind hf
        refine c_Vr (n := 53) (st' := [.int r9]) [.int r7] [] d_M_space_50 rfl (s_M_isFree htr h10 rfl) tw_973 tw_975 (am_memS 21 (by decide +kernel) (by decide +kernel)) tw_8 tw_976 hd_M_isFree (by omega) (by decide) (ci := 7) rfl rfl rfl (Nat.le_of_ble_eq_true rfl) rfl rfl ?_
        refine g_if_eq (n := 56) (tgt := 60) d_M_space_53 rfl (by decide) (fun q11 => ?_) (fun q11 => ?_)
        · have hf := ob_pos q11 hf
          refine g_iconst (n := 61) (v := 0) d_M_space_60 rfl (by decide) ?_
          refine g_istore (n := 63) (ls' := [(4, .int 0), (0, .ref 18), (1, .int x1), (2, .int x2), (3, .int x3), (5, .int x5)]) d_M_space_61 rfl (am_ltb rfl) rfl ?_
          refine g_iinc (n := 66) (v := (x5 + 1)) (ls' := [(5, .int (x5 + 1)), (4, .int 0), (0, .ref 18), (1, .int x1), (2, .int x2), (3, .int x3)]) d_M_space_63 rfl 5 rfl rfl (am_ltb rfl) rfl ?_
          refine g_goto (n := 26) d_M_space_66 (by decide) ?_
          refine g_ls [2, 3, 4, 5, 1, 0] rfl ?_
          exact ih mh dk x1 x2 x3 0 (x5 + 1) _ hf _ rfl
        · have hf := ob_neg q11 hf
          refine g_iconst (n := 57) (v := 1) d_M_space_56 rfl (by decide) ?_
          refine g_goto (n := 61) d_M_space_57 (by decide) ?_
          refine g_istore (n := 63) (ls' := [(4, .int 1), (0, .ref 18), (1, .int x1), (2, .int x2), (3, .int x3), (5, .int x5)]) d_M_space_61 rfl (am_ltb rfl) rfl ?_
          refine g_iinc (n := 66) (v := (x5 + 1)) (ls' := [(5, .int (x5 + 1)), (4, .int 1), (0, .ref 18), (1, .int x1), (2, .int x2), (3, .int x3)]) d_M_space_63 rfl 5 rfl rfl (am_ltb rfl) rfl ?_
          refine g_goto (n := 26) d_M_space_66 (by decide) ?_
          refine g_ls [2, 3, 4, 5, 1, 0] rfl ?_
          exact ih mh dk x1 x2 x3 1 (x5 + 1) _ hf _ rfl
def f_M_space_L13 : Nat → Int32 → (Nat → Int32) → Int32 → Int32 → Int32 → Option (Int32)
  | 0, _, _, _, _, _ => none
  | fuel + 1, mh, dk, x1, x2, x3 =>
  (if x2 < (x3 + x1) then some (-1) else f_M_space_L26 (f_M_space_L13 fuel) 100000000000 mh dk x1 x2 x3 1 0)
set_option maxHeartbeats 4000000 in
set_option maxRecDepth 100000 in
theorem s_M_space_L13 {l : Launch} {D : va_G} {dA : FieldType → ClassId} (htr : l.stackTraces = false) {hx : Nat → am_E} {rest : List am_E} {on : Int32} {dd : Int32} {mw : Int32} {cu : Int32} {ty : Int32} {md : Int32} {op : Nat → Int32} {th : Int32} {sp : Int32} {mp : Int32} {mf : Int32} {ml : Nat → Int32} {ps : Nat → Int32} {nm : Nat → Int32} {mu : Nat → Int32} {ch : Nat → Int32} {wy : Nat → Int32} {nx : Nat → Int32}  : ∀ (fuel : Nat) (mh : Int32) (dk : Nat → Int32) (x1 : Int32) (x2 : Int32) (x3 : Int32) (r : Int32), f_M_space_L13 fuel mh dk x1 x2 x3 = some r → ∀ o : am_O, .inl (some (.int r)) = o →
    am_G (am_kk l D dA) (ws_M_space, y_M_space.cls, prog_9_method_32_code, 6, (some .int), y_M_space.name, [], am_rm 4 (o), none) o (hM hx on dd mw cu ty mh md dk op th sp mp mf ml ps nm mu ch wy nx rest) 0 0 13 [(0, .ref 18), (1, .int x1), (2, .int x2), (3, .int x3)] [] (hM hx on dd mw cu ty mh md dk op th sp mp mf ml ps nm mu ch wy nx rest) := by
  intro fuel
  induction fuel with
  | zero =>
    intro mh dk x1 x2 x3 r hf
    cases hf
  | succ fuel ih =>
    intro mh dk x1 x2 x3 r hf o ho
    subst ho
    rw [f_M_space_L13] at hf
    refine g_iload_n (n := 14) d_M_space_13 rfl 3 rfl rfl ?_
    refine g_iload_n (n := 15) d_M_space_14 rfl 1 rfl rfl ?_
    refine g_iadd (n := 16) d_M_space_15 rfl ?_
    refine g_iload_n (n := 17) d_M_space_16 rfl 2 rfl rfl ?_
    refine g_icmp_gt (n := 20) (tgt := 82) d_M_space_17 rfl (by decide) (fun q3 => ?_) (fun q3 => ?_)
    · have hf := ob_pos q3 hf
      refine g_iconst (n := 83) (v := (-1)) d_M_space_82 rfl (by decide) ?_
      cases hf
      exact g_iret d_M_space_83 rfl (Nat.zero_le _) (Nat.zero_le _)
    · have hf := ob_neg q3 hf
      refine g_iconst (n := 21) (v := 1) d_M_space_20 rfl (by decide) ?_
      refine g_istore (n := 23) (ls' := [(4, .int 1), (0, .ref 18), (1, .int x1), (2, .int x2), (3, .int x3)]) d_M_space_21 rfl (am_ltb rfl) rfl ?_
      refine g_iconst (n := 24) (v := 0) d_M_space_23 rfl (by decide) ?_
      refine g_istore (n := 26) (ls' := [(5, .int 0), (4, .int 1), (0, .ref 18), (1, .int x1), (2, .int x2), (3, .int x3)]) d_M_space_24 rfl (am_ltb rfl) rfl ?_
      refine g_ls [2, 3, 4, 5, 1, 0] rfl ?_
      exact s_M_space_L26 htr (f_M_space_L13 fuel) ih 100000000000 mh dk x1 x2 x3 1 0 _ hf _ rfl
def f_M_space (mh : Int32) (dk : Nat → Int32) (x1 : Int32) : Option (Int32) :=
  ((f_M_length dk mh).bind fun r1 => f_M_space_L13 100000000000 mh dk x1 (2 * r1) 0)
set_option maxHeartbeats 4000000 in
set_option maxRecDepth 100000 in
theorem s_M_space {l : Launch} {D : va_G} {dA : FieldType → ClassId} (htr : l.stackTraces = false) {hx : Nat → am_E} {rest : List am_E} {on : Int32} {dd : Int32} {mw : Int32} {cu : Int32} {ty : Int32} {mh : Int32} {md : Int32} {dk : Nat → Int32} {op : Nat → Int32} {th : Int32} {sp : Int32} {mp : Int32} {mf : Int32} {ml : Nat → Int32} {ps : Nat → Int32} {nm : Nat → Int32} {mu : Nat → Int32} {ch : Nat → Int32} {wy : Nat → Int32} {nx : Nat → Int32}  {x1 : Int32} {r : Int32} (hf : f_M_space mh dk x1 = some r) {o : am_O} (ho : .inl (some (.int r)) = o) :
    am_M (am_kk l D dA) y_M_space ws_M_space (am_rm 4 o) [.ref 18, .int x1] (hM hx on dd mw cu ty mh md dk op th sp mp mf ml ps nm mu ch wy nx rest) o (hM hx on dd mw cu ty mh md dk op th sp mp mf ml ps nm mu ch wy nx rest) := by
  subst ho
  refine am_body (by decide) rfl (Nat.le_of_ble_eq_true rfl) rfl ?_
  rw [f_M_space] at hf
  refine g_iconst (n := 1) (v := 2) d_M_space_0 rfl (by decide) ?_
  refine g_aload_n (n := 2) d_M_space_1 rfl 0 rfl rfl ?_
  refine g_aload_n (n := 3) d_M_space_2 rfl 0 rfl rfl ?_
  refine g_get (n := 6) (q0 := 18) d_M_space_3 rfl (am_fl in_M rfl (by decide : 9 < 20)) (List.mem_cons_of_mem _ tw_874) rfl rfl ?_
  obtain ⟨r1, h2, hf⟩ := ob_bind hf
  refine c_Vr (n := 9) (st' := [.int r1, .int 2]) [.int mh] [.int 2] d_M_space_6 rfl (s_M_length htr h2 rfl) tw_945 tw_947 (am_memS 14 (by decide +kernel) (by decide +kernel)) tw_8 tw_948 hd_M_length (by omega) (by decide) (ci := 7) rfl rfl rfl (Nat.le_of_ble_eq_true rfl) rfl rfl ?_
  refine g_imul (n := 10) d_M_space_9 rfl ?_
  refine g_istore_n (n := 11) (ls' := [(2, .int (2 * r1)), (0, .ref 18), (1, .int x1)]) d_M_space_10 rfl rfl (am_ltb rfl) rfl ?_
  refine g_iconst (n := 12) (v := 0) d_M_space_11 rfl (by decide) ?_
  refine g_istore_n (n := 13) (ls' := [(3, .int 0), (2, .int (2 * r1)), (0, .ref 18), (1, .int x1)]) d_M_space_12 rfl rfl (am_ltb rfl) rfl ?_
  refine g_ls [2, 3, 1, 0] rfl ?_
  exact s_M_space_L13 htr 100000000000 mh dk x1 (2 * r1) 0 _ hf _ rfl
def f_M_writePart_L84 : Nat → am_MS → Int32 → (Nat → Int32) → (Nat → Int32) → Int32 → Int32 → Int32 → Option (am_MS)
  | 0, _, _, _, _, _, _, _ => none
  | fuel + 1, w, mp, ml, nm, x1, x2, x4 =>
  (if 13 ≤ x4 then some w else ((f_M_spot x4).bind fun r10 => (if w.2.2.2.2.1 ≤ (((13 * x2) - 13) + x4) then (if am_in (x1 + r10) 2240 = true then f_M_writePart_L84 fuel (w.1, w.2.1, w.2.2.1, w.2.2.2.1, w.2.2.2.2.1, w.2.2.2.2.2.1, w.2.2.2.2.2.2.1, (upd w.2.2.2.2.2.2.2.1 (x1 + r10).toNatClampNeg 0), w.2.2.2.2.2.2.2.2) mp ml nm x1 x2 (x4 + 1) else none) else (if am_in (((13 * x2) - 13) + x4) 26 = true then (if am_in (x1 + r10) 2240 = true then f_M_writePart_L84 fuel (w.1, w.2.1, w.2.2.1, w.2.2.2.1, w.2.2.2.2.1, w.2.2.2.2.2.1, w.2.2.2.2.2.2.1, (upd w.2.2.2.2.2.2.2.1 (x1 + r10).toNatClampNeg (ml (((13 * x2) - 13) + x4).toNatClampNeg)), w.2.2.2.2.2.2.2.2) mp ml nm x1 x2 (x4 + 1) else none) else none))))
set_option maxHeartbeats 4000000 in
set_option maxRecDepth 100000 in
theorem s_M_writePart_L84 {l : Launch} {D : va_G} {dA : FieldType → ClassId} (htr : l.stackTraces = false) {hx : Nat → am_E} {rest : List am_E} {th : Int32} {sp : Int32} {mf : Int32} {ps : Nat → Int32} {mu : Nat → Int32} {ch : Nat → Int32} {wy : Nat → Int32} {nx : Nat → Int32}  : ∀ (fuel : Nat) (w : am_MS) (mp : Int32) (ml : Nat → Int32) (nm : Nat → Int32) (x1 : Int32) (x2 : Int32) (x4 : Int32) (r : am_MS), f_M_writePart_L84 fuel w mp ml nm x1 x2 x4 = some r → ∀ o : am_O, .inl none = o →
    am_G (am_kk l D dA) (ws_M_writePart, y_M_writePart.cls, prog_9_method_33_code, 6, none, y_M_writePart.name, [], am_rm 2 (o), none) o (hM hx r.1 r.2.1 r.2.2.1 r.2.2.2.1 r.2.2.2.2.1 r.2.2.2.2.2.1 r.2.2.2.2.2.2.1 r.2.2.2.2.2.2.2.1 r.2.2.2.2.2.2.2.2 th sp mp mf ml ps nm mu ch wy nx rest) 0 0 84 [(0, .ref 18), (1, .int x1), (2, .int x2), (4, .int x4)] [] (hM hx w.1 w.2.1 w.2.2.1 w.2.2.2.1 w.2.2.2.2.1 w.2.2.2.2.2.1 w.2.2.2.2.2.2.1 w.2.2.2.2.2.2.2.1 w.2.2.2.2.2.2.2.2 th sp mp mf ml ps nm mu ch wy nx rest) := by
  intro fuel
  induction fuel with
  | zero =>
    intro w mp ml nm x1 x2 x4 r hf
    cases hf
  | succ fuel ih =>
    intro w mp ml nm x1 x2 x4 r hf o ho
    subst ho
    rw [f_M_writePart_L84] at hf
    refine g_iload (n := 86) d_M_writePart_84 rfl 3 rfl ?_
    refine g_bipush (n := 88) (v := 13) d_M_writePart_86 rfl (by decide) ?_
    refine g_icmp_ge (n := 91) (tgt := 141) d_M_writePart_88 rfl (by decide) (fun q9 => ?_) (fun q9 => ?_)
    · have hf := ob_pos q9 hf
      cases hf
      exact g_vret d_M_writePart_141 rfl (Nat.zero_le _) (Nat.zero_le _)
    · have hf := ob_neg q9 hf
      refine g_bipush (n := 93) (v := 13) d_M_writePart_91 rfl (by decide) ?_
      refine g_iload_n (n := 94) d_M_writePart_93 rfl 2 rfl rfl ?_
      refine g_imul (n := 95) d_M_writePart_94 rfl ?_
      refine g_bipush (n := 97) (v := 13) d_M_writePart_95 rfl (by decide) ?_
      refine g_isub (n := 98) d_M_writePart_97 rfl ?_
      refine g_iload (n := 100) d_M_writePart_98 rfl 3 rfl ?_
      refine g_iadd (n := 101) d_M_writePart_100 rfl ?_
      refine g_istore (n := 103) (ls' := [(5, .int (((13 * x2) - 13) + x4)), (0, .ref 18), (1, .int x1), (2, .int x2), (4, .int x4)]) d_M_writePart_101 rfl (am_ltb rfl) rfl ?_
      refine g_aload_n (n := 104) d_M_writePart_103 rfl 1 rfl rfl ?_
      refine g_get (n := 107) (q0 := 18) d_M_writePart_104 rfl (am_fl in_M rfl (by decide : 1 < 20)) (List.mem_cons_of_mem _ tw_866) rfl rfl ?_
      refine g_iload_n (n := 108) d_M_writePart_107 rfl 2 rfl rfl ?_
      refine g_iload (n := 110) d_M_writePart_108 rfl 4 rfl ?_
      obtain ⟨r10, h11, hf⟩ := ob_bind hf
      refine c_Sr (n := 113) (st' := [.int r10, .int x1, .ref 19]) [.int x4] [.int x1, .ref 19] d_M_writePart_110 rfl (s_M_spot htr h11 rfl) tw_999 tw_1000 tw_8 tw_1001 rfl hd_M_spot (by omega) (by decide) rfl (Nat.le_of_ble_eq_true rfl) rfl rfl ?_
      refine g_iadd (n := 114) d_M_writePart_113 rfl ?_
      refine g_iload (n := 116) d_M_writePart_114 rfl 0 rfl ?_
      refine g_aload_n (n := 117) d_M_writePart_116 rfl 1 rfl rfl ?_
      refine g_get (n := 120) (q0 := 18) d_M_writePart_117 rfl (am_fl in_M rfl (by decide : 8 < 20)) (List.mem_cons_of_mem _ tw_873) rfl rfl ?_
      refine g_icmp_ge (n := 123) (tgt := 133) d_M_writePart_120 rfl (by decide) (fun q12 => ?_) (fun q12 => ?_)
      · have hf := ob_pos q12 hf
        refine g_iconst (n := 134) (v := 0) d_M_writePart_133 rfl (by decide) ?_
        obtain ⟨b13, hf⟩ := ob_chk hf
        refine g_iast (n := 135) (q0 := 19) (h' := (hM hx w.1 w.2.1 w.2.2.1 w.2.2.2.1 w.2.2.2.2.1 w.2.2.2.2.2.1 w.2.2.2.2.2.2.1 (upd w.2.2.2.2.2.2.2.1 (x1 + r10).toNatClampNeg 0) w.2.2.2.2.2.2.2.2 th sp mp mf ml ps nm mu ch wy nx rest)) d_M_writePart_134 rfl rfl (am_inl b13) rfl ?_
        refine g_iinc (n := 138) (v := (x4 + 1)) (ls' := [(4, .int (x4 + 1)), (5, .int (((13 * x2) - 13) + x4)), (0, .ref 18), (1, .int x1), (2, .int x2)]) d_M_writePart_135 rfl 4 rfl rfl (am_ltb rfl) rfl ?_
        refine g_goto (n := 84) d_M_writePart_138 (by decide) ?_
        refine g_ls [2, 3, 4, 0] rfl ?_
        exact ih (w.1, w.2.1, w.2.2.1, w.2.2.2.1, w.2.2.2.2.1, w.2.2.2.2.2.1, w.2.2.2.2.2.2.1, (upd w.2.2.2.2.2.2.2.1 (x1 + r10).toNatClampNeg 0), w.2.2.2.2.2.2.2.2) mp ml nm x1 x2 (x4 + 1) _ hf _ rfl
      · have hf := ob_neg q12 hf
        refine g_aload_n (n := 124) d_M_writePart_123 rfl 1 rfl rfl ?_
        refine g_get (n := 127) (q0 := 18) d_M_writePart_124 rfl (am_fl in_M rfl (by decide : 7 < 20)) (List.mem_cons_of_mem _ tw_872) rfl rfl ?_
        refine g_iload (n := 129) d_M_writePart_127 rfl 0 rfl ?_
        obtain ⟨b14, hf⟩ := ob_chk hf
        refine g_iald (n := 130) (q0 := 20) d_M_writePart_129 rfl rfl (am_inl b14) ?_
        refine g_goto (n := 134) d_M_writePart_130 (by decide) ?_
        obtain ⟨b15, hf⟩ := ob_chk hf
        refine g_iast (n := 135) (q0 := 19) (h' := (hM hx w.1 w.2.1 w.2.2.1 w.2.2.2.1 w.2.2.2.2.1 w.2.2.2.2.2.1 w.2.2.2.2.2.2.1 (upd w.2.2.2.2.2.2.2.1 (x1 + r10).toNatClampNeg (ml (((13 * x2) - 13) + x4).toNatClampNeg)) w.2.2.2.2.2.2.2.2 th sp mp mf ml ps nm mu ch wy nx rest)) d_M_writePart_134 rfl rfl (am_inl b15) rfl ?_
        refine g_iinc (n := 138) (v := (x4 + 1)) (ls' := [(4, .int (x4 + 1)), (5, .int (((13 * x2) - 13) + x4)), (0, .ref 18), (1, .int x1), (2, .int x2)]) d_M_writePart_135 rfl 4 rfl rfl (am_ltb rfl) rfl ?_
        refine g_goto (n := 84) d_M_writePart_138 (by decide) ?_
        refine g_ls [2, 3, 4, 0] rfl ?_
        exact ih (w.1, w.2.1, w.2.2.1, w.2.2.2.1, w.2.2.2.2.1, w.2.2.2.2.2.1, w.2.2.2.2.2.2.1, (upd w.2.2.2.2.2.2.2.1 (x1 + r10).toNatClampNeg (ml (((13 * x2) - 13) + x4).toNatClampNeg)), w.2.2.2.2.2.2.2.2) mp ml nm x1 x2 (x4 + 1) _ hf _ rfl
def f_M_writePart_L13 : Nat → am_MS → Int32 → (Nat → Int32) → (Nat → Int32) → Int32 → Int32 → Int32 → Int32 → Option (am_MS)
  | 0, _, _, _, _, _, _, _, _ => none
  | fuel + 1, w, mp, ml, nm, x1, x2, x3, x4 =>
  (if 6 ≤ x4 then (if x2 = mp then (if am_in x1 2240 = true then (if am_in (x1 + 6) 2240 = true then (if am_in (x1 + 7) 2240 = true then f_M_writePart_L84 100000000000 (w.1, w.2.1, w.2.2.1, w.2.2.2.1, w.2.2.2.2.1, w.2.2.2.2.2.1, w.2.2.2.2.2.2.1, (upd (upd (upd w.2.2.2.2.2.2.2.1 x1.toNatClampNeg (x2 + 64)) (x1 + 6).toNatClampNeg 15) (x1 + 7).toNatClampNeg x3), w.2.2.2.2.2.2.2.2) mp ml nm x1 x2 0 else none) else none) else none) else (if am_in x1 2240 = true then (if am_in (x1 + 6) 2240 = true then (if am_in (x1 + 7) 2240 = true then f_M_writePart_L84 100000000000 (w.1, w.2.1, w.2.2.1, w.2.2.2.1, w.2.2.2.2.1, w.2.2.2.2.2.1, w.2.2.2.2.2.2.1, (upd (upd (upd w.2.2.2.2.2.2.2.1 x1.toNatClampNeg x2) (x1 + 6).toNatClampNeg 15) (x1 + 7).toNatClampNeg x3), w.2.2.2.2.2.2.2.2) mp ml nm x1 x2 0 else none) else none) else none)) else (if am_in x4 6 = true then ((f_M_summed x3 (nm x4.toNatClampNeg)).bind fun r20 => f_M_writePart_L13 fuel w mp ml nm x1 x2 r20 (x4 + 1)) else none))
set_option maxHeartbeats 4000000 in
set_option maxRecDepth 100000 in
theorem s_M_writePart_L13 {l : Launch} {D : va_G} {dA : FieldType → ClassId} (htr : l.stackTraces = false) {hx : Nat → am_E} {rest : List am_E} {th : Int32} {sp : Int32} {mf : Int32} {ps : Nat → Int32} {mu : Nat → Int32} {ch : Nat → Int32} {wy : Nat → Int32} {nx : Nat → Int32}  : ∀ (fuel : Nat) (w : am_MS) (mp : Int32) (ml : Nat → Int32) (nm : Nat → Int32) (x1 : Int32) (x2 : Int32) (x3 : Int32) (x4 : Int32) (r : am_MS), f_M_writePart_L13 fuel w mp ml nm x1 x2 x3 x4 = some r → ∀ o : am_O, .inl none = o →
    am_G (am_kk l D dA) (ws_M_writePart, y_M_writePart.cls, prog_9_method_33_code, 6, none, y_M_writePart.name, [], am_rm 2 (o), none) o (hM hx r.1 r.2.1 r.2.2.1 r.2.2.2.1 r.2.2.2.2.1 r.2.2.2.2.2.1 r.2.2.2.2.2.2.1 r.2.2.2.2.2.2.2.1 r.2.2.2.2.2.2.2.2 th sp mp mf ml ps nm mu ch wy nx rest) 0 0 13 [(0, .ref 18), (1, .int x1), (2, .int x2), (3, .int x3), (4, .int x4)] [] (hM hx w.1 w.2.1 w.2.2.1 w.2.2.2.1 w.2.2.2.2.1 w.2.2.2.2.2.1 w.2.2.2.2.2.2.1 w.2.2.2.2.2.2.2.1 w.2.2.2.2.2.2.2.2 th sp mp mf ml ps nm mu ch wy nx rest) := by
  intro fuel
  induction fuel with
  | zero =>
    intro w mp ml nm x1 x2 x3 x4 r hf
    cases hf
  | succ fuel ih =>
    intro w mp ml nm x1 x2 x3 x4 r hf o ho
    subst ho
    rw [f_M_writePart_L13] at hf
    refine g_iload (n := 15) d_M_writePart_13 rfl 4 rfl ?_
    refine g_bipush (n := 17) (v := 6) d_M_writePart_15 rfl (by decide) ?_
    refine g_icmp_ge (n := 20) (tgt := 38) d_M_writePart_17 rfl (by decide) (fun q4 => ?_) (fun q4 => ?_)
    · have hf := ob_pos q4 hf
      refine g_aload_n (n := 39) d_M_writePart_38 rfl 0 rfl rfl ?_
      refine g_get (n := 42) (q0 := 18) d_M_writePart_39 rfl (am_fl in_M rfl (by decide : 1 < 20)) (List.mem_cons_of_mem _ tw_866) rfl rfl ?_
      refine g_iload_n (n := 43) d_M_writePart_42 rfl 1 rfl rfl ?_
      refine g_iload_n (n := 44) d_M_writePart_43 rfl 2 rfl rfl ?_
      refine g_aload_n (n := 45) d_M_writePart_44 rfl 0 rfl rfl ?_
      refine g_get (n := 48) (q0 := 18) d_M_writePart_45 rfl (am_fl in_M rfl (by decide : 14 < 20)) (List.mem_cons_of_mem _ tw_879) rfl rfl ?_
      refine g_icmp_ne (n := 51) (tgt := 58) d_M_writePart_48 rfl (by decide) (fun q5 => ?_) (fun q5 => ?_)
      · have hf := ob_neg q5 hf
        refine g_iload_n (n := 59) d_M_writePart_58 rfl 2 rfl rfl ?_
        obtain ⟨b6, hf⟩ := ob_chk hf
        refine g_iast (n := 60) (q0 := 19) (h' := (hM hx w.1 w.2.1 w.2.2.1 w.2.2.2.1 w.2.2.2.2.1 w.2.2.2.2.2.1 w.2.2.2.2.2.2.1 (upd w.2.2.2.2.2.2.2.1 x1.toNatClampNeg x2) w.2.2.2.2.2.2.2.2 th sp mp mf ml ps nm mu ch wy nx rest)) d_M_writePart_59 rfl rfl (am_inl b6) rfl ?_
        refine g_aload_n (n := 61) d_M_writePart_60 rfl 0 rfl rfl ?_
        refine g_get (n := 64) (q0 := 18) d_M_writePart_61 rfl (am_fl in_M rfl (by decide : 1 < 20)) (List.mem_cons_of_mem _ tw_866) rfl rfl ?_
        refine g_iload_n (n := 65) d_M_writePart_64 rfl 1 rfl rfl ?_
        refine g_bipush (n := 67) (v := 6) d_M_writePart_65 rfl (by decide) ?_
        refine g_iadd (n := 68) d_M_writePart_67 rfl ?_
        refine g_bipush (n := 70) (v := 15) d_M_writePart_68 rfl (by decide) ?_
        obtain ⟨b7, hf⟩ := ob_chk hf
        refine g_iast (n := 71) (q0 := 19) (h' := (hM hx w.1 w.2.1 w.2.2.1 w.2.2.2.1 w.2.2.2.2.1 w.2.2.2.2.2.1 w.2.2.2.2.2.2.1 (upd (upd w.2.2.2.2.2.2.2.1 x1.toNatClampNeg x2) (x1 + 6).toNatClampNeg 15) w.2.2.2.2.2.2.2.2 th sp mp mf ml ps nm mu ch wy nx rest)) d_M_writePart_70 rfl rfl (am_inl b7) rfl ?_
        refine g_aload_n (n := 72) d_M_writePart_71 rfl 0 rfl rfl ?_
        refine g_get (n := 75) (q0 := 18) d_M_writePart_72 rfl (am_fl in_M rfl (by decide : 1 < 20)) (List.mem_cons_of_mem _ tw_866) rfl rfl ?_
        refine g_iload_n (n := 76) d_M_writePart_75 rfl 1 rfl rfl ?_
        refine g_bipush (n := 78) (v := 7) d_M_writePart_76 rfl (by decide) ?_
        refine g_iadd (n := 79) d_M_writePart_78 rfl ?_
        refine g_iload_n (n := 80) d_M_writePart_79 rfl 3 rfl rfl ?_
        obtain ⟨b8, hf⟩ := ob_chk hf
        refine g_iast (n := 81) (q0 := 19) (h' := (hM hx w.1 w.2.1 w.2.2.1 w.2.2.2.1 w.2.2.2.2.1 w.2.2.2.2.2.1 w.2.2.2.2.2.2.1 (upd (upd (upd w.2.2.2.2.2.2.2.1 x1.toNatClampNeg x2) (x1 + 6).toNatClampNeg 15) (x1 + 7).toNatClampNeg x3) w.2.2.2.2.2.2.2.2 th sp mp mf ml ps nm mu ch wy nx rest)) d_M_writePart_80 rfl rfl (am_inl b8) rfl ?_
        refine g_iconst (n := 82) (v := 0) d_M_writePart_81 rfl (by decide) ?_
        refine g_istore (n := 84) (ls' := [(4, .int 0), (0, .ref 18), (1, .int x1), (2, .int x2), (3, .int x3)]) d_M_writePart_82 rfl (am_ltb rfl) rfl ?_
        refine g_ls [1, 2, 3, 0] rfl ?_
        exact s_M_writePart_L84 htr 100000000000 (w.1, w.2.1, w.2.2.1, w.2.2.2.1, w.2.2.2.2.1, w.2.2.2.2.2.1, w.2.2.2.2.2.2.1, (upd (upd (upd w.2.2.2.2.2.2.2.1 x1.toNatClampNeg x2) (x1 + 6).toNatClampNeg 15) (x1 + 7).toNatClampNeg x3), w.2.2.2.2.2.2.2.2) mp ml nm x1 x2 0 _ hf _ rfl
      · have hf := ob_pos q5 hf
        refine g_iload_n (n := 52) d_M_writePart_51 rfl 2 rfl rfl ?_
        refine g_bipush (n := 54) (v := 64) d_M_writePart_52 rfl (by decide) ?_
        refine g_iadd (n := 55) d_M_writePart_54 rfl ?_
        refine g_goto (n := 59) d_M_writePart_55 (by decide) ?_
        obtain ⟨b16, hf⟩ := ob_chk hf
        refine g_iast (n := 60) (q0 := 19) (h' := (hM hx w.1 w.2.1 w.2.2.1 w.2.2.2.1 w.2.2.2.2.1 w.2.2.2.2.2.1 w.2.2.2.2.2.2.1 (upd w.2.2.2.2.2.2.2.1 x1.toNatClampNeg (x2 + 64)) w.2.2.2.2.2.2.2.2 th sp mp mf ml ps nm mu ch wy nx rest)) d_M_writePart_59 rfl rfl (am_inl b16) rfl ?_
        refine g_aload_n (n := 61) d_M_writePart_60 rfl 0 rfl rfl ?_
        refine g_get (n := 64) (q0 := 18) d_M_writePart_61 rfl (am_fl in_M rfl (by decide : 1 < 20)) (List.mem_cons_of_mem _ tw_866) rfl rfl ?_
        refine g_iload_n (n := 65) d_M_writePart_64 rfl 1 rfl rfl ?_
        refine g_bipush (n := 67) (v := 6) d_M_writePart_65 rfl (by decide) ?_
        refine g_iadd (n := 68) d_M_writePart_67 rfl ?_
        refine g_bipush (n := 70) (v := 15) d_M_writePart_68 rfl (by decide) ?_
        obtain ⟨b17, hf⟩ := ob_chk hf
        refine g_iast (n := 71) (q0 := 19) (h' := (hM hx w.1 w.2.1 w.2.2.1 w.2.2.2.1 w.2.2.2.2.1 w.2.2.2.2.2.1 w.2.2.2.2.2.2.1 (upd (upd w.2.2.2.2.2.2.2.1 x1.toNatClampNeg (x2 + 64)) (x1 + 6).toNatClampNeg 15) w.2.2.2.2.2.2.2.2 th sp mp mf ml ps nm mu ch wy nx rest)) d_M_writePart_70 rfl rfl (am_inl b17) rfl ?_
        refine g_aload_n (n := 72) d_M_writePart_71 rfl 0 rfl rfl ?_
        refine g_get (n := 75) (q0 := 18) d_M_writePart_72 rfl (am_fl in_M rfl (by decide : 1 < 20)) (List.mem_cons_of_mem _ tw_866) rfl rfl ?_
        refine g_iload_n (n := 76) d_M_writePart_75 rfl 1 rfl rfl ?_
        refine g_bipush (n := 78) (v := 7) d_M_writePart_76 rfl (by decide) ?_
        refine g_iadd (n := 79) d_M_writePart_78 rfl ?_
        refine g_iload_n (n := 80) d_M_writePart_79 rfl 3 rfl rfl ?_
        obtain ⟨b18, hf⟩ := ob_chk hf
        refine g_iast (n := 81) (q0 := 19) (h' := (hM hx w.1 w.2.1 w.2.2.1 w.2.2.2.1 w.2.2.2.2.1 w.2.2.2.2.2.1 w.2.2.2.2.2.2.1 (upd (upd (upd w.2.2.2.2.2.2.2.1 x1.toNatClampNeg (x2 + 64)) (x1 + 6).toNatClampNeg 15) (x1 + 7).toNatClampNeg x3) w.2.2.2.2.2.2.2.2 th sp mp mf ml ps nm mu ch wy nx rest)) d_M_writePart_80 rfl rfl (am_inl b18) rfl ?_
        refine g_iconst (n := 82) (v := 0) d_M_writePart_81 rfl (by decide) ?_
        refine g_istore (n := 84) (ls' := [(4, .int 0), (0, .ref 18), (1, .int x1), (2, .int x2), (3, .int x3)]) d_M_writePart_82 rfl (am_ltb rfl) rfl ?_
        refine g_ls [1, 2, 3, 0] rfl ?_
        exact s_M_writePart_L84 htr 100000000000 (w.1, w.2.1, w.2.2.1, w.2.2.2.1, w.2.2.2.2.1, w.2.2.2.2.2.1, w.2.2.2.2.2.2.1, (upd (upd (upd w.2.2.2.2.2.2.2.1 x1.toNatClampNeg (x2 + 64)) (x1 + 6).toNatClampNeg 15) (x1 + 7).toNatClampNeg x3), w.2.2.2.2.2.2.2.2) mp ml nm x1 x2 0 _ hf _ rfl
    · have hf := ob_neg q4 hf
      refine g_iload_n (n := 21) d_M_writePart_20 rfl 3 rfl rfl ?_
      refine g_aload_n (n := 22) d_M_writePart_21 rfl 0 rfl rfl ?_
      refine g_get (n := 25) (q0 := 18) d_M_writePart_22 rfl (am_fl in_M rfl (by decide : 13 < 20)) (List.mem_cons_of_mem _ tw_878) rfl rfl ?_
      refine g_iload (n := 27) d_M_writePart_25 rfl 4 rfl ?_
      obtain ⟨b19, hf⟩ := ob_chk hf
      refine g_iald (n := 28) (q0 := 23) d_M_writePart_27 rfl rfl (am_inl b19) ?_
      obtain ⟨r20, h21, hf⟩ := ob_bind hf
      refine c_Sr (n := 31) (st' := [.int r20]) [.int x3, .int (nm x4.toNatClampNeg)] [] d_M_writePart_28 rfl (s_M_summed htr h21 rfl) tw_981 tw_982 tw_8 tw_983 rfl hd_M_summed (by omega) (by decide) rfl (Nat.le_of_ble_eq_true rfl) rfl rfl ?_
      refine g_istore_n (n := 32) (ls' := [(3, .int r20), (0, .ref 18), (1, .int x1), (2, .int x2), (4, .int x4)]) d_M_writePart_31 rfl rfl (am_ltb rfl) rfl ?_
      refine g_iinc (n := 35) (v := (x4 + 1)) (ls' := [(4, .int (x4 + 1)), (3, .int r20), (0, .ref 18), (1, .int x1), (2, .int x2)]) d_M_writePart_32 rfl 4 rfl rfl (am_ltb rfl) rfl ?_
      refine g_goto (n := 13) d_M_writePart_35 (by decide) ?_
      refine g_ls [2, 3, 4, 1, 0] rfl ?_
      exact ih w mp ml nm x1 x2 r20 (x4 + 1) _ hf _ rfl
