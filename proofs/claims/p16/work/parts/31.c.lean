def f_M_isCalled (ty : Int32) (mh : Int32) (dk : Nat → Int32) (ml : Nat → Int32) (x1 : Int32) : Option (Int32) :=
  ((f_M_place dk mh x1).bind fun r1 => ((f_M_isNamed dk r1).bind fun r3 => (if r3 = 0 then some 0 else (if ty = 0 then some 0 else ((f_M_partsOf dk mh x1).bind fun r7 => (if r7 ≤ 0 then f_M_isCalled_L51 100000000000 ty mh dk ml x1 r1 1 0 0 else f_M_isCalled_L51 100000000000 ty mh dk ml x1 r1 1 1 0))))))
set_option maxHeartbeats 4000000 in
set_option maxRecDepth 100000 in
theorem s_M_isCalled {l : Launch} {D : va_G} {dA : FieldType → ClassId} (htr : l.stackTraces = false) {hx : Nat → am_E} {rest : List am_E} {on : Int32} {dd : Int32} {mw : Int32} {cu : Int32} {ty : Int32} {mh : Int32} {md : Int32} {dk : Nat → Int32} {op : Nat → Int32} {th : Int32} {sp : Int32} {mp : Int32} {mf : Int32} {ml : Nat → Int32} {ps : Nat → Int32} {nm : Nat → Int32} {mu : Nat → Int32} {ch : Nat → Int32} {wy : Nat → Int32} {nx : Nat → Int32}  {x1 : Int32} {r : Int32} (hf : f_M_isCalled ty mh dk ml x1 = some r) {o : am_O} (ho : .inl (some (.int r)) = o) :
    am_M (am_kk l D dA) y_M_isCalled ws_M_isCalled (am_rm 6 o) [.ref 18, .int x1] (hM hx on dd mw cu ty mh md dk op th sp mp mf ml ps nm mu ch wy nx rest) o (hM hx on dd mw cu ty mh md dk op th sp mp mf ml ps nm mu ch wy nx rest) := by
  subst ho
  refine am_body (by decide) rfl (Nat.le_of_ble_eq_true rfl) rfl ?_
  rw [f_M_isCalled] at hf
  refine g_aload_n (n := 1) d_M_isCalled_0 rfl 0 rfl rfl ?_
  refine g_aload_n (n := 2) d_M_isCalled_1 rfl 0 rfl rfl ?_
  refine g_get (n := 5) (q0 := 18) d_M_isCalled_2 rfl (am_fl in_M rfl (by decide : 9 < 20)) (List.mem_cons_of_mem _ tw_874) rfl rfl ?_
  refine g_iload_n (n := 6) d_M_isCalled_5 rfl 1 rfl rfl ?_
  obtain ⟨r1, h2, hf⟩ := ob_bind hf
  refine c_Vr (n := 9) (st' := [.int r1]) [.int mh, .int x1] [] d_M_isCalled_6 rfl (s_M_place htr h2 rfl) tw_965 tw_967 (am_memS 19 (by decide +kernel) (by decide +kernel)) tw_8 tw_968 hd_M_place (by omega) (by decide) (ci := 7) rfl rfl rfl (Nat.le_of_ble_eq_true rfl) rfl rfl ?_
  refine g_istore_n (n := 10) (ls' := [(2, .int r1), (0, .ref 18), (1, .int x1)]) d_M_isCalled_9 rfl rfl (am_ltb rfl) rfl ?_
  refine g_aload_n (n := 11) d_M_isCalled_10 rfl 1 rfl rfl ?_
  refine g_iload_n (n := 12) d_M_isCalled_11 rfl 0 rfl rfl ?_
  obtain ⟨r3, h4, hf⟩ := ob_bind hf
  refine c_Vr (n := 15) (st' := [.int r3]) [.int r1] [] d_M_isCalled_12 rfl (s_M_isNamed htr h4 rfl) tw_969 tw_971 (am_memS 20 (by decide +kernel) (by decide +kernel)) tw_8 tw_972 hd_M_isNamed (by omega) (by decide) (ci := 7) rfl rfl rfl (Nat.le_of_ble_eq_true rfl) rfl rfl ?_
  refine g_if_eq (n := 18) (tgt := 25) d_M_isCalled_15 rfl (by decide) (fun q5 => ?_) (fun q5 => ?_)
  · have hf := ob_pos q5 hf
    refine g_iconst (n := 26) (v := 0) d_M_isCalled_25 rfl (by decide) ?_
    cases hf
    exact g_zret d_M_isCalled_26 rfl am_z0 (Nat.zero_le _) (Nat.zero_le _)
  · have hf := ob_neg q5 hf
    refine g_aload_n (n := 19) d_M_isCalled_18 rfl 1 rfl rfl ?_
    refine g_get (n := 22) (q0 := 18) d_M_isCalled_19 rfl (am_fl in_M rfl (by decide : 8 < 20)) (List.mem_cons_of_mem _ tw_873) rfl rfl ?_
    refine g_if_ne (n := 25) (tgt := 27) d_M_isCalled_22 rfl (by decide) (fun q6 => ?_) (fun q6 => ?_)
    · have hf := ob_neg q6 hf
      refine g_iconst (n := 28) (v := 1) d_M_isCalled_27 rfl (by decide) ?_
      refine g_istore_n (n := 29) (ls' := [(3, .int 1), (2, .int r1), (0, .ref 18), (1, .int x1)]) d_M_isCalled_28 rfl rfl (am_ltb rfl) rfl ?_
      refine g_aload_n (n := 30) d_M_isCalled_29 rfl 2 rfl rfl ?_
      refine g_aload_n (n := 31) d_M_isCalled_30 rfl 2 rfl rfl ?_
      refine g_get (n := 34) (q0 := 18) d_M_isCalled_31 rfl (am_fl in_M rfl (by decide : 9 < 20)) (List.mem_cons_of_mem _ tw_874) rfl rfl ?_
      refine g_iload_n (n := 35) d_M_isCalled_34 rfl 3 rfl rfl ?_
      obtain ⟨r7, h8, hf⟩ := ob_bind hf
      refine c_Vr (n := 38) (st' := [.int r7]) [.int mh, .int x1] [] d_M_isCalled_35 rfl (s_M_partsOf htr h8 rfl) tw_977 tw_979 (am_memS 22 (by decide +kernel) (by decide +kernel)) tw_8 tw_980 hd_M_partsOf (by omega) (by decide) (ci := 7) rfl rfl rfl (Nat.le_of_ble_eq_true rfl) rfl rfl ?_
      refine g_if_le (n := 41) (tgt := 45) d_M_isCalled_38 rfl (by decide) (fun q9 => ?_) (fun q9 => ?_)
      · have hf := ob_pos q9 hf
        refine g_iconst (n := 46) (v := 0) d_M_isCalled_45 rfl (by decide) ?_
        refine g_istore (n := 48) (ls' := [(4, .int 0), (3, .int 1), (2, .int r1), (0, .ref 18), (1, .int x1)]) d_M_isCalled_46 rfl (am_ltb rfl) rfl ?_
        refine g_iconst (n := 49) (v := 0) d_M_isCalled_48 rfl (by decide) ?_
        refine g_istore (n := 51) (ls' := [(5, .int 0), (4, .int 0), (3, .int 1), (2, .int r1), (0, .ref 18), (1, .int x1)]) d_M_isCalled_49 rfl (am_ltb rfl) rfl ?_
        refine g_ls [4, 5, 3, 2, 1, 0] rfl ?_
        exact s_M_isCalled_L51 htr 100000000000 ty mh dk ml x1 r1 1 0 0 _ hf _ rfl
      · have hf := ob_neg q9 hf
        refine g_iconst (n := 42) (v := 1) d_M_isCalled_41 rfl (by decide) ?_
        refine g_goto (n := 46) d_M_isCalled_42 (by decide) ?_
        refine g_istore (n := 48) (ls' := [(4, .int 1), (3, .int 1), (2, .int r1), (0, .ref 18), (1, .int x1)]) d_M_isCalled_46 rfl (am_ltb rfl) rfl ?_
        refine g_iconst (n := 49) (v := 0) d_M_isCalled_48 rfl (by decide) ?_
        refine g_istore (n := 51) (ls' := [(5, .int 0), (4, .int 1), (3, .int 1), (2, .int r1), (0, .ref 18), (1, .int x1)]) d_M_isCalled_49 rfl (am_ltb rfl) rfl ?_
        refine g_ls [4, 5, 3, 2, 1, 0] rfl ?_
        exact s_M_isCalled_L51 htr 100000000000 ty mh dk ml x1 r1 1 1 0 _ hf _ rfl
    · have hf := ob_pos q6 hf
      refine g_iconst (n := 26) (v := 0) d_M_isCalled_25 rfl (by decide) ?_
      cases hf
      exact g_zret d_M_isCalled_26 rfl am_z0 (Nat.zero_le _) (Nat.zero_le _)
def f_M_find_L13 : Nat → Int32 → Int32 → (Nat → Int32) → (Nat → Int32) → Int32 → Int32 → Option (Int32)
  | 0, _, _, _, _, _, _ => none
  | fuel + 1, ty, mh, dk, ml, x1, x2 =>
  (if x1 ≤ x2 then some (-1) else ((f_M_isCalled ty mh dk ml x2).bind fun r4 => (if r4 = 0 then f_M_find_L13 fuel ty mh dk ml x1 (x2 + 1) else some x2)))
set_option maxHeartbeats 4000000 in
set_option maxRecDepth 100000 in
theorem s_M_find_L13 {l : Launch} {D : va_G} {dA : FieldType → ClassId} (htr : l.stackTraces = false) {hx : Nat → am_E} {rest : List am_E} {on : Int32} {dd : Int32} {mw : Int32} {cu : Int32} {md : Int32} {op : Nat → Int32} {th : Int32} {sp : Int32} {mp : Int32} {mf : Int32} {ps : Nat → Int32} {nm : Nat → Int32} {mu : Nat → Int32} {ch : Nat → Int32} {wy : Nat → Int32} {nx : Nat → Int32}  : ∀ (fuel : Nat) (ty : Int32) (mh : Int32) (dk : Nat → Int32) (ml : Nat → Int32) (x1 : Int32) (x2 : Int32) (r : Int32), f_M_find_L13 fuel ty mh dk ml x1 x2 = some r → ∀ o : am_O, .inl (some (.int r)) = o →
    am_G (am_kk l D dA) (ws_M_find, y_M_find.cls, prog_9_method_26_code, 3, (some .int), y_M_find.name, [], am_rm 7 (o), none) o (hM hx on dd mw cu ty mh md dk op th sp mp mf ml ps nm mu ch wy nx rest) 0 0 13 [(0, .ref 18), (1, .int x1), (2, .int x2)] [] (hM hx on dd mw cu ty mh md dk op th sp mp mf ml ps nm mu ch wy nx rest) := by
  intro fuel
  induction fuel with
  | zero =>
    intro ty mh dk ml x1 x2 r hf
    cases hf
  | succ fuel ih =>
    intro ty mh dk ml x1 x2 r hf o ho
    subst ho
    rw [f_M_find_L13] at hf
    refine g_iload_n (n := 14) d_M_find_13 rfl 2 rfl rfl ?_
    refine g_iload_n (n := 15) d_M_find_14 rfl 1 rfl rfl ?_
    refine g_icmp_ge (n := 18) (tgt := 34) d_M_find_15 rfl (by decide) (fun q3 => ?_) (fun q3 => ?_)
    · have hf := ob_pos q3 hf
      refine g_iconst (n := 35) (v := (-1)) d_M_find_34 rfl (by decide) ?_
      cases hf
      exact g_iret d_M_find_35 rfl (Nat.zero_le _) (Nat.zero_le _)
    · have hf := ob_neg q3 hf
      refine g_aload_n (n := 19) d_M_find_18 rfl 0 rfl rfl ?_
      refine g_iload_n (n := 20) d_M_find_19 rfl 2 rfl rfl ?_
      obtain ⟨r4, h5, hf⟩ := ob_bind hf
      refine c_Vr (n := 23) (st' := [.int r4]) [.int x2] [] d_M_find_20 rfl (s_M_isCalled htr h5 rfl) tw_961 tw_963 (am_memS 18 (by decide +kernel) (by decide +kernel)) tw_8 tw_964 hd_M_isCalled (by omega) (by decide) (ci := 7) rfl rfl rfl (Nat.le_of_ble_eq_true rfl) rfl rfl ?_
      refine g_if_eq (n := 26) (tgt := 28) d_M_find_23 rfl (by decide) (fun q6 => ?_) (fun q6 => ?_)
      · have hf := ob_pos q6 hf
        refine g_iinc (n := 31) (v := (x2 + 1)) (ls' := [(2, .int (x2 + 1)), (0, .ref 18), (1, .int x1)]) d_M_find_28 rfl 2 rfl rfl (am_ltb rfl) rfl ?_
        refine g_goto (n := 13) d_M_find_31 (by decide) ?_
        refine g_ls [1, 2, 0] rfl ?_
        exact ih ty mh dk ml x1 (x2 + 1) _ hf _ rfl
      · have hf := ob_neg q6 hf
        refine g_iload_n (n := 27) d_M_find_26 rfl 2 rfl rfl ?_
        cases hf
        exact g_iret d_M_find_27 rfl (Nat.zero_le _) (Nat.zero_le _)
def f_M_find (ty : Int32) (mh : Int32) (dk : Nat → Int32) (ml : Nat → Int32) : Option (Int32) :=
  ((f_M_length dk mh).bind fun r1 => f_M_find_L13 100000000000 ty mh dk ml (2 * r1) 0)
set_option maxHeartbeats 4000000 in
set_option maxRecDepth 100000 in
theorem s_M_find {l : Launch} {D : va_G} {dA : FieldType → ClassId} (htr : l.stackTraces = false) {hx : Nat → am_E} {rest : List am_E} {on : Int32} {dd : Int32} {mw : Int32} {cu : Int32} {ty : Int32} {mh : Int32} {md : Int32} {dk : Nat → Int32} {op : Nat → Int32} {th : Int32} {sp : Int32} {mp : Int32} {mf : Int32} {ml : Nat → Int32} {ps : Nat → Int32} {nm : Nat → Int32} {mu : Nat → Int32} {ch : Nat → Int32} {wy : Nat → Int32} {nx : Nat → Int32}   {r : Int32} (hf : f_M_find ty mh dk ml = some r) {o : am_O} (ho : .inl (some (.int r)) = o) :
    am_M (am_kk l D dA) y_M_find ws_M_find (am_rm 7 o) [.ref 18] (hM hx on dd mw cu ty mh md dk op th sp mp mf ml ps nm mu ch wy nx rest) o (hM hx on dd mw cu ty mh md dk op th sp mp mf ml ps nm mu ch wy nx rest) := by
  subst ho
  refine am_body (by decide) rfl (Nat.le_of_ble_eq_true rfl) rfl ?_
  rw [f_M_find] at hf
  refine g_iconst (n := 1) (v := 2) d_M_find_0 rfl (by decide) ?_
  refine g_aload_n (n := 2) d_M_find_1 rfl 0 rfl rfl ?_
  refine g_aload_n (n := 3) d_M_find_2 rfl 0 rfl rfl ?_
  refine g_get (n := 6) (q0 := 18) d_M_find_3 rfl (am_fl in_M rfl (by decide : 9 < 20)) (List.mem_cons_of_mem _ tw_874) rfl rfl ?_
  obtain ⟨r1, h2, hf⟩ := ob_bind hf
  refine c_Vr (n := 9) (st' := [.int r1, .int 2]) [.int mh] [.int 2] d_M_find_6 rfl (s_M_length htr h2 rfl) tw_945 tw_947 (am_memS 14 (by decide +kernel) (by decide +kernel)) tw_8 tw_948 hd_M_length (by omega) (by decide) (ci := 7) rfl rfl rfl (Nat.le_of_ble_eq_true rfl) rfl rfl ?_
  refine g_imul (n := 10) d_M_find_9 rfl ?_
  refine g_istore_n (n := 11) (ls' := [(1, .int (2 * r1)), (0, .ref 18)]) d_M_find_10 rfl rfl (am_ltb rfl) rfl ?_
  refine g_iconst (n := 12) (v := 0) d_M_find_11 rfl (by decide) ?_
  refine g_istore_n (n := 13) (ls' := [(2, .int 0), (1, .int (2 * r1)), (0, .ref 18)]) d_M_find_12 rfl rfl (am_ltb rfl) rfl ?_
  refine g_ls [2, 1, 0] rfl ?_
  exact s_M_find_L13 htr 100000000000 ty mh dk ml (2 * r1) 0 _ hf _ rfl
def f_M_isPlain (x0 : Int32) : Option (Int32) :=
  ((f_M_in x0 65 90).bind fun r1 => (if r1 = 0 then ((f_M_in x0 48 57).bind fun r4 => (if r4 = 0 then some 0 else some 1)) else some 1))
set_option maxHeartbeats 4000000 in
set_option maxRecDepth 100000 in
theorem s_M_isPlain {l : Launch} {D : va_G} {dA : FieldType → ClassId} (htr : l.stackTraces = false) {hx : Nat → am_E} {rest : List am_E} {on : Int32} {dd : Int32} {mw : Int32} {cu : Int32} {ty : Int32} {mh : Int32} {md : Int32} {dk : Nat → Int32} {op : Nat → Int32} {th : Int32} {sp : Int32} {mp : Int32} {mf : Int32} {ml : Nat → Int32} {ps : Nat → Int32} {nm : Nat → Int32} {mu : Nat → Int32} {ch : Nat → Int32} {wy : Nat → Int32} {nx : Nat → Int32}  {x0 : Int32} {r : Int32} (hf : f_M_isPlain x0 = some r) {o : am_O} (ho : .inl (some (.int r)) = o) :
    am_M (am_kk l D dA) y_M_isPlain ws_M_isPlain (am_rm 1 o) [.int x0] (hM hx on dd mw cu ty mh md dk op th sp mp mf ml ps nm mu ch wy nx rest) o (hM hx on dd mw cu ty mh md dk op th sp mp mf ml ps nm mu ch wy nx rest) := by
  subst ho
  refine am_body (by decide) rfl (Nat.le_of_ble_eq_true rfl) rfl ?_
  rw [f_M_isPlain] at hf
  refine g_iload_n (n := 1) d_M_isPlain_0 rfl 0 rfl rfl ?_
  refine g_bipush (n := 3) (v := 65) d_M_isPlain_1 rfl (by decide) ?_
  refine g_bipush (n := 5) (v := 90) d_M_isPlain_3 rfl (by decide) ?_
  obtain ⟨r1, h2, hf⟩ := ob_bind hf
  refine c_Sr (n := 8) (st' := [.int r1]) [.int x0, .int 65, .int 90] [] d_M_isPlain_5 rfl (s_M_in htr h2 rfl) tw_938 tw_939 tw_8 tw_940 rfl hd_M_in (by omega) (by decide) rfl (Nat.le_of_ble_eq_true rfl) rfl rfl ?_
  refine g_if_ne (n := 11) (tgt := 22) d_M_isPlain_8 rfl (by decide) (fun q3 => ?_) (fun q3 => ?_)
  · have hf := ob_neg q3 hf
    refine g_iconst (n := 23) (v := 1) d_M_isPlain_22 rfl (by decide) ?_
    refine g_goto (n := 27) d_M_isPlain_23 (by decide) ?_
    cases hf
    exact g_zret d_M_isPlain_27 rfl am_z1 (Nat.zero_le _) (Nat.zero_le _)
  · have hf := ob_pos q3 hf
    refine g_iload_n (n := 12) d_M_isPlain_11 rfl 0 rfl rfl ?_
    refine g_bipush (n := 14) (v := 48) d_M_isPlain_12 rfl (by decide) ?_
    refine g_bipush (n := 16) (v := 57) d_M_isPlain_14 rfl (by decide) ?_
    obtain ⟨r4, h5, hf⟩ := ob_bind hf
    refine c_Sr (n := 19) (st' := [.int r4]) [.int x0, .int 48, .int 57] [] d_M_isPlain_16 rfl (s_M_in htr h5 rfl) tw_938 tw_939 tw_8 tw_940 rfl hd_M_in (by omega) (by decide) rfl (Nat.le_of_ble_eq_true rfl) rfl rfl ?_
    refine g_if_eq (n := 22) (tgt := 26) d_M_isPlain_19 rfl (by decide) (fun q6 => ?_) (fun q6 => ?_)
    · have hf := ob_pos q6 hf
      refine g_iconst (n := 27) (v := 0) d_M_isPlain_26 rfl (by decide) ?_
      cases hf
      exact g_zret d_M_isPlain_27 rfl am_z0 (Nat.zero_le _) (Nat.zero_le _)
    · have hf := ob_neg q6 hf
      refine g_iconst (n := 23) (v := 1) d_M_isPlain_22 rfl (by decide) ?_
      refine g_goto (n := 27) d_M_isPlain_23 (by decide) ?_
      cases hf
      exact g_zret d_M_isPlain_27 rfl am_z1 (Nat.zero_le _) (Nat.zero_le _)
def f_M_isTaken_L42 (k15 : Int32 → (Nat → Int32) → (Nat → Int32) → Int32 → Int32 → Int32 → Option (Int32)) : Nat → Int32 → (Nat → Int32) → (Nat → Int32) → Int32 → Int32 → Int32 → Int32 → Int32 → Int32 → Option (Int32)
  | 0, _, _, _, _, _, _, _, _, _ => none
  | fuel + 1, mh, dk, nm, x1, x2, x3, x4, x5, x6 =>
  (if 6 ≤ x6 then (if x2 = 0 then (if x5 = 0 then k15 mh dk nm x1 0 (x3 + 1) else k15 mh dk nm x1 1 (x3 + 1)) else k15 mh dk nm x1 1 (x3 + 1)) else (if x5 = 0 then f_M_isTaken_L42 k15 fuel mh dk nm x1 x2 x3 x4 0 (x6 + 1) else (if am_in (x4 + x6) 2240 = true then (if am_in x6 6 = true then (if (dk (x4 + x6).toNatClampNeg) = (nm x6.toNatClampNeg) then f_M_isTaken_L42 k15 fuel mh dk nm x1 x2 x3 x4 1 (x6 + 1) else f_M_isTaken_L42 k15 fuel mh dk nm x1 x2 x3 x4 0 (x6 + 1)) else none) else none)))
set_option maxHeartbeats 4000000 in
set_option maxRecDepth 100000 in
theorem s_M_isTaken_L42 {l : Launch} {D : va_G} {dA : FieldType → ClassId} (htr : l.stackTraces = false) {hx : Nat → am_E} {rest : List am_E} {on : Int32} {dd : Int32} {mw : Int32} {cu : Int32} {ty : Int32} {md : Int32} {op : Nat → Int32} {th : Int32} {sp : Int32} {mp : Int32} {mf : Int32} {ml : Nat → Int32} {ps : Nat → Int32} {mu : Nat → Int32} {ch : Nat → Int32} {wy : Nat → Int32} {nx : Nat → Int32} (k15 : Int32 → (Nat → Int32) → (Nat → Int32) → Int32 → Int32 → Int32 → Option (Int32)) (hk15 : ∀ (mh : Int32) (dk : Nat → Int32) (nm : Nat → Int32) (x1 : Int32) (x2 : Int32) (x3 : Int32) (r : Int32), k15 mh dk nm x1 x2 x3 = some r → ∀ o : am_O, .inl (some (.int r)) = o → am_G (am_kk l D dA) (ws_M_isTaken, y_M_isTaken.cls, prog_9_method_27_code, 7, (some .boolean), y_M_isTaken.name, [], am_rm 4 (o), none) o (hM hx on dd mw cu ty mh md dk op th sp mp mf ml ps nm mu ch wy nx rest) 0 0 15 [(0, .ref 18), (1, .int x1), (2, .int x2), (3, .int x3)] [] (hM hx on dd mw cu ty mh md dk op th sp mp mf ml ps nm mu ch wy nx rest))  : ∀ (fuel : Nat) (mh : Int32) (dk : Nat → Int32) (nm : Nat → Int32) (x1 : Int32) (x2 : Int32) (x3 : Int32) (x4 : Int32) (x5 : Int32) (x6 : Int32) (r : Int32), f_M_isTaken_L42 k15 fuel mh dk nm x1 x2 x3 x4 x5 x6 = some r → ∀ o : am_O, .inl (some (.int r)) = o →
    am_G (am_kk l D dA) (ws_M_isTaken, y_M_isTaken.cls, prog_9_method_27_code, 7, (some .boolean), y_M_isTaken.name, [], am_rm 4 (o), none) o (hM hx on dd mw cu ty mh md dk op th sp mp mf ml ps nm mu ch wy nx rest) 0 0 42 [(0, .ref 18), (1, .int x1), (2, .int x2), (3, .int x3), (4, .int x4), (5, .int x5), (6, .int x6)] [] (hM hx on dd mw cu ty mh md dk op th sp mp mf ml ps nm mu ch wy nx rest) := by
  intro fuel
  induction fuel with
  | zero =>
    intro mh dk nm x1 x2 x3 x4 x5 x6 r hf
    cases hf
  | succ fuel ih =>
    intro mh dk nm x1 x2 x3 x4 x5 x6 r hf o ho
    subst ho
    rw [f_M_isTaken_L42] at hf
    refine g_iload (n := 44) d_M_isTaken_42 rfl 6 rfl ?_
    refine g_bipush (n := 46) (v := 6) d_M_isTaken_44 rfl (by decide) ?_
    refine g_icmp_ge (n := 49) (tgt := 87) d_M_isTaken_46 rfl (by decide) (fun q9 => ?_) (fun q9 => ?_)
    · have hf := ob_pos q9 hf
      refine g_iload_n (n := 88) d_M_isTaken_87 rfl 2 rfl rfl ?_
      refine g_if_ne (n := 91) (tgt := 96) d_M_isTaken_88 rfl (by decide) (fun q10 => ?_) (fun q10 => ?_)
      · have hf := ob_neg q10 hf
        refine g_iconst (n := 97) (v := 1) d_M_isTaken_96 rfl (by decide) ?_
        refine g_goto (n := 101) d_M_isTaken_97 (by decide) ?_
        refine g_istore_n (n := 102) (ls' := [(2, .int 1), (0, .ref 18), (1, .int x1), (3, .int x3), (4, .int x4), (5, .int x5), (6, .int x6)]) d_M_isTaken_101 rfl rfl (am_ltb rfl) rfl ?_
        refine g_iinc (n := 105) (v := (x3 + 1)) (ls' := [(3, .int (x3 + 1)), (2, .int 1), (0, .ref 18), (1, .int x1), (4, .int x4), (5, .int x5), (6, .int x6)]) d_M_isTaken_102 rfl 3 rfl rfl (am_ltb rfl) rfl ?_
        refine g_goto (n := 15) d_M_isTaken_105 (by decide) ?_
        refine g_ls [2, 3, 1, 0] rfl ?_
        exact hk15 mh dk nm x1 1 (x3 + 1) _ hf _ rfl
      · have hf := ob_pos q10 hf
        refine g_iload (n := 93) d_M_isTaken_91 rfl 5 rfl ?_
        refine g_if_eq (n := 96) (tgt := 100) d_M_isTaken_93 rfl (by decide) (fun q11 => ?_) (fun q11 => ?_)
        · have hf := ob_pos q11 hf
          refine g_iconst (n := 101) (v := 0) d_M_isTaken_100 rfl (by decide) ?_
          refine g_istore_n (n := 102) (ls' := [(2, .int 0), (0, .ref 18), (1, .int x1), (3, .int x3), (4, .int x4), (5, .int x5), (6, .int x6)]) d_M_isTaken_101 rfl rfl (am_ltb rfl) rfl ?_
          refine g_iinc (n := 105) (v := (x3 + 1)) (ls' := [(3, .int (x3 + 1)), (2, .int 0), (0, .ref 18), (1, .int x1), (4, .int x4), (5, .int x5), (6, .int x6)]) d_M_isTaken_102 rfl 3 rfl rfl (am_ltb rfl) rfl ?_
          refine g_goto (n := 15) d_M_isTaken_105 (by decide) ?_
          refine g_ls [2, 3, 1, 0] rfl ?_
          exact hk15 mh dk nm x1 0 (x3 + 1) _ hf _ rfl
        · have hf := ob_neg q11 hf
          refine g_iconst (n := 97) (v := 1) d_M_isTaken_96 rfl (by decide) ?_
          refine g_goto (n := 101) d_M_isTaken_97 (by decide) ?_
          refine g_istore_n (n := 102) (ls' := [(2, .int 1), (0, .ref 18), (1, .int x1), (3, .int x3), (4, .int x4), (5, .int x5), (6, .int x6)]) d_M_isTaken_101 rfl rfl (am_ltb rfl) rfl ?_
          refine g_iinc (n := 105) (v := (x3 + 1)) (ls' := [(3, .int (x3 + 1)), (2, .int 1), (0, .ref 18), (1, .int x1), (4, .int x4), (5, .int x5), (6, .int x6)]) d_M_isTaken_102 rfl 3 rfl rfl (am_ltb rfl) rfl ?_
          refine g_goto (n := 15) d_M_isTaken_105 (by decide) ?_
          refine g_ls [2, 3, 1, 0] rfl ?_
          exact hk15 mh dk nm x1 1 (x3 + 1) _ hf _ rfl
    · have hf := ob_neg q9 hf
      refine g_iload (n := 51) d_M_isTaken_49 rfl 5 rfl ?_
      refine g_if_eq (n := 54) (tgt := 78) d_M_isTaken_51 rfl (by decide) (fun q12 => ?_) (fun q12 => ?_)
      · have hf := ob_pos q12 hf
        refine g_iconst (n := 79) (v := 0) d_M_isTaken_78 rfl (by decide) ?_
        refine g_istore (n := 81) (ls' := [(5, .int 0), (0, .ref 18), (1, .int x1), (2, .int x2), (3, .int x3), (4, .int x4), (6, .int x6)]) d_M_isTaken_79 rfl (am_ltb rfl) rfl ?_
        refine g_iinc (n := 84) (v := (x6 + 1)) (ls' := [(6, .int (x6 + 1)), (5, .int 0), (0, .ref 18), (1, .int x1), (2, .int x2), (3, .int x3), (4, .int x4)]) d_M_isTaken_81 rfl 6 rfl rfl (am_ltb rfl) rfl ?_
        refine g_goto (n := 42) d_M_isTaken_84 (by decide) ?_
        refine g_ls [2, 3, 4, 5, 6, 1, 0] rfl ?_
        exact ih mh dk nm x1 x2 x3 x4 0 (x6 + 1) _ hf _ rfl
      · have hf := ob_neg q12 hf
        refine g_aload_n (n := 55) d_M_isTaken_54 rfl 0 rfl rfl ?_
        refine g_get (n := 58) (q0 := 18) d_M_isTaken_55 rfl (am_fl in_M rfl (by decide : 1 < 20)) (List.mem_cons_of_mem _ tw_866) rfl rfl ?_
        refine g_iload (n := 60) d_M_isTaken_58 rfl 4 rfl ?_
        refine g_iload (n := 62) d_M_isTaken_60 rfl 6 rfl ?_
        refine g_iadd (n := 63) d_M_isTaken_62 rfl ?_
        obtain ⟨b13, hf⟩ := ob_chk hf
        refine g_iald (n := 64) (q0 := 19) d_M_isTaken_63 rfl rfl (am_inl b13) ?_
        refine g_aload_n (n := 65) d_M_isTaken_64 rfl 0 rfl rfl ?_
        refine g_get (n := 68) (q0 := 18) d_M_isTaken_65 rfl (am_fl in_M rfl (by decide : 13 < 20)) (List.mem_cons_of_mem _ tw_878) rfl rfl ?_
        refine g_iload (n := 70) d_M_isTaken_68 rfl 6 rfl ?_
        obtain ⟨b14, hf⟩ := ob_chk hf
        refine g_iald (n := 71) (q0 := 23) d_M_isTaken_70 rfl rfl (am_inl b14) ?_
        refine g_icmp_ne (n := 74) (tgt := 78) d_M_isTaken_71 rfl (by decide) (fun q15 => ?_) (fun q15 => ?_)
        · have hf := ob_neg q15 hf
          refine g_iconst (n := 79) (v := 0) d_M_isTaken_78 rfl (by decide) ?_
          refine g_istore (n := 81) (ls' := [(5, .int 0), (0, .ref 18), (1, .int x1), (2, .int x2), (3, .int x3), (4, .int x4), (6, .int x6)]) d_M_isTaken_79 rfl (am_ltb rfl) rfl ?_
          refine g_iinc (n := 84) (v := (x6 + 1)) (ls' := [(6, .int (x6 + 1)), (5, .int 0), (0, .ref 18), (1, .int x1), (2, .int x2), (3, .int x3), (4, .int x4)]) d_M_isTaken_81 rfl 6 rfl rfl (am_ltb rfl) rfl ?_
          refine g_goto (n := 42) d_M_isTaken_84 (by decide) ?_
          refine g_ls [2, 3, 4, 5, 6, 1, 0] rfl ?_
          exact ih mh dk nm x1 x2 x3 x4 0 (x6 + 1) _ hf _ rfl
        · have hf := ob_pos q15 hf
          refine g_iconst (n := 75) (v := 1) d_M_isTaken_74 rfl (by decide) ?_
          refine g_goto (n := 79) d_M_isTaken_75 (by decide) ?_
          refine g_istore (n := 81) (ls' := [(5, .int 1), (0, .ref 18), (1, .int x1), (2, .int x2), (3, .int x3), (4, .int x4), (6, .int x6)]) d_M_isTaken_79 rfl (am_ltb rfl) rfl ?_
          refine g_iinc (n := 84) (v := (x6 + 1)) (ls' := [(6, .int (x6 + 1)), (5, .int 1), (0, .ref 18), (1, .int x1), (2, .int x2), (3, .int x3), (4, .int x4)]) d_M_isTaken_81 rfl 6 rfl rfl (am_ltb rfl) rfl ?_
          refine g_goto (n := 42) d_M_isTaken_84 (by decide) ?_
          refine g_ls [2, 3, 4, 5, 6, 1, 0] rfl ?_
          exact ih mh dk nm x1 x2 x3 x4 1 (x6 + 1) _ hf _ rfl
def f_M_isTaken_L15 : Nat → Int32 → (Nat → Int32) → (Nat → Int32) → Int32 → Int32 → Int32 → Option (Int32)
  | 0, _, _, _, _, _, _ => none
  | fuel + 1, mh, dk, nm, x1, x2, x3 =>
  (if x1 ≤ x3 then (if am_bl x2 = true then some x2 else none) else ((f_M_place dk mh x3).bind fun r5 => ((f_M_isNamed dk r5).bind fun r7 => f_M_isTaken_L42 (f_M_isTaken_L15 fuel) 100000000000 mh dk nm x1 x2 x3 r5 r7 0)))
set_option maxHeartbeats 4000000 in
set_option maxRecDepth 100000 in
theorem s_M_isTaken_L15 {l : Launch} {D : va_G} {dA : FieldType → ClassId} (htr : l.stackTraces = false) {hx : Nat → am_E} {rest : List am_E} {on : Int32} {dd : Int32} {mw : Int32} {cu : Int32} {ty : Int32} {md : Int32} {op : Nat → Int32} {th : Int32} {sp : Int32} {mp : Int32} {mf : Int32} {ml : Nat → Int32} {ps : Nat → Int32} {mu : Nat → Int32} {ch : Nat → Int32} {wy : Nat → Int32} {nx : Nat → Int32}  : ∀ (fuel : Nat) (mh : Int32) (dk : Nat → Int32) (nm : Nat → Int32) (x1 : Int32) (x2 : Int32) (x3 : Int32) (r : Int32), f_M_isTaken_L15 fuel mh dk nm x1 x2 x3 = some r → ∀ o : am_O, .inl (some (.int r)) = o →
    am_G (am_kk l D dA) (ws_M_isTaken, y_M_isTaken.cls, prog_9_method_27_code, 7, (some .boolean), y_M_isTaken.name, [], am_rm 4 (o), none) o (hM hx on dd mw cu ty mh md dk op th sp mp mf ml ps nm mu ch wy nx rest) 0 0 15 [(0, .ref 18), (1, .int x1), (2, .int x2), (3, .int x3)] [] (hM hx on dd mw cu ty mh md dk op th sp mp mf ml ps nm mu ch wy nx rest) := by
  intro fuel
  induction fuel with
  | zero =>
    intro mh dk nm x1 x2 x3 r hf
    cases hf
  | succ fuel ih =>
    intro mh dk nm x1 x2 x3 r hf o ho
    subst ho
    rw [f_M_isTaken_L15] at hf
    refine g_iload_n (n := 16) d_M_isTaken_15 rfl 3 rfl rfl ?_
    refine g_iload_n (n := 17) d_M_isTaken_16 rfl 1 rfl rfl ?_
    refine g_icmp_ge (n := 20) (tgt := 108) d_M_isTaken_17 rfl (by decide) (fun q3 => ?_) (fun q3 => ?_)
    · have hf := ob_pos q3 hf
      refine g_iload_n (n := 109) d_M_isTaken_108 rfl 2 rfl rfl ?_
      obtain ⟨b4, hf⟩ := ob_chk hf
      cases hf
      exact g_zret d_M_isTaken_109 rfl (am_blz b4) (Nat.zero_le _) (Nat.zero_le _)
    · have hf := ob_neg q3 hf
      refine g_aload_n (n := 21) d_M_isTaken_20 rfl 0 rfl rfl ?_
      refine g_aload_n (n := 22) d_M_isTaken_21 rfl 0 rfl rfl ?_
      refine g_get (n := 25) (q0 := 18) d_M_isTaken_22 rfl (am_fl in_M rfl (by decide : 9 < 20)) (List.mem_cons_of_mem _ tw_874) rfl rfl ?_
      refine g_iload_n (n := 26) d_M_isTaken_25 rfl 3 rfl rfl ?_
      obtain ⟨r5, h6, hf⟩ := ob_bind hf
      refine c_Vr (n := 29) (st' := [.int r5]) [.int mh, .int x3] [] d_M_isTaken_26 rfl (s_M_place htr h6 rfl) tw_965 tw_967 (am_memS 19 (by decide +kernel) (by decide +kernel)) tw_8 tw_968 hd_M_place (by omega) (by decide) (ci := 7) rfl rfl rfl (Nat.le_of_ble_eq_true rfl) rfl rfl ?_
      refine g_istore (n := 31) (ls' := [(4, .int r5), (0, .ref 18), (1, .int x1), (2, .int x2), (3, .int x3)]) d_M_isTaken_29 rfl (am_ltb rfl) rfl ?_
      refine g_aload_n (n := 32) d_M_isTaken_31 rfl 1 rfl rfl ?_
      refine g_iload (n := 34) d_M_isTaken_32 rfl 0 rfl ?_
      obtain ⟨r7, h8, hf⟩ := ob_bind hf
      refine c_Vr (n := 37) (st' := [.int r7]) [.int r5] [] d_M_isTaken_34 rfl (s_M_isNamed htr h8 rfl) tw_969 tw_971 (am_memS 20 (by decide +kernel) (by decide +kernel)) tw_8 tw_972 hd_M_isNamed (by omega) (by decide) (ci := 7) rfl rfl rfl (Nat.le_of_ble_eq_true rfl) rfl rfl ?_
      refine g_istore (n := 39) (ls' := [(5, .int r7), (4, .int r5), (0, .ref 18), (1, .int x1), (2, .int x2), (3, .int x3)]) d_M_isTaken_37 rfl (am_ltb rfl) rfl ?_
      refine g_iconst (n := 40) (v := 0) d_M_isTaken_39 rfl (by decide) ?_
      refine g_istore (n := 42) (ls' := [(6, .int 0), (5, .int r7), (4, .int r5), (0, .ref 18), (1, .int x1), (2, .int x2), (3, .int x3)]) d_M_isTaken_40 rfl (am_ltb rfl) rfl ?_
      refine g_ls [3, 4, 5, 6, 2, 1, 0] rfl ?_
      exact s_M_isTaken_L42 htr (f_M_isTaken_L15 fuel) ih 100000000000 mh dk nm x1 x2 x3 r5 r7 0 _ hf _ rfl
def f_M_isTaken (mh : Int32) (dk : Nat → Int32) (nm : Nat → Int32) : Option (Int32) :=
  ((f_M_length dk mh).bind fun r1 => f_M_isTaken_L15 100000000000 mh dk nm (2 * r1) 0 0)
set_option maxHeartbeats 4000000 in
set_option maxRecDepth 100000 in
theorem s_M_isTaken {l : Launch} {D : va_G} {dA : FieldType → ClassId} (htr : l.stackTraces = false) {hx : Nat → am_E} {rest : List am_E} {on : Int32} {dd : Int32} {mw : Int32} {cu : Int32} {ty : Int32} {mh : Int32} {md : Int32} {dk : Nat → Int32} {op : Nat → Int32} {th : Int32} {sp : Int32} {mp : Int32} {mf : Int32} {ml : Nat → Int32} {ps : Nat → Int32} {nm : Nat → Int32} {mu : Nat → Int32} {ch : Nat → Int32} {wy : Nat → Int32} {nx : Nat → Int32}   {r : Int32} (hf : f_M_isTaken mh dk nm = some r) {o : am_O} (ho : .inl (some (.int r)) = o) :
    am_M (am_kk l D dA) y_M_isTaken ws_M_isTaken (am_rm 4 o) [.ref 18] (hM hx on dd mw cu ty mh md dk op th sp mp mf ml ps nm mu ch wy nx rest) o (hM hx on dd mw cu ty mh md dk op th sp mp mf ml ps nm mu ch wy nx rest) := by
  subst ho
  refine am_body (by decide) rfl (Nat.le_of_ble_eq_true rfl) rfl ?_
  rw [f_M_isTaken] at hf
  refine g_iconst (n := 1) (v := 2) d_M_isTaken_0 rfl (by decide) ?_
  refine g_aload_n (n := 2) d_M_isTaken_1 rfl 0 rfl rfl ?_
  refine g_aload_n (n := 3) d_M_isTaken_2 rfl 0 rfl rfl ?_
  refine g_get (n := 6) (q0 := 18) d_M_isTaken_3 rfl (am_fl in_M rfl (by decide : 9 < 20)) (List.mem_cons_of_mem _ tw_874) rfl rfl ?_
  obtain ⟨r1, h2, hf⟩ := ob_bind hf
  refine c_Vr (n := 9) (st' := [.int r1, .int 2]) [.int mh] [.int 2] d_M_isTaken_6 rfl (s_M_length htr h2 rfl) tw_945 tw_947 (am_memS 14 (by decide +kernel) (by decide +kernel)) tw_8 tw_948 hd_M_length (by omega) (by decide) (ci := 7) rfl rfl rfl (Nat.le_of_ble_eq_true rfl) rfl rfl ?_
  refine g_imul (n := 10) d_M_isTaken_9 rfl ?_
  refine g_istore_n (n := 11) (ls' := [(1, .int (2 * r1)), (0, .ref 18)]) d_M_isTaken_10 rfl rfl (am_ltb rfl) rfl ?_
  refine g_iconst (n := 12) (v := 0) d_M_isTaken_11 rfl (by decide) ?_
  refine g_istore_n (n := 13) (ls' := [(2, .int 0), (1, .int (2 * r1)), (0, .ref 18)]) d_M_isTaken_12 rfl rfl (am_ltb rfl) rfl ?_
  refine g_iconst (n := 14) (v := 0) d_M_isTaken_13 rfl (by decide) ?_
  refine g_istore_n (n := 15) (ls' := [(3, .int 0), (2, .int 0), (1, .int (2 * r1)), (0, .ref 18)]) d_M_isTaken_14 rfl rfl (am_ltb rfl) rfl ?_
  refine g_ls [3, 2, 1, 0] rfl ?_
  exact s_M_isTaken_L15 htr 100000000000 mh dk nm (2 * r1) 0 0 _ hf _ rfl
def f_M_shorten_L190 : Nat → Int32 → Int32 → (Nat → Int32) → Int32 → (Nat → Int32) → (Nat → Int32) → Int32 → Option (Int32 × Int32 × (Nat → Int32))
  | 0, _, _, _, _, _, _, _ => none
  | fuel + 1, ty, mh, dk, mp, ml, nm, x2 =>
  (if am_in (x2 + 1) 6 = true then (if 57 < (nm (x2 + 1).toNatClampNeg) then (if am_in (x2 + 1) 6 = true then some (0, mp, nm) else none) else ((f_M_isTaken mh dk nm).bind fun r14 => (if r14 = 0 then (if am_in (x2 + 1) 6 = true then some (1, mp, nm) else none) else (if am_in (x2 + 1) 6 = true then (if am_in (x2 + 1) 6 = true then f_M_shorten_L190 fuel ty mh dk mp ml (upd nm (x2 + 1).toNatClampNeg ((nm (x2 + 1).toNatClampNeg) + 1)) x2 else none) else none)))) else none)
set_option maxHeartbeats 4000000 in
set_option maxRecDepth 100000 in
theorem s_M_shorten_L190 {l : Launch} {D : va_G} {dA : FieldType → ClassId} (htr : l.stackTraces = false) {hx : Nat → am_E} {rest : List am_E} {on : Int32} {dd : Int32} {mw : Int32} {cu : Int32} {md : Int32} {op : Nat → Int32} {th : Int32} {sp : Int32} {mf : Int32} {ps : Nat → Int32} {mu : Nat → Int32} {ch : Nat → Int32} {wy : Nat → Int32} {nx : Nat → Int32}  : ∀ (fuel : Nat) (ty : Int32) (mh : Int32) (dk : Nat → Int32) (mp : Int32) (ml : Nat → Int32) (nm : Nat → Int32) (x2 : Int32) (r : Int32 × Int32 × (Nat → Int32)), f_M_shorten_L190 fuel ty mh dk mp ml nm x2 = some r → ∀ o : am_O, .inl (some (.int r.1)) = o →
    am_G (am_kk l D dA) (ws_M_shorten, y_M_shorten.cls, prog_9_method_28_code, 4, (some .boolean), y_M_shorten.name, [], am_rm 5 (o), none) o (hM hx on dd mw cu ty mh md dk op th sp r.2.1 mf ml ps r.2.2 mu ch wy nx rest) 0 0 190 [(0, .ref 18), (2, .int x2)] [] (hM hx on dd mw cu ty mh md dk op th sp mp mf ml ps nm mu ch wy nx rest) := by
  intro fuel
  induction fuel with
  | zero =>
    intro ty mh dk mp ml nm x2 r hf
    cases hf
  | succ fuel ih =>
    intro ty mh dk mp ml nm x2 r hf o ho
    subst ho
    rw [f_M_shorten_L190] at hf
    refine g_aload_n (n := 191) d_M_shorten_190 rfl 0 rfl rfl ?_
    refine g_get (n := 194) (q0 := 18) d_M_shorten_191 rfl (am_fl in_M rfl (by decide : 13 < 20)) (List.mem_cons_of_mem _ tw_878) rfl rfl ?_
    refine g_iload_n (n := 195) d_M_shorten_194 rfl 1 rfl rfl ?_
    refine g_iconst (n := 196) (v := 1) d_M_shorten_195 rfl (by decide) ?_
    refine g_iadd (n := 197) d_M_shorten_196 rfl ?_
    obtain ⟨b10, hf⟩ := ob_chk hf
    refine g_iald (n := 198) (q0 := 23) d_M_shorten_197 rfl rfl (am_inl b10) ?_
    refine g_bipush (n := 200) (v := 57) d_M_shorten_198 rfl (by decide) ?_
    refine g_icmp_gt (n := 203) (tgt := 225) d_M_shorten_200 rfl (by decide) (fun q11 => ?_) (fun q11 => ?_)
    · have hf := ob_pos q11 hf
      refine g_aload_n (n := 226) d_M_shorten_225 rfl 0 rfl rfl ?_
      refine g_get (n := 229) (q0 := 18) d_M_shorten_226 rfl (am_fl in_M rfl (by decide : 13 < 20)) (List.mem_cons_of_mem _ tw_878) rfl rfl ?_
      refine g_iload_n (n := 230) d_M_shorten_229 rfl 1 rfl rfl ?_
      refine g_iconst (n := 231) (v := 1) d_M_shorten_230 rfl (by decide) ?_
      refine g_iadd (n := 232) d_M_shorten_231 rfl ?_
      obtain ⟨b12, hf⟩ := ob_chk hf
      refine g_iald (n := 233) (q0 := 23) d_M_shorten_232 rfl rfl (am_inl b12) ?_
      refine g_bipush (n := 235) (v := 57) d_M_shorten_233 rfl (by decide) ?_
      refine g_icmp_gt (n := 238) (tgt := 242) d_M_shorten_235 rfl (by decide) (fun _ => ?_) (fun q13 => absurd q11 q13)
      refine g_iconst (n := 243) (v := 0) d_M_shorten_242 rfl (by decide) ?_
      cases hf
      exact g_zret d_M_shorten_243 rfl am_z0 (Nat.zero_le _) (Nat.zero_le _)
    · have hf := ob_neg q11 hf
      refine g_aload_n (n := 204) d_M_shorten_203 rfl 0 rfl rfl ?_
      obtain ⟨r14, h15, hf⟩ := ob_bind hf
      refine c_Vr (n := 207) (st' := [.int r14]) [] [] d_M_shorten_204 rfl (s_M_isTaken htr h15 rfl) tw_1009 tw_1011 (am_memS 27 (by decide +kernel) (by decide +kernel)) tw_8 tw_1012 hd_M_isTaken (by omega) (by decide) (ci := 7) rfl rfl rfl (Nat.le_of_ble_eq_true rfl) rfl rfl ?_
      refine g_if_eq (n := 210) (tgt := 225) d_M_shorten_207 rfl (by decide) (fun q16 => ?_) (fun q16 => ?_)
      · have hf := ob_pos q16 hf
        refine g_aload_n (n := 226) d_M_shorten_225 rfl 0 rfl rfl ?_
        refine g_get (n := 229) (q0 := 18) d_M_shorten_226 rfl (am_fl in_M rfl (by decide : 13 < 20)) (List.mem_cons_of_mem _ tw_878) rfl rfl ?_
        refine g_iload_n (n := 230) d_M_shorten_229 rfl 1 rfl rfl ?_
        refine g_iconst (n := 231) (v := 1) d_M_shorten_230 rfl (by decide) ?_
        refine g_iadd (n := 232) d_M_shorten_231 rfl ?_
        obtain ⟨b17, hf⟩ := ob_chk hf
        refine g_iald (n := 233) (q0 := 23) d_M_shorten_232 rfl rfl (am_inl b17) ?_
        refine g_bipush (n := 235) (v := 57) d_M_shorten_233 rfl (by decide) ?_
        refine g_icmp_gt (n := 238) (tgt := 242) d_M_shorten_235 rfl (by decide) (fun q18 => absurd q18 q11) (fun _ => ?_)
        refine g_iconst (n := 239) (v := 1) d_M_shorten_238 rfl (by decide) ?_
        refine g_goto (n := 243) d_M_shorten_239 (by decide) ?_
        cases hf
        exact g_zret d_M_shorten_243 rfl am_z1 (Nat.zero_le _) (Nat.zero_le _)
      · have hf := ob_neg q16 hf
        refine g_aload_n (n := 211) d_M_shorten_210 rfl 0 rfl rfl ?_
        refine g_get (n := 214) (q0 := 18) d_M_shorten_211 rfl (am_fl in_M rfl (by decide : 13 < 20)) (List.mem_cons_of_mem _ tw_878) rfl rfl ?_
        refine g_iload_n (n := 215) d_M_shorten_214 rfl 1 rfl rfl ?_
        refine g_iconst (n := 216) (v := 1) d_M_shorten_215 rfl (by decide) ?_
        refine g_iadd (n := 217) d_M_shorten_216 rfl ?_
        refine g_dup2 (n := 218) d_M_shorten_217 rfl rfl rfl ?_
        obtain ⟨b19, hf⟩ := ob_chk hf
        refine g_iald (n := 219) (q0 := 23) d_M_shorten_218 rfl rfl (am_inl b19) ?_
        refine g_iconst (n := 220) (v := 1) d_M_shorten_219 rfl (by decide) ?_
        refine g_iadd (n := 221) d_M_shorten_220 rfl ?_
        obtain ⟨b20, hf⟩ := ob_chk hf
        refine g_iast (n := 222) (q0 := 23) (h' := (hM hx on dd mw cu ty mh md dk op th sp mp mf ml ps (upd nm (x2 + 1).toNatClampNeg ((nm (x2 + 1).toNatClampNeg) + 1)) mu ch wy nx rest)) d_M_shorten_221 rfl rfl (am_inl b20) rfl ?_
        refine g_goto (n := 190) d_M_shorten_222 (by decide) ?_
        refine g_ls [0, 1] rfl ?_
        exact ih ty mh dk mp ml (upd nm (x2 + 1).toNatClampNeg ((nm (x2 + 1).toNatClampNeg) + 1)) x2 _ hf _ rfl
def f_M_shorten_L79 : Nat → Int32 → Int32 → (Nat → Int32) → Int32 → (Nat → Int32) → (Nat → Int32) → Int32 → Int32 → Int32 → Option (Int32 × Int32 × (Nat → Int32))
  | 0, _, _, _, _, _, _, _, _, _ => none
  | fuel + 1, ty, mh, dk, mp, ml, nm, x1, x2, x3 =>
  (if ty ≤ x3 then (if x1 = 0 then (if ty ≤ 13 then (if am_in x2 6 = true then (if am_in (x2 + 1) 6 = true then f_M_shorten_L190 100000000000 ty mh dk 1 ml (upd (upd nm x2.toNatClampNeg 126) (x2 + 1).toNatClampNeg 49) x2 else none) else none) else (if am_in x2 6 = true then (if am_in (x2 + 1) 6 = true then f_M_shorten_L190 100000000000 ty mh dk 2 ml (upd (upd nm x2.toNatClampNeg 126) (x2 + 1).toNatClampNeg 49) x2 else none) else none)) else some (1, 0, nm)) else (if am_in x3 26 = true then ((f_M_capital (ml x3.toNatClampNeg)).bind fun r26 => ((f_M_isPlain r26).bind fun r28 => (if r28 = 0 then f_M_shorten_L79 fuel ty mh dk mp ml nm x1 x2 (x3 + 1) else (if x1 = 0 then (if 4 ≤ x2 then f_M_shorten_L79 fuel ty mh dk mp ml nm x1 x2 (x3 + 1) else (if am_in x3 26 = true then ((f_M_capital (ml x3.toNatClampNeg)).bind fun r34 => (if am_in x2 6 = true then f_M_shorten_L79 fuel ty mh dk mp ml (upd nm x2.toNatClampNeg r34) x1 (x2 + 1) (x3 + 1) else none)) else none)) else (if 6 ≤ x2 then f_M_shorten_L79 fuel ty mh dk mp ml nm x1 x2 (x3 + 1) else (if am_in x3 26 = true then ((f_M_capital (ml x3.toNatClampNeg)).bind fun r39 => (if am_in x2 6 = true then f_M_shorten_L79 fuel ty mh dk mp ml (upd nm x2.toNatClampNeg r39) x1 (x2 + 1) (x3 + 1) else none)) else none)))))) else none))
set_option maxHeartbeats 4000000 in
set_option maxRecDepth 100000 in
theorem s_M_shorten_L79 {l : Launch} {D : va_G} {dA : FieldType → ClassId} (htr : l.stackTraces = false) {hx : Nat → am_E} {rest : List am_E} {on : Int32} {dd : Int32} {mw : Int32} {cu : Int32} {md : Int32} {op : Nat → Int32} {th : Int32} {sp : Int32} {mf : Int32} {ps : Nat → Int32} {mu : Nat → Int32} {ch : Nat → Int32} {wy : Nat → Int32} {nx : Nat → Int32}  : ∀ (fuel : Nat) (ty : Int32) (mh : Int32) (dk : Nat → Int32) (mp : Int32) (ml : Nat → Int32) (nm : Nat → Int32) (x1 : Int32) (x2 : Int32) (x3 : Int32) (r : Int32 × Int32 × (Nat → Int32)), f_M_shorten_L79 fuel ty mh dk mp ml nm x1 x2 x3 = some r → ∀ o : am_O, .inl (some (.int r.1)) = o →
    am_G (am_kk l D dA) (ws_M_shorten, y_M_shorten.cls, prog_9_method_28_code, 4, (some .boolean), y_M_shorten.name, [], am_rm 5 (o), none) o (hM hx on dd mw cu ty mh md dk op th sp r.2.1 mf ml ps r.2.2 mu ch wy nx rest) 0 0 79 [(0, .ref 18), (1, .int x1), (2, .int x2), (3, .int x3)] [] (hM hx on dd mw cu ty mh md dk op th sp mp mf ml ps nm mu ch wy nx rest) := by
  intro fuel
  induction fuel with
  | zero =>
    intro ty mh dk mp ml nm x1 x2 x3 r hf
    cases hf
  | succ fuel ih =>
    intro ty mh dk mp ml nm x1 x2 x3 r hf o ho
    subst ho
    rw [f_M_shorten_L79] at hf
    refine g_iload_n (n := 80) d_M_shorten_79 rfl 3 rfl rfl ?_
    refine g_aload_n (n := 81) d_M_shorten_80 rfl 0 rfl rfl ?_
    refine g_get (n := 84) (q0 := 18) d_M_shorten_81 rfl (am_fl in_M rfl (by decide : 8 < 20)) (List.mem_cons_of_mem _ tw_873) rfl rfl ?_
    refine g_icmp_ge (n := 87) (tgt := 140) d_M_shorten_84 rfl (by decide) (fun q4 => ?_) (fun q4 => ?_)
    · have hf := ob_pos q4 hf
      refine g_aload_n (n := 141) d_M_shorten_140 rfl 0 rfl rfl ?_
      refine g_iload_n (n := 142) d_M_shorten_141 rfl 1 rfl rfl ?_
      refine g_if_eq (n := 145) (tgt := 149) d_M_shorten_142 rfl (by decide) (fun q5 => ?_) (fun q5 => ?_)
      · have hf := ob_pos q5 hf
        refine g_aload_n (n := 150) d_M_shorten_149 rfl 0 rfl rfl ?_
        refine g_get (n := 153) (q0 := 18) d_M_shorten_150 rfl (am_fl in_M rfl (by decide : 8 < 20)) (List.mem_cons_of_mem _ tw_873) rfl rfl ?_
        refine g_bipush (n := 155) (v := 13) d_M_shorten_153 rfl (by decide) ?_
        refine g_icmp_le (n := 158) (tgt := 162) d_M_shorten_155 rfl (by decide) (fun q6 => ?_) (fun q6 => ?_)
        · have hf := ob_pos q6 hf
          refine g_iconst (n := 163) (v := 1) d_M_shorten_162 rfl (by decide) ?_
          refine g_put (n := 166) (q0 := 18) (h' := (hM hx on dd mw cu ty mh md dk op th sp 1 mf ml ps nm mu ch wy nx rest)) d_M_shorten_163 rfl (am_fl in_M rfl (by decide : 14 < 20)) typ_M (List.mem_cons_of_mem _ tw_879) rfl (fun _ _ => rfl) (fun _ _ => rfl) rfl (am_ltb rfl) rfl ?_
          refine g_iload_n (n := 167) d_M_shorten_166 rfl 1 rfl rfl ?_
          refine g_if_eq (n := 170) (tgt := 172) d_M_shorten_167 rfl (by decide) (fun _ => ?_) (fun q7 => absurd q5 q7)
          refine g_aload_n (n := 173) d_M_shorten_172 rfl 0 rfl rfl ?_
          refine g_get (n := 176) (q0 := 18) d_M_shorten_173 rfl (am_fl in_M rfl (by decide : 13 < 20)) (List.mem_cons_of_mem _ tw_878) rfl rfl ?_
          refine g_iload_n (n := 177) d_M_shorten_176 rfl 2 rfl rfl ?_
          refine g_bipush (n := 179) (v := 126) d_M_shorten_177 rfl (by decide) ?_
          obtain ⟨b8, hf⟩ := ob_chk hf
          refine g_iast (n := 180) (q0 := 23) (h' := (hM hx on dd mw cu ty mh md dk op th sp 1 mf ml ps (upd nm x2.toNatClampNeg 126) mu ch wy nx rest)) d_M_shorten_179 rfl rfl (am_inl b8) rfl ?_
          refine g_aload_n (n := 181) d_M_shorten_180 rfl 0 rfl rfl ?_
          refine g_get (n := 184) (q0 := 18) d_M_shorten_181 rfl (am_fl in_M rfl (by decide : 13 < 20)) (List.mem_cons_of_mem _ tw_878) rfl rfl ?_
          refine g_iload_n (n := 185) d_M_shorten_184 rfl 2 rfl rfl ?_
          refine g_iconst (n := 186) (v := 1) d_M_shorten_185 rfl (by decide) ?_
          refine g_iadd (n := 187) d_M_shorten_186 rfl ?_
          refine g_bipush (n := 189) (v := 49) d_M_shorten_187 rfl (by decide) ?_
          obtain ⟨b9, hf⟩ := ob_chk hf
          refine g_iast (n := 190) (q0 := 23) (h' := (hM hx on dd mw cu ty mh md dk op th sp 1 mf ml ps (upd (upd nm x2.toNatClampNeg 126) (x2 + 1).toNatClampNeg 49) mu ch wy nx rest)) d_M_shorten_189 rfl rfl (am_inl b9) rfl ?_
          refine g_ls [0, 2] rfl ?_
          exact s_M_shorten_L190 htr 100000000000 ty mh dk 1 ml (upd (upd nm x2.toNatClampNeg 126) (x2 + 1).toNatClampNeg 49) x2 _ hf _ rfl
        · have hf := ob_neg q6 hf
          refine g_iconst (n := 159) (v := 2) d_M_shorten_158 rfl (by decide) ?_
          refine g_goto (n := 163) d_M_shorten_159 (by decide) ?_
          refine g_put (n := 166) (q0 := 18) (h' := (hM hx on dd mw cu ty mh md dk op th sp 2 mf ml ps nm mu ch wy nx rest)) d_M_shorten_163 rfl (am_fl in_M rfl (by decide : 14 < 20)) typ_M (List.mem_cons_of_mem _ tw_879) rfl (fun _ _ => rfl) (fun _ _ => rfl) rfl (am_ltb rfl) rfl ?_
          refine g_iload_n (n := 167) d_M_shorten_166 rfl 1 rfl rfl ?_
          refine g_if_eq (n := 170) (tgt := 172) d_M_shorten_167 rfl (by decide) (fun _ => ?_) (fun q21 => absurd q5 q21)
          refine g_aload_n (n := 173) d_M_shorten_172 rfl 0 rfl rfl ?_
          refine g_get (n := 176) (q0 := 18) d_M_shorten_173 rfl (am_fl in_M rfl (by decide : 13 < 20)) (List.mem_cons_of_mem _ tw_878) rfl rfl ?_
          refine g_iload_n (n := 177) d_M_shorten_176 rfl 2 rfl rfl ?_
          refine g_bipush (n := 179) (v := 126) d_M_shorten_177 rfl (by decide) ?_
          obtain ⟨b22, hf⟩ := ob_chk hf
          refine g_iast (n := 180) (q0 := 23) (h' := (hM hx on dd mw cu ty mh md dk op th sp 2 mf ml ps (upd nm x2.toNatClampNeg 126) mu ch wy nx rest)) d_M_shorten_179 rfl rfl (am_inl b22) rfl ?_
          refine g_aload_n (n := 181) d_M_shorten_180 rfl 0 rfl rfl ?_
          refine g_get (n := 184) (q0 := 18) d_M_shorten_181 rfl (am_fl in_M rfl (by decide : 13 < 20)) (List.mem_cons_of_mem _ tw_878) rfl rfl ?_
          refine g_iload_n (n := 185) d_M_shorten_184 rfl 2 rfl rfl ?_
          refine g_iconst (n := 186) (v := 1) d_M_shorten_185 rfl (by decide) ?_
          refine g_iadd (n := 187) d_M_shorten_186 rfl ?_
          refine g_bipush (n := 189) (v := 49) d_M_shorten_187 rfl (by decide) ?_
          obtain ⟨b23, hf⟩ := ob_chk hf
          refine g_iast (n := 190) (q0 := 23) (h' := (hM hx on dd mw cu ty mh md dk op th sp 2 mf ml ps (upd (upd nm x2.toNatClampNeg 126) (x2 + 1).toNatClampNeg 49) mu ch wy nx rest)) d_M_shorten_189 rfl rfl (am_inl b23) rfl ?_
          refine g_ls [0, 2] rfl ?_
          exact s_M_shorten_L190 htr 100000000000 ty mh dk 2 ml (upd (upd nm x2.toNatClampNeg 126) (x2 + 1).toNatClampNeg 49) x2 _ hf _ rfl
      · have hf := ob_neg q5 hf
        refine g_iconst (n := 146) (v := 0) d_M_shorten_145 rfl (by decide) ?_
        refine g_goto (n := 163) d_M_shorten_146 (by decide) ?_
        refine g_put (n := 166) (q0 := 18) (h' := (hM hx on dd mw cu ty mh md dk op th sp 0 mf ml ps nm mu ch wy nx rest)) d_M_shorten_163 rfl (am_fl in_M rfl (by decide : 14 < 20)) typ_M (List.mem_cons_of_mem _ tw_879) rfl (fun _ _ => rfl) (fun _ _ => rfl) rfl (am_ltb rfl) rfl ?_
        refine g_iload_n (n := 167) d_M_shorten_166 rfl 1 rfl rfl ?_
        refine g_if_eq (n := 170) (tgt := 172) d_M_shorten_167 rfl (by decide) (fun q24 => absurd q24 q5) (fun _ => ?_)
        refine g_iconst (n := 171) (v := 1) d_M_shorten_170 rfl (by decide) ?_
        cases hf
        exact g_zret d_M_shorten_171 rfl am_z1 (Nat.zero_le _) (Nat.zero_le _)
    · have hf := ob_neg q4 hf
      refine g_aload_n (n := 88) d_M_shorten_87 rfl 0 rfl rfl ?_
      refine g_get (n := 91) (q0 := 18) d_M_shorten_88 rfl (am_fl in_M rfl (by decide : 7 < 20)) (List.mem_cons_of_mem _ tw_872) rfl rfl ?_
      refine g_iload_n (n := 92) d_M_shorten_91 rfl 3 rfl rfl ?_
      obtain ⟨b25, hf⟩ := ob_chk hf
      refine g_iald (n := 93) (q0 := 20) d_M_shorten_92 rfl rfl (am_inl b25) ?_
      obtain ⟨r26, h27, hf⟩ := ob_bind hf
      refine c_Sr (n := 96) (st' := [.int r26]) [.int (ml x3.toNatClampNeg)] [] d_M_shorten_93 rfl (s_M_capital htr h27 rfl) tw_988 tw_989 tw_8 tw_990 rfl hd_M_capital (by omega) (by decide) rfl (Nat.le_of_ble_eq_true rfl) rfl rfl ?_
      obtain ⟨r28, h29, hf⟩ := ob_bind hf
      refine c_Sr (n := 99) (st' := [.int r28]) [.int r26] [] d_M_shorten_96 rfl (s_M_isPlain htr h29 rfl) tw_1006 tw_1007 tw_8 tw_1008 rfl hd_M_isPlain (by omega) (by decide) rfl (Nat.le_of_ble_eq_true rfl) rfl rfl ?_
      refine g_if_eq (n := 102) (tgt := 134) d_M_shorten_99 rfl (by decide) (fun q30 => ?_) (fun q30 => ?_)
      · have hf := ob_pos q30 hf
        refine g_iinc (n := 137) (v := (x3 + 1)) (ls' := [(3, .int (x3 + 1)), (0, .ref 18), (1, .int x1), (2, .int x2)]) d_M_shorten_134 rfl 3 rfl rfl (am_ltb rfl) rfl ?_
        refine g_goto (n := 79) d_M_shorten_137 (by decide) ?_
        refine g_ls [1, 2, 3, 0] rfl ?_
        exact ih ty mh dk mp ml nm x1 x2 (x3 + 1) _ hf _ rfl
      · have hf := ob_neg q30 hf
        refine g_iload_n (n := 103) d_M_shorten_102 rfl 2 rfl rfl ?_
        refine g_iload_n (n := 104) d_M_shorten_103 rfl 1 rfl rfl ?_
        refine g_if_eq (n := 107) (tgt := 112) d_M_shorten_104 rfl (by decide) (fun q31 => ?_) (fun q31 => ?_)
        · have hf := ob_pos q31 hf
          refine g_iconst (n := 113) (v := 4) d_M_shorten_112 rfl (by decide) ?_
          refine g_icmp_ge (n := 116) (tgt := 134) d_M_shorten_113 rfl (by decide) (fun q32 => ?_) (fun q32 => ?_)
          · have hf := ob_pos q32 hf
            refine g_iinc (n := 137) (v := (x3 + 1)) (ls' := [(3, .int (x3 + 1)), (0, .ref 18), (1, .int x1), (2, .int x2)]) d_M_shorten_134 rfl 3 rfl rfl (am_ltb rfl) rfl ?_
            refine g_goto (n := 79) d_M_shorten_137 (by decide) ?_
            refine g_ls [1, 2, 3, 0] rfl ?_
            exact ih ty mh dk mp ml nm x1 x2 (x3 + 1) _ hf _ rfl
          · have hf := ob_neg q32 hf
            refine g_aload_n (n := 117) d_M_shorten_116 rfl 0 rfl rfl ?_
            refine g_get (n := 120) (q0 := 18) d_M_shorten_117 rfl (am_fl in_M rfl (by decide : 13 < 20)) (List.mem_cons_of_mem _ tw_878) rfl rfl ?_
            refine g_iload_n (n := 121) d_M_shorten_120 rfl 2 rfl rfl ?_
            refine g_aload_n (n := 122) d_M_shorten_121 rfl 0 rfl rfl ?_
            refine g_get (n := 125) (q0 := 18) d_M_shorten_122 rfl (am_fl in_M rfl (by decide : 7 < 20)) (List.mem_cons_of_mem _ tw_872) rfl rfl ?_
            refine g_iload_n (n := 126) d_M_shorten_125 rfl 3 rfl rfl ?_
            obtain ⟨b33, hf⟩ := ob_chk hf
            refine g_iald (n := 127) (q0 := 20) d_M_shorten_126 rfl rfl (am_inl b33) ?_
            obtain ⟨r34, h35, hf⟩ := ob_bind hf
            refine c_Sr (n := 130) (st' := [.int r34, .int x2, .ref 23]) [.int (ml x3.toNatClampNeg)] [.int x2, .ref 23] d_M_shorten_127 rfl (s_M_capital htr h35 rfl) tw_988 tw_989 tw_8 tw_990 rfl hd_M_capital (by omega) (by decide) rfl (Nat.le_of_ble_eq_true rfl) rfl rfl ?_
            obtain ⟨b36, hf⟩ := ob_chk hf
            refine g_iast (n := 131) (q0 := 23) (h' := (hM hx on dd mw cu ty mh md dk op th sp mp mf ml ps (upd nm x2.toNatClampNeg r34) mu ch wy nx rest)) d_M_shorten_130 rfl rfl (am_inl b36) rfl ?_
            refine g_iinc (n := 134) (v := (x2 + 1)) (ls' := [(2, .int (x2 + 1)), (0, .ref 18), (1, .int x1), (3, .int x3)]) d_M_shorten_131 rfl 2 rfl rfl (am_ltb rfl) rfl ?_
            refine g_iinc (n := 137) (v := (x3 + 1)) (ls' := [(3, .int (x3 + 1)), (2, .int (x2 + 1)), (0, .ref 18), (1, .int x1)]) d_M_shorten_134 rfl 3 rfl rfl (am_ltb rfl) rfl ?_
            refine g_goto (n := 79) d_M_shorten_137 (by decide) ?_
            refine g_ls [2, 3, 1, 0] rfl ?_
            exact ih ty mh dk mp ml (upd nm x2.toNatClampNeg r34) x1 (x2 + 1) (x3 + 1) _ hf _ rfl
        · have hf := ob_neg q31 hf
          refine g_bipush (n := 109) (v := 6) d_M_shorten_107 rfl (by decide) ?_
          refine g_goto (n := 113) d_M_shorten_109 (by decide) ?_
          refine g_icmp_ge (n := 116) (tgt := 134) d_M_shorten_113 rfl (by decide) (fun q37 => ?_) (fun q37 => ?_)
          · have hf := ob_pos q37 hf
            refine g_iinc (n := 137) (v := (x3 + 1)) (ls' := [(3, .int (x3 + 1)), (0, .ref 18), (1, .int x1), (2, .int x2)]) d_M_shorten_134 rfl 3 rfl rfl (am_ltb rfl) rfl ?_
            refine g_goto (n := 79) d_M_shorten_137 (by decide) ?_
            refine g_ls [1, 2, 3, 0] rfl ?_
            exact ih ty mh dk mp ml nm x1 x2 (x3 + 1) _ hf _ rfl
          · have hf := ob_neg q37 hf
            refine g_aload_n (n := 117) d_M_shorten_116 rfl 0 rfl rfl ?_
            refine g_get (n := 120) (q0 := 18) d_M_shorten_117 rfl (am_fl in_M rfl (by decide : 13 < 20)) (List.mem_cons_of_mem _ tw_878) rfl rfl ?_
            refine g_iload_n (n := 121) d_M_shorten_120 rfl 2 rfl rfl ?_
            refine g_aload_n (n := 122) d_M_shorten_121 rfl 0 rfl rfl ?_
            refine g_get (n := 125) (q0 := 18) d_M_shorten_122 rfl (am_fl in_M rfl (by decide : 7 < 20)) (List.mem_cons_of_mem _ tw_872) rfl rfl ?_
            refine g_iload_n (n := 126) d_M_shorten_125 rfl 3 rfl rfl ?_
            obtain ⟨b38, hf⟩ := ob_chk hf
            refine g_iald (n := 127) (q0 := 20) d_M_shorten_126 rfl rfl (am_inl b38) ?_
            obtain ⟨r39, h40, hf⟩ := ob_bind hf
            refine c_Sr (n := 130) (st' := [.int r39, .int x2, .ref 23]) [.int (ml x3.toNatClampNeg)] [.int x2, .ref 23] d_M_shorten_127 rfl (s_M_capital htr h40 rfl) tw_988 tw_989 tw_8 tw_990 rfl hd_M_capital (by omega) (by decide) rfl (Nat.le_of_ble_eq_true rfl) rfl rfl ?_
            obtain ⟨b41, hf⟩ := ob_chk hf
            refine g_iast (n := 131) (q0 := 23) (h' := (hM hx on dd mw cu ty mh md dk op th sp mp mf ml ps (upd nm x2.toNatClampNeg r39) mu ch wy nx rest)) d_M_shorten_130 rfl rfl (am_inl b41) rfl ?_
            refine g_iinc (n := 134) (v := (x2 + 1)) (ls' := [(2, .int (x2 + 1)), (0, .ref 18), (1, .int x1), (3, .int x3)]) d_M_shorten_131 rfl 2 rfl rfl (am_ltb rfl) rfl ?_
            refine g_iinc (n := 137) (v := (x3 + 1)) (ls' := [(3, .int (x3 + 1)), (2, .int (x2 + 1)), (0, .ref 18), (1, .int x1)]) d_M_shorten_134 rfl 3 rfl rfl (am_ltb rfl) rfl ?_
            refine g_goto (n := 79) d_M_shorten_137 (by decide) ?_
            refine g_ls [2, 3, 1, 0] rfl ?_
            exact ih ty mh dk mp ml (upd nm x2.toNatClampNeg r39) x1 (x2 + 1) (x3 + 1) _ hf _ rfl
def f_M_shorten_L57 : Nat → Int32 → Int32 → (Nat → Int32) → Int32 → (Nat → Int32) → (Nat → Int32) → Int32 → Int32 → Int32 → Option (Int32 × Int32 × (Nat → Int32))
  | 0, _, _, _, _, _, _, _, _, _ => none
  | fuel + 1, ty, mh, dk, mp, ml, nm, x1, x2, x3 =>
  (if 6 ≤ x3 then f_M_shorten_L79 100000000000 ty mh dk mp ml nm x1 x2 0 else (if am_in x3 6 = true then f_M_shorten_L57 fuel ty mh dk mp ml (upd nm x3.toNatClampNeg 32) x1 x2 (x3 + 1) else none))
set_option maxHeartbeats 4000000 in
set_option maxRecDepth 100000 in
theorem s_M_shorten_L57 {l : Launch} {D : va_G} {dA : FieldType → ClassId} (htr : l.stackTraces = false) {hx : Nat → am_E} {rest : List am_E} {on : Int32} {dd : Int32} {mw : Int32} {cu : Int32} {md : Int32} {op : Nat → Int32} {th : Int32} {sp : Int32} {mf : Int32} {ps : Nat → Int32} {mu : Nat → Int32} {ch : Nat → Int32} {wy : Nat → Int32} {nx : Nat → Int32}  : ∀ (fuel : Nat) (ty : Int32) (mh : Int32) (dk : Nat → Int32) (mp : Int32) (ml : Nat → Int32) (nm : Nat → Int32) (x1 : Int32) (x2 : Int32) (x3 : Int32) (r : Int32 × Int32 × (Nat → Int32)), f_M_shorten_L57 fuel ty mh dk mp ml nm x1 x2 x3 = some r → ∀ o : am_O, .inl (some (.int r.1)) = o →
    am_G (am_kk l D dA) (ws_M_shorten, y_M_shorten.cls, prog_9_method_28_code, 4, (some .boolean), y_M_shorten.name, [], am_rm 5 (o), none) o (hM hx on dd mw cu ty mh md dk op th sp r.2.1 mf ml ps r.2.2 mu ch wy nx rest) 0 0 57 [(0, .ref 18), (1, .int x1), (2, .int x2), (3, .int x3)] [] (hM hx on dd mw cu ty mh md dk op th sp mp mf ml ps nm mu ch wy nx rest) := by
  intro fuel
  induction fuel with
  | zero =>
    intro ty mh dk mp ml nm x1 x2 x3 r hf
    cases hf
  | succ fuel ih =>
    intro ty mh dk mp ml nm x1 x2 x3 r hf o ho
    subst ho
    rw [f_M_shorten_L57] at hf
    refine g_iload_n (n := 58) d_M_shorten_57 rfl 3 rfl rfl ?_
    refine g_bipush (n := 60) (v := 6) d_M_shorten_58 rfl (by decide) ?_
    refine g_icmp_ge (n := 63) (tgt := 77) d_M_shorten_60 rfl (by decide) (fun q3 => ?_) (fun q3 => ?_)
    · have hf := ob_pos q3 hf
      refine g_iconst (n := 78) (v := 0) d_M_shorten_77 rfl (by decide) ?_
      refine g_istore_n (n := 79) (ls' := [(3, .int 0), (0, .ref 18), (1, .int x1), (2, .int x2)]) d_M_shorten_78 rfl rfl (am_ltb rfl) rfl ?_
      refine g_ls [1, 2, 3, 0] rfl ?_
      exact s_M_shorten_L79 htr 100000000000 ty mh dk mp ml nm x1 x2 0 _ hf _ rfl
    · have hf := ob_neg q3 hf
      refine g_aload_n (n := 64) d_M_shorten_63 rfl 0 rfl rfl ?_
      refine g_get (n := 67) (q0 := 18) d_M_shorten_64 rfl (am_fl in_M rfl (by decide : 13 < 20)) (List.mem_cons_of_mem _ tw_878) rfl rfl ?_
      refine g_iload_n (n := 68) d_M_shorten_67 rfl 3 rfl rfl ?_
      refine g_bipush (n := 70) (v := 32) d_M_shorten_68 rfl (by decide) ?_
      obtain ⟨b42, hf⟩ := ob_chk hf
      refine g_iast (n := 71) (q0 := 23) (h' := (hM hx on dd mw cu ty mh md dk op th sp mp mf ml ps (upd nm x3.toNatClampNeg 32) mu ch wy nx rest)) d_M_shorten_70 rfl rfl (am_inl b42) rfl ?_
      refine g_iinc (n := 74) (v := (x3 + 1)) (ls' := [(3, .int (x3 + 1)), (0, .ref 18), (1, .int x1), (2, .int x2)]) d_M_shorten_71 rfl 3 rfl rfl (am_ltb rfl) rfl ?_
      refine g_goto (n := 57) d_M_shorten_74 (by decide) ?_
      refine g_ls [1, 2, 3, 0] rfl ?_
      exact ih ty mh dk mp ml (upd nm x3.toNatClampNeg 32) x1 x2 (x3 + 1) _ hf _ rfl
def f_M_shorten_L19 : Nat → Int32 → Int32 → (Nat → Int32) → Int32 → (Nat → Int32) → (Nat → Int32) → Int32 → Int32 → Int32 → Option (Int32 × Int32 × (Nat → Int32))
  | 0, _, _, _, _, _, _, _, _, _ => none
  | fuel + 1, ty, mh, dk, mp, ml, nm, x1, x2, x3 =>
  (if ty ≤ x3 then f_M_shorten_L57 100000000000 ty mh dk mp ml nm x1 x2 0 else (if x1 = 0 then f_M_shorten_L19 fuel ty mh dk mp ml nm 0 x2 (x3 + 1) else (if am_in x3 26 = true then ((f_M_isPlain (ml x3.toNatClampNeg)).bind fun r45 => (if r45 = 0 then f_M_shorten_L19 fuel ty mh dk mp ml nm 0 x2 (x3 + 1) else f_M_shorten_L19 fuel ty mh dk mp ml nm 1 x2 (x3 + 1))) else none)))
set_option maxHeartbeats 4000000 in
set_option maxRecDepth 100000 in
theorem s_M_shorten_L19 {l : Launch} {D : va_G} {dA : FieldType → ClassId} (htr : l.stackTraces = false) {hx : Nat → am_E} {rest : List am_E} {on : Int32} {dd : Int32} {mw : Int32} {cu : Int32} {md : Int32} {op : Nat → Int32} {th : Int32} {sp : Int32} {mf : Int32} {ps : Nat → Int32} {mu : Nat → Int32} {ch : Nat → Int32} {wy : Nat → Int32} {nx : Nat → Int32}  : ∀ (fuel : Nat) (ty : Int32) (mh : Int32) (dk : Nat → Int32) (mp : Int32) (ml : Nat → Int32) (nm : Nat → Int32) (x1 : Int32) (x2 : Int32) (x3 : Int32) (r : Int32 × Int32 × (Nat → Int32)), f_M_shorten_L19 fuel ty mh dk mp ml nm x1 x2 x3 = some r → ∀ o : am_O, .inl (some (.int r.1)) = o →
    am_G (am_kk l D dA) (ws_M_shorten, y_M_shorten.cls, prog_9_method_28_code, 4, (some .boolean), y_M_shorten.name, [], am_rm 5 (o), none) o (hM hx on dd mw cu ty mh md dk op th sp r.2.1 mf ml ps r.2.2 mu ch wy nx rest) 0 0 19 [(0, .ref 18), (1, .int x1), (2, .int x2), (3, .int x3)] [] (hM hx on dd mw cu ty mh md dk op th sp mp mf ml ps nm mu ch wy nx rest) := by
  intro fuel
  induction fuel with
  | zero =>
    intro ty mh dk mp ml nm x1 x2 x3 r hf
    cases hf
  | succ fuel ih =>
    intro ty mh dk mp ml nm x1 x2 x3 r hf o ho
    subst ho
    rw [f_M_shorten_L19] at hf
    refine g_iload_n (n := 20) d_M_shorten_19 rfl 3 rfl rfl ?_
    refine g_aload_n (n := 21) d_M_shorten_20 rfl 0 rfl rfl ?_
    refine g_get (n := 24) (q0 := 18) d_M_shorten_21 rfl (am_fl in_M rfl (by decide : 8 < 20)) (List.mem_cons_of_mem _ tw_873) rfl rfl ?_
    refine g_icmp_ge (n := 27) (tgt := 55) d_M_shorten_24 rfl (by decide) (fun q2 => ?_) (fun q2 => ?_)
    · have hf := ob_pos q2 hf
      refine g_iconst (n := 56) (v := 0) d_M_shorten_55 rfl (by decide) ?_
      refine g_istore_n (n := 57) (ls' := [(3, .int 0), (0, .ref 18), (1, .int x1), (2, .int x2)]) d_M_shorten_56 rfl rfl (am_ltb rfl) rfl ?_
      refine g_ls [1, 2, 3, 0] rfl ?_
      exact s_M_shorten_L57 htr 100000000000 ty mh dk mp ml nm x1 x2 0 _ hf _ rfl
    · have hf := ob_neg q2 hf
      refine g_iload_n (n := 28) d_M_shorten_27 rfl 1 rfl rfl ?_
      refine g_if_eq (n := 31) (tgt := 47) d_M_shorten_28 rfl (by decide) (fun q43 => ?_) (fun q43 => ?_)
      · have hf := ob_pos q43 hf
        refine g_iconst (n := 48) (v := 0) d_M_shorten_47 rfl (by decide) ?_
        refine g_istore_n (n := 49) (ls' := [(1, .int 0), (0, .ref 18), (2, .int x2), (3, .int x3)]) d_M_shorten_48 rfl rfl (am_ltb rfl) rfl ?_
        refine g_iinc (n := 52) (v := (x3 + 1)) (ls' := [(3, .int (x3 + 1)), (1, .int 0), (0, .ref 18), (2, .int x2)]) d_M_shorten_49 rfl 3 rfl rfl (am_ltb rfl) rfl ?_
        refine g_goto (n := 19) d_M_shorten_52 (by decide) ?_
        refine g_ls [2, 1, 3, 0] rfl ?_
        exact ih ty mh dk mp ml nm 0 x2 (x3 + 1) _ hf _ rfl
      · have hf := ob_neg q43 hf
        refine g_aload_n (n := 32) d_M_shorten_31 rfl 0 rfl rfl ?_
        refine g_get (n := 35) (q0 := 18) d_M_shorten_32 rfl (am_fl in_M rfl (by decide : 7 < 20)) (List.mem_cons_of_mem _ tw_872) rfl rfl ?_
        refine g_iload_n (n := 36) d_M_shorten_35 rfl 3 rfl rfl ?_
        obtain ⟨b44, hf⟩ := ob_chk hf
        refine g_iald (n := 37) (q0 := 20) d_M_shorten_36 rfl rfl (am_inl b44) ?_
        obtain ⟨r45, h46, hf⟩ := ob_bind hf
        refine c_Sr (n := 40) (st' := [.int r45]) [.int (ml x3.toNatClampNeg)] [] d_M_shorten_37 rfl (s_M_isPlain htr h46 rfl) tw_1006 tw_1007 tw_8 tw_1008 rfl hd_M_isPlain (by omega) (by decide) rfl (Nat.le_of_ble_eq_true rfl) rfl rfl ?_
        refine g_if_eq (n := 43) (tgt := 47) d_M_shorten_40 rfl (by decide) (fun q47 => ?_) (fun q47 => ?_)
        · have hf := ob_pos q47 hf
          refine g_iconst (n := 48) (v := 0) d_M_shorten_47 rfl (by decide) ?_
          refine g_istore_n (n := 49) (ls' := [(1, .int 0), (0, .ref 18), (2, .int x2), (3, .int x3)]) d_M_shorten_48 rfl rfl (am_ltb rfl) rfl ?_
          refine g_iinc (n := 52) (v := (x3 + 1)) (ls' := [(3, .int (x3 + 1)), (1, .int 0), (0, .ref 18), (2, .int x2)]) d_M_shorten_49 rfl 3 rfl rfl (am_ltb rfl) rfl ?_
          refine g_goto (n := 19) d_M_shorten_52 (by decide) ?_
          refine g_ls [2, 1, 3, 0] rfl ?_
          exact ih ty mh dk mp ml nm 0 x2 (x3 + 1) _ hf _ rfl
        · have hf := ob_neg q47 hf
          refine g_iconst (n := 44) (v := 1) d_M_shorten_43 rfl (by decide) ?_
          refine g_goto (n := 48) d_M_shorten_44 (by decide) ?_
          refine g_istore_n (n := 49) (ls' := [(1, .int 1), (0, .ref 18), (2, .int x2), (3, .int x3)]) d_M_shorten_48 rfl rfl (am_ltb rfl) rfl ?_
          refine g_iinc (n := 52) (v := (x3 + 1)) (ls' := [(3, .int (x3 + 1)), (1, .int 1), (0, .ref 18), (2, .int x2)]) d_M_shorten_49 rfl 3 rfl rfl (am_ltb rfl) rfl ?_
          refine g_goto (n := 19) d_M_shorten_52 (by decide) ?_
          refine g_ls [2, 1, 3, 0] rfl ?_
          exact ih ty mh dk mp ml nm 1 x2 (x3 + 1) _ hf _ rfl
