set_option maxHeartbeats 4000000 in
set_option maxRecDepth 100000 in
theorem s_M_cut {l : Launch} {D : va_G} {dA : FieldType → ClassId} (htr : l.stackTraces = false) {hx : Nat → am_E} {rest : List am_E} {on : Int32} {dd : Int32} {mw : Int32} {cu : Int32} {ty : Int32} {mh : Int32} {md : Int32} {dk : Nat → Int32} {op : Nat → Int32} {th : Int32} {sp : Int32} {mp : Int32} {mf : Int32} {ml : Nat → Int32} {ps : Nat → Int32} {nm : Nat → Int32} {mu : Nat → Int32} {ch : Nat → Int32} {wy : Nat → Int32} {nx : Nat → Int32}  {x1 : Int32} {r : Int32 × Int32 × Int32} (hf : f_M_cut on cu th x1 = some r) {o : am_O} (ho : .inl (some (.int r.1)) = o) :
    am_M (am_kk l D dA) y_M_cut ws_M_cut (am_rm 0 o) [.ref 18, .int x1] (hM hx on dd mw cu ty mh md dk op th sp mp mf ml ps nm mu ch wy nx rest) o (hM hx on dd mw r.2.1 ty mh md dk op r.2.2 sp mp mf ml ps nm mu ch wy nx rest) := by
  subst ho
  refine am_body (by decide) rfl (Nat.le_of_ble_eq_true rfl) rfl ?_
  rw [f_M_cut] at hf
  refine g_aload_n (n := 1) d_M_cut_0 rfl 0 rfl rfl ?_
  refine g_iconst (n := 2) (v := 0) d_M_cut_1 rfl (by decide) ?_
  refine g_put (n := 5) (q0 := 18) (h' := (hM hx on dd mw cu ty mh md dk op 0 sp mp mf ml ps nm mu ch wy nx rest)) d_M_cut_2 rfl (am_fl in_M rfl (by decide : 0 < 20)) typ_M (List.mem_cons_of_mem _ tw_865) rfl (fun _ _ => rfl) (fun _ _ => rfl) rfl (am_ltb rfl) rfl ?_
  refine g_iload_n (n := 6) d_M_cut_5 rfl 1 rfl rfl ?_
  refine g_if_lt (n := 9) (tgt := 16) d_M_cut_6 rfl (by decide) (fun q1 => ?_) (fun q1 => ?_)
  · have hf := ob_pos q1 hf
    refine g_iconst (n := 17) (v := 0) d_M_cut_16 rfl (by decide) ?_
    cases hf
    exact g_zret d_M_cut_17 rfl am_z0 (Nat.zero_le _) (Nat.zero_le _)
  · have hf := ob_neg q1 hf
    refine g_aload_n (n := 10) d_M_cut_9 rfl 0 rfl rfl ?_
    refine g_get (n := 13) (q0 := 18) d_M_cut_10 rfl (am_fl in_M rfl (by decide : 2 < 20)) (List.mem_cons_of_mem _ tw_867) rfl rfl ?_
    refine g_if_ne (n := 16) (tgt := 18) d_M_cut_13 rfl (by decide) (fun q2 => ?_) (fun q2 => ?_)
    · have hf := ob_neg q2 hf
      refine g_aload_n (n := 19) d_M_cut_18 rfl 0 rfl rfl ?_
      refine g_iload_n (n := 20) d_M_cut_19 rfl 1 rfl rfl ?_
      refine g_put (n := 23) (q0 := 18) (h' := (hM hx on dd mw x1 ty mh md dk op 0 sp mp mf ml ps nm mu ch wy nx rest)) d_M_cut_20 rfl (am_fl in_M rfl (by decide : 6 < 20)) typ_M (List.mem_cons_of_mem _ tw_871) rfl (fun _ _ => rfl) (fun _ _ => rfl) rfl (am_ltb rfl) rfl ?_
      refine g_iconst (n := 24) (v := 1) d_M_cut_23 rfl (by decide) ?_
      cases hf
      exact g_zret d_M_cut_24 rfl am_z1 (Nat.zero_le _) (Nat.zero_le _)
    · have hf := ob_pos q2 hf
      refine g_iconst (n := 17) (v := 0) d_M_cut_16 rfl (by decide) ?_
      cases hf
      exact g_zret d_M_cut_17 rfl am_z0 (Nat.zero_le _) (Nat.zero_le _)
def f_M_power (on : Int32) (th : Int32) : Option (Int32 × Int32 × Int32) :=
  (if on = 0 then some (1, 1, 0) else some (0, on, 0))
set_option maxHeartbeats 4000000 in
set_option maxRecDepth 100000 in
theorem s_M_power {l : Launch} {D : va_G} {dA : FieldType → ClassId} (htr : l.stackTraces = false) {hx : Nat → am_E} {rest : List am_E} {on : Int32} {dd : Int32} {mw : Int32} {cu : Int32} {ty : Int32} {mh : Int32} {md : Int32} {dk : Nat → Int32} {op : Nat → Int32} {th : Int32} {sp : Int32} {mp : Int32} {mf : Int32} {ml : Nat → Int32} {ps : Nat → Int32} {nm : Nat → Int32} {mu : Nat → Int32} {ch : Nat → Int32} {wy : Nat → Int32} {nx : Nat → Int32}   {r : Int32 × Int32 × Int32} (hf : f_M_power on th = some r) {o : am_O} (ho : .inl (some (.int r.1)) = o) :
    am_M (am_kk l D dA) y_M_power ws_M_power (am_rm 0 o) [.ref 18] (hM hx on dd mw cu ty mh md dk op th sp mp mf ml ps nm mu ch wy nx rest) o (hM hx r.2.1 dd mw cu ty mh md dk op r.2.2 sp mp mf ml ps nm mu ch wy nx rest) := by
  subst ho
  refine am_body (by decide) rfl (Nat.le_of_ble_eq_true rfl) rfl ?_
  rw [f_M_power] at hf
  refine g_aload_n (n := 1) d_M_power_0 rfl 0 rfl rfl ?_
  refine g_iconst (n := 2) (v := 0) d_M_power_1 rfl (by decide) ?_
  refine g_put (n := 5) (q0 := 18) (h' := (hM hx on dd mw cu ty mh md dk op 0 sp mp mf ml ps nm mu ch wy nx rest)) d_M_power_2 rfl (am_fl in_M rfl (by decide : 0 < 20)) typ_M (List.mem_cons_of_mem _ tw_865) rfl (fun _ _ => rfl) (fun _ _ => rfl) rfl (am_ltb rfl) rfl ?_
  refine g_aload_n (n := 6) d_M_power_5 rfl 0 rfl rfl ?_
  refine g_get (n := 9) (q0 := 18) d_M_power_6 rfl (am_fl in_M rfl (by decide : 2 < 20)) (List.mem_cons_of_mem _ tw_867) rfl rfl ?_
  refine g_if_eq (n := 12) (tgt := 14) d_M_power_9 rfl (by decide) (fun q1 => ?_) (fun q1 => ?_)
  · have hf := ob_pos q1 hf
    refine g_aload_n (n := 15) d_M_power_14 rfl 0 rfl rfl ?_
    refine g_iconst (n := 16) (v := 1) d_M_power_15 rfl (by decide) ?_
    refine g_put (n := 19) (q0 := 18) (h' := (hM hx 1 dd mw cu ty mh md dk op 0 sp mp mf ml ps nm mu ch wy nx rest)) d_M_power_16 rfl (am_fl in_M rfl (by decide : 2 < 20)) typ_M (List.mem_cons_of_mem _ tw_867) rfl (fun _ _ => rfl) (fun _ _ => rfl) rfl (am_ltb rfl) rfl ?_
    refine g_iconst (n := 20) (v := 1) d_M_power_19 rfl (by decide) ?_
    cases hf
    exact g_zret d_M_power_20 rfl am_z1 (Nat.zero_le _) (Nat.zero_le _)
  · have hf := ob_neg q1 hf
    refine g_iconst (n := 13) (v := 0) d_M_power_12 rfl (by decide) ?_
    cases hf
    exact g_zret d_M_power_13 rfl am_z0 (Nat.zero_le _) (Nat.zero_le _)
def f_M_fix (w : am_MS) (mf : Int32) (x1 : Int32) (x2 : Int32) : Option (am_MS × Int32) :=
  ((f_M_set w x1 x2).bind fun r1 => some (r1, (mf + 1)))
set_option maxHeartbeats 4000000 in
set_option maxRecDepth 100000 in
theorem s_M_fix {l : Launch} {D : va_G} {dA : FieldType → ClassId} (htr : l.stackTraces = false) {hx : Nat → am_E} {rest : List am_E} {th : Int32} {sp : Int32} {mp : Int32} {mf : Int32} {ml : Nat → Int32} {ps : Nat → Int32} {nm : Nat → Int32} {mu : Nat → Int32} {ch : Nat → Int32} {wy : Nat → Int32} {nx : Nat → Int32} {w : am_MS} {x1 : Int32} {x2 : Int32} {r : am_MS × Int32} (hf : f_M_fix w mf x1 x2 = some r) {o : am_O} (ho : .inl none = o) :
    am_M (am_kk l D dA) y_M_fix ws_M_fix (am_rm 3 o) [.ref 18, .int x1, .int x2] (hM hx w.1 w.2.1 w.2.2.1 w.2.2.2.1 w.2.2.2.2.1 w.2.2.2.2.2.1 w.2.2.2.2.2.2.1 w.2.2.2.2.2.2.2.1 w.2.2.2.2.2.2.2.2 th sp mp mf ml ps nm mu ch wy nx rest) o (hM hx r.1.1 r.1.2.1 r.1.2.2.1 r.1.2.2.2.1 r.1.2.2.2.2.1 r.1.2.2.2.2.2.1 r.1.2.2.2.2.2.2.1 r.1.2.2.2.2.2.2.2.1 r.1.2.2.2.2.2.2.2.2 th sp mp r.2 ml ps nm mu ch wy nx rest) := by
  subst ho
  refine am_body (by decide) rfl (Nat.le_of_ble_eq_true rfl) rfl ?_
  rw [f_M_fix] at hf
  refine g_aload_n (n := 1) d_M_fix_0 rfl 0 rfl rfl ?_
  refine g_iload_n (n := 2) d_M_fix_1 rfl 1 rfl rfl ?_
  refine g_iload_n (n := 3) d_M_fix_2 rfl 2 rfl rfl ?_
  obtain ⟨r1, h2, hf⟩ := ob_bind hf
  refine c_Vr (n := 6) (st' := []) [.int x1, .int x2] [] d_M_fix_3 rfl (s_M_set htr h2 rfl) tw_1021 tw_1023 (am_memS 30 (by decide +kernel) (by decide +kernel)) tw_8 tw_1024 hd_M_set (by omega) (by decide) (ci := 7) rfl rfl rfl (Nat.le_of_ble_eq_true rfl) rfl rfl ?_
  refine g_aload_n (n := 7) d_M_fix_6 rfl 0 rfl rfl ?_
  refine g_dup (n := 8) d_M_fix_7 rfl rfl ?_
  refine g_get (n := 11) (q0 := 18) d_M_fix_8 rfl (am_fl in_M rfl (by decide : 19 < 20)) (List.mem_cons_of_mem _ tw_884) rfl rfl ?_
  refine g_iconst (n := 12) (v := 1) d_M_fix_11 rfl (by decide) ?_
  refine g_iadd (n := 13) d_M_fix_12 rfl ?_
  refine g_put (n := 16) (q0 := 18) (h' := (hM hx r1.1 r1.2.1 r1.2.2.1 r1.2.2.2.1 r1.2.2.2.2.1 r1.2.2.2.2.2.1 r1.2.2.2.2.2.2.1 r1.2.2.2.2.2.2.2.1 r1.2.2.2.2.2.2.2.2 th sp mp (mf + 1) ml ps nm mu ch wy nx rest)) d_M_fix_13 rfl (am_fl in_M rfl (by decide : 19 < 20)) typ_M (List.mem_cons_of_mem _ tw_884) rfl (fun _ _ => rfl) (fun _ _ => rfl) rfl (am_ltb rfl) rfl ?_
  cases hf
  exact g_vret d_M_fix_16 rfl (Nat.zero_le _) (Nat.zero_le _)
def f_M_mendTables_L61 : Nat → am_MS → Int32 → Int32 → Option (am_MS × Int32)
  | 0, _, _, _ => none
  | fuel + 1, w, mf, x1 =>
  (if 64 ≤ x1 then some (w, mf) else (if w.2.1 = 0 then ((f_M_cell w.2.2.2.2.2.2.2.1 x1).bind fun r4 => (if 2 ≤ x1 then (if r4 = 1 then ((f_M_fix w mf x1 65535).bind fun r8 => f_M_mendTables_L61 fuel r8.1 r8.2 (x1 + 1)) else ((f_M_in r4 64 65534).bind fun r10 => (if r10 = 0 then f_M_mendTables_L61 fuel w mf (x1 + 1) else ((f_M_fix w mf x1 65535).bind fun r13 => f_M_mendTables_L61 fuel r13.1 r13.2 (x1 + 1))))) else (if r4 = 65535 then f_M_mendTables_L61 fuel w mf (x1 + 1) else ((f_M_fix w mf x1 65535).bind fun r16 => f_M_mendTables_L61 fuel r16.1 r16.2 (x1 + 1))))) else some (w, mf)))
set_option maxHeartbeats 4000000 in
set_option maxRecDepth 100000 in
theorem s_M_mendTables_L61 {l : Launch} {D : va_G} {dA : FieldType → ClassId} (htr : l.stackTraces = false) {hx : Nat → am_E} {rest : List am_E} {th : Int32} {sp : Int32} {mp : Int32} {ml : Nat → Int32} {ps : Nat → Int32} {nm : Nat → Int32} {mu : Nat → Int32} {ch : Nat → Int32} {wy : Nat → Int32} {nx : Nat → Int32}  : ∀ (fuel : Nat) (w : am_MS) (mf : Int32) (x1 : Int32) (r : am_MS × Int32), f_M_mendTables_L61 fuel w mf x1 = some r → ∀ o : am_O, .inl none = o →
    am_G (am_kk l D dA) (ws_M_mendTables, y_M_mendTables.cls, prog_9_method_54_code, 3, none, y_M_mendTables.name, [], am_rm 4 (o), none) o (hM hx r.1.1 r.1.2.1 r.1.2.2.1 r.1.2.2.2.1 r.1.2.2.2.2.1 r.1.2.2.2.2.2.1 r.1.2.2.2.2.2.2.1 r.1.2.2.2.2.2.2.2.1 r.1.2.2.2.2.2.2.2.2 th sp mp r.2 ml ps nm mu ch wy nx rest) 0 0 61 [(0, .ref 18), (1, .int x1)] [] (hM hx w.1 w.2.1 w.2.2.1 w.2.2.2.1 w.2.2.2.2.1 w.2.2.2.2.2.1 w.2.2.2.2.2.2.1 w.2.2.2.2.2.2.2.1 w.2.2.2.2.2.2.2.2 th sp mp mf ml ps nm mu ch wy nx rest) := by
  intro fuel
  induction fuel with
  | zero =>
    intro w mf x1 r hf
    cases hf
  | succ fuel ih =>
    intro w mf x1 r hf o ho
    subst ho
    rw [f_M_mendTables_L61] at hf
    refine g_iload_n (n := 62) d_M_mendTables_61 rfl 1 rfl rfl ?_
    refine g_bipush (n := 64) (v := 64) d_M_mendTables_62 rfl (by decide) ?_
    refine g_icmp_ge (n := 67) (tgt := 123) d_M_mendTables_64 rfl (by decide) (fun q2 => ?_) (fun q2 => ?_)
    · have hf := ob_pos q2 hf
      cases hf
      exact g_vret d_M_mendTables_123 rfl (Nat.zero_le _) (Nat.zero_le _)
    · have hf := ob_neg q2 hf
      refine g_aload_n (n := 68) d_M_mendTables_67 rfl 0 rfl rfl ?_
      refine g_get (n := 71) (q0 := 18) d_M_mendTables_68 rfl (am_fl in_M rfl (by decide : 4 < 20)) (List.mem_cons_of_mem _ tw_869) rfl rfl ?_
      refine g_if_ne (n := 74) (tgt := 123) d_M_mendTables_71 rfl (by decide) (fun q3 => ?_) (fun q3 => ?_)
      · have hf := ob_neg q3 hf
        cases hf
        exact g_vret d_M_mendTables_123 rfl (Nat.zero_le _) (Nat.zero_le _)
      · have hf := ob_pos q3 hf
        refine g_aload_n (n := 75) d_M_mendTables_74 rfl 0 rfl rfl ?_
        refine g_iload_n (n := 76) d_M_mendTables_75 rfl 1 rfl rfl ?_
        obtain ⟨r4, h5, hf⟩ := ob_bind hf
        refine c_Vr (n := 79) (st' := [.int r4]) [.int x1] [] d_M_mendTables_76 rfl (s_M_cell htr h5 rfl) tw_953 tw_955 (am_memS 16 (by decide +kernel) (by decide +kernel)) tw_8 tw_956 hd_M_cell (by omega) (by decide) (ci := 7) rfl rfl rfl (Nat.le_of_ble_eq_true rfl) rfl rfl ?_
        refine g_istore_n (n := 80) (ls' := [(2, .int r4), (0, .ref 18), (1, .int x1)]) d_M_mendTables_79 rfl rfl (am_ltb rfl) rfl ?_
        refine g_iload_n (n := 81) d_M_mendTables_80 rfl 2 rfl rfl ?_
        refine g_iconst (n := 82) (v := 2) d_M_mendTables_81 rfl (by decide) ?_
        refine g_icmp_ge (n := 85) (tgt := 94) d_M_mendTables_82 rfl (by decide) (fun q6 => ?_) (fun q6 => ?_)
        · have hf := ob_pos q6 hf
          refine g_iload_n (n := 95) d_M_mendTables_94 rfl 0 rfl rfl ?_
          refine g_iconst (n := 96) (v := 1) d_M_mendTables_95 rfl (by decide) ?_
          refine g_icmp_eq (n := 99) (tgt := 110) d_M_mendTables_96 rfl (by decide) (fun q7 => ?_) (fun q7 => ?_)
          · have hf := ob_pos q7 hf
            refine g_aload_n (n := 111) d_M_mendTables_110 rfl 1 rfl rfl ?_
            refine g_iload_n (n := 112) d_M_mendTables_111 rfl 2 rfl rfl ?_
            refine g_ldc (n := 114) (v := 65535) d_M_mendTables_112 rfl (List.mem_cons_of_mem _ tw_860) ?_
            obtain ⟨r8, h9, hf⟩ := ob_bind hf
            refine c_Vr (n := 117) (st' := []) [.int x1, .int 65535] [] d_M_mendTables_114 rfl (s_M_fix htr h9 rfl) tw_1128 tw_1130 (am_memS 45 (by decide +kernel) (by decide +kernel)) tw_8 tw_1131 hd_M_fix (by omega) (by decide) (ci := 7) rfl rfl rfl (Nat.le_of_ble_eq_true rfl) rfl rfl ?_
            refine g_iinc (n := 120) (v := (x1 + 1)) (ls' := [(1, .int (x1 + 1)), (2, .int r4), (0, .ref 18)]) d_M_mendTables_117 rfl 2 rfl rfl (am_ltb rfl) rfl ?_
            refine g_goto (n := 61) d_M_mendTables_120 (by decide) ?_
            refine g_ls [2, 0] rfl ?_
            exact ih r8.1 r8.2 (x1 + 1) _ hf _ rfl
          · have hf := ob_neg q7 hf
            refine g_iload_n (n := 100) d_M_mendTables_99 rfl 0 rfl rfl ?_
            refine g_bipush (n := 102) (v := 64) d_M_mendTables_100 rfl (by decide) ?_
            refine g_ldc (n := 104) (v := 65534) d_M_mendTables_102 rfl (List.mem_cons_of_mem _ tw_1127) ?_
            obtain ⟨r10, h11, hf⟩ := ob_bind hf
            refine c_Sr (n := 107) (st' := [.int r10]) [.int r4, .int 64, .int 65534] [] d_M_mendTables_104 rfl (s_M_in htr h11 rfl) tw_938 tw_939 tw_8 tw_940 rfl hd_M_in (by omega) (by decide) rfl (Nat.le_of_ble_eq_true rfl) rfl rfl ?_
            refine g_if_eq (n := 110) (tgt := 117) d_M_mendTables_107 rfl (by decide) (fun q12 => ?_) (fun q12 => ?_)
            · have hf := ob_pos q12 hf
              refine g_iinc (n := 120) (v := (x1 + 1)) (ls' := [(1, .int (x1 + 1)), (2, .int r4), (0, .ref 18)]) d_M_mendTables_117 rfl 2 rfl rfl (am_ltb rfl) rfl ?_
              refine g_goto (n := 61) d_M_mendTables_120 (by decide) ?_
              refine g_ls [2, 0] rfl ?_
              exact ih w mf (x1 + 1) _ hf _ rfl
            · have hf := ob_neg q12 hf
              refine g_aload_n (n := 111) d_M_mendTables_110 rfl 1 rfl rfl ?_
              refine g_iload_n (n := 112) d_M_mendTables_111 rfl 2 rfl rfl ?_
              refine g_ldc (n := 114) (v := 65535) d_M_mendTables_112 rfl (List.mem_cons_of_mem _ tw_860) ?_
              obtain ⟨r13, h14, hf⟩ := ob_bind hf
              refine c_Vr (n := 117) (st' := []) [.int x1, .int 65535] [] d_M_mendTables_114 rfl (s_M_fix htr h14 rfl) tw_1128 tw_1130 (am_memS 45 (by decide +kernel) (by decide +kernel)) tw_8 tw_1131 hd_M_fix (by omega) (by decide) (ci := 7) rfl rfl rfl (Nat.le_of_ble_eq_true rfl) rfl rfl ?_
              refine g_iinc (n := 120) (v := (x1 + 1)) (ls' := [(1, .int (x1 + 1)), (2, .int r4), (0, .ref 18)]) d_M_mendTables_117 rfl 2 rfl rfl (am_ltb rfl) rfl ?_
              refine g_goto (n := 61) d_M_mendTables_120 (by decide) ?_
              refine g_ls [2, 0] rfl ?_
              exact ih r13.1 r13.2 (x1 + 1) _ hf _ rfl
        · have hf := ob_neg q6 hf
          refine g_iload_n (n := 86) d_M_mendTables_85 rfl 0 rfl rfl ?_
          refine g_ldc (n := 88) (v := 65535) d_M_mendTables_86 rfl (List.mem_cons_of_mem _ tw_860) ?_
          refine g_icmp_eq (n := 91) (tgt := 117) d_M_mendTables_88 rfl (by decide) (fun q15 => ?_) (fun q15 => ?_)
          · have hf := ob_pos q15 hf
            refine g_iinc (n := 120) (v := (x1 + 1)) (ls' := [(1, .int (x1 + 1)), (2, .int r4), (0, .ref 18)]) d_M_mendTables_117 rfl 2 rfl rfl (am_ltb rfl) rfl ?_
            refine g_goto (n := 61) d_M_mendTables_120 (by decide) ?_
            refine g_ls [2, 0] rfl ?_
            exact ih w mf (x1 + 1) _ hf _ rfl
          · have hf := ob_neg q15 hf
            refine g_goto (n := 110) d_M_mendTables_91 (by decide) ?_
            refine g_aload_n (n := 111) d_M_mendTables_110 rfl 1 rfl rfl ?_
            refine g_iload_n (n := 112) d_M_mendTables_111 rfl 2 rfl rfl ?_
            refine g_ldc (n := 114) (v := 65535) d_M_mendTables_112 rfl (List.mem_cons_of_mem _ tw_860) ?_
            obtain ⟨r16, h17, hf⟩ := ob_bind hf
            refine c_Vr (n := 117) (st' := []) [.int x1, .int 65535] [] d_M_mendTables_114 rfl (s_M_fix htr h17 rfl) tw_1128 tw_1130 (am_memS 45 (by decide +kernel) (by decide +kernel)) tw_8 tw_1131 hd_M_fix (by omega) (by decide) (ci := 7) rfl rfl rfl (Nat.le_of_ble_eq_true rfl) rfl rfl ?_
            refine g_iinc (n := 120) (v := (x1 + 1)) (ls' := [(1, .int (x1 + 1)), (2, .int r4), (0, .ref 18)]) d_M_mendTables_117 rfl 2 rfl rfl (am_ltb rfl) rfl ?_
            refine g_goto (n := 61) d_M_mendTables_120 (by decide) ?_
            refine g_ls [2, 0] rfl ?_
            exact ih r16.1 r16.2 (x1 + 1) _ hf _ rfl
def f_M_mendTables_L2 : Nat → am_MS → Int32 → Int32 → Option (am_MS × Int32)
  | 0, _, _, _ => none
  | fuel + 1, w, mf, x1 =>
  (if 64 ≤ x1 then f_M_mendTables_L61 100000000000 w mf 0 else ((f_M_numberAt w.2.2.2.2.2.2.2.1 (128 + (2 * x1))).bind fun r18 => ((f_M_cell w.2.2.2.2.2.2.2.1 x1).bind fun r20 => (if r18 = r20 then f_M_mendTables_L2 fuel w mf (x1 + 1) else ((f_M_cell w.2.2.2.2.2.2.2.1 x1).bind fun r23 => ((f_M_writeNumber w (128 + (2 * x1)) r23).bind fun r25 => f_M_mendTables_L2 fuel r25 (mf + 1) (x1 + 1)))))))
set_option maxHeartbeats 4000000 in
set_option maxRecDepth 100000 in
theorem s_M_mendTables_L2 {l : Launch} {D : va_G} {dA : FieldType → ClassId} (htr : l.stackTraces = false) {hx : Nat → am_E} {rest : List am_E} {th : Int32} {sp : Int32} {mp : Int32} {ml : Nat → Int32} {ps : Nat → Int32} {nm : Nat → Int32} {mu : Nat → Int32} {ch : Nat → Int32} {wy : Nat → Int32} {nx : Nat → Int32}  : ∀ (fuel : Nat) (w : am_MS) (mf : Int32) (x1 : Int32) (r : am_MS × Int32), f_M_mendTables_L2 fuel w mf x1 = some r → ∀ o : am_O, .inl none = o →
    am_G (am_kk l D dA) (ws_M_mendTables, y_M_mendTables.cls, prog_9_method_54_code, 3, none, y_M_mendTables.name, [], am_rm 4 (o), none) o (hM hx r.1.1 r.1.2.1 r.1.2.2.1 r.1.2.2.2.1 r.1.2.2.2.2.1 r.1.2.2.2.2.2.1 r.1.2.2.2.2.2.2.1 r.1.2.2.2.2.2.2.2.1 r.1.2.2.2.2.2.2.2.2 th sp mp r.2 ml ps nm mu ch wy nx rest) 0 0 2 [(0, .ref 18), (1, .int x1)] [] (hM hx w.1 w.2.1 w.2.2.1 w.2.2.2.1 w.2.2.2.2.1 w.2.2.2.2.2.1 w.2.2.2.2.2.2.1 w.2.2.2.2.2.2.2.1 w.2.2.2.2.2.2.2.2 th sp mp mf ml ps nm mu ch wy nx rest) := by
  intro fuel
  induction fuel with
  | zero =>
    intro w mf x1 r hf
    cases hf
  | succ fuel ih =>
    intro w mf x1 r hf o ho
    subst ho
    rw [f_M_mendTables_L2] at hf
    refine g_iload_n (n := 3) d_M_mendTables_2 rfl 1 rfl rfl ?_
    refine g_bipush (n := 5) (v := 64) d_M_mendTables_3 rfl (by decide) ?_
    refine g_icmp_ge (n := 8) (tgt := 59) d_M_mendTables_5 rfl (by decide) (fun q1 => ?_) (fun q1 => ?_)
    · have hf := ob_pos q1 hf
      refine g_iconst (n := 60) (v := 0) d_M_mendTables_59 rfl (by decide) ?_
      refine g_istore_n (n := 61) (ls' := [(1, .int 0), (0, .ref 18)]) d_M_mendTables_60 rfl rfl (am_ltb rfl) rfl ?_
      refine g_ls [1, 0] rfl ?_
      exact s_M_mendTables_L61 htr 100000000000 w mf 0 _ hf _ rfl
    · have hf := ob_neg q1 hf
      refine g_aload_n (n := 9) d_M_mendTables_8 rfl 0 rfl rfl ?_
      refine g_sipush (n := 12) (v := 128) d_M_mendTables_9 rfl (by decide) ?_
      refine g_iconst (n := 13) (v := 2) d_M_mendTables_12 rfl (by decide) ?_
      refine g_iload_n (n := 14) d_M_mendTables_13 rfl 1 rfl rfl ?_
      refine g_imul (n := 15) d_M_mendTables_14 rfl ?_
      refine g_iadd (n := 16) d_M_mendTables_15 rfl ?_
      obtain ⟨r18, h19, hf⟩ := ob_bind hf
      refine c_Vr (n := 19) (st' := [.int r18]) [.int (128 + (2 * x1))] [] d_M_mendTables_16 rfl (s_M_numberAt htr h19 rfl) tw_957 tw_959 (am_memS 17 (by decide +kernel) (by decide +kernel)) tw_8 tw_960 hd_M_numberAt (by omega) (by decide) (ci := 7) rfl rfl rfl (Nat.le_of_ble_eq_true rfl) rfl rfl ?_
      refine g_aload_n (n := 20) d_M_mendTables_19 rfl 0 rfl rfl ?_
      refine g_iload_n (n := 21) d_M_mendTables_20 rfl 1 rfl rfl ?_
      obtain ⟨r20, h21, hf⟩ := ob_bind hf
      refine c_Vr (n := 24) (st' := [.int r20, .int r18]) [.int x1] [.int r18] d_M_mendTables_21 rfl (s_M_cell htr h21 rfl) tw_953 tw_955 (am_memS 16 (by decide +kernel) (by decide +kernel)) tw_8 tw_956 hd_M_cell (by omega) (by decide) (ci := 7) rfl rfl rfl (Nat.le_of_ble_eq_true rfl) rfl rfl ?_
      refine g_icmp_eq (n := 27) (tgt := 53) d_M_mendTables_24 rfl (by decide) (fun q22 => ?_) (fun q22 => ?_)
      · have hf := ob_pos q22 hf
        refine g_iinc (n := 56) (v := (x1 + 1)) (ls' := [(1, .int (x1 + 1)), (0, .ref 18)]) d_M_mendTables_53 rfl 1 rfl rfl (am_ltb rfl) rfl ?_
        refine g_goto (n := 2) d_M_mendTables_56 (by decide) ?_
        refine g_ls [1, 0] rfl ?_
        exact ih w mf (x1 + 1) _ hf _ rfl
      · have hf := ob_neg q22 hf
        refine g_aload_n (n := 28) d_M_mendTables_27 rfl 0 rfl rfl ?_
        refine g_sipush (n := 31) (v := 128) d_M_mendTables_28 rfl (by decide) ?_
        refine g_iconst (n := 32) (v := 2) d_M_mendTables_31 rfl (by decide) ?_
        refine g_iload_n (n := 33) d_M_mendTables_32 rfl 1 rfl rfl ?_
        refine g_imul (n := 34) d_M_mendTables_33 rfl ?_
        refine g_iadd (n := 35) d_M_mendTables_34 rfl ?_
        refine g_aload_n (n := 36) d_M_mendTables_35 rfl 0 rfl rfl ?_
        refine g_iload_n (n := 37) d_M_mendTables_36 rfl 1 rfl rfl ?_
        obtain ⟨r23, h24, hf⟩ := ob_bind hf
        refine c_Vr (n := 40) (st' := [.int r23, .int (128 + (2 * x1)), .ref 18]) [.int x1] [.int (128 + (2 * x1)), .ref 18] d_M_mendTables_37 rfl (s_M_cell htr h24 rfl) tw_953 tw_955 (am_memS 16 (by decide +kernel) (by decide +kernel)) tw_8 tw_956 hd_M_cell (by omega) (by decide) (ci := 7) rfl rfl rfl (Nat.le_of_ble_eq_true rfl) rfl rfl ?_
        obtain ⟨r25, h26, hf⟩ := ob_bind hf
        refine c_Vr (n := 43) (st' := []) [.int (128 + (2 * x1)), .int r23] [] d_M_mendTables_40 rfl (s_M_writeNumber htr h26 rfl) tw_1098 tw_1100 (am_memS 42 (by decide +kernel) (by decide +kernel)) tw_8 tw_1101 hd_M_writeNumber (by omega) (by decide) (ci := 7) rfl rfl rfl (Nat.le_of_ble_eq_true rfl) rfl rfl ?_
        refine g_aload_n (n := 44) d_M_mendTables_43 rfl 0 rfl rfl ?_
        refine g_dup (n := 45) d_M_mendTables_44 rfl rfl ?_
        refine g_get (n := 48) (q0 := 18) d_M_mendTables_45 rfl (am_fl in_M rfl (by decide : 19 < 20)) (List.mem_cons_of_mem _ tw_884) rfl rfl ?_
        refine g_iconst (n := 49) (v := 1) d_M_mendTables_48 rfl (by decide) ?_
        refine g_iadd (n := 50) d_M_mendTables_49 rfl ?_
        refine g_put (n := 53) (q0 := 18) (h' := (hM hx r25.1 r25.2.1 r25.2.2.1 r25.2.2.2.1 r25.2.2.2.2.1 r25.2.2.2.2.2.1 r25.2.2.2.2.2.2.1 r25.2.2.2.2.2.2.2.1 r25.2.2.2.2.2.2.2.2 th sp mp (mf + 1) ml ps nm mu ch wy nx rest)) d_M_mendTables_50 rfl (am_fl in_M rfl (by decide : 19 < 20)) typ_M (List.mem_cons_of_mem _ tw_884) rfl (fun _ _ => rfl) (fun _ _ => rfl) rfl (am_ltb rfl) rfl ?_
        refine g_iinc (n := 56) (v := (x1 + 1)) (ls' := [(1, .int (x1 + 1)), (0, .ref 18)]) d_M_mendTables_53 rfl 1 rfl rfl (am_ltb rfl) rfl ?_
        refine g_goto (n := 2) d_M_mendTables_56 (by decide) ?_
        refine g_ls [1, 0] rfl ?_
        exact ih r25 (mf + 1) (x1 + 1) _ hf _ rfl
def f_M_mendTables (w : am_MS) (mf : Int32) : Option (am_MS × Int32) :=
  f_M_mendTables_L2 100000000000 w mf 0
set_option maxHeartbeats 4000000 in
set_option maxRecDepth 100000 in
theorem s_M_mendTables {l : Launch} {D : va_G} {dA : FieldType → ClassId} (htr : l.stackTraces = false) {hx : Nat → am_E} {rest : List am_E} {th : Int32} {sp : Int32} {mp : Int32} {mf : Int32} {ml : Nat → Int32} {ps : Nat → Int32} {nm : Nat → Int32} {mu : Nat → Int32} {ch : Nat → Int32} {wy : Nat → Int32} {nx : Nat → Int32} {w : am_MS}  {r : am_MS × Int32} (hf : f_M_mendTables w mf = some r) {o : am_O} (ho : .inl none = o) :
    am_M (am_kk l D dA) y_M_mendTables ws_M_mendTables (am_rm 4 o) [.ref 18] (hM hx w.1 w.2.1 w.2.2.1 w.2.2.2.1 w.2.2.2.2.1 w.2.2.2.2.2.1 w.2.2.2.2.2.2.1 w.2.2.2.2.2.2.2.1 w.2.2.2.2.2.2.2.2 th sp mp mf ml ps nm mu ch wy nx rest) o (hM hx r.1.1 r.1.2.1 r.1.2.2.1 r.1.2.2.2.1 r.1.2.2.2.2.1 r.1.2.2.2.2.2.1 r.1.2.2.2.2.2.2.1 r.1.2.2.2.2.2.2.2.1 r.1.2.2.2.2.2.2.2.2 th sp mp r.2 ml ps nm mu ch wy nx rest) := by
  subst ho
  refine am_body (by decide) rfl (Nat.le_of_ble_eq_true rfl) rfl ?_
  rw [f_M_mendTables] at hf
  refine g_iconst (n := 1) (v := 0) d_M_mendTables_0 rfl (by decide) ?_
  refine g_istore_n (n := 2) (ls' := [(1, .int 0), (0, .ref 18)]) d_M_mendTables_1 rfl rfl (am_ltb rfl) rfl ?_
  refine g_ls [1, 0] rfl ?_
  exact s_M_mendTables_L2 htr 100000000000 w mf 0 _ hf _ rfl
def f_M_follow_L4 : Nat → am_MS → Int32 → (Nat → Int32) → (Nat → Int32) → Int32 → Int32 → Option (Int32 × am_MS × Int32 × (Nat → Int32) × (Nat → Int32))
  | 0, _, _, _, _, _, _ => none
  | fuel + 1, w, mf, mu, ch, x2, x3 =>
  (if x3 ≤ 0 then some (x2, w, mf, mu, ch) else (if w.2.1 = 0 then (if am_in x2 64 = true then (if am_in x3 64 = true then ((f_M_cell w.2.2.2.2.2.2.2.1 x3).bind fun r5 => (if r5 = 65535 then f_M_follow_L4 fuel w mf (upd mu x3.toNatClampNeg (vp_nar .boolean 1)) (upd ch x2.toNatClampNeg x3) (x2 + 1) 0 else ((f_M_cell w.2.2.2.2.2.2.2.1 r5).bind fun r11 => (if r11 = 0 then ((f_M_fix w mf x3 65535).bind fun r16 => f_M_follow_L4 fuel r16.1 r16.2 (upd mu x3.toNatClampNeg (vp_nar .boolean 1)) (upd ch x2.toNatClampNeg x3) (x2 + 1) 0) else (if am_in r5 64 = true then (if ((upd mu x3.toNatClampNeg (vp_nar .boolean 1)) r5.toNatClampNeg) = 0 then f_M_follow_L4 fuel w mf (upd mu x3.toNatClampNeg (vp_nar .boolean 1)) (upd ch x2.toNatClampNeg x3) (x2 + 1) r5 else ((f_M_fix w mf x3 65535).bind fun r23 => f_M_follow_L4 fuel r23.1 r23.2 (upd mu x3.toNatClampNeg (vp_nar .boolean 1)) (upd ch x2.toNatClampNeg x3) (x2 + 1) 0)) else none))))) else none) else none) else some (x2, w, mf, mu, ch)))
set_option maxHeartbeats 4000000 in
set_option maxRecDepth 100000 in
theorem s_M_follow_L4 {l : Launch} {D : va_G} {dA : FieldType → ClassId} (htr : l.stackTraces = false) {hx : Nat → am_E} {rest : List am_E} {th : Int32} {sp : Int32} {mp : Int32} {ml : Nat → Int32} {ps : Nat → Int32} {nm : Nat → Int32} {wy : Nat → Int32} {nx : Nat → Int32}  : ∀ (fuel : Nat) (w : am_MS) (mf : Int32) (mu : Nat → Int32) (ch : Nat → Int32) (x2 : Int32) (x3 : Int32) (r : Int32 × am_MS × Int32 × (Nat → Int32) × (Nat → Int32)), f_M_follow_L4 fuel w mf mu ch x2 x3 = some r → ∀ o : am_O, .inl (some (.int r.1)) = o →
    am_G (am_kk l D dA) (ws_M_follow, y_M_follow.cls, prog_9_method_55_code, 6, (some .int), y_M_follow.name, [], am_rm 4 (o), none) o (hM hx r.2.1.1 r.2.1.2.1 r.2.1.2.2.1 r.2.1.2.2.2.1 r.2.1.2.2.2.2.1 r.2.1.2.2.2.2.2.1 r.2.1.2.2.2.2.2.2.1 r.2.1.2.2.2.2.2.2.2.1 r.2.1.2.2.2.2.2.2.2.2 th sp mp r.2.2.1 ml ps nm r.2.2.2.1 r.2.2.2.2 wy nx rest) 0 0 4 [(0, .ref 18), (2, .int x2), (3, .int x3)] [] (hM hx w.1 w.2.1 w.2.2.1 w.2.2.2.1 w.2.2.2.2.1 w.2.2.2.2.2.1 w.2.2.2.2.2.2.1 w.2.2.2.2.2.2.2.1 w.2.2.2.2.2.2.2.2 th sp mp mf ml ps nm mu ch wy nx rest) := by
  intro fuel
  induction fuel with
  | zero =>
    intro w mf mu ch x2 x3 r hf
    cases hf
  | succ fuel ih =>
    intro w mf mu ch x2 x3 r hf o ho
    subst ho
    rw [f_M_follow_L4] at hf
    refine g_iload_n (n := 5) d_M_follow_4 rfl 2 rfl rfl ?_
    refine g_if_le (n := 8) (tgt := 106) d_M_follow_5 rfl (by decide) (fun q1 => ?_) (fun q1 => ?_)
    · have hf := ob_pos q1 hf
      refine g_iload_n (n := 107) d_M_follow_106 rfl 1 rfl rfl ?_
      cases hf
      exact g_iret d_M_follow_107 rfl (Nat.zero_le _) (Nat.zero_le _)
    · have hf := ob_neg q1 hf
      refine g_aload_n (n := 9) d_M_follow_8 rfl 0 rfl rfl ?_
      refine g_get (n := 12) (q0 := 18) d_M_follow_9 rfl (am_fl in_M rfl (by decide : 4 < 20)) (List.mem_cons_of_mem _ tw_869) rfl rfl ?_
      refine g_if_ne (n := 15) (tgt := 106) d_M_follow_12 rfl (by decide) (fun q2 => ?_) (fun q2 => ?_)
      · have hf := ob_neg q2 hf
        refine g_iload_n (n := 107) d_M_follow_106 rfl 1 rfl rfl ?_
        cases hf
        exact g_iret d_M_follow_107 rfl (Nat.zero_le _) (Nat.zero_le _)
      · have hf := ob_pos q2 hf
        refine g_aload_n (n := 16) d_M_follow_15 rfl 0 rfl rfl ?_
        refine g_get (n := 19) (q0 := 18) d_M_follow_16 rfl (am_fl in_M rfl (by decide : 16 < 20)) (List.mem_cons_of_mem _ tw_881) rfl rfl ?_
        refine g_iload_n (n := 20) d_M_follow_19 rfl 1 rfl rfl ?_
        refine g_iload_n (n := 21) d_M_follow_20 rfl 2 rfl rfl ?_
        obtain ⟨b3, hf⟩ := ob_chk hf
        refine g_iast (n := 22) (q0 := 25) (h' := (hM hx w.1 w.2.1 w.2.2.1 w.2.2.2.1 w.2.2.2.2.1 w.2.2.2.2.2.1 w.2.2.2.2.2.2.1 w.2.2.2.2.2.2.2.1 w.2.2.2.2.2.2.2.2 th sp mp mf ml ps nm mu (upd ch x2.toNatClampNeg x3) wy nx rest)) d_M_follow_21 rfl rfl (am_inl b3) rfl ?_
        refine g_iinc (n := 25) (v := (x2 + 1)) (ls' := [(2, .int (x2 + 1)), (0, .ref 18), (3, .int x3)]) d_M_follow_22 rfl 1 rfl rfl (am_ltb rfl) rfl ?_
        refine g_aload_n (n := 26) d_M_follow_25 rfl 1 rfl rfl ?_
        refine g_get (n := 29) (q0 := 18) d_M_follow_26 rfl (am_fl in_M rfl (by decide : 15 < 20)) (List.mem_cons_of_mem _ tw_880) rfl rfl ?_
        refine g_iload_n (n := 30) d_M_follow_29 rfl 2 rfl rfl ?_
        refine g_iconst (n := 31) (v := 1) d_M_follow_30 rfl (by decide) ?_
        obtain ⟨b4, hf⟩ := ob_chk hf
        refine g_zast (n := 32) (q0 := 24) (h' := (hM hx w.1 w.2.1 w.2.2.1 w.2.2.2.1 w.2.2.2.2.1 w.2.2.2.2.2.1 w.2.2.2.2.2.2.1 w.2.2.2.2.2.2.2.1 w.2.2.2.2.2.2.2.2 th sp mp mf ml ps nm (upd mu x3.toNatClampNeg (vp_nar .boolean 1)) (upd ch x2.toNatClampNeg x3) wy nx rest)) d_M_follow_31 rfl rfl (am_inl b4) rfl ?_
        refine g_aload_n (n := 33) d_M_follow_32 rfl 1 rfl rfl ?_
        refine g_iload_n (n := 34) d_M_follow_33 rfl 2 rfl rfl ?_
        obtain ⟨r5, h6, hf⟩ := ob_bind hf
        refine c_Vr (n := 37) (st' := [.int r5]) [.int x3] [] d_M_follow_34 rfl (s_M_cell htr h6 rfl) tw_953 tw_955 (am_memS 16 (by decide +kernel) (by decide +kernel)) tw_8 tw_956 hd_M_cell (by omega) (by decide) (ci := 7) rfl rfl rfl (Nat.le_of_ble_eq_true rfl) rfl rfl ?_
        refine g_istore (n := 39) (ls' := [(4, .int r5), (2, .int (x2 + 1)), (0, .ref 18), (3, .int x3)]) d_M_follow_37 rfl (am_ltb rfl) rfl ?_
        refine g_iload (n := 41) d_M_follow_39 rfl 0 rfl ?_
        refine g_ldc (n := 43) (v := 65535) d_M_follow_41 rfl (List.mem_cons_of_mem _ tw_860) ?_
        refine g_icmp_eq (n := 46) (tgt := 69) d_M_follow_43 rfl (by decide) (fun q7 => ?_) (fun q7 => ?_)
        · have hf := ob_pos q7 hf
          refine g_iconst (n := 70) (v := 0) d_M_follow_69 rfl (by decide) ?_
          refine g_istore (n := 72) (ls' := [(5, .int 0), (4, .int r5), (2, .int (x2 + 1)), (0, .ref 18), (3, .int x3)]) d_M_follow_70 rfl (am_ltb rfl) rfl ?_
          refine g_iload (n := 74) d_M_follow_72 rfl 0 rfl ?_
          refine g_if_ne (n := 77) (tgt := 91) d_M_follow_74 rfl (by decide) (fun q8 => absurd q8 (by decide)) (fun _ => ?_)
          refine g_iload (n := 79) d_M_follow_77 rfl 1 rfl ?_
          refine g_ldc (n := 81) (v := 65535) d_M_follow_79 rfl (List.mem_cons_of_mem _ tw_860) ?_
          refine g_icmp_eq (n := 84) (tgt := 91) d_M_follow_81 rfl (by decide) (fun _ => ?_) (fun q9 => absurd q7 q9)
          refine g_iload (n := 93) d_M_follow_91 rfl 0 rfl ?_
          refine g_if_eq (n := 96) (tgt := 101) d_M_follow_93 rfl (by decide) (fun _ => ?_) (fun q10 => absurd q10 (by decide))
          refine g_iconst (n := 102) (v := 0) d_M_follow_101 rfl (by decide) ?_
          refine g_istore_n (n := 103) (ls' := [(3, .int 0), (5, .int 0), (4, .int r5), (2, .int (x2 + 1)), (0, .ref 18)]) d_M_follow_102 rfl rfl (am_ltb rfl) rfl ?_
          refine g_goto (n := 4) d_M_follow_103 (by decide) ?_
          refine g_ls [4, 3, 0] rfl ?_
          exact ih w mf (upd mu x3.toNatClampNeg (vp_nar .boolean 1)) (upd ch x2.toNatClampNeg x3) (x2 + 1) 0 _ hf _ rfl
        · have hf := ob_neg q7 hf
          refine g_aload_n (n := 47) d_M_follow_46 rfl 2 rfl rfl ?_
          refine g_iload (n := 49) d_M_follow_47 rfl 0 rfl ?_
          obtain ⟨r11, h12, hf⟩ := ob_bind hf
          refine c_Vr (n := 52) (st' := [.int r11]) [.int r5] [] d_M_follow_49 rfl (s_M_cell htr h12 rfl) tw_953 tw_955 (am_memS 16 (by decide +kernel) (by decide +kernel)) tw_8 tw_956 hd_M_cell (by omega) (by decide) (ci := 7) rfl rfl rfl (Nat.le_of_ble_eq_true rfl) rfl rfl ?_
          refine g_if_eq (n := 55) (tgt := 69) d_M_follow_52 rfl (by decide) (fun q13 => ?_) (fun q13 => ?_)
          · have hf := ob_pos q13 hf
            refine g_iconst (n := 70) (v := 0) d_M_follow_69 rfl (by decide) ?_
            refine g_istore (n := 72) (ls' := [(5, .int 0), (4, .int r5), (2, .int (x2 + 1)), (0, .ref 18), (3, .int x3)]) d_M_follow_70 rfl (am_ltb rfl) rfl ?_
            refine g_iload (n := 74) d_M_follow_72 rfl 0 rfl ?_
            refine g_if_ne (n := 77) (tgt := 91) d_M_follow_74 rfl (by decide) (fun q14 => absurd q14 (by decide)) (fun _ => ?_)
            refine g_iload (n := 79) d_M_follow_77 rfl 1 rfl ?_
            refine g_ldc (n := 81) (v := 65535) d_M_follow_79 rfl (List.mem_cons_of_mem _ tw_860) ?_
            refine g_icmp_eq (n := 84) (tgt := 91) d_M_follow_81 rfl (by decide) (fun q15 => absurd q15 q7) (fun _ => ?_)
            refine g_aload_n (n := 85) d_M_follow_84 rfl 3 rfl rfl ?_
            refine g_iload_n (n := 86) d_M_follow_85 rfl 4 rfl rfl ?_
            refine g_ldc (n := 88) (v := 65535) d_M_follow_86 rfl (List.mem_cons_of_mem _ tw_860) ?_
            obtain ⟨r16, h17, hf⟩ := ob_bind hf
            refine c_Vr (n := 91) (st' := []) [.int x3, .int 65535] [] d_M_follow_88 rfl (s_M_fix htr h17 rfl) tw_1128 tw_1130 (am_memS 45 (by decide +kernel) (by decide +kernel)) tw_8 tw_1131 hd_M_fix (by omega) (by decide) (ci := 7) rfl rfl rfl (Nat.le_of_ble_eq_true rfl) rfl rfl ?_
            refine g_iload (n := 93) d_M_follow_91 rfl 0 rfl ?_
            refine g_if_eq (n := 96) (tgt := 101) d_M_follow_93 rfl (by decide) (fun _ => ?_) (fun q18 => absurd q18 (by decide))
            refine g_iconst (n := 102) (v := 0) d_M_follow_101 rfl (by decide) ?_
            refine g_istore_n (n := 103) (ls' := [(3, .int 0), (5, .int 0), (4, .int r5), (2, .int (x2 + 1)), (0, .ref 18)]) d_M_follow_102 rfl rfl (am_ltb rfl) rfl ?_
            refine g_goto (n := 4) d_M_follow_103 (by decide) ?_
            refine g_ls [4, 3, 0] rfl ?_
            exact ih r16.1 r16.2 (upd mu x3.toNatClampNeg (vp_nar .boolean 1)) (upd ch x2.toNatClampNeg x3) (x2 + 1) 0 _ hf _ rfl
          · have hf := ob_neg q13 hf
            refine g_aload_n (n := 56) d_M_follow_55 rfl 2 rfl rfl ?_
            refine g_get (n := 59) (q0 := 18) d_M_follow_56 rfl (am_fl in_M rfl (by decide : 15 < 20)) (List.mem_cons_of_mem _ tw_880) rfl rfl ?_
            refine g_iload (n := 61) d_M_follow_59 rfl 0 rfl ?_
            obtain ⟨b19, hf⟩ := ob_chk hf
            refine g_zald (n := 62) (q0 := 24) d_M_follow_61 rfl rfl (am_inl b19) ?_
            refine g_if_ne (n := 65) (tgt := 69) d_M_follow_62 rfl (by decide) (fun q20 => ?_) (fun q20 => ?_)
            · have hf := ob_neg q20 hf
              refine g_iconst (n := 70) (v := 0) d_M_follow_69 rfl (by decide) ?_
              refine g_istore (n := 72) (ls' := [(5, .int 0), (4, .int r5), (2, .int (x2 + 1)), (0, .ref 18), (3, .int x3)]) d_M_follow_70 rfl (am_ltb rfl) rfl ?_
              refine g_iload (n := 74) d_M_follow_72 rfl 0 rfl ?_
              refine g_if_ne (n := 77) (tgt := 91) d_M_follow_74 rfl (by decide) (fun q21 => absurd q21 (by decide)) (fun _ => ?_)
              refine g_iload (n := 79) d_M_follow_77 rfl 1 rfl ?_
              refine g_ldc (n := 81) (v := 65535) d_M_follow_79 rfl (List.mem_cons_of_mem _ tw_860) ?_
              refine g_icmp_eq (n := 84) (tgt := 91) d_M_follow_81 rfl (by decide) (fun q22 => absurd q22 q7) (fun _ => ?_)
              refine g_aload_n (n := 85) d_M_follow_84 rfl 3 rfl rfl ?_
              refine g_iload_n (n := 86) d_M_follow_85 rfl 4 rfl rfl ?_
              refine g_ldc (n := 88) (v := 65535) d_M_follow_86 rfl (List.mem_cons_of_mem _ tw_860) ?_
              obtain ⟨r23, h24, hf⟩ := ob_bind hf
              refine c_Vr (n := 91) (st' := []) [.int x3, .int 65535] [] d_M_follow_88 rfl (s_M_fix htr h24 rfl) tw_1128 tw_1130 (am_memS 45 (by decide +kernel) (by decide +kernel)) tw_8 tw_1131 hd_M_fix (by omega) (by decide) (ci := 7) rfl rfl rfl (Nat.le_of_ble_eq_true rfl) rfl rfl ?_
              refine g_iload (n := 93) d_M_follow_91 rfl 0 rfl ?_
              refine g_if_eq (n := 96) (tgt := 101) d_M_follow_93 rfl (by decide) (fun _ => ?_) (fun q25 => absurd q25 (by decide))
              refine g_iconst (n := 102) (v := 0) d_M_follow_101 rfl (by decide) ?_
              refine g_istore_n (n := 103) (ls' := [(3, .int 0), (5, .int 0), (4, .int r5), (2, .int (x2 + 1)), (0, .ref 18)]) d_M_follow_102 rfl rfl (am_ltb rfl) rfl ?_
              refine g_goto (n := 4) d_M_follow_103 (by decide) ?_
              refine g_ls [4, 3, 0] rfl ?_
              exact ih r23.1 r23.2 (upd mu x3.toNatClampNeg (vp_nar .boolean 1)) (upd ch x2.toNatClampNeg x3) (x2 + 1) 0 _ hf _ rfl
            · have hf := ob_pos q20 hf
              refine g_iconst (n := 66) (v := 1) d_M_follow_65 rfl (by decide) ?_
              refine g_goto (n := 70) d_M_follow_66 (by decide) ?_
              refine g_istore (n := 72) (ls' := [(5, .int 1), (4, .int r5), (2, .int (x2 + 1)), (0, .ref 18), (3, .int x3)]) d_M_follow_70 rfl (am_ltb rfl) rfl ?_
              refine g_iload (n := 74) d_M_follow_72 rfl 0 rfl ?_
              refine g_if_ne (n := 77) (tgt := 91) d_M_follow_74 rfl (by decide) (fun _ => ?_) (fun q26 => absurd q26 (by decide))
              refine g_iload (n := 93) d_M_follow_91 rfl 0 rfl ?_
              refine g_if_eq (n := 96) (tgt := 101) d_M_follow_93 rfl (by decide) (fun q27 => absurd q27 (by decide)) (fun _ => ?_)
              refine g_iload (n := 98) d_M_follow_96 rfl 1 rfl ?_
              refine g_goto (n := 102) d_M_follow_98 (by decide) ?_
              refine g_istore_n (n := 103) (ls' := [(3, .int r5), (5, .int 1), (4, .int r5), (2, .int (x2 + 1)), (0, .ref 18)]) d_M_follow_102 rfl rfl (am_ltb rfl) rfl ?_
              refine g_goto (n := 4) d_M_follow_103 (by decide) ?_
              refine g_ls [4, 3, 0] rfl ?_
              exact ih w mf (upd mu x3.toNatClampNeg (vp_nar .boolean 1)) (upd ch x2.toNatClampNeg x3) (x2 + 1) r5 _ hf _ rfl
def f_M_follow (w : am_MS) (mf : Int32) (mu : Nat → Int32) (ch : Nat → Int32) (x1 : Int32) : Option (Int32 × am_MS × Int32 × (Nat → Int32) × (Nat → Int32)) :=
  f_M_follow_L4 100000000000 w mf mu ch 0 x1
set_option maxHeartbeats 4000000 in
set_option maxRecDepth 100000 in
theorem s_M_follow {l : Launch} {D : va_G} {dA : FieldType → ClassId} (htr : l.stackTraces = false) {hx : Nat → am_E} {rest : List am_E} {th : Int32} {sp : Int32} {mp : Int32} {mf : Int32} {ml : Nat → Int32} {ps : Nat → Int32} {nm : Nat → Int32} {mu : Nat → Int32} {ch : Nat → Int32} {wy : Nat → Int32} {nx : Nat → Int32} {w : am_MS} {x1 : Int32} {r : Int32 × am_MS × Int32 × (Nat → Int32) × (Nat → Int32)} (hf : f_M_follow w mf mu ch x1 = some r) {o : am_O} (ho : .inl (some (.int r.1)) = o) :
    am_M (am_kk l D dA) y_M_follow ws_M_follow (am_rm 4 o) [.ref 18, .int x1] (hM hx w.1 w.2.1 w.2.2.1 w.2.2.2.1 w.2.2.2.2.1 w.2.2.2.2.2.1 w.2.2.2.2.2.2.1 w.2.2.2.2.2.2.2.1 w.2.2.2.2.2.2.2.2 th sp mp mf ml ps nm mu ch wy nx rest) o (hM hx r.2.1.1 r.2.1.2.1 r.2.1.2.2.1 r.2.1.2.2.2.1 r.2.1.2.2.2.2.1 r.2.1.2.2.2.2.2.1 r.2.1.2.2.2.2.2.2.1 r.2.1.2.2.2.2.2.2.2.1 r.2.1.2.2.2.2.2.2.2.2 th sp mp r.2.2.1 ml ps nm r.2.2.2.1 r.2.2.2.2 wy nx rest) := by
  subst ho
  refine am_body (by decide) rfl (Nat.le_of_ble_eq_true rfl) rfl ?_
  rw [f_M_follow] at hf
  refine g_iconst (n := 1) (v := 0) d_M_follow_0 rfl (by decide) ?_
  refine g_istore_n (n := 2) (ls' := [(2, .int 0), (0, .ref 18), (1, .int x1)]) d_M_follow_1 rfl rfl (am_ltb rfl) rfl ?_
  refine g_iload_n (n := 3) d_M_follow_2 rfl 2 rfl rfl ?_
  refine g_istore_n (n := 4) (ls' := [(3, .int x1), (2, .int 0), (0, .ref 18), (1, .int x1)]) d_M_follow_3 rfl rfl (am_ltb rfl) rfl ?_
  refine g_ls [2, 1, 0] rfl ?_
  exact s_M_follow_L4 htr 100000000000 w mf mu ch 0 x1 _ hf _ rfl
def f_M_tells (dk : Nat → Int32) (x1 : Int32) (x2 : Int32) : Option (Int32) :=
  ((f_M_length dk x1).bind fun r1 => ((f_M_place dk x1 x2).bind fun r3 => (if am_in (r3 + 6) 2240 = true then (if (dk (r3 + 6).toNatClampNeg) = 15 then (if (2 * r1) ≤ (x2 + 1) then (if (2 * r1) ≤ (x2 + 2) then some 0 else ((f_M_partsOf dk x1 (x2 + 2)).bind fun r9 => (if r9 = 2 then some 1 else some 0))) else ((f_M_partsOf dk x1 (x2 + 1)).bind fun r12 => (if 0 < r12 then some 1 else (if (2 * r1) ≤ (x2 + 2) then some 0 else ((f_M_partsOf dk x1 (x2 + 2)).bind fun r16 => (if r16 = 2 then some 1 else some 0)))))) else some 0) else none)))
set_option maxHeartbeats 4000000 in
set_option maxRecDepth 100000 in
theorem s_M_tells {l : Launch} {D : va_G} {dA : FieldType → ClassId} (htr : l.stackTraces = false) {hx : Nat → am_E} {rest : List am_E} {on : Int32} {dd : Int32} {mw : Int32} {cu : Int32} {ty : Int32} {mh : Int32} {md : Int32} {dk : Nat → Int32} {op : Nat → Int32} {th : Int32} {sp : Int32} {mp : Int32} {mf : Int32} {ml : Nat → Int32} {ps : Nat → Int32} {nm : Nat → Int32} {mu : Nat → Int32} {ch : Nat → Int32} {wy : Nat → Int32} {nx : Nat → Int32}  {x1 : Int32} {x2 : Int32} {r : Int32} (hf : f_M_tells dk x1 x2 = some r) {o : am_O} (ho : .inl (some (.int r)) = o) :
    am_M (am_kk l D dA) y_M_tells ws_M_tells (am_rm 5 o) [.ref 18, .int x1, .int x2] (hM hx on dd mw cu ty mh md dk op th sp mp mf ml ps nm mu ch wy nx rest) o (hM hx on dd mw cu ty mh md dk op th sp mp mf ml ps nm mu ch wy nx rest) := by
  subst ho
  refine am_body (by decide) rfl (Nat.le_of_ble_eq_true rfl) rfl ?_
  rw [f_M_tells] at hf
  refine g_iconst (n := 1) (v := 2) d_M_tells_0 rfl (by decide) ?_
  refine g_aload_n (n := 2) d_M_tells_1 rfl 0 rfl rfl ?_
  refine g_iload_n (n := 3) d_M_tells_2 rfl 1 rfl rfl ?_
  obtain ⟨r1, h2, hf⟩ := ob_bind hf
  refine c_Vr (n := 6) (st' := [.int r1, .int 2]) [.int x1] [.int 2] d_M_tells_3 rfl (s_M_length htr h2 rfl) tw_945 tw_947 (am_memS 14 (by decide +kernel) (by decide +kernel)) tw_8 tw_948 hd_M_length (by omega) (by decide) (ci := 7) rfl rfl rfl (Nat.le_of_ble_eq_true rfl) rfl rfl ?_
  refine g_imul (n := 7) d_M_tells_6 rfl ?_
  refine g_istore_n (n := 8) (ls' := [(3, .int (2 * r1)), (0, .ref 18), (1, .int x1), (2, .int x2)]) d_M_tells_7 rfl rfl (am_ltb rfl) rfl ?_
  refine g_aload_n (n := 9) d_M_tells_8 rfl 1 rfl rfl ?_
  refine g_get (n := 12) (q0 := 18) d_M_tells_9 rfl (am_fl in_M rfl (by decide : 1 < 20)) (List.mem_cons_of_mem _ tw_866) rfl rfl ?_
  refine g_aload_n (n := 13) d_M_tells_12 rfl 1 rfl rfl ?_
  refine g_iload_n (n := 14) d_M_tells_13 rfl 2 rfl rfl ?_
  refine g_iload_n (n := 15) d_M_tells_14 rfl 3 rfl rfl ?_
  obtain ⟨r3, h4, hf⟩ := ob_bind hf
  refine c_Vr (n := 18) (st' := [.int r3, .ref 19]) [.int x1, .int x2] [.ref 19] d_M_tells_15 rfl (s_M_place htr h4 rfl) tw_965 tw_967 (am_memS 19 (by decide +kernel) (by decide +kernel)) tw_8 tw_968 hd_M_place (by omega) (by decide) (ci := 7) rfl rfl rfl (Nat.le_of_ble_eq_true rfl) rfl rfl ?_
  refine g_bipush (n := 20) (v := 6) d_M_tells_18 rfl (by decide) ?_
  refine g_iadd (n := 21) d_M_tells_20 rfl ?_
  obtain ⟨b5, hf⟩ := ob_chk hf
  refine g_iald (n := 22) (q0 := 19) d_M_tells_21 rfl rfl (am_inl b5) ?_
  refine g_bipush (n := 24) (v := 15) d_M_tells_22 rfl (by decide) ?_
  refine g_icmp_ne (n := 27) (tgt := 68) d_M_tells_24 rfl (by decide) (fun q6 => ?_) (fun q6 => ?_)
  · have hf := ob_neg q6 hf
    refine g_iconst (n := 69) (v := 0) d_M_tells_68 rfl (by decide) ?_
    cases hf
    exact g_zret d_M_tells_69 rfl am_z0 (Nat.zero_le _) (Nat.zero_le _)
  · have hf := ob_pos q6 hf
    refine g_iload_n (n := 28) d_M_tells_27 rfl 3 rfl rfl ?_
    refine g_iconst (n := 29) (v := 1) d_M_tells_28 rfl (by decide) ?_
    refine g_iadd (n := 30) d_M_tells_29 rfl ?_
    refine g_iload_n (n := 31) d_M_tells_30 rfl 0 rfl rfl ?_
    refine g_icmp_ge (n := 34) (tgt := 45) d_M_tells_31 rfl (by decide) (fun q7 => ?_) (fun q7 => ?_)
    · have hf := ob_pos q7 hf
      refine g_iload_n (n := 46) d_M_tells_45 rfl 3 rfl rfl ?_
      refine g_iconst (n := 47) (v := 2) d_M_tells_46 rfl (by decide) ?_
      refine g_iadd (n := 48) d_M_tells_47 rfl ?_
      refine g_iload_n (n := 49) d_M_tells_48 rfl 0 rfl rfl ?_
      refine g_icmp_ge (n := 52) (tgt := 68) d_M_tells_49 rfl (by decide) (fun q8 => ?_) (fun q8 => ?_)
      · have hf := ob_pos q8 hf
        refine g_iconst (n := 69) (v := 0) d_M_tells_68 rfl (by decide) ?_
        cases hf
        exact g_zret d_M_tells_69 rfl am_z0 (Nat.zero_le _) (Nat.zero_le _)
      · have hf := ob_neg q8 hf
        refine g_aload_n (n := 53) d_M_tells_52 rfl 1 rfl rfl ?_
        refine g_iload_n (n := 54) d_M_tells_53 rfl 2 rfl rfl ?_
        refine g_iload_n (n := 55) d_M_tells_54 rfl 3 rfl rfl ?_
        refine g_iconst (n := 56) (v := 2) d_M_tells_55 rfl (by decide) ?_
        refine g_iadd (n := 57) d_M_tells_56 rfl ?_
        obtain ⟨r9, h10, hf⟩ := ob_bind hf
        refine c_Vr (n := 60) (st' := [.int r9]) [.int x1, .int (x2 + 2)] [] d_M_tells_57 rfl (s_M_partsOf htr h10 rfl) tw_977 tw_979 (am_memS 22 (by decide +kernel) (by decide +kernel)) tw_8 tw_980 hd_M_partsOf (by omega) (by decide) (ci := 7) rfl rfl rfl (Nat.le_of_ble_eq_true rfl) rfl rfl ?_
        refine g_iconst (n := 61) (v := 2) d_M_tells_60 rfl (by decide) ?_
        refine g_icmp_ne (n := 64) (tgt := 68) d_M_tells_61 rfl (by decide) (fun q11 => ?_) (fun q11 => ?_)
        · have hf := ob_neg q11 hf
          refine g_iconst (n := 69) (v := 0) d_M_tells_68 rfl (by decide) ?_
          cases hf
          exact g_zret d_M_tells_69 rfl am_z0 (Nat.zero_le _) (Nat.zero_le _)
        · have hf := ob_pos q11 hf
          refine g_iconst (n := 65) (v := 1) d_M_tells_64 rfl (by decide) ?_
          refine g_goto (n := 69) d_M_tells_65 (by decide) ?_
          cases hf
          exact g_zret d_M_tells_69 rfl am_z1 (Nat.zero_le _) (Nat.zero_le _)
    · have hf := ob_neg q7 hf
      refine g_aload_n (n := 35) d_M_tells_34 rfl 1 rfl rfl ?_
      refine g_iload_n (n := 36) d_M_tells_35 rfl 2 rfl rfl ?_
      refine g_iload_n (n := 37) d_M_tells_36 rfl 3 rfl rfl ?_
      refine g_iconst (n := 38) (v := 1) d_M_tells_37 rfl (by decide) ?_
      refine g_iadd (n := 39) d_M_tells_38 rfl ?_
      obtain ⟨r12, h13, hf⟩ := ob_bind hf
      refine c_Vr (n := 42) (st' := [.int r12]) [.int x1, .int (x2 + 1)] [] d_M_tells_39 rfl (s_M_partsOf htr h13 rfl) tw_977 tw_979 (am_memS 22 (by decide +kernel) (by decide +kernel)) tw_8 tw_980 hd_M_partsOf (by omega) (by decide) (ci := 7) rfl rfl rfl (Nat.le_of_ble_eq_true rfl) rfl rfl ?_
      refine g_if_gt (n := 45) (tgt := 64) d_M_tells_42 rfl (by decide) (fun q14 => ?_) (fun q14 => ?_)
      · have hf := ob_pos q14 hf
        refine g_iconst (n := 65) (v := 1) d_M_tells_64 rfl (by decide) ?_
        refine g_goto (n := 69) d_M_tells_65 (by decide) ?_
        cases hf
        exact g_zret d_M_tells_69 rfl am_z1 (Nat.zero_le _) (Nat.zero_le _)
      · have hf := ob_neg q14 hf
        refine g_iload_n (n := 46) d_M_tells_45 rfl 3 rfl rfl ?_
        refine g_iconst (n := 47) (v := 2) d_M_tells_46 rfl (by decide) ?_
        refine g_iadd (n := 48) d_M_tells_47 rfl ?_
        refine g_iload_n (n := 49) d_M_tells_48 rfl 0 rfl rfl ?_
        refine g_icmp_ge (n := 52) (tgt := 68) d_M_tells_49 rfl (by decide) (fun q15 => ?_) (fun q15 => ?_)
        · have hf := ob_pos q15 hf
          refine g_iconst (n := 69) (v := 0) d_M_tells_68 rfl (by decide) ?_
          cases hf
          exact g_zret d_M_tells_69 rfl am_z0 (Nat.zero_le _) (Nat.zero_le _)
        · have hf := ob_neg q15 hf
          refine g_aload_n (n := 53) d_M_tells_52 rfl 1 rfl rfl ?_
          refine g_iload_n (n := 54) d_M_tells_53 rfl 2 rfl rfl ?_
          refine g_iload_n (n := 55) d_M_tells_54 rfl 3 rfl rfl ?_
          refine g_iconst (n := 56) (v := 2) d_M_tells_55 rfl (by decide) ?_
          refine g_iadd (n := 57) d_M_tells_56 rfl ?_
          obtain ⟨r16, h17, hf⟩ := ob_bind hf
          refine c_Vr (n := 60) (st' := [.int r16]) [.int x1, .int (x2 + 2)] [] d_M_tells_57 rfl (s_M_partsOf htr h17 rfl) tw_977 tw_979 (am_memS 22 (by decide +kernel) (by decide +kernel)) tw_8 tw_980 hd_M_partsOf (by omega) (by decide) (ci := 7) rfl rfl rfl (Nat.le_of_ble_eq_true rfl) rfl rfl ?_
          refine g_iconst (n := 61) (v := 2) d_M_tells_60 rfl (by decide) ?_
          refine g_icmp_ne (n := 64) (tgt := 68) d_M_tells_61 rfl (by decide) (fun q18 => ?_) (fun q18 => ?_)
          · have hf := ob_neg q18 hf
            refine g_iconst (n := 69) (v := 0) d_M_tells_68 rfl (by decide) ?_
            cases hf
            exact g_zret d_M_tells_69 rfl am_z0 (Nat.zero_le _) (Nat.zero_le _)
          · have hf := ob_pos q18 hf
            refine g_iconst (n := 65) (v := 1) d_M_tells_64 rfl (by decide) ?_
            refine g_goto (n := 69) d_M_tells_65 (by decide) ?_
            cases hf
            exact g_zret d_M_tells_69 rfl am_z1 (Nat.zero_le _) (Nat.zero_le _)
def f_M_isBad (dk : Nat → Int32) (mu : Nat → Int32) (x1 : Int32) (x2 : Int32) : Option (Int32) :=
  (if am_in (x1 + 6) 2240 = true then ((f_M_numberAt dk (x1 + 8)).bind fun r2 => ((f_M_in (dk (x1 + 6).toNatClampNeg) 1 2).bind fun r4 => (if r4 = 0 then some 1 else (if r2 = 1 then some 1 else (if 63 < r2 then some 1 else (if r2 ≤ 1 then (if (dk (x1 + 6).toNatClampNeg) = 2 then (if r2 = 0 then some 1 else (if x2 = 4 then some 1 else some 0)) else some 0) else ((f_M_cell dk r2).bind fun r17 => (if r17 = 0 then some 1 else (if am_in r2 64 = true then (if (mu r2.toNatClampNeg) = 0 then (if (dk (x1 + 6).toNatClampNeg) = 2 then (if r2 = 0 then some 1 else (if x2 = 4 then some 1 else some 0)) else some 0) else some 1) else none))))))))) else none)
set_option maxHeartbeats 4000000 in
set_option maxRecDepth 100000 in
theorem s_M_isBad {l : Launch} {D : va_G} {dA : FieldType → ClassId} (htr : l.stackTraces = false) {hx : Nat → am_E} {rest : List am_E} {on : Int32} {dd : Int32} {mw : Int32} {cu : Int32} {ty : Int32} {mh : Int32} {md : Int32} {dk : Nat → Int32} {op : Nat → Int32} {th : Int32} {sp : Int32} {mp : Int32} {mf : Int32} {ml : Nat → Int32} {ps : Nat → Int32} {nm : Nat → Int32} {mu : Nat → Int32} {ch : Nat → Int32} {wy : Nat → Int32} {nx : Nat → Int32}  {x1 : Int32} {x2 : Int32} {r : Int32} (hf : f_M_isBad dk mu x1 x2 = some r) {o : am_O} (ho : .inl (some (.int r)) = o) :
    am_M (am_kk l D dA) y_M_isBad ws_M_isBad (am_rm 2 o) [.ref 18, .int x1, .int x2] (hM hx on dd mw cu ty mh md dk op th sp mp mf ml ps nm mu ch wy nx rest) o (hM hx on dd mw cu ty mh md dk op th sp mp mf ml ps nm mu ch wy nx rest) := by
  subst ho
  refine am_body (by decide) rfl (Nat.le_of_ble_eq_true rfl) rfl ?_
  rw [f_M_isBad] at hf
  refine g_aload_n (n := 1) d_M_isBad_0 rfl 0 rfl rfl ?_
  refine g_get (n := 4) (q0 := 18) d_M_isBad_1 rfl (am_fl in_M rfl (by decide : 1 < 20)) (List.mem_cons_of_mem _ tw_866) rfl rfl ?_
  refine g_iload_n (n := 5) d_M_isBad_4 rfl 1 rfl rfl ?_
  refine g_bipush (n := 7) (v := 6) d_M_isBad_5 rfl (by decide) ?_
  refine g_iadd (n := 8) d_M_isBad_7 rfl ?_
  obtain ⟨b1, hf⟩ := ob_chk hf
  refine g_iald (n := 9) (q0 := 19) d_M_isBad_8 rfl rfl (am_inl b1) ?_
  refine g_istore_n (n := 10) (ls' := [(3, .int (dk (x1 + 6).toNatClampNeg)), (0, .ref 18), (1, .int x1), (2, .int x2)]) d_M_isBad_9 rfl rfl (am_ltb rfl) rfl ?_
  refine g_aload_n (n := 11) d_M_isBad_10 rfl 1 rfl rfl ?_
  refine g_iload_n (n := 12) d_M_isBad_11 rfl 2 rfl rfl ?_
  refine g_bipush (n := 14) (v := 8) d_M_isBad_12 rfl (by decide) ?_
  refine g_iadd (n := 15) d_M_isBad_14 rfl ?_
  obtain ⟨r2, h3, hf⟩ := ob_bind hf
  refine c_Vr (n := 18) (st' := [.int r2]) [.int (x1 + 8)] [] d_M_isBad_15 rfl (s_M_numberAt htr h3 rfl) tw_957 tw_959 (am_memS 17 (by decide +kernel) (by decide +kernel)) tw_8 tw_960 hd_M_numberAt (by omega) (by decide) (ci := 7) rfl rfl rfl (Nat.le_of_ble_eq_true rfl) rfl rfl ?_
  refine g_istore (n := 20) (ls' := [(4, .int r2), (3, .int (dk (x1 + 6).toNatClampNeg)), (0, .ref 18), (1, .int x1), (2, .int x2)]) d_M_isBad_18 rfl (am_ltb rfl) rfl ?_
  refine g_iload_n (n := 21) d_M_isBad_20 rfl 1 rfl rfl ?_
  refine g_iconst (n := 22) (v := 1) d_M_isBad_21 rfl (by decide) ?_
  refine g_iconst (n := 23) (v := 2) d_M_isBad_22 rfl (by decide) ?_
  obtain ⟨r4, h5, hf⟩ := ob_bind hf
  refine c_Sr (n := 26) (st' := [.int r4]) [.int (dk (x1 + 6).toNatClampNeg), .int 1, .int 2] [] d_M_isBad_23 rfl (s_M_in htr h5 rfl) tw_938 tw_939 tw_8 tw_940 rfl hd_M_in (by omega) (by decide) rfl (Nat.le_of_ble_eq_true rfl) rfl rfl ?_
  refine g_if_eq (n := 29) (tgt := 67) d_M_isBad_26 rfl (by decide) (fun q6 => ?_) (fun q6 => ?_)
  · have hf := ob_pos q6 hf
    refine g_iconst (n := 68) (v := 1) d_M_isBad_67 rfl (by decide) ?_
    refine g_goto (n := 72) d_M_isBad_68 (by decide) ?_
    refine g_istore (n := 74) (ls' := [(5, .int 1), (4, .int r2), (3, .int (dk (x1 + 6).toNatClampNeg)), (0, .ref 18), (1, .int x1), (2, .int x2)]) d_M_isBad_72 rfl (am_ltb rfl) rfl ?_
    refine g_iload (n := 76) d_M_isBad_74 rfl 0 rfl ?_
    refine g_if_ne (n := 79) (tgt := 94) d_M_isBad_76 rfl (by decide) (fun _ => ?_) (fun q7 => absurd q7 (by decide))
    refine g_iconst (n := 95) (v := 1) d_M_isBad_94 rfl (by decide) ?_
    refine g_goto (n := 99) d_M_isBad_95 (by decide) ?_
    cases hf
    exact g_zret d_M_isBad_99 rfl am_z1 (Nat.zero_le _) (Nat.zero_le _)
  · have hf := ob_neg q6 hf
    refine g_iload (n := 31) d_M_isBad_29 rfl 0 rfl ?_
    refine g_iconst (n := 32) (v := 1) d_M_isBad_31 rfl (by decide) ?_
    refine g_icmp_eq (n := 35) (tgt := 67) d_M_isBad_32 rfl (by decide) (fun q8 => ?_) (fun q8 => ?_)
    · have hf := ob_pos q8 hf
      refine g_iconst (n := 68) (v := 1) d_M_isBad_67 rfl (by decide) ?_
      refine g_goto (n := 72) d_M_isBad_68 (by decide) ?_
      refine g_istore (n := 74) (ls' := [(5, .int 1), (4, .int r2), (3, .int (dk (x1 + 6).toNatClampNeg)), (0, .ref 18), (1, .int x1), (2, .int x2)]) d_M_isBad_72 rfl (am_ltb rfl) rfl ?_
      refine g_iload (n := 76) d_M_isBad_74 rfl 0 rfl ?_
      refine g_if_ne (n := 79) (tgt := 94) d_M_isBad_76 rfl (by decide) (fun _ => ?_) (fun q9 => absurd q9 (by decide))
      refine g_iconst (n := 95) (v := 1) d_M_isBad_94 rfl (by decide) ?_
      refine g_goto (n := 99) d_M_isBad_95 (by decide) ?_
      cases hf
      exact g_zret d_M_isBad_99 rfl am_z1 (Nat.zero_le _) (Nat.zero_le _)
    · have hf := ob_neg q8 hf
      refine g_iload (n := 37) d_M_isBad_35 rfl 0 rfl ?_
      refine g_bipush (n := 39) (v := 63) d_M_isBad_37 rfl (by decide) ?_
      refine g_icmp_gt (n := 42) (tgt := 67) d_M_isBad_39 rfl (by decide) (fun q10 => ?_) (fun q10 => ?_)
      · have hf := ob_pos q10 hf
        refine g_iconst (n := 68) (v := 1) d_M_isBad_67 rfl (by decide) ?_
        refine g_goto (n := 72) d_M_isBad_68 (by decide) ?_
        refine g_istore (n := 74) (ls' := [(5, .int 1), (4, .int r2), (3, .int (dk (x1 + 6).toNatClampNeg)), (0, .ref 18), (1, .int x1), (2, .int x2)]) d_M_isBad_72 rfl (am_ltb rfl) rfl ?_
        refine g_iload (n := 76) d_M_isBad_74 rfl 0 rfl ?_
        refine g_if_ne (n := 79) (tgt := 94) d_M_isBad_76 rfl (by decide) (fun _ => ?_) (fun q11 => absurd q11 (by decide))
        refine g_iconst (n := 95) (v := 1) d_M_isBad_94 rfl (by decide) ?_
        refine g_goto (n := 99) d_M_isBad_95 (by decide) ?_
        cases hf
        exact g_zret d_M_isBad_99 rfl am_z1 (Nat.zero_le _) (Nat.zero_le _)
      · have hf := ob_neg q10 hf
        refine g_iload (n := 44) d_M_isBad_42 rfl 0 rfl ?_
        refine g_iconst (n := 45) (v := 1) d_M_isBad_44 rfl (by decide) ?_
        refine g_icmp_le (n := 48) (tgt := 71) d_M_isBad_45 rfl (by decide) (fun q12 => ?_) (fun q12 => ?_)
        · have hf := ob_pos q12 hf
          refine g_iconst (n := 72) (v := 0) d_M_isBad_71 rfl (by decide) ?_
          refine g_istore (n := 74) (ls' := [(5, .int 0), (4, .int r2), (3, .int (dk (x1 + 6).toNatClampNeg)), (0, .ref 18), (1, .int x1), (2, .int x2)]) d_M_isBad_72 rfl (am_ltb rfl) rfl ?_
          refine g_iload (n := 76) d_M_isBad_74 rfl 0 rfl ?_
          refine g_if_ne (n := 79) (tgt := 94) d_M_isBad_76 rfl (by decide) (fun q13 => absurd q13 (by decide)) (fun _ => ?_)
          refine g_iload_n (n := 80) d_M_isBad_79 rfl 2 rfl rfl ?_
          refine g_iconst (n := 81) (v := 2) d_M_isBad_80 rfl (by decide) ?_
          refine g_icmp_ne (n := 84) (tgt := 98) d_M_isBad_81 rfl (by decide) (fun q14 => ?_) (fun q14 => ?_)
          · have hf := ob_neg q14 hf
            refine g_iconst (n := 99) (v := 0) d_M_isBad_98 rfl (by decide) ?_
            cases hf
            exact g_zret d_M_isBad_99 rfl am_z0 (Nat.zero_le _) (Nat.zero_le _)
          · have hf := ob_pos q14 hf
            refine g_iload (n := 86) d_M_isBad_84 rfl 1 rfl ?_
            refine g_if_eq (n := 89) (tgt := 94) d_M_isBad_86 rfl (by decide) (fun q15 => ?_) (fun q15 => ?_)
            · have hf := ob_pos q15 hf
              refine g_iconst (n := 95) (v := 1) d_M_isBad_94 rfl (by decide) ?_
              refine g_goto (n := 99) d_M_isBad_95 (by decide) ?_
              cases hf
              exact g_zret d_M_isBad_99 rfl am_z1 (Nat.zero_le _) (Nat.zero_le _)
            · have hf := ob_neg q15 hf
              refine g_iload_n (n := 90) d_M_isBad_89 rfl 5 rfl rfl ?_
              refine g_iconst (n := 91) (v := 4) d_M_isBad_90 rfl (by decide) ?_
              refine g_icmp_ne (n := 94) (tgt := 98) d_M_isBad_91 rfl (by decide) (fun q16 => ?_) (fun q16 => ?_)
              · have hf := ob_neg q16 hf
                refine g_iconst (n := 99) (v := 0) d_M_isBad_98 rfl (by decide) ?_
                cases hf
                exact g_zret d_M_isBad_99 rfl am_z0 (Nat.zero_le _) (Nat.zero_le _)
              · have hf := ob_pos q16 hf
                refine g_iconst (n := 95) (v := 1) d_M_isBad_94 rfl (by decide) ?_
                refine g_goto (n := 99) d_M_isBad_95 (by decide) ?_
                cases hf
                exact g_zret d_M_isBad_99 rfl am_z1 (Nat.zero_le _) (Nat.zero_le _)
        · have hf := ob_neg q12 hf
          refine g_aload_n (n := 49) d_M_isBad_48 rfl 2 rfl rfl ?_
          refine g_iload (n := 51) d_M_isBad_49 rfl 0 rfl ?_
          obtain ⟨r17, h18, hf⟩ := ob_bind hf
          refine c_Vr (n := 54) (st' := [.int r17]) [.int r2] [] d_M_isBad_51 rfl (s_M_cell htr h18 rfl) tw_953 tw_955 (am_memS 16 (by decide +kernel) (by decide +kernel)) tw_8 tw_956 hd_M_cell (by omega) (by decide) (ci := 7) rfl rfl rfl (Nat.le_of_ble_eq_true rfl) rfl rfl ?_
          refine g_if_eq (n := 57) (tgt := 67) d_M_isBad_54 rfl (by decide) (fun q19 => ?_) (fun q19 => ?_)
          · have hf := ob_pos q19 hf
            refine g_iconst (n := 68) (v := 1) d_M_isBad_67 rfl (by decide) ?_
            refine g_goto (n := 72) d_M_isBad_68 (by decide) ?_
            refine g_istore (n := 74) (ls' := [(5, .int 1), (4, .int r2), (3, .int (dk (x1 + 6).toNatClampNeg)), (0, .ref 18), (1, .int x1), (2, .int x2)]) d_M_isBad_72 rfl (am_ltb rfl) rfl ?_
            refine g_iload (n := 76) d_M_isBad_74 rfl 0 rfl ?_
            refine g_if_ne (n := 79) (tgt := 94) d_M_isBad_76 rfl (by decide) (fun _ => ?_) (fun q20 => absurd q20 (by decide))
            refine g_iconst (n := 95) (v := 1) d_M_isBad_94 rfl (by decide) ?_
            refine g_goto (n := 99) d_M_isBad_95 (by decide) ?_
            cases hf
            exact g_zret d_M_isBad_99 rfl am_z1 (Nat.zero_le _) (Nat.zero_le _)
          · have hf := ob_neg q19 hf
            refine g_aload_n (n := 58) d_M_isBad_57 rfl 2 rfl rfl ?_
            refine g_get (n := 61) (q0 := 18) d_M_isBad_58 rfl (am_fl in_M rfl (by decide : 15 < 20)) (List.mem_cons_of_mem _ tw_880) rfl rfl ?_
            refine g_iload (n := 63) d_M_isBad_61 rfl 0 rfl ?_
            obtain ⟨b21, hf⟩ := ob_chk hf
            refine g_zald (n := 64) (q0 := 24) d_M_isBad_63 rfl rfl (am_inl b21) ?_
            refine g_if_eq (n := 67) (tgt := 71) d_M_isBad_64 rfl (by decide) (fun q22 => ?_) (fun q22 => ?_)
            · have hf := ob_pos q22 hf
              refine g_iconst (n := 72) (v := 0) d_M_isBad_71 rfl (by decide) ?_
              refine g_istore (n := 74) (ls' := [(5, .int 0), (4, .int r2), (3, .int (dk (x1 + 6).toNatClampNeg)), (0, .ref 18), (1, .int x1), (2, .int x2)]) d_M_isBad_72 rfl (am_ltb rfl) rfl ?_
              refine g_iload (n := 76) d_M_isBad_74 rfl 0 rfl ?_
              refine g_if_ne (n := 79) (tgt := 94) d_M_isBad_76 rfl (by decide) (fun q23 => absurd q23 (by decide)) (fun _ => ?_)
              refine g_iload_n (n := 80) d_M_isBad_79 rfl 2 rfl rfl ?_
              refine g_iconst (n := 81) (v := 2) d_M_isBad_80 rfl (by decide) ?_
              refine g_icmp_ne (n := 84) (tgt := 98) d_M_isBad_81 rfl (by decide) (fun q24 => ?_) (fun q24 => ?_)
              · have hf := ob_neg q24 hf
                refine g_iconst (n := 99) (v := 0) d_M_isBad_98 rfl (by decide) ?_
                cases hf
                exact g_zret d_M_isBad_99 rfl am_z0 (Nat.zero_le _) (Nat.zero_le _)
              · have hf := ob_pos q24 hf
                refine g_iload (n := 86) d_M_isBad_84 rfl 1 rfl ?_
                refine g_if_eq (n := 89) (tgt := 94) d_M_isBad_86 rfl (by decide) (fun q25 => ?_) (fun q25 => ?_)
                · have hf := ob_pos q25 hf
                  refine g_iconst (n := 95) (v := 1) d_M_isBad_94 rfl (by decide) ?_
                  refine g_goto (n := 99) d_M_isBad_95 (by decide) ?_
                  cases hf
                  exact g_zret d_M_isBad_99 rfl am_z1 (Nat.zero_le _) (Nat.zero_le _)
                · have hf := ob_neg q25 hf
                  refine g_iload_n (n := 90) d_M_isBad_89 rfl 5 rfl rfl ?_
                  refine g_iconst (n := 91) (v := 4) d_M_isBad_90 rfl (by decide) ?_
                  refine g_icmp_ne (n := 94) (tgt := 98) d_M_isBad_91 rfl (by decide) (fun q26 => ?_) (fun q26 => ?_)
                  · have hf := ob_neg q26 hf
                    refine g_iconst (n := 99) (v := 0) d_M_isBad_98 rfl (by decide) ?_
                    cases hf
                    exact g_zret d_M_isBad_99 rfl am_z0 (Nat.zero_le _) (Nat.zero_le _)
                  · have hf := ob_pos q26 hf
                    refine g_iconst (n := 95) (v := 1) d_M_isBad_94 rfl (by decide) ?_
                    refine g_goto (n := 99) d_M_isBad_95 (by decide) ?_
                    cases hf
                    exact g_zret d_M_isBad_99 rfl am_z1 (Nat.zero_le _) (Nat.zero_le _)
            · have hf := ob_neg q22 hf
              refine g_iconst (n := 68) (v := 1) d_M_isBad_67 rfl (by decide) ?_
              refine g_goto (n := 72) d_M_isBad_68 (by decide) ?_
              refine g_istore (n := 74) (ls' := [(5, .int 1), (4, .int r2), (3, .int (dk (x1 + 6).toNatClampNeg)), (0, .ref 18), (1, .int x1), (2, .int x2)]) d_M_isBad_72 rfl (am_ltb rfl) rfl ?_
              refine g_iload (n := 76) d_M_isBad_74 rfl 0 rfl ?_
              refine g_if_ne (n := 79) (tgt := 94) d_M_isBad_76 rfl (by decide) (fun _ => ?_) (fun q27 => absurd q27 (by decide))
              refine g_iconst (n := 95) (v := 1) d_M_isBad_94 rfl (by decide) ?_
              refine g_goto (n := 99) d_M_isBad_95 (by decide) ?_
              cases hf
              exact g_zret d_M_isBad_99 rfl am_z1 (Nat.zero_le _) (Nat.zero_le _)
