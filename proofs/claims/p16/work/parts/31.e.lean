def f_M_writePart (w : am_MS) (mp : Int32) (ml : Nat → Int32) (nm : Nat → Int32) (x1 : Int32) (x2 : Int32) : Option (am_MS) :=
  ((f_M_door w).bind fun r1 => (if r1.1 = 0 then some r1.2 else f_M_writePart_L13 100000000000 r1.2 mp ml nm x1 x2 0 0))
set_option maxHeartbeats 4000000 in
set_option maxRecDepth 100000 in
theorem s_M_writePart {l : Launch} {D : va_G} {dA : FieldType → ClassId} (htr : l.stackTraces = false) {hx : Nat → am_E} {rest : List am_E} {th : Int32} {sp : Int32} {mp : Int32} {mf : Int32} {ml : Nat → Int32} {ps : Nat → Int32} {nm : Nat → Int32} {mu : Nat → Int32} {ch : Nat → Int32} {wy : Nat → Int32} {nx : Nat → Int32} {w : am_MS} {x1 : Int32} {x2 : Int32} {r : am_MS} (hf : f_M_writePart w mp ml nm x1 x2 = some r) {o : am_O} (ho : .inl none = o) :
    am_M (am_kk l D dA) y_M_writePart ws_M_writePart (am_rm 2 o) [.ref 18, .int x1, .int x2] (hM hx w.1 w.2.1 w.2.2.1 w.2.2.2.1 w.2.2.2.2.1 w.2.2.2.2.2.1 w.2.2.2.2.2.2.1 w.2.2.2.2.2.2.2.1 w.2.2.2.2.2.2.2.2 th sp mp mf ml ps nm mu ch wy nx rest) o (hM hx r.1 r.2.1 r.2.2.1 r.2.2.2.1 r.2.2.2.2.1 r.2.2.2.2.2.1 r.2.2.2.2.2.2.1 r.2.2.2.2.2.2.2.1 r.2.2.2.2.2.2.2.2 th sp mp mf ml ps nm mu ch wy nx rest) := by
  subst ho
  refine am_body (by decide) rfl (Nat.le_of_ble_eq_true rfl) rfl ?_
  rw [f_M_writePart] at hf
  refine g_aload_n (n := 1) d_M_writePart_0 rfl 0 rfl rfl ?_
  obtain ⟨r1, h2, hf⟩ := ob_bind hf
  refine c_Vr (n := 4) (st' := [.int r1.1]) [] [] d_M_writePart_1 rfl (s_M_door htr h2 rfl) tw_1025 tw_1027 (am_memS 31 (by decide +kernel) (by decide +kernel)) tw_8 tw_1028 hd_M_door (by omega) (by decide) (ci := 7) rfl rfl rfl (Nat.le_of_ble_eq_true rfl) rfl rfl ?_
  refine g_if_ne (n := 7) (tgt := 8) d_M_writePart_4 rfl (by decide) (fun q3 => ?_) (fun q3 => ?_)
  · have hf := ob_neg q3 hf
    refine g_iconst (n := 9) (v := 0) d_M_writePart_8 rfl (by decide) ?_
    refine g_istore_n (n := 10) (ls' := [(3, .int 0), (0, .ref 18), (1, .int x1), (2, .int x2)]) d_M_writePart_9 rfl rfl (am_ltb rfl) rfl ?_
    refine g_iconst (n := 11) (v := 0) d_M_writePart_10 rfl (by decide) ?_
    refine g_istore (n := 13) (ls' := [(4, .int 0), (3, .int 0), (0, .ref 18), (1, .int x1), (2, .int x2)]) d_M_writePart_11 rfl (am_ltb rfl) rfl ?_
    refine g_ls [2, 3, 4, 1, 0] rfl ?_
    exact s_M_writePart_L13 htr 100000000000 r1.2 mp ml nm x1 x2 0 0 _ hf _ rfl
  · have hf := ob_pos q3 hf
    cases hf
    exact g_vret d_M_writePart_7 rfl (Nat.zero_le _) (Nat.zero_le _)
def f_M_writeEntry_L11 : Nat → am_MS → (Nat → Int32) → Int32 → Int32 → Int32 → Int32 → Option (am_MS)
  | 0, _, _, _, _, _, _ => none
  | fuel + 1, w, nm, x1, x2, x3, x4 =>
  (if 16 ≤ x4 then (if am_in (x1 + 6) 2240 = true then ((f_M_number (upd w.2.2.2.2.2.2.2.1 (x1 + 6).toNatClampNeg x2) (x1 + 8) x3).bind fun r6 => some (w.1, w.2.1, w.2.2.1, w.2.2.2.1, w.2.2.2.2.1, w.2.2.2.2.2.1, w.2.2.2.2.2.2.1, r6, w.2.2.2.2.2.2.2.2)) else none) else (if 6 ≤ x4 then (if am_in (x1 + x4) 2240 = true then f_M_writeEntry_L11 fuel (w.1, w.2.1, w.2.2.1, w.2.2.2.1, w.2.2.2.2.1, w.2.2.2.2.2.1, w.2.2.2.2.2.2.1, (upd w.2.2.2.2.2.2.2.1 (x1 + x4).toNatClampNeg 0), w.2.2.2.2.2.2.2.2) nm x1 x2 x3 (x4 + 1) else none) else (if am_in x4 6 = true then (if am_in (x1 + x4) 2240 = true then f_M_writeEntry_L11 fuel (w.1, w.2.1, w.2.2.1, w.2.2.2.1, w.2.2.2.2.1, w.2.2.2.2.2.1, w.2.2.2.2.2.2.1, (upd w.2.2.2.2.2.2.2.1 (x1 + x4).toNatClampNeg (nm x4.toNatClampNeg)), w.2.2.2.2.2.2.2.2) nm x1 x2 x3 (x4 + 1) else none) else none)))
set_option maxHeartbeats 4000000 in
set_option maxRecDepth 100000 in
theorem s_M_writeEntry_L11 {l : Launch} {D : va_G} {dA : FieldType → ClassId} (htr : l.stackTraces = false) {hx : Nat → am_E} {rest : List am_E} {th : Int32} {sp : Int32} {mp : Int32} {mf : Int32} {ml : Nat → Int32} {ps : Nat → Int32} {mu : Nat → Int32} {ch : Nat → Int32} {wy : Nat → Int32} {nx : Nat → Int32}  : ∀ (fuel : Nat) (w : am_MS) (nm : Nat → Int32) (x1 : Int32) (x2 : Int32) (x3 : Int32) (x4 : Int32) (r : am_MS), f_M_writeEntry_L11 fuel w nm x1 x2 x3 x4 = some r → ∀ o : am_O, .inl none = o →
    am_G (am_kk l D dA) (ws_M_writeEntry, y_M_writeEntry.cls, prog_9_method_34_code, 5, none, y_M_writeEntry.name, [], am_rm 2 (o), none) o (hM hx r.1 r.2.1 r.2.2.1 r.2.2.2.1 r.2.2.2.2.1 r.2.2.2.2.2.1 r.2.2.2.2.2.2.1 r.2.2.2.2.2.2.2.1 r.2.2.2.2.2.2.2.2 th sp mp mf ml ps nm mu ch wy nx rest) 0 0 11 [(0, .ref 18), (1, .int x1), (2, .int x2), (3, .int x3), (4, .int x4)] [] (hM hx w.1 w.2.1 w.2.2.1 w.2.2.2.1 w.2.2.2.2.1 w.2.2.2.2.2.1 w.2.2.2.2.2.2.1 w.2.2.2.2.2.2.2.1 w.2.2.2.2.2.2.2.2 th sp mp mf ml ps nm mu ch wy nx rest) := by
  intro fuel
  induction fuel with
  | zero =>
    intro w nm x1 x2 x3 x4 r hf
    cases hf
  | succ fuel ih =>
    intro w nm x1 x2 x3 x4 r hf o ho
    subst ho
    rw [f_M_writeEntry_L11] at hf
    refine g_iload (n := 13) d_M_writeEntry_11 rfl 4 rfl ?_
    refine g_bipush (n := 15) (v := 16) d_M_writeEntry_13 rfl (by decide) ?_
    refine g_icmp_ge (n := 18) (tgt := 51) d_M_writeEntry_15 rfl (by decide) (fun q4 => ?_) (fun q4 => ?_)
    · have hf := ob_pos q4 hf
      refine g_aload_n (n := 52) d_M_writeEntry_51 rfl 0 rfl rfl ?_
      refine g_get (n := 55) (q0 := 18) d_M_writeEntry_52 rfl (am_fl in_M rfl (by decide : 1 < 20)) (List.mem_cons_of_mem _ tw_866) rfl rfl ?_
      refine g_iload_n (n := 56) d_M_writeEntry_55 rfl 1 rfl rfl ?_
      refine g_bipush (n := 58) (v := 6) d_M_writeEntry_56 rfl (by decide) ?_
      refine g_iadd (n := 59) d_M_writeEntry_58 rfl ?_
      refine g_iload_n (n := 60) d_M_writeEntry_59 rfl 2 rfl rfl ?_
      obtain ⟨b5, hf⟩ := ob_chk hf
      refine g_iast (n := 61) (q0 := 19) (h' := (hM hx w.1 w.2.1 w.2.2.1 w.2.2.2.1 w.2.2.2.2.1 w.2.2.2.2.2.1 w.2.2.2.2.2.2.1 (upd w.2.2.2.2.2.2.2.1 (x1 + 6).toNatClampNeg x2) w.2.2.2.2.2.2.2.2 th sp mp mf ml ps nm mu ch wy nx rest)) d_M_writeEntry_60 rfl rfl (am_inl b5) rfl ?_
      refine g_aload_n (n := 62) d_M_writeEntry_61 rfl 0 rfl rfl ?_
      refine g_iload_n (n := 63) d_M_writeEntry_62 rfl 1 rfl rfl ?_
      refine g_bipush (n := 65) (v := 8) d_M_writeEntry_63 rfl (by decide) ?_
      refine g_iadd (n := 66) d_M_writeEntry_65 rfl ?_
      refine g_iload_n (n := 67) d_M_writeEntry_66 rfl 3 rfl rfl ?_
      obtain ⟨r6, h7, hf⟩ := ob_bind hf
      refine c_Vr (n := 70) (st' := []) [.int (x1 + 8), .int x3] [] d_M_writeEntry_67 rfl (s_M_number htr h7 rfl) tw_861 tw_863 (am_memS 11 (by decide +kernel) (by decide +kernel)) tw_8 tw_864 hd_M_number (by omega) (by decide) (ci := 7) rfl rfl rfl (Nat.le_of_ble_eq_true rfl) rfl rfl ?_
      cases hf
      exact g_vret d_M_writeEntry_70 rfl (Nat.zero_le _) (Nat.zero_le _)
    · have hf := ob_neg q4 hf
      refine g_aload_n (n := 19) d_M_writeEntry_18 rfl 0 rfl rfl ?_
      refine g_get (n := 22) (q0 := 18) d_M_writeEntry_19 rfl (am_fl in_M rfl (by decide : 1 < 20)) (List.mem_cons_of_mem _ tw_866) rfl rfl ?_
      refine g_iload_n (n := 23) d_M_writeEntry_22 rfl 1 rfl rfl ?_
      refine g_iload (n := 25) d_M_writeEntry_23 rfl 4 rfl ?_
      refine g_iadd (n := 26) d_M_writeEntry_25 rfl ?_
      refine g_iload (n := 28) d_M_writeEntry_26 rfl 4 rfl ?_
      refine g_bipush (n := 30) (v := 6) d_M_writeEntry_28 rfl (by decide) ?_
      refine g_icmp_ge (n := 33) (tgt := 43) d_M_writeEntry_30 rfl (by decide) (fun q8 => ?_) (fun q8 => ?_)
      · have hf := ob_pos q8 hf
        refine g_iconst (n := 44) (v := 0) d_M_writeEntry_43 rfl (by decide) ?_
        obtain ⟨b9, hf⟩ := ob_chk hf
        refine g_iast (n := 45) (q0 := 19) (h' := (hM hx w.1 w.2.1 w.2.2.1 w.2.2.2.1 w.2.2.2.2.1 w.2.2.2.2.2.1 w.2.2.2.2.2.2.1 (upd w.2.2.2.2.2.2.2.1 (x1 + x4).toNatClampNeg 0) w.2.2.2.2.2.2.2.2 th sp mp mf ml ps nm mu ch wy nx rest)) d_M_writeEntry_44 rfl rfl (am_inl b9) rfl ?_
        refine g_iinc (n := 48) (v := (x4 + 1)) (ls' := [(4, .int (x4 + 1)), (0, .ref 18), (1, .int x1), (2, .int x2), (3, .int x3)]) d_M_writeEntry_45 rfl 4 rfl rfl (am_ltb rfl) rfl ?_
        refine g_goto (n := 11) d_M_writeEntry_48 (by decide) ?_
        refine g_ls [1, 2, 3, 4, 0] rfl ?_
        exact ih (w.1, w.2.1, w.2.2.1, w.2.2.2.1, w.2.2.2.2.1, w.2.2.2.2.2.1, w.2.2.2.2.2.2.1, (upd w.2.2.2.2.2.2.2.1 (x1 + x4).toNatClampNeg 0), w.2.2.2.2.2.2.2.2) nm x1 x2 x3 (x4 + 1) _ hf _ rfl
      · have hf := ob_neg q8 hf
        refine g_aload_n (n := 34) d_M_writeEntry_33 rfl 0 rfl rfl ?_
        refine g_get (n := 37) (q0 := 18) d_M_writeEntry_34 rfl (am_fl in_M rfl (by decide : 13 < 20)) (List.mem_cons_of_mem _ tw_878) rfl rfl ?_
        refine g_iload (n := 39) d_M_writeEntry_37 rfl 4 rfl ?_
        obtain ⟨b10, hf⟩ := ob_chk hf
        refine g_iald (n := 40) (q0 := 23) d_M_writeEntry_39 rfl rfl (am_inl b10) ?_
        refine g_goto (n := 44) d_M_writeEntry_40 (by decide) ?_
        obtain ⟨b11, hf⟩ := ob_chk hf
        refine g_iast (n := 45) (q0 := 19) (h' := (hM hx w.1 w.2.1 w.2.2.1 w.2.2.2.1 w.2.2.2.2.1 w.2.2.2.2.2.1 w.2.2.2.2.2.2.1 (upd w.2.2.2.2.2.2.2.1 (x1 + x4).toNatClampNeg (nm x4.toNatClampNeg)) w.2.2.2.2.2.2.2.2 th sp mp mf ml ps nm mu ch wy nx rest)) d_M_writeEntry_44 rfl rfl (am_inl b11) rfl ?_
        refine g_iinc (n := 48) (v := (x4 + 1)) (ls' := [(4, .int (x4 + 1)), (0, .ref 18), (1, .int x1), (2, .int x2), (3, .int x3)]) d_M_writeEntry_45 rfl 4 rfl rfl (am_ltb rfl) rfl ?_
        refine g_goto (n := 11) d_M_writeEntry_48 (by decide) ?_
        refine g_ls [1, 2, 3, 4, 0] rfl ?_
        exact ih (w.1, w.2.1, w.2.2.1, w.2.2.2.1, w.2.2.2.2.1, w.2.2.2.2.2.1, w.2.2.2.2.2.2.1, (upd w.2.2.2.2.2.2.2.1 (x1 + x4).toNatClampNeg (nm x4.toNatClampNeg)), w.2.2.2.2.2.2.2.2) nm x1 x2 x3 (x4 + 1) _ hf _ rfl
def f_M_writeEntry (w : am_MS) (nm : Nat → Int32) (x1 : Int32) (x2 : Int32) (x3 : Int32) : Option (am_MS) :=
  ((f_M_door w).bind fun r1 => (if r1.1 = 0 then some r1.2 else f_M_writeEntry_L11 100000000000 r1.2 nm x1 x2 x3 0))
set_option maxHeartbeats 4000000 in
set_option maxRecDepth 100000 in
theorem s_M_writeEntry {l : Launch} {D : va_G} {dA : FieldType → ClassId} (htr : l.stackTraces = false) {hx : Nat → am_E} {rest : List am_E} {th : Int32} {sp : Int32} {mp : Int32} {mf : Int32} {ml : Nat → Int32} {ps : Nat → Int32} {nm : Nat → Int32} {mu : Nat → Int32} {ch : Nat → Int32} {wy : Nat → Int32} {nx : Nat → Int32} {w : am_MS} {x1 : Int32} {x2 : Int32} {x3 : Int32} {r : am_MS} (hf : f_M_writeEntry w nm x1 x2 x3 = some r) {o : am_O} (ho : .inl none = o) :
    am_M (am_kk l D dA) y_M_writeEntry ws_M_writeEntry (am_rm 2 o) [.ref 18, .int x1, .int x2, .int x3] (hM hx w.1 w.2.1 w.2.2.1 w.2.2.2.1 w.2.2.2.2.1 w.2.2.2.2.2.1 w.2.2.2.2.2.2.1 w.2.2.2.2.2.2.2.1 w.2.2.2.2.2.2.2.2 th sp mp mf ml ps nm mu ch wy nx rest) o (hM hx r.1 r.2.1 r.2.2.1 r.2.2.2.1 r.2.2.2.2.1 r.2.2.2.2.2.1 r.2.2.2.2.2.2.1 r.2.2.2.2.2.2.2.1 r.2.2.2.2.2.2.2.2 th sp mp mf ml ps nm mu ch wy nx rest) := by
  subst ho
  refine am_body (by decide) rfl (Nat.le_of_ble_eq_true rfl) rfl ?_
  rw [f_M_writeEntry] at hf
  refine g_aload_n (n := 1) d_M_writeEntry_0 rfl 0 rfl rfl ?_
  obtain ⟨r1, h2, hf⟩ := ob_bind hf
  refine c_Vr (n := 4) (st' := [.int r1.1]) [] [] d_M_writeEntry_1 rfl (s_M_door htr h2 rfl) tw_1025 tw_1027 (am_memS 31 (by decide +kernel) (by decide +kernel)) tw_8 tw_1028 hd_M_door (by omega) (by decide) (ci := 7) rfl rfl rfl (Nat.le_of_ble_eq_true rfl) rfl rfl ?_
  refine g_if_ne (n := 7) (tgt := 8) d_M_writeEntry_4 rfl (by decide) (fun q3 => ?_) (fun q3 => ?_)
  · have hf := ob_neg q3 hf
    refine g_iconst (n := 9) (v := 0) d_M_writeEntry_8 rfl (by decide) ?_
    refine g_istore (n := 11) (ls' := [(4, .int 0), (0, .ref 18), (1, .int x1), (2, .int x2), (3, .int x3)]) d_M_writeEntry_9 rfl (am_ltb rfl) rfl ?_
    refine g_ls [1, 2, 3, 4, 0] rfl ?_
    exact s_M_writeEntry_L11 htr 100000000000 r1.2 nm x1 x2 x3 0 _ hf _ rfl
  · have hf := ob_pos q3 hf
    cases hf
    exact g_vret d_M_writeEntry_7 rfl (Nat.zero_le _) (Nat.zero_le _)
def f_M_make_L104 : Nat → am_MS → Int32 → (Nat → Int32) → (Nat → Int32) → Int32 → Int32 → Int32 → Int32 → Option (Int32 × am_MS)
  | 0, _, _, _, _, _, _, _, _ => none
  | fuel + 1, w, mp, ml, nm, x1, x2, x3, x4 =>
  (if x4 ≤ 0 then (if w.2.1 = 0 then ((f_M_place w.2.2.2.2.2.2.2.1 w.2.2.2.2.2.1 (x3 + mp)).bind fun r8 => ((f_M_writeEntry w nm r8 x1 x2).bind fun r10 => some (1, r10))) else some (1, w)) else (if w.2.1 = 0 then ((f_M_place w.2.2.2.2.2.2.2.1 w.2.2.2.2.2.1 ((x3 + mp) - x4)).bind fun r14 => ((f_M_writePart w mp ml nm r14 x4).bind fun r16 => f_M_make_L104 fuel r16 mp ml nm x1 x2 x3 (x4 + (-1)))) else some (1, w)))
set_option maxHeartbeats 4000000 in
set_option maxRecDepth 100000 in
theorem s_M_make_L104 {l : Launch} {D : va_G} {dA : FieldType → ClassId} (htr : l.stackTraces = false) {hx : Nat → am_E} {rest : List am_E} {th : Int32} {sp : Int32} {mf : Int32} {ps : Nat → Int32} {mu : Nat → Int32} {ch : Nat → Int32} {wy : Nat → Int32} {nx : Nat → Int32}  : ∀ (fuel : Nat) (w : am_MS) (mp : Int32) (ml : Nat → Int32) (nm : Nat → Int32) (x1 : Int32) (x2 : Int32) (x3 : Int32) (x4 : Int32) (r : Int32 × am_MS), f_M_make_L104 fuel w mp ml nm x1 x2 x3 x4 = some r → ∀ o : am_O, .inl (some (.int r.1)) = o →
    am_G (am_kk l D dA) (ws_M_make, y_M_make.cls, prog_9_method_35_code, 5, (some .boolean), y_M_make.name, [], am_rm 5 (o), none) o (hM hx r.2.1 r.2.2.1 r.2.2.2.1 r.2.2.2.2.1 r.2.2.2.2.2.1 r.2.2.2.2.2.2.1 r.2.2.2.2.2.2.2.1 r.2.2.2.2.2.2.2.2.1 r.2.2.2.2.2.2.2.2.2 th sp mp mf ml ps nm mu ch wy nx rest) 0 0 104 [(0, .ref 18), (1, .int x1), (2, .int x2), (3, .int x3), (4, .int x4)] [] (hM hx w.1 w.2.1 w.2.2.1 w.2.2.2.1 w.2.2.2.2.1 w.2.2.2.2.2.1 w.2.2.2.2.2.2.1 w.2.2.2.2.2.2.2.1 w.2.2.2.2.2.2.2.2 th sp mp mf ml ps nm mu ch wy nx rest) := by
  intro fuel
  induction fuel with
  | zero =>
    intro w mp ml nm x1 x2 x3 x4 r hf
    cases hf
  | succ fuel ih =>
    intro w mp ml nm x1 x2 x3 x4 r hf o ho
    subst ho
    rw [f_M_make_L104] at hf
    refine g_iload (n := 106) d_M_make_104 rfl 4 rfl ?_
    refine g_if_le (n := 109) (tgt := 145) d_M_make_106 rfl (by decide) (fun q6 => ?_) (fun q6 => ?_)
    · have hf := ob_pos q6 hf
      refine g_aload_n (n := 146) d_M_make_145 rfl 0 rfl rfl ?_
      refine g_get (n := 149) (q0 := 18) d_M_make_146 rfl (am_fl in_M rfl (by decide : 4 < 20)) (List.mem_cons_of_mem _ tw_869) rfl rfl ?_
      refine g_if_ne (n := 152) (tgt := 172) d_M_make_149 rfl (by decide) (fun q7 => ?_) (fun q7 => ?_)
      · have hf := ob_neg q7 hf
        refine g_iconst (n := 173) (v := 1) d_M_make_172 rfl (by decide) ?_
        cases hf
        exact g_zret d_M_make_173 rfl am_z1 (Nat.zero_le _) (Nat.zero_le _)
      · have hf := ob_pos q7 hf
        refine g_aload_n (n := 153) d_M_make_152 rfl 0 rfl rfl ?_
        refine g_aload_n (n := 154) d_M_make_153 rfl 0 rfl rfl ?_
        refine g_aload_n (n := 155) d_M_make_154 rfl 0 rfl rfl ?_
        refine g_get (n := 158) (q0 := 18) d_M_make_155 rfl (am_fl in_M rfl (by decide : 9 < 20)) (List.mem_cons_of_mem _ tw_874) rfl rfl ?_
        refine g_iload_n (n := 159) d_M_make_158 rfl 3 rfl rfl ?_
        refine g_aload_n (n := 160) d_M_make_159 rfl 0 rfl rfl ?_
        refine g_get (n := 163) (q0 := 18) d_M_make_160 rfl (am_fl in_M rfl (by decide : 14 < 20)) (List.mem_cons_of_mem _ tw_879) rfl rfl ?_
        refine g_iadd (n := 164) d_M_make_163 rfl ?_
        obtain ⟨r8, h9, hf⟩ := ob_bind hf
        refine c_Vr (n := 167) (st' := [.int r8, .ref 18]) [.int w.2.2.2.2.2.1, .int (x3 + mp)] [.ref 18] d_M_make_164 rfl (s_M_place htr h9 rfl) tw_965 tw_967 (am_memS 19 (by decide +kernel) (by decide +kernel)) tw_8 tw_968 hd_M_place (by omega) (by decide) (ci := 7) rfl rfl rfl (Nat.le_of_ble_eq_true rfl) rfl rfl ?_
        refine g_iload_n (n := 168) d_M_make_167 rfl 1 rfl rfl ?_
        refine g_iload_n (n := 169) d_M_make_168 rfl 2 rfl rfl ?_
        obtain ⟨r10, h11, hf⟩ := ob_bind hf
        refine c_Vr (n := 172) (st' := []) [.int r8, .int x1, .int x2] [] d_M_make_169 rfl (s_M_writeEntry htr h11 rfl) tw_1041 tw_1043 (am_memS 35 (by decide +kernel) (by decide +kernel)) tw_8 tw_1044 hd_M_writeEntry (by omega) (by decide) (ci := 7) rfl rfl rfl (Nat.le_of_ble_eq_true rfl) rfl rfl ?_
        refine g_iconst (n := 173) (v := 1) d_M_make_172 rfl (by decide) ?_
        cases hf
        exact g_zret d_M_make_173 rfl am_z1 (Nat.zero_le _) (Nat.zero_le _)
    · have hf := ob_neg q6 hf
      refine g_aload_n (n := 110) d_M_make_109 rfl 0 rfl rfl ?_
      refine g_get (n := 113) (q0 := 18) d_M_make_110 rfl (am_fl in_M rfl (by decide : 4 < 20)) (List.mem_cons_of_mem _ tw_869) rfl rfl ?_
      refine g_if_ne (n := 116) (tgt := 145) d_M_make_113 rfl (by decide) (fun q12 => ?_) (fun q12 => ?_)
      · have hf := ob_neg q12 hf
        refine g_aload_n (n := 146) d_M_make_145 rfl 0 rfl rfl ?_
        refine g_get (n := 149) (q0 := 18) d_M_make_146 rfl (am_fl in_M rfl (by decide : 4 < 20)) (List.mem_cons_of_mem _ tw_869) rfl rfl ?_
        refine g_if_ne (n := 152) (tgt := 172) d_M_make_149 rfl (by decide) (fun _ => ?_) (fun q13 => absurd q13 q12)
        refine g_iconst (n := 173) (v := 1) d_M_make_172 rfl (by decide) ?_
        cases hf
        exact g_zret d_M_make_173 rfl am_z1 (Nat.zero_le _) (Nat.zero_le _)
      · have hf := ob_pos q12 hf
        refine g_aload_n (n := 117) d_M_make_116 rfl 0 rfl rfl ?_
        refine g_aload_n (n := 118) d_M_make_117 rfl 0 rfl rfl ?_
        refine g_aload_n (n := 119) d_M_make_118 rfl 0 rfl rfl ?_
        refine g_get (n := 122) (q0 := 18) d_M_make_119 rfl (am_fl in_M rfl (by decide : 9 < 20)) (List.mem_cons_of_mem _ tw_874) rfl rfl ?_
        refine g_iload_n (n := 123) d_M_make_122 rfl 3 rfl rfl ?_
        refine g_aload_n (n := 124) d_M_make_123 rfl 0 rfl rfl ?_
        refine g_get (n := 127) (q0 := 18) d_M_make_124 rfl (am_fl in_M rfl (by decide : 14 < 20)) (List.mem_cons_of_mem _ tw_879) rfl rfl ?_
        refine g_iadd (n := 128) d_M_make_127 rfl ?_
        refine g_iload (n := 130) d_M_make_128 rfl 4 rfl ?_
        refine g_isub (n := 131) d_M_make_130 rfl ?_
        obtain ⟨r14, h15, hf⟩ := ob_bind hf
        refine c_Vr (n := 134) (st' := [.int r14, .ref 18]) [.int w.2.2.2.2.2.1, .int ((x3 + mp) - x4)] [.ref 18] d_M_make_131 rfl (s_M_place htr h15 rfl) tw_965 tw_967 (am_memS 19 (by decide +kernel) (by decide +kernel)) tw_8 tw_968 hd_M_place (by omega) (by decide) (ci := 7) rfl rfl rfl (Nat.le_of_ble_eq_true rfl) rfl rfl ?_
        refine g_iload (n := 136) d_M_make_134 rfl 4 rfl ?_
        obtain ⟨r16, h17, hf⟩ := ob_bind hf
        refine c_Vr (n := 139) (st' := []) [.int r14, .int x4] [] d_M_make_136 rfl (s_M_writePart htr h17 rfl) tw_1037 tw_1039 (am_memS 34 (by decide +kernel) (by decide +kernel)) tw_8 tw_1040 hd_M_writePart (by omega) (by decide) (ci := 7) rfl rfl rfl (Nat.le_of_ble_eq_true rfl) rfl rfl ?_
        refine g_iinc (n := 142) (v := (x4 + (-1))) (ls' := [(4, .int (x4 + (-1))), (0, .ref 18), (1, .int x1), (2, .int x2), (3, .int x3)]) d_M_make_139 rfl 4 rfl rfl (am_ltb rfl) rfl ?_
        refine g_goto (n := 104) d_M_make_142 (by decide) ?_
        refine g_ls [1, 2, 3, 4, 0] rfl ?_
        exact ih r16 mp ml nm x1 x2 x3 (x4 + (-1)) _ hf _ rfl
def f_M_make_L36 : Nat → am_MS → Int32 → (Nat → Int32) → (Nat → Int32) → Int32 → Int32 → Int32 → Option (Int32 × am_MS)
  | 0, _, _, _, _, _, _, _ => none
  | fuel + 1, w, mp, ml, nm, x1, x2, x3 =>
  (if 0 ≤ x3 then f_M_make_L104 100000000000 w mp ml nm x1 x2 x3 mp else (if w.2.1 = 0 then ((f_M_take w).bind fun r19 => (if r19.1 = 0 then some (0, r19.2) else ((f_M_length r19.2.2.2.2.2.2.2.2.1 r19.2.2.2.2.2.2.1).bind fun r22 => ((f_M_cluster r19.2.2.2.2.2.2.2.2.1 r19.2.2.2.2.2.2.1 (r22 - 1)).bind fun r24 => ((f_M_set r19.2 r24 r19.1).bind fun r26 => ((f_M_space r26.2.2.2.2.2.1 r26.2.2.2.2.2.2.2.1 (mp + 1)).bind fun r28 => f_M_make_L36 fuel r26 mp ml nm x1 x2 r28)))))) else f_M_make_L104 100000000000 w mp ml nm x1 x2 x3 mp))
set_option maxHeartbeats 4000000 in
set_option maxRecDepth 100000 in
theorem s_M_make_L36 {l : Launch} {D : va_G} {dA : FieldType → ClassId} (htr : l.stackTraces = false) {hx : Nat → am_E} {rest : List am_E} {th : Int32} {sp : Int32} {mf : Int32} {ps : Nat → Int32} {mu : Nat → Int32} {ch : Nat → Int32} {wy : Nat → Int32} {nx : Nat → Int32}  : ∀ (fuel : Nat) (w : am_MS) (mp : Int32) (ml : Nat → Int32) (nm : Nat → Int32) (x1 : Int32) (x2 : Int32) (x3 : Int32) (r : Int32 × am_MS), f_M_make_L36 fuel w mp ml nm x1 x2 x3 = some r → ∀ o : am_O, .inl (some (.int r.1)) = o →
    am_G (am_kk l D dA) (ws_M_make, y_M_make.cls, prog_9_method_35_code, 5, (some .boolean), y_M_make.name, [], am_rm 5 (o), none) o (hM hx r.2.1 r.2.2.1 r.2.2.2.1 r.2.2.2.2.1 r.2.2.2.2.2.1 r.2.2.2.2.2.2.1 r.2.2.2.2.2.2.2.1 r.2.2.2.2.2.2.2.2.1 r.2.2.2.2.2.2.2.2.2 th sp mp mf ml ps nm mu ch wy nx rest) 0 0 36 [(0, .ref 18), (1, .int x1), (2, .int x2), (3, .int x3)] [] (hM hx w.1 w.2.1 w.2.2.1 w.2.2.2.1 w.2.2.2.2.1 w.2.2.2.2.2.1 w.2.2.2.2.2.2.1 w.2.2.2.2.2.2.2.1 w.2.2.2.2.2.2.2.2 th sp mp mf ml ps nm mu ch wy nx rest) := by
  intro fuel
  induction fuel with
  | zero =>
    intro w mp ml nm x1 x2 x3 r hf
    cases hf
  | succ fuel ih =>
    intro w mp ml nm x1 x2 x3 r hf o ho
    subst ho
    rw [f_M_make_L36] at hf
    refine g_iload_n (n := 37) d_M_make_36 rfl 3 rfl rfl ?_
    refine g_if_ge (n := 40) (tgt := 98) d_M_make_37 rfl (by decide) (fun q5 => ?_) (fun q5 => ?_)
    · have hf := ob_pos q5 hf
      refine g_aload_n (n := 99) d_M_make_98 rfl 0 rfl rfl ?_
      refine g_get (n := 102) (q0 := 18) d_M_make_99 rfl (am_fl in_M rfl (by decide : 14 < 20)) (List.mem_cons_of_mem _ tw_879) rfl rfl ?_
      refine g_istore (n := 104) (ls' := [(4, .int mp), (0, .ref 18), (1, .int x1), (2, .int x2), (3, .int x3)]) d_M_make_102 rfl (am_ltb rfl) rfl ?_
      refine g_ls [1, 2, 3, 4, 0] rfl ?_
      exact s_M_make_L104 htr 100000000000 w mp ml nm x1 x2 x3 mp _ hf _ rfl
    · have hf := ob_neg q5 hf
      refine g_aload_n (n := 41) d_M_make_40 rfl 0 rfl rfl ?_
      refine g_get (n := 44) (q0 := 18) d_M_make_41 rfl (am_fl in_M rfl (by decide : 4 < 20)) (List.mem_cons_of_mem _ tw_869) rfl rfl ?_
      refine g_if_ne (n := 47) (tgt := 98) d_M_make_44 rfl (by decide) (fun q18 => ?_) (fun q18 => ?_)
      · have hf := ob_neg q18 hf
        refine g_aload_n (n := 99) d_M_make_98 rfl 0 rfl rfl ?_
        refine g_get (n := 102) (q0 := 18) d_M_make_99 rfl (am_fl in_M rfl (by decide : 14 < 20)) (List.mem_cons_of_mem _ tw_879) rfl rfl ?_
        refine g_istore (n := 104) (ls' := [(4, .int mp), (0, .ref 18), (1, .int x1), (2, .int x2), (3, .int x3)]) d_M_make_102 rfl (am_ltb rfl) rfl ?_
        refine g_ls [1, 2, 3, 4, 0] rfl ?_
        exact s_M_make_L104 htr 100000000000 w mp ml nm x1 x2 x3 mp _ hf _ rfl
      · have hf := ob_pos q18 hf
        refine g_aload_n (n := 48) d_M_make_47 rfl 0 rfl rfl ?_
        obtain ⟨r19, h20, hf⟩ := ob_bind hf
        refine c_Vr (n := 51) (st' := [.int r19.1]) [] [] d_M_make_48 rfl (s_M_take htr h20 rfl) tw_1017 tw_1019 (am_memS 29 (by decide +kernel) (by decide +kernel)) tw_8 tw_1020 hd_M_take (by omega) (by decide) (ci := 7) rfl rfl rfl (Nat.le_of_ble_eq_true rfl) rfl rfl ?_
        refine g_istore (n := 53) (ls' := [(4, .int r19.1), (0, .ref 18), (1, .int x1), (2, .int x2), (3, .int x3)]) d_M_make_51 rfl (am_ltb rfl) rfl ?_
        refine g_iload (n := 55) d_M_make_53 rfl 0 rfl ?_
        refine g_if_ne (n := 58) (tgt := 60) d_M_make_55 rfl (by decide) (fun q21 => ?_) (fun q21 => ?_)
        · have hf := ob_neg q21 hf
          refine g_aload_n (n := 61) d_M_make_60 rfl 1 rfl rfl ?_
          refine g_aload_n (n := 62) d_M_make_61 rfl 1 rfl rfl ?_
          refine g_aload_n (n := 63) d_M_make_62 rfl 1 rfl rfl ?_
          refine g_get (n := 66) (q0 := 18) d_M_make_63 rfl (am_fl in_M rfl (by decide : 9 < 20)) (List.mem_cons_of_mem _ tw_874) rfl rfl ?_
          refine g_aload_n (n := 67) d_M_make_66 rfl 1 rfl rfl ?_
          refine g_aload_n (n := 68) d_M_make_67 rfl 1 rfl rfl ?_
          refine g_get (n := 71) (q0 := 18) d_M_make_68 rfl (am_fl in_M rfl (by decide : 9 < 20)) (List.mem_cons_of_mem _ tw_874) rfl rfl ?_
          obtain ⟨r22, h23, hf⟩ := ob_bind hf
          refine c_Vr (n := 74) (st' := [.int r22, .int r19.2.2.2.2.2.2.1, .ref 18, .ref 18]) [.int r19.2.2.2.2.2.2.1] [.int r19.2.2.2.2.2.2.1, .ref 18, .ref 18] d_M_make_71 rfl (s_M_length htr h23 rfl) tw_945 tw_947 (am_memS 14 (by decide +kernel) (by decide +kernel)) tw_8 tw_948 hd_M_length (by omega) (by decide) (ci := 7) rfl rfl rfl (Nat.le_of_ble_eq_true rfl) rfl rfl ?_
          refine g_iconst (n := 75) (v := 1) d_M_make_74 rfl (by decide) ?_
          refine g_isub (n := 76) d_M_make_75 rfl ?_
          obtain ⟨r24, h25, hf⟩ := ob_bind hf
          refine c_Vr (n := 79) (st' := [.int r24, .ref 18]) [.int r19.2.2.2.2.2.2.1, .int (r22 - 1)] [.ref 18] d_M_make_76 rfl (s_M_cluster htr h25 rfl) tw_949 tw_951 (am_memS 15 (by decide +kernel) (by decide +kernel)) tw_8 tw_952 hd_M_cluster (by omega) (by decide) (ci := 7) rfl rfl rfl (Nat.le_of_ble_eq_true rfl) rfl rfl ?_
          refine g_iload (n := 81) d_M_make_79 rfl 0 rfl ?_
          obtain ⟨r26, h27, hf⟩ := ob_bind hf
          refine c_Vr (n := 84) (st' := []) [.int r24, .int r19.1] [] d_M_make_81 rfl (s_M_set htr h27 rfl) tw_1021 tw_1023 (am_memS 30 (by decide +kernel) (by decide +kernel)) tw_8 tw_1024 hd_M_set (by omega) (by decide) (ci := 7) rfl rfl rfl (Nat.le_of_ble_eq_true rfl) rfl rfl ?_
          refine g_aload_n (n := 85) d_M_make_84 rfl 1 rfl rfl ?_
          refine g_aload_n (n := 86) d_M_make_85 rfl 1 rfl rfl ?_
          refine g_get (n := 89) (q0 := 18) d_M_make_86 rfl (am_fl in_M rfl (by decide : 14 < 20)) (List.mem_cons_of_mem _ tw_879) rfl rfl ?_
          refine g_iconst (n := 90) (v := 1) d_M_make_89 rfl (by decide) ?_
          refine g_iadd (n := 91) d_M_make_90 rfl ?_
          obtain ⟨r28, h29, hf⟩ := ob_bind hf
          refine c_Vr (n := 94) (st' := [.int r28]) [.int (mp + 1)] [] d_M_make_91 rfl (s_M_space htr h29 rfl) tw_1033 tw_1035 (am_memS 33 (by decide +kernel) (by decide +kernel)) tw_8 tw_1036 hd_M_space (by omega) (by decide) (ci := 7) rfl rfl rfl (Nat.le_of_ble_eq_true rfl) rfl rfl ?_
          refine g_istore_n (n := 95) (ls' := [(3, .int r28), (4, .int r19.1), (0, .ref 18), (1, .int x1), (2, .int x2)]) d_M_make_94 rfl rfl (am_ltb rfl) rfl ?_
          refine g_goto (n := 36) d_M_make_95 (by decide) ?_
          refine g_ls [2, 3, 4, 0] rfl ?_
          exact ih r26 mp ml nm x1 x2 r28 _ hf _ rfl
        · have hf := ob_pos q21 hf
          refine g_iconst (n := 59) (v := 0) d_M_make_58 rfl (by decide) ?_
          cases hf
          exact g_zret d_M_make_59 rfl am_z0 (Nat.zero_le _) (Nat.zero_le _)
def f_M_make (w : am_MS) (mp : Int32) (ml : Nat → Int32) (nm : Nat → Int32) (x1 : Int32) : Option (Int32 × am_MS) :=
  (if x1 = 2 then ((f_M_take w).bind fun r30 => (if r30.1 = 0 then some (0, r30.2) else ((f_M_space r30.2.2.2.2.2.2.1 r30.2.2.2.2.2.2.2.2.1 (mp + 1)).bind fun r34 => f_M_make_L36 100000000000 r30.2 mp ml nm x1 r30.1 r34))) else ((f_M_space w.2.2.2.2.2.1 w.2.2.2.2.2.2.2.1 (mp + 1)).bind fun r3 => f_M_make_L36 100000000000 w mp ml nm x1 0 r3))
set_option maxHeartbeats 4000000 in
set_option maxRecDepth 100000 in
theorem s_M_make {l : Launch} {D : va_G} {dA : FieldType → ClassId} (htr : l.stackTraces = false) {hx : Nat → am_E} {rest : List am_E} {th : Int32} {sp : Int32} {mp : Int32} {mf : Int32} {ml : Nat → Int32} {ps : Nat → Int32} {nm : Nat → Int32} {mu : Nat → Int32} {ch : Nat → Int32} {wy : Nat → Int32} {nx : Nat → Int32} {w : am_MS} {x1 : Int32} {r : Int32 × am_MS} (hf : f_M_make w mp ml nm x1 = some r) {o : am_O} (ho : .inl (some (.int r.1)) = o) :
    am_M (am_kk l D dA) y_M_make ws_M_make (am_rm 5 o) [.ref 18, .int x1] (hM hx w.1 w.2.1 w.2.2.1 w.2.2.2.1 w.2.2.2.2.1 w.2.2.2.2.2.1 w.2.2.2.2.2.2.1 w.2.2.2.2.2.2.2.1 w.2.2.2.2.2.2.2.2 th sp mp mf ml ps nm mu ch wy nx rest) o (hM hx r.2.1 r.2.2.1 r.2.2.2.1 r.2.2.2.2.1 r.2.2.2.2.2.1 r.2.2.2.2.2.2.1 r.2.2.2.2.2.2.2.1 r.2.2.2.2.2.2.2.2.1 r.2.2.2.2.2.2.2.2.2 th sp mp mf ml ps nm mu ch wy nx rest) := by
  subst ho
  refine am_body (by decide) rfl (Nat.le_of_ble_eq_true rfl) rfl ?_
  rw [f_M_make] at hf
  refine g_iload_n (n := 1) d_M_make_0 rfl 1 rfl rfl ?_
  refine g_iconst (n := 2) (v := 2) d_M_make_1 rfl (by decide) ?_
  refine g_icmp_ne (n := 5) (tgt := 12) d_M_make_2 rfl (by decide) (fun q1 => ?_) (fun q1 => ?_)
  · have hf := ob_neg q1 hf
    refine g_iconst (n := 13) (v := 0) d_M_make_12 rfl (by decide) ?_
    refine g_istore_n (n := 14) (ls' := [(2, .int 0), (0, .ref 18), (1, .int x1)]) d_M_make_13 rfl rfl (am_ltb rfl) rfl ?_
    refine g_iload_n (n := 15) d_M_make_14 rfl 2 rfl rfl ?_
    refine g_iconst (n := 16) (v := 2) d_M_make_15 rfl (by decide) ?_
    refine g_icmp_ne (n := 19) (tgt := 25) d_M_make_16 rfl (by decide) (fun _ => ?_) (fun q2 => absurd q2 q1)
    refine g_aload_n (n := 26) d_M_make_25 rfl 1 rfl rfl ?_
    refine g_aload_n (n := 27) d_M_make_26 rfl 1 rfl rfl ?_
    refine g_get (n := 30) (q0 := 18) d_M_make_27 rfl (am_fl in_M rfl (by decide : 14 < 20)) (List.mem_cons_of_mem _ tw_879) rfl rfl ?_
    refine g_iconst (n := 31) (v := 1) d_M_make_30 rfl (by decide) ?_
    refine g_iadd (n := 32) d_M_make_31 rfl ?_
    obtain ⟨r3, h4, hf⟩ := ob_bind hf
    refine c_Vr (n := 35) (st' := [.int r3]) [.int (mp + 1)] [] d_M_make_32 rfl (s_M_space htr h4 rfl) tw_1033 tw_1035 (am_memS 33 (by decide +kernel) (by decide +kernel)) tw_8 tw_1036 hd_M_space (by omega) (by decide) (ci := 7) rfl rfl rfl (Nat.le_of_ble_eq_true rfl) rfl rfl ?_
    refine g_istore_n (n := 36) (ls' := [(3, .int r3), (2, .int 0), (0, .ref 18), (1, .int x1)]) d_M_make_35 rfl rfl (am_ltb rfl) rfl ?_
    refine g_ls [2, 3, 1, 0] rfl ?_
    exact s_M_make_L36 htr 100000000000 w mp ml nm x1 0 r3 _ hf _ rfl
  · have hf := ob_pos q1 hf
    refine g_aload_n (n := 6) d_M_make_5 rfl 0 rfl rfl ?_
    obtain ⟨r30, h31, hf⟩ := ob_bind hf
    refine c_Vr (n := 9) (st' := [.int r30.1]) [] [] d_M_make_6 rfl (s_M_take htr h31 rfl) tw_1017 tw_1019 (am_memS 29 (by decide +kernel) (by decide +kernel)) tw_8 tw_1020 hd_M_take (by omega) (by decide) (ci := 7) rfl rfl rfl (Nat.le_of_ble_eq_true rfl) rfl rfl ?_
    refine g_goto (n := 13) d_M_make_9 (by decide) ?_
    refine g_istore_n (n := 14) (ls' := [(2, .int r30.1), (0, .ref 18), (1, .int x1)]) d_M_make_13 rfl rfl (am_ltb rfl) rfl ?_
    refine g_iload_n (n := 15) d_M_make_14 rfl 2 rfl rfl ?_
    refine g_iconst (n := 16) (v := 2) d_M_make_15 rfl (by decide) ?_
    refine g_icmp_ne (n := 19) (tgt := 25) d_M_make_16 rfl (by decide) (fun q32 => absurd q1 q32) (fun _ => ?_)
    refine g_iload_n (n := 20) d_M_make_19 rfl 0 rfl rfl ?_
    refine g_if_ne (n := 23) (tgt := 25) d_M_make_20 rfl (by decide) (fun q33 => ?_) (fun q33 => ?_)
    · have hf := ob_neg q33 hf
      refine g_aload_n (n := 26) d_M_make_25 rfl 1 rfl rfl ?_
      refine g_aload_n (n := 27) d_M_make_26 rfl 1 rfl rfl ?_
      refine g_get (n := 30) (q0 := 18) d_M_make_27 rfl (am_fl in_M rfl (by decide : 14 < 20)) (List.mem_cons_of_mem _ tw_879) rfl rfl ?_
      refine g_iconst (n := 31) (v := 1) d_M_make_30 rfl (by decide) ?_
      refine g_iadd (n := 32) d_M_make_31 rfl ?_
      obtain ⟨r34, h35, hf⟩ := ob_bind hf
      refine c_Vr (n := 35) (st' := [.int r34]) [.int (mp + 1)] [] d_M_make_32 rfl (s_M_space htr h35 rfl) tw_1033 tw_1035 (am_memS 33 (by decide +kernel) (by decide +kernel)) tw_8 tw_1036 hd_M_space (by omega) (by decide) (ci := 7) rfl rfl rfl (Nat.le_of_ble_eq_true rfl) rfl rfl ?_
      refine g_istore_n (n := 36) (ls' := [(3, .int r34), (2, .int r30.1), (0, .ref 18), (1, .int x1)]) d_M_make_35 rfl rfl (am_ltb rfl) rfl ?_
      refine g_ls [2, 3, 1, 0] rfl ?_
      exact s_M_make_L36 htr 100000000000 r30.2 mp ml nm x1 r30.1 r34 _ hf _ rfl
    · have hf := ob_pos q33 hf
      refine g_iconst (n := 24) (v := 0) d_M_make_23 rfl (by decide) ?_
      cases hf
      exact g_zret d_M_make_24 rfl am_z0 (Nat.zero_le _) (Nat.zero_le _)
def f_M_create (w : am_MS) (th : Int32) (sp : Int32) (mp : Int32) (ml : Nat → Int32) (nm : Nat → Int32) (x1 : Int32) : Option (am_MS × Int32 × Int32 × (Nat → Int32)) :=
  ((f_M_ready w.1 w.2.1 th sp).bind fun r1 => (if r1.1 = 0 then some ((w.1, r1.2.1, w.2.2.1, w.2.2.2.1, w.2.2.2.2.1, w.2.2.2.2.2.1, w.2.2.2.2.2.2.1, w.2.2.2.2.2.2.2.1, w.2.2.2.2.2.2.2.2), r1.2.2, mp, nm) else (if w.2.2.2.2.1 = 0 then some ((w.1, r1.2.1, w.2.2.1, w.2.2.2.1, 0, w.2.2.2.2.2.1, w.2.2.2.2.2.2.1, w.2.2.2.2.2.2.2.1, w.2.2.2.2.2.2.2.2), 2, mp, nm) else (if (ml (0 : Int32).toNatClampNeg) = 46 then some ((w.1, r1.2.1, w.2.2.1, w.2.2.2.1, 0, w.2.2.2.2.2.1, w.2.2.2.2.2.2.1, w.2.2.2.2.2.2.2.1, w.2.2.2.2.2.2.2.2), 2, mp, nm) else ((f_M_in x1 1 2).bind fun r6 => (if r6 = 0 then some ((w.1, r1.2.1, w.2.2.1, w.2.2.2.1, 0, w.2.2.2.2.2.1, w.2.2.2.2.2.2.1, w.2.2.2.2.2.2.2.1, w.2.2.2.2.2.2.2.2), 2, mp, nm) else ((f_M_find w.2.2.2.2.1 w.2.2.2.2.2.1 w.2.2.2.2.2.2.2.1 ml).bind fun r9 => (if 0 ≤ r9 then (if r1.2.1 = 0 then some ((w.1, r1.2.1, w.2.2.1, w.2.2.2.1, 0, w.2.2.2.2.2.1, w.2.2.2.2.2.2.1, w.2.2.2.2.2.2.2.1, w.2.2.2.2.2.2.2.2), 3, mp, nm) else some ((w.1, r1.2.1, w.2.2.1, w.2.2.2.1, 0, w.2.2.2.2.2.1, w.2.2.2.2.2.2.1, w.2.2.2.2.2.2.2.1, w.2.2.2.2.2.2.2.2), 1, mp, nm)) else (if x1 = 1 then ((f_M_shorten w.2.2.2.2.1 w.2.2.2.2.2.1 w.2.2.2.2.2.2.2.1 mp ml nm).bind fun r15 => (if r15.1 = 0 then (if r1.2.1 = 0 then some ((w.1, r1.2.1, w.2.2.1, w.2.2.2.1, 0, w.2.2.2.2.2.1, w.2.2.2.2.2.2.1, w.2.2.2.2.2.2.2.1, w.2.2.2.2.2.2.2.2), 3, r15.2.1, r15.2.2) else some ((w.1, r1.2.1, w.2.2.1, w.2.2.2.1, 0, w.2.2.2.2.2.1, w.2.2.2.2.2.2.1, w.2.2.2.2.2.2.2.1, w.2.2.2.2.2.2.2.2), 1, r15.2.1, r15.2.2)) else ((f_M_make (w.1, r1.2.1, w.2.2.1, w.2.2.2.1, w.2.2.2.2.1, w.2.2.2.2.2.1, w.2.2.2.2.2.2.1, w.2.2.2.2.2.2.2.1, w.2.2.2.2.2.2.2.2) r15.2.1 ml r15.2.2 x1).bind fun r20 => (if r20.1 = 0 then (if r20.2.2.1 = 0 then some ((r20.2.1, r20.2.2.1, r20.2.2.2.1, r20.2.2.2.2.1, 0, r20.2.2.2.2.2.2.1, r20.2.2.2.2.2.2.2.1, r20.2.2.2.2.2.2.2.2.1, r20.2.2.2.2.2.2.2.2.2), 3, r15.2.1, r15.2.2) else some ((r20.2.1, r20.2.2.1, r20.2.2.2.1, r20.2.2.2.2.1, 0, r20.2.2.2.2.2.2.1, r20.2.2.2.2.2.2.2.1, r20.2.2.2.2.2.2.2.2.1, r20.2.2.2.2.2.2.2.2.2), 1, r15.2.1, r15.2.2)) else (if r20.2.2.1 = 0 then some ((r20.2.1, r20.2.2.1, r20.2.2.2.1, r20.2.2.2.2.1, 0, r20.2.2.2.2.2.2.1, r20.2.2.2.2.2.2.2.1, r20.2.2.2.2.2.2.2.2.1, r20.2.2.2.2.2.2.2.2.2), 0, r15.2.1, r15.2.2) else some ((r20.2.1, r20.2.2.1, r20.2.2.2.1, r20.2.2.2.2.1, 0, r20.2.2.2.2.2.2.1, r20.2.2.2.2.2.2.2.1, r20.2.2.2.2.2.2.2.2.1, r20.2.2.2.2.2.2.2.2.2), 1, r15.2.1, r15.2.2)))))) else (if 5 ≤ w.2.2.2.2.2.2.1 then (if r1.2.1 = 0 then some ((w.1, r1.2.1, w.2.2.1, w.2.2.2.1, 0, w.2.2.2.2.2.1, w.2.2.2.2.2.2.1, w.2.2.2.2.2.2.2.1, w.2.2.2.2.2.2.2.2), 3, mp, nm) else some ((w.1, r1.2.1, w.2.2.1, w.2.2.2.1, 0, w.2.2.2.2.2.1, w.2.2.2.2.2.2.1, w.2.2.2.2.2.2.2.1, w.2.2.2.2.2.2.2.2), 1, mp, nm)) else ((f_M_shorten w.2.2.2.2.1 w.2.2.2.2.2.1 w.2.2.2.2.2.2.2.1 mp ml nm).bind fun r30 => (if r30.1 = 0 then (if r1.2.1 = 0 then some ((w.1, r1.2.1, w.2.2.1, w.2.2.2.1, 0, w.2.2.2.2.2.1, w.2.2.2.2.2.2.1, w.2.2.2.2.2.2.2.1, w.2.2.2.2.2.2.2.2), 3, r30.2.1, r30.2.2) else some ((w.1, r1.2.1, w.2.2.1, w.2.2.2.1, 0, w.2.2.2.2.2.1, w.2.2.2.2.2.2.1, w.2.2.2.2.2.2.2.1, w.2.2.2.2.2.2.2.2), 1, r30.2.1, r30.2.2)) else ((f_M_make (w.1, r1.2.1, w.2.2.1, w.2.2.2.1, w.2.2.2.2.1, w.2.2.2.2.2.1, w.2.2.2.2.2.2.1, w.2.2.2.2.2.2.2.1, w.2.2.2.2.2.2.2.2) r30.2.1 ml r30.2.2 x1).bind fun r35 => (if r35.1 = 0 then (if r35.2.2.1 = 0 then some ((r35.2.1, r35.2.2.1, r35.2.2.2.1, r35.2.2.2.2.1, 0, r35.2.2.2.2.2.2.1, r35.2.2.2.2.2.2.2.1, r35.2.2.2.2.2.2.2.2.1, r35.2.2.2.2.2.2.2.2.2), 3, r30.2.1, r30.2.2) else some ((r35.2.1, r35.2.2.1, r35.2.2.2.1, r35.2.2.2.2.1, 0, r35.2.2.2.2.2.2.1, r35.2.2.2.2.2.2.2.1, r35.2.2.2.2.2.2.2.2.1, r35.2.2.2.2.2.2.2.2.2), 1, r30.2.1, r30.2.2)) else (if r35.2.2.1 = 0 then some ((r35.2.1, r35.2.2.1, r35.2.2.2.1, r35.2.2.2.2.1, 0, r35.2.2.2.2.2.2.1, r35.2.2.2.2.2.2.2.1, r35.2.2.2.2.2.2.2.2.1, r35.2.2.2.2.2.2.2.2.2), 0, r30.2.1, r30.2.2) else some ((r35.2.1, r35.2.2.1, r35.2.2.2.1, r35.2.2.2.2.1, 0, r35.2.2.2.2.2.2.1, r35.2.2.2.2.2.2.2.1, r35.2.2.2.2.2.2.2.2.1, r35.2.2.2.2.2.2.2.2.2), 1, r30.2.1, r30.2.2))))))))))))))))
set_option maxHeartbeats 4000000 in
set_option maxRecDepth 100000 in
theorem s_M_create {l : Launch} {D : va_G} {dA : FieldType → ClassId} (htr : l.stackTraces = false) {hx : Nat → am_E} {rest : List am_E} {th : Int32} {sp : Int32} {mp : Int32} {mf : Int32} {ml : Nat → Int32} {ps : Nat → Int32} {nm : Nat → Int32} {mu : Nat → Int32} {ch : Nat → Int32} {wy : Nat → Int32} {nx : Nat → Int32} {w : am_MS} {x1 : Int32} {r : am_MS × Int32 × Int32 × (Nat → Int32)} (hf : f_M_create w th sp mp ml nm x1 = some r) {o : am_O} (ho : .inl none = o) :
    am_M (am_kk l D dA) y_M_create ws_M_create (am_rm 8 o) [.ref 18, .int x1] (hM hx w.1 w.2.1 w.2.2.1 w.2.2.2.1 w.2.2.2.2.1 w.2.2.2.2.2.1 w.2.2.2.2.2.2.1 w.2.2.2.2.2.2.2.1 w.2.2.2.2.2.2.2.2 th sp mp mf ml ps nm mu ch wy nx rest) o (hM hx r.1.1 r.1.2.1 r.1.2.2.1 r.1.2.2.2.1 r.1.2.2.2.2.1 r.1.2.2.2.2.2.1 r.1.2.2.2.2.2.2.1 r.1.2.2.2.2.2.2.2.1 r.1.2.2.2.2.2.2.2.2 r.2.1 sp r.2.2.1 mf ml ps r.2.2.2 mu ch wy nx rest) := by
  subst ho
  refine am_body (by decide) rfl (Nat.le_of_ble_eq_true rfl) rfl ?_
  rw [f_M_create] at hf
  refine g_aload_n (n := 1) d_M_create_0 rfl 0 rfl rfl ?_
  obtain ⟨r1, h2, hf⟩ := ob_bind hf
  refine c_Vr (n := 4) (st' := [.int r1.1]) [] [] d_M_create_1 rfl (s_M_ready htr h2 rfl) tw_934 tw_936 (am_memS 12 (by decide +kernel) (by decide +kernel)) tw_8 tw_937 hd_M_ready (by omega) (by decide) (ci := 7) rfl rfl rfl (Nat.le_of_ble_eq_true rfl) rfl rfl ?_
  refine g_if_ne (n := 7) (tgt := 8) d_M_create_4 rfl (by decide) (fun q3 => ?_) (fun q3 => ?_)
  · have hf := ob_neg q3 hf
    refine g_aload_n (n := 9) d_M_create_8 rfl 0 rfl rfl ?_
    refine g_get (n := 12) (q0 := 18) d_M_create_9 rfl (am_fl in_M rfl (by decide : 8 < 20)) (List.mem_cons_of_mem _ tw_873) rfl rfl ?_
    refine g_if_eq (n := 15) (tgt := 35) d_M_create_12 rfl (by decide) (fun q4 => ?_) (fun q4 => ?_)
    · have hf := ob_pos q4 hf
      refine g_aload_n (n := 36) d_M_create_35 rfl 0 rfl rfl ?_
      refine g_iconst (n := 37) (v := 2) d_M_create_36 rfl (by decide) ?_
      refine g_put (n := 40) (q0 := 18) (h' := (hM hx w.1 r1.2.1 w.2.2.1 w.2.2.2.1 w.2.2.2.2.1 w.2.2.2.2.2.1 w.2.2.2.2.2.2.1 w.2.2.2.2.2.2.2.1 w.2.2.2.2.2.2.2.2 2 sp mp mf ml ps nm mu ch wy nx rest)) d_M_create_37 rfl (am_fl in_M rfl (by decide : 0 < 20)) typ_M (List.mem_cons_of_mem _ tw_865) rfl (fun _ _ => rfl) (fun _ _ => rfl) rfl (am_ltb rfl) rfl ?_
      refine g_goto (n := 108) d_M_create_40 (by decide) ?_
      refine g_aload_n (n := 109) d_M_create_108 rfl 0 rfl rfl ?_
      refine g_iconst (n := 110) (v := 0) d_M_create_109 rfl (by decide) ?_
      refine g_put (n := 113) (q0 := 18) (h' := (hM hx w.1 r1.2.1 w.2.2.1 w.2.2.2.1 0 w.2.2.2.2.2.1 w.2.2.2.2.2.2.1 w.2.2.2.2.2.2.2.1 w.2.2.2.2.2.2.2.2 2 sp mp mf ml ps nm mu ch wy nx rest)) d_M_create_110 rfl (am_fl in_M rfl (by decide : 8 < 20)) typ_M (List.mem_cons_of_mem _ tw_873) rfl (fun _ _ => rfl) (fun _ _ => rfl) rfl (am_ltb rfl) rfl ?_
      cases hf
      exact g_vret d_M_create_113 rfl (Nat.zero_le _) (Nat.zero_le _)
    · have hf := ob_neg q4 hf
      refine g_aload_n (n := 16) d_M_create_15 rfl 0 rfl rfl ?_
      refine g_get (n := 19) (q0 := 18) d_M_create_16 rfl (am_fl in_M rfl (by decide : 7 < 20)) (List.mem_cons_of_mem _ tw_872) rfl rfl ?_
      refine g_iconst (n := 20) (v := 0) d_M_create_19 rfl (by decide) ?_
      refine g_iald (n := 21) (q0 := 20) d_M_create_20 rfl rfl (am_inl (by decide)) ?_
      refine g_bipush (n := 23) (v := 46) d_M_create_21 rfl (by decide) ?_
      refine g_icmp_eq (n := 26) (tgt := 35) d_M_create_23 rfl (by decide) (fun q5 => ?_) (fun q5 => ?_)
      · have hf := ob_pos q5 hf
        refine g_aload_n (n := 36) d_M_create_35 rfl 0 rfl rfl ?_
        refine g_iconst (n := 37) (v := 2) d_M_create_36 rfl (by decide) ?_
        refine g_put (n := 40) (q0 := 18) (h' := (hM hx w.1 r1.2.1 w.2.2.1 w.2.2.2.1 w.2.2.2.2.1 w.2.2.2.2.2.1 w.2.2.2.2.2.2.1 w.2.2.2.2.2.2.2.1 w.2.2.2.2.2.2.2.2 2 sp mp mf ml ps nm mu ch wy nx rest)) d_M_create_37 rfl (am_fl in_M rfl (by decide : 0 < 20)) typ_M (List.mem_cons_of_mem _ tw_865) rfl (fun _ _ => rfl) (fun _ _ => rfl) rfl (am_ltb rfl) rfl ?_
        refine g_goto (n := 108) d_M_create_40 (by decide) ?_
        refine g_aload_n (n := 109) d_M_create_108 rfl 0 rfl rfl ?_
        refine g_iconst (n := 110) (v := 0) d_M_create_109 rfl (by decide) ?_
        refine g_put (n := 113) (q0 := 18) (h' := (hM hx w.1 r1.2.1 w.2.2.1 w.2.2.2.1 0 w.2.2.2.2.2.1 w.2.2.2.2.2.2.1 w.2.2.2.2.2.2.2.1 w.2.2.2.2.2.2.2.2 2 sp mp mf ml ps nm mu ch wy nx rest)) d_M_create_110 rfl (am_fl in_M rfl (by decide : 8 < 20)) typ_M (List.mem_cons_of_mem _ tw_873) rfl (fun _ _ => rfl) (fun _ _ => rfl) rfl (am_ltb rfl) rfl ?_
        cases hf
        exact g_vret d_M_create_113 rfl (Nat.zero_le _) (Nat.zero_le _)
      · have hf := ob_neg q5 hf
        refine g_iload_n (n := 27) d_M_create_26 rfl 1 rfl rfl ?_
        refine g_iconst (n := 28) (v := 1) d_M_create_27 rfl (by decide) ?_
        refine g_iconst (n := 29) (v := 2) d_M_create_28 rfl (by decide) ?_
        obtain ⟨r6, h7, hf⟩ := ob_bind hf
        refine c_Sr (n := 32) (st' := [.int r6]) [.int x1, .int 1, .int 2] [] d_M_create_29 rfl (s_M_in htr h7 rfl) tw_938 tw_939 tw_8 tw_940 rfl hd_M_in (by omega) (by decide) rfl (Nat.le_of_ble_eq_true rfl) rfl rfl ?_
        refine g_if_ne (n := 35) (tgt := 43) d_M_create_32 rfl (by decide) (fun q8 => ?_) (fun q8 => ?_)
        · have hf := ob_neg q8 hf
          refine g_aload_n (n := 44) d_M_create_43 rfl 0 rfl rfl ?_
          obtain ⟨r9, h10, hf⟩ := ob_bind hf
          refine c_Vr (n := 47) (st' := [.int r9]) [] [] d_M_create_44 rfl (s_M_find htr h10 rfl) tw_941 tw_943 (am_memS 13 (by decide +kernel) (by decide +kernel)) tw_8 tw_944 hd_M_find (by omega) (by decide) (ci := 7) rfl rfl rfl (Nat.le_of_ble_eq_true rfl) rfl rfl ?_
          refine g_if_ge (n := 50) (tgt := 82) d_M_create_47 rfl (by decide) (fun q11 => ?_) (fun q11 => ?_)
          · have hf := ob_pos q11 hf
            refine g_iconst (n := 83) (v := 0) d_M_create_82 rfl (by decide) ?_
            refine g_istore_n (n := 84) (ls' := [(2, .int 0), (0, .ref 18), (1, .int x1)]) d_M_create_83 rfl rfl (am_ltb rfl) rfl ?_
            refine g_aload_n (n := 85) d_M_create_84 rfl 1 rfl rfl ?_
            refine g_aload_n (n := 86) d_M_create_85 rfl 1 rfl rfl ?_
            refine g_get (n := 89) (q0 := 18) d_M_create_86 rfl (am_fl in_M rfl (by decide : 4 < 20)) (List.mem_cons_of_mem _ tw_869) rfl rfl ?_
            refine g_if_eq (n := 92) (tgt := 96) d_M_create_89 rfl (by decide) (fun q12 => ?_) (fun q12 => ?_)
            · have hf := ob_pos q12 hf
              refine g_iload_n (n := 97) d_M_create_96 rfl 0 rfl rfl ?_
              refine g_if_eq (n := 100) (tgt := 104) d_M_create_97 rfl (by decide) (fun _ => ?_) (fun q13 => absurd q13 (by decide))
              refine g_iconst (n := 105) (v := 3) d_M_create_104 rfl (by decide) ?_
              refine g_put (n := 108) (q0 := 18) (h' := (hM hx w.1 r1.2.1 w.2.2.1 w.2.2.2.1 w.2.2.2.2.1 w.2.2.2.2.2.1 w.2.2.2.2.2.2.1 w.2.2.2.2.2.2.2.1 w.2.2.2.2.2.2.2.2 3 sp mp mf ml ps nm mu ch wy nx rest)) d_M_create_105 rfl (am_fl in_M rfl (by decide : 0 < 20)) typ_M (List.mem_cons_of_mem _ tw_865) rfl (fun _ _ => rfl) (fun _ _ => rfl) rfl (am_ltb rfl) rfl ?_
              refine g_aload_n (n := 109) d_M_create_108 rfl 1 rfl rfl ?_
              refine g_iconst (n := 110) (v := 0) d_M_create_109 rfl (by decide) ?_
              refine g_put (n := 113) (q0 := 18) (h' := (hM hx w.1 r1.2.1 w.2.2.1 w.2.2.2.1 0 w.2.2.2.2.2.1 w.2.2.2.2.2.2.1 w.2.2.2.2.2.2.2.1 w.2.2.2.2.2.2.2.2 3 sp mp mf ml ps nm mu ch wy nx rest)) d_M_create_110 rfl (am_fl in_M rfl (by decide : 8 < 20)) typ_M (List.mem_cons_of_mem _ tw_873) rfl (fun _ _ => rfl) (fun _ _ => rfl) rfl (am_ltb rfl) rfl ?_
              cases hf
              exact g_vret d_M_create_113 rfl (Nat.zero_le _) (Nat.zero_le _)
            · have hf := ob_neg q12 hf
              refine g_iconst (n := 93) (v := 1) d_M_create_92 rfl (by decide) ?_
              refine g_goto (n := 105) d_M_create_93 (by decide) ?_
              refine g_put (n := 108) (q0 := 18) (h' := (hM hx w.1 r1.2.1 w.2.2.1 w.2.2.2.1 w.2.2.2.2.1 w.2.2.2.2.2.1 w.2.2.2.2.2.2.1 w.2.2.2.2.2.2.2.1 w.2.2.2.2.2.2.2.2 1 sp mp mf ml ps nm mu ch wy nx rest)) d_M_create_105 rfl (am_fl in_M rfl (by decide : 0 < 20)) typ_M (List.mem_cons_of_mem _ tw_865) rfl (fun _ _ => rfl) (fun _ _ => rfl) rfl (am_ltb rfl) rfl ?_
              refine g_aload_n (n := 109) d_M_create_108 rfl 1 rfl rfl ?_
              refine g_iconst (n := 110) (v := 0) d_M_create_109 rfl (by decide) ?_
              refine g_put (n := 113) (q0 := 18) (h' := (hM hx w.1 r1.2.1 w.2.2.1 w.2.2.2.1 0 w.2.2.2.2.2.1 w.2.2.2.2.2.2.1 w.2.2.2.2.2.2.2.1 w.2.2.2.2.2.2.2.2 1 sp mp mf ml ps nm mu ch wy nx rest)) d_M_create_110 rfl (am_fl in_M rfl (by decide : 8 < 20)) typ_M (List.mem_cons_of_mem _ tw_873) rfl (fun _ _ => rfl) (fun _ _ => rfl) rfl (am_ltb rfl) rfl ?_
              cases hf
              exact g_vret d_M_create_113 rfl (Nat.zero_le _) (Nat.zero_le _)
          · have hf := ob_neg q11 hf
            refine g_iload_n (n := 51) d_M_create_50 rfl 1 rfl rfl ?_
            refine g_iconst (n := 52) (v := 1) d_M_create_51 rfl (by decide) ?_
            refine g_icmp_eq (n := 55) (tgt := 63) d_M_create_52 rfl (by decide) (fun q14 => ?_) (fun q14 => ?_)
            · have hf := ob_pos q14 hf
              refine g_aload_n (n := 64) d_M_create_63 rfl 0 rfl rfl ?_
              obtain ⟨r15, h16, hf⟩ := ob_bind hf
              refine c_Vr (n := 67) (st' := [.int r15.1]) [] [] d_M_create_64 rfl (s_M_shorten htr h16 rfl) tw_1002 tw_1004 (am_memS 26 (by decide +kernel) (by decide +kernel)) tw_8 tw_1005 hd_M_shorten (by omega) (by decide) (ci := 7) rfl rfl rfl (Nat.le_of_ble_eq_true rfl) rfl rfl ?_
              refine g_if_eq (n := 70) (tgt := 82) d_M_create_67 rfl (by decide) (fun q17 => ?_) (fun q17 => ?_)
              · have hf := ob_pos q17 hf
                refine g_iconst (n := 83) (v := 0) d_M_create_82 rfl (by decide) ?_
                refine g_istore_n (n := 84) (ls' := [(2, .int 0), (0, .ref 18), (1, .int x1)]) d_M_create_83 rfl rfl (am_ltb rfl) rfl ?_
                refine g_aload_n (n := 85) d_M_create_84 rfl 1 rfl rfl ?_
                refine g_aload_n (n := 86) d_M_create_85 rfl 1 rfl rfl ?_
                refine g_get (n := 89) (q0 := 18) d_M_create_86 rfl (am_fl in_M rfl (by decide : 4 < 20)) (List.mem_cons_of_mem _ tw_869) rfl rfl ?_
                refine g_if_eq (n := 92) (tgt := 96) d_M_create_89 rfl (by decide) (fun q18 => ?_) (fun q18 => ?_)
                · have hf := ob_pos q18 hf
                  refine g_iload_n (n := 97) d_M_create_96 rfl 0 rfl rfl ?_
                  refine g_if_eq (n := 100) (tgt := 104) d_M_create_97 rfl (by decide) (fun _ => ?_) (fun q19 => absurd q19 (by decide))
                  refine g_iconst (n := 105) (v := 3) d_M_create_104 rfl (by decide) ?_
                  refine g_put (n := 108) (q0 := 18) (h' := (hM hx w.1 r1.2.1 w.2.2.1 w.2.2.2.1 w.2.2.2.2.1 w.2.2.2.2.2.1 w.2.2.2.2.2.2.1 w.2.2.2.2.2.2.2.1 w.2.2.2.2.2.2.2.2 3 sp r15.2.1 mf ml ps r15.2.2 mu ch wy nx rest)) d_M_create_105 rfl (am_fl in_M rfl (by decide : 0 < 20)) typ_M (List.mem_cons_of_mem _ tw_865) rfl (fun _ _ => rfl) (fun _ _ => rfl) rfl (am_ltb rfl) rfl ?_
                  refine g_aload_n (n := 109) d_M_create_108 rfl 1 rfl rfl ?_
                  refine g_iconst (n := 110) (v := 0) d_M_create_109 rfl (by decide) ?_
                  refine g_put (n := 113) (q0 := 18) (h' := (hM hx w.1 r1.2.1 w.2.2.1 w.2.2.2.1 0 w.2.2.2.2.2.1 w.2.2.2.2.2.2.1 w.2.2.2.2.2.2.2.1 w.2.2.2.2.2.2.2.2 3 sp r15.2.1 mf ml ps r15.2.2 mu ch wy nx rest)) d_M_create_110 rfl (am_fl in_M rfl (by decide : 8 < 20)) typ_M (List.mem_cons_of_mem _ tw_873) rfl (fun _ _ => rfl) (fun _ _ => rfl) rfl (am_ltb rfl) rfl ?_
                  cases hf
                  exact g_vret d_M_create_113 rfl (Nat.zero_le _) (Nat.zero_le _)
                · have hf := ob_neg q18 hf
                  refine g_iconst (n := 93) (v := 1) d_M_create_92 rfl (by decide) ?_
                  refine g_goto (n := 105) d_M_create_93 (by decide) ?_
                  refine g_put (n := 108) (q0 := 18) (h' := (hM hx w.1 r1.2.1 w.2.2.1 w.2.2.2.1 w.2.2.2.2.1 w.2.2.2.2.2.1 w.2.2.2.2.2.2.1 w.2.2.2.2.2.2.2.1 w.2.2.2.2.2.2.2.2 1 sp r15.2.1 mf ml ps r15.2.2 mu ch wy nx rest)) d_M_create_105 rfl (am_fl in_M rfl (by decide : 0 < 20)) typ_M (List.mem_cons_of_mem _ tw_865) rfl (fun _ _ => rfl) (fun _ _ => rfl) rfl (am_ltb rfl) rfl ?_
                  refine g_aload_n (n := 109) d_M_create_108 rfl 1 rfl rfl ?_
                  refine g_iconst (n := 110) (v := 0) d_M_create_109 rfl (by decide) ?_
                  refine g_put (n := 113) (q0 := 18) (h' := (hM hx w.1 r1.2.1 w.2.2.1 w.2.2.2.1 0 w.2.2.2.2.2.1 w.2.2.2.2.2.2.1 w.2.2.2.2.2.2.2.1 w.2.2.2.2.2.2.2.2 1 sp r15.2.1 mf ml ps r15.2.2 mu ch wy nx rest)) d_M_create_110 rfl (am_fl in_M rfl (by decide : 8 < 20)) typ_M (List.mem_cons_of_mem _ tw_873) rfl (fun _ _ => rfl) (fun _ _ => rfl) rfl (am_ltb rfl) rfl ?_
                  cases hf
                  exact g_vret d_M_create_113 rfl (Nat.zero_le _) (Nat.zero_le _)
              · have hf := ob_neg q17 hf
                refine g_aload_n (n := 71) d_M_create_70 rfl 0 rfl rfl ?_
                refine g_iload_n (n := 72) d_M_create_71 rfl 1 rfl rfl ?_
                obtain ⟨r20, h21, hf⟩ := ob_bind hf
                refine c_Vr (n := 75) (st' := [.int r20.1]) [.int x1] [] d_M_create_72 rfl (s_M_make htr h21 rfl) tw_1013 tw_1015 (am_memS 28 (by decide +kernel) (by decide +kernel)) tw_8 tw_1016 hd_M_make (by omega) (by decide) (ci := 7) rfl rfl rfl (Nat.le_of_ble_eq_true rfl) rfl rfl ?_
                refine g_if_eq (n := 78) (tgt := 82) d_M_create_75 rfl (by decide) (fun q22 => ?_) (fun q22 => ?_)
                · have hf := ob_pos q22 hf
                  refine g_iconst (n := 83) (v := 0) d_M_create_82 rfl (by decide) ?_
                  refine g_istore_n (n := 84) (ls' := [(2, .int 0), (0, .ref 18), (1, .int x1)]) d_M_create_83 rfl rfl (am_ltb rfl) rfl ?_
                  refine g_aload_n (n := 85) d_M_create_84 rfl 1 rfl rfl ?_
                  refine g_aload_n (n := 86) d_M_create_85 rfl 1 rfl rfl ?_
                  refine g_get (n := 89) (q0 := 18) d_M_create_86 rfl (am_fl in_M rfl (by decide : 4 < 20)) (List.mem_cons_of_mem _ tw_869) rfl rfl ?_
                  refine g_if_eq (n := 92) (tgt := 96) d_M_create_89 rfl (by decide) (fun q23 => ?_) (fun q23 => ?_)
                  · have hf := ob_pos q23 hf
                    refine g_iload_n (n := 97) d_M_create_96 rfl 0 rfl rfl ?_
                    refine g_if_eq (n := 100) (tgt := 104) d_M_create_97 rfl (by decide) (fun _ => ?_) (fun q24 => absurd q24 (by decide))
                    refine g_iconst (n := 105) (v := 3) d_M_create_104 rfl (by decide) ?_
                    refine g_put (n := 108) (q0 := 18) (h' := (hM hx r20.2.1 r20.2.2.1 r20.2.2.2.1 r20.2.2.2.2.1 r20.2.2.2.2.2.1 r20.2.2.2.2.2.2.1 r20.2.2.2.2.2.2.2.1 r20.2.2.2.2.2.2.2.2.1 r20.2.2.2.2.2.2.2.2.2 3 sp r15.2.1 mf ml ps r15.2.2 mu ch wy nx rest)) d_M_create_105 rfl (am_fl in_M rfl (by decide : 0 < 20)) typ_M (List.mem_cons_of_mem _ tw_865) rfl (fun _ _ => rfl) (fun _ _ => rfl) rfl (am_ltb rfl) rfl ?_
                    refine g_aload_n (n := 109) d_M_create_108 rfl 1 rfl rfl ?_
                    refine g_iconst (n := 110) (v := 0) d_M_create_109 rfl (by decide) ?_
                    refine g_put (n := 113) (q0 := 18) (h' := (hM hx r20.2.1 r20.2.2.1 r20.2.2.2.1 r20.2.2.2.2.1 0 r20.2.2.2.2.2.2.1 r20.2.2.2.2.2.2.2.1 r20.2.2.2.2.2.2.2.2.1 r20.2.2.2.2.2.2.2.2.2 3 sp r15.2.1 mf ml ps r15.2.2 mu ch wy nx rest)) d_M_create_110 rfl (am_fl in_M rfl (by decide : 8 < 20)) typ_M (List.mem_cons_of_mem _ tw_873) rfl (fun _ _ => rfl) (fun _ _ => rfl) rfl (am_ltb rfl) rfl ?_
                    cases hf
                    exact g_vret d_M_create_113 rfl (Nat.zero_le _) (Nat.zero_le _)
                  · have hf := ob_neg q23 hf
                    refine g_iconst (n := 93) (v := 1) d_M_create_92 rfl (by decide) ?_
                    refine g_goto (n := 105) d_M_create_93 (by decide) ?_
                    refine g_put (n := 108) (q0 := 18) (h' := (hM hx r20.2.1 r20.2.2.1 r20.2.2.2.1 r20.2.2.2.2.1 r20.2.2.2.2.2.1 r20.2.2.2.2.2.2.1 r20.2.2.2.2.2.2.2.1 r20.2.2.2.2.2.2.2.2.1 r20.2.2.2.2.2.2.2.2.2 1 sp r15.2.1 mf ml ps r15.2.2 mu ch wy nx rest)) d_M_create_105 rfl (am_fl in_M rfl (by decide : 0 < 20)) typ_M (List.mem_cons_of_mem _ tw_865) rfl (fun _ _ => rfl) (fun _ _ => rfl) rfl (am_ltb rfl) rfl ?_
                    refine g_aload_n (n := 109) d_M_create_108 rfl 1 rfl rfl ?_
                    refine g_iconst (n := 110) (v := 0) d_M_create_109 rfl (by decide) ?_
                    refine g_put (n := 113) (q0 := 18) (h' := (hM hx r20.2.1 r20.2.2.1 r20.2.2.2.1 r20.2.2.2.2.1 0 r20.2.2.2.2.2.2.1 r20.2.2.2.2.2.2.2.1 r20.2.2.2.2.2.2.2.2.1 r20.2.2.2.2.2.2.2.2.2 1 sp r15.2.1 mf ml ps r15.2.2 mu ch wy nx rest)) d_M_create_110 rfl (am_fl in_M rfl (by decide : 8 < 20)) typ_M (List.mem_cons_of_mem _ tw_873) rfl (fun _ _ => rfl) (fun _ _ => rfl) rfl (am_ltb rfl) rfl ?_
                    cases hf
                    exact g_vret d_M_create_113 rfl (Nat.zero_le _) (Nat.zero_le _)
                · have hf := ob_neg q22 hf
                  refine g_iconst (n := 79) (v := 1) d_M_create_78 rfl (by decide) ?_
                  refine g_goto (n := 83) d_M_create_79 (by decide) ?_
                  refine g_istore_n (n := 84) (ls' := [(2, .int 1), (0, .ref 18), (1, .int x1)]) d_M_create_83 rfl rfl (am_ltb rfl) rfl ?_
                  refine g_aload_n (n := 85) d_M_create_84 rfl 1 rfl rfl ?_
                  refine g_aload_n (n := 86) d_M_create_85 rfl 1 rfl rfl ?_
                  refine g_get (n := 89) (q0 := 18) d_M_create_86 rfl (am_fl in_M rfl (by decide : 4 < 20)) (List.mem_cons_of_mem _ tw_869) rfl rfl ?_
                  refine g_if_eq (n := 92) (tgt := 96) d_M_create_89 rfl (by decide) (fun q25 => ?_) (fun q25 => ?_)
                  · have hf := ob_pos q25 hf
                    refine g_iload_n (n := 97) d_M_create_96 rfl 0 rfl rfl ?_
                    refine g_if_eq (n := 100) (tgt := 104) d_M_create_97 rfl (by decide) (fun q26 => absurd q26 (by decide)) (fun _ => ?_)
                    refine g_iconst (n := 101) (v := 0) d_M_create_100 rfl (by decide) ?_
                    refine g_goto (n := 105) d_M_create_101 (by decide) ?_
                    refine g_put (n := 108) (q0 := 18) (h' := (hM hx r20.2.1 r20.2.2.1 r20.2.2.2.1 r20.2.2.2.2.1 r20.2.2.2.2.2.1 r20.2.2.2.2.2.2.1 r20.2.2.2.2.2.2.2.1 r20.2.2.2.2.2.2.2.2.1 r20.2.2.2.2.2.2.2.2.2 0 sp r15.2.1 mf ml ps r15.2.2 mu ch wy nx rest)) d_M_create_105 rfl (am_fl in_M rfl (by decide : 0 < 20)) typ_M (List.mem_cons_of_mem _ tw_865) rfl (fun _ _ => rfl) (fun _ _ => rfl) rfl (am_ltb rfl) rfl ?_
                    refine g_aload_n (n := 109) d_M_create_108 rfl 1 rfl rfl ?_
                    refine g_iconst (n := 110) (v := 0) d_M_create_109 rfl (by decide) ?_
                    refine g_put (n := 113) (q0 := 18) (h' := (hM hx r20.2.1 r20.2.2.1 r20.2.2.2.1 r20.2.2.2.2.1 0 r20.2.2.2.2.2.2.1 r20.2.2.2.2.2.2.2.1 r20.2.2.2.2.2.2.2.2.1 r20.2.2.2.2.2.2.2.2.2 0 sp r15.2.1 mf ml ps r15.2.2 mu ch wy nx rest)) d_M_create_110 rfl (am_fl in_M rfl (by decide : 8 < 20)) typ_M (List.mem_cons_of_mem _ tw_873) rfl (fun _ _ => rfl) (fun _ _ => rfl) rfl (am_ltb rfl) rfl ?_
                    cases hf
                    exact g_vret d_M_create_113 rfl (Nat.zero_le _) (Nat.zero_le _)
                  · have hf := ob_neg q25 hf
                    refine g_iconst (n := 93) (v := 1) d_M_create_92 rfl (by decide) ?_
                    refine g_goto (n := 105) d_M_create_93 (by decide) ?_
                    refine g_put (n := 108) (q0 := 18) (h' := (hM hx r20.2.1 r20.2.2.1 r20.2.2.2.1 r20.2.2.2.2.1 r20.2.2.2.2.2.1 r20.2.2.2.2.2.2.1 r20.2.2.2.2.2.2.2.1 r20.2.2.2.2.2.2.2.2.1 r20.2.2.2.2.2.2.2.2.2 1 sp r15.2.1 mf ml ps r15.2.2 mu ch wy nx rest)) d_M_create_105 rfl (am_fl in_M rfl (by decide : 0 < 20)) typ_M (List.mem_cons_of_mem _ tw_865) rfl (fun _ _ => rfl) (fun _ _ => rfl) rfl (am_ltb rfl) rfl ?_
                    refine g_aload_n (n := 109) d_M_create_108 rfl 1 rfl rfl ?_
                    refine g_iconst (n := 110) (v := 0) d_M_create_109 rfl (by decide) ?_
                    refine g_put (n := 113) (q0 := 18) (h' := (hM hx r20.2.1 r20.2.2.1 r20.2.2.2.1 r20.2.2.2.2.1 0 r20.2.2.2.2.2.2.1 r20.2.2.2.2.2.2.2.1 r20.2.2.2.2.2.2.2.2.1 r20.2.2.2.2.2.2.2.2.2 1 sp r15.2.1 mf ml ps r15.2.2 mu ch wy nx rest)) d_M_create_110 rfl (am_fl in_M rfl (by decide : 8 < 20)) typ_M (List.mem_cons_of_mem _ tw_873) rfl (fun _ _ => rfl) (fun _ _ => rfl) rfl (am_ltb rfl) rfl ?_
                    cases hf
                    exact g_vret d_M_create_113 rfl (Nat.zero_le _) (Nat.zero_le _)
            · have hf := ob_neg q14 hf
              refine g_aload_n (n := 56) d_M_create_55 rfl 0 rfl rfl ?_
              refine g_get (n := 59) (q0 := 18) d_M_create_56 rfl (am_fl in_M rfl (by decide : 10 < 20)) (List.mem_cons_of_mem _ tw_875) rfl rfl ?_
              refine g_iconst (n := 60) (v := 5) d_M_create_59 rfl (by decide) ?_
              refine g_icmp_ge (n := 63) (tgt := 82) d_M_create_60 rfl (by decide) (fun q27 => ?_) (fun q27 => ?_)
              · have hf := ob_pos q27 hf
                refine g_iconst (n := 83) (v := 0) d_M_create_82 rfl (by decide) ?_
                refine g_istore_n (n := 84) (ls' := [(2, .int 0), (0, .ref 18), (1, .int x1)]) d_M_create_83 rfl rfl (am_ltb rfl) rfl ?_
                refine g_aload_n (n := 85) d_M_create_84 rfl 1 rfl rfl ?_
                refine g_aload_n (n := 86) d_M_create_85 rfl 1 rfl rfl ?_
                refine g_get (n := 89) (q0 := 18) d_M_create_86 rfl (am_fl in_M rfl (by decide : 4 < 20)) (List.mem_cons_of_mem _ tw_869) rfl rfl ?_
                refine g_if_eq (n := 92) (tgt := 96) d_M_create_89 rfl (by decide) (fun q28 => ?_) (fun q28 => ?_)
                · have hf := ob_pos q28 hf
                  refine g_iload_n (n := 97) d_M_create_96 rfl 0 rfl rfl ?_
                  refine g_if_eq (n := 100) (tgt := 104) d_M_create_97 rfl (by decide) (fun _ => ?_) (fun q29 => absurd q29 (by decide))
                  refine g_iconst (n := 105) (v := 3) d_M_create_104 rfl (by decide) ?_
                  refine g_put (n := 108) (q0 := 18) (h' := (hM hx w.1 r1.2.1 w.2.2.1 w.2.2.2.1 w.2.2.2.2.1 w.2.2.2.2.2.1 w.2.2.2.2.2.2.1 w.2.2.2.2.2.2.2.1 w.2.2.2.2.2.2.2.2 3 sp mp mf ml ps nm mu ch wy nx rest)) d_M_create_105 rfl (am_fl in_M rfl (by decide : 0 < 20)) typ_M (List.mem_cons_of_mem _ tw_865) rfl (fun _ _ => rfl) (fun _ _ => rfl) rfl (am_ltb rfl) rfl ?_
                  refine g_aload_n (n := 109) d_M_create_108 rfl 1 rfl rfl ?_
                  refine g_iconst (n := 110) (v := 0) d_M_create_109 rfl (by decide) ?_
                  refine g_put (n := 113) (q0 := 18) (h' := (hM hx w.1 r1.2.1 w.2.2.1 w.2.2.2.1 0 w.2.2.2.2.2.1 w.2.2.2.2.2.2.1 w.2.2.2.2.2.2.2.1 w.2.2.2.2.2.2.2.2 3 sp mp mf ml ps nm mu ch wy nx rest)) d_M_create_110 rfl (am_fl in_M rfl (by decide : 8 < 20)) typ_M (List.mem_cons_of_mem _ tw_873) rfl (fun _ _ => rfl) (fun _ _ => rfl) rfl (am_ltb rfl) rfl ?_
                  cases hf
                  exact g_vret d_M_create_113 rfl (Nat.zero_le _) (Nat.zero_le _)
                · have hf := ob_neg q28 hf
                  refine g_iconst (n := 93) (v := 1) d_M_create_92 rfl (by decide) ?_
                  refine g_goto (n := 105) d_M_create_93 (by decide) ?_
                  refine g_put (n := 108) (q0 := 18) (h' := (hM hx w.1 r1.2.1 w.2.2.1 w.2.2.2.1 w.2.2.2.2.1 w.2.2.2.2.2.1 w.2.2.2.2.2.2.1 w.2.2.2.2.2.2.2.1 w.2.2.2.2.2.2.2.2 1 sp mp mf ml ps nm mu ch wy nx rest)) d_M_create_105 rfl (am_fl in_M rfl (by decide : 0 < 20)) typ_M (List.mem_cons_of_mem _ tw_865) rfl (fun _ _ => rfl) (fun _ _ => rfl) rfl (am_ltb rfl) rfl ?_
                  refine g_aload_n (n := 109) d_M_create_108 rfl 1 rfl rfl ?_
                  refine g_iconst (n := 110) (v := 0) d_M_create_109 rfl (by decide) ?_
                  refine g_put (n := 113) (q0 := 18) (h' := (hM hx w.1 r1.2.1 w.2.2.1 w.2.2.2.1 0 w.2.2.2.2.2.1 w.2.2.2.2.2.2.1 w.2.2.2.2.2.2.2.1 w.2.2.2.2.2.2.2.2 1 sp mp mf ml ps nm mu ch wy nx rest)) d_M_create_110 rfl (am_fl in_M rfl (by decide : 8 < 20)) typ_M (List.mem_cons_of_mem _ tw_873) rfl (fun _ _ => rfl) (fun _ _ => rfl) rfl (am_ltb rfl) rfl ?_
                  cases hf
                  exact g_vret d_M_create_113 rfl (Nat.zero_le _) (Nat.zero_le _)
              · have hf := ob_neg q27 hf
                refine g_aload_n (n := 64) d_M_create_63 rfl 0 rfl rfl ?_
                obtain ⟨r30, h31, hf⟩ := ob_bind hf
                refine c_Vr (n := 67) (st' := [.int r30.1]) [] [] d_M_create_64 rfl (s_M_shorten htr h31 rfl) tw_1002 tw_1004 (am_memS 26 (by decide +kernel) (by decide +kernel)) tw_8 tw_1005 hd_M_shorten (by omega) (by decide) (ci := 7) rfl rfl rfl (Nat.le_of_ble_eq_true rfl) rfl rfl ?_
                refine g_if_eq (n := 70) (tgt := 82) d_M_create_67 rfl (by decide) (fun q32 => ?_) (fun q32 => ?_)
                · have hf := ob_pos q32 hf
                  refine g_iconst (n := 83) (v := 0) d_M_create_82 rfl (by decide) ?_
                  refine g_istore_n (n := 84) (ls' := [(2, .int 0), (0, .ref 18), (1, .int x1)]) d_M_create_83 rfl rfl (am_ltb rfl) rfl ?_
                  refine g_aload_n (n := 85) d_M_create_84 rfl 1 rfl rfl ?_
                  refine g_aload_n (n := 86) d_M_create_85 rfl 1 rfl rfl ?_
                  refine g_get (n := 89) (q0 := 18) d_M_create_86 rfl (am_fl in_M rfl (by decide : 4 < 20)) (List.mem_cons_of_mem _ tw_869) rfl rfl ?_
                  refine g_if_eq (n := 92) (tgt := 96) d_M_create_89 rfl (by decide) (fun q33 => ?_) (fun q33 => ?_)
                  · have hf := ob_pos q33 hf
                    refine g_iload_n (n := 97) d_M_create_96 rfl 0 rfl rfl ?_
                    refine g_if_eq (n := 100) (tgt := 104) d_M_create_97 rfl (by decide) (fun _ => ?_) (fun q34 => absurd q34 (by decide))
                    refine g_iconst (n := 105) (v := 3) d_M_create_104 rfl (by decide) ?_
                    refine g_put (n := 108) (q0 := 18) (h' := (hM hx w.1 r1.2.1 w.2.2.1 w.2.2.2.1 w.2.2.2.2.1 w.2.2.2.2.2.1 w.2.2.2.2.2.2.1 w.2.2.2.2.2.2.2.1 w.2.2.2.2.2.2.2.2 3 sp r30.2.1 mf ml ps r30.2.2 mu ch wy nx rest)) d_M_create_105 rfl (am_fl in_M rfl (by decide : 0 < 20)) typ_M (List.mem_cons_of_mem _ tw_865) rfl (fun _ _ => rfl) (fun _ _ => rfl) rfl (am_ltb rfl) rfl ?_
                    refine g_aload_n (n := 109) d_M_create_108 rfl 1 rfl rfl ?_
                    refine g_iconst (n := 110) (v := 0) d_M_create_109 rfl (by decide) ?_
                    refine g_put (n := 113) (q0 := 18) (h' := (hM hx w.1 r1.2.1 w.2.2.1 w.2.2.2.1 0 w.2.2.2.2.2.1 w.2.2.2.2.2.2.1 w.2.2.2.2.2.2.2.1 w.2.2.2.2.2.2.2.2 3 sp r30.2.1 mf ml ps r30.2.2 mu ch wy nx rest)) d_M_create_110 rfl (am_fl in_M rfl (by decide : 8 < 20)) typ_M (List.mem_cons_of_mem _ tw_873) rfl (fun _ _ => rfl) (fun _ _ => rfl) rfl (am_ltb rfl) rfl ?_
                    cases hf
                    exact g_vret d_M_create_113 rfl (Nat.zero_le _) (Nat.zero_le _)
                  · have hf := ob_neg q33 hf
                    refine g_iconst (n := 93) (v := 1) d_M_create_92 rfl (by decide) ?_
                    refine g_goto (n := 105) d_M_create_93 (by decide) ?_
                    refine g_put (n := 108) (q0 := 18) (h' := (hM hx w.1 r1.2.1 w.2.2.1 w.2.2.2.1 w.2.2.2.2.1 w.2.2.2.2.2.1 w.2.2.2.2.2.2.1 w.2.2.2.2.2.2.2.1 w.2.2.2.2.2.2.2.2 1 sp r30.2.1 mf ml ps r30.2.2 mu ch wy nx rest)) d_M_create_105 rfl (am_fl in_M rfl (by decide : 0 < 20)) typ_M (List.mem_cons_of_mem _ tw_865) rfl (fun _ _ => rfl) (fun _ _ => rfl) rfl (am_ltb rfl) rfl ?_
                    refine g_aload_n (n := 109) d_M_create_108 rfl 1 rfl rfl ?_
                    refine g_iconst (n := 110) (v := 0) d_M_create_109 rfl (by decide) ?_
                    refine g_put (n := 113) (q0 := 18) (h' := (hM hx w.1 r1.2.1 w.2.2.1 w.2.2.2.1 0 w.2.2.2.2.2.1 w.2.2.2.2.2.2.1 w.2.2.2.2.2.2.2.1 w.2.2.2.2.2.2.2.2 1 sp r30.2.1 mf ml ps r30.2.2 mu ch wy nx rest)) d_M_create_110 rfl (am_fl in_M rfl (by decide : 8 < 20)) typ_M (List.mem_cons_of_mem _ tw_873) rfl (fun _ _ => rfl) (fun _ _ => rfl) rfl (am_ltb rfl) rfl ?_
                    cases hf
                    exact g_vret d_M_create_113 rfl (Nat.zero_le _) (Nat.zero_le _)
                · have hf := ob_neg q32 hf
                  refine g_aload_n (n := 71) d_M_create_70 rfl 0 rfl rfl ?_
                  refine g_iload_n (n := 72) d_M_create_71 rfl 1 rfl rfl ?_
                  obtain ⟨r35, h36, hf⟩ := ob_bind hf
                  refine c_Vr (n := 75) (st' := [.int r35.1]) [.int x1] [] d_M_create_72 rfl (s_M_make htr h36 rfl) tw_1013 tw_1015 (am_memS 28 (by decide +kernel) (by decide +kernel)) tw_8 tw_1016 hd_M_make (by omega) (by decide) (ci := 7) rfl rfl rfl (Nat.le_of_ble_eq_true rfl) rfl rfl ?_
                  refine g_if_eq (n := 78) (tgt := 82) d_M_create_75 rfl (by decide) (fun q37 => ?_) (fun q37 => ?_)
                  · have hf := ob_pos q37 hf
                    refine g_iconst (n := 83) (v := 0) d_M_create_82 rfl (by decide) ?_
                    refine g_istore_n (n := 84) (ls' := [(2, .int 0), (0, .ref 18), (1, .int x1)]) d_M_create_83 rfl rfl (am_ltb rfl) rfl ?_
                    refine g_aload_n (n := 85) d_M_create_84 rfl 1 rfl rfl ?_
                    refine g_aload_n (n := 86) d_M_create_85 rfl 1 rfl rfl ?_
                    refine g_get (n := 89) (q0 := 18) d_M_create_86 rfl (am_fl in_M rfl (by decide : 4 < 20)) (List.mem_cons_of_mem _ tw_869) rfl rfl ?_
                    refine g_if_eq (n := 92) (tgt := 96) d_M_create_89 rfl (by decide) (fun q38 => ?_) (fun q38 => ?_)
                    · have hf := ob_pos q38 hf
                      refine g_iload_n (n := 97) d_M_create_96 rfl 0 rfl rfl ?_
                      refine g_if_eq (n := 100) (tgt := 104) d_M_create_97 rfl (by decide) (fun _ => ?_) (fun q39 => absurd q39 (by decide))
                      refine g_iconst (n := 105) (v := 3) d_M_create_104 rfl (by decide) ?_
                      refine g_put (n := 108) (q0 := 18) (h' := (hM hx r35.2.1 r35.2.2.1 r35.2.2.2.1 r35.2.2.2.2.1 r35.2.2.2.2.2.1 r35.2.2.2.2.2.2.1 r35.2.2.2.2.2.2.2.1 r35.2.2.2.2.2.2.2.2.1 r35.2.2.2.2.2.2.2.2.2 3 sp r30.2.1 mf ml ps r30.2.2 mu ch wy nx rest)) d_M_create_105 rfl (am_fl in_M rfl (by decide : 0 < 20)) typ_M (List.mem_cons_of_mem _ tw_865) rfl (fun _ _ => rfl) (fun _ _ => rfl) rfl (am_ltb rfl) rfl ?_
                      refine g_aload_n (n := 109) d_M_create_108 rfl 1 rfl rfl ?_
                      refine g_iconst (n := 110) (v := 0) d_M_create_109 rfl (by decide) ?_
                      refine g_put (n := 113) (q0 := 18) (h' := (hM hx r35.2.1 r35.2.2.1 r35.2.2.2.1 r35.2.2.2.2.1 0 r35.2.2.2.2.2.2.1 r35.2.2.2.2.2.2.2.1 r35.2.2.2.2.2.2.2.2.1 r35.2.2.2.2.2.2.2.2.2 3 sp r30.2.1 mf ml ps r30.2.2 mu ch wy nx rest)) d_M_create_110 rfl (am_fl in_M rfl (by decide : 8 < 20)) typ_M (List.mem_cons_of_mem _ tw_873) rfl (fun _ _ => rfl) (fun _ _ => rfl) rfl (am_ltb rfl) rfl ?_
                      cases hf
                      exact g_vret d_M_create_113 rfl (Nat.zero_le _) (Nat.zero_le _)
                    · have hf := ob_neg q38 hf
                      refine g_iconst (n := 93) (v := 1) d_M_create_92 rfl (by decide) ?_
                      refine g_goto (n := 105) d_M_create_93 (by decide) ?_
                      refine g_put (n := 108) (q0 := 18) (h' := (hM hx r35.2.1 r35.2.2.1 r35.2.2.2.1 r35.2.2.2.2.1 r35.2.2.2.2.2.1 r35.2.2.2.2.2.2.1 r35.2.2.2.2.2.2.2.1 r35.2.2.2.2.2.2.2.2.1 r35.2.2.2.2.2.2.2.2.2 1 sp r30.2.1 mf ml ps r30.2.2 mu ch wy nx rest)) d_M_create_105 rfl (am_fl in_M rfl (by decide : 0 < 20)) typ_M (List.mem_cons_of_mem _ tw_865) rfl (fun _ _ => rfl) (fun _ _ => rfl) rfl (am_ltb rfl) rfl ?_
                      refine g_aload_n (n := 109) d_M_create_108 rfl 1 rfl rfl ?_
                      refine g_iconst (n := 110) (v := 0) d_M_create_109 rfl (by decide) ?_
                      refine g_put (n := 113) (q0 := 18) (h' := (hM hx r35.2.1 r35.2.2.1 r35.2.2.2.1 r35.2.2.2.2.1 0 r35.2.2.2.2.2.2.1 r35.2.2.2.2.2.2.2.1 r35.2.2.2.2.2.2.2.2.1 r35.2.2.2.2.2.2.2.2.2 1 sp r30.2.1 mf ml ps r30.2.2 mu ch wy nx rest)) d_M_create_110 rfl (am_fl in_M rfl (by decide : 8 < 20)) typ_M (List.mem_cons_of_mem _ tw_873) rfl (fun _ _ => rfl) (fun _ _ => rfl) rfl (am_ltb rfl) rfl ?_
                      cases hf
                      exact g_vret d_M_create_113 rfl (Nat.zero_le _) (Nat.zero_le _)
                  · have hf := ob_neg q37 hf
                    refine g_iconst (n := 79) (v := 1) d_M_create_78 rfl (by decide) ?_
                    refine g_goto (n := 83) d_M_create_79 (by decide) ?_
                    refine g_istore_n (n := 84) (ls' := [(2, .int 1), (0, .ref 18), (1, .int x1)]) d_M_create_83 rfl rfl (am_ltb rfl) rfl ?_
                    refine g_aload_n (n := 85) d_M_create_84 rfl 1 rfl rfl ?_
                    refine g_aload_n (n := 86) d_M_create_85 rfl 1 rfl rfl ?_
                    refine g_get (n := 89) (q0 := 18) d_M_create_86 rfl (am_fl in_M rfl (by decide : 4 < 20)) (List.mem_cons_of_mem _ tw_869) rfl rfl ?_
                    refine g_if_eq (n := 92) (tgt := 96) d_M_create_89 rfl (by decide) (fun q40 => ?_) (fun q40 => ?_)
                    · have hf := ob_pos q40 hf
                      refine g_iload_n (n := 97) d_M_create_96 rfl 0 rfl rfl ?_
                      refine g_if_eq (n := 100) (tgt := 104) d_M_create_97 rfl (by decide) (fun q41 => absurd q41 (by decide)) (fun _ => ?_)
                      refine g_iconst (n := 101) (v := 0) d_M_create_100 rfl (by decide) ?_
                      refine g_goto (n := 105) d_M_create_101 (by decide) ?_
                      refine g_put (n := 108) (q0 := 18) (h' := (hM hx r35.2.1 r35.2.2.1 r35.2.2.2.1 r35.2.2.2.2.1 r35.2.2.2.2.2.1 r35.2.2.2.2.2.2.1 r35.2.2.2.2.2.2.2.1 r35.2.2.2.2.2.2.2.2.1 r35.2.2.2.2.2.2.2.2.2 0 sp r30.2.1 mf ml ps r30.2.2 mu ch wy nx rest)) d_M_create_105 rfl (am_fl in_M rfl (by decide : 0 < 20)) typ_M (List.mem_cons_of_mem _ tw_865) rfl (fun _ _ => rfl) (fun _ _ => rfl) rfl (am_ltb rfl) rfl ?_
                      refine g_aload_n (n := 109) d_M_create_108 rfl 1 rfl rfl ?_
                      refine g_iconst (n := 110) (v := 0) d_M_create_109 rfl (by decide) ?_
                      refine g_put (n := 113) (q0 := 18) (h' := (hM hx r35.2.1 r35.2.2.1 r35.2.2.2.1 r35.2.2.2.2.1 0 r35.2.2.2.2.2.2.1 r35.2.2.2.2.2.2.2.1 r35.2.2.2.2.2.2.2.2.1 r35.2.2.2.2.2.2.2.2.2 0 sp r30.2.1 mf ml ps r30.2.2 mu ch wy nx rest)) d_M_create_110 rfl (am_fl in_M rfl (by decide : 8 < 20)) typ_M (List.mem_cons_of_mem _ tw_873) rfl (fun _ _ => rfl) (fun _ _ => rfl) rfl (am_ltb rfl) rfl ?_
                      cases hf
                      exact g_vret d_M_create_113 rfl (Nat.zero_le _) (Nat.zero_le _)
                    · have hf := ob_neg q40 hf
                      refine g_iconst (n := 93) (v := 1) d_M_create_92 rfl (by decide) ?_
                      refine g_goto (n := 105) d_M_create_93 (by decide) ?_
                      refine g_put (n := 108) (q0 := 18) (h' := (hM hx r35.2.1 r35.2.2.1 r35.2.2.2.1 r35.2.2.2.2.1 r35.2.2.2.2.2.1 r35.2.2.2.2.2.2.1 r35.2.2.2.2.2.2.2.1 r35.2.2.2.2.2.2.2.2.1 r35.2.2.2.2.2.2.2.2.2 1 sp r30.2.1 mf ml ps r30.2.2 mu ch wy nx rest)) d_M_create_105 rfl (am_fl in_M rfl (by decide : 0 < 20)) typ_M (List.mem_cons_of_mem _ tw_865) rfl (fun _ _ => rfl) (fun _ _ => rfl) rfl (am_ltb rfl) rfl ?_
                      refine g_aload_n (n := 109) d_M_create_108 rfl 1 rfl rfl ?_
                      refine g_iconst (n := 110) (v := 0) d_M_create_109 rfl (by decide) ?_
                      refine g_put (n := 113) (q0 := 18) (h' := (hM hx r35.2.1 r35.2.2.1 r35.2.2.2.1 r35.2.2.2.2.1 0 r35.2.2.2.2.2.2.1 r35.2.2.2.2.2.2.2.1 r35.2.2.2.2.2.2.2.2.1 r35.2.2.2.2.2.2.2.2.2 1 sp r30.2.1 mf ml ps r30.2.2 mu ch wy nx rest)) d_M_create_110 rfl (am_fl in_M rfl (by decide : 8 < 20)) typ_M (List.mem_cons_of_mem _ tw_873) rfl (fun _ _ => rfl) (fun _ _ => rfl) rfl (am_ltb rfl) rfl ?_
                      cases hf
                      exact g_vret d_M_create_113 rfl (Nat.zero_le _) (Nat.zero_le _)
        · have hf := ob_pos q8 hf
          refine g_aload_n (n := 36) d_M_create_35 rfl 0 rfl rfl ?_
          refine g_iconst (n := 37) (v := 2) d_M_create_36 rfl (by decide) ?_
          refine g_put (n := 40) (q0 := 18) (h' := (hM hx w.1 r1.2.1 w.2.2.1 w.2.2.2.1 w.2.2.2.2.1 w.2.2.2.2.2.1 w.2.2.2.2.2.2.1 w.2.2.2.2.2.2.2.1 w.2.2.2.2.2.2.2.2 2 sp mp mf ml ps nm mu ch wy nx rest)) d_M_create_37 rfl (am_fl in_M rfl (by decide : 0 < 20)) typ_M (List.mem_cons_of_mem _ tw_865) rfl (fun _ _ => rfl) (fun _ _ => rfl) rfl (am_ltb rfl) rfl ?_
          refine g_goto (n := 108) d_M_create_40 (by decide) ?_
          refine g_aload_n (n := 109) d_M_create_108 rfl 0 rfl rfl ?_
          refine g_iconst (n := 110) (v := 0) d_M_create_109 rfl (by decide) ?_
          refine g_put (n := 113) (q0 := 18) (h' := (hM hx w.1 r1.2.1 w.2.2.1 w.2.2.2.1 0 w.2.2.2.2.2.1 w.2.2.2.2.2.2.1 w.2.2.2.2.2.2.2.1 w.2.2.2.2.2.2.2.2 2 sp mp mf ml ps nm mu ch wy nx rest)) d_M_create_110 rfl (am_fl in_M rfl (by decide : 8 < 20)) typ_M (List.mem_cons_of_mem _ tw_873) rfl (fun _ _ => rfl) (fun _ _ => rfl) rfl (am_ltb rfl) rfl ?_
          cases hf
          exact g_vret d_M_create_113 rfl (Nat.zero_le _) (Nat.zero_le _)
  · have hf := ob_pos q3 hf
    cases hf
    exact g_vret d_M_create_7 rfl (Nat.zero_le _) (Nat.zero_le _)
