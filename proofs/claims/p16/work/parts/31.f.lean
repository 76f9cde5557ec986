def f_M_isEmpty_L4 : Nat → (Nat → Int32) → Int32 → Int32 → Int32 → Option (Int32)
  | 0, _, _, _, _ => none
  | fuel + 1, dk, x1, x2, x3 =>
  ((f_M_length dk x1).bind fun r1 => (if (2 * r1) ≤ x3 then (if am_bl x2 = true then some x2 else none) else (if x2 = 0 then f_M_isEmpty_L4 fuel dk x1 0 (x3 + 1) else ((f_M_place dk x1 x3).bind fun r6 => ((f_M_isFree dk r6).bind fun r8 => (if r8 = 0 then f_M_isEmpty_L4 fuel dk x1 0 (x3 + 1) else f_M_isEmpty_L4 fuel dk x1 1 (x3 + 1)))))))
set_option maxHeartbeats 4000000 in
set_option maxRecDepth 100000 in
theorem s_M_isEmpty_L4 {l : Launch} {D : va_G} {dA : FieldType → ClassId} (htr : l.stackTraces = false) {hx : Nat → am_E} {rest : List am_E} {on : Int32} {dd : Int32} {mw : Int32} {cu : Int32} {ty : Int32} {mh : Int32} {md : Int32} {op : Nat → Int32} {th : Int32} {sp : Int32} {mp : Int32} {mf : Int32} {ml : Nat → Int32} {ps : Nat → Int32} {nm : Nat → Int32} {mu : Nat → Int32} {ch : Nat → Int32} {wy : Nat → Int32} {nx : Nat → Int32}  : ∀ (fuel : Nat) (dk : Nat → Int32) (x1 : Int32) (x2 : Int32) (x3 : Int32) (r : Int32), f_M_isEmpty_L4 fuel dk x1 x2 x3 = some r → ∀ o : am_O, .inl (some (.int r)) = o →
    am_G (am_kk l D dA) (ws_M_isEmpty, y_M_isEmpty.cls, prog_9_method_38_code, 4, (some .boolean), y_M_isEmpty.name, [], am_rm 4 (o), none) o (hM hx on dd mw cu ty mh md dk op th sp mp mf ml ps nm mu ch wy nx rest) 0 0 4 [(0, .ref 18), (1, .int x1), (2, .int x2), (3, .int x3)] [] (hM hx on dd mw cu ty mh md dk op th sp mp mf ml ps nm mu ch wy nx rest) := by
  intro fuel
  induction fuel with
  | zero =>
    intro dk x1 x2 x3 r hf
    cases hf
  | succ fuel ih =>
    intro dk x1 x2 x3 r hf o ho
    subst ho
    rw [f_M_isEmpty_L4] at hf
    refine g_iload_n (n := 5) d_M_isEmpty_4 rfl 3 rfl rfl ?_
    refine g_iconst (n := 6) (v := 2) d_M_isEmpty_5 rfl (by decide) ?_
    refine g_aload_n (n := 7) d_M_isEmpty_6 rfl 0 rfl rfl ?_
    refine g_iload_n (n := 8) d_M_isEmpty_7 rfl 1 rfl rfl ?_
    obtain ⟨r1, h2, hf⟩ := ob_bind hf
    refine c_Vr (n := 11) (st' := [.int r1, .int 2, .int x3]) [.int x1] [.int 2, .int x3] d_M_isEmpty_8 rfl (s_M_length htr h2 rfl) tw_945 tw_947 (am_memS 14 (by decide +kernel) (by decide +kernel)) tw_8 tw_948 hd_M_length (by omega) (by decide) (ci := 7) rfl rfl rfl (Nat.le_of_ble_eq_true rfl) rfl rfl ?_
    refine g_imul (n := 12) d_M_isEmpty_11 rfl ?_
    refine g_icmp_ge (n := 15) (tgt := 44) d_M_isEmpty_12 rfl (by decide) (fun q3 => ?_) (fun q3 => ?_)
    · have hf := ob_pos q3 hf
      refine g_iload_n (n := 45) d_M_isEmpty_44 rfl 2 rfl rfl ?_
      obtain ⟨b4, hf⟩ := ob_chk hf
      cases hf
      exact g_zret d_M_isEmpty_45 rfl (am_blz b4) (Nat.zero_le _) (Nat.zero_le _)
    · have hf := ob_neg q3 hf
      refine g_iload_n (n := 16) d_M_isEmpty_15 rfl 2 rfl rfl ?_
      refine g_if_eq (n := 19) (tgt := 36) d_M_isEmpty_16 rfl (by decide) (fun q5 => ?_) (fun q5 => ?_)
      · have hf := ob_pos q5 hf
        refine g_iconst (n := 37) (v := 0) d_M_isEmpty_36 rfl (by decide) ?_
        refine g_istore_n (n := 38) (ls' := [(2, .int 0), (0, .ref 18), (1, .int x1), (3, .int x3)]) d_M_isEmpty_37 rfl rfl (am_ltb rfl) rfl ?_
        refine g_iinc (n := 41) (v := (x3 + 1)) (ls' := [(3, .int (x3 + 1)), (2, .int 0), (0, .ref 18), (1, .int x1)]) d_M_isEmpty_38 rfl 3 rfl rfl (am_ltb rfl) rfl ?_
        refine g_goto (n := 4) d_M_isEmpty_41 (by decide) ?_
        refine g_ls [2, 3, 1, 0] rfl ?_
        exact ih dk x1 0 (x3 + 1) _ hf _ rfl
      · have hf := ob_neg q5 hf
        refine g_aload_n (n := 20) d_M_isEmpty_19 rfl 0 rfl rfl ?_
        refine g_aload_n (n := 21) d_M_isEmpty_20 rfl 0 rfl rfl ?_
        refine g_iload_n (n := 22) d_M_isEmpty_21 rfl 1 rfl rfl ?_
        refine g_iload_n (n := 23) d_M_isEmpty_22 rfl 3 rfl rfl ?_
        obtain ⟨r6, h7, hf⟩ := ob_bind hf
        refine c_Vr (n := 26) (st' := [.int r6, .ref 18]) [.int x1, .int x3] [.ref 18] d_M_isEmpty_23 rfl (s_M_place htr h7 rfl) tw_965 tw_967 (am_memS 19 (by decide +kernel) (by decide +kernel)) tw_8 tw_968 hd_M_place (by omega) (by decide) (ci := 7) rfl rfl rfl (Nat.le_of_ble_eq_true rfl) rfl rfl ?_
        obtain ⟨r8, h9, hf⟩ := ob_bind hf
        refine c_Vr (n := 29) (st' := [.int r8]) [.int r6] [] d_M_isEmpty_26 rfl (s_M_isFree htr h9 rfl) tw_973 tw_975 (am_memS 21 (by decide +kernel) (by decide +kernel)) tw_8 tw_976 hd_M_isFree (by omega) (by decide) (ci := 7) rfl rfl rfl (Nat.le_of_ble_eq_true rfl) rfl rfl ?_
        refine g_if_eq (n := 32) (tgt := 36) d_M_isEmpty_29 rfl (by decide) (fun q10 => ?_) (fun q10 => ?_)
        · have hf := ob_pos q10 hf
          refine g_iconst (n := 37) (v := 0) d_M_isEmpty_36 rfl (by decide) ?_
          refine g_istore_n (n := 38) (ls' := [(2, .int 0), (0, .ref 18), (1, .int x1), (3, .int x3)]) d_M_isEmpty_37 rfl rfl (am_ltb rfl) rfl ?_
          refine g_iinc (n := 41) (v := (x3 + 1)) (ls' := [(3, .int (x3 + 1)), (2, .int 0), (0, .ref 18), (1, .int x1)]) d_M_isEmpty_38 rfl 3 rfl rfl (am_ltb rfl) rfl ?_
          refine g_goto (n := 4) d_M_isEmpty_41 (by decide) ?_
          refine g_ls [2, 3, 1, 0] rfl ?_
          exact ih dk x1 0 (x3 + 1) _ hf _ rfl
        · have hf := ob_neg q10 hf
          refine g_iconst (n := 33) (v := 1) d_M_isEmpty_32 rfl (by decide) ?_
          refine g_goto (n := 37) d_M_isEmpty_33 (by decide) ?_
          refine g_istore_n (n := 38) (ls' := [(2, .int 1), (0, .ref 18), (1, .int x1), (3, .int x3)]) d_M_isEmpty_37 rfl rfl (am_ltb rfl) rfl ?_
          refine g_iinc (n := 41) (v := (x3 + 1)) (ls' := [(3, .int (x3 + 1)), (2, .int 1), (0, .ref 18), (1, .int x1)]) d_M_isEmpty_38 rfl 3 rfl rfl (am_ltb rfl) rfl ?_
          refine g_goto (n := 4) d_M_isEmpty_41 (by decide) ?_
          refine g_ls [2, 3, 1, 0] rfl ?_
          exact ih dk x1 1 (x3 + 1) _ hf _ rfl
def f_M_isEmpty (dk : Nat → Int32) (x1 : Int32) : Option (Int32) :=
  f_M_isEmpty_L4 100000000000 dk x1 1 0
set_option maxHeartbeats 4000000 in
set_option maxRecDepth 100000 in
theorem s_M_isEmpty {l : Launch} {D : va_G} {dA : FieldType → ClassId} (htr : l.stackTraces = false) {hx : Nat → am_E} {rest : List am_E} {on : Int32} {dd : Int32} {mw : Int32} {cu : Int32} {ty : Int32} {mh : Int32} {md : Int32} {dk : Nat → Int32} {op : Nat → Int32} {th : Int32} {sp : Int32} {mp : Int32} {mf : Int32} {ml : Nat → Int32} {ps : Nat → Int32} {nm : Nat → Int32} {mu : Nat → Int32} {ch : Nat → Int32} {wy : Nat → Int32} {nx : Nat → Int32}  {x1 : Int32} {r : Int32} (hf : f_M_isEmpty dk x1 = some r) {o : am_O} (ho : .inl (some (.int r)) = o) :
    am_M (am_kk l D dA) y_M_isEmpty ws_M_isEmpty (am_rm 4 o) [.ref 18, .int x1] (hM hx on dd mw cu ty mh md dk op th sp mp mf ml ps nm mu ch wy nx rest) o (hM hx on dd mw cu ty mh md dk op th sp mp mf ml ps nm mu ch wy nx rest) := by
  subst ho
  refine am_body (by decide) rfl (Nat.le_of_ble_eq_true rfl) rfl ?_
  rw [f_M_isEmpty] at hf
  refine g_iconst (n := 1) (v := 1) d_M_isEmpty_0 rfl (by decide) ?_
  refine g_istore_n (n := 2) (ls' := [(2, .int 1), (0, .ref 18), (1, .int x1)]) d_M_isEmpty_1 rfl rfl (am_ltb rfl) rfl ?_
  refine g_iconst (n := 3) (v := 0) d_M_isEmpty_2 rfl (by decide) ?_
  refine g_istore_n (n := 4) (ls' := [(3, .int 0), (2, .int 1), (0, .ref 18), (1, .int x1)]) d_M_isEmpty_3 rfl rfl (am_ltb rfl) rfl ?_
  refine g_ls [2, 3, 1, 0] rfl ?_
  exact s_M_isEmpty_L4 htr 100000000000 dk x1 1 0 _ hf _ rfl
def f_M_mark (w : am_MS) (x1 : Int32) : Option (am_MS) :=
  ((f_M_door w).bind fun r1 => (if r1.1 = 0 then some r1.2 else (if am_in x1 2240 = true then some (r1.2.1, r1.2.2.1, r1.2.2.2.1, r1.2.2.2.2.1, r1.2.2.2.2.2.1, r1.2.2.2.2.2.2.1, r1.2.2.2.2.2.2.2.1, (upd r1.2.2.2.2.2.2.2.2.1 x1.toNatClampNeg 229), r1.2.2.2.2.2.2.2.2.2) else none)))
set_option maxHeartbeats 4000000 in
set_option maxRecDepth 100000 in
theorem s_M_mark {l : Launch} {D : va_G} {dA : FieldType → ClassId} (htr : l.stackTraces = false) {hx : Nat → am_E} {rest : List am_E} {th : Int32} {sp : Int32} {mp : Int32} {mf : Int32} {ml : Nat → Int32} {ps : Nat → Int32} {nm : Nat → Int32} {mu : Nat → Int32} {ch : Nat → Int32} {wy : Nat → Int32} {nx : Nat → Int32} {w : am_MS} {x1 : Int32} {r : am_MS} (hf : f_M_mark w x1 = some r) {o : am_O} (ho : .inl none = o) :
    am_M (am_kk l D dA) y_M_mark ws_M_mark (am_rm 2 o) [.ref 18, .int x1] (hM hx w.1 w.2.1 w.2.2.1 w.2.2.2.1 w.2.2.2.2.1 w.2.2.2.2.2.1 w.2.2.2.2.2.2.1 w.2.2.2.2.2.2.2.1 w.2.2.2.2.2.2.2.2 th sp mp mf ml ps nm mu ch wy nx rest) o (hM hx r.1 r.2.1 r.2.2.1 r.2.2.2.1 r.2.2.2.2.1 r.2.2.2.2.2.1 r.2.2.2.2.2.2.1 r.2.2.2.2.2.2.2.1 r.2.2.2.2.2.2.2.2 th sp mp mf ml ps nm mu ch wy nx rest) := by
  subst ho
  refine am_body (by decide) rfl (Nat.le_of_ble_eq_true rfl) rfl ?_
  rw [f_M_mark] at hf
  refine g_aload_n (n := 1) d_M_mark_0 rfl 0 rfl rfl ?_
  obtain ⟨r1, h2, hf⟩ := ob_bind hf
  refine c_Vr (n := 4) (st' := [.int r1.1]) [] [] d_M_mark_1 rfl (s_M_door htr h2 rfl) tw_1025 tw_1027 (am_memS 31 (by decide +kernel) (by decide +kernel)) tw_8 tw_1028 hd_M_door (by omega) (by decide) (ci := 7) rfl rfl rfl (Nat.le_of_ble_eq_true rfl) rfl rfl ?_
  refine g_if_eq (n := 7) (tgt := 16) d_M_mark_4 rfl (by decide) (fun q3 => ?_) (fun q3 => ?_)
  · have hf := ob_pos q3 hf
    cases hf
    exact g_vret d_M_mark_16 rfl (Nat.zero_le _) (Nat.zero_le _)
  · have hf := ob_neg q3 hf
    refine g_aload_n (n := 8) d_M_mark_7 rfl 0 rfl rfl ?_
    refine g_get (n := 11) (q0 := 18) d_M_mark_8 rfl (am_fl in_M rfl (by decide : 1 < 20)) (List.mem_cons_of_mem _ tw_866) rfl rfl ?_
    refine g_iload_n (n := 12) d_M_mark_11 rfl 1 rfl rfl ?_
    refine g_sipush (n := 15) (v := 229) d_M_mark_12 rfl (by decide) ?_
    obtain ⟨b4, hf⟩ := ob_chk hf
    refine g_iast (n := 16) (q0 := 19) (h' := (hM hx r1.2.1 r1.2.2.1 r1.2.2.2.1 r1.2.2.2.2.1 r1.2.2.2.2.2.1 r1.2.2.2.2.2.2.1 r1.2.2.2.2.2.2.2.1 (upd r1.2.2.2.2.2.2.2.2.1 x1.toNatClampNeg 229) r1.2.2.2.2.2.2.2.2.2 th sp mp mf ml ps nm mu ch wy nx rest)) d_M_mark_15 rfl rfl (am_inl b4) rfl ?_
    cases hf
    exact g_vret d_M_mark_16 rfl (Nat.zero_le _) (Nat.zero_le _)
def f_M_free_L9 : Nat → am_MS → Int32 → Int32 → Int32 → Option (am_MS)
  | 0, _, _, _, _ => none
  | fuel + 1, w, x1, x2, x3 =>
  (if x2 < x3 then some w else ((f_M_place w.2.2.2.2.2.2.2.1 x1 x3).bind fun r4 => ((f_M_mark w r4).bind fun r6 => f_M_free_L9 fuel r6 x1 x2 (x3 + 1))))
set_option maxHeartbeats 4000000 in
set_option maxRecDepth 100000 in
theorem s_M_free_L9 {l : Launch} {D : va_G} {dA : FieldType → ClassId} (htr : l.stackTraces = false) {hx : Nat → am_E} {rest : List am_E} {th : Int32} {sp : Int32} {mp : Int32} {mf : Int32} {ml : Nat → Int32} {ps : Nat → Int32} {nm : Nat → Int32} {mu : Nat → Int32} {ch : Nat → Int32} {wy : Nat → Int32} {nx : Nat → Int32}  : ∀ (fuel : Nat) (w : am_MS) (x1 : Int32) (x2 : Int32) (x3 : Int32) (r : am_MS), f_M_free_L9 fuel w x1 x2 x3 = some r → ∀ o : am_O, .inl none = o →
    am_G (am_kk l D dA) (ws_M_free, y_M_free.cls, prog_9_method_37_code, 4, none, y_M_free.name, [], am_rm 5 (o), none) o (hM hx r.1 r.2.1 r.2.2.1 r.2.2.2.1 r.2.2.2.2.1 r.2.2.2.2.2.1 r.2.2.2.2.2.2.1 r.2.2.2.2.2.2.2.1 r.2.2.2.2.2.2.2.2 th sp mp mf ml ps nm mu ch wy nx rest) 0 0 9 [(0, .ref 18), (1, .int x1), (2, .int x2), (3, .int x3)] [] (hM hx w.1 w.2.1 w.2.2.1 w.2.2.2.1 w.2.2.2.2.1 w.2.2.2.2.2.1 w.2.2.2.2.2.2.1 w.2.2.2.2.2.2.2.1 w.2.2.2.2.2.2.2.2 th sp mp mf ml ps nm mu ch wy nx rest) := by
  intro fuel
  induction fuel with
  | zero =>
    intro w x1 x2 x3 r hf
    cases hf
  | succ fuel ih =>
    intro w x1 x2 x3 r hf o ho
    subst ho
    rw [f_M_free_L9] at hf
    refine g_iload_n (n := 10) d_M_free_9 rfl 3 rfl rfl ?_
    refine g_iload_n (n := 11) d_M_free_10 rfl 2 rfl rfl ?_
    refine g_icmp_gt (n := 14) (tgt := 30) d_M_free_11 rfl (by decide) (fun q3 => ?_) (fun q3 => ?_)
    · have hf := ob_pos q3 hf
      cases hf
      exact g_vret d_M_free_30 rfl (Nat.zero_le _) (Nat.zero_le _)
    · have hf := ob_neg q3 hf
      refine g_aload_n (n := 15) d_M_free_14 rfl 0 rfl rfl ?_
      refine g_aload_n (n := 16) d_M_free_15 rfl 0 rfl rfl ?_
      refine g_iload_n (n := 17) d_M_free_16 rfl 1 rfl rfl ?_
      refine g_iload_n (n := 18) d_M_free_17 rfl 3 rfl rfl ?_
      obtain ⟨r4, h5, hf⟩ := ob_bind hf
      refine c_Vr (n := 21) (st' := [.int r4, .ref 18]) [.int x1, .int x3] [.ref 18] d_M_free_18 rfl (s_M_place htr h5 rfl) tw_965 tw_967 (am_memS 19 (by decide +kernel) (by decide +kernel)) tw_8 tw_968 hd_M_place (by omega) (by decide) (ci := 7) rfl rfl rfl (Nat.le_of_ble_eq_true rfl) rfl rfl ?_
      obtain ⟨r6, h7, hf⟩ := ob_bind hf
      refine c_Vr (n := 24) (st' := []) [.int r4] [] d_M_free_21 rfl (s_M_mark htr h7 rfl) tw_1057 tw_1059 (am_memS 38 (by decide +kernel) (by decide +kernel)) tw_8 tw_1060 hd_M_mark (by omega) (by decide) (ci := 7) rfl rfl rfl (Nat.le_of_ble_eq_true rfl) rfl rfl ?_
      refine g_iinc (n := 27) (v := (x3 + 1)) (ls' := [(3, .int (x3 + 1)), (0, .ref 18), (1, .int x1), (2, .int x2)]) d_M_free_24 rfl 3 rfl rfl (am_ltb rfl) rfl ?_
      refine g_goto (n := 9) d_M_free_27 (by decide) ?_
      refine g_ls [1, 2, 3, 0] rfl ?_
      exact ih r6 x1 x2 (x3 + 1) _ hf _ rfl
def f_M_free (w : am_MS) (x1 : Int32) (x2 : Int32) : Option (am_MS) :=
  ((f_M_partsOf w.2.2.2.2.2.2.2.1 x1 x2).bind fun r1 => f_M_free_L9 100000000000 w x1 x2 (x2 - r1))
set_option maxHeartbeats 4000000 in
set_option maxRecDepth 100000 in
theorem s_M_free {l : Launch} {D : va_G} {dA : FieldType → ClassId} (htr : l.stackTraces = false) {hx : Nat → am_E} {rest : List am_E} {th : Int32} {sp : Int32} {mp : Int32} {mf : Int32} {ml : Nat → Int32} {ps : Nat → Int32} {nm : Nat → Int32} {mu : Nat → Int32} {ch : Nat → Int32} {wy : Nat → Int32} {nx : Nat → Int32} {w : am_MS} {x1 : Int32} {x2 : Int32} {r : am_MS} (hf : f_M_free w x1 x2 = some r) {o : am_O} (ho : .inl none = o) :
    am_M (am_kk l D dA) y_M_free ws_M_free (am_rm 5 o) [.ref 18, .int x1, .int x2] (hM hx w.1 w.2.1 w.2.2.1 w.2.2.2.1 w.2.2.2.2.1 w.2.2.2.2.2.1 w.2.2.2.2.2.2.1 w.2.2.2.2.2.2.2.1 w.2.2.2.2.2.2.2.2 th sp mp mf ml ps nm mu ch wy nx rest) o (hM hx r.1 r.2.1 r.2.2.1 r.2.2.2.1 r.2.2.2.2.1 r.2.2.2.2.2.1 r.2.2.2.2.2.2.1 r.2.2.2.2.2.2.2.1 r.2.2.2.2.2.2.2.2 th sp mp mf ml ps nm mu ch wy nx rest) := by
  subst ho
  refine am_body (by decide) rfl (Nat.le_of_ble_eq_true rfl) rfl ?_
  rw [f_M_free] at hf
  refine g_iload_n (n := 1) d_M_free_0 rfl 2 rfl rfl ?_
  refine g_aload_n (n := 2) d_M_free_1 rfl 0 rfl rfl ?_
  refine g_iload_n (n := 3) d_M_free_2 rfl 1 rfl rfl ?_
  refine g_iload_n (n := 4) d_M_free_3 rfl 2 rfl rfl ?_
  obtain ⟨r1, h2, hf⟩ := ob_bind hf
  refine c_Vr (n := 7) (st' := [.int r1, .int x2]) [.int x1, .int x2] [.int x2] d_M_free_4 rfl (s_M_partsOf htr h2 rfl) tw_977 tw_979 (am_memS 22 (by decide +kernel) (by decide +kernel)) tw_8 tw_980 hd_M_partsOf (by omega) (by decide) (ci := 7) rfl rfl rfl (Nat.le_of_ble_eq_true rfl) rfl rfl ?_
  refine g_isub (n := 8) d_M_free_7 rfl ?_
  refine g_istore_n (n := 9) (ls' := [(3, .int (x2 - r1)), (0, .ref 18), (1, .int x1), (2, .int x2)]) d_M_free_8 rfl rfl (am_ltb rfl) rfl ?_
  refine g_ls [1, 2, 3, 0] rfl ?_
  exact s_M_free_L9 htr 100000000000 w x1 x2 (x2 - r1) _ hf _ rfl
def f_M_delete_L150 : Nat → am_MS → Int32 → Int32 → (Nat → Int32) → Int32 → Option (am_MS × Int32)
  | 0, _, _, _, _, _ => none
  | fuel + 1, w, th, sp, ml, x3 =>
  ((f_M_in x3 2 63).bind fun r20 => (if r20 = 0 then (if w.2.1 = 0 then some (w, 0) else some (w, 1)) else (if w.2.1 = 0 then ((f_M_cell w.2.2.2.2.2.2.2.1 x3).bind fun r26 => ((f_M_set w x3 0).bind fun r28 => f_M_delete_L150 fuel r28 th sp ml r26)) else some (w, 1))))
set_option maxHeartbeats 4000000 in
set_option maxRecDepth 100000 in
theorem s_M_delete_L150 {l : Launch} {D : va_G} {dA : FieldType → ClassId} (htr : l.stackTraces = false) {hx : Nat → am_E} {rest : List am_E} {mp : Int32} {mf : Int32} {ps : Nat → Int32} {nm : Nat → Int32} {mu : Nat → Int32} {ch : Nat → Int32} {wy : Nat → Int32} {nx : Nat → Int32}  : ∀ (fuel : Nat) (w : am_MS) (th : Int32) (sp : Int32) (ml : Nat → Int32) (x3 : Int32) (r : am_MS × Int32), f_M_delete_L150 fuel w th sp ml x3 = some r → ∀ o : am_O, .inl none = o →
    am_G (am_kk l D dA) (ws_M_delete, y_M_delete.cls, prog_9_method_39_code, 6, none, y_M_delete.name, [], am_rm 8 (o), none) o (hM hx r.1.1 r.1.2.1 r.1.2.2.1 r.1.2.2.2.1 r.1.2.2.2.2.1 r.1.2.2.2.2.2.1 r.1.2.2.2.2.2.2.1 r.1.2.2.2.2.2.2.2.1 r.1.2.2.2.2.2.2.2.2 r.2 sp mp mf ml ps nm mu ch wy nx rest) 0 0 150 [(0, .ref 18), (3, .int x3)] [] (hM hx w.1 w.2.1 w.2.2.1 w.2.2.2.1 w.2.2.2.2.1 w.2.2.2.2.2.1 w.2.2.2.2.2.2.1 w.2.2.2.2.2.2.2.1 w.2.2.2.2.2.2.2.2 th sp mp mf ml ps nm mu ch wy nx rest) := by
  intro fuel
  induction fuel with
  | zero =>
    intro w th sp ml x3 r hf
    cases hf
  | succ fuel ih =>
    intro w th sp ml x3 r hf o ho
    subst ho
    rw [f_M_delete_L150] at hf
    refine g_iload_n (n := 151) d_M_delete_150 rfl 1 rfl rfl ?_
    refine g_iconst (n := 152) (v := 2) d_M_delete_151 rfl (by decide) ?_
    refine g_bipush (n := 154) (v := 63) d_M_delete_152 rfl (by decide) ?_
    obtain ⟨r20, h21, hf⟩ := ob_bind hf
    refine c_Sr (n := 157) (st' := [.int r20]) [.int x3, .int 2, .int 63] [] d_M_delete_154 rfl (s_M_in htr h21 rfl) tw_938 tw_939 tw_8 tw_940 rfl hd_M_in (by omega) (by decide) rfl (Nat.le_of_ble_eq_true rfl) rfl rfl ?_
    refine g_if_eq (n := 160) (tgt := 186) d_M_delete_157 rfl (by decide) (fun q22 => ?_) (fun q22 => ?_)
    · have hf := ob_pos q22 hf
      refine g_aload_n (n := 187) d_M_delete_186 rfl 0 rfl rfl ?_
      refine g_aload_n (n := 188) d_M_delete_187 rfl 0 rfl rfl ?_
      refine g_get (n := 191) (q0 := 18) d_M_delete_188 rfl (am_fl in_M rfl (by decide : 4 < 20)) (List.mem_cons_of_mem _ tw_869) rfl rfl ?_
      refine g_if_eq (n := 194) (tgt := 198) d_M_delete_191 rfl (by decide) (fun q23 => ?_) (fun q23 => ?_)
      · have hf := ob_pos q23 hf
        refine g_iconst (n := 199) (v := 0) d_M_delete_198 rfl (by decide) ?_
        refine g_put (n := 202) (q0 := 18) (h' := (hM hx w.1 w.2.1 w.2.2.1 w.2.2.2.1 w.2.2.2.2.1 w.2.2.2.2.2.1 w.2.2.2.2.2.2.1 w.2.2.2.2.2.2.2.1 w.2.2.2.2.2.2.2.2 0 sp mp mf ml ps nm mu ch wy nx rest)) d_M_delete_199 rfl (am_fl in_M rfl (by decide : 0 < 20)) typ_M (List.mem_cons_of_mem _ tw_865) rfl (fun _ _ => rfl) (fun _ _ => rfl) rfl (am_ltb rfl) rfl ?_
        cases hf
        exact g_vret d_M_delete_202 rfl (Nat.zero_le _) (Nat.zero_le _)
      · have hf := ob_neg q23 hf
        refine g_iconst (n := 195) (v := 1) d_M_delete_194 rfl (by decide) ?_
        refine g_goto (n := 199) d_M_delete_195 (by decide) ?_
        refine g_put (n := 202) (q0 := 18) (h' := (hM hx w.1 w.2.1 w.2.2.1 w.2.2.2.1 w.2.2.2.2.1 w.2.2.2.2.2.1 w.2.2.2.2.2.2.1 w.2.2.2.2.2.2.2.1 w.2.2.2.2.2.2.2.2 1 sp mp mf ml ps nm mu ch wy nx rest)) d_M_delete_199 rfl (am_fl in_M rfl (by decide : 0 < 20)) typ_M (List.mem_cons_of_mem _ tw_865) rfl (fun _ _ => rfl) (fun _ _ => rfl) rfl (am_ltb rfl) rfl ?_
        cases hf
        exact g_vret d_M_delete_202 rfl (Nat.zero_le _) (Nat.zero_le _)
    · have hf := ob_neg q22 hf
      refine g_aload_n (n := 161) d_M_delete_160 rfl 0 rfl rfl ?_
      refine g_get (n := 164) (q0 := 18) d_M_delete_161 rfl (am_fl in_M rfl (by decide : 4 < 20)) (List.mem_cons_of_mem _ tw_869) rfl rfl ?_
      refine g_if_ne (n := 167) (tgt := 186) d_M_delete_164 rfl (by decide) (fun q24 => ?_) (fun q24 => ?_)
      · have hf := ob_neg q24 hf
        refine g_aload_n (n := 187) d_M_delete_186 rfl 0 rfl rfl ?_
        refine g_aload_n (n := 188) d_M_delete_187 rfl 0 rfl rfl ?_
        refine g_get (n := 191) (q0 := 18) d_M_delete_188 rfl (am_fl in_M rfl (by decide : 4 < 20)) (List.mem_cons_of_mem _ tw_869) rfl rfl ?_
        refine g_if_eq (n := 194) (tgt := 198) d_M_delete_191 rfl (by decide) (fun q25 => absurd q25 q24) (fun _ => ?_)
        refine g_iconst (n := 195) (v := 1) d_M_delete_194 rfl (by decide) ?_
        refine g_goto (n := 199) d_M_delete_195 (by decide) ?_
        refine g_put (n := 202) (q0 := 18) (h' := (hM hx w.1 w.2.1 w.2.2.1 w.2.2.2.1 w.2.2.2.2.1 w.2.2.2.2.2.1 w.2.2.2.2.2.2.1 w.2.2.2.2.2.2.2.1 w.2.2.2.2.2.2.2.2 1 sp mp mf ml ps nm mu ch wy nx rest)) d_M_delete_199 rfl (am_fl in_M rfl (by decide : 0 < 20)) typ_M (List.mem_cons_of_mem _ tw_865) rfl (fun _ _ => rfl) (fun _ _ => rfl) rfl (am_ltb rfl) rfl ?_
        cases hf
        exact g_vret d_M_delete_202 rfl (Nat.zero_le _) (Nat.zero_le _)
      · have hf := ob_pos q24 hf
        refine g_aload_n (n := 168) d_M_delete_167 rfl 0 rfl rfl ?_
        refine g_iload_n (n := 169) d_M_delete_168 rfl 1 rfl rfl ?_
        obtain ⟨r26, h27, hf⟩ := ob_bind hf
        refine c_Vr (n := 172) (st' := [.int r26]) [.int x3] [] d_M_delete_169 rfl (s_M_cell htr h27 rfl) tw_953 tw_955 (am_memS 16 (by decide +kernel) (by decide +kernel)) tw_8 tw_956 hd_M_cell (by omega) (by decide) (ci := 7) rfl rfl rfl (Nat.le_of_ble_eq_true rfl) rfl rfl ?_
        refine g_istore (n := 174) (ls' := [(5, .int r26), (0, .ref 18), (3, .int x3)]) d_M_delete_172 rfl (am_ltb rfl) rfl ?_
        refine g_aload_n (n := 175) d_M_delete_174 rfl 1 rfl rfl ?_
        refine g_iload_n (n := 176) d_M_delete_175 rfl 2 rfl rfl ?_
        refine g_iconst (n := 177) (v := 0) d_M_delete_176 rfl (by decide) ?_
        obtain ⟨r28, h29, hf⟩ := ob_bind hf
        refine c_Vr (n := 180) (st' := []) [.int x3, .int 0] [] d_M_delete_177 rfl (s_M_set htr h29 rfl) tw_1021 tw_1023 (am_memS 30 (by decide +kernel) (by decide +kernel)) tw_8 tw_1024 hd_M_set (by omega) (by decide) (ci := 7) rfl rfl rfl (Nat.le_of_ble_eq_true rfl) rfl rfl ?_
        refine g_iload (n := 182) d_M_delete_180 rfl 0 rfl ?_
        refine g_istore_n (n := 183) (ls' := [(3, .int r26), (5, .int r26), (0, .ref 18)]) d_M_delete_182 rfl rfl (am_ltb rfl) rfl ?_
        refine g_goto (n := 150) d_M_delete_183 (by decide) ?_
        refine g_ls [2, 0] rfl ?_
        exact ih r28 th sp ml r26 _ hf _ rfl
def f_M_delete_L86 : Nat → am_MS → Int32 → Int32 → (Nat → Int32) → Int32 → Int32 → Int32 → Int32 → Int32 → Option (am_MS × Int32)
  | 0, _, _, _, _, _, _, _, _, _ => none
  | fuel + 1, w, th, sp, ml, x1, x2, x3, x4, x5 =>
  (if 4 ≤ x5 then (if x4 = 0 then some (w, 3) else ((f_M_free w w.2.2.2.2.2.1 x1).bind fun r18 => f_M_delete_L150 100000000000 r18 0 sp ml x3)) else (if x4 = 0 then f_M_delete_L86 fuel w th sp ml x1 x2 x3 0 (x5 + 1) else (if am_in x5 4 = true then (if (w.2.2.2.2.2.2.2.2 x5.toNatClampNeg) = x2 then f_M_delete_L86 fuel w th sp ml x1 x2 x3 0 (x5 + 1) else f_M_delete_L86 fuel w th sp ml x1 x2 x3 1 (x5 + 1)) else none)))
set_option maxHeartbeats 4000000 in
set_option maxRecDepth 100000 in
theorem s_M_delete_L86 {l : Launch} {D : va_G} {dA : FieldType → ClassId} (htr : l.stackTraces = false) {hx : Nat → am_E} {rest : List am_E} {mp : Int32} {mf : Int32} {ps : Nat → Int32} {nm : Nat → Int32} {mu : Nat → Int32} {ch : Nat → Int32} {wy : Nat → Int32} {nx : Nat → Int32}  : ∀ (fuel : Nat) (w : am_MS) (th : Int32) (sp : Int32) (ml : Nat → Int32) (x1 : Int32) (x2 : Int32) (x3 : Int32) (x4 : Int32) (x5 : Int32) (r : am_MS × Int32), f_M_delete_L86 fuel w th sp ml x1 x2 x3 x4 x5 = some r → ∀ o : am_O, .inl none = o →
    am_G (am_kk l D dA) (ws_M_delete, y_M_delete.cls, prog_9_method_39_code, 6, none, y_M_delete.name, [], am_rm 8 (o), none) o (hM hx r.1.1 r.1.2.1 r.1.2.2.1 r.1.2.2.2.1 r.1.2.2.2.2.1 r.1.2.2.2.2.2.1 r.1.2.2.2.2.2.2.1 r.1.2.2.2.2.2.2.2.1 r.1.2.2.2.2.2.2.2.2 r.2 sp mp mf ml ps nm mu ch wy nx rest) 0 0 86 [(0, .ref 18), (1, .int x1), (2, .int x2), (3, .int x3), (4, .int x4), (5, .int x5)] [] (hM hx w.1 w.2.1 w.2.2.1 w.2.2.2.1 w.2.2.2.2.1 w.2.2.2.2.2.1 w.2.2.2.2.2.2.1 w.2.2.2.2.2.2.2.1 w.2.2.2.2.2.2.2.2 th sp mp mf ml ps nm mu ch wy nx rest) := by
  intro fuel
  induction fuel with
  | zero =>
    intro w th sp ml x1 x2 x3 x4 x5 r hf
    cases hf
  | succ fuel ih =>
    intro w th sp ml x1 x2 x3 x4 x5 r hf o ho
    subst ho
    rw [f_M_delete_L86] at hf
    refine g_iload (n := 88) d_M_delete_86 rfl 5 rfl ?_
    refine g_iconst (n := 89) (v := 4) d_M_delete_88 rfl (by decide) ?_
    refine g_icmp_ge (n := 92) (tgt := 121) d_M_delete_89 rfl (by decide) (fun q14 => ?_) (fun q14 => ?_)
    · have hf := ob_pos q14 hf
      refine g_aload_n (n := 122) d_M_delete_121 rfl 0 rfl rfl ?_
      refine g_iload (n := 124) d_M_delete_122 rfl 4 rfl ?_
      refine g_if_eq (n := 127) (tgt := 131) d_M_delete_124 rfl (by decide) (fun q15 => ?_) (fun q15 => ?_)
      · have hf := ob_pos q15 hf
        refine g_iconst (n := 132) (v := 3) d_M_delete_131 rfl (by decide) ?_
        refine g_put (n := 135) (q0 := 18) (h' := (hM hx w.1 w.2.1 w.2.2.1 w.2.2.2.1 w.2.2.2.2.1 w.2.2.2.2.2.1 w.2.2.2.2.2.2.1 w.2.2.2.2.2.2.2.1 w.2.2.2.2.2.2.2.2 3 sp mp mf ml ps nm mu ch wy nx rest)) d_M_delete_132 rfl (am_fl in_M rfl (by decide : 0 < 20)) typ_M (List.mem_cons_of_mem _ tw_865) rfl (fun _ _ => rfl) (fun _ _ => rfl) rfl (am_ltb rfl) rfl ?_
        refine g_iload (n := 137) d_M_delete_135 rfl 4 rfl ?_
        refine g_if_ne (n := 140) (tgt := 141) d_M_delete_137 rfl (by decide) (fun q16 => absurd q15 q16) (fun _ => ?_)
        cases hf
        exact g_vret d_M_delete_140 rfl (Nat.zero_le _) (Nat.zero_le _)
      · have hf := ob_neg q15 hf
        refine g_iconst (n := 128) (v := 0) d_M_delete_127 rfl (by decide) ?_
        refine g_goto (n := 132) d_M_delete_128 (by decide) ?_
        refine g_put (n := 135) (q0 := 18) (h' := (hM hx w.1 w.2.1 w.2.2.1 w.2.2.2.1 w.2.2.2.2.1 w.2.2.2.2.2.1 w.2.2.2.2.2.2.1 w.2.2.2.2.2.2.2.1 w.2.2.2.2.2.2.2.2 0 sp mp mf ml ps nm mu ch wy nx rest)) d_M_delete_132 rfl (am_fl in_M rfl (by decide : 0 < 20)) typ_M (List.mem_cons_of_mem _ tw_865) rfl (fun _ _ => rfl) (fun _ _ => rfl) rfl (am_ltb rfl) rfl ?_
        refine g_iload (n := 137) d_M_delete_135 rfl 4 rfl ?_
        refine g_if_ne (n := 140) (tgt := 141) d_M_delete_137 rfl (by decide) (fun _ => ?_) (fun q17 => absurd q17 q15)
        refine g_aload_n (n := 142) d_M_delete_141 rfl 0 rfl rfl ?_
        refine g_aload_n (n := 143) d_M_delete_142 rfl 0 rfl rfl ?_
        refine g_get (n := 146) (q0 := 18) d_M_delete_143 rfl (am_fl in_M rfl (by decide : 9 < 20)) (List.mem_cons_of_mem _ tw_874) rfl rfl ?_
        refine g_iload_n (n := 147) d_M_delete_146 rfl 1 rfl rfl ?_
        obtain ⟨r18, h19, hf⟩ := ob_bind hf
        refine c_Vr (n := 150) (st' := []) [.int w.2.2.2.2.2.1, .int x1] [] d_M_delete_147 rfl (s_M_free htr h19 rfl) tw_1053 tw_1055 (am_memS 37 (by decide +kernel) (by decide +kernel)) tw_8 tw_1056 hd_M_free (by omega) (by decide) (ci := 7) rfl rfl rfl (Nat.le_of_ble_eq_true rfl) rfl rfl ?_
        refine g_ls [0, 3] rfl ?_
        exact s_M_delete_L150 htr 100000000000 r18 0 sp ml x3 _ hf _ rfl
    · have hf := ob_neg q14 hf
      refine g_iload (n := 94) d_M_delete_92 rfl 4 rfl ?_
      refine g_if_eq (n := 97) (tgt := 112) d_M_delete_94 rfl (by decide) (fun q30 => ?_) (fun q30 => ?_)
      · have hf := ob_pos q30 hf
        refine g_iconst (n := 113) (v := 0) d_M_delete_112 rfl (by decide) ?_
        refine g_istore (n := 115) (ls' := [(4, .int 0), (0, .ref 18), (1, .int x1), (2, .int x2), (3, .int x3), (5, .int x5)]) d_M_delete_113 rfl (am_ltb rfl) rfl ?_
        refine g_iinc (n := 118) (v := (x5 + 1)) (ls' := [(5, .int (x5 + 1)), (4, .int 0), (0, .ref 18), (1, .int x1), (2, .int x2), (3, .int x3)]) d_M_delete_115 rfl 5 rfl rfl (am_ltb rfl) rfl ?_
        refine g_goto (n := 86) d_M_delete_118 (by decide) ?_
        refine g_ls [2, 3, 4, 5, 1, 0] rfl ?_
        exact ih w th sp ml x1 x2 x3 0 (x5 + 1) _ hf _ rfl
      · have hf := ob_neg q30 hf
        refine g_aload_n (n := 98) d_M_delete_97 rfl 0 rfl rfl ?_
        refine g_get (n := 101) (q0 := 18) d_M_delete_98 rfl (am_fl in_M rfl (by decide : 11 < 20)) (List.mem_cons_of_mem _ tw_876) rfl rfl ?_
        refine g_iload (n := 103) d_M_delete_101 rfl 5 rfl ?_
        obtain ⟨b31, hf⟩ := ob_chk hf
        refine g_iald (n := 104) (q0 := 21) d_M_delete_103 rfl rfl (am_inl b31) ?_
        refine g_iload_n (n := 105) d_M_delete_104 rfl 2 rfl rfl ?_
        refine g_icmp_eq (n := 108) (tgt := 112) d_M_delete_105 rfl (by decide) (fun q32 => ?_) (fun q32 => ?_)
        · have hf := ob_pos q32 hf
          refine g_iconst (n := 113) (v := 0) d_M_delete_112 rfl (by decide) ?_
          refine g_istore (n := 115) (ls' := [(4, .int 0), (0, .ref 18), (1, .int x1), (2, .int x2), (3, .int x3), (5, .int x5)]) d_M_delete_113 rfl (am_ltb rfl) rfl ?_
          refine g_iinc (n := 118) (v := (x5 + 1)) (ls' := [(5, .int (x5 + 1)), (4, .int 0), (0, .ref 18), (1, .int x1), (2, .int x2), (3, .int x3)]) d_M_delete_115 rfl 5 rfl rfl (am_ltb rfl) rfl ?_
          refine g_goto (n := 86) d_M_delete_118 (by decide) ?_
          refine g_ls [2, 3, 4, 5, 1, 0] rfl ?_
          exact ih w th sp ml x1 x2 x3 0 (x5 + 1) _ hf _ rfl
        · have hf := ob_neg q32 hf
          refine g_iconst (n := 109) (v := 1) d_M_delete_108 rfl (by decide) ?_
          refine g_goto (n := 113) d_M_delete_109 (by decide) ?_
          refine g_istore (n := 115) (ls' := [(4, .int 1), (0, .ref 18), (1, .int x1), (2, .int x2), (3, .int x3), (5, .int x5)]) d_M_delete_113 rfl (am_ltb rfl) rfl ?_
          refine g_iinc (n := 118) (v := (x5 + 1)) (ls' := [(5, .int (x5 + 1)), (4, .int 1), (0, .ref 18), (1, .int x1), (2, .int x2), (3, .int x3)]) d_M_delete_115 rfl 5 rfl rfl (am_ltb rfl) rfl ?_
          refine g_goto (n := 86) d_M_delete_118 (by decide) ?_
          refine g_ls [2, 3, 4, 5, 1, 0] rfl ?_
          exact ih w th sp ml x1 x2 x3 1 (x5 + 1) _ hf _ rfl
def f_M_delete (w : am_MS) (th : Int32) (sp : Int32) (ml : Nat → Int32) : Option (am_MS × Int32) :=
  ((f_M_ready w.1 w.2.1 th sp).bind fun r1 => (if r1.1 = 0 then some ((w.1, r1.2.1, w.2.2.1, w.2.2.2.1, w.2.2.2.2.1, w.2.2.2.2.2.1, w.2.2.2.2.2.2.1, w.2.2.2.2.2.2.2.1, w.2.2.2.2.2.2.2.2), r1.2.2) else ((f_M_find w.2.2.2.2.1 w.2.2.2.2.2.1 w.2.2.2.2.2.2.2.1 ml).bind fun r4 => (if 0 ≤ r4 then ((f_M_place w.2.2.2.2.2.2.2.1 w.2.2.2.2.2.1 r4).bind fun r8 => ((f_M_numberAt w.2.2.2.2.2.2.2.1 (r8 + 8)).bind fun r10 => (if am_in (r8 + 6) 2240 = true then (if (w.2.2.2.2.2.2.2.1 (r8 + 6).toNatClampNeg) = 1 then f_M_delete_L86 100000000000 (w.1, r1.2.1, w.2.2.1, w.2.2.2.1, 0, w.2.2.2.2.2.1, w.2.2.2.2.2.2.1, w.2.2.2.2.2.2.2.1, w.2.2.2.2.2.2.2.2) 0 sp ml r4 r8 r10 1 0 else ((f_M_isEmpty w.2.2.2.2.2.2.2.1 r10).bind fun r33 => (if r33 = 0 then f_M_delete_L86 100000000000 (w.1, r1.2.1, w.2.2.1, w.2.2.2.1, 0, w.2.2.2.2.2.1, w.2.2.2.2.2.2.1, w.2.2.2.2.2.2.2.1, w.2.2.2.2.2.2.2.2) 0 sp ml r4 r8 r10 0 0 else f_M_delete_L86 100000000000 (w.1, r1.2.1, w.2.2.1, w.2.2.2.1, 0, w.2.2.2.2.2.1, w.2.2.2.2.2.2.1, w.2.2.2.2.2.2.2.1, w.2.2.2.2.2.2.2.2) 0 sp ml r4 r8 r10 1 0))) else none))) else some ((w.1, r1.2.1, w.2.2.1, w.2.2.2.1, 0, w.2.2.2.2.2.1, w.2.2.2.2.2.2.1, w.2.2.2.2.2.2.2.1, w.2.2.2.2.2.2.2.2), 2)))))
set_option maxHeartbeats 4000000 in
set_option maxRecDepth 100000 in
theorem s_M_delete {l : Launch} {D : va_G} {dA : FieldType → ClassId} (htr : l.stackTraces = false) {hx : Nat → am_E} {rest : List am_E} {th : Int32} {sp : Int32} {mp : Int32} {mf : Int32} {ml : Nat → Int32} {ps : Nat → Int32} {nm : Nat → Int32} {mu : Nat → Int32} {ch : Nat → Int32} {wy : Nat → Int32} {nx : Nat → Int32} {w : am_MS}  {r : am_MS × Int32} (hf : f_M_delete w th sp ml = some r) {o : am_O} (ho : .inl none = o) :
    am_M (am_kk l D dA) y_M_delete ws_M_delete (am_rm 8 o) [.ref 18] (hM hx w.1 w.2.1 w.2.2.1 w.2.2.2.1 w.2.2.2.2.1 w.2.2.2.2.2.1 w.2.2.2.2.2.2.1 w.2.2.2.2.2.2.2.1 w.2.2.2.2.2.2.2.2 th sp mp mf ml ps nm mu ch wy nx rest) o (hM hx r.1.1 r.1.2.1 r.1.2.2.1 r.1.2.2.2.1 r.1.2.2.2.2.1 r.1.2.2.2.2.2.1 r.1.2.2.2.2.2.2.1 r.1.2.2.2.2.2.2.2.1 r.1.2.2.2.2.2.2.2.2 r.2 sp mp mf ml ps nm mu ch wy nx rest) := by
  subst ho
  refine am_body (by decide) rfl (Nat.le_of_ble_eq_true rfl) rfl ?_
  rw [f_M_delete] at hf
  refine g_aload_n (n := 1) d_M_delete_0 rfl 0 rfl rfl ?_
  obtain ⟨r1, h2, hf⟩ := ob_bind hf
  refine c_Vr (n := 4) (st' := [.int r1.1]) [] [] d_M_delete_1 rfl (s_M_ready htr h2 rfl) tw_934 tw_936 (am_memS 12 (by decide +kernel) (by decide +kernel)) tw_8 tw_937 hd_M_ready (by omega) (by decide) (ci := 7) rfl rfl rfl (Nat.le_of_ble_eq_true rfl) rfl rfl ?_
  refine g_if_ne (n := 7) (tgt := 8) d_M_delete_4 rfl (by decide) (fun q3 => ?_) (fun q3 => ?_)
  · have hf := ob_neg q3 hf
    refine g_aload_n (n := 9) d_M_delete_8 rfl 0 rfl rfl ?_
    obtain ⟨r4, h5, hf⟩ := ob_bind hf
    refine c_Vr (n := 12) (st' := [.int r4]) [] [] d_M_delete_9 rfl (s_M_find htr h5 rfl) tw_941 tw_943 (am_memS 13 (by decide +kernel) (by decide +kernel)) tw_8 tw_944 hd_M_find (by omega) (by decide) (ci := 7) rfl rfl rfl (Nat.le_of_ble_eq_true rfl) rfl rfl ?_
    refine g_istore_n (n := 13) (ls' := [(1, .int r4), (0, .ref 18)]) d_M_delete_12 rfl rfl (am_ltb rfl) rfl ?_
    refine g_aload_n (n := 14) d_M_delete_13 rfl 1 rfl rfl ?_
    refine g_iconst (n := 15) (v := 0) d_M_delete_14 rfl (by decide) ?_
    refine g_put (n := 18) (q0 := 18) (h' := (hM hx w.1 r1.2.1 w.2.2.1 w.2.2.2.1 0 w.2.2.2.2.2.1 w.2.2.2.2.2.2.1 w.2.2.2.2.2.2.2.1 w.2.2.2.2.2.2.2.2 r1.2.2 sp mp mf ml ps nm mu ch wy nx rest)) d_M_delete_15 rfl (am_fl in_M rfl (by decide : 8 < 20)) typ_M (List.mem_cons_of_mem _ tw_873) rfl (fun _ _ => rfl) (fun _ _ => rfl) rfl (am_ltb rfl) rfl ?_
    refine g_aload_n (n := 19) d_M_delete_18 rfl 1 rfl rfl ?_
    refine g_iload_n (n := 20) d_M_delete_19 rfl 0 rfl rfl ?_
    refine g_if_ge (n := 23) (tgt := 27) d_M_delete_20 rfl (by decide) (fun q6 => ?_) (fun q6 => ?_)
    · have hf := ob_pos q6 hf
      refine g_iconst (n := 28) (v := 0) d_M_delete_27 rfl (by decide) ?_
      refine g_put (n := 31) (q0 := 18) (h' := (hM hx w.1 r1.2.1 w.2.2.1 w.2.2.2.1 0 w.2.2.2.2.2.1 w.2.2.2.2.2.2.1 w.2.2.2.2.2.2.2.1 w.2.2.2.2.2.2.2.2 0 sp mp mf ml ps nm mu ch wy nx rest)) d_M_delete_28 rfl (am_fl in_M rfl (by decide : 0 < 20)) typ_M (List.mem_cons_of_mem _ tw_865) rfl (fun _ _ => rfl) (fun _ _ => rfl) rfl (am_ltb rfl) rfl ?_
      refine g_iload_n (n := 32) d_M_delete_31 rfl 0 rfl rfl ?_
      refine g_if_ge (n := 35) (tgt := 36) d_M_delete_32 rfl (by decide) (fun _ => ?_) (fun q7 => absurd q6 q7)
      refine g_aload_n (n := 37) d_M_delete_36 rfl 1 rfl rfl ?_
      refine g_aload_n (n := 38) d_M_delete_37 rfl 1 rfl rfl ?_
      refine g_get (n := 41) (q0 := 18) d_M_delete_38 rfl (am_fl in_M rfl (by decide : 9 < 20)) (List.mem_cons_of_mem _ tw_874) rfl rfl ?_
      refine g_iload_n (n := 42) d_M_delete_41 rfl 0 rfl rfl ?_
      obtain ⟨r8, h9, hf⟩ := ob_bind hf
      refine c_Vr (n := 45) (st' := [.int r8]) [.int w.2.2.2.2.2.1, .int r4] [] d_M_delete_42 rfl (s_M_place htr h9 rfl) tw_965 tw_967 (am_memS 19 (by decide +kernel) (by decide +kernel)) tw_8 tw_968 hd_M_place (by omega) (by decide) (ci := 7) rfl rfl rfl (Nat.le_of_ble_eq_true rfl) rfl rfl ?_
      refine g_istore_n (n := 46) (ls' := [(2, .int r8), (1, .int r4), (0, .ref 18)]) d_M_delete_45 rfl rfl (am_ltb rfl) rfl ?_
      refine g_aload_n (n := 47) d_M_delete_46 rfl 2 rfl rfl ?_
      refine g_iload_n (n := 48) d_M_delete_47 rfl 0 rfl rfl ?_
      refine g_bipush (n := 50) (v := 8) d_M_delete_48 rfl (by decide) ?_
      refine g_iadd (n := 51) d_M_delete_50 rfl ?_
      obtain ⟨r10, h11, hf⟩ := ob_bind hf
      refine c_Vr (n := 54) (st' := [.int r10]) [.int (r8 + 8)] [] d_M_delete_51 rfl (s_M_numberAt htr h11 rfl) tw_957 tw_959 (am_memS 17 (by decide +kernel) (by decide +kernel)) tw_8 tw_960 hd_M_numberAt (by omega) (by decide) (ci := 7) rfl rfl rfl (Nat.le_of_ble_eq_true rfl) rfl rfl ?_
      refine g_istore_n (n := 55) (ls' := [(3, .int r10), (2, .int r8), (1, .int r4), (0, .ref 18)]) d_M_delete_54 rfl rfl (am_ltb rfl) rfl ?_
      refine g_aload_n (n := 56) d_M_delete_55 rfl 3 rfl rfl ?_
      refine g_get (n := 59) (q0 := 18) d_M_delete_56 rfl (am_fl in_M rfl (by decide : 1 < 20)) (List.mem_cons_of_mem _ tw_866) rfl rfl ?_
      refine g_iload_n (n := 60) d_M_delete_59 rfl 1 rfl rfl ?_
      refine g_bipush (n := 62) (v := 6) d_M_delete_60 rfl (by decide) ?_
      refine g_iadd (n := 63) d_M_delete_62 rfl ?_
      obtain ⟨b12, hf⟩ := ob_chk hf
      refine g_iald (n := 64) (q0 := 19) d_M_delete_63 rfl rfl (am_inl b12) ?_
      refine g_iconst (n := 65) (v := 1) d_M_delete_64 rfl (by decide) ?_
      refine g_icmp_eq (n := 68) (tgt := 76) d_M_delete_65 rfl (by decide) (fun q13 => ?_) (fun q13 => ?_)
      · have hf := ob_pos q13 hf
        refine g_iconst (n := 77) (v := 1) d_M_delete_76 rfl (by decide) ?_
        refine g_goto (n := 81) d_M_delete_77 (by decide) ?_
        refine g_istore (n := 83) (ls' := [(4, .int 1), (3, .int r10), (2, .int r8), (1, .int r4), (0, .ref 18)]) d_M_delete_81 rfl (am_ltb rfl) rfl ?_
        refine g_iconst (n := 84) (v := 0) d_M_delete_83 rfl (by decide) ?_
        refine g_istore (n := 86) (ls' := [(5, .int 0), (4, .int 1), (3, .int r10), (2, .int r8), (1, .int r4), (0, .ref 18)]) d_M_delete_84 rfl (am_ltb rfl) rfl ?_
        refine g_ls [5, 4, 3, 2, 1, 0] rfl ?_
        exact s_M_delete_L86 htr 100000000000 (w.1, r1.2.1, w.2.2.1, w.2.2.2.1, 0, w.2.2.2.2.2.1, w.2.2.2.2.2.2.1, w.2.2.2.2.2.2.2.1, w.2.2.2.2.2.2.2.2) 0 sp ml r4 r8 r10 1 0 _ hf _ rfl
      · have hf := ob_neg q13 hf
        refine g_aload_n (n := 69) d_M_delete_68 rfl 3 rfl rfl ?_
        refine g_iload_n (n := 70) d_M_delete_69 rfl 0 rfl rfl ?_
        obtain ⟨r33, h34, hf⟩ := ob_bind hf
        refine c_Vr (n := 73) (st' := [.int r33]) [.int r10] [] d_M_delete_70 rfl (s_M_isEmpty htr h34 rfl) tw_1049 tw_1051 (am_memS 36 (by decide +kernel) (by decide +kernel)) tw_8 tw_1052 hd_M_isEmpty (by omega) (by decide) (ci := 7) rfl rfl rfl (Nat.le_of_ble_eq_true rfl) rfl rfl ?_
        refine g_if_eq (n := 76) (tgt := 80) d_M_delete_73 rfl (by decide) (fun q35 => ?_) (fun q35 => ?_)
        · have hf := ob_pos q35 hf
          refine g_iconst (n := 81) (v := 0) d_M_delete_80 rfl (by decide) ?_
          refine g_istore (n := 83) (ls' := [(4, .int 0), (3, .int r10), (2, .int r8), (1, .int r4), (0, .ref 18)]) d_M_delete_81 rfl (am_ltb rfl) rfl ?_
          refine g_iconst (n := 84) (v := 0) d_M_delete_83 rfl (by decide) ?_
          refine g_istore (n := 86) (ls' := [(5, .int 0), (4, .int 0), (3, .int r10), (2, .int r8), (1, .int r4), (0, .ref 18)]) d_M_delete_84 rfl (am_ltb rfl) rfl ?_
          refine g_ls [5, 4, 3, 2, 1, 0] rfl ?_
          exact s_M_delete_L86 htr 100000000000 (w.1, r1.2.1, w.2.2.1, w.2.2.2.1, 0, w.2.2.2.2.2.1, w.2.2.2.2.2.2.1, w.2.2.2.2.2.2.2.1, w.2.2.2.2.2.2.2.2) 0 sp ml r4 r8 r10 0 0 _ hf _ rfl
        · have hf := ob_neg q35 hf
          refine g_iconst (n := 77) (v := 1) d_M_delete_76 rfl (by decide) ?_
          refine g_goto (n := 81) d_M_delete_77 (by decide) ?_
          refine g_istore (n := 83) (ls' := [(4, .int 1), (3, .int r10), (2, .int r8), (1, .int r4), (0, .ref 18)]) d_M_delete_81 rfl (am_ltb rfl) rfl ?_
          refine g_iconst (n := 84) (v := 0) d_M_delete_83 rfl (by decide) ?_
          refine g_istore (n := 86) (ls' := [(5, .int 0), (4, .int 1), (3, .int r10), (2, .int r8), (1, .int r4), (0, .ref 18)]) d_M_delete_84 rfl (am_ltb rfl) rfl ?_
          refine g_ls [5, 4, 3, 2, 1, 0] rfl ?_
          exact s_M_delete_L86 htr 100000000000 (w.1, r1.2.1, w.2.2.1, w.2.2.2.1, 0, w.2.2.2.2.2.1, w.2.2.2.2.2.2.1, w.2.2.2.2.2.2.2.1, w.2.2.2.2.2.2.2.2) 0 sp ml r4 r8 r10 1 0 _ hf _ rfl
    · have hf := ob_neg q6 hf
      refine g_iconst (n := 24) (v := 2) d_M_delete_23 rfl (by decide) ?_
      refine g_goto (n := 28) d_M_delete_24 (by decide) ?_
      refine g_put (n := 31) (q0 := 18) (h' := (hM hx w.1 r1.2.1 w.2.2.1 w.2.2.2.1 0 w.2.2.2.2.2.1 w.2.2.2.2.2.2.1 w.2.2.2.2.2.2.2.1 w.2.2.2.2.2.2.2.2 2 sp mp mf ml ps nm mu ch wy nx rest)) d_M_delete_28 rfl (am_fl in_M rfl (by decide : 0 < 20)) typ_M (List.mem_cons_of_mem _ tw_865) rfl (fun _ _ => rfl) (fun _ _ => rfl) rfl (am_ltb rfl) rfl ?_
      refine g_iload_n (n := 32) d_M_delete_31 rfl 0 rfl rfl ?_
      refine g_if_ge (n := 35) (tgt := 36) d_M_delete_32 rfl (by decide) (fun q36 => absurd q36 q6) (fun _ => ?_)
      cases hf
      exact g_vret d_M_delete_35 rfl (Nat.zero_le _) (Nat.zero_le _)
  · have hf := ob_pos q3 hf
    cases hf
    exact g_vret d_M_delete_7 rfl (Nat.zero_le _) (Nat.zero_le _)
def f_M_enter (on : Int32) (dd : Int32) (ty : Int32) (mh : Int32) (md : Int32) (dk : Nat → Int32) (th : Int32) (sp : Int32) (ml : Nat → Int32) : Option (Int32 × Int32 × Int32 × Int32 × Int32) :=
  ((f_M_ready on dd th sp).bind fun r1 => (if r1.1 = 0 then some (r1.2.1, ty, mh, md, r1.2.2) else (if ty = 0 then some (r1.2.1, ty, 2, 1, r1.2.2) else ((f_M_find ty mh dk ml).bind fun r5 => (if r5 < 0 then some (r1.2.1, 0, mh, md, 2) else ((f_M_place dk mh r5).bind fun r9 => (if am_in (r9 + 6) 2240 = true then (if (dk (r9 + 6).toNatClampNeg) = 2 then ((f_M_place dk mh r5).bind fun r14 => ((f_M_numberAt dk (r14 + 8)).bind fun r16 => some (r1.2.1, 0, r16, (md + 1), 0))) else some (r1.2.1, 0, mh, md, 2)) else none)))))))
set_option maxHeartbeats 4000000 in
set_option maxRecDepth 100000 in
theorem s_M_enter {l : Launch} {D : va_G} {dA : FieldType → ClassId} (htr : l.stackTraces = false) {hx : Nat → am_E} {rest : List am_E} {on : Int32} {dd : Int32} {mw : Int32} {cu : Int32} {ty : Int32} {mh : Int32} {md : Int32} {dk : Nat → Int32} {op : Nat → Int32} {th : Int32} {sp : Int32} {mp : Int32} {mf : Int32} {ml : Nat → Int32} {ps : Nat → Int32} {nm : Nat → Int32} {mu : Nat → Int32} {ch : Nat → Int32} {wy : Nat → Int32} {nx : Nat → Int32}   {r : Int32 × Int32 × Int32 × Int32 × Int32} (hf : f_M_enter on dd ty mh md dk th sp ml = some r) {o : am_O} (ho : .inl none = o) :
    am_M (am_kk l D dA) y_M_enter ws_M_enter (am_rm 8 o) [.ref 18] (hM hx on dd mw cu ty mh md dk op th sp mp mf ml ps nm mu ch wy nx rest) o (hM hx on r.1 mw cu r.2.1 r.2.2.1 r.2.2.2.1 dk op r.2.2.2.2 sp mp mf ml ps nm mu ch wy nx rest) := by
  subst ho
  refine am_body (by decide) rfl (Nat.le_of_ble_eq_true rfl) rfl ?_
  rw [f_M_enter] at hf
  refine g_aload_n (n := 1) d_M_enter_0 rfl 0 rfl rfl ?_
  obtain ⟨r1, h2, hf⟩ := ob_bind hf
  refine c_Vr (n := 4) (st' := [.int r1.1]) [] [] d_M_enter_1 rfl (s_M_ready htr h2 rfl) tw_934 tw_936 (am_memS 12 (by decide +kernel) (by decide +kernel)) tw_8 tw_937 hd_M_ready (by omega) (by decide) (ci := 7) rfl rfl rfl (Nat.le_of_ble_eq_true rfl) rfl rfl ?_
  refine g_if_ne (n := 7) (tgt := 8) d_M_enter_4 rfl (by decide) (fun q3 => ?_) (fun q3 => ?_)
  · have hf := ob_neg q3 hf
    refine g_aload_n (n := 9) d_M_enter_8 rfl 0 rfl rfl ?_
    refine g_get (n := 12) (q0 := 18) d_M_enter_9 rfl (am_fl in_M rfl (by decide : 8 < 20)) (List.mem_cons_of_mem _ tw_873) rfl rfl ?_
    refine g_if_ne (n := 15) (tgt := 26) d_M_enter_12 rfl (by decide) (fun q4 => ?_) (fun q4 => ?_)
    · have hf := ob_neg q4 hf
      refine g_aload_n (n := 27) d_M_enter_26 rfl 0 rfl rfl ?_
      obtain ⟨r5, h6, hf⟩ := ob_bind hf
      refine c_Vr (n := 30) (st' := [.int r5]) [] [] d_M_enter_27 rfl (s_M_find htr h6 rfl) tw_941 tw_943 (am_memS 13 (by decide +kernel) (by decide +kernel)) tw_8 tw_944 hd_M_find (by omega) (by decide) (ci := 7) rfl rfl rfl (Nat.le_of_ble_eq_true rfl) rfl rfl ?_
      refine g_istore_n (n := 31) (ls' := [(1, .int r5), (0, .ref 18)]) d_M_enter_30 rfl rfl (am_ltb rfl) rfl ?_
      refine g_aload_n (n := 32) d_M_enter_31 rfl 1 rfl rfl ?_
      refine g_iconst (n := 33) (v := 0) d_M_enter_32 rfl (by decide) ?_
      refine g_put (n := 36) (q0 := 18) (h' := (hM hx on r1.2.1 mw cu 0 mh md dk op r1.2.2 sp mp mf ml ps nm mu ch wy nx rest)) d_M_enter_33 rfl (am_fl in_M rfl (by decide : 8 < 20)) typ_M (List.mem_cons_of_mem _ tw_873) rfl (fun _ _ => rfl) (fun _ _ => rfl) rfl (am_ltb rfl) rfl ?_
      refine g_aload_n (n := 37) d_M_enter_36 rfl 1 rfl rfl ?_
      refine g_iload_n (n := 38) d_M_enter_37 rfl 0 rfl rfl ?_
      refine g_if_lt (n := 41) (tgt := 62) d_M_enter_38 rfl (by decide) (fun q7 => ?_) (fun q7 => ?_)
      · have hf := ob_pos q7 hf
        refine g_iconst (n := 63) (v := 2) d_M_enter_62 rfl (by decide) ?_
        refine g_goto (n := 67) d_M_enter_63 (by decide) ?_
        refine g_put (n := 70) (q0 := 18) (h' := (hM hx on r1.2.1 mw cu 0 mh md dk op 2 sp mp mf ml ps nm mu ch wy nx rest)) d_M_enter_67 rfl (am_fl in_M rfl (by decide : 0 < 20)) typ_M (List.mem_cons_of_mem _ tw_865) rfl (fun _ _ => rfl) (fun _ _ => rfl) rfl (am_ltb rfl) rfl ?_
        refine g_aload_n (n := 71) d_M_enter_70 rfl 1 rfl rfl ?_
        refine g_get (n := 74) (q0 := 18) d_M_enter_71 rfl (am_fl in_M rfl (by decide : 0 < 20)) (List.mem_cons_of_mem _ tw_865) rfl rfl ?_
        refine g_if_ne (n := 77) (tgt := 107) d_M_enter_74 rfl (by decide) (fun _ => ?_) (fun q8 => absurd q8 (by decide))
        cases hf
        exact g_vret d_M_enter_107 rfl (Nat.zero_le _) (Nat.zero_le _)
      · have hf := ob_neg q7 hf
        refine g_aload_n (n := 42) d_M_enter_41 rfl 1 rfl rfl ?_
        refine g_get (n := 45) (q0 := 18) d_M_enter_42 rfl (am_fl in_M rfl (by decide : 1 < 20)) (List.mem_cons_of_mem _ tw_866) rfl rfl ?_
        refine g_aload_n (n := 46) d_M_enter_45 rfl 1 rfl rfl ?_
        refine g_aload_n (n := 47) d_M_enter_46 rfl 1 rfl rfl ?_
        refine g_get (n := 50) (q0 := 18) d_M_enter_47 rfl (am_fl in_M rfl (by decide : 9 < 20)) (List.mem_cons_of_mem _ tw_874) rfl rfl ?_
        refine g_iload_n (n := 51) d_M_enter_50 rfl 0 rfl rfl ?_
        obtain ⟨r9, h10, hf⟩ := ob_bind hf
        refine c_Vr (n := 54) (st' := [.int r9, .ref 19, .ref 18]) [.int mh, .int r5] [.ref 19, .ref 18] d_M_enter_51 rfl (s_M_place htr h10 rfl) tw_965 tw_967 (am_memS 19 (by decide +kernel) (by decide +kernel)) tw_8 tw_968 hd_M_place (by omega) (by decide) (ci := 7) rfl rfl rfl (Nat.le_of_ble_eq_true rfl) rfl rfl ?_
        refine g_bipush (n := 56) (v := 6) d_M_enter_54 rfl (by decide) ?_
        refine g_iadd (n := 57) d_M_enter_56 rfl ?_
        obtain ⟨b11, hf⟩ := ob_chk hf
        refine g_iald (n := 58) (q0 := 19) d_M_enter_57 rfl rfl (am_inl b11) ?_
        refine g_iconst (n := 59) (v := 2) d_M_enter_58 rfl (by decide) ?_
        refine g_icmp_eq (n := 62) (tgt := 66) d_M_enter_59 rfl (by decide) (fun q12 => ?_) (fun q12 => ?_)
        · have hf := ob_pos q12 hf
          refine g_iconst (n := 67) (v := 0) d_M_enter_66 rfl (by decide) ?_
          refine g_put (n := 70) (q0 := 18) (h' := (hM hx on r1.2.1 mw cu 0 mh md dk op 0 sp mp mf ml ps nm mu ch wy nx rest)) d_M_enter_67 rfl (am_fl in_M rfl (by decide : 0 < 20)) typ_M (List.mem_cons_of_mem _ tw_865) rfl (fun _ _ => rfl) (fun _ _ => rfl) rfl (am_ltb rfl) rfl ?_
          refine g_aload_n (n := 71) d_M_enter_70 rfl 1 rfl rfl ?_
          refine g_get (n := 74) (q0 := 18) d_M_enter_71 rfl (am_fl in_M rfl (by decide : 0 < 20)) (List.mem_cons_of_mem _ tw_865) rfl rfl ?_
          refine g_if_ne (n := 77) (tgt := 107) d_M_enter_74 rfl (by decide) (fun q13 => absurd q13 (by decide)) (fun _ => ?_)
          refine g_aload_n (n := 78) d_M_enter_77 rfl 1 rfl rfl ?_
          refine g_aload_n (n := 79) d_M_enter_78 rfl 1 rfl rfl ?_
          refine g_aload_n (n := 80) d_M_enter_79 rfl 1 rfl rfl ?_
          refine g_aload_n (n := 81) d_M_enter_80 rfl 1 rfl rfl ?_
          refine g_get (n := 84) (q0 := 18) d_M_enter_81 rfl (am_fl in_M rfl (by decide : 9 < 20)) (List.mem_cons_of_mem _ tw_874) rfl rfl ?_
          refine g_iload_n (n := 85) d_M_enter_84 rfl 0 rfl rfl ?_
          obtain ⟨r14, h15, hf⟩ := ob_bind hf
          refine c_Vr (n := 88) (st' := [.int r14, .ref 18, .ref 18]) [.int mh, .int r5] [.ref 18, .ref 18] d_M_enter_85 rfl (s_M_place htr h15 rfl) tw_965 tw_967 (am_memS 19 (by decide +kernel) (by decide +kernel)) tw_8 tw_968 hd_M_place (by omega) (by decide) (ci := 7) rfl rfl rfl (Nat.le_of_ble_eq_true rfl) rfl rfl ?_
          refine g_bipush (n := 90) (v := 8) d_M_enter_88 rfl (by decide) ?_
          refine g_iadd (n := 91) d_M_enter_90 rfl ?_
          obtain ⟨r16, h17, hf⟩ := ob_bind hf
          refine c_Vr (n := 94) (st' := [.int r16, .ref 18]) [.int (r14 + 8)] [.ref 18] d_M_enter_91 rfl (s_M_numberAt htr h17 rfl) tw_957 tw_959 (am_memS 17 (by decide +kernel) (by decide +kernel)) tw_8 tw_960 hd_M_numberAt (by omega) (by decide) (ci := 7) rfl rfl rfl (Nat.le_of_ble_eq_true rfl) rfl rfl ?_
          refine g_put (n := 97) (q0 := 18) (h' := (hM hx on r1.2.1 mw cu 0 r16 md dk op 0 sp mp mf ml ps nm mu ch wy nx rest)) d_M_enter_94 rfl (am_fl in_M rfl (by decide : 9 < 20)) typ_M (List.mem_cons_of_mem _ tw_874) rfl (fun _ _ => rfl) (fun _ _ => rfl) rfl (am_ltb rfl) rfl ?_
          refine g_aload_n (n := 98) d_M_enter_97 rfl 1 rfl rfl ?_
          refine g_dup (n := 99) d_M_enter_98 rfl rfl ?_
          refine g_get (n := 102) (q0 := 18) d_M_enter_99 rfl (am_fl in_M rfl (by decide : 10 < 20)) (List.mem_cons_of_mem _ tw_875) rfl rfl ?_
          refine g_iconst (n := 103) (v := 1) d_M_enter_102 rfl (by decide) ?_
          refine g_iadd (n := 104) d_M_enter_103 rfl ?_
          refine g_put (n := 107) (q0 := 18) (h' := (hM hx on r1.2.1 mw cu 0 r16 (md + 1) dk op 0 sp mp mf ml ps nm mu ch wy nx rest)) d_M_enter_104 rfl (am_fl in_M rfl (by decide : 10 < 20)) typ_M (List.mem_cons_of_mem _ tw_875) rfl (fun _ _ => rfl) (fun _ _ => rfl) rfl (am_ltb rfl) rfl ?_
          cases hf
          exact g_vret d_M_enter_107 rfl (Nat.zero_le _) (Nat.zero_le _)
        · have hf := ob_neg q12 hf
          refine g_iconst (n := 63) (v := 2) d_M_enter_62 rfl (by decide) ?_
          refine g_goto (n := 67) d_M_enter_63 (by decide) ?_
          refine g_put (n := 70) (q0 := 18) (h' := (hM hx on r1.2.1 mw cu 0 mh md dk op 2 sp mp mf ml ps nm mu ch wy nx rest)) d_M_enter_67 rfl (am_fl in_M rfl (by decide : 0 < 20)) typ_M (List.mem_cons_of_mem _ tw_865) rfl (fun _ _ => rfl) (fun _ _ => rfl) rfl (am_ltb rfl) rfl ?_
          refine g_aload_n (n := 71) d_M_enter_70 rfl 1 rfl rfl ?_
          refine g_get (n := 74) (q0 := 18) d_M_enter_71 rfl (am_fl in_M rfl (by decide : 0 < 20)) (List.mem_cons_of_mem _ tw_865) rfl rfl ?_
          refine g_if_ne (n := 77) (tgt := 107) d_M_enter_74 rfl (by decide) (fun _ => ?_) (fun q18 => absurd q18 (by decide))
          cases hf
          exact g_vret d_M_enter_107 rfl (Nat.zero_le _) (Nat.zero_le _)
    · have hf := ob_pos q4 hf
      refine g_aload_n (n := 16) d_M_enter_15 rfl 0 rfl rfl ?_
      refine g_iconst (n := 17) (v := 2) d_M_enter_16 rfl (by decide) ?_
      refine g_put (n := 20) (q0 := 18) (h' := (hM hx on r1.2.1 mw cu ty 2 md dk op r1.2.2 sp mp mf ml ps nm mu ch wy nx rest)) d_M_enter_17 rfl (am_fl in_M rfl (by decide : 9 < 20)) typ_M (List.mem_cons_of_mem _ tw_874) rfl (fun _ _ => rfl) (fun _ _ => rfl) rfl (am_ltb rfl) rfl ?_
      refine g_aload_n (n := 21) d_M_enter_20 rfl 0 rfl rfl ?_
      refine g_iconst (n := 22) (v := 1) d_M_enter_21 rfl (by decide) ?_
      refine g_put (n := 25) (q0 := 18) (h' := (hM hx on r1.2.1 mw cu ty 2 1 dk op r1.2.2 sp mp mf ml ps nm mu ch wy nx rest)) d_M_enter_22 rfl (am_fl in_M rfl (by decide : 10 < 20)) typ_M (List.mem_cons_of_mem _ tw_875) rfl (fun _ _ => rfl) (fun _ _ => rfl) rfl (am_ltb rfl) rfl ?_
      cases hf
      exact g_vret d_M_enter_25 rfl (Nat.zero_le _) (Nat.zero_le _)
  · have hf := ob_pos q3 hf
    cases hf
    exact g_vret d_M_enter_7 rfl (Nat.zero_le _) (Nat.zero_le _)
def f_M_open_L64 : Nat → Int32 → Int32 → Int32 → Int32 → (Nat → Int32) → (Nat → Int32) → Int32 → Int32 → (Nat → Int32) → (Nat → Int32) → Int32 → Int32 → Option (Int32 × Int32 × Int32 × (Nat → Int32) × Int32 × (Nat → Int32))
  | 0, _, _, _, _, _, _, _, _, _, _, _, _ => none
  | fuel + 1, on, dd, ty, mh, dk, op, th, sp, ml, ps, x1, x2 =>
  (if 4 ≤ x2 then some (0, dd, ty, op, 3, ps) else (if am_in x2 4 = true then (if (op x2.toNatClampNeg) = 0 then ((f_M_place dk mh x1).bind fun r16 => (if am_in x2 4 = true then (if am_in x2 4 = true then some (x2, dd, ty, (upd op x2.toNatClampNeg r16), th, (upd ps x2.toNatClampNeg 0)) else none) else none)) else f_M_open_L64 fuel on dd ty mh dk op th sp ml ps x1 (x2 + 1)) else none))
set_option maxHeartbeats 4000000 in
set_option maxRecDepth 100000 in
theorem s_M_open_L64 {l : Launch} {D : va_G} {dA : FieldType → ClassId} (htr : l.stackTraces = false) {hx : Nat → am_E} {rest : List am_E} {mw : Int32} {cu : Int32} {md : Int32} {mp : Int32} {mf : Int32} {nm : Nat → Int32} {mu : Nat → Int32} {ch : Nat → Int32} {wy : Nat → Int32} {nx : Nat → Int32}  : ∀ (fuel : Nat) (on : Int32) (dd : Int32) (ty : Int32) (mh : Int32) (dk : Nat → Int32) (op : Nat → Int32) (th : Int32) (sp : Int32) (ml : Nat → Int32) (ps : Nat → Int32) (x1 : Int32) (x2 : Int32) (r : Int32 × Int32 × Int32 × (Nat → Int32) × Int32 × (Nat → Int32)), f_M_open_L64 fuel on dd ty mh dk op th sp ml ps x1 x2 = some r → ∀ o : am_O, .inl (some (.int r.1)) = o →
    am_G (am_kk l D dA) (ws_M_open, y_M_open.cls, prog_9_method_41_code, 3, (some .int), y_M_open.name, [], am_rm 8 (o), none) o (hM hx on r.2.1 mw cu r.2.2.1 mh md dk r.2.2.2.1 r.2.2.2.2.1 sp mp mf ml r.2.2.2.2.2 nm mu ch wy nx rest) 0 0 64 [(0, .ref 18), (1, .int x1), (2, .int x2)] [] (hM hx on dd mw cu ty mh md dk op th sp mp mf ml ps nm mu ch wy nx rest) := by
  intro fuel
  induction fuel with
  | zero =>
    intro on dd ty mh dk op th sp ml ps x1 x2 r hf
    cases hf
  | succ fuel ih =>
    intro on dd ty mh dk op th sp ml ps x1 x2 r hf o ho
    subst ho
    rw [f_M_open_L64] at hf
    refine g_iload_n (n := 65) d_M_open_64 rfl 2 rfl rfl ?_
    refine g_iconst (n := 66) (v := 4) d_M_open_65 rfl (by decide) ?_
    refine g_icmp_ge (n := 69) (tgt := 108) d_M_open_66 rfl (by decide) (fun q13 => ?_) (fun q13 => ?_)
    · have hf := ob_pos q13 hf
      refine g_aload_n (n := 109) d_M_open_108 rfl 0 rfl rfl ?_
      refine g_iconst (n := 110) (v := 3) d_M_open_109 rfl (by decide) ?_
      refine g_put (n := 113) (q0 := 18) (h' := (hM hx on dd mw cu ty mh md dk op 3 sp mp mf ml ps nm mu ch wy nx rest)) d_M_open_110 rfl (am_fl in_M rfl (by decide : 0 < 20)) typ_M (List.mem_cons_of_mem _ tw_865) rfl (fun _ _ => rfl) (fun _ _ => rfl) rfl (am_ltb rfl) rfl ?_
      refine g_iconst (n := 114) (v := 0) d_M_open_113 rfl (by decide) ?_
      cases hf
      exact g_iret d_M_open_114 rfl (Nat.zero_le _) (Nat.zero_le _)
    · have hf := ob_neg q13 hf
      refine g_aload_n (n := 70) d_M_open_69 rfl 0 rfl rfl ?_
      refine g_get (n := 73) (q0 := 18) d_M_open_70 rfl (am_fl in_M rfl (by decide : 11 < 20)) (List.mem_cons_of_mem _ tw_876) rfl rfl ?_
      refine g_iload_n (n := 74) d_M_open_73 rfl 2 rfl rfl ?_
      obtain ⟨b14, hf⟩ := ob_chk hf
      refine g_iald (n := 75) (q0 := 21) d_M_open_74 rfl rfl (am_inl b14) ?_
      refine g_if_ne (n := 78) (tgt := 102) d_M_open_75 rfl (by decide) (fun q15 => ?_) (fun q15 => ?_)
      · have hf := ob_neg q15 hf
        refine g_iinc (n := 105) (v := (x2 + 1)) (ls' := [(2, .int (x2 + 1)), (0, .ref 18), (1, .int x1)]) d_M_open_102 rfl 2 rfl rfl (am_ltb rfl) rfl ?_
        refine g_goto (n := 64) d_M_open_105 (by decide) ?_
        refine g_ls [1, 2, 0] rfl ?_
        exact ih on dd ty mh dk op th sp ml ps x1 (x2 + 1) _ hf _ rfl
      · have hf := ob_pos q15 hf
        refine g_aload_n (n := 79) d_M_open_78 rfl 0 rfl rfl ?_
        refine g_get (n := 82) (q0 := 18) d_M_open_79 rfl (am_fl in_M rfl (by decide : 11 < 20)) (List.mem_cons_of_mem _ tw_876) rfl rfl ?_
        refine g_iload_n (n := 83) d_M_open_82 rfl 2 rfl rfl ?_
        refine g_aload_n (n := 84) d_M_open_83 rfl 0 rfl rfl ?_
        refine g_aload_n (n := 85) d_M_open_84 rfl 0 rfl rfl ?_
        refine g_get (n := 88) (q0 := 18) d_M_open_85 rfl (am_fl in_M rfl (by decide : 9 < 20)) (List.mem_cons_of_mem _ tw_874) rfl rfl ?_
        refine g_iload_n (n := 89) d_M_open_88 rfl 1 rfl rfl ?_
        obtain ⟨r16, h17, hf⟩ := ob_bind hf
        refine c_Vr (n := 92) (st' := [.int r16, .int x2, .ref 21]) [.int mh, .int x1] [.int x2, .ref 21] d_M_open_89 rfl (s_M_place htr h17 rfl) tw_965 tw_967 (am_memS 19 (by decide +kernel) (by decide +kernel)) tw_8 tw_968 hd_M_place (by omega) (by decide) (ci := 7) rfl rfl rfl (Nat.le_of_ble_eq_true rfl) rfl rfl ?_
        obtain ⟨b18, hf⟩ := ob_chk hf
        refine g_iast (n := 93) (q0 := 21) (h' := (hM hx on dd mw cu ty mh md dk (upd op x2.toNatClampNeg r16) th sp mp mf ml ps nm mu ch wy nx rest)) d_M_open_92 rfl rfl (am_inl b18) rfl ?_
        refine g_aload_n (n := 94) d_M_open_93 rfl 0 rfl rfl ?_
        refine g_get (n := 97) (q0 := 18) d_M_open_94 rfl (am_fl in_M rfl (by decide : 12 < 20)) (List.mem_cons_of_mem _ tw_877) rfl rfl ?_
        refine g_iload_n (n := 98) d_M_open_97 rfl 2 rfl rfl ?_
        refine g_iconst (n := 99) (v := 0) d_M_open_98 rfl (by decide) ?_
        obtain ⟨b19, hf⟩ := ob_chk hf
        refine g_iast (n := 100) (q0 := 22) (h' := (hM hx on dd mw cu ty mh md dk (upd op x2.toNatClampNeg r16) th sp mp mf ml (upd ps x2.toNatClampNeg 0) nm mu ch wy nx rest)) d_M_open_99 rfl rfl (am_inl b19) rfl ?_
        refine g_iload_n (n := 101) d_M_open_100 rfl 2 rfl rfl ?_
        cases hf
        exact g_iret d_M_open_101 rfl (Nat.zero_le _) (Nat.zero_le _)
def f_M_open (on : Int32) (dd : Int32) (ty : Int32) (mh : Int32) (dk : Nat → Int32) (op : Nat → Int32) (th : Int32) (sp : Int32) (ml : Nat → Int32) (ps : Nat → Int32) : Option (Int32 × Int32 × Int32 × (Nat → Int32) × Int32 × (Nat → Int32)) :=
  ((f_M_ready on dd th sp).bind fun r1 => (if r1.1 = 0 then some (0, r1.2.1, ty, op, r1.2.2, ps) else ((f_M_find ty mh dk ml).bind fun r4 => (if r4 < 0 then some (0, r1.2.1, 0, op, 2, ps) else ((f_M_place dk mh r4).bind fun r8 => (if am_in (r8 + 6) 2240 = true then (if (dk (r8 + 6).toNatClampNeg) = 1 then f_M_open_L64 100000000000 on r1.2.1 0 mh dk op 0 sp ml ps r4 0 else some (0, r1.2.1, 0, op, 2, ps)) else none))))))
set_option maxHeartbeats 4000000 in
set_option maxRecDepth 100000 in
theorem s_M_open {l : Launch} {D : va_G} {dA : FieldType → ClassId} (htr : l.stackTraces = false) {hx : Nat → am_E} {rest : List am_E} {on : Int32} {dd : Int32} {mw : Int32} {cu : Int32} {ty : Int32} {mh : Int32} {md : Int32} {dk : Nat → Int32} {op : Nat → Int32} {th : Int32} {sp : Int32} {mp : Int32} {mf : Int32} {ml : Nat → Int32} {ps : Nat → Int32} {nm : Nat → Int32} {mu : Nat → Int32} {ch : Nat → Int32} {wy : Nat → Int32} {nx : Nat → Int32}   {r : Int32 × Int32 × Int32 × (Nat → Int32) × Int32 × (Nat → Int32)} (hf : f_M_open on dd ty mh dk op th sp ml ps = some r) {o : am_O} (ho : .inl (some (.int r.1)) = o) :
    am_M (am_kk l D dA) y_M_open ws_M_open (am_rm 8 o) [.ref 18] (hM hx on dd mw cu ty mh md dk op th sp mp mf ml ps nm mu ch wy nx rest) o (hM hx on r.2.1 mw cu r.2.2.1 mh md dk r.2.2.2.1 r.2.2.2.2.1 sp mp mf ml r.2.2.2.2.2 nm mu ch wy nx rest) := by
  subst ho
  refine am_body (by decide) rfl (Nat.le_of_ble_eq_true rfl) rfl ?_
  rw [f_M_open] at hf
  refine g_aload_n (n := 1) d_M_open_0 rfl 0 rfl rfl ?_
  obtain ⟨r1, h2, hf⟩ := ob_bind hf
  refine c_Vr (n := 4) (st' := [.int r1.1]) [] [] d_M_open_1 rfl (s_M_ready htr h2 rfl) tw_934 tw_936 (am_memS 12 (by decide +kernel) (by decide +kernel)) tw_8 tw_937 hd_M_ready (by omega) (by decide) (ci := 7) rfl rfl rfl (Nat.le_of_ble_eq_true rfl) rfl rfl ?_
  refine g_if_ne (n := 7) (tgt := 9) d_M_open_4 rfl (by decide) (fun q3 => ?_) (fun q3 => ?_)
  · have hf := ob_neg q3 hf
    refine g_aload_n (n := 10) d_M_open_9 rfl 0 rfl rfl ?_
    obtain ⟨r4, h5, hf⟩ := ob_bind hf
    refine c_Vr (n := 13) (st' := [.int r4]) [] [] d_M_open_10 rfl (s_M_find htr h5 rfl) tw_941 tw_943 (am_memS 13 (by decide +kernel) (by decide +kernel)) tw_8 tw_944 hd_M_find (by omega) (by decide) (ci := 7) rfl rfl rfl (Nat.le_of_ble_eq_true rfl) rfl rfl ?_
    refine g_istore_n (n := 14) (ls' := [(1, .int r4), (0, .ref 18)]) d_M_open_13 rfl rfl (am_ltb rfl) rfl ?_
    refine g_aload_n (n := 15) d_M_open_14 rfl 1 rfl rfl ?_
    refine g_iconst (n := 16) (v := 0) d_M_open_15 rfl (by decide) ?_
    refine g_put (n := 19) (q0 := 18) (h' := (hM hx on r1.2.1 mw cu 0 mh md dk op r1.2.2 sp mp mf ml ps nm mu ch wy nx rest)) d_M_open_16 rfl (am_fl in_M rfl (by decide : 8 < 20)) typ_M (List.mem_cons_of_mem _ tw_873) rfl (fun _ _ => rfl) (fun _ _ => rfl) rfl (am_ltb rfl) rfl ?_
    refine g_aload_n (n := 20) d_M_open_19 rfl 1 rfl rfl ?_
    refine g_iload_n (n := 21) d_M_open_20 rfl 0 rfl rfl ?_
    refine g_if_lt (n := 24) (tgt := 45) d_M_open_21 rfl (by decide) (fun q6 => ?_) (fun q6 => ?_)
    · have hf := ob_pos q6 hf
      refine g_iconst (n := 46) (v := 2) d_M_open_45 rfl (by decide) ?_
      refine g_goto (n := 50) d_M_open_46 (by decide) ?_
      refine g_put (n := 53) (q0 := 18) (h' := (hM hx on r1.2.1 mw cu 0 mh md dk op 2 sp mp mf ml ps nm mu ch wy nx rest)) d_M_open_50 rfl (am_fl in_M rfl (by decide : 0 < 20)) typ_M (List.mem_cons_of_mem _ tw_865) rfl (fun _ _ => rfl) (fun _ _ => rfl) rfl (am_ltb rfl) rfl ?_
      refine g_aload_n (n := 54) d_M_open_53 rfl 1 rfl rfl ?_
      refine g_get (n := 57) (q0 := 18) d_M_open_54 rfl (am_fl in_M rfl (by decide : 0 < 20)) (List.mem_cons_of_mem _ tw_865) rfl rfl ?_
      refine g_if_le (n := 60) (tgt := 62) d_M_open_57 rfl (by decide) (fun q7 => absurd q7 (by decide)) (fun _ => ?_)
      refine g_iconst (n := 61) (v := 0) d_M_open_60 rfl (by decide) ?_
      cases hf
      exact g_iret d_M_open_61 rfl (Nat.zero_le _) (Nat.zero_le _)
    · have hf := ob_neg q6 hf
      refine g_aload_n (n := 25) d_M_open_24 rfl 1 rfl rfl ?_
      refine g_get (n := 28) (q0 := 18) d_M_open_25 rfl (am_fl in_M rfl (by decide : 1 < 20)) (List.mem_cons_of_mem _ tw_866) rfl rfl ?_
      refine g_aload_n (n := 29) d_M_open_28 rfl 1 rfl rfl ?_
      refine g_aload_n (n := 30) d_M_open_29 rfl 1 rfl rfl ?_
      refine g_get (n := 33) (q0 := 18) d_M_open_30 rfl (am_fl in_M rfl (by decide : 9 < 20)) (List.mem_cons_of_mem _ tw_874) rfl rfl ?_
      refine g_iload_n (n := 34) d_M_open_33 rfl 0 rfl rfl ?_
      obtain ⟨r8, h9, hf⟩ := ob_bind hf
      refine c_Vr (n := 37) (st' := [.int r8, .ref 19, .ref 18]) [.int mh, .int r4] [.ref 19, .ref 18] d_M_open_34 rfl (s_M_place htr h9 rfl) tw_965 tw_967 (am_memS 19 (by decide +kernel) (by decide +kernel)) tw_8 tw_968 hd_M_place (by omega) (by decide) (ci := 7) rfl rfl rfl (Nat.le_of_ble_eq_true rfl) rfl rfl ?_
      refine g_bipush (n := 39) (v := 6) d_M_open_37 rfl (by decide) ?_
      refine g_iadd (n := 40) d_M_open_39 rfl ?_
      obtain ⟨b10, hf⟩ := ob_chk hf
      refine g_iald (n := 41) (q0 := 19) d_M_open_40 rfl rfl (am_inl b10) ?_
      refine g_iconst (n := 42) (v := 1) d_M_open_41 rfl (by decide) ?_
      refine g_icmp_eq (n := 45) (tgt := 49) d_M_open_42 rfl (by decide) (fun q11 => ?_) (fun q11 => ?_)
      · have hf := ob_pos q11 hf
        refine g_iconst (n := 50) (v := 0) d_M_open_49 rfl (by decide) ?_
        refine g_put (n := 53) (q0 := 18) (h' := (hM hx on r1.2.1 mw cu 0 mh md dk op 0 sp mp mf ml ps nm mu ch wy nx rest)) d_M_open_50 rfl (am_fl in_M rfl (by decide : 0 < 20)) typ_M (List.mem_cons_of_mem _ tw_865) rfl (fun _ _ => rfl) (fun _ _ => rfl) rfl (am_ltb rfl) rfl ?_
        refine g_aload_n (n := 54) d_M_open_53 rfl 1 rfl rfl ?_
        refine g_get (n := 57) (q0 := 18) d_M_open_54 rfl (am_fl in_M rfl (by decide : 0 < 20)) (List.mem_cons_of_mem _ tw_865) rfl rfl ?_
        refine g_if_le (n := 60) (tgt := 62) d_M_open_57 rfl (by decide) (fun _ => ?_) (fun q12 => absurd q12 (by decide))
        refine g_iconst (n := 63) (v := 0) d_M_open_62 rfl (by decide) ?_
        refine g_istore_n (n := 64) (ls' := [(2, .int 0), (1, .int r4), (0, .ref 18)]) d_M_open_63 rfl rfl (am_ltb rfl) rfl ?_
        refine g_ls [2, 1, 0] rfl ?_
        exact s_M_open_L64 htr 100000000000 on r1.2.1 0 mh dk op 0 sp ml ps r4 0 _ hf _ rfl
      · have hf := ob_neg q11 hf
        refine g_iconst (n := 46) (v := 2) d_M_open_45 rfl (by decide) ?_
        refine g_goto (n := 50) d_M_open_46 (by decide) ?_
        refine g_put (n := 53) (q0 := 18) (h' := (hM hx on r1.2.1 mw cu 0 mh md dk op 2 sp mp mf ml ps nm mu ch wy nx rest)) d_M_open_50 rfl (am_fl in_M rfl (by decide : 0 < 20)) typ_M (List.mem_cons_of_mem _ tw_865) rfl (fun _ _ => rfl) (fun _ _ => rfl) rfl (am_ltb rfl) rfl ?_
        refine g_aload_n (n := 54) d_M_open_53 rfl 1 rfl rfl ?_
        refine g_get (n := 57) (q0 := 18) d_M_open_54 rfl (am_fl in_M rfl (by decide : 0 < 20)) (List.mem_cons_of_mem _ tw_865) rfl rfl ?_
        refine g_if_le (n := 60) (tgt := 62) d_M_open_57 rfl (by decide) (fun q20 => absurd q20 (by decide)) (fun _ => ?_)
        refine g_iconst (n := 61) (v := 0) d_M_open_60 rfl (by decide) ?_
        cases hf
        exact g_iret d_M_open_61 rfl (Nat.zero_le _) (Nat.zero_le _)
  · have hf := ob_pos q3 hf
    refine g_iconst (n := 8) (v := 0) d_M_open_7 rfl (by decide) ?_
    cases hf
    exact g_iret d_M_open_8 rfl (Nat.zero_le _) (Nat.zero_le _)
