def f_M_capital (x0 : Int32) : Option (Int32) :=
  ((f_M_in x0 97 122).bind fun r1 => (if r1 = 0 then some x0 else some (x0 - 32)))
set_option maxHeartbeats 4000000 in
set_option maxRecDepth 100000 in
theorem s_M_capital {l : Launch} {D : va_G} {dA : FieldType → ClassId} (htr : l.stackTraces = false) {hx : Nat → am_E} {rest : List am_E} {on : Int32} {dd : Int32} {mw : Int32} {cu : Int32} {ty : Int32} {mh : Int32} {md : Int32} {dk : Nat → Int32} {op : Nat → Int32} {th : Int32} {sp : Int32} {mp : Int32} {mf : Int32} {ml : Nat → Int32} {ps : Nat → Int32} {nm : Nat → Int32} {mu : Nat → Int32} {ch : Nat → Int32} {wy : Nat → Int32} {nx : Nat → Int32}  {x0 : Int32} {r : Int32} (hf : f_M_capital x0 = some r) {o : am_O} (ho : .inl (some (.int r)) = o) :
    am_M (am_kk l D dA) y_M_capital ws_M_capital (am_rm 1 o) [.int x0] (hM hx on dd mw cu ty mh md dk op th sp mp mf ml ps nm mu ch wy nx rest) o (hM hx on dd mw cu ty mh md dk op th sp mp mf ml ps nm mu ch wy nx rest) := by
  subst ho
  refine am_body (by decide) rfl (Nat.le_of_ble_eq_true rfl) rfl ?_
  rw [f_M_capital] at hf
  refine g_iload_n (n := 1) d_M_capital_0 rfl 0 rfl rfl ?_
  refine g_bipush (n := 3) (v := 97) d_M_capital_1 rfl (by decide) ?_
  refine g_bipush (n := 5) (v := 122) d_M_capital_3 rfl (by decide) ?_
  obtain ⟨r1, h2, hf⟩ := ob_bind hf
  refine c_Sr (n := 8) (st' := [.int r1]) [.int x0, .int 97, .int 122] [] d_M_capital_5 rfl (s_M_in htr h2 rfl) tw_938 tw_939 tw_8 tw_940 rfl hd_M_in (by omega) (by decide) rfl (Nat.le_of_ble_eq_true rfl) rfl rfl ?_
  refine g_if_eq (n := 11) (tgt := 18) d_M_capital_8 rfl (by decide) (fun q3 => ?_) (fun q3 => ?_)
  · have hf := ob_pos q3 hf
    refine g_iload_n (n := 19) d_M_capital_18 rfl 0 rfl rfl ?_
    cases hf
    exact g_iret d_M_capital_19 rfl (Nat.zero_le _) (Nat.zero_le _)
  · have hf := ob_neg q3 hf
    refine g_iload_n (n := 12) d_M_capital_11 rfl 0 rfl rfl ?_
    refine g_bipush (n := 14) (v := 32) d_M_capital_12 rfl (by decide) ?_
    refine g_isub (n := 15) d_M_capital_14 rfl ?_
    refine g_goto (n := 19) d_M_capital_15 (by decide) ?_
    cases hf
    exact g_iret d_M_capital_19 rfl (Nat.zero_le _) (Nat.zero_le _)
def f_M_shortLetter_L2 : Nat → (Nat → Int32) → Int32 → Int32 → Int32 → Option (Int32)
  | 0, _, _, _, _ => none
  | fuel + 1, dk, x1, x2, x3 =>
  (if x2 < x3 then (if 6 ≤ x2 then some 0 else (if am_in (x1 + x2) 2240 = true then some (dk (x1 + x2).toNatClampNeg) else none)) else (if 6 ≤ x3 then (if 6 ≤ x2 then some 0 else (if am_in (x1 + x2) 2240 = true then some (dk (x1 + x2).toNatClampNeg) else none)) else (if am_in (x1 + x3) 2240 = true then (if (dk (x1 + x3).toNatClampNeg) = 32 then some 0 else (if am_in (x1 + x3) 2240 = true then (if (dk (x1 + x3).toNatClampNeg) = 0 then some 0 else f_M_shortLetter_L2 fuel dk x1 x2 (x3 + 1)) else none)) else none)))
set_option maxHeartbeats 4000000 in
set_option maxRecDepth 100000 in
theorem s_M_shortLetter_L2 {l : Launch} {D : va_G} {dA : FieldType → ClassId} (htr : l.stackTraces = false) {hx : Nat → am_E} {rest : List am_E} {on : Int32} {dd : Int32} {mw : Int32} {cu : Int32} {ty : Int32} {mh : Int32} {md : Int32} {op : Nat → Int32} {th : Int32} {sp : Int32} {mp : Int32} {mf : Int32} {ml : Nat → Int32} {ps : Nat → Int32} {nm : Nat → Int32} {mu : Nat → Int32} {ch : Nat → Int32} {wy : Nat → Int32} {nx : Nat → Int32}  : ∀ (fuel : Nat) (dk : Nat → Int32) (x1 : Int32) (x2 : Int32) (x3 : Int32) (r : Int32), f_M_shortLetter_L2 fuel dk x1 x2 x3 = some r → ∀ o : am_O, .inl (some (.int r)) = o →
    am_G (am_kk l D dA) (ws_M_shortLetter, y_M_shortLetter.cls, prog_9_method_22_code, 4, (some .int), y_M_shortLetter.name, [], am_rm 0 (o), none) o (hM hx on dd mw cu ty mh md dk op th sp mp mf ml ps nm mu ch wy nx rest) 0 0 2 [(0, .ref 18), (1, .int x1), (2, .int x2), (3, .int x3)] [] (hM hx on dd mw cu ty mh md dk op th sp mp mf ml ps nm mu ch wy nx rest) := by
  intro fuel
  induction fuel with
  | zero =>
    intro dk x1 x2 x3 r hf
    cases hf
  | succ fuel ih =>
    intro dk x1 x2 x3 r hf o ho
    subst ho
    rw [f_M_shortLetter_L2] at hf
    refine g_iload_n (n := 3) d_M_shortLetter_2 rfl 3 rfl rfl ?_
    refine g_iload_n (n := 4) d_M_shortLetter_3 rfl 2 rfl rfl ?_
    refine g_icmp_gt (n := 7) (tgt := 45) d_M_shortLetter_4 rfl (by decide) (fun q1 => ?_) (fun q1 => ?_)
    · have hf := ob_pos q1 hf
      refine g_iload_n (n := 46) d_M_shortLetter_45 rfl 2 rfl rfl ?_
      refine g_bipush (n := 48) (v := 6) d_M_shortLetter_46 rfl (by decide) ?_
      refine g_icmp_ge (n := 51) (tgt := 62) d_M_shortLetter_48 rfl (by decide) (fun q2 => ?_) (fun q2 => ?_)
      · have hf := ob_pos q2 hf
        refine g_iconst (n := 63) (v := 0) d_M_shortLetter_62 rfl (by decide) ?_
        cases hf
        exact g_iret d_M_shortLetter_63 rfl (Nat.zero_le _) (Nat.zero_le _)
      · have hf := ob_neg q2 hf
        refine g_aload_n (n := 52) d_M_shortLetter_51 rfl 0 rfl rfl ?_
        refine g_get (n := 55) (q0 := 18) d_M_shortLetter_52 rfl (am_fl in_M rfl (by decide : 1 < 20)) (List.mem_cons_of_mem _ tw_866) rfl rfl ?_
        refine g_iload_n (n := 56) d_M_shortLetter_55 rfl 1 rfl rfl ?_
        refine g_iload_n (n := 57) d_M_shortLetter_56 rfl 2 rfl rfl ?_
        refine g_iadd (n := 58) d_M_shortLetter_57 rfl ?_
        obtain ⟨b3, hf⟩ := ob_chk hf
        refine g_iald (n := 59) (q0 := 19) d_M_shortLetter_58 rfl rfl (am_inl b3) ?_
        refine g_goto (n := 63) d_M_shortLetter_59 (by decide) ?_
        cases hf
        exact g_iret d_M_shortLetter_63 rfl (Nat.zero_le _) (Nat.zero_le _)
    · have hf := ob_neg q1 hf
      refine g_iload_n (n := 8) d_M_shortLetter_7 rfl 3 rfl rfl ?_
      refine g_bipush (n := 10) (v := 6) d_M_shortLetter_8 rfl (by decide) ?_
      refine g_icmp_ge (n := 13) (tgt := 45) d_M_shortLetter_10 rfl (by decide) (fun q4 => ?_) (fun q4 => ?_)
      · have hf := ob_pos q4 hf
        refine g_iload_n (n := 46) d_M_shortLetter_45 rfl 2 rfl rfl ?_
        refine g_bipush (n := 48) (v := 6) d_M_shortLetter_46 rfl (by decide) ?_
        refine g_icmp_ge (n := 51) (tgt := 62) d_M_shortLetter_48 rfl (by decide) (fun q5 => ?_) (fun q5 => ?_)
        · have hf := ob_pos q5 hf
          refine g_iconst (n := 63) (v := 0) d_M_shortLetter_62 rfl (by decide) ?_
          cases hf
          exact g_iret d_M_shortLetter_63 rfl (Nat.zero_le _) (Nat.zero_le _)
        · have hf := ob_neg q5 hf
          refine g_aload_n (n := 52) d_M_shortLetter_51 rfl 0 rfl rfl ?_
          refine g_get (n := 55) (q0 := 18) d_M_shortLetter_52 rfl (am_fl in_M rfl (by decide : 1 < 20)) (List.mem_cons_of_mem _ tw_866) rfl rfl ?_
          refine g_iload_n (n := 56) d_M_shortLetter_55 rfl 1 rfl rfl ?_
          refine g_iload_n (n := 57) d_M_shortLetter_56 rfl 2 rfl rfl ?_
          refine g_iadd (n := 58) d_M_shortLetter_57 rfl ?_
          obtain ⟨b6, hf⟩ := ob_chk hf
          refine g_iald (n := 59) (q0 := 19) d_M_shortLetter_58 rfl rfl (am_inl b6) ?_
          refine g_goto (n := 63) d_M_shortLetter_59 (by decide) ?_
          cases hf
          exact g_iret d_M_shortLetter_63 rfl (Nat.zero_le _) (Nat.zero_le _)
      · have hf := ob_neg q4 hf
        refine g_aload_n (n := 14) d_M_shortLetter_13 rfl 0 rfl rfl ?_
        refine g_get (n := 17) (q0 := 18) d_M_shortLetter_14 rfl (am_fl in_M rfl (by decide : 1 < 20)) (List.mem_cons_of_mem _ tw_866) rfl rfl ?_
        refine g_iload_n (n := 18) d_M_shortLetter_17 rfl 1 rfl rfl ?_
        refine g_iload_n (n := 19) d_M_shortLetter_18 rfl 3 rfl rfl ?_
        refine g_iadd (n := 20) d_M_shortLetter_19 rfl ?_
        obtain ⟨b7, hf⟩ := ob_chk hf
        refine g_iald (n := 21) (q0 := 19) d_M_shortLetter_20 rfl rfl (am_inl b7) ?_
        refine g_bipush (n := 23) (v := 32) d_M_shortLetter_21 rfl (by decide) ?_
        refine g_icmp_eq (n := 26) (tgt := 37) d_M_shortLetter_23 rfl (by decide) (fun q8 => ?_) (fun q8 => ?_)
        · have hf := ob_pos q8 hf
          refine g_iconst (n := 38) (v := 0) d_M_shortLetter_37 rfl (by decide) ?_
          cases hf
          exact g_iret d_M_shortLetter_38 rfl (Nat.zero_le _) (Nat.zero_le _)
        · have hf := ob_neg q8 hf
          refine g_aload_n (n := 27) d_M_shortLetter_26 rfl 0 rfl rfl ?_
          refine g_get (n := 30) (q0 := 18) d_M_shortLetter_27 rfl (am_fl in_M rfl (by decide : 1 < 20)) (List.mem_cons_of_mem _ tw_866) rfl rfl ?_
          refine g_iload_n (n := 31) d_M_shortLetter_30 rfl 1 rfl rfl ?_
          refine g_iload_n (n := 32) d_M_shortLetter_31 rfl 3 rfl rfl ?_
          refine g_iadd (n := 33) d_M_shortLetter_32 rfl ?_
          obtain ⟨b9, hf⟩ := ob_chk hf
          refine g_iald (n := 34) (q0 := 19) d_M_shortLetter_33 rfl rfl (am_inl b9) ?_
          refine g_if_ne (n := 37) (tgt := 39) d_M_shortLetter_34 rfl (by decide) (fun q10 => ?_) (fun q10 => ?_)
          · have hf := ob_neg q10 hf
            refine g_iinc (n := 42) (v := (x3 + 1)) (ls' := [(3, .int (x3 + 1)), (0, .ref 18), (1, .int x1), (2, .int x2)]) d_M_shortLetter_39 rfl 3 rfl rfl (am_ltb rfl) rfl ?_
            refine g_goto (n := 2) d_M_shortLetter_42 (by decide) ?_
            refine g_ls [1, 2, 3, 0] rfl ?_
            exact ih dk x1 x2 (x3 + 1) _ hf _ rfl
          · have hf := ob_pos q10 hf
            refine g_iconst (n := 38) (v := 0) d_M_shortLetter_37 rfl (by decide) ?_
            cases hf
            exact g_iret d_M_shortLetter_38 rfl (Nat.zero_le _) (Nat.zero_le _)
def f_M_shortLetter (dk : Nat → Int32) (x1 : Int32) (x2 : Int32) : Option (Int32) :=
  f_M_shortLetter_L2 100000000000 dk x1 x2 0
set_option maxHeartbeats 4000000 in
set_option maxRecDepth 100000 in
theorem s_M_shortLetter {l : Launch} {D : va_G} {dA : FieldType → ClassId} (htr : l.stackTraces = false) {hx : Nat → am_E} {rest : List am_E} {on : Int32} {dd : Int32} {mw : Int32} {cu : Int32} {ty : Int32} {mh : Int32} {md : Int32} {dk : Nat → Int32} {op : Nat → Int32} {th : Int32} {sp : Int32} {mp : Int32} {mf : Int32} {ml : Nat → Int32} {ps : Nat → Int32} {nm : Nat → Int32} {mu : Nat → Int32} {ch : Nat → Int32} {wy : Nat → Int32} {nx : Nat → Int32}  {x1 : Int32} {x2 : Int32} {r : Int32} (hf : f_M_shortLetter dk x1 x2 = some r) {o : am_O} (ho : .inl (some (.int r)) = o) :
    am_M (am_kk l D dA) y_M_shortLetter ws_M_shortLetter (am_rm 0 o) [.ref 18, .int x1, .int x2] (hM hx on dd mw cu ty mh md dk op th sp mp mf ml ps nm mu ch wy nx rest) o (hM hx on dd mw cu ty mh md dk op th sp mp mf ml ps nm mu ch wy nx rest) := by
  subst ho
  refine am_body (by decide) rfl (Nat.le_of_ble_eq_true rfl) rfl ?_
  rw [f_M_shortLetter] at hf
  refine g_iconst (n := 1) (v := 0) d_M_shortLetter_0 rfl (by decide) ?_
  refine g_istore_n (n := 2) (ls' := [(3, .int 0), (0, .ref 18), (1, .int x1), (2, .int x2)]) d_M_shortLetter_1 rfl rfl (am_ltb rfl) rfl ?_
  refine g_ls [1, 2, 3, 0] rfl ?_
  exact s_M_shortLetter_L2 htr 100000000000 dk x1 x2 0 _ hf _ rfl
def f_M_spot (x0 : Int32) : Option (Int32) :=
  (if 5 ≤ x0 then some (3 + x0) else some (1 + x0))
set_option maxHeartbeats 4000000 in
set_option maxRecDepth 100000 in
theorem s_M_spot {l : Launch} {D : va_G} {dA : FieldType → ClassId} (htr : l.stackTraces = false) {hx : Nat → am_E} {rest : List am_E} {on : Int32} {dd : Int32} {mw : Int32} {cu : Int32} {ty : Int32} {mh : Int32} {md : Int32} {dk : Nat → Int32} {op : Nat → Int32} {th : Int32} {sp : Int32} {mp : Int32} {mf : Int32} {ml : Nat → Int32} {ps : Nat → Int32} {nm : Nat → Int32} {mu : Nat → Int32} {ch : Nat → Int32} {wy : Nat → Int32} {nx : Nat → Int32}  {x0 : Int32} {r : Int32} (hf : f_M_spot x0 = some r) {o : am_O} (ho : .inl (some (.int r)) = o) :
    am_M (am_kk l D dA) y_M_spot ws_M_spot (am_rm 0 o) [.int x0] (hM hx on dd mw cu ty mh md dk op th sp mp mf ml ps nm mu ch wy nx rest) o (hM hx on dd mw cu ty mh md dk op th sp mp mf ml ps nm mu ch wy nx rest) := by
  subst ho
  refine am_body (by decide) rfl (Nat.le_of_ble_eq_true rfl) rfl ?_
  rw [f_M_spot] at hf
  refine g_iload_n (n := 1) d_M_spot_0 rfl 0 rfl rfl ?_
  refine g_iconst (n := 2) (v := 5) d_M_spot_1 rfl (by decide) ?_
  refine g_icmp_ge (n := 5) (tgt := 11) d_M_spot_2 rfl (by decide) (fun q1 => ?_) (fun q1 => ?_)
  · have hf := ob_pos q1 hf
    refine g_iconst (n := 12) (v := 3) d_M_spot_11 rfl (by decide) ?_
    refine g_iload_n (n := 13) d_M_spot_12 rfl 0 rfl rfl ?_
    refine g_iadd (n := 14) d_M_spot_13 rfl ?_
    cases hf
    exact g_iret d_M_spot_14 rfl (Nat.zero_le _) (Nat.zero_le _)
  · have hf := ob_neg q1 hf
    refine g_iconst (n := 6) (v := 1) d_M_spot_5 rfl (by decide) ?_
    refine g_iload_n (n := 7) d_M_spot_6 rfl 0 rfl rfl ?_
    refine g_iadd (n := 8) d_M_spot_7 rfl ?_
    refine g_goto (n := 14) d_M_spot_8 (by decide) ?_
    cases hf
    exact g_iret d_M_spot_14 rfl (Nat.zero_le _) (Nat.zero_le _)
def f_M_letter_L17 : Nat → (Nat → Int32) → Int32 → Int32 → Int32 → Int32 → Int32 → Int32 → Option (Int32)
  | 0, _, _, _, _, _, _, _ => none
  | fuel + 1, dk, x1, x2, x3, x4, x5, x6 =>
  (if x3 < x6 then some x5 else (if x4 ≤ x6 then f_M_letter_L17 fuel dk x1 x2 x3 x4 0 (x6 + 1) else (if x6 = 0 then ((f_M_place dk x1 ((x2 - 1) - (x6 / 13))).bind fun r6 => ((f_M_spot (x6 - x6 / 13 * 13)).bind fun r8 => (if am_in (r6 + r8) 2240 = true then f_M_letter_L17 fuel dk x1 x2 x3 x4 (dk (r6 + r8).toNatClampNeg) (x6 + 1) else none))) else (if x5 = 0 then f_M_letter_L17 fuel dk x1 x2 x3 x4 0 (x6 + 1) else ((f_M_place dk x1 ((x2 - 1) - (x6 / 13))).bind fun r12 => ((f_M_spot (x6 - x6 / 13 * 13)).bind fun r14 => (if am_in (r12 + r14) 2240 = true then f_M_letter_L17 fuel dk x1 x2 x3 x4 (dk (r12 + r14).toNatClampNeg) (x6 + 1) else none)))))))
set_option maxHeartbeats 4000000 in
set_option maxRecDepth 100000 in
theorem s_M_letter_L17 {l : Launch} {D : va_G} {dA : FieldType → ClassId} (htr : l.stackTraces = false) {hx : Nat → am_E} {rest : List am_E} {on : Int32} {dd : Int32} {mw : Int32} {cu : Int32} {ty : Int32} {mh : Int32} {md : Int32} {op : Nat → Int32} {th : Int32} {sp : Int32} {mp : Int32} {mf : Int32} {ml : Nat → Int32} {ps : Nat → Int32} {nm : Nat → Int32} {mu : Nat → Int32} {ch : Nat → Int32} {wy : Nat → Int32} {nx : Nat → Int32}  : ∀ (fuel : Nat) (dk : Nat → Int32) (x1 : Int32) (x2 : Int32) (x3 : Int32) (x4 : Int32) (x5 : Int32) (x6 : Int32) (r : Int32), f_M_letter_L17 fuel dk x1 x2 x3 x4 x5 x6 = some r → ∀ o : am_O, .inl (some (.int r)) = o →
    am_G (am_kk l D dA) (ws_M_letter, y_M_letter.cls, prog_9_method_21_code, 7, (some .int), y_M_letter.name, [], am_rm 5 (o), none) o (hM hx on dd mw cu ty mh md dk op th sp mp mf ml ps nm mu ch wy nx rest) 0 0 17 [(0, .ref 18), (1, .int x1), (2, .int x2), (3, .int x3), (4, .int x4), (5, .int x5), (6, .int x6)] [] (hM hx on dd mw cu ty mh md dk op th sp mp mf ml ps nm mu ch wy nx rest) := by
  intro fuel
  induction fuel with
  | zero =>
    intro dk x1 x2 x3 x4 x5 x6 r hf
    cases hf
  | succ fuel ih =>
    intro dk x1 x2 x3 x4 x5 x6 r hf o ho
    subst ho
    rw [f_M_letter_L17] at hf
    refine g_iload (n := 19) d_M_letter_17 rfl 6 rfl ?_
    refine g_iload_n (n := 20) d_M_letter_19 rfl 3 rfl rfl ?_
    refine g_icmp_gt (n := 23) (tgt := 80) d_M_letter_20 rfl (by decide) (fun q3 => ?_) (fun q3 => ?_)
    · have hf := ob_pos q3 hf
      refine g_iload (n := 82) d_M_letter_80 rfl 5 rfl ?_
      cases hf
      exact g_iret d_M_letter_82 rfl (Nat.zero_le _) (Nat.zero_le _)
    · have hf := ob_neg q3 hf
      refine g_iload (n := 25) d_M_letter_23 rfl 6 rfl ?_
      refine g_iload (n := 27) d_M_letter_25 rfl 4 rfl ?_
      refine g_icmp_ge (n := 30) (tgt := 71) d_M_letter_27 rfl (by decide) (fun q4 => ?_) (fun q4 => ?_)
      · have hf := ob_pos q4 hf
        refine g_iconst (n := 72) (v := 0) d_M_letter_71 rfl (by decide) ?_
        refine g_istore (n := 74) (ls' := [(5, .int 0), (0, .ref 18), (1, .int x1), (2, .int x2), (3, .int x3), (4, .int x4), (6, .int x6)]) d_M_letter_72 rfl (am_ltb rfl) rfl ?_
        refine g_iinc (n := 77) (v := (x6 + 1)) (ls' := [(6, .int (x6 + 1)), (5, .int 0), (0, .ref 18), (1, .int x1), (2, .int x2), (3, .int x3), (4, .int x4)]) d_M_letter_74 rfl 6 rfl rfl (am_ltb rfl) rfl ?_
        refine g_goto (n := 17) d_M_letter_77 (by decide) ?_
        refine g_ls [2, 3, 4, 5, 6, 1, 0] rfl ?_
        exact ih dk x1 x2 x3 x4 0 (x6 + 1) _ hf _ rfl
      · have hf := ob_neg q4 hf
        refine g_iload (n := 32) d_M_letter_30 rfl 6 rfl ?_
        refine g_if_eq (n := 35) (tgt := 40) d_M_letter_32 rfl (by decide) (fun q5 => ?_) (fun q5 => ?_)
        · have hf := ob_pos q5 hf
          refine g_aload_n (n := 41) d_M_letter_40 rfl 0 rfl rfl ?_
          refine g_get (n := 44) (q0 := 18) d_M_letter_41 rfl (am_fl in_M rfl (by decide : 1 < 20)) (List.mem_cons_of_mem _ tw_866) rfl rfl ?_
          refine g_aload_n (n := 45) d_M_letter_44 rfl 0 rfl rfl ?_
          refine g_iload_n (n := 46) d_M_letter_45 rfl 1 rfl rfl ?_
          refine g_iload_n (n := 47) d_M_letter_46 rfl 2 rfl rfl ?_
          refine g_iconst (n := 48) (v := 1) d_M_letter_47 rfl (by decide) ?_
          refine g_isub (n := 49) d_M_letter_48 rfl ?_
          refine g_iload (n := 51) d_M_letter_49 rfl 6 rfl ?_
          refine g_bipush (n := 53) (v := 13) d_M_letter_51 rfl (by decide) ?_
          refine g_idiv (n := 54) d_M_letter_53 rfl (by decide) ?_
          refine g_isub (n := 55) d_M_letter_54 rfl ?_
          obtain ⟨r6, h7, hf⟩ := ob_bind hf
          refine c_Vr (n := 58) (st' := [.int r6, .ref 19]) [.int x1, .int ((x2 - 1) - (x6 / 13))] [.ref 19] d_M_letter_55 rfl (s_M_place htr h7 rfl) tw_965 tw_967 (am_memS 19 (by decide +kernel) (by decide +kernel)) tw_8 tw_968 hd_M_place (by omega) (by decide) (ci := 7) rfl rfl rfl (Nat.le_of_ble_eq_true rfl) rfl rfl ?_
          refine g_iload (n := 60) d_M_letter_58 rfl 6 rfl ?_
          refine g_bipush (n := 62) (v := 13) d_M_letter_60 rfl (by decide) ?_
          refine g_irem (n := 63) d_M_letter_62 rfl (by decide) ?_
          obtain ⟨r8, h9, hf⟩ := ob_bind hf
          refine c_Sr (n := 66) (st' := [.int r8, .int r6, .ref 19]) [.int (x6 - x6 / 13 * 13)] [.int r6, .ref 19] d_M_letter_63 rfl (s_M_spot htr h9 rfl) tw_999 tw_1000 tw_8 tw_1001 rfl hd_M_spot (by omega) (by decide) rfl (Nat.le_of_ble_eq_true rfl) rfl rfl ?_
          refine g_iadd (n := 67) d_M_letter_66 rfl ?_
          obtain ⟨b10, hf⟩ := ob_chk hf
          refine g_iald (n := 68) (q0 := 19) d_M_letter_67 rfl rfl (am_inl b10) ?_
          refine g_goto (n := 72) d_M_letter_68 (by decide) ?_
          refine g_istore (n := 74) (ls' := [(5, .int (dk (r6 + r8).toNatClampNeg)), (0, .ref 18), (1, .int x1), (2, .int x2), (3, .int x3), (4, .int x4), (6, .int x6)]) d_M_letter_72 rfl (am_ltb rfl) rfl ?_
          refine g_iinc (n := 77) (v := (x6 + 1)) (ls' := [(6, .int (x6 + 1)), (5, .int (dk (r6 + r8).toNatClampNeg)), (0, .ref 18), (1, .int x1), (2, .int x2), (3, .int x3), (4, .int x4)]) d_M_letter_74 rfl 6 rfl rfl (am_ltb rfl) rfl ?_
          refine g_goto (n := 17) d_M_letter_77 (by decide) ?_
          refine g_ls [2, 3, 4, 5, 6, 1, 0] rfl ?_
          exact ih dk x1 x2 x3 x4 (dk (r6 + r8).toNatClampNeg) (x6 + 1) _ hf _ rfl
        · have hf := ob_neg q5 hf
          refine g_iload (n := 37) d_M_letter_35 rfl 5 rfl ?_
          refine g_if_eq (n := 40) (tgt := 71) d_M_letter_37 rfl (by decide) (fun q11 => ?_) (fun q11 => ?_)
          · have hf := ob_pos q11 hf
            refine g_iconst (n := 72) (v := 0) d_M_letter_71 rfl (by decide) ?_
            refine g_istore (n := 74) (ls' := [(5, .int 0), (0, .ref 18), (1, .int x1), (2, .int x2), (3, .int x3), (4, .int x4), (6, .int x6)]) d_M_letter_72 rfl (am_ltb rfl) rfl ?_
            refine g_iinc (n := 77) (v := (x6 + 1)) (ls' := [(6, .int (x6 + 1)), (5, .int 0), (0, .ref 18), (1, .int x1), (2, .int x2), (3, .int x3), (4, .int x4)]) d_M_letter_74 rfl 6 rfl rfl (am_ltb rfl) rfl ?_
            refine g_goto (n := 17) d_M_letter_77 (by decide) ?_
            refine g_ls [2, 3, 4, 5, 6, 1, 0] rfl ?_
            exact ih dk x1 x2 x3 x4 0 (x6 + 1) _ hf _ rfl
          · have hf := ob_neg q11 hf
            refine g_aload_n (n := 41) d_M_letter_40 rfl 0 rfl rfl ?_
            refine g_get (n := 44) (q0 := 18) d_M_letter_41 rfl (am_fl in_M rfl (by decide : 1 < 20)) (List.mem_cons_of_mem _ tw_866) rfl rfl ?_
            refine g_aload_n (n := 45) d_M_letter_44 rfl 0 rfl rfl ?_
            refine g_iload_n (n := 46) d_M_letter_45 rfl 1 rfl rfl ?_
            refine g_iload_n (n := 47) d_M_letter_46 rfl 2 rfl rfl ?_
            refine g_iconst (n := 48) (v := 1) d_M_letter_47 rfl (by decide) ?_
            refine g_isub (n := 49) d_M_letter_48 rfl ?_
            refine g_iload (n := 51) d_M_letter_49 rfl 6 rfl ?_
            refine g_bipush (n := 53) (v := 13) d_M_letter_51 rfl (by decide) ?_
            refine g_idiv (n := 54) d_M_letter_53 rfl (by decide) ?_
            refine g_isub (n := 55) d_M_letter_54 rfl ?_
            obtain ⟨r12, h13, hf⟩ := ob_bind hf
            refine c_Vr (n := 58) (st' := [.int r12, .ref 19]) [.int x1, .int ((x2 - 1) - (x6 / 13))] [.ref 19] d_M_letter_55 rfl (s_M_place htr h13 rfl) tw_965 tw_967 (am_memS 19 (by decide +kernel) (by decide +kernel)) tw_8 tw_968 hd_M_place (by omega) (by decide) (ci := 7) rfl rfl rfl (Nat.le_of_ble_eq_true rfl) rfl rfl ?_
            refine g_iload (n := 60) d_M_letter_58 rfl 6 rfl ?_
            refine g_bipush (n := 62) (v := 13) d_M_letter_60 rfl (by decide) ?_
            refine g_irem (n := 63) d_M_letter_62 rfl (by decide) ?_
            obtain ⟨r14, h15, hf⟩ := ob_bind hf
            refine c_Sr (n := 66) (st' := [.int r14, .int r12, .ref 19]) [.int (x6 - x6 / 13 * 13)] [.int r12, .ref 19] d_M_letter_63 rfl (s_M_spot htr h15 rfl) tw_999 tw_1000 tw_8 tw_1001 rfl hd_M_spot (by omega) (by decide) rfl (Nat.le_of_ble_eq_true rfl) rfl rfl ?_
            refine g_iadd (n := 67) d_M_letter_66 rfl ?_
            obtain ⟨b16, hf⟩ := ob_chk hf
            refine g_iald (n := 68) (q0 := 19) d_M_letter_67 rfl rfl (am_inl b16) ?_
            refine g_goto (n := 72) d_M_letter_68 (by decide) ?_
            refine g_istore (n := 74) (ls' := [(5, .int (dk (r12 + r14).toNatClampNeg)), (0, .ref 18), (1, .int x1), (2, .int x2), (3, .int x3), (4, .int x4), (6, .int x6)]) d_M_letter_72 rfl (am_ltb rfl) rfl ?_
            refine g_iinc (n := 77) (v := (x6 + 1)) (ls' := [(6, .int (x6 + 1)), (5, .int (dk (r12 + r14).toNatClampNeg)), (0, .ref 18), (1, .int x1), (2, .int x2), (3, .int x3), (4, .int x4)]) d_M_letter_74 rfl 6 rfl rfl (am_ltb rfl) rfl ?_
            refine g_goto (n := 17) d_M_letter_77 (by decide) ?_
            refine g_ls [2, 3, 4, 5, 6, 1, 0] rfl ?_
            exact ih dk x1 x2 x3 x4 (dk (r12 + r14).toNatClampNeg) (x6 + 1) _ hf _ rfl
def f_M_letter (dk : Nat → Int32) (x1 : Int32) (x2 : Int32) (x3 : Int32) : Option (Int32) :=
  ((f_M_partsOf dk x1 x2).bind fun r1 => f_M_letter_L17 100000000000 dk x1 x2 x3 (13 * r1) 0 0)
set_option maxHeartbeats 4000000 in
set_option maxRecDepth 100000 in
theorem s_M_letter {l : Launch} {D : va_G} {dA : FieldType → ClassId} (htr : l.stackTraces = false) {hx : Nat → am_E} {rest : List am_E} {on : Int32} {dd : Int32} {mw : Int32} {cu : Int32} {ty : Int32} {mh : Int32} {md : Int32} {dk : Nat → Int32} {op : Nat → Int32} {th : Int32} {sp : Int32} {mp : Int32} {mf : Int32} {ml : Nat → Int32} {ps : Nat → Int32} {nm : Nat → Int32} {mu : Nat → Int32} {ch : Nat → Int32} {wy : Nat → Int32} {nx : Nat → Int32}  {x1 : Int32} {x2 : Int32} {x3 : Int32} {r : Int32} (hf : f_M_letter dk x1 x2 x3 = some r) {o : am_O} (ho : .inl (some (.int r)) = o) :
    am_M (am_kk l D dA) y_M_letter ws_M_letter (am_rm 5 o) [.ref 18, .int x1, .int x2, .int x3] (hM hx on dd mw cu ty mh md dk op th sp mp mf ml ps nm mu ch wy nx rest) o (hM hx on dd mw cu ty mh md dk op th sp mp mf ml ps nm mu ch wy nx rest) := by
  subst ho
  refine am_body (by decide) rfl (Nat.le_of_ble_eq_true rfl) rfl ?_
  rw [f_M_letter] at hf
  refine g_bipush (n := 2) (v := 13) d_M_letter_0 rfl (by decide) ?_
  refine g_aload_n (n := 3) d_M_letter_2 rfl 0 rfl rfl ?_
  refine g_iload_n (n := 4) d_M_letter_3 rfl 1 rfl rfl ?_
  refine g_iload_n (n := 5) d_M_letter_4 rfl 2 rfl rfl ?_
  obtain ⟨r1, h2, hf⟩ := ob_bind hf
  refine c_Vr (n := 8) (st' := [.int r1, .int 13]) [.int x1, .int x2] [.int 13] d_M_letter_5 rfl (s_M_partsOf htr h2 rfl) tw_977 tw_979 (am_memS 22 (by decide +kernel) (by decide +kernel)) tw_8 tw_980 hd_M_partsOf (by omega) (by decide) (ci := 7) rfl rfl rfl (Nat.le_of_ble_eq_true rfl) rfl rfl ?_
  refine g_imul (n := 9) d_M_letter_8 rfl ?_
  refine g_istore (n := 11) (ls' := [(4, .int (13 * r1)), (0, .ref 18), (1, .int x1), (2, .int x2), (3, .int x3)]) d_M_letter_9 rfl (am_ltb rfl) rfl ?_
  refine g_iconst (n := 12) (v := 0) d_M_letter_11 rfl (by decide) ?_
  refine g_istore (n := 14) (ls' := [(5, .int 0), (4, .int (13 * r1)), (0, .ref 18), (1, .int x1), (2, .int x2), (3, .int x3)]) d_M_letter_12 rfl (am_ltb rfl) rfl ?_
  refine g_iconst (n := 15) (v := 0) d_M_letter_14 rfl (by decide) ?_
  refine g_istore (n := 17) (ls' := [(6, .int 0), (5, .int 0), (4, .int (13 * r1)), (0, .ref 18), (1, .int x1), (2, .int x2), (3, .int x3)]) d_M_letter_15 rfl (am_ltb rfl) rfl ?_
  refine g_ls [3, 4, 5, 6, 2, 1, 0] rfl ?_
  exact s_M_letter_L17 htr 100000000000 dk x1 x2 x3 (13 * r1) 0 0 _ hf _ rfl
def f_M_isCalled_L51 : Nat → Int32 → Int32 → (Nat → Int32) → (Nat → Int32) → Int32 → Int32 → Int32 → Int32 → Int32 → Option (Int32)
  | 0, _, _, _, _, _, _, _, _, _ => none
  | fuel + 1, ty, mh, dk, ml, x1, x2, x3, x4, x5 =>
  (if ty < x5 then (if x3 = 0 then (if x4 = 0 then some 0 else some 1) else some 1) else (if ty ≤ x5 then (if x3 = 0 then (if x4 = 0 then f_M_isCalled_L51 fuel ty mh dk ml x1 x2 0 0 (x5 + 1) else (if 26 ≤ x5 then f_M_isCalled_L51 fuel ty mh dk ml x1 x2 0 1 (x5 + 1) else ((f_M_letter dk mh x1 x5).bind fun r18 => ((f_M_capital r18).bind fun r20 => (if r20 = 0 then f_M_isCalled_L51 fuel ty mh dk ml x1 x2 0 1 (x5 + 1) else f_M_isCalled_L51 fuel ty mh dk ml x1 x2 0 0 (x5 + 1)))))) else ((f_M_shortLetter dk x2 x5).bind fun r23 => ((f_M_capital r23).bind fun r25 => (if r25 = 0 then (if x4 = 0 then f_M_isCalled_L51 fuel ty mh dk ml x1 x2 1 0 (x5 + 1) else (if 26 ≤ x5 then f_M_isCalled_L51 fuel ty mh dk ml x1 x2 1 1 (x5 + 1) else ((f_M_letter dk mh x1 x5).bind fun r39 => ((f_M_capital r39).bind fun r41 => (if r41 = 0 then f_M_isCalled_L51 fuel ty mh dk ml x1 x2 1 1 (x5 + 1) else f_M_isCalled_L51 fuel ty mh dk ml x1 x2 1 0 (x5 + 1)))))) else (if x4 = 0 then f_M_isCalled_L51 fuel ty mh dk ml x1 x2 0 0 (x5 + 1) else (if 26 ≤ x5 then f_M_isCalled_L51 fuel ty mh dk ml x1 x2 0 1 (x5 + 1) else ((f_M_letter dk mh x1 x5).bind fun r31 => ((f_M_capital r31).bind fun r33 => (if r33 = 0 then f_M_isCalled_L51 fuel ty mh dk ml x1 x2 0 1 (x5 + 1) else f_M_isCalled_L51 fuel ty mh dk ml x1 x2 0 0 (x5 + 1)))))))))) else (if am_in x5 26 = true then ((f_M_capital (ml x5.toNatClampNeg)).bind fun r45 => (if x3 = 0 then (if x4 = 0 then f_M_isCalled_L51 fuel ty mh dk ml x1 x2 0 0 (x5 + 1) else (if 26 ≤ x5 then (if 0 = r45 then f_M_isCalled_L51 fuel ty mh dk ml x1 x2 0 1 (x5 + 1) else f_M_isCalled_L51 fuel ty mh dk ml x1 x2 0 0 (x5 + 1)) else ((f_M_letter dk mh x1 x5).bind fun r51 => ((f_M_capital r51).bind fun r53 => (if r53 = r45 then f_M_isCalled_L51 fuel ty mh dk ml x1 x2 0 1 (x5 + 1) else f_M_isCalled_L51 fuel ty mh dk ml x1 x2 0 0 (x5 + 1)))))) else ((f_M_shortLetter dk x2 x5).bind fun r56 => ((f_M_capital r56).bind fun r58 => (if r58 = r45 then (if x4 = 0 then f_M_isCalled_L51 fuel ty mh dk ml x1 x2 1 0 (x5 + 1) else (if 26 ≤ x5 then (if 0 = r45 then f_M_isCalled_L51 fuel ty mh dk ml x1 x2 1 1 (x5 + 1) else f_M_isCalled_L51 fuel ty mh dk ml x1 x2 1 0 (x5 + 1)) else ((f_M_letter dk mh x1 x5).bind fun r72 => ((f_M_capital r72).bind fun r74 => (if r74 = r45 then f_M_isCalled_L51 fuel ty mh dk ml x1 x2 1 1 (x5 + 1) else f_M_isCalled_L51 fuel ty mh dk ml x1 x2 1 0 (x5 + 1)))))) else (if x4 = 0 then f_M_isCalled_L51 fuel ty mh dk ml x1 x2 0 0 (x5 + 1) else (if 26 ≤ x5 then (if 0 = r45 then f_M_isCalled_L51 fuel ty mh dk ml x1 x2 0 1 (x5 + 1) else f_M_isCalled_L51 fuel ty mh dk ml x1 x2 0 0 (x5 + 1)) else ((f_M_letter dk mh x1 x5).bind fun r64 => ((f_M_capital r64).bind fun r66 => (if r66 = r45 then f_M_isCalled_L51 fuel ty mh dk ml x1 x2 0 1 (x5 + 1) else f_M_isCalled_L51 fuel ty mh dk ml x1 x2 0 0 (x5 + 1))))))))))) else none)))
set_option maxHeartbeats 4000000 in
set_option maxRecDepth 100000 in
theorem s_M_isCalled_L51 {l : Launch} {D : va_G} {dA : FieldType → ClassId} (htr : l.stackTraces = false) {hx : Nat → am_E} {rest : List am_E} {on : Int32} {dd : Int32} {mw : Int32} {cu : Int32} {md : Int32} {op : Nat → Int32} {th : Int32} {sp : Int32} {mp : Int32} {mf : Int32} {ps : Nat → Int32} {nm : Nat → Int32} {mu : Nat → Int32} {ch : Nat → Int32} {wy : Nat → Int32} {nx : Nat → Int32}  : ∀ (fuel : Nat) (ty : Int32) (mh : Int32) (dk : Nat → Int32) (ml : Nat → Int32) (x1 : Int32) (x2 : Int32) (x3 : Int32) (x4 : Int32) (x5 : Int32) (r : Int32), f_M_isCalled_L51 fuel ty mh dk ml x1 x2 x3 x4 x5 = some r → ∀ o : am_O, .inl (some (.int r)) = o →
    am_G (am_kk l D dA) (ws_M_isCalled, y_M_isCalled.cls, prog_9_method_25_code, 7, (some .boolean), y_M_isCalled.name, [], am_rm 6 (o), none) o (hM hx on dd mw cu ty mh md dk op th sp mp mf ml ps nm mu ch wy nx rest) 0 0 51 [(0, .ref 18), (1, .int x1), (2, .int x2), (3, .int x3), (4, .int x4), (5, .int x5)] [] (hM hx on dd mw cu ty mh md dk op th sp mp mf ml ps nm mu ch wy nx rest) := by
  intro fuel
  induction fuel with
  | zero =>
    intro ty mh dk ml x1 x2 x3 x4 x5 r hf
    cases hf
  | succ fuel ih =>
    intro ty mh dk ml x1 x2 x3 x4 x5 r hf o ho
    subst ho
    rw [f_M_isCalled_L51] at hf
    refine g_iload (n := 53) d_M_isCalled_51 rfl 5 rfl ?_
    refine g_aload_n (n := 54) d_M_isCalled_53 rfl 0 rfl rfl ?_
    refine g_get (n := 57) (q0 := 18) d_M_isCalled_54 rfl (am_fl in_M rfl (by decide : 8 < 20)) (List.mem_cons_of_mem _ tw_873) rfl rfl ?_
    refine g_icmp_gt (n := 60) (tgt := 158) d_M_isCalled_57 rfl (by decide) (fun q10 => ?_) (fun q10 => ?_)
    · have hf := ob_pos q10 hf
      refine g_iload_n (n := 159) d_M_isCalled_158 rfl 3 rfl rfl ?_
      refine g_if_ne (n := 162) (tgt := 167) d_M_isCalled_159 rfl (by decide) (fun q11 => ?_) (fun q11 => ?_)
      · have hf := ob_neg q11 hf
        refine g_iconst (n := 168) (v := 1) d_M_isCalled_167 rfl (by decide) ?_
        refine g_goto (n := 172) d_M_isCalled_168 (by decide) ?_
        cases hf
        exact g_zret d_M_isCalled_172 rfl am_z1 (Nat.zero_le _) (Nat.zero_le _)
      · have hf := ob_pos q11 hf
        refine g_iload (n := 164) d_M_isCalled_162 rfl 4 rfl ?_
        refine g_if_eq (n := 167) (tgt := 171) d_M_isCalled_164 rfl (by decide) (fun q12 => ?_) (fun q12 => ?_)
        · have hf := ob_pos q12 hf
          refine g_iconst (n := 172) (v := 0) d_M_isCalled_171 rfl (by decide) ?_
          cases hf
          exact g_zret d_M_isCalled_172 rfl am_z0 (Nat.zero_le _) (Nat.zero_le _)
        · have hf := ob_neg q12 hf
          refine g_iconst (n := 168) (v := 1) d_M_isCalled_167 rfl (by decide) ?_
          refine g_goto (n := 172) d_M_isCalled_168 (by decide) ?_
          cases hf
          exact g_zret d_M_isCalled_172 rfl am_z1 (Nat.zero_le _) (Nat.zero_le _)
    · have hf := ob_neg q10 hf
      refine g_iload (n := 62) d_M_isCalled_60 rfl 5 rfl ?_
      refine g_aload_n (n := 63) d_M_isCalled_62 rfl 0 rfl rfl ?_
      refine g_get (n := 66) (q0 := 18) d_M_isCalled_63 rfl (am_fl in_M rfl (by decide : 8 < 20)) (List.mem_cons_of_mem _ tw_873) rfl rfl ?_
      refine g_icmp_ge (n := 69) (tgt := 82) d_M_isCalled_66 rfl (by decide) (fun q13 => ?_) (fun q13 => ?_)
      · have hf := ob_pos q13 hf
        refine g_iconst (n := 83) (v := 0) d_M_isCalled_82 rfl (by decide) ?_
        refine g_istore (n := 85) (ls' := [(6, .int 0), (0, .ref 18), (1, .int x1), (2, .int x2), (3, .int x3), (4, .int x4), (5, .int x5)]) d_M_isCalled_83 rfl (am_ltb rfl) rfl ?_
        refine g_iload_n (n := 86) d_M_isCalled_85 rfl 4 rfl rfl ?_
        refine g_if_eq (n := 89) (tgt := 108) d_M_isCalled_86 rfl (by decide) (fun q14 => ?_) (fun q14 => ?_)
        · have hf := ob_pos q14 hf
          refine g_iconst (n := 109) (v := 0) d_M_isCalled_108 rfl (by decide) ?_
          refine g_istore_n (n := 110) (ls' := [(3, .int 0), (6, .int 0), (0, .ref 18), (1, .int x1), (2, .int x2), (4, .int x4), (5, .int x5)]) d_M_isCalled_109 rfl rfl (am_ltb rfl) rfl ?_
          refine g_iload (n := 112) d_M_isCalled_110 rfl 5 rfl ?_
          refine g_if_eq (n := 115) (tgt := 149) d_M_isCalled_112 rfl (by decide) (fun q15 => ?_) (fun q15 => ?_)
          · have hf := ob_pos q15 hf
            refine g_iconst (n := 150) (v := 0) d_M_isCalled_149 rfl (by decide) ?_
            refine g_istore (n := 152) (ls' := [(4, .int 0), (3, .int 0), (6, .int 0), (0, .ref 18), (1, .int x1), (2, .int x2), (5, .int x5)]) d_M_isCalled_150 rfl (am_ltb rfl) rfl ?_
            refine g_iinc (n := 155) (v := (x5 + 1)) (ls' := [(5, .int (x5 + 1)), (4, .int 0), (3, .int 0), (6, .int 0), (0, .ref 18), (1, .int x1), (2, .int x2)]) d_M_isCalled_152 rfl 6 rfl rfl (am_ltb rfl) rfl ?_
            refine g_goto (n := 51) d_M_isCalled_155 (by decide) ?_
            refine g_ls [4, 5, 6, 2, 1, 0] rfl ?_
            exact ih ty mh dk ml x1 x2 0 0 (x5 + 1) _ hf _ rfl
          · have hf := ob_neg q15 hf
            refine g_iload (n := 117) d_M_isCalled_115 rfl 6 rfl ?_
            refine g_bipush (n := 119) (v := 26) d_M_isCalled_117 rfl (by decide) ?_
            refine g_icmp_ge (n := 122) (tgt := 139) d_M_isCalled_119 rfl (by decide) (fun q16 => ?_) (fun q16 => ?_)
            · have hf := ob_pos q16 hf
              refine g_iconst (n := 140) (v := 0) d_M_isCalled_139 rfl (by decide) ?_
              refine g_iload (n := 142) d_M_isCalled_140 rfl 1 rfl ?_
              refine g_icmp_ne (n := 145) (tgt := 149) d_M_isCalled_142 rfl (by decide) (fun q17 => absurd q17 (by decide)) (fun _ => ?_)
              refine g_iconst (n := 146) (v := 1) d_M_isCalled_145 rfl (by decide) ?_
              refine g_goto (n := 150) d_M_isCalled_146 (by decide) ?_
              refine g_istore (n := 152) (ls' := [(4, .int 1), (3, .int 0), (6, .int 0), (0, .ref 18), (1, .int x1), (2, .int x2), (5, .int x5)]) d_M_isCalled_150 rfl (am_ltb rfl) rfl ?_
              refine g_iinc (n := 155) (v := (x5 + 1)) (ls' := [(5, .int (x5 + 1)), (4, .int 1), (3, .int 0), (6, .int 0), (0, .ref 18), (1, .int x1), (2, .int x2)]) d_M_isCalled_152 rfl 6 rfl rfl (am_ltb rfl) rfl ?_
              refine g_goto (n := 51) d_M_isCalled_155 (by decide) ?_
              refine g_ls [4, 5, 6, 2, 1, 0] rfl ?_
              exact ih ty mh dk ml x1 x2 0 1 (x5 + 1) _ hf _ rfl
            · have hf := ob_neg q16 hf
              refine g_aload_n (n := 123) d_M_isCalled_122 rfl 2 rfl rfl ?_
              refine g_aload_n (n := 124) d_M_isCalled_123 rfl 2 rfl rfl ?_
              refine g_get (n := 127) (q0 := 18) d_M_isCalled_124 rfl (am_fl in_M rfl (by decide : 9 < 20)) (List.mem_cons_of_mem _ tw_874) rfl rfl ?_
              refine g_iload_n (n := 128) d_M_isCalled_127 rfl 3 rfl rfl ?_
              refine g_iload (n := 130) d_M_isCalled_128 rfl 6 rfl ?_
              obtain ⟨r18, h19, hf⟩ := ob_bind hf
              refine c_Vr (n := 133) (st' := [.int r18]) [.int mh, .int x1, .int x5] [] d_M_isCalled_130 rfl (s_M_letter htr h19 rfl) tw_995 tw_997 (am_memS 25 (by decide +kernel) (by decide +kernel)) tw_8 tw_998 hd_M_letter (by omega) (by decide) (ci := 7) rfl rfl rfl (Nat.le_of_ble_eq_true rfl) rfl rfl ?_
              obtain ⟨r20, h21, hf⟩ := ob_bind hf
              refine c_Sr (n := 136) (st' := [.int r20]) [.int r18] [] d_M_isCalled_133 rfl (s_M_capital htr h21 rfl) tw_988 tw_989 tw_8 tw_990 rfl hd_M_capital (by omega) (by decide) rfl (Nat.le_of_ble_eq_true rfl) rfl rfl ?_
              refine g_goto (n := 140) d_M_isCalled_136 (by decide) ?_
              refine g_iload (n := 142) d_M_isCalled_140 rfl 1 rfl ?_
              refine g_icmp_ne (n := 145) (tgt := 149) d_M_isCalled_142 rfl (by decide) (fun q22 => ?_) (fun q22 => ?_)
              · have hf := ob_neg q22 hf
                refine g_iconst (n := 150) (v := 0) d_M_isCalled_149 rfl (by decide) ?_
                refine g_istore (n := 152) (ls' := [(4, .int 0), (3, .int 0), (6, .int 0), (0, .ref 18), (1, .int x1), (2, .int x2), (5, .int x5)]) d_M_isCalled_150 rfl (am_ltb rfl) rfl ?_
                refine g_iinc (n := 155) (v := (x5 + 1)) (ls' := [(5, .int (x5 + 1)), (4, .int 0), (3, .int 0), (6, .int 0), (0, .ref 18), (1, .int x1), (2, .int x2)]) d_M_isCalled_152 rfl 6 rfl rfl (am_ltb rfl) rfl ?_
                refine g_goto (n := 51) d_M_isCalled_155 (by decide) ?_
                refine g_ls [4, 5, 6, 2, 1, 0] rfl ?_
                exact ih ty mh dk ml x1 x2 0 0 (x5 + 1) _ hf _ rfl
              · have hf := ob_pos q22 hf
                refine g_iconst (n := 146) (v := 1) d_M_isCalled_145 rfl (by decide) ?_
                refine g_goto (n := 150) d_M_isCalled_146 (by decide) ?_
                refine g_istore (n := 152) (ls' := [(4, .int 1), (3, .int 0), (6, .int 0), (0, .ref 18), (1, .int x1), (2, .int x2), (5, .int x5)]) d_M_isCalled_150 rfl (am_ltb rfl) rfl ?_
                refine g_iinc (n := 155) (v := (x5 + 1)) (ls' := [(5, .int (x5 + 1)), (4, .int 1), (3, .int 0), (6, .int 0), (0, .ref 18), (1, .int x1), (2, .int x2)]) d_M_isCalled_152 rfl 6 rfl rfl (am_ltb rfl) rfl ?_
                refine g_goto (n := 51) d_M_isCalled_155 (by decide) ?_
                refine g_ls [4, 5, 6, 2, 1, 0] rfl ?_
                exact ih ty mh dk ml x1 x2 0 1 (x5 + 1) _ hf _ rfl
        · have hf := ob_neg q14 hf
          refine g_aload_n (n := 90) d_M_isCalled_89 rfl 1 rfl rfl ?_
          refine g_iload_n (n := 91) d_M_isCalled_90 rfl 3 rfl rfl ?_
          refine g_iload (n := 93) d_M_isCalled_91 rfl 6 rfl ?_
          obtain ⟨r23, h24, hf⟩ := ob_bind hf
          refine c_Vr (n := 96) (st' := [.int r23]) [.int x2, .int x5] [] d_M_isCalled_93 rfl (s_M_shortLetter htr h24 rfl) tw_991 tw_993 (am_memS 24 (by decide +kernel) (by decide +kernel)) tw_8 tw_994 hd_M_shortLetter (by omega) (by decide) (ci := 7) rfl rfl rfl (Nat.le_of_ble_eq_true rfl) rfl rfl ?_
          obtain ⟨r25, h26, hf⟩ := ob_bind hf
          refine c_Sr (n := 99) (st' := [.int r25]) [.int r23] [] d_M_isCalled_96 rfl (s_M_capital htr h26 rfl) tw_988 tw_989 tw_8 tw_990 rfl hd_M_capital (by omega) (by decide) rfl (Nat.le_of_ble_eq_true rfl) rfl rfl ?_
          refine g_iload (n := 101) d_M_isCalled_99 rfl 0 rfl ?_
          refine g_icmp_ne (n := 104) (tgt := 108) d_M_isCalled_101 rfl (by decide) (fun q27 => ?_) (fun q27 => ?_)
          · have hf := ob_neg q27 hf
            refine g_iconst (n := 109) (v := 0) d_M_isCalled_108 rfl (by decide) ?_
            refine g_istore_n (n := 110) (ls' := [(3, .int 0), (6, .int 0), (0, .ref 18), (1, .int x1), (2, .int x2), (4, .int x4), (5, .int x5)]) d_M_isCalled_109 rfl rfl (am_ltb rfl) rfl ?_
            refine g_iload (n := 112) d_M_isCalled_110 rfl 5 rfl ?_
            refine g_if_eq (n := 115) (tgt := 149) d_M_isCalled_112 rfl (by decide) (fun q28 => ?_) (fun q28 => ?_)
            · have hf := ob_pos q28 hf
              refine g_iconst (n := 150) (v := 0) d_M_isCalled_149 rfl (by decide) ?_
              refine g_istore (n := 152) (ls' := [(4, .int 0), (3, .int 0), (6, .int 0), (0, .ref 18), (1, .int x1), (2, .int x2), (5, .int x5)]) d_M_isCalled_150 rfl (am_ltb rfl) rfl ?_
              refine g_iinc (n := 155) (v := (x5 + 1)) (ls' := [(5, .int (x5 + 1)), (4, .int 0), (3, .int 0), (6, .int 0), (0, .ref 18), (1, .int x1), (2, .int x2)]) d_M_isCalled_152 rfl 6 rfl rfl (am_ltb rfl) rfl ?_
              refine g_goto (n := 51) d_M_isCalled_155 (by decide) ?_
              refine g_ls [4, 5, 6, 2, 1, 0] rfl ?_
              exact ih ty mh dk ml x1 x2 0 0 (x5 + 1) _ hf _ rfl
            · have hf := ob_neg q28 hf
              refine g_iload (n := 117) d_M_isCalled_115 rfl 6 rfl ?_
              refine g_bipush (n := 119) (v := 26) d_M_isCalled_117 rfl (by decide) ?_
              refine g_icmp_ge (n := 122) (tgt := 139) d_M_isCalled_119 rfl (by decide) (fun q29 => ?_) (fun q29 => ?_)
              · have hf := ob_pos q29 hf
                refine g_iconst (n := 140) (v := 0) d_M_isCalled_139 rfl (by decide) ?_
                refine g_iload (n := 142) d_M_isCalled_140 rfl 1 rfl ?_
                refine g_icmp_ne (n := 145) (tgt := 149) d_M_isCalled_142 rfl (by decide) (fun q30 => absurd q30 (by decide)) (fun _ => ?_)
                refine g_iconst (n := 146) (v := 1) d_M_isCalled_145 rfl (by decide) ?_
                refine g_goto (n := 150) d_M_isCalled_146 (by decide) ?_
                refine g_istore (n := 152) (ls' := [(4, .int 1), (3, .int 0), (6, .int 0), (0, .ref 18), (1, .int x1), (2, .int x2), (5, .int x5)]) d_M_isCalled_150 rfl (am_ltb rfl) rfl ?_
                refine g_iinc (n := 155) (v := (x5 + 1)) (ls' := [(5, .int (x5 + 1)), (4, .int 1), (3, .int 0), (6, .int 0), (0, .ref 18), (1, .int x1), (2, .int x2)]) d_M_isCalled_152 rfl 6 rfl rfl (am_ltb rfl) rfl ?_
                refine g_goto (n := 51) d_M_isCalled_155 (by decide) ?_
                refine g_ls [4, 5, 6, 2, 1, 0] rfl ?_
                exact ih ty mh dk ml x1 x2 0 1 (x5 + 1) _ hf _ rfl
              · have hf := ob_neg q29 hf
                refine g_aload_n (n := 123) d_M_isCalled_122 rfl 2 rfl rfl ?_
                refine g_aload_n (n := 124) d_M_isCalled_123 rfl 2 rfl rfl ?_
                refine g_get (n := 127) (q0 := 18) d_M_isCalled_124 rfl (am_fl in_M rfl (by decide : 9 < 20)) (List.mem_cons_of_mem _ tw_874) rfl rfl ?_
                refine g_iload_n (n := 128) d_M_isCalled_127 rfl 3 rfl rfl ?_
                refine g_iload (n := 130) d_M_isCalled_128 rfl 6 rfl ?_
                obtain ⟨r31, h32, hf⟩ := ob_bind hf
                refine c_Vr (n := 133) (st' := [.int r31]) [.int mh, .int x1, .int x5] [] d_M_isCalled_130 rfl (s_M_letter htr h32 rfl) tw_995 tw_997 (am_memS 25 (by decide +kernel) (by decide +kernel)) tw_8 tw_998 hd_M_letter (by omega) (by decide) (ci := 7) rfl rfl rfl (Nat.le_of_ble_eq_true rfl) rfl rfl ?_
                obtain ⟨r33, h34, hf⟩ := ob_bind hf
                refine c_Sr (n := 136) (st' := [.int r33]) [.int r31] [] d_M_isCalled_133 rfl (s_M_capital htr h34 rfl) tw_988 tw_989 tw_8 tw_990 rfl hd_M_capital (by omega) (by decide) rfl (Nat.le_of_ble_eq_true rfl) rfl rfl ?_
                refine g_goto (n := 140) d_M_isCalled_136 (by decide) ?_
                refine g_iload (n := 142) d_M_isCalled_140 rfl 1 rfl ?_
                refine g_icmp_ne (n := 145) (tgt := 149) d_M_isCalled_142 rfl (by decide) (fun q35 => ?_) (fun q35 => ?_)
                · have hf := ob_neg q35 hf
                  refine g_iconst (n := 150) (v := 0) d_M_isCalled_149 rfl (by decide) ?_
                  refine g_istore (n := 152) (ls' := [(4, .int 0), (3, .int 0), (6, .int 0), (0, .ref 18), (1, .int x1), (2, .int x2), (5, .int x5)]) d_M_isCalled_150 rfl (am_ltb rfl) rfl ?_
                  refine g_iinc (n := 155) (v := (x5 + 1)) (ls' := [(5, .int (x5 + 1)), (4, .int 0), (3, .int 0), (6, .int 0), (0, .ref 18), (1, .int x1), (2, .int x2)]) d_M_isCalled_152 rfl 6 rfl rfl (am_ltb rfl) rfl ?_
                  refine g_goto (n := 51) d_M_isCalled_155 (by decide) ?_
                  refine g_ls [4, 5, 6, 2, 1, 0] rfl ?_
                  exact ih ty mh dk ml x1 x2 0 0 (x5 + 1) _ hf _ rfl
                · have hf := ob_pos q35 hf
                  refine g_iconst (n := 146) (v := 1) d_M_isCalled_145 rfl (by decide) ?_
                  refine g_goto (n := 150) d_M_isCalled_146 (by decide) ?_
                  refine g_istore (n := 152) (ls' := [(4, .int 1), (3, .int 0), (6, .int 0), (0, .ref 18), (1, .int x1), (2, .int x2), (5, .int x5)]) d_M_isCalled_150 rfl (am_ltb rfl) rfl ?_
                  refine g_iinc (n := 155) (v := (x5 + 1)) (ls' := [(5, .int (x5 + 1)), (4, .int 1), (3, .int 0), (6, .int 0), (0, .ref 18), (1, .int x1), (2, .int x2)]) d_M_isCalled_152 rfl 6 rfl rfl (am_ltb rfl) rfl ?_
                  refine g_goto (n := 51) d_M_isCalled_155 (by decide) ?_
                  refine g_ls [4, 5, 6, 2, 1, 0] rfl ?_
                  exact ih ty mh dk ml x1 x2 0 1 (x5 + 1) _ hf _ rfl
          · have hf := ob_pos q27 hf
            refine g_iconst (n := 105) (v := 1) d_M_isCalled_104 rfl (by decide) ?_
            refine g_goto (n := 109) d_M_isCalled_105 (by decide) ?_
            refine g_istore_n (n := 110) (ls' := [(3, .int 1), (6, .int 0), (0, .ref 18), (1, .int x1), (2, .int x2), (4, .int x4), (5, .int x5)]) d_M_isCalled_109 rfl rfl (am_ltb rfl) rfl ?_
            refine g_iload (n := 112) d_M_isCalled_110 rfl 5 rfl ?_
            refine g_if_eq (n := 115) (tgt := 149) d_M_isCalled_112 rfl (by decide) (fun q36 => ?_) (fun q36 => ?_)
            · have hf := ob_pos q36 hf
              refine g_iconst (n := 150) (v := 0) d_M_isCalled_149 rfl (by decide) ?_
              refine g_istore (n := 152) (ls' := [(4, .int 0), (3, .int 1), (6, .int 0), (0, .ref 18), (1, .int x1), (2, .int x2), (5, .int x5)]) d_M_isCalled_150 rfl (am_ltb rfl) rfl ?_
              refine g_iinc (n := 155) (v := (x5 + 1)) (ls' := [(5, .int (x5 + 1)), (4, .int 0), (3, .int 1), (6, .int 0), (0, .ref 18), (1, .int x1), (2, .int x2)]) d_M_isCalled_152 rfl 6 rfl rfl (am_ltb rfl) rfl ?_
              refine g_goto (n := 51) d_M_isCalled_155 (by decide) ?_
              refine g_ls [4, 5, 6, 2, 1, 0] rfl ?_
              exact ih ty mh dk ml x1 x2 1 0 (x5 + 1) _ hf _ rfl
            · have hf := ob_neg q36 hf
              refine g_iload (n := 117) d_M_isCalled_115 rfl 6 rfl ?_
              refine g_bipush (n := 119) (v := 26) d_M_isCalled_117 rfl (by decide) ?_
              refine g_icmp_ge (n := 122) (tgt := 139) d_M_isCalled_119 rfl (by decide) (fun q37 => ?_) (fun q37 => ?_)
              · have hf := ob_pos q37 hf
                refine g_iconst (n := 140) (v := 0) d_M_isCalled_139 rfl (by decide) ?_
                refine g_iload (n := 142) d_M_isCalled_140 rfl 1 rfl ?_
                refine g_icmp_ne (n := 145) (tgt := 149) d_M_isCalled_142 rfl (by decide) (fun q38 => absurd q38 (by decide)) (fun _ => ?_)
                refine g_iconst (n := 146) (v := 1) d_M_isCalled_145 rfl (by decide) ?_
                refine g_goto (n := 150) d_M_isCalled_146 (by decide) ?_
                refine g_istore (n := 152) (ls' := [(4, .int 1), (3, .int 1), (6, .int 0), (0, .ref 18), (1, .int x1), (2, .int x2), (5, .int x5)]) d_M_isCalled_150 rfl (am_ltb rfl) rfl ?_
                refine g_iinc (n := 155) (v := (x5 + 1)) (ls' := [(5, .int (x5 + 1)), (4, .int 1), (3, .int 1), (6, .int 0), (0, .ref 18), (1, .int x1), (2, .int x2)]) d_M_isCalled_152 rfl 6 rfl rfl (am_ltb rfl) rfl ?_
                refine g_goto (n := 51) d_M_isCalled_155 (by decide) ?_
                refine g_ls [4, 5, 6, 2, 1, 0] rfl ?_
                exact ih ty mh dk ml x1 x2 1 1 (x5 + 1) _ hf _ rfl
              · have hf := ob_neg q37 hf
                refine g_aload_n (n := 123) d_M_isCalled_122 rfl 2 rfl rfl ?_
                refine g_aload_n (n := 124) d_M_isCalled_123 rfl 2 rfl rfl ?_
                refine g_get (n := 127) (q0 := 18) d_M_isCalled_124 rfl (am_fl in_M rfl (by decide : 9 < 20)) (List.mem_cons_of_mem _ tw_874) rfl rfl ?_
                refine g_iload_n (n := 128) d_M_isCalled_127 rfl 3 rfl rfl ?_
                refine g_iload (n := 130) d_M_isCalled_128 rfl 6 rfl ?_
                obtain ⟨r39, h40, hf⟩ := ob_bind hf
                refine c_Vr (n := 133) (st' := [.int r39]) [.int mh, .int x1, .int x5] [] d_M_isCalled_130 rfl (s_M_letter htr h40 rfl) tw_995 tw_997 (am_memS 25 (by decide +kernel) (by decide +kernel)) tw_8 tw_998 hd_M_letter (by omega) (by decide) (ci := 7) rfl rfl rfl (Nat.le_of_ble_eq_true rfl) rfl rfl ?_
                obtain ⟨r41, h42, hf⟩ := ob_bind hf
                refine c_Sr (n := 136) (st' := [.int r41]) [.int r39] [] d_M_isCalled_133 rfl (s_M_capital htr h42 rfl) tw_988 tw_989 tw_8 tw_990 rfl hd_M_capital (by omega) (by decide) rfl (Nat.le_of_ble_eq_true rfl) rfl rfl ?_
                refine g_goto (n := 140) d_M_isCalled_136 (by decide) ?_
                refine g_iload (n := 142) d_M_isCalled_140 rfl 1 rfl ?_
                refine g_icmp_ne (n := 145) (tgt := 149) d_M_isCalled_142 rfl (by decide) (fun q43 => ?_) (fun q43 => ?_)
                · have hf := ob_neg q43 hf
                  refine g_iconst (n := 150) (v := 0) d_M_isCalled_149 rfl (by decide) ?_
                  refine g_istore (n := 152) (ls' := [(4, .int 0), (3, .int 1), (6, .int 0), (0, .ref 18), (1, .int x1), (2, .int x2), (5, .int x5)]) d_M_isCalled_150 rfl (am_ltb rfl) rfl ?_
                  refine g_iinc (n := 155) (v := (x5 + 1)) (ls' := [(5, .int (x5 + 1)), (4, .int 0), (3, .int 1), (6, .int 0), (0, .ref 18), (1, .int x1), (2, .int x2)]) d_M_isCalled_152 rfl 6 rfl rfl (am_ltb rfl) rfl ?_
                  refine g_goto (n := 51) d_M_isCalled_155 (by decide) ?_
                  refine g_ls [4, 5, 6, 2, 1, 0] rfl ?_
                  exact ih ty mh dk ml x1 x2 1 0 (x5 + 1) _ hf _ rfl
                · have hf := ob_pos q43 hf
                  refine g_iconst (n := 146) (v := 1) d_M_isCalled_145 rfl (by decide) ?_
                  refine g_goto (n := 150) d_M_isCalled_146 (by decide) ?_
                  refine g_istore (n := 152) (ls' := [(4, .int 1), (3, .int 1), (6, .int 0), (0, .ref 18), (1, .int x1), (2, .int x2), (5, .int x5)]) d_M_isCalled_150 rfl (am_ltb rfl) rfl ?_
                  refine g_iinc (n := 155) (v := (x5 + 1)) (ls' := [(5, .int (x5 + 1)), (4, .int 1), (3, .int 1), (6, .int 0), (0, .ref 18), (1, .int x1), (2, .int x2)]) d_M_isCalled_152 rfl 6 rfl rfl (am_ltb rfl) rfl ?_
                  refine g_goto (n := 51) d_M_isCalled_155 (by decide) ?_
                  refine g_ls [4, 5, 6, 2, 1, 0] rfl ?_
                  exact ih ty mh dk ml x1 x2 1 1 (x5 + 1) _ hf _ rfl
      · have hf := ob_neg q13 hf
        refine g_aload_n (n := 70) d_M_isCalled_69 rfl 0 rfl rfl ?_
        refine g_get (n := 73) (q0 := 18) d_M_isCalled_70 rfl (am_fl in_M rfl (by decide : 7 < 20)) (List.mem_cons_of_mem _ tw_872) rfl rfl ?_
        refine g_iload (n := 75) d_M_isCalled_73 rfl 5 rfl ?_
        obtain ⟨b44, hf⟩ := ob_chk hf
        refine g_iald (n := 76) (q0 := 20) d_M_isCalled_75 rfl rfl (am_inl b44) ?_
        obtain ⟨r45, h46, hf⟩ := ob_bind hf
        refine c_Sr (n := 79) (st' := [.int r45]) [.int (ml x5.toNatClampNeg)] [] d_M_isCalled_76 rfl (s_M_capital htr h46 rfl) tw_988 tw_989 tw_8 tw_990 rfl hd_M_capital (by omega) (by decide) rfl (Nat.le_of_ble_eq_true rfl) rfl rfl ?_
        refine g_goto (n := 83) d_M_isCalled_79 (by decide) ?_
        refine g_istore (n := 85) (ls' := [(6, .int r45), (0, .ref 18), (1, .int x1), (2, .int x2), (3, .int x3), (4, .int x4), (5, .int x5)]) d_M_isCalled_83 rfl (am_ltb rfl) rfl ?_
        refine g_iload_n (n := 86) d_M_isCalled_85 rfl 4 rfl rfl ?_
        refine g_if_eq (n := 89) (tgt := 108) d_M_isCalled_86 rfl (by decide) (fun q47 => ?_) (fun q47 => ?_)
        · have hf := ob_pos q47 hf
          refine g_iconst (n := 109) (v := 0) d_M_isCalled_108 rfl (by decide) ?_
          refine g_istore_n (n := 110) (ls' := [(3, .int 0), (6, .int r45), (0, .ref 18), (1, .int x1), (2, .int x2), (4, .int x4), (5, .int x5)]) d_M_isCalled_109 rfl rfl (am_ltb rfl) rfl ?_
          refine g_iload (n := 112) d_M_isCalled_110 rfl 5 rfl ?_
          refine g_if_eq (n := 115) (tgt := 149) d_M_isCalled_112 rfl (by decide) (fun q48 => ?_) (fun q48 => ?_)
          · have hf := ob_pos q48 hf
            refine g_iconst (n := 150) (v := 0) d_M_isCalled_149 rfl (by decide) ?_
            refine g_istore (n := 152) (ls' := [(4, .int 0), (3, .int 0), (6, .int r45), (0, .ref 18), (1, .int x1), (2, .int x2), (5, .int x5)]) d_M_isCalled_150 rfl (am_ltb rfl) rfl ?_
            refine g_iinc (n := 155) (v := (x5 + 1)) (ls' := [(5, .int (x5 + 1)), (4, .int 0), (3, .int 0), (6, .int r45), (0, .ref 18), (1, .int x1), (2, .int x2)]) d_M_isCalled_152 rfl 6 rfl rfl (am_ltb rfl) rfl ?_
            refine g_goto (n := 51) d_M_isCalled_155 (by decide) ?_
            refine g_ls [4, 5, 6, 2, 1, 0] rfl ?_
            exact ih ty mh dk ml x1 x2 0 0 (x5 + 1) _ hf _ rfl
          · have hf := ob_neg q48 hf
            refine g_iload (n := 117) d_M_isCalled_115 rfl 6 rfl ?_
            refine g_bipush (n := 119) (v := 26) d_M_isCalled_117 rfl (by decide) ?_
            refine g_icmp_ge (n := 122) (tgt := 139) d_M_isCalled_119 rfl (by decide) (fun q49 => ?_) (fun q49 => ?_)
            · have hf := ob_pos q49 hf
              refine g_iconst (n := 140) (v := 0) d_M_isCalled_139 rfl (by decide) ?_
              refine g_iload (n := 142) d_M_isCalled_140 rfl 1 rfl ?_
              refine g_icmp_ne (n := 145) (tgt := 149) d_M_isCalled_142 rfl (by decide) (fun q50 => ?_) (fun q50 => ?_)
              · have hf := ob_neg q50 hf
                refine g_iconst (n := 150) (v := 0) d_M_isCalled_149 rfl (by decide) ?_
                refine g_istore (n := 152) (ls' := [(4, .int 0), (3, .int 0), (6, .int r45), (0, .ref 18), (1, .int x1), (2, .int x2), (5, .int x5)]) d_M_isCalled_150 rfl (am_ltb rfl) rfl ?_
                refine g_iinc (n := 155) (v := (x5 + 1)) (ls' := [(5, .int (x5 + 1)), (4, .int 0), (3, .int 0), (6, .int r45), (0, .ref 18), (1, .int x1), (2, .int x2)]) d_M_isCalled_152 rfl 6 rfl rfl (am_ltb rfl) rfl ?_
                refine g_goto (n := 51) d_M_isCalled_155 (by decide) ?_
                refine g_ls [4, 5, 6, 2, 1, 0] rfl ?_
                exact ih ty mh dk ml x1 x2 0 0 (x5 + 1) _ hf _ rfl
              · have hf := ob_pos q50 hf
                refine g_iconst (n := 146) (v := 1) d_M_isCalled_145 rfl (by decide) ?_
                refine g_goto (n := 150) d_M_isCalled_146 (by decide) ?_
                refine g_istore (n := 152) (ls' := [(4, .int 1), (3, .int 0), (6, .int r45), (0, .ref 18), (1, .int x1), (2, .int x2), (5, .int x5)]) d_M_isCalled_150 rfl (am_ltb rfl) rfl ?_
                refine g_iinc (n := 155) (v := (x5 + 1)) (ls' := [(5, .int (x5 + 1)), (4, .int 1), (3, .int 0), (6, .int r45), (0, .ref 18), (1, .int x1), (2, .int x2)]) d_M_isCalled_152 rfl 6 rfl rfl (am_ltb rfl) rfl ?_
                refine g_goto (n := 51) d_M_isCalled_155 (by decide) ?_
                refine g_ls [4, 5, 6, 2, 1, 0] rfl ?_
                exact ih ty mh dk ml x1 x2 0 1 (x5 + 1) _ hf _ rfl
            · have hf := ob_neg q49 hf
              refine g_aload_n (n := 123) d_M_isCalled_122 rfl 2 rfl rfl ?_
              refine g_aload_n (n := 124) d_M_isCalled_123 rfl 2 rfl rfl ?_
              refine g_get (n := 127) (q0 := 18) d_M_isCalled_124 rfl (am_fl in_M rfl (by decide : 9 < 20)) (List.mem_cons_of_mem _ tw_874) rfl rfl ?_
              refine g_iload_n (n := 128) d_M_isCalled_127 rfl 3 rfl rfl ?_
              refine g_iload (n := 130) d_M_isCalled_128 rfl 6 rfl ?_
              obtain ⟨r51, h52, hf⟩ := ob_bind hf
              refine c_Vr (n := 133) (st' := [.int r51]) [.int mh, .int x1, .int x5] [] d_M_isCalled_130 rfl (s_M_letter htr h52 rfl) tw_995 tw_997 (am_memS 25 (by decide +kernel) (by decide +kernel)) tw_8 tw_998 hd_M_letter (by omega) (by decide) (ci := 7) rfl rfl rfl (Nat.le_of_ble_eq_true rfl) rfl rfl ?_
              obtain ⟨r53, h54, hf⟩ := ob_bind hf
              refine c_Sr (n := 136) (st' := [.int r53]) [.int r51] [] d_M_isCalled_133 rfl (s_M_capital htr h54 rfl) tw_988 tw_989 tw_8 tw_990 rfl hd_M_capital (by omega) (by decide) rfl (Nat.le_of_ble_eq_true rfl) rfl rfl ?_
              refine g_goto (n := 140) d_M_isCalled_136 (by decide) ?_
              refine g_iload (n := 142) d_M_isCalled_140 rfl 1 rfl ?_
              refine g_icmp_ne (n := 145) (tgt := 149) d_M_isCalled_142 rfl (by decide) (fun q55 => ?_) (fun q55 => ?_)
              · have hf := ob_neg q55 hf
                refine g_iconst (n := 150) (v := 0) d_M_isCalled_149 rfl (by decide) ?_
                refine g_istore (n := 152) (ls' := [(4, .int 0), (3, .int 0), (6, .int r45), (0, .ref 18), (1, .int x1), (2, .int x2), (5, .int x5)]) d_M_isCalled_150 rfl (am_ltb rfl) rfl ?_
                refine g_iinc (n := 155) (v := (x5 + 1)) (ls' := [(5, .int (x5 + 1)), (4, .int 0), (3, .int 0), (6, .int r45), (0, .ref 18), (1, .int x1), (2, .int x2)]) d_M_isCalled_152 rfl 6 rfl rfl (am_ltb rfl) rfl ?_
                refine g_goto (n := 51) d_M_isCalled_155 (by decide) ?_
                refine g_ls [4, 5, 6, 2, 1, 0] rfl ?_
                exact ih ty mh dk ml x1 x2 0 0 (x5 + 1) _ hf _ rfl
              · have hf := ob_pos q55 hf
                refine g_iconst (n := 146) (v := 1) d_M_isCalled_145 rfl (by decide) ?_
                refine g_goto (n := 150) d_M_isCalled_146 (by decide) ?_
                refine g_istore (n := 152) (ls' := [(4, .int 1), (3, .int 0), (6, .int r45), (0, .ref 18), (1, .int x1), (2, .int x2), (5, .int x5)]) d_M_isCalled_150 rfl (am_ltb rfl) rfl ?_
                refine g_iinc (n := 155) (v := (x5 + 1)) (ls' := [(5, .int (x5 + 1)), (4, .int 1), (3, .int 0), (6, .int r45), (0, .ref 18), (1, .int x1), (2, .int x2)]) d_M_isCalled_152 rfl 6 rfl rfl (am_ltb rfl) rfl ?_
                refine g_goto (n := 51) d_M_isCalled_155 (by decide) ?_
                refine g_ls [4, 5, 6, 2, 1, 0] rfl ?_
                exact ih ty mh dk ml x1 x2 0 1 (x5 + 1) _ hf _ rfl
        · have hf := ob_neg q47 hf
          refine g_aload_n (n := 90) d_M_isCalled_89 rfl 1 rfl rfl ?_
          refine g_iload_n (n := 91) d_M_isCalled_90 rfl 3 rfl rfl ?_
          refine g_iload (n := 93) d_M_isCalled_91 rfl 6 rfl ?_
          obtain ⟨r56, h57, hf⟩ := ob_bind hf
          refine c_Vr (n := 96) (st' := [.int r56]) [.int x2, .int x5] [] d_M_isCalled_93 rfl (s_M_shortLetter htr h57 rfl) tw_991 tw_993 (am_memS 24 (by decide +kernel) (by decide +kernel)) tw_8 tw_994 hd_M_shortLetter (by omega) (by decide) (ci := 7) rfl rfl rfl (Nat.le_of_ble_eq_true rfl) rfl rfl ?_
          obtain ⟨r58, h59, hf⟩ := ob_bind hf
          refine c_Sr (n := 99) (st' := [.int r58]) [.int r56] [] d_M_isCalled_96 rfl (s_M_capital htr h59 rfl) tw_988 tw_989 tw_8 tw_990 rfl hd_M_capital (by omega) (by decide) rfl (Nat.le_of_ble_eq_true rfl) rfl rfl ?_
          refine g_iload (n := 101) d_M_isCalled_99 rfl 0 rfl ?_
          refine g_icmp_ne (n := 104) (tgt := 108) d_M_isCalled_101 rfl (by decide) (fun q60 => ?_) (fun q60 => ?_)
          · have hf := ob_neg q60 hf
            refine g_iconst (n := 109) (v := 0) d_M_isCalled_108 rfl (by decide) ?_
            refine g_istore_n (n := 110) (ls' := [(3, .int 0), (6, .int r45), (0, .ref 18), (1, .int x1), (2, .int x2), (4, .int x4), (5, .int x5)]) d_M_isCalled_109 rfl rfl (am_ltb rfl) rfl ?_
            refine g_iload (n := 112) d_M_isCalled_110 rfl 5 rfl ?_
            refine g_if_eq (n := 115) (tgt := 149) d_M_isCalled_112 rfl (by decide) (fun q61 => ?_) (fun q61 => ?_)
            · have hf := ob_pos q61 hf
              refine g_iconst (n := 150) (v := 0) d_M_isCalled_149 rfl (by decide) ?_
              refine g_istore (n := 152) (ls' := [(4, .int 0), (3, .int 0), (6, .int r45), (0, .ref 18), (1, .int x1), (2, .int x2), (5, .int x5)]) d_M_isCalled_150 rfl (am_ltb rfl) rfl ?_
              refine g_iinc (n := 155) (v := (x5 + 1)) (ls' := [(5, .int (x5 + 1)), (4, .int 0), (3, .int 0), (6, .int r45), (0, .ref 18), (1, .int x1), (2, .int x2)]) d_M_isCalled_152 rfl 6 rfl rfl (am_ltb rfl) rfl ?_
              refine g_goto (n := 51) d_M_isCalled_155 (by decide) ?_
              refine g_ls [4, 5, 6, 2, 1, 0] rfl ?_
              exact ih ty mh dk ml x1 x2 0 0 (x5 + 1) _ hf _ rfl
            · have hf := ob_neg q61 hf
              refine g_iload (n := 117) d_M_isCalled_115 rfl 6 rfl ?_
              refine g_bipush (n := 119) (v := 26) d_M_isCalled_117 rfl (by decide) ?_
              refine g_icmp_ge (n := 122) (tgt := 139) d_M_isCalled_119 rfl (by decide) (fun q62 => ?_) (fun q62 => ?_)
              · have hf := ob_pos q62 hf
                refine g_iconst (n := 140) (v := 0) d_M_isCalled_139 rfl (by decide) ?_
                refine g_iload (n := 142) d_M_isCalled_140 rfl 1 rfl ?_
                refine g_icmp_ne (n := 145) (tgt := 149) d_M_isCalled_142 rfl (by decide) (fun q63 => ?_) (fun q63 => ?_)
                · have hf := ob_neg q63 hf
                  refine g_iconst (n := 150) (v := 0) d_M_isCalled_149 rfl (by decide) ?_
                  refine g_istore (n := 152) (ls' := [(4, .int 0), (3, .int 0), (6, .int r45), (0, .ref 18), (1, .int x1), (2, .int x2), (5, .int x5)]) d_M_isCalled_150 rfl (am_ltb rfl) rfl ?_
                  refine g_iinc (n := 155) (v := (x5 + 1)) (ls' := [(5, .int (x5 + 1)), (4, .int 0), (3, .int 0), (6, .int r45), (0, .ref 18), (1, .int x1), (2, .int x2)]) d_M_isCalled_152 rfl 6 rfl rfl (am_ltb rfl) rfl ?_
                  refine g_goto (n := 51) d_M_isCalled_155 (by decide) ?_
                  refine g_ls [4, 5, 6, 2, 1, 0] rfl ?_
                  exact ih ty mh dk ml x1 x2 0 0 (x5 + 1) _ hf _ rfl
                · have hf := ob_pos q63 hf
                  refine g_iconst (n := 146) (v := 1) d_M_isCalled_145 rfl (by decide) ?_
                  refine g_goto (n := 150) d_M_isCalled_146 (by decide) ?_
                  refine g_istore (n := 152) (ls' := [(4, .int 1), (3, .int 0), (6, .int r45), (0, .ref 18), (1, .int x1), (2, .int x2), (5, .int x5)]) d_M_isCalled_150 rfl (am_ltb rfl) rfl ?_
                  refine g_iinc (n := 155) (v := (x5 + 1)) (ls' := [(5, .int (x5 + 1)), (4, .int 1), (3, .int 0), (6, .int r45), (0, .ref 18), (1, .int x1), (2, .int x2)]) d_M_isCalled_152 rfl 6 rfl rfl (am_ltb rfl) rfl ?_
                  refine g_goto (n := 51) d_M_isCalled_155 (by decide) ?_
                  refine g_ls [4, 5, 6, 2, 1, 0] rfl ?_
                  exact ih ty mh dk ml x1 x2 0 1 (x5 + 1) _ hf _ rfl
              · have hf := ob_neg q62 hf
                refine g_aload_n (n := 123) d_M_isCalled_122 rfl 2 rfl rfl ?_
                refine g_aload_n (n := 124) d_M_isCalled_123 rfl 2 rfl rfl ?_
                refine g_get (n := 127) (q0 := 18) d_M_isCalled_124 rfl (am_fl in_M rfl (by decide : 9 < 20)) (List.mem_cons_of_mem _ tw_874) rfl rfl ?_
                refine g_iload_n (n := 128) d_M_isCalled_127 rfl 3 rfl rfl ?_
                refine g_iload (n := 130) d_M_isCalled_128 rfl 6 rfl ?_
                obtain ⟨r64, h65, hf⟩ := ob_bind hf
                refine c_Vr (n := 133) (st' := [.int r64]) [.int mh, .int x1, .int x5] [] d_M_isCalled_130 rfl (s_M_letter htr h65 rfl) tw_995 tw_997 (am_memS 25 (by decide +kernel) (by decide +kernel)) tw_8 tw_998 hd_M_letter (by omega) (by decide) (ci := 7) rfl rfl rfl (Nat.le_of_ble_eq_true rfl) rfl rfl ?_
                obtain ⟨r66, h67, hf⟩ := ob_bind hf
                refine c_Sr (n := 136) (st' := [.int r66]) [.int r64] [] d_M_isCalled_133 rfl (s_M_capital htr h67 rfl) tw_988 tw_989 tw_8 tw_990 rfl hd_M_capital (by omega) (by decide) rfl (Nat.le_of_ble_eq_true rfl) rfl rfl ?_
                refine g_goto (n := 140) d_M_isCalled_136 (by decide) ?_
                refine g_iload (n := 142) d_M_isCalled_140 rfl 1 rfl ?_
                refine g_icmp_ne (n := 145) (tgt := 149) d_M_isCalled_142 rfl (by decide) (fun q68 => ?_) (fun q68 => ?_)
                · have hf := ob_neg q68 hf
                  refine g_iconst (n := 150) (v := 0) d_M_isCalled_149 rfl (by decide) ?_
                  refine g_istore (n := 152) (ls' := [(4, .int 0), (3, .int 0), (6, .int r45), (0, .ref 18), (1, .int x1), (2, .int x2), (5, .int x5)]) d_M_isCalled_150 rfl (am_ltb rfl) rfl ?_
                  refine g_iinc (n := 155) (v := (x5 + 1)) (ls' := [(5, .int (x5 + 1)), (4, .int 0), (3, .int 0), (6, .int r45), (0, .ref 18), (1, .int x1), (2, .int x2)]) d_M_isCalled_152 rfl 6 rfl rfl (am_ltb rfl) rfl ?_
                  refine g_goto (n := 51) d_M_isCalled_155 (by decide) ?_
                  refine g_ls [4, 5, 6, 2, 1, 0] rfl ?_
                  exact ih ty mh dk ml x1 x2 0 0 (x5 + 1) _ hf _ rfl
                · have hf := ob_pos q68 hf
                  refine g_iconst (n := 146) (v := 1) d_M_isCalled_145 rfl (by decide) ?_
                  refine g_goto (n := 150) d_M_isCalled_146 (by decide) ?_
                  refine g_istore (n := 152) (ls' := [(4, .int 1), (3, .int 0), (6, .int r45), (0, .ref 18), (1, .int x1), (2, .int x2), (5, .int x5)]) d_M_isCalled_150 rfl (am_ltb rfl) rfl ?_
                  refine g_iinc (n := 155) (v := (x5 + 1)) (ls' := [(5, .int (x5 + 1)), (4, .int 1), (3, .int 0), (6, .int r45), (0, .ref 18), (1, .int x1), (2, .int x2)]) d_M_isCalled_152 rfl 6 rfl rfl (am_ltb rfl) rfl ?_
                  refine g_goto (n := 51) d_M_isCalled_155 (by decide) ?_
                  refine g_ls [4, 5, 6, 2, 1, 0] rfl ?_
                  exact ih ty mh dk ml x1 x2 0 1 (x5 + 1) _ hf _ rfl
          · have hf := ob_pos q60 hf
            refine g_iconst (n := 105) (v := 1) d_M_isCalled_104 rfl (by decide) ?_
            refine g_goto (n := 109) d_M_isCalled_105 (by decide) ?_
            refine g_istore_n (n := 110) (ls' := [(3, .int 1), (6, .int r45), (0, .ref 18), (1, .int x1), (2, .int x2), (4, .int x4), (5, .int x5)]) d_M_isCalled_109 rfl rfl (am_ltb rfl) rfl ?_
            refine g_iload (n := 112) d_M_isCalled_110 rfl 5 rfl ?_
            refine g_if_eq (n := 115) (tgt := 149) d_M_isCalled_112 rfl (by decide) (fun q69 => ?_) (fun q69 => ?_)
            · have hf := ob_pos q69 hf
              refine g_iconst (n := 150) (v := 0) d_M_isCalled_149 rfl (by decide) ?_
              refine g_istore (n := 152) (ls' := [(4, .int 0), (3, .int 1), (6, .int r45), (0, .ref 18), (1, .int x1), (2, .int x2), (5, .int x5)]) d_M_isCalled_150 rfl (am_ltb rfl) rfl ?_
              refine g_iinc (n := 155) (v := (x5 + 1)) (ls' := [(5, .int (x5 + 1)), (4, .int 0), (3, .int 1), (6, .int r45), (0, .ref 18), (1, .int x1), (2, .int x2)]) d_M_isCalled_152 rfl 6 rfl rfl (am_ltb rfl) rfl ?_
              refine g_goto (n := 51) d_M_isCalled_155 (by decide) ?_
              refine g_ls [4, 5, 6, 2, 1, 0] rfl ?_
              exact ih ty mh dk ml x1 x2 1 0 (x5 + 1) _ hf _ rfl
            · have hf := ob_neg q69 hf
              refine g_iload (n := 117) d_M_isCalled_115 rfl 6 rfl ?_
              refine g_bipush (n := 119) (v := 26) d_M_isCalled_117 rfl (by decide) ?_
              refine g_icmp_ge (n := 122) (tgt := 139) d_M_isCalled_119 rfl (by decide) (fun q70 => ?_) (fun q70 => ?_)
              · have hf := ob_pos q70 hf
                refine g_iconst (n := 140) (v := 0) d_M_isCalled_139 rfl (by decide) ?_
                refine g_iload (n := 142) d_M_isCalled_140 rfl 1 rfl ?_
                refine g_icmp_ne (n := 145) (tgt := 149) d_M_isCalled_142 rfl (by decide) (fun q71 => ?_) (fun q71 => ?_)
                · have hf := ob_neg q71 hf
                  refine g_iconst (n := 150) (v := 0) d_M_isCalled_149 rfl (by decide) ?_
                  refine g_istore (n := 152) (ls' := [(4, .int 0), (3, .int 1), (6, .int r45), (0, .ref 18), (1, .int x1), (2, .int x2), (5, .int x5)]) d_M_isCalled_150 rfl (am_ltb rfl) rfl ?_
                  refine g_iinc (n := 155) (v := (x5 + 1)) (ls' := [(5, .int (x5 + 1)), (4, .int 0), (3, .int 1), (6, .int r45), (0, .ref 18), (1, .int x1), (2, .int x2)]) d_M_isCalled_152 rfl 6 rfl rfl (am_ltb rfl) rfl ?_
                  refine g_goto (n := 51) d_M_isCalled_155 (by decide) ?_
                  refine g_ls [4, 5, 6, 2, 1, 0] rfl ?_
                  exact ih ty mh dk ml x1 x2 1 0 (x5 + 1) _ hf _ rfl
                · have hf := ob_pos q71 hf
                  refine g_iconst (n := 146) (v := 1) d_M_isCalled_145 rfl (by decide) ?_
                  refine g_goto (n := 150) d_M_isCalled_146 (by decide) ?_
                  refine g_istore (n := 152) (ls' := [(4, .int 1), (3, .int 1), (6, .int r45), (0, .ref 18), (1, .int x1), (2, .int x2), (5, .int x5)]) d_M_isCalled_150 rfl (am_ltb rfl) rfl ?_
                  refine g_iinc (n := 155) (v := (x5 + 1)) (ls' := [(5, .int (x5 + 1)), (4, .int 1), (3, .int 1), (6, .int r45), (0, .ref 18), (1, .int x1), (2, .int x2)]) d_M_isCalled_152 rfl 6 rfl rfl (am_ltb rfl) rfl ?_
                  refine g_goto (n := 51) d_M_isCalled_155 (by decide) ?_
                  refine g_ls [4, 5, 6, 2, 1, 0] rfl ?_
                  exact ih ty mh dk ml x1 x2 1 1 (x5 + 1) _ hf _ rfl
              · have hf := ob_neg q70 hf
                refine g_aload_n (n := 123) d_M_isCalled_122 rfl 2 rfl rfl ?_
                refine g_aload_n (n := 124) d_M_isCalled_123 rfl 2 rfl rfl ?_
                refine g_get (n := 127) (q0 := 18) d_M_isCalled_124 rfl (am_fl in_M rfl (by decide : 9 < 20)) (List.mem_cons_of_mem _ tw_874) rfl rfl ?_
                refine g_iload_n (n := 128) d_M_isCalled_127 rfl 3 rfl rfl ?_
                refine g_iload (n := 130) d_M_isCalled_128 rfl 6 rfl ?_
                obtain ⟨r72, h73, hf⟩ := ob_bind hf
                refine c_Vr (n := 133) (st' := [.int r72]) [.int mh, .int x1, .int x5] [] d_M_isCalled_130 rfl (s_M_letter htr h73 rfl) tw_995 tw_997 (am_memS 25 (by decide +kernel) (by decide +kernel)) tw_8 tw_998 hd_M_letter (by omega) (by decide) (ci := 7) rfl rfl rfl (Nat.le_of_ble_eq_true rfl) rfl rfl ?_
                obtain ⟨r74, h75, hf⟩ := ob_bind hf
                refine c_Sr (n := 136) (st' := [.int r74]) [.int r72] [] d_M_isCalled_133 rfl (s_M_capital htr h75 rfl) tw_988 tw_989 tw_8 tw_990 rfl hd_M_capital (by omega) (by decide) rfl (Nat.le_of_ble_eq_true rfl) rfl rfl ?_
                refine g_goto (n := 140) d_M_isCalled_136 (by decide) ?_
                refine g_iload (n := 142) d_M_isCalled_140 rfl 1 rfl ?_
                refine g_icmp_ne (n := 145) (tgt := 149) d_M_isCalled_142 rfl (by decide) (fun q76 => ?_) (fun q76 => ?_)
                · have hf := ob_neg q76 hf
                  refine g_iconst (n := 150) (v := 0) d_M_isCalled_149 rfl (by decide) ?_
                  refine g_istore (n := 152) (ls' := [(4, .int 0), (3, .int 1), (6, .int r45), (0, .ref 18), (1, .int x1), (2, .int x2), (5, .int x5)]) d_M_isCalled_150 rfl (am_ltb rfl) rfl ?_
                  refine g_iinc (n := 155) (v := (x5 + 1)) (ls' := [(5, .int (x5 + 1)), (4, .int 0), (3, .int 1), (6, .int r45), (0, .ref 18), (1, .int x1), (2, .int x2)]) d_M_isCalled_152 rfl 6 rfl rfl (am_ltb rfl) rfl ?_
                  refine g_goto (n := 51) d_M_isCalled_155 (by decide) ?_
                  refine g_ls [4, 5, 6, 2, 1, 0] rfl ?_
                  exact ih ty mh dk ml x1 x2 1 0 (x5 + 1) _ hf _ rfl
                · have hf := ob_pos q76 hf
                  refine g_iconst (n := 146) (v := 1) d_M_isCalled_145 rfl (by decide) ?_
                  refine g_goto (n := 150) d_M_isCalled_146 (by decide) ?_
                  refine g_istore (n := 152) (ls' := [(4, .int 1), (3, .int 1), (6, .int r45), (0, .ref 18), (1, .int x1), (2, .int x2), (5, .int x5)]) d_M_isCalled_150 rfl (am_ltb rfl) rfl ?_
                  refine g_iinc (n := 155) (v := (x5 + 1)) (ls' := [(5, .int (x5 + 1)), (4, .int 1), (3, .int 1), (6, .int r45), (0, .ref 18), (1, .int x1), (2, .int x2)]) d_M_isCalled_152 rfl 6 rfl rfl (am_ltb rfl) rfl ?_
                  refine g_goto (n := 51) d_M_isCalled_155 (by decide) ?_
                  refine g_ls [4, 5, 6, 2, 1, 0] rfl ?_
                  exact ih ty mh dk ml x1 x2 1 1 (x5 + 1) _ hf _ rfl
