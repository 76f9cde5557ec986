def f_Folder_indexOfNamed_L4 : Nat → (Nat → Int32) → Int32 → (Nat → Int32) → Int32 → Int32 → Int32 → Option (Int32)
  | 0, _, _, _, _, _, _ => none
  | fuel + 1, bt, ct, ad, x1, x2, x3 =>
  (if ct ≤ x3 then some (-1) else ((f_Folder_isNamed bt ct ad x3).bind fun r2 => (if r2 = 0 then f_Folder_indexOfNamed_L4 fuel bt ct ad x1 x2 (x3 + 1) else (if x2 = x1 then some x3 else f_Folder_indexOfNamed_L4 fuel bt ct ad x1 (x2 + 1) (x3 + 1)))))
set_option maxHeartbeats 4000000 in
set_option maxRecDepth 100000 in
theorem s_Folder_indexOfNamed_L4 {l : Launch} {D : va_G} {dA : FieldType → ClassId} (htr : l.stackTraces = false) {rest : List am_E} {ll : Int32} {he : Int32} {de : Int32} {li : Nat → Int32} {en : Nat → Int32} {po : Nat → Int32} {pw : Int32} {su : Int32} {wr : Int32} {cs : Int32} {wb : Int32} {lc : Int32} {ctb : Int32} {lcb : Int32} {adb : Nat → Int32} {fx : Int32} {us : Nat → Int32} {ln : Int32} {pt : Int32} {tx : Nat → Int32} {br : Nat → Int32} {rw : Nat → Int32}  : ∀ (fuel : Nat) (bt : Nat → Int32) (ct : Int32) (ad : Nat → Int32) (x1 : Int32) (x2 : Int32) (x3 : Int32) (r : Int32), f_Folder_indexOfNamed_L4 fuel bt ct ad x1 x2 x3 = some r → ∀ o : am_O, .inl (some (.int r)) = o →
    am_G (am_kk l D dA) (ws_Folder_indexOfNamed, y_Folder_indexOfNamed.cls, prog_3_method_13_code, 4, (some .int), y_Folder_indexOfNamed.name, [], am_rm 3 (o), none) o (hC ll he de li en po pw su wr cs wb bt ct lc ad ctb lcb adb fx us ln pt tx br rw rest) 0 0 4 [(0, .ref 8), (1, .int x1), (2, .int x2), (3, .int x3)] [] (hC ll he de li en po pw su wr cs wb bt ct lc ad ctb lcb adb fx us ln pt tx br rw rest) := by
  intro fuel
  induction fuel with
  | zero =>
    intro bt ct ad x1 x2 x3 r hf
    cases hf
  | succ fuel ih =>
    intro bt ct ad x1 x2 x3 r hf o ho
    subst ho
    rw [f_Folder_indexOfNamed_L4] at hf
    refine g_iload_n (n := 5) d_Folder_indexOfNamed_4 rfl 3 rfl rfl ?_
    refine g_aload_n (n := 6) d_Folder_indexOfNamed_5 rfl 0 rfl rfl ?_
    refine g_get (n := 9) (q0 := 8) d_Folder_indexOfNamed_6 rfl (am_fl in_Folder rfl (by decide : 3 < 5)) (List.mem_cons_of_mem _ tw_112) rfl rfl ?_
    refine g_icmp_ge (n := 12) (tgt := 36) d_Folder_indexOfNamed_9 rfl (by decide) (fun q1 => ?_) (fun q1 => ?_)
    · have hf := ob_pos q1 hf
      refine g_iconst (n := 37) (v := (-1)) d_Folder_indexOfNamed_36 rfl (by decide) ?_
      cases hf
      exact g_iret d_Folder_indexOfNamed_37 rfl (Nat.zero_le _) (Nat.zero_le _)
    · have hf := ob_neg q1 hf
      refine g_aload_n (n := 13) d_Folder_indexOfNamed_12 rfl 0 rfl rfl ?_
      refine g_iload_n (n := 14) d_Folder_indexOfNamed_13 rfl 3 rfl rfl ?_
      obtain ⟨r2, h3, hf⟩ := ob_bind hf
      refine c_Vr (n := 17) (st' := [.int r2]) [.int x3] [] d_Folder_indexOfNamed_14 rfl (s_Folder_isNamed htr h3 rfl) tw_431 tw_432 tw_433 tw_5 tw_434 hd_Folder_isNamed (by omega) (by decide) (ci := 1) rfl rfl rfl (Nat.le_of_ble_eq_true rfl) rfl rfl ?_
      refine g_if_eq (n := 20) (tgt := 30) d_Folder_indexOfNamed_17 rfl (by decide) (fun q4 => ?_) (fun q4 => ?_)
      · have hf := ob_pos q4 hf
        refine g_iinc (n := 33) (v := (x3 + 1)) (ls' := [(3, .int (x3 + 1)), (0, .ref 8), (1, .int x1), (2, .int x2)]) d_Folder_indexOfNamed_30 rfl 3 rfl rfl (am_ltb rfl) rfl ?_
        refine g_goto (n := 4) d_Folder_indexOfNamed_33 (by decide) ?_
        refine g_ls [1, 2, 3, 0] rfl ?_
        exact ih bt ct ad x1 x2 (x3 + 1) _ hf _ rfl
      · have hf := ob_neg q4 hf
        refine g_iload_n (n := 21) d_Folder_indexOfNamed_20 rfl 2 rfl rfl ?_
        refine g_iload_n (n := 22) d_Folder_indexOfNamed_21 rfl 1 rfl rfl ?_
        refine g_icmp_ne (n := 25) (tgt := 27) d_Folder_indexOfNamed_22 rfl (by decide) (fun q5 => ?_) (fun q5 => ?_)
        · have hf := ob_neg q5 hf
          refine g_iinc (n := 30) (v := (x2 + 1)) (ls' := [(2, .int (x2 + 1)), (0, .ref 8), (1, .int x1), (3, .int x3)]) d_Folder_indexOfNamed_27 rfl 2 rfl rfl (am_ltb rfl) rfl ?_
          refine g_iinc (n := 33) (v := (x3 + 1)) (ls' := [(3, .int (x3 + 1)), (2, .int (x2 + 1)), (0, .ref 8), (1, .int x1)]) d_Folder_indexOfNamed_30 rfl 3 rfl rfl (am_ltb rfl) rfl ?_
          refine g_goto (n := 4) d_Folder_indexOfNamed_33 (by decide) ?_
          refine g_ls [2, 3, 1, 0] rfl ?_
          exact ih bt ct ad x1 (x2 + 1) (x3 + 1) _ hf _ rfl
        · have hf := ob_pos q5 hf
          refine g_iload_n (n := 26) d_Folder_indexOfNamed_25 rfl 3 rfl rfl ?_
          cases hf
          exact g_iret d_Folder_indexOfNamed_26 rfl (Nat.zero_le _) (Nat.zero_le _)
def f_Folder_indexOfNamed (bt : Nat → Int32) (ct : Int32) (ad : Nat → Int32) (x1 : Int32) : Option (Int32) :=
  f_Folder_indexOfNamed_L4 100000000000 bt ct ad x1 0 0
set_option maxHeartbeats 4000000 in
set_option maxRecDepth 100000 in
theorem s_Folder_indexOfNamed {l : Launch} {D : va_G} {dA : FieldType → ClassId} (htr : l.stackTraces = false) {rest : List am_E} {ll : Int32} {he : Int32} {de : Int32} {li : Nat → Int32} {en : Nat → Int32} {po : Nat → Int32} {pw : Int32} {su : Int32} {wr : Int32} {cs : Int32} {wb : Int32} {bt : Nat → Int32} {ct : Int32} {lc : Int32} {ad : Nat → Int32} {ctb : Int32} {lcb : Int32} {adb : Nat → Int32} {fx : Int32} {us : Nat → Int32} {ln : Int32} {pt : Int32} {tx : Nat → Int32} {br : Nat → Int32} {rw : Nat → Int32}  {x1 : Int32} {r : Int32} (hf : f_Folder_indexOfNamed bt ct ad x1 = some r) {o : am_O} (ho : .inl (some (.int r)) = o) :
    am_M (am_kk l D dA) y_Folder_indexOfNamed ws_Folder_indexOfNamed (am_rm 3 o) [.ref 8, .int x1] (hC ll he de li en po pw su wr cs wb bt ct lc ad ctb lcb adb fx us ln pt tx br rw rest) o (hC ll he de li en po pw su wr cs wb bt ct lc ad ctb lcb adb fx us ln pt tx br rw rest) := by
  subst ho
  refine am_body (by decide) rfl (Nat.le_of_ble_eq_true rfl) rfl ?_
  rw [f_Folder_indexOfNamed] at hf
  refine g_iconst (n := 1) (v := 0) d_Folder_indexOfNamed_0 rfl (by decide) ?_
  refine g_istore_n (n := 2) (ls' := [(2, .int 0), (0, .ref 8), (1, .int x1)]) d_Folder_indexOfNamed_1 rfl rfl (am_ltb rfl) rfl ?_
  refine g_iconst (n := 3) (v := 0) d_Folder_indexOfNamed_2 rfl (by decide) ?_
  refine g_istore_n (n := 4) (ls' := [(3, .int 0), (2, .int 0), (0, .ref 8), (1, .int x1)]) d_Folder_indexOfNamed_3 rfl rfl (am_ltb rfl) rfl ?_
  refine g_ls [2, 3, 1, 0] rfl ?_
  exact s_Folder_indexOfNamed_L4 htr 100000000000 bt ct ad x1 0 0 _ hf _ rfl
def f_V_canBeListed (x0 : Int32) : Option (Int32) :=
  (if x0 < 0 then (if x0 < 10 then (if x0 < 20 then some 0 else (if 46 ≤ x0 then some 0 else some 1)) else (if x0 < 16 then some 1 else (if x0 < 20 then some 0 else (if 46 ≤ x0 then some 0 else some 1)))) else (if x0 ≤ 3 then some 1 else (if x0 < 10 then (if x0 < 20 then some 0 else (if 46 ≤ x0 then some 0 else some 1)) else (if x0 < 16 then some 1 else (if x0 < 20 then some 0 else (if 46 ≤ x0 then some 0 else some 1))))))
set_option maxHeartbeats 4000000 in
set_option maxRecDepth 100000 in
theorem s_V_canBeListed {l : Launch} {D : va_G} {dA : FieldType → ClassId} (htr : l.stackTraces = false) {rest : List am_E} {ll : Int32} {he : Int32} {de : Int32} {li : Nat → Int32} {en : Nat → Int32} {po : Nat → Int32} {pw : Int32} {su : Int32} {wr : Int32} {cs : Int32} {wb : Int32} {bt : Nat → Int32} {ct : Int32} {lc : Int32} {ad : Nat → Int32} {ctb : Int32} {lcb : Int32} {adb : Nat → Int32} {fx : Int32} {us : Nat → Int32} {ln : Int32} {pt : Int32} {tx : Nat → Int32} {br : Nat → Int32} {rw : Nat → Int32}  {x0 : Int32} {r : Int32} (hf : f_V_canBeListed x0 = some r) {o : am_O} (ho : .inl (some (.int r)) = o) :
    am_M (am_kk l D dA) y_V_canBeListed ws_V_canBeListed (am_rm 0 o) [.int x0] (hC ll he de li en po pw su wr cs wb bt ct lc ad ctb lcb adb fx us ln pt tx br rw rest) o (hC ll he de li en po pw su wr cs wb bt ct lc ad ctb lcb adb fx us ln pt tx br rw rest) := by
  subst ho
  refine am_body (by decide) rfl (Nat.le_of_ble_eq_true rfl) rfl ?_
  rw [f_V_canBeListed] at hf
  refine g_iload_n (n := 1) d_V_canBeListed_0 rfl 0 rfl rfl ?_
  refine g_if_lt (n := 4) (tgt := 9) d_V_canBeListed_1 rfl (by decide) (fun q1 => ?_) (fun q1 => ?_)
  · have hf := ob_pos q1 hf
    refine g_iload_n (n := 10) d_V_canBeListed_9 rfl 0 rfl rfl ?_
    refine g_bipush (n := 12) (v := 10) d_V_canBeListed_10 rfl (by decide) ?_
    refine g_icmp_lt (n := 15) (tgt := 21) d_V_canBeListed_12 rfl (by decide) (fun q2 => ?_) (fun q2 => ?_)
    · have hf := ob_pos q2 hf
      refine g_iload_n (n := 22) d_V_canBeListed_21 rfl 0 rfl rfl ?_
      refine g_bipush (n := 24) (v := 20) d_V_canBeListed_22 rfl (by decide) ?_
      refine g_icmp_lt (n := 27) (tgt := 37) d_V_canBeListed_24 rfl (by decide) (fun q3 => ?_) (fun q3 => ?_)
      · have hf := ob_pos q3 hf
        refine g_iconst (n := 38) (v := 0) d_V_canBeListed_37 rfl (by decide) ?_
        cases hf
        exact g_zret d_V_canBeListed_38 rfl am_z0 (Nat.zero_le _) (Nat.zero_le _)
      · have hf := ob_neg q3 hf
        refine g_iload_n (n := 28) d_V_canBeListed_27 rfl 0 rfl rfl ?_
        refine g_bipush (n := 30) (v := 46) d_V_canBeListed_28 rfl (by decide) ?_
        refine g_icmp_ge (n := 33) (tgt := 37) d_V_canBeListed_30 rfl (by decide) (fun q4 => ?_) (fun q4 => ?_)
        · have hf := ob_pos q4 hf
          refine g_iconst (n := 38) (v := 0) d_V_canBeListed_37 rfl (by decide) ?_
          cases hf
          exact g_zret d_V_canBeListed_38 rfl am_z0 (Nat.zero_le _) (Nat.zero_le _)
        · have hf := ob_neg q4 hf
          refine g_iconst (n := 34) (v := 1) d_V_canBeListed_33 rfl (by decide) ?_
          refine g_goto (n := 38) d_V_canBeListed_34 (by decide) ?_
          cases hf
          exact g_zret d_V_canBeListed_38 rfl am_z1 (Nat.zero_le _) (Nat.zero_le _)
    · have hf := ob_neg q2 hf
      refine g_iload_n (n := 16) d_V_canBeListed_15 rfl 0 rfl rfl ?_
      refine g_bipush (n := 18) (v := 16) d_V_canBeListed_16 rfl (by decide) ?_
      refine g_icmp_lt (n := 21) (tgt := 33) d_V_canBeListed_18 rfl (by decide) (fun q5 => ?_) (fun q5 => ?_)
      · have hf := ob_pos q5 hf
        refine g_iconst (n := 34) (v := 1) d_V_canBeListed_33 rfl (by decide) ?_
        refine g_goto (n := 38) d_V_canBeListed_34 (by decide) ?_
        cases hf
        exact g_zret d_V_canBeListed_38 rfl am_z1 (Nat.zero_le _) (Nat.zero_le _)
      · have hf := ob_neg q5 hf
        refine g_iload_n (n := 22) d_V_canBeListed_21 rfl 0 rfl rfl ?_
        refine g_bipush (n := 24) (v := 20) d_V_canBeListed_22 rfl (by decide) ?_
        refine g_icmp_lt (n := 27) (tgt := 37) d_V_canBeListed_24 rfl (by decide) (fun q6 => ?_) (fun q6 => ?_)
        · have hf := ob_pos q6 hf
          refine g_iconst (n := 38) (v := 0) d_V_canBeListed_37 rfl (by decide) ?_
          cases hf
          exact g_zret d_V_canBeListed_38 rfl am_z0 (Nat.zero_le _) (Nat.zero_le _)
        · have hf := ob_neg q6 hf
          refine g_iload_n (n := 28) d_V_canBeListed_27 rfl 0 rfl rfl ?_
          refine g_bipush (n := 30) (v := 46) d_V_canBeListed_28 rfl (by decide) ?_
          refine g_icmp_ge (n := 33) (tgt := 37) d_V_canBeListed_30 rfl (by decide) (fun q7 => ?_) (fun q7 => ?_)
          · have hf := ob_pos q7 hf
            refine g_iconst (n := 38) (v := 0) d_V_canBeListed_37 rfl (by decide) ?_
            cases hf
            exact g_zret d_V_canBeListed_38 rfl am_z0 (Nat.zero_le _) (Nat.zero_le _)
          · have hf := ob_neg q7 hf
            refine g_iconst (n := 34) (v := 1) d_V_canBeListed_33 rfl (by decide) ?_
            refine g_goto (n := 38) d_V_canBeListed_34 (by decide) ?_
            cases hf
            exact g_zret d_V_canBeListed_38 rfl am_z1 (Nat.zero_le _) (Nat.zero_le _)
  · have hf := ob_neg q1 hf
    refine g_iload_n (n := 5) d_V_canBeListed_4 rfl 0 rfl rfl ?_
    refine g_iconst (n := 6) (v := 3) d_V_canBeListed_5 rfl (by decide) ?_
    refine g_icmp_le (n := 9) (tgt := 33) d_V_canBeListed_6 rfl (by decide) (fun q8 => ?_) (fun q8 => ?_)
    · have hf := ob_pos q8 hf
      refine g_iconst (n := 34) (v := 1) d_V_canBeListed_33 rfl (by decide) ?_
      refine g_goto (n := 38) d_V_canBeListed_34 (by decide) ?_
      cases hf
      exact g_zret d_V_canBeListed_38 rfl am_z1 (Nat.zero_le _) (Nat.zero_le _)
    · have hf := ob_neg q8 hf
      refine g_iload_n (n := 10) d_V_canBeListed_9 rfl 0 rfl rfl ?_
      refine g_bipush (n := 12) (v := 10) d_V_canBeListed_10 rfl (by decide) ?_
      refine g_icmp_lt (n := 15) (tgt := 21) d_V_canBeListed_12 rfl (by decide) (fun q9 => ?_) (fun q9 => ?_)
      · have hf := ob_pos q9 hf
        refine g_iload_n (n := 22) d_V_canBeListed_21 rfl 0 rfl rfl ?_
        refine g_bipush (n := 24) (v := 20) d_V_canBeListed_22 rfl (by decide) ?_
        refine g_icmp_lt (n := 27) (tgt := 37) d_V_canBeListed_24 rfl (by decide) (fun q10 => ?_) (fun q10 => ?_)
        · have hf := ob_pos q10 hf
          refine g_iconst (n := 38) (v := 0) d_V_canBeListed_37 rfl (by decide) ?_
          cases hf
          exact g_zret d_V_canBeListed_38 rfl am_z0 (Nat.zero_le _) (Nat.zero_le _)
        · have hf := ob_neg q10 hf
          refine g_iload_n (n := 28) d_V_canBeListed_27 rfl 0 rfl rfl ?_
          refine g_bipush (n := 30) (v := 46) d_V_canBeListed_28 rfl (by decide) ?_
          refine g_icmp_ge (n := 33) (tgt := 37) d_V_canBeListed_30 rfl (by decide) (fun q11 => ?_) (fun q11 => ?_)
          · have hf := ob_pos q11 hf
            refine g_iconst (n := 38) (v := 0) d_V_canBeListed_37 rfl (by decide) ?_
            cases hf
            exact g_zret d_V_canBeListed_38 rfl am_z0 (Nat.zero_le _) (Nat.zero_le _)
          · have hf := ob_neg q11 hf
            refine g_iconst (n := 34) (v := 1) d_V_canBeListed_33 rfl (by decide) ?_
            refine g_goto (n := 38) d_V_canBeListed_34 (by decide) ?_
            cases hf
            exact g_zret d_V_canBeListed_38 rfl am_z1 (Nat.zero_le _) (Nat.zero_le _)
      · have hf := ob_neg q9 hf
        refine g_iload_n (n := 16) d_V_canBeListed_15 rfl 0 rfl rfl ?_
        refine g_bipush (n := 18) (v := 16) d_V_canBeListed_16 rfl (by decide) ?_
        refine g_icmp_lt (n := 21) (tgt := 33) d_V_canBeListed_18 rfl (by decide) (fun q12 => ?_) (fun q12 => ?_)
        · have hf := ob_pos q12 hf
          refine g_iconst (n := 34) (v := 1) d_V_canBeListed_33 rfl (by decide) ?_
          refine g_goto (n := 38) d_V_canBeListed_34 (by decide) ?_
          cases hf
          exact g_zret d_V_canBeListed_38 rfl am_z1 (Nat.zero_le _) (Nat.zero_le _)
        · have hf := ob_neg q12 hf
          refine g_iload_n (n := 22) d_V_canBeListed_21 rfl 0 rfl rfl ?_
          refine g_bipush (n := 24) (v := 20) d_V_canBeListed_22 rfl (by decide) ?_
          refine g_icmp_lt (n := 27) (tgt := 37) d_V_canBeListed_24 rfl (by decide) (fun q13 => ?_) (fun q13 => ?_)
          · have hf := ob_pos q13 hf
            refine g_iconst (n := 38) (v := 0) d_V_canBeListed_37 rfl (by decide) ?_
            cases hf
            exact g_zret d_V_canBeListed_38 rfl am_z0 (Nat.zero_le _) (Nat.zero_le _)
          · have hf := ob_neg q13 hf
            refine g_iload_n (n := 28) d_V_canBeListed_27 rfl 0 rfl rfl ?_
            refine g_bipush (n := 30) (v := 46) d_V_canBeListed_28 rfl (by decide) ?_
            refine g_icmp_ge (n := 33) (tgt := 37) d_V_canBeListed_30 rfl (by decide) (fun q14 => ?_) (fun q14 => ?_)
            · have hf := ob_pos q14 hf
              refine g_iconst (n := 38) (v := 0) d_V_canBeListed_37 rfl (by decide) ?_
              cases hf
              exact g_zret d_V_canBeListed_38 rfl am_z0 (Nat.zero_le _) (Nat.zero_le _)
            · have hf := ob_neg q14 hf
              refine g_iconst (n := 34) (v := 1) d_V_canBeListed_33 rfl (by decide) ?_
              refine g_goto (n := 38) d_V_canBeListed_34 (by decide) ?_
              cases hf
              exact g_zret d_V_canBeListed_38 rfl am_z1 (Nat.zero_le _) (Nat.zero_le _)
def f_Folder_shortCharOf (bt : Nat → Int32) (ct : Int32) (ad : Nat → Int32) (x1 : Int32) (x2 : Int32) : Option (Int32) :=
  ((f_Folder_shortLengthOf bt ct ad x1).bind fun r1 => (if r1 ≤ x2 then some (-1) else ((f_Folder_byteOf bt ct ad x1 x2).bind fun r4 => some r4)))
set_option maxHeartbeats 4000000 in
set_option maxRecDepth 100000 in
theorem s_Folder_shortCharOf {l : Launch} {D : va_G} {dA : FieldType → ClassId} (htr : l.stackTraces = false) {rest : List am_E} {ll : Int32} {he : Int32} {de : Int32} {li : Nat → Int32} {en : Nat → Int32} {po : Nat → Int32} {pw : Int32} {su : Int32} {wr : Int32} {cs : Int32} {wb : Int32} {bt : Nat → Int32} {ct : Int32} {lc : Int32} {ad : Nat → Int32} {ctb : Int32} {lcb : Int32} {adb : Nat → Int32} {fx : Int32} {us : Nat → Int32} {ln : Int32} {pt : Int32} {tx : Nat → Int32} {br : Nat → Int32} {rw : Nat → Int32}  {x1 : Int32} {x2 : Int32} {r : Int32} (hf : f_Folder_shortCharOf bt ct ad x1 x2 = some r) {o : am_O} (ho : .inl (some (.int r)) = o) :
    am_M (am_kk l D dA) y_Folder_shortCharOf ws_Folder_shortCharOf (am_rm 3 o) [.ref 8, .int x1, .int x2] (hC ll he de li en po pw su wr cs wb bt ct lc ad ctb lcb adb fx us ln pt tx br rw rest) o (hC ll he de li en po pw su wr cs wb bt ct lc ad ctb lcb adb fx us ln pt tx br rw rest) := by
  subst ho
  refine am_body (by decide) rfl (Nat.le_of_ble_eq_true rfl) rfl ?_
  rw [f_Folder_shortCharOf] at hf
  refine g_iload_n (n := 1) d_Folder_shortCharOf_0 rfl 2 rfl rfl ?_
  refine g_aload_n (n := 2) d_Folder_shortCharOf_1 rfl 0 rfl rfl ?_
  refine g_iload_n (n := 3) d_Folder_shortCharOf_2 rfl 1 rfl rfl ?_
  obtain ⟨r1, h2, hf⟩ := ob_bind hf
  refine c_Vr (n := 6) (st' := [.int r1, .int x2]) [.int x1] [.int x2] d_Folder_shortCharOf_3 rfl (s_Folder_shortLengthOf htr h2 rfl) tw_443 tw_444 tw_445 tw_5 tw_446 hd_Folder_shortLengthOf (by omega) (by decide) (ci := 1) rfl rfl rfl (Nat.le_of_ble_eq_true rfl) rfl rfl ?_
  refine g_icmp_ge (n := 9) (tgt := 18) d_Folder_shortCharOf_6 rfl (by decide) (fun q3 => ?_) (fun q3 => ?_)
  · have hf := ob_pos q3 hf
    refine g_iconst (n := 19) (v := (-1)) d_Folder_shortCharOf_18 rfl (by decide) ?_
    cases hf
    exact g_iret d_Folder_shortCharOf_19 rfl (Nat.zero_le _) (Nat.zero_le _)
  · have hf := ob_neg q3 hf
    refine g_aload_n (n := 10) d_Folder_shortCharOf_9 rfl 0 rfl rfl ?_
    refine g_iload_n (n := 11) d_Folder_shortCharOf_10 rfl 1 rfl rfl ?_
    refine g_iload_n (n := 12) d_Folder_shortCharOf_11 rfl 2 rfl rfl ?_
    obtain ⟨r4, h5, hf⟩ := ob_bind hf
    refine c_Vr (n := 15) (st' := [.int r4]) [.int x1, .int x2] [] d_Folder_shortCharOf_12 rfl (s_Folder_byteOf htr h5 rfl) tw_426 tw_427 tw_428 tw_5 tw_429 hd_Folder_byteOf (by omega) (by decide) (ci := 1) rfl rfl rfl (Nat.le_of_ble_eq_true rfl) rfl rfl ?_
    refine g_goto (n := 19) d_Folder_shortCharOf_15 (by decide) ?_
    cases hf
    exact g_iret d_Folder_shortCharOf_19 rfl (Nat.zero_le _) (Nat.zero_le _)
def f_Folder_longCharOf (bt : Nat → Int32) (ct : Int32) (ad : Nat → Int32) (x1 : Int32) (x2 : Int32) : Option (Int32) :=
  ((f_Folder_partsOf bt ct ad x1).bind fun r1 => ((f_Folder_longLengthOf bt ct ad x1 r1).bind fun r3 => (if r3 ≤ x2 then some (-1) else ((f_Folder_longByteOf bt ct ad x1 x2).bind fun r6 => some r6))))
set_option maxHeartbeats 4000000 in
set_option maxRecDepth 100000 in
theorem s_Folder_longCharOf {l : Launch} {D : va_G} {dA : FieldType → ClassId} (htr : l.stackTraces = false) {rest : List am_E} {ll : Int32} {he : Int32} {de : Int32} {li : Nat → Int32} {en : Nat → Int32} {po : Nat → Int32} {pw : Int32} {su : Int32} {wr : Int32} {cs : Int32} {wb : Int32} {bt : Nat → Int32} {ct : Int32} {lc : Int32} {ad : Nat → Int32} {ctb : Int32} {lcb : Int32} {adb : Nat → Int32} {fx : Int32} {us : Nat → Int32} {ln : Int32} {pt : Int32} {tx : Nat → Int32} {br : Nat → Int32} {rw : Nat → Int32}  {x1 : Int32} {x2 : Int32} {r : Int32} (hf : f_Folder_longCharOf bt ct ad x1 x2 = some r) {o : am_O} (ho : .inl (some (.int r)) = o) :
    am_M (am_kk l D dA) y_Folder_longCharOf ws_Folder_longCharOf (am_rm 4 o) [.ref 8, .int x1, .int x2] (hC ll he de li en po pw su wr cs wb bt ct lc ad ctb lcb adb fx us ln pt tx br rw rest) o (hC ll he de li en po pw su wr cs wb bt ct lc ad ctb lcb adb fx us ln pt tx br rw rest) := by
  subst ho
  refine am_body (by decide) rfl (Nat.le_of_ble_eq_true rfl) rfl ?_
  rw [f_Folder_longCharOf] at hf
  refine g_iload_n (n := 1) d_Folder_longCharOf_0 rfl 2 rfl rfl ?_
  refine g_aload_n (n := 2) d_Folder_longCharOf_1 rfl 0 rfl rfl ?_
  refine g_iload_n (n := 3) d_Folder_longCharOf_2 rfl 1 rfl rfl ?_
  refine g_aload_n (n := 4) d_Folder_longCharOf_3 rfl 0 rfl rfl ?_
  refine g_iload_n (n := 5) d_Folder_longCharOf_4 rfl 1 rfl rfl ?_
  obtain ⟨r1, h2, hf⟩ := ob_bind hf
  refine c_Vr (n := 8) (st' := [.int r1, .int x1, .ref 8, .int x2]) [.int x1] [.int x1, .ref 8, .int x2] d_Folder_longCharOf_5 rfl (s_Folder_partsOf htr h2 rfl) tw_451 tw_452 tw_453 tw_5 tw_454 hd_Folder_partsOf (by omega) (by decide) (ci := 1) rfl rfl rfl (Nat.le_of_ble_eq_true rfl) rfl rfl ?_
  obtain ⟨r3, h4, hf⟩ := ob_bind hf
  refine c_Vr (n := 11) (st' := [.int r3, .int x2]) [.int x1, .int r1] [.int x2] d_Folder_longCharOf_8 rfl (s_Folder_longLengthOf htr h4 rfl) tw_470 tw_471 tw_472 tw_5 tw_473 hd_Folder_longLengthOf (by omega) (by decide) (ci := 1) rfl rfl rfl (Nat.le_of_ble_eq_true rfl) rfl rfl ?_
  refine g_icmp_ge (n := 14) (tgt := 23) d_Folder_longCharOf_11 rfl (by decide) (fun q5 => ?_) (fun q5 => ?_)
  · have hf := ob_pos q5 hf
    refine g_iconst (n := 24) (v := (-1)) d_Folder_longCharOf_23 rfl (by decide) ?_
    cases hf
    exact g_iret d_Folder_longCharOf_24 rfl (Nat.zero_le _) (Nat.zero_le _)
  · have hf := ob_neg q5 hf
    refine g_aload_n (n := 15) d_Folder_longCharOf_14 rfl 0 rfl rfl ?_
    refine g_iload_n (n := 16) d_Folder_longCharOf_15 rfl 1 rfl rfl ?_
    refine g_iload_n (n := 17) d_Folder_longCharOf_16 rfl 2 rfl rfl ?_
    obtain ⟨r6, h7, hf⟩ := ob_bind hf
    refine c_Vr (n := 20) (st' := [.int r6]) [.int x1, .int x2] [] d_Folder_longCharOf_17 rfl (s_Folder_longByteOf htr h7 rfl) tw_474 tw_475 tw_476 tw_5 tw_477 hd_Folder_longByteOf (by omega) (by decide) (ci := 1) rfl rfl rfl (Nat.le_of_ble_eq_true rfl) rfl rfl ?_
    refine g_goto (n := 24) d_Folder_longCharOf_20 (by decide) ?_
    cases hf
    exact g_iret d_Folder_longCharOf_24 rfl (Nat.zero_le _) (Nat.zero_le _)
def f_Folder_sizeOf (bt : Nat → Int32) (ct : Int32) (ad : Nat → Int32) (x1 : Int32) : Option (Int32) :=
  ((f_Folder_pairOf bt ct ad x1 10).bind fun r1 => some r1)
set_option maxHeartbeats 4000000 in
set_option maxRecDepth 100000 in
theorem s_Folder_sizeOf {l : Launch} {D : va_G} {dA : FieldType → ClassId} (htr : l.stackTraces = false) {rest : List am_E} {ll : Int32} {he : Int32} {de : Int32} {li : Nat → Int32} {en : Nat → Int32} {po : Nat → Int32} {pw : Int32} {su : Int32} {wr : Int32} {cs : Int32} {wb : Int32} {bt : Nat → Int32} {ct : Int32} {lc : Int32} {ad : Nat → Int32} {ctb : Int32} {lcb : Int32} {adb : Nat → Int32} {fx : Int32} {us : Nat → Int32} {ln : Int32} {pt : Int32} {tx : Nat → Int32} {br : Nat → Int32} {rw : Nat → Int32}  {x1 : Int32} {r : Int32} (hf : f_Folder_sizeOf bt ct ad x1 = some r) {o : am_O} (ho : .inl (some (.int r)) = o) :
    am_M (am_kk l D dA) y_Folder_sizeOf ws_Folder_sizeOf (am_rm 2 o) [.ref 8, .int x1] (hC ll he de li en po pw su wr cs wb bt ct lc ad ctb lcb adb fx us ln pt tx br rw rest) o (hC ll he de li en po pw su wr cs wb bt ct lc ad ctb lcb adb fx us ln pt tx br rw rest) := by
  subst ho
  refine am_body (by decide) rfl (Nat.le_of_ble_eq_true rfl) rfl ?_
  rw [f_Folder_sizeOf] at hf
  refine g_aload_n (n := 1) d_Folder_sizeOf_0 rfl 0 rfl rfl ?_
  refine g_iload_n (n := 2) d_Folder_sizeOf_1 rfl 1 rfl rfl ?_
  refine g_bipush (n := 4) (v := 10) d_Folder_sizeOf_2 rfl (by decide) ?_
  obtain ⟨r1, h2, hf⟩ := ob_bind hf
  refine c_Vr (n := 7) (st' := [.int r1]) [.int x1, .int 10] [] d_Folder_sizeOf_4 rfl (s_Folder_pairOf htr h2 rfl) tw_629 tw_630 tw_631 tw_5 tw_632 hd_Folder_pairOf (by omega) (by decide) (ci := 1) rfl rfl rfl (Nat.le_of_ble_eq_true rfl) rfl rfl ?_
  cases hf
  exact g_iret d_Folder_sizeOf_7 rfl (Nat.zero_le _) (Nat.zero_le _)
def f_V_list (he : Int32) (pw : Int32) (su : Int32) (bt : Nat → Int32) (ct : Int32) (lc : Int32) (ad : Nat → Int32) (x1 : Int32) (x2 : Int32) : Option ((String ⊕ Int32) × Int32 × Int32 × (Nat → Int32)) :=
  ((f_V_demandSoundDisk pw su).bind fun r1 => am_t r1 (fun E3 => some (.inl E3, ct, lc, ad)) (fun v4 => ((f_Folder_load bt ct lc ad he).bind fun r6 => ((f_Folder_indexOfNamed bt r6.1 r6.2.2 x1).bind fun r8 => (if r8 = (-1) then some (.inl "java/util/NoSuchElementException", r6.1, r6.2.1, r6.2.2) else ((f_V_canBeListed x2).bind fun r11 => (if r11 = 0 then some (.inl "java/lang/IndexOutOfBoundsException", r6.1, r6.2.1, r6.2.2) else (if x2 = 0 then ((f_Folder_kindOf bt r6.1 r6.2.2 r8).bind fun r15 => some (.inr r15, r6.1, r6.2.1, r6.2.2)) else (if x2 = 1 then ((f_Folder_sizeOf bt r6.1 r6.2.2 r8).bind fun r18 => some (.inr r18, r6.1, r6.2.1, r6.2.2)) else (if x2 = 2 then ((f_Folder_firstClusterOf bt r6.1 r6.2.2 r8).bind fun r21 => some (.inr r21, r6.1, r6.2.1, r6.2.2)) else (if x2 = 3 then ((f_Folder_partsOf bt r6.1 r6.2.2 r8).bind fun r24 => ((f_Folder_longLengthOf bt r6.1 r6.2.2 r8 r24).bind fun r26 => some (.inr r26, r6.1, r6.2.1, r6.2.2))) else (if 20 ≤ x2 then ((f_Folder_longCharOf bt r6.1 r6.2.2 r8 (x2 - 20)).bind fun r29 => some (.inr r29, r6.1, r6.2.1, r6.2.2)) else ((f_Folder_shortCharOf bt r6.1 r6.2.2 r8 (x2 - 10)).bind fun r31 => some (.inr r31, r6.1, r6.2.1, r6.2.2))))))))))))))
set_option maxHeartbeats 4000000 in
set_option maxRecDepth 100000 in
theorem s_V_list {l : Launch} {D : va_G} {dA : FieldType → ClassId} (htr : l.stackTraces = false) {rest : List am_E} {ll : Int32} {he : Int32} {de : Int32} {li : Nat → Int32} {en : Nat → Int32} {po : Nat → Int32} {pw : Int32} {su : Int32} {wr : Int32} {cs : Int32} {wb : Int32} {bt : Nat → Int32} {ct : Int32} {lc : Int32} {ad : Nat → Int32} {ctb : Int32} {lcb : Int32} {adb : Nat → Int32} {fx : Int32} {us : Nat → Int32} {ln : Int32} {pt : Int32} {tx : Nat → Int32} {br : Nat → Int32} {rw : Nat → Int32}  {x1 : Int32} {x2 : Int32} {r : (String ⊕ Int32) × Int32 × Int32 × (Nat → Int32)} (hf : f_V_list he pw su bt ct lc ad x1 x2 = some r) {o : am_O} (ho : am_oi r.1 = o) :
    am_M (am_kk l D dA) y_V_list ws_V_list (am_rm 5 o) [.ref 0, .int x1, .int x2] (hC ll he de li en po pw su wr cs wb bt ct lc ad ctb lcb adb fx us ln pt tx br rw rest) o (hC ll he de li en po pw su wr cs wb bt r.2.1 r.2.2.1 r.2.2.2 ctb lcb adb fx us ln pt tx br rw rest) := by
  subst ho
  refine am_body (by decide) rfl (Nat.le_of_ble_eq_true rfl) rfl ?_
  rw [f_V_list] at hf
  refine g_aload_n (n := 1) d_V_list_0 rfl 0 rfl rfl ?_
  obtain ⟨r1, h2, hf⟩ := ob_bind hf
  rcases ob_t hf with ⟨E3, w5, hf⟩ | ⟨v4, w5, hf⟩
  · cases hf
    refine c_Vx (n := 4) (st' := []) [] [] d_V_list_1 rfl (s_V_demandSoundDisk htr h2 (by rw [w5]; rfl)) tw_305 tw_307 (am_memS 1 (by decide +kernel) (by decide +kernel)) tw_1 tw_308 hd_V_demandSoundDisk (by omega) (by decide) (ci := 6) rfl rfl rfl (Nat.le_of_ble_eq_true rfl) rfl ?_
    exact g_out rfl (Nat.le_refl _) (Nat.le_refl _)
  · refine c_Vr (n := 4) (st' := []) [] [] d_V_list_1 rfl (s_V_demandSoundDisk htr h2 (by rw [w5]; rfl)) tw_305 tw_307 (am_memS 1 (by decide +kernel) (by decide +kernel)) tw_1 tw_308 hd_V_demandSoundDisk (by omega) (by decide) (ci := 6) rfl rfl rfl (Nat.le_of_ble_eq_true rfl) rfl rfl ?_
    refine g_aload_n (n := 5) d_V_list_4 rfl 0 rfl rfl ?_
    refine g_get (n := 8) (q0 := 0) d_V_list_5 rfl (am_fl in_V rfl (by decide : 3 < 8)) (List.mem_cons_of_mem _ tw_176) rfl rfl ?_
    refine g_aload_n (n := 9) d_V_list_8 rfl 0 rfl rfl ?_
    refine g_get (n := 12) (q0 := 0) d_V_list_9 rfl (am_fl in_V rfl (by decide : 0 < 8)) (List.mem_cons_of_mem _ tw_173) rfl rfl ?_
    refine g_getN (n := 15) (q0 := 1) d_V_list_12 rfl (am_fl in_Ses rfl (by decide : 4 < 6)) nw_45 rfl rfl ?_
    obtain ⟨r6, h7, hf⟩ := ob_bind hf
    refine c_Vr (n := 18) (st' := []) [.int he] [] d_V_list_15 rfl (s_Folder_load htr h7 rfl) tw_407 tw_408 tw_409 tw_5 tw_410 hd_Folder_load (by omega) (by decide) (ci := 1) rfl rfl rfl (Nat.le_of_ble_eq_true rfl) rfl rfl ?_
    refine g_aload_n (n := 19) d_V_list_18 rfl 0 rfl rfl ?_
    refine g_get (n := 22) (q0 := 0) d_V_list_19 rfl (am_fl in_V rfl (by decide : 3 < 8)) (List.mem_cons_of_mem _ tw_176) rfl rfl ?_
    refine g_iload_n (n := 23) d_V_list_22 rfl 1 rfl rfl ?_
    obtain ⟨r8, h9, hf⟩ := ob_bind hf
    refine c_Vr (n := 26) (st' := [.int r8]) [.int x1] [] d_V_list_23 rfl (s_Folder_indexOfNamed htr h9 rfl) tw_740 tw_741 tw_742 tw_5 tw_743 hd_Folder_indexOfNamed (by omega) (by decide) (ci := 1) rfl rfl rfl (Nat.le_of_ble_eq_true rfl) rfl rfl ?_
    refine g_istore_n (n := 27) (ls' := [(3, .int r8), (0, .ref 0), (1, .int x1), (2, .int x2)]) d_V_list_26 rfl rfl (am_ltb rfl) rfl ?_
    refine g_iload_n (n := 28) d_V_list_27 rfl 0 rfl rfl ?_
    refine g_iconst (n := 29) (v := (-1)) d_V_list_28 rfl (by decide) ?_
    refine g_icmp_ne (n := 32) (tgt := 42) d_V_list_29 rfl (by decide) (fun q10 => ?_) (fun q10 => ?_)
    · have hf := ob_neg q10 hf
      refine g_iload_n (n := 43) d_V_list_42 rfl 3 rfl rfl ?_
      obtain ⟨r11, h12, hf⟩ := ob_bind hf
      refine c_Sr (n := 46) (st' := [.int r11]) [.int x2] [] d_V_list_43 rfl (s_V_canBeListed htr h12 rfl) tw_745 tw_746 tw_1 tw_747 rfl hd_V_canBeListed (by omega) (by decide) rfl (Nat.le_of_ble_eq_true rfl) rfl rfl ?_
      refine g_if_ne (n := 49) (tgt := 59) d_V_list_46 rfl (by decide) (fun q13 => ?_) (fun q13 => ?_)
      · have hf := ob_neg q13 hf
        refine g_iload_n (n := 60) d_V_list_59 rfl 3 rfl rfl ?_
        by_cases q14 : x2 = 0
        · have hf := ob_pos q14 hf
          refine g_tabIn (n := 92) d_V_list_60 (by rw [q14]; decide) (by rw [q14]; decide) (by rw [q14]; rfl) (by decide) ?_
          refine g_aload_n (n := 93) d_V_list_92 rfl 1 rfl rfl ?_
          refine g_get (n := 96) (q0 := 0) d_V_list_93 rfl (am_fl in_V rfl (by decide : 3 < 8)) (List.mem_cons_of_mem _ tw_176) rfl rfl ?_
          refine g_iload_n (n := 97) d_V_list_96 rfl 0 rfl rfl ?_
          obtain ⟨r15, h16, hf⟩ := ob_bind hf
          refine c_Vr (n := 100) (st' := [.int r15]) [.int r8] [] d_V_list_97 rfl (s_Folder_kindOf htr h16 rfl) tw_620 tw_423 tw_424 tw_5 tw_425 hd_Folder_kindOf (by omega) (by decide) (ci := 1) rfl rfl rfl (Nat.le_of_ble_eq_true rfl) rfl rfl ?_
          cases hf
          exact g_iret d_V_list_100 rfl (Nat.zero_le _) (Nat.zero_le _)
        · have hf := ob_neg q14 hf
          by_cases q17 : x2 = 1
          · have hf := ob_pos q17 hf
            refine g_tabIn (n := 101) d_V_list_60 (by rw [q17]; decide) (by rw [q17]; decide) (by rw [q17]; rfl) (by decide) ?_
            refine g_aload_n (n := 102) d_V_list_101 rfl 1 rfl rfl ?_
            refine g_get (n := 105) (q0 := 0) d_V_list_102 rfl (am_fl in_V rfl (by decide : 3 < 8)) (List.mem_cons_of_mem _ tw_176) rfl rfl ?_
            refine g_iload_n (n := 106) d_V_list_105 rfl 0 rfl rfl ?_
            obtain ⟨r18, h19, hf⟩ := ob_bind hf
            refine c_Vr (n := 109) (st' := [.int r18]) [.int r8] [] d_V_list_106 rfl (s_Folder_sizeOf htr h19 rfl) tw_764 tw_765 tw_766 tw_5 tw_767 hd_Folder_sizeOf (by omega) (by decide) (ci := 1) rfl rfl rfl (Nat.le_of_ble_eq_true rfl) rfl rfl ?_
            cases hf
            exact g_iret d_V_list_109 rfl (Nat.zero_le _) (Nat.zero_le _)
          · have hf := ob_neg q17 hf
            by_cases q20 : x2 = 2
            · have hf := ob_pos q20 hf
              refine g_tabIn (n := 110) d_V_list_60 (by rw [q20]; decide) (by rw [q20]; decide) (by rw [q20]; rfl) (by decide) ?_
              refine g_aload_n (n := 111) d_V_list_110 rfl 1 rfl rfl ?_
              refine g_get (n := 114) (q0 := 0) d_V_list_111 rfl (am_fl in_V rfl (by decide : 3 < 8)) (List.mem_cons_of_mem _ tw_176) rfl rfl ?_
              refine g_iload_n (n := 115) d_V_list_114 rfl 0 rfl rfl ?_
              obtain ⟨r21, h22, hf⟩ := ob_bind hf
              refine c_Vr (n := 118) (st' := [.int r21]) [.int r8] [] d_V_list_115 rfl (s_Folder_firstClusterOf htr h22 rfl) tw_625 tw_626 tw_627 tw_5 tw_628 hd_Folder_firstClusterOf (by omega) (by decide) (ci := 1) rfl rfl rfl (Nat.le_of_ble_eq_true rfl) rfl rfl ?_
              cases hf
              exact g_iret d_V_list_118 rfl (Nat.zero_le _) (Nat.zero_le _)
            · have hf := ob_neg q20 hf
              by_cases q23 : x2 = 3
              · have hf := ob_pos q23 hf
                refine g_tabIn (n := 119) d_V_list_60 (by rw [q23]; decide) (by rw [q23]; decide) (by rw [q23]; rfl) (by decide) ?_
                refine g_aload_n (n := 120) d_V_list_119 rfl 1 rfl rfl ?_
                refine g_get (n := 123) (q0 := 0) d_V_list_120 rfl (am_fl in_V rfl (by decide : 3 < 8)) (List.mem_cons_of_mem _ tw_176) rfl rfl ?_
                refine g_iload_n (n := 124) d_V_list_123 rfl 0 rfl rfl ?_
                refine g_aload_n (n := 125) d_V_list_124 rfl 1 rfl rfl ?_
                refine g_get (n := 128) (q0 := 0) d_V_list_125 rfl (am_fl in_V rfl (by decide : 3 < 8)) (List.mem_cons_of_mem _ tw_176) rfl rfl ?_
                refine g_iload_n (n := 129) d_V_list_128 rfl 0 rfl rfl ?_
                obtain ⟨r24, h25, hf⟩ := ob_bind hf
                refine c_Vr (n := 132) (st' := [.int r24, .int r8, .ref 8]) [.int r8] [.int r8, .ref 8] d_V_list_129 rfl (s_Folder_partsOf htr h25 rfl) tw_768 tw_452 tw_453 tw_5 tw_454 hd_Folder_partsOf (by omega) (by decide) (ci := 1) rfl rfl rfl (Nat.le_of_ble_eq_true rfl) rfl rfl ?_
                obtain ⟨r26, h27, hf⟩ := ob_bind hf
                refine c_Vr (n := 135) (st' := [.int r26]) [.int r8, .int r24] [] d_V_list_132 rfl (s_Folder_longLengthOf htr h27 rfl) tw_769 tw_471 tw_472 tw_5 tw_473 hd_Folder_longLengthOf (by omega) (by decide) (ci := 1) rfl rfl rfl (Nat.le_of_ble_eq_true rfl) rfl rfl ?_
                cases hf
                exact g_iret d_V_list_135 rfl (Nat.zero_le _) (Nat.zero_le _)
              · have hf := ob_neg q23 hf
                refine g_tabOut (n := 136) d_V_list_60 (by have z0 := lv_neT q14 (a := 0) (by decide); have z1 := lv_neT q17 (a := 1) (by decide); have z2 := lv_neT q20 (a := 2) (by decide); have z3 := lv_neT q23 (a := 3) (by decide); omega) (by decide) ?_
                refine g_iload_n (n := 137) d_V_list_136 rfl 3 rfl rfl ?_
                refine g_bipush (n := 139) (v := 20) d_V_list_137 rfl (by decide) ?_
                refine g_icmp_ge (n := 142) (tgt := 157) d_V_list_139 rfl (by decide) (fun q28 => ?_) (fun q28 => ?_)
                · have hf := ob_pos q28 hf
                  refine g_aload_n (n := 158) d_V_list_157 rfl 1 rfl rfl ?_
                  refine g_get (n := 161) (q0 := 0) d_V_list_158 rfl (am_fl in_V rfl (by decide : 3 < 8)) (List.mem_cons_of_mem _ tw_176) rfl rfl ?_
                  refine g_iload_n (n := 162) d_V_list_161 rfl 0 rfl rfl ?_
                  refine g_iload_n (n := 163) d_V_list_162 rfl 3 rfl rfl ?_
                  refine g_bipush (n := 165) (v := 20) d_V_list_163 rfl (by decide) ?_
                  refine g_isub (n := 166) d_V_list_165 rfl ?_
                  obtain ⟨r29, h30, hf⟩ := ob_bind hf
                  refine c_Vr (n := 169) (st' := [.int r29]) [.int r8, .int (x2 - 20)] [] d_V_list_166 rfl (s_Folder_longCharOf htr h30 rfl) tw_774 tw_775 tw_776 tw_5 tw_777 hd_Folder_longCharOf (by omega) (by decide) (ci := 1) rfl rfl rfl (Nat.le_of_ble_eq_true rfl) rfl rfl ?_
                  cases hf
                  exact g_iret d_V_list_169 rfl (Nat.zero_le _) (Nat.zero_le _)
                · have hf := ob_neg q28 hf
                  refine g_aload_n (n := 143) d_V_list_142 rfl 1 rfl rfl ?_
                  refine g_get (n := 146) (q0 := 0) d_V_list_143 rfl (am_fl in_V rfl (by decide : 3 < 8)) (List.mem_cons_of_mem _ tw_176) rfl rfl ?_
                  refine g_iload_n (n := 147) d_V_list_146 rfl 0 rfl rfl ?_
                  refine g_iload_n (n := 148) d_V_list_147 rfl 3 rfl rfl ?_
                  refine g_bipush (n := 150) (v := 10) d_V_list_148 rfl (by decide) ?_
                  refine g_isub (n := 151) d_V_list_150 rfl ?_
                  obtain ⟨r31, h32, hf⟩ := ob_bind hf
                  refine c_Vr (n := 154) (st' := [.int r31]) [.int r8, .int (x2 - 10)] [] d_V_list_151 rfl (s_Folder_shortCharOf htr h32 rfl) tw_770 tw_771 tw_772 tw_5 tw_773 hd_Folder_shortCharOf (by omega) (by decide) (ci := 1) rfl rfl rfl (Nat.le_of_ble_eq_true rfl) rfl rfl ?_
                  refine g_goto (n := 169) d_V_list_154 (by decide) ?_
                  cases hf
                  exact g_iret d_V_list_169 rfl (Nat.zero_le _) (Nat.zero_le _)
      · have hf := ob_pos q13 hf
        cases hf
        exact c_T htr (by decide +kernel) e_IndexOutOfBoundsException_0 e_IndexOutOfBoundsException_1 e_IndexOutOfBoundsException_2 e_IndexOutOfBoundsException_5 tw_748 tw_17 rfl (List.mem_of_getElem? (i := 14) rfl) at_V_237 d_V_list_49 d_V_list_52 (Or.inl ⟨d_V_list_53, rfl⟩) d_V_list_55 d_V_list_58 (Nat.le_of_ble_eq_true rfl)
    · have hf := ob_pos q10 hf
      cases hf
      exact c_T htr (by decide +kernel) e_NoSuchElementException_0 e_NoSuchElementException_1 e_NoSuchElementException_2 e_NoSuchElementException_5 tw_600 tw_15 rfl (List.mem_of_getElem? (i := 13) rfl) at_V_132 d_V_list_32 d_V_list_35 (Or.inl ⟨d_V_list_36, rfl⟩) d_V_list_38 d_V_list_41 (Nat.le_of_ble_eq_true rfl)
def f_Disk_setCut (pw : Int32) (cs : Int32) (wb : Int32) (x1 : Int32) : Option (Int32 × Int32 × Int32) :=
  (if x1 < 0 then some (0, cs, wb) else (if pw = 0 then some (0, cs, wb) else some (1, 1, x1)))
set_option maxHeartbeats 4000000 in
set_option maxRecDepth 100000 in
theorem s_Disk_setCut {l : Launch} {D : va_G} {dA : FieldType → ClassId} (htr : l.stackTraces = false) {rest : List am_E} {ll : Int32} {he : Int32} {de : Int32} {li : Nat → Int32} {en : Nat → Int32} {po : Nat → Int32} {pw : Int32} {su : Int32} {wr : Int32} {cs : Int32} {wb : Int32} {bt : Nat → Int32} {ct : Int32} {lc : Int32} {ad : Nat → Int32} {ctb : Int32} {lcb : Int32} {adb : Nat → Int32} {fx : Int32} {us : Nat → Int32} {ln : Int32} {pt : Int32} {tx : Nat → Int32} {br : Nat → Int32} {rw : Nat → Int32}  {x1 : Int32} {r : Int32 × Int32 × Int32} (hf : f_Disk_setCut pw cs wb x1 = some r) {o : am_O} (ho : .inl (some (.int r.1)) = o) :
    am_M (am_kk l D dA) y_Disk_setCut ws_Disk_setCut (am_rm 0 o) [.ref 5, .int x1] (hC ll he de li en po pw su wr cs wb bt ct lc ad ctb lcb adb fx us ln pt tx br rw rest) o (hC ll he de li en po pw su wr r.2.1 r.2.2 bt ct lc ad ctb lcb adb fx us ln pt tx br rw rest) := by
  subst ho
  refine am_body (by decide) rfl (Nat.le_of_ble_eq_true rfl) rfl ?_
  rw [f_Disk_setCut] at hf
  refine g_iload_n (n := 1) d_Disk_setCut_0 rfl 1 rfl rfl ?_
  refine g_if_lt (n := 4) (tgt := 11) d_Disk_setCut_1 rfl (by decide) (fun q1 => ?_) (fun q1 => ?_)
  · have hf := ob_pos q1 hf
    refine g_iconst (n := 12) (v := 0) d_Disk_setCut_11 rfl (by decide) ?_
    cases hf
    exact g_zret d_Disk_setCut_12 rfl am_z0 (Nat.zero_le _) (Nat.zero_le _)
  · have hf := ob_neg q1 hf
    refine g_aload_n (n := 5) d_Disk_setCut_4 rfl 0 rfl rfl ?_
    refine g_get (n := 8) (q0 := 5) d_Disk_setCut_5 rfl (am_fl in_Disk rfl (by decide : 2 < 7)) (List.mem_cons_of_mem _ tw_71) rfl rfl ?_
    refine g_if_ne (n := 11) (tgt := 13) d_Disk_setCut_8 rfl (by decide) (fun q2 => ?_) (fun q2 => ?_)
    · have hf := ob_neg q2 hf
      refine g_aload_n (n := 14) d_Disk_setCut_13 rfl 0 rfl rfl ?_
      refine g_iconst (n := 15) (v := 1) d_Disk_setCut_14 rfl (by decide) ?_
      refine g_put (n := 18) (q0 := 5) (h' := (hC ll he de li en po pw su wr 1 wb bt ct lc ad ctb lcb adb fx us ln pt tx br rw rest)) d_Disk_setCut_15 rfl (am_fl in_Disk rfl (by decide : 5 < 7)) typ_Disk (List.mem_cons_of_mem _ tw_76) rfl (fun _ _ => rfl) (fun _ _ => rfl) rfl (am_ltb rfl) rfl ?_
      refine g_aload_n (n := 19) d_Disk_setCut_18 rfl 0 rfl rfl ?_
      refine g_iload_n (n := 20) d_Disk_setCut_19 rfl 1 rfl rfl ?_
      refine g_put (n := 23) (q0 := 5) (h' := (hC ll he de li en po pw su wr 1 x1 bt ct lc ad ctb lcb adb fx us ln pt tx br rw rest)) d_Disk_setCut_20 rfl (am_fl in_Disk rfl (by decide : 6 < 7)) typ_Disk (List.mem_cons_of_mem _ tw_77) rfl (fun _ _ => rfl) (fun _ _ => rfl) rfl (am_ltb rfl) rfl ?_
      refine g_iconst (n := 24) (v := 1) d_Disk_setCut_23 rfl (by decide) ?_
      cases hf
      exact g_zret d_Disk_setCut_24 rfl am_z1 (Nat.zero_le _) (Nat.zero_le _)
    · have hf := ob_pos q2 hf
      refine g_iconst (n := 12) (v := 0) d_Disk_setCut_11 rfl (by decide) ?_
      cases hf
      exact g_zret d_Disk_setCut_12 rfl am_z0 (Nat.zero_le _) (Nat.zero_le _)
def f_V_cut (pw : Int32) (cs : Int32) (wb : Int32) (x1 : Int32) : Option (Int32 × Int32 × Int32) :=
  ((f_Disk_setCut pw cs wb x1).bind fun r1 => (if am_bl r1.1 = true then some (r1.1, r1.2.1, r1.2.2) else none))
set_option maxHeartbeats 4000000 in
set_option maxRecDepth 100000 in
theorem s_V_cut {l : Launch} {D : va_G} {dA : FieldType → ClassId} (htr : l.stackTraces = false) {rest : List am_E} {ll : Int32} {he : Int32} {de : Int32} {li : Nat → Int32} {en : Nat → Int32} {po : Nat → Int32} {pw : Int32} {su : Int32} {wr : Int32} {cs : Int32} {wb : Int32} {bt : Nat → Int32} {ct : Int32} {lc : Int32} {ad : Nat → Int32} {ctb : Int32} {lcb : Int32} {adb : Nat → Int32} {fx : Int32} {us : Nat → Int32} {ln : Int32} {pt : Int32} {tx : Nat → Int32} {br : Nat → Int32} {rw : Nat → Int32}  {x1 : Int32} {r : Int32 × Int32 × Int32} (hf : f_V_cut pw cs wb x1 = some r) {o : am_O} (ho : .inl (some (.int r.1)) = o) :
    am_M (am_kk l D dA) y_V_cut ws_V_cut (am_rm 1 o) [.ref 0, .int x1] (hC ll he de li en po pw su wr cs wb bt ct lc ad ctb lcb adb fx us ln pt tx br rw rest) o (hC ll he de li en po pw su wr r.2.1 r.2.2 bt ct lc ad ctb lcb adb fx us ln pt tx br rw rest) := by
  subst ho
  refine am_body (by decide) rfl (Nat.le_of_ble_eq_true rfl) rfl ?_
  rw [f_V_cut] at hf
  refine g_aload_n (n := 1) d_V_cut_0 rfl 0 rfl rfl ?_
  refine g_get (n := 4) (q0 := 0) d_V_cut_1 rfl (am_fl in_V rfl (by decide : 1 < 8)) (List.mem_cons_of_mem _ tw_174) rfl rfl ?_
  refine g_iload_n (n := 5) d_V_cut_4 rfl 1 rfl rfl ?_
  obtain ⟨r1, h2, hf⟩ := ob_bind hf
  refine c_Vr (n := 8) (st' := [.int r1.1]) [.int x1] [] d_V_cut_5 rfl (s_Disk_setCut htr h2 rfl) tw_242 tw_243 tw_244 tw_3 tw_245 hd_Disk_setCut (by omega) (by decide) (ci := 0) rfl rfl rfl (Nat.le_of_ble_eq_true rfl) rfl rfl ?_
  obtain ⟨b3, hf⟩ := ob_chk hf
  cases hf
  exact g_zret d_V_cut_8 rfl (am_blz b3) (Nat.zero_le _) (Nat.zero_le _)
def f_Disk_switchOn (pw : Int32) : Option (Int32 × Int32) :=
  (if pw = 0 then some (1, 1) else some (0, 1))
set_option maxHeartbeats 4000000 in
set_option maxRecDepth 100000 in
theorem s_Disk_switchOn {l : Launch} {D : va_G} {dA : FieldType → ClassId} (htr : l.stackTraces = false) {rest : List am_E} {ll : Int32} {he : Int32} {de : Int32} {li : Nat → Int32} {en : Nat → Int32} {po : Nat → Int32} {pw : Int32} {su : Int32} {wr : Int32} {cs : Int32} {wb : Int32} {bt : Nat → Int32} {ct : Int32} {lc : Int32} {ad : Nat → Int32} {ctb : Int32} {lcb : Int32} {adb : Nat → Int32} {fx : Int32} {us : Nat → Int32} {ln : Int32} {pt : Int32} {tx : Nat → Int32} {br : Nat → Int32} {rw : Nat → Int32}   {r : Int32 × Int32} (hf : f_Disk_switchOn pw = some r) {o : am_O} (ho : .inl (some (.int r.1)) = o) :
    am_M (am_kk l D dA) y_Disk_switchOn ws_Disk_switchOn (am_rm 0 o) [.ref 5] (hC ll he de li en po pw su wr cs wb bt ct lc ad ctb lcb adb fx us ln pt tx br rw rest) o (hC ll he de li en po r.2 su wr cs wb bt ct lc ad ctb lcb adb fx us ln pt tx br rw rest) := by
  subst ho
  refine am_body (by decide) rfl (Nat.le_of_ble_eq_true rfl) rfl ?_
  rw [f_Disk_switchOn] at hf
  refine g_aload_n (n := 1) d_Disk_switchOn_0 rfl 0 rfl rfl ?_
  refine g_get (n := 4) (q0 := 5) d_Disk_switchOn_1 rfl (am_fl in_Disk rfl (by decide : 2 < 7)) (List.mem_cons_of_mem _ tw_71) rfl rfl ?_
  refine g_if_ne (n := 7) (tgt := 11) d_Disk_switchOn_4 rfl (by decide) (fun q1 => ?_) (fun q1 => ?_)
  · have hf := ob_neg q1 hf
    refine g_iconst (n := 12) (v := 0) d_Disk_switchOn_11 rfl (by decide) ?_
    refine g_istore_n (n := 13) (ls' := [(1, .int 0), (0, .ref 5)]) d_Disk_switchOn_12 rfl rfl (am_ltb rfl) rfl ?_
    refine g_aload_n (n := 14) d_Disk_switchOn_13 rfl 1 rfl rfl ?_
    refine g_iconst (n := 15) (v := 1) d_Disk_switchOn_14 rfl (by decide) ?_
    refine g_put (n := 18) (q0 := 5) (h' := (hC ll he de li en po 1 su wr cs wb bt ct lc ad ctb lcb adb fx us ln pt tx br rw rest)) d_Disk_switchOn_15 rfl (am_fl in_Disk rfl (by decide : 2 < 7)) typ_Disk (List.mem_cons_of_mem _ tw_71) rfl (fun _ _ => rfl) (fun _ _ => rfl) rfl (am_ltb rfl) rfl ?_
    refine g_iload_n (n := 19) d_Disk_switchOn_18 rfl 0 rfl rfl ?_
    cases hf
    exact g_zret d_Disk_switchOn_19 rfl am_z0 (Nat.zero_le _) (Nat.zero_le _)
  · have hf := ob_pos q1 hf
    refine g_iconst (n := 8) (v := 1) d_Disk_switchOn_7 rfl (by decide) ?_
    refine g_goto (n := 12) d_Disk_switchOn_8 (by decide) ?_
    refine g_istore_n (n := 13) (ls' := [(1, .int 1), (0, .ref 5)]) d_Disk_switchOn_12 rfl rfl (am_ltb rfl) rfl ?_
    refine g_aload_n (n := 14) d_Disk_switchOn_13 rfl 1 rfl rfl ?_
    refine g_iconst (n := 15) (v := 1) d_Disk_switchOn_14 rfl (by decide) ?_
    refine g_put (n := 18) (q0 := 5) (h' := (hC ll he de li en po 1 su wr cs wb bt ct lc ad ctb lcb adb fx us ln pt tx br rw rest)) d_Disk_switchOn_15 rfl (am_fl in_Disk rfl (by decide : 2 < 7)) typ_Disk (List.mem_cons_of_mem _ tw_71) rfl (fun _ _ => rfl) (fun _ _ => rfl) rfl (am_ltb rfl) rfl ?_
    refine g_iload_n (n := 19) d_Disk_switchOn_18 rfl 0 rfl rfl ?_
    cases hf
    exact g_zret d_Disk_switchOn_19 rfl am_z1 (Nat.zero_le _) (Nat.zero_le _)
def f_V_power (pw : Int32) : Option (Int32 × Int32) :=
  ((f_Disk_switchOn pw).bind fun r1 => (if am_bl r1.1 = true then some (r1.1, r1.2) else none))
set_option maxHeartbeats 4000000 in
set_option maxRecDepth 100000 in
theorem s_V_power {l : Launch} {D : va_G} {dA : FieldType → ClassId} (htr : l.stackTraces = false) {rest : List am_E} {ll : Int32} {he : Int32} {de : Int32} {li : Nat → Int32} {en : Nat → Int32} {po : Nat → Int32} {pw : Int32} {su : Int32} {wr : Int32} {cs : Int32} {wb : Int32} {bt : Nat → Int32} {ct : Int32} {lc : Int32} {ad : Nat → Int32} {ctb : Int32} {lcb : Int32} {adb : Nat → Int32} {fx : Int32} {us : Nat → Int32} {ln : Int32} {pt : Int32} {tx : Nat → Int32} {br : Nat → Int32} {rw : Nat → Int32}   {r : Int32 × Int32} (hf : f_V_power pw = some r) {o : am_O} (ho : .inl (some (.int r.1)) = o) :
    am_M (am_kk l D dA) y_V_power ws_V_power (am_rm 1 o) [.ref 0] (hC ll he de li en po pw su wr cs wb bt ct lc ad ctb lcb adb fx us ln pt tx br rw rest) o (hC ll he de li en po r.2 su wr cs wb bt ct lc ad ctb lcb adb fx us ln pt tx br rw rest) := by
  subst ho
  refine am_body (by decide) rfl (Nat.le_of_ble_eq_true rfl) rfl ?_
  rw [f_V_power] at hf
  refine g_aload_n (n := 1) d_V_power_0 rfl 0 rfl rfl ?_
  refine g_get (n := 4) (q0 := 0) d_V_power_1 rfl (am_fl in_V rfl (by decide : 1 < 8)) (List.mem_cons_of_mem _ tw_174) rfl rfl ?_
  obtain ⟨r1, h2, hf⟩ := ob_bind hf
  refine c_Vr (n := 7) (st' := [.int r1.1]) [] [] d_V_power_4 rfl (s_Disk_switchOn htr h2 rfl) tw_250 tw_251 tw_252 tw_3 tw_253 hd_Disk_switchOn (by omega) (by decide) (ci := 0) rfl rfl rfl (Nat.le_of_ble_eq_true rfl) rfl rfl ?_
  obtain ⟨b3, hf⟩ := ob_chk hf
  cases hf
  exact g_zret d_V_power_7 rfl (am_blz b3) (Nat.zero_le _) (Nat.zero_le _)
def f_Table_secondCell (bt : Nat → Int32) (x1 : Int32) : Option (Int32) :=
  ((f_Disk_pairAt bt (128 + (2 * x1))).bind fun r1 => some r1)
set_option maxHeartbeats 4000000 in
set_option maxRecDepth 100000 in
theorem s_Table_secondCell {l : Launch} {D : va_G} {dA : FieldType → ClassId} (htr : l.stackTraces = false) {rest : List am_E} {ll : Int32} {he : Int32} {de : Int32} {li : Nat → Int32} {en : Nat → Int32} {po : Nat → Int32} {pw : Int32} {su : Int32} {wr : Int32} {cs : Int32} {wb : Int32} {bt : Nat → Int32} {ct : Int32} {lc : Int32} {ad : Nat → Int32} {ctb : Int32} {lcb : Int32} {adb : Nat → Int32} {fx : Int32} {us : Nat → Int32} {ln : Int32} {pt : Int32} {tx : Nat → Int32} {br : Nat → Int32} {rw : Nat → Int32}  {x1 : Int32} {r : Int32} (hf : f_Table_secondCell bt x1 = some r) {o : am_O} (ho : .inl (some (.int r)) = o) :
    am_M (am_kk l D dA) y_Table_secondCell ws_Table_secondCell (am_rm 1 o) [.ref 7, .int x1] (hC ll he de li en po pw su wr cs wb bt ct lc ad ctb lcb adb fx us ln pt tx br rw rest) o (hC ll he de li en po pw su wr cs wb bt ct lc ad ctb lcb adb fx us ln pt tx br rw rest) := by
  subst ho
  refine am_body (by decide) rfl (Nat.le_of_ble_eq_true rfl) rfl ?_
  rw [f_Table_secondCell] at hf
  refine g_aload_n (n := 1) d_Table_secondCell_0 rfl 0 rfl rfl ?_
  refine g_get (n := 4) (q0 := 7) d_Table_secondCell_1 rfl (am_fl in_Table rfl (by decide : 0 < 1)) (List.mem_cons_of_mem _ tw_99) rfl rfl ?_
  refine g_sipush (n := 7) (v := 128) d_Table_secondCell_4 rfl (by decide) ?_
  refine g_iconst (n := 8) (v := 2) d_Table_secondCell_7 rfl (by decide) ?_
  refine g_iload_n (n := 9) d_Table_secondCell_8 rfl 1 rfl rfl ?_
  refine g_imul (n := 10) d_Table_secondCell_9 rfl ?_
  refine g_iadd (n := 11) d_Table_secondCell_10 rfl ?_
  obtain ⟨r1, h2, hf⟩ := ob_bind hf
  refine c_Vr (n := 14) (st' := [.int r1]) [.int (128 + (2 * x1))] [] d_Table_secondCell_11 rfl (s_Disk_pairAt htr h2 rfl) tw_290 tw_231 tw_232 tw_3 tw_233 hd_Disk_pairAt (by omega) (by decide) (ci := 0) rfl rfl rfl (Nat.le_of_ble_eq_true rfl) rfl rfl ?_
  cases hf
  exact g_iret d_Table_secondCell_14 rfl (Nat.zero_le _) (Nat.zero_le _)
def f_Table_setSecond (g : am_WS) (x1 : Int32) (x2 : Int32) : Option ((String ⊕ Unit) × am_WS) :=
  ((f_Disk_writePair g (128 + (2 * x1)) x2).bind fun r1 => am_t r1.1 (fun E3 => some (.inl E3, r1.2)) (fun v4 => some (.inr (), r1.2)))
set_option maxHeartbeats 4000000 in
set_option maxRecDepth 100000 in
theorem s_Table_setSecond {l : Launch} {D : va_G} {dA : FieldType → ClassId} (htr : l.stackTraces = false) {rest : List am_E} {li : Nat → Int32} {su : Int32} {ct : Int32} {lc : Int32} {ad : Nat → Int32} {ctb : Int32} {lcb : Int32} {adb : Nat → Int32} {fx : Int32} {us : Nat → Int32} {ln : Int32} {pt : Int32} {tx : Nat → Int32} {br : Nat → Int32} {rw : Nat → Int32} {g : am_WS} {x1 : Int32} {x2 : Int32} {r : (String ⊕ Unit) × am_WS} (hf : f_Table_setSecond g x1 x2 = some r) {o : am_O} (ho : am_ov r.1 = o) :
    am_M (am_kk l D dA) y_Table_setSecond ws_Table_setSecond (am_rm 3 o) [.ref 7, .int x1, .int x2] (hC g.1 g.2.1 g.2.2.1 li g.2.2.2.1 g.2.2.2.2.1 g.2.2.2.2.2.1 su g.2.2.2.2.2.2.1 g.2.2.2.2.2.2.2.1 g.2.2.2.2.2.2.2.2.1 g.2.2.2.2.2.2.2.2.2 ct lc ad ctb lcb adb fx us ln pt tx br rw rest) o (hC r.2.1 r.2.2.1 r.2.2.2.1 li r.2.2.2.2.1 r.2.2.2.2.2.1 r.2.2.2.2.2.2.1 su r.2.2.2.2.2.2.2.1 r.2.2.2.2.2.2.2.2.1 r.2.2.2.2.2.2.2.2.2.1 r.2.2.2.2.2.2.2.2.2.2 ct lc ad ctb lcb adb fx us ln pt tx br rw rest) := by
  subst ho
  refine am_body (by decide) rfl (Nat.le_of_ble_eq_true rfl) rfl ?_
  rw [f_Table_setSecond] at hf
  refine g_aload_n (n := 1) d_Table_setSecond_0 rfl 0 rfl rfl ?_
  refine g_get (n := 4) (q0 := 7) d_Table_setSecond_1 rfl (am_fl in_Table rfl (by decide : 0 < 1)) (List.mem_cons_of_mem _ tw_99) rfl rfl ?_
  refine g_sipush (n := 7) (v := 128) d_Table_setSecond_4 rfl (by decide) ?_
  refine g_iconst (n := 8) (v := 2) d_Table_setSecond_7 rfl (by decide) ?_
  refine g_iload_n (n := 9) d_Table_setSecond_8 rfl 1 rfl rfl ?_
  refine g_imul (n := 10) d_Table_setSecond_9 rfl ?_
  refine g_iadd (n := 11) d_Table_setSecond_10 rfl ?_
  refine g_iload_n (n := 12) d_Table_setSecond_11 rfl 2 rfl rfl ?_
  obtain ⟨r1, h2, hf⟩ := ob_bind hf
  rcases ob_t hf with ⟨E3, w5, hf⟩ | ⟨v4, w5, hf⟩
  · cases hf
    refine c_Vx (n := 15) (st' := []) [.int (128 + (2 * x1)), .int x2] [] d_Table_setSecond_12 rfl (s_Disk_writePair htr h2 (by rw [w5]; rfl)) tw_534 tw_535 tw_536 tw_3 tw_537 hd_Disk_writePair (by omega) (by decide) (ci := 0) rfl rfl rfl (Nat.le_of_ble_eq_true rfl) rfl ?_
    exact g_out rfl (Nat.le_refl _) (Nat.le_refl _)
  · refine c_Vr (n := 15) (st' := []) [.int (128 + (2 * x1)), .int x2] [] d_Table_setSecond_12 rfl (s_Disk_writePair htr h2 (by rw [w5]; rfl)) tw_534 tw_535 tw_536 tw_3 tw_537 hd_Disk_writePair (by omega) (by decide) (ci := 0) rfl rfl rfl (Nat.le_of_ble_eq_true rfl) rfl rfl ?_
    cases hf
    exact g_vret d_Table_setSecond_15 rfl (Nat.zero_le _) (Nat.zero_le _)
def f_Rep_isBad (bt : Nat → Int32) (x1 : Int32) : Option (Int32) :=
  ((f_Table_cell bt x1).bind fun r1 => (if r1 = 0 then (if x1 < 2 then some 1 else some 0) else ((f_V_isCluster r1).bind fun r7 => (if r7 = 0 then (if r1 = 65535 then some 0 else (if x1 < 2 then some 1 else some 1)) else (if r1 = 65535 then some 0 else (if x1 < 2 then some 1 else some 0))))))
set_option maxHeartbeats 4000000 in
set_option maxRecDepth 100000 in
theorem s_Rep_isBad {l : Launch} {D : va_G} {dA : FieldType → ClassId} (htr : l.stackTraces = false) {rest : List am_E} {ll : Int32} {he : Int32} {de : Int32} {li : Nat → Int32} {en : Nat → Int32} {po : Nat → Int32} {pw : Int32} {su : Int32} {wr : Int32} {cs : Int32} {wb : Int32} {bt : Nat → Int32} {ct : Int32} {lc : Int32} {ad : Nat → Int32} {ctb : Int32} {lcb : Int32} {adb : Nat → Int32} {fx : Int32} {us : Nat → Int32} {ln : Int32} {pt : Int32} {tx : Nat → Int32} {br : Nat → Int32} {rw : Nat → Int32}  {x1 : Int32} {r : Int32} (hf : f_Rep_isBad bt x1 = some r) {o : am_O} (ho : .inl (some (.int r)) = o) :
    am_M (am_kk l D dA) y_Rep_isBad ws_Rep_isBad (am_rm 2 o) [.ref 12, .int x1] (hC ll he de li en po pw su wr cs wb bt ct lc ad ctb lcb adb fx us ln pt tx br rw rest) o (hC ll he de li en po pw su wr cs wb bt ct lc ad ctb lcb adb fx us ln pt tx br rw rest) := by
  subst ho
  refine am_body (by decide) rfl (Nat.le_of_ble_eq_true rfl) rfl ?_
  rw [f_Rep_isBad] at hf
  refine g_aload_n (n := 1) d_Rep_isBad_0 rfl 0 rfl rfl ?_
  refine g_get (n := 4) (q0 := 12) d_Rep_isBad_1 rfl (am_fl in_Rep rfl (by decide : 1 < 5)) (List.mem_cons_of_mem _ tw_134) rfl rfl ?_
  refine g_iload_n (n := 5) d_Rep_isBad_4 rfl 1 rfl rfl ?_
  obtain ⟨r1, h2, hf⟩ := ob_bind hf
  refine c_Vr (n := 8) (st' := [.int r1]) [.int x1] [] d_Rep_isBad_5 rfl (s_Table_cell htr h2 rfl) tw_794 tw_287 tw_288 tw_4 tw_289 hd_Table_cell (by omega) (by decide) (ci := 5) rfl rfl rfl (Nat.le_of_ble_eq_true rfl) rfl rfl ?_
  refine g_istore_n (n := 9) (ls' := [(2, .int r1), (0, .ref 12), (1, .int x1)]) d_Rep_isBad_8 rfl rfl (am_ltb rfl) rfl ?_
  refine g_iload_n (n := 10) d_Rep_isBad_9 rfl 0 rfl rfl ?_
  refine g_if_eq (n := 13) (tgt := 20) d_Rep_isBad_10 rfl (by decide) (fun q3 => ?_) (fun q3 => ?_)
  · have hf := ob_pos q3 hf
    refine g_iconst (n := 21) (v := 1) d_Rep_isBad_20 rfl (by decide) ?_
    refine g_goto (n := 25) d_Rep_isBad_21 (by decide) ?_
    refine g_istore_n (n := 26) (ls' := [(3, .int 1), (2, .int r1), (0, .ref 12), (1, .int x1)]) d_Rep_isBad_25 rfl rfl (am_ltb rfl) rfl ?_
    refine g_iload_n (n := 27) d_Rep_isBad_26 rfl 1 rfl rfl ?_
    refine g_ldc (n := 29) (v := 65535) d_Rep_isBad_27 rfl (List.mem_cons_of_mem _ tw_804) ?_
    refine g_icmp_eq (n := 32) (tgt := 45) d_Rep_isBad_29 rfl (by decide) (fun q4 => absurd (q3.symm.trans q4) (by decide)) (fun _ => ?_)
    refine g_iload_n (n := 33) d_Rep_isBad_32 rfl 3 rfl rfl ?_
    refine g_iconst (n := 34) (v := 2) d_Rep_isBad_33 rfl (by decide) ?_
    refine g_icmp_lt (n := 37) (tgt := 41) d_Rep_isBad_34 rfl (by decide) (fun q5 => ?_) (fun q5 => ?_)
    · have hf := ob_pos q5 hf
      refine g_iconst (n := 42) (v := 1) d_Rep_isBad_41 rfl (by decide) ?_
      refine g_goto (n := 46) d_Rep_isBad_42 (by decide) ?_
      cases hf
      exact g_zret d_Rep_isBad_46 rfl am_z1 (Nat.zero_le _) (Nat.zero_le _)
    · have hf := ob_neg q5 hf
      refine g_iload_n (n := 38) d_Rep_isBad_37 rfl 0 rfl rfl ?_
      refine g_if_ne (n := 41) (tgt := 45) d_Rep_isBad_38 rfl (by decide) (fun _ => ?_) (fun q6 => absurd q6 (by decide))
      refine g_iconst (n := 46) (v := 0) d_Rep_isBad_45 rfl (by decide) ?_
      cases hf
      exact g_zret d_Rep_isBad_46 rfl am_z0 (Nat.zero_le _) (Nat.zero_le _)
  · have hf := ob_neg q3 hf
    refine g_iload_n (n := 14) d_Rep_isBad_13 rfl 0 rfl rfl ?_
    obtain ⟨r7, h8, hf⟩ := ob_bind hf
    refine c_SNr (n := 17) (st' := [.int r7]) [.int r1] [] d_Rep_isBad_14 rfl (s_V_isCluster htr h8 rfl) nw_803 tw_412 tw_1 tw_413 hd_V_isCluster (by omega) (by decide) rfl (Nat.le_of_ble_eq_true rfl) rfl rfl ?_
    refine g_if_eq (n := 20) (tgt := 24) d_Rep_isBad_17 rfl (by decide) (fun q9 => ?_) (fun q9 => ?_)
    · have hf := ob_pos q9 hf
      refine g_iconst (n := 25) (v := 0) d_Rep_isBad_24 rfl (by decide) ?_
      refine g_istore_n (n := 26) (ls' := [(3, .int 0), (2, .int r1), (0, .ref 12), (1, .int x1)]) d_Rep_isBad_25 rfl rfl (am_ltb rfl) rfl ?_
      refine g_iload_n (n := 27) d_Rep_isBad_26 rfl 1 rfl rfl ?_
      refine g_ldc (n := 29) (v := 65535) d_Rep_isBad_27 rfl (List.mem_cons_of_mem _ tw_804) ?_
      refine g_icmp_eq (n := 32) (tgt := 45) d_Rep_isBad_29 rfl (by decide) (fun q10 => ?_) (fun q10 => ?_)
      · have hf := ob_pos q10 hf
        refine g_iconst (n := 46) (v := 0) d_Rep_isBad_45 rfl (by decide) ?_
        cases hf
        exact g_zret d_Rep_isBad_46 rfl am_z0 (Nat.zero_le _) (Nat.zero_le _)
      · have hf := ob_neg q10 hf
        refine g_iload_n (n := 33) d_Rep_isBad_32 rfl 3 rfl rfl ?_
        refine g_iconst (n := 34) (v := 2) d_Rep_isBad_33 rfl (by decide) ?_
        refine g_icmp_lt (n := 37) (tgt := 41) d_Rep_isBad_34 rfl (by decide) (fun q11 => ?_) (fun q11 => ?_)
        · have hf := ob_pos q11 hf
          refine g_iconst (n := 42) (v := 1) d_Rep_isBad_41 rfl (by decide) ?_
          refine g_goto (n := 46) d_Rep_isBad_42 (by decide) ?_
          cases hf
          exact g_zret d_Rep_isBad_46 rfl am_z1 (Nat.zero_le _) (Nat.zero_le _)
        · have hf := ob_neg q11 hf
          refine g_iload_n (n := 38) d_Rep_isBad_37 rfl 0 rfl rfl ?_
          refine g_if_ne (n := 41) (tgt := 45) d_Rep_isBad_38 rfl (by decide) (fun q12 => absurd q12 (by decide)) (fun _ => ?_)
          refine g_iconst (n := 42) (v := 1) d_Rep_isBad_41 rfl (by decide) ?_
          refine g_goto (n := 46) d_Rep_isBad_42 (by decide) ?_
          cases hf
          exact g_zret d_Rep_isBad_46 rfl am_z1 (Nat.zero_le _) (Nat.zero_le _)
    · have hf := ob_neg q9 hf
      refine g_iconst (n := 21) (v := 1) d_Rep_isBad_20 rfl (by decide) ?_
      refine g_goto (n := 25) d_Rep_isBad_21 (by decide) ?_
      refine g_istore_n (n := 26) (ls' := [(3, .int 1), (2, .int r1), (0, .ref 12), (1, .int x1)]) d_Rep_isBad_25 rfl rfl (am_ltb rfl) rfl ?_
      refine g_iload_n (n := 27) d_Rep_isBad_26 rfl 1 rfl rfl ?_
      refine g_ldc (n := 29) (v := 65535) d_Rep_isBad_27 rfl (List.mem_cons_of_mem _ tw_804) ?_
      refine g_icmp_eq (n := 32) (tgt := 45) d_Rep_isBad_29 rfl (by decide) (fun q13 => ?_) (fun q13 => ?_)
      · have hf := ob_pos q13 hf
        refine g_iconst (n := 46) (v := 0) d_Rep_isBad_45 rfl (by decide) ?_
        cases hf
        exact g_zret d_Rep_isBad_46 rfl am_z0 (Nat.zero_le _) (Nat.zero_le _)
      · have hf := ob_neg q13 hf
        refine g_iload_n (n := 33) d_Rep_isBad_32 rfl 3 rfl rfl ?_
        refine g_iconst (n := 34) (v := 2) d_Rep_isBad_33 rfl (by decide) ?_
        refine g_icmp_lt (n := 37) (tgt := 41) d_Rep_isBad_34 rfl (by decide) (fun q14 => ?_) (fun q14 => ?_)
        · have hf := ob_pos q14 hf
          refine g_iconst (n := 42) (v := 1) d_Rep_isBad_41 rfl (by decide) ?_
          refine g_goto (n := 46) d_Rep_isBad_42 (by decide) ?_
          cases hf
          exact g_zret d_Rep_isBad_46 rfl am_z1 (Nat.zero_le _) (Nat.zero_le _)
        · have hf := ob_neg q14 hf
          refine g_iload_n (n := 38) d_Rep_isBad_37 rfl 0 rfl rfl ?_
          refine g_if_ne (n := 41) (tgt := 45) d_Rep_isBad_38 rfl (by decide) (fun _ => ?_) (fun q15 => absurd q15 (by decide))
          refine g_iconst (n := 46) (v := 0) d_Rep_isBad_45 rfl (by decide) ?_
          cases hf
          exact g_zret d_Rep_isBad_46 rfl am_z0 (Nat.zero_le _) (Nat.zero_le _)
def f_Rep_mendTables_L73 : Nat → am_WS → Int32 → (Nat → Int32) → Int32 → Option ((String ⊕ Unit) × am_WS × Int32 × (Nat → Int32))
  | 0, _, _, _, _ => none
  | fuel + 1, g, fx, us, x1 =>
  (if 64 ≤ x1 then some (.inr (), g, fx, us) else ((f_Rep_isBad g.2.2.2.2.2.2.2.2.2 x1).bind fun r3 => (if r3 = 0 then f_Rep_mendTables_L73 fuel g fx us (x1 + 1) else ((f_Table_set g x1 65535).bind fun r6 => am_t r6.1 (fun E8 => some (.inl E8, r6.2, fx, us)) (fun v9 => f_Rep_mendTables_L73 fuel r6.2 (fx + 1) us (x1 + 1))))))
