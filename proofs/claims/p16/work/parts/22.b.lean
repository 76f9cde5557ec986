def f_V_isOnDisk (x0 : Int32) (x1 : Int32) : Option (Int32) :=
  (if x0 < 0 then some 0 else (if 70 ≤ x0 then some 0 else (if x1 < 0 then some 0 else (if 32 ≤ x1 then some 0 else some 1))))
set_option maxHeartbeats 4000000 in
set_option maxRecDepth 100000 in
theorem s_V_isOnDisk {l : Launch} {D : va_G} {dA : FieldType → ClassId} (htr : l.stackTraces = false) {rest : List am_E} {ll : Int32} {he : Int32} {de : Int32} {li : Nat → Int32} {en : Nat → Int32} {po : Nat → Int32} {pw : Int32} {su : Int32} {wr : Int32} {cs : Int32} {wb : Int32} {bt : Nat → Int32} {ct : Int32} {lc : Int32} {ad : Nat → Int32} {ctb : Int32} {lcb : Int32} {adb : Nat → Int32} {fx : Int32} {us : Nat → Int32} {ln : Int32} {pt : Int32} {tx : Nat → Int32} {br : Nat → Int32} {rw : Nat → Int32}  {x0 : Int32} {x1 : Int32} {r : Int32} (hf : f_V_isOnDisk x0 x1 = some r) {o : am_O} (ho : .inl (some (.int r)) = o) :
    am_M (am_kk l D dA) y_V_isOnDisk ws_V_isOnDisk (am_rm 0 o) [.int x0, .int x1] (hC ll he de li en po pw su wr cs wb bt ct lc ad ctb lcb adb fx us ln pt tx br rw rest) o (hC ll he de li en po pw su wr cs wb bt ct lc ad ctb lcb adb fx us ln pt tx br rw rest) := by
  subst ho
  refine am_body (by decide) rfl (Nat.le_of_ble_eq_true rfl) rfl ?_
  rw [f_V_isOnDisk] at hf
  refine g_iload_n (n := 1) d_V_isOnDisk_0 rfl 0 rfl rfl ?_
  refine g_if_lt (n := 4) (tgt := 24) d_V_isOnDisk_1 rfl (by decide) (fun q1 => ?_) (fun q1 => ?_)
  · have hf := ob_pos q1 hf
    refine g_iconst (n := 25) (v := 0) d_V_isOnDisk_24 rfl (by decide) ?_
    cases hf
    exact g_zret d_V_isOnDisk_25 rfl am_z0 (Nat.zero_le _) (Nat.zero_le _)
  · have hf := ob_neg q1 hf
    refine g_iload_n (n := 5) d_V_isOnDisk_4 rfl 0 rfl rfl ?_
    refine g_bipush (n := 7) (v := 70) d_V_isOnDisk_5 rfl (by decide) ?_
    refine g_icmp_ge (n := 10) (tgt := 24) d_V_isOnDisk_7 rfl (by decide) (fun q2 => ?_) (fun q2 => ?_)
    · have hf := ob_pos q2 hf
      refine g_iconst (n := 25) (v := 0) d_V_isOnDisk_24 rfl (by decide) ?_
      cases hf
      exact g_zret d_V_isOnDisk_25 rfl am_z0 (Nat.zero_le _) (Nat.zero_le _)
    · have hf := ob_neg q2 hf
      refine g_iload_n (n := 11) d_V_isOnDisk_10 rfl 1 rfl rfl ?_
      refine g_if_lt (n := 14) (tgt := 24) d_V_isOnDisk_11 rfl (by decide) (fun q3 => ?_) (fun q3 => ?_)
      · have hf := ob_pos q3 hf
        refine g_iconst (n := 25) (v := 0) d_V_isOnDisk_24 rfl (by decide) ?_
        cases hf
        exact g_zret d_V_isOnDisk_25 rfl am_z0 (Nat.zero_le _) (Nat.zero_le _)
      · have hf := ob_neg q3 hf
        refine g_iload_n (n := 15) d_V_isOnDisk_14 rfl 1 rfl rfl ?_
        refine g_bipush (n := 17) (v := 32) d_V_isOnDisk_15 rfl (by decide) ?_
        refine g_icmp_ge (n := 20) (tgt := 24) d_V_isOnDisk_17 rfl (by decide) (fun q4 => ?_) (fun q4 => ?_)
        · have hf := ob_pos q4 hf
          refine g_iconst (n := 25) (v := 0) d_V_isOnDisk_24 rfl (by decide) ?_
          cases hf
          exact g_zret d_V_isOnDisk_25 rfl am_z0 (Nat.zero_le _) (Nat.zero_le _)
        · have hf := ob_neg q4 hf
          refine g_iconst (n := 21) (v := 1) d_V_isOnDisk_20 rfl (by decide) ?_
          refine g_goto (n := 25) d_V_isOnDisk_21 (by decide) ?_
          cases hf
          exact g_zret d_V_isOnDisk_25 rfl am_z1 (Nat.zero_le _) (Nat.zero_le _)
def f_V_octet (bt : Nat → Int32) (x1 : Int32) (x2 : Int32) : Option (Int32) :=
  ((f_V_isOnDisk x1 x2).bind fun r1 => (if r1 = 0 then some (-1) else ((f_Disk_at bt ((x1 * 32) + x2)).bind fun r4 => some r4)))
set_option maxHeartbeats 4000000 in
set_option maxRecDepth 100000 in
theorem s_V_octet {l : Launch} {D : va_G} {dA : FieldType → ClassId} (htr : l.stackTraces = false) {rest : List am_E} {ll : Int32} {he : Int32} {de : Int32} {li : Nat → Int32} {en : Nat → Int32} {po : Nat → Int32} {pw : Int32} {su : Int32} {wr : Int32} {cs : Int32} {wb : Int32} {bt : Nat → Int32} {ct : Int32} {lc : Int32} {ad : Nat → Int32} {ctb : Int32} {lcb : Int32} {adb : Nat → Int32} {fx : Int32} {us : Nat → Int32} {ln : Int32} {pt : Int32} {tx : Nat → Int32} {br : Nat → Int32} {rw : Nat → Int32}  {x1 : Int32} {x2 : Int32} {r : Int32} (hf : f_V_octet bt x1 x2 = some r) {o : am_O} (ho : .inl (some (.int r)) = o) :
    am_M (am_kk l D dA) y_V_octet ws_V_octet (am_rm 1 o) [.ref 0, .int x1, .int x2] (hC ll he de li en po pw su wr cs wb bt ct lc ad ctb lcb adb fx us ln pt tx br rw rest) o (hC ll he de li en po pw su wr cs wb bt ct lc ad ctb lcb adb fx us ln pt tx br rw rest) := by
  subst ho
  refine am_body (by decide) rfl (Nat.le_of_ble_eq_true rfl) rfl ?_
  rw [f_V_octet] at hf
  refine g_iload_n (n := 1) d_V_octet_0 rfl 1 rfl rfl ?_
  refine g_iload_n (n := 2) d_V_octet_1 rfl 2 rfl rfl ?_
  obtain ⟨r1, h2, hf⟩ := ob_bind hf
  refine c_Sr (n := 5) (st' := [.int r1]) [.int x1, .int x2] [] d_V_octet_2 rfl (s_V_isOnDisk htr h2 rfl) tw_258 tw_259 tw_1 tw_260 rfl hd_V_isOnDisk (by omega) (by decide) rfl (Nat.le_of_ble_eq_true rfl) rfl rfl ?_
  refine g_if_eq (n := 8) (tgt := 24) d_V_octet_5 rfl (by decide) (fun q3 => ?_) (fun q3 => ?_)
  · have hf := ob_pos q3 hf
    refine g_iconst (n := 25) (v := (-1)) d_V_octet_24 rfl (by decide) ?_
    cases hf
    exact g_iret d_V_octet_25 rfl (Nat.zero_le _) (Nat.zero_le _)
  · have hf := ob_neg q3 hf
    refine g_aload_n (n := 9) d_V_octet_8 rfl 0 rfl rfl ?_
    refine g_get (n := 12) (q0 := 0) d_V_octet_9 rfl (am_fl in_V rfl (by decide : 1 < 8)) (List.mem_cons_of_mem _ tw_174) rfl rfl ?_
    refine g_iload_n (n := 13) d_V_octet_12 rfl 1 rfl rfl ?_
    refine g_bipush (n := 15) (v := 32) d_V_octet_13 rfl (by decide) ?_
    refine g_imul (n := 16) d_V_octet_15 rfl ?_
    refine g_iload_n (n := 17) d_V_octet_16 rfl 2 rfl rfl ?_
    refine g_iadd (n := 18) d_V_octet_17 rfl ?_
    obtain ⟨r4, h5, hf⟩ := ob_bind hf
    refine c_Vr (n := 21) (st' := [.int r4]) [.int ((x1 * 32) + x2)] [] d_V_octet_18 rfl (s_Disk_at htr h5 rfl) tw_261 tw_262 tw_263 tw_3 tw_264 hd_Disk_at (by omega) (by decide) (ci := 0) rfl rfl rfl (Nat.le_of_ble_eq_true rfl) rfl rfl ?_
    refine g_goto (n := 25) d_V_octet_21 (by decide) ?_
    cases hf
    exact g_iret d_V_octet_25 rfl (Nat.zero_le _) (Nat.zero_le _)
def f_V_poke (he : Int32) (de : Int32) (en : Nat → Int32) (po : Nat → Int32) (su : Int32) (bt : Nat → Int32) (x1 : Int32) (x2 : Int32) (x3 : Int32) : Option (Int32 × Int32 × Int32 × (Nat → Int32) × (Nat → Int32) × Int32 × (Nat → Int32)) :=
  ((f_V_isOnDisk x1 x2).bind fun r1 => (if r1 = 0 then some (0, he, de, en, po, su, bt) else ((f_Disk_put bt ((x1 * 32) + x2) x3).bind fun r4 => ((f_Ses_leave he de en po).bind fun r6 => some (1, r6.1, r6.2.1, r6.2.2.1, r6.2.2.2, 1, r4)))))
set_option maxHeartbeats 4000000 in
set_option maxRecDepth 100000 in
theorem s_V_poke {l : Launch} {D : va_G} {dA : FieldType → ClassId} (htr : l.stackTraces = false) {rest : List am_E} {ll : Int32} {he : Int32} {de : Int32} {li : Nat → Int32} {en : Nat → Int32} {po : Nat → Int32} {pw : Int32} {su : Int32} {wr : Int32} {cs : Int32} {wb : Int32} {bt : Nat → Int32} {ct : Int32} {lc : Int32} {ad : Nat → Int32} {ctb : Int32} {lcb : Int32} {adb : Nat → Int32} {fx : Int32} {us : Nat → Int32} {ln : Int32} {pt : Int32} {tx : Nat → Int32} {br : Nat → Int32} {rw : Nat → Int32}  {x1 : Int32} {x2 : Int32} {x3 : Int32} {r : Int32 × Int32 × Int32 × (Nat → Int32) × (Nat → Int32) × Int32 × (Nat → Int32)} (hf : f_V_poke he de en po su bt x1 x2 x3 = some r) {o : am_O} (ho : .inl (some (.int r.1)) = o) :
    am_M (am_kk l D dA) y_V_poke ws_V_poke (am_rm 1 o) [.ref 0, .int x1, .int x2, .int x3] (hC ll he de li en po pw su wr cs wb bt ct lc ad ctb lcb adb fx us ln pt tx br rw rest) o (hC ll r.2.1 r.2.2.1 li r.2.2.2.1 r.2.2.2.2.1 pw r.2.2.2.2.2.1 wr cs wb r.2.2.2.2.2.2 ct lc ad ctb lcb adb fx us ln pt tx br rw rest) := by
  subst ho
  refine am_body (by decide) rfl (Nat.le_of_ble_eq_true rfl) rfl ?_
  rw [f_V_poke] at hf
  refine g_iload_n (n := 1) d_V_poke_0 rfl 1 rfl rfl ?_
  refine g_iload_n (n := 2) d_V_poke_1 rfl 2 rfl rfl ?_
  obtain ⟨r1, h2, hf⟩ := ob_bind hf
  refine c_Sr (n := 5) (st' := [.int r1]) [.int x1, .int x2] [] d_V_poke_2 rfl (s_V_isOnDisk htr h2 rfl) tw_258 tw_259 tw_1 tw_260 rfl hd_V_isOnDisk (by omega) (by decide) rfl (Nat.le_of_ble_eq_true rfl) rfl rfl ?_
  refine g_if_ne (n := 8) (tgt := 10) d_V_poke_5 rfl (by decide) (fun q3 => ?_) (fun q3 => ?_)
  · have hf := ob_neg q3 hf
    refine g_aload_n (n := 11) d_V_poke_10 rfl 0 rfl rfl ?_
    refine g_get (n := 14) (q0 := 0) d_V_poke_11 rfl (am_fl in_V rfl (by decide : 1 < 8)) (List.mem_cons_of_mem _ tw_174) rfl rfl ?_
    refine g_iload_n (n := 15) d_V_poke_14 rfl 1 rfl rfl ?_
    refine g_bipush (n := 17) (v := 32) d_V_poke_15 rfl (by decide) ?_
    refine g_imul (n := 18) d_V_poke_17 rfl ?_
    refine g_iload_n (n := 19) d_V_poke_18 rfl 2 rfl rfl ?_
    refine g_iadd (n := 20) d_V_poke_19 rfl ?_
    refine g_iload_n (n := 21) d_V_poke_20 rfl 3 rfl rfl ?_
    obtain ⟨r4, h5, hf⟩ := ob_bind hf
    refine c_Vr (n := 24) (st' := []) [.int ((x1 * 32) + x2), .int x3] [] d_V_poke_21 rfl (s_Disk_put htr h5 rfl) tw_269 tw_270 tw_271 tw_3 tw_272 hd_Disk_put (by omega) (by decide) (ci := 0) rfl rfl rfl (Nat.le_of_ble_eq_true rfl) rfl rfl ?_
    refine g_aload_n (n := 25) d_V_poke_24 rfl 0 rfl rfl ?_
    refine g_get (n := 28) (q0 := 0) d_V_poke_25 rfl (am_fl in_V rfl (by decide : 1 < 8)) (List.mem_cons_of_mem _ tw_174) rfl rfl ?_
    refine g_iconst (n := 29) (v := 1) d_V_poke_28 rfl (by decide) ?_
    refine g_putN (n := 32) (q0 := 5) (h' := (hC ll he de li en po pw 1 wr cs wb r4 ct lc ad ctb lcb adb fx us ln pt tx br rw rest)) d_V_poke_29 rfl (am_fl in_Disk rfl (by decide : 3 < 7)) typ_Disk nw_73 rfl (fun _ _ => rfl) (fun _ _ => rfl) rfl (am_ltb rfl) rfl ?_
    refine g_aload_n (n := 33) d_V_poke_32 rfl 0 rfl rfl ?_
    refine g_get (n := 36) (q0 := 0) d_V_poke_33 rfl (am_fl in_V rfl (by decide : 0 < 8)) (List.mem_cons_of_mem _ tw_173) rfl rfl ?_
    obtain ⟨r6, h7, hf⟩ := ob_bind hf
    refine c_Vr (n := 39) (st' := []) [] [] d_V_poke_36 rfl (s_Ses_leave htr h7 rfl) tw_273 tw_33 tw_34 tw_2 tw_35 hd_Ses_leave (by omega) (by decide) (ci := 4) rfl rfl rfl (Nat.le_of_ble_eq_true rfl) rfl rfl ?_
    refine g_iconst (n := 40) (v := 1) d_V_poke_39 rfl (by decide) ?_
    cases hf
    exact g_zret d_V_poke_40 rfl am_z1 (Nat.zero_le _) (Nat.zero_le _)
  · have hf := ob_pos q3 hf
    refine g_iconst (n := 9) (v := 0) d_V_poke_8 rfl (by decide) ?_
    cases hf
    exact g_zret d_V_poke_9 rfl am_z0 (Nat.zero_le _) (Nat.zero_le _)
def f_Table_countFree_L4 : Nat → (Nat → Int32) → Int32 → Int32 → Option (Int32)
  | 0, _, _, _ => none
  | fuel + 1, bt, x1, x2 =>
  (if 64 ≤ x2 then some x1 else ((f_Table_isFree bt x2).bind fun r2 => (if r2 = 0 then f_Table_countFree_L4 fuel bt x1 (x2 + 1) else f_Table_countFree_L4 fuel bt (x1 + 1) (x2 + 1))))
set_option maxHeartbeats 4000000 in
set_option maxRecDepth 100000 in
theorem s_Table_countFree_L4 {l : Launch} {D : va_G} {dA : FieldType → ClassId} (htr : l.stackTraces = false) {rest : List am_E} {ll : Int32} {he : Int32} {de : Int32} {li : Nat → Int32} {en : Nat → Int32} {po : Nat → Int32} {pw : Int32} {su : Int32} {wr : Int32} {cs : Int32} {wb : Int32} {ct : Int32} {lc : Int32} {ad : Nat → Int32} {ctb : Int32} {lcb : Int32} {adb : Nat → Int32} {fx : Int32} {us : Nat → Int32} {ln : Int32} {pt : Int32} {tx : Nat → Int32} {br : Nat → Int32} {rw : Nat → Int32}  : ∀ (fuel : Nat) (bt : Nat → Int32) (x1 : Int32) (x2 : Int32) (r : Int32), f_Table_countFree_L4 fuel bt x1 x2 = some r → ∀ o : am_O, .inl (some (.int r)) = o →
    am_G (am_kk l D dA) (ws_Table_countFree, y_Table_countFree.cls, prog_7_method_7_code, 3, (some .int), y_Table_countFree.name, [], am_rm 3 (o), none) o (hC ll he de li en po pw su wr cs wb bt ct lc ad ctb lcb adb fx us ln pt tx br rw rest) 0 0 4 [(0, .ref 7), (1, .int x1), (2, .int x2)] [] (hC ll he de li en po pw su wr cs wb bt ct lc ad ctb lcb adb fx us ln pt tx br rw rest) := by
  intro fuel
  induction fuel with
  | zero =>
    intro bt x1 x2 r hf
    cases hf
  | succ fuel ih =>
    intro bt x1 x2 r hf o ho
    subst ho
    rw [f_Table_countFree_L4] at hf
    refine g_iload_n (n := 5) d_Table_countFree_4 rfl 2 rfl rfl ?_
    refine g_bipush (n := 7) (v := 64) d_Table_countFree_5 rfl (by decide) ?_
    refine g_icmp_ge (n := 10) (tgt := 27) d_Table_countFree_7 rfl (by decide) (fun q1 => ?_) (fun q1 => ?_)
    · have hf := ob_pos q1 hf
      refine g_iload_n (n := 28) d_Table_countFree_27 rfl 1 rfl rfl ?_
      cases hf
      exact g_iret d_Table_countFree_28 rfl (Nat.zero_le _) (Nat.zero_le _)
    · have hf := ob_neg q1 hf
      refine g_aload_n (n := 11) d_Table_countFree_10 rfl 0 rfl rfl ?_
      refine g_iload_n (n := 12) d_Table_countFree_11 rfl 2 rfl rfl ?_
      obtain ⟨r2, h3, hf⟩ := ob_bind hf
      refine c_Vr (n := 15) (st' := [.int r2]) [.int x2] [] d_Table_countFree_12 rfl (s_Table_isFree htr h3 rfl) tw_282 tw_283 tw_284 tw_4 tw_285 hd_Table_isFree (by omega) (by decide) (ci := 5) rfl rfl rfl (Nat.le_of_ble_eq_true rfl) rfl rfl ?_
      refine g_if_eq (n := 18) (tgt := 21) d_Table_countFree_15 rfl (by decide) (fun q4 => ?_) (fun q4 => ?_)
      · have hf := ob_pos q4 hf
        refine g_iinc (n := 24) (v := (x2 + 1)) (ls' := [(2, .int (x2 + 1)), (0, .ref 7), (1, .int x1)]) d_Table_countFree_21 rfl 2 rfl rfl (am_ltb rfl) rfl ?_
        refine g_goto (n := 4) d_Table_countFree_24 (by decide) ?_
        refine g_ls [1, 2, 0] rfl ?_
        exact ih bt x1 (x2 + 1) _ hf _ rfl
      · have hf := ob_neg q4 hf
        refine g_iinc (n := 21) (v := (x1 + 1)) (ls' := [(1, .int (x1 + 1)), (0, .ref 7), (2, .int x2)]) d_Table_countFree_18 rfl 1 rfl rfl (am_ltb rfl) rfl ?_
        refine g_iinc (n := 24) (v := (x2 + 1)) (ls' := [(2, .int (x2 + 1)), (1, .int (x1 + 1)), (0, .ref 7)]) d_Table_countFree_21 rfl 2 rfl rfl (am_ltb rfl) rfl ?_
        refine g_goto (n := 4) d_Table_countFree_24 (by decide) ?_
        refine g_ls [2, 1, 0] rfl ?_
        exact ih bt (x1 + 1) (x2 + 1) _ hf _ rfl
def f_Table_countFree (bt : Nat → Int32) : Option (Int32) :=
  f_Table_countFree_L4 100000000000 bt 0 2
set_option maxHeartbeats 4000000 in
set_option maxRecDepth 100000 in
theorem s_Table_countFree {l : Launch} {D : va_G} {dA : FieldType → ClassId} (htr : l.stackTraces = false) {rest : List am_E} {ll : Int32} {he : Int32} {de : Int32} {li : Nat → Int32} {en : Nat → Int32} {po : Nat → Int32} {pw : Int32} {su : Int32} {wr : Int32} {cs : Int32} {wb : Int32} {bt : Nat → Int32} {ct : Int32} {lc : Int32} {ad : Nat → Int32} {ctb : Int32} {lcb : Int32} {adb : Nat → Int32} {fx : Int32} {us : Nat → Int32} {ln : Int32} {pt : Int32} {tx : Nat → Int32} {br : Nat → Int32} {rw : Nat → Int32}   {r : Int32} (hf : f_Table_countFree bt = some r) {o : am_O} (ho : .inl (some (.int r)) = o) :
    am_M (am_kk l D dA) y_Table_countFree ws_Table_countFree (am_rm 3 o) [.ref 7] (hC ll he de li en po pw su wr cs wb bt ct lc ad ctb lcb adb fx us ln pt tx br rw rest) o (hC ll he de li en po pw su wr cs wb bt ct lc ad ctb lcb adb fx us ln pt tx br rw rest) := by
  subst ho
  refine am_body (by decide) rfl (Nat.le_of_ble_eq_true rfl) rfl ?_
  rw [f_Table_countFree] at hf
  refine g_iconst (n := 1) (v := 0) d_Table_countFree_0 rfl (by decide) ?_
  refine g_istore_n (n := 2) (ls' := [(1, .int 0), (0, .ref 7)]) d_Table_countFree_1 rfl rfl (am_ltb rfl) rfl ?_
  refine g_iconst (n := 3) (v := 2) d_Table_countFree_2 rfl (by decide) ?_
  refine g_istore_n (n := 4) (ls' := [(2, .int 2), (1, .int 0), (0, .ref 7)]) d_Table_countFree_3 rfl rfl (am_ltb rfl) rfl ?_
  refine g_ls [2, 1, 0] rfl ?_
  exact s_Table_countFree_L4 htr 100000000000 bt 0 2 _ hf _ rfl
def f_V_look (ll : Int32) (he : Int32) (en : Nat → Int32) (po : Nat → Int32) (pw : Int32) (wr : Int32) (bt : Nat → Int32) (x1 : Int32) : Option (Int32) :=
  (if x1 = 0 then (if pw = 0 then some 0 else some 1) else (if x1 = 1 then some wr else (if x1 = 2 then ((f_Table_countFree bt).bind fun r5 => some r5) else (if x1 = 3 then some he else (if x1 = 4 then some ll else (if x1 < 10 then some (-1) else ((f_Ses_isOpen en (x1 - 10)).bind fun r10 => (if r10 = 0 then some (-1) else ((f_Ses_positionOf po (x1 - 10)).bind fun r13 => some r13)))))))))
set_option maxHeartbeats 4000000 in
set_option maxRecDepth 100000 in
theorem s_V_look {l : Launch} {D : va_G} {dA : FieldType → ClassId} (htr : l.stackTraces = false) {rest : List am_E} {ll : Int32} {he : Int32} {de : Int32} {li : Nat → Int32} {en : Nat → Int32} {po : Nat → Int32} {pw : Int32} {su : Int32} {wr : Int32} {cs : Int32} {wb : Int32} {bt : Nat → Int32} {ct : Int32} {lc : Int32} {ad : Nat → Int32} {ctb : Int32} {lcb : Int32} {adb : Nat → Int32} {fx : Int32} {us : Nat → Int32} {ln : Int32} {pt : Int32} {tx : Nat → Int32} {br : Nat → Int32} {rw : Nat → Int32}  {x1 : Int32} {r : Int32} (hf : f_V_look ll he en po pw wr bt x1 = some r) {o : am_O} (ho : .inl (some (.int r)) = o) :
    am_M (am_kk l D dA) y_V_look ws_V_look (am_rm 4 o) [.ref 0, .int x1] (hC ll he de li en po pw su wr cs wb bt ct lc ad ctb lcb adb fx us ln pt tx br rw rest) o (hC ll he de li en po pw su wr cs wb bt ct lc ad ctb lcb adb fx us ln pt tx br rw rest) := by
  subst ho
  refine am_body (by decide) rfl (Nat.le_of_ble_eq_true rfl) rfl ?_
  rw [f_V_look] at hf
  refine g_iload_n (n := 1) d_V_look_0 rfl 1 rfl rfl ?_
  by_cases q1 : x1 = 0
  · have hf := ob_pos q1 hf
    refine g_tabIn (n := 36) d_V_look_1 (by rw [q1]; decide) (by rw [q1]; decide) (by rw [q1]; rfl) (by decide) ?_
    refine g_aload_n (n := 37) d_V_look_36 rfl 0 rfl rfl ?_
    refine g_get (n := 40) (q0 := 0) d_V_look_37 rfl (am_fl in_V rfl (by decide : 1 < 8)) (List.mem_cons_of_mem _ tw_174) rfl rfl ?_
    refine g_getN (n := 43) (q0 := 5) d_V_look_40 rfl (am_fl in_Disk rfl (by decide : 2 < 7)) nw_72 rfl rfl ?_
    refine g_if_eq (n := 46) (tgt := 50) d_V_look_43 rfl (by decide) (fun q2 => ?_) (fun q2 => ?_)
    · have hf := ob_pos q2 hf
      refine g_iconst (n := 51) (v := 0) d_V_look_50 rfl (by decide) ?_
      cases hf
      exact g_iret d_V_look_51 rfl (Nat.zero_le _) (Nat.zero_le _)
    · have hf := ob_neg q2 hf
      refine g_iconst (n := 47) (v := 1) d_V_look_46 rfl (by decide) ?_
      refine g_goto (n := 51) d_V_look_47 (by decide) ?_
      cases hf
      exact g_iret d_V_look_51 rfl (Nat.zero_le _) (Nat.zero_le _)
  · have hf := ob_neg q1 hf
    by_cases q3 : x1 = 1
    · have hf := ob_pos q3 hf
      refine g_tabIn (n := 52) d_V_look_1 (by rw [q3]; decide) (by rw [q3]; decide) (by rw [q3]; rfl) (by decide) ?_
      refine g_aload_n (n := 53) d_V_look_52 rfl 0 rfl rfl ?_
      refine g_get (n := 56) (q0 := 0) d_V_look_53 rfl (am_fl in_V rfl (by decide : 1 < 8)) (List.mem_cons_of_mem _ tw_174) rfl rfl ?_
      refine g_getN (n := 59) (q0 := 5) d_V_look_56 rfl (am_fl in_Disk rfl (by decide : 4 < 7)) nw_75 rfl rfl ?_
      cases hf
      exact g_iret d_V_look_59 rfl (Nat.zero_le _) (Nat.zero_le _)
    · have hf := ob_neg q3 hf
      by_cases q4 : x1 = 2
      · have hf := ob_pos q4 hf
        refine g_tabIn (n := 60) d_V_look_1 (by rw [q4]; decide) (by rw [q4]; decide) (by rw [q4]; rfl) (by decide) ?_
        refine g_aload_n (n := 61) d_V_look_60 rfl 0 rfl rfl ?_
        refine g_get (n := 64) (q0 := 0) d_V_look_61 rfl (am_fl in_V rfl (by decide : 2 < 8)) (List.mem_cons_of_mem _ tw_175) rfl rfl ?_
        obtain ⟨r5, h6, hf⟩ := ob_bind hf
        refine c_Vr (n := 67) (st' := [.int r5]) [] [] d_V_look_64 rfl (s_Table_countFree htr h6 rfl) tw_278 tw_279 tw_280 tw_4 tw_281 hd_Table_countFree (by omega) (by decide) (ci := 5) rfl rfl rfl (Nat.le_of_ble_eq_true rfl) rfl rfl ?_
        cases hf
        exact g_iret d_V_look_67 rfl (Nat.zero_le _) (Nat.zero_le _)
      · have hf := ob_neg q4 hf
        by_cases q7 : x1 = 3
        · have hf := ob_pos q7 hf
          refine g_tabIn (n := 68) d_V_look_1 (by rw [q7]; decide) (by rw [q7]; decide) (by rw [q7]; rfl) (by decide) ?_
          refine g_aload_n (n := 69) d_V_look_68 rfl 0 rfl rfl ?_
          refine g_get (n := 72) (q0 := 0) d_V_look_69 rfl (am_fl in_V rfl (by decide : 0 < 8)) (List.mem_cons_of_mem _ tw_173) rfl rfl ?_
          refine g_getN (n := 75) (q0 := 1) d_V_look_72 rfl (am_fl in_Ses rfl (by decide : 4 < 6)) nw_45 rfl rfl ?_
          cases hf
          exact g_iret d_V_look_75 rfl (Nat.zero_le _) (Nat.zero_le _)
        · have hf := ob_neg q7 hf
          by_cases q8 : x1 = 4
          · have hf := ob_pos q8 hf
            refine g_tabIn (n := 76) d_V_look_1 (by rw [q8]; decide) (by rw [q8]; decide) (by rw [q8]; rfl) (by decide) ?_
            refine g_aload_n (n := 77) d_V_look_76 rfl 0 rfl rfl ?_
            refine g_get (n := 80) (q0 := 0) d_V_look_77 rfl (am_fl in_V rfl (by decide : 0 < 8)) (List.mem_cons_of_mem _ tw_173) rfl rfl ?_
            refine g_getN (n := 83) (q0 := 1) d_V_look_80 rfl (am_fl in_Ses rfl (by decide : 3 < 6)) nw_43 rfl rfl ?_
            cases hf
            exact g_iret d_V_look_83 rfl (Nat.zero_le _) (Nat.zero_le _)
          · have hf := ob_neg q8 hf
            refine g_tabOut (n := 84) d_V_look_1 (by have z0 := lv_neT q1 (a := 0) (by decide); have z1 := lv_neT q3 (a := 1) (by decide); have z2 := lv_neT q4 (a := 2) (by decide); have z3 := lv_neT q7 (a := 3) (by decide); have z4 := lv_neT q8 (a := 4) (by decide); omega) (by decide) ?_
            refine g_iload_n (n := 85) d_V_look_84 rfl 1 rfl rfl ?_
            refine g_bipush (n := 87) (v := 10) d_V_look_85 rfl (by decide) ?_
            refine g_icmp_lt (n := 90) (tgt := 118) d_V_look_87 rfl (by decide) (fun q9 => ?_) (fun q9 => ?_)
            · have hf := ob_pos q9 hf
              refine g_iconst (n := 119) (v := (-1)) d_V_look_118 rfl (by decide) ?_
              cases hf
              exact g_iret d_V_look_119 rfl (Nat.zero_le _) (Nat.zero_le _)
            · have hf := ob_neg q9 hf
              refine g_aload_n (n := 91) d_V_look_90 rfl 0 rfl rfl ?_
              refine g_get (n := 94) (q0 := 0) d_V_look_91 rfl (am_fl in_V rfl (by decide : 0 < 8)) (List.mem_cons_of_mem _ tw_173) rfl rfl ?_
              refine g_iload_n (n := 95) d_V_look_94 rfl 1 rfl rfl ?_
              refine g_bipush (n := 97) (v := 10) d_V_look_95 rfl (by decide) ?_
              refine g_isub (n := 98) d_V_look_97 rfl ?_
              obtain ⟨r10, h11, hf⟩ := ob_bind hf
              refine c_Vr (n := 101) (st' := [.int r10]) [.int (x1 - 10)] [] d_V_look_98 rfl (s_Ses_isOpen htr h11 rfl) tw_210 tw_211 tw_212 tw_2 tw_213 hd_Ses_isOpen (by omega) (by decide) (ci := 4) rfl rfl rfl (Nat.le_of_ble_eq_true rfl) rfl rfl ?_
              refine g_if_eq (n := 104) (tgt := 118) d_V_look_101 rfl (by decide) (fun q12 => ?_) (fun q12 => ?_)
              · have hf := ob_pos q12 hf
                refine g_iconst (n := 119) (v := (-1)) d_V_look_118 rfl (by decide) ?_
                cases hf
                exact g_iret d_V_look_119 rfl (Nat.zero_le _) (Nat.zero_le _)
              · have hf := ob_neg q12 hf
                refine g_aload_n (n := 105) d_V_look_104 rfl 0 rfl rfl ?_
                refine g_get (n := 108) (q0 := 0) d_V_look_105 rfl (am_fl in_V rfl (by decide : 0 < 8)) (List.mem_cons_of_mem _ tw_173) rfl rfl ?_
                refine g_iload_n (n := 109) d_V_look_108 rfl 1 rfl rfl ?_
                refine g_bipush (n := 111) (v := 10) d_V_look_109 rfl (by decide) ?_
                refine g_isub (n := 112) d_V_look_111 rfl ?_
                obtain ⟨r13, h14, hf⟩ := ob_bind hf
                refine c_Vr (n := 115) (st' := [.int r13]) [.int (x1 - 10)] [] d_V_look_112 rfl (s_Ses_positionOf htr h14 rfl) tw_291 tw_292 tw_293 tw_2 tw_294 hd_Ses_positionOf (by omega) (by decide) (ci := 4) rfl rfl rfl (Nat.le_of_ble_eq_true rfl) rfl rfl ?_
                refine g_goto (n := 119) d_V_look_115 (by decide) ?_
                cases hf
                exact g_iret d_V_look_119 rfl (Nat.zero_le _) (Nat.zero_le _)
