def f_V_addressInChain (bt : Nat → Int32) (x1 : Int32) (x2 : Int32) : Option (Int32) :=
  ((f_Table_clusterAt bt x1 (x2 / 32)).bind fun r1 => ((f_V_sectorOf r1).bind fun r3 => some ((r3 * 32) + (x2 - x2 / 32 * 32))))
set_option maxHeartbeats 4000000 in
set_option maxRecDepth 100000 in
theorem s_V_addressInChain {l : Launch} {D : va_G} {dA : FieldType → ClassId} (htr : l.stackTraces = false) {rest : List am_E} {ll : Int32} {he : Int32} {de : Int32} {li : Nat → Int32} {en : Nat → Int32} {po : Nat → Int32} {pw : Int32} {su : Int32} {wr : Int32} {cs : Int32} {wb : Int32} {bt : Nat → Int32} {ct : Int32} {lc : Int32} {ad : Nat → Int32} {ctb : Int32} {lcb : Int32} {adb : Nat → Int32} {fx : Int32} {us : Nat → Int32} {ln : Int32} {pt : Int32} {tx : Nat → Int32} {br : Nat → Int32} {rw : Nat → Int32}  {x1 : Int32} {x2 : Int32} {r : Int32} (hf : f_V_addressInChain bt x1 x2 = some r) {o : am_O} (ho : .inl (some (.int r)) = o) :
    am_M (am_kk l D dA) y_V_addressInChain ws_V_addressInChain (am_rm 3 o) [.ref 0, .int x1, .int x2] (hC ll he de li en po pw su wr cs wb bt ct lc ad ctb lcb adb fx us ln pt tx br rw rest) o (hC ll he de li en po pw su wr cs wb bt ct lc ad ctb lcb adb fx us ln pt tx br rw rest) := by
  subst ho
  refine am_body (by decide) rfl (Nat.le_of_ble_eq_true rfl) rfl ?_
  rw [f_V_addressInChain] at hf
  refine g_aload_n (n := 1) d_V_addressInChain_0 rfl 0 rfl rfl ?_
  refine g_get (n := 4) (q0 := 0) d_V_addressInChain_1 rfl (am_fl in_V rfl (by decide : 2 < 8)) (List.mem_cons_of_mem _ tw_175) rfl rfl ?_
  refine g_iload_n (n := 5) d_V_addressInChain_4 rfl 1 rfl rfl ?_
  refine g_iload_n (n := 6) d_V_addressInChain_5 rfl 2 rfl rfl ?_
  refine g_bipush (n := 8) (v := 32) d_V_addressInChain_6 rfl (by decide) ?_
  refine g_idiv (n := 9) d_V_addressInChain_8 rfl (by decide) ?_
  obtain ⟨r1, h2, hf⟩ := ob_bind hf
  refine c_Vr (n := 12) (st' := [.int r1]) [.int x1, .int (x2 / 32)] [] d_V_addressInChain_9 rfl (s_Table_clusterAt htr h2 rfl) tw_701 tw_702 tw_703 tw_4 tw_704 hd_Table_clusterAt (by omega) (by decide) (ci := 5) rfl rfl rfl (Nat.le_of_ble_eq_true rfl) rfl rfl ?_
  refine g_istore_n (n := 13) (ls' := [(3, .int r1), (0, .ref 0), (1, .int x1), (2, .int x2)]) d_V_addressInChain_12 rfl rfl (am_ltb rfl) rfl ?_
  refine g_iload_n (n := 14) d_V_addressInChain_13 rfl 0 rfl rfl ?_
  obtain ⟨r3, h4, hf⟩ := ob_bind hf
  refine c_Sr (n := 17) (st' := [.int r3]) [.int r1] [] d_V_addressInChain_14 rfl (s_V_sectorOf htr h4 rfl) tw_705 tw_415 tw_1 tw_416 rfl hd_V_sectorOf (by omega) (by decide) rfl (Nat.le_of_ble_eq_true rfl) rfl rfl ?_
  refine g_bipush (n := 19) (v := 32) d_V_addressInChain_17 rfl (by decide) ?_
  refine g_imul (n := 20) d_V_addressInChain_19 rfl ?_
  refine g_iload_n (n := 21) d_V_addressInChain_20 rfl 3 rfl rfl ?_
  refine g_bipush (n := 23) (v := 32) d_V_addressInChain_21 rfl (by decide) ?_
  refine g_irem (n := 24) d_V_addressInChain_23 rfl (by decide) ?_
  refine g_iadd (n := 25) d_V_addressInChain_24 rfl ?_
  cases hf
  exact g_iret d_V_addressInChain_25 rfl (Nat.zero_le _) (Nat.zero_le _)
def f_V_read_L84 : Nat → (Nat → Int32) → (Nat → Int32) → Int32 → Int32 → (Nat → Int32) → Int32 → Int32 → Int32 → Int32 → Int64 → Int32 → Option ((String ⊕ Int64) × (Nat → Int32))
  | 0, _, _, _, _, _, _, _, _, _, _, _ => none
  | fuel + 1, en, po, pw, su, bt, x1, x3, x4, x5, x6, x8 =>
  (if x5 ≤ x8 then ((f_Ses_moveTo po x1 (x3 + x5)).bind fun r20 => some (.inr (x6 ||| (x5.toInt64 <<< ((56 : Int32).toInt64 &&& 63))), r20)) else ((f_V_addressInChain bt x4 (x3 + x8)).bind fun r22 => ((f_Disk_at bt r22).bind fun r24 => f_V_read_L84 fuel en po pw su bt x1 x3 x4 x5 ((x6 <<< ((8 : Int32).toInt64 &&& 63)) ||| r24.toInt64) (x8 + 1))))
set_option maxHeartbeats 4000000 in
set_option maxRecDepth 100000 in
theorem s_V_read_L84 {l : Launch} {D : va_G} {dA : FieldType → ClassId} (htr : l.stackTraces = false) {rest : List am_E} {ll : Int32} {he : Int32} {de : Int32} {li : Nat → Int32} {wr : Int32} {cs : Int32} {wb : Int32} {ct : Int32} {lc : Int32} {ad : Nat → Int32} {ctb : Int32} {lcb : Int32} {adb : Nat → Int32} {fx : Int32} {us : Nat → Int32} {ln : Int32} {pt : Int32} {tx : Nat → Int32} {br : Nat → Int32} {rw : Nat → Int32}  : ∀ (fuel : Nat) (en : Nat → Int32) (po : Nat → Int32) (pw : Int32) (su : Int32) (bt : Nat → Int32) (x1 : Int32) (x3 : Int32) (x4 : Int32) (x5 : Int32) (x6 : Int64) (x8 : Int32) (r : (String ⊕ Int64) × (Nat → Int32)), f_V_read_L84 fuel en po pw su bt x1 x3 x4 x5 x6 x8 = some r → ∀ o : am_O, am_ol r.1 = o →
    am_G (am_kk l D dA) (ws_V_read, y_V_read.cls, prog_1_method_9_code, 9, (some .long), y_V_read.name, [], am_rm 4 (o), none) o (hC ll he de li en r.2 pw su wr cs wb bt ct lc ad ctb lcb adb fx us ln pt tx br rw rest) 0 0 84 [(0, .ref 0), (1, .int x1), (3, .int x3), (4, .int x4), (5, .int x5), (6, .long x6), (8, .int x8)] [] (hC ll he de li en po pw su wr cs wb bt ct lc ad ctb lcb adb fx us ln pt tx br rw rest) := by
  intro fuel
  induction fuel with
  | zero =>
    intro en po pw su bt x1 x3 x4 x5 x6 x8 r hf
    cases hf
  | succ fuel ih =>
    intro en po pw su bt x1 x3 x4 x5 x6 x8 r hf o ho
    subst ho
    rw [f_V_read_L84] at hf
    refine g_iload (n := 86) d_V_read_84 rfl 6 rfl ?_
    refine g_iload (n := 88) d_V_read_86 rfl 4 rfl ?_
    refine g_icmp_ge (n := 91) (tgt := 123) d_V_read_88 rfl (by decide) (fun q19 => ?_) (fun q19 => ?_)
    · have hf := ob_pos q19 hf
      refine g_aload_n (n := 124) d_V_read_123 rfl 0 rfl rfl ?_
      refine g_get (n := 127) (q0 := 0) d_V_read_124 rfl (am_fl in_V rfl (by decide : 0 < 8)) (List.mem_cons_of_mem _ tw_173) rfl rfl ?_
      refine g_iload_n (n := 128) d_V_read_127 rfl 1 rfl rfl ?_
      refine g_iload_n (n := 129) d_V_read_128 rfl 2 rfl rfl ?_
      refine g_iload (n := 131) d_V_read_129 rfl 4 rfl ?_
      refine g_iadd (n := 132) d_V_read_131 rfl ?_
      obtain ⟨r20, h21, hf⟩ := ob_bind hf
      refine c_Vr (n := 135) (st' := []) [.int x1, .int (x3 + x5)] [] d_V_read_132 rfl (s_Ses_moveTo htr h21 rfl) tw_234 tw_235 tw_236 tw_2 tw_237 hd_Ses_moveTo (by omega) (by decide) (ci := 4) rfl rfl rfl (Nat.le_of_ble_eq_true rfl) rfl rfl ?_
      refine g_lload (n := 137) d_V_read_135 rfl 5 rfl ?_
      refine g_iload (n := 139) d_V_read_137 rfl 4 rfl ?_
      refine g_i2l (n := 140) d_V_read_139 rfl ?_
      refine g_bipush (n := 142) (v := 56) d_V_read_140 rfl (by decide) ?_
      refine g_lshl (n := 143) d_V_read_142 rfl ?_
      refine g_lor (n := 144) d_V_read_143 rfl ?_
      cases hf
      exact g_lret d_V_read_144 rfl (Nat.zero_le _) (Nat.zero_le _)
    · have hf := ob_neg q19 hf
      refine g_lload (n := 93) d_V_read_91 rfl 5 rfl ?_
      refine g_bipush (n := 95) (v := 8) d_V_read_93 rfl (by decide) ?_
      refine g_lshl (n := 96) d_V_read_95 rfl ?_
      refine g_aload_n (n := 97) d_V_read_96 rfl 0 rfl rfl ?_
      refine g_get (n := 100) (q0 := 0) d_V_read_97 rfl (am_fl in_V rfl (by decide : 1 < 8)) (List.mem_cons_of_mem _ tw_174) rfl rfl ?_
      refine g_aload_n (n := 101) d_V_read_100 rfl 0 rfl rfl ?_
      refine g_iload (n := 103) d_V_read_101 rfl 3 rfl ?_
      refine g_iload_n (n := 104) d_V_read_103 rfl 2 rfl rfl ?_
      refine g_iload (n := 106) d_V_read_104 rfl 6 rfl ?_
      refine g_iadd (n := 107) d_V_read_106 rfl ?_
      obtain ⟨r22, h23, hf⟩ := ob_bind hf
      refine c_Vr (n := 110) (st' := [.int r22, .ref 5, .long (x6 <<< ((8 : Int32).toInt64 &&& 63))]) [.int x4, .int (x3 + x8)] [.ref 5, .long (x6 <<< ((8 : Int32).toInt64 &&& 63))] d_V_read_107 rfl (s_V_addressInChain htr h23 rfl) tw_697 tw_699 (am_memS 6 (by decide +kernel) (by decide +kernel)) tw_1 tw_700 hd_V_addressInChain (by omega) (by decide) (ci := 6) rfl rfl rfl (Nat.le_of_ble_eq_true rfl) rfl rfl ?_
      obtain ⟨r24, h25, hf⟩ := ob_bind hf
      refine c_Vr (n := 113) (st' := [.int r24, .long (x6 <<< ((8 : Int32).toInt64 &&& 63))]) [.int r22] [.long (x6 <<< ((8 : Int32).toInt64 &&& 63))] d_V_read_110 rfl (s_Disk_at htr h25 rfl) tw_261 tw_262 tw_263 tw_3 tw_264 hd_Disk_at (by omega) (by decide) (ci := 0) rfl rfl rfl (Nat.le_of_ble_eq_true rfl) rfl rfl ?_
      refine g_i2l (n := 114) d_V_read_113 rfl ?_
      refine g_lor (n := 115) d_V_read_114 rfl ?_
      refine g_lstore (n := 117) (ls' := [(6, .long ((x6 <<< ((8 : Int32).toInt64 &&& 63)) ||| r24.toInt64)), (0, .ref 0), (1, .int x1), (3, .int x3), (4, .int x4), (5, .int x5), (8, .int x8)]) d_V_read_115 rfl (am_ltb rfl) rfl ?_
      refine g_iinc (n := 120) (v := (x8 + 1)) (ls' := [(8, .int (x8 + 1)), (6, .long ((x6 <<< ((8 : Int32).toInt64 &&& 63)) ||| r24.toInt64)), (0, .ref 0), (1, .int x1), (3, .int x3), (4, .int x4), (5, .int x5)]) d_V_read_117 rfl 6 rfl rfl (am_ltb rfl) rfl ?_
      refine g_goto (n := 84) d_V_read_120 (by decide) ?_
      refine g_ls [2, 3, 4, 5, 6, 1, 0] rfl ?_
      exact ih en po pw su bt x1 x3 x4 x5 ((x6 <<< ((8 : Int32).toInt64 &&& 63)) ||| r24.toInt64) (x8 + 1) _ hf _ rfl
def f_V_read (en : Nat → Int32) (po : Nat → Int32) (pw : Int32) (su : Int32) (bt : Nat → Int32) (x1 : Int32) (x2 : Int32) : Option ((String ⊕ Int64) × (Nat → Int32)) :=
  ((f_V_demandSoundDisk pw su).bind fun r1 => am_t r1 (fun E3 => some (.inl E3, po)) (fun v4 => ((f_Ses_isOpen en x1).bind fun r6 => (if r6 = 0 then some (.inl "java/lang/IllegalArgumentException", po) else (if x2 < 1 then some (.inl "java/lang/IllegalArgumentException", po) else (if x2 ≤ 7 then ((f_Ses_positionOf po x1).bind fun r11 => ((f_Ses_entryOf en x1).bind fun r13 => ((f_Disk_pairAt bt (r13 + 8)).bind fun r15 => ((f_V_sizeOfFile en bt x1).bind fun r17 => f_V_read_L84 100000000000 en po pw su bt x1 r11 r15 (if (r17 - r11) < x2 then (r17 - r11) else x2) 0 0)))) else some (.inl "java/lang/IllegalArgumentException", po)))))))
set_option maxHeartbeats 4000000 in
set_option maxRecDepth 100000 in
theorem s_V_read {l : Launch} {D : va_G} {dA : FieldType → ClassId} (htr : l.stackTraces = false) {rest : List am_E} {ll : Int32} {he : Int32} {de : Int32} {li : Nat → Int32} {en : Nat → Int32} {po : Nat → Int32} {pw : Int32} {su : Int32} {wr : Int32} {cs : Int32} {wb : Int32} {bt : Nat → Int32} {ct : Int32} {lc : Int32} {ad : Nat → Int32} {ctb : Int32} {lcb : Int32} {adb : Nat → Int32} {fx : Int32} {us : Nat → Int32} {ln : Int32} {pt : Int32} {tx : Nat → Int32} {br : Nat → Int32} {rw : Nat → Int32}  {x1 : Int32} {x2 : Int32} {r : (String ⊕ Int64) × (Nat → Int32)} (hf : f_V_read en po pw su bt x1 x2 = some r) {o : am_O} (ho : am_ol r.1 = o) :
    am_M (am_kk l D dA) y_V_read ws_V_read (am_rm 4 o) [.ref 0, .int x1, .int x2] (hC ll he de li en po pw su wr cs wb bt ct lc ad ctb lcb adb fx us ln pt tx br rw rest) o (hC ll he de li en r.2 pw su wr cs wb bt ct lc ad ctb lcb adb fx us ln pt tx br rw rest) := by
  subst ho
  refine am_body (by decide) rfl (Nat.le_of_ble_eq_true rfl) rfl ?_
  rw [f_V_read] at hf
  refine g_aload_n (n := 1) d_V_read_0 rfl 0 rfl rfl ?_
  obtain ⟨r1, h2, hf⟩ := ob_bind hf
  rcases ob_t hf with ⟨E3, w5, hf⟩ | ⟨v4, w5, hf⟩
  · cases hf
    refine c_Vx (n := 4) (st' := []) [] [] d_V_read_1 rfl (s_V_demandSoundDisk htr h2 (by rw [w5]; rfl)) tw_305 tw_307 (am_memS 1 (by decide +kernel) (by decide +kernel)) tw_1 tw_308 hd_V_demandSoundDisk (by omega) (by decide) (ci := 6) rfl rfl rfl (Nat.le_of_ble_eq_true rfl) rfl ?_
    exact g_out rfl (Nat.le_refl _) (Nat.le_refl _)
  · refine c_Vr (n := 4) (st' := []) [] [] d_V_read_1 rfl (s_V_demandSoundDisk htr h2 (by rw [w5]; rfl)) tw_305 tw_307 (am_memS 1 (by decide +kernel) (by decide +kernel)) tw_1 tw_308 hd_V_demandSoundDisk (by omega) (by decide) (ci := 6) rfl rfl rfl (Nat.le_of_ble_eq_true rfl) rfl rfl ?_
    refine g_aload_n (n := 5) d_V_read_4 rfl 0 rfl rfl ?_
    refine g_get (n := 8) (q0 := 0) d_V_read_5 rfl (am_fl in_V rfl (by decide : 0 < 8)) (List.mem_cons_of_mem _ tw_173) rfl rfl ?_
    refine g_iload_n (n := 9) d_V_read_8 rfl 1 rfl rfl ?_
    obtain ⟨r6, h7, hf⟩ := ob_bind hf
    refine c_Vr (n := 12) (st' := [.int r6]) [.int x1] [] d_V_read_9 rfl (s_Ses_isOpen htr h7 rfl) tw_210 tw_211 tw_212 tw_2 tw_213 hd_Ses_isOpen (by omega) (by decide) (ci := 4) rfl rfl rfl (Nat.le_of_ble_eq_true rfl) rfl rfl ?_
    refine g_if_eq (n := 15) (tgt := 26) d_V_read_12 rfl (by decide) (fun q8 => ?_) (fun q8 => ?_)
    · have hf := ob_pos q8 hf
      cases hf
      exact c_T htr (by decide +kernel) e_IllegalArgumentException_0 e_IllegalArgumentException_1 e_IllegalArgumentException_2 e_IllegalArgumentException_5 tw_391 tw_13 rfl (List.mem_of_getElem? (i := 10) rfl) at_V_84 d_V_read_26 d_V_read_29 (Or.inl ⟨d_V_read_30, rfl⟩) d_V_read_32 d_V_read_35 (Nat.le_of_ble_eq_true rfl)
    · have hf := ob_neg q8 hf
      refine g_iload_n (n := 16) d_V_read_15 rfl 2 rfl rfl ?_
      refine g_iconst (n := 17) (v := 1) d_V_read_16 rfl (by decide) ?_
      refine g_icmp_lt (n := 20) (tgt := 26) d_V_read_17 rfl (by decide) (fun q9 => ?_) (fun q9 => ?_)
      · have hf := ob_pos q9 hf
        cases hf
        exact c_T htr (by decide +kernel) e_IllegalArgumentException_0 e_IllegalArgumentException_1 e_IllegalArgumentException_2 e_IllegalArgumentException_5 tw_391 tw_13 rfl (List.mem_of_getElem? (i := 10) rfl) at_V_84 d_V_read_26 d_V_read_29 (Or.inl ⟨d_V_read_30, rfl⟩) d_V_read_32 d_V_read_35 (Nat.le_of_ble_eq_true rfl)
      · have hf := ob_neg q9 hf
        refine g_iload_n (n := 21) d_V_read_20 rfl 2 rfl rfl ?_
        refine g_bipush (n := 23) (v := 7) d_V_read_21 rfl (by decide) ?_
        refine g_icmp_le (n := 26) (tgt := 36) d_V_read_23 rfl (by decide) (fun q10 => ?_) (fun q10 => ?_)
        · have hf := ob_pos q10 hf
          refine g_aload_n (n := 37) d_V_read_36 rfl 0 rfl rfl ?_
          refine g_get (n := 40) (q0 := 0) d_V_read_37 rfl (am_fl in_V rfl (by decide : 0 < 8)) (List.mem_cons_of_mem _ tw_173) rfl rfl ?_
          refine g_iload_n (n := 41) d_V_read_40 rfl 1 rfl rfl ?_
          obtain ⟨r11, h12, hf⟩ := ob_bind hf
          refine c_Vr (n := 44) (st' := [.int r11]) [.int x1] [] d_V_read_41 rfl (s_Ses_positionOf htr h12 rfl) tw_291 tw_292 tw_293 tw_2 tw_294 hd_Ses_positionOf (by omega) (by decide) (ci := 4) rfl rfl rfl (Nat.le_of_ble_eq_true rfl) rfl rfl ?_
          refine g_istore_n (n := 45) (ls' := [(3, .int r11), (0, .ref 0), (1, .int x1), (2, .int x2)]) d_V_read_44 rfl rfl (am_ltb rfl) rfl ?_
          refine g_aload_n (n := 46) d_V_read_45 rfl 1 rfl rfl ?_
          refine g_get (n := 49) (q0 := 0) d_V_read_46 rfl (am_fl in_V rfl (by decide : 1 < 8)) (List.mem_cons_of_mem _ tw_174) rfl rfl ?_
          refine g_aload_n (n := 50) d_V_read_49 rfl 1 rfl rfl ?_
          refine g_get (n := 53) (q0 := 0) d_V_read_50 rfl (am_fl in_V rfl (by decide : 0 < 8)) (List.mem_cons_of_mem _ tw_173) rfl rfl ?_
          refine g_iload_n (n := 54) d_V_read_53 rfl 2 rfl rfl ?_
          obtain ⟨r13, h14, hf⟩ := ob_bind hf
          refine c_Vr (n := 57) (st' := [.int r13, .ref 5]) [.int x1] [.ref 5] d_V_read_54 rfl (s_Ses_entryOf htr h14 rfl) tw_226 tw_227 tw_228 tw_2 tw_229 hd_Ses_entryOf (by omega) (by decide) (ci := 4) rfl rfl rfl (Nat.le_of_ble_eq_true rfl) rfl rfl ?_
          refine g_bipush (n := 59) (v := 8) d_V_read_57 rfl (by decide) ?_
          refine g_iadd (n := 60) d_V_read_59 rfl ?_
          obtain ⟨r15, h16, hf⟩ := ob_bind hf
          refine c_Vr (n := 63) (st' := [.int r15]) [.int (r13 + 8)] [] d_V_read_60 rfl (s_Disk_pairAt htr h16 rfl) tw_230 tw_231 tw_232 tw_3 tw_233 hd_Disk_pairAt (by omega) (by decide) (ci := 0) rfl rfl rfl (Nat.le_of_ble_eq_true rfl) rfl rfl ?_
          refine g_istore (n := 65) (ls' := [(4, .int r15), (3, .int r11), (0, .ref 0), (1, .int x1), (2, .int x2)]) d_V_read_63 rfl (am_ltb rfl) rfl ?_
          refine g_iload_n (n := 66) d_V_read_65 rfl 4 rfl rfl ?_
          refine g_aload_n (n := 67) d_V_read_66 rfl 2 rfl rfl ?_
          refine g_iload_n (n := 68) d_V_read_67 rfl 3 rfl rfl ?_
          obtain ⟨r17, h18, hf⟩ := ob_bind hf
          refine c_Vr (n := 71) (st' := [.int r17, .int x2]) [.int x1] [.int x2] d_V_read_68 rfl (s_V_sizeOfFile htr h18 rfl) tw_222 tw_224 (am_memS 0 (by decide +kernel) (by decide +kernel)) tw_1 tw_225 hd_V_sizeOfFile (by omega) (by decide) (ci := 6) rfl rfl rfl (Nat.le_of_ble_eq_true rfl) rfl rfl ?_
          refine g_iload_n (n := 72) d_V_read_71 rfl 1 rfl rfl ?_
          refine g_isub (n := 73) d_V_read_72 rfl ?_
          refine c_mmin (n := 76) d_V_read_73 rfl tw_694 tw_695 tw_16 tw_696 (Nat.le_of_ble_eq_true rfl) ?_
          refine g_istore (n := 78) (ls' := [(5, .int (if (r17 - r11) < x2 then (r17 - r11) else x2)), (4, .int r15), (3, .int r11), (0, .ref 0), (1, .int x1), (2, .int x2)]) d_V_read_76 rfl (am_ltb rfl) rfl ?_
          refine g_lconst (n := 79) (v := 0) d_V_read_78 rfl (by decide) ?_
          refine g_lstore (n := 81) (ls' := [(6, .long 0), (5, .int (if (r17 - r11) < x2 then (r17 - r11) else x2)), (4, .int r15), (3, .int r11), (0, .ref 0), (1, .int x1), (2, .int x2)]) d_V_read_79 rfl (am_ltb rfl) rfl ?_
          refine g_iconst (n := 82) (v := 0) d_V_read_81 rfl (by decide) ?_
          refine g_istore (n := 84) (ls' := [(8, .int 0), (6, .long 0), (5, .int (if (r17 - r11) < x2 then (r17 - r11) else x2)), (4, .int r15), (3, .int r11), (0, .ref 0), (1, .int x1), (2, .int x2)]) d_V_read_82 rfl (am_ltb rfl) rfl ?_
          refine g_ls [5, 6, 4, 3, 2, 1, 0] rfl ?_
          exact s_V_read_L84 htr 100000000000 en po pw su bt x1 r11 r15 (if (r17 - r11) < x2 then (r17 - r11) else x2) 0 0 _ hf _ rfl
        · have hf := ob_neg q10 hf
          cases hf
          exact c_T htr (by decide +kernel) e_IllegalArgumentException_0 e_IllegalArgumentException_1 e_IllegalArgumentException_2 e_IllegalArgumentException_5 tw_391 tw_13 rfl (List.mem_of_getElem? (i := 10) rfl) at_V_84 d_V_read_26 d_V_read_29 (Or.inl ⟨d_V_read_30, rfl⟩) d_V_read_32 d_V_read_35 (Nat.le_of_ble_eq_true rfl)
def f_Table_lengthOf_L4 : Nat → (Nat → Int32) → Int32 → Int32 → Option (Int32)
  | 0, _, _, _ => none
  | fuel + 1, bt, x2, x3 =>
  (if 64 ≤ x3 then some x3 else ((f_V_isCluster x2).bind fun r2 => (if r2 = 0 then some x3 else ((f_Table_cell bt x2).bind fun r5 => f_Table_lengthOf_L4 fuel bt r5 (x3 + 1)))))
set_option maxHeartbeats 4000000 in
set_option maxRecDepth 100000 in
theorem s_Table_lengthOf_L4 {l : Launch} {D : va_G} {dA : FieldType → ClassId} (htr : l.stackTraces = false) {rest : List am_E} {ll : Int32} {he : Int32} {de : Int32} {li : Nat → Int32} {en : Nat → Int32} {po : Nat → Int32} {pw : Int32} {su : Int32} {wr : Int32} {cs : Int32} {wb : Int32} {ct : Int32} {lc : Int32} {ad : Nat → Int32} {ctb : Int32} {lcb : Int32} {adb : Nat → Int32} {fx : Int32} {us : Nat → Int32} {ln : Int32} {pt : Int32} {tx : Nat → Int32} {br : Nat → Int32} {rw : Nat → Int32}  : ∀ (fuel : Nat) (bt : Nat → Int32) (x2 : Int32) (x3 : Int32) (r : Int32), f_Table_lengthOf_L4 fuel bt x2 x3 = some r → ∀ o : am_O, .inl (some (.int r)) = o →
    am_G (am_kk l D dA) (ws_Table_lengthOf, y_Table_lengthOf.cls, prog_7_method_11_code, 4, (some .int), y_Table_lengthOf.name, [], am_rm 2 (o), none) o (hC ll he de li en po pw su wr cs wb bt ct lc ad ctb lcb adb fx us ln pt tx br rw rest) 0 0 4 [(0, .ref 7), (2, .int x2), (3, .int x3)] [] (hC ll he de li en po pw su wr cs wb bt ct lc ad ctb lcb adb fx us ln pt tx br rw rest) := by
  intro fuel
  induction fuel with
  | zero =>
    intro bt x2 x3 r hf
    cases hf
  | succ fuel ih =>
    intro bt x2 x3 r hf o ho
    subst ho
    rw [f_Table_lengthOf_L4] at hf
    refine g_iload_n (n := 5) d_Table_lengthOf_4 rfl 2 rfl rfl ?_
    refine g_bipush (n := 7) (v := 64) d_Table_lengthOf_5 rfl (by decide) ?_
    refine g_icmp_ge (n := 10) (tgt := 29) d_Table_lengthOf_7 rfl (by decide) (fun q1 => ?_) (fun q1 => ?_)
    · have hf := ob_pos q1 hf
      refine g_iload_n (n := 30) d_Table_lengthOf_29 rfl 2 rfl rfl ?_
      cases hf
      exact g_iret d_Table_lengthOf_30 rfl (Nat.zero_le _) (Nat.zero_le _)
    · have hf := ob_neg q1 hf
      refine g_iload_n (n := 11) d_Table_lengthOf_10 rfl 1 rfl rfl ?_
      obtain ⟨r2, h3, hf⟩ := ob_bind hf
      refine c_SNr (n := 14) (st' := [.int r2]) [.int x2] [] d_Table_lengthOf_11 rfl (s_V_isCluster htr h3 rfl) nw_652 tw_412 tw_1 tw_413 hd_V_isCluster (by omega) (by decide) rfl (Nat.le_of_ble_eq_true rfl) rfl rfl ?_
      refine g_if_eq (n := 17) (tgt := 29) d_Table_lengthOf_14 rfl (by decide) (fun q4 => ?_) (fun q4 => ?_)
      · have hf := ob_pos q4 hf
        refine g_iload_n (n := 30) d_Table_lengthOf_29 rfl 2 rfl rfl ?_
        cases hf
        exact g_iret d_Table_lengthOf_30 rfl (Nat.zero_le _) (Nat.zero_le _)
      · have hf := ob_neg q4 hf
        refine g_aload_n (n := 18) d_Table_lengthOf_17 rfl 0 rfl rfl ?_
        refine g_iload_n (n := 19) d_Table_lengthOf_18 rfl 1 rfl rfl ?_
        obtain ⟨r5, h6, hf⟩ := ob_bind hf
        refine c_Vr (n := 22) (st' := [.int r5]) [.int x2] [] d_Table_lengthOf_19 rfl (s_Table_cell htr h6 rfl) tw_286 tw_287 tw_288 tw_4 tw_289 hd_Table_cell (by omega) (by decide) (ci := 5) rfl rfl rfl (Nat.le_of_ble_eq_true rfl) rfl rfl ?_
        refine g_istore_n (n := 23) (ls' := [(2, .int r5), (0, .ref 7), (3, .int x3)]) d_Table_lengthOf_22 rfl rfl (am_ltb rfl) rfl ?_
        refine g_iinc (n := 26) (v := (x3 + 1)) (ls' := [(3, .int (x3 + 1)), (2, .int r5), (0, .ref 7)]) d_Table_lengthOf_23 rfl 2 rfl rfl (am_ltb rfl) rfl ?_
        refine g_goto (n := 4) d_Table_lengthOf_26 (by decide) ?_
        refine g_ls [2, 1, 0] rfl ?_
        exact ih bt r5 (x3 + 1) _ hf _ rfl
def f_Table_lengthOf (bt : Nat → Int32) (x1 : Int32) : Option (Int32) :=
  f_Table_lengthOf_L4 100000000000 bt x1 0
set_option maxHeartbeats 4000000 in
set_option maxRecDepth 100000 in
theorem s_Table_lengthOf {l : Launch} {D : va_G} {dA : FieldType → ClassId} (htr : l.stackTraces = false) {rest : List am_E} {ll : Int32} {he : Int32} {de : Int32} {li : Nat → Int32} {en : Nat → Int32} {po : Nat → Int32} {pw : Int32} {su : Int32} {wr : Int32} {cs : Int32} {wb : Int32} {bt : Nat → Int32} {ct : Int32} {lc : Int32} {ad : Nat → Int32} {ctb : Int32} {lcb : Int32} {adb : Nat → Int32} {fx : Int32} {us : Nat → Int32} {ln : Int32} {pt : Int32} {tx : Nat → Int32} {br : Nat → Int32} {rw : Nat → Int32}  {x1 : Int32} {r : Int32} (hf : f_Table_lengthOf bt x1 = some r) {o : am_O} (ho : .inl (some (.int r)) = o) :
    am_M (am_kk l D dA) y_Table_lengthOf ws_Table_lengthOf (am_rm 2 o) [.ref 7, .int x1] (hC ll he de li en po pw su wr cs wb bt ct lc ad ctb lcb adb fx us ln pt tx br rw rest) o (hC ll he de li en po pw su wr cs wb bt ct lc ad ctb lcb adb fx us ln pt tx br rw rest) := by
  subst ho
  refine am_body (by decide) rfl (Nat.le_of_ble_eq_true rfl) rfl ?_
  rw [f_Table_lengthOf] at hf
  refine g_iload_n (n := 1) d_Table_lengthOf_0 rfl 1 rfl rfl ?_
  refine g_istore_n (n := 2) (ls' := [(2, .int x1), (0, .ref 7), (1, .int x1)]) d_Table_lengthOf_1 rfl rfl (am_ltb rfl) rfl ?_
  refine g_iconst (n := 3) (v := 0) d_Table_lengthOf_2 rfl (by decide) ?_
  refine g_istore_n (n := 4) (ls' := [(3, .int 0), (2, .int x1), (0, .ref 7), (1, .int x1)]) d_Table_lengthOf_3 rfl rfl (am_ltb rfl) rfl ?_
  refine g_ls [2, 1, 0] rfl ?_
  exact s_Table_lengthOf_L4 htr 100000000000 bt x1 0 _ hf _ rfl
def f_V_roomAfterGrowing_L22 : Nat → am_WS → Int32 → Int32 → Int32 → Int32 → Option ((String ⊕ Int32) × am_WS)
  | 0, _, _, _, _, _ => none
  | fuel + 1, g, x1, x2, x3, x4 =>
  (if 64 ≤ x4 then some (.inr (x3 * 32), g) else (if x2 ≤ (x3 * 32) then some (.inr (x3 * 32), g) else ((f_Table_take g).bind fun r7 => am_t r7.1 (fun E9 => some (.inl E9, r7.2)) (fun v10 => (if v10 = 0 then some (.inr (x3 * 32), r7.2) else (if x3 = 0 then ((f_Disk_writePair r7.2 (x1 + 8) v10).bind fun r23 => am_t r23.1 (fun E25 => some (.inl E25, r23.2)) (fun v26 => f_V_roomAfterGrowing_L22 fuel r23.2 x1 x2 (x3 + 1) (x4 + 1))) else ((f_Disk_pairAt r7.2.2.2.2.2.2.2.2.2.2 (x1 + 8)).bind fun r14 => ((f_Table_clusterAt r7.2.2.2.2.2.2.2.2.2.2 r14 (x3 - 1)).bind fun r16 => ((f_Table_set r7.2 r16 v10).bind fun r18 => am_t r18.1 (fun E20 => some (.inl E20, r18.2)) (fun v21 => f_V_roomAfterGrowing_L22 fuel r18.2 x1 x2 (x3 + 1) (x4 + 1)))))))))))
set_option maxHeartbeats 4000000 in
set_option maxRecDepth 100000 in
theorem s_V_roomAfterGrowing_L22 {l : Launch} {D : va_G} {dA : FieldType → ClassId} (htr : l.stackTraces = false) {rest : List am_E} {li : Nat → Int32} {su : Int32} {ct : Int32} {lc : Int32} {ad : Nat → Int32} {ctb : Int32} {lcb : Int32} {adb : Nat → Int32} {fx : Int32} {us : Nat → Int32} {ln : Int32} {pt : Int32} {tx : Nat → Int32} {br : Nat → Int32} {rw : Nat → Int32}  : ∀ (fuel : Nat) (g : am_WS) (x1 : Int32) (x2 : Int32) (x3 : Int32) (x4 : Int32) (r : (String ⊕ Int32) × am_WS), f_V_roomAfterGrowing_L22 fuel g x1 x2 x3 x4 = some r → ∀ o : am_O, am_oi r.1 = o →
    am_G (am_kk l D dA) (ws_V_roomAfterGrowing, y_V_roomAfterGrowing.cls, prog_1_method_24_code, 7, (some .int), y_V_roomAfterGrowing.name, [], am_rm 5 (o), none) o (hC r.2.1 r.2.2.1 r.2.2.2.1 li r.2.2.2.2.1 r.2.2.2.2.2.1 r.2.2.2.2.2.2.1 su r.2.2.2.2.2.2.2.1 r.2.2.2.2.2.2.2.2.1 r.2.2.2.2.2.2.2.2.2.1 r.2.2.2.2.2.2.2.2.2.2 ct lc ad ctb lcb adb fx us ln pt tx br rw rest) 0 0 22 [(0, .ref 0), (1, .int x1), (2, .int x2), (3, .int x3), (4, .int x4)] [] (hC g.1 g.2.1 g.2.2.1 li g.2.2.2.1 g.2.2.2.2.1 g.2.2.2.2.2.1 su g.2.2.2.2.2.2.1 g.2.2.2.2.2.2.2.1 g.2.2.2.2.2.2.2.2.1 g.2.2.2.2.2.2.2.2.2 ct lc ad ctb lcb adb fx us ln pt tx br rw rest) := by
  intro fuel
  induction fuel with
  | zero =>
    intro g x1 x2 x3 x4 r hf
    cases hf
  | succ fuel ih =>
    intro g x1 x2 x3 x4 r hf o ho
    subst ho
    rw [f_V_roomAfterGrowing_L22] at hf
    refine g_iload (n := 24) d_V_roomAfterGrowing_22 rfl 4 rfl ?_
    refine g_bipush (n := 26) (v := 64) d_V_roomAfterGrowing_24 rfl (by decide) ?_
    refine g_icmp_ge (n := 29) (tgt := 117) d_V_roomAfterGrowing_26 rfl (by decide) (fun q5 => ?_) (fun q5 => ?_)
    · have hf := ob_pos q5 hf
      refine g_iload_n (n := 118) d_V_roomAfterGrowing_117 rfl 3 rfl rfl ?_
      refine g_bipush (n := 120) (v := 32) d_V_roomAfterGrowing_118 rfl (by decide) ?_
      refine g_imul (n := 121) d_V_roomAfterGrowing_120 rfl ?_
      cases hf
      exact g_iret d_V_roomAfterGrowing_121 rfl (Nat.zero_le _) (Nat.zero_le _)
    · have hf := ob_neg q5 hf
      refine g_iload_n (n := 30) d_V_roomAfterGrowing_29 rfl 3 rfl rfl ?_
      refine g_bipush (n := 32) (v := 32) d_V_roomAfterGrowing_30 rfl (by decide) ?_
      refine g_imul (n := 33) d_V_roomAfterGrowing_32 rfl ?_
      refine g_iload_n (n := 34) d_V_roomAfterGrowing_33 rfl 2 rfl rfl ?_
      refine g_icmp_ge (n := 37) (tgt := 117) d_V_roomAfterGrowing_34 rfl (by decide) (fun q6 => ?_) (fun q6 => ?_)
      · have hf := ob_pos q6 hf
        refine g_iload_n (n := 118) d_V_roomAfterGrowing_117 rfl 3 rfl rfl ?_
        refine g_bipush (n := 120) (v := 32) d_V_roomAfterGrowing_118 rfl (by decide) ?_
        refine g_imul (n := 121) d_V_roomAfterGrowing_120 rfl ?_
        cases hf
        exact g_iret d_V_roomAfterGrowing_121 rfl (Nat.zero_le _) (Nat.zero_le _)
      · have hf := ob_neg q6 hf
        refine g_aload_n (n := 38) d_V_roomAfterGrowing_37 rfl 0 rfl rfl ?_
        refine g_get (n := 41) (q0 := 0) d_V_roomAfterGrowing_38 rfl (am_fl in_V rfl (by decide : 2 < 8)) (List.mem_cons_of_mem _ tw_175) rfl rfl ?_
        obtain ⟨r7, h8, hf⟩ := ob_bind hf
        rcases ob_t hf with ⟨E9, w11, hf⟩ | ⟨v10, w11, hf⟩
        · cases hf
          refine c_Vx (n := 44) (st' := []) [] [] d_V_roomAfterGrowing_41 rfl (s_Table_take htr h8 (by rw [w11]; rfl)) tw_521 tw_522 tw_523 tw_4 tw_524 hd_Table_take (by omega) (by decide) (ci := 5) rfl rfl rfl (Nat.le_of_ble_eq_true rfl) rfl ?_
          exact g_out rfl (Nat.le_refl _) (Nat.le_refl _)
        · refine c_Vr (n := 44) (st' := [.int v10]) [] [] d_V_roomAfterGrowing_41 rfl (s_Table_take htr h8 (by rw [w11]; rfl)) tw_521 tw_522 tw_523 tw_4 tw_524 hd_Table_take (by omega) (by decide) (ci := 5) rfl rfl rfl (Nat.le_of_ble_eq_true rfl) rfl rfl ?_
          refine g_istore (n := 46) (ls' := [(5, .int v10), (0, .ref 0), (1, .int x1), (2, .int x2), (3, .int x3), (4, .int x4)]) d_V_roomAfterGrowing_44 rfl (am_ltb rfl) rfl ?_
          refine g_iload (n := 48) d_V_roomAfterGrowing_46 rfl 0 rfl ?_
          refine g_if_ne (n := 51) (tgt := 54) d_V_roomAfterGrowing_48 rfl (by decide) (fun q12 => ?_) (fun q12 => ?_)
          · have hf := ob_neg q12 hf
            refine g_iload_n (n := 55) d_V_roomAfterGrowing_54 rfl 4 rfl rfl ?_
            refine g_if_ne (n := 58) (tgt := 74) d_V_roomAfterGrowing_55 rfl (by decide) (fun q13 => ?_) (fun q13 => ?_)
            · have hf := ob_neg q13 hf
              refine g_aload_n (n := 75) d_V_roomAfterGrowing_74 rfl 1 rfl rfl ?_
              refine g_get (n := 78) (q0 := 0) d_V_roomAfterGrowing_75 rfl (am_fl in_V rfl (by decide : 1 < 8)) (List.mem_cons_of_mem _ tw_174) rfl rfl ?_
              refine g_iload_n (n := 79) d_V_roomAfterGrowing_78 rfl 2 rfl rfl ?_
              refine g_bipush (n := 81) (v := 8) d_V_roomAfterGrowing_79 rfl (by decide) ?_
              refine g_iadd (n := 82) d_V_roomAfterGrowing_81 rfl ?_
              obtain ⟨r14, h15, hf⟩ := ob_bind hf
              refine c_Vr (n := 85) (st' := [.int r14]) [.int (x1 + 8)] [] d_V_roomAfterGrowing_82 rfl (s_Disk_pairAt htr h15 rfl) tw_230 tw_231 tw_232 tw_3 tw_233 hd_Disk_pairAt (by omega) (by decide) (ci := 0) rfl rfl rfl (Nat.le_of_ble_eq_true rfl) rfl rfl ?_
              refine g_istore (n := 87) (ls' := [(6, .int r14), (5, .int v10), (0, .ref 0), (1, .int x1), (2, .int x2), (3, .int x3), (4, .int x4)]) d_V_roomAfterGrowing_85 rfl (am_ltb rfl) rfl ?_
              refine g_aload_n (n := 88) d_V_roomAfterGrowing_87 rfl 2 rfl rfl ?_
              refine g_get (n := 91) (q0 := 0) d_V_roomAfterGrowing_88 rfl (am_fl in_V rfl (by decide : 2 < 8)) (List.mem_cons_of_mem _ tw_175) rfl rfl ?_
              refine g_aload_n (n := 92) d_V_roomAfterGrowing_91 rfl 2 rfl rfl ?_
              refine g_get (n := 95) (q0 := 0) d_V_roomAfterGrowing_92 rfl (am_fl in_V rfl (by decide : 2 < 8)) (List.mem_cons_of_mem _ tw_175) rfl rfl ?_
              refine g_iload (n := 97) d_V_roomAfterGrowing_95 rfl 0 rfl ?_
              refine g_iload_n (n := 98) d_V_roomAfterGrowing_97 rfl 5 rfl rfl ?_
              refine g_iconst (n := 99) (v := 1) d_V_roomAfterGrowing_98 rfl (by decide) ?_
              refine g_isub (n := 100) d_V_roomAfterGrowing_99 rfl ?_
              obtain ⟨r16, h17, hf⟩ := ob_bind hf
              refine c_Vr (n := 103) (st' := [.int r16, .ref 7]) [.int r14, .int (x3 - 1)] [.ref 7] d_V_roomAfterGrowing_100 rfl (s_Table_clusterAt htr h17 rfl) tw_701 tw_702 tw_703 tw_4 tw_704 hd_Table_clusterAt (by omega) (by decide) (ci := 5) rfl rfl rfl (Nat.le_of_ble_eq_true rfl) rfl rfl ?_
              refine g_iload (n := 105) d_V_roomAfterGrowing_103 rfl 1 rfl ?_
              obtain ⟨r18, h19, hf⟩ := ob_bind hf
              rcases ob_t hf with ⟨E20, w22, hf⟩ | ⟨v21, w22, hf⟩
              · cases hf
                refine c_Vx (n := 108) (st' := []) [.int r16, .int v10] [] d_V_roomAfterGrowing_105 rfl (s_Table_set htr h19 (by rw [w22]; rfl)) tw_565 tw_531 tw_532 tw_4 tw_533 hd_Table_set (by omega) (by decide) (ci := 5) rfl rfl rfl (Nat.le_of_ble_eq_true rfl) rfl ?_
                exact g_out rfl (Nat.le_refl _) (Nat.le_refl _)
              · refine c_Vr (n := 108) (st' := []) [.int r16, .int v10] [] d_V_roomAfterGrowing_105 rfl (s_Table_set htr h19 (by rw [w22]; rfl)) tw_565 tw_531 tw_532 tw_4 tw_533 hd_Table_set (by omega) (by decide) (ci := 5) rfl rfl rfl (Nat.le_of_ble_eq_true rfl) rfl rfl ?_
                refine g_iinc (n := 111) (v := (x3 + 1)) (ls' := [(3, .int (x3 + 1)), (6, .int r14), (5, .int v10), (0, .ref 0), (1, .int x1), (2, .int x2), (4, .int x4)]) d_V_roomAfterGrowing_108 rfl 5 rfl rfl (am_ltb rfl) rfl ?_
                refine g_iinc (n := 114) (v := (x4 + 1)) (ls' := [(4, .int (x4 + 1)), (3, .int (x3 + 1)), (6, .int r14), (5, .int v10), (0, .ref 0), (1, .int x1), (2, .int x2)]) d_V_roomAfterGrowing_111 rfl 6 rfl rfl (am_ltb rfl) rfl ?_
                refine g_goto (n := 22) d_V_roomAfterGrowing_114 (by decide) ?_
                refine g_ls [4, 5, 6, 1, 0] rfl ?_
                exact ih r18.2 x1 x2 (x3 + 1) (x4 + 1) _ hf _ rfl
            · have hf := ob_pos q13 hf
              refine g_aload_n (n := 59) d_V_roomAfterGrowing_58 rfl 1 rfl rfl ?_
              refine g_get (n := 62) (q0 := 0) d_V_roomAfterGrowing_59 rfl (am_fl in_V rfl (by decide : 1 < 8)) (List.mem_cons_of_mem _ tw_174) rfl rfl ?_
              refine g_iload_n (n := 63) d_V_roomAfterGrowing_62 rfl 2 rfl rfl ?_
              refine g_bipush (n := 65) (v := 8) d_V_roomAfterGrowing_63 rfl (by decide) ?_
              refine g_iadd (n := 66) d_V_roomAfterGrowing_65 rfl ?_
              refine g_iload (n := 68) d_V_roomAfterGrowing_66 rfl 0 rfl ?_
              obtain ⟨r23, h24, hf⟩ := ob_bind hf
              rcases ob_t hf with ⟨E25, w27, hf⟩ | ⟨v26, w27, hf⟩
              · cases hf
                refine c_Vx (n := 71) (st' := []) [.int (x1 + 8), .int v10] [] d_V_roomAfterGrowing_68 rfl (s_Disk_writePair htr h24 (by rw [w27]; rfl)) tw_723 tw_535 tw_536 tw_3 tw_537 hd_Disk_writePair (by omega) (by decide) (ci := 0) rfl rfl rfl (Nat.le_of_ble_eq_true rfl) rfl ?_
                exact g_out rfl (Nat.le_refl _) (Nat.le_refl _)
              · refine c_Vr (n := 71) (st' := []) [.int (x1 + 8), .int v10] [] d_V_roomAfterGrowing_68 rfl (s_Disk_writePair htr h24 (by rw [w27]; rfl)) tw_723 tw_535 tw_536 tw_3 tw_537 hd_Disk_writePair (by omega) (by decide) (ci := 0) rfl rfl rfl (Nat.le_of_ble_eq_true rfl) rfl rfl ?_
                refine g_goto (n := 108) d_V_roomAfterGrowing_71 (by decide) ?_
                refine g_iinc (n := 111) (v := (x3 + 1)) (ls' := [(3, .int (x3 + 1)), (5, .int v10), (0, .ref 0), (1, .int x1), (2, .int x2), (4, .int x4)]) d_V_roomAfterGrowing_108 rfl 4 rfl rfl (am_ltb rfl) rfl ?_
                refine g_iinc (n := 114) (v := (x4 + 1)) (ls' := [(4, .int (x4 + 1)), (3, .int (x3 + 1)), (5, .int v10), (0, .ref 0), (1, .int x1), (2, .int x2)]) d_V_roomAfterGrowing_111 rfl 5 rfl rfl (am_ltb rfl) rfl ?_
                refine g_goto (n := 22) d_V_roomAfterGrowing_114 (by decide) ?_
                refine g_ls [3, 4, 5, 1, 0] rfl ?_
                exact ih r23.2 x1 x2 (x3 + 1) (x4 + 1) _ hf _ rfl
          · have hf := ob_pos q12 hf
            refine g_goto (n := 117) d_V_roomAfterGrowing_51 (by decide) ?_
            refine g_iload_n (n := 118) d_V_roomAfterGrowing_117 rfl 4 rfl rfl ?_
            refine g_bipush (n := 120) (v := 32) d_V_roomAfterGrowing_118 rfl (by decide) ?_
            refine g_imul (n := 121) d_V_roomAfterGrowing_120 rfl ?_
            cases hf
            exact g_iret d_V_roomAfterGrowing_121 rfl (Nat.zero_le _) (Nat.zero_le _)
def f_V_roomAfterGrowing (g : am_WS) (x1 : Int32) (x2 : Int32) : Option ((String ⊕ Int32) × am_WS) :=
  ((f_Disk_pairAt g.2.2.2.2.2.2.2.2.2 (x1 + 8)).bind fun r1 => ((f_Table_lengthOf g.2.2.2.2.2.2.2.2.2 r1).bind fun r3 => f_V_roomAfterGrowing_L22 100000000000 g x1 x2 r3 0))
set_option maxHeartbeats 4000000 in
set_option maxRecDepth 100000 in
theorem s_V_roomAfterGrowing {l : Launch} {D : va_G} {dA : FieldType → ClassId} (htr : l.stackTraces = false) {rest : List am_E} {li : Nat → Int32} {su : Int32} {ct : Int32} {lc : Int32} {ad : Nat → Int32} {ctb : Int32} {lcb : Int32} {adb : Nat → Int32} {fx : Int32} {us : Nat → Int32} {ln : Int32} {pt : Int32} {tx : Nat → Int32} {br : Nat → Int32} {rw : Nat → Int32} {g : am_WS} {x1 : Int32} {x2 : Int32} {r : (String ⊕ Int32) × am_WS} (hf : f_V_roomAfterGrowing g x1 x2 = some r) {o : am_O} (ho : am_oi r.1 = o) :
    am_M (am_kk l D dA) y_V_roomAfterGrowing ws_V_roomAfterGrowing (am_rm 5 o) [.ref 0, .int x1, .int x2] (hC g.1 g.2.1 g.2.2.1 li g.2.2.2.1 g.2.2.2.2.1 g.2.2.2.2.2.1 su g.2.2.2.2.2.2.1 g.2.2.2.2.2.2.2.1 g.2.2.2.2.2.2.2.2.1 g.2.2.2.2.2.2.2.2.2 ct lc ad ctb lcb adb fx us ln pt tx br rw rest) o (hC r.2.1 r.2.2.1 r.2.2.2.1 li r.2.2.2.2.1 r.2.2.2.2.2.1 r.2.2.2.2.2.2.1 su r.2.2.2.2.2.2.2.1 r.2.2.2.2.2.2.2.2.1 r.2.2.2.2.2.2.2.2.2.1 r.2.2.2.2.2.2.2.2.2.2 ct lc ad ctb lcb adb fx us ln pt tx br rw rest) := by
  subst ho
  refine am_body (by decide) rfl (Nat.le_of_ble_eq_true rfl) rfl ?_
  rw [f_V_roomAfterGrowing] at hf
  refine g_aload_n (n := 1) d_V_roomAfterGrowing_0 rfl 0 rfl rfl ?_
  refine g_get (n := 4) (q0 := 0) d_V_roomAfterGrowing_1 rfl (am_fl in_V rfl (by decide : 2 < 8)) (List.mem_cons_of_mem _ tw_175) rfl rfl ?_
  refine g_aload_n (n := 5) d_V_roomAfterGrowing_4 rfl 0 rfl rfl ?_
  refine g_get (n := 8) (q0 := 0) d_V_roomAfterGrowing_5 rfl (am_fl in_V rfl (by decide : 1 < 8)) (List.mem_cons_of_mem _ tw_174) rfl rfl ?_
  refine g_iload_n (n := 9) d_V_roomAfterGrowing_8 rfl 1 rfl rfl ?_
  refine g_bipush (n := 11) (v := 8) d_V_roomAfterGrowing_9 rfl (by decide) ?_
  refine g_iadd (n := 12) d_V_roomAfterGrowing_11 rfl ?_
  obtain ⟨r1, h2, hf⟩ := ob_bind hf
  refine c_Vr (n := 15) (st' := [.int r1, .ref 7]) [.int (x1 + 8)] [.ref 7] d_V_roomAfterGrowing_12 rfl (s_Disk_pairAt htr h2 rfl) tw_230 tw_231 tw_232 tw_3 tw_233 hd_Disk_pairAt (by omega) (by decide) (ci := 0) rfl rfl rfl (Nat.le_of_ble_eq_true rfl) rfl rfl ?_
  obtain ⟨r3, h4, hf⟩ := ob_bind hf
  refine c_Vr (n := 18) (st' := [.int r3]) [.int r1] [] d_V_roomAfterGrowing_15 rfl (s_Table_lengthOf htr h4 rfl) tw_719 tw_720 tw_721 tw_4 tw_722 hd_Table_lengthOf (by omega) (by decide) (ci := 5) rfl rfl rfl (Nat.le_of_ble_eq_true rfl) rfl rfl ?_
  refine g_istore_n (n := 19) (ls' := [(3, .int r3), (0, .ref 0), (1, .int x1), (2, .int x2)]) d_V_roomAfterGrowing_18 rfl rfl (am_ltb rfl) rfl ?_
  refine g_iconst (n := 20) (v := 0) d_V_roomAfterGrowing_19 rfl (by decide) ?_
  refine g_istore (n := 22) (ls' := [(4, .int 0), (3, .int r3), (0, .ref 0), (1, .int x1), (2, .int x2)]) d_V_roomAfterGrowing_20 rfl (am_ltb rfl) rfl ?_
  refine g_ls [2, 3, 4, 1, 0] rfl ?_
  exact s_V_roomAfterGrowing_L22 htr 100000000000 g x1 x2 r3 0 _ hf _ rfl
def f_V_spread_L3 : Nat → (Nat → Int32) → Int64 → Int32 → Int32 → Option ((Nat → Int32))
  | 0, _, _, _, _ => none
  | fuel + 1, rw, x1, x3, x4 =>
  (if x3 ≤ x4 then some rw else (if am_in x4 16 = true then f_V_spread_L3 fuel (upd rw x4.toNatClampNeg (((x1 >>> ((8 * ((x3 - 1) - x4)).toInt64 &&& 63)).toInt32) &&& 255)) x1 x3 (x4 + 1) else none))
set_option maxHeartbeats 4000000 in
set_option maxRecDepth 100000 in
theorem s_V_spread_L3 {l : Launch} {D : va_G} {dA : FieldType → ClassId} (htr : l.stackTraces = false) {rest : List am_E} {ll : Int32} {he : Int32} {de : Int32} {li : Nat → Int32} {en : Nat → Int32} {po : Nat → Int32} {pw : Int32} {su : Int32} {wr : Int32} {cs : Int32} {wb : Int32} {bt : Nat → Int32} {ct : Int32} {lc : Int32} {ad : Nat → Int32} {ctb : Int32} {lcb : Int32} {adb : Nat → Int32} {fx : Int32} {us : Nat → Int32} {ln : Int32} {pt : Int32} {tx : Nat → Int32} {br : Nat → Int32}  : ∀ (fuel : Nat) (rw : Nat → Int32) (x1 : Int64) (x3 : Int32) (x4 : Int32) (r : (Nat → Int32)), f_V_spread_L3 fuel rw x1 x3 x4 = some r → ∀ o : am_O, .inl none = o →
    am_G (am_kk l D dA) (ws_V_spread, y_V_spread.cls, prog_1_method_25_code, 5, none, y_V_spread.name, [], am_rm 0 (o), none) o (hC ll he de li en po pw su wr cs wb bt ct lc ad ctb lcb adb fx us ln pt tx br r rest) 0 0 3 [(0, .ref 0), (1, .long x1), (3, .int x3), (4, .int x4)] [] (hC ll he de li en po pw su wr cs wb bt ct lc ad ctb lcb adb fx us ln pt tx br rw rest) := by
  intro fuel
  induction fuel with
  | zero =>
    intro rw x1 x3 x4 r hf
    cases hf
  | succ fuel ih =>
    intro rw x1 x3 x4 r hf o ho
    subst ho
    rw [f_V_spread_L3] at hf
    refine g_iload (n := 5) d_V_spread_3 rfl 3 rfl ?_
    refine g_iload_n (n := 6) d_V_spread_5 rfl 2 rfl rfl ?_
    refine g_icmp_ge (n := 9) (tgt := 38) d_V_spread_6 rfl (by decide) (fun q1 => ?_) (fun q1 => ?_)
    · have hf := ob_pos q1 hf
      cases hf
      exact g_vret d_V_spread_38 rfl (Nat.zero_le _) (Nat.zero_le _)
    · have hf := ob_neg q1 hf
      refine g_aload_n (n := 10) d_V_spread_9 rfl 0 rfl rfl ?_
      refine g_get (n := 13) (q0 := 0) d_V_spread_10 rfl (am_fl in_V rfl (by decide : 7 < 8)) (List.mem_cons_of_mem _ tw_180) rfl rfl ?_
      refine g_iload (n := 15) d_V_spread_13 rfl 3 rfl ?_
      refine g_lload_n (n := 16) d_V_spread_15 rfl 1 rfl rfl ?_
      refine g_bipush (n := 18) (v := 8) d_V_spread_16 rfl (by decide) ?_
      refine g_iload_n (n := 19) d_V_spread_18 rfl 2 rfl rfl ?_
      refine g_iconst (n := 20) (v := 1) d_V_spread_19 rfl (by decide) ?_
      refine g_isub (n := 21) d_V_spread_20 rfl ?_
      refine g_iload (n := 23) d_V_spread_21 rfl 3 rfl ?_
      refine g_isub (n := 24) d_V_spread_23 rfl ?_
      refine g_imul (n := 25) d_V_spread_24 rfl ?_
      refine g_lshr (n := 26) d_V_spread_25 rfl ?_
      refine g_l2i (n := 27) d_V_spread_26 rfl ?_
      refine g_sipush (n := 30) (v := 255) d_V_spread_27 rfl (by decide) ?_
      refine g_iand (n := 31) d_V_spread_30 rfl ?_
      obtain ⟨b2, hf⟩ := ob_chk hf
      refine g_iast (n := 32) (q0 := 17) (h' := (hC ll he de li en po pw su wr cs wb bt ct lc ad ctb lcb adb fx us ln pt tx br (upd rw x4.toNatClampNeg (((x1 >>> ((8 * ((x3 - 1) - x4)).toInt64 &&& 63)).toInt32) &&& 255)) rest)) d_V_spread_31 rfl rfl (am_inl b2) rfl ?_
      refine g_iinc (n := 35) (v := (x4 + 1)) (ls' := [(4, .int (x4 + 1)), (0, .ref 0), (1, .long x1), (3, .int x3)]) d_V_spread_32 rfl 3 rfl rfl (am_ltb rfl) rfl ?_
      refine g_goto (n := 3) d_V_spread_35 (by decide) ?_
      refine g_ls [1, 2, 3, 0] rfl ?_
      exact ih (upd rw x4.toNatClampNeg (((x1 >>> ((8 * ((x3 - 1) - x4)).toInt64 &&& 63)).toInt32) &&& 255)) x1 x3 (x4 + 1) _ hf _ rfl
def f_V_spread (rw : Nat → Int32) (x1 : Int64) (x3 : Int32) : Option ((Nat → Int32)) :=
  f_V_spread_L3 100000000000 rw x1 x3 0
set_option maxHeartbeats 4000000 in
set_option maxRecDepth 100000 in
theorem s_V_spread {l : Launch} {D : va_G} {dA : FieldType → ClassId} (htr : l.stackTraces = false) {rest : List am_E} {ll : Int32} {he : Int32} {de : Int32} {li : Nat → Int32} {en : Nat → Int32} {po : Nat → Int32} {pw : Int32} {su : Int32} {wr : Int32} {cs : Int32} {wb : Int32} {bt : Nat → Int32} {ct : Int32} {lc : Int32} {ad : Nat → Int32} {ctb : Int32} {lcb : Int32} {adb : Nat → Int32} {fx : Int32} {us : Nat → Int32} {ln : Int32} {pt : Int32} {tx : Nat → Int32} {br : Nat → Int32} {rw : Nat → Int32}  {x1 : Int64} {x3 : Int32} {r : (Nat → Int32)} (hf : f_V_spread rw x1 x3 = some r) {o : am_O} (ho : .inl none = o) :
    am_M (am_kk l D dA) y_V_spread ws_V_spread (am_rm 0 o) [.ref 0, .long x1, .int x3] (hC ll he de li en po pw su wr cs wb bt ct lc ad ctb lcb adb fx us ln pt tx br rw rest) o (hC ll he de li en po pw su wr cs wb bt ct lc ad ctb lcb adb fx us ln pt tx br r rest) := by
  subst ho
  refine am_body (by decide) rfl (Nat.le_of_ble_eq_true rfl) rfl ?_
  rw [f_V_spread] at hf
  refine g_iconst (n := 1) (v := 0) d_V_spread_0 rfl (by decide) ?_
  refine g_istore (n := 3) (ls' := [(4, .int 0), (0, .ref 0), (1, .long x1), (3, .int x3)]) d_V_spread_1 rfl (am_ltb rfl) rfl ?_
  refine g_ls [1, 2, 3, 0] rfl ?_
  exact s_V_spread_L3 htr 100000000000 rw x1 x3 0 _ hf _ rfl
def f_V_writeData_L6 : Nat → am_WS → (Nat → Int32) → Int32 → Int32 → Int32 → Int32 → Int32 → Option ((String ⊕ Unit) × am_WS)
  | 0, _, _, _, _, _, _, _ => none
  | fuel + 1, g, rw, x1, x2, x3, x4, x5 =>
  (if 8 ≤ x5 then some (.inr (), g) else (if x3 ≤ x4 then some (.inr (), g) else ((f_V_addressInChain g.2.2.2.2.2.2.2.2.2 x1 (x2 + x4)).bind fun r3 => ((f_Disk_writeRow g rw r3 x4 (if (x3 - x4) < (32 - ((x2 + x4) - (x2 + x4) / 32 * 32)) then (x3 - x4) else (32 - ((x2 + x4) - (x2 + x4) / 32 * 32)))).bind fun r5 => am_t r5.1 (fun E7 => some (.inl E7, r5.2)) (fun v8 => f_V_writeData_L6 fuel r5.2 rw x1 x2 x3 (x4 + (if (x3 - x4) < (32 - ((x2 + x4) - (x2 + x4) / 32 * 32)) then (x3 - x4) else (32 - ((x2 + x4) - (x2 + x4) / 32 * 32)))) (x5 + 1))))))
set_option maxHeartbeats 4000000 in
set_option maxRecDepth 100000 in
theorem s_V_writeData_L6 {l : Launch} {D : va_G} {dA : FieldType → ClassId} (htr : l.stackTraces = false) {rest : List am_E} {li : Nat → Int32} {su : Int32} {ct : Int32} {lc : Int32} {ad : Nat → Int32} {ctb : Int32} {lcb : Int32} {adb : Nat → Int32} {fx : Int32} {us : Nat → Int32} {ln : Int32} {pt : Int32} {tx : Nat → Int32} {br : Nat → Int32}  : ∀ (fuel : Nat) (g : am_WS) (rw : Nat → Int32) (x1 : Int32) (x2 : Int32) (x3 : Int32) (x4 : Int32) (x5 : Int32) (r : (String ⊕ Unit) × am_WS), f_V_writeData_L6 fuel g rw x1 x2 x3 x4 x5 = some r → ∀ o : am_O, am_ov r.1 = o →
    am_G (am_kk l D dA) (ws_V_writeData, y_V_writeData.cls, prog_1_method_26_code, 8, none, y_V_writeData.name, [], am_rm 4 (o), none) o (hC r.2.1 r.2.2.1 r.2.2.2.1 li r.2.2.2.2.1 r.2.2.2.2.2.1 r.2.2.2.2.2.2.1 su r.2.2.2.2.2.2.2.1 r.2.2.2.2.2.2.2.2.1 r.2.2.2.2.2.2.2.2.2.1 r.2.2.2.2.2.2.2.2.2.2 ct lc ad ctb lcb adb fx us ln pt tx br rw rest) 0 0 6 [(0, .ref 0), (1, .int x1), (2, .int x2), (3, .int x3), (4, .int x4), (5, .int x5)] [] (hC g.1 g.2.1 g.2.2.1 li g.2.2.2.1 g.2.2.2.2.1 g.2.2.2.2.2.1 su g.2.2.2.2.2.2.1 g.2.2.2.2.2.2.2.1 g.2.2.2.2.2.2.2.2.1 g.2.2.2.2.2.2.2.2.2 ct lc ad ctb lcb adb fx us ln pt tx br rw rest) := by
  intro fuel
  induction fuel with
  | zero =>
    intro g rw x1 x2 x3 x4 x5 r hf
    cases hf
  | succ fuel ih =>
    intro g rw x1 x2 x3 x4 x5 r hf o ho
    subst ho
    rw [f_V_writeData_L6] at hf
    refine g_iload (n := 8) d_V_writeData_6 rfl 5 rfl ?_
    refine g_bipush (n := 10) (v := 8) d_V_writeData_8 rfl (by decide) ?_
    refine g_icmp_ge (n := 13) (tgt := 79) d_V_writeData_10 rfl (by decide) (fun q1 => ?_) (fun q1 => ?_)
    · have hf := ob_pos q1 hf
      cases hf
      exact g_vret d_V_writeData_79 rfl (Nat.zero_le _) (Nat.zero_le _)
    · have hf := ob_neg q1 hf
      refine g_iload (n := 15) d_V_writeData_13 rfl 4 rfl ?_
      refine g_iload_n (n := 16) d_V_writeData_15 rfl 3 rfl rfl ?_
      refine g_icmp_ge (n := 19) (tgt := 79) d_V_writeData_16 rfl (by decide) (fun q2 => ?_) (fun q2 => ?_)
      · have hf := ob_pos q2 hf
        cases hf
        exact g_vret d_V_writeData_79 rfl (Nat.zero_le _) (Nat.zero_le _)
      · have hf := ob_neg q2 hf
        refine g_bipush (n := 21) (v := 32) d_V_writeData_19 rfl (by decide) ?_
        refine g_iload_n (n := 22) d_V_writeData_21 rfl 2 rfl rfl ?_
        refine g_iload (n := 24) d_V_writeData_22 rfl 4 rfl ?_
        refine g_iadd (n := 25) d_V_writeData_24 rfl ?_
        refine g_bipush (n := 27) (v := 32) d_V_writeData_25 rfl (by decide) ?_
        refine g_irem (n := 28) d_V_writeData_27 rfl (by decide) ?_
        refine g_isub (n := 29) d_V_writeData_28 rfl ?_
        refine g_istore (n := 31) (ls' := [(6, .int (32 - ((x2 + x4) - (x2 + x4) / 32 * 32))), (0, .ref 0), (1, .int x1), (2, .int x2), (3, .int x3), (4, .int x4), (5, .int x5)]) d_V_writeData_29 rfl (am_ltb rfl) rfl ?_
        refine g_iload (n := 33) d_V_writeData_31 rfl 0 rfl ?_
        refine g_iload_n (n := 34) d_V_writeData_33 rfl 4 rfl rfl ?_
        refine g_iload (n := 36) d_V_writeData_34 rfl 5 rfl ?_
        refine g_isub (n := 37) d_V_writeData_36 rfl ?_
        refine c_mmin (n := 40) d_V_writeData_37 rfl tw_694 tw_695 tw_16 tw_696 (Nat.le_of_ble_eq_true rfl) ?_
        refine g_istore (n := 42) (ls' := [(7, .int (if (x3 - x4) < (32 - ((x2 + x4) - (x2 + x4) / 32 * 32)) then (x3 - x4) else (32 - ((x2 + x4) - (x2 + x4) / 32 * 32)))), (6, .int (32 - ((x2 + x4) - (x2 + x4) / 32 * 32))), (0, .ref 0), (1, .int x1), (2, .int x2), (3, .int x3), (4, .int x4), (5, .int x5)]) d_V_writeData_40 rfl (am_ltb rfl) rfl ?_
        refine g_aload_n (n := 43) d_V_writeData_42 rfl 2 rfl rfl ?_
        refine g_get (n := 46) (q0 := 0) d_V_writeData_43 rfl (am_fl in_V rfl (by decide : 1 < 8)) (List.mem_cons_of_mem _ tw_174) rfl rfl ?_
        refine g_aload_n (n := 47) d_V_writeData_46 rfl 2 rfl rfl ?_
        refine g_iload_n (n := 48) d_V_writeData_47 rfl 3 rfl rfl ?_
        refine g_iload_n (n := 49) d_V_writeData_48 rfl 4 rfl rfl ?_
        refine g_iload (n := 51) d_V_writeData_49 rfl 6 rfl ?_
        refine g_iadd (n := 52) d_V_writeData_51 rfl ?_
        obtain ⟨r3, h4, hf⟩ := ob_bind hf
        refine c_Vr (n := 55) (st' := [.int r3, .ref 5]) [.int x1, .int (x2 + x4)] [.ref 5] d_V_writeData_52 rfl (s_V_addressInChain htr h4 rfl) tw_697 tw_699 (am_memS 6 (by decide +kernel) (by decide +kernel)) tw_1 tw_700 hd_V_addressInChain (by omega) (by decide) (ci := 6) rfl rfl rfl (Nat.le_of_ble_eq_true rfl) rfl rfl ?_
        refine g_aload_n (n := 56) d_V_writeData_55 rfl 2 rfl rfl ?_
        refine g_get (n := 59) (q0 := 0) d_V_writeData_56 rfl (am_fl in_V rfl (by decide : 7 < 8)) (List.mem_cons_of_mem _ tw_180) rfl rfl ?_
        refine g_iload (n := 61) d_V_writeData_59 rfl 6 rfl ?_
        refine g_iload (n := 63) d_V_writeData_61 rfl 0 rfl ?_
        obtain ⟨r5, h6, hf⟩ := ob_bind hf
        rcases ob_t hf with ⟨E7, w9, hf⟩ | ⟨v8, w9, hf⟩
        · cases hf
          refine c_Vx (n := 66) (st' := []) [.int r3, .ref 17, .int x4, .int (if (x3 - x4) < (32 - ((x2 + x4) - (x2 + x4) / 32 * 32)) then (x3 - x4) else (32 - ((x2 + x4) - (x2 + x4) / 32 * 32)))] [] d_V_writeData_63 rfl (s_Disk_writeRow htr h6 (by rw [w9]; rfl)) tw_584 tw_585 tw_586 tw_3 tw_587 hd_Disk_writeRow (by omega) (by decide) (ci := 0) rfl rfl rfl (Nat.le_of_ble_eq_true rfl) rfl ?_
          exact g_out rfl (Nat.le_refl _) (Nat.le_refl _)
        · refine c_Vr (n := 66) (st' := []) [.int r3, .ref 17, .int x4, .int (if (x3 - x4) < (32 - ((x2 + x4) - (x2 + x4) / 32 * 32)) then (x3 - x4) else (32 - ((x2 + x4) - (x2 + x4) / 32 * 32)))] [] d_V_writeData_63 rfl (s_Disk_writeRow htr h6 (by rw [w9]; rfl)) tw_584 tw_585 tw_586 tw_3 tw_587 hd_Disk_writeRow (by omega) (by decide) (ci := 0) rfl rfl rfl (Nat.le_of_ble_eq_true rfl) rfl rfl ?_
          refine g_iload (n := 68) d_V_writeData_66 rfl 6 rfl ?_
          refine g_iload (n := 70) d_V_writeData_68 rfl 0 rfl ?_
          refine g_iadd (n := 71) d_V_writeData_70 rfl ?_
          refine g_istore (n := 73) (ls' := [(4, .int (x4 + (if (x3 - x4) < (32 - ((x2 + x4) - (x2 + x4) / 32 * 32)) then (x3 - x4) else (32 - ((x2 + x4) - (x2 + x4) / 32 * 32))))), (7, .int (if (x3 - x4) < (32 - ((x2 + x4) - (x2 + x4) / 32 * 32)) then (x3 - x4) else (32 - ((x2 + x4) - (x2 + x4) / 32 * 32)))), (6, .int (32 - ((x2 + x4) - (x2 + x4) / 32 * 32))), (0, .ref 0), (1, .int x1), (2, .int x2), (3, .int x3), (5, .int x5)]) d_V_writeData_71 rfl (am_ltb rfl) rfl ?_
          refine g_iinc (n := 76) (v := (x5 + 1)) (ls' := [(5, .int (x5 + 1)), (4, .int (x4 + (if (x3 - x4) < (32 - ((x2 + x4) - (x2 + x4) / 32 * 32)) then (x3 - x4) else (32 - ((x2 + x4) - (x2 + x4) / 32 * 32))))), (7, .int (if (x3 - x4) < (32 - ((x2 + x4) - (x2 + x4) / 32 * 32)) then (x3 - x4) else (32 - ((x2 + x4) - (x2 + x4) / 32 * 32)))), (6, .int (32 - ((x2 + x4) - (x2 + x4) / 32 * 32))), (0, .ref 0), (1, .int x1), (2, .int x2), (3, .int x3)]) d_V_writeData_73 rfl 7 rfl rfl (am_ltb rfl) rfl ?_
          refine g_goto (n := 6) d_V_writeData_76 (by decide) ?_
          refine g_ls [4, 5, 6, 7, 1, 0] rfl ?_
          exact ih r5.2 rw x1 x2 x3 (x4 + (if (x3 - x4) < (32 - ((x2 + x4) - (x2 + x4) / 32 * 32)) then (x3 - x4) else (32 - ((x2 + x4) - (x2 + x4) / 32 * 32)))) (x5 + 1) _ hf _ rfl
def f_V_writeData (g : am_WS) (rw : Nat → Int32) (x1 : Int32) (x2 : Int32) (x3 : Int32) : Option ((String ⊕ Unit) × am_WS) :=
  f_V_writeData_L6 100000000000 g rw x1 x2 x3 0 0
set_option maxHeartbeats 4000000 in
set_option maxRecDepth 100000 in
theorem s_V_writeData {l : Launch} {D : va_G} {dA : FieldType → ClassId} (htr : l.stackTraces = false) {rest : List am_E} {li : Nat → Int32} {su : Int32} {ct : Int32} {lc : Int32} {ad : Nat → Int32} {ctb : Int32} {lcb : Int32} {adb : Nat → Int32} {fx : Int32} {us : Nat → Int32} {ln : Int32} {pt : Int32} {tx : Nat → Int32} {br : Nat → Int32} {rw : Nat → Int32} {g : am_WS} {x1 : Int32} {x2 : Int32} {x3 : Int32} {r : (String ⊕ Unit) × am_WS} (hf : f_V_writeData g rw x1 x2 x3 = some r) {o : am_O} (ho : am_ov r.1 = o) :
    am_M (am_kk l D dA) y_V_writeData ws_V_writeData (am_rm 4 o) [.ref 0, .int x1, .int x2, .int x3] (hC g.1 g.2.1 g.2.2.1 li g.2.2.2.1 g.2.2.2.2.1 g.2.2.2.2.2.1 su g.2.2.2.2.2.2.1 g.2.2.2.2.2.2.2.1 g.2.2.2.2.2.2.2.2.1 g.2.2.2.2.2.2.2.2.2 ct lc ad ctb lcb adb fx us ln pt tx br rw rest) o (hC r.2.1 r.2.2.1 r.2.2.2.1 li r.2.2.2.2.1 r.2.2.2.2.2.1 r.2.2.2.2.2.2.1 su r.2.2.2.2.2.2.2.1 r.2.2.2.2.2.2.2.2.1 r.2.2.2.2.2.2.2.2.2.1 r.2.2.2.2.2.2.2.2.2.2 ct lc ad ctb lcb adb fx us ln pt tx br rw rest) := by
  subst ho
  refine am_body (by decide) rfl (Nat.le_of_ble_eq_true rfl) rfl ?_
  rw [f_V_writeData] at hf
  refine g_iconst (n := 1) (v := 0) d_V_writeData_0 rfl (by decide) ?_
  refine g_istore (n := 3) (ls' := [(4, .int 0), (0, .ref 0), (1, .int x1), (2, .int x2), (3, .int x3)]) d_V_writeData_1 rfl (am_ltb rfl) rfl ?_
  refine g_iconst (n := 4) (v := 0) d_V_writeData_3 rfl (by decide) ?_
  refine g_istore (n := 6) (ls' := [(5, .int 0), (4, .int 0), (0, .ref 0), (1, .int x1), (2, .int x2), (3, .int x3)]) d_V_writeData_4 rfl (am_ltb rfl) rfl ?_
  refine g_ls [2, 3, 4, 5, 1, 0] rfl ?_
  exact s_V_writeData_L6 htr 100000000000 g rw x1 x2 x3 0 0 _ hf _ rfl
def f_V_write (g : am_WS) (su : Int32) (rw : Nat → Int32) (x1 : Int32) (x2 : Int64) (x4 : Int32) : Option ((String ⊕ Int32) × am_WS × (Nat → Int32)) :=
  ((f_V_demandSoundDisk g.2.2.2.2.2.1 su).bind fun r1 => am_t r1 (fun E3 => some (.inl E3, g, rw)) (fun v4 => ((f_Ses_isOpen g.2.2.2.1 x1).bind fun r6 => (if r6 = 0 then some (.inl "java/lang/IllegalArgumentException", g, rw) else (if x4 < 1 then some (.inl "java/lang/IllegalArgumentException", g, rw) else (if x4 ≤ 8 then ((f_Ses_positionOf g.2.2.2.2.1 x1).bind fun r11 => ((f_Ses_entryOf g.2.2.2.1 x1).bind fun r13 => (if (r11 + x4) ≤ 1024 then ((f_V_roomAfterGrowing g r13 (r11 + x4)).bind fun r16 => am_t r16.1 (fun E18 => some (.inl E18, r16.2, rw)) (fun v19 => (if 0 < (if (v19 - r11) < x4 then (v19 - r11) else x4) then ((f_V_spread rw x2 x4).bind fun r22 => ((f_Disk_pairAt r16.2.2.2.2.2.2.2.2.2.2 (r13 + 8)).bind fun r24 => ((f_V_writeData r16.2 r22 r24 r11 (if (v19 - r11) < x4 then (v19 - r11) else x4)).bind fun r26 => am_t r26.1 (fun E28 => some (.inl E28, r26.2, r22)) (fun v29 => ((f_Disk_pairAt r26.2.2.2.2.2.2.2.2.2.2 (r13 + 10)).bind fun r31 => (if (r11 + (if (v19 - r11) < x4 then (v19 - r11) else x4)) ≤ r31 then ((f_Ses_moveTo r26.2.2.2.2.2.1 x1 (r11 + (if (v19 - r11) < x4 then (v19 - r11) else x4))).bind fun r34 => some (.inr (if (v19 - r11) < x4 then (v19 - r11) else x4), (r26.2.1, r26.2.2.1, r26.2.2.2.1, r26.2.2.2.2.1, r34, r26.2.2.2.2.2.2.1, r26.2.2.2.2.2.2.2.1, r26.2.2.2.2.2.2.2.2.1, r26.2.2.2.2.2.2.2.2.2.1, r26.2.2.2.2.2.2.2.2.2.2), r22)) else ((f_Disk_writePair r26.2 (r13 + 10) (r11 + (if (v19 - r11) < x4 then (v19 - r11) else x4))).bind fun r36 => am_t r36.1 (fun E38 => some (.inl E38, r36.2, r22)) (fun v39 => ((f_Ses_moveTo r36.2.2.2.2.2.1 x1 (r11 + (if (v19 - r11) < x4 then (v19 - r11) else x4))).bind fun r41 => some (.inr (if (v19 - r11) < x4 then (v19 - r11) else x4), (r36.2.1, r36.2.2.1, r36.2.2.2.1, r36.2.2.2.2.1, r41, r36.2.2.2.2.2.2.1, r36.2.2.2.2.2.2.2.1, r36.2.2.2.2.2.2.2.2.1, r36.2.2.2.2.2.2.2.2.2.1, r36.2.2.2.2.2.2.2.2.2.2), r22)))))))))) else some (.inl "java/lang/UnsupportedOperationException", r16.2, rw)))) else some (.inl "java/lang/UnsupportedOperationException", g, rw)))) else some (.inl "java/lang/IllegalArgumentException", g, rw)))))))
set_option maxHeartbeats 4000000 in
set_option maxRecDepth 100000 in
theorem s_V_write {l : Launch} {D : va_G} {dA : FieldType → ClassId} (htr : l.stackTraces = false) {rest : List am_E} {li : Nat → Int32} {su : Int32} {ct : Int32} {lc : Int32} {ad : Nat → Int32} {ctb : Int32} {lcb : Int32} {adb : Nat → Int32} {fx : Int32} {us : Nat → Int32} {ln : Int32} {pt : Int32} {tx : Nat → Int32} {br : Nat → Int32} {rw : Nat → Int32} {g : am_WS} {x1 : Int32} {x2 : Int64} {x4 : Int32} {r : (String ⊕ Int32) × am_WS × (Nat → Int32)} (hf : f_V_write g su rw x1 x2 x4 = some r) {o : am_O} (ho : am_oi r.1 = o) :
    am_M (am_kk l D dA) y_V_write ws_V_write (am_rm 6 o) [.ref 0, .int x1, .long x2, .int x4] (hC g.1 g.2.1 g.2.2.1 li g.2.2.2.1 g.2.2.2.2.1 g.2.2.2.2.2.1 su g.2.2.2.2.2.2.1 g.2.2.2.2.2.2.2.1 g.2.2.2.2.2.2.2.2.1 g.2.2.2.2.2.2.2.2.2 ct lc ad ctb lcb adb fx us ln pt tx br rw rest) o (hC r.2.1.1 r.2.1.2.1 r.2.1.2.2.1 li r.2.1.2.2.2.1 r.2.1.2.2.2.2.1 r.2.1.2.2.2.2.2.1 su r.2.1.2.2.2.2.2.2.1 r.2.1.2.2.2.2.2.2.2.1 r.2.1.2.2.2.2.2.2.2.2.1 r.2.1.2.2.2.2.2.2.2.2.2 ct lc ad ctb lcb adb fx us ln pt tx br r.2.2 rest) := by
  subst ho
  refine am_body (by decide) rfl (Nat.le_of_ble_eq_true rfl) rfl ?_
  rw [f_V_write] at hf
  refine g_aload_n (n := 1) d_V_write_0 rfl 0 rfl rfl ?_
  obtain ⟨r1, h2, hf⟩ := ob_bind hf
  rcases ob_t hf with ⟨E3, w5, hf⟩ | ⟨v4, w5, hf⟩
  · cases hf
    refine c_Vx (n := 4) (st' := []) [] [] d_V_write_1 rfl (s_V_demandSoundDisk htr h2 (by rw [w5]; rfl)) tw_305 tw_307 (am_memS 1 (by decide +kernel) (by decide +kernel)) tw_1 tw_308 hd_V_demandSoundDisk (by omega) (by decide) (ci := 6) rfl rfl rfl (Nat.le_of_ble_eq_true rfl) rfl ?_
    exact g_out rfl (Nat.le_refl _) (Nat.le_refl _)
  · refine c_Vr (n := 4) (st' := []) [] [] d_V_write_1 rfl (s_V_demandSoundDisk htr h2 (by rw [w5]; rfl)) tw_305 tw_307 (am_memS 1 (by decide +kernel) (by decide +kernel)) tw_1 tw_308 hd_V_demandSoundDisk (by omega) (by decide) (ci := 6) rfl rfl rfl (Nat.le_of_ble_eq_true rfl) rfl rfl ?_
    refine g_aload_n (n := 5) d_V_write_4 rfl 0 rfl rfl ?_
    refine g_get (n := 8) (q0 := 0) d_V_write_5 rfl (am_fl in_V rfl (by decide : 0 < 8)) (List.mem_cons_of_mem _ tw_173) rfl rfl ?_
    refine g_iload_n (n := 9) d_V_write_8 rfl 1 rfl rfl ?_
    obtain ⟨r6, h7, hf⟩ := ob_bind hf
    refine c_Vr (n := 12) (st' := [.int r6]) [.int x1] [] d_V_write_9 rfl (s_Ses_isOpen htr h7 rfl) tw_210 tw_211 tw_212 tw_2 tw_213 hd_Ses_isOpen (by omega) (by decide) (ci := 4) rfl rfl rfl (Nat.le_of_ble_eq_true rfl) rfl rfl ?_
    refine g_if_eq (n := 15) (tgt := 28) d_V_write_12 rfl (by decide) (fun q8 => ?_) (fun q8 => ?_)
    · have hf := ob_pos q8 hf
      cases hf
      exact c_T htr (by decide +kernel) e_IllegalArgumentException_0 e_IllegalArgumentException_1 e_IllegalArgumentException_2 e_IllegalArgumentException_5 tw_391 tw_13 rfl (List.mem_of_getElem? (i := 11) rfl) at_V_84 d_V_write_28 d_V_write_31 (Or.inl ⟨d_V_write_32, rfl⟩) d_V_write_34 d_V_write_37 (Nat.le_of_ble_eq_true rfl)
    · have hf := ob_neg q8 hf
      refine g_iload (n := 17) d_V_write_15 rfl 3 rfl ?_
      refine g_iconst (n := 18) (v := 1) d_V_write_17 rfl (by decide) ?_
      refine g_icmp_lt (n := 21) (tgt := 28) d_V_write_18 rfl (by decide) (fun q9 => ?_) (fun q9 => ?_)
      · have hf := ob_pos q9 hf
        cases hf
        exact c_T htr (by decide +kernel) e_IllegalArgumentException_0 e_IllegalArgumentException_1 e_IllegalArgumentException_2 e_IllegalArgumentException_5 tw_391 tw_13 rfl (List.mem_of_getElem? (i := 11) rfl) at_V_84 d_V_write_28 d_V_write_31 (Or.inl ⟨d_V_write_32, rfl⟩) d_V_write_34 d_V_write_37 (Nat.le_of_ble_eq_true rfl)
      · have hf := ob_neg q9 hf
        refine g_iload (n := 23) d_V_write_21 rfl 3 rfl ?_
        refine g_bipush (n := 25) (v := 8) d_V_write_23 rfl (by decide) ?_
        refine g_icmp_le (n := 28) (tgt := 38) d_V_write_25 rfl (by decide) (fun q10 => ?_) (fun q10 => ?_)
        · have hf := ob_pos q10 hf
          refine g_aload_n (n := 39) d_V_write_38 rfl 0 rfl rfl ?_
          refine g_get (n := 42) (q0 := 0) d_V_write_39 rfl (am_fl in_V rfl (by decide : 0 < 8)) (List.mem_cons_of_mem _ tw_173) rfl rfl ?_
          refine g_iload_n (n := 43) d_V_write_42 rfl 1 rfl rfl ?_
          obtain ⟨r11, h12, hf⟩ := ob_bind hf
          refine c_Vr (n := 46) (st' := [.int r11]) [.int x1] [] d_V_write_43 rfl (s_Ses_positionOf htr h12 rfl) tw_291 tw_292 tw_293 tw_2 tw_294 hd_Ses_positionOf (by omega) (by decide) (ci := 4) rfl rfl rfl (Nat.le_of_ble_eq_true rfl) rfl rfl ?_
          refine g_istore (n := 48) (ls' := [(5, .int r11), (0, .ref 0), (1, .int x1), (2, .long x2), (4, .int x4)]) d_V_write_46 rfl (am_ltb rfl) rfl ?_
          refine g_aload_n (n := 49) d_V_write_48 rfl 1 rfl rfl ?_
          refine g_get (n := 52) (q0 := 0) d_V_write_49 rfl (am_fl in_V rfl (by decide : 0 < 8)) (List.mem_cons_of_mem _ tw_173) rfl rfl ?_
          refine g_iload_n (n := 53) d_V_write_52 rfl 2 rfl rfl ?_
          obtain ⟨r13, h14, hf⟩ := ob_bind hf
          refine c_Vr (n := 56) (st' := [.int r13]) [.int x1] [] d_V_write_53 rfl (s_Ses_entryOf htr h14 rfl) tw_226 tw_227 tw_228 tw_2 tw_229 hd_Ses_entryOf (by omega) (by decide) (ci := 4) rfl rfl rfl (Nat.le_of_ble_eq_true rfl) rfl rfl ?_
          refine g_istore (n := 58) (ls' := [(6, .int r13), (5, .int r11), (0, .ref 0), (1, .int x1), (2, .long x2), (4, .int x4)]) d_V_write_56 rfl (am_ltb rfl) rfl ?_
          refine g_iload (n := 60) d_V_write_58 rfl 1 rfl ?_
          refine g_iload (n := 62) d_V_write_60 rfl 5 rfl ?_
          refine g_iadd (n := 63) d_V_write_62 rfl ?_
          refine g_sipush (n := 66) (v := 1024) d_V_write_63 rfl (by decide) ?_
          refine g_icmp_le (n := 69) (tgt := 79) d_V_write_66 rfl (by decide) (fun q15 => ?_) (fun q15 => ?_)
          · have hf := ob_pos q15 hf
            refine g_iload (n := 81) d_V_write_79 rfl 5 rfl ?_
            refine g_aload_n (n := 82) d_V_write_81 rfl 2 rfl rfl ?_
            refine g_iload (n := 84) d_V_write_82 rfl 0 rfl ?_
            refine g_iload (n := 86) d_V_write_84 rfl 1 rfl ?_
            refine g_iload (n := 88) d_V_write_86 rfl 5 rfl ?_
            refine g_iadd (n := 89) d_V_write_88 rfl ?_
            obtain ⟨r16, h17, hf⟩ := ob_bind hf
            rcases ob_t hf with ⟨E18, w20, hf⟩ | ⟨v19, w20, hf⟩
            · cases hf
              refine c_Vx (n := 92) (st' := []) [.int r13, .int (r11 + x4)] [.int x4] d_V_write_89 rfl (s_V_roomAfterGrowing htr h17 (by rw [w20]; rfl)) tw_715 tw_717 (am_memS 7 (by decide +kernel) (by decide +kernel)) tw_1 tw_718 hd_V_roomAfterGrowing (by omega) (by decide) (ci := 6) rfl rfl rfl (Nat.le_of_ble_eq_true rfl) rfl ?_
              exact g_out rfl (Nat.le_refl _) (Nat.le_refl _)
            · refine c_Vr (n := 92) (st' := [.int v19, .int x4]) [.int r13, .int (r11 + x4)] [.int x4] d_V_write_89 rfl (s_V_roomAfterGrowing htr h17 (by rw [w20]; rfl)) tw_715 tw_717 (am_memS 7 (by decide +kernel) (by decide +kernel)) tw_1 tw_718 hd_V_roomAfterGrowing (by omega) (by decide) (ci := 6) rfl rfl rfl (Nat.le_of_ble_eq_true rfl) rfl rfl ?_
              refine g_iload (n := 94) d_V_write_92 rfl 1 rfl ?_
              refine g_isub (n := 95) d_V_write_94 rfl ?_
              refine c_mmin (n := 98) d_V_write_95 rfl tw_694 tw_695 tw_16 tw_696 (Nat.le_of_ble_eq_true rfl) ?_
              refine g_istore (n := 100) (ls' := [(7, .int (if (v19 - r11) < x4 then (v19 - r11) else x4)), (6, .int r13), (5, .int r11), (0, .ref 0), (1, .int x1), (2, .long x2), (4, .int x4)]) d_V_write_98 rfl (am_ltb rfl) rfl ?_
              refine g_iload (n := 102) d_V_write_100 rfl 0 rfl ?_
              refine g_if_gt (n := 105) (tgt := 115) d_V_write_102 rfl (by decide) (fun q21 => ?_) (fun q21 => ?_)
              · have hf := ob_pos q21 hf
                refine g_aload_n (n := 116) d_V_write_115 rfl 3 rfl rfl ?_
                refine g_lload_n (n := 117) d_V_write_116 rfl 5 rfl rfl ?_
                refine g_iload (n := 119) d_V_write_117 rfl 6 rfl ?_
                obtain ⟨r22, h23, hf⟩ := ob_bind hf
                refine c_Vr (n := 122) (st' := []) [.long x2, .int x4] [] d_V_write_119 rfl (s_V_spread htr h23 rfl) tw_724 tw_726 (am_memS 8 (by decide +kernel) (by decide +kernel)) tw_1 tw_727 hd_V_spread (by omega) (by decide) (ci := 6) rfl rfl rfl (Nat.le_of_ble_eq_true rfl) rfl rfl ?_
                refine g_aload_n (n := 123) d_V_write_122 rfl 3 rfl rfl ?_
                refine g_aload_n (n := 124) d_V_write_123 rfl 3 rfl rfl ?_
                refine g_get (n := 127) (q0 := 0) d_V_write_124 rfl (am_fl in_V rfl (by decide : 1 < 8)) (List.mem_cons_of_mem _ tw_174) rfl rfl ?_
                refine g_iload (n := 129) d_V_write_127 rfl 1 rfl ?_
                refine g_bipush (n := 131) (v := 8) d_V_write_129 rfl (by decide) ?_
                refine g_iadd (n := 132) d_V_write_131 rfl ?_
                obtain ⟨r24, h25, hf⟩ := ob_bind hf
                refine c_Vr (n := 135) (st' := [.int r24, .ref 0]) [.int (r13 + 8)] [.ref 0] d_V_write_132 rfl (s_Disk_pairAt htr h25 rfl) tw_230 tw_231 tw_232 tw_3 tw_233 hd_Disk_pairAt (by omega) (by decide) (ci := 0) rfl rfl rfl (Nat.le_of_ble_eq_true rfl) rfl rfl ?_
                refine g_iload (n := 137) d_V_write_135 rfl 2 rfl ?_
                refine g_iload (n := 139) d_V_write_137 rfl 0 rfl ?_
                obtain ⟨r26, h27, hf⟩ := ob_bind hf
                rcases ob_t hf with ⟨E28, w30, hf⟩ | ⟨v29, w30, hf⟩
                · cases hf
                  refine c_Vx (n := 142) (st' := []) [.int r24, .int r11, .int (if (v19 - r11) < x4 then (v19 - r11) else x4)] [] d_V_write_139 rfl (s_V_writeData htr h27 (by rw [w30]; rfl)) tw_728 tw_730 (am_memS 9 (by decide +kernel) (by decide +kernel)) tw_1 tw_731 hd_V_writeData (by omega) (by decide) (ci := 6) rfl rfl rfl (Nat.le_of_ble_eq_true rfl) rfl ?_
                  exact g_out rfl (Nat.le_refl _) (Nat.le_refl _)
                · refine c_Vr (n := 142) (st' := []) [.int r24, .int r11, .int (if (v19 - r11) < x4 then (v19 - r11) else x4)] [] d_V_write_139 rfl (s_V_writeData htr h27 (by rw [w30]; rfl)) tw_728 tw_730 (am_memS 9 (by decide +kernel) (by decide +kernel)) tw_1 tw_731 hd_V_writeData (by omega) (by decide) (ci := 6) rfl rfl rfl (Nat.le_of_ble_eq_true rfl) rfl rfl ?_
                  refine g_iload (n := 144) d_V_write_142 rfl 2 rfl ?_
                  refine g_iload (n := 146) d_V_write_144 rfl 0 rfl ?_
                  refine g_iadd (n := 147) d_V_write_146 rfl ?_
                  refine g_aload_n (n := 148) d_V_write_147 rfl 3 rfl rfl ?_
                  refine g_get (n := 151) (q0 := 0) d_V_write_148 rfl (am_fl in_V rfl (by decide : 1 < 8)) (List.mem_cons_of_mem _ tw_174) rfl rfl ?_
                  refine g_iload (n := 153) d_V_write_151 rfl 1 rfl ?_
                  refine g_bipush (n := 155) (v := 10) d_V_write_153 rfl (by decide) ?_
                  refine g_iadd (n := 156) d_V_write_155 rfl ?_
                  obtain ⟨r31, h32, hf⟩ := ob_bind hf
                  refine c_Vr (n := 159) (st' := [.int r31, .int (r11 + (if (v19 - r11) < x4 then (v19 - r11) else x4))]) [.int (r13 + 10)] [.int (r11 + (if (v19 - r11) < x4 then (v19 - r11) else x4))] d_V_write_156 rfl (s_Disk_pairAt htr h32 rfl) tw_230 tw_231 tw_232 tw_3 tw_233 hd_Disk_pairAt (by omega) (by decide) (ci := 0) rfl rfl rfl (Nat.le_of_ble_eq_true rfl) rfl rfl ?_
                  refine g_icmp_le (n := 162) (tgt := 179) d_V_write_159 rfl (by decide) (fun q33 => ?_) (fun q33 => ?_)
                  · have hf := ob_pos q33 hf
                    refine g_aload_n (n := 180) d_V_write_179 rfl 3 rfl rfl ?_
                    refine g_get (n := 183) (q0 := 0) d_V_write_180 rfl (am_fl in_V rfl (by decide : 0 < 8)) (List.mem_cons_of_mem _ tw_173) rfl rfl ?_
                    refine g_iload_n (n := 184) d_V_write_183 rfl 4 rfl rfl ?_
                    refine g_iload (n := 186) d_V_write_184 rfl 2 rfl ?_
                    refine g_iload (n := 188) d_V_write_186 rfl 0 rfl ?_
                    refine g_iadd (n := 189) d_V_write_188 rfl ?_
                    obtain ⟨r34, h35, hf⟩ := ob_bind hf
                    refine c_Vr (n := 192) (st' := []) [.int x1, .int (r11 + (if (v19 - r11) < x4 then (v19 - r11) else x4))] [] d_V_write_189 rfl (s_Ses_moveTo htr h35 rfl) tw_234 tw_235 tw_236 tw_2 tw_237 hd_Ses_moveTo (by omega) (by decide) (ci := 4) rfl rfl rfl (Nat.le_of_ble_eq_true rfl) rfl rfl ?_
                    refine g_iload (n := 194) d_V_write_192 rfl 0 rfl ?_
                    cases hf
                    exact g_iret d_V_write_194 rfl (Nat.zero_le _) (Nat.zero_le _)
                  · have hf := ob_neg q33 hf
                    refine g_aload_n (n := 163) d_V_write_162 rfl 3 rfl rfl ?_
                    refine g_get (n := 166) (q0 := 0) d_V_write_163 rfl (am_fl in_V rfl (by decide : 1 < 8)) (List.mem_cons_of_mem _ tw_174) rfl rfl ?_
                    refine g_iload (n := 168) d_V_write_166 rfl 1 rfl ?_
                    refine g_bipush (n := 170) (v := 10) d_V_write_168 rfl (by decide) ?_
                    refine g_iadd (n := 171) d_V_write_170 rfl ?_
                    refine g_iload (n := 173) d_V_write_171 rfl 2 rfl ?_
                    refine g_iload (n := 175) d_V_write_173 rfl 0 rfl ?_
                    refine g_iadd (n := 176) d_V_write_175 rfl ?_
                    obtain ⟨r36, h37, hf⟩ := ob_bind hf
                    rcases ob_t hf with ⟨E38, w40, hf⟩ | ⟨v39, w40, hf⟩
                    · cases hf
                      refine c_Vx (n := 179) (st' := []) [.int (r13 + 10), .int (r11 + (if (v19 - r11) < x4 then (v19 - r11) else x4))] [] d_V_write_176 rfl (s_Disk_writePair htr h37 (by rw [w40]; rfl)) tw_723 tw_535 tw_536 tw_3 tw_537 hd_Disk_writePair (by omega) (by decide) (ci := 0) rfl rfl rfl (Nat.le_of_ble_eq_true rfl) rfl ?_
                      exact g_out rfl (Nat.le_refl _) (Nat.le_refl _)
                    · refine c_Vr (n := 179) (st' := []) [.int (r13 + 10), .int (r11 + (if (v19 - r11) < x4 then (v19 - r11) else x4))] [] d_V_write_176 rfl (s_Disk_writePair htr h37 (by rw [w40]; rfl)) tw_723 tw_535 tw_536 tw_3 tw_537 hd_Disk_writePair (by omega) (by decide) (ci := 0) rfl rfl rfl (Nat.le_of_ble_eq_true rfl) rfl rfl ?_
                      refine g_aload_n (n := 180) d_V_write_179 rfl 3 rfl rfl ?_
                      refine g_get (n := 183) (q0 := 0) d_V_write_180 rfl (am_fl in_V rfl (by decide : 0 < 8)) (List.mem_cons_of_mem _ tw_173) rfl rfl ?_
                      refine g_iload_n (n := 184) d_V_write_183 rfl 4 rfl rfl ?_
                      refine g_iload (n := 186) d_V_write_184 rfl 2 rfl ?_
                      refine g_iload (n := 188) d_V_write_186 rfl 0 rfl ?_
                      refine g_iadd (n := 189) d_V_write_188 rfl ?_
                      obtain ⟨r41, h42, hf⟩ := ob_bind hf
                      refine c_Vr (n := 192) (st' := []) [.int x1, .int (r11 + (if (v19 - r11) < x4 then (v19 - r11) else x4))] [] d_V_write_189 rfl (s_Ses_moveTo htr h42 rfl) tw_234 tw_235 tw_236 tw_2 tw_237 hd_Ses_moveTo (by omega) (by decide) (ci := 4) rfl rfl rfl (Nat.le_of_ble_eq_true rfl) rfl rfl ?_
                      refine g_iload (n := 194) d_V_write_192 rfl 0 rfl ?_
                      cases hf
                      exact g_iret d_V_write_194 rfl (Nat.zero_le _) (Nat.zero_le _)
              · have hf := ob_neg q21 hf
                cases hf
                exact c_T htr (by decide +kernel) e_UnsupportedOperationException_0 e_UnsupportedOperationException_1 e_UnsupportedOperationException_2 e_UnsupportedOperationException_5 tw_505 tw_14 rfl (List.mem_of_getElem? (i := 4) rfl) at_V_110 d_V_write_105 d_V_write_108 (Or.inl ⟨d_V_write_109, rfl⟩) d_V_write_111 d_V_write_114 (Nat.le_of_ble_eq_true rfl)
          · have hf := ob_neg q15 hf
            cases hf
            exact c_T htr (by decide +kernel) e_UnsupportedOperationException_0 e_UnsupportedOperationException_1 e_UnsupportedOperationException_2 e_UnsupportedOperationException_5 tw_505 tw_14 rfl (List.mem_of_getElem? (i := 12) rfl) at_V_110 d_V_write_69 d_V_write_72 (Or.inl ⟨d_V_write_73, rfl⟩) d_V_write_75 d_V_write_78 (Nat.le_of_ble_eq_true rfl)
        · have hf := ob_neg q10 hf
          cases hf
          exact c_T htr (by decide +kernel) e_IllegalArgumentException_0 e_IllegalArgumentException_1 e_IllegalArgumentException_2 e_IllegalArgumentException_5 tw_391 tw_13 rfl (List.mem_of_getElem? (i := 11) rfl) at_V_84 d_V_write_28 d_V_write_31 (Or.inl ⟨d_V_write_32, rfl⟩) d_V_write_34 d_V_write_37 (Nat.le_of_ble_eq_true rfl)
