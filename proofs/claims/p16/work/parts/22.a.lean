def f_Rep_mendFile (g : am_WS) (ct : Int32) (ad : Nat → Int32) (fx : Int32) (us : Nat → Int32) (x1 : Int32) (x2 : Int32) : Option ((String ⊕ Unit) × am_WS × Int32 × (Nat → Int32)) :=
  ((f_Folder_addressOf ct ad x1).bind fun r1 => ((f_Folder_firstClusterOf g.2.2.2.2.2.2.2.2.2 ct ad x1).bind fun r3 => ((f_Folder_sizeOf g.2.2.2.2.2.2.2.2.2 ct ad x1).bind fun r5 => (if (((r5 + 32) - 1) / 32) ≤ x2 then (if (((r5 + 32) - 1) / 32) = 0 then (if x2 ≤ 0 then (if x2 ≤ (((r5 + 32) - 1) / 32) then some (.inr (), g, fx, us) else ((f_Table_clusterAt g.2.2.2.2.2.2.2.2.2 r3 ((((r5 + 32) - 1) / 32) - 1)).bind fun r23 => ((f_Table_cell g.2.2.2.2.2.2.2.2.2 r23).bind fun r25 => ((f_Rep_forget g.2.2.2.2.2.2.2.2.2 us r25).bind fun r27 => ((f_Table_set g r23 65535).bind fun r29 => am_t r29.1 (fun E31 => some (.inl E31, r29.2, fx, r27)) (fun v32 => some (.inr (), r29.2, (fx + 1), r27))))))) else ((f_Rep_forget g.2.2.2.2.2.2.2.2.2 us r3).bind fun r34 => ((f_Disk_writePair g (r1 + 8) 0).bind fun r36 => am_t r36.1 (fun E38 => some (.inl E38, r36.2, fx, r34)) (fun v39 => some (.inr (), r36.2, (fx + 1), r34))))) else (if x2 ≤ (((r5 + 32) - 1) / 32) then some (.inr (), g, fx, us) else ((f_Table_clusterAt g.2.2.2.2.2.2.2.2.2 r3 ((((r5 + 32) - 1) / 32) - 1)).bind fun r10 => ((f_Table_cell g.2.2.2.2.2.2.2.2.2 r10).bind fun r12 => ((f_Rep_forget g.2.2.2.2.2.2.2.2.2 us r12).bind fun r14 => ((f_Table_set g r10 65535).bind fun r16 => am_t r16.1 (fun E18 => some (.inl E18, r16.2, fx, r14)) (fun v19 => some (.inr (), r16.2, (fx + 1), r14)))))))) else ((f_Disk_writePair g (r1 + 10) (x2 * 32)).bind fun r41 => am_t r41.1 (fun E43 => some (.inl E43, r41.2, fx, us)) (fun v44 => some (.inr (), r41.2, (fx + 1), us)))))))
set_option maxHeartbeats 4000000 in
set_option maxRecDepth 100000 in
theorem s_Rep_mendFile {l : Launch} {D : va_G} {dA : FieldType → ClassId} (htr : l.stackTraces = false) {rest : List am_E} {li : Nat → Int32} {su : Int32} {ct : Int32} {lc : Int32} {ad : Nat → Int32} {ctb : Int32} {lcb : Int32} {adb : Nat → Int32} {fx : Int32} {us : Nat → Int32} {ln : Int32} {pt : Int32} {tx : Nat → Int32} {br : Nat → Int32} {rw : Nat → Int32} {g : am_WS} {x1 : Int32} {x2 : Int32} {r : (String ⊕ Unit) × am_WS × Int32 × (Nat → Int32)} (hf : f_Rep_mendFile g ct ad fx us x1 x2 = some r) {o : am_O} (ho : am_ov r.1 = o) :
    am_M (am_kk l D dA) y_Rep_mendFile ws_Rep_mendFile (am_rm 4 o) [.ref 12, .int x1, .int x2] (hC g.1 g.2.1 g.2.2.1 li g.2.2.2.1 g.2.2.2.2.1 g.2.2.2.2.2.1 su g.2.2.2.2.2.2.1 g.2.2.2.2.2.2.2.1 g.2.2.2.2.2.2.2.2.1 g.2.2.2.2.2.2.2.2.2 ct lc ad ctb lcb adb fx us ln pt tx br rw rest) o (hC r.2.1.1 r.2.1.2.1 r.2.1.2.2.1 li r.2.1.2.2.2.1 r.2.1.2.2.2.2.1 r.2.1.2.2.2.2.2.1 su r.2.1.2.2.2.2.2.2.1 r.2.1.2.2.2.2.2.2.2.1 r.2.1.2.2.2.2.2.2.2.2.1 r.2.1.2.2.2.2.2.2.2.2.2 ct lc ad ctb lcb adb r.2.2.1 r.2.2.2 ln pt tx br rw rest) := by
  subst ho
  refine am_body (by decide) rfl (Nat.le_of_ble_eq_true rfl) rfl ?_
  rw [f_Rep_mendFile] at hf
  refine g_aload_n (n := 1) d_Rep_mendFile_0 rfl 0 rfl rfl ?_
  refine g_get (n := 4) (q0 := 12) d_Rep_mendFile_1 rfl (am_fl in_Rep rfl (by decide : 2 < 5)) (List.mem_cons_of_mem _ tw_135) rfl rfl ?_
  refine g_iload_n (n := 5) d_Rep_mendFile_4 rfl 1 rfl rfl ?_
  obtain ⟨r1, h2, hf⟩ := ob_bind hf
  refine c_Vr (n := 8) (st' := [.int r1]) [.int x1] [] d_Rep_mendFile_5 rfl (s_Folder_addressOf htr h2 rfl) tw_841 tw_581 tw_582 tw_5 tw_583 hd_Folder_addressOf (by omega) (by decide) (ci := 1) rfl rfl rfl (Nat.le_of_ble_eq_true rfl) rfl rfl ?_
  refine g_istore_n (n := 9) (ls' := [(3, .int r1), (0, .ref 12), (1, .int x1), (2, .int x2)]) d_Rep_mendFile_8 rfl rfl (am_ltb rfl) rfl ?_
  refine g_aload_n (n := 10) d_Rep_mendFile_9 rfl 1 rfl rfl ?_
  refine g_get (n := 13) (q0 := 12) d_Rep_mendFile_10 rfl (am_fl in_Rep rfl (by decide : 2 < 5)) (List.mem_cons_of_mem _ tw_135) rfl rfl ?_
  refine g_iload_n (n := 14) d_Rep_mendFile_13 rfl 2 rfl rfl ?_
  obtain ⟨r3, h4, hf⟩ := ob_bind hf
  refine c_Vr (n := 17) (st' := [.int r3]) [.int x1] [] d_Rep_mendFile_14 rfl (s_Folder_firstClusterOf htr h4 rfl) tw_835 tw_626 tw_627 tw_5 tw_628 hd_Folder_firstClusterOf (by omega) (by decide) (ci := 1) rfl rfl rfl (Nat.le_of_ble_eq_true rfl) rfl rfl ?_
  refine g_istore (n := 19) (ls' := [(4, .int r3), (3, .int r1), (0, .ref 12), (1, .int x1), (2, .int x2)]) d_Rep_mendFile_17 rfl (am_ltb rfl) rfl ?_
  refine g_aload_n (n := 20) d_Rep_mendFile_19 rfl 2 rfl rfl ?_
  refine g_get (n := 23) (q0 := 12) d_Rep_mendFile_20 rfl (am_fl in_Rep rfl (by decide : 2 < 5)) (List.mem_cons_of_mem _ tw_135) rfl rfl ?_
  refine g_iload_n (n := 24) d_Rep_mendFile_23 rfl 3 rfl rfl ?_
  obtain ⟨r5, h6, hf⟩ := ob_bind hf
  refine c_Vr (n := 27) (st' := [.int r5]) [.int x1] [] d_Rep_mendFile_24 rfl (s_Folder_sizeOf htr h6 rfl) tw_842 tw_765 tw_766 tw_5 tw_767 hd_Folder_sizeOf (by omega) (by decide) (ci := 1) rfl rfl rfl (Nat.le_of_ble_eq_true rfl) rfl rfl ?_
  refine g_bipush (n := 29) (v := 32) d_Rep_mendFile_27 rfl (by decide) ?_
  refine g_iadd (n := 30) d_Rep_mendFile_29 rfl ?_
  refine g_iconst (n := 31) (v := 1) d_Rep_mendFile_30 rfl (by decide) ?_
  refine g_isub (n := 32) d_Rep_mendFile_31 rfl ?_
  refine g_bipush (n := 34) (v := 32) d_Rep_mendFile_32 rfl (by decide) ?_
  refine g_idiv (n := 35) d_Rep_mendFile_34 rfl (by decide) ?_
  refine g_istore (n := 37) (ls' := [(5, .int (((r5 + 32) - 1) / 32)), (4, .int r3), (3, .int r1), (0, .ref 12), (1, .int x1), (2, .int x2)]) d_Rep_mendFile_35 rfl (am_ltb rfl) rfl ?_
  refine g_iload (n := 39) d_Rep_mendFile_37 rfl 0 rfl ?_
  refine g_iload_n (n := 40) d_Rep_mendFile_39 rfl 5 rfl rfl ?_
  refine g_icmp_le (n := 43) (tgt := 71) d_Rep_mendFile_40 rfl (by decide) (fun q7 => ?_) (fun q7 => ?_)
  · have hf := ob_pos q7 hf
    refine g_iload (n := 73) d_Rep_mendFile_71 rfl 0 rfl ?_
    refine g_if_ne (n := 76) (tgt := 111) d_Rep_mendFile_73 rfl (by decide) (fun q8 => ?_) (fun q8 => ?_)
    · have hf := ob_neg q8 hf
      refine g_iload (n := 113) d_Rep_mendFile_111 rfl 0 rfl ?_
      refine g_iload_n (n := 114) d_Rep_mendFile_113 rfl 5 rfl rfl ?_
      refine g_icmp_ge (n := 117) (tgt := 166) d_Rep_mendFile_114 rfl (by decide) (fun q9 => ?_) (fun q9 => ?_)
      · have hf := ob_pos q9 hf
        cases hf
        exact g_vret d_Rep_mendFile_166 rfl (Nat.zero_le _) (Nat.zero_le _)
      · have hf := ob_neg q9 hf
        refine g_aload_n (n := 118) d_Rep_mendFile_117 rfl 3 rfl rfl ?_
        refine g_get (n := 121) (q0 := 12) d_Rep_mendFile_118 rfl (am_fl in_Rep rfl (by decide : 1 < 5)) (List.mem_cons_of_mem _ tw_134) rfl rfl ?_
        refine g_iload (n := 123) d_Rep_mendFile_121 rfl 1 rfl ?_
        refine g_iload (n := 125) d_Rep_mendFile_123 rfl 0 rfl ?_
        refine g_iconst (n := 126) (v := 1) d_Rep_mendFile_125 rfl (by decide) ?_
        refine g_isub (n := 127) d_Rep_mendFile_126 rfl ?_
        obtain ⟨r10, h11, hf⟩ := ob_bind hf
        refine c_Vr (n := 130) (st' := [.int r10]) [.int r3, .int ((((r5 + 32) - 1) / 32) - 1)] [] d_Rep_mendFile_127 rfl (s_Table_clusterAt htr h11 rfl) tw_848 tw_702 tw_703 tw_4 tw_704 hd_Table_clusterAt (by omega) (by decide) (ci := 5) rfl rfl rfl (Nat.le_of_ble_eq_true rfl) rfl rfl ?_
        refine g_istore (n := 132) (ls' := [(6, .int r10), (5, .int (((r5 + 32) - 1) / 32)), (4, .int r3), (3, .int r1), (0, .ref 12), (1, .int x1), (2, .int x2)]) d_Rep_mendFile_130 rfl (am_ltb rfl) rfl ?_
        refine g_aload_n (n := 133) d_Rep_mendFile_132 rfl 4 rfl rfl ?_
        refine g_aload_n (n := 134) d_Rep_mendFile_133 rfl 4 rfl rfl ?_
        refine g_get (n := 137) (q0 := 12) d_Rep_mendFile_134 rfl (am_fl in_Rep rfl (by decide : 1 < 5)) (List.mem_cons_of_mem _ tw_134) rfl rfl ?_
        refine g_iload (n := 139) d_Rep_mendFile_137 rfl 0 rfl ?_
        obtain ⟨r12, h13, hf⟩ := ob_bind hf
        refine c_Vr (n := 142) (st' := [.int r12, .ref 12]) [.int r10] [.ref 12] d_Rep_mendFile_139 rfl (s_Table_cell htr h13 rfl) tw_794 tw_287 tw_288 tw_4 tw_289 hd_Table_cell (by omega) (by decide) (ci := 5) rfl rfl rfl (Nat.le_of_ble_eq_true rfl) rfl rfl ?_
        obtain ⟨r14, h15, hf⟩ := ob_bind hf
        refine c_Vr (n := 145) (st' := []) [.int r12] [] d_Rep_mendFile_142 rfl (s_Rep_forget htr h15 rfl) tw_844 tw_845 tw_846 tw_6 tw_847 hd_Rep_forget (by omega) (by decide) (ci := 3) rfl rfl rfl (Nat.le_of_ble_eq_true rfl) rfl rfl ?_
        refine g_aload_n (n := 146) d_Rep_mendFile_145 rfl 4 rfl rfl ?_
        refine g_get (n := 149) (q0 := 12) d_Rep_mendFile_146 rfl (am_fl in_Rep rfl (by decide : 1 < 5)) (List.mem_cons_of_mem _ tw_134) rfl rfl ?_
        refine g_iload (n := 151) d_Rep_mendFile_149 rfl 0 rfl ?_
        refine g_ldc (n := 153) (v := 65535) d_Rep_mendFile_151 rfl (List.mem_cons_of_mem _ tw_804) ?_
        obtain ⟨r16, h17, hf⟩ := ob_bind hf
        rcases ob_t hf with ⟨E18, w20, hf⟩ | ⟨v19, w20, hf⟩
        · cases hf
          refine c_Vx (n := 156) (st' := []) [.int r10, .int 65535] [] d_Rep_mendFile_153 rfl (s_Table_set htr h17 (by rw [w20]; rfl)) tw_805 tw_531 tw_532 tw_4 tw_533 hd_Table_set (by omega) (by decide) (ci := 5) rfl rfl rfl (Nat.le_of_ble_eq_true rfl) rfl ?_
          exact g_out rfl (Nat.le_refl _) (Nat.le_refl _)
        · refine c_Vr (n := 156) (st' := []) [.int r10, .int 65535] [] d_Rep_mendFile_153 rfl (s_Table_set htr h17 (by rw [w20]; rfl)) tw_805 tw_531 tw_532 tw_4 tw_533 hd_Table_set (by omega) (by decide) (ci := 5) rfl rfl rfl (Nat.le_of_ble_eq_true rfl) rfl rfl ?_
          refine g_aload_n (n := 157) d_Rep_mendFile_156 rfl 4 rfl rfl ?_
          refine g_dup (n := 158) d_Rep_mendFile_157 rfl rfl ?_
          refine g_get (n := 161) (q0 := 12) d_Rep_mendFile_158 rfl (am_fl in_Rep rfl (by decide : 4 < 5)) (List.mem_cons_of_mem _ tw_137) rfl rfl ?_
          refine g_iconst (n := 162) (v := 1) d_Rep_mendFile_161 rfl (by decide) ?_
          refine g_iadd (n := 163) d_Rep_mendFile_162 rfl ?_
          refine g_put (n := 166) (q0 := 12) (h' := (hC r16.2.1 r16.2.2.1 r16.2.2.2.1 li r16.2.2.2.2.1 r16.2.2.2.2.2.1 r16.2.2.2.2.2.2.1 su r16.2.2.2.2.2.2.2.1 r16.2.2.2.2.2.2.2.2.1 r16.2.2.2.2.2.2.2.2.2.1 r16.2.2.2.2.2.2.2.2.2.2 ct lc ad ctb lcb adb (fx + 1) r14 ln pt tx br rw rest)) d_Rep_mendFile_163 rfl (am_fl in_Rep rfl (by decide : 4 < 5)) typ_Rep (List.mem_cons_of_mem _ tw_137) rfl (fun _ _ => rfl) (fun _ _ => rfl) rfl (am_ltb rfl) rfl ?_
          cases hf
          exact g_vret d_Rep_mendFile_166 rfl (Nat.zero_le _) (Nat.zero_le _)
    · have hf := ob_pos q8 hf
      refine g_iload_n (n := 77) d_Rep_mendFile_76 rfl 5 rfl rfl ?_
      refine g_if_le (n := 80) (tgt := 111) d_Rep_mendFile_77 rfl (by decide) (fun q21 => ?_) (fun q21 => ?_)
      · have hf := ob_pos q21 hf
        refine g_iload (n := 113) d_Rep_mendFile_111 rfl 0 rfl ?_
        refine g_iload_n (n := 114) d_Rep_mendFile_113 rfl 5 rfl rfl ?_
        refine g_icmp_ge (n := 117) (tgt := 166) d_Rep_mendFile_114 rfl (by decide) (fun q22 => ?_) (fun q22 => ?_)
        · have hf := ob_pos q22 hf
          cases hf
          exact g_vret d_Rep_mendFile_166 rfl (Nat.zero_le _) (Nat.zero_le _)
        · have hf := ob_neg q22 hf
          refine g_aload_n (n := 118) d_Rep_mendFile_117 rfl 3 rfl rfl ?_
          refine g_get (n := 121) (q0 := 12) d_Rep_mendFile_118 rfl (am_fl in_Rep rfl (by decide : 1 < 5)) (List.mem_cons_of_mem _ tw_134) rfl rfl ?_
          refine g_iload (n := 123) d_Rep_mendFile_121 rfl 1 rfl ?_
          refine g_iload (n := 125) d_Rep_mendFile_123 rfl 0 rfl ?_
          refine g_iconst (n := 126) (v := 1) d_Rep_mendFile_125 rfl (by decide) ?_
          refine g_isub (n := 127) d_Rep_mendFile_126 rfl ?_
          obtain ⟨r23, h24, hf⟩ := ob_bind hf
          refine c_Vr (n := 130) (st' := [.int r23]) [.int r3, .int ((((r5 + 32) - 1) / 32) - 1)] [] d_Rep_mendFile_127 rfl (s_Table_clusterAt htr h24 rfl) tw_848 tw_702 tw_703 tw_4 tw_704 hd_Table_clusterAt (by omega) (by decide) (ci := 5) rfl rfl rfl (Nat.le_of_ble_eq_true rfl) rfl rfl ?_
          refine g_istore (n := 132) (ls' := [(6, .int r23), (5, .int (((r5 + 32) - 1) / 32)), (4, .int r3), (3, .int r1), (0, .ref 12), (1, .int x1), (2, .int x2)]) d_Rep_mendFile_130 rfl (am_ltb rfl) rfl ?_
          refine g_aload_n (n := 133) d_Rep_mendFile_132 rfl 4 rfl rfl ?_
          refine g_aload_n (n := 134) d_Rep_mendFile_133 rfl 4 rfl rfl ?_
          refine g_get (n := 137) (q0 := 12) d_Rep_mendFile_134 rfl (am_fl in_Rep rfl (by decide : 1 < 5)) (List.mem_cons_of_mem _ tw_134) rfl rfl ?_
          refine g_iload (n := 139) d_Rep_mendFile_137 rfl 0 rfl ?_
          obtain ⟨r25, h26, hf⟩ := ob_bind hf
          refine c_Vr (n := 142) (st' := [.int r25, .ref 12]) [.int r23] [.ref 12] d_Rep_mendFile_139 rfl (s_Table_cell htr h26 rfl) tw_794 tw_287 tw_288 tw_4 tw_289 hd_Table_cell (by omega) (by decide) (ci := 5) rfl rfl rfl (Nat.le_of_ble_eq_true rfl) rfl rfl ?_
          obtain ⟨r27, h28, hf⟩ := ob_bind hf
          refine c_Vr (n := 145) (st' := []) [.int r25] [] d_Rep_mendFile_142 rfl (s_Rep_forget htr h28 rfl) tw_844 tw_845 tw_846 tw_6 tw_847 hd_Rep_forget (by omega) (by decide) (ci := 3) rfl rfl rfl (Nat.le_of_ble_eq_true rfl) rfl rfl ?_
          refine g_aload_n (n := 146) d_Rep_mendFile_145 rfl 4 rfl rfl ?_
          refine g_get (n := 149) (q0 := 12) d_Rep_mendFile_146 rfl (am_fl in_Rep rfl (by decide : 1 < 5)) (List.mem_cons_of_mem _ tw_134) rfl rfl ?_
          refine g_iload (n := 151) d_Rep_mendFile_149 rfl 0 rfl ?_
          refine g_ldc (n := 153) (v := 65535) d_Rep_mendFile_151 rfl (List.mem_cons_of_mem _ tw_804) ?_
          obtain ⟨r29, h30, hf⟩ := ob_bind hf
          rcases ob_t hf with ⟨E31, w33, hf⟩ | ⟨v32, w33, hf⟩
          · cases hf
            refine c_Vx (n := 156) (st' := []) [.int r23, .int 65535] [] d_Rep_mendFile_153 rfl (s_Table_set htr h30 (by rw [w33]; rfl)) tw_805 tw_531 tw_532 tw_4 tw_533 hd_Table_set (by omega) (by decide) (ci := 5) rfl rfl rfl (Nat.le_of_ble_eq_true rfl) rfl ?_
            exact g_out rfl (Nat.le_refl _) (Nat.le_refl _)
          · refine c_Vr (n := 156) (st' := []) [.int r23, .int 65535] [] d_Rep_mendFile_153 rfl (s_Table_set htr h30 (by rw [w33]; rfl)) tw_805 tw_531 tw_532 tw_4 tw_533 hd_Table_set (by omega) (by decide) (ci := 5) rfl rfl rfl (Nat.le_of_ble_eq_true rfl) rfl rfl ?_
            refine g_aload_n (n := 157) d_Rep_mendFile_156 rfl 4 rfl rfl ?_
            refine g_dup (n := 158) d_Rep_mendFile_157 rfl rfl ?_
            refine g_get (n := 161) (q0 := 12) d_Rep_mendFile_158 rfl (am_fl in_Rep rfl (by decide : 4 < 5)) (List.mem_cons_of_mem _ tw_137) rfl rfl ?_
            refine g_iconst (n := 162) (v := 1) d_Rep_mendFile_161 rfl (by decide) ?_
            refine g_iadd (n := 163) d_Rep_mendFile_162 rfl ?_
            refine g_put (n := 166) (q0 := 12) (h' := (hC r29.2.1 r29.2.2.1 r29.2.2.2.1 li r29.2.2.2.2.1 r29.2.2.2.2.2.1 r29.2.2.2.2.2.2.1 su r29.2.2.2.2.2.2.2.1 r29.2.2.2.2.2.2.2.2.1 r29.2.2.2.2.2.2.2.2.2.1 r29.2.2.2.2.2.2.2.2.2.2 ct lc ad ctb lcb adb (fx + 1) r27 ln pt tx br rw rest)) d_Rep_mendFile_163 rfl (am_fl in_Rep rfl (by decide : 4 < 5)) typ_Rep (List.mem_cons_of_mem _ tw_137) rfl (fun _ _ => rfl) (fun _ _ => rfl) rfl (am_ltb rfl) rfl ?_
            cases hf
            exact g_vret d_Rep_mendFile_166 rfl (Nat.zero_le _) (Nat.zero_le _)
      · have hf := ob_neg q21 hf
        refine g_aload_n (n := 81) d_Rep_mendFile_80 rfl 3 rfl rfl ?_
        refine g_iload (n := 83) d_Rep_mendFile_81 rfl 1 rfl ?_
        obtain ⟨r34, h35, hf⟩ := ob_bind hf
        refine c_Vr (n := 86) (st' := []) [.int r3] [] d_Rep_mendFile_83 rfl (s_Rep_forget htr h35 rfl) tw_844 tw_845 tw_846 tw_6 tw_847 hd_Rep_forget (by omega) (by decide) (ci := 3) rfl rfl rfl (Nat.le_of_ble_eq_true rfl) rfl rfl ?_
        refine g_aload_n (n := 87) d_Rep_mendFile_86 rfl 3 rfl rfl ?_
        refine g_get (n := 90) (q0 := 12) d_Rep_mendFile_87 rfl (am_fl in_Rep rfl (by decide : 0 < 5)) (List.mem_cons_of_mem _ tw_133) rfl rfl ?_
        refine g_iload_n (n := 91) d_Rep_mendFile_90 rfl 2 rfl rfl ?_
        refine g_bipush (n := 93) (v := 8) d_Rep_mendFile_91 rfl (by decide) ?_
        refine g_iadd (n := 94) d_Rep_mendFile_93 rfl ?_
        refine g_iconst (n := 95) (v := 0) d_Rep_mendFile_94 rfl (by decide) ?_
        obtain ⟨r36, h37, hf⟩ := ob_bind hf
        rcases ob_t hf with ⟨E38, w40, hf⟩ | ⟨v39, w40, hf⟩
        · cases hf
          refine c_Vx (n := 98) (st' := []) [.int (r1 + 8), .int 0] [] d_Rep_mendFile_95 rfl (s_Disk_writePair htr h37 (by rw [w40]; rfl)) tw_843 tw_535 tw_536 tw_3 tw_537 hd_Disk_writePair (by omega) (by decide) (ci := 0) rfl rfl rfl (Nat.le_of_ble_eq_true rfl) rfl ?_
          exact g_out rfl (Nat.le_refl _) (Nat.le_refl _)
        · refine c_Vr (n := 98) (st' := []) [.int (r1 + 8), .int 0] [] d_Rep_mendFile_95 rfl (s_Disk_writePair htr h37 (by rw [w40]; rfl)) tw_843 tw_535 tw_536 tw_3 tw_537 hd_Disk_writePair (by omega) (by decide) (ci := 0) rfl rfl rfl (Nat.le_of_ble_eq_true rfl) rfl rfl ?_
          refine g_aload_n (n := 99) d_Rep_mendFile_98 rfl 3 rfl rfl ?_
          refine g_dup (n := 100) d_Rep_mendFile_99 rfl rfl ?_
          refine g_get (n := 103) (q0 := 12) d_Rep_mendFile_100 rfl (am_fl in_Rep rfl (by decide : 4 < 5)) (List.mem_cons_of_mem _ tw_137) rfl rfl ?_
          refine g_iconst (n := 104) (v := 1) d_Rep_mendFile_103 rfl (by decide) ?_
          refine g_iadd (n := 105) d_Rep_mendFile_104 rfl ?_
          refine g_put (n := 108) (q0 := 12) (h' := (hC r36.2.1 r36.2.2.1 r36.2.2.2.1 li r36.2.2.2.2.1 r36.2.2.2.2.2.1 r36.2.2.2.2.2.2.1 su r36.2.2.2.2.2.2.2.1 r36.2.2.2.2.2.2.2.2.1 r36.2.2.2.2.2.2.2.2.2.1 r36.2.2.2.2.2.2.2.2.2.2 ct lc ad ctb lcb adb (fx + 1) r34 ln pt tx br rw rest)) d_Rep_mendFile_105 rfl (am_fl in_Rep rfl (by decide : 4 < 5)) typ_Rep (List.mem_cons_of_mem _ tw_137) rfl (fun _ _ => rfl) (fun _ _ => rfl) rfl (am_ltb rfl) rfl ?_
          refine g_goto (n := 166) d_Rep_mendFile_108 (by decide) ?_
          cases hf
          exact g_vret d_Rep_mendFile_166 rfl (Nat.zero_le _) (Nat.zero_le _)
  · have hf := ob_neg q7 hf
    refine g_aload_n (n := 44) d_Rep_mendFile_43 rfl 3 rfl rfl ?_
    refine g_get (n := 47) (q0 := 12) d_Rep_mendFile_44 rfl (am_fl in_Rep rfl (by decide : 0 < 5)) (List.mem_cons_of_mem _ tw_133) rfl rfl ?_
    refine g_iload_n (n := 48) d_Rep_mendFile_47 rfl 2 rfl rfl ?_
    refine g_bipush (n := 50) (v := 10) d_Rep_mendFile_48 rfl (by decide) ?_
    refine g_iadd (n := 51) d_Rep_mendFile_50 rfl ?_
    refine g_iload_n (n := 52) d_Rep_mendFile_51 rfl 5 rfl rfl ?_
    refine g_bipush (n := 54) (v := 32) d_Rep_mendFile_52 rfl (by decide) ?_
    refine g_imul (n := 55) d_Rep_mendFile_54 rfl ?_
    obtain ⟨r41, h42, hf⟩ := ob_bind hf
    rcases ob_t hf with ⟨E43, w45, hf⟩ | ⟨v44, w45, hf⟩
    · cases hf
      refine c_Vx (n := 58) (st' := []) [.int (r1 + 10), .int (x2 * 32)] [] d_Rep_mendFile_55 rfl (s_Disk_writePair htr h42 (by rw [w45]; rfl)) tw_843 tw_535 tw_536 tw_3 tw_537 hd_Disk_writePair (by omega) (by decide) (ci := 0) rfl rfl rfl (Nat.le_of_ble_eq_true rfl) rfl ?_
      exact g_out rfl (Nat.le_refl _) (Nat.le_refl _)
    · refine c_Vr (n := 58) (st' := []) [.int (r1 + 10), .int (x2 * 32)] [] d_Rep_mendFile_55 rfl (s_Disk_writePair htr h42 (by rw [w45]; rfl)) tw_843 tw_535 tw_536 tw_3 tw_537 hd_Disk_writePair (by omega) (by decide) (ci := 0) rfl rfl rfl (Nat.le_of_ble_eq_true rfl) rfl rfl ?_
      refine g_aload_n (n := 59) d_Rep_mendFile_58 rfl 3 rfl rfl ?_
      refine g_dup (n := 60) d_Rep_mendFile_59 rfl rfl ?_
      refine g_get (n := 63) (q0 := 12) d_Rep_mendFile_60 rfl (am_fl in_Rep rfl (by decide : 4 < 5)) (List.mem_cons_of_mem _ tw_137) rfl rfl ?_
      refine g_iconst (n := 64) (v := 1) d_Rep_mendFile_63 rfl (by decide) ?_
      refine g_iadd (n := 65) d_Rep_mendFile_64 rfl ?_
      refine g_put (n := 68) (q0 := 12) (h' := (hC r41.2.1 r41.2.2.1 r41.2.2.2.1 li r41.2.2.2.2.1 r41.2.2.2.2.2.1 r41.2.2.2.2.2.2.1 su r41.2.2.2.2.2.2.2.1 r41.2.2.2.2.2.2.2.2.1 r41.2.2.2.2.2.2.2.2.2.1 r41.2.2.2.2.2.2.2.2.2.2 ct lc ad ctb lcb adb (fx + 1) us ln pt tx br rw rest)) d_Rep_mendFile_65 rfl (am_fl in_Rep rfl (by decide : 4 < 5)) typ_Rep (List.mem_cons_of_mem _ tw_137) rfl (fun _ _ => rfl) (fun _ _ => rfl) rfl (am_ltb rfl) rfl ?_
      refine g_goto (n := 166) d_Rep_mendFile_68 (by decide) ?_
      cases hf
      exact g_vret d_Rep_mendFile_166 rfl (Nat.zero_le _) (Nat.zero_le _)
def f_Rep_visit (g : am_WS) (ct : Int32) (ad : Nat → Int32) (fx : Int32) (us : Nat → Int32) (x1 : Int32) (x2 : Int32) : Option ((String ⊕ Int32) × am_WS × Int32 × (Nat → Int32)) :=
  ((f_Folder_isFree g.2.2.2.2.2.2.2.2.2 ct ad x1).bind fun r1 => (if r1 = 0 then ((f_Folder_isTellingPart g.2.2.2.2.2.2.2.2.2 ct ad x1).bind fun r4 => (if r4 = 0 then ((f_Rep_isHopeless g.2.2.2.2.2.2.2.2.2 ct ad us x1 x2).bind fun r7 => (if r7 = 0 then ((f_Folder_firstClusterOf g.2.2.2.2.2.2.2.2.2 ct ad x1).bind fun r10 => ((f_Rep_follow g fx us r10).bind fun r12 => am_t r12.1 (fun E14 => some (.inl E14, r12.2.1, r12.2.2.1, r12.2.2.2)) (fun v15 => ((f_Folder_kindOf r12.2.1.2.2.2.2.2.2.2.2.2 ct ad x1).bind fun r17 => (if r17 = 2 then some (.inr r10, r12.2.1, r12.2.2.1, r12.2.2.2) else ((f_Rep_mendFile r12.2.1 ct ad r12.2.2.1 r12.2.2.2 x1 v15).bind fun r20 => am_t r20.1 (fun E22 => some (.inl E22, r20.2.1, r20.2.2.1, r20.2.2.2)) (fun v23 => some (.inr 0, r20.2.1, r20.2.2.1, r20.2.2.2)))))))) else ((f_Folder_markFreed g ct ad x1).bind fun r25 => am_t r25.1 (fun E27 => some (.inl E27, r25.2, fx, us)) (fun v28 => some (.inr 0, r25.2, (fx + 1), us))))) else some (.inr 0, g, fx, us))) else some (.inr 0, g, fx, us)))
set_option maxHeartbeats 4000000 in
set_option maxRecDepth 100000 in
theorem s_Rep_visit {l : Launch} {D : va_G} {dA : FieldType → ClassId} (htr : l.stackTraces = false) {rest : List am_E} {li : Nat → Int32} {su : Int32} {ct : Int32} {lc : Int32} {ad : Nat → Int32} {ctb : Int32} {lcb : Int32} {adb : Nat → Int32} {fx : Int32} {us : Nat → Int32} {ln : Int32} {pt : Int32} {tx : Nat → Int32} {br : Nat → Int32} {rw : Nat → Int32} {g : am_WS} {x1 : Int32} {x2 : Int32} {r : (String ⊕ Int32) × am_WS × Int32 × (Nat → Int32)} (hf : f_Rep_visit g ct ad fx us x1 x2 = some r) {o : am_O} (ho : am_oi r.1 = o) :
    am_M (am_kk l D dA) y_Rep_visit ws_Rep_visit (am_rm 5 o) [.ref 12, .int x1, .int x2] (hC g.1 g.2.1 g.2.2.1 li g.2.2.2.1 g.2.2.2.2.1 g.2.2.2.2.2.1 su g.2.2.2.2.2.2.1 g.2.2.2.2.2.2.2.1 g.2.2.2.2.2.2.2.2.1 g.2.2.2.2.2.2.2.2.2 ct lc ad ctb lcb adb fx us ln pt tx br rw rest) o (hC r.2.1.1 r.2.1.2.1 r.2.1.2.2.1 li r.2.1.2.2.2.1 r.2.1.2.2.2.2.1 r.2.1.2.2.2.2.2.1 su r.2.1.2.2.2.2.2.2.1 r.2.1.2.2.2.2.2.2.2.1 r.2.1.2.2.2.2.2.2.2.2.1 r.2.1.2.2.2.2.2.2.2.2.2 ct lc ad ctb lcb adb r.2.2.1 r.2.2.2 ln pt tx br rw rest) := by
  subst ho
  refine am_body (by decide) rfl (Nat.le_of_ble_eq_true rfl) rfl ?_
  rw [f_Rep_visit] at hf
  refine g_aload_n (n := 1) d_Rep_visit_0 rfl 0 rfl rfl ?_
  refine g_get (n := 4) (q0 := 12) d_Rep_visit_1 rfl (am_fl in_Rep rfl (by decide : 2 < 5)) (List.mem_cons_of_mem _ tw_135) rfl rfl ?_
  refine g_iload_n (n := 5) d_Rep_visit_4 rfl 1 rfl rfl ?_
  obtain ⟨r1, h2, hf⟩ := ob_bind hf
  refine c_Vr (n := 8) (st' := [.int r1]) [.int x1] [] d_Rep_visit_5 rfl (s_Folder_isFree htr h2 rfl) tw_824 tw_562 tw_563 tw_5 tw_564 hd_Folder_isFree (by omega) (by decide) (ci := 1) rfl rfl rfl (Nat.le_of_ble_eq_true rfl) rfl rfl ?_
  refine g_if_ne (n := 11) (tgt := 22) d_Rep_visit_8 rfl (by decide) (fun q3 => ?_) (fun q3 => ?_)
  · have hf := ob_neg q3 hf
    refine g_iconst (n := 23) (v := 0) d_Rep_visit_22 rfl (by decide) ?_
    cases hf
    exact g_iret d_Rep_visit_23 rfl (Nat.zero_le _) (Nat.zero_le _)
  · have hf := ob_pos q3 hf
    refine g_aload_n (n := 12) d_Rep_visit_11 rfl 0 rfl rfl ?_
    refine g_get (n := 15) (q0 := 12) d_Rep_visit_12 rfl (am_fl in_Rep rfl (by decide : 2 < 5)) (List.mem_cons_of_mem _ tw_135) rfl rfl ?_
    refine g_iload_n (n := 16) d_Rep_visit_15 rfl 1 rfl rfl ?_
    obtain ⟨r4, h5, hf⟩ := ob_bind hf
    refine c_Vr (n := 19) (st' := [.int r4]) [.int x1] [] d_Rep_visit_16 rfl (s_Folder_isTellingPart htr h5 rfl) tw_825 tw_826 tw_827 tw_5 tw_828 hd_Folder_isTellingPart (by omega) (by decide) (ci := 1) rfl rfl rfl (Nat.le_of_ble_eq_true rfl) rfl rfl ?_
    refine g_if_eq (n := 22) (tgt := 24) d_Rep_visit_19 rfl (by decide) (fun q6 => ?_) (fun q6 => ?_)
    · have hf := ob_pos q6 hf
      refine g_aload_n (n := 25) d_Rep_visit_24 rfl 0 rfl rfl ?_
      refine g_iload_n (n := 26) d_Rep_visit_25 rfl 1 rfl rfl ?_
      refine g_iload_n (n := 27) d_Rep_visit_26 rfl 2 rfl rfl ?_
      obtain ⟨r7, h8, hf⟩ := ob_bind hf
      refine c_Vr (n := 30) (st' := [.int r7]) [.int x1, .int x2] [] d_Rep_visit_27 rfl (s_Rep_isHopeless htr h8 rfl) tw_829 tw_830 tw_831 tw_6 tw_832 hd_Rep_isHopeless (by omega) (by decide) (ci := 3) rfl rfl rfl (Nat.le_of_ble_eq_true rfl) rfl rfl ?_
      refine g_if_eq (n := 33) (tgt := 53) d_Rep_visit_30 rfl (by decide) (fun q9 => ?_) (fun q9 => ?_)
      · have hf := ob_pos q9 hf
        refine g_aload_n (n := 54) d_Rep_visit_53 rfl 0 rfl rfl ?_
        refine g_get (n := 57) (q0 := 12) d_Rep_visit_54 rfl (am_fl in_Rep rfl (by decide : 2 < 5)) (List.mem_cons_of_mem _ tw_135) rfl rfl ?_
        refine g_iload_n (n := 58) d_Rep_visit_57 rfl 1 rfl rfl ?_
        obtain ⟨r10, h11, hf⟩ := ob_bind hf
        refine c_Vr (n := 61) (st' := [.int r10]) [.int x1] [] d_Rep_visit_58 rfl (s_Folder_firstClusterOf htr h11 rfl) tw_835 tw_626 tw_627 tw_5 tw_628 hd_Folder_firstClusterOf (by omega) (by decide) (ci := 1) rfl rfl rfl (Nat.le_of_ble_eq_true rfl) rfl rfl ?_
        refine g_istore_n (n := 62) (ls' := [(3, .int r10), (0, .ref 12), (1, .int x1), (2, .int x2)]) d_Rep_visit_61 rfl rfl (am_ltb rfl) rfl ?_
        refine g_aload_n (n := 63) d_Rep_visit_62 rfl 1 rfl rfl ?_
        refine g_iload_n (n := 64) d_Rep_visit_63 rfl 0 rfl rfl ?_
        obtain ⟨r12, h13, hf⟩ := ob_bind hf
        rcases ob_t hf with ⟨E14, w16, hf⟩ | ⟨v15, w16, hf⟩
        · cases hf
          refine c_Vx (n := 67) (st' := []) [.int r10] [] d_Rep_visit_64 rfl (s_Rep_follow htr h13 (by rw [w16]; rfl)) tw_811 tw_812 tw_813 tw_6 tw_814 hd_Rep_follow (by omega) (by decide) (ci := 3) rfl rfl rfl (Nat.le_of_ble_eq_true rfl) rfl ?_
          exact g_out rfl (Nat.le_refl _) (Nat.le_refl _)
        · refine c_Vr (n := 67) (st' := [.int v15]) [.int r10] [] d_Rep_visit_64 rfl (s_Rep_follow htr h13 (by rw [w16]; rfl)) tw_811 tw_812 tw_813 tw_6 tw_814 hd_Rep_follow (by omega) (by decide) (ci := 3) rfl rfl rfl (Nat.le_of_ble_eq_true rfl) rfl rfl ?_
          refine g_istore (n := 69) (ls' := [(4, .int v15), (3, .int r10), (0, .ref 12), (1, .int x1), (2, .int x2)]) d_Rep_visit_67 rfl (am_ltb rfl) rfl ?_
          refine g_aload_n (n := 70) d_Rep_visit_69 rfl 2 rfl rfl ?_
          refine g_get (n := 73) (q0 := 12) d_Rep_visit_70 rfl (am_fl in_Rep rfl (by decide : 2 < 5)) (List.mem_cons_of_mem _ tw_135) rfl rfl ?_
          refine g_iload_n (n := 74) d_Rep_visit_73 rfl 3 rfl rfl ?_
          obtain ⟨r17, h18, hf⟩ := ob_bind hf
          refine c_Vr (n := 77) (st' := [.int r17]) [.int x1] [] d_Rep_visit_74 rfl (s_Folder_kindOf htr h18 rfl) tw_834 tw_423 tw_424 tw_5 tw_425 hd_Folder_kindOf (by omega) (by decide) (ci := 1) rfl rfl rfl (Nat.le_of_ble_eq_true rfl) rfl rfl ?_
          refine g_iconst (n := 78) (v := 2) d_Rep_visit_77 rfl (by decide) ?_
          refine g_icmp_ne (n := 81) (tgt := 83) d_Rep_visit_78 rfl (by decide) (fun q19 => ?_) (fun q19 => ?_)
          · have hf := ob_neg q19 hf
            refine g_aload_n (n := 84) d_Rep_visit_83 rfl 2 rfl rfl ?_
            refine g_iload_n (n := 85) d_Rep_visit_84 rfl 3 rfl rfl ?_
            refine g_iload (n := 87) d_Rep_visit_85 rfl 0 rfl ?_
            obtain ⟨r20, h21, hf⟩ := ob_bind hf
            rcases ob_t hf with ⟨E22, w24, hf⟩ | ⟨v23, w24, hf⟩
            · cases hf
              refine c_Vx (n := 90) (st' := []) [.int x1, .int v15] [] d_Rep_visit_87 rfl (s_Rep_mendFile htr h21 (by rw [w24]; rfl)) tw_837 tw_838 tw_839 tw_6 tw_840 hd_Rep_mendFile (by omega) (by decide) (ci := 3) rfl rfl rfl (Nat.le_of_ble_eq_true rfl) rfl ?_
              exact g_out rfl (Nat.le_refl _) (Nat.le_refl _)
            · refine c_Vr (n := 90) (st' := []) [.int x1, .int v15] [] d_Rep_visit_87 rfl (s_Rep_mendFile htr h21 (by rw [w24]; rfl)) tw_837 tw_838 tw_839 tw_6 tw_840 hd_Rep_mendFile (by omega) (by decide) (ci := 3) rfl rfl rfl (Nat.le_of_ble_eq_true rfl) rfl rfl ?_
              refine g_iconst (n := 91) (v := 0) d_Rep_visit_90 rfl (by decide) ?_
              cases hf
              exact g_iret d_Rep_visit_91 rfl (Nat.zero_le _) (Nat.zero_le _)
          · have hf := ob_pos q19 hf
            refine g_iload_n (n := 82) d_Rep_visit_81 rfl 1 rfl rfl ?_
            cases hf
            exact g_iret d_Rep_visit_82 rfl (Nat.zero_le _) (Nat.zero_le _)
      · have hf := ob_neg q9 hf
        refine g_aload_n (n := 34) d_Rep_visit_33 rfl 0 rfl rfl ?_
        refine g_get (n := 37) (q0 := 12) d_Rep_visit_34 rfl (am_fl in_Rep rfl (by decide : 2 < 5)) (List.mem_cons_of_mem _ tw_135) rfl rfl ?_
        refine g_iload_n (n := 38) d_Rep_visit_37 rfl 1 rfl rfl ?_
        obtain ⟨r25, h26, hf⟩ := ob_bind hf
        rcases ob_t hf with ⟨E27, w29, hf⟩ | ⟨v28, w29, hf⟩
        · cases hf
          refine c_Vx (n := 41) (st' := []) [.int x1] [] d_Rep_visit_38 rfl (s_Folder_markFreed htr h26 (by rw [w29]; rfl)) tw_836 tw_640 tw_641 tw_5 tw_642 hd_Folder_markFreed (by omega) (by decide) (ci := 1) rfl rfl rfl (Nat.le_of_ble_eq_true rfl) rfl ?_
          exact g_out rfl (Nat.le_refl _) (Nat.le_refl _)
        · refine c_Vr (n := 41) (st' := []) [.int x1] [] d_Rep_visit_38 rfl (s_Folder_markFreed htr h26 (by rw [w29]; rfl)) tw_836 tw_640 tw_641 tw_5 tw_642 hd_Folder_markFreed (by omega) (by decide) (ci := 1) rfl rfl rfl (Nat.le_of_ble_eq_true rfl) rfl rfl ?_
          refine g_aload_n (n := 42) d_Rep_visit_41 rfl 0 rfl rfl ?_
          refine g_dup (n := 43) d_Rep_visit_42 rfl rfl ?_
          refine g_get (n := 46) (q0 := 12) d_Rep_visit_43 rfl (am_fl in_Rep rfl (by decide : 4 < 5)) (List.mem_cons_of_mem _ tw_137) rfl rfl ?_
          refine g_iconst (n := 47) (v := 1) d_Rep_visit_46 rfl (by decide) ?_
          refine g_iadd (n := 48) d_Rep_visit_47 rfl ?_
          refine g_put (n := 51) (q0 := 12) (h' := (hC r25.2.1 r25.2.2.1 r25.2.2.2.1 li r25.2.2.2.2.1 r25.2.2.2.2.2.1 r25.2.2.2.2.2.2.1 su r25.2.2.2.2.2.2.2.1 r25.2.2.2.2.2.2.2.2.1 r25.2.2.2.2.2.2.2.2.2.1 r25.2.2.2.2.2.2.2.2.2.2 ct lc ad ctb lcb adb (fx + 1) us ln pt tx br rw rest)) d_Rep_visit_48 rfl (am_fl in_Rep rfl (by decide : 4 < 5)) typ_Rep (List.mem_cons_of_mem _ tw_137) rfl (fun _ _ => rfl) (fun _ _ => rfl) rfl (am_ltb rfl) rfl ?_
          refine g_iconst (n := 52) (v := 0) d_Rep_visit_51 rfl (by decide) ?_
          cases hf
          exact g_iret d_Rep_visit_52 rfl (Nat.zero_le _) (Nat.zero_le _)
    · have hf := ob_neg q6 hf
      refine g_iconst (n := 23) (v := 0) d_Rep_visit_22 rfl (by decide) ?_
      cases hf
      exact g_iret d_Rep_visit_23 rfl (Nat.zero_le _) (Nat.zero_le _)
def f_Rep_goThrough_L19 (rc : am_WS → Int32 → Int32 → (Nat → Int32) → Int32 → (Nat → Int32) → Int32 → Int32 → Option ((String ⊕ Unit) × am_WS × Int32 × Int32 × (Nat → Int32) × Int32 × (Nat → Int32))) : Nat → am_WS → Int32 → Int32 → (Nat → Int32) → Int32 → (Nat → Int32) → Int32 → Int32 → Int32 → Int32 → Option ((String ⊕ Unit) × am_WS × Int32 × Int32 × (Nat → Int32) × Int32 × (Nat → Int32))
  | 0, _, _, _, _, _, _, _, _, _, _ => none
  | fuel + 1, g, ct, lc, ad, fx, us, x1, x2, x3, x4 =>
  (if x3 ≤ x4 then some (.inr (), g, ct, lc, ad, fx, us) else ((f_Rep_visit g ct ad fx us x4 x2).bind fun r4 => am_t r4.1 (fun E6 => some (.inl E6, r4.2.1, ct, lc, ad, r4.2.2.1, r4.2.2.2)) (fun v7 => (if v7 = 0 then f_Rep_goThrough_L19 rc fuel r4.2.1 ct lc ad r4.2.2.1 r4.2.2.2 x1 x2 x3 (x4 + 1) else (if 5 ≤ x2 then f_Rep_goThrough_L19 rc fuel r4.2.1 ct lc ad r4.2.2.1 r4.2.2.2 x1 x2 x3 (x4 + 1) else ((rc r4.2.1 ct lc ad r4.2.2.1 r4.2.2.2 v7 (x2 + 1)).bind fun r11 => am_t r11.1 (fun E13 => some (.inl E13, r11.2.1, r11.2.2.1, r11.2.2.2.1, r11.2.2.2.2.1, r11.2.2.2.2.2.1, r11.2.2.2.2.2.2)) (fun v14 => ((f_Folder_load r11.2.1.2.2.2.2.2.2.2.2.2 r11.2.2.1 r11.2.2.2.1 r11.2.2.2.2.1 x1).bind fun r16 => f_Rep_goThrough_L19 rc fuel r11.2.1 r16.1 r16.2.1 r16.2.2 r11.2.2.2.2.2.1 r11.2.2.2.2.2.2 x1 x2 x3 (x4 + 1)))))))))
set_option maxHeartbeats 4000000 in
set_option maxRecDepth 100000 in
theorem s_Rep_goThrough_L19 {l : Launch} {D : va_G} {dA : FieldType → ClassId} (htr : l.stackTraces = false) {rest : List am_E} {li : Nat → Int32} {su : Int32} {ctb : Int32} {lcb : Int32} {adb : Nat → Int32} {ln : Int32} {pt : Int32} {tx : Nat → Int32} {br : Nat → Int32} {rw : Nat → Int32} {n9 : Nat} (rc : am_WS → Int32 → Int32 → (Nat → Int32) → Int32 → (Nat → Int32) → Int32 → Int32 → Option ((String ⊕ Unit) × am_WS × Int32 × Int32 × (Nat → Int32) × Int32 × (Nat → Int32))) (hrec : ∀ (g : am_WS) (ct : Int32) (lc : Int32) (ad : Nat → Int32) (fx : Int32) (us : Nat → Int32) (x1 : Int32) (x2 : Int32) (r : (String ⊕ Unit) × am_WS × Int32 × Int32 × (Nat → Int32) × Int32 × (Nat → Int32)), rc g ct lc ad fx us x1 x2 = some r → ∀ o : am_O, am_ov r.1 = o → am_M (am_kk l D dA) y_Rep_goThrough ws_Rep_goThrough (am_rm (6 + n9) o) [.ref 12, .int x1, .int x2] (hC g.1 g.2.1 g.2.2.1 li g.2.2.2.1 g.2.2.2.2.1 g.2.2.2.2.2.1 su g.2.2.2.2.2.2.1 g.2.2.2.2.2.2.2.1 g.2.2.2.2.2.2.2.2.1 g.2.2.2.2.2.2.2.2.2 ct lc ad ctb lcb adb fx us ln pt tx br rw rest) o (hC r.2.1.1 r.2.1.2.1 r.2.1.2.2.1 li r.2.1.2.2.2.1 r.2.1.2.2.2.2.1 r.2.1.2.2.2.2.2.1 su r.2.1.2.2.2.2.2.2.1 r.2.1.2.2.2.2.2.2.2.1 r.2.1.2.2.2.2.2.2.2.2.1 r.2.1.2.2.2.2.2.2.2.2.2 r.2.2.1 r.2.2.2.1 r.2.2.2.2.1 ctb lcb adb r.2.2.2.2.2.1 r.2.2.2.2.2.2 ln pt tx br rw rest)) : ∀ (fuel : Nat) (g : am_WS) (ct : Int32) (lc : Int32) (ad : Nat → Int32) (fx : Int32) (us : Nat → Int32) (x1 : Int32) (x2 : Int32) (x3 : Int32) (x4 : Int32) (r : (String ⊕ Unit) × am_WS × Int32 × Int32 × (Nat → Int32) × Int32 × (Nat → Int32)), f_Rep_goThrough_L19 rc fuel g ct lc ad fx us x1 x2 x3 x4 = some r → ∀ o : am_O, am_ov r.1 = o →
    am_G (am_kk l D dA) (ws_Rep_goThrough, y_Rep_goThrough.cls, prog_5_method_5_code, 6, none, y_Rep_goThrough.name, [], am_rm (6 + n9 + 1) (o), none) o (hC r.2.1.1 r.2.1.2.1 r.2.1.2.2.1 li r.2.1.2.2.2.1 r.2.1.2.2.2.2.1 r.2.1.2.2.2.2.2.1 su r.2.1.2.2.2.2.2.2.1 r.2.1.2.2.2.2.2.2.2.1 r.2.1.2.2.2.2.2.2.2.2.1 r.2.1.2.2.2.2.2.2.2.2.2 r.2.2.1 r.2.2.2.1 r.2.2.2.2.1 ctb lcb adb r.2.2.2.2.2.1 r.2.2.2.2.2.2 ln pt tx br rw rest) 0 0 19 [(0, .ref 12), (1, .int x1), (2, .int x2), (3, .int x3), (4, .int x4)] [] (hC g.1 g.2.1 g.2.2.1 li g.2.2.2.1 g.2.2.2.2.1 g.2.2.2.2.2.1 su g.2.2.2.2.2.2.1 g.2.2.2.2.2.2.2.1 g.2.2.2.2.2.2.2.2.1 g.2.2.2.2.2.2.2.2.2 ct lc ad ctb lcb adb fx us ln pt tx br rw rest) := by
  intro fuel
  induction fuel with
  | zero =>
    intro g ct lc ad fx us x1 x2 x3 x4 r hf
    cases hf
  | succ fuel ih =>
    intro g ct lc ad fx us x1 x2 x3 x4 r hf o ho
    subst ho
    rw [f_Rep_goThrough_L19] at hf
    refine g_iload (n := 21) d_Rep_goThrough_19 rfl 4 rfl ?_
    refine g_iload_n (n := 22) d_Rep_goThrough_21 rfl 3 rfl rfl ?_
    refine g_icmp_ge (n := 25) (tgt := 67) d_Rep_goThrough_22 rfl (by decide) (fun q3 => ?_) (fun q3 => ?_)
    · have hf := ob_pos q3 hf
      cases hf
      exact g_vret d_Rep_goThrough_67 rfl (Nat.zero_le _) (Nat.zero_le _)
    · have hf := ob_neg q3 hf
      refine g_aload_n (n := 26) d_Rep_goThrough_25 rfl 0 rfl rfl ?_
      refine g_iload (n := 28) d_Rep_goThrough_26 rfl 4 rfl ?_
      refine g_iload_n (n := 29) d_Rep_goThrough_28 rfl 2 rfl rfl ?_
      obtain ⟨r4, h5, hf⟩ := ob_bind hf
      rcases ob_t hf with ⟨E6, w8, hf⟩ | ⟨v7, w8, hf⟩
      · cases hf
        refine c_Vx (n := 32) (st' := []) [.int x4, .int x2] [] d_Rep_goThrough_29 rfl (s_Rep_visit htr h5 (by rw [w8]; rfl)) tw_820 tw_821 tw_822 tw_6 tw_823 hd_Rep_visit (by omega) (by decide) (ci := 3) rfl rfl rfl (Nat.le_of_ble_eq_true rfl) rfl ?_
        exact g_out rfl (Nat.le_refl _) (Nat.le_refl _)
      · refine c_Vr (n := 32) (st' := [.int v7]) [.int x4, .int x2] [] d_Rep_goThrough_29 rfl (s_Rep_visit htr h5 (by rw [w8]; rfl)) tw_820 tw_821 tw_822 tw_6 tw_823 hd_Rep_visit (by omega) (by decide) (ci := 3) rfl rfl rfl (Nat.le_of_ble_eq_true rfl) rfl rfl ?_
        refine g_istore (n := 34) (ls' := [(5, .int v7), (0, .ref 12), (1, .int x1), (2, .int x2), (3, .int x3), (4, .int x4)]) d_Rep_goThrough_32 rfl (am_ltb rfl) rfl ?_
        refine g_iload (n := 36) d_Rep_goThrough_34 rfl 0 rfl ?_
        refine g_if_eq (n := 39) (tgt := 61) d_Rep_goThrough_36 rfl (by decide) (fun q9 => ?_) (fun q9 => ?_)
        · have hf := ob_pos q9 hf
          refine g_iinc (n := 64) (v := (x4 + 1)) (ls' := [(4, .int (x4 + 1)), (5, .int v7), (0, .ref 12), (1, .int x1), (2, .int x2), (3, .int x3)]) d_Rep_goThrough_61 rfl 5 rfl rfl (am_ltb rfl) rfl ?_
          refine g_goto (n := 19) d_Rep_goThrough_64 (by decide) ?_
          refine g_ls [2, 3, 4, 5, 0] rfl ?_
          exact ih r4.2.1 ct lc ad r4.2.2.1 r4.2.2.2 x1 x2 x3 (x4 + 1) _ hf _ rfl
        · have hf := ob_neg q9 hf
          refine g_iload_n (n := 40) d_Rep_goThrough_39 rfl 3 rfl rfl ?_
          refine g_iconst (n := 41) (v := 5) d_Rep_goThrough_40 rfl (by decide) ?_
          refine g_icmp_ge (n := 44) (tgt := 61) d_Rep_goThrough_41 rfl (by decide) (fun q10 => ?_) (fun q10 => ?_)
          · have hf := ob_pos q10 hf
            refine g_iinc (n := 64) (v := (x4 + 1)) (ls' := [(4, .int (x4 + 1)), (5, .int v7), (0, .ref 12), (1, .int x1), (2, .int x2), (3, .int x3)]) d_Rep_goThrough_61 rfl 5 rfl rfl (am_ltb rfl) rfl ?_
            refine g_goto (n := 19) d_Rep_goThrough_64 (by decide) ?_
            refine g_ls [2, 3, 4, 5, 0] rfl ?_
            exact ih r4.2.1 ct lc ad r4.2.2.1 r4.2.2.2 x1 x2 x3 (x4 + 1) _ hf _ rfl
          · have hf := ob_neg q10 hf
            refine g_aload_n (n := 45) d_Rep_goThrough_44 rfl 1 rfl rfl ?_
            refine g_iload (n := 47) d_Rep_goThrough_45 rfl 0 rfl ?_
            refine g_iload_n (n := 48) d_Rep_goThrough_47 rfl 3 rfl rfl ?_
            refine g_iconst (n := 49) (v := 1) d_Rep_goThrough_48 rfl (by decide) ?_
            refine g_iadd (n := 50) d_Rep_goThrough_49 rfl ?_
            obtain ⟨r11, h12, hf⟩ := ob_bind hf
            rcases ob_t hf with ⟨E13, w15, hf⟩ | ⟨v14, w15, hf⟩
            · cases hf
              refine c_Vx (n := 53) (st' := []) [.int v7, .int (x2 + 1)] [] d_Rep_goThrough_50 rfl (hrec _ _ _ _ _ _ _ _ _ h12 _ (by rw [w15]; rfl)) tw_849 tw_817 (am_memS 10 (by decide +kernel) (by decide +kernel)) tw_6 tw_818 hd_Rep_goThrough (by omega) (by decide) (ci := 3) rfl rfl rfl (Nat.le_of_ble_eq_true rfl) rfl ?_
              exact g_out rfl (Nat.le_refl _) (Nat.le_refl _)
            · refine c_Vr (n := 53) (st' := []) [.int v7, .int (x2 + 1)] [] d_Rep_goThrough_50 rfl (hrec _ _ _ _ _ _ _ _ _ h12 _ (by rw [w15]; rfl)) tw_849 tw_817 (am_memS 10 (by decide +kernel) (by decide +kernel)) tw_6 tw_818 hd_Rep_goThrough (by omega) (by decide) (ci := 3) rfl rfl rfl (Nat.le_of_ble_eq_true rfl) rfl rfl ?_
              refine g_aload_n (n := 54) d_Rep_goThrough_53 rfl 1 rfl rfl ?_
              refine g_get (n := 57) (q0 := 12) d_Rep_goThrough_54 rfl (am_fl in_Rep rfl (by decide : 2 < 5)) (List.mem_cons_of_mem _ tw_135) rfl rfl ?_
              refine g_iload_n (n := 58) d_Rep_goThrough_57 rfl 2 rfl rfl ?_
              obtain ⟨r16, h17, hf⟩ := ob_bind hf
              refine c_Vr (n := 61) (st' := []) [.int x1] [] d_Rep_goThrough_58 rfl (s_Folder_load htr h17 rfl) tw_819 tw_408 tw_409 tw_5 tw_410 hd_Folder_load (by omega) (by decide) (ci := 1) rfl rfl rfl (Nat.le_of_ble_eq_true rfl) rfl rfl ?_
              refine g_iinc (n := 64) (v := (x4 + 1)) (ls' := [(4, .int (x4 + 1)), (5, .int v7), (0, .ref 12), (1, .int x1), (2, .int x2), (3, .int x3)]) d_Rep_goThrough_61 rfl 5 rfl rfl (am_ltb rfl) rfl ?_
              refine g_goto (n := 19) d_Rep_goThrough_64 (by decide) ?_
              refine g_ls [2, 3, 4, 5, 0] rfl ?_
              exact ih r11.2.1 r16.1 r16.2.1 r16.2.2 r11.2.2.2.2.2.1 r11.2.2.2.2.2.2 x1 x2 x3 (x4 + 1) _ hf _ rfl
def f_Rep_goThrough : Nat → am_WS → Int32 → Int32 → (Nat → Int32) → Int32 → (Nat → Int32) → Int32 → Int32 → Option ((String ⊕ Unit) × am_WS × Int32 × Int32 × (Nat → Int32) × Int32 × (Nat → Int32))
  | 0, _, _, _, _, _, _, _, _ => none
  | n9 + 1, g, ct, lc, ad, fx, us, x1, x2 =>
  ((f_Folder_load g.2.2.2.2.2.2.2.2.2 ct lc ad x1).bind fun r1 => f_Rep_goThrough_L19 (f_Rep_goThrough n9) 100000000000 g r1.1 r1.2.1 r1.2.2 fx us x1 x2 r1.1 0)
set_option maxHeartbeats 4000000 in
set_option maxRecDepth 100000 in
theorem s_Rep_goThrough {l : Launch} {D : va_G} {dA : FieldType → ClassId} (htr : l.stackTraces = false) {rest : List am_E} {li : Nat → Int32} {su : Int32} {ctb : Int32} {lcb : Int32} {adb : Nat → Int32} {ln : Int32} {pt : Int32} {tx : Nat → Int32} {br : Nat → Int32} {rw : Nat → Int32} : ∀ (n9 : Nat) (g : am_WS) (ct : Int32) (lc : Int32) (ad : Nat → Int32) (fx : Int32) (us : Nat → Int32) (x1 : Int32) (x2 : Int32) (r : (String ⊕ Unit) × am_WS × Int32 × Int32 × (Nat → Int32) × Int32 × (Nat → Int32)), f_Rep_goThrough n9 g ct lc ad fx us x1 x2 = some r → ∀ o : am_O, am_ov r.1 = o →
    am_M (am_kk l D dA) y_Rep_goThrough ws_Rep_goThrough (am_rm (6 + n9) o) [.ref 12, .int x1, .int x2] (hC g.1 g.2.1 g.2.2.1 li g.2.2.2.1 g.2.2.2.2.1 g.2.2.2.2.2.1 su g.2.2.2.2.2.2.1 g.2.2.2.2.2.2.2.1 g.2.2.2.2.2.2.2.2.1 g.2.2.2.2.2.2.2.2.2 ct lc ad ctb lcb adb fx us ln pt tx br rw rest) o (hC r.2.1.1 r.2.1.2.1 r.2.1.2.2.1 li r.2.1.2.2.2.1 r.2.1.2.2.2.2.1 r.2.1.2.2.2.2.2.1 su r.2.1.2.2.2.2.2.2.1 r.2.1.2.2.2.2.2.2.2.1 r.2.1.2.2.2.2.2.2.2.2.1 r.2.1.2.2.2.2.2.2.2.2.2 r.2.2.1 r.2.2.2.1 r.2.2.2.2.1 ctb lcb adb r.2.2.2.2.2.1 r.2.2.2.2.2.2 ln pt tx br rw rest) := by
  intro n9
  induction n9 with
  | zero =>
    intro g ct lc ad fx us x1 x2 r hf
    cases hf
  | succ n9 hrec =>
    intro g ct lc ad fx us x1 x2 r hf o ho
    subst ho
    refine am_body (by decide) rfl (Nat.le_of_ble_eq_true rfl) rfl ?_
    rw [f_Rep_goThrough] at hf
    refine g_aload_n (n := 1) d_Rep_goThrough_0 rfl 0 rfl rfl ?_
    refine g_get (n := 4) (q0 := 12) d_Rep_goThrough_1 rfl (am_fl in_Rep rfl (by decide : 2 < 5)) (List.mem_cons_of_mem _ tw_135) rfl rfl ?_
    refine g_iload_n (n := 5) d_Rep_goThrough_4 rfl 1 rfl rfl ?_
    obtain ⟨r1, h2, hf⟩ := ob_bind hf
    refine c_Vr (n := 8) (st' := []) [.int x1] [] d_Rep_goThrough_5 rfl (s_Folder_load htr h2 rfl) tw_819 tw_408 tw_409 tw_5 tw_410 hd_Folder_load (by omega) (by decide) (ci := 1) rfl rfl rfl (Nat.le_of_ble_eq_true rfl) rfl rfl ?_
    refine g_aload_n (n := 9) d_Rep_goThrough_8 rfl 0 rfl rfl ?_
    refine g_get (n := 12) (q0 := 12) d_Rep_goThrough_9 rfl (am_fl in_Rep rfl (by decide : 2 < 5)) (List.mem_cons_of_mem _ tw_135) rfl rfl ?_
    refine g_getN (n := 15) (q0 := 8) d_Rep_goThrough_12 rfl (am_fl in_Folder rfl (by decide : 3 < 5)) nw_113 rfl rfl ?_
    refine g_istore_n (n := 16) (ls' := [(3, .int r1.1), (0, .ref 12), (1, .int x1), (2, .int x2)]) d_Rep_goThrough_15 rfl rfl (am_ltb rfl) rfl ?_
    refine g_iconst (n := 17) (v := 0) d_Rep_goThrough_16 rfl (by decide) ?_
    refine g_istore (n := 19) (ls' := [(4, .int 0), (3, .int r1.1), (0, .ref 12), (1, .int x1), (2, .int x2)]) d_Rep_goThrough_17 rfl (am_ltb rfl) rfl ?_
    refine g_ls [2, 3, 4, 1, 0] rfl ?_
    exact s_Rep_goThrough_L19 htr (f_Rep_goThrough n9) hrec 100000000000 g r1.1 r1.2.1 r1.2.2 fx us x1 x2 r1.1 0 _ hf _ rfl
def f_Rep_clearLost_L2 : Nat → am_WS → Int32 → (Nat → Int32) → Int32 → Option ((String ⊕ Unit) × am_WS × Int32)
  | 0, _, _, _, _ => none
  | fuel + 1, g, fx, us, x1 =>
  (if 64 ≤ x1 then some (.inr (), g, fx) else (if am_in x1 64 = true then (if (us x1.toNatClampNeg) = 0 then ((f_Table_isFree g.2.2.2.2.2.2.2.2.2 x1).bind fun r4 => (if r4 = 0 then ((f_Table_set g x1 0).bind fun r7 => am_t r7.1 (fun E9 => some (.inl E9, r7.2, fx)) (fun v10 => f_Rep_clearLost_L2 fuel r7.2 (fx + 1) us (x1 + 1))) else f_Rep_clearLost_L2 fuel g fx us (x1 + 1))) else f_Rep_clearLost_L2 fuel g fx us (x1 + 1)) else none))
set_option maxHeartbeats 4000000 in
set_option maxRecDepth 100000 in
theorem s_Rep_clearLost_L2 {l : Launch} {D : va_G} {dA : FieldType → ClassId} (htr : l.stackTraces = false) {rest : List am_E} {li : Nat → Int32} {su : Int32} {ct : Int32} {lc : Int32} {ad : Nat → Int32} {ctb : Int32} {lcb : Int32} {adb : Nat → Int32} {ln : Int32} {pt : Int32} {tx : Nat → Int32} {br : Nat → Int32} {rw : Nat → Int32}  : ∀ (fuel : Nat) (g : am_WS) (fx : Int32) (us : Nat → Int32) (x1 : Int32) (r : (String ⊕ Unit) × am_WS × Int32), f_Rep_clearLost_L2 fuel g fx us x1 = some r → ∀ o : am_O, am_ov r.1 = o →
    am_G (am_kk l D dA) (ws_Rep_clearLost, y_Rep_clearLost.cls, prog_5_method_11_code, 2, none, y_Rep_clearLost.name, [], am_rm 4 (o), none) o (hC r.2.1.1 r.2.1.2.1 r.2.1.2.2.1 li r.2.1.2.2.2.1 r.2.1.2.2.2.2.1 r.2.1.2.2.2.2.2.1 su r.2.1.2.2.2.2.2.2.1 r.2.1.2.2.2.2.2.2.2.1 r.2.1.2.2.2.2.2.2.2.2.1 r.2.1.2.2.2.2.2.2.2.2.2 ct lc ad ctb lcb adb r.2.2 us ln pt tx br rw rest) 0 0 2 [(0, .ref 12), (1, .int x1)] [] (hC g.1 g.2.1 g.2.2.1 li g.2.2.2.1 g.2.2.2.2.1 g.2.2.2.2.2.1 su g.2.2.2.2.2.2.1 g.2.2.2.2.2.2.2.1 g.2.2.2.2.2.2.2.2.1 g.2.2.2.2.2.2.2.2.2 ct lc ad ctb lcb adb fx us ln pt tx br rw rest) := by
  intro fuel
  induction fuel with
  | zero =>
    intro g fx us x1 r hf
    cases hf
  | succ fuel ih =>
    intro g fx us x1 r hf o ho
    subst ho
    rw [f_Rep_clearLost_L2] at hf
    refine g_iload_n (n := 3) d_Rep_clearLost_2 rfl 1 rfl rfl ?_
    refine g_bipush (n := 5) (v := 64) d_Rep_clearLost_3 rfl (by decide) ?_
    refine g_icmp_ge (n := 8) (tgt := 53) d_Rep_clearLost_5 rfl (by decide) (fun q1 => ?_) (fun q1 => ?_)
    · have hf := ob_pos q1 hf
      cases hf
      exact g_vret d_Rep_clearLost_53 rfl (Nat.zero_le _) (Nat.zero_le _)
    · have hf := ob_neg q1 hf
      refine g_aload_n (n := 9) d_Rep_clearLost_8 rfl 0 rfl rfl ?_
      refine g_get (n := 12) (q0 := 12) d_Rep_clearLost_9 rfl (am_fl in_Rep rfl (by decide : 3 < 5)) (List.mem_cons_of_mem _ tw_136) rfl rfl ?_
      refine g_iload_n (n := 13) d_Rep_clearLost_12 rfl 1 rfl rfl ?_
      obtain ⟨b2, hf⟩ := ob_chk hf
      refine g_zald (n := 14) (q0 := 13) d_Rep_clearLost_13 rfl rfl (am_inl b2) ?_
      refine g_if_ne (n := 17) (tgt := 47) d_Rep_clearLost_14 rfl (by decide) (fun q3 => ?_) (fun q3 => ?_)
      · have hf := ob_neg q3 hf
        refine g_iinc (n := 50) (v := (x1 + 1)) (ls' := [(1, .int (x1 + 1)), (0, .ref 12)]) d_Rep_clearLost_47 rfl 1 rfl rfl (am_ltb rfl) rfl ?_
        refine g_goto (n := 2) d_Rep_clearLost_50 (by decide) ?_
        refine g_ls [1, 0] rfl ?_
        exact ih g fx us (x1 + 1) _ hf _ rfl
      · have hf := ob_pos q3 hf
        refine g_aload_n (n := 18) d_Rep_clearLost_17 rfl 0 rfl rfl ?_
        refine g_get (n := 21) (q0 := 12) d_Rep_clearLost_18 rfl (am_fl in_Rep rfl (by decide : 1 < 5)) (List.mem_cons_of_mem _ tw_134) rfl rfl ?_
        refine g_iload_n (n := 22) d_Rep_clearLost_21 rfl 1 rfl rfl ?_
        obtain ⟨r4, h5, hf⟩ := ob_bind hf
        refine c_Vr (n := 25) (st' := [.int r4]) [.int x1] [] d_Rep_clearLost_22 rfl (s_Table_isFree htr h5 rfl) tw_810 tw_283 tw_284 tw_4 tw_285 hd_Table_isFree (by omega) (by decide) (ci := 5) rfl rfl rfl (Nat.le_of_ble_eq_true rfl) rfl rfl ?_
        refine g_if_ne (n := 28) (tgt := 47) d_Rep_clearLost_25 rfl (by decide) (fun q6 => ?_) (fun q6 => ?_)
        · have hf := ob_neg q6 hf
          refine g_iinc (n := 50) (v := (x1 + 1)) (ls' := [(1, .int (x1 + 1)), (0, .ref 12)]) d_Rep_clearLost_47 rfl 1 rfl rfl (am_ltb rfl) rfl ?_
          refine g_goto (n := 2) d_Rep_clearLost_50 (by decide) ?_
          refine g_ls [1, 0] rfl ?_
          exact ih g fx us (x1 + 1) _ hf _ rfl
        · have hf := ob_pos q6 hf
          refine g_aload_n (n := 29) d_Rep_clearLost_28 rfl 0 rfl rfl ?_
          refine g_get (n := 32) (q0 := 12) d_Rep_clearLost_29 rfl (am_fl in_Rep rfl (by decide : 1 < 5)) (List.mem_cons_of_mem _ tw_134) rfl rfl ?_
          refine g_iload_n (n := 33) d_Rep_clearLost_32 rfl 1 rfl rfl ?_
          refine g_iconst (n := 34) (v := 0) d_Rep_clearLost_33 rfl (by decide) ?_
          obtain ⟨r7, h8, hf⟩ := ob_bind hf
          rcases ob_t hf with ⟨E9, w11, hf⟩ | ⟨v10, w11, hf⟩
          · cases hf
            refine c_Vx (n := 37) (st' := []) [.int x1, .int 0] [] d_Rep_clearLost_34 rfl (s_Table_set htr h8 (by rw [w11]; rfl)) tw_805 tw_531 tw_532 tw_4 tw_533 hd_Table_set (by omega) (by decide) (ci := 5) rfl rfl rfl (Nat.le_of_ble_eq_true rfl) rfl ?_
            exact g_out rfl (Nat.le_refl _) (Nat.le_refl _)
          · refine c_Vr (n := 37) (st' := []) [.int x1, .int 0] [] d_Rep_clearLost_34 rfl (s_Table_set htr h8 (by rw [w11]; rfl)) tw_805 tw_531 tw_532 tw_4 tw_533 hd_Table_set (by omega) (by decide) (ci := 5) rfl rfl rfl (Nat.le_of_ble_eq_true rfl) rfl rfl ?_
            refine g_aload_n (n := 38) d_Rep_clearLost_37 rfl 0 rfl rfl ?_
            refine g_dup (n := 39) d_Rep_clearLost_38 rfl rfl ?_
            refine g_get (n := 42) (q0 := 12) d_Rep_clearLost_39 rfl (am_fl in_Rep rfl (by decide : 4 < 5)) (List.mem_cons_of_mem _ tw_137) rfl rfl ?_
            refine g_iconst (n := 43) (v := 1) d_Rep_clearLost_42 rfl (by decide) ?_
            refine g_iadd (n := 44) d_Rep_clearLost_43 rfl ?_
            refine g_put (n := 47) (q0 := 12) (h' := (hC r7.2.1 r7.2.2.1 r7.2.2.2.1 li r7.2.2.2.2.1 r7.2.2.2.2.2.1 r7.2.2.2.2.2.2.1 su r7.2.2.2.2.2.2.2.1 r7.2.2.2.2.2.2.2.2.1 r7.2.2.2.2.2.2.2.2.2.1 r7.2.2.2.2.2.2.2.2.2.2 ct lc ad ctb lcb adb (fx + 1) us ln pt tx br rw rest)) d_Rep_clearLost_44 rfl (am_fl in_Rep rfl (by decide : 4 < 5)) typ_Rep (List.mem_cons_of_mem _ tw_137) rfl (fun _ _ => rfl) (fun _ _ => rfl) rfl (am_ltb rfl) rfl ?_
            refine g_iinc (n := 50) (v := (x1 + 1)) (ls' := [(1, .int (x1 + 1)), (0, .ref 12)]) d_Rep_clearLost_47 rfl 1 rfl rfl (am_ltb rfl) rfl ?_
            refine g_goto (n := 2) d_Rep_clearLost_50 (by decide) ?_
            refine g_ls [1, 0] rfl ?_
            exact ih r7.2 (fx + 1) us (x1 + 1) _ hf _ rfl
def f_Rep_clearLost (g : am_WS) (fx : Int32) (us : Nat → Int32) : Option ((String ⊕ Unit) × am_WS × Int32) :=
  f_Rep_clearLost_L2 100000000000 g fx us 2
set_option maxHeartbeats 4000000 in
set_option maxRecDepth 100000 in
theorem s_Rep_clearLost {l : Launch} {D : va_G} {dA : FieldType → ClassId} (htr : l.stackTraces = false) {rest : List am_E} {li : Nat → Int32} {su : Int32} {ct : Int32} {lc : Int32} {ad : Nat → Int32} {ctb : Int32} {lcb : Int32} {adb : Nat → Int32} {fx : Int32} {us : Nat → Int32} {ln : Int32} {pt : Int32} {tx : Nat → Int32} {br : Nat → Int32} {rw : Nat → Int32} {g : am_WS}  {r : (String ⊕ Unit) × am_WS × Int32} (hf : f_Rep_clearLost g fx us = some r) {o : am_O} (ho : am_ov r.1 = o) :
    am_M (am_kk l D dA) y_Rep_clearLost ws_Rep_clearLost (am_rm 4 o) [.ref 12] (hC g.1 g.2.1 g.2.2.1 li g.2.2.2.1 g.2.2.2.2.1 g.2.2.2.2.2.1 su g.2.2.2.2.2.2.1 g.2.2.2.2.2.2.2.1 g.2.2.2.2.2.2.2.2.1 g.2.2.2.2.2.2.2.2.2 ct lc ad ctb lcb adb fx us ln pt tx br rw rest) o (hC r.2.1.1 r.2.1.2.1 r.2.1.2.2.1 li r.2.1.2.2.2.1 r.2.1.2.2.2.2.1 r.2.1.2.2.2.2.2.1 su r.2.1.2.2.2.2.2.2.1 r.2.1.2.2.2.2.2.2.2.1 r.2.1.2.2.2.2.2.2.2.2.1 r.2.1.2.2.2.2.2.2.2.2.2 ct lc ad ctb lcb adb r.2.2 us ln pt tx br rw rest) := by
  subst ho
  refine am_body (by decide) rfl (Nat.le_of_ble_eq_true rfl) rfl ?_
  rw [f_Rep_clearLost] at hf
  refine g_iconst (n := 1) (v := 2) d_Rep_clearLost_0 rfl (by decide) ?_
  refine g_istore_n (n := 2) (ls' := [(1, .int 2), (0, .ref 12)]) d_Rep_clearLost_1 rfl rfl (am_ltb rfl) rfl ?_
  refine g_ls [1, 0] rfl ?_
  exact s_Rep_clearLost_L2 htr 100000000000 g fx us 2 _ hf _ rfl
def f_V_repair (g : am_WS) (su : Int32) (ct : Int32) (lc : Int32) (ad : Nat → Int32) (fx : Int32) (us : Nat → Int32) : Option ((String ⊕ Int32) × am_WS × Int32 × Int32 × Int32 × (Nat → Int32) × Int32 × (Nat → Int32)) :=
  (if g.2.2.2.2.2.1 = 0 then some (.inl "java/lang/IllegalStateException", g, su, ct, lc, ad, fx, us) else ((f_Ses_leave g.2.1 g.2.2.1 g.2.2.2.1 g.2.2.2.2.1).bind fun r2 => ((f_Rep_mendTables (g.1, r2.1, r2.2.1, r2.2.2.1, r2.2.2.2, g.2.2.2.2.2.1, g.2.2.2.2.2.2.1, g.2.2.2.2.2.2.2.1, g.2.2.2.2.2.2.2.2.1, g.2.2.2.2.2.2.2.2.2) fx us).bind fun r4 => am_t r4.1 (fun E6 => some (.inl E6, r4.2.1, su, ct, lc, ad, r4.2.2.1, r4.2.2.2)) (fun v7 => ((f_Rep_mendRoot r4.2.1 r4.2.2.1 r4.2.2.2).bind fun r9 => am_t r9.1 (fun E11 => some (.inl E11, r9.2.1, su, ct, lc, ad, r9.2.2.1, r9.2.2.2)) (fun v12 => ((f_Rep_goThrough 8 r9.2.1 ct lc ad r9.2.2.1 r9.2.2.2 2 1).bind fun r14 => am_t r14.1 (fun E16 => some (.inl E16, r14.2.1, su, r14.2.2.1, r14.2.2.2.1, r14.2.2.2.2.1, r14.2.2.2.2.2.1, r14.2.2.2.2.2.2)) (fun v17 => ((f_Rep_clearLost r14.2.1 r14.2.2.2.2.2.1 r14.2.2.2.2.2.2).bind fun r19 => am_t r19.1 (fun E21 => some (.inl E21, r19.2.1, su, r14.2.2.1, r14.2.2.2.1, r14.2.2.2.2.1, r19.2.2, r14.2.2.2.2.2.2)) (fun v22 => some (.inr r19.2.2, r19.2.1, 0, r14.2.2.1, r14.2.2.2.1, r14.2.2.2.2.1, r19.2.2, r14.2.2.2.2.2.2)))))))))))
set_option maxHeartbeats 4000000 in
set_option maxRecDepth 100000 in
theorem s_V_repair {l : Launch} {D : va_G} {dA : FieldType → ClassId} (htr : l.stackTraces = false) {rest : List am_E} {li : Nat → Int32} {su : Int32} {ct : Int32} {lc : Int32} {ad : Nat → Int32} {ctb : Int32} {lcb : Int32} {adb : Nat → Int32} {fx : Int32} {us : Nat → Int32} {ln : Int32} {pt : Int32} {tx : Nat → Int32} {br : Nat → Int32} {rw : Nat → Int32} {g : am_WS}  {r : (String ⊕ Int32) × am_WS × Int32 × Int32 × Int32 × (Nat → Int32) × Int32 × (Nat → Int32)} (hf : f_V_repair g su ct lc ad fx us = some r) {o : am_O} (ho : am_oi r.1 = o) :
    am_M (am_kk l D dA) y_V_repair ws_V_repair (am_rm 15 o) [.ref 0] (hC g.1 g.2.1 g.2.2.1 li g.2.2.2.1 g.2.2.2.2.1 g.2.2.2.2.2.1 su g.2.2.2.2.2.2.1 g.2.2.2.2.2.2.2.1 g.2.2.2.2.2.2.2.2.1 g.2.2.2.2.2.2.2.2.2 ct lc ad ctb lcb adb fx us ln pt tx br rw rest) o (hC r.2.1.1 r.2.1.2.1 r.2.1.2.2.1 li r.2.1.2.2.2.1 r.2.1.2.2.2.2.1 r.2.1.2.2.2.2.2.1 r.2.2.1 r.2.1.2.2.2.2.2.2.1 r.2.1.2.2.2.2.2.2.2.1 r.2.1.2.2.2.2.2.2.2.2.1 r.2.1.2.2.2.2.2.2.2.2.2 r.2.2.2.1 r.2.2.2.2.1 r.2.2.2.2.2.1 ctb lcb adb r.2.2.2.2.2.2.1 r.2.2.2.2.2.2.2 ln pt tx br rw rest) := by
  subst ho
  refine am_body (by decide) rfl (Nat.le_of_ble_eq_true rfl) rfl ?_
  rw [f_V_repair] at hf
  refine g_aload_n (n := 1) d_V_repair_0 rfl 0 rfl rfl ?_
  refine g_get (n := 4) (q0 := 0) d_V_repair_1 rfl (am_fl in_V rfl (by decide : 1 < 8)) (List.mem_cons_of_mem _ tw_174) rfl rfl ?_
  refine g_getN (n := 7) (q0 := 5) d_V_repair_4 rfl (am_fl in_Disk rfl (by decide : 2 < 7)) nw_72 rfl rfl ?_
  refine g_if_ne (n := 10) (tgt := 21) d_V_repair_7 rfl (by decide) (fun q1 => ?_) (fun q1 => ?_)
  · have hf := ob_neg q1 hf
    refine g_aload_n (n := 22) d_V_repair_21 rfl 0 rfl rfl ?_
    refine g_get (n := 25) (q0 := 0) d_V_repair_22 rfl (am_fl in_V rfl (by decide : 0 < 8)) (List.mem_cons_of_mem _ tw_173) rfl rfl ?_
    obtain ⟨r2, h3, hf⟩ := ob_bind hf
    refine c_Vr (n := 28) (st' := []) [] [] d_V_repair_25 rfl (s_Ses_leave htr h3 rfl) tw_273 tw_33 tw_34 tw_2 tw_35 hd_Ses_leave (by omega) (by decide) (ci := 4) rfl rfl rfl (Nat.le_of_ble_eq_true rfl) rfl rfl ?_
    refine g_aload_n (n := 29) d_V_repair_28 rfl 0 rfl rfl ?_
    refine g_get (n := 32) (q0 := 0) d_V_repair_29 rfl (am_fl in_V rfl (by decide : 5 < 8)) (List.mem_cons_of_mem _ tw_178) rfl rfl ?_
    obtain ⟨r4, h5, hf⟩ := ob_bind hf
    rcases ob_t hf with ⟨E6, w8, hf⟩ | ⟨v7, w8, hf⟩
    · cases hf
      refine c_Vx (n := 35) (st' := []) [] [] d_V_repair_32 rfl (s_Rep_mendTables htr h5 (by rw [w8]; rfl)) tw_786 tw_787 tw_788 tw_6 tw_789 hd_Rep_mendTables (by omega) (by decide) (ci := 3) rfl rfl rfl (Nat.le_of_ble_eq_true rfl) rfl ?_
      exact g_out rfl (Nat.le_refl _) (Nat.le_refl _)
    · refine c_Vr (n := 35) (st' := []) [] [] d_V_repair_32 rfl (s_Rep_mendTables htr h5 (by rw [w8]; rfl)) tw_786 tw_787 tw_788 tw_6 tw_789 hd_Rep_mendTables (by omega) (by decide) (ci := 3) rfl rfl rfl (Nat.le_of_ble_eq_true rfl) rfl rfl ?_
      refine g_aload_n (n := 36) d_V_repair_35 rfl 0 rfl rfl ?_
      refine g_get (n := 39) (q0 := 0) d_V_repair_36 rfl (am_fl in_V rfl (by decide : 5 < 8)) (List.mem_cons_of_mem _ tw_178) rfl rfl ?_
      obtain ⟨r9, h10, hf⟩ := ob_bind hf
      rcases ob_t hf with ⟨E11, w13, hf⟩ | ⟨v12, w13, hf⟩
      · cases hf
        refine c_Vx (n := 42) (st' := []) [] [] d_V_repair_39 rfl (s_Rep_mendRoot htr h10 (by rw [w13]; rfl)) tw_806 tw_807 tw_808 tw_6 tw_809 hd_Rep_mendRoot (by omega) (by decide) (ci := 3) rfl rfl rfl (Nat.le_of_ble_eq_true rfl) rfl ?_
        exact g_out rfl (Nat.le_refl _) (Nat.le_refl _)
      · refine c_Vr (n := 42) (st' := []) [] [] d_V_repair_39 rfl (s_Rep_mendRoot htr h10 (by rw [w13]; rfl)) tw_806 tw_807 tw_808 tw_6 tw_809 hd_Rep_mendRoot (by omega) (by decide) (ci := 3) rfl rfl rfl (Nat.le_of_ble_eq_true rfl) rfl rfl ?_
        refine g_aload_n (n := 43) d_V_repair_42 rfl 0 rfl rfl ?_
        refine g_get (n := 46) (q0 := 0) d_V_repair_43 rfl (am_fl in_V rfl (by decide : 5 < 8)) (List.mem_cons_of_mem _ tw_178) rfl rfl ?_
        refine g_iconst (n := 47) (v := 2) d_V_repair_46 rfl (by decide) ?_
        refine g_iconst (n := 48) (v := 1) d_V_repair_47 rfl (by decide) ?_
        obtain ⟨r14, h15, hf⟩ := ob_bind hf
        rcases ob_t hf with ⟨E16, w18, hf⟩ | ⟨v17, w18, hf⟩
        · cases hf
          refine c_VNx (n := 51) (st' := []) [.int 2, .int 1] [] d_V_repair_48 rfl (s_Rep_goThrough htr 8 _ _ _ _ _ _ _ _ _ h15 _ (by rw [w18]; rfl)) nw_815 tw_817 (am_memS 10 (by decide +kernel) (by decide +kernel)) tw_6 tw_818 hd_Rep_goThrough (by omega) (by decide) (ci := 3) rfl rfl rfl (Nat.le_of_ble_eq_true rfl) rfl ?_
          exact g_out rfl (Nat.le_refl _) (Nat.le_refl _)
        · refine c_VNr (n := 51) (st' := []) [.int 2, .int 1] [] d_V_repair_48 rfl (s_Rep_goThrough htr 8 _ _ _ _ _ _ _ _ _ h15 _ (by rw [w18]; rfl)) nw_815 tw_817 (am_memS 10 (by decide +kernel) (by decide +kernel)) tw_6 tw_818 hd_Rep_goThrough (by omega) (by decide) (ci := 3) rfl rfl rfl (Nat.le_of_ble_eq_true rfl) rfl rfl ?_
          refine g_aload_n (n := 52) d_V_repair_51 rfl 0 rfl rfl ?_
          refine g_get (n := 55) (q0 := 0) d_V_repair_52 rfl (am_fl in_V rfl (by decide : 5 < 8)) (List.mem_cons_of_mem _ tw_178) rfl rfl ?_
          obtain ⟨r19, h20, hf⟩ := ob_bind hf
          rcases ob_t hf with ⟨E21, w23, hf⟩ | ⟨v22, w23, hf⟩
          · cases hf
            refine c_Vx (n := 58) (st' := []) [] [] d_V_repair_55 rfl (s_Rep_clearLost htr h20 (by rw [w23]; rfl)) tw_850 tw_851 tw_852 tw_6 tw_853 hd_Rep_clearLost (by omega) (by decide) (ci := 3) rfl rfl rfl (Nat.le_of_ble_eq_true rfl) rfl ?_
            exact g_out rfl (Nat.le_refl _) (Nat.le_refl _)
          · refine c_Vr (n := 58) (st' := []) [] [] d_V_repair_55 rfl (s_Rep_clearLost htr h20 (by rw [w23]; rfl)) tw_850 tw_851 tw_852 tw_6 tw_853 hd_Rep_clearLost (by omega) (by decide) (ci := 3) rfl rfl rfl (Nat.le_of_ble_eq_true rfl) rfl rfl ?_
            refine g_aload_n (n := 59) d_V_repair_58 rfl 0 rfl rfl ?_
            refine g_get (n := 62) (q0 := 0) d_V_repair_59 rfl (am_fl in_V rfl (by decide : 1 < 8)) (List.mem_cons_of_mem _ tw_174) rfl rfl ?_
            refine g_iconst (n := 63) (v := 0) d_V_repair_62 rfl (by decide) ?_
            refine g_putN (n := 66) (q0 := 5) (h' := (hC r19.2.1.1 r19.2.1.2.1 r19.2.1.2.2.1 li r19.2.1.2.2.2.1 r19.2.1.2.2.2.2.1 r19.2.1.2.2.2.2.2.1 0 r19.2.1.2.2.2.2.2.2.1 r19.2.1.2.2.2.2.2.2.2.1 r19.2.1.2.2.2.2.2.2.2.2.1 r19.2.1.2.2.2.2.2.2.2.2.2 r14.2.2.1 r14.2.2.2.1 r14.2.2.2.2.1 ctb lcb adb r19.2.2 r14.2.2.2.2.2.2 ln pt tx br rw rest)) d_V_repair_63 rfl (am_fl in_Disk rfl (by decide : 3 < 7)) typ_Disk nw_73 rfl (fun _ _ => rfl) (fun _ _ => rfl) rfl (am_ltb rfl) rfl ?_
            refine g_aload_n (n := 67) d_V_repair_66 rfl 0 rfl rfl ?_
            refine g_get (n := 70) (q0 := 0) d_V_repair_67 rfl (am_fl in_V rfl (by decide : 5 < 8)) (List.mem_cons_of_mem _ tw_178) rfl rfl ?_
            refine g_getN (n := 73) (q0 := 12) d_V_repair_70 rfl (am_fl in_Rep rfl (by decide : 4 < 5)) nw_138 rfl rfl ?_
            cases hf
            exact g_iret d_V_repair_73 rfl (Nat.zero_le _) (Nat.zero_le _)
  · have hf := ob_pos q1 hf
    cases hf
    exact c_T htr (by decide +kernel) e_IllegalStateException_0 e_IllegalStateException_1 e_IllegalStateException_2 e_IllegalStateException_5 tw_309 tw_12 rfl (List.mem_of_getElem? (i := 15) rfl) at_V_270 d_V_repair_10 d_V_repair_13 (Or.inr ⟨d_V_repair_14, rfl⟩) d_V_repair_17 d_V_repair_20 (Nat.le_of_ble_eq_true rfl)
