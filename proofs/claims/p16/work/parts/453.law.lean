theorem t0_dk : ta 0 255 i0_dk := by
  rw [i0_dk]
  repeat refine ta_upd ?_ (by decide) (by decide)
  exact fun _ => ⟨by decide, by decide⟩
theorem t0_op : ta 0 2224 i0_op := fun _ => show (0 : Int32) ≤ 0 ∧ (0 : Int32) ≤ 2224 from ⟨by decide, by decide⟩
theorem t0_ml : ta 0 255 i0_ml := fun _ => show (0 : Int32) ≤ 0 ∧ (0 : Int32) ≤ 255 from ⟨by decide, by decide⟩
theorem t0_nm : ta 0 255 i0_nm := fun _ => show (0 : Int32) ≤ 0 ∧ (0 : Int32) ≤ 255 from ⟨by decide, by decide⟩
theorem t0_ch : ta 0 63 i0_ch := fun _ => show (0 : Int32) ≤ 0 ∧ (0 : Int32) ≤ 63 from ⟨by decide, by decide⟩
theorem t0_nx : ta 0 128 i0_nx := fun _ => show (0 : Int32) ≤ 0 ∧ (0 : Int32) ≤ 128 from ⟨by decide, by decide⟩
theorem pu_law {L : Nat} {xs : Nat → Int32} (hL : L ≤ 2560) : ∃ r, f_L_law_L23 L xs 600 i0_g i0_li i0_su i0_ct i0_lc i0_ad i0_ctb i0_lcb i0_adb i0_fx i0_us i0_ln i0_pt i0_tx i0_br i0_rw i0_w i0_th i0_sp i0_mp i0_mf i0_ml i0_ps i0_nm i0_mu i0_ch i0_wy i0_nx i0_ou 0 = some r ∧ r.1 = 1 :=
  T_L_law_L23 L xs hL 600 i0_g i0_li i0_su i0_ct i0_lc i0_ad i0_ctb i0_lcb i0_adb i0_fx i0_us i0_ln i0_pt i0_tx i0_br i0_rw i0_w i0_th i0_sp i0_mp i0_mf i0_ml i0_ps i0_nm i0_mu i0_ch i0_wy i0_nx i0_ou 0 (by decide) (by decide) (by decide) (by decide) (by decide) (by decide) (by decide) (by decide) (by decide) (by decide) (by decide) (by decide) t0_dk t0_op (by decide) (by decide) t0_ml t0_nm t0_ch t0_nx (by decide) (by decide) (tl_z hL)
