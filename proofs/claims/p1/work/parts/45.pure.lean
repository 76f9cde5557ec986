/-! the law on scripts of one call: both sides' answers, as their functions give them -/
theorem pu_bind {α β : Type} {x : Option α} {a : α} {f : α → Option β} {P : β → Prop} (h : x = some a) (k : ∃ r, f a = some r ∧ P r) : ∃ r, x.bind f = some r ∧ P r := by
  rw [h]
  exact k
theorem pu_pos {β : Type} {c : Prop} [Decidable c] {a b : Option β} {P : β → Prop} (hc : c) (k : ∃ r, a = some r ∧ P r) : ∃ r, (if c then a else b) = some r ∧ P r := by
  rw [if_pos hc]
  exact k
theorem pu_neg {β : Type} {c : Prop} [Decidable c] {a b : Option β} {P : β → Prop} (hc : ¬ c) (k : ∃ r, b = some r ∧ P r) : ∃ r, (if c then a else b) = some r ∧ P r := by
  rw [if_neg hc]
  exact k
theorem pu_map {α β : Type} {x : Option α} {g : α → β} {v : β} (h : x.map g = some v) : ∃ r, x = some r ∧ g r = v := Option.map_eq_some_iff.mp h
theorem pu_fin {x : Int32} (n : Nat) (h0 : ¬ x < 0) (h1 : x.toInt < n) : ∃ k, k < n ∧ x = Int32.ofInt (k : Int) := by
  have h2 : ¬ x.toInt < 0 := fun z => h0 (Int32.lt_iff_toInt_lt.mpr z)
  refine ⟨x.toInt.toNat, by omega, ?_⟩
  have e : ((x.toInt.toNat : Nat) : Int) = x.toInt := by omega
  rw [e, Int32.ofInt_toInt]
theorem pu_lt {x : Int32} (n : Int32) (h : ¬ n ≤ x) : x.toInt < n.toInt := by
  have h2 : ¬ n.toInt ≤ x.toInt := fun z => h (Int32.le_iff_toInt_le.mpr z)
  omega
theorem pu_stop {xs : Nat → Int32} {fuel : Nat} {g} {li} {su} {ct} {lc} {ad} {ctb} {lcb} {adb} {fx} {us} {ln} {pt} {tx} {br} {rw} {w} {th} {sp} {mp} {mf} {ml} {ps} {nm} {mu} {ch} {wy} {nx} {ou} : ∃ r, f_L_law_L23 5 xs (fuel + 1) g li su ct lc ad ctb lcb adb fx us ln pt tx br rw w th sp mp mf ml ps nm mu ch wy nx ou (0 + 5) = some r ∧ r.1 = 1 := by
  rw [f_L_law_L23, if_pos (by decide)]
  exact ⟨_, rfl, rfl⟩
theorem pu_le {x : Int32} (n : Int32) (h : ¬ n < x) : x.toInt ≤ n.toInt := by
  have h2 : ¬ n.toInt < x.toInt := fun z => h (Int32.lt_iff_toInt_lt.mpr z)
  omega
theorem pu_two {α β : Type} {X : Option α} {Y : Option β} {P : α → β → Bool} (h : (X.bind fun a => Y.map fun b => P a b) = some true) : ∃ a b, X = some a ∧ Y = some b ∧ P a b = true := by
  cases X with
  | none => cases h
  | some a =>
    cases Y with
    | none => cases h
    | some b => exact ⟨a, b, rfl, rfl, Option.some.inj h⟩
theorem pu_eq {α β γ : Type} {X : Option α} {Y : Option β} {ga : α → γ} {gb : β → γ} {v : γ} (h1 : X.map ga = some v) (h2 : Y.map gb = some v) : ∃ a b, X = some a ∧ Y = some b ∧ ga a = gb b := by
  obtain ⟨a, e1, e2⟩ := pu_map h1
  obtain ⟨b, e3, e4⟩ := pu_map h2
  exact ⟨a, b, e1, e3, e2.trans e4.symm⟩
theorem pu_eq2 {α β γ : Type} {X : Option α} {Y : Option β} {ga : α → γ} {gb : β → γ} {v w : γ} (hv : ¬ v = w) (h1 : X.map ga = some v) (h2 : Y.map gb = some v) : ∃ a b, X = some a ∧ Y = some b ∧ gb b = ga a ∧ ¬ ga a = w := by
  obtain ⟨a, e1, e2⟩ := pu_map h1
  obtain ⟨b, e3, e4⟩ := pu_map h2
  exact ⟨a, b, e1, e3, e4.trans e2.symm, by rw [e2]; exact hv⟩
theorem pu_isV (x : Int32) : f_Ses_isOpen i0_g.2.2.2.1 x = some 0 := by
  rw [f_Ses_isOpen]
  by_cases a : x < 0
  · rw [if_pos a]
  · rw [if_neg a]
    by_cases b : 4 ≤ x
    · rw [if_pos b]
    · rw [if_neg b]
      obtain ⟨k, hk, rfl⟩ := pu_fin 4 a (pu_lt 4 b)
      have z : ∀ k : Nat, k < 4 → (if am_in (Int32.ofInt (k : Int)) 4 = true then (if i0_g.2.2.2.1 (Int32.ofInt (k : Int)).toNatClampNeg = (-1) then some (0 : Int32) else some 1) else none) = some 0 := by decide +kernel
      exact z k hk
theorem pu_isM (x : Int32) : f_M_isOpen i0_w.2.2.2.2.2.2.2.2 x = some 0 := by
  rw [f_M_isOpen, f_M_in]
  by_cases a : x < 0
  · rw [if_pos a]
    rfl
  · rw [if_neg a]
    by_cases b : 3 < x
    · rw [if_pos b]
      rfl
    · rw [if_neg b]
      obtain ⟨k, hk, rfl⟩ := pu_fin 4 a (by have z := pu_le 3 b; have e : (3 : Int32).toInt = 3 := by decide
                                            omega)
      have z : ∀ k : Nat, k < 4 → (Option.bind (some (1 : Int32)) fun r1 => (if r1 = 0 then some (0 : Int32) else (if am_in (Int32.ofInt (k : Int)) 4 = true then (if i0_w.2.2.2.2.2.2.2.2 (Int32.ofInt (k : Int)).toNatClampNeg ≤ 0 then some 0 else some 1) else none))) = some 0 := by decide +kernel
      exact z k hk
theorem pu_0 (x1 : Int32) : ∃ a b, f_V_type i0_g.1 i0_li x1 = some a ∧ f_M_type i0_w.2.2.2.2.1 i0_th i0_ml x1 = some b ∧ a.1 = b.1 := by
  by_cases c1 : x1 < 33
  · exact pu_eq (X := f_V_type i0_g.1 i0_li x1) (Y := f_M_type i0_w.2.2.2.2.1 i0_th i0_ml x1) (ga := fun r => r.1) (gb := fun r => r.1) (v := 0) (by simp (decide := true) [f_V_type, f_Ses_append, am_bl, am_in, i0_g, i0_ll, c1]) (by simp (decide := true) [f_M_type, am_in, i0_w, i0_ty, c1])
  · by_cases c2 : 126 < x1
    · exact pu_eq (X := f_V_type i0_g.1 i0_li x1) (Y := f_M_type i0_w.2.2.2.2.1 i0_th i0_ml x1) (ga := fun r => r.1) (gb := fun r => r.1) (v := 0) (by simp (decide := true) [f_V_type, f_Ses_append, am_bl, am_in, i0_g, i0_ll, c1, c2]) (by simp (decide := true) [f_M_type, am_in, i0_w, i0_ty, c1, c2])
    · by_cases c3 : x1 = 47
      · exact pu_eq (X := f_V_type i0_g.1 i0_li x1) (Y := f_M_type i0_w.2.2.2.2.1 i0_th i0_ml x1) (ga := fun r => r.1) (gb := fun r => r.1) (v := 0) (by simp (decide := true) [f_V_type, f_Ses_append, am_bl, am_in, i0_g, i0_ll, c1, c2, c3]) (by simp (decide := true) [f_M_type, am_in, i0_w, i0_ty, c1, c2, c3])
      · exact pu_eq (X := f_V_type i0_g.1 i0_li x1) (Y := f_M_type i0_w.2.2.2.2.1 i0_th i0_ml x1) (ga := fun r => r.1) (gb := fun r => r.1) (v := 1) (by simp (decide := true) [f_V_type, f_Ses_append, am_bl, am_in, i0_g, i0_ll, c1, c2, c3]) (by simp (decide := true) [f_M_type, am_in, i0_w, i0_ty, c1, c2, c3])
theorem pu_1 (x1 : Int32) : ∃ a b, f_H_create i0_g i0_li i0_su i0_ct i0_lc i0_ad i0_ln i0_pt i0_tx i0_br i0_rw x1 = some a ∧ f_M_create i0_w i0_th i0_sp i0_mp i0_ml i0_nm x1 = some b ∧ b.2.1 = a.1 := by
  have h1 : f_V_demandSoundDisk i0_g.2.2.2.2.2.1 i0_su = some (.inr ()) := rfl
  obtain ⟨r2, h2, h3⟩ := pu_map (x := f_Name_takeLineOf i0_g.1 i0_li i0_ln i0_tx) (g := fun r => f_Name_isGood r.2.1 r.2.2) (v := some 0) (by decide +kernel)
  have h4 : f_M_ready i0_w.1 i0_w.2.1 i0_th i0_sp = some (1, 0, 0) := rfl
  refine pu_eq (X := f_H_create i0_g i0_li i0_su i0_ct i0_lc i0_ad i0_ln i0_pt i0_tx i0_br i0_rw x1) (Y := f_M_create i0_w i0_th i0_sp i0_mp i0_ml i0_nm x1) (ga := fun r => r.1) (gb := fun r => r.2.1) (v := 2) ?_ ?_ |> fun ⟨a, b, z1, z2, z3⟩ => ⟨a, b, z1, z2, z3.symm⟩
  · simp only [f_H_create, f_V_create, h1, h2, h3, Option.bind_some, am_t, if_true]
    rfl
  · simp only [f_M_create, h4, Option.bind_some]
    rfl
theorem pu_2  : ∃ a b, f_H_delete i0_g i0_li i0_su i0_ct i0_lc i0_ad i0_ctb i0_lcb i0_adb i0_ln i0_tx = some a ∧ f_M_delete i0_w i0_th i0_sp i0_ml = some b ∧ b.2 = a.1 := by
  obtain ⟨a, b, h1, h2, h3⟩ := pu_two (X := f_H_delete i0_g i0_li i0_su i0_ct i0_lc i0_ad i0_ctb i0_lcb i0_adb i0_ln i0_tx) (Y := f_M_delete i0_w i0_th i0_sp i0_ml) (P := fun a b => decide (b.2 = a.1)) (by decide +kernel)
  exact ⟨a, b, h1, h2, of_decide_eq_true h3⟩
theorem pu_3  : ∃ a b, f_H_enter i0_g.1 i0_g.2.1 i0_g.2.2.1 i0_li i0_g.2.2.2.2.2.1 i0_su i0_g.2.2.2.2.2.2.2.2.2 i0_ct i0_lc i0_ad i0_ln i0_tx = some a ∧ f_M_enter i0_w.1 i0_w.2.1 i0_w.2.2.2.2.1 i0_w.2.2.2.2.2.1 i0_w.2.2.2.2.2.2.1 i0_w.2.2.2.2.2.2.2.1 i0_th i0_sp i0_ml = some b ∧ b.2.2.2.2 = a.1 := by
  obtain ⟨a, b, h1, h2, h3⟩ := pu_two (X := f_H_enter i0_g.1 i0_g.2.1 i0_g.2.2.1 i0_li i0_g.2.2.2.2.2.1 i0_su i0_g.2.2.2.2.2.2.2.2.2 i0_ct i0_lc i0_ad i0_ln i0_tx) (Y := f_M_enter i0_w.1 i0_w.2.1 i0_w.2.2.2.2.1 i0_w.2.2.2.2.2.1 i0_w.2.2.2.2.2.2.1 i0_w.2.2.2.2.2.2.2.1 i0_th i0_sp i0_ml) (P := fun a b => decide (b.2.2.2.2 = a.1)) (by decide +kernel)
  exact ⟨a, b, h1, h2, of_decide_eq_true h3⟩
theorem pu_4  : ∃ a b, f_H_open i0_g.1 i0_g.2.1 i0_li i0_g.2.2.2.1 i0_g.2.2.2.2.1 i0_g.2.2.2.2.2.1 i0_su i0_g.2.2.2.2.2.2.2.2.2 i0_ct i0_lc i0_ad i0_ln i0_tx i0_ou = some a ∧ f_M_open i0_w.1 i0_w.2.1 i0_w.2.2.2.2.1 i0_w.2.2.2.2.2.1 i0_w.2.2.2.2.2.2.2.1 i0_w.2.2.2.2.2.2.2.2 i0_th i0_sp i0_ml i0_ps = some b ∧ b.2.2.2.2.1 = a.1 ∧ ¬ a.1 = 0 := by
  obtain ⟨a, b, h1, h2, h3⟩ := pu_two (X := f_H_open i0_g.1 i0_g.2.1 i0_li i0_g.2.2.2.1 i0_g.2.2.2.2.1 i0_g.2.2.2.2.2.1 i0_su i0_g.2.2.2.2.2.2.2.2.2 i0_ct i0_lc i0_ad i0_ln i0_tx i0_ou) (Y := f_M_open i0_w.1 i0_w.2.1 i0_w.2.2.2.2.1 i0_w.2.2.2.2.2.1 i0_w.2.2.2.2.2.2.2.1 i0_w.2.2.2.2.2.2.2.2 i0_th i0_sp i0_ml i0_ps) (P := fun a b => decide (b.2.2.2.2.1 = a.1 ∧ ¬ a.1 = 0)) (by decide +kernel)
  exact ⟨a, b, h1, h2, of_decide_eq_true h3⟩
theorem pu_11  : ∃ a b, f_V_power i0_g.2.2.2.2.2.1 = some a ∧ f_M_power i0_w.1 i0_th = some b ∧ a.1 = b.1 := by
  obtain ⟨a, b, h1, h2, h3⟩ := pu_two (X := f_V_power i0_g.2.2.2.2.2.1) (Y := f_M_power i0_w.1 i0_th) (P := fun a b => decide (a.1 = b.1)) (by decide +kernel)
  exact ⟨a, b, h1, h2, of_decide_eq_true h3⟩
theorem pu_12  : ∃ a b, f_H_repair i0_g i0_su i0_ct i0_lc i0_ad i0_fx i0_us i0_ou = some a ∧ f_M_repair i0_w i0_th i0_sp i0_mf i0_mu i0_ch i0_wy i0_nx = some b ∧ b.2.2.1 = a.1 ∧ a.1 = 0 ∧ lg_cmp (a.2.1 (0 : Int32).toNatClampNeg) b.1.toInt64 = 0 := by
  obtain ⟨a, b, h1, h2, h3⟩ := pu_two (X := f_H_repair i0_g i0_su i0_ct i0_lc i0_ad i0_fx i0_us i0_ou) (Y := f_M_repair i0_w i0_th i0_sp i0_mf i0_mu i0_ch i0_wy i0_nx) (P := fun a b => decide (b.2.2.1 = a.1 ∧ a.1 = 0 ∧ lg_cmp (a.2.1 (0 : Int32).toNatClampNeg) b.1.toInt64 = 0)) (by decide +kernel)
  exact ⟨a, b, h1, h2, of_decide_eq_true h3⟩
theorem pu_5 (x1 : Int32) : ∃ a b, f_V_close i0_g.2.2.2.1 x1 = some a ∧ f_M_close i0_w.2.2.2.2.2.2.2.2 i0_th x1 = some b ∧ a.1 = b.1 := by
  exact pu_eq (X := f_V_close i0_g.2.2.2.1 x1) (Y := f_M_close i0_w.2.2.2.2.2.2.2.2 i0_th x1) (ga := fun r => r.1) (gb := fun r => r.1) (v := 0) (by rw [f_V_close, pu_isV]; rfl) (by rw [f_M_close, pu_isM]; rfl)
theorem pu_6 (x1 : Int32) (x2 : Int32) : ∃ a b, f_V_seek i0_g.2.2.2.1 i0_g.2.2.2.2.1 i0_g.2.2.2.2.2.2.2.2.2 x1 x2 = some a ∧ f_M_seek i0_w.2.2.2.2.2.2.2.1 i0_w.2.2.2.2.2.2.2.2 i0_th i0_ps x1 x2 = some b ∧ a.1 = b.1 := by
  exact pu_eq (X := f_V_seek i0_g.2.2.2.1 i0_g.2.2.2.2.1 i0_g.2.2.2.2.2.2.2.2.2 x1 x2) (Y := f_M_seek i0_w.2.2.2.2.2.2.2.1 i0_w.2.2.2.2.2.2.2.2 i0_th i0_ps x1 x2) (ga := fun r => r.1) (gb := fun r => r.1) (v := 0) (by rw [f_V_seek, pu_isV]; rfl) (by rw [f_M_seek, pu_isM]; rfl)
theorem pu_7 (x1 : Int32) (x2 : Int32) : ∃ a b, f_H_read i0_g.2.2.2.1 i0_g.2.2.2.2.1 i0_g.2.2.2.2.2.1 i0_su i0_g.2.2.2.2.2.2.2.2.2 i0_ou x1 x2 = some a ∧ f_M_read i0_w.1 i0_w.2.1 i0_w.2.2.2.2.2.2.2.1 i0_w.2.2.2.2.2.2.2.2 i0_th i0_sp i0_ps x1 x2 = some b ∧ b.2.2.1 = a.1 ∧ ¬ a.1 = 0 := by
  have h1 : f_V_demandSoundDisk i0_g.2.2.2.2.2.1 i0_su = some (.inr ()) := rfl
  have h4 : f_M_ready i0_w.1 i0_w.2.1 i0_th i0_sp = some (1, 0, 0) := rfl
  refine pu_eq2 (X := f_H_read i0_g.2.2.2.1 i0_g.2.2.2.2.1 i0_g.2.2.2.2.2.1 i0_su i0_g.2.2.2.2.2.2.2.2.2 i0_ou x1 x2) (Y := f_M_read i0_w.1 i0_w.2.1 i0_w.2.2.2.2.2.2.2.1 i0_w.2.2.2.2.2.2.2.2 i0_th i0_sp i0_ps x1 x2) (ga := fun r => r.1) (gb := fun r => r.2.2.1) (v := 2) (w := 0) (by decide) ?_ ?_
  · simp only [f_H_read, f_V_read, h1, pu_isV, Option.bind_some, am_t, if_true]
    rfl
  · simp only [f_M_read, h4, pu_isM, Option.bind_some]
    rfl
theorem pu_8 (x1 : Int32) (x2 : Int64) (x4 : Int32) : ∃ a b, f_H_write i0_g i0_su i0_rw i0_ou x1 x2 x4 = some a ∧ f_M_write i0_w i0_th i0_sp i0_ps x1 x2 x4 = some b ∧ b.2.2.1 = a.1 ∧ ¬ a.1 = 0 := by
  have h1 : f_V_demandSoundDisk i0_g.2.2.2.2.2.1 i0_su = some (.inr ()) := rfl
  have h4 : f_M_ready i0_w.1 i0_w.2.1 i0_th i0_sp = some (1, 0, 0) := rfl
  refine pu_eq2 (X := f_H_write i0_g i0_su i0_rw i0_ou x1 x2 x4) (Y := f_M_write i0_w i0_th i0_sp i0_ps x1 x2 x4) (ga := fun r => r.1) (gb := fun r => r.2.2.1) (v := 2) (w := 0) (by decide) ?_ ?_
  · simp only [f_H_write, f_V_write, h1, pu_isV, Option.bind_some, am_t, if_true]
    rfl
  · simp only [f_M_write, h4, pu_isM, Option.bind_some]
    rfl
theorem pu_9 (x1 : Int32) (x2 : Int32) : ∃ a b, f_H_list i0_g.2.1 i0_g.2.2.2.2.2.1 i0_su i0_g.2.2.2.2.2.2.2.2.2 i0_ct i0_lc i0_ad i0_ou x1 x2 = some a ∧ f_M_list i0_w.1 i0_w.2.1 i0_w.2.2.2.2.2.1 i0_w.2.2.2.2.2.2.2.1 i0_th i0_sp x1 x2 = some b ∧ b.2.2 = a.1 ∧ ¬ a.1 = 0 := by
  have h1 : f_V_demandSoundDisk i0_g.2.2.2.2.2.1 i0_su = some (.inr ()) := rfl
  have h4 : f_M_ready i0_w.1 i0_w.2.1 i0_th i0_sp = some (1, 0, 0) := rfl
  obtain ⟨r, hr, hr1⟩ : ∃ r, f_Folder_load i0_g.2.2.2.2.2.2.2.2.2 i0_ct i0_lc i0_ad i0_g.2.1 = some r ∧ f_Folder_indexOfNamed i0_g.2.2.2.2.2.2.2.2.2 r.1 r.2.2 x1 = some (-1) := by
    obtain ⟨r, hr, z⟩ := pu_map (x := f_Folder_load i0_g.2.2.2.2.2.2.2.2.2 i0_ct i0_lc i0_ad i0_g.2.1) (g := fun r => (r.1, f_Folder_isNamed i0_g.2.2.2.2.2.2.2.2.2 r.1 r.2.2 0, f_Folder_isNamed i0_g.2.2.2.2.2.2.2.2.2 r.1 r.2.2 1)) (v := (2, some 0, some 0)) (by decide +kernel)
    simp only [Prod.mk.injEq] at z
    obtain ⟨y1, y2, y3⟩ := z
    refine ⟨r, hr, ?_⟩
    rw [y1] at y2 y3 ⊢
    rw [f_Folder_indexOfNamed, f_Folder_indexOfNamed_L4, if_neg (by decide), y2, Option.bind_some, if_pos rfl, f_Folder_indexOfNamed_L4, if_neg (by decide)]
    rw [show (0 : Int32) + 1 = 1 from by decide, y3, Option.bind_some, if_pos rfl, f_Folder_indexOfNamed_L4, if_pos (by decide)]
  refine pu_eq2 (X := f_H_list i0_g.2.1 i0_g.2.2.2.2.2.1 i0_su i0_g.2.2.2.2.2.2.2.2.2 i0_ct i0_lc i0_ad i0_ou x1 x2) (Y := f_M_list i0_w.1 i0_w.2.1 i0_w.2.2.2.2.2.1 i0_w.2.2.2.2.2.2.2.1 i0_th i0_sp x1 x2) (ga := fun r => r.1) (gb := fun r => r.2.2) (v := 2) (w := 0) (by decide) ?_ ?_
  · simp only [f_H_list, f_V_list, h1, hr, hr1, Option.bind_some, am_t, if_true]
    rfl
  · have e1 : f_M_length i0_w.2.2.2.2.2.2.2.1 i0_w.2.2.2.2.2.1 = some 1 := by decide +kernel
    obtain ⟨p0, hp0, hq0⟩ : ∃ p, f_M_place i0_w.2.2.2.2.2.2.2.1 i0_w.2.2.2.2.2.1 0 = some p ∧ f_M_isNamed i0_w.2.2.2.2.2.2.2.1 p = some 0 := pu_map (x := f_M_place i0_w.2.2.2.2.2.2.2.1 i0_w.2.2.2.2.2.1 0) (g := fun p => f_M_isNamed i0_w.2.2.2.2.2.2.2.1 p) (v := some 0) (by decide +kernel)
    obtain ⟨p1, hp1, hq1⟩ : ∃ p, f_M_place i0_w.2.2.2.2.2.2.2.1 i0_w.2.2.2.2.2.1 1 = some p ∧ f_M_isNamed i0_w.2.2.2.2.2.2.2.1 p = some 0 := pu_map (x := f_M_place i0_w.2.2.2.2.2.2.2.1 i0_w.2.2.2.2.2.1 1) (g := fun p => f_M_isNamed i0_w.2.2.2.2.2.2.2.1 p) (v := some 0) (by decide +kernel)
    rw [f_M_list, h4, Option.bind_some, if_neg (by decide), f_M_list_L17, e1, Option.bind_some, if_neg (by decide), hp0, Option.bind_some, hq0, Option.bind_some, if_pos rfl, f_M_list_L17, e1, Option.bind_some, if_neg (by decide)]
    rw [show (0 : Int32) + 1 = 1 from by decide, hp1, Option.bind_some, hq1, Option.bind_some, if_pos rfl, f_M_list_L17, e1, Option.bind_some, if_pos (by decide), if_neg (by decide)]
    rfl
theorem pu_10 (x1 : Int32) : ∃ a b, f_V_cut i0_g.2.2.2.2.2.1 i0_g.2.2.2.2.2.2.2.1 i0_g.2.2.2.2.2.2.2.2.1 x1 = some a ∧ f_M_cut i0_w.1 i0_w.2.2.2.1 i0_th x1 = some b ∧ a.1 = b.1 := by
  by_cases c : x1 < 0
  · exact pu_eq (X := f_V_cut i0_g.2.2.2.2.2.1 i0_g.2.2.2.2.2.2.2.1 i0_g.2.2.2.2.2.2.2.2.1 x1) (Y := f_M_cut i0_w.1 i0_w.2.2.2.1 i0_th x1) (ga := fun r => r.1) (gb := fun r => r.1) (v := 0) (by simp (decide := true) [f_V_cut, f_Disk_setCut, am_bl, c]) (by simp (decide := true) [f_M_cut, c])
  · exact pu_eq (X := f_V_cut i0_g.2.2.2.2.2.1 i0_g.2.2.2.2.2.2.2.1 i0_g.2.2.2.2.2.2.2.2.1 x1) (Y := f_M_cut i0_w.1 i0_w.2.2.2.1 i0_th x1) (ga := fun r => r.1) (gb := fun r => r.1) (v := 1) (by simp (decide := true) [f_V_cut, f_Disk_setCut, am_bl, i0_g, i0_pw, c]) (by simp (decide := true) [f_M_cut, i0_w, i0_on, c])
theorem pu_up {x : Int32} (n m : Int32) (e : m.toInt = n.toInt - 1) (h : n ≤ x) : m < x := by
  have z := Int32.le_iff_toInt_le.mp h
  exact Int32.lt_iff_toInt_lt.mpr (by omega)
theorem pu_dn {x : Int32} (n m : Int32) (e : m.toInt = n.toInt - 1) (h : ¬ n ≤ x) : ¬ m < x := by
  intro z
  have y := Int32.lt_iff_toInt_lt.mp z
  exact h (Int32.le_iff_toInt_le.mpr (by omega))
theorem pu_13 (x1 : Int32) (x2 : Int32) : ∃ a b, f_V_octet i0_g.2.2.2.2.2.2.2.2.2 x1 x2 = some a ∧ f_M_octet i0_w.2.2.2.2.2.2.2.1 i0_th x1 x2 = some b ∧ a = b.1 := by
  by_cases a1 : x1 < 0
  · exact pu_eq (X := f_V_octet i0_g.2.2.2.2.2.2.2.2.2 x1 x2) (Y := f_M_octet i0_w.2.2.2.2.2.2.2.1 i0_th x1 x2) (ga := fun r => r) (gb := fun r => r.1) (v := (-1)) (by simp [f_V_octet, f_V_isOnDisk, a1]) (by simp [f_M_octet, f_M_in, a1])
  by_cases a2 : 70 ≤ x1
  · have a5 := pu_up 70 69 (by decide) a2
    exact pu_eq (X := f_V_octet i0_g.2.2.2.2.2.2.2.2.2 x1 x2) (Y := f_M_octet i0_w.2.2.2.2.2.2.2.1 i0_th x1 x2) (ga := fun r => r) (gb := fun r => r.1) (v := (-1)) (by simp [f_V_octet, f_V_isOnDisk, a1, a2]) (by simp [f_M_octet, f_M_in, a1, a5])
  have a6 := pu_dn 70 69 (by decide) a2
  by_cases a3 : x2 < 0
  · exact pu_eq (X := f_V_octet i0_g.2.2.2.2.2.2.2.2.2 x1 x2) (Y := f_M_octet i0_w.2.2.2.2.2.2.2.1 i0_th x1 x2) (ga := fun r => r) (gb := fun r => r.1) (v := (-1)) (by simp [f_V_octet, f_V_isOnDisk, a1, a2, a3]) (by simp [f_M_octet, f_M_in, a1, a6, a3])
  by_cases a4 : 32 ≤ x2
  · have a7 := pu_up 32 31 (by decide) a4
    exact pu_eq (X := f_V_octet i0_g.2.2.2.2.2.2.2.2.2 x1 x2) (Y := f_M_octet i0_w.2.2.2.2.2.2.2.1 i0_th x1 x2) (ga := fun r => r) (gb := fun r => r.1) (v := (-1)) (by simp [f_V_octet, f_V_isOnDisk, a1, a2, a3, a4]) (by simp [f_M_octet, f_M_in, a1, a6, a3, a7])
  obtain ⟨k, hk, rfl⟩ := pu_fin 70 a1 (pu_lt 70 a2)
  obtain ⟨j, hj, rfl⟩ := pu_fin 32 a3 (pu_lt 32 a4)
  have z : ∀ k : Nat, k < 70 → ∀ j : Nat, j < 32 → ((f_V_octet i0_g.2.2.2.2.2.2.2.2.2 (Int32.ofInt (k : Int)) (Int32.ofInt (j : Int))).bind fun a => (f_M_octet i0_w.2.2.2.2.2.2.2.1 i0_th (Int32.ofInt (k : Int)) (Int32.ofInt (j : Int))).map fun b => decide (a = b.1)) = some true := by decide +kernel
  obtain ⟨a, b, h1, h2, h3⟩ := pu_two (X := f_V_octet i0_g.2.2.2.2.2.2.2.2.2 (Int32.ofInt (k : Int)) (Int32.ofInt (j : Int))) (Y := f_M_octet i0_w.2.2.2.2.2.2.2.1 i0_th (Int32.ofInt (k : Int)) (Int32.ofInt (j : Int))) (P := fun a b => decide (a = b.1)) (z k hk j hj)
  exact ⟨a, b, h1, h2, of_decide_eq_true h3⟩
theorem pu_14 (x1 : Int32) (x2 : Int32) (x3 : Int32) : ∃ a b, f_V_poke i0_g.2.1 i0_g.2.2.1 i0_g.2.2.2.1 i0_g.2.2.2.2.1 i0_su i0_g.2.2.2.2.2.2.2.2.2 x1 x2 x3 = some a ∧ f_M_poke i0_w.2.2.2.2.2.1 i0_w.2.2.2.2.2.2.1 i0_w.2.2.2.2.2.2.2.1 i0_w.2.2.2.2.2.2.2.2 i0_th i0_sp x1 x2 x3 = some b ∧ a.1 = b.1 := by
  by_cases a1 : x1 < 0
  · exact pu_eq (X := f_V_poke i0_g.2.1 i0_g.2.2.1 i0_g.2.2.2.1 i0_g.2.2.2.2.1 i0_su i0_g.2.2.2.2.2.2.2.2.2 x1 x2 x3) (Y := f_M_poke i0_w.2.2.2.2.2.1 i0_w.2.2.2.2.2.2.1 i0_w.2.2.2.2.2.2.2.1 i0_w.2.2.2.2.2.2.2.2 i0_th i0_sp x1 x2 x3) (ga := fun r => r.1) (gb := fun r => r.1) (v := 0) (by simp [f_V_poke, f_V_isOnDisk, a1]) (by simp [f_M_poke, f_M_in, a1])
  by_cases a2 : 70 ≤ x1
  · have a5 := pu_up 70 69 (by decide) a2
    exact pu_eq (X := f_V_poke i0_g.2.1 i0_g.2.2.1 i0_g.2.2.2.1 i0_g.2.2.2.2.1 i0_su i0_g.2.2.2.2.2.2.2.2.2 x1 x2 x3) (Y := f_M_poke i0_w.2.2.2.2.2.1 i0_w.2.2.2.2.2.2.1 i0_w.2.2.2.2.2.2.2.1 i0_w.2.2.2.2.2.2.2.2 i0_th i0_sp x1 x2 x3) (ga := fun r => r.1) (gb := fun r => r.1) (v := 0) (by simp [f_V_poke, f_V_isOnDisk, a1, a2]) (by simp [f_M_poke, f_M_in, a1, a5])
  have a6 := pu_dn 70 69 (by decide) a2
  by_cases a3 : x2 < 0
  · exact pu_eq (X := f_V_poke i0_g.2.1 i0_g.2.2.1 i0_g.2.2.2.1 i0_g.2.2.2.2.1 i0_su i0_g.2.2.2.2.2.2.2.2.2 x1 x2 x3) (Y := f_M_poke i0_w.2.2.2.2.2.1 i0_w.2.2.2.2.2.2.1 i0_w.2.2.2.2.2.2.2.1 i0_w.2.2.2.2.2.2.2.2 i0_th i0_sp x1 x2 x3) (ga := fun r => r.1) (gb := fun r => r.1) (v := 0) (by simp [f_V_poke, f_V_isOnDisk, a1, a2, a3]) (by simp [f_M_poke, f_M_in, a1, a6, a3])
  by_cases a4 : 32 ≤ x2
  · have a7 := pu_up 32 31 (by decide) a4
    exact pu_eq (X := f_V_poke i0_g.2.1 i0_g.2.2.1 i0_g.2.2.2.1 i0_g.2.2.2.2.1 i0_su i0_g.2.2.2.2.2.2.2.2.2 x1 x2 x3) (Y := f_M_poke i0_w.2.2.2.2.2.1 i0_w.2.2.2.2.2.2.1 i0_w.2.2.2.2.2.2.2.1 i0_w.2.2.2.2.2.2.2.2 i0_th i0_sp x1 x2 x3) (ga := fun r => r.1) (gb := fun r => r.1) (v := 0) (by simp [f_V_poke, f_V_isOnDisk, a1, a2, a3, a4]) (by simp [f_M_poke, f_M_in, a1, a6, a3, a7])
  obtain ⟨k, hk, rfl⟩ := pu_fin 70 a1 (pu_lt 70 a2)
  obtain ⟨j, hj, rfl⟩ := pu_fin 32 a3 (pu_lt 32 a4)
  have z : ∀ k : Nat, k < 70 → ∀ j : Nat, j < 32 → (f_V_isOnDisk (Int32.ofInt (k : Int)) (Int32.ofInt (j : Int)) = some 1 ∧ ¬ (Int32.ofInt (k : Int)) * 32 + (Int32.ofInt (j : Int)) < 0 ∧ ¬ 2240 ≤ (Int32.ofInt (k : Int)) * 32 + (Int32.ofInt (j : Int)) ∧ am_in ((Int32.ofInt (k : Int)) * 32 + (Int32.ofInt (j : Int))) 2240 = true) ∧ f_M_in (Int32.ofInt (k : Int)) 0 69 = some 1 ∧ f_M_in (Int32.ofInt (j : Int)) 0 31 = some 1 ∧ am_in (32 * (Int32.ofInt (k : Int)) + (Int32.ofInt (j : Int))) 2240 = true := by decide +kernel
  obtain ⟨⟨z1, z2, z3, z4⟩, z5, z6, z7⟩ := z k hk j hj
  obtain ⟨r, hr⟩ := Option.isSome_iff_exists.mp (by decide +kernel : (f_Ses_leave i0_g.2.1 i0_g.2.2.1 i0_g.2.2.2.1 i0_g.2.2.2.2.1).isSome = true)
  obtain ⟨r', hr'⟩ := Option.isSome_iff_exists.mp (by decide +kernel : (f_M_home i0_w.2.2.2.2.2.1 i0_w.2.2.2.2.2.2.1 i0_w.2.2.2.2.2.2.2.2).isSome = true)
  refine pu_eq (X := f_V_poke i0_g.2.1 i0_g.2.2.1 i0_g.2.2.2.1 i0_g.2.2.2.2.1 i0_su i0_g.2.2.2.2.2.2.2.2.2 (Int32.ofInt (k : Int)) (Int32.ofInt (j : Int)) x3) (Y := f_M_poke i0_w.2.2.2.2.2.1 i0_w.2.2.2.2.2.2.1 i0_w.2.2.2.2.2.2.2.1 i0_w.2.2.2.2.2.2.2.2 i0_th i0_sp (Int32.ofInt (k : Int)) (Int32.ofInt (j : Int)) x3) (ga := fun r => r.1) (gb := fun r => r.1) (v := 1) ?_ ?_
  · simp (decide := true) only [f_V_poke, z1, f_Disk_put, if_neg z2, if_neg z3, if_pos z4, hr, Option.bind_some, if_false, Option.map_some]
  · simp (decide := true) only [f_M_poke, z5, z6, if_pos z7, hr', Option.bind_some, if_false, Option.map_some]
theorem pu_lk {on mw ty mh : Int32} {dk op : Nat → Int32} {th : Int32} {ps : Nat → Int32} {k x1 : Int32} : ∀ (fuel : Nat) (x2 x3 : Int32), f_M_look_L45 fuel on mw ty mh dk op th ps 2 x2 x3 = some (k, th) →
    f_M_look_L45 fuel on mw ty mh dk op th ps x1 x2 x3 = (if 3 ≤ x1 then (if x1 = 3 then some (mh, th) else (if x1 = 4 then some (ty, th) else some ((-1), th))) else (if x1 = 0 then (if on = 0 then some (0, th) else some (1, th)) else (if x1 = 1 then some (mw, th) else (if x1 = 2 then some (k, th) else some ((-1), th))))) := by
  intro fuel
  induction fuel with
  | zero => intro x2 x3 h; cases h
  | succ fuel ih =>
    intro x2 x3 h
    rw [f_M_look_L45] at h ⊢
    by_cases c : 64 ≤ x3
    · rw [if_pos c] at h ⊢
      have h' : some (x2, th) = some (k, th) := h
      cases h'
      rfl
    · rw [if_neg c] at h ⊢
      cases hr : f_M_cell dk x3 with
      | none => rw [hr] at h; cases h
      | some r =>
        rw [hr, Option.bind_some] at h
        rw [Option.bind_some]
        by_cases c2 : r = 0
        · rw [if_pos c2] at h ⊢
          exact ih _ _ h
        · rw [if_neg c2] at h ⊢
          exact ih _ _ h
theorem pu_15 (x1 : Int32) : ∃ a b, f_V_look i0_g.1 i0_g.2.1 i0_g.2.2.2.1 i0_g.2.2.2.2.1 i0_g.2.2.2.2.2.1 i0_g.2.2.2.2.2.2.1 i0_g.2.2.2.2.2.2.2.2.2 x1 = some a ∧ f_M_look i0_w.1 i0_w.2.2.1 i0_w.2.2.2.2.1 i0_w.2.2.2.2.2.1 i0_w.2.2.2.2.2.2.2.1 i0_w.2.2.2.2.2.2.2.2 i0_th i0_ps x1 = some b ∧ a = b.1 := by
  obtain ⟨n, hn, hm⟩ : ∃ n, f_Table_countFree i0_g.2.2.2.2.2.2.2.2.2 = some n ∧ f_M_look_L45 3000 i0_w.1 i0_w.2.2.1 i0_w.2.2.2.2.1 i0_w.2.2.2.2.2.1 i0_w.2.2.2.2.2.2.2.1 i0_w.2.2.2.2.2.2.2.2 0 i0_ps 2 0 2 = some (n, 0) := ⟨61, by decide +kernel, by decide +kernel⟩
  have hl := fun x1 => pu_lk (x1 := x1) 3000 0 2 hm
  have hV : ∀ x, f_Ses_isOpen i0_g.2.2.2.1 x = some 0 := pu_isV
  have hM : ∀ x, f_M_isOpen i0_w.2.2.2.2.2.2.2.2 x = some 0 := pu_isM
  by_cases c0 : x1 = 0
  · subst c0
    exact pu_eq (X := f_V_look i0_g.1 i0_g.2.1 i0_g.2.2.2.1 i0_g.2.2.2.2.1 i0_g.2.2.2.2.2.1 i0_g.2.2.2.2.2.2.1 i0_g.2.2.2.2.2.2.2.2.2 0) (Y := f_M_look i0_w.1 i0_w.2.2.1 i0_w.2.2.2.2.1 i0_w.2.2.2.2.2.1 i0_w.2.2.2.2.2.2.2.1 i0_w.2.2.2.2.2.2.2.2 i0_th i0_ps 0) (ga := fun r => r) (gb := fun r => r.1) (v := 1) (by simp (decide := true) [f_V_look, i0_g, i0_pw]) (by simp (decide := true) [f_M_look, f_M_in, hl, i0_w, i0_on])
  by_cases c1 : x1 = 1
  · subst c1
    exact pu_eq (X := f_V_look i0_g.1 i0_g.2.1 i0_g.2.2.2.1 i0_g.2.2.2.2.1 i0_g.2.2.2.2.2.1 i0_g.2.2.2.2.2.2.1 i0_g.2.2.2.2.2.2.2.2.2 1) (Y := f_M_look i0_w.1 i0_w.2.2.1 i0_w.2.2.2.2.1 i0_w.2.2.2.2.2.1 i0_w.2.2.2.2.2.2.2.1 i0_w.2.2.2.2.2.2.2.2 i0_th i0_ps 1) (ga := fun r => r) (gb := fun r => r.1) (v := 0) (by simp (decide := true) [f_V_look, i0_g, i0_wr]) (by simp (decide := true) [f_M_look, f_M_in, hl, i0_w, i0_mw])
  by_cases c2 : x1 = 2
  · subst c2
    exact pu_eq (X := f_V_look i0_g.1 i0_g.2.1 i0_g.2.2.2.1 i0_g.2.2.2.2.1 i0_g.2.2.2.2.2.1 i0_g.2.2.2.2.2.2.1 i0_g.2.2.2.2.2.2.2.2.2 2) (Y := f_M_look i0_w.1 i0_w.2.2.1 i0_w.2.2.2.2.1 i0_w.2.2.2.2.2.1 i0_w.2.2.2.2.2.2.2.1 i0_w.2.2.2.2.2.2.2.2 i0_th i0_ps 2) (ga := fun r => r) (gb := fun r => r.1) (v := n) (by simp (decide := true) [f_V_look, hn]) (by simp (decide := true) [f_M_look, f_M_in, hl])
  by_cases c3 : x1 = 3
  · subst c3
    exact pu_eq (X := f_V_look i0_g.1 i0_g.2.1 i0_g.2.2.2.1 i0_g.2.2.2.2.1 i0_g.2.2.2.2.2.1 i0_g.2.2.2.2.2.2.1 i0_g.2.2.2.2.2.2.2.2.2 3) (Y := f_M_look i0_w.1 i0_w.2.2.1 i0_w.2.2.2.2.1 i0_w.2.2.2.2.2.1 i0_w.2.2.2.2.2.2.2.1 i0_w.2.2.2.2.2.2.2.2 i0_th i0_ps 3) (ga := fun r => r) (gb := fun r => r.1) (v := 2) (by simp (decide := true) [f_V_look, i0_g, i0_he]) (by simp (decide := true) [f_M_look, f_M_in, hl, i0_w, i0_mh])
  by_cases c4 : x1 = 4
  · subst c4
    exact pu_eq (X := f_V_look i0_g.1 i0_g.2.1 i0_g.2.2.2.1 i0_g.2.2.2.2.1 i0_g.2.2.2.2.2.1 i0_g.2.2.2.2.2.2.1 i0_g.2.2.2.2.2.2.2.2.2 4) (Y := f_M_look i0_w.1 i0_w.2.2.1 i0_w.2.2.2.2.1 i0_w.2.2.2.2.2.1 i0_w.2.2.2.2.2.2.2.1 i0_w.2.2.2.2.2.2.2.2 i0_th i0_ps 4) (ga := fun r => r) (gb := fun r => r.1) (v := 0) (by simp (decide := true) [f_V_look, i0_g, i0_ll]) (by simp (decide := true) [f_M_look, f_M_in, hl, i0_w, i0_ty])
  refine pu_eq (X := f_V_look i0_g.1 i0_g.2.1 i0_g.2.2.2.1 i0_g.2.2.2.2.1 i0_g.2.2.2.2.2.1 i0_g.2.2.2.2.2.2.1 i0_g.2.2.2.2.2.2.2.2.2 x1) (Y := f_M_look i0_w.1 i0_w.2.2.1 i0_w.2.2.2.2.1 i0_w.2.2.2.2.2.1 i0_w.2.2.2.2.2.2.2.1 i0_w.2.2.2.2.2.2.2.2 i0_th i0_ps x1) (ga := fun r => r) (gb := fun r => r.1) (v := (-1)) ?_ ?_
  · simp only [f_V_look, if_neg c0, if_neg c1, if_neg c2, if_neg c3, if_neg c4, hV, Option.bind_some, if_true]
    split <;> rfl
  · simp only [f_M_look, f_M_in, hl, hM, if_neg c0, if_neg c1, if_neg c2, if_neg c3, if_neg c4]
    repeat' split
    all_goals first | rfl | simp_all
set_option maxRecDepth 100000 in
theorem pu_law {L : Nat} {xs : Nat → Int32} (hL : L ≤ 5) : ∃ r, f_L_law_L23 L xs 600 i0_g i0_li i0_su i0_ct i0_lc i0_ad i0_ctb i0_lcb i0_adb i0_fx i0_us i0_ln i0_pt i0_tx i0_br i0_rw i0_w i0_th i0_sp i0_mp i0_mf i0_ml i0_ps i0_nm i0_mu i0_ch i0_wy i0_nx i0_ou 0 = some r ∧ r.1 = 1 := by
  rcases L with _ | _ | _ | _ | _ | _ | L
  · rw [f_L_law_L23, if_pos (by decide)]
    exact ⟨_, rfl, rfl⟩
  · rw [f_L_law_L23, if_pos (by decide)]
    exact ⟨_, rfl, rfl⟩
  · rw [f_L_law_L23, if_pos (by decide)]
    exact ⟨_, rfl, rfl⟩
  · rw [f_L_law_L23, if_pos (by decide)]
    exact ⟨_, rfl, rfl⟩
  · rw [f_L_law_L23, if_pos (by decide)]
    exact ⟨_, rfl, rfl⟩
  · rw [f_L_law_L23]
    refine pu_neg (by decide) (pu_pos (by decide) ?_)
    by_cases q0 : (xs (0 : Int32).toNatClampNeg &&& 15) = 0
    · obtain ⟨a, b, h1, h2, h3⟩ := pu_0 _
      refine pu_pos q0 <| pu_pos (by decide) <| pu_bind h1 <| pu_pos (by decide) <| pu_bind h2 <| pu_pos h3 ?_
      exact pu_stop
    · refine pu_neg q0 ?_
      by_cases q1 : (xs (0 : Int32).toNatClampNeg &&& 15) = 1
      · obtain ⟨a, b, h1, h2, h3⟩ := pu_1 (xs (0 + 1 : Int32).toNatClampNeg)
        refine pu_pos q1 <| pu_pos (by decide) <| pu_bind h1 <| pu_pos (by decide) <| pu_bind h2 <| pu_bind rfl <| pu_pos h3 ?_
        exact pu_stop
      · refine pu_neg q1 ?_
        by_cases q2 : (xs (0 : Int32).toNatClampNeg &&& 15) = 2
        · obtain ⟨a, b, h1, h2, h3⟩ := pu_2
          refine pu_pos q2 <| pu_bind h1 <| pu_bind h2 <| pu_bind rfl <| pu_pos h3 ?_
          exact pu_stop
        · refine pu_neg q2 ?_
          by_cases q3 : (xs (0 : Int32).toNatClampNeg &&& 15) = 3
          · obtain ⟨a, b, h1, h2, h3⟩ := pu_3
            refine pu_pos q3 <| pu_bind h1 <| pu_bind h2 <| pu_bind rfl <| pu_pos h3 ?_
            exact pu_stop
          · refine pu_neg q3 ?_
            by_cases q4 : (xs (0 : Int32).toNatClampNeg &&& 15) = 4
            · obtain ⟨a, b, h1, h2, h3, h4⟩ := pu_4
              refine pu_pos q4 <| pu_bind h1 <| pu_bind h2 <| pu_bind rfl <| pu_pos h3 <| pu_neg h4 ?_
              exact pu_stop
            · refine pu_neg q4 ?_
              by_cases q5 : (xs (0 : Int32).toNatClampNeg &&& 15) = 5
              · obtain ⟨a, b, h1, h2, h3⟩ := pu_5 (xs (0 + 1 : Int32).toNatClampNeg)
                refine pu_pos q5 <| pu_pos (by decide) <| pu_bind h1 <| pu_pos (by decide) <| pu_bind h2 <| pu_pos h3 ?_
                exact pu_stop
              · refine pu_neg q5 ?_
                by_cases q6 : (xs (0 : Int32).toNatClampNeg &&& 15) = 6
                · obtain ⟨a, b, h1, h2, h3⟩ := pu_6 (xs (0 + 1 : Int32).toNatClampNeg) (xs (0 + 2 : Int32).toNatClampNeg)
                  refine pu_pos q6 <| pu_pos (by decide) <| pu_pos (by decide) <| pu_bind h1 <| pu_pos (by decide) <| pu_pos (by decide) <| pu_bind h2 <| pu_pos h3 ?_
                  exact pu_stop
                · refine pu_neg q6 ?_
                  by_cases q7 : (xs (0 : Int32).toNatClampNeg &&& 15) = 7
                  · obtain ⟨a, b, h1, h2, h3, h4⟩ := pu_7 (xs (0 + 1 : Int32).toNatClampNeg) (xs (0 + 2 : Int32).toNatClampNeg)
                    refine pu_pos q7 <| pu_pos (by decide) <| pu_pos (by decide) <| pu_bind h1 <| pu_pos (by decide) <| pu_pos (by decide) <| pu_bind h2 <| pu_bind rfl <| pu_pos h3 <| pu_neg h4 ?_
                    exact pu_stop
                  · refine pu_neg q7 ?_
                    by_cases q8 : (xs (0 : Int32).toNatClampNeg &&& 15) = 8
                    · obtain ⟨a, b, h1, h2, h3, h4⟩ := pu_8 (xs (0 + 1 : Int32).toNatClampNeg) _ (xs (0 + 4 : Int32).toNatClampNeg)
                      refine pu_pos q8 <| pu_pos (by decide) <| pu_pos (by decide) <| pu_pos (by decide) <| pu_pos (by decide) <| pu_bind h1 <| pu_pos (by decide) <| pu_pos (by decide) <| pu_pos (by decide) <| pu_pos (by decide) <| pu_bind h2 <| pu_bind rfl <| pu_pos h3 <| pu_neg h4 ?_
                      exact pu_stop
                    · refine pu_neg q8 ?_
                      by_cases q9 : (xs (0 : Int32).toNatClampNeg &&& 15) = 9
                      · obtain ⟨a, b, h1, h2, h3, h4⟩ := pu_9 (xs (0 + 1 : Int32).toNatClampNeg) (xs (0 + 2 : Int32).toNatClampNeg)
                        refine pu_pos q9 <| pu_pos (by decide) <| pu_pos (by decide) <| pu_bind h1 <| pu_pos (by decide) <| pu_pos (by decide) <| pu_bind h2 <| pu_bind rfl <| pu_pos h3 <| pu_neg h4 ?_
                        exact pu_stop
                      · refine pu_neg q9 ?_
                        by_cases q10 : (xs (0 : Int32).toNatClampNeg &&& 15) = 10
                        · obtain ⟨a, b, h1, h2, h3⟩ := pu_10 (xs (0 + 1 : Int32).toNatClampNeg)
                          refine pu_pos q10 <| pu_pos (by decide) <| pu_bind h1 <| pu_pos (by decide) <| pu_bind h2 <| pu_pos h3 ?_
                          exact pu_stop
                        · refine pu_neg q10 ?_
                          by_cases q11 : (xs (0 : Int32).toNatClampNeg &&& 15) = 11
                          · obtain ⟨a, b, h1, h2, h3⟩ := pu_11
                            refine pu_pos q11 <| pu_bind h1 <| pu_bind h2 <| pu_pos h3 ?_
                            exact pu_stop
                          · refine pu_neg q11 ?_
                            by_cases q12 : (xs (0 : Int32).toNatClampNeg &&& 15) = 12
                            · obtain ⟨a, b, h1, h2, h3, h4, h5⟩ := pu_12
                              refine pu_pos q12 <| pu_bind h1 <| pu_bind h2 <| pu_bind rfl <| pu_pos h3 <| pu_pos h4 <| pu_pos h5 ?_
                              exact pu_stop
                            · refine pu_neg q12 ?_
                              by_cases q13 : (xs (0 : Int32).toNatClampNeg &&& 15) = 13
                              · obtain ⟨a, b, h1, h2, h3⟩ := pu_13 (xs (0 + 1 : Int32).toNatClampNeg) (xs (0 + 2 : Int32).toNatClampNeg)
                                refine pu_pos q13 <| pu_pos (by decide) <| pu_pos (by decide) <| pu_bind h1 <| pu_pos (by decide) <| pu_pos (by decide) <| pu_bind h2 <| pu_pos h3 ?_
                                exact pu_stop
                              · refine pu_neg q13 ?_
                                by_cases q14 : (xs (0 : Int32).toNatClampNeg &&& 15) = 14
                                · obtain ⟨a, b, h1, h2, h3⟩ := pu_14 (xs (0 + 1 : Int32).toNatClampNeg) (xs (0 + 2 : Int32).toNatClampNeg) (xs (0 + 3 : Int32).toNatClampNeg)
                                  refine pu_pos q14 <| pu_pos (by decide) <| pu_pos (by decide) <| pu_pos (by decide) <| pu_bind h1 <| pu_pos (by decide) <| pu_pos (by decide) <| pu_pos (by decide) <| pu_bind h2 <| pu_pos h3 ?_
                                  exact pu_stop
                                · refine pu_neg q14 ?_
                                  by_cases q15 : (xs (0 : Int32).toNatClampNeg &&& 15) = 15
                                  · obtain ⟨a, b, h1, h2, h3⟩ := pu_15 (xs (0 + 1 : Int32).toNatClampNeg)
                                    refine pu_pos q15 <| pu_pos (by decide) <| pu_bind h1 <| pu_pos (by decide) <| pu_bind h2 <| pu_pos h3 ?_
                                    exact pu_stop
                                  · refine pu_neg q15 ?_
                                    exact pu_stop
  · omega
