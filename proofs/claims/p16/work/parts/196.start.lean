/-! what the Statement's words give at the law's entry -/
theorem st_D {s : State} (hk : ∀ (c : Nat) (q : vw_C), am_cls[c]? = some q → ∃ (a : ClassId) (b : Nat → Nat), u_Kn s q.1 q.2.1 q.2.2 a b) : ∃ D : va_G, ∀ (c : Nat) (q : vw_C), am_cls[c]? = some q → u_Kn s q.1 q.2.1 q.2.2 (D.1 c) (D.2 c) := by
  have h : ∀ c : Nat, ∃ x : ClassId × (Nat → Nat), ∀ q, am_cls[c]? = some q → u_Kn s q.1 q.2.1 q.2.2 x.1 x.2 := by
    intro c
    cases hc : am_cls[c]? with
    | none => exact ⟨((0 : Nat), fun _ => 0), fun q hq => by cases hq⟩
    | some q =>
      obtain ⟨a, b, hab⟩ := hk c q hc
      exact ⟨(a, b), fun q' hq => by cases hq; exact hab⟩
  exact ⟨(fun c => (Classical.choose (h c)).1, fun c => (Classical.choose (h c)).2), fun c q hq => Classical.choose_spec (h c) q hq⟩
theorem st_A {s : State} {args : Array Value} {ty : FieldType} (h : (Cond.arrayClass ty).before args s = true) : ∃ cA : ClassId, ArrOfT s cA ty ∧ s.vm.findClass ("[" ++ ty.toString) = some cA := by
  obtain ⟨cA, kA, comp, h1, h2, h3⟩ := Cond.arrayClass_spec h
  exact ⟨cA, fun n z => ⟨fun k h => (by cases h), kA, h2, comp, h3⟩, h1⟩
def st_dA (s : State) : FieldType → ClassId := fun ty => (s.vm.findClass ("[" ++ ty.toString)).getD (0 : Nat)
theorem st_A2 {s : State} {args : Array Value} {ty : FieldType} (h : (Cond.arrayClass ty).before args s = true) : ArrOfT s (st_dA s ty) ty ∧ s.vm.findClass ("[" ++ ty.toString) = some (st_dA s ty) := by
  obtain ⟨cA, h1, h2⟩ := st_A h
  have e : st_dA s ty = cA := by
    unfold st_dA
    rw [h2]
    rfl
  rw [e]
  exact ⟨h1, h2⟩
theorem st_nw {w : Cond} (h : am_nest w = true) : w.onTables = true := by
  cases w <;> first | rfl | (simp only [am_nest, Bool.and_eq_true] at h; exact h.1)
theorem st_str {s : State} {args : Array Value} {own tx : String} {k : Nat} (h : (Cond.stringRef own k tx).before args s = true) : ∃ a, vk_R own k tx a s := by
  have hcur : ∃ cur, s.vm.findClass own = some cur := by
    have h1 := h
    simp only [Cond.before, Cond.holds, Cond.value] at h1
    cases hc : s.vm.findClass own with
    | none => simp [hc] at h1
    | some cur => exact ⟨cur, rfl⟩
  obtain ⟨cur, hcur⟩ := hcur
  obtain ⟨-, -, -, a, -, -, -, -, -, h6⟩ := Cond.stringRef_spec hcur h
  refine ⟨a, ?_, ?_⟩
  · have h1 := h
    simp only [Cond.before, Cond.holds, Cond.value] at h1 ⊢
    exact h1
  · exact (Term.string_eval_of_vm rfl).trans h6
theorem st_T {s : State} {args : Array Value} (hts : ∀ w ∈ lw_tbl, w.before args s = true) : ∃ D : va_G, am_T D (st_dA s) am_cls am_nws am_sls s := by
  have htw : ∀ w ∈ am_tw, w.before args s = true := fun w hw => hts w (List.mem_filter.mp hw).1
  have htb : ∀ w ∈ tables_1, w.before args s = true := fun w hw => hts w (List.mem_append_right _ hw)
  obtain ⟨D, hD⟩ := st_D (s := s) (fun c q hq => by
    rcases c with _ | _ | _ | _ | _ | _ | _ | _ | c
    · cases hq; exact u_known htw in_Disk (htb (.instantiable "FileVolume$Disk" 7) (by decide +kernel))
    · cases hq; exact u_known htw in_Folder (htb (.instantiable "FileVolume$Folder" 5) (by decide +kernel))
    · cases hq; exact u_known htw in_Name (htb (.instantiable "FileVolume$Name" 4) (by decide +kernel))
    · cases hq; exact u_known htw in_Rep (htb (.instantiable "FileVolume$Repairer" 5) (by decide +kernel))
    · cases hq; exact u_known htw in_Ses (htb (.instantiable "FileVolume$Session" 6) (by decide +kernel))
    · cases hq; exact u_known htw in_Table (htb (.instantiable "FileVolume$Table" 1) (by decide +kernel))
    · cases hq; exact u_known htw in_V (htb (.instantiable "FileVolume" 8) (by decide +kernel))
    · cases hq; exact u_known htw in_M (htb (.instantiable "FileVolumeModel" 20) (by decide +kernel))
    · simp at hq)
  refine ⟨D, ⟨hD, fun k q hk => ?_⟩, fun w hw => ?_, fun q hq => ?_⟩
  · rcases k with _ | _ | _ | _ | k
    · cases hk; exact st_A2 (htb (.arrayClass .int) (by decide +kernel))
    · cases hk; exact st_A2 (htb (.arrayClass .boolean) (by decide +kernel))
    · cases hk; exact st_A2 (htb (.arrayClass .char) (by decide +kernel))
    · cases hk; exact st_A2 (htb (.arrayClass .long) (by decide +kernel))
    · simp [am_ty] at hk
  · have h1 := List.mem_filter.mp hw
    have h2 := h1.2
    simp only [Bool.and_eq_true] at h2
    exact ⟨h2.2, va_tabs (st_nw h2.2) rfl (htb w h1.1)⟩
  · have hin : am_sls.all (fun q => decide (Cond.stringRef q.1 q.2.1 q.2.2 ∈ tables_1)) = true := by decide +kernel
    have h1 := List.all_eq_true.mp hin q hq
    exact st_str (htb _ (of_decide_eq_true h1))
theorem st_lays {args a : Array Value} {s U : State} {C n d : String} (h : (Cond.laysStatic C n d).before args s = true) (hW : s.WarmedH U.vm) (hk : ∀ q : Nat, q < s.heap.size → U.heap[q]? = s.heap[q]?) : (Cond.laysStatic C n d).before a U = true := by
  obtain ⟨c, k, i, f, x, cell, hc, hi, hst, ha, hcell, hs, hcls, hlt, hty⟩ := Cond.laysStatic_spec h
  obtain ⟨k', hi', hek⟩ := State.fieldFound?_setVm hW.alike hi
  exact Cond.laysStatic_of (s := U) (by rw [hW.alike.findClass]; exact hc) hi' hst (by rw [hek]; exact ha) (by rw [hk x (Array.getElem?_eq_some_iff.mp hcell).1]; exact hcell) hs hcls hlt (by rw [hek]; exact hty)
theorem st_isr {args a : Array Value} {s U : State} {C n d : String} (h : (Cond.isRef (.static C n d)).before args s = true) (hl : (Cond.laysStatic C n d).before args s = true) (hW : s.WarmedH U.vm) (hk : ∀ q : Nat, q < s.heap.size → U.heap[q]? = s.heap[q]?) : (Cond.isRef (.static C n d)).before a U = true := by
  obtain ⟨c, k, i, f, x, cell, hc, hi, hst, ha, hcell, hs, hcls, hlt, hty⟩ := Cond.laysStatic_spec hl
  obtain ⟨v, hv, hr⟩ := Cond.isRef_spec h
  obtain ⟨-, x', cell', ha', hcell', -, hslot⟩ := Term.static_spec hi hv
  cases ha.symm.trans ha'
  cases hcell.symm.trans hcell'
  obtain ⟨k', hi', hek⟩ := State.fieldFound?_setVm hW.alike hi
  have e1 : (Term.static C n d).eval a U none [] U = some v := Term.static_eval (s := U) hi' hst (by rw [hek]; exact ha) (by rw [hk x (Array.getElem?_eq_some_iff.mp hcell).1]; exact hcell) hs hslot
  simp only [Cond.before, Cond.holds, Cond.value, e1, Option.map_some]
  cases v <;> first | rfl | exact absurd hr Bool.false_ne_true
theorem st_nc {args a : Array Value} {s U : State} {C T : String} (h : (Cond.not (.castable C T)).before args s = true) (hW : s.WarmedH U.vm) : (Cond.not (.castable C T)).before a U = true := by
  obtain ⟨c, t, h1, h2, h3⟩ := va_Nc.moved hW.alike (va_Nc.of h)
  simp [Cond.before, Cond.holds, Cond.value, h1, h2, h3]
theorem st_Z {args : Array Value} {s : State} (hts : ∀ w ∈ lw_tbl, w.before args s = true) (hgv : (Jvm.Cond.and given_1 narrow_1).before args s = true) : am_Z (fun q => s.heap.size ≤ q) s := by
  intro U hU w hw a
  obtain ⟨hW, -, hk0⟩ := hU
  have hk : ∀ q : Nat, q < s.heap.size → U.heap[q]? = s.heap[q]? := fun q hq => hk0 q hq (Nat.not_le.mpr hq)
  have hfl := flat_of_before _ hgv
  have hl1 : (Cond.laysStatic Bundle.tN "UNASSIGNED_STACK" Bundle.steD).before args s = true := hts _ (List.mem_append_right _ (by decide +kernel))
  have hl2 : (Cond.laysStatic Bundle.tN "SUPPRESSED_SENTINEL" Bundle.listD).before args s = true := hts _ (List.mem_append_right _ (by decide +kernel))
  have hr1 : (Cond.isRef (.static Bundle.tN "UNASSIGNED_STACK" Bundle.steD)).before args s = true := hfl _ (by decide +kernel)
  have hr2 : (Cond.isRef (.static Bundle.tN "SUPPRESSED_SENTINEL" Bundle.listD)).before args s = true := hfl _ (by decide +kernel)
  have hnc : ∀ C T : String, Cond.not (.castable C T) ∈ am_hw → (Cond.not (.castable C T)).before args s = true := by
    intro C T hm
    have hin : (am_hw.drop 4).all (fun w => decide (w ∈ flatC (Jvm.Cond.and given_1 narrow_1))) = true := by decide +kernel
    have h4 : Cond.not (.castable C T) ∈ am_hw.drop 4 := by
      simp only [am_hw, List.mem_cons, reduceCtorEq, false_or] at hm
      simp only [am_hw, List.drop_succ_cons, List.drop_zero, List.mem_cons]
      exact hm
    exact hfl _ (of_decide_eq_true (List.all_eq_true.mp hin _ h4))
  have hw0 := hw
  simp only [am_hw, List.mem_cons, List.not_mem_nil, or_false] at hw
  rcases hw with rfl | rfl | rfl | rfl | hw
  · exact st_isr hr1 hl1 hW hk
  · exact st_isr hr2 hl2 hW hk
  · exact st_lays hl1 hW hk
  · exact st_lays hl2 hW hk
  · have hnot : ∃ C T, w = Cond.not (.castable C T) := by
      rcases hw with rfl | rfl | rfl | rfl | rfl | rfl | rfl | rfl | rfl | rfl | rfl | rfl | rfl | rfl | rfl | rfl | rfl | rfl | rfl | rfl <;> exact ⟨_, _, rfl⟩
    obtain ⟨C, T, rfl⟩ := hnot
    exact st_nc (hnc C T hw0) hW
