/-! rows of the law: its script, its calls -/
theorem am_vfar {sb : Nat} {ad : List Nat} {k : Nat} (h : ad.length ≤ k) : am_v sb ad (.ref k) = .ref sb := by
  simp only [am_v]
  rw [List.getD_eq_getElem?_getD, List.getElem?_eq_none h]
  rfl
theorem g_sld {κ : am_K} {μ : am_N} {o1 : am_O} {h1 : List am_E} {nc ns pc n : Nat} {ls : List (Nat × Value)} {st : List Value} {h : List am_E} {q0 L9 : Nat} {xs9 : Nat → Int32} {i : Int32} (d : decode (am_cc μ) pc = .ok (.iaload, 1)) (en : pc + 1 = n) (hX : am_X μ = some (L9, xs9)) (hin : vp_in i L9) (hq : h.length ≤ q0)
    (kk : am_G κ μ o1 h1 nc ns n ls (.int (xs9 i.toNatClampNeg) :: st) h) : am_G κ μ o1 h1 nc ns pc ls (.int i :: .ref q0 :: st) h := by
  subst en
  intro p e s m args below meth c H locs A sb ad0 ad lv I hlv
  have I0 := I
  obtain ⟨S, -, hT, -, -, hX0, -, hlen, hP, hD, hS⟩ := I
  rw [hX] at hX0
  have e1 : am_v sb ad (.ref q0) = .ref sb := am_vfar (by rw [hlen]; exact hq)
  rw [List.map_cons, List.map_cons, e1]
  exact va_sld S.1 S.2.1 hX0.1 hX0.2.1 hX0.2.2 hS hin d (kk p e s m args below meth c H locs A sb ad0 ad lv I0 hlv)
theorem g_slen {κ : am_K} {μ : am_N} {o1 : am_O} {h1 : List am_E} {nc ns pc n : Nat} {ls : List (Nat × Value)} {st : List Value} {h : List am_E} {q0 L9 : Nat} {xs9 : Nat → Int32} (d : decode (am_cc μ) pc = .ok (.arraylength, 1)) (en : pc + 1 = n) (hX : am_X μ = some (L9, xs9)) (hq : h.length ≤ q0)
    (kk : am_G κ μ o1 h1 nc ns n ls (.int (Int32.ofNat L9) :: st) h) : am_G κ μ o1 h1 nc ns pc ls (.ref q0 :: st) h := by
  subst en
  intro p e s m args below meth c H locs A sb ad0 ad lv I hlv
  have I0 := I
  obtain ⟨S, -, hT, -, -, hX0, -, hlen, hP, hD, hS⟩ := I
  rw [hX] at hX0
  have e1 : am_v sb ad (.ref q0) = .ref sb := am_vfar (by rw [hlen]; exact hq)
  rw [List.map_cons, e1]
  exact va_slen S.1 S.2.1 hX0.1 hX0.2.1 hX0.2.2 hS d (kk p e s m args below meth c H locs A sb ad0 ad lv I0 hlv)
/-- the room of a method of the law's that takes what a call throws -/
def am_hr (d : Nat) : Room := { frames := 8 + d, cells := 1, slots := 6, locals := 256 + 64 * d }
/-- a call of a virtual method, in whatever room -/
theorem c_Vg {κ : am_K} {c0 : Cond} {own : String} {cc : ByteArray} {nL : Nat} {rt : Option FieldType} {nm : String} {tb : List ExceptionTableEntry} {X : Option (Nat × (Nat → Int32))} {R rm : Room} {o1 : am_O} {nc ns pc n idx ci q0 N maxL : Nat} {h1 h h2 : List am_E} {ls : List (Nat × Value)} {stk st' : List Value} {v : Option Value} {y : MethodName} {bytes : ByteArray} {ret : Option FieldType} {T : u_T} {fs : List Value}
    (as st : List Value) (d : decode cc pc = .ok (.invokevirtual idx, 3)) (en : pc + 3 = n) (hM : am_M κ y (.code y bytes maxL ret :: am_tw) rm (.ref q0 :: as) h (.inl v) h2)
    (w1 : Cond.methodLink own idx y ∈ am_tw) (w2 : Cond.instanceMethod y ∈ am_tw) (w3 : Cond.selects y.cls y y ∈ am_tw) (w4 : Cond.initialized y.cls ∈ am_tw) (w5 : Cond.code y bytes maxL ret ∈ am_tw)
    (hd : y.cls ≠ "java/lang/invoke/MethodHandle" ∧ y.cls ≠ "java/lang/invoke/VarHandle" ∧ (parseMethodDescriptor y.desc).map (fun d => d.parameters.length) = some as.length) (hR : rm.frames + 1 ≤ R.frames ∧ 8 + (maxL + 11) + rm.locals ≤ R.locals) (hf : nc + rm.cells ≤ R.cells ∧ ns + rm.slots ≤ R.slots)
    (hcl : (am_cl κ)[ci]? = some (y.cls, T, N)) (he : h[q0]? = some (.inr (ci, fs))) (hst : stk = as.reverse ++ .ref q0 :: st) (hcat : (st.map fun v => v.category).sum ≤ 8) (hl : h2.length = h.length) (hv : v.toList ++ st = st')
    (kr : am_G κ (c0 :: am_tw, own, cc, nL, rt, nm, tb, R, X) o1 h1 (nc + rm.cells) (ns + rm.slots) n ls st' h2) : am_G κ (c0 :: am_tw, own, cc, nL, rt, nm, tb, R, X) o1 h1 nc ns pc ls stk h := by
  subst hv
  refine g_callV as st d en hM (am_gd (fun w hw => ?_)) rfl ⟨rfl, hd⟩ hR hf hcl he hst hcat hl kr
  rcases List.mem_append.mp hw with z | z
  · simp only [List.mem_cons, List.not_mem_nil, or_false] at z
    rcases z with rfl | rfl | rfl | rfl <;> assumption
  · exact (List.mem_cons.mp z).elim (fun e => e ▸ w5) (fun z => z)
/-- a call of a method that makes nothing -/
theorem c_Vl {κ : am_K} {c0 : Cond} {own : String} {cc : ByteArray} {nL : Nat} {rt : Option FieldType} {nm : String} {tb : List ExceptionTableEntry} {X : Option (Nat × (Nat → Int32))} {R : Room} {o1 : am_O} {a nc ns pc n idx ci q0 N maxL : Nat} {h1 h h2 : List am_E} {ls : List (Nat × Value)} {stk st' : List Value} {v : Option Value} {y : MethodName} {bytes : ByteArray} {ret : Option FieldType} {T : u_T} {fs : List Value}
    (as st : List Value) (d : decode cc pc = .ok (.invokevirtual idx, 3)) (en : pc + 3 = n) (hM : am_M κ y (.code y bytes maxL ret :: am_tw) (am_rm a (.inl v)) (.ref q0 :: as) h (.inl v) h2)
    (w1 : Cond.methodLink own idx y ∈ am_tw) (w2 : Cond.instanceMethod y ∈ am_tw) (w3 : Cond.selects y.cls y y ∈ am_tw) (w4 : Cond.initialized y.cls ∈ am_tw) (w5 : Cond.code y bytes maxL ret ∈ am_tw)
    (hd : y.cls ≠ "java/lang/invoke/MethodHandle" ∧ y.cls ≠ "java/lang/invoke/VarHandle" ∧ (parseMethodDescriptor y.desc).map (fun d => d.parameters.length) = some as.length) (hR : 8 + a + 1 ≤ R.frames ∧ 8 + (maxL + 11) + (256 + 64 * a) ≤ R.locals) (hc : nc ≤ R.cells) (hs : ns ≤ R.slots)
    (hcl : (am_cl κ)[ci]? = some (y.cls, T, N)) (he : h[q0]? = some (.inr (ci, fs))) (hst : stk = as.reverse ++ .ref q0 :: st) (hcat : (st.map fun v => v.category).sum ≤ 8) (hl : h2.length = h.length) (hv : v.toList ++ st = st')
    (kr : am_G κ (c0 :: am_tw, own, cc, nL, rt, nm, tb, R, X) o1 h1 nc ns n ls st' h2) : am_G κ (c0 :: am_tw, own, cc, nL, rt, nm, tb, R, X) o1 h1 nc ns pc ls stk h :=
  c_Vg as st d en hM w1 w2 w3 w4 w5 hd hR ⟨hc, hs⟩ hcl he hst hcat hl hv kr
/-- a call of a method that throws, in a method that may take it -/
theorem c_Vh {κ : am_K} {c0 : Cond} {own : String} {cc : ByteArray} {nL : Nat} {rt : Option FieldType} {nm : String} {tb : List ExceptionTableEntry} {X : Option (Nat × (Nat → Int32))} {o1 : am_O} {b a pc idx ci q0 N maxL : Nat} {h1 h h2 : List am_E} {ls : List (Nat × Value)} {stk : List Value} {E : String} {y : MethodName} {bytes : ByteArray} {ret : Option FieldType} {T : u_T} {fs : List Value}
    (as st : List Value) (d : decode cc pc = .ok (.invokevirtual idx, 3)) (hM : am_M κ y (.code y bytes maxL ret :: am_tw) (am_rm a (.inr E)) (.ref q0 :: as) h (.inr E) h2)
    (w1 : Cond.methodLink own idx y ∈ am_tw) (w2 : Cond.instanceMethod y ∈ am_tw) (w3 : Cond.selects y.cls y y ∈ am_tw) (w4 : Cond.initialized y.cls ∈ am_tw) (w5 : Cond.code y bytes maxL ret ∈ am_tw)
    (hd : y.cls ≠ "java/lang/invoke/MethodHandle" ∧ y.cls ≠ "java/lang/invoke/VarHandle" ∧ (parseMethodDescriptor y.desc).map (fun d => d.parameters.length) = some as.length) (hR : 8 + a + 1 ≤ 8 + b ∧ 8 + (maxL + 11) + (256 + 64 * a) ≤ 256 + 64 * b)
    (hcl : (am_cl κ)[ci]? = some (y.cls, T, N)) (he : h[q0]? = some (.inr (ci, fs))) (hst : stk = as.reverse ++ .ref q0 :: st) (hcat : (st.map fun v => v.category).sum ≤ 8) (hl : h2.length = h.length)
    (kx : am_GX κ (c0 :: am_tw, own, cc, nL, rt, nm, tb, am_hr b, X) o1 h1 1 6 pc ls st h2 E) : am_G κ (c0 :: am_tw, own, cc, nL, rt, nm, tb, am_hr b, X) o1 h1 0 0 pc ls stk h :=
  g_callVx as st d hM (am_gdC w5) List.mem_cons_self (Or.inl (List.mem_cons_of_mem _ w1)) (List.mem_cons_of_mem _ w2) (List.mem_cons_of_mem _ w3) (List.mem_cons_of_mem _ w4) hd hR ⟨Nat.le_refl _, Nat.le_refl _⟩ hcl he hst hcat hl kx
/-- the law's call of such a method -/
theorem c_SWl {κ : am_K} {c0 : Cond} {own : String} {cc : ByteArray} {nL : Nat} {rt : Option FieldType} {nm : String} {tb : List ExceptionTableEntry} {X : Option (Nat × (Nat → Int32))} {R : Room} {o1 : am_O} {a nc ns pc n idx maxL : Nat} {h1 h h2 : List am_E} {ls : List (Nat × Value)} {stk st' : List Value} {v : Option Value} {y : MethodName} {bytes : ByteArray} {ret : Option FieldType} {hh : List (Nat × Nat × Nat × Nat)}
    (as st : List Value) (d : decode cc pc = .ok (.invokestatic idx, 3)) (en : pc + 3 = n) (hM : am_M κ y (.codeWith y bytes maxL ret hh :: am_tw) (am_hr a) as h (.inl v) h2)
    (w1 : Cond.methodLink own idx y ∈ am_tw) (w2 : Cond.static y ∈ am_tw) (w4 : Cond.initialized y.cls ∈ am_tw) (w5 : Cond.codeWith y bytes maxL ret hh ∈ am_tw)
    (hd : y.cls ≠ "java/lang/invoke/MethodHandle" ∧ y.cls ≠ "java/lang/invoke/VarHandle" ∧ (parseMethodDescriptor y.desc).map (fun d => d.parameters.length) = some as.length) (hR : 8 + a + 1 ≤ R.frames ∧ 8 + (maxL + 11) + (256 + 64 * a) ≤ R.locals) (hc : nc + 1 ≤ R.cells) (hs : ns + 6 ≤ R.slots)
    (hst : stk = as.reverse ++ st) (hcat : (st.map fun v => v.category).sum ≤ 8) (hl : h2.length = h.length) (hv : v.toList ++ st = st')
    (kr : am_G κ (c0 :: am_tw, own, cc, nL, rt, nm, tb, R, X) o1 h1 (nc + 1) (ns + 6) n ls st' h2) : am_G κ (c0 :: am_tw, own, cc, nL, rt, nm, tb, R, X) o1 h1 nc ns pc ls stk h := by
  subst hv
  exact g_callSW as st d en hM (am_gdC w5) List.mem_cons_self (List.mem_cons_of_mem _ w1) (List.mem_cons_of_mem _ w2) (List.mem_cons_of_mem _ w4) hd hR ⟨hc, hs⟩ hst hcat hl kr
/-- a row of a table that this exception passes -/
theorem am_prow {ws : List Cond} {own E nm : String} {pc : Nat} {y : ExceptionTableEntry} (h1 : covers y pc = true) (h2 : y.catchType ≠ 0) (h3 : Cond.classLink own y.catchType nm ∈ ws) (h4 : Cond.not (.castable E nm) ∈ am_hw) :
    covers y pc = true ∧ y.catchType ≠ 0 ∧ ∃ nm, Cond.classLink own y.catchType nm ∈ ws ∧ Cond.not (.castable E nm) ∈ am_hw := ⟨h1, h2, nm, h3, h4⟩
theorem am_pre0 {P : ExceptionTableEntry → Prop} : ∀ y ∈ ([] : List ExceptionTableEntry), P y := fun _ h => by cases h
theorem am_preC {P : ExceptionTableEntry → Prop} {x : ExceptionTableEntry} {t : List ExceptionTableEntry} (h : P x) (ht : ∀ y ∈ t, P y) : ∀ y ∈ x :: t, P y := fun y hy => (List.mem_cons.mp hy).elim (fun e => e ▸ h) (ht y)
