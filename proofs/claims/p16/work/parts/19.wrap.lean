/-! the rows of calls, for this claim's lists of words and rooms -/
theorem am_fl {κ : am_K} {c0 : Cond} {tw : List Cond} {r : String × ByteArray × Nat × Option FieldType × String × List ExceptionTableEntry × Room × Option (Nat × (Nat → Int32))} {ci k N : Nat} {C : String} {T : u_T} (h : ∀ w ∈ u_ws C T N, w ∈ tw) (hc : (am_cl κ)[ci]? = some (C, T, N)) (hk : k < N) : am_fld κ (c0 :: tw, r) ci k C T N :=
  ⟨fun w z => List.mem_cons_of_mem _ (h w z), hc, hk⟩
theorem am_gd {c0 : Cond} {ws : List Cond} (h : ∀ w ∈ ws, w ∈ am_tw) : GoodIn (c0 :: am_tw) ws := fun w hw => ⟨List.mem_cons_of_mem _ (h w hw), good_of_word (List.mem_filter.mp (h w hw)).2⟩
theorem am_gdC {c0 c1 : Cond} (h : c1 ∈ am_tw) : GoodIn (c0 :: am_tw) (c1 :: am_tw) := am_gd (fun w hw => (List.mem_cons.mp hw).elim (fun e => e ▸ h) (fun z => z))
theorem c_Vr {κ : am_K} {c0 : Cond} {own : String} {cc : ByteArray} {nL : Nat} {rt : Option FieldType} {nm : String} {tb : List ExceptionTableEntry} {X : Option (Nat × (Nat → Int32))} {o o1 : am_O} {b a pc n idx ci q0 N maxL : Nat} {h1 h h2 : List am_E} {ls : List (Nat × Value)} {stk st' : List Value} {v : Option Value} {y : MethodName} {bytes : ByteArray} {ret : Option FieldType} {T : u_T} {fs : List Value}
    (as st : List Value) (d : decode cc pc = .ok (.invokevirtual idx, 3)) (en : pc + 3 = n) (hM : am_M κ y (.code y bytes maxL ret :: am_tw) (am_rm a (.inl v)) (.ref q0 :: as) h (.inl v) h2)
    (w1 : Cond.methodLink own idx y ∈ am_tw) (w2 : Cond.instanceMethod y ∈ am_tw) (w3 : Cond.selects y.cls y y ∈ am_tw) (w4 : Cond.initialized y.cls ∈ am_tw) (w5 : Cond.code y bytes maxL ret ∈ am_tw)
    (hd : y.cls ≠ "java/lang/invoke/MethodHandle" ∧ y.cls ≠ "java/lang/invoke/VarHandle" ∧ (parseMethodDescriptor y.desc).map (fun d => d.parameters.length) = some as.length) (hab : a < b) (hm : maxL ≤ 45)
    (hcl : (am_cl κ)[ci]? = some (y.cls, T, N)) (he : h[q0]? = some (.inr (ci, fs))) (hst : stk = as.reverse ++ .ref q0 :: st) (hcat : (st.map fun v => v.category).sum ≤ 8) (hl : h2.length = h.length) (hv : v.toList ++ st = st')
    (kr : am_G κ (c0 :: am_tw, own, cc, nL, rt, nm, tb, am_rm b o, X) o1 h1 0 0 n ls st' h2) : am_G κ (c0 :: am_tw, own, cc, nL, rt, nm, tb, am_rm b o, X) o1 h1 0 0 pc ls stk h := by
  subst hv
  refine g_callV as st d en hM (am_gd (fun w hw => ?_)) rfl ⟨rfl, hd⟩ (am_rmR hab hm) ⟨Nat.zero_le _, Nat.zero_le _⟩ hcl he hst hcat hl kr
  rcases List.mem_append.mp hw with z | z
  · simp only [List.mem_cons, List.not_mem_nil, or_false] at z
    rcases z with rfl | rfl | rfl | rfl <;> assumption
  · exact (List.mem_cons.mp z).elim (fun e => e ▸ w5) (fun z => z)
theorem c_VNr {κ : am_K} {c0 : Cond} {own host : String} {cc : ByteArray} {nL : Nat} {rt : Option FieldType} {nm : String} {tb : List ExceptionTableEntry} {X : Option (Nat × (Nat → Int32))} {o o1 : am_O} {b a pc n idx ci q0 N maxL : Nat} {h1 h h2 : List am_E} {ls : List (Nat × Value)} {stk st' : List Value} {v : Option Value} {y : MethodName} {bytes : ByteArray} {ret : Option FieldType} {T : u_T} {fs : List Value}
    (as st : List Value) (d : decode cc pc = .ok (.invokevirtual idx, 3)) (en : pc + 3 = n) (hM : am_M κ y (.code y bytes maxL ret :: am_tw) (am_rm a (.inl v)) (.ref q0 :: as) h (.inl v) h2)
    (w1 : Cond.methodLinkNest own idx y host ∈ am_NW κ) (w2 : Cond.instanceMethod y ∈ am_tw) (w3 : Cond.selects y.cls y y ∈ am_tw) (w4 : Cond.initialized y.cls ∈ am_tw) (w5 : Cond.code y bytes maxL ret ∈ am_tw)
    (hd : y.cls ≠ "java/lang/invoke/MethodHandle" ∧ y.cls ≠ "java/lang/invoke/VarHandle" ∧ (parseMethodDescriptor y.desc).map (fun d => d.parameters.length) = some as.length) (hab : a < b) (hm : maxL ≤ 45)
    (hcl : (am_cl κ)[ci]? = some (y.cls, T, N)) (he : h[q0]? = some (.inr (ci, fs))) (hst : stk = as.reverse ++ .ref q0 :: st) (hcat : (st.map fun v => v.category).sum ≤ 8) (hl : h2.length = h.length) (hv : v.toList ++ st = st')
    (kr : am_G κ (c0 :: am_tw, own, cc, nL, rt, nm, tb, am_rm b o, X) o1 h1 0 0 n ls st' h2) : am_G κ (c0 :: am_tw, own, cc, nL, rt, nm, tb, am_rm b o, X) o1 h1 0 0 pc ls stk h := by
  subst hv
  exact g_callVN as st d en hM (am_gdC w5) rfl w1 (List.mem_cons_of_mem _ w4) (List.mem_cons_of_mem _ w2) (List.mem_cons_of_mem _ w3) hd (am_rmR hab hm) ⟨Nat.zero_le _, Nat.zero_le _⟩ hcl he hst hcat hl kr
theorem c_Sr {κ : am_K} {c0 : Cond} {own : String} {cc : ByteArray} {nL : Nat} {rt : Option FieldType} {nm : String} {tb : List ExceptionTableEntry} {X : Option (Nat × (Nat → Int32))} {o o1 : am_O} {b a pc n idx maxL : Nat} {h1 h h2 : List am_E} {ls : List (Nat × Value)} {stk st' : List Value} {v : Option Value} {y : MethodName} {bytes : ByteArray} {ret : Option FieldType}
    (as st : List Value) (d : decode cc pc = .ok (.invokestatic idx, 3)) (en : pc + 3 = n) (hM : am_M κ y (.code y bytes maxL ret :: am_tw) (am_rm a (.inl v)) as h (.inl v) h2)
    (w1 : Cond.methodLink own idx y ∈ am_tw) (w2 : Cond.static y ∈ am_tw) (w4 : Cond.initialized y.cls ∈ am_tw) (w5 : Cond.code y bytes maxL ret ∈ am_tw) (hy : y.cls = own)
    (hd : y.cls ≠ "java/lang/invoke/MethodHandle" ∧ y.cls ≠ "java/lang/invoke/VarHandle" ∧ (parseMethodDescriptor y.desc).map (fun d => d.parameters.length) = some as.length) (hab : a < b) (hm : maxL ≤ 45)
    (hst : stk = as.reverse ++ st) (hcat : (st.map fun v => v.category).sum ≤ 8) (hl : h2.length = h.length) (hv : v.toList ++ st = st')
    (kr : am_G κ (c0 :: am_tw, own, cc, nL, rt, nm, tb, am_rm b o, X) o1 h1 0 0 n ls st' h2) : am_G κ (c0 :: am_tw, own, cc, nL, rt, nm, tb, am_rm b o, X) o1 h1 0 0 pc ls stk h := by
  subst hv
  refine g_callS as st d en hM (am_gd (fun w hw => ?_)) rfl ⟨hy, hd⟩ (am_rmR hab hm) ⟨Nat.zero_le _, Nat.zero_le _⟩ hst hcat hl kr
  rcases List.mem_append.mp hw with z | z
  · simp only [List.mem_cons, List.not_mem_nil, or_false] at z
    rcases z with rfl | rfl | rfl
    · exact w1
    · exact w2
    · have e : Cond.initialized y.cls = Cond.initialized own := by rw [hy]
      exact e ▸ w4
  · exact (List.mem_cons.mp z).elim (fun e => e ▸ w5) (fun z => z)
theorem c_SNr {κ : am_K} {c0 : Cond} {own host : String} {cc : ByteArray} {nL : Nat} {rt : Option FieldType} {nm : String} {tb : List ExceptionTableEntry} {X : Option (Nat × (Nat → Int32))} {o o1 : am_O} {b a pc n idx maxL : Nat} {h1 h h2 : List am_E} {ls : List (Nat × Value)} {stk st' : List Value} {v : Option Value} {y : MethodName} {bytes : ByteArray} {ret : Option FieldType}
    (as st : List Value) (d : decode cc pc = .ok (.invokestatic idx, 3)) (en : pc + 3 = n) (hM : am_M κ y (.code y bytes maxL ret :: am_tw) (am_rm a (.inl v)) as h (.inl v) h2)
    (w1 : Cond.methodLinkNest own idx y host ∈ am_NW κ) (w2 : Cond.static y ∈ am_tw) (w4 : Cond.initialized y.cls ∈ am_tw) (w5 : Cond.code y bytes maxL ret ∈ am_tw)
    (hd : y.cls ≠ "java/lang/invoke/MethodHandle" ∧ y.cls ≠ "java/lang/invoke/VarHandle" ∧ (parseMethodDescriptor y.desc).map (fun d => d.parameters.length) = some as.length) (hab : a < b) (hm : maxL ≤ 45)
    (hst : stk = as.reverse ++ st) (hcat : (st.map fun v => v.category).sum ≤ 8) (hl : h2.length = h.length) (hv : v.toList ++ st = st')
    (kr : am_G κ (c0 :: am_tw, own, cc, nL, rt, nm, tb, am_rm b o, X) o1 h1 0 0 n ls st' h2) : am_G κ (c0 :: am_tw, own, cc, nL, rt, nm, tb, am_rm b o, X) o1 h1 0 0 pc ls stk h := by
  subst hv
  exact g_callSN as st d en hM (am_gdC w5) rfl w1 (List.mem_cons_of_mem _ w4) (List.mem_cons_of_mem _ w2) hd (am_rmR hab hm) ⟨Nat.zero_le _, Nat.zero_le _⟩ hst hcat hl kr
theorem c_Vx {κ : am_K} {c0 : Cond} {own : String} {cc : ByteArray} {nL : Nat} {rt : Option FieldType} {nm : String} {tb : List ExceptionTableEntry} {X : Option (Nat × (Nat → Int32))} {o1 : am_O} {b a pc n idx ci q0 N maxL : Nat} {h1 h h2 : List am_E} {ls : List (Nat × Value)} {stk st' : List Value} {E E9 : String} {y : MethodName} {bytes : ByteArray} {ret : Option FieldType} {T : u_T} {fs : List Value}
    (as st : List Value) (d : decode cc pc = .ok (.invokevirtual idx, 3)) (en : pc + 3 = n) (hM : am_M κ y (.code y bytes maxL ret :: am_tw) (am_rm a (.inr E)) (.ref q0 :: as) h (.inr E) h2)
    (w1 : Cond.methodLink own idx y ∈ am_tw) (w2 : Cond.instanceMethod y ∈ am_tw) (w3 : Cond.selects y.cls y y ∈ am_tw) (w4 : Cond.initialized y.cls ∈ am_tw) (w5 : Cond.code y bytes maxL ret ∈ am_tw)
    (hd : y.cls ≠ "java/lang/invoke/MethodHandle" ∧ y.cls ≠ "java/lang/invoke/VarHandle" ∧ (parseMethodDescriptor y.desc).map (fun d => d.parameters.length) = some as.length) (hab : a < b) (hm : maxL ≤ 45)
    (hcl : (am_cl κ)[ci]? = some (y.cls, T, N)) (he : h[q0]? = some (.inr (ci, fs))) (hst : stk = as.reverse ++ .ref q0 :: st) (hcat : (st.map fun v => v.category).sum ≤ 8) (hl : h2.length = h.length)
    (kx : am_GX κ (c0 :: am_tw, own, cc, nL, rt, nm, tb, am_rm b (.inr E9), X) o1 h1 1 6 pc ls st h2 E) : am_G κ (c0 :: am_tw, own, cc, nL, rt, nm, tb, am_rm b (.inr E9), X) o1 h1 0 0 pc ls stk h :=
  g_callVx as st d hM (am_gdC w5) List.mem_cons_self (Or.inl (List.mem_cons_of_mem _ w1)) (List.mem_cons_of_mem _ w2) (List.mem_cons_of_mem _ w3) (List.mem_cons_of_mem _ w4) hd (am_rmR hab hm) ⟨Nat.le_refl _, Nat.le_refl _⟩ hcl he hst hcat hl kx
theorem c_VNx {κ : am_K} {c0 : Cond} {own host : String} {cc : ByteArray} {nL : Nat} {rt : Option FieldType} {nm : String} {tb : List ExceptionTableEntry} {X : Option (Nat × (Nat → Int32))} {o1 : am_O} {b a pc n idx ci q0 N maxL : Nat} {h1 h h2 : List am_E} {ls : List (Nat × Value)} {stk st' : List Value} {E E9 : String} {y : MethodName} {bytes : ByteArray} {ret : Option FieldType} {T : u_T} {fs : List Value}
    (as st : List Value) (d : decode cc pc = .ok (.invokevirtual idx, 3)) (en : pc + 3 = n) (hM : am_M κ y (.code y bytes maxL ret :: am_tw) (am_rm a (.inr E)) (.ref q0 :: as) h (.inr E) h2)
    (w1 : Cond.methodLinkNest own idx y host ∈ am_NW κ) (w2 : Cond.instanceMethod y ∈ am_tw) (w3 : Cond.selects y.cls y y ∈ am_tw) (w4 : Cond.initialized y.cls ∈ am_tw) (w5 : Cond.code y bytes maxL ret ∈ am_tw)
    (hd : y.cls ≠ "java/lang/invoke/MethodHandle" ∧ y.cls ≠ "java/lang/invoke/VarHandle" ∧ (parseMethodDescriptor y.desc).map (fun d => d.parameters.length) = some as.length) (hab : a < b) (hm : maxL ≤ 45)
    (hcl : (am_cl κ)[ci]? = some (y.cls, T, N)) (he : h[q0]? = some (.inr (ci, fs))) (hst : stk = as.reverse ++ .ref q0 :: st) (hcat : (st.map fun v => v.category).sum ≤ 8) (hl : h2.length = h.length)
    (kx : am_GX κ (c0 :: am_tw, own, cc, nL, rt, nm, tb, am_rm b (.inr E9), X) o1 h1 1 6 pc ls st h2 E) : am_G κ (c0 :: am_tw, own, cc, nL, rt, nm, tb, am_rm b (.inr E9), X) o1 h1 0 0 pc ls stk h :=
  g_callVx as st d hM (am_gdC w5) List.mem_cons_self (Or.inr ⟨host, w1⟩) (List.mem_cons_of_mem _ w2) (List.mem_cons_of_mem _ w3) (List.mem_cons_of_mem _ w4) hd (am_rmR hab hm) ⟨Nat.le_refl _, Nat.le_refl _⟩ hcl he hst hcat hl kx
theorem c_T {κ : am_K} {c0 : Cond} {own : String} {cc : ByteArray} {nL : Nat} {rt : Option FieldType} {nm : String} {X : Option (Nat × (Nat → Int32))} {b pc pi ik is ic i1 : Nat} {b1 : ByteArray} {h : List am_E} {ls : List (Nat × Value)} {st : List Value} {cls text : String}
    (htr : (am_l κ).stackTraces = false) (hcls : Bundle.fit cls = true) (e0 : decode b1 0 = .ok (.aload_n 0, 1)) (e1 : decode b1 1 = .ok (.aload_n 1, 1)) (e2 : decode b1 2 = .ok (.invokespecial i1, 3)) (e5 : decode b1 5 = .ok (.return_, 1)) (w1 : Cond.classLink own ik cls ∈ am_tw) (w2 : Cond.initialized cls ∈ am_tw) (hc0 : goodWord c0 = true) (hstr : ((own, is, text) : String × Nat × String) ∈ am_SL κ)
    (hat : ∀ w ∈ am_atoms own ic i1 b1 cls "java/lang/RuntimeException" ["java/lang/Exception"], w ∈ am_tw ∨ w ∈ am_NW κ ∨ w ∈ am_hw)
    (d0 : decode cc pc = .ok (.new ik, 3)) (d3 : decode cc (pc + 3) = .ok (.dup, 1)) (d4 : (decode cc (pc + 4) = .ok (.ldc is, 2) ∧ pi = pc + 6) ∨ (decode cc (pc + 4) = .ok (.ldc_w is, 3) ∧ pi = pc + 7)) (d6 : decode cc pi = .ok (.invokespecial ic, 3)) (d9 : decode cc (pi + 3) = .ok (.athrow, 1)) (hcat : (st.map fun v => v.category).sum ≤ 8) :
    am_G κ (c0 :: am_tw, own, cc, nL, rt, nm, [], am_rm b (.inr cls), X) (.inr cls) h 0 0 pc ls st h := by
  refine am_throw htr hcls e0 e1 e2 e5 (List.mem_cons_of_mem _ w1) (List.mem_cons_of_mem _ w2) (fun w hw => ?_) hstr (fun w hw => ?_) rfl d0 d3 d4 d6 d9 ?_ ?_ (Nat.le_refl _) (Nat.le_refl _)
  · exact (List.mem_cons.mp hw).elim (fun z => z ▸ hc0) (fun z => (List.mem_filter.mp z).2)
  · exact (hat w hw).elim (fun z => Or.inl (List.mem_cons_of_mem _ z)) Or.inr
  · show 5 < (am_rm b (.inr cls)).frames
    rw [am_rm_f]
    omega
  · show _ + 82 ≤ (am_rm b (.inr cls)).locals
    rw [am_rm_l]
    omega
theorem c_mmin {κ : am_K} {c0 : Cond} {own : String} {cc : ByteArray} {nL : Nat} {rt : Option FieldType} {nm : String} {tb : List ExceptionTableEntry} {X : Option (Nat × (Nat → Int32))} {o o1 : am_O} {b pc n idx : Nat} {h1 h : List am_E} {ls : List (Nat × Value)} {st : List Value} {x y : Int32}
    (d : decode cc pc = .ok (.invokestatic idx, 3)) (en : pc + 3 = n) (w1 : Cond.methodLink own idx Lib.Math.min.name ∈ am_tw) (w2 : Cond.static Lib.Math.min.name ∈ am_tw) (w3 : Cond.initialized "java/lang/Math" ∈ am_tw) (w4 : Cond.code Lib.Math.min.name Lib.Math.min.code 2 (some .int) ∈ am_tw) (hcat : (st.map fun v => v.category).sum ≤ 8)
    (kk : am_G κ (c0 :: am_tw, own, cc, nL, rt, nm, tb, am_rm b o, X) o1 h1 0 0 n ls (.int (if y < x then y else x) :: st) h) : am_G κ (c0 :: am_tw, own, cc, nL, rt, nm, tb, am_rm b o, X) o1 h1 0 0 pc ls (.int y :: .int x :: st) h := by
  refine g_mmin d en (List.mem_cons_of_mem _ w1) (List.mem_cons_of_mem _ w2) (List.mem_cons_of_mem _ w3) (List.mem_cons_of_mem _ w4) ?_ ?_ (Nat.zero_le _) (Nat.zero_le _) kk
  · show 1 ≤ (am_rm b o).frames
    rw [am_rm_f]
    omega
  · show _ + 13 ≤ (am_rm b o).locals
    rw [am_rm_l]
    omega
