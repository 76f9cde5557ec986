/-! handlers: an exception that the method's own table takes; a method that has a table; a call of one -/
/-- one row of a table, its class linked: the exception is taken there, or the search goes on -/
theorem am_row {e : Env} {s S : State} {f : JFrame} {q : Addr} {ce : Cell} {own nm : String} {args : Array Value} {cT : ClassId} {ks : Class} {x : ExceptionTableEntry}
    (hpl : e.platform.magicAccessors = ({} : Platform).magicAccessors) (hown : s.vm.findClass own = some f.method.cls) (hv : ce.vm = .none) (hks : s.vm.classes[ce.cls]? = some ks) (hW : s.WarmedH S.vm) (hce : S.heap[q]? = some ce)
    (hx : covers x f.pc = true) (h0 : x.catchType ≠ 0) (hl : (Cond.classLink own x.catchType nm).before args s = true) (hcT : s.vm.findClass nm = some cT) :
    s.WarmedH (S.vm.noted f.method.cls x.catchType (.cls cT)) ∧ ∀ (t : List ExceptionTableEntry) (Q : Handler → Pre) (E' : CtlPost) (d : Bool) (acts : List Action),
      wp (findHandler.go f q (x :: t)) Q E' e d acts S ↔ if s.vm.assignable ce.cls cT = true then Q (.found x.handlerPc) d acts (S.setVm (S.vm.noted f.method.cls x.catchType (.cls cT))) else wp (findHandler.go f q t) Q E' e d acts (S.setVm (S.vm.noted f.method.cls x.catchType (.cls cT))) := by
  obtain ⟨c', hc', hcl⟩ := Cond.classLink_spec hown hl e.platform hpl
  cases hcT.symm.trans hc'
  obtain ⟨dk, _, _, kt, hd, _, _, _, _, hkt, _, hopen⟩ := hcl.here
  have hcl₀ := hW.classLinks hcl
  have hW' : s.WarmedH (S.vm.noted f.method.cls x.catchType (.cls cT)) := hW.noted hd hopen (State.rightAt_cls hcl)
  obtain ⟨k1, hk1, -⟩ := hW'.alike.2.2 _ _ hks
  obtain ⟨k2, hk2, -⟩ := hW'.alike.2.2 _ _ hkt
  have hasg : (S.vm.noted f.method.cls x.catchType (.cls cT)).assignable ce.cls cT = s.vm.assignable ce.cls cT := by rw [hW'.alike.assignable]
  obtain ⟨ha, ht⟩ := (resolveClass_links e.toSetting hcl₀).op (op := VmOp.resolveClass f.method.cls x.catchType) rfl
  have hobj : ∀ k, ce.vm ≠ .statics k := fun k hk => by rw [hv] at hk; cases hk
  simp only [covers] at hx
  refine ⟨hW', fun t Q E' d acts => ?_⟩
  cases hz : s.vm.assignable ce.cls cT <;> rw [hz] at hasg <;> simp [findHandler.go, hx, h0, ha, ht, hce, hobj, hk1, hk2, hasg, VmOp.dirties, VmOp.acts]
theorem am_asg (vm : Vm) (c : ClassId) : vm.assignable c c = true := by
  show vm.assignableAux (255 + 1) c c = true
  rw [Vm.assignableAux, Bool.or_eq_true, beq_iff_eq]
  exact Or.inl rfl
/-- the search: rows that are passed, then the one that names the exception's own class -/
theorem am_go {e : Env} {s : State} {f : JFrame} {q : Addr} {ce : Cell} {own E : String} {args : Array Value} {x : ExceptionTableEntry} {rest : List ExceptionTableEntry}
    (hpl : e.platform.magicAccessors = ({} : Platform).magicAccessors) (hown : s.vm.findClass own = some f.method.cls) (hv : ce.vm = .none) (hE : s.vm.findClass E = some ce.cls)
    (hx : covers x f.pc = true) (h0 : x.catchType ≠ 0) (hl : (Cond.classLink own x.catchType E).before args s = true) :
    ∀ pre : List ExceptionTableEntry, (∀ y ∈ pre, covers y f.pc = true ∧ y.catchType ≠ 0 ∧ ∃ nm, (Cond.classLink own y.catchType nm).before args s = true ∧ va_Nc E nm s) →
      ∀ S : State, s.WarmedH S.vm → S.heap[q]? = some ce → ∃ vm', s.WarmedH vm' ∧ ∀ (Q : Handler → Pre) (E' : CtlPost) (d : Bool) (acts : List Action), wp (findHandler.go f q (pre ++ x :: rest)) Q E' e d acts S ↔ Q (.found x.handlerPc) d acts (S.setVm vm') := by
  obtain ⟨ks, hks⟩ := Vm.classAt_of_findClass hE
  intro pre
  induction pre with
  | nil =>
    intro _ S hW hce
    obtain ⟨z1, z2⟩ := am_row hpl hown hv hks hW hce hx h0 hl hE
    refine ⟨_, z1, fun Q E' d acts => ?_⟩
    rw [List.nil_append, z2, if_pos (am_asg _ _)]
  | cons y t ih =>
    intro hp S hW hce
    obtain ⟨y1, y2, nm, y3, c0, t0, f1, f2, f3⟩ := hp y List.mem_cons_self
    cases hE.symm.trans f1
    obtain ⟨z1, z2⟩ := am_row hpl hown hv hks hW hce y1 y2 y3 f2
    obtain ⟨vm', u1, u2⟩ := ih (fun z hz => hp z (List.mem_cons_of_mem _ hz)) (S.setVm (S.vm.noted f.method.cls y.catchType (.cls t0))) z1 hce
    refine ⟨vm', u1, fun Q E' d acts => ?_⟩
    rw [List.cons_append, z2, if_neg (by rw [f3]; exact Bool.false_ne_true), u2]
    exact Iff.rfl
/-- into the handler, under the tables that the search leaves -/
theorem am_caught {tb : Tables} {e : Env} {s target : State} {g : JFrame} {c : Code} {below : List Frame} {q : Addr} {pc : Nat} {vm' : Vm} (h : At s g.method c below)
    (hf : ∀ (Q : Handler → Pre) (E' : CtlPost) (d : Bool) (acts : List Action), wp (findHandler g q) Q E' e d acts ((s.setTop g).pushFrame (.throwing q)) ↔ Q (.found pc) d acts (((s.setTop g).pushFrame (.throwing q)).setVm vm'))
    (hrest : Steps tb e below ((s.setVm vm').setTop { g with pc := pc, stack := [.ref q] }) target) : Steps tb e below ((s.setTop g).pushFrame (.throwing q)) target := by
  obtain ⟨hgo, hw⟩ := h.throwing q
  refine Steps.head hgo hw ?_
  obtain ⟨g₀, hg⟩ := Option.isSome_iff_exists.mp h.top
  obtain ⟨r, hr⟩ := State.topJava?_eq_some.mp hg
  have hr' : (s.setVm vm').frames = .java g₀ :: r := hr
  have key : (stepThrowing e ((s.setTop g).pushFrame (.throwing q)) q (.java g :: r)).1 = (((s.setTop g).pushFrame (.throwing q)).setVm vm').setFrames (.java { g with pc := pc, stack := [.ref q] } :: r) := by
    simp only [stepThrowing, searchFrame, vmDo]
    generalize hres : Sem.go _ e false [] _ = res
    obtain ⟨as, rfl, -⟩ := Sem.eq_ok_of hres (a := Handler.found pc) (s' := ((s.setTop g).pushFrame (.throwing q)).setVm vm') (acts' := []) (by simp [hf _ _ _ _])
    rfl
  rw [stepThread_throwing (frames_entered h.top _), hr, List.tail_cons, key]
  rw [State.setTop_of_frames _ hr'] at hrest
  have e1 : (((s.setTop g).pushFrame (.throwing q)).setVm vm').setFrames (.java { g with pc := pc, stack := [.ref q] } :: r) = (s.setVm vm').setFrames (.java { g with pc := pc, stack := [.ref q] } :: r) := by
    rw [State.pushFrame, State.setTop_of_frames _ hr, State.setFrames_setFrames]
    show ((s.setVm vm').setFrames _).setFrames _ = _
    rw [State.setFrames_setFrames]
  rw [e1]
  exact hrest
/-- the handler of the exception's own class: its first instruction lays the exception by, and no label names it -/
theorem g_catch {κ : am_K} {μ : am_N} {o1 : am_O} {h1 : List am_E} {nc ns pc n : Nat} {ls : List (Nat × Value)} {st : List Value} {h : List am_E} {E : String} {i : Nat}
    (pre : List ExceptionTableEntry) (x : ExceptionTableEntry) (rest : List ExceptionTableEntry) (htb : am_tb μ = pre ++ x :: rest) (hx : covers x pc = true) (h0 : x.catchType ≠ 0) (hl : Cond.classLink (am_own μ) x.catchType E ∈ am_ws μ)
    (hpre : ∀ y ∈ pre, covers y pc = true ∧ y.catchType ≠ 0 ∧ ∃ nm, Cond.classLink (am_own μ) y.catchType nm ∈ am_ws μ ∧ Cond.not (.castable E nm) ∈ am_hw)
    (d : (∃ k : Fin 4, decode (am_cc μ) x.handlerPc = .ok (.astore_n k, 1) ∧ (k : Nat) = i ∧ x.handlerPc + 1 = n) ∨ (decode (am_cc μ) x.handlerPc = .ok (.astore i, 2) ∧ x.handlerPc + 2 = n)) (hn : i < am_nL μ)
    (k : am_G κ μ o1 h1 nc ns n [] [] h) : am_GX κ μ o1 h1 nc ns pc ls st h E := by
  intro p e s m args below meth c H locs A sb ad0 ad lv ce q I hlv hce hcv hcl T hT X
  have hts := I.1.2.2.2.2
  have hpl : e.platform.magicAccessors = ({} : Platform).magicAccessors := by rw [X.admits.platform]
  have hZ := I.2.2.2.1
  have hlat : am_later A s s := ⟨State.WarmedH.refl s, Nat.le_refl _, fun _ _ _ => rfl⟩
  obtain ⟨vm', hW', hf⟩ := am_go (f := F0 m pc lv (st.map (am_v sb ad))) (q := q) (ce := ce) (x := x) (rest := rest) hpl I.1.2.2.2.1 hcv hcl hx h0 (hts _ hl) pre (fun y hy => by
    obtain ⟨y1, y2, nm, y3, y4⟩ := hpre y hy
    exact ⟨y1, y2, nm, hts _ y3, va_Nc.of (hZ s hlat _ y4 args)⟩) ((T.setTop (F0 m pc lv (st.map (am_v sb ad)))).pushFrame (.throwing q)) X.warmed (by
    show T.heap[q]? = some ce
    rw [hT]
    exact hce)
  have hkW : W p (am_l κ) e (am_R μ) s m args below meth c H locs nc ns (am_MQ κ below sb ad0 A (am_R μ) o1 h1 args s) (F0 m x.handlerPc lv [.ref q]) := by
    have hl0 : lv_has lv (am_nL μ) [] := lv_sub hlv [] rfl
    rcases d with ⟨kk, d1, d2, d3⟩ | ⟨d1, d3⟩
    · subst d3
      exact lv_astore_n I.1.1 I.1.2.1 d1 d2 hl0 hn rfl (fun lv' hl' => k p e s m args below meth c H locs A sb ad0 ad lv' I (lv_sub hl' [] rfl))
    · subst d3
      exact lv_astore I.1.1 I.1.2.1 d1 hl0 hn rfl (fun lv' hl' => k p e s m args below meth c H locs A sb ad0 ad lv' I (lv_sub hl' [] rfl))
  obtain ⟨t, a1, b1⟩ := hkW (T.setVm vm') hT (X.noted hW')
  refine ⟨t, am_caught (g := F0 m pc lv (st.map (am_v sb ad))) X.here (fun Q E' dd acts => ?_) a1, b1⟩
  rw [W.findHandler_eq (meth := meth) (code := c) X.method' X.code, I.2.1.2.2.2, htb]
  exact hf Q E' dd acts
/-- a method with a table, out of its walk -/
theorem am_bodyW {κ : am_K} {y : MethodName} {cc : ByteArray} {maxL : Nat} {ret : Option FieldType} {hh : List (Nat × Nat × Nat × Nat)} {ws ws' : List Cond} {rm : Room} {as : List Value} {h h1 : List am_E} {o1 : am_O} {ls : List (Nat × Value)}
    (hy : plainName y.cls = true) (hw : ws = Cond.codeWith y cc maxL ret hh :: ws') (hn : (lg_sl as).length ≤ maxL) (hls : lv_args 0 as = ls)
    (k : am_G κ (ws, y.cls, cc, maxL, ret, y.name, tableOf hh, rm, none) o1 h1 0 0 0 ls [] h) : am_M κ y ws rm as h o1 h1 := by
  intro sb ad sz hlen
  refine MetFree.of_bodyS (code := cc) (maxLocals := maxL) (ret := ret) hy ?_ ?_
  · intro args s m hb hnm
    obtain ⟨m9, meth, c, z0, z1, z2, z3, z4, -, z5, z6, -⟩ := Cond.codeWith_spec (atoms_spec (ws := ws) hb _ (by rw [hw]; exact List.mem_cons_self))
    cases hnm.symm.trans z0
    exact ⟨meth, c, z1, z2, z3, z4, z5, z6⟩
  · intro p e s m args below meth c s₁ B hml hv _
    obtain ⟨rfl, hsz, hP, hD, hT, hZ⟩ := hv
    subst hsz
    have hts := atoms_spec (ws := ws) B.pre
    have hown : s.vm.findClass y.cls = some m.cls := findClass_of_methodNamed B.named
    have hnm : meth.name = y.name := (name_of_methodNamed B.named B.method).1
    have htb : c.exceptionTable.toList = tableOf hh := by
      obtain ⟨m9, meth9, c9, z0, z1, z2, -, -, z7, -⟩ := Cond.codeWith_spec (hts _ (by rw [hw]; exact List.mem_cons_self))
      cases B.named.symm.trans z0
      cases Option.some.inj (z1.symm.trans B.method)
      cases Option.some.inj (z2.symm.trans (Stand.of_body B).code)
      rw [← z7, table_eq]
    have hl := lv_entry (as.map (am_v sb ad)) (n := maxL) (by rw [am_sl_len]; exact hn)
    rw [am_args, hls] at hl
    have hw0 := k p e s m (as.map (am_v sb ad)).toArray below meth c s.heap [] (am_A ad s.heap.size) sb ad ad _ ⟨⟨B.exec, B.bytes, hml, hown, hts⟩, ⟨B.returns, B.notSynchronized, hnm, htb⟩, hT, hZ, fun q z => Or.inr z, trivial, List.prefix_refl _, hlen, hP, ⟨hD.1, fun k q hk => by
      obtain ⟨x, -, z2, -⟩ := am_w_of hk
      exact Or.inl (List.mem_of_getElem? z2)⟩, va_S.rf⟩ hl
    have hh0 : s₁.heap = s.heap := by rw [B.state]; rfl
    rw [List.map_nil, ← lg_entry_eq] at hw0
    obtain ⟨t, a1, oc, b1, b2, b3⟩ := hw0 s₁ hh0 (Stand.of_body B)
    exact ⟨t, oc, a1, b1, b2, b3⟩
/-- a call of a static method that has a table -/
theorem g_callSW {κ : am_K} {μ : am_N} {o1 : am_O} {h1 : List am_E} {nc ns pc n : Nat} {ls : List (Nat × Value)} {stk : List Value} {h h2 : List am_E} {v : Option Value} {idx maxL : Nat} {y : MethodName} {bytes : ByteArray} {ret : Option FieldType} {hh : List (Nat × Nat × Nat × Nat)} {ws : List Cond} {rm : Room}
    (as st : List Value) (d : decode (am_cc μ) pc = .ok (.invokestatic idx, 3)) (en : pc + 3 = n) (hM : am_M κ y ws rm as h (.inl v) h2) (hG : GoodIn (am_ws μ) ws) (hcode : Cond.codeWith y bytes maxL ret hh ∈ ws) (w1 : Cond.methodLink (am_own μ) idx y ∈ am_ws μ) (w2 : Cond.static y ∈ am_ws μ) (w3 : Cond.initialized y.cls ∈ am_ws μ)
    (hd : y.cls ≠ "java/lang/invoke/MethodHandle" ∧ y.cls ≠ "java/lang/invoke/VarHandle" ∧ (parseMethodDescriptor y.desc).map (fun d => d.parameters.length) = some as.length) (hR : rm.frames + 1 ≤ (am_R μ).frames ∧ 8 + (maxL + 11) + rm.locals ≤ (am_R μ).locals) (hf : nc + rm.cells ≤ (am_R μ).cells ∧ ns + rm.slots ≤ (am_R μ).slots)
    (hst : stk = as.reverse ++ st) (hcat : (st.map fun v => v.category).sum ≤ 8) (hl : h2.length = h.length)
    (kr : am_G κ μ o1 h1 (nc + rm.cells) (ns + rm.slots) n ls (v.toList ++ st) h2) : am_G κ μ o1 h1 nc ns pc ls stk h := by
  intro p e s m args below meth c H locs A sb ad0 ad lv I hlv
  have hlen : ad.length = h.length := I.2.2.2.2.2.2.2.1
  subst hst
  rw [am_revmapS]
  have ht := I.1.2.2.2.2
  have hws : ∀ w ∈ ws, ∀ (a' : Array Value) (U : State), s.WarmedH U.vm → w.before a' U = true := pay_in ht hG
  have hK : Back (am_l κ) (am_R μ) p e below s args y 3 8 (PreOf (am_R μ) rm.cells rm.slots (am_Pc κ sb ad H.size as h)) (PostOf (am_Qr κ sb ad (am_A ad H.size) v h2) rm.cells rm.slots (am_A ad H.size)) :=
    va_backW (am_met hM sb ad H.size hlen) am_Pc.blind rfl rfl hR.1 hR.2 hws hcode (fun a' U hW => word_at hW (Or.inl rfl) (ht _ w3))
  refine am_run (mc := rm.cells) (ms := rm.slots) (a' := (as.map (am_v sb ad)).toArray) I hlv en ?_ hl kr
  intro T hT X
  obtain ⟨mk, methM, cM, hnamed, hmethM, -, -, -, -, -, -, hsigM⟩ := Cond.codeWith_spec (ht _ (hG _ hcode).1)
  have hstatic : methM.isStatic = true := Cond.static_spec hnamed hmethM (ht _ w2)
  obtain ⟨kP, hkP, -⟩ := className_of_methodNamed hnamed
  have hinitP : kP.init = .initialized := Cond.initialized_spec (findClass_of_methodNamed hnamed) hkP (ht _ w3)
  have hpar : (as.map (am_v sb ad)).length = methM.sig.parameters.length := by
    have z := hd.2.2
    rw [hsigM] at z
    rw [List.length_map]
    exact (Option.some.inj z).symm
  have hsz : lv.size = c.maxLocals := hlv.1.trans I.1.2.2.1.symm
  have hdc : decode c.code pc = .ok (.invokestatic idx, 3) := by rw [I.1.2.1]; exact d
  obtain ⟨vm₁, X₁, hstep₁⟩ := X.invokestatic I.1.1 I.1.2.2.2.1 (ht _ w1) hnamed hmethM hstatic hkP hinitP ⟨hd.1, hd.2.1⟩ (g := F0 m pc lv ((as.map (am_v sb ad)).reverse ++ st.map (am_v sb ad))) rfl (argsL := as.map (am_v sb ad)) (rest := st.map (am_v sb ad)) hpar rfl hdc
  obtain ⟨v', ⟨U', l2, c2, s2⟩, X', ⟨g', mk', t, L, e1, e2, hq, z1, hL, z2, z3⟩, hsteps⟩ := hK m meth c ⟨T.setVm vm₁, locs, nc, ns⟩ (F0 m pc lv (st.map (am_v sb ad))) (.invokestatic idx) mk (as.map (am_v sb ad)).toArray X₁ rfl hsz hdc (lv_room (by rw [am_catE]; exact hcat)) (X₁.named hnamed) ⟨hf.1, hf.2, am_Pc.at as I _ hT X₁.warmed⟩
  dsimp only [Pt.U, Pt.locs, Pt.cells, Pt.slots] at X' e1 e2 z1 z2 z3 hsteps
  subst z1; subst z2; subst z3
  exact ⟨v', (T.setVm vm₁).calling g' mk' (as.map (am_v sb ad)).toArray, t, U', L, hT, X', hL, e1, e2, hq, fun target hh9 => hstep₁ _ fun acts => by rw [doInvoke_state]; exact hsteps.trans hh9⟩
