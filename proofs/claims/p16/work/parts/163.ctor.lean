/-! A constructor of an exception with a text, whatever its own class file's entry for the constructor above it is: the library's row (Stand.ctorThrowS) asks entry 7, java/util/NoSuchElementException has another. -/
/-- the words: Throwable's, the first constructor's (entry i1 of its class's pool, code b1), those of the classes between, and what the class lays -/
def am_atoms (own : String) (ic i1 : Nat) (b1 : ByteArray) (cls Y : String) (names : List String) : List Cond :=
  Bundle.throwableAtoms ++ (Bundle.throwableSAtoms ++ (Bundle.passSAtoms cls Y i1 b1 ++ (Bundle.chainSAtoms Y names ++
  [.methodLink own ic (Bundle.initS cls), .instantiable cls 6, .selects cls Bundle.tFill0 Bundle.tFill0, .selects cls Bundle.tFill Bundle.tFill,
   .lays cls Bundle.tN "cause" "Ljava/lang/Throwable;", .lays cls Bundle.tN "stackTrace" Bundle.steD, .lays cls Bundle.tN "suppressedExceptions" Bundle.listD, .lays cls Bundle.tN "detailMessage" "Ljava/lang/String;", .lays cls Bundle.tN "backtrace" "Ljava/lang/Object;",
   .isRef (.static Bundle.tN "UNASSIGNED_STACK" Bundle.steD), .isRef (.static Bundle.tN "SUPPRESSED_SENTINEL" Bundle.listD), .fieldLink Bundle.tN 198 Bundle.tN "backtrace" "Ljava/lang/Object;", .lays Bundle.tN Bundle.tN "backtrace" "Ljava/lang/Object;"])))
theorem am_atT {own : String} {ic i1 : Nat} {b1 : ByteArray} {cls Y : String} {names : List String} {w : Cond} (h : w ∈ [Cond.methodLink own ic (Bundle.initS cls), .instantiable cls 6, .selects cls Bundle.tFill0 Bundle.tFill0, .selects cls Bundle.tFill Bundle.tFill,
   .lays cls Bundle.tN "cause" "Ljava/lang/Throwable;", .lays cls Bundle.tN "stackTrace" Bundle.steD, .lays cls Bundle.tN "suppressedExceptions" Bundle.listD, .lays cls Bundle.tN "detailMessage" "Ljava/lang/String;", .lays cls Bundle.tN "backtrace" "Ljava/lang/Object;",
   .isRef (.static Bundle.tN "UNASSIGNED_STACK" Bundle.steD), .isRef (.static Bundle.tN "SUPPRESSED_SENTINEL" Bundle.listD), .fieldLink Bundle.tN 198 Bundle.tN "backtrace" "Ljava/lang/Object;", .lays Bundle.tN Bundle.tN "backtrace" "Ljava/lang/Object;"]) : w ∈ am_atoms own ic i1 b1 cls Y names :=
  List.mem_append_right _ (List.mem_append_right _ (List.mem_append_right _ (List.mem_append_right _ h)))
set_option maxHeartbeats 4000000 in
theorem am_ctor {p : Program} {l : Launch} {e : Env} {R : Room} {s W : State} {m : MethodId} {args : Array Value} {below : List Frame} {meth : Method} {c : Code} {cells slots : Nat} (X : Stand p l e R s m args below meth c W [] cells slots) (hx : p.tables.exec = Jvm.exec) (htr : e.platform.stackTraces = false)
    {own cls Y : String} {names : List String} {ic i1 : Nat} {b1 : ByteArray} (hown : s.vm.findClass own = some m.cls) (hcls : Bundle.fit cls = true) (hY : Bundle.fit Y = true) (hnames : ∀ n ∈ names, Bundle.fit n = true)
    (e0 : decode b1 0 = .ok (.aload_n 0, 1)) (e1 : decode b1 1 = .ok (.aload_n 1, 1)) (e2 : decode b1 2 = .ok (.invokespecial i1, 3)) (e5 : decode b1 5 = .ok (.return_, 1))
    (h : ∀ w ∈ am_atoms own ic i1 b1 cls Y names, w.before args s = true) {a : Addr} {cX : ClassId} {kX : Class} (hfX : s.vm.findClass cls = some cX) (hkX : s.vm.classes[cX]? = some kX) (hcell : W.heap[a]? = some (freshCell cX kX)) (hnew : s.heap.size ≤ a) {msg : Value} (hmsg : msg.isRef = true)
    {g : JFrame} (hg : g.method = m) (hsize : g.locals.size = c.maxLocals) (hlocked : g.locked = none) (hentered : g.entered = []) {rest : List Value} (hstack : g.stack = msg :: .ref a :: .ref a :: rest)
    (d6 : decode c.code g.pc = .ok (.invokespecial ic, 3)) (d9 : decode c.code (g.pc + 3) = .ok (.athrow, 1)) (hout : ∀ x ∈ c.exceptionTable.toList, False)
    (hRf : names.length + 4 < R.frames) (hRl : 2 * g.monitorRoom + ((Value.ref a :: rest).map fun v => v.category).sum + (13 * (names.length + 2) + 42) ≤ R.locals) (hlocks : meth.locks = false) :
    ∃ U : State, Steps p.tables e below (W.setTop g) U ∧ U.status = .running ∧ Ended U below (.threw a) ∧ s.WarmedH U.vm ∧ s.sameButNew ({ U with vm := s.vm } : State) [] cells slots ∧ ∃ ce, U.heap[a]? = some ce ∧ ce.vm = .none ∧ ce.cls = cX := by
  have hpl : e.platform.magicAccessors = ({} : Platform).magicAccessors := by rw [X.admits.platform]
  have hz : ∀ w, w ∈ am_atoms own ic i1 b1 cls Y names → w.holds args s none s [] = true := fun w hw => h w hw
  obtain ⟨T, Z0, L, -, K⟩ := ThrowableC.of_atoms (args := args) (s := s) (pl := e.platform) (by rw [X.admits.platform]) (by rw [X.admits.platform]) hpl (fun w hw => h w (List.mem_append_left _ hw))
  obtain ⟨Z, M, LZ, LM, hnZ⟩ := Init0T.ofS_atoms (args := args) hpl L K (fun w hw => h w (List.mem_append_right _ (List.mem_append_left _ hw)))
  obtain ⟨P1, L1, hm1, hs1⟩ := PassC.ofS_atoms (args := args) (s := s) hpl (X := cls) (Y := Y) (Bundle.fit_spec hcls).1 (Bundle.fit_spec hY).2 e0 e1 e2 e5 (fun w hw => h w (List.mem_append_right _ (List.mem_append_right _ (List.mem_append_left _ hw))))
  obtain ⟨P2, Ps, hlen, L2, hL, hm2, hl2, hps⟩ := Bundle.chainS (args := args) hpl hnZ names Y hY hnames (fun w hw => h w (List.mem_append_right _ (List.mem_append_right _ (List.mem_append_right _ (List.mem_append_left _ hw)))))
  have hl1 : P1.sup = P2.m := Option.some.inj (hs1.symm.trans hm2)
  have hP1 : P1.m.cls = cX := Option.some.inj ((findClass_of_methodNamed hm1).symm.trans hfX)
  obtain ⟨c1, k1, z1, z2, hord, -, -, -⟩ := Cond.instantiable_spec (hz (.instantiable cls 6) (am_atT (by simp)))
  cases Option.some.inj (z1.symm.trans hfX)
  cases Option.some.inj (z2.symm.trans hkX)
  have sel : ∀ {y : MethodName} {i : MethodId}, (Cond.selects cls y y).holds args s none s [] = true → s.methodNamed? y = some i → y.cls ≠ "java/lang/invoke/MethodHandle" ∧ y.cls ≠ "java/lang/invoke/VarHandle" → selectMethod e.platform s.vm cX i = .method i := by
    intro y i w1 w2 w3
    obtain ⟨c2, r2, m2, q1, q2, q3, q4, -⟩ := Cond.selects_spec w1
    cases Option.some.inj (q1.symm.trans hfX)
    cases Option.some.inj (q2.symm.trans (State.methodFound?_of_named w2 w3))
    cases Option.some.inj (q3.symm.trans w2)
    rw [Launch.admits_selectMethod X.admits]
    exact q4
  obtain ⟨cS, hcS, hiS⟩ := K.statics
  obtain ⟨u0, hu0⟩ := Cond.staticRefV K.unassigned L.unassignedStatic L.statics hcS hiS (hz (.isRef (.static Bundle.tN "UNASSIGNED_STACK" Bundle.steD)) (am_atT (by simp)))
  obtain ⟨sn, hsn⟩ := Cond.staticRefV K.sentinel L.sentinelStatic L.statics hcS hiS (hz (.isRef (.static Bundle.tN "SUPPRESSED_SENTINEL" Bundle.listD)) (am_atT (by simp)))
  obtain ⟨cS', hcS', heS, -, hkS⟩ := X.same.2.2.2.2.2 T.aS cS hcS
  have hcSW : W.heap[T.aS]? = some cS' := hcS'
  have hSv : cS'.vm = cS.vm := by rw [heS]
  have hSk : ∀ i : Nat, cS'.slots[i]? = cS.slots[i]? := fun i => hkS i (fun z => by cases z)
  have hSne : T.aS ≠ a := fun z => by
    have y := (Array.getElem?_eq_some_iff.mp hcS).1
    rw [z] at y
    exact Nat.not_lt.mpr hnew y
  have hSu : cS'.vm ≠ .unknown := fun z => by
    rw [hSv] at z
    rw [z] at hiS
    cases hiS
  obtain ⟨ci9, i9, fB, b1', b2', b3', b4', -, b5', b6', b7'⟩ := Cond.ownField (t := .object "java/lang/Object") K.found L.cls (by decide +kernel) (hz (.fieldLink Bundle.tN 198 Bundle.tN "backtrace" "Ljava/lang/Object;") (am_atT (by simp))) (hz (.lays Bundle.tN Bundle.tN "backtrace" "Ljava/lang/Object;") (am_atT (by simp))) e.platform hpl
  obtain ⟨iM, hfM⟩ := K.msg
  obtain ⟨tyC, dC, hdC, hnC⟩ := Cond.laysAt hfX hkX K.cause (hz (.lays cls Bundle.tN "cause" "Ljava/lang/Throwable;") (am_atT (by simp)))
  obtain ⟨tyS, dS, hdS, hnS⟩ := Cond.laysAt hfX hkX K.stack (hz (.lays cls Bundle.tN "stackTrace" Bundle.steD) (am_atT (by simp)))
  obtain ⟨tyP, dP, hdP, hnP⟩ := Cond.laysAt hfX hkX K.supp (hz (.lays cls Bundle.tN "suppressedExceptions" Bundle.listD) (am_atT (by simp)))
  obtain ⟨tyM, dM, hdM, hnM⟩ := Cond.laysAt hfX hkX hfM (hz (.lays cls Bundle.tN "detailMessage" "Ljava/lang/String;") (am_atT (by simp)))
  obtain ⟨tyB, dB, hdB, hnB⟩ := Cond.laysAt hfX hkX b7' (hz (.lays cls Bundle.tN "backtrace" "Ljava/lang/Object;") (am_atT (by simp)))
  have nC := Cond.laysApart hdB hdC hnB hnC (by rw [b5', K.causeName]; decide)
  have nS := Cond.laysApart hdB hdS hnB hnS (by rw [b5', K.stackName]; decide)
  have nP := Cond.laysApart hdB hdP hnB hnP (by rw [b5', K.suppName]; decide)
  have hskip : SkipFacts T e.platform s (fun u => u) u0 ((preparedCellV T.toThrowableT (freshCell cX kX) a u0 sn).withEntry W.cur) := by
    refine ⟨{ ci198 := ci9, i198 := i9, fBack := fB }, ⟨b1', b2', b3', b4'⟩, ?_, fun _ _ => rfl⟩
    have z := fresh_default (c := cX) tyB
    rw [b6'] at z
    simpa [preparedCellV, Cell.setSlot, Cell.withEntry, Array.getElem?_setIfInBounds, nC, nS, nP, nC.symm, nS.symm, nP.symm, defaultValue] using z
  obtain ⟨tm, -, -, -, vm₁, hnT, -, -, -, -, -, -, -, hW₁, st1⟩ := Steps.initColdS (tb := p.tables) (e := e) (below := below) (s := s) (U := W) X.here hx X.warmed hpl hown (t := Bundle.initS cls) rfl rfl (Bundle.fit_spec hcls).2
    (hz (.methodLink own ic (Bundle.initS cls)) (am_atT (by simp))) (h (.instanceMethod (Bundle.initS cls)) (List.mem_append_right _ (List.mem_append_right _ (List.mem_append_left _ (by simp [Bundle.passSAtoms]))))) (bytes := b1) (maxL := 2) (h (.code (Bundle.initS cls) b1 2 none) (List.mem_append_right _ (List.mem_append_right _ (List.mem_append_left _ (by simp [Bundle.passSAtoms])))))
    (f := g) hg (a := a) (msg := msg) (rest := .ref a :: rest) hstack d6
  cases Option.some.inj (hnT.symm.trans hm1)
  obtain ⟨vm₂, X₂, st2⟩ := (X.noted hW₁).ctorMessageOffV hx (g := { g with stack := .ref a :: rest }) hg hsize T L Z LZ M LM (P1 :: P2 :: Ps)
    (fun P hP => by
      rcases List.mem_cons.mp hP with rfl | hP
      · exact L1
      · rcases List.mem_cons.mp hP with rfl | hP
        · exact L2
        · exact hL P hP) ⟨hl1, hl2, hps⟩ (u0 := u0) (sen := sn) (self := a) hmsg (cell := freshCell cX kX) (cellS := cS')
    hcell (fun _ => by simp) (by simp) rfl rfl (sel (hz (.selects cls Bundle.tFill0 Bundle.tFill0) (am_atT (by simp))) K.fill0 (by decide)) (sel (hz (.selects cls Bundle.tFill Bundle.tFill) (am_atT (by simp))) K.fill (by decide))
    hcSW hSne hSu (by rw [hSk]; exact hu0) (by rw [hSk]; exact hsn)
    (Takes.of_laid hkX hord tyC (by rw [K.causeType]; rfl)) (Takes.of_laid hkX hord tyS (by rw [K.stackType]; exact fits_refV_array _ u0)) (Takes.of_laid hkX hord tyP (by rw [K.suppType]; exact fits_refV_object _ sn))
    (Takes.of_laid hkX hord tyM (by rw [K.msgType]; exact fits_refV_object _ ⟨msg, hmsg⟩)) K.objLocals hskip htr [] d6
    (by simp only [List.length_cons, hlen]; omega) (by simp only [List.length_cons, hlen]; exact hRl)
  obtain ⟨hwalk, hrun, hend, hWU, hsm⟩ := X₂.athrowLeaves hx (g := { g with stack := .ref a :: rest, pc := g.pc + 3 }) hg hlocked hentered (fun x z => (hout x z).elim) (a := a) (rest := rest) rfl d9 hlocks
  have hlt : a < ((W.setVm vm₁).setVm vm₂).heap.size := (Array.getElem?_eq_some_iff.mp hcell).1
  refine ⟨_, st1 _ (fun acts => by rw [doInvoke_state]; exact st2 _ hwalk), hrun, hend, hWU, hsm.weaken (fun y hy hlt' => ?_) (Nat.le_refl _) (Nat.le_refl _), _, heapAt_setCell_self (s := (W.setVm vm₁).setVm vm₂) _ hlt, rfl, rfl⟩
  exfalso
  have hb : y.base = a := by
    simp only [List.nil_append, List.mem_cons, List.not_mem_nil, or_false] at hy
    rcases hy with rfl | rfl | rfl | rfl | rfl <;> rfl
  rw [hb] at hlt'
  exact Nat.not_lt.mpr hnew hlt'
