/-! exceptions: a method that throws one, a call from which one comes -/
/-- the state of a walk, seen as if its method were entered there -/
def am_re (s T : State) (m : MethodId) (args : Array Value) (below : List Frame) : State := (T.setVm s.vm).setFrames (.invoking m args :: below)
theorem am_re_fr {p : Program} {l : Launch} {e : Env} {R : Room} {s T : State} {m : MethodId} {args : Array Value} {below : List Frame} {meth : Method} {c : Code} {locs : List Loc} {nc ns : Nat} (X : Stand p l e R s m args below meth c T locs nc ns) : (am_re s T m args below).frames = .invoking m args :: below := by
  obtain ⟨g, hg⟩ := X.frames_eq
  exact State.frames_setFrames _ (State.cur_lt_of_frames (s := T.setVm s.vm) hg)
theorem am_re_same {p : Program} {l : Launch} {e : Env} {R : Room} {s T : State} {m : MethodId} {args : Array Value} {below : List Frame} {meth : Method} {c : Code} {locs : List Loc} {nc ns : Nat} (X : Stand p l e R s m args below meth c T locs nc ns) : (am_re s T m args below).sameButNew (T.setVm s.vm) [] 0 0 := by
  have hd : ((T.setVm s.vm).heap.toList.drop (am_re s T m args below).heap.size) = [] := List.drop_eq_nil_of_le (Nat.le_of_eq (Array.length_toList (xs := T.heap)))
  obtain ⟨g, hg⟩ := X.frames_eq
  have hg' : (T.setVm s.vm).frames = .java g :: below := hg
  obtain ⟨th, hth, -⟩ := State.frames_cons hg'
  refine ⟨?_, Nat.le_refl _, Nat.le_refl _, ?_, ?_, fun a c9 z => ⟨c9, z, rfl, rfl, fun _ _ => rfl⟩⟩
  · unfold am_re
    rw [State.setFrames_setFrames, State.setFrames_self hth]
  · rw [hd]
    rfl
  · rw [hd]
    exact Nat.le_refl _
theorem am_re_stand {p : Program} {l : Launch} {e : Env} {R : Room} {s T : State} {m : MethodId} {args : Array Value} {below : List Frame} {meth : Method} {c : Code} {locs : List Loc} {nc ns k n : Nat} (X : Stand p l e R s m args below meth c T locs nc ns) (hk : nc + k ≤ R.cells) (hn : ns + n ≤ R.slots) :
    Stand p l e { frames := R.frames, cells := k, slots := n, locals := R.locals } (am_re s T m args below) m args below meth c T [] 0 0 := by
  have hF := am_re_fr X
  have e1 : e.platform.stackLimits (am_re s T m args below).me = e.platform.stackLimits s.me := by
    unfold am_re
    rw [State.stackLimits_setFrames]
    exact X.limits
  have e2 : (am_re s T m args below).me.stackBytes = s.me.stackBytes := by
    unfold am_re
    rw [State.stackBytes_setFrames]
    exact X.bytes
  have e3 : (am_re s T m args below).localsInUse = s.localsInUse := by
    rw [State.localsInUse_invoking hF (meth := meth) (c := c) X.method X.code, State.localsInUse_invoking X.frames X.method X.code]
  have z1 := X.heapSize
  have z2 := X.used
  have hroom : (am_re s T m args below).hasRoom e.platform { frames := R.frames, cells := k, slots := n, locals := R.locals } = true := by
    have z := X.room
    simp only [State.hasRoom, Bool.and_eq_true, decide_eq_true_eq] at z ⊢
    obtain ⟨⟨⟨⟨a1, a2, a3, a4, a5, a6⟩, a7⟩, a8⟩, -⟩ := z
    rw [X.frames] at a2 a3
    have b1 : (am_re s T m args below).heap.size = T.heap.size := rfl
    have b2 : (am_re s T m args below).slotsUsed = T.slotsUsed := rfl
    simp only [hF, e1, e2, e3, b1, b2]
    exact ⟨⟨⟨⟨by omega, by omega, by omega, by omega, by omega, a6⟩, by omega⟩, by omega⟩, X.book⟩
  exact ⟨X.admits, X.cas, X.clock, hF, hroom, X.hears, X.method, X.code, X.here, X.tail, X.warmed, X.limits.trans e1.symm, X.bytes.trans e2.symm, am_re_same X⟩
theorem am_kept {s U : State} {k n : Nat} (z : s.sameButNew ({ U with vm := s.vm } : State) [] k n) : s.heap.size ≤ U.heap.size ∧ ∀ q : Nat, q < s.heap.size → U.heap[q]? = s.heap[q]? := by
  obtain ⟨-, z2, -, -, -, z6⟩ := z
  refine ⟨z2, fun q hq => ?_⟩
  obtain ⟨c9, e1, e2, -, e4⟩ := z6 q _ (Array.getElem?_eq_getElem hq)
  have e5 : c9.slots = s.heap[q].slots := Array.ext_getElem? (fun i => e4 i (fun z => by cases z))
  have e6 : c9 = s.heap[q] := by
    rw [e5] at e2
    exact e2
  have e7 : U.heap[q]? = some c9 := e1
  rw [e7, e6, Array.getElem?_eq_getElem hq]
/-- throw new E("text"): the exception is a cell beside the labelled ones, and these stay -/
theorem am_throw {κ : am_K} {μ : am_N} {nc ns pc pi : Nat} {ls : List (Nat × Value)} {st : List Value} {h : List am_E} {cls text : String} {ik is ic i1 : Nat} {b1 : ByteArray}
    (htr : (am_l κ).stackTraces = false) (hcls : Bundle.fit cls = true) (e0 : decode b1 0 = .ok (.aload_n 0, 1)) (e1 : decode b1 1 = .ok (.aload_n 1, 1)) (e2 : decode b1 2 = .ok (.invokespecial i1, 3)) (e5 : decode b1 5 = .ok (.return_, 1)) (w1 : Cond.classLink (am_own μ) ik cls ∈ am_ws μ) (w2 : Cond.initialized cls ∈ am_ws μ) (hg : ∀ w ∈ am_ws μ, goodWord w = true) (hstr : ((am_own μ, is, text) : String × Nat × String) ∈ am_SL κ)
    (hat : ∀ w ∈ am_atoms (am_own μ) ic i1 b1 cls "java/lang/RuntimeException" ["java/lang/Exception"], w ∈ am_ws μ ∨ w ∈ am_NW κ ∨ w ∈ am_hw) (htb : am_tb μ = [])
    (d0 : decode (am_cc μ) pc = .ok (.new ik, 3)) (d3 : decode (am_cc μ) (pc + 3) = .ok (.dup, 1)) (d4 : (decode (am_cc μ) (pc + 4) = .ok (.ldc is, 2) ∧ pi = pc + 6) ∨ (decode (am_cc μ) (pc + 4) = .ok (.ldc_w is, 3) ∧ pi = pc + 7)) (d6 : decode (am_cc μ) pi = .ok (.invokespecial ic, 3)) (d9 : decode (am_cc μ) (pi + 3) = .ok (.athrow, 1))
    (hR : 5 < (am_R μ).frames) (hR2 : (st.map fun v => v.category).sum + 82 ≤ (am_R μ).locals) (hc : nc + 1 ≤ (am_R μ).cells) (hs : ns + 6 ≤ (am_R μ).slots) :
    am_G κ μ (.inr cls) h nc ns pc ls st h := by
  intro p e s m args below meth c H locs A sb ad0 ad lv I hlv T hT X
  have htr' : e.platform.stackTraces = false := (show e.platform.stackTraces = (am_l κ).stackTraces by rw [X.admits.platform]).trans htr
  obtain ⟨S, a1, hTb, hZ, hA, hX, hpre, hlen, hP, hD, hS⟩ := I
  have hx := S.1
  have hb := S.2.1
  have ht := S.2.2.2.2
  have Y := am_re_stand X hc hs
  have hF := am_re_fr X
  have hW0 : s.WarmedH (am_re s T m args below).vm := State.WarmedH.refl s
  have hheap : (am_re s T m args below).heap = H := hT
  have good : ∀ w ∈ am_ws μ, w.before args (am_re s T m args below) = true := fun w hw => word_at hW0 (good_of_word (hg w hw)) (ht w hw)
  have hTs : am_T (am_D κ) (am_dA κ) (am_cl κ) (am_NW κ) (am_SL κ) (am_re s T m args below) := am_T.warm hW0 hTb
  have hlat : am_later A s (am_re s T m args below) := ⟨hW0, by rw [hheap]; exact hS.1, fun q z1 z2 => by rw [hheap]; exact hS.2.1 q z1 z2⟩
  have hall : ∀ w ∈ am_atoms (am_own μ) ic i1 b1 cls "java/lang/RuntimeException" ["java/lang/Exception"], w.before args (am_re s T m args below) = true := by
    intro w hw
    rcases hat w hw with z | z | z
    · exact good w z
    · obtain ⟨y1, y2⟩ := hTs.2.1 w z
      have y3 : w.onTables = true := by
        cases w <;> first | rfl | (simp only [am_nest, Bool.and_eq_true] at y1; exact y1.1)
      exact va_Nw.use y3 y2
    · exact hZ _ hlat w z args
  have hown : (am_re s T m args below).vm.findClass (am_own μ) = some m.cls := S.2.2.2.1
  have hins : (Cond.instantiable cls 6).before args (am_re s T m args below) = true := hall _ (am_atT (by simp))
  obtain ⟨sa, hsa⟩ := hTs.2.2 _ hstr
  obtain ⟨vm₁, cX, kX, hfX, hkX, -, -, X₁, st1⟩ := Y.newCold hx hown (good _ w1) hins (good _ w2) (g := F0 m pc lv (st.map (am_v sb ad))) rfl (by rw [hb]; exact d0) (Nat.le_refl _) (Nat.le_refl _)
  generalize hT1 : (T.setVm vm₁).pushCell { cls := cX, slots := kX.instanceTypes.map defaultValue, vm := .none } = T1 at X₁ st1
  have hcell : T1.heap[T.heap.size]? = some (freshCell cX kX) := by rw [← hT1]; exact State.heap_pushCell_size _ _
  have hsz : lv.size = c.maxLocals := hlv.1.trans S.2.2.1.symm
  have hcat : (((Value.ref T.heap.size) :: st.map (am_v sb ad)).map fun v => v.category).sum = 1 + (st.map fun v => v.category).sum := by
    rw [List.map_cons, List.sum_cons, am_catE]
    rfl
  obtain ⟨U, hsteps, hrun, hend, hWm, hsame, ce, hce, hcv, hcc⟩ := am_ctor X₁ hx htr' (own := am_own μ) (cls := cls) (Y := "java/lang/RuntimeException") (names := ["java/lang/Exception"]) (ic := ic) hown hcls (by decide +kernel) (by decide +kernel) e0 e1 e2 e5 hall hfX hkX hcell (by rw [hheap, hT]; exact Nat.le_refl _) (msg := .ref sa) rfl
    (g := { method := m, pc := pi, locals := lv, stack := .ref sa :: .ref T.heap.size :: .ref T.heap.size :: st.map (am_v sb ad), locked := none }) rfl hsz rfl rfl (rest := st.map (am_v sb ad)) rfl
    (by rw [hb]; exact d6) (by rw [hb]; exact d9) (fun x z => by rw [a1.2.2.2, htb] at z; cases z) hR (by show 2 * 0 + ((Value.ref T.heap.size :: st.map (am_v sb ad)).map fun v => v.category).sum + (13 * 3 + 42) ≤ (am_R μ).locals; rw [hcat]; omega) a1.2.1
  obtain ⟨f1, f2⟩ := am_kept hsame
  rw [hheap] at f1 f2
  have hWs : s.WarmedH U.vm := hWm
  have hall2 : s.sameButNew ({ U with vm := s.vm } : State) locs (am_R μ).cells (am_R μ).slots := by
    have z2 : (T.setVm s.vm).sameButNew ({ U with vm := s.vm } : State) [] (0 + 1) (0 + 6) := by
      obtain ⟨e1, e2⟩ := hsame
      unfold am_re at e1
      rw [State.setFrames_setFrames] at e1
      exact ⟨e1, e2⟩
    have z3 := X.same.trans z2
    rw [List.append_nil] at z3
    exact z3.mono hc hs
  have hkeep : ∀ (j : Nat) (q : Nat × va_E), (am_w (am_dA κ) sb ad h)[j]? = some q → U.heap[q.1]? = H[q.1]? := fun j q hq => f2 q.1 (hP j q hq).lt
  refine ⟨U, ?_, .threw T.heap.size, hrun, hend, ⟨ad, ⟨T.heap.size, ce, rfl, hce, hcv, hcc ▸ hfX⟩, hpre, hlen, hP.kept hkeep, hD⟩, ⟨Nat.le_trans hS.1 f1, fun q z1 z2 => ?_⟩, locs, ⟨hWs, hall2⟩, hS.2.2⟩
  · refine st1 _ ?_
    show Steps p.tables e below (T1.setTop { method := m, pc := pc + 3, locals := lv, stack := .ref T.heap.size :: st.map (am_v sb ad), locked := none }) _
    have d3' : decode c.code (pc + 3) = .ok (.dup, 1) := by rw [hb]; exact d3
    jvm_step X₁.here [X₁.here.top, hx, d3', Value.category]
    rcases d4 with ⟨d4, rfl⟩ | ⟨d4, rfl⟩
    · exact X₁.ldcString hx hown hsa.1 hsa.2 (g := { method := m, pc := pc + 4, locals := lv, stack := .ref T.heap.size :: .ref T.heap.size :: st.map (am_v sb ad), locked := none }) rfl (by rw [hb]; exact d4) _ hsteps
    · exact X₁.ldcStringW hx hown hsa.1 hsa.2 (g := { method := m, pc := pc + 4, locals := lv, stack := .ref T.heap.size :: .ref T.heap.size :: st.map (am_v sb ad), locked := none }) rfl (by rw [hb]; exact d4) _ hsteps
  · rw [f2 q (Nat.lt_of_lt_of_le z1 hS.1)]
    exact hS.2.1 q z1 z2
/-- a call of a method that throws: what stands over the caller's frame then -/
theorem am_thrown {κ : am_K} {μ : am_N} {y : MethodName} {ws : List Cond} {rm : Room} {as : List Value} {h h2 : List am_E} {E : String} {bytes : ByteArray} {maxL len nc ns : Nat} {ret : Option FieldType} {p : Program} {e : Env} {s T : State} {m mk : MethodId} {args : Array Value} {below : List Frame} {meth : Method} {c : Code} {H : Heap} {locs : List Loc} {A : Nat → Prop} {sb : Nat} {ad0 ad : List Nat} {g : JFrame} {ig : Instr}
    (I : am_I κ μ p s m args meth c H locs A sb ad0 ad h) (X : Stand p (am_l κ) e (am_R μ) s m args below meth c T locs nc ns) (hT : T.heap = H) (hM : am_M κ y ws rm as h (.inr E) h2)
    (hg : g.method = m) (hsize : g.locals.size = c.maxLocals) (hdg : decode c.code g.pc = .ok (ig, len)) (hW : 2 * g.monitorRoom + (g.stack.map fun v => v.category).sum ≤ 8) (hn : T.methodNamed? y = some mk)
    (hws : ∀ w ∈ ws, ∀ (a' : Array Value) (U : State), s.WarmedH U.vm → w.before a' U = true) (hcode : Cond.code y bytes maxL ret ∈ ws) (hini : (Cond.initialized y.cls).before args s = true)
    (hR : rm.frames + 1 ≤ (am_R μ).frames ∧ 8 + (maxL + 11) + rm.locals ≤ (am_R μ).locals) (hf : nc + rm.cells ≤ (am_R μ).cells ∧ ns + rm.slots ≤ (am_R μ).slots) (hl : h2.length = h.length) :
    ∃ (q : Addr) (ce : Cell) (L : List Loc) (B : State), Stand p (am_l κ) e (am_R μ) s m args below meth c B (locs ++ L) (nc + rm.cells) (ns + rm.slots) ∧ am_I κ μ p s m args meth c B.heap (locs ++ L) A sb ad0 ad h2 ∧ B.heap[q]? = some ce ∧ ce.vm = .none ∧ s.vm.findClass E = some ce.cls ∧
      Steps p.tables e below (doInvoke e (T.setTop g) [] mk (as.map (am_v sb ad)).toArray).1 ((B.setTop g).pushFrame (.throwing q)) := by
  have hlen : ad.length = h.length := I.2.2.2.2.2.2.2.1
  have w1 : (headSpec ws rm).pre.before (as.map (am_v sb ad)).toArray T = true := atoms_intro (fun w z => hws w z _ _ X.warmed)
  have w2 : (Cond.code y bytes maxL ret).before (as.map (am_v sb ad)).toArray T = true := hws _ hcode _ _ X.warmed
  have w3 : (Cond.initialized y.cls).before (as.map (am_v sb ad)).toArray T = true := word_at X.warmed (Or.inl rfl) hini
  obtain ⟨methY, cY, hmY, hcY, -, hlY, -, -, -, -⟩ := Cond.code_spec hn w2
  obtain ⟨kY, hkY, -⟩ := className_of_methodNamed hn
  have hiY : kY.init = .initialized := Cond.initialized_spec (findClass_of_methodNamed hn) hkY w3
  have hAt : At T g.method c below := by rw [hg]; exact X.here
  have happ : (headSpec ws rm).appliesLoose y e.platform (T.calling g mk (as.map (am_v sb ad)).toArray) = true :=
    Spec.appliesLoose_calling (g := g) hAt hdg hn hkY hiY (X.room_calling (g := g) (R' := (headSpec ws rm).room) hsize hmY hcY hR.1 (by rw [hlY]; have := hR.2; show _ + rm.locals ≤ _; omega) hf.1 hf.2) w1
  obtain ⟨mid, hmid⟩ := hAt.above
  have hfr : (T.setTop g).frames = (.java g :: mid) ++ below := by rw [State.frames_setTop' g hAt.top, hmid]; rfl
  obtain ⟨oc, t, hsteps, -, hend, hq⟩ := Steps.callFree (hM sb ad H.size hlen) p X.admits X.cas X.clock (acts := []) hfr happ (am_Pc.blind _ _ _ _ (am_Pc.at as I T hT X.warmed)) trivial
  obtain ⟨⟨ad', ⟨q, ce, rfl, hce, hcv, hcl⟩, hB⟩, hF, L, ⟨hWm, hsm⟩, hL⟩ := hq
  have had : ad' = ad := am_same hB.1 hlen hB.2.1 hl
  subst had
  rw [State.frames_setTop' g hAt.top] at hend
  have hft : t.frames = .throwing q :: .java g :: T.frames.tail := hend
  obtain ⟨g₀, hg0⟩ := Option.isSome_iff_exists.mp hAt.top
  obtain ⟨r, hr⟩ := State.topJava?_eq_some.mp hg0
  obtain ⟨th, hth, -⟩ := State.frames_cons hr
  generalize hBd : (({ T with heap := t.heap, slotsUsed := t.slotsUsed } : State).setVm t.vm) = B
  have hrB : B.frames = .java g₀ :: r := by rw [← hBd]; exact hr
  have hWT : T.WarmedH t.vm := hWm
  have hsame : T.sameButNew ({ T with heap := t.heap, slotsUsed := t.slotsUsed } : State) L rm.cells rm.slots := by
    obtain ⟨-, z⟩ := hsm
    refine ⟨?_, z⟩
    show ({ T with heap := t.heap, slotsUsed := t.slotsUsed } : State) = { T.setFrames T.frames with heap := t.heap, slotsUsed := t.slotsUsed }
    rw [State.setFrames_self hth]
  have ht : t = (B.setTop g).pushFrame (.throwing q) := by
    have e1 := congrArg (fun z : State => z.setVm t.vm) hsm.1
    have e2 : t = ({ (T.calling g mk (as.map (am_v sb ad')).toArray).setFrames t.frames with heap := t.heap, slotsUsed := t.slotsUsed } : State).setVm t.vm := e1
    refine e2.trans ?_
    rw [State.pushFrame, State.frames_setTop _ hrB, State.setTop_of_frames _ hrB, State.setFrames_setFrames, ← hBd, State.calling_eq hAt.top, State.setFrames_setFrames]
    show (({ T.setFrames t.frames with heap := t.heap, slotsUsed := t.slotsUsed } : State)).setVm t.vm = _
    rw [hft, hr]
    rfl
  have I' : am_I κ μ p s m args meth c t.heap (locs ++ L) A sb ad0 ad' h2 := I.back (st₀ := T.calling g mk (as.map (am_v sb ad')).toArray) hT hL hB hF
  have hBh : B.heap = t.heap := by rw [← hBd]; rfl
  refine ⟨q, ce, L, B, ?_, by rw [hBh]; exact I', by rw [hBh]; exact hce, hcv, ?_, ht ▸ hsteps⟩
  · subst hg
    rw [← hBd]
    exact ⟨X.admits, X.cas, X.clock, X.frames, X.room, X.hears, X.method, X.code, (X.here.setHeapUsed t.heap t.slotsUsed).setVm hWT.alike, X.tail, State.WarmedH.trans X.warmed hWT, X.limits, X.bytes, X.same.trans (hsame.setVm s.vm)⟩
  · have z : T.vm.findClass E = some ce.cls := hcl
    rw [X.warmed.alike.findClass] at z
    exact z
theorem g_callVx {κ : am_K} {μ : am_N} {o1 : am_O} {h1 : List am_E} {nc ns pc : Nat} {ls : List (Nat × Value)} {stk : List Value} {h h2 : List am_E} {E : String} {idx ci q0 N maxL : Nat} {y : MethodName} {bytes : ByteArray} {ret : Option FieldType} {ws : List Cond} {rm : Room} {T : u_T} {fs : List Value}
    (as st : List Value) (d : decode (am_cc μ) pc = .ok (.invokevirtual idx, 3)) (hM : am_M κ y ws rm (.ref q0 :: as) h (.inr E) h2) (hG : GoodIn (am_ws μ) ws) (hcode : Cond.code y bytes maxL ret ∈ ws) (w1 : Cond.methodLink (am_own μ) idx y ∈ am_ws μ ∨ ∃ host, Cond.methodLinkNest (am_own μ) idx y host ∈ am_NW κ) (w2 : Cond.instanceMethod y ∈ am_ws μ) (w3 : Cond.selects y.cls y y ∈ am_ws μ) (w4 : Cond.initialized y.cls ∈ am_ws μ)
    (hd : y.cls ≠ "java/lang/invoke/MethodHandle" ∧ y.cls ≠ "java/lang/invoke/VarHandle" ∧ (parseMethodDescriptor y.desc).map (fun d => d.parameters.length) = some as.length) (hR : rm.frames + 1 ≤ (am_R μ).frames ∧ 8 + (maxL + 11) + rm.locals ≤ (am_R μ).locals) (hf : nc + rm.cells ≤ (am_R μ).cells ∧ ns + rm.slots ≤ (am_R μ).slots)
    (hcl : (am_cl κ)[ci]? = some (y.cls, T, N)) (he : h[q0]? = some (.inr (ci, fs))) (hst : stk = as.reverse ++ .ref q0 :: st) (hcat : (st.map fun v => v.category).sum ≤ 8) (hl : h2.length = h.length)
    (kx : am_GX κ μ o1 h1 (nc + rm.cells) (ns + rm.slots) pc ls st h2 E) : am_G κ μ o1 h1 nc ns pc ls stk h := by
  intro p e s m args below meth c H locs A sb ad0 ad lv I hlv Tt hT X
  subst hst
  rw [am_revmap]
  obtain ⟨cellB, hcellB, hobj, hclsB⟩ := am_recv I hcl he
  have ht := I.1.2.2.2.2
  have hws : ∀ w ∈ ws, ∀ (a' : Array Value) (U : State), s.WarmedH U.vm → w.before a' U = true := pay_in ht hG
  have hcd : (Cond.code y bytes maxL ret).before args s = true := ht _ (hG _ hcode).1
  obtain ⟨mk, methM, hnamed, hmethM, hstM, habM⟩ := Cond.instanceMethod_spec (ht _ w2)
  obtain ⟨methM', cM, hmethM', -, -, -, -, -, -, hsigM⟩ := Cond.code_spec hnamed hcd
  cases hmethM.symm.trans hmethM'
  obtain ⟨c2, r2, m2, q1, q2, q3, q4, kP, hkP, hkPi⟩ := Cond.selects_spec (ht _ w3)
  cases hclsB.symm.trans q1
  cases (State.methodFound?_of_named hnamed ⟨hd.1, hd.2.1⟩).symm.trans q2
  cases hnamed.symm.trans q3
  have hselP : selectMethod e.platform s.vm cellB.cls mk = .method mk := by rw [Launch.admits_selectMethod X.admits]; exact q4
  have hpar : (as.map (am_v sb ad)).length = methM.sig.parameters.length := by
    have z := hd.2.2
    rw [hsigM] at z
    rw [List.length_map]
    exact (Option.some.inj z).symm
  have hsz : lv.size = c.maxLocals := hlv.1.trans I.1.2.2.1.symm
  have hdc : decode c.code pc = .ok (.invokevirtual idx, 3) := by rw [I.1.2.1]; exact d
  have fin : ∀ (vm₁ : Vm), Stand p (am_l κ) e (am_R μ) s m args below meth c (Tt.setVm vm₁) locs nc ns → ∃ t, Steps p.tables e below (doInvoke e ((Tt.setVm vm₁).setTop (F0 m pc lv (st.map (am_v sb ad)))) [] mk ((Value.ref q0 :: as).map (am_v sb ad)).toArray).1 t ∧ am_MQ κ below sb ad0 A (am_R μ) o1 h1 args s t := by
    intro vm₁ X₁
    obtain ⟨q, ce, L, B, XB, IB, z1, z2, z3, go⟩ := am_thrown (bytes := bytes) (maxL := maxL) (ret := ret) (g := F0 m pc lv (st.map (am_v sb ad))) (as := .ref q0 :: as) I X₁ hT hM rfl hsz hdc (lv_room (by rw [am_catE]; exact hcat)) (X₁.named hnamed) hws hcode (ht _ w4) hR hf hl
    obtain ⟨t, a1, b1⟩ := kx p e s m args below meth c B.heap (locs ++ L) A sb ad0 ad lv ce q IB hlv z1 z2 z3 B rfl XB
    exact ⟨t, go.trans a1, b1⟩
  rcases w1 with w1 | ⟨host, w1⟩
  · obtain ⟨vm₁, X₁, hstep⟩ := X.invokevirtual I.1.1 I.1.2.2.2.1 (ht _ w1) hnamed hmethM hstM hkP hkPi ⟨hd.1, hd.2.1⟩ (a := ad.getD q0 sb) (cell := cellB) (by rw [hT]; exact hcellB)
      (fun z zz => by rw [zz] at hobj; cases hobj) hselP hmethM habM hkP hkPi (g := F0 m pc lv ((as.map (am_v sb ad)).reverse ++ .ref (ad.getD q0 sb) :: st.map (am_v sb ad))) rfl (argsL := as.map (am_v sb ad)) (rest := st.map (am_v sb ad)) hpar rfl hdc
    obtain ⟨t, a1, b1⟩ := fin vm₁ X₁
    exact ⟨t, hstep _ (fun acts => by rw [doInvoke_state]; exact a1), b1⟩
  · obtain ⟨vm₁, X₁, hstep⟩ := X.invokevirtualNest I.1.1 I.1.2.2.2.1 (va_Nw.use rfl (I.2.2.1.2.1 _ w1).2) hnamed hmethM hstM hkP hkPi ⟨hd.1, hd.2.1⟩ (a := ad.getD q0 sb) (cell := cellB) (by rw [hT]; exact hcellB)
      (fun z zz => by rw [zz] at hobj; cases hobj) hselP hmethM habM hkP hkPi (g := F0 m pc lv ((as.map (am_v sb ad)).reverse ++ .ref (ad.getD q0 sb) :: st.map (am_v sb ad))) rfl (argsL := as.map (am_v sb ad)) (rest := st.map (am_v sb ad)) hpar rfl hdc
    obtain ⟨t, a1, b1⟩ := fin vm₁ X₁
    exact ⟨t, hstep _ (fun acts => by rw [doInvoke_state]; exact a1), b1⟩
