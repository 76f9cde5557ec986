/-! returns, calls, exceptions -/
theorem am_mono {p : Program} {l : Launch} {e : Env} {R : Room} {s : State} {m : MethodId} {args : Array Value} {below : List Frame} {meth : Method} {c : Code} {H : Heap} {locs : List Loc} {cells slots : Nat} {Q Q' : State → Prop} {g : JFrame} (hq : ∀ t, Q t → Q' t)
    (k : W p l e R s m args below meth c H locs cells slots Q g) : W p l e R s m args below meth c H locs cells slots Q' g := by
  intro T hT X
  obtain ⟨t, a, b⟩ := k T hT X
  exact ⟨t, a, hq t b⟩
theorem am_loc {κ : am_K} {μ : am_N} {p : Program} {s : State} {m : MethodId} {args : Array Value} {meth : Method} {c : Code} {H : Heap} {locs : List Loc} {A : Nat → Prop} {sb : Nat} {ad0 ad : List Nat} {h : List am_E}
    (I : am_I κ μ p s m args meth c H locs A sb ad0 ad h) : va_S A s.heap H locs := I.2.2.2.2.2.2.2.2.2.2
/-- what the kit's return rows ask -/
def am_Qr (κ : am_K) (sb : Nat) (ad0 : List Nat) (A : Nat → Prop) (v : Option Value) (h : List am_E) : Array Value → State → Outcome → State → Prop := fun _ s oc t =>
  (∃ ad : List Nat, am_oc sb ad (.inl v) oc s t ∧ am_B κ sb ad0 A h ad t) ∧ va_F A s t
theorem am_end {κ : am_K} {μ : am_N} {p : Program} {s : State} {m : MethodId} {args : Array Value} {meth : Method} {c : Code} {H : Heap} {locs : List Loc} {A : Nat → Prop} {sb : Nat} {ad0 ad : List Nat} {h : List am_E} {v : Option Value}
    (I : am_I κ μ p s m args meth c H locs A sb ad0 ad h) : ∀ t : State, t.heap = H → s.WarmedH t.vm → am_Qr κ sb ad0 A v h args s (.returned (v.map (am_v sb ad))) t := by
  intro t ht _
  obtain ⟨-, -, -, -, -, -, hpre, hlen, hP, hD, hS⟩ := I
  exact ⟨⟨ad, rfl, hpre, hlen, by rw [ht]; exact hP, hD⟩, hS.F ht⟩
theorem am_fin {κ : am_K} {below : List Frame} {sb : Nat} {ad0 : List Nat} {A : Nat → Prop} {rm : Room} {v : Option Value} {h : List am_E} {a : Array Value} {s : State} : ∀ t, MQ below (am_Qr κ sb ad0 A v h) a s rm.cells rm.slots A t → am_MQ κ below sb ad0 A rm (.inl v) h a s t := by
  rintro t ⟨oc, h1, h2, ⟨h3, h4⟩, L, ⟨-, h5, h6⟩, h7⟩
  exact ⟨oc, h1, h2, h3, h4, L, ⟨h5, h6⟩, h7⟩
theorem g_iret {κ : am_K} {μ : am_N} {nc ns pc : Nat} {ls : List (Nat × Value)} {h : List am_E} {v : Int32}
    (d : decode (am_cc μ) pc = .ok (.ireturn, 1)) (hr : am_rt μ = some .int) (hc : nc ≤ (am_R μ).cells) (hs : ns ≤ (am_R μ).slots) : am_G κ μ (.inl (some (.int v))) h nc ns pc ls [.int v] h := by
  intro p e s m args below meth c H locs A sb ad0 ad lv I hlv
  refine W.widen hc hs (am_mono am_fin ?_)
  exact W.iret (v := v) I.1.1 I.1.2.1 (I.2.1.1.trans hr) (am_end (v := some (.int v)) I) (am_loc I).2.2 d I.2.1.2.1
theorem g_zret {κ : am_K} {μ : am_N} {nc ns pc : Nat} {ls : List (Nat × Value)} {h : List am_E} {v : Int32} {ty : FieldType}
    (d : decode (am_cc μ) pc = .ok (.ireturn, 1)) (hr : am_rt μ = some ty) (hn : narrow ty (.int v) = .int v) (hc : nc ≤ (am_R μ).cells) (hs : ns ≤ (am_R μ).slots) : am_G κ μ (.inl (some (.int v))) h nc ns pc ls [.int v] h := by
  intro p e s m args below meth c H locs A sb ad0 ad lv I hlv
  refine W.widen hc hs (am_mono am_fin ?_)
  exact W.zret (v := v) I.1.1 I.1.2.1 (I.2.1.1.trans hr) hn (am_end (v := some (.int v)) I) (am_loc I).2.2 d I.2.1.2.1
theorem g_lret {κ : am_K} {μ : am_N} {nc ns pc : Nat} {ls : List (Nat × Value)} {h : List am_E} {v : Int64}
    (d : decode (am_cc μ) pc = .ok (.lreturn, 1)) (hr : am_rt μ = some .long) (hc : nc ≤ (am_R μ).cells) (hs : ns ≤ (am_R μ).slots) : am_G κ μ (.inl (some (.long v))) h nc ns pc ls [.long v] h := by
  intro p e s m args below meth c H locs A sb ad0 ad lv I hlv
  refine W.widen hc hs (am_mono am_fin ?_)
  exact W.lret (v := v) I.1.1 I.1.2.1 (I.2.1.1.trans hr) (am_end (v := some (.long v)) I) (am_loc I).2.2 d I.2.1.2.1
theorem g_vret {κ : am_K} {μ : am_N} {nc ns pc : Nat} {ls : List (Nat × Value)} {h : List am_E}
    (d : decode (am_cc μ) pc = .ok (.return_, 1)) (hr : am_rt μ = none) (hc : nc ≤ (am_R μ).cells) (hs : ns ≤ (am_R μ).slots) : am_G κ μ (.inl none) h nc ns pc ls [] h := by
  intro p e s m args below meth c H locs A sb ad0 ad lv I hlv
  refine W.widen hc hs (am_mono am_fin ?_)
  exact W.vret I.1.1 I.1.2.1 (I.2.1.1.trans hr) (am_end (v := none) I) (am_loc I).2.2 d I.2.1.2.1
/-- an exception that no handler of this method takes -/
theorem g_out {κ : am_K} {μ : am_N} {nc ns pc : Nat} {ls : List (Nat × Value)} {st : List Value} {h : List am_E} {E : String}
    (ht : am_tb μ = []) (hc : nc ≤ (am_R μ).cells) (hs : ns ≤ (am_R μ).slots) : am_GX κ μ (.inr E) h nc ns pc ls st h E := by
  intro p e s m args below meth c H locs A sb ad0 ad lv ce q I hlv hce hcv hcl T hT X
  obtain ⟨-, a1, -, -, -, -, hpre, hlen, hP, hD, hS⟩ := I
  obtain ⟨st1, hrun, hend, hW, hsm⟩ := X.leaveThrown q (g := F0 m pc lv (st.map (am_v sb ad))) rfl rfl rfl (fun x hx => by rw [a1.2.2.2, ht] at hx; cases hx) a1.2.1
  have hh : (T.setFrames (.throwing q :: below)).heap = H := hT
  exact ⟨_, st1, .threw q, hrun, hend, ⟨ad, ⟨q, ce, rfl, by rw [hh]; exact hce, hcv, hcl⟩, hpre, hlen, by rw [hh]; exact hP, hD⟩, hS.F hh, locs, ⟨hW, hsm.mono hc hs⟩, hS.2.2⟩
theorem am_mapO (f : Value → Value) (v : Option Value) (st : List Value) : (v.map f).toList ++ st.map f = (v.toList ++ st).map f := by
  cases v <;> simp
/-- a contract whose method returns, as the kit's calls take it -/
theorem am_met {κ : am_K} {y : MethodName} {ws : List Cond} {rm : Room} {as : List Value} {h h2 : List am_E} {v : Option Value} (hM : am_M κ y ws rm as h (.inl v) h2) (sb : Nat) (ad : List Nat) (sz : Nat) (hl : ad.length = h.length) :
    Met (am_l κ) y ws rm (am_Pc κ sb ad sz as h) (am_Qr κ sb ad (am_A ad sz) v h2) rm.cells rm.slots (am_A ad sz) := by
  refine MetFree.mono (hM sb ad sz hl) (fun _ _ z => z) (fun _ _ _ _ _ z => z) (fun a st oc t _ z => ?_)
  obtain ⟨⟨ad', h1, h3⟩, h4, L, ⟨h5, h6⟩, h7⟩ := z
  exact ⟨⟨⟨ad', h1, h3⟩, h4⟩, L, ⟨⟨_, h1⟩, h5, h6⟩, h7⟩
/-- behind a call: the cells that came back -/
theorem am_I.back {κ : am_K} {μ : am_N} {p : Program} {s : State} {m : MethodId} {args : Array Value} {meth : Method} {c : Code} {H : Heap} {locs L : List Loc} {A : Nat → Prop} {sb : Nat} {ad0 ad ad' : List Nat} {h h2 : List am_E} {t st₀ : State}
    (I : am_I κ μ p s m args meth c H locs A sb ad0 ad h) (h0 : st₀.heap = H) (hL : ∀ q ∈ L, am_A ad H.size q.base) (hB : am_B κ sb ad (am_A ad H.size) h2 ad' t) (hF : va_F (am_A ad H.size) st₀ t) :
    am_I κ μ p s m args meth c t.heap (locs ++ L) A sb ad0 ad' h2 := by
  have hA := am_free I
  obtain ⟨S, a1, hT, hZ, hN, hX, hpre, hlen, hP, hD, hS⟩ := I
  obtain ⟨b1, b2, b3, b4⟩ := hB
  obtain ⟨f1, f2⟩ := hF
  rw [h0] at f1 f2
  refine ⟨S, a1, hT, hZ, hN, hX, hpre.trans b1, b2, b3, b4.weaken (fun _ q _ z => hA q.1 z), Nat.le_trans hS.1 f1, fun q z1 z2 => ?_, fun q hq => ?_⟩
  · rw [f2 q (Nat.lt_of_lt_of_le z1 hS.1) (fun z => z2 (hA q z))]
    exact hS.2.1 q z1 z2
  · rcases List.mem_append.mp hq with z | z
    · exact hS.2.2 q z
    · exact hA _ (hL q z)
theorem am_same {ad ad' : List Nat} {a b : Nat} (h1 : ad <+: ad') (h2 : ad.length = a) (h3 : ad'.length = b) (h4 : b = a) : ad' = ad := (h1.eq_of_length (by rw [h2, h3, h4])).symm
theorem am_run {κ : am_K} {μ : am_N} {o1 : am_O} {h1 : List am_E} {nc ns pc n mc ms : Nat} {ls : List (Nat × Value)} {st stk : List Value} {h h2 : List am_E} {v : Option Value} {p : Program} {e : Env} {s : State} {m : MethodId} {args a' : Array Value} {below : List Frame} {meth : Method} {c : Code} {H : Heap} {locs : List Loc} {A : Nat → Prop} {sb : Nat} {ad0 ad : List Nat} {lv : Array Slot}
    (I : am_I κ μ p s m args meth c H locs A sb ad0 ad h) (hlv : lv_has lv (am_nL μ) (am_ls sb ad ls)) (en : pc + 3 = n)
    (hr : va_Run p (am_l κ) e (am_R μ) s m args below meth c H locs nc ns mc ms (F0 m pc lv stk) (st.map (am_v sb ad)) (am_Qr κ sb ad (am_A ad H.size) v h2 a') (am_A ad H.size)) (hl : h2.length = h.length)
    (kr : am_G κ μ o1 h1 (nc + mc) (ns + ms) n ls (v.toList ++ st) h2) :
    W p (am_l κ) e (am_R μ) s m args below meth c H locs nc ns (am_MQ κ below sb ad0 A (am_R μ) o1 h1 args s) (F0 m pc lv stk) := by
  subst en
  intro T hT X
  obtain ⟨v', st₀, t, T', L, h0, X', hL, e1, e2, ⟨⟨ad', ho, hB⟩, hFr⟩, go⟩ := hr T hT X
  have had : ad' = ad := am_same hB.1 I.2.2.2.2.2.2.2.1 hB.2.1 hl
  subst had
  cases ho
  have I' := I.back h0 hL hB hFr
  rw [← e1] at I'
  obtain ⟨t2, a1, b1⟩ := kr p e s m args below meth c T'.heap (locs ++ L) A sb ad0 ad' lv I' hlv T' rfl X'
  rw [← am_mapO] at a1
  exact ⟨t2, go t2 a1, b1⟩
theorem am_recv {κ : am_K} {μ : am_N} {p : Program} {s : State} {m : MethodId} {args : Array Value} {meth : Method} {c : Code} {H : Heap} {locs : List Loc} {A : Nat → Prop} {sb : Nat} {ad0 ad : List Nat} {h : List am_E} {ci q0 N : Nat} {C : String} {T : u_T} {fs : List Value}
    (I : am_I κ μ p s m args meth c H locs A sb ad0 ad h) (hcl : (am_cl κ)[ci]? = some (C, T, N)) (he : h[q0]? = some (.inr (ci, fs))) : ∃ cellB : Cell, H[ad.getD q0 sb]? = some cellB ∧ cellB.vm.isStatics = false ∧ s.vm.findClass C = some cellB.cls := by
  obtain ⟨-, -, hT, -, -, -, -, hlen, hP, -, -⟩ := I
  obtain ⟨r, z1, cell, q1, q2, q3, -⟩ := hP q0 _ (am_w_at hlen he)
  exact ⟨cell, q1, by rw [q3]; rfl, by rw [q2]; exact (hT.1.1 ci _ hcl).2.1⟩
theorem am_revmap (f : Value → Value) (as st : List Value) (v : Value) : (as.reverse ++ v :: st).map f = (as.map f).reverse ++ f v :: st.map f := by
  rw [List.map_append, List.map_reverse, List.map_cons]
theorem am_revmapS (f : Value → Value) (as st : List Value) : (as.reverse ++ st).map f = (as.map f).reverse ++ st.map f := by
  rw [List.map_append, List.map_reverse]
theorem am_catE (sb : Nat) (ad : List Nat) (st : List Value) : ((st.map (am_v sb ad)).map fun v => v.category).sum = (st.map fun v => v.category).sum := by
  rw [List.map_map]
  congr 2
  funext v
  exact am_v_cat sb ad v
theorem g_callV {κ : am_K} {μ : am_N} {o1 : am_O} {h1 : List am_E} {nc ns pc n : Nat} {ls : List (Nat × Value)} {stk : List Value} {h h2 : List am_E} {v : Option Value} {idx ci q0 N maxL : Nat} {y : MethodName} {bytes : ByteArray} {ret : Option FieldType} {ws ws' : List Cond} {rm : Room} {T : u_T} {fs : List Value}
    (as st : List Value) (d : decode (am_cc μ) pc = .ok (.invokevirtual idx, 3)) (en : pc + 3 = n) (hM : am_M κ y ws rm (.ref q0 :: as) h (.inl v) h2) (hG : GoodIn (am_ws μ) (wsV (am_own μ) idx y.cls y ws)) (hw : ws = Cond.code y bytes maxL ret :: ws')
    (hd : y.cls = y.cls ∧ y.cls ≠ "java/lang/invoke/MethodHandle" ∧ y.cls ≠ "java/lang/invoke/VarHandle" ∧ (parseMethodDescriptor y.desc).map (fun d => d.parameters.length) = some as.length) (hR : rm.frames + 1 ≤ (am_R μ).frames ∧ 8 + (maxL + 11) + rm.locals ≤ (am_R μ).locals) (hf : nc + rm.cells ≤ (am_R μ).cells ∧ ns + rm.slots ≤ (am_R μ).slots)
    (hcl : (am_cl κ)[ci]? = some (y.cls, T, N)) (he : h[q0]? = some (.inr (ci, fs))) (hst : stk = as.reverse ++ .ref q0 :: st) (hcat : (st.map fun v => v.category).sum ≤ 8) (hl : h2.length = h.length)
    (kr : am_G κ μ o1 h1 (nc + rm.cells) (ns + rm.slots) n ls (v.toList ++ st) h2) : am_G κ μ o1 h1 nc ns pc ls stk h := by
  intro p e s m args below meth c H locs A sb ad0 ad lv I hlv
  have hlen : ad.length = h.length := I.2.2.2.2.2.2.2.1
  subst hst
  rw [am_revmap]
  have hp : PreV s H y.cls (ad.getD q0 sb) (am_Pc κ sb ad H.size (.ref q0 :: as) h) (as.map (am_v sb ad)) := ⟨am_Pc.blind, am_recv I hcl he, am_Pc.at (.ref q0 :: as) I⟩
  exact am_run I hlv en (va_runV I.1 (am_met hM sb ad H.size hlen) (cwV as.length I.1.2.2.2.2 hG hw rfl rfl hd hR) hp rfl (by rw [List.length_map]) hlv.1 rfl (lv_room (by rw [am_catE]; exact hcat)) d hf) hl kr
theorem g_callS {κ : am_K} {μ : am_N} {o1 : am_O} {h1 : List am_E} {nc ns pc n : Nat} {ls : List (Nat × Value)} {stk : List Value} {h h2 : List am_E} {v : Option Value} {idx maxL : Nat} {y : MethodName} {bytes : ByteArray} {ret : Option FieldType} {ws ws' : List Cond} {rm : Room}
    (as st : List Value) (d : decode (am_cc μ) pc = .ok (.invokestatic idx, 3)) (en : pc + 3 = n) (hM : am_M κ y ws rm as h (.inl v) h2) (hG : GoodIn (am_ws μ) (wsS (am_own μ) idx y ws)) (hw : ws = Cond.code y bytes maxL ret :: ws')
    (hd : y.cls = am_own μ ∧ y.cls ≠ "java/lang/invoke/MethodHandle" ∧ y.cls ≠ "java/lang/invoke/VarHandle" ∧ (parseMethodDescriptor y.desc).map (fun d => d.parameters.length) = some as.length) (hR : rm.frames + 1 ≤ (am_R μ).frames ∧ 8 + (maxL + 11) + rm.locals ≤ (am_R μ).locals) (hf : nc + rm.cells ≤ (am_R μ).cells ∧ ns + rm.slots ≤ (am_R μ).slots)
    (hst : stk = as.reverse ++ st) (hcat : (st.map fun v => v.category).sum ≤ 8) (hl : h2.length = h.length)
    (kr : am_G κ μ o1 h1 (nc + rm.cells) (ns + rm.slots) n ls (v.toList ++ st) h2) : am_G κ μ o1 h1 nc ns pc ls stk h := by
  intro p e s m args below meth c H locs A sb ad0 ad lv I hlv
  have hlen : ad.length = h.length := I.2.2.2.2.2.2.2.1
  subst hst
  rw [am_revmapS]
  have hp : PreS s H (am_Pc κ sb ad H.size as h) (as.map (am_v sb ad)) := ⟨am_Pc.blind, am_Pc.at as I⟩
  exact am_run I hlv en (va_runS I.1 (am_met hM sb ad H.size hlen) (cwS as.length I.1.2.2.2.2 hG hw rfl rfl hd hR) hp rfl (by rw [List.length_map]) hlv.1 rfl (lv_room (by rw [am_catE]; exact hcat)) d hf) hl kr
theorem g_callSN {κ : am_K} {μ : am_N} {o1 : am_O} {h1 : List am_E} {nc ns pc n : Nat} {ls : List (Nat × Value)} {stk : List Value} {h h2 : List am_E} {v : Option Value} {idx maxL : Nat} {y : MethodName} {host : String} {bytes : ByteArray} {ret : Option FieldType} {ws ws' : List Cond} {rm : Room}
    (as st : List Value) (d : decode (am_cc μ) pc = .ok (.invokestatic idx, 3)) (en : pc + 3 = n) (hM : am_M κ y ws rm as h (.inl v) h2) (hG : GoodIn (am_ws μ) ws) (hw : ws = Cond.code y bytes maxL ret :: ws') (hn : Cond.methodLinkNest (am_own μ) idx y host ∈ am_NW κ) (hi : Cond.initialized y.cls ∈ am_ws μ) (hsx : Cond.static y ∈ am_ws μ)
    (hd : y.cls ≠ "java/lang/invoke/MethodHandle" ∧ y.cls ≠ "java/lang/invoke/VarHandle" ∧ (parseMethodDescriptor y.desc).map (fun d => d.parameters.length) = some as.length) (hR : rm.frames + 1 ≤ (am_R μ).frames ∧ 8 + (maxL + 11) + rm.locals ≤ (am_R μ).locals) (hf : nc + rm.cells ≤ (am_R μ).cells ∧ ns + rm.slots ≤ (am_R μ).slots)
    (hst : stk = as.reverse ++ st) (hcat : (st.map fun v => v.category).sum ≤ 8) (hl : h2.length = h.length)
    (kr : am_G κ μ o1 h1 (nc + rm.cells) (ns + rm.slots) n ls (v.toList ++ st) h2) : am_G κ μ o1 h1 nc ns pc ls stk h := by
  intro p e s m args below meth c H locs A sb ad0 ad lv I hlv
  have hlen : ad.length = h.length := I.2.2.2.2.2.2.2.1
  have ht := I.1.2.2.2.2
  subst hst
  rw [am_revmapS]
  have hp : PreS s H (am_Pc κ sb ad H.size as h) (as.map (am_v sb ad)) := ⟨am_Pc.blind, am_Pc.at as I⟩
  exact am_run I hlv en (va_runSN I.1 (am_met hM sb ad H.size hlen) ⟨va_cnB as.length ht hG hw rfl rfl (I.2.2.1.2.1 _ hn).2 (ht _ hi) hd hR, ht _ hsx, trivial⟩ hp rfl (by rw [List.length_map]) hlv.1 rfl (lv_room (by rw [am_catE]; exact hcat)) d hf) hl kr
theorem g_callVN {κ : am_K} {μ : am_N} {o1 : am_O} {h1 : List am_E} {nc ns pc n : Nat} {ls : List (Nat × Value)} {stk : List Value} {h h2 : List am_E} {v : Option Value} {idx ci q0 N maxL : Nat} {y : MethodName} {host : String} {bytes : ByteArray} {ret : Option FieldType} {ws ws' : List Cond} {rm : Room} {T : u_T} {fs : List Value}
    (as st : List Value) (d : decode (am_cc μ) pc = .ok (.invokevirtual idx, 3)) (en : pc + 3 = n) (hM : am_M κ y ws rm (.ref q0 :: as) h (.inl v) h2) (hG : GoodIn (am_ws μ) ws) (hw : ws = Cond.code y bytes maxL ret :: ws') (hn : Cond.methodLinkNest (am_own μ) idx y host ∈ am_NW κ) (hi : Cond.initialized y.cls ∈ am_ws μ) (hsx : Cond.instanceMethod y ∈ am_ws μ) (hsl : Cond.selects y.cls y y ∈ am_ws μ)
    (hd : y.cls ≠ "java/lang/invoke/MethodHandle" ∧ y.cls ≠ "java/lang/invoke/VarHandle" ∧ (parseMethodDescriptor y.desc).map (fun d => d.parameters.length) = some as.length) (hR : rm.frames + 1 ≤ (am_R μ).frames ∧ 8 + (maxL + 11) + rm.locals ≤ (am_R μ).locals) (hf : nc + rm.cells ≤ (am_R μ).cells ∧ ns + rm.slots ≤ (am_R μ).slots)
    (hcl : (am_cl κ)[ci]? = some (y.cls, T, N)) (he : h[q0]? = some (.inr (ci, fs))) (hst : stk = as.reverse ++ .ref q0 :: st) (hcat : (st.map fun v => v.category).sum ≤ 8) (hl : h2.length = h.length)
    (kr : am_G κ μ o1 h1 (nc + rm.cells) (ns + rm.slots) n ls (v.toList ++ st) h2) : am_G κ μ o1 h1 nc ns pc ls stk h := by
  intro p e s m args below meth c H locs A sb ad0 ad lv I hlv
  have hlen : ad.length = h.length := I.2.2.2.2.2.2.2.1
  have ht := I.1.2.2.2.2
  subst hst
  rw [am_revmap]
  have hp : PreV s H y.cls (ad.getD q0 sb) (am_Pc κ sb ad H.size (.ref q0 :: as) h) (as.map (am_v sb ad)) := ⟨am_Pc.blind, am_recv I hcl he, am_Pc.at (.ref q0 :: as) I⟩
  exact am_run I hlv en (va_runVN I.1 (am_met hM sb ad H.size hlen) ⟨va_cnB as.length ht hG hw rfl rfl (I.2.2.1.2.1 _ hn).2 (ht _ hi) hd hR, ht _ hsx, ht _ hsl⟩ hp rfl (by rw [List.length_map]) hlv.1 rfl (lv_room (by rw [am_catE]; exact hcat)) d hf) hl kr
theorem am_sl_len (sb : Nat) (ad : List Nat) : ∀ as : List Value, (lg_sl (as.map (am_v sb ad))).length = (lg_sl as).length := by
  intro as
  induction as with
  | nil => rfl
  | cons v t ih =>
    simp only [lg_sl, List.map_cons, List.flatMap_cons, List.length_append, am_v_cat] at ih ⊢
    rw [ih]
    congr 1
    split <;> rfl
theorem am_args (sb : Nat) (ad : List Nat) : ∀ (as : List Value) (i : Nat), lv_args i (as.map (am_v sb ad)) = am_ls sb ad (lv_args i as) := by
  intro as
  induction as with
  | nil => intro i; rfl
  | cons v t ih =>
    intro i
    simp only [lv_args, List.map_cons, am_v_cat]
    rw [ih]
    rfl
/-- a method out of its walk -/
theorem am_body {κ : am_K} {y : MethodName} {cc : ByteArray} {maxL : Nat} {ret : Option FieldType} {ws ws' : List Cond} {rm : Room} {as : List Value} {h h1 : List am_E} {o1 : am_O} {ls : List (Nat × Value)}
    (hy : plainName y.cls = true) (hw : ws = Cond.code y cc maxL ret :: ws') (hn : (lg_sl as).length ≤ maxL) (hls : lv_args 0 as = ls)
    (k : am_G κ (ws, y.cls, cc, maxL, ret, y.name, [], rm, none) o1 h1 0 0 0 ls [] h) : am_M κ y ws rm as h o1 h1 := by
  intro sb ad sz hlen
  refine MetFree.of_bodyS (code := cc) (maxLocals := maxL) (ret := ret) hy ?_ ?_
  · intro args s m hb hnm
    obtain ⟨meth, c, z1, z2, z3, z4, z5, z6, -, -⟩ := Cond.code_spec hnm (atoms_spec (ws := ws) hb _ (by rw [hw]; exact List.mem_cons_self))
    exact ⟨meth, c, z1, z2, z3, z4, z5, z6⟩
  · intro p e s m args below meth c s₁ B hml hv _
    obtain ⟨rfl, hsz, hP, hD, hT, hZ⟩ := hv
    subst hsz
    have hts := atoms_spec (ws := ws) B.pre
    have hown : s.vm.findClass y.cls = some m.cls := findClass_of_methodNamed B.named
    have hnm : meth.name = y.name := (name_of_methodNamed B.named B.method).1
    have htb : c.exceptionTable.toList = [] := by
      obtain ⟨meth9, c9, z1, z2, -, -, -, -, z7, -⟩ := Cond.code_spec B.named (hts _ (by rw [hw]; exact List.mem_cons_self))
      cases Option.some.inj (z1.symm.trans B.method)
      cases Option.some.inj (z2.symm.trans (Stand.of_body B).code)
      rw [Array.isEmpty_iff.mp z7]
    have hl := lv_entry (as.map (am_v sb ad)) (n := maxL) (by rw [am_sl_len]; exact hn)
    rw [am_args, hls] at hl
    have hw0 := k p e s m (as.map (am_v sb ad)).toArray below meth c s.heap [] (am_A ad s.heap.size) sb ad ad _ ⟨⟨B.exec, B.bytes, hml, hown, hts⟩, ⟨B.returns, B.notSynchronized, hnm, htb⟩, hT, hZ, fun q z => Or.inr z, trivial, List.prefix_refl _, hlen, hP, ⟨hD.1, fun k q hk => by
      obtain ⟨x, -, z2, -⟩ := am_w_of hk
      exact Or.inl (List.mem_of_getElem? z2)⟩, va_S.rf⟩ hl
    have hh0 : s₁.heap = s.heap := by rw [B.state]; rfl
    rw [List.map_nil, ← lg_entry_eq] at hw0
    obtain ⟨t, a1, oc, b1, b2, b3⟩ := hw0 s₁ hh0 (Stand.of_body B)
    exact ⟨t, oc, a1, b1, b2, b3⟩
