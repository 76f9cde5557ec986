/-! rows on the cells -/
/-- the facts that an access to a field of the class number ci needs, k its place -/
def am_fld (κ : am_K) (μ : am_N) (ci k : Nat) (C : String) (T : u_T) (N : Nat) : Prop := (∀ w ∈ u_ws C T N, w ∈ am_ws μ) ∧ (am_cl κ)[ci]? = some (C, T, N) ∧ k < N
theorem g_get {κ : am_K} {μ : am_N} {o1 : am_O} {h1 : List am_E} {nc ns pc n : Nat} {ls : List (Nat × Value)} {st : List Value} {h : List am_E} {idx ci k q0 : Nat} {C : String} {T : u_T} {N : Nat} {fs : List Value} {v : Value}
    (d : decode (am_cc μ) pc = .ok (.getfield idx, 3)) (en : pc + 3 = n) (hf : am_fld κ μ ci k C T N) (hl : Cond.fieldLink (am_own μ) idx (T k).1 (T k).2.1 (T k).2.2.1 ∈ am_ws μ)
    (he : h[q0]? = some (.inr (ci, fs))) (hv : fs[k]? = some v) (kk : am_G κ μ o1 h1 nc ns n ls (v :: st) h) : am_G κ μ o1 h1 nc ns pc ls (.ref q0 :: st) h := by
  subst en
  intro p e s m args below meth c H locs A sb ad0 ad lv I hlv
  have I0 := I
  obtain ⟨S, -, hT, -, -, -, -, hlen, hP, -, -⟩ := I
  refine va_get (D := am_D κ) (ci := ci) (C := C) (T := T) (N := N) S.1 S.2.1 S.2.2.2.2 hf.1 S.2.2.2.1 hT.1 hP q0 (am_w_at hlen he) hf.2.1 k hf.2.2 (S.2.2.2.2 _ hl) (fun _ z => z) (v := am_v sb ad v) ?_ d (kk p e s m args below meth c H locs A sb ad0 ad lv I0 hlv)
  rw [List.getElem?_map, hv]
  rfl
theorem g_getN {κ : am_K} {μ : am_N} {o1 : am_O} {h1 : List am_E} {nc ns pc n : Nat} {ls : List (Nat × Value)} {st : List Value} {h : List am_E} {idx ci k q0 : Nat} {C host : String} {T : u_T} {N : Nat} {fs : List Value} {v : Value}
    (d : decode (am_cc μ) pc = .ok (.getfield idx, 3)) (en : pc + 3 = n) (hf : am_fld κ μ ci k C T N) (hl : Cond.fieldLinkNest (am_own μ) idx (T k).1 (T k).2.1 (T k).2.2.1 host ∈ am_NW κ)
    (he : h[q0]? = some (.inr (ci, fs))) (hv : fs[k]? = some v) (kk : am_G κ μ o1 h1 nc ns n ls (v :: st) h) : am_G κ μ o1 h1 nc ns pc ls (.ref q0 :: st) h := by
  subst en
  intro p e s m args below meth c H locs A sb ad0 ad lv I hlv
  have I0 := I
  obtain ⟨S, -, hT, -, -, -, -, hlen, hP, -, -⟩ := I
  refine va_getN (D := am_D κ) (ci := ci) (C := C) (T := T) (N := N) S.1 S.2.1 S.2.2.2.2 hf.1 S.2.2.2.1 hT.1 hP q0 (am_w_at hlen he) hf.2.1 k hf.2.2 (va_Nw.use rfl (hT.2.1 _ hl).2) (fun _ z => z) (v := am_v sb ad v) ?_ d (kk p e s m args below meth c H locs A sb ad0 ad lv I0 hlv)
  rw [List.getElem?_map, hv]
  rfl
/-- what a store into a field needs beside that: the types, the names apart -/
def am_typ (T : u_T) (N : Nat) (ty : Nat → FieldType) : Prop := (∀ k, k < N → parseFieldDescriptor (T k).2.2.1 = some (ty k)) ∧ ∀ a, a < N → ∀ b, b < N → a ≠ b → (T a).2.1 ≠ (T b).2.1
theorem am_I.put {κ : am_K} {μ : am_N} {p : Program} {s : State} {m : MethodId} {args : Array Value} {meth : Method} {c : Code} {H H1 : Heap} {locs locs1 : List Loc} {A : Nat → Prop} {sb : Nat} {ad0 ad : List Nat} {h h' : List am_E} {q0 : Nat} {x : am_E}
    (I : am_I κ μ p s m args meth c H locs A sb ad0 ad h) (hq : q0 < h.length) (hs : h.set q0 x = h')
    (hP : va_P (am_D κ) (am_cl κ) ((am_w (am_dA κ) sb ad h).set q0 (ad.getD q0 sb, am_e (am_dA κ) sb ad x)) H1) (hD : va_D A ((am_w (am_dA κ) sb ad h).set q0 (ad.getD q0 sb, am_e (am_dA κ) sb ad x))) (hS : va_S A s.heap H1 locs1) :
    am_I κ μ p s m args meth c H1 locs1 A sb ad0 ad h' := by
  obtain ⟨S, a1, hT, hZ, hA, hX, hpre, hlen, -, -, -⟩ := I
  subst hs
  rw [am_w_set hlen hq] at hP hD
  exact ⟨S, a1, hT, hZ, hA, hX, hpre, by rw [List.length_set]; exact hlen, hP, hD, hS⟩
theorem am_lt {h : List am_E} {q0 : Nat} {x : am_E} (he : h[q0]? = some x) : q0 < h.length := (List.getElem?_eq_some_iff.mp he).1
theorem g_put {κ : am_K} {μ : am_N} {o1 : am_O} {h1 : List am_E} {nc ns pc n : Nat} {ls : List (Nat × Value)} {st : List Value} {h h' : List am_E} {idx ci k q0 : Nat} {C : String} {T : u_T} {N : Nat} {fs : List Value} {v : Value} {ty0 : Nat → FieldType}
    (d : decode (am_cc μ) pc = .ok (.putfield idx, 3)) (en : pc + 3 = n) (hf : am_fld κ μ ci k C T N) (ht : am_typ T N ty0) (hl : Cond.fieldLink (am_own μ) idx (T k).1 (T k).2.1 (T k).2.2.1 ∈ am_ws μ) (hfin : (T k).2.2.2 = false)
    (hn : ∀ sb ad, narrow (ty0 k) (am_v sb ad v) = am_v sb ad v) (hfit : ∀ sb ad, fits (ty0 k) (am_v sb ad v) = true)
    (he : h[q0]? = some (.inr (ci, fs))) (hk : k < fs.length) (hs : h.set q0 (.inr (ci, fs.set k v)) = h') (kk : am_G κ μ o1 h1 nc ns n ls st h') : am_G κ μ o1 h1 nc ns pc ls (v :: .ref q0 :: st) h := by
  subst en
  intro p e s m args below meth c H locs A sb ad0 ad lv I hlv
  have I0 := I
  obtain ⟨S, -, hT, -, -, -, -, hlen, hP, hD, hS⟩ := I
  refine va_put (D := am_D κ) (ci := ci) (C := C) (T := T) (N := N) (ty := ty0 k) (v := am_v sb ad v) S.1 S.2.1 S.2.2.2.2 hf.1 ty0 ht.1 ht.2 S.2.2.2.1 hT.1 hP hD hS q0 (am_w_at hlen he) hf.2.1 k hf.2.2 (S.2.2.2.2 _ hl) (fun _ z => z) hfin (ht.1 k hf.2.2) (hn sb ad) (hfit sb ad) (by rw [List.length_map]; exact hk) d (fun H1 locs1 hP1 hD1 hS1 => ?_)
  have e1 : (ad.getD q0 sb, (Sum.inr (ci, (fs.map (am_v sb ad)).set k (am_v sb ad v)) : va_E)) = (ad.getD q0 sb, am_e (am_dA κ) sb ad (.inr (ci, fs.set k v))) := by
    simp only [am_e, List.map_set]
  exact kk p e s m args below meth c H1 locs1 A sb ad0 ad lv (I0.put (am_lt he) hs (e1 ▸ hP1) (e1 ▸ hD1) hS1) hlv
theorem g_putN {κ : am_K} {μ : am_N} {o1 : am_O} {h1 : List am_E} {nc ns pc n : Nat} {ls : List (Nat × Value)} {st : List Value} {h h' : List am_E} {idx ci k q0 : Nat} {C host : String} {T : u_T} {N : Nat} {fs : List Value} {v : Value} {ty0 : Nat → FieldType}
    (d : decode (am_cc μ) pc = .ok (.putfield idx, 3)) (en : pc + 3 = n) (hf : am_fld κ μ ci k C T N) (ht : am_typ T N ty0) (hl : Cond.fieldLinkNest (am_own μ) idx (T k).1 (T k).2.1 (T k).2.2.1 host ∈ am_NW κ) (hfin : (T k).2.2.2 = false)
    (hn : ∀ sb ad, narrow (ty0 k) (am_v sb ad v) = am_v sb ad v) (hfit : ∀ sb ad, fits (ty0 k) (am_v sb ad v) = true)
    (he : h[q0]? = some (.inr (ci, fs))) (hk : k < fs.length) (hs : h.set q0 (.inr (ci, fs.set k v)) = h') (kk : am_G κ μ o1 h1 nc ns n ls st h') : am_G κ μ o1 h1 nc ns pc ls (v :: .ref q0 :: st) h := by
  subst en
  intro p e s m args below meth c H locs A sb ad0 ad lv I hlv
  have I0 := I
  obtain ⟨S, -, hT, -, -, -, -, hlen, hP, hD, hS⟩ := I
  refine va_putN (D := am_D κ) (ci := ci) (C := C) (T := T) (N := N) (ty := ty0 k) (v := am_v sb ad v) S.1 S.2.1 S.2.2.2.2 hf.1 ty0 ht.1 ht.2 S.2.2.2.1 hT.1 hP hD hS q0 (am_w_at hlen he) hf.2.1 k hf.2.2 (va_Nw.use rfl (hT.2.1 _ hl).2) (fun _ z => z) hfin (ht.1 k hf.2.2) (hn sb ad) (hfit sb ad) (by rw [List.length_map]; exact hk) d (fun H1 locs1 hP1 hD1 hS1 => ?_)
  have e1 : (ad.getD q0 sb, (Sum.inr (ci, (fs.map (am_v sb ad)).set k (am_v sb ad v)) : va_E)) = (ad.getD q0 sb, am_e (am_dA κ) sb ad (.inr (ci, fs.set k v))) := by
    simp only [am_e, List.map_set]
  exact kk p e s m args below meth c H1 locs1 A sb ad0 ad lv (I0.put (am_lt he) hs (e1 ▸ hP1) (e1 ▸ hD1) hS1) hlv
/-- a final field, in the constructor of its own class -/
theorem g_putF {κ : am_K} {μ : am_N} {o1 : am_O} {h1 : List am_E} {nc ns pc n : Nat} {ls : List (Nat × Value)} {st : List Value} {h h' : List am_E} {idx ci k q0 : Nat} {C : String} {T : u_T} {N : Nat} {fs : List Value} {v : Value} {ty0 : Nat → FieldType}
    (d : decode (am_cc μ) pc = .ok (.putfield idx, 3)) (en : pc + 3 = n) (hf : am_fld κ μ ci k C T N) (ht : am_typ T N ty0) (hl : Cond.fieldLink (am_own μ) idx (T k).1 (T k).2.1 (T k).2.2.1 ∈ am_ws μ) (hfin : (T k).2.2.2 = true) (hi : am_nm μ = "<init>") (ho : (T k).1 = am_own μ)
    (hn : ∀ sb ad, narrow (ty0 k) (am_v sb ad v) = am_v sb ad v) (hfit : ∀ sb ad, fits (ty0 k) (am_v sb ad v) = true)
    (he : h[q0]? = some (.inr (ci, fs))) (hk : k < fs.length) (hs : h.set q0 (.inr (ci, fs.set k v)) = h') (kk : am_G κ μ o1 h1 nc ns n ls st h') : am_G κ μ o1 h1 nc ns pc ls (v :: .ref q0 :: st) h := by
  subst en
  intro p e s m args below meth c H locs A sb ad0 ad lv I hlv
  have I0 := I
  obtain ⟨S, a1, hT, -, -, -, -, hlen, hP, hD, hS⟩ := I
  refine va_putF (D := am_D κ) (ci := ci) (C := C) (T := T) (N := N) (ty := ty0 k) (v := am_v sb ad v) S.1 S.2.1 S.2.2.2.2 hf.1 ty0 ht.1 ht.2 S.2.2.2.1 hT.1 hP hD hS q0 (am_w_at hlen he) hf.2.1 k hf.2.2 (S.2.2.2.2 _ hl) (fun _ z => z) hfin (a1.2.2.1.trans hi) ho (ht.1 k hf.2.2) (hn sb ad) (hfit sb ad) (by rw [List.length_map]; exact hk) d (fun H1 locs1 hP1 hD1 hS1 => ?_)
  have e1 : (ad.getD q0 sb, (Sum.inr (ci, (fs.map (am_v sb ad)).set k (am_v sb ad v)) : va_E)) = (ad.getD q0 sb, am_e (am_dA κ) sb ad (.inr (ci, fs.set k v))) := by
    simp only [am_e, List.map_set]
  exact kk p e s m args below meth c H1 locs1 A sb ad0 ad lv (I0.put (am_lt he) hs (e1 ▸ hP1) (e1 ▸ hD1) hS1) hlv
