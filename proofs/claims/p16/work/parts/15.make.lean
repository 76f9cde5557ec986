/-! cells that come: labels stay what they were if no label in sight is the new one -/
def am_okv (a b : Nat) (v : Value) : Bool := match v with
  | .ref k => decide (k < a) || decide (b ≤ k)
  | _ => true
def am_oke (a b : Nat) (x : am_E) : Bool := match x with
  | .inl _ => true
  | .inr q => q.2.all (am_okv a b)
theorem am_okv_v {sb : Nat} {ad ad' : List Nat} {v : Value} (hp : ad <+: ad') (h : am_okv ad.length ad'.length v = true) : am_v sb ad' v = am_v sb ad v := by
  cases v with
  | ref k =>
    simp only [am_okv, Bool.or_eq_true, decide_eq_true_eq] at h
    simp only [am_v, Value.ref.injEq]
    obtain ⟨t, rfl⟩ := hp
    rw [List.length_append] at h
    rw [List.getD_eq_getElem?_getD, List.getD_eq_getElem?_getD]
    rcases h with h | h
    · rw [List.getElem?_append_left h]
    · rw [List.getElem?_eq_none (by rw [List.length_append]; exact h), List.getElem?_eq_none (by omega)]
  | _ => rfl
theorem am_okv_e {dA : FieldType → ClassId} {sb : Nat} {ad ad' : List Nat} {x : am_E} (hp : ad <+: ad') (h : am_oke ad.length ad'.length x = true) : am_e dA sb ad' x = am_e dA sb ad x := by
  cases x with
  | inl q => rfl
  | inr q =>
    simp only [am_oke, List.all_eq_true] at h
    simp only [am_e]
    congr 2
    exact List.map_congr_left (fun v hv => am_okv_v hp (h v hv))
theorem am_okv_l {sb : Nat} {ad ad' : List Nat} {ls : List (Nat × Value)} (hp : ad <+: ad') (h : ls.all (fun q => am_okv ad.length ad'.length q.2) = true) : am_ls sb ad' ls = am_ls sb ad ls := by
  rw [List.all_eq_true] at h
  unfold am_ls
  exact List.map_congr_left (fun q hq => by rw [am_okv_v hp (h q hq)])
theorem am_okv_s {sb : Nat} {ad ad' : List Nat} {st : List Value} (hp : ad <+: ad') (h : st.all (am_okv ad.length ad'.length) = true) : st.map (am_v sb ad') = st.map (am_v sb ad) := by
  rw [List.all_eq_true] at h
  exact List.map_congr_left (fun v hv => am_okv_v hp (h v hv))
theorem am_w_push {dA : FieldType → ClassId} {sb q : Nat} {ad : List Nat} {h : List am_E} {x : am_E} (hl : ad.length = h.length) (hh : h.all (am_oke h.length (h.length + 1)) = true) (hx : am_oke h.length (h.length + 1) x = true) :
    am_w dA sb (ad ++ [q]) (h ++ [x]) = am_w dA sb ad h ++ [(q, am_e dA sb ad x)] := by
  have hp : ad <+: ad ++ [q] := List.prefix_append _ _
  have hlen : (ad ++ [q]).length = h.length + 1 := by rw [List.length_append, hl]; rfl
  rw [List.all_eq_true] at hh
  have e1 : ∀ y, am_oke h.length (h.length + 1) y = true → am_e dA sb (ad ++ [q]) y = am_e dA sb ad y := fun y hy => am_okv_e hp (by rw [hlen, hl]; exact hy)
  unfold am_w
  rw [List.zipWith_append (by exact hl)]
  congr 1
  · clear hx
    have : ∀ (a : List Nat) (g : List am_E), (∀ y ∈ g, am_e dA sb (ad ++ [q]) y = am_e dA sb ad y) → List.zipWith (fun a x => (a, am_e dA sb (ad ++ [q]) x)) a g = List.zipWith (fun a x => (a, am_e dA sb ad x)) a g := by
      intro a g
      induction g generalizing a with
      | nil => intro _; cases a <;> rfl
      | cons y g ih =>
        intro hy
        cases a with
        | nil => rfl
        | cons b a =>
          simp only [List.zipWith_cons_cons]
          rw [hy y List.mem_cons_self, ih a (fun z hz => hy z (List.mem_cons_of_mem _ hz))]
    exact this ad h (fun y hy => e1 y (hh y hy))
  · simp only [List.zipWith_cons_cons, List.zipWith_nil_left]
    rw [e1 x hx]
def am_ok (nh : Nat) (ls : List (Nat × Value)) (st : List Value) (h : List am_E) (x : am_E) : Bool := h.all (am_oke nh (nh + 1)) && am_oke nh (nh + 1) x && ls.all (fun q => am_okv nh (nh + 1) q.2) && st.all (am_okv nh (nh + 1))
theorem am_I.push {κ : am_K} {μ : am_N} {p : Program} {s : State} {m : MethodId} {args : Array Value} {meth : Method} {c : Code} {H H1 : Heap} {locs locs1 : List Loc} {A : Nat → Prop} {sb q : Nat} {ad0 ad : List Nat} {h : List am_E} {x : am_E}
    (I : am_I κ μ p s m args meth c H locs A sb ad0 ad h) (hh : h.all (am_oke h.length (h.length + 1)) = true) (hx : am_oke h.length (h.length + 1) x = true)
    (hP : va_P (am_D κ) (am_cl κ) (am_w (am_dA κ) sb ad h ++ [(q, am_e (am_dA κ) sb ad x)]) H1) (hD : va_D A (am_w (am_dA κ) sb ad h ++ [(q, am_e (am_dA κ) sb ad x)])) (hS : va_S A s.heap H1 locs1) :
    am_I κ μ p s m args meth c H1 locs1 A sb ad0 (ad ++ [q]) (h ++ [x]) := by
  obtain ⟨S, a1, hT, hZ, hA, hX, hpre, hlen, -, -, -⟩ := I
  rw [← am_w_push hlen hh hx] at hP hD
  exact ⟨S, a1, hT, hZ, hA, hX, hpre.trans (List.prefix_append _ _), by rw [List.length_append, List.length_append, hlen]; rfl, hP, hD, hS⟩
theorem g_new {κ : am_K} {μ : am_N} {o1 : am_O} {h1 : List am_E} {nc ns pc n : Nat} {ls : List (Nat × Value)} {st : List Value} {h h' : List am_E} {idx ci nh : Nat} {C : String} {T : u_T} {N : Nat} {fs : List Value} {ty0 : Nat → FieldType}
    (d : decode (am_cc μ) pc = .ok (.new idx, 3)) (en : pc + 3 = n) (hin : ∀ w ∈ u_ws C T N, w ∈ am_ws μ) (hc : (am_cl κ)[ci]? = some (C, T, N)) (ht : ∀ k, k < N → parseFieldDescriptor (T k).2.2.1 = some (ty0 k)) (w1 : Cond.classLink (am_own μ) idx C ∈ am_ws μ) (w2 : Cond.instantiable C N ∈ am_ws μ) (w3 : Cond.initialized C ∈ am_ws μ)
    (hfs : ∀ j, j < N → defaultValue (ty0 j) = vp_V fs j) (hr : nc + 1 ≤ (am_R μ).cells) (hr2 : ns + N ≤ (am_R μ).slots) (hnh : h.length = nh) (hfv : ∀ sb ad, fs.map (am_v sb ad) = fs) (hok : am_ok nh ls st h (.inr (ci, fs)) = true) (hh : h ++ [.inr (ci, fs)] = h')
    (kk : am_G κ μ o1 h1 (nc + 1) (ns + N) n ls (.ref nh :: st) h') : am_G κ μ o1 h1 nc ns pc ls st h := by
  subst en
  subst hnh
  subst hh
  intro p e s m args below meth c H locs A sb ad0 ad lv I hlv
  have I0 := I
  obtain ⟨S, -, hT, -, hA, -, -, hlen, hP, hD, hS⟩ := I
  simp only [am_ok, Bool.and_eq_true] at hok
  obtain ⟨⟨⟨k1, k2⟩, k3⟩, k4⟩ := hok
  refine va_new (D := am_D κ) (ci := ci) (C := C) (T := T) (N := N) (fs := fs) S.1 S.2.1 S.2.2.2.2 hin ty0 ht S.2.2.2.1 (S.2.2.2.2 _ w1) (S.2.2.2.2 _ w2) (S.2.2.2.2 _ w3) hT.1 hP hD hS hA hc hfs hr hr2 d (fun q H1 hP1 hD1 hS1 => ?_)
  have hp : ad <+: ad ++ [q] := List.prefix_append _ _
  have hlen' : (ad ++ [q]).length = h.length + 1 := by rw [List.length_append, hlen]; rfl
  have e1 : (q, (Sum.inr (ci, fs) : va_E)) = (q, am_e (am_dA κ) sb ad (.inr (ci, fs))) := by simp only [am_e, hfv]
  have I1 := I0.push (q := q) k1 k2 (e1 ▸ hP1) (e1 ▸ hD1) hS1
  have hk := kk p e s m args below meth c H1 locs A sb ad0 (ad ++ [q]) lv I1 (by rw [am_okv_l hp (by rw [hlen', hlen]; exact k3)]; exact hlv)
  rw [List.map_cons, am_okv_s hp (by rw [hlen', hlen]; exact k4)] at hk
  have e2 : am_v sb (ad ++ [q]) (.ref h.length) = .ref q := by
    simp only [am_v]
    rw [List.getD_eq_getElem?_getD, ← hlen, List.getElem?_append_right (Nat.le_refl _), Nat.sub_self]
    rfl
  rw [e2] at hk
  exact hk
/-- the array class of a type is the one that the tables name -/
theorem am_dA_eq {κ : am_K} {s : State} {cA : ClassId} {ty : FieldType} {k : Nat} (h : va_K (am_D κ) (am_cl κ) (am_ty (am_dA κ) ++ [(cA, ty)]) s) (hk : (am_ty (am_dA κ))[k]? = some (am_dA κ ty, ty)) (hp : ∀ C, ty ≠ .object C) : cA = am_dA κ ty := by
  have h1 := (h.2 k (am_dA κ ty, ty) (by rw [List.getElem?_append_left (List.getElem?_eq_some_iff.mp hk).1]; exact hk)).2
  have h2 := (h.2 (am_ty (am_dA κ)).length (cA, ty) (by rw [List.getElem?_append_right (Nat.le_refl _), Nat.sub_self]; rfl)).2
  cases ty with
  | object C => exact absurd rfl (hp C)
  | _ => exact Option.some.inj (h2.symm.trans h1)
theorem g_newa {κ : am_K} {μ : am_N} {o1 : am_O} {h1 : List am_E} {nc ns pc n : Nat} {ls : List (Nat × Value)} {st : List Value} {h h' : List am_E} {nh N k9 : Nat} {atype : ArrayType} {ty : FieldType} {i : Int32} {a0 : vp_A}
    (d : decode (am_cc μ) pc = .ok (.newarray atype, 2)) (en : pc + 2 = n) (hw : Cond.arrayClass (newarray.typeOf atype) ∈ am_ws μ) (hty : newarray.typeOf atype = ty) (hk9 : ∀ dA, (am_ty dA)[k9]? = some (dA ty, ty)) (hpr : ∀ C, ty ≠ .object C)
    (ha : ∀ cA : ClassId, vp_cell cA a0 = arrV cA N (fun _ => defaultValue ty)) (hi : ¬ i < 0) (hN : i.toNatClampNeg = N) (hb : N * componentBytes ty ≤ 536870912) (hr : nc + 1 ≤ (am_R μ).cells) (hr2 : ns + N ≤ (am_R μ).slots) (hnh : h.length = nh) (hok : am_ok nh ls st h (.inl (ty, a0)) = true) (hh : h ++ [.inl (ty, a0)] = h')
    (kk : am_G κ μ o1 h1 (nc + 1) (ns + N) n ls (.ref nh :: st) h') : am_G κ μ o1 h1 nc ns pc ls (.int i :: st) h := by
  subst en
  subst hnh
  subst hh
  intro p e s m args below meth c H locs A sb ad0 ad lv I hlv
  have I0 := I
  obtain ⟨S, -, hT, -, hA, -, -, hlen, hP, hD, hS⟩ := I
  simp only [am_ok, Bool.and_eq_true] at hok
  obtain ⟨⟨⟨k1, k2⟩, k3⟩, k4⟩ := hok
  refine va_newa (D := am_D κ) (a0 := a0) (N' := N) (n := i) S.1 S.2.1 (S.2.2.2.2 _ hw) hty hT.1 hP hD hS hA ha hi hN hb hr hr2 d (fun q cA H1 hK1 hP1 hD1 hS1 => ?_)
  have hp : ad <+: ad ++ [q] := List.prefix_append _ _
  have hlen' : (ad ++ [q]).length = h.length + 1 := by rw [List.length_append, hlen]; rfl
  have hcA := am_dA_eq hK1 (hk9 _) hpr
  subst hcA
  have I1 := I0.push (q := q) (x := .inl (ty, a0)) k1 k2 hP1 hD1 hS1
  have hk := kk p e s m args below meth c H1 locs A sb ad0 (ad ++ [q]) lv I1 (by rw [am_okv_l hp (by rw [hlen', hlen]; exact k3)]; exact hlv)
  rw [List.map_cons, am_okv_s hp (by rw [hlen', hlen]; exact k4)] at hk
  have e2 : am_v sb (ad ++ [q]) (.ref h.length) = .ref q := by
    simp only [am_v]
    rw [List.getD_eq_getElem?_getD, ← hlen, List.getElem?_append_right (Nat.le_refl _), Nat.sub_self]
    rfl
  rw [e2] at hk
  exact hk
/-- a call that makes cells -/
theorem am_runG {κ : am_K} {μ : am_N} {o1 : am_O} {h1 : List am_E} {nc ns pc n mc ms : Nat} {ls : List (Nat × Value)} {st stk : List Value} {h h2 : List am_E} {v : Option Value} {p : Program} {e : Env} {s : State} {m : MethodId} {args a' : Array Value} {below : List Frame} {meth : Method} {c : Code} {H : Heap} {locs : List Loc} {A : Nat → Prop} {sb : Nat} {ad0 ad : List Nat} {lv : Array Slot}
    (I : am_I κ μ p s m args meth c H locs A sb ad0 ad h) (hlv : lv_has lv (am_nL μ) (am_ls sb ad ls)) (en : pc + 3 = n)
    (hr : va_Run p (am_l κ) e (am_R μ) s m args below meth c H locs nc ns mc ms (F0 m pc lv stk) (st.map (am_v sb ad)) (am_Qr κ sb ad (am_A ad H.size) v h2 a') (am_A ad H.size))
    (z1 : ls.all (fun q => am_okv h.length h2.length q.2) = true) (z2 : st.all (am_okv h.length h2.length) = true)
    (kr : am_G κ μ o1 h1 (nc + mc) (ns + ms) n ls (v.toList ++ st) h2) :
    W p (am_l κ) e (am_R μ) s m args below meth c H locs nc ns (am_MQ κ below sb ad0 A (am_R μ) o1 h1 args s) (F0 m pc lv stk) := by
  subst en
  intro T hT X
  obtain ⟨v', st₀, t, T', L, h0, X', hL, e1, e2, ⟨⟨ad', ho, hB⟩, hFr⟩, go⟩ := hr T hT X
  have hlen := I.2.2.2.2.2.2.2.1
  have hl2 := hB.2.1
  have hp := hB.1
  cases ho
  have I' := I.back h0 hL hB hFr
  rw [← e1] at I'
  obtain ⟨t2, a1, b1⟩ := kr p e s m args below meth c T'.heap (locs ++ L) A sb ad0 ad' lv I' (by rw [am_okv_l hp (by rw [hlen, hl2]; exact z1)]; exact hlv) T' rfl X'
  rw [← am_mapO, am_okv_s hp (by rw [hlen, hl2]; exact z2)] at a1
  exact ⟨t2, go t2 a1, b1⟩
theorem g_callI {κ : am_K} {μ : am_N} {o1 : am_O} {h1 : List am_E} {nc ns pc n : Nat} {ls : List (Nat × Value)} {stk : List Value} {h h2 : List am_E} {idx q0 maxL : Nat} {y : MethodName} {bytes : ByteArray} {ws ws' : List Cond} {rm : Room}
    (as st : List Value) (d : decode (am_cc μ) pc = .ok (.invokespecial idx, 3)) (en : pc + 3 = n) (hM : am_M κ y ws rm (.ref q0 :: as) h (.inl none) h2) (hG : GoodIn (am_ws μ) ws) (hw : ws = Cond.code y bytes maxL none :: ws') (hi : Cond.initialized y.cls ∈ am_ws μ) (hk : Cond.methodLink (am_own μ) idx y ∈ am_ws μ) (hsx : Cond.instanceMethod y ∈ am_ws μ) (hy : y.name = "<init>")
    (hd : y.cls ≠ "java/lang/invoke/MethodHandle" ∧ y.cls ≠ "java/lang/invoke/VarHandle" ∧ (parseMethodDescriptor y.desc).map (fun d => d.parameters.length) = some as.length) (hR : rm.frames + 1 ≤ (am_R μ).frames ∧ 8 + (maxL + 11) + rm.locals ≤ (am_R μ).locals) (hf : nc + rm.cells ≤ (am_R μ).cells ∧ ns + rm.slots ≤ (am_R μ).slots)
    (hst : stk = as.reverse ++ .ref q0 :: st) (hcat : (st.map fun v => v.category).sum ≤ 8) (z1 : ls.all (fun q => am_okv h.length h2.length q.2) = true) (z2 : st.all (am_okv h.length h2.length) = true)
    (kr : am_G κ μ o1 h1 (nc + rm.cells) (ns + rm.slots) n ls st h2) : am_G κ μ o1 h1 nc ns pc ls stk h := by
  intro p e s m args below meth c H locs A sb ad0 ad lv I hlv
  have hlen : ad.length = h.length := I.2.2.2.2.2.2.2.1
  have ht := I.1.2.2.2.2
  subst hst
  rw [am_revmap]
  have hp : PreS s H (am_Pc κ sb ad H.size (.ref q0 :: as) h) (.ref (ad.getD q0 sb) :: as.map (am_v sb ad)) := ⟨am_Pc.blind, am_Pc.at (.ref q0 :: as) I⟩
  exact am_runG (v := none) I hlv en (va_runI I.1 (am_met hM sb ad H.size hlen) (cwI as.length ht hG hw rfl rfl (ht _ hi) (ht _ hk) (ht _ hsx) hy hd hR) hp rfl (by rw [List.length_map]) hlv.1 rfl (lv_room (by rw [am_catE]; exact hcat)) d hf) z1 z2 kr
theorem g_objInit {κ : am_K} {μ : am_N} {o1 : am_O} {h1 : List am_E} {nc ns pc n : Nat} {ls : List (Nat × Value)} {st : List Value} {h : List am_E} {idx q0 : Nat}
    (d : decode (am_cc μ) pc = .ok (.invokespecial idx, 3)) (en : pc + 3 = n) (w1 : Cond.methodLink (am_own μ) idx Lib.objectInit ∈ am_ws μ) (w2 : Cond.instanceMethod Lib.objectInit ∈ am_ws μ) (w3 : Cond.code Lib.objectInit ⟨#[0xb1]⟩ 1 none ∈ am_ws μ) (hR : 1 ≤ (am_R μ).frames) (hR2 : (st.map fun v => v.category).sum + 12 ≤ (am_R μ).locals)
    (kk : am_G κ μ o1 h1 nc ns n ls st h) : am_G κ μ o1 h1 nc ns pc ls (.ref q0 :: st) h := by
  subst en
  intro p e s m args below meth c H locs A sb ad0 ad lv I hlv
  have ht := I.1.2.2.2.2
  refine W.objInit I.1.1 I.1.2.1 I.1.2.2.2.1 (ht _ w1) (ht _ w2) (ht _ w3) rfl (by rw [I.1.2.2.1]; exact hlv.1) rfl d hR ?_ (kk p e s m args below meth c H locs A sb ad0 ad lv I hlv)
  show 2 * 0 + _ + 12 ≤ _
  have e1 := am_catE sb ad st
  rw [e1]
  omega
theorem g_mmin {κ : am_K} {μ : am_N} {o1 : am_O} {h1 : List am_E} {nc ns pc n : Nat} {ls : List (Nat × Value)} {st : List Value} {h : List am_E} {idx : Nat} {x y : Int32}
    (d : decode (am_cc μ) pc = .ok (.invokestatic idx, 3)) (en : pc + 3 = n) (w1 : Cond.methodLink (am_own μ) idx Lib.Math.min.name ∈ am_ws μ) (w2 : Cond.static Lib.Math.min.name ∈ am_ws μ) (w3 : Cond.initialized "java/lang/Math" ∈ am_ws μ) (w4 : Cond.code Lib.Math.min.name Lib.Math.min.code 2 (some .int) ∈ am_ws μ)
    (hR : 1 ≤ (am_R μ).frames) (hR2 : (st.map fun v => v.category).sum + 13 ≤ (am_R μ).locals) (hc : nc ≤ (am_R μ).cells) (hs : ns ≤ (am_R μ).slots)
    (kk : am_G κ μ o1 h1 nc ns n ls (.int (if y < x then y else x) :: st) h) : am_G κ μ o1 h1 nc ns pc ls (.int y :: .int x :: st) h := by
  subst en
  intro p e s m args below meth c H locs A sb ad0 ad lv I hlv
  have ht := I.1.2.2.2.2
  have e1 := am_catE sb ad st
  exact va_mmin I.1.1 I.1.2.1 (by rw [I.1.2.2.1]; exact hlv.1.symm) I.1.2.2.2.1 (ht _ w1) (ht _ w2) (ht _ w3) (ht _ w4) hR (by rw [e1]; exact hR2) hc hs d (kk p e s m args below meth c H locs A sb ad0 ad lv I hlv)
