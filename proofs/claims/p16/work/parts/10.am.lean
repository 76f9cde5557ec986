/-! The machine under labels. A cell is named by its place in a list of cells, not by its address: then what an instruction reads and writes is decided by 'rfl'. -/
abbrev am_E : Type := (FieldType × vp_A) ⊕ (Nat × List Value)
abbrev am_O : Type := Option Value ⊕ String
/-- a value whose references are labels, as the machine has it: sb is the cell that no label below the list's length names (the law's script) -/
def am_v (sb : Nat) (ad : List Nat) (v : Value) : Value := match v with
  | .ref k => .ref (ad.getD k sb)
  | w => w
def am_e (dA : FieldType → ClassId) (sb : Nat) (ad : List Nat) (x : am_E) : va_E := match x with
  | .inl q => .inl (dA q.1, q.2)
  | .inr q => .inr (q.1, q.2.map (am_v sb ad))
def am_w (dA : FieldType → ClassId) (sb : Nat) (ad : List Nat) (h : List am_E) : va_W := List.zipWith (fun a x => (a, am_e dA sb ad x)) ad h
def am_ls (sb : Nat) (ad : List Nat) (ls : List (Nat × Value)) : List (Nat × Value) := ls.map (fun q => (q.1, am_v sb ad q.2))
theorem am_v_cat (sb : Nat) (ad : List Nat) (v : Value) : (am_v sb ad v).category = v.category := by cases v <;> rfl
theorem am_w_at {dA : FieldType → ClassId} {sb : Nat} {ad : List Nat} {h : List am_E} (hl : ad.length = h.length) {k : Nat} {x : am_E} (hk : h[k]? = some x) : (am_w dA sb ad h)[k]? = some (ad.getD k sb, am_e dA sb ad x) := by
  have hlt : k < h.length := (List.getElem?_eq_some_iff.mp hk).1
  have ha : ad[k]? = some (ad.getD k sb) := by
    rw [List.getD_eq_getElem?_getD, List.getElem?_eq_getElem (by omega)]
    rfl
  unfold am_w
  rw [List.getElem?_zipWith, ha, hk]
theorem am_w_of {dA : FieldType → ClassId} {sb : Nat} {ad : List Nat} {h : List am_E} {k : Nat} {q : Nat × va_E} (hq : (am_w dA sb ad h)[k]? = some q) : ∃ x, h[k]? = some x ∧ ad[k]? = some q.1 ∧ q.2 = am_e dA sb ad x := by
  unfold am_w at hq
  rw [List.getElem?_zipWith] at hq
  cases ha : ad[k]? with
  | none => rw [ha] at hq; cases hq
  | some a =>
    cases hx : h[k]? with
    | none => rw [ha, hx] at hq; cases hq
    | some x =>
      rw [ha, hx] at hq
      cases hq
      exact ⟨x, rfl, rfl, rfl⟩
theorem am_w_len {dA : FieldType → ClassId} {sb : Nat} {ad : List Nat} {h : List am_E} (hl : ad.length = h.length) : (am_w dA sb ad h).length = h.length := by
  unfold am_w
  rw [List.length_zipWith, hl, Nat.min_self]
theorem am_w_set {dA : FieldType → ClassId} {sb : Nat} {ad : List Nat} {h : List am_E} (hl : ad.length = h.length) {k : Nat} {x : am_E} (hk : k < h.length) :
    (am_w dA sb ad h).set k (ad.getD k sb, am_e dA sb ad x) = am_w dA sb ad (h.set k x) := by
  apply List.ext_getElem?
  intro j
  by_cases hj : j = k
  · subst hj
    rw [List.getElem?_set_self (by rw [am_w_len hl]; exact hk)]
    rw [am_w_at (by rw [List.length_set]; exact hl) (List.getElem?_set_self hk)]
  · rw [List.getElem?_set_ne (Ne.symm hj)]
    unfold am_w
    rw [List.getElem?_zipWith, List.getElem?_zipWith, List.getElem?_set_ne (Ne.symm hj)]
/-- which cells a method may change: those that have labels, and those that it makes -/
def am_A (ad : List Nat) (sz : Nat) : Nat → Prop := fun q => q ∈ ad ∨ sz ≤ q
def am_ty (dA : FieldType → ClassId) : List (ClassId × FieldType) := [(dA .int, .int), (dA .boolean, .boolean), (dA .char, .char), (dA .long, .long)]
/-- words that stay under warmer tables, though the kit's lists do not take them -/
def am_nest (w : Cond) : Bool := match w with
  | .fieldLinkNest .. => true
  | .methodLinkNest .. => true
  | c => c.onTables && c.keepsCast
/-- what the tables say beside the words: the classes, the nest's links, the texts -/
def am_T (D : va_G) (dA : FieldType → ClassId) (cl : List vw_C) (NW : List Cond) (SL : List (String × Nat × String)) (U : State) : Prop :=
  va_K D cl (am_ty dA) U ∧ (∀ w ∈ NW, am_nest w = true ∧ va_Nw w U) ∧ ∀ q ∈ SL, ∃ a, vk_R q.1 q.2.1 q.2.2 a U
/-- the words that speak of the heap: what Throwable's two statics hold; and which exceptions are no other's -/
def am_hw : List Cond := [.isRef (.static Bundle.tN "UNASSIGNED_STACK" Bundle.steD), .isRef (.static Bundle.tN "SUPPRESSED_SENTINEL" Bundle.listD), .laysStatic Bundle.tN "UNASSIGNED_STACK" Bundle.steD, .laysStatic Bundle.tN "SUPPRESSED_SENTINEL" Bundle.listD,
  .not (.castable "java/lang/IllegalStateException" "java/lang/IllegalArgumentException"), .not (.castable "java/lang/IllegalStateException" "java/lang/UnsupportedOperationException"), .not (.castable "java/lang/IllegalStateException" "java/util/NoSuchElementException"), .not (.castable "java/lang/IllegalStateException" "java/lang/IndexOutOfBoundsException"), .not (.castable "java/lang/IllegalArgumentException" "java/lang/IllegalStateException"), .not (.castable "java/lang/IllegalArgumentException" "java/lang/UnsupportedOperationException"), .not (.castable "java/lang/IllegalArgumentException" "java/util/NoSuchElementException"), .not (.castable "java/lang/IllegalArgumentException" "java/lang/IndexOutOfBoundsException"), .not (.castable "java/lang/UnsupportedOperationException" "java/lang/IllegalStateException"), .not (.castable "java/lang/UnsupportedOperationException" "java/lang/IllegalArgumentException"), .not (.castable "java/lang/UnsupportedOperationException" "java/util/NoSuchElementException"), .not (.castable "java/lang/UnsupportedOperationException" "java/lang/IndexOutOfBoundsException"), .not (.castable "java/util/NoSuchElementException" "java/lang/IllegalStateException"), .not (.castable "java/util/NoSuchElementException" "java/lang/IllegalArgumentException"), .not (.castable "java/util/NoSuchElementException" "java/lang/UnsupportedOperationException"), .not (.castable "java/util/NoSuchElementException" "java/lang/IndexOutOfBoundsException"), .not (.castable "java/lang/IndexOutOfBoundsException" "java/lang/IllegalStateException"), .not (.castable "java/lang/IndexOutOfBoundsException" "java/lang/IllegalArgumentException"), .not (.castable "java/lang/IndexOutOfBoundsException" "java/lang/UnsupportedOperationException"), .not (.castable "java/lang/IndexOutOfBoundsException" "java/util/NoSuchElementException")]
/-- a later state: warmer tables, and of the cells that were there only those in A may have changed -/
def am_later (A : Nat → Prop) (s U : State) : Prop := s.WarmedH U.vm ∧ s.heap.size ≤ U.heap.size ∧ ∀ q : Nat, q < s.heap.size → ¬ A q → U.heap[q]? = s.heap[q]?
def am_Z (A : Nat → Prop) (s : State) : Prop := ∀ U : State, am_later A s U → ∀ w ∈ am_hw, ∀ a : Array Value, w.before a U = true
theorem am_Z.next {A B : Nat → Prop} {s U : State} (h : am_Z A s) (hU : am_later A s U) (hB : ∀ q, B q → A q) : am_Z B U := by
  intro V hV w hw a
  refine h V ⟨State.WarmedH.trans hU.1 hV.1, Nat.le_trans hU.2.1 hV.2.1, fun q h1 h2 => ?_⟩ w hw a
  rw [hV.2.2 q (Nat.lt_of_lt_of_le h1 hU.2.1) (fun z => h2 (hB q z))]
  exact hU.2.2 q h1 h2
/-- the claim's constants: launch, numbers of classes and slots, array classes, classes, links of the nest, texts -/
abbrev am_K : Type := Launch × va_G × (FieldType → ClassId) × List vw_C × List Cond × List (String × Nat × String)
/-- a method: its words, its class, its code, its locals, what it returns, its name, its handlers, its room, the script if it is the law's -/
abbrev am_N : Type := List Cond × String × ByteArray × Nat × Option FieldType × String × List ExceptionTableEntry × Room × Option (Nat × (Nat → Int32))
abbrev am_l (κ : am_K) : Launch := κ.1
abbrev am_D (κ : am_K) : va_G := κ.2.1
abbrev am_dA (κ : am_K) : FieldType → ClassId := κ.2.2.1
abbrev am_cl (κ : am_K) : List vw_C := κ.2.2.2.1
abbrev am_NW (κ : am_K) : List Cond := κ.2.2.2.2.1
abbrev am_SL (κ : am_K) : List (String × Nat × String) := κ.2.2.2.2.2
abbrev am_ws (μ : am_N) : List Cond := μ.1
abbrev am_own (μ : am_N) : String := μ.2.1
abbrev am_cc (μ : am_N) : ByteArray := μ.2.2.1
abbrev am_nL (μ : am_N) : Nat := μ.2.2.2.1
abbrev am_rt (μ : am_N) : Option FieldType := μ.2.2.2.2.1
abbrev am_nm (μ : am_N) : String := μ.2.2.2.2.2.1
abbrev am_tb (μ : am_N) : List ExceptionTableEntry := μ.2.2.2.2.2.2.1
abbrev am_R (μ : am_N) : Room := μ.2.2.2.2.2.2.2.1
abbrev am_X (μ : am_N) : Option (Nat × (Nat → Int32)) := μ.2.2.2.2.2.2.2.2
/-- the script, where there is one -/
def am_S (x : Option (Nat × (Nat → Int32))) (sb : Nat) (A : Nat → Prop) (s : State) : Prop := match x with
  | none => True
  | some q => va_X sb q.1 q.2 s s.heap ∧ sb < s.heap.size ∧ ¬ A sb
/-- where a method stands: the facts of its invocation, and the cells -/
def am_I (κ : am_K) (μ : am_N) (p : Program) (s : State) (m : MethodId) (args : Array Value) (meth : Method) (c : Code) (H : Heap) (locs : List Loc) (A : Nat → Prop) (sb : Nat) (ad0 ad : List Nat) (h : List am_E) : Prop :=
  CallFix p m c (am_cc μ) (am_nL μ) s args (am_ws μ) (am_own μ) ∧ (meth.sig.returnType = am_rt μ ∧ meth.locks = false ∧ meth.name = am_nm μ ∧ c.exceptionTable.toList = am_tb μ) ∧
  am_T (am_D κ) (am_dA κ) (am_cl κ) (am_NW κ) (am_SL κ) s ∧ am_Z A s ∧ (∀ q, s.heap.size ≤ q → A q) ∧ am_S (am_X μ) sb A s ∧
  ad0 <+: ad ∧ ad.length = h.length ∧ va_P (am_D κ) (am_cl κ) (am_w (am_dA κ) sb ad h) H ∧ va_D A (am_w (am_dA κ) sb ad h) ∧ va_S A s.heap H locs
/-- the cells behind a method -/
def am_B (κ : am_K) (sb : Nat) (ad0 : List Nat) (A : Nat → Prop) (h : List am_E) (ad : List Nat) (t : State) : Prop :=
  ad0 <+: ad ∧ ad.length = h.length ∧ va_P (am_D κ) (am_cl κ) (am_w (am_dA κ) sb ad h) t.heap ∧ va_D A (am_w (am_dA κ) sb ad h)
/-- how a method ended: with a value, or with an exception of a class -/
def am_oc (sb : Nat) (ad : List Nat) (o : am_O) (oc : Outcome) (s t : State) : Prop := match o with
  | .inl v => oc = .returned (v.map (am_v sb ad))
  | .inr E => ∃ (q : Addr) (ce : Cell), oc = .threw q ∧ t.heap[q]? = some ce ∧ ce.vm = .none ∧ s.vm.findClass E = some ce.cls
def am_Q (κ : am_K) (sb : Nat) (ad0 : List Nat) (A : Nat → Prop) (rm : Room) (o : am_O) (h : List am_E) : Array Value → State → Outcome → State → Prop := fun _ s oc t =>
  (∃ ad : List Nat, am_oc sb ad o oc s t ∧ am_B κ sb ad0 A h ad t) ∧ va_F A s t ∧ ∃ L : List Loc, (s.WarmedH t.vm ∧ s.sameButNew ({ t with vm := s.vm } : State) L rm.cells rm.slots) ∧ ∀ q ∈ L, A q.base
def am_MQ (κ : am_K) (below : List Frame) (sb : Nat) (ad0 : List Nat) (A : Nat → Prop) (rm : Room) (o : am_O) (h : List am_E) (a : Array Value) (s : State) : State → Prop := fun t =>
  ∃ oc, t.status = .running ∧ Ended t below oc ∧ am_Q κ sb ad0 A rm o h a s oc t
/-- a contract's start -/
def am_Pc (κ : am_K) (sb : Nat) (ad : List Nat) (sz : Nat) (as : List Value) (h : List am_E) : Array Value → State → Prop := fun v U =>
  v = (as.map (am_v sb ad)).toArray ∧ U.heap.size = sz ∧ va_P (am_D κ) (am_cl κ) (am_w (am_dA κ) sb ad h) U.heap ∧ va_D (fun _ => True) (am_w (am_dA κ) sb ad h) ∧
  am_T (am_D κ) (am_dA κ) (am_cl κ) (am_NW κ) (am_SL κ) U ∧ am_Z (am_A ad sz) U
/-- A CONTRACT: from these arguments and these cells the method y ends with o1 (a value, or the class of what it throws), and then the cells are h1 -/
def am_M (κ : am_K) (y : MethodName) (ws : List Cond) (rm : Room) (as : List Value) (h : List am_E) (o1 : am_O) (h1 : List am_E) : Prop :=
  ∀ (sb : Nat) (ad : List Nat) (sz : Nat), ad.length = h.length → MetFree (am_l κ) y (headSpec ws rm) (am_Pc κ sb ad sz as h) (fun _ _ _ _ _ => True) (am_Q κ sb ad (am_A ad sz) rm o1 h1)
/-- THE WALK: the method μ at pc, with these locals, this stack and these cells, ends with o1 and the cells h1; nc cells of ns slots have been made in it -/
def am_G (κ : am_K) (μ : am_N) (o1 : am_O) (h1 : List am_E) (nc ns pc : Nat) (ls : List (Nat × Value)) (st : List Value) (h : List am_E) : Prop :=
  ∀ (p : Program) (e : Env) (s : State) (m : MethodId) (args : Array Value) (below : List Frame) (meth : Method) (c : Code) (H : Heap) (locs : List Loc) (A : Nat → Prop) (sb : Nat) (ad0 ad : List Nat) (lv : Array Slot),
    am_I κ μ p s m args meth c H locs A sb ad0 ad h → lv_has lv (am_nL μ) (am_ls sb ad ls) →
    W p (am_l κ) e (am_R μ) s m args below meth c H locs nc ns (am_MQ κ below sb ad0 A (am_R μ) o1 h1 args s) (F0 m pc lv (st.map (am_v sb ad)))
/-- the same, where an exception of the class E has come into the frame -/
def am_GX (κ : am_K) (μ : am_N) (o1 : am_O) (h1 : List am_E) (nc ns pc : Nat) (ls : List (Nat × Value)) (st : List Value) (h : List am_E) (E : String) : Prop :=
  ∀ (p : Program) (e : Env) (s : State) (m : MethodId) (args : Array Value) (below : List Frame) (meth : Method) (c : Code) (H : Heap) (locs : List Loc) (A : Nat → Prop) (sb : Nat) (ad0 ad : List Nat) (lv : Array Slot) (ce : Cell) (q : Addr),
    am_I κ μ p s m args meth c H locs A sb ad0 ad h → lv_has lv (am_nL μ) (am_ls sb ad ls) → H[q]? = some ce → ce.vm = .none → s.vm.findClass E = some ce.cls →
    ∀ T : State, T.heap = H → Stand p (am_l κ) e (am_R μ) s m args below meth c T locs nc ns → ∃ t, Steps p.tables e below ((T.setTop (F0 m pc lv (st.map (am_v sb ad)))).pushFrame (.throwing q)) t ∧ am_MQ κ below sb ad0 A (am_R μ) o1 h1 args s t
theorem am_T.warm {D : va_G} {dA : FieldType → ClassId} {cl : List vw_C} {NW : List Cond} {SL : List (String × Nat × String)} {s U : State} (hW : s.WarmedH U.vm) (h : am_T D dA cl NW SL s) : am_T D dA cl NW SL U := by
  refine ⟨va_K.moved hW.alike h.1, fun w hw => ?_, fun q hq => ?_⟩
  · obtain ⟨h2, h1⟩ := h.2.1 w hw
    refine ⟨h2, ?_⟩
    have other : (w.onTables && w.keepsCast) = true → va_Nw w U := fun hk => by
      simp only [Bool.and_eq_true] at hk
      exact va_tabs hk.1 (rfl : (s.setVm U.vm).vm = U.vm) (Cond.before_shiftedCast (State.Shifted.of_warmed hW) w hk.2 h1)
    cases w <;> first | exact va_Nw.warmF hW h1 | exact va_Nw.warmM hW h1 | exact other h2
  · obtain ⟨a, ha⟩ := h.2.2 q hq
    exact ⟨a, vk_R.warm hW ha⟩
theorem am_Pc.blind {κ : am_K} {sb : Nat} {ad : List Nat} {sz : Nat} {as : List Value} {h : List am_E} : FrameBlind (am_Pc κ sb ad sz as h) := by
  intro a U g mk q
  obtain ⟨q0, q1, qP, qD, qT, qZ⟩ := q
  exact ⟨q0, q1, qP, qD, am_T.warm (State.WarmedH.refl U) qT, qZ.next ⟨State.WarmedH.refl U, Nat.le_refl _, fun _ _ _ => rfl⟩ (fun _ z => z)⟩
theorem am_free {κ : am_K} {μ : am_N} {p : Program} {s : State} {m : MethodId} {args : Array Value} {meth : Method} {c : Code} {H : Heap} {locs : List Loc} {A : Nat → Prop} {sb : Nat} {ad0 ad : List Nat} {h : List am_E}
    (I : am_I κ μ p s m args meth c H locs A sb ad0 ad h) : ∀ q, am_A ad H.size q → A q := by
  obtain ⟨-, -, -, -, hA, -, -, hlen, -, hD, hS⟩ := I
  intro q hq
  rcases hq with hq | hq
  · obtain ⟨k, hk⟩ := List.getElem?_of_mem hq
    have hlt : k < h.length := by rw [← hlen]; exact (List.getElem?_eq_some_iff.mp hk).1
    have h1 := am_w_at (dA := am_dA κ) (sb := sb) hlen (List.getElem?_eq_getElem hlt)
    have h2 := hD.2 k _ h1
    have h3 : ad.getD k sb = q := by rw [List.getD_eq_getElem?_getD, hk]; rfl
    rw [← h3]
    exact h2
  · exact hA q (Nat.le_trans hS.1 hq)
theorem am_Pc.at {κ : am_K} {μ : am_N} {p : Program} {s : State} {m : MethodId} {args : Array Value} {meth : Method} {c : Code} {H : Heap} {locs : List Loc} {A : Nat → Prop} {sb : Nat} {ad0 ad : List Nat} {h : List am_E} (as : List Value)
    (I : am_I κ μ p s m args meth c H locs A sb ad0 ad h) : ∀ U : State, U.heap = H → s.WarmedH U.vm → am_Pc κ sb ad H.size as h (as.map (am_v sb ad)).toArray U := by
  intro U hU hW
  have hF := am_free I
  obtain ⟨-, -, hT, hZ, hA, -, -, hlen, hP, hD, hS⟩ := I
  refine ⟨rfl, by rw [hU], by rw [hU]; exact hP, hD.weaken (fun _ _ _ _ => trivial), am_T.warm hW hT, ?_⟩
  exact hZ.next ⟨hW, by rw [hU]; exact hS.1, fun q h1 h2 => by rw [hU]; exact hS.2.1 q h1 h2⟩ hF
