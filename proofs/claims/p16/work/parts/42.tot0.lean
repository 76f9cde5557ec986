/-! totality: lemmas -/
theorem pu_bind {α β : Type} {x : Option α} {a : α} {f : α → Option β} {P : β → Prop} (h : x = some a) (k : ∃ r, f a = some r ∧ P r) : ∃ r, x.bind f = some r ∧ P r := by
  rw [h]
  exact k
theorem pu_pos {β : Type} {c : Prop} [Decidable c] {a b : Option β} {P : β → Prop} (hc : c) (k : ∃ r, a = some r ∧ P r) : ∃ r, (if c then a else b) = some r ∧ P r := by
  rw [if_pos hc]
  exact k
theorem pu_neg {β : Type} {c : Prop} [Decidable c] {a b : Option β} {P : β → Prop} (hc : ¬ c) (k : ∃ r, b = some r ∧ P r) : ∃ r, (if c then a else b) = some r ∧ P r := by
  rw [if_neg hc]
  exact k
theorem pu_t {α β : Type} {x : String ⊕ α} {f : String → Option β} {g : α → Option β} {P : β → Prop} (h1 : ∀ E, x = .inl E → ∃ r, f E = some r ∧ P r) (h2 : ∀ v, x = .inr v → ∃ r, g v = some r ∧ P r) : ∃ r, am_t x f g = some r ∧ P r := by
  cases x with
  | inl E => exact h1 E rfl
  | inr v => exact h2 v rfl
theorem tlt {a b : Int32} (h : a < b) : a.toInt < b.toInt := Int32.lt_iff_toInt_lt.mp h
theorem tnlt {a b : Int32} (h : ¬ a < b) : b.toInt ≤ a.toInt := by
  have z : ¬ a.toInt < b.toInt := fun z => h (Int32.lt_iff_toInt_lt.mpr z)
  omega
theorem tle {a b : Int32} (h : a ≤ b) : a.toInt ≤ b.toInt := Int32.le_iff_toInt_le.mp h
theorem tnle {a b : Int32} (h : ¬ a ≤ b) : b.toInt < a.toInt := by
  have z : ¬ a.toInt ≤ b.toInt := fun z => h (Int32.le_iff_toInt_le.mpr z)
  omega
theorem ti {e : Int32} {n : Nat} (m : Int32) (h0 : 0 ≤ e) (h1 : e < m) (hm : m.toInt = n) : am_in e n = true := by
  have z0 := tle h0
  have z1 := tlt h1
  have e0 : (0 : Int32).toInt = 0 := rfl
  simp only [am_in, Bool.and_eq_true, decide_eq_true_eq]
  refine ⟨fun z => ?_, ?_⟩
  · have := tlt z
    omega
  · have e1 : (e.toNatClampNeg : Int) = e.toInt := by
      show ((e.toInt.toNat : Nat) : Int) = e.toInt
      omega
    omega
theorem tb {v : Int32} (h : v = 0 ∨ v = 1) : am_bl v = true := by
  simp only [am_bl, Bool.or_eq_true, decide_eq_true_eq]
  exact h
theorem tsu {x : Int32} (h : x.toInt < 2147483647) : (x + 1).toInt = x.toInt + 1 := by
  have := Int32.le_toInt x
  rw [Int32.toInt_add]
  have e1 : (1 : Int32).toInt = 1 := rfl
  rw [e1]
  exact Int.bmod_eq_of_le (by omega) (by omega)
theorem tpr {x : Int32} (h : -2147483648 < x.toInt) : (x + (-1)).toInt = x.toInt - 1 := by
  have := Int32.toInt_lt x
  rw [Int32.toInt_add]
  have e1 : (-1 : Int32).toInt = -1 := rfl
  rw [e1]
  exact Int.bmod_eq_of_le (by omega) (by omega)
/-- what is left of a count up to B, against the fuel -/
def tm (B x : Int32) (n : Nat) : Prop := 0 < n ∧ B.toInt + 1 - x.toInt < n
theorem tm0 {B x : Int32} (h : tm B x 0) : False := by
  have := h.1
  omega
theorem tmz (B x : Int32) : tm B x 100000000000 := by
  have h1 := Int32.toInt_lt B
  have h2 := Int32.le_toInt x
  refine ⟨by omega, by omega⟩
theorem tm1 {B x : Int32} {n : Nat} (q : ¬ B ≤ x) (h : tm B x (n + 1)) : tm B (x + 1) n := by
  have z := tnle q
  have h1 := Int32.toInt_lt B
  have e := tsu (x := x) (by omega)
  obtain ⟨h2, h3⟩ := h
  refine ⟨by omega, by omega⟩
theorem tm2 {B x : Int32} {n : Nat} (q : ¬ B < x) (b : B < 2147483647) (h : tm B x (n + 1)) : tm B (x + 1) n := by
  have z := tnlt q
  have h1 := tlt b
  have e1 : (2147483647 : Int32).toInt = 2147483647 := rfl
  have e := tsu (x := x) (by omega)
  obtain ⟨h2, h3⟩ := h
  refine ⟨by omega, by omega⟩
theorem tmd {B x : Int32} {n : Nat} (q : ¬ x ≤ B) (h : tm x B (n + 1)) : tm (x + (-1)) B n := by
  have z := tnle q
  have h1 := Int32.le_toInt B
  have e := tpr (x := x) (by omega)
  obtain ⟨h2, h3⟩ := h
  refine ⟨by omega, by omega⟩
/-- what may be thrown: IllegalStateException, a or b -/
def tV {α : Type} (a b : String) (x : String ⊕ α) : Prop := ∀ E, x = .inl E → E = "java/lang/IllegalStateException" ∨ E = a ∨ E = b
theorem tV_r {α : Type} {a b : String} {v : α} : tV a b (.inr v) := fun E h => by cases h
theorem tV_0 {α : Type} {a b : String} : tV a b (.inl "java/lang/IllegalStateException" : String ⊕ α) := fun E h => by
  cases h
  exact Or.inl rfl
theorem tV_a {α : Type} {a b : String} : tV a b (.inl a : String ⊕ α) := fun E h => by
  cases h
  exact Or.inr (Or.inl rfl)
theorem tV_b {α : Type} {a b : String} : tV a b (.inl b : String ⊕ α) := fun E h => by
  cases h
  exact Or.inr (Or.inr rfl)
theorem tV_u {α β : Type} {a b E : String} {x : String ⊕ α} (h : tV "java/lang/IllegalStateException" "java/lang/IllegalStateException" x) (w : x = .inl E) : tV a b (.inl E : String ⊕ β) := fun E2 h2 => by
  cases h2
  rcases h _ w with z | z | z <;> exact Or.inl z
/-- an array whose elements lie between a and b -/
def ta (a b : Int32) (f : Nat → Int32) : Prop := ∀ k, a ≤ f k ∧ f k ≤ b
theorem ta_upd {a b : Int32} {f : Nat → Int32} {i : Nat} {v : Int32} (h : ta a b f) (h1 : a ≤ v) (h2 : v ≤ b) : ta a b (upd f i v) := by
  intro k
  by_cases e : k = i
  · subst e
    have z : upd f k v k = v := by simp [upd]
    rw [z]
    exact ⟨h1, h2⟩
  · have z : upd f i v k = f k := by simp [upd, e]
    rw [z]
    exact h k
