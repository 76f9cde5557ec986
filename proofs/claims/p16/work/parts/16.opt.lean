/-! what a function says: lemmas on its shape -/
def am_in (i : Int32) (n : Nat) : Bool := decide (¬ i < 0) && decide (i.toNatClampNeg < n)
theorem am_inl {i : Int32} {n : Nat} (h : am_in i n = true) : vp_in i n := by
  simp only [am_in, Bool.and_eq_true, decide_eq_true_eq] at h
  intro z
  rcases z with z | z
  · exact h.1 z
  · omega
def am_bl (v : Int32) : Bool := decide (v = 0) || decide (v = 1)
theorem am_blz {v : Int32} (h : am_bl v = true) : narrow .boolean (.int v) = .int v := by
  simp only [am_bl, Bool.or_eq_true, decide_eq_true_eq] at h
  rcases h with rfl | rfl <;> rfl
def am_t {α β : Type} (x : String ⊕ α) (f : String → Option β) (g : α → Option β) : Option β := match x with
  | .inl E => f E
  | .inr v => g v
theorem ob_bind {α β : Type} {x : Option α} {f : α → Option β} {r : β} (h : x.bind f = some r) : ∃ a, x = some a ∧ f a = some r := by
  cases x with
  | none => cases h
  | some a => exact ⟨a, rfl, h⟩
theorem ob_t {α β : Type} {x : String ⊕ α} {f : String → Option β} {g : α → Option β} {r : β} (h : am_t x f g = some r) : (∃ E, x = .inl E ∧ f E = some r) ∨ ∃ v, x = .inr v ∧ g v = some r := by
  cases x with
  | inl E => exact Or.inl ⟨E, rfl, h⟩
  | inr v => exact Or.inr ⟨v, rfl, h⟩
theorem ob_chk {β : Type} {c : Prop} [Decidable c] {a : Option β} {r : β} (h : (if c then a else none) = some r) : c ∧ a = some r := by
  by_cases hc : c
  · rw [if_pos hc] at h
    exact ⟨hc, h⟩
  · rw [if_neg hc] at h
    cases h
theorem ob_pos {β : Type} {c : Prop} [Decidable c] {a b : Option β} {r : β} (hc : c) (h : (if c then a else b) = some r) : a = some r := by
  rw [if_pos hc] at h
  exact h
theorem ob_neg {β : Type} {c : Prop} [Decidable c] {a b : Option β} {r : β} (hc : ¬ c) (h : (if c then a else b) = some r) : b = some r := by
  rw [if_neg hc] at h
  exact h
def am_oi (x : String ⊕ Int32) : am_O := match x with
  | .inl E => .inr E
  | .inr v => .inl (some (.int v))
def am_ol (x : String ⊕ Int64) : am_O := match x with
  | .inl E => .inr E
  | .inr v => .inl (some (.long v))
def am_ov (x : String ⊕ Unit) : am_O := match x with
  | .inl E => .inr E
  | .inr _ => .inl none
/-- the room of a method that stands d calls above the lowest; a throw makes one cell of six slots -/
def am_rm (d : Nat) (o : am_O) : Room := match o with
  | .inl _ => { frames := 8 + d, cells := 0, slots := 0, locals := 256 + 64 * d }
  | .inr _ => { frames := 8 + d, cells := 1, slots := 6, locals := 256 + 64 * d }
theorem am_rm_f (d : Nat) (o : am_O) : (am_rm d o).frames = 8 + d := by cases o <;> rfl
theorem am_rm_l (d : Nat) (o : am_O) : (am_rm d o).locals = 256 + 64 * d := by cases o <;> rfl
theorem am_rmR {a b maxL : Nat} {o o' : am_O} (h : a < b) (hm : maxL ≤ 45) : (am_rm a o).frames + 1 ≤ (am_rm b o').frames ∧ 8 + (maxL + 11) + (am_rm a o).locals ≤ (am_rm b o').locals := by
  rw [am_rm_f, am_rm_f, am_rm_l, am_rm_l]
  omega
theorem g_ls {κ : am_K} {μ : am_N} {o1 : am_O} {h1 : List am_E} {nc ns pc : Nat} {ls ls' : List (Nat × Value)} {st : List Value} {h : List am_E} (ks : List Nat) (e : lv_pick ls ks = ls') (k : am_G κ μ o1 h1 nc ns pc ls' st h) : am_G κ μ o1 h1 nc ns pc ls st h := by
  intro p e9 s m args below meth c H locs A sb ad0 ad lv I hl
  refine k p e9 s m args below meth c H locs A sb ad0 ad lv I (lv_sub hl ks ?_)
  subst e
  unfold lv_pick am_ls
  rw [List.map_filterMap]
  congr 1
  funext k
  rw [List.getElem?_map]
theorem am_ltb {a b : Nat} (h : Nat.ble (a + 1) b = true) : a < b := Nat.le_of_ble_eq_true h
theorem am_z0 : narrow .boolean (.int 0) = .int 0 := by decide
theorem am_z1 : narrow .boolean (.int 1) = .int 1 := by decide
