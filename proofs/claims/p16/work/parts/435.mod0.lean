/-! totality of the reference: lemmas -/
theorem td (x n : Int32) (hn : 0 < n) : -n < x - x / n * n ∧ x - x / n * n < n ∧ (0 ≤ x → 0 ≤ x - x / n * n ∧ 0 ≤ x / n ∧ x / n ≤ x) := by
  have h0 := tlt hn
  have e0 : (0 : Int32).toInt = 0 := rfl
  have b1 := Int32.le_toInt x
  have b2 := Int32.toInt_lt x
  have b4 := Int32.toInt_lt n
  have hq : (x / n).toInt = x.toInt.tdiv n.toInt := by
    rw [Int32.toInt_div]
    have h1 : (x.toInt.tdiv n.toInt).natAbs ≤ x.toInt.natAbs := by
      rw [Int.natAbs_tdiv]
      exact Nat.div_le_self _ _
    by_cases z : x.toInt = -2147483648 ∧ n.toInt = -1
    · omega
    · by_cases y : 0 ≤ x.toInt
      · have := Int.tdiv_nonneg y (b := n.toInt) (by omega)
        have d3 : x.toInt.tdiv n.toInt ≤ x.toInt := by
          rw [Int.tdiv_eq_ediv_of_nonneg y]
          exact Int.ediv_le_self _ y
        exact Int.bmod_eq_of_le (by omega) (by omega)
      · have d3 := Int.tdiv_nonneg (a := -x.toInt) (b := n.toInt) (by omega) (by omega)
        rw [Int.neg_tdiv] at d3
        exact Int.bmod_eq_of_le (by omega) (by omega)
  have hm : n.toInt * x.toInt.tdiv n.toInt + x.toInt.tmod n.toInt = x.toInt := Int.mul_tdiv_add_tmod _ _
  have hr1 : x.toInt.tmod n.toInt < n.toInt := Int.tmod_lt_of_pos _ (by omega)
  have hr2 : -n.toInt < x.toInt.tmod n.toInt := by
    have := Int.lt_tmod_of_pos x.toInt (b := n.toInt) (by omega)
    omega
  have hp : (x / n * n).toInt = x.toInt.tdiv n.toInt * n.toInt := by
    rw [Int32.toInt_mul, hq]
    have c1 : x.toInt.tdiv n.toInt * n.toInt = x.toInt - x.toInt.tmod n.toInt := by
      rw [Int.mul_comm]
      omega
    rw [c1]
    have c2 : (x.toInt - x.toInt.tmod n.toInt).natAbs ≤ x.toInt.natAbs := by
      rw [← c1, Int.natAbs_mul, Int.natAbs_tdiv]
      exact Nat.div_mul_le_self _ _
    by_cases y : 0 ≤ x.toInt
    · exact Int.bmod_eq_of_le (by omega) (by omega)
    · exact Int.bmod_eq_of_le (by omega) (by omega)
  have c1 : x.toInt.tdiv n.toInt * n.toInt = x.toInt - x.toInt.tmod n.toInt := by
    rw [Int.mul_comm]
    omega
  have hs : (x - x / n * n).toInt = x.toInt.tmod n.toInt := by
    rw [Int32.toInt_sub, hp, c1]
    have : x.toInt - (x.toInt - x.toInt.tmod n.toInt) = x.toInt.tmod n.toInt := by omega
    rw [this]
    exact Int.bmod_eq_of_le (by omega) (by omega)
  have hneg : (-n).toInt = -n.toInt := by
    rw [Int32.toInt_neg]
    exact Int.bmod_eq_of_le (by omega) (by omega)
  refine ⟨Int32.lt_iff_toInt_lt.mpr (by omega), Int32.lt_iff_toInt_lt.mpr (by omega), fun hx => ?_⟩
  have z := tle hx
  have d1 : 0 ≤ x.toInt.tmod n.toInt := Int.tmod_nonneg _ (by omega)
  have d2 : 0 ≤ x.toInt.tdiv n.toInt := Int.tdiv_nonneg (by omega) (by omega)
  have d3 : x.toInt.tdiv n.toInt ≤ x.toInt := by
    rw [Int.tdiv_eq_ediv_of_nonneg (by omega)]
    exact Int.ediv_le_self _ (by omega)
  exact ⟨Int32.le_iff_toInt_le.mpr (by omega), Int32.le_iff_toInt_le.mpr (by omega), Int32.le_iff_toInt_le.mpr (by omega)⟩
theorem tand (a b : Int32) (hb : 0 ≤ b) : 0 ≤ a &&& b ∧ a &&& b ≤ b := by
  have z := tle hb
  have e0 : (0 : Int32).toInt = 0 := rfl
  have h1 : b.toInt = (b.toBitVec.toNat : Int) := by
    show b.toBitVec.toInt = _
    have h2 : 0 ≤ b.toBitVec.toInt := by
      have : b.toBitVec.toInt = b.toInt := rfl
      omega
    have h4 := BitVec.toInt_eq_toNat_cond b.toBitVec
    have h5 := b.toBitVec.isLt
    split at h4 <;> omega
  have e1 : (a &&& b).toBitVec.toNat ≤ b.toBitVec.toNat := by
    show (a.toBitVec &&& b.toBitVec).toNat ≤ _
    rw [BitVec.toNat_and]
    exact Nat.and_le_right
  have e2 : (a &&& b).toInt = ((a &&& b).toBitVec.toNat : Int) := by
    show (a &&& b).toBitVec.toInt = _
    have b2 := Int32.toInt_lt b
    have h4 := BitVec.toInt_eq_toNat_cond (a &&& b).toBitVec
    split at h4 <;> omega
  exact ⟨Int32.le_iff_toInt_le.mpr (by omega), Int32.le_iff_toInt_le.mpr (by omega)⟩
theorem tand64 (a : Int64) (b : Int64) (hb : b = 255) : 0 ≤ (a &&& b).toInt32 ∧ (a &&& b).toInt32 ≤ 255 := by
  subst hb
  have e1 : (a &&& 255).toBitVec.toNat ≤ 255 := by
    show (a.toBitVec &&& (255 : Int64).toBitVec).toNat ≤ _
    rw [BitVec.toNat_and]
    exact Nat.and_le_right
  have e3 : (a &&& 255).toInt = ((a &&& 255).toBitVec.toNat : Int) := by
    show (a &&& 255).toBitVec.toInt = _
    have h4 := BitVec.toInt_eq_toNat_cond (a &&& 255).toBitVec
    split at h4 <;> omega
  have e2 : ((a &&& 255).toInt32).toInt = (a &&& 255).toInt := by
    rw [Int64.toInt_toInt32]
    exact Int.bmod_eq_of_le (by omega) (by omega)
  have e4 : (0 : Int32).toInt = 0 := rfl
  have e5 : (255 : Int32).toInt = 255 := rfl
  exact ⟨Int32.le_iff_toInt_le.mpr (by omega), Int32.le_iff_toInt_le.mpr (by omega)⟩
theorem tup {f : Nat → Int32} {i : Nat} {v : Int32} : upd f i v i = v := by simp [upd]
theorem tupn {f : Nat → Int32} {i j : Nat} {v : Int32} (h : j ≠ i) : upd f i v j = f j := by simp [upd, h]
/-- how many of 0 .. n - 1 have p -/
def cn (p : Nat → Bool) : Nat → Nat
  | 0 => 0
  | n + 1 => cn p n + (if p n = true then 1 else 0)
theorem cn_le (p : Nat → Bool) (n : Nat) : cn p n ≤ n := by
  induction n with
  | zero => exact Nat.le_refl _
  | succ n ih =>
    rw [cn]
    split <;> omega
theorem cn_mono {p q : Nat → Bool} {n : Nat} (h : ∀ i, i < n → p i = true → q i = true) : cn p n ≤ cn q n := by
  induction n with
  | zero => exact Nat.le_refl _
  | succ n ih =>
    have h1 := ih (fun i hi => h i (by omega))
    have h2 := h n (by omega)
    rw [cn, cn]
    by_cases a : p n = true
    · rw [if_pos a, if_pos (h2 a)]
      omega
    · rw [if_neg a]
      omega
theorem cn_lt {p q : Nat → Bool} {n j : Nat} (h : ∀ i, i < n → p i = true → q i = true) (hj : j < n) (hp : ¬ p j = true) (hq : q j = true) : cn p n < cn q n := by
  induction n with
  | zero => omega
  | succ n ih =>
    have h2 := h n (by omega)
    rw [cn, cn]
    by_cases e : j = n
    · subst e
      have h1 := cn_mono (p := p) (q := q) (n := j) (fun i hi => h i (by omega))
      rw [if_neg hp, if_pos hq]
      omega
    · have h1 := ih (fun i hi => h i (by omega)) (by omega)
      by_cases a : p n = true
      · rw [if_pos a, if_pos (h2 a)]
        omega
      · rw [if_neg a]
        omega
theorem tcl {x : Int32} (h : 0 ≤ x) : (x.toNatClampNeg : Int) = x.toInt := by
  have := tle h
  have e0 : (0 : Int32).toInt = 0 := rfl
  show ((x.toInt.toNat : Nat) : Int) = x.toInt
  omega
theorem tcl2 {x : Int32} (h0 : 0 ≤ x) (h1 : x ≤ 63) : x.toNatClampNeg < 64 ∧ (2 * x).toNatClampNeg = 2 * x.toNatClampNeg ∧ ((2 * x) + 1).toNatClampNeg = 2 * x.toNatClampNeg + 1 ∧ (128 + 2 * x).toNatClampNeg = 128 + 2 * x.toNatClampNeg ∧ ((128 + 2 * x) + 1).toNatClampNeg = 128 + 2 * x.toNatClampNeg + 1 := by
  have a0 := tcl h0
  have z0 := tle h0
  have z1 := tle h1
  have e0 : (0 : Int32).toInt = 0 := rfl
  have e2 : (2 : Int32).toInt = 2 := rfl
  have e3 : (63 : Int32).toInt = 63 := rfl
  have e4 : (128 : Int32).toInt = 128 := rfl
  have e5 : (1 : Int32).toInt = 1 := rfl
  have m1 : (2 * x).toInt = 2 * x.toInt := by
    rw [Int32.toInt_mul, e2]
    exact Int.bmod_eq_of_le (by omega) (by omega)
  have m2 : ((2 * x) + 1).toInt = 2 * x.toInt + 1 := by
    rw [Int32.toInt_add, m1, e5]
    exact Int.bmod_eq_of_le (by omega) (by omega)
  have m3 : (128 + 2 * x).toInt = 128 + 2 * x.toInt := by
    rw [Int32.toInt_add, m1, e4]
    exact Int.bmod_eq_of_le (by omega) (by omega)
  have m4 : ((128 + 2 * x) + 1).toInt = 128 + 2 * x.toInt + 1 := by
    rw [Int32.toInt_add, m3, e5]
    exact Int.bmod_eq_of_le (by omega) (by omega)
  have n1 := tcl (x := 2 * x) (Int32.le_iff_toInt_le.mpr (by omega))
  have n2 := tcl (x := 2 * x + 1) (Int32.le_iff_toInt_le.mpr (by omega))
  have n3 := tcl (x := 128 + 2 * x) (Int32.le_iff_toInt_le.mpr (by omega))
  have n4 := tcl (x := 128 + 2 * x + 1) (Int32.le_iff_toInt_le.mpr (by omega))
  refine ⟨by omega, by omega, by omega, by omega, by omega⟩
def tlo (v : Int32) : Int32 := (v &&& 255)
def thi (v : Int32) : Int32 := ((v >>> (8 &&& 31)) &&& 255)
def nv (v : Int32) : Int32 := tlo v + 256 * thi v
/-- cell i of the first table -/
def ce (f : Nat → Int32) (i : Nat) : Int32 := f (2 * i) + 256 * f (2 * i + 1)
/-- how many cells are not 0 -/
def nz (f : Nat → Int32) : Nat := cn (fun i => decide (¬ ce f i = 0)) 64
theorem nz_le (f : Nat → Int32) : nz f ≤ 64 := cn_le _ _
theorem ce_r {f : Nat → Int32} (h : ta 0 255 f) (i : Nat) : 0 ≤ ce f i ∧ ce f i ≤ 65535 := by
  have a := h (2 * i)
  have b := h (2 * i + 1)
  rw [ce]
  grind
/-- a cell as the functions read it -/
theorem ce_x {f : Nat → Int32} {x : Int32} (h0 : 0 ≤ x) (h1 : x ≤ 63) : f (2 * x).toNatClampNeg + 256 * f ((2 * x) + 1).toNatClampNeg = ce f x.toNatClampNeg := by
  obtain ⟨a, b, c, d, e⟩ := tcl2 h0 h1
  rw [b, c, ce]
theorem ce_1 {f r : Nat → Int32} {x a b : Int32} (h0 : 0 ≤ x) (h1 : x ≤ 63) (hr : r = upd (upd f (2 * x).toNatClampNeg a) ((2 * x) + 1).toNatClampNeg b) : (∀ i, i ≠ x.toNatClampNeg → ce r i = ce f i) ∧ ce r x.toNatClampNeg = a + 256 * b ∧ ∀ j, 128 ≤ j → r j = f j := by
  obtain ⟨z, e1, e2, -, -⟩ := tcl2 h0 h1
  rw [e1, e2] at hr
  subst hr
  refine ⟨fun i hi => ?_, ?_, fun j hj => ?_⟩
  · rw [ce, ce, tupn (by omega), tupn (by omega), tupn (by omega), tupn (by omega)]
  · rw [ce, tupn (by omega), tup, tup]
  · rw [tupn (by omega), tupn (by omega)]
theorem ce_2 {f r : Nat → Int32} {x a b : Int32} (h0 : 0 ≤ x) (h1 : x ≤ 63) (hr : r = upd (upd f (128 + 2 * x).toNatClampNeg a) ((128 + 2 * x) + 1).toNatClampNeg b) : ∀ j, j < 128 ∨ 256 ≤ j → r j = f j := by
  obtain ⟨z, -, -, e1, e2⟩ := tcl2 h0 h1
  rw [e1, e2] at hr
  subst hr
  intro j hj
  rw [tupn (by omega), tupn (by omega)]
theorem ce_c {f r : Nat → Int32} (h : ∀ j, j < 128 → r j = f j) {i : Nat} (hi : i < 64) : ce r i = ce f i := by
  rw [ce, ce, h _ (by omega), h _ (by omega)]
/-- from w to r: dead stays dead, the first table stands -/
def tk (w r : am_MS) : Prop := (r.2.1 = 0 → w.2.1 = 0) ∧ ∀ j, j < 128 → r.2.2.2.2.2.2.2.1 j = w.2.2.2.2.2.2.2.1 j
theorem tk_r {w : am_MS} : tk w w := ⟨fun h => h, fun _ _ => rfl⟩
theorem tk_t {w r s : am_MS} (h : tk w r) (k : tk r s) : tk w s := ⟨fun z => h.1 (k.1 z), fun j hj => (k.2 j hj).trans (h.2 j hj)⟩
/-- from w to r: cell x got v, if the power is on still -/
def ts (w r : am_MS) (x v : Int32) : Prop := (r.2.1 = 0 → w.2.1 = 0) ∧ (∀ j, 256 ≤ j → r.2.2.2.2.2.2.2.1 j = w.2.2.2.2.2.2.2.1 j) ∧ (∀ i, i < 64 → i ≠ x.toNatClampNeg → ce r.2.2.2.2.2.2.2.1 i = ce w.2.2.2.2.2.2.2.1 i) ∧ (r.2.1 = 0 → ce r.2.2.2.2.2.2.2.1 x.toNatClampNeg = nv v)
theorem ts_d {w r : am_MS} {x v : Int32} (h : ¬ r.2.1 = 0) (e : r.2.2.2.2.2.2.2.1 = w.2.2.2.2.2.2.2.1) : ts w r x v :=
  ⟨fun z => absurd z h, fun j _ => by rw [e], fun i _ _ => by rw [e], fun z => absurd z h⟩
theorem ts_1 {w r : am_MS} {x v : Int32} (h0 : 0 ≤ x) (h1 : x ≤ 63) (h : ¬ r.2.1 = 0) (e : r.2.2.2.2.2.2.2.1 = upd (upd w.2.2.2.2.2.2.2.1 (2 * x).toNatClampNeg (v &&& 255)) ((2 * x) + 1).toNatClampNeg ((v >>> (8 &&& 31)) &&& 255)) : ts w r x v := by
  obtain ⟨a, b, c⟩ := ce_1 h0 h1 e
  exact ⟨fun z => absurd z h, fun j hj => c j (by omega), fun i _ hi => a i hi, fun z => absurd z h⟩
theorem ts_2 {w r : am_MS} {x v : Int32} {f : Nat → Int32} (h0 : 0 ≤ x) (h1 : x ≤ 63) (h : w.2.1 = 0) (e : f = upd (upd w.2.2.2.2.2.2.2.1 (2 * x).toNatClampNeg (v &&& 255)) ((2 * x) + 1).toNatClampNeg ((v >>> (8 &&& 31)) &&& 255)) (e2 : r.2.2.2.2.2.2.2.1 = upd (upd f (128 + 2 * x).toNatClampNeg (v &&& 255)) ((128 + 2 * x) + 1).toNatClampNeg ((v >>> (8 &&& 31)) &&& 255)) : ts w r x v := by
  obtain ⟨a, b, c⟩ := ce_1 h0 h1 e
  have d := ce_2 h0 h1 e2
  have k := (tcl2 h0 h1).1
  refine ⟨fun _ => h, fun j hj => ?_, fun i hi hn => ?_, fun _ => ?_⟩
  · rw [d j (by omega), c j (by omega)]
  · rw [ce_c (fun j hj => d j (by omega)) hi, a i hn]
  · exact (ce_c (fun j hj => d j (by omega)) k).trans b
/-- a number stored behind the first table -/
theorem tk_n {w r : am_MS} {x a b : Int32} {f : Nat → Int32} (h0 : 128 ≤ x) (h1 : x ≤ 2238) (hd : r.2.1 = 0 → w.2.1 = 0) (e : r.2.2.2.2.2.2.2.1 = upd (upd f x.toNatClampNeg a) (x + 1).toNatClampNeg b) (hf : f = w.2.2.2.2.2.2.2.1) : tk w r := by
  subst hf
  have z0 := tle h0
  have z1 := tle h1
  have e0 : (128 : Int32).toInt = 128 := rfl
  have e1 : (2238 : Int32).toInt = 2238 := rfl
  have e2 := tsu (x := x) (by omega)
  have e3 : (0 : Int32).toInt = 0 := rfl
  have n1 := tcl (x := x) (Int32.le_iff_toInt_le.mpr (by omega))
  have n2 := tcl (x := x + 1) (Int32.le_iff_toInt_le.mpr (by omega))
  refine ⟨hd, fun j hj => ?_⟩
  rw [e, tupn (by omega), tupn (by omega)]
/-- a byte stored behind the first table -/
theorem tk_b {w r : am_MS} {x a : Int32} {f : Nat → Int32} (h0 : 128 ≤ x) (hd : r.2.1 = 0 → w.2.1 = 0) (e : r.2.2.2.2.2.2.2.1 = upd f x.toNatClampNeg a) (hf : f = w.2.2.2.2.2.2.2.1) : tk w r := by
  subst hf
  have z0 := tle h0
  have e0 : (128 : Int32).toInt = 128 := rfl
  have e3 : (0 : Int32).toInt = 0 := rfl
  have n1 := tcl (x := x) (Int32.le_iff_toInt_le.mpr (by omega))
  refine ⟨hd, fun j hj => ?_⟩
  rw [e, tupn (by omega)]
/-- the first n cells are mended, if the power is on -/
def tT (n : Nat) (w : am_MS) : Prop := w.2.1 = 0 → ∀ i, i < n → ce w.2.2.2.2.2.2.2.1 i ≤ 63 ∨ ce w.2.2.2.2.2.2.2.1 i = 65535
theorem tT_k {n : Nat} {w r : am_MS} (k : tk w r) (hn : n ≤ 64) (h : tT n w) : tT n r := by
  intro z i hi
  rw [ce_c k.2 (by omega)]
  exact h (k.1 z) i hi
theorem tT_s {n : Nat} {w r : am_MS} {x : Int32} (k : ts w r x 65535) (hn : n ≤ 64) (h : tT n w) : tT n r := by
  intro z i hi
  obtain ⟨a, b, c, d⟩ := k
  by_cases e : i = x.toNatClampNeg
  · subst e
    right
    rw [d z]
    decide
  · rw [c i (by omega) e]
    exact h (a z) i hi
theorem tT_x {n : Nat} {w : am_MS} {x : Int32} (h : tT n w) (z : w.2.1 = 0) (h0 : 0 ≤ x) (h1 : x.toNatClampNeg < n) : ce w.2.2.2.2.2.2.2.1 x.toNatClampNeg ≤ 63 ∨ ce w.2.2.2.2.2.2.2.1 x.toNatClampNeg = 65535 := h z _ h1
theorem nz_k {w r : am_MS} (k : tk w r) : nz r.2.2.2.2.2.2.2.1 = nz w.2.2.2.2.2.2.2.1 := by
  have h : ∀ i, i < 64 → ce r.2.2.2.2.2.2.2.1 i = ce w.2.2.2.2.2.2.2.1 i := fun i hi => ce_c k.2 hi
  refine Nat.le_antisymm (cn_mono fun i hi e => ?_) (cn_mono fun i hi e => ?_)
  · rw [h i hi] at e
    exact e
  · rw [h i hi]
    exact e
/-- a cell got a value that is not 0 -/
theorem nz_s {w r : am_MS} {x v : Int32} (k : ts w r x v) (z : r.2.1 = 0) (hv : ¬ nv v = 0) : nz w.2.2.2.2.2.2.2.1 ≤ nz r.2.2.2.2.2.2.2.1 := by
  obtain ⟨a, b, c, d⟩ := k
  refine cn_mono fun i hi e => ?_
  by_cases q : i = x.toNatClampNeg
  · subst q
    rw [d z]
    exact decide_eq_true hv
  · rw [c i hi q]
    exact e
theorem nz_s1 {w r : am_MS} {x v : Int32} (k : ts w r x v) (z : r.2.1 = 0) (hv : ¬ nv v = 0) (hx : x.toNatClampNeg < 64) (h0 : ce w.2.2.2.2.2.2.2.1 x.toNatClampNeg = 0) : nz w.2.2.2.2.2.2.2.1 < nz r.2.2.2.2.2.2.2.1 := by
  obtain ⟨a, b, c, d⟩ := k
  refine cn_lt (j := x.toNatClampNeg) (fun i hi e => ?_) hx ?_ ?_
  · by_cases q : i = x.toNatClampNeg
    · subst q
      rw [d z]
      exact decide_eq_true hv
    · rw [c i hi q]
      exact e
  · rw [h0]
    decide
  · rw [d z]
    exact decide_eq_true hv
/-- a cell that was not 0 got 0 -/
theorem nz_0 {w r : am_MS} {x : Int32} (k : ts w r x 0) (z : r.2.1 = 0) (hx : x.toNatClampNeg < 64) (h0 : ¬ ce w.2.2.2.2.2.2.2.1 x.toNatClampNeg = 0) : nz r.2.2.2.2.2.2.2.1 < nz w.2.2.2.2.2.2.2.1 := by
  obtain ⟨a, b, c, d⟩ := k
  have d1 : ce r.2.2.2.2.2.2.2.1 x.toNatClampNeg = 0 := by
    rw [d z]
    decide
  refine cn_lt (j := x.toNatClampNeg) (fun i hi e => ?_) hx ?_ ?_
  · by_cases q : i = x.toNatClampNeg
    · subst q
      rw [d1] at e
      exact absurd e (by decide)
    · rw [← c i hi q]
      exact e
  · rw [d1]
    decide
  · exact decide_eq_true h0
/-- v as two bytes is v -/
theorem nv_x {v : Int32} (h0 : 0 ≤ v) (h1 : v ≤ 63) : nv v = v := by
  have z0 := tle h0
  have z1 := tle h1
  have e0 : (0 : Int32).toInt = 0 := rfl
  have e1 : (63 : Int32).toInt = 63 := rfl
  have e : v = Int32.ofInt (v.toInt.toNat : Int) := by
    have : ((v.toInt.toNat : Nat) : Int) = v.toInt := by omega
    rw [this, Int32.ofInt_toInt]
  have hk : ∀ k : Fin 64, nv (Int32.ofInt (k.val : Int)) = Int32.ofInt (k.val : Int) := by decide +kernel
  have h2 := hk ⟨v.toInt.toNat, by omega⟩
  rw [e]
  exact h2
/-- what is within the chain -/
def tc (f : Nat → Int32) (x n : Int32) : Prop := ∀ m v : Int32, 0 ≤ m → m < n → f_M_cluster f x m = some v → 2 ≤ v
theorem tc_0 {f : Nat → Int32} {x : Int32} : tc f x 0 := fun m v h0 h1 _ => by grind
theorem tc_s {f : Nat → Int32} {x n v : Int32} (h : tc f x n) (hn : n < 64) (h0 : 0 ≤ n) (e : f_M_cluster f x n = some v) (hv : 2 ≤ v) : tc f x (n + 1) := by
  intro m u m0 m1 hu
  by_cases q : m = n
  · subst q
    have : v = u := Option.some.inj (e.symm.trans hu)
    subst this
    exact hv
  · exact h m u m0 (by clear h e hu; grind) hu
/-- a place within the chain lies behind the tables -/
def tp (f : Nat → Int32) (x k r : Int32) : Prop := ∀ n, tc f x n → 0 ≤ n → n ≤ 64 → 0 ≤ k → k < 2 * n → 256 ≤ r
theorem tk_e {w r : am_MS} (hd : r.2.1 = 0 → w.2.1 = 0) (e : r.2.2.2.2.2.2.2.1 = w.2.2.2.2.2.2.2.1) : tk w r := ⟨hd, fun j _ => by rw [e]⟩
/-- as tk, where the number lies behind the first table -/
def tn (w r : am_MS) (x : Int32) : Prop := 128 ≤ x → tk w r
theorem tn_x {w r : am_MS} {x : Int32} (h : tn w r x) (hx : 128 ≤ x) : tk w r := h hx
/-- behind the tables nothing has changed -/
def th (w r : am_MS) : Prop := ∀ j, 256 ≤ j → r.2.2.2.2.2.2.2.1 j = w.2.2.2.2.2.2.2.1 j
theorem th_r {w : am_MS} : th w w := fun _ _ => rfl
theorem th_t {w r s : am_MS} (h : th w r) (k : th r s) : th w s := fun j hj => (k j hj).trans (h j hj)
theorem th_s {w r : am_MS} {x v : Int32} (k : ts w r x v) : th w r := k.2.1
theorem t256 {x : Int32} (h0 : 256 ≤ x) (h1 : x ≤ 2224) : 256 ≤ (x + 6).toNatClampNeg := by
  have z0 := tle h0
  have z1 := tle h1
  have e0 : (256 : Int32).toInt = 256 := rfl
  have e1 : (2224 : Int32).toInt = 2224 := rfl
  have e2 : (6 : Int32).toInt = 6 := rfl
  have e3 : (0 : Int32).toInt = 0 := rfl
  have m1 : (x + 6).toInt = x.toInt + 6 := by
    rw [Int32.toInt_add, e2]
    exact Int.bmod_eq_of_le (by omega) (by omega)
  have n1 := tcl (x := x + 6) (Int32.le_iff_toInt_le.mpr (by omega))
  omega
theorem tcl64 {x : Int32} (h0 : 0 ≤ x) (h1 : x ≤ 63) : x.toNatClampNeg < 64 := (tcl2 h0 h1).1
/-- what take leaves -/
def tg (w : am_MS) (r : Int32 × am_MS) : Prop := ¬ r.1 = 0 → r.2.2.1 = 0 → nz w.2.2.2.2.2.2.2.1 < nz r.2.2.2.2.2.2.2.2.1
theorem tg_i {w s d : am_MS} {x : Int32} {r : Int32 × am_MS} (k : ts w s x 65535) (hd : d.2.1 = 0 → s.2.1 = 0) (e : d.2.2.2.2.2.2.2.1 = s.2.2.2.2.2.2.2.1) (t : tk d r.2) (h0 : 0 ≤ x) (h1 : x ≤ 63) (hz : ce w.2.2.2.2.2.2.2.1 x.toNatClampNeg = 0) : tg w r := by
  intro _ z
  have h2 := nz_s1 k (hd (t.1 z)) (by decide) (tcl64 h0 h1) hz
  rw [nz_k t, e]
  exact h2
/-- make's measure -/
def tq (w : am_MS) (n : Nat) : Prop := 0 < n ∧ (w.2.1 = 0 → 66 < nz w.2.2.2.2.2.2.2.1 + n)
theorem tq_z (w : am_MS) : tq w 100000000000 := ⟨by omega, fun _ => by omega⟩
theorem tq_s {w r : am_MS} {p : Int32 × am_MS} {x : Int32} {n : Nat} (hm : tq w (n + 1)) (z : w.2.1 = 0) (k : ts p.2 r x p.1) (g : tg w p) (h : ¬ p.1 = 0) (h2 : p.1 = 0 ∨ 2 ≤ p.1 ∧ p.1 ≤ 63) : tq r n := by
  have a := hm.2 z
  have b := nz_le w.2.2.2.2.2.2.2.1
  refine ⟨by omega, fun y => ?_⟩
  have c := g h (k.1 y)
  have h3 : 2 ≤ p.1 ∧ p.1 ≤ 63 := by
    rcases h2 with e | e
    · exact absurd e h
    · exact e
  have d := nz_s k y (by rw [nv_x (by grind) h3.2]; exact h)
  omega
/-- delete's measure -/
def tj (w : am_MS) (x : Int32) (n : Nat) : Prop := 0 < n ∧ (w.2.1 = 0 → 2 ≤ x → nz w.2.2.2.2.2.2.2.1 + 2 < n)
theorem tj_z (w : am_MS) (x : Int32) : tj w x 100000000000 := by
  have b := nz_le w.2.2.2.2.2.2.2.1
  exact ⟨by omega, fun _ _ => by omega⟩
theorem tj_s {w r : am_MS} {x y : Int32} {n : Nat} (hm : tj w x (n + 1)) (z : w.2.1 = 0) (h2 : 2 ≤ x) (h3 : x ≤ 63) (k : ts w r x 0) (e : y = ce w.2.2.2.2.2.2.2.1 x.toNatClampNeg) : tj r y n := by
  have a := hm.2 z h2
  refine ⟨by omega, fun u v => ?_⟩
  have c := nz_0 k u (tcl64 (by grind) h3) (by rw [← e]; grind)
  omega
/-- mendTables: the cells below x are mended -/
theorem tT_0 {w : am_MS} : tT (0 : Int32).toNatClampNeg w := fun _ i hi => absurd hi (Nat.not_lt_zero i)
theorem tT_d {n : Nat} {w : am_MS} (h : ¬ w.2.1 = 0) : tT n w := fun z => absurd z h
theorem tT_e {w : am_MS} {x : Int32} (h : tT x.toNatClampNeg w) (h0 : 0 ≤ x) (h1 : 64 ≤ x) : tT 64 w := by
  have z := tle h1
  have e : (64 : Int32).toInt = 64 := rfl
  have a := tcl h0
  exact fun u i hi => h u i (by omega)
theorem tnx {x : Int32} (h0 : 0 ≤ x) (h1 : ¬ 64 ≤ x) : (x + 1).toNatClampNeg = x.toNatClampNeg + 1 := by
  have z0 := tle h0
  have z := tnle h1
  have e : (64 : Int32).toInt = 64 := rfl
  have e0 : (0 : Int32).toInt = 0 := rfl
  have e1 := tsu (x := x) (by omega)
  have a := tcl h0
  have b := tcl (x := x + 1) (Int32.le_iff_toInt_le.mpr (by omega))
  omega
theorem tT_1 {w : am_MS} {x : Int32} (h : tT x.toNatClampNeg w) (h0 : 0 ≤ x) (h1 : ¬ 64 ≤ x) (c : ce w.2.2.2.2.2.2.2.1 x.toNatClampNeg ≤ 63 ∨ ce w.2.2.2.2.2.2.2.1 x.toNatClampNeg = 65535) : tT (x + 1).toNatClampNeg w := by
  rw [tnx h0 h1]
  intro u i hi
  by_cases q : i = x.toNatClampNeg
  · subst q
    exact c
  · exact h u i (by omega)
theorem tT_2 {w r : am_MS} {x : Int32} (k : ts w r x 65535) (h : tT x.toNatClampNeg w) (h0 : 0 ≤ x) (h1 : ¬ 64 ≤ x) : tT (x + 1).toNatClampNeg r := by
  by_cases u : r.2.1 = 0
  · have z := tnle h1
    have e : (64 : Int32).toInt = 64 := rfl
    have a := tcl h0
    have b := tT_s k (by omega) h
    refine tT_1 b h0 h1 ?_
    obtain ⟨k1, k2, k3, k4⟩ := k
    right
    rw [k4 u]
    decide
  · exact tT_d u
/-- how many clusters are not used -/
def un (mu : Nat → Int32) : Nat := cn (fun i => decide (mu i = 0)) 64
def tu (mu : Nat → Int32) (x : Int32) : Prop := 0 ≤ x ∧ x.toInt + (un mu : Int) ≤ 64
theorem tu_0 (mu : Nat → Int32) : tu mu 0 := by
  have b := cn_le (fun i => decide (mu i = 0)) 64
  have e0 : (0 : Int32).toInt = 0 := rfl
  refine ⟨by decide, ?_⟩
  rw [un, e0]
  omega
theorem tu_le {mu : Nat → Int32} {x : Int32} (h : tu mu x) : x ≤ 64 := by
  obtain ⟨h1, h2⟩ := h
  have e0 : (64 : Int32).toInt = 64 := rfl
  exact Int32.le_iff_toInt_le.mpr (by omega)
theorem un_s {mu : Nat → Int32} {k : Nat} (hk : k < 64) (h : mu k = 0) : un (upd mu k (vp_nar .boolean 1)) < un mu := by
  have e : vp_nar .boolean 1 = 1 := rfl
  rw [e]
  refine cn_lt (j := k) (fun i hi z => ?_) hk ?_ (decide_eq_true h)
  · by_cases q : i = k
    · subst q
      exact decide_eq_true h
    · rw [tupn q] at z
      exact z
  · rw [tup]
    decide
theorem tu_lt {mu : Nat → Int32} {x y : Int32} (h : tu mu x) (h0 : 0 ≤ y) (h1 : y ≤ 63) (hy : mu y.toNatClampNeg = 0) : x < 64 := by
  obtain ⟨h2, h3⟩ := h
  have a := un_s (tcl64 h0 h1) hy
  have e0 : (64 : Int32).toInt = 64 := rfl
  exact Int32.lt_iff_toInt_lt.mpr (by omega)
theorem tu_s {mu : Nat → Int32} {x y : Int32} (h : tu mu x) (h0 : 0 ≤ y) (h1 : y ≤ 63) (hy : mu y.toNatClampNeg = 0) : tu (upd mu y.toNatClampNeg (vp_nar .boolean 1)) (x + 1) := by
  have l := tlt (tu_lt h h0 h1 hy)
  obtain ⟨h2, h3⟩ := h
  have a := un_s (tcl64 h0 h1) hy
  have e0 : (64 : Int32).toInt = 64 := rfl
  have e1 := tsu (x := x) (by omega)
  have z := tle h2
  have e2 : (0 : Int32).toInt = 0 := rfl
  exact ⟨Int32.le_iff_toInt_le.mpr (by omega), by omega⟩
theorem tm_2 {mu : Nat → Int32} {x : Int32} (h : 2 < x → mu 2 = 0) (h0 : 0 ≤ x) (h1 : ¬ 64 ≤ x) : 2 < x + 1 → upd mu x.toNatClampNeg (vp_nar .boolean 0) 2 = 0 := by
  intro z
  by_cases q : x = 2
  · subst q
    have e : (2 : Int32).toNatClampNeg = 2 := rfl
    rw [e, tup]
    rfl
  · have h2 : 2 < x := by clear h; grind
    have l := tlt h2
    have e2 : (2 : Int32).toInt = 2 := rfl
    have a := tcl h0
    rw [tupn (by omega)]
    exact h h2
/-- write's measure -/
def tW (x y : Int32) (n : Nat) : Prop := 0 < n ∧ (¬ y = 0 → tm 64 x n)
theorem tW_1 {x y : Int32} {n : Nat} (v : Int32) (h : ¬ 64 ≤ x) (h2 : ¬ y = 0) (hm : tW x y (n + 1)) : tW (x + 1) v n := by
  have a := tm1 h (hm.2 h2)
  exact ⟨a.1, fun _ => a⟩
theorem tW_0 {x y : Int32} {n : Nat} (h : ¬ 64 ≤ x) (h2 : ¬ y = 0) (hm : tW x y (n + 1)) : tW x 0 n := by
  have a := tm1 h (hm.2 h2)
  exact ⟨a.1, fun z => absurd rfl z⟩
theorem tW_z (x y : Int32) : tW x y 100000000000 := ⟨by omega, fun _ => tmz _ _⟩
/-- walk's measure: what is left in each directory of the way, the deeper the less -/
def wt (nx : Nat → Int32) (d : Int32) : Int := (if 0 ≤ d then (129 - (nx 0).toInt) * 285610000 else 0) + (if 1 ≤ d then (129 - (nx 1).toInt) * 2197000 else 0) + (if 2 ≤ d then (129 - (nx 2).toInt) * 16900 else 0) + (if 3 ≤ d then (129 - (nx 3).toInt) * 130 else 0) + (if 4 ≤ d then (129 - (nx 4).toInt) else 0)
def tw (nx : Nat → Int32) (d : Int32) (n : Nat) : Prop := 0 < n ∧ wt nx d < n
theorem wt_b {nx : Nat → Int32} (h : ta 0 128 nx) (k : Nat) : 0 ≤ (nx k).toInt ∧ (nx k).toInt ≤ 128 := by
  have a := h k
  have e0 : (0 : Int32).toInt = 0 := rfl
  have e1 : (128 : Int32).toInt = 128 := rfl
  have b := tle a.1
  have c := tle a.2
  omega
theorem wt_0 {nx : Nat → Int32} (h : ta 0 128 nx) (d : Int32) : 0 ≤ wt nx d := by
  have b0 := wt_b h 0
  have b1 := wt_b h 1
  have b2 := wt_b h 2
  have b3 := wt_b h 3
  have b4 := wt_b h 4
  rw [wt]
  split <;> split <;> split <;> split <;> split <;> omega
theorem tw_z {nx : Nat → Int32} (h : ta 0 128 nx) (d : Int32) : tw nx d 100000000000 := by
  have b0 := wt_b h 0
  have b1 := wt_b h 1
  have b2 := wt_b h 2
  have b3 := wt_b h 3
  have b4 := wt_b h 4
  refine ⟨by omega, ?_⟩
  rw [wt]
  split <;> split <;> split <;> split <;> split <;> omega
theorem t5 {d : Int32} (h0 : 0 ≤ d) (h1 : d ≤ 4) : d = 0 ∨ d = 1 ∨ d = 2 ∨ d = 3 ∨ d = 4 := by grind
theorem tsu2 {v : Int32} (h : v ≤ 128) (h0 : 0 ≤ v) : (v + 1).toInt = v.toInt + 1 := by
  have a := tle h
  have e1 : (128 : Int32).toInt = 128 := rfl
  exact tsu (by omega)
theorem wtm (nx : Nat → Int32) : wt nx (-1) = 0 + 0 + 0 + 0 + 0 := by
  rw [wt, if_neg (show ¬ ((0 : Int32) ≤ (-1)) by decide), if_neg (show ¬ ((1 : Int32) ≤ (-1)) by decide), if_neg (show ¬ ((2 : Int32) ≤ (-1)) by decide), if_neg (show ¬ ((3 : Int32) ≤ (-1)) by decide), if_neg (show ¬ ((4 : Int32) ≤ (-1)) by decide)]
theorem wt0 (nx : Nat → Int32) : wt nx 0 = (129 - (nx 0).toInt) * 285610000 + 0 + 0 + 0 + 0 := by
  rw [wt, if_pos (show ((0 : Int32) ≤ 0) by decide), if_neg (show ¬ ((1 : Int32) ≤ 0) by decide), if_neg (show ¬ ((2 : Int32) ≤ 0) by decide), if_neg (show ¬ ((3 : Int32) ≤ 0) by decide), if_neg (show ¬ ((4 : Int32) ≤ 0) by decide)]
theorem wt1 (nx : Nat → Int32) : wt nx 1 = (129 - (nx 0).toInt) * 285610000 + (129 - (nx 1).toInt) * 2197000 + 0 + 0 + 0 := by
  rw [wt, if_pos (show ((0 : Int32) ≤ 1) by decide), if_pos (show ((1 : Int32) ≤ 1) by decide), if_neg (show ¬ ((2 : Int32) ≤ 1) by decide), if_neg (show ¬ ((3 : Int32) ≤ 1) by decide), if_neg (show ¬ ((4 : Int32) ≤ 1) by decide)]
theorem wt2 (nx : Nat → Int32) : wt nx 2 = (129 - (nx 0).toInt) * 285610000 + (129 - (nx 1).toInt) * 2197000 + (129 - (nx 2).toInt) * 16900 + 0 + 0 := by
  rw [wt, if_pos (show ((0 : Int32) ≤ 2) by decide), if_pos (show ((1 : Int32) ≤ 2) by decide), if_pos (show ((2 : Int32) ≤ 2) by decide), if_neg (show ¬ ((3 : Int32) ≤ 2) by decide), if_neg (show ¬ ((4 : Int32) ≤ 2) by decide)]
theorem wt3 (nx : Nat → Int32) : wt nx 3 = (129 - (nx 0).toInt) * 285610000 + (129 - (nx 1).toInt) * 2197000 + (129 - (nx 2).toInt) * 16900 + (129 - (nx 3).toInt) * 130 + 0 := by
  rw [wt, if_pos (show ((0 : Int32) ≤ 3) by decide), if_pos (show ((1 : Int32) ≤ 3) by decide), if_pos (show ((2 : Int32) ≤ 3) by decide), if_pos (show ((3 : Int32) ≤ 3) by decide), if_neg (show ¬ ((4 : Int32) ≤ 3) by decide)]
theorem wt4 (nx : Nat → Int32) : wt nx 4 = (129 - (nx 0).toInt) * 285610000 + (129 - (nx 1).toInt) * 2197000 + (129 - (nx 2).toInt) * 16900 + (129 - (nx 3).toInt) * 130 + (129 - (nx 4).toInt) := by
  rw [wt, if_pos (show ((0 : Int32) ≤ 4) by decide), if_pos (show ((1 : Int32) ≤ 4) by decide), if_pos (show ((2 : Int32) ≤ 4) by decide), if_pos (show ((3 : Int32) ≤ 4) by decide), if_pos (show ((4 : Int32) ≤ 4) by decide)]
theorem wa0 {nx : Nat → Int32} {v : Int32} (h : v.toInt = (nx 0).toInt + 1) : wt (upd nx 0 v) 0 < wt nx 0 := by
  rw [wt0, wt0, tup]
  omega
theorem wb0 {nx : Nat → Int32} (h : (nx 0).toInt ≤ 128) : wt nx (0 + (-1)) < wt nx 0 := by
  have e : (0 : Int32) + (-1) = (-1) := by decide
  rw [e, wtm, wt0]
  omega
theorem wc0 {nx : Nat → Int32} {v : Int32} (h : v.toInt = (nx 0).toInt + 1) : wt (upd (upd nx 0 v) 1 0) (0 + 1) < wt nx 0 := by
  have e : (0 : Int32) + 1 = 1 := by decide
  have e0 : (0 : Int32).toInt = 0 := rfl
  rw [e, wt1, wt0, tupn (show (0 : Nat) ≠ 1 by decide), tup, tup, e0]
  omega
theorem wa1 {nx : Nat → Int32} {v : Int32} (h : v.toInt = (nx 1).toInt + 1) : wt (upd nx 1 v) 1 < wt nx 1 := by
  rw [wt1, wt1, tupn (show (0 : Nat) ≠ 1 by decide), tup]
  omega
theorem wb1 {nx : Nat → Int32} (h : (nx 1).toInt ≤ 128) : wt nx (1 + (-1)) < wt nx 1 := by
  have e : (1 : Int32) + (-1) = 0 := by decide
  rw [e, wt0, wt1]
  omega
theorem wc1 {nx : Nat → Int32} {v : Int32} (h : v.toInt = (nx 1).toInt + 1) : wt (upd (upd nx 1 v) 2 0) (1 + 1) < wt nx 1 := by
  have e : (1 : Int32) + 1 = 2 := by decide
  have e0 : (0 : Int32).toInt = 0 := rfl
  rw [e, wt2, wt1, tupn (show (0 : Nat) ≠ 2 by decide), tupn (show (0 : Nat) ≠ 1 by decide), tupn (show (1 : Nat) ≠ 2 by decide), tup, tup, e0]
  omega
theorem wa2 {nx : Nat → Int32} {v : Int32} (h : v.toInt = (nx 2).toInt + 1) : wt (upd nx 2 v) 2 < wt nx 2 := by
  rw [wt2, wt2, tupn (show (0 : Nat) ≠ 2 by decide), tupn (show (1 : Nat) ≠ 2 by decide), tup]
  omega
theorem wb2 {nx : Nat → Int32} (h : (nx 2).toInt ≤ 128) : wt nx (2 + (-1)) < wt nx 2 := by
  have e : (2 : Int32) + (-1) = 1 := by decide
  rw [e, wt1, wt2]
  omega
theorem wc2 {nx : Nat → Int32} {v : Int32} (h : v.toInt = (nx 2).toInt + 1) : wt (upd (upd nx 2 v) 3 0) (2 + 1) < wt nx 2 := by
  have e : (2 : Int32) + 1 = 3 := by decide
  have e0 : (0 : Int32).toInt = 0 := rfl
  rw [e, wt3, wt2, tupn (show (0 : Nat) ≠ 3 by decide), tupn (show (0 : Nat) ≠ 2 by decide), tupn (show (1 : Nat) ≠ 3 by decide), tupn (show (1 : Nat) ≠ 2 by decide), tupn (show (2 : Nat) ≠ 3 by decide), tup, tup, e0]
  omega
theorem wa3 {nx : Nat → Int32} {v : Int32} (h : v.toInt = (nx 3).toInt + 1) : wt (upd nx 3 v) 3 < wt nx 3 := by
  rw [wt3, wt3, tupn (show (0 : Nat) ≠ 3 by decide), tupn (show (1 : Nat) ≠ 3 by decide), tupn (show (2 : Nat) ≠ 3 by decide), tup]
  omega
theorem wb3 {nx : Nat → Int32} (h : (nx 3).toInt ≤ 128) : wt nx (3 + (-1)) < wt nx 3 := by
  have e : (3 : Int32) + (-1) = 2 := by decide
  rw [e, wt2, wt3]
  omega
theorem wc3 {nx : Nat → Int32} {v : Int32} (h : v.toInt = (nx 3).toInt + 1) : wt (upd (upd nx 3 v) 4 0) (3 + 1) < wt nx 3 := by
  have e : (3 : Int32) + 1 = 4 := by decide
  have e0 : (0 : Int32).toInt = 0 := rfl
  rw [e, wt4, wt3, tupn (show (0 : Nat) ≠ 4 by decide), tupn (show (0 : Nat) ≠ 3 by decide), tupn (show (1 : Nat) ≠ 4 by decide), tupn (show (1 : Nat) ≠ 3 by decide), tupn (show (2 : Nat) ≠ 4 by decide), tupn (show (2 : Nat) ≠ 3 by decide), tupn (show (3 : Nat) ≠ 4 by decide), tup, tup, e0]
  omega
theorem wa4 {nx : Nat → Int32} {v : Int32} (h : v.toInt = (nx 4).toInt + 1) : wt (upd nx 4 v) 4 < wt nx 4 := by
  rw [wt4, wt4, tupn (show (0 : Nat) ≠ 4 by decide), tupn (show (1 : Nat) ≠ 4 by decide), tupn (show (2 : Nat) ≠ 4 by decide), tupn (show (3 : Nat) ≠ 4 by decide), tup]
  omega
theorem wb4 {nx : Nat → Int32} (h : (nx 4).toInt ≤ 128) : wt nx (4 + (-1)) < wt nx 4 := by
  have e : (4 : Int32) + (-1) = 3 := by decide
  rw [e, wt3, wt4]
  omega
theorem tw_i {nx mx : Nat → Int32} {d c : Int32} {n : Nat} (h : ta 0 128 nx) (hm : tw nx d (n + 1)) (p : 0 ≤ wt mx c) (k : wt mx c < wt nx d) : tw mx c n := by
  obtain ⟨m1, m2⟩ := hm
  exact ⟨by omega, by omega⟩
/-- one entry further -/
theorem tw_a {nx : Nat → Int32} {d v : Int32} {n : Nat} (h : ta 0 128 nx) (h2 : ta 0 128 (upd nx d.toNatClampNeg v)) (h0 : 0 ≤ d) (h1 : d ≤ 4) (hv : v = nx d.toNatClampNeg + 1) (hm : tw nx d (n + 1)) : tw (upd nx d.toNatClampNeg v) d n := by
  refine tw_i h hm (wt_0 h2 d) ?_
  have a := tsu2 (h d.toNatClampNeg).2 (h d.toNatClampNeg).1
  rw [← hv] at a
  rcases t5 h0 h1 with e | e | e | e | e <;> subst e
  · exact wa0 a
  · exact wa1 a
  · exact wa2 a
  · exact wa3 a
  · exact wa4 a
/-- out of a directory -/
theorem tw_b {nx : Nat → Int32} {d : Int32} {n : Nat} (h : ta 0 128 nx) (h0 : 0 ≤ d) (h1 : d ≤ 4) (hm : tw nx d (n + 1)) : tw nx (d + (-1)) n := by
  refine tw_i h hm (wt_0 h _) ?_
  rcases t5 h0 h1 with e | e | e | e | e <;> subst e
  · exact wb0 (wt_b h 0).2
  · exact wb1 (wt_b h 1).2
  · exact wb2 (wt_b h 2).2
  · exact wb3 (wt_b h 3).2
  · exact wb4 (wt_b h 4).2
/-- into a directory -/
theorem tw_c {nx : Nat → Int32} {d v : Int32} {n : Nat} (h : ta 0 128 nx) (h2 : ta 0 128 (upd (upd nx d.toNatClampNeg v) (d + 1).toNatClampNeg 0)) (h0 : 0 ≤ d) (h1 : d ≤ 3) (hv : v = nx d.toNatClampNeg + 1) (hm : tw nx d (n + 1)) : tw (upd (upd nx d.toNatClampNeg v) (d + 1).toNatClampNeg 0) (d + 1) n := by
  refine tw_i h hm (wt_0 h2 _) ?_
  have a := tsu2 (h d.toNatClampNeg).2 (h d.toNatClampNeg).1
  rw [← hv] at a
  rcases t5 h0 (by clear h h2; grind) with e | e | e | e | e <;> subst e
  · exact wc0 a
  · exact wc1 a
  · exact wc2 a
  · exact wc3 a
  · exact absurd h1 (by decide)
