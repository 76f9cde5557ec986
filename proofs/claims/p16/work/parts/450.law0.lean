/-! the law's loop -/
theorem tl_i {L : Nat} {l : Int32} (hL : L ≤ 2560) (hl : l = Int32.ofNat L) : l.toInt = L := by
  subst hl
  have e : Int32.size = 4294967296 := rfl
  rw [Int32.toInt_ofNat', e]
  exact Int.bmod_eq_of_le (by omega) (by omega)
theorem tl_0 {L : Nat} {l : Int32} (hL : L ≤ 2560) (hl : l = Int32.ofNat L) : 0 ≤ l ∧ l ≤ 2560 := by
  have h := tl_i hL hl
  have e0 : (0 : Int32).toInt = 0 := rfl
  have e1 : (2560 : Int32).toInt = 2560 := rfl
  exact ⟨Int32.le_iff_toInt_le.mpr (by omega), Int32.le_iff_toInt_le.mpr (by omega)⟩
theorem tiL {L : Nat} {l e : Int32} (hL : L ≤ 2560) (hl : l = Int32.ofNat L) (h0 : 0 ≤ e) (h1 : e < l) : am_in e L = true := ti l h0 h1 (tl_i hL hl)
def tl (L : Nat) (x : Int32) (n : Nat) : Prop := 0 < n ∧ (L : Int) - x.toInt < 5 * (n : Int)
theorem tl_z {L : Nat} (hL : L ≤ 2560) : tl L 0 600 := by
  have e0 : (0 : Int32).toInt = 0 := rfl
  refine ⟨by omega, ?_⟩
  rw [e0]
  omega
theorem tl_s {L n : Nat} {l x : Int32} (hL : L ≤ 2560) (hl : l = Int32.ofNat L) (h : ¬ (l - 5) < x) (h0 : 0 ≤ x) (hm : tl L x (n + 1)) : tl L (x + 5) n := by
  have a := tl_i hL hl
  have z := tnlt h
  have z0 := tle h0
  have e0 : (0 : Int32).toInt = 0 := rfl
  have e5 : (5 : Int32).toInt = 5 := rfl
  have m1 : (l - 5).toInt = l.toInt - 5 := by
    rw [Int32.toInt_sub, e5]
    exact Int.bmod_eq_of_le (by omega) (by omega)
  have m2 : (x + 5).toInt = x.toInt + 5 := by
    rw [Int32.toInt_add, e5]
    exact Int.bmod_eq_of_le (by omega) (by omega)
  obtain ⟨h1, h2⟩ := hm
  refine ⟨by omega, ?_⟩
  rw [m2]
  omega
