theorem g_iald {κ : am_K} {μ : am_N} {o1 : am_O} {h1 : List am_E} {nc ns pc n : Nat} {ls : List (Nat × Value)} {st : List Value} {h : List am_E} {q0 N : Nat} {f : Nat → Int32} {i : Int32} (d : decode (am_cc μ) pc = .ok (.iaload, 1)) (en : pc + 1 = n) (he : h[q0]? = some (.inl (.int, N, .inl f))) (hin : vp_in i N)
    (kk : am_G κ μ o1 h1 nc ns n ls (.int (f i.toNatClampNeg) :: st) h) : am_G κ μ o1 h1 nc ns pc ls (.int i :: .ref q0 :: st) h := by
  subst en
  intro p e s m args below meth c H locs A sb ad0 ad lv I hlv
  have I0 := I
  obtain ⟨S, -, hT, -, -, -, -, hlen, hP, hD, hS⟩ := I
  exact va_iald S.1 S.2.1 hT.1 hP q0 0 (am_w_at hlen he) rfl hin d (kk p e s m args below meth c H locs A sb ad0 ad lv I0 hlv)
theorem g_iast {κ : am_K} {μ : am_N} {o1 : am_O} {h1 : List am_E} {nc ns pc n : Nat} {ls : List (Nat × Value)} {st : List Value} {h : List am_E} {h' : List am_E} {q0 N : Nat} {f : Nat → Int32} {i : Int32} {x : Int32} (d : decode (am_cc μ) pc = .ok (.iastore, 1)) (en : pc + 1 = n) (he : h[q0]? = some (.inl (.int, N, .inl f))) (hin : vp_in i N) (hs : h.set q0 (.inl (.int, N, .inl (upd f i.toNatClampNeg x))) = h')
    (kk : am_G κ μ o1 h1 nc ns n ls st h') : am_G κ μ o1 h1 nc ns pc ls (.int x :: .int i :: .ref q0 :: st) h := by
  subst en
  intro p e s m args below meth c H locs A sb ad0 ad lv I hlv
  have I0 := I
  obtain ⟨S, -, hT, -, -, -, -, hlen, hP, hD, hS⟩ := I
  exact va_iast S.1 S.2.1 hT.1 hP hD hS q0 0 (am_w_at hlen he) rfl hin d (fun H1 locs1 hP1 hD1 hS1 => kk p e s m args below meth c H1 locs1 A sb ad0 ad lv (I0.put (am_lt he) hs hP1 hD1 hS1) hlv)
theorem g_ialen {κ : am_K} {μ : am_N} {o1 : am_O} {h1 : List am_E} {nc ns pc n : Nat} {ls : List (Nat × Value)} {st : List Value} {h : List am_E} {q0 N : Nat} {f : Nat → Int32} {v : Int32} (d : decode (am_cc μ) pc = .ok (.arraylength, 1)) (en : pc + 1 = n) (he : h[q0]? = some (.inl (.int, N, .inl f))) (hv : Int32.ofNat N = v)
    (kk : am_G κ μ o1 h1 nc ns n ls (.int v :: st) h) : am_G κ μ o1 h1 nc ns pc ls (.ref q0 :: st) h := by
  subst en
  intro p e s m args below meth c H locs A sb ad0 ad lv I hlv
  have I0 := I
  obtain ⟨S, -, hT, -, -, -, -, hlen, hP, hD, hS⟩ := I
  exact va_alen S.1 S.2.1 hT.1 hP q0 0 (am_w_at hlen he) (ty := .int) rfl hv d (kk p e s m args below meth c H locs A sb ad0 ad lv I0 hlv)
theorem g_zald {κ : am_K} {μ : am_N} {o1 : am_O} {h1 : List am_E} {nc ns pc n : Nat} {ls : List (Nat × Value)} {st : List Value} {h : List am_E} {q0 N : Nat} {f : Nat → Int32} {i : Int32} (d : decode (am_cc μ) pc = .ok (.baload, 1)) (en : pc + 1 = n) (he : h[q0]? = some (.inl (.boolean, N, .inl f))) (hin : vp_in i N)
    (kk : am_G κ μ o1 h1 nc ns n ls (.int (f i.toNatClampNeg) :: st) h) : am_G κ μ o1 h1 nc ns pc ls (.int i :: .ref q0 :: st) h := by
  subst en
  intro p e s m args below meth c H locs A sb ad0 ad lv I hlv
  have I0 := I
  obtain ⟨S, -, hT, -, -, -, -, hlen, hP, hD, hS⟩ := I
  exact va_zald S.1 S.2.1 hT.1 hP q0 1 (am_w_at hlen he) rfl hin d (kk p e s m args below meth c H locs A sb ad0 ad lv I0 hlv)
theorem g_zast {κ : am_K} {μ : am_N} {o1 : am_O} {h1 : List am_E} {nc ns pc n : Nat} {ls : List (Nat × Value)} {st : List Value} {h : List am_E} {h' : List am_E} {q0 N : Nat} {f : Nat → Int32} {i : Int32} {x : Int32} (d : decode (am_cc μ) pc = .ok (.bastore, 1)) (en : pc + 1 = n) (he : h[q0]? = some (.inl (.boolean, N, .inl f))) (hin : vp_in i N) (hs : h.set q0 (.inl (.boolean, N, .inl (upd f i.toNatClampNeg (vp_nar .boolean x)))) = h')
    (kk : am_G κ μ o1 h1 nc ns n ls st h') : am_G κ μ o1 h1 nc ns pc ls (.int x :: .int i :: .ref q0 :: st) h := by
  subst en
  intro p e s m args below meth c H locs A sb ad0 ad lv I hlv
  have I0 := I
  obtain ⟨S, -, hT, -, -, -, -, hlen, hP, hD, hS⟩ := I
  exact va_zast S.1 S.2.1 hT.1 hP hD hS q0 1 (am_w_at hlen he) rfl hin d (fun H1 locs1 hP1 hD1 hS1 => kk p e s m args below meth c H1 locs1 A sb ad0 ad lv (I0.put (am_lt he) hs hP1 hD1 hS1) hlv)
theorem g_zalen {κ : am_K} {μ : am_N} {o1 : am_O} {h1 : List am_E} {nc ns pc n : Nat} {ls : List (Nat × Value)} {st : List Value} {h : List am_E} {q0 N : Nat} {f : Nat → Int32} {v : Int32} (d : decode (am_cc μ) pc = .ok (.arraylength, 1)) (en : pc + 1 = n) (he : h[q0]? = some (.inl (.boolean, N, .inl f))) (hv : Int32.ofNat N = v)
    (kk : am_G κ μ o1 h1 nc ns n ls (.int v :: st) h) : am_G κ μ o1 h1 nc ns pc ls (.ref q0 :: st) h := by
  subst en
  intro p e s m args below meth c H locs A sb ad0 ad lv I hlv
  have I0 := I
  obtain ⟨S, -, hT, -, -, -, -, hlen, hP, hD, hS⟩ := I
  exact va_alen S.1 S.2.1 hT.1 hP q0 1 (am_w_at hlen he) (ty := .boolean) rfl hv d (kk p e s m args below meth c H locs A sb ad0 ad lv I0 hlv)
theorem g_cald {κ : am_K} {μ : am_N} {o1 : am_O} {h1 : List am_E} {nc ns pc n : Nat} {ls : List (Nat × Value)} {st : List Value} {h : List am_E} {q0 N : Nat} {f : Nat → Int32} {i : Int32} (d : decode (am_cc μ) pc = .ok (.caload, 1)) (en : pc + 1 = n) (he : h[q0]? = some (.inl (.char, N, .inl f))) (hin : vp_in i N)
    (kk : am_G κ μ o1 h1 nc ns n ls (.int (f i.toNatClampNeg) :: st) h) : am_G κ μ o1 h1 nc ns pc ls (.int i :: .ref q0 :: st) h := by
  subst en
  intro p e s m args below meth c H locs A sb ad0 ad lv I hlv
  have I0 := I
  obtain ⟨S, -, hT, -, -, -, -, hlen, hP, hD, hS⟩ := I
  exact va_cald S.1 S.2.1 hT.1 hP q0 2 (am_w_at hlen he) rfl hin d (kk p e s m args below meth c H locs A sb ad0 ad lv I0 hlv)
theorem g_cast {κ : am_K} {μ : am_N} {o1 : am_O} {h1 : List am_E} {nc ns pc n : Nat} {ls : List (Nat × Value)} {st : List Value} {h : List am_E} {h' : List am_E} {q0 N : Nat} {f : Nat → Int32} {i : Int32} {x : Int32} (d : decode (am_cc μ) pc = .ok (.castore, 1)) (en : pc + 1 = n) (he : h[q0]? = some (.inl (.char, N, .inl f))) (hin : vp_in i N) (hs : h.set q0 (.inl (.char, N, .inl (upd f i.toNatClampNeg (vp_nar .char x)))) = h')
    (kk : am_G κ μ o1 h1 nc ns n ls st h') : am_G κ μ o1 h1 nc ns pc ls (.int x :: .int i :: .ref q0 :: st) h := by
  subst en
  intro p e s m args below meth c H locs A sb ad0 ad lv I hlv
  have I0 := I
  obtain ⟨S, -, hT, -, -, -, -, hlen, hP, hD, hS⟩ := I
  exact va_cast S.1 S.2.1 hT.1 hP hD hS q0 2 (am_w_at hlen he) rfl hin d (fun H1 locs1 hP1 hD1 hS1 => kk p e s m args below meth c H1 locs1 A sb ad0 ad lv (I0.put (am_lt he) hs hP1 hD1 hS1) hlv)
theorem g_calen {κ : am_K} {μ : am_N} {o1 : am_O} {h1 : List am_E} {nc ns pc n : Nat} {ls : List (Nat × Value)} {st : List Value} {h : List am_E} {q0 N : Nat} {f : Nat → Int32} {v : Int32} (d : decode (am_cc μ) pc = .ok (.arraylength, 1)) (en : pc + 1 = n) (he : h[q0]? = some (.inl (.char, N, .inl f))) (hv : Int32.ofNat N = v)
    (kk : am_G κ μ o1 h1 nc ns n ls (.int v :: st) h) : am_G κ μ o1 h1 nc ns pc ls (.ref q0 :: st) h := by
  subst en
  intro p e s m args below meth c H locs A sb ad0 ad lv I hlv
  have I0 := I
  obtain ⟨S, -, hT, -, -, -, -, hlen, hP, hD, hS⟩ := I
  exact va_alen S.1 S.2.1 hT.1 hP q0 2 (am_w_at hlen he) (ty := .char) rfl hv d (kk p e s m args below meth c H locs A sb ad0 ad lv I0 hlv)
theorem g_lald {κ : am_K} {μ : am_N} {o1 : am_O} {h1 : List am_E} {nc ns pc n : Nat} {ls : List (Nat × Value)} {st : List Value} {h : List am_E} {q0 N : Nat} {f : Nat → Int64} {i : Int32} (d : decode (am_cc μ) pc = .ok (.laload, 1)) (en : pc + 1 = n) (he : h[q0]? = some (.inl (.long, N, .inr (.inl f)))) (hin : vp_in i N)
    (kk : am_G κ μ o1 h1 nc ns n ls (.long (f i.toNatClampNeg) :: st) h) : am_G κ μ o1 h1 nc ns pc ls (.int i :: .ref q0 :: st) h := by
  subst en
  intro p e s m args below meth c H locs A sb ad0 ad lv I hlv
  have I0 := I
  obtain ⟨S, -, hT, -, -, -, -, hlen, hP, hD, hS⟩ := I
  exact va_lald S.1 S.2.1 hT.1 hP q0 3 (am_w_at hlen he) rfl hin d (kk p e s m args below meth c H locs A sb ad0 ad lv I0 hlv)
theorem g_last {κ : am_K} {μ : am_N} {o1 : am_O} {h1 : List am_E} {nc ns pc n : Nat} {ls : List (Nat × Value)} {st : List Value} {h : List am_E} {h' : List am_E} {q0 N : Nat} {f : Nat → Int64} {i : Int32} {x : Int64} (d : decode (am_cc μ) pc = .ok (.lastore, 1)) (en : pc + 1 = n) (he : h[q0]? = some (.inl (.long, N, .inr (.inl f)))) (hin : vp_in i N) (hs : h.set q0 (.inl (.long, N, .inr (.inl (vp_updL f i.toNatClampNeg x)))) = h')
    (kk : am_G κ μ o1 h1 nc ns n ls st h') : am_G κ μ o1 h1 nc ns pc ls (.long x :: .int i :: .ref q0 :: st) h := by
  subst en
  intro p e s m args below meth c H locs A sb ad0 ad lv I hlv
  have I0 := I
  obtain ⟨S, -, hT, -, -, -, -, hlen, hP, hD, hS⟩ := I
  exact va_last S.1 S.2.1 hT.1 hP hD hS q0 3 (am_w_at hlen he) rfl hin d (fun H1 locs1 hP1 hD1 hS1 => kk p e s m args below meth c H1 locs1 A sb ad0 ad lv (I0.put (am_lt he) hs hP1 hD1 hS1) hlv)
theorem g_lalen {κ : am_K} {μ : am_N} {o1 : am_O} {h1 : List am_E} {nc ns pc n : Nat} {ls : List (Nat × Value)} {st : List Value} {h : List am_E} {q0 N : Nat} {f : Nat → Int64} {v : Int32} (d : decode (am_cc μ) pc = .ok (.arraylength, 1)) (en : pc + 1 = n) (he : h[q0]? = some (.inl (.long, N, .inr (.inl f)))) (hv : Int32.ofNat N = v)
    (kk : am_G κ μ o1 h1 nc ns n ls (.int v :: st) h) : am_G κ μ o1 h1 nc ns pc ls (.ref q0 :: st) h := by
  subst en
  intro p e s m args below meth c H locs A sb ad0 ad lv I hlv
  have I0 := I
  obtain ⟨S, -, hT, -, -, -, -, hlen, hP, hD, hS⟩ := I
  exact va_alen S.1 S.2.1 hT.1 hP q0 3 (am_w_at hlen he) (ty := .long) rfl hv d (kk p e s m args below meth c H locs A sb ad0 ad lv I0 hlv)
