/-! what always holds: further deeds -/
theorem wfS.u7 {A : Nat → Int32} (h : wfS A) {r : Int32} (hr : r = 0 ∨ r = 1) : wfS (uA A 7 r) := by
  unfold wfS wfP wfH wfQ sW at *
  simp (disch := omega) only [uA_n, uA_e]
  exact ⟨h.1, h.2.1, h.2.2.1, h.2.2.2.1, h.2.2.2.2.1, h.2.2.2.2.2.1, h.2.2.2.2.2.2.1, hr, h.2.2.2.2.2.2.2.2⟩
theorem wfS.u8 {A : Nat → Int32} (h : wfS A) (r : Int32) : wfS (uA A 8 r) := by
  unfold wfS wfP wfH wfQ sW at *
  simp (disch := omega) only [uA_n]
  exact h
theorem wfS.u3 {A : Nat → Int32} (h : wfS A) {r : Int32} (hr : okM r 1 9) : wfS (uA A 3 r) := by
  unfold wfS wfP wfH wfQ sW at *
  simp (disch := omega) only [uA_n, uA_e]
  exact ⟨h.1, h.2.1, h.2.2.1, hr, h.2.2.2.2⟩
/-- a person changed -/
theorem wfS.uP {A : Nat → Int32} (h : wfS A) {p w : Nat} {v : Int32} (hp : p < (A 1).toNatClampNeg) (hw : w < 7) (hv : ∀ B : Nat → Int32, B = uA A (30 + 7 * p + w) v → wfP B (A 0).toNatClampNeg p) : wfS (uA A (30 + 7 * p + w) v) := by
  obtain ⟨h0, h1, h2, h3, h4, h5, h6, h7, hP, hH, hQ, hS⟩ := h
  have hc1 := h1.2
  have hc0 := h0.2
  have hc2 := h2.2
  have lo : ∀ k, k < 30 → uA A (30 + 7 * p + w) v k = A k := fun k hk => uA_n _ _ _ _ (by omega)
  unfold wfS
  rw [lo 0 (by omega), lo 1 (by omega), lo 2 (by omega), lo 3 (by omega), lo 4 (by omega), lo 5 (by omega), lo 6 (by omega), lo 7 (by omega)]
  refine ⟨h0, h1, h2, h3, h4, h5, h6, h7, fun r hr => ?_, fun j hj => ?_, fun k hk => ?_, ?_⟩
  · by_cases e : r = p
    · rw [e]
      exact hv _ rfl
    · have e1 : ∀ j, j < 7 → uA A (30 + 7 * p + w) v (30 + 7 * r + j) = A (30 + 7 * r + j) := fun j hj => uA_n _ _ _ _ (by omega)
      have e0 := e1 0 (by omega)
      rw [Nat.add_zero] at e0
      unfold wfP
      rw [e0, e1 1 (by omega), e1 2 (by omega), e1 3 (by omega), e1 4 (by omega), e1 5 (by omega)]
      exact hP r hr
  · unfold wfH
    rw [lo _ (by omega), lo _ (by omega)]
    exact hH j hj
  · unfold wfQ
    rw [uA_n _ _ _ _ (by omega), uA_n _ _ _ _ (by omega), uA_n _ _ _ _ (by omega)]
    exact hQ k hk
  · have e : sW (uA A (30 + 7 * p + w) v) (A 0).toNatClampNeg = sW A (A 0).toNatClampNeg := sN_cg (fun j hj => by
      show (uA A (30 + 7 * p + w) v (12 + 3 * j)).toNatClampNeg = _
      rw [lo _ (by omega)])
    rw [e]
    exact hS
theorem wfP.u5 {A : Nat → Int32} {c p : Nat} {v : Int32} (h : wfP A c p) (hv : okN v 30) : wfP (uA A (30 + 7 * p + 5) v) c p := by
  unfold wfP at *
  simp (disch := omega) only [uA_n, uA_e]
  exact ⟨h.1, h.2.1, h.2.2.1, h.2.2.2.1, h.2.2.2.2.1, hv⟩
theorem wfS.u5 {A : Nat → Int32} (h : wfS A) {p : Nat} {v : Int32} (hp : p < (A 1).toNatClampNeg) (hv : okN v 30) : wfS (uA A (30 + 7 * p + 5) v) := h.uP hp (by omega) (fun B e => by rw [e]; exact (h.2.2.2.2.2.2.2.2.1 p hp).u5 hv)
theorem wfS.uH {A : Nat → Int32} (h : wfS A) {p x : Nat} (hp : p < (A 1).toNatClampNeg) (hx : x < (A 0).toNatClampNeg) : wfS (uA A (30 + 7 * p) (nI x)) := by
  have := h.uP (w := 0) (v := nI x) hp (by omega) (fun B e => by
    have hc := h.1.2
    have h9 := h.2.2.2.2.2.2.2.2.1 p hp
    rw [e, Nat.add_zero]
    unfold wfP at *
    simp (disch := omega) only [uA_n, uA_e]
    exact ⟨⟨okN.nI (by omega) (by decide), by rw [nI_clamp (by omega)]; exact hx⟩, h9.2⟩)
  rw [Nat.add_zero] at this
  exact this
theorem wfS.u1 {A : Nat → Int32} (h : wfS A) {p : Nat} {v : Int32} (hp : p < (A 1).toNatClampNeg) (hv : okN v 30) : wfS (uA A (30 + 7 * p + 1) v) := h.uP hp (by omega) (fun B e => by
  have h9 := h.2.2.2.2.2.2.2.2.1 p hp
  rw [e]
  unfold wfP at *
  simp (disch := omega) only [uA_n, uA_e]
  exact ⟨h9.1, hv, h9.2.2⟩)
theorem wfS.u2 {A : Nat → Int32} (h : wfS A) {p : Nat} {v : Int32} (hp : p < (A 1).toNatClampNeg) (hv : okN v 9) : wfS (uA A (30 + 7 * p + 2) v) := h.uP hp (by omega) (fun B e => by
  have h9 := h.2.2.2.2.2.2.2.2.1 p hp
  rw [e]
  unfold wfP at *
  simp (disch := omega) only [uA_n, uA_e]
  exact ⟨h9.1, h9.2.1, hv, h9.2.2.2⟩)
theorem wfS.u3v {A : Nat → Int32} (h : wfS A) {p : Nat} {v : Int32} (hp : p < (A 1).toNatClampNeg) (hv : okM v 1 9) : wfS (uA A (30 + 7 * p + 3) v) := h.uP hp (by omega) (fun B e => by
  have h9 := h.2.2.2.2.2.2.2.2.1 p hp
  rw [e]
  unfold wfP at *
  simp (disch := omega) only [uA_n, uA_e]
  exact ⟨h9.1, h9.2.1, h9.2.2.1, hv, h9.2.2.2.2⟩)
theorem wfS.u4 {A : Nat → Int32} (h : wfS A) {p : Nat} {v : Int32} (hp : p < (A 1).toNatClampNeg) (hv : okN v 99) : wfS (uA A (30 + 7 * p + 4) v) := h.uP hp (by omega) (fun B e => by
  have h9 := h.2.2.2.2.2.2.2.2.1 p hp
  rw [e]
  unfold wfP at *
  simp (disch := omega) only [uA_n, uA_e]
  exact ⟨h9.1, h9.2.1, h9.2.2.1, h9.2.2.2.1, hv, h9.2.2.2.2.2⟩)
/-- n feet go from one house to another -/
theorem wfS.go {A : Nat → Int32} (h : wfS A) {x y n : Nat} (hx : x < (A 0).toNatClampNeg) (hy : y < (A 0).toNatClampNeg) (hxy : ¬ x = y) (hn : n ≤ (A (12 + 3 * x)).toNatClampNeg) : wfS (uA (uA A (12 + 3 * x) (A (12 + 3 * x) - nI n)) (12 + 3 * y) (A (12 + 3 * y) + nI n)) := by
  obtain ⟨h0, h1, h2, h3, h4, h5, h6, h7, hP, hH, hQ, hS⟩ := h
  have hc1 := h1.2
  have hc0 := h0.2
  have hc2 := h2.2
  obtain ⟨a, ha, ea, ea2⟩ := (hH x hx).1.ex
  obtain ⟨b, hb, eb, eb2⟩ := (hH y hy).1.ex
  have hsum : (A (12 + 3 * x)).toNatClampNeg + (A (12 + 3 * y)).toNatClampNeg ≤ 600 := by
    have e : sW A (A 0).toNatClampNeg ≤ 600 := hS
    have hx1 := sN_up (f := fun h => (A (12 + 3 * h)).toNatClampNeg) (g := fun h => if h = x then 0 else (A (12 + 3 * h)).toNatClampNeg) hx (fun j hj => if_neg hj)
    have hy1 := sN_le (f := fun h => if h = x then 0 else (A (12 + 3 * h)).toNatClampNeg) hy
    simp only [if_pos, if_neg (show ¬ y = x by omega)] at hx1 hy1
    unfold sW at e
    omega
  have e1 : A (12 + 3 * x) - nI n = nI (a - n) := by rw [ea, nI_dif (by omega) (by omega)]
  have e2 : A (12 + 3 * y) + nI n = nI (b + n) := by rw [eb, nI_add]
  rw [e1, e2]
  generalize hB : uA (uA A (12 + 3 * x) (nI (a - n))) (12 + 3 * y) (nI (b + n)) = B
  have lo : ∀ k, k ≠ 12 + 3 * x → k ≠ 12 + 3 * y → B k = A k := fun k h1 h2 => by rw [← hB, uA_n _ _ _ _ h2, uA_n _ _ _ _ h1]
  have hw : ∀ h, B (12 + 3 * h) = if h = x then nI (a - n) else if h = y then nI (b + n) else A (12 + 3 * h) := fun h => by
    rw [← hB]
    unfold uA
    by_cases e : h = x
    · rw [if_neg (by omega), if_pos (by omega), if_pos e]
    · by_cases e3 : h = y
      · rw [if_pos (by omega), if_neg e, if_pos e3]
      · rw [if_neg (by omega), if_neg (by omega), if_neg e, if_neg e3]
  unfold wfS
  rw [lo 0 (by omega) (by omega), lo 1 (by omega) (by omega), lo 2 (by omega) (by omega), lo 3 (by omega) (by omega), lo 4 (by omega) (by omega), lo 5 (by omega) (by omega), lo 6 (by omega) (by omega), lo 7 (by omega) (by omega)]
  refine ⟨h0, h1, h2, h3, h4, h5, h6, h7, fun r hr => ?_, fun j hj => ?_, fun k hk => ?_, ?_⟩
  · unfold wfP
    rw [lo _ (by omega) (by omega), lo _ (by omega) (by omega), lo _ (by omega) (by omega), lo _ (by omega) (by omega), lo _ (by omega) (by omega), lo _ (by omega) (by omega)]
    exact hP r hr
  · unfold wfH
    rw [lo (12 + 3 * j + 1) (by omega) (by omega), hw j]
    refine ⟨?_, (hH j hj).2⟩
    split
    · exact okN.nI (by omega) (by decide)
    · split
      · exact okN.nI (by omega) (by decide)
      · exact (hH j hj).1
  · unfold wfQ
    rw [lo _ (by omega) (by omega), lo _ (by omega) (by omega), lo _ (by omega) (by omega)]
    exact hQ k hk
  · have t : sW B (A 0).toNatClampNeg = sW A (A 0).toNatClampNeg := by
      unfold sW
      refine sN_2 hx hy hxy (fun k h1 h2 => by show (B (12 + 3 * k)).toNatClampNeg = _; rw [hw k, if_neg h1, if_neg h2]) ?_
      show (B (12 + 3 * x)).toNatClampNeg + (B (12 + 3 * y)).toNatClampNeg = _
      rw [hw x, hw y, if_pos rfl, if_neg (fun e => hxy e.symm), if_pos rfl, nI_clamp (by omega), nI_clamp (by omega)]
      omega
    rw [t]
    exact hS
theorem wfS.hv {A : Nat → Int32} (h : wfS A) {k : Nat} (hk : k < 20) : wfS (uA A (86 + 7 * k + 6) 1) := by
  obtain ⟨h0, h1, h2, h3, h4, h5, h6, h7, hP, hH, hQ, hS⟩ := h
  have hc1 := h1.2
  have hc0 := h0.2
  have lo : ∀ j, j < 86 → uA A (86 + 7 * k + 6) 1 j = A j := fun j hj => uA_n _ _ _ _ (by omega)
  unfold wfS
  rw [lo 0 (by omega), lo 1 (by omega), lo 2 (by omega), lo 3 (by omega), lo 4 (by omega), lo 5 (by omega), lo 6 (by omega), lo 7 (by omega)]
  refine ⟨h0, h1, h2, h3, h4, h5, h6, h7, fun r hr => ?_, fun j hj => ?_, fun i hi => ?_, ?_⟩
  · unfold wfP
    rw [lo _ (by omega), lo _ (by omega), lo _ (by omega), lo _ (by omega), lo _ (by omega), lo _ (by omega)]
    exact hP r hr
  · unfold wfH
    rw [lo _ (by omega), lo _ (by omega)]
    exact hH j hj
  · have g := hQ i hi
    unfold wfQ at *
    rw [uA_n _ _ _ _ (show 86 + 7 * i + 1 ≠ 86 + 7 * k + 6 by omega), uA_n _ _ _ _ (show 86 + 7 * i + 5 ≠ 86 + 7 * k + 6 by omega)]
    refine ⟨g.1, g.2.1, ?_⟩
    by_cases e : i = k
    · rw [e, uA_e]
      exact Or.inr rfl
    · rw [uA_n _ _ _ _ (by omega)]
      exact g.2.2
  · have e : sW (uA A (86 + 7 * k + 6) 1) (A 0).toNatClampNeg = sW A (A 0).toNatClampNeg := sN_cg (fun j hj => by
      show (uA A (86 + 7 * k + 6) 1 (12 + 3 * j)).toNatClampNeg = _
      rw [lo _ (by omega)])
    rw [e]
    exact hS
theorem mx0_ok {a b : Int32} {n m : Nat} (ha : okN a n) (hb : okN b m) (hn : n < 2 ^ 31) (hm : m < 2 ^ 31) : mx0 (a - b) = nI (a.toNatClampNeg - b.toNatClampNeg) := by
  obtain ⟨x, hx, rfl, ex⟩ := ha.ex
  obtain ⟨y, hy, rfl, ey⟩ := hb.ex
  rw [ex, ey]
  unfold mx0
  have e : (nI x - nI y).toInt = (x : Int) - y := by
    rw [Int32.toInt_sub, nI_toInt (by omega), nI_toInt (by omega)]
    exact Int.bmod_eq_of_le (by omega) (by omega)
  by_cases h : y < x
  · rw [if_pos (by rw [Int32.lt_iff_toInt_lt, e]; show (0 : Int) < _; omega), nI_dif (by omega) (by omega)]
  · rw [if_neg (by rw [Int32.lt_iff_toInt_lt, e]; show ¬ (0 : Int) < _; omega), show x - y = 0 by omega]
    rfl
theorem wfS.ng {A : Nat → Int32} (h : wfS A) (hd : (A 6).toNatClampNeg + 1 ≤ 9999) : wfS (ngtA A) := by
  obtain ⟨h0, h1, h2, h3, h4, h5, h6, h7, hP, hH, hQ, hS⟩ := h
  have hc1 := h1.2
  have hc0 := h0.2
  have hc2 := h2.2
  have lo : ∀ j, (j < 30 ∨ 86 ≤ j) → j ≠ 6 → ngtA A j = A j := fun j hj h6 => by
    unfold ngtA
    rw [uA_n _ _ _ _ h6, slpR_r _ _ _ (by omega)]
  have l6 : ngtA A 6 = nI ((A 6).toNatClampNeg + 1) := by
    unfold ngtA
    obtain ⟨d, hd1, ed, ed2⟩ := h6.ex
    rw [uA_e, ed2, ed, nI_1]
  have pr : ∀ r j, r < (A 1).toNatClampNeg → j < 7 → ngtA A (30 + 7 * r + j) = if j = 5 then mx0 (A (30 + 7 * r + 5) - A 4) else A (30 + 7 * r + j) := fun r j hr hj => by
    unfold ngtA
    rw [uA_n _ _ _ _ (by omega)]
    unfold slpR
    by_cases e : j = 5
    · rw [if_pos (by omega), if_pos e, e]
    · rw [if_neg (by omega), if_neg e]
  unfold wfS
  rw [lo 0 (by omega) (by omega), lo 1 (by omega) (by omega), lo 2 (by omega) (by omega), lo 3 (by omega) (by omega), lo 4 (by omega) (by omega), lo 5 (by omega) (by omega), l6, lo 7 (by omega) (by omega)]
  refine ⟨h0, h1, h2, h3, h4, h5, okN.nI hd (by decide), h7, fun r hr => ?_, fun j hj => ?_, fun k hk => ?_, ?_⟩
  · have g := hP r hr
    have e0 := pr r 0 hr (by omega)
    rw [Nat.add_zero, if_neg (by omega)] at e0
    unfold wfP at *
    rw [e0, pr r 1 hr (by omega), pr r 2 hr (by omega), pr r 3 hr (by omega), pr r 4 hr (by omega), pr r 5 hr (by omega), if_neg (by omega), if_neg (by omega), if_neg (by omega), if_neg (by omega), if_pos rfl, mx0_ok g.2.2.2.2.2 h4 (by decide) (by decide)]
    exact ⟨g.1, g.2.1, g.2.2.1, g.2.2.2.1, g.2.2.2.2.1, okN.nI (by have := g.2.2.2.2.2.2; omega) (by decide)⟩
  · unfold wfH
    rw [lo _ (by omega) (by omega), lo _ (by omega) (by omega)]
    exact hH j hj
  · unfold wfQ
    rw [lo _ (by omega) (by omega), lo _ (by omega) (by omega), lo _ (by omega) (by omega)]
    exact hQ k hk
  · have e : sW (ngtA A) (A 0).toNatClampNeg = sW A (A 0).toNatClampNeg := sN_cg (fun j hj => by
      show (ngtA A (12 + 3 * j)).toNatClampNeg = _
      rw [lo _ (by omega) (by omega)])
    rw [e]
    exact hS
theorem ngtA_6 {A : Nat → Int32} (h : okN (A 6) 9999) : (ngtA A 6).toNatClampNeg = (A 6).toNatClampNeg + 1 := by
  obtain ⟨d, hd, ed, ed2⟩ := h.ex
  unfold ngtA
  rw [uA_e, ed2, ed, nI_1, nI_clamp (by omega)]
theorem wfS.ngn : ∀ {n : Nat} {A : Nat → Int32}, wfS A → (A 6).toNatClampNeg + n ≤ 9999 → wfS (ngtN n A)
  | 0, _, h, _ => h
  | n + 1, A, h, hd => by
    unfold ngtN
    refine wfS.ngn (h.ng (by omega)) ?_
    rw [ngtA_6 h.2.2.2.2.2.2.1]
    omega
