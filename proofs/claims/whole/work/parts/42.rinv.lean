/-! what always holds of a row of the reference -/
def sN (f : Nat → Nat) : Nat → Nat
  | 0 => 0
  | n + 1 => sN f n + f n
theorem sN_cg {f g : Nat → Nat} : ∀ {n : Nat}, (∀ j, j < n → f j = g j) → sN f n = sN g n
  | 0, _ => rfl
  | n + 1, h => by
    unfold sN
    rw [sN_cg (fun j hj => h j (by omega)), h n (by omega)]
theorem sN_up {f g : Nat → Nat} {i : Nat} : ∀ {n : Nat}, i < n → (∀ j, j ≠ i → g j = f j) → sN g n + f i = sN f n + g i
  | 0, h, _ => by omega
  | n + 1, h, hg => by
    unfold sN
    by_cases e : i = n
    · subst e
      rw [sN_cg (f := g) (g := f) (fun j hj => hg j (by omega))]
      omega
    · have := sN_up (n := n) (by omega) hg
      rw [hg n (fun q => e q.symm)]
      omega
theorem sN_le {f : Nat → Nat} {i : Nat} : ∀ {n : Nat}, i < n → f i ≤ sN f n
  | 0, h => by omega
  | n + 1, h => by
    unfold sN
    by_cases e : i = n
    · subst e; omega
    · have := sN_le (f := f) (n := n) (show i < n by omega)
      omega
theorem sN_2 {f g : Nat → Nat} {i j n : Nat} (hi : i < n) (hj : j < n) (hij : i ≠ j) (h : ∀ k, k ≠ i → k ≠ j → g k = f k) (hs : g i + g j = f i + f j) : sN g n = sN f n := by
  have h1 := sN_up (f := f) (g := fun k => if k = i then g i else f k) hi (fun k hk => if_neg hk)
  have h2 := sN_up (f := fun k => if k = i then g i else f k) (g := g) hj (fun k hk => by
    by_cases e : k = i
    · show g k = if k = i then g i else f k
      rw [if_pos e, e]
    · show g k = if k = i then g i else f k
      rw [if_neg e]
      exact h k e hk)
  simp only [if_pos, if_neg (fun e : j = i => hij e.symm)] at h1 h2
  omega
theorem sN_lin {f : Nat → Nat} {b : Nat} : ∀ {n : Nat}, (∀ j, j < n → f j ≤ b) → sN f n ≤ b * n
  | 0, _ => by simp [sN]
  | n + 1, h => by
    unfold sN
    have h1 := sN_lin (f := f) (n := n) (fun j hj => h j (by omega))
    have h2 := h n (by omega)
    rw [Nat.mul_succ]
    omega
/-- a number of at least m and at most n -/
def okM (x : Int32) (m n : Nat) : Prop := okN x n ∧ m ≤ x.toNatClampNeg
theorem okN.lt {x : Int32} {n : Nat} (h : okN x n) : x.toNatClampNeg ≤ n := h.2
theorem okN.le {x : Int32} {m n : Nat} (h : okN x m) (hmn : m ≤ n) : okN x n := ⟨h.1, Nat.le_trans h.2 hmn⟩
def wfP (A : Nat → Int32) (c p : Nat) : Prop := (okN (A (30 + 7 * p)) 5 ∧ (A (30 + 7 * p)).toNatClampNeg < c) ∧ okN (A (30 + 7 * p + 1)) 30 ∧ okN (A (30 + 7 * p + 2)) 9 ∧ okM (A (30 + 7 * p + 3)) 1 9 ∧ okN (A (30 + 7 * p + 4)) 99 ∧ okN (A (30 + 7 * p + 5)) 30
def wfH (A : Nat → Int32) (h : Nat) : Prop := okN (A (12 + 3 * h)) 600 ∧ okN (A (12 + 3 * h + 1)) 99
def wfQ (A : Nat → Int32) (c k : Nat) : Prop := (okN (A (86 + 7 * k + 1)) 4 ∧ (A (86 + 7 * k + 1)).toNatClampNeg + 1 < c) ∧ (∃ m : Int, A (86 + 7 * k + 5) = Int32.ofInt m ∧ -600 ≤ m ∧ m ≤ 600) ∧ (A (86 + 7 * k + 6) = 0 ∨ A (86 + 7 * k + 6) = 1)
def sW (A : Nat → Int32) (n : Nat) : Nat := sN (fun h => (A (12 + 3 * h)).toNatClampNeg) n
def wfS (A : Nat → Int32) : Prop := okN (A 0) 6 ∧ okN (A 1) 8 ∧ okN (A 2) 20 ∧ okM (A 3) 1 9 ∧ okN (A 4) 9 ∧ okN (A 5) 16 ∧ okN (A 6) 9999 ∧ (A 7 = 0 ∨ A 7 = 1) ∧ (∀ p, p < (A 1).toNatClampNeg → wfP A (A 0).toNatClampNeg p) ∧ (∀ h, h < (A 0).toNatClampNeg → wfH A h) ∧ (∀ k, k < (A 2).toNatClampNeg → wfQ A (A 0).toNatClampNeg k) ∧ sW A (A 0).toNatClampNeg ≤ 600
theorem wfS.r {A : Nat → Int32} (h : wfS A) : wfR A := by
  obtain ⟨h0, h1, h2, h3, h4, h5, h6, h7, hP, hH, hQ, hS⟩ := h
  refine ⟨h0, h1, h2, h7, fun p hp => ?_⟩
  obtain ⟨⟨a1, a2⟩, b, c, ⟨d1, d2⟩, e, f⟩ := hP p hp
  obtain ⟨x, hx, ex, ex2⟩ := a1.ex
  obtain ⟨v, hv, ev, ev2⟩ := d1.ex
  exact ⟨by rw [ex]; exact vp_in_nI (by omega) (by decide), by rw [ev]; exact nI_pos' (by omega)⟩
theorem ldn_ok {v r : Int32} (hv : okN v 9) (hr : r = 0 ∨ r = 1) : okN (ldn v r) 9 := by
  obtain ⟨a, ha, rfl, -⟩ := hv.ex
  have key : ∀ a, a ≤ 9 → okN (ldn (nI a) 0) 9 ∧ okN (ldn (nI a) 1) 9 := by
    unfold okN ldn
    decide +kernel
  rcases hr with rfl | rfl
  · exact (key a ha).1
  · exact (key a ha).2
theorem ok_add {x y : Int32} {a b : Nat} (hx : okN x a) (hy : okN y b) (h : a + b < 2 ^ 31) : okN (x + y) (a + b) := by
  obtain ⟨m, hm, rfl, -⟩ := hx.ex
  obtain ⟨n, hn, rfl, -⟩ := hy.ex
  rw [nI_add]
  exact okN.nI (by omega) h
theorem ok_lt {x y : Int32} {a b : Nat} (hx : okN x a) (hy : okN y b) (ha : a < 2 ^ 31) (hb : b < 2 ^ 31) : x < y ↔ x.toNatClampNeg < y.toNatClampNeg := by
  obtain ⟨m, hm, rfl, e1⟩ := hx.ex
  obtain ⟨n, hn, rfl, e2⟩ := hy.ex
  rw [e1, e2]
  exact nI_ltI (by omega) (by omega)
theorem mnI_n {f w : Nat} (hf : f < 2 ^ 31) (hw : w < 2 ^ 31) : mnI (nI f) (nI w) = nI (min f w) := by
  unfold mnI
  by_cases h : w < f
  · rw [if_pos ((nI_ltI hw hf).mpr h), show min f w = w by omega]
  · rw [if_neg (fun q => h ((nI_ltI hw hf).mp q)), show min f w = f by omega]
/-- what two hold while they quarrel stays in its bounds -/
def okS8 (x : S8) (s : Nat) : Prop := okN x.1 30 ∧ okN x.2.1 30 ∧ ∃ a b, x.2.2.2.2.1 = nI a ∧ x.2.2.2.2.2.1 = nI b ∧ a + b = s
theorem spk_ok {t0 t1 e0 e1 r : Int32} {ft : Nat} (ht0 : okN t0 30) (ht1 : okN t1 30) (hf : ft ≤ 9) (hr : r = 0 ∨ r = 1) {s : Nat} (hs : s ≤ 600) : ∀ (n : Nat) (t : Bool) (v : Int32) (x : S8), okN v 9 → okS8 x s → okS8 (spk t0 t1 e0 e1 (nI ft) r n t v x).2 s
  | 0, _, _, _, _, h => h
  | n + 1, true, v, (a0, a1, h0, h1, w0, w1, l0, l1), hv, ⟨k1, k2, a, b, ea, eb, hab⟩ => by
    unfold spk
    split
    · split
      · refine spk_ok ht0 ht1 hf hr hs n false _ _ (ldn_ok ⟨rfl, by decide⟩ hr) ⟨k1, okN.nI (c := 0) (by omega) (by decide), ?_⟩
        simp only at ea eb
        subst ea eb
        refine ⟨a + min ft b, b - min ft b, ?_, ?_, by omega⟩
        · show nI a + mnI (nI ft) (nI b) = _
          rw [mnI_n (by omega) (by omega), nI_add]
        · show nI b - mnI (nI ft) (nI b) = _
          rw [mnI_n (by omega) (by omega), nI_dif (by omega) (by omega)]
      · next h =>
        refine ⟨k1, ?_, a, b, ea, eb, hab⟩
        have k2 : okN a1 30 := k2
        have hz := ok_add k2 hv (by omega)
        refine ⟨hz.1, ?_⟩
        have h9 := (not_congr (ok_lt ht1 hz (by omega) (by omega))).mp h
        have := ht1.2
        show (a1 + v).toNatClampNeg ≤ 30
        omega
    · exact ⟨k1, k2, a, b, ea, eb, hab⟩
  | n + 1, false, v, (a0, a1, h0, h1, w0, w1, l0, l1), hv, ⟨k1, k2, a, b, ea, eb, hab⟩ => by
    unfold spk
    split
    · split
      · refine spk_ok ht0 ht1 hf hr hs n true _ _ (ldn_ok ⟨rfl, by decide⟩ hr) ⟨okN.nI (c := 0) (by omega) (by decide), k2, ?_⟩
        simp only at ea eb
        subst ea eb
        refine ⟨a - min ft a, b + min ft a, ?_, ?_, by omega⟩
        · show nI a - mnI (nI ft) (nI a) = _
          rw [mnI_n (by omega) (by omega), nI_dif (by omega) (by omega)]
        · show nI b + mnI (nI ft) (nI a) = _
          rw [mnI_n (by omega) (by omega), nI_add]
      · next h =>
        refine ⟨?_, k2, a, b, ea, eb, hab⟩
        have k1 : okN a0 30 := k1
        have hz := ok_add k1 hv (by omega)
        refine ⟨hz.1, ?_⟩
        have h9 := (not_congr (ok_lt ht0 hz (by omega) (by omega))).mp h
        have := ht0.2
        show (a0 + v).toNatClampNeg ≤ 30
        omega
    · exact ⟨k1, k2, a, b, ea, eb, hab⟩
/-- two neighbours p, q in houses x, y -/
def nbR (A : Nat → Int32) (p q x y : Nat) : Prop := p < (A 1).toNatClampNeg ∧ q < (A 1).toNatClampNeg ∧ ¬ p = q ∧ A (30 + 7 * p) = nI x ∧ A (30 + 7 * q) = nI y ∧ x < (A 0).toNatClampNeg ∧ y < (A 0).toNatClampNeg ∧ (x + 1 = y ∨ y + 1 = x)
theorem nb_of {A : Nat → Int32} (h : wfS A) {p q : Nat} (hp : p < (A 1).toNatClampNeg) (hq : q < (A 1).toNatClampNeg) (hpq : ¬ p = q) (hn : nrP (A (30 + 7 * p)) (A (30 + 7 * q)) (A 8)) : ∃ x y, nbR A p q x y := by
  obtain ⟨h0, h1, h2, h3, h4, h5, h6, h7, hP, hH, hQ, hS⟩ := h
  obtain ⟨⟨⟨x, hx, ex, ex2⟩, a2⟩, -⟩ := (⟨⟨(hP p hp).1.1.ex, (hP p hp).1.2⟩, trivial⟩ : (_ ∧ _) ∧ True)
  obtain ⟨⟨⟨y, hy, ey, ey2⟩, b2⟩, -⟩ := (⟨⟨(hP q hq).1.1.ex, (hP q hq).1.2⟩, trivial⟩ : (_ ∧ _) ∧ True)
  refine ⟨x, y, hp, hq, hpq, ex, ey, by omega, by omega, ?_⟩
  have hn1 := hn.1
  rw [ex, ey] at hn1
  have key : ∀ x, x < 6 → ∀ y, y < 6 → (if 0 ≤ nI x - nI y then nI x - nI y else 0 - (nI x - nI y)) = 1 → (x + 1 = y ∨ y + 1 = x) := by decide +kernel
  exact key x (by omega) y (by omega) hn1
theorem rqr_ok {A : Nat → Int32} (h : wfS A) {p q x y : Nat} (hn : nbR A p q x y) : okS8 (rqr A p q x y).2 ((A (12 + 3 * x)).toNatClampNeg + (A (12 + 3 * y)).toNatClampNeg) ∧ (A (12 + 3 * x)).toNatClampNeg + (A (12 + 3 * y)).toNatClampNeg ≤ 600 := by
  obtain ⟨h0, h1, h2, h3, h4, h5, h6, h7, hP, hH, hQ, hS⟩ := h
  obtain ⟨hp, hq, hpq, ex, ey, hx, hy, hxy⟩ := hn
  obtain ⟨-, tp, -, vp, -, ap⟩ := hP p hp
  obtain ⟨-, tq, -, -, -, aq⟩ := hP q hq
  have wx := (hH x hx).1
  have wy := (hH y hy).1
  have hsum : (A (12 + 3 * x)).toNatClampNeg + (A (12 + 3 * y)).toNatClampNeg ≤ 600 := by
    have e : sW A (A 0).toNatClampNeg ≤ 600 := hS
    have hx1 := sN_up (f := fun h => (A (12 + 3 * h)).toNatClampNeg) (g := fun h => if h = x then 0 else (A (12 + 3 * h)).toNatClampNeg) hx (fun j hj => if_neg hj)
    have hy1 := sN_le (f := fun h => if h = x then 0 else (A (12 + 3 * h)).toNatClampNeg) hy
    simp only [if_pos, if_neg (show ¬ y = x by omega)] at hx1 hy1
    unfold sW at e
    omega
  refine ⟨?_, hsum⟩
  obtain ⟨ft, hft, eft, -⟩ := h3.1.ex
  unfold rqr
  rw [eft]
  refine spk_ok tp tq hft h7 hsum 6 true _ _ (ldn_ok vp.1 h7) ⟨ap, aq, _, _, ?_, ?_, rfl⟩
  · exact wx.1
  · exact wy.1
theorem wbX_h {A : Nat → Int32} {p q x y n h : Nat} {u : S8} (hh : h < 6) : wbX A p q x y u n (12 + 3 * h) = if h = x then u.2.2.2.2.1 else if h = y then u.2.2.2.2.2.1 else A (12 + 3 * h) := by
  unfold wbX wbR
  rw [if_neg (by omega), if_neg (by omega), if_neg (by omega), if_neg (by omega)]
  by_cases e : h = x
  · rw [if_pos (by omega), if_pos e]
  · rw [if_neg (by omega), if_neg e]
    by_cases e2 : h = y
    · rw [if_pos (by omega), if_pos e2]
    · rw [if_neg (by omega), if_neg e2, if_neg (by omega), if_neg (by omega), if_neg (by omega), if_neg (by omega)]
theorem wbX_h1 {A : Nat → Int32} {p q x y n h : Nat} {u : S8} (hh : h < 6) : wbX A p q x y u n (12 + 3 * h + 1) = A (12 + 3 * h + 1) := by
  unfold wbX wbR
  rw [if_neg (by omega), if_neg (by omega), if_neg (by omega), if_neg (by omega), if_neg (by omega), if_neg (by omega), if_neg (by omega), if_neg (by omega), if_neg (by omega), if_neg (by omega)]
theorem wbX_a {A : Nat → Int32} {p q x y n r : Nat} {u : S8} (hx : x < 6) (hy : y < 6) : wbX A p q x y u n (30 + 7 * r + 5) = if r = p then u.1 else if r = q then u.2.1 else A (30 + 7 * r + 5) := by
  unfold wbX wbR
  by_cases e : r = p
  · rw [if_pos (by omega), if_pos e]
  · rw [if_neg (by omega), if_neg e]
    by_cases e2 : r = q
    · rw [if_pos (by omega), if_pos e2]
    · rw [if_neg (by omega), if_neg e2, if_neg (by omega), if_neg (by omega), if_neg (by omega), if_neg (by omega), if_neg (by omega), if_neg (by omega), if_neg (by omega), if_neg (by omega)]
theorem syX_lo {A : Nat → Int32} {p q x y k : Nat} (hk : k < 86) (h2 : k ≠ 2) : syX A p q x y k = wbX A p q x y (rqr A p q x y).2 (if (rqr A p q x y).1 = 0 then 0 else (rqr A p q x y).1) k := by
  unfold syX
  split
  · rfl
  · rw [kqA_o (by omega)]
theorem ofI_sub {a b : Nat} (ha : a ≤ 600) (hb : b ≤ 600) : nI a - nI b = Int32.ofInt ((a : Int) - b) := by
  apply Int32.toInt_inj.mp
  rw [Int32.toInt_sub, nI_toInt (by omega), nI_toInt (by omega), Int32.toInt_ofInt]
theorem wfS.sy {A : Nat → Int32} (h : wfS A) {p q x y : Nat} (hn : nbR A p q x y) : wfS (syX A p q x y) := by
  obtain ⟨hk, hsum⟩ := rqr_ok h hn
  obtain ⟨h0, h1, h2, h3, h4, h5, h6, h7, hP, hH, hQ, hS⟩ := h
  obtain ⟨hp, hq, hpq, ex, ey, hx, hy, hxy⟩ := hn
  have hc0 := h0.2
  have hc1 := h1.2
  obtain ⟨kp, hkp, ekp, ekp2⟩ := h2.ex
  obtain ⟨k1, k2, wa, wb, ea, eb, hab⟩ := hk
  obtain ⟨xa, hxa, exa, exa2⟩ := (hH x hx).1.ex
  obtain ⟨ya, hya, eya, eya2⟩ := (hH y hy).1.ex
  have hx6 : x < 6 := by omega
  have hy6 : y < 6 := by omega
  have hp8 : p < 8 := by omega
  have hq8 : q < 8 := by omega
  have s0 : syX A p q x y 0 = A 0 := syX_k (by omega) (by omega)
  have s1 : syX A p q x y 1 = A 1 := syX_k (by omega) (by omega)
  have pr : ∀ r j, j < 5 → r < 8 → syX A p q x y (30 + 7 * r + j) = A (30 + 7 * r + j) := fun r j hj hr => syX_o hp8 hq8 hx6 hy6 (by omega)
  have pa : ∀ r, r < 8 → syX A p q x y (30 + 7 * r + 5) = if r = p then (rqr A p q x y).2.1 else if r = q then (rqr A p q x y).2.2.1 else A (30 + 7 * r + 5) := fun r hr => by rw [syX_lo (by omega) (by omega), wbX_a hx6 hy6]
  have hw : ∀ h, h < 6 → syX A p q x y (12 + 3 * h) = if h = x then nI wa else if h = y then nI wb else A (12 + 3 * h) := fun h hh => by rw [syX_lo (by omega) (by omega), wbX_h hh, ea, eb]
  have ht : ∀ h, h < 6 → syX A p q x y (12 + 3 * h + 1) = A (12 + 3 * h + 1) := fun h hh => by rw [syX_lo (by omega) (by omega), wbX_h1 hh]
  unfold wfS
  rw [s0, s1, syX_k (k := 3) (by omega) (by omega), syX_k (k := 4) (by omega) (by omega), syX_k (k := 5) (by omega) (by omega), syX_k (k := 6) (by omega) (by omega), syX_k (k := 7) (by omega) (by omega)]
  refine ⟨h0, h1, syX_2 hp8 hq8 hx6 hy6 h2, h3, h4, h5, h6, h7, fun r hr => ?_, fun j hj => ?_, ?_, ?_⟩
  · obtain ⟨a1, a2, a3, a4, a5, a6⟩ := hP r hr
    have e0 := pr r 0 (by omega) (by omega)
    unfold wfP
    rw [show 30 + 7 * r = 30 + 7 * r + 0 by omega, e0, pr r 1 (by omega) (by omega), pr r 2 (by omega) (by omega), pr r 3 (by omega) (by omega), pr r 4 (by omega) (by omega)]
    refine ⟨a1, a2, a3, a4, a5, ?_⟩
    rw [show 30 + 7 * r + 0 + 5 = 30 + 7 * r + 5 by omega, pa r (by omega)]
    split
    · exact k1
    · split
      · exact k2
      · exact a6
  · unfold wfH
    rw [ht j (by omega), hw j (by omega)]
    refine ⟨?_, (hH j hj).2⟩
    split
    · exact okN.nI (by omega) (by decide)
    · split
      · exact okN.nI (by omega) (by decide)
      · exact (hH j hj).1
  · -- quarrels
    unfold syX
    split
    · next hz =>
      rw [wbX_7 (by omega)]
      intro k hk
      have e1 : ∀ j, wbX A p q x y (rqr A p q x y).2 0 (86 + 7 * k + j) = A (86 + 7 * k + j) := fun j => wbX_o hp8 hq8 hx6 hy6 (by omega)
      unfold wfQ
      rw [e1, e1, e1]
      exact hQ k hk
    · have e2 : ∀ (B : Nat → Int32) wl on ot mn ft, kqA B wl on ot mn ft 2 = nI (min ((B 2).toNatClampNeg + 1) 20) := by
        intro B wl on ot mn ft
        unfold kqA
        simp
      rw [e2, wbX_7 (by omega), ekp2, nI_clamp (by omega)]
      intro k hk
      cases k with
      | zero =>
        have f1 : ∀ (B : Nat → Int32) wl on ot mn ft, kqA B wl on ot mn ft (86 + 7 * 0 + 1) = wl ∧ kqA B wl on ot mn ft (86 + 7 * 0 + 5) = ft ∧ kqA B wl on ot mn ft (86 + 7 * 0 + 6) = 0 := by
          intro B wl on ot mn ft
          unfold kqA
          simp
        unfold wfQ
        rw [(f1 _ _ _ _ _ _).1, (f1 _ _ _ _ _ _).2.1, (f1 _ _ _ _ _ _).2.2, mnI_n (by omega) (by omega), nI_clamp (by omega)]
        refine ⟨⟨okN.nI (by omega) (by decide), by omega⟩, ?_, Or.inl rfl⟩
        unfold ftX
        rw [ea, eb, exa, eya]
        split
        · exact ⟨_, ofI_sub (by omega) (by omega), by omega, by omega⟩
        · exact ⟨_, ofI_sub (by omega) (by omega), by omega, by omega⟩
      | succ k =>
        have f2 : ∀ (B : Nat → Int32) wl on ot mn ft j, j < 7 → kqA B wl on ot mn ft (86 + 7 * (k + 1) + j) = B (86 + 7 * k + j) := by
          intro B wl on ot mn ft j hj
          unfold kqA
          rw [if_pos (by omega), show 86 + 7 * (k + 1) + j - 7 = 86 + 7 * k + j by omega]
        have e1 : ∀ n j, wbX A p q x y (rqr A p q x y).2 n (86 + 7 * k + j) = A (86 + 7 * k + j) := fun n j => wbX_o hp8 hq8 hx6 hy6 (by omega)
        unfold wfQ
        rw [f2 _ _ _ _ _ _ _ (by omega), f2 _ _ _ _ _ _ _ (by omega), f2 _ _ _ _ _ _ _ (by omega), e1, e1, e1]
        exact hQ k (by omega)
  · have e : sW (syX A p q x y) (A 0).toNatClampNeg = sW A (A 0).toNatClampNeg := by
      unfold sW
      have g : ∀ (c : Nat), c ≤ 6 → x < c → y < c → sN (fun h => (syX A p q x y (12 + 3 * h)).toNatClampNeg) c = sN (fun h => (A (12 + 3 * h)).toNatClampNeg) c := by
        intro c hc hxc hyc
        have t : sN (fun h => (syX A p q x y (12 + 3 * h)).toNatClampNeg) c = sN (fun h => if h = x then wa else if h = y then wb else (A (12 + 3 * h)).toNatClampNeg) c := sN_cg (fun j hj => by
          show (syX A p q x y (12 + 3 * j)).toNatClampNeg = _
          rw [hw j (by omega)]
          split
          · exact nI_clamp (by omega)
          · split
            · exact nI_clamp (by omega)
            · rfl)
        rw [t]
        refine sN_2 hxc hyc (by omega) (fun k h1 h2 => by show (if k = x then wa else if k = y then wb else _) = _; rw [if_neg h1, if_neg h2]) ?_
        simp only [if_pos, if_neg (show ¬ y = x by omega)]
        omega
      exact g _ hc0 hx hy
    rw [e]
    exact hS
