/-! deeds in a street of the class against the row of the reference -/
theorem stR.H {I : IH} {s : Nat} {A : Nat → Int32} (h : stR I s A) {i : Nat} (hi : i < (A 0).toNatClampNeg) : I (s + 18 + i) 2 = A (12 + 3 * i) ∧ I (s + 18 + i) 1 = A (12 + 3 * i + 1) ∧ I (s + 18 + i) 3 = A (12 + 3 * i + 2) := h.2.2.1 i hi
theorem stR.P {I : IH} {s : Nat} {A : Nat → Int32} (h : stR I s A) {p : Nat} (hp : p < (A 1).toNatClampNeg) : I (s + 24 + p) 1 = A (30 + 7 * p) ∧ I (s + 24 + p) 2 = A (30 + 7 * p + 1) ∧ I (s + 24 + p) 3 = A (30 + 7 * p + 2) ∧ I (s + 24 + p) 4 = A (30 + 7 * p + 3) ∧ I (s + 24 + p) 5 = A (30 + 7 * p + 4) ∧ I (s + 24 + p) 6 = A (30 + 7 * p + 5) ∧ I (s + 24 + p) 7 = A (30 + 7 * p + 6) := ⟨h.2.2.2.1 p hp 0 (by omega), h.2.2.2.1 p hp 1 (by omega), h.2.2.2.1 p hp 2 (by omega), h.2.2.2.1 p hp 3 (by omega), h.2.2.2.1 p hp 4 (by omega), h.2.2.2.1 p hp 5 (by omega), h.2.2.2.1 p hp 6 (by omega)⟩
theorem qrl_rq {I : IH} {s : Nat} {A : Nat → Int32} (h : stR I s A) {a b x y : Nat} (hn : nbR A a b x y) : qrl I s a b = rqr A a b x y := by
  obtain ⟨ha, hb, hab, ex, ey, hx, hy, -⟩ := hn
  have o1 := h.1.1.2
  obtain ⟨p1, p2, p3, p4, p5, p6, p7⟩ := h.P ha
  obtain ⟨q1, q2, q3, q4, q5, q6, q7⟩ := h.P hb
  have hx2 := (h.H hx).1
  have hy2 := (h.H hy).1
  obtain ⟨-, -, -, s9, -, -, -, s16, -⟩ := h.2.1
  unfold qrl rqr
  rw [p1, p2, p3, p4, p6, p7, q1, q2, q3, q6, q7, ex, ey, nI_clamp (by omega), nI_clamp (by omega), hx2, hy2, s9, s16]
theorem fold_cg {f g : Nat → Int32 → Int32} : ∀ (n i : Nat) (a : Int32), (∀ j x, i ≤ j → j < i + n → f j x = g j x) → foldU f i n a = foldU g i n a
  | 0, _, _, _ => rfl
  | n + 1, i, a, h => by
    rw [foldU_1, foldU_1, h i a (Nat.le_refl _) (by omega)]
    exact fold_cg n (i + 1) _ (fun j x h1 h2 => h j x (by omega) (by omega))
theorem fold_lt {f : Nat → Int32 → Int32} : ∀ (n i : Nat) (a : Int32), foldU f i (n + 1) a = f (i + n) (foldU f i n a)
  | 0, i, a => rfl
  | n + 1, i, a => by
    rw [foldU_1, fold_lt n (i + 1) (f i a), foldU_1 f i n, show i + 1 + n = i + (n + 1) by omega]
theorem utP_h {I : IH} {s a b i : Nat} {x y : Nat} (ex : (I (s + 24 + a) 1).toNatClampNeg = x) (ey : (I (s + 24 + b) 1).toNatClampNeg = y) (hi : i < 6) (hx : x < 6) (hy : y < 6) : utP I s a b (s + 18 + i) 2 = if i = x then (qrl I s a b).2.2.2.2.2.1 else if i = y then (qrl I s a b).2.2.2.2.2.2.1 else I (s + 18 + i) 2 := by
  unfold utP
  rw [ex, ey]
  rw [if_neg (by omega), if_neg (by omega), if_neg (by omega), if_neg (by omega)]
  by_cases h1 : i = x
  · subst h1
    rw [if_pos ⟨rfl, rfl⟩, if_pos rfl]
  · rw [if_neg (by omega), if_neg (by omega), if_neg h1]
    by_cases h2 : i = y
    · subst h2
      rw [if_pos ⟨rfl, rfl⟩, if_pos rfl]
    · rw [if_neg (by omega), if_neg (by omega), if_neg (by omega), if_neg (by omega), if_neg h2]
theorem utF_ft {I : IH} {s : Nat} {A : Nat → Int32} (h : stR I s A) {a b x y : Nat} (hn : nbR A a b x y) : utF I s a b (min x y) = ftX A x y (rqr A a b x y).2 := by
  have hn0 := hn
  have hq := qrl_rq h hn0
  obtain ⟨ha, hb, hab, ex, ey, hx, hy, hxy⟩ := hn
  have o1 := h.1.1.2
  have e1 : (I (s + 24 + a) 1).toNatClampNeg = x := by rw [(h.P ha).1, ex, nI_clamp (by omega)]
  have e2 : (I (s + 24 + b) 1).toNatClampNeg = y := by rw [(h.P hb).1, ey, nI_clamp (by omega)]
  have u := fun i (hi : i < 6) => utP_h (I := I) (s := s) (a := a) (b := b) (i := i) e1 e2 hi (by omega) (by omega)
  unfold utF
  rw [fold_lt, fold_lt, fold_cg (g := fun i acc => acc + I (s + 18 + i) 2) (min x y) 0 0 (fun j c _ hj => by rw [u j (by omega), if_neg (by omega), if_neg (by omega)])]
  generalize foldU (fun i acc => acc + I (s + 18 + i) 2) 0 (min x y) 0 = c
  rw [Nat.zero_add, u _ (by omega), hq]
  unfold ftX
  have cc : ∀ (c v w : Int32), c + v - (c + w) = v - w := fun c v w => by grind
  rcases hxy with g | g
  · have : min x y = x := by omega
    rw [this, if_pos rfl, if_pos (by omega), cc, (h.H hx).1]
  · have : min x y = y := by omega
    rw [this, if_neg (by omega), if_pos rfl, if_neg (by omega), cc, (h.H hy).1]
theorem qix_s : ∀ q, q < 20 → ∀ k, k < 19 → qix ((q + 1) % 20) (k + 1) = qix q k ∧ qix q k ≠ (q + 1) % 20 := by decide +kernel
theorem qix_0 : ∀ q, q < 20 → qix q 0 = q := by decide +kernel
theorem utP_z {I : IH} {s a b k : Nat} (h : k ≠ 14) (h2 : k ≠ 15) : utP I s a b s k = I s k := by
  unfold utP
  rw [if_neg (by omega), if_neg (by omega), if_neg (by omega), if_neg (by omega), if_neg (by omega), if_neg (by omega), if_neg (by omega), if_neg (by omega), if_neg (by omega), if_neg (by omega)]
theorem utP_14 {I : IH} {s a b : Nat} : utP I s a b s 14 = I s 14 + 1 ∧ utP I s a b s 15 = I s 15 + nI (qrl I s a b).1 := by
  unfold utP
  constructor
  · rw [if_neg (by omega), if_neg (by omega), if_neg (by omega), if_neg (by omega), if_neg (by omega), if_neg (by omega), if_neg (by omega), if_neg (by omega), if_pos ⟨rfl, rfl⟩]
  · rw [if_neg (by omega), if_neg (by omega), if_neg (by omega), if_neg (by omega), if_neg (by omega), if_neg (by omega), if_neg (by omega), if_neg (by omega), if_neg (by omega), if_pos ⟨rfl, rfl⟩]
theorem utP_o {I : IH} {s a b q : Nat} (ha : a < 8) (hb : b < 8) (hx : (I (s + 24 + a) 1).toNatClampNeg < 6) (hy : (I (s + 24 + b) 1).toNatClampNeg < 6) (hq : s + 32 ≤ q ∨ q < s ∨ (s < q ∧ q < s + 18)) : utP I s a b q = I q := by
  funext k
  unfold utP
  rw [if_neg (by omega), if_neg (by omega), if_neg (by omega), if_neg (by omega), if_neg (by omega), if_neg (by omega), if_neg (by omega), if_neg (by omega), if_neg (by omega), if_neg (by omega)]
theorem wbX_s {A : Nat → Int32} {p q x y n k : Nat} {u : S8} (hk : k < 12) (h9 : k ≠ 9) (h10 : k ≠ 10) : wbX A p q x y u n k = A k := by
  unfold wbX wbR
  rw [if_neg (by omega), if_neg (by omega), if_neg (by omega), if_neg (by omega), if_neg (by omega), if_neg (by omega), if_neg (by omega), if_neg (by omega), if_neg (by omega), if_neg (by omega)]
theorem wbX_9 {A : Nat → Int32} {p q x y n : Nat} {u : S8} : wbX A p q x y u n 9 = A 9 + 1 ∧ wbX A p q x y u n 10 = A 10 + nI n := by
  unfold wbX wbR
  constructor
  · rw [if_neg (by omega), if_neg (by omega), if_neg (by omega), if_neg (by omega), if_neg (by omega), if_neg (by omega), if_neg (by omega), if_neg (by omega), if_pos rfl]
  · rw [if_neg (by omega), if_neg (by omega), if_neg (by omega), if_neg (by omega), if_neg (by omega), if_neg (by omega), if_neg (by omega), if_neg (by omega), if_neg (by omega), if_pos rfl]
theorem wbX_q {A : Nat → Int32} {p q x y n k : Nat} {u : S8} (hp : p < 8) (hq : q < 8) (hx : x < 6) (hy : y < 6) (hk : 86 ≤ k) : wbX A p q x y u n k = A k := by
  unfold wbX wbR
  rw [if_neg (by omega), if_neg (by omega), if_neg (by omega), if_neg (by omega), if_neg (by omega), if_neg (by omega), if_neg (by omega), if_neg (by omega), if_neg (by omega), if_neg (by omega)]
theorem stR.sayP {I : IH} {s : Nat} {A : Nat → Int32} (h : stR I s A) {a b x y : Nat} (hn : nbR A a b x y) : stR (utP I s a b) s (wbX A a b x y (rqr A a b x y).2 (rqr A a b x y).1) := by
  have hn0 := hn
  have hq := qrl_rq h hn0
  obtain ⟨ha, hb, hab, ex, ey, hx, hy, hxy⟩ := hn
  have o1 := h.1.1.2
  have o2 := h.1.2.1.2
  have e1 : (I (s + 24 + a) 1).toNatClampNeg = x := by rw [(h.P ha).1, ex, nI_clamp (by omega)]
  have e2 : (I (s + 24 + b) 1).toNatClampNeg = y := by rw [(h.P hb).1, ey, nI_clamp (by omega)]
  have h0 := h
  obtain ⟨ok, ⟨s5, s6, s7, s9, s10, s11, s12, s16, s13, s14, s15⟩, hH, hP, q, hq20, s8, hk⟩ := h
  generalize hu : rqr A a b x y = u at hq ⊢
  have c0 : wbX A a b x y u.2 u.1 0 = A 0 := wbX_s (by omega) (by omega) (by omega)
  have c1 : wbX A a b x y u.2 u.1 1 = A 1 := wbX_s (by omega) (by omega) (by omega)
  have c2 : wbX A a b x y u.2 u.1 2 = A 2 := wbX_s (by omega) (by omega) (by omega)
  unfold stR cnK
  rw [c0, c1, c2]
  refine ⟨ok, ⟨?_, ?_, ?_, ?_, ?_, ?_, ?_, ?_, ?_, ?_, ?_⟩, fun i hi => ⟨?_, ?_, ?_⟩, fun p hp j hj => ?_, q, hq20, ?_, fun k hk2 j hj => ?_⟩
  · rw [utP_z (by omega) (by omega), s5]
  · rw [utP_z (by omega) (by omega), s6]
  · rw [utP_z (by omega) (by omega), s7]
  · rw [utP_z (by omega) (by omega), wbX_s (by omega) (by omega) (by omega), s9]
  · rw [utP_z (by omega) (by omega), wbX_s (by omega) (by omega) (by omega), s10]
  · rw [utP_z (by omega) (by omega), wbX_s (by omega) (by omega) (by omega), s11]
  · rw [utP_z (by omega) (by omega), wbX_s (by omega) (by omega) (by omega), s12]
  · rw [utP_z (by omega) (by omega), wbX_s (by omega) (by omega) (by omega), s16]
  · rw [utP_z (by omega) (by omega), wbX_s (by omega) (by omega) (by omega), s13]
  · rw [utP_14.1, wbX_9.1, s14]
  · rw [utP_14.2, wbX_9.2, s15, hq]
  · rw [utP_h e1 e2 (by omega) (by omega) (by omega), wbX_h (by omega), hq, (hH i hi).1]
  · rw [wbX_h1 (by omega)]
    unfold utP
    rw [e1, e2, if_neg (by omega), if_neg (by omega), if_neg (by omega), if_neg (by omega), if_neg (by omega), if_neg (by omega), if_neg (by omega), if_neg (by omega), if_neg (by omega), if_neg (by omega)]
    exact (hH i hi).2.1
  · have g3 := (hH i hi).2.2
    have gx := (hH x hx).2.2
    have gy := (hH y hy).2.2
    unfold utP wbX wbR
    rw [e1, e2, hq]
    by_cases q1 : i = x
    · subst q1
      rw [if_neg (by omega), if_neg (by omega), if_neg (by omega), if_neg (by omega), if_neg (by omega), if_pos ⟨rfl, rfl⟩, if_neg (by omega), if_neg (by omega), if_neg (by omega), if_neg (by omega), if_neg (by omega), if_neg (by omega), if_pos rfl, gx]
    · by_cases q2 : i = y
      · subst q2
        rw [if_neg (by omega), if_neg (by omega), if_neg (by omega), if_neg (by omega), if_neg (by omega), if_neg (by omega), if_neg (by omega), if_pos ⟨rfl, rfl⟩, if_neg (by omega), if_neg (by omega), if_neg (by omega), if_neg (by omega), if_neg (by omega), if_neg (by omega), if_neg (by omega), if_pos rfl, gy]
      · rw [if_neg (by omega), if_neg (by omega), if_neg (by omega), if_neg (by omega), if_neg (by omega), if_neg (by omega), if_neg (by omega), if_neg (by omega), if_neg (by omega), if_neg (by omega), if_neg (by omega), if_neg (by omega), if_neg (by omega), if_neg (by omega), if_neg (by omega), if_neg (by omega), if_neg (by omega), if_neg (by omega), if_neg (by omega), if_neg (by omega), g3]
  · have g3 := hP p hp j hj
    unfold utP wbX wbR
    rw [e1, e2, hq]
    by_cases q1 : p = a
    · subst q1
      by_cases j5 : j = 5
      · subst j5
        rw [if_pos ⟨rfl, rfl⟩, if_pos rfl]
      · by_cases j6 : j = 6
        · subst j6
          rw [if_neg (by omega), if_pos ⟨rfl, rfl⟩, if_neg (by omega), if_neg (by omega), if_pos rfl]
        · rw [if_neg (by omega), if_neg (by omega), if_neg (by omega), if_neg (by omega), if_neg (by omega), if_neg (by omega), if_neg (by omega), if_neg (by omega), if_neg (by omega), if_neg (by omega), if_neg (by omega), if_neg (by omega), if_neg (by omega), if_neg (by omega), if_neg (by omega), if_neg (by omega), if_neg (by omega), if_neg (by omega), if_neg (by omega), if_neg (by omega), g3]
    · by_cases q2 : p = b
      · subst q2
        by_cases j5 : j = 5
        · subst j5
          rw [if_neg (by omega), if_neg (by omega), if_pos ⟨rfl, rfl⟩, if_neg (by omega), if_pos rfl]
        · by_cases j6 : j = 6
          · subst j6
            rw [if_neg (by omega), if_neg (by omega), if_neg (by omega), if_pos ⟨rfl, rfl⟩, if_neg (by omega), if_neg (by omega), if_neg (by omega), if_pos rfl]
          · rw [if_neg (by omega), if_neg (by omega), if_neg (by omega), if_neg (by omega), if_neg (by omega), if_neg (by omega), if_neg (by omega), if_neg (by omega), if_neg (by omega), if_neg (by omega), if_neg (by omega), if_neg (by omega), if_neg (by omega), if_neg (by omega), if_neg (by omega), if_neg (by omega), if_neg (by omega), if_neg (by omega), if_neg (by omega), if_neg (by omega), g3]
      · rw [if_neg (by omega), if_neg (by omega), if_neg (by omega), if_neg (by omega), if_neg (by omega), if_neg (by omega), if_neg (by omega), if_neg (by omega), if_neg (by omega), if_neg (by omega), if_neg (by omega), if_neg (by omega), if_neg (by omega), if_neg (by omega), if_neg (by omega), if_neg (by omega), if_neg (by omega), if_neg (by omega), if_neg (by omega), if_neg (by omega), g3]
  · rw [utP_z (by omega) (by omega), s8]
  · rw [utP_o (by omega) (by omega) (by omega) (by omega) (by omega), wbX_q (by omega) (by omega) (by omega) (by omega) (by omega)]
    exact hk k hk2 j hj
theorem stR.say {I I' : IH} {J J' : JH} {s : Nat} {A : Nat → Int32} (h : stR I s A) {a b x y : Nat} (hn : nbR A a b x y) (hs : scr s (utI I s a b (min x y)) I' J J') : stR I' s (syX A a b x y) := by
  have hn0 := hn
  have hq := qrl_rq h hn0
  have hft := utF_ft h hn0
  have hP := h.sayP hn0
  have h0 := h
  obtain ⟨ha, hb, hab, ex, ey, hx, hy, hxy⟩ := hn
  have o1 := h.1.1.2
  have o2 := h.1.2.1.2
  have e1 : (I (s + 24 + a) 1).toNatClampNeg = x := by rw [(h.P ha).1, ex, nI_clamp (by omega)]
  have e2 : (I (s + 24 + b) 1).toNatClampNeg = y := by rw [(h.P hb).1, ey, nI_clamp (by omega)]
  refine stR.mv (I := utI I s a b (min x y)) ?_ (fun q h1 h2 h3 => by funext k; exact hs.1 q k (by omega))
  unfold utI syX
  rw [hq]
  by_cases g : (rqr A a b x y).1 = 0
  · rw [if_pos g, if_pos g]
    rw [g] at hP
    exact hP
  · rw [if_neg g, if_neg g]
    generalize hu : rqr A a b x y = u at *
    generalize hB : wbX A a b x y u.2 u.1 = B at *
    have B2 : B 2 = A 2 := by rw [← hB]; exact wbX_s (by omega) (by omega) (by omega)
    have B6 : B 6 = A 6 := by rw [← hB]; exact wbX_s (by omega) (by omega) (by omega)
    obtain ⟨q, hq20, s8, hk⟩ := h.2.2.2.2
    have s7 : I s 7 = A 2 := h.2.1.2.2.1
    have s12 : I s 12 = A 6 := h.2.1.2.2.2.2.2.2.1
    have q8 : (I s 8).toNatClampNeg = q := by rw [s8, nI_clamp (by omega)]
    have o3 := h.1.2.2.2
    obtain ⟨ok, ⟨t5, t6, t7, t9, t10, t11, t12, t16, t13, t14, t15⟩, hH, hPP, q', hq20', s8', hk'⟩ := hP
    have qq : q' = q := by
      rw [utP_z (by omega) (by omega), s8] at s8'
      exact ((nI_eqE (a := q) (b := q') (by omega) (by omega)).mp s8').symm
    subst qq
    have uq : ∀ r k, r ≠ s + 32 + (q' + 1) % 20 → (r = s → k ≠ 8 ∧ k ≠ 7) → utQ I s a b (min x y) r k = utP I s a b r k := fun r k h1 h2 => by
      unfold utQ
      rw [q8, if_neg (by omega), if_neg (by omega), if_neg (by omega)]
    have m20 := Nat.mod_lt (q' + 1) (show 0 < 20 by omega)
    have kz : ∀ wl on ot mn ft k, (k < 86 ∨ 225 < k) → k ≠ 2 → kqA B wl on ot mn ft k = B k := fun wl on ot mn ft k h1 h2 => by
      unfold kqA
      rw [if_neg (by omega), if_neg (by omega), if_neg (by omega), if_neg (by omega), if_neg (by omega), if_neg (by omega), if_neg (by omega), if_neg (by omega), if_neg h2]
    have k2 : ∀ wl on ot mn ft, kqA B wl on ot mn ft 2 = nI (min ((A 2).toNatClampNeg + 1) 20) := fun wl on ot mn ft => by
      unfold kqA
      rw [if_neg (by omega), if_neg (by omega), if_neg (by omega), if_neg (by omega), if_neg (by omega), if_neg (by omega), if_neg (by omega), if_neg (by omega), if_pos rfl, B2]
    have u7 : utQ I s a b (min x y) s 7 = nI (min ((A 2).toNatClampNeg + 1) 20) := by
      unfold utQ
      rw [if_neg (by omega), if_neg (by omega), if_pos ⟨rfl, rfl⟩, s7]
    have u8 : utQ I s a b (min x y) s 8 = nI ((q' + 1) % 20) := by
      unfold utQ
      rw [if_neg (by omega), if_pos ⟨rfl, rfl⟩, q8]
    unfold stR cnK
    rw [kz _ _ _ _ _ 0 (by omega) (by omega), kz _ _ _ _ _ 1 (by omega) (by omega), k2]
    refine ⟨⟨ok.1, ok.2.1, okN.nI (by omega) (by omega)⟩, ⟨?_, ?_, u7, ?_, ?_, ?_, ?_, ?_, ?_, ?_, ?_⟩, fun i hi => ?_, fun p hp j hj => ?_, (q' + 1) % 20, m20, u8, fun k hk2 j hj => ?_⟩
    · rw [uq s 5 (by omega) (by omega)]
      exact t5
    · rw [uq s 6 (by omega) (by omega)]
      exact t6
    · rw [uq s 9 (by omega) (by omega), kz _ _ _ _ _ 3 (by omega) (by omega)]
      exact t9
    · rw [uq s 10 (by omega) (by omega), kz _ _ _ _ _ 4 (by omega) (by omega)]
      exact t10
    · rw [uq s 11 (by omega) (by omega), kz _ _ _ _ _ 5 (by omega) (by omega)]
      exact t11
    · rw [uq s 12 (by omega) (by omega), kz _ _ _ _ _ 6 (by omega) (by omega)]
      exact t12
    · rw [uq s 16 (by omega) (by omega), kz _ _ _ _ _ 7 (by omega) (by omega)]
      exact t16
    · rw [uq s 13 (by omega) (by omega), kz _ _ _ _ _ 8 (by omega) (by omega)]
      exact t13
    · rw [uq s 14 (by omega) (by omega), kz _ _ _ _ _ 9 (by omega) (by omega)]
      exact t14
    · rw [uq s 15 (by omega) (by omega), kz _ _ _ _ _ 10 (by omega) (by omega)]
      exact t15
    · have hi6 : i < 6 := Nat.lt_of_lt_of_le hi ok.1.2
      rw [uq _ 2 (by omega) (by omega), uq _ 1 (by omega) (by omega), uq _ 3 (by omega) (by omega), kz _ _ _ _ _ _ (by omega) (by omega), kz _ _ _ _ _ _ (by omega) (by omega), kz _ _ _ _ _ _ (by omega) (by omega)]
      exact hH i hi
    · have hp8 : p < 8 := Nat.lt_of_lt_of_le hp ok.2.1.2
      rw [uq _ _ (by omega) (by omega), kz _ _ _ _ _ _ (by omega) (by omega)]
      exact hPP p hp j hj
    · rw [nI_clamp (by omega)] at hk2
      cases k with
      | zero =>
        rw [qix_0 _ m20]
        have uj : utQ I s a b (min x y) (s + 32 + (q' + 1) % 20) j = (match j with | 0 => I s 12 | 1 => nI (min x y) | 2 => nI a | 3 => nI b | 4 => nI (qrl I s a b).1 | 5 => utF I s a b (min x y) | _ => 0) := by
          unfold utQ
          rw [q8, if_pos ⟨rfl, by omega⟩]
          rcases (show j = 0 ∨ j = 1 ∨ j = 2 ∨ j = 3 ∨ j = 4 ∨ j = 5 ∨ j = 6 by omega) with rfl | rfl | rfl | rfl | rfl | rfl | rfl <;> rfl
        rw [uj, hft, hq, s12]
        have mn : mnI (nI x) (nI y) = nI (min x y) := mnI_n (by omega) (by omega)
        unfold kqA
        rcases (show j = 0 ∨ j = 1 ∨ j = 2 ∨ j = 3 ∨ j = 4 ∨ j = 5 ∨ j = 6 by omega) with rfl | rfl | rfl | rfl | rfl | rfl | rfl
        · simp [B6]
        · simp [mn]
        · simp
        · simp
        · simp
        · simp
        · simp
      | succ k =>
        have kk := qix_s q' hq20 k (by omega)
        have hqx := qix_lt q' k
        rw [kk.1, uq _ _ (by omega) (by omega)]
        unfold kqA
        rw [if_pos (by omega), show 86 + 7 * (k + 1) + j - 7 = 86 + 7 * k + j by omega]
        exact hk' k (by rw [B2]; omega) j hj
theorem mx0_ng {a b : Int32} {n : Nat} (ha : okN a 30) (hb : okN b 9) (hn : n ≤ 99) : mx0 (a - nI n * b) = nI (a.toNatClampNeg - n * b.toNatClampNeg) := by
  obtain ⟨x, hx, ex, -⟩ := ha.ex
  obtain ⟨y, hy, ey, -⟩ := hb.ex
  subst ex ey
  rw [nI_mul]
  have l : n * y ≤ 99 * 9 := Nat.mul_le_mul hn hy
  have := mx0_ok (a := nI x) (b := nI (n * y)) (okN.nI (n := 30) hx (by omega)) (okN.nI (n := 1000) (by omega) (by omega)) (by omega) (by omega)
  rw [this, nI_clamp (by omega), nI_clamp (by omega), nI_clamp (by omega)]
theorem ngtN_p {n : Nat} : ∀ {A : Nat → Int32}, wfS A → (A 6).toNatClampNeg + n ≤ 9999 → (∀ p, p < (A 1).toNatClampNeg → ngtN n A (30 + 7 * p + 5) = nI ((A (30 + 7 * p + 5)).toNatClampNeg - n * (A 4).toNatClampNeg)) ∧ ngtN n A 6 = nI ((A 6).toNatClampNeg + n) ∧ ∀ k, k ≠ 6 → (∀ r, r < (A 1).toNatClampNeg → k ≠ 30 + 7 * r + 5) → ngtN n A k = A k := by
  induction n with
  | zero =>
    intro A h hd
    refine ⟨fun p hp => ?_, ?_, fun _ _ _ => rfl⟩
    · rw [Nat.zero_mul, Nat.sub_zero]
      exact (h.2.2.2.2.2.2.2.2.1 p hp).2.2.2.2.2.1
    · exact h.2.2.2.2.2.2.1.1
  | succ n ih =>
    intro A h hd
    have o1 := h.2.1.2
    have h1 := h.ng (by omega)
    have e6 := ngtA_6 h.2.2.2.2.2.2.1
    have ek : ∀ k, k ≠ 6 → (∀ r, r < (A 1).toNatClampNeg → k ≠ 30 + 7 * r + 5) → ngtA A k = A k := fun k h1 h2 => by
      unfold ngtA
      rw [uA_n _ _ _ _ h1]
      unfold slpR
      rw [if_neg (fun q => h2 ((k - 30) / 7) (by omega) (by omega))]
    have e1 : ngtA A 1 = A 1 := ek 1 (by omega) (fun r _ => by omega)
    have e4 : ngtA A 4 = A 4 := ek 4 (by omega) (fun r _ => by omega)
    obtain ⟨i1, i2, i3⟩ := ih h1 (by rw [e6]; omega)
    show (∀ p, p < (A 1).toNatClampNeg → ngtN n (ngtA A) (30 + 7 * p + 5) = _) ∧ ngtN n (ngtA A) 6 = _ ∧ ∀ k, k ≠ 6 → _ → ngtN n (ngtA A) k = A k
    refine ⟨fun p hp => ?_, ?_, fun k h1 h2 => ?_⟩
    · have e5 : ngtA A (30 + 7 * p + 5) = nI ((A (30 + 7 * p + 5)).toNatClampNeg - (A 4).toNatClampNeg) := by
        unfold ngtA
        rw [uA_n _ _ _ _ (by omega)]
        unfold slpR
        rw [if_pos (by omega)]
        exact mx0_ok (h.2.2.2.2.2.2.2.2.1 p hp).2.2.2.2.2 h.2.2.2.2.1 (by omega) (by omega)
      have a30 := (h.2.2.2.2.2.2.2.2.1 p hp).2.2.2.2.2.2
      rw [i1 p (by rw [e1]; exact hp), e5, e4, nI_clamp (by omega), Nat.add_mul, Nat.one_mul, Nat.sub_sub, Nat.add_comm (A 4).toNatClampNeg]
    · rw [i2, e6, Nat.add_assoc, Nat.add_comm 1 n]
    · rw [i3 k h1 (fun r hr => h2 r (by rw [← e1]; exact hr)), ek k h1 h2]
theorem stR.sleep {I : IH} {s : Nat} {A : Nat → Int32} (h : stR I s A) (hw : wfS A) {n : Nat} (hn : n ≤ 99) (hd : (A 6).toNatClampNeg + n ≤ 9999) : stR (u2 (slp I s (I s 6).toNatClampNeg (nI n)) s 12 (I s 12 + nI n)) s (ngtN n A) := by
  obtain ⟨n5, n6, nk⟩ := ngtN_p hw hd
  obtain ⟨o, ⟨a1, a2, a3, a4, a5, a6, a7, a8, a9, a10, a11⟩, b, c, q, hq, h8, hk⟩ := h
  have o1 := o.2.1.2
  have o0 := o.1.2
  have z : ∀ j, j < 30 → j ≠ 6 → ngtN n A j = A j := fun j h1 h2 => nk j h2 (fun r _ => by omega)
  have sk : ∀ k, k ≠ 12 → u2 (slp I s (I s 6).toNatClampNeg (nI n)) s 12 (I s 12 + nI n) s k = I s k := fun k h1 => by
    rw [u2_ck _ _ _ _ _ _ h1]
    unfold slp
    rw [if_neg (by omega)]
  unfold stR cnK
  rw [z 0 (by omega) (by omega), z 1 (by omega) (by omega), z 2 (by omega) (by omega), z 3 (by omega) (by omega), z 4 (by omega) (by omega), z 5 (by omega) (by omega), z 7 (by omega) (by omega), z 8 (by omega) (by omega), z 9 (by omega) (by omega), z 10 (by omega) (by omega), sk 5 (by omega), sk 6 (by omega), sk 7 (by omega), sk 9 (by omega), sk 10 (by omega), sk 11 (by omega), sk 16 (by omega), sk 13 (by omega), sk 14 (by omega), sk 15 (by omega), sk 8 (by omega)]
  refine ⟨o, ⟨a1, a2, a3, a4, a5, a6, ?_, a8, a9, a10, a11⟩, fun i hi => ?_, fun p hp j hj => ?_, q, hq, h8, fun k hk3 j hj => ?_⟩
  · rw [u2_same, n6, a7]
    have := hw.2.2.2.2.2.2.1.1
    rw [this, nI_clamp (by have := hw.2.2.2.2.2.2.1.2; omega), nI_add]
  · have e : ∀ k, u2 (slp I s (I s 6).toNatClampNeg (nI n)) s 12 (I s 12 + nI n) (s + 18 + i) k = I (s + 18 + i) k := fun k => by
      rw [u2_ne (by omega)]
      unfold slp
      rw [if_neg (by omega)]
    rw [e, e, e, z _ (by omega) (by omega), z _ (by omega) (by omega), z _ (by omega) (by omega)]
    exact b i hi
  · rw [u2_ne (by omega)]
    unfold slp
    by_cases g : j = 5
    · subst g
      rw [if_pos (by rw [a2]; omega), n5 p hp, c p hp 5 (by omega), a5]
      exact mx0_ng (hw.2.2.2.2.2.2.2.2.1 p hp).2.2.2.2.2 hw.2.2.2.2.1 hn
    · rw [if_neg (by omega), nk _ (by omega) (fun r hr => by omega)]
      exact c p hp j hj
  · rw [u2_ne (by have := qix_lt q k; omega)]
    unfold slp
    rw [if_neg (by rw [a2]; omega), nk _ (by omega) (fun r hr => by omega)]
    exact hk k hk3 j hj
theorem ofI_t {m : Int} (h1 : -5000 ≤ m) (h2 : m ≤ 5000) : (Int32.ofInt m).toInt = m := Int32.toInt_ofInt_of_le (by omega) (by omega)
theorem ofI_lt {a b : Int} (h1 : -5000 ≤ a) (h2 : a ≤ 5000) (h3 : -5000 ≤ b) (h4 : b ≤ 5000) : (Int32.ofInt a < Int32.ofInt b) = (a < b) := propext (by rw [Int32.lt_iff_toInt_lt, ofI_t h1 h2, ofI_t h3 h4])
theorem nI_oI (n : Nat) : nI n = Int32.ofInt (n : Int) := rfl
theorem nI_oN (n : Nat) : -nI n = Int32.ofInt (-(n : Int)) := by
  rw [Int32.ofInt_neg]
  rfl
theorem u2_cc {α : Type} (f : Nat → Nat → α) (a k b j : Nat) (v : α) (h : ¬ (b = a ∧ j = k)) : u2 f a k v b j = f b j := by
  unfold u2
  rw [if_neg h]
theorem psh_neg {x y h : Nat} (hx : x ≤ 2000) (hy : y ≤ 2000) (hh : h ≤ 2000) : psh (nI x) (nI y) (-nI h) = -nI (min h x) := by
  have n1 : ¬ nI y < -nI h := by
    rw [nI_oN, nI_oI y, ofI_lt (by omega) (by omega) (by omega) (by omega)]
    omega
  unfold psh
  rw [if_neg n1]
  by_cases q : h < x
  · rw [if_pos (show -nI x < -nI h by rw [nI_oN, nI_oN, ofI_lt (by omega) (by omega) (by omega) (by omega)]; omega), show min h x = h by omega]
  · rw [if_neg (show ¬ -nI x < -nI h by rw [nI_oN, nI_oN, ofI_lt (by omega) (by omega) (by omega) (by omega)]; omega), show min h x = x by omega]
theorem psh_pos {x y h : Nat} (hx : x ≤ 2000) (hy : y ≤ 2000) (hh : h ≤ 2000) : psh (nI x) (nI y) (nI h) = nI (min h y) := by
  have e : (if nI y < nI h then nI y else nI h) = nI (min h y) := by
    by_cases q : y < h
    · rw [if_pos (show nI y < nI h by rw [nI_oI, nI_oI, ofI_lt (by omega) (by omega) (by omega) (by omega)]; omega), show min h y = y by omega]
    · rw [if_neg (show ¬ nI y < nI h by rw [nI_oI, nI_oI, ofI_lt (by omega) (by omega) (by omega) (by omega)]; omega), show min h y = h by omega]
  unfold psh
  rw [e]
  by_cases q : 0 < x + min h y
  · rw [if_pos (show -nI x < nI (min h y) by rw [nI_oN, nI_oI (min h y), ofI_lt (by omega) (by omega) (by omega) (by omega)]; omega)]
  · rw [show x = 0 by omega, show min h y = 0 by omega]
    decide
theorem abI_pos {n : Nat} (h : n ≤ 2000) : abI (nI n) = nI n := by
  unfold abI
  rw [if_pos]
  exact (nI_leI (a := 0) (by omega) (by omega)).mpr (Nat.zero_le n)
theorem abI_neg {n : Nat} (h : n ≤ 2000) : abI (-nI n) = nI n := by
  unfold abI
  split
  · next q =>
    rw [show (0 : Int32) = Int32.ofInt 0 from rfl, nI_oN, ← Int32.not_lt, ofI_lt (by omega) (by omega) (by omega) (by omega)] at q
    rw [show n = 0 by omega]
    rfl
  · grind
theorem stR.uW {I : IH} {s : Nat} {A : Nat → Int32} (h : stR I s A) {w : Nat} (hw : w < 6) (v : Int32) : stR (u2 I (s + 18 + w) 2 v) s (uA A (12 + 3 * w) v) := by
  obtain ⟨o, a, b, c, q, hq, h8, hk⟩ := h
  have o1 := o.2.1.2
  have o0 := o.1.2
  have z : ∀ j, j < 12 → uA A (12 + 3 * w) v j = A j := fun j h1 => uA_n _ _ _ _ (by omega)
  unfold stR cnK
  rw [z 0 (by omega), z 1 (by omega), z 2 (by omega), z 3 (by omega), z 4 (by omega), z 5 (by omega), z 6 (by omega), z 7 (by omega), z 8 (by omega), z 9 (by omega), z 10 (by omega), u2_ne (by omega)]
  refine ⟨o, a, fun i hi => ?_, fun p hp j hj => ?_, q, hq, h8, fun k hk3 j hj => ?_⟩
  · by_cases g : i = w
    · subst g
      rw [u2_same, u2_ck _ _ _ _ _ _ (by omega), u2_ck _ _ _ _ _ _ (by omega), uA_e, uA_n _ _ _ _ (by omega), uA_n _ _ _ _ (by omega)]
      exact ⟨rfl, (b i hi).2⟩
    · rw [u2_ne (by omega), uA_n _ _ _ _ (by omega), uA_n _ _ _ _ (by omega), uA_n _ _ _ _ (by omega)]
      exact b i hi
  · rw [u2_ne (by omega), uA_n _ _ _ _ (by omega)]
    exact c p hp j hj
  · rw [u2_ne (by omega), uA_n _ _ _ _ (by omega)]
    exact hk k hk3 j hj
theorem stR.uP {I : IH} {s : Nat} {A : Nat → Int32} (h : stR I s A) {r i : Nat} (hr : r < 8) (hi : i < 7) (v : Int32) : stR (u2 I (s + 24 + r) (i + 1) v) s (uA A (30 + 7 * r + i) v) := by
  obtain ⟨o, a, b, c, q, hq, h8, hk⟩ := h
  have o1 := o.2.1.2
  have o0 := o.1.2
  have z : ∀ j, j < 30 → uA A (30 + 7 * r + i) v j = A j := fun j h1 => uA_n _ _ _ _ (by omega)
  unfold stR cnK
  rw [z 0 (by omega), z 1 (by omega), z 2 (by omega), z 3 (by omega), z 4 (by omega), z 5 (by omega), z 6 (by omega), z 7 (by omega), z 8 (by omega), z 9 (by omega), z 10 (by omega), u2_ne (by omega)]
  refine ⟨o, a, fun i hi => ?_, fun p hp j hj => ?_, q, hq, h8, fun k hk3 j hj => ?_⟩
  · rw [u2_ne (by omega), z _ (by omega), z _ (by omega), z _ (by omega)]
    exact b i hi
  · by_cases g : p = r ∧ j = i
    · obtain ⟨rfl, rfl⟩ := g
      rw [u2_same, uA_e]
    · rw [u2_cc _ _ _ _ _ _ (by omega), uA_n _ _ _ _ (by omega)]
      exact c p hp j hj
  · rw [u2_ne (by omega), uA_n _ _ _ _ (by omega)]
    exact hk k hk3 j hj
theorem stR.uQ {I : IH} {s : Nat} {A : Nat → Int32} (h : stR I s A) {k : Nat} (hk : k < 20) (v : Int32) : stR (u2 I (s + 32 + qix (I s 8).toNatClampNeg k) 6 v) s (uA A (86 + 7 * k + 6) v) := by
  obtain ⟨o, a, b, c, q, hq, h8, hk2⟩ := h
  have o1 := o.2.1.2
  have o0 := o.1.2
  have o3 := o.2.2.2
  have z : ∀ j, j < 86 → uA A (86 + 7 * k + 6) v j = A j := fun j h1 => uA_n _ _ _ _ (by omega)
  have e8 : (I s 8).toNatClampNeg = q := by rw [h8, nI_clamp (by omega)]
  have ql := qix_lt q k
  unfold stR cnK
  rw [e8, z 0 (by omega), z 1 (by omega), z 2 (by omega), z 3 (by omega), z 4 (by omega), z 5 (by omega), z 6 (by omega), z 7 (by omega), z 8 (by omega), z 9 (by omega), z 10 (by omega), u2_ne (by omega)]
  refine ⟨o, a, fun i hi => ?_, fun p hp j hj => ?_, q, hq, h8, fun i hi j hj => ?_⟩
  · rw [u2_ne (by omega), z _ (by omega), z _ (by omega), z _ (by omega)]
    exact b i hi
  · rw [u2_ne (by omega), z _ (by omega)]
    exact c p hp j hj
  · by_cases g : i = k ∧ j = 6
    · obtain ⟨rfl, rfl⟩ := g
      rw [u2_same, uA_e]
    · have qi : i ≠ k → qix q i ≠ qix q k := by
        unfold qix
        omega
      rw [u2_cc _ _ _ _ _ _ (by omega), uA_n _ _ _ _ (by omega)]
      exact hk2 i hi j hj
theorem uA_cm {α : Type} (A : Nat → α) {j k : Nat} (h : j ≠ k) (v w : α) : uA (uA A j v) k w = uA (uA A k w) j v := by
  funext i
  unfold uA
  by_cases h1 : i = k
  · rw [if_pos h1]
    by_cases h2 : i = j
    · omega
    · rw [if_neg h2, if_pos h1]
  · rw [if_neg h1]
    by_cases h2 : i = j
    · rw [if_pos h2, if_pos h2]
    · rw [if_neg h2, if_neg h2, if_neg h1]
/-- an apology: the wall goes back -/
theorem stR.sry {I : IH} {s : Nat} {A : Nat → Int32} (h : stR I s A) (hw : wfS A) {k w q : Nat} {f : Int32} (hk : k < (A 2).toNatClampNeg) (hq : q = s + 32 + qix (I s 8).toNatClampNeg k) (h1 : I q 1 = nI w) (hw5 : w < 5) (hf : f = psh (I (s + 18 + w) 2) (I (s + 18 + (w + 1)) 2) (-(I q 5 / 2))) : stR (u2 (u2 (u2 I q 6 1) (s + 18 + w) 2 (I (s + 18 + w) 2 + f)) (s + 18 + (w + 1)) 2 (I (s + 18 + (w + 1)) 2 - f)) s (hlA A k w) ∧ A (86 + 7 * k + 1) = nI w ∧ w + 1 < (A 0).toNatClampNeg ∧ (0 < A (86 + 7 * k + 5) → abI f = mnI (A (86 + 7 * k + 5) / 2) (A (12 + 3 * w))) ∧ (¬ 0 < A (86 + 7 * k + 5) → abI f = mnI (-A (86 + 7 * k + 5) / 2) (A (12 + 3 * (w + 1)))) := by
  have o3 := h.1.2.2.2
  obtain ⟨q0, hq20, h8, hkk⟩ := h.2.2.2.2
  have e8 : (I s 8).toNatClampNeg = q0 := by rw [h8, nI_clamp (by omega)]
  have k1 := hkk k hk 1 (by omega)
  have k5 := hkk k hk 5 (by omega)
  rw [← e8, ← hq] at k1 k5
  have hW : A (86 + 7 * k + 1) = nI w := k1.symm.trans h1
  obtain ⟨⟨q1, q2⟩, ⟨m, em, hm1, hm2⟩, -⟩ := hw.2.2.2.2.2.2.2.2.2.2.1 k hk
  rw [hW, nI_clamp (by omega)] at q2
  obtain ⟨f1, f2, f3⟩ := hf_bd hm1 hm2
  obtain ⟨x, hx, ex, -⟩ := (hw.2.2.2.2.2.2.2.2.2.1 w (by omega)).1.ex
  obtain ⟨y, hy, ey, -⟩ := (hw.2.2.2.2.2.2.2.2.2.1 (w + 1) (by omega)).1.ex
  have ix := (h.H (i := w) (by omega)).1
  have iy := (h.H (i := w + 1) (by omega)).1
  have hQ := h.uQ (k := k) (by omega) 1
  rw [← hq] at hQ
  refine ⟨?_, hW, q2, ?_, ?_⟩
  · have hS := (hQ.uW (w := w) (by omega) (I (s + 18 + w) 2 + f)).uW (w := w + 1) (by omega) (I (s + 18 + (w + 1)) 2 - f)
    unfold hlA
    rw [em]
    by_cases hp : 0 < Int32.ofInt m
    · rw [if_pos hp, f2 (f1.mp hp), ex, mnI_n (by omega) (by omega)]
      rw [ix, iy, ex, ey, k5, em, f2 (f1.mp hp), psh_neg (by omega) (by omega) (by omega)] at hf
      rw [ix, iy, ex, hf] at hS ⊢
      have e1 : nI x + -nI (min (m.toNat / 2) x) = nI x - nI (min (m.toNat / 2) x) := by grind
      have e2 : A (12 + 3 * (w + 1)) - -nI (min (m.toNat / 2) x) = A (12 + 3 * (w + 1)) + nI (min (m.toNat / 2) x) := by grind
      rw [e1, e2] at hS ⊢
      exact hS
    · have f3' := f3 (fun q => hp (f1.mpr q))
      rw [if_neg hp, f3'.1, ey, mnI_n (by omega) (by omega), uA_cm _ (by omega)]
      rw [ix, iy, ex, ey, k5, em, f3'.2, Int32.neg_neg, psh_pos (by omega) (by omega) (by omega)] at hf
      rw [ix, iy, ey, hf] at hS ⊢
      exact hS
  · intro hp
    rw [em] at hp ⊢
    rw [f2 (f1.mp hp), ex, mnI_n (by omega) (by omega), hf, ix, iy, ex, ey, k5, em, f2 (f1.mp hp), psh_neg (by omega) (by omega) (by omega), abI_neg (by omega)]
  · intro hp
    rw [em] at hp ⊢
    have f3' := f3 (fun q => hp (f1.mpr q))
    rw [f3'.1, ey, mnI_n (by omega) (by omega), hf, ix, iy, ex, ey, k5, em, f3'.2, Int32.neg_neg, psh_pos (by omega) (by omega) (by omega), abI_pos (by omega)]
