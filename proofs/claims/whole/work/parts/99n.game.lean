/-! games: the class's best play is the reference's -/
def sw8 (x : S8) : S8 := (x.2.1, x.1, x.2.2.2.1, x.2.2.1, x.2.2.2.2.2.1, x.2.2.2.2.1, x.2.2.2.2.2.2.2, x.2.2.2.2.2.2.1)
theorem spk_sw (t0 t1 e0 e1 ft r : Int32) : ∀ (n : Nat) (t : Bool) (v : Int32) (x : S8), spk t1 t0 e1 e0 ft r n (!t) v (sw8 x) = ((spk t0 t1 e0 e1 ft r n t v x).1, sw8 (spk t0 t1 e0 e1 ft r n t v x).2)
  | 0, _, _, _ => rfl
  | n + 1, true, v, (a0, a1, h0, h1, w0, w1, l0, l1) => by
    show spk t1 t0 e1 e0 ft r (n + 1) false v (a1, a0, h1, h0, w1, w0, l1, l0) = _
    unfold spk
    by_cases q1 : 10 ≤ v + e1
    · rw [if_pos q1, if_pos q1]
      by_cases q2 : t1 < a1 + v
      · rw [if_pos q2, if_pos q2]
        have ih := spk_sw t0 t1 e0 e1 ft r n false (ldn 9 r) (a0, 0, h0, h1 + 1, w0 + mnI ft w1, w1 - mnI ft w1, l0, l1 + mnI ft w1)
        have ih' : spk t1 t0 e1 e0 ft r n true (ldn 9 r) (0, a0, h1 + 1, h0, w1 - mnI ft w1, w0 + mnI ft w1, l1 + mnI ft w1, l0) = _ := ih
        rw [ih']
      · rw [if_neg q2, if_neg q2]
        rfl
    · rw [if_neg q1, if_neg q1]
      rfl
  | n + 1, false, v, (a0, a1, h0, h1, w0, w1, l0, l1) => by
    show spk t1 t0 e1 e0 ft r (n + 1) true v (a1, a0, h1, h0, w1, w0, l1, l0) = _
    unfold spk
    by_cases q1 : 10 ≤ v + e0
    · rw [if_pos q1, if_pos q1]
      by_cases q2 : t0 < a0 + v
      · rw [if_pos q2, if_pos q2]
        have ih := spk_sw t0 t1 e0 e1 ft r n true (ldn 9 r) (0, a1, h0 + 1, h1, w0 - mnI ft w0, w1 + mnI ft w0, l0 + mnI ft w0, l1)
        have ih' : spk t1 t0 e1 e0 ft r n false (ldn 9 r) (a1, 0, h1, h0 + 1, w1 + mnI ft w0, w0 - mnI ft w0, l1, l0 + mnI ft w0) = _ := ih
        rw [ih']
      · rw [if_neg q2, if_neg q2]
        rfl
    · rw [if_neg q1, if_neg q1]
      rfl
/-- a game's row against what the class holds of the two -/
def gmI (I : IH) (s : Nat) (A : Nat → Int32) (p q x y : Nat) : Prop := wfS A ∧ nbR A p q x y ∧ I (s + 14) 2 = A (30 + 7 * p + 1) ∧ I (s + 15) 2 = A (30 + 7 * q + 1) ∧ I (s + 14) 3 = A (30 + 7 * p + 2) ∧ I (s + 15) 3 = A (30 + 7 * q + 2) ∧ I (s + 14) 4 = A (30 + 7 * p + 3) ∧ I (s + 15) 4 = A (30 + 7 * q + 3) ∧ I (s + 12) 3 = A 3 ∧ I (s + 12) 4 = A 7
theorem nbR.sw {A : Nat → Int32} {p q x y : Nat} (h : nbR A p q x y) : nbR A q p y x := by
  obtain ⟨a, b, c, d, e, f, g, i⟩ := h
  exact ⟨b, a, fun q => c q.symm, e, d, g, f, i.symm⟩
theorem syX_st {A : Nat → Int32} {p q x y : Nat} (hw : wfS A) (hn : nbR A p q x y) : (∀ k, k < 12 → k ≠ 2 → k ≠ 9 → k ≠ 10 → syX A p q x y k = A k) ∧ ∀ r j, r < 8 → j < 5 → syX A p q x y (30 + 7 * r + j) = A (30 + 7 * r + j) := by
  obtain ⟨a, b, c, d, e, f, g, i⟩ := hn
  have h0 := hw.1.2
  have h1 := hw.2.1.2
  refine ⟨fun k k1 k2 k3 k4 => ?_, fun r j hr hj => ?_⟩
  · rw [syX_lo (by omega) k2]
    exact wbX_s k1 k3 k4
  · rw [syX_lo (by omega) (by omega)]
    exact wbX_o (by omega) (by omega) (by omega) (by omega) (by omega)
theorem gmI.sy {I : IH} {s : Nat} {A : Nat → Int32} {p q x y : Nat} (h : gmI I s A p q x y) {r t u v : Nat} (hn : nbR A r t u v) : gmI I s (syX A r t u v) p q x y := by
  obtain ⟨hw, ⟨a, b, c, d, e, f, g, i⟩, i1, i2, i3, i4, i5, i6, i7, i8⟩ := h
  obtain ⟨s1, s2⟩ := syX_st hw hn
  have h0 := hw.1.2
  have h1 := hw.2.1.2
  have e0 := s1 0 (by omega) (by omega) (by omega) (by omega)
  have e1 := s1 1 (by omega) (by omega) (by omega) (by omega)
  refine ⟨hw.sy hn, ⟨by rw [e1]; exact a, by rw [e1]; exact b, c, (s2 p 0 (by omega) (by omega)).trans d, (s2 q 0 (by omega) (by omega)).trans e, by rw [e0]; exact f, by rw [e0]; exact g, i⟩, ?_, ?_, ?_, ?_, ?_, ?_, ?_, ?_⟩
  · rw [s2 p 1 (by omega) (by omega)]; exact i1
  · rw [s2 q 1 (by omega) (by omega)]; exact i2
  · rw [s2 p 2 (by omega) (by omega)]; exact i3
  · rw [s2 q 2 (by omega) (by omega)]; exact i4
  · rw [s2 p 3 (by omega) (by omega)]; exact i5
  · rw [s2 q 3 (by omega) (by omega)]; exact i6
  · rw [s1 3 (by omega) (by omega) (by omega) (by omega)]; exact i7
  · rw [s1 7 (by omega) (by omega) (by omega) (by omega)]; exact i8
/-- a say of the first one -/
theorem gm_t {I : IH} {s : Nat} {A : Nat → Int32} {p q x y : Nat} (h : gmI I s A p q x y) : bpY I s true (A (30 + 7 * p + 5)) (A (30 + 7 * q + 5)) (A (12 + 3 * x)) (A (12 + 3 * y)) = (bpY I s true (A (30 + 7 * p + 5)) (A (30 + 7 * q + 5)) (A (12 + 3 * x)) (A (12 + 3 * y))) ∧ syX A p q x y (30 + 7 * p + 5) = (bpY I s true (A (30 + 7 * p + 5)) (A (30 + 7 * q + 5)) (A (12 + 3 * x)) (A (12 + 3 * y))).1 ∧ syX A p q x y (30 + 7 * q + 5) = (bpY I s true (A (30 + 7 * p + 5)) (A (30 + 7 * q + 5)) (A (12 + 3 * x)) (A (12 + 3 * y))).2.1 ∧ syX A p q x y (12 + 3 * x) = (bpY I s true (A (30 + 7 * p + 5)) (A (30 + 7 * q + 5)) (A (12 + 3 * x)) (A (12 + 3 * y))).2.2.2.2.1 ∧ syX A p q x y (12 + 3 * y) = (bpY I s true (A (30 + 7 * p + 5)) (A (30 + 7 * q + 5)) (A (12 + 3 * x)) (A (12 + 3 * y))).2.2.2.2.2.1 := by
  obtain ⟨hw, ⟨a, b, c, d, e, f, g, i⟩, i1, i2, i3, i4, i5, i6, i7, i8⟩ := h
  have h0 := hw.1.2
  have h1 := hw.2.1.2
  have hl := spk_hl (A (30 + 7 * p + 1)) (A (30 + 7 * q + 1)) (A (30 + 7 * p + 2)) (A (30 + 7 * q + 2)) (A 3) (A 7) 6 true (ldn (A (30 + 7 * p + 3)) (A 7)) (A (30 + 7 * p + 5)) (A (30 + 7 * q + 5)) (A (12 + 3 * x)) (A (12 + 3 * y)) (A (30 + 7 * p + 6)) (A (30 + 7 * q + 6)) 0 0 0 0 0 0
  have eb : bpY I s true (A (30 + 7 * p + 5)) (A (30 + 7 * q + 5)) (A (12 + 3 * x)) (A (12 + 3 * y)) = (spk (A (30 + 7 * p + 1)) (A (30 + 7 * q + 1)) (A (30 + 7 * p + 2)) (A (30 + 7 * q + 2)) (A 3) (A 7) 6 true (ldn (A (30 + 7 * p + 3)) (A 7)) (A (30 + 7 * p + 5), A (30 + 7 * q + 5), 0, 0, A (12 + 3 * x), A (12 + 3 * y), 0, 0)).2 := by
    unfold bpY spkI
    rw [if_pos rfl, i1, i2, i3, i4, i5, i7, i8]
  refine ⟨rfl, ?_, ?_, ?_, ?_⟩
  · rw [syX_lo (by omega) (by omega), wbX_a (by omega) (by omega), if_pos rfl, eb]
    exact hl.1
  · rw [syX_lo (by omega) (by omega), wbX_a (by omega) (by omega), if_neg (fun w => c w.symm), if_pos rfl, eb]
    exact hl.2.1
  · rw [syX_lo (by omega) (by omega), wbX_h (by omega), if_pos rfl, eb]
    exact hl.2.2.1
  · rw [syX_lo (by omega) (by omega), wbX_h (by omega), if_neg (by omega), if_pos rfl, eb]
    exact hl.2.2.2
/-- a say of the other one -/
theorem gm_f {I : IH} {s : Nat} {A : Nat → Int32} {p q x y : Nat} (h : gmI I s A p q x y) : syX A q p y x (30 + 7 * p + 5) = (bpY I s false (A (30 + 7 * p + 5)) (A (30 + 7 * q + 5)) (A (12 + 3 * x)) (A (12 + 3 * y))).1 ∧ syX A q p y x (30 + 7 * q + 5) = (bpY I s false (A (30 + 7 * p + 5)) (A (30 + 7 * q + 5)) (A (12 + 3 * x)) (A (12 + 3 * y))).2.1 ∧ syX A q p y x (12 + 3 * x) = (bpY I s false (A (30 + 7 * p + 5)) (A (30 + 7 * q + 5)) (A (12 + 3 * x)) (A (12 + 3 * y))).2.2.2.2.1 ∧ syX A q p y x (12 + 3 * y) = (bpY I s false (A (30 + 7 * p + 5)) (A (30 + 7 * q + 5)) (A (12 + 3 * x)) (A (12 + 3 * y))).2.2.2.2.2.1 := by
  obtain ⟨hw, ⟨a, b, c, d, e, f, g, i⟩, i1, i2, i3, i4, i5, i6, i7, i8⟩ := h
  have h0 := hw.1.2
  have h1 := hw.2.1.2
  have sw := spk_sw (A (30 + 7 * p + 1)) (A (30 + 7 * q + 1)) (A (30 + 7 * p + 2)) (A (30 + 7 * q + 2)) (A 3) (A 7) 6 false (ldn (A (30 + 7 * q + 3)) (A 7)) (A (30 + 7 * p + 5), A (30 + 7 * q + 5), 0, 0, A (12 + 3 * x), A (12 + 3 * y), 0, 0)
  have eb : bpY I s false (A (30 + 7 * p + 5)) (A (30 + 7 * q + 5)) (A (12 + 3 * x)) (A (12 + 3 * y)) = (spk (A (30 + 7 * p + 1)) (A (30 + 7 * q + 1)) (A (30 + 7 * p + 2)) (A (30 + 7 * q + 2)) (A 3) (A 7) 6 false (ldn (A (30 + 7 * q + 3)) (A 7)) (A (30 + 7 * p + 5), A (30 + 7 * q + 5), 0, 0, A (12 + 3 * x), A (12 + 3 * y), 0, 0)).2 := by
    unfold bpY spkI
    rw [if_neg (by decide), i1, i2, i3, i4, i6, i7, i8]
  have sw' : spk (A (30 + 7 * q + 1)) (A (30 + 7 * p + 1)) (A (30 + 7 * q + 2)) (A (30 + 7 * p + 2)) (A 3) (A 7) 6 true (ldn (A (30 + 7 * q + 3)) (A 7)) (A (30 + 7 * q + 5), A (30 + 7 * p + 5), 0, 0, A (12 + 3 * y), A (12 + 3 * x), 0, 0) = _ := sw
  have hl := spk_hl (A (30 + 7 * q + 1)) (A (30 + 7 * p + 1)) (A (30 + 7 * q + 2)) (A (30 + 7 * p + 2)) (A 3) (A 7) 6 true (ldn (A (30 + 7 * q + 3)) (A 7)) (A (30 + 7 * q + 5)) (A (30 + 7 * p + 5)) (A (12 + 3 * y)) (A (12 + 3 * x)) (A (30 + 7 * q + 6)) (A (30 + 7 * p + 6)) 0 0 0 0 0 0
  rw [sw', ← eb] at hl
  obtain ⟨l1, l2, l3, l4⟩ := hl
  refine ⟨?_, ?_, ?_, ?_⟩
  · rw [syX_lo (by omega) (by omega), wbX_a (by omega) (by omega), if_neg c, if_pos rfl]
    exact l2
  · rw [syX_lo (by omega) (by omega), wbX_a (by omega) (by omega), if_pos rfl]
    exact l1
  · rw [syX_lo (by omega) (by omega), wbX_h (by omega), if_neg (by omega), if_pos rfl]
    exact l4
  · rw [syX_lo (by omega) (by omega), wbX_h (by omega), if_pos rfl]
    exact l3
theorem gm_w {I : IH} {s : Nat} {A : Nat → Int32} {p q x y : Nat} (h : gmI I s A p q x y) : okN (A (12 + 3 * x)) 600 := (h.1.2.2.2.2.2.2.2.2.2.1 x h.2.1.2.2.2.2.2.1).1
theorem sub_c {u v o : Nat} (hu : u ≤ 600) (hv : v ≤ 600) (ho : o ≤ 600) : (nI v - nI o < nI u - nI o ↔ nI v < nI u) ∧ ¬ nI u - nI o = 1000000 := by
  rw [ofI_sub hv ho, ofI_sub hu ho, nI_ltI (by omega) (by omega)]
  constructor
  · rw [Int32.lt_iff_toInt_lt, ofI_t (by omega) (by omega), ofI_t (by omega) (by omega)]
    omega
  · intro q
    have e := congrArg Int32.toInt q
    rw [ofI_t (by omega) (by omega)] at e
    have e2 : (1000000 : Int32).toInt = 1000000 := by decide
    rw [e2] at e
    omega
/-- best play on both sides -/
theorem gm_p {I : IH} {s tn p q x y : Nat} {o : Nat} (ho : o ≤ 600) (htn : tn ≤ 4) : ∀ (f L : Nat) (A : Nat → Int32), L + f = tn → gmI I s A p q x y → ∃ w, w ≤ 600 ∧ bpW I s tn (4 - L) L (A (30 + 7 * p + 5)) (A (30 + 7 * q + 5)) (A (12 + 3 * x)) (A (12 + 3 * y)) = nI w ∧ gmV p q x y (nI o) f L A = nI w - nI o := by
  intro f
  induction f with
  | zero =>
    intro L A hL h
    obtain ⟨w, hw, ew, -⟩ := (gm_w h).ex
    refine ⟨w, hw, ?_, ?_⟩
    · have : ∀ F, bpW I s tn F L (A (30 + 7 * p + 5)) (A (30 + 7 * q + 5)) (A (12 + 3 * x)) (A (12 + 3 * y)) = A (12 + 3 * x) := fun F => by
        cases F with
        | zero => rfl
        | succ F =>
          unfold bpW
          rw [if_pos (by omega)]
      rw [this]
      exact ew
    · unfold gmV
      rw [ew]
  | succ f ih =>
    intro L A hL h
    obtain ⟨v, hv, ev, gv⟩ := ih (L + 1) A (by omega) h
    have e4 : 4 - L = 4 - (L + 1) + 1 := by omega
    rw [e4]
    unfold bpW gmV
    rw [if_neg (by omega)]
    by_cases g : L % 2 = 0
    · have hs : gmI I s (syX A p q x y) p q x y := h.sy h.2.1
      obtain ⟨u, hu, eu, gu⟩ := ih (L + 1) (syX A p q x y) (by omega) hs
      obtain ⟨-, c1, c2, c3, c4⟩ := gm_t h
      rw [c1, c2, c3, c4] at eu
      obtain ⟨d1, d2⟩ := sub_c hu hv ho
      have el : syL A p q x y L = syX A p q x y := by
        unfold syL
        rw [if_pos g]
      rw [if_pos g, el, gv, gu, ev, eu]
      unfold wgh kpC
      by_cases k : nI v < nI u
      · rw [if_pos k, if_pos ⟨d2, Or.inl ⟨g, d1.mpr k⟩⟩]
        exact ⟨u, hu, rfl, rfl⟩
      · rw [if_neg k, if_neg (fun w => w.2.elim (fun r => k (d1.mp r.2)) (fun r => r.1 g))]
        exact ⟨v, hv, rfl, rfl⟩
    · have hs : gmI I s (syX A q p y x) p q x y := h.sy h.2.1.sw
      obtain ⟨u, hu, eu, gu⟩ := ih (L + 1) (syX A q p y x) (by omega) hs
      obtain ⟨c1, c2, c3, c4⟩ := gm_f h
      rw [c1, c2, c3, c4] at eu
      obtain ⟨d1, d2⟩ := sub_c hv hu ho
      obtain ⟨-, d3⟩ := sub_c hu hv ho
      have el : syL A p q x y L = syX A q p y x := by
        unfold syL
        rw [if_neg g]
      rw [if_neg g, el, gv, gu, ev, eu]
      unfold wgh kpC
      by_cases k : nI u < nI v
      · rw [if_pos k, if_pos ⟨d3, Or.inr ⟨g, d1.mpr k⟩⟩]
        exact ⟨u, hu, rfl, rfl⟩
      · rw [if_neg k, if_neg (fun w => w.2.elim (fun r => g r.1) (fun r => k (d1.mp r.2)))]
        exact ⟨v, hv, rfl, rfl⟩
/-- two that may play, tried -/
theorem gm_0 {I : IH} {s : Nat} {A : Nat → Int32} (h : stR I s A) (hw : wfS A) {p q x y : Nat} (hn : nbR A p q x y) : gmI (tro I s p q) s A p q x y ∧ tro I s p q (s + 14) 6 = A (30 + 7 * p + 5) ∧ tro I s p q (s + 15) 6 = A (30 + 7 * q + 5) ∧ tro I s p q (s + 16) 0 = A (12 + 3 * x) ∧ tro I s p q (s + 16) 1 = A (12 + 3 * y) := by
  have hn0 := hn
  obtain ⟨ha, hb, hab, ex, ey, hx, hy, -⟩ := hn
  obtain ⟨p1, p2, p3, p4, p5, p6, p7⟩ := h.P ha
  obtain ⟨q1, q2, q3, q4, q5, q6, q7⟩ := h.P hb
  have hx2 := (h.H hx).1
  have hy2 := (h.H hy).1
  have h6 := hw.1.2
  obtain ⟨-, -, -, s9, -, -, -, s16, -⟩ := h.2.1
  have t14 : ∀ k, 1 ≤ k → k ≤ 7 → tro I s p q (s + 14) k = I (s + 24 + p) k := fun k k1 k2 => by
    unfold tro
    rw [if_pos ⟨rfl, k1, k2⟩]
  have t15 : ∀ k, 1 ≤ k → k ≤ 7 → tro I s p q (s + 15) k = I (s + 24 + q) k := fun k k1 k2 => by
    unfold tro
    rw [if_neg (by omega), if_pos ⟨rfl, k1, k2⟩]
  have t0 : tro I s p q (s + 16) 0 = A (12 + 3 * x) := by
    unfold tro
    rw [if_neg (by omega), if_neg (by omega), if_pos ⟨rfl, rfl⟩, p1, ex, nI_clamp (by omega), hx2]
  have t1 : tro I s p q (s + 16) 1 = A (12 + 3 * y) := by
    unfold tro
    rw [if_neg (by omega), if_neg (by omega), if_neg (by omega), if_pos ⟨rfl, rfl⟩, q1, ey, nI_clamp (by omega), hy2]
  have t3 : tro I s p q (s + 12) 3 = A 3 := by
    unfold tro
    rw [if_neg (by omega), if_neg (by omega), if_neg (by omega), if_neg (by omega), if_neg (by omega), if_pos ⟨rfl, rfl⟩, s9]
  have t4 : tro I s p q (s + 12) 4 = A 7 := by
    unfold tro
    rw [if_neg (by omega), if_neg (by omega), if_neg (by omega), if_neg (by omega), if_neg (by omega), if_neg (by omega), if_pos ⟨rfl, rfl⟩, s16]
  exact ⟨⟨hw, hn0, (t14 2 (by omega) (by omega)).trans p2, (t15 2 (by omega) (by omega)).trans q2, (t14 3 (by omega) (by omega)).trans p3, (t15 3 (by omega) (by omega)).trans q3, (t14 4 (by omega) (by omega)).trans p4, (t15 4 (by omega) (by omega)).trans q4, t3, t4⟩, (t14 6 (by omega) (by omega)).trans p6, (t15 6 (by omega) (by omega)).trans q6, t0, t1⟩
