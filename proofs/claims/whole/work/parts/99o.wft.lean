/-! what always holds of a street that a text told -/
def wfU (A : Nat → Int32) : Prop := okN (A 2376) 6 ∧ okN (A 2377) 8 ∧ A 2378 = 0 ∧ okM (A 2379) 1 9 ∧ okN (A 2380) 9 ∧ okN (A 2381) 16 ∧ A 2382 = 0 ∧ A 2383 = 0 ∧ A 2387 = -1 ∧ (∀ p, p < (A 2377).toNatClampNeg → (okN (A (2406 + 7 * p)) 5 ∧ (A (2406 + 7 * p)).toNatClampNeg < (A 2376).toNatClampNeg) ∧ okN (A (2406 + 7 * p + 1)) 30 ∧ okN (A (2406 + 7 * p + 2)) 9 ∧ okM (A (2406 + 7 * p + 3)) 1 9 ∧ okN (A (2406 + 7 * p + 4)) 99) ∧ (∀ h, h < (A 2376).toNatClampNeg → okN (A (2388 + 3 * h)) 99 ∧ okN (A (2388 + 3 * h + 1)) 99) ∧ (∀ p, p < 8 → A (2406 + 7 * p + 5) = 0) ∧ ∀ p, (A 2377).toNatClampNeg ≤ p → p < 8 → A (2406 + 7 * p + 4) = 0
theorem wfU.n3 {A B : Nat → Int32} (h : wfU A) (h3 : okM (B 2379) 1 9) (h4 : okN (B 2380) 9) (h5 : okN (B 2381) 16) (hB : ∀ k, k ≠ 2379 → k ≠ 2380 → k ≠ 2381 → k ≠ 2384 → k < 2602 → B k = A k) : wfU B := by
  obtain ⟨a0, a1, a2, a3, a4, a5, a6, a7, a11, aP, aH, aZ, aY⟩ := h
  have o0 := a0.2
  have o1 := a1.2
  have b0 := hB 2376 (by omega) (by omega) (by omega) (by omega) (by omega)
  have b1 := hB 2377 (by omega) (by omega) (by omega) (by omega) (by omega)
  refine ⟨b0 ▸ a0, b1 ▸ a1, (hB 2378 (by omega) (by omega) (by omega) (by omega) (by omega)).trans a2, h3, h4, h5, (hB 2382 (by omega) (by omega) (by omega) (by omega) (by omega)).trans a6, (hB 2383 (by omega) (by omega) (by omega) (by omega) (by omega)).trans a7, (hB 2387 (by omega) (by omega) (by omega) (by omega) (by omega)).trans a11, fun p hp => ?_, fun i hi => ?_, fun p hp => (hB _ (by omega) (by omega) (by omega) (by omega) (by omega)).trans (aZ p hp), fun p hp h8 => (hB _ (by omega) (by omega) (by omega) (by omega) (by omega)).trans (aY p (b1 ▸ hp) h8)⟩
  · rw [b1] at hp
    rw [b0, hB _ (by omega) (by omega) (by omega) (by omega) (by omega), hB (2406 + 7 * p + 1) (by omega) (by omega) (by omega) (by omega) (by omega), hB (2406 + 7 * p + 2) (by omega) (by omega) (by omega) (by omega) (by omega), hB (2406 + 7 * p + 3) (by omega) (by omega) (by omega) (by omega) (by omega), hB (2406 + 7 * p + 4) (by omega) (by omega) (by omega) (by omega) (by omega)]
    exact aP p hp
  · rw [b0] at hi
    rw [hB _ (by omega) (by omega) (by omega) (by omega) (by omega), hB (2388 + 3 * i + 1) (by omega) (by omega) (by omega) (by omega) (by omega)]
    exact aH i hi
theorem wfU.cn {A : Nat → Int32} (h : wfU A) (N : Nat → Int64) (e : Nat) : cnP (A, N, e) := ⟨h.1, h.2.1⟩
theorem pHs_wT {T : Nat → Int32} {n : Nat} {s s' : PSt} (hw : wfU s.1) (h : pHs T n s = .inr s') : wfU s'.1 := by
  obtain ⟨a0, a1, q2, q3, q4, q5, q6, q7, q11, aP, aH, aZ, aY⟩ := hw
  obtain ⟨c0, h0, e0, e02⟩ := a0.ex
  have o1 := a1.2
  unfold pHs at h
  rw [e02] at h
  obtain ⟨s1, x1, h⟩ := pB_i h
  obtain ⟨s2, x2, h⟩ := pB_i h
  obtain ⟨s3, x3, h⟩ := pB_i h
  obtain ⟨d1, d2⟩ := pNw_i x1
  have d3 := pWd_i x2
  obtain ⟨v, d4, v1, v2⟩ := pNum_i x3
  have ov := okV (lo := 0) (hi := 99) (by omega) (by omega) ⟨v1, v2⟩
  rw [d3, d1] at d4
  have hc : c0 < 6 := by
    rcases Nat.lt_or_ge c0 6 with q | q
    · exact q
    · exact absurd (by rw [show 2376 + 0 = 2376 from rfl, e0, show c0 = 6 by omega]; rfl) d2
  cases h
  have eB : ∀ k, k ≠ 2376 → k ≠ 2388 + 3 * c0 → k ≠ 2388 + 3 * c0 + 1 → uA (uA s3.1 (2388 + 3 * c0 + 1) (s3.1 (2388 + 3 * c0))) 2376 (s3.1 2376 + 1) k = s.1 k := fun k x1 x2 x3 => by
    rw [uA_n _ _ _ _ x1, uA_n _ _ _ _ x3, d4, uA_n _ _ _ _ x2]
  have e1 : uA (uA s3.1 (2388 + 3 * c0 + 1) (s3.1 (2388 + 3 * c0))) 2376 (s3.1 2376 + 1) 2376 = nI (c0 + 1) := by
    rw [uA_e, d4, uA_n _ _ _ _ (by omega), e0, nI_1]
  have e2 : uA (uA s3.1 (2388 + 3 * c0 + 1) (s3.1 (2388 + 3 * c0))) 2376 (s3.1 2376 + 1) (2388 + 3 * c0) = v := by
    rw [uA_n _ _ _ _ (by omega), uA_n _ _ _ _ (by omega), d4, uA_e]
  have e3 : uA (uA s3.1 (2388 + 3 * c0 + 1) (s3.1 (2388 + 3 * c0))) 2376 (s3.1 2376 + 1) (2388 + 3 * c0 + 1) = v := by
    rw [uA_n _ _ _ _ (by omega), uA_e, d4, uA_e]
  show wfU (uA (uA s3.1 (2388 + 3 * c0 + 1) (s3.1 (2388 + 3 * c0))) 2376 (s3.1 2376 + 1))
  generalize uA (uA s3.1 (2388 + 3 * c0 + 1) (s3.1 (2388 + 3 * c0))) 2376 (s3.1 2376 + 1) = B at *
  have b1 := eB 2377 (by omega) (by omega) (by omega)
  have cb : (B 2376).toNatClampNeg = c0 + 1 := by rw [e1, nI_clamp (by omega)]
  refine ⟨by rw [e1]; exact okN.nI (by omega) (by omega), b1 ▸ a1, (eB _ (by omega) (by omega) (by omega)).trans q2, (eB 2379 (by omega) (by omega) (by omega)) ▸ q3, (eB 2380 (by omega) (by omega) (by omega)) ▸ q4, (eB 2381 (by omega) (by omega) (by omega)) ▸ q5, (eB _ (by omega) (by omega) (by omega)).trans q6, (eB _ (by omega) (by omega) (by omega)).trans q7, (eB _ (by omega) (by omega) (by omega)).trans q11, fun p hp => ?_, fun i hi => ?_, fun p hp => (eB _ (by omega) (by omega) (by omega)).trans (aZ p hp), fun p hp h8 => (eB _ (by omega) (by omega) (by omega)).trans (aY p (b1 ▸ hp) h8)⟩
  · rw [b1] at hp
    rw [cb, eB _ (by omega) (by omega) (by omega), eB (2406 + 7 * p + 1) (by omega) (by omega) (by omega), eB (2406 + 7 * p + 2) (by omega) (by omega) (by omega), eB (2406 + 7 * p + 3) (by omega) (by omega) (by omega), eB (2406 + 7 * p + 4) (by omega) (by omega) (by omega)]
    obtain ⟨⟨g1, g2⟩, g3⟩ := aP p hp
    exact ⟨⟨g1, by omega⟩, g3⟩
  · rw [cb] at hi
    by_cases q : i = c0
    · subst q
      rw [e2, e3]
      exact ⟨ov.1, ov.1⟩
    · rw [eB _ (by omega) (by omega) (by omega), eB (2388 + 3 * i + 1) (by omega) (by omega) (by omega)]
      exact aH i (by omega)
theorem pOp_w {T : Nat → Int32} {n k lo hi : Nat} {c : Int32} {s s' : PSt} (hl : lo < 1000) (hh : hi < 1000) (h : pOp T n c k (nI lo) (nI hi) s = .inr s') (h0 : okM (s.1 k) lo hi) : okM (s'.1 k) lo hi := by
  unfold pOp at h
  split at h
  · obtain ⟨v, e, v1, v2⟩ := pNum_i h
    rw [e, uA_e]
    exact okV hl hh ⟨v1, v2⟩
  · cases h
    exact h0
theorem pPn_wT {T : Nat → Int32} {n : Nat} {s s' : PSt} (hw : wfU s.1) (h : pPn T n s = .inr s') : wfU s'.1 := by
  obtain ⟨a0, a1, q2, q3, q4, q5, q6, q7, q11, aP, aH, aZ, aY⟩ := hw
  obtain ⟨c1, h1, e1, e12⟩ := a1.ex
  have o0 := a0.2
  unfold pPn at h
  rw [e12] at h
  obtain ⟨s1, x1, h⟩ := pB_i h
  obtain ⟨s2, x2, h⟩ := pB_i h
  obtain ⟨s3, x3, h⟩ := pB_i h
  obtain ⟨s4, x4, h⟩ := pB_i h
  obtain ⟨s5, x5, h⟩ := pB_i h
  obtain ⟨s6, x6, h⟩ := pB_i h
  obtain ⟨s7, x7, h⟩ := pB_i h
  obtain ⟨d1, d2⟩ := pNw_i x1
  have d3 := pWd_i x2
  rw [d3, d1] at x3
  obtain ⟨v, d4, v1, v2⟩ := pFd_i x3
  rw [d3, d1] at d4
  obtain ⟨j, hj, ej⟩ := fn_ok v1 v2
  subst ej
  have hcl : c1 < 8 := by
    rcases Nat.lt_or_ge c1 8 with h | h
    · exact h
    · exact absurd (by rw [show 2376 + 1 = 2377 from rfl, e1, show c1 = 8 by omega]; rfl) d2
  have k4 := pOp_i x4
  have k5 := pOp_i x5
  have k6 := pOp_i x6
  have k7 := pOp_i x7
  have g4 : okM (s4.1 (2406 + 7 * c1 + 1)) 0 30 := pOp_w (lo := 0) (hi := 30) (by omega) (by omega) x4 (by
    show okM (uA (uA (uA s3.1 (2406 + 7 * c1 + 1) 10) (2406 + 7 * c1 + 2) 5) (2406 + 7 * c1 + 3) 5 (2406 + 7 * c1 + 1)) 0 30
    rw [uA_n _ _ _ _ (by omega), uA_n _ _ _ _ (by omega), uA_e]
    exact ⟨⟨by decide, by decide⟩, by decide⟩)
  have i4 : ∀ k, k ≠ 2406 + 7 * c1 + 1 → s4.1 k = uA (uA (uA s3.1 (2406 + 7 * c1 + 1) 10) (2406 + 7 * c1 + 2) 5) (2406 + 7 * c1 + 3) 5 k := k4
  have g5 : okM (s5.1 (2406 + 7 * c1 + 2)) 0 9 := pOp_w (lo := 0) (hi := 9) (by omega) (by omega) x5 (by
    rw [i4 _ (by omega), uA_n _ _ _ _ (by omega), uA_e]
    exact ⟨⟨by decide, by decide⟩, by decide⟩)
  have g6 : okM (s6.1 (2406 + 7 * c1 + 3)) 1 9 := pOp_w (lo := 1) (hi := 9) (by omega) (by omega) x6 (by
    rw [k5 _ (by omega), i4 _ (by omega), uA_e]
    exact ⟨⟨by decide, by decide⟩, by decide⟩)
  have z3 : ∀ k, ¬ (2406 + 7 * c1 ≤ k ∧ k < 2406 + 7 * c1 + 4) → s6.1 k = s.1 k := fun k hk => by
    rw [k6 _ (by omega), k5 _ (by omega), i4 _ (by omega), uA_n _ _ _ _ (by omega), uA_n _ _ _ _ (by omega), uA_n _ _ _ _ (by omega), d4, uA_n _ _ _ _ (by omega)]
  have g7 : okM (s7.1 (2406 + 7 * c1 + 4)) 0 99 := pOp_w (lo := 0) (hi := 99) (by omega) (by omega) x7 (by
    rw [z3 _ (by omega), aY c1 (by omega) hcl]
    exact ⟨⟨by decide, by decide⟩, by decide⟩)
  have z7 : ∀ k, ¬ (2406 + 7 * c1 ≤ k ∧ k < 2406 + 7 * c1 + 5) → s7.1 k = s.1 k := fun k hk => by
    rw [k7 _ (by omega)]
    exact z3 k (by omega)
  have y0 : s7.1 (2406 + 7 * c1) = nI j := by
    rw [k7 _ (by omega), k6 _ (by omega), k5 _ (by omega), i4 _ (by omega), uA_n _ _ _ _ (by omega), uA_n _ _ _ _ (by omega), uA_n _ _ _ _ (by omega), d4, uA_e]
  have y1 : okM (s7.1 (2406 + 7 * c1 + 1)) 0 30 := by
    rw [k7 _ (by omega), k6 _ (by omega), k5 _ (by omega)]
    exact g4
  have y2 : okM (s7.1 (2406 + 7 * c1 + 2)) 0 9 := by
    rw [k7 _ (by omega), k6 _ (by omega)]
    exact g5
  have y3 : okM (s7.1 (2406 + 7 * c1 + 3)) 1 9 := by
    rw [k7 _ (by omega)]
    exact g6
  cases h
  show wfU (uA s7.1 2377 (s7.1 2377 + 1))
  have eB : ∀ k, k ≠ 2377 → uA s7.1 2377 (s7.1 2377 + 1) k = s7.1 k := fun k x => uA_n _ _ _ _ x
  have b1 : uA s7.1 2377 (s7.1 2377 + 1) 2377 = nI (c1 + 1) := by rw [uA_e, z7 _ (by omega), e1, nI_1]
  generalize uA s7.1 2377 (s7.1 2377 + 1) = B at *
  have zB : ∀ k, k ≠ 2377 → ¬ (2406 + 7 * c1 ≤ k ∧ k < 2406 + 7 * c1 + 5) → B k = s.1 k := fun k x y => (eB k x).trans (z7 k y)
  have cb : (B 2377).toNatClampNeg = c1 + 1 := by rw [b1, nI_clamp (by omega)]
  have b0 := zB 2376 (by omega) (by omega)
  refine ⟨b0 ▸ a0, by rw [b1]; exact okN.nI (by omega) (by omega), (zB _ (by omega) (by omega)).trans q2, (zB 2379 (by omega) (by omega)) ▸ q3, (zB 2380 (by omega) (by omega)) ▸ q4, (zB 2381 (by omega) (by omega)) ▸ q5, (zB _ (by omega) (by omega)).trans q6, (zB _ (by omega) (by omega)).trans q7, (zB _ (by omega) (by omega)).trans q11, fun p hp => ?_, fun i hi => ?_, fun p hp => (zB _ (by omega) (by omega)).trans (aZ p hp), fun p hp h8 => (zB _ (by omega) (by omega)).trans (aY p (by omega) h8)⟩
  · rw [cb] at hp
    by_cases q : p = c1
    · subst q
      rw [b0, eB _ (by omega), eB (2406 + 7 * p + 1) (by omega), eB (2406 + 7 * p + 2) (by omega), eB (2406 + 7 * p + 3) (by omega), eB (2406 + 7 * p + 4) (by omega), y0, nI_clamp (by omega)]
      exact ⟨⟨okN.nI (by omega) (by omega), hj⟩, y1.1, y2.1, y3, g7.1⟩
    · rw [b0, zB _ (by omega) (by omega), zB (2406 + 7 * p + 1) (by omega) (by omega), zB (2406 + 7 * p + 2) (by omega) (by omega), zB (2406 + 7 * p + 3) (by omega) (by omega), zB (2406 + 7 * p + 4) (by omega) (by omega)]
      exact aP p (by omega)
  · rw [b0] at hi
    rw [zB _ (by omega) (by omega), zB (2388 + 3 * i + 1) (by omega) (by omega)]
    exact aH i hi
theorem pPc_wT {T : Nat → Int32} {n : Nat} {s s' : PSt} (hw : wfU s.1) (h : pPc T n s = .inr s') : wfU s'.1 := by
  unfold pPc at h
  obtain ⟨s2, x2, h⟩ := pB_i h
  obtain ⟨v, a4, -, -⟩ := pFd_i x2
  split at h
  · cases h
  · obtain ⟨s3, x3, h⟩ := pB_i h
    obtain ⟨v3, a5, -, -⟩ := pFd_i x3
    cases h
    show wfU (uA s3.1 2384 (s3.1 2384 ||| 1 <<< (mnI (s3.1 2962) (s3.1 2963) &&& 31)))
    have eB : ∀ k, k ≠ 2384 → k < 2602 → uA s3.1 2384 (s3.1 2384 ||| 1 <<< (mnI (s3.1 2962) (s3.1 2963) &&& 31)) k = s.1 k := fun k x1 x2 => by
      rw [uA_n _ _ _ _ x1, a5, uA_n _ _ _ _ (by omega), a4, uA_n _ _ _ _ (by omega)]
    exact hw.n3 (by rw [eB _ (by omega) (by omega)]; exact hw.2.2.2.1) (by rw [eB _ (by omega) (by omega)]; exact hw.2.2.2.2.1) (by rw [eB _ (by omega) (by omega)]; exact hw.2.2.2.2.2.1) (fun k _ _ _ x1 x2 => eB k x1 x2)
theorem pPt_wT {T : Nat → Int32} {n : Nat} {tp : Int32} {s s' : PSt} (hw : wfU s.1) (h : pPt T n tp s = .inr s') : wfU s'.1 := by
  unfold pPt pE at h
  split at h
  · cases h
  · split at h
    · cases h
    · obtain ⟨s1, x1, h⟩ := pB_i h
      obtain ⟨q1, q2, q3, q4⟩ := pSg_e h
      rw [q3]
      split at x1
      · obtain ⟨v, a, v1, v2⟩ := pNum_i x1
        rw [a]
        exact hw.n3 (by rw [uA_e]; exact okV (lo := 1) (hi := 9) (by omega) (by omega) ⟨v1, v2⟩) (by rw [uA_n _ _ _ _ (by omega)]; exact hw.2.2.2.2.1) (by rw [uA_n _ _ _ _ (by omega)]; exact hw.2.2.2.2.2.1) (fun k x1 _ _ _ _ => uA_n _ _ _ _ x1)
      · split at x1
        · obtain ⟨v, a, v1, v2⟩ := pNum_i x1
          rw [a]
          exact hw.n3 (by rw [uA_n _ _ _ _ (by omega)]; exact hw.2.2.2.1) (by rw [uA_e]; exact (okV (lo := 0) (hi := 9) (by omega) (by omega) ⟨v1, v2⟩).1) (by rw [uA_n _ _ _ _ (by omega)]; exact hw.2.2.2.2.2.1) (fun k _ x1 _ _ _ => uA_n _ _ _ _ x1)
        · split at x1
          · obtain ⟨v, a, v1, v2⟩ := pNum_i x1
            rw [a]
            exact hw.n3 (by rw [uA_n _ _ _ _ (by omega)]; exact hw.2.2.2.1) (by rw [uA_n _ _ _ _ (by omega)]; exact hw.2.2.2.2.1) (by rw [uA_e]; exact (okV (lo := 0) (hi := 16) (by omega) (by omega) ⟨v1, v2⟩).1) (fun k _ _ x1 _ _ => uA_n _ _ _ _ x1)
          · split at x1
            · exact pHs_wT hw x1
            · split at x1
              · exact pPn_wT hw x1
              · exact pPc_wT hw x1
theorem pSt_wT {T : Nat → Int32} {n : Nat} : ∀ f tp s {s' : PSt}, wfU s.1 → pSt T n f tp s = .inr s' → wfU s'.1 := by
  intro f
  induction f with
  | zero =>
    intro tp s s' hw h
    cases h
    exact hw
  | succ f ih =>
    intro tp s s' hw h
    unfold pSt at h
    split at h
    · cases h
      exact hw
    · obtain ⟨s1, x1, h⟩ := pB_i h
      exact ih _ _ (pPt_wT hw x1) h
theorem plA_e (A : Nat → Int32) : plN (plA A 2376) ∧ wfU (plA A 2376) := by
  have h0 : ∀ k, 2376 ≤ k → k < 2970 → k ≠ 2379 → k ≠ 2380 → k ≠ 2381 → k ≠ 2387 → plA A 2376 k = 0 := by
    intro k h1 h2 h3 h4 h5 h6
    unfold plA plZ
    rw [uA_n _ _ _ _ (by omega), uA_n _ _ _ _ (by omega), uA_n _ _ _ _ (by omega), uA_n _ _ _ _ (by omega), if_pos (by omega)]
  have h3 : plA A 2376 2379 = 1 := by
    unfold plA
    rw [uA_n _ _ _ _ (by omega), uA_n _ _ _ _ (by omega), uA_n _ _ _ _ (by omega), uA_e]
  have h4 : plA A 2376 2380 = 2 := by
    unfold plA
    rw [uA_n _ _ _ _ (by omega), uA_n _ _ _ _ (by omega), uA_e]
  have h5 : plA A 2376 2381 = 4 := by
    unfold plA
    rw [uA_n _ _ _ _ (by omega), uA_e]
  have h11 : plA A 2376 2387 = -1 := by
    unfold plA
    rw [uA_e]
  have c1 : (plA A 2376 2377).toNatClampNeg = 0 := by rw [h0 _ (by omega) (by omega) (by omega) (by omega) (by omega) (by omega)]; decide
  have c0 : (plA A 2376 2376).toNatClampNeg = 0 := by rw [h0 _ (by omega) (by omega) (by omega) (by omega) (by omega) (by omega)]; decide
  have z : ∀ n, okN (0 : Int32) n := fun n => ⟨by decide, by rw [show (0 : Int32).toNatClampNeg = 0 by decide]; omega⟩
  refine ⟨⟨h0 _ (by omega) (by omega) (by omega) (by omega) (by omega) (by omega), h0 _ (by omega) (by omega) (by omega) (by omega) (by omega) (by omega), h0 _ (by omega) (by omega) (by omega) (by omega) (by omega) (by omega), h3, h4, h5, h11, fun k x y => h0 k (by omega) (by omega) (by omega) (by omega) (by omega) (by omega), fun k x y => h0 k (by omega) (by omega) (by omega) (by omega) (by omega) (by omega)⟩, ?_, ?_, h0 _ (by omega) (by omega) (by omega) (by omega) (by omega) (by omega), ?_, ?_, ?_, h0 _ (by omega) (by omega) (by omega) (by omega) (by omega) (by omega), h0 _ (by omega) (by omega) (by omega) (by omega) (by omega) (by omega), h11, fun p hp => ?_, fun i hi => ?_, fun p hp => h0 _ (by omega) (by omega) (by omega) (by omega) (by omega) (by omega), fun p _ hp => h0 _ (by omega) (by omega) (by omega) (by omega) (by omega) (by omega)⟩
  · rw [h0 _ (by omega) (by omega) (by omega) (by omega) (by omega) (by omega)]
    exact z 6
  · rw [h0 _ (by omega) (by omega) (by omega) (by omega) (by omega) (by omega)]
    exact z 8
  · rw [h3]
    exact ⟨⟨by decide, by decide⟩, by decide⟩
  · rw [h4]
    exact ⟨by decide, by decide⟩
  · rw [h5]
    exact ⟨by decide, by decide⟩
  · omega
  · omega
/-- the row of a street that a text told -/
theorem wfU.S {A B : Nat → Int32} (h : wfU A) (hB : ∀ k, k < 226 → B k = A (2376 + k)) : wfS B := by
  obtain ⟨a0, a1, a2, a3, a4, a5, a6, a7, a11, aP, aH, aZ, aY⟩ := h
  have o0 := a0.2
  have o1 := a1.2
  have b0 : B 0 = A 2376 := hB 0 (by omega)
  have b1 : B 1 = A 2377 := hB 1 (by omega)
  have b2 : B 2 = 0 := (hB 2 (by omega)).trans a2
  have eh : ∀ i, i < 6 → B (12 + 3 * i) = A (2388 + 3 * i) ∧ B (12 + 3 * i + 1) = A (2388 + 3 * i + 1) := fun i hi => ⟨(hB _ (by omega)).trans (by rw [show 2376 + (12 + 3 * i) = 2388 + 3 * i by omega]), (hB _ (by omega)).trans (by rw [show 2376 + (12 + 3 * i + 1) = 2388 + 3 * i + 1 by omega])⟩
  have ep : ∀ i j, i < 8 → j < 7 → B (30 + 7 * i + j) = A (2406 + 7 * i + j) := fun i j hi hj => (hB _ (by omega)).trans (by rw [show 2376 + (30 + 7 * i + j) = 2406 + 7 * i + j by omega])
  refine ⟨b0 ▸ a0, b1 ▸ a1, ?_, (hB 3 (by omega)) ▸ a3, (hB 4 (by omega)) ▸ a4, (hB 5 (by omega)) ▸ a5, ?_, Or.inl ((hB 7 (by omega)).trans a7), fun p hp => ?_, fun i hi => ?_, fun k hk => ?_, ?_⟩
  · rw [b2]
    exact ⟨by decide, by decide⟩
  · rw [hB 6 (by omega), a6]
    exact ⟨by decide, by decide⟩
  · rw [b1] at hp
    have e0 := ep p 0 (by omega) (by omega)
    rw [Nat.add_zero, Nat.add_zero] at e0
    unfold wfP
    rw [b0, e0, ep p 1 (by omega) (by omega), ep p 2 (by omega) (by omega), ep p 3 (by omega) (by omega), ep p 4 (by omega) (by omega), ep p 5 (by omega) (by omega), aZ p (by omega)]
    obtain ⟨r1, r2, r3, r4, r5⟩ := aP p hp
    exact ⟨r1, r2, r3, r4, r5, by decide, by decide⟩
  · rw [b0] at hi
    unfold wfH
    rw [(eh i (by omega)).1, (eh i (by omega)).2]
    obtain ⟨r1, r2⟩ := aH i hi
    exact ⟨r1.le (by omega), r2⟩
  · rw [b2] at hk
    exact absurd hk (Nat.not_lt_zero k)
  · unfold sW
    have : sN (fun h => (B (12 + 3 * h)).toNatClampNeg) (B 0).toNatClampNeg ≤ 99 * (B 0).toNatClampNeg := sN_lin (fun j hj => by
      rw [b0] at hj
      show (B (12 + 3 * j)).toNatClampNeg ≤ 99
      rw [(eh j (by omega)).1]
      exact (aH j hj).1.2)
    rw [b0] at this ⊢
    omega
