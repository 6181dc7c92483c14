/-! the reference: a street read -/
theorem tE_gt {T : Nat → Int32} {n e : Nat} (h : e ≤ n) (hk : ¬ tK T n e = 0) : e < tE T n e := by
  obtain ⟨b1, b2, b3, b4⟩ := tFE (T := T) h
  have hc : ¬ tC T n e = -1 := fun q => hk (by unfold tK; rw [if_pos q])
  have hlt : tF T n e < n := by
    rcases Nat.lt_or_ge (tF T n e) n with h | h
    · exact h
    · exact absurd (byA_o h) hc
  obtain ⟨f, hf⟩ : ∃ f, n - tF T n e = f + 1 := ⟨n - tF T n e - 1, by omega⟩
  unfold tE
  rw [if_neg hc]
  split
  · next hs =>
    have hs : isSm (byA T n (tF T n e)) := hs
    unfold scS
    rw [hf, scn_1, if_pos (decide_eq_true hs)]
    have := scn_le (p := fun c => decide (isSm c)) (T := T) (n := n) f (tF T n e + 1)
    omega
  · split
    · next hs =>
      have hs : isDg (byA T n (tF T n e)) := hs
      unfold scD
      rw [hf, scn_1, if_pos (decide_eq_true hs)]
      have := scn_le (p := fun c => decide (isDg c)) (T := T) (n := n) f (tF T n e + 1)
      omega
    · omega
theorem tE_ge {T : Nat → Int32} {n e : Nat} (h : e ≤ n) : e ≤ tE T n e ∧ tE T n e ≤ n := by
  obtain ⟨b1, b2, b3, b4⟩ := tFE (T := T) h
  omega
/-- further on, counts in their bounds -/
def onP (n : Nat) (s s' : PSt) : Prop := s.2.2 ≤ s'.2.2 ∧ s'.2.2 ≤ n
theorem pB_i {x : PR} {f : PSt → PR} {s' : PSt} (h : pB x f = .inr s') : ∃ s1, x = .inr s1 ∧ f s1 = .inr s' := by
  cases x with
  | inl y => cases h
  | inr s => exact ⟨s, rfl, h⟩
theorem pNum_e {T : Nat → Int32} {n k : Nat} {lo hi : Int32} {s s' : PSt} (h : pNum T n k lo hi s = .inr s') : s'.2.2 = tE T n s.2.2 := by
  unfold pNum pE at h
  split at h
  · cases h
  · split at h
    · cases h
    · cases h
      rfl
theorem pWd_e {T : Nat → Int32} {n : Nat} {c : Int32} {s s' : PSt} (h : pWd T n c s = .inr s') : s'.2.2 = tE T n s.2.2 := by
  unfold pWd pE at h
  split at h
  · cases h
  · cases h
    rfl
theorem pSg_e {T : Nat → Int32} {n : Nat} {c : Int32} {s s' : PSt} (h : pSg T n c s = .inr s') : s'.2.2 = tE T n s.2.2 ∧ tK T n s.2.2 = 4 ∧ s'.1 = s.1 ∧ s'.2.1 = s.2.1 := by
  unfold pSg pE at h
  split at h
  · cases h
  · next h1 =>
    cases h
    exact ⟨rfl, (Decidable.not_not.mp h1).1, rfl, rfl⟩
theorem pFd_e {T : Nat → Int32} {n b m t : Nat} {s s' : PSt} (h : pFd T n b m t s = .inr s') : s'.2.2 = tE T n s.2.2 ∧ s'.2.1 = s.2.1 := by
  unfold pFd pE at h
  split at h
  · cases h
  · split at h
    · cases h
    · cases h
      exact ⟨rfl, rfl⟩
theorem pNw_e {T : Nat → Int32} {n a b : Nat} {most : Int32} {s s' : PSt} (h : pNw T n a b most s = .inr s') : s'.2.2 = tE T n (tE T n s.2.2) := by
  unfold pNw pE at h
  split at h
  · cases h
  · split at h
    · cases h
    · split at h
      · cases h
      · cases h
        rfl
theorem pOp_e {T : Nat → Int32} {n k : Nat} {c lo hi : Int32} {s s' : PSt} (hn : s.2.2 ≤ n) (h : pOp T n c k lo hi s = .inr s') : onP n s s' := by
  unfold pOp at h
  split at h
  · have h1 := pNum_e h
    have h2 := tE_ge (T := T) hn
    have h3 := tE_ge (T := T) (e := tE T n s.2.2) (n := n) h2.2
    simp only at h1
    unfold onP
    rw [h1]
    omega
  · cases h
    exact ⟨Nat.le_refl _, hn⟩
/-- counts of a text's new street -/
def cnP (s : PSt) : Prop := okN (s.1 2376) 6 ∧ okN (s.1 2377) 8
theorem pHs_ok {T : Nat → Int32} {n : Nat} {s s' : PSt} (hn : s.2.2 ≤ n) (hc : cnP s) (h : pHs T n s = .inr s') : onP n s s' ∧ cnP s' := by
  obtain ⟨c0, h0, e0, e02⟩ := hc.1.ex
  unfold pHs at h
  rw [e02] at h
  obtain ⟨s1, x1, h⟩ := pB_i h
  obtain ⟨s2, x2, h⟩ := pB_i h
  obtain ⟨s3, x3, h⟩ := pB_i h
  obtain ⟨a1, a2⟩ := pNw_i x1
  have a3 := pWd_i x2
  obtain ⟨v, a4, -, -⟩ := pNum_i x3
  have b1 := pNw_e x1
  have b2 := pWd_e x2
  have b3 := pNum_e x3
  have g0 := tE_ge (T := T) hn
  have g1 := tE_ge (T := T) g0.2
  have g2 := tE_ge (T := T) g1.2
  have g3 := tE_ge (T := T) g2.2
  cases h
  refine ⟨?_, ?_, ?_⟩
  · unfold onP
    show s.2.2 ≤ s3.2.2 ∧ s3.2.2 ≤ n
    rw [b3, b2, b1]
    omega
  · have e : uA (uA s3.1 (2388 + 3 * c0 + 1) (s3.1 (2388 + 3 * c0))) 2376 (s3.1 2376 + 1) 2376 = nI (c0 + 1) := by
      rw [uA_e, a4, uA_n _ _ _ _ (by omega), a3, a1, e0, nI_1]
    show okN (uA (uA s3.1 (2388 + 3 * c0 + 1) (s3.1 (2388 + 3 * c0))) 2376 (s3.1 2376 + 1) 2376) 6
    rw [e]
    refine okN.nI ?_ (by decide)
    rcases Nat.lt_or_ge c0 6 with q | q
    · omega
    · exact absurd (by rw [show 2376 + 0 = 2376 from rfl, e0, show c0 = 6 by omega]; rfl) a2
  · show okN (uA (uA s3.1 (2388 + 3 * c0 + 1) (s3.1 (2388 + 3 * c0))) 2376 (s3.1 2376 + 1) 2377) 8
    rw [uA_n _ _ _ _ (by omega), uA_n _ _ _ _ (by omega), a4, uA_n _ _ _ _ (by omega), a3, a1]
    exact hc.2
theorem pPn_ok {T : Nat → Int32} {n : Nat} {s s' : PSt} (hn : s.2.2 ≤ n) (hc : cnP s) (h : pPn T n s = .inr s') : onP n s s' ∧ cnP s' := by
  obtain ⟨c1, h1, e1, e12⟩ := hc.2.ex
  unfold pPn at h
  rw [e12] at h
  obtain ⟨s1, x1, h⟩ := pB_i h
  obtain ⟨s2, x2, h⟩ := pB_i h
  obtain ⟨s3, x3, h⟩ := pB_i h
  obtain ⟨s4, x4, h⟩ := pB_i h
  obtain ⟨s5, x5, h⟩ := pB_i h
  obtain ⟨s6, x6, h⟩ := pB_i h
  obtain ⟨s7, x7, h⟩ := pB_i h
  obtain ⟨a1, a2⟩ := pNw_i x1
  have a3 := pWd_i x2
  obtain ⟨v, a4, -, -⟩ := pFd_i x3
  have b1 := pNw_e x1
  have b2 := pWd_e x2
  have b3 := (pFd_e x3).1
  have g0 := tE_ge (T := T) hn
  have g1 := tE_ge (T := T) g0.2
  have g2 := tE_ge (T := T) g1.2
  have g3 := tE_ge (T := T) g2.2
  have f3 : s.2.2 ≤ s3.2.2 ∧ s3.2.2 ≤ n := by
    rw [b3, b2, b1]
    omega
  have f4 := pOp_e (s := (uA (uA (uA s3.1 (2406 + 7 * c1 + 1) 10) (2406 + 7 * c1 + 2) 5) (2406 + 7 * c1 + 3) 5, s3.2.1, s3.2.2)) f3.2 x4
  have f5 := pOp_e f4.2 x5
  have f6 := pOp_e f5.2 x6
  have f7 := pOp_e f6.2 x7
  have d4 := pOp_i x4
  have d5 := pOp_i x5
  have d6 := pOp_i x6
  have d7 := pOp_i x7
  have hcl : c1 < 8 := by
    rcases Nat.lt_or_ge c1 8 with h | h
    · exact h
    · exact absurd (by rw [show 2376 + 1 = 2377 from rfl, e1, show c1 = 8 by omega]; rfl) a2
  have lo : ∀ j, j < 2378 → s7.1 j = s.1 j := fun j hj => by
    rw [d7 j (by omega), d6 j (by omega), d5 j (by omega), d4 j (by omega)]
    show uA (uA (uA s3.1 (2406 + 7 * c1 + 1) 10) (2406 + 7 * c1 + 2) 5) (2406 + 7 * c1 + 3) 5 j = s.1 j
    rw [uA_n _ _ _ _ (by omega), uA_n _ _ _ _ (by omega), uA_n _ _ _ _ (by omega), a4, uA_n _ _ _ _ (by omega), a3, a1]
  cases h
  have f4a : s3.2.2 ≤ s4.2.2 := f4.1
  refine ⟨⟨?_, f7.2⟩, ?_, ?_⟩
  · show s.2.2 ≤ s7.2.2
    have := f5.1
    have := f6.1
    have := f7.1
    omega
  · show okN (uA s7.1 2377 (s7.1 2377 + 1) 2376) 6
    rw [uA_n _ _ _ _ (by omega), lo _ (by omega)]
    exact hc.1
  · show okN (uA s7.1 2377 (s7.1 2377 + 1) 2377) 8
    rw [uA_e, lo _ (by omega), e1, nI_1]
    exact okN.nI (by omega) (by decide)
theorem pPc_ok {T : Nat → Int32} {n : Nat} {s s' : PSt} (hn : s.2.2 ≤ n) (hc : cnP s) (h : pPc T n s = .inr s') : onP n s s' ∧ cnP s' := by
  unfold pPc at h
  obtain ⟨s2, x2, h⟩ := pB_i h
  obtain ⟨v, a4, -, -⟩ := pFd_i x2
  have b2 := (pFd_e x2).1
  have g0 := tE_ge (T := T) hn
  have g1 := tE_ge (T := T) g0.2
  split at h
  · cases h
  · obtain ⟨s3, x3, h⟩ := pB_i h
    obtain ⟨v3, a5, -, -⟩ := pFd_i x3
    have b3 := (pFd_e x3).1
    have b2' : s2.2.2 = tE T n (tE T n s.2.2) := b2
    have g2 := tE_ge (T := T) (e := s2.2.2) (n := n) (by rw [b2']; exact g1.2)
    cases h
    refine ⟨⟨?_, ?_⟩, ?_, ?_⟩
    · show s.2.2 ≤ s3.2.2
      rw [b3]
      omega
    · show s3.2.2 ≤ n
      rw [b3]
      omega
    · show okN (uA s3.1 2384 (s3.1 2384 ||| 1 <<< (mnI (s3.1 2962) (s3.1 2963) &&& 31)) 2376) 6
      rw [uA_n _ _ _ _ (by omega), a5, uA_n _ _ _ _ (by omega), a4, uA_n _ _ _ _ (by omega)]
      exact hc.1
    · show okN (uA s3.1 2384 (s3.1 2384 ||| 1 <<< (mnI (s3.1 2962) (s3.1 2963) &&& 31)) 2377) 8
      rw [uA_n _ _ _ _ (by omega), a5, uA_n _ _ _ _ (by omega), a4, uA_n _ _ _ _ (by omega)]
      exact hc.2
theorem pPt_ok {T : Nat → Int32} {n : Nat} {tp : Int32} {s s' : PSt} (hn : s.2.2 ≤ n) (hc : cnP s) (h : pPt T n tp s = .inr s') : s.2.2 < s'.2.2 ∧ s'.2.2 ≤ n ∧ cnP s' := by
  unfold pPt pE at h
  split at h
  · cases h
  · split at h
    · cases h
    · obtain ⟨s1, x1, h⟩ := pB_i h
      obtain ⟨q1, q2, q3, q4⟩ := pSg_e h
      have g0 := tE_ge (T := T) hn
      have nm : ∀ k lo hi, 2378 ≤ k → pNum T n k lo hi (s.1, s.2.1, tE T n s.2.2) = .inr s1 → onP n s s1 ∧ cnP s1 := by
        intro k lo hi hk hx
        have b := pNum_e hx
        obtain ⟨v, a, -, -⟩ := pNum_i hx
        have b : s1.2.2 = tE T n (tE T n s.2.2) := b
        have g1 := tE_ge (T := T) g0.2
        have a : s1.1 = uA s.1 k v := a
        refine ⟨⟨by omega, by omega⟩, ?_, ?_⟩
        · rw [a, uA_n _ _ _ _ (by omega)]
          exact hc.1
        · rw [a, uA_n _ _ _ _ (by omega)]
          exact hc.2
      have key : onP n s s1 ∧ cnP s1 := by
        split at x1
        · exact nm _ _ _ (by omega) x1
        · split at x1
          · exact nm _ _ _ (by omega) x1
          · split at x1
            · exact nm _ _ _ (by omega) x1
            · split at x1
              · exact pHs_ok hn hc x1
              · split at x1
                · exact pPn_ok hn hc x1
                · exact pPc_ok hn hc x1
      obtain ⟨⟨k1, k2⟩, k3⟩ := key
      have g3 := tE_gt (T := T) k2 (by rw [q2]; decide)
      have g4 := tE_ge (T := T) k2
      rw [q1]
      refine ⟨by omega, by omega, ?_⟩
      unfold cnP
      rw [q3]
      exact k3
