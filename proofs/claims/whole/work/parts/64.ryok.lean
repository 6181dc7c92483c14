/-! the reference: a year's step keeps what holds -/
theorem pTs_k {T : Nat → Int32} {n r hm pm : Nat} {s s' : PSt} (hn : s.2.2 ≤ n) (h : pTs T n r hm pm s = .inr s') : onP n s s' ∧ ∀ j, j < r → s'.1 j = s.1 j := by
  unfold pTs pE at h
  have g0 := tE_ge (T := T) hn
  split at h
  · cases h
  · split at h
    · cases h
      exact ⟨⟨g0.1, g0.2⟩, fun j hj => uA_n _ _ _ _ (by omega)⟩
    · obtain ⟨s1, x1, h⟩ := pB_i h
      have k1 : s1.2.2 = tE T n (tE T n s.2.2) ∧ ∀ j, j < r → s1.1 j = s.1 j := by
        split at x1
        · refine ⟨(pFd_e x1).1, fun j hj => ?_⟩
          obtain ⟨v, hv, -, -⟩ := pFd_i x1
          rw [hv, uA_n _ _ _ _ (by omega)]
          exact uA_n _ _ _ _ (by omega)
        · refine ⟨(pFd_e x1).1, fun j hj => ?_⟩
          obtain ⟨v, hv, -, -⟩ := pFd_i x1
          rw [hv, uA_n _ _ _ _ (by omega)]
          exact uA_n _ _ _ _ (by omega)
      have g1 := tE_ge (T := T) g0.2
      split at h
      · cases h
      · have a := pNum_e h
        obtain ⟨v, b, -, -⟩ := pNum_i h
        have a : s'.2.2 = tE T n (tE T n s1.2.2) := a
        have l1 : s1.2.2 ≤ n := by omega
        have g2 := tE_ge (T := T) l1
        have g3 := tE_ge (T := T) g2.2
        refine ⟨⟨by omega, by omega⟩, fun j hj => ?_⟩
        rw [b, uA_n _ _ _ _ (by omega)]
        exact (uA_n _ _ _ _ (by omega)).trans (k1.2 j hj)
theorem pYo_k {T : Nat → Int32} {n r hm pm : Nat} {k : Int32} {s s' : PSt} (hn : s.2.2 ≤ n) (h : pYo T n k r hm pm s = .inr s') : onP n s s' ∧ ∀ j, j < r → s'.1 j = s.1 j := by
  unfold pYo at h
  have g0 := tE_ge (T := T) hn
  have nm : ∀ lo hi, pNum T n (r + 1) lo hi s = .inr s' → onP n s s' ∧ ∀ j, j < r → s'.1 j = s.1 j := by
    intro lo hi h
    have a := pNum_e h
    obtain ⟨v, b, -, -⟩ := pNum_i h
    exact ⟨⟨by omega, by omega⟩, fun j hj => by rw [b, uA_n _ _ _ _ (by omega)]⟩
  split at h
  · obtain ⟨s1, x1, h⟩ := pB_i h
    have a := (pFd_e x1).1
    have b := (pFd_e h).1
    obtain ⟨v, hv, -, -⟩ := pFd_i x1
    obtain ⟨w, hw, -, -⟩ := pFd_i h
    have l1 : s1.2.2 ≤ n := by omega
    have g1 := tE_ge (T := T) l1
    exact ⟨⟨by omega, by omega⟩, fun j hj => by rw [hw, uA_n _ _ _ _ (by omega), hv, uA_n _ _ _ _ (by omega)]⟩
  · split at h
    · exact nm _ _ h
    · split at h
      · exact nm _ _ h
      · split at h
        · exact pTs_k hn h
        · cases h
          exact ⟨⟨Nat.le_refl _, hn⟩, fun _ _ => rfl⟩
