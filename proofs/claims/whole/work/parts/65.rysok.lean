/-! the reference: a year's step keeps what holds -/
theorem yB_i {x : PR} {f : PSt → YR} {y' : YSt} (h : yB x f = .inr y') : ∃ s1, x = .inr s1 ∧ f s1 = .inr y' := by
  cases x with
  | inl y => cases h
  | inr s => exact ⟨s, rfl, h⟩
theorem pYs_ok {T : Nat → Int32} {n hm pm : Nat} {y y' : YSt} (hn : y.1.2.2 ≤ n) (hy : yW y) (h : pYs T n hm pm y = .inr y') : y.1.2.2 < y'.1.2.2 ∧ y'.1.2.2 ≤ n ∧ yW y' := by
  obtain ⟨s, d, c, O⟩ := y
  obtain ⟨m, hm1, hmd, hc, hd, hO, hc0, hc1⟩ := hy
  unfold pYs pE at h
  dsimp only at hn hm1 hmd hc hd hO hc0 hc1 h
  have g0 := tE_ge (T := T) hn
  rw [hm1, nI_clamp (by omega)] at h
  generalize kwI T n s.2.2 = k at h
  split at h
  · cases h
  · next n1 =>
    split at h
    · cases h
    · next n2 =>
      split at h
      · cases h
      · next n3 =>
        obtain ⟨s2, x2, h⟩ := yB_i h
        obtain ⟨s3, x3, h⟩ := yB_i h
        obtain ⟨o1, lo⟩ := pYo_k (s := (yrB s.1 k, s.2.1, tE T n s.2.2)) g0.2 x2
        obtain ⟨q1, q2, q3, q4⟩ := pSg_e x3
        have lo : ∀ j, j < 2602 + 6 * m → s2.1 j = yrB s.1 k j := lo
        have o1 : tE T n s.2.2 ≤ s2.2.2 ∧ s2.2.2 ≤ n := o1
        have b0 : ∀ j, j < 2376 → yrB s.1 k j = s.1 j := fun j hj => by
          unfold yrB
          rw [hm1, nI_clamp (by omega), uA_n _ _ _ _ (by omega), yrA_o _ _ _ _ _ (by omega)]
        have b1 : yrB s.1 k 2387 = nI (m + 1) := by
          have e9 : nI m + 1 = nI (m + 1) := by simp (disch := omega) only [nI_1, nI_add, nI_clamp, nI_pin, nI_neg, nI_nonneg, nI_leE, nI_ltE, nI_eqE, Nat.not_le, Nat.not_lt, fq_10, fq_01, fq_rr]
          unfold yrB
          rw [hm1, e9]
          unfold uA
          rw [if_pos rfl]
        have ee : ∀ c2, (yrE k m s2 d c2 O).1.2.2 = s2.2.2 := fun c2 => by
          unfold yrE
          split
          · rfl
          · split <;> rfl
        rw [ee] at q1 q2
        have g3 := tE_gt (T := T) o1.2 (by rw [q2]; decide)
        have g4 := tE_ge (T := T) o1.2
        cases h
        refine ⟨?_, ?_, m + 1, ?_⟩
        · show s.2.2 < s3.2.2
          omega
        · show s3.2.2 ≤ n
          omega
        · have l7 : s2.1 2387 = nI (m + 1) := (lo _ (by omega)).trans b1
          have l0 : s2.1 0 = s.1 0 := (lo _ (by omega)).trans (b0 _ (by omega))
          have l1 : s2.1 1 = s.1 1 := (lo _ (by omega)).trans (b0 _ (by omega))
          unfold yrE at q3 ⊢
          by_cases ho : k = 18 ∨ k = 19
          · have k20 : ¬ k = 20 := by rcases ho with h | h <;> (rw [h]; decide)
            have c30 : ¬ c = 30 := fun q => n2 ⟨k20, q⟩
            have d3 : ¬ d = 3 := fun q => n3 ⟨ho, q⟩
            rw [if_pos ho] at q3 ⊢
            rw [if_neg k20]
            dsimp only at q3 ⊢
            rw [q3]
            refine ⟨l7, by omega, by omega, by omega, fun i hi => ?_, by rw [l0]; exact hc0, by rw [l1]; exact hc1⟩
            by_cases hi2 : i = d
            · exact ⟨m, by omega, by unfold uA; rw [if_pos hi2]⟩
            · obtain ⟨j, hj, ej⟩ := hO i (by omega)
              exact ⟨j, by omega, by rw [uA_n _ _ _ _ (by omega)]; exact ej⟩
          · rw [if_neg ho] at q3 ⊢
            by_cases k20 : k = 20
            · have d0 : ¬ d = 0 := fun q => n1 (Or.inr (Or.inr ⟨k20, q⟩))
              rw [if_pos k20] at q3 ⊢
              rw [if_pos k20]
              dsimp only at q3 ⊢
              rw [q3]
              refine ⟨?_, by omega, by omega, by omega, fun i hi => ?_, ?_, ?_⟩
              · rw [uA_n _ _ _ _ (by omega), uA_n _ _ _ _ (by omega), l7]
              · obtain ⟨j, hj, ej⟩ := hO i (by omega)
                exact ⟨j, by omega, ej⟩
              · rw [uA_n _ _ _ _ (by omega), uA_n _ _ _ _ (by omega), l0]
                exact hc0
              · rw [uA_n _ _ _ _ (by omega), uA_n _ _ _ _ (by omega), l1]
                exact hc1
            · have c30 : ¬ c = 30 := fun q => n2 ⟨k20, q⟩
              rw [if_neg k20] at q3 ⊢
              rw [if_neg k20]
              dsimp only at q3 ⊢
              rw [q3]
              refine ⟨l7, by omega, by omega, by omega, fun i hi => ?_, by rw [l0]; exact hc0, by rw [l1]; exact hc1⟩
              obtain ⟨j, hj, ej⟩ := hO i (by omega)
              exact ⟨j, by omega, ej⟩
