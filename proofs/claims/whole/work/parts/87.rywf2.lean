/-! the reference: a year's text stays well nested -/
def yU (y : YSt) : Prop := okN (y.1.1 0) 6 ∧ okN (y.1.1 1) 8 ∧ yV (nB y.1.1) y.2.2.2 y.2.1 (y.1.1 2387).toNatClampNeg
theorem kw_12 {T : Nat → Int32} {n e : Nat} (h : ¬ (kwI T n e < 12 ∨ 21 < kwI T n e)) : kwI T n e = 12 ∨ kwI T n e = 13 ∨ kwI T n e = 14 ∨ kwI T n e = 15 ∨ kwI T n e = 16 ∨ kwI T n e = 17 ∨ kwI T n e = 18 ∨ kwI T n e = 19 ∨ kwI T n e = 20 ∨ kwI T n e = 21 := by
  have kr := kw_r T n e
  generalize kwI T n e = x at *
  have h1 : ∀ j, j < 24 → ¬ (nI j < 12 ∨ 21 < nI j) → nI j = 12 ∨ nI j = 13 ∨ nI j = 14 ∨ nI j = 15 ∨ nI j = 16 ∨ nI j = 17 ∨ nI j = 18 ∨ nI j = 19 ∨ nI j = 20 ∨ nI j = 21 := by decide +kernel
  rcases kr with rfl | ⟨j, hj, rfl⟩
  · exact absurd (Or.inl (by decide)) h
  · exact h1 j hj h
theorem pYs_V {T : Nat → Int32} {n : Nat} {y y' : YSt} (hn : y.1.2.2 ≤ n) (hy : yW y) (hU : yU y) (h : pYs T n (y.1.1 0).toNatClampNeg (y.1.1 1).toNatClampNeg y = .inr y') : yU y' ∧ y'.1.1 0 = y.1.1 0 ∧ y'.1.1 1 = y.1.1 1 := by
  obtain ⟨s, d, c, O⟩ := y
  obtain ⟨m, hm1, hmd, hc, hd, hO, hc0, hc1⟩ := hy
  obtain ⟨u0, u1, hV⟩ := hU
  unfold pYs pE at h
  dsimp only at hn hm1 hmd hc hd hO hc0 hc1 h u0 u1 hV
  rw [hm1, nI_clamp (by omega)] at h hV
  have k12 := kw_12 (T := T) (n := n) (e := s.2.2)
  generalize kwI T n s.2.2 = k at h k12
  split at h
  · cases h
  · next n1 =>
    split at h
    · cases h
    · next n2 =>
      split at h
      · cases h
      · next n3 =>
        have k12 := k12 (fun q => n1 (q.elim Or.inl (fun r => Or.inr (Or.inl r))))
        obtain ⟨s2, x2, h⟩ := yB_i h
        obtain ⟨s3, x3, h⟩ := yB_i h
        have g0 := tE_ge (T := T) hn
        obtain ⟨o1, lo⟩ := pYo_k (s := (yrB s.1 k, s.2.1, tE T n s.2.2)) g0.2 x2
        obtain ⟨q1, q2, q3, q4⟩ := pSg_e x3
        have lo : ∀ j, j < 2602 + 6 * m → s2.1 j = yrB s.1 k j := lo
        have bb : ∀ j, j < 2602 + 6 * m → j ≠ 2387 → yrB s.1 k j = s.1 j := fun j hj hj2 => by
          unfold yrB
          rw [hm1, nI_clamp (by omega), uA_n _ _ _ _ (by omega), yrA_o _ _ _ _ _ (by omega)]
        have b1 : yrB s.1 k 2387 = nI (m + 1) := by
          have e9 : nI m + 1 = nI (m + 1) := by simp (disch := omega) only [nI_1, nI_add, nI_clamp, nI_pin, nI_neg, nI_nonneg, nI_leE, nI_ltE, nI_eqE, Nat.not_le, Nat.not_lt, fq_10, fq_01, fq_rr]
          unfold yrB
          rw [hm1, e9]
          unfold uA
          rw [if_pos rfl]
        have br : yrB s.1 k (2602 + 6 * m) = k := by
          unfold yrB
          rw [hm1, nI_clamp (by omega), uA_n _ _ _ _ (by omega)]
          unfold yrA
          rw [if_pos rfl]
        obtain ⟨v12, v14, v19, v18, vo⟩ := pYo_V (s := (yrB s.1 k, s.2.1, tE T n s.2.2)) br x2
        have l7 : s2.1 2387 = nI (m + 1) := (lo _ (by omega)).trans b1
        have l0 : s2.1 0 = s.1 0 := (lo _ (by omega)).trans (bb _ (by omega) (by omega))
        have l1 : s2.1 1 = s.1 1 := (lo _ (by omega)).trans (bb _ (by omega) (by omega))
        have er : ∀ i j, i < m → j < 6 → nB s2.1 (226 + 6 * i + j) = nB s.1 (226 + 6 * i + j) := fun i j hi hj => by
          rw [nB_r, nB_r]
          exact (lo _ (by omega)).trans (bb _ (by omega) (by omega))
        have lt8 : ∀ i, i < (s.1 1).toNatClampNeg → okN (nI i) 7 ∧ (nI i).toNatClampNeg < (s2.1 1).toNatClampNeg := fun i hi => by
          have := u1.2
          rw [l1, nI_clamp (by omega)]
          exact ⟨okN.nI (by omega) (by omega), hi⟩
        have lt6 : ∀ i, i < (s.1 0).toNatClampNeg → okN (nI i) 5 ∧ (nI i).toNatClampNeg < (s2.1 0).toNatClampNeg := fun i hi => by
          have := u0.2
          rw [l0, nI_clamp (by omega)]
          exact ⟨okN.nI (by omega) (by omega), hi⟩
        cases h
        unfold yrE at q3 ⊢
        unfold yU
        by_cases ho : k = 18 ∨ k = 19
        · have k20 : ¬ k = 20 := by rcases ho with h | h <;> (rw [h]; decide)
          have c30 : ¬ c = 30 := fun q => n2 ⟨k20, q⟩
          rw [if_pos ho] at q3 ⊢
          rw [if_neg k20]
          dsimp only at q3 ⊢
          rw [q3, l7, nI_clamp (by omega), l0, l1]
          refine ⟨⟨u0, u1, hV.add (by omega) er l0 l1 (Or.inr ⟨rfl, rfl, ?_, ?_⟩)⟩, rfl, rfl⟩
          · unfold opn
            rw [nB_k]
            rcases ho with h | h
            · rcases v18 h with q | q | q
              · exact Or.inr (Or.inr (Or.inr q))
              · exact Or.inr (Or.inr (Or.inl q.1))
              · exact Or.inr (Or.inl q.1)
            · exact Or.inl (v19 h).1
          · unfold wfA
            rw [nB_k, nB_r, nB_0, nB_1]
            rcases ho with h | h
            · rcases v18 h with q | ⟨q, i, hi, ei⟩ | ⟨q, i, hi, ei⟩
              · rw [q]
                exact ⟨fun r => absurd r (by decide), fun r => absurd r (by decide), fun r => absurd r (by decide)⟩
              · rw [q, ei]
                exact ⟨fun r => absurd r (by decide), fun _ => lt8 i hi, fun r => absurd r (by decide)⟩
              · rw [q, ei]
                exact ⟨fun r => absurd r (by decide), fun r => absurd r (by decide), fun _ => lt6 i hi⟩
            · obtain ⟨q, w⟩ := v19 h
              rw [q]
              exact ⟨fun _ => w, fun r => absurd r (by decide), fun r => absurd r (by decide)⟩
        · rw [if_neg ho] at q3 ⊢
          by_cases k20 : k = 20
          · have d0 : ¬ d = 0 := fun q => n1 (Or.inr (Or.inr ⟨k20, q⟩))
            have es := vo (by rw [k20]; decide) (by rw [k20]; decide) (by rw [k20]; decide) (by rw [k20]; decide)
            rw [if_pos k20] at q3 ⊢
            rw [if_pos k20]
            dsimp only at q3 ⊢
            obtain ⟨o, hom, eo⟩ := hO (d - 1) (by omega)
            obtain ⟨d', rfl⟩ : ∃ d', d = d' + 1 := ⟨d - 1, by omega⟩
            rw [Nat.add_sub_cancel] at eo q3 ⊢
            rw [eo, nI_clamp (by omega)] at q3
            have m60 : m < 60 := by omega
            have w7 : s3.1 2387 = nI (m + 1) := by rw [q3, uA_n _ _ _ _ (by omega), uA_n _ _ _ _ (by omega), l7]
            have w0 : s3.1 0 = s.1 0 := by rw [q3, uA_n _ _ _ _ (by omega), uA_n _ _ _ _ (by omega), l0]
            have w1 : s3.1 1 = s.1 1 := by rw [q3, uA_n _ _ _ _ (by omega), uA_n _ _ _ _ (by omega), l1]
            rw [w7, nI_clamp (by omega), w0, w1]
            refine ⟨⟨u0, u1, hV.cl m60 eo hom (fun i j hi hj hij => ?_) w0 w1 ?_ ?_ ?_⟩, rfl, rfl⟩
            · rw [nB_r, q3, uA_n _ _ _ _ (by omega), uA_n _ _ _ _ (by omega), ← nB_r s2.1]
              exact er i j hi hj
            · rw [nB_k, q3, uA_n _ _ _ _ (by omega), uA_n _ _ _ _ (by omega), es]
              exact br.trans k20
            · rw [nB_r, q3, uA_n _ _ _ _ (by omega), uA_e]
            · rw [nB_r, q3, uA_e]
          · have c30 : ¬ c = 30 := fun q => n2 ⟨k20, q⟩
            rw [if_neg k20] at q3 ⊢
            rw [if_neg k20]
            dsimp only at q3 ⊢
            rw [q3, l7, nI_clamp (by omega), l0, l1]
            have k18 : ¬ k = 18 := fun q => ho (Or.inl q)
            have k19 : ¬ k = 19 := fun q => ho (Or.inr q)
            have ek : ¬ k = 12 → ¬ k = 14 → s2.1 (2602 + 6 * m) = k := fun a b => by
              rw [vo a b k19 k18]
              exact br
            refine ⟨⟨u0, u1, hV.add (by omega) er l0 l1 (Or.inl ⟨rfl, rfl, ?_, ?_⟩)⟩, rfl, rfl⟩
            · unfold plK
              rw [nB_k]
              by_cases a : k = 12
              · exact Or.inl (v12 a).1
              · by_cases b : k = 14
                · exact Or.inr (Or.inr (Or.inl (v14 b).1))
                · rw [ek a b]
                  rcases k12 with h | h | h | h | h | h | h | h | h | h <;> first | exact absurd h a | exact absurd h b | exact absurd h k18 | exact absurd h k19 | exact absurd h k20 | (rw [h]; decide)
            · unfold wfO
              rw [nB_k, nB_r, nB_r, nB_1]
              by_cases a : k = 12
              · obtain ⟨q, i, j, hi, hj, ei, ej⟩ := v12 a
                rw [q, ei, ej]
                exact ⟨fun _ => ⟨(lt8 i hi).1, (lt8 i hi).2, lt8 j hj⟩, fun r => absurd r (by decide)⟩
              · by_cases b : k = 14
                · obtain ⟨q, w⟩ := v14 b
                  rw [q]
                  exact ⟨fun r => absurd r (by decide), fun _ => w.1⟩
                · rw [ek a b]
                  exact ⟨fun r => absurd r a, fun r => absurd r b⟩
theorem pYt_V {T : Nat → Int32} {n hm pm : Nat} : ∀ f y {y' : YSt}, y.1.2.2 ≤ n → yW y → yU y → hm = (y.1.1 0).toNatClampNeg → pm = (y.1.1 1).toNatClampNeg → pYt T n hm pm f y = .inr y' → yU y' := by
  intro f
  induction f with
  | zero =>
    intro y y' _ _ hy _ _ h
    cases h
    exact hy
  | succ f ih =>
    intro y y' hn hW hU e0 e1 h
    unfold pYt at h
    split at h
    · cases h
      exact hU
    · cases hp : pYs T n hm pm y with
      | inl x =>
        rw [hp] at h
        cases h
      | inr y1 =>
        rw [hp] at h
        have o := pYs_ok hn hW hp
        rw [e0, e1] at hp
        have v := pYs_V hn hW hU hp
        exact ih y1 o.2.1 o.2.2 v.1 (by rw [v.2.1]; exact e0) (by rw [v.2.2]; exact e1) h
theorem wfY.cg3 {A B : Nat → Int32} {N : Nat} (h : wfY A N) (hb : ∀ k, (k = 0 ∨ k = 1 ∨ (226 ≤ k ∧ k < 586)) → B k = A k) : wfY B N := by
  have hN := h.1
  have e0 := hb 0 (by omega)
  have e1 := hb 1 (by omega)
  have er : ∀ k j, k < 60 → j < 6 → B (226 + 6 * k + j) = A (226 + 6 * k + j) := fun k j hk hj => hb _ (by omega)
  have e : ∀ k, k < 60 → B (226 + 6 * k) = A (226 + 6 * k) := fun k hk => hb _ (by omega)
  have op : ∀ k, k < 60 → (opn B k ↔ opn A k) := fun k hk => by unfold opn; rw [e k hk]
  refine ⟨hN, fun k hk => ?_, fun a b p q h1 h2 h3 h4 h5 h6 h7 h8 h9 => ?_⟩
  · have hK := h.2.1 k hk
    unfold wfK at *
    rw [e k (by omega), er k 4 (by omega) (by omega), er k 1 (by omega) (by omega), e0, e1]
    rcases hK with q | q | q
    · obtain ⟨q1, o, q2, q3, q4, q5⟩ := q
      exact Or.inl ⟨q1, o, q2, q3, (op o (by omega)).mpr q4, by rw [er o 4 (by omega) (by omega)]; exact q5⟩
    · obtain ⟨q1, q2, q3, q4, p, q5, q6, q7, q8, q9⟩ := q
      exact Or.inr (Or.inl ⟨(op k (by omega)).mpr q1, q2, q3, q4, p, q5, q6, q7, by rw [e p (by omega)]; exact q8, by rw [er p 4 (by omega) (by omega)]; exact q9⟩)
    · refine Or.inr (Or.inr ⟨q.1, ?_⟩)
      unfold wfO at *
      rw [e k (by omega), er k 1 (by omega) (by omega), er k 2 (by omega) (by omega), e1]
      exact q.2
  · rw [er a 4 (by omega) (by omega)] at h6
    rw [er b 4 (by omega) (by omega)] at h7
    exact h.2.2 a b p q h1 h2 h3 ((op a (by omega)).mp h4) ((op b (by omega)).mp h5) h6 h7 h8 h9
/-- years that were told are well nested -/
theorem yrs_W {T A : Nat → Int32} {N : Nat → Int64} {O : Nat → Int32} {n : Nat} {y : YSt} (o5 : okN (A 0) 6) (o6 : okN (A 1) 8) (h : yrX1 T n (yrX0 T A N O n) = .inr y) : ∃ m, y.1.1 2387 = nI m ∧ y.2.1 = 0 ∧ wfY (cpR (uA y.1.1 11 (y.1.1 2387)) 226 2602 360) m := by
  have u0 : uA A 2387 0 0 = A 0 := uA_n _ _ _ _ (by omega)
  have u1 : uA A 2387 0 1 = A 1 := uA_n _ _ _ _ (by omega)
  have um : uA A 2387 0 2387 = 0 := uA_e _ _ _
  have W0 : yW ((uA A 2387 0, N, 0), 0, 0, O) := ⟨0, um, Nat.le_refl _, by dsimp only; omega, Nat.zero_le _, fun i hi => absurd hi (Nat.not_lt_zero _), by dsimp only; rw [u0]; exact ⟨o5.1, by have := o5.2; omega⟩, by dsimp only; rw [u1]; exact o6⟩
  have U0 : yU ((uA A 2387 0, N, 0), 0, 0, O) := by
    refine ⟨by dsimp only; rw [u0]; exact o5, by dsimp only; rw [u1]; exact o6, ?_⟩
    dsimp only
    rw [um]
    exact ⟨by decide, fun j hj => absurd hj (Nat.not_lt_zero _), fun j j' i i' _ h2 => absurd h2 (Nat.not_lt_zero _), fun k hk => absurd hk (Nat.not_lt_zero _), fun a b p _ _ h3 => absurd h3 (Nat.not_lt_zero _)⟩
  unfold yrX0 at h
  cases hp : pYt T n (A 0).toNatClampNeg (A 1).toNatClampNeg (n + 1) ((uA A 2387 0, N, 0), 0, 0, O) with
  | inl x =>
    rw [hp] at h
    cases h
  | inr y1 =>
    rw [hp] at h
    have w := pYt_W _ _ (Nat.zero_le _) W0 hp
    have v := pYt_V _ _ (Nat.zero_le _) W0 U0 (by dsimp only; rw [u0]) (by dsimp only; rw [u1]) hp
    unfold yrX1 at h
    dsimp only at h
    split at h
    · next d0 =>
      cases h
      obtain ⟨m, hm, hmd, hc, -⟩ := w
      have h3 := v.2.2
      rw [d0, hm, nI_clamp (by omega)] at h3
      refine ⟨m, hm, d0, h3.fin.cg3 (fun k hk => ?_)⟩
      unfold cpR nB
      rcases hk with rfl | rfl | hk
      · rw [if_neg (by omega), uA_n _ _ _ _ (by omega), if_pos (by omega)]
      · rw [if_neg (by omega), uA_n _ _ _ _ (by omega), if_pos (by omega)]
      · rw [if_pos (by omega), uA_n _ _ _ _ (by omega), if_neg (by omega), show 2602 + (k - 226) = 2376 + k by omega]
    · cases h
