/-! public methods: texts -/
theorem bg_r {b c : Int32} {L hi : Nat} (hL : L ≤ 900) (hh : hi ≤ 900) (e : c = nI L) : (¬ bgC b c (nI hi)) ↔ ¬ (0 ≤ b ∧ b ≤ nI L ∧ b ≤ nI hi) := by
  subst e
  unfold bgC
  constructor
  · intro h q
    exact h ⟨Int32.not_lt.mpr q.1, q.2.1, q.2.2⟩
  · intro h q
    exact h ⟨Int32.not_lt.mp q.1, q.2.1, q.2.2⟩
/-- the tape's letters, as read -/
theorem tp_r {X M n : Nat} {I : IH} {J : JH} {S : Sh} (hr : rdZ S X) (h : pP X M I J) (hn : n ≤ 900) : rdE S I J X (tpC (I (M + 7)) (I (M + 6)) n) n := by
  obtain ⟨h1, h2, h3⟩ := h
  refine ⟨hr, hn, fun k hk => ?_, h3⟩
  obtain ⟨e, b⟩ := h2 k (by omega)
  have et : tpC (I (M + 7)) (I (M + 6)) n k = I (X + 10) k := by
    unfold tpC
    rw [if_pos hk, ← e]
    exact b
  rw [et]
  exact ⟨rfl, b⟩
theorem relR.tx {X M s' p' : Nat} {S S1 : Sh} {I W : IH} {J V : JH} {z z1 : Nat} (h : relR X M S I J z) (hc : cpS S1 X s' p') (hm : rfS S1 M) (hz1 : M + 15 ≤ z1) (eI : ∀ a, X + 2 ≤ a → a < X + 174 → a ≠ X + 11 → W a = I a ∧ V a = J a) (e9 : W X 9 = I X 9) (e8 : W X 8 = 0) (m10 : W M 10 = 0) (mI : ∀ a, (M + 3 ≤ a ∧ a < M + 7) ∨ (M + 9 ≤ a ∧ a < M + 15) → W a = I a) (mJ : ∀ a, M + 3 ≤ a → a < M + 15 → V a = J a) (e34 : W M 34 = I M 34) (e35 : W M 35 = I M 35) (hA : pA X M W V) (hS : pS M s' p' W V) (kA : ∀ k, 594 ≤ k → k < 2376 → W (M + 1) k = I (M + 1) k) (kN : ∀ k, 14 ≤ k → k < 56 → V (M + 2) k = J (M + 2) k) : relR X M S1 W V z1 := by
  obtain ⟨s, p, hc', hm', hX, hz, a1, a2, ⟨-, a3, a3'⟩, h4, h5, h6⟩ := h
  have z0 : (0 : Int32) = nI 0 := rfl
  refine ⟨s', p', hc, hm, hX, hz1, hA, a2.mv (fun a x1 x2 => eI a (by omega) (by omega) (by omega)) (mI _ (by omega)) (mI _ (by omega)) (mJ _ (by omega) (by omega)), ⟨⟨0, e8.trans z0, m10.trans z0, by omega⟩, ?_, ?_⟩, hS, h5.mv e9 e35 (fun a x1 x2 => eI a (by omega) (by omega) (by omega)) kA kN, h6.mv (eI _ (by omega) (by omega) (by omega)).1 e34 (mI _ (by omega)) (mI _ (by omega))⟩
  · rw [(eI (X + 10) (by omega) (by omega) (by omega)).1, mI (M + 6) (by omega)]
    exact a3
  · rw [(eI (X + 12) (by omega) (by omega) (by omega)).2]
    exact a3'
set_option maxHeartbeats 4000000 in
set_option maxRecDepth 20000 in
theorem sim_street {G : GT} {X M : Nat} (a : Int32) : SIM G X M sp_X11_street sp_X12_street [.int a] := by
  intro S I J z h
  have h0 := h
  obtain ⟨s, p, hc, hm, hX, hz, hr⟩ := h
  have hc0 := hc
  have hr0 := hr
  obtain ⟨ct, cr, ⟨b1, b2, b3, b4, b5, b6, b7⟩, cl, cm, hs, hp, csp⟩ := hc
  have k0 := ct.1
  obtain ⟨rA, rT, rP, ⟨rS, rq⟩, rM, rL⟩ := hr
  have rS0 := rS
  obtain ⟨hst, hnm, hyr, hbq, hwf, hwz⟩ := rS
  obtain ⟨s5, s6, s7, s9, s10, s11, s12, s16, s13, s14, s15⟩ := hst.2.1
  have fA : ∀ v, u2 I X 10 v (M + 1) = I (M + 1) := fun v => u2_ne (by omega)
  have fM : ∀ v, u2 I X 10 v M = I M := fun v => u2_ne (by omega)
  have fin : ∀ v, relR X M S (u2 (u2 I X 10 v) M 2 v) J z ∧ z ≤ z + 2 := fun v => ⟨h0.st v, by omega⟩
  have rP0 := rP
  obtain ⟨⟨L, l8, l10, hL⟩, hP2, hP3⟩ := rP
  refine ⟨X, s, p, L, rfl, hc0, by omega, l8, hL, fun g => ⟨hm, fun _ => ⟨rfl, fin 1⟩, fun q => absurd ?_ g⟩, fun n en hn => ?_⟩
  · rw [fM, l10] at q
    exact ⟨Int32.not_lt.mp q.1, q.2.1⟩
  · subst en
    refine ⟨tpC (I (M + 7)) (I (M + 6)) n, plA (I (M + 1)) 2376, J (M + 2), tp_r cr rP0 (by omega), (plA_e _).1, ?_⟩
    have bg : ∀ W : IH, W M = I M → bgC (nI n) (W M 10) 900 := fun W e => by
      rw [e, l10]
      exact ⟨Int32.not_lt.mpr (nI_pos' (by omega)), (nI_leI (by omega) (by omega)).mpr hn, (nI_leI (a := n) (b := 900) (by omega) (by omega)).mpr (by omega)⟩
    cases hp2 : pSt (tpC (I (M + 7)) (I (M + 6)) n) n (n + 1) 0 (plA (I (M + 1)) 2376, J (M + 2), 0) with
    | inl f =>
      intro S1 I1 J1 hK hc1 hG h11 h12 h10
      obtain ⟨g1, g2, g3, g4⟩ := hG
      have iM : ∀ a, M ≤ a → a < M + 15 → I1 a = I a := fun a x1 x2 => g1 a (by omega) (by omega) (by omega) (by omega)
      have jM : ∀ a, M ≤ a → a < M + 15 → J1 a = J a := fun a x1 x2 => g4 a (by omega) (by omega) (by omega)
      refine ⟨hK.rf (by omega) (by omega) hm, fun q => absurd (bg I1 (iM M (by omega) (by omega))) q, fun _ n' en' hn' => ?_⟩
      have := (nI_eqE (a := n) (b := n') (by omega) (by omega)).mp en'
      subst this
      have ex : stX I1 J1 M n = .inl f := by
        unfold stX
        rw [iM _ (by omega) (by omega), iM _ (by omega) (by omega), iM _ (by omega) (by omega), jM _ (by omega) (by omega)]
        exact hp2
      rw [ex]
      intro I2 J2 hF k1 k2 k17 k18 hpos
      obtain ⟨f1, f2, f3, f4, f5⟩ := hF
      obtain ⟨a1, a2, a3, a4, a5⟩ := rA
      generalize hW : u2 (u2 I2 M 16 f.1) M 2 9 = W
      have wo : ∀ a, a ≠ M → W a = I2 a := fun a x1 => by rw [← hW, u2_ne x1, u2_ne x1]
      have wM : ∀ k, k ≠ 2 → k ≠ 16 → W M k = I2 M k := fun k x1 x2 => by rw [← hW, u2_ck _ _ _ _ _ _ x1, u2_ck _ _ _ _ _ _ x2]
      have w2 : W M 2 = 9 := by rw [← hW, u2_same]
      have w16 : W M 16 = f.1 := by rw [← hW, u2_ck _ _ _ _ _ _ (by omega), u2_same]
      clear hW
      have wI : ∀ a, a ≠ X → a ≠ X + 11 → a < M ∨ (M + 3 ≤ a ∧ a < M + 7) ∨ (M + 9 ≤ a ∧ a < M + 15) → ¬ (p ≤ a ∧ a < p + 32) → W a = I a := fun a x1 x2 x3 x4 => by rw [wo a (by omega), f1 a (by omega) (by omega) (by omega) (by omega), g1 a x1 x2 (by omega) x4]
      have wX : ∀ k, W X k = I1 X k := fun k => by rw [wo X (by omega), f1 X (by omega) (by omega) (by omega) (by omega)]
      have vJ : ∀ a, a ≠ X + 11 → a < M + 15 → a ≠ M + 2 → ¬ (p ≤ a ∧ a < p + 32) → J2 a = J a := fun a x1 x2 x3 x4 => by rw [f5 a x3, g4 a x1 (by omega) x4]
      have kA : ∀ k, k < 2376 → W (M + 1) k = I (M + 1) k := fun k hk => by rw [wo _ (by omega), k1 k hk, iM _ (by omega) (by omega)]
      have kN : ∀ k, k < 56 → J2 (M + 2) k = J (M + 2) k := fun k hk => by rw [k2 k hk, jM _ (by omega) (by omega)]
      refine ⟨rfl, h0.tx hc1 (hK.rf (by omega) (by omega) hm) (by omega) (fun a x1 x2 x3 => ⟨wI a (by omega) x3 (by omega) (by omega), vJ a x3 (by omega) (by omega) (by omega)⟩) ((wX 9).trans (g2 9 (by omega) (by omega) (by omega) (by omega))) ((wX 8).trans g3) ((wM 10 (by omega) (by omega)).trans f4) (fun a x1 => wI a (by omega) (by omega) (by omega) (by omega)) (fun a x1 x2 => vJ a (by omega) (by omega) (by omega) (by omega)) (by rw [wM 34 (by omega) (by omega), f2 34 (by omega), iM M (by omega) (by omega)]) (by rw [wM 35 (by omega) (by omega), f2 35 (by omega), iM M (by omega) (by omega)]) ⟨?_, ?_, ?_, ?_, ?_⟩ ⟨?_, ?_⟩ (fun k _ hk => kA k hk) (fun k _ hk => kN k hk), by omega⟩
      · rw [wX, h10, w2]
      · rw [vJ X (by omega) (by omega) (by omega) (by omega), vJ M (by omega) (by omega) (by omega) (by omega)]; exact a2
      · rw [vJ X (by omega) (by omega) (by omega) (by omega), vJ M (by omega) (by omega) (by omega) (by omega)]; exact a3
      · rw [wX, h11, w16]
      · rw [wX, h12, wM 17 (by omega) (by omega), k17]
      · exact rS0.mv (fun a x1 x2 _ => wI a (by omega) (by omega) (by omega) (by omega)) (fun a x1 x2 => by rw [vJ a (by omega) (by omega) (by omega) (by omega)]) (fun k hk => kA k (by omega)) (fun k hk => kN _ (by omega))
      · exact rq.mv (fun i hi => by rw [wI _ (by omega) (by omega) (by omega) (by omega)])
    | inr σ =>
      have hwu := pSt_wT (n + 1) 0 (plA (I (M + 1)) 2376, J (M + 2), 0) (plA_e (I (M + 1))).2 hp2
      intro S1 I1 J1 hK hc1 hG h11 h12 h10 hst1 hnm1 hy1
      obtain ⟨g1, g2, g3, g4⟩ := hG
      have iM : ∀ a, M ≤ a → a < M + 15 → I1 a = I a := fun a x1 x2 => g1 a (by omega) (by omega) (by omega) (by omega)
      have jM : ∀ a, M ≤ a → a < M + 15 → J1 a = J a := fun a x1 x2 => g4 a (by omega) (by omega) (by omega)
      refine ⟨hK.rf (by omega) (by omega) hm, fun q => absurd (bg I1 (iM M (by omega) (by omega))) q, fun _ n' en' hn' => ?_⟩
      have := (nI_eqE (a := n) (b := n') (by omega) (by omega)).mp en'
      subst this
      have ex : stX I1 J1 M n = .inr σ := by
        unfold stX
        rw [iM _ (by omega) (by omega), iM _ (by omega) (by omega), iM _ (by omega) (by omega), jM _ (by omega) (by omega)]
        exact hp2
      rw [ex]
      intro I2 J2 hF k1 k2 k17 k18 kz kw
      obtain ⟨f1, f2, f3, f4, f5⟩ := hF
      obtain ⟨a1, a2, a3, a4, a5⟩ := rA
      generalize hW : u2 (u2 I2 M 16 0) M 2 0 = W
      have wo : ∀ a, a ≠ M → W a = I2 a := fun a x1 => by rw [← hW, u2_ne x1, u2_ne x1]
      have wM : ∀ k, k ≠ 2 → k ≠ 16 → W M k = I2 M k := fun k x1 x2 => by rw [← hW, u2_ck _ _ _ _ _ _ x1, u2_ck _ _ _ _ _ _ x2]
      have w2 : W M 2 = 0 := by rw [← hW, u2_same]
      have w16 : W M 16 = 0 := by rw [← hW, u2_ck _ _ _ _ _ _ (by omega), u2_same]
      clear hW
      have wI : ∀ a, a ≠ X → a ≠ X + 11 → a < M ∨ (M + 3 ≤ a ∧ a < M + 7) ∨ (M + 9 ≤ a ∧ a < M + 15) → ¬ (p ≤ a ∧ a < p + 32) → W a = I a := fun a x1 x2 x3 x4 => by rw [wo a (by omega), f1 a (by omega) (by omega) (by omega) (by omega), g1 a x1 x2 (by omega) x4]
      have wX : ∀ k, W X k = I1 X k := fun k => by rw [wo X (by omega), f1 X (by omega) (by omega) (by omega) (by omega)]
      have vJ : ∀ a, a ≠ X + 11 → a < M + 15 → a ≠ M + 2 → ¬ (p ≤ a ∧ a < p + 32) → J2 a = J a := fun a x1 x2 x3 x4 => by rw [f5 a x3, g4 a x1 (by omega) x4]
      have wp : ∀ a, p ≤ a → a < p + 52 → W a = I1 a := fun a x1 x2 => by rw [wo a (by omega), f1 a (by omega) (by omega) (by omega) (by omega)]
      have wA : W (M + 1) = cpR σ.1 0 2376 594 := by rw [wo _ (by omega), k1]
      have kA : ∀ k, k < 594 → W (M + 1) k = σ.1 (2376 + k) := fun k hk => by rw [wA, cpR_z _ _ _ _ hk]
      have kB : ∀ k, 594 ≤ k → k < 2376 → W (M + 1) k = I (M + 1) k := fun k hk hk2 => by rw [wA, cpR_r _ _ _ _ _ (by omega), kz k hk2, iM _ (by omega) (by omega)]
      have kN : ∀ k, k < 14 → J2 (M + 2) k = σ.2.1 (56 + k) := fun k hk => by rw [k2, cpR_z _ _ _ _ hk]
      have kM : ∀ k, 14 ≤ k → k < 56 → J2 (M + 2) k = J (M + 2) k := fun k hk hk2 => by rw [k2, cpR_r _ _ _ _ _ (by omega), kw k hk2, jM _ (by omega) (by omega)]
      have e11 : W (M + 1) 11 = -1 := (kA 11 (by omega)).trans hwu.2.2.2.2.2.2.2.2.1
      refine ⟨rfl, h0.tx hc1 (hK.rf (by omega) (by omega) hm) (by omega) (fun a x1 x2 x3 => ⟨wI a (by omega) x3 (by omega) (by omega), vJ a x3 (by omega) (by omega) (by omega)⟩) ((wX 9).trans (g2 9 (by omega) (by omega) (by omega) (by omega))) ((wX 8).trans g3) ((wM 10 (by omega) (by omega)).trans f4) (fun a x1 => wI a (by omega) (by omega) (by omega) (by omega)) (fun a x1 x2 => ?_) (by rw [wM 34 (by omega) (by omega), f2 34 (by omega), iM M (by omega) (by omega)]) (by rw [wM 35 (by omega) (by omega), f2 35 (by omega), iM M (by omega) (by omega)]) ⟨?_, ?_, ?_, ?_, ?_⟩ ⟨⟨?_, ?_, ?_, ?_, ?_, ?_⟩, ?_⟩ kB kM, by omega⟩
      · exact vJ a (by omega) (by omega) (by omega) (by omega)
      · rw [wX, h10, w2]
      · rw [vJ X (by omega) (by omega) (by omega) (by omega), vJ M (by omega) (by omega) (by omega) (by omega)]; exact a2
      · rw [vJ X (by omega) (by omega) (by omega) (by omega), vJ M (by omega) (by omega) (by omega) (by omega)]; exact a3
      · rw [wX, h11, w16]
      · rw [wX, h12, wM 17 (by omega) (by omega), k17]
      · exact (hst1.mv (fun a x1 x2 _ => wp a x1 x2)).cg (fun k hk => kA k (by omega))
      · rw [kA 0 (by omega), kA 1 (by omega)]
        have o0 := hwu.1.2
        have o1 := hwu.2.1.2
        refine ⟨fun i hi => ?_, fun i hi => ?_⟩
        · have hi' : i < (σ.1 2376).toNatClampNeg := hi
          rw [f5 _ (by omega), Nat.zero_add, kN _ (by omega)]
          exact hnm1.1 i hi
        · have hi' : i < (σ.1 2377).toNatClampNeg := hi
          rw [f5 _ (by omega), Nat.zero_add, kN _ (by omega), ← Nat.add_assoc]
          exact hnm1.2 i hi
      · exact Or.inl ⟨e11, by rw [wp _ (by omega) (by omega)]; exact hy1.1, by rw [wp _ (by omega) (by omega)]; exact hy1.2⟩
      · exact rq.mv (fun i hi => by rw [wI _ (by omega) (by omega) (by omega) (by omega)])
      · exact hwu.S (fun k hk => kA k (by omega))
      · exact Or.inl e11
      · exact hbq.mv (fun i hi => by rw [wI _ (by omega) (by omega) (by omega) (by omega)])
