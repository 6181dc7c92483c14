/-! public methods: years told -/
theorem wfS.cg1 {A B : Nat → Int32} (h : wfS A) (hb : ∀ k, k < 226 → k ≠ 11 → B k = A k) : wfS B := by
  obtain ⟨h0, h1, h2, h3, h4, h5, h6, h7, hP, hH, hQ, hS⟩ := h
  have c0 := h0.2
  have c1 := h1.2
  have c2 := h2.2
  unfold wfS
  rw [hb 0 (by omega) (by omega), hb 1 (by omega) (by omega), hb 2 (by omega) (by omega), hb 3 (by omega) (by omega), hb 4 (by omega) (by omega), hb 5 (by omega) (by omega), hb 6 (by omega) (by omega), hb 7 (by omega) (by omega)]
  refine ⟨h0, h1, h2, h3, h4, h5, h6, h7, fun p hp => ?_, fun j hj => ?_, fun k hk => ?_, ?_⟩
  · unfold wfP
    rw [hb _ (by omega) (by omega), hb _ (by omega) (by omega), hb _ (by omega) (by omega), hb _ (by omega) (by omega), hb _ (by omega) (by omega), hb _ (by omega) (by omega)]
    exact hP p hp
  · unfold wfH
    rw [hb _ (by omega) (by omega), hb _ (by omega) (by omega)]
    exact hH j hj
  · unfold wfQ
    rw [hb _ (by omega) (by omega), hb _ (by omega) (by omega), hb _ (by omega) (by omega)]
    exact hQ k hk
  · have e : sW B (A 0).toNatClampNeg = sW A (A 0).toNatClampNeg := sN_cg (fun j hj => by
      show (B (12 + 3 * j)).toNatClampNeg = _
      rw [hb _ (by omega) (by omega)])
    rw [e]
    exact hS
theorem stR.cg1 {I : IH} {s : Nat} {A B : Nat → Int32} (h : stR I s A) (hB : ∀ k, k < 226 → k ≠ 11 → B k = A k) : stR I s B := by
  obtain ⟨o, a, b, c, q, hq, h8, hk⟩ := h
  have o0 := o.1.2
  have o1 := o.2.1.2
  have o2 := o.2.2.2
  unfold stR cnK
  rw [hB 0 (by omega) (by omega), hB 1 (by omega) (by omega), hB 2 (by omega) (by omega), hB 3 (by omega) (by omega), hB 4 (by omega) (by omega), hB 5 (by omega) (by omega), hB 6 (by omega) (by omega), hB 7 (by omega) (by omega), hB 8 (by omega) (by omega), hB 9 (by omega) (by omega), hB 10 (by omega) (by omega)]
  refine ⟨o, a, fun i hi => ?_, fun p hp j hj => ?_, q, hq, h8, fun k hk2 j hj => ?_⟩
  · rw [hB _ (by omega) (by omega), hB _ (by omega) (by omega), hB _ (by omega) (by omega)]
    exact b i hi
  · rw [hB _ (by omega) (by omega)]
    exact c p hp j hj
  · rw [hB _ (by omega) (by omega)]
    exact hk k hk2 j hj
set_option maxHeartbeats 4000000 in
set_option maxRecDepth 20000 in
theorem sim_years {G : GT} {X M : Nat} (a : Int32) : SIM G X M sp_X11_years sp_X12_years [.int a] := by
  intro S I J z h
  have h0 := h
  obtain ⟨s, p, hc, hm, hX, hz, hr⟩ := h
  have hc0 := hc
  have hr0 := hr
  obtain ⟨ct, cr, ⟨b1, b2, b3, b4, b5, b6, b7⟩, cl, cm, hs, hp, csp⟩ := hc
  have k0 := ct.1
  obtain ⟨rA, rT, rP, ⟨rS, rq⟩, rM, rL⟩ := hr
  have rS0 := rS
  obtain ⟨hst, hnm, hyr, hbq, hwf, hwz⟩ := rS
  obtain ⟨s5, s6, s7, s9, s10, s11, s12, s16, s13, s14, s15⟩ := hst.2.1
  have fA : ∀ v, u2 I X 10 v (M + 1) = I (M + 1) := fun v => u2_ne (by omega)
  have fM : ∀ v, u2 I X 10 v M = I M := fun v => u2_ne (by omega)
  have fin : ∀ v, relR X M S (u2 (u2 I X 10 v) M 2 v) J z ∧ z ≤ z + 2 := fun v => ⟨h0.st v, by omega⟩
  have rP0 := rP
  obtain ⟨⟨L, l8, l10, hL⟩, hP2, hP3⟩ := rP
  have o0 := hst.1.1
  have o1 := hst.1.2.1
  have o08 : okN (I (M + 1) 0) 8 := ⟨o0.1, by have := o0.2; omega⟩
  refine ⟨X, s, p, L, rfl, hc0, by omega, l8, hL, fun g => ⟨hm, by rw [fA]; exact o08, by rw [fA]; exact o1, fun _ => ⟨rfl, fin 1⟩, fun q => absurd ?_ g⟩, fun n en hn hn3 => ?_⟩
  · rw [fM, l10] at q
    exact ⟨Int32.not_lt.mp q.1, q.2.1, q.2.2⟩
  · subst en
    refine ⟨tpC (I (M + 7)) (I (M + 6)) n, I (M + 1), J (M + 2), I (M + 8), tp_r cr rP0 (by omega), s5, s6, o0, o1, hnm, ?_⟩
    have bg : ∀ W : IH, W M = I M → bgC (nI n) (W M 10) 300 := fun W e => by
      rw [e, l10]
      exact ⟨Int32.not_lt.mpr (nI_pos' (by omega)), (nI_leI (by omega) (by omega)).mpr hn, (nI_leI (a := n) (b := 300) (by omega) (by omega)).mpr hn3⟩
    cases hp2 : yrX1 (tpC (I (M + 7)) (I (M + 6)) n) n (yrX0 (tpC (I (M + 7)) (I (M + 6)) n) (I (M + 1)) (J (M + 2)) (I (M + 8)) n) with
    | inl f =>
      intro S1 I1 J1 hK hc1 hG h11 h12 h10
      obtain ⟨g1, g2, g3, g4⟩ := hG
      have iM : ∀ a, M ≤ a → a < M + 15 → I1 a = I a := fun a x1 x2 => g1 a (by omega) (by omega) (by omega) (by omega)
      have jM : ∀ a, M ≤ a → a < M + 15 → J1 a = J a := fun a x1 x2 => g4 a (by omega) (by omega) (by omega)
      refine ⟨hK.rf (by omega) (by omega) hm, by rw [iM _ (by omega) (by omega)]; exact o08, by rw [iM _ (by omega) (by omega)]; exact o1, fun q => absurd (bg I1 (iM M (by omega) (by omega))) q, fun _ n' en' hn' => ?_⟩
      have := (nI_eqE (a := n) (b := n') (by omega) (by omega)).mp en'
      subst this
      have ex : yrX I1 J1 M n = .inl f := by
        unfold yrX
        rw [iM (M + 7) (by omega) (by omega), iM (M + 6) (by omega) (by omega), iM (M + 1) (by omega) (by omega), iM (M + 8) (by omega) (by omega), jM _ (by omega) (by omega)]
        exact hp2
      rw [ex]
      intro I2 J2 hF k1 k2 k17 k18 hpos
      obtain ⟨f1, f2, f3, f4, f5⟩ := hF
      obtain ⟨a1, a2, a3, a4, a5⟩ := rA
      generalize hW : u2 (u2 I2 M 16 f.1) M 2 9 = W
      have wo : ∀ a, a ≠ M → W a = I2 a := fun a x1 => by rw [← hW, u2_ne x1, u2_ne x1]
      have wM : ∀ k, k ≠ 2 → k ≠ 16 → W M k = I2 M k := fun k x1 x2 => by rw [← hW, u2_ck _ _ _ _ _ _ x1, u2_ck _ _ _ _ _ _ x2]
      have w2 : W M 2 = 9 := by rw [← hW, u2_same]
      have w16 : W M 16 = f.1 := by rw [← hW, u2_ck _ _ _ _ _ _ (by omega), u2_same]
      clear hW
      have wI : ∀ a, a ≠ X → a ≠ X + 11 → a < M ∨ (M + 3 ≤ a ∧ a < M + 7) ∨ (M + 9 ≤ a ∧ a < M + 15) → ¬ (p ≤ a ∧ a < p + 32) → W a = I a := fun a x1 x2 x3 x4 => by rw [wo a (by omega), f1 a (by omega) (by omega) (by omega) (by omega), g1 a x1 x2 (by omega) x4]
      have wX : ∀ k, W X k = I1 X k := fun k => by rw [wo X (by omega), f1 X (by omega) (by omega) (by omega) (by omega)]
      have vJ : ∀ a, a ≠ X + 11 → a < M + 15 → a ≠ M + 2 → ¬ (p ≤ a ∧ a < p + 32) → J2 a = J a := fun a x1 x2 x3 x4 => by rw [f5 a x3, g4 a x1 (by omega) x4]
      have kA : ∀ k, k < 2376 → W (M + 1) k = I (M + 1) k := fun k hk => by rw [wo _ (by omega), k1 k hk, iM _ (by omega) (by omega)]
      have kN : ∀ k, k < 56 → J2 (M + 2) k = J (M + 2) k := fun k hk => by rw [k2 k hk, jM _ (by omega) (by omega)]
      refine ⟨rfl, h0.tx hc1 (hK.rf (by omega) (by omega) hm) (by omega) (fun a x1 x2 x3 => ⟨wI a (by omega) x3 (by omega) (by omega), vJ a x3 (by omega) (by omega) (by omega)⟩) ((wX 9).trans (g2 9 (by omega) (by omega) (by omega) (by omega))) ((wX 8).trans g3) ((wM 10 (by omega) (by omega)).trans f4) (fun a x1 => wI a (by omega) (by omega) (by omega) (by omega)) (fun a x1 x2 => vJ a (by omega) (by omega) (by omega) (by omega)) (by rw [wM 34 (by omega) (by omega), f2 34 (by omega), iM M (by omega) (by omega)]) (by rw [wM 35 (by omega) (by omega), f2 35 (by omega), iM M (by omega) (by omega)]) ⟨?_, ?_, ?_, ?_, ?_⟩ ⟨?_, ?_⟩ (fun k _ hk => kA k hk) (fun k _ hk => kN k hk), by omega⟩
      · rw [wX, h10, w2]
      · rw [vJ X (by omega) (by omega) (by omega) (by omega), vJ M (by omega) (by omega) (by omega) (by omega)]; exact a2
      · rw [vJ X (by omega) (by omega) (by omega) (by omega), vJ M (by omega) (by omega) (by omega) (by omega)]; exact a3
      · rw [wX, h11, w16]
      · rw [wX, h12, wM 17 (by omega) (by omega), k17]
      · exact rS0.mv (fun a x1 x2 _ => wI a (by omega) (by omega) (by omega) (by omega)) (fun a x1 x2 => by rw [vJ a (by omega) (by omega) (by omega) (by omega)]) (fun k hk => kA k (by omega)) (fun k hk => kN _ (by omega))
      · exact rq.mv (fun i hi => by rw [wI _ (by omega) (by omega) (by omega) (by omega)])
    | inr y =>
      obtain ⟨m, hm7, -, hY⟩ := yrs_W o0 o1 hp2
      intro S1 I1 J1 hK hc1 hG h11 h12 h10 hyr1
      obtain ⟨g1, g2, g3, g4⟩ := hG
      have iM : ∀ a, M ≤ a → a < M + 15 → I1 a = I a := fun a x1 x2 => g1 a (by omega) (by omega) (by omega) (by omega) (by omega)
      have jM : ∀ a, M ≤ a → a < M + 15 → J1 a = J a := fun a x1 x2 => g4 a (by omega) (by omega)
      refine ⟨hK.rf (by omega) (by omega) hm, by rw [iM _ (by omega) (by omega)]; exact o08, by rw [iM _ (by omega) (by omega)]; exact o1, fun q => absurd (bg I1 (iM M (by omega) (by omega))) q, fun _ n' en' hn' => ?_⟩
      have := (nI_eqE (a := n) (b := n') (by omega) (by omega)).mp en'
      subst this
      have ex : yrX I1 J1 M n = .inr y := by
        unfold yrX
        rw [iM (M + 7) (by omega) (by omega), iM (M + 6) (by omega) (by omega), iM (M + 1) (by omega) (by omega), iM (M + 8) (by omega) (by omega), jM _ (by omega) (by omega)]
        exact hp2
      rw [ex]
      intro I2 J2 hF k1 k2 k17 k18 kz
      obtain ⟨f1, f2, f3, f4, f5⟩ := hF
      obtain ⟨a1, a2, a3, a4, a5⟩ := rA
      generalize hW : u2 (u2 I2 M 16 0) M 2 0 = W
      have wo : ∀ a, a ≠ M → W a = I2 a := fun a x1 => by rw [← hW, u2_ne x1, u2_ne x1]
      have wM : ∀ k, k ≠ 2 → k ≠ 16 → W M k = I2 M k := fun k x1 x2 => by rw [← hW, u2_ck _ _ _ _ _ _ x1, u2_ck _ _ _ _ _ _ x2]
      have w2 : W M 2 = 0 := by rw [← hW, u2_same]
      have w16 : W M 16 = 0 := by rw [← hW, u2_ck _ _ _ _ _ _ (by omega), u2_same]
      clear hW
      have wI : ∀ a, a ≠ X → a ≠ X + 11 → a < M ∨ (M + 3 ≤ a ∧ a < M + 7) ∨ (M + 9 ≤ a ∧ a < M + 15) → ¬ (p + 4 ≤ a ∧ a < p + 12) → ¬ (s + 4 ≤ a ∧ a < s + 12) → W a = I a := fun a x1 x2 x3 x4 x5 => by rw [wo a (by omega), f1 a (by omega) (by omega) (by omega) (by omega), g1 a x1 x2 (by omega) x4 x5]
      have wX : ∀ k, W X k = I1 X k := fun k => by rw [wo X (by omega), f1 X (by omega) (by omega) (by omega) (by omega)]
      have vJ : ∀ a, a ≠ X + 11 → a < M + 15 → a ≠ M + 2 → J2 a = J a := fun a x1 x2 x3 => by rw [f5 a x3, g4 a x1 (by omega)]
      have ws : ∀ a, X < a → a < M → W a = I1 a := fun a x1 x2 => by rw [wo a (by omega), f1 a (by omega) (by omega) (by omega) (by omega)]
      have wA : W (M + 1) = cpR (uA y.1.1 11 (y.1.1 2387)) 226 2602 360 := by rw [wo _ (by omega), k1]
      have kA : ∀ k, k < 226 ∨ 586 ≤ k → k < 2376 → k ≠ 11 → W (M + 1) k = I (M + 1) k := fun k hk hk2 hk3 => by rw [wA, cpR_r _ _ _ _ _ (by omega), uA_n _ _ _ _ hk3, kz k hk2, iM _ (by omega) (by omega)]
      have kN : ∀ k, k < 56 → J2 (M + 2) k = J (M + 2) k := fun k hk => by rw [k2 k hk, jM _ (by omega) (by omega)]
      have e11 : W (M + 1) 11 = nI m := by rw [wA, cpR_r _ _ _ _ _ (by omega), uA_e, hm7]
      refine ⟨rfl, h0.tx hc1 (hK.rf (by omega) (by omega) hm) (by omega) (fun a x1 x2 x3 => ⟨wI a (by omega) x3 (by omega) (by omega) (by omega), vJ a x3 (by omega) (by omega)⟩) ((wX 9).trans (g2 9 (by omega) (by omega) (by omega) (by omega))) ((wX 8).trans g3) ((wM 10 (by omega) (by omega)).trans f4) (fun a x1 => wI a (by omega) (by omega) (by omega) (by omega) (by omega)) (fun a x1 x2 => vJ a (by omega) (by omega) (by omega)) (by rw [wM 34 (by omega) (by omega), f2 34 (by omega), iM M (by omega) (by omega)]) (by rw [wM 35 (by omega) (by omega), f2 35 (by omega), iM M (by omega) (by omega)]) ⟨?_, ?_, ?_, ?_, ?_⟩ ⟨⟨?_, ?_, ?_, ?_, ?_, ?_⟩, ?_⟩ (fun k x1 x2 => kA k (by omega) x2 (by omega)) (fun k _ hk => kN k hk), by omega⟩
      · rw [wX, h10, w2]
      · rw [vJ X (by omega) (by omega) (by omega), vJ M (by omega) (by omega) (by omega)]; exact a2
      · rw [vJ X (by omega) (by omega) (by omega), vJ M (by omega) (by omega) (by omega)]; exact a3
      · rw [wX, h11, w16]
      · rw [wX, h12, wM 17 (by omega) (by omega), k17]
      · exact (hst.mv (fun a x1 x2 x3 => wI a (by omega) (by omega) (by omega) (by omega) (by omega))).cg1 (fun k x1 x2 => kA k (by omega) (by omega) x2)
      · rw [kA 0 (by omega) (by omega) (by omega), kA 1 (by omega) (by omega) (by omega)]
        have i0 := o0.2
        have i1 := o1.2
        refine ⟨fun i hi => ?_, fun i hi => ?_⟩
        · rw [vJ _ (by omega) (by omega) (by omega), kN _ (by omega)]
          exact hnm.1 i hi
        · rw [vJ _ (by omega) (by omega) (by omega), kN _ (by omega)]
          exact hnm.2 i hi
      · rw [wA]
        exact hyr1.mv (fun k _ _ => by rw [ws _ (by omega) (by omega)]) (fun m _ _ a x1 x2 i _ => by rw [ws _ (by omega) (by omega)]) rfl (fun _ _ _ => rfl)
      · exact hbq.mv (fun i hi => by rw [wI _ (by omega) (by omega) (by omega) (by omega) (by omega)])
      · exact hwf.cg1 (fun k x1 x2 => kA k (by omega) (by omega) x2)
      · refine Or.inr ⟨m, e11, ?_⟩
        rw [wA]
        exact hY
      · exact rq.mv (fun i hi => by rw [wI _ (by omega) (by omega) (by omega) (by omega) (by omega)])
