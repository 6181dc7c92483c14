/-! public methods: the mean of lives -/
set_option maxHeartbeats 4000000 in
set_option maxRecDepth 20000 in
theorem sim_mean {G : GT} {X M : Nat} (a b c : Int32) : SIM G X M sp_X11_mean sp_X12_mean [.int a, .int b, .int c] := by
  intro S I J z h
  have h0 := h
  obtain ⟨s, p, hc, hm, hX, hz, hr⟩ := h
  have hc0 := hc
  have hr0 := hr
  obtain ⟨ct, cr, ⟨b1, b2, b3, b4, b5, b6, b7⟩, cl, cm, hs, hp, csp⟩ := hc
  have k0 := ct.1
  obtain ⟨rA, rT, rP, ⟨rS, rq⟩, rM, rL⟩ := hr
  have rS0 := rS
  obtain ⟨hst, hnm, hyr, hbq, hwf, hwz⟩ := rS
  obtain ⟨s5, s6, s7, s9, s10, s11, s12, s16, s13, s14, s15⟩ := hst.2.1
  have fA : ∀ v, u2 I X 10 v (M + 1) = I (M + 1) := fun v => u2_ne (by omega)
  have fM : ∀ v, u2 I X 10 v M = I M := fun v => u2_ne (by omega)
  have fin : ∀ v, relR X M S (u2 (u2 I X 10 v) M 2 v) J z ∧ z ≤ z + 2 := fun v => ⟨h0.st v, by omega⟩
  obtain ⟨eL, e10, e34⟩ := rL
  have o5 : okN (I s 5) 6 := by rw [s5]; exact hst.1.1
  have fL : ∀ v, u2 I X 10 v (M + 12) = I (M + 12) := fun v => u2_ne (by omega)
  refine ⟨X, s, p, rfl, hc0, o5, fun g => ?_, fun g => ?_⟩
  · rw [s5] at g
    refine ⟨hm, by rw [fA]; exact hwf, by rw [fL]; exact eL, by rw [fA]; exact hwz, fun _ => ⟨rfl, fin 1⟩, fun q => absurd (by rw [fA] at q; exact q) g⟩
  · rw [s5] at g
    rcases rS0.sv with ⟨z1, z2⟩ | ⟨m, z1, hm6, z2, hsv, hwy⟩
    · refine Or.inl ⟨z2, hm, by rw [fA]; exact hwf, by rw [fL]; exact eL, by rw [fA]; exact hwz, fun q => absurd (by rw [fA]; exact g) q, fun _ => ⟨fun _ => ⟨rfl, fin 6⟩, fun j d c' N _ _ _ _ _ _ _ e hy => ?_⟩⟩
      rw [fA, z1] at e
      exact absurd e.symm (of_eq_false (nI_m1 (by have := hy.1; omega)))
    · refine Or.inr ⟨z2, fun j d n ea eb ecc hj hdc hn1 hn2 => ?_⟩
      subst ea eb ecc
      rw [s5] at hj
      have a1 : ∀ k, k < 594 → cpR (I (M + 1)) 2970 0 226 k = I (M + 1) k := fun k hk => cpR_r _ _ _ _ _ (by omega)
      refine ⟨cpR (I (M + 1)) 2970 0 226, m, I (M + 12), hsv.cg a1, eL, fun w I1 J1 ew hw hF x10 hbp j13 j14 => ?_⟩
      obtain ⟨f1, f2, f3, f4⟩ := hF
      have gA : I1 (M + 1) = I (M + 1) := f1 _ (by omega) (by omega) (by omega) (by omega)
      have gL : I1 (M + 12) = I (M + 12) := f1 _ (by omega) (by omega) (by omega) (by omega)
      have wS : wfS (cpR (I (M + 1)) 2970 0 226) := hwf.cg (fun k hk => a1 k (by omega))
      have wY := hwy.cg2 a1
      have hW := mnS_W wS wY (h := j) (by rw [a1 0 (by omega)]; exact hj) n d (I (M + 12)) 0 eL (by omega) (by omega)
      rw [Nat.zero_add, ← ew] at hW
      have gc : cdv 100 (lN w) (lN n) = lN (Nat.gcd w n) := cdv_g (by omega) (by omega)
      rw [gc] at j13 j14
      refine ⟨hm, by rw [gA]; exact hwf, by rw [gL]; exact eL, by rw [gA]; exact hwz, fun q => absurd (by rw [gA]; exact g) q, fun _ => ⟨fun e => ?_, fun j' d' n' N' e1 e2 e3 hj' hd' hn1' hn2' eN hy => ?_⟩⟩
      · rw [gA, z1] at e
        exact absurd e (of_eq_false (nI_m1 (by omega)))
      · have h31 : (20 : Nat) < 2 ^ 31 := by decide
        rw [gA] at hj'
        have j6 := hst.1.1.2
        have := (nI_eqE (a := j) (b := j') (by omega) (by omega)).mp e1
        subst this
        have := (nI_eqE (a := d) (b := d') (by omega) (by omega)).mp e2
        subst this
        have := (nI_eqE (a := n) (b := n') (by omega) (by omega)).mp e3
        subst this
        rw [gA, z1] at eN
        have := (nI_eqE (a := m) (b := N') (by omega) (by have := hy.1; omega)).mp eN
        subst this
        rw [gA, gL]
        refine ⟨w, hW.1, by omega, fun I2 hT hL2 e2 => ⟨rfl, ?_, by omega⟩⟩
        obtain ⟨t1, t2, t3⟩ := hT
        have all : ∀ a, a ≠ X → a ≠ X + 172 → a ≠ X + 173 → ¬ (p ≤ a ∧ a < p + 52) → a ≠ M → a ≠ M + 1 → a ≠ M + 12 → a ≠ M + 13 → I2 a = I a := fun a x1 x2 x3 x4 x5 x6 x7 x8 => by
          rw [t1 a x5 x6 x7 x8, f1 a x1 x2 x3 x4]
        have kX : ∀ k, k ≠ 10 → I2 X k = I X k := fun k x1 => by rw [t1 X (by omega) (by omega) (by omega) (by omega), f2 k x1]
        have kM : ∀ k, k ≠ 2 → k ≠ 29 → k ≠ 30 → I2 M k = I M k := fun k x1 x2 x3 => by rw [t2 k x1 x2 x3, f1 M (by omega) (by omega) (by omega) (by omega)]
        have kA : ∀ k, k < 2376 → I2 (M + 1) k = I (M + 1) k := fun k hk => by rw [t3 k hk, gA]
        have x10' : I2 X 10 = 0 := by rw [t1 X (by omega) (by omega) (by omega) (by omega)]; exact x10
        generalize hV : u2 (u2 J1 M 3 (lN w / lN (w.gcd n))) M 4 (lN n / lN (w.gcd n)) = V
        have vo : ∀ a, a ≠ X → a ≠ M → ¬ (p ≤ a ∧ a < p + 52) → V a = J a := fun a x1 x2 x3 => by rw [← hV, u2_ne x2, u2_ne x2, f3 a x1 x3]
        have v3 : V M 3 = lN w / lN (w.gcd n) := by rw [← hV, u2_ck _ _ _ _ _ _ (by omega), u2_same]
        have v4 : V M 4 = lN n / lN (w.gcd n) := by rw [← hV, u2_same]
        have v13 : V X 13 = lN w / lN (w.gcd n) := by rw [← hV, u2_ne (by omega), u2_ne (by omega)]; exact j13
        have v14 : V X 14 = lN n / lN (w.gcd n) := by rw [← hV, u2_ne (by omega), u2_ne (by omega)]; exact j14
        clear hV
        obtain ⟨a1', a2, a3, a4, a5⟩ := rA
        refine ⟨s, p, hc0, hm, hX, hz, ⟨x10'.trans e2.symm, v13.trans v3.symm, v14.trans v4.symm, ?_, ?_⟩, rT.mv (fun a x1 x2 => ⟨all a (by omega) (by omega) (by omega) (by omega) (by omega) (by omega) (by omega) (by omega), vo a (by omega) (by omega) (by omega)⟩) (all _ (by omega) (by omega) (by omega) (by omega) (by omega) (by omega) (by omega) (by omega)) (all _ (by omega) (by omega) (by omega) (by omega) (by omega) (by omega) (by omega) (by omega)) (vo _ (by omega) (by omega) (by omega)), rP.mv (kX 8 (by omega)) (kM 10 (by omega) (by omega) (by omega)) (all _ (by omega) (by omega) (by omega) (by omega) (by omega) (by omega) (by omega) (by omega)) (all _ (by omega) (by omega) (by omega) (by omega) (by omega) (by omega) (by omega) (by omega)) (vo _ (by omega) (by omega) (by omega)), ⟨rS0.mv (fun a x1 x2 _ => all a (by omega) (by omega) (by omega) (by omega) (by omega) (by omega) (by omega) (by omega)) (fun a x1 x2 => by rw [vo a (by omega) (by omega) (by omega)]) (fun k hk => kA k (by omega)) (fun k hk => by rw [vo (M + 2) (by omega) (by omega) (by omega)]), hbp.mv (fun i hi => by rw [t1 _ (by omega) (by omega) (by omega) (by omega)])⟩, rM.mv (kX 9 (by omega)) (kM 35 (by omega) (by omega) (by omega)) (fun a x1 x2 => ⟨all a (by omega) (by omega) (by omega) (by omega) (by omega) (by omega) (by omega) (by omega), vo a (by omega) (by omega) (by omega)⟩) (fun k x1 x2 => kA k x2) (fun k _ _ => by rw [vo (M + 2) (by omega) (by omega) (by omega)]), ⟨hL2, ?_, ?_⟩⟩
        · rw [kX 11 (by omega), kM 16 (by omega) (by omega) (by omega)]; exact a4
        · rw [kX 12 (by omega), kM 17 (by omega) (by omega) (by omega)]; exact a5
        · rw [all _ (by omega) (by omega) (by omega) (by omega) (by omega) (by omega) (by omega) (by omega), kM 34 (by omega) (by omega) (by omega)]; exact e10
        · rw [all (X + 170) (by omega) (by omega) (by omega) (by omega) (by omega) (by omega) (by omega) (by omega), all (M + 14) (by omega) (by omega) (by omega) (by omega) (by omega) (by omega) (by omega) (by omega), kM 34 (by omega) (by omega) (by omega)]; exact e34
