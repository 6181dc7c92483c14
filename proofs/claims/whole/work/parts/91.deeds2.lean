/-! deeds of the class's street, against the row -/
/-- what was halved is yes or no -/
def bqS (I : IH) (s : Nat) : Prop := ∀ i, i < 20 → I (s + 32 + i) 6 = 0 ∨ I (s + 32 + i) 6 = 1
theorem bqS.mv {I I' : IH} {s s' : Nat} (h : bqS I s) (e : ∀ i, i < 20 → I' (s' + 32 + i) 6 = I (s + 32 + i) 6) : bqS I' s' := fun i hi => by rw [e i hi]; exact h i hi
/-- what a deed leaves as it was -/
def dyF (s : Nat) (I I' : IH) (J J' : JH) : Prop := (∀ a, ¬ (s ≤ a ∧ a < s + 52) → I' a = I a) ∧ (∀ a, s < a → a < s + 12 → I' a = I a) ∧ ∀ a, (a < s + 12 ∨ s + 18 ≤ a) → J' a = J a
theorem dyF.rf {s : Nat} {I : IH} {J : JH} : dyF s I I J J := ⟨fun _ _ => rfl, fun _ _ _ => rfl, fun _ _ => rfl⟩
theorem dyF.tr {s : Nat} {I I1 I2 : IH} {J J1 J2 : JH} (h : dyF s I I1 J J1) (g : dyF s I1 I2 J1 J2) : dyF s I I2 J J2 := ⟨fun a h1 => (g.1 a h1).trans (h.1 a h1), fun a h1 h2 => (g.2.1 a h1 h2).trans (h.2.1 a h1 h2), fun a h1 => (g.2.2 a h1).trans (h.2.2 a h1)⟩
theorem dyF.u {s a k : Nat} {v : Int32} {I I1 : IH} {J J1 : JH} (h : dyF s I I1 J J1) (ha : a = s ∨ (s + 12 ≤ a ∧ a < s + 52)) : dyF s I (u2 I1 a k v) J J1 := ⟨fun b h1 => by rw [u2_ne (by omega)]; exact h.1 b h1, fun b h1 h2 => by rw [u2_ne (by omega)]; exact h.2.1 b h1 h2, h.2.2⟩
theorem sh_key : ∀ x, x < 6 → ∀ y, y < 6 → (x + 1 = y ∨ y + 1 = x) → (if 0 ≤ nI x - nI y then nI x - nI y else 0 - (nI x - nI y)) = 1 ∧ (if nI y < nI x then nI y else nI x) = nI (min x y) := by decide +kernel
theorem sh_w {A : Nat → Int32} {p q x y : Nat} (hn : nbR A p q x y) (hc : (A 0).toNatClampNeg ≤ 6) (hr : nrP (A (30 + 7 * p)) (A (30 + 7 * q)) (A 8)) : shW (A (30 + 7 * p)) (A (30 + 7 * q)) (A 8) = nI (min x y) := by
  obtain ⟨ha, hb, hab, ex, ey, hx, hy, hxy⟩ := hn
  rw [ex, ey] at hr ⊢
  obtain ⟨k1, k2⟩ := sh_key x (by omega) y (by omega) hxy
  have h2 := hr.2
  unfold shW
  rw [if_neg (fun q => q k1), if_neg h2]
  exact k2
theorem sh_n {A : Nat → Int32} (hw : wfS A) {p q : Nat} (hp : p < (A 1).toNatClampNeg) (hq : q < (A 1).toNatClampNeg) : (shW (A (30 + 7 * p)) (A (30 + 7 * q)) (A 8) = -1) ↔ ¬ (¬ p = q ∧ nrP (A (30 + 7 * p)) (A (30 + 7 * q)) (A 8)) := by
  obtain ⟨x, hx, ex, -⟩ := (hw.2.2.2.2.2.2.2.2.1 p hp).1.1.ex
  obtain ⟨y, hy, ey, -⟩ := (hw.2.2.2.2.2.2.2.2.1 q hq).1.1.ex
  have := nrP_sh (a := x) (b := y) (A 8) (by omega) (by omega)
  rw [← ex, ← ey] at this
  constructor
  · rintro h ⟨-, h2⟩
    exact this.mp h2 h
  · intro h
    refine Classical.byContradiction fun g => h ⟨?_, this.mpr g⟩
    rintro rfl
    have hn := (this.mpr g).1
    rw [show A (30 + 7 * p) - A (30 + 7 * p) = 0 by grind] at hn
    exact absurd hn (by decide)
theorem vin_of {x n : Nat} (h : x < n) (hn : n < 2 ^ 31) : vp_in (nI x) n := by
  rw [nI_pin h hn]
  trivial
theorem utter_R {G : GT} {S : Sh} {I : IH} {J : JH} {z s p q x y : Nat} {A : Nat → Int32} {Q : Post} (hs : stS S s) (h : stR I s A) (hw : wfS A) (hb : bqS I s) (hn : nbR A p q x y) (hr : nrP (A (30 + 7 * p)) (A (30 + 7 * q)) (A 8)) (k : ∀ I' J', dyF s I I' J J' → stR I' s (syX A p q x y) → bqS I' s → Q (some (.int (nI (rqr A p q x y).1))) S I' J' z) : sp_X6_utter G [.ref s, .int (nI p), .int (nI q)] S I J z Q := by
  have hn0 := hn
  have hsw := sh_w hn hw.1.2 hr
  obtain ⟨hp, hq, hpq, ex, ey, hx, hy, hxy⟩ := hn
  have o1 := h.1.1.2
  have o2 := h.1.2.1.2
  have p1 := (h.P hp).1
  have q1 := (h.P hq).1
  obtain ⟨qq, hq20, h8, -⟩ := h.2.2.2.2
  have s13 : I s 13 = A 8 := h.2.1.2.2.2.2.2.2.2.2.1
  have s16 : I s 16 = A 7 := h.2.1.2.2.2.2.2.2.2.1
  have s7 : I s 7 = A 2 := h.2.1.2.2.1
  unfold sp_X6_utter
  dsimp only
  rw [nI_clamp (by omega), nI_clamp (by omega)]
  refine ⟨vin_of (by omega) (by omega), vin_of (by omega) (by omega), ⟨hs, ?_, ?_, ?_⟩, hpq, ?_, ?_, ?_, min x y, by omega, ?_, fun I' J' hsc => ?_⟩
  · rw [p1, ex]
    exact vin_of (by omega) (by omega)
  · rw [q1, ey]
    exact vin_of (by omega) (by omega)
  · rw [s16]
    exact hw.2.2.2.2.2.2.2.1
  · rw [p1, q1, ex, ey, nI_clamp (by omega), nI_clamp (by omega)]
    omega
  · rw [s7]
    exact h.1.2.2
  · rw [h8]
    exact okN.nI (by omega) (by omega)
  · rw [p1, q1, s13]
    exact hsw
  · rw [qrl_rq h hn0]
    have e1 : (I (s + 24 + p) 1).toNatClampNeg = x := by rw [p1, ex, nI_clamp (by omega)]
    have e2 : (I (s + 24 + q) 1).toNatClampNeg = y := by rw [q1, ey, nI_clamp (by omega)]
    have m20 : ((I s 8).toNatClampNeg + 1) % 20 < 20 := Nat.mod_lt _ (by omega)
    have uo : ∀ a, (a < s ∨ (s < a ∧ a < s + 18) ∨ s + 52 ≤ a) → utI I s p q (min x y) a = I a := fun a ha => by
      unfold utI
      split
      · exact utP_o (by omega) (by omega) (by omega) (by omega) (by omega)
      · funext j
        unfold utQ
        rw [if_neg (by omega), if_neg (by omega), if_neg (by omega), utP_o (by omega) (by omega) (by omega) (by omega) (by omega)]
    refine k I' J' ⟨fun a ha => ?_, fun a h1 h2 => ?_, fun a ha => ?_⟩ (h.say hn0 hsc) (fun i hi => ?_)
    · rw [← uo a (by omega)]
      funext j
      exact hsc.1 a j (by omega)
    · rw [← uo a (by omega)]
      funext j
      exact hsc.1 a j (by omega)
    · funext j
      exact hsc.2 a j (by omega)
    · rw [hsc.1 _ 6 (by omega)]
      have hb := hb i hi
      unfold utI
      split
      · rw [utP_o (by omega) (by omega) (by omega) (by omega) (by omega)]
        exact hb
      · unfold utQ
        by_cases g : i = ((I s 8).toNatClampNeg + 1) % 20
        · rw [if_pos ⟨by omega, by omega⟩]
          exact Or.inl rfl
        · rw [if_neg (by omega), if_neg (by omega), if_neg (by omega), utP_o (by omega) (by omega) (by omega) (by omega) (by omega)]
          exact hb
theorem canR_R {G : GT} {S : Sh} {I : IH} {J : JH} {z s j : Nat} {A : Nat → Int32} {Q : Post} (hs : stS S s) (h : stR I s A) (hj : j < 20) (k : Q (some (.int (bI (j < (A 2).toNatClampNeg ∧ A (86 + 7 * j) = A 6 ∧ A (86 + 7 * j + 6) = 0)))) S I J z) : sp_X6_canRegret G [.ref s, .int (nI j)] S I J z Q := by
  obtain ⟨qq, hq20, h8, hk⟩ := h.2.2.2.2
  obtain ⟨c, hc, ec, ec2⟩ := h.1.2.2.ex
  have s7 : I s 7 = A 2 := h.2.1.2.2.1
  have s12 : I s 12 = A 6 := h.2.1.2.2.2.2.2.2.1
  unfold sp_X6_canRegret
  dsimp only
  rw [nI_clamp (by omega)]
  refine ⟨hs, vin_of (by omega) (by omega), by rw [h8]; exact okN.nI (by omega) (by omega), ?_⟩
  have e : bI (nI j < I s 7 ∧ I (s + 32 + qix (I s 8).toNatClampNeg j) 0 = I s 12 ∧ I (s + 32 + qix (I s 8).toNatClampNeg j) 6 = 0) = bI (j < (A 2).toNatClampNeg ∧ A (86 + 7 * j) = A 6 ∧ A (86 + 7 * j + 6) = 0) := by
    rw [h8, nI_clamp (by omega), s7, s12]
    by_cases g : j < (A 2).toNatClampNeg
    · have k0 := hk j g 0 (by omega)
      have k6 := hk j g 6 (by omega)
      rw [k0, k6]
      have l : nI j < A 2 := by
        rw [ec]
        exact (nI_ltI (by omega) (by omega)).mpr (by omega)
      simp only [bI, l, g, true_and, Nat.add_zero]
    · have l : ¬ nI j < A 2 := fun q => g (by
        rw [ec] at q
        have := (nI_ltI (by omega) (by omega)).mp q
        omega)
      rw [bI_f (fun q => l q.1), bI_f (fun q => g q.1)]
  rw [e]
  exact k
theorem regret_R {G : GT} {S : Sh} {I : IH} {J : JH} {z s j : Nat} {A : Nat → Int32} {Q : Post} (hs : stS S s) (h : stR I s A) (hw : wfS A) (hb : bqS I s) (hj : j < (A 2).toNatClampNeg) (k : ∀ I' w f, dyF s I I' J J → stR I' s (hlA A j w) → bqS I' s → A (86 + 7 * j + 1) = nI w → w < 5 → w + 1 < (A 0).toNatClampNeg → (0 < A (86 + 7 * j + 5) → f = mnI (A (86 + 7 * j + 5) / 2) (A (12 + 3 * w))) → (¬ 0 < A (86 + 7 * j + 5) → f = mnI (-A (86 + 7 * j + 5) / 2) (A (12 + 3 * (w + 1)))) → Q (some (.int f)) S I' J z) : sp_X6_regret G [.ref s, .int (nI j)] S I J z Q := by
  have o3 := h.1.2.2.2
  obtain ⟨qq, hq20, h8, hk⟩ := h.2.2.2.2
  have e8 : (I s 8).toNatClampNeg = qq := by rw [h8, nI_clamp (by omega)]
  have ql := qix_lt (I s 8).toNatClampNeg j
  unfold sp_X6_regret
  dsimp only
  rw [nI_clamp (by omega)]
  refine ⟨hs, vin_of (by omega) (by omega), by rw [h8]; exact okN.nI (by omega) (by omega), ?_, fun q w f hq hw1 hw5 hf => ?_⟩
  · rw [e8, hk j hj 1 (by omega)]
    obtain ⟨w, h1, h2, -⟩ := (hw.2.2.2.2.2.2.2.2.2.2.1 j hj).1.1.ex
    rw [h2]
    exact vin_of (by omega) (by omega)
  · obtain ⟨g1, g2, g3, g4, g5⟩ := h.sry hw hj hq hw1 hw5 hf
    refine k _ w (abI f) (((dyF.rf.u (by omega)).u (by omega)).u (by omega)) g1 (fun i hi => ?_) g2 hw5 g3 g4 g5
    rw [u2_ne (by omega), u2_ne (by omega)]
    by_cases g : s + 32 + i = q
    · rw [g, u2_same]
      exact Or.inr rfl
    · rw [u2_ne g]
      exact hb i hi
theorem sleep_R {G : GT} {S : Sh} {I : IH} {J : JH} {z s n : Nat} {A : Nat → Int32} {Q : Post} (hs : stS S s) (h : stR I s A) (hw : wfS A) (hb : bqS I s) (hn : n ≤ 99) (hd : (A 6).toNatClampNeg + n ≤ 9999) (k : ∀ I', dyF s I I' J J → stR I' s (ngtN n A) → bqS I' s → Q none S I' J z) : sp_X6_sleep G [.ref s, .int (nI n)] S I J z Q := by
  have s6 : I s 6 = A 1 := h.2.1.2.1
  have o6 : okN (I s 6) 8 := by rw [s6]; exact h.1.2.1
  have l8 := o6.2
  unfold sp_X6_sleep
  dsimp only
  refine ⟨hs, o6, k _ (dyF.u ⟨fun a ha => ?_, fun a h1 h2 => ?_, fun _ _ => rfl⟩ (by omega)) (h.sleep hw hn hd) (fun i hi => ?_)⟩
  · funext j
    unfold slp
    rw [if_neg (by omega)]
  · funext j
    unfold slp
    rw [if_neg (by omega)]
  · rw [u2_ne (by omega)]
    unfold slp
    rw [if_neg (by omega)]
    exact hb i hi
