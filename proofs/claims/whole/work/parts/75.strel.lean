/-! a street of the class against a row of the reference -/
def cnK (A : Nat → Int32) : Prop := okN (A 0) 6 ∧ okN (A 1) 8 ∧ okN (A 2) 20
def stR (I : IH) (s : Nat) (A : Nat → Int32) : Prop := cnK A ∧ (I s 5 = A 0 ∧ I s 6 = A 1 ∧ I s 7 = A 2 ∧ I s 9 = A 3 ∧ I s 10 = A 4 ∧ I s 11 = A 5 ∧ I s 12 = A 6 ∧ I s 16 = A 7 ∧ I s 13 = A 8 ∧ I s 14 = A 9 ∧ I s 15 = A 10) ∧ (∀ h, h < (A 0).toNatClampNeg → I (s + 18 + h) 2 = A (12 + 3 * h) ∧ I (s + 18 + h) 1 = A (12 + 3 * h + 1) ∧ I (s + 18 + h) 3 = A (12 + 3 * h + 2)) ∧ (∀ p, p < (A 1).toNatClampNeg → ∀ j, j < 7 → I (s + 24 + p) (j + 1) = A (30 + 7 * p + j)) ∧ ∃ q, q < 20 ∧ I s 8 = nI q ∧ ∀ k, k < (A 2).toNatClampNeg → ∀ j, j < 7 → I (s + 32 + qix q k) j = A (86 + 7 * k + j)
theorem stR.mv {I I' : IH} {s : Nat} {A : Nat → Int32} (h : stR I s A) (h1 : ∀ a, s ≤ a → a < s + 52 → (a < s + 4 ∨ s + 18 ≤ a) → I' a = I a) : stR I' s A := by
  obtain ⟨o, a, b, c, q, hq, h8, hk⟩ := h
  have e0 : I' s = I s := h1 s (by omega) (by omega) (by omega)
  have o1 := o.1.2
  have o2 := o.2.1.2
  unfold stR
  rw [e0]
  refine ⟨o, a, fun i hi => ?_, fun p hp => ?_, q, hq, h8, fun k hk2 => ?_⟩
  · rw [h1 _ (by omega) (by omega) (by omega)]
    exact b i hi
  · rw [h1 _ (by omega) (by omega) (by omega)]
    exact c p hp
  · rw [h1 _ (by omega) (by have := qix_lt q k; omega) (by omega)]
    exact hk k hk2
/-- the row that is being told -/
abbrev slN (A : Nat → Int32) : Nat → Int32 := fun k => A (2376 + k)
/-- what is not yet told is as it is without -/
def zrs (A : Nat → Int32) : Prop := A 2378 = 0 ∧ A 2387 = -1 ∧ (∀ h, (A 2376).toNatClampNeg ≤ h → h < 6 → A (2388 + 3 * h + 2) = 0) ∧ ∀ p, (A 2377).toNatClampNeg ≤ p → p < 8 → A (2406 + 7 * p + 4) = 0 ∧ A (2406 + 7 * p + 5) = 0 ∧ A (2406 + 7 * p + 6) = 0
/-- the shape of a street's text -/
def txS (S : Sh) (X s t : Nat) : Prop := S.1 t = 7 ∧ S.2.2 t 0 = some (X + 11) ∧ S.2.2 t 1 = some s ∧ stS S s ∧ X + 13 ≤ s ∧ X + 13 ≤ t ∧ (t < s ∨ s + 52 ≤ t)
def csF (X s t : Nat) (I I' : IH) (J J' : JH) : Prop := (∀ a, a ≠ X + 11 → a ≠ t → ¬ (s ≤ a ∧ a < s + 32) → I' a = I a) ∧ ∀ a, a ≠ X + 11 → ¬ (s ≤ a ∧ a < s + 32) → J' a = J a
theorem csF.rf {X s t : Nat} {I : IH} {J : JH} : csF X s t I I J J := ⟨fun _ _ _ _ => rfl, fun _ _ _ => rfl⟩
theorem csF.tr {X s t : Nat} {I I1 I2 : IH} {J J1 J2 : JH} (h : csF X s t I I1 J J1) (g : csF X s t I1 I2 J1 J2) : csF X s t I I2 J J2 := ⟨fun a h1 h2 h3 => (g.1 a h1 h2 h3).trans (h.1 a h1 h2 h3), fun a h1 h2 => (g.2 a h1 h2).trans (h.2 a h1 h2)⟩
theorem csF.rd {X s t : Nat} {I I1 : IH} {J J1 : JH} (h : rdF (X + 11) I I1 J J1) : csF X s t I I1 J J1 := ⟨fun a h1 _ _ => h.1 a h1, fun a h1 _ => h.2.2 a h1⟩
theorem csF.rj {X s t n e : Nat} {I : IH} {J : JH} {T : Nat → Int32} {k : Int32} : csF X s t I (rej I X T n e k) J J := ⟨fun a h1 _ _ => by unfold rej; rw [u2_ne h1, u2_ne h1], fun _ _ _ => rfl⟩
theorem csF.s {X s t : Nat} {I I1 : IH} {J J1 : JH} (h : ∀ a, ¬ (s ≤ a ∧ a < s + 32) → I1 a = I a) (g : ∀ a, ¬ (s ≤ a ∧ a < s + 32) → J1 a = J a) : csF X s t I I1 J J1 := ⟨fun a _ _ h3 => h a h3, fun a _ h2 => g a h2⟩
/-- a street's text stands behind σ -/
def stH (X s : Nat) (I : IH) (J : JH) (T : Nat → Int32) (n : Nat) (σ : PSt) : Prop := rdH (X + 11) I J T n σ.2.2 ∧ σ.2.2 ≤ n ∧ stR I s (slN σ.1) ∧ nmsR J s σ.2.1 56 (σ.1 2376).toNatClampNeg (σ.1 2377).toNatClampNeg ∧ zrs σ.1 ∧ (I (s + 4) 9 = 0 ∧ I (s + 4) 7 = 0) ∧ I (X + 11) 10 = 0 ∧ I (X + 11) 11 = -1
def CES (X s t : Nat) (I : IH) (J : JH) (T : Nat → Int32) (n : Nat) (x : PR) (Q1 Q0 : IH → JH → Prop) : Prop := match x with
  | .inl f => ∀ I' J', csF X s t I I' J J' → I' (X + 11) 10 = f.1 → I' (X + 11) 11 = nI f.2 → Q0 I' J'
  | .inr σ => ∀ I' J', csF X s t I I' J J' → stH X s I' J' T n σ → I' t = I t → Q1 I' J'
theorem CES.on {X s t : Nat} {I I1 : IH} {J J1 : JH} {T : Nat → Int32} {n : Nat} {x : PR} {Q1 Q0 : IH → JH → Prop} (h : CES X s t I J T n x Q1 Q0) (hF : csF X s t I I1 J J1) (ht : I1 t = I t) : CES X s t I1 J1 T n x Q1 Q0 := by
  cases x with
  | inl f => exact fun I' J' a b c => h I' J' (hF.tr a) b c
  | inr σ => exact fun I' J' a b c => h I' J' (hF.tr a) b (c.trans ht)
theorem CES.fl {X s t : Nat} {I : IH} {J : JH} {T : Nat → Int32} {n e : Nat} {k : Int32} {Q1 Q0 : IH → JH → Prop} (h : CES X s t I J T n (pE T n k e) Q1 Q0) : Q0 (rej I X T n e k) J := by
  refine h _ _ csF.rj ?_ ?_
  · unfold rej
    rw [u2_ck _ _ _ _ _ _ (by omega), u2_same]
  · unfold rej
    rw [u2_same]
theorem stH.q {S : Sh} {X s n : Nat} {I : IH} {J : JH} {T : Nat → Int32} {σ : PSt} (h : stH X s I J T n σ) (hE : rdE S I J X T n) : rdQ S I J X T n σ.2.2 := ⟨hE, h.1, h.2.1⟩
theorem rdE.ct {S : Sh} {X s t n : Nat} {I I' : IH} {J J' : JH} {T : Nat → Int32} (h : rdE S I J X T n) (hx : txS S X s t) (hF : csF X s t I I' J J') : rdE S I' J' X T n := by
  obtain ⟨-, -, -, -, h1, h2, h3⟩ := hx
  exact h.mv (hF.1 _ (by omega) (by omega) (by omega)) (hF.2 _ (by omega) (by omega))
theorem nmsR.mv {J J' : JH} {s : Nat} {N : Nat → Int64} {b c5 c6 : Nat} (h : nmsR J s N b c5 c6) (h5 : c5 ≤ 6) (h6 : c6 ≤ 8) (hJ : ∀ a, s + 18 ≤ a → a < s + 32 → J' a 0 = J a 0) : nmsR J' s N b c5 c6 := ⟨fun i hi => by rw [hJ _ (by omega) (by omega)]; exact h.1 i hi, fun i hi => by rw [hJ _ (by omega) (by omega)]; exact h.2 i hi⟩
theorem stH.c {X s n : Nat} {I : IH} {J : JH} {T : Nat → Int32} {σ : PSt} (h : stH X s I J T n σ) : okN (σ.1 2376) 6 ∧ okN (σ.1 2377) 8 ∧ I s 5 = σ.1 2376 ∧ I s 6 = σ.1 2377 := ⟨h.2.2.1.1.1, h.2.2.1.1.2.1, h.2.2.1.2.1.1, h.2.2.1.2.1.2.1⟩
/-- the reader moves on -/
theorem stH.rd {X s n e : Nat} {I I' : IH} {J J' : JH} {T : Nat → Int32} {σ : PSt} (h : stH X s I J T n σ) (hs : X + 13 ≤ s) (hF : rdF (X + 11) I I' J J') (hH : rdH (X + 11) I' J' T n e) (he : e ≤ n) : stH X s I' J' T n (σ.1, σ.2.1, e) := by
  have c := h.c
  obtain ⟨-, -, h3, h4, h5, h6, h7, h8⟩ := h
  exact ⟨hH, he, h3.mv (fun a _ _ _ => hF.1 a (by omega)), h4.mv c.1.2 c.2.1.2 (fun a _ _ => by rw [hF.2.2 a (by omega)]), h5, by rw [hF.1 _ (by omega)]; exact h6, (hF.2.1 10 (by omega) (by omega) (by omega) (by omega) (by omega) (by omega)).trans h7, (hF.2.1 11 (by omega) (by omega) (by omega) (by omega) (by omega) (by omega)).trans h8⟩
/-- a number of the street told -/
theorem stR.sc {I : IH} {s : Nat} {A : Nat → Int32} (h : stR I s A) (k j : Nat) (v : Int32) (hk : (k = 9 ∧ j = 3) ∨ (k = 10 ∧ j = 4) ∨ (k = 11 ∧ j = 5) ∨ (k = 12 ∧ j = 6) ∨ (k = 16 ∧ j = 7) ∨ (k = 13 ∧ j = 8) ∨ (k = 14 ∧ j = 9) ∨ (k = 15 ∧ j = 10)) : stR (u2 I s k v) s (uA A j v) := by
  obtain ⟨o, ⟨a1, a2, a3, a4, a5, a6, a7, a8, a9, a10, a11⟩, b, c, q, hq, h8, hk2⟩ := h
  have j9 : 2 < j ∧ j < 11 := by omega
  have uo : ∀ i, (i < 3 ∨ 11 ≤ i) → uA A j v i = A i := fun i hi => uA_n _ _ _ _ (by omega)
  have u0 := uo 0 (by omega)
  have u1 := uo 1 (by omega)
  have u22 := uo 2 (by omega)
  unfold stR cnK
  rw [u0, u1, u22]
  refine ⟨o, ?_, fun i hi => ?_, fun p hp i hi => ?_, q, hq, ?_, fun k hk3 i hi => ?_⟩
  · rcases hk with ⟨rfl, rfl⟩ | ⟨rfl, rfl⟩ | ⟨rfl, rfl⟩ | ⟨rfl, rfl⟩ | ⟨rfl, rfl⟩ | ⟨rfl, rfl⟩ | ⟨rfl, rfl⟩ | ⟨rfl, rfl⟩ <;> simp [u2, uA, a1, a2, a3, a4, a5, a6, a7, a8, a9, a10, a11]
  · rw [u2_ne (by omega), uo _ (by omega), uo _ (by omega), uo _ (by omega)]
    exact b i hi
  · rw [u2_ne (by omega), uo _ (by omega)]
    exact c p hp i hi
  · rw [u2_ck _ _ _ _ _ _ (by omega)]
    exact h8
  · rw [u2_ne (by omega), uo _ (by omega)]
    exact hk2 k hk3 i hi
