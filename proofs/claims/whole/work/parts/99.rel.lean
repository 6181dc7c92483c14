/-! the class's object against the reference's -/
/-- one street, kept or in use -/
def oneR (I : IH) (J : JH) (s : Nat) (A : Nat → Int32) (N : Nat → Int64) (b : Nat) : Prop := stR I s A ∧ nmsR J s N b (A 0).toNatClampNeg (A 1).toNatClampNeg ∧ yrR I s A ∧ bqS I s ∧ wfS A ∧ wfZ A
theorem yrR.mv {I I' : IH} {s s' : Nat} {A B : Nat → Int32} (h : yrR I s A) (h4 : ∀ k, 7 ≤ k → k ≤ 9 → I' (s' + 4) k = I (s + 4) k) (hr : ∀ m, A 11 = nI m → m ≤ 60 → ∀ a, 5 ≤ a → a < 12 → ∀ i, i < m → I' (s' + a) i = I (s + a) i) (h11 : B 11 = A 11) (hB : ∀ k, 226 ≤ k → k < 586 → B k = A k) : yrR I' s' B := by
  rcases h with ⟨a1, a2, a7⟩ | ⟨m, a1, a2, a3, a4, a5⟩
  · exact Or.inl ⟨h11.trans a1, (h4 9 (by omega) (by omega)).trans a2, (h4 7 (by omega) (by omega)).trans a7⟩
  · refine Or.inr ⟨m, h11.trans a1, a2, (h4 9 (by omega) (by omega)).trans a3, (h4 7 (by omega) (by omega)).trans a4, fun i hi => ?_⟩
    obtain ⟨r1, r2⟩ := a5 i hi
    exact ⟨r1.mv (fun a x1 x2 => hr m a1 a2 a x1 (by omega) i hi) (fun j hj _ => hB _ (by omega) (by omega)), r2.mv (hr m a1 a2 5 (by omega) (by omega) i hi) (hr m a1 a2 11 (by omega) (by omega) i hi) (hB _ (by omega) (by omega))⟩
theorem wfZ.cg {A B : Nat → Int32} (h : wfZ A) (hB : ∀ k, (k = 0 ∨ k = 1 ∨ k = 11 ∨ (226 ≤ k ∧ k < 586)) → B k = A k) : wfZ B := by
  rcases h with h | ⟨N, h1, h2⟩
  · exact Or.inl ((hB 11 (by omega)).trans h)
  · exact Or.inr ⟨N, (hB 11 (by omega)).trans h1, h2.cg3 (fun k hk => hB k (by omega))⟩
theorem oneR.mv {I I' : IH} {J J' : JH} {s b b' : Nat} {A B : Nat → Int32} {N N' : Nat → Int64} (h : oneR I J s A N b) (hI : ∀ a, s ≤ a → a < s + 52 → (a < s + 12 ∨ s + 18 ≤ a) → I' a = I a) (hJ : ∀ a, s + 18 ≤ a → a < s + 32 → J' a 0 = J a 0) (hA : ∀ k, k < 586 → B k = A k) (hN : ∀ k, k < 14 → N' (b' + k) = N (b + k)) : oneR I' J' s B N' b' := by
  obtain ⟨h1, h2, h3, h4, h5, h6⟩ := h
  have o0 := h1.1.1.2
  have o1 := h1.1.2.1.2
  refine ⟨(h1.mv (fun a x1 x2 x3 => hI a x1 x2 (by omega))).cg (fun k hk => hA k (by omega)), ?_, h3.mv (fun k _ _ => by rw [hI _ (by omega) (by omega) (by omega)]) (fun m _ _ a x1 x2 i _ => by rw [hI _ (by omega) (by omega) (by omega)]) (hA 11 (by omega)) (fun k x1 x2 => hA k x2), h4.mv (fun i hi => by rw [hI _ (by omega) (by omega) (by omega)]), h5.cg (fun k hk => hA k (by omega)), h6.cg (fun k hk => hA k (by omega))⟩
  rw [hA 0 (by omega), hA 1 (by omega)]
  refine ⟨fun i hi => ?_, fun i hi => ?_⟩
  · rw [hJ _ (by omega) (by omega), hN i (by omega)]
    exact h2.1 i hi
  · rw [hJ _ (by omega) (by omega), Nat.add_assoc b', hN _ (by omega), ← Nat.add_assoc]
    exact h2.2 i hi
def pA (X M : Nat) (I : IH) (J : JH) : Prop := I X 10 = I M 2 ∧ J X 13 = J M 3 ∧ J X 14 = J M 4 ∧ I X 11 = I M 16 ∧ I X 12 = I M 17
def pT (X M : Nat) (I : IH) (J : JH) : Prop := ∀ t, t < 4 → I (X + 2 + 2 * t) 1 = I (M + 4) t ∧ I (X + 2 + 2 * t) 2 = I (M + 3) t ∧ (∀ k, k < 60 → J (X + 2 + 2 * t + 1) k = J (M + 5) (60 * t + k)) ∧ (I (M + 4) t = -1 ∨ okN (I (M + 4) t) 60) ∧ okN (I (M + 3) t) 3
def pP (X M : Nat) (I : IH) (J : JH) : Prop := (∃ L, I X 8 = nI L ∧ I M 10 = nI L ∧ L ≤ 900) ∧ (∀ k, k < 900 → I (X + 10) k = I (M + 6) k ∧ byB (I (X + 10) k)) ∧ ∀ i, i < 24 → J (X + 12) i = rsv i
def pS (M s p : Nat) (I : IH) (J : JH) : Prop := oneR I J s (I (M + 1)) (J (M + 2)) 0 ∧ bqS I p
def pM (X M : Nat) (I : IH) (J : JH) : Prop := ∃ c, I X 9 = nI c ∧ I M 35 = nI c ∧ c ≤ 3 ∧ ∀ i, i < c → oneR I J (X + 14 + 52 * i) (fun k => I (M + 1) (594 * (i + 1) + k)) (J (M + 2)) (14 * (i + 1))
def pL (X M : Nat) (I : IH) : Prop := okL (I (M + 12)) ∧ I (X + 170) 10 = I M 34 ∧ (I M 34 = 0 ∨ (I M 34 = 1 ∧ I (X + 170) 5 = I (M + 14) 0 ∧ I (X + 170) 6 = I (M + 14) 1 ∧ I (X + 170) 7 = I (M + 14) 2 ∧ I (X + 170) 8 = I (M + 14) 3 ∧ I (X + 170) 9 = I (M + 14) 4 ∧ (I (M + 14) 4 = 0 ∨ I (M + 14) 4 = 1)))
theorem pT.mv {X M : Nat} {I I' : IH} {J J' : JH} (h : pT X M I J) (h1 : ∀ a, X + 2 ≤ a → a < X + 10 → I' a = I a ∧ J' a = J a) (h3 : I' (M + 3) = I (M + 3)) (h4 : I' (M + 4) = I (M + 4)) (h5 : J' (M + 5) = J (M + 5)) : pT X M I' J' := by
  intro t ht
  rw [h3, h4, h5, (h1 _ (by omega) (by omega)).1, (h1 (X + 2 + 2 * t + 1) (by omega) (by omega)).2]
  exact h t ht
theorem pP.mv {X M : Nat} {I I' : IH} {J J' : JH} (h : pP X M I J) (h1 : I' X 8 = I X 8) (h2 : I' M 10 = I M 10) (h3 : I' (X + 10) = I (X + 10)) (h4 : I' (M + 6) = I (M + 6)) (h5 : J' (X + 12) = J (X + 12)) : pP X M I' J' := by
  unfold pP
  rw [h1, h2, h3, h4, h5]
  exact h
theorem pS.mv {M s p : Nat} {I I' : IH} {J J' : JH} (h : pS M s p I J) (hI : ∀ a, s ≤ a → a < s + 52 → (a < s + 12 ∨ s + 18 ≤ a) → I' a = I a) (hJ : ∀ a, s + 18 ≤ a → a < s + 32 → J' a 0 = J a 0) (hp : ∀ a, p + 32 ≤ a → a < p + 52 → I' a = I a) (hA : ∀ k, k < 586 → I' (M + 1) k = I (M + 1) k) (hN : ∀ k, k < 14 → J' (M + 2) k = J (M + 2) k) : pS M s p I' J' := ⟨h.1.mv hI hJ hA (fun k hk => by rw [Nat.zero_add]; exact hN k hk), h.2.mv (fun i hi => by rw [hp _ (by omega) (by omega)])⟩
theorem pM.mv {X M : Nat} {I I' : IH} {J J' : JH} (h : pM X M I J) (h9 : I' X 9 = I X 9) (h35 : I' M 35 = I M 35) (hI : ∀ a, X + 14 ≤ a → a < X + 170 → I' a = I a ∧ J' a = J a) (hA : ∀ k, 594 ≤ k → k < 2376 → I' (M + 1) k = I (M + 1) k) (hN : ∀ k, 14 ≤ k → k < 56 → J' (M + 2) k = J (M + 2) k) : pM X M I' J' := by
  obtain ⟨c, a1, a2, a3, a4⟩ := h
  refine ⟨c, h9.trans a1, h35.trans a2, a3, fun i hi => (a4 i hi).mv (fun a x1 x2 _ => (hI a (by omega) (by omega)).1) (fun a x1 x2 => by rw [(hI a (by omega) (by omega)).2]) (fun k hk => hA _ (by omega) (by omega)) (fun k hk => hN _ (by omega) (by omega))⟩
theorem pL.mv {X M : Nat} {I I' : IH} (h : pL X M I) (h1 : I' (X + 170) = I (X + 170)) (h2 : I' M 34 = I M 34) (h3 : I' (M + 12) = I (M + 12)) (h4 : I' (M + 14) = I (M + 14)) : pL X M I' := by
  unfold pL
  rw [h1, h2, h3, h4]
  exact h
def relC (X M s p : Nat) (I : IH) (J : JH) : Prop := pA X M I J ∧ pT X M I J ∧ pP X M I J ∧ pS M s p I J ∧ pM X M I J ∧ pL X M I
def relR (X M : Nat) (S : Sh) (I : IH) (J : JH) (z : Nat) : Prop := ∃ s p, cpS S X s p ∧ rfS S M ∧ X + 278 ≤ M ∧ M + 15 ≤ z ∧ relC X M s p I J
/-- both answer alike, and stay alike -/
def SIM (G : GT) (X M : Nat) (fx fm : GT → Sp) (as : List Value) : Prop := ∀ S I J z, relR X M S I J z → fx G (.ref X :: as) S I J z (fun r S1 I1 J1 z1 => fm G (.ref M :: as) S1 I1 J1 z1 (fun r2 S2 I2 J2 z2 => r2 = r ∧ relR X M S2 I2 J2 z2 ∧ z2 ≤ z + 2))
/-- what asking may change -/
def qtF (X M s : Nat) (I I' : IH) (J J' : JH) : Prop := (∀ a, a ≠ X → a ≠ M → a ≠ M + 1 → (a < s + 12 ∨ s + 18 ≤ a) → (a < M + 7 ∨ M + 12 ≤ a) → a ≠ M + 13 → I' a = I a) ∧ (∀ k, k ≠ 10 → I' X k = I X k) ∧ (∀ k, (k = 10 ∨ k = 16 ∨ k = 17 ∨ 34 ≤ k) → I' M k = I M k) ∧ (∀ k, k < 2376 → I' (M + 1) k = I (M + 1) k) ∧ ∀ a, (a < s + 12 ∨ s + 18 ≤ a) → a ≠ M + 11 → J' a = J a
theorem relC.q {X M s p : Nat} {I I' : IH} {J J' : JH} (h : relC X M s p I J) (hX : X + 278 ≤ M) (hs : (s = X + 174 ∧ p = X + 226) ∨ (s = X + 226 ∧ p = X + 174)) (hq : qtF X M s I I' J J') (h10 : I' X 10 = I' M 2) : relC X M s p I' J' := by
  obtain ⟨h1, h2, h3, h4, h5, h6⟩ := h
  obtain ⟨q1, q2, q3, q4, q5⟩ := hq
  obtain ⟨a1, a2, a3, a4, a5⟩ := h1
  have eI : ∀ a, X < a → a < X + 278 → (a < s + 12 ∨ s + 18 ≤ a) → I' a = I a := fun a x1 x2 x3 => q1 a (by omega) (by omega) (by omega) x3 (by omega) (by omega)
  have eJ : ∀ a, a < X + 278 → (a < s + 12 ∨ s + 18 ≤ a) → J' a = J a := fun a x1 x3 => q5 a x3 (by omega)
  have mI : ∀ a, M + 1 < a → (a < M + 7 ∨ M + 12 ≤ a) → a ≠ M + 13 → I' a = I a := fun a x1 x2 x3 => q1 a (by omega) (by omega) (by omega) (by omega) x2 x3
  have mJ : ∀ a, M ≤ a → a ≠ M + 11 → J' a = J a := fun a x1 x2 => q5 a (by omega) x2
  refine ⟨⟨h10, ?_, ?_, ?_, ?_⟩, h2.mv (fun a x1 x2 => ⟨eI a (by omega) (by omega) (by omega), eJ a (by omega) (by omega)⟩) (mI _ (by omega) (by omega) (by omega)) (mI _ (by omega) (by omega) (by omega)) (mJ _ (by omega) (by omega)), h3.mv (q2 8 (by omega)) (q3 10 (by omega)) (eI _ (by omega) (by omega) (by omega)) (mI _ (by omega) (by omega) (by omega)) (eJ _ (by omega) (by omega)), h4.mv (fun a x1 x2 x3 => eI a (by omega) (by omega) x3) (fun a x1 x2 => by rw [eJ a (by omega) (by omega)]) (fun a x1 x2 => eI a (by omega) (by omega) (by omega)) (fun k hk => q4 k (by omega)) (fun k hk => by rw [mJ _ (by omega) (by omega)]), h5.mv (q2 9 (by omega)) (q3 35 (by omega)) (fun a x1 x2 => ⟨eI a (by omega) (by omega) (by omega), eJ a (by omega) (by omega)⟩) (fun k _ hk => q4 k hk) (fun k _ hk => by rw [mJ _ (by omega) (by omega)]), h6.mv (eI _ (by omega) (by omega) (by omega)) (q3 34 (by omega)) (mI _ (by omega) (by omega) (by omega)) (mI _ (by omega) (by omega) (by omega))⟩
  · rw [eJ X (by omega) (by omega), mJ M (by omega) (by omega)]; exact a2
  · rw [eJ X (by omega) (by omega), mJ M (by omega) (by omega)]; exact a3
  · rw [q2 11 (by omega), q3 16 (by omega)]; exact a4
  · rw [q2 12 (by omega), q3 17 (by omega)]; exact a5
/-- a status alone -/
theorem relC.st {X M s p : Nat} {I : IH} {J : JH} (h : relC X M s p I J) (hX : X + 278 ≤ M) (hs : (s = X + 174 ∧ p = X + 226) ∨ (s = X + 226 ∧ p = X + 174)) (v : Int32) : relC X M s p (u2 (u2 I X 10 v) M 2 v) J := by
  refine h.q hX hs ⟨fun a x1 x2 _ _ _ _ => by rw [u2_ne x2, u2_ne x1], fun k x1 => by rw [u2_ne (by omega), u2_ck _ _ _ _ _ _ x1], fun k x1 => by rw [u2_ck _ _ _ _ _ _ (by omega), u2_ne (by omega)], fun k _ => by rw [u2_ne (by omega), u2_ne (by omega)], fun _ _ _ => rfl⟩ ?_
  rw [u2_ne (by omega), u2_same, u2_same]
theorem relR.st {X M : Nat} {S : Sh} {I : IH} {J : JH} {z : Nat} (h : relR X M S I J z) (v : Int32) : relR X M S (u2 (u2 I X 10 v) M 2 v) J z := by
  obtain ⟨s, p, h1, h2, h3, h4, h5⟩ := h
  exact ⟨s, p, h1, h2, h3, h4, h5.st h3 h1.2.2.2.2.2.2.2 v⟩
