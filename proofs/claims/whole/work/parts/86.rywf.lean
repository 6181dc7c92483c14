/-! the reference: a year's text is well nested -/
/-- the years that are told, beside the counts of the street -/
def nB (A : Nat → Int32) : Nat → Int32 := fun k => if k < 226 then A k else A (2376 + k)
theorem nB_r (A : Nat → Int32) (i j : Nat) : nB A (226 + 6 * i + j) = A (2602 + 6 * i + j) := by
  unfold nB
  rw [if_neg (by omega)]
  congr 1
  omega
theorem nB_k (A : Nat → Int32) (i : Nat) : nB A (226 + 6 * i) = A (2602 + 6 * i) := nB_r A i 0
theorem nB_0 (A : Nat → Int32) : nB A 0 = A 0 := rfl
theorem nB_1 (A : Nat → Int32) : nB A 1 = A 1 := rfl
def opS (O : Nat → Int32) (d i : Nat) : Prop := ∃ j, j < d ∧ O j = nI i
def wfA (B : Nat → Int32) (k : Nat) : Prop := (B (226 + 6 * k) = 19 → okM (B (226 + 6 * k + 1)) 1 99) ∧ (B (226 + 6 * k) = 1822 → okN (B (226 + 6 * k + 1)) 7 ∧ (B (226 + 6 * k + 1)).toNatClampNeg < (B 1).toNatClampNeg) ∧ (B (226 + 6 * k) = 1806 → okN (B (226 + 6 * k + 1)) 5 ∧ (B (226 + 6 * k + 1)).toNatClampNeg < (B 0).toNatClampNeg)
abbrev plK (B : Nat → Int32) (k : Nat) : Prop := B (226 + 6 * k) = 12 ∨ B (226 + 6 * k) = 13 ∨ B (226 + 6 * k) = 14 ∨ B (226 + 6 * k) = 15 ∨ B (226 + 6 * k) = 16 ∨ B (226 + 6 * k) = 17 ∨ B (226 + 6 * k) = 21
/-- a row while some stand open -/
def wfM (B O : Nat → Int32) (d m k : Nat) : Prop := (B (226 + 6 * k) = 20 ∧ ∃ o, B (226 + 6 * k + 4) = nI o ∧ o < k ∧ opn B o ∧ ¬ opS O d o ∧ B (226 + 6 * o + 4) = nI k) ∨ (opn B k ∧ wfA B k ∧ (opS O d k ∨ ∃ p, B (226 + 6 * k + 4) = nI p ∧ k < p ∧ p < m ∧ B (226 + 6 * p) = 20 ∧ B (226 + 6 * p + 4) = nI k)) ∨ (plK B k ∧ wfO B (226 + 6 * k))
def yV (B O : Nat → Int32) (d m : Nat) : Prop := m ≤ 60 ∧ (∀ j, j < d → ∃ i, i < m ∧ O j = nI i ∧ opn B i) ∧ (∀ j j' i i', j < j' → j' < d → O j = nI i → O j' = nI i' → i < 60 → i' < 60 → i < i') ∧ (∀ k, k < m → wfM B O d m k) ∧ ∀ a b p, a < b → b < p → b < m → opn B a → ¬ opS O d a → B (226 + 6 * a + 4) = nI p → p < 60 → opn B b → ¬ opS O d b ∧ ∀ q, B (226 + 6 * b + 4) = nI q → q < 60 → q < p
theorem nIj {a b : Nat} (ha : a < 60) (hb : b < 60) (h : nI a = nI b) : a = b := (nI_eqE (a := a) (b := b) (by omega) (by omega)).mp h
theorem opn_20 {B : Nat → Int32} {k : Nat} (h : opn B k) : ¬ B (226 + 6 * k) = 20 := by
  intro q
  unfold opn at h
  rw [q] at h
  exact absurd h (by decide)
theorem wfM.op {B O : Nat → Int32} {d m k : Nat} (h : wfM B O d m k) (ho : opn B k) (hn : ¬ opS O d k) : ∃ p, B (226 + 6 * k + 4) = nI p ∧ k < p ∧ p < m ∧ B (226 + 6 * p) = 20 ∧ B (226 + 6 * p + 4) = nI k := by
  rcases h with ⟨a, -⟩ | ⟨-, -, q⟩ | ⟨a, -⟩
  · exact absurd a (opn_20 ho)
  · exact q.resolve_left hn
  · unfold opn at ho
    rcases a with a | a | a | a | a | a | a <;> (rw [a] at ho; exact absurd ho (by decide))
theorem yV.fin {B O : Nat → Int32} {m : Nat} (h : yV B O 0 m) : wfY B m := by
  obtain ⟨h1, -, -, h4, h5⟩ := h
  have hn : ∀ i, ¬ opS O 0 i := fun i ⟨j, hj, _⟩ => absurd hj (Nat.not_lt_zero _)
  refine ⟨h1, fun k hk => ?_, fun a b p q e1 e2 e3 e4 e5 e6 e7 e8 e9 => (h5 a b p e1 e2 e3 e4 (hn a) e6 e8 e5).2 q e7 e9⟩
  rcases h4 k hk with ⟨a1, o, a2, a3, a4, -, a6⟩ | ⟨a1, a2, a3⟩ | a
  · exact Or.inl ⟨a1, o, a2, a3, a4, a6⟩
  · exact Or.inr (Or.inl ⟨a1, a2.1, a2.2.1, a2.2.2, a3.resolve_left (hn k)⟩)
  · exact Or.inr (Or.inr a)
theorem yV.add {B B' O O' : Nat → Int32} {d d' m : Nat} (h : yV B O d m) (hm : m < 60) (e : ∀ i j, i < m → j < 6 → B' (226 + 6 * i + j) = B (226 + 6 * i + j)) (e0 : B' 0 = B 0) (e1 : B' 1 = B 1) (hr : (O' = O ∧ d' = d ∧ plK B' m ∧ wfO B' (226 + 6 * m)) ∨ (O' = uA O d (nI m) ∧ d' = d + 1 ∧ opn B' m ∧ wfA B' m)) : yV B' O' d' (m + 1) := by
  obtain ⟨h1, h2, h3, h4, h5⟩ := h
  have e' : ∀ i, i < m → B' (226 + 6 * i) = B (226 + 6 * i) := fun i hi => e i 0 hi (by omega)
  have eo : ∀ i, i < m → (opn B' i ↔ opn B i) := fun i hi => by
    unfold opn
    rw [e' i hi]
  have hS : ∀ i, i < m → (opS O' d' i ↔ opS O d i) := by
    intro i hi
    rcases hr with ⟨rfl, rfl, -, -⟩ | ⟨rfl, rfl, -, -⟩
    · exact Iff.rfl
    · constructor
      · rintro ⟨j, hj, ej⟩
        by_cases q : j = d
        · rw [q, uA_e] at ej
          exact absurd (nIj (by omega) (by omega) ej) (by omega)
        · exact ⟨j, by omega, by rw [← ej, uA_n _ _ _ _ q]⟩
      · rintro ⟨j, hj, ej⟩
        exact ⟨j, by omega, by rw [uA_n _ _ _ _ (by omega)]; exact ej⟩
  have hA : ∀ i, i < m → wfA B i → wfA B' i := fun i hi h => by
    unfold wfA at *
    rw [e' i hi, e i 1 hi (by omega), e0, e1]
    exact h
  have hM : ∀ i, i < m → wfM B' O' d' (m + 1) i := by
    intro i hi
    rcases h4 i hi with ⟨a1, o, a2, a3, a4, a5, a6⟩ | ⟨a1, a2, a3⟩ | ⟨a1, a2⟩
    · exact Or.inl ⟨(e' i hi).trans a1, o, (e i 4 hi (by omega)).trans a2, a3, (eo o (by omega)).mpr a4, fun q => a5 ((hS o (by omega)).mp q), (e o 4 (by omega) (by omega)).trans a6⟩
    · refine Or.inr (Or.inl ⟨(eo i hi).mpr a1, hA i hi a2, ?_⟩)
      rcases a3 with q | ⟨p, b1, b2, b3, b4, b5⟩
      · exact Or.inl ((hS i hi).mpr q)
      · exact Or.inr ⟨p, (e i 4 hi (by omega)).trans b1, b2, by omega, (e' p b3).trans b4, (e p 4 b3 (by omega)).trans b5⟩
    · refine Or.inr (Or.inr ⟨?_, ?_⟩)
      · unfold plK
        rw [e' i hi]
        exact a1
      · unfold wfO at *
        rw [e' i hi, e i 1 hi (by omega), e i 2 hi (by omega), e1]
        exact a2
  have hO : ∀ j i, j < d → O j = nI i → i < 60 → i < m := fun j i hj ej hi => by
    obtain ⟨i0, a, b, -⟩ := h2 j hj
    have := nIj (by omega) (by omega) (b.symm.trans ej)
    omega
  refine ⟨by omega, fun j hj => ?_, fun j j' i i' g1 g2 g3 g4 g5 g6 => ?_, fun k hk => ?_, fun a b p g1 g2 g3 g4 g5 g6 g7 g8 => ?_⟩
  · rcases hr with ⟨rfl, rfl, -, -⟩ | ⟨rfl, rfl, w, -⟩
    · obtain ⟨i, a, b, c⟩ := h2 j hj
      exact ⟨i, by omega, b, (eo i a).mpr c⟩
    · by_cases q : j = d
      · exact ⟨m, by omega, by rw [q, uA_e], w⟩
      · obtain ⟨i, a, b, c⟩ := h2 j (by omega)
        exact ⟨i, by omega, by rw [uA_n _ _ _ _ q]; exact b, (eo i a).mpr c⟩
  · rcases hr with ⟨rfl, rfl, -, -⟩ | ⟨rfl, rfl, -, -⟩
    · exact h3 j j' i i' g1 g2 g3 g4 g5 g6
    · rw [uA_n _ _ _ _ (by omega)] at g3
      by_cases q : j' = d
      · rw [q, uA_e] at g4
        have := nIj (by omega) (by omega) g4
        have := hO j i (by omega) g3 g5
        omega
      · rw [uA_n _ _ _ _ q] at g4
        exact h3 j j' i i' g1 (by omega) g3 g4 g5 g6
  · by_cases q : k = m
    · subst q
      rcases hr with ⟨rfl, rfl, w, v⟩ | ⟨rfl, rfl, w, v⟩
      · exact Or.inr (Or.inr ⟨w, v⟩)
      · exact Or.inr (Or.inl ⟨w, v, Or.inl ⟨d, by omega, uA_e _ _ _⟩⟩)
    · exact hM k (by omega)
  · have ha : a < m := by omega
    have na := fun q => g5 ((hS a ha).mpr q)
    have oa := (eo a ha).mp g4
    obtain ⟨p', b1, b2, b3, -, -⟩ := (h4 a ha).op oa na
    rw [e a 4 ha (by omega)] at g6
    have := nIj (by omega) (by omega) (b1.symm.trans g6)
    have hb : b < m := by omega
    have r := h5 a b p g1 g2 hb oa na g6 g7 ((eo b hb).mp g8)
    exact ⟨fun q => r.1 ((hS b hb).mp q), fun q hq => r.2 q (by rw [← e b 4 hb (by omega)]; exact hq)⟩
theorem yV.cl {B B' O : Nat → Int32} {d m o : Nat} (h : yV B O (d + 1) m) (hm : m < 60) (ho : O d = nI o) (hom : o < m) (e : ∀ i j, i < m → j < 6 → ¬ (i = o ∧ j = 4) → B' (226 + 6 * i + j) = B (226 + 6 * i + j)) (e0 : B' 0 = B 0) (e1 : B' 1 = B 1) (k20 : B' (226 + 6 * m) = 20) (p1 : B' (226 + 6 * m + 4) = nI o) (p2 : B' (226 + 6 * o + 4) = nI m) : yV B' O d (m + 1) := by
  obtain ⟨h1, h2, h3, h4, h5⟩ := h
  have e' : ∀ i, i < m → B' (226 + 6 * i) = B (226 + 6 * i) := fun i hi => e i 0 hi (by omega) (by omega)
  have eo : ∀ i, i < m → (opn B' i ↔ opn B i) := fun i hi => by
    unfold opn
    rw [e' i hi]
  obtain ⟨o', ho', eo', oo⟩ := h2 d (by omega)
  have := nIj (by omega) (by omega) (eo'.symm.trans ho)
  subst this
  have hS : ∀ i, i < m → (opS O d i ↔ opS O (d + 1) i ∧ i ≠ o') := by
    intro i hi
    constructor
    · rintro ⟨j, hj, ej⟩
      have := h3 j d i o' hj (by omega) ej ho (by omega) (by omega)
      exact ⟨⟨j, by omega, ej⟩, by omega⟩
    · rintro ⟨⟨j, hj, ej⟩, q⟩
      by_cases r : j = d
      · rw [r, ho] at ej
        exact absurd (nIj (by omega) (by omega) ej).symm q
      · exact ⟨j, by omega, ej⟩
  have so : opS O (d + 1) o' := ⟨d, by omega, ho⟩
  have no : ¬ opS O d o' := fun q => ((hS o' hom).mp q).2 rfl
  have n20 : ∀ i, B (226 + 6 * i) = 20 → i ≠ o' := by
    rintro i q rfl
    exact opn_20 oo q
  refine ⟨by omega, fun j hj => ?_, fun j j' i i' g1 g2 => h3 j j' i i' g1 (by omega), fun k hk => ?_, fun a b p g1 g2 g3 g4 g5 g6 g7 g8 => ?_⟩
  · obtain ⟨i, a, b, c⟩ := h2 j (by omega)
    exact ⟨i, by omega, b, (eo i a).mpr c⟩
  · by_cases q : k = m
    · subst q
      exact Or.inl ⟨k20, o', p1, hom, (eo o' hom).mpr oo, no, p2⟩
    · have hi : k < m := by omega
      rcases h4 k hi with ⟨a1, o, a2, a3, a4, a5, a6⟩ | ⟨a1, a2, a3⟩ | ⟨a1, a2⟩
      · have ko := n20 k a1
        have oo2 : o ≠ o' := by
          rintro rfl
          exact a5 so
        exact Or.inl ⟨(e' k hi).trans a1, o, (e k 4 hi (by omega) (by omega)).trans a2, a3, (eo o (by omega)).mpr a4, fun q => a5 ((hS o (by omega)).mp q).1, (e o 4 (by omega) (by omega) (by omega)).trans a6⟩
      · have hA : wfA B' k := by
          unfold wfA at *
          rw [e' k hi, e k 1 hi (by omega) (by omega), e0, e1]
          exact a2
        refine Or.inr (Or.inl ⟨(eo k hi).mpr a1, hA, ?_⟩)
        by_cases r : k = o'
        · subst r
          exact Or.inr ⟨m, p2, hom, by omega, k20, p1⟩
        · rcases a3 with q | ⟨p, b1, b2, b3, b4, b5⟩
          · exact Or.inl ((hS k hi).mpr ⟨q, r⟩)
          · have := n20 p b4
            exact Or.inr ⟨p, (e k 4 hi (by omega) (by omega)).trans b1, b2, by omega, (e' p b3).trans b4, (e p 4 b3 (by omega) (by omega)).trans b5⟩
      · refine Or.inr (Or.inr ⟨?_, ?_⟩)
        · unfold plK
          rw [e' k hi]
          exact a1
        · unfold wfO at *
          rw [e' k hi, e k 1 hi (by omega) (by omega), e k 2 hi (by omega) (by omega), e1]
          exact a2
  · have bm : b ≠ m := by
      rintro rfl
      exact opn_20 g8 k20
    have hb : b < m := by omega
    have ha : a < m := by omega
    have ob := (eo b hb).mp g8
    by_cases r : a = o'
    · subst r
      rw [p2] at g6
      have := nIj (by omega) g7 g6
      have nb : ¬ opS O (d + 1) b := by
        rintro ⟨j, hj, ej⟩
        by_cases r : j = d
        · rw [r, ho] at ej
          have := nIj (by omega) (by omega) ej
          omega
        · have := h3 j d b a (by omega) (by omega) ej ho (by omega) (by omega)
          omega
      refine ⟨fun q => nb ((hS b hb).mp q).1, fun q hq h6 => ?_⟩
      rw [e b 4 hb (by omega) (by omega)] at hq
      obtain ⟨p', b1, b2, b3, -, -⟩ := (h4 b hb).op ob nb
      have := nIj (by omega) h6 (b1.symm.trans hq)
      omega
    · have na : ¬ opS O (d + 1) a := fun q => g5 ((hS a ha).mpr ⟨q, r⟩)
      rw [e a 4 ha (by omega) (by omega)] at g6
      have w := h5 a b p g1 g2 hb ((eo a ha).mp g4) na g6 g7 ob
      have bo : b ≠ o' := by
        rintro rfl
        exact w.1 so
      refine ⟨fun q => w.1 ((hS b hb).mp q).1, fun q hq => w.2 q ?_⟩
      rw [← e b 4 hb (by omega) (by omega)]
      exact hq
theorem rg_1 {v hi : Int32} {b : Nat} (hh : hi = nI b) (hb : b < 10000) (h1 : 1 ≤ v) (h2 : v ≤ hi) : okM v 1 b := by
  subst hh
  obtain ⟨j, hj, rfl⟩ := nI_of (Int32.not_lt.mpr (Int32.le_trans (by decide : (0 : Int32) ≤ 1) h1))
  have l2 := (nI_leI hj (by omega)).mp h2
  have l1 := (nI_leI (a := 1) (by omega) hj).mp h1
  exact ⟨okN.nI l2 (by omega), by rw [nI_clamp hj]; exact l1⟩
theorem fn_ok {N : Nat → Int64} {b c : Nat} {v : Int64} {w : Int32} (h : w = fnH N b c v) (hw : ¬ w = -1) : ∃ j, j < c ∧ w = nI j := by
  rcases fnH_ok (N := N) (b := b) (c := c) (v := v) with g | ⟨j, h1, h2⟩
  · exact absurd (h.trans g) hw
  · exact ⟨j, h1, h.trans h2⟩
theorem pYo_V {T : Nat → Int32} {n r hm pm : Nat} {k : Int32} {s s' : PSt} (hk : s.1 r = k) (h : pYo T n k r hm pm s = .inr s') : (k = 12 → s'.1 r = 12 ∧ ∃ i j, i < pm ∧ j < pm ∧ s'.1 (r + 1) = nI i ∧ s'.1 (r + 2) = nI j) ∧ (k = 14 → s'.1 r = 14 ∧ okM (s'.1 (r + 1)) 1 20) ∧ (k = 19 → s'.1 r = 19 ∧ okM (s'.1 (r + 1)) 1 99) ∧ (k = 18 → s'.1 r = 1823 ∨ (s'.1 r = 1822 ∧ ∃ i, i < pm ∧ s'.1 (r + 1) = nI i) ∨ (s'.1 r = 1806 ∧ ∃ i, i < hm ∧ s'.1 (r + 1) = nI i)) ∧ (¬ k = 12 → ¬ k = 14 → ¬ k = 19 → ¬ k = 18 → s' = s) := by
  unfold pYo at h
  refine ⟨fun q => ?_, fun q => ?_, fun q => ?_, fun q => ?_, fun n1 n2 n3 n4 => ?_⟩
  · subst q
    rw [if_pos rfl] at h
    obtain ⟨s1, x1, h⟩ := pB_i h
    obtain ⟨v, hv, ev, nv⟩ := pFd_i x1
    obtain ⟨w, hw, ew, nw⟩ := pFd_i h
    obtain ⟨i, hi, rfl⟩ := fn_ok ev nv
    obtain ⟨j, hj, rfl⟩ := fn_ok ew nw
    rw [hw, hv]
    refine ⟨?_, i, j, hi, hj, ?_, ?_⟩
    · rw [uA_n _ _ _ _ (by omega), uA_n _ _ _ _ (by omega), hk]
    · rw [uA_n _ _ _ _ (by omega), uA_e]
    · rw [uA_e]
  · subst q
    rw [if_neg (by decide), if_pos rfl] at h
    obtain ⟨v, b, l1, l2⟩ := pNum_i h
    rw [b, uA_n _ _ _ _ (by omega), uA_e]
    exact ⟨hk, rg_1 (b := 20) rfl (by omega) l1 l2⟩
  · subst q
    rw [if_neg (by decide), if_neg (by decide), if_pos rfl] at h
    obtain ⟨v, b, l1, l2⟩ := pNum_i h
    rw [b, uA_n _ _ _ _ (by omega), uA_e]
    exact ⟨hk, rg_1 (b := 99) rfl (by omega) l1 l2⟩
  · subst q
    rw [if_neg (by decide), if_neg (by decide), if_neg (by decide), if_pos rfl] at h
    unfold pTs pE at h
    split at h
    · cases h
    · next g0 =>
      split at h
      · cases h
        exact Or.inl (uA_e _ _ _)
      · next g1 =>
        obtain ⟨s1, x1, h⟩ := pB_i h
        split at h
        · cases h
        · obtain ⟨v, b, -, -⟩ := pNum_i h
          split at x1
          · obtain ⟨w, hw, ew, nw⟩ := pFd_i x1
            obtain ⟨i, hi, rfl⟩ := fn_ok ew nw
            refine Or.inr (Or.inl ⟨?_, i, hi, ?_⟩)
            · rw [b, uA_n _ _ _ _ (by omega)]
              dsimp only
              rw [uA_n _ _ _ _ (by omega), hw, uA_n _ _ _ _ (by omega)]
              exact uA_e _ _ _
            · rw [b, uA_n _ _ _ _ (by omega)]
              dsimp only
              rw [uA_n _ _ _ _ (by omega), hw, uA_e]
          · obtain ⟨w, hw, ew, nw⟩ := pFd_i x1
            obtain ⟨i, hi, rfl⟩ := fn_ok ew nw
            refine Or.inr (Or.inr ⟨?_, i, hi, ?_⟩)
            · rw [b, uA_n _ _ _ _ (by omega)]
              dsimp only
              rw [uA_n _ _ _ _ (by omega), hw, uA_n _ _ _ _ (by omega)]
              exact uA_e _ _ _
            · rw [b, uA_n _ _ _ _ (by omega)]
              dsimp only
              rw [uA_n _ _ _ _ (by omega), hw, uA_e]
  · rw [if_neg n1, if_neg n2, if_neg n3, if_neg n4] at h
    cases h
    rfl
