/-! words: the component's numbers and the reference's -/
def wS : List Nat := [0, 5, 10, 15, 21, 26, 33, 36, 43, 49, 55, 59, 65, 69, 75, 81, 86, 90, 94, 99, 105, 113, 118, 122]
def wL : List Nat := [4, 4, 4, 5, 4, 6, 2, 6, 5, 5, 3, 5, 3, 5, 5, 4, 3, 3, 4, 5, 7, 4, 3, 4]
def pmW : List Nat := [0, 1, 2, 3, 5, 11, 4, 6, 7, 8, 9, 10, 12, 13, 14, 15, 16, 17, 18, 21, 22, 23, 19, 20]
def kwR (j : Nat) : List Nat := rvL (fun k => (kyB k).toNatClampNeg) (kS.getD j 0) (kL.getD j 0)
def wwR (i : Nat) : List Nat := rvL (fun k => (fq_wordsB.getD k 0).toNatClampNeg) (wS.getD i 0) (wL.getD i 0)
/-- the component's number of a word, by the reference's -/
def wk (x : Int32) : Int32 := if x = -1 then -1 else nI (pmW.getD x.toNatClampNeg 0)
theorem wwR_ok : ∀ i, i < 24 → (∀ c ∈ wwR i, 97 ≤ c ∧ c ≤ 122) ∧ (wwR i).length ≤ 8 ∧ 0 < eR 32 96 (wwR i) := by decide +kernel
theorem kwR_lt : ∀ j, j < 24 → ∀ t, t < kL.getD j 0 → kyB (kS.getD j 0 + t) = nI (kyB (kS.getD j 0 + t)).toNatClampNeg := by decide +kernel
def wrdV (W : List Nat) : Int32 := foldU (fun i a => if wwR i = W then nI i else a) 0 24 (-1)
theorem wrd_a : ∀ j, j < 24 → wrdV (kwR j) = wk (fndU (fun i => decide (kwR i = kwR j)) 0 24) := by decide +kernel
theorem ww_kw : ∀ i, i < 24 → ∃ j, j < 24 ∧ wwR i = kwR j := by decide +kernel
theorem fndU_no {p : Nat → Bool} : ∀ {n i : Nat}, (∀ j, i ≤ j → j < i + n → p j = false) → fndU p i n = -1
  | 0, _, _ => rfl
  | n + 1, i, h => by
    rw [fndU_1, h i (by omega) (by omega)]
    exact fndU_no (fun j h1 h2 => h j (by omega) (by omega))
theorem fndU_congr {p q : Nat → Bool} : ∀ {n i : Nat}, (∀ j, i ≤ j → j < i + n → p j = q j) → fndU p i n = fndU q i n
  | 0, _, _ => rfl
  | n + 1, i, h => by
    rw [fndU_1, fndU_1, h i (by omega) (by omega), fndU_congr (n := n) (i := i + 1) (fun j h1 h2 => h j (by omega) (by omega))]
theorem wrd_k (W : List Nat) : wrdV W = wk (fndU (fun j => decide (kwR j = W)) 0 24) := by
  by_cases h : ∃ j, j < 24 ∧ kwR j = W
  · obtain ⟨j, hj, rfl⟩ := h
    exact wrd_a j hj
  · rw [fndU_no (fun j _ hj => by simp only [decide_eq_false_iff_not]; exact fun q => h ⟨j, by omega, q⟩)]
    unfold wrdV
    refine foldU_inv (n := 24) (i := 0) (R := fun _ a => a = wk (-1)) rfl (fun i a _ hi ha => ?_)
    rw [if_neg, ha]
    intro q
    obtain ⟨j, hj, e⟩ := ww_kw i (by omega)
    exact h ⟨j, hj, e.symm.trans q⟩
/-- a word's row in the reader's table -/
def rsv (i : Nat) : Int64 := Int64.ofNat (eR 32 96 (wwR i))
theorem rsv_0 {i : Nat} (hi : i < 24) : ¬ rsv i = 0 := by
  intro h
  obtain ⟨h1, h2, h3⟩ := wwR_ok i hi
  have := i64_inj (b := 0) (eR_64 h1 h2).1 (by decide) h
  omega
theorem rsv_w {i : Nat} (hi : i < 24) {W : List Nat} (hW : ltR W) (hl : W.length ≤ 8) : rsv i = Int64.ofNat (eR 32 96 W) ↔ wwR i = W := by
  obtain ⟨h1, h2, h3⟩ := wwR_ok i hi
  exact ⟨fun h => eR_5 h1 hW (i64_inj (eR_64 h1 h2).1 (eR_64 hW hl).1 h), fun h => by unfold rsv; rw [h]⟩
/-- what is found in the table -/
theorem rsv_f {W : List Nat} (hW : ltR W) {m : Nat} (hm : W.length = m) {v : Int64} (hv : v = if 8 < m then 0 else Int64.ofNat (eR 32 96 W)) : foldU (fun i a => if rsv i = v then nI i else a) 0 24 (-1) = wrdV W := by
  unfold wrdV
  refine foldU_congr (fun i a _ hi => ?_)
  have hi : i < 24 := by omega
  subst hv
  by_cases h8 : 8 < m
  · rw [if_pos h8, if_neg (rsv_0 hi), if_neg]
    intro q
    have := (wwR_ok i hi).2.1
    rw [q] at this
    omega
  · rw [if_neg h8]
    by_cases q : wwR i = W
    · rw [if_pos ((rsv_w hi hW (by omega)).mpr q), if_pos q]
    · rw [if_neg (fun r => q ((rsv_w hi hW (by omega)).mp r)), if_neg q]
theorem mtP_w {T : Nat → Int32} {n f e j : Nat} (hj : j < 24) (h : ∀ t, t < e - f → byA T n (f + t) = nI (byA T n (f + t)).toNatClampNeg) : mtP T n f e j ↔ kwR j = wdR T n f (e - f) := by
  unfold kwR
  rw [rvL_iff]
  constructor
  · rintro ⟨h1, h2⟩
    exact ⟨h1, fun t ht => by rw [h2 t ht]⟩
  · rintro ⟨h1, h2⟩
    refine ⟨h1, fun t ht => ?_⟩
    rw [h t (by omega), kwR_lt j hj t ht, h2 t ht]
theorem kw_w {T : Nat → Int32} {n e : Nat} (hk : tK T n e = 2) (h : ∀ t, t < tE T n e - tF T n e → byA T n (tF T n e + t) = nI (byA T n (tF T n e + t)).toNatClampNeg) : wk (kwI T n e) = wrdV (wdR T n (tF T n e) (tE T n e - tF T n e)) := by
  rw [wrd_k]
  unfold kwI
  rw [if_pos hk]
  congr 1
  refine fndU_congr (fun j _ hj => ?_)
  have := mtP_w (T := T) (n := n) (f := tF T n e) (e := tE T n e) (j := j) (by omega) h
  exact decide_eq_decide.mpr this
/-- the number along digits, as the component has it -/
def dgC (T : Nat → Int32) (n : Nat) : Nat → Nat → Int32 → Int32
  | 0, _, v => v
  | f + 1, e, v => if isDg (byA T n e) then dgC T n f (e + 1) (v * 10 + T e - 48) else v
theorem mnI_s {x : Nat} (h : x < 100000) : mnI 100000 (nI x) = nI x := by
  unfold mnI
  exact if_pos ((nI_ltI (a := x) (b := 100000) (by omega) (by omega)).mpr h)
theorem dg_e {T : Nat → Int32} {n : Nat} (hT : ∀ k, k < n → byB (T k)) : ∀ (f e j v : Nat), v < 10 ^ j → j + (scn (fun c => decide (isDg c)) T n f e - e) ≤ 4 → dgC T n f e (nI v) = dgV T n f e (nI v)
  | 0, _, _, _, _, _ => rfl
  | f + 1, e, j, v, hv, hj => by
    unfold dgC dgV
    rw [scn_1] at hj
    by_cases h : isDg (byA T n e)
    · rw [if_pos h, if_pos h]
      rw [if_pos (decide_eq_true h)] at hj
      have le := scn_le (p := fun c => decide (isDg c)) (T := T) (n := n) f (e + 1)
      have hen : e < n := by
        by_cases q : e < n
        · exact q
        · rw [byA_o (by omega)] at h
          exact absurd h (by decide)
      have bA : byA T n e = T e &&& 255 := if_pos hen
      have hb := hT e hen
      rw [bA] at h
      obtain ⟨d1, d2, d3, d4⟩ := by_D hb ((by_K hb).2.1.mpr h)
      have hp : 10 ^ j ≤ 10 ^ 3 := Nat.pow_le_pow_right (by decide) (by omega)
      rw [bA, d4, d1]
      generalize (T e).toNatClampNeg = c at d2 d3
      have e1 : nI v * 10 + nI c - 48 = nI (v * 10 + c - 48) := by
        rw [show (10 : Int32) = nI 10 from rfl, nI_mul, nI_add, show (48 : Int32) = nI 48 from rfl, show v * 10 + c = (v * 10 + c - 48) + 48 by omega, ← nI_add, Int32.add_sub_cancel]
        congr 1
      have e2 : 10 * nI v + nI c - 48 = nI (v * 10 + c - 48) := by rw [Int32.mul_comm]; exact e1
      rw [e1, e2, mnI_s (by omega)]
      refine dg_e hT f (e + 1) (j + 1) _ ?_ (by omega)
      rw [Nat.pow_succ]
      omega
    · rw [if_neg h, if_neg h]
