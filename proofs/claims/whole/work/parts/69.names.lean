/-! names: letters in five bits and in eight; bytes -/
def eR (b o : Nat) : List Nat → Nat
  | [] => 0
  | c :: r => eR b o r * b + (c - o)
def ltR (r : List Nat) : Prop := ∀ c, c ∈ r → 97 ≤ c ∧ c ≤ 122
theorem ltR.t {c : Nat} {r : List Nat} (h : ltR (c :: r)) : ltR r := fun d hd => h d (List.mem_cons_of_mem _ hd)
theorem ltR.h {c : Nat} {r : List Nat} (h : ltR (c :: r)) : 97 ≤ c ∧ c ≤ 122 := h c List.mem_cons_self
theorem eR_5 : ∀ {r r' : List Nat}, ltR r → ltR r' → eR 32 96 r = eR 32 96 r' → r = r'
  | [], [], _, _, _ => rfl
  | [], c :: r, _, h, e => by
    have := h.h
    simp only [eR] at e
    omega
  | c :: r, [], h, _, e => by
    have := h.h
    simp only [eR] at e
    omega
  | c :: r, d :: r', h, h', e => by
    have a1 := h.h
    have a2 := h'.h
    simp only [eR] at e
    have e1 : eR 32 96 r = eR 32 96 r' := by omega
    rw [eR_5 h.t h'.t e1, show c = d by omega]
theorem eR_8 : ∀ {r r' : List Nat}, ltR r → ltR r' → eR 256 0 r = eR 256 0 r' → r = r'
  | [], [], _, _, _ => rfl
  | [], c :: r, _, h, e => by
    have := h.h
    simp only [eR] at e
    omega
  | c :: r, [], h, _, e => by
    have := h.h
    simp only [eR] at e
    omega
  | c :: r, d :: r', h, h', e => by
    have a1 := h.h
    have a2 := h'.h
    simp only [eR] at e
    have e1 : eR 256 0 r = eR 256 0 r' := by omega
    rw [eR_8 h.t h'.t e1, show c = d by omega]
theorem eR_lt5 : ∀ {r : List Nat}, ltR r → eR 32 96 r < 32 ^ r.length
  | [], _ => by simp [eR]
  | c :: r, h => by
    have a1 := h.h
    have := eR_lt5 h.t
    simp only [eR, List.length_cons, Nat.pow_succ]
    omega
theorem eR_lt8 : ∀ {r : List Nat}, ltR r → eR 256 0 r < 256 ^ r.length
  | [], _ => by simp [eR]
  | c :: r, h => by
    have a1 := h.h
    have := eR_lt8 h.t
    simp only [eR, List.length_cons, Nat.pow_succ]
    omega
theorem i64_inj {a b : Nat} (ha : a < 2 ^ 64) (hb : b < 2 ^ 64) (h : Int64.ofNat a = Int64.ofNat b) : a = b := by
  have h1 := congrArg (fun x => x.toBitVec.toNat) h
  simp only [Int64.toBitVec_ofNat', BitVec.toNat_ofNat] at h1
  omega
theorem eR_64 {r : List Nat} (h : ltR r) (hl : r.length ≤ 8) : eR 32 96 r < 2 ^ 64 ∧ eR 256 0 r < 2 ^ 64 := by
  have h1 := eR_lt5 h
  have h2 := eR_lt8 h
  have p1 : 32 ^ r.length ≤ 32 ^ 8 := Nat.pow_le_pow_right (by decide) hl
  have p2 : 256 ^ r.length ≤ 256 ^ 8 := Nat.pow_le_pow_right (by decide) hl
  have e1 : (32 : Nat) ^ 8 ≤ 2 ^ 64 := by decide
  have e2 : (256 : Nat) ^ 8 = 2 ^ 64 := by decide
  omega
/-- one name, five bits a letter and eight -/
def nmP (v5 v8 : Int64) : Prop := ∃ r : List Nat, ltR r ∧ r.length ≤ 8 ∧ v5 = Int64.ofNat (eR 32 96 r) ∧ v8 = Int64.ofNat (eR 256 0 r)
theorem nmP.iff {a b a' b' : Int64} (h : nmP a b) (h' : nmP a' b') : a = a' ↔ b = b' := by
  obtain ⟨r, h1, h2, rfl, rfl⟩ := h
  obtain ⟨r', h1', h2', rfl, rfl⟩ := h'
  constructor
  · intro e
    rw [eR_5 h1 h1' (i64_inj (eR_64 h1 h2).1 (eR_64 h1' h2').1 e)]
  · intro e
    rw [eR_8 h1 h1' (i64_inj (eR_64 h1 h2).2 (eR_64 h1' h2').2 e)]
theorem i64_5 (N d : Nat) (hd : d < 32) : Int64.ofNat N <<< ((5 : Int32).toInt64 &&& 63) ||| Int64.ofNat d = Int64.ofNat (N * 32 + d) := by
  have e0 : ((5 : Int32).toInt64 &&& 63) = 5 := by decide
  rw [e0, ← Int64.toBitVec_inj]
  apply BitVec.eq_of_toNat_eq
  have e1 : ((5 : Int64).toBitVec.smod 64) = 5#64 := by decide
  have e2 : N * 32 + d = (N <<< 5) ||| d := by
    rw [← Nat.shiftLeft_add_eq_or_of_lt (b := d) (i := 5) hd, Nat.shiftLeft_eq]
  simp only [Int64.toBitVec_or, Int64.toBitVec_shiftLeft, e1, Int64.toBitVec_ofNat', BitVec.toNat_or, BitVec.shiftLeft_eq', BitVec.toNat_shiftLeft, BitVec.toNat_ofNat]
  rw [e2, Nat.or_mod_two_pow]
  congr 1
  simp only [Nat.shiftLeft_eq, show (5 : Nat) % 2 ^ 64 = 5 from rfl]
  omega
theorem i64_8 (N d : Nat) (hd : d < 256) : Int64.ofNat N <<< ((8 : Int32).toInt64 &&& 63) ||| Int64.ofNat d = Int64.ofNat (N * 256 + d) := by
  have e0 : ((8 : Int32).toInt64 &&& 63) = 8 := by decide
  rw [e0, ← Int64.toBitVec_inj]
  apply BitVec.eq_of_toNat_eq
  have e1 : ((8 : Int64).toBitVec.smod 64) = 8#64 := by decide
  have e2 : N * 256 + d = (N <<< 8) ||| d := by
    rw [← Nat.shiftLeft_add_eq_or_of_lt (b := d) (i := 8) hd, Nat.shiftLeft_eq]
  simp only [Int64.toBitVec_or, Int64.toBitVec_shiftLeft, e1, Int64.toBitVec_ofNat', BitVec.toNat_or, BitVec.shiftLeft_eq', BitVec.toNat_shiftLeft, BitVec.toNat_ofNat]
  rw [e2, Nat.or_mod_two_pow]
  congr 1
  simp only [Nat.shiftLeft_eq, show (8 : Nat) % 2 ^ 64 = 8 from rfl]
  omega
/-- a byte as an int -/
def byB (c : Int32) : Prop := c.toInt8.toInt32 = c
theorem by_all {P : Int32 → Prop} (h : ∀ i : Fin 256, P (Int8.ofNat i.val).toInt32) {c : Int32} (hc : byB c) : P c := by
  have := h ⟨c.toInt8.toBitVec.toNat, c.toInt8.toBitVec.isLt⟩
  have e : Int8.ofNat c.toInt8.toBitVec.toNat = c.toInt8 := by
    rw [← Int8.toBitVec_inj, Int8.toBitVec_ofNat', BitVec.ofNat_toNat, BitVec.setWidth_eq]
  dsimp only at this
  rw [e, hc] at this
  exact this
abbrev byK (c : Int32) : Prop := ((97 ≤ c ∧ c ≤ 122) ↔ isSm (c &&& 255)) ∧ ((48 ≤ c ∧ c ≤ 57) ↔ isDg (c &&& 255)) ∧ ((c = 10 ∨ c = 32) ↔ isBl (c &&& 255)) ∧ ((c = 59 ∨ c = 60 ∨ c = 62 ∨ c = 61) ↔ isSg (c &&& 255)) ∧ (0 ≤ c → c &&& 255 = c) ∧ ¬ c &&& 255 = -1
theorem by_K {c : Int32} (hc : byB c) : byK c := by_all (P := byK) (by decide +kernel) hc
abbrev byL (c : Int32) : Prop := (97 ≤ c ∧ c ≤ 122) → (c - 97 + 1).toInt64 = Int64.ofNat (c.toNatClampNeg - 96) ∧ (c &&& 255).toInt64 = Int64.ofNat (c.toNatClampNeg - 0) ∧ 97 ≤ c.toNatClampNeg ∧ c.toNatClampNeg ≤ 122 ∧ c = nI c.toNatClampNeg ∧ c &&& 255 = c
theorem by_L {c : Int32} (hc : byB c) : byL c := by_all (P := byL) (by decide +kernel) hc
abbrev byD (c : Int32) : Prop := (48 ≤ c ∧ c ≤ 57) → c = nI c.toNatClampNeg ∧ 48 ≤ c.toNatClampNeg ∧ c.toNatClampNeg ≤ 57 ∧ c &&& 255 = c
theorem by_D {c : Int32} (hc : byB c) : byD c := by_all (P := byD) (by decide +kernel) hc
/-- the letters from f on, the last one first -/
def rvL (g : Nat → Nat) (f : Nat) : Nat → List Nat
  | 0 => []
  | m + 1 => g (f + m) :: rvL g f m
theorem rvL_len (g : Nat → Nat) (f : Nat) : ∀ m, (rvL g f m).length = m
  | 0 => rfl
  | m + 1 => by simp only [rvL, List.length_cons, rvL_len g f m]
theorem rvL_iff {g g' : Nat → Nat} {f f' : Nat} : ∀ {m m' : Nat}, rvL g f m = rvL g' f' m' ↔ m = m' ∧ ∀ t, t < m → g (f + t) = g' (f' + t)
  | 0, 0 => ⟨fun _ => ⟨rfl, fun t h => absurd h (Nat.not_lt_zero t)⟩, fun _ => rfl⟩
  | 0, m' + 1 => ⟨fun h => by simp [rvL] at h, fun h => by omega⟩
  | m + 1, 0 => ⟨fun h => by simp [rvL] at h, fun h => by omega⟩
  | m + 1, m' + 1 => by
    simp only [rvL, List.cons.injEq, rvL_iff (m := m) (m' := m')]
    constructor
    · rintro ⟨h1, rfl, h3⟩
      refine ⟨rfl, fun t ht => ?_⟩
      by_cases q : t = m
      · rw [q]; exact h1
      · exact h3 t (by omega)
    · rintro ⟨h1, h3⟩
      have h1 : m = m' := by omega
      subst h1
      exact ⟨h3 m (by omega), rfl, fun t ht => h3 t (by omega)⟩
theorem rvL_lt {g : Nat → Nat} {f : Nat} : ∀ {m : Nat}, (∀ t, t < m → 97 ≤ g (f + t) ∧ g (f + t) ≤ 122) → ltR (rvL g f m)
  | 0, _ => fun c h => by simp [rvL] at h
  | m + 1, h => fun c hc => by
    simp only [rvL, List.mem_cons] at hc
    rcases hc with rfl | hc
    · exact h m (by omega)
    · exact rvL_lt (fun t ht => h t (by omega)) c hc
/-- the letters of a word in a text -/
abbrev wdR (T : Nat → Int32) (n f m : Nat) : List Nat := rvL (fun k => (byA T n k).toNatClampNeg) f m
def n5R (T : Nat → Int32) (f m : Nat) : Int64 := foldU (fun k v => v <<< ((5 : Int32).toInt64 &&& 63) ||| (T k - 97 + 1).toInt64) f m 0
theorem n5R_e {T : Nat → Int32} {n f : Nat} : ∀ {m : Nat}, (∀ t, t < m → byB (T (f + t)) ∧ f + t < n ∧ isSm (byA T n (f + t))) → n5R T f m = Int64.ofNat (eR 32 96 (wdR T n f m)) ∧ nmR T n f m 0 = Int64.ofNat (eR 256 0 (wdR T n f m)) ∧ ltR (wdR T n f m)
  | 0, _ => ⟨rfl, rfl, fun c h => by simp [rvL] at h⟩
  | m + 1, h => by
    obtain ⟨e1, e2, e3⟩ := n5R_e (m := m) (fun t ht => h t (by omega))
    obtain ⟨b1, b2, b3⟩ := h m (by omega)
    have bA : byA T n (f + m) = T (f + m) &&& 255 := if_pos b2
    rw [bA] at b3
    obtain ⟨l1, l2, l3, l4, l5, l6⟩ := by_L b1 ((by_K b1).1.mpr b3)
    refine ⟨?_, ?_, ?_⟩
    · unfold n5R at e1 ⊢
      rw [foldU_last, e1, l1, i64_5 _ _ (by omega)]
      simp only [rvL, eR, bA, l6]
    · unfold nmR at e2 ⊢
      rw [foldU_last, e2, bA, l2, i64_8 _ _ (by omega)]
      simp only [rvL, eR, bA, l6]
    · intro c hc
      simp only [rvL, List.mem_cons] at hc
      rcases hc with rfl | hc
      · rw [bA, l6]
        exact ⟨l3, l4⟩
      · exact e3 c hc
