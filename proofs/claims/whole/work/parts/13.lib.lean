/-! loops as folds -/
def foldU {α : Type} (f : Nat → α → α) : Nat → Nat → α → α
  | _, 0, x => x
  | i, n + 1, x => foldU f (i + 1) n (f i x)
theorem foldU_0 {α : Type} (f : Nat → α → α) (i : Nat) (x : α) : foldU f i 0 x = x := rfl
theorem foldU_1 {α : Type} (f : Nat → α → α) (i n : Nat) (x : α) : foldU f i (n + 1) x = foldU f (i + 1) n (f i x) := rfl
theorem foldU_congr {α : Type} {f g : Nat → α → α} : ∀ {n i : Nat} {x : α}, (∀ j y, i ≤ j → j < i + n → f j y = g j y) → foldU f i n x = foldU g i n x
  | 0, _, _, _ => rfl
  | n + 1, i, x, h => by
    rw [foldU_1, foldU_1, h i x (Nat.le_refl i) (by omega)]
    exact foldU_congr (fun j y h1 h2 => h j y (by omega) (by omega))
theorem foldU_last {α : Type} (f : Nat → α → α) : ∀ (n i : Nat) (x : α), foldU f i (n + 1) x = f (i + n) (foldU f i n x)
  | 0, i, x => rfl
  | n + 1, i, x => by
    rw [foldU_1, foldU_last f n (i + 1) (f i x), foldU_1, show i + 1 + n = i + (n + 1) by omega]
theorem foldU_inv {α : Type} {f : Nat → α → α} (R : Nat → α → Prop) : ∀ {n i : Nat} {x : α}, R i x → (∀ j y, i ≤ j → j < i + n → R j y → R (j + 1) (f j y)) → R (i + n) (foldU f i n x)
  | 0, _, _, h, _ => h
  | n + 1, i, x, h, hs => by
    rw [foldU_1, show i + (n + 1) = i + 1 + n by omega]
    exact foldU_inv R (hs i x (Nat.le_refl i) (by omega) h) (fun j y h1 h2 => hs j y (by omega) (by omega))
theorem foldU_rel {α β : Type} {f : Nat → α → α} {g : Nat → β → β} (R : Nat → α → β → Prop) : ∀ {n i : Nat} {x : α} {y : β}, R i x y → (∀ j a b, i ≤ j → j < i + n → R j a b → R (j + 1) (f j a) (g j b)) → R (i + n) (foldU f i n x) (foldU g i n y)
  | 0, _, _, _, h, _ => h
  | n + 1, i, x, y, h, hs => by
    rw [foldU_1, foldU_1, show i + (n + 1) = i + 1 + n by omega]
    exact foldU_rel R (hs i x y (Nat.le_refl i) (by omega) h) (fun j a b h1 h2 => hs j a b (by omega) (by omega))
theorem nI_pin {n N : Nat} (h : n < N) (hN : N < 2 ^ 31) : vp_in (nI n) N = True := eq_true (vp_in_nI h hN)
theorem nI_lit (n : Nat) : (OfNat.ofNat n : Int32) = nI n := rfl
theorem nI_neg {n : Nat} (h : n < 2 ^ 31) : (nI n < 0) = False := eq_false (nI_pos h)
theorem nI_nonneg {n : Nat} (h : n < 2 ^ 31) : (0 ≤ nI n) = True := eq_true (nI_pos' h)
theorem nI_leE {a b : Nat} (ha : a < 2 ^ 31) (hb : b < 2 ^ 31) : (nI a ≤ nI b) = (a ≤ b) := propext (nI_leI ha hb)
theorem nI_ltE {a b : Nat} (ha : a < 2 ^ 31) (hb : b < 2 ^ 31) : (nI a < nI b) = (a < b) := propext (nI_ltI ha hb)
theorem nI_eqE {a b : Nat} (ha : a < 2 ^ 31) (hb : b < 2 ^ 31) : (nI a = nI b) = (a = b) := propext (nI_eq ha hb)
theorem fq_10 : ((1 : Int32) = 0) = False := by decide
theorem fq_01 : ((0 : Int32) = 1) = False := by decide
theorem fq_rr {α : Type} (a : α) : (a = a) = True := eq_true rfl
theorem u2_at {α : Type} (f : Nat → Nat → α) (a k : Nat) (v : α) (b j : Nat) : u2 f a k v b j = if b = a ∧ j = k then v else f b j := rfl
theorem u2_same {α : Type} (f : Nat → Nat → α) (a k : Nat) (v : α) : u2 f a k v a k = v := u2_eq
theorem u2_ca {α : Type} (f : Nat → Nat → α) (a k : Nat) (v : α) (b j : Nat) (h : b ≠ a) : u2 f a k v b j = f b j := by rw [u2_ne h]
theorem u2_ck {α : Type} (f : Nat → Nat → α) (a k : Nat) (v : α) (b j : Nat) (h : j ≠ k) : u2 f a k v b j = f b j := by
  unfold u2
  rw [if_neg (fun q => h q.2)]
/-- the shape of the reference, made at M -/
def mS (M : Nat) : Sh := (fun a => if a = M then 12 else if a = M + 1 then 14 else if a = M + 2 then 15 else if a = M + 3 then 14 else if a = M + 4 then 14 else if a = M + 5 then 15 else if a = M + 6 then 13 else if a = M + 7 then 13 else if a = M + 8 then 14 else if a = M + 9 then 14 else if a = M + 10 then 14 else if a = M + 11 then 15 else if a = M + 12 then 14 else if a = M + 13 then 14 else if a = M + 14 then 14 else 99, fun a => if a = M + 1 then 4694 else if a = M + 2 then 84 else if a = M + 3 then 4 else if a = M + 4 then 4 else if a = M + 5 then 240 else if a = M + 6 then 900 else if a = M + 7 then 900 else if a = M + 8 then 3 else if a = M + 9 then 5 else if a = M + 10 then 5 else if a = M + 11 then 13 else if a = M + 12 then 80 else if a = M + 13 then 5 else if a = M + 14 then 5 else 0, fun a f => if a = M then (match f with | 0 => some (M + 1) | 1 => some (M + 2) | 5 => some (M + 3) | 6 => some (M + 4) | 7 => some (M + 5) | 8 => some (M + 6) | 9 => some (M + 7) | 21 => some (M + 8) | 25 => some (M + 9) | 26 => some (M + 10) | 28 => some (M + 11) | 31 => some (M + 12) | 32 => some (M + 13) | 33 => some (M + 14) | _ => none) else none)
theorem mS_k (M : Nat) : (mS M).1 M = 12 := by simp [mS]
theorem mS_k1 (M : Nat) : (mS M).1 (M + 1) = 14 := by simp [mS]
theorem mS_n1 (M : Nat) : (mS M).2.1 (M + 1) = 4694 := by simp [mS]
theorem mS_r1 (M : Nat) : (mS M).2.2 M 0 = some (M + 1) := by simp [mS]
theorem mS_k2 (M : Nat) : (mS M).1 (M + 2) = 15 := by simp [mS]
theorem mS_n2 (M : Nat) : (mS M).2.1 (M + 2) = 84 := by simp [mS]
theorem mS_r2 (M : Nat) : (mS M).2.2 M 1 = some (M + 2) := by simp [mS]
theorem mS_k3 (M : Nat) : (mS M).1 (M + 3) = 14 := by simp [mS]
theorem mS_n3 (M : Nat) : (mS M).2.1 (M + 3) = 4 := by simp [mS]
theorem mS_r3 (M : Nat) : (mS M).2.2 M 5 = some (M + 3) := by simp [mS]
theorem mS_k4 (M : Nat) : (mS M).1 (M + 4) = 14 := by simp [mS]
theorem mS_n4 (M : Nat) : (mS M).2.1 (M + 4) = 4 := by simp [mS]
theorem mS_r4 (M : Nat) : (mS M).2.2 M 6 = some (M + 4) := by simp [mS]
theorem mS_k5 (M : Nat) : (mS M).1 (M + 5) = 15 := by simp [mS]
theorem mS_n5 (M : Nat) : (mS M).2.1 (M + 5) = 240 := by simp [mS]
theorem mS_r5 (M : Nat) : (mS M).2.2 M 7 = some (M + 5) := by simp [mS]
theorem mS_k6 (M : Nat) : (mS M).1 (M + 6) = 13 := by simp [mS]
theorem mS_n6 (M : Nat) : (mS M).2.1 (M + 6) = 900 := by simp [mS]
theorem mS_r6 (M : Nat) : (mS M).2.2 M 8 = some (M + 6) := by simp [mS]
theorem mS_k7 (M : Nat) : (mS M).1 (M + 7) = 13 := by simp [mS]
theorem mS_n7 (M : Nat) : (mS M).2.1 (M + 7) = 900 := by simp [mS]
theorem mS_r7 (M : Nat) : (mS M).2.2 M 9 = some (M + 7) := by simp [mS]
theorem mS_k8 (M : Nat) : (mS M).1 (M + 8) = 14 := by simp [mS]
theorem mS_n8 (M : Nat) : (mS M).2.1 (M + 8) = 3 := by simp [mS]
theorem mS_r8 (M : Nat) : (mS M).2.2 M 21 = some (M + 8) := by simp [mS]
theorem mS_k9 (M : Nat) : (mS M).1 (M + 9) = 14 := by simp [mS]
theorem mS_n9 (M : Nat) : (mS M).2.1 (M + 9) = 5 := by simp [mS]
theorem mS_r9 (M : Nat) : (mS M).2.2 M 25 = some (M + 9) := by simp [mS]
theorem mS_k10 (M : Nat) : (mS M).1 (M + 10) = 14 := by simp [mS]
theorem mS_n10 (M : Nat) : (mS M).2.1 (M + 10) = 5 := by simp [mS]
theorem mS_r10 (M : Nat) : (mS M).2.2 M 26 = some (M + 10) := by simp [mS]
theorem mS_k11 (M : Nat) : (mS M).1 (M + 11) = 15 := by simp [mS]
theorem mS_n11 (M : Nat) : (mS M).2.1 (M + 11) = 13 := by simp [mS]
theorem mS_r11 (M : Nat) : (mS M).2.2 M 28 = some (M + 11) := by simp [mS]
theorem mS_k12 (M : Nat) : (mS M).1 (M + 12) = 14 := by simp [mS]
theorem mS_n12 (M : Nat) : (mS M).2.1 (M + 12) = 80 := by simp [mS]
theorem mS_r12 (M : Nat) : (mS M).2.2 M 31 = some (M + 12) := by simp [mS]
theorem mS_k13 (M : Nat) : (mS M).1 (M + 13) = 14 := by simp [mS]
theorem mS_n13 (M : Nat) : (mS M).2.1 (M + 13) = 5 := by simp [mS]
theorem mS_r13 (M : Nat) : (mS M).2.2 M 32 = some (M + 13) := by simp [mS]
theorem mS_k14 (M : Nat) : (mS M).1 (M + 14) = 14 := by simp [mS]
theorem mS_n14 (M : Nat) : (mS M).2.1 (M + 14) = 5 := by simp [mS]
theorem mS_r14 (M : Nat) : (mS M).2.2 M 33 = some (M + 14) := by simp [mS]
/-- the shape of a street at s -/
def stS (S : Sh) (s : Nat) : Prop := (S.1 s = 6) ∧ (S.2.2 s 0 = some (s + 1)) ∧ (S.1 (s + 1) = 16) ∧ (S.2.2 s 1 = some (s + 2)) ∧ (S.1 (s + 2) = 17) ∧ (S.2.2 s 2 = some (s + 3)) ∧ (S.1 (s + 3) = 18) ∧ (S.2.2 s 3 = some (s + 4)) ∧ (S.1 (s + 4) = 9) ∧ (S.2.2 s 4 = some (s + 12)) ∧ (S.1 (s + 12) = 5) ∧ (S.2.1 (s + 1) = 6) ∧ (S.2.1 (s + 2) = 8) ∧ (S.2.1 (s + 3) = 20) ∧ (S.2.2 (s + 4) 0 = some (s + 5)) ∧ (S.1 (s + 5) = 14) ∧ (S.2.1 (s + 5) = 60) ∧ (S.2.2 (s + 4) 1 = some (s + 6)) ∧ (S.1 (s + 6) = 14) ∧ (S.2.1 (s + 6) = 60) ∧ (S.2.2 (s + 4) 2 = some (s + 7)) ∧ (S.1 (s + 7) = 14) ∧ (S.2.1 (s + 7) = 60) ∧ (S.2.2 (s + 4) 3 = some (s + 8)) ∧ (S.1 (s + 8) = 14) ∧ (S.2.1 (s + 8) = 60) ∧ (S.2.2 (s + 4) 4 = some (s + 9)) ∧ (S.1 (s + 9) = 14) ∧ (S.2.1 (s + 9) = 60) ∧ (S.2.2 (s + 4) 5 = some (s + 10)) ∧ (S.1 (s + 10) = 14) ∧ (S.2.1 (s + 10) = 60) ∧ (S.2.2 (s + 4) 6 = some (s + 11)) ∧ (S.1 (s + 11) = 14) ∧ (S.2.1 (s + 11) = 60) ∧ (S.2.2 (s + 12) 0 = some (s + 13)) ∧ (S.2.2 (s + 12) 1 = some (s + 16)) ∧ (S.2.2 (s + 12) 2 = some (s + 17)) ∧ (S.1 (s + 13) = 17) ∧ (S.2.1 (s + 13) = 2) ∧ (S.2.2 (s + 13) 0 = some (s + 14)) ∧ (S.2.2 (s + 13) 1 = some (s + 15)) ∧ (S.1 (s + 14) = 2) ∧ (S.1 (s + 15) = 2) ∧ (S.1 (s + 16) = 14) ∧ (S.2.1 (s + 16) = 2) ∧ (S.1 (s + 17) = 14) ∧ (S.2.1 (s + 17) = 2) ∧ (∀ i, i < 6 → S.2.2 (s + 1) i = some (s + 18 + i) ∧ S.1 (s + 18 + i) = 0) ∧ (∀ i, i < 8 → S.2.2 (s + 2) i = some (s + 24 + i) ∧ S.1 (s + 24 + i) = 2) ∧ (∀ i, i < 20 → S.2.2 (s + 3) i = some (s + 32 + i) ∧ S.1 (s + 32 + i) = 3)
theorem stS.k {S : Sh} {s : Nat} (h : stS S s) : S.1 s = 6 := h.1
theorem stS.r0 {S : Sh} {s : Nat} (h : stS S s) : S.2.2 s 0 = some (s + 1) := h.2.1
theorem stS.k1 {S : Sh} {s : Nat} (h : stS S s) : S.1 (s + 1) = 16 := h.2.2.1
theorem stS.r1 {S : Sh} {s : Nat} (h : stS S s) : S.2.2 s 1 = some (s + 2) := h.2.2.2.1
theorem stS.k2 {S : Sh} {s : Nat} (h : stS S s) : S.1 (s + 2) = 17 := h.2.2.2.2.1
theorem stS.r2 {S : Sh} {s : Nat} (h : stS S s) : S.2.2 s 2 = some (s + 3) := h.2.2.2.2.2.1
theorem stS.k3 {S : Sh} {s : Nat} (h : stS S s) : S.1 (s + 3) = 18 := h.2.2.2.2.2.2.1
theorem stS.r3 {S : Sh} {s : Nat} (h : stS S s) : S.2.2 s 3 = some (s + 4) := h.2.2.2.2.2.2.2.1
theorem stS.k4 {S : Sh} {s : Nat} (h : stS S s) : S.1 (s + 4) = 9 := h.2.2.2.2.2.2.2.2.1
theorem stS.r4 {S : Sh} {s : Nat} (h : stS S s) : S.2.2 s 4 = some (s + 12) := h.2.2.2.2.2.2.2.2.2.1
theorem stS.k12 {S : Sh} {s : Nat} (h : stS S s) : S.1 (s + 12) = 5 := h.2.2.2.2.2.2.2.2.2.2.1
theorem stS.n1 {S : Sh} {s : Nat} (h : stS S s) : S.2.1 (s + 1) = 6 := h.2.2.2.2.2.2.2.2.2.2.2.1
theorem stS.n2 {S : Sh} {s : Nat} (h : stS S s) : S.2.1 (s + 2) = 8 := h.2.2.2.2.2.2.2.2.2.2.2.2.1
theorem stS.n3 {S : Sh} {s : Nat} (h : stS S s) : S.2.1 (s + 3) = 20 := h.2.2.2.2.2.2.2.2.2.2.2.2.2.1
theorem stS.y0 {S : Sh} {s : Nat} (h : stS S s) : S.2.2 (s + 4) 0 = some (s + 5) := h.2.2.2.2.2.2.2.2.2.2.2.2.2.2.1
theorem stS.k5 {S : Sh} {s : Nat} (h : stS S s) : S.1 (s + 5) = 14 := h.2.2.2.2.2.2.2.2.2.2.2.2.2.2.2.1
theorem stS.n5 {S : Sh} {s : Nat} (h : stS S s) : S.2.1 (s + 5) = 60 := h.2.2.2.2.2.2.2.2.2.2.2.2.2.2.2.2.1
theorem stS.y1 {S : Sh} {s : Nat} (h : stS S s) : S.2.2 (s + 4) 1 = some (s + 6) := h.2.2.2.2.2.2.2.2.2.2.2.2.2.2.2.2.2.1
theorem stS.k6 {S : Sh} {s : Nat} (h : stS S s) : S.1 (s + 6) = 14 := h.2.2.2.2.2.2.2.2.2.2.2.2.2.2.2.2.2.2.1
theorem stS.n6 {S : Sh} {s : Nat} (h : stS S s) : S.2.1 (s + 6) = 60 := h.2.2.2.2.2.2.2.2.2.2.2.2.2.2.2.2.2.2.2.1
theorem stS.y2 {S : Sh} {s : Nat} (h : stS S s) : S.2.2 (s + 4) 2 = some (s + 7) := h.2.2.2.2.2.2.2.2.2.2.2.2.2.2.2.2.2.2.2.2.1
theorem stS.k7 {S : Sh} {s : Nat} (h : stS S s) : S.1 (s + 7) = 14 := h.2.2.2.2.2.2.2.2.2.2.2.2.2.2.2.2.2.2.2.2.2.1
theorem stS.n7 {S : Sh} {s : Nat} (h : stS S s) : S.2.1 (s + 7) = 60 := h.2.2.2.2.2.2.2.2.2.2.2.2.2.2.2.2.2.2.2.2.2.2.1
theorem stS.y3 {S : Sh} {s : Nat} (h : stS S s) : S.2.2 (s + 4) 3 = some (s + 8) := h.2.2.2.2.2.2.2.2.2.2.2.2.2.2.2.2.2.2.2.2.2.2.2.1
theorem stS.k8 {S : Sh} {s : Nat} (h : stS S s) : S.1 (s + 8) = 14 := h.2.2.2.2.2.2.2.2.2.2.2.2.2.2.2.2.2.2.2.2.2.2.2.2.1
theorem stS.n8 {S : Sh} {s : Nat} (h : stS S s) : S.2.1 (s + 8) = 60 := h.2.2.2.2.2.2.2.2.2.2.2.2.2.2.2.2.2.2.2.2.2.2.2.2.2.1
theorem stS.y4 {S : Sh} {s : Nat} (h : stS S s) : S.2.2 (s + 4) 4 = some (s + 9) := h.2.2.2.2.2.2.2.2.2.2.2.2.2.2.2.2.2.2.2.2.2.2.2.2.2.2.1
theorem stS.k9 {S : Sh} {s : Nat} (h : stS S s) : S.1 (s + 9) = 14 := h.2.2.2.2.2.2.2.2.2.2.2.2.2.2.2.2.2.2.2.2.2.2.2.2.2.2.2.1
theorem stS.n9 {S : Sh} {s : Nat} (h : stS S s) : S.2.1 (s + 9) = 60 := h.2.2.2.2.2.2.2.2.2.2.2.2.2.2.2.2.2.2.2.2.2.2.2.2.2.2.2.2.1
theorem stS.y5 {S : Sh} {s : Nat} (h : stS S s) : S.2.2 (s + 4) 5 = some (s + 10) := h.2.2.2.2.2.2.2.2.2.2.2.2.2.2.2.2.2.2.2.2.2.2.2.2.2.2.2.2.2.1
theorem stS.k10 {S : Sh} {s : Nat} (h : stS S s) : S.1 (s + 10) = 14 := h.2.2.2.2.2.2.2.2.2.2.2.2.2.2.2.2.2.2.2.2.2.2.2.2.2.2.2.2.2.2.1
theorem stS.n10 {S : Sh} {s : Nat} (h : stS S s) : S.2.1 (s + 10) = 60 := h.2.2.2.2.2.2.2.2.2.2.2.2.2.2.2.2.2.2.2.2.2.2.2.2.2.2.2.2.2.2.2.1
theorem stS.y6 {S : Sh} {s : Nat} (h : stS S s) : S.2.2 (s + 4) 6 = some (s + 11) := h.2.2.2.2.2.2.2.2.2.2.2.2.2.2.2.2.2.2.2.2.2.2.2.2.2.2.2.2.2.2.2.2.1
theorem stS.k11 {S : Sh} {s : Nat} (h : stS S s) : S.1 (s + 11) = 14 := h.2.2.2.2.2.2.2.2.2.2.2.2.2.2.2.2.2.2.2.2.2.2.2.2.2.2.2.2.2.2.2.2.2.1
theorem stS.n11 {S : Sh} {s : Nat} (h : stS S s) : S.2.1 (s + 11) = 60 := h.2.2.2.2.2.2.2.2.2.2.2.2.2.2.2.2.2.2.2.2.2.2.2.2.2.2.2.2.2.2.2.2.2.2.1
theorem stS.p0 {S : Sh} {s : Nat} (h : stS S s) : S.2.2 (s + 12) 0 = some (s + 13) := h.2.2.2.2.2.2.2.2.2.2.2.2.2.2.2.2.2.2.2.2.2.2.2.2.2.2.2.2.2.2.2.2.2.2.2.1
theorem stS.p1 {S : Sh} {s : Nat} (h : stS S s) : S.2.2 (s + 12) 1 = some (s + 16) := h.2.2.2.2.2.2.2.2.2.2.2.2.2.2.2.2.2.2.2.2.2.2.2.2.2.2.2.2.2.2.2.2.2.2.2.2.1
theorem stS.p2 {S : Sh} {s : Nat} (h : stS S s) : S.2.2 (s + 12) 2 = some (s + 17) := h.2.2.2.2.2.2.2.2.2.2.2.2.2.2.2.2.2.2.2.2.2.2.2.2.2.2.2.2.2.2.2.2.2.2.2.2.2.1
theorem stS.k13 {S : Sh} {s : Nat} (h : stS S s) : S.1 (s + 13) = 17 := h.2.2.2.2.2.2.2.2.2.2.2.2.2.2.2.2.2.2.2.2.2.2.2.2.2.2.2.2.2.2.2.2.2.2.2.2.2.2.1
theorem stS.n13 {S : Sh} {s : Nat} (h : stS S s) : S.2.1 (s + 13) = 2 := h.2.2.2.2.2.2.2.2.2.2.2.2.2.2.2.2.2.2.2.2.2.2.2.2.2.2.2.2.2.2.2.2.2.2.2.2.2.2.2.1
theorem stS.q0 {S : Sh} {s : Nat} (h : stS S s) : S.2.2 (s + 13) 0 = some (s + 14) := h.2.2.2.2.2.2.2.2.2.2.2.2.2.2.2.2.2.2.2.2.2.2.2.2.2.2.2.2.2.2.2.2.2.2.2.2.2.2.2.2.1
theorem stS.q1 {S : Sh} {s : Nat} (h : stS S s) : S.2.2 (s + 13) 1 = some (s + 15) := h.2.2.2.2.2.2.2.2.2.2.2.2.2.2.2.2.2.2.2.2.2.2.2.2.2.2.2.2.2.2.2.2.2.2.2.2.2.2.2.2.2.1
theorem stS.k14 {S : Sh} {s : Nat} (h : stS S s) : S.1 (s + 14) = 2 := h.2.2.2.2.2.2.2.2.2.2.2.2.2.2.2.2.2.2.2.2.2.2.2.2.2.2.2.2.2.2.2.2.2.2.2.2.2.2.2.2.2.2.1
theorem stS.k15 {S : Sh} {s : Nat} (h : stS S s) : S.1 (s + 15) = 2 := h.2.2.2.2.2.2.2.2.2.2.2.2.2.2.2.2.2.2.2.2.2.2.2.2.2.2.2.2.2.2.2.2.2.2.2.2.2.2.2.2.2.2.2.1
theorem stS.k16 {S : Sh} {s : Nat} (h : stS S s) : S.1 (s + 16) = 14 := h.2.2.2.2.2.2.2.2.2.2.2.2.2.2.2.2.2.2.2.2.2.2.2.2.2.2.2.2.2.2.2.2.2.2.2.2.2.2.2.2.2.2.2.2.1
theorem stS.n16 {S : Sh} {s : Nat} (h : stS S s) : S.2.1 (s + 16) = 2 := h.2.2.2.2.2.2.2.2.2.2.2.2.2.2.2.2.2.2.2.2.2.2.2.2.2.2.2.2.2.2.2.2.2.2.2.2.2.2.2.2.2.2.2.2.2.1
theorem stS.k17 {S : Sh} {s : Nat} (h : stS S s) : S.1 (s + 17) = 14 := h.2.2.2.2.2.2.2.2.2.2.2.2.2.2.2.2.2.2.2.2.2.2.2.2.2.2.2.2.2.2.2.2.2.2.2.2.2.2.2.2.2.2.2.2.2.2.1
theorem stS.n17 {S : Sh} {s : Nat} (h : stS S s) : S.2.1 (s + 17) = 2 := h.2.2.2.2.2.2.2.2.2.2.2.2.2.2.2.2.2.2.2.2.2.2.2.2.2.2.2.2.2.2.2.2.2.2.2.2.2.2.2.2.2.2.2.2.2.2.2.1
theorem stS.rH {S : Sh} {s : Nat} (h : stS S s) (i : Nat) (hi : i < 6) : S.2.2 (s + 1) i = some (s + 18 + i) := (h.2.2.2.2.2.2.2.2.2.2.2.2.2.2.2.2.2.2.2.2.2.2.2.2.2.2.2.2.2.2.2.2.2.2.2.2.2.2.2.2.2.2.2.2.2.2.2.2.1 i hi).1
theorem stS.kH {S : Sh} {s : Nat} (h : stS S s) (i : Nat) (hi : i < 6) : S.1 (s + 18 + i) = 0 := (h.2.2.2.2.2.2.2.2.2.2.2.2.2.2.2.2.2.2.2.2.2.2.2.2.2.2.2.2.2.2.2.2.2.2.2.2.2.2.2.2.2.2.2.2.2.2.2.2.1 i hi).2
theorem stS.rP {S : Sh} {s : Nat} (h : stS S s) (i : Nat) (hi : i < 8) : S.2.2 (s + 2) i = some (s + 24 + i) := (h.2.2.2.2.2.2.2.2.2.2.2.2.2.2.2.2.2.2.2.2.2.2.2.2.2.2.2.2.2.2.2.2.2.2.2.2.2.2.2.2.2.2.2.2.2.2.2.2.2.1 i hi).1
theorem stS.kP {S : Sh} {s : Nat} (h : stS S s) (i : Nat) (hi : i < 8) : S.1 (s + 24 + i) = 2 := (h.2.2.2.2.2.2.2.2.2.2.2.2.2.2.2.2.2.2.2.2.2.2.2.2.2.2.2.2.2.2.2.2.2.2.2.2.2.2.2.2.2.2.2.2.2.2.2.2.2.1 i hi).2
theorem stS.rQ {S : Sh} {s : Nat} (h : stS S s) (i : Nat) (hi : i < 20) : S.2.2 (s + 3) i = some (s + 32 + i) := (h.2.2.2.2.2.2.2.2.2.2.2.2.2.2.2.2.2.2.2.2.2.2.2.2.2.2.2.2.2.2.2.2.2.2.2.2.2.2.2.2.2.2.2.2.2.2.2.2.2.2 i hi).1
theorem stS.kQ {S : Sh} {s : Nat} (h : stS S s) (i : Nat) (hi : i < 20) : S.1 (s + 32 + i) = 3 := (h.2.2.2.2.2.2.2.2.2.2.2.2.2.2.2.2.2.2.2.2.2.2.2.2.2.2.2.2.2.2.2.2.2.2.2.2.2.2.2.2.2.2.2.2.2.2.2.2.2.2 i hi).2
