/-! the reference: what is done -/
/-- the row of the reference while two quarrel: p, q people, x, y their houses -/
def wbR (A : Nat → Int32) (p q x y : Nat) (a0 a1 h0 h1 w0 w1 l0 l1 s9 s10 : Int32) : Nat → Int32 := fun k => if k = 30 + 7 * p + 5 then a0 else if k = 30 + 7 * q + 5 then a1 else if k = 30 + 7 * p + 6 then h0 else if k = 30 + 7 * q + 6 then h1 else if k = 12 + 3 * x then w0 else if k = 12 + 3 * y then w1 else if k = 12 + 3 * x + 2 then l0 else if k = 12 + 3 * y + 2 then l1 else if k = 9 then s9 else if k = 10 then s10 else A k
theorem wbR_a0 (A : Nat → Int32) (p q x y : Nat) (a0 a1 h0 h1 w0 w1 l0 l1 s9 s10 : Int32) (hp : p < 8) (hq : q < 8) (hx : x < 6) (hy : y < 6) (hpq : p ≠ q) (hxy : x ≠ y) : wbR A p q x y a0 a1 h0 h1 w0 w1 l0 l1 s9 s10 (30 + 7 * p + 5) = a0 := by
  unfold wbR
  grind
theorem wbR_a1 (A : Nat → Int32) (p q x y : Nat) (a0 a1 h0 h1 w0 w1 l0 l1 s9 s10 : Int32) (hp : p < 8) (hq : q < 8) (hx : x < 6) (hy : y < 6) (hpq : p ≠ q) (hxy : x ≠ y) : wbR A p q x y a0 a1 h0 h1 w0 w1 l0 l1 s9 s10 (30 + 7 * q + 5) = a1 := by
  unfold wbR
  grind
theorem wbR_h0 (A : Nat → Int32) (p q x y : Nat) (a0 a1 h0 h1 w0 w1 l0 l1 s9 s10 : Int32) (hp : p < 8) (hq : q < 8) (hx : x < 6) (hy : y < 6) (hpq : p ≠ q) (hxy : x ≠ y) : wbR A p q x y a0 a1 h0 h1 w0 w1 l0 l1 s9 s10 (30 + 7 * p + 6) = h0 := by
  unfold wbR
  grind
theorem wbR_h1 (A : Nat → Int32) (p q x y : Nat) (a0 a1 h0 h1 w0 w1 l0 l1 s9 s10 : Int32) (hp : p < 8) (hq : q < 8) (hx : x < 6) (hy : y < 6) (hpq : p ≠ q) (hxy : x ≠ y) : wbR A p q x y a0 a1 h0 h1 w0 w1 l0 l1 s9 s10 (30 + 7 * q + 6) = h1 := by
  unfold wbR
  grind
theorem wbR_w0 (A : Nat → Int32) (p q x y : Nat) (a0 a1 h0 h1 w0 w1 l0 l1 s9 s10 : Int32) (hp : p < 8) (hq : q < 8) (hx : x < 6) (hy : y < 6) (hpq : p ≠ q) (hxy : x ≠ y) : wbR A p q x y a0 a1 h0 h1 w0 w1 l0 l1 s9 s10 (12 + 3 * x) = w0 := by
  unfold wbR
  grind
theorem wbR_w1 (A : Nat → Int32) (p q x y : Nat) (a0 a1 h0 h1 w0 w1 l0 l1 s9 s10 : Int32) (hp : p < 8) (hq : q < 8) (hx : x < 6) (hy : y < 6) (hpq : p ≠ q) (hxy : x ≠ y) : wbR A p q x y a0 a1 h0 h1 w0 w1 l0 l1 s9 s10 (12 + 3 * y) = w1 := by
  unfold wbR
  grind
theorem wbR_l0 (A : Nat → Int32) (p q x y : Nat) (a0 a1 h0 h1 w0 w1 l0 l1 s9 s10 : Int32) (hp : p < 8) (hq : q < 8) (hx : x < 6) (hy : y < 6) (hpq : p ≠ q) (hxy : x ≠ y) : wbR A p q x y a0 a1 h0 h1 w0 w1 l0 l1 s9 s10 (12 + 3 * x + 2) = l0 := by
  unfold wbR
  grind
theorem wbR_l1 (A : Nat → Int32) (p q x y : Nat) (a0 a1 h0 h1 w0 w1 l0 l1 s9 s10 : Int32) (hp : p < 8) (hq : q < 8) (hx : x < 6) (hy : y < 6) (hpq : p ≠ q) (hxy : x ≠ y) : wbR A p q x y a0 a1 h0 h1 w0 w1 l0 l1 s9 s10 (12 + 3 * y + 2) = l1 := by
  unfold wbR
  grind
theorem wbR_s9 (A : Nat → Int32) (p q x y : Nat) (a0 a1 h0 h1 w0 w1 l0 l1 s9 s10 : Int32) (hp : p < 8) (hq : q < 8) (hx : x < 6) (hy : y < 6) (hpq : p ≠ q) (hxy : x ≠ y) : wbR A p q x y a0 a1 h0 h1 w0 w1 l0 l1 s9 s10 (9) = s9 := by
  unfold wbR
  grind
theorem wbR_s10 (A : Nat → Int32) (p q x y : Nat) (a0 a1 h0 h1 w0 w1 l0 l1 s9 s10 : Int32) (hp : p < 8) (hq : q < 8) (hx : x < 6) (hy : y < 6) (hpq : p ≠ q) (hxy : x ≠ y) : wbR A p q x y a0 a1 h0 h1 w0 w1 l0 l1 s9 s10 (10) = s10 := by
  unfold wbR
  grind
theorem wbR_o1p (A : Nat → Int32) (p q x y : Nat) (a0 a1 h0 h1 w0 w1 l0 l1 s9 s10 : Int32) (hp : p < 8) (hq : q < 8) (hx : x < 6) (hy : y < 6) (hpq : p ≠ q) (hxy : x ≠ y) : wbR A p q x y a0 a1 h0 h1 w0 w1 l0 l1 s9 s10 (30 + 7 * p + 1) = A (30 + 7 * p + 1) := by
  unfold wbR
  grind
theorem wbR_o1q (A : Nat → Int32) (p q x y : Nat) (a0 a1 h0 h1 w0 w1 l0 l1 s9 s10 : Int32) (hp : p < 8) (hq : q < 8) (hx : x < 6) (hy : y < 6) (hpq : p ≠ q) (hxy : x ≠ y) : wbR A p q x y a0 a1 h0 h1 w0 w1 l0 l1 s9 s10 (30 + 7 * q + 1) = A (30 + 7 * q + 1) := by
  unfold wbR
  grind
theorem wbR_o2p (A : Nat → Int32) (p q x y : Nat) (a0 a1 h0 h1 w0 w1 l0 l1 s9 s10 : Int32) (hp : p < 8) (hq : q < 8) (hx : x < 6) (hy : y < 6) (hpq : p ≠ q) (hxy : x ≠ y) : wbR A p q x y a0 a1 h0 h1 w0 w1 l0 l1 s9 s10 (30 + 7 * p + 2) = A (30 + 7 * p + 2) := by
  unfold wbR
  grind
theorem wbR_o2q (A : Nat → Int32) (p q x y : Nat) (a0 a1 h0 h1 w0 w1 l0 l1 s9 s10 : Int32) (hp : p < 8) (hq : q < 8) (hx : x < 6) (hy : y < 6) (hpq : p ≠ q) (hxy : x ≠ y) : wbR A p q x y a0 a1 h0 h1 w0 w1 l0 l1 s9 s10 (30 + 7 * q + 2) = A (30 + 7 * q + 2) := by
  unfold wbR
  grind
theorem wbR_o3p (A : Nat → Int32) (p q x y : Nat) (a0 a1 h0 h1 w0 w1 l0 l1 s9 s10 : Int32) (hp : p < 8) (hq : q < 8) (hx : x < 6) (hy : y < 6) (hpq : p ≠ q) (hxy : x ≠ y) : wbR A p q x y a0 a1 h0 h1 w0 w1 l0 l1 s9 s10 (30 + 7 * p + 3) = A (30 + 7 * p + 3) := by
  unfold wbR
  grind
theorem wbR_o3q (A : Nat → Int32) (p q x y : Nat) (a0 a1 h0 h1 w0 w1 l0 l1 s9 s10 : Int32) (hp : p < 8) (hq : q < 8) (hx : x < 6) (hy : y < 6) (hpq : p ≠ q) (hxy : x ≠ y) : wbR A p q x y a0 a1 h0 h1 w0 w1 l0 l1 s9 s10 (30 + 7 * q + 3) = A (30 + 7 * q + 3) := by
  unfold wbR
  grind
theorem wbR_o0p (A : Nat → Int32) (p q x y : Nat) (a0 a1 h0 h1 w0 w1 l0 l1 s9 s10 : Int32) (hp : p < 8) (hq : q < 8) (hx : x < 6) (hy : y < 6) (hpq : p ≠ q) (hxy : x ≠ y) : wbR A p q x y a0 a1 h0 h1 w0 w1 l0 l1 s9 s10 (30 + 7 * p) = A (30 + 7 * p) := by
  unfold wbR
  grind
theorem wbR_o0q (A : Nat → Int32) (p q x y : Nat) (a0 a1 h0 h1 w0 w1 l0 l1 s9 s10 : Int32) (hp : p < 8) (hq : q < 8) (hx : x < 6) (hy : y < 6) (hpq : p ≠ q) (hxy : x ≠ y) : wbR A p q x y a0 a1 h0 h1 w0 w1 l0 l1 s9 s10 (30 + 7 * q) = A (30 + 7 * q) := by
  unfold wbR
  grind
theorem wbR_o3 (A : Nat → Int32) (p q x y : Nat) (a0 a1 h0 h1 w0 w1 l0 l1 s9 s10 : Int32) (hp : p < 8) (hq : q < 8) (hx : x < 6) (hy : y < 6) (hpq : p ≠ q) (hxy : x ≠ y) : wbR A p q x y a0 a1 h0 h1 w0 w1 l0 l1 s9 s10 (3) = A (3) := by
  unfold wbR
  grind
theorem wbR_o7 (A : Nat → Int32) (p q x y : Nat) (a0 a1 h0 h1 w0 w1 l0 l1 s9 s10 : Int32) (hp : p < 8) (hq : q < 8) (hx : x < 6) (hy : y < 6) (hpq : p ≠ q) (hxy : x ≠ y) : wbR A p q x y a0 a1 h0 h1 w0 w1 l0 l1 s9 s10 (7) = A (7) := by
  unfold wbR
  grind
theorem wbR_o6 (A : Nat → Int32) (p q x y : Nat) (a0 a1 h0 h1 w0 w1 l0 l1 s9 s10 : Int32) (hp : p < 8) (hq : q < 8) (hx : x < 6) (hy : y < 6) (hpq : p ≠ q) (hxy : x ≠ y) : wbR A p q x y a0 a1 h0 h1 w0 w1 l0 l1 s9 s10 (6) = A (6) := by
  unfold wbR
  grind
theorem wbR_o2 (A : Nat → Int32) (p q x y : Nat) (a0 a1 h0 h1 w0 w1 l0 l1 s9 s10 : Int32) (hp : p < 8) (hq : q < 8) (hx : x < 6) (hy : y < 6) (hpq : p ≠ q) (hxy : x ≠ y) : wbR A p q x y a0 a1 h0 h1 w0 w1 l0 l1 s9 s10 (2) = A (2) := by
  unfold wbR
  grind
theorem wbR_ua0 (A : Nat → Int32) (p q x y : Nat) (a0 a1 h0 h1 w0 w1 l0 l1 s9 s10 v : Int32) (hp : p < 8) (hq : q < 8) (hx : x < 6) (hy : y < 6) (hpq : p ≠ q) (hxy : x ≠ y) : uA (wbR A p q x y a0 a1 h0 h1 w0 w1 l0 l1 s9 s10) (30 + 7 * p + 5) v = wbR A p q x y v a1 h0 h1 w0 w1 l0 l1 s9 s10 := by
  funext k
  unfold uA wbR
  grind (splits := 20)
theorem wbR_ua1 (A : Nat → Int32) (p q x y : Nat) (a0 a1 h0 h1 w0 w1 l0 l1 s9 s10 v : Int32) (hp : p < 8) (hq : q < 8) (hx : x < 6) (hy : y < 6) (hpq : p ≠ q) (hxy : x ≠ y) : uA (wbR A p q x y a0 a1 h0 h1 w0 w1 l0 l1 s9 s10) (30 + 7 * q + 5) v = wbR A p q x y a0 v h0 h1 w0 w1 l0 l1 s9 s10 := by
  funext k
  unfold uA wbR
  grind (splits := 20)
theorem wbR_uh0 (A : Nat → Int32) (p q x y : Nat) (a0 a1 h0 h1 w0 w1 l0 l1 s9 s10 v : Int32) (hp : p < 8) (hq : q < 8) (hx : x < 6) (hy : y < 6) (hpq : p ≠ q) (hxy : x ≠ y) : uA (wbR A p q x y a0 a1 h0 h1 w0 w1 l0 l1 s9 s10) (30 + 7 * p + 6) v = wbR A p q x y a0 a1 v h1 w0 w1 l0 l1 s9 s10 := by
  funext k
  unfold uA wbR
  grind (splits := 20)
theorem wbR_uh1 (A : Nat → Int32) (p q x y : Nat) (a0 a1 h0 h1 w0 w1 l0 l1 s9 s10 v : Int32) (hp : p < 8) (hq : q < 8) (hx : x < 6) (hy : y < 6) (hpq : p ≠ q) (hxy : x ≠ y) : uA (wbR A p q x y a0 a1 h0 h1 w0 w1 l0 l1 s9 s10) (30 + 7 * q + 6) v = wbR A p q x y a0 a1 h0 v w0 w1 l0 l1 s9 s10 := by
  funext k
  unfold uA wbR
  grind (splits := 20)
theorem wbR_uw0 (A : Nat → Int32) (p q x y : Nat) (a0 a1 h0 h1 w0 w1 l0 l1 s9 s10 v : Int32) (hp : p < 8) (hq : q < 8) (hx : x < 6) (hy : y < 6) (hpq : p ≠ q) (hxy : x ≠ y) : uA (wbR A p q x y a0 a1 h0 h1 w0 w1 l0 l1 s9 s10) (12 + 3 * x) v = wbR A p q x y a0 a1 h0 h1 v w1 l0 l1 s9 s10 := by
  funext k
  unfold uA wbR
  grind (splits := 20)
theorem wbR_uw1 (A : Nat → Int32) (p q x y : Nat) (a0 a1 h0 h1 w0 w1 l0 l1 s9 s10 v : Int32) (hp : p < 8) (hq : q < 8) (hx : x < 6) (hy : y < 6) (hpq : p ≠ q) (hxy : x ≠ y) : uA (wbR A p q x y a0 a1 h0 h1 w0 w1 l0 l1 s9 s10) (12 + 3 * y) v = wbR A p q x y a0 a1 h0 h1 w0 v l0 l1 s9 s10 := by
  funext k
  unfold uA wbR
  grind (splits := 20)
theorem wbR_ul0 (A : Nat → Int32) (p q x y : Nat) (a0 a1 h0 h1 w0 w1 l0 l1 s9 s10 v : Int32) (hp : p < 8) (hq : q < 8) (hx : x < 6) (hy : y < 6) (hpq : p ≠ q) (hxy : x ≠ y) : uA (wbR A p q x y a0 a1 h0 h1 w0 w1 l0 l1 s9 s10) (12 + 3 * x + 2) v = wbR A p q x y a0 a1 h0 h1 w0 w1 v l1 s9 s10 := by
  funext k
  unfold uA wbR
  grind (splits := 20)
theorem wbR_ul1 (A : Nat → Int32) (p q x y : Nat) (a0 a1 h0 h1 w0 w1 l0 l1 s9 s10 v : Int32) (hp : p < 8) (hq : q < 8) (hx : x < 6) (hy : y < 6) (hpq : p ≠ q) (hxy : x ≠ y) : uA (wbR A p q x y a0 a1 h0 h1 w0 w1 l0 l1 s9 s10) (12 + 3 * y + 2) v = wbR A p q x y a0 a1 h0 h1 w0 w1 l0 v s9 s10 := by
  funext k
  unfold uA wbR
  grind (splits := 20)
theorem wbR_us9 (A : Nat → Int32) (p q x y : Nat) (a0 a1 h0 h1 w0 w1 l0 l1 s9 s10 v : Int32) (hp : p < 8) (hq : q < 8) (hx : x < 6) (hy : y < 6) (hpq : p ≠ q) (hxy : x ≠ y) : uA (wbR A p q x y a0 a1 h0 h1 w0 w1 l0 l1 s9 s10) (9) v = wbR A p q x y a0 a1 h0 h1 w0 w1 l0 l1 v s10 := by
  funext k
  unfold uA wbR
  grind (splits := 20)
theorem wbR_us10 (A : Nat → Int32) (p q x y : Nat) (a0 a1 h0 h1 w0 w1 l0 l1 s9 s10 v : Int32) (hp : p < 8) (hq : q < 8) (hx : x < 6) (hy : y < 6) (hpq : p ≠ q) (hxy : x ≠ y) : uA (wbR A p q x y a0 a1 h0 h1 w0 w1 l0 l1 s9 s10) (10) v = wbR A p q x y a0 a1 h0 h1 w0 w1 l0 l1 s9 v := by
  funext k
  unfold uA wbR
  grind (splits := 20)
theorem uA_uA {α : Type} (A : Nat → α) (k : Nat) (v w : α) : uA (uA A k v) k w = uA A k w := by
  funext j
  unfold uA
  by_cases h : j = k <;> simp [h]
theorem dX12_shouts_0 : decode cX12_shouts 0 = .ok (.aload_n 0, 1) := by decide +kernel
theorem dX12_shouts_1 : decode cX12_shouts 1 = .ok (.iload_n 1, 1) := by decide +kernel
theorem dX12_shouts_2 : decode cX12_shouts 2 = .ok (.iload_n 2, 1) := by decide +kernel
theorem dX12_shouts_3 : decode cX12_shouts 3 = .ok (.invokevirtual 298, 3) := by decide +kernel
theorem dX12_shouts_6 : decode cX12_shouts 6 = .ok (.ifCond .ne 5, 3) := by decide +kernel
theorem dX12_shouts_9 : decode cX12_shouts 9 = .ok (.iconst 0, 1) := by decide +kernel
theorem dX12_shouts_10 : decode cX12_shouts 10 = .ok (.ireturn, 1) := by decide +kernel
theorem dX12_shouts_11 : decode cX12_shouts 11 = .ok (.aload_n 0, 1) := by decide +kernel
theorem dX12_shouts_12 : decode cX12_shouts 12 = .ok (.getfield 7, 3) := by decide +kernel
theorem dX12_shouts_15 : decode cX12_shouts 15 = .ok (.iload_n 1, 1) := by decide +kernel
theorem dX12_shouts_16 : decode cX12_shouts 16 = .ok (.invokestatic 250, 3) := by decide +kernel
theorem dX12_shouts_19 : decode cX12_shouts 19 = .ok (.iconst 5, 1) := by decide +kernel
theorem dX12_shouts_20 : decode cX12_shouts 20 = .ok (.iadd, 1) := by decide +kernel
theorem dX12_shouts_21 : decode cX12_shouts 21 = .ok (.dup2, 1) := by decide +kernel
theorem dX12_shouts_22 : decode cX12_shouts 22 = .ok (.iaload, 1) := by decide +kernel
theorem dX12_shouts_23 : decode cX12_shouts 23 = .ok (.iload_n 2, 1) := by decide +kernel
theorem dX12_shouts_24 : decode cX12_shouts 24 = .ok (.iadd, 1) := by decide +kernel
theorem dX12_shouts_25 : decode cX12_shouts 25 = .ok (.iastore, 1) := by decide +kernel
theorem dX12_shouts_26 : decode cX12_shouts 26 = .ok (.aload_n 0, 1) := by decide +kernel
theorem dX12_shouts_27 : decode cX12_shouts 27 = .ok (.iload_n 1, 1) := by decide +kernel
theorem dX12_shouts_28 : decode cX12_shouts 28 = .ok (.iconst 5, 1) := by decide +kernel
theorem dX12_shouts_29 : decode cX12_shouts 29 = .ok (.invokevirtual 253, 3) := by decide +kernel
theorem dX12_shouts_32 : decode cX12_shouts 32 = .ok (.aload_n 0, 1) := by decide +kernel
theorem dX12_shouts_33 : decode cX12_shouts 33 = .ok (.iload_n 1, 1) := by decide +kernel
theorem dX12_shouts_34 : decode cX12_shouts 34 = .ok (.iconst 1, 1) := by decide +kernel
theorem dX12_shouts_35 : decode cX12_shouts 35 = .ok (.invokevirtual 253, 3) := by decide +kernel
theorem dX12_shouts_38 : decode cX12_shouts 38 = .ok (.if_icmp .gt 5, 3) := by decide +kernel
theorem dX12_shouts_41 : decode cX12_shouts 41 = .ok (.iconst 0, 1) := by decide +kernel
theorem dX12_shouts_42 : decode cX12_shouts 42 = .ok (.ireturn, 1) := by decide +kernel
theorem dX12_shouts_43 : decode cX12_shouts 43 = .ok (.aload_n 0, 1) := by decide +kernel
theorem dX12_shouts_44 : decode cX12_shouts 44 = .ok (.getfield 7, 3) := by decide +kernel
theorem dX12_shouts_47 : decode cX12_shouts 47 = .ok (.iload_n 1, 1) := by decide +kernel
theorem dX12_shouts_48 : decode cX12_shouts 48 = .ok (.invokestatic 250, 3) := by decide +kernel
theorem dX12_shouts_51 : decode cX12_shouts 51 = .ok (.iconst 5, 1) := by decide +kernel
theorem dX12_shouts_52 : decode cX12_shouts 52 = .ok (.iadd, 1) := by decide +kernel
theorem dX12_shouts_53 : decode cX12_shouts 53 = .ok (.iconst 0, 1) := by decide +kernel
theorem dX12_shouts_54 : decode cX12_shouts 54 = .ok (.iastore, 1) := by decide +kernel
theorem dX12_shouts_55 : decode cX12_shouts 55 = .ok (.aload_n 0, 1) := by decide +kernel
theorem dX12_shouts_56 : decode cX12_shouts 56 = .ok (.getfield 7, 3) := by decide +kernel
theorem dX12_shouts_59 : decode cX12_shouts 59 = .ok (.iload_n 1, 1) := by decide +kernel
theorem dX12_shouts_60 : decode cX12_shouts 60 = .ok (.invokestatic 250, 3) := by decide +kernel
theorem dX12_shouts_63 : decode cX12_shouts 63 = .ok (.bipush 6, 2) := by decide +kernel
theorem dX12_shouts_65 : decode cX12_shouts 65 = .ok (.iadd, 1) := by decide +kernel
theorem dX12_shouts_66 : decode cX12_shouts 66 = .ok (.dup2, 1) := by decide +kernel
theorem dX12_shouts_67 : decode cX12_shouts 67 = .ok (.iaload, 1) := by decide +kernel
theorem dX12_shouts_68 : decode cX12_shouts 68 = .ok (.iconst 1, 1) := by decide +kernel
theorem dX12_shouts_69 : decode cX12_shouts 69 = .ok (.iadd, 1) := by decide +kernel
theorem dX12_shouts_70 : decode cX12_shouts 70 = .ok (.iastore, 1) := by decide +kernel
theorem dX12_shouts_71 : decode cX12_shouts 71 = .ok (.aload_n 0, 1) := by decide +kernel
theorem dX12_shouts_72 : decode cX12_shouts 72 = .ok (.getfield 7, 3) := by decide +kernel
theorem dX12_shouts_75 : decode cX12_shouts 75 = .ok (.bipush 10, 2) := by decide +kernel
theorem dX12_shouts_77 : decode cX12_shouts 77 = .ok (.dup2, 1) := by decide +kernel
theorem dX12_shouts_78 : decode cX12_shouts 78 = .ok (.iaload, 1) := by decide +kernel
theorem dX12_shouts_79 : decode cX12_shouts 79 = .ok (.iconst 1, 1) := by decide +kernel
theorem dX12_shouts_80 : decode cX12_shouts 80 = .ok (.iadd, 1) := by decide +kernel
theorem dX12_shouts_81 : decode cX12_shouts 81 = .ok (.iastore, 1) := by decide +kernel
theorem dX12_shouts_82 : decode cX12_shouts 82 = .ok (.iconst 1, 1) := by decide +kernel
theorem dX12_shouts_83 : decode cX12_shouts 83 = .ok (.ireturn, 1) := by decide +kernel
abbrev M_X12_shouts : MT := (yX12_shouts, cX12_shouts, 3, (some .boolean))
theorem cf_X12_shouts : fq_cf M_X12_shouts 2 := ⟨(mg_1 (List.mem_of_getElem? (i := 15) rfl) rfl), (mg_8 (List.mem_of_getElem? (i := 101) rfl) rfl), ⟨by decide, by decide, by decide +kernel⟩, by decide⟩
def B_X12_shouts_0 (G : GT) (mc ms : Nat) (Q : Post) : Cn := ix_aload 0 (ix_iload 1 (ix_iload 2 (ix_vcall 12 3 0 0 mc ms (sp_X12_doesHear G) (ix_if_ne (ix_aload 0 (ix_getR 12 0 (ix_iload 1 (ix_call 1 0 0 mc ms (sp_X12_personRow G) (ix_pushI 5 (ix_iadd (ix_dup2 (ix_iald (ix_iload 2 (ix_iadd (ix_iast (ix_aload 0 (ix_iload 1 (ix_pushI 5 (ix_vcall 12 3 0 0 mc ms (sp_X12_personOf G) (ix_aload 0 (ix_iload 1 (ix_pushI 1 (ix_vcall 12 3 0 0 mc ms (sp_X12_personOf G) (ix_icmp_gt (ix_aload 0 (ix_getR 12 0 (ix_iload 1 (ix_call 1 0 0 mc ms (sp_X12_personRow G) (ix_pushI 5 (ix_iadd (ix_pushI 0 (ix_iast (ix_aload 0 (ix_getR 12 0 (ix_iload 1 (ix_call 1 0 0 mc ms (sp_X12_personRow G) (ix_pushI 6 (ix_iadd (ix_dup2 (ix_iald (ix_pushI 1 (ix_iadd (ix_iast (ix_aload 0 (ix_getR 12 0 (ix_pushI 10 (ix_dup2 (ix_iald (ix_pushI 1 (ix_iadd (ix_iast (ix_pushI 1 (ix_zret mc ms Q))))))))))))))))))))))))))))) (ix_pushI 0 (ix_zret mc ms Q)))))))))))))))))))))) (ix_pushI 0 (ix_zret mc ms Q))))))
theorem b_X12_shouts_0 {l : Launch} {G : GT} {D mc ms : Nat} {Q : Post} : Imp l G M_X12_shouts (D + 3) mc ms Q (B_X12_shouts_0 G mc ms Q) 0 := sx_aload_n dX12_shouts_0 rfl (sx_iload_n dX12_shouts_1 rfl (sx_iload_n dX12_shouts_2 rfl (sx_vcall dX12_shouts_3 cf_X12_doesHear (mg_8 (List.mem_of_getElem? (i := 102) rfl) rfl) (mg_8 (List.mem_of_getElem? (i := 104) rfl) rfl) (mg_p (List.mem_of_getElem? (i := 95) rfl) rfl) rfl c_X12_doesHear (sx_if_ne 11 dX12_shouts_6 (by decide) (sx_aload_n dX12_shouts_11 rfl (sx_getR dX12_shouts_12 fl_FootQuarrelModel_7 (fun _ _ _ => rfl) (sx_iload_n dX12_shouts_15 rfl (sx_scall dX12_shouts_16 cf_X12_personRow (mg_8 (List.mem_of_getElem? (i := 4) rfl) rfl) (mg_8 (List.mem_of_getElem? (i := 5) rfl) rfl) c_X12_personRow (sx_iconst dX12_shouts_19 rfl (sx_iadd dX12_shouts_20 (sx_dup2 dX12_shouts_21 (sx_iald dX12_shouts_22 (sx_iload_n dX12_shouts_23 rfl (sx_iadd dX12_shouts_24 (sx_iast dX12_shouts_25 (sx_aload_n dX12_shouts_26 rfl (sx_iload_n dX12_shouts_27 rfl (sx_iconst dX12_shouts_28 rfl (sx_vcall dX12_shouts_29 cf_X12_personOf (mg_8 (List.mem_of_getElem? (i := 0) rfl) rfl) (mg_8 (List.mem_of_getElem? (i := 2) rfl) rfl) (mg_p (List.mem_of_getElem? (i := 79) rfl) rfl) rfl c_X12_personOf (sx_aload_n dX12_shouts_32 rfl (sx_iload_n dX12_shouts_33 rfl (sx_iconst dX12_shouts_34 rfl (sx_vcall dX12_shouts_35 cf_X12_personOf (mg_8 (List.mem_of_getElem? (i := 0) rfl) rfl) (mg_8 (List.mem_of_getElem? (i := 2) rfl) rfl) (mg_p (List.mem_of_getElem? (i := 79) rfl) rfl) rfl c_X12_personOf (sx_icmp_gt 43 dX12_shouts_38 (by decide) (sx_aload_n dX12_shouts_43 rfl (sx_getR dX12_shouts_44 fl_FootQuarrelModel_7 (fun _ _ _ => rfl) (sx_iload_n dX12_shouts_47 rfl (sx_scall dX12_shouts_48 cf_X12_personRow (mg_8 (List.mem_of_getElem? (i := 4) rfl) rfl) (mg_8 (List.mem_of_getElem? (i := 5) rfl) rfl) c_X12_personRow (sx_iconst dX12_shouts_51 rfl (sx_iadd dX12_shouts_52 (sx_iconst dX12_shouts_53 rfl (sx_iast dX12_shouts_54 (sx_aload_n dX12_shouts_55 rfl (sx_getR dX12_shouts_56 fl_FootQuarrelModel_7 (fun _ _ _ => rfl) (sx_iload_n dX12_shouts_59 rfl (sx_scall dX12_shouts_60 cf_X12_personRow (mg_8 (List.mem_of_getElem? (i := 4) rfl) rfl) (mg_8 (List.mem_of_getElem? (i := 5) rfl) rfl) c_X12_personRow (sx_bipush dX12_shouts_63 rfl (sx_iadd dX12_shouts_65 (sx_dup2 dX12_shouts_66 (sx_iald dX12_shouts_67 (sx_iconst dX12_shouts_68 rfl (sx_iadd dX12_shouts_69 (sx_iast dX12_shouts_70 (sx_aload_n dX12_shouts_71 rfl (sx_getR dX12_shouts_72 fl_FootQuarrelModel_7 (fun _ _ _ => rfl) (sx_bipush dX12_shouts_75 rfl (sx_dup2 dX12_shouts_77 (sx_iald dX12_shouts_78 (sx_iconst dX12_shouts_79 rfl (sx_iadd dX12_shouts_80 (sx_iast dX12_shouts_81 (sx_iconst dX12_shouts_82 rfl (sx_zret dX12_shouts_83 rfl))))))))))))))))))))))))))))) (sx_iconst dX12_shouts_41 rfl (sx_zret dX12_shouts_42 rfl)))))))))))))))))))))) (sx_iconst dX12_shouts_9 rfl (sx_zret dX12_shouts_10 rfl))))))
theorem dX12_goesInto_0 : decode cX12_goesInto 0 = .ok (.iload_n 3, 1) := by decide +kernel
theorem dX12_goesInto_1 : decode cX12_goesInto 1 = .ok (.aload_n 0, 1) := by decide +kernel
theorem dX12_goesInto_2 : decode cX12_goesInto 2 = .ok (.iload_n 1, 1) := by decide +kernel
theorem dX12_goesInto_3 : decode cX12_goesInto 3 = .ok (.invokevirtual 262, 3) := by decide +kernel
theorem dX12_goesInto_6 : decode cX12_goesInto 6 = .ok (.invokestatic 130, 3) := by decide +kernel
theorem dX12_goesInto_9 : decode cX12_goesInto 9 = .ok (.istore 4, 2) := by decide +kernel
theorem dX12_goesInto_11 : decode cX12_goesInto 11 = .ok (.aload_n 0, 1) := by decide +kernel
theorem dX12_goesInto_12 : decode cX12_goesInto 12 = .ok (.getfield 7, 3) := by decide +kernel
theorem dX12_goesInto_15 : decode cX12_goesInto 15 = .ok (.iload_n 1, 1) := by decide +kernel
theorem dX12_goesInto_16 : decode cX12_goesInto 16 = .ok (.invokestatic 247, 3) := by decide +kernel
theorem dX12_goesInto_19 : decode cX12_goesInto 19 = .ok (.dup2, 1) := by decide +kernel
theorem dX12_goesInto_20 : decode cX12_goesInto 20 = .ok (.iaload, 1) := by decide +kernel
theorem dX12_goesInto_21 : decode cX12_goesInto 21 = .ok (.iload 4, 2) := by decide +kernel
theorem dX12_goesInto_23 : decode cX12_goesInto 23 = .ok (.isub, 1) := by decide +kernel
theorem dX12_goesInto_24 : decode cX12_goesInto 24 = .ok (.iastore, 1) := by decide +kernel
theorem dX12_goesInto_25 : decode cX12_goesInto 25 = .ok (.aload_n 0, 1) := by decide +kernel
theorem dX12_goesInto_26 : decode cX12_goesInto 26 = .ok (.getfield 7, 3) := by decide +kernel
theorem dX12_goesInto_29 : decode cX12_goesInto 29 = .ok (.iload_n 2, 1) := by decide +kernel
theorem dX12_goesInto_30 : decode cX12_goesInto 30 = .ok (.invokestatic 247, 3) := by decide +kernel
theorem dX12_goesInto_33 : decode cX12_goesInto 33 = .ok (.dup2, 1) := by decide +kernel
theorem dX12_goesInto_34 : decode cX12_goesInto 34 = .ok (.iaload, 1) := by decide +kernel
theorem dX12_goesInto_35 : decode cX12_goesInto 35 = .ok (.iload 4, 2) := by decide +kernel
theorem dX12_goesInto_37 : decode cX12_goesInto 37 = .ok (.iadd, 1) := by decide +kernel
theorem dX12_goesInto_38 : decode cX12_goesInto 38 = .ok (.iastore, 1) := by decide +kernel
theorem dX12_goesInto_39 : decode cX12_goesInto 39 = .ok (.iload 4, 2) := by decide +kernel
theorem dX12_goesInto_41 : decode cX12_goesInto 41 = .ok (.ireturn, 1) := by decide +kernel
abbrev M_X12_goesInto : MT := (yX12_goesInto, cX12_goesInto, 5, (some .int))
theorem cf_X12_goesInto : fq_cf M_X12_goesInto 3 := ⟨(mg_1 (List.mem_of_getElem? (i := 15) rfl) rfl), (mg_8 (List.mem_of_getElem? (i := 109) rfl) rfl), ⟨by decide, by decide, by decide +kernel⟩, by decide⟩
def B_X12_goesInto_0 (G : GT) (mc ms : Nat) (Q : Post) : Cn := ix_iload 3 (ix_aload 0 (ix_iload 1 (ix_vcall 12 2 0 0 mc ms (sp_X12_wideOf G) (ix_min mc ms (ix_istore 4 (ix_aload 0 (ix_getR 12 0 (ix_iload 1 (ix_call 1 0 0 mc ms (sp_X12_houseRow G) (ix_dup2 (ix_iald (ix_iload 4 (ix_isub (ix_iast (ix_aload 0 (ix_getR 12 0 (ix_iload 2 (ix_call 1 0 0 mc ms (sp_X12_houseRow G) (ix_dup2 (ix_iald (ix_iload 4 (ix_iadd (ix_iast (ix_iload 4 (ix_iret mc ms Q)))))))))))))))))))))))))
theorem b_X12_goesInto_0 {l : Launch} {G : GT} {D mc ms : Nat} {Q : Post} : Imp l G M_X12_goesInto (D + 2) mc ms Q (B_X12_goesInto_0 G mc ms Q) 0 := sx_iload_n dX12_goesInto_0 rfl (sx_aload_n dX12_goesInto_1 rfl (sx_iload_n dX12_goesInto_2 rfl (sx_vcall dX12_goesInto_3 cf_X12_wideOf (mg_8 (List.mem_of_getElem? (i := 7) rfl) rfl) (mg_8 (List.mem_of_getElem? (i := 9) rfl) rfl) (mg_p (List.mem_of_getElem? (i := 80) rfl) rfl) rfl c_X12_wideOf (sx_min dX12_goesInto_6 (mg_7 (List.mem_of_getElem? (i := 127) rfl) rfl) (mg_3 (List.mem_of_getElem? (i := 179) rfl) rfl) (mg_1 (List.mem_of_getElem? (i := 18) rfl) rfl) (mg_3 (List.mem_of_getElem? (i := 180) rfl) rfl) (sx_istore dX12_goesInto_9 (by decide) (sx_aload_n dX12_goesInto_11 rfl (sx_getR dX12_goesInto_12 fl_FootQuarrelModel_7 (fun _ _ _ => rfl) (sx_iload_n dX12_goesInto_15 rfl (sx_scall dX12_goesInto_16 cf_X12_houseRow (mg_8 (List.mem_of_getElem? (i := 11) rfl) rfl) (mg_8 (List.mem_of_getElem? (i := 12) rfl) rfl) c_X12_houseRow (sx_dup2 dX12_goesInto_19 (sx_iald dX12_goesInto_20 (sx_iload dX12_goesInto_21 (sx_isub dX12_goesInto_23 (sx_iast dX12_goesInto_24 (sx_aload_n dX12_goesInto_25 rfl (sx_getR dX12_goesInto_26 fl_FootQuarrelModel_7 (fun _ _ _ => rfl) (sx_iload_n dX12_goesInto_29 rfl (sx_scall dX12_goesInto_30 cf_X12_houseRow (mg_8 (List.mem_of_getElem? (i := 11) rfl) rfl) (mg_8 (List.mem_of_getElem? (i := 12) rfl) rfl) c_X12_houseRow (sx_dup2 dX12_goesInto_33 (sx_iald dX12_goesInto_34 (sx_iload dX12_goesInto_35 (sx_iadd dX12_goesInto_37 (sx_iast dX12_goesInto_38 (sx_iload dX12_goesInto_39 (sx_iret dX12_goesInto_41 rfl)))))))))))))))))))))))))
theorem dX12_isWeather_0 : decode cX12_isWeather 0 = .ok (.aload_n 0, 1) := by decide +kernel
theorem dX12_isWeather_1 : decode cX12_isWeather 1 = .ok (.getfield 7, 3) := by decide +kernel
theorem dX12_isWeather_4 : decode cX12_isWeather 4 = .ok (.bipush 7, 2) := by decide +kernel
theorem dX12_isWeather_6 : decode cX12_isWeather 6 = .ok (.iaload, 1) := by decide +kernel
theorem dX12_isWeather_7 : decode cX12_isWeather 7 = .ok (.iload_n 1, 1) := by decide +kernel
theorem dX12_isWeather_8 : decode cX12_isWeather 8 = .ok (.if_icmp .eq 7, 3) := by decide +kernel
theorem dX12_isWeather_11 : decode cX12_isWeather 11 = .ok (.iconst 1, 1) := by decide +kernel
theorem dX12_isWeather_12 : decode cX12_isWeather 12 = .ok (.goto 4, 3) := by decide +kernel
theorem dX12_isWeather_15 : decode cX12_isWeather 15 = .ok (.iconst 0, 1) := by decide +kernel
theorem dX12_isWeather_16 : decode cX12_isWeather 16 = .ok (.istore_n 2, 1) := by decide +kernel
theorem dX12_isWeather_17 : decode cX12_isWeather 17 = .ok (.aload_n 0, 1) := by decide +kernel
theorem dX12_isWeather_18 : decode cX12_isWeather 18 = .ok (.getfield 7, 3) := by decide +kernel
theorem dX12_isWeather_21 : decode cX12_isWeather 21 = .ok (.bipush 7, 2) := by decide +kernel
theorem dX12_isWeather_23 : decode cX12_isWeather 23 = .ok (.iload_n 1, 1) := by decide +kernel
theorem dX12_isWeather_24 : decode cX12_isWeather 24 = .ok (.iastore, 1) := by decide +kernel
theorem dX12_isWeather_25 : decode cX12_isWeather 25 = .ok (.iload_n 2, 1) := by decide +kernel
theorem dX12_isWeather_26 : decode cX12_isWeather 26 = .ok (.ireturn, 1) := by decide +kernel
abbrev M_X12_isWeather : MT := (yX12_isWeather, cX12_isWeather, 3, (some .boolean))
theorem cf_X12_isWeather : fq_cf M_X12_isWeather 1 := ⟨(mg_1 (List.mem_of_getElem? (i := 15) rfl) rfl), (mg_8 (List.mem_of_getElem? (i := 149) rfl) rfl), ⟨by decide, by decide, by decide +kernel⟩, by decide⟩
def B_X12_isWeather_16 (G : GT) (mc ms : Nat) (Q : Post) : Cn := ix_istore 2 (ix_aload 0 (ix_getR 12 0 (ix_pushI 7 (ix_iload 1 (ix_iast (ix_iload 2 (ix_zret mc ms Q)))))))
theorem b_X12_isWeather_16 {l : Launch} {G : GT} {D mc ms : Nat} {Q : Post} : Imp l G M_X12_isWeather (D + 0) mc ms Q (B_X12_isWeather_16 G mc ms Q) 16 := sx_istore_n dX12_isWeather_16 rfl (by decide) (sx_aload_n dX12_isWeather_17 rfl (sx_getR dX12_isWeather_18 fl_FootQuarrelModel_7 (fun _ _ _ => rfl) (sx_bipush dX12_isWeather_21 rfl (sx_iload_n dX12_isWeather_23 rfl (sx_iast dX12_isWeather_24 (sx_iload_n dX12_isWeather_25 rfl (sx_zret dX12_isWeather_26 rfl)))))))
def B_X12_isWeather_0 (G : GT) (mc ms : Nat) (Q : Post) : Cn := ix_aload 0 (ix_getR 12 0 (ix_pushI 7 (ix_iald (ix_iload 1 (ix_icmp_eq (ix_pushI 0 ((B_X12_isWeather_16 G mc ms Q))) (ix_pushI 1 ((B_X12_isWeather_16 G mc ms Q))))))))
theorem b_X12_isWeather_0 {l : Launch} {G : GT} {D mc ms : Nat} {Q : Post} : Imp l G M_X12_isWeather (D + 0) mc ms Q (B_X12_isWeather_0 G mc ms Q) 0 := sx_aload_n dX12_isWeather_0 rfl (sx_getR dX12_isWeather_1 fl_FootQuarrelModel_7 (fun _ _ _ => rfl) (sx_bipush dX12_isWeather_4 rfl (sx_iald dX12_isWeather_6 (sx_iload_n dX12_isWeather_7 rfl (sx_icmp_eq 15 dX12_isWeather_8 (by decide) (sx_iconst dX12_isWeather_15 rfl (b_X12_isWeather_16)) (sx_iconst dX12_isWeather_11 rfl (sx_goto 16 dX12_isWeather_12 (by decide) (b_X12_isWeather_16))))))))
theorem dX12_keepsQuarrel_0 : decode cX12_keepsQuarrel 0 = .ok (.bipush 20, 2) := by decide +kernel
theorem dX12_keepsQuarrel_2 : decode cX12_keepsQuarrel 2 = .ok (.invokestatic 283, 3) := by decide +kernel
theorem dX12_keepsQuarrel_5 : decode cX12_keepsQuarrel 5 = .ok (.iconst 1, 1) := by decide +kernel
theorem dX12_keepsQuarrel_6 : decode cX12_keepsQuarrel 6 = .ok (.isub, 1) := by decide +kernel
theorem dX12_keepsQuarrel_7 : decode cX12_keepsQuarrel 7 = .ok (.istore 5, 2) := by decide +kernel
theorem dX12_keepsQuarrel_9 : decode cX12_keepsQuarrel 9 = .ok (.iload 5, 2) := by decide +kernel
theorem dX12_keepsQuarrel_11 : decode cX12_keepsQuarrel 11 = .ok (.iconst 1, 1) := by decide +kernel
theorem dX12_keepsQuarrel_12 : decode cX12_keepsQuarrel 12 = .ok (.invokestatic 283, 3) := by decide +kernel
theorem dX12_keepsQuarrel_15 : decode cX12_keepsQuarrel 15 = .ok (.if_icmp .lt 26, 3) := by decide +kernel
theorem dX12_keepsQuarrel_18 : decode cX12_keepsQuarrel 18 = .ok (.aload_n 0, 1) := by decide +kernel
theorem dX12_keepsQuarrel_19 : decode cX12_keepsQuarrel 19 = .ok (.getfield 7, 3) := by decide +kernel
theorem dX12_keepsQuarrel_22 : decode cX12_keepsQuarrel 22 = .ok (.iload 5, 2) := by decide +kernel
theorem dX12_keepsQuarrel_24 : decode cX12_keepsQuarrel 24 = .ok (.aload_n 0, 1) := by decide +kernel
theorem dX12_keepsQuarrel_25 : decode cX12_keepsQuarrel 25 = .ok (.getfield 7, 3) := by decide +kernel
theorem dX12_keepsQuarrel_28 : decode cX12_keepsQuarrel 28 = .ok (.iload 5, 2) := by decide +kernel
theorem dX12_keepsQuarrel_30 : decode cX12_keepsQuarrel 30 = .ok (.bipush 7, 2) := by decide +kernel
theorem dX12_keepsQuarrel_32 : decode cX12_keepsQuarrel 32 = .ok (.isub, 1) := by decide +kernel
theorem dX12_keepsQuarrel_33 : decode cX12_keepsQuarrel 33 = .ok (.iaload, 1) := by decide +kernel
theorem dX12_keepsQuarrel_34 : decode cX12_keepsQuarrel 34 = .ok (.iastore, 1) := by decide +kernel
theorem dX12_keepsQuarrel_35 : decode cX12_keepsQuarrel 35 = .ok (.iinc 5 (-1), 3) := by decide +kernel
theorem dX12_keepsQuarrel_38 : decode cX12_keepsQuarrel 38 = .ok (.goto (-29), 3) := by decide +kernel
theorem dX12_keepsQuarrel_41 : decode cX12_keepsQuarrel 41 = .ok (.iconst 0, 1) := by decide +kernel
theorem dX12_keepsQuarrel_42 : decode cX12_keepsQuarrel 42 = .ok (.invokestatic 283, 3) := by decide +kernel
theorem dX12_keepsQuarrel_45 : decode cX12_keepsQuarrel 45 = .ok (.istore 5, 2) := by decide +kernel
theorem dX12_keepsQuarrel_47 : decode cX12_keepsQuarrel 47 = .ok (.aload_n 0, 1) := by decide +kernel
theorem dX12_keepsQuarrel_48 : decode cX12_keepsQuarrel 48 = .ok (.getfield 7, 3) := by decide +kernel
theorem dX12_keepsQuarrel_51 : decode cX12_keepsQuarrel 51 = .ok (.iload 5, 2) := by decide +kernel
theorem dX12_keepsQuarrel_53 : decode cX12_keepsQuarrel 53 = .ok (.aload_n 0, 1) := by decide +kernel
theorem dX12_keepsQuarrel_54 : decode cX12_keepsQuarrel 54 = .ok (.getfield 7, 3) := by decide +kernel
theorem dX12_keepsQuarrel_57 : decode cX12_keepsQuarrel 57 = .ok (.bipush 6, 2) := by decide +kernel
theorem dX12_keepsQuarrel_59 : decode cX12_keepsQuarrel 59 = .ok (.iaload, 1) := by decide +kernel
theorem dX12_keepsQuarrel_60 : decode cX12_keepsQuarrel 60 = .ok (.iastore, 1) := by decide +kernel
theorem dX12_keepsQuarrel_61 : decode cX12_keepsQuarrel 61 = .ok (.aload_n 0, 1) := by decide +kernel
theorem dX12_keepsQuarrel_62 : decode cX12_keepsQuarrel 62 = .ok (.getfield 7, 3) := by decide +kernel
theorem dX12_keepsQuarrel_65 : decode cX12_keepsQuarrel 65 = .ok (.iload 5, 2) := by decide +kernel
theorem dX12_keepsQuarrel_67 : decode cX12_keepsQuarrel 67 = .ok (.iconst 1, 1) := by decide +kernel
theorem dX12_keepsQuarrel_68 : decode cX12_keepsQuarrel 68 = .ok (.iadd, 1) := by decide +kernel
theorem dX12_keepsQuarrel_69 : decode cX12_keepsQuarrel 69 = .ok (.aload_n 0, 1) := by decide +kernel
theorem dX12_keepsQuarrel_70 : decode cX12_keepsQuarrel 70 = .ok (.iload_n 1, 1) := by decide +kernel
theorem dX12_keepsQuarrel_71 : decode cX12_keepsQuarrel 71 = .ok (.invokevirtual 256, 3) := by decide +kernel
theorem dX12_keepsQuarrel_74 : decode cX12_keepsQuarrel 74 = .ok (.aload_n 0, 1) := by decide +kernel
theorem dX12_keepsQuarrel_75 : decode cX12_keepsQuarrel 75 = .ok (.iload_n 2, 1) := by decide +kernel
theorem dX12_keepsQuarrel_76 : decode cX12_keepsQuarrel 76 = .ok (.invokevirtual 256, 3) := by decide +kernel
theorem dX12_keepsQuarrel_79 : decode cX12_keepsQuarrel 79 = .ok (.invokestatic 130, 3) := by decide +kernel
theorem dX12_keepsQuarrel_82 : decode cX12_keepsQuarrel 82 = .ok (.iastore, 1) := by decide +kernel
theorem dX12_keepsQuarrel_83 : decode cX12_keepsQuarrel 83 = .ok (.aload_n 0, 1) := by decide +kernel
theorem dX12_keepsQuarrel_84 : decode cX12_keepsQuarrel 84 = .ok (.getfield 7, 3) := by decide +kernel
theorem dX12_keepsQuarrel_87 : decode cX12_keepsQuarrel 87 = .ok (.iload 5, 2) := by decide +kernel
theorem dX12_keepsQuarrel_89 : decode cX12_keepsQuarrel 89 = .ok (.iconst 2, 1) := by decide +kernel
theorem dX12_keepsQuarrel_90 : decode cX12_keepsQuarrel 90 = .ok (.iadd, 1) := by decide +kernel
theorem dX12_keepsQuarrel_91 : decode cX12_keepsQuarrel 91 = .ok (.iload_n 1, 1) := by decide +kernel
theorem dX12_keepsQuarrel_92 : decode cX12_keepsQuarrel 92 = .ok (.iastore, 1) := by decide +kernel
theorem dX12_keepsQuarrel_93 : decode cX12_keepsQuarrel 93 = .ok (.aload_n 0, 1) := by decide +kernel
theorem dX12_keepsQuarrel_94 : decode cX12_keepsQuarrel 94 = .ok (.getfield 7, 3) := by decide +kernel
theorem dX12_keepsQuarrel_97 : decode cX12_keepsQuarrel 97 = .ok (.iload 5, 2) := by decide +kernel
theorem dX12_keepsQuarrel_99 : decode cX12_keepsQuarrel 99 = .ok (.iconst 2, 1) := by decide +kernel
theorem dX12_keepsQuarrel_100 : decode cX12_keepsQuarrel 100 = .ok (.iadd, 1) := by decide +kernel
theorem dX12_keepsQuarrel_101 : decode cX12_keepsQuarrel 101 = .ok (.iconst 1, 1) := by decide +kernel
theorem dX12_keepsQuarrel_102 : decode cX12_keepsQuarrel 102 = .ok (.iadd, 1) := by decide +kernel
theorem dX12_keepsQuarrel_103 : decode cX12_keepsQuarrel 103 = .ok (.iload_n 2, 1) := by decide +kernel
theorem dX12_keepsQuarrel_104 : decode cX12_keepsQuarrel 104 = .ok (.iastore, 1) := by decide +kernel
theorem dX12_keepsQuarrel_105 : decode cX12_keepsQuarrel 105 = .ok (.aload_n 0, 1) := by decide +kernel
theorem dX12_keepsQuarrel_106 : decode cX12_keepsQuarrel 106 = .ok (.getfield 7, 3) := by decide +kernel
theorem dX12_keepsQuarrel_109 : decode cX12_keepsQuarrel 109 = .ok (.iload 5, 2) := by decide +kernel
theorem dX12_keepsQuarrel_111 : decode cX12_keepsQuarrel 111 = .ok (.iconst 4, 1) := by decide +kernel
theorem dX12_keepsQuarrel_112 : decode cX12_keepsQuarrel 112 = .ok (.iadd, 1) := by decide +kernel
theorem dX12_keepsQuarrel_113 : decode cX12_keepsQuarrel 113 = .ok (.iload_n 3, 1) := by decide +kernel
theorem dX12_keepsQuarrel_114 : decode cX12_keepsQuarrel 114 = .ok (.iastore, 1) := by decide +kernel
theorem dX12_keepsQuarrel_115 : decode cX12_keepsQuarrel 115 = .ok (.aload_n 0, 1) := by decide +kernel
theorem dX12_keepsQuarrel_116 : decode cX12_keepsQuarrel 116 = .ok (.getfield 7, 3) := by decide +kernel
theorem dX12_keepsQuarrel_119 : decode cX12_keepsQuarrel 119 = .ok (.iload 5, 2) := by decide +kernel
theorem dX12_keepsQuarrel_121 : decode cX12_keepsQuarrel 121 = .ok (.iconst 5, 1) := by decide +kernel
theorem dX12_keepsQuarrel_122 : decode cX12_keepsQuarrel 122 = .ok (.iadd, 1) := by decide +kernel
theorem dX12_keepsQuarrel_123 : decode cX12_keepsQuarrel 123 = .ok (.iload 4, 2) := by decide +kernel
theorem dX12_keepsQuarrel_125 : decode cX12_keepsQuarrel 125 = .ok (.iastore, 1) := by decide +kernel
theorem dX12_keepsQuarrel_126 : decode cX12_keepsQuarrel 126 = .ok (.aload_n 0, 1) := by decide +kernel
theorem dX12_keepsQuarrel_127 : decode cX12_keepsQuarrel 127 = .ok (.getfield 7, 3) := by decide +kernel
theorem dX12_keepsQuarrel_130 : decode cX12_keepsQuarrel 130 = .ok (.iload 5, 2) := by decide +kernel
theorem dX12_keepsQuarrel_132 : decode cX12_keepsQuarrel 132 = .ok (.bipush 6, 2) := by decide +kernel
theorem dX12_keepsQuarrel_134 : decode cX12_keepsQuarrel 134 = .ok (.iadd, 1) := by decide +kernel
theorem dX12_keepsQuarrel_135 : decode cX12_keepsQuarrel 135 = .ok (.iconst 0, 1) := by decide +kernel
theorem dX12_keepsQuarrel_136 : decode cX12_keepsQuarrel 136 = .ok (.iastore, 1) := by decide +kernel
theorem dX12_keepsQuarrel_137 : decode cX12_keepsQuarrel 137 = .ok (.aload_n 0, 1) := by decide +kernel
theorem dX12_keepsQuarrel_138 : decode cX12_keepsQuarrel 138 = .ok (.getfield 7, 3) := by decide +kernel
theorem dX12_keepsQuarrel_141 : decode cX12_keepsQuarrel 141 = .ok (.iconst 2, 1) := by decide +kernel
theorem dX12_keepsQuarrel_142 : decode cX12_keepsQuarrel 142 = .ok (.bipush 20, 2) := by decide +kernel
theorem dX12_keepsQuarrel_144 : decode cX12_keepsQuarrel 144 = .ok (.aload_n 0, 1) := by decide +kernel
theorem dX12_keepsQuarrel_145 : decode cX12_keepsQuarrel 145 = .ok (.getfield 7, 3) := by decide +kernel
theorem dX12_keepsQuarrel_148 : decode cX12_keepsQuarrel 148 = .ok (.iconst 2, 1) := by decide +kernel
theorem dX12_keepsQuarrel_149 : decode cX12_keepsQuarrel 149 = .ok (.iaload, 1) := by decide +kernel
theorem dX12_keepsQuarrel_150 : decode cX12_keepsQuarrel 150 = .ok (.iconst 1, 1) := by decide +kernel
theorem dX12_keepsQuarrel_151 : decode cX12_keepsQuarrel 151 = .ok (.iadd, 1) := by decide +kernel
theorem dX12_keepsQuarrel_152 : decode cX12_keepsQuarrel 152 = .ok (.invokestatic 130, 3) := by decide +kernel
theorem dX12_keepsQuarrel_155 : decode cX12_keepsQuarrel 155 = .ok (.iastore, 1) := by decide +kernel
theorem dX12_keepsQuarrel_156 : decode cX12_keepsQuarrel 156 = .ok (.return_, 1) := by decide +kernel
abbrev M_X12_keepsQuarrel : MT := (yX12_keepsQuarrel, cX12_keepsQuarrel, 6, none)
theorem cf_X12_keepsQuarrel : fq_cf M_X12_keepsQuarrel 4 := ⟨(mg_1 (List.mem_of_getElem? (i := 15) rfl) rfl), (mg_8 (List.mem_of_getElem? (i := 113) rfl) rfl), ⟨by decide, by decide, by decide +kernel⟩, by decide⟩
def B_X12_keepsQuarrel_9 (l : Launch) (G : GT) (D mc ms : Nat) (Q : Post) : Cn := ix_iload 5 (ix_pushI 1 (ix_call 1 0 0 mc ms (sp_X12_quarrelRow G) (ix_icmp_lt (ix_pushI 0 (ix_call 1 0 0 mc ms (sp_X12_quarrelRow G) (ix_istore 5 (ix_aload 0 (ix_getR 12 0 (ix_iload 5 (ix_aload 0 (ix_getR 12 0 (ix_pushI 6 (ix_iald (ix_iast (ix_aload 0 (ix_getR 12 0 (ix_iload 5 (ix_pushI 1 (ix_iadd (ix_aload 0 (ix_iload 1 (ix_vcall 12 2 0 0 mc ms (sp_X12_homeOf G) (ix_aload 0 (ix_iload 2 (ix_vcall 12 2 0 0 mc ms (sp_X12_homeOf G) (ix_min mc ms (ix_iast (ix_aload 0 (ix_getR 12 0 (ix_iload 5 (ix_pushI 2 (ix_iadd (ix_iload 1 (ix_iast (ix_aload 0 (ix_getR 12 0 (ix_iload 5 (ix_pushI 2 (ix_iadd (ix_pushI 1 (ix_iadd (ix_iload 2 (ix_iast (ix_aload 0 (ix_getR 12 0 (ix_iload 5 (ix_pushI 4 (ix_iadd (ix_iload 3 (ix_iast (ix_aload 0 (ix_getR 12 0 (ix_iload 5 (ix_pushI 5 (ix_iadd (ix_iload 4 (ix_iast (ix_aload 0 (ix_getR 12 0 (ix_iload 5 (ix_pushI 6 (ix_iadd (ix_pushI 0 (ix_iast (ix_aload 0 (ix_getR 12 0 (ix_pushI 2 (ix_pushI 20 (ix_aload 0 (ix_getR 12 0 (ix_pushI 2 (ix_iald (ix_pushI 1 (ix_iadd (ix_min mc ms (ix_iast (ix_vret mc ms Q)))))))))))))))))))))))))))))))))))))))))))))))))))))))))))))))))))))))))) (ix_aload 0 (ix_getR 12 0 (ix_iload 5 (ix_aload 0 (ix_getR 12 0 (ix_iload 5 (ix_pushI 7 (ix_isub (ix_iald (ix_iast (ix_iinc 5 (-1) (fqAt l G M_X12_keepsQuarrel (D + 3) mc ms Q 9)))))))))))))))
theorem b_X12_keepsQuarrel_9 {l : Launch} {G : GT} {D mc ms : Nat} {Q : Post} : Imp l G M_X12_keepsQuarrel (D + 3) mc ms Q (B_X12_keepsQuarrel_9 l G D mc ms Q) 9 := sx_iload dX12_keepsQuarrel_9 (sx_iconst dX12_keepsQuarrel_11 rfl (sx_scall dX12_keepsQuarrel_12 cf_X12_quarrelRow (mg_8 (List.mem_of_getElem? (i := 58) rfl) rfl) (mg_8 (List.mem_of_getElem? (i := 59) rfl) rfl) c_X12_quarrelRow (sx_icmp_lt 41 dX12_keepsQuarrel_15 (by decide) (sx_iconst dX12_keepsQuarrel_41 rfl (sx_scall dX12_keepsQuarrel_42 cf_X12_quarrelRow (mg_8 (List.mem_of_getElem? (i := 58) rfl) rfl) (mg_8 (List.mem_of_getElem? (i := 59) rfl) rfl) c_X12_quarrelRow (sx_istore dX12_keepsQuarrel_45 (by decide) (sx_aload_n dX12_keepsQuarrel_47 rfl (sx_getR dX12_keepsQuarrel_48 fl_FootQuarrelModel_7 (fun _ _ _ => rfl) (sx_iload dX12_keepsQuarrel_51 (sx_aload_n dX12_keepsQuarrel_53 rfl (sx_getR dX12_keepsQuarrel_54 fl_FootQuarrelModel_7 (fun _ _ _ => rfl) (sx_bipush dX12_keepsQuarrel_57 rfl (sx_iald dX12_keepsQuarrel_59 (sx_iast dX12_keepsQuarrel_60 (sx_aload_n dX12_keepsQuarrel_61 rfl (sx_getR dX12_keepsQuarrel_62 fl_FootQuarrelModel_7 (fun _ _ _ => rfl) (sx_iload dX12_keepsQuarrel_65 (sx_iconst dX12_keepsQuarrel_67 rfl (sx_iadd dX12_keepsQuarrel_68 (sx_aload_n dX12_keepsQuarrel_69 rfl (sx_iload_n dX12_keepsQuarrel_70 rfl (sx_vcall dX12_keepsQuarrel_71 cf_X12_homeOf (mg_8 (List.mem_of_getElem? (i := 26) rfl) rfl) (mg_8 (List.mem_of_getElem? (i := 28) rfl) rfl) (mg_p (List.mem_of_getElem? (i := 83) rfl) rfl) rfl c_X12_homeOf (sx_aload_n dX12_keepsQuarrel_74 rfl (sx_iload_n dX12_keepsQuarrel_75 rfl (sx_vcall dX12_keepsQuarrel_76 cf_X12_homeOf (mg_8 (List.mem_of_getElem? (i := 26) rfl) rfl) (mg_8 (List.mem_of_getElem? (i := 28) rfl) rfl) (mg_p (List.mem_of_getElem? (i := 83) rfl) rfl) rfl c_X12_homeOf (sx_min dX12_keepsQuarrel_79 (mg_7 (List.mem_of_getElem? (i := 127) rfl) rfl) (mg_3 (List.mem_of_getElem? (i := 179) rfl) rfl) (mg_1 (List.mem_of_getElem? (i := 18) rfl) rfl) (mg_3 (List.mem_of_getElem? (i := 180) rfl) rfl) (sx_iast dX12_keepsQuarrel_82 (sx_aload_n dX12_keepsQuarrel_83 rfl (sx_getR dX12_keepsQuarrel_84 fl_FootQuarrelModel_7 (fun _ _ _ => rfl) (sx_iload dX12_keepsQuarrel_87 (sx_iconst dX12_keepsQuarrel_89 rfl (sx_iadd dX12_keepsQuarrel_90 (sx_iload_n dX12_keepsQuarrel_91 rfl (sx_iast dX12_keepsQuarrel_92 (sx_aload_n dX12_keepsQuarrel_93 rfl (sx_getR dX12_keepsQuarrel_94 fl_FootQuarrelModel_7 (fun _ _ _ => rfl) (sx_iload dX12_keepsQuarrel_97 (sx_iconst dX12_keepsQuarrel_99 rfl (sx_iadd dX12_keepsQuarrel_100 (sx_iconst dX12_keepsQuarrel_101 rfl (sx_iadd dX12_keepsQuarrel_102 (sx_iload_n dX12_keepsQuarrel_103 rfl (sx_iast dX12_keepsQuarrel_104 (sx_aload_n dX12_keepsQuarrel_105 rfl (sx_getR dX12_keepsQuarrel_106 fl_FootQuarrelModel_7 (fun _ _ _ => rfl) (sx_iload dX12_keepsQuarrel_109 (sx_iconst dX12_keepsQuarrel_111 rfl (sx_iadd dX12_keepsQuarrel_112 (sx_iload_n dX12_keepsQuarrel_113 rfl (sx_iast dX12_keepsQuarrel_114 (sx_aload_n dX12_keepsQuarrel_115 rfl (sx_getR dX12_keepsQuarrel_116 fl_FootQuarrelModel_7 (fun _ _ _ => rfl) (sx_iload dX12_keepsQuarrel_119 (sx_iconst dX12_keepsQuarrel_121 rfl (sx_iadd dX12_keepsQuarrel_122 (sx_iload dX12_keepsQuarrel_123 (sx_iast dX12_keepsQuarrel_125 (sx_aload_n dX12_keepsQuarrel_126 rfl (sx_getR dX12_keepsQuarrel_127 fl_FootQuarrelModel_7 (fun _ _ _ => rfl) (sx_iload dX12_keepsQuarrel_130 (sx_bipush dX12_keepsQuarrel_132 rfl (sx_iadd dX12_keepsQuarrel_134 (sx_iconst dX12_keepsQuarrel_135 rfl (sx_iast dX12_keepsQuarrel_136 (sx_aload_n dX12_keepsQuarrel_137 rfl (sx_getR dX12_keepsQuarrel_138 fl_FootQuarrelModel_7 (fun _ _ _ => rfl) (sx_iconst dX12_keepsQuarrel_141 rfl (sx_bipush dX12_keepsQuarrel_142 rfl (sx_aload_n dX12_keepsQuarrel_144 rfl (sx_getR dX12_keepsQuarrel_145 fl_FootQuarrelModel_7 (fun _ _ _ => rfl) (sx_iconst dX12_keepsQuarrel_148 rfl (sx_iald dX12_keepsQuarrel_149 (sx_iconst dX12_keepsQuarrel_150 rfl (sx_iadd dX12_keepsQuarrel_151 (sx_min dX12_keepsQuarrel_152 (mg_7 (List.mem_of_getElem? (i := 127) rfl) rfl) (mg_3 (List.mem_of_getElem? (i := 179) rfl) rfl) (mg_1 (List.mem_of_getElem? (i := 18) rfl) rfl) (mg_3 (List.mem_of_getElem? (i := 180) rfl) rfl) (sx_iast dX12_keepsQuarrel_155 (sx_vret dX12_keepsQuarrel_156 rfl)))))))))))))))))))))))))))))))))))))))))))))))))))))))))))))))))))))))))) (sx_aload_n dX12_keepsQuarrel_18 rfl (sx_getR dX12_keepsQuarrel_19 fl_FootQuarrelModel_7 (fun _ _ _ => rfl) (sx_iload dX12_keepsQuarrel_22 (sx_aload_n dX12_keepsQuarrel_24 rfl (sx_getR dX12_keepsQuarrel_25 fl_FootQuarrelModel_7 (fun _ _ _ => rfl) (sx_iload dX12_keepsQuarrel_28 (sx_bipush dX12_keepsQuarrel_30 rfl (sx_isub dX12_keepsQuarrel_32 (sx_iald dX12_keepsQuarrel_33 (sx_iast dX12_keepsQuarrel_34 (sx_iinc dX12_keepsQuarrel_35 rfl (by decide) (sx_goto 9 dX12_keepsQuarrel_38 (by decide) ((fun _ _ _ _ _ _ _ _ h => h)))))))))))))))))
def B_X12_keepsQuarrel_0 (l : Launch) (G : GT) (D mc ms : Nat) (Q : Post) : Cn := ix_pushI 20 (ix_call 1 0 0 mc ms (sp_X12_quarrelRow G) (ix_pushI 1 (ix_isub (ix_istore 5 (fqAt l G M_X12_keepsQuarrel (D + 3) mc ms Q 9)))))
theorem b_X12_keepsQuarrel_0 {l : Launch} {G : GT} {D mc ms : Nat} {Q : Post} : Imp l G M_X12_keepsQuarrel (D + 3) mc ms Q (B_X12_keepsQuarrel_0 l G D mc ms Q) 0 := sx_bipush dX12_keepsQuarrel_0 rfl (sx_scall dX12_keepsQuarrel_2 cf_X12_quarrelRow (mg_8 (List.mem_of_getElem? (i := 58) rfl) rfl) (mg_8 (List.mem_of_getElem? (i := 59) rfl) rfl) c_X12_quarrelRow (sx_iconst dX12_keepsQuarrel_5 rfl (sx_isub dX12_keepsQuarrel_6 (sx_istore dX12_keepsQuarrel_7 (by decide) ((fun _ _ _ _ _ _ _ _ h => h))))))
def sp_X12_shouts (G : GT) : Sp := fun as S I J z Q => match as with
  | [.ref M, .int p, .int v] => rfS S M ∧ vp_in p 8 ∧ (10 ≤ v + I (M + 1) (30 + 7 * p.toNatClampNeg + 2) → (I (M + 1) (30 + 7 * p.toNatClampNeg + 1) < I (M + 1) (30 + 7 * p.toNatClampNeg + 5) + v → Q (some (.int 1)) S (up1 I (M + 1) (uA (uA (uA (I (M + 1)) (30 + 7 * p.toNatClampNeg + 5) 0) (30 + 7 * p.toNatClampNeg + 6) (I (M + 1) (30 + 7 * p.toNatClampNeg + 6) + 1)) 10 (I (M + 1) 10 + 1))) J z) ∧ (¬ I (M + 1) (30 + 7 * p.toNatClampNeg + 1) < I (M + 1) (30 + 7 * p.toNatClampNeg + 5) + v → Q (some (.int 0)) S (up1 I (M + 1) (uA (I (M + 1)) (30 + 7 * p.toNatClampNeg + 5) (I (M + 1) (30 + 7 * p.toNatClampNeg + 5) + v))) J z)) ∧ (¬ 10 ≤ v + I (M + 1) (30 + 7 * p.toNatClampNeg + 2) → Q (some (.int 0)) S I J z)
  | _ => False
set_option maxHeartbeats 4000000 in
set_option maxRecDepth 20000 in
theorem c_X12_shouts {l : Launch} {G : GT} {D : Nat} : ∀ as S I J z Q, sp_X12_shouts G as S I J z Q → fqCall l G M_X12_shouts (D + 3) 0 0 as S I J z Q := by
  intro as S I J z Q h
  unfold sp_X12_shouts at h
  split at h
  · next M p v =>
    obtain ⟨hm, hp, h1, h2⟩ := h
    obtain ⟨p, hp9, rfl⟩ := vp_in_of hp (by decide)
    rw [nI_clamp (by omega)] at h1 h2
    refine fq_enter [some (.ref M), some (.int (nI p)), some (.int v)] (by decide +kernel) (Nat.le_of_ble_eq_true rfl) rfl (b_X12_shouts_0 _ _ _ _ _ _ _ _ ?_)
    simp (disch := omega) only [B_X12_shouts_0, sp_X12_doesHear, sp_X12_personRow, B_X12_personRow_0, sp_X12_personOf, B_X12_personOf_0, hm, hm.k, hm.k1, hm.n1, hm.r1, hm.k2, hm.n2, hm.r2, hm.k3, hm.n3, hm.r3, hm.k4, hm.n4, hm.r4, hm.k5, hm.n5, hm.r5, hm.k6, hm.n6, hm.r6, hm.k7, hm.n7, hm.r7, hm.k8, hm.n8, hm.r8, hm.k9, hm.n9, hm.r9, hm.k10, hm.n10, hm.r10, hm.k11, hm.n11, hm.r11, hm.k12, hm.n12, hm.r12, hm.k13, hm.n13, hm.r13, hm.k14, hm.n14, hm.r14, li_2, li_3, li_4, li_5, li_6, li_7, li_8, li_9, li_10, li_11, li_12, li_13, li_14, li_15, li_16, li_17, li_18, li_19, li_20, li_21, li_22, li_23, li_24, li_25, li_26, li_27, li_28, li_29, li_30, li_32, li_33, li_34, li_35, li_36, li_37, li_38, li_39, li_40, li_41, li_42, li_43, li_44, li_45, li_46, li_47, li_48, li_49, li_50, li_51, li_52, li_53, li_54, li_55, li_56, li_57, li_58, li_59, li_60, li_61, li_62, li_63, li_64, li_65, li_66, li_67, li_68, li_69, li_70, li_71, li_72, li_73, li_74, li_75, li_76, li_77, li_78, li_79, li_80, li_81, li_82, li_83, li_84, li_85, li_86, li_87, li_88, li_89, li_90, li_91, li_92, li_93, li_94, li_95, li_96, li_97, li_98, li_99, li_100, li_101, li_102, li_103, li_104, li_105, li_106, li_107, li_108, li_109, li_110, li_111, li_112, li_113, li_114, li_115, li_116, li_117, li_118, li_119, li_120, li_121, li_122, li_123, li_124, li_125, li_126, li_127, li_128, li_129, li_130, li_131, li_226, li_240, li_255, li_300, li_586, li_594, li_900, li_999, li_1000, li_1800, li_2376, li_2388, li_2406, li_2602, li_2970, li_3067, li_3564, li_9999, li_10000, li_11287, li_65536, li_100000, li_1000000, nI_mul, tn0, tn1, vin0, vin1, Int32.add_zero, Int32.or_zero, Int32.mul_one, Int32.mul_zero, Int32.zero_add, Nat.reduceEqDiff, Nat.reduceMul, Nat.reduceSub, bI_01, bI_01b, bI_0, u2_up, u2_up0 I (M + 1), up1_at, uA_e, uA_n, uA_uA, nI_1, nI_add, nI_clamp, nI_pin, nI_neg, nI_nonneg, nI_leE, nI_ltE, nI_eqE, Nat.not_le, Nat.not_lt, fq_10, fq_01, fq_rr, ix_aald, ix_aast, ix_abs, ix_alen, ix_aload, ix_aret, ix_astore, ix_bald, ix_bast, ix_call, ix_cpyI, ix_cpyJ, ix_dead, ix_dup2, ix_dup2L, ix_dupI, ix_dupR, ix_dupx1, ix_getI, ix_getJ, ix_getR, ix_gfm, ix_gtab, ix_i2b, ix_i2c, ix_i2l, ix_i2s, ix_iadd, ix_iald, ix_iand, ix_iast, ix_icall, ix_icmp_eq, ix_icmp_ge, ix_icmp_gt, ix_icmp_le, ix_icmp_lt, ix_icmp_ne, ix_idiv, ix_if_eq, ix_if_ge, ix_if_gt, ix_if_le, ix_if_lt, ix_if_ne, ix_iinc, ix_iload, ix_imul, ix_ineg, ix_ior, ix_irem, ix_iret, ix_ishl, ix_ishr, ix_istore, ix_isub, ix_iushr, ix_ixor, ix_l2i, ix_ladd, ix_lald, ix_land, ix_last, ix_lcmp, ix_ldcS, ix_ldiv, ix_lload, ix_lmul, ix_lor, ix_lrem, ix_lret, ix_lshl, ix_lstore, ix_lsub, ix_lsw, ix_max, ix_min, ix_new, ix_newa, ix_nret, ix_oinit, ix_pop2L, ix_popI, ix_pushI, ix_pushL, ix_putI, ix_putJ, ix_putR, ix_putZ, ix_sbald, ix_sgetC, ix_sgetV, ix_slen, ix_strc, ix_tald, ix_tsw, ix_vcall, ix_vret, ix_zret, stL, stL2, kilL, popN, fq_sw, fq_lsw, List.map_cons, List.map_nil, List.getElem?_cons_zero, List.getElem?_cons_succ, Option.toList_some, Option.toList_none, List.cons_append, List.nil_append, List.length_cons, List.length_nil, List.sum_cons, List.sum_nil, cat_i, cat_l, cat_r, true_and, and_true, Nat.zero_add, Nat.add_zero, Nat.le_refl, Nat.zero_le, Nat.reduceAdd, Nat.reduceLeDiff, exists_eq_left', Option.some.injEq, not_true_eq_false, not_false_eq_true, false_implies, true_implies, implies_true, and_self, or_true, true_or, or_false, false_or]
    simp only [li_10] at h1 h2
    grind
  · exact h.elim
def sp_X12_goesInto (G : GT) : Sp := fun as S I J z Q => match as with
  | [.ref M, .int h, .int f, .int ft] => rfS S M ∧ vp_in h 6 ∧ vp_in f 6 ∧ ¬ h.toNatClampNeg = f.toNatClampNeg ∧ Q (some (.int (mnI ft (I (M + 1) (12 + 3 * h.toNatClampNeg))))) S (up1 I (M + 1) (uA (uA (I (M + 1)) (12 + 3 * h.toNatClampNeg) (I (M + 1) (12 + 3 * h.toNatClampNeg) - mnI ft (I (M + 1) (12 + 3 * h.toNatClampNeg)))) (12 + 3 * f.toNatClampNeg) (I (M + 1) (12 + 3 * f.toNatClampNeg) + mnI ft (I (M + 1) (12 + 3 * h.toNatClampNeg))))) J z
  | _ => False
set_option maxHeartbeats 4000000 in
set_option maxRecDepth 20000 in
theorem c_X12_goesInto {l : Launch} {G : GT} {D : Nat} : ∀ as S I J z Q, sp_X12_goesInto G as S I J z Q → fqCall l G M_X12_goesInto (D + 2) 0 0 as S I J z Q := by
  intro as S I J z Q h
  unfold sp_X12_goesInto at h
  split at h
  · next M h f ft =>
    obtain ⟨hm, hh, hf, hn, hQ⟩ := h
    obtain ⟨h, hh9, rfl⟩ := vp_in_of hh (by decide)
    obtain ⟨f, hf9, rfl⟩ := vp_in_of hf (by decide)
    rw [nI_clamp (by omega), nI_clamp (by omega)] at hQ hn
    refine fq_enter [some (.ref M), some (.int (nI h)), some (.int (nI f)), some (.int ft), none] (by decide +kernel) (Nat.le_of_ble_eq_true rfl) rfl (b_X12_goesInto_0 _ _ _ _ _ _ _ _ ?_)
    simp (disch := omega) only [B_X12_goesInto_0, sp_X12_wideOf, B_X12_wideOf_0, sp_X12_houseRow, B_X12_houseRow_0, hm, hm.k, hm.k1, hm.n1, hm.r1, hm.k2, hm.n2, hm.r2, hm.k3, hm.n3, hm.r3, hm.k4, hm.n4, hm.r4, hm.k5, hm.n5, hm.r5, hm.k6, hm.n6, hm.r6, hm.k7, hm.n7, hm.r7, hm.k8, hm.n8, hm.r8, hm.k9, hm.n9, hm.r9, hm.k10, hm.n10, hm.r10, hm.k11, hm.n11, hm.r11, hm.k12, hm.n12, hm.r12, hm.k13, hm.n13, hm.r13, hm.k14, hm.n14, hm.r14, li_2, li_3, li_4, li_5, li_6, li_7, li_8, li_9, li_10, li_11, li_12, li_13, li_14, li_15, li_16, li_17, li_18, li_19, li_20, li_21, li_22, li_23, li_24, li_25, li_26, li_27, li_28, li_29, li_30, li_32, li_33, li_34, li_35, li_36, li_37, li_38, li_39, li_40, li_41, li_42, li_43, li_44, li_45, li_46, li_47, li_48, li_49, li_50, li_51, li_52, li_53, li_54, li_55, li_56, li_57, li_58, li_59, li_60, li_61, li_62, li_63, li_64, li_65, li_66, li_67, li_68, li_69, li_70, li_71, li_72, li_73, li_74, li_75, li_76, li_77, li_78, li_79, li_80, li_81, li_82, li_83, li_84, li_85, li_86, li_87, li_88, li_89, li_90, li_91, li_92, li_93, li_94, li_95, li_96, li_97, li_98, li_99, li_100, li_101, li_102, li_103, li_104, li_105, li_106, li_107, li_108, li_109, li_110, li_111, li_112, li_113, li_114, li_115, li_116, li_117, li_118, li_119, li_120, li_121, li_122, li_123, li_124, li_125, li_126, li_127, li_128, li_129, li_130, li_131, li_226, li_240, li_255, li_300, li_586, li_594, li_900, li_999, li_1000, li_1800, li_2376, li_2388, li_2406, li_2602, li_2970, li_3067, li_3564, li_9999, li_10000, li_11287, li_65536, li_100000, li_1000000, nI_mul, tn0, tn1, vin0, vin1, Int32.add_zero, Int32.or_zero, Int32.mul_one, Int32.mul_zero, Int32.zero_add, Nat.reduceEqDiff, Nat.reduceMul, Nat.reduceSub, bI_01, bI_01b, bI_0, u2_up, u2_up0 I (M + 1), up1_at, uA_e, uA_n, uA_uA, nI_1, nI_add, nI_clamp, nI_pin, nI_neg, nI_nonneg, nI_leE, nI_ltE, nI_eqE, Nat.not_le, Nat.not_lt, fq_10, fq_01, fq_rr, ix_aald, ix_aast, ix_abs, ix_alen, ix_aload, ix_aret, ix_astore, ix_bald, ix_bast, ix_call, ix_cpyI, ix_cpyJ, ix_dead, ix_dup2, ix_dup2L, ix_dupI, ix_dupR, ix_dupx1, ix_getI, ix_getJ, ix_getR, ix_gfm, ix_gtab, ix_i2b, ix_i2c, ix_i2l, ix_i2s, ix_iadd, ix_iald, ix_iand, ix_iast, ix_icall, ix_icmp_eq, ix_icmp_ge, ix_icmp_gt, ix_icmp_le, ix_icmp_lt, ix_icmp_ne, ix_idiv, ix_if_eq, ix_if_ge, ix_if_gt, ix_if_le, ix_if_lt, ix_if_ne, ix_iinc, ix_iload, ix_imul, ix_ineg, ix_ior, ix_irem, ix_iret, ix_ishl, ix_ishr, ix_istore, ix_isub, ix_iushr, ix_ixor, ix_l2i, ix_ladd, ix_lald, ix_land, ix_last, ix_lcmp, ix_ldcS, ix_ldiv, ix_lload, ix_lmul, ix_lor, ix_lrem, ix_lret, ix_lshl, ix_lstore, ix_lsub, ix_lsw, ix_max, ix_min, ix_new, ix_newa, ix_nret, ix_oinit, ix_pop2L, ix_popI, ix_pushI, ix_pushL, ix_putI, ix_putJ, ix_putR, ix_putZ, ix_sbald, ix_sgetC, ix_sgetV, ix_slen, ix_strc, ix_tald, ix_tsw, ix_vcall, ix_vret, ix_zret, stL, stL2, kilL, popN, fq_sw, fq_lsw, List.map_cons, List.map_nil, List.getElem?_cons_zero, List.getElem?_cons_succ, Option.toList_some, Option.toList_none, List.cons_append, List.nil_append, List.length_cons, List.length_nil, List.sum_cons, List.sum_nil, cat_i, cat_l, cat_r, true_and, and_true, Nat.zero_add, Nat.add_zero, Nat.le_refl, Nat.zero_le, Nat.reduceAdd, Nat.reduceLeDiff, exists_eq_left', Option.some.injEq, not_true_eq_false, not_false_eq_true, false_implies, true_implies, implies_true, and_self, or_true, true_or, or_false, false_or]
    exact hQ
  · exact h.elim
def sp_X12_isWeather (G : GT) : Sp := fun as S I J z Q => match as with
  | [.ref M, .int r] => rfS S M ∧ Q (some (.int (bI (¬ I (M + 1) 7 = r)))) S (up1 I (M + 1) (uA (I (M + 1)) 7 r)) J z
  | _ => False
set_option maxHeartbeats 4000000 in
set_option maxRecDepth 20000 in
theorem c_X12_isWeather {l : Launch} {G : GT} {D : Nat} : ∀ as S I J z Q, sp_X12_isWeather G as S I J z Q → fqCall l G M_X12_isWeather (D + 0) 0 0 as S I J z Q := by
  intro as S I J z Q h
  unfold sp_X12_isWeather at h
  split at h
  · next M r =>
    obtain ⟨hm, hQ⟩ := h
    refine fq_enter [some (.ref M), some (.int r), none] (by decide +kernel) (Nat.le_of_ble_eq_true rfl) rfl (b_X12_isWeather_0 _ _ _ _ _ _ _ _ ?_)
    simp (disch := omega) only [B_X12_isWeather_0, B_X12_isWeather_16, hm, hm.k, hm.k1, hm.n1, hm.r1, hm.k2, hm.n2, hm.r2, hm.k3, hm.n3, hm.r3, hm.k4, hm.n4, hm.r4, hm.k5, hm.n5, hm.r5, hm.k6, hm.n6, hm.r6, hm.k7, hm.n7, hm.r7, hm.k8, hm.n8, hm.r8, hm.k9, hm.n9, hm.r9, hm.k10, hm.n10, hm.r10, hm.k11, hm.n11, hm.r11, hm.k12, hm.n12, hm.r12, hm.k13, hm.n13, hm.r13, hm.k14, hm.n14, hm.r14, li_2, li_3, li_4, li_5, li_6, li_7, li_8, li_9, li_10, li_11, li_12, li_13, li_14, li_15, li_16, li_17, li_18, li_19, li_20, li_21, li_22, li_23, li_24, li_25, li_26, li_27, li_28, li_29, li_30, li_32, li_33, li_34, li_35, li_36, li_37, li_38, li_39, li_40, li_41, li_42, li_43, li_44, li_45, li_46, li_47, li_48, li_49, li_50, li_51, li_52, li_53, li_54, li_55, li_56, li_57, li_58, li_59, li_60, li_61, li_62, li_63, li_64, li_65, li_66, li_67, li_68, li_69, li_70, li_71, li_72, li_73, li_74, li_75, li_76, li_77, li_78, li_79, li_80, li_81, li_82, li_83, li_84, li_85, li_86, li_87, li_88, li_89, li_90, li_91, li_92, li_93, li_94, li_95, li_96, li_97, li_98, li_99, li_100, li_101, li_102, li_103, li_104, li_105, li_106, li_107, li_108, li_109, li_110, li_111, li_112, li_113, li_114, li_115, li_116, li_117, li_118, li_119, li_120, li_121, li_122, li_123, li_124, li_125, li_126, li_127, li_128, li_129, li_130, li_131, li_226, li_240, li_255, li_300, li_586, li_594, li_900, li_999, li_1000, li_1800, li_2376, li_2388, li_2406, li_2602, li_2970, li_3067, li_3564, li_9999, li_10000, li_11287, li_65536, li_100000, li_1000000, nI_mul, tn0, tn1, vin0, vin1, Int32.add_zero, Int32.or_zero, Int32.mul_one, Int32.mul_zero, Int32.zero_add, Nat.reduceEqDiff, Nat.reduceMul, Nat.reduceSub, bI_01, bI_01b, bI_0, u2_up, u2_up0 I (M + 1), up1_at, nI_1, nI_add, nI_clamp, nI_pin, nI_neg, nI_nonneg, nI_leE, nI_ltE, nI_eqE, Nat.not_le, Nat.not_lt, fq_10, fq_01, fq_rr, ix_aald, ix_aast, ix_abs, ix_alen, ix_aload, ix_aret, ix_astore, ix_bald, ix_bast, ix_call, ix_cpyI, ix_cpyJ, ix_dead, ix_dup2, ix_dup2L, ix_dupI, ix_dupR, ix_dupx1, ix_getI, ix_getJ, ix_getR, ix_gfm, ix_gtab, ix_i2b, ix_i2c, ix_i2l, ix_i2s, ix_iadd, ix_iald, ix_iand, ix_iast, ix_icall, ix_icmp_eq, ix_icmp_ge, ix_icmp_gt, ix_icmp_le, ix_icmp_lt, ix_icmp_ne, ix_idiv, ix_if_eq, ix_if_ge, ix_if_gt, ix_if_le, ix_if_lt, ix_if_ne, ix_iinc, ix_iload, ix_imul, ix_ineg, ix_ior, ix_irem, ix_iret, ix_ishl, ix_ishr, ix_istore, ix_isub, ix_iushr, ix_ixor, ix_l2i, ix_ladd, ix_lald, ix_land, ix_last, ix_lcmp, ix_ldcS, ix_ldiv, ix_lload, ix_lmul, ix_lor, ix_lrem, ix_lret, ix_lshl, ix_lstore, ix_lsub, ix_lsw, ix_max, ix_min, ix_new, ix_newa, ix_nret, ix_oinit, ix_pop2L, ix_popI, ix_pushI, ix_pushL, ix_putI, ix_putJ, ix_putR, ix_putZ, ix_sbald, ix_sgetC, ix_sgetV, ix_slen, ix_strc, ix_tald, ix_tsw, ix_vcall, ix_vret, ix_zret, stL, stL2, kilL, popN, fq_sw, fq_lsw, List.map_cons, List.map_nil, List.getElem?_cons_zero, List.getElem?_cons_succ, Option.toList_some, Option.toList_none, List.cons_append, List.nil_append, List.length_cons, List.length_nil, List.sum_cons, List.sum_nil, cat_i, cat_l, cat_r, true_and, and_true, Nat.zero_add, Nat.add_zero, Nat.le_refl, Nat.zero_le, Nat.reduceAdd, Nat.reduceLeDiff, exists_eq_left', Option.some.injEq, not_true_eq_false, not_false_eq_true, false_implies, true_implies, implies_true, and_self, or_true, true_or, or_false, false_or]
    grind [bI]
  · exact h.elim
/-- the row with a quarrel more -/
def shq (A : Nat → Int32) (m : Nat) : Nat → Int32 := fun k => if m < k ∧ k ≤ 225 then A (k - 7) else A k
def kqA (A : Nat → Int32) (wl on ot mn ft : Int32) : Nat → Int32 := fun k => if 93 ≤ k ∧ k ≤ 225 then A (k - 7) else if k = 86 then A 6 else if k = 87 then wl else if k = 88 then on else if k = 89 then ot else if k = 90 then mn else if k = 91 then ft else if k = 92 then 0 else if k = 2 then nI (min ((A 2).toNatClampNeg + 1) 20) else A k
theorem shq_n (A : Nat → Int32) (n : Nat) (h : n ≤ 132) : uA (shq A (92 + n + 1)) (92 + n + 1) (shq A (92 + n + 1) (86 + n)) = shq A (92 + n) := by
  funext k
  unfold uA shq
  by_cases h1 : k = 92 + n + 1
  · subst h1
    rw [if_pos rfl, if_neg (by omega), if_pos (by omega), show 92 + n + 1 - 7 = 86 + n by omega]
  · rw [if_neg h1]
    by_cases h2 : 92 + n + 1 < k ∧ k ≤ 225
    · rw [if_pos h2, if_pos (by omega)]
    · rw [if_neg h2, if_neg (by omega)]
theorem shq_0 (A : Nat → Int32) : shq A 225 = A := by
  funext k
  unfold shq
  rw [if_neg (by omega)]
theorem shq_o (A : Nat → Int32) (m k : Nat) (h : k ≤ m) : shq A m k = A k := by
  unfold shq
  rw [if_neg (by omega)]
theorem mi20 : ∀ n, n < 21 → (if nI (n + 1) < nI 20 then nI (n + 1) else nI 20) = nI (min (n + 1) 20) := by decide +kernel
theorem nI_dec (n : Nat) : nI (n + 1) + -1 = nI n := by
  have := nI_pred n
  rw [Int32.sub_eq_add_neg] at this
  exact this
theorem n_sub7 (n : Nat) : nI (n + 7) - nI 7 = nI n := by
  rw [← nI_add]
  exact Int32.add_sub_cancel _ _
theorem kq_e (A : Nat → Int32) (w on ot mn ft : Int32) (c : Nat) (hc : (A 2).toNatClampNeg = c) : uA (uA (uA (uA (uA (uA (uA (uA (shq A 92) 86 (A 6)) 87 w) 88 on) 89 ot) 90 mn) 91 ft) 92 0) 2 (if c + 1 < 20 then nI (c + 1) else nI 20) = kqA A w on ot mn ft := by
  have e : (if c + 1 < 20 then nI (c + 1) else nI 20) = nI (min (c + 1) 20) := by
    split
    · rw [show min (c + 1) 20 = c + 1 by omega]
    · rw [show min (c + 1) 20 = 20 by omega]
  rw [e]
  funext k
  unfold uA kqA shq
  rw [hc]
  generalize nI (min (c + 1) 20) = r
  grind (splits := 20)
def sp_X12_keepsQuarrel (G : GT) : Sp := fun as S I J z Q => match as with
  | [.ref M, .int a, .int b, .int mn, .int ft] => rfS S M ∧ vp_in a 8 ∧ vp_in b 8 ∧ okN (I (M + 1) 2) 20 ∧ Q none S (up1 I (M + 1) (kqA (I (M + 1)) (mnI (I (M + 1) (30 + 7 * a.toNatClampNeg)) (I (M + 1) (30 + 7 * b.toNatClampNeg))) a b mn ft)) J z
  | _ => False
set_option maxHeartbeats 4000000 in
set_option maxRecDepth 20000 in
theorem c_X12_keepsQuarrel {l : Launch} {G : GT} {D : Nat} : ∀ as S I J z Q, sp_X12_keepsQuarrel G as S I J z Q → fqCall l G M_X12_keepsQuarrel (D + 3) 0 0 as S I J z Q := by
  intro as S I J z Q h
  unfold sp_X12_keepsQuarrel at h
  split at h
  · next M a b mn ft =>
    obtain ⟨hm, ha, hb, ho, hQ⟩ := h
    obtain ⟨a, ha9, rfl⟩ := vp_in_of ha (by decide)
    obtain ⟨b, hb9, rfl⟩ := vp_in_of hb (by decide)
    obtain ⟨c, hc, hc1, hc2⟩ := ho.ex
    rw [nI_clamp (by omega), nI_clamp (by omega)] at hQ
    have m20 := mi20 c (by omega)
    have lp : ∀ n, n ≤ 133 → fqAt l G M_X12_keepsQuarrel (D + 3) 0 0 Q 9 [some (.ref M), some (.int (nI a)), some (.int (nI b)), some (.int mn), some (.int ft), some (.int (nI (92 + n)))] [] S (up1 I (M + 1) (shq (I (M + 1)) (92 + n))) J z 0 0 := by
      intro n
      induction n with
      | zero =>
        intro hn
        refine b_X12_keepsQuarrel_9 _ _ _ _ _ _ _ _ ?_
        simp (disch := omega) only [B_X12_keepsQuarrel_0, B_X12_keepsQuarrel_9, sp_X12_quarrelRow, B_X12_quarrelRow_0, sp_X12_homeOf, B_X12_homeOf_0, sp_X12_personOf, B_X12_personOf_0, sp_X12_personRow, B_X12_personRow_0, hm, hm.k, hm.k1, hm.n1, hm.r1, hm.k2, hm.n2, hm.r2, hm.k3, hm.n3, hm.r3, hm.k4, hm.n4, hm.r4, hm.k5, hm.n5, hm.r5, hm.k6, hm.n6, hm.r6, hm.k7, hm.n7, hm.r7, hm.k8, hm.n8, hm.r8, hm.k9, hm.n9, hm.r9, hm.k10, hm.n10, hm.r10, hm.k11, hm.n11, hm.r11, hm.k12, hm.n12, hm.r12, hm.k13, hm.n13, hm.r13, hm.k14, hm.n14, hm.r14, li_2, li_3, li_4, li_5, li_6, li_7, li_8, li_9, li_10, li_11, li_12, li_13, li_14, li_15, li_16, li_17, li_18, li_19, li_20, li_21, li_22, li_23, li_24, li_25, li_26, li_27, li_28, li_29, li_30, li_32, li_33, li_34, li_35, li_36, li_37, li_38, li_39, li_40, li_41, li_42, li_43, li_44, li_45, li_46, li_47, li_48, li_49, li_50, li_51, li_52, li_53, li_54, li_55, li_56, li_57, li_58, li_59, li_60, li_61, li_62, li_63, li_64, li_65, li_66, li_67, li_68, li_69, li_70, li_71, li_72, li_73, li_74, li_75, li_76, li_77, li_78, li_79, li_80, li_81, li_82, li_83, li_84, li_85, li_86, li_87, li_88, li_89, li_90, li_91, li_92, li_93, li_94, li_95, li_96, li_97, li_98, li_99, li_100, li_101, li_102, li_103, li_104, li_105, li_106, li_107, li_108, li_109, li_110, li_111, li_112, li_113, li_114, li_115, li_116, li_117, li_118, li_119, li_120, li_121, li_122, li_123, li_124, li_125, li_126, li_127, li_128, li_129, li_130, li_131, li_226, li_240, li_255, li_300, li_586, li_594, li_900, li_999, li_1000, li_1800, li_2376, li_2388, li_2406, li_2602, li_2970, li_3067, li_3564, li_9999, li_10000, li_11287, li_65536, li_100000, li_1000000, nI_mul, tn0, tn1, vin0, vin1, Int32.add_zero, Int32.or_zero, Int32.mul_one, Int32.mul_zero, Int32.zero_add, Nat.reduceEqDiff, Nat.reduceMul, Nat.reduceSub, u2_up, up1_at, uA_e, uA_n, shq_o, hc1, nI_1, nI_add, nI_clamp, nI_pin, nI_neg, nI_nonneg, nI_leE, nI_ltE, nI_eqE, Nat.not_le, Nat.not_lt, fq_10, fq_01, fq_rr, ix_aald, ix_aast, ix_abs, ix_alen, ix_aload, ix_aret, ix_astore, ix_bald, ix_bast, ix_call, ix_cpyI, ix_cpyJ, ix_dead, ix_dup2, ix_dup2L, ix_dupI, ix_dupR, ix_dupx1, ix_getI, ix_getJ, ix_getR, ix_gfm, ix_gtab, ix_i2b, ix_i2c, ix_i2l, ix_i2s, ix_iadd, ix_iald, ix_iand, ix_iast, ix_icall, ix_icmp_eq, ix_icmp_ge, ix_icmp_gt, ix_icmp_le, ix_icmp_lt, ix_icmp_ne, ix_idiv, ix_if_eq, ix_if_ge, ix_if_gt, ix_if_le, ix_if_lt, ix_if_ne, ix_iinc, ix_iload, ix_imul, ix_ineg, ix_ior, ix_irem, ix_iret, ix_ishl, ix_ishr, ix_istore, ix_isub, ix_iushr, ix_ixor, ix_l2i, ix_ladd, ix_lald, ix_land, ix_last, ix_lcmp, ix_ldcS, ix_ldiv, ix_lload, ix_lmul, ix_lor, ix_lrem, ix_lret, ix_lshl, ix_lstore, ix_lsub, ix_lsw, ix_max, ix_min, ix_new, ix_newa, ix_nret, ix_oinit, ix_pop2L, ix_popI, ix_pushI, ix_pushL, ix_putI, ix_putJ, ix_putR, ix_putZ, ix_sbald, ix_sgetC, ix_sgetV, ix_slen, ix_strc, ix_tald, ix_tsw, ix_vcall, ix_vret, ix_zret, stL, stL2, kilL, popN, fq_sw, fq_lsw, List.map_cons, List.map_nil, List.getElem?_cons_zero, List.getElem?_cons_succ, Option.toList_some, Option.toList_none, List.cons_append, List.nil_append, List.length_cons, List.length_nil, List.sum_cons, List.sum_nil, cat_i, cat_l, cat_r, true_and, and_true, Nat.zero_add, Nat.add_zero, Nat.le_refl, Nat.zero_le, Nat.reduceAdd, Nat.reduceLeDiff, exists_eq_left', Option.some.injEq, not_true_eq_false, not_false_eq_true, false_implies, true_implies, implies_true, and_self, or_true, true_or, or_false, false_or]
        intro _
        rw [kq_e _ _ _ _ _ _ c hc2]
        exact hQ
      | succ n ih =>
        intro hn
        have ih := ih (by omega)
        have e1 : nI (92 + n + 1) - nI 7 = nI (86 + n) := by
          rw [show 92 + n + 1 = 86 + n + 7 by omega]
          exact n_sub7 _
        have e2 := shq_n (I (M + 1)) n (by omega)
        have e3 := nI_dec (92 + n)
        rw [show 92 + (n + 1) = 92 + n + 1 by omega]
        refine b_X12_keepsQuarrel_9 _ _ _ _ _ _ _ _ ?_
        simp (disch := omega) only [B_X12_keepsQuarrel_0, B_X12_keepsQuarrel_9, sp_X12_quarrelRow, B_X12_quarrelRow_0, sp_X12_homeOf, B_X12_homeOf_0, sp_X12_personOf, B_X12_personOf_0, sp_X12_personRow, B_X12_personRow_0, hm, hm.k, hm.k1, hm.n1, hm.r1, hm.k2, hm.n2, hm.r2, hm.k3, hm.n3, hm.r3, hm.k4, hm.n4, hm.r4, hm.k5, hm.n5, hm.r5, hm.k6, hm.n6, hm.r6, hm.k7, hm.n7, hm.r7, hm.k8, hm.n8, hm.r8, hm.k9, hm.n9, hm.r9, hm.k10, hm.n10, hm.r10, hm.k11, hm.n11, hm.r11, hm.k12, hm.n12, hm.r12, hm.k13, hm.n13, hm.r13, hm.k14, hm.n14, hm.r14, li_2, li_3, li_4, li_5, li_6, li_7, li_8, li_9, li_10, li_11, li_12, li_13, li_14, li_15, li_16, li_17, li_18, li_19, li_20, li_21, li_22, li_23, li_24, li_25, li_26, li_27, li_28, li_29, li_30, li_32, li_33, li_34, li_35, li_36, li_37, li_38, li_39, li_40, li_41, li_42, li_43, li_44, li_45, li_46, li_47, li_48, li_49, li_50, li_51, li_52, li_53, li_54, li_55, li_56, li_57, li_58, li_59, li_60, li_61, li_62, li_63, li_64, li_65, li_66, li_67, li_68, li_69, li_70, li_71, li_72, li_73, li_74, li_75, li_76, li_77, li_78, li_79, li_80, li_81, li_82, li_83, li_84, li_85, li_86, li_87, li_88, li_89, li_90, li_91, li_92, li_93, li_94, li_95, li_96, li_97, li_98, li_99, li_100, li_101, li_102, li_103, li_104, li_105, li_106, li_107, li_108, li_109, li_110, li_111, li_112, li_113, li_114, li_115, li_116, li_117, li_118, li_119, li_120, li_121, li_122, li_123, li_124, li_125, li_126, li_127, li_128, li_129, li_130, li_131, li_226, li_240, li_255, li_300, li_586, li_594, li_900, li_999, li_1000, li_1800, li_2376, li_2388, li_2406, li_2602, li_2970, li_3067, li_3564, li_9999, li_10000, li_11287, li_65536, li_100000, li_1000000, nI_mul, tn0, tn1, vin0, vin1, Int32.add_zero, Int32.or_zero, Int32.mul_one, Int32.mul_zero, Int32.zero_add, Nat.reduceEqDiff, Nat.reduceMul, Nat.reduceSub, u2_up, up1_at, uA_e, uA_n, e1, e3, e2, nI_1, nI_add, nI_clamp, nI_pin, nI_neg, nI_nonneg, nI_leE, nI_ltE, nI_eqE, Nat.not_le, Nat.not_lt, fq_10, fq_01, fq_rr, ix_aald, ix_aast, ix_abs, ix_alen, ix_aload, ix_aret, ix_astore, ix_bald, ix_bast, ix_call, ix_cpyI, ix_cpyJ, ix_dead, ix_dup2, ix_dup2L, ix_dupI, ix_dupR, ix_dupx1, ix_getI, ix_getJ, ix_getR, ix_gfm, ix_gtab, ix_i2b, ix_i2c, ix_i2l, ix_i2s, ix_iadd, ix_iald, ix_iand, ix_iast, ix_icall, ix_icmp_eq, ix_icmp_ge, ix_icmp_gt, ix_icmp_le, ix_icmp_lt, ix_icmp_ne, ix_idiv, ix_if_eq, ix_if_ge, ix_if_gt, ix_if_le, ix_if_lt, ix_if_ne, ix_iinc, ix_iload, ix_imul, ix_ineg, ix_ior, ix_irem, ix_iret, ix_ishl, ix_ishr, ix_istore, ix_isub, ix_iushr, ix_ixor, ix_l2i, ix_ladd, ix_lald, ix_land, ix_last, ix_lcmp, ix_ldcS, ix_ldiv, ix_lload, ix_lmul, ix_lor, ix_lrem, ix_lret, ix_lshl, ix_lstore, ix_lsub, ix_lsw, ix_max, ix_min, ix_new, ix_newa, ix_nret, ix_oinit, ix_pop2L, ix_popI, ix_pushI, ix_pushL, ix_putI, ix_putJ, ix_putR, ix_putZ, ix_sbald, ix_sgetC, ix_sgetV, ix_slen, ix_strc, ix_tald, ix_tsw, ix_vcall, ix_vret, ix_zret, stL, stL2, kilL, popN, fq_sw, fq_lsw, List.map_cons, List.map_nil, List.getElem?_cons_zero, List.getElem?_cons_succ, Option.toList_some, Option.toList_none, List.cons_append, List.nil_append, List.length_cons, List.length_nil, List.sum_cons, List.sum_nil, cat_i, cat_l, cat_r, true_and, and_true, Nat.zero_add, Nat.add_zero, Nat.le_refl, Nat.zero_le, Nat.reduceAdd, Nat.reduceLeDiff, exists_eq_left', Option.some.injEq, not_true_eq_false, not_false_eq_true, false_implies, true_implies, implies_true, and_self, or_true, true_or, or_false, false_or]
        exact ⟨fun h => absurd h (by omega), fun _ => ih⟩
    refine fq_enter [some (.ref M), some (.int (nI a)), some (.int (nI b)), some (.int mn), some (.int ft), none] (by decide +kernel) (Nat.le_of_ble_eq_true rfl) rfl (b_X12_keepsQuarrel_0 _ _ _ _ _ _ _ _ ?_)
    simp (disch := omega) only [B_X12_keepsQuarrel_0, B_X12_keepsQuarrel_9, sp_X12_quarrelRow, B_X12_quarrelRow_0, sp_X12_homeOf, B_X12_homeOf_0, sp_X12_personOf, B_X12_personOf_0, sp_X12_personRow, B_X12_personRow_0, hm, hm.k, hm.k1, hm.n1, hm.r1, hm.k2, hm.n2, hm.r2, hm.k3, hm.n3, hm.r3, hm.k4, hm.n4, hm.r4, hm.k5, hm.n5, hm.r5, hm.k6, hm.n6, hm.r6, hm.k7, hm.n7, hm.r7, hm.k8, hm.n8, hm.r8, hm.k9, hm.n9, hm.r9, hm.k10, hm.n10, hm.r10, hm.k11, hm.n11, hm.r11, hm.k12, hm.n12, hm.r12, hm.k13, hm.n13, hm.r13, hm.k14, hm.n14, hm.r14, li_2, li_3, li_4, li_5, li_6, li_7, li_8, li_9, li_10, li_11, li_12, li_13, li_14, li_15, li_16, li_17, li_18, li_19, li_20, li_21, li_22, li_23, li_24, li_25, li_26, li_27, li_28, li_29, li_30, li_32, li_33, li_34, li_35, li_36, li_37, li_38, li_39, li_40, li_41, li_42, li_43, li_44, li_45, li_46, li_47, li_48, li_49, li_50, li_51, li_52, li_53, li_54, li_55, li_56, li_57, li_58, li_59, li_60, li_61, li_62, li_63, li_64, li_65, li_66, li_67, li_68, li_69, li_70, li_71, li_72, li_73, li_74, li_75, li_76, li_77, li_78, li_79, li_80, li_81, li_82, li_83, li_84, li_85, li_86, li_87, li_88, li_89, li_90, li_91, li_92, li_93, li_94, li_95, li_96, li_97, li_98, li_99, li_100, li_101, li_102, li_103, li_104, li_105, li_106, li_107, li_108, li_109, li_110, li_111, li_112, li_113, li_114, li_115, li_116, li_117, li_118, li_119, li_120, li_121, li_122, li_123, li_124, li_125, li_126, li_127, li_128, li_129, li_130, li_131, li_226, li_240, li_255, li_300, li_586, li_594, li_900, li_999, li_1000, li_1800, li_2376, li_2388, li_2406, li_2602, li_2970, li_3067, li_3564, li_9999, li_10000, li_11287, li_65536, li_100000, li_1000000, nI_mul, tn0, tn1, vin0, vin1, Int32.add_zero, Int32.or_zero, Int32.mul_one, Int32.mul_zero, Int32.zero_add, Nat.reduceEqDiff, Nat.reduceMul, Nat.reduceSub, nI_1, nI_add, nI_clamp, nI_pin, nI_neg, nI_nonneg, nI_leE, nI_ltE, nI_eqE, Nat.not_le, Nat.not_lt, fq_10, fq_01, fq_rr, ix_aald, ix_aast, ix_abs, ix_alen, ix_aload, ix_aret, ix_astore, ix_bald, ix_bast, ix_call, ix_cpyI, ix_cpyJ, ix_dead, ix_dup2, ix_dup2L, ix_dupI, ix_dupR, ix_dupx1, ix_getI, ix_getJ, ix_getR, ix_gfm, ix_gtab, ix_i2b, ix_i2c, ix_i2l, ix_i2s, ix_iadd, ix_iald, ix_iand, ix_iast, ix_icall, ix_icmp_eq, ix_icmp_ge, ix_icmp_gt, ix_icmp_le, ix_icmp_lt, ix_icmp_ne, ix_idiv, ix_if_eq, ix_if_ge, ix_if_gt, ix_if_le, ix_if_lt, ix_if_ne, ix_iinc, ix_iload, ix_imul, ix_ineg, ix_ior, ix_irem, ix_iret, ix_ishl, ix_ishr, ix_istore, ix_isub, ix_iushr, ix_ixor, ix_l2i, ix_ladd, ix_lald, ix_land, ix_last, ix_lcmp, ix_ldcS, ix_ldiv, ix_lload, ix_lmul, ix_lor, ix_lrem, ix_lret, ix_lshl, ix_lstore, ix_lsub, ix_lsw, ix_max, ix_min, ix_new, ix_newa, ix_nret, ix_oinit, ix_pop2L, ix_popI, ix_pushI, ix_pushL, ix_putI, ix_putJ, ix_putR, ix_putZ, ix_sbald, ix_sgetC, ix_sgetV, ix_slen, ix_strc, ix_tald, ix_tsw, ix_vcall, ix_vret, ix_zret, stL, stL2, kilL, popN, fq_sw, fq_lsw, List.map_cons, List.map_nil, List.getElem?_cons_zero, List.getElem?_cons_succ, Option.toList_some, Option.toList_none, List.cons_append, List.nil_append, List.length_cons, List.length_nil, List.sum_cons, List.sum_nil, cat_i, cat_l, cat_r, true_and, and_true, Nat.zero_add, Nat.add_zero, Nat.le_refl, Nat.zero_le, Nat.reduceAdd, Nat.reduceLeDiff, exists_eq_left', Option.some.injEq, not_true_eq_false, not_false_eq_true, false_implies, true_implies, implies_true, and_self, or_true, true_or, or_false, false_or]
    have := lp 133 (by omega)
    rw [shq_0, up1_id] at this
    exact this
  · exact h.elim
theorem dX12_says_0 : decode cX12_says 0 = .ok (.iload_n 1, 1) := by decide +kernel
theorem dX12_says_1 : decode cX12_says 1 = .ok (.istore_n 3, 1) := by decide +kernel
theorem dX12_says_2 : decode cX12_says 2 = .ok (.iload_n 2, 1) := by decide +kernel
theorem dX12_says_3 : decode cX12_says 3 = .ok (.istore 4, 2) := by decide +kernel
theorem dX12_says_5 : decode cX12_says 5 = .ok (.aload_n 0, 1) := by decide +kernel
theorem dX12_says_6 : decode cX12_says 6 = .ok (.aload_n 0, 1) := by decide +kernel
theorem dX12_says_7 : decode cX12_says 7 = .ok (.iload_n 1, 1) := by decide +kernel
theorem dX12_says_8 : decode cX12_says 8 = .ok (.iconst 3, 1) := by decide +kernel
theorem dX12_says_9 : decode cX12_says 9 = .ok (.invokevirtual 253, 3) := by decide +kernel
theorem dX12_says_12 : decode cX12_says 12 = .ok (.invokevirtual 301, 3) := by decide +kernel
theorem dX12_says_15 : decode cX12_says 15 = .ok (.istore 5, 2) := by decide +kernel
theorem dX12_says_17 : decode cX12_says 17 = .ok (.iconst 0, 1) := by decide +kernel
theorem dX12_says_18 : decode cX12_says 18 = .ok (.istore 6, 2) := by decide +kernel
theorem dX12_says_20 : decode cX12_says 20 = .ok (.iconst 0, 1) := by decide +kernel
theorem dX12_says_21 : decode cX12_says 21 = .ok (.istore 7, 2) := by decide +kernel
theorem dX12_says_23 : decode cX12_says 23 = .ok (.aload_n 0, 1) := by decide +kernel
theorem dX12_says_24 : decode cX12_says 24 = .ok (.getfield 7, 3) := by decide +kernel
theorem dX12_says_27 : decode cX12_says 27 = .ok (.bipush 9, 2) := by decide +kernel
theorem dX12_says_29 : decode cX12_says 29 = .ok (.dup2, 1) := by decide +kernel
theorem dX12_says_30 : decode cX12_says 30 = .ok (.iaload, 1) := by decide +kernel
theorem dX12_says_31 : decode cX12_says 31 = .ok (.iconst 1, 1) := by decide +kernel
theorem dX12_says_32 : decode cX12_says 32 = .ok (.iadd, 1) := by decide +kernel
theorem dX12_says_33 : decode cX12_says 33 = .ok (.iastore, 1) := by decide +kernel
theorem dX12_says_34 : decode cX12_says 34 = .ok (.iload 6, 2) := by decide +kernel
theorem dX12_says_36 : decode cX12_says 36 = .ok (.bipush 6, 2) := by decide +kernel
theorem dX12_says_38 : decode cX12_says 38 = .ok (.if_icmp .ge 109, 3) := by decide +kernel
theorem dX12_says_41 : decode cX12_says 41 = .ok (.aload_n 0, 1) := by decide +kernel
theorem dX12_says_42 : decode cX12_says 42 = .ok (.iload 4, 2) := by decide +kernel
theorem dX12_says_44 : decode cX12_says 44 = .ok (.iload 5, 2) := by decide +kernel
theorem dX12_says_46 : decode cX12_says 46 = .ok (.invokevirtual 304, 3) := by decide +kernel
theorem dX12_says_49 : decode cX12_says 49 = .ok (.ifCond .eq 98, 3) := by decide +kernel
theorem dX12_says_52 : decode cX12_says 52 = .ok (.aload_n 0, 1) := by decide +kernel
theorem dX12_says_53 : decode cX12_says 53 = .ok (.aload_n 0, 1) := by decide +kernel
theorem dX12_says_54 : decode cX12_says 54 = .ok (.iload 4, 2) := by decide +kernel
theorem dX12_says_56 : decode cX12_says 56 = .ok (.invokevirtual 256, 3) := by decide +kernel
theorem dX12_says_59 : decode cX12_says 59 = .ok (.aload_n 0, 1) := by decide +kernel
theorem dX12_says_60 : decode cX12_says 60 = .ok (.iload_n 3, 1) := by decide +kernel
theorem dX12_says_61 : decode cX12_says 61 = .ok (.invokevirtual 256, 3) := by decide +kernel
theorem dX12_says_64 : decode cX12_says 64 = .ok (.aload_n 0, 1) := by decide +kernel
theorem dX12_says_65 : decode cX12_says 65 = .ok (.getfield 7, 3) := by decide +kernel
theorem dX12_says_68 : decode cX12_says 68 = .ok (.iconst 3, 1) := by decide +kernel
theorem dX12_says_69 : decode cX12_says 69 = .ok (.iaload, 1) := by decide +kernel
theorem dX12_says_70 : decode cX12_says 70 = .ok (.invokevirtual 307, 3) := by decide +kernel
theorem dX12_says_73 : decode cX12_says 73 = .ok (.istore 8, 2) := by decide +kernel
theorem dX12_says_75 : decode cX12_says 75 = .ok (.aload_n 0, 1) := by decide +kernel
theorem dX12_says_76 : decode cX12_says 76 = .ok (.getfield 7, 3) := by decide +kernel
theorem dX12_says_79 : decode cX12_says 79 = .ok (.aload_n 0, 1) := by decide +kernel
theorem dX12_says_80 : decode cX12_says 80 = .ok (.iload 4, 2) := by decide +kernel
theorem dX12_says_82 : decode cX12_says 82 = .ok (.invokevirtual 256, 3) := by decide +kernel
theorem dX12_says_85 : decode cX12_says 85 = .ok (.invokestatic 247, 3) := by decide +kernel
theorem dX12_says_88 : decode cX12_says 88 = .ok (.iconst 2, 1) := by decide +kernel
theorem dX12_says_89 : decode cX12_says 89 = .ok (.iadd, 1) := by decide +kernel
theorem dX12_says_90 : decode cX12_says 90 = .ok (.dup2, 1) := by decide +kernel
theorem dX12_says_91 : decode cX12_says 91 = .ok (.iaload, 1) := by decide +kernel
theorem dX12_says_92 : decode cX12_says 92 = .ok (.iload 8, 2) := by decide +kernel
theorem dX12_says_94 : decode cX12_says 94 = .ok (.iadd, 1) := by decide +kernel
theorem dX12_says_95 : decode cX12_says 95 = .ok (.iastore, 1) := by decide +kernel
theorem dX12_says_96 : decode cX12_says 96 = .ok (.iload 7, 2) := by decide +kernel
theorem dX12_says_98 : decode cX12_says 98 = .ok (.aload_n 0, 1) := by decide +kernel
theorem dX12_says_99 : decode cX12_says 99 = .ok (.iload 4, 2) := by decide +kernel
theorem dX12_says_101 : decode cX12_says 101 = .ok (.invokevirtual 256, 3) := by decide +kernel
theorem dX12_says_104 : decode cX12_says 104 = .ok (.aload_n 0, 1) := by decide +kernel
theorem dX12_says_105 : decode cX12_says 105 = .ok (.iload_n 3, 1) := by decide +kernel
theorem dX12_says_106 : decode cX12_says 106 = .ok (.invokevirtual 256, 3) := by decide +kernel
theorem dX12_says_109 : decode cX12_says 109 = .ok (.if_icmp .ge 9, 3) := by decide +kernel
theorem dX12_says_112 : decode cX12_says 112 = .ok (.iload 8, 2) := by decide +kernel
theorem dX12_says_114 : decode cX12_says 114 = .ok (.ineg, 1) := by decide +kernel
theorem dX12_says_115 : decode cX12_says 115 = .ok (.goto 5, 3) := by decide +kernel
theorem dX12_says_118 : decode cX12_says 118 = .ok (.iload 8, 2) := by decide +kernel
theorem dX12_says_120 : decode cX12_says 120 = .ok (.iadd, 1) := by decide +kernel
theorem dX12_says_121 : decode cX12_says 121 = .ok (.istore 7, 2) := by decide +kernel
theorem dX12_says_123 : decode cX12_says 123 = .ok (.iinc 6 1, 3) := by decide +kernel
theorem dX12_says_126 : decode cX12_says 126 = .ok (.aload_n 0, 1) := by decide +kernel
theorem dX12_says_127 : decode cX12_says 127 = .ok (.bipush 9, 2) := by decide +kernel
theorem dX12_says_129 : decode cX12_says 129 = .ok (.invokevirtual 301, 3) := by decide +kernel
theorem dX12_says_132 : decode cX12_says 132 = .ok (.istore 5, 2) := by decide +kernel
theorem dX12_says_134 : decode cX12_says 134 = .ok (.iload_n 3, 1) := by decide +kernel
theorem dX12_says_135 : decode cX12_says 135 = .ok (.istore 9, 2) := by decide +kernel
theorem dX12_says_137 : decode cX12_says 137 = .ok (.iload 4, 2) := by decide +kernel
theorem dX12_says_139 : decode cX12_says 139 = .ok (.istore_n 3, 1) := by decide +kernel
theorem dX12_says_140 : decode cX12_says 140 = .ok (.iload 9, 2) := by decide +kernel
theorem dX12_says_142 : decode cX12_says 142 = .ok (.istore 4, 2) := by decide +kernel
theorem dX12_says_144 : decode cX12_says 144 = .ok (.goto (-110), 3) := by decide +kernel
theorem dX12_says_147 : decode cX12_says 147 = .ok (.iload 6, 2) := by decide +kernel
theorem dX12_says_149 : decode cX12_says 149 = .ok (.ifCond .le 13, 3) := by decide +kernel
theorem dX12_says_152 : decode cX12_says 152 = .ok (.aload_n 0, 1) := by decide +kernel
theorem dX12_says_153 : decode cX12_says 153 = .ok (.iload_n 1, 1) := by decide +kernel
theorem dX12_says_154 : decode cX12_says 154 = .ok (.iload_n 2, 1) := by decide +kernel
theorem dX12_says_155 : decode cX12_says 155 = .ok (.iload 6, 2) := by decide +kernel
theorem dX12_says_157 : decode cX12_says 157 = .ok (.iload 7, 2) := by decide +kernel
theorem dX12_says_159 : decode cX12_says 159 = .ok (.invokevirtual 311, 3) := by decide +kernel
theorem dX12_says_162 : decode cX12_says 162 = .ok (.iload 6, 2) := by decide +kernel
theorem dX12_says_164 : decode cX12_says 164 = .ok (.ireturn, 1) := by decide +kernel
abbrev M_X12_says : MT := (yX12_says, cX12_says, 10, (some .int))
theorem cf_X12_says : fq_cf M_X12_says 2 := ⟨(mg_1 (List.mem_of_getElem? (i := 15) rfl) rfl), (mg_8 (List.mem_of_getElem? (i := 92) rfl) rfl), ⟨by decide, by decide, by decide +kernel⟩, by decide⟩
def B_X12_says_162 (l : Launch) (G : GT) (D mc ms : Nat) (Q : Post) : Cn := ix_iload 6 (ix_iret mc ms Q)
theorem b_X12_says_162 {l : Launch} {G : GT} {D mc ms : Nat} {Q : Post} : Imp l G M_X12_says (D + 4) mc ms Q (B_X12_says_162 l G D mc ms Q) 162 := sx_iload dX12_says_162 (sx_iret dX12_says_164 rfl)
def B_X12_says_147 (l : Launch) (G : GT) (D mc ms : Nat) (Q : Post) : Cn := ix_iload 6 (ix_if_le ((B_X12_says_162 l G D mc ms Q)) (ix_aload 0 (ix_iload 1 (ix_iload 2 (ix_iload 6 (ix_iload 7 (ix_vcall 12 5 0 0 mc ms (sp_X12_keepsQuarrel G) ((B_X12_says_162 l G D mc ms Q)))))))))
theorem b_X12_says_147 {l : Launch} {G : GT} {D mc ms : Nat} {Q : Post} : Imp l G M_X12_says (D + 4) mc ms Q (B_X12_says_147 l G D mc ms Q) 147 := sx_iload dX12_says_147 (sx_if_le 162 dX12_says_149 (by decide) (b_X12_says_162) (sx_aload_n dX12_says_152 rfl (sx_iload_n dX12_says_153 rfl (sx_iload_n dX12_says_154 rfl (sx_iload dX12_says_155 (sx_iload dX12_says_157 (sx_vcall dX12_says_159 cf_X12_keepsQuarrel (mg_8 (List.mem_of_getElem? (i := 110) rfl) rfl) (mg_8 (List.mem_of_getElem? (i := 112) rfl) rfl) (mg_p (List.mem_of_getElem? (i := 97) rfl) rfl) rfl c_X12_keepsQuarrel (b_X12_says_162))))))))
def B_X12_says_120 (l : Launch) (G : GT) (D mc ms : Nat) (Q : Post) : Cn := ix_iadd (ix_istore 7 (ix_iinc 6 1 (ix_aload 0 (ix_pushI 9 (ix_vcall 12 2 0 0 mc ms (sp_X12_loudBy G) (ix_istore 5 (ix_iload 3 (ix_istore 9 (ix_iload 4 (ix_istore 3 (ix_iload 9 (ix_istore 4 (fqAt l G M_X12_says (D + 4) mc ms Q 34)))))))))))))
theorem b_X12_says_120 {l : Launch} {G : GT} {D mc ms : Nat} {Q : Post} : Imp l G M_X12_says (D + 4) mc ms Q (B_X12_says_120 l G D mc ms Q) 120 := sx_iadd dX12_says_120 (sx_istore dX12_says_121 (by decide) (sx_iinc dX12_says_123 rfl (by decide) (sx_aload_n dX12_says_126 rfl (sx_bipush dX12_says_127 rfl (sx_vcall dX12_says_129 cf_X12_loudBy (mg_8 (List.mem_of_getElem? (i := 93) rfl) rfl) (mg_8 (List.mem_of_getElem? (i := 95) rfl) rfl) (mg_p (List.mem_of_getElem? (i := 93) rfl) rfl) rfl c_X12_loudBy (sx_istore dX12_says_132 (by decide) (sx_iload_n dX12_says_134 rfl (sx_istore dX12_says_135 (by decide) (sx_iload dX12_says_137 (sx_istore_n dX12_says_139 rfl (by decide) (sx_iload dX12_says_140 (sx_istore dX12_says_142 (by decide) (sx_goto 34 dX12_says_144 (by decide) ((fun _ _ _ _ _ _ _ _ h => h)))))))))))))))
def B_X12_says_34 (l : Launch) (G : GT) (D mc ms : Nat) (Q : Post) : Cn := ix_iload 6 (ix_pushI 6 (ix_icmp_ge ((B_X12_says_147 l G D mc ms Q)) (ix_aload 0 (ix_iload 4 (ix_iload 5 (ix_vcall 12 3 0 0 mc ms (sp_X12_shouts G) (ix_if_eq ((B_X12_says_147 l G D mc ms Q)) (ix_aload 0 (ix_aload 0 (ix_iload 4 (ix_vcall 12 2 0 0 mc ms (sp_X12_homeOf G) (ix_aload 0 (ix_iload 3 (ix_vcall 12 2 0 0 mc ms (sp_X12_homeOf G) (ix_aload 0 (ix_getR 12 0 (ix_pushI 3 (ix_iald (ix_vcall 12 4 0 0 mc ms (sp_X12_goesInto G) (ix_istore 8 (ix_aload 0 (ix_getR 12 0 (ix_aload 0 (ix_iload 4 (ix_vcall 12 2 0 0 mc ms (sp_X12_homeOf G) (ix_call 1 0 0 mc ms (sp_X12_houseRow G) (ix_pushI 2 (ix_iadd (ix_dup2 (ix_iald (ix_iload 8 (ix_iadd (ix_iast (ix_iload 7 (ix_aload 0 (ix_iload 4 (ix_vcall 12 2 0 0 mc ms (sp_X12_homeOf G) (ix_aload 0 (ix_iload 3 (ix_vcall 12 2 0 0 mc ms (sp_X12_homeOf G) (ix_icmp_ge (ix_iload 8 ((B_X12_says_120 l G D mc ms Q))) (ix_iload 8 (ix_ineg ((B_X12_says_120 l G D mc ms Q)))))))))))))))))))))))))))))))))))))))))))))
theorem b_X12_says_34 {l : Launch} {G : GT} {D mc ms : Nat} {Q : Post} : Imp l G M_X12_says (D + 4) mc ms Q (B_X12_says_34 l G D mc ms Q) 34 := sx_iload dX12_says_34 (sx_bipush dX12_says_36 rfl (sx_icmp_ge 147 dX12_says_38 (by decide) (b_X12_says_147) (sx_aload_n dX12_says_41 rfl (sx_iload dX12_says_42 (sx_iload dX12_says_44 (sx_vcall dX12_says_46 cf_X12_shouts (mg_8 (List.mem_of_getElem? (i := 98) rfl) rfl) (mg_8 (List.mem_of_getElem? (i := 100) rfl) rfl) (mg_p (List.mem_of_getElem? (i := 94) rfl) rfl) rfl c_X12_shouts (sx_if_eq 147 dX12_says_49 (by decide) (b_X12_says_147) (sx_aload_n dX12_says_52 rfl (sx_aload_n dX12_says_53 rfl (sx_iload dX12_says_54 (sx_vcall dX12_says_56 cf_X12_homeOf (mg_8 (List.mem_of_getElem? (i := 26) rfl) rfl) (mg_8 (List.mem_of_getElem? (i := 28) rfl) rfl) (mg_p (List.mem_of_getElem? (i := 83) rfl) rfl) rfl c_X12_homeOf (sx_aload_n dX12_says_59 rfl (sx_iload_n dX12_says_60 rfl (sx_vcall dX12_says_61 cf_X12_homeOf (mg_8 (List.mem_of_getElem? (i := 26) rfl) rfl) (mg_8 (List.mem_of_getElem? (i := 28) rfl) rfl) (mg_p (List.mem_of_getElem? (i := 83) rfl) rfl) rfl c_X12_homeOf (sx_aload_n dX12_says_64 rfl (sx_getR dX12_says_65 fl_FootQuarrelModel_7 (fun _ _ _ => rfl) (sx_iconst dX12_says_68 rfl (sx_iald dX12_says_69 (sx_vcall dX12_says_70 cf_X12_goesInto (mg_8 (List.mem_of_getElem? (i := 106) rfl) rfl) (mg_8 (List.mem_of_getElem? (i := 108) rfl) rfl) (mg_p (List.mem_of_getElem? (i := 96) rfl) rfl) rfl c_X12_goesInto (sx_istore dX12_says_73 (by decide) (sx_aload_n dX12_says_75 rfl (sx_getR dX12_says_76 fl_FootQuarrelModel_7 (fun _ _ _ => rfl) (sx_aload_n dX12_says_79 rfl (sx_iload dX12_says_80 (sx_vcall dX12_says_82 cf_X12_homeOf (mg_8 (List.mem_of_getElem? (i := 26) rfl) rfl) (mg_8 (List.mem_of_getElem? (i := 28) rfl) rfl) (mg_p (List.mem_of_getElem? (i := 83) rfl) rfl) rfl c_X12_homeOf (sx_scall dX12_says_85 cf_X12_houseRow (mg_8 (List.mem_of_getElem? (i := 11) rfl) rfl) (mg_8 (List.mem_of_getElem? (i := 12) rfl) rfl) c_X12_houseRow (sx_iconst dX12_says_88 rfl (sx_iadd dX12_says_89 (sx_dup2 dX12_says_90 (sx_iald dX12_says_91 (sx_iload dX12_says_92 (sx_iadd dX12_says_94 (sx_iast dX12_says_95 (sx_iload dX12_says_96 (sx_aload_n dX12_says_98 rfl (sx_iload dX12_says_99 (sx_vcall dX12_says_101 cf_X12_homeOf (mg_8 (List.mem_of_getElem? (i := 26) rfl) rfl) (mg_8 (List.mem_of_getElem? (i := 28) rfl) rfl) (mg_p (List.mem_of_getElem? (i := 83) rfl) rfl) rfl c_X12_homeOf (sx_aload_n dX12_says_104 rfl (sx_iload_n dX12_says_105 rfl (sx_vcall dX12_says_106 cf_X12_homeOf (mg_8 (List.mem_of_getElem? (i := 26) rfl) rfl) (mg_8 (List.mem_of_getElem? (i := 28) rfl) rfl) (mg_p (List.mem_of_getElem? (i := 83) rfl) rfl) rfl c_X12_homeOf (sx_icmp_ge 118 dX12_says_109 (by decide) (sx_iload dX12_says_118 (b_X12_says_120)) (sx_iload dX12_says_112 (sx_ineg dX12_says_114 (sx_goto 120 dX12_says_115 (by decide) (b_X12_says_120)))))))))))))))))))))))))))))))))))))))))))))
def B_X12_says_0 (l : Launch) (G : GT) (D mc ms : Nat) (Q : Post) : Cn := ix_iload 1 (ix_istore 3 (ix_iload 2 (ix_istore 4 (ix_aload 0 (ix_aload 0 (ix_iload 1 (ix_pushI 3 (ix_vcall 12 3 0 0 mc ms (sp_X12_personOf G) (ix_vcall 12 2 0 0 mc ms (sp_X12_loudBy G) (ix_istore 5 (ix_pushI 0 (ix_istore 6 (ix_pushI 0 (ix_istore 7 (ix_aload 0 (ix_getR 12 0 (ix_pushI 9 (ix_dup2 (ix_iald (ix_pushI 1 (ix_iadd (ix_iast (fqAt l G M_X12_says (D + 4) mc ms Q 34)))))))))))))))))))))))
theorem b_X12_says_0 {l : Launch} {G : GT} {D mc ms : Nat} {Q : Post} : Imp l G M_X12_says (D + 4) mc ms Q (B_X12_says_0 l G D mc ms Q) 0 := sx_iload_n dX12_says_0 rfl (sx_istore_n dX12_says_1 rfl (by decide) (sx_iload_n dX12_says_2 rfl (sx_istore dX12_says_3 (by decide) (sx_aload_n dX12_says_5 rfl (sx_aload_n dX12_says_6 rfl (sx_iload_n dX12_says_7 rfl (sx_iconst dX12_says_8 rfl (sx_vcall dX12_says_9 cf_X12_personOf (mg_8 (List.mem_of_getElem? (i := 0) rfl) rfl) (mg_8 (List.mem_of_getElem? (i := 2) rfl) rfl) (mg_p (List.mem_of_getElem? (i := 79) rfl) rfl) rfl c_X12_personOf (sx_vcall dX12_says_12 cf_X12_loudBy (mg_8 (List.mem_of_getElem? (i := 93) rfl) rfl) (mg_8 (List.mem_of_getElem? (i := 95) rfl) rfl) (mg_p (List.mem_of_getElem? (i := 93) rfl) rfl) rfl c_X12_loudBy (sx_istore dX12_says_15 (by decide) (sx_iconst dX12_says_17 rfl (sx_istore dX12_says_18 (by decide) (sx_iconst dX12_says_20 rfl (sx_istore dX12_says_21 (by decide) (sx_aload_n dX12_says_23 rfl (sx_getR dX12_says_24 fl_FootQuarrelModel_7 (fun _ _ _ => rfl) (sx_bipush dX12_says_27 rfl (sx_dup2 dX12_says_29 (sx_iald dX12_says_30 (sx_iconst dX12_says_31 rfl (sx_iadd dX12_says_32 (sx_iast dX12_says_33 ((fun _ _ _ _ _ _ _ _ h => h))))))))))))))))))))))))
/-- a quarrel in the reference's row -/
def rqr (A : Nat → Int32) (p q x y : Nat) : Nat × S8 := spk (A (30 + 7 * p + 1)) (A (30 + 7 * q + 1)) (A (30 + 7 * p + 2)) (A (30 + 7 * q + 2)) (A 3) (A 7) 6 true (ldn (A (30 + 7 * p + 3)) (A 7)) (A (30 + 7 * p + 5), A (30 + 7 * q + 5), A (30 + 7 * p + 6), A (30 + 7 * q + 6), A (12 + 3 * x), A (12 + 3 * y), 0, 0)
abbrev wbX (A : Nat → Int32) (p q x y : Nat) (u : S8) (n : Nat) : Nat → Int32 := wbR A p q x y u.1 u.2.1 u.2.2.1 u.2.2.2.1 u.2.2.2.2.1 u.2.2.2.2.2.1 (A (12 + 3 * x + 2) + u.2.2.2.2.2.2.1) (A (12 + 3 * y + 2) + u.2.2.2.2.2.2.2) (A 9 + 1) (A 10 + nI n)
/-- feet to the right -/
def ftX (A : Nat → Int32) (x y : Nat) (u : S8) : Int32 := if x < y then u.2.2.2.2.1 - A (12 + 3 * x) else u.2.2.2.2.2.1 - A (12 + 3 * y)
def syX (A : Nat → Int32) (p q x y : Nat) : Nat → Int32 := if (rqr A p q x y).1 = 0 then wbX A p q x y (rqr A p q x y).2 0 else kqA (wbX A p q x y (rqr A p q x y).2 (rqr A p q x y).1) (mnI (nI x) (nI y)) (nI p) (nI q) (nI (rqr A p q x y).1) (ftX A x y (rqr A p q x y).2)
def tl2 (t : Bool) (p q : Nat) : Nat := if t then p else q
theorem tl2_t (p q : Nat) : tl2 true p q = p := rfl
theorem tl2_f (p q : Nat) : tl2 false p q = q := rfl
abbrev spkR (A : Nat → Int32) (p q : Nat) : Nat → Bool → Int32 → S8 → Nat × S8 := spk (A (30 + 7 * p + 1)) (A (30 + 7 * q + 1)) (A (30 + 7 * p + 2)) (A (30 + 7 * q + 2)) (A 3) (A 7)
set_option maxHeartbeats 4000000 in
set_option maxRecDepth 20000 in
theorem lp_X12_says {l : Launch} {G : GT} {D : Nat} {S : Sh} {I : IH} {J : JH} {z M p q x y : Nat} {Q : Post} (hm : rfS S M) (hp : p < 8) (hq : q < 8) (hx : x < 6) (hy : y < 6) (hpq : p ≠ q) (hxy : x ≠ y) (ex : I (M + 1) (30 + 7 * p) = nI x) (ey : I (M + 1) (30 + 7 * q) = nI y) (hr : I (M + 1) 7 = 0 ∨ I (M + 1) 7 = 1) : ∀ (n cnt : Nat) (t : Bool) (v : Int32) (u : S8) (o8 o9 : Option Value), cnt + n = 6 → (∀ (o3 o4 o5 o8 o9 : Option Value), B_X12_says_147 l G D 0 0 Q [some (.ref M), some (.int (nI p)), some (.int (nI q)), o3, o4, o5, some (.int (nI (cnt + (spkR (I (M + 1)) p q n t v u).1))), some (.int (ftX (I (M + 1)) x y (spkR (I (M + 1)) p q n t v u).2)), o8, o9] [] S (up1 I (M + 1) (wbX (I (M + 1)) p q x y (spkR (I (M + 1)) p q n t v u).2 (cnt + (spkR (I (M + 1)) p q n t v u).1))) J z 0 0) → fqAt l G M_X12_says (D + 4) 0 0 Q 34 [some (.ref M), some (.int (nI p)), some (.int (nI q)), some (.int (nI (tl2 t p q))), some (.int (nI (tl2 t q p))), some (.int v), some (.int (nI cnt)), some (.int (ftX (I (M + 1)) x y u)), o8, o9] [] S (up1 I (M + 1) (wbX (I (M + 1)) p q x y u cnt)) J z 0 0 := by
  intro n
  induction n with
  | zero =>
    intro cnt t v u o8 o9 hc hQ
    obtain rfl : cnt = 6 := by omega
    refine b_X12_says_34 _ _ _ _ _ _ _ _ ?_
    simp (disch := omega) only [B_X12_says_0, B_X12_says_34, B_X12_says_120, B_X12_says_162, sp_X12_personOf, B_X12_personOf_0, sp_X12_personRow, B_X12_personRow_0, sp_X12_loudBy, sp_X12_shouts, sp_X12_homeOf, B_X12_homeOf_0, sp_X12_goesInto, sp_X12_houseRow, B_X12_houseRow_0, sp_X12_keepsQuarrel, li_2, li_3, li_4, li_5, li_6, li_7, li_8, li_9, li_10, li_11, li_12, li_13, li_14, li_15, li_16, li_17, li_18, li_19, li_20, li_21, li_22, li_23, li_24, li_25, li_26, li_27, li_28, li_29, li_30, li_32, li_33, li_34, li_35, li_36, li_37, li_38, li_39, li_40, li_41, li_42, li_43, li_44, li_45, li_46, li_47, li_48, li_49, li_50, li_51, li_52, li_53, li_54, li_55, li_56, li_57, li_58, li_59, li_60, li_61, li_62, li_63, li_64, li_65, li_66, li_67, li_68, li_69, li_70, li_71, li_72, li_73, li_74, li_75, li_76, li_77, li_78, li_79, li_80, li_81, li_82, li_83, li_84, li_85, li_86, li_87, li_88, li_89, li_90, li_91, li_92, li_93, li_94, li_95, li_96, li_97, li_98, li_99, li_100, li_101, li_102, li_103, li_104, li_105, li_106, li_107, li_108, li_109, li_110, li_111, li_112, li_113, li_114, li_115, li_116, li_117, li_118, li_119, li_120, li_121, li_122, li_123, li_124, li_125, li_126, li_127, li_128, li_129, li_130, li_131, li_226, li_240, li_255, li_300, li_586, li_594, li_900, li_999, li_1000, li_1800, li_2376, li_2388, li_2406, li_2602, li_2970, li_3067, li_3564, li_9999, li_10000, li_11287, li_65536, li_100000, li_1000000, nI_mul, tn0, tn1, vin0, vin1, Int32.add_zero, Int32.or_zero, Int32.mul_one, Int32.mul_zero, Int32.zero_add, Nat.reduceEqDiff, Nat.reduceMul, Nat.reduceSub, nI_1, nI_add, nI_clamp, nI_pin, nI_neg, nI_nonneg, nI_leE, nI_ltE, nI_eqE, Nat.not_le, Nat.not_lt, fq_10, fq_01, fq_rr, ix_aald, ix_aast, ix_abs, ix_alen, ix_aload, ix_aret, ix_astore, ix_bald, ix_bast, ix_call, ix_cpyI, ix_cpyJ, ix_dead, ix_dup2, ix_dup2L, ix_dupI, ix_dupR, ix_dupx1, ix_getI, ix_getJ, ix_getR, ix_gfm, ix_gtab, ix_i2b, ix_i2c, ix_i2l, ix_i2s, ix_iadd, ix_iald, ix_iand, ix_iast, ix_icall, ix_icmp_eq, ix_icmp_ge, ix_icmp_gt, ix_icmp_le, ix_icmp_lt, ix_icmp_ne, ix_idiv, ix_if_eq, ix_if_ge, ix_if_gt, ix_if_le, ix_if_lt, ix_if_ne, ix_iinc, ix_iload, ix_imul, ix_ineg, ix_ior, ix_irem, ix_iret, ix_ishl, ix_ishr, ix_istore, ix_isub, ix_iushr, ix_ixor, ix_l2i, ix_ladd, ix_lald, ix_land, ix_last, ix_lcmp, ix_ldcS, ix_ldiv, ix_lload, ix_lmul, ix_lor, ix_lrem, ix_lret, ix_lshl, ix_lstore, ix_lsub, ix_lsw, ix_max, ix_min, ix_new, ix_newa, ix_nret, ix_oinit, ix_pop2L, ix_popI, ix_pushI, ix_pushL, ix_putI, ix_putJ, ix_putR, ix_putZ, ix_sbald, ix_sgetC, ix_sgetV, ix_slen, ix_strc, ix_tald, ix_tsw, ix_vcall, ix_vret, ix_zret, stL, stL2, kilL, popN, fq_sw, fq_lsw, List.map_cons, List.map_nil, List.getElem?_cons_zero, List.getElem?_cons_succ, Option.toList_some, Option.toList_none, List.cons_append, List.nil_append, List.length_cons, List.length_nil, List.sum_cons, List.sum_nil, cat_i, cat_l, cat_r, true_and, and_true, Nat.zero_add, Nat.add_zero, Nat.le_refl, Nat.zero_le, Nat.reduceAdd, Nat.reduceLeDiff, exists_eq_left', Option.some.injEq, not_true_eq_false, not_false_eq_true, false_implies, true_implies, implies_true, and_self, or_true, true_or, or_false, false_or]
    exact hQ _ _ _ _ _
  | succ n ih =>
    intro cnt t v u o8 o9 hc hQ
    obtain ⟨a0, a1, h0, h1, w0, w1, l0, l1⟩ := u
    cases t with
    | true =>
      refine b_X12_says_34 _ _ _ _ _ _ _ _ ?_
      simp (disch := omega) only [B_X12_says_0, B_X12_says_34, B_X12_says_120, B_X12_says_162, sp_X12_personOf, B_X12_personOf_0, sp_X12_personRow, B_X12_personRow_0, sp_X12_loudBy, sp_X12_shouts, sp_X12_homeOf, B_X12_homeOf_0, sp_X12_goesInto, sp_X12_houseRow, B_X12_houseRow_0, sp_X12_keepsQuarrel, tl2_t, tl2_f, wbX, wbR_a0, wbR_a1, wbR_h0, wbR_h1, wbR_w0, wbR_w1, wbR_l0, wbR_l1, wbR_s9, wbR_s10, wbR_o1p, wbR_o1q, wbR_o2p, wbR_o2q, wbR_o3p, wbR_o3q, wbR_o0p, wbR_o0q, wbR_o3, wbR_o7, wbR_o6, wbR_o2, wbR_ua0, wbR_ua1, wbR_uh0, wbR_uh1, wbR_uw0, wbR_uw1, wbR_ul0, wbR_ul1, wbR_us9, wbR_us10, u2_up, up1_at, up1_up, ex, ey, hm, hm.k, hm.k1, hm.n1, hm.r1, hm.k2, hm.n2, hm.r2, hm.k3, hm.n3, hm.r3, hm.k4, hm.n4, hm.r4, hm.k5, hm.n5, hm.r5, hm.k6, hm.n6, hm.r6, hm.k7, hm.n7, hm.r7, hm.k8, hm.n8, hm.r8, hm.k9, hm.n9, hm.r9, hm.k10, hm.n10, hm.r10, hm.k11, hm.n11, hm.r11, hm.k12, hm.n12, hm.r12, hm.k13, hm.n13, hm.r13, hm.k14, hm.n14, hm.r14, li_2, li_3, li_4, li_5, li_6, li_7, li_8, li_9, li_10, li_11, li_12, li_13, li_14, li_15, li_16, li_17, li_18, li_19, li_20, li_21, li_22, li_23, li_24, li_25, li_26, li_27, li_28, li_29, li_30, li_32, li_33, li_34, li_35, li_36, li_37, li_38, li_39, li_40, li_41, li_42, li_43, li_44, li_45, li_46, li_47, li_48, li_49, li_50, li_51, li_52, li_53, li_54, li_55, li_56, li_57, li_58, li_59, li_60, li_61, li_62, li_63, li_64, li_65, li_66, li_67, li_68, li_69, li_70, li_71, li_72, li_73, li_74, li_75, li_76, li_77, li_78, li_79, li_80, li_81, li_82, li_83, li_84, li_85, li_86, li_87, li_88, li_89, li_90, li_91, li_92, li_93, li_94, li_95, li_96, li_97, li_98, li_99, li_100, li_101, li_102, li_103, li_104, li_105, li_106, li_107, li_108, li_109, li_110, li_111, li_112, li_113, li_114, li_115, li_116, li_117, li_118, li_119, li_120, li_121, li_122, li_123, li_124, li_125, li_126, li_127, li_128, li_129, li_130, li_131, li_226, li_240, li_255, li_300, li_586, li_594, li_900, li_999, li_1000, li_1800, li_2376, li_2388, li_2406, li_2602, li_2970, li_3067, li_3564, li_9999, li_10000, li_11287, li_65536, li_100000, li_1000000, nI_mul, tn0, tn1, vin0, vin1, Int32.add_zero, Int32.or_zero, Int32.mul_one, Int32.mul_zero, Int32.zero_add, Nat.reduceEqDiff, Nat.reduceMul, Nat.reduceSub, bI_01, bI_01b, bI_0, nI_1, nI_add, nI_clamp, nI_pin, nI_neg, nI_nonneg, nI_leE, nI_ltE, nI_eqE, Nat.not_le, Nat.not_lt, fq_10, fq_01, fq_rr, ix_aald, ix_aast, ix_abs, ix_alen, ix_aload, ix_aret, ix_astore, ix_bald, ix_bast, ix_call, ix_cpyI, ix_cpyJ, ix_dead, ix_dup2, ix_dup2L, ix_dupI, ix_dupR, ix_dupx1, ix_getI, ix_getJ, ix_getR, ix_gfm, ix_gtab, ix_i2b, ix_i2c, ix_i2l, ix_i2s, ix_iadd, ix_iald, ix_iand, ix_iast, ix_icall, ix_icmp_eq, ix_icmp_ge, ix_icmp_gt, ix_icmp_le, ix_icmp_lt, ix_icmp_ne, ix_idiv, ix_if_eq, ix_if_ge, ix_if_gt, ix_if_le, ix_if_lt, ix_if_ne, ix_iinc, ix_iload, ix_imul, ix_ineg, ix_ior, ix_irem, ix_iret, ix_ishl, ix_ishr, ix_istore, ix_isub, ix_iushr, ix_ixor, ix_l2i, ix_ladd, ix_lald, ix_land, ix_last, ix_lcmp, ix_ldcS, ix_ldiv, ix_lload, ix_lmul, ix_lor, ix_lrem, ix_lret, ix_lshl, ix_lstore, ix_lsub, ix_lsw, ix_max, ix_min, ix_new, ix_newa, ix_nret, ix_oinit, ix_pop2L, ix_popI, ix_pushI, ix_pushL, ix_putI, ix_putJ, ix_putR, ix_putZ, ix_sbald, ix_sgetC, ix_sgetV, ix_slen, ix_strc, ix_tald, ix_tsw, ix_vcall, ix_vret, ix_zret, stL, stL2, kilL, popN, fq_sw, fq_lsw, List.map_cons, List.map_nil, List.getElem?_cons_zero, List.getElem?_cons_succ, Option.toList_some, Option.toList_none, List.cons_append, List.nil_append, List.length_cons, List.length_nil, List.sum_cons, List.sum_nil, cat_i, cat_l, cat_r, true_and, and_true, Nat.zero_add, Nat.add_zero, Nat.le_refl, Nat.zero_le, Nat.reduceAdd, Nat.reduceLeDiff, exists_eq_left', Option.some.injEq, not_true_eq_false, not_false_eq_true, false_implies, true_implies, implies_true, and_self, or_true, true_or, or_false, false_or]
      have e9 : ldr (nI 9) (I (M + 1) 7) = ldn 9 (I (M + 1) 7) := ldr_e hr (by decide)
      have as1 : I (M + 1) (12 + 3 * y + 2) + l1 + mnI (I (M + 1) 3) w1 = I (M + 1) (12 + 3 * y + 2) + (l1 + mnI (I (M + 1) 3) w1) := Int32.add_assoc _ _ _
      have as2 : I (M + 1) 10 + nI cnt + 1 = I (M + 1) 10 + nI (cnt + 1) := by rw [Int32.add_assoc, nI_1]
      refine ⟨fun h => absurd h (by omega), fun _ => ⟨fun g1 => ⟨fun g2 => ⟨by omega, fun g3 => ?_, fun g3 => ?_⟩, fun g2 => ?_⟩, fun g1 => ?_⟩⟩
      · have ef : ftX (I (M + 1)) x y (a0, a1, h0, h1, w0, w1, l0, l1) + mnI (I (M + 1) 3) w1 = ftX (I (M + 1)) x y (a0, 0, h0, h1 + 1, w0 + mnI (I (M + 1) 3) w1, w1 - mnI (I (M + 1) 3) w1, l0, l1 + mnI (I (M + 1) 3) w1) := by
          unfold ftX
          rw [if_pos (by omega), if_pos (by omega)]
          grind
        rw [e9, ef, as1, as2]
        rw [← li_10] at g1
        refine ih (cnt + 1) false (ldn 9 (I (M + 1) 7)) (a0, 0, h0, h1 + 1, w0 + mnI (I (M + 1) 3) w1, w1 - mnI (I (M + 1) 3) w1, l0, l1 + mnI (I (M + 1) 3) w1) _ _ (by omega) ?_
        simp only [spkR, spk, g1, g2, if_true] at hQ
        rw [show cnt + 1 + (spkR (I (M + 1)) p q n false (ldn 9 (I (M + 1) 7)) (a0, 0, h0, h1 + 1, w0 + mnI (I (M + 1) 3) w1, w1 - mnI (I (M + 1) 3) w1, l0, l1 + mnI (I (M + 1) 3) w1)).1 = cnt + ((spkR (I (M + 1)) p q n false (ldn 9 (I (M + 1) 7)) (a0, 0, h0, h1 + 1, w0 + mnI (I (M + 1) 3) w1, w1 - mnI (I (M + 1) 3) w1, l0, l1 + mnI (I (M + 1) 3) w1)).1 + 1) by omega]
        exact hQ
      · have ef : ftX (I (M + 1)) x y (a0, a1, h0, h1, w0, w1, l0, l1) + -mnI (I (M + 1) 3) w1 = ftX (I (M + 1)) x y (a0, 0, h0, h1 + 1, w0 + mnI (I (M + 1) 3) w1, w1 - mnI (I (M + 1) 3) w1, l0, l1 + mnI (I (M + 1) 3) w1) := by
          unfold ftX
          rw [if_neg (by omega), if_neg (by omega)]
          grind
        rw [e9, ef, as1, as2]
        rw [← li_10] at g1
        refine ih (cnt + 1) false (ldn 9 (I (M + 1) 7)) (a0, 0, h0, h1 + 1, w0 + mnI (I (M + 1) 3) w1, w1 - mnI (I (M + 1) 3) w1, l0, l1 + mnI (I (M + 1) 3) w1) _ _ (by omega) ?_
        simp only [spkR, spk, g1, g2, if_true] at hQ
        rw [show cnt + 1 + (spkR (I (M + 1)) p q n false (ldn 9 (I (M + 1) 7)) (a0, 0, h0, h1 + 1, w0 + mnI (I (M + 1) 3) w1, w1 - mnI (I (M + 1) 3) w1, l0, l1 + mnI (I (M + 1) 3) w1)).1 = cnt + ((spkR (I (M + 1)) p q n false (ldn 9 (I (M + 1) 7)) (a0, 0, h0, h1 + 1, w0 + mnI (I (M + 1) 3) w1, w1 - mnI (I (M + 1) 3) w1, l0, l1 + mnI (I (M + 1) 3) w1)).1 + 1) by omega]
        exact hQ
      · rw [← li_10] at g1
        simp only [spkR, spk, g1, g2, if_true, if_false, Nat.add_zero] at hQ
        exact hQ _ _ _ _ _
      · rw [← li_10] at g1
        simp only [spkR, spk, g1, if_false, Nat.add_zero] at hQ
        exact hQ _ _ _ _ _
    | false =>
      refine b_X12_says_34 _ _ _ _ _ _ _ _ ?_
      simp (disch := omega) only [B_X12_says_0, B_X12_says_34, B_X12_says_120, B_X12_says_162, sp_X12_personOf, B_X12_personOf_0, sp_X12_personRow, B_X12_personRow_0, sp_X12_loudBy, sp_X12_shouts, sp_X12_homeOf, B_X12_homeOf_0, sp_X12_goesInto, sp_X12_houseRow, B_X12_houseRow_0, sp_X12_keepsQuarrel, tl2_t, tl2_f, wbX, wbR_a0, wbR_a1, wbR_h0, wbR_h1, wbR_w0, wbR_w1, wbR_l0, wbR_l1, wbR_s9, wbR_s10, wbR_o1p, wbR_o1q, wbR_o2p, wbR_o2q, wbR_o3p, wbR_o3q, wbR_o0p, wbR_o0q, wbR_o3, wbR_o7, wbR_o6, wbR_o2, wbR_ua0, wbR_ua1, wbR_uh0, wbR_uh1, wbR_uw0, wbR_uw1, wbR_ul0, wbR_ul1, wbR_us9, wbR_us10, u2_up, up1_at, up1_up, ex, ey, hm, hm.k, hm.k1, hm.n1, hm.r1, hm.k2, hm.n2, hm.r2, hm.k3, hm.n3, hm.r3, hm.k4, hm.n4, hm.r4, hm.k5, hm.n5, hm.r5, hm.k6, hm.n6, hm.r6, hm.k7, hm.n7, hm.r7, hm.k8, hm.n8, hm.r8, hm.k9, hm.n9, hm.r9, hm.k10, hm.n10, hm.r10, hm.k11, hm.n11, hm.r11, hm.k12, hm.n12, hm.r12, hm.k13, hm.n13, hm.r13, hm.k14, hm.n14, hm.r14, li_2, li_3, li_4, li_5, li_6, li_7, li_8, li_9, li_10, li_11, li_12, li_13, li_14, li_15, li_16, li_17, li_18, li_19, li_20, li_21, li_22, li_23, li_24, li_25, li_26, li_27, li_28, li_29, li_30, li_32, li_33, li_34, li_35, li_36, li_37, li_38, li_39, li_40, li_41, li_42, li_43, li_44, li_45, li_46, li_47, li_48, li_49, li_50, li_51, li_52, li_53, li_54, li_55, li_56, li_57, li_58, li_59, li_60, li_61, li_62, li_63, li_64, li_65, li_66, li_67, li_68, li_69, li_70, li_71, li_72, li_73, li_74, li_75, li_76, li_77, li_78, li_79, li_80, li_81, li_82, li_83, li_84, li_85, li_86, li_87, li_88, li_89, li_90, li_91, li_92, li_93, li_94, li_95, li_96, li_97, li_98, li_99, li_100, li_101, li_102, li_103, li_104, li_105, li_106, li_107, li_108, li_109, li_110, li_111, li_112, li_113, li_114, li_115, li_116, li_117, li_118, li_119, li_120, li_121, li_122, li_123, li_124, li_125, li_126, li_127, li_128, li_129, li_130, li_131, li_226, li_240, li_255, li_300, li_586, li_594, li_900, li_999, li_1000, li_1800, li_2376, li_2388, li_2406, li_2602, li_2970, li_3067, li_3564, li_9999, li_10000, li_11287, li_65536, li_100000, li_1000000, nI_mul, tn0, tn1, vin0, vin1, Int32.add_zero, Int32.or_zero, Int32.mul_one, Int32.mul_zero, Int32.zero_add, Nat.reduceEqDiff, Nat.reduceMul, Nat.reduceSub, bI_01, bI_01b, bI_0, nI_1, nI_add, nI_clamp, nI_pin, nI_neg, nI_nonneg, nI_leE, nI_ltE, nI_eqE, Nat.not_le, Nat.not_lt, fq_10, fq_01, fq_rr, ix_aald, ix_aast, ix_abs, ix_alen, ix_aload, ix_aret, ix_astore, ix_bald, ix_bast, ix_call, ix_cpyI, ix_cpyJ, ix_dead, ix_dup2, ix_dup2L, ix_dupI, ix_dupR, ix_dupx1, ix_getI, ix_getJ, ix_getR, ix_gfm, ix_gtab, ix_i2b, ix_i2c, ix_i2l, ix_i2s, ix_iadd, ix_iald, ix_iand, ix_iast, ix_icall, ix_icmp_eq, ix_icmp_ge, ix_icmp_gt, ix_icmp_le, ix_icmp_lt, ix_icmp_ne, ix_idiv, ix_if_eq, ix_if_ge, ix_if_gt, ix_if_le, ix_if_lt, ix_if_ne, ix_iinc, ix_iload, ix_imul, ix_ineg, ix_ior, ix_irem, ix_iret, ix_ishl, ix_ishr, ix_istore, ix_isub, ix_iushr, ix_ixor, ix_l2i, ix_ladd, ix_lald, ix_land, ix_last, ix_lcmp, ix_ldcS, ix_ldiv, ix_lload, ix_lmul, ix_lor, ix_lrem, ix_lret, ix_lshl, ix_lstore, ix_lsub, ix_lsw, ix_max, ix_min, ix_new, ix_newa, ix_nret, ix_oinit, ix_pop2L, ix_popI, ix_pushI, ix_pushL, ix_putI, ix_putJ, ix_putR, ix_putZ, ix_sbald, ix_sgetC, ix_sgetV, ix_slen, ix_strc, ix_tald, ix_tsw, ix_vcall, ix_vret, ix_zret, stL, stL2, kilL, popN, fq_sw, fq_lsw, List.map_cons, List.map_nil, List.getElem?_cons_zero, List.getElem?_cons_succ, Option.toList_some, Option.toList_none, List.cons_append, List.nil_append, List.length_cons, List.length_nil, List.sum_cons, List.sum_nil, cat_i, cat_l, cat_r, true_and, and_true, Nat.zero_add, Nat.add_zero, Nat.le_refl, Nat.zero_le, Nat.reduceAdd, Nat.reduceLeDiff, exists_eq_left', Option.some.injEq, not_true_eq_false, not_false_eq_true, false_implies, true_implies, implies_true, and_self, or_true, true_or, or_false, false_or]
      have e9 : ldr (nI 9) (I (M + 1) 7) = ldn 9 (I (M + 1) 7) := ldr_e hr (by decide)
      have as1 : I (M + 1) (12 + 3 * x + 2) + l0 + mnI (I (M + 1) 3) w0 = I (M + 1) (12 + 3 * x + 2) + (l0 + mnI (I (M + 1) 3) w0) := Int32.add_assoc _ _ _
      have as2 : I (M + 1) 10 + nI cnt + 1 = I (M + 1) 10 + nI (cnt + 1) := by rw [Int32.add_assoc, nI_1]
      refine ⟨fun h => absurd h (by omega), fun _ => ⟨fun g1 => ⟨fun g2 => ⟨by omega, fun g3 => ?_, fun g3 => ?_⟩, fun g2 => ?_⟩, fun g1 => ?_⟩⟩
      · have ef : ftX (I (M + 1)) x y (a0, a1, h0, h1, w0, w1, l0, l1) + mnI (I (M + 1) 3) w0 = ftX (I (M + 1)) x y (0, a1, h0 + 1, h1, w0 - mnI (I (M + 1) 3) w0, w1 + mnI (I (M + 1) 3) w0, l0 + mnI (I (M + 1) 3) w0, l1) := by
          unfold ftX
          rw [if_neg (by omega), if_neg (by omega)]
          grind
        rw [e9, ef, as1, as2]
        rw [← li_10] at g1
        refine ih (cnt + 1) true (ldn 9 (I (M + 1) 7)) (0, a1, h0 + 1, h1, w0 - mnI (I (M + 1) 3) w0, w1 + mnI (I (M + 1) 3) w0, l0 + mnI (I (M + 1) 3) w0, l1) _ _ (by omega) ?_
        simp only [spkR, spk, g1, g2, if_true] at hQ
        rw [show cnt + 1 + (spkR (I (M + 1)) p q n true (ldn 9 (I (M + 1) 7)) (0, a1, h0 + 1, h1, w0 - mnI (I (M + 1) 3) w0, w1 + mnI (I (M + 1) 3) w0, l0 + mnI (I (M + 1) 3) w0, l1)).1 = cnt + ((spkR (I (M + 1)) p q n true (ldn 9 (I (M + 1) 7)) (0, a1, h0 + 1, h1, w0 - mnI (I (M + 1) 3) w0, w1 + mnI (I (M + 1) 3) w0, l0 + mnI (I (M + 1) 3) w0, l1)).1 + 1) by omega]
        exact hQ
      · have ef : ftX (I (M + 1)) x y (a0, a1, h0, h1, w0, w1, l0, l1) + -mnI (I (M + 1) 3) w0 = ftX (I (M + 1)) x y (0, a1, h0 + 1, h1, w0 - mnI (I (M + 1) 3) w0, w1 + mnI (I (M + 1) 3) w0, l0 + mnI (I (M + 1) 3) w0, l1) := by
          unfold ftX
          rw [if_pos (by omega), if_pos (by omega)]
          grind
        rw [e9, ef, as1, as2]
        rw [← li_10] at g1
        refine ih (cnt + 1) true (ldn 9 (I (M + 1) 7)) (0, a1, h0 + 1, h1, w0 - mnI (I (M + 1) 3) w0, w1 + mnI (I (M + 1) 3) w0, l0 + mnI (I (M + 1) 3) w0, l1) _ _ (by omega) ?_
        simp only [spkR, spk, g1, g2, if_true] at hQ
        rw [show cnt + 1 + (spkR (I (M + 1)) p q n true (ldn 9 (I (M + 1) 7)) (0, a1, h0 + 1, h1, w0 - mnI (I (M + 1) 3) w0, w1 + mnI (I (M + 1) 3) w0, l0 + mnI (I (M + 1) 3) w0, l1)).1 = cnt + ((spkR (I (M + 1)) p q n true (ldn 9 (I (M + 1) 7)) (0, a1, h0 + 1, h1, w0 - mnI (I (M + 1) 3) w0, w1 + mnI (I (M + 1) 3) w0, l0 + mnI (I (M + 1) 3) w0, l1)).1 + 1) by omega]
        exact hQ
      · rw [← li_10] at g1
        simp only [spkR, spk, g1, g2, if_true, if_false, Nat.add_zero] at hQ
        exact hQ _ _ _ _ _
      · rw [← li_10] at g1
        simp only [spkR, spk, g1, if_false, Nat.add_zero] at hQ
        exact hQ _ _ _ _ _
def sp_X12_says (G : GT) : Sp := fun as S I J z Q => match as with
  | [.ref M, .int a, .int b] => rfS S M ∧ vp_in a 8 ∧ vp_in b 8 ∧ okN (I (M + 1) 2) 20 ∧ (I (M + 1) 7 = 0 ∨ I (M + 1) 7 = 1) ∧ 0 ≤ I (M + 1) (30 + 7 * a.toNatClampNeg + 3) ∧ ¬ a.toNatClampNeg = b.toNatClampNeg ∧ ∃ x y, x < 6 ∧ y < 6 ∧ ¬ x = y ∧ I (M + 1) (30 + 7 * a.toNatClampNeg) = nI x ∧ I (M + 1) (30 + 7 * b.toNatClampNeg) = nI y ∧ Q (some (.int (nI (rqr (I (M + 1)) a.toNatClampNeg b.toNatClampNeg x y).1))) S (up1 I (M + 1) (syX (I (M + 1)) a.toNatClampNeg b.toNatClampNeg x y)) J z
  | _ => False
theorem wbX_0 (A : Nat → Int32) (p q x y : Nat) (hp : p < 8) (hq : q < 8) (hx : x < 6) (hy : y < 6) (hpq : p ≠ q) (hxy : x ≠ y) : wbX A p q x y (A (30 + 7 * p + 5), A (30 + 7 * q + 5), A (30 + 7 * p + 6), A (30 + 7 * q + 6), A (12 + 3 * x), A (12 + 3 * y), 0, 0) 0 = uA A 9 (A 9 + 1) := by
  funext k
  unfold wbX wbR uA
  rw [show nI 0 = 0 from rfl]
  simp only [Int32.add_zero]
  grind (splits := 20)
set_option maxHeartbeats 4000000 in
set_option maxRecDepth 20000 in
theorem c_X12_says {l : Launch} {G : GT} {D : Nat} : ∀ as S I J z Q, sp_X12_says G as S I J z Q → fqCall l G M_X12_says (D + 4) 0 0 as S I J z Q := by
  intro as S I J z Q h
  unfold sp_X12_says at h
  split at h
  · next M a b =>
    obtain ⟨hm, ha, hb, ho, hr, hv, hab, x, y, hx, hy, hxy, ex, ey, hQ⟩ := h
    obtain ⟨p, hp, rfl⟩ := vp_in_of ha (by decide)
    obtain ⟨q, hq, rfl⟩ := vp_in_of hb (by decide)
    rw [nI_clamp (by omega)] at ex ey hv
    rw [nI_clamp (by omega), nI_clamp (by omega)] at hQ hab
    obtain ⟨c, hc, hc1, hc2⟩ := ho.ex
    have e0 := wbX_0 (I (M + 1)) p q x y hp hq hx hy hab hxy
    have ev := ldr_e hr hv
    have ef : ftX (I (M + 1)) x y (I (M + 1) (30 + 7 * p + 5), I (M + 1) (30 + 7 * q + 5), I (M + 1) (30 + 7 * p + 6), I (M + 1) (30 + 7 * q + 6), I (M + 1) (12 + 3 * x), I (M + 1) (12 + 3 * y), 0, 0) = 0 := by
      unfold ftX
      split <;> exact Int32.sub_self _
    have hle : (rqr (I (M + 1)) p q x y).1 ≤ 6 := spk_le _ _ _ _ _ _ 6 _ _ _
    have hl := lp_X12_says (l := l) (G := G) (D := D) (J := J) (z := z) (Q := Q) hm hp hq hx hy hab hxy ex ey hr 6 0 true (ldn (I (M + 1) (30 + 7 * p + 3)) (I (M + 1) 7)) (I (M + 1) (30 + 7 * p + 5), I (M + 1) (30 + 7 * q + 5), I (M + 1) (30 + 7 * p + 6), I (M + 1) (30 + 7 * q + 6), I (M + 1) (12 + 3 * x), I (M + 1) (12 + 3 * y), 0, 0) none none (by omega) (by
      intro o3 o4 o5 o8 o9
      rw [Nat.zero_add]
      show B_X12_says_147 l G D 0 0 Q [some (.ref M), some (.int (nI p)), some (.int (nI q)), o3, o4, o5, some (.int (nI (rqr (I (M + 1)) p q x y).1)), some (.int (ftX (I (M + 1)) x y (rqr (I (M + 1)) p q x y).2)), o8, o9] [] S (up1 I (M + 1) (wbX (I (M + 1)) p q x y (rqr (I (M + 1)) p q x y).2 (rqr (I (M + 1)) p q x y).1)) J z 0 0
      unfold syX at hQ
      generalize rqr (I (M + 1)) p q x y = R at *
      have o2 : okN (I (M + 1) 2) 20 := ho
      simp (disch := omega) only [B_X12_says_147, B_X12_says_162, sp_X12_keepsQuarrel, wbX, wbR_a0, wbR_a1, wbR_h0, wbR_h1, wbR_w0, wbR_w1, wbR_l0, wbR_l1, wbR_s9, wbR_s10, wbR_o1p, wbR_o1q, wbR_o2p, wbR_o2q, wbR_o3p, wbR_o3q, wbR_o0p, wbR_o0q, wbR_o3, wbR_o7, wbR_o6, wbR_o2, wbR_ua0, wbR_ua1, wbR_uh0, wbR_uh1, wbR_uw0, wbR_uw1, wbR_ul0, wbR_ul1, wbR_us9, wbR_us10, u2_up, up1_at, up1_up, ex, ey, hm, hm.k, hm.k1, hm.n1, hm.r1, hm.k2, hm.n2, hm.r2, hm.k3, hm.n3, hm.r3, hm.k4, hm.n4, hm.r4, hm.k5, hm.n5, hm.r5, hm.k6, hm.n6, hm.r6, hm.k7, hm.n7, hm.r7, hm.k8, hm.n8, hm.r8, hm.k9, hm.n9, hm.r9, hm.k10, hm.n10, hm.r10, hm.k11, hm.n11, hm.r11, hm.k12, hm.n12, hm.r12, hm.k13, hm.n13, hm.r13, hm.k14, hm.n14, hm.r14, nI_le0, ho, nI_1, nI_add, nI_clamp, nI_pin, nI_neg, nI_nonneg, nI_leE, nI_ltE, nI_eqE, Nat.not_le, Nat.not_lt, fq_10, fq_01, fq_rr, li_2, li_3, li_4, li_5, li_6, li_7, li_8, li_9, li_10, li_11, li_12, li_13, li_14, li_15, li_16, li_17, li_18, li_19, li_20, li_21, li_22, li_23, li_24, li_25, li_26, li_27, li_28, li_29, li_30, li_32, li_33, li_34, li_35, li_36, li_37, li_38, li_39, li_40, li_41, li_42, li_43, li_44, li_45, li_46, li_47, li_48, li_49, li_50, li_51, li_52, li_53, li_54, li_55, li_56, li_57, li_58, li_59, li_60, li_61, li_62, li_63, li_64, li_65, li_66, li_67, li_68, li_69, li_70, li_71, li_72, li_73, li_74, li_75, li_76, li_77, li_78, li_79, li_80, li_81, li_82, li_83, li_84, li_85, li_86, li_87, li_88, li_89, li_90, li_91, li_92, li_93, li_94, li_95, li_96, li_97, li_98, li_99, li_100, li_101, li_102, li_103, li_104, li_105, li_106, li_107, li_108, li_109, li_110, li_111, li_112, li_113, li_114, li_115, li_116, li_117, li_118, li_119, li_120, li_121, li_122, li_123, li_124, li_125, li_126, li_127, li_128, li_129, li_130, li_131, li_226, li_240, li_255, li_300, li_586, li_594, li_900, li_999, li_1000, li_1800, li_2376, li_2388, li_2406, li_2602, li_2970, li_3067, li_3564, li_9999, li_10000, li_11287, li_65536, li_100000, li_1000000, nI_mul, tn0, tn1, vin0, vin1, Int32.add_zero, Int32.or_zero, Int32.mul_one, Int32.mul_zero, Int32.zero_add, Nat.reduceEqDiff, Nat.reduceMul, Nat.reduceSub, ix_aald, ix_aast, ix_abs, ix_alen, ix_aload, ix_aret, ix_astore, ix_bald, ix_bast, ix_call, ix_cpyI, ix_cpyJ, ix_dead, ix_dup2, ix_dup2L, ix_dupI, ix_dupR, ix_dupx1, ix_getI, ix_getJ, ix_getR, ix_gfm, ix_gtab, ix_i2b, ix_i2c, ix_i2l, ix_i2s, ix_iadd, ix_iald, ix_iand, ix_iast, ix_icall, ix_icmp_eq, ix_icmp_ge, ix_icmp_gt, ix_icmp_le, ix_icmp_lt, ix_icmp_ne, ix_idiv, ix_if_eq, ix_if_ge, ix_if_gt, ix_if_le, ix_if_lt, ix_if_ne, ix_iinc, ix_iload, ix_imul, ix_ineg, ix_ior, ix_irem, ix_iret, ix_ishl, ix_ishr, ix_istore, ix_isub, ix_iushr, ix_ixor, ix_l2i, ix_ladd, ix_lald, ix_land, ix_last, ix_lcmp, ix_ldcS, ix_ldiv, ix_lload, ix_lmul, ix_lor, ix_lrem, ix_lret, ix_lshl, ix_lstore, ix_lsub, ix_lsw, ix_max, ix_min, ix_new, ix_newa, ix_nret, ix_oinit, ix_pop2L, ix_popI, ix_pushI, ix_pushL, ix_putI, ix_putJ, ix_putR, ix_putZ, ix_sbald, ix_sgetC, ix_sgetV, ix_slen, ix_strc, ix_tald, ix_tsw, ix_vcall, ix_vret, ix_zret, stL, stL2, kilL, popN, fq_sw, fq_lsw, List.map_cons, List.map_nil, List.getElem?_cons_zero, List.getElem?_cons_succ, Option.toList_some, Option.toList_none, List.cons_append, List.nil_append, List.length_cons, List.length_nil, List.sum_cons, List.sum_nil, cat_i, cat_l, cat_r, true_and, and_true, Nat.zero_add, Nat.add_zero, Nat.le_refl, Nat.zero_le, Nat.reduceAdd, Nat.reduceLeDiff, exists_eq_left', Option.some.injEq, not_true_eq_false, not_false_eq_true, false_implies, true_implies, implies_true, and_self, or_true, true_or, or_false, false_or]
      refine ⟨fun h => ?_, fun h => ?_⟩
      · rw [if_pos h] at hQ
        rw [h] at hQ ⊢
        exact hQ
      · rw [if_neg h] at hQ
        exact hQ)
    rw [e0, ef] at hl
    refine fq_enter [some (.ref M), some (.int (nI p)), some (.int (nI q)), none, none, none, none, none, none, none] (by decide +kernel) (Nat.le_of_ble_eq_true rfl) rfl (b_X12_says_0 _ _ _ _ _ _ _ _ ?_)
    simp (disch := omega) only [B_X12_says_0, B_X12_says_34, B_X12_says_120, B_X12_says_162, sp_X12_personOf, B_X12_personOf_0, sp_X12_personRow, B_X12_personRow_0, sp_X12_loudBy, sp_X12_shouts, sp_X12_homeOf, B_X12_homeOf_0, sp_X12_goesInto, sp_X12_houseRow, B_X12_houseRow_0, sp_X12_keepsQuarrel, hm, hm.k, hm.k1, hm.n1, hm.r1, hm.k2, hm.n2, hm.r2, hm.k3, hm.n3, hm.r3, hm.k4, hm.n4, hm.r4, hm.k5, hm.n5, hm.r5, hm.k6, hm.n6, hm.r6, hm.k7, hm.n7, hm.r7, hm.k8, hm.n8, hm.r8, hm.k9, hm.n9, hm.r9, hm.k10, hm.n10, hm.r10, hm.k11, hm.n11, hm.r11, hm.k12, hm.n12, hm.r12, hm.k13, hm.n13, hm.r13, hm.k14, hm.n14, hm.r14, li_2, li_3, li_4, li_5, li_6, li_7, li_8, li_9, li_10, li_11, li_12, li_13, li_14, li_15, li_16, li_17, li_18, li_19, li_20, li_21, li_22, li_23, li_24, li_25, li_26, li_27, li_28, li_29, li_30, li_32, li_33, li_34, li_35, li_36, li_37, li_38, li_39, li_40, li_41, li_42, li_43, li_44, li_45, li_46, li_47, li_48, li_49, li_50, li_51, li_52, li_53, li_54, li_55, li_56, li_57, li_58, li_59, li_60, li_61, li_62, li_63, li_64, li_65, li_66, li_67, li_68, li_69, li_70, li_71, li_72, li_73, li_74, li_75, li_76, li_77, li_78, li_79, li_80, li_81, li_82, li_83, li_84, li_85, li_86, li_87, li_88, li_89, li_90, li_91, li_92, li_93, li_94, li_95, li_96, li_97, li_98, li_99, li_100, li_101, li_102, li_103, li_104, li_105, li_106, li_107, li_108, li_109, li_110, li_111, li_112, li_113, li_114, li_115, li_116, li_117, li_118, li_119, li_120, li_121, li_122, li_123, li_124, li_125, li_126, li_127, li_128, li_129, li_130, li_131, li_226, li_240, li_255, li_300, li_586, li_594, li_900, li_999, li_1000, li_1800, li_2376, li_2388, li_2406, li_2602, li_2970, li_3067, li_3564, li_9999, li_10000, li_11287, li_65536, li_100000, li_1000000, nI_mul, tn0, tn1, vin0, vin1, Int32.add_zero, Int32.or_zero, Int32.mul_one, Int32.mul_zero, Int32.zero_add, Nat.reduceEqDiff, Nat.reduceMul, Nat.reduceSub, ev, u2_up0 I (M + 1), nI_1, nI_add, nI_clamp, nI_pin, nI_neg, nI_nonneg, nI_leE, nI_ltE, nI_eqE, Nat.not_le, Nat.not_lt, fq_10, fq_01, fq_rr, ix_aald, ix_aast, ix_abs, ix_alen, ix_aload, ix_aret, ix_astore, ix_bald, ix_bast, ix_call, ix_cpyI, ix_cpyJ, ix_dead, ix_dup2, ix_dup2L, ix_dupI, ix_dupR, ix_dupx1, ix_getI, ix_getJ, ix_getR, ix_gfm, ix_gtab, ix_i2b, ix_i2c, ix_i2l, ix_i2s, ix_iadd, ix_iald, ix_iand, ix_iast, ix_icall, ix_icmp_eq, ix_icmp_ge, ix_icmp_gt, ix_icmp_le, ix_icmp_lt, ix_icmp_ne, ix_idiv, ix_if_eq, ix_if_ge, ix_if_gt, ix_if_le, ix_if_lt, ix_if_ne, ix_iinc, ix_iload, ix_imul, ix_ineg, ix_ior, ix_irem, ix_iret, ix_ishl, ix_ishr, ix_istore, ix_isub, ix_iushr, ix_ixor, ix_l2i, ix_ladd, ix_lald, ix_land, ix_last, ix_lcmp, ix_ldcS, ix_ldiv, ix_lload, ix_lmul, ix_lor, ix_lrem, ix_lret, ix_lshl, ix_lstore, ix_lsub, ix_lsw, ix_max, ix_min, ix_new, ix_newa, ix_nret, ix_oinit, ix_pop2L, ix_popI, ix_pushI, ix_pushL, ix_putI, ix_putJ, ix_putR, ix_putZ, ix_sbald, ix_sgetC, ix_sgetV, ix_slen, ix_strc, ix_tald, ix_tsw, ix_vcall, ix_vret, ix_zret, stL, stL2, kilL, popN, fq_sw, fq_lsw, List.map_cons, List.map_nil, List.getElem?_cons_zero, List.getElem?_cons_succ, Option.toList_some, Option.toList_none, List.cons_append, List.nil_append, List.length_cons, List.length_nil, List.sum_cons, List.sum_nil, cat_i, cat_l, cat_r, true_and, and_true, Nat.zero_add, Nat.add_zero, Nat.le_refl, Nat.zero_le, Nat.reduceAdd, Nat.reduceLeDiff, exists_eq_left', Option.some.injEq, not_true_eq_false, not_false_eq_true, false_implies, true_implies, implies_true, and_self, or_true, true_or, or_false, false_or]
    exact hl
  · exact h.elim
