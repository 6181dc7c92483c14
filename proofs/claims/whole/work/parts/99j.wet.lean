/-! public methods: rain, shares -/
def wtQ (o : Nat) : Nat → List Nat → List Nat
  | _, [] => []
  | p, x :: t => (x * (16 - o) + p * o) :: wtQ o x t
def rwN (o : Nat) : Nat → List Nat
  | 0 => [1, 0, 0, 0, 0, 0, 0, 0, 0, 0, 0, 0, 0]
  | d + 1 => wtQ o 0 (rwN o d)
theorem wtQ_l (o : Nat) : ∀ (l : List Nat) (p : Nat), (wtQ o p l).length = l.length
  | [], _ => rfl
  | x :: t, p => by
    show (wtQ o x t).length + 1 = t.length + 1
    rw [wtQ_l o t x]
theorem rwN_l (o : Nat) : ∀ d, (rwN o d).length = 13
  | 0 => rfl
  | d + 1 => (wtQ_l o _ _).trans (rwN_l o d)
theorem wtQ_g (o : Nat) : ∀ (l : List Nat) (p j : Nat), j < l.length → (wtQ o p l).getD j 0 = l.getD j 0 * (16 - o) + (if j = 0 then p else l.getD (j - 1) 0) * o
  | [], _, j, h => absurd h (Nat.not_lt_zero _)
  | x :: t, p, 0, _ => rfl
  | x :: t, p, j + 1, h => by
    show (wtQ o x t).getD j 0 = t.getD j 0 * (16 - o) + (if j + 1 = 0 then p else (x :: t).getD (j + 1 - 1) 0) * o
    rw [wtQ_g o t x j (Nat.lt_of_succ_lt_succ h), if_neg (Nat.succ_ne_zero j), Nat.add_sub_cancel]
    cases j with
    | zero => rfl
    | succ j => rw [if_neg (Nat.succ_ne_zero j)]; rfl
theorem o16 : ∀ o, o ≤ 16 → (16 - nI o : Int32).toInt64 = lN (16 - o) := by decide +kernel
theorem rnD_N {R : Nat → Int64} {o : Nat} (ho : o ≤ 16) : ∀ d j, j ≤ 12 → rnD R (nI o) d j = lN ((rwN o d).getD j 0) := by
  intro d
  induction d with
  | zero =>
    intro j hj
    show rn0 R 13 j = _
    unfold rn0
    rw [if_pos (by omega)]
    rcases (show j = 0 ∨ j = 1 ∨ j = 2 ∨ j = 3 ∨ j = 4 ∨ j = 5 ∨ j = 6 ∨ j = 7 ∨ j = 8 ∨ j = 9 ∨ j = 10 ∨ j = 11 ∨ j = 12 by omega) with rfl | rfl | rfl | rfl | rfl | rfl | rfl | rfl | rfl | rfl | rfl | rfl | rfl <;> rfl
  | succ d ih =>
    intro j hj
    show rnM (rnD R (nI o) d) (nI o) 0 j = lN ((wtQ o 0 (rwN o d)).getD j 0)
    unfold rnM rnX
    rw [if_pos ⟨by omega, hj⟩, wtQ_g o _ _ _ (by rw [rwN_l]; omega), o16 o ho, nI_l (by omega), ih j hj]
    by_cases q : j = 0
    · rw [if_pos q, if_pos q, Nat.zero_mul, Nat.add_zero, lN_mul, Int64.add_zero]
    · rw [if_neg q, if_neg q, ih (j - 1) (by omega), lN_mul, lN_mul, lN_add]
def sfN (l : List Nat) : Nat → Nat → Nat → Nat
  | _, 0, x => x
  | i, n + 1, x => sfN l (i + 1) n (x + l.getD i 0)
theorem rnZ_N {R : Nat → Int64} {l : List Nat} : ∀ n i x, i + n ≤ 13 → (∀ j, j ≤ 12 → R j = lN (l.getD j 0)) → rnZ R i n (lN x) = lN (sfN l i n x) := by
  intro n
  induction n with
  | zero => exact fun _ _ _ _ => rfl
  | succ n ih =>
    intro i x hi hR
    show rnZ R (i + 1) n (lN x + R i) = lN (sfN l (i + 1) n (x + l.getD i 0))
    rw [hR i (by omega), lN_add]
    exact ih (i + 1) _ (by omega) hR
def chN (n : Nat) : Nat → Nat
  | 0 => 1
  | i + 1 => chN n i * (n - i) / (i + 1)
def wsN (o n k : Nat) : Nat → Nat → Nat → Nat
  | _, 0, w => w
  | i, c + 1, w => wsN o n k (i + 1) c (if i < k then w else w + chN n i * o ^ i * (16 - o) ^ (n - i))
theorem chN_b : ∀ n, n ≤ 12 → ∀ i, i ≤ 13 → chN n i ≤ 1000 := by decide +kernel
theorem pw_N {b : Int32} {v : Nat} (hb : b.toInt64 = lN v) : ∀ n, pwU b n = lN (v ^ n) := by
  have h : ∀ n i x, foldU (fun _ a => a * b.toInt64) i n (lN x) = lN (x * v ^ n) := by
    intro n
    induction n with
    | zero => exact fun i x => by rw [Nat.pow_zero, Nat.mul_one]; rfl
    | succ n ih =>
      intro i x
      show foldU _ (i + 1) n (lN x * b.toInt64) = _
      rw [show lN x * b.toInt64 = lN (x * v) by rw [hb, lN_mul], ih, Nat.pow_succ, Nat.mul_assoc, Nat.mul_comm v (v ^ n)]
  intro n
  have := h n 0 1
  rw [Nat.one_mul] at this
  exact this
theorem wtU_N {o n k : Nat} (ho : o ≤ 16) (hn : n ≤ 12) : ∀ c i w, i + c = n + 1 → wtU (nI o) n k i c (lN w) (lN (chN n i)) = lN (wsN o n k i c w) := by
  intro c
  induction c with
  | zero => exact fun _ _ _ => rfl
  | succ c ih =>
    intro i w hi
    show wtU (nI o) n k (i + 1) c (if i < k then lN w else lN w + lN (chN n i) * pwU (nI o) i * pwU (16 - nI o) (n - i)) (lN (chN n i) * (nI (n - i)).toInt64 / (nI (i + 1)).toInt64) = lN (wsN o n k (i + 1) c (if i < k then w else w + chN n i * o ^ i * (16 - o) ^ (n - i)))
    have hb := chN_b n hn i (by omega)
    have hm : chN n i * (n - i) ≤ 1000 * 12 := Nat.mul_le_mul hb (by omega)
    rw [pw_N (v := o) (nI_l (by omega)), pw_N (v := 16 - o) (o16 o ho), nI_l (by omega), nI_l (by omega), lN_mul, lN_mul, lN_mul, lN_add, pk_lDiv (by omega) (by omega) (by omega)]
    have e : (if i < k then lN w else lN (w + chN n i * o ^ i * (16 - o) ^ (n - i))) = lN (if i < k then w else w + chN n i * o ^ i * (16 - o) ^ (n - i)) := by
      split <;> rfl
    rw [e]
    exact ih (i + 1) _ (by omega)
def wetK (o a : Nat) : Bool := (List.range 13).all fun b => sfN (rwN o a) b (13 - b) 0 == wsN o a b 0 (a + 1) 0 && Nat.ble (sfN (rwN o a) b (13 - b) 0) (16 ^ a)
theorem wet_all : ((List.range 17).all fun o => (List.range 13).all fun a => wetK o a) = true := by decide +kernel
theorem wet_k {o a b : Nat} (ho : o ≤ 16) (ha : a ≤ 12) (hb : b ≤ 12) : sfN (rwN o a) b (13 - b) 0 = wsN o a b 0 (a + 1) 0 ∧ sfN (rwN o a) b (13 - b) 0 ≤ 16 ^ a := by
  have h1 := List.all_eq_true.mp wet_all o (List.mem_range.mpr (by omega))
  have h2 := List.all_eq_true.mp h1 a (List.mem_range.mpr (by omega))
  unfold wetK at h2
  have h3 := List.all_eq_true.mp h2 b (List.mem_range.mpr (by omega))
  rw [Bool.and_eq_true] at h3
  exact ⟨by simpa using h3.1, Nat.le_of_ble_eq_true h3.2⟩
set_option maxHeartbeats 4000000 in
set_option maxRecDepth 20000 in
theorem sim_wet {G : GT} {X M : Nat} (a b : Int32) : SIM G X M sp_X11_wet sp_X12_wet [.int a, .int b] := by
  intro S I J z h
  have h0 := h
  obtain ⟨s, p, hc, hm, hX, hz, hr⟩ := h
  have hc0 := hc
  have hr0 := hr
  obtain ⟨ct, cr, ⟨b1, b2, b3, b4, b5, b6, b7⟩, cl, cm, hs, hp, csp⟩ := hc
  have k0 := ct.1
  obtain ⟨rA, rT, rP, ⟨rS, rq⟩, rM, rL⟩ := hr
  have rS0 := rS
  obtain ⟨hst, hnm, hyr, hbq, hwf, hwz⟩ := rS
  obtain ⟨s5, s6, s7, s9, s10, s11, s12, s16, s13, s14, s15⟩ := hst.2.1
  have fA : ∀ v, u2 I X 10 v (M + 1) = I (M + 1) := fun v => u2_ne (by omega)
  have fM : ∀ v, u2 I X 10 v M = I M := fun v => u2_ne (by omega)
  have fin : ∀ v, relR X M S (u2 (u2 I X 10 v) M 2 v) J z ∧ z ≤ z + 2 := fun v => ⟨h0.st v, by omega⟩
  refine ⟨s, ⟨k0, b6, hs⟩, fun g => ⟨hm, fun _ => ⟨rfl, fin _⟩, fun a' b' ea eb ha hb => absurd ?_ g⟩, fun a' b' ha hb ea eb => ?_⟩
  · subst ea eb
    exact ⟨⟨nI_pos' (by omega), (nI_leI (a := a') (b := 12) (by omega) (by omega)).mpr ha⟩, nI_pos' (by omega), (nI_leI (a := b') (b := 12) (by omega) (by omega)).mpr hb⟩
  · obtain ⟨o, ho, eo, eo2⟩ := hwf.2.2.2.2.2.1.ex
    have e11 : I s 11 = nI o := s11.trans eo
    have z1 : wtU (I s 11) a' b' 0 (a' + 1) 0 1 = lN (wsN o a' b' 0 (a' + 1) 0) := by
      rw [e11]
      exact wtU_N ho ha (a' + 1) 0 0 (by omega)
    have z2 : pwU 16 a' = lN (16 ^ a') := pw_N (v := 16) (by decide) a'
    obtain ⟨g1, g2⟩ := wet_k ho ha hb
    have p16 : 16 ^ a' ≤ 16 ^ 12 := Nat.pow_le_pow_right (by decide) ha
    have p49 : 16 ^ 12 < 2 ^ 49 := by decide
    have pp : 0 < 16 ^ a' := Nat.pow_pos (by decide)
    generalize hw : wsN o a' b' 0 (a' + 1) 0 = w at *
    have gc : cdv 100 (lN w) (lN (16 ^ a')) = lN (Nat.gcd w (16 ^ a')) := cdv_g (by omega) (by omega)
    have gp : 0 < Nat.gcd w (16 ^ a') := Nat.gcd_pos_of_pos_right w pp
    have gl : Nat.gcd w (16 ^ a') ≤ 16 ^ a' := Nat.gcd_le_right w pp
    rw [z1, z2, gc]
    refine ⟨fun q => ?_, ?_⟩
    · have := (pk_lEQ (a := Nat.gcd w (16 ^ a')) (b := 0) (by omega) (by decide)).mp q
      omega
    · refine ⟨hm, fun q => absurd ?_ q, fun c d ec ed hc hd => ?_⟩
      · subst ea eb
        exact ⟨⟨nI_pos' (by omega), (nI_leI (a := a') (b := 12) (by omega) (by omega)).mpr ha⟩, nI_pos' (by omega), (nI_leI (a := b') (b := 12) (by omega) (by omega)).mpr hb⟩
      · subst ea eb
        have := (nI_eqE (a := a') (b := c) (by omega) (by omega)).mp ec
        subst this
        have := (nI_eqE (a := b') (b := d) (by omega) (by omega)).mp ed
        subst this
        refine ⟨w, ?_, by omega, fun R => ⟨rfl, h0.fr 0 ?_ ?_ (fun a x1 x2 x3 => ?_), by omega⟩⟩
        · show rnZ _ b' (13 - b') (lN 0) = lN w
          rw [fA, eo, rnZ_N (l := rwN o a') (13 - b') b' 0 (by omega) (fun j hj => rnD_N ho a' j hj), g1]
        · rw [u2_ne (by omega), u2_ne (by omega), up1_ne (by omega), u2_ck _ _ _ _ _ _ (by omega), u2_same, u2_ck _ _ _ _ _ _ (by omega), u2_same]
        · rw [u2_ne (by omega), u2_ne (by omega), up1_ne (by omega), u2_same, u2_same]
        · rw [u2_ne x2, u2_ne x2, up1_ne x3, u2_ne x1, u2_ne x1]
theorem smU_n {f : Nat → Int32} {n : Nat} (h : ∀ i, i < n → okN (f i) 600) : ∃ d, smU f n = nI d ∧ d = sN (fun i => (f i).toNatClampNeg) n := ⟨_, fold_s n (fun i hi => (h i hi).1), rfl⟩
set_option maxHeartbeats 4000000 in
set_option maxRecDepth 20000 in
theorem sim_share {G : GT} {X M : Nat} (a : Int32) : SIM G X M sp_X11_share sp_X12_share [.int a] := by
  intro S I J z h
  have h0 := h
  obtain ⟨s, p, hc, hm, hX, hz, hr⟩ := h
  have hc0 := hc
  have hr0 := hr
  obtain ⟨ct, cr, ⟨b1, b2, b3, b4, b5, b6, b7⟩, cl, cm, hs, hp, csp⟩ := hc
  have k0 := ct.1
  obtain ⟨rA, rT, rP, ⟨rS, rq⟩, rM, rL⟩ := hr
  have rS0 := rS
  obtain ⟨hst, hnm, hyr, hbq, hwf, hwz⟩ := rS
  obtain ⟨s5, s6, s7, s9, s10, s11, s12, s16, s13, s14, s15⟩ := hst.2.1
  have fA : ∀ v, u2 I X 10 v (M + 1) = I (M + 1) := fun v => u2_ne (by omega)
  have fM : ∀ v, u2 I X 10 v M = I M := fun v => u2_ne (by omega)
  have fin : ∀ v, relR X M S (u2 (u2 I X 10 v) M 2 v) J z ∧ z ≤ z + 2 := fun v => ⟨h0.st v, by omega⟩
  have o0 := hst.1.1
  obtain ⟨c, hc6, ec, ec2⟩ := hst.c0
  have lp := le_p (x := a) (c := c) (by omega)
  have e5 : I s 5 = I (M + 1) 0 := s5
  have sm : smU (fun i => I (s + 18 + i) 2) (I (M + 1) 0).toNatClampNeg = smU (fun i => I (M + 1) (12 + 3 * i)) (I (M + 1) 0).toNatClampNeg := foldU_cg _ _ _ (fun j x _ hj => by dsimp only; rw [(hst.H (i := j) (by omega)).1])
  refine ⟨s, ⟨k0, b6, hs⟩, by rw [e5]; exact o0, fun g => ?_, fun k ek hk => ?_⟩
  · rw [e5, ec, lp] at g
    refine ⟨hm, by rw [fA]; exact o0, fun _ => ⟨rfl, fin _⟩, fun k c' ek ec' hk hc' => absurd ?_ g⟩
    rw [fA, ec] at ec'
    have := (nI_eqE (a := c) (b := c') (by omega) (by omega)).mp ec'
    subst this
    exact (in_c (by omega)).mpr ⟨k, ek, hk⟩
  · subst ek
    rw [e5] at hk
    rw [e5, sm]
    rw [ec2] at hk ⊢
    have hin : 0 ≤ nI k ∧ nI k < I (M + 1) 0 := by rw [ec]; exact (in_c (by omega)).mpr ⟨k, rfl, hk⟩
    have hw : I (s + 18 + k) 2 = I (M + 1) (12 + 3 * k) := (hst.H (i := k) (by omega)).1
    obtain ⟨w, hw6, ew, ew2⟩ := (hwf.2.2.2.2.2.2.2.2.2.1 k (by omega)).1.ex
    obtain ⟨d, ed, ed2⟩ := smU_n (f := fun i => I (M + 1) (12 + 3 * i)) (n := c) (fun i hi => (hwf.2.2.2.2.2.2.2.2.2.1 i (by omega)).1)
    have hd6 : d ≤ 600 := by
      have := hwf.2.2.2.2.2.2.2.2.2.2.2
      unfold sW at this
      rw [ec2] at this
      omega
    refine ⟨fun z => ?_, fun z => ?_⟩
    · refine ⟨hm, by rw [fA]; exact o0, fun q => absurd (by rw [fA]; exact hin) q, fun k' c' ek ec' hk' hc' => ?_⟩
      rw [fA, ec] at ec'
      have := (nI_eqE (a := c) (b := c') (by omega) (by omega)).mp ec'
      subst this
      rw [fA]
      exact ⟨fun _ => ⟨rfl, fin _⟩, fun q => absurd z q⟩
    · rw [hw, ew, ed, nI_l (by omega), nI_l (by omega)]
      have d0 : 0 < d := by
        rcases Nat.eq_zero_or_pos d with q | q
        · rw [ed, q] at z
          exact absurd rfl z
        · exact q
      have gc : cdv 100 (lN w) (lN d) = lN (Nat.gcd w d) := cdv_g (by omega) (by omega)
      have gp : 0 < Nat.gcd w d := Nat.gcd_pos_of_pos_right w d0
      have gl : Nat.gcd w d ≤ d := Nat.gcd_le_right w d0
      rw [gc]
      refine ⟨fun q => ?_, ?_⟩
      · have := (pk_lEQ (a := Nat.gcd w d) (b := 0) (by omega) (by decide)).mp q
        omega
      · refine ⟨hm, by rw [fA]; exact o0, fun q => absurd (by rw [fA]; exact hin) q, fun k' c' ek ec' hk' hc' => ?_⟩
        rw [fA, ec] at ec'
        have := (nI_eqE (a := c) (b := c') (by omega) (by omega)).mp ec'
        subst this
        have := (nI_eqE (a := k) (b := k') (by omega) (by omega)).mp ek
        subst this
        rw [fA]
        refine ⟨fun q => absurd q z, fun _ => ⟨w, d, ew, ed, by omega, by omega, d0, rfl, h0.fr 0 ?_ ?_ (fun a x1 x2 x3 => ?_), by omega⟩⟩
        · rw [u2_ne (by omega), u2_ne (by omega), u2_ck _ _ _ _ _ _ (by omega), u2_same, u2_ck _ _ _ _ _ _ (by omega), u2_same]
        · rw [u2_ne (by omega), u2_ne (by omega), u2_same, u2_same]
        · rw [u2_ne x2, u2_ne x2, u2_ne x1, u2_ne x1]
