/-! public methods: quiet, bait, least voice, calm, best, hired -/
theorem qt_P {I : IH} {s : Nat} {A : Nat → Int32} (h : stR I s A) (hw : wfS A) {w : Int32} {o k : Nat} (ho : o < (A 1).toNatClampNeg) (hk : k < (A 1).toNatClampNeg) : (shW (I (s + 24 + o) 1) (I (s + 24 + k) 1) (I s 13) = w ∧ wpv I s o k) ↔ ((¬ o = k ∧ nrP (A (30 + 7 * o)) (A (30 + 7 * k)) (A 8)) ∧ mnI (A (30 + 7 * o)) (A (30 + 7 * k)) = w) ∧ 0 < (rq2 A o k).1 := by
  rw [wpv_r h hw ho hk, (h.P ho).1, (h.P hk).1, h.2.1.2.2.2.2.2.2.2.2.1]
  have key : (¬ o = k ∧ nrP (A (30 + 7 * o)) (A (30 + 7 * k)) (A 8)) → shW (A (30 + 7 * o)) (A (30 + 7 * k)) (A 8) = mnI (A (30 + 7 * o)) (A (30 + 7 * k)) := fun g => by
    obtain ⟨x, y, hn⟩ := nb_of hw ho hk g.1 g.2
    have h1 := hn.2.2.2.2.2.1
    have h2 := hn.2.2.2.2.2.2.1
    have h3 := hw.1.2
    rw [sh_w hn h3 g.2, hn.2.2.2.1, hn.2.2.2.2.1, mnI_n (by omega) (by omega)]
  constructor
  · rintro ⟨a, b, c⟩
    exact ⟨⟨b, (key b).symm.trans a⟩, c⟩
  · rintro ⟨⟨a, b⟩, c⟩
    exact ⟨(key a).trans b, a, c⟩
theorem rqU_s (A : Nat → Int32) (w : Int32) (c a i n : Nat) : rqU A w c a i (n + 1) = if ((¬ a = i ∧ nrP (A (30 + 7 * a)) (A (30 + 7 * i)) (A 8)) ∧ mnI (A (30 + 7 * a)) (A (30 + 7 * i)) = w) ∧ 0 < (rq2 A a i).1 then true else rqU A w c a (i + 1) n := rfl
theorem rqV_s (A : Nat → Int32) (w : Int32) (c i n : Nat) : rqV A w c i (n + 1) = if rqU A w c i 0 c then true else rqV A w c (i + 1) n := rfl
theorem qtU_r {I : IH} {s : Nat} {A : Nat → Int32} (h : stR I s A) (hw : wfS A) {w : Int32} {c o : Nat} (ho : o < (A 1).toNatClampNeg) : ∀ (n i : Nat) (a : Int32), i + n ≤ (A 1).toNatClampNeg → qtU I s w o i n a = if rqU A w c o i n = true then 0 else a := by
  intro n
  induction n with
  | zero =>
    intro i a _
    rw [qtU_0, if_neg (by unfold rqU; decide)]
  | succ n ih =>
    intro i a hi
    have P := qt_P h hw (w := w) ho (k := i) (by omega)
    rw [qtU_1, ih (i + 1) _ (by omega), rqU_s]
    by_cases g : shW (I (s + 24 + o) 1) (I (s + 24 + i) 1) (I s 13) = w ∧ wpv I s o i
    · rw [if_pos g, if_pos (P.mp g), if_pos rfl]
      split <;> rfl
    · rw [if_neg g, if_neg (fun q => g (P.mpr q))]
theorem qtV_r {I : IH} {s : Nat} {A : Nat → Int32} (h : stR I s A) (hw : wfS A) {w : Int32} : ∀ (n i : Nat) (a : Int32), i + n ≤ (A 1).toNatClampNeg → qtV I s w (A 1).toNatClampNeg i n a = if rqV A w (A 1).toNatClampNeg i n = true then 0 else a := by
  intro n
  induction n with
  | zero =>
    intro i a _
    rw [qtV_0, if_neg (by unfold rqV; decide)]
  | succ n ih =>
    intro i a hi
    rw [qtV_1, ih (i + 1) _ (by omega), qtU_r h hw (c := (A 1).toNatClampNeg) (by omega) _ 0 a (by omega), rqV_s]
    by_cases g : rqU A w (A 1).toNatClampNeg i 0 (A 1).toNatClampNeg = true
    · rw [if_pos g, if_pos g, if_pos rfl]
      split <;> rfl
    · rw [if_neg g, if_neg g]
set_option maxHeartbeats 4000000 in
set_option maxRecDepth 20000 in
theorem sim_quiet {G : GT} {X M : Nat} (w : Int32) : SIM G X M sp_X11_quiet sp_X12_quiet [.int w] := by
  intro S I J z h
  have h0 := h
  obtain ⟨s, p, hc, hm, hX, hz, hr⟩ := h
  have hc0 := hc
  have hr0 := hr
  obtain ⟨ct, cr, ⟨b1, b2, b3, b4, b5, b6, b7⟩, cl, cm, hs, hp, csp⟩ := hc
  have k0 := ct.1
  obtain ⟨rA, rT, rP, ⟨rS, rq⟩, rM, rL⟩ := hr
  have rS0 := rS
  obtain ⟨hst, hnm, hyr, hbq, hwf, hwz⟩ := rS
  obtain ⟨s5, s6, s7, s9, s10, s11, s12, s16, s13, s14, s15⟩ := hst.2.1
  have fA : ∀ v, u2 I X 10 v (M + 1) = I (M + 1) := fun v => u2_ne (by omega)
  have fM : ∀ v, u2 I X 10 v M = I M := fun v => u2_ne (by omega)
  have fin : ∀ v, relR X M S (u2 (u2 I X 10 v) M 2 v) J z ∧ z ≤ z + 2 := fun v => ⟨h0.st v, by omega⟩
  obtain ⟨c, hc6, ec, ec2⟩ := hst.c0
  have wle := wl_e (w := w) hc6
  have e := qtV_r hst hwf (w := w) (I (M + 1) 1).toNatClampNeg 0 1 (by omega)
  refine ⟨s, ⟨k0, b6, hs⟩, by rw [s5]; exact hst.1.1, by rw [s6]; exact hst.1.2.1, fun g => ?_, fun g => ?_⟩
  · rw [s5, ec2, wle, ← ec] at g
    exact ⟨hm, by rw [fA]; exact hwf.r, fun _ => ⟨rfl, fin 1⟩, fun r => absurd (by rw [fA] at r; exact r) g⟩
  · rw [s5, ec2, wle, ← ec] at g
    refine ⟨hm, by rw [fA]; exact hwf.r, fun r => absurd g (by rw [fA] at r; exact r), fun _ I2 hT => ?_⟩
    refine ⟨congrArg (fun v => some (Value.int v)) ?_, h0.try b6 0 scr.rf hT.g, by omega⟩
    rw [fA, s6, e]
    by_cases q : rqV (I (M + 1)) w (I (M + 1) 1).toNatClampNeg 0 (I (M + 1) 1).toNatClampNeg = true
    · rw [if_pos q, bI_f (by rw [q]; decide), bI_f (fun r => r rfl)]
    · rw [if_neg q, bI_t (by simpa using q), bI_t (by decide)]
theorem rbt_f {t lo g : Int32} : ∀ (n i : Nat) (x : Int32), x = g + nI i * lo → rbt t lo (i + 1) n x = fndU (fun o => decide (t < g + nI o * lo)) (i + 1) n := by
  intro n
  induction n with
  | zero => exact fun i x _ => rfl
  | succ n ih =>
    intro i x hx
    have e : x + lo = g + nI (i + 1) * lo := by
      rw [hx, ← nI_add, show nI 1 = 1 from rfl]
      grind
    rw [rbt_1, fndU_1, e, ih (i + 1) _ rfl]
    by_cases q : t < g + nI (i + 1) * lo
    · rw [if_pos q, if_pos (decide_eq_true q)]
    · rw [if_neg q, if_neg (by simpa using q)]
set_option maxHeartbeats 4000000 in
set_option maxRecDepth 20000 in
theorem sim_bait {G : GT} {X M : Nat} (a b : Int32) : SIM G X M sp_X11_bait sp_X12_bait [.int a, .int b] := by
  intro S I J z h
  have h0 := h
  obtain ⟨s, p, hc, hm, hX, hz, hr⟩ := h
  have hc0 := hc
  have hr0 := hr
  obtain ⟨ct, cr, ⟨b1, b2, b3, b4, b5, b6, b7⟩, cl, cm, hs, hp, csp⟩ := hc
  have k0 := ct.1
  obtain ⟨rA, rT, rP, ⟨rS, rq⟩, rM, rL⟩ := hr
  have rS0 := rS
  obtain ⟨hst, hnm, hyr, hbq, hwf, hwz⟩ := rS
  obtain ⟨s5, s6, s7, s9, s10, s11, s12, s16, s13, s14, s15⟩ := hst.2.1
  have fA : ∀ v, u2 I X 10 v (M + 1) = I (M + 1) := fun v => u2_ne (by omega)
  have fM : ∀ v, u2 I X 10 v M = I M := fun v => u2_ne (by omega)
  have fin : ∀ v, relR X M S (u2 (u2 I X 10 v) M 2 v) J z ∧ z ≤ z + 2 := fun v => ⟨h0.st v, by omega⟩
  have pe := pst_r hst hwf a b
  refine ⟨s, ⟨k0, b6, hs⟩, by rw [s6]; exact hst.1.2.1, fun g => ?_, fun g => ?_⟩
  · rw [pe] at g ⊢
    refine ⟨hm, by rw [fA]; exact hst.1.2.1, fun _ => ?_, fun r => absurd (by rw [fA] at r; exact r) g⟩
    rw [fA]
    exact ⟨rfl, fin _⟩
  · rw [pe] at g
    refine ⟨hm, by rw [fA]; exact hst.1.2.1, fun r => absurd g (by rw [fA] at r; exact r), fun _ k l ek el hk hl v hv => ?_⟩
    rw [fA] at hk hl hv
    have o1 := hst.1.2.1.2
    subst ek el
    rw [nI_clamp (by omega), nI_clamp (by omega)]
    have e : v = btV I s k l := by
      rw [hv]
      unfold btV btU
      rw [(hst.P hk).2.2.2.1, (hst.P hl).2.2.1, (hst.P hl).2.1, (hst.P hl).2.2.2.2.2.1, s16, ld_eq hwf hk]
      by_cases q : 10 ≤ ldn (I (M + 1) (30 + 7 * k + 3)) (I (M + 1) 7) + I (M + 1) (30 + 7 * l + 2)
      · rw [if_pos q, if_pos q]
        exact rbt_f 99 0 _ (by rw [show nI 0 = 0 from rfl]; grind)
      · rw [if_neg q, if_neg q]
    subst e
    exact ⟨rfl, fin _⟩
set_option maxHeartbeats 4000000 in
set_option maxRecDepth 20000 in
theorem sim_leastVoice {G : GT} {X M : Nat} (a b : Int32) : SIM G X M sp_X11_leastVoice sp_X12_leastVoice [.int a, .int b] := by
  intro S I J z h
  have h0 := h
  obtain ⟨s, p, hc, hm, hX, hz, hr⟩ := h
  have hc0 := hc
  have hr0 := hr
  obtain ⟨ct, cr, ⟨b1, b2, b3, b4, b5, b6, b7⟩, cl, cm, hs, hp, csp⟩ := hc
  have k0 := ct.1
  obtain ⟨rA, rT, rP, ⟨rS, rq⟩, rM, rL⟩ := hr
  have rS0 := rS
  obtain ⟨hst, hnm, hyr, hbq, hwf, hwz⟩ := rS
  obtain ⟨s5, s6, s7, s9, s10, s11, s12, s16, s13, s14, s15⟩ := hst.2.1
  have fA : ∀ v, u2 I X 10 v (M + 1) = I (M + 1) := fun v => u2_ne (by omega)
  have fM : ∀ v, u2 I X 10 v M = I M := fun v => u2_ne (by omega)
  have fin : ∀ v, relR X M S (u2 (u2 I X 10 v) M 2 v) J z ∧ z ≤ z + 2 := fun v => ⟨h0.st v, by omega⟩
  have pe := pst_r hst hwf a b
  refine ⟨s, ⟨k0, b6, hs⟩, by rw [s6]; exact hst.1.2.1, fun g => ?_, fun g => ?_⟩
  · rw [pe] at g ⊢
    refine ⟨hm, by rw [fA]; exact hst.1.2.1, fun _ => ?_, fun r => absurd (by rw [fA] at r; exact r) g⟩
    rw [fA]
    exact ⟨rfl, fin _⟩
  · rw [pe] at g
    refine ⟨hm, by rw [fA]; exact hst.1.2.1, fun r => absurd g (by rw [fA] at r; exact r), fun _ l el hl v hv => ?_⟩
    rw [fA] at hl hv
    have o1 := hst.1.2.1.2
    subst el
    rw [nI_clamp (by omega)]
    have e : v = lvU I s l 1 9 := by
      rw [hv]
      unfold lvU rlv
      refine fndU_congr (fun j h1 h2 => ?_)
      rw [(hst.P hl).2.2.1, (hst.P hl).2.1, (hst.P hl).2.2.2.2.2.1, s16, ldr_e hwf.2.2.2.2.2.2.2.1 ((nI_leI (a := 0) (by omega) (by omega)).mpr (Nat.zero_le j))]
    subst e
    exact ⟨rfl, fin _⟩
theorem rmx_c {A : Nat → Int32} {t : Nat} : ∀ (k i m : Nat), (∀ j, i ≤ j → j < i + k → ∃ x, x ≤ 30 ∧ A (30 + 7 * j + 5) = nI x) → m ≤ 30 → t < 1000 → (foldU (fun i a => if a < A (30 + 7 * i + 5) then A (30 + 7 * i + 5) else a) i k (nI m) ≤ nI t ↔ (m ≤ t ∧ ∀ j, i ≤ j → j < i + k → A (30 + 7 * j + 5) ≤ nI t)) := by
  intro k
  induction k with
  | zero =>
    intro i m _ hm ht
    show nI m ≤ nI t ↔ _
    rw [nI_leI (by omega) (by omega)]
    exact ⟨fun h => ⟨h, fun j h1 h2 => by omega⟩, fun h => h.1⟩
  | succ k ih =>
    intro i m hA hm ht
    obtain ⟨x, hx, ex⟩ := hA i (by omega) (by omega)
    show foldU _ (i + 1) k (if nI m < A (30 + 7 * i + 5) then A (30 + 7 * i + 5) else nI m) ≤ nI t ↔ _
    rw [ex]
    have e : (if nI m < nI x then nI x else nI m) = nI (max m x) := by
      by_cases q : m < x
      · rw [if_pos ((nI_ltI (by omega) (by omega)).mpr q), show max m x = x by omega]
      · rw [if_neg (fun r => q ((nI_ltI (by omega) (by omega)).mp r)), show max m x = m by omega]
    rw [e, ih (i + 1) (max m x) (fun j h1 h2 => hA j (by omega) (by omega)) (by omega) ht]
    constructor
    · rintro ⟨h1, h2⟩
      refine ⟨by omega, fun j h3 h4 => ?_⟩
      by_cases q : j = i
      · subst q
        rw [ex, nI_leI (by omega) (by omega)]
        omega
      · exact h2 j (by omega) (by omega)
    · rintro ⟨h1, h2⟩
      refine ⟨?_, fun j h3 h4 => h2 j (by omega) (by omega)⟩
      have := h2 i (by omega) (by omega)
      rw [ex, nI_leI (by omega) (by omega)] at this
      omega
theorem cmU_c {I : IH} {s : Nat} {t : Int32} : ∀ (k i : Nat), ∀ a, (¬ cmU I s t i k a = 0 ↔ (¬ a = 0 ∧ ∀ j, i ≤ j → j < i + k → ¬ 0 < mx0 (I (s + 24 + j) 6 - t * I s 10))) := by
  intro k
  induction k with
  | zero =>
    intro i a
    rw [cmU_0]
    exact ⟨fun h => ⟨h, fun j h1 h2 => by omega⟩, fun h => h.1⟩
  | succ k ih =>
    intro i a
    rw [cmU_1, ih (i + 1)]
    by_cases q : 0 < mx0 (I (s + 24 + i) 6 - t * I s 10)
    · rw [if_pos q]
      exact ⟨fun h => absurd rfl h.1, fun h => absurd q (h.2 i (by omega) (by omega))⟩
    · rw [if_neg q]
      refine ⟨fun h => ⟨h.1, fun j h1 h2 => ?_⟩, fun h => ⟨h.1, fun j h1 h2 => h.2 j (by omega) (by omega)⟩⟩
      by_cases r : j = i
      · subst r
        exact q
      · exact h.2 j (by omega) (by omega)
set_option maxHeartbeats 4000000 in
set_option maxRecDepth 20000 in
theorem sim_calmIn {G : GT} {X M : Nat} : SIM G X M sp_X11_calmIn sp_X12_calmIn [] := by
  intro S I J z h
  have h0 := h
  obtain ⟨s, p, hc, hm, hX, hz, hr⟩ := h
  have hc0 := hc
  have hr0 := hr
  obtain ⟨ct, cr, ⟨b1, b2, b3, b4, b5, b6, b7⟩, cl, cm, hs, hp, csp⟩ := hc
  have k0 := ct.1
  obtain ⟨rA, rT, rP, ⟨rS, rq⟩, rM, rL⟩ := hr
  have rS0 := rS
  obtain ⟨hst, hnm, hyr, hbq, hwf, hwz⟩ := rS
  obtain ⟨s5, s6, s7, s9, s10, s11, s12, s16, s13, s14, s15⟩ := hst.2.1
  have fA : ∀ v, u2 I X 10 v (M + 1) = I (M + 1) := fun v => u2_ne (by omega)
  have fM : ∀ v, u2 I X 10 v M = I M := fun v => u2_ne (by omega)
  have fin : ∀ v, relR X M S (u2 (u2 I X 10 v) M 2 v) J z ∧ z ≤ z + 2 := fun v => ⟨h0.st v, by omega⟩
  have o1 := hst.1.2.1.2
  have e : cmF I s (I (M + 1) 1).toNatClampNeg 0 100 = rcl (I (M + 1) 4) (rmx (I (M + 1)) (I (M + 1) 1).toNatClampNeg 0) 0 100 := by
    unfold cmF rcl
    refine fndU_congr (fun j h1 h2 => ?_)
    obtain ⟨y, hy, ey, ey2⟩ := hwf.2.2.2.2.1.ex
    have l : j * y ≤ 99 * 9 := Nat.mul_le_mul (by omega) hy
    have r : rmx (I (M + 1)) (I (M + 1) 1).toNatClampNeg 0 ≤ nI j * I (M + 1) 4 ↔ (0 ≤ j * y ∧ ∀ i, 0 ≤ i → i < 0 + (I (M + 1) 1).toNatClampNeg → I (M + 1) (30 + 7 * i + 5) ≤ nI (j * y)) := by
      rw [ey, nI_mul]
      unfold rmx
      exact rmx_c (A := I (M + 1)) (t := j * y) (I (M + 1) 1).toNatClampNeg 0 0 (fun i _ hi => by
        obtain ⟨x, hx, ex, -⟩ := (hwf.2.2.2.2.2.2.2.2.1 i (by omega)).2.2.2.2.2.ex
        exact ⟨x, hx, ex⟩) (by omega) (by omega)
    refine decide_eq_decide.mpr ?_
    rw [cmU_c, r]
    refine ⟨fun h => ⟨by omega, fun i g1 g2 => ?_⟩, fun h => ⟨by decide, fun i g1 g2 => ?_⟩⟩
    · have := h.2 i g1 g2
      obtain ⟨x, hx, ex, ex2⟩ := (hwf.2.2.2.2.2.2.2.2.1 i (by omega)).2.2.2.2.2.ex
      rw [(hst.P (p := i) (by omega)).2.2.2.2.2.1, s10, mx0_ng (hwf.2.2.2.2.2.2.2.2.1 i (by omega)).2.2.2.2.2 hwf.2.2.2.2.1 (by omega), ey2, ex2] at this
      rw [ex, nI_leI (by omega) (by omega)]
      rw [nI_gt0 (by omega)] at this
      omega
    · have := h.2 i g1 g2
      obtain ⟨x, hx, ex, ex2⟩ := (hwf.2.2.2.2.2.2.2.2.1 i (by omega)).2.2.2.2.2.ex
      rw [ex, nI_leI (by omega) (by omega)] at this
      rw [(hst.P (p := i) (by omega)).2.2.2.2.2.1, s10, mx0_ng (hwf.2.2.2.2.2.2.2.2.1 i (by omega)).2.2.2.2.2 hwf.2.2.2.2.1 (by omega), ey2, ex2, nI_gt0 (by omega)]
      omega
  refine ⟨s, ⟨k0, b6, hs⟩, by rw [s6]; exact hst.1.2.1, ?_⟩
  rw [s6, e]
  refine ⟨hm, by rw [fA]; exact hst.1.2.1, fun v hv => ?_⟩
  rw [fA] at hv
  subst hv
  exact ⟨rfl, fin _⟩
theorem gn_rg {I : IH} {s : Nat} {A : Nat → Int32} (h : stR I s A) {k l x y : Nat} (hn : nbR A k l x y) : gnU I s k l = rgn A k l := by
  have o0 := h.1.1.2
  have h1 := hn.2.2.2.2.2.1
  unfold gnU rgn
  rw [qrl_rq h hn, (h.P hn.1).1, hn.2.2.2.1, nI_clamp (by omega), (h.H hn.2.2.2.2.2.1).1, nb_rq o0 hn]
set_option maxHeartbeats 4000000 in
set_option maxRecDepth 20000 in
theorem sim_bestTo {G : GT} {X M : Nat} (a : Int32) : SIM G X M sp_X11_bestTo sp_X12_bestTo [.int a] := by
  intro S I J z h
  have h0 := h
  obtain ⟨s, p, hc, hm, hX, hz, hr⟩ := h
  have hc0 := hc
  have hr0 := hr
  obtain ⟨ct, cr, ⟨b1, b2, b3, b4, b5, b6, b7⟩, cl, cm, hs, hp, csp⟩ := hc
  have k0 := ct.1
  obtain ⟨rA, rT, rP, ⟨rS, rq⟩, rM, rL⟩ := hr
  have rS0 := rS
  obtain ⟨hst, hnm, hyr, hbq, hwf, hwz⟩ := rS
  obtain ⟨s5, s6, s7, s9, s10, s11, s12, s16, s13, s14, s15⟩ := hst.2.1
  have fA : ∀ v, u2 I X 10 v (M + 1) = I (M + 1) := fun v => u2_ne (by omega)
  have fM : ∀ v, u2 I X 10 v M = I M := fun v => u2_ne (by omega)
  have fin : ∀ v, relR X M S (u2 (u2 I X 10 v) M 2 v) J z ∧ z ≤ z + 2 := fun v => ⟨h0.st v, by omega⟩
  obtain ⟨c, hc8, ec, ec2⟩ := hst.c1
  have lp := le_p (x := a) (c := c) (by omega)
  have hXs : X < s := by omega
  refine ⟨s, ⟨k0, b6, hs⟩, hXs, by rw [s6]; exact hst.1.2.1, by rw [s16]; exact hwf.2.2.2.2.2.2.2.1, fun i hi => ?_, fun g => ?_, fun k ek hk I1 J1 hs1 => ?_⟩
  · rw [s6] at hi
    rw [(hst.P hi).1]
    exact (hwf.r.2.2.2.2 i hi).1
  · rw [s6, ec, lp] at g
    refine ⟨hm, by rw [fA]; exact hwf.r, fun _ => ⟨rfl, fin 1⟩, fun k ek hk => absurd ?_ g⟩
    rw [fA, ec2] at hk
    exact (in_c (by omega)).mpr ⟨k, ek, hk⟩
  · subst ek
    rw [s6] at hk
    have e : bsU I s k 0 (I (M + 1) 1).toNatClampNeg (-1, 0) = rbs (I (M + 1)) k (I (M + 1) 1).toNatClampNeg (-1, 0) := by
      unfold bsU rbs
      refine foldU_cg _ _ _ (fun i x _ hi => ?_)
      have hi : i < (I (M + 1) 1).toNatClampNeg := by omega
      rw [(hst.P hk).1, (hst.P hi).1, s13]
      have sn := sh_n hwf hk hi
      by_cases q : ¬ k = i ∧ nrP (I (M + 1) (30 + 7 * k)) (I (M + 1) (30 + 7 * i)) (I (M + 1) 8)
      · rw [if_neg (fun r => sn.mp r q), if_neg (c := ¬ (¬ k = i ∧ nrP (I (M + 1) (30 + 7 * k)) (I (M + 1) (30 + 7 * i)) (I (M + 1) 8))) (fun r => r q)]
        obtain ⟨x', y', hn⟩ := nb_of hwf hk hi q.1 q.2
        rw [gn_rg hst hn]
        by_cases w : x.2 < rgn (I (M + 1)) k i
        · rw [if_pos w, if_neg (Int32.not_le.mpr w)]
        · rw [if_neg w, if_pos (Int32.not_lt.mp w)]
      · rw [if_pos (sn.mpr q), if_pos q]
    rw [s6, e]
    have eA : ∀ v, u2 I1 X 10 v (M + 1) = I (M + 1) := fun v => by
      rw [u2_ne (by omega)]
      funext j
      exact hs1.1 _ j (by omega)
    refine ⟨hm, by rw [eA]; exact hwf.r, fun g => absurd ?_ g, fun k1 ek1 hk1 I2 hT => ?_⟩
    · rw [eA, ec]
      exact (in_c (by omega)).mpr ⟨k, rfl, by omega⟩
    · rw [eA, ec2] at hk1
      have := (nI_eqE (a := k) (b := k1) (by omega) (by omega)).mp ek1
      subst this
      rw [eA]
      exact ⟨rfl, h0.try b6 _ hs1 hT.g, by omega⟩
theorem wpt_r {A : Nat → Int32} {ld ld' ears : Nat → Int32} {er tm st : Int32} {t : Nat} (ht : tm = nI t) (ht3 : t ≤ 30) : ∀ (n i g : Nat), i + n ≤ 8 → g + 9 * n ≤ 200 → (∀ j, j < 8 → i ≤ j → j < i + n → ∃ x, x ≤ 9 ∧ ld j = nI x ∧ ld' j = ld j) → (wpt ld ears er tm st i n (nI g) = true ↔ ((foldU (fun i x => if st >>> (nI i &&& 31) &&& 1 = 1 ∧ 10 ≤ ld' i + er then (x.1 + ld' i, (1 : Int32)) else x) i n (nI g, (0 : Int32))).2 = 1 ∧ tm < (foldU (fun i x => if st >>> (nI i &&& 31) &&& 1 = 1 ∧ 10 ≤ ld' i + er then (x.1 + ld' i, (1 : Int32)) else x) i n (nI g, (0 : Int32))).1)) := by
  have up : ∀ (n i g : Nat), i + n ≤ 8 → g + 9 * n ≤ 200 → (∀ j, j < 8 → i ≤ j → j < i + n → ∃ x, x ≤ 9 ∧ ld j = nI x ∧ ld' j = ld j) → ∃ g', g ≤ g' ∧ g' ≤ g + 9 * n ∧ foldU (fun i x => if st >>> (nI i &&& 31) &&& 1 = 1 ∧ 10 ≤ ld' i + er then (x.1 + ld' i, (1 : Int32)) else x) i n (nI g, (1 : Int32)) = (nI g', 1) := by
    intro n
    induction n with
    | zero => exact fun i g _ _ _ => ⟨g, by omega, by omega, rfl⟩
    | succ n ih =>
      intro i g hi hg hA
      obtain ⟨x, hx, ex, ex'⟩ := hA i (by omega) (by omega) (by omega)
      show ∃ g', _ ∧ _ ∧ foldU _ (i + 1) n (if st >>> (nI i &&& 31) &&& 1 = 1 ∧ 10 ≤ ld' i + er then (nI g + ld' i, (1 : Int32)) else (nI g, 1)) = _
      rw [ex', ex]
      by_cases q : st >>> (nI i &&& 31) &&& 1 = 1 ∧ 10 ≤ nI x + er
      · rw [if_pos q, nI_add]
        obtain ⟨g', h1, h2, h3⟩ := ih (i + 1) (g + x) (by omega) (by omega) (fun j h1 h2 h3 => hA j h1 (by omega) (by omega))
        exact ⟨g', by omega, by omega, h3⟩
      · rw [if_neg q]
        obtain ⟨g', h1, h2, h3⟩ := ih (i + 1) g (by omega) (by omega) (fun j h1 h2 h3 => hA j h1 (by omega) (by omega))
        exact ⟨g', by omega, by omega, h3⟩
  intro n
  induction n with
  | zero =>
    intro i g _ _ _
    show false = true ↔ ((0 : Int32) = 1 ∧ _)
    exact ⟨fun h => (by cases h), fun h => absurd h.1 (by decide)⟩
  | succ n ih =>
    intro i g hi hg hA
    obtain ⟨x, hx, ex, ex'⟩ := hA i (by omega) (by omega) (by omega)
    have e1 : wpt ld ears er tm st i (n + 1) (nI g) = if st >>> (nI i &&& 31) &&& 1 = 1 ∧ 10 ≤ nI x + er then (if tm < nI (g + x) then true else wpt ld ears er tm st (i + 1) n (nI (g + x))) else wpt ld ears er tm st (i + 1) n (nI g) := by
      show (if st >>> (nI i &&& 31) &&& 1 = 1 ∧ 10 ≤ ld i + er then (if tm < nI g + ld i then true else wpt ld ears er tm st (i + 1) n (nI g + ld i)) else wpt ld ears er tm st (i + 1) n (nI g)) = _
      rw [ex, nI_add]
    have e2 : foldU (fun i x => if st >>> (nI i &&& 31) &&& 1 = 1 ∧ 10 ≤ ld' i + er then (x.1 + ld' i, (1 : Int32)) else x) i (n + 1) (nI g, (0 : Int32)) = foldU (fun i x => if st >>> (nI i &&& 31) &&& 1 = 1 ∧ 10 ≤ ld' i + er then (x.1 + ld' i, (1 : Int32)) else x) (i + 1) n (if st >>> (nI i &&& 31) &&& 1 = 1 ∧ 10 ≤ nI x + er then (nI (g + x), (1 : Int32)) else (nI g, 0)) := by
      show foldU _ (i + 1) n (if st >>> (nI i &&& 31) &&& 1 = 1 ∧ 10 ≤ ld' i + er then (nI g + ld' i, (1 : Int32)) else (nI g, 0)) = _
      rw [ex', ex, nI_add]
    rw [e1, e2]
    have hA' : ∀ j, j < 8 → i + 1 ≤ j → j < i + 1 + n → ∃ x, x ≤ 9 ∧ ld j = nI x ∧ ld' j = ld j := fun j h1 h2 h3 => hA j h1 (by omega) (by omega)
    by_cases q : st >>> (nI i &&& 31) &&& 1 = 1 ∧ 10 ≤ nI x + er
    · rw [if_pos q, if_pos q]
      obtain ⟨g', h1, h2, h3⟩ := up n (i + 1) (g + x) (by omega) (by omega) hA'
      rw [h3, ht]
      by_cases w : nI t < nI (g + x)
      · rw [if_pos w]
        have w' := (nI_ltI (by omega) (by omega)).mp w
        exact ⟨fun _ => ⟨rfl, (nI_ltI (by omega) (by omega)).mpr (by omega)⟩, fun _ => rfl⟩
      · rw [if_neg w, ← ht]
        have w' : ¬ t < g + x := fun r => w ((nI_ltI (by omega) (by omega)).mpr r)
        -- nothing yet: the rest decides
        have rest : ∀ (n i g g1 : Nat), g = g1 → i + n ≤ 8 → g + 9 * n ≤ 200 → ¬ t < g → (∀ j, j < 8 → i ≤ j → j < i + n → ∃ x, x ≤ 9 ∧ ld j = nI x ∧ ld' j = ld j) → (wpt ld ears er tm st i n (nI g) = true ↔ tm < (foldU (fun i x => if st >>> (nI i &&& 31) &&& 1 = 1 ∧ 10 ≤ ld' i + er then (x.1 + ld' i, (1 : Int32)) else x) i n (nI g1, (1 : Int32))).1) := by
          intro n
          induction n with
          | zero =>
            intro i g g1 e _ _ hg _
            subst e
            show false = true ↔ tm < nI g
            rw [ht, nI_ltI (by omega) (by omega)]
            exact ⟨fun h => (by cases h), fun h => absurd h hg⟩
          | succ n ih =>
            intro i g g1 e hi hg hgt hA
            subst e
            obtain ⟨x, hx, ex, ex'⟩ := hA i (by omega) (by omega) (by omega)
            have hA' : ∀ j, j < 8 → i + 1 ≤ j → j < i + 1 + n → ∃ x, x ≤ 9 ∧ ld j = nI x ∧ ld' j = ld j := fun j h1 h2 h3 => hA j h1 (by omega) (by omega)
            show (if st >>> (nI i &&& 31) &&& 1 = 1 ∧ 10 ≤ ld i + er then (if tm < nI g + ld i then true else wpt ld ears er tm st (i + 1) n (nI g + ld i)) else wpt ld ears er tm st (i + 1) n (nI g)) = true ↔ tm < (foldU _ (i + 1) n (if st >>> (nI i &&& 31) &&& 1 = 1 ∧ 10 ≤ ld' i + er then (nI g + ld' i, (1 : Int32)) else (nI g, 1))).1
            rw [ex', ex, nI_add]
            by_cases q : st >>> (nI i &&& 31) &&& 1 = 1 ∧ 10 ≤ nI x + er
            · rw [if_pos q, if_pos q]
              by_cases w : tm < nI (g + x)
              · rw [if_pos w]
                obtain ⟨g', h1, h2, h3⟩ := up n (i + 1) (g + x) (by omega) (by omega) hA'
                rw [h3]
                rw [ht] at w ⊢
                have w' := (nI_ltI (by omega) (by omega)).mp w
                exact ⟨fun _ => (nI_ltI (by omega) (by omega)).mpr (by omega), fun _ => rfl⟩
              · rw [if_neg w]
                rw [ht] at w
                exact ih (i + 1) (g + x) (g + x) rfl (by omega) (by omega) (fun r => w ((nI_ltI (by omega) (by omega)).mpr r)) hA'
            · rw [if_neg q, if_neg q]
              exact ih (i + 1) g g rfl (by omega) (by omega) hgt hA'
        have r := rest n (i + 1) (g + x) (g + x) rfl (by omega) (by omega) w' hA'
        rw [h3] at r
        exact r.trans ⟨fun h => ⟨rfl, h⟩, fun h => h.2⟩
    · rw [if_neg q, if_neg q]
      exact ih (i + 1) g (by omega) (by omega) hA'
theorem ds_01 {f : Nat → Int32 × Int32 → Prop} [∀ i x, Decidable (f i x)] {g : Nat → Int32} : ∀ (n i : Nat) (x : Int32 × Int32), (x.2 = 0 ∨ x.2 = 1) → ((foldU (fun i x => if f i x then (x.1 + g i, (1 : Int32)) else x) i n x).2 = 0 ∨ (foldU (fun i x => if f i x then (x.1 + g i, (1 : Int32)) else x) i n x).2 = 1)
  | 0, _, _, h => h
  | n + 1, i, x, h => by
    show (foldU _ (i + 1) n (if f i x then (x.1 + g i, (1 : Int32)) else x)).2 = 0 ∨ (foldU _ (i + 1) n (if f i x then (x.1 + g i, (1 : Int32)) else x)).2 = 1
    refine ds_01 n (i + 1) _ ?_
    split
    · exact Or.inr rfl
    · exact h
theorem bc_bit : ∀ k, k < 256 → bcx (nI k) = nI (bitU 9 (nI k)) := by decide +kernel
theorem ch_sb {a b : Nat} (ha : a ≤ 8) (hb : b ≤ 8) : (nI a - nI b < 0) = (a < b) := by
  have : ∀ a, a ≤ 8 → ∀ b, b ≤ 8 → (nI a - nI b < 0 ↔ a < b) := by decide +kernel
  exact propext (this a ha b hb)
theorem i32_sub0 {a b : Int32} : (a - b = 0) = (a = b) := propext ⟨fun h => by grind, fun h => by grind⟩
/-- the cheapest that are hired, on both sides -/
theorem hire_r {I I' : IH} {s M : Nat} (h : stR I s (I (M + 1))) (hw : wfS (I (M + 1))) (hI' : I' (M + 1) = I (M + 1)) {k : Nat} (hk : k < (I (M + 1) 1).toNatClampNeg) : (chU I s (I (M + 1) 1).toNatClampNeg k = 0 ∧ rhU I' M (I (M + 1) 1).toNatClampNeg k = -1) ∨ ∃ m, 0 < m ∧ m < 256 ∧ chU I s (I (M + 1) 1).toNatClampNeg k = nI m ∧ rhU I' M (I (M + 1) 1).toNatClampNeg k = nI m := by
  obtain ⟨c, hc, ec, ec2⟩ := h.c1
  have s13 : I s 13 = I (M + 1) 8 := h.2.1.2.2.2.2.2.2.2.2.1
  have s16 : I s 16 = I (M + 1) 7 := h.2.1.2.2.2.2.2.2.2.1
  have eN : nrS I s c k = rnS (I (M + 1)) c k := setU_cg (fun i hi => by
    rw [(h.P (p := k) (by omega)).1, (h.P (p := i) (by omega)).1, s13, sh_n hw (p := k) (q := i) (by omega) (by omega)]
    exact Decidable.not_not)
  obtain ⟨m, hm, em⟩ := setU_ex (fun o => ¬ k = o ∧ nrP (I (M + 1) (30 + 7 * k)) (I (M + 1) (30 + 7 * o)) (I (M + 1) 8)) hc
  have em : rnS (I (M + 1)) c k = nI m := em
  have hm : m < 256 := Nat.lt_of_lt_of_le hm (by have : 2 ^ c ≤ 2 ^ 8 := Nat.pow_le_pow_right (by omega) hc; simpa using this)
  have py : ∀ v, pyU I s c v = rpy (I (M + 1)) c v := fun v => by
    unfold pyU rpy
    refine foldU_cg _ _ _ (fun i x _ hi => ?_)
    rw [(h.P (p := i) (by omega)).2.2.2.2.1]
  have wp : ∀ v, wptI I s k v 0 c (I (s + 24 + k) 6) = true ↔ rdsP I' M k c v := fun v => by
    obtain ⟨t, ht, et, et2⟩ := (hw.2.2.2.2.2.2.2.2.1 k hk).2.1.ex
    obtain ⟨g, hg, eg, eg2⟩ := (hw.2.2.2.2.2.2.2.2.1 k hk).2.2.2.2.2.ex
    have r := wpt_r (A := I (M + 1)) (ld := fun i => ldn (I (s + 24 + i) 4) (I s 16)) (ld' := fun i => ldr (I (M + 1) (30 + 7 * i + 3)) (I (M + 1) 7)) (ears := fun _ => 0) (er := I (M + 1) (30 + 7 * k + 2)) (tm := I (M + 1) (30 + 7 * k + 1)) (st := v) et ht c 0 g (by omega) (by omega) (fun j _ _ hj => by
      have hj1 : j < (I (M + 1) 1).toNatClampNeg := by omega
      obtain ⟨x, hx, ex, -⟩ := (ldn_ok (hw.2.2.2.2.2.2.2.2.1 j hj1).2.2.2.1.1 hw.2.2.2.2.2.2.2.1).ex
      refine ⟨x, hx, ?_, ?_⟩
      · rw [(h.P hj1).2.2.2.1, s16]
        exact ex
      · rw [(h.P hj1).2.2.2.1, s16]
        exact ld_eq hw hj1)
    have r2 := ds_01 (f := fun i x => v >>> (nI i &&& 31) &&& 1 = 1 ∧ 10 ≤ ldr (I (M + 1) (30 + 7 * i + 3)) (I (M + 1) 7) + I (M + 1) (30 + 7 * k + 2)) (g := fun i => ldr (I (M + 1) (30 + 7 * i + 3)) (I (M + 1) 7)) c 0 (nI g, 0) (Or.inl rfl)
    unfold wptI rdsP dsU
    rw [hI', (h.P hk).2.2.1, (h.P hk).2.1, (h.P hk).2.2.2.2.2.1, eg]
    refine r.trans ⟨fun q => ⟨?_, q.2⟩, fun q => ⟨r2.resolve_left q.1, q.2⟩⟩
    rw [q.1]
    decide
  unfold chU rhU
  rw [hI', ec2, eN, em, nI_clamp (by omega)]
  have key : ∀ (n i : Nat) (a b : Int32), 1 ≤ i → i + n ≤ 256 → ((a = 0 ∧ b = -1) ∨ ∃ m, 0 < m ∧ m < 256 ∧ a = nI m ∧ b = nI m) → ((foldU (chF I s c k) i n a = 0 ∧ foldU (rhF I' M c k m) i n b = -1) ∨ ∃ m1, 0 < m1 ∧ m1 < 256 ∧ foldU (chF I s c k) i n a = nI m1 ∧ foldU (rhF I' M c k m) i n b = nI m1) := by
    intro n
    induction n with
    | zero => exact fun i a b _ _ hab => hab
    | succ n ih =>
      intro i a b hi hn hab
      refine ih (i + 1) _ _ (by omega) (by omega) ?_
      unfold chF rhF
      rw [eN, em]
      have hb9 := bit_le i (by omega)
      rcases hab with ⟨rfl, rfl⟩ | ⟨m1, h1, h2, rfl, rfl⟩
      · by_cases q : nI i &&& (nI m ^^^ -1) = 0 ∧ rdsP I' M k c (nI i)
        · rw [if_pos ⟨q.1, (wp _).mpr q.2, Or.inl rfl⟩, if_pos ⟨q, Or.inl rfl⟩]
          exact Or.inr ⟨i, by omega, by omega, rfl, rfl⟩
        · rw [if_neg (fun r => q ⟨r.1, (wp _).mp r.2.1⟩), if_neg (fun r => q r.1)]
          exact Or.inl ⟨rfl, rfl⟩
      · have hb1 := bit_le m1 h2
        have n0 : ¬ nI m1 = 0 := fun r => by
          have := (nI_eqE (a := m1) (b := 0) (by omega) (by omega)).mp r
          omega
        have n1 : ¬ nI m1 = -1 := of_eq_false (nI_m1 (by omega))
        have cc : (pyU I s c (nI i) - pyU I s c (nI m1) < 0 ∨ (pyU I s c (nI i) - pyU I s c (nI m1) = 0 ∧ bcx (nI i) < bcx (nI m1))) ↔ rls (I' (M + 1)) c (nI i) (nI m1) < 0 := by
          unfold rls
          rw [hI', py, py, bc_bit i (by omega), bc_bit m1 h2, i32_sub0]
          by_cases w : rpy (I (M + 1)) c (nI i) = rpy (I (M + 1)) c (nI m1)
          · rw [if_neg (fun r => r w), ch_sb hb9 hb1, w, show rpy (I (M + 1)) c (nI m1) - rpy (I (M + 1)) c (nI m1) = 0 by grind]
            refine ⟨fun r => r.elim (fun u => absurd u (by decide)) (fun u => (nI_ltI (by omega) (by omega)).mp u.2), fun r => Or.inr ⟨rfl, (nI_ltI (by omega) (by omega)).mpr r⟩⟩
          · rw [if_pos w]
            exact ⟨fun r => r.elim id (fun u => absurd u.1 w), Or.inl⟩
        by_cases q : (nI i &&& (nI m ^^^ -1) = 0 ∧ rdsP I' M k c (nI i)) ∧ rls (I' (M + 1)) c (nI i) (nI m1) < 0
        · rw [if_pos ⟨q.1.1, (wp _).mpr q.1.2, Or.inr (cc.mpr q.2)⟩, if_pos ⟨q.1, Or.inr q.2⟩]
          exact Or.inr ⟨i, by omega, by omega, rfl, rfl⟩
        · rw [if_neg (fun r => q ⟨⟨r.1, (wp _).mp r.2.1⟩, r.2.2.elim (fun u => absurd u n0) cc.mp⟩), if_neg (fun r => q ⟨r.1, r.2.elim (fun u => absurd u n1) id⟩)]
          exact Or.inr ⟨m1, h1, h2, rfl, rfl⟩
  exact key m 1 0 (-1) (by omega) (by omega) (Or.inl ⟨rfl, rfl⟩)
set_option maxHeartbeats 4000000 in
set_option maxRecDepth 20000 in
theorem sim_hire {G : GT} {X M : Nat} (a : Int32) : SIM G X M sp_X11_hire sp_X12_hire [.int a] := by
  intro S I J z h
  have h0 := h
  obtain ⟨s, p, hc, hm, hX, hz, hr⟩ := h
  have hc0 := hc
  have hr0 := hr
  obtain ⟨ct, cr, ⟨b1, b2, b3, b4, b5, b6, b7⟩, cl, cm, hs, hp, csp⟩ := hc
  have k0 := ct.1
  obtain ⟨rA, rT, rP, ⟨rS, rq⟩, rM, rL⟩ := hr
  have rS0 := rS
  obtain ⟨hst, hnm, hyr, hbq, hwf, hwz⟩ := rS
  obtain ⟨s5, s6, s7, s9, s10, s11, s12, s16, s13, s14, s15⟩ := hst.2.1
  have fA : ∀ v, u2 I X 10 v (M + 1) = I (M + 1) := fun v => u2_ne (by omega)
  have fM : ∀ v, u2 I X 10 v M = I M := fun v => u2_ne (by omega)
  have fin : ∀ v, relR X M S (u2 (u2 I X 10 v) M 2 v) J z ∧ z ≤ z + 2 := fun v => ⟨h0.st v, by omega⟩
  obtain ⟨c, hc8, ec, ec2⟩ := hst.c1
  have lp := le_p (x := a) (c := c) (by omega)
  have o6 : okN (nI c) 8 := okN.nI hc8 (by omega)
  by_cases g : 0 ≤ a ∧ a < nI c
  · obtain ⟨k, rfl, hk⟩ := (in_c (by omega)).mp g
    have bg : bI (k < c) = 1 := bI_t hk
    have hr := hire_r (I' := u2 I X 10 0) hst hwf (fA 0) (k := k) (by omega)
    have hr6 := hire_r (I' := u2 I X 10 6) hst hwf (fA 6) (k := k) (by omega)
    rw [ec2] at hr hr6
    simp (disch := omega) only [sp_X11_hire, B_X11_hire_0, B_X11_hire_48, sp_X11_isPerson, B_X11_isPerson_0, sp_X11_isWithin, sp_X11_refuse, B_X11_refuse_0, sp_X6_cheapestSet, sp_X6_payOf, sp_X11_answer, B_X11_answer_0, sp_X12_hire, B_X12_hire_0, B_X12_hire_43, sp_X12_isPerson, sp_X12_refuse, B_X12_refuse_0, sp_X12_hiring, sp_X12_paysOf, sp_X12_gives, B_X12_gives_0, k0, b6, fA, fM, s6, ec, lp, bg, o6, hs, hs.k, hs.r0, hs.k1, hs.r1, hs.k2, hs.r2, hs.k3, hs.r3, hs.k4, hs.r4, hs.k12, hs.n1, hs.n2, hs.n3, hs.y0, hs.k5, hs.n5, hs.y1, hs.k6, hs.n6, hs.y2, hs.k7, hs.n7, hs.y3, hs.k8, hs.n8, hs.y4, hs.k9, hs.n9, hs.y5, hs.k10, hs.n10, hs.y6, hs.k11, hs.n11, hs.p0, hs.p1, hs.p2, hs.k13, hs.n13, hs.q0, hs.q1, hs.k14, hs.k15, hs.k16, hs.n16, hs.k17, hs.n17, hs.rH, hs.kH, hs.rP, hs.kP, hs.rQ, hs.kQ, hm, hm.k, hm.k1, hm.n1, hm.r1, hm.k2, hm.n2, hm.r2, hm.k3, hm.n3, hm.r3, hm.k4, hm.n4, hm.r4, hm.k5, hm.n5, hm.r5, hm.k6, hm.n6, hm.r6, hm.k7, hm.n7, hm.r7, hm.k8, hm.n8, hm.r8, hm.k9, hm.n9, hm.r9, hm.k10, hm.n10, hm.r10, hm.k11, hm.n11, hm.r11, hm.k12, hm.n12, hm.r12, hm.k13, hm.n13, hm.r13, hm.k14, hm.n14, hm.r14, nI_1, nI_add, nI_clamp, nI_pin, nI_neg, nI_nonneg, nI_leE, nI_ltE, nI_eqE, Nat.not_le, Nat.not_lt, fq_10, fq_01, fq_rr, ix_aald, ix_aast, ix_abs, ix_alen, ix_aload, ix_aret, ix_astore, ix_bald, ix_bast, ix_call, ix_cpyI, ix_cpyJ, ix_dead, ix_dup2, ix_dup2L, ix_dupI, ix_dupR, ix_dupx1, ix_getI, ix_getJ, ix_getR, ix_gfm, ix_gtab, ix_i2b, ix_i2c, ix_i2l, ix_i2s, ix_iadd, ix_iald, ix_iand, ix_iast, ix_icall, ix_icmp_eq, ix_icmp_ge, ix_icmp_gt, ix_icmp_le, ix_icmp_lt, ix_icmp_ne, ix_idiv, ix_if_eq, ix_if_ge, ix_if_gt, ix_if_le, ix_if_lt, ix_if_ne, ix_iinc, ix_iload, ix_imul, ix_ineg, ix_ior, ix_irem, ix_iret, ix_ishl, ix_ishr, ix_istore, ix_isub, ix_iushr, ix_ixor, ix_l2i, ix_ladd, ix_lald, ix_land, ix_last, ix_lcmp, ix_ldcS, ix_ldiv, ix_lload, ix_lmul, ix_lor, ix_lrem, ix_lret, ix_lshl, ix_lstore, ix_lsub, ix_lsw, ix_max, ix_min, ix_new, ix_newa, ix_nret, ix_oinit, ix_pop2L, ix_popI, ix_pushI, ix_pushL, ix_putI, ix_putJ, ix_putR, ix_putZ, ix_sbald, ix_sgetC, ix_sgetV, ix_slen, ix_strc, ix_tald, ix_tsw, ix_vcall, ix_vret, ix_zret, stL, stL2, kilL, popN, fq_sw, fq_lsw, List.map_cons, List.map_nil, List.getElem?_cons_zero, List.getElem?_cons_succ, Option.toList_some, Option.toList_none, List.cons_append, List.nil_append, List.length_cons, List.length_nil, List.sum_cons, List.sum_nil, cat_i, cat_l, cat_r, true_and, and_true, Nat.zero_add, Nat.add_zero, Nat.le_refl, Nat.zero_le, Nat.reduceAdd, Nat.reduceLeDiff, exists_eq_left', Option.some.injEq, not_true_eq_false, not_false_eq_true, false_implies, true_implies, implies_true, and_self, or_true, true_or, or_false, false_or]
    refine ⟨fun q => ?_, fun q => ?_⟩
    · rcases hr with ⟨a0, -⟩ | ⟨m, h1, h2, e1, e2⟩
      · exact absurd a0 q
      · rw [e1, e2]
        exact ⟨fun _ => ⟨congrArg Value.int (foldU_cg _ _ _ (fun i x _ hi => by rw [(hst.P (p := i) (by omega)).2.2.2.2.1])), fin 0⟩, fun r => absurd r (of_eq_false (nI_m1 (by omega)))⟩
    · rcases hr6 with ⟨-, e1⟩ | ⟨m, h1, h2, e1, -⟩
      · exact ⟨fun r => absurd e1 r, fun _ => fin 6⟩
      · rw [e1] at q
        have := (nI_eqE (a := m) (b := 0) (by omega) (by omega)).mp q
        omega
  · simp (disch := omega) only [sp_X11_hire, B_X11_hire_0, B_X11_hire_48, sp_X11_isPerson, B_X11_isPerson_0, sp_X11_isWithin, sp_X11_refuse, B_X11_refuse_0, sp_X6_cheapestSet, sp_X6_payOf, sp_X11_answer, B_X11_answer_0, sp_X12_hire, B_X12_hire_0, B_X12_hire_43, sp_X12_isPerson, sp_X12_refuse, B_X12_refuse_0, sp_X12_hiring, sp_X12_paysOf, sp_X12_gives, B_X12_gives_0, k0, b6, fA, fM, s6, ec, lp, g, hs, hs.k, hs.r0, hs.k1, hs.r1, hs.k2, hs.r2, hs.k3, hs.r3, hs.k4, hs.r4, hs.k12, hs.n1, hs.n2, hs.n3, hs.y0, hs.k5, hs.n5, hs.y1, hs.k6, hs.n6, hs.y2, hs.k7, hs.n7, hs.y3, hs.k8, hs.n8, hs.y4, hs.k9, hs.n9, hs.y5, hs.k10, hs.n10, hs.y6, hs.k11, hs.n11, hs.p0, hs.p1, hs.p2, hs.k13, hs.n13, hs.q0, hs.q1, hs.k14, hs.k15, hs.k16, hs.n16, hs.k17, hs.n17, hs.rH, hs.kH, hs.rP, hs.kP, hs.rQ, hs.kQ, hm, hm.k, hm.k1, hm.n1, hm.r1, hm.k2, hm.n2, hm.r2, hm.k3, hm.n3, hm.r3, hm.k4, hm.n4, hm.r4, hm.k5, hm.n5, hm.r5, hm.k6, hm.n6, hm.r6, hm.k7, hm.n7, hm.r7, hm.k8, hm.n8, hm.r8, hm.k9, hm.n9, hm.r9, hm.k10, hm.n10, hm.r10, hm.k11, hm.n11, hm.r11, hm.k12, hm.n12, hm.r12, hm.k13, hm.n13, hm.r13, hm.k14, hm.n14, hm.r14, bI_01, bI_01b, bI_0, fq_10, fq_01, fq_rr, ix_aald, ix_aast, ix_abs, ix_alen, ix_aload, ix_aret, ix_astore, ix_bald, ix_bast, ix_call, ix_cpyI, ix_cpyJ, ix_dead, ix_dup2, ix_dup2L, ix_dupI, ix_dupR, ix_dupx1, ix_getI, ix_getJ, ix_getR, ix_gfm, ix_gtab, ix_i2b, ix_i2c, ix_i2l, ix_i2s, ix_iadd, ix_iald, ix_iand, ix_iast, ix_icall, ix_icmp_eq, ix_icmp_ge, ix_icmp_gt, ix_icmp_le, ix_icmp_lt, ix_icmp_ne, ix_idiv, ix_if_eq, ix_if_ge, ix_if_gt, ix_if_le, ix_if_lt, ix_if_ne, ix_iinc, ix_iload, ix_imul, ix_ineg, ix_ior, ix_irem, ix_iret, ix_ishl, ix_ishr, ix_istore, ix_isub, ix_iushr, ix_ixor, ix_l2i, ix_ladd, ix_lald, ix_land, ix_last, ix_lcmp, ix_ldcS, ix_ldiv, ix_lload, ix_lmul, ix_lor, ix_lrem, ix_lret, ix_lshl, ix_lstore, ix_lsub, ix_lsw, ix_max, ix_min, ix_new, ix_newa, ix_nret, ix_oinit, ix_pop2L, ix_popI, ix_pushI, ix_pushL, ix_putI, ix_putJ, ix_putR, ix_putZ, ix_sbald, ix_sgetC, ix_sgetV, ix_slen, ix_strc, ix_tald, ix_tsw, ix_vcall, ix_vret, ix_zret, stL, stL2, kilL, popN, fq_sw, fq_lsw, List.map_cons, List.map_nil, List.getElem?_cons_zero, List.getElem?_cons_succ, Option.toList_some, Option.toList_none, List.cons_append, List.nil_append, List.length_cons, List.length_nil, List.sum_cons, List.sum_nil, cat_i, cat_l, cat_r, true_and, and_true, Nat.zero_add, Nat.add_zero, Nat.le_refl, Nat.zero_le, Nat.reduceAdd, Nat.reduceLeDiff, exists_eq_left', Option.some.injEq, not_true_eq_false, not_false_eq_true, false_implies, true_implies, implies_true, and_self, or_true, true_or, or_false, false_or]
    exact fin 1
set_option maxHeartbeats 4000000 in
set_option maxRecDepth 20000 in
theorem sim_hireSet {G : GT} {X M : Nat} (a : Int32) : SIM G X M sp_X11_hireSet sp_X12_hireSet [.int a] := by
  intro S I J z h
  have h0 := h
  obtain ⟨s, p, hc, hm, hX, hz, hr⟩ := h
  have hc0 := hc
  have hr0 := hr
  obtain ⟨ct, cr, ⟨b1, b2, b3, b4, b5, b6, b7⟩, cl, cm, hs, hp, csp⟩ := hc
  have k0 := ct.1
  obtain ⟨rA, rT, rP, ⟨rS, rq⟩, rM, rL⟩ := hr
  have rS0 := rS
  obtain ⟨hst, hnm, hyr, hbq, hwf, hwz⟩ := rS
  obtain ⟨s5, s6, s7, s9, s10, s11, s12, s16, s13, s14, s15⟩ := hst.2.1
  have fA : ∀ v, u2 I X 10 v (M + 1) = I (M + 1) := fun v => u2_ne (by omega)
  have fM : ∀ v, u2 I X 10 v M = I M := fun v => u2_ne (by omega)
  have fin : ∀ v, relR X M S (u2 (u2 I X 10 v) M 2 v) J z ∧ z ≤ z + 2 := fun v => ⟨h0.st v, by omega⟩
  obtain ⟨c, hc8, ec, ec2⟩ := hst.c1
  have lp := le_p (x := a) (c := c) (by omega)
  have o6 : okN (nI c) 8 := okN.nI hc8 (by omega)
  by_cases g : 0 ≤ a ∧ a < nI c
  · obtain ⟨k, rfl, hk⟩ := (in_c (by omega)).mp g
    have bg : bI (k < c) = 1 := bI_t hk
    have hr := hire_r (I' := u2 I X 10 0) hst hwf (fA 0) (k := k) (by omega)
    have hr6 := hire_r (I' := u2 I X 10 6) hst hwf (fA 6) (k := k) (by omega)
    rw [ec2] at hr hr6
    simp (disch := omega) only [sp_X11_hireSet, B_X11_hireSet_0, B_X11_hireSet_41, sp_X11_isPerson, B_X11_isPerson_0, sp_X11_isWithin, sp_X11_refuse, B_X11_refuse_0, sp_X6_cheapestSet, sp_X11_answer, B_X11_answer_0, sp_X12_hireSet, B_X12_hireSet_0, B_X12_hireSet_25, sp_X12_isPerson, sp_X12_hiring, sp_X12_orNone, B_X12_orNone_0, B_X12_orNone_19, sp_X12_refuse, B_X12_refuse_0, sp_X12_gives, B_X12_gives_0, k0, b6, fA, fM, s6, ec, lp, bg, o6, hs, hs.k, hs.r0, hs.k1, hs.r1, hs.k2, hs.r2, hs.k3, hs.r3, hs.k4, hs.r4, hs.k12, hs.n1, hs.n2, hs.n3, hs.y0, hs.k5, hs.n5, hs.y1, hs.k6, hs.n6, hs.y2, hs.k7, hs.n7, hs.y3, hs.k8, hs.n8, hs.y4, hs.k9, hs.n9, hs.y5, hs.k10, hs.n10, hs.y6, hs.k11, hs.n11, hs.p0, hs.p1, hs.p2, hs.k13, hs.n13, hs.q0, hs.q1, hs.k14, hs.k15, hs.k16, hs.n16, hs.k17, hs.n17, hs.rH, hs.kH, hs.rP, hs.kP, hs.rQ, hs.kQ, hm, hm.k, hm.k1, hm.n1, hm.r1, hm.k2, hm.n2, hm.r2, hm.k3, hm.n3, hm.r3, hm.k4, hm.n4, hm.r4, hm.k5, hm.n5, hm.r5, hm.k6, hm.n6, hm.r6, hm.k7, hm.n7, hm.r7, hm.k8, hm.n8, hm.r8, hm.k9, hm.n9, hm.r9, hm.k10, hm.n10, hm.r10, hm.k11, hm.n11, hm.r11, hm.k12, hm.n12, hm.r12, hm.k13, hm.n13, hm.r13, hm.k14, hm.n14, hm.r14, nI_1, nI_add, nI_clamp, nI_pin, nI_neg, nI_nonneg, nI_leE, nI_ltE, nI_eqE, Nat.not_le, Nat.not_lt, fq_10, fq_01, fq_rr, ix_aald, ix_aast, ix_abs, ix_alen, ix_aload, ix_aret, ix_astore, ix_bald, ix_bast, ix_call, ix_cpyI, ix_cpyJ, ix_dead, ix_dup2, ix_dup2L, ix_dupI, ix_dupR, ix_dupx1, ix_getI, ix_getJ, ix_getR, ix_gfm, ix_gtab, ix_i2b, ix_i2c, ix_i2l, ix_i2s, ix_iadd, ix_iald, ix_iand, ix_iast, ix_icall, ix_icmp_eq, ix_icmp_ge, ix_icmp_gt, ix_icmp_le, ix_icmp_lt, ix_icmp_ne, ix_idiv, ix_if_eq, ix_if_ge, ix_if_gt, ix_if_le, ix_if_lt, ix_if_ne, ix_iinc, ix_iload, ix_imul, ix_ineg, ix_ior, ix_irem, ix_iret, ix_ishl, ix_ishr, ix_istore, ix_isub, ix_iushr, ix_ixor, ix_l2i, ix_ladd, ix_lald, ix_land, ix_last, ix_lcmp, ix_ldcS, ix_ldiv, ix_lload, ix_lmul, ix_lor, ix_lrem, ix_lret, ix_lshl, ix_lstore, ix_lsub, ix_lsw, ix_max, ix_min, ix_new, ix_newa, ix_nret, ix_oinit, ix_pop2L, ix_popI, ix_pushI, ix_pushL, ix_putI, ix_putJ, ix_putR, ix_putZ, ix_sbald, ix_sgetC, ix_sgetV, ix_slen, ix_strc, ix_tald, ix_tsw, ix_vcall, ix_vret, ix_zret, stL, stL2, kilL, popN, fq_sw, fq_lsw, List.map_cons, List.map_nil, List.getElem?_cons_zero, List.getElem?_cons_succ, Option.toList_some, Option.toList_none, List.cons_append, List.nil_append, List.length_cons, List.length_nil, List.sum_cons, List.sum_nil, cat_i, cat_l, cat_r, true_and, and_true, Nat.zero_add, Nat.add_zero, Nat.le_refl, Nat.zero_le, Nat.reduceAdd, Nat.reduceLeDiff, exists_eq_left', Option.some.injEq, not_true_eq_false, not_false_eq_true, false_implies, true_implies, implies_true, and_self, or_true, true_or, or_false, false_or]
    refine ⟨fun q => ?_, fun q => ?_⟩
    · rcases hr with ⟨a0, -⟩ | ⟨m, h1, h2, e1, e2⟩
      · exact absurd a0 q
      · rw [e1, e2]
        exact ⟨fun _ => ⟨rfl, fin 0⟩, fun r => absurd r (of_eq_false (nI_m1 (by omega)))⟩
    · rcases hr6 with ⟨-, e1⟩ | ⟨m, h1, h2, e1, -⟩
      · exact ⟨fun r => absurd e1 r, fun _ => fin 6⟩
      · rw [e1] at q
        have := (nI_eqE (a := m) (b := 0) (by omega) (by omega)).mp q
        omega
  · simp (disch := omega) only [sp_X11_hireSet, B_X11_hireSet_0, B_X11_hireSet_41, sp_X11_isPerson, B_X11_isPerson_0, sp_X11_isWithin, sp_X11_refuse, B_X11_refuse_0, sp_X6_cheapestSet, sp_X11_answer, B_X11_answer_0, sp_X12_hireSet, B_X12_hireSet_0, B_X12_hireSet_25, sp_X12_isPerson, sp_X12_hiring, sp_X12_orNone, B_X12_orNone_0, B_X12_orNone_19, sp_X12_refuse, B_X12_refuse_0, sp_X12_gives, B_X12_gives_0, k0, b6, fA, fM, s6, ec, lp, g, hs, hs.k, hs.r0, hs.k1, hs.r1, hs.k2, hs.r2, hs.k3, hs.r3, hs.k4, hs.r4, hs.k12, hs.n1, hs.n2, hs.n3, hs.y0, hs.k5, hs.n5, hs.y1, hs.k6, hs.n6, hs.y2, hs.k7, hs.n7, hs.y3, hs.k8, hs.n8, hs.y4, hs.k9, hs.n9, hs.y5, hs.k10, hs.n10, hs.y6, hs.k11, hs.n11, hs.p0, hs.p1, hs.p2, hs.k13, hs.n13, hs.q0, hs.q1, hs.k14, hs.k15, hs.k16, hs.n16, hs.k17, hs.n17, hs.rH, hs.kH, hs.rP, hs.kP, hs.rQ, hs.kQ, hm, hm.k, hm.k1, hm.n1, hm.r1, hm.k2, hm.n2, hm.r2, hm.k3, hm.n3, hm.r3, hm.k4, hm.n4, hm.r4, hm.k5, hm.n5, hm.r5, hm.k6, hm.n6, hm.r6, hm.k7, hm.n7, hm.r7, hm.k8, hm.n8, hm.r8, hm.k9, hm.n9, hm.r9, hm.k10, hm.n10, hm.r10, hm.k11, hm.n11, hm.r11, hm.k12, hm.n12, hm.r12, hm.k13, hm.n13, hm.r13, hm.k14, hm.n14, hm.r14, bI_01, bI_01b, bI_0, fq_10, fq_01, fq_rr, ix_aald, ix_aast, ix_abs, ix_alen, ix_aload, ix_aret, ix_astore, ix_bald, ix_bast, ix_call, ix_cpyI, ix_cpyJ, ix_dead, ix_dup2, ix_dup2L, ix_dupI, ix_dupR, ix_dupx1, ix_getI, ix_getJ, ix_getR, ix_gfm, ix_gtab, ix_i2b, ix_i2c, ix_i2l, ix_i2s, ix_iadd, ix_iald, ix_iand, ix_iast, ix_icall, ix_icmp_eq, ix_icmp_ge, ix_icmp_gt, ix_icmp_le, ix_icmp_lt, ix_icmp_ne, ix_idiv, ix_if_eq, ix_if_ge, ix_if_gt, ix_if_le, ix_if_lt, ix_if_ne, ix_iinc, ix_iload, ix_imul, ix_ineg, ix_ior, ix_irem, ix_iret, ix_ishl, ix_ishr, ix_istore, ix_isub, ix_iushr, ix_ixor, ix_l2i, ix_ladd, ix_lald, ix_land, ix_last, ix_lcmp, ix_ldcS, ix_ldiv, ix_lload, ix_lmul, ix_lor, ix_lrem, ix_lret, ix_lshl, ix_lstore, ix_lsub, ix_lsw, ix_max, ix_min, ix_new, ix_newa, ix_nret, ix_oinit, ix_pop2L, ix_popI, ix_pushI, ix_pushL, ix_putI, ix_putJ, ix_putR, ix_putZ, ix_sbald, ix_sgetC, ix_sgetV, ix_slen, ix_strc, ix_tald, ix_tsw, ix_vcall, ix_vret, ix_zret, stL, stL2, kilL, popN, fq_sw, fq_lsw, List.map_cons, List.map_nil, List.getElem?_cons_zero, List.getElem?_cons_succ, Option.toList_some, Option.toList_none, List.cons_append, List.nil_append, List.length_cons, List.length_nil, List.sum_cons, List.sum_nil, cat_i, cat_l, cat_r, true_and, and_true, Nat.zero_add, Nat.add_zero, Nat.le_refl, Nat.zero_le, Nat.reduceAdd, Nat.reduceLeDiff, exists_eq_left', Option.some.injEq, not_true_eq_false, not_false_eq_true, false_implies, true_implies, implies_true, and_self, or_true, true_or, or_false, false_or]
    exact fin 1
