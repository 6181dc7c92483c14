/-! public methods: trays, the tape -/
theorem relR.k3 {X M : Nat} {S : Sh} {I I1 : IH} {J J1 : JH} {z : Nat} (h : relR X M S I J z) (eI : ∀ a, X + 13 ≤ a → a < X + 278 → I1 a = I a) (eJ : ∀ a, X + 13 ≤ a → a < X + 278 → J1 a = J a) (e9 : I1 X 9 = I X 9) (e34 : I1 M 34 = I M 34) (e35 : I1 M 35 = I M 35) (e1 : I1 (M + 1) = I (M + 1)) (e12 : I1 (M + 12) = I (M + 12)) (e14 : I1 (M + 14) = I (M + 14)) (j2 : J1 (M + 2) = J (M + 2)) (hA : pA X M I1 J1) (hT : pT X M I1 J1) (hP : pP X M I1 J1) : relR X M S I1 J1 z := by
  obtain ⟨s, p, hc, hm, hX, hz, a1, a2, a3, h4, h5, h6⟩ := h
  have hsp := hc.2.2.2.2.2.2.2
  exact ⟨s, p, hc, hm, hX, hz, hA, hT, hP, h4.mv (fun a x1 x2 _ => eI a (by omega) (by omega)) (fun a x1 x2 => by rw [eJ a (by omega) (by omega)]) (fun a x1 x2 => eI a (by omega) (by omega)) (fun k _ => by rw [e1]) (fun k _ => by rw [j2]), h5.mv e9 e35 (fun a x1 x2 => ⟨eI a (by omega) (by omega), eJ a (by omega) (by omega)⟩) (fun k _ _ => by rw [e1]) (fun k _ _ => by rw [j2]), h6.mv (eI _ (by omega) (by omega)) e34 e12 e14⟩
/-- trays alone -/
theorem relR.tr {X M : Nat} {S : Sh} {I I1 : IH} {J J1 : JH} {z : Nat} (h : relR X M S I J z) (eI : ∀ a, a ≠ X → ¬ (X + 2 ≤ a ∧ a < X + 10) → a ≠ M → a ≠ M + 3 → a ≠ M + 4 → I1 a = I a) (eX : ∀ k, k ≠ 10 → I1 X k = I X k) (eM : ∀ k, k ≠ 2 → I1 M k = I M k) (eJ : ∀ a, ¬ (X + 2 ≤ a ∧ a < X + 10) → a ≠ M + 5 → J1 a = J a) (e2 : I1 X 10 = I1 M 2) (hT : pT X M I1 J1) : relR X M S I1 J1 z := by
  have hX : X + 278 ≤ M := by
    obtain ⟨s, p, hc, hm, hX, hz, hr⟩ := h
    exact hX
  obtain ⟨s, p, hc, hm, _, hz, ⟨a1, a2, a3, a4, a5⟩, h2, h3, hr⟩ := id h
  refine h.k3 (fun a x1 x2 => eI a (by omega) (by omega) (by omega) (by omega) (by omega)) (fun a x1 x2 => eJ a (by omega) (by omega)) (eX 9 (by omega)) (eM 34 (by omega)) (eM 35 (by omega)) (eI _ (by omega) (by omega) (by omega) (by omega) (by omega)) (eI _ (by omega) (by omega) (by omega) (by omega) (by omega)) (eI _ (by omega) (by omega) (by omega) (by omega) (by omega)) (eJ _ (by omega) (by omega)) ⟨e2, ?_, ?_, ?_, ?_⟩ hT (h3.mv (eX 8 (by omega)) (eM 10 (by omega)) (eI _ (by omega) (by omega) (by omega) (by omega) (by omega)) (eI _ (by omega) (by omega) (by omega) (by omega) (by omega)) (eJ _ (by omega) (by omega)))
  · rw [eJ X (by omega) (by omega), eJ M (by omega) (by omega)]; exact a2
  · rw [eJ X (by omega) (by omega), eJ M (by omega) (by omega)]; exact a3
  · rw [eX 11 (by omega), eM 16 (by omega)]; exact a4
  · rw [eX 12 (by omega), eM 17 (by omega)]; exact a5
/-- a fraction alone -/
theorem relR.fr {X M : Nat} {S : Sh} {I : IH} {J J1 : JH} {z : Nat} (h : relR X M S I J z) (v : Int32) (eX : J1 X 13 = J1 M 3) (eX2 : J1 X 14 = J1 M 4) (eJ : ∀ a, a ≠ X → a ≠ M → a ≠ M + 11 → J1 a = J a) : relR X M S (u2 (u2 I X 10 v) M 2 v) J1 z := by
  have h' := h.st v
  have hX : X + 278 ≤ M := by
    obtain ⟨s, p, hc, hm, hX, hz, hr⟩ := h
    exact hX
  obtain ⟨s, p, hc, hm, _, hz, ⟨a1, a2, a3, a4, a5⟩, h2, h3, hr⟩ := id h'
  exact h'.k3 (fun a x1 x2 => rfl) (fun a x1 x2 => eJ a (by omega) (by omega) (by omega)) rfl rfl rfl rfl rfl rfl (eJ _ (by omega) (by omega) (by omega)) ⟨a1, eX, eX2, a4, a5⟩ (h2.mv (fun a x1 x2 => ⟨rfl, eJ a (by omega) (by omega) (by omega)⟩) rfl rfl (eJ _ (by omega) (by omega) (by omega))) (h3.mv rfl rfl rfl rfl (eJ _ (by omega) (by omega) (by omega)))
theorem tr_4 {t : Int32} : (0 ≤ t ∧ t < 4) = (0 ≤ t ∧ t ≤ 3) := by
  have e4 : (4 : Int32).toInt = 4 := by decide
  have e3 : (3 : Int32).toInt = 3 := by decide
  refine propext ⟨fun h => ⟨h.1, ?_⟩, fun h => ⟨h.1, ?_⟩⟩
  · have := h.2
    rw [Int32.lt_iff_toInt_lt] at this
    rw [Int32.le_iff_toInt_le]
    omega
  · have := h.2
    rw [Int32.le_iff_toInt_le] at this
    rw [Int32.lt_iff_toInt_lt]
    omega
theorem cpJ_e {J : JH} {t : Nat} {so : Int32} {v : Int64} : cutF v so = ctF so v := rfl
set_option maxHeartbeats 4000000 in
set_option maxRecDepth 20000 in
theorem sim_tray {G : GT} {X M : Nat} (a b d : Int32) : SIM G X M sp_X11_tray sp_X12_tray [.int a, .int b, .int d] := by
  intro S I J z h
  have h0 := h
  obtain ⟨s, p, hc, hm, hX, hz, hr⟩ := h
  have hc0 := hc
  have hr0 := hr
  obtain ⟨ct, cr, ⟨b1, b2, b3, b4, b5, b6, b7⟩, cl, cm, hs, hp, csp⟩ := hc
  have k0 := ct.1
  obtain ⟨rA, rT, rP, ⟨rS, rq⟩, rM, rL⟩ := hr
  have rS0 := rS
  obtain ⟨hst, hnm, hyr, hbq, hwf, hwz⟩ := rS
  obtain ⟨s5, s6, s7, s9, s10, s11, s12, s16, s13, s14, s15⟩ := hst.2.1
  have fA : ∀ v, u2 I X 10 v (M + 1) = I (M + 1) := fun v => u2_ne (by omega)
  have fM : ∀ v, u2 I X 10 v M = I M := fun v => u2_ne (by omega)
  have fin : ∀ v, relR X M S (u2 (u2 I X 10 v) M 2 v) J z ∧ z ≤ z + 2 := fun v => ⟨h0.st v, by omega⟩
  by_cases g : trC a b d
  · obtain ⟨g1, g2, g3, g4, g5⟩ := id g
    obtain ⟨k, rfl, hk⟩ := (in_c (c := 4) (by decide)).mp g1
    obtain ⟨m, hm9, rfl⟩ := nI_of g4
    have hm60 : m ≤ 60 := (nI_leI (a := m) (b := 60) hm9 (by decide)).mp g5
    have h1 : (0 ≤ nI k ∧ nI k ≤ 3) = True := eq_true (by rw [← tr_4]; exact g1)
    have h2 : (0 ≤ b ∧ b ≤ 3) = True := eq_true ⟨Int32.not_lt.mp g2, g3⟩
    have h3 : (0 ≤ nI m ∧ nI m ≤ 60) = True := eq_true ⟨Int32.not_lt.mp g4, g5⟩
    have o3 : okN (nI m) 60 := okN.nI hm60 (by omega)
    obtain ⟨q, hq9, rfl⟩ := nI_of g2
    have hq3 : q ≤ 3 := (nI_leI (a := q) (b := 3) hq9 (by decide)).mp g3
    have bt : bI True = 1 := rfl
    have fe : relR X M S (u2 (u2 (u2 (u2 (u2 (u2 I (X + 2 + 2 * k) 2 (nI q)) (X + 2 + 2 * k) 1 (nI m)) X 10 0) (M + 3) k (nI q)) (M + 4) k (nI m)) M 2 0) (up1 (zrU J (X + 2 + 2 * k + 1) m) (M + 5) (zrR (zrU J (X + 2 + 2 * k + 1) m (M + 5)) (60 * k) m)) z := by
      refine h0.tr (fun a x1 x2 x3 x4 x5 => by rw [u2_ne x3, u2_ne x5, u2_ne x4, u2_ne x1, u2_ne (by omega), u2_ne (by omega)]) (fun j x1 => by rw [u2_ne (by omega), u2_ne (by omega), u2_ne (by omega), u2_ck _ _ _ _ _ _ x1, u2_ne (by omega), u2_ne (by omega)]) (fun j x1 => by rw [u2_ck _ _ _ _ _ _ x1, u2_ne (by omega), u2_ne (by omega), u2_ne (by omega), u2_ne (by omega), u2_ne (by omega)]) (fun a x1 x2 => by rw [up1_ne x2]; funext j; unfold zrU; rw [if_neg (by omega)]) (by rw [u2_same, u2_ne (by omega), u2_ne (by omega), u2_ne (by omega), u2_same]) ?_
      intro t ht
      obtain ⟨r1, r2, r3, r4, r5⟩ := rT t ht
      have e5 : zrU J (X + 2 + 2 * k + 1) m (M + 5) = J (M + 5) := by
        funext j
        unfold zrU
        rw [if_neg (by omega)]
      rw [up1_eq, up1_ne (by omega), e5]
      by_cases e : t = k
      · subst e
        refine ⟨?_, ?_, ?_, Or.inr ?_, ?_⟩
        · rw [u2_ne (by omega), u2_ne (by omega), u2_ne (by omega), u2_ne (by omega), u2_same, u2_ne (by omega), u2_same]
        · rw [u2_ne (by omega), u2_ne (by omega), u2_ne (by omega), u2_ne (by omega), u2_ck _ _ _ _ _ _ (by omega), u2_same, u2_ne (by omega), u2_ne (by omega), u2_same]
        · intro j hj
          unfold zrU zrR
          by_cases e : j < m
          · rw [if_pos ⟨rfl, e⟩, if_pos (by omega)]
          · rw [if_neg (by omega), if_neg (by omega)]
            exact r3 j hj
        · rw [u2_ne (by omega), u2_same]
          exact o3
        · rw [u2_ne (by omega), u2_ne (by omega), u2_same]
          exact okN.nI hq3 (by omega)
      · have n1 : ∀ j, u2 (u2 (u2 (u2 (u2 (u2 I (X + 2 + 2 * k) 2 (nI q)) (X + 2 + 2 * k) 1 (nI m)) X 10 0) (M + 3) k (nI q)) (M + 4) k (nI m)) M 2 0 (X + 2 + 2 * t) j = I (X + 2 + 2 * t) j := fun j => by
          rw [u2_ne (by omega), u2_ne (by omega), u2_ne (by omega), u2_ne (by omega), u2_ne (by omega), u2_ne (by omega)]
        have n4 : u2 (u2 (u2 (u2 (u2 (u2 I (X + 2 + 2 * k) 2 (nI q)) (X + 2 + 2 * k) 1 (nI m)) X 10 0) (M + 3) k (nI q)) (M + 4) k (nI m)) M 2 0 (M + 4) t = I (M + 4) t := by
          rw [u2_ne (by omega), u2_ck _ _ _ _ _ _ e, u2_ne (by omega), u2_ne (by omega), u2_ne (by omega), u2_ne (by omega)]
        have n3 : u2 (u2 (u2 (u2 (u2 (u2 I (X + 2 + 2 * k) 2 (nI q)) (X + 2 + 2 * k) 1 (nI m)) X 10 0) (M + 3) k (nI q)) (M + 4) k (nI m)) M 2 0 (M + 3) t = I (M + 3) t := by
          rw [u2_ne (by omega), u2_ne (by omega), u2_ck _ _ _ _ _ _ e, u2_ne (by omega), u2_ne (by omega), u2_ne (by omega)]
        rw [n1, n1, n4, n3]
        refine ⟨r1, r2, fun j hj => ?_, r4, r5⟩
        unfold zrU zrR
        rw [if_neg (by omega), if_neg (by omega)]
        exact r3 j hj
    have tr0 := ct
    simp (disch := omega) only [sp_X11_tray, B_X11_tray_0, B_X11_tray_26, sp_X11_isTray, B_X11_isTray_0, sp_X11_isWithin, sp_X11_deny, B_X11_deny_0, sp_X8_renew, sp_X11_grant, B_X11_grant_0, k0, ct.r, ct.k1, ct.n1, ct.ri, ct.ki, ct.ci, ct.kc, ct.nc, h1, h2, h3, o3, bt, nI_clamp, nI_pin, fq_10, fq_01, fq_rr, ix_aald, ix_aast, ix_abs, ix_alen, ix_aload, ix_aret, ix_astore, ix_bald, ix_bast, ix_call, ix_cpyI, ix_cpyJ, ix_dead, ix_dup2, ix_dup2L, ix_dupI, ix_dupR, ix_dupx1, ix_getI, ix_getJ, ix_getR, ix_gfm, ix_gtab, ix_i2b, ix_i2c, ix_i2l, ix_i2s, ix_iadd, ix_iald, ix_iand, ix_iast, ix_icall, ix_icmp_eq, ix_icmp_ge, ix_icmp_gt, ix_icmp_le, ix_icmp_lt, ix_icmp_ne, ix_idiv, ix_if_eq, ix_if_ge, ix_if_gt, ix_if_le, ix_if_lt, ix_if_ne, ix_iinc, ix_iload, ix_imul, ix_ineg, ix_ior, ix_irem, ix_iret, ix_ishl, ix_ishr, ix_istore, ix_isub, ix_iushr, ix_ixor, ix_l2i, ix_ladd, ix_lald, ix_land, ix_last, ix_lcmp, ix_ldcS, ix_ldiv, ix_lload, ix_lmul, ix_lor, ix_lrem, ix_lret, ix_lshl, ix_lstore, ix_lsub, ix_lsw, ix_max, ix_min, ix_new, ix_newa, ix_nret, ix_oinit, ix_pop2L, ix_popI, ix_pushI, ix_pushL, ix_putI, ix_putJ, ix_putR, ix_putZ, ix_sbald, ix_sgetC, ix_sgetV, ix_slen, ix_strc, ix_tald, ix_tsw, ix_vcall, ix_vret, ix_zret, stL, stL2, kilL, popN, fq_sw, fq_lsw, List.map_cons, List.map_nil, List.getElem?_cons_zero, List.getElem?_cons_succ, Option.toList_some, Option.toList_none, List.cons_append, List.nil_append, List.length_cons, List.length_nil, List.sum_cons, List.sum_nil, cat_i, cat_l, cat_r, true_and, and_true, Nat.zero_add, Nat.add_zero, Nat.le_refl, Nat.zero_le, Nat.reduceAdd, Nat.reduceLeDiff, exists_eq_left', Option.some.injEq, not_true_eq_false, not_false_eq_true, false_implies, true_implies, implies_true, and_self, or_true, true_or, or_false, false_or]
    trace_state
    sorry
  · sorry
