/-! public methods: trays, the tape -/
theorem relR.k3 {X M : Nat} {S : Sh} {I I1 : IH} {J J1 : JH} {z : Nat} (h : relR X M S I J z) (eI : ∀ a, X + 13 ≤ a → a < X + 278 → I1 a = I a) (eJ : ∀ a, X + 13 ≤ a → a < X + 278 → J1 a = J a) (e9 : I1 X 9 = I X 9) (e34 : I1 M 34 = I M 34) (e35 : I1 M 35 = I M 35) (e1 : I1 (M + 1) = I (M + 1)) (e12 : I1 (M + 12) = I (M + 12)) (e14 : I1 (M + 14) = I (M + 14)) (j2 : J1 (M + 2) = J (M + 2)) (hA : pA X M I1 J1) (hT : pT X M I1 J1) (hP : pP X M I1 J1) : relR X M S I1 J1 z := by
  obtain ⟨s, p, hc, hm, hX, hz, a1, a2, a3, h4, h5, h6⟩ := h
  have hsp := hc.2.2.2.2.2.2.2
  exact ⟨s, p, hc, hm, hX, hz, hA, hT, hP, h4.mv (fun a x1 x2 _ => eI a (by omega) (by omega)) (fun a x1 x2 => by rw [eJ a (by omega) (by omega)]) (fun a x1 x2 => eI a (by omega) (by omega)) (fun k _ => by rw [e1]) (fun k _ => by rw [j2]), h5.mv e9 e35 (fun a x1 x2 => ⟨eI a (by omega) (by omega), eJ a (by omega) (by omega)⟩) (fun k _ _ => by rw [e1]) (fun k _ _ => by rw [j2]), h6.mv (eI _ (by omega) (by omega)) e34 e12 e14⟩
/-- trays alone -/
theorem relR.tr {X M : Nat} {S : Sh} {I I1 : IH} {J J1 : JH} {z : Nat} (h : relR X M S I J z) (eI : ∀ a, a ≠ X → ¬ (X + 2 ≤ a ∧ a < X + 10) → a ≠ M → a ≠ M + 3 → a ≠ M + 4 → I1 a = I a) (eX : ∀ k, k ≠ 10 → I1 X k = I X k) (eM : ∀ k, k ≠ 2 → I1 M k = I M k) (eJ : ∀ a, ¬ (X + 2 ≤ a ∧ a < X + 10) → a ≠ M + 5 → J1 a = J a) (e2 : I1 X 10 = I1 M 2) (hT : pT X M I1 J1) : relR X M S I1 J1 z := by
  have hX : X + 278 ≤ M := by
    obtain ⟨s, p, hc, hm, hX, hz, hr⟩ := h
    exact hX
  obtain ⟨s, p, hc, hm, _, hz, ⟨a1, a2, a3, a4, a5⟩, h2, h3, hr⟩ := id h
  refine h.k3 (fun a x1 x2 => eI a (by omega) (by omega) (by omega) (by omega) (by omega)) (fun a x1 x2 => eJ a (by omega) (by omega)) (eX 9 (by omega)) (eM 34 (by omega)) (eM 35 (by omega)) (eI _ (by omega) (by omega) (by omega) (by omega) (by omega)) (eI _ (by omega) (by omega) (by omega) (by omega) (by omega)) (eI _ (by omega) (by omega) (by omega) (by omega) (by omega)) (eJ _ (by omega) (by omega)) ⟨e2, ?_, ?_, ?_, ?_⟩ hT (h3.mv (eX 8 (by omega)) (eM 10 (by omega)) (eI _ (by omega) (by omega) (by omega) (by omega) (by omega)) (eI _ (by omega) (by omega) (by omega) (by omega) (by omega)) (eJ _ (by omega) (by omega)))
  · rw [eJ X (by omega) (by omega), eJ M (by omega) (by omega)]; exact a2
  · rw [eJ X (by omega) (by omega), eJ M (by omega) (by omega)]; exact a3
  · rw [eX 11 (by omega), eM 16 (by omega)]; exact a4
  · rw [eX 12 (by omega), eM 17 (by omega)]; exact a5
/-- a fraction alone -/
theorem relR.fr {X M : Nat} {S : Sh} {I : IH} {J J1 : JH} {z : Nat} (h : relR X M S I J z) (v : Int32) (eX : J1 X 13 = J1 M 3) (eX2 : J1 X 14 = J1 M 4) (eJ : ∀ a, a ≠ X → a ≠ M → a ≠ M + 11 → J1 a = J a) : relR X M S (u2 (u2 I X 10 v) M 2 v) J1 z := by
  have h' := h.st v
  have hX : X + 278 ≤ M := by
    obtain ⟨s, p, hc, hm, hX, hz, hr⟩ := h
    exact hX
  obtain ⟨s, p, hc, hm, _, hz, ⟨a1, a2, a3, a4, a5⟩, h2, h3, hr⟩ := id h'
  exact h'.k3 (fun a x1 x2 => rfl) (fun a x1 x2 => eJ a (by omega) (by omega) (by omega)) rfl rfl rfl rfl rfl rfl (eJ _ (by omega) (by omega) (by omega)) ⟨a1, eX, eX2, a4, a5⟩ (h2.mv (fun a x1 x2 => ⟨rfl, eJ a (by omega) (by omega) (by omega)⟩) rfl rfl (eJ _ (by omega) (by omega) (by omega))) (h3.mv rfl rfl rfl rfl (eJ _ (by omega) (by omega) (by omega)))
theorem tr_4 {t : Int32} : (0 ≤ t ∧ t < 4) = (0 ≤ t ∧ t ≤ 3) := by
  have e4 : (4 : Int32).toInt = 4 := by decide
  have e3 : (3 : Int32).toInt = 3 := by decide
  refine propext ⟨fun h => ⟨h.1, ?_⟩, fun h => ⟨h.1, ?_⟩⟩
  · have := h.2
    rw [Int32.lt_iff_toInt_lt] at this
    rw [Int32.le_iff_toInt_le]
    omega
  · have := h.2
    rw [Int32.le_iff_toInt_le] at this
    rw [Int32.lt_iff_toInt_lt]
    omega
theorem cpJ_e {J : JH} {t : Nat} {so : Int32} {v : Int64} : cutF v so = ctF so v := rfl
set_option maxHeartbeats 4000000 in
set_option maxRecDepth 20000 in
theorem sim_tray {G : GT} {X M : Nat} (a b d : Int32) : SIM G X M sp_X11_tray sp_X12_tray [.int a, .int b, .int d] := by
  intro S I J z h
  have h0 := h
  obtain ⟨s, p, hc, hm, hX, hz, hr⟩ := h
  have hc0 := hc
  have hr0 := hr
  obtain ⟨ct, cr, ⟨b1, b2, b3, b4, b5, b6, b7⟩, cl, cm, hs, hp, csp⟩ := hc
  have k0 := ct.1
  obtain ⟨rA, rT, rP, ⟨rS, rq⟩, rM, rL⟩ := hr
  have rS0 := rS
  obtain ⟨hst, hnm, hyr, hbq, hwf, hwz⟩ := rS
  obtain ⟨s5, s6, s7, s9, s10, s11, s12, s16, s13, s14, s15⟩ := hst.2.1
  have fA : ∀ v, u2 I X 10 v (M + 1) = I (M + 1) := fun v => u2_ne (by omega)
  have fM : ∀ v, u2 I X 10 v M = I M := fun v => u2_ne (by omega)
  have fin : ∀ v, relR X M S (u2 (u2 I X 10 v) M 2 v) J z ∧ z ≤ z + 2 := fun v => ⟨h0.st v, by omega⟩
  by_cases g : trC a b d
  · obtain ⟨g1, g2, g3, g4, g5⟩ := id g
    obtain ⟨k, rfl, hk⟩ := (in_c (c := 4) (by decide)).mp g1
    obtain ⟨m, hm9, rfl⟩ := nI_of g4
    have hm60 : m ≤ 60 := (nI_leI (a := m) (b := 60) hm9 (by decide)).mp g5
    have h1 : (0 ≤ nI k ∧ nI k ≤ 3) = True := eq_true (by rw [← tr_4]; exact g1)
    have h2 : (0 ≤ b ∧ b ≤ 3) = True := eq_true ⟨Int32.not_lt.mp g2, g3⟩
    have h3 : (0 ≤ nI m ∧ nI m ≤ 60) = True := eq_true ⟨Int32.not_lt.mp g4, g5⟩
    have o3 : okN (nI m) 60 := okN.nI hm60 (by omega)
    obtain ⟨q, hq9, rfl⟩ := nI_of g2
    have hq3 : q ≤ 3 := (nI_leI (a := q) (b := 3) hq9 (by decide)).mp g3
    have bt : bI True = 1 := rfl
    have fe : relR X M S (u2 (u2 (u2 (u2 (u2 (u2 I (X + 2 + 2 * k) 2 (nI q)) (X + 2 + 2 * k) 1 (nI m)) X 10 0) (M + 3) k (nI q)) (M + 4) k (nI m)) M 2 0) (up1 (zrU J (X + 2 + 2 * k + 1) m) (M + 5) (zrR (zrU J (X + 2 + 2 * k + 1) m (M + 5)) (60 * k) m)) z := by
      refine h0.tr (fun a x1 x2 x3 x4 x5 => by rw [u2_ne x3, u2_ne x5, u2_ne x4, u2_ne x1, u2_ne (by omega), u2_ne (by omega)]) (fun j x1 => by rw [u2_ne (by omega), u2_ne (by omega), u2_ne (by omega), u2_ck _ _ _ _ _ _ x1, u2_ne (by omega), u2_ne (by omega)]) (fun j x1 => by rw [u2_ck _ _ _ _ _ _ x1, u2_ne (by omega), u2_ne (by omega), u2_ne (by omega), u2_ne (by omega), u2_ne (by omega)]) (fun a x1 x2 => by rw [up1_ne x2]; funext j; unfold zrU; rw [if_neg (by omega)]) (by rw [u2_same, u2_ne (by omega), u2_ne (by omega), u2_ne (by omega), u2_same]) ?_
      intro t ht
      obtain ⟨r1, r2, r3, r4, r5⟩ := rT t ht
      have e5 : zrU J (X + 2 + 2 * k + 1) m (M + 5) = J (M + 5) := by
        funext j
        unfold zrU
        rw [if_neg (by omega)]
      rw [up1_eq, up1_ne (by omega), e5]
      by_cases e : t = k
      · subst e
        refine ⟨?_, ?_, ?_, Or.inr ?_, ?_⟩
        · rw [u2_ne (by omega), u2_ne (by omega), u2_ne (by omega), u2_ne (by omega), u2_same, u2_ne (by omega), u2_same]
        · rw [u2_ne (by omega), u2_ne (by omega), u2_ne (by omega), u2_ne (by omega), u2_ck _ _ _ _ _ _ (by omega), u2_same, u2_ne (by omega), u2_ne (by omega), u2_same]
        · intro j hj
          unfold zrU zrR
          by_cases e : j < m
          · rw [if_pos ⟨rfl, e⟩, if_pos (by omega)]
          · rw [if_neg (by omega), if_neg (by omega)]
            exact r3 j hj
        · rw [u2_ne (by omega), u2_same]
          exact o3
        · rw [u2_ne (by omega), u2_ne (by omega), u2_same]
          exact okN.nI hq3 (by omega)
      · have n1 : ∀ j, u2 (u2 (u2 (u2 (u2 (u2 I (X + 2 + 2 * k) 2 (nI q)) (X + 2 + 2 * k) 1 (nI m)) X 10 0) (M + 3) k (nI q)) (M + 4) k (nI m)) M 2 0 (X + 2 + 2 * t) j = I (X + 2 + 2 * t) j := fun j => by
          rw [u2_ne (by omega), u2_ne (by omega), u2_ne (by omega), u2_ne (by omega), u2_ne (by omega), u2_ne (by omega)]
        have n4 : u2 (u2 (u2 (u2 (u2 (u2 I (X + 2 + 2 * k) 2 (nI q)) (X + 2 + 2 * k) 1 (nI m)) X 10 0) (M + 3) k (nI q)) (M + 4) k (nI m)) M 2 0 (M + 4) t = I (M + 4) t := by
          rw [u2_ne (by omega), u2_ck _ _ _ _ _ _ e, u2_ne (by omega), u2_ne (by omega), u2_ne (by omega), u2_ne (by omega)]
        have n3 : u2 (u2 (u2 (u2 (u2 (u2 I (X + 2 + 2 * k) 2 (nI q)) (X + 2 + 2 * k) 1 (nI m)) X 10 0) (M + 3) k (nI q)) (M + 4) k (nI m)) M 2 0 (M + 3) t = I (M + 3) t := by
          rw [u2_ne (by omega), u2_ne (by omega), u2_ck _ _ _ _ _ _ e, u2_ne (by omega), u2_ne (by omega), u2_ne (by omega)]
        rw [n1, n1, n4, n3]
        refine ⟨r1, r2, fun j hj => ?_, r4, r5⟩
        unfold zrU zrR
        rw [if_neg (by omega), if_neg (by omega)]
        exact r3 j hj
    have tr0 := ct
    simp (disch := omega) only [sp_X11_tray, B_X11_tray_0, B_X11_tray_26, sp_X11_isTray, B_X11_isTray_0, sp_X11_isWithin, sp_X11_deny, B_X11_deny_0, sp_X8_renew, sp_X11_grant, B_X11_grant_0, k0, ct.r, ct.k1, ct.n1, ct.ri, ct.ki, ct.ci, ct.kc, ct.nc, h1, h2, h3, o3, bt, nI_clamp, nI_pin, fq_10, fq_01, fq_rr, ix_aald, ix_aast, ix_abs, ix_alen, ix_aload, ix_aret, ix_astore, ix_bald, ix_bast, ix_call, ix_cpyI, ix_cpyJ, ix_dead, ix_dup2, ix_dup2L, ix_dupI, ix_dupR, ix_dupx1, ix_getI, ix_getJ, ix_getR, ix_gfm, ix_gtab, ix_i2b, ix_i2c, ix_i2l, ix_i2s, ix_iadd, ix_iald, ix_iand, ix_iast, ix_icall, ix_icmp_eq, ix_icmp_ge, ix_icmp_gt, ix_icmp_le, ix_icmp_lt, ix_icmp_ne, ix_idiv, ix_if_eq, ix_if_ge, ix_if_gt, ix_if_le, ix_if_lt, ix_if_ne, ix_iinc, ix_iload, ix_imul, ix_ineg, ix_ior, ix_irem, ix_iret, ix_ishl, ix_ishr, ix_istore, ix_isub, ix_iushr, ix_ixor, ix_l2i, ix_ladd, ix_lald, ix_land, ix_last, ix_lcmp, ix_ldcS, ix_ldiv, ix_lload, ix_lmul, ix_lor, ix_lrem, ix_lret, ix_lshl, ix_lstore, ix_lsub, ix_lsw, ix_max, ix_min, ix_new, ix_newa, ix_nret, ix_oinit, ix_pop2L, ix_popI, ix_pushI, ix_pushL, ix_putI, ix_putJ, ix_putR, ix_putZ, ix_sbald, ix_sgetC, ix_sgetV, ix_slen, ix_strc, ix_tald, ix_tsw, ix_vcall, ix_vret, ix_zret, stL, stL2, kilL, popN, fq_sw, fq_lsw, List.map_cons, List.map_nil, List.getElem?_cons_zero, List.getElem?_cons_succ, Option.toList_some, Option.toList_none, List.cons_append, List.nil_append, List.length_cons, List.length_nil, List.sum_cons, List.sum_nil, cat_i, cat_l, cat_r, true_and, and_true, Nat.zero_add, Nat.add_zero, Nat.le_refl, Nat.zero_le, Nat.reduceAdd, Nat.reduceLeDiff, exists_eq_left', Option.some.injEq, not_true_eq_false, not_false_eq_true, false_implies, true_implies, implies_true, and_self, or_true, true_or, or_false, false_or]
    refine ⟨hm, fun q => absurd g q, fun _ k' m' ek em hk' hm' => ?_⟩
    have := (nI_eqE (a := k) (b := k') (by omega) (by omega)).mp ek
    subst this
    have := (nI_eqE (a := m) (b := m') (by omega) (by omega)).mp em
    subst this
    exact ⟨rfl, fe, by omega⟩
  · have ng : ¬ ((0 ≤ a ∧ a ≤ 3) ∧ (0 ≤ b ∧ b ≤ 3) ∧ (0 ≤ d ∧ d ≤ 60)) := fun q => g ⟨by rw [tr_4]; exact q.1, Int32.not_lt.mpr q.2.1.1, q.2.1.2, Int32.not_lt.mpr q.2.2.1, q.2.2.2⟩
    have nm : sp_X12_tray G [.ref M, .int a, .int b, .int d] S (u2 I X 10 1) J z (fun r2 S2 I2 J2 z2 => r2 = some (Value.int 0) ∧ relR X M S2 I2 J2 z2 ∧ z2 ≤ z + 2) := ⟨hm, fun _ => ⟨rfl, fin 1⟩, fun q => absurd q g⟩
    have bf : bI False = 0 := rfl
    have bt : bI True = 1 := rfl
    by_cases a1 : 0 ≤ a ∧ a ≤ 3
    · by_cases a2 : 0 ≤ b ∧ b ≤ 3
      · have a3 : ¬ (0 ≤ d ∧ d ≤ 60) := fun q => ng ⟨a1, a2, q⟩
        simp (disch := omega) only [sp_X11_tray, B_X11_tray_0, B_X11_tray_26, sp_X11_isTray, B_X11_isTray_0, sp_X11_isWithin, sp_X11_deny, B_X11_deny_0, sp_X8_renew, sp_X11_grant, B_X11_grant_0, k0, a1, a2, a3, bf, bt, and_self, fq_10, fq_01, fq_rr, ix_aald, ix_aast, ix_abs, ix_alen, ix_aload, ix_aret, ix_astore, ix_bald, ix_bast, ix_call, ix_cpyI, ix_cpyJ, ix_dead, ix_dup2, ix_dup2L, ix_dupI, ix_dupR, ix_dupx1, ix_getI, ix_getJ, ix_getR, ix_gfm, ix_gtab, ix_i2b, ix_i2c, ix_i2l, ix_i2s, ix_iadd, ix_iald, ix_iand, ix_iast, ix_icall, ix_icmp_eq, ix_icmp_ge, ix_icmp_gt, ix_icmp_le, ix_icmp_lt, ix_icmp_ne, ix_idiv, ix_if_eq, ix_if_ge, ix_if_gt, ix_if_le, ix_if_lt, ix_if_ne, ix_iinc, ix_iload, ix_imul, ix_ineg, ix_ior, ix_irem, ix_iret, ix_ishl, ix_ishr, ix_istore, ix_isub, ix_iushr, ix_ixor, ix_l2i, ix_ladd, ix_lald, ix_land, ix_last, ix_lcmp, ix_ldcS, ix_ldiv, ix_lload, ix_lmul, ix_lor, ix_lrem, ix_lret, ix_lshl, ix_lstore, ix_lsub, ix_lsw, ix_max, ix_min, ix_new, ix_newa, ix_nret, ix_oinit, ix_pop2L, ix_popI, ix_pushI, ix_pushL, ix_putI, ix_putJ, ix_putR, ix_putZ, ix_sbald, ix_sgetC, ix_sgetV, ix_slen, ix_strc, ix_tald, ix_tsw, ix_vcall, ix_vret, ix_zret, stL, stL2, kilL, popN, fq_sw, fq_lsw, List.map_cons, List.map_nil, List.getElem?_cons_zero, List.getElem?_cons_succ, Option.toList_some, Option.toList_none, List.cons_append, List.nil_append, List.length_cons, List.length_nil, List.sum_cons, List.sum_nil, cat_i, cat_l, cat_r, true_and, and_true, Nat.zero_add, Nat.add_zero, Nat.le_refl, Nat.zero_le, Nat.reduceAdd, Nat.reduceLeDiff, exists_eq_left', Option.some.injEq, not_true_eq_false, not_false_eq_true, false_implies, true_implies, implies_true, and_self, or_true, true_or, or_false, false_or]
        exact nm
      · simp (disch := omega) only [sp_X11_tray, B_X11_tray_0, B_X11_tray_26, sp_X11_isTray, B_X11_isTray_0, sp_X11_isWithin, sp_X11_deny, B_X11_deny_0, sp_X8_renew, sp_X11_grant, B_X11_grant_0, k0, a1, a2, bf, bt, and_self, fq_10, fq_01, fq_rr, ix_aald, ix_aast, ix_abs, ix_alen, ix_aload, ix_aret, ix_astore, ix_bald, ix_bast, ix_call, ix_cpyI, ix_cpyJ, ix_dead, ix_dup2, ix_dup2L, ix_dupI, ix_dupR, ix_dupx1, ix_getI, ix_getJ, ix_getR, ix_gfm, ix_gtab, ix_i2b, ix_i2c, ix_i2l, ix_i2s, ix_iadd, ix_iald, ix_iand, ix_iast, ix_icall, ix_icmp_eq, ix_icmp_ge, ix_icmp_gt, ix_icmp_le, ix_icmp_lt, ix_icmp_ne, ix_idiv, ix_if_eq, ix_if_ge, ix_if_gt, ix_if_le, ix_if_lt, ix_if_ne, ix_iinc, ix_iload, ix_imul, ix_ineg, ix_ior, ix_irem, ix_iret, ix_ishl, ix_ishr, ix_istore, ix_isub, ix_iushr, ix_ixor, ix_l2i, ix_ladd, ix_lald, ix_land, ix_last, ix_lcmp, ix_ldcS, ix_ldiv, ix_lload, ix_lmul, ix_lor, ix_lrem, ix_lret, ix_lshl, ix_lstore, ix_lsub, ix_lsw, ix_max, ix_min, ix_new, ix_newa, ix_nret, ix_oinit, ix_pop2L, ix_popI, ix_pushI, ix_pushL, ix_putI, ix_putJ, ix_putR, ix_putZ, ix_sbald, ix_sgetC, ix_sgetV, ix_slen, ix_strc, ix_tald, ix_tsw, ix_vcall, ix_vret, ix_zret, stL, stL2, kilL, popN, fq_sw, fq_lsw, List.map_cons, List.map_nil, List.getElem?_cons_zero, List.getElem?_cons_succ, Option.toList_some, Option.toList_none, List.cons_append, List.nil_append, List.length_cons, List.length_nil, List.sum_cons, List.sum_nil, cat_i, cat_l, cat_r, true_and, and_true, Nat.zero_add, Nat.add_zero, Nat.le_refl, Nat.zero_le, Nat.reduceAdd, Nat.reduceLeDiff, exists_eq_left', Option.some.injEq, not_true_eq_false, not_false_eq_true, false_implies, true_implies, implies_true, and_self, or_true, true_or, or_false, false_or]
        exact nm
    · simp (disch := omega) only [sp_X11_tray, B_X11_tray_0, B_X11_tray_26, sp_X11_isTray, B_X11_isTray_0, sp_X11_isWithin, sp_X11_deny, B_X11_deny_0, sp_X8_renew, sp_X11_grant, B_X11_grant_0, k0, a1, bf, bt, and_self, fq_10, fq_01, fq_rr, ix_aald, ix_aast, ix_abs, ix_alen, ix_aload, ix_aret, ix_astore, ix_bald, ix_bast, ix_call, ix_cpyI, ix_cpyJ, ix_dead, ix_dup2, ix_dup2L, ix_dupI, ix_dupR, ix_dupx1, ix_getI, ix_getJ, ix_getR, ix_gfm, ix_gtab, ix_i2b, ix_i2c, ix_i2l, ix_i2s, ix_iadd, ix_iald, ix_iand, ix_iast, ix_icall, ix_icmp_eq, ix_icmp_ge, ix_icmp_gt, ix_icmp_le, ix_icmp_lt, ix_icmp_ne, ix_idiv, ix_if_eq, ix_if_ge, ix_if_gt, ix_if_le, ix_if_lt, ix_if_ne, ix_iinc, ix_iload, ix_imul, ix_ineg, ix_ior, ix_irem, ix_iret, ix_ishl, ix_ishr, ix_istore, ix_isub, ix_iushr, ix_ixor, ix_l2i, ix_ladd, ix_lald, ix_land, ix_last, ix_lcmp, ix_ldcS, ix_ldiv, ix_lload, ix_lmul, ix_lor, ix_lrem, ix_lret, ix_lshl, ix_lstore, ix_lsub, ix_lsw, ix_max, ix_min, ix_new, ix_newa, ix_nret, ix_oinit, ix_pop2L, ix_popI, ix_pushI, ix_pushL, ix_putI, ix_putJ, ix_putR, ix_putZ, ix_sbald, ix_sgetC, ix_sgetV, ix_slen, ix_strc, ix_tald, ix_tsw, ix_vcall, ix_vret, ix_zret, stL, stL2, kilL, popN, fq_sw, fq_lsw, List.map_cons, List.map_nil, List.getElem?_cons_zero, List.getElem?_cons_succ, Option.toList_some, Option.toList_none, List.cons_append, List.nil_append, List.length_cons, List.length_nil, List.sum_cons, List.sum_nil, cat_i, cat_l, cat_r, true_and, and_true, Nat.zero_add, Nat.add_zero, Nat.le_refl, Nat.zero_le, Nat.reduceAdd, Nat.reduceLeDiff, exists_eq_left', Option.some.injEq, not_true_eq_false, not_false_eq_true, false_implies, true_implies, implies_true, and_self, or_true, true_or, or_false, false_or]
      exact nm
/-- a place that may be asked for -/
theorem cel_r {X M : Nat} {S : Sh} {I : IH} {J : JH} (h : pT X M I J) (t p : Int32) : (rwp I M t p = 0 ∧ ∃ k j, t = nI k ∧ p = nI j ∧ k < 4 ∧ j < 60 ∧ ∃ c, c ≤ 60 ∧ I (M + 4) k = nI c ∧ j < c) ∨ (¬ rwp I M t p = 0) := by
  by_cases g : rwp I M t p = 0
  · refine Or.inl ⟨g, ?_⟩
    unfold rwp at g
    by_cases g1 : 0 ≤ t ∧ t < 4
    · rw [if_neg (fun q => q g1)] at g
      obtain ⟨k, rfl, hk⟩ := (in_c (c := 4) (by decide)).mp g1
      rw [nI_clamp (by omega)] at g
      by_cases g2 : I (M + 4) k = -1
      · rw [if_pos g2] at g
        exact absurd g (by decide)
      · rw [if_neg g2] at g
        by_cases g3 : p < 0 ∨ I (M + 4) k ≤ p
        · rw [if_pos g3] at g
          exact absurd g (by decide)
        · obtain ⟨c, hc, ec, ec2⟩ := ((h k hk).2.2.2.1.resolve_left g2).ex
          obtain ⟨j, hj, rfl⟩ := nI_of (fun q => g3 (Or.inl q))
          have : ¬ nI c ≤ nI j := fun q => g3 (Or.inr (by rw [ec]; exact q))
          have : j < c := by
            rcases Nat.lt_or_ge j c with q | q
            · exact q
            · exact absurd ((nI_leI (by omega) hj).mpr q) this
          exact ⟨k, j, rfl, rfl, hk, by omega, c, hc, ec, this⟩
    · rw [if_pos g1] at g
      exact absurd g (by decide)
  · exact Or.inr g
/-- the class's answer to it is the same -/
theorem cst_X {G : GT} {X M z : Nat} {S : Sh} {I : IH} {J : JH} {Q : Post} (ct : trS S X) (h : pT X M I J) (t p : Int32) (q : Q (some (.int (rwp I M t p))) S I J z) : sp_X11_cellStatus G [.ref X, .int t, .int p] S I J z Q := by
  unfold rwp at q
  have k0 := ct.k
  have bf : bI False = 0 := rfl
  have bt : bI True = 1 := rfl
  by_cases g1 : 0 ≤ t ∧ t < 4
  · rw [if_neg (fun q => q g1)] at q
    obtain ⟨k, rfl, hk⟩ := (in_c (c := 4) (by decide)).mp g1
    have g1' : (0 ≤ nI k ∧ nI k ≤ 3) = True := eq_true (by rw [← tr_4]; exact g1)
    obtain ⟨r1, r2, r3, r4, r5⟩ := h k hk
    rw [nI_clamp (by omega)] at q
    simp (disch := omega) only [sp_X11_cellStatus, B_X11_cellStatus_0, B_X11_cellStatus_47, sp_X11_isTray, B_X11_isTray_0, sp_X11_isWithin, sp_X8_isMissing, k0, ct.r, ct.k1, ct.n1, ct.ri, ct.ki, ct.ci, ct.kc, ct.nc, g1', bf, bt, r1, nI_clamp, nI_pin, and_self, fq_10, fq_01, fq_rr, ix_aald, ix_aast, ix_abs, ix_alen, ix_aload, ix_aret, ix_astore, ix_bald, ix_bast, ix_call, ix_cpyI, ix_cpyJ, ix_dead, ix_dup2, ix_dup2L, ix_dupI, ix_dupR, ix_dupx1, ix_getI, ix_getJ, ix_getR, ix_gfm, ix_gtab, ix_i2b, ix_i2c, ix_i2l, ix_i2s, ix_iadd, ix_iald, ix_iand, ix_iast, ix_icall, ix_icmp_eq, ix_icmp_ge, ix_icmp_gt, ix_icmp_le, ix_icmp_lt, ix_icmp_ne, ix_idiv, ix_if_eq, ix_if_ge, ix_if_gt, ix_if_le, ix_if_lt, ix_if_ne, ix_iinc, ix_iload, ix_imul, ix_ineg, ix_ior, ix_irem, ix_iret, ix_ishl, ix_ishr, ix_istore, ix_isub, ix_iushr, ix_ixor, ix_l2i, ix_ladd, ix_lald, ix_land, ix_last, ix_lcmp, ix_ldcS, ix_ldiv, ix_lload, ix_lmul, ix_lor, ix_lrem, ix_lret, ix_lshl, ix_lstore, ix_lsub, ix_lsw, ix_max, ix_min, ix_new, ix_newa, ix_nret, ix_oinit, ix_pop2L, ix_popI, ix_pushI, ix_pushL, ix_putI, ix_putJ, ix_putR, ix_putZ, ix_sbald, ix_sgetC, ix_sgetV, ix_slen, ix_strc, ix_tald, ix_tsw, ix_vcall, ix_vret, ix_zret, stL, stL2, kilL, popN, fq_sw, fq_lsw, List.map_cons, List.map_nil, List.getElem?_cons_zero, List.getElem?_cons_succ, Option.toList_some, Option.toList_none, List.cons_append, List.nil_append, List.length_cons, List.length_nil, List.sum_cons, List.sum_nil, cat_i, cat_l, cat_r, true_and, and_true, Nat.zero_add, Nat.add_zero, Nat.le_refl, Nat.zero_le, Nat.reduceAdd, Nat.reduceLeDiff, exists_eq_left', Option.some.injEq, not_true_eq_false, not_false_eq_true, false_implies, true_implies, implies_true, and_self, or_true, true_or, or_false, false_or]
    refine ⟨fun w => ?_, fun w => ?_⟩
    · rw [bI_0] at w
      rw [if_neg w] at q
      obtain ⟨c, hc, ec, ec2⟩ := (r4.resolve_left w).ex
      rw [ec] at q ⊢
      have lpp := le_p (x := p) (c := c) (by omega)
      simp only [lpp]
      refine ⟨fun u => ?_, fun u => ?_⟩
      · rw [bI_0] at u
        rw [if_pos (by
          by_cases v : p < 0
          · exact Or.inl v
          · exact Or.inr (Int32.not_lt.mp (fun r => u ⟨Int32.not_lt.mp v, r⟩)))] at q
        exact q
      · rw [bI_0] at u
        have u := Decidable.not_not.mp u
        rw [if_neg (fun r => r.elim (fun r => absurd u.1 (Int32.not_le.mpr r)) (fun r => absurd u.2 (Int32.not_lt.mpr r)))] at q
        exact q
    · rw [bI_0] at w
      rw [if_pos (Decidable.not_not.mp w)] at q
      exact q
  · rw [if_pos g1] at q
    have g1' : (0 ≤ t ∧ t ≤ 3) = False := eq_false (by rw [← tr_4]; exact g1)
    simp (disch := omega) only [sp_X11_cellStatus, B_X11_cellStatus_0, B_X11_cellStatus_47, sp_X11_isTray, B_X11_isTray_0, sp_X11_isWithin, sp_X8_isMissing, k0, g1', bf, bt, and_self, fq_10, fq_01, fq_rr, ix_aald, ix_aast, ix_abs, ix_alen, ix_aload, ix_aret, ix_astore, ix_bald, ix_bast, ix_call, ix_cpyI, ix_cpyJ, ix_dead, ix_dup2, ix_dup2L, ix_dupI, ix_dupR, ix_dupx1, ix_getI, ix_getJ, ix_getR, ix_gfm, ix_gtab, ix_i2b, ix_i2c, ix_i2l, ix_i2s, ix_iadd, ix_iald, ix_iand, ix_iast, ix_icall, ix_icmp_eq, ix_icmp_ge, ix_icmp_gt, ix_icmp_le, ix_icmp_lt, ix_icmp_ne, ix_idiv, ix_if_eq, ix_if_ge, ix_if_gt, ix_if_le, ix_if_lt, ix_if_ne, ix_iinc, ix_iload, ix_imul, ix_ineg, ix_ior, ix_irem, ix_iret, ix_ishl, ix_ishr, ix_istore, ix_isub, ix_iushr, ix_ixor, ix_l2i, ix_ladd, ix_lald, ix_land, ix_last, ix_lcmp, ix_ldcS, ix_ldiv, ix_lload, ix_lmul, ix_lor, ix_lrem, ix_lret, ix_lshl, ix_lstore, ix_lsub, ix_lsw, ix_max, ix_min, ix_new, ix_newa, ix_nret, ix_oinit, ix_pop2L, ix_popI, ix_pushI, ix_pushL, ix_putI, ix_putJ, ix_putR, ix_putZ, ix_sbald, ix_sgetC, ix_sgetV, ix_slen, ix_strc, ix_tald, ix_tsw, ix_vcall, ix_vret, ix_zret, stL, stL2, kilL, popN, fq_sw, fq_lsw, List.map_cons, List.map_nil, List.getElem?_cons_zero, List.getElem?_cons_succ, Option.toList_some, Option.toList_none, List.cons_append, List.nil_append, List.length_cons, List.length_nil, List.sum_cons, List.sum_nil, cat_i, cat_l, cat_r, true_and, and_true, Nat.zero_add, Nat.add_zero, Nat.le_refl, Nat.zero_le, Nat.reduceAdd, Nat.reduceLeDiff, exists_eq_left', Option.some.injEq, not_true_eq_false, not_false_eq_true, false_implies, true_implies, implies_true, and_self, or_true, true_or, or_false, false_or]
    exact q
theorem put_X {G : GT} {t j z : Nat} {v : Int64} {S : Sh} {I : IH} {J : JH} {Q : Post} (h8 : S.1 t = 8) (hc : S.2.2 t 0 = some (t + 1)) (hk : S.1 (t + 1) = 15) (hn : S.2.1 (t + 1) = 60) (hj : j < 60) (q : Q none S I (u2 J (t + 1) j (ctF (I t 2) v)) z) : sp_X8_put G [.ref t, .int (nI j), .long v] S I J z Q := by
  simp (disch := omega) only [sp_X8_put, B_X8_put_0, B_X8_put_77, h8, hc, hk, hn, nI_clamp, nI_pin, true_and, ix_aald, ix_aast, ix_abs, ix_alen, ix_aload, ix_aret, ix_astore, ix_bald, ix_bast, ix_call, ix_cpyI, ix_cpyJ, ix_dead, ix_dup2, ix_dup2L, ix_dupI, ix_dupR, ix_dupx1, ix_getI, ix_getJ, ix_getR, ix_gfm, ix_gtab, ix_i2b, ix_i2c, ix_i2l, ix_i2s, ix_iadd, ix_iald, ix_iand, ix_iast, ix_icall, ix_icmp_eq, ix_icmp_ge, ix_icmp_gt, ix_icmp_le, ix_icmp_lt, ix_icmp_ne, ix_idiv, ix_if_eq, ix_if_ge, ix_if_gt, ix_if_le, ix_if_lt, ix_if_ne, ix_iinc, ix_iload, ix_imul, ix_ineg, ix_ior, ix_irem, ix_iret, ix_ishl, ix_ishr, ix_istore, ix_isub, ix_iushr, ix_ixor, ix_l2i, ix_ladd, ix_lald, ix_land, ix_last, ix_lcmp, ix_ldcS, ix_ldiv, ix_lload, ix_lmul, ix_lor, ix_lrem, ix_lret, ix_lshl, ix_lstore, ix_lsub, ix_lsw, ix_max, ix_min, ix_new, ix_newa, ix_nret, ix_oinit, ix_pop2L, ix_popI, ix_pushI, ix_pushL, ix_putI, ix_putJ, ix_putR, ix_putZ, ix_sbald, ix_sgetC, ix_sgetV, ix_slen, ix_strc, ix_tald, ix_tsw, ix_vcall, ix_vret, ix_zret, stL, stL2, kilL, popN, fq_sw, fq_lsw, List.map_cons, List.map_nil, List.getElem?_cons_zero, List.getElem?_cons_succ, Option.toList_some, Option.toList_none, List.cons_append, List.nil_append, List.length_cons, List.length_nil, List.sum_cons, List.sum_nil, cat_i, cat_l, cat_r, true_and, and_true, Nat.zero_add, Nat.add_zero, Nat.le_refl, Nat.zero_le, Nat.reduceAdd, Nat.reduceLeDiff, exists_eq_left', Option.some.injEq, not_true_eq_false, not_false_eq_true, false_implies, true_implies, implies_true, and_self, or_true, true_or, or_false, false_or]
  refine ⟨fun h0 => ?_, fun h0 => ⟨fun h1 => ?_, fun h1 => ⟨fun h2 => ?_, fun h2 => ?_⟩⟩⟩
  · rw [ctF_0 h0] at q
    exact q
  · rw [ctF_1 h1] at q
    exact q
  · rw [ctF_2 h2] at q
    exact q
  · rw [ctF_3 h0 h1 h2] at q
    exact q
set_option maxHeartbeats 4000000 in
set_option maxRecDepth 20000 in
theorem sim_write {G : GT} {X M : Nat} (a b : Int32) (v : Int64) : SIM G X M sp_X11_write sp_X12_write [.int a, .int b, .long v] := by
  intro S I J z h
  have h0 := h
  obtain ⟨s, p, hc, hm, hX, hz, hr⟩ := h
  have hc0 := hc
  have hr0 := hr
  obtain ⟨ct, cr, ⟨b1, b2, b3, b4, b5, b6, b7⟩, cl, cm, hs, hp, csp⟩ := hc
  have k0 := ct.1
  obtain ⟨rA, rT, rP, ⟨rS, rq⟩, rM, rL⟩ := hr
  have rS0 := rS
  obtain ⟨hst, hnm, hyr, hbq, hwf, hwz⟩ := rS
  obtain ⟨s5, s6, s7, s9, s10, s11, s12, s16, s13, s14, s15⟩ := hst.2.1
  have fA : ∀ v, u2 I X 10 v (M + 1) = I (M + 1) := fun v => u2_ne (by omega)
  have fM : ∀ v, u2 I X 10 v M = I M := fun v => u2_ne (by omega)
  have fin : ∀ v, relR X M S (u2 (u2 I X 10 v) M 2 v) J z ∧ z ≤ z + 2 := fun v => ⟨h0.st v, by omega⟩
  have rw1 : ∀ w, rwp (u2 I X 10 w) M a b = rwp I M a b := fun w => by
    unfold rwp
    rw [u2_ne (by omega)]
  simp (disch := omega) only [sp_X11_write, B_X11_write_0, k0, ix_aald, ix_aast, ix_abs, ix_alen, ix_aload, ix_aret, ix_astore, ix_bald, ix_bast, ix_call, ix_cpyI, ix_cpyJ, ix_dead, ix_dup2, ix_dup2L, ix_dupI, ix_dupR, ix_dupx1, ix_getI, ix_getJ, ix_getR, ix_gfm, ix_gtab, ix_i2b, ix_i2c, ix_i2l, ix_i2s, ix_iadd, ix_iald, ix_iand, ix_iast, ix_icall, ix_icmp_eq, ix_icmp_ge, ix_icmp_gt, ix_icmp_le, ix_icmp_lt, ix_icmp_ne, ix_idiv, ix_if_eq, ix_if_ge, ix_if_gt, ix_if_le, ix_if_lt, ix_if_ne, ix_iinc, ix_iload, ix_imul, ix_ineg, ix_ior, ix_irem, ix_iret, ix_ishl, ix_ishr, ix_istore, ix_isub, ix_iushr, ix_ixor, ix_l2i, ix_ladd, ix_lald, ix_land, ix_last, ix_lcmp, ix_ldcS, ix_ldiv, ix_lload, ix_lmul, ix_lor, ix_lrem, ix_lret, ix_lshl, ix_lstore, ix_lsub, ix_lsw, ix_max, ix_min, ix_new, ix_newa, ix_nret, ix_oinit, ix_pop2L, ix_popI, ix_pushI, ix_pushL, ix_putI, ix_putJ, ix_putR, ix_putZ, ix_sbald, ix_sgetC, ix_sgetV, ix_slen, ix_strc, ix_tald, ix_tsw, ix_vcall, ix_vret, ix_zret, stL, stL2, kilL, popN, fq_sw, fq_lsw, List.map_cons, List.map_nil, List.getElem?_cons_zero, List.getElem?_cons_succ, Option.toList_some, Option.toList_none, List.cons_append, List.nil_append, List.length_cons, List.length_nil, List.sum_cons, List.sum_nil, cat_i, cat_l, cat_r, true_and, and_true, Nat.zero_add, Nat.add_zero, Nat.le_refl, Nat.zero_le, Nat.reduceAdd, Nat.reduceLeDiff, exists_eq_left', Option.some.injEq, not_true_eq_false, not_false_eq_true, false_implies, true_implies, implies_true, and_self, or_true, true_or, or_false, false_or]
  refine cst_X ct rT a b ?_
  rcases cel_r (S := S) rT a b with ⟨g, k, j, rfl, rfl, hk, hj, c, hc, ec, hjc⟩ | g
  · obtain ⟨r1, r2, r3, r4, r5⟩ := rT k hk
    simp (disch := omega) only [g, k0, ct.r, ct.k1, ct.n1, ct.ri, ct.ki, ct.ci, ct.kc, ct.nc, nI_clamp, nI_pin, ix_aald, ix_aast, ix_abs, ix_alen, ix_aload, ix_aret, ix_astore, ix_bald, ix_bast, ix_call, ix_cpyI, ix_cpyJ, ix_dead, ix_dup2, ix_dup2L, ix_dupI, ix_dupR, ix_dupx1, ix_getI, ix_getJ, ix_getR, ix_gfm, ix_gtab, ix_i2b, ix_i2c, ix_i2l, ix_i2s, ix_iadd, ix_iald, ix_iand, ix_iast, ix_icall, ix_icmp_eq, ix_icmp_ge, ix_icmp_gt, ix_icmp_le, ix_icmp_lt, ix_icmp_ne, ix_idiv, ix_if_eq, ix_if_ge, ix_if_gt, ix_if_le, ix_if_lt, ix_if_ne, ix_iinc, ix_iload, ix_imul, ix_ineg, ix_ior, ix_irem, ix_iret, ix_ishl, ix_ishr, ix_istore, ix_isub, ix_iushr, ix_ixor, ix_l2i, ix_ladd, ix_lald, ix_land, ix_last, ix_lcmp, ix_ldcS, ix_ldiv, ix_lload, ix_lmul, ix_lor, ix_lrem, ix_lret, ix_lshl, ix_lstore, ix_lsub, ix_lsw, ix_max, ix_min, ix_new, ix_newa, ix_nret, ix_oinit, ix_pop2L, ix_popI, ix_pushI, ix_pushL, ix_putI, ix_putJ, ix_putR, ix_putZ, ix_sbald, ix_sgetC, ix_sgetV, ix_slen, ix_strc, ix_tald, ix_tsw, ix_vcall, ix_vret, ix_zret, stL, stL2, kilL, popN, fq_sw, fq_lsw, List.map_cons, List.map_nil, List.getElem?_cons_zero, List.getElem?_cons_succ, Option.toList_some, Option.toList_none, List.cons_append, List.nil_append, List.length_cons, List.length_nil, List.sum_cons, List.sum_nil, cat_i, cat_l, cat_r, true_and, and_true, Nat.zero_add, Nat.add_zero, Nat.le_refl, Nat.zero_le, Nat.reduceAdd, Nat.reduceLeDiff, exists_eq_left', Option.some.injEq, not_true_eq_false, not_false_eq_true, false_implies, true_implies, implies_true, and_self, or_true, true_or, or_false, false_or]
    refine put_X (ct.ki k hk) (ct.ci k hk) (ct.kc k hk) (ct.nc k hk) hj ?_
    have fe : relR X M S (u2 (u2 I X 10 0) M 2 0) (u2 (u2 J (X + 2 + 2 * k + 1) j (ctF (I (X + 2 + 2 * k) 2) v)) (M + 5) (60 * k + j) (cutF v (I (M + 3) k))) z := by
      refine h0.tr (fun a x1 x2 x3 x4 x5 => by rw [u2_ne x3, u2_ne x1]) (fun i x1 => by rw [u2_ne (by omega), u2_ck _ _ _ _ _ _ x1]) (fun i x1 => by rw [u2_ck _ _ _ _ _ _ x1, u2_ne (by omega)]) (fun a x1 x2 => by rw [u2_ne x2, u2_ne (by omega)]) (by rw [u2_same, u2_ne (by omega), u2_same]) ?_
      intro t ht
      obtain ⟨y1, y2, y3, y4, y5⟩ := rT t ht
      have n0 : ∀ a, a ≠ X → a ≠ M → u2 (u2 I X 10 0) M 2 0 a = I a := fun a x1 x2 => by rw [u2_ne x2, u2_ne x1]
      rw [n0 _ (by omega) (by omega), n0 _ (by omega) (by omega), n0 _ (by omega) (by omega)]
      refine ⟨y1, y2, fun i hi => ?_, y4, y5⟩
      by_cases e : t = k ∧ i = j
      · obtain ⟨rfl, rfl⟩ := e
        rw [u2_same, u2_ne (by omega), u2_same, r2]
        rfl
      · rw [u2_cc _ _ _ (X + 2 + 2 * t + 1) i _ (by omega), u2_cc _ _ _ (X + 2 + 2 * t + 1) i _ (by omega), u2_cc _ _ _ (M + 5) (60 * t + i) _ (by omega), u2_cc _ _ _ (M + 5) (60 * t + i) _ (by omega)]
        exact y3 i hi
    have f3 : u2 I X 10 0 (M + 3) = I (M + 3) := u2_ne (by omega)
    simp (disch := omega) only [sp_X11_grant, B_X11_grant_0, k0, ix_aald, ix_aast, ix_abs, ix_alen, ix_aload, ix_aret, ix_astore, ix_bald, ix_bast, ix_call, ix_cpyI, ix_cpyJ, ix_dead, ix_dup2, ix_dup2L, ix_dupI, ix_dupR, ix_dupx1, ix_getI, ix_getJ, ix_getR, ix_gfm, ix_gtab, ix_i2b, ix_i2c, ix_i2l, ix_i2s, ix_iadd, ix_iald, ix_iand, ix_iast, ix_icall, ix_icmp_eq, ix_icmp_ge, ix_icmp_gt, ix_icmp_le, ix_icmp_lt, ix_icmp_ne, ix_idiv, ix_if_eq, ix_if_ge, ix_if_gt, ix_if_le, ix_if_lt, ix_if_ne, ix_iinc, ix_iload, ix_imul, ix_ineg, ix_ior, ix_irem, ix_iret, ix_ishl, ix_ishr, ix_istore, ix_isub, ix_iushr, ix_ixor, ix_l2i, ix_ladd, ix_lald, ix_land, ix_last, ix_lcmp, ix_ldcS, ix_ldiv, ix_lload, ix_lmul, ix_lor, ix_lrem, ix_lret, ix_lshl, ix_lstore, ix_lsub, ix_lsw, ix_max, ix_min, ix_new, ix_newa, ix_nret, ix_oinit, ix_pop2L, ix_popI, ix_pushI, ix_pushL, ix_putI, ix_putJ, ix_putR, ix_putZ, ix_sbald, ix_sgetC, ix_sgetV, ix_slen, ix_strc, ix_tald, ix_tsw, ix_vcall, ix_vret, ix_zret, stL, stL2, kilL, popN, fq_sw, fq_lsw, List.map_cons, List.map_nil, List.getElem?_cons_zero, List.getElem?_cons_succ, Option.toList_some, Option.toList_none, List.cons_append, List.nil_append, List.length_cons, List.length_nil, List.sum_cons, List.sum_nil, cat_i, cat_l, cat_r, true_and, and_true, Nat.zero_add, Nat.add_zero, Nat.le_refl, Nat.zero_le, Nat.reduceAdd, Nat.reduceLeDiff, exists_eq_left', Option.some.injEq, not_true_eq_false, not_false_eq_true, false_implies, true_implies, implies_true, and_self, or_true, true_or, or_false, false_or]
    simp (disch := omega) only [sp_X12_write, B_X12_write_0, B_X12_write_34, sp_X12_wrongPlace, sp_X12_cut, sp_X12_is, B_X12_is_0, B_X12_is_14, rw1, g, fA, fM, hm, hm.k, hm.k1, hm.n1, hm.r1, hm.k2, hm.n2, hm.r2, hm.k3, hm.n3, hm.r3, hm.k4, hm.n4, hm.r4, hm.k5, hm.n5, hm.r5, hm.k6, hm.n6, hm.r6, hm.k7, hm.n7, hm.r7, hm.k8, hm.n8, hm.r8, hm.k9, hm.n9, hm.r9, hm.k10, hm.n10, hm.r10, hm.k11, hm.n11, hm.r11, hm.k12, hm.n12, hm.r12, hm.k13, hm.n13, hm.r13, hm.k14, hm.n14, hm.r14, nI_clamp, nI_pin, li_2, li_3, li_4, li_5, li_6, li_7, li_8, li_9, li_10, li_11, li_12, li_13, li_14, li_15, li_16, li_17, li_18, li_19, li_20, li_21, li_22, li_23, li_24, li_25, li_26, li_27, li_28, li_29, li_30, li_32, li_33, li_34, li_35, li_36, li_37, li_38, li_39, li_40, li_41, li_42, li_43, li_44, li_45, li_46, li_47, li_48, li_49, li_50, li_51, li_52, li_53, li_54, li_55, li_56, li_57, li_58, li_59, li_60, li_61, li_62, li_63, li_64, li_65, li_66, li_67, li_68, li_69, li_70, li_71, li_72, li_73, li_74, li_75, li_76, li_77, li_78, li_79, li_80, li_81, li_82, li_83, li_84, li_85, li_86, li_87, li_88, li_89, li_90, li_91, li_92, li_93, li_94, li_95, li_96, li_97, li_98, li_99, li_100, li_101, li_102, li_103, li_104, li_105, li_106, li_107, li_108, li_109, li_110, li_111, li_112, li_113, li_114, li_115, li_116, li_117, li_118, li_119, li_120, li_121, li_122, li_123, li_124, li_125, li_126, li_127, li_128, li_129, li_130, li_131, li_226, li_240, li_255, li_300, li_586, li_594, li_900, li_999, li_1000, li_1800, li_2376, li_2388, li_2406, li_2602, li_2970, li_3067, li_3564, li_9999, li_10000, li_11287, li_65536, li_100000, li_1000000, nI_mul, tn0, tn1, vin0, vin1, Int32.add_zero, Int32.or_zero, Int32.mul_one, Int32.mul_zero, Int32.zero_add, Nat.reduceEqDiff, Nat.reduceMul, Nat.reduceSub, nI_1, nI_add, nI_clamp, nI_pin, nI_neg, nI_nonneg, nI_leE, nI_ltE, nI_eqE, Nat.not_le, Nat.not_lt, fq_10, fq_01, fq_rr, ix_aald, ix_aast, ix_abs, ix_alen, ix_aload, ix_aret, ix_astore, ix_bald, ix_bast, ix_call, ix_cpyI, ix_cpyJ, ix_dead, ix_dup2, ix_dup2L, ix_dupI, ix_dupR, ix_dupx1, ix_getI, ix_getJ, ix_getR, ix_gfm, ix_gtab, ix_i2b, ix_i2c, ix_i2l, ix_i2s, ix_iadd, ix_iald, ix_iand, ix_iast, ix_icall, ix_icmp_eq, ix_icmp_ge, ix_icmp_gt, ix_icmp_le, ix_icmp_lt, ix_icmp_ne, ix_idiv, ix_if_eq, ix_if_ge, ix_if_gt, ix_if_le, ix_if_lt, ix_if_ne, ix_iinc, ix_iload, ix_imul, ix_ineg, ix_ior, ix_irem, ix_iret, ix_ishl, ix_ishr, ix_istore, ix_isub, ix_iushr, ix_ixor, ix_l2i, ix_ladd, ix_lald, ix_land, ix_last, ix_lcmp, ix_ldcS, ix_ldiv, ix_lload, ix_lmul, ix_lor, ix_lrem, ix_lret, ix_lshl, ix_lstore, ix_lsub, ix_lsw, ix_max, ix_min, ix_new, ix_newa, ix_nret, ix_oinit, ix_pop2L, ix_popI, ix_pushI, ix_pushL, ix_putI, ix_putJ, ix_putR, ix_putZ, ix_sbald, ix_sgetC, ix_sgetV, ix_slen, ix_strc, ix_tald, ix_tsw, ix_vcall, ix_vret, ix_zret, stL, stL2, kilL, popN, fq_sw, fq_lsw, List.map_cons, List.map_nil, List.getElem?_cons_zero, List.getElem?_cons_succ, Option.toList_some, Option.toList_none, List.cons_append, List.nil_append, List.length_cons, List.length_nil, List.sum_cons, List.sum_nil, cat_i, cat_l, cat_r, true_and, and_true, Nat.zero_add, Nat.add_zero, Nat.le_refl, Nat.zero_le, Nat.reduceAdd, Nat.reduceLeDiff, exists_eq_left', Option.some.injEq, not_true_eq_false, not_false_eq_true, false_implies, true_implies, implies_true, and_self, or_true, true_or, or_false, false_or]
    rw [f3]
    exact ⟨fe, by omega⟩
  · simp (disch := omega) only [g, sp_X11_deny, B_X11_deny_0, sp_X12_write, B_X12_write_0, B_X12_write_34, sp_X12_wrongPlace, sp_X12_cut, sp_X12_is, B_X12_is_0, B_X12_is_14, k0, rw1, fA, fM, hm, hm.k, hm.k1, hm.n1, hm.r1, hm.k2, hm.n2, hm.r2, hm.k3, hm.n3, hm.r3, hm.k4, hm.n4, hm.r4, hm.k5, hm.n5, hm.r5, hm.k6, hm.n6, hm.r6, hm.k7, hm.n7, hm.r7, hm.k8, hm.n8, hm.r8, hm.k9, hm.n9, hm.r9, hm.k10, hm.n10, hm.r10, hm.k11, hm.n11, hm.r11, hm.k12, hm.n12, hm.r12, hm.k13, hm.n13, hm.r13, hm.k14, hm.n14, hm.r14, fq_10, fq_01, fq_rr, ix_aald, ix_aast, ix_abs, ix_alen, ix_aload, ix_aret, ix_astore, ix_bald, ix_bast, ix_call, ix_cpyI, ix_cpyJ, ix_dead, ix_dup2, ix_dup2L, ix_dupI, ix_dupR, ix_dupx1, ix_getI, ix_getJ, ix_getR, ix_gfm, ix_gtab, ix_i2b, ix_i2c, ix_i2l, ix_i2s, ix_iadd, ix_iald, ix_iand, ix_iast, ix_icall, ix_icmp_eq, ix_icmp_ge, ix_icmp_gt, ix_icmp_le, ix_icmp_lt, ix_icmp_ne, ix_idiv, ix_if_eq, ix_if_ge, ix_if_gt, ix_if_le, ix_if_lt, ix_if_ne, ix_iinc, ix_iload, ix_imul, ix_ineg, ix_ior, ix_irem, ix_iret, ix_ishl, ix_ishr, ix_istore, ix_isub, ix_iushr, ix_ixor, ix_l2i, ix_ladd, ix_lald, ix_land, ix_last, ix_lcmp, ix_ldcS, ix_ldiv, ix_lload, ix_lmul, ix_lor, ix_lrem, ix_lret, ix_lshl, ix_lstore, ix_lsub, ix_lsw, ix_max, ix_min, ix_new, ix_newa, ix_nret, ix_oinit, ix_pop2L, ix_popI, ix_pushI, ix_pushL, ix_putI, ix_putJ, ix_putR, ix_putZ, ix_sbald, ix_sgetC, ix_sgetV, ix_slen, ix_strc, ix_tald, ix_tsw, ix_vcall, ix_vret, ix_zret, stL, stL2, kilL, popN, fq_sw, fq_lsw, List.map_cons, List.map_nil, List.getElem?_cons_zero, List.getElem?_cons_succ, Option.toList_some, Option.toList_none, List.cons_append, List.nil_append, List.length_cons, List.length_nil, List.sum_cons, List.sum_nil, cat_i, cat_l, cat_r, true_and, and_true, Nat.zero_add, Nat.add_zero, Nat.le_refl, Nat.zero_le, Nat.reduceAdd, Nat.reduceLeDiff, exists_eq_left', Option.some.injEq, not_true_eq_false, not_false_eq_true, false_implies, true_implies, implies_true, and_self, or_true, true_or, or_false, false_or]
    exact fin _
theorem rwp_p {I : IH} {M : Nat} {a b : Int32} (h : rwp I M a b ≤ 0) : rwp I M a b = 0 := by
  unfold rwp at h ⊢
  split at h
  · exact absurd h (by decide)
  · next g =>
    rw [if_neg g]
    split at h
    · exact absurd h (by decide)
    · next g2 =>
      rw [if_neg g2]
      split at h
      · exact absurd h (by decide)
      · next g3 => rw [if_neg g3]
set_option maxHeartbeats 4000000 in
set_option maxRecDepth 20000 in
theorem sim_read {G : GT} {X M : Nat} (a b : Int32) : SIM G X M sp_X11_read sp_X12_read [.int a, .int b] := by
  intro S I J z h
  have h0 := h
  obtain ⟨s, p, hc, hm, hX, hz, hr⟩ := h
  have hc0 := hc
  have hr0 := hr
  obtain ⟨ct, cr, ⟨b1, b2, b3, b4, b5, b6, b7⟩, cl, cm, hs, hp, csp⟩ := hc
  have k0 := ct.1
  obtain ⟨rA, rT, rP, ⟨rS, rq⟩, rM, rL⟩ := hr
  have rS0 := rS
  obtain ⟨hst, hnm, hyr, hbq, hwf, hwz⟩ := rS
  obtain ⟨s5, s6, s7, s9, s10, s11, s12, s16, s13, s14, s15⟩ := hst.2.1
  have fA : ∀ v, u2 I X 10 v (M + 1) = I (M + 1) := fun v => u2_ne (by omega)
  have fM : ∀ v, u2 I X 10 v M = I M := fun v => u2_ne (by omega)
  have fin : ∀ v, relR X M S (u2 (u2 I X 10 v) M 2 v) J z ∧ z ≤ z + 2 := fun v => ⟨h0.st v, by omega⟩
  have rw1 : ∀ w, rwp (u2 I X 10 w) M a b = rwp I M a b := fun w => by
    unfold rwp
    rw [u2_ne (by omega)]
  simp (disch := omega) only [sp_X11_read, B_X11_read_0, k0, ix_aald, ix_aast, ix_abs, ix_alen, ix_aload, ix_aret, ix_astore, ix_bald, ix_bast, ix_call, ix_cpyI, ix_cpyJ, ix_dead, ix_dup2, ix_dup2L, ix_dupI, ix_dupR, ix_dupx1, ix_getI, ix_getJ, ix_getR, ix_gfm, ix_gtab, ix_i2b, ix_i2c, ix_i2l, ix_i2s, ix_iadd, ix_iald, ix_iand, ix_iast, ix_icall, ix_icmp_eq, ix_icmp_ge, ix_icmp_gt, ix_icmp_le, ix_icmp_lt, ix_icmp_ne, ix_idiv, ix_if_eq, ix_if_ge, ix_if_gt, ix_if_le, ix_if_lt, ix_if_ne, ix_iinc, ix_iload, ix_imul, ix_ineg, ix_ior, ix_irem, ix_iret, ix_ishl, ix_ishr, ix_istore, ix_isub, ix_iushr, ix_ixor, ix_l2i, ix_ladd, ix_lald, ix_land, ix_last, ix_lcmp, ix_ldcS, ix_ldiv, ix_lload, ix_lmul, ix_lor, ix_lrem, ix_lret, ix_lshl, ix_lstore, ix_lsub, ix_lsw, ix_max, ix_min, ix_new, ix_newa, ix_nret, ix_oinit, ix_pop2L, ix_popI, ix_pushI, ix_pushL, ix_putI, ix_putJ, ix_putR, ix_putZ, ix_sbald, ix_sgetC, ix_sgetV, ix_slen, ix_strc, ix_tald, ix_tsw, ix_vcall, ix_vret, ix_zret, stL, stL2, kilL, popN, fq_sw, fq_lsw, List.map_cons, List.map_nil, List.getElem?_cons_zero, List.getElem?_cons_succ, Option.toList_some, Option.toList_none, List.cons_append, List.nil_append, List.length_cons, List.length_nil, List.sum_cons, List.sum_nil, cat_i, cat_l, cat_r, true_and, and_true, Nat.zero_add, Nat.add_zero, Nat.le_refl, Nat.zero_le, Nat.reduceAdd, Nat.reduceLeDiff, exists_eq_left', Option.some.injEq, not_true_eq_false, not_false_eq_true, false_implies, true_implies, implies_true, and_self, or_true, true_or, or_false, false_or]
  refine cst_X ct rT a b ?_
  rcases cel_r (S := S) rT a b with ⟨g, k, j, rfl, rfl, hk, hj, c, hc, ec, hjc⟩ | g
  · obtain ⟨r1, r2, r3, r4, r5⟩ := rT k hk
    have e := r3 j hj
    simp (disch := omega) only [g, k0, ct.r, ct.k1, ct.n1, ct.ri, ct.ki, ct.ci, ct.kc, ct.nc, e, nI_clamp, nI_pin, ix_aald, ix_aast, ix_abs, ix_alen, ix_aload, ix_aret, ix_astore, ix_bald, ix_bast, ix_call, ix_cpyI, ix_cpyJ, ix_dead, ix_dup2, ix_dup2L, ix_dupI, ix_dupR, ix_dupx1, ix_getI, ix_getJ, ix_getR, ix_gfm, ix_gtab, ix_i2b, ix_i2c, ix_i2l, ix_i2s, ix_iadd, ix_iald, ix_iand, ix_iast, ix_icall, ix_icmp_eq, ix_icmp_ge, ix_icmp_gt, ix_icmp_le, ix_icmp_lt, ix_icmp_ne, ix_idiv, ix_if_eq, ix_if_ge, ix_if_gt, ix_if_le, ix_if_lt, ix_if_ne, ix_iinc, ix_iload, ix_imul, ix_ineg, ix_ior, ix_irem, ix_iret, ix_ishl, ix_ishr, ix_istore, ix_isub, ix_iushr, ix_ixor, ix_l2i, ix_ladd, ix_lald, ix_land, ix_last, ix_lcmp, ix_ldcS, ix_ldiv, ix_lload, ix_lmul, ix_lor, ix_lrem, ix_lret, ix_lshl, ix_lstore, ix_lsub, ix_lsw, ix_max, ix_min, ix_new, ix_newa, ix_nret, ix_oinit, ix_pop2L, ix_popI, ix_pushI, ix_pushL, ix_putI, ix_putJ, ix_putR, ix_putZ, ix_sbald, ix_sgetC, ix_sgetV, ix_slen, ix_strc, ix_tald, ix_tsw, ix_vcall, ix_vret, ix_zret, stL, stL2, kilL, popN, fq_sw, fq_lsw, List.map_cons, List.map_nil, List.getElem?_cons_zero, List.getElem?_cons_succ, Option.toList_some, Option.toList_none, List.cons_append, List.nil_append, List.length_cons, List.length_nil, List.sum_cons, List.sum_nil, cat_i, cat_l, cat_r, true_and, and_true, Nat.zero_add, Nat.add_zero, Nat.le_refl, Nat.zero_le, Nat.reduceAdd, Nat.reduceLeDiff, exists_eq_left', Option.some.injEq, not_true_eq_false, not_false_eq_true, false_implies, true_implies, implies_true, and_self, or_true, true_or, or_false, false_or]
    simp (disch := omega) only [sp_X12_read, B_X12_read_0, B_X12_read_34, sp_X12_wrongPlace, rw1, g, fA, fM, hm, hm.k, hm.k1, hm.n1, hm.r1, hm.k2, hm.n2, hm.r2, hm.k3, hm.n3, hm.r3, hm.k4, hm.n4, hm.r4, hm.k5, hm.n5, hm.r5, hm.k6, hm.n6, hm.r6, hm.k7, hm.n7, hm.r7, hm.k8, hm.n8, hm.r8, hm.k9, hm.n9, hm.r9, hm.k10, hm.n10, hm.r10, hm.k11, hm.n11, hm.r11, hm.k12, hm.n12, hm.r12, hm.k13, hm.n13, hm.r13, hm.k14, hm.n14, hm.r14, nI_clamp, nI_pin, u2_same, li_2, li_3, li_4, li_5, li_6, li_7, li_8, li_9, li_10, li_11, li_12, li_13, li_14, li_15, li_16, li_17, li_18, li_19, li_20, li_21, li_22, li_23, li_24, li_25, li_26, li_27, li_28, li_29, li_30, li_32, li_33, li_34, li_35, li_36, li_37, li_38, li_39, li_40, li_41, li_42, li_43, li_44, li_45, li_46, li_47, li_48, li_49, li_50, li_51, li_52, li_53, li_54, li_55, li_56, li_57, li_58, li_59, li_60, li_61, li_62, li_63, li_64, li_65, li_66, li_67, li_68, li_69, li_70, li_71, li_72, li_73, li_74, li_75, li_76, li_77, li_78, li_79, li_80, li_81, li_82, li_83, li_84, li_85, li_86, li_87, li_88, li_89, li_90, li_91, li_92, li_93, li_94, li_95, li_96, li_97, li_98, li_99, li_100, li_101, li_102, li_103, li_104, li_105, li_106, li_107, li_108, li_109, li_110, li_111, li_112, li_113, li_114, li_115, li_116, li_117, li_118, li_119, li_120, li_121, li_122, li_123, li_124, li_125, li_126, li_127, li_128, li_129, li_130, li_131, li_226, li_240, li_255, li_300, li_586, li_594, li_900, li_999, li_1000, li_1800, li_2376, li_2388, li_2406, li_2602, li_2970, li_3067, li_3564, li_9999, li_10000, li_11287, li_65536, li_100000, li_1000000, nI_mul, tn0, tn1, vin0, vin1, Int32.add_zero, Int32.or_zero, Int32.mul_one, Int32.mul_zero, Int32.zero_add, Nat.reduceEqDiff, Nat.reduceMul, Nat.reduceSub, nI_1, nI_add, nI_clamp, nI_pin, nI_neg, nI_nonneg, nI_leE, nI_ltE, nI_eqE, Nat.not_le, Nat.not_lt, fq_10, fq_01, fq_rr, ix_aald, ix_aast, ix_abs, ix_alen, ix_aload, ix_aret, ix_astore, ix_bald, ix_bast, ix_call, ix_cpyI, ix_cpyJ, ix_dead, ix_dup2, ix_dup2L, ix_dupI, ix_dupR, ix_dupx1, ix_getI, ix_getJ, ix_getR, ix_gfm, ix_gtab, ix_i2b, ix_i2c, ix_i2l, ix_i2s, ix_iadd, ix_iald, ix_iand, ix_iast, ix_icall, ix_icmp_eq, ix_icmp_ge, ix_icmp_gt, ix_icmp_le, ix_icmp_lt, ix_icmp_ne, ix_idiv, ix_if_eq, ix_if_ge, ix_if_gt, ix_if_le, ix_if_lt, ix_if_ne, ix_iinc, ix_iload, ix_imul, ix_ineg, ix_ior, ix_irem, ix_iret, ix_ishl, ix_ishr, ix_istore, ix_isub, ix_iushr, ix_ixor, ix_l2i, ix_ladd, ix_lald, ix_land, ix_last, ix_lcmp, ix_ldcS, ix_ldiv, ix_lload, ix_lmul, ix_lor, ix_lrem, ix_lret, ix_lshl, ix_lstore, ix_lsub, ix_lsw, ix_max, ix_min, ix_new, ix_newa, ix_nret, ix_oinit, ix_pop2L, ix_popI, ix_pushI, ix_pushL, ix_putI, ix_putJ, ix_putR, ix_putZ, ix_sbald, ix_sgetC, ix_sgetV, ix_slen, ix_strc, ix_tald, ix_tsw, ix_vcall, ix_vret, ix_zret, stL, stL2, kilL, popN, fq_sw, fq_lsw, List.map_cons, List.map_nil, List.getElem?_cons_zero, List.getElem?_cons_succ, Option.toList_some, Option.toList_none, List.cons_append, List.nil_append, List.length_cons, List.length_nil, List.sum_cons, List.sum_nil, cat_i, cat_l, cat_r, true_and, and_true, Nat.zero_add, Nat.add_zero, Nat.le_refl, Nat.zero_le, Nat.reduceAdd, Nat.reduceLeDiff, exists_eq_left', Option.some.injEq, not_true_eq_false, not_false_eq_true, false_implies, true_implies, implies_true, and_self, or_true, true_or, or_false, false_or]
    exact ⟨fun _ => fin 0, fun q => absurd (by decide) q⟩
  · simp (disch := omega) only [g, sp_X11_refuse, B_X11_refuse_0, sp_X12_read, B_X12_read_0, B_X12_read_34, sp_X12_wrongPlace, k0, rw1, fA, fM, hm, hm.k, hm.k1, hm.n1, hm.r1, hm.k2, hm.n2, hm.r2, hm.k3, hm.n3, hm.r3, hm.k4, hm.n4, hm.r4, hm.k5, hm.n5, hm.r5, hm.k6, hm.n6, hm.r6, hm.k7, hm.n7, hm.r7, hm.k8, hm.n8, hm.r8, hm.k9, hm.n9, hm.r9, hm.k10, hm.n10, hm.r10, hm.k11, hm.n11, hm.r11, hm.k12, hm.n12, hm.r12, hm.k13, hm.n13, hm.r13, hm.k14, hm.n14, hm.r14, u2_same, fq_10, fq_01, fq_rr, ix_aald, ix_aast, ix_abs, ix_alen, ix_aload, ix_aret, ix_astore, ix_bald, ix_bast, ix_call, ix_cpyI, ix_cpyJ, ix_dead, ix_dup2, ix_dup2L, ix_dupI, ix_dupR, ix_dupx1, ix_getI, ix_getJ, ix_getR, ix_gfm, ix_gtab, ix_i2b, ix_i2c, ix_i2l, ix_i2s, ix_iadd, ix_iald, ix_iand, ix_iast, ix_icall, ix_icmp_eq, ix_icmp_ge, ix_icmp_gt, ix_icmp_le, ix_icmp_lt, ix_icmp_ne, ix_idiv, ix_if_eq, ix_if_ge, ix_if_gt, ix_if_le, ix_if_lt, ix_if_ne, ix_iinc, ix_iload, ix_imul, ix_ineg, ix_ior, ix_irem, ix_iret, ix_ishl, ix_ishr, ix_istore, ix_isub, ix_iushr, ix_ixor, ix_l2i, ix_ladd, ix_lald, ix_land, ix_last, ix_lcmp, ix_ldcS, ix_ldiv, ix_lload, ix_lmul, ix_lor, ix_lrem, ix_lret, ix_lshl, ix_lstore, ix_lsub, ix_lsw, ix_max, ix_min, ix_new, ix_newa, ix_nret, ix_oinit, ix_pop2L, ix_popI, ix_pushI, ix_pushL, ix_putI, ix_putJ, ix_putR, ix_putZ, ix_sbald, ix_sgetC, ix_sgetV, ix_slen, ix_strc, ix_tald, ix_tsw, ix_vcall, ix_vret, ix_zret, stL, stL2, kilL, popN, fq_sw, fq_lsw, List.map_cons, List.map_nil, List.getElem?_cons_zero, List.getElem?_cons_succ, Option.toList_some, Option.toList_none, List.cons_append, List.nil_append, List.length_cons, List.length_nil, List.sum_cons, List.sum_nil, cat_i, cat_l, cat_r, true_and, and_true, Nat.zero_add, Nat.add_zero, Nat.le_refl, Nat.zero_le, Nat.reduceAdd, Nat.reduceLeDiff, exists_eq_left', Option.some.injEq, not_true_eq_false, not_false_eq_true, false_implies, true_implies, implies_true, and_self, or_true, true_or, or_false, false_or]
    exact ⟨fun q => absurd (rwp_p q) g, fun _ => ⟨rfl, fin _⟩⟩
set_option maxHeartbeats 4000000 in
set_option maxRecDepth 20000 in
theorem sim_copyWalls {G : GT} {X M : Nat} (a : Int32) : SIM G X M sp_X11_copyWalls sp_X12_copyWalls [.int a] := by
  intro S I J z h
  have h0 := h
  obtain ⟨s, p, hc, hm, hX, hz, hr⟩ := h
  have hc0 := hc
  have hr0 := hr
  obtain ⟨ct, cr, ⟨b1, b2, b3, b4, b5, b6, b7⟩, cl, cm, hs, hp, csp⟩ := hc
  have k0 := ct.1
  obtain ⟨rA, rT, rP, ⟨rS, rq⟩, rM, rL⟩ := hr
  have rS0 := rS
  obtain ⟨hst, hnm, hyr, hbq, hwf, hwz⟩ := rS
  obtain ⟨s5, s6, s7, s9, s10, s11, s12, s16, s13, s14, s15⟩ := hst.2.1
  have fA : ∀ v, u2 I X 10 v (M + 1) = I (M + 1) := fun v => u2_ne (by omega)
  have fM : ∀ v, u2 I X 10 v M = I M := fun v => u2_ne (by omega)
  have fin : ∀ v, relR X M S (u2 (u2 I X 10 v) M 2 v) J z ∧ z ≤ z + 2 := fun v => ⟨h0.st v, by omega⟩
  have o0 := hst.1.1
  obtain ⟨c, hc6, ec, ec2⟩ := hst.c0
  have e5 : I s 5 = I (M + 1) 0 := s5
  have o5 : okN (I s 5) 6 := by rw [e5]; exact o0
  have mx : ∀ v, sp_X12_copyWalls G [.ref M, .int a] S (u2 I X 10 v) J z = sp_X12_copyWalls G [.ref M, .int a] S (u2 I X 10 v) J z := fun _ => rfl
  have n0 : ∀ v a, a ≠ X → u2 I X 10 v a = I a := fun v a x => u2_ne x
  refine ⟨s, ⟨k0, b6, hs⟩, ct, o5, fun g => ⟨hm, by rw [fA]; exact o0, fun _ => ⟨rfl, fin 1⟩, fun k m ek hk _ => absurd ?_ g⟩, fun k ek hk => ?_⟩
  · rw [← tr_4, ek]
    exact (in_c (c := 4) (by decide)).mpr ⟨k, rfl, hk⟩
  · subst ek
    obtain ⟨r1, r2, r3, r4, r5⟩ := rT k hk
    have g4 : 0 ≤ nI k ∧ nI k < 4 := (in_c (c := 4) (by decide)).mpr ⟨k, rfl, hk⟩
    have uk : ∀ k' : Nat, nI k = nI k' → k' < 4 → k = k' := fun k' e h => (nI_eqE (a := k) (b := k') (by omega) (by omega)).mp e
    rw [e5, ec2, r1, r2]
    refine ⟨fun q => ?_, fun q => ⟨fun q2 => ?_, fun q2 => ?_⟩⟩
    · refine ⟨hm, by rw [fA]; exact o0, fun w => absurd g4 w, fun k' m ek hk' _ => ?_⟩
      have := uk k' ek hk'
      subst this
      rw [n0 _ _ (by omega)]
      exact ⟨fun _ => ⟨rfl, fin 2⟩, fun w => absurd q w⟩
    · obtain ⟨d, hd, ed, ed2⟩ := (r4.resolve_left q).ex
      rw [ed] at q2
      have lt : nI d < nI (c - 1) := Int32.not_le.mp (fun w => q2 ⟨nI_pos' (by omega), by rw [show nI d - 0 = nI d by grind]; exact w⟩)
      refine ⟨hm, by rw [fA]; exact o0, fun w => absurd g4 w, fun k' m ek hk' em => ?_⟩
      have := uk k' ek hk'
      subst this
      rw [fA, ec2] at em
      subst em
      rw [n0 _ _ (by omega)]
      refine ⟨fun w => absurd w q, fun _ => ⟨fun _ => ⟨rfl, fin 3⟩, fun w => absurd (by rw [ed]; exact lt) w⟩⟩
    · obtain ⟨d, hd, ed, ed2⟩ := (r4.resolve_left q).ex
      rw [ed] at q2
      have le : ¬ nI d < nI (c - 1) := Int32.not_lt.mpr (by have := q2.2; rw [show nI d - 0 = nI d by grind] at this; exact this)
      have cd : c - 1 ≤ d := (nI_leI (a := c - 1) (b := d) (by omega) (by omega)).mp (Int32.not_lt.mp le)
      refine ⟨hm, by rw [fA]; exact o0, fun w => absurd g4 w, fun k' m ek hk' em => ?_⟩
      have := uk k' ek hk'
      subst this
      rw [fA, ec2] at em
      subst em
      rw [n0 _ _ (by omega), n0 _ _ (by omega), n0 _ _ (by omega)]
      refine ⟨fun w => absurd w q, fun _ => ⟨fun w => absurd (by rw [ed] at w; exact w) le, fun _ => ⟨rfl, ?_, by omega⟩⟩⟩
      have eo : cwJ I J s (X + 2 + 2 * k + 1) (I (M + 3) k) (c - 1) (M + 5) = J (M + 5) := by
        funext j
        unfold cwJ
        rw [if_neg (by omega)]
      rw [eo]
      refine h0.tr (fun a x1 x2 x3 x4 x5 => by rw [u2_ne x3, u2_ne x1]) (fun i x1 => by rw [u2_ne (by omega), u2_ck _ _ _ _ _ _ x1]) (fun i x1 => by rw [u2_ck _ _ _ _ _ _ x1, u2_ne (by omega)]) (fun a x1 x2 => by rw [up1_ne x2]; funext j; unfold cwJ; rw [if_neg (by omega)]) (by rw [u2_same, u2_ne (by omega), u2_same]) ?_
      intro t ht
      obtain ⟨y1, y2, y3, y4, y5⟩ := rT t ht
      have n1 : ∀ a, a ≠ X → a ≠ M → u2 (u2 I X 10 0) M 2 0 a = I a := fun a x1 x2 => by rw [u2_ne x2, u2_ne x1]
      rw [n1 _ (by omega) (by omega), n1 _ (by omega) (by omega), n1 _ (by omega) (by omega), up1_eq, up1_ne (by omega)]
      refine ⟨y1, y2, fun i hi => ?_, y4, y5⟩
      unfold cwJ cwR
      by_cases e : t = k ∧ i < c - 1
      · obtain ⟨rfl, e⟩ := e
        rw [if_pos ⟨rfl, e⟩, if_pos (by omega), show 60 * t + i - 60 * t = i by omega]
        have : foldU (fun i a => a + I (s + 18 + i) 2) 0 (i + 1) 0 = rpO (I (M + 1)) i := by
          unfold rpO
          exact foldU_cg _ _ _ (fun j x _ hj => by rw [(hst.H (i := j) (by omega)).1])
        rw [this]
        rfl
      · rw [if_neg (by omega), if_neg (by omega)]
        exact y3 i hi
theorem spn {c q n : Nat} (hc : c ≤ 60) (hq : q < 2 ^ 31) (hn : n < 2 ^ 31) : (nI q ≤ nI c ∧ nI n ≤ nI c - nI q) ↔ ¬ nI c - nI q < nI n := by
  refine ⟨fun h => Int32.not_lt.mpr h.2, fun h => ⟨?_, Int32.not_lt.mp h⟩⟩
  have := le_sub hc hq hn h
  exact (nI_leI hq (by omega)).mpr (by omega)
set_option maxHeartbeats 4000000 in
set_option maxRecDepth 20000 in
theorem sim_pour {G : GT} {X M : Nat} (f p0 t a n : Int32) : SIM G X M sp_X11_pour sp_X12_pour [.int f, .int p0, .int t, .int a, .int n] := by
  intro S I J z h
  have h0 := h
  obtain ⟨s, p, hc, hm, hX, hz, hr⟩ := h
  have hc0 := hc
  have hr0 := hr
  obtain ⟨ct, cr, ⟨b1, b2, b3, b4, b5, b6, b7⟩, cl, cm, hs, hp, csp⟩ := hc
  have k0 := ct.1
  obtain ⟨rA, rT, rP, ⟨rS, rq⟩, rM, rL⟩ := hr
  have rS0 := rS
  obtain ⟨hst, hnm, hyr, hbq, hwf, hwz⟩ := rS
  obtain ⟨s5, s6, s7, s9, s10, s11, s12, s16, s13, s14, s15⟩ := hst.2.1
  have fA : ∀ v, u2 I X 10 v (M + 1) = I (M + 1) := fun v => u2_ne (by omega)
  have fM : ∀ v, u2 I X 10 v M = I M := fun v => u2_ne (by omega)
  have fin : ∀ v, relR X M S (u2 (u2 I X 10 v) M 2 v) J z ∧ z ≤ z + 2 := fun v => ⟨h0.st v, by omega⟩
  have bf : bI False = 0 := rfl
  have bt : bI True = 1 := rfl
  have ok4 : ∀ k, k < 4 → I (M + 4) k = -1 ∨ okN (I (M + 4) k) 60 := fun k hk => (rT k hk).2.2.2.1
  have n0 : ∀ v a, a ≠ X → u2 I X 10 v a = I a := fun v a x => u2_ne x
  have ps : ∀ v, prS1 (u2 I X 10 v) M f p0 t a n = prS1 I M f p0 t a n := fun v => by
    unfold prS1
    rw [n0 v _ (by omega), n0 v _ (by omega)]
  have bad : ¬ prS1 I M f p0 t a n = 0 → sp_X12_pour G [.ref M, .int f, .int p0, .int t, .int a, .int n] S (u2 I X 10 (prS1 I M f p0 t a n)) J z (fun r2 S2 I2 J2 z2 => r2 = some (Value.int 0) ∧ relR X M S2 I2 J2 z2 ∧ z2 ≤ z + 2) := fun g => by
    refine ⟨hm, fun k hk => by rw [n0 _ _ (by omega)]; exact ok4 k hk, fun _ => ?_, fun q => absurd ((ps _).symm.trans q) g⟩
    rw [ps]
    exact ⟨rfl, fin _⟩
  by_cases g : prC I M f p0 t a n
  · obtain ⟨⟨g1, g2⟩, g3, g4, g5⟩ := id g
    obtain ⟨f', rfl, hf⟩ := (in_c (c := 4) (by decide)).mp g1
    obtain ⟨t', rfl, ht⟩ := (in_c (c := 4) (by decide)).mp g2
    obtain ⟨q', hq, rfl⟩ := nI_of g3
    obtain ⟨a', ha, rfl⟩ := nI_of g4
    obtain ⟨n', hn, rfl⟩ := nI_of g5
    have h1 : (0 ≤ nI f' ∧ nI f' ≤ 3) = True := eq_true (by rw [← tr_4]; exact g1)
    have h2 : (0 ≤ nI t' ∧ nI t' ≤ 3) = True := eq_true (by rw [← tr_4]; exact g2)
    obtain ⟨r1, r2, r3, r4, r5⟩ := rT f' hf
    obtain ⟨y1, y2, y3, y4, y5⟩ := rT t' ht
    have es : prS1 I M (nI f') (nI q') (nI t') (nI a') (nI n') = if I (M + 4) f' = -1 ∨ I (M + 4) t' = -1 then 2 else if ¬ I (M + 3) f' = I (M + 3) t' then 8 else if I (M + 4) f' - nI q' < nI n' ∨ I (M + 4) t' - nI a' < nI n' then 3 else 0 := by
      unfold prS1
      rw [if_neg (fun q => q g), nI_clamp (by omega), nI_clamp (by omega)]
    simp (disch := omega) only [sp_X11_pour, B_X11_pour_0, B_X11_pour_28, B_X11_pour_66, B_X11_pour_115, sp_X11_isTray, B_X11_isTray_0, sp_X11_isWithin, sp_X11_deny, B_X11_deny_0, sp_X8_isMissing, sp_X8_spans, sp_X11_grant, B_X11_grant_0, k0, ct.r, ct.k1, ct.n1, ct.ri, ct.ki, ct.ci, ct.kc, ct.nc, h1, h2, g3, g4, g5, bf, bt, r1, r2, y1, y2, nI_clamp, nI_pin, and_self, fq_10, fq_01, fq_rr, ix_aald, ix_aast, ix_abs, ix_alen, ix_aload, ix_aret, ix_astore, ix_bald, ix_bast, ix_call, ix_cpyI, ix_cpyJ, ix_dead, ix_dup2, ix_dup2L, ix_dupI, ix_dupR, ix_dupx1, ix_getI, ix_getJ, ix_getR, ix_gfm, ix_gtab, ix_i2b, ix_i2c, ix_i2l, ix_i2s, ix_iadd, ix_iald, ix_iand, ix_iast, ix_icall, ix_icmp_eq, ix_icmp_ge, ix_icmp_gt, ix_icmp_le, ix_icmp_lt, ix_icmp_ne, ix_idiv, ix_if_eq, ix_if_ge, ix_if_gt, ix_if_le, ix_if_lt, ix_if_ne, ix_iinc, ix_iload, ix_imul, ix_ineg, ix_ior, ix_irem, ix_iret, ix_ishl, ix_ishr, ix_istore, ix_isub, ix_iushr, ix_ixor, ix_l2i, ix_ladd, ix_lald, ix_land, ix_last, ix_lcmp, ix_ldcS, ix_ldiv, ix_lload, ix_lmul, ix_lor, ix_lrem, ix_lret, ix_lshl, ix_lstore, ix_lsub, ix_lsw, ix_max, ix_min, ix_new, ix_newa, ix_nret, ix_oinit, ix_pop2L, ix_popI, ix_pushI, ix_pushL, ix_putI, ix_putJ, ix_putR, ix_putZ, ix_sbald, ix_sgetC, ix_sgetV, ix_slen, ix_strc, ix_tald, ix_tsw, ix_vcall, ix_vret, ix_zret, stL, stL2, kilL, popN, fq_sw, fq_lsw, List.map_cons, List.map_nil, List.getElem?_cons_zero, List.getElem?_cons_succ, Option.toList_some, Option.toList_none, List.cons_append, List.nil_append, List.length_cons, List.length_nil, List.sum_cons, List.sum_nil, cat_i, cat_l, cat_r, true_and, and_true, Nat.zero_add, Nat.add_zero, Nat.le_refl, Nat.zero_le, Nat.reduceAdd, Nat.reduceLeDiff, exists_eq_left', Option.some.injEq, not_true_eq_false, not_false_eq_true, false_implies, true_implies, implies_true, and_self, or_true, true_or, or_false, false_or]
    have ag : sp_X12_pour G [.ref M, .int (nI f'), .int (nI q'), .int (nI t'), .int (nI a'), .int (nI n')] S (u2 I X 10 (prS1 I M (nI f') (nI q') (nI t') (nI a') (nI n'))) J z (fun r2 S2 I2 J2 z2 => r2 = some (Value.int 0) ∧ relR X M S2 I2 J2 z2 ∧ z2 ≤ z + 2) ∨ True := Or.inr trivial
    refine ⟨fun _ => ⟨fun w => ?_, fun w => ⟨fun w2 => ⟨fun w3 => ⟨fun w4 => ?_, fun w4 => ⟨fun w5 => ?_, fun w5 => ?_⟩⟩, fun w3 => ?_⟩, fun w2 => ?_⟩⟩, fun w => absurd g5 (fun q => w (Int32.not_lt.mp q))⟩
    · rw [bI_0] at w
      have e : prS1 I M (nI f') (nI q') (nI t') (nI a') (nI n') = 2 := by
        rw [es, if_pos (Or.inl (Decidable.not_not.mp w))]
      rw [e] at bad
      exact bad (by decide)
    · rw [bI_0] at w w2
      obtain ⟨c, hc, ec, -⟩ := (r4.resolve_left w).ex
      rw [ec, bI_0, spn hc hq hn, Decidable.not_not] at w4
      have e : prS1 I M (nI f') (nI q') (nI t') (nI a') (nI n') = 3 := by
        rw [es, if_neg (fun q => q.elim w w2), if_neg (fun q => q w3), if_pos (Or.inl (by rw [ec]; exact w4))]
      rw [e] at bad
      exact bad (by decide)
    · rw [bI_0] at w w2
      obtain ⟨c, hc, ec, -⟩ := (r4.resolve_left w).ex
      obtain ⟨d, hd, ed, -⟩ := (y4.resolve_left w2).ex
      rw [ec, bI_0, spn hc hq hn, Decidable.not_not] at w4
      rw [ed, bI_0, spn hd ha hn, Decidable.not_not] at w5
      have e : prS1 I M (nI f') (nI q') (nI t') (nI a') (nI n') = 0 := by
        rw [es, if_neg (fun q => q.elim w w2), if_neg (fun q => q w3), if_neg (fun q => q.elim (fun q => w4 (by rw [← ec]; exact q)) (fun q => w5 (by rw [← ed]; exact q)))]
      have l1 := le_sub hc hq hn w4
      have l2 := le_sub hd ha hn w5
      have uk : ∀ x y : Nat, nI x = nI y → x < 2 ^ 31 → y < 2 ^ 31 → x = y := fun x y e h1 h2 => (nI_eqE h1 h2).mp e
      refine ⟨by omega, by omega, hm, fun k hk => by rw [n0 _ _ (by omega)]; exact ok4 k hk, fun q => absurd ((ps _).trans e) q, fun _ f1 p1 t1 a1 n1 e1 e2 e3 e4 e5 z1 z2 z3 z4 => ⟨rfl, ?_, by omega⟩⟩
      have := uk _ _ e1 (by omega) (by omega)
      subst this
      have := uk _ _ e2 (by omega) (by omega)
      subst this
      have := uk _ _ e3 (by omega) (by omega)
      subst this
      have := uk _ _ e4 (by omega) (by omega)
      subst this
      have := uk _ _ e5 (by omega) (by omega)
      subst this
      rw [up1_ne (show M + 5 ≠ X + 2 + 2 * t' + 1 by omega)]
      refine h0.tr (fun a x1 x2 x3 x4 x5 => by rw [u2_ne x3, u2_ne x1]) (fun i x1 => by rw [u2_ne (by omega), u2_ck _ _ _ _ _ _ x1]) (fun i x1 => by rw [u2_ck _ _ _ _ _ _ x1, u2_ne (by omega)]) (fun a x1 x2 => by rw [up1_ne x2, up1_ne (by omega)]) (by rw [u2_same, u2_ne (by omega), u2_same]) ?_
      intro x hx
      obtain ⟨v1, v2, v3, v4, v5⟩ := rT x hx
      have nn : ∀ a, a ≠ X → a ≠ M → u2 (u2 I X 10 0) M 2 0 a = I a := fun a x1 x2 => by rw [u2_ne x2, u2_ne x1]
      rw [nn _ (by omega) (by omega), nn _ (by omega) (by omega), nn _ (by omega) (by omega), up1_eq, up1_ne (show X + 2 + 2 * x + 1 ≠ M + 5 by omega)]
      refine ⟨v1, v2, fun i hi => ?_, v4, v5⟩
      by_cases q : x = t'
      · subst q
        rw [up1_eq]
        unfold va_cpy cpR
        by_cases q2 : a' ≤ i ∧ i < a' + n'
        · rw [if_pos q2, if_pos (by omega), r3 _ (by omega), show 60 * x + i - (60 * x + a') = i - a' by omega, Nat.add_assoc]
        · rw [if_neg q2, if_neg (by omega)]
          exact v3 i hi
      · rw [up1_ne (by omega)]
        unfold cpR
        rw [if_neg (by omega)]
        exact v3 i hi
    · rw [bI_0] at w w2
      obtain ⟨d, hd, ed, -⟩ := (y4.resolve_left w2).ex
      rw [ed, bI_0, spn hd ha hn, Decidable.not_not] at w5
      have e : prS1 I M (nI f') (nI q') (nI t') (nI a') (nI n') = 3 := by
        rw [es, if_neg (fun q => q.elim w w2), if_neg (fun q => q w3), if_pos (Or.inr (by rw [ed]; exact w5))]
      rw [e] at bad
      exact bad (by decide)
    · rw [bI_0] at w w2
      have e : prS1 I M (nI f') (nI q') (nI t') (nI a') (nI n') = 8 := by
        rw [es, if_neg (fun q => q.elim w w2), if_pos w3]
      rw [e] at bad
      exact bad (by decide)
    · rw [bI_0] at w2
      have e : prS1 I M (nI f') (nI q') (nI t') (nI a') (nI n') = 2 := by
        rw [es, if_pos (Or.inr (Decidable.not_not.mp w2))]
      rw [e] at bad
      exact bad (by decide)
  · have e1 : prS1 I M f p0 t a n = 1 := by
      unfold prS1
      rw [if_pos g]
    rw [e1] at bad
    have nm := bad (by decide)
    by_cases a1 : 0 ≤ f ∧ f ≤ 3
    · by_cases a2 : 0 ≤ t ∧ t ≤ 3
      · by_cases a3 : p0 < 0
        · simp (disch := omega) only [sp_X11_pour, B_X11_pour_0, B_X11_pour_28, B_X11_pour_66, B_X11_pour_115, sp_X11_isTray, B_X11_isTray_0, sp_X11_isWithin, sp_X11_deny, B_X11_deny_0, sp_X8_isMissing, sp_X8_spans, sp_X11_grant, B_X11_grant_0, k0, a1, a2, a3, bf, bt, and_self, fq_10, fq_01, fq_rr, ix_aald, ix_aast, ix_abs, ix_alen, ix_aload, ix_aret, ix_astore, ix_bald, ix_bast, ix_call, ix_cpyI, ix_cpyJ, ix_dead, ix_dup2, ix_dup2L, ix_dupI, ix_dupR, ix_dupx1, ix_getI, ix_getJ, ix_getR, ix_gfm, ix_gtab, ix_i2b, ix_i2c, ix_i2l, ix_i2s, ix_iadd, ix_iald, ix_iand, ix_iast, ix_icall, ix_icmp_eq, ix_icmp_ge, ix_icmp_gt, ix_icmp_le, ix_icmp_lt, ix_icmp_ne, ix_idiv, ix_if_eq, ix_if_ge, ix_if_gt, ix_if_le, ix_if_lt, ix_if_ne, ix_iinc, ix_iload, ix_imul, ix_ineg, ix_ior, ix_irem, ix_iret, ix_ishl, ix_ishr, ix_istore, ix_isub, ix_iushr, ix_ixor, ix_l2i, ix_ladd, ix_lald, ix_land, ix_last, ix_lcmp, ix_ldcS, ix_ldiv, ix_lload, ix_lmul, ix_lor, ix_lrem, ix_lret, ix_lshl, ix_lstore, ix_lsub, ix_lsw, ix_max, ix_min, ix_new, ix_newa, ix_nret, ix_oinit, ix_pop2L, ix_popI, ix_pushI, ix_pushL, ix_putI, ix_putJ, ix_putR, ix_putZ, ix_sbald, ix_sgetC, ix_sgetV, ix_slen, ix_strc, ix_tald, ix_tsw, ix_vcall, ix_vret, ix_zret, stL, stL2, kilL, popN, fq_sw, fq_lsw, List.map_cons, List.map_nil, List.getElem?_cons_zero, List.getElem?_cons_succ, Option.toList_some, Option.toList_none, List.cons_append, List.nil_append, List.length_cons, List.length_nil, List.sum_cons, List.sum_nil, cat_i, cat_l, cat_r, true_and, and_true, Nat.zero_add, Nat.add_zero, Nat.le_refl, Nat.zero_le, Nat.reduceAdd, Nat.reduceLeDiff, exists_eq_left', Option.some.injEq, not_true_eq_false, not_false_eq_true, false_implies, true_implies, implies_true, and_self, or_true, true_or, or_false, false_or]
          exact nm
        · by_cases a4 : a < 0
          · simp (disch := omega) only [sp_X11_pour, B_X11_pour_0, B_X11_pour_28, B_X11_pour_66, B_X11_pour_115, sp_X11_isTray, B_X11_isTray_0, sp_X11_isWithin, sp_X11_deny, B_X11_deny_0, sp_X8_isMissing, sp_X8_spans, sp_X11_grant, B_X11_grant_0, k0, a1, a2, a3, a4, bf, bt, and_self, fq_10, fq_01, fq_rr, ix_aald, ix_aast, ix_abs, ix_alen, ix_aload, ix_aret, ix_astore, ix_bald, ix_bast, ix_call, ix_cpyI, ix_cpyJ, ix_dead, ix_dup2, ix_dup2L, ix_dupI, ix_dupR, ix_dupx1, ix_getI, ix_getJ, ix_getR, ix_gfm, ix_gtab, ix_i2b, ix_i2c, ix_i2l, ix_i2s, ix_iadd, ix_iald, ix_iand, ix_iast, ix_icall, ix_icmp_eq, ix_icmp_ge, ix_icmp_gt, ix_icmp_le, ix_icmp_lt, ix_icmp_ne, ix_idiv, ix_if_eq, ix_if_ge, ix_if_gt, ix_if_le, ix_if_lt, ix_if_ne, ix_iinc, ix_iload, ix_imul, ix_ineg, ix_ior, ix_irem, ix_iret, ix_ishl, ix_ishr, ix_istore, ix_isub, ix_iushr, ix_ixor, ix_l2i, ix_ladd, ix_lald, ix_land, ix_last, ix_lcmp, ix_ldcS, ix_ldiv, ix_lload, ix_lmul, ix_lor, ix_lrem, ix_lret, ix_lshl, ix_lstore, ix_lsub, ix_lsw, ix_max, ix_min, ix_new, ix_newa, ix_nret, ix_oinit, ix_pop2L, ix_popI, ix_pushI, ix_pushL, ix_putI, ix_putJ, ix_putR, ix_putZ, ix_sbald, ix_sgetC, ix_sgetV, ix_slen, ix_strc, ix_tald, ix_tsw, ix_vcall, ix_vret, ix_zret, stL, stL2, kilL, popN, fq_sw, fq_lsw, List.map_cons, List.map_nil, List.getElem?_cons_zero, List.getElem?_cons_succ, Option.toList_some, Option.toList_none, List.cons_append, List.nil_append, List.length_cons, List.length_nil, List.sum_cons, List.sum_nil, cat_i, cat_l, cat_r, true_and, and_true, Nat.zero_add, Nat.add_zero, Nat.le_refl, Nat.zero_le, Nat.reduceAdd, Nat.reduceLeDiff, exists_eq_left', Option.some.injEq, not_true_eq_false, not_false_eq_true, false_implies, true_implies, implies_true, and_self, or_true, true_or, or_false, false_or]
            exact nm
          · have a5 : ¬ 0 ≤ n := fun q => g ⟨⟨by rw [tr_4]; exact a1, by rw [tr_4]; exact a2⟩, a3, a4, Int32.not_lt.mpr q⟩
            have a6 : n < 0 := Int32.not_le.mp a5
            simp (disch := omega) only [sp_X11_pour, B_X11_pour_0, B_X11_pour_28, B_X11_pour_66, B_X11_pour_115, sp_X11_isTray, B_X11_isTray_0, sp_X11_isWithin, sp_X11_deny, B_X11_deny_0, sp_X8_isMissing, sp_X8_spans, sp_X11_grant, B_X11_grant_0, k0, a1, a2, a3, a4, a5, a6, bf, bt, and_self, fq_10, fq_01, fq_rr, ix_aald, ix_aast, ix_abs, ix_alen, ix_aload, ix_aret, ix_astore, ix_bald, ix_bast, ix_call, ix_cpyI, ix_cpyJ, ix_dead, ix_dup2, ix_dup2L, ix_dupI, ix_dupR, ix_dupx1, ix_getI, ix_getJ, ix_getR, ix_gfm, ix_gtab, ix_i2b, ix_i2c, ix_i2l, ix_i2s, ix_iadd, ix_iald, ix_iand, ix_iast, ix_icall, ix_icmp_eq, ix_icmp_ge, ix_icmp_gt, ix_icmp_le, ix_icmp_lt, ix_icmp_ne, ix_idiv, ix_if_eq, ix_if_ge, ix_if_gt, ix_if_le, ix_if_lt, ix_if_ne, ix_iinc, ix_iload, ix_imul, ix_ineg, ix_ior, ix_irem, ix_iret, ix_ishl, ix_ishr, ix_istore, ix_isub, ix_iushr, ix_ixor, ix_l2i, ix_ladd, ix_lald, ix_land, ix_last, ix_lcmp, ix_ldcS, ix_ldiv, ix_lload, ix_lmul, ix_lor, ix_lrem, ix_lret, ix_lshl, ix_lstore, ix_lsub, ix_lsw, ix_max, ix_min, ix_new, ix_newa, ix_nret, ix_oinit, ix_pop2L, ix_popI, ix_pushI, ix_pushL, ix_putI, ix_putJ, ix_putR, ix_putZ, ix_sbald, ix_sgetC, ix_sgetV, ix_slen, ix_strc, ix_tald, ix_tsw, ix_vcall, ix_vret, ix_zret, stL, stL2, kilL, popN, fq_sw, fq_lsw, List.map_cons, List.map_nil, List.getElem?_cons_zero, List.getElem?_cons_succ, Option.toList_some, Option.toList_none, List.cons_append, List.nil_append, List.length_cons, List.length_nil, List.sum_cons, List.sum_nil, cat_i, cat_l, cat_r, true_and, and_true, Nat.zero_add, Nat.add_zero, Nat.le_refl, Nat.zero_le, Nat.reduceAdd, Nat.reduceLeDiff, exists_eq_left', Option.some.injEq, not_true_eq_false, not_false_eq_true, false_implies, true_implies, implies_true, and_self, or_true, true_or, or_false, false_or]
            exact nm
      · simp (disch := omega) only [sp_X11_pour, B_X11_pour_0, B_X11_pour_28, B_X11_pour_66, B_X11_pour_115, sp_X11_isTray, B_X11_isTray_0, sp_X11_isWithin, sp_X11_deny, B_X11_deny_0, sp_X8_isMissing, sp_X8_spans, sp_X11_grant, B_X11_grant_0, k0, a1, a2, bf, bt, and_self, fq_10, fq_01, fq_rr, ix_aald, ix_aast, ix_abs, ix_alen, ix_aload, ix_aret, ix_astore, ix_bald, ix_bast, ix_call, ix_cpyI, ix_cpyJ, ix_dead, ix_dup2, ix_dup2L, ix_dupI, ix_dupR, ix_dupx1, ix_getI, ix_getJ, ix_getR, ix_gfm, ix_gtab, ix_i2b, ix_i2c, ix_i2l, ix_i2s, ix_iadd, ix_iald, ix_iand, ix_iast, ix_icall, ix_icmp_eq, ix_icmp_ge, ix_icmp_gt, ix_icmp_le, ix_icmp_lt, ix_icmp_ne, ix_idiv, ix_if_eq, ix_if_ge, ix_if_gt, ix_if_le, ix_if_lt, ix_if_ne, ix_iinc, ix_iload, ix_imul, ix_ineg, ix_ior, ix_irem, ix_iret, ix_ishl, ix_ishr, ix_istore, ix_isub, ix_iushr, ix_ixor, ix_l2i, ix_ladd, ix_lald, ix_land, ix_last, ix_lcmp, ix_ldcS, ix_ldiv, ix_lload, ix_lmul, ix_lor, ix_lrem, ix_lret, ix_lshl, ix_lstore, ix_lsub, ix_lsw, ix_max, ix_min, ix_new, ix_newa, ix_nret, ix_oinit, ix_pop2L, ix_popI, ix_pushI, ix_pushL, ix_putI, ix_putJ, ix_putR, ix_putZ, ix_sbald, ix_sgetC, ix_sgetV, ix_slen, ix_strc, ix_tald, ix_tsw, ix_vcall, ix_vret, ix_zret, stL, stL2, kilL, popN, fq_sw, fq_lsw, List.map_cons, List.map_nil, List.getElem?_cons_zero, List.getElem?_cons_succ, Option.toList_some, Option.toList_none, List.cons_append, List.nil_append, List.length_cons, List.length_nil, List.sum_cons, List.sum_nil, cat_i, cat_l, cat_r, true_and, and_true, Nat.zero_add, Nat.add_zero, Nat.le_refl, Nat.zero_le, Nat.reduceAdd, Nat.reduceLeDiff, exists_eq_left', Option.some.injEq, not_true_eq_false, not_false_eq_true, false_implies, true_implies, implies_true, and_self, or_true, true_or, or_false, false_or]
        exact nm
    · simp (disch := omega) only [sp_X11_pour, B_X11_pour_0, B_X11_pour_28, B_X11_pour_66, B_X11_pour_115, sp_X11_isTray, B_X11_isTray_0, sp_X11_isWithin, sp_X11_deny, B_X11_deny_0, sp_X8_isMissing, sp_X8_spans, sp_X11_grant, B_X11_grant_0, k0, a1, bf, bt, and_self, fq_10, fq_01, fq_rr, ix_aald, ix_aast, ix_abs, ix_alen, ix_aload, ix_aret, ix_astore, ix_bald, ix_bast, ix_call, ix_cpyI, ix_cpyJ, ix_dead, ix_dup2, ix_dup2L, ix_dupI, ix_dupR, ix_dupx1, ix_getI, ix_getJ, ix_getR, ix_gfm, ix_gtab, ix_i2b, ix_i2c, ix_i2l, ix_i2s, ix_iadd, ix_iald, ix_iand, ix_iast, ix_icall, ix_icmp_eq, ix_icmp_ge, ix_icmp_gt, ix_icmp_le, ix_icmp_lt, ix_icmp_ne, ix_idiv, ix_if_eq, ix_if_ge, ix_if_gt, ix_if_le, ix_if_lt, ix_if_ne, ix_iinc, ix_iload, ix_imul, ix_ineg, ix_ior, ix_irem, ix_iret, ix_ishl, ix_ishr, ix_istore, ix_isub, ix_iushr, ix_ixor, ix_l2i, ix_ladd, ix_lald, ix_land, ix_last, ix_lcmp, ix_ldcS, ix_ldiv, ix_lload, ix_lmul, ix_lor, ix_lrem, ix_lret, ix_lshl, ix_lstore, ix_lsub, ix_lsw, ix_max, ix_min, ix_new, ix_newa, ix_nret, ix_oinit, ix_pop2L, ix_popI, ix_pushI, ix_pushL, ix_putI, ix_putJ, ix_putR, ix_putZ, ix_sbald, ix_sgetC, ix_sgetV, ix_slen, ix_strc, ix_tald, ix_tsw, ix_vcall, ix_vret, ix_zret, stL, stL2, kilL, popN, fq_sw, fq_lsw, List.map_cons, List.map_nil, List.getElem?_cons_zero, List.getElem?_cons_succ, Option.toList_some, Option.toList_none, List.cons_append, List.nil_append, List.length_cons, List.length_nil, List.sum_cons, List.sum_nil, cat_i, cat_l, cat_r, true_and, and_true, Nat.zero_add, Nat.add_zero, Nat.le_refl, Nat.zero_le, Nat.reduceAdd, Nat.reduceLeDiff, exists_eq_left', Option.some.injEq, not_true_eq_false, not_false_eq_true, false_implies, true_implies, implies_true, and_self, or_true, true_or, or_false, false_or]
      exact nm
