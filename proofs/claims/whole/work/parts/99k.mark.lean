/-! public methods: marks -/
theorem oneR.c7 {I : IH} {J : JH} {s b : Nat} {A : Nat → Int32} {N : Nat → Int64} (h : oneR I J s A N b) : (∃ m, m ≤ 60 ∧ I (s + 4) 7 = nI m) ∧ (I (s + 4) 9 = 0 ∨ I (s + 4) 9 = 1) ∧ (I s 16 = 0 ∨ I s 16 = 1) := by
  obtain ⟨h1, h2, h3, h4, h5, h6⟩ := h
  have e16 : I s 16 = A 7 := h1.2.1.2.2.2.2.2.2.2.1
  refine ⟨?_, ?_, ?_⟩
  · rcases h3 with ⟨a1, a2, a7⟩ | ⟨m, a1, a2, a3, a4, a5⟩
    · exact ⟨0, by omega, a7⟩
    · exact ⟨m, a2, a4⟩
  · rcases h3 with ⟨a1, a2, a7⟩ | ⟨m, a1, a2, a3, a4, a5⟩
    · exact Or.inl a2
    · exact Or.inr a3
  · rw [e16]
    exact h5.2.2.2.2.2.2.2.1
theorem oneR.cp {I I' : IH} {J J' : JH} {s p m b b' : Nat} {A B : Nat → Int32} {N N' : Nat → Int64} (h : oneR I J p A N b) (h7 : I (p + 4) 7 = nI m) (hm : m ≤ 60) (hc : scR I I' J J' s p m) (hA : ∀ k, k < 586 → B k = A k) (hN : ∀ k, k < 14 → N' (b' + k) = N (b + k)) : oneR I' J' s B N' b' := by
  obtain ⟨h1, h2, h3, h4, h5, h6⟩ := h
  have o0 := h1.1.1.2
  have o1 := h1.1.2.1.2
  obtain ⟨-, c1, c2, c3, c4, c5, c6, c7, c8⟩ := id hc
  refine ⟨(h1.cp hc).cg (fun k hk => hA k (by omega)), ?_, h3.mv (fun k x1 x2 => c5 k x1 x2) (fun m' e m6 a x1 x2 i hi => ?_) (hA 11 (by omega)) (fun k x1 x2 => hA k x2), h4.cp hc, h5.cg (fun k hk => hA k (by omega)), h6.cg (fun k hk => hA k (by omega))⟩
  · rw [hA 0 (by omega), hA 1 (by omega)]
    refine ⟨fun i hi => ?_, fun i hi => ?_⟩
    · rw [c8 i (by omega), hN i (by omega)]
      exact h2.1 i hi
    · have e := c8 (6 + i) (by omega)
      rw [show s + 18 + (6 + i) = s + 24 + i by omega, show p + 18 + (6 + i) = p + 24 + i by omega] at e
      rw [e, Nat.add_assoc b', hN _ (by omega), ← Nat.add_assoc]
      exact h2.2 i hi
  · have em : m' = m := by
      rcases h3 with ⟨a1, a2, a7⟩ | ⟨m2, a1, a2, a3, a4, a5⟩
      · rw [a1] at e
        exact absurd e.symm (of_eq_false (nI_m1 (by omega)))
      · rw [a1] at e
        rw [a4] at h7
        have := (nI_eqE (a := m2) (b := m) (by omega) (by omega)).mp h7
        have := (nI_eqE (a := m2) (b := m') (by omega) (by omega)).mp e
        omega
    rw [em] at hi
    exact c6 a x1 x2 i hi
/-- a mark set or taken back, all else as it was -/
theorem relR.mm {X M s p : Nat} {S : Sh} {I I2 : IH} {J J2 : JH} {z : Nat} (h : relR X M S I J z) (b6 : S.2.2 X 6 = some s) (b7 : S.2.2 X 7 = some p)
    (eI : ∀ a, X < a → a < X + 278 → ¬ (X + 14 ≤ a ∧ a < X + 170) → ¬ (s ≤ a ∧ a < s + 52) → I2 a = I a) (eX : ∀ k, k ≠ 9 → k ≠ 10 → I2 X k = I X k) (eM : ∀ k, k ≠ 2 → k ≠ 35 → I2 M k = I M k) (mI : ∀ a, M + 3 ≤ a → I2 a = I a)
    (eJ : ∀ a, ¬ (X + 14 ≤ a ∧ a < X + 170) → ¬ (s ≤ a ∧ a < s + 52) → a ≠ M + 2 → J2 a = J a) (e2 : I2 X 10 = I2 M 2)
    (h1 : oneR I2 J2 s (I2 (M + 1)) (J2 (M + 2)) 0) (h2 : pM X M I2 J2) : relR X M S I2 J2 z := by
  obtain ⟨s', p', hc, hm, hX, hz, ⟨a1, a2, a3, a4, a5⟩, g2, g3, ⟨g4, g4'⟩, g5, g6⟩ := h
  have e : s' = s := Option.some.inj (hc.2.2.1.2.2.2.2.2.1.symm.trans b6)
  have e' : p' = p := Option.some.inj (hc.2.2.1.2.2.2.2.2.2.symm.trans b7)
  subst e e'
  have hsp := hc.2.2.2.2.2.2.2
  refine ⟨s', p', hc, hm, hX, hz, ⟨e2, ?_, ?_, ?_, ?_⟩, g2.mv (fun a x1 x2 => ⟨eI a (by omega) (by omega) (by omega) (by omega), eJ a (by omega) (by omega) (by omega)⟩) (mI _ (by omega)) (mI _ (by omega)) (eJ _ (by omega) (by omega) (by omega)), g3.mv (eX 8 (by omega) (by omega)) (eM 10 (by omega) (by omega)) (eI _ (by omega) (by omega) (by omega) (by omega)) (mI _ (by omega)) (eJ _ (by omega) (by omega) (by omega)), ⟨h1, g4'.mv (fun i hi => by rw [eI _ (by omega) (by omega) (by omega) (by omega)])⟩, h2, g6.mv (eI _ (by omega) (by omega) (by omega) (by omega)) (eM 34 (by omega) (by omega)) (mI _ (by omega)) (mI _ (by omega))⟩
  · rw [eJ X (by omega) (by omega) (by omega), eJ M (by omega) (by omega) (by omega)]; exact a2
  · rw [eJ X (by omega) (by omega) (by omega), eJ M (by omega) (by omega) (by omega)]; exact a3
  · rw [eX 11 (by omega) (by omega), eM 16 (by omega) (by omega)]; exact a4
  · rw [eX 12 (by omega) (by omega), eM 17 (by omega) (by omega)]; exact a5
set_option maxHeartbeats 4000000 in
set_option maxRecDepth 20000 in
theorem sim_mark {G : GT} {X M : Nat} : SIM G X M sp_X11_mark sp_X12_mark [] := by
  intro S I J z h
  have h0 := h
  obtain ⟨s, p, hc, hm, hX, hz, hr⟩ := h
  have hc0 := hc
  have hr0 := hr
  obtain ⟨ct, cr, ⟨b1, b2, b3, b4, b5, b6, b7⟩, cl, cm, hs, hp, csp⟩ := hc
  have k0 := ct.1
  obtain ⟨rA, rT, rP, ⟨rS, rq⟩, rM, rL⟩ := hr
  have rS0 := rS
  obtain ⟨hst, hnm, hyr, hbq, hwf, hwz⟩ := rS
  obtain ⟨s5, s6, s7, s9, s10, s11, s12, s16, s13, s14, s15⟩ := hst.2.1
  have fA : ∀ v, u2 I X 10 v (M + 1) = I (M + 1) := fun v => u2_ne (by omega)
  have fM : ∀ v, u2 I X 10 v M = I M := fun v => u2_ne (by omega)
  have fin : ∀ v, relR X M S (u2 (u2 I X 10 v) M 2 v) J z ∧ z ≤ z + 2 := fun v => ⟨h0.st v, by omega⟩
  obtain ⟨⟨m, hm6, em⟩, y9, y16⟩ := rS0.c7
  obtain ⟨c, l9, l35, hc3, hMk⟩ := rM
  obtain ⟨l1, l2, -⟩ := cl
  have x : ∀ K : Post, (c = 3 → K (some (.int (-1))) S (u2 I X 10 4) J z) → (c < 3 → ∀ I1 J1, scR I I1 J J1 (X + 14 + 52 * c) s m → K (some (.int (nI (c + 1)))) S (u2 (u2 I1 X 9 (nI (c + 1))) X 10 0) J1 z) → sp_X11_mark G [.ref X] S I J z K := by
    intro K h1 h2
    simp (disch := omega) only [sp_X11_mark, B_X11_mark_0, k0, l9, li_3, nI_ltE, Nat.not_lt, ix_aald, ix_aast, ix_abs, ix_alen, ix_aload, ix_aret, ix_astore, ix_bald, ix_bast, ix_call, ix_cpyI, ix_cpyJ, ix_dead, ix_dup2, ix_dup2L, ix_dupI, ix_dupR, ix_dupx1, ix_getI, ix_getJ, ix_getR, ix_gfm, ix_gtab, ix_i2b, ix_i2c, ix_i2l, ix_i2s, ix_iadd, ix_iald, ix_iand, ix_iast, ix_icall, ix_icmp_eq, ix_icmp_ge, ix_icmp_gt, ix_icmp_le, ix_icmp_lt, ix_icmp_ne, ix_idiv, ix_if_eq, ix_if_ge, ix_if_gt, ix_if_le, ix_if_lt, ix_if_ne, ix_iinc, ix_iload, ix_imul, ix_ineg, ix_ior, ix_irem, ix_iret, ix_ishl, ix_ishr, ix_istore, ix_isub, ix_iushr, ix_ixor, ix_l2i, ix_ladd, ix_lald, ix_land, ix_last, ix_lcmp, ix_ldcS, ix_ldiv, ix_lload, ix_lmul, ix_lor, ix_lrem, ix_lret, ix_lshl, ix_lstore, ix_lsub, ix_lsw, ix_max, ix_min, ix_new, ix_newa, ix_nret, ix_oinit, ix_pop2L, ix_popI, ix_pushI, ix_pushL, ix_putI, ix_putJ, ix_putR, ix_putZ, ix_sbald, ix_sgetC, ix_sgetV, ix_slen, ix_strc, ix_tald, ix_tsw, ix_vcall, ix_vret, ix_zret, stL, stL2, kilL, popN, fq_sw, fq_lsw, List.map_cons, List.map_nil, List.getElem?_cons_zero, List.getElem?_cons_succ, Option.toList_some, Option.toList_none, List.cons_append, List.nil_append, List.length_cons, List.length_nil, List.sum_cons, List.sum_nil, cat_i, cat_l, cat_r, true_and, and_true, Nat.zero_add, Nat.add_zero, Nat.le_refl, Nat.zero_le, Nat.reduceAdd, Nat.reduceLeDiff, exists_eq_left', Option.some.injEq, not_true_eq_false, not_false_eq_true, false_implies, true_implies, implies_true, and_self, or_true, true_or, or_false, false_or]
    refine ⟨fun g => ?_, fun g => ?_⟩
    rotate_left
    · simp (disch := omega) only [sp_X11_refuse, B_X11_refuse_0, k0, ix_aald, ix_aast, ix_abs, ix_alen, ix_aload, ix_aret, ix_astore, ix_bald, ix_bast, ix_call, ix_cpyI, ix_cpyJ, ix_dead, ix_dup2, ix_dup2L, ix_dupI, ix_dupR, ix_dupx1, ix_getI, ix_getJ, ix_getR, ix_gfm, ix_gtab, ix_i2b, ix_i2c, ix_i2l, ix_i2s, ix_iadd, ix_iald, ix_iand, ix_iast, ix_icall, ix_icmp_eq, ix_icmp_ge, ix_icmp_gt, ix_icmp_le, ix_icmp_lt, ix_icmp_ne, ix_idiv, ix_if_eq, ix_if_ge, ix_if_gt, ix_if_le, ix_if_lt, ix_if_ne, ix_iinc, ix_iload, ix_imul, ix_ineg, ix_ior, ix_irem, ix_iret, ix_ishl, ix_ishr, ix_istore, ix_isub, ix_iushr, ix_ixor, ix_l2i, ix_ladd, ix_lald, ix_land, ix_last, ix_lcmp, ix_ldcS, ix_ldiv, ix_lload, ix_lmul, ix_lor, ix_lrem, ix_lret, ix_lshl, ix_lstore, ix_lsub, ix_lsw, ix_max, ix_min, ix_new, ix_newa, ix_nret, ix_oinit, ix_pop2L, ix_popI, ix_pushI, ix_pushL, ix_putI, ix_putJ, ix_putR, ix_putZ, ix_sbald, ix_sgetC, ix_sgetV, ix_slen, ix_strc, ix_tald, ix_tsw, ix_vcall, ix_vret, ix_zret, stL, stL2, kilL, popN, fq_sw, fq_lsw, List.map_cons, List.map_nil, List.getElem?_cons_zero, List.getElem?_cons_succ, Option.toList_some, Option.toList_none, List.cons_append, List.nil_append, List.length_cons, List.length_nil, List.sum_cons, List.sum_nil, cat_i, cat_l, cat_r, true_and, and_true, Nat.zero_add, Nat.add_zero, Nat.le_refl, Nat.zero_le, Nat.reduceAdd, Nat.reduceLeDiff, exists_eq_left', Option.some.injEq, not_true_eq_false, not_false_eq_true, false_implies, true_implies, implies_true, and_self, or_true, true_or, or_false, false_or]
      exact h1 (by omega)
    · obtain ⟨m1, m2⟩ := cm c g
      simp (disch := omega) only [k0, b3, b6, l1, l2, m1, m2.k, nI_clamp, nI_pin, ix_aald, ix_aast, ix_abs, ix_alen, ix_aload, ix_aret, ix_astore, ix_bald, ix_bast, ix_call, ix_cpyI, ix_cpyJ, ix_dead, ix_dup2, ix_dup2L, ix_dupI, ix_dupR, ix_dupx1, ix_getI, ix_getJ, ix_getR, ix_gfm, ix_gtab, ix_i2b, ix_i2c, ix_i2l, ix_i2s, ix_iadd, ix_iald, ix_iand, ix_iast, ix_icall, ix_icmp_eq, ix_icmp_ge, ix_icmp_gt, ix_icmp_le, ix_icmp_lt, ix_icmp_ne, ix_idiv, ix_if_eq, ix_if_ge, ix_if_gt, ix_if_le, ix_if_lt, ix_if_ne, ix_iinc, ix_iload, ix_imul, ix_ineg, ix_ior, ix_irem, ix_iret, ix_ishl, ix_ishr, ix_istore, ix_isub, ix_iushr, ix_ixor, ix_l2i, ix_ladd, ix_lald, ix_land, ix_last, ix_lcmp, ix_ldcS, ix_ldiv, ix_lload, ix_lmul, ix_lor, ix_lrem, ix_lret, ix_lshl, ix_lstore, ix_lsub, ix_lsw, ix_max, ix_min, ix_new, ix_newa, ix_nret, ix_oinit, ix_pop2L, ix_popI, ix_pushI, ix_pushL, ix_putI, ix_putJ, ix_putR, ix_putZ, ix_sbald, ix_sgetC, ix_sgetV, ix_slen, ix_strc, ix_tald, ix_tsw, ix_vcall, ix_vret, ix_zret, stL, stL2, kilL, popN, fq_sw, fq_lsw, List.map_cons, List.map_nil, List.getElem?_cons_zero, List.getElem?_cons_succ, Option.toList_some, Option.toList_none, List.cons_append, List.nil_append, List.length_cons, List.length_nil, List.sum_cons, List.sum_nil, cat_i, cat_l, cat_r, true_and, and_true, Nat.zero_add, Nat.add_zero, Nat.le_refl, Nat.zero_le, Nat.reduceAdd, Nat.reduceLeDiff, exists_eq_left', Option.some.injEq, not_true_eq_false, not_false_eq_true, false_implies, true_implies, implies_true, and_self, or_true, true_or, or_false, false_or]
      refine ⟨X + 14 + 52 * c, s, m, rfl, rfl, m2, hs, by omega, em, hm6, y9, y16, hbq, fun I1 J1 hs1 => ?_⟩
      have i9 : I1 X 9 = nI c := by rw [hs1.1 X (by omega)]; exact l9
      simp (disch := omega) only [sp_X11_answer, B_X11_answer_0, k0, i9, nI_1, nI_add, u2_same, u2_ck, ix_aald, ix_aast, ix_abs, ix_alen, ix_aload, ix_aret, ix_astore, ix_bald, ix_bast, ix_call, ix_cpyI, ix_cpyJ, ix_dead, ix_dup2, ix_dup2L, ix_dupI, ix_dupR, ix_dupx1, ix_getI, ix_getJ, ix_getR, ix_gfm, ix_gtab, ix_i2b, ix_i2c, ix_i2l, ix_i2s, ix_iadd, ix_iald, ix_iand, ix_iast, ix_icall, ix_icmp_eq, ix_icmp_ge, ix_icmp_gt, ix_icmp_le, ix_icmp_lt, ix_icmp_ne, ix_idiv, ix_if_eq, ix_if_ge, ix_if_gt, ix_if_le, ix_if_lt, ix_if_ne, ix_iinc, ix_iload, ix_imul, ix_ineg, ix_ior, ix_irem, ix_iret, ix_ishl, ix_ishr, ix_istore, ix_isub, ix_iushr, ix_ixor, ix_l2i, ix_ladd, ix_lald, ix_land, ix_last, ix_lcmp, ix_ldcS, ix_ldiv, ix_lload, ix_lmul, ix_lor, ix_lrem, ix_lret, ix_lshl, ix_lstore, ix_lsub, ix_lsw, ix_max, ix_min, ix_new, ix_newa, ix_nret, ix_oinit, ix_pop2L, ix_popI, ix_pushI, ix_pushL, ix_putI, ix_putJ, ix_putR, ix_putZ, ix_sbald, ix_sgetC, ix_sgetV, ix_slen, ix_strc, ix_tald, ix_tsw, ix_vcall, ix_vret, ix_zret, stL, stL2, kilL, popN, fq_sw, fq_lsw, List.map_cons, List.map_nil, List.getElem?_cons_zero, List.getElem?_cons_succ, Option.toList_some, Option.toList_none, List.cons_append, List.nil_append, List.length_cons, List.length_nil, List.sum_cons, List.sum_nil, cat_i, cat_l, cat_r, true_and, and_true, Nat.zero_add, Nat.add_zero, Nat.le_refl, Nat.zero_le, Nat.reduceAdd, Nat.reduceLeDiff, exists_eq_left', Option.some.injEq, not_true_eq_false, not_false_eq_true, false_implies, true_implies, implies_true, and_self, or_true, true_or, or_false, false_or]
      exact h2 g I1 J1 hs1
  refine x _ (fun g => ?_) (fun g I1 J1 hs1 => ?_)
  · subst g
    simp (disch := omega) only [sp_X12_mark, B_X12_mark_0, sp_X12_refuse, B_X12_refuse_0, fA, fM, l35, li_3, nI_eqE, hm, hm.k, hm.k1, hm.n1, hm.r1, hm.k2, hm.n2, hm.r2, hm.k3, hm.n3, hm.r3, hm.k4, hm.n4, hm.r4, hm.k5, hm.n5, hm.r5, hm.k6, hm.n6, hm.r6, hm.k7, hm.n7, hm.r7, hm.k8, hm.n8, hm.r8, hm.k9, hm.n9, hm.r9, hm.k10, hm.n10, hm.r10, hm.k11, hm.n11, hm.r11, hm.k12, hm.n12, hm.r12, hm.k13, hm.n13, hm.r13, hm.k14, hm.n14, hm.r14, ix_aald, ix_aast, ix_abs, ix_alen, ix_aload, ix_aret, ix_astore, ix_bald, ix_bast, ix_call, ix_cpyI, ix_cpyJ, ix_dead, ix_dup2, ix_dup2L, ix_dupI, ix_dupR, ix_dupx1, ix_getI, ix_getJ, ix_getR, ix_gfm, ix_gtab, ix_i2b, ix_i2c, ix_i2l, ix_i2s, ix_iadd, ix_iald, ix_iand, ix_iast, ix_icall, ix_icmp_eq, ix_icmp_ge, ix_icmp_gt, ix_icmp_le, ix_icmp_lt, ix_icmp_ne, ix_idiv, ix_if_eq, ix_if_ge, ix_if_gt, ix_if_le, ix_if_lt, ix_if_ne, ix_iinc, ix_iload, ix_imul, ix_ineg, ix_ior, ix_irem, ix_iret, ix_ishl, ix_ishr, ix_istore, ix_isub, ix_iushr, ix_ixor, ix_l2i, ix_ladd, ix_lald, ix_land, ix_last, ix_lcmp, ix_ldcS, ix_ldiv, ix_lload, ix_lmul, ix_lor, ix_lrem, ix_lret, ix_lshl, ix_lstore, ix_lsub, ix_lsw, ix_max, ix_min, ix_new, ix_newa, ix_nret, ix_oinit, ix_pop2L, ix_popI, ix_pushI, ix_pushL, ix_putI, ix_putJ, ix_putR, ix_putZ, ix_sbald, ix_sgetC, ix_sgetV, ix_slen, ix_strc, ix_tald, ix_tsw, ix_vcall, ix_vret, ix_zret, stL, stL2, kilL, popN, fq_sw, fq_lsw, List.map_cons, List.map_nil, List.getElem?_cons_zero, List.getElem?_cons_succ, Option.toList_some, Option.toList_none, List.cons_append, List.nil_append, List.length_cons, List.length_nil, List.sum_cons, List.sum_nil, cat_i, cat_l, cat_r, true_and, and_true, Nat.zero_add, Nat.add_zero, Nat.le_refl, Nat.zero_le, Nat.reduceAdd, Nat.reduceLeDiff, exists_eq_left', Option.some.injEq, not_true_eq_false, not_false_eq_true, false_implies, true_implies, implies_true, and_self, or_true, true_or, or_false, false_or]
    exact fin 4
  · have n3 : ¬ c = 3 := by omega
    have i35 : u2 (u2 I1 X 9 (nI (c + 1))) X 10 0 M 35 = nI c := by rw [u2_ne (by omega), u2_ne (by omega), hs1.1 M (by omega)]; exact l35
    have fA1 : u2 (u2 I1 X 9 (nI (c + 1))) X 10 0 (M + 1) = I (M + 1) := by rw [u2_ne (by omega), u2_ne (by omega), hs1.1 (M + 1) (by omega)]
    have fN1 : J1 (M + 2) = J (M + 2) := hs1.2.2.2.2.2.2.2.1 _ (by omega)
    simp (disch := omega) only [sp_X12_mark, B_X12_mark_0, i35, n3, li_3, nI_eqE, nI_1, nI_add, u2_same, hm, hm.k, hm.k1, hm.n1, hm.r1, hm.k2, hm.n2, hm.r2, hm.k3, hm.n3, hm.r3, hm.k4, hm.n4, hm.r4, hm.k5, hm.n5, hm.r5, hm.k6, hm.n6, hm.r6, hm.k7, hm.n7, hm.r7, hm.k8, hm.n8, hm.r8, hm.k9, hm.n9, hm.r9, hm.k10, hm.n10, hm.r10, hm.k11, hm.n11, hm.r11, hm.k12, hm.n12, hm.r12, hm.k13, hm.n13, hm.r13, hm.k14, hm.n14, hm.r14, ix_aald, ix_aast, ix_abs, ix_alen, ix_aload, ix_aret, ix_astore, ix_bald, ix_bast, ix_call, ix_cpyI, ix_cpyJ, ix_dead, ix_dup2, ix_dup2L, ix_dupI, ix_dupR, ix_dupx1, ix_getI, ix_getJ, ix_getR, ix_gfm, ix_gtab, ix_i2b, ix_i2c, ix_i2l, ix_i2s, ix_iadd, ix_iald, ix_iand, ix_iast, ix_icall, ix_icmp_eq, ix_icmp_ge, ix_icmp_gt, ix_icmp_le, ix_icmp_lt, ix_icmp_ne, ix_idiv, ix_if_eq, ix_if_ge, ix_if_gt, ix_if_le, ix_if_lt, ix_if_ne, ix_iinc, ix_iload, ix_imul, ix_ineg, ix_ior, ix_irem, ix_iret, ix_ishl, ix_ishr, ix_istore, ix_isub, ix_iushr, ix_ixor, ix_l2i, ix_ladd, ix_lald, ix_land, ix_last, ix_lcmp, ix_ldcS, ix_ldiv, ix_lload, ix_lmul, ix_lor, ix_lrem, ix_lret, ix_lshl, ix_lstore, ix_lsub, ix_lsw, ix_max, ix_min, ix_new, ix_newa, ix_nret, ix_oinit, ix_pop2L, ix_popI, ix_pushI, ix_pushL, ix_putI, ix_putJ, ix_putR, ix_putZ, ix_sbald, ix_sgetC, ix_sgetV, ix_slen, ix_strc, ix_tald, ix_tsw, ix_vcall, ix_vret, ix_zret, stL, stL2, kilL, popN, fq_sw, fq_lsw, List.map_cons, List.map_nil, List.getElem?_cons_zero, List.getElem?_cons_succ, Option.toList_some, Option.toList_none, List.cons_append, List.nil_append, List.length_cons, List.length_nil, List.sum_cons, List.sum_nil, cat_i, cat_l, cat_r, true_and, and_true, Nat.zero_add, Nat.add_zero, Nat.le_refl, Nat.zero_le, Nat.reduceAdd, Nat.reduceLeDiff, exists_eq_left', Option.some.injEq, not_true_eq_false, not_false_eq_true, false_implies, true_implies, implies_true, and_self, or_true, true_or, or_false, false_or]
    have t0 : Int32.toNatClampNeg 0 = 0 := by decide
    refine ⟨hm, vin_of (x := 0) (by omega) (by omega), vin_of (by omega) (by omega), by rw [t0, nI_clamp (by omega)]; omega, ?_⟩
    simp (disch := omega) only [sp_X12_gives, B_X12_gives_0, t0, nI_clamp, u2_same, u2_ck, u2_ca, up1_o, hm, hm.k, hm.k1, hm.n1, hm.r1, hm.k2, hm.n2, hm.r2, hm.k3, hm.n3, hm.r3, hm.k4, hm.n4, hm.r4, hm.k5, hm.n5, hm.r5, hm.k6, hm.n6, hm.r6, hm.k7, hm.n7, hm.r7, hm.k8, hm.n8, hm.r8, hm.k9, hm.n9, hm.r9, hm.k10, hm.n10, hm.r10, hm.k11, hm.n11, hm.r11, hm.k12, hm.n12, hm.r12, hm.k13, hm.n13, hm.r13, hm.k14, hm.n14, hm.r14, Nat.mul_zero, ix_aald, ix_aast, ix_abs, ix_alen, ix_aload, ix_aret, ix_astore, ix_bald, ix_bast, ix_call, ix_cpyI, ix_cpyJ, ix_dead, ix_dup2, ix_dup2L, ix_dupI, ix_dupR, ix_dupx1, ix_getI, ix_getJ, ix_getR, ix_gfm, ix_gtab, ix_i2b, ix_i2c, ix_i2l, ix_i2s, ix_iadd, ix_iald, ix_iand, ix_iast, ix_icall, ix_icmp_eq, ix_icmp_ge, ix_icmp_gt, ix_icmp_le, ix_icmp_lt, ix_icmp_ne, ix_idiv, ix_if_eq, ix_if_ge, ix_if_gt, ix_if_le, ix_if_lt, ix_if_ne, ix_iinc, ix_iload, ix_imul, ix_ineg, ix_ior, ix_irem, ix_iret, ix_ishl, ix_ishr, ix_istore, ix_isub, ix_iushr, ix_ixor, ix_l2i, ix_ladd, ix_lald, ix_land, ix_last, ix_lcmp, ix_ldcS, ix_ldiv, ix_lload, ix_lmul, ix_lor, ix_lrem, ix_lret, ix_lshl, ix_lstore, ix_lsub, ix_lsw, ix_max, ix_min, ix_new, ix_newa, ix_nret, ix_oinit, ix_pop2L, ix_popI, ix_pushI, ix_pushL, ix_putI, ix_putJ, ix_putR, ix_putZ, ix_sbald, ix_sgetC, ix_sgetV, ix_slen, ix_strc, ix_tald, ix_tsw, ix_vcall, ix_vret, ix_zret, stL, stL2, kilL, popN, fq_sw, fq_lsw, List.map_cons, List.map_nil, List.getElem?_cons_zero, List.getElem?_cons_succ, Option.toList_some, Option.toList_none, List.cons_append, List.nil_append, List.length_cons, List.length_nil, List.sum_cons, List.sum_nil, cat_i, cat_l, cat_r, true_and, and_true, Nat.zero_add, Nat.add_zero, Nat.le_refl, Nat.zero_le, Nat.reduceAdd, Nat.reduceLeDiff, exists_eq_left', Option.some.injEq, not_true_eq_false, not_false_eq_true, false_implies, true_implies, implies_true, and_self, or_true, true_or, or_false, false_or]
    have fA2 : u2 (u2 (u2 I1 X 9 (nI (c + 1))) X 10 0) M 35 (nI (c + 1)) (M + 1) = I (M + 1) := by rw [u2_ne (by omega)]; exact fA1
    rw [fA2, fN1]
    generalize hW : u2 (up1 (u2 (u2 (u2 I1 X 9 (nI (c + 1))) X 10 0) M 35 (nI (c + 1))) (M + 1) (cpR (I (M + 1)) (594 * (c + 1)) 0 594)) M 2 0 = W
    generalize hV : up1 J1 (M + 2) (cpR (J (M + 2)) (14 * (c + 1)) 0 14) = V
    have wo : ∀ a, a ≠ X → a ≠ M → a ≠ M + 1 → W a = I1 a := fun a x1 x2 x3 => by rw [← hW, u2_ne x2, up1_ne x3, u2_ne x2, u2_ne x1, u2_ne x1]
    have wA : W (M + 1) = cpR (I (M + 1)) (594 * (c + 1)) 0 594 := by rw [← hW, u2_ne (by omega), up1_eq]
    have wX : ∀ k, k ≠ 9 → k ≠ 10 → W X k = I1 X k := fun k x1 x2 => by rw [← hW, u2_ne (by omega), up1_ne (by omega), u2_ne (by omega), u2_ck _ _ _ _ _ _ x2, u2_ck _ _ _ _ _ _ x1]
    have wM : ∀ k, k ≠ 2 → k ≠ 35 → W M k = I1 M k := fun k x1 x2 => by rw [← hW, u2_ck _ _ _ _ _ _ x1, up1_ne (by omega), u2_ck _ _ _ _ _ _ x2, u2_ne (by omega), u2_ne (by omega)]
    have w9 : W X 9 = nI (c + 1) := by rw [← hW, u2_ne (by omega), up1_ne (by omega), u2_ne (by omega), u2_ck _ _ _ _ _ _ (by omega), u2_same]
    have w35 : W M 35 = nI (c + 1) := by rw [← hW, u2_ck _ _ _ _ _ _ (by omega), up1_ne (by omega), u2_same]
    have w10 : W X 10 = W M 2 := by rw [← hW, u2_ne (by omega), up1_ne (by omega), u2_ne (by omega), u2_same, u2_same]
    have vo : ∀ a, a ≠ M + 2 → V a = J1 a := fun a x1 => by rw [← hV, up1_ne x1]
    have vA : V (M + 2) = cpR (J (M + 2)) (14 * (c + 1)) 0 14 := by rw [← hV, up1_eq]
    clear hW hV
    have i1 : ∀ a, ¬ (X + 14 + 52 * c ≤ a ∧ a < X + 14 + 52 * c + 52) → I1 a = I a := fun a x => hs1.1 a x
    have j1 : ∀ a, ¬ (X + 14 + 52 * c ≤ a ∧ a < X + 14 + 52 * c + 52) → J1 a = J a := fun a x => hs1.2.2.2.2.2.2.2.1 a x
    refine ⟨h0.mm b6 b7 (fun a x1 x2 x3 x4 => by rw [wo a (by omega) (by omega) (by omega), i1 a (by omega)]) (fun k x1 x2 => by rw [wX k x1 x2, i1 X (by omega)]) (fun k x1 x2 => by rw [wM k x1 x2, i1 M (by omega)]) (fun a x1 => by rw [wo a (by omega) (by omega) (by omega), i1 a (by omega)]) (fun a x1 x2 x3 => by rw [vo a x3, j1 a (by omega)]) w10 ?_ ⟨c + 1, w9, w35, by omega, fun i hi => ?_⟩, by omega⟩
    · refine rS0.mv (fun a x1 x2 _ => by rw [wo a (by omega) (by omega) (by omega), i1 a (by omega)]) (fun a x1 x2 => by rw [vo a (by omega), j1 a (by omega)]) (fun k hk => by rw [wA, cpR_r _ _ _ _ _ (by omega)]) (fun k hk => by rw [vA, cpR_r _ _ _ _ _ (by omega)])
    · by_cases q : i = c
      · subst q
        have g1 : oneR I1 J1 (X + 14 + 52 * i) (fun k => W (M + 1) (594 * (i + 1) + k)) (V (M + 2)) (14 * (i + 1)) := rS0.cp em hm6 hs1 (fun k hk => by
          show W (M + 1) (594 * (i + 1) + k) = _
          rw [wA, cpR_i _ _ _ _ _ (by omega), Nat.zero_add]) (fun k hk => by rw [vA, cpR_i _ _ _ _ _ (by omega)])
        exact g1.mv (fun a x1 x2 _ => by rw [wo a (by omega) (by omega) (by omega)]) (fun a x1 x2 => by rw [vo a (by omega)]) (fun _ _ => rfl) (fun _ _ => rfl)
      · exact (hMk i (by omega)).mv (fun a x1 x2 _ => by rw [wo a (by omega) (by omega) (by omega), i1 a (by omega)]) (fun a x1 x2 => by rw [vo a (by omega), j1 a (by omega)]) (fun k hk => by
          show W (M + 1) (594 * (i + 1) + k) = _
          rw [wA, cpR_r _ _ _ _ _ (by omega)]) (fun k hk => by rw [vA, cpR_r _ _ _ _ _ (by omega)])
set_option maxHeartbeats 4000000 in
set_option maxRecDepth 20000 in
theorem sim_undo {G : GT} {X M : Nat} : SIM G X M sp_X11_undo sp_X12_undo [] := by
  intro S I J z h
  have h0 := h
  obtain ⟨s, p, hc, hm, hX, hz, hr⟩ := h
  have hc0 := hc
  have hr0 := hr
  obtain ⟨ct, cr, ⟨b1, b2, b3, b4, b5, b6, b7⟩, cl, cm, hs, hp, csp⟩ := hc
  have k0 := ct.1
  obtain ⟨rA, rT, rP, ⟨rS, rq⟩, rM, rL⟩ := hr
  have rS0 := rS
  obtain ⟨hst, hnm, hyr, hbq, hwf, hwz⟩ := rS
  obtain ⟨s5, s6, s7, s9, s10, s11, s12, s16, s13, s14, s15⟩ := hst.2.1
  have fA : ∀ v, u2 I X 10 v (M + 1) = I (M + 1) := fun v => u2_ne (by omega)
  have fM : ∀ v, u2 I X 10 v M = I M := fun v => u2_ne (by omega)
  have fin : ∀ v, relR X M S (u2 (u2 I X 10 v) M 2 v) J z ∧ z ≤ z + 2 := fun v => ⟨h0.st v, by omega⟩
  obtain ⟨c, l9, l35, hc3, hMk⟩ := rM
  obtain ⟨l1, l2, -⟩ := cl
  rcases Nat.eq_zero_or_pos c with hc | hc
  · subst hc
    have z9 : I X 9 = 0 := l9
    have z35 : I M 35 = 0 := l35
    simp (disch := omega) only [sp_X11_undo, B_X11_undo_0, sp_X11_refuse, B_X11_refuse_0, sp_X6_copyFrom, sp_X11_answer, B_X11_answer_0, sp_X12_undo, B_X12_undo_0, sp_X12_refuse, B_X12_refuse_0, sp_X12_copies, sp_X12_gives, B_X12_gives_0, k0, z9, z35, fA, fM, hm, hm.k, hm.k1, hm.n1, hm.r1, hm.k2, hm.n2, hm.r2, hm.k3, hm.n3, hm.r3, hm.k4, hm.n4, hm.r4, hm.k5, hm.n5, hm.r5, hm.k6, hm.n6, hm.r6, hm.k7, hm.n7, hm.r7, hm.k8, hm.n8, hm.r8, hm.k9, hm.n9, hm.r9, hm.k10, hm.n10, hm.r10, hm.k11, hm.n11, hm.r11, hm.k12, hm.n12, hm.r12, hm.k13, hm.n13, hm.r13, hm.k14, hm.n14, hm.r14, ix_aald, ix_aast, ix_abs, ix_alen, ix_aload, ix_aret, ix_astore, ix_bald, ix_bast, ix_call, ix_cpyI, ix_cpyJ, ix_dead, ix_dup2, ix_dup2L, ix_dupI, ix_dupR, ix_dupx1, ix_getI, ix_getJ, ix_getR, ix_gfm, ix_gtab, ix_i2b, ix_i2c, ix_i2l, ix_i2s, ix_iadd, ix_iald, ix_iand, ix_iast, ix_icall, ix_icmp_eq, ix_icmp_ge, ix_icmp_gt, ix_icmp_le, ix_icmp_lt, ix_icmp_ne, ix_idiv, ix_if_eq, ix_if_ge, ix_if_gt, ix_if_le, ix_if_lt, ix_if_ne, ix_iinc, ix_iload, ix_imul, ix_ineg, ix_ior, ix_irem, ix_iret, ix_ishl, ix_ishr, ix_istore, ix_isub, ix_iushr, ix_ixor, ix_l2i, ix_ladd, ix_lald, ix_land, ix_last, ix_lcmp, ix_ldcS, ix_ldiv, ix_lload, ix_lmul, ix_lor, ix_lrem, ix_lret, ix_lshl, ix_lstore, ix_lsub, ix_lsw, ix_max, ix_min, ix_new, ix_newa, ix_nret, ix_oinit, ix_pop2L, ix_popI, ix_pushI, ix_pushL, ix_putI, ix_putJ, ix_putR, ix_putZ, ix_sbald, ix_sgetC, ix_sgetV, ix_slen, ix_strc, ix_tald, ix_tsw, ix_vcall, ix_vret, ix_zret, stL, stL2, kilL, popN, fq_sw, fq_lsw, List.map_cons, List.map_nil, List.getElem?_cons_zero, List.getElem?_cons_succ, Option.toList_some, Option.toList_none, List.cons_append, List.nil_append, List.length_cons, List.length_nil, List.sum_cons, List.sum_nil, cat_i, cat_l, cat_r, true_and, and_true, Nat.zero_add, Nat.add_zero, Nat.le_refl, Nat.zero_le, Nat.reduceAdd, Nat.reduceLeDiff, exists_eq_left', Option.some.injEq, not_true_eq_false, not_false_eq_true, false_implies, true_implies, implies_true, and_self, or_true, true_or, or_false, false_or]
    exact fin 6
  · obtain ⟨c, rfl⟩ : ∃ d, c = d + 1 := ⟨c - 1, by omega⟩
    obtain ⟨m1, m2⟩ := cm c (by omega)
    have hB := hMk c (by omega)
    obtain ⟨⟨m, hm6, em⟩, y9, y16⟩ := hB.c7
    have nz : ¬ nI (c + 1) = 0 := fun q => by
      have := (nI_eqE (a := c + 1) (b := 0) (by omega) (by omega)).mp q
      omega
    have x : ∀ K : Post, (∀ I1 J1, scR (u2 I X 9 (nI c)) I1 J J1 s (X + 14 + 52 * c) m → K (some (.int (nI c))) S (u2 I1 X 10 0) J1 z) → sp_X11_undo G [.ref X] S I J z K := by
      intro K h2
      simp (disch := omega) only [sp_X11_undo, B_X11_undo_0, k0, l9, nz, nI_pred, u2_same, b3, b6, l1, l2, m1, hs.k, nI_clamp, nI_pin, ix_aald, ix_aast, ix_abs, ix_alen, ix_aload, ix_aret, ix_astore, ix_bald, ix_bast, ix_call, ix_cpyI, ix_cpyJ, ix_dead, ix_dup2, ix_dup2L, ix_dupI, ix_dupR, ix_dupx1, ix_getI, ix_getJ, ix_getR, ix_gfm, ix_gtab, ix_i2b, ix_i2c, ix_i2l, ix_i2s, ix_iadd, ix_iald, ix_iand, ix_iast, ix_icall, ix_icmp_eq, ix_icmp_ge, ix_icmp_gt, ix_icmp_le, ix_icmp_lt, ix_icmp_ne, ix_idiv, ix_if_eq, ix_if_ge, ix_if_gt, ix_if_le, ix_if_lt, ix_if_ne, ix_iinc, ix_iload, ix_imul, ix_ineg, ix_ior, ix_irem, ix_iret, ix_ishl, ix_ishr, ix_istore, ix_isub, ix_iushr, ix_ixor, ix_l2i, ix_ladd, ix_lald, ix_land, ix_last, ix_lcmp, ix_ldcS, ix_ldiv, ix_lload, ix_lmul, ix_lor, ix_lrem, ix_lret, ix_lshl, ix_lstore, ix_lsub, ix_lsw, ix_max, ix_min, ix_new, ix_newa, ix_nret, ix_oinit, ix_pop2L, ix_popI, ix_pushI, ix_pushL, ix_putI, ix_putJ, ix_putR, ix_putZ, ix_sbald, ix_sgetC, ix_sgetV, ix_slen, ix_strc, ix_tald, ix_tsw, ix_vcall, ix_vret, ix_zret, stL, stL2, kilL, popN, fq_sw, fq_lsw, List.map_cons, List.map_nil, List.getElem?_cons_zero, List.getElem?_cons_succ, Option.toList_some, Option.toList_none, List.cons_append, List.nil_append, List.length_cons, List.length_nil, List.sum_cons, List.sum_nil, cat_i, cat_l, cat_r, true_and, and_true, Nat.zero_add, Nat.add_zero, Nat.le_refl, Nat.zero_le, Nat.reduceAdd, Nat.reduceLeDiff, exists_eq_left', Option.some.injEq, not_true_eq_false, not_false_eq_true, false_implies, true_implies, implies_true, and_self, or_true, true_or, or_false, false_or]
      have n0 : ∀ a, a ≠ X → u2 I X 9 (nI c) a = I a := fun a x => u2_ne x
      refine ⟨s, X + 14 + 52 * c, m, rfl, rfl, hs, m2, by omega, by rw [n0 _ (by omega)]; exact em, hm6, by rw [n0 _ (by omega)]; exact y9, by rw [n0 _ (by omega)]; exact y16, fun i hi => by rw [n0 _ (by omega)]; exact hB.2.2.2.1 i hi, fun I1 J1 hs1 => ?_⟩
      have i9 : I1 X 9 = nI c := by rw [hs1.1 X (by omega), u2_same]
      simp (disch := omega) only [sp_X11_answer, B_X11_answer_0, k0, i9, ix_aald, ix_aast, ix_abs, ix_alen, ix_aload, ix_aret, ix_astore, ix_bald, ix_bast, ix_call, ix_cpyI, ix_cpyJ, ix_dead, ix_dup2, ix_dup2L, ix_dupI, ix_dupR, ix_dupx1, ix_getI, ix_getJ, ix_getR, ix_gfm, ix_gtab, ix_i2b, ix_i2c, ix_i2l, ix_i2s, ix_iadd, ix_iald, ix_iand, ix_iast, ix_icall, ix_icmp_eq, ix_icmp_ge, ix_icmp_gt, ix_icmp_le, ix_icmp_lt, ix_icmp_ne, ix_idiv, ix_if_eq, ix_if_ge, ix_if_gt, ix_if_le, ix_if_lt, ix_if_ne, ix_iinc, ix_iload, ix_imul, ix_ineg, ix_ior, ix_irem, ix_iret, ix_ishl, ix_ishr, ix_istore, ix_isub, ix_iushr, ix_ixor, ix_l2i, ix_ladd, ix_lald, ix_land, ix_last, ix_lcmp, ix_ldcS, ix_ldiv, ix_lload, ix_lmul, ix_lor, ix_lrem, ix_lret, ix_lshl, ix_lstore, ix_lsub, ix_lsw, ix_max, ix_min, ix_new, ix_newa, ix_nret, ix_oinit, ix_pop2L, ix_popI, ix_pushI, ix_pushL, ix_putI, ix_putJ, ix_putR, ix_putZ, ix_sbald, ix_sgetC, ix_sgetV, ix_slen, ix_strc, ix_tald, ix_tsw, ix_vcall, ix_vret, ix_zret, stL, stL2, kilL, popN, fq_sw, fq_lsw, List.map_cons, List.map_nil, List.getElem?_cons_zero, List.getElem?_cons_succ, Option.toList_some, Option.toList_none, List.cons_append, List.nil_append, List.length_cons, List.length_nil, List.sum_cons, List.sum_nil, cat_i, cat_l, cat_r, true_and, and_true, Nat.zero_add, Nat.add_zero, Nat.le_refl, Nat.zero_le, Nat.reduceAdd, Nat.reduceLeDiff, exists_eq_left', Option.some.injEq, not_true_eq_false, not_false_eq_true, false_implies, true_implies, implies_true, and_self, or_true, true_or, or_false, false_or]
      exact h2 I1 J1 hs1
    refine x _ (fun I1 J1 hs1 => ?_)
    have i35 : u2 I1 X 10 0 M 35 = nI (c + 1) := by rw [u2_ne (by omega), hs1.1 M (by omega), u2_ne (by omega)]; exact l35
    have fA1 : u2 I1 X 10 0 (M + 1) = I (M + 1) := by rw [u2_ne (by omega), hs1.1 (M + 1) (by omega), u2_ne (by omega)]
    have fN1 : J1 (M + 2) = J (M + 2) := hs1.2.2.2.2.2.2.2.1 _ (by omega)
    have t0 : Int32.toNatClampNeg 0 = 0 := by decide
    simp (disch := omega) only [sp_X12_undo, B_X12_undo_0, i35, nz, hm, hm.k, hm.k1, hm.n1, hm.r1, hm.k2, hm.n2, hm.r2, hm.k3, hm.n3, hm.r3, hm.k4, hm.n4, hm.r4, hm.k5, hm.n5, hm.r5, hm.k6, hm.n6, hm.r6, hm.k7, hm.n7, hm.r7, hm.k8, hm.n8, hm.r8, hm.k9, hm.n9, hm.r9, hm.k10, hm.n10, hm.r10, hm.k11, hm.n11, hm.r11, hm.k12, hm.n12, hm.r12, hm.k13, hm.n13, hm.r13, hm.k14, hm.n14, hm.r14, ix_aald, ix_aast, ix_abs, ix_alen, ix_aload, ix_aret, ix_astore, ix_bald, ix_bast, ix_call, ix_cpyI, ix_cpyJ, ix_dead, ix_dup2, ix_dup2L, ix_dupI, ix_dupR, ix_dupx1, ix_getI, ix_getJ, ix_getR, ix_gfm, ix_gtab, ix_i2b, ix_i2c, ix_i2l, ix_i2s, ix_iadd, ix_iald, ix_iand, ix_iast, ix_icall, ix_icmp_eq, ix_icmp_ge, ix_icmp_gt, ix_icmp_le, ix_icmp_lt, ix_icmp_ne, ix_idiv, ix_if_eq, ix_if_ge, ix_if_gt, ix_if_le, ix_if_lt, ix_if_ne, ix_iinc, ix_iload, ix_imul, ix_ineg, ix_ior, ix_irem, ix_iret, ix_ishl, ix_ishr, ix_istore, ix_isub, ix_iushr, ix_ixor, ix_l2i, ix_ladd, ix_lald, ix_land, ix_last, ix_lcmp, ix_ldcS, ix_ldiv, ix_lload, ix_lmul, ix_lor, ix_lrem, ix_lret, ix_lshl, ix_lstore, ix_lsub, ix_lsw, ix_max, ix_min, ix_new, ix_newa, ix_nret, ix_oinit, ix_pop2L, ix_popI, ix_pushI, ix_pushL, ix_putI, ix_putJ, ix_putR, ix_putZ, ix_sbald, ix_sgetC, ix_sgetV, ix_slen, ix_strc, ix_tald, ix_tsw, ix_vcall, ix_vret, ix_zret, stL, stL2, kilL, popN, fq_sw, fq_lsw, List.map_cons, List.map_nil, List.getElem?_cons_zero, List.getElem?_cons_succ, Option.toList_some, Option.toList_none, List.cons_append, List.nil_append, List.length_cons, List.length_nil, List.sum_cons, List.sum_nil, cat_i, cat_l, cat_r, true_and, and_true, Nat.zero_add, Nat.add_zero, Nat.le_refl, Nat.zero_le, Nat.reduceAdd, Nat.reduceLeDiff, exists_eq_left', Option.some.injEq, not_true_eq_false, not_false_eq_true, false_implies, true_implies, implies_true, and_self, or_true, true_or, or_false, false_or]
    refine ⟨hm, vin_of (by omega) (by omega), vin_of (x := 0) (by omega) (by omega), by rw [t0, nI_clamp (by omega)]; omega, ?_⟩
    simp (disch := omega) only [sp_X12_gives, B_X12_gives_0, t0, nI_clamp, nI_pred, i35, u2_same, u2_ck, u2_ca, up1_o, hm, hm.k, hm.k1, hm.n1, hm.r1, hm.k2, hm.n2, hm.r2, hm.k3, hm.n3, hm.r3, hm.k4, hm.n4, hm.r4, hm.k5, hm.n5, hm.r5, hm.k6, hm.n6, hm.r6, hm.k7, hm.n7, hm.r7, hm.k8, hm.n8, hm.r8, hm.k9, hm.n9, hm.r9, hm.k10, hm.n10, hm.r10, hm.k11, hm.n11, hm.r11, hm.k12, hm.n12, hm.r12, hm.k13, hm.n13, hm.r13, hm.k14, hm.n14, hm.r14, Nat.mul_zero, ix_aald, ix_aast, ix_abs, ix_alen, ix_aload, ix_aret, ix_astore, ix_bald, ix_bast, ix_call, ix_cpyI, ix_cpyJ, ix_dead, ix_dup2, ix_dup2L, ix_dupI, ix_dupR, ix_dupx1, ix_getI, ix_getJ, ix_getR, ix_gfm, ix_gtab, ix_i2b, ix_i2c, ix_i2l, ix_i2s, ix_iadd, ix_iald, ix_iand, ix_iast, ix_icall, ix_icmp_eq, ix_icmp_ge, ix_icmp_gt, ix_icmp_le, ix_icmp_lt, ix_icmp_ne, ix_idiv, ix_if_eq, ix_if_ge, ix_if_gt, ix_if_le, ix_if_lt, ix_if_ne, ix_iinc, ix_iload, ix_imul, ix_ineg, ix_ior, ix_irem, ix_iret, ix_ishl, ix_ishr, ix_istore, ix_isub, ix_iushr, ix_ixor, ix_l2i, ix_ladd, ix_lald, ix_land, ix_last, ix_lcmp, ix_ldcS, ix_ldiv, ix_lload, ix_lmul, ix_lor, ix_lrem, ix_lret, ix_lshl, ix_lstore, ix_lsub, ix_lsw, ix_max, ix_min, ix_new, ix_newa, ix_nret, ix_oinit, ix_pop2L, ix_popI, ix_pushI, ix_pushL, ix_putI, ix_putJ, ix_putR, ix_putZ, ix_sbald, ix_sgetC, ix_sgetV, ix_slen, ix_strc, ix_tald, ix_tsw, ix_vcall, ix_vret, ix_zret, stL, stL2, kilL, popN, fq_sw, fq_lsw, List.map_cons, List.map_nil, List.getElem?_cons_zero, List.getElem?_cons_succ, Option.toList_some, Option.toList_none, List.cons_append, List.nil_append, List.length_cons, List.length_nil, List.sum_cons, List.sum_nil, cat_i, cat_l, cat_r, true_and, and_true, Nat.zero_add, Nat.add_zero, Nat.le_refl, Nat.zero_le, Nat.reduceAdd, Nat.reduceLeDiff, exists_eq_left', Option.some.injEq, not_true_eq_false, not_false_eq_true, false_implies, true_implies, implies_true, and_self, or_true, true_or, or_false, false_or]
    rw [fA1, fN1]
    have hB0 : oneR (u2 I X 9 (nI c)) J (X + 14 + 52 * c) (fun k => I (M + 1) (594 * (c + 1) + k)) (J (M + 2)) (14 * (c + 1)) := hB.mv (fun a x1 x2 _ => u2_ne (by omega)) (fun _ _ _ => rfl) (fun _ _ => rfl) (fun _ _ => rfl)
    have em0 : u2 I X 9 (nI c) (X + 14 + 52 * c + 4) 7 = nI m := by rw [u2_ne (by omega)]; exact em
    have i9 : I1 X 9 = nI c := by rw [hs1.1 X (by omega), u2_same]
    generalize hW : u2 (u2 (up1 (u2 I1 X 10 0) (M + 1) (cpR (I (M + 1)) 0 (594 * (c + 1)) 594)) M 35 (nI c)) M 2 0 = W
    generalize hV : up1 J1 (M + 2) (cpR (J (M + 2)) 0 (14 * (c + 1)) 14) = V
    have wo : ∀ a, a ≠ X → a ≠ M → a ≠ M + 1 → W a = I1 a := fun a x1 x2 x3 => by rw [← hW, u2_ne x2, u2_ne x2, up1_ne x3, u2_ne x1]
    have wA : W (M + 1) = cpR (I (M + 1)) 0 (594 * (c + 1)) 594 := by rw [← hW, u2_ne (by omega), u2_ne (by omega), up1_eq]
    have wX : ∀ k, k ≠ 10 → W X k = I1 X k := fun k x2 => by rw [← hW, u2_ne (by omega), u2_ne (by omega), up1_ne (by omega), u2_ck _ _ _ _ _ _ x2]
    have wM : ∀ k, k ≠ 2 → k ≠ 35 → W M k = I1 M k := fun k x1 x2 => by rw [← hW, u2_ck _ _ _ _ _ _ x1, u2_ck _ _ _ _ _ _ x2, up1_ne (by omega), u2_ne (by omega)]
    have w35 : W M 35 = nI c := by rw [← hW, u2_ck _ _ _ _ _ _ (by omega), u2_same]
    have w10 : W X 10 = W M 2 := by rw [← hW, u2_ne (by omega), u2_ne (by omega), up1_ne (by omega), u2_same, u2_same]
    have vo : ∀ a, a ≠ M + 2 → V a = J1 a := fun a x1 => by rw [← hV, up1_ne x1]
    have vA : V (M + 2) = cpR (J (M + 2)) 0 (14 * (c + 1)) 14 := by rw [← hV, up1_eq]
    clear hW hV
    have i1 : ∀ a, a ≠ X → ¬ (s ≤ a ∧ a < s + 52) → I1 a = I a := fun a x0 x => by rw [hs1.1 a x, u2_ne x0]
    have iX : ∀ k, k ≠ 9 → I1 X k = I X k := fun k x => by rw [hs1.1 X (by omega), u2_ck _ _ _ _ _ _ x]
    have j1 : ∀ a, ¬ (s ≤ a ∧ a < s + 52) → J1 a = J a := fun a x => hs1.2.2.2.2.2.2.2.1 a x
    refine ⟨h0.mm b6 b7 (fun a x1 x2 x3 x4 => by rw [wo a (by omega) (by omega) (by omega), i1 a (by omega) x4]) (fun k x1 x2 => by rw [wX k x2, iX k x1]) (fun k x1 x2 => by rw [wM k x1 x2, i1 M (by omega) (by omega)]) (fun a x1 => by rw [wo a (by omega) (by omega) (by omega), i1 a (by omega) (by omega)]) (fun a x1 x2 x3 => by rw [vo a x3, j1 a x2]) w10 ?_ ⟨c, (wX 9 (by omega)).trans i9, w35, by omega, fun i hi => ?_⟩, by omega⟩
    · have g1 : oneR I1 J1 s (W (M + 1)) (V (M + 2)) 0 := hB0.cp em0 hm6 hs1 (fun k hk => by rw [wA, cpR_z _ _ _ _ (by omega)]) (fun k hk => by rw [vA, Nat.zero_add, cpR_z _ _ _ _ hk])
      exact g1.mv (fun a x1 x2 _ => by rw [wo a (by omega) (by omega) (by omega)]) (fun a x1 x2 => by rw [vo a (by omega)]) (fun _ _ => rfl) (fun _ _ => rfl)
    · exact (hMk i (by omega)).mv (fun a x1 x2 _ => by rw [wo a (by omega) (by omega) (by omega), i1 a (by omega) (by omega)]) (fun a x1 x2 => by rw [vo a (by omega), j1 a (by omega)]) (fun k hk => by
        show W (M + 1) (594 * (i + 1) + k) = _
        rw [wA, cpR_r _ _ _ _ _ (by omega)]) (fun k hk => by rw [vA, cpR_r _ _ _ _ _ (by omega)])
