/-! public methods: land, quarrels, what would be -/
theorem pst_r {I : IH} {s : Nat} {A : Nat → Int32} (h : stR I s A) (hw : wfS A) (a b : Int32) : pst I s a b = rps A a b := by
  obtain ⟨c, hc, ec, ec2⟩ := h.c1
  have s6 : I s 6 = A 1 := h.2.1.2.1
  have s13 : I s 13 = A 8 := h.2.1.2.2.2.2.2.2.2.2.1
  unfold pst rps
  have la := le_p (x := a) (c := c) (by omega)
  have lb := le_p (x := b) (c := c) (by omega)
  simp only [s6, s13, ec, la, lb]
  by_cases g : (0 ≤ a ∧ a < nI c) ∧ (0 ≤ b ∧ b < nI c) ∧ ¬ a = b
  · simp only [if_neg (fun q : ¬ ((0 ≤ a ∧ a < nI c) ∧ (0 ≤ b ∧ b < nI c) ∧ ¬ a = b) => q g)]
    obtain ⟨k, l, rfl, rfl, hk, hl, hkl⟩ := two_c hc g
    rw [nI_clamp (by omega), nI_clamp (by omega), (h.P (p := k) (by omega)).1, (h.P (p := l) (by omega)).1]
    have sn := sh_n hw (p := k) (q := l) (by omega) (by omega)
    by_cases q : nrP (A (30 + 7 * k)) (A (30 + 7 * l)) (A 8)
    · rw [if_neg (fun r => sn.mp r ⟨hkl, q⟩), if_neg (fun r => r q)]
    · rw [if_pos (sn.mpr (fun r => q r.2)), if_pos q]
  · rw [if_pos g, if_pos g]
theorem gst_r {I : IH} {s : Nat} {A : Nat → Int32} (h : stR I s A) (hw : wfS A) (a b t f : Int32) : gst I s a b t f = rgs A a b t f := by
  unfold gst
  rw [pst_r h hw]
  unfold rps rgs
  grind
theorem foldU_cg {α : Type} {f g : Nat → α → α} : ∀ (n i : Nat) (a : α), (∀ j x, i ≤ j → j < i + n → f j x = g j x) → foldU f i n a = foldU g i n a
  | 0, _, _, _ => rfl
  | n + 1, i, a, h => by
    show foldU f (i + 1) n (f i a) = foldU g (i + 1) n (g i a)
    rw [h i a (Nat.le_refl _) (by omega)]
    exact foldU_cg n (i + 1) _ (fun j x h1 h2 => h j x (by omega) (by omega))
theorem mx_most {f F : Nat → Int32} {n : Nat} {x : Int32 × Int32} (h : ∀ i, i < n → f i = F i) : mxU f n x = mostU F n x := by
  unfold mxU mostU
  refine foldU_cg n 0 x (fun j y _ hj => ?_)
  rw [h j (by omega)]
  by_cases g : y.2 < F j
  · rw [if_pos g, if_neg (Int32.not_le.mpr g)]
  · rw [if_neg g, if_pos (Int32.not_lt.mp g)]
theorem mx_rwd {f : Nat → Int32} {A : Nat → Int32} {n : Nat} (h : ∀ i, i < n → f i = A (12 + 3 * i)) (h0 : ∀ i, i < n → 0 ≤ A (12 + 3 * i)) (hn : n ≤ 6) : (mxU f n (-1, -1)).1 = rwd A n (-1) := by
  unfold mxU rwd
  have key : ∀ (k i : Nat) (x : Int32 × Int32) (b : Int32), i + k = n → ((x = (-1, -1) ∧ b = -1) ∨ ∃ j, j < n ∧ x = (nI j, A (12 + 3 * j)) ∧ b = nI j) → (foldU (fun i x => if x.2 < f i then (nI i, f i) else x) i k x).1 = foldU (fun i b => if b = -1 ∨ A (12 + 3 * b.toNatClampNeg) < A (12 + 3 * i) then nI i else b) i k b := by
    intro k
    induction k with
    | zero =>
      intro i x b _ hx
      rcases hx with ⟨rfl, rfl⟩ | ⟨j, -, rfl, rfl⟩ <;> rfl
    | succ k ih =>
      intro i x b hi hx
      show (foldU _ (i + 1) k (if x.2 < f i then (nI i, f i) else x)).1 = foldU _ (i + 1) k (if b = -1 ∨ A (12 + 3 * b.toNatClampNeg) < A (12 + 3 * i) then nI i else b)
      rw [h i (by omega)]
      rcases hx with ⟨rfl, rfl⟩ | ⟨j, hj, rfl, rfl⟩
      · have g : (-1 : Int32) < A (12 + 3 * i) := Int32.lt_of_lt_of_le (by decide) (h0 i (by omega))
        rw [if_pos (show ((-1 : Int32), (-1 : Int32)).2 < _ from g), if_pos (Or.inl rfl)]
        exact ih (i + 1) _ _ (by omega) (Or.inr ⟨i, by omega, rfl, rfl⟩)
      · have n1 : ¬ nI j = -1 := of_eq_false (nI_m1 (by omega))
        rw [nI_clamp (by omega)]
        by_cases g : A (12 + 3 * j) < A (12 + 3 * i)
        · rw [if_pos (show (nI j, A (12 + 3 * j)).2 < _ from g), if_pos (Or.inr g)]
          exact ih (i + 1) _ _ (by omega) (Or.inr ⟨i, by omega, rfl, rfl⟩)
        · rw [if_neg (show ¬ (nI j, A (12 + 3 * j)).2 < _ from g), if_neg (fun q => q.elim n1 g)]
          exact ih (i + 1) _ _ (by omega) (Or.inr ⟨j, hj, rfl, rfl⟩)
  exact key n 0 _ _ (by omega) (Or.inl ⟨rfl, rfl⟩)
set_option maxHeartbeats 4000000 in
set_option maxRecDepth 20000 in
theorem sim_widest {G : GT} {X M : Nat} : SIM G X M sp_X11_widest sp_X12_widest [] := by
  intro S I J z h
  have h0 := h
  obtain ⟨s, p, hc, hm, hX, hz, hr⟩ := h
  have hc0 := hc
  have hr0 := hr
  obtain ⟨ct, cr, ⟨b1, b2, b3, b4, b5, b6, b7⟩, cl, cm, hs, hp, csp⟩ := hc
  have k0 := ct.1
  obtain ⟨rA, rT, rP, ⟨rS, rq⟩, rM, rL⟩ := hr
  have rS0 := rS
  obtain ⟨hst, hnm, hyr, hbq, hwf, hwz⟩ := rS
  obtain ⟨s5, s6, s7, s9, s10, s11, s12, s16, s13, s14, s15⟩ := hst.2.1
  have fA : ∀ v, u2 I X 10 v (M + 1) = I (M + 1) := fun v => u2_ne (by omega)
  have fM : ∀ v, u2 I X 10 v M = I M := fun v => u2_ne (by omega)
  have fin : ∀ v, relR X M S (u2 (u2 I X 10 v) M 2 v) J z ∧ z ≤ z + 2 := fun v => ⟨h0.st v, by omega⟩
  have e : (mxU (fun i => I (s + 18 + i) 2) (I (M + 1) 0).toNatClampNeg (-1, -1)).1 = rwd (I (M + 1)) (I (M + 1) 0).toNatClampNeg (-1) := mx_rwd (fun i hi => (hst.H hi).1) (fun i hi => by
    obtain ⟨x, hx, ex, -⟩ := (hwf.2.2.2.2.2.2.2.2.2.1 i hi).1.ex
    rw [ex]
    exact (nI_leI (a := 0) (by omega) (by omega)).mpr (Nat.zero_le _)) hst.1.1.2
  refine ⟨s, ⟨k0, b6, hs⟩, by rw [s5]; exact hst.1.1, ?_⟩
  rw [s5, e]
  refine ⟨hm, by rw [fA]; exact hst.1.1, fun v hv => ?_⟩
  rw [fA] at hv
  subst hv
  exact ⟨rfl, fin _⟩
set_option maxHeartbeats 4000000 in
set_option maxRecDepth 20000 in
theorem sim_loser {G : GT} {X M : Nat} : SIM G X M sp_X11_loser sp_X12_loser [] := by
  intro S I J z h
  have h0 := h
  obtain ⟨s, p, hc, hm, hX, hz, hr⟩ := h
  have hc0 := hc
  have hr0 := hr
  obtain ⟨ct, cr, ⟨b1, b2, b3, b4, b5, b6, b7⟩, cl, cm, hs, hp, csp⟩ := hc
  have k0 := ct.1
  obtain ⟨rA, rT, rP, ⟨rS, rq⟩, rM, rL⟩ := hr
  have rS0 := rS
  obtain ⟨hst, hnm, hyr, hbq, hwf, hwz⟩ := rS
  obtain ⟨s5, s6, s7, s9, s10, s11, s12, s16, s13, s14, s15⟩ := hst.2.1
  have fA : ∀ v, u2 I X 10 v (M + 1) = I (M + 1) := fun v => u2_ne (by omega)
  have fM : ∀ v, u2 I X 10 v M = I M := fun v => u2_ne (by omega)
  have fin : ∀ v, relR X M S (u2 (u2 I X 10 v) M 2 v) J z ∧ z ≤ z + 2 := fun v => ⟨h0.st v, by omega⟩
  have o5 := hst.1.1
  have e : mxU (fun i => I (s + 18 + i) 3) (I (M + 1) 0).toNatClampNeg (-1, 0) = mostU (fun i => I (M + 1) (14 + 3 * i)) (I (M + 1) 0).toNatClampNeg (-1, 0) := mx_most (fun i hi => by rw [(hst.H hi).2.2, show 12 + 3 * i + 2 = 14 + 3 * i by omega])
  refine ⟨s, ⟨k0, b6, hs⟩, by rw [s5]; exact hst.1.1, ?_⟩
  rw [s5, e]
  simp (disch := omega) only [sp_X12_loser, B_X12_loser_0, sp_X12_mostOf, sp_X12_orNone, B_X12_orNone_0, B_X12_orNone_19, sp_X12_refuse, B_X12_refuse_0, sp_X12_gives, B_X12_gives_0, fA, fM, hm, hm.k, hm.k1, hm.n1, hm.r1, hm.k2, hm.n2, hm.r2, hm.k3, hm.n3, hm.r3, hm.k4, hm.n4, hm.r4, hm.k5, hm.n5, hm.r5, hm.k6, hm.n6, hm.r6, hm.k7, hm.n7, hm.r7, hm.k8, hm.n8, hm.r8, hm.k9, hm.n9, hm.r9, hm.k10, hm.n10, hm.r10, hm.k11, hm.n11, hm.r11, hm.k12, hm.n12, hm.r12, hm.k13, hm.n13, hm.r13, hm.k14, hm.n14, hm.r14, li_2, li_3, li_4, li_5, li_6, li_7, li_8, li_9, li_10, li_11, li_12, li_13, li_14, li_15, li_16, li_17, li_18, li_19, li_20, li_21, li_22, li_23, li_24, li_25, li_26, li_27, li_28, li_29, li_30, li_32, li_33, li_34, li_35, li_36, li_37, li_38, li_39, li_40, li_41, li_42, li_43, li_44, li_45, li_46, li_47, li_48, li_49, li_50, li_51, li_52, li_53, li_54, li_55, li_56, li_57, li_58, li_59, li_60, li_61, li_62, li_63, li_64, li_65, li_66, li_67, li_68, li_69, li_70, li_71, li_72, li_73, li_74, li_75, li_76, li_77, li_78, li_79, li_80, li_81, li_82, li_83, li_84, li_85, li_86, li_87, li_88, li_89, li_90, li_91, li_92, li_93, li_94, li_95, li_96, li_97, li_98, li_99, li_100, li_101, li_102, li_103, li_104, li_105, li_106, li_107, li_108, li_109, li_110, li_111, li_112, li_113, li_114, li_115, li_116, li_117, li_118, li_119, li_120, li_121, li_122, li_123, li_124, li_125, li_126, li_127, li_128, li_129, li_130, li_131, li_226, li_240, li_255, li_300, li_586, li_594, li_900, li_999, li_1000, li_1800, li_2376, li_2388, li_2406, li_2602, li_2970, li_3067, li_3564, li_9999, li_10000, li_11287, li_65536, li_100000, li_1000000, nI_mul, tn0, tn1, vin0, vin1, Int32.add_zero, Int32.or_zero, Int32.mul_one, Int32.mul_zero, Int32.zero_add, Nat.reduceEqDiff, Nat.reduceMul, Nat.reduceSub, nI_1, nI_add, nI_clamp, nI_pin, nI_neg, nI_nonneg, nI_leE, nI_ltE, nI_eqE, Nat.not_le, Nat.not_lt, fq_10, fq_01, fq_rr, ix_aald, ix_aast, ix_abs, ix_alen, ix_aload, ix_aret, ix_astore, ix_bald, ix_bast, ix_call, ix_cpyI, ix_cpyJ, ix_dead, ix_dup2, ix_dup2L, ix_dupI, ix_dupR, ix_dupx1, ix_getI, ix_getJ, ix_getR, ix_gfm, ix_gtab, ix_i2b, ix_i2c, ix_i2l, ix_i2s, ix_iadd, ix_iald, ix_iand, ix_iast, ix_icall, ix_icmp_eq, ix_icmp_ge, ix_icmp_gt, ix_icmp_le, ix_icmp_lt, ix_icmp_ne, ix_idiv, ix_if_eq, ix_if_ge, ix_if_gt, ix_if_le, ix_if_lt, ix_if_ne, ix_iinc, ix_iload, ix_imul, ix_ineg, ix_ior, ix_irem, ix_iret, ix_ishl, ix_ishr, ix_istore, ix_isub, ix_iushr, ix_ixor, ix_l2i, ix_ladd, ix_lald, ix_land, ix_last, ix_lcmp, ix_ldcS, ix_ldiv, ix_lload, ix_lmul, ix_lor, ix_lrem, ix_lret, ix_lshl, ix_lstore, ix_lsub, ix_lsw, ix_max, ix_min, ix_new, ix_newa, ix_nret, ix_oinit, ix_pop2L, ix_popI, ix_pushI, ix_pushL, ix_putI, ix_putJ, ix_putR, ix_putZ, ix_sbald, ix_sgetC, ix_sgetV, ix_slen, ix_strc, ix_tald, ix_tsw, ix_vcall, ix_vret, ix_zret, stL, stL2, kilL, popN, fq_sw, fq_lsw, List.map_cons, List.map_nil, List.getElem?_cons_zero, List.getElem?_cons_succ, Option.toList_some, Option.toList_none, List.cons_append, List.nil_append, List.length_cons, List.length_nil, List.sum_cons, List.sum_nil, cat_i, cat_l, cat_r, true_and, and_true, Nat.zero_add, Nat.add_zero, Nat.le_refl, Nat.zero_le, Nat.reduceAdd, Nat.reduceLeDiff, exists_eq_left', Option.some.injEq, not_true_eq_false, not_false_eq_true, false_implies, true_implies, implies_true, and_self, or_true, true_or, or_false, false_or]
  exact ⟨⟨o5.1, by have := o5.2; omega⟩, fun g => by rw [if_neg g]; exact fin 0, fun g => ⟨by rw [g], by rw [if_pos g]; exact fin 6⟩⟩
set_option maxHeartbeats 4000000 in
set_option maxRecDepth 20000 in
theorem sim_loudest {G : GT} {X M : Nat} : SIM G X M sp_X11_loudest sp_X12_loudest [] := by
  intro S I J z h
  have h0 := h
  obtain ⟨s, p, hc, hm, hX, hz, hr⟩ := h
  have hc0 := hc
  have hr0 := hr
  obtain ⟨ct, cr, ⟨b1, b2, b3, b4, b5, b6, b7⟩, cl, cm, hs, hp, csp⟩ := hc
  have k0 := ct.1
  obtain ⟨rA, rT, rP, ⟨rS, rq⟩, rM, rL⟩ := hr
  have rS0 := rS
  obtain ⟨hst, hnm, hyr, hbq, hwf, hwz⟩ := rS
  obtain ⟨s5, s6, s7, s9, s10, s11, s12, s16, s13, s14, s15⟩ := hst.2.1
  have fA : ∀ v, u2 I X 10 v (M + 1) = I (M + 1) := fun v => u2_ne (by omega)
  have fM : ∀ v, u2 I X 10 v M = I M := fun v => u2_ne (by omega)
  have fin : ∀ v, relR X M S (u2 (u2 I X 10 v) M 2 v) J z ∧ z ≤ z + 2 := fun v => ⟨h0.st v, by omega⟩
  have o5 := hst.1.2.1
  have e : mxU (fun i => I (s + 24 + i) 7) (I (M + 1) 1).toNatClampNeg (-1, 0) = mostU (fun i => I (M + 1) (36 + 7 * i)) (I (M + 1) 1).toNatClampNeg (-1, 0) := mx_most (fun i hi => by rw [(hst.P hi).2.2.2.2.2.2, show 30 + 7 * i + 6 = 36 + 7 * i by omega])
  refine ⟨s, ⟨k0, b6, hs⟩, by rw [s6]; exact hst.1.2.1, ?_⟩
  rw [s6, e]
  simp (disch := omega) only [sp_X12_loudest, B_X12_loudest_0, sp_X12_mostOf, sp_X12_orNone, B_X12_orNone_0, B_X12_orNone_19, sp_X12_refuse, B_X12_refuse_0, sp_X12_gives, B_X12_gives_0, fA, fM, hm, hm.k, hm.k1, hm.n1, hm.r1, hm.k2, hm.n2, hm.r2, hm.k3, hm.n3, hm.r3, hm.k4, hm.n4, hm.r4, hm.k5, hm.n5, hm.r5, hm.k6, hm.n6, hm.r6, hm.k7, hm.n7, hm.r7, hm.k8, hm.n8, hm.r8, hm.k9, hm.n9, hm.r9, hm.k10, hm.n10, hm.r10, hm.k11, hm.n11, hm.r11, hm.k12, hm.n12, hm.r12, hm.k13, hm.n13, hm.r13, hm.k14, hm.n14, hm.r14, li_2, li_3, li_4, li_5, li_6, li_7, li_8, li_9, li_10, li_11, li_12, li_13, li_14, li_15, li_16, li_17, li_18, li_19, li_20, li_21, li_22, li_23, li_24, li_25, li_26, li_27, li_28, li_29, li_30, li_32, li_33, li_34, li_35, li_36, li_37, li_38, li_39, li_40, li_41, li_42, li_43, li_44, li_45, li_46, li_47, li_48, li_49, li_50, li_51, li_52, li_53, li_54, li_55, li_56, li_57, li_58, li_59, li_60, li_61, li_62, li_63, li_64, li_65, li_66, li_67, li_68, li_69, li_70, li_71, li_72, li_73, li_74, li_75, li_76, li_77, li_78, li_79, li_80, li_81, li_82, li_83, li_84, li_85, li_86, li_87, li_88, li_89, li_90, li_91, li_92, li_93, li_94, li_95, li_96, li_97, li_98, li_99, li_100, li_101, li_102, li_103, li_104, li_105, li_106, li_107, li_108, li_109, li_110, li_111, li_112, li_113, li_114, li_115, li_116, li_117, li_118, li_119, li_120, li_121, li_122, li_123, li_124, li_125, li_126, li_127, li_128, li_129, li_130, li_131, li_226, li_240, li_255, li_300, li_586, li_594, li_900, li_999, li_1000, li_1800, li_2376, li_2388, li_2406, li_2602, li_2970, li_3067, li_3564, li_9999, li_10000, li_11287, li_65536, li_100000, li_1000000, nI_mul, tn0, tn1, vin0, vin1, Int32.add_zero, Int32.or_zero, Int32.mul_one, Int32.mul_zero, Int32.zero_add, Nat.reduceEqDiff, Nat.reduceMul, Nat.reduceSub, nI_1, nI_add, nI_clamp, nI_pin, nI_neg, nI_nonneg, nI_leE, nI_ltE, nI_eqE, Nat.not_le, Nat.not_lt, fq_10, fq_01, fq_rr, ix_aald, ix_aast, ix_abs, ix_alen, ix_aload, ix_aret, ix_astore, ix_bald, ix_bast, ix_call, ix_cpyI, ix_cpyJ, ix_dead, ix_dup2, ix_dup2L, ix_dupI, ix_dupR, ix_dupx1, ix_getI, ix_getJ, ix_getR, ix_gfm, ix_gtab, ix_i2b, ix_i2c, ix_i2l, ix_i2s, ix_iadd, ix_iald, ix_iand, ix_iast, ix_icall, ix_icmp_eq, ix_icmp_ge, ix_icmp_gt, ix_icmp_le, ix_icmp_lt, ix_icmp_ne, ix_idiv, ix_if_eq, ix_if_ge, ix_if_gt, ix_if_le, ix_if_lt, ix_if_ne, ix_iinc, ix_iload, ix_imul, ix_ineg, ix_ior, ix_irem, ix_iret, ix_ishl, ix_ishr, ix_istore, ix_isub, ix_iushr, ix_ixor, ix_l2i, ix_ladd, ix_lald, ix_land, ix_last, ix_lcmp, ix_ldcS, ix_ldiv, ix_lload, ix_lmul, ix_lor, ix_lrem, ix_lret, ix_lshl, ix_lstore, ix_lsub, ix_lsw, ix_max, ix_min, ix_new, ix_newa, ix_nret, ix_oinit, ix_pop2L, ix_popI, ix_pushI, ix_pushL, ix_putI, ix_putJ, ix_putR, ix_putZ, ix_sbald, ix_sgetC, ix_sgetV, ix_slen, ix_strc, ix_tald, ix_tsw, ix_vcall, ix_vret, ix_zret, stL, stL2, kilL, popN, fq_sw, fq_lsw, List.map_cons, List.map_nil, List.getElem?_cons_zero, List.getElem?_cons_succ, Option.toList_some, Option.toList_none, List.cons_append, List.nil_append, List.length_cons, List.length_nil, List.sum_cons, List.sum_nil, cat_i, cat_l, cat_r, true_and, and_true, Nat.zero_add, Nat.add_zero, Nat.le_refl, Nat.zero_le, Nat.reduceAdd, Nat.reduceLeDiff, exists_eq_left', Option.some.injEq, not_true_eq_false, not_false_eq_true, false_implies, true_implies, implies_true, and_self, or_true, true_or, or_false, false_or]
  exact ⟨o5, fun g => by rw [if_neg g]; exact fin 0, fun g => ⟨by rw [g], by rw [if_pos g]; exact fin 6⟩⟩
theorem bgN_r {I : IH} {A : Nat → Int32} {s q : Nat} {w : Int32} : ∀ n, (∀ k, k < n → I (s + 32 + qix q k) 1 = A (86 + 7 * k + 1) ∧ I (s + 32 + qix q k) 2 = A (86 + 7 * k + 2)) → bgN I s q w n = rbg A w n
  | 0, _ => rfl
  | n + 1, h => by
    unfold bgN rbg
    rw [(h n (by omega)).1, (h n (by omega)).2, bgN_r n (fun k hk => h k (by omega))]
theorem wl_e {w : Int32} {c : Nat} (hc : c ≤ 6) : wlI w c = (0 ≤ w ∧ w < nI c - 1) := by
  unfold wlI
  rw [le_p (by omega), wl_r hc]
set_option maxHeartbeats 4000000 in
set_option maxRecDepth 20000 in
theorem sim_began {G : GT} {X M : Nat} (w : Int32) : SIM G X M sp_X11_began sp_X12_began [.int w] := by
  intro S I J z h
  have h0 := h
  obtain ⟨s, p, hc, hm, hX, hz, hr⟩ := h
  have hc0 := hc
  have hr0 := hr
  obtain ⟨ct, cr, ⟨b1, b2, b3, b4, b5, b6, b7⟩, cl, cm, hs, hp, csp⟩ := hc
  have k0 := ct.1
  obtain ⟨rA, rT, rP, ⟨rS, rq⟩, rM, rL⟩ := hr
  have rS0 := rS
  obtain ⟨hst, hnm, hyr, hbq, hwf, hwz⟩ := rS
  obtain ⟨s5, s6, s7, s9, s10, s11, s12, s16, s13, s14, s15⟩ := hst.2.1
  have fA : ∀ v, u2 I X 10 v (M + 1) = I (M + 1) := fun v => u2_ne (by omega)
  have fM : ∀ v, u2 I X 10 v M = I M := fun v => u2_ne (by omega)
  have fin : ∀ v, relR X M S (u2 (u2 I X 10 v) M 2 v) J z ∧ z ≤ z + 2 := fun v => ⟨h0.st v, by omega⟩
  obtain ⟨c, hc6, ec, ec2⟩ := hst.c0
  obtain ⟨c2, hc2, e2, e22⟩ := hst.c2
  obtain ⟨q, hq20, s8, hk'⟩ := hst.2.2.2.2
  have q8 : (I s 8).toNatClampNeg = q := by rw [s8, nI_clamp (by omega)]
  have e := bgN_r (I := I) (A := I (M + 1)) (s := s) (q := q) (w := w) (I (M + 1) 2).toNatClampNeg (fun k hk => ⟨hk' k hk 1 (by omega), hk' k hk 2 (by omega)⟩)
  have wle := wl_e (w := w) hc6
  refine ⟨s, ⟨k0, b6, hs⟩, by rw [s5]; exact hst.1.1, by rw [s7]; exact hst.1.2.2, by rw [s8]; exact okN.nI (by omega) (by omega), fun g => ?_, fun g => ?_⟩
  · rw [s5, ec2, wle, ← ec] at g
    exact ⟨hm, by rw [fA]; exact hst.1.2.2, fun _ => ⟨rfl, fin 1⟩, fun r => absurd (by rw [fA] at r; exact r) g⟩
  · rw [s5, ec2, wle, ← ec] at g
    rw [q8, s7, e]
    refine ⟨hm, by rw [fA]; exact hst.1.2.2, fun r => absurd g (by rw [fA] at r; exact r), fun _ => ?_⟩
    rw [fA]
    exact ⟨rfl, fin _⟩
set_option maxHeartbeats 4000000 in
set_option maxRecDepth 20000 in
theorem sim_quarrelsAt {G : GT} {X M : Nat} (w : Int32) : SIM G X M sp_X11_quarrelsAt sp_X12_quarrelsAt [.int w] := by
  intro S I J z h
  have h0 := h
  obtain ⟨s, p, hc, hm, hX, hz, hr⟩ := h
  have hc0 := hc
  have hr0 := hr
  obtain ⟨ct, cr, ⟨b1, b2, b3, b4, b5, b6, b7⟩, cl, cm, hs, hp, csp⟩ := hc
  have k0 := ct.1
  obtain ⟨rA, rT, rP, ⟨rS, rq⟩, rM, rL⟩ := hr
  have rS0 := rS
  obtain ⟨hst, hnm, hyr, hbq, hwf, hwz⟩ := rS
  obtain ⟨s5, s6, s7, s9, s10, s11, s12, s16, s13, s14, s15⟩ := hst.2.1
  have fA : ∀ v, u2 I X 10 v (M + 1) = I (M + 1) := fun v => u2_ne (by omega)
  have fM : ∀ v, u2 I X 10 v M = I M := fun v => u2_ne (by omega)
  have fin : ∀ v, relR X M S (u2 (u2 I X 10 v) M 2 v) J z ∧ z ≤ z + 2 := fun v => ⟨h0.st v, by omega⟩
  obtain ⟨c, hc6, ec, ec2⟩ := hst.c0
  obtain ⟨c2, hc2, e2, e22⟩ := hst.c2
  obtain ⟨q, hq20, s8, hk'⟩ := hst.2.2.2.2
  have q8 : (I s 8).toNatClampNeg = q := by rw [s8, nI_clamp (by omega)]
  have e : qnU I s q w 0 (I (M + 1) 2).toNatClampNeg 0 = rqn (I (M + 1)) w (I (M + 1) 2).toNatClampNeg 0 := by
    unfold qnU rqn
    refine foldU_cg _ _ _ (fun j x _ hj => ?_)
    rw [hk' j (by omega) 1 (by omega)]
  have wle := wl_e (w := w) hc6
  refine ⟨s, ⟨k0, b6, hs⟩, by rw [s5]; exact hst.1.1, by rw [s7]; exact hst.1.2.2, by rw [s8]; exact okN.nI (by omega) (by omega), fun g => ?_, fun g => ?_⟩
  · rw [s5, ec2, wle, ← ec] at g
    exact ⟨hm, by rw [fA]; exact hst.1.2.2, fun _ => ⟨rfl, fin 1⟩, fun r => absurd (by rw [fA] at r; exact r) g⟩
  · rw [s5, ec2, wle, ← ec] at g
    rw [q8, s7, e]
    refine ⟨hm, by rw [fA]; exact hst.1.2.2, fun r => absurd g (by rw [fA] at r; exact r), fun _ => ?_⟩
    rw [fA]
    exact ⟨rfl, fin _⟩
theorem tsc.g {M : Nat} {I I' : IH} (h : tsc M I I') : tsg M I I' := ⟨fun a h1 h2 _ _ => h.1 a h1 h2, fun k h1 _ => h.2.1 k h1, h.2.2⟩
/-- tried on both sides -/
theorem relR.try {X M s : Nat} {S : Sh} {I I1 I2 : IH} {J J1 : JH} {z : Nat} (h : relR X M S I J z) (b6 : S.2.2 X 6 = some s) (v : Int32) (h1 : scr s I I1 J J1) (h2 : tsg M (u2 I1 X 10 v) I2) : relR X M S (u2 I2 M 2 v) J1 z := by
  obtain ⟨s', p, hc, hm, hX, hz, hr⟩ := h
  have e : s' = s := Option.some.inj (hc.2.2.1.2.2.2.2.2.1.symm.trans b6)
  subst e
  have hsp := hc.2.2.2.2.2.2.2
  refine ⟨s', p, hc, hm, hX, hz, hr.q hX hsp ⟨fun a x1 x2 x3 x4 x5 x6 => ?_, fun k x1 => ?_, fun k x1 => ?_, fun k x1 => ?_, fun a x1 x2 => ?_⟩ ?_⟩
  · rw [u2_ne x2, h2.1 a x2 x3 (by omega) (by omega), u2_ne x1]
    funext k
    exact h1.1 a k x4
  · rw [u2_ne (by omega), h2.1 X (by omega) (by omega) (by omega) (by omega), u2_ck _ _ _ _ _ _ x1]
    exact h1.1 X k (by omega)
  · rw [u2_ck _ _ _ _ _ _ (by omega), h2.2.1 k (by omega) (by omega), u2_ne (by omega)]
    exact h1.1 M k (by omega)
  · rw [u2_ne (by omega), h2.2.2 k x1, u2_ne (by omega)]
    exact h1.1 _ k (by omega)
  · funext k
    exact h1.2 a k x1
  · rw [u2_ne (by omega), u2_same, h2.1 X (by omega) (by omega) (by omega) (by omega), u2_same]
theorem rps_0 {A : Nat → Int32} (hw : wfS A) {a b : Int32} (h : rps A a b = 0) : ∃ k l x y, a = nI k ∧ b = nI l ∧ nbR A k l x y ∧ nrP (A (30 + 7 * k)) (A (30 + 7 * l)) (A 8) ∧ k < 8 ∧ l < 8 ∧ x < 6 ∧ y < 6 := by
  unfold rps at h
  obtain ⟨c, hc, ec, ec2⟩ := hw.2.1.ex
  split at h
  · exact absurd h (by decide)
  · next g =>
    have g := Decidable.not_not.mp g
    rw [ec] at g
    obtain ⟨k, l, rfl, rfl, hk, hl, hkl⟩ := two_c hc g
    rw [nI_clamp (by omega), nI_clamp (by omega)] at h
    split at h
    · exact absurd h (by decide)
    · next q =>
      have q := Decidable.not_not.mp q
      obtain ⟨x, y, hn⟩ := nb_of hw (by omega) (by omega) hkl q
      exact ⟨k, l, x, y, rfl, rfl, hn, q, by omega, by omega, by have := hn.2.2.2.2.2.1; have := hw.1.2; omega, by have := hn.2.2.2.2.2.2.1; have := hw.1.2; omega⟩
/-- who asks of two: what is wrong -/
theorem rps_w {A : Nat → Int32} (hw : wfS A) (a b : Int32) : (rps A a b = 1 ∧ ¬ ((0 ≤ a ∧ a < A 1) ∧ (0 ≤ b ∧ b < A 1) ∧ ¬ a = b)) ∨ (rps A a b = 7 ∧ ∃ k l, a = nI k ∧ b = nI l ∧ k < 8 ∧ l < 8 ∧ k < (A 1).toNatClampNeg ∧ l < (A 1).toNatClampNeg ∧ ¬ k = l ∧ ¬ nrP (A (30 + 7 * k)) (A (30 + 7 * l)) (A 8)) ∨ rps A a b = 0 := by
  obtain ⟨c, hc, ec, ec2⟩ := hw.2.1.ex
  unfold rps
  by_cases g : (0 ≤ a ∧ a < A 1) ∧ (0 ≤ b ∧ b < A 1) ∧ ¬ a = b
  · rw [if_neg (fun q => q g)]
    rw [ec] at g
    obtain ⟨k, l, rfl, rfl, hk, hl, hkl⟩ := two_c hc g
    rw [nI_clamp (by omega), nI_clamp (by omega)]
    by_cases q : nrP (A (30 + 7 * k)) (A (30 + 7 * l)) (A 8)
    · rw [if_neg (fun r => r q)]
      exact Or.inr (Or.inr rfl)
    · rw [if_pos q]
      exact Or.inr (Or.inl ⟨rfl, k, l, rfl, rfl, by omega, by omega, by omega, by omega, hkl, q⟩)
  · rw [if_pos g]
    exact Or.inl ⟨rfl, g⟩
theorem nb_hm {A : Nat → Int32} {k l x y : Nat} (hc : (A 0).toNatClampNeg ≤ 6) (h : nbR A k l x y) : ¬ A (30 + 7 * k) = A (30 + 7 * l) := by
  rw [h.2.2.2.1, h.2.2.2.2.1]
  intro q
  have h1 := h.2.2.2.2.2.1
  have h2 := h.2.2.2.2.2.2.1
  have := (nI_eqE (a := x) (b := y) (by omega) (by omega)).mp q
  have := h.2.2.2.2.2.2.2
  omega
theorem nb_rq {A : Nat → Int32} {k l x y : Nat} (hc : (A 0).toNatClampNeg ≤ 6) (h : nbR A k l x y) : rq2 A k l = rqr A k l x y := by
  have h1 := h.2.2.2.2.2.1
  have h2 := h.2.2.2.2.2.2.1
  unfold rq2
  rw [h.2.2.2.1, h.2.2.2.2.1, nI_clamp (by omega), nI_clamp (by omega)]
set_option maxHeartbeats 4000000 in
set_option maxRecDepth 20000 in
theorem sim_shoutsBy {G : GT} {X M : Nat} (a b : Int32) : SIM G X M sp_X11_shoutsBy sp_X12_shoutsBy [.int a, .int b] := by
  intro S I J z h
  have h0 := h
  obtain ⟨s, p, hc, hm, hX, hz, hr⟩ := h
  have hc0 := hc
  have hr0 := hr
  obtain ⟨ct, cr, ⟨b1, b2, b3, b4, b5, b6, b7⟩, cl, cm, hs, hp, csp⟩ := hc
  have k0 := ct.1
  obtain ⟨rA, rT, rP, ⟨rS, rq⟩, rM, rL⟩ := hr
  have rS0 := rS
  obtain ⟨hst, hnm, hyr, hbq, hwf, hwz⟩ := rS
  obtain ⟨s5, s6, s7, s9, s10, s11, s12, s16, s13, s14, s15⟩ := hst.2.1
  have fA : ∀ v, u2 I X 10 v (M + 1) = I (M + 1) := fun v => u2_ne (by omega)
  have fM : ∀ v, u2 I X 10 v M = I M := fun v => u2_ne (by omega)
  have fin : ∀ v, relR X M S (u2 (u2 I X 10 v) M 2 v) J z ∧ z ≤ z + 2 := fun v => ⟨h0.st v, by omega⟩
  have o6 := hst.1.2.1
  have o0 := hst.1.1.2
  have pe := pst_r hst hwf a b
  have hxs : xsh S X s := ⟨k0, b6, hs⟩
  have x : ∀ K : Post, (∀ k l x y, a = nI k → b = nI l → nbR (I (M + 1)) k l x y → nrP (I (M + 1) (30 + 7 * k)) (I (M + 1) (30 + 7 * l)) (I (M + 1) 8) → k < 8 → l < 8 → ∀ I' J', scr s I I' J J' → K (some (.int (nI (rqr (I (M + 1)) k l x y).1))) S (u2 I' X 10 0) J' z) → (¬ rps (I (M + 1)) a b = 0 → K (some (.int (-1))) S (u2 I X 10 (rps (I (M + 1)) a b)) J z) → sp_X11_shoutsBy G [.ref X, .int a, .int b] S I J z K := by
    intro K h1 h2
    simp (disch := omega) only [sp_X11_shoutsBy, B_X11_shoutsBy_0, sp_X11_pairStatus, sp_X11_refuse, B_X11_refuse_0, sp_X6_tryOut, sp_X5_speak, sp_X11_answer, B_X11_answer_0, k0, b6, hs, hs.k, hs.r0, hs.k1, hs.r1, hs.k2, hs.r2, hs.k3, hs.r3, hs.k4, hs.r4, hs.k12, hs.n1, hs.n2, hs.n3, hs.y0, hs.k5, hs.n5, hs.y1, hs.k6, hs.n6, hs.y2, hs.k7, hs.n7, hs.y3, hs.k8, hs.n8, hs.y4, hs.k9, hs.n9, hs.y5, hs.k10, hs.n10, hs.y6, hs.k11, hs.n11, hs.p0, hs.p1, hs.p2, hs.k13, hs.n13, hs.q0, hs.q1, hs.k14, hs.k15, hs.k16, hs.n16, hs.k17, hs.n17, hs.rH, hs.kH, hs.rP, hs.kP, hs.rQ, hs.kQ, nI_1, nI_add, nI_clamp, nI_pin, nI_neg, nI_nonneg, nI_leE, nI_ltE, nI_eqE, Nat.not_le, Nat.not_lt, fq_10, fq_01, fq_rr, ix_aald, ix_aast, ix_abs, ix_alen, ix_aload, ix_aret, ix_astore, ix_bald, ix_bast, ix_call, ix_cpyI, ix_cpyJ, ix_dead, ix_dup2, ix_dup2L, ix_dupI, ix_dupR, ix_dupx1, ix_getI, ix_getJ, ix_getR, ix_gfm, ix_gtab, ix_i2b, ix_i2c, ix_i2l, ix_i2s, ix_iadd, ix_iald, ix_iand, ix_iast, ix_icall, ix_icmp_eq, ix_icmp_ge, ix_icmp_gt, ix_icmp_le, ix_icmp_lt, ix_icmp_ne, ix_idiv, ix_if_eq, ix_if_ge, ix_if_gt, ix_if_le, ix_if_lt, ix_if_ne, ix_iinc, ix_iload, ix_imul, ix_ineg, ix_ior, ix_irem, ix_iret, ix_ishl, ix_ishr, ix_istore, ix_isub, ix_iushr, ix_ixor, ix_l2i, ix_ladd, ix_lald, ix_land, ix_last, ix_lcmp, ix_ldcS, ix_ldiv, ix_lload, ix_lmul, ix_lor, ix_lrem, ix_lret, ix_lshl, ix_lstore, ix_lsub, ix_lsw, ix_max, ix_min, ix_new, ix_newa, ix_nret, ix_oinit, ix_pop2L, ix_popI, ix_pushI, ix_pushL, ix_putI, ix_putJ, ix_putR, ix_putZ, ix_sbald, ix_sgetC, ix_sgetV, ix_slen, ix_strc, ix_tald, ix_tsw, ix_vcall, ix_vret, ix_zret, stL, stL2, kilL, popN, fq_sw, fq_lsw, List.map_cons, List.map_nil, List.getElem?_cons_zero, List.getElem?_cons_succ, Option.toList_some, Option.toList_none, List.cons_append, List.nil_append, List.length_cons, List.length_nil, List.sum_cons, List.sum_nil, cat_i, cat_l, cat_r, true_and, and_true, Nat.zero_add, Nat.add_zero, Nat.le_refl, Nat.zero_le, Nat.reduceAdd, Nat.reduceLeDiff, exists_eq_left', Option.some.injEq, not_true_eq_false, not_false_eq_true, false_implies, true_implies, implies_true, and_self, or_true, true_or, or_false, false_or]
    refine ⟨s, hxs, by rw [s6]; exact o6, ?_⟩
    rw [pe]
    refine ⟨fun g => ?_, h2⟩
    obtain ⟨k, l, x, y, rfl, rfl, hn, hr, hk, hl, hx, hy⟩ := rps_0 hwf g
    rw [nI_clamp (by omega), nI_clamp (by omega), (hst.P hn.1).1, (hst.P hn.2.1).1, hn.2.2.2.1, hn.2.2.2.2.1, s16]
    refine ⟨vin_of hk (by omega), vin_of hl (by omega), vin_of hx (by omega), vin_of hy (by omega), hwf.2.2.2.2.2.2.2.1, s, rfl, hs, ?_⟩
    rw [qrl_eq, qrl_rq hst hn]
    exact h1 k l x y rfl rfl hn hr hk hl _ _ ((tro_scr I J s k l).tr (wbT_scr _ _ s _))
  refine x _ (fun k l x y ea eb hn hr hk hl I1 J1 hs1 => ?_) (fun g => ?_)
  · subst ea eb
    have eA : ∀ j, u2 I1 X 10 0 (M + 1) j = I (M + 1) j := fun j => by rw [u2_ne (by omega)]; exact hs1.1 _ j (by omega)
    have fA1 : u2 I1 X 10 0 (M + 1) = I (M + 1) := funext eA
    have c1 := hn.1
    have c2 := hn.2.1
    have hkl := hn.2.2.1
    obtain ⟨c, hc8, ec, ec2⟩ := hst.c1
    simp (disch := omega) only [sp_X12_shoutsBy, B_X12_shoutsBy_0, B_X12_shoutsBy_45, sp_X12_areTwo, sp_X12_refuse, B_X12_refuse_0, sp_X12_areNear, sp_X12_triesSaying, sp_X12_gives, B_X12_gives_0, fA1, ec, hm, hm.k, hm.k1, hm.n1, hm.r1, hm.k2, hm.n2, hm.r2, hm.k3, hm.n3, hm.r3, hm.k4, hm.n4, hm.r4, hm.k5, hm.n5, hm.r5, hm.k6, hm.n6, hm.r6, hm.k7, hm.n7, hm.r7, hm.k8, hm.n8, hm.r8, hm.k9, hm.n9, hm.r9, hm.k10, hm.n10, hm.r10, hm.k11, hm.n11, hm.r11, hm.k12, hm.n12, hm.r12, hm.k13, hm.n13, hm.r13, hm.k14, hm.n14, hm.r14, bI_01, bI_01b, bI_0, nI_1, nI_add, nI_clamp, nI_pin, nI_neg, nI_nonneg, nI_leE, nI_ltE, nI_eqE, Nat.not_le, Nat.not_lt, fq_10, fq_01, fq_rr, ix_aald, ix_aast, ix_abs, ix_alen, ix_aload, ix_aret, ix_astore, ix_bald, ix_bast, ix_call, ix_cpyI, ix_cpyJ, ix_dead, ix_dup2, ix_dup2L, ix_dupI, ix_dupR, ix_dupx1, ix_getI, ix_getJ, ix_getR, ix_gfm, ix_gtab, ix_i2b, ix_i2c, ix_i2l, ix_i2s, ix_iadd, ix_iald, ix_iand, ix_iast, ix_icall, ix_icmp_eq, ix_icmp_ge, ix_icmp_gt, ix_icmp_le, ix_icmp_lt, ix_icmp_ne, ix_idiv, ix_if_eq, ix_if_ge, ix_if_gt, ix_if_le, ix_if_lt, ix_if_ne, ix_iinc, ix_iload, ix_imul, ix_ineg, ix_ior, ix_irem, ix_iret, ix_ishl, ix_ishr, ix_istore, ix_isub, ix_iushr, ix_ixor, ix_l2i, ix_ladd, ix_lald, ix_land, ix_last, ix_lcmp, ix_ldcS, ix_ldiv, ix_lload, ix_lmul, ix_lor, ix_lrem, ix_lret, ix_lshl, ix_lstore, ix_lsub, ix_lsw, ix_max, ix_min, ix_new, ix_newa, ix_nret, ix_oinit, ix_pop2L, ix_popI, ix_pushI, ix_pushL, ix_putI, ix_putJ, ix_putR, ix_putZ, ix_sbald, ix_sgetC, ix_sgetV, ix_slen, ix_strc, ix_tald, ix_tsw, ix_vcall, ix_vret, ix_zret, stL, stL2, kilL, popN, fq_sw, fq_lsw, List.map_cons, List.map_nil, List.getElem?_cons_zero, List.getElem?_cons_succ, Option.toList_some, Option.toList_none, List.cons_append, List.nil_append, List.length_cons, List.length_nil, List.sum_cons, List.sum_nil, cat_i, cat_l, cat_r, true_and, and_true, Nat.zero_add, Nat.add_zero, Nat.le_refl, Nat.zero_le, Nat.reduceAdd, Nat.reduceLeDiff, exists_eq_left', Option.some.injEq, not_true_eq_false, not_false_eq_true, false_implies, true_implies, implies_true, and_self, or_true, true_or, or_false, false_or]
    refine ⟨fun _ => ⟨fun r => absurd ⟨hkl, hr⟩ r, fun _ => ⟨hwf.r, by omega, by omega, hkl, nb_hm o0 hn, fun I2 hT _ => ⟨by rw [nb_rq o0 hn], h0.try b6 0 hs1 hT.g, by omega⟩⟩⟩, fun r => absurd ⟨by omega, by omega, hkl⟩ r⟩
  · obtain ⟨c, hc8, ec, ec2⟩ := hst.c1
    rcases rps_w hwf a b with ⟨e, n⟩ | ⟨e, k, l, rfl, rfl, hk, hl, hk1, hl1, hkl, q⟩ | e
    · rw [e]
      simp (disch := omega) only [sp_X12_shoutsBy, B_X12_shoutsBy_0, B_X12_shoutsBy_45, sp_X12_areTwo, sp_X12_refuse, B_X12_refuse_0, sp_X12_areNear, sp_X12_triesSaying, sp_X12_gives, B_X12_gives_0, fA, n, hm, hm.k, hm.k1, hm.n1, hm.r1, hm.k2, hm.n2, hm.r2, hm.k3, hm.n3, hm.r3, hm.k4, hm.n4, hm.r4, hm.k5, hm.n5, hm.r5, hm.k6, hm.n6, hm.r6, hm.k7, hm.n7, hm.r7, hm.k8, hm.n8, hm.r8, hm.k9, hm.n9, hm.r9, hm.k10, hm.n10, hm.r10, hm.k11, hm.n11, hm.r11, hm.k12, hm.n12, hm.r12, hm.k13, hm.n13, hm.r13, hm.k14, hm.n14, hm.r14, bI_01, bI_01b, bI_0, fq_10, fq_01, fq_rr, ix_aald, ix_aast, ix_abs, ix_alen, ix_aload, ix_aret, ix_astore, ix_bald, ix_bast, ix_call, ix_cpyI, ix_cpyJ, ix_dead, ix_dup2, ix_dup2L, ix_dupI, ix_dupR, ix_dupx1, ix_getI, ix_getJ, ix_getR, ix_gfm, ix_gtab, ix_i2b, ix_i2c, ix_i2l, ix_i2s, ix_iadd, ix_iald, ix_iand, ix_iast, ix_icall, ix_icmp_eq, ix_icmp_ge, ix_icmp_gt, ix_icmp_le, ix_icmp_lt, ix_icmp_ne, ix_idiv, ix_if_eq, ix_if_ge, ix_if_gt, ix_if_le, ix_if_lt, ix_if_ne, ix_iinc, ix_iload, ix_imul, ix_ineg, ix_ior, ix_irem, ix_iret, ix_ishl, ix_ishr, ix_istore, ix_isub, ix_iushr, ix_ixor, ix_l2i, ix_ladd, ix_lald, ix_land, ix_last, ix_lcmp, ix_ldcS, ix_ldiv, ix_lload, ix_lmul, ix_lor, ix_lrem, ix_lret, ix_lshl, ix_lstore, ix_lsub, ix_lsw, ix_max, ix_min, ix_new, ix_newa, ix_nret, ix_oinit, ix_pop2L, ix_popI, ix_pushI, ix_pushL, ix_putI, ix_putJ, ix_putR, ix_putZ, ix_sbald, ix_sgetC, ix_sgetV, ix_slen, ix_strc, ix_tald, ix_tsw, ix_vcall, ix_vret, ix_zret, stL, stL2, kilL, popN, fq_sw, fq_lsw, List.map_cons, List.map_nil, List.getElem?_cons_zero, List.getElem?_cons_succ, Option.toList_some, Option.toList_none, List.cons_append, List.nil_append, List.length_cons, List.length_nil, List.sum_cons, List.sum_nil, cat_i, cat_l, cat_r, true_and, and_true, Nat.zero_add, Nat.add_zero, Nat.le_refl, Nat.zero_le, Nat.reduceAdd, Nat.reduceLeDiff, exists_eq_left', Option.some.injEq, not_true_eq_false, not_false_eq_true, false_implies, true_implies, implies_true, and_self, or_true, true_or, or_false, false_or]
      exact fin 1
    · rw [e]
      simp (disch := omega) only [sp_X12_shoutsBy, B_X12_shoutsBy_0, B_X12_shoutsBy_45, sp_X12_areTwo, sp_X12_refuse, B_X12_refuse_0, sp_X12_areNear, sp_X12_triesSaying, sp_X12_gives, B_X12_gives_0, fA, ec, hm, hm.k, hm.k1, hm.n1, hm.r1, hm.k2, hm.n2, hm.r2, hm.k3, hm.n3, hm.r3, hm.k4, hm.n4, hm.r4, hm.k5, hm.n5, hm.r5, hm.k6, hm.n6, hm.r6, hm.k7, hm.n7, hm.r7, hm.k8, hm.n8, hm.r8, hm.k9, hm.n9, hm.r9, hm.k10, hm.n10, hm.r10, hm.k11, hm.n11, hm.r11, hm.k12, hm.n12, hm.r12, hm.k13, hm.n13, hm.r13, hm.k14, hm.n14, hm.r14, bI_01, bI_01b, bI_0, nI_1, nI_add, nI_clamp, nI_pin, nI_neg, nI_nonneg, nI_leE, nI_ltE, nI_eqE, Nat.not_le, Nat.not_lt, fq_10, fq_01, fq_rr, ix_aald, ix_aast, ix_abs, ix_alen, ix_aload, ix_aret, ix_astore, ix_bald, ix_bast, ix_call, ix_cpyI, ix_cpyJ, ix_dead, ix_dup2, ix_dup2L, ix_dupI, ix_dupR, ix_dupx1, ix_getI, ix_getJ, ix_getR, ix_gfm, ix_gtab, ix_i2b, ix_i2c, ix_i2l, ix_i2s, ix_iadd, ix_iald, ix_iand, ix_iast, ix_icall, ix_icmp_eq, ix_icmp_ge, ix_icmp_gt, ix_icmp_le, ix_icmp_lt, ix_icmp_ne, ix_idiv, ix_if_eq, ix_if_ge, ix_if_gt, ix_if_le, ix_if_lt, ix_if_ne, ix_iinc, ix_iload, ix_imul, ix_ineg, ix_ior, ix_irem, ix_iret, ix_ishl, ix_ishr, ix_istore, ix_isub, ix_iushr, ix_ixor, ix_l2i, ix_ladd, ix_lald, ix_land, ix_last, ix_lcmp, ix_ldcS, ix_ldiv, ix_lload, ix_lmul, ix_lor, ix_lrem, ix_lret, ix_lshl, ix_lstore, ix_lsub, ix_lsw, ix_max, ix_min, ix_new, ix_newa, ix_nret, ix_oinit, ix_pop2L, ix_popI, ix_pushI, ix_pushL, ix_putI, ix_putJ, ix_putR, ix_putZ, ix_sbald, ix_sgetC, ix_sgetV, ix_slen, ix_strc, ix_tald, ix_tsw, ix_vcall, ix_vret, ix_zret, stL, stL2, kilL, popN, fq_sw, fq_lsw, List.map_cons, List.map_nil, List.getElem?_cons_zero, List.getElem?_cons_succ, Option.toList_some, Option.toList_none, List.cons_append, List.nil_append, List.length_cons, List.length_nil, List.sum_cons, List.sum_nil, cat_i, cat_l, cat_r, true_and, and_true, Nat.zero_add, Nat.add_zero, Nat.le_refl, Nat.zero_le, Nat.reduceAdd, Nat.reduceLeDiff, exists_eq_left', Option.some.injEq, not_true_eq_false, not_false_eq_true, false_implies, true_implies, implies_true, and_self, or_true, true_or, or_false, false_or]
      exact ⟨fun _ => ⟨fun _ => fin 7, fun r => absurd (fun w => q w.2) r⟩, fun r => absurd ⟨by omega, by omega, hkl⟩ r⟩
    · exact absurd e g
set_option maxHeartbeats 4000000 in
set_option maxRecDepth 20000 in
theorem sim_gainBy {G : GT} {X M : Nat} (a b : Int32) : SIM G X M sp_X11_gainBy sp_X12_gainBy [.int a, .int b] := by
  intro S I J z h
  have h0 := h
  obtain ⟨s, p, hc, hm, hX, hz, hr⟩ := h
  have hc0 := hc
  have hr0 := hr
  obtain ⟨ct, cr, ⟨b1, b2, b3, b4, b5, b6, b7⟩, cl, cm, hs, hp, csp⟩ := hc
  have k0 := ct.1
  obtain ⟨rA, rT, rP, ⟨rS, rq⟩, rM, rL⟩ := hr
  have rS0 := rS
  obtain ⟨hst, hnm, hyr, hbq, hwf, hwz⟩ := rS
  obtain ⟨s5, s6, s7, s9, s10, s11, s12, s16, s13, s14, s15⟩ := hst.2.1
  have fA : ∀ v, u2 I X 10 v (M + 1) = I (M + 1) := fun v => u2_ne (by omega)
  have fM : ∀ v, u2 I X 10 v M = I M := fun v => u2_ne (by omega)
  have fin : ∀ v, relR X M S (u2 (u2 I X 10 v) M 2 v) J z ∧ z ≤ z + 2 := fun v => ⟨h0.st v, by omega⟩
  have o6 := hst.1.2.1
  have o0 := hst.1.1.2
  have pe := pst_r hst hwf a b
  have hxs : xsh S X s := ⟨k0, b6, hs⟩
  have x : ∀ K : Post, (∀ k l x y, a = nI k → b = nI l → nbR (I (M + 1)) k l x y → nrP (I (M + 1) (30 + 7 * k)) (I (M + 1) (30 + 7 * l)) (I (M + 1) 8) → k < 8 → l < 8 → ∀ I' J', scr s I I' J J' → K (some (.int (rgn (I (M + 1)) k l))) S (u2 I' X 10 0) J' z) → (¬ rps (I (M + 1)) a b = 0 → K (some (.int (-1))) S (u2 I X 10 (rps (I (M + 1)) a b)) J z) → sp_X11_gainBy G [.ref X, .int a, .int b] S I J z K := by
    intro K h1 h2
    simp (disch := omega) only [sp_X11_gainBy, B_X11_gainBy_0, sp_X11_pairStatus, sp_X11_refuse, B_X11_refuse_0, sp_X6_gain, sp_X11_answer, B_X11_answer_0, k0, b6, hs, hs.k, hs.r0, hs.k1, hs.r1, hs.k2, hs.r2, hs.k3, hs.r3, hs.k4, hs.r4, hs.k12, hs.n1, hs.n2, hs.n3, hs.y0, hs.k5, hs.n5, hs.y1, hs.k6, hs.n6, hs.y2, hs.k7, hs.n7, hs.y3, hs.k8, hs.n8, hs.y4, hs.k9, hs.n9, hs.y5, hs.k10, hs.n10, hs.y6, hs.k11, hs.n11, hs.p0, hs.p1, hs.p2, hs.k13, hs.n13, hs.q0, hs.q1, hs.k14, hs.k15, hs.k16, hs.n16, hs.k17, hs.n17, hs.rH, hs.kH, hs.rP, hs.kP, hs.rQ, hs.kQ, nI_1, nI_add, nI_clamp, nI_pin, nI_neg, nI_nonneg, nI_leE, nI_ltE, nI_eqE, Nat.not_le, Nat.not_lt, fq_10, fq_01, fq_rr, ix_aald, ix_aast, ix_abs, ix_alen, ix_aload, ix_aret, ix_astore, ix_bald, ix_bast, ix_call, ix_cpyI, ix_cpyJ, ix_dead, ix_dup2, ix_dup2L, ix_dupI, ix_dupR, ix_dupx1, ix_getI, ix_getJ, ix_getR, ix_gfm, ix_gtab, ix_i2b, ix_i2c, ix_i2l, ix_i2s, ix_iadd, ix_iald, ix_iand, ix_iast, ix_icall, ix_icmp_eq, ix_icmp_ge, ix_icmp_gt, ix_icmp_le, ix_icmp_lt, ix_icmp_ne, ix_idiv, ix_if_eq, ix_if_ge, ix_if_gt, ix_if_le, ix_if_lt, ix_if_ne, ix_iinc, ix_iload, ix_imul, ix_ineg, ix_ior, ix_irem, ix_iret, ix_ishl, ix_ishr, ix_istore, ix_isub, ix_iushr, ix_ixor, ix_l2i, ix_ladd, ix_lald, ix_land, ix_last, ix_lcmp, ix_ldcS, ix_ldiv, ix_lload, ix_lmul, ix_lor, ix_lrem, ix_lret, ix_lshl, ix_lstore, ix_lsub, ix_lsw, ix_max, ix_min, ix_new, ix_newa, ix_nret, ix_oinit, ix_pop2L, ix_popI, ix_pushI, ix_pushL, ix_putI, ix_putJ, ix_putR, ix_putZ, ix_sbald, ix_sgetC, ix_sgetV, ix_slen, ix_strc, ix_tald, ix_tsw, ix_vcall, ix_vret, ix_zret, stL, stL2, kilL, popN, fq_sw, fq_lsw, List.map_cons, List.map_nil, List.getElem?_cons_zero, List.getElem?_cons_succ, Option.toList_some, Option.toList_none, List.cons_append, List.nil_append, List.length_cons, List.length_nil, List.sum_cons, List.sum_nil, cat_i, cat_l, cat_r, true_and, and_true, Nat.zero_add, Nat.add_zero, Nat.le_refl, Nat.zero_le, Nat.reduceAdd, Nat.reduceLeDiff, exists_eq_left', Option.some.injEq, not_true_eq_false, not_false_eq_true, false_implies, true_implies, implies_true, and_self, or_true, true_or, or_false, false_or]
    refine ⟨s, hxs, by rw [s6]; exact o6, ?_⟩
    rw [pe]
    refine ⟨fun g => ?_, h2⟩
    obtain ⟨k, l, x, y, rfl, rfl, hn, hr, hk, hl, hx, hy⟩ := rps_0 hwf g
    rw [nI_clamp (by omega), nI_clamp (by omega)]
    refine ⟨vin_of hk (by omega), vin_of hl (by omega), ⟨hs, ?_, ?_, ?_⟩, fun I' J' hsc => ?_⟩
    · rw [(hst.P hn.1).1, hn.2.2.2.1]
      exact vin_of hx (by omega)
    · rw [(hst.P hn.2.1).1, hn.2.2.2.2.1]
      exact vin_of hy (by omega)
    · rw [s16]
      exact hwf.2.2.2.2.2.2.2.1
    · have := h1 k l x y rfl rfl hn hr hk hl I' J' hsc
      unfold rgn at this
      rw [nb_rq o0 hn, hn.2.2.2.1, nI_clamp (by omega), ← (hst.H hn.2.2.2.2.2.1).1] at this
      rw [qrl_rq hst hn, (hst.P hn.1).1, hn.2.2.2.1, nI_clamp (by omega)]
      exact this
  refine x _ (fun k l x y ea eb hn hr hk hl I1 J1 hs1 => ?_) (fun g => ?_)
  · subst ea eb
    have eA : ∀ j, u2 I1 X 10 0 (M + 1) j = I (M + 1) j := fun j => by rw [u2_ne (by omega)]; exact hs1.1 _ j (by omega)
    have fA1 : u2 I1 X 10 0 (M + 1) = I (M + 1) := funext eA
    have c1 := hn.1
    have c2 := hn.2.1
    have hkl := hn.2.2.1
    obtain ⟨c, hc8, ec, ec2⟩ := hst.c1
    simp (disch := omega) only [sp_X12_gainBy, B_X12_gainBy_0, sp_X12_areTwo, sp_X12_refuse, B_X12_refuse_0, sp_X12_areNear, sp_X12_triesSaying, sp_X12_gives, B_X12_gives_0, fA1, ec, hm, hm.k, hm.k1, hm.n1, hm.r1, hm.k2, hm.n2, hm.r2, hm.k3, hm.n3, hm.r3, hm.k4, hm.n4, hm.r4, hm.k5, hm.n5, hm.r5, hm.k6, hm.n6, hm.r6, hm.k7, hm.n7, hm.r7, hm.k8, hm.n8, hm.r8, hm.k9, hm.n9, hm.r9, hm.k10, hm.n10, hm.r10, hm.k11, hm.n11, hm.r11, hm.k12, hm.n12, hm.r12, hm.k13, hm.n13, hm.r13, hm.k14, hm.n14, hm.r14, bI_01, bI_01b, bI_0, nI_1, nI_add, nI_clamp, nI_pin, nI_neg, nI_nonneg, nI_leE, nI_ltE, nI_eqE, Nat.not_le, Nat.not_lt, fq_10, fq_01, fq_rr, ix_aald, ix_aast, ix_abs, ix_alen, ix_aload, ix_aret, ix_astore, ix_bald, ix_bast, ix_call, ix_cpyI, ix_cpyJ, ix_dead, ix_dup2, ix_dup2L, ix_dupI, ix_dupR, ix_dupx1, ix_getI, ix_getJ, ix_getR, ix_gfm, ix_gtab, ix_i2b, ix_i2c, ix_i2l, ix_i2s, ix_iadd, ix_iald, ix_iand, ix_iast, ix_icall, ix_icmp_eq, ix_icmp_ge, ix_icmp_gt, ix_icmp_le, ix_icmp_lt, ix_icmp_ne, ix_idiv, ix_if_eq, ix_if_ge, ix_if_gt, ix_if_le, ix_if_lt, ix_if_ne, ix_iinc, ix_iload, ix_imul, ix_ineg, ix_ior, ix_irem, ix_iret, ix_ishl, ix_ishr, ix_istore, ix_isub, ix_iushr, ix_ixor, ix_l2i, ix_ladd, ix_lald, ix_land, ix_last, ix_lcmp, ix_ldcS, ix_ldiv, ix_lload, ix_lmul, ix_lor, ix_lrem, ix_lret, ix_lshl, ix_lstore, ix_lsub, ix_lsw, ix_max, ix_min, ix_new, ix_newa, ix_nret, ix_oinit, ix_pop2L, ix_popI, ix_pushI, ix_pushL, ix_putI, ix_putJ, ix_putR, ix_putZ, ix_sbald, ix_sgetC, ix_sgetV, ix_slen, ix_strc, ix_tald, ix_tsw, ix_vcall, ix_vret, ix_zret, stL, stL2, kilL, popN, fq_sw, fq_lsw, List.map_cons, List.map_nil, List.getElem?_cons_zero, List.getElem?_cons_succ, Option.toList_some, Option.toList_none, List.cons_append, List.nil_append, List.length_cons, List.length_nil, List.sum_cons, List.sum_nil, cat_i, cat_l, cat_r, true_and, and_true, Nat.zero_add, Nat.add_zero, Nat.le_refl, Nat.zero_le, Nat.reduceAdd, Nat.reduceLeDiff, exists_eq_left', Option.some.injEq, not_true_eq_false, not_false_eq_true, false_implies, true_implies, implies_true, and_self, or_true, true_or, or_false, false_or]
    refine ⟨fun _ => ⟨fun _ => ⟨hwf.r, by omega, by omega, hkl, nb_hm o0 hn, fun I2 hT e24 => ⟨by rw [e24], h0.try b6 0 hs1 hT.g, by omega⟩⟩, fun r => absurd ⟨hkl, hr⟩ r⟩, fun r => absurd ⟨by omega, by omega, hkl⟩ r⟩
  · obtain ⟨c, hc8, ec, ec2⟩ := hst.c1
    rcases rps_w hwf a b with ⟨e, n⟩ | ⟨e, k, l, rfl, rfl, hk, hl, hk1, hl1, hkl, q⟩ | e
    · rw [e]
      simp (disch := omega) only [sp_X12_gainBy, B_X12_gainBy_0, sp_X12_areTwo, sp_X12_refuse, B_X12_refuse_0, sp_X12_areNear, sp_X12_triesSaying, sp_X12_gives, B_X12_gives_0, fA, n, hm, hm.k, hm.k1, hm.n1, hm.r1, hm.k2, hm.n2, hm.r2, hm.k3, hm.n3, hm.r3, hm.k4, hm.n4, hm.r4, hm.k5, hm.n5, hm.r5, hm.k6, hm.n6, hm.r6, hm.k7, hm.n7, hm.r7, hm.k8, hm.n8, hm.r8, hm.k9, hm.n9, hm.r9, hm.k10, hm.n10, hm.r10, hm.k11, hm.n11, hm.r11, hm.k12, hm.n12, hm.r12, hm.k13, hm.n13, hm.r13, hm.k14, hm.n14, hm.r14, bI_01, bI_01b, bI_0, fq_10, fq_01, fq_rr, ix_aald, ix_aast, ix_abs, ix_alen, ix_aload, ix_aret, ix_astore, ix_bald, ix_bast, ix_call, ix_cpyI, ix_cpyJ, ix_dead, ix_dup2, ix_dup2L, ix_dupI, ix_dupR, ix_dupx1, ix_getI, ix_getJ, ix_getR, ix_gfm, ix_gtab, ix_i2b, ix_i2c, ix_i2l, ix_i2s, ix_iadd, ix_iald, ix_iand, ix_iast, ix_icall, ix_icmp_eq, ix_icmp_ge, ix_icmp_gt, ix_icmp_le, ix_icmp_lt, ix_icmp_ne, ix_idiv, ix_if_eq, ix_if_ge, ix_if_gt, ix_if_le, ix_if_lt, ix_if_ne, ix_iinc, ix_iload, ix_imul, ix_ineg, ix_ior, ix_irem, ix_iret, ix_ishl, ix_ishr, ix_istore, ix_isub, ix_iushr, ix_ixor, ix_l2i, ix_ladd, ix_lald, ix_land, ix_last, ix_lcmp, ix_ldcS, ix_ldiv, ix_lload, ix_lmul, ix_lor, ix_lrem, ix_lret, ix_lshl, ix_lstore, ix_lsub, ix_lsw, ix_max, ix_min, ix_new, ix_newa, ix_nret, ix_oinit, ix_pop2L, ix_popI, ix_pushI, ix_pushL, ix_putI, ix_putJ, ix_putR, ix_putZ, ix_sbald, ix_sgetC, ix_sgetV, ix_slen, ix_strc, ix_tald, ix_tsw, ix_vcall, ix_vret, ix_zret, stL, stL2, kilL, popN, fq_sw, fq_lsw, List.map_cons, List.map_nil, List.getElem?_cons_zero, List.getElem?_cons_succ, Option.toList_some, Option.toList_none, List.cons_append, List.nil_append, List.length_cons, List.length_nil, List.sum_cons, List.sum_nil, cat_i, cat_l, cat_r, true_and, and_true, Nat.zero_add, Nat.add_zero, Nat.le_refl, Nat.zero_le, Nat.reduceAdd, Nat.reduceLeDiff, exists_eq_left', Option.some.injEq, not_true_eq_false, not_false_eq_true, false_implies, true_implies, implies_true, and_self, or_true, true_or, or_false, false_or]
      exact fin 1
    · rw [e]
      simp (disch := omega) only [sp_X12_gainBy, B_X12_gainBy_0, sp_X12_areTwo, sp_X12_refuse, B_X12_refuse_0, sp_X12_areNear, sp_X12_triesSaying, sp_X12_gives, B_X12_gives_0, fA, ec, hm, hm.k, hm.k1, hm.n1, hm.r1, hm.k2, hm.n2, hm.r2, hm.k3, hm.n3, hm.r3, hm.k4, hm.n4, hm.r4, hm.k5, hm.n5, hm.r5, hm.k6, hm.n6, hm.r6, hm.k7, hm.n7, hm.r7, hm.k8, hm.n8, hm.r8, hm.k9, hm.n9, hm.r9, hm.k10, hm.n10, hm.r10, hm.k11, hm.n11, hm.r11, hm.k12, hm.n12, hm.r12, hm.k13, hm.n13, hm.r13, hm.k14, hm.n14, hm.r14, bI_01, bI_01b, bI_0, nI_1, nI_add, nI_clamp, nI_pin, nI_neg, nI_nonneg, nI_leE, nI_ltE, nI_eqE, Nat.not_le, Nat.not_lt, fq_10, fq_01, fq_rr, ix_aald, ix_aast, ix_abs, ix_alen, ix_aload, ix_aret, ix_astore, ix_bald, ix_bast, ix_call, ix_cpyI, ix_cpyJ, ix_dead, ix_dup2, ix_dup2L, ix_dupI, ix_dupR, ix_dupx1, ix_getI, ix_getJ, ix_getR, ix_gfm, ix_gtab, ix_i2b, ix_i2c, ix_i2l, ix_i2s, ix_iadd, ix_iald, ix_iand, ix_iast, ix_icall, ix_icmp_eq, ix_icmp_ge, ix_icmp_gt, ix_icmp_le, ix_icmp_lt, ix_icmp_ne, ix_idiv, ix_if_eq, ix_if_ge, ix_if_gt, ix_if_le, ix_if_lt, ix_if_ne, ix_iinc, ix_iload, ix_imul, ix_ineg, ix_ior, ix_irem, ix_iret, ix_ishl, ix_ishr, ix_istore, ix_isub, ix_iushr, ix_ixor, ix_l2i, ix_ladd, ix_lald, ix_land, ix_last, ix_lcmp, ix_ldcS, ix_ldiv, ix_lload, ix_lmul, ix_lor, ix_lrem, ix_lret, ix_lshl, ix_lstore, ix_lsub, ix_lsw, ix_max, ix_min, ix_new, ix_newa, ix_nret, ix_oinit, ix_pop2L, ix_popI, ix_pushI, ix_pushL, ix_putI, ix_putJ, ix_putR, ix_putZ, ix_sbald, ix_sgetC, ix_sgetV, ix_slen, ix_strc, ix_tald, ix_tsw, ix_vcall, ix_vret, ix_zret, stL, stL2, kilL, popN, fq_sw, fq_lsw, List.map_cons, List.map_nil, List.getElem?_cons_zero, List.getElem?_cons_succ, Option.toList_some, Option.toList_none, List.cons_append, List.nil_append, List.length_cons, List.length_nil, List.sum_cons, List.sum_nil, cat_i, cat_l, cat_r, true_and, and_true, Nat.zero_add, Nat.add_zero, Nat.le_refl, Nat.zero_le, Nat.reduceAdd, Nat.reduceLeDiff, exists_eq_left', Option.some.injEq, not_true_eq_false, not_false_eq_true, false_implies, true_implies, implies_true, and_self, or_true, true_or, or_false, false_or]
      exact ⟨fun _ => ⟨fun r => absurd (fun w => q w.2) r, fun _ => fin 7⟩, fun r => absurd ⟨by omega, by omega, hkl⟩ r⟩
    · exact absurd e g
/-- one hears it and shouts -/
theorem rq_pos {A : Nat → Int32} {p q x y : Nat} : 0 < (rqr A p q x y).1 ↔ (10 ≤ ldn (A (30 + 7 * p + 3)) (A 7) + A (30 + 7 * q + 2) ∧ A (30 + 7 * q + 1) < A (30 + 7 * q + 5) + ldn (A (30 + 7 * p + 3)) (A 7)) := by
  unfold rqr
  unfold spk
  split
  · next g =>
    split
    · next g2 => exact ⟨fun _ => ⟨g, g2⟩, fun _ => Nat.succ_pos _⟩
    · next g2 => exact ⟨fun h => absurd h (Nat.lt_irrefl 0), fun h => absurd h.2 g2⟩
  · next g => exact ⟨fun h => absurd h (Nat.lt_irrefl 0), fun h => absurd h.1 g⟩
theorem wpv_r {I : IH} {s : Nat} {A : Nat → Int32} (h : stR I s A) (hw : wfS A) {o k : Nat} (ho : o < (A 1).toNatClampNeg) (hk : k < (A 1).toNatClampNeg) : wpv I s o k ↔ (¬ o = k ∧ nrP (A (30 + 7 * o)) (A (30 + 7 * k)) (A 8)) ∧ 0 < (rq2 A o k).1 := by
  obtain ⟨p1, -, -, p4, -, -, -⟩ := h.P ho
  obtain ⟨q1, q2, q3, q4, q5, q6, -⟩ := h.P hk
  have s13 : I s 13 = A 8 := h.2.1.2.2.2.2.2.2.2.2.1
  have s16 : I s 16 = A 7 := h.2.1.2.2.2.2.2.2.2.1
  unfold wpv rq2
  rw [p1, p4, q1, q2, q3, q6, s13, s16, sh_n hw ho hk, Decidable.not_not, rq_pos]
set_option maxHeartbeats 4000000 in
set_option maxRecDepth 20000 in
theorem sim_dangers {G : GT} {X M : Nat} (a : Int32) : SIM G X M sp_X11_dangers sp_X12_dangers [.int a] := by
  intro S I J z h
  have h0 := h
  obtain ⟨s, p, hc, hm, hX, hz, hr⟩ := h
  have hc0 := hc
  have hr0 := hr
  obtain ⟨ct, cr, ⟨b1, b2, b3, b4, b5, b6, b7⟩, cl, cm, hs, hp, csp⟩ := hc
  have k0 := ct.1
  obtain ⟨rA, rT, rP, ⟨rS, rq⟩, rM, rL⟩ := hr
  have rS0 := rS
  obtain ⟨hst, hnm, hyr, hbq, hwf, hwz⟩ := rS
  obtain ⟨s5, s6, s7, s9, s10, s11, s12, s16, s13, s14, s15⟩ := hst.2.1
  have fA : ∀ v, u2 I X 10 v (M + 1) = I (M + 1) := fun v => u2_ne (by omega)
  have fM : ∀ v, u2 I X 10 v M = I M := fun v => u2_ne (by omega)
  have fin : ∀ v, relR X M S (u2 (u2 I X 10 v) M 2 v) J z ∧ z ≤ z + 2 := fun v => ⟨h0.st v, by omega⟩
  obtain ⟨c, hc8, ec, ec2⟩ := hst.c1
  have lp := le_p (x := a) (c := c) (by omega)
  refine ⟨s, ⟨k0, b6, hs⟩, by rw [s6]; exact hst.1.2.1, fun g => ?_, fun k ek hk => ?_⟩
  · rw [s6, ec, lp] at g
    refine ⟨hm, by rw [fA]; exact hwf.r, fun _ => ⟨rfl, fin 1⟩, fun k ek hk => absurd ?_ g⟩
    rw [fA, ec2] at hk
    exact (in_c (by omega)).mpr ⟨k, ek, hk⟩
  · subst ek
    rw [s6] at hk ⊢
    refine ⟨hm, by rw [fA]; exact hwf.r, fun g => absurd ?_ g, fun k1 ek1 hk1 I2 hT => ?_⟩
    · rw [fA, ec]
      exact (in_c (by omega)).mpr ⟨k, rfl, by omega⟩
    · rw [fA, ec2] at hk1
      have := (nI_eqE (a := k) (b := k1) (by omega) (by omega)).mp ek1
      subst this
      rw [fA]
      refine ⟨congrArg (fun v => some (Value.int v)) (setU_cg (fun i hi => ?_)), h0.try b6 0 scr.rf hT.g, by omega⟩
      exact (wpv_r hst hwf hi hk).symm
