/-! public methods: places of a wall -/
theorem foldU_sh {α : Type} {f : Nat → α → α} : ∀ (n i : Nat) (x : α), foldU f (i + 1) n x = foldU (fun k => f (k + 1)) i n x
  | 0, _, _ => rfl
  | n + 1, i, x => by
    show foldU f (i + 1 + 1) n (f (i + 1) x) = foldU (fun k => f (k + 1)) (i + 1) n (f (i + 1) x)
    exact foldU_sh n (i + 1) _
theorem shB_k : ∀ x, x ≤ 9 → 1 ≤ x → ∀ c, c < 7 → shB (((nI c - 3) * nI x).toInt64) (nI x) = rsh (((nI c - 3) * nI x).toInt64) (nI x) := by decide +kernel
theorem shB_m : ∀ x, x ≤ 9 → ∀ c, c < 7 → ((nI c - 3) * nI x).toInt64 = ((nI c).toInt64 - 3) * (nI x).toInt64 := by decide +kernel
theorem shB_q {q : Int64} (h : -3 ≤ q ∧ q ≤ 3) : ∃ c, c < 7 ∧ q = (nI c).toInt64 - 3 := by
  have h2 := Int64.le_iff_toInt_le.mp h.1
  have h3 := Int64.le_iff_toInt_le.mp h.2
  have e1 : (-3 : Int64).toInt = -3 := by decide
  have e2 : (3 : Int64).toInt = 3 := by decide
  rw [e1] at h2
  rw [e2] at h3
  have hq : ∀ k : Int64, q.toInt = k.toInt → q = k := fun k h => Int64.toInt_inj.mp h
  rcases (show q.toInt = -3 ∨ q.toInt = -2 ∨ q.toInt = -1 ∨ q.toInt = 0 ∨ q.toInt = 1 ∨ q.toInt = 2 ∨ q.toInt = 3 by omega) with h | h | h | h | h | h | h
  · exact ⟨0, by omega, (hq (-3) h).trans (by decide)⟩
  · exact ⟨1, by omega, (hq (-2) h).trans (by decide)⟩
  · exact ⟨2, by omega, (hq (-1) h).trans (by decide)⟩
  · exact ⟨3, by omega, (hq 0 h).trans (by decide)⟩
  · exact ⟨4, by omega, (hq 1 h).trans (by decide)⟩
  · exact ⟨5, by omega, (hq 2 h).trans (by decide)⟩
  · exact ⟨6, by omega, (hq 3 h).trans (by decide)⟩
theorem shB_rsh {f : Int64} {ft : Int32} (h : okM ft 1 9) : shB f ft = rsh f ft := by
  obtain ⟨h1, h2⟩ := h
  obtain ⟨x, hx, rfl, ex⟩ := h1.ex
  rw [ex] at h2
  by_cases hc : ∃ c, c < 7 ∧ f = ((nI c - 3) * nI x).toInt64
  · obtain ⟨c, hc, rfl⟩ := hc
    exact shB_k x hx h2 c hc
  · have n : ∀ c, c < 7 → ∀ y : Int32, y = nI c - 3 → ¬ (y * nI x).toInt64 = f := fun c hc' y e q => hc ⟨c, hc', by rw [← q, e]⟩
    have e1 : rsh f (nI x) = 4 := by
      unfold rsh
      refine if_pos ?_
      refine Decidable.byContradiction (fun g => ?_)
      have g1 : f - f / (nI x).toInt64 * (nI x).toInt64 = 0 := Decidable.not_not.mp (fun e => g (Or.inl e))
      have g2 : -3 ≤ f / (nI x).toInt64 ∧ f / (nI x).toInt64 ≤ 3 := Decidable.not_not.mp (fun e => g (Or.inr e))
      obtain ⟨c, hc7, ec⟩ := shB_q g2
      rw [ec] at g1
      refine hc ⟨c, hc7, ?_⟩
      rw [shB_m x hx c hc7]
      grind
    rw [e1]
    unfold shB shR shR shR shR shR shR shR shR
    rw [if_neg (n 0 (by omega) _ (by decide)), if_neg (n 1 (by omega) _ (by decide)), if_neg (n 2 (by omega) _ (by decide)), if_neg (n 3 (by omega) _ (by decide)), if_neg (n 4 (by omega) _ (by decide)), if_neg (n 5 (by omega) _ (by decide)), if_neg (n 6 (by omega) _ (by decide))]
theorem rw_8 {t : Int32} (h : in8 t) : rwF t = (rwB t).toInt64 ∧ lfF t = (rlB t).toInt64 ∧ (¬ t = 4 → abI t = if 0 ≤ t then t else 0 - t) ∧ (rwB t = 0 ↔ t = 4) := by
  rcases h with rfl | rfl | rfl | rfl | rfl | rfl | rfl | rfl <;> decide +kernel
theorem fnd_w {p q : Nat → Bool} {n i : Nat} (h : ∀ j, i ≤ j → j < i + n → p j = q j) : fndU p i n = fndU q i n := fndU_congr h
/-- may it be asked: alike on both sides -/
theorem pls_r {X M : Nat} {I : IH} {J : JH} (h : pT X M I J) (t n : Int32) : plS I J X t n = rpl I J M t n := by
  unfold plS rpl
  have e4 : (¬ ((0 ≤ t ∧ t < 4) ∧ (1 ≤ n ∧ n ≤ 12))) = (¬ ((0 ≤ t ∧ t ≤ 3) ∧ (1 ≤ n ∧ n ≤ 12))) := by rw [tr_4]
  simp only [e4]
  by_cases g : (0 ≤ t ∧ t ≤ 3) ∧ (1 ≤ n ∧ n ≤ 12)
  · have hh : ¬ ¬ ((0 ≤ t ∧ t ≤ 3) ∧ (1 ≤ n ∧ n ≤ 12)) := fun q => q g
    rw [if_neg hh, if_neg hh]
    obtain ⟨k, hk, rfl⟩ := in03 g.1
    obtain ⟨m, hm1, hm2, rfl⟩ := in112 g.2
    obtain ⟨r1, r2, r3, r4, r5⟩ := h k hk
    rw [nI_clamp (by omega), nI_clamp (by omega), r1]
    by_cases g2 : I (M + 4) k = -1
    · rw [if_pos g2, if_pos g2]
    · rw [if_neg g2, if_neg g2]
      obtain ⟨c, hc, ec, ec2⟩ := (r4.resolve_left g2).ex
      rw [ec]
      have e0 : nI c - 0 = nI c := by grind
      have e1 : (¬ ((0 : Int32) ≤ nI c ∧ nI m ≤ nI c - 0)) = (nI c < nI m) := propext (by
        rw [e0]
        exact ⟨fun q => Int32.not_le.mp (fun w => q ⟨nI_pos' (by omega), w⟩), fun q w => absurd w.2 (Int32.not_le.mpr q)⟩)
      have e2 : fndU (fun i => decide (J (X + 2 + 2 * k + 1) i < 0)) 0 m = fndU (fun i => decide (J (M + 5) (60 * k + i) < 0)) 0 m := fnd_w (fun j _ hj => by rw [r3 j (by omega)])
      simp only [e1, e2]
  · rw [if_pos g, if_pos g]
theorem rsk_r {X M : Nat} {I : IH} {J : JH} (h : pT X M I J) {k : Nat} (hk : k < 4) {ft : Int32} (hf : okM ft 1 9) (e : ft = I (M + 1) 3) {i : Nat} (hi : i + 1 < 60) : shB (J (X + 2 + 2 * k + 1) (i + 1) - J (X + 2 + 2 * k + 1) i) ft = rsk I J M k i := by
  obtain ⟨r1, r2, r3, r4, r5⟩ := h k hk
  subst e
  rw [shB_rsh hf, r3 _ hi, r3 _ (by omega)]
  rfl
theorem wy_r {X M : Nat} {I : IH} {J : JH} (h : pT X M I J) {k m : Nat} (hk : k < 4) (hm : m ≤ 12) {ft : Int32} (hf : okM ft 1 9) (e : ft = I (M + 1) 3) : wyU J (X + 2 + 2 * k + 1) ft m 1 = rwf I J M k 0 (m - 1) 1 := by
  unfold wyU rwf
  rw [foldU_sh (n := m - 1) (i := 0)]
  refine foldU_cg _ _ _ (fun j x _ hj => ?_)
  show x * rwF (shB (J (X + 2 + 2 * k + 1) (j + 1) - J (X + 2 + 2 * k + 1) (j + 1 - 1)) ft) = _
  rw [show j + 1 - 1 = j by omega, rsk_r h hk hf e (by omega), (rw_8 (rsh_in _ _)).1]
theorem okM_nz {ft : Int32} (h : okM ft 1 9) : ¬ ft.toInt64 = 0 := by
  obtain ⟨h1, h2⟩ := h
  obtain ⟨x, hx, rfl, ex⟩ := h1.ex
  rw [ex] at h2
  have : ∀ x, x ≤ 9 → 1 ≤ x → ¬ (nI x).toInt64 = 0 := by decide +kernel
  exact this x hx h2
theorem rpl_m (I : IH) (J : JH) (M : Nat) (t n : Int32) (I' : IH) (h4 : I' (M + 4) = I (M + 4)) : rpl I' J M t n = rpl I J M t n := by
  unfold rpl
  rw [h4]
set_option maxHeartbeats 4000000 in
set_option maxRecDepth 20000 in
theorem sim_ways {G : GT} {X M : Nat} (a b : Int32) : SIM G X M sp_X11_ways sp_X12_ways [.int a, .int b] := by
  intro S I J z h
  have h0 := h
  obtain ⟨s, p, hc, hm, hX, hz, hr⟩ := h
  have hc0 := hc
  have hr0 := hr
  obtain ⟨ct, cr, ⟨b1, b2, b3, b4, b5, b6, b7⟩, cl, cm, hs, hp, csp⟩ := hc
  have k0 := ct.1
  obtain ⟨rA, rT, rP, ⟨rS, rq⟩, rM, rL⟩ := hr
  have rS0 := rS
  obtain ⟨hst, hnm, hyr, hbq, hwf, hwz⟩ := rS
  obtain ⟨s5, s6, s7, s9, s10, s11, s12, s16, s13, s14, s15⟩ := hst.2.1
  have fA : ∀ v, u2 I X 10 v (M + 1) = I (M + 1) := fun v => u2_ne (by omega)
  have fM : ∀ v, u2 I X 10 v M = I M := fun v => u2_ne (by omega)
  have fin : ∀ v, relR X M S (u2 (u2 I X 10 v) M 2 v) J z ∧ z ≤ z + 2 := fun v => ⟨h0.st v, by omega⟩
  have hf : okM (I (M + 1) 3) 1 9 := hwf.2.2.2.1
  have hnz := okM_nz hf
  have e9 : I s 9 = I (M + 1) 3 := s9
  have pe := pls_r rT a b
  have f4 : ∀ v, u2 I X 10 v (M + 4) = I (M + 4) := fun v => u2_ne (by omega)
  have rp : ∀ v, rpl (u2 I X 10 v) J M a b = rpl I J M a b := fun v => rpl_m I J M a b _ (f4 v)
  refine ⟨s, ⟨k0, b6, hs⟩, ct, fun g => ?_, fun g => ?_⟩
  · rw [pe] at g ⊢
    have gp : 0 < rpl I J M a b := (rpl_p I J M a b).resolve_left g
    have gn : ¬ rpl I J M a b ≤ 0 := Int32.not_le.mpr gp
    simp (disch := omega) only [sp_X12_ways, B_X12_ways_0, sp_X12_wrongPlaces, sp_X12_refuse, B_X12_refuse_0, sp_X12_is, B_X12_is_0, B_X12_is_14, sp_X12_waysFrom, fA, fM, rp, gn, hm, hm.k, hm.k1, hm.n1, hm.r1, hm.k2, hm.n2, hm.r2, hm.k3, hm.n3, hm.r3, hm.k4, hm.n4, hm.r4, hm.k5, hm.n5, hm.r5, hm.k6, hm.n6, hm.r6, hm.k7, hm.n7, hm.r7, hm.k8, hm.n8, hm.r8, hm.k9, hm.n9, hm.r9, hm.k10, hm.n10, hm.r10, hm.k11, hm.n11, hm.r11, hm.k12, hm.n12, hm.r12, hm.k13, hm.n13, hm.r13, hm.k14, hm.n14, hm.r14, fq_10, fq_01, fq_rr, ix_aald, ix_aast, ix_abs, ix_alen, ix_aload, ix_aret, ix_astore, ix_bald, ix_bast, ix_call, ix_cpyI, ix_cpyJ, ix_dead, ix_dup2, ix_dup2L, ix_dupI, ix_dupR, ix_dupx1, ix_getI, ix_getJ, ix_getR, ix_gfm, ix_gtab, ix_i2b, ix_i2c, ix_i2l, ix_i2s, ix_iadd, ix_iald, ix_iand, ix_iast, ix_icall, ix_icmp_eq, ix_icmp_ge, ix_icmp_gt, ix_icmp_le, ix_icmp_lt, ix_icmp_ne, ix_idiv, ix_if_eq, ix_if_ge, ix_if_gt, ix_if_le, ix_if_lt, ix_if_ne, ix_iinc, ix_iload, ix_imul, ix_ineg, ix_ior, ix_irem, ix_iret, ix_ishl, ix_ishr, ix_istore, ix_isub, ix_iushr, ix_ixor, ix_l2i, ix_ladd, ix_lald, ix_land, ix_last, ix_lcmp, ix_ldcS, ix_ldiv, ix_lload, ix_lmul, ix_lor, ix_lrem, ix_lret, ix_lshl, ix_lstore, ix_lsub, ix_lsw, ix_max, ix_min, ix_new, ix_newa, ix_nret, ix_oinit, ix_pop2L, ix_popI, ix_pushI, ix_pushL, ix_putI, ix_putJ, ix_putR, ix_putZ, ix_sbald, ix_sgetC, ix_sgetV, ix_slen, ix_strc, ix_tald, ix_tsw, ix_vcall, ix_vret, ix_zret, stL, stL2, kilL, popN, fq_sw, fq_lsw, List.map_cons, List.map_nil, List.getElem?_cons_zero, List.getElem?_cons_succ, Option.toList_some, Option.toList_none, List.cons_append, List.nil_append, List.length_cons, List.length_nil, List.sum_cons, List.sum_nil, cat_i, cat_l, cat_r, true_and, and_true, Nat.zero_add, Nat.add_zero, Nat.le_refl, Nat.zero_le, Nat.reduceAdd, Nat.reduceLeDiff, exists_eq_left', Option.some.injEq, not_true_eq_false, not_false_eq_true, false_implies, true_implies, implies_true, and_self, or_true, true_or, or_false, false_or]
    exact ⟨rfl, fin _⟩
  · rw [pe] at g
    obtain ⟨k, m, hk, hm1, hm2, rfl, rfl⟩ := rpl_0 g
    rw [nI_clamp (by omega), nI_clamp (by omega), wy_r rT hk hm2 (by rw [e9]; exact hf) e9]
    have o1 : okN (nI m) 12 := okN.nI hm2 (by omega)
    have o2 : okN (0 : Int32) 12 := okN.nI (c := 0) (by omega) (by omega)
    simp (disch := omega) only [sp_X12_ways, B_X12_ways_0, sp_X12_wrongPlaces, sp_X12_refuse, B_X12_refuse_0, sp_X12_is, B_X12_is_0, B_X12_is_14, sp_X12_waysFrom, fA, fM, rp, g, hnz, o1, o2, hm, hm.k, hm.k1, hm.n1, hm.r1, hm.k2, hm.n2, hm.r2, hm.k3, hm.n3, hm.r3, hm.k4, hm.n4, hm.r4, hm.k5, hm.n5, hm.r5, hm.k6, hm.n6, hm.r6, hm.k7, hm.n7, hm.r7, hm.k8, hm.n8, hm.r8, hm.k9, hm.n9, hm.r9, hm.k10, hm.n10, hm.r10, hm.k11, hm.n11, hm.r11, hm.k12, hm.n12, hm.r12, hm.k13, hm.n13, hm.r13, hm.k14, hm.n14, hm.r14, li_2, li_3, li_4, li_5, li_6, li_7, li_8, li_9, li_10, li_11, li_12, li_13, li_14, li_15, li_16, li_17, li_18, li_19, li_20, li_21, li_22, li_23, li_24, li_25, li_26, li_27, li_28, li_29, li_30, li_32, li_33, li_34, li_35, li_36, li_37, li_38, li_39, li_40, li_41, li_42, li_43, li_44, li_45, li_46, li_47, li_48, li_49, li_50, li_51, li_52, li_53, li_54, li_55, li_56, li_57, li_58, li_59, li_60, li_61, li_62, li_63, li_64, li_65, li_66, li_67, li_68, li_69, li_70, li_71, li_72, li_73, li_74, li_75, li_76, li_77, li_78, li_79, li_80, li_81, li_82, li_83, li_84, li_85, li_86, li_87, li_88, li_89, li_90, li_91, li_92, li_93, li_94, li_95, li_96, li_97, li_98, li_99, li_100, li_101, li_102, li_103, li_104, li_105, li_106, li_107, li_108, li_109, li_110, li_111, li_112, li_113, li_114, li_115, li_116, li_117, li_118, li_119, li_120, li_121, li_122, li_123, li_124, li_125, li_126, li_127, li_128, li_129, li_130, li_131, li_226, li_240, li_255, li_300, li_586, li_594, li_900, li_999, li_1000, li_1800, li_2376, li_2388, li_2406, li_2602, li_2970, li_3067, li_3564, li_9999, li_10000, li_11287, li_65536, li_100000, li_1000000, nI_mul, tn0, tn1, vin0, vin1, Int32.add_zero, Int32.or_zero, Int32.mul_one, Int32.mul_zero, Int32.zero_add, Nat.reduceEqDiff, Nat.reduceMul, Nat.reduceSub, nI_1, nI_add, nI_clamp, nI_pin, nI_neg, nI_nonneg, nI_leE, nI_ltE, nI_eqE, Nat.not_le, Nat.not_lt, fq_10, fq_01, fq_rr, ix_aald, ix_aast, ix_abs, ix_alen, ix_aload, ix_aret, ix_astore, ix_bald, ix_bast, ix_call, ix_cpyI, ix_cpyJ, ix_dead, ix_dup2, ix_dup2L, ix_dupI, ix_dupR, ix_dupx1, ix_getI, ix_getJ, ix_getR, ix_gfm, ix_gtab, ix_i2b, ix_i2c, ix_i2l, ix_i2s, ix_iadd, ix_iald, ix_iand, ix_iast, ix_icall, ix_icmp_eq, ix_icmp_ge, ix_icmp_gt, ix_icmp_le, ix_icmp_lt, ix_icmp_ne, ix_idiv, ix_if_eq, ix_if_ge, ix_if_gt, ix_if_le, ix_if_lt, ix_if_ne, ix_iinc, ix_iload, ix_imul, ix_ineg, ix_ior, ix_irem, ix_iret, ix_ishl, ix_ishr, ix_istore, ix_isub, ix_iushr, ix_ixor, ix_l2i, ix_ladd, ix_lald, ix_land, ix_last, ix_lcmp, ix_ldcS, ix_ldiv, ix_lload, ix_lmul, ix_lor, ix_lrem, ix_lret, ix_lshl, ix_lstore, ix_lsub, ix_lsw, ix_max, ix_min, ix_new, ix_newa, ix_nret, ix_oinit, ix_pop2L, ix_popI, ix_pushI, ix_pushL, ix_putI, ix_putJ, ix_putR, ix_putZ, ix_sbald, ix_sgetC, ix_sgetV, ix_slen, ix_strc, ix_tald, ix_tsw, ix_vcall, ix_vret, ix_zret, stL, stL2, kilL, popN, fq_sw, fq_lsw, List.map_cons, List.map_nil, List.getElem?_cons_zero, List.getElem?_cons_succ, Option.toList_some, Option.toList_none, List.cons_append, List.nil_append, List.length_cons, List.length_nil, List.sum_cons, List.sum_nil, cat_i, cat_l, cat_r, true_and, and_true, Nat.zero_add, Nat.add_zero, Nat.le_refl, Nat.zero_le, Nat.reduceAdd, Nat.reduceLeDiff, exists_eq_left', Option.some.injEq, not_true_eq_false, not_false_eq_true, false_implies, true_implies, implies_true, and_self, or_true, true_or, or_false, false_or]
    have f2 : u2 (u2 I X 10 0) M 2 0 (M + 1) = I (M + 1) := by rw [u2_ne (by omega), u2_ne (by omega)]
    refine ⟨fun _ => ⟨by rw [f2]; exact hnz, ?_, fin 0⟩, fun q => absurd (by decide) q⟩
    refine congrArg Value.long (foldU_cg _ _ _ (fun j x _ _ => ?_))
    unfold rsk
    rw [f2]
/-- a product of small numbers is 0 only if one is -/
theorem rwf_n {I : IH} {J : JH} {M t : Nat} : ∀ (n i v : Nat), ∃ w, w ≤ v * 4 ^ n ∧ rwf I J M t i n (lN v) = lN w ∧ (w = 0 ↔ v = 0 ∨ ∃ j, i ≤ j ∧ j < i + n ∧ rsk I J M t j = 4) := by
  intro n
  induction n with
  | zero => exact fun i v => ⟨v, by omega, rfl, by
      constructor
      · exact Or.inl
      · rintro (h | ⟨j, h1, h2, -⟩)
        · exact h
        · omega⟩
  | succ n ih =>
    intro i v
    have h8 : ∃ y, y ≤ 4 ∧ (rwB (rsk I J M t i)).toInt64 = lN y ∧ (y = 0 ↔ rsk I J M t i = 4) := by
      have h := rsh_in (J (M + 5) (60 * t + i + 1) - J (M + 5) (60 * t + i)) (I (M + 1) 3)
      have h : in8 (rsk I J M t i) := h
      rcases h with h | h | h | h | h | h | h | h <;> rw [h]
      · exact ⟨0, by omega, by decide, by decide⟩
      · exact ⟨1, by omega, by decide, by decide⟩
      · exact ⟨1, by omega, by decide, by decide⟩
      · exact ⟨4, by omega, by decide, by decide⟩
      · exact ⟨3, by omega, by decide, by decide⟩
      · exact ⟨4, by omega, by decide, by decide⟩
      · exact ⟨1, by omega, by decide, by decide⟩
      · exact ⟨1, by omega, by decide, by decide⟩
    obtain ⟨y, hy, ey, hy0⟩ := h8
    have e4 : 4 ^ (n + 1) = 4 * 4 ^ n := by rw [Nat.pow_succ, Nat.mul_comm]
    have hle : v * y * 4 ^ n ≤ v * 4 ^ (n + 1) := by
      rw [e4, ← Nat.mul_assoc]
      exact Nat.mul_le_mul_right _ (Nat.mul_le_mul_left _ hy)
    obtain ⟨w, w1, w2, w3⟩ := ih (i + 1) (v * y)
    refine ⟨w, by omega, ?_, ?_⟩
    · show foldU _ (i + 1) n (lN v * (rwB (rsk I J M t i)).toInt64) = lN w
      rw [ey, lN_mul]
      exact w2
    · rw [w3, Nat.mul_eq_zero, hy0]
      constructor
      · rintro ((h | h) | ⟨j, h1, h2, h3⟩)
        · exact Or.inl h
        · exact Or.inr ⟨i, by omega, by omega, h⟩
        · exact Or.inr ⟨j, by omega, by omega, h3⟩
      · rintro (h | ⟨j, h1, h2, h3⟩)
        · exact Or.inl (Or.inl h)
        · by_cases q : j = i
          · subst q
            exact Or.inl (Or.inr h3)
          · exact Or.inr ⟨j, by omega, by omega, h3⟩
theorem rwf_0 {I : IH} {J : JH} {M t n : Nat} (hn : n ≤ 12) : rwf I J M t 0 n 1 = 0 ↔ ∃ j, j < n ∧ rsk I J M t j = 4 := by
  obtain ⟨w, w1, w2, w3⟩ := rwf_n (I := I) (J := J) (M := M) (t := t) n 0 1
  have h4 : 4 ^ n ≤ 4 ^ 12 := Nat.pow_le_pow_right (by omega) hn
  have h5 : 4 ^ 12 < 2 ^ 63 := by decide
  have e1 : (1 : Int64) = lN 1 := rfl
  have e0 : (0 : Int64) = lN 0 := rfl
  rw [e1, w2, e0, pk_lEQ (by omega) (by decide), w3]
  constructor
  · rintro (h | ⟨j, h1, h2, h3⟩)
    · omega
    · exact ⟨j, by omega, h3⟩
  · rintro ⟨j, h2, h3⟩
    exact Or.inr ⟨j, by omega, by omega, h3⟩
theorem fw_r {X M : Nat} {I : IH} {J : JH} (h : pT X M I J) {k : Nat} (hk : k < 4) {ft : Int32} (hf : okM ft 1 9) (e : ft = I (M + 1) 3) : ∀ (n i : Nat) (a : Int32), i + n < 59 → ((∀ j, i ≤ j → j < i + n → ¬ rsk I J M k j = 4) → fwR J (X + 2 + 2 * k + 1) ft (i + 1) n a = some (foldU (fun k' a => a + (if 0 ≤ rsk I J M k k' then rsk I J M k k' else 0 - rsk I J M k k')) i n a)) ∧ ((∃ j, i ≤ j ∧ j < i + n ∧ rsk I J M k j = 4) → fwR J (X + 2 + 2 * k + 1) ft (i + 1) n a = none) := by
  intro n
  induction n with
  | zero => exact fun i a _ => ⟨fun _ => rfl, fun ⟨j, h1, h2, _⟩ => absurd h1 (by omega)⟩
  | succ n ih =>
    intro i a hi
    have e0 : fwR J (X + 2 + 2 * k + 1) ft (i + 1) (n + 1) a = if shB (J (X + 2 + 2 * k + 1) (i + 1) - J (X + 2 + 2 * k + 1) (i + 1 - 1)) ft = 4 then none else fwR J (X + 2 + 2 * k + 1) ft (i + 1 + 1) n (a + abI (shB (J (X + 2 + 2 * k + 1) (i + 1) - J (X + 2 + 2 * k + 1) (i + 1 - 1)) ft)) := rfl
    rw [show i + 1 - 1 = i by omega, rsk_r h hk hf e (by omega)] at e0
    rw [e0]
    have h8 : in8 (rsk I J M k i) := rsh_in _ _
    by_cases q : rsk I J M k i = 4
    · rw [if_pos q]
      exact ⟨fun w => absurd q (w i (by omega) (by omega)), fun _ => rfl⟩
    · rw [if_neg q, (rw_8 h8).2.2.1 q]
      obtain ⟨i1, i2⟩ := ih (i + 1) (a + (if 0 ≤ rsk I J M k i then rsk I J M k i else 0 - rsk I J M k i)) (by omega)
      refine ⟨fun w => i1 (fun j h1 h2 => w j (by omega) (by omega)), fun ⟨j, h1, h2, h3⟩ => i2 ⟨j, ?_, by omega, h3⟩⟩
      rcases Nat.lt_or_ge i j with g | g
      · omega
      · have : j = i := by omega
        subst this
        exact absurd h3 q
set_option maxHeartbeats 4000000 in
set_option maxRecDepth 20000 in
theorem sim_fewest {G : GT} {X M : Nat} (a b : Int32) : SIM G X M sp_X11_fewest sp_X12_fewest [.int a, .int b] := by
  intro S I J z h
  have h0 := h
  obtain ⟨s, p, hc, hm, hX, hz, hr⟩ := h
  have hc0 := hc
  have hr0 := hr
  obtain ⟨ct, cr, ⟨b1, b2, b3, b4, b5, b6, b7⟩, cl, cm, hs, hp, csp⟩ := hc
  have k0 := ct.1
  obtain ⟨rA, rT, rP, ⟨rS, rq⟩, rM, rL⟩ := hr
  have rS0 := rS
  obtain ⟨hst, hnm, hyr, hbq, hwf, hwz⟩ := rS
  obtain ⟨s5, s6, s7, s9, s10, s11, s12, s16, s13, s14, s15⟩ := hst.2.1
  have fA : ∀ v, u2 I X 10 v (M + 1) = I (M + 1) := fun v => u2_ne (by omega)
  have fM : ∀ v, u2 I X 10 v M = I M := fun v => u2_ne (by omega)
  have fin : ∀ v, relR X M S (u2 (u2 I X 10 v) M 2 v) J z ∧ z ≤ z + 2 := fun v => ⟨h0.st v, by omega⟩
  have hf : okM (I (M + 1) 3) 1 9 := hwf.2.2.2.1
  have hnz := okM_nz hf
  have e9 : I s 9 = I (M + 1) 3 := s9
  have pe := pls_r rT a b
  have f4 : ∀ v, u2 I X 10 v (M + 4) = I (M + 4) := fun v => u2_ne (by omega)
  have rp : ∀ v, rpl (u2 I X 10 v) J M a b = rpl I J M a b := fun v => rpl_m I J M a b _ (f4 v)
  have rk : ∀ v t k, rsk (u2 I X 10 v) J M t k = rsk I J M t k := fun v t k => by
    unfold rsk
    rw [fA]
  refine ⟨s, ⟨k0, b6, hs⟩, ct, fun g => ?_, fun g => ?_⟩
  · rw [pe] at g ⊢
    refine ⟨hm, by rw [fA]; exact hnz, fun _ => ?_, fun q => absurd ((rp _).symm.trans q) g⟩
    rw [rp]
    exact ⟨rfl, fin _⟩
  · rw [pe] at g
    obtain ⟨k, m, hk, hm1, hm2, rfl, rfl⟩ := rpl_0 g
    obtain ⟨f1, f2⟩ := fw_r rT hk (by rw [e9]; exact hf) e9 (m - 1) 0 0 (by omega)
    have w0 : ∀ v, rwf (u2 I X 10 v) J M k 0 (m - 1) 1 = rwf I J M k 0 (m - 1) 1 := fun v => foldU_cg _ _ _ (fun j x _ _ => by rw [rk])
    have wf0 : ∀ v, rfw (u2 I X 10 v) J M k (m - 1) 0 = rfw I J M k (m - 1) 0 := fun v => foldU_cg _ _ _ (fun j x _ _ => by rw [rk])
    have z0 := rwf_0 (I := I) (J := J) (M := M) (t := k) (n := m - 1) (by omega)
    rw [nI_clamp (by omega), nI_clamp (by omega)]
    by_cases q : ∃ j, j < m - 1 ∧ rsk I J M k j = 4
    · have fn := f2 (by obtain ⟨j, h1, h2⟩ := q; exact ⟨j, by omega, by omega, h2⟩)
      refine ⟨fun _ => ⟨hm, by rw [fA]; exact hnz, fun w => absurd ((rp _).trans g) w, fun _ k1 m1 ek em hk1 hm1' => ?_⟩, fun v hv => by rw [Nat.zero_add] at fn; exact absurd (fn.symm.trans hv) (by simp)⟩
      have := (nI_eqE (a := k) (b := k1) (by omega) (by omega)).mp ek
      subst this
      have := (nI_eqE (a := m) (b := m1) (by omega) (by omega)).mp em
      subst this
      rw [w0]
      exact ⟨fun _ => ⟨rfl, fin _⟩, fun w => absurd (z0.mpr q) w⟩
    · have fs := f1 (fun j _ h1 h2 => q ⟨j, by omega, h2⟩)
      rw [Nat.zero_add] at fs
      refine ⟨fun w => absurd (fs.symm.trans w) (by simp), fun v hv => ?_⟩
      rw [fs] at hv
      cases hv
      refine ⟨hm, by rw [fA]; exact hnz, fun w => absurd ((rp _).trans g) w, fun _ k1 m1 ek em hk1 hm1' => ?_⟩
      have := (nI_eqE (a := k) (b := k1) (by omega) (by omega)).mp ek
      subst this
      have := (nI_eqE (a := m) (b := m1) (by omega) (by omega)).mp em
      subst this
      rw [w0, wf0]
      exact ⟨fun w => absurd (z0.mp w) q, fun _ => ⟨rfl, fin _⟩⟩
/-- the blame from the last day back -/
def blN (I : IH) (J : JH) (M t : Nat) : Nat → Nat → Int64
  | _, 0 => 0
  | k, c + 1 => (rlB (rsk I J M t k)).toInt64 * rwf I J M t (k + 1) c 1 + (if rsk I J M t k = 0 then blN I J M t (k + 1) c else 0)
theorem rwf_x {I : IH} {J : JH} {M t : Nat} : ∀ (n i : Nat) (x : Int64), rwf I J M t i n x = x * rwf I J M t i n 1 := by
  intro n
  induction n with
  | zero =>
    intro i x
    show x = x * 1
    rw [Int64.mul_one]
  | succ n ih =>
    intro i x
    show rwf I J M t (i + 1) n (x * (rwB (rsk I J M t i)).toInt64) = x * rwf I J M t (i + 1) n (1 * (rwB (rsk I J M t i)).toInt64)
    rw [ih (i + 1) (x * _), ih (i + 1) (1 * _), Int64.one_mul, Int64.mul_assoc]
theorem rbl_n {I : IH} {J : JH} {M t n : Nat} : ∀ (c k : Nat) (x : Int64), k + c = n - 1 → rbl I J M t n k c x = x + blN I J M t k c := by
  intro c
  induction c with
  | zero =>
    intro k x _
    show x = x + 0
    rw [Int64.add_zero]
  | succ c ih =>
    intro k x hk
    rw [rbl_1, show n - 1 - (k + 1) = c by omega]
    show _ = x + ((rlB (rsk I J M t k)).toInt64 * rwf I J M t (k + 1) c 1 + (if rsk I J M t k = 0 then blN I J M t (k + 1) c else 0))
    by_cases q : rsk I J M t k = 0
    · rw [if_neg (fun w => w q), if_pos q, ih (k + 1) _ (by omega), Int64.add_assoc]
    · rw [if_pos q, if_neg q, Int64.add_zero]
theorem bl_r {X M : Nat} {I : IH} {J : JH} (h : pT X M I J) {k : Nat} (hk : k < 4) {ft : Int32} (hf : okM ft 1 9) (e : ft = I (M + 1) 3) {N : Nat} (hN : N < 59) : ∀ (i c : Nat), i + c = N → blD J (X + 2 + 2 * k + 1) ft i (blN I J M k i c) (rwf I J M k i c 1) = blN I J M k 0 N := by
  intro i
  induction i with
  | zero =>
    intro c hc
    rw [show N = c by omega]
    rfl
  | succ i ih =>
    intro c hc
    have h8 : in8 (rsk I J M k i) := rsh_in _ _
    have e0 : ∀ lf bh, blD J (X + 2 + 2 * k + 1) ft (i + 1) lf bh = blD J (X + 2 + 2 * k + 1) ft i (lfF (shB (J (X + 2 + 2 * k + 1) (i + 1) - J (X + 2 + 2 * k + 1) i) ft) * bh + (if shB (J (X + 2 + 2 * k + 1) (i + 1) - J (X + 2 + 2 * k + 1) i) ft = 0 then lf else 0)) (bh * rwF (shB (J (X + 2 + 2 * k + 1) (i + 1) - J (X + 2 + 2 * k + 1) i) ft)) := fun _ _ => rfl
    rw [e0, rsk_r h hk hf e (by omega), (rw_8 h8).1, (rw_8 h8).2.1]
    have g := ih (c + 1) (by omega)
    have e1 : rwf I J M k i (c + 1) 1 = rwf I J M k (i + 1) c 1 * (rwB (rsk I J M k i)).toInt64 := by
      show rwf I J M k (i + 1) c (1 * (rwB (rsk I J M k i)).toInt64) = _
      rw [rwf_x, Int64.one_mul, Int64.mul_comm]
    rw [e1] at g
    exact g
set_option maxHeartbeats 4000000 in
set_option maxRecDepth 20000 in
theorem sim_blame {G : GT} {X M : Nat} (a b : Int32) : SIM G X M sp_X11_blame sp_X12_blame [.int a, .int b] := by
  intro S I J z h
  have h0 := h
  obtain ⟨s, p, hc, hm, hX, hz, hr⟩ := h
  have hc0 := hc
  have hr0 := hr
  obtain ⟨ct, cr, ⟨b1, b2, b3, b4, b5, b6, b7⟩, cl, cm, hs, hp, csp⟩ := hc
  have k0 := ct.1
  obtain ⟨rA, rT, rP, ⟨rS, rq⟩, rM, rL⟩ := hr
  have rS0 := rS
  obtain ⟨hst, hnm, hyr, hbq, hwf, hwz⟩ := rS
  obtain ⟨s5, s6, s7, s9, s10, s11, s12, s16, s13, s14, s15⟩ := hst.2.1
  have fA : ∀ v, u2 I X 10 v (M + 1) = I (M + 1) := fun v => u2_ne (by omega)
  have fM : ∀ v, u2 I X 10 v M = I M := fun v => u2_ne (by omega)
  have fin : ∀ v, relR X M S (u2 (u2 I X 10 v) M 2 v) J z ∧ z ≤ z + 2 := fun v => ⟨h0.st v, by omega⟩
  have hf : okM (I (M + 1) 3) 1 9 := hwf.2.2.2.1
  have hnz := okM_nz hf
  have e9 : I s 9 = I (M + 1) 3 := s9
  have pe := pls_r rT a b
  have f4 : ∀ v, u2 I X 10 v (M + 4) = I (M + 4) := fun v => u2_ne (by omega)
  have rp : ∀ v, rpl (u2 I X 10 v) J M a b = rpl I J M a b := fun v => rpl_m I J M a b _ (f4 v)
  have hT2 : ∀ v, pT X M (u2 I X 10 v) J := fun v => rT.mv (fun a x1 x2 => ⟨u2_ne (by omega), rfl⟩) (u2_ne (by omega)) (u2_ne (by omega)) rfl
  refine ⟨s, ⟨k0, b6, hs⟩, ct, fun g => ?_, fun g => ?_⟩
  · rw [pe] at g ⊢
    refine ⟨hm, by rw [fA]; exact hnz, fun _ => ?_, fun q => absurd ((rp _).symm.trans q) g⟩
    rw [rp]
    exact ⟨rfl, fin _⟩
  · rw [pe] at g
    obtain ⟨k, m, hk, hm1, hm2, rfl, rfl⟩ := rpl_0 g
    rw [nI_clamp (by omega), nI_clamp (by omega)]
    refine ⟨hm, by rw [fA]; exact hnz, fun w => absurd ((rp _).trans g) w, fun _ k1 m1 ek em hk1 hm1' => ?_⟩
    have := (nI_eqE (a := k) (b := k1) (by omega) (by omega)).mp ek
    subst this
    have := (nI_eqE (a := m) (b := m1) (by omega) (by omega)).mp em
    subst this
    have b1 := bl_r (hT2 0) hk (ft := I s 9) (by rw [e9]; exact hf) (by rw [fA]; exact e9) (N := m - 1) (by omega) (m - 1) 0 (by omega)
    have b2 := rbl_n (I := u2 I X 10 0) (J := J) (M := M) (t := k) (n := m) (m - 1) 0 0 (by omega)
    rw [Int64.zero_add] at b2
    rw [b2, ← b1]
    exact ⟨rfl, fin _⟩
