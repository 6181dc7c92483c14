/-! the law: its start -/
def mdN (M : Nat) (I : IH) (J : JH) : Prop := (∀ k, I M k = if k = 16 ∨ k = 17 then -1 else 0) ∧ (∀ k, J M k = if k = 4 then 1 else 0) ∧ I (M + 1) = plA (fun _ => 0) 0 ∧ (∀ t, t < 4 → I (M + 4) t = -1) ∧ (∀ a, 2 ≤ a → a < 15 → a ≠ 4 → ∀ k, I (M + a) k = 0) ∧ ∀ a, 1 ≤ a → a < 15 → ∀ k, J (M + a) k = 0
theorem n4694 : Int32.toNatClampNeg 4694 = 4694 := by decide
theorem n4694p : ¬ (4694 : Int32) < 0 := by decide
set_option maxHeartbeats 4000000 in
theorem init_M {G : GT} {S : Sh} {I : IH} {J : JH} {M : Nat} {Q : Post} (h1 : S.1 M = 12) (hI : ∀ k, I M k = 0) (hJ : ∀ k, J M k = 0) (hQ : ∀ S' I' J', (∀ b, b < M → S'.1 b = S.1 b ∧ S'.2.1 b = S.2.1 b ∧ S'.2.2 b = S.2.2 b ∧ I' b = I b ∧ J' b = J b) → rfS S' M → mdN M I' J' → Q none S' I' J' (M + 15)) : sp_X12_init G [.ref M] S I J (M + 1) Q := by
  unfold sp_X12_init
  simp (disch := omega) only [B_X12_init_0, sp_X12_plain, h1, up1_ne, up1_eq, li_2, li_3, li_4, li_5, li_6, li_7, li_8, li_9, li_10, li_11, li_12, li_13, li_14, li_15, li_16, li_17, li_18, li_19, li_20, li_21, li_22, li_23, li_24, li_25, li_26, li_27, li_28, li_29, li_30, li_32, li_33, li_34, li_35, li_36, li_37, li_38, li_39, li_40, li_41, li_42, li_43, li_44, li_45, li_46, li_47, li_48, li_49, li_50, li_51, li_52, li_53, li_54, li_55, li_56, li_57, li_58, li_59, li_60, li_61, li_62, li_63, li_64, li_65, li_66, li_67, li_68, li_69, li_70, li_71, li_72, li_73, li_74, li_75, li_76, li_77, li_78, li_79, li_80, li_81, li_82, li_83, li_84, li_85, li_86, li_87, li_88, li_89, li_90, li_91, li_92, li_93, li_94, li_95, li_96, li_97, li_98, li_99, li_100, li_101, li_102, li_103, li_104, li_105, li_106, li_107, li_108, li_109, li_110, li_111, li_112, li_113, li_114, li_115, li_116, li_117, li_118, li_119, li_120, li_121, li_122, li_123, li_124, li_125, li_126, li_127, li_128, li_129, li_130, li_131, li_226, li_240, li_255, li_300, li_586, li_594, li_900, li_999, li_1000, li_1800, li_2376, li_2388, li_2406, li_2602, li_2970, li_3067, li_3564, li_9999, li_10000, li_11287, li_65536, li_100000, li_1000000, nI_mul, tn0, tn1, vin0, vin1, Int32.add_zero, Int32.or_zero, Int32.mul_one, Int32.mul_zero, Int32.zero_add, Nat.reduceEqDiff, Nat.reduceMul, Nat.reduceSub, nI_1, nI_add, nI_clamp, nI_pin, nI_neg, nI_nonneg, nI_leE, nI_ltE, nI_eqE, Nat.not_le, Nat.not_lt, fq_10, fq_01, fq_rr, ix_aald, ix_aast, ix_abs, ix_alen, ix_aload, ix_aret, ix_astore, ix_bald, ix_bast, ix_call, ix_cpyI, ix_cpyJ, ix_dead, ix_dup2, ix_dup2L, ix_dupI, ix_dupR, ix_dupx1, ix_getI, ix_getJ, ix_getR, ix_gfm, ix_gtab, ix_i2b, ix_i2c, ix_i2l, ix_i2s, ix_iadd, ix_iald, ix_iand, ix_iast, ix_icall, ix_icmp_eq, ix_icmp_ge, ix_icmp_gt, ix_icmp_le, ix_icmp_lt, ix_icmp_ne, ix_idiv, ix_if_eq, ix_if_ge, ix_if_gt, ix_if_le, ix_if_lt, ix_if_ne, ix_iinc, ix_iload, ix_imul, ix_ineg, ix_ior, ix_irem, ix_iret, ix_ishl, ix_ishr, ix_istore, ix_isub, ix_iushr, ix_ixor, ix_l2i, ix_ladd, ix_lald, ix_land, ix_last, ix_lcmp, ix_ldcS, ix_ldiv, ix_lload, ix_lmul, ix_lor, ix_lrem, ix_lret, ix_lshl, ix_lstore, ix_lsub, ix_lsw, ix_max, ix_min, ix_new, ix_newa, ix_nret, ix_oinit, ix_pop2L, ix_popI, ix_pushI, ix_pushL, ix_putI, ix_putJ, ix_putR, ix_putZ, ix_sbald, ix_sgetC, ix_sgetV, ix_slen, ix_strc, ix_tald, ix_tsw, ix_vcall, ix_vret, ix_zret, stL, stL2, kilL, popN, fq_sw, fq_lsw, List.map_cons, List.map_nil, List.getElem?_cons_zero, List.getElem?_cons_succ, Option.toList_some, Option.toList_none, List.cons_append, List.nil_append, List.length_cons, List.length_nil, List.sum_cons, List.sum_nil, cat_i, cat_l, cat_r, true_and, and_true, Nat.zero_add, Nat.add_zero, Nat.le_refl, Nat.zero_le, Nat.reduceAdd, Nat.reduceLeDiff, exists_eq_left', Option.some.injEq, not_true_eq_false, not_false_eq_true, false_implies, true_implies, implies_true, and_self, or_true, true_or, or_false, false_or]
  simp only [n4694, Nat.add_assoc, Nat.reduceAdd, Nat.reduceLeDiff, n4694p, not_false_eq_true, true_and, Nat.le_refl]
  refine ⟨?_, 0, rfl, by omega, hQ _ _ _ (fun b hb => ?_) ?_ ⟨fun k => ?_, fun k => ?_, ?_, fun t ht => ?_, fun a g1 g2 g3 k => ?_, fun a g1 g2 k => ?_⟩⟩
  · unfold rfS
    simp (disch := omega) only [up1_eq, up1_ne, u2_same, u2_ck, u2_ca, u2_ne, h1, and_self]
  · simp (disch := omega) only [up1_eq, up1_ne, u2_ne, and_self]
  · unfold rfS
    simp (disch := omega) only [up1_eq, up1_ne, u2_same, u2_ck, u2_ca, u2_ne, h1, and_self]
  · by_cases q : k = 16
    · subst q
      simp (disch := omega) only [up1_eq, up1_ne, u2_same, u2_ck, u2_ca, u2_ne]
      rfl
    · by_cases q2 : k = 17
      · subst q2
        simp (disch := omega) only [up1_eq, up1_ne, u2_same, u2_ck, u2_ca, u2_ne]
        rfl
      · rw [if_neg (by omega)]
        simp (disch := omega) only [up1_eq, up1_ne, u2_same, u2_ck, u2_ca, u2_ne]
        exact hI k
  · by_cases q : k = 4
    · subst q
      simp (disch := omega) only [up1_eq, up1_ne, u2_same, u2_ck, u2_ca, u2_ne]
      rfl
    · rw [if_neg (by omega)]
      simp (disch := omega) only [up1_eq, up1_ne, u2_same, u2_ck, u2_ca, u2_ne]
      exact hJ k
  · simp (disch := omega) only [up1_eq, up1_ne, u2_ne]
  · rcases (show t = 0 ∨ t = 1 ∨ t = 2 ∨ t = 3 by omega) with rfl | rfl | rfl | rfl <;> simp (disch := omega) only [up1_eq, up1_ne, u2_same, u2_ck, u2_ca, u2_ne]
  · rcases (show a = 2 ∨ a = 3 ∨ a = 5 ∨ a = 6 ∨ a = 7 ∨ a = 8 ∨ a = 9 ∨ a = 10 ∨ a = 11 ∨ a = 12 ∨ a = 13 ∨ a = 14 by omega) with rfl | rfl | rfl | rfl | rfl | rfl | rfl | rfl | rfl | rfl | rfl | rfl <;> simp (disch := omega) only [up1_eq, up1_ne, u2_same, u2_ck, u2_ca, u2_ne]
  · rcases (show a = 1 ∨ a = 2 ∨ a = 3 ∨ a = 4 ∨ a = 5 ∨ a = 6 ∨ a = 7 ∨ a = 8 ∨ a = 9 ∨ a = 10 ∨ a = 11 ∨ a = 12 ∨ a = 13 ∨ a = 14 by omega) with rfl | rfl | rfl | rfl | rfl | rfl | rfl | rfl | rfl | rfl | rfl | rfl | rfl | rfl <;> simp (disch := omega) only [up1_eq, up1_ne, u2_same, u2_ck, u2_ca, u2_ne]
theorem plA_0 (k : Nat) : plA (fun _ => 0) 0 k = if k = 3 then 1 else if k = 4 then 2 else if k = 5 then 4 else if k = 11 then -1 else 0 := by
  unfold plA plZ uA
  by_cases h11 : k = 11
  · subst h11; rfl
  · by_cases h5 : k = 5
    · subst h5; rfl
    · by_cases h4 : k = 4
      · subst h4; rfl
      · by_cases h3 : k = 3
        · subst h3; rfl
        · rw [if_neg (by omega), if_neg (by omega), if_neg (by omega), if_neg (by omega), if_neg h3, if_neg h4, if_neg h5, if_neg h11]
          exact ite_self _
theorem one_0 {I : IH} {J : JH} {s : Nat} {N : Nat → Int64} {b : Nat} (h : stN I J s) : oneR I J s (plA (fun _ => 0) 0) N b := by
  have z : ∀ k, k ≠ 3 → k ≠ 4 → k ≠ 5 → k ≠ 11 → plA (fun _ => 0) 0 k = 0 := fun k h3 h4 h5 h11 => by rw [plA_0, if_neg h3, if_neg h4, if_neg h5, if_neg h11]
  have a3 : plA (fun _ => 0) 0 3 = 1 := by rw [plA_0]; rfl
  have a4 : plA (fun _ => 0) 0 4 = 2 := by rw [plA_0]; rfl
  have a5 : plA (fun _ => 0) 0 5 = 4 := by rw [plA_0]; rfl
  have a11 : plA (fun _ => 0) 0 11 = -1 := by rw [plA_0]; rfl
  have i0 : ∀ b, s ≤ b → b < s + 52 → b ≠ s → ∀ k, I b k = 0 := fun b q1 q2 q3 k => by rw [h.1 b q1 q2 k, if_neg (by omega), if_neg (by omega), if_neg (by omega)]
  have is : ∀ k, I s k = if k = 9 then 1 else if k = 10 then 2 else if k = 11 then 4 else 0 := fun k => by rw [h.1 s (by omega) (by omega) k]; simp
  have k0 : okN (0 : Int32) 0 := ⟨rfl, Nat.le_refl _⟩
  have t0 : (0 : Int32).toNatClampNeg = 0 := rfl
  refine ⟨⟨⟨?_, ?_, ?_⟩, ⟨?_, ?_, ?_, ?_, ?_, ?_, ?_, ?_, ?_, ?_, ?_⟩, fun h hh => ?_, fun p hp => ?_, 0, by omega, ?_, fun k hk => ?_⟩, ⟨fun i hi => ?_, fun i hi => ?_⟩, Or.inl ⟨a11, i0 _ (by omega) (by omega) (by omega) _, i0 _ (by omega) (by omega) (by omega) _⟩, fun i hi => Or.inl (i0 _ (by omega) (by omega) (by omega) _), ⟨?_, ?_, ?_, ?_, ?_, ?_, ?_, Or.inl ?_, fun p hp => ?_, fun p hp => ?_, fun p hp => ?_, ?_⟩, Or.inl a11⟩
  · rw [z 0 (by omega) (by omega) (by omega) (by omega)]; exact ⟨rfl, by decide⟩
  · rw [z 1 (by omega) (by omega) (by omega) (by omega)]; exact ⟨rfl, by decide⟩
  · rw [z 2 (by omega) (by omega) (by omega) (by omega)]; exact ⟨rfl, by decide⟩
  · rw [z 0 (by omega) (by omega) (by omega) (by omega), is]; rfl
  · rw [z 1 (by omega) (by omega) (by omega) (by omega), is]; rfl
  · rw [z 2 (by omega) (by omega) (by omega) (by omega), is]; rfl
  · rw [a3, is]; rfl
  · rw [a4, is]; rfl
  · rw [a5, is]; rfl
  · rw [z 6 (by omega) (by omega) (by omega) (by omega), is]; rfl
  · rw [z 7 (by omega) (by omega) (by omega) (by omega), is]; rfl
  · rw [z 8 (by omega) (by omega) (by omega) (by omega), is]; rfl
  · rw [z 9 (by omega) (by omega) (by omega) (by omega), is]; rfl
  · rw [z 10 (by omega) (by omega) (by omega) (by omega), is]; rfl
  · rw [z 0 (by omega) (by omega) (by omega) (by omega), t0] at hh; omega
  · rw [z 1 (by omega) (by omega) (by omega) (by omega), t0] at hp; omega
  · rw [is]; rfl
  · rw [z 2 (by omega) (by omega) (by omega) (by omega), t0] at hk; omega
  · rw [z 0 (by omega) (by omega) (by omega) (by omega), t0] at hi; omega
  · rw [z 1 (by omega) (by omega) (by omega) (by omega), t0] at hi; omega
  · rw [z 0 (by omega) (by omega) (by omega) (by omega)]; exact ⟨rfl, by decide⟩
  · rw [z 1 (by omega) (by omega) (by omega) (by omega)]; exact ⟨rfl, by decide⟩
  · rw [z 2 (by omega) (by omega) (by omega) (by omega)]; exact ⟨rfl, by decide⟩
  · rw [a3]; exact ⟨⟨rfl, by decide⟩, by decide⟩
  · rw [a4]; exact ⟨rfl, by decide⟩
  · rw [a5]; exact ⟨rfl, by decide⟩
  · rw [z 6 (by omega) (by omega) (by omega) (by omega)]; exact ⟨rfl, by decide⟩
  · rw [z 7 (by omega) (by omega) (by omega) (by omega)]
  · rw [z 1 (by omega) (by omega) (by omega) (by omega), t0] at hp; omega
  · rw [z 0 (by omega) (by omega) (by omega) (by omega), t0] at hp; omega
  · rw [z 2 (by omega) (by omega) (by omega) (by omega), t0] at hp; omega
  · rw [z 0 (by omega) (by omega) (by omega) (by omega), t0]; exact Nat.zero_le _
theorem rel_0 {X : Nat} {S S' : Sh} {I I' : IH} {J J' : JH} (hc : cpS S X (X + 174) (X + 226)) (hn : cpN X I J) (hF : ∀ b, b < X + 278 → S'.1 b = S.1 b ∧ S'.2.1 b = S.2.1 b ∧ S'.2.2 b = S.2.2 b ∧ I' b = I b ∧ J' b = J b) (hr : rfS S' (X + 278)) (hm : mdN (X + 278) I' J') : relR X (X + 278) S' I' J' (X + 278 + 15) := by
  obtain ⟨n1, n2, n3, n4, n5, n6, n7, n8, n9⟩ := hn
  obtain ⟨m1, m2, m3, m4, m5, m6⟩ := hm
  have eI : ∀ b, b < X + 278 → I' b = I b := fun b hb => (hF b hb).2.2.2.1
  have eJ : ∀ b, b < X + 278 → J' b = J b := fun b hb => (hF b hb).2.2.2.2
  have st : ∀ s, s + 52 ≤ X + 278 → stN I J s → stN I' J' s := fun s hs h => ⟨fun b q1 q2 k => by rw [eI b (by omega)]; exact h.1 b q1 q2 k, fun b q1 q2 k => by rw [eJ b (by omega)]; exact h.2 b q1 q2 k⟩
  have hc' : cpS S' X (X + 174) (X + 226) := by
    have h6 : S'.2.2 X 6 = some (X + 174) := by rw [(hF X (by omega)).2.2.1]; exact hc.2.2.1.2.2.2.2.2.1
    have h7 : S'.2.2 X 7 = some (X + 226) := by rw [(hF X (by omega)).2.2.1]; exact hc.2.2.1.2.2.2.2.2.2
    exact shK.cp (z := X + 278) ⟨fun a ha => ⟨(hF a ha).1, (hF a ha).2.1, fun _ => (hF a ha).2.2.1⟩, fun k _ _ => by rw [(hF X (by omega)).2.2.1]⟩ (Nat.le_refl _) hc h6 h7 (Or.inl ⟨rfl, rfl⟩)
  have xI : ∀ k, I' X k = if k = 11 ∨ k = 12 then -1 else 0 := fun k => by rw [eI X (by omega)]; exact n1 k
  have xJ : ∀ k, J' X k = if k = 14 then 1 else 0 := fun k => by rw [eJ X (by omega)]; exact n2 k
  refine ⟨X + 174, X + 226, hc', hr, Nat.le_refl _, Nat.le_refl _, ⟨?_, ?_, ?_, ?_, ?_⟩, fun t ht => ⟨?_, ?_, fun k hk => ?_, Or.inl (m4 t ht), ?_⟩, ⟨⟨0, ?_, ?_, Nat.zero_le _⟩, fun k hk => ?_, fun i hi => ?_⟩, ⟨?_, fun i hi => Or.inl ?_⟩, ⟨0, ?_, ?_, Nat.zero_le _, fun i hi => absurd hi (Nat.not_lt_zero _)⟩, fun o ho => ?_, ?_, Or.inl ?_⟩
  · rw [xI, m1]; rfl
  · rw [xJ, m2]; rfl
  · rw [xJ, m2]; rfl
  · rw [xI, m1]; rfl
  · rw [xI, m1]; rfl
  · rw [eI _ (by omega), (n3 t ht).1, m4 t ht]; rfl
  · rw [eI _ (by omega), (n3 t ht).1, m5 3 (by omega) (by omega) (by omega)]; rfl
  · rw [eJ _ (by omega), (n3 t ht).2, m6 5 (by omega) (by omega)]
  · rw [m5 3 (by omega) (by omega) (by omega)]; exact ⟨rfl, by decide⟩
  · rw [xI]; rfl
  · rw [m1]; rfl
  · rw [eI _ (by omega), n5, m5 6 (by omega) (by omega) (by omega)]; exact ⟨rfl, rfl⟩
  · rw [eJ _ (by omega)]; exact n4 i hi
  · rw [m3]; exact one_0 (st _ (by omega) n8)
  · rw [eI _ (by omega), n9.1 _ (by omega) (by omega), if_neg (by omega), if_neg (by omega), if_neg (by omega)]
  · rw [xI]; rfl
  · rw [m1]; rfl
  · rw [m5 12 (by omega) (by omega) (by omega)]; exact ⟨rfl, by decide⟩
  · rw [eI _ (by omega), n7, m1]; rfl
  · rw [m1]; rfl
