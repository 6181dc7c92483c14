/-! the reference: games -/
theorem dX12_weighs_0 : decode cX12_weighs 0 = .ok (.aload_n 0, 1) := by decide +kernel
theorem dX12_weighs_1 : decode cX12_weighs 1 = .ok (.getfield 50, 3) := by decide +kernel
theorem dX12_weighs_4 : decode cX12_weighs 4 = .ok (.iload_n 1, 1) := by decide +kernel
theorem dX12_weighs_5 : decode cX12_weighs 5 = .ok (.iaload, 1) := by decide +kernel
theorem dX12_weighs_6 : decode cX12_weighs 6 = .ok (.ldc_w 376, 3) := by decide +kernel
theorem dX12_weighs_9 : decode cX12_weighs 9 = .ok (.if_icmp .eq 33, 3) := by decide +kernel
theorem dX12_weighs_12 : decode cX12_weighs 12 = .ok (.iload_n 1, 1) := by decide +kernel
theorem dX12_weighs_13 : decode cX12_weighs 13 = .ok (.iconst 2, 1) := by decide +kernel
theorem dX12_weighs_14 : decode cX12_weighs 14 = .ok (.irem, 1) := by decide +kernel
theorem dX12_weighs_15 : decode cX12_weighs 15 = .ok (.ifCond .ne 16, 3) := by decide +kernel
theorem dX12_weighs_18 : decode cX12_weighs 18 = .ok (.iload_n 2, 1) := by decide +kernel
theorem dX12_weighs_19 : decode cX12_weighs 19 = .ok (.aload_n 0, 1) := by decide +kernel
theorem dX12_weighs_20 : decode cX12_weighs 20 = .ok (.getfield 50, 3) := by decide +kernel
theorem dX12_weighs_23 : decode cX12_weighs 23 = .ok (.iload_n 1, 1) := by decide +kernel
theorem dX12_weighs_24 : decode cX12_weighs 24 = .ok (.iaload, 1) := by decide +kernel
theorem dX12_weighs_25 : decode cX12_weighs 25 = .ok (.if_icmp .ge 17, 3) := by decide +kernel
theorem dX12_weighs_28 : decode cX12_weighs 28 = .ok (.goto 13, 3) := by decide +kernel
theorem dX12_weighs_31 : decode cX12_weighs 31 = .ok (.iload_n 2, 1) := by decide +kernel
theorem dX12_weighs_32 : decode cX12_weighs 32 = .ok (.aload_n 0, 1) := by decide +kernel
theorem dX12_weighs_33 : decode cX12_weighs 33 = .ok (.getfield 50, 3) := by decide +kernel
theorem dX12_weighs_36 : decode cX12_weighs 36 = .ok (.iload_n 1, 1) := by decide +kernel
theorem dX12_weighs_37 : decode cX12_weighs 37 = .ok (.iaload, 1) := by decide +kernel
theorem dX12_weighs_38 : decode cX12_weighs 38 = .ok (.if_icmp .le 4, 3) := by decide +kernel
theorem dX12_weighs_41 : decode cX12_weighs 41 = .ok (.return_, 1) := by decide +kernel
theorem dX12_weighs_42 : decode cX12_weighs 42 = .ok (.aload_n 0, 1) := by decide +kernel
theorem dX12_weighs_43 : decode cX12_weighs 43 = .ok (.getfield 50, 3) := by decide +kernel
theorem dX12_weighs_46 : decode cX12_weighs 46 = .ok (.iload_n 1, 1) := by decide +kernel
theorem dX12_weighs_47 : decode cX12_weighs 47 = .ok (.iload_n 2, 1) := by decide +kernel
theorem dX12_weighs_48 : decode cX12_weighs 48 = .ok (.iastore, 1) := by decide +kernel
theorem dX12_weighs_49 : decode cX12_weighs 49 = .ok (.iload_n 1, 1) := by decide +kernel
theorem dX12_weighs_50 : decode cX12_weighs 50 = .ok (.ifCond .ne 13, 3) := by decide +kernel
theorem dX12_weighs_53 : decode cX12_weighs 53 = .ok (.aload_n 0, 1) := by decide +kernel
theorem dX12_weighs_54 : decode cX12_weighs 54 = .ok (.aload_n 0, 1) := by decide +kernel
theorem dX12_weighs_55 : decode cX12_weighs 55 = .ok (.getfield 47, 3) := by decide +kernel
theorem dX12_weighs_58 : decode cX12_weighs 58 = .ok (.iconst 0, 1) := by decide +kernel
theorem dX12_weighs_59 : decode cX12_weighs 59 = .ok (.iaload, 1) := by decide +kernel
theorem dX12_weighs_60 : decode cX12_weighs 60 = .ok (.putfield 377, 3) := by decide +kernel
theorem dX12_weighs_63 : decode cX12_weighs 63 = .ok (.return_, 1) := by decide +kernel
abbrev M_X12_weighs : MT := (yX12_weighs, cX12_weighs, 3, none)
theorem cf_X12_weighs : fq_cf M_X12_weighs 2 := ⟨(mg_1 (List.mem_of_getElem? (i := 15) rfl) rfl), (mg_9 (List.mem_of_getElem? (i := 50) rfl) rfl), ⟨by decide, by decide, by decide +kernel⟩, by decide⟩
def B_X12_weighs_63 (G : GT) (mc ms : Nat) (Q : Post) : Cn := ix_vret mc ms Q
theorem b_X12_weighs_63 {l : Launch} {G : GT} {D mc ms : Nat} {Q : Post} : Imp l G M_X12_weighs (D + 0) mc ms Q (B_X12_weighs_63 G mc ms Q) 63 := sx_vret dX12_weighs_63 rfl
def B_X12_weighs_42 (G : GT) (mc ms : Nat) (Q : Post) : Cn := ix_aload 0 (ix_getR 12 26 (ix_iload 1 (ix_iload 2 (ix_iast (ix_iload 1 (ix_if_ne ((B_X12_weighs_63 G mc ms Q)) (ix_aload 0 (ix_aload 0 (ix_getR 12 25 (ix_pushI 0 (ix_iald (ix_putI 12 27 ((B_X12_weighs_63 G mc ms Q))))))))))))))
theorem b_X12_weighs_42 {l : Launch} {G : GT} {D mc ms : Nat} {Q : Post} : Imp l G M_X12_weighs (D + 0) mc ms Q (B_X12_weighs_42 G mc ms Q) 42 := sx_aload_n dX12_weighs_42 rfl (sx_getR dX12_weighs_43 fl_FootQuarrelModel_50 (fun _ _ _ => rfl) (sx_iload_n dX12_weighs_46 rfl (sx_iload_n dX12_weighs_47 rfl (sx_iast dX12_weighs_48 (sx_iload_n dX12_weighs_49 rfl (sx_if_ne 63 dX12_weighs_50 (by decide) (b_X12_weighs_63) (sx_aload_n dX12_weighs_53 rfl (sx_aload_n dX12_weighs_54 rfl (sx_getR dX12_weighs_55 fl_FootQuarrelModel_47 (fun _ _ _ => rfl) (sx_iconst dX12_weighs_58 rfl (sx_iald dX12_weighs_59 (sx_putI dX12_weighs_60 fl_FootQuarrelModel_377 (by decide) (fun _ _ _ => rfl) (fun _ => ⟨rfl, rfl⟩) (b_X12_weighs_63)))))))))))))
def B_X12_weighs_41 (G : GT) (mc ms : Nat) (Q : Post) : Cn := ix_vret mc ms Q
theorem b_X12_weighs_41 {l : Launch} {G : GT} {D mc ms : Nat} {Q : Post} : Imp l G M_X12_weighs (D + 0) mc ms Q (B_X12_weighs_41 G mc ms Q) 41 := sx_vret dX12_weighs_41 rfl
def B_X12_weighs_0 (G : GT) (mc ms : Nat) (Q : Post) : Cn := ix_aload 0 (ix_getR 12 26 (ix_iload 1 (ix_iald (ix_pushI 1000000 (ix_icmp_eq ((B_X12_weighs_42 G mc ms Q)) (ix_iload 1 (ix_pushI 2 (ix_irem (ix_if_ne (ix_iload 2 (ix_aload 0 (ix_getR 12 26 (ix_iload 1 (ix_iald (ix_icmp_le ((B_X12_weighs_42 G mc ms Q)) ((B_X12_weighs_41 G mc ms Q)))))))) (ix_iload 2 (ix_aload 0 (ix_getR 12 26 (ix_iload 1 (ix_iald (ix_icmp_ge ((B_X12_weighs_42 G mc ms Q)) ((B_X12_weighs_41 G mc ms Q)))))))))))))))))
theorem b_X12_weighs_0 {l : Launch} {G : GT} {D mc ms : Nat} {Q : Post} : Imp l G M_X12_weighs (D + 0) mc ms Q (B_X12_weighs_0 G mc ms Q) 0 := sx_aload_n dX12_weighs_0 rfl (sx_getR dX12_weighs_1 fl_FootQuarrelModel_50 (fun _ _ _ => rfl) (sx_iload_n dX12_weighs_4 rfl (sx_iald dX12_weighs_5 (sx_ldcw dX12_weighs_6 (mg_9 (List.mem_of_getElem? (i := 43) rfl) rfl) (sx_icmp_eq 42 dX12_weighs_9 (by decide) (b_X12_weighs_42) (sx_iload_n dX12_weighs_12 rfl (sx_iconst dX12_weighs_13 rfl (sx_irem dX12_weighs_14 (sx_if_ne 31 dX12_weighs_15 (by decide) (sx_iload_n dX12_weighs_31 rfl (sx_aload_n dX12_weighs_32 rfl (sx_getR dX12_weighs_33 fl_FootQuarrelModel_50 (fun _ _ _ => rfl) (sx_iload_n dX12_weighs_36 rfl (sx_iald dX12_weighs_37 (sx_icmp_le 42 dX12_weighs_38 (by decide) (b_X12_weighs_42) (b_X12_weighs_41))))))) (sx_iload_n dX12_weighs_18 rfl (sx_aload_n dX12_weighs_19 rfl (sx_getR dX12_weighs_20 fl_FootQuarrelModel_50 (fun _ _ _ => rfl) (sx_iload_n dX12_weighs_23 rfl (sx_iald dX12_weighs_24 (sx_icmp_ge 42 dX12_weighs_25 (by decide) (b_X12_weighs_42) (sx_goto 41 dX12_weighs_28 (by decide) (b_X12_weighs_41)))))))))))))))))
/-- what was weighed is better than what comes -/
abbrev kpC (L : Nat) (c its : Int32) : Prop := ¬ c = 1000000 ∧ ((L % 2 = 0 ∧ its < c) ∨ (¬ L % 2 = 0 ∧ c < its))
/-- the better of what was weighed and what comes -/
def wgh (L : Nat) (c its : Int32) : Int32 := if kpC L c its then c else its
def sp_X12_weighs (G : GT) : Sp := fun as S I J z Q => match as with
  | [.ref M, .int lv, .int its] => rfS S M ∧ vp_in lv 4 ∧ (kpC lv.toNatClampNeg (I (M + 10) lv.toNatClampNeg) its → Q none S I J z) ∧ (¬ kpC lv.toNatClampNeg (I (M + 10) lv.toNatClampNeg) its → (lv.toNatClampNeg = 0 → Q none S (u2 (u2 I (M + 10) 0 its) M 27 (I (M + 9) 0)) J z) ∧ (¬ lv.toNatClampNeg = 0 → Q none S (u2 I (M + 10) lv.toNatClampNeg its) J z))
  | _ => False
set_option maxHeartbeats 4000000 in
set_option maxRecDepth 20000 in
theorem c_X12_weighs {l : Launch} {G : GT} {D : Nat} : ∀ as S I J z Q, sp_X12_weighs G as S I J z Q → fqCall l G M_X12_weighs (D + 0) 0 0 as S I J z Q := by
  intro as S I J z Q h
  unfold sp_X12_weighs at h
  split at h
  · next M lv its =>
    obtain ⟨hm, hl, h1, h2⟩ := h
    obtain ⟨L, hL, rfl⟩ := vp_in_of hl (by decide)
    rw [nI_clamp (by omega)] at h1 h2
    have e4 := t4m L hL
    have e5 : nI L - nI L / nI 2 * nI 2 = nI (L % 2) := e4
    have e6 : (nI (L % 2) = 0) = (L % 2 = 0) := propext ⟨fun q => nI_i (b := 0) (by omega) (by omega) q, fun q => by rw [q]; rfl⟩
    have e7 : (nI L = 0) = (L = 0) := propext ⟨fun q => nI_i (b := 0) (by omega) (by omega) q, fun q => by rw [q]; rfl⟩
    unfold kpC at h1 h2
    simp only [li_1000000] at h1 h2
    refine fq_enter [some (.ref M), some (.int (nI L)), some (.int its)] (by decide +kernel) (Nat.le_of_ble_eq_true rfl) rfl (b_X12_weighs_0 _ _ _ _ _ _ _ _ ?_)
    simp (disch := omega) only [B_X12_weighs_0, B_X12_weighs_41, B_X12_weighs_42, B_X12_weighs_63, hm, hm.k, hm.k1, hm.n1, hm.r1, hm.k2, hm.n2, hm.r2, hm.k3, hm.n3, hm.r3, hm.k4, hm.n4, hm.r4, hm.k5, hm.n5, hm.r5, hm.k6, hm.n6, hm.r6, hm.k7, hm.n7, hm.r7, hm.k8, hm.n8, hm.r8, hm.k9, hm.n9, hm.r9, hm.k10, hm.n10, hm.r10, hm.k11, hm.n11, hm.r11, hm.k12, hm.n12, hm.r12, hm.k13, hm.n13, hm.r13, hm.k14, hm.n14, hm.r14, li_2, li_3, li_4, li_5, li_6, li_7, li_8, li_9, li_10, li_11, li_12, li_13, li_14, li_15, li_16, li_17, li_18, li_19, li_20, li_21, li_22, li_23, li_24, li_25, li_26, li_27, li_28, li_29, li_30, li_32, li_33, li_34, li_35, li_36, li_37, li_38, li_39, li_40, li_41, li_42, li_43, li_44, li_45, li_46, li_47, li_48, li_49, li_50, li_51, li_52, li_53, li_54, li_55, li_56, li_57, li_58, li_59, li_60, li_61, li_62, li_63, li_64, li_65, li_66, li_67, li_68, li_69, li_70, li_71, li_72, li_73, li_74, li_75, li_76, li_77, li_78, li_79, li_80, li_81, li_82, li_83, li_84, li_85, li_86, li_87, li_88, li_89, li_90, li_91, li_92, li_93, li_94, li_95, li_96, li_97, li_98, li_99, li_100, li_101, li_102, li_103, li_104, li_105, li_106, li_107, li_108, li_109, li_110, li_111, li_112, li_113, li_114, li_115, li_116, li_117, li_118, li_119, li_120, li_121, li_122, li_123, li_124, li_125, li_126, li_127, li_128, li_129, li_130, li_131, li_226, li_240, li_255, li_300, li_586, li_594, li_900, li_999, li_1000, li_1800, li_2376, li_2388, li_2406, li_2602, li_2970, li_3067, li_3564, li_9999, li_10000, li_11287, li_65536, li_100000, li_1000000, nI_mul, tn0, tn1, vin0, vin1, Int32.add_zero, Int32.or_zero, Int32.mul_one, Int32.mul_zero, Int32.zero_add, Nat.reduceEqDiff, Nat.reduceMul, Nat.reduceSub, u2_ca, e5, e6, e7, nI_1, nI_add, nI_clamp, nI_pin, nI_neg, nI_nonneg, nI_leE, nI_ltE, nI_eqE, Nat.not_le, Nat.not_lt, fq_10, fq_01, fq_rr, ix_aald, ix_aast, ix_abs, ix_alen, ix_aload, ix_aret, ix_astore, ix_bald, ix_bast, ix_call, ix_cpyI, ix_cpyJ, ix_dead, ix_dup2, ix_dup2L, ix_dupI, ix_dupR, ix_dupx1, ix_getI, ix_getJ, ix_getR, ix_gfm, ix_gtab, ix_i2b, ix_i2c, ix_i2l, ix_i2s, ix_iadd, ix_iald, ix_iand, ix_iast, ix_icall, ix_icmp_eq, ix_icmp_ge, ix_icmp_gt, ix_icmp_le, ix_icmp_lt, ix_icmp_ne, ix_idiv, ix_if_eq, ix_if_ge, ix_if_gt, ix_if_le, ix_if_lt, ix_if_ne, ix_iinc, ix_iload, ix_imul, ix_ineg, ix_ior, ix_irem, ix_iret, ix_ishl, ix_ishr, ix_istore, ix_isub, ix_iushr, ix_ixor, ix_l2i, ix_ladd, ix_lald, ix_land, ix_last, ix_lcmp, ix_ldcS, ix_ldiv, ix_lload, ix_lmul, ix_lor, ix_lrem, ix_lret, ix_lshl, ix_lstore, ix_lsub, ix_lsw, ix_max, ix_min, ix_new, ix_newa, ix_nret, ix_oinit, ix_pop2L, ix_popI, ix_pushI, ix_pushL, ix_putI, ix_putJ, ix_putR, ix_putZ, ix_sbald, ix_sgetC, ix_sgetV, ix_slen, ix_strc, ix_tald, ix_tsw, ix_vcall, ix_vret, ix_zret, stL, stL2, kilL, popN, fq_sw, fq_lsw, List.map_cons, List.map_nil, List.getElem?_cons_zero, List.getElem?_cons_succ, Option.toList_some, Option.toList_none, List.cons_append, List.nil_append, List.length_cons, List.length_nil, List.sum_cons, List.sum_nil, cat_i, cat_l, cat_r, true_and, and_true, Nat.zero_add, Nat.add_zero, Nat.le_refl, Nat.zero_le, Nat.reduceAdd, Nat.reduceLeDiff, exists_eq_left', Option.some.injEq, not_true_eq_false, not_false_eq_true, false_implies, true_implies, implies_true, and_self, or_true, true_or, or_false, false_or]
    have e2 : ¬ nI 2 = 0 := by decide
    grind
  · exact h.elim
theorem dX12_playing_0 : decode cX12_playing 0 = .ok (.aload_n 0, 1) := by decide +kernel
theorem dX12_playing_1 : decode cX12_playing 1 = .ok (.aload_n 0, 1) := by decide +kernel
theorem dX12_playing_2 : decode cX12_playing 2 = .ok (.iload_n 1, 1) := by decide +kernel
theorem dX12_playing_3 : decode cX12_playing 3 = .ok (.invokevirtual 256, 3) := by decide +kernel
theorem dX12_playing_6 : decode cX12_playing 6 = .ok (.invokevirtual 262, 3) := by decide +kernel
theorem dX12_playing_9 : decode cX12_playing 9 = .ok (.istore 4, 2) := by decide +kernel
theorem dX12_playing_11 : decode cX12_playing 11 = .ok (.aload_n 0, 1) := by decide +kernel
theorem dX12_playing_12 : decode cX12_playing 12 = .ok (.iconst 1, 1) := by decide +kernel
theorem dX12_playing_13 : decode cX12_playing 13 = .ok (.putfield 377, 3) := by decide +kernel
theorem dX12_playing_16 : decode cX12_playing 16 = .ok (.iload_n 3, 1) := by decide +kernel
theorem dX12_playing_17 : decode cX12_playing 17 = .ok (.ifCond .ne 5, 3) := by decide +kernel
theorem dX12_playing_20 : decode cX12_playing 20 = .ok (.iconst 0, 1) := by decide +kernel
theorem dX12_playing_21 : decode cX12_playing 21 = .ok (.ireturn, 1) := by decide +kernel
theorem dX12_playing_22 : decode cX12_playing 22 = .ok (.iconst 0, 1) := by decide +kernel
theorem dX12_playing_23 : decode cX12_playing 23 = .ok (.istore 5, 2) := by decide +kernel
theorem dX12_playing_25 : decode cX12_playing 25 = .ok (.aload_n 0, 1) := by decide +kernel
theorem dX12_playing_26 : decode cX12_playing 26 = .ok (.getfield 47, 3) := by decide +kernel
theorem dX12_playing_29 : decode cX12_playing 29 = .ok (.iconst 0, 1) := by decide +kernel
theorem dX12_playing_30 : decode cX12_playing 30 = .ok (.iconst (-1), 1) := by decide +kernel
theorem dX12_playing_31 : decode cX12_playing 31 = .ok (.iastore, 1) := by decide +kernel
theorem dX12_playing_32 : decode cX12_playing 32 = .ok (.aload_n 0, 1) := by decide +kernel
theorem dX12_playing_33 : decode cX12_playing 33 = .ok (.getfield 50, 3) := by decide +kernel
theorem dX12_playing_36 : decode cX12_playing 36 = .ok (.iconst 0, 1) := by decide +kernel
theorem dX12_playing_37 : decode cX12_playing 37 = .ok (.ldc_w 376, 3) := by decide +kernel
theorem dX12_playing_40 : decode cX12_playing 40 = .ok (.iastore, 1) := by decide +kernel
theorem dX12_playing_41 : decode cX12_playing 41 = .ok (.aload_n 0, 1) := by decide +kernel
theorem dX12_playing_42 : decode cX12_playing 42 = .ok (.iconst 0, 1) := by decide +kernel
theorem dX12_playing_43 : decode cX12_playing 43 = .ok (.invokestatic 380, 3) := by decide +kernel
theorem dX12_playing_46 : decode cX12_playing 46 = .ok (.invokevirtual 349, 3) := by decide +kernel
theorem dX12_playing_49 : decode cX12_playing 49 = .ok (.iload 5, 2) := by decide +kernel
theorem dX12_playing_51 : decode cX12_playing 51 = .ok (.ifCond .lt 161, 3) := by decide +kernel
theorem dX12_playing_54 : decode cX12_playing 54 = .ok (.aload_n 0, 1) := by decide +kernel
theorem dX12_playing_55 : decode cX12_playing 55 = .ok (.iload 5, 2) := by decide +kernel
theorem dX12_playing_57 : decode cX12_playing 57 = .ok (.invokestatic 380, 3) := by decide +kernel
theorem dX12_playing_60 : decode cX12_playing 60 = .ok (.invokevirtual 355, 3) := by decide +kernel
theorem dX12_playing_63 : decode cX12_playing 63 = .ok (.aload_n 0, 1) := by decide +kernel
theorem dX12_playing_64 : decode cX12_playing 64 = .ok (.getfield 47, 3) := by decide +kernel
theorem dX12_playing_67 : decode cX12_playing 67 = .ok (.iload 5, 2) := by decide +kernel
theorem dX12_playing_69 : decode cX12_playing 69 = .ok (.dup2, 1) := by decide +kernel
theorem dX12_playing_70 : decode cX12_playing 70 = .ok (.iaload, 1) := by decide +kernel
theorem dX12_playing_71 : decode cX12_playing 71 = .ok (.iconst 1, 1) := by decide +kernel
theorem dX12_playing_72 : decode cX12_playing 72 = .ok (.iadd, 1) := by decide +kernel
theorem dX12_playing_73 : decode cX12_playing 73 = .ok (.iastore, 1) := by decide +kernel
theorem dX12_playing_74 : decode cX12_playing 74 = .ok (.aload_n 0, 1) := by decide +kernel
theorem dX12_playing_75 : decode cX12_playing 75 = .ok (.getfield 47, 3) := by decide +kernel
theorem dX12_playing_78 : decode cX12_playing 78 = .ok (.iload 5, 2) := by decide +kernel
theorem dX12_playing_80 : decode cX12_playing 80 = .ok (.iaload, 1) := by decide +kernel
theorem dX12_playing_81 : decode cX12_playing 81 = .ok (.iconst 2, 1) := by decide +kernel
theorem dX12_playing_82 : decode cX12_playing 82 = .ok (.if_icmp .ne 29, 3) := by decide +kernel
theorem dX12_playing_85 : decode cX12_playing 85 = .ok (.iinc 5 (-1), 3) := by decide +kernel
theorem dX12_playing_88 : decode cX12_playing 88 = .ok (.iload 5, 2) := by decide +kernel
theorem dX12_playing_90 : decode cX12_playing 90 = .ok (.ifCond .lt (-41), 3) := by decide +kernel
theorem dX12_playing_93 : decode cX12_playing 93 = .ok (.aload_n 0, 1) := by decide +kernel
theorem dX12_playing_94 : decode cX12_playing 94 = .ok (.iload 5, 2) := by decide +kernel
theorem dX12_playing_96 : decode cX12_playing 96 = .ok (.aload_n 0, 1) := by decide +kernel
theorem dX12_playing_97 : decode cX12_playing 97 = .ok (.getfield 50, 3) := by decide +kernel
theorem dX12_playing_100 : decode cX12_playing 100 = .ok (.iload 5, 2) := by decide +kernel
theorem dX12_playing_102 : decode cX12_playing 102 = .ok (.iconst 1, 1) := by decide +kernel
theorem dX12_playing_103 : decode cX12_playing 103 = .ok (.iadd, 1) := by decide +kernel
theorem dX12_playing_104 : decode cX12_playing 104 = .ok (.iaload, 1) := by decide +kernel
theorem dX12_playing_105 : decode cX12_playing 105 = .ok (.invokevirtual 383, 3) := by decide +kernel
theorem dX12_playing_108 : decode cX12_playing 108 = .ok (.goto (-59), 3) := by decide +kernel
theorem dX12_playing_111 : decode cX12_playing 111 = .ok (.aload_n 0, 1) := by decide +kernel
theorem dX12_playing_112 : decode cX12_playing 112 = .ok (.getfield 47, 3) := by decide +kernel
theorem dX12_playing_115 : decode cX12_playing 115 = .ok (.iload 5, 2) := by decide +kernel
theorem dX12_playing_117 : decode cX12_playing 117 = .ok (.iaload, 1) := by decide +kernel
theorem dX12_playing_118 : decode cX12_playing 118 = .ok (.ifCond .ne 32, 3) := by decide +kernel
theorem dX12_playing_121 : decode cX12_playing 121 = .ok (.aload_n 0, 1) := by decide +kernel
theorem dX12_playing_122 : decode cX12_playing 122 = .ok (.iload 5, 2) := by decide +kernel
theorem dX12_playing_124 : decode cX12_playing 124 = .ok (.iconst 2, 1) := by decide +kernel
theorem dX12_playing_125 : decode cX12_playing 125 = .ok (.irem, 1) := by decide +kernel
theorem dX12_playing_126 : decode cX12_playing 126 = .ok (.ifCond .ne 7, 3) := by decide +kernel
theorem dX12_playing_129 : decode cX12_playing 129 = .ok (.iload_n 1, 1) := by decide +kernel
theorem dX12_playing_130 : decode cX12_playing 130 = .ok (.goto 4, 3) := by decide +kernel
theorem dX12_playing_133 : decode cX12_playing 133 = .ok (.iload_n 2, 1) := by decide +kernel
theorem dX12_playing_134 : decode cX12_playing 134 = .ok (.iload 5, 2) := by decide +kernel
theorem dX12_playing_136 : decode cX12_playing 136 = .ok (.iconst 2, 1) := by decide +kernel
theorem dX12_playing_137 : decode cX12_playing 137 = .ok (.irem, 1) := by decide +kernel
theorem dX12_playing_138 : decode cX12_playing 138 = .ok (.ifCond .ne 7, 3) := by decide +kernel
theorem dX12_playing_141 : decode cX12_playing 141 = .ok (.iload_n 2, 1) := by decide +kernel
theorem dX12_playing_142 : decode cX12_playing 142 = .ok (.goto 4, 3) := by decide +kernel
theorem dX12_playing_145 : decode cX12_playing 145 = .ok (.iload_n 1, 1) := by decide +kernel
theorem dX12_playing_146 : decode cX12_playing 146 = .ok (.invokevirtual 315, 3) := by decide +kernel
theorem dX12_playing_149 : decode cX12_playing 149 = .ok (.pop, 1) := by decide +kernel
theorem dX12_playing_150 : decode cX12_playing 150 = .ok (.iload 5, 2) := by decide +kernel
theorem dX12_playing_152 : decode cX12_playing 152 = .ok (.iconst 1, 1) := by decide +kernel
theorem dX12_playing_153 : decode cX12_playing 153 = .ok (.iadd, 1) := by decide +kernel
theorem dX12_playing_154 : decode cX12_playing 154 = .ok (.iload_n 3, 1) := by decide +kernel
theorem dX12_playing_155 : decode cX12_playing 155 = .ok (.if_icmp .ge 36, 3) := by decide +kernel
theorem dX12_playing_158 : decode cX12_playing 158 = .ok (.iinc 5 1, 3) := by decide +kernel
theorem dX12_playing_161 : decode cX12_playing 161 = .ok (.aload_n 0, 1) := by decide +kernel
theorem dX12_playing_162 : decode cX12_playing 162 = .ok (.getfield 47, 3) := by decide +kernel
theorem dX12_playing_165 : decode cX12_playing 165 = .ok (.iload 5, 2) := by decide +kernel
theorem dX12_playing_167 : decode cX12_playing 167 = .ok (.iconst (-1), 1) := by decide +kernel
theorem dX12_playing_168 : decode cX12_playing 168 = .ok (.iastore, 1) := by decide +kernel
theorem dX12_playing_169 : decode cX12_playing 169 = .ok (.aload_n 0, 1) := by decide +kernel
theorem dX12_playing_170 : decode cX12_playing 170 = .ok (.getfield 50, 3) := by decide +kernel
theorem dX12_playing_173 : decode cX12_playing 173 = .ok (.iload 5, 2) := by decide +kernel
theorem dX12_playing_175 : decode cX12_playing 175 = .ok (.ldc_w 376, 3) := by decide +kernel
theorem dX12_playing_178 : decode cX12_playing 178 = .ok (.iastore, 1) := by decide +kernel
theorem dX12_playing_179 : decode cX12_playing 179 = .ok (.aload_n 0, 1) := by decide +kernel
theorem dX12_playing_180 : decode cX12_playing 180 = .ok (.iload 5, 2) := by decide +kernel
theorem dX12_playing_182 : decode cX12_playing 182 = .ok (.invokestatic 380, 3) := by decide +kernel
theorem dX12_playing_185 : decode cX12_playing 185 = .ok (.invokevirtual 349, 3) := by decide +kernel
theorem dX12_playing_188 : decode cX12_playing 188 = .ok (.goto (-139), 3) := by decide +kernel
theorem dX12_playing_191 : decode cX12_playing 191 = .ok (.aload_n 0, 1) := by decide +kernel
theorem dX12_playing_192 : decode cX12_playing 192 = .ok (.iload 5, 2) := by decide +kernel
theorem dX12_playing_194 : decode cX12_playing 194 = .ok (.aload_n 0, 1) := by decide +kernel
theorem dX12_playing_195 : decode cX12_playing 195 = .ok (.aload_n 0, 1) := by decide +kernel
theorem dX12_playing_196 : decode cX12_playing 196 = .ok (.iload_n 1, 1) := by decide +kernel
theorem dX12_playing_197 : decode cX12_playing 197 = .ok (.invokevirtual 256, 3) := by decide +kernel
theorem dX12_playing_200 : decode cX12_playing 200 = .ok (.invokevirtual 262, 3) := by decide +kernel
theorem dX12_playing_203 : decode cX12_playing 203 = .ok (.iload 4, 2) := by decide +kernel
theorem dX12_playing_205 : decode cX12_playing 205 = .ok (.isub, 1) := by decide +kernel
theorem dX12_playing_206 : decode cX12_playing 206 = .ok (.invokevirtual 383, 3) := by decide +kernel
theorem dX12_playing_209 : decode cX12_playing 209 = .ok (.goto (-160), 3) := by decide +kernel
theorem dX12_playing_212 : decode cX12_playing 212 = .ok (.aload_n 0, 1) := by decide +kernel
theorem dX12_playing_213 : decode cX12_playing 213 = .ok (.iconst 0, 1) := by decide +kernel
theorem dX12_playing_214 : decode cX12_playing 214 = .ok (.invokestatic 380, 3) := by decide +kernel
theorem dX12_playing_217 : decode cX12_playing 217 = .ok (.invokevirtual 355, 3) := by decide +kernel
theorem dX12_playing_220 : decode cX12_playing 220 = .ok (.aload_n 0, 1) := by decide +kernel
theorem dX12_playing_221 : decode cX12_playing 221 = .ok (.getfield 50, 3) := by decide +kernel
theorem dX12_playing_224 : decode cX12_playing 224 = .ok (.iconst 0, 1) := by decide +kernel
theorem dX12_playing_225 : decode cX12_playing 225 = .ok (.iaload, 1) := by decide +kernel
theorem dX12_playing_226 : decode cX12_playing 226 = .ok (.ireturn, 1) := by decide +kernel
abbrev M_X12_playing : MT := (yX12_playing, cX12_playing, 6, (some .int))
theorem cf_X12_playing : fq_cf M_X12_playing 3 := ⟨(mg_1 (List.mem_of_getElem? (i := 15) rfl) rfl), (mg_9 (List.mem_of_getElem? (i := 42) rfl) rfl), ⟨by decide, by decide, by decide +kernel⟩, by decide⟩
def B_X12_playing_150 (l : Launch) (G : GT) (D mc ms : Nat) (Q : Post) : Cn := ix_iload 5 (ix_pushI 1 (ix_iadd (ix_iload 3 (ix_icmp_ge (ix_aload 0 (ix_iload 5 (ix_aload 0 (ix_aload 0 (ix_iload 1 (ix_vcall 12 2 0 0 mc ms (sp_X12_homeOf G) (ix_vcall 12 2 0 0 mc ms (sp_X12_wideOf G) (ix_iload 4 (ix_isub (ix_vcall 12 3 0 0 mc ms (sp_X12_weighs G) (fqAt l G M_X12_playing (D + 5) mc ms Q 49))))))))))) (ix_iinc 5 1 (ix_aload 0 (ix_getR 12 25 (ix_iload 5 (ix_pushI (-1) (ix_iast (ix_aload 0 (ix_getR 12 26 (ix_iload 5 (ix_pushI 1000000 (ix_iast (ix_aload 0 (ix_iload 5 (ix_call 1 0 0 mc ms (sp_X12_levelAt G) (ix_vcall 12 2 0 0 mc ms (sp_X12_keeps G) (fqAt l G M_X12_playing (D + 5) mc ms Q 49))))))))))))))))))))
theorem b_X12_playing_150 {l : Launch} {G : GT} {D mc ms : Nat} {Q : Post} : Imp l G M_X12_playing (D + 5) mc ms Q (B_X12_playing_150 l G D mc ms Q) 150 := sx_iload dX12_playing_150 (sx_iconst dX12_playing_152 rfl (sx_iadd dX12_playing_153 (sx_iload_n dX12_playing_154 rfl (sx_icmp_ge 191 dX12_playing_155 (by decide) (sx_aload_n dX12_playing_191 rfl (sx_iload dX12_playing_192 (sx_aload_n dX12_playing_194 rfl (sx_aload_n dX12_playing_195 rfl (sx_iload_n dX12_playing_196 rfl (sx_vcall dX12_playing_197 cf_X12_homeOf (mg_8 (List.mem_of_getElem? (i := 26) rfl) rfl) (mg_8 (List.mem_of_getElem? (i := 28) rfl) rfl) (mg_p (List.mem_of_getElem? (i := 83) rfl) rfl) rfl c_X12_homeOf (sx_vcall dX12_playing_200 cf_X12_wideOf (mg_8 (List.mem_of_getElem? (i := 7) rfl) rfl) (mg_8 (List.mem_of_getElem? (i := 9) rfl) rfl) (mg_p (List.mem_of_getElem? (i := 80) rfl) rfl) rfl c_X12_wideOf (sx_iload dX12_playing_203 (sx_isub dX12_playing_205 (sx_vcall dX12_playing_206 cf_X12_weighs (mg_9 (List.mem_of_getElem? (i := 47) rfl) rfl) (mg_9 (List.mem_of_getElem? (i := 49) rfl) rfl) (mg_p (List.mem_of_getElem? (i := 113) rfl) rfl) rfl c_X12_weighs (sx_goto 49 dX12_playing_209 (by decide) ((fun _ _ _ _ _ _ _ _ h => h))))))))))))) (sx_iinc dX12_playing_158 rfl (by decide) (sx_aload_n dX12_playing_161 rfl (sx_getR dX12_playing_162 fl_FootQuarrelModel_47 (fun _ _ _ => rfl) (sx_iload dX12_playing_165 (sx_iconst dX12_playing_167 rfl (sx_iast dX12_playing_168 (sx_aload_n dX12_playing_169 rfl (sx_getR dX12_playing_170 fl_FootQuarrelModel_50 (fun _ _ _ => rfl) (sx_iload dX12_playing_173 (sx_ldcw dX12_playing_175 (mg_9 (List.mem_of_getElem? (i := 43) rfl) rfl) (sx_iast dX12_playing_178 (sx_aload_n dX12_playing_179 rfl (sx_iload dX12_playing_180 (sx_scall dX12_playing_182 cf_X12_levelAt (mg_9 (List.mem_of_getElem? (i := 44) rfl) rfl) (mg_9 (List.mem_of_getElem? (i := 45) rfl) rfl) c_X12_levelAt (sx_vcall dX12_playing_185 cf_X12_keeps (mg_8 (List.mem_of_getElem? (i := 203) rfl) rfl) (mg_8 (List.mem_of_getElem? (i := 205) rfl) rfl) (mg_p (List.mem_of_getElem? (i := 105) rfl) rfl) rfl c_X12_keeps (sx_goto 49 dX12_playing_188 (by decide) ((fun _ _ _ _ _ _ _ _ h => h))))))))))))))))))))))
def B_X12_playing_146 (l : Launch) (G : GT) (D mc ms : Nat) (Q : Post) : Cn := ix_vcall 12 3 0 0 mc ms (sp_X12_says G) (ix_popI ((B_X12_playing_150 l G D mc ms Q)))
theorem b_X12_playing_146 {l : Launch} {G : GT} {D mc ms : Nat} {Q : Post} : Imp l G M_X12_playing (D + 5) mc ms Q (B_X12_playing_146 l G D mc ms Q) 146 := sx_vcall dX12_playing_146 cf_X12_says (mg_8 (List.mem_of_getElem? (i := 89) rfl) rfl) (mg_8 (List.mem_of_getElem? (i := 91) rfl) rfl) (mg_p (List.mem_of_getElem? (i := 92) rfl) rfl) rfl c_X12_says (sx_popI dX12_playing_149 (b_X12_playing_150))
def B_X12_playing_134 (l : Launch) (G : GT) (D mc ms : Nat) (Q : Post) : Cn := ix_iload 5 (ix_pushI 2 (ix_irem (ix_if_ne (ix_iload 1 ((B_X12_playing_146 l G D mc ms Q))) (ix_iload 2 ((B_X12_playing_146 l G D mc ms Q))))))
theorem b_X12_playing_134 {l : Launch} {G : GT} {D mc ms : Nat} {Q : Post} : Imp l G M_X12_playing (D + 5) mc ms Q (B_X12_playing_134 l G D mc ms Q) 134 := sx_iload dX12_playing_134 (sx_iconst dX12_playing_136 rfl (sx_irem dX12_playing_137 (sx_if_ne 145 dX12_playing_138 (by decide) (sx_iload_n dX12_playing_145 rfl (b_X12_playing_146)) (sx_iload_n dX12_playing_141 rfl (sx_goto 146 dX12_playing_142 (by decide) (b_X12_playing_146))))))
def B_X12_playing_63 (l : Launch) (G : GT) (D mc ms : Nat) (Q : Post) : Cn := ix_aload 0 (ix_getR 12 25 (ix_iload 5 (ix_dup2 (ix_iald (ix_pushI 1 (ix_iadd (ix_iast (ix_aload 0 (ix_getR 12 25 (ix_iload 5 (ix_iald (ix_pushI 2 (ix_icmp_ne (ix_aload 0 (ix_getR 12 25 (ix_iload 5 (ix_iald (ix_if_ne ((B_X12_playing_150 l G D mc ms Q)) (ix_aload 0 (ix_iload 5 (ix_pushI 2 (ix_irem (ix_if_ne (ix_iload 2 ((B_X12_playing_134 l G D mc ms Q))) (ix_iload 1 ((B_X12_playing_134 l G D mc ms Q))))))))))))) (ix_iinc 5 (-1) (ix_iload 5 (ix_if_lt (fqAt l G M_X12_playing (D + 5) mc ms Q 49) (ix_aload 0 (ix_iload 5 (ix_aload 0 (ix_getR 12 26 (ix_iload 5 (ix_pushI 1 (ix_iadd (ix_iald (ix_vcall 12 3 0 0 mc ms (sp_X12_weighs G) (fqAt l G M_X12_playing (D + 5) mc ms Q 49))))))))))))))))))))))))))
theorem b_X12_playing_63 {l : Launch} {G : GT} {D mc ms : Nat} {Q : Post} : Imp l G M_X12_playing (D + 5) mc ms Q (B_X12_playing_63 l G D mc ms Q) 63 := sx_aload_n dX12_playing_63 rfl (sx_getR dX12_playing_64 fl_FootQuarrelModel_47 (fun _ _ _ => rfl) (sx_iload dX12_playing_67 (sx_dup2 dX12_playing_69 (sx_iald dX12_playing_70 (sx_iconst dX12_playing_71 rfl (sx_iadd dX12_playing_72 (sx_iast dX12_playing_73 (sx_aload_n dX12_playing_74 rfl (sx_getR dX12_playing_75 fl_FootQuarrelModel_47 (fun _ _ _ => rfl) (sx_iload dX12_playing_78 (sx_iald dX12_playing_80 (sx_iconst dX12_playing_81 rfl (sx_icmp_ne 111 dX12_playing_82 (by decide) (sx_aload_n dX12_playing_111 rfl (sx_getR dX12_playing_112 fl_FootQuarrelModel_47 (fun _ _ _ => rfl) (sx_iload dX12_playing_115 (sx_iald dX12_playing_117 (sx_if_ne 150 dX12_playing_118 (by decide) (b_X12_playing_150) (sx_aload_n dX12_playing_121 rfl (sx_iload dX12_playing_122 (sx_iconst dX12_playing_124 rfl (sx_irem dX12_playing_125 (sx_if_ne 133 dX12_playing_126 (by decide) (sx_iload_n dX12_playing_133 rfl (b_X12_playing_134)) (sx_iload_n dX12_playing_129 rfl (sx_goto 134 dX12_playing_130 (by decide) (b_X12_playing_134))))))))))))) (sx_iinc dX12_playing_85 rfl (by decide) (sx_iload dX12_playing_88 (sx_if_lt 49 dX12_playing_90 (by decide) ((fun _ _ _ _ _ _ _ _ h => h)) (sx_aload_n dX12_playing_93 rfl (sx_iload dX12_playing_94 (sx_aload_n dX12_playing_96 rfl (sx_getR dX12_playing_97 fl_FootQuarrelModel_50 (fun _ _ _ => rfl) (sx_iload dX12_playing_100 (sx_iconst dX12_playing_102 rfl (sx_iadd dX12_playing_103 (sx_iald dX12_playing_104 (sx_vcall dX12_playing_105 cf_X12_weighs (mg_9 (List.mem_of_getElem? (i := 47) rfl) rfl) (mg_9 (List.mem_of_getElem? (i := 49) rfl) rfl) (mg_p (List.mem_of_getElem? (i := 113) rfl) rfl) rfl c_X12_weighs (sx_goto 49 dX12_playing_108 (by decide) ((fun _ _ _ _ _ _ _ _ h => h))))))))))))))))))))))))))))
def B_X12_playing_49 (l : Launch) (G : GT) (D mc ms : Nat) (Q : Post) : Cn := ix_iload 5 (ix_if_lt (ix_aload 0 (ix_pushI 0 (ix_call 1 0 0 mc ms (sp_X12_levelAt G) (ix_vcall 12 2 0 0 mc ms (sp_X12_restores G) (ix_aload 0 (ix_getR 12 26 (ix_pushI 0 (ix_iald (ix_iret mc ms Q))))))))) (ix_aload 0 (ix_iload 5 (ix_call 1 0 0 mc ms (sp_X12_levelAt G) (ix_vcall 12 2 0 0 mc ms (sp_X12_restores G) ((B_X12_playing_63 l G D mc ms Q)))))))
theorem b_X12_playing_49 {l : Launch} {G : GT} {D mc ms : Nat} {Q : Post} : Imp l G M_X12_playing (D + 5) mc ms Q (B_X12_playing_49 l G D mc ms Q) 49 := sx_iload dX12_playing_49 (sx_if_lt 212 dX12_playing_51 (by decide) (sx_aload_n dX12_playing_212 rfl (sx_iconst dX12_playing_213 rfl (sx_scall dX12_playing_214 cf_X12_levelAt (mg_9 (List.mem_of_getElem? (i := 44) rfl) rfl) (mg_9 (List.mem_of_getElem? (i := 45) rfl) rfl) c_X12_levelAt (sx_vcall dX12_playing_217 cf_X12_restores (mg_8 (List.mem_of_getElem? (i := 207) rfl) rfl) (mg_8 (List.mem_of_getElem? (i := 209) rfl) rfl) (mg_p (List.mem_of_getElem? (i := 106) rfl) rfl) rfl c_X12_restores (sx_aload_n dX12_playing_220 rfl (sx_getR dX12_playing_221 fl_FootQuarrelModel_50 (fun _ _ _ => rfl) (sx_iconst dX12_playing_224 rfl (sx_iald dX12_playing_225 (sx_iret dX12_playing_226 rfl))))))))) (sx_aload_n dX12_playing_54 rfl (sx_iload dX12_playing_55 (sx_scall dX12_playing_57 cf_X12_levelAt (mg_9 (List.mem_of_getElem? (i := 44) rfl) rfl) (mg_9 (List.mem_of_getElem? (i := 45) rfl) rfl) c_X12_levelAt (sx_vcall dX12_playing_60 cf_X12_restores (mg_8 (List.mem_of_getElem? (i := 207) rfl) rfl) (mg_8 (List.mem_of_getElem? (i := 209) rfl) rfl) (mg_p (List.mem_of_getElem? (i := 106) rfl) rfl) rfl c_X12_restores (b_X12_playing_63))))))
def B_X12_playing_0 (l : Launch) (G : GT) (D mc ms : Nat) (Q : Post) : Cn := ix_aload 0 (ix_aload 0 (ix_iload 1 (ix_vcall 12 2 0 0 mc ms (sp_X12_homeOf G) (ix_vcall 12 2 0 0 mc ms (sp_X12_wideOf G) (ix_istore 4 (ix_aload 0 (ix_pushI 1 (ix_putI 12 27 (ix_iload 3 (ix_if_ne (ix_pushI 0 (ix_istore 5 (ix_aload 0 (ix_getR 12 25 (ix_pushI 0 (ix_pushI (-1) (ix_iast (ix_aload 0 (ix_getR 12 26 (ix_pushI 0 (ix_pushI 1000000 (ix_iast (ix_aload 0 (ix_pushI 0 (ix_call 1 0 0 mc ms (sp_X12_levelAt G) (ix_vcall 12 2 0 0 mc ms (sp_X12_keeps G) (fqAt l G M_X12_playing (D + 5) mc ms Q 49))))))))))))))))) (ix_pushI 0 (ix_iret mc ms Q))))))))))))
theorem b_X12_playing_0 {l : Launch} {G : GT} {D mc ms : Nat} {Q : Post} : Imp l G M_X12_playing (D + 5) mc ms Q (B_X12_playing_0 l G D mc ms Q) 0 := sx_aload_n dX12_playing_0 rfl (sx_aload_n dX12_playing_1 rfl (sx_iload_n dX12_playing_2 rfl (sx_vcall dX12_playing_3 cf_X12_homeOf (mg_8 (List.mem_of_getElem? (i := 26) rfl) rfl) (mg_8 (List.mem_of_getElem? (i := 28) rfl) rfl) (mg_p (List.mem_of_getElem? (i := 83) rfl) rfl) rfl c_X12_homeOf (sx_vcall dX12_playing_6 cf_X12_wideOf (mg_8 (List.mem_of_getElem? (i := 7) rfl) rfl) (mg_8 (List.mem_of_getElem? (i := 9) rfl) rfl) (mg_p (List.mem_of_getElem? (i := 80) rfl) rfl) rfl c_X12_wideOf (sx_istore dX12_playing_9 (by decide) (sx_aload_n dX12_playing_11 rfl (sx_iconst dX12_playing_12 rfl (sx_putI dX12_playing_13 fl_FootQuarrelModel_377 (by decide) (fun _ _ _ => rfl) (fun _ => ⟨rfl, rfl⟩) (sx_iload_n dX12_playing_16 rfl (sx_if_ne 22 dX12_playing_17 (by decide) (sx_iconst dX12_playing_22 rfl (sx_istore dX12_playing_23 (by decide) (sx_aload_n dX12_playing_25 rfl (sx_getR dX12_playing_26 fl_FootQuarrelModel_47 (fun _ _ _ => rfl) (sx_iconst dX12_playing_29 rfl (sx_iconst dX12_playing_30 rfl (sx_iast dX12_playing_31 (sx_aload_n dX12_playing_32 rfl (sx_getR dX12_playing_33 fl_FootQuarrelModel_50 (fun _ _ _ => rfl) (sx_iconst dX12_playing_36 rfl (sx_ldcw dX12_playing_37 (mg_9 (List.mem_of_getElem? (i := 43) rfl) rfl) (sx_iast dX12_playing_40 (sx_aload_n dX12_playing_41 rfl (sx_iconst dX12_playing_42 rfl (sx_scall dX12_playing_43 cf_X12_levelAt (mg_9 (List.mem_of_getElem? (i := 44) rfl) rfl) (mg_9 (List.mem_of_getElem? (i := 45) rfl) rfl) c_X12_levelAt (sx_vcall dX12_playing_46 cf_X12_keeps (mg_8 (List.mem_of_getElem? (i := 203) rfl) rfl) (mg_8 (List.mem_of_getElem? (i := 205) rfl) rfl) (mg_p (List.mem_of_getElem? (i := 105) rfl) rfl) rfl c_X12_keeps ((fun _ _ _ _ _ _ _ _ h => h)))))))))))))))))) (sx_iconst dX12_playing_20 rfl (sx_iret dX12_playing_21 rfl))))))))))))
/-- the say of the one whose turn it is -/
def syL (A : Nat → Int32) (p q x y L : Nat) : Nat → Int32 := if L % 2 = 0 then syX A p q x y else syX A q p y x
/-- what comes of a game, f turns left -/
def gmV (p q x y : Nat) (old : Int32) : Nat → Nat → (Nat → Int32) → Int32
  | 0, _, A => A (12 + 3 * x) - old
  | f + 1, L, A => wgh L (gmV p q x y old f (L + 1) (syL A p q x y L)) (gmV p q x y old f (L + 1) A)
/-- what a say needs of the row -/
def wgA (A : Nat → Int32) (p q x y : Nat) : Prop := okN (A 2) 20 ∧ (A 7 = 0 ∨ A 7 = 1) ∧ A (30 + 7 * p) = nI x ∧ A (30 + 7 * q) = nI y ∧ 0 ≤ A (30 + 7 * p + 3) ∧ 0 ≤ A (30 + 7 * q + 3)
theorem syX_cg {A B : Nat → Int32} {p q x y : Nat} (hp : p < 8) (hq : q < 8) (hx : x < 6) (hy : y < 6) (h : ∀ k, k < 226 → B k = A k) : ∀ k, k < 226 → syX B p q x y k = syX A p q x y k := by
  intro k hk
  have e := rqr_cg hp hq hx hy h
  have w : ∀ u n j, j < 226 → wbX B p q x y u n j = wbX A p q x y u n j := by
    intro u n j hj
    unfold wbX wbR
    rw [h _ hj, h (12 + 3 * x + 2) (by omega), h (12 + 3 * y + 2) (by omega), h 9 (by omega), h 10 (by omega)]
  unfold syX
  rw [e]
  split
  · exact w _ _ _ hk
  · have f : ftX B x y (rqr A p q x y).2 = ftX A x y (rqr A p q x y).2 := by
      unfold ftX
      rw [h (12 + 3 * x) (by omega), h (12 + 3 * y) (by omega)]
    rw [f]
    unfold kqA
    rw [w _ _ _ hk, w _ _ 6 (by omega), w _ _ 2 (by omega)]
    by_cases h9 : 93 ≤ k ∧ k ≤ 225
    · rw [if_pos h9, if_pos h9, w _ _ _ (by omega)]
    · rw [if_neg h9, if_neg h9]
theorem syX_2 {A : Nat → Int32} {p q x y : Nat} (hp : p < 8) (hq : q < 8) (hx : x < 6) (hy : y < 6) (ho : okN (A 2) 20) : okN (syX A p q x y 2) 20 := by
  obtain ⟨c, hc, hc1, hc2⟩ := ho.ex
  unfold syX
  split
  · rw [wbX_o hp hq hx hy (by omega)]
    exact ho
  · have e : ∀ (B : Nat → Int32) wl on ot mn ft, kqA B wl on ot mn ft 2 = nI (min ((B 2).toNatClampNeg + 1) 20) := by
      intro B wl on ot mn ft
      unfold kqA
      simp
    rw [e]
    exact okN.nI (by omega) (by decide)
theorem wbX_7 {A : Nat → Int32} {p q x y n k : Nat} {u : S8} (hk : k < 9) : wbX A p q x y u n k = A k := by
  unfold wbX wbR
  rw [if_neg (by omega), if_neg (by omega), if_neg (by omega), if_neg (by omega), if_neg (by omega), if_neg (by omega), if_neg (by omega), if_neg (by omega), if_neg (by omega), if_neg (by omega)]
theorem syX_k {A : Nat → Int32} {p q x y k : Nat} (hk : k < 9) (h2 : k ≠ 2) : syX A p q x y k = A k := by
  unfold syX
  split
  · exact wbX_7 hk
  · rw [kqA_o (by omega)]
    exact wbX_7 hk
theorem wgA.sy {A : Nat → Int32} {p q x y p' q' x' y' : Nat} (hp : p' < 8) (hq : q' < 8) (hx : x' < 6) (hy : y' < 6) (hp1 : p < 8) (hq1 : q < 8) (h : wgA A p q x y) : wgA (syX A p' q' x' y') p q x y := by
  obtain ⟨h1, h2, h3, h4, h5, h6⟩ := h
  refine ⟨syX_2 hp hq hx hy h1, ?_, ?_, ?_, ?_, ?_⟩
  · rw [syX_k (by omega) (by omega)]; exact h2
  · rw [syX_o hp hq hx hy (by omega)]; exact h3
  · rw [syX_o hp hq hx hy (by omega)]; exact h4
  · rw [syX_o hp hq hx hy (by omega)]; exact h5
  · rw [syX_o hp hq hx hy (by omega)]; exact h6
theorem wgA.cg {A B : Nat → Int32} {p q x y : Nat} (hp : p < 8) (hq : q < 8) (h : wgA A p q x y) (hb : ∀ k, k < 226 → B k = A k) : wgA B p q x y := by
  unfold wgA
  rw [hb 2 (by omega), hb 7 (by omega), hb _ (by omega), hb _ (by omega), hb _ (by omega), hb _ (by omega)]
  exact h
theorem syL_cg {A B : Nat → Int32} {p q x y L : Nat} (hp : p < 8) (hq : q < 8) (hx : x < 6) (hy : y < 6) (h : ∀ k, k < 226 → B k = A k) : ∀ k, k < 226 → syL B p q x y L k = syL A p q x y L k := by
  unfold syL
  split
  · exact syX_cg hp hq hx hy h
  · exact syX_cg hq hp hy hx h
theorem gmV_cg {p q x y : Nat} {old : Int32} (hp : p < 8) (hq : q < 8) (hx : x < 6) (hy : y < 6) : ∀ (f L : Nat) (A B : Nat → Int32), (∀ k, k < 226 → B k = A k) → gmV p q x y old f L B = gmV p q x y old f L A
  | 0, L, A, B, h => by
    unfold gmV
    rw [h _ (by omega)]
  | f + 1, L, A, B, h => by
    unfold gmV
    rw [gmV_cg hp hq hx hy f (L + 1) A B h, gmV_cg hp hq hx hy f (L + 1) _ _ (syL_cg hp hq hx hy h)]
/-- what a game may have changed from level L on -/
def frG (M L : Nat) (I1 I2 : IH) : Prop := (∀ a, a ≠ M → a ≠ M + 1 → a ≠ M + 9 → a ≠ M + 10 → I2 a = I1 a) ∧ (∀ k, k ≠ 27 → I2 M k = I1 M k) ∧ (∀ j, 226 ≤ j → j < 3564 + 226 * L → I2 (M + 1) j = I1 (M + 1) j) ∧ (∀ j, j < L → I2 (M + 9) j = I1 (M + 9) j) ∧ ∀ j, j < L → I2 (M + 10) j = I1 (M + 10) j
theorem frG.tr {M L : Nat} {I1 I2 I3 : IH} (h : frG M L I1 I2) (g : frG M L I2 I3) : frG M L I1 I3 := ⟨fun a h1 h2 h3 h4 => (g.1 a h1 h2 h3 h4).trans (h.1 a h1 h2 h3 h4), fun k hk => (g.2.1 k hk).trans (h.2.1 k hk), fun j h1 h2 => (g.2.2.1 j h1 h2).trans (h.2.2.1 j h1 h2), fun j hj => (g.2.2.2.1 j hj).trans (h.2.2.2.1 j hj), fun j hj => (g.2.2.2.2 j hj).trans (h.2.2.2.2 j hj)⟩
theorem frG.dn {M L : Nat} {I1 I2 : IH} (h : frG M (L + 1) I1 I2) : frG M L I1 I2 := ⟨h.1, h.2.1, fun j h1 h2 => h.2.2.1 j h1 (by omega), fun j hj => h.2.2.2.1 j (by omega), fun j hj => h.2.2.2.2 j (by omega)⟩
/-- the weighing of level L in the pool -/
def wgI (I : IH) (M L : Nat) (its : Int32) : IH := if kpC L (I (M + 10) L) its then I else if L = 0 then u2 (u2 I (M + 10) 0 its) M 27 (I (M + 9) 0) else u2 I (M + 10) L its
theorem wgI_c (I : IH) (M L : Nat) (its : Int32) : wgI I M L its (M + 10) L = wgh L (I (M + 10) L) its := by
  unfold wgI wgh
  split
  · rfl
  · split
    · next h => rw [u2_ca _ _ _ _ _ _ (by omega), h, u2_same]
    · rw [u2_same]
theorem wgI_fr (I : IH) (M L : Nat) (its : Int32) : frG M L I (wgI I M L its) := by
  unfold wgI
  refine ⟨fun a h1 h2 h3 h4 => ?_, fun k hk => ?_, fun j h1 h2 => ?_, fun j hj => ?_, fun j hj => ?_⟩
  · split
    · rfl
    · split
      · rw [u2_ne h1, u2_ne h4]
      · rw [u2_ne h4]
  · split
    · rfl
    · split
      · rw [u2_ck _ _ _ _ _ _ hk, u2_ca _ _ _ _ _ _ (by omega)]
      · rw [u2_ca _ _ _ _ _ _ (by omega)]
  · split
    · rfl
    · split
      · rw [u2_ca _ _ _ _ _ _ (by omega), u2_ca _ _ _ _ _ _ (by omega)]
      · rw [u2_ca _ _ _ _ _ _ (by omega)]
  · split
    · rfl
    · split
      · rw [u2_ca _ _ _ _ _ _ (by omega), u2_ca _ _ _ _ _ _ (by omega)]
      · rw [u2_ca _ _ _ _ _ _ (by omega)]
  · split
    · rfl
    · split
      · omega
      · rw [u2_ck _ _ _ _ _ _ (by omega)]
theorem wgI_a (I : IH) (M L : Nat) (its : Int32) (a : Nat) (h1 : a ≠ M) (h2 : a ≠ M + 10) : wgI I M L its a = I a := by
  unfold wgI
  split
  · rfl
  · split
    · rw [u2_ne h1, u2_ne h2]
    · rw [u2_ne h2]
theorem wgI_27 (I : IH) (M L : Nat) (its : Int32) (h : ¬ L = 0) : wgI I M L its M 27 = I M 27 := by
  unfold wgI
  split
  · rfl
  · rw [u2_ca _ _ _ _ _ _ (by omega)]
theorem wgI_270 (I : IH) (M : Nat) (its : Int32) : wgI I M 0 its M 27 = if kpC 0 (I (M + 10) 0) its then I M 27 else I (M + 9) 0 := by
  unfold wgI
  split
  · rfl
  · rw [if_pos rfl, u2_same]
def GAt (l : Launch) (G : GT) (D : Nat) (S : Sh) (J : JH) (z : Nat) (Q : Post) (M p q tn : Nat) (old : Int32) (lv : Int32) (I1 : IH) : Prop := fqAt l G M_X12_playing (D + 5) 0 0 Q 49 [some (.ref M), some (.int (nI p)), some (.int (nI q)), some (.int (nI tn)), some (.int old), some (.int lv)] [] S I1 J z 0 0
/-- behind level L -/
def GRet (l : Launch) (G : GT) (D : Nat) (S : Sh) (J : JH) (z : Nat) (Q : Post) (M p q tn : Nat) (old : Int32) (L : Nat) (I2 : IH) : Prop := if L = 0 then GAt l G D S J z Q M p q tn old (-1) I2 else GAt l G D S J z Q M p q tn old (nI (L - 1)) (wgI I2 M (L - 1) (I2 (M + 10) L))
def gtf (p q x y : Nat) (old : Int32) (f : Nat) (A : Nat → Int32) : Int32 := if kpC 0 (gmV p q x y old f 1 (syL A p q x y 0)) (gmV p q x y old f 1 A) then 0 else 1
def GClaim (l : Launch) (G : GT) (D : Nat) (S : Sh) (J : JH) (z : Nat) (Q : Post) (M p q x y tn : Nat) (old : Int32) (f L : Nat) : Prop := ∀ (A : Nat → Int32) (I1 : IH), wgA A p q x y → (∀ k, k < 226 → I1 (M + 1) (3564 + 226 * L + k) = A k) → I1 (M + 9) L = -1 → I1 (M + 10) L = 1000000 → (∀ I2, frG M L I1 I2 → (∀ k, k < 226 → I2 (M + 1) (3564 + 226 * L + k) = A k) → I2 (M + 10) L = gmV p q x y old (f + 1) L A → (¬ L = 0 → I2 M 27 = I1 M 27) → (L = 0 → I2 M 27 = gtf p q x y old f A) → GRet l G D S J z Q M p q tn old L I2) → GAt l G D S J z Q M p q tn old (nI L) I1
set_option maxHeartbeats 4000000 in
set_option maxRecDepth 20000 in
theorem gm_C {l : Launch} {G : GT} {D : Nat} {S : Sh} {J : JH} {z : Nat} {Q : Post} {M p q x y tn : Nat} {old : Int32} (hm : rfS S M) (hp : p < 8) (hq : q < 8) (hx : x < 6) (hy : y < 6) (htn : tn ≤ 4) (f L : Nat) (hL : L + f + 1 = tn) (ih : ∀ f', f = f' + 1 → GClaim l G D S J z Q M p q x y tn old f' (L + 1)) (A : Nat → Int32) (I3 : IH) (hw : wgA A p q x y) (hA : ∀ k, k < 226 → I3 (M + 1) k = A k) (K : ∀ I2, frG M L I3 I2 → (∀ k, k < 226 → I2 (M + 1) (3564 + 226 * L + k) = I3 (M + 1) (3564 + 226 * L + k)) → I2 (M + 9) L = I3 (M + 9) L → I2 (M + 10) L = wgh L (I3 (M + 10) L) (gmV p q x y old f (L + 1) A) → (¬ L = 0 → I2 M 27 = I3 M 27) → (L = 0 → I2 M 27 = if kpC 0 (I3 (M + 10) 0) (gmV p q x y old f 1 A) then I3 M 27 else I3 (M + 9) 0) → GAt l G D S J z Q M p q tn old (nI L) I2) : B_X12_playing_150 l G D 0 0 Q [some (.ref M), some (.int (nI p)), some (.int (nI q)), some (.int (nI tn)), some (.int old), some (.int (nI L))] [] S I3 J z 0 0 := by
  have hx1 := hw.2.2.1
  cases f with
  | zero =>
    have e1 := hA (30 + 7 * p) (by omega)
    have e2 := hA (12 + 3 * x) (by omega)
    rw [hx1] at e1
    simp (disch := omega) only [B_X12_playing_150, sp_X12_weighs, sp_X12_homeOf, B_X12_homeOf_0, sp_X12_personOf, B_X12_personOf_0, sp_X12_personRow, B_X12_personRow_0, sp_X12_wideOf, B_X12_wideOf_0, sp_X12_houseRow, B_X12_houseRow_0, hm, hm.k, hm.k1, hm.n1, hm.r1, hm.k2, hm.n2, hm.r2, hm.k3, hm.n3, hm.r3, hm.k4, hm.n4, hm.r4, hm.k5, hm.n5, hm.r5, hm.k6, hm.n6, hm.r6, hm.k7, hm.n7, hm.r7, hm.k8, hm.n8, hm.r8, hm.k9, hm.n9, hm.r9, hm.k10, hm.n10, hm.r10, hm.k11, hm.n11, hm.r11, hm.k12, hm.n12, hm.r12, hm.k13, hm.n13, hm.r13, hm.k14, hm.n14, hm.r14, e1, e2, nI_1, nI_add, nI_clamp, nI_pin, nI_neg, nI_nonneg, nI_leE, nI_ltE, nI_eqE, Nat.not_le, Nat.not_lt, fq_10, fq_01, fq_rr, li_2, li_3, li_4, li_5, li_6, li_7, li_8, li_9, li_10, li_11, li_12, li_13, li_14, li_15, li_16, li_17, li_18, li_19, li_20, li_21, li_22, li_23, li_24, li_25, li_26, li_27, li_28, li_29, li_30, li_32, li_33, li_34, li_35, li_36, li_37, li_38, li_39, li_40, li_41, li_42, li_43, li_44, li_45, li_46, li_47, li_48, li_49, li_50, li_51, li_52, li_53, li_54, li_55, li_56, li_57, li_58, li_59, li_60, li_61, li_62, li_63, li_64, li_65, li_66, li_67, li_68, li_69, li_70, li_71, li_72, li_73, li_74, li_75, li_76, li_77, li_78, li_79, li_80, li_81, li_82, li_83, li_84, li_85, li_86, li_87, li_88, li_89, li_90, li_91, li_92, li_93, li_94, li_95, li_96, li_97, li_98, li_99, li_100, li_101, li_102, li_103, li_104, li_105, li_106, li_107, li_108, li_109, li_110, li_111, li_112, li_113, li_114, li_115, li_116, li_117, li_118, li_119, li_120, li_121, li_122, li_123, li_124, li_125, li_126, li_127, li_128, li_129, li_130, li_131, li_226, li_240, li_255, li_300, li_586, li_594, li_900, li_999, li_1000, li_1800, li_2376, li_2388, li_2406, li_2602, li_2970, li_3067, li_3564, li_9999, li_10000, li_11287, li_65536, li_100000, li_1000000, nI_mul, tn0, tn1, vin0, vin1, Int32.add_zero, Int32.or_zero, Int32.mul_one, Int32.mul_zero, Int32.zero_add, Nat.reduceEqDiff, Nat.reduceMul, Nat.reduceSub, ix_aald, ix_aast, ix_abs, ix_alen, ix_aload, ix_aret, ix_astore, ix_bald, ix_bast, ix_call, ix_cpyI, ix_cpyJ, ix_dead, ix_dup2, ix_dup2L, ix_dupI, ix_dupR, ix_dupx1, ix_getI, ix_getJ, ix_getR, ix_gfm, ix_gtab, ix_i2b, ix_i2c, ix_i2l, ix_i2s, ix_iadd, ix_iald, ix_iand, ix_iast, ix_icall, ix_icmp_eq, ix_icmp_ge, ix_icmp_gt, ix_icmp_le, ix_icmp_lt, ix_icmp_ne, ix_idiv, ix_if_eq, ix_if_ge, ix_if_gt, ix_if_le, ix_if_lt, ix_if_ne, ix_iinc, ix_iload, ix_imul, ix_ineg, ix_ior, ix_irem, ix_iret, ix_ishl, ix_ishr, ix_istore, ix_isub, ix_iushr, ix_ixor, ix_l2i, ix_ladd, ix_lald, ix_land, ix_last, ix_lcmp, ix_ldcS, ix_ldiv, ix_lload, ix_lmul, ix_lor, ix_lrem, ix_lret, ix_lshl, ix_lstore, ix_lsub, ix_lsw, ix_max, ix_min, ix_new, ix_newa, ix_nret, ix_oinit, ix_pop2L, ix_popI, ix_pushI, ix_pushL, ix_putI, ix_putJ, ix_putR, ix_putZ, ix_sbald, ix_sgetC, ix_sgetV, ix_slen, ix_strc, ix_tald, ix_tsw, ix_vcall, ix_vret, ix_zret, stL, stL2, kilL, popN, fq_sw, fq_lsw, List.map_cons, List.map_nil, List.getElem?_cons_zero, List.getElem?_cons_succ, Option.toList_some, Option.toList_none, List.cons_append, List.nil_append, List.length_cons, List.length_nil, List.sum_cons, List.sum_nil, cat_i, cat_l, cat_r, true_and, and_true, Nat.zero_add, Nat.add_zero, Nat.le_refl, Nat.zero_le, Nat.reduceAdd, Nat.reduceLeDiff, exists_eq_left', Option.some.injEq, not_true_eq_false, not_false_eq_true, false_implies, true_implies, implies_true, and_self, or_true, true_or, or_false, false_or]
    refine ⟨fun _ => ?_, fun h => absurd h (by omega)⟩
    have hz : GAt l G D S J z Q M p q tn old (nI L) (wgI I3 M L (A (12 + 3 * x) - old)) := K _ (wgI_fr _ _ _ _) (fun k hk => by rw [wgI_a _ _ _ _ (M + 1) (by omega) (by omega)]) (by rw [wgI_a _ _ _ _ (M + 9) (by omega) (by omega)]) (by rw [wgI_c]; rfl) (fun h => wgI_27 _ _ _ _ h) (fun h => by subst h; rw [wgI_270]; rfl)
    unfold wgI at hz
    refine ⟨fun g => ?_, fun g => ⟨fun g2 => ?_, fun g2 => ?_⟩⟩
    · rw [if_pos g] at hz
      exact hz
    · rw [if_neg g, if_pos g2] at hz
      exact hz
    · rw [if_neg g, if_neg g2] at hz
      exact hz
  | succ f =>
    have ih := ih f rfl
    unfold GClaim at ih
    simp (disch := omega) only [B_X12_playing_150, sp_X12_keeps, sp_X12_levelAt, B_X12_levelAt_0, hm, hm.k, hm.k1, hm.n1, hm.r1, hm.k2, hm.n2, hm.r2, hm.k3, hm.n3, hm.r3, hm.k4, hm.n4, hm.r4, hm.k5, hm.n5, hm.r5, hm.k6, hm.n6, hm.r6, hm.k7, hm.n7, hm.r7, hm.k8, hm.n8, hm.r8, hm.k9, hm.n9, hm.r9, hm.k10, hm.n10, hm.r10, hm.k11, hm.n11, hm.r11, hm.k12, hm.n12, hm.r12, hm.k13, hm.n13, hm.r13, hm.k14, hm.n14, hm.r14, nI_1, nI_add, nI_clamp, nI_pin, nI_neg, nI_nonneg, nI_leE, nI_ltE, nI_eqE, Nat.not_le, Nat.not_lt, fq_10, fq_01, fq_rr, li_2, li_3, li_4, li_5, li_6, li_7, li_8, li_9, li_10, li_11, li_12, li_13, li_14, li_15, li_16, li_17, li_18, li_19, li_20, li_21, li_22, li_23, li_24, li_25, li_26, li_27, li_28, li_29, li_30, li_32, li_33, li_34, li_35, li_36, li_37, li_38, li_39, li_40, li_41, li_42, li_43, li_44, li_45, li_46, li_47, li_48, li_49, li_50, li_51, li_52, li_53, li_54, li_55, li_56, li_57, li_58, li_59, li_60, li_61, li_62, li_63, li_64, li_65, li_66, li_67, li_68, li_69, li_70, li_71, li_72, li_73, li_74, li_75, li_76, li_77, li_78, li_79, li_80, li_81, li_82, li_83, li_84, li_85, li_86, li_87, li_88, li_89, li_90, li_91, li_92, li_93, li_94, li_95, li_96, li_97, li_98, li_99, li_100, li_101, li_102, li_103, li_104, li_105, li_106, li_107, li_108, li_109, li_110, li_111, li_112, li_113, li_114, li_115, li_116, li_117, li_118, li_119, li_120, li_121, li_122, li_123, li_124, li_125, li_126, li_127, li_128, li_129, li_130, li_131, li_226, li_240, li_255, li_300, li_586, li_594, li_900, li_999, li_1000, li_1800, li_2376, li_2388, li_2406, li_2602, li_2970, li_3067, li_3564, li_9999, li_10000, li_11287, li_65536, li_100000, li_1000000, nI_mul, tn0, tn1, vin0, vin1, Int32.add_zero, Int32.or_zero, Int32.mul_one, Int32.mul_zero, Int32.zero_add, Nat.reduceEqDiff, Nat.reduceMul, Nat.reduceSub, ix_aald, ix_aast, ix_abs, ix_alen, ix_aload, ix_aret, ix_astore, ix_bald, ix_bast, ix_call, ix_cpyI, ix_cpyJ, ix_dead, ix_dup2, ix_dup2L, ix_dupI, ix_dupR, ix_dupx1, ix_getI, ix_getJ, ix_getR, ix_gfm, ix_gtab, ix_i2b, ix_i2c, ix_i2l, ix_i2s, ix_iadd, ix_iald, ix_iand, ix_iast, ix_icall, ix_icmp_eq, ix_icmp_ge, ix_icmp_gt, ix_icmp_le, ix_icmp_lt, ix_icmp_ne, ix_idiv, ix_if_eq, ix_if_ge, ix_if_gt, ix_if_le, ix_if_lt, ix_if_ne, ix_iinc, ix_iload, ix_imul, ix_ineg, ix_ior, ix_irem, ix_iret, ix_ishl, ix_ishr, ix_istore, ix_isub, ix_iushr, ix_ixor, ix_l2i, ix_ladd, ix_lald, ix_land, ix_last, ix_lcmp, ix_ldcS, ix_ldiv, ix_lload, ix_lmul, ix_lor, ix_lrem, ix_lret, ix_lshl, ix_lstore, ix_lsub, ix_lsw, ix_max, ix_min, ix_new, ix_newa, ix_nret, ix_oinit, ix_pop2L, ix_popI, ix_pushI, ix_pushL, ix_putI, ix_putJ, ix_putR, ix_putZ, ix_sbald, ix_sgetC, ix_sgetV, ix_slen, ix_strc, ix_tald, ix_tsw, ix_vcall, ix_vret, ix_zret, stL, stL2, kilL, popN, fq_sw, fq_lsw, List.map_cons, List.map_nil, List.getElem?_cons_zero, List.getElem?_cons_succ, Option.toList_some, Option.toList_none, List.cons_append, List.nil_append, List.length_cons, List.length_nil, List.sum_cons, List.sum_nil, cat_i, cat_l, cat_r, true_and, and_true, Nat.zero_add, Nat.add_zero, Nat.le_refl, Nat.zero_le, Nat.reduceAdd, Nat.reduceLeDiff, exists_eq_left', Option.some.injEq, not_true_eq_false, not_false_eq_true, false_implies, true_implies, implies_true, and_self, or_true, true_or, or_false, false_or]
    refine ⟨fun h => absurd h (by omega), fun _ => ⟨3564 + 226 * (L + 1), rfl, by omega, by omega, ?_⟩⟩
    rw [← li_1000000]
    have c1 : ∀ j, u2 (u2 I3 (M + 9) (L + 1) (-1)) (M + 10) (L + 1) 1000000 (M + 1) j = I3 (M + 1) j := fun j => by rw [u2_ca _ _ _ _ _ _ (by omega), u2_ca _ _ _ _ _ _ (by omega)]
    have c2 : ∀ j, j ≤ L → up1 (u2 (u2 I3 (M + 9) (L + 1) (-1)) (M + 10) (L + 1) 1000000) (M + 1) (cpR (u2 (u2 I3 (M + 9) (L + 1) (-1)) (M + 10) (L + 1) 1000000 (M + 1)) (3564 + 226 * (L + 1)) 0 226) (M + 9) j = I3 (M + 9) j := fun j hj => by rw [up1_o _ _ _ _ (by omega), u2_ca _ _ _ _ _ _ (by omega), u2_ck _ _ _ _ _ _ (by omega)]
    have c3 : ∀ j, j ≤ L → up1 (u2 (u2 I3 (M + 9) (L + 1) (-1)) (M + 10) (L + 1) 1000000) (M + 1) (cpR (u2 (u2 I3 (M + 9) (L + 1) (-1)) (M + 10) (L + 1) 1000000 (M + 1)) (3564 + 226 * (L + 1)) 0 226) (M + 10) j = I3 (M + 10) j := fun j hj => by rw [up1_o _ _ _ _ (by omega), u2_ck _ _ _ _ _ _ (by omega), u2_ca _ _ _ _ _ _ (by omega)]
    have c4 : ∀ k, up1 (u2 (u2 I3 (M + 9) (L + 1) (-1)) (M + 10) (L + 1) 1000000) (M + 1) (cpR (u2 (u2 I3 (M + 9) (L + 1) (-1)) (M + 10) (L + 1) 1000000 (M + 1)) (3564 + 226 * (L + 1)) 0 226) M k = I3 M k := fun k => by rw [up1_o _ _ _ _ (by omega), u2_ca _ _ _ _ _ _ (by omega), u2_ca _ _ _ _ _ _ (by omega)]
    have c5 : ∀ j, j < 3564 + 226 * (L + 1) → up1 (u2 (u2 I3 (M + 9) (L + 1) (-1)) (M + 10) (L + 1) 1000000) (M + 1) (cpR (u2 (u2 I3 (M + 9) (L + 1) (-1)) (M + 10) (L + 1) 1000000 (M + 1)) (3564 + 226 * (L + 1)) 0 226) (M + 1) j = I3 (M + 1) j := fun j hj => by rw [up1_at, cpR_r _ _ _ _ _ (by omega), c1]
    have c6 : ∀ a, a ≠ M → a ≠ M + 1 → a ≠ M + 9 → a ≠ M + 10 → up1 (u2 (u2 I3 (M + 9) (L + 1) (-1)) (M + 10) (L + 1) 1000000) (M + 1) (cpR (u2 (u2 I3 (M + 9) (L + 1) (-1)) (M + 10) (L + 1) 1000000 (M + 1)) (3564 + 226 * (L + 1)) 0 226) a = I3 a := fun a h1 h2 h3 h4 => by rw [up1_o _ _ _ _ h2, u2_ne h4, u2_ne h3]
    have c7 : ∀ k, k < 226 → up1 (u2 (u2 I3 (M + 9) (L + 1) (-1)) (M + 10) (L + 1) 1000000) (M + 1) (cpR (u2 (u2 I3 (M + 9) (L + 1) (-1)) (M + 10) (L + 1) 1000000 (M + 1)) (3564 + 226 * (L + 1)) 0 226) (M + 1) (3564 + 226 * (L + 1) + k) = A k := fun k hk => by rw [up1_at, cpR_i _ _ _ _ _ hk, c1, Nat.zero_add, hA k hk]
    have c8 : up1 (u2 (u2 I3 (M + 9) (L + 1) (-1)) (M + 10) (L + 1) 1000000) (M + 1) (cpR (u2 (u2 I3 (M + 9) (L + 1) (-1)) (M + 10) (L + 1) 1000000 (M + 1)) (3564 + 226 * (L + 1)) 0 226) (M + 9) (L + 1) = -1 := by rw [up1_o _ _ _ _ (by omega), u2_ca _ _ _ _ _ _ (by omega), u2_same]
    have c9 : up1 (u2 (u2 I3 (M + 9) (L + 1) (-1)) (M + 10) (L + 1) 1000000) (M + 1) (cpR (u2 (u2 I3 (M + 9) (L + 1) (-1)) (M + 10) (L + 1) 1000000 (M + 1)) (3564 + 226 * (L + 1)) 0 226) (M + 10) (L + 1) = 1000000 := by rw [up1_o _ _ _ _ (by omega), u2_same]
    generalize up1 (u2 (u2 I3 (M + 9) (L + 1) (-1)) (M + 10) (L + 1) 1000000) (M + 1) (cpR (u2 (u2 I3 (M + 9) (L + 1) (-1)) (M + 10) (L + 1) 1000000 (M + 1)) (3564 + 226 * (L + 1)) 0 226) = I4 at *
    have f4 : frG M L I3 I4 := ⟨c6, fun k _ => c4 k, fun j _ h2 => c5 j (by omega), fun j hj => c2 j (by omega), fun j hj => c3 j (by omega)⟩
    refine ih A I4 hw c7 c8 c9 ?_
    intro I2 fr _ hv h27 _
    unfold GRet
    rw [if_neg (by omega), show L + 1 - 1 = L by omega]
    refine K _ ((f4.tr fr.dn).tr (wgI_fr _ _ _ _)) (fun k hk => ?_) ?_ ?_ (fun h => ?_) (fun h => ?_)
    · rw [wgI_a _ _ _ _ (M + 1) (by omega) (by omega), fr.2.2.1 _ (by omega) (by omega), c5 _ (by omega)]
    · rw [wgI_a _ _ _ _ (M + 9) (by omega) (by omega), fr.2.2.2.1 _ (by omega), c2 _ (by omega)]
    · rw [wgI_c, fr.2.2.2.2 _ (by omega), c3 _ (by omega), hv]
    · rw [wgI_27 _ _ _ _ h, h27 (by omega), c4]
    · subst h
      rw [wgI_270, fr.2.2.2.2 _ (by omega), c3 _ (by omega), fr.2.2.2.1 _ (by omega), c2 _ (by omega), hv, h27 (by omega), c4]
theorem lvl_m (L : Nat) (hL : L < 5) : nI L - 1 = if L = 0 then -1 else nI (L - 1) := by
  cases L with
  | zero => rfl
  | succ L => rw [nI_pred, if_neg (by omega), Nat.add_sub_cancel]
set_option maxHeartbeats 4000000 in
set_option maxRecDepth 20000 in
theorem gm_H {l : Launch} {G : GT} {D : Nat} {S : Sh} {J : JH} {z : Nat} {Q : Post} {M p q x y tn : Nat} {old : Int32} (hm : rfS S M) (hp : p < 8) (hq : q < 8) (hx : x < 6) (hy : y < 6) (hpq : ¬ p = q) (hxy : ¬ x = y) (htn : tn ≤ 4) (f L : Nat) (hL : L + f + 1 = tn) (ih : ∀ f', f = f' + 1 → GClaim l G D S J z Q M p q x y tn old f' (L + 1)) : GClaim l G D S J z Q M p q x y tn old f L := by
  intro A I1 hw hA h9 h10 K
  have e5 : nI L - nI L / nI 2 * nI 2 = nI (L % 2) := t4m L (by omega)
  have e6 : (nI (L % 2) = 0) = (L % 2 = 0) := propext ⟨fun q => nI_i (b := 0) (by omega) (by omega) q, fun q => by rw [q]; rfl⟩
  have st : ∀ (I1 : IH) (o : Int32), (∀ k, k < 226 → I1 (M + 1) (3564 + 226 * L + k) = A k) → I1 (M + 9) L = o → B_X12_playing_63 l G D 0 0 Q [some (.ref M), some (.int (nI p)), some (.int (nI q)), some (.int (nI tn)), some (.int old), some (.int (nI L))] [] S (up1 I1 (M + 1) (cpR (I1 (M + 1)) 0 (3564 + 226 * L) 226)) J z 0 0 → GAt l G D S J z Q M p q tn old (nI L) I1 := by
    intro I1 o hA h9 hb
    unfold GAt
    refine b_X12_playing_49 _ _ _ _ _ _ _ _ ?_
    simp (disch := omega) only [B_X12_playing_49, sp_X12_restores, sp_X12_levelAt, B_X12_levelAt_0, hm, hm.k, hm.k1, hm.n1, hm.r1, hm.k2, hm.n2, hm.r2, hm.k3, hm.n3, hm.r3, hm.k4, hm.n4, hm.r4, hm.k5, hm.n5, hm.r5, hm.k6, hm.n6, hm.r6, hm.k7, hm.n7, hm.r7, hm.k8, hm.n8, hm.r8, hm.k9, hm.n9, hm.r9, hm.k10, hm.n10, hm.r10, hm.k11, hm.n11, hm.r11, hm.k12, hm.n12, hm.r12, hm.k13, hm.n13, hm.r13, hm.k14, hm.n14, hm.r14, nI_1, nI_add, nI_clamp, nI_pin, nI_neg, nI_nonneg, nI_leE, nI_ltE, nI_eqE, Nat.not_le, Nat.not_lt, fq_10, fq_01, fq_rr, li_2, li_3, li_4, li_5, li_6, li_7, li_8, li_9, li_10, li_11, li_12, li_13, li_14, li_15, li_16, li_17, li_18, li_19, li_20, li_21, li_22, li_23, li_24, li_25, li_26, li_27, li_28, li_29, li_30, li_32, li_33, li_34, li_35, li_36, li_37, li_38, li_39, li_40, li_41, li_42, li_43, li_44, li_45, li_46, li_47, li_48, li_49, li_50, li_51, li_52, li_53, li_54, li_55, li_56, li_57, li_58, li_59, li_60, li_61, li_62, li_63, li_64, li_65, li_66, li_67, li_68, li_69, li_70, li_71, li_72, li_73, li_74, li_75, li_76, li_77, li_78, li_79, li_80, li_81, li_82, li_83, li_84, li_85, li_86, li_87, li_88, li_89, li_90, li_91, li_92, li_93, li_94, li_95, li_96, li_97, li_98, li_99, li_100, li_101, li_102, li_103, li_104, li_105, li_106, li_107, li_108, li_109, li_110, li_111, li_112, li_113, li_114, li_115, li_116, li_117, li_118, li_119, li_120, li_121, li_122, li_123, li_124, li_125, li_126, li_127, li_128, li_129, li_130, li_131, li_226, li_240, li_255, li_300, li_586, li_594, li_900, li_999, li_1000, li_1800, li_2376, li_2388, li_2406, li_2602, li_2970, li_3067, li_3564, li_9999, li_10000, li_11287, li_65536, li_100000, li_1000000, nI_mul, tn0, tn1, vin0, vin1, Int32.add_zero, Int32.or_zero, Int32.mul_one, Int32.mul_zero, Int32.zero_add, Nat.reduceEqDiff, Nat.reduceMul, Nat.reduceSub, ix_aald, ix_aast, ix_abs, ix_alen, ix_aload, ix_aret, ix_astore, ix_bald, ix_bast, ix_call, ix_cpyI, ix_cpyJ, ix_dead, ix_dup2, ix_dup2L, ix_dupI, ix_dupR, ix_dupx1, ix_getI, ix_getJ, ix_getR, ix_gfm, ix_gtab, ix_i2b, ix_i2c, ix_i2l, ix_i2s, ix_iadd, ix_iald, ix_iand, ix_iast, ix_icall, ix_icmp_eq, ix_icmp_ge, ix_icmp_gt, ix_icmp_le, ix_icmp_lt, ix_icmp_ne, ix_idiv, ix_if_eq, ix_if_ge, ix_if_gt, ix_if_le, ix_if_lt, ix_if_ne, ix_iinc, ix_iload, ix_imul, ix_ineg, ix_ior, ix_irem, ix_iret, ix_ishl, ix_ishr, ix_istore, ix_isub, ix_iushr, ix_ixor, ix_l2i, ix_ladd, ix_lald, ix_land, ix_last, ix_lcmp, ix_ldcS, ix_ldiv, ix_lload, ix_lmul, ix_lor, ix_lrem, ix_lret, ix_lshl, ix_lstore, ix_lsub, ix_lsw, ix_max, ix_min, ix_new, ix_newa, ix_nret, ix_oinit, ix_pop2L, ix_popI, ix_pushI, ix_pushL, ix_putI, ix_putJ, ix_putR, ix_putZ, ix_sbald, ix_sgetC, ix_sgetV, ix_slen, ix_strc, ix_tald, ix_tsw, ix_vcall, ix_vret, ix_zret, stL, stL2, kilL, popN, fq_sw, fq_lsw, List.map_cons, List.map_nil, List.getElem?_cons_zero, List.getElem?_cons_succ, Option.toList_some, Option.toList_none, List.cons_append, List.nil_append, List.length_cons, List.length_nil, List.sum_cons, List.sum_nil, cat_i, cat_l, cat_r, true_and, and_true, Nat.zero_add, Nat.add_zero, Nat.le_refl, Nat.zero_le, Nat.reduceAdd, Nat.reduceLeDiff, exists_eq_left', Option.some.injEq, not_true_eq_false, not_false_eq_true, false_implies, true_implies, implies_true, and_self, or_true, true_or, or_false, false_or]
    exact ⟨3564 + 226 * L, rfl, by omega, by omega, hb⟩
  have rs : ∀ (I1 : IH) (v : Int32) (k : Nat), u2 (up1 I1 (M + 1) (cpR (I1 (M + 1)) 0 (3564 + 226 * L) 226)) (M + 9) L v (M + 1) k = cpR (I1 (M + 1)) 0 (3564 + 226 * L) 226 k := fun I1 v k => by rw [u2_ca _ _ _ _ _ _ (by omega), up1_at]
  have fr0 : ∀ (I1 : IH) (v : Int32), frG M L I1 (u2 (up1 I1 (M + 1) (cpR (I1 (M + 1)) 0 (3564 + 226 * L) 226)) (M + 9) L v) := fun I1 v => ⟨fun a h1 h2 h3 h4 => by rw [u2_ne h3, up1_o _ _ _ _ h2], fun k hk => by rw [u2_ca _ _ _ _ _ _ (by omega), up1_o _ _ _ _ (by omega)], fun j h1 h2 => by rw [rs, cpR_r _ _ _ _ _ (by omega)], fun j hj => by rw [u2_ck _ _ _ _ _ _ (by omega), up1_o _ _ _ _ (by omega)], fun j hj => by rw [u2_ca _ _ _ _ _ _ (by omega), up1_o _ _ _ _ (by omega)]⟩
  have g10 : ∀ (I1 : IH) (v : Int32) (k : Nat), u2 (up1 I1 (M + 1) (cpR (I1 (M + 1)) 0 (3564 + 226 * L) 226)) (M + 9) L v (M + 10) k = I1 (M + 10) k := fun I1 v k => by rw [u2_ca _ _ _ _ _ _ (by omega), up1_o _ _ _ _ (by omega)]
  have gM : ∀ (I1 : IH) (v : Int32) (k : Nat), u2 (up1 I1 (M + 1) (cpR (I1 (M + 1)) 0 (3564 + 226 * L) 226)) (M + 9) L v M k = I1 M k := fun I1 v k => by rw [u2_ca _ _ _ _ _ _ (by omega), up1_o _ _ _ _ (by omega)]
  have sv : ∀ (I1 : IH) (v : Int32), (∀ k, k < 226 → I1 (M + 1) (3564 + 226 * L + k) = A k) → ∀ k, k < 226 → u2 (up1 I1 (M + 1) (cpR (I1 (M + 1)) 0 (3564 + 226 * L) 226)) (M + 9) L v (M + 1) k = A k := fun I1 v hA k hk => by rw [rs, cpR_z _ _ _ _ hk, hA k hk]
  have sw : ∀ (I1 : IH) (v : Int32) (k : Nat), u2 (up1 I1 (M + 1) (cpR (I1 (M + 1)) 0 (3564 + 226 * L) 226)) (M + 9) L v (M + 1) (3564 + 226 * L + k) = I1 (M + 1) (3564 + 226 * L + k) := fun I1 v k => by rw [rs, cpR_r _ _ _ _ _ (by omega)]
  -- the third time at this level
  have it2 : ∀ I6, frG M L I1 I6 → (∀ k, k < 226 → I6 (M + 1) (3564 + 226 * L + k) = A k) → I6 (M + 9) L = 1 → I6 (M + 10) L = gmV p q x y old (f + 1) L A → (¬ L = 0 → I6 M 27 = I1 M 27) → (L = 0 → I6 M 27 = gtf p q x y old f A) → GAt l G D S J z Q M p q tn old (nI L) I6 := by
    intro I6 fr6 hA6 h96 h106 ht6 hs6
    have hz := K _ (fr6.tr (fr0 I6 2)) (fun k hk => by rw [sw, hA6 k hk]) (by rw [g10]; exact h106) (fun h => by rw [gM]; exact ht6 h) (fun h => by rw [gM]; exact hs6 h)
    have e12 : (1 : Int32) + 1 = nI 2 := rfl
    refine st I6 _ hA6 h96 ?_
    simp (disch := omega) only [B_X12_playing_63, hm, hm.k, hm.k1, hm.n1, hm.r1, hm.k2, hm.n2, hm.r2, hm.k3, hm.n3, hm.r3, hm.k4, hm.n4, hm.r4, hm.k5, hm.n5, hm.r5, hm.k6, hm.n6, hm.r6, hm.k7, hm.n7, hm.r7, hm.k8, hm.n8, hm.r8, hm.k9, hm.n9, hm.r9, hm.k10, hm.n10, hm.r10, hm.k11, hm.n11, hm.r11, hm.k12, hm.n12, hm.r12, hm.k13, hm.n13, hm.r13, hm.k14, hm.n14, hm.r14, up1_at, up1_o, h96, e12, u2_same, nI_1, nI_add, nI_clamp, nI_pin, nI_neg, nI_nonneg, nI_leE, nI_ltE, nI_eqE, Nat.not_le, Nat.not_lt, fq_10, fq_01, fq_rr, li_2, li_3, li_4, li_5, li_6, li_7, li_8, li_9, li_10, li_11, li_12, li_13, li_14, li_15, li_16, li_17, li_18, li_19, li_20, li_21, li_22, li_23, li_24, li_25, li_26, li_27, li_28, li_29, li_30, li_32, li_33, li_34, li_35, li_36, li_37, li_38, li_39, li_40, li_41, li_42, li_43, li_44, li_45, li_46, li_47, li_48, li_49, li_50, li_51, li_52, li_53, li_54, li_55, li_56, li_57, li_58, li_59, li_60, li_61, li_62, li_63, li_64, li_65, li_66, li_67, li_68, li_69, li_70, li_71, li_72, li_73, li_74, li_75, li_76, li_77, li_78, li_79, li_80, li_81, li_82, li_83, li_84, li_85, li_86, li_87, li_88, li_89, li_90, li_91, li_92, li_93, li_94, li_95, li_96, li_97, li_98, li_99, li_100, li_101, li_102, li_103, li_104, li_105, li_106, li_107, li_108, li_109, li_110, li_111, li_112, li_113, li_114, li_115, li_116, li_117, li_118, li_119, li_120, li_121, li_122, li_123, li_124, li_125, li_126, li_127, li_128, li_129, li_130, li_131, li_226, li_240, li_255, li_300, li_586, li_594, li_900, li_999, li_1000, li_1800, li_2376, li_2388, li_2406, li_2602, li_2970, li_3067, li_3564, li_9999, li_10000, li_11287, li_65536, li_100000, li_1000000, nI_mul, tn0, tn1, vin0, vin1, Int32.add_zero, Int32.or_zero, Int32.mul_one, Int32.mul_zero, Int32.zero_add, Nat.reduceEqDiff, Nat.reduceMul, Nat.reduceSub, ix_aald, ix_aast, ix_abs, ix_alen, ix_aload, ix_aret, ix_astore, ix_bald, ix_bast, ix_call, ix_cpyI, ix_cpyJ, ix_dead, ix_dup2, ix_dup2L, ix_dupI, ix_dupR, ix_dupx1, ix_getI, ix_getJ, ix_getR, ix_gfm, ix_gtab, ix_i2b, ix_i2c, ix_i2l, ix_i2s, ix_iadd, ix_iald, ix_iand, ix_iast, ix_icall, ix_icmp_eq, ix_icmp_ge, ix_icmp_gt, ix_icmp_le, ix_icmp_lt, ix_icmp_ne, ix_idiv, ix_if_eq, ix_if_ge, ix_if_gt, ix_if_le, ix_if_lt, ix_if_ne, ix_iinc, ix_iload, ix_imul, ix_ineg, ix_ior, ix_irem, ix_iret, ix_ishl, ix_ishr, ix_istore, ix_isub, ix_iushr, ix_ixor, ix_l2i, ix_ladd, ix_lald, ix_land, ix_last, ix_lcmp, ix_ldcS, ix_ldiv, ix_lload, ix_lmul, ix_lor, ix_lrem, ix_lret, ix_lshl, ix_lstore, ix_lsub, ix_lsw, ix_max, ix_min, ix_new, ix_newa, ix_nret, ix_oinit, ix_pop2L, ix_popI, ix_pushI, ix_pushL, ix_putI, ix_putJ, ix_putR, ix_putZ, ix_sbald, ix_sgetC, ix_sgetV, ix_slen, ix_strc, ix_tald, ix_tsw, ix_vcall, ix_vret, ix_zret, stL, stL2, kilL, popN, fq_sw, fq_lsw, List.map_cons, List.map_nil, List.getElem?_cons_zero, List.getElem?_cons_succ, Option.toList_some, Option.toList_none, List.cons_append, List.nil_append, List.length_cons, List.length_nil, List.sum_cons, List.sum_nil, cat_i, cat_l, cat_r, true_and, and_true, Nat.zero_add, Nat.add_zero, Nat.le_refl, Nat.zero_le, Nat.reduceAdd, Nat.reduceLeDiff, exists_eq_left', Option.some.injEq, not_true_eq_false, not_false_eq_true, false_implies, true_implies, implies_true, and_self, or_true, true_or, or_false, false_or]
    unfold GRet at hz
    by_cases h0 : L = 0
    · subst h0
      rw [if_pos rfl] at hz
      exact ⟨fun _ => hz, fun h => absurd (by decide) h⟩
    · rw [if_neg h0] at hz
      obtain ⟨L', rfl⟩ : ∃ L', L = L' + 1 := ⟨L - 1, by omega⟩
      rw [Nat.add_sub_cancel] at hz
      have n1 : nI (L' + 1) + -1 = nI L' := nI_dec L'
      have n2 : nI L' + 1 = nI (L' + 1) := nI_1 L'
      simp (disch := omega) only [n1, n2, nI_1, nI_add, nI_clamp, nI_pin, nI_neg, nI_nonneg, nI_leE, nI_ltE, nI_eqE, Nat.not_le, Nat.not_lt, fq_10, fq_01, fq_rr, li_2, li_3, li_4, li_5, li_6, li_7, li_8, li_9, li_10, li_11, li_12, li_13, li_14, li_15, li_16, li_17, li_18, li_19, li_20, li_21, li_22, li_23, li_24, li_25, li_26, li_27, li_28, li_29, li_30, li_32, li_33, li_34, li_35, li_36, li_37, li_38, li_39, li_40, li_41, li_42, li_43, li_44, li_45, li_46, li_47, li_48, li_49, li_50, li_51, li_52, li_53, li_54, li_55, li_56, li_57, li_58, li_59, li_60, li_61, li_62, li_63, li_64, li_65, li_66, li_67, li_68, li_69, li_70, li_71, li_72, li_73, li_74, li_75, li_76, li_77, li_78, li_79, li_80, li_81, li_82, li_83, li_84, li_85, li_86, li_87, li_88, li_89, li_90, li_91, li_92, li_93, li_94, li_95, li_96, li_97, li_98, li_99, li_100, li_101, li_102, li_103, li_104, li_105, li_106, li_107, li_108, li_109, li_110, li_111, li_112, li_113, li_114, li_115, li_116, li_117, li_118, li_119, li_120, li_121, li_122, li_123, li_124, li_125, li_126, li_127, li_128, li_129, li_130, li_131, li_226, li_240, li_255, li_300, li_586, li_594, li_900, li_999, li_1000, li_1800, li_2376, li_2388, li_2406, li_2602, li_2970, li_3067, li_3564, li_9999, li_10000, li_11287, li_65536, li_100000, li_1000000, nI_mul, tn0, tn1, vin0, vin1, Int32.add_zero, Int32.or_zero, Int32.mul_one, Int32.mul_zero, Int32.zero_add, Nat.reduceEqDiff, Nat.reduceMul, Nat.reduceSub, true_and, true_implies, false_implies, not_false_eq_true, sp_X12_weighs, hm, u2_ca, up1_o]
      unfold wgI at hz
      rw [g10, g10] at hz
      refine ⟨fun g => ?_, fun g => ⟨fun g2 => ?_, fun g2 => ?_⟩⟩
      · rw [if_pos g] at hz
        exact hz
      · rw [if_neg g, if_pos g2] at hz
        subst g2
        exact hz
      · rw [if_neg g, if_neg g2] at hz
        exact hz
  -- the second time: nothing is said
  have it1 : ∀ I4, frG M L I1 I4 → (∀ k, k < 226 → I4 (M + 1) (3564 + 226 * L + k) = A k) → I4 (M + 9) L = 0 → I4 (M + 10) L = gmV p q x y old f (L + 1) (syL A p q x y L) → (¬ L = 0 → I4 M 27 = I1 M 27) → (L = 0 → I4 M 27 = 0) → GAt l G D S J z Q M p q tn old (nI L) I4 := by
    intro I4 fr4 hA4 h94 h104 ht4 hs4
    have e1 : (0 : Int32) + 1 = 1 := by decide
    have n1 : ¬ (1 : Int32) = nI 2 := by decide
    have hc := gm_C (l := l) (G := G) (D := D) (S := S) (J := J) (z := z) (Q := Q) (old := old) hm hp hq hx hy htn f L hL ih A (u2 (up1 I4 (M + 1) (cpR (I4 (M + 1)) 0 (3564 + 226 * L) 226)) (M + 9) L 1) hw (sv I4 1 hA4) (by
      intro I2 fr2 sv2 h92 h102 ht2 hs2
      refine it2 I2 ((fr4.tr (fr0 I4 1)).tr fr2) (fun k hk => ?_) ?_ ?_ (fun h => ?_) (fun h => ?_)
      · rw [sv2 k hk, sw, hA4 k hk]
      · rw [h92, u2_same]
      · rw [h102, g10, h104]
        rfl
      · rw [ht2 h, gM, ht4 h]
      · have h9 := hs2 h
        subst h
        rw [h9, g10, gM, u2_same, h104, hs4 rfl]
        rfl)
    refine st I4 _ hA4 h94 ?_
    simp (disch := omega) only [B_X12_playing_63, hm, hm.k, hm.k1, hm.n1, hm.r1, hm.k2, hm.n2, hm.r2, hm.k3, hm.n3, hm.r3, hm.k4, hm.n4, hm.r4, hm.k5, hm.n5, hm.r5, hm.k6, hm.n6, hm.r6, hm.k7, hm.n7, hm.r7, hm.k8, hm.n8, hm.r8, hm.k9, hm.n9, hm.r9, hm.k10, hm.n10, hm.r10, hm.k11, hm.n11, hm.r11, hm.k12, hm.n12, hm.r12, hm.k13, hm.n13, hm.r13, hm.k14, hm.n14, hm.r14, up1_at, up1_o, h94, e1, n1, fq_10, u2_same, nI_1, nI_add, nI_clamp, nI_pin, nI_neg, nI_nonneg, nI_leE, nI_ltE, nI_eqE, Nat.not_le, Nat.not_lt, fq_10, fq_01, fq_rr, li_2, li_3, li_4, li_5, li_6, li_7, li_8, li_9, li_10, li_11, li_12, li_13, li_14, li_15, li_16, li_17, li_18, li_19, li_20, li_21, li_22, li_23, li_24, li_25, li_26, li_27, li_28, li_29, li_30, li_32, li_33, li_34, li_35, li_36, li_37, li_38, li_39, li_40, li_41, li_42, li_43, li_44, li_45, li_46, li_47, li_48, li_49, li_50, li_51, li_52, li_53, li_54, li_55, li_56, li_57, li_58, li_59, li_60, li_61, li_62, li_63, li_64, li_65, li_66, li_67, li_68, li_69, li_70, li_71, li_72, li_73, li_74, li_75, li_76, li_77, li_78, li_79, li_80, li_81, li_82, li_83, li_84, li_85, li_86, li_87, li_88, li_89, li_90, li_91, li_92, li_93, li_94, li_95, li_96, li_97, li_98, li_99, li_100, li_101, li_102, li_103, li_104, li_105, li_106, li_107, li_108, li_109, li_110, li_111, li_112, li_113, li_114, li_115, li_116, li_117, li_118, li_119, li_120, li_121, li_122, li_123, li_124, li_125, li_126, li_127, li_128, li_129, li_130, li_131, li_226, li_240, li_255, li_300, li_586, li_594, li_900, li_999, li_1000, li_1800, li_2376, li_2388, li_2406, li_2602, li_2970, li_3067, li_3564, li_9999, li_10000, li_11287, li_65536, li_100000, li_1000000, nI_mul, tn0, tn1, vin0, vin1, Int32.add_zero, Int32.or_zero, Int32.mul_one, Int32.mul_zero, Int32.zero_add, Nat.reduceEqDiff, Nat.reduceMul, Nat.reduceSub, ix_aald, ix_aast, ix_abs, ix_alen, ix_aload, ix_aret, ix_astore, ix_bald, ix_bast, ix_call, ix_cpyI, ix_cpyJ, ix_dead, ix_dup2, ix_dup2L, ix_dupI, ix_dupR, ix_dupx1, ix_getI, ix_getJ, ix_getR, ix_gfm, ix_gtab, ix_i2b, ix_i2c, ix_i2l, ix_i2s, ix_iadd, ix_iald, ix_iand, ix_iast, ix_icall, ix_icmp_eq, ix_icmp_ge, ix_icmp_gt, ix_icmp_le, ix_icmp_lt, ix_icmp_ne, ix_idiv, ix_if_eq, ix_if_ge, ix_if_gt, ix_if_le, ix_if_lt, ix_if_ne, ix_iinc, ix_iload, ix_imul, ix_ineg, ix_ior, ix_irem, ix_iret, ix_ishl, ix_ishr, ix_istore, ix_isub, ix_iushr, ix_ixor, ix_l2i, ix_ladd, ix_lald, ix_land, ix_last, ix_lcmp, ix_ldcS, ix_ldiv, ix_lload, ix_lmul, ix_lor, ix_lrem, ix_lret, ix_lshl, ix_lstore, ix_lsub, ix_lsw, ix_max, ix_min, ix_new, ix_newa, ix_nret, ix_oinit, ix_pop2L, ix_popI, ix_pushI, ix_pushL, ix_putI, ix_putJ, ix_putR, ix_putZ, ix_sbald, ix_sgetC, ix_sgetV, ix_slen, ix_strc, ix_tald, ix_tsw, ix_vcall, ix_vret, ix_zret, stL, stL2, kilL, popN, fq_sw, fq_lsw, List.map_cons, List.map_nil, List.getElem?_cons_zero, List.getElem?_cons_succ, Option.toList_some, Option.toList_none, List.cons_append, List.nil_append, List.length_cons, List.length_nil, List.sum_cons, List.sum_nil, cat_i, cat_l, cat_r, true_and, and_true, Nat.zero_add, Nat.add_zero, Nat.le_refl, Nat.zero_le, Nat.reduceAdd, Nat.reduceLeDiff, exists_eq_left', Option.some.injEq, not_true_eq_false, not_false_eq_true, false_implies, true_implies, implies_true, and_self, or_true, true_or, or_false, false_or]
    exact hc
  -- the first time: something is said
  have e1 : (-1 : Int32) + 1 = 0 := by decide
  have n1 : ¬ (0 : Int32) = nI 2 := by decide
  have n2 : ¬ nI 2 = 0 := by decide
  have wB := hw.cg hp hq (sv I1 0 hA)
  obtain ⟨w1, w2, w3, w4, w5, w6⟩ := wB
  have hc : ∀ Y, (∀ k, 226 ≤ k → Y k = u2 (up1 I1 (M + 1) (cpR (I1 (M + 1)) 0 (3564 + 226 * L) 226)) (M + 9) L 0 (M + 1) k) → (∀ k, k < 226 → Y k = syL A p q x y L k) → B_X12_playing_150 l G D 0 0 Q [some (.ref M), some (.int (nI p)), some (.int (nI q)), some (.int (nI tn)), some (.int old), some (.int (nI L))] [] S (up1 (u2 (up1 I1 (M + 1) (cpR (I1 (M + 1)) 0 (3564 + 226 * L) 226)) (M + 9) L 0) (M + 1) Y) J z 0 0 := by
    intro Y hY1 hY2
    have frY : frG M L I1 (up1 (u2 (up1 I1 (M + 1) (cpR (I1 (M + 1)) 0 (3564 + 226 * L) 226)) (M + 9) L 0) (M + 1) Y) := ⟨fun a h1 h2 h3 h4 => by rw [up1_o _ _ _ _ h2]; exact (fr0 I1 0).1 a h1 h2 h3 h4, fun k hk => by rw [up1_o _ _ _ _ (by omega)]; exact (fr0 I1 0).2.1 k hk, fun j h1 h2 => by rw [up1_at, hY1 j h1]; exact (fr0 I1 0).2.2.1 j h1 h2, fun j hj => by rw [up1_o _ _ _ _ (by omega)]; exact (fr0 I1 0).2.2.2.1 j hj, fun j hj => by rw [up1_o _ _ _ _ (by omega)]; exact (fr0 I1 0).2.2.2.2 j hj⟩
    have wS : wgA (syL A p q x y L) p q x y := by
      unfold syL
      split
      · exact hw.sy hp hq hx hy hp hq
      · exact hw.sy hq hp hy hx hp hq
    refine gm_C (l := l) (G := G) (D := D) (S := S) (J := J) (z := z) (Q := Q) (old := old) hm hp hq hx hy htn f L hL ih (syL A p q x y L) _ wS (fun k hk => by rw [up1_at, hY2 k hk]) ?_
    intro I2 fr2 sv2 h92 h102 ht2 hs2
    refine it1 I2 (frY.tr fr2) (fun k hk => ?_) ?_ ?_ (fun h => ?_) (fun h => ?_)
    · rw [sv2 k hk, up1_at, hY1 _ (by omega), sw, hA k hk]
    · rw [h92, up1_o _ _ _ _ (by omega), u2_same]
    · rw [h102, up1_o _ _ _ _ (by omega), g10, h10]
      unfold wgh
      rw [if_neg (fun q => q.1 rfl)]
    · rw [ht2 h, up1_o _ _ _ _ (by omega), gM]
    · have h9 := hs2 h
      subst h
      rw [h9, up1_o _ _ _ _ (by omega), g10, h10, if_neg (fun q => q.1 rfl), up1_o _ _ _ _ (by omega), u2_same]
  refine st I1 _ hA h9 ?_
  simp (disch := omega) only [B_X12_playing_63, hm, hm.k, hm.k1, hm.n1, hm.r1, hm.k2, hm.n2, hm.r2, hm.k3, hm.n3, hm.r3, hm.k4, hm.n4, hm.r4, hm.k5, hm.n5, hm.r5, hm.k6, hm.n6, hm.r6, hm.k7, hm.n7, hm.r7, hm.k8, hm.n8, hm.r8, hm.k9, hm.n9, hm.r9, hm.k10, hm.n10, hm.r10, hm.k11, hm.n11, hm.r11, hm.k12, hm.n12, hm.r12, hm.k13, hm.n13, hm.r13, hm.k14, hm.n14, hm.r14, up1_at, up1_o, h9, u2_same, e1, n1, n2, e5, e6, nI_1, nI_add, nI_clamp, nI_pin, nI_neg, nI_nonneg, nI_leE, nI_ltE, nI_eqE, Nat.not_le, Nat.not_lt, fq_10, fq_01, fq_rr, li_2, li_3, li_4, li_5, li_6, li_7, li_8, li_9, li_10, li_11, li_12, li_13, li_14, li_15, li_16, li_17, li_18, li_19, li_20, li_21, li_22, li_23, li_24, li_25, li_26, li_27, li_28, li_29, li_30, li_32, li_33, li_34, li_35, li_36, li_37, li_38, li_39, li_40, li_41, li_42, li_43, li_44, li_45, li_46, li_47, li_48, li_49, li_50, li_51, li_52, li_53, li_54, li_55, li_56, li_57, li_58, li_59, li_60, li_61, li_62, li_63, li_64, li_65, li_66, li_67, li_68, li_69, li_70, li_71, li_72, li_73, li_74, li_75, li_76, li_77, li_78, li_79, li_80, li_81, li_82, li_83, li_84, li_85, li_86, li_87, li_88, li_89, li_90, li_91, li_92, li_93, li_94, li_95, li_96, li_97, li_98, li_99, li_100, li_101, li_102, li_103, li_104, li_105, li_106, li_107, li_108, li_109, li_110, li_111, li_112, li_113, li_114, li_115, li_116, li_117, li_118, li_119, li_120, li_121, li_122, li_123, li_124, li_125, li_126, li_127, li_128, li_129, li_130, li_131, li_226, li_240, li_255, li_300, li_586, li_594, li_900, li_999, li_1000, li_1800, li_2376, li_2388, li_2406, li_2602, li_2970, li_3067, li_3564, li_9999, li_10000, li_11287, li_65536, li_100000, li_1000000, nI_mul, tn0, tn1, vin0, vin1, Int32.add_zero, Int32.or_zero, Int32.mul_one, Int32.mul_zero, Int32.zero_add, Nat.reduceEqDiff, Nat.reduceMul, Nat.reduceSub, ix_aald, ix_aast, ix_abs, ix_alen, ix_aload, ix_aret, ix_astore, ix_bald, ix_bast, ix_call, ix_cpyI, ix_cpyJ, ix_dead, ix_dup2, ix_dup2L, ix_dupI, ix_dupR, ix_dupx1, ix_getI, ix_getJ, ix_getR, ix_gfm, ix_gtab, ix_i2b, ix_i2c, ix_i2l, ix_i2s, ix_iadd, ix_iald, ix_iand, ix_iast, ix_icall, ix_icmp_eq, ix_icmp_ge, ix_icmp_gt, ix_icmp_le, ix_icmp_lt, ix_icmp_ne, ix_idiv, ix_if_eq, ix_if_ge, ix_if_gt, ix_if_le, ix_if_lt, ix_if_ne, ix_iinc, ix_iload, ix_imul, ix_ineg, ix_ior, ix_irem, ix_iret, ix_ishl, ix_ishr, ix_istore, ix_isub, ix_iushr, ix_ixor, ix_l2i, ix_ladd, ix_lald, ix_land, ix_last, ix_lcmp, ix_ldcS, ix_ldiv, ix_lload, ix_lmul, ix_lor, ix_lrem, ix_lret, ix_lshl, ix_lstore, ix_lsub, ix_lsw, ix_max, ix_min, ix_new, ix_newa, ix_nret, ix_oinit, ix_pop2L, ix_popI, ix_pushI, ix_pushL, ix_putI, ix_putJ, ix_putR, ix_putZ, ix_sbald, ix_sgetC, ix_sgetV, ix_slen, ix_strc, ix_tald, ix_tsw, ix_vcall, ix_vret, ix_zret, stL, stL2, kilL, popN, fq_sw, fq_lsw, List.map_cons, List.map_nil, List.getElem?_cons_zero, List.getElem?_cons_succ, Option.toList_some, Option.toList_none, List.cons_append, List.nil_append, List.length_cons, List.length_nil, List.sum_cons, List.sum_nil, cat_i, cat_l, cat_r, true_and, and_true, Nat.zero_add, Nat.add_zero, Nat.le_refl, Nat.zero_le, Nat.reduceAdd, Nat.reduceLeDiff, exists_eq_left', Option.some.injEq, not_true_eq_false, not_false_eq_true, false_implies, true_implies, implies_true, and_self, or_true, true_or, or_false, false_or]
  refine ⟨fun g => ?_, fun g => ?_⟩
  · simp (disch := omega) only [B_X12_playing_134, B_X12_playing_146, sp_X12_says, g, e5, e6, n2, hm, hm.k, hm.k1, hm.n1, hm.r1, hm.k2, hm.n2, hm.r2, hm.k3, hm.n3, hm.r3, hm.k4, hm.n4, hm.r4, hm.k5, hm.n5, hm.r5, hm.k6, hm.n6, hm.r6, hm.k7, hm.n7, hm.r7, hm.k8, hm.n8, hm.r8, hm.k9, hm.n9, hm.r9, hm.k10, hm.n10, hm.r10, hm.k11, hm.n11, hm.r11, hm.k12, hm.n12, hm.r12, hm.k13, hm.n13, hm.r13, hm.k14, hm.n14, hm.r14, w1, w2, w3, w4, w5, w6, hpq, nI_1, nI_add, nI_clamp, nI_pin, nI_neg, nI_nonneg, nI_leE, nI_ltE, nI_eqE, Nat.not_le, Nat.not_lt, fq_10, fq_01, fq_rr, li_2, li_3, li_4, li_5, li_6, li_7, li_8, li_9, li_10, li_11, li_12, li_13, li_14, li_15, li_16, li_17, li_18, li_19, li_20, li_21, li_22, li_23, li_24, li_25, li_26, li_27, li_28, li_29, li_30, li_32, li_33, li_34, li_35, li_36, li_37, li_38, li_39, li_40, li_41, li_42, li_43, li_44, li_45, li_46, li_47, li_48, li_49, li_50, li_51, li_52, li_53, li_54, li_55, li_56, li_57, li_58, li_59, li_60, li_61, li_62, li_63, li_64, li_65, li_66, li_67, li_68, li_69, li_70, li_71, li_72, li_73, li_74, li_75, li_76, li_77, li_78, li_79, li_80, li_81, li_82, li_83, li_84, li_85, li_86, li_87, li_88, li_89, li_90, li_91, li_92, li_93, li_94, li_95, li_96, li_97, li_98, li_99, li_100, li_101, li_102, li_103, li_104, li_105, li_106, li_107, li_108, li_109, li_110, li_111, li_112, li_113, li_114, li_115, li_116, li_117, li_118, li_119, li_120, li_121, li_122, li_123, li_124, li_125, li_126, li_127, li_128, li_129, li_130, li_131, li_226, li_240, li_255, li_300, li_586, li_594, li_900, li_999, li_1000, li_1800, li_2376, li_2388, li_2406, li_2602, li_2970, li_3067, li_3564, li_9999, li_10000, li_11287, li_65536, li_100000, li_1000000, nI_mul, tn0, tn1, vin0, vin1, Int32.add_zero, Int32.or_zero, Int32.mul_one, Int32.mul_zero, Int32.zero_add, Nat.reduceEqDiff, Nat.reduceMul, Nat.reduceSub, ix_aald, ix_aast, ix_abs, ix_alen, ix_aload, ix_aret, ix_astore, ix_bald, ix_bast, ix_call, ix_cpyI, ix_cpyJ, ix_dead, ix_dup2, ix_dup2L, ix_dupI, ix_dupR, ix_dupx1, ix_getI, ix_getJ, ix_getR, ix_gfm, ix_gtab, ix_i2b, ix_i2c, ix_i2l, ix_i2s, ix_iadd, ix_iald, ix_iand, ix_iast, ix_icall, ix_icmp_eq, ix_icmp_ge, ix_icmp_gt, ix_icmp_le, ix_icmp_lt, ix_icmp_ne, ix_idiv, ix_if_eq, ix_if_ge, ix_if_gt, ix_if_le, ix_if_lt, ix_if_ne, ix_iinc, ix_iload, ix_imul, ix_ineg, ix_ior, ix_irem, ix_iret, ix_ishl, ix_ishr, ix_istore, ix_isub, ix_iushr, ix_ixor, ix_l2i, ix_ladd, ix_lald, ix_land, ix_last, ix_lcmp, ix_ldcS, ix_ldiv, ix_lload, ix_lmul, ix_lor, ix_lrem, ix_lret, ix_lshl, ix_lstore, ix_lsub, ix_lsw, ix_max, ix_min, ix_new, ix_newa, ix_nret, ix_oinit, ix_pop2L, ix_popI, ix_pushI, ix_pushL, ix_putI, ix_putJ, ix_putR, ix_putZ, ix_sbald, ix_sgetC, ix_sgetV, ix_slen, ix_strc, ix_tald, ix_tsw, ix_vcall, ix_vret, ix_zret, stL, stL2, kilL, popN, fq_sw, fq_lsw, List.map_cons, List.map_nil, List.getElem?_cons_zero, List.getElem?_cons_succ, Option.toList_some, Option.toList_none, List.cons_append, List.nil_append, List.length_cons, List.length_nil, List.sum_cons, List.sum_nil, cat_i, cat_l, cat_r, true_and, and_true, Nat.zero_add, Nat.add_zero, Nat.le_refl, Nat.zero_le, Nat.reduceAdd, Nat.reduceLeDiff, exists_eq_left', Option.some.injEq, not_true_eq_false, not_false_eq_true, false_implies, true_implies, implies_true, and_self, or_true, true_or, or_false, false_or]
    refine ⟨fun e => hpq e.symm, y, x, hy, hx, fun e => hxy e.symm, rfl, rfl, hc _ (fun k hk => syX_o hq hp hy hx (Or.inl hk)) (fun k hk => ?_)⟩
    unfold syL
    rw [if_neg g]
    exact syX_cg hq hp hy hx (sv I1 0 hA) k hk
  · simp (disch := omega) only [B_X12_playing_134, B_X12_playing_146, sp_X12_says, g, e5, e6, n2, nz0, hm, hm.k, hm.k1, hm.n1, hm.r1, hm.k2, hm.n2, hm.r2, hm.k3, hm.n3, hm.r3, hm.k4, hm.n4, hm.r4, hm.k5, hm.n5, hm.r5, hm.k6, hm.n6, hm.r6, hm.k7, hm.n7, hm.r7, hm.k8, hm.n8, hm.r8, hm.k9, hm.n9, hm.r9, hm.k10, hm.n10, hm.r10, hm.k11, hm.n11, hm.r11, hm.k12, hm.n12, hm.r12, hm.k13, hm.n13, hm.r13, hm.k14, hm.n14, hm.r14, w1, w2, w3, w4, w5, w6, hpq, nI_1, nI_add, nI_clamp, nI_pin, nI_neg, nI_nonneg, nI_leE, nI_ltE, nI_eqE, Nat.not_le, Nat.not_lt, fq_10, fq_01, fq_rr, li_2, li_3, li_4, li_5, li_6, li_7, li_8, li_9, li_10, li_11, li_12, li_13, li_14, li_15, li_16, li_17, li_18, li_19, li_20, li_21, li_22, li_23, li_24, li_25, li_26, li_27, li_28, li_29, li_30, li_32, li_33, li_34, li_35, li_36, li_37, li_38, li_39, li_40, li_41, li_42, li_43, li_44, li_45, li_46, li_47, li_48, li_49, li_50, li_51, li_52, li_53, li_54, li_55, li_56, li_57, li_58, li_59, li_60, li_61, li_62, li_63, li_64, li_65, li_66, li_67, li_68, li_69, li_70, li_71, li_72, li_73, li_74, li_75, li_76, li_77, li_78, li_79, li_80, li_81, li_82, li_83, li_84, li_85, li_86, li_87, li_88, li_89, li_90, li_91, li_92, li_93, li_94, li_95, li_96, li_97, li_98, li_99, li_100, li_101, li_102, li_103, li_104, li_105, li_106, li_107, li_108, li_109, li_110, li_111, li_112, li_113, li_114, li_115, li_116, li_117, li_118, li_119, li_120, li_121, li_122, li_123, li_124, li_125, li_126, li_127, li_128, li_129, li_130, li_131, li_226, li_240, li_255, li_300, li_586, li_594, li_900, li_999, li_1000, li_1800, li_2376, li_2388, li_2406, li_2602, li_2970, li_3067, li_3564, li_9999, li_10000, li_11287, li_65536, li_100000, li_1000000, nI_mul, tn0, tn1, vin0, vin1, Int32.add_zero, Int32.or_zero, Int32.mul_one, Int32.mul_zero, Int32.zero_add, Nat.reduceEqDiff, Nat.reduceMul, Nat.reduceSub, ix_aald, ix_aast, ix_abs, ix_alen, ix_aload, ix_aret, ix_astore, ix_bald, ix_bast, ix_call, ix_cpyI, ix_cpyJ, ix_dead, ix_dup2, ix_dup2L, ix_dupI, ix_dupR, ix_dupx1, ix_getI, ix_getJ, ix_getR, ix_gfm, ix_gtab, ix_i2b, ix_i2c, ix_i2l, ix_i2s, ix_iadd, ix_iald, ix_iand, ix_iast, ix_icall, ix_icmp_eq, ix_icmp_ge, ix_icmp_gt, ix_icmp_le, ix_icmp_lt, ix_icmp_ne, ix_idiv, ix_if_eq, ix_if_ge, ix_if_gt, ix_if_le, ix_if_lt, ix_if_ne, ix_iinc, ix_iload, ix_imul, ix_ineg, ix_ior, ix_irem, ix_iret, ix_ishl, ix_ishr, ix_istore, ix_isub, ix_iushr, ix_ixor, ix_l2i, ix_ladd, ix_lald, ix_land, ix_last, ix_lcmp, ix_ldcS, ix_ldiv, ix_lload, ix_lmul, ix_lor, ix_lrem, ix_lret, ix_lshl, ix_lstore, ix_lsub, ix_lsw, ix_max, ix_min, ix_new, ix_newa, ix_nret, ix_oinit, ix_pop2L, ix_popI, ix_pushI, ix_pushL, ix_putI, ix_putJ, ix_putR, ix_putZ, ix_sbald, ix_sgetC, ix_sgetV, ix_slen, ix_strc, ix_tald, ix_tsw, ix_vcall, ix_vret, ix_zret, stL, stL2, kilL, popN, fq_sw, fq_lsw, List.map_cons, List.map_nil, List.getElem?_cons_zero, List.getElem?_cons_succ, Option.toList_some, Option.toList_none, List.cons_append, List.nil_append, List.length_cons, List.length_nil, List.sum_cons, List.sum_nil, cat_i, cat_l, cat_r, true_and, and_true, Nat.zero_add, Nat.add_zero, Nat.le_refl, Nat.zero_le, Nat.reduceAdd, Nat.reduceLeDiff, exists_eq_left', Option.some.injEq, not_true_eq_false, not_false_eq_true, false_implies, true_implies, implies_true, and_self, or_true, true_or, or_false, false_or]
    refine ⟨x, y, hx, hy, hxy, rfl, rfl, hc _ (fun k hk => syX_o hp hq hx hy (Or.inl hk)) (fun k hk => ?_)⟩
    unfold syL
    rw [if_pos g]
    exact syX_cg hp hq hx hy (sv I1 0 hA) k hk
theorem gm_all {l : Launch} {G : GT} {D : Nat} {S : Sh} {J : JH} {z : Nat} {Q : Post} {M p q x y tn : Nat} {old : Int32} (hm : rfS S M) (hp : p < 8) (hq : q < 8) (hx : x < 6) (hy : y < 6) (hpq : ¬ p = q) (hxy : ¬ x = y) (htn : tn ≤ 4) : ∀ f L, L + f + 1 = tn → GClaim l G D S J z Q M p q x y tn old f L
  | 0, L, hL => gm_H hm hp hq hx hy hpq hxy htn 0 L hL (fun f' h => by omega)
  | f + 1, L, hL => gm_H hm hp hq hx hy hpq hxy htn (f + 1) L hL (fun f' h => by
      obtain rfl : f' = f := by omega
      exact gm_all hm hp hq hx hy hpq hxy htn f' (L + 1) (by omega))
/-- what a game may have changed -/
def tsg (M : Nat) (I I' : IH) : Prop := (∀ a, a ≠ M → a ≠ M + 1 → a ≠ M + 9 → a ≠ M + 10 → I' a = I a) ∧ (∀ k, k ≠ 24 → k ≠ 27 → I' M k = I M k) ∧ ∀ k, k < 2376 → I' (M + 1) k = I (M + 1) k
def sp_X12_playing (G : GT) : Sp := fun as S I J z Q => match as with
  | [.ref M, .int a, .int b, .int t] => rfS S M ∧ ∃ p q x y tn, a = nI p ∧ b = nI q ∧ t = nI tn ∧ p < 8 ∧ q < 8 ∧ x < 6 ∧ y < 6 ∧ ¬ p = q ∧ ¬ x = y ∧ tn ≤ 4 ∧ wgA (I (M + 1)) p q x y ∧ ∀ I', tsg M I I' → I' M 27 = (match tn with | 0 => 1 | f + 1 => gtf p q x y (I (M + 1) (12 + 3 * x)) f (I (M + 1))) → Q (some (.int (gmV p q x y (I (M + 1) (12 + 3 * x)) tn 0 (I (M + 1))))) S I' J z
  | _ => False
set_option maxHeartbeats 4000000 in
set_option maxRecDepth 20000 in
theorem c_X12_playing {l : Launch} {G : GT} {D : Nat} : ∀ as S I J z Q, sp_X12_playing G as S I J z Q → fqCall l G M_X12_playing (D + 5) 0 0 as S I J z Q := by
  intro as S I J z Q h
  unfold sp_X12_playing at h
  split at h
  · next M a b t =>
    obtain ⟨hm, p, q, x, y, tn, rfl, rfl, rfl, hp, hq, hx, hy, hpq, hxy, htn, hw, hQ⟩ := h
    obtain ⟨w1, w2, w3, w4, w5, w6⟩ := hw
    refine fq_enter [some (.ref M), some (.int (nI p)), some (.int (nI q)), some (.int (nI tn)), none, none] (by decide +kernel) (Nat.le_of_ble_eq_true rfl) rfl (b_X12_playing_0 _ _ _ _ _ _ _ _ ?_)
    simp (disch := omega) only [B_X12_playing_0, B_X12_playing_49, B_X12_playing_134, B_X12_playing_146, sp_X12_homeOf, B_X12_homeOf_0, sp_X12_personOf, B_X12_personOf_0, sp_X12_personRow, B_X12_personRow_0, sp_X12_wideOf, B_X12_wideOf_0, sp_X12_houseRow, B_X12_houseRow_0, sp_X12_levelAt, B_X12_levelAt_0, sp_X12_keeps, sp_X12_restores, sp_X12_weighs, sp_X12_says, hm, hm.k, hm.k1, hm.n1, hm.r1, hm.k2, hm.n2, hm.r2, hm.k3, hm.n3, hm.r3, hm.k4, hm.n4, hm.r4, hm.k5, hm.n5, hm.r5, hm.k6, hm.n6, hm.r6, hm.k7, hm.n7, hm.r7, hm.k8, hm.n8, hm.r8, hm.k9, hm.n9, hm.r9, hm.k10, hm.n10, hm.r10, hm.k11, hm.n11, hm.r11, hm.k12, hm.n12, hm.r12, hm.k13, hm.n13, hm.r13, hm.k14, hm.n14, hm.r14, w3, li_2, li_3, li_4, li_5, li_6, li_7, li_8, li_9, li_10, li_11, li_12, li_13, li_14, li_15, li_16, li_17, li_18, li_19, li_20, li_21, li_22, li_23, li_24, li_25, li_26, li_27, li_28, li_29, li_30, li_32, li_33, li_34, li_35, li_36, li_37, li_38, li_39, li_40, li_41, li_42, li_43, li_44, li_45, li_46, li_47, li_48, li_49, li_50, li_51, li_52, li_53, li_54, li_55, li_56, li_57, li_58, li_59, li_60, li_61, li_62, li_63, li_64, li_65, li_66, li_67, li_68, li_69, li_70, li_71, li_72, li_73, li_74, li_75, li_76, li_77, li_78, li_79, li_80, li_81, li_82, li_83, li_84, li_85, li_86, li_87, li_88, li_89, li_90, li_91, li_92, li_93, li_94, li_95, li_96, li_97, li_98, li_99, li_100, li_101, li_102, li_103, li_104, li_105, li_106, li_107, li_108, li_109, li_110, li_111, li_112, li_113, li_114, li_115, li_116, li_117, li_118, li_119, li_120, li_121, li_122, li_123, li_124, li_125, li_126, li_127, li_128, li_129, li_130, li_131, li_226, li_240, li_255, li_300, li_586, li_594, li_900, li_999, li_1000, li_1800, li_2376, li_2388, li_2406, li_2602, li_2970, li_3067, li_3564, li_9999, li_10000, li_11287, li_65536, li_100000, li_1000000, nI_mul, tn0, tn1, vin0, vin1, Int32.add_zero, Int32.or_zero, Int32.mul_one, Int32.mul_zero, Int32.zero_add, Nat.reduceEqDiff, Nat.reduceMul, Nat.reduceSub, nI_1, nI_add, nI_clamp, nI_pin, nI_neg, nI_nonneg, nI_leE, nI_ltE, nI_eqE, Nat.not_le, Nat.not_lt, fq_10, fq_01, fq_rr, ix_aald, ix_aast, ix_abs, ix_alen, ix_aload, ix_aret, ix_astore, ix_bald, ix_bast, ix_call, ix_cpyI, ix_cpyJ, ix_dead, ix_dup2, ix_dup2L, ix_dupI, ix_dupR, ix_dupx1, ix_getI, ix_getJ, ix_getR, ix_gfm, ix_gtab, ix_i2b, ix_i2c, ix_i2l, ix_i2s, ix_iadd, ix_iald, ix_iand, ix_iast, ix_icall, ix_icmp_eq, ix_icmp_ge, ix_icmp_gt, ix_icmp_le, ix_icmp_lt, ix_icmp_ne, ix_idiv, ix_if_eq, ix_if_ge, ix_if_gt, ix_if_le, ix_if_lt, ix_if_ne, ix_iinc, ix_iload, ix_imul, ix_ineg, ix_ior, ix_irem, ix_iret, ix_ishl, ix_ishr, ix_istore, ix_isub, ix_iushr, ix_ixor, ix_l2i, ix_ladd, ix_lald, ix_land, ix_last, ix_lcmp, ix_ldcS, ix_ldiv, ix_lload, ix_lmul, ix_lor, ix_lrem, ix_lret, ix_lshl, ix_lstore, ix_lsub, ix_lsw, ix_max, ix_min, ix_new, ix_newa, ix_nret, ix_oinit, ix_pop2L, ix_popI, ix_pushI, ix_pushL, ix_putI, ix_putJ, ix_putR, ix_putZ, ix_sbald, ix_sgetC, ix_sgetV, ix_slen, ix_strc, ix_tald, ix_tsw, ix_vcall, ix_vret, ix_zret, stL, stL2, kilL, popN, fq_sw, fq_lsw, List.map_cons, List.map_nil, List.getElem?_cons_zero, List.getElem?_cons_succ, Option.toList_some, Option.toList_none, List.cons_append, List.nil_append, List.length_cons, List.length_nil, List.sum_cons, List.sum_nil, cat_i, cat_l, cat_r, true_and, and_true, Nat.zero_add, Nat.add_zero, Nat.le_refl, Nat.zero_le, Nat.reduceAdd, Nat.reduceLeDiff, exists_eq_left', Option.some.injEq, not_true_eq_false, not_false_eq_true, false_implies, true_implies, implies_true, and_self, or_true, true_or, or_false, false_or]
    cases tn with
    | zero =>
      refine ⟨fun h => absurd rfl h, fun _ => ?_⟩
      have hz := hQ (u2 I M 27 1) ⟨fun a h1 _ _ _ => u2_ne h1, fun k _ h2 => u2_ck _ _ _ _ _ _ h2, fun k _ => u2_ca _ _ _ _ _ _ (by omega)⟩ u2_eq
      unfold gmV at hz
      rw [Int32.sub_self] at hz
      exact hz
    | succ f =>
      have h0 : ¬ nI (f + 1) = 0 := fun e => by
        have := nI_i (b := 0) (by omega) (by omega) e
        omega
      refine ⟨fun _ => ⟨3564, rfl, by omega, by omega, ?_⟩, fun h => absurd h h0⟩
      rw [← li_1000000]
      have c1 : ∀ j, u2 (u2 (u2 I M 27 1) (M + 9) 0 (-1)) (M + 10) 0 1000000 (M + 1) j = I (M + 1) j := fun j => by rw [u2_ca _ _ _ _ _ _ (by omega), u2_ca _ _ _ _ _ _ (by omega), u2_ca _ _ _ _ _ _ (by omega)]
      have d1 : ∀ k, k < 226 → up1 (u2 (u2 (u2 I M 27 1) (M + 9) 0 (-1)) (M + 10) 0 1000000) (M + 1) (cpR (u2 (u2 (u2 I M 27 1) (M + 9) 0 (-1)) (M + 10) 0 1000000 (M + 1)) 3564 0 226) (M + 1) (3564 + 226 * 0 + k) = I (M + 1) k := fun k hk => by rw [up1_at, show 3564 + 226 * 0 + k = 3564 + k by omega, cpR_i _ _ _ _ _ hk, c1, Nat.zero_add]
      have d2 : up1 (u2 (u2 (u2 I M 27 1) (M + 9) 0 (-1)) (M + 10) 0 1000000) (M + 1) (cpR (u2 (u2 (u2 I M 27 1) (M + 9) 0 (-1)) (M + 10) 0 1000000 (M + 1)) 3564 0 226) (M + 9) 0 = -1 := by rw [up1_o _ _ _ _ (by omega), u2_ca _ _ _ _ _ _ (by omega), u2_same]
      have d3 : up1 (u2 (u2 (u2 I M 27 1) (M + 9) 0 (-1)) (M + 10) 0 1000000) (M + 1) (cpR (u2 (u2 (u2 I M 27 1) (M + 9) 0 (-1)) (M + 10) 0 1000000 (M + 1)) 3564 0 226) (M + 10) 0 = 1000000 := by rw [up1_o _ _ _ _ (by omega), u2_same]
      have d4 : ∀ a, a ≠ M → a ≠ M + 1 → a ≠ M + 9 → a ≠ M + 10 → up1 (u2 (u2 (u2 I M 27 1) (M + 9) 0 (-1)) (M + 10) 0 1000000) (M + 1) (cpR (u2 (u2 (u2 I M 27 1) (M + 9) 0 (-1)) (M + 10) 0 1000000 (M + 1)) 3564 0 226) a = I a := fun a h1 h2 h3 h4 => by rw [up1_o _ _ _ _ h2, u2_ne h4, u2_ne h3, u2_ne h1]
      have d5 : ∀ k, k ≠ 27 → up1 (u2 (u2 (u2 I M 27 1) (M + 9) 0 (-1)) (M + 10) 0 1000000) (M + 1) (cpR (u2 (u2 (u2 I M 27 1) (M + 9) 0 (-1)) (M + 10) 0 1000000 (M + 1)) 3564 0 226) M k = I M k := fun k hk => by rw [up1_o _ _ _ _ (by omega), u2_ca _ _ _ _ _ _ (by omega), u2_ca _ _ _ _ _ _ (by omega), u2_ck _ _ _ _ _ _ hk]
      have d6 : ∀ j, j < 3564 → up1 (u2 (u2 (u2 I M 27 1) (M + 9) 0 (-1)) (M + 10) 0 1000000) (M + 1) (cpR (u2 (u2 (u2 I M 27 1) (M + 9) 0 (-1)) (M + 10) 0 1000000 (M + 1)) 3564 0 226) (M + 1) j = I (M + 1) j := fun j hj => by rw [up1_at, cpR_r _ _ _ _ _ (by omega), c1]
      generalize up1 (u2 (u2 (u2 I M 27 1) (M + 9) 0 (-1)) (M + 10) 0 1000000) (M + 1) (cpR (u2 (u2 (u2 I M 27 1) (M + 9) 0 (-1)) (M + 10) 0 1000000 (M + 1)) 3564 0 226) = I1 at *
      refine gm_all (l := l) (G := G) (D := D) (S := S) (J := J) (z := z) (Q := Q) (old := I (M + 1) (12 + 3 * x)) hm hp hq hx hy hpq hxy htn f 0 (by omega) (I (M + 1)) I1 ⟨w1, w2, w3, w4, w5, w6⟩ d1 d2 d3 ?_
      intro I2 fr hsv hv h27 ht
      unfold GRet GAt
      rw [if_pos rfl]
      refine b_X12_playing_49 _ _ _ _ _ _ _ _ ?_
      simp (disch := omega) only [B_X12_playing_0, B_X12_playing_49, B_X12_playing_134, B_X12_playing_146, sp_X12_homeOf, B_X12_homeOf_0, sp_X12_personOf, B_X12_personOf_0, sp_X12_personRow, B_X12_personRow_0, sp_X12_wideOf, B_X12_wideOf_0, sp_X12_houseRow, B_X12_houseRow_0, sp_X12_levelAt, B_X12_levelAt_0, sp_X12_keeps, sp_X12_restores, sp_X12_weighs, sp_X12_says, hm, hm.k, hm.k1, hm.n1, hm.r1, hm.k2, hm.n2, hm.r2, hm.k3, hm.n3, hm.r3, hm.k4, hm.n4, hm.r4, hm.k5, hm.n5, hm.r5, hm.k6, hm.n6, hm.r6, hm.k7, hm.n7, hm.r7, hm.k8, hm.n8, hm.r8, hm.k9, hm.n9, hm.r9, hm.k10, hm.n10, hm.r10, hm.k11, hm.n11, hm.r11, hm.k12, hm.n12, hm.r12, hm.k13, hm.n13, hm.r13, hm.k14, hm.n14, hm.r14, li_2, li_3, li_4, li_5, li_6, li_7, li_8, li_9, li_10, li_11, li_12, li_13, li_14, li_15, li_16, li_17, li_18, li_19, li_20, li_21, li_22, li_23, li_24, li_25, li_26, li_27, li_28, li_29, li_30, li_32, li_33, li_34, li_35, li_36, li_37, li_38, li_39, li_40, li_41, li_42, li_43, li_44, li_45, li_46, li_47, li_48, li_49, li_50, li_51, li_52, li_53, li_54, li_55, li_56, li_57, li_58, li_59, li_60, li_61, li_62, li_63, li_64, li_65, li_66, li_67, li_68, li_69, li_70, li_71, li_72, li_73, li_74, li_75, li_76, li_77, li_78, li_79, li_80, li_81, li_82, li_83, li_84, li_85, li_86, li_87, li_88, li_89, li_90, li_91, li_92, li_93, li_94, li_95, li_96, li_97, li_98, li_99, li_100, li_101, li_102, li_103, li_104, li_105, li_106, li_107, li_108, li_109, li_110, li_111, li_112, li_113, li_114, li_115, li_116, li_117, li_118, li_119, li_120, li_121, li_122, li_123, li_124, li_125, li_126, li_127, li_128, li_129, li_130, li_131, li_226, li_240, li_255, li_300, li_586, li_594, li_900, li_999, li_1000, li_1800, li_2376, li_2388, li_2406, li_2602, li_2970, li_3067, li_3564, li_9999, li_10000, li_11287, li_65536, li_100000, li_1000000, nI_mul, tn0, tn1, vin0, vin1, Int32.add_zero, Int32.or_zero, Int32.mul_one, Int32.mul_zero, Int32.zero_add, Nat.reduceEqDiff, Nat.reduceMul, Nat.reduceSub, nI_1, nI_add, nI_clamp, nI_pin, nI_neg, nI_nonneg, nI_leE, nI_ltE, nI_eqE, Nat.not_le, Nat.not_lt, fq_10, fq_01, fq_rr, ix_aald, ix_aast, ix_abs, ix_alen, ix_aload, ix_aret, ix_astore, ix_bald, ix_bast, ix_call, ix_cpyI, ix_cpyJ, ix_dead, ix_dup2, ix_dup2L, ix_dupI, ix_dupR, ix_dupx1, ix_getI, ix_getJ, ix_getR, ix_gfm, ix_gtab, ix_i2b, ix_i2c, ix_i2l, ix_i2s, ix_iadd, ix_iald, ix_iand, ix_iast, ix_icall, ix_icmp_eq, ix_icmp_ge, ix_icmp_gt, ix_icmp_le, ix_icmp_lt, ix_icmp_ne, ix_idiv, ix_if_eq, ix_if_ge, ix_if_gt, ix_if_le, ix_if_lt, ix_if_ne, ix_iinc, ix_iload, ix_imul, ix_ineg, ix_ior, ix_irem, ix_iret, ix_ishl, ix_ishr, ix_istore, ix_isub, ix_iushr, ix_ixor, ix_l2i, ix_ladd, ix_lald, ix_land, ix_last, ix_lcmp, ix_ldcS, ix_ldiv, ix_lload, ix_lmul, ix_lor, ix_lrem, ix_lret, ix_lshl, ix_lstore, ix_lsub, ix_lsw, ix_max, ix_min, ix_new, ix_newa, ix_nret, ix_oinit, ix_pop2L, ix_popI, ix_pushI, ix_pushL, ix_putI, ix_putJ, ix_putR, ix_putZ, ix_sbald, ix_sgetC, ix_sgetV, ix_slen, ix_strc, ix_tald, ix_tsw, ix_vcall, ix_vret, ix_zret, stL, stL2, kilL, popN, fq_sw, fq_lsw, List.map_cons, List.map_nil, List.getElem?_cons_zero, List.getElem?_cons_succ, Option.toList_some, Option.toList_none, List.cons_append, List.nil_append, List.length_cons, List.length_nil, List.sum_cons, List.sum_nil, cat_i, cat_l, cat_r, true_and, and_true, Nat.zero_add, Nat.add_zero, Nat.le_refl, Nat.zero_le, Nat.reduceAdd, Nat.reduceLeDiff, exists_eq_left', Option.some.injEq, not_true_eq_false, not_false_eq_true, false_implies, true_implies, implies_true, and_self, or_true, true_or, or_false, false_or]
      refine ⟨fun _ => ⟨3564, rfl, by omega, by omega, ?_⟩, fun h => absurd (by decide) h⟩
      rw [up1_o _ _ _ _ (by omega), hv]
      refine hQ _ ⟨fun a h1 h2 h3 h4 => ?_, fun k _ h2 => ?_, fun k hk => ?_⟩ ?_
      · rw [up1_o _ _ _ _ h2, fr.1 a h1 h2 h3 h4, d4 a h1 h2 h3 h4]
      · rw [up1_o _ _ _ _ (by omega), fr.2.1 k h2, d5 k h2]
      · rw [up1_at]
        by_cases h : k < 226
        · rw [cpR_z _ _ _ _ h]
          exact hsv k h
        · rw [cpR_r _ _ _ _ _ (by omega), fr.2.2.1 k (by omega) (by omega), d6 k (by omega)]
      · rw [up1_o _ _ _ _ (by omega)]
        exact ht rfl
  · exact h.elim
