/-! a say tried, a say done -/
theorem cpF_ca {α : Type} (I : Nat → Nat → α) (a b lo hi q k : Nat) (h : q ≠ a) : cpF I a b lo hi q k = I q k := by
  unfold cpF
  rw [if_neg (fun z => h z.1)]
def tro (I : IH) (s a b : Nat) : IH := fun q k => if q = s + 14 ∧ 1 ≤ k ∧ k ≤ 7 then I (s + 24 + a) k else if q = s + 15 ∧ 1 ≤ k ∧ k ≤ 7 then I (s + 24 + b) k else if q = s + 16 ∧ k = 0 then I (s + 18 + (I (s + 24 + a) 1).toNatClampNeg) 2 else if q = s + 16 ∧ k = 1 then I (s + 18 + (I (s + 24 + b) 1).toNatClampNeg) 2 else if q = s + 17 ∧ k ≤ 1 then 0 else if q = s + 12 ∧ k = 3 then I s 9 else if q = s + 12 ∧ k = 4 then I s 16 else I q k
def troJ (J : JH) (s a b : Nat) : JH := u2 (u2 J (s + 14) 0 (J (s + 24 + a) 0)) (s + 15) 0 (J (s + 24 + b) 0)
theorem dX6_tryOut_0 : decode cX6_tryOut 0 = .ok (.aload_n 0, 1) := by decide +kernel
theorem dX6_tryOut_1 : decode cX6_tryOut 1 = .ok (.getfield 39, 3) := by decide +kernel
theorem dX6_tryOut_4 : decode cX6_tryOut 4 = .ok (.getfield 156, 3) := by decide +kernel
theorem dX6_tryOut_7 : decode cX6_tryOut 7 = .ok (.iconst 0, 1) := by decide +kernel
theorem dX6_tryOut_8 : decode cX6_tryOut 8 = .ok (.aaload, 1) := by decide +kernel
theorem dX6_tryOut_9 : decode cX6_tryOut 9 = .ok (.aload_n 0, 1) := by decide +kernel
theorem dX6_tryOut_10 : decode cX6_tryOut 10 = .ok (.getfield 19, 3) := by decide +kernel
theorem dX6_tryOut_13 : decode cX6_tryOut 13 = .ok (.iload_n 1, 1) := by decide +kernel
theorem dX6_tryOut_14 : decode cX6_tryOut 14 = .ok (.aaload, 1) := by decide +kernel
theorem dX6_tryOut_15 : decode cX6_tryOut 15 = .ok (.invokevirtual 92, 3) := by decide +kernel
theorem dX6_tryOut_18 : decode cX6_tryOut 18 = .ok (.aload_n 0, 1) := by decide +kernel
theorem dX6_tryOut_19 : decode cX6_tryOut 19 = .ok (.getfield 39, 3) := by decide +kernel
theorem dX6_tryOut_22 : decode cX6_tryOut 22 = .ok (.getfield 156, 3) := by decide +kernel
theorem dX6_tryOut_25 : decode cX6_tryOut 25 = .ok (.iconst 1, 1) := by decide +kernel
theorem dX6_tryOut_26 : decode cX6_tryOut 26 = .ok (.aaload, 1) := by decide +kernel
theorem dX6_tryOut_27 : decode cX6_tryOut 27 = .ok (.aload_n 0, 1) := by decide +kernel
theorem dX6_tryOut_28 : decode cX6_tryOut 28 = .ok (.getfield 19, 3) := by decide +kernel
theorem dX6_tryOut_31 : decode cX6_tryOut 31 = .ok (.iload_n 2, 1) := by decide +kernel
theorem dX6_tryOut_32 : decode cX6_tryOut 32 = .ok (.aaload, 1) := by decide +kernel
theorem dX6_tryOut_33 : decode cX6_tryOut 33 = .ok (.invokevirtual 92, 3) := by decide +kernel
theorem dX6_tryOut_36 : decode cX6_tryOut 36 = .ok (.aload_n 0, 1) := by decide +kernel
theorem dX6_tryOut_37 : decode cX6_tryOut 37 = .ok (.getfield 39, 3) := by decide +kernel
theorem dX6_tryOut_40 : decode cX6_tryOut 40 = .ok (.getfield 159, 3) := by decide +kernel
theorem dX6_tryOut_43 : decode cX6_tryOut 43 = .ok (.iconst 0, 1) := by decide +kernel
theorem dX6_tryOut_44 : decode cX6_tryOut 44 = .ok (.aload_n 0, 1) := by decide +kernel
theorem dX6_tryOut_45 : decode cX6_tryOut 45 = .ok (.getfield 11, 3) := by decide +kernel
theorem dX6_tryOut_48 : decode cX6_tryOut 48 = .ok (.aload_n 0, 1) := by decide +kernel
theorem dX6_tryOut_49 : decode cX6_tryOut 49 = .ok (.getfield 19, 3) := by decide +kernel
theorem dX6_tryOut_52 : decode cX6_tryOut 52 = .ok (.iload_n 1, 1) := by decide +kernel
theorem dX6_tryOut_53 : decode cX6_tryOut 53 = .ok (.aaload, 1) := by decide +kernel
theorem dX6_tryOut_54 : decode cX6_tryOut 54 = .ok (.getfield 118, 3) := by decide +kernel
theorem dX6_tryOut_57 : decode cX6_tryOut 57 = .ok (.aaload, 1) := by decide +kernel
theorem dX6_tryOut_58 : decode cX6_tryOut 58 = .ok (.getfield 112, 3) := by decide +kernel
theorem dX6_tryOut_61 : decode cX6_tryOut 61 = .ok (.iastore, 1) := by decide +kernel
theorem dX6_tryOut_62 : decode cX6_tryOut 62 = .ok (.aload_n 0, 1) := by decide +kernel
theorem dX6_tryOut_63 : decode cX6_tryOut 63 = .ok (.getfield 39, 3) := by decide +kernel
theorem dX6_tryOut_66 : decode cX6_tryOut 66 = .ok (.getfield 159, 3) := by decide +kernel
theorem dX6_tryOut_69 : decode cX6_tryOut 69 = .ok (.iconst 1, 1) := by decide +kernel
theorem dX6_tryOut_70 : decode cX6_tryOut 70 = .ok (.aload_n 0, 1) := by decide +kernel
theorem dX6_tryOut_71 : decode cX6_tryOut 71 = .ok (.getfield 11, 3) := by decide +kernel
theorem dX6_tryOut_74 : decode cX6_tryOut 74 = .ok (.aload_n 0, 1) := by decide +kernel
theorem dX6_tryOut_75 : decode cX6_tryOut 75 = .ok (.getfield 19, 3) := by decide +kernel
theorem dX6_tryOut_78 : decode cX6_tryOut 78 = .ok (.iload_n 2, 1) := by decide +kernel
theorem dX6_tryOut_79 : decode cX6_tryOut 79 = .ok (.aaload, 1) := by decide +kernel
theorem dX6_tryOut_80 : decode cX6_tryOut 80 = .ok (.getfield 118, 3) := by decide +kernel
theorem dX6_tryOut_83 : decode cX6_tryOut 83 = .ok (.aaload, 1) := by decide +kernel
theorem dX6_tryOut_84 : decode cX6_tryOut 84 = .ok (.getfield 112, 3) := by decide +kernel
theorem dX6_tryOut_87 : decode cX6_tryOut 87 = .ok (.iastore, 1) := by decide +kernel
theorem dX6_tryOut_88 : decode cX6_tryOut 88 = .ok (.aload_n 0, 1) := by decide +kernel
theorem dX6_tryOut_89 : decode cX6_tryOut 89 = .ok (.getfield 39, 3) := by decide +kernel
theorem dX6_tryOut_92 : decode cX6_tryOut 92 = .ok (.getfield 162, 3) := by decide +kernel
theorem dX6_tryOut_95 : decode cX6_tryOut 95 = .ok (.iconst 0, 1) := by decide +kernel
theorem dX6_tryOut_96 : decode cX6_tryOut 96 = .ok (.iconst 0, 1) := by decide +kernel
theorem dX6_tryOut_97 : decode cX6_tryOut 97 = .ok (.iastore, 1) := by decide +kernel
theorem dX6_tryOut_98 : decode cX6_tryOut 98 = .ok (.aload_n 0, 1) := by decide +kernel
theorem dX6_tryOut_99 : decode cX6_tryOut 99 = .ok (.getfield 39, 3) := by decide +kernel
theorem dX6_tryOut_102 : decode cX6_tryOut 102 = .ok (.getfield 162, 3) := by decide +kernel
theorem dX6_tryOut_105 : decode cX6_tryOut 105 = .ok (.iconst 1, 1) := by decide +kernel
theorem dX6_tryOut_106 : decode cX6_tryOut 106 = .ok (.iconst 0, 1) := by decide +kernel
theorem dX6_tryOut_107 : decode cX6_tryOut 107 = .ok (.iastore, 1) := by decide +kernel
theorem dX6_tryOut_108 : decode cX6_tryOut 108 = .ok (.aload_n 0, 1) := by decide +kernel
theorem dX6_tryOut_109 : decode cX6_tryOut 109 = .ok (.getfield 39, 3) := by decide +kernel
theorem dX6_tryOut_112 : decode cX6_tryOut 112 = .ok (.aload_n 0, 1) := by decide +kernel
theorem dX6_tryOut_113 : decode cX6_tryOut 113 = .ok (.getfield 62, 3) := by decide +kernel
theorem dX6_tryOut_116 : decode cX6_tryOut 116 = .ok (.putfield 165, 3) := by decide +kernel
theorem dX6_tryOut_119 : decode cX6_tryOut 119 = .ok (.aload_n 0, 1) := by decide +kernel
theorem dX6_tryOut_120 : decode cX6_tryOut 120 = .ok (.getfield 39, 3) := by decide +kernel
theorem dX6_tryOut_123 : decode cX6_tryOut 123 = .ok (.aload_n 0, 1) := by decide +kernel
theorem dX6_tryOut_124 : decode cX6_tryOut 124 = .ok (.getfield 83, 3) := by decide +kernel
theorem dX6_tryOut_127 : decode cX6_tryOut 127 = .ok (.putfield 166, 3) := by decide +kernel
theorem dX6_tryOut_130 : decode cX6_tryOut 130 = .ok (.aload_n 0, 1) := by decide +kernel
theorem dX6_tryOut_131 : decode cX6_tryOut 131 = .ok (.getfield 39, 3) := by decide +kernel
theorem dX6_tryOut_134 : decode cX6_tryOut 134 = .ok (.areturn, 1) := by decide +kernel
abbrev M_X6_tryOut : MT := (yX6_tryOut, cX6_tryOut, 3, (some (.object "FootQuarrel$Spat")))
theorem cf_X6_tryOut : fq_cf M_X6_tryOut 2 := ⟨(mg_1 (List.mem_of_getElem? (i := 8) rfl) rfl), (mg_5 (List.mem_of_getElem? (i := 26) rfl) rfl), ⟨by decide, by decide, by decide +kernel⟩, by decide⟩
def B_X6_tryOut_0 (G : GT) (mc ms : Nat) (Q : Post) : Cn := ix_aload 0 (ix_getR 6 4 (ix_getR 5 0 (ix_pushI 0 (ix_aald 17 (ix_aload 0 (ix_getR 6 1 (ix_iload 1 (ix_aald 17 (ix_vcall 2 2 0 0 mc ms (sp_X2_copyFrom G) (ix_aload 0 (ix_getR 6 4 (ix_getR 5 0 (ix_pushI 1 (ix_aald 17 (ix_aload 0 (ix_getR 6 1 (ix_iload 2 (ix_aald 17 (ix_vcall 2 2 0 0 mc ms (sp_X2_copyFrom G) (ix_aload 0 (ix_getR 6 4 (ix_getR 5 1 (ix_pushI 0 (ix_aload 0 (ix_getR 6 0 (ix_aload 0 (ix_getR 6 1 (ix_iload 1 (ix_aald 17 (ix_getI 2 1 (ix_aald 16 (ix_getI 0 2 (ix_iast (ix_aload 0 (ix_getR 6 4 (ix_getR 5 1 (ix_pushI 1 (ix_aload 0 (ix_getR 6 0 (ix_aload 0 (ix_getR 6 1 (ix_iload 2 (ix_aald 17 (ix_getI 2 1 (ix_aald 16 (ix_getI 0 2 (ix_iast (ix_aload 0 (ix_getR 6 4 (ix_getR 5 2 (ix_pushI 0 (ix_pushI 0 (ix_iast (ix_aload 0 (ix_getR 6 4 (ix_getR 5 2 (ix_pushI 1 (ix_pushI 0 (ix_iast (ix_aload 0 (ix_getR 6 4 (ix_aload 0 (ix_getI 6 9 (ix_putI 5 3 (ix_aload 0 (ix_getR 6 4 (ix_aload 0 (ix_getI 6 16 (ix_putZ 5 4 (ix_aload 0 (ix_getR 6 4 (ix_aret mc ms Q))))))))))))))))))))))))))))))))))))))))))))))))))))))))))))))))))))))))
theorem b_X6_tryOut_0 {l : Launch} {G : GT} {D mc ms : Nat} {Q : Post} : Imp l G M_X6_tryOut (D + 1) mc ms Q (B_X6_tryOut_0 G mc ms Q) 0 := sx_aload_n dX6_tryOut_0 rfl (sx_getR dX6_tryOut_1 fl_FootQuarrel_Street_39 (fun _ _ _ => rfl) (sx_getR dX6_tryOut_4 fl_FootQuarrel_Street_156 (fun _ _ _ => rfl) (sx_iconst dX6_tryOut_7 rfl (sx_aald dX6_tryOut_8 (by decide) (by decide) rfl (sx_aload_n dX6_tryOut_9 rfl (sx_getR dX6_tryOut_10 fl_FootQuarrel_Street_19 (fun _ _ _ => rfl) (sx_iload_n dX6_tryOut_13 rfl (sx_aald dX6_tryOut_14 (by decide) (by decide) rfl (sx_vcall dX6_tryOut_15 cf_X2_copyFrom (mg_5 (List.mem_of_getElem? (i := 27) rfl) rfl) (mg_5 (List.mem_of_getElem? (i := 28) rfl) rfl) (mg_5 (List.mem_of_getElem? (i := 29) rfl) rfl) rfl c_X2_copyFrom (sx_aload_n dX6_tryOut_18 rfl (sx_getR dX6_tryOut_19 fl_FootQuarrel_Street_39 (fun _ _ _ => rfl) (sx_getR dX6_tryOut_22 fl_FootQuarrel_Street_156 (fun _ _ _ => rfl) (sx_iconst dX6_tryOut_25 rfl (sx_aald dX6_tryOut_26 (by decide) (by decide) rfl (sx_aload_n dX6_tryOut_27 rfl (sx_getR dX6_tryOut_28 fl_FootQuarrel_Street_19 (fun _ _ _ => rfl) (sx_iload_n dX6_tryOut_31 rfl (sx_aald dX6_tryOut_32 (by decide) (by decide) rfl (sx_vcall dX6_tryOut_33 cf_X2_copyFrom (mg_5 (List.mem_of_getElem? (i := 27) rfl) rfl) (mg_5 (List.mem_of_getElem? (i := 28) rfl) rfl) (mg_5 (List.mem_of_getElem? (i := 29) rfl) rfl) rfl c_X2_copyFrom (sx_aload_n dX6_tryOut_36 rfl (sx_getR dX6_tryOut_37 fl_FootQuarrel_Street_39 (fun _ _ _ => rfl) (sx_getR dX6_tryOut_40 fl_FootQuarrel_Street_159 (fun _ _ _ => rfl) (sx_iconst dX6_tryOut_43 rfl (sx_aload_n dX6_tryOut_44 rfl (sx_getR dX6_tryOut_45 fl_FootQuarrel_Street_11 (fun _ _ _ => rfl) (sx_aload_n dX6_tryOut_48 rfl (sx_getR dX6_tryOut_49 fl_FootQuarrel_Street_19 (fun _ _ _ => rfl) (sx_iload_n dX6_tryOut_52 rfl (sx_aald dX6_tryOut_53 (by decide) (by decide) rfl (sx_getI dX6_tryOut_54 fl_FootQuarrel_Street_118 (fun _ _ _ => rfl) (sx_aald dX6_tryOut_57 (by decide) (by decide) rfl (sx_getI dX6_tryOut_58 fl_FootQuarrel_Street_112 (fun _ _ _ => rfl) (sx_iast dX6_tryOut_61 (sx_aload_n dX6_tryOut_62 rfl (sx_getR dX6_tryOut_63 fl_FootQuarrel_Street_39 (fun _ _ _ => rfl) (sx_getR dX6_tryOut_66 fl_FootQuarrel_Street_159 (fun _ _ _ => rfl) (sx_iconst dX6_tryOut_69 rfl (sx_aload_n dX6_tryOut_70 rfl (sx_getR dX6_tryOut_71 fl_FootQuarrel_Street_11 (fun _ _ _ => rfl) (sx_aload_n dX6_tryOut_74 rfl (sx_getR dX6_tryOut_75 fl_FootQuarrel_Street_19 (fun _ _ _ => rfl) (sx_iload_n dX6_tryOut_78 rfl (sx_aald dX6_tryOut_79 (by decide) (by decide) rfl (sx_getI dX6_tryOut_80 fl_FootQuarrel_Street_118 (fun _ _ _ => rfl) (sx_aald dX6_tryOut_83 (by decide) (by decide) rfl (sx_getI dX6_tryOut_84 fl_FootQuarrel_Street_112 (fun _ _ _ => rfl) (sx_iast dX6_tryOut_87 (sx_aload_n dX6_tryOut_88 rfl (sx_getR dX6_tryOut_89 fl_FootQuarrel_Street_39 (fun _ _ _ => rfl) (sx_getR dX6_tryOut_92 fl_FootQuarrel_Street_162 (fun _ _ _ => rfl) (sx_iconst dX6_tryOut_95 rfl (sx_iconst dX6_tryOut_96 rfl (sx_iast dX6_tryOut_97 (sx_aload_n dX6_tryOut_98 rfl (sx_getR dX6_tryOut_99 fl_FootQuarrel_Street_39 (fun _ _ _ => rfl) (sx_getR dX6_tryOut_102 fl_FootQuarrel_Street_162 (fun _ _ _ => rfl) (sx_iconst dX6_tryOut_105 rfl (sx_iconst dX6_tryOut_106 rfl (sx_iast dX6_tryOut_107 (sx_aload_n dX6_tryOut_108 rfl (sx_getR dX6_tryOut_109 fl_FootQuarrel_Street_39 (fun _ _ _ => rfl) (sx_aload_n dX6_tryOut_112 rfl (sx_getI dX6_tryOut_113 fl_FootQuarrel_Street_62 (fun _ _ _ => rfl) (sx_putI dX6_tryOut_116 fl_FootQuarrel_Street_165 (by decide) (fun _ _ _ => rfl) (fun _ => ⟨rfl, rfl⟩) (sx_aload_n dX6_tryOut_119 rfl (sx_getR dX6_tryOut_120 fl_FootQuarrel_Street_39 (fun _ _ _ => rfl) (sx_aload_n dX6_tryOut_123 rfl (sx_getI dX6_tryOut_124 fl_FootQuarrel_Street_83 (fun _ _ _ => rfl) (sx_putZ dX6_tryOut_127 fl_FootQuarrel_Street_166 (by decide) (fun _ _ _ => rfl) (fun v h => by rcases h with h | h <;> subst h <;> exact ⟨rfl, rfl⟩) (sx_aload_n dX6_tryOut_130 rfl (sx_getR dX6_tryOut_131 fl_FootQuarrel_Street_39 (fun _ _ _ => rfl) (sx_aret dX6_tryOut_134 rfl))))))))))))))))))))))))))))))))))))))))))))))))))))))))))))))))))))))))
def sp_X6_tryOut (G : GT) : Sp := fun as S I J z Q => match as with
  | [.ref s, .int a, .int b] => stS S s ∧ vp_in a 8 ∧ vp_in b 8 ∧ vp_in (I (s + 24 + a.toNatClampNeg) 1) 6 ∧ vp_in (I (s + 24 + b.toNatClampNeg) 1) 6 ∧ (I s 16 = 0 ∨ I s 16 = 1) ∧ Q (some (.ref (s + 12))) S (tro I s a.toNatClampNeg b.toNatClampNeg) (troJ J s a.toNatClampNeg b.toNatClampNeg) z
  | _ => False
theorem n_ne1 (s a : Nat) : s + 24 + a ≠ s + 14 := by omega
set_option maxHeartbeats 4000000 in
set_option maxRecDepth 20000 in
theorem c_X6_tryOut {l : Launch} {G : GT} {D : Nat} : ∀ as S I J z Q, sp_X6_tryOut G as S I J z Q → fqCall l G M_X6_tryOut (D + 1) 0 0 as S I J z Q := by
  intro as S I J z Q h
  unfold sp_X6_tryOut at h
  split at h
  · next s a b =>
    obtain ⟨hs, ha, hb, hha, hhb, hr, hQ⟩ := h
    obtain ⟨a, ha9, rfl⟩ := vp_in_of ha (by decide)
    obtain ⟨b, hb9, rfl⟩ := vp_in_of hb (by decide)
    rw [nI_clamp (by omega), nI_clamp (by omega)] at hQ
    rw [nI_clamp (by omega)] at hha hhb
    obtain ⟨ca, hca, hea⟩ := vp_in_of hha (by decide)
    obtain ⟨cb, hcb, heb⟩ := vp_in_of hhb (by decide)
    refine fq_enter [some (.ref s), some (.int (nI a)), some (.int (nI b))] (by decide +kernel) (Nat.le_of_ble_eq_true rfl) rfl (b_X6_tryOut_0 _ _ _ _ _ _ _ _ ?_)
    simp (disch := omega) only [B_X6_tryOut_0, sp_X2_copyFrom, hs.k, hs.r0, hs.k1, hs.r1, hs.k2, hs.r2, hs.k3, hs.r3, hs.k4, hs.r4, hs.k12, hs.n1, hs.n2, hs.n3, hs.y0, hs.k5, hs.n5, hs.y1, hs.k6, hs.n6, hs.y2, hs.k7, hs.n7, hs.y3, hs.k8, hs.n8, hs.y4, hs.k9, hs.n9, hs.y5, hs.k10, hs.n10, hs.y6, hs.k11, hs.n11, hs.p0, hs.p1, hs.p2, hs.k13, hs.n13, hs.q0, hs.q1, hs.k14, hs.k15, hs.k16, hs.n16, hs.k17, hs.n17, hs.rH, hs.kH, hs.rP, hs.kP, hs.rQ, hs.kQ, tn0, tn1, vin02, vin12, u2_ca, u2_ck, cpF_ca, hea, heb, hr, nI_1, nI_add, nI_clamp, nI_pin, nI_neg, nI_nonneg, nI_leE, nI_ltE, nI_eqE, Nat.not_le, Nat.not_lt, fq_10, fq_01, fq_rr, ix_aald, ix_aast, ix_abs, ix_alen, ix_aload, ix_aret, ix_astore, ix_bald, ix_bast, ix_call, ix_cpyI, ix_cpyJ, ix_dead, ix_dup2, ix_dup2L, ix_dupI, ix_dupR, ix_dupx1, ix_getI, ix_getJ, ix_getR, ix_gfm, ix_gtab, ix_i2b, ix_i2c, ix_i2l, ix_i2s, ix_iadd, ix_iald, ix_iand, ix_iast, ix_icall, ix_icmp_eq, ix_icmp_ge, ix_icmp_gt, ix_icmp_le, ix_icmp_lt, ix_icmp_ne, ix_idiv, ix_if_eq, ix_if_ge, ix_if_gt, ix_if_le, ix_if_lt, ix_if_ne, ix_iinc, ix_iload, ix_imul, ix_ineg, ix_ior, ix_irem, ix_iret, ix_ishl, ix_ishr, ix_istore, ix_isub, ix_iushr, ix_ixor, ix_l2i, ix_ladd, ix_lald, ix_land, ix_last, ix_lcmp, ix_ldcS, ix_ldiv, ix_lload, ix_lmul, ix_lor, ix_lrem, ix_lret, ix_lshl, ix_lstore, ix_lsub, ix_lsw, ix_max, ix_min, ix_new, ix_newa, ix_nret, ix_oinit, ix_pop2L, ix_popI, ix_pushI, ix_pushL, ix_putI, ix_putJ, ix_putR, ix_putZ, ix_sbald, ix_sgetC, ix_sgetV, ix_slen, ix_strc, ix_tald, ix_tsw, ix_vcall, ix_vret, ix_zret, stL, stL2, kilL, popN, fq_sw, fq_lsw, List.map_cons, List.map_nil, List.getElem?_cons_zero, List.getElem?_cons_succ, Option.toList_some, Option.toList_none, List.cons_append, List.nil_append, List.length_cons, List.length_nil, List.sum_cons, List.sum_nil, cat_i, cat_l, cat_r, true_and, and_true, Nat.zero_add, Nat.add_zero, Nat.le_refl, Nat.zero_le, Nat.reduceAdd, Nat.reduceLeDiff, exists_eq_left', Option.some.injEq, not_true_eq_false, not_false_eq_true, false_implies, true_implies, implies_true, and_self, or_true, true_or, or_false, false_or]
    have e1 : u2 (u2 (u2 (u2 (u2 (u2 (cpF (cpF I (s + 14) (s + 24 + a) 1 7) (s + 15) (s + 24 + b) 1 7) (s + 16) 0 (I (s + 18 + ca) 2)) (s + 16) 1 (I (s + 18 + cb) 2)) (s + 17) 0 0) (s + 17) 1 0) (s + 12) 3 (I s 9)) (s + 12) 4 (I s 16) = tro I s a b := by
      have n1 := n_ne1 s b
      funext q k
      unfold u2 cpF tro
      rw [hea, heb, nI_clamp (by omega), nI_clamp (by omega)]
      rcases (show q = s + 12 ∨ q = s + 14 ∨ q = s + 15 ∨ q = s + 16 ∨ q = s + 17 ∨ (q ≠ s + 12 ∧ q ≠ s + 14 ∧ q ≠ s + 15 ∧ q ≠ s + 16 ∧ q ≠ s + 17) by omega) with rfl | rfl | rfl | rfl | rfl | ⟨h1, h2, h3, h4, h5⟩
      · by_cases hk : k = 4
        · subst hk
          simp
        · simp [hk]
      · simp [n1]
      · simp [n1]
      · by_cases hk : k = 0
        · subst hk
          simp
        · by_cases hk1 : k = 1
          · subst hk1
            simp
          · simp [hk, hk1]
      · by_cases hk : k = 0
        · subst hk
          simp
        · by_cases hk1 : k = 1
          · subst hk1
            simp
          · simp [hk, hk1]
            intro q
            omega
      · simp [h1, h2, h3, h4, h5]
    rw [e1]
    exact hQ
  · exact h.elim
/-- what may have changed: the two neighbours' own cells alone -/
def scr (s : Nat) (I I' : IH) (J J' : JH) : Prop := (∀ q k, (q < s + 12 ∨ s + 18 ≤ q) → I' q k = I q k) ∧ ∀ q k, (q < s + 12 ∨ s + 18 ≤ q) → J' q k = J q k
theorem scr.rf {s : Nat} {I : IH} {J : JH} : scr s I I J J := ⟨fun _ _ _ => rfl, fun _ _ _ => rfl⟩
theorem scr.tr {s : Nat} {I I1 I2 : IH} {J J1 J2 : JH} (h : scr s I I1 J J1) (g : scr s I1 I2 J1 J2) : scr s I I2 J J2 := ⟨fun q k hq => (g.1 q k hq).trans (h.1 q k hq), fun q k hq => (g.2 q k hq).trans (h.2 q k hq)⟩
theorem tro_scr (I : IH) (J : JH) (s a b : Nat) : scr s I (tro I s a b) J (troJ J s a b) := by
  refine ⟨fun q k hq => ?_, fun q k hq => ?_⟩
  · unfold tro
    rw [if_neg (by omega), if_neg (by omega), if_neg (by omega), if_neg (by omega), if_neg (by omega), if_neg (by omega), if_neg (by omega)]
  · unfold troJ
    rw [u2_ca _ _ _ _ _ _ (by omega), u2_ca _ _ _ _ _ _ (by omega)]
theorem wbT_scr (I : IH) (J : JH) (s : Nat) (x : S8) : scr s I (wbT I s x) J J := by
  refine ⟨fun q k hq => ?_, fun q k hq => rfl⟩
  unfold wbT wbS
  rw [if_neg (by omega), if_neg (by omega), if_neg (by omega), if_neg (by omega), if_neg (by omega), if_neg (by omega), if_neg (by omega), if_neg (by omega)]
/-- the quarrel that a say of a to b would be -/
def qrl (I : IH) (s a b : Nat) : Nat × S8 := spk (I (s + 24 + a) 2) (I (s + 24 + b) 2) (I (s + 24 + a) 3) (I (s + 24 + b) 3) (I s 9) (I s 16) 6 true (ldn (I (s + 24 + a) 4) (I s 16)) (I (s + 24 + a) 6, I (s + 24 + b) 6, I (s + 24 + a) 7, I (s + 24 + b) 7, I (s + 18 + (I (s + 24 + a) 1).toNatClampNeg) 2, I (s + 18 + (I (s + 24 + b) 1).toNatClampNeg) 2, 0, 0)
theorem qrl_eq (I : IH) (s a b : Nat) : spkI (tro I s a b) s 6 true (ldn (tro I s a b (s + 14) 4) (tro I s a b (s + 12) 4)) (rdS (tro I s a b) s) = qrl I s a b := by
  have e : ∀ k, 1 ≤ k → k ≤ 7 → tro I s a b (s + 14) k = I (s + 24 + a) k := fun k h1 h2 => by unfold tro; rw [if_pos ⟨rfl, h1, h2⟩]
  have f : ∀ k, 1 ≤ k → k ≤ 7 → tro I s a b (s + 15) k = I (s + 24 + b) k := fun k h1 h2 => by unfold tro; rw [if_neg (by omega), if_pos ⟨rfl, h1, h2⟩]
  have g3 : tro I s a b (s + 12) 3 = I s 9 := by simp [tro]
  have g4 : tro I s a b (s + 12) 4 = I s 16 := by simp [tro]
  have w0 : tro I s a b (s + 16) 0 = I (s + 18 + (I (s + 24 + a) 1).toNatClampNeg) 2 := by simp [tro]
  have w1 : tro I s a b (s + 16) 1 = I (s + 18 + (I (s + 24 + b) 1).toNatClampNeg) 2 := by simp [tro]
  have l0 : tro I s a b (s + 17) 0 = 0 := by simp [tro]
  have l1 : tro I s a b (s + 17) 1 = 0 := by simp [tro]
  unfold spkI rdS qrl
  rw [e 2 (by decide) (by decide), e 3 (by decide) (by decide), e 4 (by decide) (by decide), e 6 (by decide) (by decide), e 7 (by decide) (by decide), f 2 (by decide) (by decide), f 3 (by decide) (by decide), f 6 (by decide) (by decide), f 7 (by decide) (by decide), g3, g4, w0, w1, l0, l1]
theorem dX6_gain_0 : decode cX6_gain 0 = .ok (.aload_n 0, 1) := by decide +kernel
theorem dX6_gain_1 : decode cX6_gain 1 = .ok (.iload_n 1, 1) := by decide +kernel
theorem dX6_gain_2 : decode cX6_gain 2 = .ok (.iload_n 2, 1) := by decide +kernel
theorem dX6_gain_3 : decode cX6_gain 3 = .ok (.invokevirtual 167, 3) := by decide +kernel
theorem dX6_gain_6 : decode cX6_gain 6 = .ok (.iconst 0, 1) := by decide +kernel
theorem dX6_gain_7 : decode cX6_gain 7 = .ok (.invokevirtual 171, 3) := by decide +kernel
theorem dX6_gain_10 : decode cX6_gain 10 = .ok (.pop, 1) := by decide +kernel
theorem dX6_gain_11 : decode cX6_gain 11 = .ok (.aload_n 0, 1) := by decide +kernel
theorem dX6_gain_12 : decode cX6_gain 12 = .ok (.getfield 39, 3) := by decide +kernel
theorem dX6_gain_15 : decode cX6_gain 15 = .ok (.getfield 159, 3) := by decide +kernel
theorem dX6_gain_18 : decode cX6_gain 18 = .ok (.iconst 0, 1) := by decide +kernel
theorem dX6_gain_19 : decode cX6_gain 19 = .ok (.iaload, 1) := by decide +kernel
theorem dX6_gain_20 : decode cX6_gain 20 = .ok (.aload_n 0, 1) := by decide +kernel
theorem dX6_gain_21 : decode cX6_gain 21 = .ok (.getfield 11, 3) := by decide +kernel
theorem dX6_gain_24 : decode cX6_gain 24 = .ok (.aload_n 0, 1) := by decide +kernel
theorem dX6_gain_25 : decode cX6_gain 25 = .ok (.getfield 19, 3) := by decide +kernel
theorem dX6_gain_28 : decode cX6_gain 28 = .ok (.iload_n 1, 1) := by decide +kernel
theorem dX6_gain_29 : decode cX6_gain 29 = .ok (.aaload, 1) := by decide +kernel
theorem dX6_gain_30 : decode cX6_gain 30 = .ok (.getfield 118, 3) := by decide +kernel
theorem dX6_gain_33 : decode cX6_gain 33 = .ok (.aaload, 1) := by decide +kernel
theorem dX6_gain_34 : decode cX6_gain 34 = .ok (.getfield 112, 3) := by decide +kernel
theorem dX6_gain_37 : decode cX6_gain 37 = .ok (.isub, 1) := by decide +kernel
theorem dX6_gain_38 : decode cX6_gain 38 = .ok (.ireturn, 1) := by decide +kernel
abbrev M_X6_gain : MT := (yX6_gain, cX6_gain, 3, (some .int))
theorem cf_X6_gain : fq_cf M_X6_gain 2 := ⟨(mg_1 (List.mem_of_getElem? (i := 8) rfl) rfl), (mg_5 (List.mem_of_getElem? (i := 168) rfl) rfl), ⟨by decide, by decide, by decide +kernel⟩, by decide⟩
def B_X6_gain_0 (G : GT) (mc ms : Nat) (Q : Post) : Cn := ix_aload 0 (ix_iload 1 (ix_iload 2 (ix_vcall 6 3 0 0 mc ms (sp_X6_tryOut G) (ix_pushI 0 (ix_vcall 5 2 0 0 mc ms (sp_X5_speak G) (ix_popI (ix_aload 0 (ix_getR 6 4 (ix_getR 5 1 (ix_pushI 0 (ix_iald (ix_aload 0 (ix_getR 6 0 (ix_aload 0 (ix_getR 6 1 (ix_iload 1 (ix_aald 17 (ix_getI 2 1 (ix_aald 16 (ix_getI 0 2 (ix_isub (ix_iret mc ms Q))))))))))))))))))))))
theorem b_X6_gain_0 {l : Launch} {G : GT} {D mc ms : Nat} {Q : Post} : Imp l G M_X6_gain (D + 3) mc ms Q (B_X6_gain_0 G mc ms Q) 0 := sx_aload_n dX6_gain_0 rfl (sx_iload_n dX6_gain_1 rfl (sx_iload_n dX6_gain_2 rfl (sx_vcall dX6_gain_3 cf_X6_tryOut (mg_5 (List.mem_of_getElem? (i := 23) rfl) rfl) (mg_5 (List.mem_of_getElem? (i := 24) rfl) rfl) (mg_5 (List.mem_of_getElem? (i := 25) rfl) rfl) rfl c_X6_tryOut (sx_iconst dX6_gain_6 rfl (sx_vcall dX6_gain_7 cf_X5_speak (mg_5 (List.mem_of_getElem? (i := 31) rfl) rfl) (mg_5 (List.mem_of_getElem? (i := 32) rfl) rfl) (mg_5 (List.mem_of_getElem? (i := 33) rfl) rfl) rfl c_X5_speak (sx_popI dX6_gain_10 (sx_aload_n dX6_gain_11 rfl (sx_getR dX6_gain_12 fl_FootQuarrel_Street_39 (fun _ _ _ => rfl) (sx_getR dX6_gain_15 fl_FootQuarrel_Street_159 (fun _ _ _ => rfl) (sx_iconst dX6_gain_18 rfl (sx_iald dX6_gain_19 (sx_aload_n dX6_gain_20 rfl (sx_getR dX6_gain_21 fl_FootQuarrel_Street_11 (fun _ _ _ => rfl) (sx_aload_n dX6_gain_24 rfl (sx_getR dX6_gain_25 fl_FootQuarrel_Street_19 (fun _ _ _ => rfl) (sx_iload_n dX6_gain_28 rfl (sx_aald dX6_gain_29 (by decide) (by decide) rfl (sx_getI dX6_gain_30 fl_FootQuarrel_Street_118 (fun _ _ _ => rfl) (sx_aald dX6_gain_33 (by decide) (by decide) rfl (sx_getI dX6_gain_34 fl_FootQuarrel_Street_112 (fun _ _ _ => rfl) (sx_isub dX6_gain_37 (sx_iret dX6_gain_38 rfl))))))))))))))))))))))
/-- what a say needs of a street -/
def prS (S : Sh) (I : IH) (s a b : Nat) : Prop := stS S s ∧ vp_in (I (s + 24 + a) 1) 6 ∧ vp_in (I (s + 24 + b) 1) 6 ∧ (I s 16 = 0 ∨ I s 16 = 1)
def sp_X6_gain (G : GT) : Sp := fun as S I J z Q => match as with
  | [.ref s, .int a, .int b] => vp_in a 8 ∧ vp_in b 8 ∧ prS S I s a.toNatClampNeg b.toNatClampNeg ∧ ∀ I' J', scr s I I' J J' → Q (some (.int ((qrl I s a.toNatClampNeg b.toNatClampNeg).2.2.2.2.2.1 - I (s + 18 + (I (s + 24 + a.toNatClampNeg) 1).toNatClampNeg) 2))) S I' J' z
  | _ => False
set_option maxHeartbeats 4000000 in
set_option maxRecDepth 20000 in
theorem c_X6_gain {l : Launch} {G : GT} {D : Nat} : ∀ as S I J z Q, sp_X6_gain G as S I J z Q → fqCall l G M_X6_gain (D + 3) 0 0 as S I J z Q := by
  intro as S I J z Q h
  unfold sp_X6_gain at h
  split at h
  · next s a b =>
    obtain ⟨ha, hb, ⟨hs, hha, hhb, hr⟩, hQ⟩ := h
    obtain ⟨a, ha9, rfl⟩ := vp_in_of ha (by decide)
    obtain ⟨b, hb9, rfl⟩ := vp_in_of hb (by decide)
    rw [nI_clamp (by omega)] at hha hhb
    rw [nI_clamp (by omega), nI_clamp (by omega)] at hQ
    have hq := hQ _ _ (scr.tr (tro_scr I J s a b) (wbT_scr _ _ s (qrl I s a b).2))
    obtain ⟨ca, hca, hea⟩ := vp_in_of hha (by decide)
    have t1 := (scr.tr (tro_scr I J s a b) (wbT_scr _ _ s (qrl I s a b).2)).1
    refine fq_enter [some (.ref s), some (.int (nI a)), some (.int (nI b))] (by decide +kernel) (Nat.le_of_ble_eq_true rfl) rfl (b_X6_gain_0 _ _ _ _ _ _ _ _ ?_)
    simp (disch := omega) only [B_X6_gain_0, sp_X6_tryOut, sp_X5_speak, hs.k, hs.r0, hs.k1, hs.r1, hs.k2, hs.r2, hs.k3, hs.r3, hs.k4, hs.r4, hs.k12, hs.n1, hs.n2, hs.n3, hs.y0, hs.k5, hs.n5, hs.y1, hs.k6, hs.n6, hs.y2, hs.k7, hs.n7, hs.y3, hs.k8, hs.n8, hs.y4, hs.k9, hs.n9, hs.y5, hs.k10, hs.n10, hs.y6, hs.k11, hs.n11, hs.p0, hs.p1, hs.p2, hs.k13, hs.n13, hs.q0, hs.q1, hs.k14, hs.k15, hs.k16, hs.n16, hs.k17, hs.n17, hs.rH, hs.kH, hs.rP, hs.kP, hs.rQ, hs.kQ, hs, hha, hhb, hr, qrl_eq, tn0, tn1, vin02, vin12, fq_10, Nat.add_right_cancel_iff, t1, hea, wbT, wbS_w0, nI_1, nI_add, nI_clamp, nI_pin, nI_neg, nI_nonneg, nI_leE, nI_ltE, nI_eqE, Nat.not_le, Nat.not_lt, fq_10, fq_01, fq_rr, ix_aald, ix_aast, ix_abs, ix_alen, ix_aload, ix_aret, ix_astore, ix_bald, ix_bast, ix_call, ix_cpyI, ix_cpyJ, ix_dead, ix_dup2, ix_dup2L, ix_dupI, ix_dupR, ix_dupx1, ix_getI, ix_getJ, ix_getR, ix_gfm, ix_gtab, ix_i2b, ix_i2c, ix_i2l, ix_i2s, ix_iadd, ix_iald, ix_iand, ix_iast, ix_icall, ix_icmp_eq, ix_icmp_ge, ix_icmp_gt, ix_icmp_le, ix_icmp_lt, ix_icmp_ne, ix_idiv, ix_if_eq, ix_if_ge, ix_if_gt, ix_if_le, ix_if_lt, ix_if_ne, ix_iinc, ix_iload, ix_imul, ix_ineg, ix_ior, ix_irem, ix_iret, ix_ishl, ix_ishr, ix_istore, ix_isub, ix_iushr, ix_ixor, ix_l2i, ix_ladd, ix_lald, ix_land, ix_last, ix_lcmp, ix_ldcS, ix_ldiv, ix_lload, ix_lmul, ix_lor, ix_lrem, ix_lret, ix_lshl, ix_lstore, ix_lsub, ix_lsw, ix_max, ix_min, ix_new, ix_newa, ix_nret, ix_oinit, ix_pop2L, ix_popI, ix_pushI, ix_pushL, ix_putI, ix_putJ, ix_putR, ix_putZ, ix_sbald, ix_sgetC, ix_sgetV, ix_slen, ix_strc, ix_tald, ix_tsw, ix_vcall, ix_vret, ix_zret, stL, stL2, kilL, popN, fq_sw, fq_lsw, List.map_cons, List.map_nil, List.getElem?_cons_zero, List.getElem?_cons_succ, Option.toList_some, Option.toList_none, List.cons_append, List.nil_append, List.length_cons, List.length_nil, List.sum_cons, List.sum_nil, cat_i, cat_l, cat_r, true_and, and_true, Nat.zero_add, Nat.add_zero, Nat.le_refl, Nat.zero_le, Nat.reduceAdd, Nat.reduceLeDiff, exists_eq_left', Option.some.injEq, not_true_eq_false, not_false_eq_true, false_implies, true_implies, implies_true, and_self, or_true, true_or, or_false, false_or]
    rw [hea, nI_clamp (by omega)] at hq
    exact hq
  · exact h.elim
