/-! the reference: hiring -/
def sp_X12_bits (G : GT) : Sp := fun as S I J z Q => match as with
  | [.int x] => ∃ k, x = nI k ∧ k < 256 ∧ Q (some (.int (nI (bitU 9 (nI k))))) S I J z
  | _ => False
theorem bit_and : ∀ k, k < 256 → ¬ k = 0 → nI k &&& (nI k - 1) = nI (k &&& (k - 1)) := by decide +kernel
theorem bit_lt : ∀ k, k < 256 → k &&& (k - 1) < 256 := by decide +kernel
theorem bit_end : ∀ k, k < 256 → bitU 9 (nI k) = bitU 40 (nI k) := by decide +kernel
/-- how many steps are left -/
theorem bit_le : ∀ k, k < 256 → bitU 9 (nI k) ≤ 8 := by decide +kernel
theorem bit_0 : ∀ k, k < 256 → ¬ k = 0 → bitU 9 (nI k) = bitU 9 (nI (k &&& (k - 1))) + 1 := by decide +kernel
theorem bit_z : ∀ k, k < 256 → bitU 9 (nI k) = 0 → k = 0 := by decide +kernel
set_option maxHeartbeats 4000000 in
set_option maxRecDepth 20000 in
theorem c_X12_bits {l : Launch} {G : GT} {D : Nat} : ∀ as S I J z Q, sp_X12_bits G as S I J z Q → fqCall l G M_X12_bits (D + 0) 0 0 as S I J z Q := by
  intro as S I J z Q h
  unfold sp_X12_bits at h
  split at h
  · next x =>
    obtain ⟨k, rfl, hk, hQ⟩ := h
    have lp : ∀ (n k c : Nat), k < 256 → bitU 9 (nI k) = n → c + n ≤ 100 → Q (some (.int (nI (c + n)))) S I J z → ∀ x0, fqAt l G M_X12_bits (D + 0) 0 0 Q 4 [some (.int x0), some (.int (nI c)), some (.int (nI k))] [] S I J z 0 0 := by
      intro n
      induction n with
      | zero =>
        intro k c hk hb hc hq x0
        have e := bit_z k hk hb
        subst e
        refine b_X12_bits_4 _ _ _ _ _ _ _ _ ?_
        simp (disch := omega) only [B_X12_bits_0, B_X12_bits_4, nI_1, nI_add, nI_clamp, nI_pin, nI_neg, nI_nonneg, nI_leE, nI_ltE, nI_eqE, Nat.not_le, Nat.not_lt, fq_10, fq_01, fq_rr, ix_aald, ix_aast, ix_abs, ix_alen, ix_aload, ix_aret, ix_astore, ix_bald, ix_bast, ix_call, ix_cpyI, ix_cpyJ, ix_dead, ix_dup2, ix_dup2L, ix_dupI, ix_dupR, ix_dupx1, ix_getI, ix_getJ, ix_getR, ix_gfm, ix_gtab, ix_i2b, ix_i2c, ix_i2l, ix_i2s, ix_iadd, ix_iald, ix_iand, ix_iast, ix_icall, ix_icmp_eq, ix_icmp_ge, ix_icmp_gt, ix_icmp_le, ix_icmp_lt, ix_icmp_ne, ix_idiv, ix_if_eq, ix_if_ge, ix_if_gt, ix_if_le, ix_if_lt, ix_if_ne, ix_iinc, ix_iload, ix_imul, ix_ineg, ix_ior, ix_irem, ix_iret, ix_ishl, ix_ishr, ix_istore, ix_isub, ix_iushr, ix_ixor, ix_l2i, ix_ladd, ix_lald, ix_land, ix_last, ix_lcmp, ix_ldcS, ix_ldiv, ix_lload, ix_lmul, ix_lor, ix_lrem, ix_lret, ix_lshl, ix_lstore, ix_lsub, ix_lsw, ix_max, ix_min, ix_new, ix_newa, ix_nret, ix_oinit, ix_pop2L, ix_popI, ix_pushI, ix_pushL, ix_putI, ix_putJ, ix_putR, ix_putZ, ix_sbald, ix_sgetC, ix_sgetV, ix_slen, ix_strc, ix_tald, ix_tsw, ix_vcall, ix_vret, ix_zret, stL, stL2, kilL, popN, fq_sw, fq_lsw, List.map_cons, List.map_nil, List.getElem?_cons_zero, List.getElem?_cons_succ, Option.toList_some, Option.toList_none, List.cons_append, List.nil_append, List.length_cons, List.length_nil, List.sum_cons, List.sum_nil, cat_i, cat_l, cat_r, true_and, and_true, Nat.zero_add, Nat.add_zero, Nat.le_refl, Nat.zero_le, Nat.reduceAdd, Nat.reduceLeDiff, exists_eq_left', Option.some.injEq, not_true_eq_false, not_false_eq_true, false_implies, true_implies, implies_true, and_self, or_true, true_or, or_false, false_or]
        exact ⟨fun _ => hq, fun h => absurd (by decide) h⟩
      | succ n ih =>
        intro k c hk hb hc hq x0
        have h0 : ¬ k = 0 := fun e => by
          subst e
          have : bitU 9 (nI 0) = 0 := by decide
          omega
        have e1 := bit_and k hk h0
        have e2 := bit_0 k hk h0
        have hz := ih (k &&& (k - 1)) (c + 1) (bit_lt k hk) (by omega) (by omega) (by rw [show c + 1 + n = c + (n + 1) by omega]; exact hq) x0
        have hk0 : ¬ nI k = 0 := fun e => h0 (nI_i (b := 0) (by omega) (by omega) e)
        refine b_X12_bits_4 _ _ _ _ _ _ _ _ ?_
        simp (disch := omega) only [B_X12_bits_0, B_X12_bits_4, e1, nI_1, nI_add, nI_clamp, nI_pin, nI_neg, nI_nonneg, nI_leE, nI_ltE, nI_eqE, Nat.not_le, Nat.not_lt, fq_10, fq_01, fq_rr, ix_aald, ix_aast, ix_abs, ix_alen, ix_aload, ix_aret, ix_astore, ix_bald, ix_bast, ix_call, ix_cpyI, ix_cpyJ, ix_dead, ix_dup2, ix_dup2L, ix_dupI, ix_dupR, ix_dupx1, ix_getI, ix_getJ, ix_getR, ix_gfm, ix_gtab, ix_i2b, ix_i2c, ix_i2l, ix_i2s, ix_iadd, ix_iald, ix_iand, ix_iast, ix_icall, ix_icmp_eq, ix_icmp_ge, ix_icmp_gt, ix_icmp_le, ix_icmp_lt, ix_icmp_ne, ix_idiv, ix_if_eq, ix_if_ge, ix_if_gt, ix_if_le, ix_if_lt, ix_if_ne, ix_iinc, ix_iload, ix_imul, ix_ineg, ix_ior, ix_irem, ix_iret, ix_ishl, ix_ishr, ix_istore, ix_isub, ix_iushr, ix_ixor, ix_l2i, ix_ladd, ix_lald, ix_land, ix_last, ix_lcmp, ix_ldcS, ix_ldiv, ix_lload, ix_lmul, ix_lor, ix_lrem, ix_lret, ix_lshl, ix_lstore, ix_lsub, ix_lsw, ix_max, ix_min, ix_new, ix_newa, ix_nret, ix_oinit, ix_pop2L, ix_popI, ix_pushI, ix_pushL, ix_putI, ix_putJ, ix_putR, ix_putZ, ix_sbald, ix_sgetC, ix_sgetV, ix_slen, ix_strc, ix_tald, ix_tsw, ix_vcall, ix_vret, ix_zret, stL, stL2, kilL, popN, fq_sw, fq_lsw, List.map_cons, List.map_nil, List.getElem?_cons_zero, List.getElem?_cons_succ, Option.toList_some, Option.toList_none, List.cons_append, List.nil_append, List.length_cons, List.length_nil, List.sum_cons, List.sum_nil, cat_i, cat_l, cat_r, true_and, and_true, Nat.zero_add, Nat.add_zero, Nat.le_refl, Nat.zero_le, Nat.reduceAdd, Nat.reduceLeDiff, exists_eq_left', Option.some.injEq, not_true_eq_false, not_false_eq_true, false_implies, true_implies, implies_true, and_self, or_true, true_or, or_false, false_or]
        exact ⟨fun h => absurd h hk0, fun _ => hz⟩
    refine fq_enter [some (.int (nI k)), none, none] (by decide +kernel) (Nat.le_of_ble_eq_true rfl) rfl (b_X12_bits_0 _ _ _ _ _ _ _ _ ?_)
    simp (disch := omega) only [B_X12_bits_0, B_X12_bits_4, nI_1, nI_add, nI_clamp, nI_pin, nI_neg, nI_nonneg, nI_leE, nI_ltE, nI_eqE, Nat.not_le, Nat.not_lt, fq_10, fq_01, fq_rr, ix_aald, ix_aast, ix_abs, ix_alen, ix_aload, ix_aret, ix_astore, ix_bald, ix_bast, ix_call, ix_cpyI, ix_cpyJ, ix_dead, ix_dup2, ix_dup2L, ix_dupI, ix_dupR, ix_dupx1, ix_getI, ix_getJ, ix_getR, ix_gfm, ix_gtab, ix_i2b, ix_i2c, ix_i2l, ix_i2s, ix_iadd, ix_iald, ix_iand, ix_iast, ix_icall, ix_icmp_eq, ix_icmp_ge, ix_icmp_gt, ix_icmp_le, ix_icmp_lt, ix_icmp_ne, ix_idiv, ix_if_eq, ix_if_ge, ix_if_gt, ix_if_le, ix_if_lt, ix_if_ne, ix_iinc, ix_iload, ix_imul, ix_ineg, ix_ior, ix_irem, ix_iret, ix_ishl, ix_ishr, ix_istore, ix_isub, ix_iushr, ix_ixor, ix_l2i, ix_ladd, ix_lald, ix_land, ix_last, ix_lcmp, ix_ldcS, ix_ldiv, ix_lload, ix_lmul, ix_lor, ix_lrem, ix_lret, ix_lshl, ix_lstore, ix_lsub, ix_lsw, ix_max, ix_min, ix_new, ix_newa, ix_nret, ix_oinit, ix_pop2L, ix_popI, ix_pushI, ix_pushL, ix_putI, ix_putJ, ix_putR, ix_putZ, ix_sbald, ix_sgetC, ix_sgetV, ix_slen, ix_strc, ix_tald, ix_tsw, ix_vcall, ix_vret, ix_zret, stL, stL2, kilL, popN, fq_sw, fq_lsw, List.map_cons, List.map_nil, List.getElem?_cons_zero, List.getElem?_cons_succ, Option.toList_some, Option.toList_none, List.cons_append, List.nil_append, List.length_cons, List.length_nil, List.sum_cons, List.sum_nil, cat_i, cat_l, cat_r, true_and, and_true, Nat.zero_add, Nat.add_zero, Nat.le_refl, Nat.zero_le, Nat.reduceAdd, Nat.reduceLeDiff, exists_eq_left', Option.some.injEq, not_true_eq_false, not_false_eq_true, false_implies, true_implies, implies_true, and_self, or_true, true_or, or_false, false_or]
    have := lp (bitU 9 (nI k)) k 0 hk rfl (by have := bit_le k hk; omega) (by rw [Nat.zero_add]; exact hQ) (nI k)
    exact this
  · exact h.elim
theorem dX12_hiring_0 : decode cX12_hiring 0 = .ok (.aload_n 0, 1) := by decide +kernel
theorem dX12_hiring_1 : decode cX12_hiring 1 = .ok (.iload_n 1, 1) := by decide +kernel
theorem dX12_hiring_2 : decode cX12_hiring 2 = .ok (.invokevirtual 292, 3) := by decide +kernel
theorem dX12_hiring_5 : decode cX12_hiring 5 = .ok (.istore_n 2, 1) := by decide +kernel
theorem dX12_hiring_6 : decode cX12_hiring 6 = .ok (.iconst (-1), 1) := by decide +kernel
theorem dX12_hiring_7 : decode cX12_hiring 7 = .ok (.istore_n 3, 1) := by decide +kernel
theorem dX12_hiring_8 : decode cX12_hiring 8 = .ok (.iconst 1, 1) := by decide +kernel
theorem dX12_hiring_9 : decode cX12_hiring 9 = .ok (.istore 4, 2) := by decide +kernel
theorem dX12_hiring_11 : decode cX12_hiring 11 = .ok (.iload 4, 2) := by decide +kernel
theorem dX12_hiring_13 : decode cX12_hiring 13 = .ok (.iload_n 2, 1) := by decide +kernel
theorem dX12_hiring_14 : decode cX12_hiring 14 = .ok (.if_icmp .gt 89, 3) := by decide +kernel
theorem dX12_hiring_17 : decode cX12_hiring 17 = .ok (.iload 4, 2) := by decide +kernel
theorem dX12_hiring_19 : decode cX12_hiring 19 = .ok (.iload_n 2, 1) := by decide +kernel
theorem dX12_hiring_20 : decode cX12_hiring 20 = .ok (.iconst (-1), 1) := by decide +kernel
theorem dX12_hiring_21 : decode cX12_hiring 21 = .ok (.ixor, 1) := by decide +kernel
theorem dX12_hiring_22 : decode cX12_hiring 22 = .ok (.iand, 1) := by decide +kernel
theorem dX12_hiring_23 : decode cX12_hiring 23 = .ok (.ifCond .ne 74, 3) := by decide +kernel
theorem dX12_hiring_26 : decode cX12_hiring 26 = .ok (.aload_n 0, 1) := by decide +kernel
theorem dX12_hiring_27 : decode cX12_hiring 27 = .ok (.iload_n 1, 1) := by decide +kernel
theorem dX12_hiring_28 : decode cX12_hiring 28 = .ok (.iload 4, 2) := by decide +kernel
theorem dX12_hiring_30 : decode cX12_hiring 30 = .ok (.invokevirtual 364, 3) := by decide +kernel
theorem dX12_hiring_33 : decode cX12_hiring 33 = .ok (.ifCond .ne 6, 3) := by decide +kernel
theorem dX12_hiring_36 : decode cX12_hiring 36 = .ok (.goto 61, 3) := by decide +kernel
theorem dX12_hiring_39 : decode cX12_hiring 39 = .ok (.iload_n 3, 1) := by decide +kernel
theorem dX12_hiring_40 : decode cX12_hiring 40 = .ok (.iconst (-1), 1) := by decide +kernel
theorem dX12_hiring_41 : decode cX12_hiring 41 = .ok (.if_icmp .ne 7, 3) := by decide +kernel
theorem dX12_hiring_44 : decode cX12_hiring 44 = .ok (.iconst (-1), 1) := by decide +kernel
theorem dX12_hiring_45 : decode cX12_hiring 45 = .ok (.goto 42, 3) := by decide +kernel
theorem dX12_hiring_48 : decode cX12_hiring 48 = .ok (.aload_n 0, 1) := by decide +kernel
theorem dX12_hiring_49 : decode cX12_hiring 49 = .ok (.iload 4, 2) := by decide +kernel
theorem dX12_hiring_51 : decode cX12_hiring 51 = .ok (.invokevirtual 367, 3) := by decide +kernel
theorem dX12_hiring_54 : decode cX12_hiring 54 = .ok (.aload_n 0, 1) := by decide +kernel
theorem dX12_hiring_55 : decode cX12_hiring 55 = .ok (.iload_n 3, 1) := by decide +kernel
theorem dX12_hiring_56 : decode cX12_hiring 56 = .ok (.invokevirtual 367, 3) := by decide +kernel
theorem dX12_hiring_59 : decode cX12_hiring 59 = .ok (.if_icmp .eq 18, 3) := by decide +kernel
theorem dX12_hiring_62 : decode cX12_hiring 62 = .ok (.aload_n 0, 1) := by decide +kernel
theorem dX12_hiring_63 : decode cX12_hiring 63 = .ok (.iload 4, 2) := by decide +kernel
theorem dX12_hiring_65 : decode cX12_hiring 65 = .ok (.invokevirtual 367, 3) := by decide +kernel
theorem dX12_hiring_68 : decode cX12_hiring 68 = .ok (.aload_n 0, 1) := by decide +kernel
theorem dX12_hiring_69 : decode cX12_hiring 69 = .ok (.iload_n 3, 1) := by decide +kernel
theorem dX12_hiring_70 : decode cX12_hiring 70 = .ok (.invokevirtual 367, 3) := by decide +kernel
theorem dX12_hiring_73 : decode cX12_hiring 73 = .ok (.isub, 1) := by decide +kernel
theorem dX12_hiring_74 : decode cX12_hiring 74 = .ok (.goto 13, 3) := by decide +kernel
theorem dX12_hiring_77 : decode cX12_hiring 77 = .ok (.iload 4, 2) := by decide +kernel
theorem dX12_hiring_79 : decode cX12_hiring 79 = .ok (.invokestatic 370, 3) := by decide +kernel
theorem dX12_hiring_82 : decode cX12_hiring 82 = .ok (.iload_n 3, 1) := by decide +kernel
theorem dX12_hiring_83 : decode cX12_hiring 83 = .ok (.invokestatic 370, 3) := by decide +kernel
theorem dX12_hiring_86 : decode cX12_hiring 86 = .ok (.isub, 1) := by decide +kernel
theorem dX12_hiring_87 : decode cX12_hiring 87 = .ok (.istore 5, 2) := by decide +kernel
theorem dX12_hiring_89 : decode cX12_hiring 89 = .ok (.iload 5, 2) := by decide +kernel
theorem dX12_hiring_91 : decode cX12_hiring 91 = .ok (.ifCond .ge 6, 3) := by decide +kernel
theorem dX12_hiring_94 : decode cX12_hiring 94 = .ok (.iload 4, 2) := by decide +kernel
theorem dX12_hiring_96 : decode cX12_hiring 96 = .ok (.istore_n 3, 1) := by decide +kernel
theorem dX12_hiring_97 : decode cX12_hiring 97 = .ok (.iinc 4 1, 3) := by decide +kernel
theorem dX12_hiring_100 : decode cX12_hiring 100 = .ok (.goto (-89), 3) := by decide +kernel
theorem dX12_hiring_103 : decode cX12_hiring 103 = .ok (.iload_n 3, 1) := by decide +kernel
theorem dX12_hiring_104 : decode cX12_hiring 104 = .ok (.ireturn, 1) := by decide +kernel
abbrev M_X12_hiring : MT := (yX12_hiring, cX12_hiring, 6, (some .int))
theorem cf_X12_hiring : fq_cf M_X12_hiring 1 := ⟨(mg_1 (List.mem_of_getElem? (i := 15) rfl) rfl), (mg_9 (List.mem_of_getElem? (i := 14) rfl) rfl), ⟨by decide, by decide, by decide +kernel⟩, by decide⟩
def B_X12_hiring_97 (l : Launch) (G : GT) (D mc ms : Nat) (Q : Post) : Cn := ix_iinc 4 1 (fqAt l G M_X12_hiring (D + 5) mc ms Q 11)
theorem b_X12_hiring_97 {l : Launch} {G : GT} {D mc ms : Nat} {Q : Post} : Imp l G M_X12_hiring (D + 5) mc ms Q (B_X12_hiring_97 l G D mc ms Q) 97 := sx_iinc dX12_hiring_97 rfl (by decide) (sx_goto 11 dX12_hiring_100 (by decide) ((fun _ _ _ _ _ _ _ _ h => h)))
def B_X12_hiring_87 (l : Launch) (G : GT) (D mc ms : Nat) (Q : Post) : Cn := ix_istore 5 (ix_iload 5 (ix_if_ge ((B_X12_hiring_97 l G D mc ms Q)) (ix_iload 4 (ix_istore 3 ((B_X12_hiring_97 l G D mc ms Q))))))
theorem b_X12_hiring_87 {l : Launch} {G : GT} {D mc ms : Nat} {Q : Post} : Imp l G M_X12_hiring (D + 5) mc ms Q (B_X12_hiring_87 l G D mc ms Q) 87 := sx_istore dX12_hiring_87 (by decide) (sx_iload dX12_hiring_89 (sx_if_ge 97 dX12_hiring_91 (by decide) (b_X12_hiring_97) (sx_iload dX12_hiring_94 (sx_istore_n dX12_hiring_96 rfl (by decide) (b_X12_hiring_97)))))
def B_X12_hiring_11 (l : Launch) (G : GT) (D mc ms : Nat) (Q : Post) : Cn := ix_iload 4 (ix_iload 2 (ix_icmp_gt (ix_iload 3 (ix_iret mc ms Q)) (ix_iload 4 (ix_iload 2 (ix_pushI (-1) (ix_ixor (ix_iand (ix_if_ne ((B_X12_hiring_97 l G D mc ms Q)) (ix_aload 0 (ix_iload 1 (ix_iload 4 (ix_vcall 12 3 0 0 mc ms (sp_X12_doesShoutBy G) (ix_if_ne (ix_iload 3 (ix_pushI (-1) (ix_icmp_ne (ix_aload 0 (ix_iload 4 (ix_vcall 12 2 0 0 mc ms (sp_X12_paysOf G) (ix_aload 0 (ix_iload 3 (ix_vcall 12 2 0 0 mc ms (sp_X12_paysOf G) (ix_icmp_eq (ix_iload 4 (ix_call 1 0 0 mc ms (sp_X12_bits G) (ix_iload 3 (ix_call 1 0 0 mc ms (sp_X12_bits G) (ix_isub ((B_X12_hiring_87 l G D mc ms Q))))))) (ix_aload 0 (ix_iload 4 (ix_vcall 12 2 0 0 mc ms (sp_X12_paysOf G) (ix_aload 0 (ix_iload 3 (ix_vcall 12 2 0 0 mc ms (sp_X12_paysOf G) (ix_isub ((B_X12_hiring_87 l G D mc ms Q)))))))))))))))) (ix_pushI (-1) ((B_X12_hiring_87 l G D mc ms Q)))))) ((B_X12_hiring_97 l G D mc ms Q)))))))))))))))
theorem b_X12_hiring_11 {l : Launch} {G : GT} {D mc ms : Nat} {Q : Post} : Imp l G M_X12_hiring (D + 5) mc ms Q (B_X12_hiring_11 l G D mc ms Q) 11 := sx_iload dX12_hiring_11 (sx_iload_n dX12_hiring_13 rfl (sx_icmp_gt 103 dX12_hiring_14 (by decide) (sx_iload_n dX12_hiring_103 rfl (sx_iret dX12_hiring_104 rfl)) (sx_iload dX12_hiring_17 (sx_iload_n dX12_hiring_19 rfl (sx_iconst dX12_hiring_20 rfl (sx_ixor dX12_hiring_21 (sx_iand dX12_hiring_22 (sx_if_ne 97 dX12_hiring_23 (by decide) (b_X12_hiring_97) (sx_aload_n dX12_hiring_26 rfl (sx_iload_n dX12_hiring_27 rfl (sx_iload dX12_hiring_28 (sx_vcall dX12_hiring_30 cf_X12_doesShoutBy (mg_9 (List.mem_of_getElem? (i := 15) rfl) rfl) (mg_9 (List.mem_of_getElem? (i := 17) rfl) rfl) (mg_p (List.mem_of_getElem? (i := 109) rfl) rfl) rfl c_X12_doesShoutBy (sx_if_ne 39 dX12_hiring_33 (by decide) (sx_iload_n dX12_hiring_39 rfl (sx_iconst dX12_hiring_40 rfl (sx_icmp_ne 48 dX12_hiring_41 (by decide) (sx_aload_n dX12_hiring_48 rfl (sx_iload dX12_hiring_49 (sx_vcall dX12_hiring_51 cf_X12_paysOf (mg_9 (List.mem_of_getElem? (i := 19) rfl) rfl) (mg_9 (List.mem_of_getElem? (i := 21) rfl) rfl) (mg_p (List.mem_of_getElem? (i := 110) rfl) rfl) rfl c_X12_paysOf (sx_aload_n dX12_hiring_54 rfl (sx_iload_n dX12_hiring_55 rfl (sx_vcall dX12_hiring_56 cf_X12_paysOf (mg_9 (List.mem_of_getElem? (i := 19) rfl) rfl) (mg_9 (List.mem_of_getElem? (i := 21) rfl) rfl) (mg_p (List.mem_of_getElem? (i := 110) rfl) rfl) rfl c_X12_paysOf (sx_icmp_eq 77 dX12_hiring_59 (by decide) (sx_iload dX12_hiring_77 (sx_scall dX12_hiring_79 cf_X12_bits (mg_9 (List.mem_of_getElem? (i := 23) rfl) rfl) (mg_9 (List.mem_of_getElem? (i := 24) rfl) rfl) c_X12_bits (sx_iload_n dX12_hiring_82 rfl (sx_scall dX12_hiring_83 cf_X12_bits (mg_9 (List.mem_of_getElem? (i := 23) rfl) rfl) (mg_9 (List.mem_of_getElem? (i := 24) rfl) rfl) c_X12_bits (sx_isub dX12_hiring_86 (b_X12_hiring_87)))))) (sx_aload_n dX12_hiring_62 rfl (sx_iload dX12_hiring_63 (sx_vcall dX12_hiring_65 cf_X12_paysOf (mg_9 (List.mem_of_getElem? (i := 19) rfl) rfl) (mg_9 (List.mem_of_getElem? (i := 21) rfl) rfl) (mg_p (List.mem_of_getElem? (i := 110) rfl) rfl) rfl c_X12_paysOf (sx_aload_n dX12_hiring_68 rfl (sx_iload_n dX12_hiring_69 rfl (sx_vcall dX12_hiring_70 cf_X12_paysOf (mg_9 (List.mem_of_getElem? (i := 19) rfl) rfl) (mg_9 (List.mem_of_getElem? (i := 21) rfl) rfl) (mg_p (List.mem_of_getElem? (i := 110) rfl) rfl) rfl c_X12_paysOf (sx_isub dX12_hiring_73 (sx_goto 87 dX12_hiring_74 (by decide) (b_X12_hiring_87)))))))))))))))) (sx_iconst dX12_hiring_44 rfl (sx_goto 87 dX12_hiring_45 (by decide) (b_X12_hiring_87)))))) (sx_goto 97 dX12_hiring_36 (by decide) (b_X12_hiring_97)))))))))))))))
def B_X12_hiring_0 (l : Launch) (G : GT) (D mc ms : Nat) (Q : Post) : Cn := ix_aload 0 (ix_iload 1 (ix_vcall 12 2 0 0 mc ms (sp_X12_nearTo G) (ix_istore 2 (ix_pushI (-1) (ix_istore 3 (ix_pushI 1 (ix_istore 4 (fqAt l G M_X12_hiring (D + 5) mc ms Q 11))))))))
theorem b_X12_hiring_0 {l : Launch} {G : GT} {D mc ms : Nat} {Q : Post} : Imp l G M_X12_hiring (D + 5) mc ms Q (B_X12_hiring_0 l G D mc ms Q) 0 := sx_aload_n dX12_hiring_0 rfl (sx_iload_n dX12_hiring_1 rfl (sx_vcall dX12_hiring_2 cf_X12_nearTo (mg_8 (List.mem_of_getElem? (i := 81) rfl) rfl) (mg_8 (List.mem_of_getElem? (i := 83) rfl) rfl) (mg_p (List.mem_of_getElem? (i := 91) rfl) rfl) rfl c_X12_nearTo (sx_istore_n dX12_hiring_5 rfl (by decide) (sx_iconst dX12_hiring_6 rfl (sx_istore_n dX12_hiring_7 rfl (by decide) (sx_iconst dX12_hiring_8 rfl (sx_istore dX12_hiring_9 (by decide) ((fun _ _ _ _ _ _ _ _ h => h)))))))))
def rpy (A : Nat → Int32) (c : Nat) (v : Int32) : Int32 := foldU (fun i a => if v >>> (nI i &&& 31) &&& 1 = 1 then a + A (30 + 7 * i + 4) else a) 0 c 0
abbrev rdsP (I : IH) (M p c : Nat) (v : Int32) : Prop := ¬ (dsU I M p v c (I (M + 1) (30 + 7 * p + 5), 0)).2 = 0 ∧ I (M + 1) (30 + 7 * p + 1) < (dsU I M p v c (I (M + 1) (30 + 7 * p + 5), 0)).1
def rnS (A : Nat → Int32) (c p : Nat) : Int32 := setU (fun o => ¬ p = o ∧ nrP (A (30 + 7 * p)) (A (30 + 7 * o)) (A 8)) c
def rls (A : Nat → Int32) (c : Nat) (a b : Int32) : Int32 := if ¬ rpy A c a = rpy A c b then rpy A c a - rpy A c b else nI (bitU 9 a) - nI (bitU 9 b)
def rhF (I : IH) (M c p m : Nat) (k : Nat) (best : Int32) : Int32 := if (nI k &&& (nI m ^^^ -1) = 0 ∧ rdsP I M p c (nI k)) ∧ (best = -1 ∨ rls (I (M + 1)) c (nI k) best < 0) then nI k else best
def rhU (I : IH) (M c p : Nat) : Int32 := foldU (rhF I M c p (rnS (I (M + 1)) c p).toNatClampNeg) 1 (rnS (I (M + 1)) c p).toNatClampNeg (-1)
def sp_X12_hiring (G : GT) : Sp := fun as S I J z Q => match as with
  | [.ref M, .int p] => rfS S M ∧ okN (I (M + 1) 1) 8 ∧ vp_in p 8 ∧ Q (some (.int (rhU I M (I (M + 1) 1).toNatClampNeg p.toNatClampNeg))) S I J z
  | _ => False
theorem i0m1 : ((-1 : Int32) < 0) = True := eq_true (by decide)
set_option maxHeartbeats 4000000 in
set_option maxRecDepth 20000 in
theorem c_X12_hiring {l : Launch} {G : GT} {D : Nat} : ∀ as S I J z Q, sp_X12_hiring G as S I J z Q → fqCall l G M_X12_hiring (D + 5) 0 0 as S I J z Q := by
  intro as S I J z Q h
  unfold sp_X12_hiring at h
  split at h
  · next M p =>
    obtain ⟨hm, ho, hp, hQ⟩ := h
    obtain ⟨p, hp9, rfl⟩ := vp_in_of hp (by decide)
    obtain ⟨c, hc, hc1, hc2⟩ := ho.ex
    rw [nI_clamp (by omega), hc2] at hQ
    obtain ⟨m, hm9, hnr⟩ := setU_ex (fun o => ¬ p = o ∧ nrP (I (M + 1) (30 + 7 * p)) (I (M + 1) (30 + 7 * o)) (I (M + 1) 8)) hc
    have hm2 : m < 256 := by
      have : 2 ^ c ≤ 2 ^ 8 := Nat.pow_le_pow_right (by decide) hc
      omega
    have hnr2 : rnS (I (M + 1)) c p = nI m := hnr
    unfold rhU at hQ
    rw [hnr2, nI_clamp (by omega)] at hQ
    have lp : ∀ (n k : Nat) (best : Int32) (o : Option Value), k + n = m + 1 → (best = -1 ∨ ∃ b, b < 256 ∧ best = nI b) → Q (some (.int (foldU (rhF I M c p m) k n best))) S I J z → fqAt l G M_X12_hiring (D + 5) 0 0 Q 11 [some (.ref M), some (.int (nI p)), some (.int (nI m)), some (.int best), some (.int (nI k)), o] [] S I J z 0 0 := by
      intro n
      induction n with
      | zero =>
        intro k best o hi hb hq
        refine b_X12_hiring_11 _ _ _ _ _ _ _ _ ?_
        simp (disch := omega) only [B_X12_hiring_0, B_X12_hiring_11, B_X12_hiring_87, B_X12_hiring_97, sp_X12_nearTo, sp_X12_doesShoutBy, sp_X12_paysOf, sp_X12_bits, hm, hm.k, hm.k1, hm.n1, hm.r1, hm.k2, hm.n2, hm.r2, hm.k3, hm.n3, hm.r3, hm.k4, hm.n4, hm.r4, hm.k5, hm.n5, hm.r5, hm.k6, hm.n6, hm.r6, hm.k7, hm.n7, hm.r7, hm.k8, hm.n8, hm.r8, hm.k9, hm.n9, hm.r9, hm.k10, hm.n10, hm.r10, hm.k11, hm.n11, hm.r11, hm.k12, hm.n12, hm.r12, hm.k13, hm.n13, hm.r13, hm.k14, hm.n14, hm.r14, li_2, li_3, li_4, li_5, li_6, li_7, li_8, li_9, li_10, li_11, li_12, li_13, li_14, li_15, li_16, li_17, li_18, li_19, li_20, li_21, li_22, li_23, li_24, li_25, li_26, li_27, li_28, li_29, li_30, li_32, li_33, li_34, li_35, li_36, li_37, li_38, li_39, li_40, li_41, li_42, li_43, li_44, li_45, li_46, li_47, li_48, li_49, li_50, li_51, li_52, li_53, li_54, li_55, li_56, li_57, li_58, li_59, li_60, li_61, li_62, li_63, li_64, li_65, li_66, li_67, li_68, li_69, li_70, li_71, li_72, li_73, li_74, li_75, li_76, li_77, li_78, li_79, li_80, li_81, li_82, li_83, li_84, li_85, li_86, li_87, li_88, li_89, li_90, li_91, li_92, li_93, li_94, li_95, li_96, li_97, li_98, li_99, li_100, li_101, li_102, li_103, li_104, li_105, li_106, li_107, li_108, li_109, li_110, li_111, li_112, li_113, li_114, li_115, li_116, li_117, li_118, li_119, li_120, li_121, li_122, li_123, li_124, li_125, li_126, li_127, li_128, li_129, li_130, li_131, li_226, li_240, li_255, li_300, li_586, li_594, li_900, li_999, li_1000, li_1800, li_2376, li_2388, li_2406, li_2602, li_2970, li_3067, li_3564, li_9999, li_10000, li_11287, li_65536, li_100000, li_1000000, nI_mul, tn0, tn1, vin0, vin1, Int32.add_zero, Int32.or_zero, Int32.mul_one, Int32.mul_zero, Int32.zero_add, Nat.reduceEqDiff, Nat.reduceMul, Nat.reduceSub, ho, hc2, nI_1, nI_add, nI_clamp, nI_pin, nI_neg, nI_nonneg, nI_leE, nI_ltE, nI_eqE, Nat.not_le, Nat.not_lt, fq_10, fq_01, fq_rr, ix_aald, ix_aast, ix_abs, ix_alen, ix_aload, ix_aret, ix_astore, ix_bald, ix_bast, ix_call, ix_cpyI, ix_cpyJ, ix_dead, ix_dup2, ix_dup2L, ix_dupI, ix_dupR, ix_dupx1, ix_getI, ix_getJ, ix_getR, ix_gfm, ix_gtab, ix_i2b, ix_i2c, ix_i2l, ix_i2s, ix_iadd, ix_iald, ix_iand, ix_iast, ix_icall, ix_icmp_eq, ix_icmp_ge, ix_icmp_gt, ix_icmp_le, ix_icmp_lt, ix_icmp_ne, ix_idiv, ix_if_eq, ix_if_ge, ix_if_gt, ix_if_le, ix_if_lt, ix_if_ne, ix_iinc, ix_iload, ix_imul, ix_ineg, ix_ior, ix_irem, ix_iret, ix_ishl, ix_ishr, ix_istore, ix_isub, ix_iushr, ix_ixor, ix_l2i, ix_ladd, ix_lald, ix_land, ix_last, ix_lcmp, ix_ldcS, ix_ldiv, ix_lload, ix_lmul, ix_lor, ix_lrem, ix_lret, ix_lshl, ix_lstore, ix_lsub, ix_lsw, ix_max, ix_min, ix_new, ix_newa, ix_nret, ix_oinit, ix_pop2L, ix_popI, ix_pushI, ix_pushL, ix_putI, ix_putJ, ix_putR, ix_putZ, ix_sbald, ix_sgetC, ix_sgetV, ix_slen, ix_strc, ix_tald, ix_tsw, ix_vcall, ix_vret, ix_zret, stL, stL2, kilL, popN, fq_sw, fq_lsw, List.map_cons, List.map_nil, List.getElem?_cons_zero, List.getElem?_cons_succ, Option.toList_some, Option.toList_none, List.cons_append, List.nil_append, List.length_cons, List.length_nil, List.sum_cons, List.sum_nil, cat_i, cat_l, cat_r, true_and, and_true, Nat.zero_add, Nat.add_zero, Nat.le_refl, Nat.zero_le, Nat.reduceAdd, Nat.reduceLeDiff, exists_eq_left', Option.some.injEq, not_true_eq_false, not_false_eq_true, false_implies, true_implies, implies_true, and_self, or_true, true_or, or_false, false_or]
        exact ⟨fun _ => hq, fun h => absurd h (by omega)⟩
      | succ n ih =>
        intro k best o hi hb hq
        rw [foldU_1] at hq
        have ihk := fun o h => ih (k + 1) (nI k) o (by omega) (Or.inr ⟨k, by omega, rfl⟩) h
        have ihb := fun o h => ih (k + 1) best o (by omega) hb h
        rcases hb with rfl | ⟨b, hb, rfl⟩
        · refine b_X12_hiring_11 _ _ _ _ _ _ _ _ ?_
          simp (disch := omega) only [B_X12_hiring_0, B_X12_hiring_11, B_X12_hiring_87, B_X12_hiring_97, sp_X12_nearTo, sp_X12_doesShoutBy, sp_X12_paysOf, sp_X12_bits, hm, hm.k, hm.k1, hm.n1, hm.r1, hm.k2, hm.n2, hm.r2, hm.k3, hm.n3, hm.r3, hm.k4, hm.n4, hm.r4, hm.k5, hm.n5, hm.r5, hm.k6, hm.n6, hm.r6, hm.k7, hm.n7, hm.r7, hm.k8, hm.n8, hm.r8, hm.k9, hm.n9, hm.r9, hm.k10, hm.n10, hm.r10, hm.k11, hm.n11, hm.r11, hm.k12, hm.n12, hm.r12, hm.k13, hm.n13, hm.r13, hm.k14, hm.n14, hm.r14, li_2, li_3, li_4, li_5, li_6, li_7, li_8, li_9, li_10, li_11, li_12, li_13, li_14, li_15, li_16, li_17, li_18, li_19, li_20, li_21, li_22, li_23, li_24, li_25, li_26, li_27, li_28, li_29, li_30, li_32, li_33, li_34, li_35, li_36, li_37, li_38, li_39, li_40, li_41, li_42, li_43, li_44, li_45, li_46, li_47, li_48, li_49, li_50, li_51, li_52, li_53, li_54, li_55, li_56, li_57, li_58, li_59, li_60, li_61, li_62, li_63, li_64, li_65, li_66, li_67, li_68, li_69, li_70, li_71, li_72, li_73, li_74, li_75, li_76, li_77, li_78, li_79, li_80, li_81, li_82, li_83, li_84, li_85, li_86, li_87, li_88, li_89, li_90, li_91, li_92, li_93, li_94, li_95, li_96, li_97, li_98, li_99, li_100, li_101, li_102, li_103, li_104, li_105, li_106, li_107, li_108, li_109, li_110, li_111, li_112, li_113, li_114, li_115, li_116, li_117, li_118, li_119, li_120, li_121, li_122, li_123, li_124, li_125, li_126, li_127, li_128, li_129, li_130, li_131, li_226, li_240, li_255, li_300, li_586, li_594, li_900, li_999, li_1000, li_1800, li_2376, li_2388, li_2406, li_2602, li_2970, li_3067, li_3564, li_9999, li_10000, li_11287, li_65536, li_100000, li_1000000, nI_mul, tn0, tn1, vin0, vin1, Int32.add_zero, Int32.or_zero, Int32.mul_one, Int32.mul_zero, Int32.zero_add, Nat.reduceEqDiff, Nat.reduceMul, Nat.reduceSub, ho, hc2, bI_01, bI_01b, bI_0, i0m1, nI_1, nI_add, nI_clamp, nI_pin, nI_neg, nI_nonneg, nI_leE, nI_ltE, nI_eqE, Nat.not_le, Nat.not_lt, fq_10, fq_01, fq_rr, ix_aald, ix_aast, ix_abs, ix_alen, ix_aload, ix_aret, ix_astore, ix_bald, ix_bast, ix_call, ix_cpyI, ix_cpyJ, ix_dead, ix_dup2, ix_dup2L, ix_dupI, ix_dupR, ix_dupx1, ix_getI, ix_getJ, ix_getR, ix_gfm, ix_gtab, ix_i2b, ix_i2c, ix_i2l, ix_i2s, ix_iadd, ix_iald, ix_iand, ix_iast, ix_icall, ix_icmp_eq, ix_icmp_ge, ix_icmp_gt, ix_icmp_le, ix_icmp_lt, ix_icmp_ne, ix_idiv, ix_if_eq, ix_if_ge, ix_if_gt, ix_if_le, ix_if_lt, ix_if_ne, ix_iinc, ix_iload, ix_imul, ix_ineg, ix_ior, ix_irem, ix_iret, ix_ishl, ix_ishr, ix_istore, ix_isub, ix_iushr, ix_ixor, ix_l2i, ix_ladd, ix_lald, ix_land, ix_last, ix_lcmp, ix_ldcS, ix_ldiv, ix_lload, ix_lmul, ix_lor, ix_lrem, ix_lret, ix_lshl, ix_lstore, ix_lsub, ix_lsw, ix_max, ix_min, ix_new, ix_newa, ix_nret, ix_oinit, ix_pop2L, ix_popI, ix_pushI, ix_pushL, ix_putI, ix_putJ, ix_putR, ix_putZ, ix_sbald, ix_sgetC, ix_sgetV, ix_slen, ix_strc, ix_tald, ix_tsw, ix_vcall, ix_vret, ix_zret, stL, stL2, kilL, popN, fq_sw, fq_lsw, List.map_cons, List.map_nil, List.getElem?_cons_zero, List.getElem?_cons_succ, Option.toList_some, Option.toList_none, List.cons_append, List.nil_append, List.length_cons, List.length_nil, List.sum_cons, List.sum_nil, cat_i, cat_l, cat_r, true_and, and_true, Nat.zero_add, Nat.add_zero, Nat.le_refl, Nat.zero_le, Nat.reduceAdd, Nat.reduceLeDiff, exists_eq_left', Option.some.injEq, not_true_eq_false, not_false_eq_true, false_implies, true_implies, implies_true, and_self, or_true, true_or, or_false, false_or]
          have e1 : rhF I M c p m k (-1) = if nI k &&& (nI m ^^^ -1) = 0 ∧ rdsP I M p c (nI k) then nI k else -1 := by
            unfold rhF
            simp
          rw [e1] at hq
          refine ⟨fun h => absurd h (by omega), fun _ => ⟨fun h => ihb _ ?_, fun h => ⟨fun h2 => ⟨fun h => absurd h (by decide), fun _ => ihk _ ?_⟩, fun h2 => ihb _ ?_⟩⟩⟩
          · rw [if_neg (fun q => h q.1)] at hq
            exact hq
          · rw [if_pos ⟨h, Decidable.not_not.mp h2⟩] at hq
            exact hq
          · rw [if_neg (fun q => h2 q.2)] at hq
            exact hq
        · refine b_X12_hiring_11 _ _ _ _ _ _ _ _ ?_
          simp (disch := omega) only [B_X12_hiring_0, B_X12_hiring_11, B_X12_hiring_87, B_X12_hiring_97, sp_X12_nearTo, sp_X12_doesShoutBy, sp_X12_paysOf, sp_X12_bits, hm, hm.k, hm.k1, hm.n1, hm.r1, hm.k2, hm.n2, hm.r2, hm.k3, hm.n3, hm.r3, hm.k4, hm.n4, hm.r4, hm.k5, hm.n5, hm.r5, hm.k6, hm.n6, hm.r6, hm.k7, hm.n7, hm.r7, hm.k8, hm.n8, hm.r8, hm.k9, hm.n9, hm.r9, hm.k10, hm.n10, hm.r10, hm.k11, hm.n11, hm.r11, hm.k12, hm.n12, hm.r12, hm.k13, hm.n13, hm.r13, hm.k14, hm.n14, hm.r14, li_2, li_3, li_4, li_5, li_6, li_7, li_8, li_9, li_10, li_11, li_12, li_13, li_14, li_15, li_16, li_17, li_18, li_19, li_20, li_21, li_22, li_23, li_24, li_25, li_26, li_27, li_28, li_29, li_30, li_32, li_33, li_34, li_35, li_36, li_37, li_38, li_39, li_40, li_41, li_42, li_43, li_44, li_45, li_46, li_47, li_48, li_49, li_50, li_51, li_52, li_53, li_54, li_55, li_56, li_57, li_58, li_59, li_60, li_61, li_62, li_63, li_64, li_65, li_66, li_67, li_68, li_69, li_70, li_71, li_72, li_73, li_74, li_75, li_76, li_77, li_78, li_79, li_80, li_81, li_82, li_83, li_84, li_85, li_86, li_87, li_88, li_89, li_90, li_91, li_92, li_93, li_94, li_95, li_96, li_97, li_98, li_99, li_100, li_101, li_102, li_103, li_104, li_105, li_106, li_107, li_108, li_109, li_110, li_111, li_112, li_113, li_114, li_115, li_116, li_117, li_118, li_119, li_120, li_121, li_122, li_123, li_124, li_125, li_126, li_127, li_128, li_129, li_130, li_131, li_226, li_240, li_255, li_300, li_586, li_594, li_900, li_999, li_1000, li_1800, li_2376, li_2388, li_2406, li_2602, li_2970, li_3067, li_3564, li_9999, li_10000, li_11287, li_65536, li_100000, li_1000000, nI_mul, tn0, tn1, vin0, vin1, Int32.add_zero, Int32.or_zero, Int32.mul_one, Int32.mul_zero, Int32.zero_add, Nat.reduceEqDiff, Nat.reduceMul, Nat.reduceSub, ho, hc2, bI_01, bI_01b, bI_0, nI_m1, nI_1, nI_add, nI_clamp, nI_pin, nI_neg, nI_nonneg, nI_leE, nI_ltE, nI_eqE, Nat.not_le, Nat.not_lt, fq_10, fq_01, fq_rr, ix_aald, ix_aast, ix_abs, ix_alen, ix_aload, ix_aret, ix_astore, ix_bald, ix_bast, ix_call, ix_cpyI, ix_cpyJ, ix_dead, ix_dup2, ix_dup2L, ix_dupI, ix_dupR, ix_dupx1, ix_getI, ix_getJ, ix_getR, ix_gfm, ix_gtab, ix_i2b, ix_i2c, ix_i2l, ix_i2s, ix_iadd, ix_iald, ix_iand, ix_iast, ix_icall, ix_icmp_eq, ix_icmp_ge, ix_icmp_gt, ix_icmp_le, ix_icmp_lt, ix_icmp_ne, ix_idiv, ix_if_eq, ix_if_ge, ix_if_gt, ix_if_le, ix_if_lt, ix_if_ne, ix_iinc, ix_iload, ix_imul, ix_ineg, ix_ior, ix_irem, ix_iret, ix_ishl, ix_ishr, ix_istore, ix_isub, ix_iushr, ix_ixor, ix_l2i, ix_ladd, ix_lald, ix_land, ix_last, ix_lcmp, ix_ldcS, ix_ldiv, ix_lload, ix_lmul, ix_lor, ix_lrem, ix_lret, ix_lshl, ix_lstore, ix_lsub, ix_lsw, ix_max, ix_min, ix_new, ix_newa, ix_nret, ix_oinit, ix_pop2L, ix_popI, ix_pushI, ix_pushL, ix_putI, ix_putJ, ix_putR, ix_putZ, ix_sbald, ix_sgetC, ix_sgetV, ix_slen, ix_strc, ix_tald, ix_tsw, ix_vcall, ix_vret, ix_zret, stL, stL2, kilL, popN, fq_sw, fq_lsw, List.map_cons, List.map_nil, List.getElem?_cons_zero, List.getElem?_cons_succ, Option.toList_some, Option.toList_none, List.cons_append, List.nil_append, List.length_cons, List.length_nil, List.sum_cons, List.sum_nil, cat_i, cat_l, cat_r, true_and, and_true, Nat.zero_add, Nat.add_zero, Nat.le_refl, Nat.zero_le, Nat.reduceAdd, Nat.reduceLeDiff, exists_eq_left', Option.some.injEq, not_true_eq_false, not_false_eq_true, false_implies, true_implies, implies_true, and_self, or_true, true_or, or_false, false_or]
          have hbm : ¬ nI b = -1 := by
            rw [nI_m1 (by omega)]
            exact id
          have e1 : rhF I M c p m k (nI b) = if (nI k &&& (nI m ^^^ -1) = 0 ∧ rdsP I M p c (nI k)) ∧ (if ¬ rpy (I (M + 1)) c (nI k) = rpy (I (M + 1)) c (nI b) then rpy (I (M + 1)) c (nI k) - rpy (I (M + 1)) c (nI b) else nI (bitU 9 (nI k)) - nI (bitU 9 (nI b))) < 0 then nI k else nI b := by
            unfold rhF rls
            simp [hbm]
          rw [e1] at hq
          refine ⟨fun h => absurd h (by omega), fun _ => ⟨fun h => ihb _ ?_, fun h => ⟨fun h2 => ⟨fun h3 => ⟨k, rfl, by omega, b, rfl, hb, fun h4 => ihb _ ?_, fun h4 => ihk _ ?_⟩, fun h3 => ⟨fun h4 => ihb _ ?_, fun h4 => ihk _ ?_⟩⟩, fun h2 => ihb _ ?_⟩⟩⟩
          · rw [if_neg (fun q => h q.1.1)] at hq
            exact hq
          · rw [if_neg (by rw [if_neg (fun q => q (show rpy (I (M + 1)) c (nI k) = rpy (I (M + 1)) c (nI b) from h3))]; exact fun q => Int32.not_lt.mpr h4 q.2)] at hq
            exact hq
          · rw [if_pos ⟨⟨h, Decidable.not_not.mp h2⟩, by rw [if_neg (fun q => q (show rpy (I (M + 1)) c (nI k) = rpy (I (M + 1)) c (nI b) from h3))]; exact Int32.not_le.mp h4⟩] at hq
            exact hq
          · rw [if_neg (by rw [if_pos (show ¬ rpy (I (M + 1)) c (nI k) = rpy (I (M + 1)) c (nI b) from h3)]; exact fun q => Int32.not_lt.mpr h4 q.2)] at hq
            exact hq
          · rw [if_pos ⟨⟨h, Decidable.not_not.mp h2⟩, by rw [if_pos (show ¬ rpy (I (M + 1)) c (nI k) = rpy (I (M + 1)) c (nI b) from h3)]; exact Int32.not_le.mp h4⟩] at hq
            exact hq
          · rw [if_neg (fun q => h2 q.1.2)] at hq
            exact hq
    refine fq_enter [some (.ref M), some (.int (nI p)), none, none, none, none] (by decide +kernel) (Nat.le_of_ble_eq_true rfl) rfl (b_X12_hiring_0 _ _ _ _ _ _ _ _ ?_)
    simp (disch := omega) only [B_X12_hiring_0, B_X12_hiring_11, B_X12_hiring_87, B_X12_hiring_97, sp_X12_nearTo, sp_X12_doesShoutBy, sp_X12_paysOf, sp_X12_bits, hm, hm.k, hm.k1, hm.n1, hm.r1, hm.k2, hm.n2, hm.r2, hm.k3, hm.n3, hm.r3, hm.k4, hm.n4, hm.r4, hm.k5, hm.n5, hm.r5, hm.k6, hm.n6, hm.r6, hm.k7, hm.n7, hm.r7, hm.k8, hm.n8, hm.r8, hm.k9, hm.n9, hm.r9, hm.k10, hm.n10, hm.r10, hm.k11, hm.n11, hm.r11, hm.k12, hm.n12, hm.r12, hm.k13, hm.n13, hm.r13, hm.k14, hm.n14, hm.r14, li_2, li_3, li_4, li_5, li_6, li_7, li_8, li_9, li_10, li_11, li_12, li_13, li_14, li_15, li_16, li_17, li_18, li_19, li_20, li_21, li_22, li_23, li_24, li_25, li_26, li_27, li_28, li_29, li_30, li_32, li_33, li_34, li_35, li_36, li_37, li_38, li_39, li_40, li_41, li_42, li_43, li_44, li_45, li_46, li_47, li_48, li_49, li_50, li_51, li_52, li_53, li_54, li_55, li_56, li_57, li_58, li_59, li_60, li_61, li_62, li_63, li_64, li_65, li_66, li_67, li_68, li_69, li_70, li_71, li_72, li_73, li_74, li_75, li_76, li_77, li_78, li_79, li_80, li_81, li_82, li_83, li_84, li_85, li_86, li_87, li_88, li_89, li_90, li_91, li_92, li_93, li_94, li_95, li_96, li_97, li_98, li_99, li_100, li_101, li_102, li_103, li_104, li_105, li_106, li_107, li_108, li_109, li_110, li_111, li_112, li_113, li_114, li_115, li_116, li_117, li_118, li_119, li_120, li_121, li_122, li_123, li_124, li_125, li_126, li_127, li_128, li_129, li_130, li_131, li_226, li_240, li_255, li_300, li_586, li_594, li_900, li_999, li_1000, li_1800, li_2376, li_2388, li_2406, li_2602, li_2970, li_3067, li_3564, li_9999, li_10000, li_11287, li_65536, li_100000, li_1000000, nI_mul, tn0, tn1, vin0, vin1, Int32.add_zero, Int32.or_zero, Int32.mul_one, Int32.mul_zero, Int32.zero_add, Nat.reduceEqDiff, Nat.reduceMul, Nat.reduceSub, ho, hc2, nI_1, nI_add, nI_clamp, nI_pin, nI_neg, nI_nonneg, nI_leE, nI_ltE, nI_eqE, Nat.not_le, Nat.not_lt, fq_10, fq_01, fq_rr, ix_aald, ix_aast, ix_abs, ix_alen, ix_aload, ix_aret, ix_astore, ix_bald, ix_bast, ix_call, ix_cpyI, ix_cpyJ, ix_dead, ix_dup2, ix_dup2L, ix_dupI, ix_dupR, ix_dupx1, ix_getI, ix_getJ, ix_getR, ix_gfm, ix_gtab, ix_i2b, ix_i2c, ix_i2l, ix_i2s, ix_iadd, ix_iald, ix_iand, ix_iast, ix_icall, ix_icmp_eq, ix_icmp_ge, ix_icmp_gt, ix_icmp_le, ix_icmp_lt, ix_icmp_ne, ix_idiv, ix_if_eq, ix_if_ge, ix_if_gt, ix_if_le, ix_if_lt, ix_if_ne, ix_iinc, ix_iload, ix_imul, ix_ineg, ix_ior, ix_irem, ix_iret, ix_ishl, ix_ishr, ix_istore, ix_isub, ix_iushr, ix_ixor, ix_l2i, ix_ladd, ix_lald, ix_land, ix_last, ix_lcmp, ix_ldcS, ix_ldiv, ix_lload, ix_lmul, ix_lor, ix_lrem, ix_lret, ix_lshl, ix_lstore, ix_lsub, ix_lsw, ix_max, ix_min, ix_new, ix_newa, ix_nret, ix_oinit, ix_pop2L, ix_popI, ix_pushI, ix_pushL, ix_putI, ix_putJ, ix_putR, ix_putZ, ix_sbald, ix_sgetC, ix_sgetV, ix_slen, ix_strc, ix_tald, ix_tsw, ix_vcall, ix_vret, ix_zret, stL, stL2, kilL, popN, fq_sw, fq_lsw, List.map_cons, List.map_nil, List.getElem?_cons_zero, List.getElem?_cons_succ, Option.toList_some, Option.toList_none, List.cons_append, List.nil_append, List.length_cons, List.length_nil, List.sum_cons, List.sum_nil, cat_i, cat_l, cat_r, true_and, and_true, Nat.zero_add, Nat.add_zero, Nat.le_refl, Nat.zero_le, Nat.reduceAdd, Nat.reduceLeDiff, exists_eq_left', Option.some.injEq, not_true_eq_false, not_false_eq_true, false_implies, true_implies, implies_true, and_self, or_true, true_or, or_false, false_or]
    rw [hnr]
    exact lp m 1 _ none (by omega) (Or.inl rfl) hQ
  · exact h.elim
theorem dX12_hire_0 : decode cX12_hire 0 = .ok (.aload_n 0, 1) := by decide +kernel
theorem dX12_hire_1 : decode cX12_hire 1 = .ok (.iload_n 1, 1) := by decide +kernel
theorem dX12_hire_2 : decode cX12_hire 2 = .ok (.invokevirtual 244, 3) := by decide +kernel
theorem dX12_hire_5 : decode cX12_hire 5 = .ok (.ifCond .ne 9, 3) := by decide +kernel
theorem dX12_hire_8 : decode cX12_hire 8 = .ok (.aload_n 0, 1) := by decide +kernel
theorem dX12_hire_9 : decode cX12_hire 9 = .ok (.iconst 1, 1) := by decide +kernel
theorem dX12_hire_10 : decode cX12_hire 10 = .ok (.invokevirtual 75, 3) := by decide +kernel
theorem dX12_hire_13 : decode cX12_hire 13 = .ok (.ireturn, 1) := by decide +kernel
theorem dX12_hire_14 : decode cX12_hire 14 = .ok (.aload_n 0, 1) := by decide +kernel
theorem dX12_hire_15 : decode cX12_hire 15 = .ok (.iload_n 1, 1) := by decide +kernel
theorem dX12_hire_16 : decode cX12_hire 16 = .ok (.invokevirtual 373, 3) := by decide +kernel
theorem dX12_hire_19 : decode cX12_hire 19 = .ok (.istore_n 2, 1) := by decide +kernel
theorem dX12_hire_20 : decode cX12_hire 20 = .ok (.iload_n 2, 1) := by decide +kernel
theorem dX12_hire_21 : decode cX12_hire 21 = .ok (.iconst (-1), 1) := by decide +kernel
theorem dX12_hire_22 : decode cX12_hire 22 = .ok (.if_icmp .ne 12, 3) := by decide +kernel
theorem dX12_hire_25 : decode cX12_hire 25 = .ok (.aload_n 0, 1) := by decide +kernel
theorem dX12_hire_26 : decode cX12_hire 26 = .ok (.bipush 6, 2) := by decide +kernel
theorem dX12_hire_28 : decode cX12_hire 28 = .ok (.invokevirtual 75, 3) := by decide +kernel
theorem dX12_hire_31 : decode cX12_hire 31 = .ok (.goto 12, 3) := by decide +kernel
theorem dX12_hire_34 : decode cX12_hire 34 = .ok (.aload_n 0, 1) := by decide +kernel
theorem dX12_hire_35 : decode cX12_hire 35 = .ok (.aload_n 0, 1) := by decide +kernel
theorem dX12_hire_36 : decode cX12_hire 36 = .ok (.iload_n 2, 1) := by decide +kernel
theorem dX12_hire_37 : decode cX12_hire 37 = .ok (.invokevirtual 367, 3) := by decide +kernel
theorem dX12_hire_40 : decode cX12_hire 40 = .ok (.invokevirtual 79, 3) := by decide +kernel
theorem dX12_hire_43 : decode cX12_hire 43 = .ok (.ireturn, 1) := by decide +kernel
abbrev M_X12_hire : MT := (yX12_hire, cX12_hire, 3, (some .int))
theorem cf_X12_hire : fq_cf M_X12_hire 1 := ⟨(mg_1 (List.mem_of_getElem? (i := 15) rfl) rfl), (mg_9 (List.mem_of_getElem? (i := 10) rfl) rfl), ⟨by decide, by decide, by decide +kernel⟩, by decide⟩
def B_X12_hire_43 (G : GT) (mc ms : Nat) (Q : Post) : Cn := ix_iret mc ms Q
theorem b_X12_hire_43 {l : Launch} {G : GT} {D mc ms : Nat} {Q : Post} : Imp l G M_X12_hire (D + 6) mc ms Q (B_X12_hire_43 G mc ms Q) 43 := sx_iret dX12_hire_43 rfl
def B_X12_hire_0 (G : GT) (mc ms : Nat) (Q : Post) : Cn := ix_aload 0 (ix_iload 1 (ix_vcall 12 2 0 0 mc ms (sp_X12_isPerson G) (ix_if_ne (ix_aload 0 (ix_iload 1 (ix_vcall 12 2 0 0 mc ms (sp_X12_hiring G) (ix_istore 2 (ix_iload 2 (ix_pushI (-1) (ix_icmp_ne (ix_aload 0 (ix_aload 0 (ix_iload 2 (ix_vcall 12 2 0 0 mc ms (sp_X12_paysOf G) (ix_vcall 12 2 0 0 mc ms (sp_X12_gives G) ((B_X12_hire_43 G mc ms Q))))))) (ix_aload 0 (ix_pushI 6 (ix_vcall 12 2 0 0 mc ms (sp_X12_refuse G) ((B_X12_hire_43 G mc ms Q)))))))))))) (ix_aload 0 (ix_pushI 1 (ix_vcall 12 2 0 0 mc ms (sp_X12_refuse G) (ix_iret mc ms Q)))))))
theorem b_X12_hire_0 {l : Launch} {G : GT} {D mc ms : Nat} {Q : Post} : Imp l G M_X12_hire (D + 6) mc ms Q (B_X12_hire_0 G mc ms Q) 0 := sx_aload_n dX12_hire_0 rfl (sx_iload_n dX12_hire_1 rfl (sx_vcall dX12_hire_2 cf_X12_isPerson (mg_8 (List.mem_of_getElem? (i := 46) rfl) rfl) (mg_8 (List.mem_of_getElem? (i := 48) rfl) rfl) (mg_p (List.mem_of_getElem? (i := 86) rfl) rfl) rfl c_X12_isPerson (sx_if_ne 14 dX12_hire_5 (by decide) (sx_aload_n dX12_hire_14 rfl (sx_iload_n dX12_hire_15 rfl (sx_vcall dX12_hire_16 cf_X12_hiring (mg_9 (List.mem_of_getElem? (i := 11) rfl) rfl) (mg_9 (List.mem_of_getElem? (i := 13) rfl) rfl) (mg_p (List.mem_of_getElem? (i := 108) rfl) rfl) rfl c_X12_hiring (sx_istore_n dX12_hire_19 rfl (by decide) (sx_iload_n dX12_hire_20 rfl (sx_iconst dX12_hire_21 rfl (sx_icmp_ne 34 dX12_hire_22 (by decide) (sx_aload_n dX12_hire_34 rfl (sx_aload_n dX12_hire_35 rfl (sx_iload_n dX12_hire_36 rfl (sx_vcall dX12_hire_37 cf_X12_paysOf (mg_9 (List.mem_of_getElem? (i := 19) rfl) rfl) (mg_9 (List.mem_of_getElem? (i := 21) rfl) rfl) (mg_p (List.mem_of_getElem? (i := 110) rfl) rfl) rfl c_X12_paysOf (sx_vcall dX12_hire_40 cf_X12_gives (mg_7 (List.mem_of_getElem? (i := 204) rfl) rfl) (mg_7 (List.mem_of_getElem? (i := 206) rfl) rfl) (mg_p (List.mem_of_getElem? (i := 72) rfl) rfl) rfl c_X12_gives (b_X12_hire_43)))))) (sx_aload_n dX12_hire_25 rfl (sx_bipush dX12_hire_26 rfl (sx_vcall dX12_hire_28 cf_X12_refuse (mg_7 (List.mem_of_getElem? (i := 128) rfl) rfl) (mg_7 (List.mem_of_getElem? (i := 130) rfl) rfl) (mg_p (List.mem_of_getElem? (i := 54) rfl) rfl) rfl c_X12_refuse (sx_goto 43 dX12_hire_31 (by decide) (b_X12_hire_43)))))))))))) (sx_aload_n dX12_hire_8 rfl (sx_iconst dX12_hire_9 rfl (sx_vcall dX12_hire_10 cf_X12_refuse (mg_7 (List.mem_of_getElem? (i := 128) rfl) rfl) (mg_7 (List.mem_of_getElem? (i := 130) rfl) rfl) (mg_p (List.mem_of_getElem? (i := 54) rfl) rfl) rfl c_X12_refuse (sx_iret dX12_hire_13 rfl)))))))
def sp_X12_hire (G : GT) : Sp := fun as S I J z Q => match as with
  | [.ref a0, .int a1] => B_X12_hire_0 G 0 0 Q [some (.ref a0), some (.int a1), none] [] S I J z 0 0
  | _ => False
theorem c_X12_hire {l : Launch} {G : GT} {D : Nat} : ∀ as S I J z Q, sp_X12_hire G as S I J z Q → fqCall l G M_X12_hire (D + 6) 0 0 as S I J z Q := by
  intro as S I J z Q h
  unfold sp_X12_hire at h
  split at h
  · exact fq_enter _ (by decide +kernel) (Nat.le_of_ble_eq_true rfl) rfl (b_X12_hire_0 _ _ _ _ _ _ _ _ h)
  · exact h.elim
theorem dX12_hireSet_0 : decode cX12_hireSet 0 = .ok (.aload_n 0, 1) := by decide +kernel
theorem dX12_hireSet_1 : decode cX12_hireSet 1 = .ok (.iload_n 1, 1) := by decide +kernel
theorem dX12_hireSet_2 : decode cX12_hireSet 2 = .ok (.invokevirtual 244, 3) := by decide +kernel
theorem dX12_hireSet_5 : decode cX12_hireSet 5 = .ok (.ifCond .eq 15, 3) := by decide +kernel
theorem dX12_hireSet_8 : decode cX12_hireSet 8 = .ok (.aload_n 0, 1) := by decide +kernel
theorem dX12_hireSet_9 : decode cX12_hireSet 9 = .ok (.aload_n 0, 1) := by decide +kernel
theorem dX12_hireSet_10 : decode cX12_hireSet 10 = .ok (.iload_n 1, 1) := by decide +kernel
theorem dX12_hireSet_11 : decode cX12_hireSet 11 = .ok (.invokevirtual 373, 3) := by decide +kernel
theorem dX12_hireSet_14 : decode cX12_hireSet 14 = .ok (.invokevirtual 361, 3) := by decide +kernel
theorem dX12_hireSet_17 : decode cX12_hireSet 17 = .ok (.goto 8, 3) := by decide +kernel
theorem dX12_hireSet_20 : decode cX12_hireSet 20 = .ok (.aload_n 0, 1) := by decide +kernel
theorem dX12_hireSet_21 : decode cX12_hireSet 21 = .ok (.iconst 1, 1) := by decide +kernel
theorem dX12_hireSet_22 : decode cX12_hireSet 22 = .ok (.invokevirtual 75, 3) := by decide +kernel
theorem dX12_hireSet_25 : decode cX12_hireSet 25 = .ok (.ireturn, 1) := by decide +kernel
abbrev M_X12_hireSet : MT := (yX12_hireSet, cX12_hireSet, 2, (some .int))
theorem cf_X12_hireSet : fq_cf M_X12_hireSet 1 := ⟨(mg_1 (List.mem_of_getElem? (i := 15) rfl) rfl), (mg_9 (List.mem_of_getElem? (i := 29) rfl) rfl), ⟨by decide, by decide, by decide +kernel⟩, by decide⟩
def B_X12_hireSet_25 (G : GT) (mc ms : Nat) (Q : Post) : Cn := ix_iret mc ms Q
theorem b_X12_hireSet_25 {l : Launch} {G : GT} {D mc ms : Nat} {Q : Post} : Imp l G M_X12_hireSet (D + 6) mc ms Q (B_X12_hireSet_25 G mc ms Q) 25 := sx_iret dX12_hireSet_25 rfl
def B_X12_hireSet_0 (G : GT) (mc ms : Nat) (Q : Post) : Cn := ix_aload 0 (ix_iload 1 (ix_vcall 12 2 0 0 mc ms (sp_X12_isPerson G) (ix_if_eq (ix_aload 0 (ix_pushI 1 (ix_vcall 12 2 0 0 mc ms (sp_X12_refuse G) ((B_X12_hireSet_25 G mc ms Q))))) (ix_aload 0 (ix_aload 0 (ix_iload 1 (ix_vcall 12 2 0 0 mc ms (sp_X12_hiring G) (ix_vcall 12 2 0 0 mc ms (sp_X12_orNone G) ((B_X12_hireSet_25 G mc ms Q))))))))))
theorem b_X12_hireSet_0 {l : Launch} {G : GT} {D mc ms : Nat} {Q : Post} : Imp l G M_X12_hireSet (D + 6) mc ms Q (B_X12_hireSet_0 G mc ms Q) 0 := sx_aload_n dX12_hireSet_0 rfl (sx_iload_n dX12_hireSet_1 rfl (sx_vcall dX12_hireSet_2 cf_X12_isPerson (mg_8 (List.mem_of_getElem? (i := 46) rfl) rfl) (mg_8 (List.mem_of_getElem? (i := 48) rfl) rfl) (mg_p (List.mem_of_getElem? (i := 86) rfl) rfl) rfl c_X12_isPerson (sx_if_eq 20 dX12_hireSet_5 (by decide) (sx_aload_n dX12_hireSet_20 rfl (sx_iconst dX12_hireSet_21 rfl (sx_vcall dX12_hireSet_22 cf_X12_refuse (mg_7 (List.mem_of_getElem? (i := 128) rfl) rfl) (mg_7 (List.mem_of_getElem? (i := 130) rfl) rfl) (mg_p (List.mem_of_getElem? (i := 54) rfl) rfl) rfl c_X12_refuse (b_X12_hireSet_25)))) (sx_aload_n dX12_hireSet_8 rfl (sx_aload_n dX12_hireSet_9 rfl (sx_iload_n dX12_hireSet_10 rfl (sx_vcall dX12_hireSet_11 cf_X12_hiring (mg_9 (List.mem_of_getElem? (i := 11) rfl) rfl) (mg_9 (List.mem_of_getElem? (i := 13) rfl) rfl) (mg_p (List.mem_of_getElem? (i := 108) rfl) rfl) rfl c_X12_hiring (sx_vcall dX12_hireSet_14 cf_X12_orNone (mg_8 (List.mem_of_getElem? (i := 219) rfl) rfl) (mg_8 (List.mem_of_getElem? (i := 221) rfl) rfl) (mg_p (List.mem_of_getElem? (i := 107) rfl) rfl) rfl c_X12_orNone (sx_goto 25 dX12_hireSet_17 (by decide) (b_X12_hireSet_25))))))))))
def sp_X12_hireSet (G : GT) : Sp := fun as S I J z Q => match as with
  | [.ref a0, .int a1] => B_X12_hireSet_0 G 0 0 Q [some (.ref a0), some (.int a1)] [] S I J z 0 0
  | _ => False
theorem c_X12_hireSet {l : Launch} {G : GT} {D : Nat} : ∀ as S I J z Q, sp_X12_hireSet G as S I J z Q → fqCall l G M_X12_hireSet (D + 6) 0 0 as S I J z Q := by
  intro as S I J z Q h
  unfold sp_X12_hireSet at h
  split at h
  · exact fq_enter _ (by decide +kernel) (Nat.le_of_ble_eq_true rfl) rfl (b_X12_hireSet_0 _ _ _ _ _ _ _ _ h)
  · exact h.elim
theorem dX12_told_0 : decode cX12_told 0 = .ok (.iload_n 1, 1) := by decide +kernel
theorem dX12_told_1 : decode cX12_told 1 = .ok (.ifCond .lt 9, 3) := by decide +kernel
theorem dX12_told_4 : decode cX12_told 4 = .ok (.iload_n 1, 1) := by decide +kernel
theorem dX12_told_5 : decode cX12_told 5 = .ok (.bipush 12, 2) := by decide +kernel
theorem dX12_told_7 : decode cX12_told 7 = .ok (.if_icmp .le 9, 3) := by decide +kernel
theorem dX12_told_10 : decode cX12_told 10 = .ok (.aload_n 0, 1) := by decide +kernel
theorem dX12_told_11 : decode cX12_told 11 = .ok (.iconst 1, 1) := by decide +kernel
theorem dX12_told_12 : decode cX12_told 12 = .ok (.invokevirtual 75, 3) := by decide +kernel
theorem dX12_told_15 : decode cX12_told 15 = .ok (.ireturn, 1) := by decide +kernel
theorem dX12_told_16 : decode cX12_told 16 = .ok (.iload_n 1, 1) := by decide +kernel
theorem dX12_told_17 : decode cX12_told 17 = .ok (.bipush 8, 2) := by decide +kernel
theorem dX12_told_19 : decode cX12_told 19 = .ok (.if_icmp .ge 14, 3) := by decide +kernel
theorem dX12_told_22 : decode cX12_told 22 = .ok (.aload_n 0, 1) := by decide +kernel
theorem dX12_told_23 : decode cX12_told 23 = .ok (.aload_n 0, 1) := by decide +kernel
theorem dX12_told_24 : decode cX12_told 24 = .ok (.getfield 7, 3) := by decide +kernel
theorem dX12_told_27 : decode cX12_told 27 = .ok (.iload_n 1, 1) := by decide +kernel
theorem dX12_told_28 : decode cX12_told 28 = .ok (.iaload, 1) := by decide +kernel
theorem dX12_told_29 : decode cX12_told 29 = .ok (.invokevirtual 79, 3) := by decide +kernel
theorem dX12_told_32 : decode cX12_told 32 = .ok (.ireturn, 1) := by decide +kernel
theorem dX12_told_33 : decode cX12_told 33 = .ok (.aload_n 0, 1) := by decide +kernel
theorem dX12_told_34 : decode cX12_told 34 = .ok (.iload_n 1, 1) := by decide +kernel
theorem dX12_told_35 : decode cX12_told 35 = .ok (.bipush 11, 2) := by decide +kernel
theorem dX12_told_37 : decode cX12_told 37 = .ok (.if_icmp .ge 11, 3) := by decide +kernel
theorem dX12_told_40 : decode cX12_told 40 = .ok (.aload_n 0, 1) := by decide +kernel
theorem dX12_told_41 : decode cX12_told 41 = .ok (.iload_n 1, 1) := by decide +kernel
theorem dX12_told_42 : decode cX12_told 42 = .ok (.invokevirtual 265, 3) := by decide +kernel
theorem dX12_told_45 : decode cX12_told 45 = .ok (.goto 15, 3) := by decide +kernel
theorem dX12_told_48 : decode cX12_told 48 = .ok (.aload_n 0, 1) := by decide +kernel
theorem dX12_told_49 : decode cX12_told 49 = .ok (.getfield 7, 3) := by decide +kernel
theorem dX12_told_52 : decode cX12_told 52 = .ok (.bipush 9, 2) := by decide +kernel
theorem dX12_told_54 : decode cX12_told 54 = .ok (.iload_n 1, 1) := by decide +kernel
theorem dX12_told_55 : decode cX12_told 55 = .ok (.iadd, 1) := by decide +kernel
theorem dX12_told_56 : decode cX12_told 56 = .ok (.bipush 11, 2) := by decide +kernel
theorem dX12_told_58 : decode cX12_told 58 = .ok (.isub, 1) := by decide +kernel
theorem dX12_told_59 : decode cX12_told 59 = .ok (.iaload, 1) := by decide +kernel
theorem dX12_told_60 : decode cX12_told 60 = .ok (.invokevirtual 79, 3) := by decide +kernel
theorem dX12_told_63 : decode cX12_told 63 = .ok (.ireturn, 1) := by decide +kernel
abbrev M_X12_told : MT := (yX12_told, cX12_told, 2, (some .int))
theorem cf_X12_told : fq_cf M_X12_told 1 := ⟨(mg_1 (List.mem_of_getElem? (i := 15) rfl) rfl), (mg_7 (List.mem_of_getElem? (i := 235) rfl) rfl), ⟨by decide, by decide, by decide +kernel⟩, by decide⟩
def B_X12_told_60 (G : GT) (mc ms : Nat) (Q : Post) : Cn := ix_vcall 12 2 0 0 mc ms (sp_X12_gives G) (ix_iret mc ms Q)
theorem b_X12_told_60 {l : Launch} {G : GT} {D mc ms : Nat} {Q : Post} : Imp l G M_X12_told (D + 3) mc ms Q (B_X12_told_60 G mc ms Q) 60 := sx_vcall dX12_told_60 cf_X12_gives (mg_7 (List.mem_of_getElem? (i := 204) rfl) rfl) (mg_7 (List.mem_of_getElem? (i := 206) rfl) rfl) (mg_p (List.mem_of_getElem? (i := 72) rfl) rfl) rfl c_X12_gives (sx_iret dX12_told_63 rfl)
def B_X12_told_10 (G : GT) (mc ms : Nat) (Q : Post) : Cn := ix_aload 0 (ix_pushI 1 (ix_vcall 12 2 0 0 mc ms (sp_X12_refuse G) (ix_iret mc ms Q)))
theorem b_X12_told_10 {l : Launch} {G : GT} {D mc ms : Nat} {Q : Post} : Imp l G M_X12_told (D + 3) mc ms Q (B_X12_told_10 G mc ms Q) 10 := sx_aload_n dX12_told_10 rfl (sx_iconst dX12_told_11 rfl (sx_vcall dX12_told_12 cf_X12_refuse (mg_7 (List.mem_of_getElem? (i := 128) rfl) rfl) (mg_7 (List.mem_of_getElem? (i := 130) rfl) rfl) (mg_p (List.mem_of_getElem? (i := 54) rfl) rfl) rfl c_X12_refuse (sx_iret dX12_told_15 rfl)))
def B_X12_told_0 (G : GT) (mc ms : Nat) (Q : Post) : Cn := ix_iload 1 (ix_if_lt ((B_X12_told_10 G mc ms Q)) (ix_iload 1 (ix_pushI 12 (ix_icmp_le (ix_iload 1 (ix_pushI 8 (ix_icmp_ge (ix_aload 0 (ix_iload 1 (ix_pushI 11 (ix_icmp_ge (ix_aload 0 (ix_getR 12 0 (ix_pushI 9 (ix_iload 1 (ix_iadd (ix_pushI 11 (ix_isub (ix_iald ((B_X12_told_60 G mc ms Q)))))))))) (ix_aload 0 (ix_iload 1 (ix_vcall 12 2 0 0 mc ms (sp_X12_setOf G) ((B_X12_told_60 G mc ms Q))))))))) (ix_aload 0 (ix_aload 0 (ix_getR 12 0 (ix_iload 1 (ix_iald (ix_vcall 12 2 0 0 mc ms (sp_X12_gives G) (ix_iret mc ms Q)))))))))) ((B_X12_told_10 G mc ms Q))))))
theorem b_X12_told_0 {l : Launch} {G : GT} {D mc ms : Nat} {Q : Post} : Imp l G M_X12_told (D + 3) mc ms Q (B_X12_told_0 G mc ms Q) 0 := sx_iload_n dX12_told_0 rfl (sx_if_lt 10 dX12_told_1 (by decide) (b_X12_told_10) (sx_iload_n dX12_told_4 rfl (sx_bipush dX12_told_5 rfl (sx_icmp_le 16 dX12_told_7 (by decide) (sx_iload_n dX12_told_16 rfl (sx_bipush dX12_told_17 rfl (sx_icmp_ge 33 dX12_told_19 (by decide) (sx_aload_n dX12_told_33 rfl (sx_iload_n dX12_told_34 rfl (sx_bipush dX12_told_35 rfl (sx_icmp_ge 48 dX12_told_37 (by decide) (sx_aload_n dX12_told_48 rfl (sx_getR dX12_told_49 fl_FootQuarrelModel_7 (fun _ _ _ => rfl) (sx_bipush dX12_told_52 rfl (sx_iload_n dX12_told_54 rfl (sx_iadd dX12_told_55 (sx_bipush dX12_told_56 rfl (sx_isub dX12_told_58 (sx_iald dX12_told_59 (b_X12_told_60))))))))) (sx_aload_n dX12_told_40 rfl (sx_iload_n dX12_told_41 rfl (sx_vcall dX12_told_42 cf_X12_setOf (mg_7 (List.mem_of_getElem? (i := 236) rfl) rfl) (mg_7 (List.mem_of_getElem? (i := 238) rfl) rfl) (mg_p (List.mem_of_getElem? (i := 78) rfl) rfl) rfl c_X12_setOf (sx_goto 60 dX12_told_45 (by decide) (b_X12_told_60))))))))) (sx_aload_n dX12_told_22 rfl (sx_aload_n dX12_told_23 rfl (sx_getR dX12_told_24 fl_FootQuarrelModel_7 (fun _ _ _ => rfl) (sx_iload_n dX12_told_27 rfl (sx_iald dX12_told_28 (sx_vcall dX12_told_29 cf_X12_gives (mg_7 (List.mem_of_getElem? (i := 204) rfl) rfl) (mg_7 (List.mem_of_getElem? (i := 206) rfl) rfl) (mg_p (List.mem_of_getElem? (i := 72) rfl) rfl) rfl c_X12_gives (sx_iret dX12_told_32 rfl)))))))))) (b_X12_told_10)))))
def sp_X12_told (G : GT) : Sp := fun as S I J z Q => match as with
  | [.ref a0, .int a1] => B_X12_told_0 G 0 0 Q [some (.ref a0), some (.int a1)] [] S I J z 0 0
  | _ => False
theorem c_X12_told {l : Launch} {G : GT} {D : Nat} : ∀ as S I J z Q, sp_X12_told G as S I J z Q → fqCall l G M_X12_told (D + 3) 0 0 as S I J z Q := by
  intro as S I J z Q h
  unfold sp_X12_told at h
  split at h
  · exact fq_enter _ (by decide +kernel) (Nat.le_of_ble_eq_true rfl) rfl (b_X12_told_0 _ _ _ _ _ _ _ _ h)
  · exact h.elim
theorem dX12_house_0 : decode cX12_house 0 = .ok (.aload_n 0, 1) := by decide +kernel
theorem dX12_house_1 : decode cX12_house 1 = .ok (.iload_n 1, 1) := by decide +kernel
theorem dX12_house_2 : decode cX12_house 2 = .ok (.invokevirtual 268, 3) := by decide +kernel
theorem dX12_house_5 : decode cX12_house 5 = .ok (.ifCond .eq 12, 3) := by decide +kernel
theorem dX12_house_8 : decode cX12_house 8 = .ok (.iload_n 2, 1) := by decide +kernel
theorem dX12_house_9 : decode cX12_house 9 = .ok (.ifCond .lt 8, 3) := by decide +kernel
theorem dX12_house_12 : decode cX12_house 12 = .ok (.iload_n 2, 1) := by decide +kernel
theorem dX12_house_13 : decode cX12_house 13 = .ok (.iconst 3, 1) := by decide +kernel
theorem dX12_house_14 : decode cX12_house 14 = .ok (.if_icmp .le 9, 3) := by decide +kernel
theorem dX12_house_17 : decode cX12_house 17 = .ok (.aload_n 0, 1) := by decide +kernel
theorem dX12_house_18 : decode cX12_house 18 = .ok (.iconst 1, 1) := by decide +kernel
theorem dX12_house_19 : decode cX12_house 19 = .ok (.invokevirtual 75, 3) := by decide +kernel
theorem dX12_house_22 : decode cX12_house 22 = .ok (.ireturn, 1) := by decide +kernel
theorem dX12_house_23 : decode cX12_house 23 = .ok (.iload_n 2, 1) := by decide +kernel
theorem dX12_house_24 : decode cX12_house 24 = .ok (.iconst 2, 1) := by decide +kernel
theorem dX12_house_25 : decode cX12_house 25 = .ok (.if_icmp .ne 13, 3) := by decide +kernel
theorem dX12_house_28 : decode cX12_house 28 = .ok (.aload_n 0, 1) := by decide +kernel
theorem dX12_house_29 : decode cX12_house 29 = .ok (.aload_n 0, 1) := by decide +kernel
theorem dX12_house_30 : decode cX12_house 30 = .ok (.iload_n 1, 1) := by decide +kernel
theorem dX12_house_31 : decode cX12_house 31 = .ok (.invokevirtual 271, 3) := by decide +kernel
theorem dX12_house_34 : decode cX12_house 34 = .ok (.invokevirtual 79, 3) := by decide +kernel
theorem dX12_house_37 : decode cX12_house 37 = .ok (.ireturn, 1) := by decide +kernel
theorem dX12_house_38 : decode cX12_house 38 = .ok (.aload_n 0, 1) := by decide +kernel
theorem dX12_house_39 : decode cX12_house 39 = .ok (.aload_n 0, 1) := by decide +kernel
theorem dX12_house_40 : decode cX12_house 40 = .ok (.getfield 7, 3) := by decide +kernel
theorem dX12_house_43 : decode cX12_house 43 = .ok (.iload_n 1, 1) := by decide +kernel
theorem dX12_house_44 : decode cX12_house 44 = .ok (.invokestatic 247, 3) := by decide +kernel
theorem dX12_house_47 : decode cX12_house 47 = .ok (.iload_n 2, 1) := by decide +kernel
theorem dX12_house_48 : decode cX12_house 48 = .ok (.iconst 3, 1) := by decide +kernel
theorem dX12_house_49 : decode cX12_house 49 = .ok (.if_icmp .ne 7, 3) := by decide +kernel
theorem dX12_house_52 : decode cX12_house 52 = .ok (.iconst 2, 1) := by decide +kernel
theorem dX12_house_53 : decode cX12_house 53 = .ok (.goto 4, 3) := by decide +kernel
theorem dX12_house_56 : decode cX12_house 56 = .ok (.iload_n 2, 1) := by decide +kernel
theorem dX12_house_57 : decode cX12_house 57 = .ok (.iadd, 1) := by decide +kernel
theorem dX12_house_58 : decode cX12_house 58 = .ok (.iaload, 1) := by decide +kernel
theorem dX12_house_59 : decode cX12_house 59 = .ok (.invokevirtual 79, 3) := by decide +kernel
theorem dX12_house_62 : decode cX12_house 62 = .ok (.ireturn, 1) := by decide +kernel
abbrev M_X12_house : MT := (yX12_house, cX12_house, 3, (some .int))
theorem cf_X12_house : fq_cf M_X12_house 2 := ⟨(mg_1 (List.mem_of_getElem? (i := 15) rfl) rfl), (mg_8 (List.mem_of_getElem? (i := 17) rfl) rfl), ⟨by decide, by decide, by decide +kernel⟩, by decide⟩
def B_X12_house_57 (G : GT) (mc ms : Nat) (Q : Post) : Cn := ix_iadd (ix_iald (ix_vcall 12 2 0 0 mc ms (sp_X12_gives G) (ix_iret mc ms Q)))
theorem b_X12_house_57 {l : Launch} {G : GT} {D mc ms : Nat} {Q : Post} : Imp l G M_X12_house (D + 4) mc ms Q (B_X12_house_57 G mc ms Q) 57 := sx_iadd dX12_house_57 (sx_iald dX12_house_58 (sx_vcall dX12_house_59 cf_X12_gives (mg_7 (List.mem_of_getElem? (i := 204) rfl) rfl) (mg_7 (List.mem_of_getElem? (i := 206) rfl) rfl) (mg_p (List.mem_of_getElem? (i := 72) rfl) rfl) rfl c_X12_gives (sx_iret dX12_house_62 rfl)))
def B_X12_house_17 (G : GT) (mc ms : Nat) (Q : Post) : Cn := ix_aload 0 (ix_pushI 1 (ix_vcall 12 2 0 0 mc ms (sp_X12_refuse G) (ix_iret mc ms Q)))
theorem b_X12_house_17 {l : Launch} {G : GT} {D mc ms : Nat} {Q : Post} : Imp l G M_X12_house (D + 4) mc ms Q (B_X12_house_17 G mc ms Q) 17 := sx_aload_n dX12_house_17 rfl (sx_iconst dX12_house_18 rfl (sx_vcall dX12_house_19 cf_X12_refuse (mg_7 (List.mem_of_getElem? (i := 128) rfl) rfl) (mg_7 (List.mem_of_getElem? (i := 130) rfl) rfl) (mg_p (List.mem_of_getElem? (i := 54) rfl) rfl) rfl c_X12_refuse (sx_iret dX12_house_22 rfl)))
def B_X12_house_0 (G : GT) (mc ms : Nat) (Q : Post) : Cn := ix_aload 0 (ix_iload 1 (ix_vcall 12 2 0 0 mc ms (sp_X12_isHouse G) (ix_if_eq ((B_X12_house_17 G mc ms Q)) (ix_iload 2 (ix_if_lt ((B_X12_house_17 G mc ms Q)) (ix_iload 2 (ix_pushI 3 (ix_icmp_le (ix_iload 2 (ix_pushI 2 (ix_icmp_ne (ix_aload 0 (ix_aload 0 (ix_getR 12 0 (ix_iload 1 (ix_call 1 0 0 mc ms (sp_X12_houseRow G) (ix_iload 2 (ix_pushI 3 (ix_icmp_ne (ix_iload 2 ((B_X12_house_57 G mc ms Q))) (ix_pushI 2 ((B_X12_house_57 G mc ms Q))))))))))) (ix_aload 0 (ix_aload 0 (ix_iload 1 (ix_vcall 12 2 0 0 mc ms (sp_X12_peopleIn G) (ix_vcall 12 2 0 0 mc ms (sp_X12_gives G) (ix_iret mc ms Q))))))))) ((B_X12_house_17 G mc ms Q))))))))))
theorem b_X12_house_0 {l : Launch} {G : GT} {D mc ms : Nat} {Q : Post} : Imp l G M_X12_house (D + 4) mc ms Q (B_X12_house_0 G mc ms Q) 0 := sx_aload_n dX12_house_0 rfl (sx_iload_n dX12_house_1 rfl (sx_vcall dX12_house_2 cf_X12_isHouse (mg_8 (List.mem_of_getElem? (i := 18) rfl) rfl) (mg_8 (List.mem_of_getElem? (i := 20) rfl) rfl) (mg_p (List.mem_of_getElem? (i := 81) rfl) rfl) rfl c_X12_isHouse (sx_if_eq 17 dX12_house_5 (by decide) (b_X12_house_17) (sx_iload_n dX12_house_8 rfl (sx_if_lt 17 dX12_house_9 (by decide) (b_X12_house_17) (sx_iload_n dX12_house_12 rfl (sx_iconst dX12_house_13 rfl (sx_icmp_le 23 dX12_house_14 (by decide) (sx_iload_n dX12_house_23 rfl (sx_iconst dX12_house_24 rfl (sx_icmp_ne 38 dX12_house_25 (by decide) (sx_aload_n dX12_house_38 rfl (sx_aload_n dX12_house_39 rfl (sx_getR dX12_house_40 fl_FootQuarrelModel_7 (fun _ _ _ => rfl) (sx_iload_n dX12_house_43 rfl (sx_scall dX12_house_44 cf_X12_houseRow (mg_8 (List.mem_of_getElem? (i := 11) rfl) rfl) (mg_8 (List.mem_of_getElem? (i := 12) rfl) rfl) c_X12_houseRow (sx_iload_n dX12_house_47 rfl (sx_iconst dX12_house_48 rfl (sx_icmp_ne 56 dX12_house_49 (by decide) (sx_iload_n dX12_house_56 rfl (b_X12_house_57)) (sx_iconst dX12_house_52 rfl (sx_goto 57 dX12_house_53 (by decide) (b_X12_house_57))))))))))) (sx_aload_n dX12_house_28 rfl (sx_aload_n dX12_house_29 rfl (sx_iload_n dX12_house_30 rfl (sx_vcall dX12_house_31 cf_X12_peopleIn (mg_8 (List.mem_of_getElem? (i := 22) rfl) rfl) (mg_8 (List.mem_of_getElem? (i := 24) rfl) rfl) (mg_p (List.mem_of_getElem? (i := 82) rfl) rfl) rfl c_X12_peopleIn (sx_vcall dX12_house_34 cf_X12_gives (mg_7 (List.mem_of_getElem? (i := 204) rfl) rfl) (mg_7 (List.mem_of_getElem? (i := 206) rfl) rfl) (mg_p (List.mem_of_getElem? (i := 72) rfl) rfl) rfl c_X12_gives (sx_iret dX12_house_37 rfl))))))))) (b_X12_house_17)))))))))
def sp_X12_house (G : GT) : Sp := fun as S I J z Q => match as with
  | [.ref a0, .int a1, .int a2] => B_X12_house_0 G 0 0 Q [some (.ref a0), some (.int a1), some (.int a2)] [] S I J z 0 0
  | _ => False
theorem c_X12_house {l : Launch} {G : GT} {D : Nat} : ∀ as S I J z Q, sp_X12_house G as S I J z Q → fqCall l G M_X12_house (D + 4) 0 0 as S I J z Q := by
  intro as S I J z Q h
  unfold sp_X12_house at h
  split at h
  · exact fq_enter _ (by decide +kernel) (Nat.le_of_ble_eq_true rfl) rfl (b_X12_house_0 _ _ _ _ _ _ _ _ h)
  · exact h.elim
theorem dX12_wall_0 : decode cX12_wall 0 = .ok (.aload_n 0, 1) := by decide +kernel
theorem dX12_wall_1 : decode cX12_wall 1 = .ok (.iload_n 1, 1) := by decide +kernel
theorem dX12_wall_2 : decode cX12_wall 2 = .ok (.invokevirtual 274, 3) := by decide +kernel
theorem dX12_wall_5 : decode cX12_wall 5 = .ok (.ifCond .eq 16, 3) := by decide +kernel
theorem dX12_wall_8 : decode cX12_wall 8 = .ok (.aload_n 0, 1) := by decide +kernel
theorem dX12_wall_9 : decode cX12_wall 9 = .ok (.aload_n 0, 1) := by decide +kernel
theorem dX12_wall_10 : decode cX12_wall 10 = .ok (.iload_n 1, 1) := by decide +kernel
theorem dX12_wall_11 : decode cX12_wall 11 = .ok (.iconst 0, 1) := by decide +kernel
theorem dX12_wall_12 : decode cX12_wall 12 = .ok (.invokevirtual 277, 3) := by decide +kernel
theorem dX12_wall_15 : decode cX12_wall 15 = .ok (.invokevirtual 79, 3) := by decide +kernel
theorem dX12_wall_18 : decode cX12_wall 18 = .ok (.goto 8, 3) := by decide +kernel
theorem dX12_wall_21 : decode cX12_wall 21 = .ok (.aload_n 0, 1) := by decide +kernel
theorem dX12_wall_22 : decode cX12_wall 22 = .ok (.iconst 1, 1) := by decide +kernel
theorem dX12_wall_23 : decode cX12_wall 23 = .ok (.invokevirtual 75, 3) := by decide +kernel
theorem dX12_wall_26 : decode cX12_wall 26 = .ok (.ireturn, 1) := by decide +kernel
abbrev M_X12_wall : MT := (yX12_wall, cX12_wall, 2, (some .int))
theorem cf_X12_wall : fq_cf M_X12_wall 1 := ⟨(mg_1 (List.mem_of_getElem? (i := 15) rfl) rfl), (mg_8 (List.mem_of_getElem? (i := 33) rfl) rfl), ⟨by decide, by decide, by decide +kernel⟩, by decide⟩
def B_X12_wall_26 (G : GT) (mc ms : Nat) (Q : Post) : Cn := ix_iret mc ms Q
theorem b_X12_wall_26 {l : Launch} {G : GT} {D mc ms : Nat} {Q : Post} : Imp l G M_X12_wall (D + 2) mc ms Q (B_X12_wall_26 G mc ms Q) 26 := sx_iret dX12_wall_26 rfl
def B_X12_wall_0 (G : GT) (mc ms : Nat) (Q : Post) : Cn := ix_aload 0 (ix_iload 1 (ix_vcall 12 2 0 0 mc ms (sp_X12_isWall G) (ix_if_eq (ix_aload 0 (ix_pushI 1 (ix_vcall 12 2 0 0 mc ms (sp_X12_refuse G) ((B_X12_wall_26 G mc ms Q))))) (ix_aload 0 (ix_aload 0 (ix_iload 1 (ix_pushI 0 (ix_vcall 12 3 0 0 mc ms (sp_X12_placeOf G) (ix_vcall 12 2 0 0 mc ms (sp_X12_gives G) ((B_X12_wall_26 G mc ms Q)))))))))))
theorem b_X12_wall_0 {l : Launch} {G : GT} {D mc ms : Nat} {Q : Post} : Imp l G M_X12_wall (D + 2) mc ms Q (B_X12_wall_0 G mc ms Q) 0 := sx_aload_n dX12_wall_0 rfl (sx_iload_n dX12_wall_1 rfl (sx_vcall dX12_wall_2 cf_X12_isWall (mg_8 (List.mem_of_getElem? (i := 34) rfl) rfl) (mg_8 (List.mem_of_getElem? (i := 36) rfl) rfl) (mg_p (List.mem_of_getElem? (i := 84) rfl) rfl) rfl c_X12_isWall (sx_if_eq 21 dX12_wall_5 (by decide) (sx_aload_n dX12_wall_21 rfl (sx_iconst dX12_wall_22 rfl (sx_vcall dX12_wall_23 cf_X12_refuse (mg_7 (List.mem_of_getElem? (i := 128) rfl) rfl) (mg_7 (List.mem_of_getElem? (i := 130) rfl) rfl) (mg_p (List.mem_of_getElem? (i := 54) rfl) rfl) rfl c_X12_refuse (b_X12_wall_26)))) (sx_aload_n dX12_wall_8 rfl (sx_aload_n dX12_wall_9 rfl (sx_iload_n dX12_wall_10 rfl (sx_iconst dX12_wall_11 rfl (sx_vcall dX12_wall_12 cf_X12_placeOf (mg_8 (List.mem_of_getElem? (i := 38) rfl) rfl) (mg_8 (List.mem_of_getElem? (i := 40) rfl) rfl) (mg_p (List.mem_of_getElem? (i := 85) rfl) rfl) rfl c_X12_placeOf (sx_vcall dX12_wall_15 cf_X12_gives (mg_7 (List.mem_of_getElem? (i := 204) rfl) rfl) (mg_7 (List.mem_of_getElem? (i := 206) rfl) rfl) (mg_p (List.mem_of_getElem? (i := 72) rfl) rfl) rfl c_X12_gives (sx_goto 26 dX12_wall_18 (by decide) (b_X12_wall_26)))))))))))
def sp_X12_wall (G : GT) : Sp := fun as S I J z Q => match as with
  | [.ref a0, .int a1] => B_X12_wall_0 G 0 0 Q [some (.ref a0), some (.int a1)] [] S I J z 0 0
  | _ => False
theorem c_X12_wall {l : Launch} {G : GT} {D : Nat} : ∀ as S I J z Q, sp_X12_wall G as S I J z Q → fqCall l G M_X12_wall (D + 2) 0 0 as S I J z Q := by
  intro as S I J z Q h
  unfold sp_X12_wall at h
  split at h
  · exact fq_enter _ (by decide +kernel) (Nat.le_of_ble_eq_true rfl) rfl (b_X12_wall_0 _ _ _ _ _ _ _ _ h)
  · exact h.elim
theorem dX12_person_0 : decode cX12_person 0 = .ok (.aload_n 0, 1) := by decide +kernel
theorem dX12_person_1 : decode cX12_person 1 = .ok (.iload_n 1, 1) := by decide +kernel
theorem dX12_person_2 : decode cX12_person 2 = .ok (.invokevirtual 244, 3) := by decide +kernel
theorem dX12_person_5 : decode cX12_person 5 = .ok (.ifCond .eq 26, 3) := by decide +kernel
theorem dX12_person_8 : decode cX12_person 8 = .ok (.iload_n 2, 1) := by decide +kernel
theorem dX12_person_9 : decode cX12_person 9 = .ok (.ifCond .lt 22, 3) := by decide +kernel
theorem dX12_person_12 : decode cX12_person 12 = .ok (.iload_n 2, 1) := by decide +kernel
theorem dX12_person_13 : decode cX12_person 13 = .ok (.bipush 6, 2) := by decide +kernel
theorem dX12_person_15 : decode cX12_person 15 = .ok (.if_icmp .gt 16, 3) := by decide +kernel
theorem dX12_person_18 : decode cX12_person 18 = .ok (.aload_n 0, 1) := by decide +kernel
theorem dX12_person_19 : decode cX12_person 19 = .ok (.aload_n 0, 1) := by decide +kernel
theorem dX12_person_20 : decode cX12_person 20 = .ok (.iload_n 1, 1) := by decide +kernel
theorem dX12_person_21 : decode cX12_person 21 = .ok (.iload_n 2, 1) := by decide +kernel
theorem dX12_person_22 : decode cX12_person 22 = .ok (.invokevirtual 253, 3) := by decide +kernel
theorem dX12_person_25 : decode cX12_person 25 = .ok (.invokevirtual 79, 3) := by decide +kernel
theorem dX12_person_28 : decode cX12_person 28 = .ok (.goto 8, 3) := by decide +kernel
theorem dX12_person_31 : decode cX12_person 31 = .ok (.aload_n 0, 1) := by decide +kernel
theorem dX12_person_32 : decode cX12_person 32 = .ok (.iconst 1, 1) := by decide +kernel
theorem dX12_person_33 : decode cX12_person 33 = .ok (.invokevirtual 75, 3) := by decide +kernel
theorem dX12_person_36 : decode cX12_person 36 = .ok (.ireturn, 1) := by decide +kernel
abbrev M_X12_person : MT := (yX12_person, cX12_person, 3, (some .int))
theorem cf_X12_person : fq_cf M_X12_person 2 := ⟨(mg_1 (List.mem_of_getElem? (i := 15) rfl) rfl), (mg_8 (List.mem_of_getElem? (i := 45) rfl) rfl), ⟨by decide, by decide, by decide +kernel⟩, by decide⟩
def B_X12_person_36 (G : GT) (mc ms : Nat) (Q : Post) : Cn := ix_iret mc ms Q
theorem b_X12_person_36 {l : Launch} {G : GT} {D mc ms : Nat} {Q : Post} : Imp l G M_X12_person (D + 2) mc ms Q (B_X12_person_36 G mc ms Q) 36 := sx_iret dX12_person_36 rfl
def B_X12_person_31 (G : GT) (mc ms : Nat) (Q : Post) : Cn := ix_aload 0 (ix_pushI 1 (ix_vcall 12 2 0 0 mc ms (sp_X12_refuse G) ((B_X12_person_36 G mc ms Q))))
theorem b_X12_person_31 {l : Launch} {G : GT} {D mc ms : Nat} {Q : Post} : Imp l G M_X12_person (D + 2) mc ms Q (B_X12_person_31 G mc ms Q) 31 := sx_aload_n dX12_person_31 rfl (sx_iconst dX12_person_32 rfl (sx_vcall dX12_person_33 cf_X12_refuse (mg_7 (List.mem_of_getElem? (i := 128) rfl) rfl) (mg_7 (List.mem_of_getElem? (i := 130) rfl) rfl) (mg_p (List.mem_of_getElem? (i := 54) rfl) rfl) rfl c_X12_refuse (b_X12_person_36)))
def B_X12_person_0 (G : GT) (mc ms : Nat) (Q : Post) : Cn := ix_aload 0 (ix_iload 1 (ix_vcall 12 2 0 0 mc ms (sp_X12_isPerson G) (ix_if_eq ((B_X12_person_31 G mc ms Q)) (ix_iload 2 (ix_if_lt ((B_X12_person_31 G mc ms Q)) (ix_iload 2 (ix_pushI 6 (ix_icmp_gt ((B_X12_person_31 G mc ms Q)) (ix_aload 0 (ix_aload 0 (ix_iload 1 (ix_iload 2 (ix_vcall 12 3 0 0 mc ms (sp_X12_personOf G) (ix_vcall 12 2 0 0 mc ms (sp_X12_gives G) ((B_X12_person_36 G mc ms Q))))))))))))))))
theorem b_X12_person_0 {l : Launch} {G : GT} {D mc ms : Nat} {Q : Post} : Imp l G M_X12_person (D + 2) mc ms Q (B_X12_person_0 G mc ms Q) 0 := sx_aload_n dX12_person_0 rfl (sx_iload_n dX12_person_1 rfl (sx_vcall dX12_person_2 cf_X12_isPerson (mg_8 (List.mem_of_getElem? (i := 46) rfl) rfl) (mg_8 (List.mem_of_getElem? (i := 48) rfl) rfl) (mg_p (List.mem_of_getElem? (i := 86) rfl) rfl) rfl c_X12_isPerson (sx_if_eq 31 dX12_person_5 (by decide) (b_X12_person_31) (sx_iload_n dX12_person_8 rfl (sx_if_lt 31 dX12_person_9 (by decide) (b_X12_person_31) (sx_iload_n dX12_person_12 rfl (sx_bipush dX12_person_13 rfl (sx_icmp_gt 31 dX12_person_15 (by decide) (b_X12_person_31) (sx_aload_n dX12_person_18 rfl (sx_aload_n dX12_person_19 rfl (sx_iload_n dX12_person_20 rfl (sx_iload_n dX12_person_21 rfl (sx_vcall dX12_person_22 cf_X12_personOf (mg_8 (List.mem_of_getElem? (i := 0) rfl) rfl) (mg_8 (List.mem_of_getElem? (i := 2) rfl) rfl) (mg_p (List.mem_of_getElem? (i := 79) rfl) rfl) rfl c_X12_personOf (sx_vcall dX12_person_25 cf_X12_gives (mg_7 (List.mem_of_getElem? (i := 204) rfl) rfl) (mg_7 (List.mem_of_getElem? (i := 206) rfl) rfl) (mg_p (List.mem_of_getElem? (i := 72) rfl) rfl) rfl c_X12_gives (sx_goto 36 dX12_person_28 (by decide) (b_X12_person_36))))))))))))))))
def sp_X12_person (G : GT) : Sp := fun as S I J z Q => match as with
  | [.ref a0, .int a1, .int a2] => B_X12_person_0 G 0 0 Q [some (.ref a0), some (.int a1), some (.int a2)] [] S I J z 0 0
  | _ => False
theorem c_X12_person {l : Launch} {G : GT} {D : Nat} : ∀ as S I J z Q, sp_X12_person G as S I J z Q → fqCall l G M_X12_person (D + 2) 0 0 as S I J z Q := by
  intro as S I J z Q h
  unfold sp_X12_person at h
  split at h
  · exact fq_enter _ (by decide +kernel) (Nat.le_of_ble_eq_true rfl) rfl (b_X12_person_0 _ _ _ _ _ _ _ _ h)
  · exact h.elim
theorem dX12_quarrel_0 : decode cX12_quarrel 0 = .ok (.aload_n 0, 1) := by decide +kernel
theorem dX12_quarrel_1 : decode cX12_quarrel 1 = .ok (.iload_n 1, 1) := by decide +kernel
theorem dX12_quarrel_2 : decode cX12_quarrel 2 = .ok (.invokevirtual 280, 3) := by decide +kernel
theorem dX12_quarrel_5 : decode cX12_quarrel 5 = .ok (.ifCond .eq 31, 3) := by decide +kernel
theorem dX12_quarrel_8 : decode cX12_quarrel 8 = .ok (.iload_n 2, 1) := by decide +kernel
theorem dX12_quarrel_9 : decode cX12_quarrel 9 = .ok (.ifCond .lt 27, 3) := by decide +kernel
theorem dX12_quarrel_12 : decode cX12_quarrel 12 = .ok (.iload_n 2, 1) := by decide +kernel
theorem dX12_quarrel_13 : decode cX12_quarrel 13 = .ok (.bipush 6, 2) := by decide +kernel
theorem dX12_quarrel_15 : decode cX12_quarrel 15 = .ok (.if_icmp .gt 21, 3) := by decide +kernel
theorem dX12_quarrel_18 : decode cX12_quarrel 18 = .ok (.aload_n 0, 1) := by decide +kernel
theorem dX12_quarrel_19 : decode cX12_quarrel 19 = .ok (.aload_n 0, 1) := by decide +kernel
theorem dX12_quarrel_20 : decode cX12_quarrel 20 = .ok (.getfield 7, 3) := by decide +kernel
theorem dX12_quarrel_23 : decode cX12_quarrel 23 = .ok (.iload_n 1, 1) := by decide +kernel
theorem dX12_quarrel_24 : decode cX12_quarrel 24 = .ok (.invokestatic 283, 3) := by decide +kernel
theorem dX12_quarrel_27 : decode cX12_quarrel 27 = .ok (.iload_n 2, 1) := by decide +kernel
theorem dX12_quarrel_28 : decode cX12_quarrel 28 = .ok (.iadd, 1) := by decide +kernel
theorem dX12_quarrel_29 : decode cX12_quarrel 29 = .ok (.iaload, 1) := by decide +kernel
theorem dX12_quarrel_30 : decode cX12_quarrel 30 = .ok (.invokevirtual 79, 3) := by decide +kernel
theorem dX12_quarrel_33 : decode cX12_quarrel 33 = .ok (.goto 8, 3) := by decide +kernel
theorem dX12_quarrel_36 : decode cX12_quarrel 36 = .ok (.aload_n 0, 1) := by decide +kernel
theorem dX12_quarrel_37 : decode cX12_quarrel 37 = .ok (.iconst 1, 1) := by decide +kernel
theorem dX12_quarrel_38 : decode cX12_quarrel 38 = .ok (.invokevirtual 75, 3) := by decide +kernel
theorem dX12_quarrel_41 : decode cX12_quarrel 41 = .ok (.ireturn, 1) := by decide +kernel
abbrev M_X12_quarrel : MT := (yX12_quarrel, cX12_quarrel, 3, (some .int))
theorem cf_X12_quarrel : fq_cf M_X12_quarrel 2 := ⟨(mg_1 (List.mem_of_getElem? (i := 15) rfl) rfl), (mg_8 (List.mem_of_getElem? (i := 53) rfl) rfl), ⟨by decide, by decide, by decide +kernel⟩, by decide⟩
def B_X12_quarrel_41 (G : GT) (mc ms : Nat) (Q : Post) : Cn := ix_iret mc ms Q
theorem b_X12_quarrel_41 {l : Launch} {G : GT} {D mc ms : Nat} {Q : Post} : Imp l G M_X12_quarrel (D + 1) mc ms Q (B_X12_quarrel_41 G mc ms Q) 41 := sx_iret dX12_quarrel_41 rfl
def B_X12_quarrel_36 (G : GT) (mc ms : Nat) (Q : Post) : Cn := ix_aload 0 (ix_pushI 1 (ix_vcall 12 2 0 0 mc ms (sp_X12_refuse G) ((B_X12_quarrel_41 G mc ms Q))))
theorem b_X12_quarrel_36 {l : Launch} {G : GT} {D mc ms : Nat} {Q : Post} : Imp l G M_X12_quarrel (D + 1) mc ms Q (B_X12_quarrel_36 G mc ms Q) 36 := sx_aload_n dX12_quarrel_36 rfl (sx_iconst dX12_quarrel_37 rfl (sx_vcall dX12_quarrel_38 cf_X12_refuse (mg_7 (List.mem_of_getElem? (i := 128) rfl) rfl) (mg_7 (List.mem_of_getElem? (i := 130) rfl) rfl) (mg_p (List.mem_of_getElem? (i := 54) rfl) rfl) rfl c_X12_refuse (b_X12_quarrel_41)))
def B_X12_quarrel_0 (G : GT) (mc ms : Nat) (Q : Post) : Cn := ix_aload 0 (ix_iload 1 (ix_vcall 12 2 0 0 mc ms (sp_X12_isQuarrel G) (ix_if_eq ((B_X12_quarrel_36 G mc ms Q)) (ix_iload 2 (ix_if_lt ((B_X12_quarrel_36 G mc ms Q)) (ix_iload 2 (ix_pushI 6 (ix_icmp_gt ((B_X12_quarrel_36 G mc ms Q)) (ix_aload 0 (ix_aload 0 (ix_getR 12 0 (ix_iload 1 (ix_call 1 0 0 mc ms (sp_X12_quarrelRow G) (ix_iload 2 (ix_iadd (ix_iald (ix_vcall 12 2 0 0 mc ms (sp_X12_gives G) ((B_X12_quarrel_41 G mc ms Q)))))))))))))))))))
theorem b_X12_quarrel_0 {l : Launch} {G : GT} {D mc ms : Nat} {Q : Post} : Imp l G M_X12_quarrel (D + 1) mc ms Q (B_X12_quarrel_0 G mc ms Q) 0 := sx_aload_n dX12_quarrel_0 rfl (sx_iload_n dX12_quarrel_1 rfl (sx_vcall dX12_quarrel_2 cf_X12_isQuarrel (mg_8 (List.mem_of_getElem? (i := 54) rfl) rfl) (mg_8 (List.mem_of_getElem? (i := 56) rfl) rfl) (mg_p (List.mem_of_getElem? (i := 87) rfl) rfl) rfl c_X12_isQuarrel (sx_if_eq 36 dX12_quarrel_5 (by decide) (b_X12_quarrel_36) (sx_iload_n dX12_quarrel_8 rfl (sx_if_lt 36 dX12_quarrel_9 (by decide) (b_X12_quarrel_36) (sx_iload_n dX12_quarrel_12 rfl (sx_bipush dX12_quarrel_13 rfl (sx_icmp_gt 36 dX12_quarrel_15 (by decide) (b_X12_quarrel_36) (sx_aload_n dX12_quarrel_18 rfl (sx_aload_n dX12_quarrel_19 rfl (sx_getR dX12_quarrel_20 fl_FootQuarrelModel_7 (fun _ _ _ => rfl) (sx_iload_n dX12_quarrel_23 rfl (sx_scall dX12_quarrel_24 cf_X12_quarrelRow (mg_8 (List.mem_of_getElem? (i := 58) rfl) rfl) (mg_8 (List.mem_of_getElem? (i := 59) rfl) rfl) c_X12_quarrelRow (sx_iload_n dX12_quarrel_27 rfl (sx_iadd dX12_quarrel_28 (sx_iald dX12_quarrel_29 (sx_vcall dX12_quarrel_30 cf_X12_gives (mg_7 (List.mem_of_getElem? (i := 204) rfl) rfl) (mg_7 (List.mem_of_getElem? (i := 206) rfl) rfl) (mg_p (List.mem_of_getElem? (i := 72) rfl) rfl) rfl c_X12_gives (sx_goto 41 dX12_quarrel_33 (by decide) (b_X12_quarrel_41)))))))))))))))))))
def sp_X12_quarrel (G : GT) : Sp := fun as S I J z Q => match as with
  | [.ref a0, .int a1, .int a2] => B_X12_quarrel_0 G 0 0 Q [some (.ref a0), some (.int a1), some (.int a2)] [] S I J z 0 0
  | _ => False
theorem c_X12_quarrel {l : Launch} {G : GT} {D : Nat} : ∀ as S I J z Q, sp_X12_quarrel G as S I J z Q → fqCall l G M_X12_quarrel (D + 1) 0 0 as S I J z Q := by
  intro as S I J z Q h
  unfold sp_X12_quarrel at h
  split at h
  · exact fq_enter _ (by decide +kernel) (Nat.le_of_ble_eq_true rfl) rfl (b_X12_quarrel_0 _ _ _ _ _ _ _ _ h)
  · exact h.elim
theorem dX12_near_0 : decode cX12_near 0 = .ok (.aload_n 0, 1) := by decide +kernel
theorem dX12_near_1 : decode cX12_near 1 = .ok (.iload_n 1, 1) := by decide +kernel
theorem dX12_near_2 : decode cX12_near 2 = .ok (.iload_n 2, 1) := by decide +kernel
theorem dX12_near_3 : decode cX12_near 3 = .ok (.invokevirtual 286, 3) := by decide +kernel
theorem dX12_near_6 : decode cX12_near 6 = .ok (.ifCond .eq 24, 3) := by decide +kernel
theorem dX12_near_9 : decode cX12_near 9 = .ok (.aload_n 0, 1) := by decide +kernel
theorem dX12_near_10 : decode cX12_near 10 = .ok (.aload_n 0, 1) := by decide +kernel
theorem dX12_near_11 : decode cX12_near 11 = .ok (.iload_n 1, 1) := by decide +kernel
theorem dX12_near_12 : decode cX12_near 12 = .ok (.iload_n 2, 1) := by decide +kernel
theorem dX12_near_13 : decode cX12_near 13 = .ok (.invokevirtual 289, 3) := by decide +kernel
theorem dX12_near_16 : decode cX12_near 16 = .ok (.ifCond .eq 7, 3) := by decide +kernel
theorem dX12_near_19 : decode cX12_near 19 = .ok (.iconst 1, 1) := by decide +kernel
theorem dX12_near_20 : decode cX12_near 20 = .ok (.goto 4, 3) := by decide +kernel
theorem dX12_near_23 : decode cX12_near 23 = .ok (.iconst 0, 1) := by decide +kernel
theorem dX12_near_24 : decode cX12_near 24 = .ok (.invokevirtual 79, 3) := by decide +kernel
theorem dX12_near_27 : decode cX12_near 27 = .ok (.goto 8, 3) := by decide +kernel
theorem dX12_near_30 : decode cX12_near 30 = .ok (.aload_n 0, 1) := by decide +kernel
theorem dX12_near_31 : decode cX12_near 31 = .ok (.iconst 1, 1) := by decide +kernel
theorem dX12_near_32 : decode cX12_near 32 = .ok (.invokevirtual 75, 3) := by decide +kernel
theorem dX12_near_35 : decode cX12_near 35 = .ok (.ireturn, 1) := by decide +kernel
abbrev M_X12_near : MT := (yX12_near, cX12_near, 3, (some .int))
theorem cf_X12_near : fq_cf M_X12_near 2 := ⟨(mg_1 (List.mem_of_getElem? (i := 15) rfl) rfl), (mg_8 (List.mem_of_getElem? (i := 64) rfl) rfl), ⟨by decide, by decide, by decide +kernel⟩, by decide⟩
def B_X12_near_35 (G : GT) (mc ms : Nat) (Q : Post) : Cn := ix_iret mc ms Q
theorem b_X12_near_35 {l : Launch} {G : GT} {D mc ms : Nat} {Q : Post} : Imp l G M_X12_near (D + 4) mc ms Q (B_X12_near_35 G mc ms Q) 35 := sx_iret dX12_near_35 rfl
def B_X12_near_24 (G : GT) (mc ms : Nat) (Q : Post) : Cn := ix_vcall 12 2 0 0 mc ms (sp_X12_gives G) ((B_X12_near_35 G mc ms Q))
theorem b_X12_near_24 {l : Launch} {G : GT} {D mc ms : Nat} {Q : Post} : Imp l G M_X12_near (D + 4) mc ms Q (B_X12_near_24 G mc ms Q) 24 := sx_vcall dX12_near_24 cf_X12_gives (mg_7 (List.mem_of_getElem? (i := 204) rfl) rfl) (mg_7 (List.mem_of_getElem? (i := 206) rfl) rfl) (mg_p (List.mem_of_getElem? (i := 72) rfl) rfl) rfl c_X12_gives (sx_goto 35 dX12_near_27 (by decide) (b_X12_near_35))
def B_X12_near_0 (G : GT) (mc ms : Nat) (Q : Post) : Cn := ix_aload 0 (ix_iload 1 (ix_iload 2 (ix_vcall 12 3 0 0 mc ms (sp_X12_areTwo G) (ix_if_eq (ix_aload 0 (ix_pushI 1 (ix_vcall 12 2 0 0 mc ms (sp_X12_refuse G) ((B_X12_near_35 G mc ms Q))))) (ix_aload 0 (ix_aload 0 (ix_iload 1 (ix_iload 2 (ix_vcall 12 3 0 0 mc ms (sp_X12_areNear G) (ix_if_eq (ix_pushI 0 ((B_X12_near_24 G mc ms Q))) (ix_pushI 1 ((B_X12_near_24 G mc ms Q)))))))))))))
theorem b_X12_near_0 {l : Launch} {G : GT} {D mc ms : Nat} {Q : Post} : Imp l G M_X12_near (D + 4) mc ms Q (B_X12_near_0 G mc ms Q) 0 := sx_aload_n dX12_near_0 rfl (sx_iload_n dX12_near_1 rfl (sx_iload_n dX12_near_2 rfl (sx_vcall dX12_near_3 cf_X12_areTwo (mg_8 (List.mem_of_getElem? (i := 65) rfl) rfl) (mg_8 (List.mem_of_getElem? (i := 67) rfl) rfl) (mg_p (List.mem_of_getElem? (i := 88) rfl) rfl) rfl c_X12_areTwo (sx_if_eq 30 dX12_near_6 (by decide) (sx_aload_n dX12_near_30 rfl (sx_iconst dX12_near_31 rfl (sx_vcall dX12_near_32 cf_X12_refuse (mg_7 (List.mem_of_getElem? (i := 128) rfl) rfl) (mg_7 (List.mem_of_getElem? (i := 130) rfl) rfl) (mg_p (List.mem_of_getElem? (i := 54) rfl) rfl) rfl c_X12_refuse (b_X12_near_35)))) (sx_aload_n dX12_near_9 rfl (sx_aload_n dX12_near_10 rfl (sx_iload_n dX12_near_11 rfl (sx_iload_n dX12_near_12 rfl (sx_vcall dX12_near_13 cf_X12_areNear (mg_8 (List.mem_of_getElem? (i := 69) rfl) rfl) (mg_8 (List.mem_of_getElem? (i := 71) rfl) rfl) (mg_p (List.mem_of_getElem? (i := 89) rfl) rfl) rfl c_X12_areNear (sx_if_eq 23 dX12_near_16 (by decide) (sx_iconst dX12_near_23 rfl (b_X12_near_24)) (sx_iconst dX12_near_19 rfl (sx_goto 24 dX12_near_20 (by decide) (b_X12_near_24)))))))))))))
def sp_X12_near (G : GT) : Sp := fun as S I J z Q => match as with
  | [.ref a0, .int a1, .int a2] => B_X12_near_0 G 0 0 Q [some (.ref a0), some (.int a1), some (.int a2)] [] S I J z 0 0
  | _ => False
theorem c_X12_near {l : Launch} {G : GT} {D : Nat} : ∀ as S I J z Q, sp_X12_near G as S I J z Q → fqCall l G M_X12_near (D + 4) 0 0 as S I J z Q := by
  intro as S I J z Q h
  unfold sp_X12_near at h
  split at h
  · exact fq_enter _ (by decide +kernel) (Nat.le_of_ble_eq_true rfl) rfl (b_X12_near_0 _ _ _ _ _ _ _ _ h)
  · exact h.elim
theorem dX12_neighbours_0 : decode cX12_neighbours 0 = .ok (.aload_n 0, 1) := by decide +kernel
theorem dX12_neighbours_1 : decode cX12_neighbours 1 = .ok (.iload_n 1, 1) := by decide +kernel
theorem dX12_neighbours_2 : decode cX12_neighbours 2 = .ok (.invokevirtual 244, 3) := by decide +kernel
theorem dX12_neighbours_5 : decode cX12_neighbours 5 = .ok (.ifCond .eq 15, 3) := by decide +kernel
theorem dX12_neighbours_8 : decode cX12_neighbours 8 = .ok (.aload_n 0, 1) := by decide +kernel
theorem dX12_neighbours_9 : decode cX12_neighbours 9 = .ok (.aload_n 0, 1) := by decide +kernel
theorem dX12_neighbours_10 : decode cX12_neighbours 10 = .ok (.iload_n 1, 1) := by decide +kernel
theorem dX12_neighbours_11 : decode cX12_neighbours 11 = .ok (.invokevirtual 292, 3) := by decide +kernel
theorem dX12_neighbours_14 : decode cX12_neighbours 14 = .ok (.invokevirtual 79, 3) := by decide +kernel
theorem dX12_neighbours_17 : decode cX12_neighbours 17 = .ok (.goto 8, 3) := by decide +kernel
theorem dX12_neighbours_20 : decode cX12_neighbours 20 = .ok (.aload_n 0, 1) := by decide +kernel
theorem dX12_neighbours_21 : decode cX12_neighbours 21 = .ok (.iconst 1, 1) := by decide +kernel
theorem dX12_neighbours_22 : decode cX12_neighbours 22 = .ok (.invokevirtual 75, 3) := by decide +kernel
theorem dX12_neighbours_25 : decode cX12_neighbours 25 = .ok (.ireturn, 1) := by decide +kernel
abbrev M_X12_neighbours : MT := (yX12_neighbours, cX12_neighbours, 2, (some .int))
theorem cf_X12_neighbours : fq_cf M_X12_neighbours 1 := ⟨(mg_1 (List.mem_of_getElem? (i := 15) rfl) rfl), (mg_8 (List.mem_of_getElem? (i := 80) rfl) rfl), ⟨by decide, by decide, by decide +kernel⟩, by decide⟩
def B_X12_neighbours_25 (G : GT) (mc ms : Nat) (Q : Post) : Cn := ix_iret mc ms Q
theorem b_X12_neighbours_25 {l : Launch} {G : GT} {D mc ms : Nat} {Q : Post} : Imp l G M_X12_neighbours (D + 5) mc ms Q (B_X12_neighbours_25 G mc ms Q) 25 := sx_iret dX12_neighbours_25 rfl
def B_X12_neighbours_0 (G : GT) (mc ms : Nat) (Q : Post) : Cn := ix_aload 0 (ix_iload 1 (ix_vcall 12 2 0 0 mc ms (sp_X12_isPerson G) (ix_if_eq (ix_aload 0 (ix_pushI 1 (ix_vcall 12 2 0 0 mc ms (sp_X12_refuse G) ((B_X12_neighbours_25 G mc ms Q))))) (ix_aload 0 (ix_aload 0 (ix_iload 1 (ix_vcall 12 2 0 0 mc ms (sp_X12_nearTo G) (ix_vcall 12 2 0 0 mc ms (sp_X12_gives G) ((B_X12_neighbours_25 G mc ms Q))))))))))
theorem b_X12_neighbours_0 {l : Launch} {G : GT} {D mc ms : Nat} {Q : Post} : Imp l G M_X12_neighbours (D + 5) mc ms Q (B_X12_neighbours_0 G mc ms Q) 0 := sx_aload_n dX12_neighbours_0 rfl (sx_iload_n dX12_neighbours_1 rfl (sx_vcall dX12_neighbours_2 cf_X12_isPerson (mg_8 (List.mem_of_getElem? (i := 46) rfl) rfl) (mg_8 (List.mem_of_getElem? (i := 48) rfl) rfl) (mg_p (List.mem_of_getElem? (i := 86) rfl) rfl) rfl c_X12_isPerson (sx_if_eq 20 dX12_neighbours_5 (by decide) (sx_aload_n dX12_neighbours_20 rfl (sx_iconst dX12_neighbours_21 rfl (sx_vcall dX12_neighbours_22 cf_X12_refuse (mg_7 (List.mem_of_getElem? (i := 128) rfl) rfl) (mg_7 (List.mem_of_getElem? (i := 130) rfl) rfl) (mg_p (List.mem_of_getElem? (i := 54) rfl) rfl) rfl c_X12_refuse (b_X12_neighbours_25)))) (sx_aload_n dX12_neighbours_8 rfl (sx_aload_n dX12_neighbours_9 rfl (sx_iload_n dX12_neighbours_10 rfl (sx_vcall dX12_neighbours_11 cf_X12_nearTo (mg_8 (List.mem_of_getElem? (i := 81) rfl) rfl) (mg_8 (List.mem_of_getElem? (i := 83) rfl) rfl) (mg_p (List.mem_of_getElem? (i := 91) rfl) rfl) rfl c_X12_nearTo (sx_vcall dX12_neighbours_14 cf_X12_gives (mg_7 (List.mem_of_getElem? (i := 204) rfl) rfl) (mg_7 (List.mem_of_getElem? (i := 206) rfl) rfl) (mg_p (List.mem_of_getElem? (i := 72) rfl) rfl) rfl c_X12_gives (sx_goto 25 dX12_neighbours_17 (by decide) (b_X12_neighbours_25))))))))))
def sp_X12_neighbours (G : GT) : Sp := fun as S I J z Q => match as with
  | [.ref a0, .int a1] => B_X12_neighbours_0 G 0 0 Q [some (.ref a0), some (.int a1)] [] S I J z 0 0
  | _ => False
theorem c_X12_neighbours {l : Launch} {G : GT} {D : Nat} : ∀ as S I J z Q, sp_X12_neighbours G as S I J z Q → fqCall l G M_X12_neighbours (D + 5) 0 0 as S I J z Q := by
  intro as S I J z Q h
  unfold sp_X12_neighbours at h
  split at h
  · exact fq_enter _ (by decide +kernel) (Nat.le_of_ble_eq_true rfl) rfl (b_X12_neighbours_0 _ _ _ _ _ _ _ _ h)
  · exact h.elim
theorem dX12_say_0 : decode cX12_say 0 = .ok (.aload_n 0, 1) := by decide +kernel
theorem dX12_say_1 : decode cX12_say 1 = .ok (.iload_n 1, 1) := by decide +kernel
theorem dX12_say_2 : decode cX12_say 2 = .ok (.iload_n 2, 1) := by decide +kernel
theorem dX12_say_3 : decode cX12_say 3 = .ok (.invokevirtual 286, 3) := by decide +kernel
theorem dX12_say_6 : decode cX12_say 6 = .ok (.ifCond .ne 11, 3) := by decide +kernel
theorem dX12_say_9 : decode cX12_say 9 = .ok (.aload_n 0, 1) := by decide +kernel
theorem dX12_say_10 : decode cX12_say 10 = .ok (.iconst 1, 1) := by decide +kernel
theorem dX12_say_11 : decode cX12_say 11 = .ok (.invokevirtual 75, 3) := by decide +kernel
theorem dX12_say_14 : decode cX12_say 14 = .ok (.goto 31, 3) := by decide +kernel
theorem dX12_say_17 : decode cX12_say 17 = .ok (.aload_n 0, 1) := by decide +kernel
theorem dX12_say_18 : decode cX12_say 18 = .ok (.iload_n 1, 1) := by decide +kernel
theorem dX12_say_19 : decode cX12_say 19 = .ok (.iload_n 2, 1) := by decide +kernel
theorem dX12_say_20 : decode cX12_say 20 = .ok (.invokevirtual 289, 3) := by decide +kernel
theorem dX12_say_23 : decode cX12_say 23 = .ok (.ifCond .eq 16, 3) := by decide +kernel
theorem dX12_say_26 : decode cX12_say 26 = .ok (.aload_n 0, 1) := by decide +kernel
theorem dX12_say_27 : decode cX12_say 27 = .ok (.aload_n 0, 1) := by decide +kernel
theorem dX12_say_28 : decode cX12_say 28 = .ok (.iload_n 1, 1) := by decide +kernel
theorem dX12_say_29 : decode cX12_say 29 = .ok (.iload_n 2, 1) := by decide +kernel
theorem dX12_say_30 : decode cX12_say 30 = .ok (.invokevirtual 315, 3) := by decide +kernel
theorem dX12_say_33 : decode cX12_say 33 = .ok (.invokevirtual 79, 3) := by decide +kernel
theorem dX12_say_36 : decode cX12_say 36 = .ok (.goto 9, 3) := by decide +kernel
theorem dX12_say_39 : decode cX12_say 39 = .ok (.aload_n 0, 1) := by decide +kernel
theorem dX12_say_40 : decode cX12_say 40 = .ok (.bipush 7, 2) := by decide +kernel
theorem dX12_say_42 : decode cX12_say 42 = .ok (.invokevirtual 75, 3) := by decide +kernel
theorem dX12_say_45 : decode cX12_say 45 = .ok (.ireturn, 1) := by decide +kernel
abbrev M_X12_say : MT := (yX12_say, cX12_say, 3, (some .int))
theorem cf_X12_say : fq_cf M_X12_say 2 := ⟨(mg_1 (List.mem_of_getElem? (i := 15) rfl) rfl), (mg_8 (List.mem_of_getElem? (i := 88) rfl) rfl), ⟨by decide, by decide, by decide +kernel⟩, by decide⟩
def B_X12_say_45 (G : GT) (mc ms : Nat) (Q : Post) : Cn := ix_iret mc ms Q
theorem b_X12_say_45 {l : Launch} {G : GT} {D mc ms : Nat} {Q : Post} : Imp l G M_X12_say (D + 5) mc ms Q (B_X12_say_45 G mc ms Q) 45 := sx_iret dX12_say_45 rfl
def B_X12_say_0 (G : GT) (mc ms : Nat) (Q : Post) : Cn := ix_aload 0 (ix_iload 1 (ix_iload 2 (ix_vcall 12 3 0 0 mc ms (sp_X12_areTwo G) (ix_if_ne (ix_aload 0 (ix_iload 1 (ix_iload 2 (ix_vcall 12 3 0 0 mc ms (sp_X12_areNear G) (ix_if_eq (ix_aload 0 (ix_pushI 7 (ix_vcall 12 2 0 0 mc ms (sp_X12_refuse G) ((B_X12_say_45 G mc ms Q))))) (ix_aload 0 (ix_aload 0 (ix_iload 1 (ix_iload 2 (ix_vcall 12 3 0 0 mc ms (sp_X12_says G) (ix_vcall 12 2 0 0 mc ms (sp_X12_gives G) ((B_X12_say_45 G mc ms Q))))))))))))) (ix_aload 0 (ix_pushI 1 (ix_vcall 12 2 0 0 mc ms (sp_X12_refuse G) ((B_X12_say_45 G mc ms Q)))))))))
theorem b_X12_say_0 {l : Launch} {G : GT} {D mc ms : Nat} {Q : Post} : Imp l G M_X12_say (D + 5) mc ms Q (B_X12_say_0 G mc ms Q) 0 := sx_aload_n dX12_say_0 rfl (sx_iload_n dX12_say_1 rfl (sx_iload_n dX12_say_2 rfl (sx_vcall dX12_say_3 cf_X12_areTwo (mg_8 (List.mem_of_getElem? (i := 65) rfl) rfl) (mg_8 (List.mem_of_getElem? (i := 67) rfl) rfl) (mg_p (List.mem_of_getElem? (i := 88) rfl) rfl) rfl c_X12_areTwo (sx_if_ne 17 dX12_say_6 (by decide) (sx_aload_n dX12_say_17 rfl (sx_iload_n dX12_say_18 rfl (sx_iload_n dX12_say_19 rfl (sx_vcall dX12_say_20 cf_X12_areNear (mg_8 (List.mem_of_getElem? (i := 69) rfl) rfl) (mg_8 (List.mem_of_getElem? (i := 71) rfl) rfl) (mg_p (List.mem_of_getElem? (i := 89) rfl) rfl) rfl c_X12_areNear (sx_if_eq 39 dX12_say_23 (by decide) (sx_aload_n dX12_say_39 rfl (sx_bipush dX12_say_40 rfl (sx_vcall dX12_say_42 cf_X12_refuse (mg_7 (List.mem_of_getElem? (i := 128) rfl) rfl) (mg_7 (List.mem_of_getElem? (i := 130) rfl) rfl) (mg_p (List.mem_of_getElem? (i := 54) rfl) rfl) rfl c_X12_refuse (b_X12_say_45)))) (sx_aload_n dX12_say_26 rfl (sx_aload_n dX12_say_27 rfl (sx_iload_n dX12_say_28 rfl (sx_iload_n dX12_say_29 rfl (sx_vcall dX12_say_30 cf_X12_says (mg_8 (List.mem_of_getElem? (i := 89) rfl) rfl) (mg_8 (List.mem_of_getElem? (i := 91) rfl) rfl) (mg_p (List.mem_of_getElem? (i := 92) rfl) rfl) rfl c_X12_says (sx_vcall dX12_say_33 cf_X12_gives (mg_7 (List.mem_of_getElem? (i := 204) rfl) rfl) (mg_7 (List.mem_of_getElem? (i := 206) rfl) rfl) (mg_p (List.mem_of_getElem? (i := 72) rfl) rfl) rfl c_X12_gives (sx_goto 45 dX12_say_36 (by decide) (b_X12_say_45))))))))))))) (sx_aload_n dX12_say_9 rfl (sx_iconst dX12_say_10 rfl (sx_vcall dX12_say_11 cf_X12_refuse (mg_7 (List.mem_of_getElem? (i := 128) rfl) rfl) (mg_7 (List.mem_of_getElem? (i := 130) rfl) rfl) (mg_p (List.mem_of_getElem? (i := 54) rfl) rfl) rfl c_X12_refuse (sx_goto 45 dX12_say_14 (by decide) (b_X12_say_45)))))))))
def sp_X12_say (G : GT) : Sp := fun as S I J z Q => match as with
  | [.ref a0, .int a1, .int a2] => B_X12_say_0 G 0 0 Q [some (.ref a0), some (.int a1), some (.int a2)] [] S I J z 0 0
  | _ => False
theorem c_X12_say {l : Launch} {G : GT} {D : Nat} : ∀ as S I J z Q, sp_X12_say G as S I J z Q → fqCall l G M_X12_say (D + 5) 0 0 as S I J z Q := by
  intro as S I J z Q h
  unfold sp_X12_say at h
  split at h
  · exact fq_enter _ (by decide +kernel) (Nat.le_of_ble_eq_true rfl) rfl (b_X12_say_0 _ _ _ _ _ _ _ _ h)
  · exact h.elim
theorem dX12_sorry_0 : decode cX12_sorry 0 = .ok (.aload_n 0, 1) := by decide +kernel
theorem dX12_sorry_1 : decode cX12_sorry 1 = .ok (.iload_n 1, 1) := by decide +kernel
theorem dX12_sorry_2 : decode cX12_sorry 2 = .ok (.invokevirtual 280, 3) := by decide +kernel
theorem dX12_sorry_5 : decode cX12_sorry 5 = .ok (.ifCond .ne 11, 3) := by decide +kernel
theorem dX12_sorry_8 : decode cX12_sorry 8 = .ok (.aload_n 0, 1) := by decide +kernel
theorem dX12_sorry_9 : decode cX12_sorry 9 = .ok (.iconst 1, 1) := by decide +kernel
theorem dX12_sorry_10 : decode cX12_sorry 10 = .ok (.invokevirtual 75, 3) := by decide +kernel
theorem dX12_sorry_13 : decode cX12_sorry 13 = .ok (.goto 29, 3) := by decide +kernel
theorem dX12_sorry_16 : decode cX12_sorry 16 = .ok (.aload_n 0, 1) := by decide +kernel
theorem dX12_sorry_17 : decode cX12_sorry 17 = .ok (.iload_n 1, 1) := by decide +kernel
theorem dX12_sorry_18 : decode cX12_sorry 18 = .ok (.invokevirtual 318, 3) := by decide +kernel
theorem dX12_sorry_21 : decode cX12_sorry 21 = .ok (.ifCond .eq 15, 3) := by decide +kernel
theorem dX12_sorry_24 : decode cX12_sorry 24 = .ok (.aload_n 0, 1) := by decide +kernel
theorem dX12_sorry_25 : decode cX12_sorry 25 = .ok (.aload_n 0, 1) := by decide +kernel
theorem dX12_sorry_26 : decode cX12_sorry 26 = .ok (.iload_n 1, 1) := by decide +kernel
theorem dX12_sorry_27 : decode cX12_sorry 27 = .ok (.invokevirtual 321, 3) := by decide +kernel
theorem dX12_sorry_30 : decode cX12_sorry 30 = .ok (.invokevirtual 79, 3) := by decide +kernel
theorem dX12_sorry_33 : decode cX12_sorry 33 = .ok (.goto 9, 3) := by decide +kernel
theorem dX12_sorry_36 : decode cX12_sorry 36 = .ok (.aload_n 0, 1) := by decide +kernel
theorem dX12_sorry_37 : decode cX12_sorry 37 = .ok (.bipush 7, 2) := by decide +kernel
theorem dX12_sorry_39 : decode cX12_sorry 39 = .ok (.invokevirtual 75, 3) := by decide +kernel
theorem dX12_sorry_42 : decode cX12_sorry 42 = .ok (.ireturn, 1) := by decide +kernel
abbrev M_X12_sorry : MT := (yX12_sorry, cX12_sorry, 2, (some .int))
theorem cf_X12_sorry : fq_cf M_X12_sorry 1 := ⟨(mg_1 (List.mem_of_getElem? (i := 15) rfl) rfl), (mg_8 (List.mem_of_getElem? (i := 117) rfl) rfl), ⟨by decide, by decide, by decide +kernel⟩, by decide⟩
def B_X12_sorry_42 (G : GT) (mc ms : Nat) (Q : Post) : Cn := ix_iret mc ms Q
theorem b_X12_sorry_42 {l : Launch} {G : GT} {D mc ms : Nat} {Q : Post} : Imp l G M_X12_sorry (D + 4) mc ms Q (B_X12_sorry_42 G mc ms Q) 42 := sx_iret dX12_sorry_42 rfl
def B_X12_sorry_0 (G : GT) (mc ms : Nat) (Q : Post) : Cn := ix_aload 0 (ix_iload 1 (ix_vcall 12 2 0 0 mc ms (sp_X12_isQuarrel G) (ix_if_ne (ix_aload 0 (ix_iload 1 (ix_vcall 12 2 0 0 mc ms (sp_X12_canHalve G) (ix_if_eq (ix_aload 0 (ix_pushI 7 (ix_vcall 12 2 0 0 mc ms (sp_X12_refuse G) ((B_X12_sorry_42 G mc ms Q))))) (ix_aload 0 (ix_aload 0 (ix_iload 1 (ix_vcall 12 2 0 0 mc ms (sp_X12_halves G) (ix_vcall 12 2 0 0 mc ms (sp_X12_gives G) ((B_X12_sorry_42 G mc ms Q))))))))))) (ix_aload 0 (ix_pushI 1 (ix_vcall 12 2 0 0 mc ms (sp_X12_refuse G) ((B_X12_sorry_42 G mc ms Q))))))))
theorem b_X12_sorry_0 {l : Launch} {G : GT} {D mc ms : Nat} {Q : Post} : Imp l G M_X12_sorry (D + 4) mc ms Q (B_X12_sorry_0 G mc ms Q) 0 := sx_aload_n dX12_sorry_0 rfl (sx_iload_n dX12_sorry_1 rfl (sx_vcall dX12_sorry_2 cf_X12_isQuarrel (mg_8 (List.mem_of_getElem? (i := 54) rfl) rfl) (mg_8 (List.mem_of_getElem? (i := 56) rfl) rfl) (mg_p (List.mem_of_getElem? (i := 87) rfl) rfl) rfl c_X12_isQuarrel (sx_if_ne 16 dX12_sorry_5 (by decide) (sx_aload_n dX12_sorry_16 rfl (sx_iload_n dX12_sorry_17 rfl (sx_vcall dX12_sorry_18 cf_X12_canHalve (mg_8 (List.mem_of_getElem? (i := 118) rfl) rfl) (mg_8 (List.mem_of_getElem? (i := 120) rfl) rfl) (mg_p (List.mem_of_getElem? (i := 98) rfl) rfl) rfl c_X12_canHalve (sx_if_eq 36 dX12_sorry_21 (by decide) (sx_aload_n dX12_sorry_36 rfl (sx_bipush dX12_sorry_37 rfl (sx_vcall dX12_sorry_39 cf_X12_refuse (mg_7 (List.mem_of_getElem? (i := 128) rfl) rfl) (mg_7 (List.mem_of_getElem? (i := 130) rfl) rfl) (mg_p (List.mem_of_getElem? (i := 54) rfl) rfl) rfl c_X12_refuse (b_X12_sorry_42)))) (sx_aload_n dX12_sorry_24 rfl (sx_aload_n dX12_sorry_25 rfl (sx_iload_n dX12_sorry_26 rfl (sx_vcall dX12_sorry_27 cf_X12_halves (mg_8 (List.mem_of_getElem? (i := 122) rfl) rfl) (mg_8 (List.mem_of_getElem? (i := 124) rfl) rfl) (mg_p (List.mem_of_getElem? (i := 99) rfl) rfl) rfl c_X12_halves (sx_vcall dX12_sorry_30 cf_X12_gives (mg_7 (List.mem_of_getElem? (i := 204) rfl) rfl) (mg_7 (List.mem_of_getElem? (i := 206) rfl) rfl) (mg_p (List.mem_of_getElem? (i := 72) rfl) rfl) rfl c_X12_gives (sx_goto 42 dX12_sorry_33 (by decide) (b_X12_sorry_42))))))))))) (sx_aload_n dX12_sorry_8 rfl (sx_iconst dX12_sorry_9 rfl (sx_vcall dX12_sorry_10 cf_X12_refuse (mg_7 (List.mem_of_getElem? (i := 128) rfl) rfl) (mg_7 (List.mem_of_getElem? (i := 130) rfl) rfl) (mg_p (List.mem_of_getElem? (i := 54) rfl) rfl) rfl c_X12_refuse (sx_goto 42 dX12_sorry_13 (by decide) (b_X12_sorry_42))))))))
def sp_X12_sorry (G : GT) : Sp := fun as S I J z Q => match as with
  | [.ref a0, .int a1] => B_X12_sorry_0 G 0 0 Q [some (.ref a0), some (.int a1)] [] S I J z 0 0
  | _ => False
theorem c_X12_sorry {l : Launch} {G : GT} {D : Nat} : ∀ as S I J z Q, sp_X12_sorry G as S I J z Q → fqCall l G M_X12_sorry (D + 4) 0 0 as S I J z Q := by
  intro as S I J z Q h
  unfold sp_X12_sorry at h
  split at h
  · exact fq_enter _ (by decide +kernel) (Nat.le_of_ble_eq_true rfl) rfl (b_X12_sorry_0 _ _ _ _ _ _ _ _ h)
  · exact h.elim
theorem dX12_night_0 : decode cX12_night 0 = .ok (.iload_n 1, 1) := by decide +kernel
theorem dX12_night_1 : decode cX12_night 1 = .ok (.i2l, 1) := by decide +kernel
theorem dX12_night_2 : decode cX12_night 2 = .ok (.lconst 1, 1) := by decide +kernel
theorem dX12_night_3 : decode cX12_night 3 = .ok (.ldc2_w 327, 3) := by decide +kernel
theorem dX12_night_6 : decode cX12_night 6 = .ok (.invokestatic 329, 3) := by decide +kernel
theorem dX12_night_9 : decode cX12_night 9 = .ok (.ifCond .ne 9, 3) := by decide +kernel
theorem dX12_night_12 : decode cX12_night 12 = .ok (.aload_n 0, 1) := by decide +kernel
theorem dX12_night_13 : decode cX12_night 13 = .ok (.iconst 1, 1) := by decide +kernel
theorem dX12_night_14 : decode cX12_night 14 = .ok (.invokevirtual 75, 3) := by decide +kernel
theorem dX12_night_17 : decode cX12_night 17 = .ok (.ireturn, 1) := by decide +kernel
theorem dX12_night_18 : decode cX12_night 18 = .ok (.aload_n 0, 1) := by decide +kernel
theorem dX12_night_19 : decode cX12_night 19 = .ok (.getfield 7, 3) := by decide +kernel
theorem dX12_night_22 : decode cX12_night 22 = .ok (.bipush 6, 2) := by decide +kernel
theorem dX12_night_24 : decode cX12_night 24 = .ok (.iaload, 1) := by decide +kernel
theorem dX12_night_25 : decode cX12_night 25 = .ok (.iload_n 1, 1) := by decide +kernel
theorem dX12_night_26 : decode cX12_night 26 = .ok (.iadd, 1) := by decide +kernel
theorem dX12_night_27 : decode cX12_night 27 = .ok (.sipush 9999, 3) := by decide +kernel
theorem dX12_night_30 : decode cX12_night 30 = .ok (.if_icmp .le 9, 3) := by decide +kernel
theorem dX12_night_33 : decode cX12_night 33 = .ok (.aload_n 0, 1) := by decide +kernel
theorem dX12_night_34 : decode cX12_night 34 = .ok (.iconst 4, 1) := by decide +kernel
theorem dX12_night_35 : decode cX12_night 35 = .ok (.invokevirtual 75, 3) := by decide +kernel
theorem dX12_night_38 : decode cX12_night 38 = .ok (.ireturn, 1) := by decide +kernel
theorem dX12_night_39 : decode cX12_night 39 = .ok (.aload_n 0, 1) := by decide +kernel
theorem dX12_night_40 : decode cX12_night 40 = .ok (.iload_n 1, 1) := by decide +kernel
theorem dX12_night_41 : decode cX12_night 41 = .ok (.invokevirtual 333, 3) := by decide +kernel
theorem dX12_night_44 : decode cX12_night 44 = .ok (.aload_n 0, 1) := by decide +kernel
theorem dX12_night_45 : decode cX12_night 45 = .ok (.aload_n 0, 1) := by decide +kernel
theorem dX12_night_46 : decode cX12_night 46 = .ok (.bipush 8, 2) := by decide +kernel
theorem dX12_night_48 : decode cX12_night 48 = .ok (.invokevirtual 265, 3) := by decide +kernel
theorem dX12_night_51 : decode cX12_night 51 = .ok (.invokevirtual 79, 3) := by decide +kernel
theorem dX12_night_54 : decode cX12_night 54 = .ok (.ireturn, 1) := by decide +kernel
abbrev M_X12_night : MT := (yX12_night, cX12_night, 2, (some .int))
theorem cf_X12_night : fq_cf M_X12_night 1 := ⟨(mg_1 (List.mem_of_getElem? (i := 15) rfl) rfl), (mg_8 (List.mem_of_getElem? (i := 129) rfl) rfl), ⟨by decide, by decide, by decide +kernel⟩, by decide⟩
def B_X12_night_0 (G : GT) (mc ms : Nat) (Q : Post) : Cn := ix_iload 1 (ix_i2l (ix_pushL 1 (ix_pushL 99 (ix_call 3 0 0 mc ms (sp_X12_isFrom G) (ix_if_ne (ix_aload 0 (ix_getR 12 0 (ix_pushI 6 (ix_iald (ix_iload 1 (ix_iadd (ix_pushI 9999 (ix_icmp_le (ix_aload 0 (ix_iload 1 (ix_vcall 12 2 0 0 mc ms (sp_X12_nights G) (ix_aload 0 (ix_aload 0 (ix_pushI 8 (ix_vcall 12 2 0 0 mc ms (sp_X12_setOf G) (ix_vcall 12 2 0 0 mc ms (sp_X12_gives G) (ix_iret mc ms Q))))))))) (ix_aload 0 (ix_pushI 4 (ix_vcall 12 2 0 0 mc ms (sp_X12_refuse G) (ix_iret mc ms Q)))))))))))) (ix_aload 0 (ix_pushI 1 (ix_vcall 12 2 0 0 mc ms (sp_X12_refuse G) (ix_iret mc ms Q)))))))))
theorem b_X12_night_0 {l : Launch} {G : GT} {D mc ms : Nat} {Q : Post} : Imp l G M_X12_night (D + 4) mc ms Q (B_X12_night_0 G mc ms Q) 0 := sx_iload_n dX12_night_0 rfl (sx_i2l dX12_night_1 (sx_lconst dX12_night_2 rfl (sx_ldc2 dX12_night_3 (mg_8 (List.mem_of_getElem? (i := 130) rfl) rfl) (sx_scall dX12_night_6 cf_X12_isFrom (mg_8 (List.mem_of_getElem? (i := 131) rfl) rfl) (mg_8 (List.mem_of_getElem? (i := 132) rfl) rfl) c_X12_isFrom (sx_if_ne 18 dX12_night_9 (by decide) (sx_aload_n dX12_night_18 rfl (sx_getR dX12_night_19 fl_FootQuarrelModel_7 (fun _ _ _ => rfl) (sx_bipush dX12_night_22 rfl (sx_iald dX12_night_24 (sx_iload_n dX12_night_25 rfl (sx_iadd dX12_night_26 (sx_sipush dX12_night_27 rfl (sx_icmp_le 39 dX12_night_30 (by decide) (sx_aload_n dX12_night_39 rfl (sx_iload_n dX12_night_40 rfl (sx_vcall dX12_night_41 cf_X12_nights (mg_8 (List.mem_of_getElem? (i := 134) rfl) rfl) (mg_8 (List.mem_of_getElem? (i := 136) rfl) rfl) (mg_p (List.mem_of_getElem? (i := 100) rfl) rfl) rfl c_X12_nights (sx_aload_n dX12_night_44 rfl (sx_aload_n dX12_night_45 rfl (sx_bipush dX12_night_46 rfl (sx_vcall dX12_night_48 cf_X12_setOf (mg_7 (List.mem_of_getElem? (i := 236) rfl) rfl) (mg_7 (List.mem_of_getElem? (i := 238) rfl) rfl) (mg_p (List.mem_of_getElem? (i := 78) rfl) rfl) rfl c_X12_setOf (sx_vcall dX12_night_51 cf_X12_gives (mg_7 (List.mem_of_getElem? (i := 204) rfl) rfl) (mg_7 (List.mem_of_getElem? (i := 206) rfl) rfl) (mg_p (List.mem_of_getElem? (i := 72) rfl) rfl) rfl c_X12_gives (sx_iret dX12_night_54 rfl))))))))) (sx_aload_n dX12_night_33 rfl (sx_iconst dX12_night_34 rfl (sx_vcall dX12_night_35 cf_X12_refuse (mg_7 (List.mem_of_getElem? (i := 128) rfl) rfl) (mg_7 (List.mem_of_getElem? (i := 130) rfl) rfl) (mg_p (List.mem_of_getElem? (i := 54) rfl) rfl) rfl c_X12_refuse (sx_iret dX12_night_38 rfl)))))))))))) (sx_aload_n dX12_night_12 rfl (sx_iconst dX12_night_13 rfl (sx_vcall dX12_night_14 cf_X12_refuse (mg_7 (List.mem_of_getElem? (i := 128) rfl) rfl) (mg_7 (List.mem_of_getElem? (i := 130) rfl) rfl) (mg_p (List.mem_of_getElem? (i := 54) rfl) rfl) rfl c_X12_refuse (sx_iret dX12_night_17 rfl)))))))))
def sp_X12_night (G : GT) : Sp := fun as S I J z Q => match as with
  | [.ref a0, .int a1] => B_X12_night_0 G 0 0 Q [some (.ref a0), some (.int a1)] [] S I J z 0 0
  | _ => False
theorem c_X12_night {l : Launch} {G : GT} {D : Nat} : ∀ as S I J z Q, sp_X12_night G as S I J z Q → fqCall l G M_X12_night (D + 4) 0 0 as S I J z Q := by
  intro as S I J z Q h
  unfold sp_X12_night at h
  split at h
  · exact fq_enter _ (by decide +kernel) (Nat.le_of_ble_eq_true rfl) rfl (b_X12_night_0 _ _ _ _ _ _ _ _ h)
  · exact h.elim
theorem dX12_rain_0 : decode cX12_rain 0 = .ok (.aload_n 0, 1) := by decide +kernel
theorem dX12_rain_1 : decode cX12_rain 1 = .ok (.aload_n 0, 1) := by decide +kernel
theorem dX12_rain_2 : decode cX12_rain 2 = .ok (.iload_n 1, 1) := by decide +kernel
theorem dX12_rain_3 : decode cX12_rain 3 = .ok (.ifCond .eq 7, 3) := by decide +kernel
theorem dX12_rain_6 : decode cX12_rain 6 = .ok (.iconst 1, 1) := by decide +kernel
theorem dX12_rain_7 : decode cX12_rain 7 = .ok (.goto 4, 3) := by decide +kernel
theorem dX12_rain_10 : decode cX12_rain 10 = .ok (.iconst 0, 1) := by decide +kernel
theorem dX12_rain_11 : decode cX12_rain 11 = .ok (.invokevirtual 336, 3) := by decide +kernel
theorem dX12_rain_14 : decode cX12_rain 14 = .ok (.ifCond .eq 7, 3) := by decide +kernel
theorem dX12_rain_17 : decode cX12_rain 17 = .ok (.iconst 0, 1) := by decide +kernel
theorem dX12_rain_18 : decode cX12_rain 18 = .ok (.goto 5, 3) := by decide +kernel
theorem dX12_rain_21 : decode cX12_rain 21 = .ok (.bipush 7, 2) := by decide +kernel
theorem dX12_rain_23 : decode cX12_rain 23 = .ok (.invokevirtual 82, 3) := by decide +kernel
theorem dX12_rain_26 : decode cX12_rain 26 = .ok (.ireturn, 1) := by decide +kernel
abbrev M_X12_rain : MT := (yX12_rain, cX12_rain, 2, (some .boolean))
theorem cf_X12_rain : fq_cf M_X12_rain 1 := ⟨(mg_1 (List.mem_of_getElem? (i := 15) rfl) rfl), (mg_8 (List.mem_of_getElem? (i := 145) rfl) rfl), ⟨by decide, by decide, by decide +kernel⟩, by decide⟩
def B_X12_rain_23 (G : GT) (mc ms : Nat) (Q : Post) : Cn := ix_vcall 12 2 0 0 mc ms (sp_X12_is G) (ix_zret mc ms Q)
theorem b_X12_rain_23 {l : Launch} {G : GT} {D mc ms : Nat} {Q : Post} : Imp l G M_X12_rain (D + 1) mc ms Q (B_X12_rain_23 G mc ms Q) 23 := sx_vcall dX12_rain_23 cf_X12_is (mg_7 (List.mem_of_getElem? (i := 68) rfl) rfl) (mg_7 (List.mem_of_getElem? (i := 70) rfl) rfl) (mg_p (List.mem_of_getElem? (i := 48) rfl) rfl) rfl c_X12_is (sx_zret dX12_rain_26 rfl)
def B_X12_rain_11 (G : GT) (mc ms : Nat) (Q : Post) : Cn := ix_vcall 12 2 0 0 mc ms (sp_X12_isWeather G) (ix_if_eq (ix_pushI 7 ((B_X12_rain_23 G mc ms Q))) (ix_pushI 0 ((B_X12_rain_23 G mc ms Q))))
theorem b_X12_rain_11 {l : Launch} {G : GT} {D mc ms : Nat} {Q : Post} : Imp l G M_X12_rain (D + 1) mc ms Q (B_X12_rain_11 G mc ms Q) 11 := sx_vcall dX12_rain_11 cf_X12_isWeather (mg_8 (List.mem_of_getElem? (i := 146) rfl) rfl) (mg_8 (List.mem_of_getElem? (i := 148) rfl) rfl) (mg_p (List.mem_of_getElem? (i := 102) rfl) rfl) rfl c_X12_isWeather (sx_if_eq 21 dX12_rain_14 (by decide) (sx_bipush dX12_rain_21 rfl (b_X12_rain_23)) (sx_iconst dX12_rain_17 rfl (sx_goto 23 dX12_rain_18 (by decide) (b_X12_rain_23))))
def B_X12_rain_0 (G : GT) (mc ms : Nat) (Q : Post) : Cn := ix_aload 0 (ix_aload 0 (ix_iload 1 (ix_if_eq (ix_pushI 0 ((B_X12_rain_11 G mc ms Q))) (ix_pushI 1 ((B_X12_rain_11 G mc ms Q))))))
theorem b_X12_rain_0 {l : Launch} {G : GT} {D mc ms : Nat} {Q : Post} : Imp l G M_X12_rain (D + 1) mc ms Q (B_X12_rain_0 G mc ms Q) 0 := sx_aload_n dX12_rain_0 rfl (sx_aload_n dX12_rain_1 rfl (sx_iload_n dX12_rain_2 rfl (sx_if_eq 10 dX12_rain_3 (by decide) (sx_iconst dX12_rain_10 rfl (b_X12_rain_11)) (sx_iconst dX12_rain_6 rfl (sx_goto 11 dX12_rain_7 (by decide) (b_X12_rain_11))))))
def sp_X12_rain (G : GT) : Sp := fun as S I J z Q => match as with
  | [.ref a0, .int a1] => B_X12_rain_0 G 0 0 Q [some (.ref a0), some (.int a1)] [] S I J z 0 0
  | _ => False
theorem c_X12_rain {l : Launch} {G : GT} {D : Nat} : ∀ as S I J z Q, sp_X12_rain G as S I J z Q → fqCall l G M_X12_rain (D + 1) 0 0 as S I J z Q := by
  intro as S I J z Q h
  unfold sp_X12_rain at h
  split at h
  · exact fq_enter _ (by decide +kernel) (Nat.le_of_ble_eq_true rfl) rfl (b_X12_rain_0 _ _ _ _ _ _ _ _ h)
  · exact h.elim
theorem dX12_peace_0 : decode cX12_peace 0 = .ok (.aload_n 0, 1) := by decide +kernel
theorem dX12_peace_1 : decode cX12_peace 1 = .ok (.iload_n 1, 1) := by decide +kernel
theorem dX12_peace_2 : decode cX12_peace 2 = .ok (.invokevirtual 274, 3) := by decide +kernel
theorem dX12_peace_5 : decode cX12_peace 5 = .ok (.ifCond .ne 9, 3) := by decide +kernel
theorem dX12_peace_8 : decode cX12_peace 8 = .ok (.aload_n 0, 1) := by decide +kernel
theorem dX12_peace_9 : decode cX12_peace 9 = .ok (.iconst 1, 1) := by decide +kernel
theorem dX12_peace_10 : decode cX12_peace 10 = .ok (.invokevirtual 82, 3) := by decide +kernel
theorem dX12_peace_13 : decode cX12_peace 13 = .ok (.ireturn, 1) := by decide +kernel
theorem dX12_peace_14 : decode cX12_peace 14 = .ok (.aload_n 0, 1) := by decide +kernel
theorem dX12_peace_15 : decode cX12_peace 15 = .ok (.aload_n 0, 1) := by decide +kernel
theorem dX12_peace_16 : decode cX12_peace 16 = .ok (.getfield 7, 3) := by decide +kernel
theorem dX12_peace_19 : decode cX12_peace 19 = .ok (.bipush 8, 2) := by decide +kernel
theorem dX12_peace_21 : decode cX12_peace 21 = .ok (.iaload, 1) := by decide +kernel
theorem dX12_peace_22 : decode cX12_peace 22 = .ok (.iload_n 1, 1) := by decide +kernel
theorem dX12_peace_23 : decode cX12_peace 23 = .ok (.invokevirtual 259, 3) := by decide +kernel
theorem dX12_peace_26 : decode cX12_peace 26 = .ok (.iload_n 2, 1) := by decide +kernel
theorem dX12_peace_27 : decode cX12_peace 27 = .ok (.if_icmp .ne 10, 3) := by decide +kernel
theorem dX12_peace_30 : decode cX12_peace 30 = .ok (.aload_n 0, 1) := by decide +kernel
theorem dX12_peace_31 : decode cX12_peace 31 = .ok (.bipush 7, 2) := by decide +kernel
theorem dX12_peace_33 : decode cX12_peace 33 = .ok (.invokevirtual 82, 3) := by decide +kernel
theorem dX12_peace_36 : decode cX12_peace 36 = .ok (.ireturn, 1) := by decide +kernel
theorem dX12_peace_37 : decode cX12_peace 37 = .ok (.aload_n 0, 1) := by decide +kernel
theorem dX12_peace_38 : decode cX12_peace 38 = .ok (.getfield 7, 3) := by decide +kernel
theorem dX12_peace_41 : decode cX12_peace 41 = .ok (.bipush 8, 2) := by decide +kernel
theorem dX12_peace_43 : decode cX12_peace 43 = .ok (.dup2, 1) := by decide +kernel
theorem dX12_peace_44 : decode cX12_peace 44 = .ok (.iaload, 1) := by decide +kernel
theorem dX12_peace_45 : decode cX12_peace 45 = .ok (.iconst 1, 1) := by decide +kernel
theorem dX12_peace_46 : decode cX12_peace 46 = .ok (.iload_n 1, 1) := by decide +kernel
theorem dX12_peace_47 : decode cX12_peace 47 = .ok (.ishl, 1) := by decide +kernel
theorem dX12_peace_48 : decode cX12_peace 48 = .ok (.ixor, 1) := by decide +kernel
theorem dX12_peace_49 : decode cX12_peace 49 = .ok (.iastore, 1) := by decide +kernel
theorem dX12_peace_50 : decode cX12_peace 50 = .ok (.aload_n 0, 1) := by decide +kernel
theorem dX12_peace_51 : decode cX12_peace 51 = .ok (.iconst 0, 1) := by decide +kernel
theorem dX12_peace_52 : decode cX12_peace 52 = .ok (.invokevirtual 82, 3) := by decide +kernel
theorem dX12_peace_55 : decode cX12_peace 55 = .ok (.ireturn, 1) := by decide +kernel
abbrev M_X12_peace : MT := (yX12_peace, cX12_peace, 3, (some .boolean))
theorem cf_X12_peace : fq_cf M_X12_peace 2 := ⟨(mg_1 (List.mem_of_getElem? (i := 15) rfl) rfl), (mg_8 (List.mem_of_getElem? (i := 153) rfl) rfl), ⟨by decide, by decide, by decide +kernel⟩, by decide⟩
def B_X12_peace_0 (G : GT) (mc ms : Nat) (Q : Post) : Cn := ix_aload 0 (ix_iload 1 (ix_vcall 12 2 0 0 mc ms (sp_X12_isWall G) (ix_if_ne (ix_aload 0 (ix_aload 0 (ix_getR 12 0 (ix_pushI 8 (ix_iald (ix_iload 1 (ix_vcall 12 3 0 0 mc ms (sp_X12_isIn G) (ix_iload 2 (ix_icmp_ne (ix_aload 0 (ix_getR 12 0 (ix_pushI 8 (ix_dup2 (ix_iald (ix_pushI 1 (ix_iload 1 (ix_ishl (ix_ixor (ix_iast (ix_aload 0 (ix_pushI 0 (ix_vcall 12 2 0 0 mc ms (sp_X12_is G) (ix_zret mc ms Q)))))))))))))) (ix_aload 0 (ix_pushI 7 (ix_vcall 12 2 0 0 mc ms (sp_X12_is G) (ix_zret mc ms Q))))))))))))) (ix_aload 0 (ix_pushI 1 (ix_vcall 12 2 0 0 mc ms (sp_X12_is G) (ix_zret mc ms Q)))))))
theorem b_X12_peace_0 {l : Launch} {G : GT} {D mc ms : Nat} {Q : Post} : Imp l G M_X12_peace (D + 1) mc ms Q (B_X12_peace_0 G mc ms Q) 0 := sx_aload_n dX12_peace_0 rfl (sx_iload_n dX12_peace_1 rfl (sx_vcall dX12_peace_2 cf_X12_isWall (mg_8 (List.mem_of_getElem? (i := 34) rfl) rfl) (mg_8 (List.mem_of_getElem? (i := 36) rfl) rfl) (mg_p (List.mem_of_getElem? (i := 84) rfl) rfl) rfl c_X12_isWall (sx_if_ne 14 dX12_peace_5 (by decide) (sx_aload_n dX12_peace_14 rfl (sx_aload_n dX12_peace_15 rfl (sx_getR dX12_peace_16 fl_FootQuarrelModel_7 (fun _ _ _ => rfl) (sx_bipush dX12_peace_19 rfl (sx_iald dX12_peace_21 (sx_iload_n dX12_peace_22 rfl (sx_vcall dX12_peace_23 cf_X12_isIn (mg_8 (List.mem_of_getElem? (i := 73) rfl) rfl) (mg_8 (List.mem_of_getElem? (i := 75) rfl) rfl) (mg_p (List.mem_of_getElem? (i := 90) rfl) rfl) rfl c_X12_isIn (sx_iload_n dX12_peace_26 rfl (sx_icmp_ne 37 dX12_peace_27 (by decide) (sx_aload_n dX12_peace_37 rfl (sx_getR dX12_peace_38 fl_FootQuarrelModel_7 (fun _ _ _ => rfl) (sx_bipush dX12_peace_41 rfl (sx_dup2 dX12_peace_43 (sx_iald dX12_peace_44 (sx_iconst dX12_peace_45 rfl (sx_iload_n dX12_peace_46 rfl (sx_ishl dX12_peace_47 (sx_ixor dX12_peace_48 (sx_iast dX12_peace_49 (sx_aload_n dX12_peace_50 rfl (sx_iconst dX12_peace_51 rfl (sx_vcall dX12_peace_52 cf_X12_is (mg_7 (List.mem_of_getElem? (i := 68) rfl) rfl) (mg_7 (List.mem_of_getElem? (i := 70) rfl) rfl) (mg_p (List.mem_of_getElem? (i := 48) rfl) rfl) rfl c_X12_is (sx_zret dX12_peace_55 rfl)))))))))))))) (sx_aload_n dX12_peace_30 rfl (sx_bipush dX12_peace_31 rfl (sx_vcall dX12_peace_33 cf_X12_is (mg_7 (List.mem_of_getElem? (i := 68) rfl) rfl) (mg_7 (List.mem_of_getElem? (i := 70) rfl) rfl) (mg_p (List.mem_of_getElem? (i := 48) rfl) rfl) rfl c_X12_is (sx_zret dX12_peace_36 rfl))))))))))))) (sx_aload_n dX12_peace_8 rfl (sx_iconst dX12_peace_9 rfl (sx_vcall dX12_peace_10 cf_X12_is (mg_7 (List.mem_of_getElem? (i := 68) rfl) rfl) (mg_7 (List.mem_of_getElem? (i := 70) rfl) rfl) (mg_p (List.mem_of_getElem? (i := 48) rfl) rfl) rfl c_X12_is (sx_zret dX12_peace_13 rfl)))))))
def sp_X12_peace (G : GT) : Sp := fun as S I J z Q => match as with
  | [.ref a0, .int a1, .int a2] => B_X12_peace_0 G 0 0 Q [some (.ref a0), some (.int a1), some (.int a2)] [] S I J z 0 0
  | _ => False
theorem c_X12_peace {l : Launch} {G : GT} {D : Nat} : ∀ as S I J z Q, sp_X12_peace G as S I J z Q → fqCall l G M_X12_peace (D + 1) 0 0 as S I J z Q := by
  intro as S I J z Q h
  unfold sp_X12_peace at h
  split at h
  · exact fq_enter _ (by decide +kernel) (Nat.le_of_ble_eq_true rfl) rfl (b_X12_peace_0 _ _ _ _ _ _ _ _ h)
  · exact h.elim
theorem dX12_move_0 : decode cX12_move 0 = .ok (.aload_n 0, 1) := by decide +kernel
theorem dX12_move_1 : decode cX12_move 1 = .ok (.iload_n 1, 1) := by decide +kernel
theorem dX12_move_2 : decode cX12_move 2 = .ok (.invokevirtual 244, 3) := by decide +kernel
theorem dX12_move_5 : decode cX12_move 5 = .ok (.ifCond .eq 11, 3) := by decide +kernel
theorem dX12_move_8 : decode cX12_move 8 = .ok (.aload_n 0, 1) := by decide +kernel
theorem dX12_move_9 : decode cX12_move 9 = .ok (.iload_n 2, 1) := by decide +kernel
theorem dX12_move_10 : decode cX12_move 10 = .ok (.invokevirtual 268, 3) := by decide +kernel
theorem dX12_move_13 : decode cX12_move 13 = .ok (.ifCond .ne 9, 3) := by decide +kernel
theorem dX12_move_16 : decode cX12_move 16 = .ok (.aload_n 0, 1) := by decide +kernel
theorem dX12_move_17 : decode cX12_move 17 = .ok (.iconst 1, 1) := by decide +kernel
theorem dX12_move_18 : decode cX12_move 18 = .ok (.invokevirtual 75, 3) := by decide +kernel
theorem dX12_move_21 : decode cX12_move 21 = .ok (.ireturn, 1) := by decide +kernel
theorem dX12_move_22 : decode cX12_move 22 = .ok (.aload_n 0, 1) := by decide +kernel
theorem dX12_move_23 : decode cX12_move 23 = .ok (.iload_n 1, 1) := by decide +kernel
theorem dX12_move_24 : decode cX12_move 24 = .ok (.invokevirtual 256, 3) := by decide +kernel
theorem dX12_move_27 : decode cX12_move 27 = .ok (.istore_n 3, 1) := by decide +kernel
theorem dX12_move_28 : decode cX12_move 28 = .ok (.iload_n 3, 1) := by decide +kernel
theorem dX12_move_29 : decode cX12_move 29 = .ok (.iload_n 2, 1) := by decide +kernel
theorem dX12_move_30 : decode cX12_move 30 = .ok (.if_icmp .ne 10, 3) := by decide +kernel
theorem dX12_move_33 : decode cX12_move 33 = .ok (.aload_n 0, 1) := by decide +kernel
theorem dX12_move_34 : decode cX12_move 34 = .ok (.bipush 7, 2) := by decide +kernel
theorem dX12_move_36 : decode cX12_move 36 = .ok (.invokevirtual 75, 3) := by decide +kernel
theorem dX12_move_39 : decode cX12_move 39 = .ok (.ireturn, 1) := by decide +kernel
theorem dX12_move_40 : decode cX12_move 40 = .ok (.aload_n 0, 1) := by decide +kernel
theorem dX12_move_41 : decode cX12_move 41 = .ok (.getfield 7, 3) := by decide +kernel
theorem dX12_move_44 : decode cX12_move 44 = .ok (.iload_n 1, 1) := by decide +kernel
theorem dX12_move_45 : decode cX12_move 45 = .ok (.invokestatic 250, 3) := by decide +kernel
theorem dX12_move_48 : decode cX12_move 48 = .ok (.iload_n 2, 1) := by decide +kernel
theorem dX12_move_49 : decode cX12_move 49 = .ok (.iastore, 1) := by decide +kernel
theorem dX12_move_50 : decode cX12_move 50 = .ok (.aload_n 0, 1) := by decide +kernel
theorem dX12_move_51 : decode cX12_move 51 = .ok (.iload_n 3, 1) := by decide +kernel
theorem dX12_move_52 : decode cX12_move 52 = .ok (.invokevirtual 79, 3) := by decide +kernel
theorem dX12_move_55 : decode cX12_move 55 = .ok (.ireturn, 1) := by decide +kernel
abbrev M_X12_move : MT := (yX12_move, cX12_move, 4, (some .int))
theorem cf_X12_move : fq_cf M_X12_move 2 := ⟨(mg_1 (List.mem_of_getElem? (i := 15) rfl) rfl), (mg_8 (List.mem_of_getElem? (i := 157) rfl) rfl), ⟨by decide, by decide, by decide +kernel⟩, by decide⟩
def B_X12_move_16 (G : GT) (mc ms : Nat) (Q : Post) : Cn := ix_aload 0 (ix_pushI 1 (ix_vcall 12 2 0 0 mc ms (sp_X12_refuse G) (ix_iret mc ms Q)))
theorem b_X12_move_16 {l : Launch} {G : GT} {D mc ms : Nat} {Q : Post} : Imp l G M_X12_move (D + 3) mc ms Q (B_X12_move_16 G mc ms Q) 16 := sx_aload_n dX12_move_16 rfl (sx_iconst dX12_move_17 rfl (sx_vcall dX12_move_18 cf_X12_refuse (mg_7 (List.mem_of_getElem? (i := 128) rfl) rfl) (mg_7 (List.mem_of_getElem? (i := 130) rfl) rfl) (mg_p (List.mem_of_getElem? (i := 54) rfl) rfl) rfl c_X12_refuse (sx_iret dX12_move_21 rfl)))
def B_X12_move_0 (G : GT) (mc ms : Nat) (Q : Post) : Cn := ix_aload 0 (ix_iload 1 (ix_vcall 12 2 0 0 mc ms (sp_X12_isPerson G) (ix_if_eq ((B_X12_move_16 G mc ms Q)) (ix_aload 0 (ix_iload 2 (ix_vcall 12 2 0 0 mc ms (sp_X12_isHouse G) (ix_if_ne (ix_aload 0 (ix_iload 1 (ix_vcall 12 2 0 0 mc ms (sp_X12_homeOf G) (ix_istore 3 (ix_iload 3 (ix_iload 2 (ix_icmp_ne (ix_aload 0 (ix_getR 12 0 (ix_iload 1 (ix_call 1 0 0 mc ms (sp_X12_personRow G) (ix_iload 2 (ix_iast (ix_aload 0 (ix_iload 3 (ix_vcall 12 2 0 0 mc ms (sp_X12_gives G) (ix_iret mc ms Q)))))))))) (ix_aload 0 (ix_pushI 7 (ix_vcall 12 2 0 0 mc ms (sp_X12_refuse G) (ix_iret mc ms Q))))))))))) ((B_X12_move_16 G mc ms Q)))))))))
theorem b_X12_move_0 {l : Launch} {G : GT} {D mc ms : Nat} {Q : Post} : Imp l G M_X12_move (D + 3) mc ms Q (B_X12_move_0 G mc ms Q) 0 := sx_aload_n dX12_move_0 rfl (sx_iload_n dX12_move_1 rfl (sx_vcall dX12_move_2 cf_X12_isPerson (mg_8 (List.mem_of_getElem? (i := 46) rfl) rfl) (mg_8 (List.mem_of_getElem? (i := 48) rfl) rfl) (mg_p (List.mem_of_getElem? (i := 86) rfl) rfl) rfl c_X12_isPerson (sx_if_eq 16 dX12_move_5 (by decide) (b_X12_move_16) (sx_aload_n dX12_move_8 rfl (sx_iload_n dX12_move_9 rfl (sx_vcall dX12_move_10 cf_X12_isHouse (mg_8 (List.mem_of_getElem? (i := 18) rfl) rfl) (mg_8 (List.mem_of_getElem? (i := 20) rfl) rfl) (mg_p (List.mem_of_getElem? (i := 81) rfl) rfl) rfl c_X12_isHouse (sx_if_ne 22 dX12_move_13 (by decide) (sx_aload_n dX12_move_22 rfl (sx_iload_n dX12_move_23 rfl (sx_vcall dX12_move_24 cf_X12_homeOf (mg_8 (List.mem_of_getElem? (i := 26) rfl) rfl) (mg_8 (List.mem_of_getElem? (i := 28) rfl) rfl) (mg_p (List.mem_of_getElem? (i := 83) rfl) rfl) rfl c_X12_homeOf (sx_istore_n dX12_move_27 rfl (by decide) (sx_iload_n dX12_move_28 rfl (sx_iload_n dX12_move_29 rfl (sx_icmp_ne 40 dX12_move_30 (by decide) (sx_aload_n dX12_move_40 rfl (sx_getR dX12_move_41 fl_FootQuarrelModel_7 (fun _ _ _ => rfl) (sx_iload_n dX12_move_44 rfl (sx_scall dX12_move_45 cf_X12_personRow (mg_8 (List.mem_of_getElem? (i := 4) rfl) rfl) (mg_8 (List.mem_of_getElem? (i := 5) rfl) rfl) c_X12_personRow (sx_iload_n dX12_move_48 rfl (sx_iast dX12_move_49 (sx_aload_n dX12_move_50 rfl (sx_iload_n dX12_move_51 rfl (sx_vcall dX12_move_52 cf_X12_gives (mg_7 (List.mem_of_getElem? (i := 204) rfl) rfl) (mg_7 (List.mem_of_getElem? (i := 206) rfl) rfl) (mg_p (List.mem_of_getElem? (i := 72) rfl) rfl) rfl c_X12_gives (sx_iret dX12_move_55 rfl)))))))))) (sx_aload_n dX12_move_33 rfl (sx_bipush dX12_move_34 rfl (sx_vcall dX12_move_36 cf_X12_refuse (mg_7 (List.mem_of_getElem? (i := 128) rfl) rfl) (mg_7 (List.mem_of_getElem? (i := 130) rfl) rfl) (mg_p (List.mem_of_getElem? (i := 54) rfl) rfl) rfl c_X12_refuse (sx_iret dX12_move_39 rfl))))))))))) (b_X12_move_16))))))))
def sp_X12_move (G : GT) : Sp := fun as S I J z Q => match as with
  | [.ref a0, .int a1, .int a2] => B_X12_move_0 G 0 0 Q [some (.ref a0), some (.int a1), some (.int a2), none] [] S I J z 0 0
  | _ => False
theorem c_X12_move {l : Launch} {G : GT} {D : Nat} : ∀ as S I J z Q, sp_X12_move G as S I J z Q → fqCall l G M_X12_move (D + 3) 0 0 as S I J z Q := by
  intro as S I J z Q h
  unfold sp_X12_move at h
  split at h
  · exact fq_enter _ (by decide +kernel) (Nat.le_of_ble_eq_true rfl) rfl (b_X12_move_0 _ _ _ _ _ _ _ _ h)
  · exact h.elim
theorem dX12_rule_0 : decode cX12_rule 0 = .ok (.iload_n 1, 1) := by decide +kernel
theorem dX12_rule_1 : decode cX12_rule 1 = .ok (.i2l, 1) := by decide +kernel
theorem dX12_rule_2 : decode cX12_rule 2 = .ok (.lconst 1, 1) := by decide +kernel
theorem dX12_rule_3 : decode cX12_rule 3 = .ok (.ldc2_w 341, 3) := by decide +kernel
theorem dX12_rule_6 : decode cX12_rule 6 = .ok (.invokestatic 329, 3) := by decide +kernel
theorem dX12_rule_9 : decode cX12_rule 9 = .ok (.ifCond .ne 9, 3) := by decide +kernel
theorem dX12_rule_12 : decode cX12_rule 12 = .ok (.aload_n 0, 1) := by decide +kernel
theorem dX12_rule_13 : decode cX12_rule 13 = .ok (.iconst 1, 1) := by decide +kernel
theorem dX12_rule_14 : decode cX12_rule 14 = .ok (.invokevirtual 82, 3) := by decide +kernel
theorem dX12_rule_17 : decode cX12_rule 17 = .ok (.ireturn, 1) := by decide +kernel
theorem dX12_rule_18 : decode cX12_rule 18 = .ok (.aload_n 0, 1) := by decide +kernel
theorem dX12_rule_19 : decode cX12_rule 19 = .ok (.getfield 7, 3) := by decide +kernel
theorem dX12_rule_22 : decode cX12_rule 22 = .ok (.iconst 3, 1) := by decide +kernel
theorem dX12_rule_23 : decode cX12_rule 23 = .ok (.iload_n 1, 1) := by decide +kernel
theorem dX12_rule_24 : decode cX12_rule 24 = .ok (.iastore, 1) := by decide +kernel
theorem dX12_rule_25 : decode cX12_rule 25 = .ok (.aload_n 0, 1) := by decide +kernel
theorem dX12_rule_26 : decode cX12_rule 26 = .ok (.iconst 0, 1) := by decide +kernel
theorem dX12_rule_27 : decode cX12_rule 27 = .ok (.invokevirtual 82, 3) := by decide +kernel
theorem dX12_rule_30 : decode cX12_rule 30 = .ok (.ireturn, 1) := by decide +kernel
abbrev M_X12_rule : MT := (yX12_rule, cX12_rule, 2, (some .boolean))
theorem cf_X12_rule : fq_cf M_X12_rule 1 := ⟨(mg_1 (List.mem_of_getElem? (i := 15) rfl) rfl), (mg_8 (List.mem_of_getElem? (i := 170) rfl) rfl), ⟨by decide, by decide, by decide +kernel⟩, by decide⟩
def B_X12_rule_0 (G : GT) (mc ms : Nat) (Q : Post) : Cn := ix_iload 1 (ix_i2l (ix_pushL 1 (ix_pushL 9 (ix_call 3 0 0 mc ms (sp_X12_isFrom G) (ix_if_ne (ix_aload 0 (ix_getR 12 0 (ix_pushI 3 (ix_iload 1 (ix_iast (ix_aload 0 (ix_pushI 0 (ix_vcall 12 2 0 0 mc ms (sp_X12_is G) (ix_zret mc ms Q))))))))) (ix_aload 0 (ix_pushI 1 (ix_vcall 12 2 0 0 mc ms (sp_X12_is G) (ix_zret mc ms Q)))))))))
theorem b_X12_rule_0 {l : Launch} {G : GT} {D mc ms : Nat} {Q : Post} : Imp l G M_X12_rule (D + 1) mc ms Q (B_X12_rule_0 G mc ms Q) 0 := sx_iload_n dX12_rule_0 rfl (sx_i2l dX12_rule_1 (sx_lconst dX12_rule_2 rfl (sx_ldc2 dX12_rule_3 (mg_8 (List.mem_of_getElem? (i := 166) rfl) rfl) (sx_scall dX12_rule_6 cf_X12_isFrom (mg_8 (List.mem_of_getElem? (i := 131) rfl) rfl) (mg_8 (List.mem_of_getElem? (i := 132) rfl) rfl) c_X12_isFrom (sx_if_ne 18 dX12_rule_9 (by decide) (sx_aload_n dX12_rule_18 rfl (sx_getR dX12_rule_19 fl_FootQuarrelModel_7 (fun _ _ _ => rfl) (sx_iconst dX12_rule_22 rfl (sx_iload_n dX12_rule_23 rfl (sx_iast dX12_rule_24 (sx_aload_n dX12_rule_25 rfl (sx_iconst dX12_rule_26 rfl (sx_vcall dX12_rule_27 cf_X12_is (mg_7 (List.mem_of_getElem? (i := 68) rfl) rfl) (mg_7 (List.mem_of_getElem? (i := 70) rfl) rfl) (mg_p (List.mem_of_getElem? (i := 48) rfl) rfl) rfl c_X12_is (sx_zret dX12_rule_30 rfl))))))))) (sx_aload_n dX12_rule_12 rfl (sx_iconst dX12_rule_13 rfl (sx_vcall dX12_rule_14 cf_X12_is (mg_7 (List.mem_of_getElem? (i := 68) rfl) rfl) (mg_7 (List.mem_of_getElem? (i := 70) rfl) rfl) (mg_p (List.mem_of_getElem? (i := 48) rfl) rfl) rfl c_X12_is (sx_zret dX12_rule_17 rfl)))))))))
def sp_X12_rule (G : GT) : Sp := fun as S I J z Q => match as with
  | [.ref a0, .int a1] => B_X12_rule_0 G 0 0 Q [some (.ref a0), some (.int a1)] [] S I J z 0 0
  | _ => False
theorem c_X12_rule {l : Launch} {G : GT} {D : Nat} : ∀ as S I J z Q, sp_X12_rule G as S I J z Q → fqCall l G M_X12_rule (D + 1) 0 0 as S I J z Q := by
  intro as S I J z Q h
  unfold sp_X12_rule at h
  split at h
  · exact fq_enter _ (by decide +kernel) (Nat.le_of_ble_eq_true rfl) rfl (b_X12_rule_0 _ _ _ _ _ _ _ _ h)
  · exact h.elim
theorem dX12_survey_0 : decode cX12_survey 0 = .ok (.aload_n 0, 1) := by decide +kernel
theorem dX12_survey_1 : decode cX12_survey 1 = .ok (.iload_n 1, 1) := by decide +kernel
theorem dX12_survey_2 : decode cX12_survey 2 = .ok (.invokevirtual 274, 3) := by decide +kernel
theorem dX12_survey_5 : decode cX12_survey 5 = .ok (.ifCond .ne 9, 3) := by decide +kernel
theorem dX12_survey_8 : decode cX12_survey 8 = .ok (.aload_n 0, 1) := by decide +kernel
theorem dX12_survey_9 : decode cX12_survey 9 = .ok (.iconst 1, 1) := by decide +kernel
theorem dX12_survey_10 : decode cX12_survey 10 = .ok (.invokevirtual 75, 3) := by decide +kernel
theorem dX12_survey_13 : decode cX12_survey 13 = .ok (.ireturn, 1) := by decide +kernel
theorem dX12_survey_14 : decode cX12_survey 14 = .ok (.aload_n 0, 1) := by decide +kernel
theorem dX12_survey_15 : decode cX12_survey 15 = .ok (.iload_n 1, 1) := by decide +kernel
theorem dX12_survey_16 : decode cX12_survey 16 = .ok (.iconst 1, 1) := by decide +kernel
theorem dX12_survey_17 : decode cX12_survey 17 = .ok (.invokevirtual 277, 3) := by decide +kernel
theorem dX12_survey_20 : decode cX12_survey 20 = .ok (.aload_n 0, 1) := by decide +kernel
theorem dX12_survey_21 : decode cX12_survey 21 = .ok (.iload_n 1, 1) := by decide +kernel
theorem dX12_survey_22 : decode cX12_survey 22 = .ok (.iconst 0, 1) := by decide +kernel
theorem dX12_survey_23 : decode cX12_survey 23 = .ok (.invokevirtual 277, 3) := by decide +kernel
theorem dX12_survey_26 : decode cX12_survey 26 = .ok (.isub, 1) := by decide +kernel
theorem dX12_survey_27 : decode cX12_survey 27 = .ok (.istore_n 2, 1) := by decide +kernel
theorem dX12_survey_28 : decode cX12_survey 28 = .ok (.aload_n 0, 1) := by decide +kernel
theorem dX12_survey_29 : decode cX12_survey 29 = .ok (.iload_n 2, 1) := by decide +kernel
theorem dX12_survey_30 : decode cX12_survey 30 = .ok (.ifCond .le 15, 3) := by decide +kernel
theorem dX12_survey_33 : decode cX12_survey 33 = .ok (.aload_n 0, 1) := by decide +kernel
theorem dX12_survey_34 : decode cX12_survey 34 = .ok (.iload_n 1, 1) := by decide +kernel
theorem dX12_survey_35 : decode cX12_survey 35 = .ok (.iconst 1, 1) := by decide +kernel
theorem dX12_survey_36 : decode cX12_survey 36 = .ok (.iadd, 1) := by decide +kernel
theorem dX12_survey_37 : decode cX12_survey 37 = .ok (.iload_n 1, 1) := by decide +kernel
theorem dX12_survey_38 : decode cX12_survey 38 = .ok (.iload_n 2, 1) := by decide +kernel
theorem dX12_survey_39 : decode cX12_survey 39 = .ok (.invokevirtual 307, 3) := by decide +kernel
theorem dX12_survey_42 : decode cX12_survey 42 = .ok (.goto 14, 3) := by decide +kernel
theorem dX12_survey_45 : decode cX12_survey 45 = .ok (.aload_n 0, 1) := by decide +kernel
theorem dX12_survey_46 : decode cX12_survey 46 = .ok (.iload_n 1, 1) := by decide +kernel
theorem dX12_survey_47 : decode cX12_survey 47 = .ok (.iload_n 1, 1) := by decide +kernel
theorem dX12_survey_48 : decode cX12_survey 48 = .ok (.iconst 1, 1) := by decide +kernel
theorem dX12_survey_49 : decode cX12_survey 49 = .ok (.iadd, 1) := by decide +kernel
theorem dX12_survey_50 : decode cX12_survey 50 = .ok (.iload_n 2, 1) := by decide +kernel
theorem dX12_survey_51 : decode cX12_survey 51 = .ok (.ineg, 1) := by decide +kernel
theorem dX12_survey_52 : decode cX12_survey 52 = .ok (.invokevirtual 307, 3) := by decide +kernel
theorem dX12_survey_55 : decode cX12_survey 55 = .ok (.ineg, 1) := by decide +kernel
theorem dX12_survey_56 : decode cX12_survey 56 = .ok (.invokevirtual 79, 3) := by decide +kernel
theorem dX12_survey_59 : decode cX12_survey 59 = .ok (.ireturn, 1) := by decide +kernel
abbrev M_X12_survey : MT := (yX12_survey, cX12_survey, 3, (some .int))
theorem cf_X12_survey : fq_cf M_X12_survey 1 := ⟨(mg_1 (List.mem_of_getElem? (i := 15) rfl) rfl), (mg_8 (List.mem_of_getElem? (i := 174) rfl) rfl), ⟨by decide, by decide, by decide +kernel⟩, by decide⟩
def B_X12_survey_56 (G : GT) (mc ms : Nat) (Q : Post) : Cn := ix_vcall 12 2 0 0 mc ms (sp_X12_gives G) (ix_iret mc ms Q)
theorem b_X12_survey_56 {l : Launch} {G : GT} {D mc ms : Nat} {Q : Post} : Imp l G M_X12_survey (D + 3) mc ms Q (B_X12_survey_56 G mc ms Q) 56 := sx_vcall dX12_survey_56 cf_X12_gives (mg_7 (List.mem_of_getElem? (i := 204) rfl) rfl) (mg_7 (List.mem_of_getElem? (i := 206) rfl) rfl) (mg_p (List.mem_of_getElem? (i := 72) rfl) rfl) rfl c_X12_gives (sx_iret dX12_survey_59 rfl)
def B_X12_survey_0 (G : GT) (mc ms : Nat) (Q : Post) : Cn := ix_aload 0 (ix_iload 1 (ix_vcall 12 2 0 0 mc ms (sp_X12_isWall G) (ix_if_ne (ix_aload 0 (ix_iload 1 (ix_pushI 1 (ix_vcall 12 3 0 0 mc ms (sp_X12_placeOf G) (ix_aload 0 (ix_iload 1 (ix_pushI 0 (ix_vcall 12 3 0 0 mc ms (sp_X12_placeOf G) (ix_isub (ix_istore 2 (ix_aload 0 (ix_iload 2 (ix_if_le (ix_aload 0 (ix_iload 1 (ix_iload 1 (ix_pushI 1 (ix_iadd (ix_iload 2 (ix_ineg (ix_vcall 12 4 0 0 mc ms (sp_X12_goesInto G) (ix_ineg ((B_X12_survey_56 G mc ms Q))))))))))) (ix_aload 0 (ix_iload 1 (ix_pushI 1 (ix_iadd (ix_iload 1 (ix_iload 2 (ix_vcall 12 4 0 0 mc ms (sp_X12_goesInto G) ((B_X12_survey_56 G mc ms Q)))))))))))))))))))))) (ix_aload 0 (ix_pushI 1 (ix_vcall 12 2 0 0 mc ms (sp_X12_refuse G) (ix_iret mc ms Q)))))))
theorem b_X12_survey_0 {l : Launch} {G : GT} {D mc ms : Nat} {Q : Post} : Imp l G M_X12_survey (D + 3) mc ms Q (B_X12_survey_0 G mc ms Q) 0 := sx_aload_n dX12_survey_0 rfl (sx_iload_n dX12_survey_1 rfl (sx_vcall dX12_survey_2 cf_X12_isWall (mg_8 (List.mem_of_getElem? (i := 34) rfl) rfl) (mg_8 (List.mem_of_getElem? (i := 36) rfl) rfl) (mg_p (List.mem_of_getElem? (i := 84) rfl) rfl) rfl c_X12_isWall (sx_if_ne 14 dX12_survey_5 (by decide) (sx_aload_n dX12_survey_14 rfl (sx_iload_n dX12_survey_15 rfl (sx_iconst dX12_survey_16 rfl (sx_vcall dX12_survey_17 cf_X12_placeOf (mg_8 (List.mem_of_getElem? (i := 38) rfl) rfl) (mg_8 (List.mem_of_getElem? (i := 40) rfl) rfl) (mg_p (List.mem_of_getElem? (i := 85) rfl) rfl) rfl c_X12_placeOf (sx_aload_n dX12_survey_20 rfl (sx_iload_n dX12_survey_21 rfl (sx_iconst dX12_survey_22 rfl (sx_vcall dX12_survey_23 cf_X12_placeOf (mg_8 (List.mem_of_getElem? (i := 38) rfl) rfl) (mg_8 (List.mem_of_getElem? (i := 40) rfl) rfl) (mg_p (List.mem_of_getElem? (i := 85) rfl) rfl) rfl c_X12_placeOf (sx_isub dX12_survey_26 (sx_istore_n dX12_survey_27 rfl (by decide) (sx_aload_n dX12_survey_28 rfl (sx_iload_n dX12_survey_29 rfl (sx_if_le 45 dX12_survey_30 (by decide) (sx_aload_n dX12_survey_45 rfl (sx_iload_n dX12_survey_46 rfl (sx_iload_n dX12_survey_47 rfl (sx_iconst dX12_survey_48 rfl (sx_iadd dX12_survey_49 (sx_iload_n dX12_survey_50 rfl (sx_ineg dX12_survey_51 (sx_vcall dX12_survey_52 cf_X12_goesInto (mg_8 (List.mem_of_getElem? (i := 106) rfl) rfl) (mg_8 (List.mem_of_getElem? (i := 108) rfl) rfl) (mg_p (List.mem_of_getElem? (i := 96) rfl) rfl) rfl c_X12_goesInto (sx_ineg dX12_survey_55 (b_X12_survey_56)))))))))) (sx_aload_n dX12_survey_33 rfl (sx_iload_n dX12_survey_34 rfl (sx_iconst dX12_survey_35 rfl (sx_iadd dX12_survey_36 (sx_iload_n dX12_survey_37 rfl (sx_iload_n dX12_survey_38 rfl (sx_vcall dX12_survey_39 cf_X12_goesInto (mg_8 (List.mem_of_getElem? (i := 106) rfl) rfl) (mg_8 (List.mem_of_getElem? (i := 108) rfl) rfl) (mg_p (List.mem_of_getElem? (i := 96) rfl) rfl) rfl c_X12_goesInto (sx_goto 56 dX12_survey_42 (by decide) (b_X12_survey_56)))))))))))))))))))))) (sx_aload_n dX12_survey_8 rfl (sx_iconst dX12_survey_9 rfl (sx_vcall dX12_survey_10 cf_X12_refuse (mg_7 (List.mem_of_getElem? (i := 128) rfl) rfl) (mg_7 (List.mem_of_getElem? (i := 130) rfl) rfl) (mg_p (List.mem_of_getElem? (i := 54) rfl) rfl) rfl c_X12_refuse (sx_iret dX12_survey_13 rfl)))))))
def sp_X12_survey (G : GT) : Sp := fun as S I J z Q => match as with
  | [.ref a0, .int a1] => B_X12_survey_0 G 0 0 Q [some (.ref a0), some (.int a1), none] [] S I J z 0 0
  | _ => False
theorem c_X12_survey {l : Launch} {G : GT} {D : Nat} : ∀ as S I J z Q, sp_X12_survey G as S I J z Q → fqCall l G M_X12_survey (D + 3) 0 0 as S I J z Q := by
  intro as S I J z Q h
  unfold sp_X12_survey at h
  split at h
  · exact fq_enter _ (by decide +kernel) (Nat.le_of_ble_eq_true rfl) rfl (b_X12_survey_0 _ _ _ _ _ _ _ _ h)
  · exact h.elim
theorem dX12_soothe_0 : decode cX12_soothe 0 = .ok (.aload_n 0, 1) := by decide +kernel
theorem dX12_soothe_1 : decode cX12_soothe 1 = .ok (.iload_n 1, 1) := by decide +kernel
theorem dX12_soothe_2 : decode cX12_soothe 2 = .ok (.invokevirtual 244, 3) := by decide +kernel
theorem dX12_soothe_5 : decode cX12_soothe 5 = .ok (.ifCond .ne 9, 3) := by decide +kernel
theorem dX12_soothe_8 : decode cX12_soothe 8 = .ok (.aload_n 0, 1) := by decide +kernel
theorem dX12_soothe_9 : decode cX12_soothe 9 = .ok (.iconst 1, 1) := by decide +kernel
theorem dX12_soothe_10 : decode cX12_soothe 10 = .ok (.invokevirtual 75, 3) := by decide +kernel
theorem dX12_soothe_13 : decode cX12_soothe 13 = .ok (.ireturn, 1) := by decide +kernel
theorem dX12_soothe_14 : decode cX12_soothe 14 = .ok (.aload_n 0, 1) := by decide +kernel
theorem dX12_soothe_15 : decode cX12_soothe 15 = .ok (.iload_n 1, 1) := by decide +kernel
theorem dX12_soothe_16 : decode cX12_soothe 16 = .ok (.iconst 5, 1) := by decide +kernel
theorem dX12_soothe_17 : decode cX12_soothe 17 = .ok (.invokevirtual 253, 3) := by decide +kernel
theorem dX12_soothe_20 : decode cX12_soothe 20 = .ok (.istore_n 2, 1) := by decide +kernel
theorem dX12_soothe_21 : decode cX12_soothe 21 = .ok (.aload_n 0, 1) := by decide +kernel
theorem dX12_soothe_22 : decode cX12_soothe 22 = .ok (.getfield 7, 3) := by decide +kernel
theorem dX12_soothe_25 : decode cX12_soothe 25 = .ok (.iload_n 1, 1) := by decide +kernel
theorem dX12_soothe_26 : decode cX12_soothe 26 = .ok (.invokestatic 250, 3) := by decide +kernel
theorem dX12_soothe_29 : decode cX12_soothe 29 = .ok (.iconst 5, 1) := by decide +kernel
theorem dX12_soothe_30 : decode cX12_soothe 30 = .ok (.iadd, 1) := by decide +kernel
theorem dX12_soothe_31 : decode cX12_soothe 31 = .ok (.iconst 0, 1) := by decide +kernel
theorem dX12_soothe_32 : decode cX12_soothe 32 = .ok (.iastore, 1) := by decide +kernel
theorem dX12_soothe_33 : decode cX12_soothe 33 = .ok (.aload_n 0, 1) := by decide +kernel
theorem dX12_soothe_34 : decode cX12_soothe 34 = .ok (.iload_n 2, 1) := by decide +kernel
theorem dX12_soothe_35 : decode cX12_soothe 35 = .ok (.invokevirtual 79, 3) := by decide +kernel
theorem dX12_soothe_38 : decode cX12_soothe 38 = .ok (.ireturn, 1) := by decide +kernel
abbrev M_X12_soothe : MT := (yX12_soothe, cX12_soothe, 3, (some .int))
theorem cf_X12_soothe : fq_cf M_X12_soothe 1 := ⟨(mg_1 (List.mem_of_getElem? (i := 15) rfl) rfl), (mg_8 (List.mem_of_getElem? (i := 178) rfl) rfl), ⟨by decide, by decide, by decide +kernel⟩, by decide⟩
def B_X12_soothe_0 (G : GT) (mc ms : Nat) (Q : Post) : Cn := ix_aload 0 (ix_iload 1 (ix_vcall 12 2 0 0 mc ms (sp_X12_isPerson G) (ix_if_ne (ix_aload 0 (ix_iload 1 (ix_pushI 5 (ix_vcall 12 3 0 0 mc ms (sp_X12_personOf G) (ix_istore 2 (ix_aload 0 (ix_getR 12 0 (ix_iload 1 (ix_call 1 0 0 mc ms (sp_X12_personRow G) (ix_pushI 5 (ix_iadd (ix_pushI 0 (ix_iast (ix_aload 0 (ix_iload 2 (ix_vcall 12 2 0 0 mc ms (sp_X12_gives G) (ix_iret mc ms Q))))))))))))))))) (ix_aload 0 (ix_pushI 1 (ix_vcall 12 2 0 0 mc ms (sp_X12_refuse G) (ix_iret mc ms Q)))))))
theorem b_X12_soothe_0 {l : Launch} {G : GT} {D mc ms : Nat} {Q : Post} : Imp l G M_X12_soothe (D + 2) mc ms Q (B_X12_soothe_0 G mc ms Q) 0 := sx_aload_n dX12_soothe_0 rfl (sx_iload_n dX12_soothe_1 rfl (sx_vcall dX12_soothe_2 cf_X12_isPerson (mg_8 (List.mem_of_getElem? (i := 46) rfl) rfl) (mg_8 (List.mem_of_getElem? (i := 48) rfl) rfl) (mg_p (List.mem_of_getElem? (i := 86) rfl) rfl) rfl c_X12_isPerson (sx_if_ne 14 dX12_soothe_5 (by decide) (sx_aload_n dX12_soothe_14 rfl (sx_iload_n dX12_soothe_15 rfl (sx_iconst dX12_soothe_16 rfl (sx_vcall dX12_soothe_17 cf_X12_personOf (mg_8 (List.mem_of_getElem? (i := 0) rfl) rfl) (mg_8 (List.mem_of_getElem? (i := 2) rfl) rfl) (mg_p (List.mem_of_getElem? (i := 79) rfl) rfl) rfl c_X12_personOf (sx_istore_n dX12_soothe_20 rfl (by decide) (sx_aload_n dX12_soothe_21 rfl (sx_getR dX12_soothe_22 fl_FootQuarrelModel_7 (fun _ _ _ => rfl) (sx_iload_n dX12_soothe_25 rfl (sx_scall dX12_soothe_26 cf_X12_personRow (mg_8 (List.mem_of_getElem? (i := 4) rfl) rfl) (mg_8 (List.mem_of_getElem? (i := 5) rfl) rfl) c_X12_personRow (sx_iconst dX12_soothe_29 rfl (sx_iadd dX12_soothe_30 (sx_iconst dX12_soothe_31 rfl (sx_iast dX12_soothe_32 (sx_aload_n dX12_soothe_33 rfl (sx_iload_n dX12_soothe_34 rfl (sx_vcall dX12_soothe_35 cf_X12_gives (mg_7 (List.mem_of_getElem? (i := 204) rfl) rfl) (mg_7 (List.mem_of_getElem? (i := 206) rfl) rfl) (mg_p (List.mem_of_getElem? (i := 72) rfl) rfl) rfl c_X12_gives (sx_iret dX12_soothe_38 rfl))))))))))))))))) (sx_aload_n dX12_soothe_8 rfl (sx_iconst dX12_soothe_9 rfl (sx_vcall dX12_soothe_10 cf_X12_refuse (mg_7 (List.mem_of_getElem? (i := 128) rfl) rfl) (mg_7 (List.mem_of_getElem? (i := 130) rfl) rfl) (mg_p (List.mem_of_getElem? (i := 54) rfl) rfl) rfl c_X12_refuse (sx_iret dX12_soothe_13 rfl)))))))
def sp_X12_soothe (G : GT) : Sp := fun as S I J z Q => match as with
  | [.ref a0, .int a1] => B_X12_soothe_0 G 0 0 Q [some (.ref a0), some (.int a1), none] [] S I J z 0 0
  | _ => False
theorem c_X12_soothe {l : Launch} {G : GT} {D : Nat} : ∀ as S I J z Q, sp_X12_soothe G as S I J z Q → fqCall l G M_X12_soothe (D + 2) 0 0 as S I J z Q := by
  intro as S I J z Q h
  unfold sp_X12_soothe at h
  split at h
  · exact fq_enter _ (by decide +kernel) (Nat.le_of_ble_eq_true rfl) rfl (b_X12_soothe_0 _ _ _ _ _ _ _ _ h)
  · exact h.elim
theorem dX12_loud_0 : decode cX12_loud 0 = .ok (.aload_n 0, 1) := by decide +kernel
theorem dX12_loud_1 : decode cX12_loud 1 = .ok (.iload_n 1, 1) := by decide +kernel
theorem dX12_loud_2 : decode cX12_loud 2 = .ok (.invokevirtual 244, 3) := by decide +kernel
theorem dX12_loud_5 : decode cX12_loud 5 = .ok (.ifCond .eq 20, 3) := by decide +kernel
theorem dX12_loud_8 : decode cX12_loud 8 = .ok (.aload_n 0, 1) := by decide +kernel
theorem dX12_loud_9 : decode cX12_loud 9 = .ok (.aload_n 0, 1) := by decide +kernel
theorem dX12_loud_10 : decode cX12_loud 10 = .ok (.aload_n 0, 1) := by decide +kernel
theorem dX12_loud_11 : decode cX12_loud 11 = .ok (.iload_n 1, 1) := by decide +kernel
theorem dX12_loud_12 : decode cX12_loud 12 = .ok (.iconst 3, 1) := by decide +kernel
theorem dX12_loud_13 : decode cX12_loud 13 = .ok (.invokevirtual 253, 3) := by decide +kernel
theorem dX12_loud_16 : decode cX12_loud 16 = .ok (.invokevirtual 301, 3) := by decide +kernel
theorem dX12_loud_19 : decode cX12_loud 19 = .ok (.invokevirtual 79, 3) := by decide +kernel
theorem dX12_loud_22 : decode cX12_loud 22 = .ok (.goto 8, 3) := by decide +kernel
theorem dX12_loud_25 : decode cX12_loud 25 = .ok (.aload_n 0, 1) := by decide +kernel
theorem dX12_loud_26 : decode cX12_loud 26 = .ok (.iconst 1, 1) := by decide +kernel
theorem dX12_loud_27 : decode cX12_loud 27 = .ok (.invokevirtual 75, 3) := by decide +kernel
theorem dX12_loud_30 : decode cX12_loud 30 = .ok (.ireturn, 1) := by decide +kernel
abbrev M_X12_loud : MT := (yX12_loud, cX12_loud, 2, (some .int))
theorem cf_X12_loud : fq_cf M_X12_loud 1 := ⟨(mg_1 (List.mem_of_getElem? (i := 15) rfl) rfl), (mg_8 (List.mem_of_getElem? (i := 182) rfl) rfl), ⟨by decide, by decide, by decide +kernel⟩, by decide⟩
def B_X12_loud_30 (G : GT) (mc ms : Nat) (Q : Post) : Cn := ix_iret mc ms Q
theorem b_X12_loud_30 {l : Launch} {G : GT} {D mc ms : Nat} {Q : Post} : Imp l G M_X12_loud (D + 2) mc ms Q (B_X12_loud_30 G mc ms Q) 30 := sx_iret dX12_loud_30 rfl
def B_X12_loud_0 (G : GT) (mc ms : Nat) (Q : Post) : Cn := ix_aload 0 (ix_iload 1 (ix_vcall 12 2 0 0 mc ms (sp_X12_isPerson G) (ix_if_eq (ix_aload 0 (ix_pushI 1 (ix_vcall 12 2 0 0 mc ms (sp_X12_refuse G) ((B_X12_loud_30 G mc ms Q))))) (ix_aload 0 (ix_aload 0 (ix_aload 0 (ix_iload 1 (ix_pushI 3 (ix_vcall 12 3 0 0 mc ms (sp_X12_personOf G) (ix_vcall 12 2 0 0 mc ms (sp_X12_loudBy G) (ix_vcall 12 2 0 0 mc ms (sp_X12_gives G) ((B_X12_loud_30 G mc ms Q)))))))))))))
theorem b_X12_loud_0 {l : Launch} {G : GT} {D mc ms : Nat} {Q : Post} : Imp l G M_X12_loud (D + 2) mc ms Q (B_X12_loud_0 G mc ms Q) 0 := sx_aload_n dX12_loud_0 rfl (sx_iload_n dX12_loud_1 rfl (sx_vcall dX12_loud_2 cf_X12_isPerson (mg_8 (List.mem_of_getElem? (i := 46) rfl) rfl) (mg_8 (List.mem_of_getElem? (i := 48) rfl) rfl) (mg_p (List.mem_of_getElem? (i := 86) rfl) rfl) rfl c_X12_isPerson (sx_if_eq 25 dX12_loud_5 (by decide) (sx_aload_n dX12_loud_25 rfl (sx_iconst dX12_loud_26 rfl (sx_vcall dX12_loud_27 cf_X12_refuse (mg_7 (List.mem_of_getElem? (i := 128) rfl) rfl) (mg_7 (List.mem_of_getElem? (i := 130) rfl) rfl) (mg_p (List.mem_of_getElem? (i := 54) rfl) rfl) rfl c_X12_refuse (b_X12_loud_30)))) (sx_aload_n dX12_loud_8 rfl (sx_aload_n dX12_loud_9 rfl (sx_aload_n dX12_loud_10 rfl (sx_iload_n dX12_loud_11 rfl (sx_iconst dX12_loud_12 rfl (sx_vcall dX12_loud_13 cf_X12_personOf (mg_8 (List.mem_of_getElem? (i := 0) rfl) rfl) (mg_8 (List.mem_of_getElem? (i := 2) rfl) rfl) (mg_p (List.mem_of_getElem? (i := 79) rfl) rfl) rfl c_X12_personOf (sx_vcall dX12_loud_16 cf_X12_loudBy (mg_8 (List.mem_of_getElem? (i := 93) rfl) rfl) (mg_8 (List.mem_of_getElem? (i := 95) rfl) rfl) (mg_p (List.mem_of_getElem? (i := 93) rfl) rfl) rfl c_X12_loudBy (sx_vcall dX12_loud_19 cf_X12_gives (mg_7 (List.mem_of_getElem? (i := 204) rfl) rfl) (mg_7 (List.mem_of_getElem? (i := 206) rfl) rfl) (mg_p (List.mem_of_getElem? (i := 72) rfl) rfl) rfl c_X12_gives (sx_goto 30 dX12_loud_22 (by decide) (b_X12_loud_30)))))))))))))
def sp_X12_loud (G : GT) : Sp := fun as S I J z Q => match as with
  | [.ref a0, .int a1] => B_X12_loud_0 G 0 0 Q [some (.ref a0), some (.int a1)] [] S I J z 0 0
  | _ => False
theorem c_X12_loud {l : Launch} {G : GT} {D : Nat} : ∀ as S I J z Q, sp_X12_loud G as S I J z Q → fqCall l G M_X12_loud (D + 2) 0 0 as S I J z Q := by
  intro as S I J z Q h
  unfold sp_X12_loud at h
  split at h
  · exact fq_enter _ (by decide +kernel) (Nat.le_of_ble_eq_true rfl) rfl (b_X12_loud_0 _ _ _ _ _ _ _ _ h)
  · exact h.elim
theorem dX12_hears_0 : decode cX12_hears 0 = .ok (.aload_n 0, 1) := by decide +kernel
theorem dX12_hears_1 : decode cX12_hears 1 = .ok (.iload_n 1, 1) := by decide +kernel
theorem dX12_hears_2 : decode cX12_hears 2 = .ok (.iload_n 2, 1) := by decide +kernel
theorem dX12_hears_3 : decode cX12_hears 3 = .ok (.invokevirtual 286, 3) := by decide +kernel
theorem dX12_hears_6 : decode cX12_hears 6 = .ok (.ifCond .eq 24, 3) := by decide +kernel
theorem dX12_hears_9 : decode cX12_hears 9 = .ok (.aload_n 0, 1) := by decide +kernel
theorem dX12_hears_10 : decode cX12_hears 10 = .ok (.aload_n 0, 1) := by decide +kernel
theorem dX12_hears_11 : decode cX12_hears 11 = .ok (.iload_n 1, 1) := by decide +kernel
theorem dX12_hears_12 : decode cX12_hears 12 = .ok (.iload_n 2, 1) := by decide +kernel
theorem dX12_hears_13 : decode cX12_hears 13 = .ok (.invokevirtual 346, 3) := by decide +kernel
theorem dX12_hears_16 : decode cX12_hears 16 = .ok (.ifCond .eq 7, 3) := by decide +kernel
theorem dX12_hears_19 : decode cX12_hears 19 = .ok (.iconst 1, 1) := by decide +kernel
theorem dX12_hears_20 : decode cX12_hears 20 = .ok (.goto 4, 3) := by decide +kernel
theorem dX12_hears_23 : decode cX12_hears 23 = .ok (.iconst 0, 1) := by decide +kernel
theorem dX12_hears_24 : decode cX12_hears 24 = .ok (.invokevirtual 79, 3) := by decide +kernel
theorem dX12_hears_27 : decode cX12_hears 27 = .ok (.goto 8, 3) := by decide +kernel
theorem dX12_hears_30 : decode cX12_hears 30 = .ok (.aload_n 0, 1) := by decide +kernel
theorem dX12_hears_31 : decode cX12_hears 31 = .ok (.iconst 1, 1) := by decide +kernel
theorem dX12_hears_32 : decode cX12_hears 32 = .ok (.invokevirtual 75, 3) := by decide +kernel
theorem dX12_hears_35 : decode cX12_hears 35 = .ok (.ireturn, 1) := by decide +kernel
abbrev M_X12_hears : MT := (yX12_hears, cX12_hears, 3, (some .int))
theorem cf_X12_hears : fq_cf M_X12_hears 2 := ⟨(mg_1 (List.mem_of_getElem? (i := 15) rfl) rfl), (mg_8 (List.mem_of_getElem? (i := 186) rfl) rfl), ⟨by decide, by decide, by decide +kernel⟩, by decide⟩
def B_X12_hears_35 (G : GT) (mc ms : Nat) (Q : Post) : Cn := ix_iret mc ms Q
theorem b_X12_hears_35 {l : Launch} {G : GT} {D mc ms : Nat} {Q : Post} : Imp l G M_X12_hears (D + 4) mc ms Q (B_X12_hears_35 G mc ms Q) 35 := sx_iret dX12_hears_35 rfl
def B_X12_hears_24 (G : GT) (mc ms : Nat) (Q : Post) : Cn := ix_vcall 12 2 0 0 mc ms (sp_X12_gives G) ((B_X12_hears_35 G mc ms Q))
theorem b_X12_hears_24 {l : Launch} {G : GT} {D mc ms : Nat} {Q : Post} : Imp l G M_X12_hears (D + 4) mc ms Q (B_X12_hears_24 G mc ms Q) 24 := sx_vcall dX12_hears_24 cf_X12_gives (mg_7 (List.mem_of_getElem? (i := 204) rfl) rfl) (mg_7 (List.mem_of_getElem? (i := 206) rfl) rfl) (mg_p (List.mem_of_getElem? (i := 72) rfl) rfl) rfl c_X12_gives (sx_goto 35 dX12_hears_27 (by decide) (b_X12_hears_35))
def B_X12_hears_0 (G : GT) (mc ms : Nat) (Q : Post) : Cn := ix_aload 0 (ix_iload 1 (ix_iload 2 (ix_vcall 12 3 0 0 mc ms (sp_X12_areTwo G) (ix_if_eq (ix_aload 0 (ix_pushI 1 (ix_vcall 12 2 0 0 mc ms (sp_X12_refuse G) ((B_X12_hears_35 G mc ms Q))))) (ix_aload 0 (ix_aload 0 (ix_iload 1 (ix_iload 2 (ix_vcall 12 3 0 0 mc ms (sp_X12_hearsOf G) (ix_if_eq (ix_pushI 0 ((B_X12_hears_24 G mc ms Q))) (ix_pushI 1 ((B_X12_hears_24 G mc ms Q)))))))))))))
theorem b_X12_hears_0 {l : Launch} {G : GT} {D mc ms : Nat} {Q : Post} : Imp l G M_X12_hears (D + 4) mc ms Q (B_X12_hears_0 G mc ms Q) 0 := sx_aload_n dX12_hears_0 rfl (sx_iload_n dX12_hears_1 rfl (sx_iload_n dX12_hears_2 rfl (sx_vcall dX12_hears_3 cf_X12_areTwo (mg_8 (List.mem_of_getElem? (i := 65) rfl) rfl) (mg_8 (List.mem_of_getElem? (i := 67) rfl) rfl) (mg_p (List.mem_of_getElem? (i := 88) rfl) rfl) rfl c_X12_areTwo (sx_if_eq 30 dX12_hears_6 (by decide) (sx_aload_n dX12_hears_30 rfl (sx_iconst dX12_hears_31 rfl (sx_vcall dX12_hears_32 cf_X12_refuse (mg_7 (List.mem_of_getElem? (i := 128) rfl) rfl) (mg_7 (List.mem_of_getElem? (i := 130) rfl) rfl) (mg_p (List.mem_of_getElem? (i := 54) rfl) rfl) rfl c_X12_refuse (b_X12_hears_35)))) (sx_aload_n dX12_hears_9 rfl (sx_aload_n dX12_hears_10 rfl (sx_iload_n dX12_hears_11 rfl (sx_iload_n dX12_hears_12 rfl (sx_vcall dX12_hears_13 cf_X12_hearsOf (mg_8 (List.mem_of_getElem? (i := 187) rfl) rfl) (mg_8 (List.mem_of_getElem? (i := 189) rfl) rfl) (mg_p (List.mem_of_getElem? (i := 103) rfl) rfl) rfl c_X12_hearsOf (sx_if_eq 23 dX12_hears_16 (by decide) (sx_iconst dX12_hears_23 rfl (b_X12_hears_24)) (sx_iconst dX12_hears_19 rfl (sx_goto 24 dX12_hears_20 (by decide) (b_X12_hears_24)))))))))))))
def sp_X12_hears (G : GT) : Sp := fun as S I J z Q => match as with
  | [.ref a0, .int a1, .int a2] => B_X12_hears_0 G 0 0 Q [some (.ref a0), some (.int a1), some (.int a2)] [] S I J z 0 0
  | _ => False
theorem c_X12_hears {l : Launch} {G : GT} {D : Nat} : ∀ as S I J z Q, sp_X12_hears G as S I J z Q → fqCall l G M_X12_hears (D + 4) 0 0 as S I J z Q := by
  intro as S I J z Q h
  unfold sp_X12_hears at h
  split at h
  · exact fq_enter _ (by decide +kernel) (Nat.le_of_ble_eq_true rfl) rfl (b_X12_hears_0 _ _ _ _ _ _ _ _ h)
  · exact h.elim
theorem dX12_shoutsBy_0 : decode cX12_shoutsBy 0 = .ok (.aload_n 0, 1) := by decide +kernel
theorem dX12_shoutsBy_1 : decode cX12_shoutsBy 1 = .ok (.iload_n 1, 1) := by decide +kernel
theorem dX12_shoutsBy_2 : decode cX12_shoutsBy 2 = .ok (.iload_n 2, 1) := by decide +kernel
theorem dX12_shoutsBy_3 : decode cX12_shoutsBy 3 = .ok (.invokevirtual 286, 3) := by decide +kernel
theorem dX12_shoutsBy_6 : decode cX12_shoutsBy 6 = .ok (.ifCond .ne 11, 3) := by decide +kernel
theorem dX12_shoutsBy_9 : decode cX12_shoutsBy 9 = .ok (.aload_n 0, 1) := by decide +kernel
theorem dX12_shoutsBy_10 : decode cX12_shoutsBy 10 = .ok (.iconst 1, 1) := by decide +kernel
theorem dX12_shoutsBy_11 : decode cX12_shoutsBy 11 = .ok (.invokevirtual 75, 3) := by decide +kernel
theorem dX12_shoutsBy_14 : decode cX12_shoutsBy 14 = .ok (.goto 31, 3) := by decide +kernel
theorem dX12_shoutsBy_17 : decode cX12_shoutsBy 17 = .ok (.aload_n 0, 1) := by decide +kernel
theorem dX12_shoutsBy_18 : decode cX12_shoutsBy 18 = .ok (.iload_n 1, 1) := by decide +kernel
theorem dX12_shoutsBy_19 : decode cX12_shoutsBy 19 = .ok (.iload_n 2, 1) := by decide +kernel
theorem dX12_shoutsBy_20 : decode cX12_shoutsBy 20 = .ok (.invokevirtual 289, 3) := by decide +kernel
theorem dX12_shoutsBy_23 : decode cX12_shoutsBy 23 = .ok (.ifCond .eq 16, 3) := by decide +kernel
theorem dX12_shoutsBy_26 : decode cX12_shoutsBy 26 = .ok (.aload_n 0, 1) := by decide +kernel
theorem dX12_shoutsBy_27 : decode cX12_shoutsBy 27 = .ok (.aload_n 0, 1) := by decide +kernel
theorem dX12_shoutsBy_28 : decode cX12_shoutsBy 28 = .ok (.iload_n 1, 1) := by decide +kernel
theorem dX12_shoutsBy_29 : decode cX12_shoutsBy 29 = .ok (.iload_n 2, 1) := by decide +kernel
theorem dX12_shoutsBy_30 : decode cX12_shoutsBy 30 = .ok (.invokevirtual 358, 3) := by decide +kernel
theorem dX12_shoutsBy_33 : decode cX12_shoutsBy 33 = .ok (.invokevirtual 79, 3) := by decide +kernel
theorem dX12_shoutsBy_36 : decode cX12_shoutsBy 36 = .ok (.goto 9, 3) := by decide +kernel
theorem dX12_shoutsBy_39 : decode cX12_shoutsBy 39 = .ok (.aload_n 0, 1) := by decide +kernel
theorem dX12_shoutsBy_40 : decode cX12_shoutsBy 40 = .ok (.bipush 7, 2) := by decide +kernel
theorem dX12_shoutsBy_42 : decode cX12_shoutsBy 42 = .ok (.invokevirtual 75, 3) := by decide +kernel
theorem dX12_shoutsBy_45 : decode cX12_shoutsBy 45 = .ok (.ireturn, 1) := by decide +kernel
abbrev M_X12_shoutsBy : MT := (yX12_shoutsBy, cX12_shoutsBy, 3, (some .int))
theorem cf_X12_shoutsBy : fq_cf M_X12_shoutsBy 2 := ⟨(mg_1 (List.mem_of_getElem? (i := 15) rfl) rfl), (mg_8 (List.mem_of_getElem? (i := 198) rfl) rfl), ⟨by decide, by decide, by decide +kernel⟩, by decide⟩
def B_X12_shoutsBy_45 (G : GT) (mc ms : Nat) (Q : Post) : Cn := ix_iret mc ms Q
theorem b_X12_shoutsBy_45 {l : Launch} {G : GT} {D mc ms : Nat} {Q : Post} : Imp l G M_X12_shoutsBy (D + 6) mc ms Q (B_X12_shoutsBy_45 G mc ms Q) 45 := sx_iret dX12_shoutsBy_45 rfl
def B_X12_shoutsBy_0 (G : GT) (mc ms : Nat) (Q : Post) : Cn := ix_aload 0 (ix_iload 1 (ix_iload 2 (ix_vcall 12 3 0 0 mc ms (sp_X12_areTwo G) (ix_if_ne (ix_aload 0 (ix_iload 1 (ix_iload 2 (ix_vcall 12 3 0 0 mc ms (sp_X12_areNear G) (ix_if_eq (ix_aload 0 (ix_pushI 7 (ix_vcall 12 2 0 0 mc ms (sp_X12_refuse G) ((B_X12_shoutsBy_45 G mc ms Q))))) (ix_aload 0 (ix_aload 0 (ix_iload 1 (ix_iload 2 (ix_vcall 12 3 0 0 mc ms (sp_X12_triesSaying G) (ix_vcall 12 2 0 0 mc ms (sp_X12_gives G) ((B_X12_shoutsBy_45 G mc ms Q))))))))))))) (ix_aload 0 (ix_pushI 1 (ix_vcall 12 2 0 0 mc ms (sp_X12_refuse G) ((B_X12_shoutsBy_45 G mc ms Q)))))))))
theorem b_X12_shoutsBy_0 {l : Launch} {G : GT} {D mc ms : Nat} {Q : Post} : Imp l G M_X12_shoutsBy (D + 6) mc ms Q (B_X12_shoutsBy_0 G mc ms Q) 0 := sx_aload_n dX12_shoutsBy_0 rfl (sx_iload_n dX12_shoutsBy_1 rfl (sx_iload_n dX12_shoutsBy_2 rfl (sx_vcall dX12_shoutsBy_3 cf_X12_areTwo (mg_8 (List.mem_of_getElem? (i := 65) rfl) rfl) (mg_8 (List.mem_of_getElem? (i := 67) rfl) rfl) (mg_p (List.mem_of_getElem? (i := 88) rfl) rfl) rfl c_X12_areTwo (sx_if_ne 17 dX12_shoutsBy_6 (by decide) (sx_aload_n dX12_shoutsBy_17 rfl (sx_iload_n dX12_shoutsBy_18 rfl (sx_iload_n dX12_shoutsBy_19 rfl (sx_vcall dX12_shoutsBy_20 cf_X12_areNear (mg_8 (List.mem_of_getElem? (i := 69) rfl) rfl) (mg_8 (List.mem_of_getElem? (i := 71) rfl) rfl) (mg_p (List.mem_of_getElem? (i := 89) rfl) rfl) rfl c_X12_areNear (sx_if_eq 39 dX12_shoutsBy_23 (by decide) (sx_aload_n dX12_shoutsBy_39 rfl (sx_bipush dX12_shoutsBy_40 rfl (sx_vcall dX12_shoutsBy_42 cf_X12_refuse (mg_7 (List.mem_of_getElem? (i := 128) rfl) rfl) (mg_7 (List.mem_of_getElem? (i := 130) rfl) rfl) (mg_p (List.mem_of_getElem? (i := 54) rfl) rfl) rfl c_X12_refuse (b_X12_shoutsBy_45)))) (sx_aload_n dX12_shoutsBy_26 rfl (sx_aload_n dX12_shoutsBy_27 rfl (sx_iload_n dX12_shoutsBy_28 rfl (sx_iload_n dX12_shoutsBy_29 rfl (sx_vcall dX12_shoutsBy_30 cf_X12_triesSaying (mg_8 (List.mem_of_getElem? (i := 199) rfl) rfl) (mg_8 (List.mem_of_getElem? (i := 201) rfl) rfl) (mg_p (List.mem_of_getElem? (i := 104) rfl) rfl) rfl c_X12_triesSaying (sx_vcall dX12_shoutsBy_33 cf_X12_gives (mg_7 (List.mem_of_getElem? (i := 204) rfl) rfl) (mg_7 (List.mem_of_getElem? (i := 206) rfl) rfl) (mg_p (List.mem_of_getElem? (i := 72) rfl) rfl) rfl c_X12_gives (sx_goto 45 dX12_shoutsBy_36 (by decide) (b_X12_shoutsBy_45))))))))))))) (sx_aload_n dX12_shoutsBy_9 rfl (sx_iconst dX12_shoutsBy_10 rfl (sx_vcall dX12_shoutsBy_11 cf_X12_refuse (mg_7 (List.mem_of_getElem? (i := 128) rfl) rfl) (mg_7 (List.mem_of_getElem? (i := 130) rfl) rfl) (mg_p (List.mem_of_getElem? (i := 54) rfl) rfl) rfl c_X12_refuse (sx_goto 45 dX12_shoutsBy_14 (by decide) (b_X12_shoutsBy_45)))))))))
def sp_X12_shoutsBy (G : GT) : Sp := fun as S I J z Q => match as with
  | [.ref a0, .int a1, .int a2] => B_X12_shoutsBy_0 G 0 0 Q [some (.ref a0), some (.int a1), some (.int a2)] [] S I J z 0 0
  | _ => False
theorem c_X12_shoutsBy {l : Launch} {G : GT} {D : Nat} : ∀ as S I J z Q, sp_X12_shoutsBy G as S I J z Q → fqCall l G M_X12_shoutsBy (D + 6) 0 0 as S I J z Q := by
  intro as S I J z Q h
  unfold sp_X12_shoutsBy at h
  split at h
  · exact fq_enter _ (by decide +kernel) (Nat.le_of_ble_eq_true rfl) rfl (b_X12_shoutsBy_0 _ _ _ _ _ _ _ _ h)
  · exact h.elim
theorem dX12_gainBy_0 : decode cX12_gainBy 0 = .ok (.aload_n 0, 1) := by decide +kernel
theorem dX12_gainBy_1 : decode cX12_gainBy 1 = .ok (.iload_n 1, 1) := by decide +kernel
theorem dX12_gainBy_2 : decode cX12_gainBy 2 = .ok (.iload_n 2, 1) := by decide +kernel
theorem dX12_gainBy_3 : decode cX12_gainBy 3 = .ok (.invokevirtual 286, 3) := by decide +kernel
theorem dX12_gainBy_6 : decode cX12_gainBy 6 = .ok (.ifCond .ne 9, 3) := by decide +kernel
theorem dX12_gainBy_9 : decode cX12_gainBy 9 = .ok (.aload_n 0, 1) := by decide +kernel
theorem dX12_gainBy_10 : decode cX12_gainBy 10 = .ok (.iconst 1, 1) := by decide +kernel
theorem dX12_gainBy_11 : decode cX12_gainBy 11 = .ok (.invokevirtual 75, 3) := by decide +kernel
theorem dX12_gainBy_14 : decode cX12_gainBy 14 = .ok (.ireturn, 1) := by decide +kernel
theorem dX12_gainBy_15 : decode cX12_gainBy 15 = .ok (.aload_n 0, 1) := by decide +kernel
theorem dX12_gainBy_16 : decode cX12_gainBy 16 = .ok (.iload_n 1, 1) := by decide +kernel
theorem dX12_gainBy_17 : decode cX12_gainBy 17 = .ok (.iload_n 2, 1) := by decide +kernel
theorem dX12_gainBy_18 : decode cX12_gainBy 18 = .ok (.invokevirtual 289, 3) := by decide +kernel
theorem dX12_gainBy_21 : decode cX12_gainBy 21 = .ok (.ifCond .ne 10, 3) := by decide +kernel
theorem dX12_gainBy_24 : decode cX12_gainBy 24 = .ok (.aload_n 0, 1) := by decide +kernel
theorem dX12_gainBy_25 : decode cX12_gainBy 25 = .ok (.bipush 7, 2) := by decide +kernel
theorem dX12_gainBy_27 : decode cX12_gainBy 27 = .ok (.invokevirtual 75, 3) := by decide +kernel
theorem dX12_gainBy_30 : decode cX12_gainBy 30 = .ok (.ireturn, 1) := by decide +kernel
theorem dX12_gainBy_31 : decode cX12_gainBy 31 = .ok (.aload_n 0, 1) := by decide +kernel
theorem dX12_gainBy_32 : decode cX12_gainBy 32 = .ok (.iload_n 1, 1) := by decide +kernel
theorem dX12_gainBy_33 : decode cX12_gainBy 33 = .ok (.iload_n 2, 1) := by decide +kernel
theorem dX12_gainBy_34 : decode cX12_gainBy 34 = .ok (.invokevirtual 358, 3) := by decide +kernel
theorem dX12_gainBy_37 : decode cX12_gainBy 37 = .ok (.pop, 1) := by decide +kernel
theorem dX12_gainBy_38 : decode cX12_gainBy 38 = .ok (.aload_n 0, 1) := by decide +kernel
theorem dX12_gainBy_39 : decode cX12_gainBy 39 = .ok (.aload_n 0, 1) := by decide +kernel
theorem dX12_gainBy_40 : decode cX12_gainBy 40 = .ok (.getfield 352, 3) := by decide +kernel
theorem dX12_gainBy_43 : decode cX12_gainBy 43 = .ok (.invokevirtual 79, 3) := by decide +kernel
theorem dX12_gainBy_46 : decode cX12_gainBy 46 = .ok (.ireturn, 1) := by decide +kernel
abbrev M_X12_gainBy : MT := (yX12_gainBy, cX12_gainBy, 3, (some .int))
theorem cf_X12_gainBy : fq_cf M_X12_gainBy 2 := ⟨(mg_1 (List.mem_of_getElem? (i := 15) rfl) rfl), (mg_8 (List.mem_of_getElem? (i := 214) rfl) rfl), ⟨by decide, by decide, by decide +kernel⟩, by decide⟩
def B_X12_gainBy_0 (G : GT) (mc ms : Nat) (Q : Post) : Cn := ix_aload 0 (ix_iload 1 (ix_iload 2 (ix_vcall 12 3 0 0 mc ms (sp_X12_areTwo G) (ix_if_ne (ix_aload 0 (ix_iload 1 (ix_iload 2 (ix_vcall 12 3 0 0 mc ms (sp_X12_areNear G) (ix_if_ne (ix_aload 0 (ix_iload 1 (ix_iload 2 (ix_vcall 12 3 0 0 mc ms (sp_X12_triesSaying G) (ix_popI (ix_aload 0 (ix_aload 0 (ix_getI 12 24 (ix_vcall 12 2 0 0 mc ms (sp_X12_gives G) (ix_iret mc ms Q)))))))))) (ix_aload 0 (ix_pushI 7 (ix_vcall 12 2 0 0 mc ms (sp_X12_refuse G) (ix_iret mc ms Q))))))))) (ix_aload 0 (ix_pushI 1 (ix_vcall 12 2 0 0 mc ms (sp_X12_refuse G) (ix_iret mc ms Q))))))))
theorem b_X12_gainBy_0 {l : Launch} {G : GT} {D mc ms : Nat} {Q : Post} : Imp l G M_X12_gainBy (D + 6) mc ms Q (B_X12_gainBy_0 G mc ms Q) 0 := sx_aload_n dX12_gainBy_0 rfl (sx_iload_n dX12_gainBy_1 rfl (sx_iload_n dX12_gainBy_2 rfl (sx_vcall dX12_gainBy_3 cf_X12_areTwo (mg_8 (List.mem_of_getElem? (i := 65) rfl) rfl) (mg_8 (List.mem_of_getElem? (i := 67) rfl) rfl) (mg_p (List.mem_of_getElem? (i := 88) rfl) rfl) rfl c_X12_areTwo (sx_if_ne 15 dX12_gainBy_6 (by decide) (sx_aload_n dX12_gainBy_15 rfl (sx_iload_n dX12_gainBy_16 rfl (sx_iload_n dX12_gainBy_17 rfl (sx_vcall dX12_gainBy_18 cf_X12_areNear (mg_8 (List.mem_of_getElem? (i := 69) rfl) rfl) (mg_8 (List.mem_of_getElem? (i := 71) rfl) rfl) (mg_p (List.mem_of_getElem? (i := 89) rfl) rfl) rfl c_X12_areNear (sx_if_ne 31 dX12_gainBy_21 (by decide) (sx_aload_n dX12_gainBy_31 rfl (sx_iload_n dX12_gainBy_32 rfl (sx_iload_n dX12_gainBy_33 rfl (sx_vcall dX12_gainBy_34 cf_X12_triesSaying (mg_8 (List.mem_of_getElem? (i := 199) rfl) rfl) (mg_8 (List.mem_of_getElem? (i := 201) rfl) rfl) (mg_p (List.mem_of_getElem? (i := 104) rfl) rfl) rfl c_X12_triesSaying (sx_popI dX12_gainBy_37 (sx_aload_n dX12_gainBy_38 rfl (sx_aload_n dX12_gainBy_39 rfl (sx_getI dX12_gainBy_40 fl_FootQuarrelModel_352 (fun _ _ _ => rfl) (sx_vcall dX12_gainBy_43 cf_X12_gives (mg_7 (List.mem_of_getElem? (i := 204) rfl) rfl) (mg_7 (List.mem_of_getElem? (i := 206) rfl) rfl) (mg_p (List.mem_of_getElem? (i := 72) rfl) rfl) rfl c_X12_gives (sx_iret dX12_gainBy_46 rfl)))))))))) (sx_aload_n dX12_gainBy_24 rfl (sx_bipush dX12_gainBy_25 rfl (sx_vcall dX12_gainBy_27 cf_X12_refuse (mg_7 (List.mem_of_getElem? (i := 128) rfl) rfl) (mg_7 (List.mem_of_getElem? (i := 130) rfl) rfl) (mg_p (List.mem_of_getElem? (i := 54) rfl) rfl) rfl c_X12_refuse (sx_iret dX12_gainBy_30 rfl))))))))) (sx_aload_n dX12_gainBy_9 rfl (sx_iconst dX12_gainBy_10 rfl (sx_vcall dX12_gainBy_11 cf_X12_refuse (mg_7 (List.mem_of_getElem? (i := 128) rfl) rfl) (mg_7 (List.mem_of_getElem? (i := 130) rfl) rfl) (mg_p (List.mem_of_getElem? (i := 54) rfl) rfl) rfl c_X12_refuse (sx_iret dX12_gainBy_14 rfl))))))))
def sp_X12_gainBy (G : GT) : Sp := fun as S I J z Q => match as with
  | [.ref a0, .int a1, .int a2] => B_X12_gainBy_0 G 0 0 Q [some (.ref a0), some (.int a1), some (.int a2)] [] S I J z 0 0
  | _ => False
theorem c_X12_gainBy {l : Launch} {G : GT} {D : Nat} : ∀ as S I J z Q, sp_X12_gainBy G as S I J z Q → fqCall l G M_X12_gainBy (D + 6) 0 0 as S I J z Q := by
  intro as S I J z Q h
  unfold sp_X12_gainBy at h
  split at h
  · exact fq_enter _ (by decide +kernel) (Nat.le_of_ble_eq_true rfl) rfl (b_X12_gainBy_0 _ _ _ _ _ _ _ _ h)
  · exact h.elim
theorem dX12_angerIn_0 : decode cX12_angerIn 0 = .ok (.aload_n 0, 1) := by decide +kernel
theorem dX12_angerIn_1 : decode cX12_angerIn 1 = .ok (.iload_n 1, 1) := by decide +kernel
theorem dX12_angerIn_2 : decode cX12_angerIn 2 = .ok (.invokevirtual 244, 3) := by decide +kernel
theorem dX12_angerIn_5 : decode cX12_angerIn 5 = .ok (.ifCond .eq 41, 3) := by decide +kernel
theorem dX12_angerIn_8 : decode cX12_angerIn 8 = .ok (.iload_n 2, 1) := by decide +kernel
theorem dX12_angerIn_9 : decode cX12_angerIn 9 = .ok (.i2l, 1) := by decide +kernel
theorem dX12_angerIn_10 : decode cX12_angerIn 10 = .ok (.lconst 0, 1) := by decide +kernel
theorem dX12_angerIn_11 : decode cX12_angerIn 11 = .ok (.ldc2_w 327, 3) := by decide +kernel
theorem dX12_angerIn_14 : decode cX12_angerIn 14 = .ok (.invokestatic 329, 3) := by decide +kernel
theorem dX12_angerIn_17 : decode cX12_angerIn 17 = .ok (.ifCond .eq 29, 3) := by decide +kernel
theorem dX12_angerIn_20 : decode cX12_angerIn 20 = .ok (.aload_n 0, 1) := by decide +kernel
theorem dX12_angerIn_21 : decode cX12_angerIn 21 = .ok (.iconst 0, 1) := by decide +kernel
theorem dX12_angerIn_22 : decode cX12_angerIn 22 = .ok (.aload_n 0, 1) := by decide +kernel
theorem dX12_angerIn_23 : decode cX12_angerIn 23 = .ok (.iload_n 1, 1) := by decide +kernel
theorem dX12_angerIn_24 : decode cX12_angerIn 24 = .ok (.iconst 5, 1) := by decide +kernel
theorem dX12_angerIn_25 : decode cX12_angerIn 25 = .ok (.invokevirtual 253, 3) := by decide +kernel
theorem dX12_angerIn_28 : decode cX12_angerIn 28 = .ok (.iload_n 2, 1) := by decide +kernel
theorem dX12_angerIn_29 : decode cX12_angerIn 29 = .ok (.aload_n 0, 1) := by decide +kernel
theorem dX12_angerIn_30 : decode cX12_angerIn 30 = .ok (.getfield 7, 3) := by decide +kernel
theorem dX12_angerIn_33 : decode cX12_angerIn 33 = .ok (.iconst 4, 1) := by decide +kernel
theorem dX12_angerIn_34 : decode cX12_angerIn 34 = .ok (.iaload, 1) := by decide +kernel
theorem dX12_angerIn_35 : decode cX12_angerIn 35 = .ok (.imul, 1) := by decide +kernel
theorem dX12_angerIn_36 : decode cX12_angerIn 36 = .ok (.isub, 1) := by decide +kernel
theorem dX12_angerIn_37 : decode cX12_angerIn 37 = .ok (.invokestatic 295, 3) := by decide +kernel
theorem dX12_angerIn_40 : decode cX12_angerIn 40 = .ok (.invokevirtual 79, 3) := by decide +kernel
theorem dX12_angerIn_43 : decode cX12_angerIn 43 = .ok (.goto 8, 3) := by decide +kernel
theorem dX12_angerIn_46 : decode cX12_angerIn 46 = .ok (.aload_n 0, 1) := by decide +kernel
theorem dX12_angerIn_47 : decode cX12_angerIn 47 = .ok (.iconst 1, 1) := by decide +kernel
theorem dX12_angerIn_48 : decode cX12_angerIn 48 = .ok (.invokevirtual 75, 3) := by decide +kernel
theorem dX12_angerIn_51 : decode cX12_angerIn 51 = .ok (.ireturn, 1) := by decide +kernel
abbrev M_X12_angerIn : MT := (yX12_angerIn, cX12_angerIn, 3, (some .int))
theorem cf_X12_angerIn : fq_cf M_X12_angerIn 2 := ⟨(mg_1 (List.mem_of_getElem? (i := 15) rfl) rfl), (mg_9 (List.mem_of_getElem? (i := 2) rfl) rfl), ⟨by decide, by decide, by decide +kernel⟩, by decide⟩
def B_X12_angerIn_51 (G : GT) (mc ms : Nat) (Q : Post) : Cn := ix_iret mc ms Q
theorem b_X12_angerIn_51 {l : Launch} {G : GT} {D mc ms : Nat} {Q : Post} : Imp l G M_X12_angerIn (D + 2) mc ms Q (B_X12_angerIn_51 G mc ms Q) 51 := sx_iret dX12_angerIn_51 rfl
def B_X12_angerIn_46 (G : GT) (mc ms : Nat) (Q : Post) : Cn := ix_aload 0 (ix_pushI 1 (ix_vcall 12 2 0 0 mc ms (sp_X12_refuse G) ((B_X12_angerIn_51 G mc ms Q))))
theorem b_X12_angerIn_46 {l : Launch} {G : GT} {D mc ms : Nat} {Q : Post} : Imp l G M_X12_angerIn (D + 2) mc ms Q (B_X12_angerIn_46 G mc ms Q) 46 := sx_aload_n dX12_angerIn_46 rfl (sx_iconst dX12_angerIn_47 rfl (sx_vcall dX12_angerIn_48 cf_X12_refuse (mg_7 (List.mem_of_getElem? (i := 128) rfl) rfl) (mg_7 (List.mem_of_getElem? (i := 130) rfl) rfl) (mg_p (List.mem_of_getElem? (i := 54) rfl) rfl) rfl c_X12_refuse (b_X12_angerIn_51)))
def B_X12_angerIn_0 (G : GT) (mc ms : Nat) (Q : Post) : Cn := ix_aload 0 (ix_iload 1 (ix_vcall 12 2 0 0 mc ms (sp_X12_isPerson G) (ix_if_eq ((B_X12_angerIn_46 G mc ms Q)) (ix_iload 2 (ix_i2l (ix_pushL 0 (ix_pushL 99 (ix_call 3 0 0 mc ms (sp_X12_isFrom G) (ix_if_eq ((B_X12_angerIn_46 G mc ms Q)) (ix_aload 0 (ix_pushI 0 (ix_aload 0 (ix_iload 1 (ix_pushI 5 (ix_vcall 12 3 0 0 mc ms (sp_X12_personOf G) (ix_iload 2 (ix_aload 0 (ix_getR 12 0 (ix_pushI 4 (ix_iald (ix_imul (ix_isub (ix_max mc ms (ix_vcall 12 2 0 0 mc ms (sp_X12_gives G) ((B_X12_angerIn_51 G mc ms Q))))))))))))))))))))))))))
theorem b_X12_angerIn_0 {l : Launch} {G : GT} {D mc ms : Nat} {Q : Post} : Imp l G M_X12_angerIn (D + 2) mc ms Q (B_X12_angerIn_0 G mc ms Q) 0 := sx_aload_n dX12_angerIn_0 rfl (sx_iload_n dX12_angerIn_1 rfl (sx_vcall dX12_angerIn_2 cf_X12_isPerson (mg_8 (List.mem_of_getElem? (i := 46) rfl) rfl) (mg_8 (List.mem_of_getElem? (i := 48) rfl) rfl) (mg_p (List.mem_of_getElem? (i := 86) rfl) rfl) rfl c_X12_isPerson (sx_if_eq 46 dX12_angerIn_5 (by decide) (b_X12_angerIn_46) (sx_iload_n dX12_angerIn_8 rfl (sx_i2l dX12_angerIn_9 (sx_lconst dX12_angerIn_10 rfl (sx_ldc2 dX12_angerIn_11 (mg_8 (List.mem_of_getElem? (i := 130) rfl) rfl) (sx_scall dX12_angerIn_14 cf_X12_isFrom (mg_8 (List.mem_of_getElem? (i := 131) rfl) rfl) (mg_8 (List.mem_of_getElem? (i := 132) rfl) rfl) c_X12_isFrom (sx_if_eq 46 dX12_angerIn_17 (by decide) (b_X12_angerIn_46) (sx_aload_n dX12_angerIn_20 rfl (sx_iconst dX12_angerIn_21 rfl (sx_aload_n dX12_angerIn_22 rfl (sx_iload_n dX12_angerIn_23 rfl (sx_iconst dX12_angerIn_24 rfl (sx_vcall dX12_angerIn_25 cf_X12_personOf (mg_8 (List.mem_of_getElem? (i := 0) rfl) rfl) (mg_8 (List.mem_of_getElem? (i := 2) rfl) rfl) (mg_p (List.mem_of_getElem? (i := 79) rfl) rfl) rfl c_X12_personOf (sx_iload_n dX12_angerIn_28 rfl (sx_aload_n dX12_angerIn_29 rfl (sx_getR dX12_angerIn_30 fl_FootQuarrelModel_7 (fun _ _ _ => rfl) (sx_iconst dX12_angerIn_33 rfl (sx_iald dX12_angerIn_34 (sx_imul dX12_angerIn_35 (sx_isub dX12_angerIn_36 (sx_max dX12_angerIn_37 (mg_8 (List.mem_of_getElem? (i := 97) rfl) rfl) (mg_4 (List.mem_of_getElem? (i := 199) rfl) rfl) (mg_1 (List.mem_of_getElem? (i := 18) rfl) rfl) (mg_4 (List.mem_of_getElem? (i := 200) rfl) rfl) (sx_vcall dX12_angerIn_40 cf_X12_gives (mg_7 (List.mem_of_getElem? (i := 204) rfl) rfl) (mg_7 (List.mem_of_getElem? (i := 206) rfl) rfl) (mg_p (List.mem_of_getElem? (i := 72) rfl) rfl) rfl c_X12_gives (sx_goto 51 dX12_angerIn_43 (by decide) (b_X12_angerIn_51))))))))))))))))))))))))))
def sp_X12_angerIn (G : GT) : Sp := fun as S I J z Q => match as with
  | [.ref a0, .int a1, .int a2] => B_X12_angerIn_0 G 0 0 Q [some (.ref a0), some (.int a1), some (.int a2)] [] S I J z 0 0
  | _ => False
theorem c_X12_angerIn {l : Launch} {G : GT} {D : Nat} : ∀ as S I J z Q, sp_X12_angerIn G as S I J z Q → fqCall l G M_X12_angerIn (D + 2) 0 0 as S I J z Q := by
  intro as S I J z Q h
  unfold sp_X12_angerIn at h
  split at h
  · exact fq_enter _ (by decide +kernel) (Nat.le_of_ble_eq_true rfl) rfl (b_X12_angerIn_0 _ _ _ _ _ _ _ _ h)
  · exact h.elim
theorem dX12_loser_0 : decode cX12_loser 0 = .ok (.aload_n 0, 1) := by decide +kernel
theorem dX12_loser_1 : decode cX12_loser 1 = .ok (.aload_n 0, 1) := by decide +kernel
theorem dX12_loser_2 : decode cX12_loser 2 = .ok (.bipush 14, 2) := by decide +kernel
theorem dX12_loser_4 : decode cX12_loser 4 = .ok (.iconst 3, 1) := by decide +kernel
theorem dX12_loser_5 : decode cX12_loser 5 = .ok (.aload_n 0, 1) := by decide +kernel
theorem dX12_loser_6 : decode cX12_loser 6 = .ok (.getfield 7, 3) := by decide +kernel
theorem dX12_loser_9 : decode cX12_loser 9 = .ok (.iconst 0, 1) := by decide +kernel
theorem dX12_loser_10 : decode cX12_loser 10 = .ok (.iaload, 1) := by decide +kernel
theorem dX12_loser_11 : decode cX12_loser 11 = .ok (.invokevirtual 396, 3) := by decide +kernel
theorem dX12_loser_14 : decode cX12_loser 14 = .ok (.invokevirtual 361, 3) := by decide +kernel
theorem dX12_loser_17 : decode cX12_loser 17 = .ok (.ireturn, 1) := by decide +kernel
abbrev M_X12_loser : MT := (yX12_loser, cX12_loser, 1, (some .int))
theorem cf_X12_loser : fq_cf M_X12_loser 0 := ⟨(mg_1 (List.mem_of_getElem? (i := 15) rfl) rfl), (mg_9 (List.mem_of_getElem? (i := 62) rfl) rfl), ⟨by decide, by decide, by decide +kernel⟩, by decide⟩
def B_X12_loser_0 (G : GT) (mc ms : Nat) (Q : Post) : Cn := ix_aload 0 (ix_aload 0 (ix_pushI 14 (ix_pushI 3 (ix_aload 0 (ix_getR 12 0 (ix_pushI 0 (ix_iald (ix_vcall 12 4 0 0 mc ms (sp_X12_mostOf G) (ix_vcall 12 2 0 0 mc ms (sp_X12_orNone G) (ix_iret mc ms Q))))))))))
theorem b_X12_loser_0 {l : Launch} {G : GT} {D mc ms : Nat} {Q : Post} : Imp l G M_X12_loser (D + 2) mc ms Q (B_X12_loser_0 G mc ms Q) 0 := sx_aload_n dX12_loser_0 rfl (sx_aload_n dX12_loser_1 rfl (sx_bipush dX12_loser_2 rfl (sx_iconst dX12_loser_4 rfl (sx_aload_n dX12_loser_5 rfl (sx_getR dX12_loser_6 fl_FootQuarrelModel_7 (fun _ _ _ => rfl) (sx_iconst dX12_loser_9 rfl (sx_iald dX12_loser_10 (sx_vcall dX12_loser_11 cf_X12_mostOf (mg_9 (List.mem_of_getElem? (i := 63) rfl) rfl) (mg_9 (List.mem_of_getElem? (i := 65) rfl) rfl) (mg_p (List.mem_of_getElem? (i := 114) rfl) rfl) rfl c_X12_mostOf (sx_vcall dX12_loser_14 cf_X12_orNone (mg_8 (List.mem_of_getElem? (i := 219) rfl) rfl) (mg_8 (List.mem_of_getElem? (i := 221) rfl) rfl) (mg_p (List.mem_of_getElem? (i := 107) rfl) rfl) rfl c_X12_orNone (sx_iret dX12_loser_17 rfl))))))))))
def sp_X12_loser (G : GT) : Sp := fun as S I J z Q => match as with
  | [.ref a0] => B_X12_loser_0 G 0 0 Q [some (.ref a0)] [] S I J z 0 0
  | _ => False
theorem c_X12_loser {l : Launch} {G : GT} {D : Nat} : ∀ as S I J z Q, sp_X12_loser G as S I J z Q → fqCall l G M_X12_loser (D + 2) 0 0 as S I J z Q := by
  intro as S I J z Q h
  unfold sp_X12_loser at h
  split at h
  · exact fq_enter _ (by decide +kernel) (Nat.le_of_ble_eq_true rfl) rfl (b_X12_loser_0 _ _ _ _ _ _ _ _ h)
  · exact h.elim
theorem dX12_loudest_0 : decode cX12_loudest 0 = .ok (.aload_n 0, 1) := by decide +kernel
theorem dX12_loudest_1 : decode cX12_loudest 1 = .ok (.aload_n 0, 1) := by decide +kernel
theorem dX12_loudest_2 : decode cX12_loudest 2 = .ok (.bipush 36, 2) := by decide +kernel
theorem dX12_loudest_4 : decode cX12_loudest 4 = .ok (.bipush 7, 2) := by decide +kernel
theorem dX12_loudest_6 : decode cX12_loudest 6 = .ok (.aload_n 0, 1) := by decide +kernel
theorem dX12_loudest_7 : decode cX12_loudest 7 = .ok (.getfield 7, 3) := by decide +kernel
theorem dX12_loudest_10 : decode cX12_loudest 10 = .ok (.iconst 1, 1) := by decide +kernel
theorem dX12_loudest_11 : decode cX12_loudest 11 = .ok (.iaload, 1) := by decide +kernel
theorem dX12_loudest_12 : decode cX12_loudest 12 = .ok (.invokevirtual 396, 3) := by decide +kernel
theorem dX12_loudest_15 : decode cX12_loudest 15 = .ok (.invokevirtual 361, 3) := by decide +kernel
theorem dX12_loudest_18 : decode cX12_loudest 18 = .ok (.ireturn, 1) := by decide +kernel
abbrev M_X12_loudest : MT := (yX12_loudest, cX12_loudest, 1, (some .int))
theorem cf_X12_loudest : fq_cf M_X12_loudest 0 := ⟨(mg_1 (List.mem_of_getElem? (i := 15) rfl) rfl), (mg_9 (List.mem_of_getElem? (i := 70) rfl) rfl), ⟨by decide, by decide, by decide +kernel⟩, by decide⟩
def B_X12_loudest_0 (G : GT) (mc ms : Nat) (Q : Post) : Cn := ix_aload 0 (ix_aload 0 (ix_pushI 36 (ix_pushI 7 (ix_aload 0 (ix_getR 12 0 (ix_pushI 1 (ix_iald (ix_vcall 12 4 0 0 mc ms (sp_X12_mostOf G) (ix_vcall 12 2 0 0 mc ms (sp_X12_orNone G) (ix_iret mc ms Q))))))))))
theorem b_X12_loudest_0 {l : Launch} {G : GT} {D mc ms : Nat} {Q : Post} : Imp l G M_X12_loudest (D + 2) mc ms Q (B_X12_loudest_0 G mc ms Q) 0 := sx_aload_n dX12_loudest_0 rfl (sx_aload_n dX12_loudest_1 rfl (sx_bipush dX12_loudest_2 rfl (sx_bipush dX12_loudest_4 rfl (sx_aload_n dX12_loudest_6 rfl (sx_getR dX12_loudest_7 fl_FootQuarrelModel_7 (fun _ _ _ => rfl) (sx_iconst dX12_loudest_10 rfl (sx_iald dX12_loudest_11 (sx_vcall dX12_loudest_12 cf_X12_mostOf (mg_9 (List.mem_of_getElem? (i := 63) rfl) rfl) (mg_9 (List.mem_of_getElem? (i := 65) rfl) rfl) (mg_p (List.mem_of_getElem? (i := 114) rfl) rfl) rfl c_X12_mostOf (sx_vcall dX12_loudest_15 cf_X12_orNone (mg_8 (List.mem_of_getElem? (i := 219) rfl) rfl) (mg_8 (List.mem_of_getElem? (i := 221) rfl) rfl) (mg_p (List.mem_of_getElem? (i := 107) rfl) rfl) rfl c_X12_orNone (sx_iret dX12_loudest_18 rfl))))))))))
def sp_X12_loudest (G : GT) : Sp := fun as S I J z Q => match as with
  | [.ref a0] => B_X12_loudest_0 G 0 0 Q [some (.ref a0)] [] S I J z 0 0
  | _ => False
theorem c_X12_loudest {l : Launch} {G : GT} {D : Nat} : ∀ as S I J z Q, sp_X12_loudest G as S I J z Q → fqCall l G M_X12_loudest (D + 2) 0 0 as S I J z Q := by
  intro as S I J z Q h
  unfold sp_X12_loudest at h
  split at h
  · exact fq_enter _ (by decide +kernel) (Nat.le_of_ble_eq_true rfl) rfl (b_X12_loudest_0 _ _ _ _ _ _ _ _ h)
  · exact h.elim
theorem dX12_lived_0 : decode cX12_lived 0 = .ok (.iload_n 1, 1) := by decide +kernel
theorem dX12_lived_1 : decode cX12_lived 1 = .ok (.ifCond .lt 8, 3) := by decide +kernel
theorem dX12_lived_4 : decode cX12_lived 4 = .ok (.iload_n 1, 1) := by decide +kernel
theorem dX12_lived_5 : decode cX12_lived 5 = .ok (.iconst 4, 1) := by decide +kernel
theorem dX12_lived_6 : decode cX12_lived 6 = .ok (.if_icmp .le 11, 3) := by decide +kernel
theorem dX12_lived_9 : decode cX12_lived 9 = .ok (.aload_n 0, 1) := by decide +kernel
theorem dX12_lived_10 : decode cX12_lived 10 = .ok (.iconst 1, 1) := by decide +kernel
theorem dX12_lived_11 : decode cX12_lived 11 = .ok (.invokevirtual 75, 3) := by decide +kernel
theorem dX12_lived_14 : decode cX12_lived 14 = .ok (.goto 29, 3) := by decide +kernel
theorem dX12_lived_17 : decode cX12_lived 17 = .ok (.aload_n 0, 1) := by decide +kernel
theorem dX12_lived_18 : decode cX12_lived 18 = .ok (.getfield 463, 3) := by decide +kernel
theorem dX12_lived_21 : decode cX12_lived 21 = .ok (.ifCond .eq 16, 3) := by decide +kernel
theorem dX12_lived_24 : decode cX12_lived 24 = .ok (.aload_n 0, 1) := by decide +kernel
theorem dX12_lived_25 : decode cX12_lived 25 = .ok (.aload_n 0, 1) := by decide +kernel
theorem dX12_lived_26 : decode cX12_lived 26 = .ok (.getfield 62, 3) := by decide +kernel
theorem dX12_lived_29 : decode cX12_lived 29 = .ok (.iload_n 1, 1) := by decide +kernel
theorem dX12_lived_30 : decode cX12_lived 30 = .ok (.iaload, 1) := by decide +kernel
theorem dX12_lived_31 : decode cX12_lived 31 = .ok (.invokevirtual 79, 3) := by decide +kernel
theorem dX12_lived_34 : decode cX12_lived 34 = .ok (.goto 9, 3) := by decide +kernel
theorem dX12_lived_37 : decode cX12_lived 37 = .ok (.aload_n 0, 1) := by decide +kernel
theorem dX12_lived_38 : decode cX12_lived 38 = .ok (.bipush 6, 2) := by decide +kernel
theorem dX12_lived_40 : decode cX12_lived 40 = .ok (.invokevirtual 75, 3) := by decide +kernel
theorem dX12_lived_43 : decode cX12_lived 43 = .ok (.ireturn, 1) := by decide +kernel
abbrev M_X12_lived : MT := (yX12_lived, cX12_lived, 2, (some .int))
theorem cf_X12_lived : fq_cf M_X12_lived 1 := ⟨(mg_1 (List.mem_of_getElem? (i := 15) rfl) rfl), (mg_9 (List.mem_of_getElem? (i := 174) rfl) rfl), ⟨by decide, by decide, by decide +kernel⟩, by decide⟩
def B_X12_lived_43 (G : GT) (mc ms : Nat) (Q : Post) : Cn := ix_iret mc ms Q
theorem b_X12_lived_43 {l : Launch} {G : GT} {D mc ms : Nat} {Q : Post} : Imp l G M_X12_lived (D + 1) mc ms Q (B_X12_lived_43 G mc ms Q) 43 := sx_iret dX12_lived_43 rfl
def B_X12_lived_9 (G : GT) (mc ms : Nat) (Q : Post) : Cn := ix_aload 0 (ix_pushI 1 (ix_vcall 12 2 0 0 mc ms (sp_X12_refuse G) ((B_X12_lived_43 G mc ms Q))))
theorem b_X12_lived_9 {l : Launch} {G : GT} {D mc ms : Nat} {Q : Post} : Imp l G M_X12_lived (D + 1) mc ms Q (B_X12_lived_9 G mc ms Q) 9 := sx_aload_n dX12_lived_9 rfl (sx_iconst dX12_lived_10 rfl (sx_vcall dX12_lived_11 cf_X12_refuse (mg_7 (List.mem_of_getElem? (i := 128) rfl) rfl) (mg_7 (List.mem_of_getElem? (i := 130) rfl) rfl) (mg_p (List.mem_of_getElem? (i := 54) rfl) rfl) rfl c_X12_refuse (sx_goto 43 dX12_lived_14 (by decide) (b_X12_lived_43))))
def B_X12_lived_0 (G : GT) (mc ms : Nat) (Q : Post) : Cn := ix_iload 1 (ix_if_lt ((B_X12_lived_9 G mc ms Q)) (ix_iload 1 (ix_pushI 4 (ix_icmp_le (ix_aload 0 (ix_getI 12 34 (ix_if_eq (ix_aload 0 (ix_pushI 6 (ix_vcall 12 2 0 0 mc ms (sp_X12_refuse G) ((B_X12_lived_43 G mc ms Q))))) (ix_aload 0 (ix_aload 0 (ix_getR 12 33 (ix_iload 1 (ix_iald (ix_vcall 12 2 0 0 mc ms (sp_X12_gives G) ((B_X12_lived_43 G mc ms Q))))))))))) ((B_X12_lived_9 G mc ms Q))))))
theorem b_X12_lived_0 {l : Launch} {G : GT} {D mc ms : Nat} {Q : Post} : Imp l G M_X12_lived (D + 1) mc ms Q (B_X12_lived_0 G mc ms Q) 0 := sx_iload_n dX12_lived_0 rfl (sx_if_lt 9 dX12_lived_1 (by decide) (b_X12_lived_9) (sx_iload_n dX12_lived_4 rfl (sx_iconst dX12_lived_5 rfl (sx_icmp_le 17 dX12_lived_6 (by decide) (sx_aload_n dX12_lived_17 rfl (sx_getI dX12_lived_18 fl_FootQuarrelModel_463 (fun _ _ _ => rfl) (sx_if_eq 37 dX12_lived_21 (by decide) (sx_aload_n dX12_lived_37 rfl (sx_bipush dX12_lived_38 rfl (sx_vcall dX12_lived_40 cf_X12_refuse (mg_7 (List.mem_of_getElem? (i := 128) rfl) rfl) (mg_7 (List.mem_of_getElem? (i := 130) rfl) rfl) (mg_p (List.mem_of_getElem? (i := 54) rfl) rfl) rfl c_X12_refuse (b_X12_lived_43)))) (sx_aload_n dX12_lived_24 rfl (sx_aload_n dX12_lived_25 rfl (sx_getR dX12_lived_26 fl_FootQuarrelModel_62 (fun _ _ _ => rfl) (sx_iload_n dX12_lived_29 rfl (sx_iald dX12_lived_30 (sx_vcall dX12_lived_31 cf_X12_gives (mg_7 (List.mem_of_getElem? (i := 204) rfl) rfl) (mg_7 (List.mem_of_getElem? (i := 206) rfl) rfl) (mg_p (List.mem_of_getElem? (i := 72) rfl) rfl) rfl c_X12_gives (sx_goto 43 dX12_lived_34 (by decide) (b_X12_lived_43))))))))))) (b_X12_lived_9)))))
def sp_X12_lived (G : GT) : Sp := fun as S I J z Q => match as with
  | [.ref a0, .int a1] => B_X12_lived_0 G 0 0 Q [some (.ref a0), some (.int a1)] [] S I J z 0 0
  | _ => False
theorem c_X12_lived {l : Launch} {G : GT} {D : Nat} : ∀ as S I J z Q, sp_X12_lived G as S I J z Q → fqCall l G M_X12_lived (D + 1) 0 0 as S I J z Q := by
  intro as S I J z Q h
  unfold sp_X12_lived at h
  split at h
  · exact fq_enter _ (by decide +kernel) (Nat.le_of_ble_eq_true rfl) rfl (b_X12_lived_0 _ _ _ _ _ _ _ _ h)
  · exact h.elim
theorem dX12_mark_0 : decode cX12_mark 0 = .ok (.aload_n 0, 1) := by decide +kernel
theorem dX12_mark_1 : decode cX12_mark 1 = .ok (.getfield 469, 3) := by decide +kernel
theorem dX12_mark_4 : decode cX12_mark 4 = .ok (.iconst 3, 1) := by decide +kernel
theorem dX12_mark_5 : decode cX12_mark 5 = .ok (.if_icmp .ne 9, 3) := by decide +kernel
theorem dX12_mark_8 : decode cX12_mark 8 = .ok (.aload_n 0, 1) := by decide +kernel
theorem dX12_mark_9 : decode cX12_mark 9 = .ok (.iconst 4, 1) := by decide +kernel
theorem dX12_mark_10 : decode cX12_mark 10 = .ok (.invokevirtual 75, 3) := by decide +kernel
theorem dX12_mark_13 : decode cX12_mark 13 = .ok (.ireturn, 1) := by decide +kernel
theorem dX12_mark_14 : decode cX12_mark 14 = .ok (.aload_n 0, 1) := by decide +kernel
theorem dX12_mark_15 : decode cX12_mark 15 = .ok (.dup, 1) := by decide +kernel
theorem dX12_mark_16 : decode cX12_mark 16 = .ok (.getfield 469, 3) := by decide +kernel
theorem dX12_mark_19 : decode cX12_mark 19 = .ok (.iconst 1, 1) := by decide +kernel
theorem dX12_mark_20 : decode cX12_mark 20 = .ok (.iadd, 1) := by decide +kernel
theorem dX12_mark_21 : decode cX12_mark 21 = .ok (.putfield 469, 3) := by decide +kernel
theorem dX12_mark_24 : decode cX12_mark 24 = .ok (.aload_n 0, 1) := by decide +kernel
theorem dX12_mark_25 : decode cX12_mark 25 = .ok (.iconst 0, 1) := by decide +kernel
theorem dX12_mark_26 : decode cX12_mark 26 = .ok (.aload_n 0, 1) := by decide +kernel
theorem dX12_mark_27 : decode cX12_mark 27 = .ok (.getfield 469, 3) := by decide +kernel
theorem dX12_mark_30 : decode cX12_mark 30 = .ok (.invokevirtual 472, 3) := by decide +kernel
theorem dX12_mark_33 : decode cX12_mark 33 = .ok (.aload_n 0, 1) := by decide +kernel
theorem dX12_mark_34 : decode cX12_mark 34 = .ok (.aload_n 0, 1) := by decide +kernel
theorem dX12_mark_35 : decode cX12_mark 35 = .ok (.getfield 469, 3) := by decide +kernel
theorem dX12_mark_38 : decode cX12_mark 38 = .ok (.invokevirtual 79, 3) := by decide +kernel
theorem dX12_mark_41 : decode cX12_mark 41 = .ok (.ireturn, 1) := by decide +kernel
abbrev M_X12_mark : MT := (yX12_mark, cX12_mark, 1, (some .int))
theorem cf_X12_mark : fq_cf M_X12_mark 0 := ⟨(mg_1 (List.mem_of_getElem? (i := 15) rfl) rfl), (mg_9 (List.mem_of_getElem? (i := 183) rfl) rfl), ⟨by decide, by decide, by decide +kernel⟩, by decide⟩
def B_X12_mark_0 (G : GT) (mc ms : Nat) (Q : Post) : Cn := ix_aload 0 (ix_getI 12 35 (ix_pushI 3 (ix_icmp_ne (ix_aload 0 (ix_dupR (ix_getI 12 35 (ix_pushI 1 (ix_iadd (ix_putI 12 35 (ix_aload 0 (ix_pushI 0 (ix_aload 0 (ix_getI 12 35 (ix_vcall 12 3 0 0 mc ms (sp_X12_copies G) (ix_aload 0 (ix_aload 0 (ix_getI 12 35 (ix_vcall 12 2 0 0 mc ms (sp_X12_gives G) (ix_iret mc ms Q)))))))))))))))) (ix_aload 0 (ix_pushI 4 (ix_vcall 12 2 0 0 mc ms (sp_X12_refuse G) (ix_iret mc ms Q)))))))
theorem b_X12_mark_0 {l : Launch} {G : GT} {D mc ms : Nat} {Q : Post} : Imp l G M_X12_mark (D + 1) mc ms Q (B_X12_mark_0 G mc ms Q) 0 := sx_aload_n dX12_mark_0 rfl (sx_getI dX12_mark_1 fl_FootQuarrelModel_469 (fun _ _ _ => rfl) (sx_iconst dX12_mark_4 rfl (sx_icmp_ne 14 dX12_mark_5 (by decide) (sx_aload_n dX12_mark_14 rfl (sx_dupR dX12_mark_15 (sx_getI dX12_mark_16 fl_FootQuarrelModel_469 (fun _ _ _ => rfl) (sx_iconst dX12_mark_19 rfl (sx_iadd dX12_mark_20 (sx_putI dX12_mark_21 fl_FootQuarrelModel_469 (by decide) (fun _ _ _ => rfl) (fun _ => ⟨rfl, rfl⟩) (sx_aload_n dX12_mark_24 rfl (sx_iconst dX12_mark_25 rfl (sx_aload_n dX12_mark_26 rfl (sx_getI dX12_mark_27 fl_FootQuarrelModel_469 (fun _ _ _ => rfl) (sx_vcall dX12_mark_30 cf_X12_copies (mg_9 (List.mem_of_getElem? (i := 184) rfl) rfl) (mg_9 (List.mem_of_getElem? (i := 186) rfl) rfl) (mg_p (List.mem_of_getElem? (i := 128) rfl) rfl) rfl c_X12_copies (sx_aload_n dX12_mark_33 rfl (sx_aload_n dX12_mark_34 rfl (sx_getI dX12_mark_35 fl_FootQuarrelModel_469 (fun _ _ _ => rfl) (sx_vcall dX12_mark_38 cf_X12_gives (mg_7 (List.mem_of_getElem? (i := 204) rfl) rfl) (mg_7 (List.mem_of_getElem? (i := 206) rfl) rfl) (mg_p (List.mem_of_getElem? (i := 72) rfl) rfl) rfl c_X12_gives (sx_iret dX12_mark_41 rfl)))))))))))))))) (sx_aload_n dX12_mark_8 rfl (sx_iconst dX12_mark_9 rfl (sx_vcall dX12_mark_10 cf_X12_refuse (mg_7 (List.mem_of_getElem? (i := 128) rfl) rfl) (mg_7 (List.mem_of_getElem? (i := 130) rfl) rfl) (mg_p (List.mem_of_getElem? (i := 54) rfl) rfl) rfl c_X12_refuse (sx_iret dX12_mark_13 rfl)))))))
def sp_X12_mark (G : GT) : Sp := fun as S I J z Q => match as with
  | [.ref a0] => B_X12_mark_0 G 0 0 Q [some (.ref a0)] [] S I J z 0 0
  | _ => False
theorem c_X12_mark {l : Launch} {G : GT} {D : Nat} : ∀ as S I J z Q, sp_X12_mark G as S I J z Q → fqCall l G M_X12_mark (D + 1) 0 0 as S I J z Q := by
  intro as S I J z Q h
  unfold sp_X12_mark at h
  split at h
  · exact fq_enter _ (by decide +kernel) (Nat.le_of_ble_eq_true rfl) rfl (b_X12_mark_0 _ _ _ _ _ _ _ _ h)
  · exact h.elim
theorem dX12_undo_0 : decode cX12_undo 0 = .ok (.aload_n 0, 1) := by decide +kernel
theorem dX12_undo_1 : decode cX12_undo 1 = .ok (.getfield 469, 3) := by decide +kernel
theorem dX12_undo_4 : decode cX12_undo 4 = .ok (.ifCond .ne 10, 3) := by decide +kernel
theorem dX12_undo_7 : decode cX12_undo 7 = .ok (.aload_n 0, 1) := by decide +kernel
theorem dX12_undo_8 : decode cX12_undo 8 = .ok (.bipush 6, 2) := by decide +kernel
theorem dX12_undo_10 : decode cX12_undo 10 = .ok (.invokevirtual 75, 3) := by decide +kernel
theorem dX12_undo_13 : decode cX12_undo 13 = .ok (.ireturn, 1) := by decide +kernel
theorem dX12_undo_14 : decode cX12_undo 14 = .ok (.aload_n 0, 1) := by decide +kernel
theorem dX12_undo_15 : decode cX12_undo 15 = .ok (.aload_n 0, 1) := by decide +kernel
theorem dX12_undo_16 : decode cX12_undo 16 = .ok (.getfield 469, 3) := by decide +kernel
theorem dX12_undo_19 : decode cX12_undo 19 = .ok (.iconst 0, 1) := by decide +kernel
theorem dX12_undo_20 : decode cX12_undo 20 = .ok (.invokevirtual 472, 3) := by decide +kernel
theorem dX12_undo_23 : decode cX12_undo 23 = .ok (.aload_n 0, 1) := by decide +kernel
theorem dX12_undo_24 : decode cX12_undo 24 = .ok (.dup, 1) := by decide +kernel
theorem dX12_undo_25 : decode cX12_undo 25 = .ok (.getfield 469, 3) := by decide +kernel
theorem dX12_undo_28 : decode cX12_undo 28 = .ok (.iconst 1, 1) := by decide +kernel
theorem dX12_undo_29 : decode cX12_undo 29 = .ok (.isub, 1) := by decide +kernel
theorem dX12_undo_30 : decode cX12_undo 30 = .ok (.putfield 469, 3) := by decide +kernel
theorem dX12_undo_33 : decode cX12_undo 33 = .ok (.aload_n 0, 1) := by decide +kernel
theorem dX12_undo_34 : decode cX12_undo 34 = .ok (.aload_n 0, 1) := by decide +kernel
theorem dX12_undo_35 : decode cX12_undo 35 = .ok (.getfield 469, 3) := by decide +kernel
theorem dX12_undo_38 : decode cX12_undo 38 = .ok (.invokevirtual 79, 3) := by decide +kernel
theorem dX12_undo_41 : decode cX12_undo 41 = .ok (.ireturn, 1) := by decide +kernel
abbrev M_X12_undo : MT := (yX12_undo, cX12_undo, 1, (some .int))
theorem cf_X12_undo : fq_cf M_X12_undo 0 := ⟨(mg_1 (List.mem_of_getElem? (i := 15) rfl) rfl), (mg_9 (List.mem_of_getElem? (i := 191) rfl) rfl), ⟨by decide, by decide, by decide +kernel⟩, by decide⟩
def B_X12_undo_0 (G : GT) (mc ms : Nat) (Q : Post) : Cn := ix_aload 0 (ix_getI 12 35 (ix_if_ne (ix_aload 0 (ix_aload 0 (ix_getI 12 35 (ix_pushI 0 (ix_vcall 12 3 0 0 mc ms (sp_X12_copies G) (ix_aload 0 (ix_dupR (ix_getI 12 35 (ix_pushI 1 (ix_isub (ix_putI 12 35 (ix_aload 0 (ix_aload 0 (ix_getI 12 35 (ix_vcall 12 2 0 0 mc ms (sp_X12_gives G) (ix_iret mc ms Q)))))))))))))))) (ix_aload 0 (ix_pushI 6 (ix_vcall 12 2 0 0 mc ms (sp_X12_refuse G) (ix_iret mc ms Q))))))
theorem b_X12_undo_0 {l : Launch} {G : GT} {D mc ms : Nat} {Q : Post} : Imp l G M_X12_undo (D + 1) mc ms Q (B_X12_undo_0 G mc ms Q) 0 := sx_aload_n dX12_undo_0 rfl (sx_getI dX12_undo_1 fl_FootQuarrelModel_469 (fun _ _ _ => rfl) (sx_if_ne 14 dX12_undo_4 (by decide) (sx_aload_n dX12_undo_14 rfl (sx_aload_n dX12_undo_15 rfl (sx_getI dX12_undo_16 fl_FootQuarrelModel_469 (fun _ _ _ => rfl) (sx_iconst dX12_undo_19 rfl (sx_vcall dX12_undo_20 cf_X12_copies (mg_9 (List.mem_of_getElem? (i := 184) rfl) rfl) (mg_9 (List.mem_of_getElem? (i := 186) rfl) rfl) (mg_p (List.mem_of_getElem? (i := 128) rfl) rfl) rfl c_X12_copies (sx_aload_n dX12_undo_23 rfl (sx_dupR dX12_undo_24 (sx_getI dX12_undo_25 fl_FootQuarrelModel_469 (fun _ _ _ => rfl) (sx_iconst dX12_undo_28 rfl (sx_isub dX12_undo_29 (sx_putI dX12_undo_30 fl_FootQuarrelModel_469 (by decide) (fun _ _ _ => rfl) (fun _ => ⟨rfl, rfl⟩) (sx_aload_n dX12_undo_33 rfl (sx_aload_n dX12_undo_34 rfl (sx_getI dX12_undo_35 fl_FootQuarrelModel_469 (fun _ _ _ => rfl) (sx_vcall dX12_undo_38 cf_X12_gives (mg_7 (List.mem_of_getElem? (i := 204) rfl) rfl) (mg_7 (List.mem_of_getElem? (i := 206) rfl) rfl) (mg_p (List.mem_of_getElem? (i := 72) rfl) rfl) rfl c_X12_gives (sx_iret dX12_undo_41 rfl)))))))))))))))) (sx_aload_n dX12_undo_7 rfl (sx_bipush dX12_undo_8 rfl (sx_vcall dX12_undo_10 cf_X12_refuse (mg_7 (List.mem_of_getElem? (i := 128) rfl) rfl) (mg_7 (List.mem_of_getElem? (i := 130) rfl) rfl) (mg_p (List.mem_of_getElem? (i := 54) rfl) rfl) rfl c_X12_refuse (sx_iret dX12_undo_13 rfl))))))
def sp_X12_undo (G : GT) : Sp := fun as S I J z Q => match as with
  | [.ref a0] => B_X12_undo_0 G 0 0 Q [some (.ref a0)] [] S I J z 0 0
  | _ => False
theorem c_X12_undo {l : Launch} {G : GT} {D : Nat} : ∀ as S I J z Q, sp_X12_undo G as S I J z Q → fqCall l G M_X12_undo (D + 1) 0 0 as S I J z Q := by
  intro as S I J z Q h
  unfold sp_X12_undo at h
  split at h
  · exact fq_enter _ (by decide +kernel) (Nat.le_of_ble_eq_true rfl) rfl (b_X12_undo_0 _ _ _ _ _ _ _ _ h)
  · exact h.elim
theorem dX12_isChange_0 : decode cX12_isChange 0 = .ok (.iload_n 0, 1) := by decide +kernel
theorem dX12_isChange_1 : decode cX12_isChange 1 = .ok (.tableswitch 71 1 4 #[31, 41, 51, 61], 31) := by decide +kernel
theorem dX12_isChange_32 : decode cX12_isChange 32 = .ok (.iload_n 1, 1) := by decide +kernel
theorem dX12_isChange_33 : decode cX12_isChange 33 = .ok (.i2l, 1) := by decide +kernel
theorem dX12_isChange_34 : decode cX12_isChange 34 = .ok (.lconst 0, 1) := by decide +kernel
theorem dX12_isChange_35 : decode cX12_isChange 35 = .ok (.ldc2_w 339, 3) := by decide +kernel
theorem dX12_isChange_38 : decode cX12_isChange 38 = .ok (.invokestatic 329, 3) := by decide +kernel
theorem dX12_isChange_41 : decode cX12_isChange 41 = .ok (.ireturn, 1) := by decide +kernel
theorem dX12_isChange_42 : decode cX12_isChange 42 = .ok (.iload_n 1, 1) := by decide +kernel
theorem dX12_isChange_43 : decode cX12_isChange 43 = .ok (.i2l, 1) := by decide +kernel
theorem dX12_isChange_44 : decode cX12_isChange 44 = .ok (.lconst 0, 1) := by decide +kernel
theorem dX12_isChange_45 : decode cX12_isChange 45 = .ok (.ldc2_w 341, 3) := by decide +kernel
theorem dX12_isChange_48 : decode cX12_isChange 48 = .ok (.invokestatic 329, 3) := by decide +kernel
theorem dX12_isChange_51 : decode cX12_isChange 51 = .ok (.ireturn, 1) := by decide +kernel
theorem dX12_isChange_52 : decode cX12_isChange 52 = .ok (.iload_n 1, 1) := by decide +kernel
theorem dX12_isChange_53 : decode cX12_isChange 53 = .ok (.i2l, 1) := by decide +kernel
theorem dX12_isChange_54 : decode cX12_isChange 54 = .ok (.lconst 1, 1) := by decide +kernel
theorem dX12_isChange_55 : decode cX12_isChange 55 = .ok (.ldc2_w 341, 3) := by decide +kernel
theorem dX12_isChange_58 : decode cX12_isChange 58 = .ok (.invokestatic 329, 3) := by decide +kernel
theorem dX12_isChange_61 : decode cX12_isChange 61 = .ok (.ireturn, 1) := by decide +kernel
theorem dX12_isChange_62 : decode cX12_isChange 62 = .ok (.iload_n 1, 1) := by decide +kernel
theorem dX12_isChange_63 : decode cX12_isChange 63 = .ok (.i2l, 1) := by decide +kernel
theorem dX12_isChange_64 : decode cX12_isChange 64 = .ok (.lconst 0, 1) := by decide +kernel
theorem dX12_isChange_65 : decode cX12_isChange 65 = .ok (.ldc2_w 327, 3) := by decide +kernel
theorem dX12_isChange_68 : decode cX12_isChange 68 = .ok (.invokestatic 329, 3) := by decide +kernel
theorem dX12_isChange_71 : decode cX12_isChange 71 = .ok (.ireturn, 1) := by decide +kernel
theorem dX12_isChange_72 : decode cX12_isChange 72 = .ok (.iconst 0, 1) := by decide +kernel
theorem dX12_isChange_73 : decode cX12_isChange 73 = .ok (.ireturn, 1) := by decide +kernel
abbrev M_X12_isChange : MT := (yX12_isChange, cX12_isChange, 2, (some .boolean))
theorem cf_X12_isChange : fq_cf M_X12_isChange 2 := ⟨(mg_1 (List.mem_of_getElem? (i := 15) rfl) rfl), (mg_8 (List.mem_of_getElem? (i := 164) rfl) rfl), ⟨by decide, by decide, by decide +kernel⟩, by decide⟩
def B_X12_isChange_0 (G : GT) (mc ms : Nat) (Q : Post) : Cn := ix_iload 0 (ix_tsw 1 [ix_iload 1 (ix_i2l (ix_pushL 0 (ix_pushL 30 (ix_call 3 0 0 mc ms (sp_X12_isFrom G) (ix_zret mc ms Q))))), ix_iload 1 (ix_i2l (ix_pushL 0 (ix_pushL 9 (ix_call 3 0 0 mc ms (sp_X12_isFrom G) (ix_zret mc ms Q))))), ix_iload 1 (ix_i2l (ix_pushL 1 (ix_pushL 9 (ix_call 3 0 0 mc ms (sp_X12_isFrom G) (ix_zret mc ms Q))))), ix_iload 1 (ix_i2l (ix_pushL 0 (ix_pushL 99 (ix_call 3 0 0 mc ms (sp_X12_isFrom G) (ix_zret mc ms Q)))))] (ix_pushI 0 (ix_zret mc ms Q)))
theorem b_X12_isChange_0 {l : Launch} {G : GT} {D mc ms : Nat} {Q : Post} : Imp l G M_X12_isChange (D + 1) mc ms Q (B_X12_isChange_0 G mc ms Q) 0 := sx_iload_n dX12_isChange_0 rfl (sx_tswA [32, 42, 52, 62] 72 dX12_isChange_1 rfl (by decide) (by decide) (by decide) ⟨sx_iload_n dX12_isChange_32 rfl (sx_i2l dX12_isChange_33 (sx_lconst dX12_isChange_34 rfl (sx_ldc2 dX12_isChange_35 (mg_8 (List.mem_of_getElem? (i := 165) rfl) rfl) (sx_scall dX12_isChange_38 cf_X12_isFrom (mg_8 (List.mem_of_getElem? (i := 131) rfl) rfl) (mg_8 (List.mem_of_getElem? (i := 132) rfl) rfl) c_X12_isFrom (sx_zret dX12_isChange_41 rfl))))), ⟨sx_iload_n dX12_isChange_42 rfl (sx_i2l dX12_isChange_43 (sx_lconst dX12_isChange_44 rfl (sx_ldc2 dX12_isChange_45 (mg_8 (List.mem_of_getElem? (i := 166) rfl) rfl) (sx_scall dX12_isChange_48 cf_X12_isFrom (mg_8 (List.mem_of_getElem? (i := 131) rfl) rfl) (mg_8 (List.mem_of_getElem? (i := 132) rfl) rfl) c_X12_isFrom (sx_zret dX12_isChange_51 rfl))))), ⟨sx_iload_n dX12_isChange_52 rfl (sx_i2l dX12_isChange_53 (sx_lconst dX12_isChange_54 rfl (sx_ldc2 dX12_isChange_55 (mg_8 (List.mem_of_getElem? (i := 166) rfl) rfl) (sx_scall dX12_isChange_58 cf_X12_isFrom (mg_8 (List.mem_of_getElem? (i := 131) rfl) rfl) (mg_8 (List.mem_of_getElem? (i := 132) rfl) rfl) c_X12_isFrom (sx_zret dX12_isChange_61 rfl))))), ⟨sx_iload_n dX12_isChange_62 rfl (sx_i2l dX12_isChange_63 (sx_lconst dX12_isChange_64 rfl (sx_ldc2 dX12_isChange_65 (mg_8 (List.mem_of_getElem? (i := 130) rfl) rfl) (sx_scall dX12_isChange_68 cf_X12_isFrom (mg_8 (List.mem_of_getElem? (i := 131) rfl) rfl) (mg_8 (List.mem_of_getElem? (i := 132) rfl) rfl) c_X12_isFrom (sx_zret dX12_isChange_71 rfl))))), trivial⟩⟩⟩⟩ (sx_iconst dX12_isChange_72 rfl (sx_zret dX12_isChange_73 rfl)))
def sp_X12_isChange (G : GT) : Sp := fun as S I J z Q => match as with
  | [.int w, .int v] => Q (some (.int (bI ((w = 1 ∧ (0 : Int64) ≤ v.toInt64 ∧ v.toInt64 ≤ 30) ∨ (w = 2 ∧ (0 : Int64) ≤ v.toInt64 ∧ v.toInt64 ≤ 9) ∨ (w = 3 ∧ (1 : Int64) ≤ v.toInt64 ∧ v.toInt64 ≤ 9) ∨ (w = 4 ∧ (0 : Int64) ≤ v.toInt64 ∧ v.toInt64 ≤ 99))))) S I J z
  | _ => False
set_option maxHeartbeats 4000000 in
set_option maxRecDepth 20000 in
theorem c_X12_isChange {l : Launch} {G : GT} {D : Nat} : ∀ as S I J z Q, sp_X12_isChange G as S I J z Q → fqCall l G M_X12_isChange (D + 1) 0 0 as S I J z Q := by
  intro as S I J z Q h
  unfold sp_X12_isChange at h
  split at h
  · next w v =>
    refine fq_enter [some (.int w), some (.int v)] (by decide +kernel) (Nat.le_of_ble_eq_true rfl) rfl (b_X12_isChange_0 _ _ _ _ _ _ _ _ ?_)
    simp (disch := omega) only [B_X12_isChange_0, sp_X12_isFrom, nI_1, nI_add, nI_clamp, nI_pin, nI_neg, nI_nonneg, nI_leE, nI_ltE, nI_eqE, Nat.not_le, Nat.not_lt, fq_10, fq_01, fq_rr, ix_aald, ix_aast, ix_abs, ix_alen, ix_aload, ix_aret, ix_astore, ix_bald, ix_bast, ix_call, ix_cpyI, ix_cpyJ, ix_dead, ix_dup2, ix_dup2L, ix_dupI, ix_dupR, ix_dupx1, ix_getI, ix_getJ, ix_getR, ix_gfm, ix_gtab, ix_i2b, ix_i2c, ix_i2l, ix_i2s, ix_iadd, ix_iald, ix_iand, ix_iast, ix_icall, ix_icmp_eq, ix_icmp_ge, ix_icmp_gt, ix_icmp_le, ix_icmp_lt, ix_icmp_ne, ix_idiv, ix_if_eq, ix_if_ge, ix_if_gt, ix_if_le, ix_if_lt, ix_if_ne, ix_iinc, ix_iload, ix_imul, ix_ineg, ix_ior, ix_irem, ix_iret, ix_ishl, ix_ishr, ix_istore, ix_isub, ix_iushr, ix_ixor, ix_l2i, ix_ladd, ix_lald, ix_land, ix_last, ix_lcmp, ix_ldcS, ix_ldiv, ix_lload, ix_lmul, ix_lor, ix_lrem, ix_lret, ix_lshl, ix_lstore, ix_lsub, ix_lsw, ix_max, ix_min, ix_new, ix_newa, ix_nret, ix_oinit, ix_pop2L, ix_popI, ix_pushI, ix_pushL, ix_putI, ix_putJ, ix_putR, ix_putZ, ix_sbald, ix_sgetC, ix_sgetV, ix_slen, ix_strc, ix_tald, ix_tsw, ix_vcall, ix_vret, ix_zret, stL, stL2, kilL, popN, fq_sw, fq_lsw, List.map_cons, List.map_nil, List.getElem?_cons_zero, List.getElem?_cons_succ, Option.toList_some, Option.toList_none, List.cons_append, List.nil_append, List.length_cons, List.length_nil, List.sum_cons, List.sum_nil, cat_i, cat_l, cat_r, true_and, and_true, Nat.zero_add, Nat.add_zero, Nat.le_refl, Nat.zero_le, Nat.reduceAdd, Nat.reduceLeDiff, exists_eq_left', Option.some.injEq, not_true_eq_false, not_false_eq_true, false_implies, true_implies, implies_true, and_self, or_true, true_or, or_false, false_or]
    have t : ∀ k : Int32, ¬ w = k → ¬ w.toInt = k.toInt := fun k h q => h (Int32.toInt_inj.mp q)
    by_cases h1 : w = 1
    · subst h1
      have e : bI ((1 : Int32) = 1 ∧ 0 ≤ v.toInt64 ∧ v.toInt64 ≤ 30 ∨ (1 : Int32) = 2 ∧ 0 ≤ v.toInt64 ∧ v.toInt64 ≤ 9 ∨ (1 : Int32) = 3 ∧ 1 ≤ v.toInt64 ∧ v.toInt64 ≤ 9 ∨ (1 : Int32) = 4 ∧ 0 ≤ v.toInt64 ∧ v.toInt64 ≤ 99) = bI (0 ≤ v.toInt64 ∧ v.toInt64 ≤ 30) := bI_c (by simp)
      rw [e] at h
      exact ⟨fun _ => ⟨by rw [bI_01]; trivial, h⟩, fun q => absurd (by decide) q⟩
    have n1 := t 1 h1
    by_cases h2 : w = 2
    · subst h2
      have e : bI ((2 : Int32) = 1 ∧ 0 ≤ v.toInt64 ∧ v.toInt64 ≤ 30 ∨ (2 : Int32) = 2 ∧ 0 ≤ v.toInt64 ∧ v.toInt64 ≤ 9 ∨ (2 : Int32) = 3 ∧ 1 ≤ v.toInt64 ∧ v.toInt64 ≤ 9 ∨ (2 : Int32) = 4 ∧ 0 ≤ v.toInt64 ∧ v.toInt64 ≤ 99) = bI (0 ≤ v.toInt64 ∧ v.toInt64 ≤ 9) := bI_c (by simp)
      rw [e] at h
      exact ⟨fun q => absurd q (by decide), fun _ => ⟨fun _ => ⟨by rw [bI_01]; trivial, h⟩, fun q => absurd (by decide) q⟩⟩
    have n2 := t 2 h2
    by_cases h3 : w = 3
    · subst h3
      have e : bI ((3 : Int32) = 1 ∧ 0 ≤ v.toInt64 ∧ v.toInt64 ≤ 30 ∨ (3 : Int32) = 2 ∧ 0 ≤ v.toInt64 ∧ v.toInt64 ≤ 9 ∨ (3 : Int32) = 3 ∧ 1 ≤ v.toInt64 ∧ v.toInt64 ≤ 9 ∨ (3 : Int32) = 4 ∧ 0 ≤ v.toInt64 ∧ v.toInt64 ≤ 99) = bI (1 ≤ v.toInt64 ∧ v.toInt64 ≤ 9) := bI_c (by simp)
      rw [e] at h
      exact ⟨fun q => absurd q (by decide), fun _ => ⟨fun q => absurd q (by decide), fun _ => ⟨fun _ => ⟨by rw [bI_01]; trivial, h⟩, fun q => absurd (by decide) q⟩⟩⟩
    have n3 := t 3 h3
    by_cases h4 : w = 4
    · subst h4
      have e : bI ((4 : Int32) = 1 ∧ 0 ≤ v.toInt64 ∧ v.toInt64 ≤ 30 ∨ (4 : Int32) = 2 ∧ 0 ≤ v.toInt64 ∧ v.toInt64 ≤ 9 ∨ (4 : Int32) = 3 ∧ 1 ≤ v.toInt64 ∧ v.toInt64 ≤ 9 ∨ (4 : Int32) = 4 ∧ 0 ≤ v.toInt64 ∧ v.toInt64 ≤ 99) = bI (0 ≤ v.toInt64 ∧ v.toInt64 ≤ 99) := bI_c (by simp)
      rw [e] at h
      exact ⟨fun q => absurd q (by decide), fun _ => ⟨fun q => absurd q (by decide), fun _ => ⟨fun q => absurd q (by decide), fun _ => ⟨fun _ => ⟨by rw [bI_01]; trivial, h⟩, fun q => absurd (by decide) q⟩⟩⟩⟩
    have n4 := t 4 h4
    rw [bI_f (by simp [h1, h2, h3, h4])] at h
    exact ⟨fun q => absurd q n1, fun _ => ⟨fun q => absurd q n2, fun _ => ⟨fun q => absurd q n3, fun _ => ⟨fun q => absurd q n4, fun _ => h⟩⟩⟩⟩
  · exact h.elim
theorem dX12_change_0 : decode cX12_change 0 = .ok (.aload_n 0, 1) := by decide +kernel
theorem dX12_change_1 : decode cX12_change 1 = .ok (.iload_n 1, 1) := by decide +kernel
theorem dX12_change_2 : decode cX12_change 2 = .ok (.invokevirtual 244, 3) := by decide +kernel
theorem dX12_change_5 : decode cX12_change 5 = .ok (.ifCond .eq 11, 3) := by decide +kernel
theorem dX12_change_8 : decode cX12_change 8 = .ok (.iload_n 2, 1) := by decide +kernel
theorem dX12_change_9 : decode cX12_change 9 = .ok (.iload_n 3, 1) := by decide +kernel
theorem dX12_change_10 : decode cX12_change 10 = .ok (.invokestatic 343, 3) := by decide +kernel
theorem dX12_change_13 : decode cX12_change 13 = .ok (.ifCond .ne 9, 3) := by decide +kernel
theorem dX12_change_16 : decode cX12_change 16 = .ok (.aload_n 0, 1) := by decide +kernel
theorem dX12_change_17 : decode cX12_change 17 = .ok (.iconst 1, 1) := by decide +kernel
theorem dX12_change_18 : decode cX12_change 18 = .ok (.invokevirtual 82, 3) := by decide +kernel
theorem dX12_change_21 : decode cX12_change 21 = .ok (.ireturn, 1) := by decide +kernel
theorem dX12_change_22 : decode cX12_change 22 = .ok (.aload_n 0, 1) := by decide +kernel
theorem dX12_change_23 : decode cX12_change 23 = .ok (.getfield 7, 3) := by decide +kernel
theorem dX12_change_26 : decode cX12_change 26 = .ok (.iload_n 1, 1) := by decide +kernel
theorem dX12_change_27 : decode cX12_change 27 = .ok (.invokestatic 250, 3) := by decide +kernel
theorem dX12_change_30 : decode cX12_change 30 = .ok (.iload_n 2, 1) := by decide +kernel
theorem dX12_change_31 : decode cX12_change 31 = .ok (.iadd, 1) := by decide +kernel
theorem dX12_change_32 : decode cX12_change 32 = .ok (.iload_n 3, 1) := by decide +kernel
theorem dX12_change_33 : decode cX12_change 33 = .ok (.iastore, 1) := by decide +kernel
theorem dX12_change_34 : decode cX12_change 34 = .ok (.aload_n 0, 1) := by decide +kernel
theorem dX12_change_35 : decode cX12_change 35 = .ok (.iconst 0, 1) := by decide +kernel
theorem dX12_change_36 : decode cX12_change 36 = .ok (.invokevirtual 82, 3) := by decide +kernel
theorem dX12_change_39 : decode cX12_change 39 = .ok (.ireturn, 1) := by decide +kernel
abbrev M_X12_change : MT := (yX12_change, cX12_change, 4, (some .boolean))
theorem cf_X12_change : fq_cf M_X12_change 3 := ⟨(mg_1 (List.mem_of_getElem? (i := 15) rfl) rfl), (mg_8 (List.mem_of_getElem? (i := 161) rfl) rfl), ⟨by decide, by decide, by decide +kernel⟩, by decide⟩
def B_X12_change_16 (G : GT) (mc ms : Nat) (Q : Post) : Cn := ix_aload 0 (ix_pushI 1 (ix_vcall 12 2 0 0 mc ms (sp_X12_is G) (ix_zret mc ms Q)))
theorem b_X12_change_16 {l : Launch} {G : GT} {D mc ms : Nat} {Q : Post} : Imp l G M_X12_change (D + 2) mc ms Q (B_X12_change_16 G mc ms Q) 16 := sx_aload_n dX12_change_16 rfl (sx_iconst dX12_change_17 rfl (sx_vcall dX12_change_18 cf_X12_is (mg_7 (List.mem_of_getElem? (i := 68) rfl) rfl) (mg_7 (List.mem_of_getElem? (i := 70) rfl) rfl) (mg_p (List.mem_of_getElem? (i := 48) rfl) rfl) rfl c_X12_is (sx_zret dX12_change_21 rfl)))
def B_X12_change_0 (G : GT) (mc ms : Nat) (Q : Post) : Cn := ix_aload 0 (ix_iload 1 (ix_vcall 12 2 0 0 mc ms (sp_X12_isPerson G) (ix_if_eq ((B_X12_change_16 G mc ms Q)) (ix_iload 2 (ix_iload 3 (ix_call 2 0 0 mc ms (sp_X12_isChange G) (ix_if_ne (ix_aload 0 (ix_getR 12 0 (ix_iload 1 (ix_call 1 0 0 mc ms (sp_X12_personRow G) (ix_iload 2 (ix_iadd (ix_iload 3 (ix_iast (ix_aload 0 (ix_pushI 0 (ix_vcall 12 2 0 0 mc ms (sp_X12_is G) (ix_zret mc ms Q)))))))))))) ((B_X12_change_16 G mc ms Q)))))))))
theorem b_X12_change_0 {l : Launch} {G : GT} {D mc ms : Nat} {Q : Post} : Imp l G M_X12_change (D + 2) mc ms Q (B_X12_change_0 G mc ms Q) 0 := sx_aload_n dX12_change_0 rfl (sx_iload_n dX12_change_1 rfl (sx_vcall dX12_change_2 cf_X12_isPerson (mg_8 (List.mem_of_getElem? (i := 46) rfl) rfl) (mg_8 (List.mem_of_getElem? (i := 48) rfl) rfl) (mg_p (List.mem_of_getElem? (i := 86) rfl) rfl) rfl c_X12_isPerson (sx_if_eq 16 dX12_change_5 (by decide) (b_X12_change_16) (sx_iload_n dX12_change_8 rfl (sx_iload_n dX12_change_9 rfl (sx_scall dX12_change_10 cf_X12_isChange (mg_8 (List.mem_of_getElem? (i := 162) rfl) rfl) (mg_8 (List.mem_of_getElem? (i := 163) rfl) rfl) c_X12_isChange (sx_if_ne 22 dX12_change_13 (by decide) (sx_aload_n dX12_change_22 rfl (sx_getR dX12_change_23 fl_FootQuarrelModel_7 (fun _ _ _ => rfl) (sx_iload_n dX12_change_26 rfl (sx_scall dX12_change_27 cf_X12_personRow (mg_8 (List.mem_of_getElem? (i := 4) rfl) rfl) (mg_8 (List.mem_of_getElem? (i := 5) rfl) rfl) c_X12_personRow (sx_iload_n dX12_change_30 rfl (sx_iadd dX12_change_31 (sx_iload_n dX12_change_32 rfl (sx_iast dX12_change_33 (sx_aload_n dX12_change_34 rfl (sx_iconst dX12_change_35 rfl (sx_vcall dX12_change_36 cf_X12_is (mg_7 (List.mem_of_getElem? (i := 68) rfl) rfl) (mg_7 (List.mem_of_getElem? (i := 70) rfl) rfl) (mg_p (List.mem_of_getElem? (i := 48) rfl) rfl) rfl c_X12_is (sx_zret dX12_change_39 rfl)))))))))))) (b_X12_change_16))))))))
def sp_X12_change (G : GT) : Sp := fun as S I J z Q => match as with
  | [.ref a0, .int a1, .int a2, .int a3] => B_X12_change_0 G 0 0 Q [some (.ref a0), some (.int a1), some (.int a2), some (.int a3)] [] S I J z 0 0
  | _ => False
theorem c_X12_change {l : Launch} {G : GT} {D : Nat} : ∀ as S I J z Q, sp_X12_change G as S I J z Q → fqCall l G M_X12_change (D + 2) 0 0 as S I J z Q := by
  intro as S I J z Q h
  unfold sp_X12_change at h
  split at h
  · exact fq_enter _ (by decide +kernel) (Nat.le_of_ble_eq_true rfl) rfl (b_X12_change_0 _ _ _ _ _ _ _ _ h)
  · exact h.elim
