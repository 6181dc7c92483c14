-- what is wise: of two, and of all
/-- may the one say to the other: 0, 1 no such two, 7 no wall between -/
def pst (I : IH) (s : Nat) (a b : Int32) : Int32 := if ¬ ((0 ≤ a ∧ a ≤ I s 6 - 1) ∧ (0 ≤ b ∧ b ≤ I s 6 - 1) ∧ ¬ a = b) then 1 else if shW (I (s + 24 + a.toNatClampNeg) 1) (I (s + 24 + b.toNatClampNeg) 1) (I s 13) = -1 then 7 else 0
theorem pst_0 {I : IH} {s : Nat} {a b : Int32} {c : Nat} (hc : c ≤ 8) (hc1 : I s 6 = nI c) (h : pst I s a b = 0) : ∃ i j, a = nI i ∧ b = nI j ∧ i < c ∧ j < c ∧ ¬ i = j ∧ ¬ shW (I (s + 24 + i) 1) (I (s + 24 + j) 1) (I s 13) = -1 := by
  unfold pst at h
  by_cases h1 : (0 ≤ a ∧ a ≤ I s 6 - 1) ∧ (0 ≤ b ∧ b ≤ I s 6 - 1) ∧ ¬ a = b
  · rw [if_neg (fun q => q h1)] at h
    rw [hc1] at h1
    obtain ⟨i, rfl, hi⟩ := (in_pred (by omega)).mp h1.1
    obtain ⟨j, rfl, hj⟩ := (in_pred (by omega)).mp h1.2.1
    rw [nI_clamp (by omega), nI_clamp (by omega)] at h
    refine ⟨i, j, rfl, rfl, hi, hj, fun q => h1.2.2 (by rw [q]), fun q => ?_⟩
    rw [if_pos q] at h
    exact absurd h (by decide)
  · rw [if_pos h1] at h
    exact absurd h (by decide)
theorem dX11_pairStatus_0 : decode cX11_pairStatus 0 = .ok (.aload_n 0, 1) := by decide +kernel
theorem dX11_pairStatus_1 : decode cX11_pairStatus 1 = .ok (.iload_n 1, 1) := by decide +kernel
theorem dX11_pairStatus_2 : decode cX11_pairStatus 2 = .ok (.iload_n 2, 1) := by decide +kernel
theorem dX11_pairStatus_3 : decode cX11_pairStatus 3 = .ok (.invokevirtual 284, 3) := by decide +kernel
theorem dX11_pairStatus_6 : decode cX11_pairStatus 6 = .ok (.ifCond .ne 5, 3) := by decide +kernel
theorem dX11_pairStatus_9 : decode cX11_pairStatus 9 = .ok (.iconst 1, 1) := by decide +kernel
theorem dX11_pairStatus_10 : decode cX11_pairStatus 10 = .ok (.ireturn, 1) := by decide +kernel
theorem dX11_pairStatus_11 : decode cX11_pairStatus 11 = .ok (.aload_n 0, 1) := by decide +kernel
theorem dX11_pairStatus_12 : decode cX11_pairStatus 12 = .ok (.getfield 46, 3) := by decide +kernel
theorem dX11_pairStatus_15 : decode cX11_pairStatus 15 = .ok (.iload_n 1, 1) := by decide +kernel
theorem dX11_pairStatus_16 : decode cX11_pairStatus 16 = .ok (.iload_n 2, 1) := by decide +kernel
theorem dX11_pairStatus_17 : decode cX11_pairStatus 17 = .ok (.invokevirtual 287, 3) := by decide +kernel
theorem dX11_pairStatus_20 : decode cX11_pairStatus 20 = .ok (.iconst (-1), 1) := by decide +kernel
theorem dX11_pairStatus_21 : decode cX11_pairStatus 21 = .ok (.if_icmp .ne 8, 3) := by decide +kernel
theorem dX11_pairStatus_24 : decode cX11_pairStatus 24 = .ok (.bipush 7, 2) := by decide +kernel
theorem dX11_pairStatus_26 : decode cX11_pairStatus 26 = .ok (.goto 4, 3) := by decide +kernel
theorem dX11_pairStatus_29 : decode cX11_pairStatus 29 = .ok (.iconst 0, 1) := by decide +kernel
theorem dX11_pairStatus_30 : decode cX11_pairStatus 30 = .ok (.ireturn, 1) := by decide +kernel
abbrev M_X11_pairStatus : MT := (yX11_pairStatus, cX11_pairStatus, 3, (some .int))
theorem cf_X11_pairStatus : fq_cf M_X11_pairStatus 2 := ⟨(mg_1 (List.mem_of_getElem? (i := 1) rfl) rfl), (mg_5 (List.mem_of_getElem? (i := 18) rfl) rfl), ⟨by decide, by decide, by decide +kernel⟩, by decide⟩
def B_X11_pairStatus_30 (G : GT) (mc ms : Nat) (Q : Post) : Cn := ix_iret mc ms Q
theorem b_X11_pairStatus_30 {l : Launch} {G : GT} {D mc ms : Nat} {Q : Post} : Imp l G M_X11_pairStatus (D + 3) mc ms Q (B_X11_pairStatus_30 G mc ms Q) 30 := sx_iret dX11_pairStatus_30 rfl
def B_X11_pairStatus_0 (G : GT) (mc ms : Nat) (Q : Post) : Cn := ix_aload 0 (ix_iload 1 (ix_iload 2 (ix_vcall 11 3 0 0 mc ms (sp_X11_areTwo G) (ix_if_ne (ix_aload 0 (ix_getR 11 6 (ix_iload 1 (ix_iload 2 (ix_vcall 6 3 0 0 mc ms (sp_X6_sharedWall G) (ix_pushI (-1) (ix_icmp_ne (ix_pushI 0 ((B_X11_pairStatus_30 G mc ms Q))) (ix_pushI 7 ((B_X11_pairStatus_30 G mc ms Q)))))))))) (ix_pushI 1 (ix_iret mc ms Q))))))
theorem b_X11_pairStatus_0 {l : Launch} {G : GT} {D mc ms : Nat} {Q : Post} : Imp l G M_X11_pairStatus (D + 3) mc ms Q (B_X11_pairStatus_0 G mc ms Q) 0 := sx_aload_n dX11_pairStatus_0 rfl (sx_iload_n dX11_pairStatus_1 rfl (sx_iload_n dX11_pairStatus_2 rfl (sx_vcall dX11_pairStatus_3 cf_X11_areTwo (mg_4 (List.mem_of_getElem? (i := 228) rfl) rfl) (mg_4 (List.mem_of_getElem? (i := 230) rfl) rfl) (mg_p (List.mem_of_getElem? (i := 27) rfl) rfl) rfl c_X11_areTwo (sx_if_ne 11 dX11_pairStatus_6 (by decide) (sx_aload_n dX11_pairStatus_11 rfl (sx_getR dX11_pairStatus_12 fl_FootQuarrel_46 (fun _ _ _ => rfl) (sx_iload_n dX11_pairStatus_15 rfl (sx_iload_n dX11_pairStatus_16 rfl (sx_vcall dX11_pairStatus_17 cf_X6_sharedWall (mg_4 (List.mem_of_getElem? (i := 232) rfl) rfl) (mg_4 (List.mem_of_getElem? (i := 233) rfl) rfl) (mg_4 (List.mem_of_getElem? (i := 234) rfl) rfl) rfl c_X6_sharedWall (sx_iconst dX11_pairStatus_20 rfl (sx_icmp_ne 29 dX11_pairStatus_21 (by decide) (sx_iconst dX11_pairStatus_29 rfl (b_X11_pairStatus_30)) (sx_bipush dX11_pairStatus_24 rfl (sx_goto 30 dX11_pairStatus_26 (by decide) (b_X11_pairStatus_30)))))))))) (sx_iconst dX11_pairStatus_9 rfl (sx_iret dX11_pairStatus_10 rfl))))))
def sp_X11_pairStatus (G : GT) : Sp := fun as S I J z Q => match as with
  | [.ref X, .int a, .int b] => ∃ s, xsh S X s ∧ okN (I s 6) 8 ∧ Q (some (.int (pst I s a b))) S I J z
  | _ => False
set_option maxHeartbeats 4000000 in
set_option maxRecDepth 20000 in
theorem c_X11_pairStatus {l : Launch} {G : GT} {D : Nat} : ∀ as S I J z Q, sp_X11_pairStatus G as S I J z Q → fqCall l G M_X11_pairStatus (D + 3) 0 0 as S I J z Q := by
  intro as S I J z Q h
  unfold sp_X11_pairStatus at h
  split at h
  · next X a b =>
    obtain ⟨s, ⟨x1, x2, hs⟩, ho, hQ⟩ := h
    obtain ⟨c, hc, hc1, hc2⟩ := ho.ex
    by_cases h1 : (0 ≤ a ∧ a ≤ I s 6 - 1) ∧ (0 ≤ b ∧ b ≤ I s 6 - 1) ∧ ¬ a = b
    · have h1' := h1
      unfold pst at hQ
      rw [if_neg (fun q => q h1)] at hQ
      rw [hc1] at h1'
      obtain ⟨i, rfl, hi⟩ := (in_pred (by omega)).mp h1'.1
      obtain ⟨j, rfl, hj⟩ := (in_pred (by omega)).mp h1'.2.1
      rw [nI_clamp (by omega), nI_clamp (by omega)] at hQ
      refine fq_enter [some (.ref X), some (.int (nI i)), some (.int (nI j))] (by decide +kernel) (Nat.le_of_ble_eq_true rfl) rfl (b_X11_pairStatus_0 _ _ _ _ _ _ _ _ ?_)
      simp (disch := omega) only [B_X11_pairStatus_0, B_X11_pairStatus_30, sp_X11_areTwo, sp_X6_sharedWall, x1, x2, hs, hs.k, h1, nI_clamp, bI_01, bI_01b, bI_0, bI_tr, bI_fl, nI_1, nI_add, nI_clamp, nI_pin, nI_neg, nI_nonneg, nI_leE, nI_ltE, nI_eqE, Nat.not_le, Nat.not_lt, fq_10, fq_01, fq_rr, ix_aald, ix_aast, ix_abs, ix_alen, ix_aload, ix_aret, ix_astore, ix_bald, ix_bast, ix_call, ix_cpyI, ix_cpyJ, ix_dead, ix_dup2, ix_dup2L, ix_dupI, ix_dupR, ix_dupx1, ix_getI, ix_getJ, ix_getR, ix_gfm, ix_gtab, ix_i2b, ix_i2c, ix_i2l, ix_i2s, ix_iadd, ix_iald, ix_iand, ix_iast, ix_icall, ix_icmp_eq, ix_icmp_ge, ix_icmp_gt, ix_icmp_le, ix_icmp_lt, ix_icmp_ne, ix_idiv, ix_if_eq, ix_if_ge, ix_if_gt, ix_if_le, ix_if_lt, ix_if_ne, ix_iinc, ix_iload, ix_imul, ix_ineg, ix_ior, ix_irem, ix_iret, ix_ishl, ix_ishr, ix_istore, ix_isub, ix_iushr, ix_ixor, ix_l2i, ix_ladd, ix_lald, ix_land, ix_last, ix_lcmp, ix_ldcS, ix_ldiv, ix_lload, ix_lmul, ix_lor, ix_lrem, ix_lret, ix_lshl, ix_lstore, ix_lsub, ix_lsw, ix_max, ix_min, ix_new, ix_newa, ix_nret, ix_oinit, ix_pop2L, ix_popI, ix_pushI, ix_pushL, ix_putI, ix_putJ, ix_putR, ix_putZ, ix_sbald, ix_sgetC, ix_sgetV, ix_slen, ix_strc, ix_tald, ix_tsw, ix_vcall, ix_vret, ix_zret, stL, stL2, kilL, popN, fq_sw, fq_lsw, List.map_cons, List.map_nil, List.getElem?_cons_zero, List.getElem?_cons_succ, Option.toList_some, Option.toList_none, List.cons_append, List.nil_append, List.length_cons, List.length_nil, List.sum_cons, List.sum_nil, cat_i, cat_l, cat_r, true_and, and_true, Nat.zero_add, Nat.add_zero, Nat.le_refl, Nat.zero_le, Nat.reduceAdd, Nat.reduceLeDiff, exists_eq_left', Option.some.injEq, not_true_eq_false, not_false_eq_true, false_implies, true_implies, implies_true, and_self, or_true, true_or, or_false, false_or]
      refine ⟨fun h => ?_, fun h => ?_⟩
      · rw [if_neg h] at hQ
        exact hQ
      · rw [if_pos h] at hQ
        exact hQ
    · unfold pst at hQ
      rw [if_pos h1] at hQ
      refine fq_enter [some (.ref X), some (.int a), some (.int b)] (by decide +kernel) (Nat.le_of_ble_eq_true rfl) rfl (b_X11_pairStatus_0 _ _ _ _ _ _ _ _ ?_)
      simp (disch := omega) only [B_X11_pairStatus_0, B_X11_pairStatus_30, sp_X11_areTwo, sp_X6_sharedWall, x1, x2, hs, hs.k, h1, bI_01, bI_01b, bI_0, bI_tr, bI_fl, nI_1, nI_add, nI_clamp, nI_pin, nI_neg, nI_nonneg, nI_leE, nI_ltE, nI_eqE, Nat.not_le, Nat.not_lt, fq_10, fq_01, fq_rr, ix_aald, ix_aast, ix_abs, ix_alen, ix_aload, ix_aret, ix_astore, ix_bald, ix_bast, ix_call, ix_cpyI, ix_cpyJ, ix_dead, ix_dup2, ix_dup2L, ix_dupI, ix_dupR, ix_dupx1, ix_getI, ix_getJ, ix_getR, ix_gfm, ix_gtab, ix_i2b, ix_i2c, ix_i2l, ix_i2s, ix_iadd, ix_iald, ix_iand, ix_iast, ix_icall, ix_icmp_eq, ix_icmp_ge, ix_icmp_gt, ix_icmp_le, ix_icmp_lt, ix_icmp_ne, ix_idiv, ix_if_eq, ix_if_ge, ix_if_gt, ix_if_le, ix_if_lt, ix_if_ne, ix_iinc, ix_iload, ix_imul, ix_ineg, ix_ior, ix_irem, ix_iret, ix_ishl, ix_ishr, ix_istore, ix_isub, ix_iushr, ix_ixor, ix_l2i, ix_ladd, ix_lald, ix_land, ix_last, ix_lcmp, ix_ldcS, ix_ldiv, ix_lload, ix_lmul, ix_lor, ix_lrem, ix_lret, ix_lshl, ix_lstore, ix_lsub, ix_lsw, ix_max, ix_min, ix_new, ix_newa, ix_nret, ix_oinit, ix_pop2L, ix_popI, ix_pushI, ix_pushL, ix_putI, ix_putJ, ix_putR, ix_putZ, ix_sbald, ix_sgetC, ix_sgetV, ix_slen, ix_strc, ix_tald, ix_tsw, ix_vcall, ix_vret, ix_zret, stL, stL2, kilL, popN, fq_sw, fq_lsw, List.map_cons, List.map_nil, List.getElem?_cons_zero, List.getElem?_cons_succ, Option.toList_some, Option.toList_none, List.cons_append, List.nil_append, List.length_cons, List.length_nil, List.sum_cons, List.sum_nil, cat_i, cat_l, cat_r, true_and, and_true, Nat.zero_add, Nat.add_zero, Nat.le_refl, Nat.zero_le, Nat.reduceAdd, Nat.reduceLeDiff, exists_eq_left', Option.some.injEq, not_true_eq_false, not_false_eq_true, false_implies, true_implies, implies_true, and_self, or_true, true_or, or_false, false_or]
      exact hQ
  · exact h.elim
theorem dX11_gameStatus_0 : decode cX11_gameStatus 0 = .ok (.iload_n 3, 1) := by decide +kernel
theorem dX11_gameStatus_1 : decode cX11_gameStatus 1 = .ok (.iload 4, 2) := by decide +kernel
theorem dX11_gameStatus_3 : decode cX11_gameStatus 3 = .ok (.iconst 4, 1) := by decide +kernel
theorem dX11_gameStatus_4 : decode cX11_gameStatus 4 = .ok (.invokestatic 74, 3) := by decide +kernel
theorem dX11_gameStatus_7 : decode cX11_gameStatus 7 = .ok (.ifCond .eq 12, 3) := by decide +kernel
theorem dX11_gameStatus_10 : decode cX11_gameStatus 10 = .ok (.aload_n 0, 1) := by decide +kernel
theorem dX11_gameStatus_11 : decode cX11_gameStatus 11 = .ok (.iload_n 1, 1) := by decide +kernel
theorem dX11_gameStatus_12 : decode cX11_gameStatus 12 = .ok (.iload_n 2, 1) := by decide +kernel
theorem dX11_gameStatus_13 : decode cX11_gameStatus 13 = .ok (.invokevirtual 293, 3) := by decide +kernel
theorem dX11_gameStatus_16 : decode cX11_gameStatus 16 = .ok (.goto 4, 3) := by decide +kernel
theorem dX11_gameStatus_19 : decode cX11_gameStatus 19 = .ok (.iconst 1, 1) := by decide +kernel
theorem dX11_gameStatus_20 : decode cX11_gameStatus 20 = .ok (.ireturn, 1) := by decide +kernel
abbrev M_X11_gameStatus : MT := (yX11_gameStatus, cX11_gameStatus, 5, (some .int))
theorem cf_X11_gameStatus : fq_cf M_X11_gameStatus 4 := ⟨(mg_1 (List.mem_of_getElem? (i := 1) rfl) rfl), (mg_6 (List.mem_of_getElem? (i := 7) rfl) rfl), ⟨by decide, by decide, by decide +kernel⟩, by decide⟩
def B_X11_gameStatus_20 (G : GT) (mc ms : Nat) (Q : Post) : Cn := ix_iret mc ms Q
theorem b_X11_gameStatus_20 {l : Launch} {G : GT} {D mc ms : Nat} {Q : Post} : Imp l G M_X11_gameStatus (D + 4) mc ms Q (B_X11_gameStatus_20 G mc ms Q) 20 := sx_iret dX11_gameStatus_20 rfl
def B_X11_gameStatus_0 (G : GT) (mc ms : Nat) (Q : Post) : Cn := ix_iload 3 (ix_iload 4 (ix_pushI 4 (ix_call 3 0 0 mc ms (sp_X11_isWithin G) (ix_if_eq (ix_pushI 1 ((B_X11_gameStatus_20 G mc ms Q))) (ix_aload 0 (ix_iload 1 (ix_iload 2 (ix_vcall 11 3 0 0 mc ms (sp_X11_pairStatus G) ((B_X11_gameStatus_20 G mc ms Q))))))))))
theorem b_X11_gameStatus_0 {l : Launch} {G : GT} {D mc ms : Nat} {Q : Post} : Imp l G M_X11_gameStatus (D + 4) mc ms Q (B_X11_gameStatus_0 G mc ms Q) 0 := sx_iload_n dX11_gameStatus_0 rfl (sx_iload dX11_gameStatus_1 (sx_iconst dX11_gameStatus_3 rfl (sx_scall dX11_gameStatus_4 cf_X11_isWithin (mg_3 (List.mem_of_getElem? (i := 85) rfl) rfl) (mg_3 (List.mem_of_getElem? (i := 86) rfl) rfl) c_X11_isWithin (sx_if_eq 19 dX11_gameStatus_7 (by decide) (sx_iconst dX11_gameStatus_19 rfl (b_X11_gameStatus_20)) (sx_aload_n dX11_gameStatus_10 rfl (sx_iload_n dX11_gameStatus_11 rfl (sx_iload_n dX11_gameStatus_12 rfl (sx_vcall dX11_gameStatus_13 cf_X11_pairStatus (mg_5 (List.mem_of_getElem? (i := 15) rfl) rfl) (mg_5 (List.mem_of_getElem? (i := 17) rfl) rfl) (mg_p (List.mem_of_getElem? (i := 28) rfl) rfl) rfl c_X11_pairStatus (sx_goto 20 dX11_gameStatus_16 (by decide) (b_X11_gameStatus_20))))))))))
def gst (I : IH) (s : Nat) (a b t f : Int32) : Int32 := if f ≤ t ∧ t ≤ 4 then pst I s a b else 1
def sp_X11_gameStatus (G : GT) : Sp := fun as S I J z Q => match as with
  | [.ref X, .int a, .int b, .int t, .int f] => ∃ s, xsh S X s ∧ okN (I s 6) 8 ∧ Q (some (.int (gst I s a b t f))) S I J z
  | _ => False
set_option maxHeartbeats 4000000 in
set_option maxRecDepth 20000 in
theorem c_X11_gameStatus {l : Launch} {G : GT} {D : Nat} : ∀ as S I J z Q, sp_X11_gameStatus G as S I J z Q → fqCall l G M_X11_gameStatus (D + 4) 0 0 as S I J z Q := by
  intro as S I J z Q h
  unfold sp_X11_gameStatus at h
  split at h
  · next X a b t f =>
    obtain ⟨s, ⟨x1, x2, hs⟩, ho, hQ⟩ := h
    unfold gst at hQ
    by_cases h1 : f ≤ t ∧ t ≤ 4
    · rw [if_pos h1] at hQ
      refine fq_enter [some (.ref X), some (.int a), some (.int b), some (.int t), some (.int f)] (by decide +kernel) (Nat.le_of_ble_eq_true rfl) rfl (b_X11_gameStatus_0 _ _ _ _ _ _ _ _ ?_)
      simp (disch := omega) only [B_X11_gameStatus_0, B_X11_gameStatus_20, sp_X11_isWithin, sp_X11_pairStatus, x1, h1, bI_01, bI_01b, bI_0, bI_tr, bI_fl, nI_1, nI_add, nI_clamp, nI_pin, nI_neg, nI_nonneg, nI_leE, nI_ltE, nI_eqE, Nat.not_le, Nat.not_lt, fq_10, fq_01, fq_rr, ix_aald, ix_aast, ix_abs, ix_alen, ix_aload, ix_aret, ix_astore, ix_bald, ix_bast, ix_call, ix_cpyI, ix_cpyJ, ix_dead, ix_dup2, ix_dup2L, ix_dupI, ix_dupR, ix_dupx1, ix_getI, ix_getJ, ix_getR, ix_gfm, ix_gtab, ix_i2b, ix_i2c, ix_i2l, ix_i2s, ix_iadd, ix_iald, ix_iand, ix_iast, ix_icall, ix_icmp_eq, ix_icmp_ge, ix_icmp_gt, ix_icmp_le, ix_icmp_lt, ix_icmp_ne, ix_idiv, ix_if_eq, ix_if_ge, ix_if_gt, ix_if_le, ix_if_lt, ix_if_ne, ix_iinc, ix_iload, ix_imul, ix_ineg, ix_ior, ix_irem, ix_iret, ix_ishl, ix_ishr, ix_istore, ix_isub, ix_iushr, ix_ixor, ix_l2i, ix_ladd, ix_lald, ix_land, ix_last, ix_lcmp, ix_ldcS, ix_ldiv, ix_lload, ix_lmul, ix_lor, ix_lrem, ix_lret, ix_lshl, ix_lstore, ix_lsub, ix_lsw, ix_max, ix_min, ix_new, ix_newa, ix_nret, ix_oinit, ix_pop2L, ix_popI, ix_pushI, ix_pushL, ix_putI, ix_putJ, ix_putR, ix_putZ, ix_sbald, ix_sgetC, ix_sgetV, ix_slen, ix_strc, ix_tald, ix_tsw, ix_vcall, ix_vret, ix_zret, stL, stL2, kilL, popN, fq_sw, fq_lsw, List.map_cons, List.map_nil, List.getElem?_cons_zero, List.getElem?_cons_succ, Option.toList_some, Option.toList_none, List.cons_append, List.nil_append, List.length_cons, List.length_nil, List.sum_cons, List.sum_nil, cat_i, cat_l, cat_r, true_and, and_true, Nat.zero_add, Nat.add_zero, Nat.le_refl, Nat.zero_le, Nat.reduceAdd, Nat.reduceLeDiff, exists_eq_left', Option.some.injEq, not_true_eq_false, not_false_eq_true, false_implies, true_implies, implies_true, and_self, or_true, true_or, or_false, false_or]
      exact ⟨s, ⟨x1, x2, hs⟩, ho, hQ⟩
    · rw [if_neg h1] at hQ
      refine fq_enter [some (.ref X), some (.int a), some (.int b), some (.int t), some (.int f)] (by decide +kernel) (Nat.le_of_ble_eq_true rfl) rfl (b_X11_gameStatus_0 _ _ _ _ _ _ _ _ ?_)
      simp (disch := omega) only [B_X11_gameStatus_0, B_X11_gameStatus_20, sp_X11_isWithin, sp_X11_pairStatus, x1, h1, bI_01, bI_01b, bI_0, bI_tr, bI_fl, nI_1, nI_add, nI_clamp, nI_pin, nI_neg, nI_nonneg, nI_leE, nI_ltE, nI_eqE, Nat.not_le, Nat.not_lt, fq_10, fq_01, fq_rr, ix_aald, ix_aast, ix_abs, ix_alen, ix_aload, ix_aret, ix_astore, ix_bald, ix_bast, ix_call, ix_cpyI, ix_cpyJ, ix_dead, ix_dup2, ix_dup2L, ix_dupI, ix_dupR, ix_dupx1, ix_getI, ix_getJ, ix_getR, ix_gfm, ix_gtab, ix_i2b, ix_i2c, ix_i2l, ix_i2s, ix_iadd, ix_iald, ix_iand, ix_iast, ix_icall, ix_icmp_eq, ix_icmp_ge, ix_icmp_gt, ix_icmp_le, ix_icmp_lt, ix_icmp_ne, ix_idiv, ix_if_eq, ix_if_ge, ix_if_gt, ix_if_le, ix_if_lt, ix_if_ne, ix_iinc, ix_iload, ix_imul, ix_ineg, ix_ior, ix_irem, ix_iret, ix_ishl, ix_ishr, ix_istore, ix_isub, ix_iushr, ix_ixor, ix_l2i, ix_ladd, ix_lald, ix_land, ix_last, ix_lcmp, ix_ldcS, ix_ldiv, ix_lload, ix_lmul, ix_lor, ix_lrem, ix_lret, ix_lshl, ix_lstore, ix_lsub, ix_lsw, ix_max, ix_min, ix_new, ix_newa, ix_nret, ix_oinit, ix_pop2L, ix_popI, ix_pushI, ix_pushL, ix_putI, ix_putJ, ix_putR, ix_putZ, ix_sbald, ix_sgetC, ix_sgetV, ix_slen, ix_strc, ix_tald, ix_tsw, ix_vcall, ix_vret, ix_zret, stL, stL2, kilL, popN, fq_sw, fq_lsw, List.map_cons, List.map_nil, List.getElem?_cons_zero, List.getElem?_cons_succ, Option.toList_some, Option.toList_none, List.cons_append, List.nil_append, List.length_cons, List.length_nil, List.sum_cons, List.sum_nil, cat_i, cat_l, cat_r, true_and, and_true, Nat.zero_add, Nat.add_zero, Nat.le_refl, Nat.zero_le, Nat.reduceAdd, Nat.reduceLeDiff, exists_eq_left', Option.some.injEq, not_true_eq_false, not_false_eq_true, false_implies, true_implies, implies_true, and_self, or_true, true_or, or_false, false_or]
      exact hQ
  · exact h.elim
/-- a would make b shout -/
abbrev wpv (I : IH) (s a b : Nat) : Prop := ¬ shW (I (s + 24 + a) 1) (I (s + 24 + b) 1) (I s 13) = -1 ∧ 10 ≤ ldn (I (s + 24 + a) 4) (I s 16) + I (s + 24 + b) 3 ∧ I (s + 24 + b) 2 < I (s + 24 + b) 6 + ldn (I (s + 24 + a) 4) (I s 16)
theorem dX11_dangers_0 : decode cX11_dangers 0 = .ok (.aload_n 0, 1) := by decide +kernel
theorem dX11_dangers_1 : decode cX11_dangers 1 = .ok (.iload_n 1, 1) := by decide +kernel
theorem dX11_dangers_2 : decode cX11_dangers 2 = .ok (.invokevirtual 233, 3) := by decide +kernel
theorem dX11_dangers_5 : decode cX11_dangers 5 = .ok (.ifCond .ne 9, 3) := by decide +kernel
theorem dX11_dangers_8 : decode cX11_dangers 8 = .ok (.aload_n 0, 1) := by decide +kernel
theorem dX11_dangers_9 : decode cX11_dangers 9 = .ok (.iconst 1, 1) := by decide +kernel
theorem dX11_dangers_10 : decode cX11_dangers 10 = .ok (.invokevirtual 97, 3) := by decide +kernel
theorem dX11_dangers_13 : decode cX11_dangers 13 = .ok (.ireturn, 1) := by decide +kernel
theorem dX11_dangers_14 : decode cX11_dangers 14 = .ok (.iconst 0, 1) := by decide +kernel
theorem dX11_dangers_15 : decode cX11_dangers 15 = .ok (.istore_n 2, 1) := by decide +kernel
theorem dX11_dangers_16 : decode cX11_dangers 16 = .ok (.iconst 0, 1) := by decide +kernel
theorem dX11_dangers_17 : decode cX11_dangers 17 = .ok (.istore_n 3, 1) := by decide +kernel
theorem dX11_dangers_18 : decode cX11_dangers 18 = .ok (.iload_n 3, 1) := by decide +kernel
theorem dX11_dangers_19 : decode cX11_dangers 19 = .ok (.aload_n 0, 1) := by decide +kernel
theorem dX11_dangers_20 : decode cX11_dangers 20 = .ok (.getfield 46, 3) := by decide +kernel
theorem dX11_dangers_23 : decode cX11_dangers 23 = .ok (.getfield 139, 3) := by decide +kernel
theorem dX11_dangers_26 : decode cX11_dangers 26 = .ok (.if_icmp .ge 27, 3) := by decide +kernel
theorem dX11_dangers_29 : decode cX11_dangers 29 = .ok (.aload_n 0, 1) := by decide +kernel
theorem dX11_dangers_30 : decode cX11_dangers 30 = .ok (.getfield 46, 3) := by decide +kernel
theorem dX11_dangers_33 : decode cX11_dangers 33 = .ok (.iload_n 3, 1) := by decide +kernel
theorem dX11_dangers_34 : decode cX11_dangers 34 = .ok (.iload_n 1, 1) := by decide +kernel
theorem dX11_dangers_35 : decode cX11_dangers 35 = .ok (.invokevirtual 348, 3) := by decide +kernel
theorem dX11_dangers_38 : decode cX11_dangers 38 = .ok (.ifCond .eq 9, 3) := by decide +kernel
theorem dX11_dangers_41 : decode cX11_dangers 41 = .ok (.iload_n 2, 1) := by decide +kernel
theorem dX11_dangers_42 : decode cX11_dangers 42 = .ok (.iconst 1, 1) := by decide +kernel
theorem dX11_dangers_43 : decode cX11_dangers 43 = .ok (.iload_n 3, 1) := by decide +kernel
theorem dX11_dangers_44 : decode cX11_dangers 44 = .ok (.ishl, 1) := by decide +kernel
theorem dX11_dangers_45 : decode cX11_dangers 45 = .ok (.ior, 1) := by decide +kernel
theorem dX11_dangers_46 : decode cX11_dangers 46 = .ok (.istore_n 2, 1) := by decide +kernel
theorem dX11_dangers_47 : decode cX11_dangers 47 = .ok (.iinc 3 1, 3) := by decide +kernel
theorem dX11_dangers_50 : decode cX11_dangers 50 = .ok (.goto (-32), 3) := by decide +kernel
theorem dX11_dangers_53 : decode cX11_dangers 53 = .ok (.aload_n 0, 1) := by decide +kernel
theorem dX11_dangers_54 : decode cX11_dangers 54 = .ok (.iload_n 2, 1) := by decide +kernel
theorem dX11_dangers_55 : decode cX11_dangers 55 = .ok (.invokevirtual 142, 3) := by decide +kernel
theorem dX11_dangers_58 : decode cX11_dangers 58 = .ok (.ireturn, 1) := by decide +kernel
abbrev M_X11_dangers : MT := (yX11_dangers, cX11_dangers, 4, (some .int))
theorem cf_X11_dangers : fq_cf M_X11_dangers 1 := ⟨(mg_1 (List.mem_of_getElem? (i := 1) rfl) rfl), (mg_5 (List.mem_of_getElem? (i := 176) rfl) rfl), ⟨by decide, by decide, by decide +kernel⟩, by decide⟩
def B_X11_dangers_47 (l : Launch) (G : GT) (D mc ms : Nat) (Q : Post) : Cn := ix_iinc 3 1 (fqAt l G M_X11_dangers (D + 5) mc ms Q 18)
theorem b_X11_dangers_47 {l : Launch} {G : GT} {D mc ms : Nat} {Q : Post} : Imp l G M_X11_dangers (D + 5) mc ms Q (B_X11_dangers_47 l G D mc ms Q) 47 := sx_iinc dX11_dangers_47 rfl (by decide) (sx_goto 18 dX11_dangers_50 (by decide) ((fun _ _ _ _ _ _ _ _ h => h)))
def B_X11_dangers_18 (l : Launch) (G : GT) (D mc ms : Nat) (Q : Post) : Cn := ix_iload 3 (ix_aload 0 (ix_getR 11 6 (ix_getI 6 6 (ix_icmp_ge (ix_aload 0 (ix_iload 2 (ix_vcall 11 2 0 0 mc ms (sp_X11_answer G) (ix_iret mc ms Q)))) (ix_aload 0 (ix_getR 11 6 (ix_iload 3 (ix_iload 1 (ix_vcall 6 3 0 0 mc ms (sp_X6_wouldProvoke G) (ix_if_eq ((B_X11_dangers_47 l G D mc ms Q)) (ix_iload 2 (ix_pushI 1 (ix_iload 3 (ix_ishl (ix_ior (ix_istore 2 ((B_X11_dangers_47 l G D mc ms Q))))))))))))))))))
theorem b_X11_dangers_18 {l : Launch} {G : GT} {D mc ms : Nat} {Q : Post} : Imp l G M_X11_dangers (D + 5) mc ms Q (B_X11_dangers_18 l G D mc ms Q) 18 := sx_iload_n dX11_dangers_18 rfl (sx_aload_n dX11_dangers_19 rfl (sx_getR dX11_dangers_20 fl_FootQuarrel_46 (fun _ _ _ => rfl) (sx_getI dX11_dangers_23 fl_FootQuarrel_139 (fun _ _ _ => rfl) (sx_icmp_ge 53 dX11_dangers_26 (by decide) (sx_aload_n dX11_dangers_53 rfl (sx_iload_n dX11_dangers_54 rfl (sx_vcall dX11_dangers_55 cf_X11_answer (mg_4 (List.mem_of_getElem? (i := 72) rfl) rfl) (mg_4 (List.mem_of_getElem? (i := 74) rfl) rfl) (mg_p (List.mem_of_getElem? (i := 17) rfl) rfl) rfl c_X11_answer (sx_iret dX11_dangers_58 rfl)))) (sx_aload_n dX11_dangers_29 rfl (sx_getR dX11_dangers_30 fl_FootQuarrel_46 (fun _ _ _ => rfl) (sx_iload_n dX11_dangers_33 rfl (sx_iload_n dX11_dangers_34 rfl (sx_vcall dX11_dangers_35 cf_X6_wouldProvoke (mg_5 (List.mem_of_getElem? (i := 177) rfl) rfl) (mg_5 (List.mem_of_getElem? (i := 178) rfl) rfl) (mg_5 (List.mem_of_getElem? (i := 179) rfl) rfl) rfl c_X6_wouldProvoke (sx_if_eq 47 dX11_dangers_38 (by decide) (b_X11_dangers_47) (sx_iload_n dX11_dangers_41 rfl (sx_iconst dX11_dangers_42 rfl (sx_iload_n dX11_dangers_43 rfl (sx_ishl dX11_dangers_44 (sx_ior dX11_dangers_45 (sx_istore_n dX11_dangers_46 rfl (by decide) (b_X11_dangers_47)))))))))))))))))
def B_X11_dangers_0 (l : Launch) (G : GT) (D mc ms : Nat) (Q : Post) : Cn := ix_aload 0 (ix_iload 1 (ix_vcall 11 2 0 0 mc ms (sp_X11_isPerson G) (ix_if_ne (ix_pushI 0 (ix_istore 2 (ix_pushI 0 (ix_istore 3 (fqAt l G M_X11_dangers (D + 5) mc ms Q 18))))) (ix_aload 0 (ix_pushI 1 (ix_vcall 11 2 0 0 mc ms (sp_X11_refuse G) (ix_iret mc ms Q)))))))
theorem b_X11_dangers_0 {l : Launch} {G : GT} {D mc ms : Nat} {Q : Post} : Imp l G M_X11_dangers (D + 5) mc ms Q (B_X11_dangers_0 l G D mc ms Q) 0 := sx_aload_n dX11_dangers_0 rfl (sx_iload_n dX11_dangers_1 rfl (sx_vcall dX11_dangers_2 cf_X11_isPerson (mg_4 (List.mem_of_getElem? (i := 209) rfl) rfl) (mg_4 (List.mem_of_getElem? (i := 211) rfl) rfl) (mg_p (List.mem_of_getElem? (i := 26) rfl) rfl) rfl c_X11_isPerson (sx_if_ne 14 dX11_dangers_5 (by decide) (sx_iconst dX11_dangers_14 rfl (sx_istore_n dX11_dangers_15 rfl (by decide) (sx_iconst dX11_dangers_16 rfl (sx_istore_n dX11_dangers_17 rfl (by decide) ((fun _ _ _ _ _ _ _ _ h => h)))))) (sx_aload_n dX11_dangers_8 rfl (sx_iconst dX11_dangers_9 rfl (sx_vcall dX11_dangers_10 cf_X11_refuse (mg_3 (List.mem_of_getElem? (i := 120) rfl) rfl) (mg_3 (List.mem_of_getElem? (i := 122) rfl) rfl) (mg_p (List.mem_of_getElem? (i := 3) rfl) rfl) rfl c_X11_refuse (sx_iret dX11_dangers_13 rfl)))))))
def sp_X11_dangers (G : GT) : Sp := fun as S I J z Q => match as with
  | [.ref X, .int p] => ∃ s, xsh S X s ∧ okN (I s 6) 8 ∧ (¬ (0 ≤ p ∧ p ≤ I s 6 - 1) → Q (some (.int (-1))) S (u2 I X 10 1) J z) ∧ ∀ k, p = nI k → k < (I s 6).toNatClampNeg → Q (some (.int (setU (fun i => wpv I s i k) (I s 6).toNatClampNeg))) S (u2 I X 10 0) J z
  | _ => False
set_option maxHeartbeats 4000000 in
set_option maxRecDepth 20000 in
theorem c_X11_dangers {l : Launch} {G : GT} {D : Nat} : ∀ as S I J z Q, sp_X11_dangers G as S I J z Q → fqCall l G M_X11_dangers (D + 5) 0 0 as S I J z Q := by
  intro as S I J z Q h
  unfold sp_X11_dangers at h
  split at h
  · next X p =>
    obtain ⟨s, ⟨x1, x2, hs⟩, ho, hQ1, hQ2⟩ := h
    obtain ⟨c, hc, hc1, hc2⟩ := ho.ex
    rw [hc2] at hQ2
    rw [hc1] at hQ1
    by_cases h1 : 0 ≤ p ∧ p ≤ nI c - 1
    · obtain ⟨k, rfl, hk⟩ := (in_pred (by omega)).mp h1
      have hq := hQ2 k rfl hk
      have lp : ∀ (n i : Nat) (a : Int32), i + n = c → foldU (fun i a => if wpv I s i k then a ||| 1 <<< (nI i &&& 31) else a) i n a = setU (fun i => wpv I s i k) c → fqAt l G M_X11_dangers (D + 5) 0 0 Q 18 [some (.ref X), some (.int (nI k)), some (.int a), some (.int (nI i))] [] S I J z 0 0 := by
        intro n
        induction n with
        | zero =>
          intro i a hi he
          rw [foldU_0] at he
          refine b_X11_dangers_18 _ _ _ _ _ _ _ _ ?_
          simp (disch := omega) only [B_X11_dangers_0, B_X11_dangers_18, B_X11_dangers_47, sp_X11_isPerson, B_X11_isPerson_0, sp_X11_isWithin, sp_X11_refuse, B_X11_refuse_0, sp_X6_wouldProvoke, sp_X11_answer, B_X11_answer_0, hs, hs.k, x1, x2, hc1, he, nI_1, nI_add, nI_clamp, nI_pin, nI_neg, nI_nonneg, nI_leE, nI_ltE, nI_eqE, Nat.not_le, Nat.not_lt, fq_10, fq_01, fq_rr, ix_aald, ix_aast, ix_abs, ix_alen, ix_aload, ix_aret, ix_astore, ix_bald, ix_bast, ix_call, ix_cpyI, ix_cpyJ, ix_dead, ix_dup2, ix_dup2L, ix_dupI, ix_dupR, ix_dupx1, ix_getI, ix_getJ, ix_getR, ix_gfm, ix_gtab, ix_i2b, ix_i2c, ix_i2l, ix_i2s, ix_iadd, ix_iald, ix_iand, ix_iast, ix_icall, ix_icmp_eq, ix_icmp_ge, ix_icmp_gt, ix_icmp_le, ix_icmp_lt, ix_icmp_ne, ix_idiv, ix_if_eq, ix_if_ge, ix_if_gt, ix_if_le, ix_if_lt, ix_if_ne, ix_iinc, ix_iload, ix_imul, ix_ineg, ix_ior, ix_irem, ix_iret, ix_ishl, ix_ishr, ix_istore, ix_isub, ix_iushr, ix_ixor, ix_l2i, ix_ladd, ix_lald, ix_land, ix_last, ix_lcmp, ix_ldcS, ix_ldiv, ix_lload, ix_lmul, ix_lor, ix_lrem, ix_lret, ix_lshl, ix_lstore, ix_lsub, ix_lsw, ix_max, ix_min, ix_new, ix_newa, ix_nret, ix_oinit, ix_pop2L, ix_popI, ix_pushI, ix_pushL, ix_putI, ix_putJ, ix_putR, ix_putZ, ix_sbald, ix_sgetC, ix_sgetV, ix_slen, ix_strc, ix_tald, ix_tsw, ix_vcall, ix_vret, ix_zret, stL, stL2, kilL, popN, fq_sw, fq_lsw, List.map_cons, List.map_nil, List.getElem?_cons_zero, List.getElem?_cons_succ, Option.toList_some, Option.toList_none, List.cons_append, List.nil_append, List.length_cons, List.length_nil, List.sum_cons, List.sum_nil, cat_i, cat_l, cat_r, true_and, and_true, Nat.zero_add, Nat.add_zero, Nat.le_refl, Nat.zero_le, Nat.reduceAdd, Nat.reduceLeDiff, exists_eq_left', Option.some.injEq, not_true_eq_false, not_false_eq_true, false_implies, true_implies, implies_true, and_self, or_true, true_or, or_false, false_or]
          exact ⟨fun _ => hq, fun h => absurd h (by omega)⟩
        | succ n ih =>
          intro i a hi he
          rw [foldU_1] at he
          refine b_X11_dangers_18 _ _ _ _ _ _ _ _ ?_
          simp (disch := omega) only [B_X11_dangers_0, B_X11_dangers_18, B_X11_dangers_47, sp_X11_isPerson, B_X11_isPerson_0, sp_X11_isWithin, sp_X11_refuse, B_X11_refuse_0, sp_X6_wouldProvoke, sp_X11_answer, B_X11_answer_0, hs, hs.k, x1, x2, hc1, nI_clamp, bI_01, bI_01b, bI_0, nI_1, nI_add, nI_clamp, nI_pin, nI_neg, nI_nonneg, nI_leE, nI_ltE, nI_eqE, Nat.not_le, Nat.not_lt, fq_10, fq_01, fq_rr, ix_aald, ix_aast, ix_abs, ix_alen, ix_aload, ix_aret, ix_astore, ix_bald, ix_bast, ix_call, ix_cpyI, ix_cpyJ, ix_dead, ix_dup2, ix_dup2L, ix_dupI, ix_dupR, ix_dupx1, ix_getI, ix_getJ, ix_getR, ix_gfm, ix_gtab, ix_i2b, ix_i2c, ix_i2l, ix_i2s, ix_iadd, ix_iald, ix_iand, ix_iast, ix_icall, ix_icmp_eq, ix_icmp_ge, ix_icmp_gt, ix_icmp_le, ix_icmp_lt, ix_icmp_ne, ix_idiv, ix_if_eq, ix_if_ge, ix_if_gt, ix_if_le, ix_if_lt, ix_if_ne, ix_iinc, ix_iload, ix_imul, ix_ineg, ix_ior, ix_irem, ix_iret, ix_ishl, ix_ishr, ix_istore, ix_isub, ix_iushr, ix_ixor, ix_l2i, ix_ladd, ix_lald, ix_land, ix_last, ix_lcmp, ix_ldcS, ix_ldiv, ix_lload, ix_lmul, ix_lor, ix_lrem, ix_lret, ix_lshl, ix_lstore, ix_lsub, ix_lsw, ix_max, ix_min, ix_new, ix_newa, ix_nret, ix_oinit, ix_pop2L, ix_popI, ix_pushI, ix_pushL, ix_putI, ix_putJ, ix_putR, ix_putZ, ix_sbald, ix_sgetC, ix_sgetV, ix_slen, ix_strc, ix_tald, ix_tsw, ix_vcall, ix_vret, ix_zret, stL, stL2, kilL, popN, fq_sw, fq_lsw, List.map_cons, List.map_nil, List.getElem?_cons_zero, List.getElem?_cons_succ, Option.toList_some, Option.toList_none, List.cons_append, List.nil_append, List.length_cons, List.length_nil, List.sum_cons, List.sum_nil, cat_i, cat_l, cat_r, true_and, and_true, Nat.zero_add, Nat.add_zero, Nat.le_refl, Nat.zero_le, Nat.reduceAdd, Nat.reduceLeDiff, exists_eq_left', Option.some.injEq, not_true_eq_false, not_false_eq_true, false_implies, true_implies, implies_true, and_self, or_true, true_or, or_false, false_or]
          refine ⟨fun h => absurd h (by omega), fun _ => ⟨fun h => ih (i + 1) _ (by omega) ?_, fun h => ih (i + 1) _ (by omega) ?_⟩⟩
          · rw [if_neg h] at he
            exact he
          · rw [if_pos (Decidable.not_not.mp h)] at he
            exact he
      refine fq_enter [some (.ref X), some (.int (nI k)), none, none] (by decide +kernel) (Nat.le_of_ble_eq_true rfl) rfl (b_X11_dangers_0 _ _ _ _ _ _ _ _ ?_)
      simp (disch := omega) only [B_X11_dangers_0, B_X11_dangers_18, B_X11_dangers_47, sp_X11_isPerson, B_X11_isPerson_0, sp_X11_isWithin, sp_X11_refuse, B_X11_refuse_0, sp_X6_wouldProvoke, sp_X11_answer, B_X11_answer_0, hs, hs.k, x1, x2, hc1, h1, bI_01, bI_01b, bI_0, bI_tr, bI_fl, nI_1, nI_add, nI_clamp, nI_pin, nI_neg, nI_nonneg, nI_leE, nI_ltE, nI_eqE, Nat.not_le, Nat.not_lt, fq_10, fq_01, fq_rr, ix_aald, ix_aast, ix_abs, ix_alen, ix_aload, ix_aret, ix_astore, ix_bald, ix_bast, ix_call, ix_cpyI, ix_cpyJ, ix_dead, ix_dup2, ix_dup2L, ix_dupI, ix_dupR, ix_dupx1, ix_getI, ix_getJ, ix_getR, ix_gfm, ix_gtab, ix_i2b, ix_i2c, ix_i2l, ix_i2s, ix_iadd, ix_iald, ix_iand, ix_iast, ix_icall, ix_icmp_eq, ix_icmp_ge, ix_icmp_gt, ix_icmp_le, ix_icmp_lt, ix_icmp_ne, ix_idiv, ix_if_eq, ix_if_ge, ix_if_gt, ix_if_le, ix_if_lt, ix_if_ne, ix_iinc, ix_iload, ix_imul, ix_ineg, ix_ior, ix_irem, ix_iret, ix_ishl, ix_ishr, ix_istore, ix_isub, ix_iushr, ix_ixor, ix_l2i, ix_ladd, ix_lald, ix_land, ix_last, ix_lcmp, ix_ldcS, ix_ldiv, ix_lload, ix_lmul, ix_lor, ix_lrem, ix_lret, ix_lshl, ix_lstore, ix_lsub, ix_lsw, ix_max, ix_min, ix_new, ix_newa, ix_nret, ix_oinit, ix_pop2L, ix_popI, ix_pushI, ix_pushL, ix_putI, ix_putJ, ix_putR, ix_putZ, ix_sbald, ix_sgetC, ix_sgetV, ix_slen, ix_strc, ix_tald, ix_tsw, ix_vcall, ix_vret, ix_zret, stL, stL2, kilL, popN, fq_sw, fq_lsw, List.map_cons, List.map_nil, List.getElem?_cons_zero, List.getElem?_cons_succ, Option.toList_some, Option.toList_none, List.cons_append, List.nil_append, List.length_cons, List.length_nil, List.sum_cons, List.sum_nil, cat_i, cat_l, cat_r, true_and, and_true, Nat.zero_add, Nat.add_zero, Nat.le_refl, Nat.zero_le, Nat.reduceAdd, Nat.reduceLeDiff, exists_eq_left', Option.some.injEq, not_true_eq_false, not_false_eq_true, false_implies, true_implies, implies_true, and_self, or_true, true_or, or_false, false_or]
      exact lp c 0 0 (by omega) rfl
    · refine fq_enter [some (.ref X), some (.int p), none, none] (by decide +kernel) (Nat.le_of_ble_eq_true rfl) rfl (b_X11_dangers_0 _ _ _ _ _ _ _ _ ?_)
      simp (disch := omega) only [B_X11_dangers_0, B_X11_dangers_18, B_X11_dangers_47, sp_X11_isPerson, B_X11_isPerson_0, sp_X11_isWithin, sp_X11_refuse, B_X11_refuse_0, sp_X6_wouldProvoke, sp_X11_answer, B_X11_answer_0, hs, hs.k, x1, x2, hc1, h1, bI_01, bI_01b, bI_0, bI_tr, bI_fl, nI_1, nI_add, nI_clamp, nI_pin, nI_neg, nI_nonneg, nI_leE, nI_ltE, nI_eqE, Nat.not_le, Nat.not_lt, fq_10, fq_01, fq_rr, ix_aald, ix_aast, ix_abs, ix_alen, ix_aload, ix_aret, ix_astore, ix_bald, ix_bast, ix_call, ix_cpyI, ix_cpyJ, ix_dead, ix_dup2, ix_dup2L, ix_dupI, ix_dupR, ix_dupx1, ix_getI, ix_getJ, ix_getR, ix_gfm, ix_gtab, ix_i2b, ix_i2c, ix_i2l, ix_i2s, ix_iadd, ix_iald, ix_iand, ix_iast, ix_icall, ix_icmp_eq, ix_icmp_ge, ix_icmp_gt, ix_icmp_le, ix_icmp_lt, ix_icmp_ne, ix_idiv, ix_if_eq, ix_if_ge, ix_if_gt, ix_if_le, ix_if_lt, ix_if_ne, ix_iinc, ix_iload, ix_imul, ix_ineg, ix_ior, ix_irem, ix_iret, ix_ishl, ix_ishr, ix_istore, ix_isub, ix_iushr, ix_ixor, ix_l2i, ix_ladd, ix_lald, ix_land, ix_last, ix_lcmp, ix_ldcS, ix_ldiv, ix_lload, ix_lmul, ix_lor, ix_lrem, ix_lret, ix_lshl, ix_lstore, ix_lsub, ix_lsw, ix_max, ix_min, ix_new, ix_newa, ix_nret, ix_oinit, ix_pop2L, ix_popI, ix_pushI, ix_pushL, ix_putI, ix_putJ, ix_putR, ix_putZ, ix_sbald, ix_sgetC, ix_sgetV, ix_slen, ix_strc, ix_tald, ix_tsw, ix_vcall, ix_vret, ix_zret, stL, stL2, kilL, popN, fq_sw, fq_lsw, List.map_cons, List.map_nil, List.getElem?_cons_zero, List.getElem?_cons_succ, Option.toList_some, Option.toList_none, List.cons_append, List.nil_append, List.length_cons, List.length_nil, List.sum_cons, List.sum_nil, cat_i, cat_l, cat_r, true_and, and_true, Nat.zero_add, Nat.add_zero, Nat.le_refl, Nat.zero_le, Nat.reduceAdd, Nat.reduceLeDiff, exists_eq_left', Option.some.injEq, not_true_eq_false, not_false_eq_true, false_implies, true_implies, implies_true, and_self, or_true, true_or, or_false, false_or]
      exact hQ1 h1
  · exact h.elim
theorem dX11_quarrelsAt_0 : decode cX11_quarrelsAt 0 = .ok (.aload_n 0, 1) := by decide +kernel
theorem dX11_quarrelsAt_1 : decode cX11_quarrelsAt 1 = .ok (.iload_n 1, 1) := by decide +kernel
theorem dX11_quarrelsAt_2 : decode cX11_quarrelsAt 2 = .ok (.invokevirtual 227, 3) := by decide +kernel
theorem dX11_quarrelsAt_5 : decode cX11_quarrelsAt 5 = .ok (.ifCond .ne 9, 3) := by decide +kernel
theorem dX11_quarrelsAt_8 : decode cX11_quarrelsAt 8 = .ok (.aload_n 0, 1) := by decide +kernel
theorem dX11_quarrelsAt_9 : decode cX11_quarrelsAt 9 = .ok (.iconst 1, 1) := by decide +kernel
theorem dX11_quarrelsAt_10 : decode cX11_quarrelsAt 10 = .ok (.invokevirtual 97, 3) := by decide +kernel
theorem dX11_quarrelsAt_13 : decode cX11_quarrelsAt 13 = .ok (.ireturn, 1) := by decide +kernel
theorem dX11_quarrelsAt_14 : decode cX11_quarrelsAt 14 = .ok (.iconst 0, 1) := by decide +kernel
theorem dX11_quarrelsAt_15 : decode cX11_quarrelsAt 15 = .ok (.istore_n 2, 1) := by decide +kernel
theorem dX11_quarrelsAt_16 : decode cX11_quarrelsAt 16 = .ok (.iconst 0, 1) := by decide +kernel
theorem dX11_quarrelsAt_17 : decode cX11_quarrelsAt 17 = .ok (.istore_n 3, 1) := by decide +kernel
theorem dX11_quarrelsAt_18 : decode cX11_quarrelsAt 18 = .ok (.iload_n 3, 1) := by decide +kernel
theorem dX11_quarrelsAt_19 : decode cX11_quarrelsAt 19 = .ok (.aload_n 0, 1) := by decide +kernel
theorem dX11_quarrelsAt_20 : decode cX11_quarrelsAt 20 = .ok (.getfield 46, 3) := by decide +kernel
theorem dX11_quarrelsAt_23 : decode cX11_quarrelsAt 23 = .ok (.getfield 167, 3) := by decide +kernel
theorem dX11_quarrelsAt_26 : decode cX11_quarrelsAt 26 = .ok (.if_icmp .ge 27, 3) := by decide +kernel
theorem dX11_quarrelsAt_29 : decode cX11_quarrelsAt 29 = .ok (.aload_n 0, 1) := by decide +kernel
theorem dX11_quarrelsAt_30 : decode cX11_quarrelsAt 30 = .ok (.getfield 46, 3) := by decide +kernel
theorem dX11_quarrelsAt_33 : decode cX11_quarrelsAt 33 = .ok (.iload_n 3, 1) := by decide +kernel
theorem dX11_quarrelsAt_34 : decode cX11_quarrelsAt 34 = .ok (.invokevirtual 261, 3) := by decide +kernel
theorem dX11_quarrelsAt_37 : decode cX11_quarrelsAt 37 = .ok (.getfield 268, 3) := by decide +kernel
theorem dX11_quarrelsAt_40 : decode cX11_quarrelsAt 40 = .ok (.iload_n 1, 1) := by decide +kernel
theorem dX11_quarrelsAt_41 : decode cX11_quarrelsAt 41 = .ok (.if_icmp .ne 6, 3) := by decide +kernel
theorem dX11_quarrelsAt_44 : decode cX11_quarrelsAt 44 = .ok (.iinc 2 1, 3) := by decide +kernel
theorem dX11_quarrelsAt_47 : decode cX11_quarrelsAt 47 = .ok (.iinc 3 1, 3) := by decide +kernel
theorem dX11_quarrelsAt_50 : decode cX11_quarrelsAt 50 = .ok (.goto (-32), 3) := by decide +kernel
theorem dX11_quarrelsAt_53 : decode cX11_quarrelsAt 53 = .ok (.aload_n 0, 1) := by decide +kernel
theorem dX11_quarrelsAt_54 : decode cX11_quarrelsAt 54 = .ok (.iload_n 2, 1) := by decide +kernel
theorem dX11_quarrelsAt_55 : decode cX11_quarrelsAt 55 = .ok (.invokevirtual 142, 3) := by decide +kernel
theorem dX11_quarrelsAt_58 : decode cX11_quarrelsAt 58 = .ok (.ireturn, 1) := by decide +kernel
abbrev M_X11_quarrelsAt : MT := (yX11_quarrelsAt, cX11_quarrelsAt, 4, (some .int))
theorem cf_X11_quarrelsAt : fq_cf M_X11_quarrelsAt 1 := ⟨(mg_1 (List.mem_of_getElem? (i := 1) rfl) rfl), (mg_6 (List.mem_of_getElem? (i := 47) rfl) rfl), ⟨by decide, by decide, by decide +kernel⟩, by decide⟩
def B_X11_quarrelsAt_47 (l : Launch) (G : GT) (D mc ms : Nat) (Q : Post) : Cn := ix_iinc 3 1 (fqAt l G M_X11_quarrelsAt (D + 3) mc ms Q 18)
theorem b_X11_quarrelsAt_47 {l : Launch} {G : GT} {D mc ms : Nat} {Q : Post} : Imp l G M_X11_quarrelsAt (D + 3) mc ms Q (B_X11_quarrelsAt_47 l G D mc ms Q) 47 := sx_iinc dX11_quarrelsAt_47 rfl (by decide) (sx_goto 18 dX11_quarrelsAt_50 (by decide) ((fun _ _ _ _ _ _ _ _ h => h)))
def B_X11_quarrelsAt_18 (l : Launch) (G : GT) (D mc ms : Nat) (Q : Post) : Cn := ix_iload 3 (ix_aload 0 (ix_getR 11 6 (ix_getI 6 7 (ix_icmp_ge (ix_aload 0 (ix_iload 2 (ix_vcall 11 2 0 0 mc ms (sp_X11_answer G) (ix_iret mc ms Q)))) (ix_aload 0 (ix_getR 11 6 (ix_iload 3 (ix_vcall 6 2 0 0 mc ms (sp_X6_latest G) (ix_getI 3 1 (ix_iload 1 (ix_icmp_ne ((B_X11_quarrelsAt_47 l G D mc ms Q)) (ix_iinc 2 1 ((B_X11_quarrelsAt_47 l G D mc ms Q))))))))))))))
theorem b_X11_quarrelsAt_18 {l : Launch} {G : GT} {D mc ms : Nat} {Q : Post} : Imp l G M_X11_quarrelsAt (D + 3) mc ms Q (B_X11_quarrelsAt_18 l G D mc ms Q) 18 := sx_iload_n dX11_quarrelsAt_18 rfl (sx_aload_n dX11_quarrelsAt_19 rfl (sx_getR dX11_quarrelsAt_20 fl_FootQuarrel_46 (fun _ _ _ => rfl) (sx_getI dX11_quarrelsAt_23 fl_FootQuarrel_167 (fun _ _ _ => rfl) (sx_icmp_ge 53 dX11_quarrelsAt_26 (by decide) (sx_aload_n dX11_quarrelsAt_53 rfl (sx_iload_n dX11_quarrelsAt_54 rfl (sx_vcall dX11_quarrelsAt_55 cf_X11_answer (mg_4 (List.mem_of_getElem? (i := 72) rfl) rfl) (mg_4 (List.mem_of_getElem? (i := 74) rfl) rfl) (mg_p (List.mem_of_getElem? (i := 17) rfl) rfl) rfl c_X11_answer (sx_iret dX11_quarrelsAt_58 rfl)))) (sx_aload_n dX11_quarrelsAt_29 rfl (sx_getR dX11_quarrelsAt_30 fl_FootQuarrel_46 (fun _ _ _ => rfl) (sx_iload_n dX11_quarrelsAt_33 rfl (sx_vcall dX11_quarrelsAt_34 cf_X6_latest (mg_4 (List.mem_of_getElem? (i := 217) rfl) rfl) (mg_4 (List.mem_of_getElem? (i := 218) rfl) rfl) (mg_4 (List.mem_of_getElem? (i := 219) rfl) rfl) rfl c_X6_latest (sx_getI dX11_quarrelsAt_37 fl_FootQuarrel_268 (fun _ _ _ => rfl) (sx_iload_n dX11_quarrelsAt_40 rfl (sx_icmp_ne 47 dX11_quarrelsAt_41 (by decide) (b_X11_quarrelsAt_47) (sx_iinc dX11_quarrelsAt_44 rfl (by decide) (b_X11_quarrelsAt_47)))))))))))))
def B_X11_quarrelsAt_0 (l : Launch) (G : GT) (D mc ms : Nat) (Q : Post) : Cn := ix_aload 0 (ix_iload 1 (ix_vcall 11 2 0 0 mc ms (sp_X11_isWall G) (ix_if_ne (ix_pushI 0 (ix_istore 2 (ix_pushI 0 (ix_istore 3 (fqAt l G M_X11_quarrelsAt (D + 3) mc ms Q 18))))) (ix_aload 0 (ix_pushI 1 (ix_vcall 11 2 0 0 mc ms (sp_X11_refuse G) (ix_iret mc ms Q)))))))
theorem b_X11_quarrelsAt_0 {l : Launch} {G : GT} {D mc ms : Nat} {Q : Post} : Imp l G M_X11_quarrelsAt (D + 3) mc ms Q (B_X11_quarrelsAt_0 l G D mc ms Q) 0 := sx_aload_n dX11_quarrelsAt_0 rfl (sx_iload_n dX11_quarrelsAt_1 rfl (sx_vcall dX11_quarrelsAt_2 cf_X11_isWall (mg_4 (List.mem_of_getElem? (i := 190) rfl) rfl) (mg_4 (List.mem_of_getElem? (i := 192) rfl) rfl) (mg_p (List.mem_of_getElem? (i := 25) rfl) rfl) rfl c_X11_isWall (sx_if_ne 14 dX11_quarrelsAt_5 (by decide) (sx_iconst dX11_quarrelsAt_14 rfl (sx_istore_n dX11_quarrelsAt_15 rfl (by decide) (sx_iconst dX11_quarrelsAt_16 rfl (sx_istore_n dX11_quarrelsAt_17 rfl (by decide) ((fun _ _ _ _ _ _ _ _ h => h)))))) (sx_aload_n dX11_quarrelsAt_8 rfl (sx_iconst dX11_quarrelsAt_9 rfl (sx_vcall dX11_quarrelsAt_10 cf_X11_refuse (mg_3 (List.mem_of_getElem? (i := 120) rfl) rfl) (mg_3 (List.mem_of_getElem? (i := 122) rfl) rfl) (mg_p (List.mem_of_getElem? (i := 3) rfl) rfl) rfl c_X11_refuse (sx_iret dX11_quarrelsAt_13 rfl)))))))
theorem dX11_began_0 : decode cX11_began 0 = .ok (.aload_n 0, 1) := by decide +kernel
theorem dX11_began_1 : decode cX11_began 1 = .ok (.iload_n 1, 1) := by decide +kernel
theorem dX11_began_2 : decode cX11_began 2 = .ok (.invokevirtual 227, 3) := by decide +kernel
theorem dX11_began_5 : decode cX11_began 5 = .ok (.ifCond .ne 9, 3) := by decide +kernel
theorem dX11_began_8 : decode cX11_began 8 = .ok (.aload_n 0, 1) := by decide +kernel
theorem dX11_began_9 : decode cX11_began 9 = .ok (.iconst 1, 1) := by decide +kernel
theorem dX11_began_10 : decode cX11_began 10 = .ok (.invokevirtual 97, 3) := by decide +kernel
theorem dX11_began_13 : decode cX11_began 13 = .ok (.ireturn, 1) := by decide +kernel
theorem dX11_began_14 : decode cX11_began 14 = .ok (.aload_n 0, 1) := by decide +kernel
theorem dX11_began_15 : decode cX11_began 15 = .ok (.getfield 46, 3) := by decide +kernel
theorem dX11_began_18 : decode cX11_began 18 = .ok (.getfield 167, 3) := by decide +kernel
theorem dX11_began_21 : decode cX11_began 21 = .ok (.iconst 1, 1) := by decide +kernel
theorem dX11_began_22 : decode cX11_began 22 = .ok (.isub, 1) := by decide +kernel
theorem dX11_began_23 : decode cX11_began 23 = .ok (.istore_n 2, 1) := by decide +kernel
theorem dX11_began_24 : decode cX11_began 24 = .ok (.iload_n 2, 1) := by decide +kernel
theorem dX11_began_25 : decode cX11_began 25 = .ok (.ifCond .lt 40, 3) := by decide +kernel
theorem dX11_began_28 : decode cX11_began 28 = .ok (.aload_n 0, 1) := by decide +kernel
theorem dX11_began_29 : decode cX11_began 29 = .ok (.getfield 46, 3) := by decide +kernel
theorem dX11_began_32 : decode cX11_began 32 = .ok (.iload_n 2, 1) := by decide +kernel
theorem dX11_began_33 : decode cX11_began 33 = .ok (.invokevirtual 261, 3) := by decide +kernel
theorem dX11_began_36 : decode cX11_began 36 = .ok (.getfield 268, 3) := by decide +kernel
theorem dX11_began_39 : decode cX11_began 39 = .ok (.iload_n 1, 1) := by decide +kernel
theorem dX11_began_40 : decode cX11_began 40 = .ok (.if_icmp .ne 19, 3) := by decide +kernel
theorem dX11_began_43 : decode cX11_began 43 = .ok (.aload_n 0, 1) := by decide +kernel
theorem dX11_began_44 : decode cX11_began 44 = .ok (.aload_n 0, 1) := by decide +kernel
theorem dX11_began_45 : decode cX11_began 45 = .ok (.getfield 46, 3) := by decide +kernel
theorem dX11_began_48 : decode cX11_began 48 = .ok (.iload_n 2, 1) := by decide +kernel
theorem dX11_began_49 : decode cX11_began 49 = .ok (.invokevirtual 261, 3) := by decide +kernel
theorem dX11_began_52 : decode cX11_began 52 = .ok (.getfield 271, 3) := by decide +kernel
theorem dX11_began_55 : decode cX11_began 55 = .ok (.invokevirtual 142, 3) := by decide +kernel
theorem dX11_began_58 : decode cX11_began 58 = .ok (.ireturn, 1) := by decide +kernel
theorem dX11_began_59 : decode cX11_began 59 = .ok (.iinc 2 (-1), 3) := by decide +kernel
theorem dX11_began_62 : decode cX11_began 62 = .ok (.goto (-38), 3) := by decide +kernel
theorem dX11_began_65 : decode cX11_began 65 = .ok (.aload_n 0, 1) := by decide +kernel
theorem dX11_began_66 : decode cX11_began 66 = .ok (.bipush 6, 2) := by decide +kernel
theorem dX11_began_68 : decode cX11_began 68 = .ok (.invokevirtual 97, 3) := by decide +kernel
theorem dX11_began_71 : decode cX11_began 71 = .ok (.ireturn, 1) := by decide +kernel
abbrev M_X11_began : MT := (yX11_began, cX11_began, 3, (some .int))
theorem cf_X11_began : fq_cf M_X11_began 1 := ⟨(mg_1 (List.mem_of_getElem? (i := 1) rfl) rfl), (mg_6 (List.mem_of_getElem? (i := 43) rfl) rfl), ⟨by decide, by decide, by decide +kernel⟩, by decide⟩
def B_X11_began_24 (l : Launch) (G : GT) (D mc ms : Nat) (Q : Post) : Cn := ix_iload 2 (ix_if_lt (ix_aload 0 (ix_pushI 6 (ix_vcall 11 2 0 0 mc ms (sp_X11_refuse G) (ix_iret mc ms Q)))) (ix_aload 0 (ix_getR 11 6 (ix_iload 2 (ix_vcall 6 2 0 0 mc ms (sp_X6_latest G) (ix_getI 3 1 (ix_iload 1 (ix_icmp_ne (ix_iinc 2 (-1) (fqAt l G M_X11_began (D + 3) mc ms Q 24)) (ix_aload 0 (ix_aload 0 (ix_getR 11 6 (ix_iload 2 (ix_vcall 6 2 0 0 mc ms (sp_X6_latest G) (ix_getI 3 2 (ix_vcall 11 2 0 0 mc ms (sp_X11_answer G) (ix_iret mc ms Q))))))))))))))))
theorem b_X11_began_24 {l : Launch} {G : GT} {D mc ms : Nat} {Q : Post} : Imp l G M_X11_began (D + 3) mc ms Q (B_X11_began_24 l G D mc ms Q) 24 := sx_iload_n dX11_began_24 rfl (sx_if_lt 65 dX11_began_25 (by decide) (sx_aload_n dX11_began_65 rfl (sx_bipush dX11_began_66 rfl (sx_vcall dX11_began_68 cf_X11_refuse (mg_3 (List.mem_of_getElem? (i := 120) rfl) rfl) (mg_3 (List.mem_of_getElem? (i := 122) rfl) rfl) (mg_p (List.mem_of_getElem? (i := 3) rfl) rfl) rfl c_X11_refuse (sx_iret dX11_began_71 rfl)))) (sx_aload_n dX11_began_28 rfl (sx_getR dX11_began_29 fl_FootQuarrel_46 (fun _ _ _ => rfl) (sx_iload_n dX11_began_32 rfl (sx_vcall dX11_began_33 cf_X6_latest (mg_4 (List.mem_of_getElem? (i := 217) rfl) rfl) (mg_4 (List.mem_of_getElem? (i := 218) rfl) rfl) (mg_4 (List.mem_of_getElem? (i := 219) rfl) rfl) rfl c_X6_latest (sx_getI dX11_began_36 fl_FootQuarrel_268 (fun _ _ _ => rfl) (sx_iload_n dX11_began_39 rfl (sx_icmp_ne 59 dX11_began_40 (by decide) (sx_iinc dX11_began_59 rfl (by decide) (sx_goto 24 dX11_began_62 (by decide) ((fun _ _ _ _ _ _ _ _ h => h)))) (sx_aload_n dX11_began_43 rfl (sx_aload_n dX11_began_44 rfl (sx_getR dX11_began_45 fl_FootQuarrel_46 (fun _ _ _ => rfl) (sx_iload_n dX11_began_48 rfl (sx_vcall dX11_began_49 cf_X6_latest (mg_4 (List.mem_of_getElem? (i := 217) rfl) rfl) (mg_4 (List.mem_of_getElem? (i := 218) rfl) rfl) (mg_4 (List.mem_of_getElem? (i := 219) rfl) rfl) rfl c_X6_latest (sx_getI dX11_began_52 fl_FootQuarrel_271 (fun _ _ _ => rfl) (sx_vcall dX11_began_55 cf_X11_answer (mg_4 (List.mem_of_getElem? (i := 72) rfl) rfl) (mg_4 (List.mem_of_getElem? (i := 74) rfl) rfl) (mg_p (List.mem_of_getElem? (i := 17) rfl) rfl) rfl c_X11_answer (sx_iret dX11_began_58 rfl))))))))))))))))
def B_X11_began_0 (l : Launch) (G : GT) (D mc ms : Nat) (Q : Post) : Cn := ix_aload 0 (ix_iload 1 (ix_vcall 11 2 0 0 mc ms (sp_X11_isWall G) (ix_if_ne (ix_aload 0 (ix_getR 11 6 (ix_getI 6 7 (ix_pushI 1 (ix_isub (ix_istore 2 (fqAt l G M_X11_began (D + 3) mc ms Q 24))))))) (ix_aload 0 (ix_pushI 1 (ix_vcall 11 2 0 0 mc ms (sp_X11_refuse G) (ix_iret mc ms Q)))))))
theorem b_X11_began_0 {l : Launch} {G : GT} {D mc ms : Nat} {Q : Post} : Imp l G M_X11_began (D + 3) mc ms Q (B_X11_began_0 l G D mc ms Q) 0 := sx_aload_n dX11_began_0 rfl (sx_iload_n dX11_began_1 rfl (sx_vcall dX11_began_2 cf_X11_isWall (mg_4 (List.mem_of_getElem? (i := 190) rfl) rfl) (mg_4 (List.mem_of_getElem? (i := 192) rfl) rfl) (mg_p (List.mem_of_getElem? (i := 25) rfl) rfl) rfl c_X11_isWall (sx_if_ne 14 dX11_began_5 (by decide) (sx_aload_n dX11_began_14 rfl (sx_getR dX11_began_15 fl_FootQuarrel_46 (fun _ _ _ => rfl) (sx_getI dX11_began_18 fl_FootQuarrel_167 (fun _ _ _ => rfl) (sx_iconst dX11_began_21 rfl (sx_isub dX11_began_22 (sx_istore_n dX11_began_23 rfl (by decide) ((fun _ _ _ _ _ _ _ _ h => h)))))))) (sx_aload_n dX11_began_8 rfl (sx_iconst dX11_began_9 rfl (sx_vcall dX11_began_10 cf_X11_refuse (mg_3 (List.mem_of_getElem? (i := 120) rfl) rfl) (mg_3 (List.mem_of_getElem? (i := 122) rfl) rfl) (mg_p (List.mem_of_getElem? (i := 3) rfl) rfl) rfl c_X11_refuse (sx_iret dX11_began_13 rfl)))))))
theorem dX11_leastVoice_0 : decode cX11_leastVoice 0 = .ok (.aload_n 0, 1) := by decide +kernel
theorem dX11_leastVoice_1 : decode cX11_leastVoice 1 = .ok (.iload_n 1, 1) := by decide +kernel
theorem dX11_leastVoice_2 : decode cX11_leastVoice 2 = .ok (.iload_n 2, 1) := by decide +kernel
theorem dX11_leastVoice_3 : decode cX11_leastVoice 3 = .ok (.invokevirtual 293, 3) := by decide +kernel
theorem dX11_leastVoice_6 : decode cX11_leastVoice 6 = .ok (.istore_n 3, 1) := by decide +kernel
theorem dX11_leastVoice_7 : decode cX11_leastVoice 7 = .ok (.iload_n 3, 1) := by decide +kernel
theorem dX11_leastVoice_8 : decode cX11_leastVoice 8 = .ok (.ifCond .eq 9, 3) := by decide +kernel
theorem dX11_leastVoice_11 : decode cX11_leastVoice 11 = .ok (.aload_n 0, 1) := by decide +kernel
theorem dX11_leastVoice_12 : decode cX11_leastVoice 12 = .ok (.iload_n 3, 1) := by decide +kernel
theorem dX11_leastVoice_13 : decode cX11_leastVoice 13 = .ok (.invokevirtual 97, 3) := by decide +kernel
theorem dX11_leastVoice_16 : decode cX11_leastVoice 16 = .ok (.ireturn, 1) := by decide +kernel
theorem dX11_leastVoice_17 : decode cX11_leastVoice 17 = .ok (.iconst 1, 1) := by decide +kernel
theorem dX11_leastVoice_18 : decode cX11_leastVoice 18 = .ok (.istore 4, 2) := by decide +kernel
theorem dX11_leastVoice_20 : decode cX11_leastVoice 20 = .ok (.iload 4, 2) := by decide +kernel
theorem dX11_leastVoice_22 : decode cX11_leastVoice 22 = .ok (.bipush 9, 2) := by decide +kernel
theorem dX11_leastVoice_24 : decode cX11_leastVoice 24 = .ok (.if_icmp .gt 40, 3) := by decide +kernel
theorem dX11_leastVoice_27 : decode cX11_leastVoice 27 = .ok (.aload_n 0, 1) := by decide +kernel
theorem dX11_leastVoice_28 : decode cX11_leastVoice 28 = .ok (.getfield 46, 3) := by decide +kernel
theorem dX11_leastVoice_31 : decode cX11_leastVoice 31 = .ok (.getfield 236, 3) := by decide +kernel
theorem dX11_leastVoice_34 : decode cX11_leastVoice 34 = .ok (.iload_n 2, 1) := by decide +kernel
theorem dX11_leastVoice_35 : decode cX11_leastVoice 35 = .ok (.aaload, 1) := by decide +kernel
theorem dX11_leastVoice_36 : decode cX11_leastVoice 36 = .ok (.aload_n 0, 1) := by decide +kernel
theorem dX11_leastVoice_37 : decode cX11_leastVoice 37 = .ok (.getfield 46, 3) := by decide +kernel
theorem dX11_leastVoice_40 : decode cX11_leastVoice 40 = .ok (.iload 4, 2) := by decide +kernel
theorem dX11_leastVoice_42 : decode cX11_leastVoice 42 = .ok (.invokevirtual 351, 3) := by decide +kernel
theorem dX11_leastVoice_45 : decode cX11_leastVoice 45 = .ok (.invokevirtual 354, 3) := by decide +kernel
theorem dX11_leastVoice_48 : decode cX11_leastVoice 48 = .ok (.ifCond .eq 10, 3) := by decide +kernel
theorem dX11_leastVoice_51 : decode cX11_leastVoice 51 = .ok (.aload_n 0, 1) := by decide +kernel
theorem dX11_leastVoice_52 : decode cX11_leastVoice 52 = .ok (.iload 4, 2) := by decide +kernel
theorem dX11_leastVoice_54 : decode cX11_leastVoice 54 = .ok (.invokevirtual 142, 3) := by decide +kernel
theorem dX11_leastVoice_57 : decode cX11_leastVoice 57 = .ok (.ireturn, 1) := by decide +kernel
theorem dX11_leastVoice_58 : decode cX11_leastVoice 58 = .ok (.iinc 4 1, 3) := by decide +kernel
theorem dX11_leastVoice_61 : decode cX11_leastVoice 61 = .ok (.goto (-41), 3) := by decide +kernel
theorem dX11_leastVoice_64 : decode cX11_leastVoice 64 = .ok (.aload_n 0, 1) := by decide +kernel
theorem dX11_leastVoice_65 : decode cX11_leastVoice 65 = .ok (.bipush 6, 2) := by decide +kernel
theorem dX11_leastVoice_67 : decode cX11_leastVoice 67 = .ok (.invokevirtual 97, 3) := by decide +kernel
theorem dX11_leastVoice_70 : decode cX11_leastVoice 70 = .ok (.ireturn, 1) := by decide +kernel
abbrev M_X11_leastVoice : MT := (yX11_leastVoice, cX11_leastVoice, 5, (some .int))
theorem cf_X11_leastVoice : fq_cf M_X11_leastVoice 2 := ⟨(mg_1 (List.mem_of_getElem? (i := 1) rfl) rfl), (mg_5 (List.mem_of_getElem? (i := 196) rfl) rfl), ⟨by decide, by decide, by decide +kernel⟩, by decide⟩
def B_X11_leastVoice_20 (l : Launch) (G : GT) (D mc ms : Nat) (Q : Post) : Cn := ix_iload 4 (ix_pushI 9 (ix_icmp_gt (ix_aload 0 (ix_pushI 6 (ix_vcall 11 2 0 0 mc ms (sp_X11_refuse G) (ix_iret mc ms Q)))) (ix_aload 0 (ix_getR 11 6 (ix_getR 6 1 (ix_iload 2 (ix_aald 17 (ix_aload 0 (ix_getR 11 6 (ix_iload 4 (ix_vcall 6 2 0 0 mc ms (sp_X6_loudness G) (ix_vcall 2 2 0 0 mc ms (sp_X2_wouldShout G) (ix_if_eq (ix_iinc 4 1 (fqAt l G M_X11_leastVoice (D + 4) mc ms Q 20)) (ix_aload 0 (ix_iload 4 (ix_vcall 11 2 0 0 mc ms (sp_X11_answer G) (ix_iret mc ms Q)))))))))))))))))
theorem b_X11_leastVoice_20 {l : Launch} {G : GT} {D mc ms : Nat} {Q : Post} : Imp l G M_X11_leastVoice (D + 4) mc ms Q (B_X11_leastVoice_20 l G D mc ms Q) 20 := sx_iload dX11_leastVoice_20 (sx_bipush dX11_leastVoice_22 rfl (sx_icmp_gt 64 dX11_leastVoice_24 (by decide) (sx_aload_n dX11_leastVoice_64 rfl (sx_bipush dX11_leastVoice_65 rfl (sx_vcall dX11_leastVoice_67 cf_X11_refuse (mg_3 (List.mem_of_getElem? (i := 120) rfl) rfl) (mg_3 (List.mem_of_getElem? (i := 122) rfl) rfl) (mg_p (List.mem_of_getElem? (i := 3) rfl) rfl) rfl c_X11_refuse (sx_iret dX11_leastVoice_70 rfl)))) (sx_aload_n dX11_leastVoice_27 rfl (sx_getR dX11_leastVoice_28 fl_FootQuarrel_46 (fun _ _ _ => rfl) (sx_getR dX11_leastVoice_31 fl_FootQuarrel_236 (fun _ _ _ => rfl) (sx_iload_n dX11_leastVoice_34 rfl (sx_aald dX11_leastVoice_35 (by decide) (by decide) rfl (sx_aload_n dX11_leastVoice_36 rfl (sx_getR dX11_leastVoice_37 fl_FootQuarrel_46 (fun _ _ _ => rfl) (sx_iload dX11_leastVoice_40 (sx_vcall dX11_leastVoice_42 cf_X6_loudness (mg_5 (List.mem_of_getElem? (i := 197) rfl) rfl) (mg_5 (List.mem_of_getElem? (i := 136) rfl) rfl) (mg_5 (List.mem_of_getElem? (i := 137) rfl) rfl) rfl c_X6_loudness (sx_vcall dX11_leastVoice_45 cf_X2_wouldShout (mg_5 (List.mem_of_getElem? (i := 198) rfl) rfl) (mg_5 (List.mem_of_getElem? (i := 182) rfl) rfl) (mg_5 (List.mem_of_getElem? (i := 183) rfl) rfl) rfl c_X2_wouldShout (sx_if_eq 58 dX11_leastVoice_48 (by decide) (sx_iinc dX11_leastVoice_58 rfl (by decide) (sx_goto 20 dX11_leastVoice_61 (by decide) ((fun _ _ _ _ _ _ _ _ h => h)))) (sx_aload_n dX11_leastVoice_51 rfl (sx_iload dX11_leastVoice_52 (sx_vcall dX11_leastVoice_54 cf_X11_answer (mg_4 (List.mem_of_getElem? (i := 72) rfl) rfl) (mg_4 (List.mem_of_getElem? (i := 74) rfl) rfl) (mg_p (List.mem_of_getElem? (i := 17) rfl) rfl) rfl c_X11_answer (sx_iret dX11_leastVoice_57 rfl)))))))))))))))))
def B_X11_leastVoice_0 (l : Launch) (G : GT) (D mc ms : Nat) (Q : Post) : Cn := ix_aload 0 (ix_iload 1 (ix_iload 2 (ix_vcall 11 3 0 0 mc ms (sp_X11_pairStatus G) (ix_istore 3 (ix_iload 3 (ix_if_eq (ix_pushI 1 (ix_istore 4 (fqAt l G M_X11_leastVoice (D + 4) mc ms Q 20))) (ix_aload 0 (ix_iload 3 (ix_vcall 11 2 0 0 mc ms (sp_X11_refuse G) (ix_iret mc ms Q))))))))))
theorem b_X11_leastVoice_0 {l : Launch} {G : GT} {D mc ms : Nat} {Q : Post} : Imp l G M_X11_leastVoice (D + 4) mc ms Q (B_X11_leastVoice_0 l G D mc ms Q) 0 := sx_aload_n dX11_leastVoice_0 rfl (sx_iload_n dX11_leastVoice_1 rfl (sx_iload_n dX11_leastVoice_2 rfl (sx_vcall dX11_leastVoice_3 cf_X11_pairStatus (mg_5 (List.mem_of_getElem? (i := 15) rfl) rfl) (mg_5 (List.mem_of_getElem? (i := 17) rfl) rfl) (mg_p (List.mem_of_getElem? (i := 28) rfl) rfl) rfl c_X11_pairStatus (sx_istore_n dX11_leastVoice_6 rfl (by decide) (sx_iload_n dX11_leastVoice_7 rfl (sx_if_eq 17 dX11_leastVoice_8 (by decide) (sx_iconst dX11_leastVoice_17 rfl (sx_istore dX11_leastVoice_18 (by decide) ((fun _ _ _ _ _ _ _ _ h => h)))) (sx_aload_n dX11_leastVoice_11 rfl (sx_iload_n dX11_leastVoice_12 rfl (sx_vcall dX11_leastVoice_13 cf_X11_refuse (mg_3 (List.mem_of_getElem? (i := 120) rfl) rfl) (mg_3 (List.mem_of_getElem? (i := 122) rfl) rfl) (mg_p (List.mem_of_getElem? (i := 3) rfl) rfl) rfl c_X11_refuse (sx_iret dX11_leastVoice_16 rfl))))))))))
theorem dX11_bait_0 : decode cX11_bait 0 = .ok (.aload_n 0, 1) := by decide +kernel
theorem dX11_bait_1 : decode cX11_bait 1 = .ok (.iload_n 1, 1) := by decide +kernel
theorem dX11_bait_2 : decode cX11_bait 2 = .ok (.iload_n 2, 1) := by decide +kernel
theorem dX11_bait_3 : decode cX11_bait 3 = .ok (.invokevirtual 293, 3) := by decide +kernel
theorem dX11_bait_6 : decode cX11_bait 6 = .ok (.istore_n 3, 1) := by decide +kernel
theorem dX11_bait_7 : decode cX11_bait 7 = .ok (.iload_n 3, 1) := by decide +kernel
theorem dX11_bait_8 : decode cX11_bait 8 = .ok (.ifCond .eq 9, 3) := by decide +kernel
theorem dX11_bait_11 : decode cX11_bait 11 = .ok (.aload_n 0, 1) := by decide +kernel
theorem dX11_bait_12 : decode cX11_bait 12 = .ok (.iload_n 3, 1) := by decide +kernel
theorem dX11_bait_13 : decode cX11_bait 13 = .ok (.invokevirtual 97, 3) := by decide +kernel
theorem dX11_bait_16 : decode cX11_bait 16 = .ok (.ireturn, 1) := by decide +kernel
theorem dX11_bait_17 : decode cX11_bait 17 = .ok (.aload_n 0, 1) := by decide +kernel
theorem dX11_bait_18 : decode cX11_bait 18 = .ok (.getfield 46, 3) := by decide +kernel
theorem dX11_bait_21 : decode cX11_bait 21 = .ok (.iload_n 1, 1) := by decide +kernel
theorem dX11_bait_22 : decode cX11_bait 22 = .ok (.invokevirtual 327, 3) := by decide +kernel
theorem dX11_bait_25 : decode cX11_bait 25 = .ok (.istore 4, 2) := by decide +kernel
theorem dX11_bait_27 : decode cX11_bait 27 = .ok (.aload_n 0, 1) := by decide +kernel
theorem dX11_bait_28 : decode cX11_bait 28 = .ok (.getfield 46, 3) := by decide +kernel
theorem dX11_bait_31 : decode cX11_bait 31 = .ok (.getfield 236, 3) := by decide +kernel
theorem dX11_bait_34 : decode cX11_bait 34 = .ok (.iload_n 2, 1) := by decide +kernel
theorem dX11_bait_35 : decode cX11_bait 35 = .ok (.aaload, 1) := by decide +kernel
theorem dX11_bait_36 : decode cX11_bait 36 = .ok (.astore 5, 2) := by decide +kernel
theorem dX11_bait_38 : decode cX11_bait 38 = .ok (.aload 5, 2) := by decide +kernel
theorem dX11_bait_40 : decode cX11_bait 40 = .ok (.iload 4, 2) := by decide +kernel
theorem dX11_bait_42 : decode cX11_bait 42 = .ok (.invokevirtual 330, 3) := by decide +kernel
theorem dX11_bait_45 : decode cX11_bait 45 = .ok (.ifCond .ne 10, 3) := by decide +kernel
theorem dX11_bait_48 : decode cX11_bait 48 = .ok (.aload_n 0, 1) := by decide +kernel
theorem dX11_bait_49 : decode cX11_bait 49 = .ok (.bipush 6, 2) := by decide +kernel
theorem dX11_bait_51 : decode cX11_bait 51 = .ok (.invokevirtual 97, 3) := by decide +kernel
theorem dX11_bait_54 : decode cX11_bait 54 = .ok (.ireturn, 1) := by decide +kernel
theorem dX11_bait_55 : decode cX11_bait 55 = .ok (.iconst 1, 1) := by decide +kernel
theorem dX11_bait_56 : decode cX11_bait 56 = .ok (.istore 6, 2) := by decide +kernel
theorem dX11_bait_58 : decode cX11_bait 58 = .ok (.iload 6, 2) := by decide +kernel
theorem dX11_bait_60 : decode cX11_bait 60 = .ok (.bipush 99, 2) := by decide +kernel
theorem dX11_bait_62 : decode cX11_bait 62 = .ok (.if_icmp .gt 35, 3) := by decide +kernel
theorem dX11_bait_65 : decode cX11_bait 65 = .ok (.aload 5, 2) := by decide +kernel
theorem dX11_bait_67 : decode cX11_bait 67 = .ok (.getfield 257, 3) := by decide +kernel
theorem dX11_bait_70 : decode cX11_bait 70 = .ok (.iload 6, 2) := by decide +kernel
theorem dX11_bait_72 : decode cX11_bait 72 = .ok (.iload 4, 2) := by decide +kernel
theorem dX11_bait_74 : decode cX11_bait 74 = .ok (.imul, 1) := by decide +kernel
theorem dX11_bait_75 : decode cX11_bait 75 = .ok (.iadd, 1) := by decide +kernel
theorem dX11_bait_76 : decode cX11_bait 76 = .ok (.aload 5, 2) := by decide +kernel
theorem dX11_bait_78 : decode cX11_bait 78 = .ok (.getfield 245, 3) := by decide +kernel
theorem dX11_bait_81 : decode cX11_bait 81 = .ok (.if_icmp .le 10, 3) := by decide +kernel
theorem dX11_bait_84 : decode cX11_bait 84 = .ok (.aload_n 0, 1) := by decide +kernel
theorem dX11_bait_85 : decode cX11_bait 85 = .ok (.iload 6, 2) := by decide +kernel
theorem dX11_bait_87 : decode cX11_bait 87 = .ok (.invokevirtual 142, 3) := by decide +kernel
theorem dX11_bait_90 : decode cX11_bait 90 = .ok (.ireturn, 1) := by decide +kernel
theorem dX11_bait_91 : decode cX11_bait 91 = .ok (.iinc 6 1, 3) := by decide +kernel
theorem dX11_bait_94 : decode cX11_bait 94 = .ok (.goto (-36), 3) := by decide +kernel
theorem dX11_bait_97 : decode cX11_bait 97 = .ok (.aload_n 0, 1) := by decide +kernel
theorem dX11_bait_98 : decode cX11_bait 98 = .ok (.bipush 6, 2) := by decide +kernel
theorem dX11_bait_100 : decode cX11_bait 100 = .ok (.invokevirtual 97, 3) := by decide +kernel
theorem dX11_bait_103 : decode cX11_bait 103 = .ok (.ireturn, 1) := by decide +kernel
abbrev M_X11_bait : MT := (yX11_bait, cX11_bait, 7, (some .int))
theorem cf_X11_bait : fq_cf M_X11_bait 2 := ⟨(mg_1 (List.mem_of_getElem? (i := 1) rfl) rfl), (mg_5 (List.mem_of_getElem? (i := 192) rfl) rfl), ⟨by decide, by decide, by decide +kernel⟩, by decide⟩
def B_X11_bait_58 (l : Launch) (G : GT) (D mc ms : Nat) (Q : Post) : Cn := ix_iload 6 (ix_pushI 99 (ix_icmp_gt (ix_aload 0 (ix_pushI 6 (ix_vcall 11 2 0 0 mc ms (sp_X11_refuse G) (ix_iret mc ms Q)))) (ix_aload 5 (ix_getI 2 6 (ix_iload 6 (ix_iload 4 (ix_imul (ix_iadd (ix_aload 5 (ix_getI 2 2 (ix_icmp_le (ix_iinc 6 1 (fqAt l G M_X11_bait (D + 4) mc ms Q 58)) (ix_aload 0 (ix_iload 6 (ix_vcall 11 2 0 0 mc ms (sp_X11_answer G) (ix_iret mc ms Q)))))))))))))))
theorem b_X11_bait_58 {l : Launch} {G : GT} {D mc ms : Nat} {Q : Post} : Imp l G M_X11_bait (D + 4) mc ms Q (B_X11_bait_58 l G D mc ms Q) 58 := sx_iload dX11_bait_58 (sx_bipush dX11_bait_60 rfl (sx_icmp_gt 97 dX11_bait_62 (by decide) (sx_aload_n dX11_bait_97 rfl (sx_bipush dX11_bait_98 rfl (sx_vcall dX11_bait_100 cf_X11_refuse (mg_3 (List.mem_of_getElem? (i := 120) rfl) rfl) (mg_3 (List.mem_of_getElem? (i := 122) rfl) rfl) (mg_p (List.mem_of_getElem? (i := 3) rfl) rfl) rfl c_X11_refuse (sx_iret dX11_bait_103 rfl)))) (sx_aload dX11_bait_65 (sx_getI dX11_bait_67 fl_FootQuarrel_257 (fun _ _ _ => rfl) (sx_iload dX11_bait_70 (sx_iload dX11_bait_72 (sx_imul dX11_bait_74 (sx_iadd dX11_bait_75 (sx_aload dX11_bait_76 (sx_getI dX11_bait_78 fl_FootQuarrel_245 (fun _ _ _ => rfl) (sx_icmp_le 91 dX11_bait_81 (by decide) (sx_iinc dX11_bait_91 rfl (by decide) (sx_goto 58 dX11_bait_94 (by decide) ((fun _ _ _ _ _ _ _ _ h => h)))) (sx_aload_n dX11_bait_84 rfl (sx_iload dX11_bait_85 (sx_vcall dX11_bait_87 cf_X11_answer (mg_4 (List.mem_of_getElem? (i := 72) rfl) rfl) (mg_4 (List.mem_of_getElem? (i := 74) rfl) rfl) (mg_p (List.mem_of_getElem? (i := 17) rfl) rfl) rfl c_X11_answer (sx_iret dX11_bait_90 rfl)))))))))))))))
def B_X11_bait_0 (l : Launch) (G : GT) (D mc ms : Nat) (Q : Post) : Cn := ix_aload 0 (ix_iload 1 (ix_iload 2 (ix_vcall 11 3 0 0 mc ms (sp_X11_pairStatus G) (ix_istore 3 (ix_iload 3 (ix_if_eq (ix_aload 0 (ix_getR 11 6 (ix_iload 1 (ix_vcall 6 2 0 0 mc ms (sp_X6_loudnessOf G) (ix_istore 4 (ix_aload 0 (ix_getR 11 6 (ix_getR 6 1 (ix_iload 2 (ix_aald 17 (ix_astore 5 (ix_aload 5 (ix_iload 4 (ix_vcall 2 2 0 0 mc ms (sp_X2_catches G) (ix_if_ne (ix_pushI 1 (ix_istore 6 (fqAt l G M_X11_bait (D + 4) mc ms Q 58))) (ix_aload 0 (ix_pushI 6 (ix_vcall 11 2 0 0 mc ms (sp_X11_refuse G) (ix_iret mc ms Q))))))))))))))))))) (ix_aload 0 (ix_iload 3 (ix_vcall 11 2 0 0 mc ms (sp_X11_refuse G) (ix_iret mc ms Q))))))))))
theorem b_X11_bait_0 {l : Launch} {G : GT} {D mc ms : Nat} {Q : Post} : Imp l G M_X11_bait (D + 4) mc ms Q (B_X11_bait_0 l G D mc ms Q) 0 := sx_aload_n dX11_bait_0 rfl (sx_iload_n dX11_bait_1 rfl (sx_iload_n dX11_bait_2 rfl (sx_vcall dX11_bait_3 cf_X11_pairStatus (mg_5 (List.mem_of_getElem? (i := 15) rfl) rfl) (mg_5 (List.mem_of_getElem? (i := 17) rfl) rfl) (mg_p (List.mem_of_getElem? (i := 28) rfl) rfl) rfl c_X11_pairStatus (sx_istore_n dX11_bait_6 rfl (by decide) (sx_iload_n dX11_bait_7 rfl (sx_if_eq 17 dX11_bait_8 (by decide) (sx_aload_n dX11_bait_17 rfl (sx_getR dX11_bait_18 fl_FootQuarrel_46 (fun _ _ _ => rfl) (sx_iload_n dX11_bait_21 rfl (sx_vcall dX11_bait_22 cf_X6_loudnessOf (mg_5 (List.mem_of_getElem? (i := 131) rfl) rfl) (mg_5 (List.mem_of_getElem? (i := 132) rfl) rfl) (mg_5 (List.mem_of_getElem? (i := 133) rfl) rfl) rfl c_X6_loudnessOf (sx_istore dX11_bait_25 (by decide) (sx_aload_n dX11_bait_27 rfl (sx_getR dX11_bait_28 fl_FootQuarrel_46 (fun _ _ _ => rfl) (sx_getR dX11_bait_31 fl_FootQuarrel_236 (fun _ _ _ => rfl) (sx_iload_n dX11_bait_34 rfl (sx_aald dX11_bait_35 (by decide) (by decide) rfl (sx_astore dX11_bait_36 (by decide) (sx_aload dX11_bait_38 (sx_iload dX11_bait_40 (sx_vcall dX11_bait_42 cf_X2_catches (mg_5 (List.mem_of_getElem? (i := 144) rfl) rfl) (mg_5 (List.mem_of_getElem? (i := 44) rfl) rfl) (mg_5 (List.mem_of_getElem? (i := 45) rfl) rfl) rfl c_X2_catches (sx_if_ne 55 dX11_bait_45 (by decide) (sx_iconst dX11_bait_55 rfl (sx_istore dX11_bait_56 (by decide) ((fun _ _ _ _ _ _ _ _ h => h)))) (sx_aload_n dX11_bait_48 rfl (sx_bipush dX11_bait_49 rfl (sx_vcall dX11_bait_51 cf_X11_refuse (mg_3 (List.mem_of_getElem? (i := 120) rfl) rfl) (mg_3 (List.mem_of_getElem? (i := 122) rfl) rfl) (mg_p (List.mem_of_getElem? (i := 3) rfl) rfl) rfl c_X11_refuse (sx_iret dX11_bait_54 rfl))))))))))))))))))) (sx_aload_n dX11_bait_11 rfl (sx_iload_n dX11_bait_12 rfl (sx_vcall dX11_bait_13 cf_X11_refuse (mg_3 (List.mem_of_getElem? (i := 120) rfl) rfl) (mg_3 (List.mem_of_getElem? (i := 122) rfl) rfl) (mg_p (List.mem_of_getElem? (i := 3) rfl) rfl) rfl c_X11_refuse (sx_iret dX11_bait_16 rfl))))))))))
theorem dX11_calmIn_0 : decode cX11_calmIn 0 = .ok (.iconst 0, 1) := by decide +kernel
theorem dX11_calmIn_1 : decode cX11_calmIn 1 = .ok (.istore_n 1, 1) := by decide +kernel
theorem dX11_calmIn_2 : decode cX11_calmIn 2 = .ok (.iload_n 1, 1) := by decide +kernel
theorem dX11_calmIn_3 : decode cX11_calmIn 3 = .ok (.bipush 99, 2) := by decide +kernel
theorem dX11_calmIn_5 : decode cX11_calmIn 5 = .ok (.if_icmp .gt 54, 3) := by decide +kernel
theorem dX11_calmIn_8 : decode cX11_calmIn 8 = .ok (.iconst 1, 1) := by decide +kernel
theorem dX11_calmIn_9 : decode cX11_calmIn 9 = .ok (.istore_n 2, 1) := by decide +kernel
theorem dX11_calmIn_10 : decode cX11_calmIn 10 = .ok (.iconst 0, 1) := by decide +kernel
theorem dX11_calmIn_11 : decode cX11_calmIn 11 = .ok (.istore_n 3, 1) := by decide +kernel
theorem dX11_calmIn_12 : decode cX11_calmIn 12 = .ok (.iload_n 3, 1) := by decide +kernel
theorem dX11_calmIn_13 : decode cX11_calmIn 13 = .ok (.aload_n 0, 1) := by decide +kernel
theorem dX11_calmIn_14 : decode cX11_calmIn 14 = .ok (.getfield 46, 3) := by decide +kernel
theorem dX11_calmIn_17 : decode cX11_calmIn 17 = .ok (.getfield 139, 3) := by decide +kernel
theorem dX11_calmIn_20 : decode cX11_calmIn 20 = .ok (.if_icmp .ge 23, 3) := by decide +kernel
theorem dX11_calmIn_23 : decode cX11_calmIn 23 = .ok (.aload_n 0, 1) := by decide +kernel
theorem dX11_calmIn_24 : decode cX11_calmIn 24 = .ok (.getfield 46, 3) := by decide +kernel
theorem dX11_calmIn_27 : decode cX11_calmIn 27 = .ok (.iload_n 3, 1) := by decide +kernel
theorem dX11_calmIn_28 : decode cX11_calmIn 28 = .ok (.iload_n 1, 1) := by decide +kernel
theorem dX11_calmIn_29 : decode cX11_calmIn 29 = .ok (.invokevirtual 357, 3) := by decide +kernel
theorem dX11_calmIn_32 : decode cX11_calmIn 32 = .ok (.ifCond .le 5, 3) := by decide +kernel
theorem dX11_calmIn_35 : decode cX11_calmIn 35 = .ok (.iconst 0, 1) := by decide +kernel
theorem dX11_calmIn_36 : decode cX11_calmIn 36 = .ok (.istore_n 2, 1) := by decide +kernel
theorem dX11_calmIn_37 : decode cX11_calmIn 37 = .ok (.iinc 3 1, 3) := by decide +kernel
theorem dX11_calmIn_40 : decode cX11_calmIn 40 = .ok (.goto (-28), 3) := by decide +kernel
theorem dX11_calmIn_43 : decode cX11_calmIn 43 = .ok (.iload_n 2, 1) := by decide +kernel
theorem dX11_calmIn_44 : decode cX11_calmIn 44 = .ok (.ifCond .eq 9, 3) := by decide +kernel
theorem dX11_calmIn_47 : decode cX11_calmIn 47 = .ok (.aload_n 0, 1) := by decide +kernel
theorem dX11_calmIn_48 : decode cX11_calmIn 48 = .ok (.iload_n 1, 1) := by decide +kernel
theorem dX11_calmIn_49 : decode cX11_calmIn 49 = .ok (.invokevirtual 142, 3) := by decide +kernel
theorem dX11_calmIn_52 : decode cX11_calmIn 52 = .ok (.ireturn, 1) := by decide +kernel
theorem dX11_calmIn_53 : decode cX11_calmIn 53 = .ok (.iinc 1 1, 3) := by decide +kernel
theorem dX11_calmIn_56 : decode cX11_calmIn 56 = .ok (.goto (-54), 3) := by decide +kernel
theorem dX11_calmIn_59 : decode cX11_calmIn 59 = .ok (.aload_n 0, 1) := by decide +kernel
theorem dX11_calmIn_60 : decode cX11_calmIn 60 = .ok (.bipush 6, 2) := by decide +kernel
theorem dX11_calmIn_62 : decode cX11_calmIn 62 = .ok (.invokevirtual 97, 3) := by decide +kernel
theorem dX11_calmIn_65 : decode cX11_calmIn 65 = .ok (.ireturn, 1) := by decide +kernel
abbrev M_X11_calmIn : MT := (yX11_calmIn, cX11_calmIn, 4, (some .int))
theorem cf_X11_calmIn : fq_cf M_X11_calmIn 0 := ⟨(mg_1 (List.mem_of_getElem? (i := 1) rfl) rfl), (mg_5 (List.mem_of_getElem? (i := 207) rfl) rfl), ⟨by decide, by decide, by decide +kernel⟩, by decide⟩
def B_X11_calmIn_37 (l : Launch) (G : GT) (D mc ms : Nat) (Q : Post) : Cn := ix_iinc 3 1 (fqAt l G M_X11_calmIn (D + 2) mc ms Q 12)
theorem b_X11_calmIn_37 {l : Launch} {G : GT} {D mc ms : Nat} {Q : Post} : Imp l G M_X11_calmIn (D + 2) mc ms Q (B_X11_calmIn_37 l G D mc ms Q) 37 := sx_iinc dX11_calmIn_37 rfl (by decide) (sx_goto 12 dX11_calmIn_40 (by decide) ((fun _ _ _ _ _ _ _ _ h => h)))
def B_X11_calmIn_12 (l : Launch) (G : GT) (D mc ms : Nat) (Q : Post) : Cn := ix_iload 3 (ix_aload 0 (ix_getR 11 6 (ix_getI 6 6 (ix_icmp_ge (ix_iload 2 (ix_if_eq (ix_iinc 1 1 (fqAt l G M_X11_calmIn (D + 2) mc ms Q 2)) (ix_aload 0 (ix_iload 1 (ix_vcall 11 2 0 0 mc ms (sp_X11_answer G) (ix_iret mc ms Q)))))) (ix_aload 0 (ix_getR 11 6 (ix_iload 3 (ix_iload 1 (ix_vcall 6 3 0 0 mc ms (sp_X6_angerBehind G) (ix_if_le ((B_X11_calmIn_37 l G D mc ms Q)) (ix_pushI 0 (ix_istore 2 ((B_X11_calmIn_37 l G D mc ms Q))))))))))))))
theorem b_X11_calmIn_12 {l : Launch} {G : GT} {D mc ms : Nat} {Q : Post} : Imp l G M_X11_calmIn (D + 2) mc ms Q (B_X11_calmIn_12 l G D mc ms Q) 12 := sx_iload_n dX11_calmIn_12 rfl (sx_aload_n dX11_calmIn_13 rfl (sx_getR dX11_calmIn_14 fl_FootQuarrel_46 (fun _ _ _ => rfl) (sx_getI dX11_calmIn_17 fl_FootQuarrel_139 (fun _ _ _ => rfl) (sx_icmp_ge 43 dX11_calmIn_20 (by decide) (sx_iload_n dX11_calmIn_43 rfl (sx_if_eq 53 dX11_calmIn_44 (by decide) (sx_iinc dX11_calmIn_53 rfl (by decide) (sx_goto 2 dX11_calmIn_56 (by decide) ((fun _ _ _ _ _ _ _ _ h => h)))) (sx_aload_n dX11_calmIn_47 rfl (sx_iload_n dX11_calmIn_48 rfl (sx_vcall dX11_calmIn_49 cf_X11_answer (mg_4 (List.mem_of_getElem? (i := 72) rfl) rfl) (mg_4 (List.mem_of_getElem? (i := 74) rfl) rfl) (mg_p (List.mem_of_getElem? (i := 17) rfl) rfl) rfl c_X11_answer (sx_iret dX11_calmIn_52 rfl)))))) (sx_aload_n dX11_calmIn_23 rfl (sx_getR dX11_calmIn_24 fl_FootQuarrel_46 (fun _ _ _ => rfl) (sx_iload_n dX11_calmIn_27 rfl (sx_iload_n dX11_calmIn_28 rfl (sx_vcall dX11_calmIn_29 cf_X6_angerBehind (mg_5 (List.mem_of_getElem? (i := 203) rfl) rfl) (mg_5 (List.mem_of_getElem? (i := 87) rfl) rfl) (mg_5 (List.mem_of_getElem? (i := 88) rfl) rfl) rfl c_X6_angerBehind (sx_if_le 37 dX11_calmIn_32 (by decide) (b_X11_calmIn_37) (sx_iconst dX11_calmIn_35 rfl (sx_istore_n dX11_calmIn_36 rfl (by decide) (b_X11_calmIn_37)))))))))))))
def B_X11_calmIn_2 (l : Launch) (G : GT) (D mc ms : Nat) (Q : Post) : Cn := ix_iload 1 (ix_pushI 99 (ix_icmp_gt (ix_aload 0 (ix_pushI 6 (ix_vcall 11 2 0 0 mc ms (sp_X11_refuse G) (ix_iret mc ms Q)))) (ix_pushI 1 (ix_istore 2 (ix_pushI 0 (ix_istore 3 (fqAt l G M_X11_calmIn (D + 2) mc ms Q 12)))))))
theorem b_X11_calmIn_2 {l : Launch} {G : GT} {D mc ms : Nat} {Q : Post} : Imp l G M_X11_calmIn (D + 2) mc ms Q (B_X11_calmIn_2 l G D mc ms Q) 2 := sx_iload_n dX11_calmIn_2 rfl (sx_bipush dX11_calmIn_3 rfl (sx_icmp_gt 59 dX11_calmIn_5 (by decide) (sx_aload_n dX11_calmIn_59 rfl (sx_bipush dX11_calmIn_60 rfl (sx_vcall dX11_calmIn_62 cf_X11_refuse (mg_3 (List.mem_of_getElem? (i := 120) rfl) rfl) (mg_3 (List.mem_of_getElem? (i := 122) rfl) rfl) (mg_p (List.mem_of_getElem? (i := 3) rfl) rfl) rfl c_X11_refuse (sx_iret dX11_calmIn_65 rfl)))) (sx_iconst dX11_calmIn_8 rfl (sx_istore_n dX11_calmIn_9 rfl (by decide) (sx_iconst dX11_calmIn_10 rfl (sx_istore_n dX11_calmIn_11 rfl (by decide) ((fun _ _ _ _ _ _ _ _ h => h))))))))
def B_X11_calmIn_0 (l : Launch) (G : GT) (D mc ms : Nat) (Q : Post) : Cn := ix_pushI 0 (ix_istore 1 (fqAt l G M_X11_calmIn (D + 2) mc ms Q 2))
theorem b_X11_calmIn_0 {l : Launch} {G : GT} {D mc ms : Nat} {Q : Post} : Imp l G M_X11_calmIn (D + 2) mc ms Q (B_X11_calmIn_0 l G D mc ms Q) 0 := sx_iconst dX11_calmIn_0 rfl (sx_istore_n dX11_calmIn_1 rfl (by decide) ((fun _ _ _ _ _ _ _ _ h => h)))
theorem dX11_quiet_0 : decode cX11_quiet 0 = .ok (.aload_n 0, 1) := by decide +kernel
theorem dX11_quiet_1 : decode cX11_quiet 1 = .ok (.iload_n 1, 1) := by decide +kernel
theorem dX11_quiet_2 : decode cX11_quiet 2 = .ok (.invokevirtual 227, 3) := by decide +kernel
theorem dX11_quiet_5 : decode cX11_quiet 5 = .ok (.ifCond .ne 9, 3) := by decide +kernel
theorem dX11_quiet_8 : decode cX11_quiet 8 = .ok (.aload_n 0, 1) := by decide +kernel
theorem dX11_quiet_9 : decode cX11_quiet 9 = .ok (.iconst 1, 1) := by decide +kernel
theorem dX11_quiet_10 : decode cX11_quiet 10 = .ok (.invokevirtual 97, 3) := by decide +kernel
theorem dX11_quiet_13 : decode cX11_quiet 13 = .ok (.ireturn, 1) := by decide +kernel
theorem dX11_quiet_14 : decode cX11_quiet 14 = .ok (.iconst 1, 1) := by decide +kernel
theorem dX11_quiet_15 : decode cX11_quiet 15 = .ok (.istore_n 2, 1) := by decide +kernel
theorem dX11_quiet_16 : decode cX11_quiet 16 = .ok (.iconst 0, 1) := by decide +kernel
theorem dX11_quiet_17 : decode cX11_quiet 17 = .ok (.istore_n 3, 1) := by decide +kernel
theorem dX11_quiet_18 : decode cX11_quiet 18 = .ok (.iload_n 3, 1) := by decide +kernel
theorem dX11_quiet_19 : decode cX11_quiet 19 = .ok (.aload_n 0, 1) := by decide +kernel
theorem dX11_quiet_20 : decode cX11_quiet 20 = .ok (.getfield 46, 3) := by decide +kernel
theorem dX11_quiet_23 : decode cX11_quiet 23 = .ok (.getfield 139, 3) := by decide +kernel
theorem dX11_quiet_26 : decode cX11_quiet 26 = .ok (.if_icmp .ge 59, 3) := by decide +kernel
theorem dX11_quiet_29 : decode cX11_quiet 29 = .ok (.iconst 0, 1) := by decide +kernel
theorem dX11_quiet_30 : decode cX11_quiet 30 = .ok (.istore 4, 2) := by decide +kernel
theorem dX11_quiet_32 : decode cX11_quiet 32 = .ok (.iload 4, 2) := by decide +kernel
theorem dX11_quiet_34 : decode cX11_quiet 34 = .ok (.aload_n 0, 1) := by decide +kernel
theorem dX11_quiet_35 : decode cX11_quiet 35 = .ok (.getfield 46, 3) := by decide +kernel
theorem dX11_quiet_38 : decode cX11_quiet 38 = .ok (.getfield 139, 3) := by decide +kernel
theorem dX11_quiet_41 : decode cX11_quiet 41 = .ok (.if_icmp .ge 38, 3) := by decide +kernel
theorem dX11_quiet_44 : decode cX11_quiet 44 = .ok (.aload_n 0, 1) := by decide +kernel
theorem dX11_quiet_45 : decode cX11_quiet 45 = .ok (.getfield 46, 3) := by decide +kernel
theorem dX11_quiet_48 : decode cX11_quiet 48 = .ok (.iload_n 3, 1) := by decide +kernel
theorem dX11_quiet_49 : decode cX11_quiet 49 = .ok (.iload 4, 2) := by decide +kernel
theorem dX11_quiet_51 : decode cX11_quiet 51 = .ok (.invokevirtual 287, 3) := by decide +kernel
theorem dX11_quiet_54 : decode cX11_quiet 54 = .ok (.iload_n 1, 1) := by decide +kernel
theorem dX11_quiet_55 : decode cX11_quiet 55 = .ok (.if_icmp .ne 18, 3) := by decide +kernel
theorem dX11_quiet_58 : decode cX11_quiet 58 = .ok (.aload_n 0, 1) := by decide +kernel
theorem dX11_quiet_59 : decode cX11_quiet 59 = .ok (.getfield 46, 3) := by decide +kernel
theorem dX11_quiet_62 : decode cX11_quiet 62 = .ok (.iload_n 3, 1) := by decide +kernel
theorem dX11_quiet_63 : decode cX11_quiet 63 = .ok (.iload 4, 2) := by decide +kernel
theorem dX11_quiet_65 : decode cX11_quiet 65 = .ok (.invokevirtual 348, 3) := by decide +kernel
theorem dX11_quiet_68 : decode cX11_quiet 68 = .ok (.ifCond .eq 5, 3) := by decide +kernel
theorem dX11_quiet_71 : decode cX11_quiet 71 = .ok (.iconst 0, 1) := by decide +kernel
theorem dX11_quiet_72 : decode cX11_quiet 72 = .ok (.istore_n 2, 1) := by decide +kernel
theorem dX11_quiet_73 : decode cX11_quiet 73 = .ok (.iinc 4 1, 3) := by decide +kernel
theorem dX11_quiet_76 : decode cX11_quiet 76 = .ok (.goto (-44), 3) := by decide +kernel
theorem dX11_quiet_79 : decode cX11_quiet 79 = .ok (.iinc 3 1, 3) := by decide +kernel
theorem dX11_quiet_82 : decode cX11_quiet 82 = .ok (.goto (-64), 3) := by decide +kernel
theorem dX11_quiet_85 : decode cX11_quiet 85 = .ok (.aload_n 0, 1) := by decide +kernel
theorem dX11_quiet_86 : decode cX11_quiet 86 = .ok (.iload_n 2, 1) := by decide +kernel
theorem dX11_quiet_87 : decode cX11_quiet 87 = .ok (.invokestatic 186, 3) := by decide +kernel
theorem dX11_quiet_90 : decode cX11_quiet 90 = .ok (.invokevirtual 142, 3) := by decide +kernel
theorem dX11_quiet_93 : decode cX11_quiet 93 = .ok (.ireturn, 1) := by decide +kernel
abbrev M_X11_quiet : MT := (yX11_quiet, cX11_quiet, 5, (some .int))
theorem cf_X11_quiet : fq_cf M_X11_quiet 1 := ⟨(mg_1 (List.mem_of_getElem? (i := 1) rfl) rfl), (mg_5 (List.mem_of_getElem? (i := 188) rfl) rfl), ⟨by decide, by decide, by decide +kernel⟩, by decide⟩
def B_X11_quiet_73 (l : Launch) (G : GT) (D mc ms : Nat) (Q : Post) : Cn := ix_iinc 4 1 (fqAt l G M_X11_quiet (D + 5) mc ms Q 32)
theorem b_X11_quiet_73 {l : Launch} {G : GT} {D mc ms : Nat} {Q : Post} : Imp l G M_X11_quiet (D + 5) mc ms Q (B_X11_quiet_73 l G D mc ms Q) 73 := sx_iinc dX11_quiet_73 rfl (by decide) (sx_goto 32 dX11_quiet_76 (by decide) ((fun _ _ _ _ _ _ _ _ h => h)))
def B_X11_quiet_32 (l : Launch) (G : GT) (D mc ms : Nat) (Q : Post) : Cn := ix_iload 4 (ix_aload 0 (ix_getR 11 6 (ix_getI 6 6 (ix_icmp_ge (ix_iinc 3 1 (fqAt l G M_X11_quiet (D + 5) mc ms Q 18)) (ix_aload 0 (ix_getR 11 6 (ix_iload 3 (ix_iload 4 (ix_vcall 6 3 0 0 mc ms (sp_X6_sharedWall G) (ix_iload 1 (ix_icmp_ne ((B_X11_quiet_73 l G D mc ms Q)) (ix_aload 0 (ix_getR 11 6 (ix_iload 3 (ix_iload 4 (ix_vcall 6 3 0 0 mc ms (sp_X6_wouldProvoke G) (ix_if_eq ((B_X11_quiet_73 l G D mc ms Q)) (ix_pushI 0 (ix_istore 2 ((B_X11_quiet_73 l G D mc ms Q)))))))))))))))))))))
theorem b_X11_quiet_32 {l : Launch} {G : GT} {D mc ms : Nat} {Q : Post} : Imp l G M_X11_quiet (D + 5) mc ms Q (B_X11_quiet_32 l G D mc ms Q) 32 := sx_iload dX11_quiet_32 (sx_aload_n dX11_quiet_34 rfl (sx_getR dX11_quiet_35 fl_FootQuarrel_46 (fun _ _ _ => rfl) (sx_getI dX11_quiet_38 fl_FootQuarrel_139 (fun _ _ _ => rfl) (sx_icmp_ge 79 dX11_quiet_41 (by decide) (sx_iinc dX11_quiet_79 rfl (by decide) (sx_goto 18 dX11_quiet_82 (by decide) ((fun _ _ _ _ _ _ _ _ h => h)))) (sx_aload_n dX11_quiet_44 rfl (sx_getR dX11_quiet_45 fl_FootQuarrel_46 (fun _ _ _ => rfl) (sx_iload_n dX11_quiet_48 rfl (sx_iload dX11_quiet_49 (sx_vcall dX11_quiet_51 cf_X6_sharedWall (mg_4 (List.mem_of_getElem? (i := 232) rfl) rfl) (mg_4 (List.mem_of_getElem? (i := 233) rfl) rfl) (mg_4 (List.mem_of_getElem? (i := 234) rfl) rfl) rfl c_X6_sharedWall (sx_iload_n dX11_quiet_54 rfl (sx_icmp_ne 73 dX11_quiet_55 (by decide) (b_X11_quiet_73) (sx_aload_n dX11_quiet_58 rfl (sx_getR dX11_quiet_59 fl_FootQuarrel_46 (fun _ _ _ => rfl) (sx_iload_n dX11_quiet_62 rfl (sx_iload dX11_quiet_63 (sx_vcall dX11_quiet_65 cf_X6_wouldProvoke (mg_5 (List.mem_of_getElem? (i := 177) rfl) rfl) (mg_5 (List.mem_of_getElem? (i := 178) rfl) rfl) (mg_5 (List.mem_of_getElem? (i := 179) rfl) rfl) rfl c_X6_wouldProvoke (sx_if_eq 73 dX11_quiet_68 (by decide) (b_X11_quiet_73) (sx_iconst dX11_quiet_71 rfl (sx_istore_n dX11_quiet_72 rfl (by decide) (b_X11_quiet_73))))))))))))))))))))
def B_X11_quiet_18 (l : Launch) (G : GT) (D mc ms : Nat) (Q : Post) : Cn := ix_iload 3 (ix_aload 0 (ix_getR 11 6 (ix_getI 6 6 (ix_icmp_ge (ix_aload 0 (ix_iload 2 (ix_call 1 0 0 mc ms (sp_X11_oneIf G) (ix_vcall 11 2 0 0 mc ms (sp_X11_answer G) (ix_iret mc ms Q))))) (ix_pushI 0 (ix_istore 4 (fqAt l G M_X11_quiet (D + 5) mc ms Q 32)))))))
theorem b_X11_quiet_18 {l : Launch} {G : GT} {D mc ms : Nat} {Q : Post} : Imp l G M_X11_quiet (D + 5) mc ms Q (B_X11_quiet_18 l G D mc ms Q) 18 := sx_iload_n dX11_quiet_18 rfl (sx_aload_n dX11_quiet_19 rfl (sx_getR dX11_quiet_20 fl_FootQuarrel_46 (fun _ _ _ => rfl) (sx_getI dX11_quiet_23 fl_FootQuarrel_139 (fun _ _ _ => rfl) (sx_icmp_ge 85 dX11_quiet_26 (by decide) (sx_aload_n dX11_quiet_85 rfl (sx_iload_n dX11_quiet_86 rfl (sx_scall dX11_quiet_87 cf_X11_oneIf (mg_4 (List.mem_of_getElem? (i := 163) rfl) rfl) (mg_4 (List.mem_of_getElem? (i := 164) rfl) rfl) c_X11_oneIf (sx_vcall dX11_quiet_90 cf_X11_answer (mg_4 (List.mem_of_getElem? (i := 72) rfl) rfl) (mg_4 (List.mem_of_getElem? (i := 74) rfl) rfl) (mg_p (List.mem_of_getElem? (i := 17) rfl) rfl) rfl c_X11_answer (sx_iret dX11_quiet_93 rfl))))) (sx_iconst dX11_quiet_29 rfl (sx_istore dX11_quiet_30 (by decide) ((fun _ _ _ _ _ _ _ _ h => h))))))))
def B_X11_quiet_0 (l : Launch) (G : GT) (D mc ms : Nat) (Q : Post) : Cn := ix_aload 0 (ix_iload 1 (ix_vcall 11 2 0 0 mc ms (sp_X11_isWall G) (ix_if_ne (ix_pushI 1 (ix_istore 2 (ix_pushI 0 (ix_istore 3 (fqAt l G M_X11_quiet (D + 5) mc ms Q 18))))) (ix_aload 0 (ix_pushI 1 (ix_vcall 11 2 0 0 mc ms (sp_X11_refuse G) (ix_iret mc ms Q)))))))
theorem b_X11_quiet_0 {l : Launch} {G : GT} {D mc ms : Nat} {Q : Post} : Imp l G M_X11_quiet (D + 5) mc ms Q (B_X11_quiet_0 l G D mc ms Q) 0 := sx_aload_n dX11_quiet_0 rfl (sx_iload_n dX11_quiet_1 rfl (sx_vcall dX11_quiet_2 cf_X11_isWall (mg_4 (List.mem_of_getElem? (i := 190) rfl) rfl) (mg_4 (List.mem_of_getElem? (i := 192) rfl) rfl) (mg_p (List.mem_of_getElem? (i := 25) rfl) rfl) rfl c_X11_isWall (sx_if_ne 14 dX11_quiet_5 (by decide) (sx_iconst dX11_quiet_14 rfl (sx_istore_n dX11_quiet_15 rfl (by decide) (sx_iconst dX11_quiet_16 rfl (sx_istore_n dX11_quiet_17 rfl (by decide) ((fun _ _ _ _ _ _ _ _ h => h)))))) (sx_aload_n dX11_quiet_8 rfl (sx_iconst dX11_quiet_9 rfl (sx_vcall dX11_quiet_10 cf_X11_refuse (mg_3 (List.mem_of_getElem? (i := 120) rfl) rfl) (mg_3 (List.mem_of_getElem? (i := 122) rfl) rfl) (mg_p (List.mem_of_getElem? (i := 3) rfl) rfl) rfl c_X11_refuse (sx_iret dX11_quiet_13 rfl)))))))
/-- is it a wall of a street of c houses -/
abbrev wlI (w : Int32) (c : Nat) : Prop := 0 ≤ w ∧ w ≤ nI (c - 1) - 1
def qnU (I : IH) (s e : Nat) (w : Int32) (i n : Nat) (a : Int32) : Int32 := foldU (fun k a => if I (s + 32 + qix e k) 1 = w then a + 1 else a) i n a
theorem qnU_0 (I : IH) (s e : Nat) (w : Int32) (i : Nat) (a : Int32) : qnU I s e w i 0 a = a := rfl
theorem qnU_1 (I : IH) (s e : Nat) (w : Int32) (i n : Nat) (a : Int32) : qnU I s e w i (n + 1) a = qnU I s e w (i + 1) n (if I (s + 32 + qix e i) 1 = w then a + 1 else a) := rfl
def sp_X11_quarrelsAt (G : GT) : Sp := fun as S I J z Q => match as with
  | [.ref X, .int w] => ∃ s, xsh S X s ∧ okN (I s 5) 6 ∧ okN (I s 7) 20 ∧ okN (I s 8) 19 ∧ (¬ wlI w (I s 5).toNatClampNeg → Q (some (.int (-1))) S (u2 I X 10 1) J z) ∧ (wlI w (I s 5).toNatClampNeg → Q (some (.int (qnU I s (I s 8).toNatClampNeg w 0 (I s 7).toNatClampNeg 0))) S (u2 I X 10 0) J z)
  | _ => False
set_option maxHeartbeats 4000000 in
set_option maxRecDepth 20000 in
theorem c_X11_quarrelsAt {l : Launch} {G : GT} {D : Nat} : ∀ as S I J z Q, sp_X11_quarrelsAt G as S I J z Q → fqCall l G M_X11_quarrelsAt (D + 3) 0 0 as S I J z Q := by
  intro as S I J z Q h
  unfold sp_X11_quarrelsAt at h
  split at h
  · next X w =>
    obtain ⟨s, ⟨x1, x2, hs⟩, ho, ho7, ho8, hQ1, hQ2⟩ := h
    obtain ⟨c, hc, hc1, hc2⟩ := ho.ex
    obtain ⟨d, hd, hd1, hd2⟩ := ho7.ex
    have hkQ := hs.kQ
    have hw := wct hc
    rw [hc2, hd2] at hQ2
    rw [hc2] at hQ1
    by_cases h1 : 0 ≤ w ∧ w ≤ nI (c - 1) - 1
    · have hq := hQ2 h1
      have lp : ∀ (n i : Nat) (a : Int32), i + n = d → qnU I s (I s 8).toNatClampNeg w i n a = qnU I s (I s 8).toNatClampNeg w 0 d 0 → fqAt l G M_X11_quarrelsAt (D + 3) 0 0 Q 18 [some (.ref X), some (.int w), some (.int a), some (.int (nI i))] [] S I J z 0 0 := by
        intro n
        induction n with
        | zero =>
          intro i a hi he
          rw [qnU_0] at he
          refine b_X11_quarrelsAt_18 _ _ _ _ _ _ _ _ ?_
          simp (disch := omega) only [B_X11_quarrelsAt_0, B_X11_quarrelsAt_18, B_X11_quarrelsAt_47, sp_X11_isWall, B_X11_isWall_0, sp_X6_wallCount, B_X6_wallCount_0, sp_X11_isWithin, sp_X11_refuse, B_X11_refuse_0, sp_X6_latest, sp_X11_answer, B_X11_answer_0, hs, hs.k, x1, x2, hd1, he, nI_1, nI_add, nI_clamp, nI_pin, nI_neg, nI_nonneg, nI_leE, nI_ltE, nI_eqE, Nat.not_le, Nat.not_lt, fq_10, fq_01, fq_rr, ix_aald, ix_aast, ix_abs, ix_alen, ix_aload, ix_aret, ix_astore, ix_bald, ix_bast, ix_call, ix_cpyI, ix_cpyJ, ix_dead, ix_dup2, ix_dup2L, ix_dupI, ix_dupR, ix_dupx1, ix_getI, ix_getJ, ix_getR, ix_gfm, ix_gtab, ix_i2b, ix_i2c, ix_i2l, ix_i2s, ix_iadd, ix_iald, ix_iand, ix_iast, ix_icall, ix_icmp_eq, ix_icmp_ge, ix_icmp_gt, ix_icmp_le, ix_icmp_lt, ix_icmp_ne, ix_idiv, ix_if_eq, ix_if_ge, ix_if_gt, ix_if_le, ix_if_lt, ix_if_ne, ix_iinc, ix_iload, ix_imul, ix_ineg, ix_ior, ix_irem, ix_iret, ix_ishl, ix_ishr, ix_istore, ix_isub, ix_iushr, ix_ixor, ix_l2i, ix_ladd, ix_lald, ix_land, ix_last, ix_lcmp, ix_ldcS, ix_ldiv, ix_lload, ix_lmul, ix_lor, ix_lrem, ix_lret, ix_lshl, ix_lstore, ix_lsub, ix_lsw, ix_max, ix_min, ix_new, ix_newa, ix_nret, ix_oinit, ix_pop2L, ix_popI, ix_pushI, ix_pushL, ix_putI, ix_putJ, ix_putR, ix_putZ, ix_sbald, ix_sgetC, ix_sgetV, ix_slen, ix_strc, ix_tald, ix_tsw, ix_vcall, ix_vret, ix_zret, stL, stL2, kilL, popN, fq_sw, fq_lsw, List.map_cons, List.map_nil, List.getElem?_cons_zero, List.getElem?_cons_succ, Option.toList_some, Option.toList_none, List.cons_append, List.nil_append, List.length_cons, List.length_nil, List.sum_cons, List.sum_nil, cat_i, cat_l, cat_r, true_and, and_true, Nat.zero_add, Nat.add_zero, Nat.le_refl, Nat.zero_le, Nat.reduceAdd, Nat.reduceLeDiff, exists_eq_left', Option.some.injEq, not_true_eq_false, not_false_eq_true, false_implies, true_implies, implies_true, and_self, or_true, true_or, or_false, false_or]
          exact ⟨fun _ => hq, fun h => absurd h (by omega)⟩
        | succ n ih =>
          intro i a hi he
          rw [qnU_1] at he
          have ql := qix_lt (I s 8).toNatClampNeg i
          have qk := hs.kQ _ ql
          refine b_X11_quarrelsAt_18 _ _ _ _ _ _ _ _ ?_
          simp (disch := omega) only [B_X11_quarrelsAt_0, B_X11_quarrelsAt_18, B_X11_quarrelsAt_47, sp_X11_isWall, B_X11_isWall_0, sp_X6_wallCount, B_X6_wallCount_0, sp_X11_isWithin, sp_X11_refuse, B_X11_refuse_0, sp_X6_latest, sp_X11_answer, B_X11_answer_0, hs, hs.k, x1, x2, hd1, ho8, nI_clamp, qk, nI_1, nI_add, nI_clamp, nI_pin, nI_neg, nI_nonneg, nI_leE, nI_ltE, nI_eqE, Nat.not_le, Nat.not_lt, fq_10, fq_01, fq_rr, ix_aald, ix_aast, ix_abs, ix_alen, ix_aload, ix_aret, ix_astore, ix_bald, ix_bast, ix_call, ix_cpyI, ix_cpyJ, ix_dead, ix_dup2, ix_dup2L, ix_dupI, ix_dupR, ix_dupx1, ix_getI, ix_getJ, ix_getR, ix_gfm, ix_gtab, ix_i2b, ix_i2c, ix_i2l, ix_i2s, ix_iadd, ix_iald, ix_iand, ix_iast, ix_icall, ix_icmp_eq, ix_icmp_ge, ix_icmp_gt, ix_icmp_le, ix_icmp_lt, ix_icmp_ne, ix_idiv, ix_if_eq, ix_if_ge, ix_if_gt, ix_if_le, ix_if_lt, ix_if_ne, ix_iinc, ix_iload, ix_imul, ix_ineg, ix_ior, ix_irem, ix_iret, ix_ishl, ix_ishr, ix_istore, ix_isub, ix_iushr, ix_ixor, ix_l2i, ix_ladd, ix_lald, ix_land, ix_last, ix_lcmp, ix_ldcS, ix_ldiv, ix_lload, ix_lmul, ix_lor, ix_lrem, ix_lret, ix_lshl, ix_lstore, ix_lsub, ix_lsw, ix_max, ix_min, ix_new, ix_newa, ix_nret, ix_oinit, ix_pop2L, ix_popI, ix_pushI, ix_pushL, ix_putI, ix_putJ, ix_putR, ix_putZ, ix_sbald, ix_sgetC, ix_sgetV, ix_slen, ix_strc, ix_tald, ix_tsw, ix_vcall, ix_vret, ix_zret, stL, stL2, kilL, popN, fq_sw, fq_lsw, List.map_cons, List.map_nil, List.getElem?_cons_zero, List.getElem?_cons_succ, Option.toList_some, Option.toList_none, List.cons_append, List.nil_append, List.length_cons, List.length_nil, List.sum_cons, List.sum_nil, cat_i, cat_l, cat_r, true_and, and_true, Nat.zero_add, Nat.add_zero, Nat.le_refl, Nat.zero_le, Nat.reduceAdd, Nat.reduceLeDiff, exists_eq_left', Option.some.injEq, not_true_eq_false, not_false_eq_true, false_implies, true_implies, implies_true, and_self, or_true, true_or, or_false, false_or]
          refine ⟨fun h => absurd h (by omega), fun _ => ⟨fun h => ih (i + 1) _ (by omega) ?_, fun h => ih (i + 1) _ (by omega) ?_⟩⟩
          · rw [if_neg h] at he
            exact he
          · rw [if_pos h] at he
            exact he
      refine fq_enter [some (.ref X), some (.int w), none, none] (by decide +kernel) (Nat.le_of_ble_eq_true rfl) rfl (b_X11_quarrelsAt_0 _ _ _ _ _ _ _ _ ?_)
      simp (disch := omega) only [B_X11_quarrelsAt_0, B_X11_quarrelsAt_18, B_X11_quarrelsAt_47, sp_X11_isWall, B_X11_isWall_0, sp_X6_wallCount, B_X6_wallCount_0, sp_X11_isWithin, sp_X11_refuse, B_X11_refuse_0, sp_X6_latest, sp_X11_answer, B_X11_answer_0, hs, hs.k, x1, x2, hc1, hw, h1, bI_01, bI_01b, bI_0, bI_tr, bI_fl, nI_1, nI_add, nI_clamp, nI_pin, nI_neg, nI_nonneg, nI_leE, nI_ltE, nI_eqE, Nat.not_le, Nat.not_lt, fq_10, fq_01, fq_rr, ix_aald, ix_aast, ix_abs, ix_alen, ix_aload, ix_aret, ix_astore, ix_bald, ix_bast, ix_call, ix_cpyI, ix_cpyJ, ix_dead, ix_dup2, ix_dup2L, ix_dupI, ix_dupR, ix_dupx1, ix_getI, ix_getJ, ix_getR, ix_gfm, ix_gtab, ix_i2b, ix_i2c, ix_i2l, ix_i2s, ix_iadd, ix_iald, ix_iand, ix_iast, ix_icall, ix_icmp_eq, ix_icmp_ge, ix_icmp_gt, ix_icmp_le, ix_icmp_lt, ix_icmp_ne, ix_idiv, ix_if_eq, ix_if_ge, ix_if_gt, ix_if_le, ix_if_lt, ix_if_ne, ix_iinc, ix_iload, ix_imul, ix_ineg, ix_ior, ix_irem, ix_iret, ix_ishl, ix_ishr, ix_istore, ix_isub, ix_iushr, ix_ixor, ix_l2i, ix_ladd, ix_lald, ix_land, ix_last, ix_lcmp, ix_ldcS, ix_ldiv, ix_lload, ix_lmul, ix_lor, ix_lrem, ix_lret, ix_lshl, ix_lstore, ix_lsub, ix_lsw, ix_max, ix_min, ix_new, ix_newa, ix_nret, ix_oinit, ix_pop2L, ix_popI, ix_pushI, ix_pushL, ix_putI, ix_putJ, ix_putR, ix_putZ, ix_sbald, ix_sgetC, ix_sgetV, ix_slen, ix_strc, ix_tald, ix_tsw, ix_vcall, ix_vret, ix_zret, stL, stL2, kilL, popN, fq_sw, fq_lsw, List.map_cons, List.map_nil, List.getElem?_cons_zero, List.getElem?_cons_succ, Option.toList_some, Option.toList_none, List.cons_append, List.nil_append, List.length_cons, List.length_nil, List.sum_cons, List.sum_nil, cat_i, cat_l, cat_r, true_and, and_true, Nat.zero_add, Nat.add_zero, Nat.le_refl, Nat.zero_le, Nat.reduceAdd, Nat.reduceLeDiff, exists_eq_left', Option.some.injEq, not_true_eq_false, not_false_eq_true, false_implies, true_implies, implies_true, and_self, or_true, true_or, or_false, false_or]
      exact lp d 0 0 (by omega) rfl
    · refine fq_enter [some (.ref X), some (.int w), none, none] (by decide +kernel) (Nat.le_of_ble_eq_true rfl) rfl (b_X11_quarrelsAt_0 _ _ _ _ _ _ _ _ ?_)
      simp (disch := omega) only [B_X11_quarrelsAt_0, B_X11_quarrelsAt_18, B_X11_quarrelsAt_47, sp_X11_isWall, B_X11_isWall_0, sp_X6_wallCount, B_X6_wallCount_0, sp_X11_isWithin, sp_X11_refuse, B_X11_refuse_0, sp_X6_latest, sp_X11_answer, B_X11_answer_0, hs, hs.k, x1, x2, hc1, hw, h1, bI_01, bI_01b, bI_0, bI_tr, bI_fl, nI_1, nI_add, nI_clamp, nI_pin, nI_neg, nI_nonneg, nI_leE, nI_ltE, nI_eqE, Nat.not_le, Nat.not_lt, fq_10, fq_01, fq_rr, ix_aald, ix_aast, ix_abs, ix_alen, ix_aload, ix_aret, ix_astore, ix_bald, ix_bast, ix_call, ix_cpyI, ix_cpyJ, ix_dead, ix_dup2, ix_dup2L, ix_dupI, ix_dupR, ix_dupx1, ix_getI, ix_getJ, ix_getR, ix_gfm, ix_gtab, ix_i2b, ix_i2c, ix_i2l, ix_i2s, ix_iadd, ix_iald, ix_iand, ix_iast, ix_icall, ix_icmp_eq, ix_icmp_ge, ix_icmp_gt, ix_icmp_le, ix_icmp_lt, ix_icmp_ne, ix_idiv, ix_if_eq, ix_if_ge, ix_if_gt, ix_if_le, ix_if_lt, ix_if_ne, ix_iinc, ix_iload, ix_imul, ix_ineg, ix_ior, ix_irem, ix_iret, ix_ishl, ix_ishr, ix_istore, ix_isub, ix_iushr, ix_ixor, ix_l2i, ix_ladd, ix_lald, ix_land, ix_last, ix_lcmp, ix_ldcS, ix_ldiv, ix_lload, ix_lmul, ix_lor, ix_lrem, ix_lret, ix_lshl, ix_lstore, ix_lsub, ix_lsw, ix_max, ix_min, ix_new, ix_newa, ix_nret, ix_oinit, ix_pop2L, ix_popI, ix_pushI, ix_pushL, ix_putI, ix_putJ, ix_putR, ix_putZ, ix_sbald, ix_sgetC, ix_sgetV, ix_slen, ix_strc, ix_tald, ix_tsw, ix_vcall, ix_vret, ix_zret, stL, stL2, kilL, popN, fq_sw, fq_lsw, List.map_cons, List.map_nil, List.getElem?_cons_zero, List.getElem?_cons_succ, Option.toList_some, Option.toList_none, List.cons_append, List.nil_append, List.length_cons, List.length_nil, List.sum_cons, List.sum_nil, cat_i, cat_l, cat_r, true_and, and_true, Nat.zero_add, Nat.add_zero, Nat.le_refl, Nat.zero_le, Nat.reduceAdd, Nat.reduceLeDiff, exists_eq_left', Option.some.injEq, not_true_eq_false, not_false_eq_true, false_implies, true_implies, implies_true, and_self, or_true, true_or, or_false, false_or]
      exact hQ1 h1
  · exact h.elim
/-- are all calm after n nights -/
def cmU (I : IH) (s : Nat) (t : Int32) (i n : Nat) (a : Int32) : Int32 := foldU (fun i a => if 0 < mx0 (I (s + 24 + i) 6 - t * I s 10) then 0 else a) i n a
theorem cmU_0 (I : IH) (s : Nat) (t : Int32) (i : Nat) (a : Int32) : cmU I s t i 0 a = a := rfl
theorem cmU_1 (I : IH) (s : Nat) (t : Int32) (i n : Nat) (a : Int32) : cmU I s t i (n + 1) a = cmU I s t (i + 1) n (if 0 < mx0 (I (s + 24 + i) 6 - t * I s 10) then 0 else a) := rfl
def cmF (I : IH) (s c : Nat) : Nat → Nat → Int32 := fndU (fun t => decide (¬ cmU I s (nI t) 0 c 1 = 0))
theorem cmF_0 (I : IH) (s c i : Nat) : cmF I s c i 0 = -1 := rfl
theorem cmF_1 (I : IH) (s c i n : Nat) : cmF I s c i (n + 1) = if decide (¬ cmU I s (nI i) 0 c 1 = 0) then nI i else cmF I s c (i + 1) n := rfl
def sp_X11_calmIn (G : GT) : Sp := fun as S I J z Q => match as with
  | [.ref X] => ∃ s, xsh S X s ∧ okN (I s 6) 8 ∧ Q (some (.int (cmF I s (I s 6).toNatClampNeg 0 100))) S (u2 I X 10 (if cmF I s (I s 6).toNatClampNeg 0 100 = -1 then 6 else 0)) J z
  | _ => False
theorem h99 : (99 : Int32) = nI 99 := rfl
theorem h9 : (9 : Int32) = nI 9 := rfl
set_option maxHeartbeats 4000000 in
set_option maxRecDepth 20000 in
theorem c_X11_calmIn {l : Launch} {G : GT} {D : Nat} : ∀ as S I J z Q, sp_X11_calmIn G as S I J z Q → fqCall l G M_X11_calmIn (D + 2) 0 0 as S I J z Q := by
  intro as S I J z Q h
  unfold sp_X11_calmIn at h
  split at h
  · next X =>
    obtain ⟨s, ⟨x1, x2, hs⟩, ho, hQ⟩ := h
    obtain ⟨c, hc, hc1, hc2⟩ := ho.ex
    rw [hc2] at hQ
    have lo : ∀ (m t : Nat) (o1 o2 : Option Value), t + m = 100 → cmF I s c t m = cmF I s c 0 100 → fqAt l G M_X11_calmIn (D + 2) 0 0 Q 2 [some (.ref X), some (.int (nI t)), o1, o2] [] S I J z 0 0 := by
      intro m
      induction m with
      | zero =>
        intro t o1 o2 ht he
        rw [cmF_0] at he
        rw [← he, if_pos rfl] at hQ
        refine b_X11_calmIn_2 _ _ _ _ _ _ _ _ ?_
        simp (disch := omega) only [B_X11_calmIn_0, B_X11_calmIn_2, B_X11_calmIn_12, B_X11_calmIn_37, sp_X6_angerBehind, sp_X11_answer, B_X11_answer_0, sp_X11_refuse, B_X11_refuse_0, hs, hs.k, x1, x2, h99, nI_1, nI_add, nI_clamp, nI_pin, nI_neg, nI_nonneg, nI_leE, nI_ltE, nI_eqE, Nat.not_le, Nat.not_lt, fq_10, fq_01, fq_rr, ix_aald, ix_aast, ix_abs, ix_alen, ix_aload, ix_aret, ix_astore, ix_bald, ix_bast, ix_call, ix_cpyI, ix_cpyJ, ix_dead, ix_dup2, ix_dup2L, ix_dupI, ix_dupR, ix_dupx1, ix_getI, ix_getJ, ix_getR, ix_gfm, ix_gtab, ix_i2b, ix_i2c, ix_i2l, ix_i2s, ix_iadd, ix_iald, ix_iand, ix_iast, ix_icall, ix_icmp_eq, ix_icmp_ge, ix_icmp_gt, ix_icmp_le, ix_icmp_lt, ix_icmp_ne, ix_idiv, ix_if_eq, ix_if_ge, ix_if_gt, ix_if_le, ix_if_lt, ix_if_ne, ix_iinc, ix_iload, ix_imul, ix_ineg, ix_ior, ix_irem, ix_iret, ix_ishl, ix_ishr, ix_istore, ix_isub, ix_iushr, ix_ixor, ix_l2i, ix_ladd, ix_lald, ix_land, ix_last, ix_lcmp, ix_ldcS, ix_ldiv, ix_lload, ix_lmul, ix_lor, ix_lrem, ix_lret, ix_lshl, ix_lstore, ix_lsub, ix_lsw, ix_max, ix_min, ix_new, ix_newa, ix_nret, ix_oinit, ix_pop2L, ix_popI, ix_pushI, ix_pushL, ix_putI, ix_putJ, ix_putR, ix_putZ, ix_sbald, ix_sgetC, ix_sgetV, ix_slen, ix_strc, ix_tald, ix_tsw, ix_vcall, ix_vret, ix_zret, stL, stL2, kilL, popN, fq_sw, fq_lsw, List.map_cons, List.map_nil, List.getElem?_cons_zero, List.getElem?_cons_succ, Option.toList_some, Option.toList_none, List.cons_append, List.nil_append, List.length_cons, List.length_nil, List.sum_cons, List.sum_nil, cat_i, cat_l, cat_r, true_and, and_true, Nat.zero_add, Nat.add_zero, Nat.le_refl, Nat.zero_le, Nat.reduceAdd, Nat.reduceLeDiff, exists_eq_left', Option.some.injEq, not_true_eq_false, not_false_eq_true, false_implies, true_implies, implies_true, and_self, or_true, true_or, or_false, false_or]
        exact ⟨fun _ => hQ, fun h => absurd h (by omega)⟩
      | succ m ihm =>
        intro t o1 o2 ht he
        rw [cmF_1] at he
        have lp : ∀ (n i : Nat) (a : Int32), i + n = c → cmU I s (nI t) i n a = cmU I s (nI t) 0 c 1 → fqAt l G M_X11_calmIn (D + 2) 0 0 Q 12 [some (.ref X), some (.int (nI t)), some (.int a), some (.int (nI i))] [] S I J z 0 0 := by
          intro n
          induction n with
          | zero =>
            intro i a hi hf
            rw [cmU_0] at hf
            refine b_X11_calmIn_12 _ _ _ _ _ _ _ _ ?_
            simp (disch := omega) only [B_X11_calmIn_0, B_X11_calmIn_2, B_X11_calmIn_12, B_X11_calmIn_37, sp_X6_angerBehind, sp_X11_answer, B_X11_answer_0, sp_X11_refuse, B_X11_refuse_0, hs, hs.k, x1, x2, hc1, nI_1, nI_add, nI_clamp, nI_pin, nI_neg, nI_nonneg, nI_leE, nI_ltE, nI_eqE, Nat.not_le, Nat.not_lt, fq_10, fq_01, fq_rr, ix_aald, ix_aast, ix_abs, ix_alen, ix_aload, ix_aret, ix_astore, ix_bald, ix_bast, ix_call, ix_cpyI, ix_cpyJ, ix_dead, ix_dup2, ix_dup2L, ix_dupI, ix_dupR, ix_dupx1, ix_getI, ix_getJ, ix_getR, ix_gfm, ix_gtab, ix_i2b, ix_i2c, ix_i2l, ix_i2s, ix_iadd, ix_iald, ix_iand, ix_iast, ix_icall, ix_icmp_eq, ix_icmp_ge, ix_icmp_gt, ix_icmp_le, ix_icmp_lt, ix_icmp_ne, ix_idiv, ix_if_eq, ix_if_ge, ix_if_gt, ix_if_le, ix_if_lt, ix_if_ne, ix_iinc, ix_iload, ix_imul, ix_ineg, ix_ior, ix_irem, ix_iret, ix_ishl, ix_ishr, ix_istore, ix_isub, ix_iushr, ix_ixor, ix_l2i, ix_ladd, ix_lald, ix_land, ix_last, ix_lcmp, ix_ldcS, ix_ldiv, ix_lload, ix_lmul, ix_lor, ix_lrem, ix_lret, ix_lshl, ix_lstore, ix_lsub, ix_lsw, ix_max, ix_min, ix_new, ix_newa, ix_nret, ix_oinit, ix_pop2L, ix_popI, ix_pushI, ix_pushL, ix_putI, ix_putJ, ix_putR, ix_putZ, ix_sbald, ix_sgetC, ix_sgetV, ix_slen, ix_strc, ix_tald, ix_tsw, ix_vcall, ix_vret, ix_zret, stL, stL2, kilL, popN, fq_sw, fq_lsw, List.map_cons, List.map_nil, List.getElem?_cons_zero, List.getElem?_cons_succ, Option.toList_some, Option.toList_none, List.cons_append, List.nil_append, List.length_cons, List.length_nil, List.sum_cons, List.sum_nil, cat_i, cat_l, cat_r, true_and, and_true, Nat.zero_add, Nat.add_zero, Nat.le_refl, Nat.zero_le, Nat.reduceAdd, Nat.reduceLeDiff, exists_eq_left', Option.some.injEq, not_true_eq_false, not_false_eq_true, false_implies, true_implies, implies_true, and_self, or_true, true_or, or_false, false_or]
            refine ⟨fun _ => ⟨fun h => ihm (t + 1) _ _ (by omega) ?_, fun h => ?_⟩, fun h => absurd h (by omega)⟩
            · rw [if_neg (by rw [← hf, h]; decide)] at he
              exact he
            · rw [if_pos (by rw [← hf]; exact decide_eq_true h)] at he
              rw [← he, if_neg (by rw [nI_m1 (by omega)]; exact id)] at hQ
              exact hQ
          | succ n ih =>
            intro i a hi hf
            rw [cmU_1] at hf
            refine b_X11_calmIn_12 _ _ _ _ _ _ _ _ ?_
            simp (disch := omega) only [B_X11_calmIn_0, B_X11_calmIn_2, B_X11_calmIn_12, B_X11_calmIn_37, sp_X6_angerBehind, sp_X11_answer, B_X11_answer_0, sp_X11_refuse, B_X11_refuse_0, hs, hs.k, x1, x2, hc1, nI_clamp, nI_1, nI_add, nI_clamp, nI_pin, nI_neg, nI_nonneg, nI_leE, nI_ltE, nI_eqE, Nat.not_le, Nat.not_lt, fq_10, fq_01, fq_rr, ix_aald, ix_aast, ix_abs, ix_alen, ix_aload, ix_aret, ix_astore, ix_bald, ix_bast, ix_call, ix_cpyI, ix_cpyJ, ix_dead, ix_dup2, ix_dup2L, ix_dupI, ix_dupR, ix_dupx1, ix_getI, ix_getJ, ix_getR, ix_gfm, ix_gtab, ix_i2b, ix_i2c, ix_i2l, ix_i2s, ix_iadd, ix_iald, ix_iand, ix_iast, ix_icall, ix_icmp_eq, ix_icmp_ge, ix_icmp_gt, ix_icmp_le, ix_icmp_lt, ix_icmp_ne, ix_idiv, ix_if_eq, ix_if_ge, ix_if_gt, ix_if_le, ix_if_lt, ix_if_ne, ix_iinc, ix_iload, ix_imul, ix_ineg, ix_ior, ix_irem, ix_iret, ix_ishl, ix_ishr, ix_istore, ix_isub, ix_iushr, ix_ixor, ix_l2i, ix_ladd, ix_lald, ix_land, ix_last, ix_lcmp, ix_ldcS, ix_ldiv, ix_lload, ix_lmul, ix_lor, ix_lrem, ix_lret, ix_lshl, ix_lstore, ix_lsub, ix_lsw, ix_max, ix_min, ix_new, ix_newa, ix_nret, ix_oinit, ix_pop2L, ix_popI, ix_pushI, ix_pushL, ix_putI, ix_putJ, ix_putR, ix_putZ, ix_sbald, ix_sgetC, ix_sgetV, ix_slen, ix_strc, ix_tald, ix_tsw, ix_vcall, ix_vret, ix_zret, stL, stL2, kilL, popN, fq_sw, fq_lsw, List.map_cons, List.map_nil, List.getElem?_cons_zero, List.getElem?_cons_succ, Option.toList_some, Option.toList_none, List.cons_append, List.nil_append, List.length_cons, List.length_nil, List.sum_cons, List.sum_nil, cat_i, cat_l, cat_r, true_and, and_true, Nat.zero_add, Nat.add_zero, Nat.le_refl, Nat.zero_le, Nat.reduceAdd, Nat.reduceLeDiff, exists_eq_left', Option.some.injEq, not_true_eq_false, not_false_eq_true, false_implies, true_implies, implies_true, and_self, or_true, true_or, or_false, false_or]
            refine ⟨fun h => absurd h (by omega), fun _ => ⟨fun h => ih (i + 1) _ (by omega) ?_, fun h => ih (i + 1) _ (by omega) ?_⟩⟩
            · rw [if_neg (Int32.not_lt.mpr h)] at hf
              exact hf
            · rw [if_pos (Int32.not_le.mp h)] at hf
              exact hf
        refine b_X11_calmIn_2 _ _ _ _ _ _ _ _ ?_
        simp (disch := omega) only [B_X11_calmIn_0, B_X11_calmIn_2, B_X11_calmIn_12, B_X11_calmIn_37, sp_X6_angerBehind, sp_X11_answer, B_X11_answer_0, sp_X11_refuse, B_X11_refuse_0, hs, hs.k, x1, x2, h99, nI_1, nI_add, nI_clamp, nI_pin, nI_neg, nI_nonneg, nI_leE, nI_ltE, nI_eqE, Nat.not_le, Nat.not_lt, fq_10, fq_01, fq_rr, ix_aald, ix_aast, ix_abs, ix_alen, ix_aload, ix_aret, ix_astore, ix_bald, ix_bast, ix_call, ix_cpyI, ix_cpyJ, ix_dead, ix_dup2, ix_dup2L, ix_dupI, ix_dupR, ix_dupx1, ix_getI, ix_getJ, ix_getR, ix_gfm, ix_gtab, ix_i2b, ix_i2c, ix_i2l, ix_i2s, ix_iadd, ix_iald, ix_iand, ix_iast, ix_icall, ix_icmp_eq, ix_icmp_ge, ix_icmp_gt, ix_icmp_le, ix_icmp_lt, ix_icmp_ne, ix_idiv, ix_if_eq, ix_if_ge, ix_if_gt, ix_if_le, ix_if_lt, ix_if_ne, ix_iinc, ix_iload, ix_imul, ix_ineg, ix_ior, ix_irem, ix_iret, ix_ishl, ix_ishr, ix_istore, ix_isub, ix_iushr, ix_ixor, ix_l2i, ix_ladd, ix_lald, ix_land, ix_last, ix_lcmp, ix_ldcS, ix_ldiv, ix_lload, ix_lmul, ix_lor, ix_lrem, ix_lret, ix_lshl, ix_lstore, ix_lsub, ix_lsw, ix_max, ix_min, ix_new, ix_newa, ix_nret, ix_oinit, ix_pop2L, ix_popI, ix_pushI, ix_pushL, ix_putI, ix_putJ, ix_putR, ix_putZ, ix_sbald, ix_sgetC, ix_sgetV, ix_slen, ix_strc, ix_tald, ix_tsw, ix_vcall, ix_vret, ix_zret, stL, stL2, kilL, popN, fq_sw, fq_lsw, List.map_cons, List.map_nil, List.getElem?_cons_zero, List.getElem?_cons_succ, Option.toList_some, Option.toList_none, List.cons_append, List.nil_append, List.length_cons, List.length_nil, List.sum_cons, List.sum_nil, cat_i, cat_l, cat_r, true_and, and_true, Nat.zero_add, Nat.add_zero, Nat.le_refl, Nat.zero_le, Nat.reduceAdd, Nat.reduceLeDiff, exists_eq_left', Option.some.injEq, not_true_eq_false, not_false_eq_true, false_implies, true_implies, implies_true, and_self, or_true, true_or, or_false, false_or]
        exact ⟨fun h => absurd h (by omega), fun _ => lp c 0 1 (by omega) rfl⟩
    refine fq_enter [some (.ref X), none, none, none] (by decide +kernel) (Nat.le_of_ble_eq_true rfl) rfl (b_X11_calmIn_0 _ _ _ _ _ _ _ _ ?_)
    simp (disch := omega) only [B_X11_calmIn_0, B_X11_calmIn_2, B_X11_calmIn_12, B_X11_calmIn_37, sp_X6_angerBehind, sp_X11_answer, B_X11_answer_0, sp_X11_refuse, B_X11_refuse_0, hs, hs.k, x1, x2, nI_1, nI_add, nI_clamp, nI_pin, nI_neg, nI_nonneg, nI_leE, nI_ltE, nI_eqE, Nat.not_le, Nat.not_lt, fq_10, fq_01, fq_rr, ix_aald, ix_aast, ix_abs, ix_alen, ix_aload, ix_aret, ix_astore, ix_bald, ix_bast, ix_call, ix_cpyI, ix_cpyJ, ix_dead, ix_dup2, ix_dup2L, ix_dupI, ix_dupR, ix_dupx1, ix_getI, ix_getJ, ix_getR, ix_gfm, ix_gtab, ix_i2b, ix_i2c, ix_i2l, ix_i2s, ix_iadd, ix_iald, ix_iand, ix_iast, ix_icall, ix_icmp_eq, ix_icmp_ge, ix_icmp_gt, ix_icmp_le, ix_icmp_lt, ix_icmp_ne, ix_idiv, ix_if_eq, ix_if_ge, ix_if_gt, ix_if_le, ix_if_lt, ix_if_ne, ix_iinc, ix_iload, ix_imul, ix_ineg, ix_ior, ix_irem, ix_iret, ix_ishl, ix_ishr, ix_istore, ix_isub, ix_iushr, ix_ixor, ix_l2i, ix_ladd, ix_lald, ix_land, ix_last, ix_lcmp, ix_ldcS, ix_ldiv, ix_lload, ix_lmul, ix_lor, ix_lrem, ix_lret, ix_lshl, ix_lstore, ix_lsub, ix_lsw, ix_max, ix_min, ix_new, ix_newa, ix_nret, ix_oinit, ix_pop2L, ix_popI, ix_pushI, ix_pushL, ix_putI, ix_putJ, ix_putR, ix_putZ, ix_sbald, ix_sgetC, ix_sgetV, ix_slen, ix_strc, ix_tald, ix_tsw, ix_vcall, ix_vret, ix_zret, stL, stL2, kilL, popN, fq_sw, fq_lsw, List.map_cons, List.map_nil, List.getElem?_cons_zero, List.getElem?_cons_succ, Option.toList_some, Option.toList_none, List.cons_append, List.nil_append, List.length_cons, List.length_nil, List.sum_cons, List.sum_nil, cat_i, cat_l, cat_r, true_and, and_true, Nat.zero_add, Nat.add_zero, Nat.le_refl, Nat.zero_le, Nat.reduceAdd, Nat.reduceLeDiff, exists_eq_left', Option.some.injEq, not_true_eq_false, not_false_eq_true, false_implies, true_implies, implies_true, and_self, or_true, true_or, or_false, false_or]
    exact lo 100 0 _ _ (by omega) rfl
  · exact h.elim
/-- how often, from i on -/
def btU (I : IH) (s b : Nat) (lo : Int32) : Nat → Nat → Int32 := fndU (fun o => decide (I (s + 24 + b) 2 < I (s + 24 + b) 6 + nI o * lo))
theorem btU_0 (I : IH) (s b : Nat) (lo : Int32) (i : Nat) : btU I s b lo i 0 = -1 := rfl
theorem btU_1 (I : IH) (s b : Nat) (lo : Int32) (i n : Nat) : btU I s b lo i (n + 1) = if decide (I (s + 24 + b) 2 < I (s + 24 + b) 6 + nI i * lo) then nI i else btU I s b lo (i + 1) n := rfl
def btV (I : IH) (s a b : Nat) : Int32 := if 10 ≤ ldn (I (s + 24 + a) 4) (I s 16) + I (s + 24 + b) 3 then btU I s b (ldn (I (s + 24 + a) 4) (I s 16)) 1 99 else -1
def sp_X11_bait (G : GT) : Sp := fun as S I J z Q => match as with
  | [.ref X, .int a, .int b] => ∃ s, xsh S X s ∧ okN (I s 6) 8 ∧ (¬ pst I s a b = 0 → Q (some (.int (-1))) S (u2 I X 10 (pst I s a b)) J z) ∧ (pst I s a b = 0 → Q (some (.int (btV I s a.toNatClampNeg b.toNatClampNeg))) S (u2 I X 10 (if btV I s a.toNatClampNeg b.toNatClampNeg = -1 then 6 else 0)) J z)
  | _ => False
set_option maxHeartbeats 4000000 in
set_option maxRecDepth 20000 in
theorem c_X11_bait {l : Launch} {G : GT} {D : Nat} : ∀ as S I J z Q, sp_X11_bait G as S I J z Q → fqCall l G M_X11_bait (D + 4) 0 0 as S I J z Q := by
  intro as S I J z Q h
  unfold sp_X11_bait at h
  split at h
  · next X a b =>
    obtain ⟨s, ⟨x1, x2, hs⟩, ho, hQ1, hQ2⟩ := h
    obtain ⟨c, hc, hc1, hc2⟩ := ho.ex
    by_cases hp : pst I s a b = 0
    · have hq := hQ2 hp
      obtain ⟨i, j, rfl, rfl, hi, hj, hij, hsh⟩ := pst_0 hc hc1 hp
      rw [nI_clamp (by omega), nI_clamp (by omega)] at hq
      have kj := hs.kP j (by omega)
      have lp : ∀ (n o : Nat) (lo : Int32) (o3 : Option Value), 1 ≤ o → o + n = 100 → Q (some (.int (btU I s j lo o n))) S (u2 I X 10 (if btU I s j lo o n = -1 then 6 else 0)) J z → fqAt l G M_X11_bait (D + 4) 0 0 Q 58 [some (.ref X), some (.int (nI i)), some (.int (nI j)), o3, some (.int lo), some (.ref (s + 24 + j)), some (.int (nI o))] [] S I J z 0 0 := by
        intro n
        induction n with
        | zero =>
          intro o lo o3 ho1 hon hq
          rw [btU_0, if_pos rfl] at hq
          refine b_X11_bait_58 _ _ _ _ _ _ _ _ ?_
          simp (disch := omega) only [B_X11_bait_0, B_X11_bait_58, sp_X11_pairStatus, sp_X11_refuse, B_X11_refuse_0, sp_X6_loudnessOf, sp_X2_catches, sp_X11_answer, B_X11_answer_0, hs, hs.k, x1, x2, h99, kj, nI_1, nI_add, nI_clamp, nI_pin, nI_neg, nI_nonneg, nI_leE, nI_ltE, nI_eqE, Nat.not_le, Nat.not_lt, fq_10, fq_01, fq_rr, ix_aald, ix_aast, ix_abs, ix_alen, ix_aload, ix_aret, ix_astore, ix_bald, ix_bast, ix_call, ix_cpyI, ix_cpyJ, ix_dead, ix_dup2, ix_dup2L, ix_dupI, ix_dupR, ix_dupx1, ix_getI, ix_getJ, ix_getR, ix_gfm, ix_gtab, ix_i2b, ix_i2c, ix_i2l, ix_i2s, ix_iadd, ix_iald, ix_iand, ix_iast, ix_icall, ix_icmp_eq, ix_icmp_ge, ix_icmp_gt, ix_icmp_le, ix_icmp_lt, ix_icmp_ne, ix_idiv, ix_if_eq, ix_if_ge, ix_if_gt, ix_if_le, ix_if_lt, ix_if_ne, ix_iinc, ix_iload, ix_imul, ix_ineg, ix_ior, ix_irem, ix_iret, ix_ishl, ix_ishr, ix_istore, ix_isub, ix_iushr, ix_ixor, ix_l2i, ix_ladd, ix_lald, ix_land, ix_last, ix_lcmp, ix_ldcS, ix_ldiv, ix_lload, ix_lmul, ix_lor, ix_lrem, ix_lret, ix_lshl, ix_lstore, ix_lsub, ix_lsw, ix_max, ix_min, ix_new, ix_newa, ix_nret, ix_oinit, ix_pop2L, ix_popI, ix_pushI, ix_pushL, ix_putI, ix_putJ, ix_putR, ix_putZ, ix_sbald, ix_sgetC, ix_sgetV, ix_slen, ix_strc, ix_tald, ix_tsw, ix_vcall, ix_vret, ix_zret, stL, stL2, kilL, popN, fq_sw, fq_lsw, List.map_cons, List.map_nil, List.getElem?_cons_zero, List.getElem?_cons_succ, Option.toList_some, Option.toList_none, List.cons_append, List.nil_append, List.length_cons, List.length_nil, List.sum_cons, List.sum_nil, cat_i, cat_l, cat_r, true_and, and_true, Nat.zero_add, Nat.add_zero, Nat.le_refl, Nat.zero_le, Nat.reduceAdd, Nat.reduceLeDiff, exists_eq_left', Option.some.injEq, not_true_eq_false, not_false_eq_true, false_implies, true_implies, implies_true, and_self, or_true, true_or, or_false, false_or]
          exact ⟨fun _ => hq, fun h => absurd h (by omega)⟩
        | succ n ih =>
          intro o lo o3 ho1 hon hq
          rw [btU_1] at hq
          refine b_X11_bait_58 _ _ _ _ _ _ _ _ ?_
          simp (disch := omega) only [B_X11_bait_0, B_X11_bait_58, sp_X11_pairStatus, sp_X11_refuse, B_X11_refuse_0, sp_X6_loudnessOf, sp_X2_catches, sp_X11_answer, B_X11_answer_0, hs, hs.k, x1, x2, h99, kj, nI_1, nI_add, nI_clamp, nI_pin, nI_neg, nI_nonneg, nI_leE, nI_ltE, nI_eqE, Nat.not_le, Nat.not_lt, fq_10, fq_01, fq_rr, ix_aald, ix_aast, ix_abs, ix_alen, ix_aload, ix_aret, ix_astore, ix_bald, ix_bast, ix_call, ix_cpyI, ix_cpyJ, ix_dead, ix_dup2, ix_dup2L, ix_dupI, ix_dupR, ix_dupx1, ix_getI, ix_getJ, ix_getR, ix_gfm, ix_gtab, ix_i2b, ix_i2c, ix_i2l, ix_i2s, ix_iadd, ix_iald, ix_iand, ix_iast, ix_icall, ix_icmp_eq, ix_icmp_ge, ix_icmp_gt, ix_icmp_le, ix_icmp_lt, ix_icmp_ne, ix_idiv, ix_if_eq, ix_if_ge, ix_if_gt, ix_if_le, ix_if_lt, ix_if_ne, ix_iinc, ix_iload, ix_imul, ix_ineg, ix_ior, ix_irem, ix_iret, ix_ishl, ix_ishr, ix_istore, ix_isub, ix_iushr, ix_ixor, ix_l2i, ix_ladd, ix_lald, ix_land, ix_last, ix_lcmp, ix_ldcS, ix_ldiv, ix_lload, ix_lmul, ix_lor, ix_lrem, ix_lret, ix_lshl, ix_lstore, ix_lsub, ix_lsw, ix_max, ix_min, ix_new, ix_newa, ix_nret, ix_oinit, ix_pop2L, ix_popI, ix_pushI, ix_pushL, ix_putI, ix_putJ, ix_putR, ix_putZ, ix_sbald, ix_sgetC, ix_sgetV, ix_slen, ix_strc, ix_tald, ix_tsw, ix_vcall, ix_vret, ix_zret, stL, stL2, kilL, popN, fq_sw, fq_lsw, List.map_cons, List.map_nil, List.getElem?_cons_zero, List.getElem?_cons_succ, Option.toList_some, Option.toList_none, List.cons_append, List.nil_append, List.length_cons, List.length_nil, List.sum_cons, List.sum_nil, cat_i, cat_l, cat_r, true_and, and_true, Nat.zero_add, Nat.add_zero, Nat.le_refl, Nat.zero_le, Nat.reduceAdd, Nat.reduceLeDiff, exists_eq_left', Option.some.injEq, not_true_eq_false, not_false_eq_true, false_implies, true_implies, implies_true, and_self, or_true, true_or, or_false, false_or]
          refine ⟨fun h => absurd h (by omega), fun _ => ⟨fun h => ih (o + 1) _ _ (by omega) (by omega) ?_, fun h => ?_⟩⟩
          · rw [if_neg (by rw [decide_eq_true_eq]; exact Int32.not_lt.mpr h)] at hq
            exact hq
          · rw [if_pos (by rw [decide_eq_true_eq]; exact Int32.not_le.mp h), if_neg (by rw [nI_m1 (by omega)]; exact id)] at hq
            exact hq
      unfold btV at hq
      refine fq_enter [some (.ref X), some (.int (nI i)), some (.int (nI j)), none, none, none, none] (by decide +kernel) (Nat.le_of_ble_eq_true rfl) rfl (b_X11_bait_0 _ _ _ _ _ _ _ _ ?_)
      simp (disch := omega) only [B_X11_bait_0, B_X11_bait_58, sp_X11_pairStatus, sp_X11_refuse, B_X11_refuse_0, sp_X6_loudnessOf, sp_X2_catches, sp_X11_answer, B_X11_answer_0, hs.k, hs.r0, hs.k1, hs.r1, hs.k2, hs.r2, hs.k3, hs.r3, hs.k4, hs.r4, hs.k12, hs.n1, hs.n2, hs.n3, hs.y0, hs.k5, hs.n5, hs.y1, hs.k6, hs.n6, hs.y2, hs.k7, hs.n7, hs.y3, hs.k8, hs.n8, hs.y4, hs.k9, hs.n9, hs.y5, hs.k10, hs.n10, hs.y6, hs.k11, hs.n11, hs.p0, hs.p1, hs.p2, hs.k13, hs.n13, hs.q0, hs.q1, hs.k14, hs.k15, hs.k16, hs.n16, hs.k17, hs.n17, hs.rH, hs.kH, hs.rP, hs.kP, hs.rQ, hs.kQ, hs, x1, x2, xsh, nI_clamp, hp, bI_01, bI_01b, bI_0, nI_1, nI_add, nI_clamp, nI_pin, nI_neg, nI_nonneg, nI_leE, nI_ltE, nI_eqE, Nat.not_le, Nat.not_lt, fq_10, fq_01, fq_rr, ix_aald, ix_aast, ix_abs, ix_alen, ix_aload, ix_aret, ix_astore, ix_bald, ix_bast, ix_call, ix_cpyI, ix_cpyJ, ix_dead, ix_dup2, ix_dup2L, ix_dupI, ix_dupR, ix_dupx1, ix_getI, ix_getJ, ix_getR, ix_gfm, ix_gtab, ix_i2b, ix_i2c, ix_i2l, ix_i2s, ix_iadd, ix_iald, ix_iand, ix_iast, ix_icall, ix_icmp_eq, ix_icmp_ge, ix_icmp_gt, ix_icmp_le, ix_icmp_lt, ix_icmp_ne, ix_idiv, ix_if_eq, ix_if_ge, ix_if_gt, ix_if_le, ix_if_lt, ix_if_ne, ix_iinc, ix_iload, ix_imul, ix_ineg, ix_ior, ix_irem, ix_iret, ix_ishl, ix_ishr, ix_istore, ix_isub, ix_iushr, ix_ixor, ix_l2i, ix_ladd, ix_lald, ix_land, ix_last, ix_lcmp, ix_ldcS, ix_ldiv, ix_lload, ix_lmul, ix_lor, ix_lrem, ix_lret, ix_lshl, ix_lstore, ix_lsub, ix_lsw, ix_max, ix_min, ix_new, ix_newa, ix_nret, ix_oinit, ix_pop2L, ix_popI, ix_pushI, ix_pushL, ix_putI, ix_putJ, ix_putR, ix_putZ, ix_sbald, ix_sgetC, ix_sgetV, ix_slen, ix_strc, ix_tald, ix_tsw, ix_vcall, ix_vret, ix_zret, stL, stL2, kilL, popN, fq_sw, fq_lsw, List.map_cons, List.map_nil, List.getElem?_cons_zero, List.getElem?_cons_succ, Option.toList_some, Option.toList_none, List.cons_append, List.nil_append, List.length_cons, List.length_nil, List.sum_cons, List.sum_nil, cat_i, cat_l, cat_r, true_and, and_true, Nat.zero_add, Nat.add_zero, Nat.le_refl, Nat.zero_le, Nat.reduceAdd, Nat.reduceLeDiff, exists_eq_left', Option.some.injEq, not_true_eq_false, not_false_eq_true, false_implies, true_implies, implies_true, and_self, or_true, true_or, or_false, false_or]
      refine ⟨s, ⟨rfl, hs⟩, ho, fun _ => ⟨fun h => lp 99 1 _ _ (Nat.le_refl 1) rfl ?_, fun h => ?_⟩, fun h => absurd hp h⟩
      · rw [if_pos (Decidable.not_not.mp h)] at hq
        exact hq
      · rw [if_neg h, if_pos rfl] at hq
        exact hq
    · refine fq_enter [some (.ref X), some (.int a), some (.int b), none, none, none, none] (by decide +kernel) (Nat.le_of_ble_eq_true rfl) rfl (b_X11_bait_0 _ _ _ _ _ _ _ _ ?_)
      simp (disch := omega) only [B_X11_bait_0, B_X11_bait_58, sp_X11_pairStatus, sp_X11_refuse, B_X11_refuse_0, sp_X6_loudnessOf, sp_X2_catches, sp_X11_answer, B_X11_answer_0, hs, x1, x2, hp, nI_1, nI_add, nI_clamp, nI_pin, nI_neg, nI_nonneg, nI_leE, nI_ltE, nI_eqE, Nat.not_le, Nat.not_lt, fq_10, fq_01, fq_rr, ix_aald, ix_aast, ix_abs, ix_alen, ix_aload, ix_aret, ix_astore, ix_bald, ix_bast, ix_call, ix_cpyI, ix_cpyJ, ix_dead, ix_dup2, ix_dup2L, ix_dupI, ix_dupR, ix_dupx1, ix_getI, ix_getJ, ix_getR, ix_gfm, ix_gtab, ix_i2b, ix_i2c, ix_i2l, ix_i2s, ix_iadd, ix_iald, ix_iand, ix_iast, ix_icall, ix_icmp_eq, ix_icmp_ge, ix_icmp_gt, ix_icmp_le, ix_icmp_lt, ix_icmp_ne, ix_idiv, ix_if_eq, ix_if_ge, ix_if_gt, ix_if_le, ix_if_lt, ix_if_ne, ix_iinc, ix_iload, ix_imul, ix_ineg, ix_ior, ix_irem, ix_iret, ix_ishl, ix_ishr, ix_istore, ix_isub, ix_iushr, ix_ixor, ix_l2i, ix_ladd, ix_lald, ix_land, ix_last, ix_lcmp, ix_ldcS, ix_ldiv, ix_lload, ix_lmul, ix_lor, ix_lrem, ix_lret, ix_lshl, ix_lstore, ix_lsub, ix_lsw, ix_max, ix_min, ix_new, ix_newa, ix_nret, ix_oinit, ix_pop2L, ix_popI, ix_pushI, ix_pushL, ix_putI, ix_putJ, ix_putR, ix_putZ, ix_sbald, ix_sgetC, ix_sgetV, ix_slen, ix_strc, ix_tald, ix_tsw, ix_vcall, ix_vret, ix_zret, stL, stL2, kilL, popN, fq_sw, fq_lsw, List.map_cons, List.map_nil, List.getElem?_cons_zero, List.getElem?_cons_succ, Option.toList_some, Option.toList_none, List.cons_append, List.nil_append, List.length_cons, List.length_nil, List.sum_cons, List.sum_nil, cat_i, cat_l, cat_r, true_and, and_true, Nat.zero_add, Nat.add_zero, Nat.le_refl, Nat.zero_le, Nat.reduceAdd, Nat.reduceLeDiff, exists_eq_left', Option.some.injEq, not_true_eq_false, not_false_eq_true, false_implies, true_implies, implies_true, and_self, or_true, true_or, or_false, false_or]
      exact ⟨s, ⟨x1, x2, hs⟩, ho, fun h => absurd h hp, fun h => hQ1 hp⟩
  · exact h.elim
def lvU (I : IH) (s b : Nat) : Nat → Nat → Int32 := fndU (fun v => decide (10 ≤ ldn (nI v) (I s 16) + I (s + 24 + b) 3 ∧ I (s + 24 + b) 2 < I (s + 24 + b) 6 + ldn (nI v) (I s 16)))
theorem lvU_0 (I : IH) (s b i : Nat) : lvU I s b i 0 = -1 := rfl
theorem lvU_1 (I : IH) (s b i n : Nat) : lvU I s b i (n + 1) = if decide (10 ≤ ldn (nI i) (I s 16) + I (s + 24 + b) 3 ∧ I (s + 24 + b) 2 < I (s + 24 + b) 6 + ldn (nI i) (I s 16)) then nI i else lvU I s b (i + 1) n := rfl
def sp_X11_leastVoice (G : GT) : Sp := fun as S I J z Q => match as with
  | [.ref X, .int a, .int b] => ∃ s, xsh S X s ∧ okN (I s 6) 8 ∧ (¬ pst I s a b = 0 → Q (some (.int (-1))) S (u2 I X 10 (pst I s a b)) J z) ∧ (pst I s a b = 0 → Q (some (.int (lvU I s b.toNatClampNeg 1 9))) S (u2 I X 10 (if lvU I s b.toNatClampNeg 1 9 = -1 then 6 else 0)) J z)
  | _ => False
set_option maxHeartbeats 4000000 in
set_option maxRecDepth 20000 in
theorem c_X11_leastVoice {l : Launch} {G : GT} {D : Nat} : ∀ as S I J z Q, sp_X11_leastVoice G as S I J z Q → fqCall l G M_X11_leastVoice (D + 4) 0 0 as S I J z Q := by
  intro as S I J z Q h
  unfold sp_X11_leastVoice at h
  split at h
  · next X a b =>
    obtain ⟨s, ⟨x1, x2, hs⟩, ho, hQ1, hQ2⟩ := h
    obtain ⟨c, hc, hc1, hc2⟩ := ho.ex
    by_cases hp : pst I s a b = 0
    · have hq := hQ2 hp
      obtain ⟨i, j, rfl, rfl, hi, hj, hij, hsh⟩ := pst_0 hc hc1 hp
      rw [nI_clamp (by omega)] at hq
      have kj := hs.kP j (by omega)
      have rj := hs.rP j (by omega)
      have lp : ∀ (n o : Nat) (o3 : Option Value), 1 ≤ o → o + n = 10 → Q (some (.int (lvU I s j o n))) S (u2 I X 10 (if lvU I s j o n = -1 then 6 else 0)) J z → fqAt l G M_X11_leastVoice (D + 4) 0 0 Q 20 [some (.ref X), some (.int (nI i)), some (.int (nI j)), o3, some (.int (nI o))] [] S I J z 0 0 := by
        intro n
        induction n with
        | zero =>
          intro o o3 ho1 hon hq
          rw [lvU_0, if_pos rfl] at hq
          refine b_X11_leastVoice_20 _ _ _ _ _ _ _ _ ?_
          simp (disch := omega) only [B_X11_leastVoice_0, B_X11_leastVoice_20, sp_X11_pairStatus, sp_X11_refuse, B_X11_refuse_0, sp_X6_loudness, sp_X2_wouldShout, sp_X11_answer, B_X11_answer_0, hs, hs.k, x1, x2, h9, kj, nI_1, nI_add, nI_clamp, nI_pin, nI_neg, nI_nonneg, nI_leE, nI_ltE, nI_eqE, Nat.not_le, Nat.not_lt, fq_10, fq_01, fq_rr, ix_aald, ix_aast, ix_abs, ix_alen, ix_aload, ix_aret, ix_astore, ix_bald, ix_bast, ix_call, ix_cpyI, ix_cpyJ, ix_dead, ix_dup2, ix_dup2L, ix_dupI, ix_dupR, ix_dupx1, ix_getI, ix_getJ, ix_getR, ix_gfm, ix_gtab, ix_i2b, ix_i2c, ix_i2l, ix_i2s, ix_iadd, ix_iald, ix_iand, ix_iast, ix_icall, ix_icmp_eq, ix_icmp_ge, ix_icmp_gt, ix_icmp_le, ix_icmp_lt, ix_icmp_ne, ix_idiv, ix_if_eq, ix_if_ge, ix_if_gt, ix_if_le, ix_if_lt, ix_if_ne, ix_iinc, ix_iload, ix_imul, ix_ineg, ix_ior, ix_irem, ix_iret, ix_ishl, ix_ishr, ix_istore, ix_isub, ix_iushr, ix_ixor, ix_l2i, ix_ladd, ix_lald, ix_land, ix_last, ix_lcmp, ix_ldcS, ix_ldiv, ix_lload, ix_lmul, ix_lor, ix_lrem, ix_lret, ix_lshl, ix_lstore, ix_lsub, ix_lsw, ix_max, ix_min, ix_new, ix_newa, ix_nret, ix_oinit, ix_pop2L, ix_popI, ix_pushI, ix_pushL, ix_putI, ix_putJ, ix_putR, ix_putZ, ix_sbald, ix_sgetC, ix_sgetV, ix_slen, ix_strc, ix_tald, ix_tsw, ix_vcall, ix_vret, ix_zret, stL, stL2, kilL, popN, fq_sw, fq_lsw, List.map_cons, List.map_nil, List.getElem?_cons_zero, List.getElem?_cons_succ, Option.toList_some, Option.toList_none, List.cons_append, List.nil_append, List.length_cons, List.length_nil, List.sum_cons, List.sum_nil, cat_i, cat_l, cat_r, true_and, and_true, Nat.zero_add, Nat.add_zero, Nat.le_refl, Nat.zero_le, Nat.reduceAdd, Nat.reduceLeDiff, exists_eq_left', Option.some.injEq, not_true_eq_false, not_false_eq_true, false_implies, true_implies, implies_true, and_self, or_true, true_or, or_false, false_or]
          exact ⟨fun _ => hq, fun h => absurd h (by omega)⟩
        | succ n ih =>
          intro o o3 ho1 hon hq
          rw [lvU_1] at hq
          refine b_X11_leastVoice_20 _ _ _ _ _ _ _ _ ?_
          simp (disch := omega) only [B_X11_leastVoice_0, B_X11_leastVoice_20, sp_X11_pairStatus, sp_X11_refuse, B_X11_refuse_0, sp_X6_loudness, sp_X2_wouldShout, sp_X11_answer, B_X11_answer_0, hs.k, hs.r0, hs.k1, hs.r1, hs.k2, hs.r2, hs.k3, hs.r3, hs.k4, hs.r4, hs.k12, hs.n1, hs.n2, hs.n3, hs.y0, hs.k5, hs.n5, hs.y1, hs.k6, hs.n6, hs.y2, hs.k7, hs.n7, hs.y3, hs.k8, hs.n8, hs.y4, hs.k9, hs.n9, hs.y5, hs.k10, hs.n10, hs.y6, hs.k11, hs.n11, hs.p0, hs.p1, hs.p2, hs.k13, hs.n13, hs.q0, hs.q1, hs.k14, hs.k15, hs.k16, hs.n16, hs.k17, hs.n17, hs.rH, hs.kH, hs.rP, hs.kP, hs.rQ, hs.kQ, x1, x2, h9, nI_clamp, bI_01, bI_01b, bI_0, nI_1, nI_add, nI_clamp, nI_pin, nI_neg, nI_nonneg, nI_leE, nI_ltE, nI_eqE, Nat.not_le, Nat.not_lt, fq_10, fq_01, fq_rr, ix_aald, ix_aast, ix_abs, ix_alen, ix_aload, ix_aret, ix_astore, ix_bald, ix_bast, ix_call, ix_cpyI, ix_cpyJ, ix_dead, ix_dup2, ix_dup2L, ix_dupI, ix_dupR, ix_dupx1, ix_getI, ix_getJ, ix_getR, ix_gfm, ix_gtab, ix_i2b, ix_i2c, ix_i2l, ix_i2s, ix_iadd, ix_iald, ix_iand, ix_iast, ix_icall, ix_icmp_eq, ix_icmp_ge, ix_icmp_gt, ix_icmp_le, ix_icmp_lt, ix_icmp_ne, ix_idiv, ix_if_eq, ix_if_ge, ix_if_gt, ix_if_le, ix_if_lt, ix_if_ne, ix_iinc, ix_iload, ix_imul, ix_ineg, ix_ior, ix_irem, ix_iret, ix_ishl, ix_ishr, ix_istore, ix_isub, ix_iushr, ix_ixor, ix_l2i, ix_ladd, ix_lald, ix_land, ix_last, ix_lcmp, ix_ldcS, ix_ldiv, ix_lload, ix_lmul, ix_lor, ix_lrem, ix_lret, ix_lshl, ix_lstore, ix_lsub, ix_lsw, ix_max, ix_min, ix_new, ix_newa, ix_nret, ix_oinit, ix_pop2L, ix_popI, ix_pushI, ix_pushL, ix_putI, ix_putJ, ix_putR, ix_putZ, ix_sbald, ix_sgetC, ix_sgetV, ix_slen, ix_strc, ix_tald, ix_tsw, ix_vcall, ix_vret, ix_zret, stL, stL2, kilL, popN, fq_sw, fq_lsw, List.map_cons, List.map_nil, List.getElem?_cons_zero, List.getElem?_cons_succ, Option.toList_some, Option.toList_none, List.cons_append, List.nil_append, List.length_cons, List.length_nil, List.sum_cons, List.sum_nil, cat_i, cat_l, cat_r, true_and, and_true, Nat.zero_add, Nat.add_zero, Nat.le_refl, Nat.zero_le, Nat.reduceAdd, Nat.reduceLeDiff, exists_eq_left', Option.some.injEq, not_true_eq_false, not_false_eq_true, false_implies, true_implies, implies_true, and_self, or_true, true_or, or_false, false_or]
          refine ⟨fun h => absurd h (by omega), fun _ => ⟨fun h => ih (o + 1) _ (by omega) (by omega) ?_, fun h => ?_⟩⟩
          · rw [if_neg (by rw [decide_eq_true_eq]; exact h)] at hq
            exact hq
          · rw [if_pos (by rw [decide_eq_true_eq]; exact Decidable.not_not.mp h), if_neg (by rw [nI_m1 (by omega)]; exact id)] at hq
            exact hq
      refine fq_enter [some (.ref X), some (.int (nI i)), some (.int (nI j)), none, none] (by decide +kernel) (Nat.le_of_ble_eq_true rfl) rfl (b_X11_leastVoice_0 _ _ _ _ _ _ _ _ ?_)
      simp (disch := omega) only [B_X11_leastVoice_0, B_X11_leastVoice_20, sp_X11_pairStatus, sp_X11_refuse, B_X11_refuse_0, sp_X6_loudness, sp_X2_wouldShout, sp_X11_answer, B_X11_answer_0, hs, x1, x2, hp, nI_1, nI_add, nI_clamp, nI_pin, nI_neg, nI_nonneg, nI_leE, nI_ltE, nI_eqE, Nat.not_le, Nat.not_lt, fq_10, fq_01, fq_rr, ix_aald, ix_aast, ix_abs, ix_alen, ix_aload, ix_aret, ix_astore, ix_bald, ix_bast, ix_call, ix_cpyI, ix_cpyJ, ix_dead, ix_dup2, ix_dup2L, ix_dupI, ix_dupR, ix_dupx1, ix_getI, ix_getJ, ix_getR, ix_gfm, ix_gtab, ix_i2b, ix_i2c, ix_i2l, ix_i2s, ix_iadd, ix_iald, ix_iand, ix_iast, ix_icall, ix_icmp_eq, ix_icmp_ge, ix_icmp_gt, ix_icmp_le, ix_icmp_lt, ix_icmp_ne, ix_idiv, ix_if_eq, ix_if_ge, ix_if_gt, ix_if_le, ix_if_lt, ix_if_ne, ix_iinc, ix_iload, ix_imul, ix_ineg, ix_ior, ix_irem, ix_iret, ix_ishl, ix_ishr, ix_istore, ix_isub, ix_iushr, ix_ixor, ix_l2i, ix_ladd, ix_lald, ix_land, ix_last, ix_lcmp, ix_ldcS, ix_ldiv, ix_lload, ix_lmul, ix_lor, ix_lrem, ix_lret, ix_lshl, ix_lstore, ix_lsub, ix_lsw, ix_max, ix_min, ix_new, ix_newa, ix_nret, ix_oinit, ix_pop2L, ix_popI, ix_pushI, ix_pushL, ix_putI, ix_putJ, ix_putR, ix_putZ, ix_sbald, ix_sgetC, ix_sgetV, ix_slen, ix_strc, ix_tald, ix_tsw, ix_vcall, ix_vret, ix_zret, stL, stL2, kilL, popN, fq_sw, fq_lsw, List.map_cons, List.map_nil, List.getElem?_cons_zero, List.getElem?_cons_succ, Option.toList_some, Option.toList_none, List.cons_append, List.nil_append, List.length_cons, List.length_nil, List.sum_cons, List.sum_nil, cat_i, cat_l, cat_r, true_and, and_true, Nat.zero_add, Nat.add_zero, Nat.le_refl, Nat.zero_le, Nat.reduceAdd, Nat.reduceLeDiff, exists_eq_left', Option.some.injEq, not_true_eq_false, not_false_eq_true, false_implies, true_implies, implies_true, and_self, or_true, true_or, or_false, false_or]
      exact ⟨s, ⟨x1, x2, hs⟩, ho, fun _ => lp 9 1 _ (Nat.le_refl 1) rfl hq, fun h => absurd hp h⟩
    · refine fq_enter [some (.ref X), some (.int a), some (.int b), none, none] (by decide +kernel) (Nat.le_of_ble_eq_true rfl) rfl (b_X11_leastVoice_0 _ _ _ _ _ _ _ _ ?_)
      simp (disch := omega) only [B_X11_leastVoice_0, B_X11_leastVoice_20, sp_X11_pairStatus, sp_X11_refuse, B_X11_refuse_0, sp_X6_loudness, sp_X2_wouldShout, sp_X11_answer, B_X11_answer_0, hs, x1, x2, hp, nI_1, nI_add, nI_clamp, nI_pin, nI_neg, nI_nonneg, nI_leE, nI_ltE, nI_eqE, Nat.not_le, Nat.not_lt, fq_10, fq_01, fq_rr, ix_aald, ix_aast, ix_abs, ix_alen, ix_aload, ix_aret, ix_astore, ix_bald, ix_bast, ix_call, ix_cpyI, ix_cpyJ, ix_dead, ix_dup2, ix_dup2L, ix_dupI, ix_dupR, ix_dupx1, ix_getI, ix_getJ, ix_getR, ix_gfm, ix_gtab, ix_i2b, ix_i2c, ix_i2l, ix_i2s, ix_iadd, ix_iald, ix_iand, ix_iast, ix_icall, ix_icmp_eq, ix_icmp_ge, ix_icmp_gt, ix_icmp_le, ix_icmp_lt, ix_icmp_ne, ix_idiv, ix_if_eq, ix_if_ge, ix_if_gt, ix_if_le, ix_if_lt, ix_if_ne, ix_iinc, ix_iload, ix_imul, ix_ineg, ix_ior, ix_irem, ix_iret, ix_ishl, ix_ishr, ix_istore, ix_isub, ix_iushr, ix_ixor, ix_l2i, ix_ladd, ix_lald, ix_land, ix_last, ix_lcmp, ix_ldcS, ix_ldiv, ix_lload, ix_lmul, ix_lor, ix_lrem, ix_lret, ix_lshl, ix_lstore, ix_lsub, ix_lsw, ix_max, ix_min, ix_new, ix_newa, ix_nret, ix_oinit, ix_pop2L, ix_popI, ix_pushI, ix_pushL, ix_putI, ix_putJ, ix_putR, ix_putZ, ix_sbald, ix_sgetC, ix_sgetV, ix_slen, ix_strc, ix_tald, ix_tsw, ix_vcall, ix_vret, ix_zret, stL, stL2, kilL, popN, fq_sw, fq_lsw, List.map_cons, List.map_nil, List.getElem?_cons_zero, List.getElem?_cons_succ, Option.toList_some, Option.toList_none, List.cons_append, List.nil_append, List.length_cons, List.length_nil, List.sum_cons, List.sum_nil, cat_i, cat_l, cat_r, true_and, and_true, Nat.zero_add, Nat.add_zero, Nat.le_refl, Nat.zero_le, Nat.reduceAdd, Nat.reduceLeDiff, exists_eq_left', Option.some.injEq, not_true_eq_false, not_false_eq_true, false_implies, true_implies, implies_true, and_self, or_true, true_or, or_false, false_or]
      exact ⟨s, ⟨x1, x2, hs⟩, ho, fun h => absurd h hp, fun h => hQ1 hp⟩
  · exact h.elim
/-- the earliest of the quarrels at a wall, among the n latest -/
def bgN (I : IH) (s e : Nat) (w : Int32) : Nat → Int32 × Int32
  | 0 => (-1, 6)
  | k + 1 => if I (s + 32 + qix e k) 1 = w then (I (s + 32 + qix e k) 2, 0) else bgN I s e w k
def sp_X11_began (G : GT) : Sp := fun as S I J z Q => match as with
  | [.ref X, .int w] => ∃ s, xsh S X s ∧ okN (I s 5) 6 ∧ okN (I s 7) 20 ∧ okN (I s 8) 19 ∧ (¬ wlI w (I s 5).toNatClampNeg → Q (some (.int (-1))) S (u2 I X 10 1) J z) ∧ (wlI w (I s 5).toNatClampNeg → Q (some (.int (bgN I s (I s 8).toNatClampNeg w (I s 7).toNatClampNeg).1)) S (u2 I X 10 (bgN I s (I s 8).toNatClampNeg w (I s 7).toNatClampNeg).2) J z)
  | _ => False
set_option maxHeartbeats 4000000 in
set_option maxRecDepth 20000 in
theorem c_X11_began {l : Launch} {G : GT} {D : Nat} : ∀ as S I J z Q, sp_X11_began G as S I J z Q → fqCall l G M_X11_began (D + 3) 0 0 as S I J z Q := by
  intro as S I J z Q h
  unfold sp_X11_began at h
  split at h
  · next X w =>
    obtain ⟨s, ⟨x1, x2, hs⟩, ho, ho7, ho8, hQ1, hQ2⟩ := h
    obtain ⟨c, hc, hc1, hc2⟩ := ho.ex
    obtain ⟨d, hd, hd1, hd2⟩ := ho7.ex
    have hw := wct hc
    rw [hc2, hd2] at hQ2
    rw [hc2] at hQ1
    by_cases h1 : 0 ≤ w ∧ w ≤ nI (c - 1) - 1
    · have hq := hQ2 h1
      have lp : ∀ (n : Nat), n ≤ 20 → Q (some (.int (bgN I s (I s 8).toNatClampNeg w n).1)) S (u2 I X 10 (bgN I s (I s 8).toNatClampNeg w n).2) J z → fqAt l G M_X11_began (D + 3) 0 0 Q 24 [some (.ref X), some (.int w), some (.int (nI n - 1))] [] S I J z 0 0 := by
        intro n
        induction n with
        | zero =>
          intro hi he
          refine b_X11_began_24 _ _ _ _ _ _ _ _ ?_
          simp (disch := omega) only [B_X11_began_0, B_X11_began_24, sp_X11_isWall, B_X11_isWall_0, sp_X6_wallCount, B_X6_wallCount_0, sp_X11_isWithin, sp_X11_refuse, B_X11_refuse_0, sp_X6_latest, sp_X11_answer, B_X11_answer_0, hs, hs.k, x1, x2, nI_1, nI_add, nI_clamp, nI_pin, nI_neg, nI_nonneg, nI_leE, nI_ltE, nI_eqE, Nat.not_le, Nat.not_lt, fq_10, fq_01, fq_rr, ix_aald, ix_aast, ix_abs, ix_alen, ix_aload, ix_aret, ix_astore, ix_bald, ix_bast, ix_call, ix_cpyI, ix_cpyJ, ix_dead, ix_dup2, ix_dup2L, ix_dupI, ix_dupR, ix_dupx1, ix_getI, ix_getJ, ix_getR, ix_gfm, ix_gtab, ix_i2b, ix_i2c, ix_i2l, ix_i2s, ix_iadd, ix_iald, ix_iand, ix_iast, ix_icall, ix_icmp_eq, ix_icmp_ge, ix_icmp_gt, ix_icmp_le, ix_icmp_lt, ix_icmp_ne, ix_idiv, ix_if_eq, ix_if_ge, ix_if_gt, ix_if_le, ix_if_lt, ix_if_ne, ix_iinc, ix_iload, ix_imul, ix_ineg, ix_ior, ix_irem, ix_iret, ix_ishl, ix_ishr, ix_istore, ix_isub, ix_iushr, ix_ixor, ix_l2i, ix_ladd, ix_lald, ix_land, ix_last, ix_lcmp, ix_ldcS, ix_ldiv, ix_lload, ix_lmul, ix_lor, ix_lrem, ix_lret, ix_lshl, ix_lstore, ix_lsub, ix_lsw, ix_max, ix_min, ix_new, ix_newa, ix_nret, ix_oinit, ix_pop2L, ix_popI, ix_pushI, ix_pushL, ix_putI, ix_putJ, ix_putR, ix_putZ, ix_sbald, ix_sgetC, ix_sgetV, ix_slen, ix_strc, ix_tald, ix_tsw, ix_vcall, ix_vret, ix_zret, stL, stL2, kilL, popN, fq_sw, fq_lsw, List.map_cons, List.map_nil, List.getElem?_cons_zero, List.getElem?_cons_succ, Option.toList_some, Option.toList_none, List.cons_append, List.nil_append, List.length_cons, List.length_nil, List.sum_cons, List.sum_nil, cat_i, cat_l, cat_r, true_and, and_true, Nat.zero_add, Nat.add_zero, Nat.le_refl, Nat.zero_le, Nat.reduceAdd, Nat.reduceLeDiff, exists_eq_left', Option.some.injEq, not_true_eq_false, not_false_eq_true, false_implies, true_implies, implies_true, and_self, or_true, true_or, or_false, false_or]
          exact ⟨fun _ => he, fun h => absurd (by decide) h⟩
        | succ n ih =>
          intro hi he
          have e0 : bgN I s (I s 8).toNatClampNeg w (n + 1) = if I (s + 32 + qix (I s 8).toNatClampNeg n) 1 = w then (I (s + 32 + qix (I s 8).toNatClampNeg n) 2, 0) else bgN I s (I s 8).toNatClampNeg w n := rfl
          rw [e0] at he
          have ql := qix_lt (I s 8).toNatClampNeg n
          have qk := hs.kQ _ ql
          rw [nI_pred]
          refine b_X11_began_24 _ _ _ _ _ _ _ _ ?_
          simp (disch := omega) only [B_X11_began_0, B_X11_began_24, sp_X11_isWall, B_X11_isWall_0, sp_X6_wallCount, B_X6_wallCount_0, sp_X11_isWithin, sp_X11_refuse, B_X11_refuse_0, sp_X6_latest, sp_X11_answer, B_X11_answer_0, hs, hs.k, x1, x2, ho8, nI_clamp, qk, nI_1, nI_add, nI_clamp, nI_pin, nI_neg, nI_nonneg, nI_leE, nI_ltE, nI_eqE, Nat.not_le, Nat.not_lt, fq_10, fq_01, fq_rr, ix_aald, ix_aast, ix_abs, ix_alen, ix_aload, ix_aret, ix_astore, ix_bald, ix_bast, ix_call, ix_cpyI, ix_cpyJ, ix_dead, ix_dup2, ix_dup2L, ix_dupI, ix_dupR, ix_dupx1, ix_getI, ix_getJ, ix_getR, ix_gfm, ix_gtab, ix_i2b, ix_i2c, ix_i2l, ix_i2s, ix_iadd, ix_iald, ix_iand, ix_iast, ix_icall, ix_icmp_eq, ix_icmp_ge, ix_icmp_gt, ix_icmp_le, ix_icmp_lt, ix_icmp_ne, ix_idiv, ix_if_eq, ix_if_ge, ix_if_gt, ix_if_le, ix_if_lt, ix_if_ne, ix_iinc, ix_iload, ix_imul, ix_ineg, ix_ior, ix_irem, ix_iret, ix_ishl, ix_ishr, ix_istore, ix_isub, ix_iushr, ix_ixor, ix_l2i, ix_ladd, ix_lald, ix_land, ix_last, ix_lcmp, ix_ldcS, ix_ldiv, ix_lload, ix_lmul, ix_lor, ix_lrem, ix_lret, ix_lshl, ix_lstore, ix_lsub, ix_lsw, ix_max, ix_min, ix_new, ix_newa, ix_nret, ix_oinit, ix_pop2L, ix_popI, ix_pushI, ix_pushL, ix_putI, ix_putJ, ix_putR, ix_putZ, ix_sbald, ix_sgetC, ix_sgetV, ix_slen, ix_strc, ix_tald, ix_tsw, ix_vcall, ix_vret, ix_zret, stL, stL2, kilL, popN, fq_sw, fq_lsw, List.map_cons, List.map_nil, List.getElem?_cons_zero, List.getElem?_cons_succ, Option.toList_some, Option.toList_none, List.cons_append, List.nil_append, List.length_cons, List.length_nil, List.sum_cons, List.sum_nil, cat_i, cat_l, cat_r, true_and, and_true, Nat.zero_add, Nat.add_zero, Nat.le_refl, Nat.zero_le, Nat.reduceAdd, Nat.reduceLeDiff, exists_eq_left', Option.some.injEq, not_true_eq_false, not_false_eq_true, false_implies, true_implies, implies_true, and_self, or_true, true_or, or_false, false_or]
          refine ⟨fun h => ?_, fun h => ?_⟩
          · rw [if_neg h] at he
            have hz := ih (by omega) he
            rw [Int32.sub_eq_add_neg] at hz
            exact hz
          · rw [if_pos h] at he
            exact he
      refine fq_enter [some (.ref X), some (.int w), none] (by decide +kernel) (Nat.le_of_ble_eq_true rfl) rfl (b_X11_began_0 _ _ _ _ _ _ _ _ ?_)
      simp (disch := omega) only [B_X11_began_0, B_X11_began_24, sp_X11_isWall, B_X11_isWall_0, sp_X6_wallCount, B_X6_wallCount_0, sp_X11_isWithin, sp_X11_refuse, B_X11_refuse_0, sp_X6_latest, sp_X11_answer, B_X11_answer_0, hs, hs.k, x1, x2, hc1, hd1, hw, h1, bI_01, bI_01b, bI_0, bI_tr, bI_fl, nI_1, nI_add, nI_clamp, nI_pin, nI_neg, nI_nonneg, nI_leE, nI_ltE, nI_eqE, Nat.not_le, Nat.not_lt, fq_10, fq_01, fq_rr, ix_aald, ix_aast, ix_abs, ix_alen, ix_aload, ix_aret, ix_astore, ix_bald, ix_bast, ix_call, ix_cpyI, ix_cpyJ, ix_dead, ix_dup2, ix_dup2L, ix_dupI, ix_dupR, ix_dupx1, ix_getI, ix_getJ, ix_getR, ix_gfm, ix_gtab, ix_i2b, ix_i2c, ix_i2l, ix_i2s, ix_iadd, ix_iald, ix_iand, ix_iast, ix_icall, ix_icmp_eq, ix_icmp_ge, ix_icmp_gt, ix_icmp_le, ix_icmp_lt, ix_icmp_ne, ix_idiv, ix_if_eq, ix_if_ge, ix_if_gt, ix_if_le, ix_if_lt, ix_if_ne, ix_iinc, ix_iload, ix_imul, ix_ineg, ix_ior, ix_irem, ix_iret, ix_ishl, ix_ishr, ix_istore, ix_isub, ix_iushr, ix_ixor, ix_l2i, ix_ladd, ix_lald, ix_land, ix_last, ix_lcmp, ix_ldcS, ix_ldiv, ix_lload, ix_lmul, ix_lor, ix_lrem, ix_lret, ix_lshl, ix_lstore, ix_lsub, ix_lsw, ix_max, ix_min, ix_new, ix_newa, ix_nret, ix_oinit, ix_pop2L, ix_popI, ix_pushI, ix_pushL, ix_putI, ix_putJ, ix_putR, ix_putZ, ix_sbald, ix_sgetC, ix_sgetV, ix_slen, ix_strc, ix_tald, ix_tsw, ix_vcall, ix_vret, ix_zret, stL, stL2, kilL, popN, fq_sw, fq_lsw, List.map_cons, List.map_nil, List.getElem?_cons_zero, List.getElem?_cons_succ, Option.toList_some, Option.toList_none, List.cons_append, List.nil_append, List.length_cons, List.length_nil, List.sum_cons, List.sum_nil, cat_i, cat_l, cat_r, true_and, and_true, Nat.zero_add, Nat.add_zero, Nat.le_refl, Nat.zero_le, Nat.reduceAdd, Nat.reduceLeDiff, exists_eq_left', Option.some.injEq, not_true_eq_false, not_false_eq_true, false_implies, true_implies, implies_true, and_self, or_true, true_or, or_false, false_or]
      exact lp d hd hq
    · refine fq_enter [some (.ref X), some (.int w), none] (by decide +kernel) (Nat.le_of_ble_eq_true rfl) rfl (b_X11_began_0 _ _ _ _ _ _ _ _ ?_)
      simp (disch := omega) only [B_X11_began_0, B_X11_began_24, sp_X11_isWall, B_X11_isWall_0, sp_X6_wallCount, B_X6_wallCount_0, sp_X11_isWithin, sp_X11_refuse, B_X11_refuse_0, sp_X6_latest, sp_X11_answer, B_X11_answer_0, hs, hs.k, x1, x2, hc1, hw, h1, bI_01, bI_01b, bI_0, bI_tr, bI_fl, nI_1, nI_add, nI_clamp, nI_pin, nI_neg, nI_nonneg, nI_leE, nI_ltE, nI_eqE, Nat.not_le, Nat.not_lt, fq_10, fq_01, fq_rr, ix_aald, ix_aast, ix_abs, ix_alen, ix_aload, ix_aret, ix_astore, ix_bald, ix_bast, ix_call, ix_cpyI, ix_cpyJ, ix_dead, ix_dup2, ix_dup2L, ix_dupI, ix_dupR, ix_dupx1, ix_getI, ix_getJ, ix_getR, ix_gfm, ix_gtab, ix_i2b, ix_i2c, ix_i2l, ix_i2s, ix_iadd, ix_iald, ix_iand, ix_iast, ix_icall, ix_icmp_eq, ix_icmp_ge, ix_icmp_gt, ix_icmp_le, ix_icmp_lt, ix_icmp_ne, ix_idiv, ix_if_eq, ix_if_ge, ix_if_gt, ix_if_le, ix_if_lt, ix_if_ne, ix_iinc, ix_iload, ix_imul, ix_ineg, ix_ior, ix_irem, ix_iret, ix_ishl, ix_ishr, ix_istore, ix_isub, ix_iushr, ix_ixor, ix_l2i, ix_ladd, ix_lald, ix_land, ix_last, ix_lcmp, ix_ldcS, ix_ldiv, ix_lload, ix_lmul, ix_lor, ix_lrem, ix_lret, ix_lshl, ix_lstore, ix_lsub, ix_lsw, ix_max, ix_min, ix_new, ix_newa, ix_nret, ix_oinit, ix_pop2L, ix_popI, ix_pushI, ix_pushL, ix_putI, ix_putJ, ix_putR, ix_putZ, ix_sbald, ix_sgetC, ix_sgetV, ix_slen, ix_strc, ix_tald, ix_tsw, ix_vcall, ix_vret, ix_zret, stL, stL2, kilL, popN, fq_sw, fq_lsw, List.map_cons, List.map_nil, List.getElem?_cons_zero, List.getElem?_cons_succ, Option.toList_some, Option.toList_none, List.cons_append, List.nil_append, List.length_cons, List.length_nil, List.sum_cons, List.sum_nil, cat_i, cat_l, cat_r, true_and, and_true, Nat.zero_add, Nat.add_zero, Nat.le_refl, Nat.zero_le, Nat.reduceAdd, Nat.reduceLeDiff, exists_eq_left', Option.some.injEq, not_true_eq_false, not_false_eq_true, false_implies, true_implies, implies_true, and_self, or_true, true_or, or_false, false_or]
      exact hQ1 h1
  · exact h.elim
/-- none would make another shout at the wall -/
def qtU (I : IH) (s : Nat) (w : Int32) (o : Nat) (i n : Nat) (a : Int32) : Int32 := foldU (fun j a => if shW (I (s + 24 + o) 1) (I (s + 24 + j) 1) (I s 13) = w ∧ wpv I s o j then 0 else a) i n a
theorem qtU_0 (I : IH) (s : Nat) (w : Int32) (o i : Nat) (a : Int32) : qtU I s w o i 0 a = a := rfl
theorem qtU_1 (I : IH) (s : Nat) (w : Int32) (o i n : Nat) (a : Int32) : qtU I s w o i (n + 1) a = qtU I s w o (i + 1) n (if shW (I (s + 24 + o) 1) (I (s + 24 + i) 1) (I s 13) = w ∧ wpv I s o i then 0 else a) := rfl
def qtV (I : IH) (s : Nat) (w : Int32) (c : Nat) (i n : Nat) (a : Int32) : Int32 := foldU (fun o a => qtU I s w o 0 c a) i n a
theorem qtV_0 (I : IH) (s : Nat) (w : Int32) (c i : Nat) (a : Int32) : qtV I s w c i 0 a = a := rfl
theorem qtV_1 (I : IH) (s : Nat) (w : Int32) (c i n : Nat) (a : Int32) : qtV I s w c i (n + 1) a = qtV I s w c (i + 1) n (qtU I s w i 0 c a) := rfl
def sp_X11_quiet (G : GT) : Sp := fun as S I J z Q => match as with
  | [.ref X, .int w] => ∃ s, xsh S X s ∧ okN (I s 5) 6 ∧ okN (I s 6) 8 ∧ (¬ wlI w (I s 5).toNatClampNeg → Q (some (.int (-1))) S (u2 I X 10 1) J z) ∧ (wlI w (I s 5).toNatClampNeg → Q (some (.int (bI (¬ qtV I s w (I s 6).toNatClampNeg 0 (I s 6).toNatClampNeg 1 = 0)))) S (u2 I X 10 0) J z)
  | _ => False
set_option maxHeartbeats 4000000 in
set_option maxRecDepth 20000 in
theorem c_X11_quiet {l : Launch} {G : GT} {D : Nat} : ∀ as S I J z Q, sp_X11_quiet G as S I J z Q → fqCall l G M_X11_quiet (D + 5) 0 0 as S I J z Q := by
  intro as S I J z Q h
  unfold sp_X11_quiet at h
  split at h
  · next X w =>
    obtain ⟨s, ⟨x1, x2, hs⟩, ho, ho6, hQ1, hQ2⟩ := h
    obtain ⟨c, hc, hc1, hc2⟩ := ho.ex
    obtain ⟨d, hd, hd1, hd2⟩ := ho6.ex
    have hw := wct hc
    rw [hc2, hd2] at hQ2
    rw [hc2] at hQ1
    by_cases h1 : 0 ≤ w ∧ w ≤ nI (c - 1) - 1
    · have hq := hQ2 h1
      have lo : ∀ (m o : Nat) (a : Int32) (o4 : Option Value), o + m = d → qtV I s w d o m a = qtV I s w d 0 d 1 → fqAt l G M_X11_quiet (D + 5) 0 0 Q 18 [some (.ref X), some (.int w), some (.int a), some (.int (nI o)), o4] [] S I J z 0 0 := by
        intro m
        induction m with
        | zero =>
          intro o a o4 hi he
          rw [qtV_0] at he
          refine b_X11_quiet_18 _ _ _ _ _ _ _ _ ?_
          simp (disch := omega) only [B_X11_quiet_0, B_X11_quiet_18, B_X11_quiet_32, B_X11_quiet_73, sp_X11_isWall, B_X11_isWall_0, sp_X6_wallCount, B_X6_wallCount_0, sp_X11_isWithin, sp_X11_refuse, B_X11_refuse_0, sp_X6_sharedWall, sp_X6_wouldProvoke, sp_X11_oneIf, sp_X11_answer, B_X11_answer_0, hs, hs.k, x1, x2, hd1, he, nI_1, nI_add, nI_clamp, nI_pin, nI_neg, nI_nonneg, nI_leE, nI_ltE, nI_eqE, Nat.not_le, Nat.not_lt, fq_10, fq_01, fq_rr, ix_aald, ix_aast, ix_abs, ix_alen, ix_aload, ix_aret, ix_astore, ix_bald, ix_bast, ix_call, ix_cpyI, ix_cpyJ, ix_dead, ix_dup2, ix_dup2L, ix_dupI, ix_dupR, ix_dupx1, ix_getI, ix_getJ, ix_getR, ix_gfm, ix_gtab, ix_i2b, ix_i2c, ix_i2l, ix_i2s, ix_iadd, ix_iald, ix_iand, ix_iast, ix_icall, ix_icmp_eq, ix_icmp_ge, ix_icmp_gt, ix_icmp_le, ix_icmp_lt, ix_icmp_ne, ix_idiv, ix_if_eq, ix_if_ge, ix_if_gt, ix_if_le, ix_if_lt, ix_if_ne, ix_iinc, ix_iload, ix_imul, ix_ineg, ix_ior, ix_irem, ix_iret, ix_ishl, ix_ishr, ix_istore, ix_isub, ix_iushr, ix_ixor, ix_l2i, ix_ladd, ix_lald, ix_land, ix_last, ix_lcmp, ix_ldcS, ix_ldiv, ix_lload, ix_lmul, ix_lor, ix_lrem, ix_lret, ix_lshl, ix_lstore, ix_lsub, ix_lsw, ix_max, ix_min, ix_new, ix_newa, ix_nret, ix_oinit, ix_pop2L, ix_popI, ix_pushI, ix_pushL, ix_putI, ix_putJ, ix_putR, ix_putZ, ix_sbald, ix_sgetC, ix_sgetV, ix_slen, ix_strc, ix_tald, ix_tsw, ix_vcall, ix_vret, ix_zret, stL, stL2, kilL, popN, fq_sw, fq_lsw, List.map_cons, List.map_nil, List.getElem?_cons_zero, List.getElem?_cons_succ, Option.toList_some, Option.toList_none, List.cons_append, List.nil_append, List.length_cons, List.length_nil, List.sum_cons, List.sum_nil, cat_i, cat_l, cat_r, true_and, and_true, Nat.zero_add, Nat.add_zero, Nat.le_refl, Nat.zero_le, Nat.reduceAdd, Nat.reduceLeDiff, exists_eq_left', Option.some.injEq, not_true_eq_false, not_false_eq_true, false_implies, true_implies, implies_true, and_self, or_true, true_or, or_false, false_or]
          exact ⟨fun _ => hq, fun h => absurd h (by omega)⟩
        | succ m ihm =>
          intro o a o4 hi he
          rw [qtV_1] at he
          have lp : ∀ (n i : Nat) (a' : Int32), i + n = d → qtU I s w o i n a' = qtU I s w o 0 d a → fqAt l G M_X11_quiet (D + 5) 0 0 Q 32 [some (.ref X), some (.int w), some (.int a'), some (.int (nI o)), some (.int (nI i))] [] S I J z 0 0 := by
            intro n
            induction n with
            | zero =>
              intro i a' hi9 hf
              rw [qtU_0] at hf
              rw [← hf] at he
              refine b_X11_quiet_32 _ _ _ _ _ _ _ _ ?_
              simp (disch := omega) only [B_X11_quiet_0, B_X11_quiet_18, B_X11_quiet_32, B_X11_quiet_73, sp_X11_isWall, B_X11_isWall_0, sp_X6_wallCount, B_X6_wallCount_0, sp_X11_isWithin, sp_X11_refuse, B_X11_refuse_0, sp_X6_sharedWall, sp_X6_wouldProvoke, sp_X11_oneIf, sp_X11_answer, B_X11_answer_0, hs, hs.k, x1, x2, hd1, nI_1, nI_add, nI_clamp, nI_pin, nI_neg, nI_nonneg, nI_leE, nI_ltE, nI_eqE, Nat.not_le, Nat.not_lt, fq_10, fq_01, fq_rr, ix_aald, ix_aast, ix_abs, ix_alen, ix_aload, ix_aret, ix_astore, ix_bald, ix_bast, ix_call, ix_cpyI, ix_cpyJ, ix_dead, ix_dup2, ix_dup2L, ix_dupI, ix_dupR, ix_dupx1, ix_getI, ix_getJ, ix_getR, ix_gfm, ix_gtab, ix_i2b, ix_i2c, ix_i2l, ix_i2s, ix_iadd, ix_iald, ix_iand, ix_iast, ix_icall, ix_icmp_eq, ix_icmp_ge, ix_icmp_gt, ix_icmp_le, ix_icmp_lt, ix_icmp_ne, ix_idiv, ix_if_eq, ix_if_ge, ix_if_gt, ix_if_le, ix_if_lt, ix_if_ne, ix_iinc, ix_iload, ix_imul, ix_ineg, ix_ior, ix_irem, ix_iret, ix_ishl, ix_ishr, ix_istore, ix_isub, ix_iushr, ix_ixor, ix_l2i, ix_ladd, ix_lald, ix_land, ix_last, ix_lcmp, ix_ldcS, ix_ldiv, ix_lload, ix_lmul, ix_lor, ix_lrem, ix_lret, ix_lshl, ix_lstore, ix_lsub, ix_lsw, ix_max, ix_min, ix_new, ix_newa, ix_nret, ix_oinit, ix_pop2L, ix_popI, ix_pushI, ix_pushL, ix_putI, ix_putJ, ix_putR, ix_putZ, ix_sbald, ix_sgetC, ix_sgetV, ix_slen, ix_strc, ix_tald, ix_tsw, ix_vcall, ix_vret, ix_zret, stL, stL2, kilL, popN, fq_sw, fq_lsw, List.map_cons, List.map_nil, List.getElem?_cons_zero, List.getElem?_cons_succ, Option.toList_some, Option.toList_none, List.cons_append, List.nil_append, List.length_cons, List.length_nil, List.sum_cons, List.sum_nil, cat_i, cat_l, cat_r, true_and, and_true, Nat.zero_add, Nat.add_zero, Nat.le_refl, Nat.zero_le, Nat.reduceAdd, Nat.reduceLeDiff, exists_eq_left', Option.some.injEq, not_true_eq_false, not_false_eq_true, false_implies, true_implies, implies_true, and_self, or_true, true_or, or_false, false_or]
              exact ⟨fun _ => ihm (o + 1) _ _ (by omega) he, fun h => absurd h (by omega)⟩
            | succ n ih =>
              intro i a' hi9 hf
              rw [qtU_1] at hf
              refine b_X11_quiet_32 _ _ _ _ _ _ _ _ ?_
              simp (disch := omega) only [B_X11_quiet_0, B_X11_quiet_18, B_X11_quiet_32, B_X11_quiet_73, sp_X11_isWall, B_X11_isWall_0, sp_X6_wallCount, B_X6_wallCount_0, sp_X11_isWithin, sp_X11_refuse, B_X11_refuse_0, sp_X6_sharedWall, sp_X6_wouldProvoke, sp_X11_oneIf, sp_X11_answer, B_X11_answer_0, hs, hs.k, x1, x2, hd1, nI_clamp, bI_01, bI_01b, bI_0, nI_1, nI_add, nI_clamp, nI_pin, nI_neg, nI_nonneg, nI_leE, nI_ltE, nI_eqE, Nat.not_le, Nat.not_lt, fq_10, fq_01, fq_rr, ix_aald, ix_aast, ix_abs, ix_alen, ix_aload, ix_aret, ix_astore, ix_bald, ix_bast, ix_call, ix_cpyI, ix_cpyJ, ix_dead, ix_dup2, ix_dup2L, ix_dupI, ix_dupR, ix_dupx1, ix_getI, ix_getJ, ix_getR, ix_gfm, ix_gtab, ix_i2b, ix_i2c, ix_i2l, ix_i2s, ix_iadd, ix_iald, ix_iand, ix_iast, ix_icall, ix_icmp_eq, ix_icmp_ge, ix_icmp_gt, ix_icmp_le, ix_icmp_lt, ix_icmp_ne, ix_idiv, ix_if_eq, ix_if_ge, ix_if_gt, ix_if_le, ix_if_lt, ix_if_ne, ix_iinc, ix_iload, ix_imul, ix_ineg, ix_ior, ix_irem, ix_iret, ix_ishl, ix_ishr, ix_istore, ix_isub, ix_iushr, ix_ixor, ix_l2i, ix_ladd, ix_lald, ix_land, ix_last, ix_lcmp, ix_ldcS, ix_ldiv, ix_lload, ix_lmul, ix_lor, ix_lrem, ix_lret, ix_lshl, ix_lstore, ix_lsub, ix_lsw, ix_max, ix_min, ix_new, ix_newa, ix_nret, ix_oinit, ix_pop2L, ix_popI, ix_pushI, ix_pushL, ix_putI, ix_putJ, ix_putR, ix_putZ, ix_sbald, ix_sgetC, ix_sgetV, ix_slen, ix_strc, ix_tald, ix_tsw, ix_vcall, ix_vret, ix_zret, stL, stL2, kilL, popN, fq_sw, fq_lsw, List.map_cons, List.map_nil, List.getElem?_cons_zero, List.getElem?_cons_succ, Option.toList_some, Option.toList_none, List.cons_append, List.nil_append, List.length_cons, List.length_nil, List.sum_cons, List.sum_nil, cat_i, cat_l, cat_r, true_and, and_true, Nat.zero_add, Nat.add_zero, Nat.le_refl, Nat.zero_le, Nat.reduceAdd, Nat.reduceLeDiff, exists_eq_left', Option.some.injEq, not_true_eq_false, not_false_eq_true, false_implies, true_implies, implies_true, and_self, or_true, true_or, or_false, false_or]
              refine ⟨fun h => absurd h (by omega), fun _ => ⟨fun h => ih (i + 1) _ (by omega) ?_, fun h => ⟨fun g => ih (i + 1) _ (by omega) ?_, fun g => ih (i + 1) _ (by omega) ?_⟩⟩⟩
              · rw [if_neg (fun q => h q.1)] at hf
                exact hf
              · rw [if_neg (fun q => g q.2)] at hf
                exact hf
              · rw [if_pos ⟨h, Decidable.not_not.mp g⟩] at hf
                exact hf
          refine b_X11_quiet_18 _ _ _ _ _ _ _ _ ?_
          simp (disch := omega) only [B_X11_quiet_0, B_X11_quiet_18, B_X11_quiet_32, B_X11_quiet_73, sp_X11_isWall, B_X11_isWall_0, sp_X6_wallCount, B_X6_wallCount_0, sp_X11_isWithin, sp_X11_refuse, B_X11_refuse_0, sp_X6_sharedWall, sp_X6_wouldProvoke, sp_X11_oneIf, sp_X11_answer, B_X11_answer_0, hs, hs.k, x1, x2, hd1, nI_1, nI_add, nI_clamp, nI_pin, nI_neg, nI_nonneg, nI_leE, nI_ltE, nI_eqE, Nat.not_le, Nat.not_lt, fq_10, fq_01, fq_rr, ix_aald, ix_aast, ix_abs, ix_alen, ix_aload, ix_aret, ix_astore, ix_bald, ix_bast, ix_call, ix_cpyI, ix_cpyJ, ix_dead, ix_dup2, ix_dup2L, ix_dupI, ix_dupR, ix_dupx1, ix_getI, ix_getJ, ix_getR, ix_gfm, ix_gtab, ix_i2b, ix_i2c, ix_i2l, ix_i2s, ix_iadd, ix_iald, ix_iand, ix_iast, ix_icall, ix_icmp_eq, ix_icmp_ge, ix_icmp_gt, ix_icmp_le, ix_icmp_lt, ix_icmp_ne, ix_idiv, ix_if_eq, ix_if_ge, ix_if_gt, ix_if_le, ix_if_lt, ix_if_ne, ix_iinc, ix_iload, ix_imul, ix_ineg, ix_ior, ix_irem, ix_iret, ix_ishl, ix_ishr, ix_istore, ix_isub, ix_iushr, ix_ixor, ix_l2i, ix_ladd, ix_lald, ix_land, ix_last, ix_lcmp, ix_ldcS, ix_ldiv, ix_lload, ix_lmul, ix_lor, ix_lrem, ix_lret, ix_lshl, ix_lstore, ix_lsub, ix_lsw, ix_max, ix_min, ix_new, ix_newa, ix_nret, ix_oinit, ix_pop2L, ix_popI, ix_pushI, ix_pushL, ix_putI, ix_putJ, ix_putR, ix_putZ, ix_sbald, ix_sgetC, ix_sgetV, ix_slen, ix_strc, ix_tald, ix_tsw, ix_vcall, ix_vret, ix_zret, stL, stL2, kilL, popN, fq_sw, fq_lsw, List.map_cons, List.map_nil, List.getElem?_cons_zero, List.getElem?_cons_succ, Option.toList_some, Option.toList_none, List.cons_append, List.nil_append, List.length_cons, List.length_nil, List.sum_cons, List.sum_nil, cat_i, cat_l, cat_r, true_and, and_true, Nat.zero_add, Nat.add_zero, Nat.le_refl, Nat.zero_le, Nat.reduceAdd, Nat.reduceLeDiff, exists_eq_left', Option.some.injEq, not_true_eq_false, not_false_eq_true, false_implies, true_implies, implies_true, and_self, or_true, true_or, or_false, false_or]
          exact ⟨fun h => absurd h (by omega), fun _ => lp d 0 a (by omega) rfl⟩
      refine fq_enter [some (.ref X), some (.int w), none, none, none] (by decide +kernel) (Nat.le_of_ble_eq_true rfl) rfl (b_X11_quiet_0 _ _ _ _ _ _ _ _ ?_)
      simp (disch := omega) only [B_X11_quiet_0, B_X11_quiet_18, B_X11_quiet_32, B_X11_quiet_73, sp_X11_isWall, B_X11_isWall_0, sp_X6_wallCount, B_X6_wallCount_0, sp_X11_isWithin, sp_X11_refuse, B_X11_refuse_0, sp_X6_sharedWall, sp_X6_wouldProvoke, sp_X11_oneIf, sp_X11_answer, B_X11_answer_0, hs, hs.k, x1, x2, hc1, hw, h1, bI_01, bI_01b, bI_0, bI_tr, bI_fl, nI_1, nI_add, nI_clamp, nI_pin, nI_neg, nI_nonneg, nI_leE, nI_ltE, nI_eqE, Nat.not_le, Nat.not_lt, fq_10, fq_01, fq_rr, ix_aald, ix_aast, ix_abs, ix_alen, ix_aload, ix_aret, ix_astore, ix_bald, ix_bast, ix_call, ix_cpyI, ix_cpyJ, ix_dead, ix_dup2, ix_dup2L, ix_dupI, ix_dupR, ix_dupx1, ix_getI, ix_getJ, ix_getR, ix_gfm, ix_gtab, ix_i2b, ix_i2c, ix_i2l, ix_i2s, ix_iadd, ix_iald, ix_iand, ix_iast, ix_icall, ix_icmp_eq, ix_icmp_ge, ix_icmp_gt, ix_icmp_le, ix_icmp_lt, ix_icmp_ne, ix_idiv, ix_if_eq, ix_if_ge, ix_if_gt, ix_if_le, ix_if_lt, ix_if_ne, ix_iinc, ix_iload, ix_imul, ix_ineg, ix_ior, ix_irem, ix_iret, ix_ishl, ix_ishr, ix_istore, ix_isub, ix_iushr, ix_ixor, ix_l2i, ix_ladd, ix_lald, ix_land, ix_last, ix_lcmp, ix_ldcS, ix_ldiv, ix_lload, ix_lmul, ix_lor, ix_lrem, ix_lret, ix_lshl, ix_lstore, ix_lsub, ix_lsw, ix_max, ix_min, ix_new, ix_newa, ix_nret, ix_oinit, ix_pop2L, ix_popI, ix_pushI, ix_pushL, ix_putI, ix_putJ, ix_putR, ix_putZ, ix_sbald, ix_sgetC, ix_sgetV, ix_slen, ix_strc, ix_tald, ix_tsw, ix_vcall, ix_vret, ix_zret, stL, stL2, kilL, popN, fq_sw, fq_lsw, List.map_cons, List.map_nil, List.getElem?_cons_zero, List.getElem?_cons_succ, Option.toList_some, Option.toList_none, List.cons_append, List.nil_append, List.length_cons, List.length_nil, List.sum_cons, List.sum_nil, cat_i, cat_l, cat_r, true_and, and_true, Nat.zero_add, Nat.add_zero, Nat.le_refl, Nat.zero_le, Nat.reduceAdd, Nat.reduceLeDiff, exists_eq_left', Option.some.injEq, not_true_eq_false, not_false_eq_true, false_implies, true_implies, implies_true, and_self, or_true, true_or, or_false, false_or]
      exact lo d 0 1 _ (by omega) rfl
    · refine fq_enter [some (.ref X), some (.int w), none, none, none] (by decide +kernel) (Nat.le_of_ble_eq_true rfl) rfl (b_X11_quiet_0 _ _ _ _ _ _ _ _ ?_)
      simp (disch := omega) only [B_X11_quiet_0, B_X11_quiet_18, B_X11_quiet_32, B_X11_quiet_73, sp_X11_isWall, B_X11_isWall_0, sp_X6_wallCount, B_X6_wallCount_0, sp_X11_isWithin, sp_X11_refuse, B_X11_refuse_0, sp_X6_sharedWall, sp_X6_wouldProvoke, sp_X11_oneIf, sp_X11_answer, B_X11_answer_0, hs, hs.k, x1, x2, hc1, hw, h1, bI_01, bI_01b, bI_0, bI_tr, bI_fl, nI_1, nI_add, nI_clamp, nI_pin, nI_neg, nI_nonneg, nI_leE, nI_ltE, nI_eqE, Nat.not_le, Nat.not_lt, fq_10, fq_01, fq_rr, ix_aald, ix_aast, ix_abs, ix_alen, ix_aload, ix_aret, ix_astore, ix_bald, ix_bast, ix_call, ix_cpyI, ix_cpyJ, ix_dead, ix_dup2, ix_dup2L, ix_dupI, ix_dupR, ix_dupx1, ix_getI, ix_getJ, ix_getR, ix_gfm, ix_gtab, ix_i2b, ix_i2c, ix_i2l, ix_i2s, ix_iadd, ix_iald, ix_iand, ix_iast, ix_icall, ix_icmp_eq, ix_icmp_ge, ix_icmp_gt, ix_icmp_le, ix_icmp_lt, ix_icmp_ne, ix_idiv, ix_if_eq, ix_if_ge, ix_if_gt, ix_if_le, ix_if_lt, ix_if_ne, ix_iinc, ix_iload, ix_imul, ix_ineg, ix_ior, ix_irem, ix_iret, ix_ishl, ix_ishr, ix_istore, ix_isub, ix_iushr, ix_ixor, ix_l2i, ix_ladd, ix_lald, ix_land, ix_last, ix_lcmp, ix_ldcS, ix_ldiv, ix_lload, ix_lmul, ix_lor, ix_lrem, ix_lret, ix_lshl, ix_lstore, ix_lsub, ix_lsw, ix_max, ix_min, ix_new, ix_newa, ix_nret, ix_oinit, ix_pop2L, ix_popI, ix_pushI, ix_pushL, ix_putI, ix_putJ, ix_putR, ix_putZ, ix_sbald, ix_sgetC, ix_sgetV, ix_slen, ix_strc, ix_tald, ix_tsw, ix_vcall, ix_vret, ix_zret, stL, stL2, kilL, popN, fq_sw, fq_lsw, List.map_cons, List.map_nil, List.getElem?_cons_zero, List.getElem?_cons_succ, Option.toList_some, Option.toList_none, List.cons_append, List.nil_append, List.length_cons, List.length_nil, List.sum_cons, List.sum_nil, cat_i, cat_l, cat_r, true_and, and_true, Nat.zero_add, Nat.add_zero, Nat.le_refl, Nat.zero_le, Nat.reduceAdd, Nat.reduceLeDiff, exists_eq_left', Option.some.injEq, not_true_eq_false, not_false_eq_true, false_implies, true_implies, implies_true, and_self, or_true, true_or, or_false, false_or]
      exact hQ1 h1
  · exact h.elim
theorem qrl_cg {s : Nat} {I I' : IH} {J J' : JH} (h : scr s I I' J J') (a b : Nat) : qrl I' s a b = qrl I s a b := by
  have e0 : ∀ k, I' s k = I s k := fun k => h.1 s k (Or.inl (by omega))
  have p : ∀ i k, I' (s + 24 + i) k = I (s + 24 + i) k := fun i k => h.1 _ k (Or.inr (by omega))
  have g : ∀ i k, I' (s + 18 + i) k = I (s + 18 + i) k := fun i k => h.1 _ k (Or.inr (by omega))
  unfold qrl
  simp only [e0, p, g]
/-- what a wins by saying to b -/
def gnU (I : IH) (s a b : Nat) : Int32 := (qrl I s a b).2.2.2.2.2.1 - I (s + 18 + (I (s + 24 + a) 1).toNatClampNeg) 2
theorem gnU_cg {s : Nat} {I I' : IH} {J J' : JH} (h : scr s I I' J J') (a b : Nat) : (qrl I' s a b).2.2.2.2.2.1 - I' (s + 18 + (I' (s + 24 + a) 1).toNatClampNeg) 2 = gnU I s a b := by
  have p : I' (s + 24 + a) 1 = I (s + 24 + a) 1 := h.1 _ 1 (Or.inr (by omega))
  rw [qrl_cg h, p, h.1 (s + 18 + (I (s + 24 + a) 1).toNatClampNeg) 2 (Or.inr (by omega))]
  rfl
def bsU (I : IH) (s a : Nat) (i n : Nat) (x : Int32 × Int32) : Int32 × Int32 := foldU (fun i x => if shW (I (s + 24 + a) 1) (I (s + 24 + i) 1) (I s 13) = -1 then x else if x.2 < gnU I s a i then (nI i, gnU I s a i) else x) i n x
theorem bsU_0 (I : IH) (s a i : Nat) (x : Int32 × Int32) : bsU I s a i 0 x = x := rfl
theorem bsU_1 (I : IH) (s a i n : Nat) (x : Int32 × Int32) : bsU I s a i (n + 1) x = bsU I s a (i + 1) n (if shW (I (s + 24 + a) 1) (I (s + 24 + i) 1) (I s 13) = -1 then x else if x.2 < gnU I s a i then (nI i, gnU I s a i) else x) := rfl
theorem dX11_bestTo_0 : decode cX11_bestTo 0 = .ok (.aload_n 0, 1) := by decide +kernel
theorem dX11_bestTo_1 : decode cX11_bestTo 1 = .ok (.iload_n 1, 1) := by decide +kernel
theorem dX11_bestTo_2 : decode cX11_bestTo 2 = .ok (.invokevirtual 233, 3) := by decide +kernel
theorem dX11_bestTo_5 : decode cX11_bestTo 5 = .ok (.ifCond .ne 9, 3) := by decide +kernel
theorem dX11_bestTo_8 : decode cX11_bestTo 8 = .ok (.aload_n 0, 1) := by decide +kernel
theorem dX11_bestTo_9 : decode cX11_bestTo 9 = .ok (.iconst 1, 1) := by decide +kernel
theorem dX11_bestTo_10 : decode cX11_bestTo 10 = .ok (.invokevirtual 97, 3) := by decide +kernel
theorem dX11_bestTo_13 : decode cX11_bestTo 13 = .ok (.ireturn, 1) := by decide +kernel
theorem dX11_bestTo_14 : decode cX11_bestTo 14 = .ok (.iconst (-1), 1) := by decide +kernel
theorem dX11_bestTo_15 : decode cX11_bestTo 15 = .ok (.istore_n 2, 1) := by decide +kernel
theorem dX11_bestTo_16 : decode cX11_bestTo 16 = .ok (.iconst 0, 1) := by decide +kernel
theorem dX11_bestTo_17 : decode cX11_bestTo 17 = .ok (.istore_n 3, 1) := by decide +kernel
theorem dX11_bestTo_18 : decode cX11_bestTo 18 = .ok (.iconst 0, 1) := by decide +kernel
theorem dX11_bestTo_19 : decode cX11_bestTo 19 = .ok (.istore 4, 2) := by decide +kernel
theorem dX11_bestTo_21 : decode cX11_bestTo 21 = .ok (.iload 4, 2) := by decide +kernel
theorem dX11_bestTo_23 : decode cX11_bestTo 23 = .ok (.aload_n 0, 1) := by decide +kernel
theorem dX11_bestTo_24 : decode cX11_bestTo 24 = .ok (.getfield 46, 3) := by decide +kernel
theorem dX11_bestTo_27 : decode cX11_bestTo 27 = .ok (.getfield 139, 3) := by decide +kernel
theorem dX11_bestTo_30 : decode cX11_bestTo 30 = .ok (.if_icmp .ge 47, 3) := by decide +kernel
theorem dX11_bestTo_33 : decode cX11_bestTo 33 = .ok (.aload_n 0, 1) := by decide +kernel
theorem dX11_bestTo_34 : decode cX11_bestTo 34 = .ok (.getfield 46, 3) := by decide +kernel
theorem dX11_bestTo_37 : decode cX11_bestTo 37 = .ok (.iload_n 1, 1) := by decide +kernel
theorem dX11_bestTo_38 : decode cX11_bestTo 38 = .ok (.iload 4, 2) := by decide +kernel
theorem dX11_bestTo_40 : decode cX11_bestTo 40 = .ok (.invokevirtual 287, 3) := by decide +kernel
theorem dX11_bestTo_43 : decode cX11_bestTo 43 = .ok (.iconst (-1), 1) := by decide +kernel
theorem dX11_bestTo_44 : decode cX11_bestTo 44 = .ok (.if_icmp .eq 27, 3) := by decide +kernel
theorem dX11_bestTo_47 : decode cX11_bestTo 47 = .ok (.aload_n 0, 1) := by decide +kernel
theorem dX11_bestTo_48 : decode cX11_bestTo 48 = .ok (.getfield 46, 3) := by decide +kernel
theorem dX11_bestTo_51 : decode cX11_bestTo 51 = .ok (.iload_n 1, 1) := by decide +kernel
theorem dX11_bestTo_52 : decode cX11_bestTo 52 = .ok (.iload 4, 2) := by decide +kernel
theorem dX11_bestTo_54 : decode cX11_bestTo 54 = .ok (.invokevirtual 345, 3) := by decide +kernel
theorem dX11_bestTo_57 : decode cX11_bestTo 57 = .ok (.istore 5, 2) := by decide +kernel
theorem dX11_bestTo_59 : decode cX11_bestTo 59 = .ok (.iload 5, 2) := by decide +kernel
theorem dX11_bestTo_61 : decode cX11_bestTo 61 = .ok (.iload_n 3, 1) := by decide +kernel
theorem dX11_bestTo_62 : decode cX11_bestTo 62 = .ok (.if_icmp .le 9, 3) := by decide +kernel
theorem dX11_bestTo_65 : decode cX11_bestTo 65 = .ok (.iload 5, 2) := by decide +kernel
theorem dX11_bestTo_67 : decode cX11_bestTo 67 = .ok (.istore_n 3, 1) := by decide +kernel
theorem dX11_bestTo_68 : decode cX11_bestTo 68 = .ok (.iload 4, 2) := by decide +kernel
theorem dX11_bestTo_70 : decode cX11_bestTo 70 = .ok (.istore_n 2, 1) := by decide +kernel
theorem dX11_bestTo_71 : decode cX11_bestTo 71 = .ok (.iinc 4 1, 3) := by decide +kernel
theorem dX11_bestTo_74 : decode cX11_bestTo 74 = .ok (.goto (-53), 3) := by decide +kernel
theorem dX11_bestTo_77 : decode cX11_bestTo 77 = .ok (.iload_n 2, 1) := by decide +kernel
theorem dX11_bestTo_78 : decode cX11_bestTo 78 = .ok (.iconst (-1), 1) := by decide +kernel
theorem dX11_bestTo_79 : decode cX11_bestTo 79 = .ok (.if_icmp .ne 12, 3) := by decide +kernel
theorem dX11_bestTo_82 : decode cX11_bestTo 82 = .ok (.aload_n 0, 1) := by decide +kernel
theorem dX11_bestTo_83 : decode cX11_bestTo 83 = .ok (.bipush 6, 2) := by decide +kernel
theorem dX11_bestTo_85 : decode cX11_bestTo 85 = .ok (.invokevirtual 97, 3) := by decide +kernel
theorem dX11_bestTo_88 : decode cX11_bestTo 88 = .ok (.goto 8, 3) := by decide +kernel
theorem dX11_bestTo_91 : decode cX11_bestTo 91 = .ok (.aload_n 0, 1) := by decide +kernel
theorem dX11_bestTo_92 : decode cX11_bestTo 92 = .ok (.iload_n 2, 1) := by decide +kernel
theorem dX11_bestTo_93 : decode cX11_bestTo 93 = .ok (.invokevirtual 142, 3) := by decide +kernel
theorem dX11_bestTo_96 : decode cX11_bestTo 96 = .ok (.ireturn, 1) := by decide +kernel
abbrev M_X11_bestTo : MT := (yX11_bestTo, cX11_bestTo, 6, (some .int))
theorem cf_X11_bestTo : fq_cf M_X11_bestTo 1 := ⟨(mg_1 (List.mem_of_getElem? (i := 1) rfl) rfl), (mg_5 (List.mem_of_getElem? (i := 172) rfl) rfl), ⟨by decide, by decide, by decide +kernel⟩, by decide⟩
def B_X11_bestTo_96 (l : Launch) (G : GT) (D mc ms : Nat) (Q : Post) : Cn := ix_iret mc ms Q
theorem b_X11_bestTo_96 {l : Launch} {G : GT} {D mc ms : Nat} {Q : Post} : Imp l G M_X11_bestTo (D + 4) mc ms Q (B_X11_bestTo_96 l G D mc ms Q) 96 := sx_iret dX11_bestTo_96 rfl
def B_X11_bestTo_71 (l : Launch) (G : GT) (D mc ms : Nat) (Q : Post) : Cn := ix_iinc 4 1 (fqAt l G M_X11_bestTo (D + 4) mc ms Q 21)
theorem b_X11_bestTo_71 {l : Launch} {G : GT} {D mc ms : Nat} {Q : Post} : Imp l G M_X11_bestTo (D + 4) mc ms Q (B_X11_bestTo_71 l G D mc ms Q) 71 := sx_iinc dX11_bestTo_71 rfl (by decide) (sx_goto 21 dX11_bestTo_74 (by decide) ((fun _ _ _ _ _ _ _ _ h => h)))
def B_X11_bestTo_21 (l : Launch) (G : GT) (D mc ms : Nat) (Q : Post) : Cn := ix_iload 4 (ix_aload 0 (ix_getR 11 6 (ix_getI 6 6 (ix_icmp_ge (ix_iload 2 (ix_pushI (-1) (ix_icmp_ne (ix_aload 0 (ix_iload 2 (ix_vcall 11 2 0 0 mc ms (sp_X11_answer G) ((B_X11_bestTo_96 l G D mc ms Q))))) (ix_aload 0 (ix_pushI 6 (ix_vcall 11 2 0 0 mc ms (sp_X11_refuse G) ((B_X11_bestTo_96 l G D mc ms Q)))))))) (ix_aload 0 (ix_getR 11 6 (ix_iload 1 (ix_iload 4 (ix_vcall 6 3 0 0 mc ms (sp_X6_sharedWall G) (ix_pushI (-1) (ix_icmp_eq ((B_X11_bestTo_71 l G D mc ms Q)) (ix_aload 0 (ix_getR 11 6 (ix_iload 1 (ix_iload 4 (ix_vcall 6 3 0 0 mc ms (sp_X6_gain G) (ix_istore 5 (ix_iload 5 (ix_iload 3 (ix_icmp_le ((B_X11_bestTo_71 l G D mc ms Q)) (ix_iload 5 (ix_istore 3 (ix_iload 4 (ix_istore 2 ((B_X11_bestTo_71 l G D mc ms Q))))))))))))))))))))))))))
theorem b_X11_bestTo_21 {l : Launch} {G : GT} {D mc ms : Nat} {Q : Post} : Imp l G M_X11_bestTo (D + 4) mc ms Q (B_X11_bestTo_21 l G D mc ms Q) 21 := sx_iload dX11_bestTo_21 (sx_aload_n dX11_bestTo_23 rfl (sx_getR dX11_bestTo_24 fl_FootQuarrel_46 (fun _ _ _ => rfl) (sx_getI dX11_bestTo_27 fl_FootQuarrel_139 (fun _ _ _ => rfl) (sx_icmp_ge 77 dX11_bestTo_30 (by decide) (sx_iload_n dX11_bestTo_77 rfl (sx_iconst dX11_bestTo_78 rfl (sx_icmp_ne 91 dX11_bestTo_79 (by decide) (sx_aload_n dX11_bestTo_91 rfl (sx_iload_n dX11_bestTo_92 rfl (sx_vcall dX11_bestTo_93 cf_X11_answer (mg_4 (List.mem_of_getElem? (i := 72) rfl) rfl) (mg_4 (List.mem_of_getElem? (i := 74) rfl) rfl) (mg_p (List.mem_of_getElem? (i := 17) rfl) rfl) rfl c_X11_answer (b_X11_bestTo_96)))) (sx_aload_n dX11_bestTo_82 rfl (sx_bipush dX11_bestTo_83 rfl (sx_vcall dX11_bestTo_85 cf_X11_refuse (mg_3 (List.mem_of_getElem? (i := 120) rfl) rfl) (mg_3 (List.mem_of_getElem? (i := 122) rfl) rfl) (mg_p (List.mem_of_getElem? (i := 3) rfl) rfl) rfl c_X11_refuse (sx_goto 96 dX11_bestTo_88 (by decide) (b_X11_bestTo_96)))))))) (sx_aload_n dX11_bestTo_33 rfl (sx_getR dX11_bestTo_34 fl_FootQuarrel_46 (fun _ _ _ => rfl) (sx_iload_n dX11_bestTo_37 rfl (sx_iload dX11_bestTo_38 (sx_vcall dX11_bestTo_40 cf_X6_sharedWall (mg_4 (List.mem_of_getElem? (i := 232) rfl) rfl) (mg_4 (List.mem_of_getElem? (i := 233) rfl) rfl) (mg_4 (List.mem_of_getElem? (i := 234) rfl) rfl) rfl c_X6_sharedWall (sx_iconst dX11_bestTo_43 rfl (sx_icmp_eq 71 dX11_bestTo_44 (by decide) (b_X11_bestTo_71) (sx_aload_n dX11_bestTo_47 rfl (sx_getR dX11_bestTo_48 fl_FootQuarrel_46 (fun _ _ _ => rfl) (sx_iload_n dX11_bestTo_51 rfl (sx_iload dX11_bestTo_52 (sx_vcall dX11_bestTo_54 cf_X6_gain (mg_5 (List.mem_of_getElem? (i := 165) rfl) rfl) (mg_5 (List.mem_of_getElem? (i := 166) rfl) rfl) (mg_5 (List.mem_of_getElem? (i := 167) rfl) rfl) rfl c_X6_gain (sx_istore dX11_bestTo_57 (by decide) (sx_iload dX11_bestTo_59 (sx_iload_n dX11_bestTo_61 rfl (sx_icmp_le 71 dX11_bestTo_62 (by decide) (b_X11_bestTo_71) (sx_iload dX11_bestTo_65 (sx_istore_n dX11_bestTo_67 rfl (by decide) (sx_iload dX11_bestTo_68 (sx_istore_n dX11_bestTo_70 rfl (by decide) (b_X11_bestTo_71)))))))))))))))))))))))))
def B_X11_bestTo_0 (l : Launch) (G : GT) (D mc ms : Nat) (Q : Post) : Cn := ix_aload 0 (ix_iload 1 (ix_vcall 11 2 0 0 mc ms (sp_X11_isPerson G) (ix_if_ne (ix_pushI (-1) (ix_istore 2 (ix_pushI 0 (ix_istore 3 (ix_pushI 0 (ix_istore 4 (fqAt l G M_X11_bestTo (D + 4) mc ms Q 21))))))) (ix_aload 0 (ix_pushI 1 (ix_vcall 11 2 0 0 mc ms (sp_X11_refuse G) (ix_iret mc ms Q)))))))
theorem b_X11_bestTo_0 {l : Launch} {G : GT} {D mc ms : Nat} {Q : Post} : Imp l G M_X11_bestTo (D + 4) mc ms Q (B_X11_bestTo_0 l G D mc ms Q) 0 := sx_aload_n dX11_bestTo_0 rfl (sx_iload_n dX11_bestTo_1 rfl (sx_vcall dX11_bestTo_2 cf_X11_isPerson (mg_4 (List.mem_of_getElem? (i := 209) rfl) rfl) (mg_4 (List.mem_of_getElem? (i := 211) rfl) rfl) (mg_p (List.mem_of_getElem? (i := 26) rfl) rfl) rfl c_X11_isPerson (sx_if_ne 14 dX11_bestTo_5 (by decide) (sx_iconst dX11_bestTo_14 rfl (sx_istore_n dX11_bestTo_15 rfl (by decide) (sx_iconst dX11_bestTo_16 rfl (sx_istore_n dX11_bestTo_17 rfl (by decide) (sx_iconst dX11_bestTo_18 rfl (sx_istore dX11_bestTo_19 (by decide) ((fun _ _ _ _ _ _ _ _ h => h)))))))) (sx_aload_n dX11_bestTo_8 rfl (sx_iconst dX11_bestTo_9 rfl (sx_vcall dX11_bestTo_10 cf_X11_refuse (mg_3 (List.mem_of_getElem? (i := 120) rfl) rfl) (mg_3 (List.mem_of_getElem? (i := 122) rfl) rfl) (mg_p (List.mem_of_getElem? (i := 3) rfl) rfl) rfl c_X11_refuse (sx_iret dX11_bestTo_13 rfl)))))))
def sp_X11_bestTo (G : GT) : Sp := fun as S I J z Q => match as with
  | [.ref X, .int p] => ∃ s, xsh S X s ∧ X < s ∧ okN (I s 6) 8 ∧ (I s 16 = 0 ∨ I s 16 = 1) ∧ (∀ i, i < (I s 6).toNatClampNeg → vp_in (I (s + 24 + i) 1) 6) ∧ (¬ (0 ≤ p ∧ p ≤ I s 6 - 1) → Q (some (.int (-1))) S (u2 I X 10 1) J z) ∧ ∀ k, p = nI k → k < (I s 6).toNatClampNeg → ∀ I' J', scr s I I' J J' → Q (some (.int (bsU I s k 0 (I s 6).toNatClampNeg (-1, 0)).1)) S (u2 I' X 10 (if (bsU I s k 0 (I s 6).toNatClampNeg (-1, 0)).1 = -1 then 6 else 0)) J' z
  | _ => False
set_option maxHeartbeats 4000000 in
set_option maxRecDepth 20000 in
theorem c_X11_bestTo {l : Launch} {G : GT} {D : Nat} : ∀ as S I J z Q, sp_X11_bestTo G as S I J z Q → fqCall l G M_X11_bestTo (D + 4) 0 0 as S I J z Q := by
  intro as S I J z Q h
  unfold sp_X11_bestTo at h
  split at h
  · next X p =>
    obtain ⟨s, ⟨x1, x2, hs⟩, hX, ho, hr, hv, hQ1, hQ2⟩ := h
    obtain ⟨c, hc, hc1, hc2⟩ := ho.ex
    rw [hc2] at hQ2 hv
    rw [hc1] at hQ1
    by_cases h1 : 0 ≤ p ∧ p ≤ nI c - 1
    · obtain ⟨k, rfl, hk⟩ := (in_pred (by omega)).mp h1
      have hq := hQ2 k rfl hk
      have lp : ∀ (n i : Nat) (b m : Int32) (I' : IH) (J' : JH) (o5 : Option Value), scr s I I' J J' → i + n = c → bsU I s k i n (b, m) = bsU I s k 0 c (-1, 0) → fqAt l G M_X11_bestTo (D + 4) 0 0 Q 21 [some (.ref X), some (.int (nI k)), some (.int b), some (.int m), some (.int (nI i)), o5] [] S I' J' z 0 0 := by
        intro n
        induction n with
        | zero =>
          intro i b m I' J' o5 hsc hi he
          rw [bsU_0] at he
          have e6 : I' s 6 = nI c := by rw [hsc.1 s 6 (Or.inl (by omega)), hc1]
          have hq := hq I' J' hsc
          rw [← he] at hq
          refine b_X11_bestTo_21 _ _ _ _ _ _ _ _ ?_
          simp (disch := omega) only [B_X11_bestTo_0, B_X11_bestTo_21, B_X11_bestTo_71, B_X11_bestTo_96, sp_X11_isPerson, B_X11_isPerson_0, sp_X11_isWithin, sp_X11_refuse, B_X11_refuse_0, sp_X6_sharedWall, sp_X6_gain, sp_X11_answer, B_X11_answer_0, hs, hs.k, x1, x2, e6, nI_1, nI_add, nI_clamp, nI_pin, nI_neg, nI_nonneg, nI_leE, nI_ltE, nI_eqE, Nat.not_le, Nat.not_lt, fq_10, fq_01, fq_rr, ix_aald, ix_aast, ix_abs, ix_alen, ix_aload, ix_aret, ix_astore, ix_bald, ix_bast, ix_call, ix_cpyI, ix_cpyJ, ix_dead, ix_dup2, ix_dup2L, ix_dupI, ix_dupR, ix_dupx1, ix_getI, ix_getJ, ix_getR, ix_gfm, ix_gtab, ix_i2b, ix_i2c, ix_i2l, ix_i2s, ix_iadd, ix_iald, ix_iand, ix_iast, ix_icall, ix_icmp_eq, ix_icmp_ge, ix_icmp_gt, ix_icmp_le, ix_icmp_lt, ix_icmp_ne, ix_idiv, ix_if_eq, ix_if_ge, ix_if_gt, ix_if_le, ix_if_lt, ix_if_ne, ix_iinc, ix_iload, ix_imul, ix_ineg, ix_ior, ix_irem, ix_iret, ix_ishl, ix_ishr, ix_istore, ix_isub, ix_iushr, ix_ixor, ix_l2i, ix_ladd, ix_lald, ix_land, ix_last, ix_lcmp, ix_ldcS, ix_ldiv, ix_lload, ix_lmul, ix_lor, ix_lrem, ix_lret, ix_lshl, ix_lstore, ix_lsub, ix_lsw, ix_max, ix_min, ix_new, ix_newa, ix_nret, ix_oinit, ix_pop2L, ix_popI, ix_pushI, ix_pushL, ix_putI, ix_putJ, ix_putR, ix_putZ, ix_sbald, ix_sgetC, ix_sgetV, ix_slen, ix_strc, ix_tald, ix_tsw, ix_vcall, ix_vret, ix_zret, stL, stL2, kilL, popN, fq_sw, fq_lsw, List.map_cons, List.map_nil, List.getElem?_cons_zero, List.getElem?_cons_succ, Option.toList_some, Option.toList_none, List.cons_append, List.nil_append, List.length_cons, List.length_nil, List.sum_cons, List.sum_nil, cat_i, cat_l, cat_r, true_and, and_true, Nat.zero_add, Nat.add_zero, Nat.le_refl, Nat.zero_le, Nat.reduceAdd, Nat.reduceLeDiff, exists_eq_left', Option.some.injEq, not_true_eq_false, not_false_eq_true, false_implies, true_implies, implies_true, and_self, or_true, true_or, or_false, false_or]
          refine ⟨fun _ => ⟨fun h => ?_, fun h => ?_⟩, fun h => absurd h (by omega)⟩
          · rw [if_neg h] at hq
            exact hq
          · rw [if_pos h] at hq
            rw [← show b = -1 from h]
            exact hq
        | succ n ih =>
          intro i b m I' J' o5 hsc hi he
          rw [bsU_1] at he
          have e6 : I' s 6 = nI c := by rw [hsc.1 s 6 (Or.inl (by omega)), hc1]
          have e13 : I' s 13 = I s 13 := hsc.1 s 13 (Or.inl (by omega))
          have ea : I' (s + 24 + k) 1 = I (s + 24 + k) 1 := hsc.1 _ 1 (Or.inr (by omega))
          have eb : I' (s + 24 + i) 1 = I (s + 24 + i) 1 := hsc.1 _ 1 (Or.inr (by omega))
          have eg := gnU_cg hsc k i
          rw [ea] at eg
          have pr : prS S I' s k i := by
            refine ⟨hs, ?_, ?_, ?_⟩
            · rw [ea]
              exact hv k hk
            · rw [eb]
              exact hv i (by omega)
            · rw [hsc.1 s 16 (Or.inl (by omega))]
              exact hr
          refine b_X11_bestTo_21 _ _ _ _ _ _ _ _ ?_
          simp (disch := omega) only [B_X11_bestTo_0, B_X11_bestTo_21, B_X11_bestTo_71, B_X11_bestTo_96, sp_X11_isPerson, B_X11_isPerson_0, sp_X11_isWithin, sp_X11_refuse, B_X11_refuse_0, sp_X6_sharedWall, sp_X6_gain, sp_X11_answer, B_X11_answer_0, hs, hs.k, x1, x2, e6, nI_clamp, e13, ea, eb, eg, pr, nI_1, nI_add, nI_clamp, nI_pin, nI_neg, nI_nonneg, nI_leE, nI_ltE, nI_eqE, Nat.not_le, Nat.not_lt, fq_10, fq_01, fq_rr, ix_aald, ix_aast, ix_abs, ix_alen, ix_aload, ix_aret, ix_astore, ix_bald, ix_bast, ix_call, ix_cpyI, ix_cpyJ, ix_dead, ix_dup2, ix_dup2L, ix_dupI, ix_dupR, ix_dupx1, ix_getI, ix_getJ, ix_getR, ix_gfm, ix_gtab, ix_i2b, ix_i2c, ix_i2l, ix_i2s, ix_iadd, ix_iald, ix_iand, ix_iast, ix_icall, ix_icmp_eq, ix_icmp_ge, ix_icmp_gt, ix_icmp_le, ix_icmp_lt, ix_icmp_ne, ix_idiv, ix_if_eq, ix_if_ge, ix_if_gt, ix_if_le, ix_if_lt, ix_if_ne, ix_iinc, ix_iload, ix_imul, ix_ineg, ix_ior, ix_irem, ix_iret, ix_ishl, ix_ishr, ix_istore, ix_isub, ix_iushr, ix_ixor, ix_l2i, ix_ladd, ix_lald, ix_land, ix_last, ix_lcmp, ix_ldcS, ix_ldiv, ix_lload, ix_lmul, ix_lor, ix_lrem, ix_lret, ix_lshl, ix_lstore, ix_lsub, ix_lsw, ix_max, ix_min, ix_new, ix_newa, ix_nret, ix_oinit, ix_pop2L, ix_popI, ix_pushI, ix_pushL, ix_putI, ix_putJ, ix_putR, ix_putZ, ix_sbald, ix_sgetC, ix_sgetV, ix_slen, ix_strc, ix_tald, ix_tsw, ix_vcall, ix_vret, ix_zret, stL, stL2, kilL, popN, fq_sw, fq_lsw, List.map_cons, List.map_nil, List.getElem?_cons_zero, List.getElem?_cons_succ, Option.toList_some, Option.toList_none, List.cons_append, List.nil_append, List.length_cons, List.length_nil, List.sum_cons, List.sum_nil, cat_i, cat_l, cat_r, true_and, and_true, Nat.zero_add, Nat.add_zero, Nat.le_refl, Nat.zero_le, Nat.reduceAdd, Nat.reduceLeDiff, exists_eq_left', Option.some.injEq, not_true_eq_false, not_false_eq_true, false_implies, true_implies, implies_true, and_self, or_true, true_or, or_false, false_or]
          refine ⟨fun h => absurd h (by omega), fun _ => ⟨fun h => ih (i + 1) _ _ _ _ _ hsc (by omega) ?_, fun h I2 J2 h2 => ⟨fun g => ih (i + 1) _ _ _ _ _ (hsc.tr h2) (by omega) ?_, fun g => ih (i + 1) _ _ _ _ _ (hsc.tr h2) (by omega) ?_⟩⟩⟩
          · rw [if_pos h] at he
            exact he
          · rw [if_neg h, if_neg (Int32.not_lt.mpr g)] at he
            exact he
          · rw [if_neg h, if_pos (Int32.not_le.mp g)] at he
            exact he
      refine fq_enter [some (.ref X), some (.int (nI k)), none, none, none, none] (by decide +kernel) (Nat.le_of_ble_eq_true rfl) rfl (b_X11_bestTo_0 _ _ _ _ _ _ _ _ ?_)
      simp (disch := omega) only [B_X11_bestTo_0, B_X11_bestTo_21, B_X11_bestTo_71, B_X11_bestTo_96, sp_X11_isPerson, B_X11_isPerson_0, sp_X11_isWithin, sp_X11_refuse, B_X11_refuse_0, sp_X6_sharedWall, sp_X6_gain, sp_X11_answer, B_X11_answer_0, hs, hs.k, x1, x2, hc1, h1, bI_01, bI_01b, bI_0, bI_tr, bI_fl, nI_1, nI_add, nI_clamp, nI_pin, nI_neg, nI_nonneg, nI_leE, nI_ltE, nI_eqE, Nat.not_le, Nat.not_lt, fq_10, fq_01, fq_rr, ix_aald, ix_aast, ix_abs, ix_alen, ix_aload, ix_aret, ix_astore, ix_bald, ix_bast, ix_call, ix_cpyI, ix_cpyJ, ix_dead, ix_dup2, ix_dup2L, ix_dupI, ix_dupR, ix_dupx1, ix_getI, ix_getJ, ix_getR, ix_gfm, ix_gtab, ix_i2b, ix_i2c, ix_i2l, ix_i2s, ix_iadd, ix_iald, ix_iand, ix_iast, ix_icall, ix_icmp_eq, ix_icmp_ge, ix_icmp_gt, ix_icmp_le, ix_icmp_lt, ix_icmp_ne, ix_idiv, ix_if_eq, ix_if_ge, ix_if_gt, ix_if_le, ix_if_lt, ix_if_ne, ix_iinc, ix_iload, ix_imul, ix_ineg, ix_ior, ix_irem, ix_iret, ix_ishl, ix_ishr, ix_istore, ix_isub, ix_iushr, ix_ixor, ix_l2i, ix_ladd, ix_lald, ix_land, ix_last, ix_lcmp, ix_ldcS, ix_ldiv, ix_lload, ix_lmul, ix_lor, ix_lrem, ix_lret, ix_lshl, ix_lstore, ix_lsub, ix_lsw, ix_max, ix_min, ix_new, ix_newa, ix_nret, ix_oinit, ix_pop2L, ix_popI, ix_pushI, ix_pushL, ix_putI, ix_putJ, ix_putR, ix_putZ, ix_sbald, ix_sgetC, ix_sgetV, ix_slen, ix_strc, ix_tald, ix_tsw, ix_vcall, ix_vret, ix_zret, stL, stL2, kilL, popN, fq_sw, fq_lsw, List.map_cons, List.map_nil, List.getElem?_cons_zero, List.getElem?_cons_succ, Option.toList_some, Option.toList_none, List.cons_append, List.nil_append, List.length_cons, List.length_nil, List.sum_cons, List.sum_nil, cat_i, cat_l, cat_r, true_and, and_true, Nat.zero_add, Nat.add_zero, Nat.le_refl, Nat.zero_le, Nat.reduceAdd, Nat.reduceLeDiff, exists_eq_left', Option.some.injEq, not_true_eq_false, not_false_eq_true, false_implies, true_implies, implies_true, and_self, or_true, true_or, or_false, false_or]
      exact lp c 0 _ _ I J _ scr.rf (by omega) rfl
    · refine fq_enter [some (.ref X), some (.int p), none, none, none, none] (by decide +kernel) (Nat.le_of_ble_eq_true rfl) rfl (b_X11_bestTo_0 _ _ _ _ _ _ _ _ ?_)
      simp (disch := omega) only [B_X11_bestTo_0, B_X11_bestTo_21, B_X11_bestTo_71, B_X11_bestTo_96, sp_X11_isPerson, B_X11_isPerson_0, sp_X11_isWithin, sp_X11_refuse, B_X11_refuse_0, sp_X6_sharedWall, sp_X6_gain, sp_X11_answer, B_X11_answer_0, hs, hs.k, x1, x2, hc1, h1, bI_01, bI_01b, bI_0, bI_tr, bI_fl, nI_1, nI_add, nI_clamp, nI_pin, nI_neg, nI_nonneg, nI_leE, nI_ltE, nI_eqE, Nat.not_le, Nat.not_lt, fq_10, fq_01, fq_rr, ix_aald, ix_aast, ix_abs, ix_alen, ix_aload, ix_aret, ix_astore, ix_bald, ix_bast, ix_call, ix_cpyI, ix_cpyJ, ix_dead, ix_dup2, ix_dup2L, ix_dupI, ix_dupR, ix_dupx1, ix_getI, ix_getJ, ix_getR, ix_gfm, ix_gtab, ix_i2b, ix_i2c, ix_i2l, ix_i2s, ix_iadd, ix_iald, ix_iand, ix_iast, ix_icall, ix_icmp_eq, ix_icmp_ge, ix_icmp_gt, ix_icmp_le, ix_icmp_lt, ix_icmp_ne, ix_idiv, ix_if_eq, ix_if_ge, ix_if_gt, ix_if_le, ix_if_lt, ix_if_ne, ix_iinc, ix_iload, ix_imul, ix_ineg, ix_ior, ix_irem, ix_iret, ix_ishl, ix_ishr, ix_istore, ix_isub, ix_iushr, ix_ixor, ix_l2i, ix_ladd, ix_lald, ix_land, ix_last, ix_lcmp, ix_ldcS, ix_ldiv, ix_lload, ix_lmul, ix_lor, ix_lrem, ix_lret, ix_lshl, ix_lstore, ix_lsub, ix_lsw, ix_max, ix_min, ix_new, ix_newa, ix_nret, ix_oinit, ix_pop2L, ix_popI, ix_pushI, ix_pushL, ix_putI, ix_putJ, ix_putR, ix_putZ, ix_sbald, ix_sgetC, ix_sgetV, ix_slen, ix_strc, ix_tald, ix_tsw, ix_vcall, ix_vret, ix_zret, stL, stL2, kilL, popN, fq_sw, fq_lsw, List.map_cons, List.map_nil, List.getElem?_cons_zero, List.getElem?_cons_succ, Option.toList_some, Option.toList_none, List.cons_append, List.nil_append, List.length_cons, List.length_nil, List.sum_cons, List.sum_nil, cat_i, cat_l, cat_r, true_and, and_true, Nat.zero_add, Nat.add_zero, Nat.le_refl, Nat.zero_le, Nat.reduceAdd, Nat.reduceLeDiff, exists_eq_left', Option.some.injEq, not_true_eq_false, not_false_eq_true, false_implies, true_implies, implies_true, and_self, or_true, true_or, or_false, false_or]
      exact hQ1 h1
  · exact h.elim
