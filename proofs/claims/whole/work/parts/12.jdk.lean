theorem dJ0_coder_7d493_0 : decode cJ0_coder_7d493 0 = .ok (.getstatic 38, 3) := by decide +kernel
theorem dJ0_coder_7d493_3 : decode cJ0_coder_7d493 3 = .ok (.ifCond .eq 10, 3) := by decide +kernel
theorem dJ0_coder_7d493_6 : decode cJ0_coder_7d493 6 = .ok (.aload_n 0, 1) := by decide +kernel
theorem dJ0_coder_7d493_7 : decode cJ0_coder_7d493 7 = .ok (.getfield 15, 3) := by decide +kernel
theorem dJ0_coder_7d493_10 : decode cJ0_coder_7d493 10 = .ok (.goto 4, 3) := by decide +kernel
theorem dJ0_coder_7d493_13 : decode cJ0_coder_7d493 13 = .ok (.iconst 1, 1) := by decide +kernel
theorem dJ0_coder_7d493_14 : decode cJ0_coder_7d493 14 = .ok (.ireturn, 1) := by decide +kernel
abbrev M_J0_coder_7d493 : MT := (yJ0_coder_7d493, cJ0_coder_7d493, 1, (some .byte))
theorem cf_J0_coder_7d493 : fq_cf M_J0_coder_7d493 0 := ⟨(mg_1 (List.mem_of_getElem? (i := 4) rfl) rfl), (mg_1 (List.mem_of_getElem? (i := 64) rfl) rfl), ⟨by decide, by decide, by decide +kernel⟩, by decide⟩
def B_J0_coder_7d493_14 (G : GT) (mc ms : Nat) (Q : Post) : Cn := ix_nret .byte mc ms Q
theorem b_J0_coder_7d493_14 {l : Launch} {G : GT} {D mc ms : Nat} {Q : Post} : Imp l G M_J0_coder_7d493 (D + 0) mc ms Q (B_J0_coder_7d493_14 G mc ms Q) 14 := sx_nret dJ0_coder_7d493_14 rfl
def B_J0_coder_7d493_0 (G : GT) (mc ms : Nat) (Q : Post) : Cn := ix_pushI 1 (ix_if_eq (ix_pushI 1 ((B_J0_coder_7d493_14 G mc ms Q))) (ix_aload 0 (ix_sgetC G ((B_J0_coder_7d493_14 G mc ms Q)))))
theorem b_J0_coder_7d493_0 {l : Launch} {G : GT} {D mc ms : Nat} {Q : Post} : Imp l G M_J0_coder_7d493 (D + 0) mc ms Q (B_J0_coder_7d493_0 G mc ms Q) 0 := sx_gcs dJ0_coder_7d493_0 (mg_1 (List.mem_of_getElem? (i := 65) rfl) rfl) (sx_if_eq 13 dJ0_coder_7d493_3 (by decide) (sx_iconst dJ0_coder_7d493_13 rfl (b_J0_coder_7d493_14)) (sx_aload_n dJ0_coder_7d493_6 rfl (sx_sgetC dJ0_coder_7d493_7 (mg_9 (List.mem_of_getElem? (i := 194) rfl) rfl) (sx_goto 14 dJ0_coder_7d493_10 (by decide) (b_J0_coder_7d493_14)))))
def sp_J0_coder_7d493 (G : GT) : Sp := fun as S I J z Q => match as with
  | [.ref a0] => B_J0_coder_7d493_0 G 0 0 Q [some (.ref a0)] [] S I J z 0 0
  | _ => False
theorem c_J0_coder_7d493 {l : Launch} {G : GT} {D : Nat} : ∀ as S I J z Q, sp_J0_coder_7d493 G as S I J z Q → fqCall l G M_J0_coder_7d493 (D + 0) 0 0 as S I J z Q := by
  intro as S I J z Q h
  unfold sp_J0_coder_7d493 at h
  split at h
  · exact fq_enter _ (by decide +kernel) (Nat.le_of_ble_eq_true rfl) rfl (b_J0_coder_7d493_0 _ _ _ _ _ _ _ _ h)
  · exact h.elim
theorem dJ0_isLatin1_aae02_0 : decode cJ0_isLatin1_aae02 0 = .ok (.getstatic 38, 3) := by decide +kernel
theorem dJ0_isLatin1_aae02_3 : decode cJ0_isLatin1_aae02 3 = .ok (.ifCond .eq 14, 3) := by decide +kernel
theorem dJ0_isLatin1_aae02_6 : decode cJ0_isLatin1_aae02 6 = .ok (.aload_n 0, 1) := by decide +kernel
theorem dJ0_isLatin1_aae02_7 : decode cJ0_isLatin1_aae02 7 = .ok (.getfield 15, 3) := by decide +kernel
theorem dJ0_isLatin1_aae02_10 : decode cJ0_isLatin1_aae02 10 = .ok (.ifCond .ne 7, 3) := by decide +kernel
theorem dJ0_isLatin1_aae02_13 : decode cJ0_isLatin1_aae02 13 = .ok (.iconst 1, 1) := by decide +kernel
theorem dJ0_isLatin1_aae02_14 : decode cJ0_isLatin1_aae02 14 = .ok (.goto 4, 3) := by decide +kernel
theorem dJ0_isLatin1_aae02_17 : decode cJ0_isLatin1_aae02 17 = .ok (.iconst 0, 1) := by decide +kernel
theorem dJ0_isLatin1_aae02_18 : decode cJ0_isLatin1_aae02 18 = .ok (.ireturn, 1) := by decide +kernel
abbrev M_J0_isLatin1_aae02 : MT := (yJ0_isLatin1_aae02, cJ0_isLatin1_aae02, 1, (some .boolean))
theorem cf_J0_isLatin1_aae02 : fq_cf M_J0_isLatin1_aae02 0 := ⟨(mg_1 (List.mem_of_getElem? (i := 4) rfl) rfl), (mg_1 (List.mem_of_getElem? (i := 74) rfl) rfl), ⟨by decide, by decide, by decide +kernel⟩, by decide⟩
def B_J0_isLatin1_aae02_18 (G : GT) (mc ms : Nat) (Q : Post) : Cn := ix_zret mc ms Q
theorem b_J0_isLatin1_aae02_18 {l : Launch} {G : GT} {D mc ms : Nat} {Q : Post} : Imp l G M_J0_isLatin1_aae02 (D + 0) mc ms Q (B_J0_isLatin1_aae02_18 G mc ms Q) 18 := sx_zret dJ0_isLatin1_aae02_18 rfl
def B_J0_isLatin1_aae02_17 (G : GT) (mc ms : Nat) (Q : Post) : Cn := ix_pushI 0 ((B_J0_isLatin1_aae02_18 G mc ms Q))
theorem b_J0_isLatin1_aae02_17 {l : Launch} {G : GT} {D mc ms : Nat} {Q : Post} : Imp l G M_J0_isLatin1_aae02 (D + 0) mc ms Q (B_J0_isLatin1_aae02_17 G mc ms Q) 17 := sx_iconst dJ0_isLatin1_aae02_17 rfl (b_J0_isLatin1_aae02_18)
def B_J0_isLatin1_aae02_0 (G : GT) (mc ms : Nat) (Q : Post) : Cn := ix_pushI 1 (ix_if_eq ((B_J0_isLatin1_aae02_17 G mc ms Q)) (ix_aload 0 (ix_sgetC G (ix_if_ne ((B_J0_isLatin1_aae02_17 G mc ms Q)) (ix_pushI 1 ((B_J0_isLatin1_aae02_18 G mc ms Q)))))))
theorem b_J0_isLatin1_aae02_0 {l : Launch} {G : GT} {D mc ms : Nat} {Q : Post} : Imp l G M_J0_isLatin1_aae02 (D + 0) mc ms Q (B_J0_isLatin1_aae02_0 G mc ms Q) 0 := sx_gcs dJ0_isLatin1_aae02_0 (mg_1 (List.mem_of_getElem? (i := 65) rfl) rfl) (sx_if_eq 17 dJ0_isLatin1_aae02_3 (by decide) (b_J0_isLatin1_aae02_17) (sx_aload_n dJ0_isLatin1_aae02_6 rfl (sx_sgetC dJ0_isLatin1_aae02_7 (mg_9 (List.mem_of_getElem? (i := 194) rfl) rfl) (sx_if_ne 17 dJ0_isLatin1_aae02_10 (by decide) (b_J0_isLatin1_aae02_17) (sx_iconst dJ0_isLatin1_aae02_13 rfl (sx_goto 18 dJ0_isLatin1_aae02_14 (by decide) (b_J0_isLatin1_aae02_18)))))))
def sp_J0_isLatin1_aae02 (G : GT) : Sp := fun as S I J z Q => match as with
  | [.ref a0] => B_J0_isLatin1_aae02_0 G 0 0 Q [some (.ref a0)] [] S I J z 0 0
  | _ => False
theorem c_J0_isLatin1_aae02 {l : Launch} {G : GT} {D : Nat} : ∀ as S I J z Q, sp_J0_isLatin1_aae02 G as S I J z Q → fqCall l G M_J0_isLatin1_aae02 (D + 0) 0 0 as S I J z Q := by
  intro as S I J z Q h
  unfold sp_J0_isLatin1_aae02 at h
  split at h
  · exact fq_enter _ (by decide +kernel) (Nat.le_of_ble_eq_true rfl) rfl (b_J0_isLatin1_aae02_0 _ _ _ _ _ _ _ _ h)
  · exact h.elim
theorem dJ3_checkIndex_8e157_0 : decode cJ3_checkIndex_8e157 0 = .ok (.iload_n 0, 1) := by decide +kernel
theorem dJ3_checkIndex_8e157_1 : decode cJ3_checkIndex_8e157 1 = .ok (.ifCond .lt 8, 3) := by decide +kernel
theorem dJ3_checkIndex_8e157_4 : decode cJ3_checkIndex_8e157 4 = .ok (.iload_n 0, 1) := by decide +kernel
theorem dJ3_checkIndex_8e157_5 : decode cJ3_checkIndex_8e157 5 = .ok (.iload_n 1, 1) := by decide +kernel
theorem dJ3_checkIndex_8e157_6 : decode cJ3_checkIndex_8e157 6 = .ok (.if_icmp .lt 10, 3) := by decide +kernel
theorem dJ3_checkIndex_8e157_9 : decode cJ3_checkIndex_8e157 9 = .ok (.aload_n 2, 1) := by decide +kernel
theorem dJ3_checkIndex_8e157_10 : decode cJ3_checkIndex_8e157 10 = .ok (.iload_n 0, 1) := by decide +kernel
theorem dJ3_checkIndex_8e157_11 : decode cJ3_checkIndex_8e157 11 = .ok (.iload_n 1, 1) := by decide +kernel
theorem dJ3_checkIndex_8e157_12 : decode cJ3_checkIndex_8e157 12 = .ok (.invokestatic 95, 3) := by decide +kernel
theorem dJ3_checkIndex_8e157_15 : decode cJ3_checkIndex_8e157 15 = .ok (.athrow, 1) := by decide +kernel
theorem dJ3_checkIndex_8e157_16 : decode cJ3_checkIndex_8e157 16 = .ok (.iload_n 0, 1) := by decide +kernel
theorem dJ3_checkIndex_8e157_17 : decode cJ3_checkIndex_8e157 17 = .ok (.ireturn, 1) := by decide +kernel
abbrev M_J3_checkIndex_8e157 : MT := (yJ3_checkIndex_8e157, cJ3_checkIndex_8e157, 3, (some .int))
theorem cf_J3_checkIndex_8e157 : fq_cf M_J3_checkIndex_8e157 3 := ⟨(mg_1 (List.mem_of_getElem? (i := 6) rfl) rfl), (mg_1 (List.mem_of_getElem? (i := 85) rfl) rfl), ⟨by decide, by decide, by decide +kernel⟩, by decide⟩
def B_J3_checkIndex_8e157_9 (G : GT) (mc ms : Nat) (Q : Post) : Cn := ix_dead
theorem b_J3_checkIndex_8e157_9 {l : Launch} {G : GT} {D mc ms : Nat} {Q : Post} : Imp l G M_J3_checkIndex_8e157 (D + 0) mc ms Q (B_J3_checkIndex_8e157_9 G mc ms Q) 9 := sx_dead
def B_J3_checkIndex_8e157_0 (G : GT) (mc ms : Nat) (Q : Post) : Cn := ix_iload 0 (ix_if_lt ((B_J3_checkIndex_8e157_9 G mc ms Q)) (ix_iload 0 (ix_iload 1 (ix_icmp_lt (ix_iload 0 (ix_iret mc ms Q)) ((B_J3_checkIndex_8e157_9 G mc ms Q))))))
theorem b_J3_checkIndex_8e157_0 {l : Launch} {G : GT} {D mc ms : Nat} {Q : Post} : Imp l G M_J3_checkIndex_8e157 (D + 0) mc ms Q (B_J3_checkIndex_8e157_0 G mc ms Q) 0 := sx_iload_n dJ3_checkIndex_8e157_0 rfl (sx_if_lt 9 dJ3_checkIndex_8e157_1 (by decide) (b_J3_checkIndex_8e157_9) (sx_iload_n dJ3_checkIndex_8e157_4 rfl (sx_iload_n dJ3_checkIndex_8e157_5 rfl (sx_icmp_lt 16 dJ3_checkIndex_8e157_6 (by decide) (sx_iload_n dJ3_checkIndex_8e157_16 rfl (sx_iret dJ3_checkIndex_8e157_17 rfl)) (b_J3_checkIndex_8e157_9)))))
def sp_J3_checkIndex_8e157 (G : GT) : Sp := fun as S I J z Q => match as with
  | [.int i, .int x, .null] => 0 ≤ i ∧ i < x ∧ Q (some (.int i)) S I J z
  | [.int i, .int x, .ref _] => 0 ≤ i ∧ i < x ∧ Q (some (.int i)) S I J z
  | _ => False
theorem c_J3_checkIndex_8e157 {l : Launch} {G : GT} {D : Nat} : ∀ as S I J z Q, sp_J3_checkIndex_8e157 G as S I J z Q → fqCall l G M_J3_checkIndex_8e157 (D + 0) 0 0 as S I J z Q := by
  intro as S I J z Q h
  have key : ∀ (i x : Int32) (v : Value), 0 ≤ i → i < x → Q (some (.int i)) S I J z → B_J3_checkIndex_8e157_0 G 0 0 Q [some (.int i), some (.int x), some v] [] S I J z 0 0 := by
    intro i x v h1 h2 h3
    simp only [B_J3_checkIndex_8e157_0, B_J3_checkIndex_8e157_9, ix_aald, ix_aast, ix_abs, ix_alen, ix_aload, ix_aret, ix_astore, ix_bald, ix_bast, ix_call, ix_cpyI, ix_cpyJ, ix_dead, ix_dup2, ix_dup2L, ix_dupI, ix_dupR, ix_dupx1, ix_getI, ix_getJ, ix_getR, ix_gfm, ix_gtab, ix_i2b, ix_i2c, ix_i2l, ix_i2s, ix_iadd, ix_iald, ix_iand, ix_iast, ix_icall, ix_icmp_eq, ix_icmp_ge, ix_icmp_gt, ix_icmp_le, ix_icmp_lt, ix_icmp_ne, ix_idiv, ix_if_eq, ix_if_ge, ix_if_gt, ix_if_le, ix_if_lt, ix_if_ne, ix_iinc, ix_iload, ix_imul, ix_ineg, ix_ior, ix_irem, ix_iret, ix_ishl, ix_ishr, ix_istore, ix_isub, ix_iushr, ix_ixor, ix_l2i, ix_ladd, ix_lald, ix_land, ix_last, ix_lcmp, ix_ldcS, ix_ldiv, ix_lload, ix_lmul, ix_lor, ix_lrem, ix_lret, ix_lshl, ix_lstore, ix_lsub, ix_lsw, ix_max, ix_min, ix_new, ix_newa, ix_nret, ix_oinit, ix_pop2L, ix_popI, ix_pushI, ix_pushL, ix_putI, ix_putJ, ix_putR, ix_putZ, ix_sbald, ix_sgetC, ix_sgetV, ix_slen, ix_strc, ix_tald, ix_tsw, ix_vcall, ix_vret, ix_zret, stL, stL2, kilL, popN, fq_sw, fq_lsw, List.map_cons, List.map_nil, List.getElem?_cons_zero, List.getElem?_cons_succ, Option.toList_some, Option.toList_none, List.cons_append, List.nil_append, List.length_cons, List.length_nil, List.sum_cons, List.sum_nil, cat_i, cat_l, cat_r, true_and, and_true, Nat.zero_add, Nat.add_zero, Nat.le_refl, Nat.zero_le, Nat.reduceAdd, Nat.reduceLeDiff, exists_eq_left', Option.some.injEq, not_true_eq_false, not_false_eq_true, false_implies, true_implies, implies_true, and_self, or_true, true_or, or_false, false_or]
    exact ⟨fun q => absurd q (Int32.not_lt.mpr h1), fun _ => ⟨fun _ => h3, fun q => absurd h2 q⟩⟩
  unfold sp_J3_checkIndex_8e157 at h
  split at h
  · exact fq_enter _ (by decide +kernel) (Nat.le_of_ble_eq_true rfl) rfl (b_J3_checkIndex_8e157_0 _ _ _ _ _ _ _ _ (key _ _ _ h.1 h.2.1 h.2.2))
  · exact fq_enter _ (by decide +kernel) (Nat.le_of_ble_eq_true rfl) rfl (b_J3_checkIndex_8e157_0 _ _ _ _ _ _ _ _ (key _ _ _ h.1 h.2.1 h.2.2))
  · exact h.elim
theorem dJ0_checkIndex_df160_0 : decode cJ0_checkIndex_df160 0 = .ok (.iload_n 0, 1) := by decide +kernel
theorem dJ0_checkIndex_df160_1 : decode cJ0_checkIndex_df160 1 = .ok (.iload_n 1, 1) := by decide +kernel
theorem dJ0_checkIndex_df160_2 : decode cJ0_checkIndex_df160 2 = .ok (.getstatic 1053, 3) := by decide +kernel
theorem dJ0_checkIndex_df160_5 : decode cJ0_checkIndex_df160 5 = .ok (.invokestatic 1059, 3) := by decide +kernel
theorem dJ0_checkIndex_df160_8 : decode cJ0_checkIndex_df160 8 = .ok (.pop, 1) := by decide +kernel
theorem dJ0_checkIndex_df160_9 : decode cJ0_checkIndex_df160 9 = .ok (.return_, 1) := by decide +kernel
abbrev M_J0_checkIndex_df160 : MT := (yJ0_checkIndex_df160, cJ0_checkIndex_df160, 2, none)
theorem cf_J0_checkIndex_df160 : fq_cf M_J0_checkIndex_df160 2 := ⟨(mg_1 (List.mem_of_getElem? (i := 4) rfl) rfl), (mg_1 (List.mem_of_getElem? (i := 80) rfl) rfl), ⟨by decide, by decide, by decide +kernel⟩, by decide⟩
def B_J0_checkIndex_df160_0 (G : GT) (mc ms : Nat) (Q : Post) : Cn := ix_iload 0 (ix_iload 1 (ix_gfm (ix_call 3 0 0 mc ms (sp_J3_checkIndex_8e157 G) (ix_popI (ix_vret mc ms Q)))))
theorem b_J0_checkIndex_df160_0 {l : Launch} {G : GT} {D mc ms : Nat} {Q : Post} : Imp l G M_J0_checkIndex_df160 (D + 1) mc ms Q (B_J0_checkIndex_df160_0 G mc ms Q) 0 := sx_iload_n dJ0_checkIndex_df160_0 rfl (sx_iload_n dJ0_checkIndex_df160_1 rfl (sx_gfm dJ0_checkIndex_df160_2 (mg_1 (List.mem_of_getElem? (i := 81) rfl) rfl) (sx_scall dJ0_checkIndex_df160_5 cf_J3_checkIndex_8e157 (mg_1 (List.mem_of_getElem? (i := 83) rfl) rfl) (mg_1 (List.mem_of_getElem? (i := 84) rfl) rfl) c_J3_checkIndex_8e157 (sx_popI dJ0_checkIndex_df160_8 (sx_vret dJ0_checkIndex_df160_9 rfl)))))
def sp_J0_checkIndex_df160 (G : GT) : Sp := fun as S I J z Q => match as with
  | [.int a0, .int a1] => B_J0_checkIndex_df160_0 G 0 0 Q [some (.int a0), some (.int a1)] [] S I J z 0 0
  | _ => False
theorem c_J0_checkIndex_df160 {l : Launch} {G : GT} {D : Nat} : ∀ as S I J z Q, sp_J0_checkIndex_df160 G as S I J z Q → fqCall l G M_J0_checkIndex_df160 (D + 1) 0 0 as S I J z Q := by
  intro as S I J z Q h
  unfold sp_J0_checkIndex_df160 at h
  split at h
  · exact fq_enter _ (by decide +kernel) (Nat.le_of_ble_eq_true rfl) rfl (b_J0_checkIndex_df160_0 _ _ _ _ _ _ _ _ h)
  · exact h.elim
theorem dJ1_charAt_3b067_0 : decode cJ1_charAt_3b067 0 = .ok (.iload_n 1, 1) := by decide +kernel
theorem dJ1_charAt_3b067_1 : decode cJ1_charAt_3b067 1 = .ok (.aload_n 0, 1) := by decide +kernel
theorem dJ1_charAt_3b067_2 : decode cJ1_charAt_3b067 2 = .ok (.arraylength, 1) := by decide +kernel
theorem dJ1_charAt_3b067_3 : decode cJ1_charAt_3b067 3 = .ok (.invokestatic 9, 3) := by decide +kernel
theorem dJ1_charAt_3b067_6 : decode cJ1_charAt_3b067 6 = .ok (.aload_n 0, 1) := by decide +kernel
theorem dJ1_charAt_3b067_7 : decode cJ1_charAt_3b067 7 = .ok (.iload_n 1, 1) := by decide +kernel
theorem dJ1_charAt_3b067_8 : decode cJ1_charAt_3b067 8 = .ok (.baload, 1) := by decide +kernel
theorem dJ1_charAt_3b067_9 : decode cJ1_charAt_3b067 9 = .ok (.sipush 255, 3) := by decide +kernel
theorem dJ1_charAt_3b067_12 : decode cJ1_charAt_3b067 12 = .ok (.iand, 1) := by decide +kernel
theorem dJ1_charAt_3b067_13 : decode cJ1_charAt_3b067 13 = .ok (.i2c, 1) := by decide +kernel
theorem dJ1_charAt_3b067_14 : decode cJ1_charAt_3b067 14 = .ok (.ireturn, 1) := by decide +kernel
abbrev M_J1_charAt_3b067 : MT := (yJ1_charAt_3b067, cJ1_charAt_3b067, 2, (some .char))
theorem cf_J1_charAt_3b067 : fq_cf M_J1_charAt_3b067 2 := ⟨(mg_1 (List.mem_of_getElem? (i := 5) rfl) rfl), (mg_1 (List.mem_of_getElem? (i := 77) rfl) rfl), ⟨by decide, by decide, by decide +kernel⟩, by decide⟩
def B_J1_charAt_3b067_0 (G : GT) (mc ms : Nat) (Q : Post) : Cn := ix_iload 1 (ix_aload 0 (ix_slen G (ix_call 2 0 0 mc ms (sp_J0_checkIndex_df160 G) (ix_aload 0 (ix_iload 1 (ix_sbald G (ix_pushI 255 (ix_iand (ix_i2c (ix_nret .char mc ms Q))))))))))
theorem b_J1_charAt_3b067_0 {l : Launch} {G : GT} {D mc ms : Nat} {Q : Post} : Imp l G M_J1_charAt_3b067 (D + 2) mc ms Q (B_J1_charAt_3b067_0 G mc ms Q) 0 := sx_iload_n dJ1_charAt_3b067_0 rfl (sx_aload_n dJ1_charAt_3b067_1 rfl (sx_slen dJ1_charAt_3b067_2 (sx_scall dJ1_charAt_3b067_3 cf_J0_checkIndex_df160 (mg_1 (List.mem_of_getElem? (i := 78) rfl) rfl) (mg_1 (List.mem_of_getElem? (i := 79) rfl) rfl) c_J0_checkIndex_df160 (sx_aload_n dJ1_charAt_3b067_6 rfl (sx_iload_n dJ1_charAt_3b067_7 rfl (sx_sbald dJ1_charAt_3b067_8 (sx_sipush dJ1_charAt_3b067_9 rfl (sx_iand dJ1_charAt_3b067_12 (sx_i2c dJ1_charAt_3b067_13 (sx_nret dJ1_charAt_3b067_14 rfl))))))))))
def sp_J1_charAt_3b067 (G : GT) : Sp := fun as S I J z Q => match as with
  | [.ref a0, .int a1] => B_J1_charAt_3b067_0 G 0 0 Q [some (.ref a0), some (.int a1)] [] S I J z 0 0
  | _ => False
theorem c_J1_charAt_3b067 {l : Launch} {G : GT} {D : Nat} : ∀ as S I J z Q, sp_J1_charAt_3b067 G as S I J z Q → fqCall l G M_J1_charAt_3b067 (D + 2) 0 0 as S I J z Q := by
  intro as S I J z Q h
  unfold sp_J1_charAt_3b067 at h
  split at h
  · exact fq_enter _ (by decide +kernel) (Nat.le_of_ble_eq_true rfl) rfl (b_J1_charAt_3b067_0 _ _ _ _ _ _ _ _ h)
  · exact h.elim
theorem dJ0_length_8abf5_0 : decode cJ0_length_8abf5 0 = .ok (.aload_n 0, 1) := by decide +kernel
theorem dJ0_length_8abf5_1 : decode cJ0_length_8abf5 1 = .ok (.getfield 9, 3) := by decide +kernel
theorem dJ0_length_8abf5_4 : decode cJ0_length_8abf5 4 = .ok (.arraylength, 1) := by decide +kernel
theorem dJ0_length_8abf5_5 : decode cJ0_length_8abf5 5 = .ok (.aload_n 0, 1) := by decide +kernel
theorem dJ0_length_8abf5_6 : decode cJ0_length_8abf5 6 = .ok (.invokevirtual 335, 3) := by decide +kernel
theorem dJ0_length_8abf5_9 : decode cJ0_length_8abf5 9 = .ok (.ishr, 1) := by decide +kernel
theorem dJ0_length_8abf5_10 : decode cJ0_length_8abf5 10 = .ok (.ireturn, 1) := by decide +kernel
abbrev M_J0_length_8abf5 : MT := (yJ0_length_8abf5, cJ0_length_8abf5, 1, (some .int))
theorem cf_J0_length_8abf5 : fq_cf M_J0_length_8abf5 0 := ⟨(mg_1 (List.mem_of_getElem? (i := 4) rfl) rfl), (mg_1 (List.mem_of_getElem? (i := 60) rfl) rfl), ⟨by decide, by decide, by decide +kernel⟩, by decide⟩
def B_J0_length_8abf5_0 (G : GT) (mc ms : Nat) (Q : Post) : Cn := ix_aload 0 (ix_sgetV G (ix_slen G (ix_aload 0 (ix_strc G 1 mc ms (sp_J0_coder_7d493 G) (ix_ishr (ix_iret mc ms Q))))))
theorem b_J0_length_8abf5_0 {l : Launch} {G : GT} {D mc ms : Nat} {Q : Post} : Imp l G M_J0_length_8abf5 (D + 1) mc ms Q (B_J0_length_8abf5_0 G mc ms Q) 0 := sx_aload_n dJ0_length_8abf5_0 rfl (sx_sgetV dJ0_length_8abf5_1 (mg_9 (List.mem_of_getElem? (i := 193) rfl) rfl) (sx_slen dJ0_length_8abf5_4 (sx_aload_n dJ0_length_8abf5_5 rfl (sx_strc dJ0_length_8abf5_6 cf_J0_coder_7d493 (mg_1 (List.mem_of_getElem? (i := 61) rfl) rfl) (mg_1 (List.mem_of_getElem? (i := 62) rfl) rfl) (mg_1 (List.mem_of_getElem? (i := 63) rfl) rfl) c_J0_coder_7d493 (sx_ishr dJ0_length_8abf5_9 (sx_iret dJ0_length_8abf5_10 rfl))))))
theorem dJ0_charAt_5068e_0 : decode cJ0_charAt_5068e 0 = .ok (.aload_n 0, 1) := by decide +kernel
theorem dJ0_charAt_5068e_1 : decode cJ0_charAt_5068e 1 = .ok (.invokevirtual 492, 3) := by decide +kernel
theorem dJ0_charAt_5068e_4 : decode cJ0_charAt_5068e 4 = .ok (.ifCond .eq 12, 3) := by decide +kernel
theorem dJ0_charAt_5068e_7 : decode cJ0_charAt_5068e 7 = .ok (.aload_n 0, 1) := by decide +kernel
theorem dJ0_charAt_5068e_8 : decode cJ0_charAt_5068e 8 = .ok (.getfield 9, 3) := by decide +kernel
theorem dJ0_charAt_5068e_11 : decode cJ0_charAt_5068e 11 = .ok (.iload_n 1, 1) := by decide +kernel
theorem dJ0_charAt_5068e_12 : decode cJ0_charAt_5068e 12 = .ok (.invokestatic 495, 3) := by decide +kernel
theorem dJ0_charAt_5068e_15 : decode cJ0_charAt_5068e 15 = .ok (.ireturn, 1) := by decide +kernel
theorem dJ0_charAt_5068e_16 : decode cJ0_charAt_5068e 16 = .ok (.aload_n 0, 1) := by decide +kernel
theorem dJ0_charAt_5068e_17 : decode cJ0_charAt_5068e 17 = .ok (.getfield 9, 3) := by decide +kernel
theorem dJ0_charAt_5068e_20 : decode cJ0_charAt_5068e 20 = .ok (.iload_n 1, 1) := by decide +kernel
theorem dJ0_charAt_5068e_21 : decode cJ0_charAt_5068e 21 = .ok (.invokestatic 498, 3) := by decide +kernel
theorem dJ0_charAt_5068e_24 : decode cJ0_charAt_5068e 24 = .ok (.ireturn, 1) := by decide +kernel
abbrev M_J0_charAt_5068e : MT := (yJ0_charAt_5068e, cJ0_charAt_5068e, 2, (some .char))
theorem cf_J0_charAt_5068e : fq_cf M_J0_charAt_5068e 1 := ⟨(mg_1 (List.mem_of_getElem? (i := 4) rfl) rfl), (mg_1 (List.mem_of_getElem? (i := 70) rfl) rfl), ⟨by decide, by decide, by decide +kernel⟩, by decide⟩
def B_J0_charAt_5068e_0 (G : GT) (mc ms : Nat) (Q : Post) : Cn := ix_aload 0 (ix_strc G 1 mc ms (sp_J0_isLatin1_aae02 G) (ix_if_eq (ix_dead) (ix_aload 0 (ix_sgetV G (ix_iload 1 (ix_call 2 0 0 mc ms (sp_J1_charAt_3b067 G) (ix_nret .char mc ms Q)))))))
theorem b_J0_charAt_5068e_0 {l : Launch} {G : GT} {D mc ms : Nat} {Q : Post} : Imp l G M_J0_charAt_5068e (D + 3) mc ms Q (B_J0_charAt_5068e_0 G mc ms Q) 0 := sx_aload_n dJ0_charAt_5068e_0 rfl (sx_strc dJ0_charAt_5068e_1 cf_J0_isLatin1_aae02 (mg_1 (List.mem_of_getElem? (i := 71) rfl) rfl) (mg_1 (List.mem_of_getElem? (i := 72) rfl) rfl) (mg_1 (List.mem_of_getElem? (i := 73) rfl) rfl) c_J0_isLatin1_aae02 (sx_if_eq 16 dJ0_charAt_5068e_4 (by decide) (sx_dead) (sx_aload_n dJ0_charAt_5068e_7 rfl (sx_sgetV dJ0_charAt_5068e_8 (mg_9 (List.mem_of_getElem? (i := 193) rfl) rfl) (sx_iload_n dJ0_charAt_5068e_11 rfl (sx_scall dJ0_charAt_5068e_12 cf_J1_charAt_3b067 (mg_1 (List.mem_of_getElem? (i := 75) rfl) rfl) (mg_1 (List.mem_of_getElem? (i := 76) rfl) rfl) c_J1_charAt_3b067 (sx_nret dJ0_charAt_5068e_15 rfl)))))))
theorem dJ6_bitCount_0f7a4_0 : decode cJ6_bitCount_0f7a4 0 = .ok (.iload_n 0, 1) := by decide +kernel
theorem dJ6_bitCount_0f7a4_1 : decode cJ6_bitCount_0f7a4 1 = .ok (.iload_n 0, 1) := by decide +kernel
theorem dJ6_bitCount_0f7a4_2 : decode cJ6_bitCount_0f7a4 2 = .ok (.iconst 1, 1) := by decide +kernel
theorem dJ6_bitCount_0f7a4_3 : decode cJ6_bitCount_0f7a4 3 = .ok (.iushr, 1) := by decide +kernel
theorem dJ6_bitCount_0f7a4_4 : decode cJ6_bitCount_0f7a4 4 = .ok (.ldc_w 265, 3) := by decide +kernel
theorem dJ6_bitCount_0f7a4_7 : decode cJ6_bitCount_0f7a4 7 = .ok (.iand, 1) := by decide +kernel
theorem dJ6_bitCount_0f7a4_8 : decode cJ6_bitCount_0f7a4 8 = .ok (.isub, 1) := by decide +kernel
theorem dJ6_bitCount_0f7a4_9 : decode cJ6_bitCount_0f7a4 9 = .ok (.istore_n 0, 1) := by decide +kernel
theorem dJ6_bitCount_0f7a4_10 : decode cJ6_bitCount_0f7a4 10 = .ok (.iload_n 0, 1) := by decide +kernel
theorem dJ6_bitCount_0f7a4_11 : decode cJ6_bitCount_0f7a4 11 = .ok (.ldc_w 266, 3) := by decide +kernel
theorem dJ6_bitCount_0f7a4_14 : decode cJ6_bitCount_0f7a4 14 = .ok (.iand, 1) := by decide +kernel
theorem dJ6_bitCount_0f7a4_15 : decode cJ6_bitCount_0f7a4 15 = .ok (.iload_n 0, 1) := by decide +kernel
theorem dJ6_bitCount_0f7a4_16 : decode cJ6_bitCount_0f7a4 16 = .ok (.iconst 2, 1) := by decide +kernel
theorem dJ6_bitCount_0f7a4_17 : decode cJ6_bitCount_0f7a4 17 = .ok (.iushr, 1) := by decide +kernel
theorem dJ6_bitCount_0f7a4_18 : decode cJ6_bitCount_0f7a4 18 = .ok (.ldc_w 266, 3) := by decide +kernel
theorem dJ6_bitCount_0f7a4_21 : decode cJ6_bitCount_0f7a4 21 = .ok (.iand, 1) := by decide +kernel
theorem dJ6_bitCount_0f7a4_22 : decode cJ6_bitCount_0f7a4 22 = .ok (.iadd, 1) := by decide +kernel
theorem dJ6_bitCount_0f7a4_23 : decode cJ6_bitCount_0f7a4 23 = .ok (.istore_n 0, 1) := by decide +kernel
theorem dJ6_bitCount_0f7a4_24 : decode cJ6_bitCount_0f7a4 24 = .ok (.iload_n 0, 1) := by decide +kernel
theorem dJ6_bitCount_0f7a4_25 : decode cJ6_bitCount_0f7a4 25 = .ok (.iload_n 0, 1) := by decide +kernel
theorem dJ6_bitCount_0f7a4_26 : decode cJ6_bitCount_0f7a4 26 = .ok (.iconst 4, 1) := by decide +kernel
theorem dJ6_bitCount_0f7a4_27 : decode cJ6_bitCount_0f7a4 27 = .ok (.iushr, 1) := by decide +kernel
theorem dJ6_bitCount_0f7a4_28 : decode cJ6_bitCount_0f7a4 28 = .ok (.iadd, 1) := by decide +kernel
theorem dJ6_bitCount_0f7a4_29 : decode cJ6_bitCount_0f7a4 29 = .ok (.ldc_w 267, 3) := by decide +kernel
theorem dJ6_bitCount_0f7a4_32 : decode cJ6_bitCount_0f7a4 32 = .ok (.iand, 1) := by decide +kernel
theorem dJ6_bitCount_0f7a4_33 : decode cJ6_bitCount_0f7a4 33 = .ok (.istore_n 0, 1) := by decide +kernel
theorem dJ6_bitCount_0f7a4_34 : decode cJ6_bitCount_0f7a4 34 = .ok (.iload_n 0, 1) := by decide +kernel
theorem dJ6_bitCount_0f7a4_35 : decode cJ6_bitCount_0f7a4 35 = .ok (.iload_n 0, 1) := by decide +kernel
theorem dJ6_bitCount_0f7a4_36 : decode cJ6_bitCount_0f7a4 36 = .ok (.bipush 8, 2) := by decide +kernel
theorem dJ6_bitCount_0f7a4_38 : decode cJ6_bitCount_0f7a4 38 = .ok (.iushr, 1) := by decide +kernel
theorem dJ6_bitCount_0f7a4_39 : decode cJ6_bitCount_0f7a4 39 = .ok (.iadd, 1) := by decide +kernel
theorem dJ6_bitCount_0f7a4_40 : decode cJ6_bitCount_0f7a4 40 = .ok (.istore_n 0, 1) := by decide +kernel
theorem dJ6_bitCount_0f7a4_41 : decode cJ6_bitCount_0f7a4 41 = .ok (.iload_n 0, 1) := by decide +kernel
theorem dJ6_bitCount_0f7a4_42 : decode cJ6_bitCount_0f7a4 42 = .ok (.iload_n 0, 1) := by decide +kernel
theorem dJ6_bitCount_0f7a4_43 : decode cJ6_bitCount_0f7a4 43 = .ok (.bipush 16, 2) := by decide +kernel
theorem dJ6_bitCount_0f7a4_45 : decode cJ6_bitCount_0f7a4 45 = .ok (.iushr, 1) := by decide +kernel
theorem dJ6_bitCount_0f7a4_46 : decode cJ6_bitCount_0f7a4 46 = .ok (.iadd, 1) := by decide +kernel
theorem dJ6_bitCount_0f7a4_47 : decode cJ6_bitCount_0f7a4 47 = .ok (.istore_n 0, 1) := by decide +kernel
theorem dJ6_bitCount_0f7a4_48 : decode cJ6_bitCount_0f7a4 48 = .ok (.iload_n 0, 1) := by decide +kernel
theorem dJ6_bitCount_0f7a4_49 : decode cJ6_bitCount_0f7a4 49 = .ok (.bipush 63, 2) := by decide +kernel
theorem dJ6_bitCount_0f7a4_51 : decode cJ6_bitCount_0f7a4 51 = .ok (.iand, 1) := by decide +kernel
theorem dJ6_bitCount_0f7a4_52 : decode cJ6_bitCount_0f7a4 52 = .ok (.ireturn, 1) := by decide +kernel
abbrev M_J6_bitCount_0f7a4 : MT := (yJ6_bitCount_0f7a4, cJ6_bitCount_0f7a4, 1, (some .int))
theorem cf_J6_bitCount_0f7a4 : fq_cf M_J6_bitCount_0f7a4 1 := ⟨(mg_1 (List.mem_of_getElem? (i := 20) rfl) rfl), (mg_5 (List.mem_of_getElem? (i := 231) rfl) rfl), ⟨by decide, by decide, by decide +kernel⟩, by decide⟩
def B_J6_bitCount_0f7a4_0 (G : GT) (mc ms : Nat) (Q : Post) : Cn := ix_iload 0 (ix_iload 0 (ix_pushI 1 (ix_iushr (ix_pushI 1431655765 (ix_iand (ix_isub (ix_istore 0 (ix_iload 0 (ix_pushI 858993459 (ix_iand (ix_iload 0 (ix_pushI 2 (ix_iushr (ix_pushI 858993459 (ix_iand (ix_iadd (ix_istore 0 (ix_iload 0 (ix_iload 0 (ix_pushI 4 (ix_iushr (ix_iadd (ix_pushI 252645135 (ix_iand (ix_istore 0 (ix_iload 0 (ix_iload 0 (ix_pushI 8 (ix_iushr (ix_iadd (ix_istore 0 (ix_iload 0 (ix_iload 0 (ix_pushI 16 (ix_iushr (ix_iadd (ix_istore 0 (ix_iload 0 (ix_pushI 63 (ix_iand (ix_iret mc ms Q)))))))))))))))))))))))))))))))))))))))))
theorem b_J6_bitCount_0f7a4_0 {l : Launch} {G : GT} {D mc ms : Nat} {Q : Post} : Imp l G M_J6_bitCount_0f7a4 (D + 0) mc ms Q (B_J6_bitCount_0f7a4_0 G mc ms Q) 0 := sx_iload_n dJ6_bitCount_0f7a4_0 rfl (sx_iload_n dJ6_bitCount_0f7a4_1 rfl (sx_iconst dJ6_bitCount_0f7a4_2 rfl (sx_iushr dJ6_bitCount_0f7a4_3 (sx_ldcw dJ6_bitCount_0f7a4_4 (mg_5 (List.mem_of_getElem? (i := 232) rfl) rfl) (sx_iand dJ6_bitCount_0f7a4_7 (sx_isub dJ6_bitCount_0f7a4_8 (sx_istore_n dJ6_bitCount_0f7a4_9 rfl (by decide) (sx_iload_n dJ6_bitCount_0f7a4_10 rfl (sx_ldcw dJ6_bitCount_0f7a4_11 (mg_5 (List.mem_of_getElem? (i := 233) rfl) rfl) (sx_iand dJ6_bitCount_0f7a4_14 (sx_iload_n dJ6_bitCount_0f7a4_15 rfl (sx_iconst dJ6_bitCount_0f7a4_16 rfl (sx_iushr dJ6_bitCount_0f7a4_17 (sx_ldcw dJ6_bitCount_0f7a4_18 (mg_5 (List.mem_of_getElem? (i := 233) rfl) rfl) (sx_iand dJ6_bitCount_0f7a4_21 (sx_iadd dJ6_bitCount_0f7a4_22 (sx_istore_n dJ6_bitCount_0f7a4_23 rfl (by decide) (sx_iload_n dJ6_bitCount_0f7a4_24 rfl (sx_iload_n dJ6_bitCount_0f7a4_25 rfl (sx_iconst dJ6_bitCount_0f7a4_26 rfl (sx_iushr dJ6_bitCount_0f7a4_27 (sx_iadd dJ6_bitCount_0f7a4_28 (sx_ldcw dJ6_bitCount_0f7a4_29 (mg_5 (List.mem_of_getElem? (i := 234) rfl) rfl) (sx_iand dJ6_bitCount_0f7a4_32 (sx_istore_n dJ6_bitCount_0f7a4_33 rfl (by decide) (sx_iload_n dJ6_bitCount_0f7a4_34 rfl (sx_iload_n dJ6_bitCount_0f7a4_35 rfl (sx_bipush dJ6_bitCount_0f7a4_36 rfl (sx_iushr dJ6_bitCount_0f7a4_38 (sx_iadd dJ6_bitCount_0f7a4_39 (sx_istore_n dJ6_bitCount_0f7a4_40 rfl (by decide) (sx_iload_n dJ6_bitCount_0f7a4_41 rfl (sx_iload_n dJ6_bitCount_0f7a4_42 rfl (sx_bipush dJ6_bitCount_0f7a4_43 rfl (sx_iushr dJ6_bitCount_0f7a4_45 (sx_iadd dJ6_bitCount_0f7a4_46 (sx_istore_n dJ6_bitCount_0f7a4_47 rfl (by decide) (sx_iload_n dJ6_bitCount_0f7a4_48 rfl (sx_bipush dJ6_bitCount_0f7a4_49 rfl (sx_iand dJ6_bitCount_0f7a4_51 (sx_iret dJ6_bitCount_0f7a4_52 rfl)))))))))))))))))))))))))))))))))))))))))
def sp_J6_bitCount_0f7a4 (G : GT) : Sp := fun as S I J z Q => match as with
  | [.int a0] => B_J6_bitCount_0f7a4_0 G 0 0 Q [some (.int a0)] [] S I J z 0 0
  | _ => False
theorem c_J6_bitCount_0f7a4 {l : Launch} {G : GT} {D : Nat} : ∀ as S I J z Q, sp_J6_bitCount_0f7a4 G as S I J z Q → fqCall l G M_J6_bitCount_0f7a4 (D + 0) 0 0 as S I J z Q := by
  intro as S I J z Q h
  unfold sp_J6_bitCount_0f7a4 at h
  split at h
  · exact fq_enter _ (by decide +kernel) (Nat.le_of_ble_eq_true rfl) rfl (b_J6_bitCount_0f7a4_0 _ _ _ _ _ _ _ _ h)
  · exact h.elim
theorem dJ9_floorMod_7cf53_0 : decode cJ9_floorMod_7cf53 0 = .ok (.iload_n 0, 1) := by decide +kernel
theorem dJ9_floorMod_7cf53_1 : decode cJ9_floorMod_7cf53 1 = .ok (.iload_n 1, 1) := by decide +kernel
theorem dJ9_floorMod_7cf53_2 : decode cJ9_floorMod_7cf53 2 = .ok (.irem, 1) := by decide +kernel
theorem dJ9_floorMod_7cf53_3 : decode cJ9_floorMod_7cf53 3 = .ok (.istore_n 2, 1) := by decide +kernel
theorem dJ9_floorMod_7cf53_4 : decode cJ9_floorMod_7cf53 4 = .ok (.iload_n 0, 1) := by decide +kernel
theorem dJ9_floorMod_7cf53_5 : decode cJ9_floorMod_7cf53 5 = .ok (.iload_n 1, 1) := by decide +kernel
theorem dJ9_floorMod_7cf53_6 : decode cJ9_floorMod_7cf53 6 = .ok (.ixor, 1) := by decide +kernel
theorem dJ9_floorMod_7cf53_7 : decode cJ9_floorMod_7cf53 7 = .ok (.ifCond .ge 11, 3) := by decide +kernel
theorem dJ9_floorMod_7cf53_10 : decode cJ9_floorMod_7cf53 10 = .ok (.iload_n 2, 1) := by decide +kernel
theorem dJ9_floorMod_7cf53_11 : decode cJ9_floorMod_7cf53 11 = .ok (.ifCond .eq 7, 3) := by decide +kernel
theorem dJ9_floorMod_7cf53_14 : decode cJ9_floorMod_7cf53 14 = .ok (.iload_n 2, 1) := by decide +kernel
theorem dJ9_floorMod_7cf53_15 : decode cJ9_floorMod_7cf53 15 = .ok (.iload_n 1, 1) := by decide +kernel
theorem dJ9_floorMod_7cf53_16 : decode cJ9_floorMod_7cf53 16 = .ok (.iadd, 1) := by decide +kernel
theorem dJ9_floorMod_7cf53_17 : decode cJ9_floorMod_7cf53 17 = .ok (.ireturn, 1) := by decide +kernel
theorem dJ9_floorMod_7cf53_18 : decode cJ9_floorMod_7cf53 18 = .ok (.iload_n 2, 1) := by decide +kernel
theorem dJ9_floorMod_7cf53_19 : decode cJ9_floorMod_7cf53 19 = .ok (.ireturn, 1) := by decide +kernel
abbrev M_J9_floorMod_7cf53 : MT := (yJ9_floorMod_7cf53, cJ9_floorMod_7cf53, 3, (some .int))
theorem cf_J9_floorMod_7cf53 : fq_cf M_J9_floorMod_7cf53 2 := ⟨(mg_1 (List.mem_of_getElem? (i := 18) rfl) rfl), (mg_4 (List.mem_of_getElem? (i := 223) rfl) rfl), ⟨by decide, by decide, by decide +kernel⟩, by decide⟩
def B_J9_floorMod_7cf53_18 (G : GT) (mc ms : Nat) (Q : Post) : Cn := ix_iload 2 (ix_iret mc ms Q)
theorem b_J9_floorMod_7cf53_18 {l : Launch} {G : GT} {D mc ms : Nat} {Q : Post} : Imp l G M_J9_floorMod_7cf53 (D + 0) mc ms Q (B_J9_floorMod_7cf53_18 G mc ms Q) 18 := sx_iload_n dJ9_floorMod_7cf53_18 rfl (sx_iret dJ9_floorMod_7cf53_19 rfl)
def B_J9_floorMod_7cf53_0 (G : GT) (mc ms : Nat) (Q : Post) : Cn := ix_iload 0 (ix_iload 1 (ix_irem (ix_istore 2 (ix_iload 0 (ix_iload 1 (ix_ixor (ix_if_ge ((B_J9_floorMod_7cf53_18 G mc ms Q)) (ix_iload 2 (ix_if_eq ((B_J9_floorMod_7cf53_18 G mc ms Q)) (ix_iload 2 (ix_iload 1 (ix_iadd (ix_iret mc ms Q)))))))))))))
theorem b_J9_floorMod_7cf53_0 {l : Launch} {G : GT} {D mc ms : Nat} {Q : Post} : Imp l G M_J9_floorMod_7cf53 (D + 0) mc ms Q (B_J9_floorMod_7cf53_0 G mc ms Q) 0 := sx_iload_n dJ9_floorMod_7cf53_0 rfl (sx_iload_n dJ9_floorMod_7cf53_1 rfl (sx_irem dJ9_floorMod_7cf53_2 (sx_istore_n dJ9_floorMod_7cf53_3 rfl (by decide) (sx_iload_n dJ9_floorMod_7cf53_4 rfl (sx_iload_n dJ9_floorMod_7cf53_5 rfl (sx_ixor dJ9_floorMod_7cf53_6 (sx_if_ge 18 dJ9_floorMod_7cf53_7 (by decide) (b_J9_floorMod_7cf53_18) (sx_iload_n dJ9_floorMod_7cf53_10 rfl (sx_if_eq 18 dJ9_floorMod_7cf53_11 (by decide) (b_J9_floorMod_7cf53_18) (sx_iload_n dJ9_floorMod_7cf53_14 rfl (sx_iload_n dJ9_floorMod_7cf53_15 rfl (sx_iadd dJ9_floorMod_7cf53_16 (sx_iret dJ9_floorMod_7cf53_17 rfl)))))))))))))
def sp_J9_floorMod_7cf53 (G : GT) : Sp := fun as S I J z Q => match as with
  | [.int a0, .int a1] => B_J9_floorMod_7cf53_0 G 0 0 Q [some (.int a0), some (.int a1), none] [] S I J z 0 0
  | _ => False
theorem c_J9_floorMod_7cf53 {l : Launch} {G : GT} {D : Nat} : ∀ as S I J z Q, sp_J9_floorMod_7cf53 G as S I J z Q → fqCall l G M_J9_floorMod_7cf53 (D + 0) 0 0 as S I J z Q := by
  intro as S I J z Q h
  unfold sp_J9_floorMod_7cf53 at h
  split at h
  · exact fq_enter _ (by decide +kernel) (Nat.le_of_ble_eq_true rfl) rfl (b_J9_floorMod_7cf53_0 _ _ _ _ _ _ _ _ h)
  · exact h.elim
def sp_J0_length_8abf5 (G : GT) : Sp := fun as S I J z Q => match as with
  | [.ref a] => ∃ j, j < 2 ∧ a = G.2.2.2 (4 + j) ∧ Q (some (.int (Int32.ofNat (fq_sl.getD j 0)))) S I J z
  | _ => False
theorem c_J0_length_8abf5 {l : Launch} {G : GT} {D : Nat} : ∀ as S I J z Q, sp_J0_length_8abf5 G as S I J z Q → fqCall l G M_J0_length_8abf5 (D + 1) 0 0 as S I J z Q := by
  intro as S I J z Q h
  unfold sp_J0_length_8abf5 at h
  split at h
  · obtain ⟨j, hj, rfl, h⟩ := h
    refine fq_enter [some (.ref (G.2.2.2 (4 + j)))] (by decide +kernel) (Nat.le_of_ble_eq_true rfl) rfl (b_J0_length_8abf5_0 _ _ _ _ _ _ _ _ ?_)
    simp only [B_J0_length_8abf5_0, sp_J0_coder_7d493, B_J0_coder_7d493_0, B_J0_coder_7d493_14, ix_aald, ix_aast, ix_abs, ix_alen, ix_aload, ix_aret, ix_astore, ix_bald, ix_bast, ix_call, ix_cpyI, ix_cpyJ, ix_dead, ix_dup2, ix_dup2L, ix_dupI, ix_dupR, ix_dupx1, ix_getI, ix_getJ, ix_getR, ix_gfm, ix_gtab, ix_i2b, ix_i2c, ix_i2l, ix_i2s, ix_iadd, ix_iald, ix_iand, ix_iast, ix_icall, ix_icmp_eq, ix_icmp_ge, ix_icmp_gt, ix_icmp_le, ix_icmp_lt, ix_icmp_ne, ix_idiv, ix_if_eq, ix_if_ge, ix_if_gt, ix_if_le, ix_if_lt, ix_if_ne, ix_iinc, ix_iload, ix_imul, ix_ineg, ix_ior, ix_irem, ix_iret, ix_ishl, ix_ishr, ix_istore, ix_isub, ix_iushr, ix_ixor, ix_l2i, ix_ladd, ix_lald, ix_land, ix_last, ix_lcmp, ix_ldcS, ix_ldiv, ix_lload, ix_lmul, ix_lor, ix_lrem, ix_lret, ix_lshl, ix_lstore, ix_lsub, ix_lsw, ix_max, ix_min, ix_new, ix_newa, ix_nret, ix_oinit, ix_pop2L, ix_popI, ix_pushI, ix_pushL, ix_putI, ix_putJ, ix_putR, ix_putZ, ix_sbald, ix_sgetC, ix_sgetV, ix_slen, ix_strc, ix_tald, ix_tsw, ix_vcall, ix_vret, ix_zret, stL, stL2, kilL, popN, fq_sw, fq_lsw, List.map_cons, List.map_nil, List.getElem?_cons_zero, List.getElem?_cons_succ, Option.toList_some, Option.toList_none, List.cons_append, List.nil_append, List.length_cons, List.length_nil, List.sum_cons, List.sum_nil, cat_i, cat_l, cat_r, true_and, and_true, Nat.zero_add, Nat.add_zero, Nat.le_refl, Nat.zero_le, Nat.reduceAdd, Nat.reduceLeDiff, exists_eq_left', Option.some.injEq, not_true_eq_false, not_false_eq_true, false_implies, true_implies, implies_true, and_self, or_true, true_or, or_false, false_or]
    have e1 : Int32.ofNat (fq_sl.getD j 0) >>> ((0 : Int32) &&& 31) = Int32.ofNat (fq_sl.getD j 0) := by
      rcases (show j = 0 ∨ j = 1 by omega) with rfl | rfl <;> decide
    exact ⟨j, hj, rfl, j, hj, rfl, ⟨j, hj, rfl⟩, fun q => absurd q (by decide), fun _ => ⟨⟨j, hj, rfl⟩, rfl, by rw [e1]; exact h⟩⟩
  · exact h.elim
def sp_J0_charAt_5068e (G : GT) : Sp := fun as S I J z Q => match as with
  | [.ref a, .int i] => ∃ j, j < 2 ∧ a = G.2.2.2 (4 + j) ∧ vp_in i (fq_sl.getD j 0) ∧ Q (some (.int ((fq_sb.getD j []).getD i.toNatClampNeg 0))) S I J z
  | _ => False
theorem fq_chr {b : Int32} (h : b ∈ fq_wordsB ∨ b ∈ fq_keysB) : ((b &&& 255).toUInt32 % 65536).toInt32 = b ∧ narrow .char (.int b) = .int b := by
  have key : ∀ b ∈ fq_wordsB ++ fq_keysB, ((b &&& 255).toUInt32 % 65536).toInt32 = b ∧ narrow .char (.int b) = .int b := by decide +kernel
  exact key b (List.mem_append.mpr h)
theorem fq_sb_in {j i : Nat} (hj : j < 2) (hi : i < fq_sl.getD j 0) : (fq_sb.getD j []).getD i 0 ∈ fq_wordsB ∨ (fq_sb.getD j []).getD i 0 ∈ fq_keysB := by
  rcases (show j = 0 ∨ j = 1 by omega) with rfl | rfl
  · refine Or.inl ?_
    have hl : i < fq_wordsB.length := hi
    show fq_wordsB.getD i 0 ∈ fq_wordsB
    rw [List.getD_eq_getElem?_getD, List.getElem?_eq_getElem hl]
    exact List.getElem_mem hl
  · refine Or.inr ?_
    have hl : i < fq_keysB.length := hi
    show fq_keysB.getD i 0 ∈ fq_keysB
    rw [List.getD_eq_getElem?_getD, List.getElem?_eq_getElem hl]
    exact List.getElem_mem hl
theorem c_J0_charAt_5068e {l : Launch} {G : GT} {D : Nat} : ∀ as S I J z Q, sp_J0_charAt_5068e G as S I J z Q → fqCall l G M_J0_charAt_5068e (D + 3) 0 0 as S I J z Q := by
  intro as S I J z Q h
  unfold sp_J0_charAt_5068e at h
  split at h
  · next a i =>
    obtain ⟨j, hj, rfl, hin, h⟩ := h
    have hlt : i.toNatClampNeg < fq_sl.getD j 0 := Nat.not_le.mp fun q => hin (Or.inr q)
    obtain ⟨e1, e2⟩ := fq_chr (fq_sb_in hj hlt)
    have h0 : 0 ≤ i := Int32.not_lt.mp fun q => hin (Or.inl q)
    have h1 : i < Int32.ofNat (fq_sl.getD j 0) := by
      have hs : fq_sl.getD j 0 < 2 ^ 31 := by rcases (show j = 0 ∨ j = 1 by omega) with rfl | rfl <;> decide
      obtain ⟨q, hq, rfl⟩ := vp_in_of hin hs
      exact nI_lt hq hs
    refine fq_enter [some (.ref (G.2.2.2 (4 + j))), some (.int i)] (by decide +kernel) (Nat.le_of_ble_eq_true rfl) rfl (b_J0_charAt_5068e_0 _ _ _ _ _ _ _ _ ?_)
    simp only [B_J0_charAt_5068e_0, sp_J0_isLatin1_aae02, B_J0_isLatin1_aae02_0, B_J0_isLatin1_aae02_17, B_J0_isLatin1_aae02_18, sp_J1_charAt_3b067, B_J1_charAt_3b067_0, sp_J0_checkIndex_df160, B_J0_checkIndex_df160_0, sp_J3_checkIndex_8e157, ix_aald, ix_aast, ix_abs, ix_alen, ix_aload, ix_aret, ix_astore, ix_bald, ix_bast, ix_call, ix_cpyI, ix_cpyJ, ix_dead, ix_dup2, ix_dup2L, ix_dupI, ix_dupR, ix_dupx1, ix_getI, ix_getJ, ix_getR, ix_gfm, ix_gtab, ix_i2b, ix_i2c, ix_i2l, ix_i2s, ix_iadd, ix_iald, ix_iand, ix_iast, ix_icall, ix_icmp_eq, ix_icmp_ge, ix_icmp_gt, ix_icmp_le, ix_icmp_lt, ix_icmp_ne, ix_idiv, ix_if_eq, ix_if_ge, ix_if_gt, ix_if_le, ix_if_lt, ix_if_ne, ix_iinc, ix_iload, ix_imul, ix_ineg, ix_ior, ix_irem, ix_iret, ix_ishl, ix_ishr, ix_istore, ix_isub, ix_iushr, ix_ixor, ix_l2i, ix_ladd, ix_lald, ix_land, ix_last, ix_lcmp, ix_ldcS, ix_ldiv, ix_lload, ix_lmul, ix_lor, ix_lrem, ix_lret, ix_lshl, ix_lstore, ix_lsub, ix_lsw, ix_max, ix_min, ix_new, ix_newa, ix_nret, ix_oinit, ix_pop2L, ix_popI, ix_pushI, ix_pushL, ix_putI, ix_putJ, ix_putR, ix_putZ, ix_sbald, ix_sgetC, ix_sgetV, ix_slen, ix_strc, ix_tald, ix_tsw, ix_vcall, ix_vret, ix_zret, stL, stL2, kilL, popN, fq_sw, fq_lsw, List.map_cons, List.map_nil, List.getElem?_cons_zero, List.getElem?_cons_succ, Option.toList_some, Option.toList_none, List.cons_append, List.nil_append, List.length_cons, List.length_nil, List.sum_cons, List.sum_nil, cat_i, cat_l, cat_r, true_and, and_true, Nat.zero_add, Nat.add_zero, Nat.le_refl, Nat.zero_le, Nat.reduceAdd, Nat.reduceLeDiff, exists_eq_left', Option.some.injEq, not_true_eq_false, not_false_eq_true, false_implies, true_implies, implies_true, and_self, or_true, true_or, or_false, false_or]
    have fin : ∃ j', j' < 2 ∧ G.2.2.2 (6 + j) = G.2.2.2 (6 + j') ∧ vp_in i (fq_sl.getD j' 0) ∧ narrow .char (.int (((fq_sb.getD j' []).getD i.toNatClampNeg 0 &&& 255).toUInt32 % 65536).toInt32) = .int (((fq_sb.getD j' []).getD i.toNatClampNeg 0 &&& 255).toUInt32 % 65536).toInt32 ∧ narrow .char (.int (((fq_sb.getD j' []).getD i.toNatClampNeg 0 &&& 255).toUInt32 % 65536).toInt32) = .int (((fq_sb.getD j' []).getD i.toNatClampNeg 0 &&& 255).toUInt32 % 65536).toInt32 ∧ Q (some (.int (((fq_sb.getD j' []).getD i.toNatClampNeg 0 &&& 255).toUInt32 % 65536).toInt32)) S I J z := by
      refine ⟨j, hj, rfl, hin, ?_⟩
      rw [e1]
      exact ⟨e2, e2, h⟩
    exact ⟨⟨j, hj, rfl⟩, fun q => absurd q (by decide), fun _ => ⟨⟨j, hj, rfl⟩, fun q => absurd q (by decide), fun _ => ⟨j, hj, rfl, j, hj, rfl, ⟨h0, h1, fin⟩, fun _ => ⟨h0, h1, fin⟩⟩⟩⟩
  · exact h.elim
