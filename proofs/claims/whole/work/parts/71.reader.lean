/-! the component's reader: bytes, words, numbers -/
theorem dX4_isBlank_0 : decode cX4_isBlank 0 = .ok (.iload_n 0, 1) := by decide +kernel
theorem dX4_isBlank_1 : decode cX4_isBlank 1 = .ok (.bipush 10, 2) := by decide +kernel
theorem dX4_isBlank_3 : decode cX4_isBlank 3 = .ok (.if_icmp .eq 9, 3) := by decide +kernel
theorem dX4_isBlank_6 : decode cX4_isBlank 6 = .ok (.iload_n 0, 1) := by decide +kernel
theorem dX4_isBlank_7 : decode cX4_isBlank 7 = .ok (.bipush 32, 2) := by decide +kernel
theorem dX4_isBlank_9 : decode cX4_isBlank 9 = .ok (.if_icmp .ne 7, 3) := by decide +kernel
theorem dX4_isBlank_12 : decode cX4_isBlank 12 = .ok (.iconst 1, 1) := by decide +kernel
theorem dX4_isBlank_13 : decode cX4_isBlank 13 = .ok (.goto 4, 3) := by decide +kernel
theorem dX4_isBlank_16 : decode cX4_isBlank 16 = .ok (.iconst 0, 1) := by decide +kernel
theorem dX4_isBlank_17 : decode cX4_isBlank 17 = .ok (.ireturn, 1) := by decide +kernel
abbrev M_X4_isBlank : MT := (yX4_isBlank, cX4_isBlank, 1, (some .boolean))
theorem cf_X4_isBlank : fq_cf M_X4_isBlank 1 := ⟨(mg_1 (List.mem_of_getElem? (i := 3) rfl) rfl), (mg_3 (List.mem_of_getElem? (i := 187) rfl) rfl), ⟨by decide, by decide, by decide +kernel⟩, by decide⟩
def B_X4_isBlank_17 (G : GT) (mc ms : Nat) (Q : Post) : Cn := ix_zret mc ms Q
theorem b_X4_isBlank_17 {l : Launch} {G : GT} {D mc ms : Nat} {Q : Post} : Imp l G M_X4_isBlank (D + 0) mc ms Q (B_X4_isBlank_17 G mc ms Q) 17 := sx_zret dX4_isBlank_17 rfl
def B_X4_isBlank_12 (G : GT) (mc ms : Nat) (Q : Post) : Cn := ix_pushI 1 ((B_X4_isBlank_17 G mc ms Q))
theorem b_X4_isBlank_12 {l : Launch} {G : GT} {D mc ms : Nat} {Q : Post} : Imp l G M_X4_isBlank (D + 0) mc ms Q (B_X4_isBlank_12 G mc ms Q) 12 := sx_iconst dX4_isBlank_12 rfl (sx_goto 17 dX4_isBlank_13 (by decide) (b_X4_isBlank_17))
def B_X4_isBlank_0 (G : GT) (mc ms : Nat) (Q : Post) : Cn := ix_iload 0 (ix_pushI 10 (ix_icmp_eq ((B_X4_isBlank_12 G mc ms Q)) (ix_iload 0 (ix_pushI 32 (ix_icmp_ne (ix_pushI 0 ((B_X4_isBlank_17 G mc ms Q))) ((B_X4_isBlank_12 G mc ms Q)))))))
theorem b_X4_isBlank_0 {l : Launch} {G : GT} {D mc ms : Nat} {Q : Post} : Imp l G M_X4_isBlank (D + 0) mc ms Q (B_X4_isBlank_0 G mc ms Q) 0 := sx_iload_n dX4_isBlank_0 rfl (sx_bipush dX4_isBlank_1 rfl (sx_icmp_eq 12 dX4_isBlank_3 (by decide) (b_X4_isBlank_12) (sx_iload_n dX4_isBlank_6 rfl (sx_bipush dX4_isBlank_7 rfl (sx_icmp_ne 16 dX4_isBlank_9 (by decide) (sx_iconst dX4_isBlank_16 rfl (b_X4_isBlank_17)) (b_X4_isBlank_12))))))
theorem dX4_isLetter_0 : decode cX4_isLetter 0 = .ok (.iload_n 0, 1) := by decide +kernel
theorem dX4_isLetter_1 : decode cX4_isLetter 1 = .ok (.bipush 97, 2) := by decide +kernel
theorem dX4_isLetter_3 : decode cX4_isLetter 3 = .ok (.if_icmp .lt 13, 3) := by decide +kernel
theorem dX4_isLetter_6 : decode cX4_isLetter 6 = .ok (.iload_n 0, 1) := by decide +kernel
theorem dX4_isLetter_7 : decode cX4_isLetter 7 = .ok (.bipush 122, 2) := by decide +kernel
theorem dX4_isLetter_9 : decode cX4_isLetter 9 = .ok (.if_icmp .gt 7, 3) := by decide +kernel
theorem dX4_isLetter_12 : decode cX4_isLetter 12 = .ok (.iconst 1, 1) := by decide +kernel
theorem dX4_isLetter_13 : decode cX4_isLetter 13 = .ok (.goto 4, 3) := by decide +kernel
theorem dX4_isLetter_16 : decode cX4_isLetter 16 = .ok (.iconst 0, 1) := by decide +kernel
theorem dX4_isLetter_17 : decode cX4_isLetter 17 = .ok (.ireturn, 1) := by decide +kernel
abbrev M_X4_isLetter : MT := (yX4_isLetter, cX4_isLetter, 1, (some .boolean))
theorem cf_X4_isLetter : fq_cf M_X4_isLetter 1 := ⟨(mg_1 (List.mem_of_getElem? (i := 3) rfl) rfl), (mg_3 (List.mem_of_getElem? (i := 190) rfl) rfl), ⟨by decide, by decide, by decide +kernel⟩, by decide⟩
def B_X4_isLetter_17 (G : GT) (mc ms : Nat) (Q : Post) : Cn := ix_zret mc ms Q
theorem b_X4_isLetter_17 {l : Launch} {G : GT} {D mc ms : Nat} {Q : Post} : Imp l G M_X4_isLetter (D + 0) mc ms Q (B_X4_isLetter_17 G mc ms Q) 17 := sx_zret dX4_isLetter_17 rfl
def B_X4_isLetter_16 (G : GT) (mc ms : Nat) (Q : Post) : Cn := ix_pushI 0 ((B_X4_isLetter_17 G mc ms Q))
theorem b_X4_isLetter_16 {l : Launch} {G : GT} {D mc ms : Nat} {Q : Post} : Imp l G M_X4_isLetter (D + 0) mc ms Q (B_X4_isLetter_16 G mc ms Q) 16 := sx_iconst dX4_isLetter_16 rfl (b_X4_isLetter_17)
def B_X4_isLetter_0 (G : GT) (mc ms : Nat) (Q : Post) : Cn := ix_iload 0 (ix_pushI 97 (ix_icmp_lt ((B_X4_isLetter_16 G mc ms Q)) (ix_iload 0 (ix_pushI 122 (ix_icmp_gt ((B_X4_isLetter_16 G mc ms Q)) (ix_pushI 1 ((B_X4_isLetter_17 G mc ms Q))))))))
theorem b_X4_isLetter_0 {l : Launch} {G : GT} {D mc ms : Nat} {Q : Post} : Imp l G M_X4_isLetter (D + 0) mc ms Q (B_X4_isLetter_0 G mc ms Q) 0 := sx_iload_n dX4_isLetter_0 rfl (sx_bipush dX4_isLetter_1 rfl (sx_icmp_lt 16 dX4_isLetter_3 (by decide) (b_X4_isLetter_16) (sx_iload_n dX4_isLetter_6 rfl (sx_bipush dX4_isLetter_7 rfl (sx_icmp_gt 16 dX4_isLetter_9 (by decide) (b_X4_isLetter_16) (sx_iconst dX4_isLetter_12 rfl (sx_goto 17 dX4_isLetter_13 (by decide) (b_X4_isLetter_17))))))))
theorem dX4_isDigit_0 : decode cX4_isDigit 0 = .ok (.iload_n 0, 1) := by decide +kernel
theorem dX4_isDigit_1 : decode cX4_isDigit 1 = .ok (.bipush 48, 2) := by decide +kernel
theorem dX4_isDigit_3 : decode cX4_isDigit 3 = .ok (.if_icmp .lt 13, 3) := by decide +kernel
theorem dX4_isDigit_6 : decode cX4_isDigit 6 = .ok (.iload_n 0, 1) := by decide +kernel
theorem dX4_isDigit_7 : decode cX4_isDigit 7 = .ok (.bipush 57, 2) := by decide +kernel
theorem dX4_isDigit_9 : decode cX4_isDigit 9 = .ok (.if_icmp .gt 7, 3) := by decide +kernel
theorem dX4_isDigit_12 : decode cX4_isDigit 12 = .ok (.iconst 1, 1) := by decide +kernel
theorem dX4_isDigit_13 : decode cX4_isDigit 13 = .ok (.goto 4, 3) := by decide +kernel
theorem dX4_isDigit_16 : decode cX4_isDigit 16 = .ok (.iconst 0, 1) := by decide +kernel
theorem dX4_isDigit_17 : decode cX4_isDigit 17 = .ok (.ireturn, 1) := by decide +kernel
abbrev M_X4_isDigit : MT := (yX4_isDigit, cX4_isDigit, 1, (some .boolean))
theorem cf_X4_isDigit : fq_cf M_X4_isDigit 1 := ⟨(mg_1 (List.mem_of_getElem? (i := 3) rfl) rfl), (mg_3 (List.mem_of_getElem? (i := 197) rfl) rfl), ⟨by decide, by decide, by decide +kernel⟩, by decide⟩
def B_X4_isDigit_17 (G : GT) (mc ms : Nat) (Q : Post) : Cn := ix_zret mc ms Q
theorem b_X4_isDigit_17 {l : Launch} {G : GT} {D mc ms : Nat} {Q : Post} : Imp l G M_X4_isDigit (D + 0) mc ms Q (B_X4_isDigit_17 G mc ms Q) 17 := sx_zret dX4_isDigit_17 rfl
def B_X4_isDigit_16 (G : GT) (mc ms : Nat) (Q : Post) : Cn := ix_pushI 0 ((B_X4_isDigit_17 G mc ms Q))
theorem b_X4_isDigit_16 {l : Launch} {G : GT} {D mc ms : Nat} {Q : Post} : Imp l G M_X4_isDigit (D + 0) mc ms Q (B_X4_isDigit_16 G mc ms Q) 16 := sx_iconst dX4_isDigit_16 rfl (b_X4_isDigit_17)
def B_X4_isDigit_0 (G : GT) (mc ms : Nat) (Q : Post) : Cn := ix_iload 0 (ix_pushI 48 (ix_icmp_lt ((B_X4_isDigit_16 G mc ms Q)) (ix_iload 0 (ix_pushI 57 (ix_icmp_gt ((B_X4_isDigit_16 G mc ms Q)) (ix_pushI 1 ((B_X4_isDigit_17 G mc ms Q))))))))
theorem b_X4_isDigit_0 {l : Launch} {G : GT} {D mc ms : Nat} {Q : Post} : Imp l G M_X4_isDigit (D + 0) mc ms Q (B_X4_isDigit_0 G mc ms Q) 0 := sx_iload_n dX4_isDigit_0 rfl (sx_bipush dX4_isDigit_1 rfl (sx_icmp_lt 16 dX4_isDigit_3 (by decide) (b_X4_isDigit_16) (sx_iload_n dX4_isDigit_6 rfl (sx_bipush dX4_isDigit_7 rfl (sx_icmp_gt 16 dX4_isDigit_9 (by decide) (b_X4_isDigit_16) (sx_iconst dX4_isDigit_12 rfl (sx_goto 17 dX4_isDigit_13 (by decide) (b_X4_isDigit_17))))))))
theorem dX4_isCompare_0 : decode cX4_isCompare 0 = .ok (.iload_n 0, 1) := by decide +kernel
theorem dX4_isCompare_1 : decode cX4_isCompare 1 = .ok (.bipush 60, 2) := by decide +kernel
theorem dX4_isCompare_3 : decode cX4_isCompare 3 = .ok (.if_icmp .eq 15, 3) := by decide +kernel
theorem dX4_isCompare_6 : decode cX4_isCompare 6 = .ok (.iload_n 0, 1) := by decide +kernel
theorem dX4_isCompare_7 : decode cX4_isCompare 7 = .ok (.bipush 62, 2) := by decide +kernel
theorem dX4_isCompare_9 : decode cX4_isCompare 9 = .ok (.if_icmp .eq 9, 3) := by decide +kernel
theorem dX4_isCompare_12 : decode cX4_isCompare 12 = .ok (.iload_n 0, 1) := by decide +kernel
theorem dX4_isCompare_13 : decode cX4_isCompare 13 = .ok (.bipush 61, 2) := by decide +kernel
theorem dX4_isCompare_15 : decode cX4_isCompare 15 = .ok (.if_icmp .ne 7, 3) := by decide +kernel
theorem dX4_isCompare_18 : decode cX4_isCompare 18 = .ok (.iconst 1, 1) := by decide +kernel
theorem dX4_isCompare_19 : decode cX4_isCompare 19 = .ok (.goto 4, 3) := by decide +kernel
theorem dX4_isCompare_22 : decode cX4_isCompare 22 = .ok (.iconst 0, 1) := by decide +kernel
theorem dX4_isCompare_23 : decode cX4_isCompare 23 = .ok (.ireturn, 1) := by decide +kernel
abbrev M_X4_isCompare : MT := (yX4_isCompare, cX4_isCompare, 1, (some .boolean))
theorem cf_X4_isCompare : fq_cf M_X4_isCompare 1 := ⟨(mg_1 (List.mem_of_getElem? (i := 3) rfl) rfl), (mg_3 (List.mem_of_getElem? (i := 207) rfl) rfl), ⟨by decide, by decide, by decide +kernel⟩, by decide⟩
def B_X4_isCompare_23 (G : GT) (mc ms : Nat) (Q : Post) : Cn := ix_zret mc ms Q
theorem b_X4_isCompare_23 {l : Launch} {G : GT} {D mc ms : Nat} {Q : Post} : Imp l G M_X4_isCompare (D + 0) mc ms Q (B_X4_isCompare_23 G mc ms Q) 23 := sx_zret dX4_isCompare_23 rfl
def B_X4_isCompare_18 (G : GT) (mc ms : Nat) (Q : Post) : Cn := ix_pushI 1 ((B_X4_isCompare_23 G mc ms Q))
theorem b_X4_isCompare_18 {l : Launch} {G : GT} {D mc ms : Nat} {Q : Post} : Imp l G M_X4_isCompare (D + 0) mc ms Q (B_X4_isCompare_18 G mc ms Q) 18 := sx_iconst dX4_isCompare_18 rfl (sx_goto 23 dX4_isCompare_19 (by decide) (b_X4_isCompare_23))
def B_X4_isCompare_0 (G : GT) (mc ms : Nat) (Q : Post) : Cn := ix_iload 0 (ix_pushI 60 (ix_icmp_eq ((B_X4_isCompare_18 G mc ms Q)) (ix_iload 0 (ix_pushI 62 (ix_icmp_eq ((B_X4_isCompare_18 G mc ms Q)) (ix_iload 0 (ix_pushI 61 (ix_icmp_ne (ix_pushI 0 ((B_X4_isCompare_23 G mc ms Q))) ((B_X4_isCompare_18 G mc ms Q))))))))))
theorem b_X4_isCompare_0 {l : Launch} {G : GT} {D mc ms : Nat} {Q : Post} : Imp l G M_X4_isCompare (D + 0) mc ms Q (B_X4_isCompare_0 G mc ms Q) 0 := sx_iload_n dX4_isCompare_0 rfl (sx_bipush dX4_isCompare_1 rfl (sx_icmp_eq 18 dX4_isCompare_3 (by decide) (b_X4_isCompare_18) (sx_iload_n dX4_isCompare_6 rfl (sx_bipush dX4_isCompare_7 rfl (sx_icmp_eq 18 dX4_isCompare_9 (by decide) (b_X4_isCompare_18) (sx_iload_n dX4_isCompare_12 rfl (sx_bipush dX4_isCompare_13 rfl (sx_icmp_ne 22 dX4_isCompare_15 (by decide) (sx_iconst dX4_isCompare_22 rfl (b_X4_isCompare_23)) (b_X4_isCompare_18)))))))))
theorem dX4_withLetter_0 : decode cX4_withLetter 0 = .ok (.lload_n 0, 1) := by decide +kernel
theorem dX4_withLetter_1 : decode cX4_withLetter 1 = .ok (.iconst 5, 1) := by decide +kernel
theorem dX4_withLetter_2 : decode cX4_withLetter 2 = .ok (.lshl, 1) := by decide +kernel
theorem dX4_withLetter_3 : decode cX4_withLetter 3 = .ok (.iload_n 2, 1) := by decide +kernel
theorem dX4_withLetter_4 : decode cX4_withLetter 4 = .ok (.bipush 97, 2) := by decide +kernel
theorem dX4_withLetter_6 : decode cX4_withLetter 6 = .ok (.isub, 1) := by decide +kernel
theorem dX4_withLetter_7 : decode cX4_withLetter 7 = .ok (.iconst 1, 1) := by decide +kernel
theorem dX4_withLetter_8 : decode cX4_withLetter 8 = .ok (.iadd, 1) := by decide +kernel
theorem dX4_withLetter_9 : decode cX4_withLetter 9 = .ok (.i2l, 1) := by decide +kernel
theorem dX4_withLetter_10 : decode cX4_withLetter 10 = .ok (.lor, 1) := by decide +kernel
theorem dX4_withLetter_11 : decode cX4_withLetter 11 = .ok (.lreturn, 1) := by decide +kernel
abbrev M_X4_withLetter : MT := (yX4_withLetter, cX4_withLetter, 3, (some .long))
theorem cf_X4_withLetter : fq_cf M_X4_withLetter 2 := ⟨(mg_1 (List.mem_of_getElem? (i := 3) rfl) rfl), (mg_1 (List.mem_of_getElem? (i := 107) rfl) rfl), ⟨by decide, by decide, by decide +kernel⟩, by decide⟩
def B_X4_withLetter_0 (G : GT) (mc ms : Nat) (Q : Post) : Cn := ix_lload 0 (ix_pushI 5 (ix_lshl (ix_iload 2 (ix_pushI 97 (ix_isub (ix_pushI 1 (ix_iadd (ix_i2l (ix_lor (ix_lret mc ms Q))))))))))
theorem b_X4_withLetter_0 {l : Launch} {G : GT} {D mc ms : Nat} {Q : Post} : Imp l G M_X4_withLetter (D + 0) mc ms Q (B_X4_withLetter_0 G mc ms Q) 0 := sx_lload_n dX4_withLetter_0 rfl (sx_iconst dX4_withLetter_1 rfl (sx_lshl dX4_withLetter_2 (sx_iload_n dX4_withLetter_3 rfl (sx_bipush dX4_withLetter_4 rfl (sx_isub dX4_withLetter_6 (sx_iconst dX4_withLetter_7 rfl (sx_iadd dX4_withLetter_8 (sx_i2l dX4_withLetter_9 (sx_lor dX4_withLetter_10 (sx_lret dX4_withLetter_11 rfl))))))))))
def sp_X4_withLetter (G : GT) : Sp := fun as S I J z Q => match as with
  | [.long a0, .int a1] => B_X4_withLetter_0 G 0 0 Q [some (.long a0), none, some (.int a1)] [] S I J z 0 0
  | _ => False
theorem c_X4_withLetter {l : Launch} {G : GT} {D : Nat} : ∀ as S I J z Q, sp_X4_withLetter G as S I J z Q → fqCall l G M_X4_withLetter (D + 0) 0 0 as S I J z Q := by
  intro as S I J z Q h
  unfold sp_X4_withLetter at h
  split at h
  · exact fq_enter _ (by decide +kernel) (Nat.le_of_ble_eq_true rfl) rfl (b_X4_withLetter_0 _ _ _ _ _ _ _ _ h)
  · exact h.elim
def sp_X4_isBlank (G : GT) : Sp := fun as S I J z Q => match as with
  | [.int c] => Q (some (.int (bI (c = 10 ∨ c = 32)))) S I J z
  | _ => False
set_option maxHeartbeats 4000000 in
set_option maxRecDepth 20000 in
theorem c_X4_isBlank {l : Launch} {G : GT} {D : Nat} : ∀ as S I J z Q, sp_X4_isBlank G as S I J z Q → fqCall l G M_X4_isBlank (D + 0) 0 0 as S I J z Q := by
  intro as S I J z Q h
  unfold sp_X4_isBlank at h
  split at h
  · next c =>
    refine fq_enter [some (.int c)] (by decide +kernel) (Nat.le_of_ble_eq_true rfl) rfl (b_X4_isBlank_0 _ _ _ _ _ _ _ _ ?_)
    simp (disch := omega) only [B_X4_isBlank_0, B_X4_isBlank_12, B_X4_isBlank_17, nI_1, nI_add, nI_clamp, nI_pin, nI_neg, nI_nonneg, nI_leE, nI_ltE, nI_eqE, Nat.not_le, Nat.not_lt, fq_10, fq_01, fq_rr, ix_aald, ix_aast, ix_abs, ix_alen, ix_aload, ix_aret, ix_astore, ix_bald, ix_bast, ix_call, ix_cpyI, ix_cpyJ, ix_dead, ix_dup2, ix_dup2L, ix_dupI, ix_dupR, ix_dupx1, ix_getI, ix_getJ, ix_getR, ix_gfm, ix_gtab, ix_i2b, ix_i2c, ix_i2l, ix_i2s, ix_iadd, ix_iald, ix_iand, ix_iast, ix_icall, ix_icmp_eq, ix_icmp_ge, ix_icmp_gt, ix_icmp_le, ix_icmp_lt, ix_icmp_ne, ix_idiv, ix_if_eq, ix_if_ge, ix_if_gt, ix_if_le, ix_if_lt, ix_if_ne, ix_iinc, ix_iload, ix_imul, ix_ineg, ix_ior, ix_irem, ix_iret, ix_ishl, ix_ishr, ix_istore, ix_isub, ix_iushr, ix_ixor, ix_l2i, ix_ladd, ix_lald, ix_land, ix_last, ix_lcmp, ix_ldcS, ix_ldiv, ix_lload, ix_lmul, ix_lor, ix_lrem, ix_lret, ix_lshl, ix_lstore, ix_lsub, ix_lsw, ix_max, ix_min, ix_new, ix_newa, ix_nret, ix_oinit, ix_pop2L, ix_popI, ix_pushI, ix_pushL, ix_putI, ix_putJ, ix_putR, ix_putZ, ix_sbald, ix_sgetC, ix_sgetV, ix_slen, ix_strc, ix_tald, ix_tsw, ix_vcall, ix_vret, ix_zret, stL, stL2, kilL, popN, fq_sw, fq_lsw, List.map_cons, List.map_nil, List.getElem?_cons_zero, List.getElem?_cons_succ, Option.toList_some, Option.toList_none, List.cons_append, List.nil_append, List.length_cons, List.length_nil, List.sum_cons, List.sum_nil, cat_i, cat_l, cat_r, true_and, and_true, Nat.zero_add, Nat.add_zero, Nat.le_refl, Nat.zero_le, Nat.reduceAdd, Nat.reduceLeDiff, exists_eq_left', Option.some.injEq, not_true_eq_false, not_false_eq_true, false_implies, true_implies, implies_true, and_self, or_true, true_or, or_false, false_or]
    grind [bI]
  · exact h.elim
def sp_X4_isLetter (G : GT) : Sp := fun as S I J z Q => match as with
  | [.int c] => Q (some (.int (bI (97 ≤ c ∧ c ≤ 122)))) S I J z
  | _ => False
set_option maxHeartbeats 4000000 in
set_option maxRecDepth 20000 in
theorem c_X4_isLetter {l : Launch} {G : GT} {D : Nat} : ∀ as S I J z Q, sp_X4_isLetter G as S I J z Q → fqCall l G M_X4_isLetter (D + 0) 0 0 as S I J z Q := by
  intro as S I J z Q h
  unfold sp_X4_isLetter at h
  split at h
  · next c =>
    refine fq_enter [some (.int c)] (by decide +kernel) (Nat.le_of_ble_eq_true rfl) rfl (b_X4_isLetter_0 _ _ _ _ _ _ _ _ ?_)
    simp (disch := omega) only [B_X4_isLetter_0, B_X4_isLetter_16, B_X4_isLetter_17, nI_1, nI_add, nI_clamp, nI_pin, nI_neg, nI_nonneg, nI_leE, nI_ltE, nI_eqE, Nat.not_le, Nat.not_lt, fq_10, fq_01, fq_rr, ix_aald, ix_aast, ix_abs, ix_alen, ix_aload, ix_aret, ix_astore, ix_bald, ix_bast, ix_call, ix_cpyI, ix_cpyJ, ix_dead, ix_dup2, ix_dup2L, ix_dupI, ix_dupR, ix_dupx1, ix_getI, ix_getJ, ix_getR, ix_gfm, ix_gtab, ix_i2b, ix_i2c, ix_i2l, ix_i2s, ix_iadd, ix_iald, ix_iand, ix_iast, ix_icall, ix_icmp_eq, ix_icmp_ge, ix_icmp_gt, ix_icmp_le, ix_icmp_lt, ix_icmp_ne, ix_idiv, ix_if_eq, ix_if_ge, ix_if_gt, ix_if_le, ix_if_lt, ix_if_ne, ix_iinc, ix_iload, ix_imul, ix_ineg, ix_ior, ix_irem, ix_iret, ix_ishl, ix_ishr, ix_istore, ix_isub, ix_iushr, ix_ixor, ix_l2i, ix_ladd, ix_lald, ix_land, ix_last, ix_lcmp, ix_ldcS, ix_ldiv, ix_lload, ix_lmul, ix_lor, ix_lrem, ix_lret, ix_lshl, ix_lstore, ix_lsub, ix_lsw, ix_max, ix_min, ix_new, ix_newa, ix_nret, ix_oinit, ix_pop2L, ix_popI, ix_pushI, ix_pushL, ix_putI, ix_putJ, ix_putR, ix_putZ, ix_sbald, ix_sgetC, ix_sgetV, ix_slen, ix_strc, ix_tald, ix_tsw, ix_vcall, ix_vret, ix_zret, stL, stL2, kilL, popN, fq_sw, fq_lsw, List.map_cons, List.map_nil, List.getElem?_cons_zero, List.getElem?_cons_succ, Option.toList_some, Option.toList_none, List.cons_append, List.nil_append, List.length_cons, List.length_nil, List.sum_cons, List.sum_nil, cat_i, cat_l, cat_r, true_and, and_true, Nat.zero_add, Nat.add_zero, Nat.le_refl, Nat.zero_le, Nat.reduceAdd, Nat.reduceLeDiff, exists_eq_left', Option.some.injEq, not_true_eq_false, not_false_eq_true, false_implies, true_implies, implies_true, and_self, or_true, true_or, or_false, false_or]
    refine ⟨fun h1 => ?_, fun h1 => ⟨fun h2 => ?_, fun h2 => ?_⟩⟩
    · rw [bI_f (fun q => Int32.not_le.mpr h1 q.1)] at h
      exact h
    · rw [bI_f (fun q => Int32.not_le.mpr h2 q.2)] at h
      exact h
    · rw [bI_t ⟨Int32.not_lt.mp h1, Int32.not_lt.mp h2⟩] at h
      exact h
  · exact h.elim
def sp_X4_isDigit (G : GT) : Sp := fun as S I J z Q => match as with
  | [.int c] => Q (some (.int (bI (48 ≤ c ∧ c ≤ 57)))) S I J z
  | _ => False
set_option maxHeartbeats 4000000 in
set_option maxRecDepth 20000 in
theorem c_X4_isDigit {l : Launch} {G : GT} {D : Nat} : ∀ as S I J z Q, sp_X4_isDigit G as S I J z Q → fqCall l G M_X4_isDigit (D + 0) 0 0 as S I J z Q := by
  intro as S I J z Q h
  unfold sp_X4_isDigit at h
  split at h
  · next c =>
    refine fq_enter [some (.int c)] (by decide +kernel) (Nat.le_of_ble_eq_true rfl) rfl (b_X4_isDigit_0 _ _ _ _ _ _ _ _ ?_)
    simp (disch := omega) only [B_X4_isDigit_0, B_X4_isDigit_16, B_X4_isDigit_17, nI_1, nI_add, nI_clamp, nI_pin, nI_neg, nI_nonneg, nI_leE, nI_ltE, nI_eqE, Nat.not_le, Nat.not_lt, fq_10, fq_01, fq_rr, ix_aald, ix_aast, ix_abs, ix_alen, ix_aload, ix_aret, ix_astore, ix_bald, ix_bast, ix_call, ix_cpyI, ix_cpyJ, ix_dead, ix_dup2, ix_dup2L, ix_dupI, ix_dupR, ix_dupx1, ix_getI, ix_getJ, ix_getR, ix_gfm, ix_gtab, ix_i2b, ix_i2c, ix_i2l, ix_i2s, ix_iadd, ix_iald, ix_iand, ix_iast, ix_icall, ix_icmp_eq, ix_icmp_ge, ix_icmp_gt, ix_icmp_le, ix_icmp_lt, ix_icmp_ne, ix_idiv, ix_if_eq, ix_if_ge, ix_if_gt, ix_if_le, ix_if_lt, ix_if_ne, ix_iinc, ix_iload, ix_imul, ix_ineg, ix_ior, ix_irem, ix_iret, ix_ishl, ix_ishr, ix_istore, ix_isub, ix_iushr, ix_ixor, ix_l2i, ix_ladd, ix_lald, ix_land, ix_last, ix_lcmp, ix_ldcS, ix_ldiv, ix_lload, ix_lmul, ix_lor, ix_lrem, ix_lret, ix_lshl, ix_lstore, ix_lsub, ix_lsw, ix_max, ix_min, ix_new, ix_newa, ix_nret, ix_oinit, ix_pop2L, ix_popI, ix_pushI, ix_pushL, ix_putI, ix_putJ, ix_putR, ix_putZ, ix_sbald, ix_sgetC, ix_sgetV, ix_slen, ix_strc, ix_tald, ix_tsw, ix_vcall, ix_vret, ix_zret, stL, stL2, kilL, popN, fq_sw, fq_lsw, List.map_cons, List.map_nil, List.getElem?_cons_zero, List.getElem?_cons_succ, Option.toList_some, Option.toList_none, List.cons_append, List.nil_append, List.length_cons, List.length_nil, List.sum_cons, List.sum_nil, cat_i, cat_l, cat_r, true_and, and_true, Nat.zero_add, Nat.add_zero, Nat.le_refl, Nat.zero_le, Nat.reduceAdd, Nat.reduceLeDiff, exists_eq_left', Option.some.injEq, not_true_eq_false, not_false_eq_true, false_implies, true_implies, implies_true, and_self, or_true, true_or, or_false, false_or]
    refine ⟨fun h1 => ?_, fun h1 => ⟨fun h2 => ?_, fun h2 => ?_⟩⟩
    · rw [bI_f (fun q => Int32.not_le.mpr h1 q.1)] at h
      exact h
    · rw [bI_f (fun q => Int32.not_le.mpr h2 q.2)] at h
      exact h
    · rw [bI_t ⟨Int32.not_lt.mp h1, Int32.not_lt.mp h2⟩] at h
      exact h
  · exact h.elim
def sp_X4_isCompare (G : GT) : Sp := fun as S I J z Q => match as with
  | [.int c] => Q (some (.int (bI (c = 60 ∨ c = 62 ∨ c = 61)))) S I J z
  | _ => False
set_option maxHeartbeats 4000000 in
set_option maxRecDepth 20000 in
theorem c_X4_isCompare {l : Launch} {G : GT} {D : Nat} : ∀ as S I J z Q, sp_X4_isCompare G as S I J z Q → fqCall l G M_X4_isCompare (D + 0) 0 0 as S I J z Q := by
  intro as S I J z Q h
  unfold sp_X4_isCompare at h
  split at h
  · next c =>
    refine fq_enter [some (.int c)] (by decide +kernel) (Nat.le_of_ble_eq_true rfl) rfl (b_X4_isCompare_0 _ _ _ _ _ _ _ _ ?_)
    simp (disch := omega) only [B_X4_isCompare_0, B_X4_isCompare_18, B_X4_isCompare_23, nI_1, nI_add, nI_clamp, nI_pin, nI_neg, nI_nonneg, nI_leE, nI_ltE, nI_eqE, Nat.not_le, Nat.not_lt, fq_10, fq_01, fq_rr, ix_aald, ix_aast, ix_abs, ix_alen, ix_aload, ix_aret, ix_astore, ix_bald, ix_bast, ix_call, ix_cpyI, ix_cpyJ, ix_dead, ix_dup2, ix_dup2L, ix_dupI, ix_dupR, ix_dupx1, ix_getI, ix_getJ, ix_getR, ix_gfm, ix_gtab, ix_i2b, ix_i2c, ix_i2l, ix_i2s, ix_iadd, ix_iald, ix_iand, ix_iast, ix_icall, ix_icmp_eq, ix_icmp_ge, ix_icmp_gt, ix_icmp_le, ix_icmp_lt, ix_icmp_ne, ix_idiv, ix_if_eq, ix_if_ge, ix_if_gt, ix_if_le, ix_if_lt, ix_if_ne, ix_iinc, ix_iload, ix_imul, ix_ineg, ix_ior, ix_irem, ix_iret, ix_ishl, ix_ishr, ix_istore, ix_isub, ix_iushr, ix_ixor, ix_l2i, ix_ladd, ix_lald, ix_land, ix_last, ix_lcmp, ix_ldcS, ix_ldiv, ix_lload, ix_lmul, ix_lor, ix_lrem, ix_lret, ix_lshl, ix_lstore, ix_lsub, ix_lsw, ix_max, ix_min, ix_new, ix_newa, ix_nret, ix_oinit, ix_pop2L, ix_popI, ix_pushI, ix_pushL, ix_putI, ix_putJ, ix_putR, ix_putZ, ix_sbald, ix_sgetC, ix_sgetV, ix_slen, ix_strc, ix_tald, ix_tsw, ix_vcall, ix_vret, ix_zret, stL, stL2, kilL, popN, fq_sw, fq_lsw, List.map_cons, List.map_nil, List.getElem?_cons_zero, List.getElem?_cons_succ, Option.toList_some, Option.toList_none, List.cons_append, List.nil_append, List.length_cons, List.length_nil, List.sum_cons, List.sum_nil, cat_i, cat_l, cat_r, true_and, and_true, Nat.zero_add, Nat.add_zero, Nat.le_refl, Nat.zero_le, Nat.reduceAdd, Nat.reduceLeDiff, exists_eq_left', Option.some.injEq, not_true_eq_false, not_false_eq_true, false_implies, true_implies, implies_true, and_self, or_true, true_or, or_false, false_or]
    grind [bI]
  · exact h.elim
theorem dX4_isSign_0 : decode cX4_isSign 0 = .ok (.iload_n 0, 1) := by decide +kernel
theorem dX4_isSign_1 : decode cX4_isSign 1 = .ok (.bipush 59, 2) := by decide +kernel
theorem dX4_isSign_3 : decode cX4_isSign 3 = .ok (.if_icmp .eq 10, 3) := by decide +kernel
theorem dX4_isSign_6 : decode cX4_isSign 6 = .ok (.iload_n 0, 1) := by decide +kernel
theorem dX4_isSign_7 : decode cX4_isSign 7 = .ok (.invokestatic 94, 3) := by decide +kernel
theorem dX4_isSign_10 : decode cX4_isSign 10 = .ok (.ifCond .eq 7, 3) := by decide +kernel
theorem dX4_isSign_13 : decode cX4_isSign 13 = .ok (.iconst 1, 1) := by decide +kernel
theorem dX4_isSign_14 : decode cX4_isSign 14 = .ok (.goto 4, 3) := by decide +kernel
theorem dX4_isSign_17 : decode cX4_isSign 17 = .ok (.iconst 0, 1) := by decide +kernel
theorem dX4_isSign_18 : decode cX4_isSign 18 = .ok (.ireturn, 1) := by decide +kernel
abbrev M_X4_isSign : MT := (yX4_isSign, cX4_isSign, 1, (some .boolean))
theorem cf_X4_isSign : fq_cf M_X4_isSign 1 := ⟨(mg_1 (List.mem_of_getElem? (i := 3) rfl) rfl), (mg_3 (List.mem_of_getElem? (i := 204) rfl) rfl), ⟨by decide, by decide, by decide +kernel⟩, by decide⟩
def B_X4_isSign_18 (G : GT) (mc ms : Nat) (Q : Post) : Cn := ix_zret mc ms Q
theorem b_X4_isSign_18 {l : Launch} {G : GT} {D mc ms : Nat} {Q : Post} : Imp l G M_X4_isSign (D + 1) mc ms Q (B_X4_isSign_18 G mc ms Q) 18 := sx_zret dX4_isSign_18 rfl
def B_X4_isSign_13 (G : GT) (mc ms : Nat) (Q : Post) : Cn := ix_pushI 1 ((B_X4_isSign_18 G mc ms Q))
theorem b_X4_isSign_13 {l : Launch} {G : GT} {D mc ms : Nat} {Q : Post} : Imp l G M_X4_isSign (D + 1) mc ms Q (B_X4_isSign_13 G mc ms Q) 13 := sx_iconst dX4_isSign_13 rfl (sx_goto 18 dX4_isSign_14 (by decide) (b_X4_isSign_18))
def B_X4_isSign_0 (G : GT) (mc ms : Nat) (Q : Post) : Cn := ix_iload 0 (ix_pushI 59 (ix_icmp_eq ((B_X4_isSign_13 G mc ms Q)) (ix_iload 0 (ix_call 1 0 0 mc ms (sp_X4_isCompare G) (ix_if_eq (ix_pushI 0 ((B_X4_isSign_18 G mc ms Q))) ((B_X4_isSign_13 G mc ms Q)))))))
theorem b_X4_isSign_0 {l : Launch} {G : GT} {D mc ms : Nat} {Q : Post} : Imp l G M_X4_isSign (D + 1) mc ms Q (B_X4_isSign_0 G mc ms Q) 0 := sx_iload_n dX4_isSign_0 rfl (sx_bipush dX4_isSign_1 rfl (sx_icmp_eq 13 dX4_isSign_3 (by decide) (b_X4_isSign_13) (sx_iload_n dX4_isSign_6 rfl (sx_scall dX4_isSign_7 cf_X4_isCompare (mg_3 (List.mem_of_getElem? (i := 205) rfl) rfl) (mg_3 (List.mem_of_getElem? (i := 206) rfl) rfl) c_X4_isCompare (sx_if_eq 17 dX4_isSign_10 (by decide) (sx_iconst dX4_isSign_17 rfl (b_X4_isSign_18)) (b_X4_isSign_13))))))
def sp_X4_isSign (G : GT) : Sp := fun as S I J z Q => match as with
  | [.int c] => Q (some (.int (bI (c = 59 ∨ c = 60 ∨ c = 62 ∨ c = 61)))) S I J z
  | _ => False
set_option maxHeartbeats 4000000 in
set_option maxRecDepth 20000 in
theorem c_X4_isSign {l : Launch} {G : GT} {D : Nat} : ∀ as S I J z Q, sp_X4_isSign G as S I J z Q → fqCall l G M_X4_isSign (D + 1) 0 0 as S I J z Q := by
  intro as S I J z Q h
  unfold sp_X4_isSign at h
  split at h
  · next c =>
    refine fq_enter [some (.int c)] (by decide +kernel) (Nat.le_of_ble_eq_true rfl) rfl (b_X4_isSign_0 _ _ _ _ _ _ _ _ ?_)
    simp (disch := omega) only [B_X4_isSign_0, B_X4_isSign_13, B_X4_isSign_18, sp_X4_isCompare, sp_X4_isCompare, bI_01, bI_01b, bI_0, nI_1, nI_add, nI_clamp, nI_pin, nI_neg, nI_nonneg, nI_leE, nI_ltE, nI_eqE, Nat.not_le, Nat.not_lt, fq_10, fq_01, fq_rr, ix_aald, ix_aast, ix_abs, ix_alen, ix_aload, ix_aret, ix_astore, ix_bald, ix_bast, ix_call, ix_cpyI, ix_cpyJ, ix_dead, ix_dup2, ix_dup2L, ix_dupI, ix_dupR, ix_dupx1, ix_getI, ix_getJ, ix_getR, ix_gfm, ix_gtab, ix_i2b, ix_i2c, ix_i2l, ix_i2s, ix_iadd, ix_iald, ix_iand, ix_iast, ix_icall, ix_icmp_eq, ix_icmp_ge, ix_icmp_gt, ix_icmp_le, ix_icmp_lt, ix_icmp_ne, ix_idiv, ix_if_eq, ix_if_ge, ix_if_gt, ix_if_le, ix_if_lt, ix_if_ne, ix_iinc, ix_iload, ix_imul, ix_ineg, ix_ior, ix_irem, ix_iret, ix_ishl, ix_ishr, ix_istore, ix_isub, ix_iushr, ix_ixor, ix_l2i, ix_ladd, ix_lald, ix_land, ix_last, ix_lcmp, ix_ldcS, ix_ldiv, ix_lload, ix_lmul, ix_lor, ix_lrem, ix_lret, ix_lshl, ix_lstore, ix_lsub, ix_lsw, ix_max, ix_min, ix_new, ix_newa, ix_nret, ix_oinit, ix_pop2L, ix_popI, ix_pushI, ix_pushL, ix_putI, ix_putJ, ix_putR, ix_putZ, ix_sbald, ix_sgetC, ix_sgetV, ix_slen, ix_strc, ix_tald, ix_tsw, ix_vcall, ix_vret, ix_zret, stL, stL2, kilL, popN, fq_sw, fq_lsw, List.map_cons, List.map_nil, List.getElem?_cons_zero, List.getElem?_cons_succ, Option.toList_some, Option.toList_none, List.cons_append, List.nil_append, List.length_cons, List.length_nil, List.sum_cons, List.sum_nil, cat_i, cat_l, cat_r, true_and, and_true, Nat.zero_add, Nat.add_zero, Nat.le_refl, Nat.zero_le, Nat.reduceAdd, Nat.reduceLeDiff, exists_eq_left', Option.some.injEq, not_true_eq_false, not_false_eq_true, false_implies, true_implies, implies_true, and_self, or_true, true_or, or_false, false_or]
    grind [bI]
  · exact h.elim
/-- the reader's shape -/
def rdZ (S : Sh) (X : Nat) : Prop := S.1 (X + 11) = 4 ∧ S.2.2 (X + 11) 0 = some (X + 10) ∧ S.2.2 (X + 11) 1 = some (X + 12) ∧ S.1 (X + 10) = 13 ∧ S.2.1 (X + 10) = 900 ∧ S.1 (X + 12) = 15 ∧ S.2.1 (X + 12) = 24
/-- what the reader stands on: the tape's bytes are those of T, the table holds the words -/
def rdE (S : Sh) (I : IH) (J : JH) (X : Nat) (T : Nat → Int32) (n : Nat) : Prop := rdZ S X ∧ n ≤ 900 ∧ (∀ k, k < n → I (X + 10) k = T k ∧ byB (T k)) ∧ ∀ i, i < 24 → J (X + 12) i = rsv i
def rdI (I : IH) (R : Nat) (nx kd nu st wd sg : Int32) : IH := fun q k => if q = R then (if k = 3 then nx else if k = 4 then kd else if k = 5 then nu else if k = 7 then st else if k = 8 then wd else if k = 9 then sg else I R k) else I q k
section RDI
variable {I : IH} {R : Nat} {nx kd nu st wd sg v : Int32}
theorem rdI_3 : rdI I R nx kd nu st wd sg R 3 = nx := by simp [rdI]
theorem rdI_4 : rdI I R nx kd nu st wd sg R 4 = kd := by simp [rdI]
theorem rdI_5 : rdI I R nx kd nu st wd sg R 5 = nu := by simp [rdI]
theorem rdI_7 : rdI I R nx kd nu st wd sg R 7 = st := by simp [rdI]
theorem rdI_8 : rdI I R nx kd nu st wd sg R 8 = wd := by simp [rdI]
theorem rdI_9 : rdI I R nx kd nu st wd sg R 9 = sg := by simp [rdI]
theorem rdI_2 : rdI I R nx kd nu st wd sg R 2 = I R 2 := by simp [rdI]
theorem rdI_o {q : Nat} (h : q ≠ R) : rdI I R nx kd nu st wd sg q = I q := by
  funext k
  simp [rdI, h]
theorem rdI_ok {q k : Nat} (h : q ≠ R) : rdI I R nx kd nu st wd sg q k = I q k := by rw [rdI_o h]
theorem rdI_k {k : Nat} (h3 : k ≠ 3) (h4 : k ≠ 4) (h5 : k ≠ 5) (h7 : k ≠ 7) (h8 : k ≠ 8) (h9 : k ≠ 9) : rdI I R nx kd nu st wd sg R k = I R k := by simp [rdI, h3, h4, h5, h7, h8, h9]
theorem rdI_u3 : u2 (rdI I R nx kd nu st wd sg) R 3 v = rdI I R v kd nu st wd sg := by
  funext q k
  unfold u2 rdI
  grind
theorem rdI_u4 : u2 (rdI I R nx kd nu st wd sg) R 4 v = rdI I R nx v nu st wd sg := by
  funext q k
  unfold u2 rdI
  grind
theorem rdI_u5 : u2 (rdI I R nx kd nu st wd sg) R 5 v = rdI I R nx kd v st wd sg := by
  funext q k
  unfold u2 rdI
  grind
theorem rdI_u7 : u2 (rdI I R nx kd nu st wd sg) R 7 v = rdI I R nx kd nu v wd sg := by
  funext q k
  unfold u2 rdI
  grind
theorem rdI_u8 : u2 (rdI I R nx kd nu st wd sg) R 8 v = rdI I R nx kd nu st v sg := by
  funext q k
  unfold u2 rdI
  grind
theorem rdI_u9 : u2 (rdI I R nx kd nu st wd sg) R 9 v = rdI I R nx kd nu st wd v := by
  funext q k
  unfold u2 rdI
  grind
theorem rdI_id : rdI I R (I R 3) (I R 4) (I R 5) (I R 7) (I R 8) (I R 9) = I := by
  funext q k
  unfold rdI
  grind
end RDI
theorem u2_u2 {α : Type} (f : Nat → Nat → α) (a k : Nat) (v w : α) : u2 (u2 f a k v) a k w = u2 f a k w := by
  funext q j
  unfold u2
  split <;> rfl
theorem u2_id {α : Type} {f : Nat → Nat → α} {a k : Nat} {v : α} (h : f a k = v) : u2 f a k v = f := by
  funext q j
  unfold u2
  split
  · next q => rw [q.1, q.2, h]
  · rfl
theorem dX4_readNumber_0 : decode cX4_readNumber 0 = .ok (.aload_n 0, 1) := by decide +kernel
theorem dX4_readNumber_1 : decode cX4_readNumber 1 = .ok (.getfield 60, 3) := by decide +kernel
theorem dX4_readNumber_4 : decode cX4_readNumber 4 = .ok (.istore_n 1, 1) := by decide +kernel
theorem dX4_readNumber_5 : decode cX4_readNumber 5 = .ok (.iload_n 1, 1) := by decide +kernel
theorem dX4_readNumber_6 : decode cX4_readNumber 6 = .ok (.aload_n 0, 1) := by decide +kernel
theorem dX4_readNumber_7 : decode cX4_readNumber 7 = .ok (.getfield 41, 3) := by decide +kernel
theorem dX4_readNumber_10 : decode cX4_readNumber 10 = .ok (.if_icmp .ge 52, 3) := by decide +kernel
theorem dX4_readNumber_13 : decode cX4_readNumber 13 = .ok (.aload_n 0, 1) := by decide +kernel
theorem dX4_readNumber_14 : decode cX4_readNumber 14 = .ok (.getfield 9, 3) := by decide +kernel
theorem dX4_readNumber_17 : decode cX4_readNumber 17 = .ok (.iload_n 1, 1) := by decide +kernel
theorem dX4_readNumber_18 : decode cX4_readNumber 18 = .ok (.baload, 1) := by decide +kernel
theorem dX4_readNumber_19 : decode cX4_readNumber 19 = .ok (.invokestatic 85, 3) := by decide +kernel
theorem dX4_readNumber_22 : decode cX4_readNumber 22 = .ok (.ifCond .eq 40, 3) := by decide +kernel
theorem dX4_readNumber_25 : decode cX4_readNumber 25 = .ok (.aload_n 0, 1) := by decide +kernel
theorem dX4_readNumber_26 : decode cX4_readNumber 26 = .ok (.aload_n 0, 1) := by decide +kernel
theorem dX4_readNumber_27 : decode cX4_readNumber 27 = .ok (.getfield 73, 3) := by decide +kernel
theorem dX4_readNumber_30 : decode cX4_readNumber 30 = .ok (.bipush 10, 2) := by decide +kernel
theorem dX4_readNumber_32 : decode cX4_readNumber 32 = .ok (.imul, 1) := by decide +kernel
theorem dX4_readNumber_33 : decode cX4_readNumber 33 = .ok (.aload_n 0, 1) := by decide +kernel
theorem dX4_readNumber_34 : decode cX4_readNumber 34 = .ok (.getfield 9, 3) := by decide +kernel
theorem dX4_readNumber_37 : decode cX4_readNumber 37 = .ok (.iload_n 1, 1) := by decide +kernel
theorem dX4_readNumber_38 : decode cX4_readNumber 38 = .ok (.baload, 1) := by decide +kernel
theorem dX4_readNumber_39 : decode cX4_readNumber 39 = .ok (.iadd, 1) := by decide +kernel
theorem dX4_readNumber_40 : decode cX4_readNumber 40 = .ok (.bipush 48, 2) := by decide +kernel
theorem dX4_readNumber_42 : decode cX4_readNumber 42 = .ok (.isub, 1) := by decide +kernel
theorem dX4_readNumber_43 : decode cX4_readNumber 43 = .ok (.putfield 73, 3) := by decide +kernel
theorem dX4_readNumber_46 : decode cX4_readNumber 46 = .ok (.aload_n 0, 1) := by decide +kernel
theorem dX4_readNumber_47 : decode cX4_readNumber 47 = .ok (.dup, 1) := by decide +kernel
theorem dX4_readNumber_48 : decode cX4_readNumber 48 = .ok (.getfield 44, 3) := by decide +kernel
theorem dX4_readNumber_51 : decode cX4_readNumber 51 = .ok (.iconst 1, 1) := by decide +kernel
theorem dX4_readNumber_52 : decode cX4_readNumber 52 = .ok (.iadd, 1) := by decide +kernel
theorem dX4_readNumber_53 : decode cX4_readNumber 53 = .ok (.putfield 44, 3) := by decide +kernel
theorem dX4_readNumber_56 : decode cX4_readNumber 56 = .ok (.iinc 1 1, 3) := by decide +kernel
theorem dX4_readNumber_59 : decode cX4_readNumber 59 = .ok (.goto (-54), 3) := by decide +kernel
theorem dX4_readNumber_62 : decode cX4_readNumber 62 = .ok (.aload_n 0, 1) := by decide +kernel
theorem dX4_readNumber_63 : decode cX4_readNumber 63 = .ok (.getfield 44, 3) := by decide +kernel
theorem dX4_readNumber_66 : decode cX4_readNumber 66 = .ok (.aload_n 0, 1) := by decide +kernel
theorem dX4_readNumber_67 : decode cX4_readNumber 67 = .ok (.getfield 60, 3) := by decide +kernel
theorem dX4_readNumber_70 : decode cX4_readNumber 70 = .ok (.isub, 1) := by decide +kernel
theorem dX4_readNumber_71 : decode cX4_readNumber 71 = .ok (.iconst 4, 1) := by decide +kernel
theorem dX4_readNumber_72 : decode cX4_readNumber 72 = .ok (.if_icmp .gt 8, 3) := by decide +kernel
theorem dX4_readNumber_75 : decode cX4_readNumber 75 = .ok (.aload_n 0, 1) := by decide +kernel
theorem dX4_readNumber_76 : decode cX4_readNumber 76 = .ok (.iconst 3, 1) := by decide +kernel
theorem dX4_readNumber_77 : decode cX4_readNumber 77 = .ok (.putfield 76, 3) := by decide +kernel
theorem dX4_readNumber_80 : decode cX4_readNumber 80 = .ok (.return_, 1) := by decide +kernel
abbrev M_X4_readNumber : MT := (yX4_readNumber, cX4_readNumber, 2, none)
theorem cf_X4_readNumber : fq_cf M_X4_readNumber 0 := ⟨(mg_1 (List.mem_of_getElem? (i := 3) rfl) rfl), (mg_3 (List.mem_of_getElem? (i := 201) rfl) rfl), ⟨by decide, by decide, by decide +kernel⟩, by decide⟩
def B_X4_readNumber_80 (l : Launch) (G : GT) (D mc ms : Nat) (Q : Post) : Cn := ix_vret mc ms Q
theorem b_X4_readNumber_80 {l : Launch} {G : GT} {D mc ms : Nat} {Q : Post} : Imp l G M_X4_readNumber (D + 1) mc ms Q (B_X4_readNumber_80 l G D mc ms Q) 80 := sx_vret dX4_readNumber_80 rfl
def B_X4_readNumber_62 (l : Launch) (G : GT) (D mc ms : Nat) (Q : Post) : Cn := ix_aload 0 (ix_getI 4 3 (ix_aload 0 (ix_getI 4 7 (ix_isub (ix_pushI 4 (ix_icmp_gt ((B_X4_readNumber_80 l G D mc ms Q)) (ix_aload 0 (ix_pushI 3 (ix_putI 4 4 ((B_X4_readNumber_80 l G D mc ms Q)))))))))))
theorem b_X4_readNumber_62 {l : Launch} {G : GT} {D mc ms : Nat} {Q : Post} : Imp l G M_X4_readNumber (D + 1) mc ms Q (B_X4_readNumber_62 l G D mc ms Q) 62 := sx_aload_n dX4_readNumber_62 rfl (sx_getI dX4_readNumber_63 fl_FootQuarrel_Reader_44 (fun _ _ _ => rfl) (sx_aload_n dX4_readNumber_66 rfl (sx_getI dX4_readNumber_67 fl_FootQuarrel_Reader_60 (fun _ _ _ => rfl) (sx_isub dX4_readNumber_70 (sx_iconst dX4_readNumber_71 rfl (sx_icmp_gt 80 dX4_readNumber_72 (by decide) (b_X4_readNumber_80) (sx_aload_n dX4_readNumber_75 rfl (sx_iconst dX4_readNumber_76 rfl (sx_putI dX4_readNumber_77 fl_FootQuarrel_Reader_76 (by decide) (fun _ _ _ => rfl) (fun _ => ⟨rfl, rfl⟩) (b_X4_readNumber_80))))))))))
def B_X4_readNumber_5 (l : Launch) (G : GT) (D mc ms : Nat) (Q : Post) : Cn := ix_iload 1 (ix_aload 0 (ix_getI 4 2 (ix_icmp_ge ((B_X4_readNumber_62 l G D mc ms Q)) (ix_aload 0 (ix_getR 4 0 (ix_iload 1 (ix_bald (ix_call 1 0 0 mc ms (sp_X4_isDigit G) (ix_if_eq ((B_X4_readNumber_62 l G D mc ms Q)) (ix_aload 0 (ix_aload 0 (ix_getI 4 5 (ix_pushI 10 (ix_imul (ix_aload 0 (ix_getR 4 0 (ix_iload 1 (ix_bald (ix_iadd (ix_pushI 48 (ix_isub (ix_putI 4 5 (ix_aload 0 (ix_dupR (ix_getI 4 3 (ix_pushI 1 (ix_iadd (ix_putI 4 3 (ix_iinc 1 1 (fqAt l G M_X4_readNumber (D + 1) mc ms Q 5))))))))))))))))))))))))))))))
theorem b_X4_readNumber_5 {l : Launch} {G : GT} {D mc ms : Nat} {Q : Post} : Imp l G M_X4_readNumber (D + 1) mc ms Q (B_X4_readNumber_5 l G D mc ms Q) 5 := sx_iload_n dX4_readNumber_5 rfl (sx_aload_n dX4_readNumber_6 rfl (sx_getI dX4_readNumber_7 fl_FootQuarrel_Reader_41 (fun _ _ _ => rfl) (sx_icmp_ge 62 dX4_readNumber_10 (by decide) (b_X4_readNumber_62) (sx_aload_n dX4_readNumber_13 rfl (sx_getR dX4_readNumber_14 fl_FootQuarrel_Reader_9 (fun _ _ _ => rfl) (sx_iload_n dX4_readNumber_17 rfl (sx_bald dX4_readNumber_18 (sx_scall dX4_readNumber_19 cf_X4_isDigit (mg_3 (List.mem_of_getElem? (i := 195) rfl) rfl) (mg_3 (List.mem_of_getElem? (i := 196) rfl) rfl) c_X4_isDigit (sx_if_eq 62 dX4_readNumber_22 (by decide) (b_X4_readNumber_62) (sx_aload_n dX4_readNumber_25 rfl (sx_aload_n dX4_readNumber_26 rfl (sx_getI dX4_readNumber_27 fl_FootQuarrel_Reader_73 (fun _ _ _ => rfl) (sx_bipush dX4_readNumber_30 rfl (sx_imul dX4_readNumber_32 (sx_aload_n dX4_readNumber_33 rfl (sx_getR dX4_readNumber_34 fl_FootQuarrel_Reader_9 (fun _ _ _ => rfl) (sx_iload_n dX4_readNumber_37 rfl (sx_bald dX4_readNumber_38 (sx_iadd dX4_readNumber_39 (sx_bipush dX4_readNumber_40 rfl (sx_isub dX4_readNumber_42 (sx_putI dX4_readNumber_43 fl_FootQuarrel_Reader_73 (by decide) (fun _ _ _ => rfl) (fun _ => ⟨rfl, rfl⟩) (sx_aload_n dX4_readNumber_46 rfl (sx_dupR dX4_readNumber_47 (sx_getI dX4_readNumber_48 fl_FootQuarrel_Reader_44 (fun _ _ _ => rfl) (sx_iconst dX4_readNumber_51 rfl (sx_iadd dX4_readNumber_52 (sx_putI dX4_readNumber_53 fl_FootQuarrel_Reader_44 (by decide) (fun _ _ _ => rfl) (fun _ => ⟨rfl, rfl⟩) (sx_iinc dX4_readNumber_56 rfl (by decide) (sx_goto 5 dX4_readNumber_59 (by decide) ((fun _ _ _ _ _ _ _ _ h => h))))))))))))))))))))))))))))))))
def B_X4_readNumber_0 (l : Launch) (G : GT) (D mc ms : Nat) (Q : Post) : Cn := ix_aload 0 (ix_getI 4 7 (ix_istore 1 (fqAt l G M_X4_readNumber (D + 1) mc ms Q 5)))
theorem b_X4_readNumber_0 {l : Launch} {G : GT} {D mc ms : Nat} {Q : Post} : Imp l G M_X4_readNumber (D + 1) mc ms Q (B_X4_readNumber_0 l G D mc ms Q) 0 := sx_aload_n dX4_readNumber_0 rfl (sx_getI dX4_readNumber_1 fl_FootQuarrel_Reader_60 (fun _ _ _ => rfl) (sx_istore_n dX4_readNumber_4 rfl (by decide) ((fun _ _ _ _ _ _ _ _ h => h))))
theorem dX4_readWord_0 : decode cX4_readWord 0 = .ok (.aload_n 0, 1) := by decide +kernel
theorem dX4_readWord_1 : decode cX4_readWord 1 = .ok (.getfield 60, 3) := by decide +kernel
theorem dX4_readWord_4 : decode cX4_readWord 4 = .ok (.istore_n 1, 1) := by decide +kernel
theorem dX4_readWord_5 : decode cX4_readWord 5 = .ok (.iload_n 1, 1) := by decide +kernel
theorem dX4_readWord_6 : decode cX4_readWord 6 = .ok (.aload_n 0, 1) := by decide +kernel
theorem dX4_readWord_7 : decode cX4_readWord 7 = .ok (.getfield 41, 3) := by decide +kernel
theorem dX4_readWord_10 : decode cX4_readWord 10 = .ok (.if_icmp .ge 48, 3) := by decide +kernel
theorem dX4_readWord_13 : decode cX4_readWord 13 = .ok (.aload_n 0, 1) := by decide +kernel
theorem dX4_readWord_14 : decode cX4_readWord 14 = .ok (.getfield 9, 3) := by decide +kernel
theorem dX4_readWord_17 : decode cX4_readWord 17 = .ok (.iload_n 1, 1) := by decide +kernel
theorem dX4_readWord_18 : decode cX4_readWord 18 = .ok (.baload, 1) := by decide +kernel
theorem dX4_readWord_19 : decode cX4_readWord 19 = .ok (.invokestatic 79, 3) := by decide +kernel
theorem dX4_readWord_22 : decode cX4_readWord 22 = .ok (.ifCond .eq 36, 3) := by decide +kernel
theorem dX4_readWord_25 : decode cX4_readWord 25 = .ok (.aload_n 0, 1) := by decide +kernel
theorem dX4_readWord_26 : decode cX4_readWord 26 = .ok (.aload_n 0, 1) := by decide +kernel
theorem dX4_readWord_27 : decode cX4_readWord 27 = .ok (.getfield 69, 3) := by decide +kernel
theorem dX4_readWord_30 : decode cX4_readWord 30 = .ok (.aload_n 0, 1) := by decide +kernel
theorem dX4_readWord_31 : decode cX4_readWord 31 = .ok (.getfield 9, 3) := by decide +kernel
theorem dX4_readWord_34 : decode cX4_readWord 34 = .ok (.iload_n 1, 1) := by decide +kernel
theorem dX4_readWord_35 : decode cX4_readWord 35 = .ok (.baload, 1) := by decide +kernel
theorem dX4_readWord_36 : decode cX4_readWord 36 = .ok (.invokestatic 31, 3) := by decide +kernel
theorem dX4_readWord_39 : decode cX4_readWord 39 = .ok (.putfield 69, 3) := by decide +kernel
theorem dX4_readWord_42 : decode cX4_readWord 42 = .ok (.aload_n 0, 1) := by decide +kernel
theorem dX4_readWord_43 : decode cX4_readWord 43 = .ok (.dup, 1) := by decide +kernel
theorem dX4_readWord_44 : decode cX4_readWord 44 = .ok (.getfield 44, 3) := by decide +kernel
theorem dX4_readWord_47 : decode cX4_readWord 47 = .ok (.iconst 1, 1) := by decide +kernel
theorem dX4_readWord_48 : decode cX4_readWord 48 = .ok (.iadd, 1) := by decide +kernel
theorem dX4_readWord_49 : decode cX4_readWord 49 = .ok (.putfield 44, 3) := by decide +kernel
theorem dX4_readWord_52 : decode cX4_readWord 52 = .ok (.iinc 1 1, 3) := by decide +kernel
theorem dX4_readWord_55 : decode cX4_readWord 55 = .ok (.goto (-50), 3) := by decide +kernel
theorem dX4_readWord_58 : decode cX4_readWord 58 = .ok (.aload_n 0, 1) := by decide +kernel
theorem dX4_readWord_59 : decode cX4_readWord 59 = .ok (.iconst 2, 1) := by decide +kernel
theorem dX4_readWord_60 : decode cX4_readWord 60 = .ok (.putfield 76, 3) := by decide +kernel
theorem dX4_readWord_63 : decode cX4_readWord 63 = .ok (.aload_n 0, 1) := by decide +kernel
theorem dX4_readWord_64 : decode cX4_readWord 64 = .ok (.getfield 44, 3) := by decide +kernel
theorem dX4_readWord_67 : decode cX4_readWord 67 = .ok (.aload_n 0, 1) := by decide +kernel
theorem dX4_readWord_68 : decode cX4_readWord 68 = .ok (.getfield 60, 3) := by decide +kernel
theorem dX4_readWord_71 : decode cX4_readWord 71 = .ok (.isub, 1) := by decide +kernel
theorem dX4_readWord_72 : decode cX4_readWord 72 = .ok (.bipush 8, 2) := by decide +kernel
theorem dX4_readWord_74 : decode cX4_readWord 74 = .ok (.if_icmp .le 8, 3) := by decide +kernel
theorem dX4_readWord_77 : decode cX4_readWord 77 = .ok (.aload_n 0, 1) := by decide +kernel
theorem dX4_readWord_78 : decode cX4_readWord 78 = .ok (.lconst 0, 1) := by decide +kernel
theorem dX4_readWord_79 : decode cX4_readWord 79 = .ok (.putfield 69, 3) := by decide +kernel
theorem dX4_readWord_82 : decode cX4_readWord 82 = .ok (.iconst 0, 1) := by decide +kernel
theorem dX4_readWord_83 : decode cX4_readWord 83 = .ok (.istore_n 1, 1) := by decide +kernel
theorem dX4_readWord_84 : decode cX4_readWord 84 = .ok (.iload_n 1, 1) := by decide +kernel
theorem dX4_readWord_85 : decode cX4_readWord 85 = .ok (.bipush 24, 2) := by decide +kernel
theorem dX4_readWord_87 : decode cX4_readWord 87 = .ok (.if_icmp .ge 28, 3) := by decide +kernel
theorem dX4_readWord_90 : decode cX4_readWord 90 = .ok (.aload_n 0, 1) := by decide +kernel
theorem dX4_readWord_91 : decode cX4_readWord 91 = .ok (.getfield 15, 3) := by decide +kernel
theorem dX4_readWord_94 : decode cX4_readWord 94 = .ok (.iload_n 1, 1) := by decide +kernel
theorem dX4_readWord_95 : decode cX4_readWord 95 = .ok (.laload, 1) := by decide +kernel
theorem dX4_readWord_96 : decode cX4_readWord 96 = .ok (.aload_n 0, 1) := by decide +kernel
theorem dX4_readWord_97 : decode cX4_readWord 97 = .ok (.getfield 69, 3) := by decide +kernel
theorem dX4_readWord_100 : decode cX4_readWord 100 = .ok (.lcmp, 1) := by decide +kernel
theorem dX4_readWord_101 : decode cX4_readWord 101 = .ok (.ifCond .ne 8, 3) := by decide +kernel
theorem dX4_readWord_104 : decode cX4_readWord 104 = .ok (.aload_n 0, 1) := by decide +kernel
theorem dX4_readWord_105 : decode cX4_readWord 105 = .ok (.iload_n 1, 1) := by decide +kernel
theorem dX4_readWord_106 : decode cX4_readWord 106 = .ok (.putfield 63, 3) := by decide +kernel
theorem dX4_readWord_109 : decode cX4_readWord 109 = .ok (.iinc 1 1, 3) := by decide +kernel
theorem dX4_readWord_112 : decode cX4_readWord 112 = .ok (.goto (-28), 3) := by decide +kernel
theorem dX4_readWord_115 : decode cX4_readWord 115 = .ok (.return_, 1) := by decide +kernel
abbrev M_X4_readWord : MT := (yX4_readWord, cX4_readWord, 2, none)
theorem cf_X4_readWord : fq_cf M_X4_readWord 0 := ⟨(mg_1 (List.mem_of_getElem? (i := 3) rfl) rfl), (mg_3 (List.mem_of_getElem? (i := 194) rfl) rfl), ⟨by decide, by decide, by decide +kernel⟩, by decide⟩
def B_X4_readWord_109 (l : Launch) (G : GT) (D mc ms : Nat) (Q : Post) : Cn := ix_iinc 1 1 (fqAt l G M_X4_readWord (D + 1) mc ms Q 84)
theorem b_X4_readWord_109 {l : Launch} {G : GT} {D mc ms : Nat} {Q : Post} : Imp l G M_X4_readWord (D + 1) mc ms Q (B_X4_readWord_109 l G D mc ms Q) 109 := sx_iinc dX4_readWord_109 rfl (by decide) (sx_goto 84 dX4_readWord_112 (by decide) ((fun _ _ _ _ _ _ _ _ h => h)))
def B_X4_readWord_84 (l : Launch) (G : GT) (D mc ms : Nat) (Q : Post) : Cn := ix_iload 1 (ix_pushI 24 (ix_icmp_ge (ix_vret mc ms Q) (ix_aload 0 (ix_getR 4 1 (ix_iload 1 (ix_lald (ix_aload 0 (ix_getJ 4 6 (ix_lcmp (ix_if_ne ((B_X4_readWord_109 l G D mc ms Q)) (ix_aload 0 (ix_iload 1 (ix_putI 4 8 ((B_X4_readWord_109 l G D mc ms Q)))))))))))))))
theorem b_X4_readWord_84 {l : Launch} {G : GT} {D mc ms : Nat} {Q : Post} : Imp l G M_X4_readWord (D + 1) mc ms Q (B_X4_readWord_84 l G D mc ms Q) 84 := sx_iload_n dX4_readWord_84 rfl (sx_bipush dX4_readWord_85 rfl (sx_icmp_ge 115 dX4_readWord_87 (by decide) (sx_vret dX4_readWord_115 rfl) (sx_aload_n dX4_readWord_90 rfl (sx_getR dX4_readWord_91 fl_FootQuarrel_Reader_15 (fun _ _ _ => rfl) (sx_iload_n dX4_readWord_94 rfl (sx_lald dX4_readWord_95 (sx_aload_n dX4_readWord_96 rfl (sx_getJ dX4_readWord_97 fl_FootQuarrel_Reader_69 (fun _ _ _ => rfl) (sx_lcmp dX4_readWord_100 (sx_if_ne 109 dX4_readWord_101 (by decide) (b_X4_readWord_109) (sx_aload_n dX4_readWord_104 rfl (sx_iload_n dX4_readWord_105 rfl (sx_putI dX4_readWord_106 fl_FootQuarrel_Reader_63 (by decide) (fun _ _ _ => rfl) (fun _ => ⟨rfl, rfl⟩) (b_X4_readWord_109))))))))))))))
def B_X4_readWord_82 (l : Launch) (G : GT) (D mc ms : Nat) (Q : Post) : Cn := ix_pushI 0 (ix_istore 1 (fqAt l G M_X4_readWord (D + 1) mc ms Q 84))
theorem b_X4_readWord_82 {l : Launch} {G : GT} {D mc ms : Nat} {Q : Post} : Imp l G M_X4_readWord (D + 1) mc ms Q (B_X4_readWord_82 l G D mc ms Q) 82 := sx_iconst dX4_readWord_82 rfl (sx_istore_n dX4_readWord_83 rfl (by decide) ((fun _ _ _ _ _ _ _ _ h => h)))
def B_X4_readWord_58 (l : Launch) (G : GT) (D mc ms : Nat) (Q : Post) : Cn := ix_aload 0 (ix_pushI 2 (ix_putI 4 4 (ix_aload 0 (ix_getI 4 3 (ix_aload 0 (ix_getI 4 7 (ix_isub (ix_pushI 8 (ix_icmp_le ((B_X4_readWord_82 l G D mc ms Q)) (ix_aload 0 (ix_pushL 0 (ix_putJ 4 6 ((B_X4_readWord_82 l G D mc ms Q))))))))))))))
theorem b_X4_readWord_58 {l : Launch} {G : GT} {D mc ms : Nat} {Q : Post} : Imp l G M_X4_readWord (D + 1) mc ms Q (B_X4_readWord_58 l G D mc ms Q) 58 := sx_aload_n dX4_readWord_58 rfl (sx_iconst dX4_readWord_59 rfl (sx_putI dX4_readWord_60 fl_FootQuarrel_Reader_76 (by decide) (fun _ _ _ => rfl) (fun _ => ⟨rfl, rfl⟩) (sx_aload_n dX4_readWord_63 rfl (sx_getI dX4_readWord_64 fl_FootQuarrel_Reader_44 (fun _ _ _ => rfl) (sx_aload_n dX4_readWord_67 rfl (sx_getI dX4_readWord_68 fl_FootQuarrel_Reader_60 (fun _ _ _ => rfl) (sx_isub dX4_readWord_71 (sx_bipush dX4_readWord_72 rfl (sx_icmp_le 82 dX4_readWord_74 (by decide) (b_X4_readWord_82) (sx_aload_n dX4_readWord_77 rfl (sx_lconst dX4_readWord_78 rfl (sx_putJ dX4_readWord_79 fl_FootQuarrel_Reader_69 (by decide) (fun _ _ _ => rfl) (fun _ => ⟨rfl, rfl⟩) (b_X4_readWord_82)))))))))))))
def B_X4_readWord_5 (l : Launch) (G : GT) (D mc ms : Nat) (Q : Post) : Cn := ix_iload 1 (ix_aload 0 (ix_getI 4 2 (ix_icmp_ge ((B_X4_readWord_58 l G D mc ms Q)) (ix_aload 0 (ix_getR 4 0 (ix_iload 1 (ix_bald (ix_call 1 0 0 mc ms (sp_X4_isLetter G) (ix_if_eq ((B_X4_readWord_58 l G D mc ms Q)) (ix_aload 0 (ix_aload 0 (ix_getJ 4 6 (ix_aload 0 (ix_getR 4 0 (ix_iload 1 (ix_bald (ix_call 2 0 0 mc ms (sp_X4_withLetter G) (ix_putJ 4 6 (ix_aload 0 (ix_dupR (ix_getI 4 3 (ix_pushI 1 (ix_iadd (ix_putI 4 3 (ix_iinc 1 1 (fqAt l G M_X4_readWord (D + 1) mc ms Q 5))))))))))))))))))))))))))
theorem b_X4_readWord_5 {l : Launch} {G : GT} {D mc ms : Nat} {Q : Post} : Imp l G M_X4_readWord (D + 1) mc ms Q (B_X4_readWord_5 l G D mc ms Q) 5 := sx_iload_n dX4_readWord_5 rfl (sx_aload_n dX4_readWord_6 rfl (sx_getI dX4_readWord_7 fl_FootQuarrel_Reader_41 (fun _ _ _ => rfl) (sx_icmp_ge 58 dX4_readWord_10 (by decide) (b_X4_readWord_58) (sx_aload_n dX4_readWord_13 rfl (sx_getR dX4_readWord_14 fl_FootQuarrel_Reader_9 (fun _ _ _ => rfl) (sx_iload_n dX4_readWord_17 rfl (sx_bald dX4_readWord_18 (sx_scall dX4_readWord_19 cf_X4_isLetter (mg_3 (List.mem_of_getElem? (i := 188) rfl) rfl) (mg_3 (List.mem_of_getElem? (i := 189) rfl) rfl) c_X4_isLetter (sx_if_eq 58 dX4_readWord_22 (by decide) (b_X4_readWord_58) (sx_aload_n dX4_readWord_25 rfl (sx_aload_n dX4_readWord_26 rfl (sx_getJ dX4_readWord_27 fl_FootQuarrel_Reader_69 (fun _ _ _ => rfl) (sx_aload_n dX4_readWord_30 rfl (sx_getR dX4_readWord_31 fl_FootQuarrel_Reader_9 (fun _ _ _ => rfl) (sx_iload_n dX4_readWord_34 rfl (sx_bald dX4_readWord_35 (sx_scall dX4_readWord_36 cf_X4_withLetter (mg_1 (List.mem_of_getElem? (i := 105) rfl) rfl) (mg_1 (List.mem_of_getElem? (i := 106) rfl) rfl) c_X4_withLetter (sx_putJ dX4_readWord_39 fl_FootQuarrel_Reader_69 (by decide) (fun _ _ _ => rfl) (fun _ => ⟨rfl, rfl⟩) (sx_aload_n dX4_readWord_42 rfl (sx_dupR dX4_readWord_43 (sx_getI dX4_readWord_44 fl_FootQuarrel_Reader_44 (fun _ _ _ => rfl) (sx_iconst dX4_readWord_47 rfl (sx_iadd dX4_readWord_48 (sx_putI dX4_readWord_49 fl_FootQuarrel_Reader_44 (by decide) (fun _ _ _ => rfl) (fun _ => ⟨rfl, rfl⟩) (sx_iinc dX4_readWord_52 rfl (by decide) (sx_goto 5 dX4_readWord_55 (by decide) ((fun _ _ _ _ _ _ _ _ h => h))))))))))))))))))))))))))))
def B_X4_readWord_0 (l : Launch) (G : GT) (D mc ms : Nat) (Q : Post) : Cn := ix_aload 0 (ix_getI 4 7 (ix_istore 1 (fqAt l G M_X4_readWord (D + 1) mc ms Q 5)))
theorem b_X4_readWord_0 {l : Launch} {G : GT} {D mc ms : Nat} {Q : Post} : Imp l G M_X4_readWord (D + 1) mc ms Q (B_X4_readWord_0 l G D mc ms Q) 0 := sx_aload_n dX4_readWord_0 rfl (sx_getI dX4_readWord_1 fl_FootQuarrel_Reader_60 (fun _ _ _ => rfl) (sx_istore_n dX4_readWord_4 rfl (by decide) ((fun _ _ _ _ _ _ _ _ h => h))))
theorem dgC_1 (T : Nat → Int32) (n f e : Nat) (v : Int32) : dgC T n (f + 1) e v = if isDg (byA T n e) then dgC T n f (e + 1) (v * 10 + T e - 48) else v := rfl
def rnI (I : IH) (R : Nat) (T : Nat → Int32) (n fr : Nat) : IH := rdI I R (nI (scD T n fr)) (if scD T n fr - fr ≤ 4 then 3 else I R 4) (dgC T n (n - fr) fr (I R 5)) (I R 7) (I R 8) (I R 9)
def sp_X4_readNumber (G : GT) : Sp := fun as S I J z Q => match as with
  | [.ref R] => ∃ X T n fr, R = X + 11 ∧ rdE S I J X T n ∧ I R 2 = nI n ∧ I R 7 = nI fr ∧ I R 3 = nI fr ∧ fr ≤ n ∧ Q none S (rnI I R T n fr) J z
  | _ => False
set_option maxHeartbeats 4000000 in
set_option maxRecDepth 20000 in
theorem c_X4_readNumber {l : Launch} {G : GT} {D : Nat} : ∀ as S I J z Q, sp_X4_readNumber G as S I J z Q → fqCall l G M_X4_readNumber (D + 1) 0 0 as S I J z Q := by
  intro as S I J z Q h
  unfold sp_X4_readNumber at h
  split at h
  · next R =>
    obtain ⟨X, T, n, fr, rfl, ⟨⟨s1, s2, s3, s4, s5, s6, s7⟩, n9, hT, hJ⟩, h2, h7, h3, hf, hQ⟩ := h
    have fin : ∀ (e : Nat) (v : Int32) (o : Option Value), e = scD T n fr → v = dgC T n (n - fr) fr (I (X + 11) 5) → B_X4_readNumber_62 l G D 0 0 Q [some (.ref (X + 11)), o] [] S (rdI I (X + 11) (nI e) (I (X + 11) 4) v (I (X + 11) 7) (I (X + 11) 8) (I (X + 11) 9)) J z 0 0 := by
      intro e v o he hv
      have le := scX_le (p := fun c => decide (isDg c)) (T := T) hf
      have le : fr ≤ e ∧ e ≤ n := by rw [he]; exact le
      unfold rnI at hQ
      rw [← he, ← hv] at hQ
      have es : nI e - nI fr = nI (e - fr) := by
        rw [show e = (e - fr) + fr by omega, ← nI_add, Int32.add_sub_cancel, show e - fr + fr - fr = e - fr by omega]
      simp (disch := omega) only [B_X4_readNumber_62, B_X4_readNumber_80, s1, s2, s4, s5, h7, es, rdI_2, rdI_3, rdI_4, rdI_5, rdI_7, rdI_u4, nI_1, nI_add, nI_clamp, nI_pin, nI_neg, nI_nonneg, nI_leE, nI_ltE, nI_eqE, Nat.not_le, Nat.not_lt, fq_10, fq_01, fq_rr, li_2, li_3, li_4, li_5, li_6, li_7, li_8, li_9, li_10, li_11, li_12, li_13, li_14, li_15, li_16, li_17, li_18, li_19, li_20, li_21, li_22, li_23, li_24, li_25, li_26, li_27, li_28, li_29, li_30, li_32, li_33, li_34, li_35, li_36, li_37, li_38, li_39, li_40, li_41, li_42, li_43, li_44, li_45, li_46, li_47, li_48, li_49, li_50, li_51, li_52, li_53, li_54, li_55, li_56, li_57, li_58, li_59, li_60, li_61, li_62, li_63, li_64, li_65, li_66, li_67, li_68, li_69, li_70, li_71, li_72, li_73, li_74, li_75, li_76, li_77, li_78, li_79, li_80, li_81, li_82, li_83, li_84, li_85, li_86, li_87, li_88, li_89, li_90, li_91, li_92, li_93, li_94, li_95, li_96, li_97, li_98, li_99, li_100, li_101, li_102, li_103, li_104, li_105, li_106, li_107, li_108, li_109, li_110, li_111, li_112, li_113, li_114, li_115, li_116, li_117, li_118, li_119, li_120, li_121, li_122, li_123, li_124, li_125, li_126, li_127, li_128, li_129, li_130, li_131, li_226, li_240, li_255, li_300, li_586, li_594, li_900, li_999, li_1000, li_1800, li_2376, li_2388, li_2406, li_2602, li_2970, li_3067, li_3564, li_9999, li_10000, li_11287, li_65536, li_100000, li_1000000, nI_mul, tn0, tn1, vin0, vin1, Int32.add_zero, Int32.or_zero, Int32.mul_one, Int32.mul_zero, Int32.zero_add, Nat.reduceEqDiff, Nat.reduceMul, Nat.reduceSub, ix_aald, ix_aast, ix_abs, ix_alen, ix_aload, ix_aret, ix_astore, ix_bald, ix_bast, ix_call, ix_cpyI, ix_cpyJ, ix_dead, ix_dup2, ix_dup2L, ix_dupI, ix_dupR, ix_dupx1, ix_getI, ix_getJ, ix_getR, ix_gfm, ix_gtab, ix_i2b, ix_i2c, ix_i2l, ix_i2s, ix_iadd, ix_iald, ix_iand, ix_iast, ix_icall, ix_icmp_eq, ix_icmp_ge, ix_icmp_gt, ix_icmp_le, ix_icmp_lt, ix_icmp_ne, ix_idiv, ix_if_eq, ix_if_ge, ix_if_gt, ix_if_le, ix_if_lt, ix_if_ne, ix_iinc, ix_iload, ix_imul, ix_ineg, ix_ior, ix_irem, ix_iret, ix_ishl, ix_ishr, ix_istore, ix_isub, ix_iushr, ix_ixor, ix_l2i, ix_ladd, ix_lald, ix_land, ix_last, ix_lcmp, ix_ldcS, ix_ldiv, ix_lload, ix_lmul, ix_lor, ix_lrem, ix_lret, ix_lshl, ix_lstore, ix_lsub, ix_lsw, ix_max, ix_min, ix_new, ix_newa, ix_nret, ix_oinit, ix_pop2L, ix_popI, ix_pushI, ix_pushL, ix_putI, ix_putJ, ix_putR, ix_putZ, ix_sbald, ix_sgetC, ix_sgetV, ix_slen, ix_strc, ix_tald, ix_tsw, ix_vcall, ix_vret, ix_zret, stL, stL2, kilL, popN, fq_sw, fq_lsw, List.map_cons, List.map_nil, List.getElem?_cons_zero, List.getElem?_cons_succ, Option.toList_some, Option.toList_none, List.cons_append, List.nil_append, List.length_cons, List.length_nil, List.sum_cons, List.sum_nil, cat_i, cat_l, cat_r, true_and, and_true, Nat.zero_add, Nat.add_zero, Nat.le_refl, Nat.zero_le, Nat.reduceAdd, Nat.reduceLeDiff, exists_eq_left', Option.some.injEq, not_true_eq_false, not_false_eq_true, false_implies, true_implies, implies_true, and_self, or_true, true_or, or_false, false_or]
      rw [h7] at hQ
      refine ⟨fun q => ?_, fun q => ?_⟩
      · rw [if_neg (by omega)] at hQ
        exact hQ
      · rw [if_pos (by omega)] at hQ
        exact hQ
    have lp : ∀ (f e : Nat) (v : Int32), e + f = n → fr ≤ e → scn (fun c => decide (isDg c)) T n f e = scD T n fr → dgC T n f e v = dgC T n (n - fr) fr (I (X + 11) 5) → fqAt l G M_X4_readNumber (D + 1) 0 0 Q 5 [some (.ref (X + 11)), some (.int (nI e))] [] S (rdI I (X + 11) (nI e) (I (X + 11) 4) v (I (X + 11) 7) (I (X + 11) 8) (I (X + 11) 9)) J z 0 0 := by
      intro f
      induction f with
      | zero =>
        intro e v he hfe hs hd
        refine b_X4_readNumber_5 _ _ _ _ _ _ _ _ ?_
        simp (disch := omega) only [B_X4_readNumber_5, s1, s2, s4, s5, h2, rdI_2, rdI_3, rdI_5, rdI_ok, nI_1, nI_add, nI_clamp, nI_pin, nI_neg, nI_nonneg, nI_leE, nI_ltE, nI_eqE, Nat.not_le, Nat.not_lt, fq_10, fq_01, fq_rr, li_2, li_3, li_4, li_5, li_6, li_7, li_8, li_9, li_10, li_11, li_12, li_13, li_14, li_15, li_16, li_17, li_18, li_19, li_20, li_21, li_22, li_23, li_24, li_25, li_26, li_27, li_28, li_29, li_30, li_32, li_33, li_34, li_35, li_36, li_37, li_38, li_39, li_40, li_41, li_42, li_43, li_44, li_45, li_46, li_47, li_48, li_49, li_50, li_51, li_52, li_53, li_54, li_55, li_56, li_57, li_58, li_59, li_60, li_61, li_62, li_63, li_64, li_65, li_66, li_67, li_68, li_69, li_70, li_71, li_72, li_73, li_74, li_75, li_76, li_77, li_78, li_79, li_80, li_81, li_82, li_83, li_84, li_85, li_86, li_87, li_88, li_89, li_90, li_91, li_92, li_93, li_94, li_95, li_96, li_97, li_98, li_99, li_100, li_101, li_102, li_103, li_104, li_105, li_106, li_107, li_108, li_109, li_110, li_111, li_112, li_113, li_114, li_115, li_116, li_117, li_118, li_119, li_120, li_121, li_122, li_123, li_124, li_125, li_126, li_127, li_128, li_129, li_130, li_131, li_226, li_240, li_255, li_300, li_586, li_594, li_900, li_999, li_1000, li_1800, li_2376, li_2388, li_2406, li_2602, li_2970, li_3067, li_3564, li_9999, li_10000, li_11287, li_65536, li_100000, li_1000000, nI_mul, tn0, tn1, vin0, vin1, Int32.add_zero, Int32.or_zero, Int32.mul_one, Int32.mul_zero, Int32.zero_add, Nat.reduceEqDiff, Nat.reduceMul, Nat.reduceSub, ix_aald, ix_aast, ix_abs, ix_alen, ix_aload, ix_aret, ix_astore, ix_bald, ix_bast, ix_call, ix_cpyI, ix_cpyJ, ix_dead, ix_dup2, ix_dup2L, ix_dupI, ix_dupR, ix_dupx1, ix_getI, ix_getJ, ix_getR, ix_gfm, ix_gtab, ix_i2b, ix_i2c, ix_i2l, ix_i2s, ix_iadd, ix_iald, ix_iand, ix_iast, ix_icall, ix_icmp_eq, ix_icmp_ge, ix_icmp_gt, ix_icmp_le, ix_icmp_lt, ix_icmp_ne, ix_idiv, ix_if_eq, ix_if_ge, ix_if_gt, ix_if_le, ix_if_lt, ix_if_ne, ix_iinc, ix_iload, ix_imul, ix_ineg, ix_ior, ix_irem, ix_iret, ix_ishl, ix_ishr, ix_istore, ix_isub, ix_iushr, ix_ixor, ix_l2i, ix_ladd, ix_lald, ix_land, ix_last, ix_lcmp, ix_ldcS, ix_ldiv, ix_lload, ix_lmul, ix_lor, ix_lrem, ix_lret, ix_lshl, ix_lstore, ix_lsub, ix_lsw, ix_max, ix_min, ix_new, ix_newa, ix_nret, ix_oinit, ix_pop2L, ix_popI, ix_pushI, ix_pushL, ix_putI, ix_putJ, ix_putR, ix_putZ, ix_sbald, ix_sgetC, ix_sgetV, ix_slen, ix_strc, ix_tald, ix_tsw, ix_vcall, ix_vret, ix_zret, stL, stL2, kilL, popN, fq_sw, fq_lsw, List.map_cons, List.map_nil, List.getElem?_cons_zero, List.getElem?_cons_succ, Option.toList_some, Option.toList_none, List.cons_append, List.nil_append, List.length_cons, List.length_nil, List.sum_cons, List.sum_nil, cat_i, cat_l, cat_r, true_and, and_true, Nat.zero_add, Nat.add_zero, Nat.le_refl, Nat.zero_le, Nat.reduceAdd, Nat.reduceLeDiff, exists_eq_left', Option.some.injEq, not_true_eq_false, not_false_eq_true, false_implies, true_implies, implies_true, and_self, or_true, true_or, or_false, false_or]
        exact ⟨fun _ => fin e v _ hs hd, fun q => absurd q (by omega)⟩
      | succ f ih =>
        intro e v he hfe hs hd
        obtain ⟨t1, t2⟩ := hT e (by omega)
        have bA : byA T n e = T e &&& 255 := if_pos (by omega)
        have k1 := (by_K t2).2.1
        rw [scn_1] at hs
        rw [dgC_1] at hd
        rw [bA] at hs hd
        refine b_X4_readNumber_5 _ _ _ _ _ _ _ _ ?_
        simp (disch := omega) only [B_X4_readNumber_5, sp_X4_isDigit, s1, s2, s4, s5, h2, rdI_2, rdI_3, rdI_5, rdI_ok, rdI_u3, rdI_u5, t1, bI_01, bI_01b, bI_0, nI_1, nI_add, nI_clamp, nI_pin, nI_neg, nI_nonneg, nI_leE, nI_ltE, nI_eqE, Nat.not_le, Nat.not_lt, fq_10, fq_01, fq_rr, ix_aald, ix_aast, ix_abs, ix_alen, ix_aload, ix_aret, ix_astore, ix_bald, ix_bast, ix_call, ix_cpyI, ix_cpyJ, ix_dead, ix_dup2, ix_dup2L, ix_dupI, ix_dupR, ix_dupx1, ix_getI, ix_getJ, ix_getR, ix_gfm, ix_gtab, ix_i2b, ix_i2c, ix_i2l, ix_i2s, ix_iadd, ix_iald, ix_iand, ix_iast, ix_icall, ix_icmp_eq, ix_icmp_ge, ix_icmp_gt, ix_icmp_le, ix_icmp_lt, ix_icmp_ne, ix_idiv, ix_if_eq, ix_if_ge, ix_if_gt, ix_if_le, ix_if_lt, ix_if_ne, ix_iinc, ix_iload, ix_imul, ix_ineg, ix_ior, ix_irem, ix_iret, ix_ishl, ix_ishr, ix_istore, ix_isub, ix_iushr, ix_ixor, ix_l2i, ix_ladd, ix_lald, ix_land, ix_last, ix_lcmp, ix_ldcS, ix_ldiv, ix_lload, ix_lmul, ix_lor, ix_lrem, ix_lret, ix_lshl, ix_lstore, ix_lsub, ix_lsw, ix_max, ix_min, ix_new, ix_newa, ix_nret, ix_oinit, ix_pop2L, ix_popI, ix_pushI, ix_pushL, ix_putI, ix_putJ, ix_putR, ix_putZ, ix_sbald, ix_sgetC, ix_sgetV, ix_slen, ix_strc, ix_tald, ix_tsw, ix_vcall, ix_vret, ix_zret, stL, stL2, kilL, popN, fq_sw, fq_lsw, List.map_cons, List.map_nil, List.getElem?_cons_zero, List.getElem?_cons_succ, Option.toList_some, Option.toList_none, List.cons_append, List.nil_append, List.length_cons, List.length_nil, List.sum_cons, List.sum_nil, cat_i, cat_l, cat_r, true_and, and_true, Nat.zero_add, Nat.add_zero, Nat.le_refl, Nat.zero_le, Nat.reduceAdd, Nat.reduceLeDiff, exists_eq_left', Option.some.injEq, not_true_eq_false, not_false_eq_true, false_implies, true_implies, implies_true, and_self, or_true, true_or, or_false, false_or]
        refine ⟨fun q => absurd q (by omega), fun _ => ⟨fun q => ?_, fun q => ?_⟩⟩
        · have q2 : ¬ isDg (T e &&& 255) := fun r => q (k1.mpr r)
          rw [if_neg (by simpa using q2)] at hs
          rw [if_neg q2] at hd
          exact fin e v _ hs hd
        · have q2 : isDg (T e &&& 255) := k1.mp (Decidable.not_not.mp q)
          rw [if_pos (decide_eq_true q2)] at hs
          rw [if_pos q2] at hd
          exact ih (e + 1) _ (by omega) (by omega) hs hd
    refine fq_enter [some (.ref (X + 11)), none] (by decide +kernel) (Nat.le_of_ble_eq_true rfl) rfl (b_X4_readNumber_0 _ _ _ _ _ _ _ _ ?_)
    simp (disch := omega) only [B_X4_readNumber_0, s1, h7, nI_1, nI_add, nI_clamp, nI_pin, nI_neg, nI_nonneg, nI_leE, nI_ltE, nI_eqE, Nat.not_le, Nat.not_lt, fq_10, fq_01, fq_rr, ix_aald, ix_aast, ix_abs, ix_alen, ix_aload, ix_aret, ix_astore, ix_bald, ix_bast, ix_call, ix_cpyI, ix_cpyJ, ix_dead, ix_dup2, ix_dup2L, ix_dupI, ix_dupR, ix_dupx1, ix_getI, ix_getJ, ix_getR, ix_gfm, ix_gtab, ix_i2b, ix_i2c, ix_i2l, ix_i2s, ix_iadd, ix_iald, ix_iand, ix_iast, ix_icall, ix_icmp_eq, ix_icmp_ge, ix_icmp_gt, ix_icmp_le, ix_icmp_lt, ix_icmp_ne, ix_idiv, ix_if_eq, ix_if_ge, ix_if_gt, ix_if_le, ix_if_lt, ix_if_ne, ix_iinc, ix_iload, ix_imul, ix_ineg, ix_ior, ix_irem, ix_iret, ix_ishl, ix_ishr, ix_istore, ix_isub, ix_iushr, ix_ixor, ix_l2i, ix_ladd, ix_lald, ix_land, ix_last, ix_lcmp, ix_ldcS, ix_ldiv, ix_lload, ix_lmul, ix_lor, ix_lrem, ix_lret, ix_lshl, ix_lstore, ix_lsub, ix_lsw, ix_max, ix_min, ix_new, ix_newa, ix_nret, ix_oinit, ix_pop2L, ix_popI, ix_pushI, ix_pushL, ix_putI, ix_putJ, ix_putR, ix_putZ, ix_sbald, ix_sgetC, ix_sgetV, ix_slen, ix_strc, ix_tald, ix_tsw, ix_vcall, ix_vret, ix_zret, stL, stL2, kilL, popN, fq_sw, fq_lsw, List.map_cons, List.map_nil, List.getElem?_cons_zero, List.getElem?_cons_succ, Option.toList_some, Option.toList_none, List.cons_append, List.nil_append, List.length_cons, List.length_nil, List.sum_cons, List.sum_nil, cat_i, cat_l, cat_r, true_and, and_true, Nat.zero_add, Nat.add_zero, Nat.le_refl, Nat.zero_le, Nat.reduceAdd, Nat.reduceLeDiff, exists_eq_left', Option.some.injEq, not_true_eq_false, not_false_eq_true, false_implies, true_implies, implies_true, and_self, or_true, true_or, or_false, false_or]
    have := lp (n - fr) fr (I (X + 11) 5) (by omega) (by omega) rfl rfl
    rw [← h3, rdI_id] at this
    rw [h3] at this
    exact this
  · exact h.elim
def rwJ (T : Nat → Int32) (n fr : Nat) : Int64 := if 8 < scS T n fr - fr then 0 else n5R T fr (scS T n fr - fr)
def rwI (I : IH) (R : Nat) (T : Nat → Int32) (n fr : Nat) : IH := rdI I R (nI (scS T n fr)) 2 (I R 5) (I R 7) (wrdV (wdR T n fr (scS T n fr - fr))) (I R 9)
def sp_X4_readWord (G : GT) : Sp := fun as S I J z Q => match as with
  | [.ref R] => ∃ X T n fr, R = X + 11 ∧ rdE S I J X T n ∧ I R 2 = nI n ∧ I R 7 = nI fr ∧ I R 3 = nI fr ∧ I R 8 = -1 ∧ J R 6 = 0 ∧ fr ≤ n ∧ Q none S (rwI I R T n fr) (u2 J R 6 (rwJ T n fr)) z
  | _ => False
theorem scS_sm {T : Nat → Int32} {n fr t : Nat} (h : t < scS T n fr - fr) : isSm (byA T n (fr + t)) := of_decide_eq_true (scn_in (p := fun c => decide (isSm c)) (T := T) (n := n) (n - fr) fr (fr + t) (by omega) (by show fr + t < scS T n fr; omega))
set_option maxHeartbeats 4000000 in
set_option maxRecDepth 20000 in
theorem c_X4_readWord {l : Launch} {G : GT} {D : Nat} : ∀ as S I J z Q, sp_X4_readWord G as S I J z Q → fqCall l G M_X4_readWord (D + 1) 0 0 as S I J z Q := by
  intro as S I J z Q h
  unfold sp_X4_readWord at h
  split at h
  · next R =>
    obtain ⟨X, T, n, fr, rfl, ⟨⟨s1, s2, s3, s4, s5, s6, s7⟩, n9, hT, hJ⟩, h2, h7, h3, h8, hj, hf, hQ⟩ := h
    have le := scX_le (p := fun c => decide (isSm c)) (T := T) hf
    have hW := n5R_e (T := T) (n := n) (f := fr) (m := scS T n fr - fr) (fun t ht => ⟨(hT _ (by unfold scS at ht; omega)).2, by unfold scS at ht; omega, scS_sm ht⟩)
    have hwd := rsv_f hW.2.2 (rvL_len _ _ _) (v := rwJ T n fr) (by unfold rwJ; rw [hW.1])
    have h84 : ∀ (nx : Int32), nx = nI (scS T n fr) → fqAt l G M_X4_readWord (D + 1) 0 0 Q 84 [some (.ref (X + 11)), some (.int (nI 0))] [] S (rdI I (X + 11) nx 2 (I (X + 11) 5) (I (X + 11) 7) (-1) (I (X + 11) 9)) (u2 J (X + 11) 6 (rwJ T n fr)) z 0 0 := by
      intro nx hnx
      have lp := loopU (N := 24) (f := fun i a => if rsv i = rwJ T n fr then nI i else a) (B := fun i a => fqAt l G M_X4_readWord (D + 1) 0 0 Q 84 [some (.ref (X + 11)), some (.int (nI i))] [] S (rdI I (X + 11) nx 2 (I (X + 11) 5) (I (X + 11) 7) a (I (X + 11) 9)) (u2 J (X + 11) 6 (rwJ T n fr)) z 0 0) (by
        intro i a hi hb
        have hji := hJ i hi
        refine b_X4_readWord_84 _ _ _ _ _ _ _ _ ?_
        simp (disch := omega) only [B_X4_readWord_84, B_X4_readWord_109, s1, s3, s6, s7, u2_same, u2_ca, hji, lg_cmp_eq, rdI_u8, li_2, li_3, li_4, li_5, li_6, li_7, li_8, li_9, li_10, li_11, li_12, li_13, li_14, li_15, li_16, li_17, li_18, li_19, li_20, li_21, li_22, li_23, li_24, li_25, li_26, li_27, li_28, li_29, li_30, li_32, li_33, li_34, li_35, li_36, li_37, li_38, li_39, li_40, li_41, li_42, li_43, li_44, li_45, li_46, li_47, li_48, li_49, li_50, li_51, li_52, li_53, li_54, li_55, li_56, li_57, li_58, li_59, li_60, li_61, li_62, li_63, li_64, li_65, li_66, li_67, li_68, li_69, li_70, li_71, li_72, li_73, li_74, li_75, li_76, li_77, li_78, li_79, li_80, li_81, li_82, li_83, li_84, li_85, li_86, li_87, li_88, li_89, li_90, li_91, li_92, li_93, li_94, li_95, li_96, li_97, li_98, li_99, li_100, li_101, li_102, li_103, li_104, li_105, li_106, li_107, li_108, li_109, li_110, li_111, li_112, li_113, li_114, li_115, li_116, li_117, li_118, li_119, li_120, li_121, li_122, li_123, li_124, li_125, li_126, li_127, li_128, li_129, li_130, li_131, li_226, li_240, li_255, li_300, li_586, li_594, li_900, li_999, li_1000, li_1800, li_2376, li_2388, li_2406, li_2602, li_2970, li_3067, li_3564, li_9999, li_10000, li_11287, li_65536, li_100000, li_1000000, nI_mul, tn0, tn1, vin0, vin1, Int32.add_zero, Int32.or_zero, Int32.mul_one, Int32.mul_zero, Int32.zero_add, Nat.reduceEqDiff, Nat.reduceMul, Nat.reduceSub, nI_1, nI_add, nI_clamp, nI_pin, nI_neg, nI_nonneg, nI_leE, nI_ltE, nI_eqE, Nat.not_le, Nat.not_lt, fq_10, fq_01, fq_rr, ix_aald, ix_aast, ix_abs, ix_alen, ix_aload, ix_aret, ix_astore, ix_bald, ix_bast, ix_call, ix_cpyI, ix_cpyJ, ix_dead, ix_dup2, ix_dup2L, ix_dupI, ix_dupR, ix_dupx1, ix_getI, ix_getJ, ix_getR, ix_gfm, ix_gtab, ix_i2b, ix_i2c, ix_i2l, ix_i2s, ix_iadd, ix_iald, ix_iand, ix_iast, ix_icall, ix_icmp_eq, ix_icmp_ge, ix_icmp_gt, ix_icmp_le, ix_icmp_lt, ix_icmp_ne, ix_idiv, ix_if_eq, ix_if_ge, ix_if_gt, ix_if_le, ix_if_lt, ix_if_ne, ix_iinc, ix_iload, ix_imul, ix_ineg, ix_ior, ix_irem, ix_iret, ix_ishl, ix_ishr, ix_istore, ix_isub, ix_iushr, ix_ixor, ix_l2i, ix_ladd, ix_lald, ix_land, ix_last, ix_lcmp, ix_ldcS, ix_ldiv, ix_lload, ix_lmul, ix_lor, ix_lrem, ix_lret, ix_lshl, ix_lstore, ix_lsub, ix_lsw, ix_max, ix_min, ix_new, ix_newa, ix_nret, ix_oinit, ix_pop2L, ix_popI, ix_pushI, ix_pushL, ix_putI, ix_putJ, ix_putR, ix_putZ, ix_sbald, ix_sgetC, ix_sgetV, ix_slen, ix_strc, ix_tald, ix_tsw, ix_vcall, ix_vret, ix_zret, stL, stL2, kilL, popN, fq_sw, fq_lsw, List.map_cons, List.map_nil, List.getElem?_cons_zero, List.getElem?_cons_succ, Option.toList_some, Option.toList_none, List.cons_append, List.nil_append, List.length_cons, List.length_nil, List.sum_cons, List.sum_nil, cat_i, cat_l, cat_r, true_and, and_true, Nat.zero_add, Nat.add_zero, Nat.le_refl, Nat.zero_le, Nat.reduceAdd, Nat.reduceLeDiff, exists_eq_left', Option.some.injEq, not_true_eq_false, not_false_eq_true, false_implies, true_implies, implies_true, and_self, or_true, true_or, or_false, false_or]
        refine ⟨fun q => absurd q (by omega), fun _ => ⟨fun q => ?_, fun q => ?_⟩⟩
        · rw [if_neg q] at hb
          exact hb
        · rw [if_pos q] at hb
          exact hb) 24 0 (-1) (by omega)
      refine lp ?_
      rw [hwd]
      refine b_X4_readWord_84 _ _ _ _ _ _ _ _ ?_
      simp (disch := omega) only [B_X4_readWord_84, s1, s3, s6, s7, li_2, li_3, li_4, li_5, li_6, li_7, li_8, li_9, li_10, li_11, li_12, li_13, li_14, li_15, li_16, li_17, li_18, li_19, li_20, li_21, li_22, li_23, li_24, li_25, li_26, li_27, li_28, li_29, li_30, li_32, li_33, li_34, li_35, li_36, li_37, li_38, li_39, li_40, li_41, li_42, li_43, li_44, li_45, li_46, li_47, li_48, li_49, li_50, li_51, li_52, li_53, li_54, li_55, li_56, li_57, li_58, li_59, li_60, li_61, li_62, li_63, li_64, li_65, li_66, li_67, li_68, li_69, li_70, li_71, li_72, li_73, li_74, li_75, li_76, li_77, li_78, li_79, li_80, li_81, li_82, li_83, li_84, li_85, li_86, li_87, li_88, li_89, li_90, li_91, li_92, li_93, li_94, li_95, li_96, li_97, li_98, li_99, li_100, li_101, li_102, li_103, li_104, li_105, li_106, li_107, li_108, li_109, li_110, li_111, li_112, li_113, li_114, li_115, li_116, li_117, li_118, li_119, li_120, li_121, li_122, li_123, li_124, li_125, li_126, li_127, li_128, li_129, li_130, li_131, li_226, li_240, li_255, li_300, li_586, li_594, li_900, li_999, li_1000, li_1800, li_2376, li_2388, li_2406, li_2602, li_2970, li_3067, li_3564, li_9999, li_10000, li_11287, li_65536, li_100000, li_1000000, nI_mul, tn0, tn1, vin0, vin1, Int32.add_zero, Int32.or_zero, Int32.mul_one, Int32.mul_zero, Int32.zero_add, Nat.reduceEqDiff, Nat.reduceMul, Nat.reduceSub, nI_1, nI_add, nI_clamp, nI_pin, nI_neg, nI_nonneg, nI_leE, nI_ltE, nI_eqE, Nat.not_le, Nat.not_lt, fq_10, fq_01, fq_rr, ix_aald, ix_aast, ix_abs, ix_alen, ix_aload, ix_aret, ix_astore, ix_bald, ix_bast, ix_call, ix_cpyI, ix_cpyJ, ix_dead, ix_dup2, ix_dup2L, ix_dupI, ix_dupR, ix_dupx1, ix_getI, ix_getJ, ix_getR, ix_gfm, ix_gtab, ix_i2b, ix_i2c, ix_i2l, ix_i2s, ix_iadd, ix_iald, ix_iand, ix_iast, ix_icall, ix_icmp_eq, ix_icmp_ge, ix_icmp_gt, ix_icmp_le, ix_icmp_lt, ix_icmp_ne, ix_idiv, ix_if_eq, ix_if_ge, ix_if_gt, ix_if_le, ix_if_lt, ix_if_ne, ix_iinc, ix_iload, ix_imul, ix_ineg, ix_ior, ix_irem, ix_iret, ix_ishl, ix_ishr, ix_istore, ix_isub, ix_iushr, ix_ixor, ix_l2i, ix_ladd, ix_lald, ix_land, ix_last, ix_lcmp, ix_ldcS, ix_ldiv, ix_lload, ix_lmul, ix_lor, ix_lrem, ix_lret, ix_lshl, ix_lstore, ix_lsub, ix_lsw, ix_max, ix_min, ix_new, ix_newa, ix_nret, ix_oinit, ix_pop2L, ix_popI, ix_pushI, ix_pushL, ix_putI, ix_putJ, ix_putR, ix_putZ, ix_sbald, ix_sgetC, ix_sgetV, ix_slen, ix_strc, ix_tald, ix_tsw, ix_vcall, ix_vret, ix_zret, stL, stL2, kilL, popN, fq_sw, fq_lsw, List.map_cons, List.map_nil, List.getElem?_cons_zero, List.getElem?_cons_succ, Option.toList_some, Option.toList_none, List.cons_append, List.nil_append, List.length_cons, List.length_nil, List.sum_cons, List.sum_nil, cat_i, cat_l, cat_r, true_and, and_true, Nat.zero_add, Nat.add_zero, Nat.le_refl, Nat.zero_le, Nat.reduceAdd, Nat.reduceLeDiff, exists_eq_left', Option.some.injEq, not_true_eq_false, not_false_eq_true, false_implies, true_implies, implies_true, and_self, or_true, true_or, or_false, false_or]
      unfold rwI at hQ
      rw [hnx]
      exact hQ
    have fin : ∀ (e : Nat) (v : Int64) (o : Option Value), e = scS T n fr → v = n5R T fr (e - fr) → B_X4_readWord_58 l G D 0 0 Q [some (.ref (X + 11)), o] [] S (rdI I (X + 11) (nI e) (I (X + 11) 4) (I (X + 11) 5) (I (X + 11) 7) (-1) (I (X + 11) 9)) (u2 J (X + 11) 6 v) z 0 0 := by
      intro e v o he hv
      have le : fr ≤ e ∧ e ≤ n := by rw [he]; exact le
      have es : nI e - nI fr = nI (e - fr) := by
        rw [show e = (e - fr) + fr by omega, ← nI_add, Int32.add_sub_cancel, show e - fr + fr - fr = e - fr by omega]
      have h84 := h84 (nI e) (by rw [he])
      unfold rwJ at h84
      rw [← he, ← hv] at h84
      simp (disch := omega) only [B_X4_readWord_58, B_X4_readWord_82, s1, h7, es, rdI_2, rdI_3, rdI_7, rdI_u4, u2_u2, li_2, li_3, li_4, li_5, li_6, li_7, li_8, li_9, li_10, li_11, li_12, li_13, li_14, li_15, li_16, li_17, li_18, li_19, li_20, li_21, li_22, li_23, li_24, li_25, li_26, li_27, li_28, li_29, li_30, li_32, li_33, li_34, li_35, li_36, li_37, li_38, li_39, li_40, li_41, li_42, li_43, li_44, li_45, li_46, li_47, li_48, li_49, li_50, li_51, li_52, li_53, li_54, li_55, li_56, li_57, li_58, li_59, li_60, li_61, li_62, li_63, li_64, li_65, li_66, li_67, li_68, li_69, li_70, li_71, li_72, li_73, li_74, li_75, li_76, li_77, li_78, li_79, li_80, li_81, li_82, li_83, li_84, li_85, li_86, li_87, li_88, li_89, li_90, li_91, li_92, li_93, li_94, li_95, li_96, li_97, li_98, li_99, li_100, li_101, li_102, li_103, li_104, li_105, li_106, li_107, li_108, li_109, li_110, li_111, li_112, li_113, li_114, li_115, li_116, li_117, li_118, li_119, li_120, li_121, li_122, li_123, li_124, li_125, li_126, li_127, li_128, li_129, li_130, li_131, li_226, li_240, li_255, li_300, li_586, li_594, li_900, li_999, li_1000, li_1800, li_2376, li_2388, li_2406, li_2602, li_2970, li_3067, li_3564, li_9999, li_10000, li_11287, li_65536, li_100000, li_1000000, nI_mul, tn0, tn1, vin0, vin1, Int32.add_zero, Int32.or_zero, Int32.mul_one, Int32.mul_zero, Int32.zero_add, Nat.reduceEqDiff, Nat.reduceMul, Nat.reduceSub, nI_1, nI_add, nI_clamp, nI_pin, nI_neg, nI_nonneg, nI_leE, nI_ltE, nI_eqE, Nat.not_le, Nat.not_lt, fq_10, fq_01, fq_rr, ix_aald, ix_aast, ix_abs, ix_alen, ix_aload, ix_aret, ix_astore, ix_bald, ix_bast, ix_call, ix_cpyI, ix_cpyJ, ix_dead, ix_dup2, ix_dup2L, ix_dupI, ix_dupR, ix_dupx1, ix_getI, ix_getJ, ix_getR, ix_gfm, ix_gtab, ix_i2b, ix_i2c, ix_i2l, ix_i2s, ix_iadd, ix_iald, ix_iand, ix_iast, ix_icall, ix_icmp_eq, ix_icmp_ge, ix_icmp_gt, ix_icmp_le, ix_icmp_lt, ix_icmp_ne, ix_idiv, ix_if_eq, ix_if_ge, ix_if_gt, ix_if_le, ix_if_lt, ix_if_ne, ix_iinc, ix_iload, ix_imul, ix_ineg, ix_ior, ix_irem, ix_iret, ix_ishl, ix_ishr, ix_istore, ix_isub, ix_iushr, ix_ixor, ix_l2i, ix_ladd, ix_lald, ix_land, ix_last, ix_lcmp, ix_ldcS, ix_ldiv, ix_lload, ix_lmul, ix_lor, ix_lrem, ix_lret, ix_lshl, ix_lstore, ix_lsub, ix_lsw, ix_max, ix_min, ix_new, ix_newa, ix_nret, ix_oinit, ix_pop2L, ix_popI, ix_pushI, ix_pushL, ix_putI, ix_putJ, ix_putR, ix_putZ, ix_sbald, ix_sgetC, ix_sgetV, ix_slen, ix_strc, ix_tald, ix_tsw, ix_vcall, ix_vret, ix_zret, stL, stL2, kilL, popN, fq_sw, fq_lsw, List.map_cons, List.map_nil, List.getElem?_cons_zero, List.getElem?_cons_succ, Option.toList_some, Option.toList_none, List.cons_append, List.nil_append, List.length_cons, List.length_nil, List.sum_cons, List.sum_nil, cat_i, cat_l, cat_r, true_and, and_true, Nat.zero_add, Nat.add_zero, Nat.le_refl, Nat.zero_le, Nat.reduceAdd, Nat.reduceLeDiff, exists_eq_left', Option.some.injEq, not_true_eq_false, not_false_eq_true, false_implies, true_implies, implies_true, and_self, or_true, true_or, or_false, false_or]
      rw [h7] at h84
      refine ⟨fun q => ?_, fun q => ?_⟩
      · rw [if_neg (by omega)] at h84
        exact h84
      · rw [if_pos (by omega)] at h84
        exact h84
    have lp : ∀ (f e : Nat), e + f = n → fr ≤ e → scn (fun c => decide (isSm c)) T n f e = scS T n fr → fqAt l G M_X4_readWord (D + 1) 0 0 Q 5 [some (.ref (X + 11)), some (.int (nI e))] [] S (rdI I (X + 11) (nI e) (I (X + 11) 4) (I (X + 11) 5) (I (X + 11) 7) (-1) (I (X + 11) 9)) (u2 J (X + 11) 6 (n5R T fr (e - fr))) z 0 0 := by
      intro f
      induction f with
      | zero =>
        intro e he hfe hs
        refine b_X4_readWord_5 _ _ _ _ _ _ _ _ ?_
        simp (disch := omega) only [B_X4_readWord_5, s1, s2, s4, s5, h2, rdI_2, rdI_3, rdI_5, rdI_ok, nI_1, nI_add, nI_clamp, nI_pin, nI_neg, nI_nonneg, nI_leE, nI_ltE, nI_eqE, Nat.not_le, Nat.not_lt, fq_10, fq_01, fq_rr, ix_aald, ix_aast, ix_abs, ix_alen, ix_aload, ix_aret, ix_astore, ix_bald, ix_bast, ix_call, ix_cpyI, ix_cpyJ, ix_dead, ix_dup2, ix_dup2L, ix_dupI, ix_dupR, ix_dupx1, ix_getI, ix_getJ, ix_getR, ix_gfm, ix_gtab, ix_i2b, ix_i2c, ix_i2l, ix_i2s, ix_iadd, ix_iald, ix_iand, ix_iast, ix_icall, ix_icmp_eq, ix_icmp_ge, ix_icmp_gt, ix_icmp_le, ix_icmp_lt, ix_icmp_ne, ix_idiv, ix_if_eq, ix_if_ge, ix_if_gt, ix_if_le, ix_if_lt, ix_if_ne, ix_iinc, ix_iload, ix_imul, ix_ineg, ix_ior, ix_irem, ix_iret, ix_ishl, ix_ishr, ix_istore, ix_isub, ix_iushr, ix_ixor, ix_l2i, ix_ladd, ix_lald, ix_land, ix_last, ix_lcmp, ix_ldcS, ix_ldiv, ix_lload, ix_lmul, ix_lor, ix_lrem, ix_lret, ix_lshl, ix_lstore, ix_lsub, ix_lsw, ix_max, ix_min, ix_new, ix_newa, ix_nret, ix_oinit, ix_pop2L, ix_popI, ix_pushI, ix_pushL, ix_putI, ix_putJ, ix_putR, ix_putZ, ix_sbald, ix_sgetC, ix_sgetV, ix_slen, ix_strc, ix_tald, ix_tsw, ix_vcall, ix_vret, ix_zret, stL, stL2, kilL, popN, fq_sw, fq_lsw, List.map_cons, List.map_nil, List.getElem?_cons_zero, List.getElem?_cons_succ, Option.toList_some, Option.toList_none, List.cons_append, List.nil_append, List.length_cons, List.length_nil, List.sum_cons, List.sum_nil, cat_i, cat_l, cat_r, true_and, and_true, Nat.zero_add, Nat.add_zero, Nat.le_refl, Nat.zero_le, Nat.reduceAdd, Nat.reduceLeDiff, exists_eq_left', Option.some.injEq, not_true_eq_false, not_false_eq_true, false_implies, true_implies, implies_true, and_self, or_true, true_or, or_false, false_or]
        exact ⟨fun _ => fin e _ _ hs rfl, fun q => absurd q (by omega)⟩
      | succ f ih =>
        intro e he hfe hs
        obtain ⟨t1, t2⟩ := hT e (by omega)
        have bA : byA T n e = T e &&& 255 := if_pos (by omega)
        have k1 := (by_K t2).1
        rw [scn_1, bA] at hs
        have e5 : n5R T fr (e - fr) <<< ((5 : Int32).toInt64 &&& 63) ||| (T e - 97 + 1).toInt64 = n5R T fr (e + 1 - fr) := by
          unfold n5R
          rw [show e + 1 - fr = (e - fr) + 1 by omega, foldU_last, show fr + (e - fr) = e by omega]
        refine b_X4_readWord_5 _ _ _ _ _ _ _ _ ?_
        simp (disch := omega) only [B_X4_readWord_5, sp_X4_isLetter, sp_X4_withLetter, B_X4_withLetter_0, s1, s2, s4, s5, h2, rdI_2, rdI_3, rdI_ok, rdI_u3, u2_same, u2_u2, t1, e5, bI_01, bI_01b, bI_0, nI_1, nI_add, nI_clamp, nI_pin, nI_neg, nI_nonneg, nI_leE, nI_ltE, nI_eqE, Nat.not_le, Nat.not_lt, fq_10, fq_01, fq_rr, ix_aald, ix_aast, ix_abs, ix_alen, ix_aload, ix_aret, ix_astore, ix_bald, ix_bast, ix_call, ix_cpyI, ix_cpyJ, ix_dead, ix_dup2, ix_dup2L, ix_dupI, ix_dupR, ix_dupx1, ix_getI, ix_getJ, ix_getR, ix_gfm, ix_gtab, ix_i2b, ix_i2c, ix_i2l, ix_i2s, ix_iadd, ix_iald, ix_iand, ix_iast, ix_icall, ix_icmp_eq, ix_icmp_ge, ix_icmp_gt, ix_icmp_le, ix_icmp_lt, ix_icmp_ne, ix_idiv, ix_if_eq, ix_if_ge, ix_if_gt, ix_if_le, ix_if_lt, ix_if_ne, ix_iinc, ix_iload, ix_imul, ix_ineg, ix_ior, ix_irem, ix_iret, ix_ishl, ix_ishr, ix_istore, ix_isub, ix_iushr, ix_ixor, ix_l2i, ix_ladd, ix_lald, ix_land, ix_last, ix_lcmp, ix_ldcS, ix_ldiv, ix_lload, ix_lmul, ix_lor, ix_lrem, ix_lret, ix_lshl, ix_lstore, ix_lsub, ix_lsw, ix_max, ix_min, ix_new, ix_newa, ix_nret, ix_oinit, ix_pop2L, ix_popI, ix_pushI, ix_pushL, ix_putI, ix_putJ, ix_putR, ix_putZ, ix_sbald, ix_sgetC, ix_sgetV, ix_slen, ix_strc, ix_tald, ix_tsw, ix_vcall, ix_vret, ix_zret, stL, stL2, kilL, popN, fq_sw, fq_lsw, List.map_cons, List.map_nil, List.getElem?_cons_zero, List.getElem?_cons_succ, Option.toList_some, Option.toList_none, List.cons_append, List.nil_append, List.length_cons, List.length_nil, List.sum_cons, List.sum_nil, cat_i, cat_l, cat_r, true_and, and_true, Nat.zero_add, Nat.add_zero, Nat.le_refl, Nat.zero_le, Nat.reduceAdd, Nat.reduceLeDiff, exists_eq_left', Option.some.injEq, not_true_eq_false, not_false_eq_true, false_implies, true_implies, implies_true, and_self, or_true, true_or, or_false, false_or]
        refine ⟨fun q => absurd q (by omega), fun _ => ⟨fun q => ?_, fun q => ?_⟩⟩
        · have q2 : ¬ isSm (T e &&& 255) := fun r => q (k1.mpr r)
          rw [if_neg (by simpa using q2)] at hs
          exact fin e _ _ hs rfl
        · have q2 : isSm (T e &&& 255) := k1.mp (Decidable.not_not.mp q)
          rw [if_pos (decide_eq_true q2)] at hs
          exact ih (e + 1) (by omega) (by omega) hs
    refine fq_enter [some (.ref (X + 11)), none] (by decide +kernel) (Nat.le_of_ble_eq_true rfl) rfl (b_X4_readWord_0 _ _ _ _ _ _ _ _ ?_)
    simp (disch := omega) only [B_X4_readWord_0, s1, h7, nI_1, nI_add, nI_clamp, nI_pin, nI_neg, nI_nonneg, nI_leE, nI_ltE, nI_eqE, Nat.not_le, Nat.not_lt, fq_10, fq_01, fq_rr, ix_aald, ix_aast, ix_abs, ix_alen, ix_aload, ix_aret, ix_astore, ix_bald, ix_bast, ix_call, ix_cpyI, ix_cpyJ, ix_dead, ix_dup2, ix_dup2L, ix_dupI, ix_dupR, ix_dupx1, ix_getI, ix_getJ, ix_getR, ix_gfm, ix_gtab, ix_i2b, ix_i2c, ix_i2l, ix_i2s, ix_iadd, ix_iald, ix_iand, ix_iast, ix_icall, ix_icmp_eq, ix_icmp_ge, ix_icmp_gt, ix_icmp_le, ix_icmp_lt, ix_icmp_ne, ix_idiv, ix_if_eq, ix_if_ge, ix_if_gt, ix_if_le, ix_if_lt, ix_if_ne, ix_iinc, ix_iload, ix_imul, ix_ineg, ix_ior, ix_irem, ix_iret, ix_ishl, ix_ishr, ix_istore, ix_isub, ix_iushr, ix_ixor, ix_l2i, ix_ladd, ix_lald, ix_land, ix_last, ix_lcmp, ix_ldcS, ix_ldiv, ix_lload, ix_lmul, ix_lor, ix_lrem, ix_lret, ix_lshl, ix_lstore, ix_lsub, ix_lsw, ix_max, ix_min, ix_new, ix_newa, ix_nret, ix_oinit, ix_pop2L, ix_popI, ix_pushI, ix_pushL, ix_putI, ix_putJ, ix_putR, ix_putZ, ix_sbald, ix_sgetC, ix_sgetV, ix_slen, ix_strc, ix_tald, ix_tsw, ix_vcall, ix_vret, ix_zret, stL, stL2, kilL, popN, fq_sw, fq_lsw, List.map_cons, List.map_nil, List.getElem?_cons_zero, List.getElem?_cons_succ, Option.toList_some, Option.toList_none, List.cons_append, List.nil_append, List.length_cons, List.length_nil, List.sum_cons, List.sum_nil, cat_i, cat_l, cat_r, true_and, and_true, Nat.zero_add, Nat.add_zero, Nat.le_refl, Nat.zero_le, Nat.reduceAdd, Nat.reduceLeDiff, exists_eq_left', Option.some.injEq, not_true_eq_false, not_false_eq_true, false_implies, true_implies, implies_true, and_self, or_true, true_or, or_false, false_or]
    have := lp (n - fr) fr (by omega) (by omega) rfl
    rw [← h3, ← h8, rdI_id, Nat.sub_self, show n5R T fr 0 = J (X + 11) 6 from hj.symm, u2_id rfl, h3] at this
    exact this
  · exact h.elim
