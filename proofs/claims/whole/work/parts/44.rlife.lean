/-! the reference: lives -/
def fd (d : Nat) : Nat := (d * 3067 + 11287) % 65536
theorem fd_lt (d : Nat) : fd d < 65536 := Nat.mod_lt _ (by decide)
theorem fd_I {d : Nat} (hd : d < 65536) : nI (d * 3067 + 11287) - nI (d * 3067 + 11287) / nI 65536 * nI 65536 = nI (fd d) := pk_rem (by omega) (by decide) (by decide)
theorem fd_8 (d : Nat) : nI (fd d) / nI 8 = nI (fd d / 8) := pk_div (by have := fd_lt d; omega) (by decide) (by decide)
theorem fdq_c {d c : Nat} (h0 : 0 < c) (hc : c < 100) : nI (fd d / 8) - nI (fd d / 8) / nI c * nI c = nI (fd d / 8 % c) := pk_rem (by have := fd_lt d; omega) h0 (by omega)
theorem dX12_draw_0 : decode cX12_draw 0 = .ok (.aload_n 0, 1) := by decide +kernel
theorem dX12_draw_1 : decode cX12_draw 1 = .ok (.aload_n 0, 1) := by decide +kernel
theorem dX12_draw_2 : decode cX12_draw 2 = .ok (.getfield 427, 3) := by decide +kernel
theorem dX12_draw_5 : decode cX12_draw 5 = .ok (.sipush 3067, 3) := by decide +kernel
theorem dX12_draw_8 : decode cX12_draw 8 = .ok (.imul, 1) := by decide +kernel
theorem dX12_draw_9 : decode cX12_draw 9 = .ok (.sipush 11287, 3) := by decide +kernel
theorem dX12_draw_12 : decode cX12_draw 12 = .ok (.iadd, 1) := by decide +kernel
theorem dX12_draw_13 : decode cX12_draw 13 = .ok (.ldc_w 430, 3) := by decide +kernel
theorem dX12_draw_16 : decode cX12_draw 16 = .ok (.irem, 1) := by decide +kernel
theorem dX12_draw_17 : decode cX12_draw 17 = .ok (.putfield 427, 3) := by decide +kernel
theorem dX12_draw_20 : decode cX12_draw 20 = .ok (.aload_n 0, 1) := by decide +kernel
theorem dX12_draw_21 : decode cX12_draw 21 = .ok (.getfield 427, 3) := by decide +kernel
theorem dX12_draw_24 : decode cX12_draw 24 = .ok (.bipush 8, 2) := by decide +kernel
theorem dX12_draw_26 : decode cX12_draw 26 = .ok (.idiv, 1) := by decide +kernel
theorem dX12_draw_27 : decode cX12_draw 27 = .ok (.iload_n 1, 1) := by decide +kernel
theorem dX12_draw_28 : decode cX12_draw 28 = .ok (.irem, 1) := by decide +kernel
theorem dX12_draw_29 : decode cX12_draw 29 = .ok (.ireturn, 1) := by decide +kernel
abbrev M_X12_draw : MT := (yX12_draw, cX12_draw, 2, (some .int))
theorem cf_X12_draw : fq_cf M_X12_draw 1 := ⟨(mg_1 (List.mem_of_getElem? (i := 15) rfl) rfl), (mg_9 (List.mem_of_getElem? (i := 161) rfl) rfl), ⟨by decide, by decide, by decide +kernel⟩, by decide⟩
def B_X12_draw_0 (G : GT) (mc ms : Nat) (Q : Post) : Cn := ix_aload 0 (ix_aload 0 (ix_getI 12 29 (ix_pushI 3067 (ix_imul (ix_pushI 11287 (ix_iadd (ix_pushI 65536 (ix_irem (ix_putI 12 29 (ix_aload 0 (ix_getI 12 29 (ix_pushI 8 (ix_idiv (ix_iload 1 (ix_irem (ix_iret mc ms Q))))))))))))))))
theorem b_X12_draw_0 {l : Launch} {G : GT} {D mc ms : Nat} {Q : Post} : Imp l G M_X12_draw (D + 0) mc ms Q (B_X12_draw_0 G mc ms Q) 0 := sx_aload_n dX12_draw_0 rfl (sx_aload_n dX12_draw_1 rfl (sx_getI dX12_draw_2 fl_FootQuarrelModel_427 (fun _ _ _ => rfl) (sx_sipush dX12_draw_5 rfl (sx_imul dX12_draw_8 (sx_sipush dX12_draw_9 rfl (sx_iadd dX12_draw_12 (sx_ldcw dX12_draw_13 (mg_9 (List.mem_of_getElem? (i := 162) rfl) rfl) (sx_irem dX12_draw_16 (sx_putI dX12_draw_17 fl_FootQuarrelModel_427 (by decide) (fun _ _ _ => rfl) (fun _ => ⟨rfl, rfl⟩) (sx_aload_n dX12_draw_20 rfl (sx_getI dX12_draw_21 fl_FootQuarrelModel_427 (fun _ _ _ => rfl) (sx_bipush dX12_draw_24 rfl (sx_idiv dX12_draw_26 (sx_iload_n dX12_draw_27 rfl (sx_irem dX12_draw_28 (sx_iret dX12_draw_29 rfl))))))))))))))))
theorem dX12_saysBy_0 : decode cX12_saysBy 0 = .ok (.aload_n 0, 1) := by decide +kernel
theorem dX12_saysBy_1 : decode cX12_saysBy 1 = .ok (.iload_n 1, 1) := by decide +kernel
theorem dX12_saysBy_2 : decode cX12_saysBy 2 = .ok (.iload_n 2, 1) := by decide +kernel
theorem dX12_saysBy_3 : decode cX12_saysBy 3 = .ok (.invokevirtual 289, 3) := by decide +kernel
theorem dX12_saysBy_6 : decode cX12_saysBy 6 = .ok (.ifCond .ne 5, 3) := by decide +kernel
theorem dX12_saysBy_9 : decode cX12_saysBy 9 = .ok (.iconst 0, 1) := by decide +kernel
theorem dX12_saysBy_10 : decode cX12_saysBy 10 = .ok (.ireturn, 1) := by decide +kernel
theorem dX12_saysBy_11 : decode cX12_saysBy 11 = .ok (.aload_n 0, 1) := by decide +kernel
theorem dX12_saysBy_12 : decode cX12_saysBy 12 = .ok (.getfield 59, 3) := by decide +kernel
theorem dX12_saysBy_15 : decode cX12_saysBy 15 = .ok (.iconst 3, 1) := by decide +kernel
theorem dX12_saysBy_16 : decode cX12_saysBy 16 = .ok (.dup2, 1) := by decide +kernel
theorem dX12_saysBy_17 : decode cX12_saysBy 17 = .ok (.iaload, 1) := by decide +kernel
theorem dX12_saysBy_18 : decode cX12_saysBy 18 = .ok (.aload_n 0, 1) := by decide +kernel
theorem dX12_saysBy_19 : decode cX12_saysBy 19 = .ok (.iload_n 1, 1) := by decide +kernel
theorem dX12_saysBy_20 : decode cX12_saysBy 20 = .ok (.iload_n 2, 1) := by decide +kernel
theorem dX12_saysBy_21 : decode cX12_saysBy 21 = .ok (.invokevirtual 315, 3) := by decide +kernel
theorem dX12_saysBy_24 : decode cX12_saysBy 24 = .ok (.iadd, 1) := by decide +kernel
theorem dX12_saysBy_25 : decode cX12_saysBy 25 = .ok (.iastore, 1) := by decide +kernel
theorem dX12_saysBy_26 : decode cX12_saysBy 26 = .ok (.aload_n 0, 1) := by decide +kernel
theorem dX12_saysBy_27 : decode cX12_saysBy 27 = .ok (.getfield 59, 3) := by decide +kernel
theorem dX12_saysBy_30 : decode cX12_saysBy 30 = .ok (.iconst 2, 1) := by decide +kernel
theorem dX12_saysBy_31 : decode cX12_saysBy 31 = .ok (.dup2, 1) := by decide +kernel
theorem dX12_saysBy_32 : decode cX12_saysBy 32 = .ok (.iaload, 1) := by decide +kernel
theorem dX12_saysBy_33 : decode cX12_saysBy 33 = .ok (.iconst 1, 1) := by decide +kernel
theorem dX12_saysBy_34 : decode cX12_saysBy 34 = .ok (.iadd, 1) := by decide +kernel
theorem dX12_saysBy_35 : decode cX12_saysBy 35 = .ok (.iastore, 1) := by decide +kernel
theorem dX12_saysBy_36 : decode cX12_saysBy 36 = .ok (.iconst 1, 1) := by decide +kernel
theorem dX12_saysBy_37 : decode cX12_saysBy 37 = .ok (.ireturn, 1) := by decide +kernel
abbrev M_X12_saysBy : MT := (yX12_saysBy, cX12_saysBy, 3, (some .boolean))
theorem cf_X12_saysBy : fq_cf M_X12_saysBy 2 := ⟨(mg_1 (List.mem_of_getElem? (i := 15) rfl) rfl), (mg_9 (List.mem_of_getElem? (i := 145) rfl) rfl), ⟨by decide, by decide, by decide +kernel⟩, by decide⟩
def B_X12_saysBy_0 (G : GT) (mc ms : Nat) (Q : Post) : Cn := ix_aload 0 (ix_iload 1 (ix_iload 2 (ix_vcall 12 3 0 0 mc ms (sp_X12_areNear G) (ix_if_ne (ix_aload 0 (ix_getR 12 32 (ix_pushI 3 (ix_dup2 (ix_iald (ix_aload 0 (ix_iload 1 (ix_iload 2 (ix_vcall 12 3 0 0 mc ms (sp_X12_says G) (ix_iadd (ix_iast (ix_aload 0 (ix_getR 12 32 (ix_pushI 2 (ix_dup2 (ix_iald (ix_pushI 1 (ix_iadd (ix_iast (ix_pushI 1 (ix_zret mc ms Q))))))))))))))))))))) (ix_pushI 0 (ix_zret mc ms Q))))))
theorem b_X12_saysBy_0 {l : Launch} {G : GT} {D mc ms : Nat} {Q : Post} : Imp l G M_X12_saysBy (D + 5) mc ms Q (B_X12_saysBy_0 G mc ms Q) 0 := sx_aload_n dX12_saysBy_0 rfl (sx_iload_n dX12_saysBy_1 rfl (sx_iload_n dX12_saysBy_2 rfl (sx_vcall dX12_saysBy_3 cf_X12_areNear (mg_8 (List.mem_of_getElem? (i := 69) rfl) rfl) (mg_8 (List.mem_of_getElem? (i := 71) rfl) rfl) (mg_p (List.mem_of_getElem? (i := 89) rfl) rfl) rfl c_X12_areNear (sx_if_ne 11 dX12_saysBy_6 (by decide) (sx_aload_n dX12_saysBy_11 rfl (sx_getR dX12_saysBy_12 fl_FootQuarrelModel_59 (fun _ _ _ => rfl) (sx_iconst dX12_saysBy_15 rfl (sx_dup2 dX12_saysBy_16 (sx_iald dX12_saysBy_17 (sx_aload_n dX12_saysBy_18 rfl (sx_iload_n dX12_saysBy_19 rfl (sx_iload_n dX12_saysBy_20 rfl (sx_vcall dX12_saysBy_21 cf_X12_says (mg_8 (List.mem_of_getElem? (i := 89) rfl) rfl) (mg_8 (List.mem_of_getElem? (i := 91) rfl) rfl) (mg_p (List.mem_of_getElem? (i := 92) rfl) rfl) rfl c_X12_says (sx_iadd dX12_saysBy_24 (sx_iast dX12_saysBy_25 (sx_aload_n dX12_saysBy_26 rfl (sx_getR dX12_saysBy_27 fl_FootQuarrelModel_59 (fun _ _ _ => rfl) (sx_iconst dX12_saysBy_30 rfl (sx_dup2 dX12_saysBy_31 (sx_iald dX12_saysBy_32 (sx_iconst dX12_saysBy_33 rfl (sx_iadd dX12_saysBy_34 (sx_iast dX12_saysBy_35 (sx_iconst dX12_saysBy_36 rfl (sx_zret dX12_saysBy_37 rfl))))))))))))))))))))) (sx_iconst dX12_saysBy_9 rfl (sx_zret dX12_saysBy_10 rfl))))))
theorem dX12_sorries_0 : decode cX12_sorries 0 = .ok (.aload_n 0, 1) := by decide +kernel
theorem dX12_sorries_1 : decode cX12_sorries 1 = .ok (.iconst 0, 1) := by decide +kernel
theorem dX12_sorries_2 : decode cX12_sorries 2 = .ok (.invokevirtual 280, 3) := by decide +kernel
theorem dX12_sorries_5 : decode cX12_sorries 5 = .ok (.ifCond .eq 11, 3) := by decide +kernel
theorem dX12_sorries_8 : decode cX12_sorries 8 = .ok (.aload_n 0, 1) := by decide +kernel
theorem dX12_sorries_9 : decode cX12_sorries 9 = .ok (.iconst 0, 1) := by decide +kernel
theorem dX12_sorries_10 : decode cX12_sorries 10 = .ok (.invokevirtual 318, 3) := by decide +kernel
theorem dX12_sorries_13 : decode cX12_sorries 13 = .ok (.ifCond .ne 5, 3) := by decide +kernel
theorem dX12_sorries_16 : decode cX12_sorries 16 = .ok (.iconst 0, 1) := by decide +kernel
theorem dX12_sorries_17 : decode cX12_sorries 17 = .ok (.ireturn, 1) := by decide +kernel
theorem dX12_sorries_18 : decode cX12_sorries 18 = .ok (.aload_n 0, 1) := by decide +kernel
theorem dX12_sorries_19 : decode cX12_sorries 19 = .ok (.iconst 0, 1) := by decide +kernel
theorem dX12_sorries_20 : decode cX12_sorries 20 = .ok (.invokevirtual 321, 3) := by decide +kernel
theorem dX12_sorries_23 : decode cX12_sorries 23 = .ok (.pop, 1) := by decide +kernel
theorem dX12_sorries_24 : decode cX12_sorries 24 = .ok (.iconst 1, 1) := by decide +kernel
theorem dX12_sorries_25 : decode cX12_sorries 25 = .ok (.ireturn, 1) := by decide +kernel
abbrev M_X12_sorries : MT := (yX12_sorries, cX12_sorries, 1, (some .boolean))
theorem cf_X12_sorries : fq_cf M_X12_sorries 0 := ⟨(mg_1 (List.mem_of_getElem? (i := 15) rfl) rfl), (mg_9 (List.mem_of_getElem? (i := 149) rfl) rfl), ⟨by decide, by decide, by decide +kernel⟩, by decide⟩
def B_X12_sorries_16 (G : GT) (mc ms : Nat) (Q : Post) : Cn := ix_pushI 0 (ix_zret mc ms Q)
theorem b_X12_sorries_16 {l : Launch} {G : GT} {D mc ms : Nat} {Q : Post} : Imp l G M_X12_sorries (D + 4) mc ms Q (B_X12_sorries_16 G mc ms Q) 16 := sx_iconst dX12_sorries_16 rfl (sx_zret dX12_sorries_17 rfl)
def B_X12_sorries_0 (G : GT) (mc ms : Nat) (Q : Post) : Cn := ix_aload 0 (ix_pushI 0 (ix_vcall 12 2 0 0 mc ms (sp_X12_isQuarrel G) (ix_if_eq ((B_X12_sorries_16 G mc ms Q)) (ix_aload 0 (ix_pushI 0 (ix_vcall 12 2 0 0 mc ms (sp_X12_canHalve G) (ix_if_ne (ix_aload 0 (ix_pushI 0 (ix_vcall 12 2 0 0 mc ms (sp_X12_halves G) (ix_popI (ix_pushI 1 (ix_zret mc ms Q)))))) ((B_X12_sorries_16 G mc ms Q)))))))))
theorem b_X12_sorries_0 {l : Launch} {G : GT} {D mc ms : Nat} {Q : Post} : Imp l G M_X12_sorries (D + 4) mc ms Q (B_X12_sorries_0 G mc ms Q) 0 := sx_aload_n dX12_sorries_0 rfl (sx_iconst dX12_sorries_1 rfl (sx_vcall dX12_sorries_2 cf_X12_isQuarrel (mg_8 (List.mem_of_getElem? (i := 54) rfl) rfl) (mg_8 (List.mem_of_getElem? (i := 56) rfl) rfl) (mg_p (List.mem_of_getElem? (i := 87) rfl) rfl) rfl c_X12_isQuarrel (sx_if_eq 16 dX12_sorries_5 (by decide) (b_X12_sorries_16) (sx_aload_n dX12_sorries_8 rfl (sx_iconst dX12_sorries_9 rfl (sx_vcall dX12_sorries_10 cf_X12_canHalve (mg_8 (List.mem_of_getElem? (i := 118) rfl) rfl) (mg_8 (List.mem_of_getElem? (i := 120) rfl) rfl) (mg_p (List.mem_of_getElem? (i := 98) rfl) rfl) rfl c_X12_canHalve (sx_if_ne 18 dX12_sorries_13 (by decide) (sx_aload_n dX12_sorries_18 rfl (sx_iconst dX12_sorries_19 rfl (sx_vcall dX12_sorries_20 cf_X12_halves (mg_8 (List.mem_of_getElem? (i := 122) rfl) rfl) (mg_8 (List.mem_of_getElem? (i := 124) rfl) rfl) (mg_p (List.mem_of_getElem? (i := 99) rfl) rfl) rfl c_X12_halves (sx_popI dX12_sorries_23 (sx_iconst dX12_sorries_24 rfl (sx_zret dX12_sorries_25 rfl)))))) (b_X12_sorries_16))))))))
theorem dX12_nightsBy_0 : decode cX12_nightsBy 0 = .ok (.aload_n 0, 1) := by decide +kernel
theorem dX12_nightsBy_1 : decode cX12_nightsBy 1 = .ok (.getfield 7, 3) := by decide +kernel
theorem dX12_nightsBy_4 : decode cX12_nightsBy 4 = .ok (.bipush 6, 2) := by decide +kernel
theorem dX12_nightsBy_6 : decode cX12_nightsBy 6 = .ok (.iaload, 1) := by decide +kernel
theorem dX12_nightsBy_7 : decode cX12_nightsBy 7 = .ok (.iload_n 1, 1) := by decide +kernel
theorem dX12_nightsBy_8 : decode cX12_nightsBy 8 = .ok (.iadd, 1) := by decide +kernel
theorem dX12_nightsBy_9 : decode cX12_nightsBy 9 = .ok (.sipush 9999, 3) := by decide +kernel
theorem dX12_nightsBy_12 : decode cX12_nightsBy 12 = .ok (.if_icmp .le 5, 3) := by decide +kernel
theorem dX12_nightsBy_15 : decode cX12_nightsBy 15 = .ok (.iconst 0, 1) := by decide +kernel
theorem dX12_nightsBy_16 : decode cX12_nightsBy 16 = .ok (.ireturn, 1) := by decide +kernel
theorem dX12_nightsBy_17 : decode cX12_nightsBy 17 = .ok (.aload_n 0, 1) := by decide +kernel
theorem dX12_nightsBy_18 : decode cX12_nightsBy 18 = .ok (.iload_n 1, 1) := by decide +kernel
theorem dX12_nightsBy_19 : decode cX12_nightsBy 19 = .ok (.invokevirtual 333, 3) := by decide +kernel
theorem dX12_nightsBy_22 : decode cX12_nightsBy 22 = .ok (.aload_n 0, 1) := by decide +kernel
theorem dX12_nightsBy_23 : decode cX12_nightsBy 23 = .ok (.getfield 59, 3) := by decide +kernel
theorem dX12_nightsBy_26 : decode cX12_nightsBy 26 = .ok (.iconst 1, 1) := by decide +kernel
theorem dX12_nightsBy_27 : decode cX12_nightsBy 27 = .ok (.dup2, 1) := by decide +kernel
theorem dX12_nightsBy_28 : decode cX12_nightsBy 28 = .ok (.iaload, 1) := by decide +kernel
theorem dX12_nightsBy_29 : decode cX12_nightsBy 29 = .ok (.iload_n 1, 1) := by decide +kernel
theorem dX12_nightsBy_30 : decode cX12_nightsBy 30 = .ok (.iadd, 1) := by decide +kernel
theorem dX12_nightsBy_31 : decode cX12_nightsBy 31 = .ok (.iastore, 1) := by decide +kernel
theorem dX12_nightsBy_32 : decode cX12_nightsBy 32 = .ok (.iconst 1, 1) := by decide +kernel
theorem dX12_nightsBy_33 : decode cX12_nightsBy 33 = .ok (.ireturn, 1) := by decide +kernel
abbrev M_X12_nightsBy : MT := (yX12_nightsBy, cX12_nightsBy, 2, (some .boolean))
theorem cf_X12_nightsBy : fq_cf M_X12_nightsBy 1 := ⟨(mg_1 (List.mem_of_getElem? (i := 15) rfl) rfl), (mg_9 (List.mem_of_getElem? (i := 153) rfl) rfl), ⟨by decide, by decide, by decide +kernel⟩, by decide⟩
def B_X12_nightsBy_0 (G : GT) (mc ms : Nat) (Q : Post) : Cn := ix_aload 0 (ix_getR 12 0 (ix_pushI 6 (ix_iald (ix_iload 1 (ix_iadd (ix_pushI 9999 (ix_icmp_le (ix_aload 0 (ix_iload 1 (ix_vcall 12 2 0 0 mc ms (sp_X12_nights G) (ix_aload 0 (ix_getR 12 32 (ix_pushI 1 (ix_dup2 (ix_iald (ix_iload 1 (ix_iadd (ix_iast (ix_pushI 1 (ix_zret mc ms Q))))))))))))) (ix_pushI 0 (ix_zret mc ms Q)))))))))
theorem b_X12_nightsBy_0 {l : Launch} {G : GT} {D mc ms : Nat} {Q : Post} : Imp l G M_X12_nightsBy (D + 4) mc ms Q (B_X12_nightsBy_0 G mc ms Q) 0 := sx_aload_n dX12_nightsBy_0 rfl (sx_getR dX12_nightsBy_1 fl_FootQuarrelModel_7 (fun _ _ _ => rfl) (sx_bipush dX12_nightsBy_4 rfl (sx_iald dX12_nightsBy_6 (sx_iload_n dX12_nightsBy_7 rfl (sx_iadd dX12_nightsBy_8 (sx_sipush dX12_nightsBy_9 rfl (sx_icmp_le 17 dX12_nightsBy_12 (by decide) (sx_aload_n dX12_nightsBy_17 rfl (sx_iload_n dX12_nightsBy_18 rfl (sx_vcall dX12_nightsBy_19 cf_X12_nights (mg_8 (List.mem_of_getElem? (i := 134) rfl) rfl) (mg_8 (List.mem_of_getElem? (i := 136) rfl) rfl) (mg_p (List.mem_of_getElem? (i := 100) rfl) rfl) rfl c_X12_nights (sx_aload_n dX12_nightsBy_22 rfl (sx_getR dX12_nightsBy_23 fl_FootQuarrelModel_59 (fun _ _ _ => rfl) (sx_iconst dX12_nightsBy_26 rfl (sx_dup2 dX12_nightsBy_27 (sx_iald dX12_nightsBy_28 (sx_iload_n dX12_nightsBy_29 rfl (sx_iadd dX12_nightsBy_30 (sx_iast dX12_nightsBy_31 (sx_iconst dX12_nightsBy_32 rfl (sx_zret dX12_nightsBy_33 rfl))))))))))))) (sx_iconst dX12_nightsBy_15 rfl (sx_zret dX12_nightsBy_16 rfl)))))))))
def sp_X12_draw (G : GT) : Sp := fun as S I J z Q => match as with
  | [.ref M, .int n] => rfS S M ∧ ∃ d c, I M 29 = nI d ∧ d < 65536 ∧ n = nI c ∧ 0 < c ∧ c < 100 ∧ Q (some (.int (nI (fd d / 8 % c)))) S (u2 I M 29 (nI (fd d))) J z
  | _ => False
theorem n8_0 : ¬ nI 8 = 0 := by decide
theorem n65_0 : ¬ nI 65536 = 0 := by decide
set_option maxHeartbeats 4000000 in
set_option maxRecDepth 20000 in
theorem c_X12_draw {l : Launch} {G : GT} {D : Nat} : ∀ as S I J z Q, sp_X12_draw G as S I J z Q → fqCall l G M_X12_draw (D + 0) 0 0 as S I J z Q := by
  intro as S I J z Q h
  unfold sp_X12_draw at h
  split at h
  · next M n =>
    obtain ⟨hm, d, c, hd, hd9, rfl, h0, hc, hQ⟩ := h
    have e1 := fd_I hd9
    have e2 := fd_8 d
    have e3 := fdq_c (d := d) h0 hc
    have hc0 : ¬ nI c = 0 := fun e => by
      have := nI_i (b := 0) (by omega) (by omega) e
      omega
    refine fq_enter [some (.ref M), some (.int (nI c))] (by decide +kernel) (Nat.le_of_ble_eq_true rfl) rfl (b_X12_draw_0 _ _ _ _ _ _ _ _ ?_)
    simp (disch := omega) only [B_X12_draw_0, hm, hm.k, hm.k1, hm.n1, hm.r1, hm.k2, hm.n2, hm.r2, hm.k3, hm.n3, hm.r3, hm.k4, hm.n4, hm.r4, hm.k5, hm.n5, hm.r5, hm.k6, hm.n6, hm.r6, hm.k7, hm.n7, hm.r7, hm.k8, hm.n8, hm.r8, hm.k9, hm.n9, hm.r9, hm.k10, hm.n10, hm.r10, hm.k11, hm.n11, hm.r11, hm.k12, hm.n12, hm.r12, hm.k13, hm.n13, hm.r13, hm.k14, hm.n14, hm.r14, li_2, li_3, li_4, li_5, li_6, li_7, li_8, li_9, li_10, li_11, li_12, li_13, li_14, li_15, li_16, li_17, li_18, li_19, li_20, li_21, li_22, li_23, li_24, li_25, li_26, li_27, li_28, li_29, li_30, li_32, li_33, li_34, li_35, li_36, li_37, li_38, li_39, li_40, li_41, li_42, li_43, li_44, li_45, li_46, li_47, li_48, li_49, li_50, li_51, li_52, li_53, li_54, li_55, li_56, li_57, li_58, li_59, li_60, li_61, li_62, li_63, li_64, li_65, li_66, li_67, li_68, li_69, li_70, li_71, li_72, li_73, li_74, li_75, li_76, li_77, li_78, li_79, li_80, li_81, li_82, li_83, li_84, li_85, li_86, li_87, li_88, li_89, li_90, li_91, li_92, li_93, li_94, li_95, li_96, li_97, li_98, li_99, li_100, li_101, li_102, li_103, li_104, li_105, li_106, li_107, li_108, li_109, li_110, li_111, li_112, li_113, li_114, li_115, li_116, li_117, li_118, li_119, li_120, li_121, li_122, li_123, li_124, li_125, li_126, li_127, li_128, li_129, li_130, li_131, li_226, li_240, li_255, li_300, li_586, li_594, li_900, li_999, li_1000, li_1800, li_2376, li_2388, li_2406, li_2602, li_2970, li_3067, li_3564, li_9999, li_10000, li_11287, li_65536, li_100000, li_1000000, nI_mul, tn0, tn1, vin0, vin1, Int32.add_zero, Int32.or_zero, Int32.mul_one, Int32.mul_zero, Int32.zero_add, Nat.reduceEqDiff, Nat.reduceMul, Nat.reduceSub, hd, e1, u2_same, e2, e3, n8_0, n65_0, hc0, nI_1, nI_add, nI_clamp, nI_pin, nI_neg, nI_nonneg, nI_leE, nI_ltE, nI_eqE, Nat.not_le, Nat.not_lt, fq_10, fq_01, fq_rr, ix_aald, ix_aast, ix_abs, ix_alen, ix_aload, ix_aret, ix_astore, ix_bald, ix_bast, ix_call, ix_cpyI, ix_cpyJ, ix_dead, ix_dup2, ix_dup2L, ix_dupI, ix_dupR, ix_dupx1, ix_getI, ix_getJ, ix_getR, ix_gfm, ix_gtab, ix_i2b, ix_i2c, ix_i2l, ix_i2s, ix_iadd, ix_iald, ix_iand, ix_iast, ix_icall, ix_icmp_eq, ix_icmp_ge, ix_icmp_gt, ix_icmp_le, ix_icmp_lt, ix_icmp_ne, ix_idiv, ix_if_eq, ix_if_ge, ix_if_gt, ix_if_le, ix_if_lt, ix_if_ne, ix_iinc, ix_iload, ix_imul, ix_ineg, ix_ior, ix_irem, ix_iret, ix_ishl, ix_ishr, ix_istore, ix_isub, ix_iushr, ix_ixor, ix_l2i, ix_ladd, ix_lald, ix_land, ix_last, ix_lcmp, ix_ldcS, ix_ldiv, ix_lload, ix_lmul, ix_lor, ix_lrem, ix_lret, ix_lshl, ix_lstore, ix_lsub, ix_lsw, ix_max, ix_min, ix_new, ix_newa, ix_nret, ix_oinit, ix_pop2L, ix_popI, ix_pushI, ix_pushL, ix_putI, ix_putJ, ix_putR, ix_putZ, ix_sbald, ix_sgetC, ix_sgetV, ix_slen, ix_strc, ix_tald, ix_tsw, ix_vcall, ix_vret, ix_zret, stL, stL2, kilL, popN, fq_sw, fq_lsw, List.map_cons, List.map_nil, List.getElem?_cons_zero, List.getElem?_cons_succ, Option.toList_some, Option.toList_none, List.cons_append, List.nil_append, List.length_cons, List.length_nil, List.sum_cons, List.sum_nil, cat_i, cat_l, cat_r, true_and, and_true, Nat.zero_add, Nat.add_zero, Nat.le_refl, Nat.zero_le, Nat.reduceAdd, Nat.reduceLeDiff, exists_eq_left', Option.some.injEq, not_true_eq_false, not_false_eq_true, false_implies, true_implies, implies_true, and_self, or_true, true_or, or_false, false_or]
    exact hQ
  · exact h.elim
/-- what a step may have changed -/
def lvF (M : Nat) (I I' : IH) : Prop := (∀ a, a ≠ M → a ≠ M + 1 → a ≠ M + 13 → I' a = I a) ∧ ∀ k, k ≠ 29 → I' M k = I M k
theorem lvF.tr {M : Nat} {I I1 I2 : IH} (h : lvF M I I1) (g : lvF M I1 I2) : lvF M I I2 := ⟨fun a h1 h2 h3 => (g.1 a h1 h2 h3).trans (h.1 a h1 h2 h3), fun k hk => (g.2 k hk).trans (h.2 k hk)⟩
theorem lvF.rf {M : Nat} {I : IH} : lvF M I I := ⟨fun _ _ _ _ => rfl, fun _ _ => rfl⟩
abbrev LR : Type := Bool × (Nat → Int32) × Nat × Int32 × Int32 × Int32
/-- a say in a life -/
def loS (A : Nat → Int32) (d a b : Nat) : LR := if ¬ a = b ∧ nrP (A (30 + 7 * a)) (A (30 + 7 * b)) (A 8) then (true, syX A a b (A (30 + 7 * a)).toNatClampNeg (A (30 + 7 * b)).toNatClampNeg, d, 0, 1, nI (rq2 A a b).1) else (false, A, d, 0, 0, 0)
/-- a quarrel halved -/
def hlA (A : Nat → Int32) (k w : Nat) : Nat → Int32 := if 0 < A (86 + 7 * k + 5) then uA (uA (uA A (86 + 7 * k + 6) 1) (12 + 3 * w) (A (12 + 3 * w) - mnI (A (86 + 7 * k + 5) / 2) (A (12 + 3 * w)))) (12 + 3 * (w + 1)) (A (12 + 3 * (w + 1)) + mnI (A (86 + 7 * k + 5) / 2) (A (12 + 3 * w))) else uA (uA (uA A (86 + 7 * k + 6) 1) (12 + 3 * (w + 1)) (A (12 + 3 * (w + 1)) - mnI (-A (86 + 7 * k + 5) / 2) (A (12 + 3 * (w + 1))))) (12 + 3 * w) (A (12 + 3 * w) + mnI (-A (86 + 7 * k + 5) / 2) (A (12 + 3 * (w + 1))))
def loH (A : Nat → Int32) (d : Nat) : LR := if 0 < (A 2).toNatClampNeg ∧ A 86 = A 6 ∧ A 92 = 0 then (true, hlA A 0 (A 87).toNatClampNeg, d, 0, 0, 0) else (false, A, d, 0, 0, 0)
def loN (A : Nat → Int32) (d n : Nat) : LR := if 9999 < (A 6).toNatClampNeg + n then (false, A, d, 0, 0, 0) else (true, ngtN n A, d, nI n, 0, 0)
def loW (A : Nat → Int32) (d : Nat) (r : Int32) : LR := (decide (¬ A 7 = r), uA A 7 r, d, 0, 0, 0)
def loY (A : Nat → Int32) (d : Nat) : LR := if A 1 = 0 then (false, A, d, 0, 0, 0) else loS (uA A 7 (bI (nI (fd d / 8 % 16) < A 5))) (fd (fd (fd d))) (fd (fd d) / 8 % (A 1).toNatClampNeg) (fd (fd (fd d)) / 8 % (A 1).toNatClampNeg)
/-- behind a step -/
def lvQ (M : Nat) (I : IH) (x : LR) (I' : IH) : Prop := lvF M I I' ∧ I' (M + 1) = x.2.1 ∧ I' M 29 = nI x.2.2.1 ∧ I' (M + 13) 0 = I (M + 13) 0 ∧ I' (M + 13) 1 = I (M + 13) 1 + x.2.2.2.1 ∧ I' (M + 13) 2 = I (M + 13) 2 + x.2.2.2.2.1 ∧ I' (M + 13) 3 = I (M + 13) 3 + x.2.2.2.2.2 ∧ I' (M + 13) 4 = I (M + 13) 4
def sp_X12_saysBy (G : GT) : Sp := fun as S I J z Q => match as with
  | [.ref M, .int a, .int b] => rfS S M ∧ wfS (I (M + 1)) ∧ ∃ p q d, a = nI p ∧ b = nI q ∧ p < (I (M + 1) 1).toNatClampNeg ∧ q < (I (M + 1) 1).toNatClampNeg ∧ I M 29 = nI d ∧ ∀ I', lvQ M I (loS (I (M + 1)) d p q) I' → Q (some (.int (bI ((loS (I (M + 1)) d p q).1 = true)))) S I' J z
  | _ => False
set_option maxHeartbeats 4000000 in
set_option maxRecDepth 20000 in
theorem c_X12_saysBy {l : Launch} {G : GT} {D : Nat} : ∀ as S I J z Q, sp_X12_saysBy G as S I J z Q → fqCall l G M_X12_saysBy (D + 5) 0 0 as S I J z Q := by
  intro as S I J z Q h
  unfold sp_X12_saysBy at h
  split at h
  · next M a b =>
    obtain ⟨hm, hw, p, q, d, rfl, rfl, hp, hq, hd, hQ⟩ := h
    have hc := hw.2.1.2
    refine fq_enter [some (.ref M), some (.int (nI p)), some (.int (nI q))] (by decide +kernel) (Nat.le_of_ble_eq_true rfl) rfl (b_X12_saysBy_0 _ _ _ _ _ _ _ _ ?_)
    unfold loS at hQ
    by_cases hn : ¬ p = q ∧ nrP (I (M + 1) (30 + 7 * p)) (I (M + 1) (30 + 7 * q)) (I (M + 1) 8)
    · rw [if_pos hn] at hQ
      obtain ⟨x, y, nb⟩ := nb_of hw hp hq hn.1 hn.2
      obtain ⟨-, -, hpq, ex, ey, hx, hy, hxy⟩ := nb
      have hc0 := hw.1.2
      unfold rq2 at hQ
      rw [ex, ey, nI_clamp (by omega), nI_clamp (by omega)] at hQ
      have b1 : bI (¬ p = q ∧ nrP (I (M + 1) (30 + 7 * p)) (I (M + 1) (30 + 7 * q)) (I (M + 1) 8)) = 1 := bI_t hn
      have hv : 0 ≤ I (M + 1) (30 + 7 * p + 3) := (hw.r.2.2.2.2 p hp).2
      have o2 := hw.2.2.1
      have hr := hw.2.2.2.2.2.2.2.1
      have e9 : u2 (up1 I (M + 1) (syX (I (M + 1)) p q x y)) (M + 13) 3 (I (M + 13) 3 + nI (rqr (I (M + 1)) p q x y).1) (M + 13) 2 = I (M + 13) 2 := by rw [u2_ck _ _ _ _ _ _ (by omega), up1_o _ _ _ _ (by omega)]
      simp (disch := omega) only [B_X12_saysBy_0, sp_X12_areNear, sp_X12_says, hm, hm.k, hm.k1, hm.n1, hm.r1, hm.k2, hm.n2, hm.r2, hm.k3, hm.n3, hm.r3, hm.k4, hm.n4, hm.r4, hm.k5, hm.n5, hm.r5, hm.k6, hm.n6, hm.r6, hm.k7, hm.n7, hm.r7, hm.k8, hm.n8, hm.r8, hm.k9, hm.n9, hm.r9, hm.k10, hm.n10, hm.r10, hm.k11, hm.n11, hm.r11, hm.k12, hm.n12, hm.r12, hm.k13, hm.n13, hm.r13, hm.k14, hm.n14, hm.r14, li_2, li_3, li_4, li_5, li_6, li_7, li_8, li_9, li_10, li_11, li_12, li_13, li_14, li_15, li_16, li_17, li_18, li_19, li_20, li_21, li_22, li_23, li_24, li_25, li_26, li_27, li_28, li_29, li_30, li_32, li_33, li_34, li_35, li_36, li_37, li_38, li_39, li_40, li_41, li_42, li_43, li_44, li_45, li_46, li_47, li_48, li_49, li_50, li_51, li_52, li_53, li_54, li_55, li_56, li_57, li_58, li_59, li_60, li_61, li_62, li_63, li_64, li_65, li_66, li_67, li_68, li_69, li_70, li_71, li_72, li_73, li_74, li_75, li_76, li_77, li_78, li_79, li_80, li_81, li_82, li_83, li_84, li_85, li_86, li_87, li_88, li_89, li_90, li_91, li_92, li_93, li_94, li_95, li_96, li_97, li_98, li_99, li_100, li_101, li_102, li_103, li_104, li_105, li_106, li_107, li_108, li_109, li_110, li_111, li_112, li_113, li_114, li_115, li_116, li_117, li_118, li_119, li_120, li_121, li_122, li_123, li_124, li_125, li_126, li_127, li_128, li_129, li_130, li_131, li_226, li_240, li_255, li_300, li_586, li_594, li_900, li_999, li_1000, li_1800, li_2376, li_2388, li_2406, li_2602, li_2970, li_3067, li_3564, li_9999, li_10000, li_11287, li_65536, li_100000, li_1000000, nI_mul, tn0, tn1, vin0, vin1, Int32.add_zero, Int32.or_zero, Int32.mul_one, Int32.mul_zero, Int32.zero_add, Nat.reduceEqDiff, Nat.reduceMul, Nat.reduceSub, bI_01, bI_01b, bI_0, hv, o2, hr, nI_1, nI_add, nI_clamp, nI_pin, nI_neg, nI_nonneg, nI_leE, nI_ltE, nI_eqE, Nat.not_le, Nat.not_lt, fq_10, fq_01, fq_rr, ix_aald, ix_aast, ix_abs, ix_alen, ix_aload, ix_aret, ix_astore, ix_bald, ix_bast, ix_call, ix_cpyI, ix_cpyJ, ix_dead, ix_dup2, ix_dup2L, ix_dupI, ix_dupR, ix_dupx1, ix_getI, ix_getJ, ix_getR, ix_gfm, ix_gtab, ix_i2b, ix_i2c, ix_i2l, ix_i2s, ix_iadd, ix_iald, ix_iand, ix_iast, ix_icall, ix_icmp_eq, ix_icmp_ge, ix_icmp_gt, ix_icmp_le, ix_icmp_lt, ix_icmp_ne, ix_idiv, ix_if_eq, ix_if_ge, ix_if_gt, ix_if_le, ix_if_lt, ix_if_ne, ix_iinc, ix_iload, ix_imul, ix_ineg, ix_ior, ix_irem, ix_iret, ix_ishl, ix_ishr, ix_istore, ix_isub, ix_iushr, ix_ixor, ix_l2i, ix_ladd, ix_lald, ix_land, ix_last, ix_lcmp, ix_ldcS, ix_ldiv, ix_lload, ix_lmul, ix_lor, ix_lrem, ix_lret, ix_lshl, ix_lstore, ix_lsub, ix_lsw, ix_max, ix_min, ix_new, ix_newa, ix_nret, ix_oinit, ix_pop2L, ix_popI, ix_pushI, ix_pushL, ix_putI, ix_putJ, ix_putR, ix_putZ, ix_sbald, ix_sgetC, ix_sgetV, ix_slen, ix_strc, ix_tald, ix_tsw, ix_vcall, ix_vret, ix_zret, stL, stL2, kilL, popN, fq_sw, fq_lsw, List.map_cons, List.map_nil, List.getElem?_cons_zero, List.getElem?_cons_succ, Option.toList_some, Option.toList_none, List.cons_append, List.nil_append, List.length_cons, List.length_nil, List.sum_cons, List.sum_nil, cat_i, cat_l, cat_r, true_and, and_true, Nat.zero_add, Nat.add_zero, Nat.le_refl, Nat.zero_le, Nat.reduceAdd, Nat.reduceLeDiff, exists_eq_left', Option.some.injEq, not_true_eq_false, not_false_eq_true, false_implies, true_implies, implies_true, and_self, or_true, true_or, or_false, false_or]
      refine ⟨fun _ => ⟨hpq, x, y, by omega, by omega, by omega, ex, ey, ?_⟩, fun h => absurd hn h⟩
      rw [e9]
      have hz := hQ (u2 (u2 (up1 I (M + 1) (syX (I (M + 1)) p q x y)) (M + 13) 3 (I (M + 13) 3 + nI (rqr (I (M + 1)) p q x y).1)) (M + 13) 2 (I (M + 13) 2 + 1)) ⟨⟨fun a h1 h2 h3 => by rw [u2_ne h3, u2_ne h3, up1_o _ _ _ _ h2], fun k hk => by rw [u2_ca _ _ _ _ _ _ (by omega), u2_ca _ _ _ _ _ _ (by omega), up1_o _ _ _ _ (by omega)]⟩, by rw [u2_ne (by omega), u2_ne (by omega), up1_at], by rw [u2_ca _ _ _ _ _ _ (by omega), u2_ca _ _ _ _ _ _ (by omega), up1_o _ _ _ _ (by omega)]; exact hd, by rw [u2_ck _ _ _ _ _ _ (by omega), u2_ck _ _ _ _ _ _ (by omega), up1_o _ _ _ _ (by omega)], by rw [u2_ck _ _ _ _ _ _ (by omega), u2_ck _ _ _ _ _ _ (by omega), up1_o _ _ _ _ (by omega)]; exact (Int32.add_zero _).symm, by rw [u2_same], by rw [u2_ck _ _ _ _ _ _ (by omega), u2_same], by rw [u2_ck _ _ _ _ _ _ (by omega), u2_ck _ _ _ _ _ _ (by omega), up1_o _ _ _ _ (by omega)]⟩
      exact hz
    · rw [if_neg hn] at hQ
      have b1 : bI (¬ p = q ∧ nrP (I (M + 1) (30 + 7 * p)) (I (M + 1) (30 + 7 * q)) (I (M + 1) 8)) = 0 := bI_f hn
      simp (disch := omega) only [B_X12_saysBy_0, sp_X12_areNear, sp_X12_says, hm, hm.k, hm.k1, hm.n1, hm.r1, hm.k2, hm.n2, hm.r2, hm.k3, hm.n3, hm.r3, hm.k4, hm.n4, hm.r4, hm.k5, hm.n5, hm.r5, hm.k6, hm.n6, hm.r6, hm.k7, hm.n7, hm.r7, hm.k8, hm.n8, hm.r8, hm.k9, hm.n9, hm.r9, hm.k10, hm.n10, hm.r10, hm.k11, hm.n11, hm.r11, hm.k12, hm.n12, hm.r12, hm.k13, hm.n13, hm.r13, hm.k14, hm.n14, hm.r14, li_2, li_3, li_4, li_5, li_6, li_7, li_8, li_9, li_10, li_11, li_12, li_13, li_14, li_15, li_16, li_17, li_18, li_19, li_20, li_21, li_22, li_23, li_24, li_25, li_26, li_27, li_28, li_29, li_30, li_32, li_33, li_34, li_35, li_36, li_37, li_38, li_39, li_40, li_41, li_42, li_43, li_44, li_45, li_46, li_47, li_48, li_49, li_50, li_51, li_52, li_53, li_54, li_55, li_56, li_57, li_58, li_59, li_60, li_61, li_62, li_63, li_64, li_65, li_66, li_67, li_68, li_69, li_70, li_71, li_72, li_73, li_74, li_75, li_76, li_77, li_78, li_79, li_80, li_81, li_82, li_83, li_84, li_85, li_86, li_87, li_88, li_89, li_90, li_91, li_92, li_93, li_94, li_95, li_96, li_97, li_98, li_99, li_100, li_101, li_102, li_103, li_104, li_105, li_106, li_107, li_108, li_109, li_110, li_111, li_112, li_113, li_114, li_115, li_116, li_117, li_118, li_119, li_120, li_121, li_122, li_123, li_124, li_125, li_126, li_127, li_128, li_129, li_130, li_131, li_226, li_240, li_255, li_300, li_586, li_594, li_900, li_999, li_1000, li_1800, li_2376, li_2388, li_2406, li_2602, li_2970, li_3067, li_3564, li_9999, li_10000, li_11287, li_65536, li_100000, li_1000000, nI_mul, tn0, tn1, vin0, vin1, Int32.add_zero, Int32.or_zero, Int32.mul_one, Int32.mul_zero, Int32.zero_add, Nat.reduceEqDiff, Nat.reduceMul, Nat.reduceSub, bI_01, bI_01b, bI_0, nI_1, nI_add, nI_clamp, nI_pin, nI_neg, nI_nonneg, nI_leE, nI_ltE, nI_eqE, Nat.not_le, Nat.not_lt, fq_10, fq_01, fq_rr, ix_aald, ix_aast, ix_abs, ix_alen, ix_aload, ix_aret, ix_astore, ix_bald, ix_bast, ix_call, ix_cpyI, ix_cpyJ, ix_dead, ix_dup2, ix_dup2L, ix_dupI, ix_dupR, ix_dupx1, ix_getI, ix_getJ, ix_getR, ix_gfm, ix_gtab, ix_i2b, ix_i2c, ix_i2l, ix_i2s, ix_iadd, ix_iald, ix_iand, ix_iast, ix_icall, ix_icmp_eq, ix_icmp_ge, ix_icmp_gt, ix_icmp_le, ix_icmp_lt, ix_icmp_ne, ix_idiv, ix_if_eq, ix_if_ge, ix_if_gt, ix_if_le, ix_if_lt, ix_if_ne, ix_iinc, ix_iload, ix_imul, ix_ineg, ix_ior, ix_irem, ix_iret, ix_ishl, ix_ishr, ix_istore, ix_isub, ix_iushr, ix_ixor, ix_l2i, ix_ladd, ix_lald, ix_land, ix_last, ix_lcmp, ix_ldcS, ix_ldiv, ix_lload, ix_lmul, ix_lor, ix_lrem, ix_lret, ix_lshl, ix_lstore, ix_lsub, ix_lsw, ix_max, ix_min, ix_new, ix_newa, ix_nret, ix_oinit, ix_pop2L, ix_popI, ix_pushI, ix_pushL, ix_putI, ix_putJ, ix_putR, ix_putZ, ix_sbald, ix_sgetC, ix_sgetV, ix_slen, ix_strc, ix_tald, ix_tsw, ix_vcall, ix_vret, ix_zret, stL, stL2, kilL, popN, fq_sw, fq_lsw, List.map_cons, List.map_nil, List.getElem?_cons_zero, List.getElem?_cons_succ, Option.toList_some, Option.toList_none, List.cons_append, List.nil_append, List.length_cons, List.length_nil, List.sum_cons, List.sum_nil, cat_i, cat_l, cat_r, true_and, and_true, Nat.zero_add, Nat.add_zero, Nat.le_refl, Nat.zero_le, Nat.reduceAdd, Nat.reduceLeDiff, exists_eq_left', Option.some.injEq, not_true_eq_false, not_false_eq_true, false_implies, true_implies, implies_true, and_self, or_true, true_or, or_false, false_or]
      exact ⟨fun h => absurd hn (fun q => h (by exact q.elim)), fun _ => hQ I ⟨lvF.rf, rfl, hd, rfl, (Int32.add_zero _).symm, (Int32.add_zero _).symm, (Int32.add_zero _).symm, rfl⟩⟩
  · exact h.elim
def sp_X12_sorries (G : GT) : Sp := fun as S I J z Q => match as with
  | [.ref M] => rfS S M ∧ wfS (I (M + 1)) ∧ ∃ d, I M 29 = nI d ∧ ∀ I', lvQ M I (loH (I (M + 1)) d) I' → Q (some (.int (bI ((loH (I (M + 1)) d).1 = true)))) S I' J z
  | _ => False
set_option maxHeartbeats 4000000 in
set_option maxRecDepth 20000 in
theorem c_X12_sorries {l : Launch} {G : GT} {D : Nat} : ∀ as S I J z Q, sp_X12_sorries G as S I J z Q → fqCall l G M_X12_sorries (D + 4) 0 0 as S I J z Q := by
  intro as S I J z Q h
  unfold sp_X12_sorries at h
  split at h
  · next M =>
    obtain ⟨hm, hw, d, hd, hQ⟩ := h
    have o2 := hw.2.2.1
    obtain ⟨c, hc, hc1, hc2⟩ := o2.ex
    unfold loH at hQ
    rw [hc2] at hQ
    have lq : lvQ M I (false, I (M + 1), d, 0, 0, 0) I := ⟨lvF.rf, rfl, hd, rfl, (Int32.add_zero _).symm, (Int32.add_zero _).symm, (Int32.add_zero _).symm, rfl⟩
    have i0 : ((0 : Int32) ≤ 0) = True := eq_true (by decide)
    refine fq_enter [some (.ref M)] (by decide +kernel) (Nat.le_of_ble_eq_true rfl) rfl (b_X12_sorries_0 _ _ _ _ _ _ _ _ ?_)
    simp (disch := omega) only [B_X12_sorries_0, B_X12_sorries_16, sp_X12_isQuarrel, sp_X12_canHalve, sp_X12_halves, hm, hm.k, hm.k1, hm.n1, hm.r1, hm.k2, hm.n2, hm.r2, hm.k3, hm.n3, hm.r3, hm.k4, hm.n4, hm.r4, hm.k5, hm.n5, hm.r5, hm.k6, hm.n6, hm.r6, hm.k7, hm.n7, hm.r7, hm.k8, hm.n8, hm.r8, hm.k9, hm.n9, hm.r9, hm.k10, hm.n10, hm.r10, hm.k11, hm.n11, hm.r11, hm.k12, hm.n12, hm.r12, hm.k13, hm.n13, hm.r13, hm.k14, hm.n14, hm.r14, li_2, li_3, li_4, li_5, li_6, li_7, li_8, li_9, li_10, li_11, li_12, li_13, li_14, li_15, li_16, li_17, li_18, li_19, li_20, li_21, li_22, li_23, li_24, li_25, li_26, li_27, li_28, li_29, li_30, li_32, li_33, li_34, li_35, li_36, li_37, li_38, li_39, li_40, li_41, li_42, li_43, li_44, li_45, li_46, li_47, li_48, li_49, li_50, li_51, li_52, li_53, li_54, li_55, li_56, li_57, li_58, li_59, li_60, li_61, li_62, li_63, li_64, li_65, li_66, li_67, li_68, li_69, li_70, li_71, li_72, li_73, li_74, li_75, li_76, li_77, li_78, li_79, li_80, li_81, li_82, li_83, li_84, li_85, li_86, li_87, li_88, li_89, li_90, li_91, li_92, li_93, li_94, li_95, li_96, li_97, li_98, li_99, li_100, li_101, li_102, li_103, li_104, li_105, li_106, li_107, li_108, li_109, li_110, li_111, li_112, li_113, li_114, li_115, li_116, li_117, li_118, li_119, li_120, li_121, li_122, li_123, li_124, li_125, li_126, li_127, li_128, li_129, li_130, li_131, li_226, li_240, li_255, li_300, li_586, li_594, li_900, li_999, li_1000, li_1800, li_2376, li_2388, li_2406, li_2602, li_2970, li_3067, li_3564, li_9999, li_10000, li_11287, li_65536, li_100000, li_1000000, nI_mul, tn0, tn1, vin0, vin1, Int32.add_zero, Int32.or_zero, Int32.mul_one, Int32.mul_zero, Int32.zero_add, Nat.reduceEqDiff, Nat.reduceMul, Nat.reduceSub, bI_01, bI_01b, bI_0, hc1, i0, nI_gt0, nI_1, nI_add, nI_clamp, nI_pin, nI_neg, nI_nonneg, nI_leE, nI_ltE, nI_eqE, Nat.not_le, Nat.not_lt, fq_10, fq_01, fq_rr, ix_aald, ix_aast, ix_abs, ix_alen, ix_aload, ix_aret, ix_astore, ix_bald, ix_bast, ix_call, ix_cpyI, ix_cpyJ, ix_dead, ix_dup2, ix_dup2L, ix_dupI, ix_dupR, ix_dupx1, ix_getI, ix_getJ, ix_getR, ix_gfm, ix_gtab, ix_i2b, ix_i2c, ix_i2l, ix_i2s, ix_iadd, ix_iald, ix_iand, ix_iast, ix_icall, ix_icmp_eq, ix_icmp_ge, ix_icmp_gt, ix_icmp_le, ix_icmp_lt, ix_icmp_ne, ix_idiv, ix_if_eq, ix_if_ge, ix_if_gt, ix_if_le, ix_if_lt, ix_if_ne, ix_iinc, ix_iload, ix_imul, ix_ineg, ix_ior, ix_irem, ix_iret, ix_ishl, ix_ishr, ix_istore, ix_isub, ix_iushr, ix_ixor, ix_l2i, ix_ladd, ix_lald, ix_land, ix_last, ix_lcmp, ix_ldcS, ix_ldiv, ix_lload, ix_lmul, ix_lor, ix_lrem, ix_lret, ix_lshl, ix_lstore, ix_lsub, ix_lsw, ix_max, ix_min, ix_new, ix_newa, ix_nret, ix_oinit, ix_pop2L, ix_popI, ix_pushI, ix_pushL, ix_putI, ix_putJ, ix_putR, ix_putZ, ix_sbald, ix_sgetC, ix_sgetV, ix_slen, ix_strc, ix_tald, ix_tsw, ix_vcall, ix_vret, ix_zret, stL, stL2, kilL, popN, fq_sw, fq_lsw, List.map_cons, List.map_nil, List.getElem?_cons_zero, List.getElem?_cons_succ, Option.toList_some, Option.toList_none, List.cons_append, List.nil_append, List.length_cons, List.length_nil, List.sum_cons, List.sum_nil, cat_i, cat_l, cat_r, true_and, and_true, Nat.zero_add, Nat.add_zero, Nat.le_refl, Nat.zero_le, Nat.reduceAdd, Nat.reduceLeDiff, exists_eq_left', Option.some.injEq, not_true_eq_false, not_false_eq_true, false_implies, true_implies, implies_true, and_self, or_true, true_or, or_false, false_or]
    by_cases h0 : 0 < c
    · by_cases h1 : I (M + 1) 86 = I (M + 1) 6 ∧ I (M + 1) 92 = 0
      · rw [if_pos ⟨h0, h1⟩] at hQ
        obtain ⟨⟨w1, w2⟩, -⟩ := hw.2.2.2.2.2.2.2.2.2.2.1 0 (by omega)
        obtain ⟨w, hw9, ew, ew2⟩ := w1.ex
        have hc0 := hw.1.2
        have ew : I (M + 1) 87 = nI w := ew
        rw [ew, nI_clamp (by omega)] at hQ
        refine ⟨fun h => absurd h (by omega), fun _ => ⟨fun _ => ⟨w, by omega, ew, fun g => ?_, fun g => ?_⟩, fun h => absurd h1 h⟩⟩
        · unfold hlA at hQ
          rw [if_pos g] at hQ
          refine hQ _ ⟨⟨fun a h1 h2 h3 => up1_o _ _ _ _ h2, fun k hk => by rw [up1_o _ _ _ _ (by omega)]⟩, up1_at _ _ _, ?_, ?_, ?_, ?_, ?_, ?_⟩
          · rw [up1_o _ _ _ _ (by omega)]; exact hd
          · rw [up1_o _ _ _ _ (by omega)]
          · rw [up1_o _ _ _ _ (by omega)]; exact (Int32.add_zero _).symm
          · rw [up1_o _ _ _ _ (by omega)]; exact (Int32.add_zero _).symm
          · rw [up1_o _ _ _ _ (by omega)]; exact (Int32.add_zero _).symm
          · rw [up1_o _ _ _ _ (by omega)]
        · unfold hlA at hQ
          rw [if_neg g] at hQ
          refine hQ _ ⟨⟨fun a h1 h2 h3 => up1_o _ _ _ _ h2, fun k hk => by rw [up1_o _ _ _ _ (by omega)]⟩, up1_at _ _ _, ?_, ?_, ?_, ?_, ?_, ?_⟩
          · rw [up1_o _ _ _ _ (by omega)]; exact hd
          · rw [up1_o _ _ _ _ (by omega)]
          · rw [up1_o _ _ _ _ (by omega)]; exact (Int32.add_zero _).symm
          · rw [up1_o _ _ _ _ (by omega)]; exact (Int32.add_zero _).symm
          · rw [up1_o _ _ _ _ (by omega)]; exact (Int32.add_zero _).symm
          · rw [up1_o _ _ _ _ (by omega)]
      · rw [if_neg (fun q => h1 q.2)] at hQ
        exact ⟨fun h => absurd h (by omega), fun _ => ⟨fun h => absurd (Decidable.not_not.mp h) h1, fun _ => hQ I lq⟩⟩
    · rw [if_neg (fun q => h0 q.1)] at hQ
      exact ⟨fun _ => hQ I lq, fun h => absurd h (by omega)⟩
  · exact h.elim
def sp_X12_nightsBy (G : GT) : Sp := fun as S I J z Q => match as with
  | [.ref M, .int a] => rfS S M ∧ wfS (I (M + 1)) ∧ ∃ n d, a = nI n ∧ n ≤ 20 ∧ I M 29 = nI d ∧ ∀ I', lvQ M I (loN (I (M + 1)) d n) I' → Q (some (.int (bI ((loN (I (M + 1)) d n).1 = true)))) S I' J z
  | _ => False
set_option maxHeartbeats 4000000 in
set_option maxRecDepth 20000 in
theorem c_X12_nightsBy {l : Launch} {G : GT} {D : Nat} : ∀ as S I J z Q, sp_X12_nightsBy G as S I J z Q → fqCall l G M_X12_nightsBy (D + 4) 0 0 as S I J z Q := by
  intro as S I J z Q h
  unfold sp_X12_nightsBy at h
  split at h
  · next M a =>
    obtain ⟨hm, hw, n, d, rfl, hn, hd, hQ⟩ := h
    have o1 := hw.2.1
    obtain ⟨t, ht, ht1, ht2⟩ := hw.2.2.2.2.2.2.1.ex
    have on : okN (nI n) 1000 := okN.nI (by omega) (by decide)
    unfold loN at hQ
    rw [ht2] at hQ
    refine fq_enter [some (.ref M), some (.int (nI n))] (by decide +kernel) (Nat.le_of_ble_eq_true rfl) rfl (b_X12_nightsBy_0 _ _ _ _ _ _ _ _ ?_)
    simp (disch := omega) only [B_X12_nightsBy_0, sp_X12_nights, hm, hm.k, hm.k1, hm.n1, hm.r1, hm.k2, hm.n2, hm.r2, hm.k3, hm.n3, hm.r3, hm.k4, hm.n4, hm.r4, hm.k5, hm.n5, hm.r5, hm.k6, hm.n6, hm.r6, hm.k7, hm.n7, hm.r7, hm.k8, hm.n8, hm.r8, hm.k9, hm.n9, hm.r9, hm.k10, hm.n10, hm.r10, hm.k11, hm.n11, hm.r11, hm.k12, hm.n12, hm.r12, hm.k13, hm.n13, hm.r13, hm.k14, hm.n14, hm.r14, li_2, li_3, li_4, li_5, li_6, li_7, li_8, li_9, li_10, li_11, li_12, li_13, li_14, li_15, li_16, li_17, li_18, li_19, li_20, li_21, li_22, li_23, li_24, li_25, li_26, li_27, li_28, li_29, li_30, li_32, li_33, li_34, li_35, li_36, li_37, li_38, li_39, li_40, li_41, li_42, li_43, li_44, li_45, li_46, li_47, li_48, li_49, li_50, li_51, li_52, li_53, li_54, li_55, li_56, li_57, li_58, li_59, li_60, li_61, li_62, li_63, li_64, li_65, li_66, li_67, li_68, li_69, li_70, li_71, li_72, li_73, li_74, li_75, li_76, li_77, li_78, li_79, li_80, li_81, li_82, li_83, li_84, li_85, li_86, li_87, li_88, li_89, li_90, li_91, li_92, li_93, li_94, li_95, li_96, li_97, li_98, li_99, li_100, li_101, li_102, li_103, li_104, li_105, li_106, li_107, li_108, li_109, li_110, li_111, li_112, li_113, li_114, li_115, li_116, li_117, li_118, li_119, li_120, li_121, li_122, li_123, li_124, li_125, li_126, li_127, li_128, li_129, li_130, li_131, li_226, li_240, li_255, li_300, li_586, li_594, li_900, li_999, li_1000, li_1800, li_2376, li_2388, li_2406, li_2602, li_2970, li_3067, li_3564, li_9999, li_10000, li_11287, li_65536, li_100000, li_1000000, nI_mul, tn0, tn1, vin0, vin1, Int32.add_zero, Int32.or_zero, Int32.mul_one, Int32.mul_zero, Int32.zero_add, Nat.reduceEqDiff, Nat.reduceMul, Nat.reduceSub, ht1, o1, on, up1_o, nI_1, nI_add, nI_clamp, nI_pin, nI_neg, nI_nonneg, nI_leE, nI_ltE, nI_eqE, Nat.not_le, Nat.not_lt, fq_10, fq_01, fq_rr, ix_aald, ix_aast, ix_abs, ix_alen, ix_aload, ix_aret, ix_astore, ix_bald, ix_bast, ix_call, ix_cpyI, ix_cpyJ, ix_dead, ix_dup2, ix_dup2L, ix_dupI, ix_dupR, ix_dupx1, ix_getI, ix_getJ, ix_getR, ix_gfm, ix_gtab, ix_i2b, ix_i2c, ix_i2l, ix_i2s, ix_iadd, ix_iald, ix_iand, ix_iast, ix_icall, ix_icmp_eq, ix_icmp_ge, ix_icmp_gt, ix_icmp_le, ix_icmp_lt, ix_icmp_ne, ix_idiv, ix_if_eq, ix_if_ge, ix_if_gt, ix_if_le, ix_if_lt, ix_if_ne, ix_iinc, ix_iload, ix_imul, ix_ineg, ix_ior, ix_irem, ix_iret, ix_ishl, ix_ishr, ix_istore, ix_isub, ix_iushr, ix_ixor, ix_l2i, ix_ladd, ix_lald, ix_land, ix_last, ix_lcmp, ix_ldcS, ix_ldiv, ix_lload, ix_lmul, ix_lor, ix_lrem, ix_lret, ix_lshl, ix_lstore, ix_lsub, ix_lsw, ix_max, ix_min, ix_new, ix_newa, ix_nret, ix_oinit, ix_pop2L, ix_popI, ix_pushI, ix_pushL, ix_putI, ix_putJ, ix_putR, ix_putZ, ix_sbald, ix_sgetC, ix_sgetV, ix_slen, ix_strc, ix_tald, ix_tsw, ix_vcall, ix_vret, ix_zret, stL, stL2, kilL, popN, fq_sw, fq_lsw, List.map_cons, List.map_nil, List.getElem?_cons_zero, List.getElem?_cons_succ, Option.toList_some, Option.toList_none, List.cons_append, List.nil_append, List.length_cons, List.length_nil, List.sum_cons, List.sum_nil, cat_i, cat_l, cat_r, true_and, and_true, Nat.zero_add, Nat.add_zero, Nat.le_refl, Nat.zero_le, Nat.reduceAdd, Nat.reduceLeDiff, exists_eq_left', Option.some.injEq, not_true_eq_false, not_false_eq_true, false_implies, true_implies, implies_true, and_self, or_true, true_or, or_false, false_or]
    refine ⟨fun h => ?_, fun h => ?_⟩
    · rw [if_neg (by omega)] at hQ
      refine hQ _ ⟨⟨fun a h1 h2 h3 => by rw [u2_ne h3, up1_o _ _ _ _ h2], fun k hk => by rw [u2_ca _ _ _ _ _ _ (by omega), up1_o _ _ _ _ (by omega)]⟩, by rw [u2_ne (by omega), up1_at], ?_, ?_, ?_, ?_, ?_, ?_⟩
      · rw [u2_ca _ _ _ _ _ _ (by omega), up1_o _ _ _ _ (by omega)]; exact hd
      · rw [u2_ck _ _ _ _ _ _ (by omega), up1_o _ _ _ _ (by omega)]
      · rw [u2_same]
      · rw [u2_ck _ _ _ _ _ _ (by omega), up1_o _ _ _ _ (by omega)]; exact (Int32.add_zero _).symm
      · rw [u2_ck _ _ _ _ _ _ (by omega), up1_o _ _ _ _ (by omega)]; exact (Int32.add_zero _).symm
      · rw [u2_ck _ _ _ _ _ _ (by omega), up1_o _ _ _ _ (by omega)]
    · rw [if_pos (by omega)] at hQ
      exact hQ I ⟨lvF.rf, rfl, hd, rfl, (Int32.add_zero _).symm, (Int32.add_zero _).symm, (Int32.add_zero _).symm, rfl⟩
  · exact h.elim
theorem lvQ_P {M : Nat} {I P I' : IH} {x : LR} (h : lvF M I P) (h2 : P (M + 13) = I (M + 13)) (g : lvQ M P x I') : lvQ M I x I' := by
  obtain ⟨g1, g2, g3, g4, g5, g6, g7, g8⟩ := g
  rw [h2] at g4 g5 g6 g7 g8
  exact ⟨h.tr g1, g2, g3, g4, g5, g6, g7, g8⟩
theorem dX12_saysAny_0 : decode cX12_saysAny 0 = .ok (.aload_n 0, 1) := by decide +kernel
theorem dX12_saysAny_1 : decode cX12_saysAny 1 = .ok (.getfield 7, 3) := by decide +kernel
theorem dX12_saysAny_4 : decode cX12_saysAny 4 = .ok (.iconst 1, 1) := by decide +kernel
theorem dX12_saysAny_5 : decode cX12_saysAny 5 = .ok (.iaload, 1) := by decide +kernel
theorem dX12_saysAny_6 : decode cX12_saysAny 6 = .ok (.ifCond .ne 5, 3) := by decide +kernel
theorem dX12_saysAny_9 : decode cX12_saysAny 9 = .ok (.iconst 0, 1) := by decide +kernel
theorem dX12_saysAny_10 : decode cX12_saysAny 10 = .ok (.ireturn, 1) := by decide +kernel
theorem dX12_saysAny_11 : decode cX12_saysAny 11 = .ok (.aload_n 0, 1) := by decide +kernel
theorem dX12_saysAny_12 : decode cX12_saysAny 12 = .ok (.getfield 7, 3) := by decide +kernel
theorem dX12_saysAny_15 : decode cX12_saysAny 15 = .ok (.bipush 7, 2) := by decide +kernel
theorem dX12_saysAny_17 : decode cX12_saysAny 17 = .ok (.aload_n 0, 1) := by decide +kernel
theorem dX12_saysAny_18 : decode cX12_saysAny 18 = .ok (.bipush 16, 2) := by decide +kernel
theorem dX12_saysAny_20 : decode cX12_saysAny 20 = .ok (.invokevirtual 431, 3) := by decide +kernel
theorem dX12_saysAny_23 : decode cX12_saysAny 23 = .ok (.aload_n 0, 1) := by decide +kernel
theorem dX12_saysAny_24 : decode cX12_saysAny 24 = .ok (.getfield 7, 3) := by decide +kernel
theorem dX12_saysAny_27 : decode cX12_saysAny 27 = .ok (.iconst 5, 1) := by decide +kernel
theorem dX12_saysAny_28 : decode cX12_saysAny 28 = .ok (.iaload, 1) := by decide +kernel
theorem dX12_saysAny_29 : decode cX12_saysAny 29 = .ok (.if_icmp .ge 7, 3) := by decide +kernel
theorem dX12_saysAny_32 : decode cX12_saysAny 32 = .ok (.iconst 1, 1) := by decide +kernel
theorem dX12_saysAny_33 : decode cX12_saysAny 33 = .ok (.goto 4, 3) := by decide +kernel
theorem dX12_saysAny_36 : decode cX12_saysAny 36 = .ok (.iconst 0, 1) := by decide +kernel
theorem dX12_saysAny_37 : decode cX12_saysAny 37 = .ok (.iastore, 1) := by decide +kernel
theorem dX12_saysAny_38 : decode cX12_saysAny 38 = .ok (.aload_n 0, 1) := by decide +kernel
theorem dX12_saysAny_39 : decode cX12_saysAny 39 = .ok (.aload_n 0, 1) := by decide +kernel
theorem dX12_saysAny_40 : decode cX12_saysAny 40 = .ok (.getfield 7, 3) := by decide +kernel
theorem dX12_saysAny_43 : decode cX12_saysAny 43 = .ok (.iconst 1, 1) := by decide +kernel
theorem dX12_saysAny_44 : decode cX12_saysAny 44 = .ok (.iaload, 1) := by decide +kernel
theorem dX12_saysAny_45 : decode cX12_saysAny 45 = .ok (.invokevirtual 431, 3) := by decide +kernel
theorem dX12_saysAny_48 : decode cX12_saysAny 48 = .ok (.istore_n 1, 1) := by decide +kernel
theorem dX12_saysAny_49 : decode cX12_saysAny 49 = .ok (.aload_n 0, 1) := by decide +kernel
theorem dX12_saysAny_50 : decode cX12_saysAny 50 = .ok (.iload_n 1, 1) := by decide +kernel
theorem dX12_saysAny_51 : decode cX12_saysAny 51 = .ok (.aload_n 0, 1) := by decide +kernel
theorem dX12_saysAny_52 : decode cX12_saysAny 52 = .ok (.aload_n 0, 1) := by decide +kernel
theorem dX12_saysAny_53 : decode cX12_saysAny 53 = .ok (.getfield 7, 3) := by decide +kernel
theorem dX12_saysAny_56 : decode cX12_saysAny 56 = .ok (.iconst 1, 1) := by decide +kernel
theorem dX12_saysAny_57 : decode cX12_saysAny 57 = .ok (.iaload, 1) := by decide +kernel
theorem dX12_saysAny_58 : decode cX12_saysAny 58 = .ok (.invokevirtual 431, 3) := by decide +kernel
theorem dX12_saysAny_61 : decode cX12_saysAny 61 = .ok (.invokevirtual 434, 3) := by decide +kernel
theorem dX12_saysAny_64 : decode cX12_saysAny 64 = .ok (.ireturn, 1) := by decide +kernel
abbrev M_X12_saysAny : MT := (yX12_saysAny, cX12_saysAny, 2, (some .boolean))
theorem cf_X12_saysAny : fq_cf M_X12_saysAny 0 := ⟨(mg_1 (List.mem_of_getElem? (i := 15) rfl) rfl), (mg_9 (List.mem_of_getElem? (i := 157) rfl) rfl), ⟨by decide, by decide, by decide +kernel⟩, by decide⟩
def B_X12_saysAny_37 (G : GT) (mc ms : Nat) (Q : Post) : Cn := ix_iast (ix_aload 0 (ix_aload 0 (ix_getR 12 0 (ix_pushI 1 (ix_iald (ix_vcall 12 2 0 0 mc ms (sp_X12_draw G) (ix_istore 1 (ix_aload 0 (ix_iload 1 (ix_aload 0 (ix_aload 0 (ix_getR 12 0 (ix_pushI 1 (ix_iald (ix_vcall 12 2 0 0 mc ms (sp_X12_draw G) (ix_vcall 12 3 0 0 mc ms (sp_X12_saysBy G) (ix_zret mc ms Q)))))))))))))))))
theorem b_X12_saysAny_37 {l : Launch} {G : GT} {D mc ms : Nat} {Q : Post} : Imp l G M_X12_saysAny (D + 6) mc ms Q (B_X12_saysAny_37 G mc ms Q) 37 := sx_iast dX12_saysAny_37 (sx_aload_n dX12_saysAny_38 rfl (sx_aload_n dX12_saysAny_39 rfl (sx_getR dX12_saysAny_40 fl_FootQuarrelModel_7 (fun _ _ _ => rfl) (sx_iconst dX12_saysAny_43 rfl (sx_iald dX12_saysAny_44 (sx_vcall dX12_saysAny_45 cf_X12_draw (mg_9 (List.mem_of_getElem? (i := 158) rfl) rfl) (mg_9 (List.mem_of_getElem? (i := 160) rfl) rfl) (mg_p (List.mem_of_getElem? (i := 125) rfl) rfl) rfl c_X12_draw (sx_istore_n dX12_saysAny_48 rfl (by decide) (sx_aload_n dX12_saysAny_49 rfl (sx_iload_n dX12_saysAny_50 rfl (sx_aload_n dX12_saysAny_51 rfl (sx_aload_n dX12_saysAny_52 rfl (sx_getR dX12_saysAny_53 fl_FootQuarrelModel_7 (fun _ _ _ => rfl) (sx_iconst dX12_saysAny_56 rfl (sx_iald dX12_saysAny_57 (sx_vcall dX12_saysAny_58 cf_X12_draw (mg_9 (List.mem_of_getElem? (i := 158) rfl) rfl) (mg_9 (List.mem_of_getElem? (i := 160) rfl) rfl) (mg_p (List.mem_of_getElem? (i := 125) rfl) rfl) rfl c_X12_draw (sx_vcall dX12_saysAny_61 cf_X12_saysBy (mg_9 (List.mem_of_getElem? (i := 142) rfl) rfl) (mg_9 (List.mem_of_getElem? (i := 144) rfl) rfl) (mg_p (List.mem_of_getElem? (i := 121) rfl) rfl) rfl c_X12_saysBy (sx_zret dX12_saysAny_64 rfl)))))))))))))))))
def B_X12_saysAny_0 (G : GT) (mc ms : Nat) (Q : Post) : Cn := ix_aload 0 (ix_getR 12 0 (ix_pushI 1 (ix_iald (ix_if_ne (ix_aload 0 (ix_getR 12 0 (ix_pushI 7 (ix_aload 0 (ix_pushI 16 (ix_vcall 12 2 0 0 mc ms (sp_X12_draw G) (ix_aload 0 (ix_getR 12 0 (ix_pushI 5 (ix_iald (ix_icmp_ge (ix_pushI 0 ((B_X12_saysAny_37 G mc ms Q))) (ix_pushI 1 ((B_X12_saysAny_37 G mc ms Q)))))))))))))) (ix_pushI 0 (ix_zret mc ms Q))))))
theorem b_X12_saysAny_0 {l : Launch} {G : GT} {D mc ms : Nat} {Q : Post} : Imp l G M_X12_saysAny (D + 6) mc ms Q (B_X12_saysAny_0 G mc ms Q) 0 := sx_aload_n dX12_saysAny_0 rfl (sx_getR dX12_saysAny_1 fl_FootQuarrelModel_7 (fun _ _ _ => rfl) (sx_iconst dX12_saysAny_4 rfl (sx_iald dX12_saysAny_5 (sx_if_ne 11 dX12_saysAny_6 (by decide) (sx_aload_n dX12_saysAny_11 rfl (sx_getR dX12_saysAny_12 fl_FootQuarrelModel_7 (fun _ _ _ => rfl) (sx_bipush dX12_saysAny_15 rfl (sx_aload_n dX12_saysAny_17 rfl (sx_bipush dX12_saysAny_18 rfl (sx_vcall dX12_saysAny_20 cf_X12_draw (mg_9 (List.mem_of_getElem? (i := 158) rfl) rfl) (mg_9 (List.mem_of_getElem? (i := 160) rfl) rfl) (mg_p (List.mem_of_getElem? (i := 125) rfl) rfl) rfl c_X12_draw (sx_aload_n dX12_saysAny_23 rfl (sx_getR dX12_saysAny_24 fl_FootQuarrelModel_7 (fun _ _ _ => rfl) (sx_iconst dX12_saysAny_27 rfl (sx_iald dX12_saysAny_28 (sx_icmp_ge 36 dX12_saysAny_29 (by decide) (sx_iconst dX12_saysAny_36 rfl (b_X12_saysAny_37)) (sx_iconst dX12_saysAny_32 rfl (sx_goto 37 dX12_saysAny_33 (by decide) (b_X12_saysAny_37)))))))))))))) (sx_iconst dX12_saysAny_9 rfl (sx_zret dX12_saysAny_10 rfl))))))
def sp_X12_saysAny (G : GT) : Sp := fun as S I J z Q => match as with
  | [.ref M] => rfS S M ∧ wfS (I (M + 1)) ∧ ∃ d, I M 29 = nI d ∧ d < 65536 ∧ ∀ I', lvQ M I (loY (I (M + 1)) d) I' → Q (some (.int (bI ((loY (I (M + 1)) d).1 = true)))) S I' J z
  | _ => False
set_option maxHeartbeats 4000000 in
set_option maxRecDepth 20000 in
theorem c_X12_saysAny {l : Launch} {G : GT} {D : Nat} : ∀ as S I J z Q, sp_X12_saysAny G as S I J z Q → fqCall l G M_X12_saysAny (D + 6) 0 0 as S I J z Q := by
  intro as S I J z Q h
  unfold sp_X12_saysAny at h
  split at h
  · next M =>
    obtain ⟨hm, hw, d, hd, hd9, hQ⟩ := h
    obtain ⟨c, hc, hc1, hc2⟩ := hw.2.1.ex
    unfold loY at hQ
    refine fq_enter [some (.ref M), none] (by decide +kernel) (Nat.le_of_ble_eq_true rfl) rfl (b_X12_saysAny_0 _ _ _ _ _ _ _ _ ?_)
    have e5 : ∀ x, u2 I M 29 x (M + 1) 5 = I (M + 1) 5 := fun x => u2_ca _ _ _ _ _ _ (by omega)
    have ec : (nI c = 0) = (c = 0) := propext ⟨fun q => nI_i (b := 0) (by omega) (by omega) q, fun q => by rw [q]; rfl⟩
    simp (disch := omega) only [B_X12_saysAny_0, B_X12_saysAny_37, sp_X12_draw, sp_X12_saysBy, hm, hm.k, hm.k1, hm.n1, hm.r1, hm.k2, hm.n2, hm.r2, hm.k3, hm.n3, hm.r3, hm.k4, hm.n4, hm.r4, hm.k5, hm.n5, hm.r5, hm.k6, hm.n6, hm.r6, hm.k7, hm.n7, hm.r7, hm.k8, hm.n8, hm.r8, hm.k9, hm.n9, hm.r9, hm.k10, hm.n10, hm.r10, hm.k11, hm.n11, hm.r11, hm.k12, hm.n12, hm.r12, hm.k13, hm.n13, hm.r13, hm.k14, hm.n14, hm.r14, li_2, li_3, li_4, li_5, li_6, li_7, li_8, li_9, li_10, li_11, li_12, li_13, li_14, li_15, li_16, li_17, li_18, li_19, li_20, li_21, li_22, li_23, li_24, li_25, li_26, li_27, li_28, li_29, li_30, li_32, li_33, li_34, li_35, li_36, li_37, li_38, li_39, li_40, li_41, li_42, li_43, li_44, li_45, li_46, li_47, li_48, li_49, li_50, li_51, li_52, li_53, li_54, li_55, li_56, li_57, li_58, li_59, li_60, li_61, li_62, li_63, li_64, li_65, li_66, li_67, li_68, li_69, li_70, li_71, li_72, li_73, li_74, li_75, li_76, li_77, li_78, li_79, li_80, li_81, li_82, li_83, li_84, li_85, li_86, li_87, li_88, li_89, li_90, li_91, li_92, li_93, li_94, li_95, li_96, li_97, li_98, li_99, li_100, li_101, li_102, li_103, li_104, li_105, li_106, li_107, li_108, li_109, li_110, li_111, li_112, li_113, li_114, li_115, li_116, li_117, li_118, li_119, li_120, li_121, li_122, li_123, li_124, li_125, li_126, li_127, li_128, li_129, li_130, li_131, li_226, li_240, li_255, li_300, li_586, li_594, li_900, li_999, li_1000, li_1800, li_2376, li_2388, li_2406, li_2602, li_2970, li_3067, li_3564, li_9999, li_10000, li_11287, li_65536, li_100000, li_1000000, nI_mul, tn0, tn1, vin0, vin1, Int32.add_zero, Int32.or_zero, Int32.mul_one, Int32.mul_zero, Int32.zero_add, Nat.reduceEqDiff, Nat.reduceMul, Nat.reduceSub, hc1, ec, e5, nI_1, nI_add, nI_clamp, nI_pin, nI_neg, nI_nonneg, nI_leE, nI_ltE, nI_eqE, Nat.not_le, Nat.not_lt, fq_10, fq_01, fq_rr, ix_aald, ix_aast, ix_abs, ix_alen, ix_aload, ix_aret, ix_astore, ix_bald, ix_bast, ix_call, ix_cpyI, ix_cpyJ, ix_dead, ix_dup2, ix_dup2L, ix_dupI, ix_dupR, ix_dupx1, ix_getI, ix_getJ, ix_getR, ix_gfm, ix_gtab, ix_i2b, ix_i2c, ix_i2l, ix_i2s, ix_iadd, ix_iald, ix_iand, ix_iast, ix_icall, ix_icmp_eq, ix_icmp_ge, ix_icmp_gt, ix_icmp_le, ix_icmp_lt, ix_icmp_ne, ix_idiv, ix_if_eq, ix_if_ge, ix_if_gt, ix_if_le, ix_if_lt, ix_if_ne, ix_iinc, ix_iload, ix_imul, ix_ineg, ix_ior, ix_irem, ix_iret, ix_ishl, ix_ishr, ix_istore, ix_isub, ix_iushr, ix_ixor, ix_l2i, ix_ladd, ix_lald, ix_land, ix_last, ix_lcmp, ix_ldcS, ix_ldiv, ix_lload, ix_lmul, ix_lor, ix_lrem, ix_lret, ix_lshl, ix_lstore, ix_lsub, ix_lsw, ix_max, ix_min, ix_new, ix_newa, ix_nret, ix_oinit, ix_pop2L, ix_popI, ix_pushI, ix_pushL, ix_putI, ix_putJ, ix_putR, ix_putZ, ix_sbald, ix_sgetC, ix_sgetV, ix_slen, ix_strc, ix_tald, ix_tsw, ix_vcall, ix_vret, ix_zret, stL, stL2, kilL, popN, fq_sw, fq_lsw, List.map_cons, List.map_nil, List.getElem?_cons_zero, List.getElem?_cons_succ, Option.toList_some, Option.toList_none, List.cons_append, List.nil_append, List.length_cons, List.length_nil, List.sum_cons, List.sum_nil, cat_i, cat_l, cat_r, true_and, and_true, Nat.zero_add, Nat.add_zero, Nat.le_refl, Nat.zero_le, Nat.reduceAdd, Nat.reduceLeDiff, exists_eq_left', Option.some.injEq, not_true_eq_false, not_false_eq_true, false_implies, true_implies, implies_true, and_self, or_true, true_or, or_false, false_or]
    refine ⟨fun h0 => ⟨d, 16, hd, hd9, rfl, by omega, by omega, ?_⟩, fun h0 => ?_⟩
    · rw [if_neg (fun q => h0 (by rw [hc1] at q; exact nI_i (b := 0) (by omega) (by omega) q)), hc2] at hQ
      refine ⟨fun h => ?_, fun h => ?_⟩
      · rw [bI_f (Int32.not_lt.mpr h)] at hQ
        have f1 : (u2 (u2 I M 29 (nI (fd d))) (M + 1) 7 0) M 29 = nI (fd d) := by rw [u2_ca _ _ _ _ _ _ (by omega), u2_same]
        have f2 : (u2 (u2 I M 29 (nI (fd d))) (M + 1) 7 0) (M + 1) 1 = nI c := by rw [u2_ck _ _ _ _ _ _ (by omega), u2_ca _ _ _ _ _ _ (by omega)]; exact hc1
        have f3 : (u2 (u2 (u2 I M 29 (nI (fd d))) (M + 1) 7 0) M 29 (nI (fd (fd d)))) M 29 = nI (fd (fd d)) := u2_eq
        have f4 : (u2 (u2 (u2 I M 29 (nI (fd d))) (M + 1) 7 0) M 29 (nI (fd (fd d)))) (M + 1) 1 = nI c := by rw [u2_ca _ _ _ _ _ _ (by omega)]; exact f2
        have f5 : (u2 (u2 (u2 (u2 I M 29 (nI (fd d))) (M + 1) 7 0) M 29 (nI (fd (fd d)))) M 29 (nI (fd (fd (fd d))))) (M + 1) = uA (I (M + 1)) 7 0 := by rw [u2_ne (by omega), u2_ne (by omega), u2_up0, up1_at, u2_ne (by omega)]
        have f6 : (u2 (u2 (u2 (u2 I M 29 (nI (fd d))) (M + 1) 7 0) M 29 (nI (fd (fd d)))) M 29 (nI (fd (fd (fd d))))) (M + 13) = I (M + 13) := by rw [u2_ne (by omega), u2_ne (by omega), u2_ne (by omega), u2_ne (by omega)]
        have f7 : lvF M I (u2 (u2 (u2 (u2 I M 29 (nI (fd d))) (M + 1) 7 0) M 29 (nI (fd (fd d)))) M 29 (nI (fd (fd (fd d))))) := ⟨fun a h1 h2 h3 => by rw [u2_ne h1, u2_ne h1, u2_ne h2, u2_ne h1], fun k hk => by rw [u2_ck _ _ _ _ _ _ hk, u2_ck _ _ _ _ _ _ hk, u2_ca _ _ _ _ _ _ (by omega), u2_ck _ _ _ _ _ _ hk]⟩
        have f8 : wfS ((u2 (u2 (u2 (u2 I M 29 (nI (fd d))) (M + 1) 7 0) M 29 (nI (fd (fd d)))) M 29 (nI (fd (fd (fd d))))) (M + 1)) := by rw [f5]; exact hw.u7 (Or.inl rfl)
        have f9 : (u2 (u2 (u2 (u2 I M 29 (nI (fd d))) (M + 1) 7 0) M 29 (nI (fd (fd d)))) M 29 (nI (fd (fd (fd d))))) (M + 1) 1 = nI c := by rw [f5, uA_n _ _ _ _ (by omega)]; exact hc1
        refine ⟨fd d, c, f1, fd_lt _, f2, by omega, by omega, fd (fd d), c, f3, fd_lt _, f4, by omega, by omega, f8, fd (fd d) / 8 % c, fd (fd (fd d)) / 8 % c, fd (fd (fd d)), rfl, rfl, ?_, ?_, u2_eq, fun I' hI' => ⟨by rw [bI_01]; trivial, ?_⟩⟩
        · rw [f9, nI_clamp (by omega)]
          exact Nat.mod_lt _ (by omega)
        · rw [f9, nI_clamp (by omega)]
          exact Nat.mod_lt _ (by omega)
        · rw [f5] at hI' ⊢
          exact hQ I' (lvQ_P f7 f6 hI')
      · rw [bI_t (Int32.not_le.mp h)] at hQ
        have f1 : (u2 (u2 I M 29 (nI (fd d))) (M + 1) 7 1) M 29 = nI (fd d) := by rw [u2_ca _ _ _ _ _ _ (by omega), u2_same]
        have f2 : (u2 (u2 I M 29 (nI (fd d))) (M + 1) 7 1) (M + 1) 1 = nI c := by rw [u2_ck _ _ _ _ _ _ (by omega), u2_ca _ _ _ _ _ _ (by omega)]; exact hc1
        have f3 : (u2 (u2 (u2 I M 29 (nI (fd d))) (M + 1) 7 1) M 29 (nI (fd (fd d)))) M 29 = nI (fd (fd d)) := u2_eq
        have f4 : (u2 (u2 (u2 I M 29 (nI (fd d))) (M + 1) 7 1) M 29 (nI (fd (fd d)))) (M + 1) 1 = nI c := by rw [u2_ca _ _ _ _ _ _ (by omega)]; exact f2
        have f5 : (u2 (u2 (u2 (u2 I M 29 (nI (fd d))) (M + 1) 7 1) M 29 (nI (fd (fd d)))) M 29 (nI (fd (fd (fd d))))) (M + 1) = uA (I (M + 1)) 7 1 := by rw [u2_ne (by omega), u2_ne (by omega), u2_up0, up1_at, u2_ne (by omega)]
        have f6 : (u2 (u2 (u2 (u2 I M 29 (nI (fd d))) (M + 1) 7 1) M 29 (nI (fd (fd d)))) M 29 (nI (fd (fd (fd d))))) (M + 13) = I (M + 13) := by rw [u2_ne (by omega), u2_ne (by omega), u2_ne (by omega), u2_ne (by omega)]
        have f7 : lvF M I (u2 (u2 (u2 (u2 I M 29 (nI (fd d))) (M + 1) 7 1) M 29 (nI (fd (fd d)))) M 29 (nI (fd (fd (fd d))))) := ⟨fun a h1 h2 h3 => by rw [u2_ne h1, u2_ne h1, u2_ne h2, u2_ne h1], fun k hk => by rw [u2_ck _ _ _ _ _ _ hk, u2_ck _ _ _ _ _ _ hk, u2_ca _ _ _ _ _ _ (by omega), u2_ck _ _ _ _ _ _ hk]⟩
        have f8 : wfS ((u2 (u2 (u2 (u2 I M 29 (nI (fd d))) (M + 1) 7 1) M 29 (nI (fd (fd d)))) M 29 (nI (fd (fd (fd d))))) (M + 1)) := by rw [f5]; exact hw.u7 (Or.inr rfl)
        have f9 : (u2 (u2 (u2 (u2 I M 29 (nI (fd d))) (M + 1) 7 1) M 29 (nI (fd (fd d)))) M 29 (nI (fd (fd (fd d))))) (M + 1) 1 = nI c := by rw [f5, uA_n _ _ _ _ (by omega)]; exact hc1
        refine ⟨fd d, c, f1, fd_lt _, f2, by omega, by omega, fd (fd d), c, f3, fd_lt _, f4, by omega, by omega, f8, fd (fd d) / 8 % c, fd (fd (fd d)) / 8 % c, fd (fd (fd d)), rfl, rfl, ?_, ?_, u2_eq, fun I' hI' => ⟨by rw [bI_01]; trivial, ?_⟩⟩
        · rw [f9, nI_clamp (by omega)]
          exact Nat.mod_lt _ (by omega)
        · rw [f9, nI_clamp (by omega)]
          exact Nat.mod_lt _ (by omega)
        · rw [f5] at hI' ⊢
          exact hQ I' (lvQ_P f7 f6 hI')
    · rw [if_pos (by rw [hc1, h0]; rfl)] at hQ
      exact hQ I ⟨lvF.rf, rfl, hd, rfl, (Int32.add_zero _).symm, (Int32.add_zero _).symm, (Int32.add_zero _).symm, rfl⟩
  · exact h.elim
theorem dX12_does_0 : decode cX12_does 0 = .ok (.aload_n 0, 1) := by decide +kernel
theorem dX12_does_1 : decode cX12_does 1 = .ok (.getfield 7, 3) := by decide +kernel
theorem dX12_does_4 : decode cX12_does 4 = .ok (.iload_n 1, 1) := by decide +kernel
theorem dX12_does_5 : decode cX12_does 5 = .ok (.iaload, 1) := by decide +kernel
theorem dX12_does_6 : decode cX12_does 6 = .ok (.tableswitch 94 12 17 #[38, 59, 64, 77, 83, 89], 38) := by decide +kernel
theorem dX12_does_44 : decode cX12_does 44 = .ok (.aload_n 0, 1) := by decide +kernel
theorem dX12_does_45 : decode cX12_does 45 = .ok (.aload_n 0, 1) := by decide +kernel
theorem dX12_does_46 : decode cX12_does 46 = .ok (.getfield 7, 3) := by decide +kernel
theorem dX12_does_49 : decode cX12_does 49 = .ok (.iload_n 1, 1) := by decide +kernel
theorem dX12_does_50 : decode cX12_does 50 = .ok (.iconst 1, 1) := by decide +kernel
theorem dX12_does_51 : decode cX12_does 51 = .ok (.iadd, 1) := by decide +kernel
theorem dX12_does_52 : decode cX12_does 52 = .ok (.iaload, 1) := by decide +kernel
theorem dX12_does_53 : decode cX12_does 53 = .ok (.aload_n 0, 1) := by decide +kernel
theorem dX12_does_54 : decode cX12_does 54 = .ok (.getfield 7, 3) := by decide +kernel
theorem dX12_does_57 : decode cX12_does 57 = .ok (.iload_n 1, 1) := by decide +kernel
theorem dX12_does_58 : decode cX12_does 58 = .ok (.iconst 2, 1) := by decide +kernel
theorem dX12_does_59 : decode cX12_does 59 = .ok (.iadd, 1) := by decide +kernel
theorem dX12_does_60 : decode cX12_does 60 = .ok (.iaload, 1) := by decide +kernel
theorem dX12_does_61 : decode cX12_does 61 = .ok (.invokevirtual 434, 3) := by decide +kernel
theorem dX12_does_64 : decode cX12_does 64 = .ok (.ireturn, 1) := by decide +kernel
theorem dX12_does_65 : decode cX12_does 65 = .ok (.aload_n 0, 1) := by decide +kernel
theorem dX12_does_66 : decode cX12_does 66 = .ok (.invokevirtual 437, 3) := by decide +kernel
theorem dX12_does_69 : decode cX12_does 69 = .ok (.ireturn, 1) := by decide +kernel
theorem dX12_does_70 : decode cX12_does 70 = .ok (.aload_n 0, 1) := by decide +kernel
theorem dX12_does_71 : decode cX12_does 71 = .ok (.aload_n 0, 1) := by decide +kernel
theorem dX12_does_72 : decode cX12_does 72 = .ok (.getfield 7, 3) := by decide +kernel
theorem dX12_does_75 : decode cX12_does 75 = .ok (.iload_n 1, 1) := by decide +kernel
theorem dX12_does_76 : decode cX12_does 76 = .ok (.iconst 1, 1) := by decide +kernel
theorem dX12_does_77 : decode cX12_does 77 = .ok (.iadd, 1) := by decide +kernel
theorem dX12_does_78 : decode cX12_does 78 = .ok (.iaload, 1) := by decide +kernel
theorem dX12_does_79 : decode cX12_does 79 = .ok (.invokevirtual 440, 3) := by decide +kernel
theorem dX12_does_82 : decode cX12_does 82 = .ok (.ireturn, 1) := by decide +kernel
theorem dX12_does_83 : decode cX12_does 83 = .ok (.aload_n 0, 1) := by decide +kernel
theorem dX12_does_84 : decode cX12_does 84 = .ok (.iconst 1, 1) := by decide +kernel
theorem dX12_does_85 : decode cX12_does 85 = .ok (.invokevirtual 336, 3) := by decide +kernel
theorem dX12_does_88 : decode cX12_does 88 = .ok (.ireturn, 1) := by decide +kernel
theorem dX12_does_89 : decode cX12_does 89 = .ok (.aload_n 0, 1) := by decide +kernel
theorem dX12_does_90 : decode cX12_does 90 = .ok (.iconst 0, 1) := by decide +kernel
theorem dX12_does_91 : decode cX12_does 91 = .ok (.invokevirtual 336, 3) := by decide +kernel
theorem dX12_does_94 : decode cX12_does 94 = .ok (.ireturn, 1) := by decide +kernel
theorem dX12_does_95 : decode cX12_does 95 = .ok (.aload_n 0, 1) := by decide +kernel
theorem dX12_does_96 : decode cX12_does 96 = .ok (.invokevirtual 443, 3) := by decide +kernel
theorem dX12_does_99 : decode cX12_does 99 = .ok (.ireturn, 1) := by decide +kernel
theorem dX12_does_100 : decode cX12_does 100 = .ok (.iconst 1, 1) := by decide +kernel
theorem dX12_does_101 : decode cX12_does 101 = .ok (.ireturn, 1) := by decide +kernel
abbrev M_X12_does : MT := (yX12_does, cX12_does, 2, (some .boolean))
theorem cf_X12_does : fq_cf M_X12_does 1 := ⟨(mg_1 (List.mem_of_getElem? (i := 15) rfl) rfl), (mg_9 (List.mem_of_getElem? (i := 141) rfl) rfl), ⟨by decide, by decide, by decide +kernel⟩, by decide⟩
def B_X12_does_0 (G : GT) (mc ms : Nat) (Q : Post) : Cn := ix_aload 0 (ix_getR 12 0 (ix_iload 1 (ix_iald (ix_tsw 12 [ix_aload 0 (ix_aload 0 (ix_getR 12 0 (ix_iload 1 (ix_pushI 1 (ix_iadd (ix_iald (ix_aload 0 (ix_getR 12 0 (ix_iload 1 (ix_pushI 2 (ix_iadd (ix_iald (ix_vcall 12 3 0 0 mc ms (sp_X12_saysBy G) (ix_zret mc ms Q)))))))))))))), ix_aload 0 (ix_vcall 12 1 0 0 mc ms (sp_X12_sorries G) (ix_zret mc ms Q)), ix_aload 0 (ix_aload 0 (ix_getR 12 0 (ix_iload 1 (ix_pushI 1 (ix_iadd (ix_iald (ix_vcall 12 2 0 0 mc ms (sp_X12_nightsBy G) (ix_zret mc ms Q)))))))), ix_aload 0 (ix_pushI 1 (ix_vcall 12 2 0 0 mc ms (sp_X12_isWeather G) (ix_zret mc ms Q))), ix_aload 0 (ix_pushI 0 (ix_vcall 12 2 0 0 mc ms (sp_X12_isWeather G) (ix_zret mc ms Q))), ix_aload 0 (ix_vcall 12 1 0 0 mc ms (sp_X12_saysAny G) (ix_zret mc ms Q))] (ix_pushI 1 (ix_zret mc ms Q))))))
theorem b_X12_does_0 {l : Launch} {G : GT} {D mc ms : Nat} {Q : Post} : Imp l G M_X12_does (D + 7) mc ms Q (B_X12_does_0 G mc ms Q) 0 := sx_aload_n dX12_does_0 rfl (sx_getR dX12_does_1 fl_FootQuarrelModel_7 (fun _ _ _ => rfl) (sx_iload_n dX12_does_4 rfl (sx_iald dX12_does_5 (sx_tswA [44, 65, 70, 83, 89, 95] 100 dX12_does_6 rfl (by decide) (by decide) (by decide) ⟨sx_aload_n dX12_does_44 rfl (sx_aload_n dX12_does_45 rfl (sx_getR dX12_does_46 fl_FootQuarrelModel_7 (fun _ _ _ => rfl) (sx_iload_n dX12_does_49 rfl (sx_iconst dX12_does_50 rfl (sx_iadd dX12_does_51 (sx_iald dX12_does_52 (sx_aload_n dX12_does_53 rfl (sx_getR dX12_does_54 fl_FootQuarrelModel_7 (fun _ _ _ => rfl) (sx_iload_n dX12_does_57 rfl (sx_iconst dX12_does_58 rfl (sx_iadd dX12_does_59 (sx_iald dX12_does_60 (sx_vcall dX12_does_61 cf_X12_saysBy (mg_9 (List.mem_of_getElem? (i := 142) rfl) rfl) (mg_9 (List.mem_of_getElem? (i := 144) rfl) rfl) (mg_p (List.mem_of_getElem? (i := 121) rfl) rfl) rfl c_X12_saysBy (sx_zret dX12_does_64 rfl)))))))))))))), ⟨sx_aload_n dX12_does_65 rfl (sx_vcall dX12_does_66 cf_X12_sorries (mg_9 (List.mem_of_getElem? (i := 146) rfl) rfl) (mg_9 (List.mem_of_getElem? (i := 148) rfl) rfl) (mg_p (List.mem_of_getElem? (i := 122) rfl) rfl) rfl c_X12_sorries (sx_zret dX12_does_69 rfl)), ⟨sx_aload_n dX12_does_70 rfl (sx_aload_n dX12_does_71 rfl (sx_getR dX12_does_72 fl_FootQuarrelModel_7 (fun _ _ _ => rfl) (sx_iload_n dX12_does_75 rfl (sx_iconst dX12_does_76 rfl (sx_iadd dX12_does_77 (sx_iald dX12_does_78 (sx_vcall dX12_does_79 cf_X12_nightsBy (mg_9 (List.mem_of_getElem? (i := 150) rfl) rfl) (mg_9 (List.mem_of_getElem? (i := 152) rfl) rfl) (mg_p (List.mem_of_getElem? (i := 123) rfl) rfl) rfl c_X12_nightsBy (sx_zret dX12_does_82 rfl)))))))), ⟨sx_aload_n dX12_does_83 rfl (sx_iconst dX12_does_84 rfl (sx_vcall dX12_does_85 cf_X12_isWeather (mg_8 (List.mem_of_getElem? (i := 146) rfl) rfl) (mg_8 (List.mem_of_getElem? (i := 148) rfl) rfl) (mg_p (List.mem_of_getElem? (i := 102) rfl) rfl) rfl c_X12_isWeather (sx_zret dX12_does_88 rfl))), ⟨sx_aload_n dX12_does_89 rfl (sx_iconst dX12_does_90 rfl (sx_vcall dX12_does_91 cf_X12_isWeather (mg_8 (List.mem_of_getElem? (i := 146) rfl) rfl) (mg_8 (List.mem_of_getElem? (i := 148) rfl) rfl) (mg_p (List.mem_of_getElem? (i := 102) rfl) rfl) rfl c_X12_isWeather (sx_zret dX12_does_94 rfl))), ⟨sx_aload_n dX12_does_95 rfl (sx_vcall dX12_does_96 cf_X12_saysAny (mg_9 (List.mem_of_getElem? (i := 154) rfl) rfl) (mg_9 (List.mem_of_getElem? (i := 156) rfl) rfl) (mg_p (List.mem_of_getElem? (i := 124) rfl) rfl) rfl c_X12_saysAny (sx_zret dX12_does_99 rfl)), trivial⟩⟩⟩⟩⟩⟩ (sx_iconst dX12_does_100 rfl (sx_zret dX12_does_101 rfl))))))
theorem dX12_holds_0 : decode cX12_holds 0 = .ok (.aload_n 0, 1) := by decide +kernel
theorem dX12_holds_1 : decode cX12_holds 1 = .ok (.getfield 7, 3) := by decide +kernel
theorem dX12_holds_4 : decode cX12_holds 4 = .ok (.iload_n 1, 1) := by decide +kernel
theorem dX12_holds_5 : decode cX12_holds 5 = .ok (.iaload, 1) := by decide +kernel
theorem dX12_holds_6 : decode cX12_holds 6 = .ok (.sipush 1800, 3) := by decide +kernel
theorem dX12_holds_9 : decode cX12_holds 9 = .ok (.isub, 1) := by decide +kernel
theorem dX12_holds_10 : decode cX12_holds 10 = .ok (.istore_n 2, 1) := by decide +kernel
theorem dX12_holds_11 : decode cX12_holds 11 = .ok (.iload_n 2, 1) := by decide +kernel
theorem dX12_holds_12 : decode cX12_holds 12 = .ok (.bipush 23, 2) := by decide +kernel
theorem dX12_holds_14 : decode cX12_holds 14 = .ok (.if_icmp .ne 20, 3) := by decide +kernel
theorem dX12_holds_17 : decode cX12_holds 17 = .ok (.aload_n 0, 1) := by decide +kernel
theorem dX12_holds_18 : decode cX12_holds 18 = .ok (.getfield 7, 3) := by decide +kernel
theorem dX12_holds_21 : decode cX12_holds 21 = .ok (.bipush 7, 2) := by decide +kernel
theorem dX12_holds_23 : decode cX12_holds 23 = .ok (.iaload, 1) := by decide +kernel
theorem dX12_holds_24 : decode cX12_holds 24 = .ok (.iconst 1, 1) := by decide +kernel
theorem dX12_holds_25 : decode cX12_holds 25 = .ok (.if_icmp .ne 7, 3) := by decide +kernel
theorem dX12_holds_28 : decode cX12_holds 28 = .ok (.iconst 1, 1) := by decide +kernel
theorem dX12_holds_29 : decode cX12_holds 29 = .ok (.goto 4, 3) := by decide +kernel
theorem dX12_holds_32 : decode cX12_holds 32 = .ok (.iconst 0, 1) := by decide +kernel
theorem dX12_holds_33 : decode cX12_holds 33 = .ok (.ireturn, 1) := by decide +kernel
theorem dX12_holds_34 : decode cX12_holds 34 = .ok (.iload_n 2, 1) := by decide +kernel
theorem dX12_holds_35 : decode cX12_holds 35 = .ok (.bipush 22, 2) := by decide +kernel
theorem dX12_holds_37 : decode cX12_holds 37 = .ok (.if_icmp .ne 19, 3) := by decide +kernel
theorem dX12_holds_40 : decode cX12_holds 40 = .ok (.aload_n 0, 1) := by decide +kernel
theorem dX12_holds_41 : decode cX12_holds 41 = .ok (.aload_n 0, 1) := by decide +kernel
theorem dX12_holds_42 : decode cX12_holds 42 = .ok (.getfield 7, 3) := by decide +kernel
theorem dX12_holds_45 : decode cX12_holds 45 = .ok (.iload_n 1, 1) := by decide +kernel
theorem dX12_holds_46 : decode cX12_holds 46 = .ok (.iconst 1, 1) := by decide +kernel
theorem dX12_holds_47 : decode cX12_holds 47 = .ok (.iadd, 1) := by decide +kernel
theorem dX12_holds_48 : decode cX12_holds 48 = .ok (.iaload, 1) := by decide +kernel
theorem dX12_holds_49 : decode cX12_holds 49 = .ok (.iconst 5, 1) := by decide +kernel
theorem dX12_holds_50 : decode cX12_holds 50 = .ok (.invokevirtual 253, 3) := by decide +kernel
theorem dX12_holds_53 : decode cX12_holds 53 = .ok (.goto 15, 3) := by decide +kernel
theorem dX12_holds_56 : decode cX12_holds 56 = .ok (.aload_n 0, 1) := by decide +kernel
theorem dX12_holds_57 : decode cX12_holds 57 = .ok (.aload_n 0, 1) := by decide +kernel
theorem dX12_holds_58 : decode cX12_holds 58 = .ok (.getfield 7, 3) := by decide +kernel
theorem dX12_holds_61 : decode cX12_holds 61 = .ok (.iload_n 1, 1) := by decide +kernel
theorem dX12_holds_62 : decode cX12_holds 62 = .ok (.iconst 1, 1) := by decide +kernel
theorem dX12_holds_63 : decode cX12_holds 63 = .ok (.iadd, 1) := by decide +kernel
theorem dX12_holds_64 : decode cX12_holds 64 = .ok (.iaload, 1) := by decide +kernel
theorem dX12_holds_65 : decode cX12_holds 65 = .ok (.invokevirtual 262, 3) := by decide +kernel
theorem dX12_holds_68 : decode cX12_holds 68 = .ok (.istore_n 3, 1) := by decide +kernel
theorem dX12_holds_69 : decode cX12_holds 69 = .ok (.aload_n 0, 1) := by decide +kernel
theorem dX12_holds_70 : decode cX12_holds 70 = .ok (.getfield 7, 3) := by decide +kernel
theorem dX12_holds_73 : decode cX12_holds 73 = .ok (.iload_n 1, 1) := by decide +kernel
theorem dX12_holds_74 : decode cX12_holds 74 = .ok (.iconst 5, 1) := by decide +kernel
theorem dX12_holds_75 : decode cX12_holds 75 = .ok (.iadd, 1) := by decide +kernel
theorem dX12_holds_76 : decode cX12_holds 76 = .ok (.iaload, 1) := by decide +kernel
theorem dX12_holds_77 : decode cX12_holds 77 = .ok (.bipush 60, 2) := by decide +kernel
theorem dX12_holds_79 : decode cX12_holds 79 = .ok (.if_icmp .ne 23, 3) := by decide +kernel
theorem dX12_holds_82 : decode cX12_holds 82 = .ok (.iload_n 3, 1) := by decide +kernel
theorem dX12_holds_83 : decode cX12_holds 83 = .ok (.aload_n 0, 1) := by decide +kernel
theorem dX12_holds_84 : decode cX12_holds 84 = .ok (.getfield 7, 3) := by decide +kernel
theorem dX12_holds_87 : decode cX12_holds 87 = .ok (.iload_n 1, 1) := by decide +kernel
theorem dX12_holds_88 : decode cX12_holds 88 = .ok (.iconst 2, 1) := by decide +kernel
theorem dX12_holds_89 : decode cX12_holds 89 = .ok (.iadd, 1) := by decide +kernel
theorem dX12_holds_90 : decode cX12_holds 90 = .ok (.iaload, 1) := by decide +kernel
theorem dX12_holds_91 : decode cX12_holds 91 = .ok (.if_icmp .ge 7, 3) := by decide +kernel
theorem dX12_holds_94 : decode cX12_holds 94 = .ok (.iconst 1, 1) := by decide +kernel
theorem dX12_holds_95 : decode cX12_holds 95 = .ok (.goto 57, 3) := by decide +kernel
theorem dX12_holds_98 : decode cX12_holds 98 = .ok (.iconst 0, 1) := by decide +kernel
theorem dX12_holds_99 : decode cX12_holds 99 = .ok (.goto 53, 3) := by decide +kernel
theorem dX12_holds_102 : decode cX12_holds 102 = .ok (.aload_n 0, 1) := by decide +kernel
theorem dX12_holds_103 : decode cX12_holds 103 = .ok (.getfield 7, 3) := by decide +kernel
theorem dX12_holds_106 : decode cX12_holds 106 = .ok (.iload_n 1, 1) := by decide +kernel
theorem dX12_holds_107 : decode cX12_holds 107 = .ok (.iconst 5, 1) := by decide +kernel
theorem dX12_holds_108 : decode cX12_holds 108 = .ok (.iadd, 1) := by decide +kernel
theorem dX12_holds_109 : decode cX12_holds 109 = .ok (.iaload, 1) := by decide +kernel
theorem dX12_holds_110 : decode cX12_holds 110 = .ok (.bipush 62, 2) := by decide +kernel
theorem dX12_holds_112 : decode cX12_holds 112 = .ok (.if_icmp .ne 23, 3) := by decide +kernel
theorem dX12_holds_115 : decode cX12_holds 115 = .ok (.iload_n 3, 1) := by decide +kernel
theorem dX12_holds_116 : decode cX12_holds 116 = .ok (.aload_n 0, 1) := by decide +kernel
theorem dX12_holds_117 : decode cX12_holds 117 = .ok (.getfield 7, 3) := by decide +kernel
theorem dX12_holds_120 : decode cX12_holds 120 = .ok (.iload_n 1, 1) := by decide +kernel
theorem dX12_holds_121 : decode cX12_holds 121 = .ok (.iconst 2, 1) := by decide +kernel
theorem dX12_holds_122 : decode cX12_holds 122 = .ok (.iadd, 1) := by decide +kernel
theorem dX12_holds_123 : decode cX12_holds 123 = .ok (.iaload, 1) := by decide +kernel
theorem dX12_holds_124 : decode cX12_holds 124 = .ok (.if_icmp .le 7, 3) := by decide +kernel
theorem dX12_holds_127 : decode cX12_holds 127 = .ok (.iconst 1, 1) := by decide +kernel
theorem dX12_holds_128 : decode cX12_holds 128 = .ok (.goto 24, 3) := by decide +kernel
theorem dX12_holds_131 : decode cX12_holds 131 = .ok (.iconst 0, 1) := by decide +kernel
theorem dX12_holds_132 : decode cX12_holds 132 = .ok (.goto 20, 3) := by decide +kernel
theorem dX12_holds_135 : decode cX12_holds 135 = .ok (.iload_n 3, 1) := by decide +kernel
theorem dX12_holds_136 : decode cX12_holds 136 = .ok (.aload_n 0, 1) := by decide +kernel
theorem dX12_holds_137 : decode cX12_holds 137 = .ok (.getfield 7, 3) := by decide +kernel
theorem dX12_holds_140 : decode cX12_holds 140 = .ok (.iload_n 1, 1) := by decide +kernel
theorem dX12_holds_141 : decode cX12_holds 141 = .ok (.iconst 2, 1) := by decide +kernel
theorem dX12_holds_142 : decode cX12_holds 142 = .ok (.iadd, 1) := by decide +kernel
theorem dX12_holds_143 : decode cX12_holds 143 = .ok (.iaload, 1) := by decide +kernel
theorem dX12_holds_144 : decode cX12_holds 144 = .ok (.if_icmp .ne 7, 3) := by decide +kernel
theorem dX12_holds_147 : decode cX12_holds 147 = .ok (.iconst 1, 1) := by decide +kernel
theorem dX12_holds_148 : decode cX12_holds 148 = .ok (.goto 4, 3) := by decide +kernel
theorem dX12_holds_151 : decode cX12_holds 151 = .ok (.iconst 0, 1) := by decide +kernel
theorem dX12_holds_152 : decode cX12_holds 152 = .ok (.ireturn, 1) := by decide +kernel
abbrev M_X12_holds : MT := (yX12_holds, cX12_holds, 4, (some .boolean))
theorem cf_X12_holds : fq_cf M_X12_holds 1 := ⟨(mg_1 (List.mem_of_getElem? (i := 15) rfl) rfl), (mg_9 (List.mem_of_getElem? (i := 166) rfl) rfl), ⟨by decide, by decide, by decide +kernel⟩, by decide⟩
def B_X12_holds_152 (G : GT) (mc ms : Nat) (Q : Post) : Cn := ix_zret mc ms Q
theorem b_X12_holds_152 {l : Launch} {G : GT} {D mc ms : Nat} {Q : Post} : Imp l G M_X12_holds (D + 2) mc ms Q (B_X12_holds_152 G mc ms Q) 152 := sx_zret dX12_holds_152 rfl
def B_X12_holds_68 (G : GT) (mc ms : Nat) (Q : Post) : Cn := ix_istore 3 (ix_aload 0 (ix_getR 12 0 (ix_iload 1 (ix_pushI 5 (ix_iadd (ix_iald (ix_pushI 60 (ix_icmp_ne (ix_aload 0 (ix_getR 12 0 (ix_iload 1 (ix_pushI 5 (ix_iadd (ix_iald (ix_pushI 62 (ix_icmp_ne (ix_iload 3 (ix_aload 0 (ix_getR 12 0 (ix_iload 1 (ix_pushI 2 (ix_iadd (ix_iald (ix_icmp_ne (ix_pushI 0 ((B_X12_holds_152 G mc ms Q))) (ix_pushI 1 ((B_X12_holds_152 G mc ms Q))))))))))) (ix_iload 3 (ix_aload 0 (ix_getR 12 0 (ix_iload 1 (ix_pushI 2 (ix_iadd (ix_iald (ix_icmp_le (ix_pushI 0 ((B_X12_holds_152 G mc ms Q))) (ix_pushI 1 ((B_X12_holds_152 G mc ms Q))))))))))))))))))) (ix_iload 3 (ix_aload 0 (ix_getR 12 0 (ix_iload 1 (ix_pushI 2 (ix_iadd (ix_iald (ix_icmp_ge (ix_pushI 0 ((B_X12_holds_152 G mc ms Q))) (ix_pushI 1 ((B_X12_holds_152 G mc ms Q)))))))))))))))))))
theorem b_X12_holds_68 {l : Launch} {G : GT} {D mc ms : Nat} {Q : Post} : Imp l G M_X12_holds (D + 2) mc ms Q (B_X12_holds_68 G mc ms Q) 68 := sx_istore_n dX12_holds_68 rfl (by decide) (sx_aload_n dX12_holds_69 rfl (sx_getR dX12_holds_70 fl_FootQuarrelModel_7 (fun _ _ _ => rfl) (sx_iload_n dX12_holds_73 rfl (sx_iconst dX12_holds_74 rfl (sx_iadd dX12_holds_75 (sx_iald dX12_holds_76 (sx_bipush dX12_holds_77 rfl (sx_icmp_ne 102 dX12_holds_79 (by decide) (sx_aload_n dX12_holds_102 rfl (sx_getR dX12_holds_103 fl_FootQuarrelModel_7 (fun _ _ _ => rfl) (sx_iload_n dX12_holds_106 rfl (sx_iconst dX12_holds_107 rfl (sx_iadd dX12_holds_108 (sx_iald dX12_holds_109 (sx_bipush dX12_holds_110 rfl (sx_icmp_ne 135 dX12_holds_112 (by decide) (sx_iload_n dX12_holds_135 rfl (sx_aload_n dX12_holds_136 rfl (sx_getR dX12_holds_137 fl_FootQuarrelModel_7 (fun _ _ _ => rfl) (sx_iload_n dX12_holds_140 rfl (sx_iconst dX12_holds_141 rfl (sx_iadd dX12_holds_142 (sx_iald dX12_holds_143 (sx_icmp_ne 151 dX12_holds_144 (by decide) (sx_iconst dX12_holds_151 rfl (b_X12_holds_152)) (sx_iconst dX12_holds_147 rfl (sx_goto 152 dX12_holds_148 (by decide) (b_X12_holds_152))))))))))) (sx_iload_n dX12_holds_115 rfl (sx_aload_n dX12_holds_116 rfl (sx_getR dX12_holds_117 fl_FootQuarrelModel_7 (fun _ _ _ => rfl) (sx_iload_n dX12_holds_120 rfl (sx_iconst dX12_holds_121 rfl (sx_iadd dX12_holds_122 (sx_iald dX12_holds_123 (sx_icmp_le 131 dX12_holds_124 (by decide) (sx_iconst dX12_holds_131 rfl (sx_goto 152 dX12_holds_132 (by decide) (b_X12_holds_152))) (sx_iconst dX12_holds_127 rfl (sx_goto 152 dX12_holds_128 (by decide) (b_X12_holds_152))))))))))))))))))) (sx_iload_n dX12_holds_82 rfl (sx_aload_n dX12_holds_83 rfl (sx_getR dX12_holds_84 fl_FootQuarrelModel_7 (fun _ _ _ => rfl) (sx_iload_n dX12_holds_87 rfl (sx_iconst dX12_holds_88 rfl (sx_iadd dX12_holds_89 (sx_iald dX12_holds_90 (sx_icmp_ge 98 dX12_holds_91 (by decide) (sx_iconst dX12_holds_98 rfl (sx_goto 152 dX12_holds_99 (by decide) (b_X12_holds_152))) (sx_iconst dX12_holds_94 rfl (sx_goto 152 dX12_holds_95 (by decide) (b_X12_holds_152)))))))))))))))))))
def B_X12_holds_33 (G : GT) (mc ms : Nat) (Q : Post) : Cn := ix_zret mc ms Q
theorem b_X12_holds_33 {l : Launch} {G : GT} {D mc ms : Nat} {Q : Post} : Imp l G M_X12_holds (D + 2) mc ms Q (B_X12_holds_33 G mc ms Q) 33 := sx_zret dX12_holds_33 rfl
def B_X12_holds_0 (G : GT) (mc ms : Nat) (Q : Post) : Cn := ix_aload 0 (ix_getR 12 0 (ix_iload 1 (ix_iald (ix_pushI 1800 (ix_isub (ix_istore 2 (ix_iload 2 (ix_pushI 23 (ix_icmp_ne (ix_iload 2 (ix_pushI 22 (ix_icmp_ne (ix_aload 0 (ix_aload 0 (ix_getR 12 0 (ix_iload 1 (ix_pushI 1 (ix_iadd (ix_iald (ix_vcall 12 2 0 0 mc ms (sp_X12_wideOf G) ((B_X12_holds_68 G mc ms Q)))))))))) (ix_aload 0 (ix_aload 0 (ix_getR 12 0 (ix_iload 1 (ix_pushI 1 (ix_iadd (ix_iald (ix_pushI 5 (ix_vcall 12 3 0 0 mc ms (sp_X12_personOf G) ((B_X12_holds_68 G mc ms Q)))))))))))))) (ix_aload 0 (ix_getR 12 0 (ix_pushI 7 (ix_iald (ix_pushI 1 (ix_icmp_ne (ix_pushI 0 ((B_X12_holds_33 G mc ms Q))) (ix_pushI 1 ((B_X12_holds_33 G mc ms Q))))))))))))))))))
theorem b_X12_holds_0 {l : Launch} {G : GT} {D mc ms : Nat} {Q : Post} : Imp l G M_X12_holds (D + 2) mc ms Q (B_X12_holds_0 G mc ms Q) 0 := sx_aload_n dX12_holds_0 rfl (sx_getR dX12_holds_1 fl_FootQuarrelModel_7 (fun _ _ _ => rfl) (sx_iload_n dX12_holds_4 rfl (sx_iald dX12_holds_5 (sx_sipush dX12_holds_6 rfl (sx_isub dX12_holds_9 (sx_istore_n dX12_holds_10 rfl (by decide) (sx_iload_n dX12_holds_11 rfl (sx_bipush dX12_holds_12 rfl (sx_icmp_ne 34 dX12_holds_14 (by decide) (sx_iload_n dX12_holds_34 rfl (sx_bipush dX12_holds_35 rfl (sx_icmp_ne 56 dX12_holds_37 (by decide) (sx_aload_n dX12_holds_56 rfl (sx_aload_n dX12_holds_57 rfl (sx_getR dX12_holds_58 fl_FootQuarrelModel_7 (fun _ _ _ => rfl) (sx_iload_n dX12_holds_61 rfl (sx_iconst dX12_holds_62 rfl (sx_iadd dX12_holds_63 (sx_iald dX12_holds_64 (sx_vcall dX12_holds_65 cf_X12_wideOf (mg_8 (List.mem_of_getElem? (i := 7) rfl) rfl) (mg_8 (List.mem_of_getElem? (i := 9) rfl) rfl) (mg_p (List.mem_of_getElem? (i := 80) rfl) rfl) rfl c_X12_wideOf (b_X12_holds_68))))))))) (sx_aload_n dX12_holds_40 rfl (sx_aload_n dX12_holds_41 rfl (sx_getR dX12_holds_42 fl_FootQuarrelModel_7 (fun _ _ _ => rfl) (sx_iload_n dX12_holds_45 rfl (sx_iconst dX12_holds_46 rfl (sx_iadd dX12_holds_47 (sx_iald dX12_holds_48 (sx_iconst dX12_holds_49 rfl (sx_vcall dX12_holds_50 cf_X12_personOf (mg_8 (List.mem_of_getElem? (i := 0) rfl) rfl) (mg_8 (List.mem_of_getElem? (i := 2) rfl) rfl) (mg_p (List.mem_of_getElem? (i := 79) rfl) rfl) rfl c_X12_personOf (sx_goto 68 dX12_holds_53 (by decide) (b_X12_holds_68)))))))))))))) (sx_aload_n dX12_holds_17 rfl (sx_getR dX12_holds_18 fl_FootQuarrelModel_7 (fun _ _ _ => rfl) (sx_bipush dX12_holds_21 rfl (sx_iald dX12_holds_23 (sx_iconst dX12_holds_24 rfl (sx_icmp_ne 32 dX12_holds_25 (by decide) (sx_iconst dX12_holds_32 rfl (b_X12_holds_33)) (sx_iconst dX12_holds_28 rfl (sx_goto 33 dX12_holds_29 (by decide) (b_X12_holds_33))))))))))))))))))
/-- a step done -/
def doF (A : Nat → Int32) (d r : Nat) : LR := if A r = 12 then loS A d (A (r + 1)).toNatClampNeg (A (r + 2)).toNatClampNeg else if A r = 13 then loH A d else if A r = 14 then loN A d (A (r + 1)).toNatClampNeg else if A r = 15 then loW A d 1 else if A r = 16 then loW A d 0 else if A r = 17 then loY A d else (true, A, d, 0, 0, 0)
/-- a row of the years that may be done -/
def wfO (A : Nat → Int32) (r : Nat) : Prop := (A r = 12 → okN (A (r + 1)) 7 ∧ (A (r + 1)).toNatClampNeg < (A 1).toNatClampNeg ∧ okN (A (r + 2)) 7 ∧ (A (r + 2)).toNatClampNeg < (A 1).toNatClampNeg) ∧ (A r = 14 → okN (A (r + 1)) 20)
def sp_X12_does (G : GT) : Sp := fun as S I J z Q => match as with
  | [.ref M, .int a] => rfS S M ∧ wfS (I (M + 1)) ∧ ∃ r d, a = nI r ∧ r + 6 ≤ 594 ∧ wfO (I (M + 1)) r ∧ I M 29 = nI d ∧ d < 65536 ∧ ∀ I', lvQ M I (doF (I (M + 1)) d r) I' → Q (some (.int (bI ((doF (I (M + 1)) d r).1 = true)))) S I' J z
  | _ => False
theorem tI {x : Int32} {k : Int} {y : Int32} (h : y.toInt = k) : (x.toInt = k) = (x = y) := propext ⟨fun q => Int32.toInt_inj.mp (q.trans h.symm), fun q => by rw [q]; exact h⟩
set_option maxHeartbeats 4000000 in
set_option maxRecDepth 20000 in
theorem c_X12_does {l : Launch} {G : GT} {D : Nat} : ∀ as S I J z Q, sp_X12_does G as S I J z Q → fqCall l G M_X12_does (D + 7) 0 0 as S I J z Q := by
  intro as S I J z Q h
  unfold sp_X12_does at h
  split at h
  · next M a =>
    obtain ⟨hm, hw, r, d, rfl, hr, ⟨o12, o14⟩, hd, hd9, hQ⟩ := h
    unfold doF at hQ
    refine fq_enter [some (.ref M), some (.int (nI r))] (by decide +kernel) (Nat.le_of_ble_eq_true rfl) rfl (b_X12_does_0 _ _ _ _ _ _ _ _ ?_)
    simp (disch := omega) only [B_X12_does_0, sp_X12_saysBy, sp_X12_sorries, sp_X12_nightsBy, sp_X12_isWeather, sp_X12_saysAny, hm, hm.k, hm.k1, hm.n1, hm.r1, hm.k2, hm.n2, hm.r2, hm.k3, hm.n3, hm.r3, hm.k4, hm.n4, hm.r4, hm.k5, hm.n5, hm.r5, hm.k6, hm.n6, hm.r6, hm.k7, hm.n7, hm.r7, hm.k8, hm.n8, hm.r8, hm.k9, hm.n9, hm.r9, hm.k10, hm.n10, hm.r10, hm.k11, hm.n11, hm.r11, hm.k12, hm.n12, hm.r12, hm.k13, hm.n13, hm.r13, hm.k14, hm.n14, hm.r14, li_2, li_3, li_4, li_5, li_6, li_7, li_8, li_9, li_10, li_11, li_12, li_13, li_14, li_15, li_16, li_17, li_18, li_19, li_20, li_21, li_22, li_23, li_24, li_25, li_26, li_27, li_28, li_29, li_30, li_32, li_33, li_34, li_35, li_36, li_37, li_38, li_39, li_40, li_41, li_42, li_43, li_44, li_45, li_46, li_47, li_48, li_49, li_50, li_51, li_52, li_53, li_54, li_55, li_56, li_57, li_58, li_59, li_60, li_61, li_62, li_63, li_64, li_65, li_66, li_67, li_68, li_69, li_70, li_71, li_72, li_73, li_74, li_75, li_76, li_77, li_78, li_79, li_80, li_81, li_82, li_83, li_84, li_85, li_86, li_87, li_88, li_89, li_90, li_91, li_92, li_93, li_94, li_95, li_96, li_97, li_98, li_99, li_100, li_101, li_102, li_103, li_104, li_105, li_106, li_107, li_108, li_109, li_110, li_111, li_112, li_113, li_114, li_115, li_116, li_117, li_118, li_119, li_120, li_121, li_122, li_123, li_124, li_125, li_126, li_127, li_128, li_129, li_130, li_131, li_226, li_240, li_255, li_300, li_586, li_594, li_900, li_999, li_1000, li_1800, li_2376, li_2388, li_2406, li_2602, li_2970, li_3067, li_3564, li_9999, li_10000, li_11287, li_65536, li_100000, li_1000000, nI_mul, tn0, tn1, vin0, vin1, Int32.add_zero, Int32.or_zero, Int32.mul_one, Int32.mul_zero, Int32.zero_add, Nat.reduceEqDiff, Nat.reduceMul, Nat.reduceSub, hw, nI_1, nI_add, nI_clamp, nI_pin, nI_neg, nI_nonneg, nI_leE, nI_ltE, nI_eqE, Nat.not_le, Nat.not_lt, fq_10, fq_01, fq_rr, ix_aald, ix_aast, ix_abs, ix_alen, ix_aload, ix_aret, ix_astore, ix_bald, ix_bast, ix_call, ix_cpyI, ix_cpyJ, ix_dead, ix_dup2, ix_dup2L, ix_dupI, ix_dupR, ix_dupx1, ix_getI, ix_getJ, ix_getR, ix_gfm, ix_gtab, ix_i2b, ix_i2c, ix_i2l, ix_i2s, ix_iadd, ix_iald, ix_iand, ix_iast, ix_icall, ix_icmp_eq, ix_icmp_ge, ix_icmp_gt, ix_icmp_le, ix_icmp_lt, ix_icmp_ne, ix_idiv, ix_if_eq, ix_if_ge, ix_if_gt, ix_if_le, ix_if_lt, ix_if_ne, ix_iinc, ix_iload, ix_imul, ix_ineg, ix_ior, ix_irem, ix_iret, ix_ishl, ix_ishr, ix_istore, ix_isub, ix_iushr, ix_ixor, ix_l2i, ix_ladd, ix_lald, ix_land, ix_last, ix_lcmp, ix_ldcS, ix_ldiv, ix_lload, ix_lmul, ix_lor, ix_lrem, ix_lret, ix_lshl, ix_lstore, ix_lsub, ix_lsw, ix_max, ix_min, ix_new, ix_newa, ix_nret, ix_oinit, ix_pop2L, ix_popI, ix_pushI, ix_pushL, ix_putI, ix_putJ, ix_putR, ix_putZ, ix_sbald, ix_sgetC, ix_sgetV, ix_slen, ix_strc, ix_tald, ix_tsw, ix_vcall, ix_vret, ix_zret, stL, stL2, kilL, popN, fq_sw, fq_lsw, List.map_cons, List.map_nil, List.getElem?_cons_zero, List.getElem?_cons_succ, Option.toList_some, Option.toList_none, List.cons_append, List.nil_append, List.length_cons, List.length_nil, List.sum_cons, List.sum_nil, cat_i, cat_l, cat_r, true_and, and_true, Nat.zero_add, Nat.add_zero, Nat.le_refl, Nat.zero_le, Nat.reduceAdd, Nat.reduceLeDiff, exists_eq_left', Option.some.injEq, not_true_eq_false, not_false_eq_true, false_implies, true_implies, implies_true, and_self, or_true, true_or, or_false, false_or]
    have t : ∀ y : Int32, (I (M + 1) r).toInt = y.toInt → I (M + 1) r = y := fun y h => Int32.toInt_inj.mp h
    have n : ∀ y : Int32, ¬ (I (M + 1) r).toInt = y.toInt → ¬ I (M + 1) r = y := fun y h q => h (by rw [q])
    have wq : ∀ v : Int32, lvQ M I (loW (I (M + 1)) d v) (up1 I (M + 1) (uA (I (M + 1)) 7 v)) := fun v => ⟨⟨fun a h1 h2 h3 => up1_o _ _ _ _ h2, fun k hk => by rw [up1_o _ _ _ _ (by omega)]⟩, up1_at _ _ _, by rw [up1_o _ _ _ _ (by omega)]; exact hd, by rw [up1_o _ _ _ _ (by omega)], by rw [up1_o _ _ _ _ (by omega)]; exact (Int32.add_zero _).symm, by rw [up1_o _ _ _ _ (by omega)]; exact (Int32.add_zero _).symm, by rw [up1_o _ _ _ _ (by omega)]; exact (Int32.add_zero _).symm, by rw [up1_o _ _ _ _ (by omega)]⟩
    have wb : ∀ v : Int32, bI ((loW (I (M + 1)) d v).1 = true) = bI (¬ I (M + 1) 7 = v) := fun v => bI_c (by unfold loW; simp)
    refine ⟨fun h => ?_, fun h12 => ⟨fun h => ?_, fun h13 => ⟨fun h => ?_, fun h14 => ⟨fun h => ?_, fun h15 => ⟨fun h => ?_, fun h16 => ⟨fun h => ?_, fun h17 => ?_⟩⟩⟩⟩⟩⟩
    · have h := t 12 h
      rw [if_pos h] at hQ
      obtain ⟨k1, k2, k3, k4⟩ := o12 h
      exact ⟨_, _, d, k1.1, k3.1, k2, k4, hd, fun I' hI' => ⟨by rw [bI_01]; trivial, hQ I' hI'⟩⟩
    · have h12 := n 12 h12
      have h := t 13 h
      rw [if_neg h12, if_pos h] at hQ
      exact ⟨d, hd, fun I' hI' => ⟨by rw [bI_01]; trivial, hQ I' hI'⟩⟩
    · have h12 := n 12 h12
      have h13 := n 13 h13
      have h := t 14 h
      rw [if_neg h12, if_neg h13, if_pos h] at hQ
      have k1 := o14 h
      exact ⟨_, d, k1.1, k1.2, hd, fun I' hI' => ⟨by rw [bI_01]; trivial, hQ I' hI'⟩⟩
    · have h12 := n 12 h12
      have h13 := n 13 h13
      have h14 := n 14 h14
      have h := t 15 h
      rw [if_neg h12, if_neg h13, if_neg h14, if_pos h] at hQ
      refine ⟨by rw [bI_01]; trivial, ?_⟩
      have hz := hQ _ (wq 1)
      rw [wb] at hz
      exact hz
    · have h12 := n 12 h12
      have h13 := n 13 h13
      have h14 := n 14 h14
      have h15 := n 15 h15
      have h := t 16 h
      rw [if_neg h12, if_neg h13, if_neg h14, if_neg h15, if_pos h] at hQ
      refine ⟨by rw [bI_01]; trivial, ?_⟩
      have hz := hQ _ (wq 0)
      rw [wb] at hz
      exact hz
    · have h12 := n 12 h12
      have h13 := n 13 h13
      have h14 := n 14 h14
      have h15 := n 15 h15
      have h16 := n 16 h16
      have h := t 17 h
      rw [if_neg h12, if_neg h13, if_neg h14, if_neg h15, if_neg h16, if_pos h] at hQ
      exact ⟨d, hd, hd9, fun I' hI' => ⟨by rw [bI_01]; trivial, hQ I' hI'⟩⟩
    · have h12 := n 12 h12
      have h13 := n 13 h13
      have h14 := n 14 h14
      have h15 := n 15 h15
      have h16 := n 16 h16
      have h17 := n 17 h17
      rw [if_neg h12, if_neg h13, if_neg h14, if_neg h15, if_neg h16, if_neg h17] at hQ
      exact hQ I ⟨lvF.rf, rfl, hd, rfl, (Int32.add_zero _).symm, (Int32.add_zero _).symm, (Int32.add_zero _).symm, rfl⟩
  · exact h.elim
/-- does a test hold -/
def hdV (A : Nat → Int32) (r : Nat) : Int32 := if A r = 1822 then A (30 + 7 * (A (r + 1)).toNatClampNeg + 5) else A (12 + 3 * (A (r + 1)).toNatClampNeg)
abbrev hdF (A : Nat → Int32) (r : Nat) : Prop := if A r = 1823 then A 7 = 1 else if A (r + 5) = 60 then hdV A r < A (r + 2) else if A (r + 5) = 62 then A (r + 2) < hdV A r else hdV A r = A (r + 2)
def wfT (A : Nat → Int32) (r : Nat) : Prop := A r = 1823 ∨ (A r = 1822 ∧ okN (A (r + 1)) 7) ∨ (A r = 1806 ∧ okN (A (r + 1)) 5)
def sp_X12_holds (G : GT) : Sp := fun as S I J z Q => match as with
  | [.ref M, .int a] => rfS S M ∧ ∃ r, a = nI r ∧ r + 6 ≤ 594 ∧ wfT (I (M + 1)) r ∧ (hdF (I (M + 1)) r → Q (some (.int 1)) S I J z) ∧ (¬ hdF (I (M + 1)) r → Q (some (.int 0)) S I J z)
  | _ => False
theorem nI_s (a b : Nat) (h : b ≤ a) : nI a - nI b = nI (a - b) := pk_sub h
set_option maxHeartbeats 4000000 in
set_option maxRecDepth 20000 in
theorem c_X12_holds {l : Launch} {G : GT} {D : Nat} : ∀ as S I J z Q, sp_X12_holds G as S I J z Q → fqCall l G M_X12_holds (D + 2) 0 0 as S I J z Q := by
  intro as S I J z Q h
  unfold sp_X12_holds at h
  split at h
  · next M a =>
    obtain ⟨hm, r, rfl, hr, hT, hQ1, hQ2⟩ := h
    unfold hdF at hQ1 hQ2
    rcases hT with h | ⟨h, k⟩ | ⟨h, k⟩
    · rw [if_pos h] at hQ1 hQ2
      have h9 : I (M + 1) r = nI 1823 := h
      refine fq_enter [some (.ref M), some (.int (nI r)), none, none] (by decide +kernel) (Nat.le_of_ble_eq_true rfl) rfl (b_X12_holds_0 _ _ _ _ _ _ _ _ ?_)
      simp (disch := omega) only [B_X12_holds_0, B_X12_holds_33, B_X12_holds_68, B_X12_holds_152, sp_X12_personOf, B_X12_personOf_0, sp_X12_personRow, B_X12_personRow_0, sp_X12_wideOf, B_X12_wideOf_0, sp_X12_houseRow, B_X12_houseRow_0, hm, hm.k, hm.k1, hm.n1, hm.r1, hm.k2, hm.n2, hm.r2, hm.k3, hm.n3, hm.r3, hm.k4, hm.n4, hm.r4, hm.k5, hm.n5, hm.r5, hm.k6, hm.n6, hm.r6, hm.k7, hm.n7, hm.r7, hm.k8, hm.n8, hm.r8, hm.k9, hm.n9, hm.r9, hm.k10, hm.n10, hm.r10, hm.k11, hm.n11, hm.r11, hm.k12, hm.n12, hm.r12, hm.k13, hm.n13, hm.r13, hm.k14, hm.n14, hm.r14, li_2, li_3, li_4, li_5, li_6, li_7, li_8, li_9, li_10, li_11, li_12, li_13, li_14, li_15, li_16, li_17, li_18, li_19, li_20, li_21, li_22, li_23, li_24, li_25, li_26, li_27, li_28, li_29, li_30, li_32, li_33, li_34, li_35, li_36, li_37, li_38, li_39, li_40, li_41, li_42, li_43, li_44, li_45, li_46, li_47, li_48, li_49, li_50, li_51, li_52, li_53, li_54, li_55, li_56, li_57, li_58, li_59, li_60, li_61, li_62, li_63, li_64, li_65, li_66, li_67, li_68, li_69, li_70, li_71, li_72, li_73, li_74, li_75, li_76, li_77, li_78, li_79, li_80, li_81, li_82, li_83, li_84, li_85, li_86, li_87, li_88, li_89, li_90, li_91, li_92, li_93, li_94, li_95, li_96, li_97, li_98, li_99, li_100, li_101, li_102, li_103, li_104, li_105, li_106, li_107, li_108, li_109, li_110, li_111, li_112, li_113, li_114, li_115, li_116, li_117, li_118, li_119, li_120, li_121, li_122, li_123, li_124, li_125, li_126, li_127, li_128, li_129, li_130, li_131, li_226, li_240, li_255, li_300, li_586, li_594, li_900, li_999, li_1000, li_1800, li_2376, li_2388, li_2406, li_2602, li_2970, li_3067, li_3564, li_9999, li_10000, li_11287, li_65536, li_100000, li_1000000, nI_mul, tn0, tn1, vin0, vin1, Int32.add_zero, Int32.or_zero, Int32.mul_one, Int32.mul_zero, Int32.zero_add, Nat.reduceEqDiff, Nat.reduceMul, Nat.reduceSub, h9, nI_s, nI_1, nI_add, nI_clamp, nI_pin, nI_neg, nI_nonneg, nI_leE, nI_ltE, nI_eqE, Nat.not_le, Nat.not_lt, fq_10, fq_01, fq_rr, ix_aald, ix_aast, ix_abs, ix_alen, ix_aload, ix_aret, ix_astore, ix_bald, ix_bast, ix_call, ix_cpyI, ix_cpyJ, ix_dead, ix_dup2, ix_dup2L, ix_dupI, ix_dupR, ix_dupx1, ix_getI, ix_getJ, ix_getR, ix_gfm, ix_gtab, ix_i2b, ix_i2c, ix_i2l, ix_i2s, ix_iadd, ix_iald, ix_iand, ix_iast, ix_icall, ix_icmp_eq, ix_icmp_ge, ix_icmp_gt, ix_icmp_le, ix_icmp_lt, ix_icmp_ne, ix_idiv, ix_if_eq, ix_if_ge, ix_if_gt, ix_if_le, ix_if_lt, ix_if_ne, ix_iinc, ix_iload, ix_imul, ix_ineg, ix_ior, ix_irem, ix_iret, ix_ishl, ix_ishr, ix_istore, ix_isub, ix_iushr, ix_ixor, ix_l2i, ix_ladd, ix_lald, ix_land, ix_last, ix_lcmp, ix_ldcS, ix_ldiv, ix_lload, ix_lmul, ix_lor, ix_lrem, ix_lret, ix_lshl, ix_lstore, ix_lsub, ix_lsw, ix_max, ix_min, ix_new, ix_newa, ix_nret, ix_oinit, ix_pop2L, ix_popI, ix_pushI, ix_pushL, ix_putI, ix_putJ, ix_putR, ix_putZ, ix_sbald, ix_sgetC, ix_sgetV, ix_slen, ix_strc, ix_tald, ix_tsw, ix_vcall, ix_vret, ix_zret, stL, stL2, kilL, popN, fq_sw, fq_lsw, List.map_cons, List.map_nil, List.getElem?_cons_zero, List.getElem?_cons_succ, Option.toList_some, Option.toList_none, List.cons_append, List.nil_append, List.length_cons, List.length_nil, List.sum_cons, List.sum_nil, cat_i, cat_l, cat_r, true_and, and_true, Nat.zero_add, Nat.add_zero, Nat.le_refl, Nat.zero_le, Nat.reduceAdd, Nat.reduceLeDiff, exists_eq_left', Option.some.injEq, not_true_eq_false, not_false_eq_true, false_implies, true_implies, implies_true, and_self, or_true, true_or, or_false, false_or]
      exact ⟨hQ2, hQ1⟩
    · obtain ⟨v, hv, ev, ev2⟩ := k.ex
      have h9 : I (M + 1) r = nI 1822 := h
      have n9 : ¬ I (M + 1) r = 1823 := by rw [h]; decide
      unfold hdV at hQ1 hQ2
      rw [if_neg n9, if_pos h, ev2] at hQ1 hQ2
      refine fq_enter [some (.ref M), some (.int (nI r)), none, none] (by decide +kernel) (Nat.le_of_ble_eq_true rfl) rfl (b_X12_holds_0 _ _ _ _ _ _ _ _ ?_)
      simp (disch := omega) only [B_X12_holds_0, B_X12_holds_33, B_X12_holds_68, B_X12_holds_152, sp_X12_personOf, B_X12_personOf_0, sp_X12_personRow, B_X12_personRow_0, sp_X12_wideOf, B_X12_wideOf_0, sp_X12_houseRow, B_X12_houseRow_0, hm, hm.k, hm.k1, hm.n1, hm.r1, hm.k2, hm.n2, hm.r2, hm.k3, hm.n3, hm.r3, hm.k4, hm.n4, hm.r4, hm.k5, hm.n5, hm.r5, hm.k6, hm.n6, hm.r6, hm.k7, hm.n7, hm.r7, hm.k8, hm.n8, hm.r8, hm.k9, hm.n9, hm.r9, hm.k10, hm.n10, hm.r10, hm.k11, hm.n11, hm.r11, hm.k12, hm.n12, hm.r12, hm.k13, hm.n13, hm.r13, hm.k14, hm.n14, hm.r14, li_2, li_3, li_4, li_5, li_6, li_7, li_8, li_9, li_10, li_11, li_12, li_13, li_14, li_15, li_16, li_17, li_18, li_19, li_20, li_21, li_22, li_23, li_24, li_25, li_26, li_27, li_28, li_29, li_30, li_32, li_33, li_34, li_35, li_36, li_37, li_38, li_39, li_40, li_41, li_42, li_43, li_44, li_45, li_46, li_47, li_48, li_49, li_50, li_51, li_52, li_53, li_54, li_55, li_56, li_57, li_58, li_59, li_60, li_61, li_62, li_63, li_64, li_65, li_66, li_67, li_68, li_69, li_70, li_71, li_72, li_73, li_74, li_75, li_76, li_77, li_78, li_79, li_80, li_81, li_82, li_83, li_84, li_85, li_86, li_87, li_88, li_89, li_90, li_91, li_92, li_93, li_94, li_95, li_96, li_97, li_98, li_99, li_100, li_101, li_102, li_103, li_104, li_105, li_106, li_107, li_108, li_109, li_110, li_111, li_112, li_113, li_114, li_115, li_116, li_117, li_118, li_119, li_120, li_121, li_122, li_123, li_124, li_125, li_126, li_127, li_128, li_129, li_130, li_131, li_226, li_240, li_255, li_300, li_586, li_594, li_900, li_999, li_1000, li_1800, li_2376, li_2388, li_2406, li_2602, li_2970, li_3067, li_3564, li_9999, li_10000, li_11287, li_65536, li_100000, li_1000000, nI_mul, tn0, tn1, vin0, vin1, Int32.add_zero, Int32.or_zero, Int32.mul_one, Int32.mul_zero, Int32.zero_add, Nat.reduceEqDiff, Nat.reduceMul, Nat.reduceSub, h9, nI_s, ev, nI_1, nI_add, nI_clamp, nI_pin, nI_neg, nI_nonneg, nI_leE, nI_ltE, nI_eqE, Nat.not_le, Nat.not_lt, fq_10, fq_01, fq_rr, ix_aald, ix_aast, ix_abs, ix_alen, ix_aload, ix_aret, ix_astore, ix_bald, ix_bast, ix_call, ix_cpyI, ix_cpyJ, ix_dead, ix_dup2, ix_dup2L, ix_dupI, ix_dupR, ix_dupx1, ix_getI, ix_getJ, ix_getR, ix_gfm, ix_gtab, ix_i2b, ix_i2c, ix_i2l, ix_i2s, ix_iadd, ix_iald, ix_iand, ix_iast, ix_icall, ix_icmp_eq, ix_icmp_ge, ix_icmp_gt, ix_icmp_le, ix_icmp_lt, ix_icmp_ne, ix_idiv, ix_if_eq, ix_if_ge, ix_if_gt, ix_if_le, ix_if_lt, ix_if_ne, ix_iinc, ix_iload, ix_imul, ix_ineg, ix_ior, ix_irem, ix_iret, ix_ishl, ix_ishr, ix_istore, ix_isub, ix_iushr, ix_ixor, ix_l2i, ix_ladd, ix_lald, ix_land, ix_last, ix_lcmp, ix_ldcS, ix_ldiv, ix_lload, ix_lmul, ix_lor, ix_lrem, ix_lret, ix_lshl, ix_lstore, ix_lsub, ix_lsw, ix_max, ix_min, ix_new, ix_newa, ix_nret, ix_oinit, ix_pop2L, ix_popI, ix_pushI, ix_pushL, ix_putI, ix_putJ, ix_putR, ix_putZ, ix_sbald, ix_sgetC, ix_sgetV, ix_slen, ix_strc, ix_tald, ix_tsw, ix_vcall, ix_vret, ix_zret, stL, stL2, kilL, popN, fq_sw, fq_lsw, List.map_cons, List.map_nil, List.getElem?_cons_zero, List.getElem?_cons_succ, Option.toList_some, Option.toList_none, List.cons_append, List.nil_append, List.length_cons, List.length_nil, List.sum_cons, List.sum_nil, cat_i, cat_l, cat_r, true_and, and_true, Nat.zero_add, Nat.add_zero, Nat.le_refl, Nat.zero_le, Nat.reduceAdd, Nat.reduceLeDiff, exists_eq_left', Option.some.injEq, not_true_eq_false, not_false_eq_true, false_implies, true_implies, implies_true, and_self, or_true, true_or, or_false, false_or]
      simp only [li_60, li_62] at hQ1 hQ2
      grind
    · obtain ⟨v, hv, ev, ev2⟩ := k.ex
      have h9 : I (M + 1) r = nI 1806 := h
      have n9 : ¬ I (M + 1) r = 1823 := by rw [h]; decide
      have n8 : ¬ I (M + 1) r = 1822 := by rw [h]; decide
      unfold hdV at hQ1 hQ2
      rw [if_neg n9, if_neg n8, ev2] at hQ1 hQ2
      refine fq_enter [some (.ref M), some (.int (nI r)), none, none] (by decide +kernel) (Nat.le_of_ble_eq_true rfl) rfl (b_X12_holds_0 _ _ _ _ _ _ _ _ ?_)
      simp (disch := omega) only [B_X12_holds_0, B_X12_holds_33, B_X12_holds_68, B_X12_holds_152, sp_X12_personOf, B_X12_personOf_0, sp_X12_personRow, B_X12_personRow_0, sp_X12_wideOf, B_X12_wideOf_0, sp_X12_houseRow, B_X12_houseRow_0, hm, hm.k, hm.k1, hm.n1, hm.r1, hm.k2, hm.n2, hm.r2, hm.k3, hm.n3, hm.r3, hm.k4, hm.n4, hm.r4, hm.k5, hm.n5, hm.r5, hm.k6, hm.n6, hm.r6, hm.k7, hm.n7, hm.r7, hm.k8, hm.n8, hm.r8, hm.k9, hm.n9, hm.r9, hm.k10, hm.n10, hm.r10, hm.k11, hm.n11, hm.r11, hm.k12, hm.n12, hm.r12, hm.k13, hm.n13, hm.r13, hm.k14, hm.n14, hm.r14, li_2, li_3, li_4, li_5, li_6, li_7, li_8, li_9, li_10, li_11, li_12, li_13, li_14, li_15, li_16, li_17, li_18, li_19, li_20, li_21, li_22, li_23, li_24, li_25, li_26, li_27, li_28, li_29, li_30, li_32, li_33, li_34, li_35, li_36, li_37, li_38, li_39, li_40, li_41, li_42, li_43, li_44, li_45, li_46, li_47, li_48, li_49, li_50, li_51, li_52, li_53, li_54, li_55, li_56, li_57, li_58, li_59, li_60, li_61, li_62, li_63, li_64, li_65, li_66, li_67, li_68, li_69, li_70, li_71, li_72, li_73, li_74, li_75, li_76, li_77, li_78, li_79, li_80, li_81, li_82, li_83, li_84, li_85, li_86, li_87, li_88, li_89, li_90, li_91, li_92, li_93, li_94, li_95, li_96, li_97, li_98, li_99, li_100, li_101, li_102, li_103, li_104, li_105, li_106, li_107, li_108, li_109, li_110, li_111, li_112, li_113, li_114, li_115, li_116, li_117, li_118, li_119, li_120, li_121, li_122, li_123, li_124, li_125, li_126, li_127, li_128, li_129, li_130, li_131, li_226, li_240, li_255, li_300, li_586, li_594, li_900, li_999, li_1000, li_1800, li_2376, li_2388, li_2406, li_2602, li_2970, li_3067, li_3564, li_9999, li_10000, li_11287, li_65536, li_100000, li_1000000, nI_mul, tn0, tn1, vin0, vin1, Int32.add_zero, Int32.or_zero, Int32.mul_one, Int32.mul_zero, Int32.zero_add, Nat.reduceEqDiff, Nat.reduceMul, Nat.reduceSub, h9, nI_s, ev, nI_1, nI_add, nI_clamp, nI_pin, nI_neg, nI_nonneg, nI_leE, nI_ltE, nI_eqE, Nat.not_le, Nat.not_lt, fq_10, fq_01, fq_rr, ix_aald, ix_aast, ix_abs, ix_alen, ix_aload, ix_aret, ix_astore, ix_bald, ix_bast, ix_call, ix_cpyI, ix_cpyJ, ix_dead, ix_dup2, ix_dup2L, ix_dupI, ix_dupR, ix_dupx1, ix_getI, ix_getJ, ix_getR, ix_gfm, ix_gtab, ix_i2b, ix_i2c, ix_i2l, ix_i2s, ix_iadd, ix_iald, ix_iand, ix_iast, ix_icall, ix_icmp_eq, ix_icmp_ge, ix_icmp_gt, ix_icmp_le, ix_icmp_lt, ix_icmp_ne, ix_idiv, ix_if_eq, ix_if_ge, ix_if_gt, ix_if_le, ix_if_lt, ix_if_ne, ix_iinc, ix_iload, ix_imul, ix_ineg, ix_ior, ix_irem, ix_iret, ix_ishl, ix_ishr, ix_istore, ix_isub, ix_iushr, ix_ixor, ix_l2i, ix_ladd, ix_lald, ix_land, ix_last, ix_lcmp, ix_ldcS, ix_ldiv, ix_lload, ix_lmul, ix_lor, ix_lrem, ix_lret, ix_lshl, ix_lstore, ix_lsub, ix_lsw, ix_max, ix_min, ix_new, ix_newa, ix_nret, ix_oinit, ix_pop2L, ix_popI, ix_pushI, ix_pushL, ix_putI, ix_putJ, ix_putR, ix_putZ, ix_sbald, ix_sgetC, ix_sgetV, ix_slen, ix_strc, ix_tald, ix_tsw, ix_vcall, ix_vret, ix_zret, stL, stL2, kilL, popN, fq_sw, fq_lsw, List.map_cons, List.map_nil, List.getElem?_cons_zero, List.getElem?_cons_succ, Option.toList_some, Option.toList_none, List.cons_append, List.nil_append, List.length_cons, List.length_nil, List.sum_cons, List.sum_nil, cat_i, cat_l, cat_r, true_and, and_true, Nat.zero_add, Nat.add_zero, Nat.le_refl, Nat.zero_le, Nat.reduceAdd, Nat.reduceLeDiff, exists_eq_left', Option.some.injEq, not_true_eq_false, not_false_eq_true, false_implies, true_implies, implies_true, and_self, or_true, true_or, or_false, false_or]
      simp only [li_60, li_62] at hQ1 hQ2
      grind
  · exact h.elim
