/-! the reference: lives -/
def fd (d : Nat) : Nat := (d * 3067 + 11287) % 65536
theorem fd_lt (d : Nat) : fd d < 65536 := Nat.mod_lt _ (by decide)
theorem fd_I {d : Nat} (hd : d < 65536) : nI (d * 3067 + 11287) - nI (d * 3067 + 11287) / nI 65536 * nI 65536 = nI (fd d) := pk_rem (by omega) (by decide) (by decide)
theorem fd_8 (d : Nat) : nI (fd d) / nI 8 = nI (fd d / 8) := pk_div (by have := fd_lt d; omega) (by decide) (by decide)
theorem fdq_c {d c : Nat} (h0 : 0 < c) (hc : c < 100) : nI (fd d / 8) - nI (fd d / 8) / nI c * nI c = nI (fd d / 8 % c) := pk_rem (by have := fd_lt d; omega) h0 (by omega)
theorem dX12_draw_0 : decode cX12_draw 0 = .ok (.aload_n 0, 1) := by decide +kernel
theorem dX12_draw_1 : decode cX12_draw 1 = .ok (.aload_n 0, 1) := by decide +kernel
theorem dX12_draw_2 : decode cX12_draw 2 = .ok (.getfield 427, 3) := by decide +kernel
theorem dX12_draw_5 : decode cX12_draw 5 = .ok (.sipush 3067, 3) := by decide +kernel
theorem dX12_draw_8 : decode cX12_draw 8 = .ok (.imul, 1) := by decide +kernel
theorem dX12_draw_9 : decode cX12_draw 9 = .ok (.sipush 11287, 3) := by decide +kernel
theorem dX12_draw_12 : decode cX12_draw 12 = .ok (.iadd, 1) := by decide +kernel
theorem dX12_draw_13 : decode cX12_draw 13 = .ok (.ldc_w 430, 3) := by decide +kernel
theorem dX12_draw_16 : decode cX12_draw 16 = .ok (.irem, 1) := by decide +kernel
theorem dX12_draw_17 : decode cX12_draw 17 = .ok (.putfield 427, 3) := by decide +kernel
theorem dX12_draw_20 : decode cX12_draw 20 = .ok (.aload_n 0, 1) := by decide +kernel
theorem dX12_draw_21 : decode cX12_draw 21 = .ok (.getfield 427, 3) := by decide +kernel
theorem dX12_draw_24 : decode cX12_draw 24 = .ok (.bipush 8, 2) := by decide +kernel
theorem dX12_draw_26 : decode cX12_draw 26 = .ok (.idiv, 1) := by decide +kernel
theorem dX12_draw_27 : decode cX12_draw 27 = .ok (.iload_n 1, 1) := by decide +kernel
theorem dX12_draw_28 : decode cX12_draw 28 = .ok (.irem, 1) := by decide +kernel
theorem dX12_draw_29 : decode cX12_draw 29 = .ok (.ireturn, 1) := by decide +kernel
abbrev M_X12_draw : MT := (yX12_draw, cX12_draw, 2, (some .int))
theorem cf_X12_draw : fq_cf M_X12_draw 1 := ⟨(mg_1 (List.mem_of_getElem? (i := 15) rfl) rfl), (mg_9 (List.mem_of_getElem? (i := 161) rfl) rfl), ⟨by decide, by decide, by decide +kernel⟩, by decide⟩
def B_X12_draw_0 (G : GT) (mc ms : Nat) (Q : Post) : Cn := ix_aload 0 (ix_aload 0 (ix_getI 12 29 (ix_pushI 3067 (ix_imul (ix_pushI 11287 (ix_iadd (ix_pushI 65536 (ix_irem (ix_putI 12 29 (ix_aload 0 (ix_getI 12 29 (ix_pushI 8 (ix_idiv (ix_iload 1 (ix_irem (ix_iret mc ms Q))))))))))))))))
theorem b_X12_draw_0 {l : Launch} {G : GT} {D mc ms : Nat} {Q : Post} : Imp l G M_X12_draw (D + 0) mc ms Q (B_X12_draw_0 G mc ms Q) 0 := sx_aload_n dX12_draw_0 rfl (sx_aload_n dX12_draw_1 rfl (sx_getI dX12_draw_2 fl_FootQuarrelModel_427 (fun _ _ _ => rfl) (sx_sipush dX12_draw_5 rfl (sx_imul dX12_draw_8 (sx_sipush dX12_draw_9 rfl (sx_iadd dX12_draw_12 (sx_ldcw dX12_draw_13 (mg_9 (List.mem_of_getElem? (i := 162) rfl) rfl) (sx_irem dX12_draw_16 (sx_putI dX12_draw_17 fl_FootQuarrelModel_427 (by decide) (fun _ _ _ => rfl) (fun _ => ⟨rfl, rfl⟩) (sx_aload_n dX12_draw_20 rfl (sx_getI dX12_draw_21 fl_FootQuarrelModel_427 (fun _ _ _ => rfl) (sx_bipush dX12_draw_24 rfl (sx_idiv dX12_draw_26 (sx_iload_n dX12_draw_27 rfl (sx_irem dX12_draw_28 (sx_iret dX12_draw_29 rfl))))))))))))))))
theorem dX12_saysBy_0 : decode cX12_saysBy 0 = .ok (.aload_n 0, 1) := by decide +kernel
theorem dX12_saysBy_1 : decode cX12_saysBy 1 = .ok (.iload_n 1, 1) := by decide +kernel
theorem dX12_saysBy_2 : decode cX12_saysBy 2 = .ok (.iload_n 2, 1) := by decide +kernel
theorem dX12_saysBy_3 : decode cX12_saysBy 3 = .ok (.invokevirtual 289, 3) := by decide +kernel
theorem dX12_saysBy_6 : decode cX12_saysBy 6 = .ok (.ifCond .ne 5, 3) := by decide +kernel
theorem dX12_saysBy_9 : decode cX12_saysBy 9 = .ok (.iconst 0, 1) := by decide +kernel
theorem dX12_saysBy_10 : decode cX12_saysBy 10 = .ok (.ireturn, 1) := by decide +kernel
theorem dX12_saysBy_11 : decode cX12_saysBy 11 = .ok (.aload_n 0, 1) := by decide +kernel
theorem dX12_saysBy_12 : decode cX12_saysBy 12 = .ok (.getfield 59, 3) := by decide +kernel
theorem dX12_saysBy_15 : decode cX12_saysBy 15 = .ok (.iconst 3, 1) := by decide +kernel
theorem dX12_saysBy_16 : decode cX12_saysBy 16 = .ok (.dup2, 1) := by decide +kernel
theorem dX12_saysBy_17 : decode cX12_saysBy 17 = .ok (.iaload, 1) := by decide +kernel
theorem dX12_saysBy_18 : decode cX12_saysBy 18 = .ok (.aload_n 0, 1) := by decide +kernel
theorem dX12_saysBy_19 : decode cX12_saysBy 19 = .ok (.iload_n 1, 1) := by decide +kernel
theorem dX12_saysBy_20 : decode cX12_saysBy 20 = .ok (.iload_n 2, 1) := by decide +kernel
theorem dX12_saysBy_21 : decode cX12_saysBy 21 = .ok (.invokevirtual 315, 3) := by decide +kernel
theorem dX12_saysBy_24 : decode cX12_saysBy 24 = .ok (.iadd, 1) := by decide +kernel
theorem dX12_saysBy_25 : decode cX12_saysBy 25 = .ok (.iastore, 1) := by decide +kernel
theorem dX12_saysBy_26 : decode cX12_saysBy 26 = .ok (.aload_n 0, 1) := by decide +kernel
theorem dX12_saysBy_27 : decode cX12_saysBy 27 = .ok (.getfield 59, 3) := by decide +kernel
theorem dX12_saysBy_30 : decode cX12_saysBy 30 = .ok (.iconst 2, 1) := by decide +kernel
theorem dX12_saysBy_31 : decode cX12_saysBy 31 = .ok (.dup2, 1) := by decide +kernel
theorem dX12_saysBy_32 : decode cX12_saysBy 32 = .ok (.iaload, 1) := by decide +kernel
theorem dX12_saysBy_33 : decode cX12_saysBy 33 = .ok (.iconst 1, 1) := by decide +kernel
theorem dX12_saysBy_34 : decode cX12_saysBy 34 = .ok (.iadd, 1) := by decide +kernel
theorem dX12_saysBy_35 : decode cX12_saysBy 35 = .ok (.iastore, 1) := by decide +kernel
theorem dX12_saysBy_36 : decode cX12_saysBy 36 = .ok (.iconst 1, 1) := by decide +kernel
theorem dX12_saysBy_37 : decode cX12_saysBy 37 = .ok (.ireturn, 1) := by decide +kernel
abbrev M_X12_saysBy : MT := (yX12_saysBy, cX12_saysBy, 3, (some .boolean))
theorem cf_X12_saysBy : fq_cf M_X12_saysBy 2 := ⟨(mg_1 (List.mem_of_getElem? (i := 15) rfl) rfl), (mg_9 (List.mem_of_getElem? (i := 145) rfl) rfl), ⟨by decide, by decide, by decide +kernel⟩, by decide⟩
def B_X12_saysBy_0 (G : GT) (mc ms : Nat) (Q : Post) : Cn := ix_aload 0 (ix_iload 1 (ix_iload 2 (ix_vcall 12 3 0 0 mc ms (sp_X12_areNear G) (ix_if_ne (ix_aload 0 (ix_getR 12 32 (ix_pushI 3 (ix_dup2 (ix_iald (ix_aload 0 (ix_iload 1 (ix_iload 2 (ix_vcall 12 3 0 0 mc ms (sp_X12_says G) (ix_iadd (ix_iast (ix_aload 0 (ix_getR 12 32 (ix_pushI 2 (ix_dup2 (ix_iald (ix_pushI 1 (ix_iadd (ix_iast (ix_pushI 1 (ix_zret mc ms Q))))))))))))))))))))) (ix_pushI 0 (ix_zret mc ms Q))))))
theorem b_X12_saysBy_0 {l : Launch} {G : GT} {D mc ms : Nat} {Q : Post} : Imp l G M_X12_saysBy (D + 5) mc ms Q (B_X12_saysBy_0 G mc ms Q) 0 := sx_aload_n dX12_saysBy_0 rfl (sx_iload_n dX12_saysBy_1 rfl (sx_iload_n dX12_saysBy_2 rfl (sx_vcall dX12_saysBy_3 cf_X12_areNear (mg_8 (List.mem_of_getElem? (i := 69) rfl) rfl) (mg_8 (List.mem_of_getElem? (i := 71) rfl) rfl) (mg_p (List.mem_of_getElem? (i := 89) rfl) rfl) rfl c_X12_areNear (sx_if_ne 11 dX12_saysBy_6 (by decide) (sx_aload_n dX12_saysBy_11 rfl (sx_getR dX12_saysBy_12 fl_FootQuarrelModel_59 (fun _ _ _ => rfl) (sx_iconst dX12_saysBy_15 rfl (sx_dup2 dX12_saysBy_16 (sx_iald dX12_saysBy_17 (sx_aload_n dX12_saysBy_18 rfl (sx_iload_n dX12_saysBy_19 rfl (sx_iload_n dX12_saysBy_20 rfl (sx_vcall dX12_saysBy_21 cf_X12_says (mg_8 (List.mem_of_getElem? (i := 89) rfl) rfl) (mg_8 (List.mem_of_getElem? (i := 91) rfl) rfl) (mg_p (List.mem_of_getElem? (i := 92) rfl) rfl) rfl c_X12_says (sx_iadd dX12_saysBy_24 (sx_iast dX12_saysBy_25 (sx_aload_n dX12_saysBy_26 rfl (sx_getR dX12_saysBy_27 fl_FootQuarrelModel_59 (fun _ _ _ => rfl) (sx_iconst dX12_saysBy_30 rfl (sx_dup2 dX12_saysBy_31 (sx_iald dX12_saysBy_32 (sx_iconst dX12_saysBy_33 rfl (sx_iadd dX12_saysBy_34 (sx_iast dX12_saysBy_35 (sx_iconst dX12_saysBy_36 rfl (sx_zret dX12_saysBy_37 rfl))))))))))))))))))))) (sx_iconst dX12_saysBy_9 rfl (sx_zret dX12_saysBy_10 rfl))))))
theorem dX12_sorries_0 : decode cX12_sorries 0 = .ok (.aload_n 0, 1) := by decide +kernel
theorem dX12_sorries_1 : decode cX12_sorries 1 = .ok (.iconst 0, 1) := by decide +kernel
theorem dX12_sorries_2 : decode cX12_sorries 2 = .ok (.invokevirtual 280, 3) := by decide +kernel
theorem dX12_sorries_5 : decode cX12_sorries 5 = .ok (.ifCond .eq 11, 3) := by decide +kernel
theorem dX12_sorries_8 : decode cX12_sorries 8 = .ok (.aload_n 0, 1) := by decide +kernel
theorem dX12_sorries_9 : decode cX12_sorries 9 = .ok (.iconst 0, 1) := by decide +kernel
theorem dX12_sorries_10 : decode cX12_sorries 10 = .ok (.invokevirtual 318, 3) := by decide +kernel
theorem dX12_sorries_13 : decode cX12_sorries 13 = .ok (.ifCond .ne 5, 3) := by decide +kernel
theorem dX12_sorries_16 : decode cX12_sorries 16 = .ok (.iconst 0, 1) := by decide +kernel
theorem dX12_sorries_17 : decode cX12_sorries 17 = .ok (.ireturn, 1) := by decide +kernel
theorem dX12_sorries_18 : decode cX12_sorries 18 = .ok (.aload_n 0, 1) := by decide +kernel
theorem dX12_sorries_19 : decode cX12_sorries 19 = .ok (.iconst 0, 1) := by decide +kernel
theorem dX12_sorries_20 : decode cX12_sorries 20 = .ok (.invokevirtual 321, 3) := by decide +kernel
theorem dX12_sorries_23 : decode cX12_sorries 23 = .ok (.pop, 1) := by decide +kernel
theorem dX12_sorries_24 : decode cX12_sorries 24 = .ok (.iconst 1, 1) := by decide +kernel
theorem dX12_sorries_25 : decode cX12_sorries 25 = .ok (.ireturn, 1) := by decide +kernel
abbrev M_X12_sorries : MT := (yX12_sorries, cX12_sorries, 1, (some .boolean))
theorem cf_X12_sorries : fq_cf M_X12_sorries 0 := ⟨(mg_1 (List.mem_of_getElem? (i := 15) rfl) rfl), (mg_9 (List.mem_of_getElem? (i := 149) rfl) rfl), ⟨by decide, by decide, by decide +kernel⟩, by decide⟩
def B_X12_sorries_16 (G : GT) (mc ms : Nat) (Q : Post) : Cn := ix_pushI 0 (ix_zret mc ms Q)
theorem b_X12_sorries_16 {l : Launch} {G : GT} {D mc ms : Nat} {Q : Post} : Imp l G M_X12_sorries (D + 4) mc ms Q (B_X12_sorries_16 G mc ms Q) 16 := sx_iconst dX12_sorries_16 rfl (sx_zret dX12_sorries_17 rfl)
def B_X12_sorries_0 (G : GT) (mc ms : Nat) (Q : Post) : Cn := ix_aload 0 (ix_pushI 0 (ix_vcall 12 2 0 0 mc ms (sp_X12_isQuarrel G) (ix_if_eq ((B_X12_sorries_16 G mc ms Q)) (ix_aload 0 (ix_pushI 0 (ix_vcall 12 2 0 0 mc ms (sp_X12_canHalve G) (ix_if_ne (ix_aload 0 (ix_pushI 0 (ix_vcall 12 2 0 0 mc ms (sp_X12_halves G) (ix_popI (ix_pushI 1 (ix_zret mc ms Q)))))) ((B_X12_sorries_16 G mc ms Q)))))))))
theorem b_X12_sorries_0 {l : Launch} {G : GT} {D mc ms : Nat} {Q : Post} : Imp l G M_X12_sorries (D + 4) mc ms Q (B_X12_sorries_0 G mc ms Q) 0 := sx_aload_n dX12_sorries_0 rfl (sx_iconst dX12_sorries_1 rfl (sx_vcall dX12_sorries_2 cf_X12_isQuarrel (mg_8 (List.mem_of_getElem? (i := 54) rfl) rfl) (mg_8 (List.mem_of_getElem? (i := 56) rfl) rfl) (mg_p (List.mem_of_getElem? (i := 87) rfl) rfl) rfl c_X12_isQuarrel (sx_if_eq 16 dX12_sorries_5 (by decide) (b_X12_sorries_16) (sx_aload_n dX12_sorries_8 rfl (sx_iconst dX12_sorries_9 rfl (sx_vcall dX12_sorries_10 cf_X12_canHalve (mg_8 (List.mem_of_getElem? (i := 118) rfl) rfl) (mg_8 (List.mem_of_getElem? (i := 120) rfl) rfl) (mg_p (List.mem_of_getElem? (i := 98) rfl) rfl) rfl c_X12_canHalve (sx_if_ne 18 dX12_sorries_13 (by decide) (sx_aload_n dX12_sorries_18 rfl (sx_iconst dX12_sorries_19 rfl (sx_vcall dX12_sorries_20 cf_X12_halves (mg_8 (List.mem_of_getElem? (i := 122) rfl) rfl) (mg_8 (List.mem_of_getElem? (i := 124) rfl) rfl) (mg_p (List.mem_of_getElem? (i := 99) rfl) rfl) rfl c_X12_halves (sx_popI dX12_sorries_23 (sx_iconst dX12_sorries_24 rfl (sx_zret dX12_sorries_25 rfl)))))) (b_X12_sorries_16))))))))
theorem dX12_nightsBy_0 : decode cX12_nightsBy 0 = .ok (.aload_n 0, 1) := by decide +kernel
theorem dX12_nightsBy_1 : decode cX12_nightsBy 1 = .ok (.getfield 7, 3) := by decide +kernel
theorem dX12_nightsBy_4 : decode cX12_nightsBy 4 = .ok (.bipush 6, 2) := by decide +kernel
theorem dX12_nightsBy_6 : decode cX12_nightsBy 6 = .ok (.iaload, 1) := by decide +kernel
theorem dX12_nightsBy_7 : decode cX12_nightsBy 7 = .ok (.iload_n 1, 1) := by decide +kernel
theorem dX12_nightsBy_8 : decode cX12_nightsBy 8 = .ok (.iadd, 1) := by decide +kernel
theorem dX12_nightsBy_9 : decode cX12_nightsBy 9 = .ok (.sipush 9999, 3) := by decide +kernel
theorem dX12_nightsBy_12 : decode cX12_nightsBy 12 = .ok (.if_icmp .le 5, 3) := by decide +kernel
theorem dX12_nightsBy_15 : decode cX12_nightsBy 15 = .ok (.iconst 0, 1) := by decide +kernel
theorem dX12_nightsBy_16 : decode cX12_nightsBy 16 = .ok (.ireturn, 1) := by decide +kernel
theorem dX12_nightsBy_17 : decode cX12_nightsBy 17 = .ok (.aload_n 0, 1) := by decide +kernel
theorem dX12_nightsBy_18 : decode cX12_nightsBy 18 = .ok (.iload_n 1, 1) := by decide +kernel
theorem dX12_nightsBy_19 : decode cX12_nightsBy 19 = .ok (.invokevirtual 333, 3) := by decide +kernel
theorem dX12_nightsBy_22 : decode cX12_nightsBy 22 = .ok (.aload_n 0, 1) := by decide +kernel
theorem dX12_nightsBy_23 : decode cX12_nightsBy 23 = .ok (.getfield 59, 3) := by decide +kernel
theorem dX12_nightsBy_26 : decode cX12_nightsBy 26 = .ok (.iconst 1, 1) := by decide +kernel
theorem dX12_nightsBy_27 : decode cX12_nightsBy 27 = .ok (.dup2, 1) := by decide +kernel
theorem dX12_nightsBy_28 : decode cX12_nightsBy 28 = .ok (.iaload, 1) := by decide +kernel
theorem dX12_nightsBy_29 : decode cX12_nightsBy 29 = .ok (.iload_n 1, 1) := by decide +kernel
theorem dX12_nightsBy_30 : decode cX12_nightsBy 30 = .ok (.iadd, 1) := by decide +kernel
theorem dX12_nightsBy_31 : decode cX12_nightsBy 31 = .ok (.iastore, 1) := by decide +kernel
theorem dX12_nightsBy_32 : decode cX12_nightsBy 32 = .ok (.iconst 1, 1) := by decide +kernel
theorem dX12_nightsBy_33 : decode cX12_nightsBy 33 = .ok (.ireturn, 1) := by decide +kernel
abbrev M_X12_nightsBy : MT := (yX12_nightsBy, cX12_nightsBy, 2, (some .boolean))
theorem cf_X12_nightsBy : fq_cf M_X12_nightsBy 1 := ⟨(mg_1 (List.mem_of_getElem? (i := 15) rfl) rfl), (mg_9 (List.mem_of_getElem? (i := 153) rfl) rfl), ⟨by decide, by decide, by decide +kernel⟩, by decide⟩
def B_X12_nightsBy_0 (G : GT) (mc ms : Nat) (Q : Post) : Cn := ix_aload 0 (ix_getR 12 0 (ix_pushI 6 (ix_iald (ix_iload 1 (ix_iadd (ix_pushI 9999 (ix_icmp_le (ix_aload 0 (ix_iload 1 (ix_vcall 12 2 0 0 mc ms (sp_X12_nights G) (ix_aload 0 (ix_getR 12 32 (ix_pushI 1 (ix_dup2 (ix_iald (ix_iload 1 (ix_iadd (ix_iast (ix_pushI 1 (ix_zret mc ms Q))))))))))))) (ix_pushI 0 (ix_zret mc ms Q)))))))))
theorem b_X12_nightsBy_0 {l : Launch} {G : GT} {D mc ms : Nat} {Q : Post} : Imp l G M_X12_nightsBy (D + 4) mc ms Q (B_X12_nightsBy_0 G mc ms Q) 0 := sx_aload_n dX12_nightsBy_0 rfl (sx_getR dX12_nightsBy_1 fl_FootQuarrelModel_7 (fun _ _ _ => rfl) (sx_bipush dX12_nightsBy_4 rfl (sx_iald dX12_nightsBy_6 (sx_iload_n dX12_nightsBy_7 rfl (sx_iadd dX12_nightsBy_8 (sx_sipush dX12_nightsBy_9 rfl (sx_icmp_le 17 dX12_nightsBy_12 (by decide) (sx_aload_n dX12_nightsBy_17 rfl (sx_iload_n dX12_nightsBy_18 rfl (sx_vcall dX12_nightsBy_19 cf_X12_nights (mg_8 (List.mem_of_getElem? (i := 134) rfl) rfl) (mg_8 (List.mem_of_getElem? (i := 136) rfl) rfl) (mg_p (List.mem_of_getElem? (i := 100) rfl) rfl) rfl c_X12_nights (sx_aload_n dX12_nightsBy_22 rfl (sx_getR dX12_nightsBy_23 fl_FootQuarrelModel_59 (fun _ _ _ => rfl) (sx_iconst dX12_nightsBy_26 rfl (sx_dup2 dX12_nightsBy_27 (sx_iald dX12_nightsBy_28 (sx_iload_n dX12_nightsBy_29 rfl (sx_iadd dX12_nightsBy_30 (sx_iast dX12_nightsBy_31 (sx_iconst dX12_nightsBy_32 rfl (sx_zret dX12_nightsBy_33 rfl))))))))))))) (sx_iconst dX12_nightsBy_15 rfl (sx_zret dX12_nightsBy_16 rfl)))))))))
def sp_X12_draw (G : GT) : Sp := fun as S I J z Q => match as with
  | [.ref M, .int n] => rfS S M ∧ ∃ d c, I M 29 = nI d ∧ d < 65536 ∧ n = nI c ∧ 0 < c ∧ c < 100 ∧ Q (some (.int (nI (fd d / 8 % c)))) S (u2 I M 29 (nI (fd d))) J z
  | _ => False
theorem n8_0 : ¬ nI 8 = 0 := by decide
theorem n65_0 : ¬ nI 65536 = 0 := by decide
set_option maxHeartbeats 4000000 in
set_option maxRecDepth 20000 in
theorem c_X12_draw {l : Launch} {G : GT} {D : Nat} : ∀ as S I J z Q, sp_X12_draw G as S I J z Q → fqCall l G M_X12_draw (D + 0) 0 0 as S I J z Q := by
  intro as S I J z Q h
  unfold sp_X12_draw at h
  split at h
  · next M n =>
    obtain ⟨hm, d, c, hd, hd9, rfl, h0, hc, hQ⟩ := h
    have e1 := fd_I hd9
    have e2 := fd_8 d
    have e3 := fdq_c (d := d) h0 hc
    have hc0 : ¬ nI c = 0 := fun e => by
      have := nI_i (b := 0) (by omega) (by omega) e
      omega
    refine fq_enter [some (.ref M), some (.int (nI c))] (by decide +kernel) (Nat.le_of_ble_eq_true rfl) rfl (b_X12_draw_0 _ _ _ _ _ _ _ _ ?_)
    simp (disch := omega) only [B_X12_draw_0, hm, hm.k, hm.k1, hm.n1, hm.r1, hm.k2, hm.n2, hm.r2, hm.k3, hm.n3, hm.r3, hm.k4, hm.n4, hm.r4, hm.k5, hm.n5, hm.r5, hm.k6, hm.n6, hm.r6, hm.k7, hm.n7, hm.r7, hm.k8, hm.n8, hm.r8, hm.k9, hm.n9, hm.r9, hm.k10, hm.n10, hm.r10, hm.k11, hm.n11, hm.r11, hm.k12, hm.n12, hm.r12, hm.k13, hm.n13, hm.r13, hm.k14, hm.n14, hm.r14, li_2, li_3, li_4, li_5, li_6, li_7, li_8, li_9, li_10, li_11, li_12, li_13, li_14, li_15, li_16, li_17, li_18, li_19, li_20, li_21, li_22, li_23, li_24, li_25, li_26, li_27, li_28, li_29, li_30, li_32, li_33, li_34, li_35, li_36, li_37, li_38, li_39, li_40, li_41, li_42, li_43, li_44, li_45, li_46, li_47, li_48, li_49, li_50, li_51, li_52, li_53, li_54, li_55, li_56, li_57, li_58, li_59, li_60, li_61, li_62, li_63, li_64, li_65, li_66, li_67, li_68, li_69, li_70, li_71, li_72, li_73, li_74, li_75, li_76, li_77, li_78, li_79, li_80, li_81, li_82, li_83, li_84, li_85, li_86, li_87, li_88, li_89, li_90, li_91, li_92, li_93, li_94, li_95, li_96, li_97, li_98, li_99, li_100, li_101, li_102, li_103, li_104, li_105, li_106, li_107, li_108, li_109, li_110, li_111, li_112, li_113, li_114, li_115, li_116, li_117, li_118, li_119, li_120, li_121, li_122, li_123, li_124, li_125, li_126, li_127, li_128, li_129, li_130, li_131, li_226, li_240, li_255, li_300, li_586, li_594, li_900, li_999, li_1000, li_1800, li_2376, li_2388, li_2406, li_2602, li_2970, li_3067, li_3564, li_9999, li_10000, li_11287, li_65536, li_100000, li_1000000, nI_mul, tn0, tn1, vin0, vin1, Int32.add_zero, Int32.or_zero, Int32.mul_one, Int32.mul_zero, Int32.zero_add, Nat.reduceEqDiff, Nat.reduceMul, Nat.reduceSub, hd, e1, u2_same, e2, e3, n8_0, n65_0, hc0, nI_1, nI_add, nI_clamp, nI_pin, nI_neg, nI_nonneg, nI_leE, nI_ltE, nI_eqE, Nat.not_le, Nat.not_lt, fq_10, fq_01, fq_rr, ix_aald, ix_aast, ix_abs, ix_alen, ix_aload, ix_aret, ix_astore, ix_bald, ix_bast, ix_call, ix_cpyI, ix_cpyJ, ix_dead, ix_dup2, ix_dup2L, ix_dupI, ix_dupR, ix_dupx1, ix_getI, ix_getJ, ix_getR, ix_gfm, ix_gtab, ix_i2b, ix_i2c, ix_i2l, ix_i2s, ix_iadd, ix_iald, ix_iand, ix_iast, ix_icall, ix_icmp_eq, ix_icmp_ge, ix_icmp_gt, ix_icmp_le, ix_icmp_lt, ix_icmp_ne, ix_idiv, ix_if_eq, ix_if_ge, ix_if_gt, ix_if_le, ix_if_lt, ix_if_ne, ix_iinc, ix_iload, ix_imul, ix_ineg, ix_ior, ix_irem, ix_iret, ix_ishl, ix_ishr, ix_istore, ix_isub, ix_iushr, ix_ixor, ix_l2i, ix_ladd, ix_lald, ix_land, ix_last, ix_lcmp, ix_ldcS, ix_ldiv, ix_lload, ix_lmul, ix_lor, ix_lrem, ix_lret, ix_lshl, ix_lstore, ix_lsub, ix_lsw, ix_max, ix_min, ix_new, ix_newa, ix_nret, ix_oinit, ix_pop2L, ix_popI, ix_pushI, ix_pushL, ix_putI, ix_putJ, ix_putR, ix_putZ, ix_sbald, ix_sgetC, ix_sgetV, ix_slen, ix_strc, ix_tald, ix_tsw, ix_vcall, ix_vret, ix_zret, stL, stL2, kilL, popN, fq_sw, fq_lsw, List.map_cons, List.map_nil, List.getElem?_cons_zero, List.getElem?_cons_succ, Option.toList_some, Option.toList_none, List.cons_append, List.nil_append, List.length_cons, List.length_nil, List.sum_cons, List.sum_nil, cat_i, cat_l, cat_r, true_and, and_true, Nat.zero_add, Nat.add_zero, Nat.le_refl, Nat.zero_le, Nat.reduceAdd, Nat.reduceLeDiff, exists_eq_left', Option.some.injEq, not_true_eq_false, not_false_eq_true, false_implies, true_implies, implies_true, and_self, or_true, true_or, or_false, false_or]
    exact hQ
  · exact h.elim
/-- what a step may have changed -/
def lvF (M : Nat) (I I' : IH) : Prop := (∀ a, a ≠ M → a ≠ M + 1 → a ≠ M + 13 → I' a = I a) ∧ ∀ k, k ≠ 29 → I' M k = I M k
theorem lvF.tr {M : Nat} {I I1 I2 : IH} (h : lvF M I I1) (g : lvF M I1 I2) : lvF M I I2 := ⟨fun a h1 h2 h3 => (g.1 a h1 h2 h3).trans (h.1 a h1 h2 h3), fun k hk => (g.2 k hk).trans (h.2 k hk)⟩
theorem lvF.rf {M : Nat} {I : IH} : lvF M I I := ⟨fun _ _ _ _ => rfl, fun _ _ => rfl⟩
abbrev LR : Type := Bool × (Nat → Int32) × Nat × Int32 × Int32 × Int32
/-- a say in a life -/
def loS (A : Nat → Int32) (d a b : Nat) : LR := if ¬ a = b ∧ nrP (A (30 + 7 * a)) (A (30 + 7 * b)) (A 8) then (true, syX A a b (A (30 + 7 * a)).toNatClampNeg (A (30 + 7 * b)).toNatClampNeg, d, 0, 1, nI (rq2 A a b).1) else (false, A, d, 0, 0, 0)
/-- a quarrel halved -/
def hlA (A : Nat → Int32) (k w : Nat) : Nat → Int32 := if 0 < A (86 + 7 * k + 5) then uA (uA (uA A (86 + 7 * k + 6) 1) (12 + 3 * w) (A (12 + 3 * w) - mnI (A (86 + 7 * k + 5) / 2) (A (12 + 3 * w)))) (12 + 3 * (w + 1)) (A (12 + 3 * (w + 1)) + mnI (A (86 + 7 * k + 5) / 2) (A (12 + 3 * w))) else uA (uA (uA A (86 + 7 * k + 6) 1) (12 + 3 * (w + 1)) (A (12 + 3 * (w + 1)) - mnI (-A (86 + 7 * k + 5) / 2) (A (12 + 3 * (w + 1))))) (12 + 3 * w) (A (12 + 3 * w) + mnI (-A (86 + 7 * k + 5) / 2) (A (12 + 3 * (w + 1))))
def loH (A : Nat → Int32) (d : Nat) : LR := if 0 < (A 2).toNatClampNeg ∧ A 86 = A 6 ∧ A 92 = 0 then (true, hlA A 0 (A 87).toNatClampNeg, d, 0, 0, 0) else (false, A, d, 0, 0, 0)
def loN (A : Nat → Int32) (d n : Nat) : LR := if 9999 < (A 6).toNatClampNeg + n then (false, A, d, 0, 0, 0) else (true, ngtN n A, d, nI n, 0, 0)
def loW (A : Nat → Int32) (d : Nat) (r : Int32) : LR := (decide (¬ A 7 = r), uA A 7 r, d, 0, 0, 0)
def loY (A : Nat → Int32) (d : Nat) : LR := if A 1 = 0 then (false, A, d, 0, 0, 0) else loS (uA A 7 (bI (nI (fd d / 8 % 16) < A 5))) (fd (fd (fd d))) (fd (fd d) / 8 % (A 1).toNatClampNeg) (fd (fd (fd d)) / 8 % (A 1).toNatClampNeg)
/-- behind a step -/
def lvQ (M : Nat) (I : IH) (x : LR) (I' : IH) : Prop := lvF M I I' ∧ I' (M + 1) = x.2.1 ∧ I' M 29 = nI x.2.2.1 ∧ I' (M + 13) 0 = I (M + 13) 0 ∧ I' (M + 13) 1 = I (M + 13) 1 + x.2.2.2.1 ∧ I' (M + 13) 2 = I (M + 13) 2 + x.2.2.2.2.1 ∧ I' (M + 13) 3 = I (M + 13) 3 + x.2.2.2.2.2 ∧ I' (M + 13) 4 = I (M + 13) 4
def sp_X12_saysBy (G : GT) : Sp := fun as S I J z Q => match as with
  | [.ref M, .int a, .int b] => rfS S M ∧ wfS (I (M + 1)) ∧ ∃ p q d, a = nI p ∧ b = nI q ∧ p < (I (M + 1) 1).toNatClampNeg ∧ q < (I (M + 1) 1).toNatClampNeg ∧ I M 29 = nI d ∧ ∀ I', lvQ M I (loS (I (M + 1)) d p q) I' → Q (some (.int (bI ((loS (I (M + 1)) d p q).1 = true)))) S I' J z
  | _ => False
set_option maxHeartbeats 4000000 in
set_option maxRecDepth 20000 in
theorem c_X12_saysBy {l : Launch} {G : GT} {D : Nat} : ∀ as S I J z Q, sp_X12_saysBy G as S I J z Q → fqCall l G M_X12_saysBy (D + 5) 0 0 as S I J z Q := by
  intro as S I J z Q h
  unfold sp_X12_saysBy at h
  split at h
  · next M a b =>
    obtain ⟨hm, hw, p, q, d, rfl, rfl, hp, hq, hd, hQ⟩ := h
    have hc := hw.2.1.2
    refine fq_enter [some (.ref M), some (.int (nI p)), some (.int (nI q))] (by decide +kernel) (Nat.le_of_ble_eq_true rfl) rfl (b_X12_saysBy_0 _ _ _ _ _ _ _ _ ?_)
    unfold loS at hQ
    by_cases hn : ¬ p = q ∧ nrP (I (M + 1) (30 + 7 * p)) (I (M + 1) (30 + 7 * q)) (I (M + 1) 8)
    · rw [if_pos hn] at hQ
      obtain ⟨x, y, nb⟩ := nb_of hw hp hq hn.1 hn.2
      obtain ⟨-, -, hpq, ex, ey, hx, hy, hxy⟩ := nb
      have hc0 := hw.1.2
      unfold rq2 at hQ
      rw [ex, ey, nI_clamp (by omega), nI_clamp (by omega)] at hQ
      have b1 : bI (¬ p = q ∧ nrP (I (M + 1) (30 + 7 * p)) (I (M + 1) (30 + 7 * q)) (I (M + 1) 8)) = 1 := bI_t hn
      have hv : 0 ≤ I (M + 1) (30 + 7 * p + 3) := (hw.r.2.2.2.2 p hp).2
      have o2 := hw.2.2.1
      have hr := hw.2.2.2.2.2.2.2.1
      have e9 : u2 (up1 I (M + 1) (syX (I (M + 1)) p q x y)) (M + 13) 3 (I (M + 13) 3 + nI (rqr (I (M + 1)) p q x y).1) (M + 13) 2 = I (M + 13) 2 := by rw [u2_ck _ _ _ _ _ _ (by omega), up1_o _ _ _ _ (by omega)]
      simp (disch := omega) only [B_X12_saysBy_0, sp_X12_areNear, sp_X12_says, hm, hm.k, hm.k1, hm.n1, hm.r1, hm.k2, hm.n2, hm.r2, hm.k3, hm.n3, hm.r3, hm.k4, hm.n4, hm.r4, hm.k5, hm.n5, hm.r5, hm.k6, hm.n6, hm.r6, hm.k7, hm.n7, hm.r7, hm.k8, hm.n8, hm.r8, hm.k9, hm.n9, hm.r9, hm.k10, hm.n10, hm.r10, hm.k11, hm.n11, hm.r11, hm.k12, hm.n12, hm.r12, hm.k13, hm.n13, hm.r13, hm.k14, hm.n14, hm.r14, li_2, li_3, li_4, li_5, li_6, li_7, li_8, li_9, li_10, li_11, li_12, li_13, li_14, li_15, li_16, li_17, li_18, li_19, li_20, li_21, li_22, li_23, li_24, li_25, li_26, li_27, li_28, li_29, li_30, li_32, li_33, li_34, li_35, li_36, li_37, li_38, li_39, li_40, li_41, li_42, li_43, li_44, li_45, li_46, li_47, li_48, li_49, li_50, li_51, li_52, li_53, li_54, li_55, li_56, li_57, li_58, li_59, li_60, li_61, li_62, li_63, li_64, li_65, li_66, li_67, li_68, li_69, li_70, li_71, li_72, li_73, li_74, li_75, li_76, li_77, li_78, li_79, li_80, li_81, li_82, li_83, li_84, li_85, li_86, li_87, li_88, li_89, li_90, li_91, li_92, li_93, li_94, li_95, li_96, li_97, li_98, li_99, li_100, li_101, li_102, li_103, li_104, li_105, li_106, li_107, li_108, li_109, li_110, li_111, li_112, li_113, li_114, li_115, li_116, li_117, li_118, li_119, li_120, li_121, li_122, li_123, li_124, li_125, li_126, li_127, li_128, li_129, li_130, li_131, li_226, li_240, li_255, li_300, li_586, li_594, li_900, li_999, li_1000, li_1800, li_2376, li_2388, li_2406, li_2602, li_2970, li_3067, li_3564, li_9999, li_10000, li_11287, li_65536, li_100000, li_1000000, nI_mul, tn0, tn1, vin0, vin1, Int32.add_zero, Int32.or_zero, Int32.mul_one, Int32.mul_zero, Int32.zero_add, Nat.reduceEqDiff, Nat.reduceMul, Nat.reduceSub, bI_01, bI_01b, bI_0, hv, o2, hr, nI_1, nI_add, nI_clamp, nI_pin, nI_neg, nI_nonneg, nI_leE, nI_ltE, nI_eqE, Nat.not_le, Nat.not_lt, fq_10, fq_01, fq_rr, ix_aald, ix_aast, ix_abs, ix_alen, ix_aload, ix_aret, ix_astore, ix_bald, ix_bast, ix_call, ix_cpyI, ix_cpyJ, ix_dead, ix_dup2, ix_dup2L, ix_dupI, ix_dupR, ix_dupx1, ix_getI, ix_getJ, ix_getR, ix_gfm, ix_gtab, ix_i2b, ix_i2c, ix_i2l, ix_i2s, ix_iadd, ix_iald, ix_iand, ix_iast, ix_icall, ix_icmp_eq, ix_icmp_ge, ix_icmp_gt, ix_icmp_le, ix_icmp_lt, ix_icmp_ne, ix_idiv, ix_if_eq, ix_if_ge, ix_if_gt, ix_if_le, ix_if_lt, ix_if_ne, ix_iinc, ix_iload, ix_imul, ix_ineg, ix_ior, ix_irem, ix_iret, ix_ishl, ix_ishr, ix_istore, ix_isub, ix_iushr, ix_ixor, ix_l2i, ix_ladd, ix_lald, ix_land, ix_last, ix_lcmp, ix_ldcS, ix_ldiv, ix_lload, ix_lmul, ix_lor, ix_lrem, ix_lret, ix_lshl, ix_lstore, ix_lsub, ix_lsw, ix_max, ix_min, ix_new, ix_newa, ix_nret, ix_oinit, ix_pop2L, ix_popI, ix_pushI, ix_pushL, ix_putI, ix_putJ, ix_putR, ix_putZ, ix_sbald, ix_sgetC, ix_sgetV, ix_slen, ix_strc, ix_tald, ix_tsw, ix_vcall, ix_vret, ix_zret, stL, stL2, kilL, popN, fq_sw, fq_lsw, List.map_cons, List.map_nil, List.getElem?_cons_zero, List.getElem?_cons_succ, Option.toList_some, Option.toList_none, List.cons_append, List.nil_append, List.length_cons, List.length_nil, List.sum_cons, List.sum_nil, cat_i, cat_l, cat_r, true_and, and_true, Nat.zero_add, Nat.add_zero, Nat.le_refl, Nat.zero_le, Nat.reduceAdd, Nat.reduceLeDiff, exists_eq_left', Option.some.injEq, not_true_eq_false, not_false_eq_true, false_implies, true_implies, implies_true, and_self, or_true, true_or, or_false, false_or]
      refine ⟨fun _ => ⟨hpq, x, y, by omega, by omega, by omega, ex, ey, ?_⟩, fun h => absurd hn h⟩
      rw [e9]
      have hz := hQ (u2 (u2 (up1 I (M + 1) (syX (I (M + 1)) p q x y)) (M + 13) 3 (I (M + 13) 3 + nI (rqr (I (M + 1)) p q x y).1)) (M + 13) 2 (I (M + 13) 2 + 1)) ⟨⟨fun a h1 h2 h3 => by rw [u2_ne h3, u2_ne h3, up1_o _ _ _ _ h2], fun k hk => by rw [u2_ca _ _ _ _ _ _ (by omega), u2_ca _ _ _ _ _ _ (by omega), up1_o _ _ _ _ (by omega)]⟩, by rw [u2_ne (by omega), u2_ne (by omega), up1_at], by rw [u2_ca _ _ _ _ _ _ (by omega), u2_ca _ _ _ _ _ _ (by omega), up1_o _ _ _ _ (by omega)]; exact hd, by rw [u2_ck _ _ _ _ _ _ (by omega), u2_ck _ _ _ _ _ _ (by omega), up1_o _ _ _ _ (by omega)], by rw [u2_ck _ _ _ _ _ _ (by omega), u2_ck _ _ _ _ _ _ (by omega), up1_o _ _ _ _ (by omega)]; exact (Int32.add_zero _).symm, by rw [u2_same], by rw [u2_ck _ _ _ _ _ _ (by omega), u2_same], by rw [u2_ck _ _ _ _ _ _ (by omega), u2_ck _ _ _ _ _ _ (by omega), up1_o _ _ _ _ (by omega)]⟩
      exact hz
    · rw [if_neg hn] at hQ
      have b1 : bI (¬ p = q ∧ nrP (I (M + 1) (30 + 7 * p)) (I (M + 1) (30 + 7 * q)) (I (M + 1) 8)) = 0 := bI_f hn
      simp (disch := omega) only [B_X12_saysBy_0, sp_X12_areNear, sp_X12_says, hm, hm.k, hm.k1, hm.n1, hm.r1, hm.k2, hm.n2, hm.r2, hm.k3, hm.n3, hm.r3, hm.k4, hm.n4, hm.r4, hm.k5, hm.n5, hm.r5, hm.k6, hm.n6, hm.r6, hm.k7, hm.n7, hm.r7, hm.k8, hm.n8, hm.r8, hm.k9, hm.n9, hm.r9, hm.k10, hm.n10, hm.r10, hm.k11, hm.n11, hm.r11, hm.k12, hm.n12, hm.r12, hm.k13, hm.n13, hm.r13, hm.k14, hm.n14, hm.r14, li_2, li_3, li_4, li_5, li_6, li_7, li_8, li_9, li_10, li_11, li_12, li_13, li_14, li_15, li_16, li_17, li_18, li_19, li_20, li_21, li_22, li_23, li_24, li_25, li_26, li_27, li_28, li_29, li_30, li_32, li_33, li_34, li_35, li_36, li_37, li_38, li_39, li_40, li_41, li_42, li_43, li_44, li_45, li_46, li_47, li_48, li_49, li_50, li_51, li_52, li_53, li_54, li_55, li_56, li_57, li_58, li_59, li_60, li_61, li_62, li_63, li_64, li_65, li_66, li_67, li_68, li_69, li_70, li_71, li_72, li_73, li_74, li_75, li_76, li_77, li_78, li_79, li_80, li_81, li_82, li_83, li_84, li_85, li_86, li_87, li_88, li_89, li_90, li_91, li_92, li_93, li_94, li_95, li_96, li_97, li_98, li_99, li_100, li_101, li_102, li_103, li_104, li_105, li_106, li_107, li_108, li_109, li_110, li_111, li_112, li_113, li_114, li_115, li_116, li_117, li_118, li_119, li_120, li_121, li_122, li_123, li_124, li_125, li_126, li_127, li_128, li_129, li_130, li_131, li_226, li_240, li_255, li_300, li_586, li_594, li_900, li_999, li_1000, li_1800, li_2376, li_2388, li_2406, li_2602, li_2970, li_3067, li_3564, li_9999, li_10000, li_11287, li_65536, li_100000, li_1000000, nI_mul, tn0, tn1, vin0, vin1, Int32.add_zero, Int32.or_zero, Int32.mul_one, Int32.mul_zero, Int32.zero_add, Nat.reduceEqDiff, Nat.reduceMul, Nat.reduceSub, bI_01, bI_01b, bI_0, nI_1, nI_add, nI_clamp, nI_pin, nI_neg, nI_nonneg, nI_leE, nI_ltE, nI_eqE, Nat.not_le, Nat.not_lt, fq_10, fq_01, fq_rr, ix_aald, ix_aast, ix_abs, ix_alen, ix_aload, ix_aret, ix_astore, ix_bald, ix_bast, ix_call, ix_cpyI, ix_cpyJ, ix_dead, ix_dup2, ix_dup2L, ix_dupI, ix_dupR, ix_dupx1, ix_getI, ix_getJ, ix_getR, ix_gfm, ix_gtab, ix_i2b, ix_i2c, ix_i2l, ix_i2s, ix_iadd, ix_iald, ix_iand, ix_iast, ix_icall, ix_icmp_eq, ix_icmp_ge, ix_icmp_gt, ix_icmp_le, ix_icmp_lt, ix_icmp_ne, ix_idiv, ix_if_eq, ix_if_ge, ix_if_gt, ix_if_le, ix_if_lt, ix_if_ne, ix_iinc, ix_iload, ix_imul, ix_ineg, ix_ior, ix_irem, ix_iret, ix_ishl, ix_ishr, ix_istore, ix_isub, ix_iushr, ix_ixor, ix_l2i, ix_ladd, ix_lald, ix_land, ix_last, ix_lcmp, ix_ldcS, ix_ldiv, ix_lload, ix_lmul, ix_lor, ix_lrem, ix_lret, ix_lshl, ix_lstore, ix_lsub, ix_lsw, ix_max, ix_min, ix_new, ix_newa, ix_nret, ix_oinit, ix_pop2L, ix_popI, ix_pushI, ix_pushL, ix_putI, ix_putJ, ix_putR, ix_putZ, ix_sbald, ix_sgetC, ix_sgetV, ix_slen, ix_strc, ix_tald, ix_tsw, ix_vcall, ix_vret, ix_zret, stL, stL2, kilL, popN, fq_sw, fq_lsw, List.map_cons, List.map_nil, List.getElem?_cons_zero, List.getElem?_cons_succ, Option.toList_some, Option.toList_none, List.cons_append, List.nil_append, List.length_cons, List.length_nil, List.sum_cons, List.sum_nil, cat_i, cat_l, cat_r, true_and, and_true, Nat.zero_add, Nat.add_zero, Nat.le_refl, Nat.zero_le, Nat.reduceAdd, Nat.reduceLeDiff, exists_eq_left', Option.some.injEq, not_true_eq_false, not_false_eq_true, false_implies, true_implies, implies_true, and_self, or_true, true_or, or_false, false_or]
      exact ⟨fun h => absurd hn (fun q => h (by exact q.elim)), fun _ => hQ I ⟨lvF.rf, rfl, hd, rfl, (Int32.add_zero _).symm, (Int32.add_zero _).symm, (Int32.add_zero _).symm, rfl⟩⟩
  · exact h.elim
