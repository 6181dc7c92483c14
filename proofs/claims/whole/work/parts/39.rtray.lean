/-! the reference: trays, the tape, fractions -/
theorem dX12_cut_0 : decode cX12_cut 0 = .ok (.iload_n 2, 1) := by decide +kernel
theorem dX12_cut_1 : decode cX12_cut 1 = .ok (.ifCond .ne 10, 3) := by decide +kernel
theorem dX12_cut_4 : decode cX12_cut 4 = .ok (.lload_n 0, 1) := by decide +kernel
theorem dX12_cut_5 : decode cX12_cut 5 = .ok (.l2i, 1) := by decide +kernel
theorem dX12_cut_6 : decode cX12_cut 6 = .ok (.i2b, 1) := by decide +kernel
theorem dX12_cut_7 : decode cX12_cut 7 = .ok (.i2l, 1) := by decide +kernel
theorem dX12_cut_8 : decode cX12_cut 8 = .ok (.goto 27, 3) := by decide +kernel
theorem dX12_cut_11 : decode cX12_cut 11 = .ok (.iload_n 2, 1) := by decide +kernel
theorem dX12_cut_12 : decode cX12_cut 12 = .ok (.iconst 1, 1) := by decide +kernel
theorem dX12_cut_13 : decode cX12_cut 13 = .ok (.if_icmp .ne 10, 3) := by decide +kernel
theorem dX12_cut_16 : decode cX12_cut 16 = .ok (.lload_n 0, 1) := by decide +kernel
theorem dX12_cut_17 : decode cX12_cut 17 = .ok (.l2i, 1) := by decide +kernel
theorem dX12_cut_18 : decode cX12_cut 18 = .ok (.i2s, 1) := by decide +kernel
theorem dX12_cut_19 : decode cX12_cut 19 = .ok (.i2l, 1) := by decide +kernel
theorem dX12_cut_20 : decode cX12_cut 20 = .ok (.goto 15, 3) := by decide +kernel
theorem dX12_cut_23 : decode cX12_cut 23 = .ok (.iload_n 2, 1) := by decide +kernel
theorem dX12_cut_24 : decode cX12_cut 24 = .ok (.iconst 2, 1) := by decide +kernel
theorem dX12_cut_25 : decode cX12_cut 25 = .ok (.if_icmp .ne 9, 3) := by decide +kernel
theorem dX12_cut_28 : decode cX12_cut 28 = .ok (.lload_n 0, 1) := by decide +kernel
theorem dX12_cut_29 : decode cX12_cut 29 = .ok (.l2i, 1) := by decide +kernel
theorem dX12_cut_30 : decode cX12_cut 30 = .ok (.i2l, 1) := by decide +kernel
theorem dX12_cut_31 : decode cX12_cut 31 = .ok (.goto 4, 3) := by decide +kernel
theorem dX12_cut_34 : decode cX12_cut 34 = .ok (.lload_n 0, 1) := by decide +kernel
theorem dX12_cut_35 : decode cX12_cut 35 = .ok (.lreturn, 1) := by decide +kernel
abbrev M_X12_cut : MT := (yX12_cut, cX12_cut, 3, (some .long))
theorem cf_X12_cut : fq_cf M_X12_cut 2 := ⟨(mg_1 (List.mem_of_getElem? (i := 15) rfl) rfl), (mg_7 (List.mem_of_getElem? (i := 82) rfl) rfl), ⟨by decide, by decide, by decide +kernel⟩, by decide⟩
def B_X12_cut_35 (G : GT) (mc ms : Nat) (Q : Post) : Cn := ix_lret mc ms Q
theorem b_X12_cut_35 {l : Launch} {G : GT} {D mc ms : Nat} {Q : Post} : Imp l G M_X12_cut (D + 0) mc ms Q (B_X12_cut_35 G mc ms Q) 35 := sx_lret dX12_cut_35 rfl
def B_X12_cut_0 (G : GT) (mc ms : Nat) (Q : Post) : Cn := ix_iload 2 (ix_if_ne (ix_iload 2 (ix_pushI 1 (ix_icmp_ne (ix_iload 2 (ix_pushI 2 (ix_icmp_ne (ix_lload 0 ((B_X12_cut_35 G mc ms Q))) (ix_lload 0 (ix_l2i (ix_i2l ((B_X12_cut_35 G mc ms Q)))))))) (ix_lload 0 (ix_l2i (ix_i2s (ix_i2l ((B_X12_cut_35 G mc ms Q))))))))) (ix_lload 0 (ix_l2i (ix_i2b (ix_i2l ((B_X12_cut_35 G mc ms Q)))))))
theorem b_X12_cut_0 {l : Launch} {G : GT} {D mc ms : Nat} {Q : Post} : Imp l G M_X12_cut (D + 0) mc ms Q (B_X12_cut_0 G mc ms Q) 0 := sx_iload_n dX12_cut_0 rfl (sx_if_ne 11 dX12_cut_1 (by decide) (sx_iload_n dX12_cut_11 rfl (sx_iconst dX12_cut_12 rfl (sx_icmp_ne 23 dX12_cut_13 (by decide) (sx_iload_n dX12_cut_23 rfl (sx_iconst dX12_cut_24 rfl (sx_icmp_ne 34 dX12_cut_25 (by decide) (sx_lload_n dX12_cut_34 rfl (b_X12_cut_35)) (sx_lload_n dX12_cut_28 rfl (sx_l2i dX12_cut_29 (sx_i2l dX12_cut_30 (sx_goto 35 dX12_cut_31 (by decide) (b_X12_cut_35)))))))) (sx_lload_n dX12_cut_16 rfl (sx_l2i dX12_cut_17 (sx_i2s dX12_cut_18 (sx_i2l dX12_cut_19 (sx_goto 35 dX12_cut_20 (by decide) (b_X12_cut_35))))))))) (sx_lload_n dX12_cut_4 rfl (sx_l2i dX12_cut_5 (sx_i2b dX12_cut_6 (sx_i2l dX12_cut_7 (sx_goto 35 dX12_cut_8 (by decide) (b_X12_cut_35)))))))
theorem dX12_wrongPlace_0 : decode cX12_wrongPlace 0 = .ok (.iload_n 1, 1) := by decide +kernel
theorem dX12_wrongPlace_1 : decode cX12_wrongPlace 1 = .ok (.invokestatic 86, 3) := by decide +kernel
theorem dX12_wrongPlace_4 : decode cX12_wrongPlace 4 = .ok (.ifCond .ne 7, 3) := by decide +kernel
theorem dX12_wrongPlace_7 : decode cX12_wrongPlace 7 = .ok (.iconst 1, 1) := by decide +kernel
theorem dX12_wrongPlace_8 : decode cX12_wrongPlace 8 = .ok (.goto 36, 3) := by decide +kernel
theorem dX12_wrongPlace_11 : decode cX12_wrongPlace 11 = .ok (.aload_n 0, 1) := by decide +kernel
theorem dX12_wrongPlace_12 : decode cX12_wrongPlace 12 = .ok (.getfield 24, 3) := by decide +kernel
theorem dX12_wrongPlace_15 : decode cX12_wrongPlace 15 = .ok (.iload_n 1, 1) := by decide +kernel
theorem dX12_wrongPlace_16 : decode cX12_wrongPlace 16 = .ok (.iaload, 1) := by decide +kernel
theorem dX12_wrongPlace_17 : decode cX12_wrongPlace 17 = .ok (.iconst (-1), 1) := by decide +kernel
theorem dX12_wrongPlace_18 : decode cX12_wrongPlace 18 = .ok (.if_icmp .ne 7, 3) := by decide +kernel
theorem dX12_wrongPlace_21 : decode cX12_wrongPlace 21 = .ok (.iconst 2, 1) := by decide +kernel
theorem dX12_wrongPlace_22 : decode cX12_wrongPlace 22 = .ok (.goto 22, 3) := by decide +kernel
theorem dX12_wrongPlace_25 : decode cX12_wrongPlace 25 = .ok (.iload_n 2, 1) := by decide +kernel
theorem dX12_wrongPlace_26 : decode cX12_wrongPlace 26 = .ok (.ifCond .lt 13, 3) := by decide +kernel
theorem dX12_wrongPlace_29 : decode cX12_wrongPlace 29 = .ok (.iload_n 2, 1) := by decide +kernel
theorem dX12_wrongPlace_30 : decode cX12_wrongPlace 30 = .ok (.aload_n 0, 1) := by decide +kernel
theorem dX12_wrongPlace_31 : decode cX12_wrongPlace 31 = .ok (.getfield 24, 3) := by decide +kernel
theorem dX12_wrongPlace_34 : decode cX12_wrongPlace 34 = .ok (.iload_n 1, 1) := by decide +kernel
theorem dX12_wrongPlace_35 : decode cX12_wrongPlace 35 = .ok (.iaload, 1) := by decide +kernel
theorem dX12_wrongPlace_36 : decode cX12_wrongPlace 36 = .ok (.if_icmp .lt 7, 3) := by decide +kernel
theorem dX12_wrongPlace_39 : decode cX12_wrongPlace 39 = .ok (.iconst 3, 1) := by decide +kernel
theorem dX12_wrongPlace_40 : decode cX12_wrongPlace 40 = .ok (.goto 4, 3) := by decide +kernel
theorem dX12_wrongPlace_43 : decode cX12_wrongPlace 43 = .ok (.iconst 0, 1) := by decide +kernel
theorem dX12_wrongPlace_44 : decode cX12_wrongPlace 44 = .ok (.ireturn, 1) := by decide +kernel
abbrev M_X12_wrongPlace : MT := (yX12_wrongPlace, cX12_wrongPlace, 3, (some .int))
theorem cf_X12_wrongPlace : fq_cf M_X12_wrongPlace 2 := ⟨(mg_1 (List.mem_of_getElem? (i := 15) rfl) rfl), (mg_7 (List.mem_of_getElem? (i := 79) rfl) rfl), ⟨by decide, by decide, by decide +kernel⟩, by decide⟩
def B_X12_wrongPlace_44 (G : GT) (mc ms : Nat) (Q : Post) : Cn := ix_iret mc ms Q
theorem b_X12_wrongPlace_44 {l : Launch} {G : GT} {D mc ms : Nat} {Q : Post} : Imp l G M_X12_wrongPlace (D + 1) mc ms Q (B_X12_wrongPlace_44 G mc ms Q) 44 := sx_iret dX12_wrongPlace_44 rfl
def B_X12_wrongPlace_39 (G : GT) (mc ms : Nat) (Q : Post) : Cn := ix_pushI 3 ((B_X12_wrongPlace_44 G mc ms Q))
theorem b_X12_wrongPlace_39 {l : Launch} {G : GT} {D mc ms : Nat} {Q : Post} : Imp l G M_X12_wrongPlace (D + 1) mc ms Q (B_X12_wrongPlace_39 G mc ms Q) 39 := sx_iconst dX12_wrongPlace_39 rfl (sx_goto 44 dX12_wrongPlace_40 (by decide) (b_X12_wrongPlace_44))
def B_X12_wrongPlace_0 (G : GT) (mc ms : Nat) (Q : Post) : Cn := ix_iload 1 (ix_call 1 0 0 mc ms (sp_X12_isTray G) (ix_if_ne (ix_aload 0 (ix_getR 12 6 (ix_iload 1 (ix_iald (ix_pushI (-1) (ix_icmp_ne (ix_iload 2 (ix_if_lt ((B_X12_wrongPlace_39 G mc ms Q)) (ix_iload 2 (ix_aload 0 (ix_getR 12 6 (ix_iload 1 (ix_iald (ix_icmp_lt (ix_pushI 0 ((B_X12_wrongPlace_44 G mc ms Q))) ((B_X12_wrongPlace_39 G mc ms Q)))))))))) (ix_pushI 2 ((B_X12_wrongPlace_44 G mc ms Q))))))))) (ix_pushI 1 ((B_X12_wrongPlace_44 G mc ms Q)))))
theorem b_X12_wrongPlace_0 {l : Launch} {G : GT} {D mc ms : Nat} {Q : Post} : Imp l G M_X12_wrongPlace (D + 1) mc ms Q (B_X12_wrongPlace_0 G mc ms Q) 0 := sx_iload_n dX12_wrongPlace_0 rfl (sx_scall dX12_wrongPlace_1 cf_X12_isTray (mg_7 (List.mem_of_getElem? (i := 65) rfl) rfl) (mg_7 (List.mem_of_getElem? (i := 66) rfl) rfl) c_X12_isTray (sx_if_ne 11 dX12_wrongPlace_4 (by decide) (sx_aload_n dX12_wrongPlace_11 rfl (sx_getR dX12_wrongPlace_12 fl_FootQuarrelModel_24 (fun _ _ _ => rfl) (sx_iload_n dX12_wrongPlace_15 rfl (sx_iald dX12_wrongPlace_16 (sx_iconst dX12_wrongPlace_17 rfl (sx_icmp_ne 25 dX12_wrongPlace_18 (by decide) (sx_iload_n dX12_wrongPlace_25 rfl (sx_if_lt 39 dX12_wrongPlace_26 (by decide) (b_X12_wrongPlace_39) (sx_iload_n dX12_wrongPlace_29 rfl (sx_aload_n dX12_wrongPlace_30 rfl (sx_getR dX12_wrongPlace_31 fl_FootQuarrelModel_24 (fun _ _ _ => rfl) (sx_iload_n dX12_wrongPlace_34 rfl (sx_iald dX12_wrongPlace_35 (sx_icmp_lt 43 dX12_wrongPlace_36 (by decide) (sx_iconst dX12_wrongPlace_43 rfl (b_X12_wrongPlace_44)) (b_X12_wrongPlace_39))))))))) (sx_iconst dX12_wrongPlace_21 rfl (sx_goto 44 dX12_wrongPlace_22 (by decide) (b_X12_wrongPlace_44))))))))) (sx_iconst dX12_wrongPlace_7 rfl (sx_goto 44 dX12_wrongPlace_8 (by decide) (b_X12_wrongPlace_44)))))
theorem dX12_tray_0 : decode cX12_tray 0 = .ok (.iload_n 1, 1) := by decide +kernel
theorem dX12_tray_1 : decode cX12_tray 1 = .ok (.invokestatic 86, 3) := by decide +kernel
theorem dX12_tray_4 : decode cX12_tray 4 = .ok (.ifCond .eq 22, 3) := by decide +kernel
theorem dX12_tray_7 : decode cX12_tray 7 = .ok (.iload_n 2, 1) := by decide +kernel
theorem dX12_tray_8 : decode cX12_tray 8 = .ok (.ifCond .lt 18, 3) := by decide +kernel
theorem dX12_tray_11 : decode cX12_tray 11 = .ok (.iload_n 2, 1) := by decide +kernel
theorem dX12_tray_12 : decode cX12_tray 12 = .ok (.iconst 3, 1) := by decide +kernel
theorem dX12_tray_13 : decode cX12_tray 13 = .ok (.if_icmp .gt 13, 3) := by decide +kernel
theorem dX12_tray_16 : decode cX12_tray 16 = .ok (.iload_n 3, 1) := by decide +kernel
theorem dX12_tray_17 : decode cX12_tray 17 = .ok (.ifCond .lt 9, 3) := by decide +kernel
theorem dX12_tray_20 : decode cX12_tray 20 = .ok (.iload_n 3, 1) := by decide +kernel
theorem dX12_tray_21 : decode cX12_tray 21 = .ok (.bipush 60, 2) := by decide +kernel
theorem dX12_tray_23 : decode cX12_tray 23 = .ok (.if_icmp .le 9, 3) := by decide +kernel
theorem dX12_tray_26 : decode cX12_tray 26 = .ok (.aload_n 0, 1) := by decide +kernel
theorem dX12_tray_27 : decode cX12_tray 27 = .ok (.iconst 1, 1) := by decide +kernel
theorem dX12_tray_28 : decode cX12_tray 28 = .ok (.invokevirtual 82, 3) := by decide +kernel
theorem dX12_tray_31 : decode cX12_tray 31 = .ok (.ireturn, 1) := by decide +kernel
theorem dX12_tray_32 : decode cX12_tray 32 = .ok (.aload_n 0, 1) := by decide +kernel
theorem dX12_tray_33 : decode cX12_tray 33 = .ok (.getfield 21, 3) := by decide +kernel
theorem dX12_tray_36 : decode cX12_tray 36 = .ok (.iload_n 1, 1) := by decide +kernel
theorem dX12_tray_37 : decode cX12_tray 37 = .ok (.iload_n 2, 1) := by decide +kernel
theorem dX12_tray_38 : decode cX12_tray 38 = .ok (.iastore, 1) := by decide +kernel
theorem dX12_tray_39 : decode cX12_tray 39 = .ok (.aload_n 0, 1) := by decide +kernel
theorem dX12_tray_40 : decode cX12_tray 40 = .ok (.getfield 24, 3) := by decide +kernel
theorem dX12_tray_43 : decode cX12_tray 43 = .ok (.iload_n 1, 1) := by decide +kernel
theorem dX12_tray_44 : decode cX12_tray 44 = .ok (.iload_n 3, 1) := by decide +kernel
theorem dX12_tray_45 : decode cX12_tray 45 = .ok (.iastore, 1) := by decide +kernel
theorem dX12_tray_46 : decode cX12_tray 46 = .ok (.iconst 0, 1) := by decide +kernel
theorem dX12_tray_47 : decode cX12_tray 47 = .ok (.istore 4, 2) := by decide +kernel
theorem dX12_tray_49 : decode cX12_tray 49 = .ok (.iload 4, 2) := by decide +kernel
theorem dX12_tray_51 : decode cX12_tray 51 = .ok (.iload_n 3, 1) := by decide +kernel
theorem dX12_tray_52 : decode cX12_tray 52 = .ok (.if_icmp .ge 22, 3) := by decide +kernel
theorem dX12_tray_55 : decode cX12_tray 55 = .ok (.aload_n 0, 1) := by decide +kernel
theorem dX12_tray_56 : decode cX12_tray 56 = .ok (.getfield 27, 3) := by decide +kernel
theorem dX12_tray_59 : decode cX12_tray 59 = .ok (.bipush 60, 2) := by decide +kernel
theorem dX12_tray_61 : decode cX12_tray 61 = .ok (.iload_n 1, 1) := by decide +kernel
theorem dX12_tray_62 : decode cX12_tray 62 = .ok (.imul, 1) := by decide +kernel
theorem dX12_tray_63 : decode cX12_tray 63 = .ok (.iload 4, 2) := by decide +kernel
theorem dX12_tray_65 : decode cX12_tray 65 = .ok (.iadd, 1) := by decide +kernel
theorem dX12_tray_66 : decode cX12_tray 66 = .ok (.lconst 0, 1) := by decide +kernel
theorem dX12_tray_67 : decode cX12_tray 67 = .ok (.lastore, 1) := by decide +kernel
theorem dX12_tray_68 : decode cX12_tray 68 = .ok (.iinc 4 1, 3) := by decide +kernel
theorem dX12_tray_71 : decode cX12_tray 71 = .ok (.goto (-22), 3) := by decide +kernel
theorem dX12_tray_74 : decode cX12_tray 74 = .ok (.aload_n 0, 1) := by decide +kernel
theorem dX12_tray_75 : decode cX12_tray 75 = .ok (.iconst 0, 1) := by decide +kernel
theorem dX12_tray_76 : decode cX12_tray 76 = .ok (.invokevirtual 82, 3) := by decide +kernel
theorem dX12_tray_79 : decode cX12_tray 79 = .ok (.ireturn, 1) := by decide +kernel
abbrev M_X12_tray : MT := (yX12_tray, cX12_tray, 5, (some .boolean))
theorem cf_X12_tray : fq_cf M_X12_tray 3 := ⟨(mg_1 (List.mem_of_getElem? (i := 15) rfl) rfl), (mg_7 (List.mem_of_getElem? (i := 64) rfl) rfl), ⟨by decide, by decide, by decide +kernel⟩, by decide⟩
def B_X12_tray_49 (l : Launch) (G : GT) (D mc ms : Nat) (Q : Post) : Cn := ix_iload 4 (ix_iload 3 (ix_icmp_ge (ix_aload 0 (ix_pushI 0 (ix_vcall 12 2 0 0 mc ms (sp_X12_is G) (ix_zret mc ms Q)))) (ix_aload 0 (ix_getR 12 7 (ix_pushI 60 (ix_iload 1 (ix_imul (ix_iload 4 (ix_iadd (ix_pushL 0 (ix_last (ix_iinc 4 1 (fqAt l G M_X12_tray (D + 1) mc ms Q 49)))))))))))))
theorem b_X12_tray_49 {l : Launch} {G : GT} {D mc ms : Nat} {Q : Post} : Imp l G M_X12_tray (D + 1) mc ms Q (B_X12_tray_49 l G D mc ms Q) 49 := sx_iload dX12_tray_49 (sx_iload_n dX12_tray_51 rfl (sx_icmp_ge 74 dX12_tray_52 (by decide) (sx_aload_n dX12_tray_74 rfl (sx_iconst dX12_tray_75 rfl (sx_vcall dX12_tray_76 cf_X12_is (mg_7 (List.mem_of_getElem? (i := 68) rfl) rfl) (mg_7 (List.mem_of_getElem? (i := 70) rfl) rfl) (mg_p (List.mem_of_getElem? (i := 48) rfl) rfl) rfl c_X12_is (sx_zret dX12_tray_79 rfl)))) (sx_aload_n dX12_tray_55 rfl (sx_getR dX12_tray_56 fl_FootQuarrelModel_27 (fun _ _ _ => rfl) (sx_bipush dX12_tray_59 rfl (sx_iload_n dX12_tray_61 rfl (sx_imul dX12_tray_62 (sx_iload dX12_tray_63 (sx_iadd dX12_tray_65 (sx_lconst dX12_tray_66 rfl (sx_last dX12_tray_67 (sx_iinc dX12_tray_68 rfl (by decide) (sx_goto 49 dX12_tray_71 (by decide) ((fun _ _ _ _ _ _ _ _ h => h)))))))))))))))
def B_X12_tray_26 (l : Launch) (G : GT) (D mc ms : Nat) (Q : Post) : Cn := ix_aload 0 (ix_pushI 1 (ix_vcall 12 2 0 0 mc ms (sp_X12_is G) (ix_zret mc ms Q)))
theorem b_X12_tray_26 {l : Launch} {G : GT} {D mc ms : Nat} {Q : Post} : Imp l G M_X12_tray (D + 1) mc ms Q (B_X12_tray_26 l G D mc ms Q) 26 := sx_aload_n dX12_tray_26 rfl (sx_iconst dX12_tray_27 rfl (sx_vcall dX12_tray_28 cf_X12_is (mg_7 (List.mem_of_getElem? (i := 68) rfl) rfl) (mg_7 (List.mem_of_getElem? (i := 70) rfl) rfl) (mg_p (List.mem_of_getElem? (i := 48) rfl) rfl) rfl c_X12_is (sx_zret dX12_tray_31 rfl)))
def B_X12_tray_0 (l : Launch) (G : GT) (D mc ms : Nat) (Q : Post) : Cn := ix_iload 1 (ix_call 1 0 0 mc ms (sp_X12_isTray G) (ix_if_eq ((B_X12_tray_26 l G D mc ms Q)) (ix_iload 2 (ix_if_lt ((B_X12_tray_26 l G D mc ms Q)) (ix_iload 2 (ix_pushI 3 (ix_icmp_gt ((B_X12_tray_26 l G D mc ms Q)) (ix_iload 3 (ix_if_lt ((B_X12_tray_26 l G D mc ms Q)) (ix_iload 3 (ix_pushI 60 (ix_icmp_le (ix_aload 0 (ix_getR 12 5 (ix_iload 1 (ix_iload 2 (ix_iast (ix_aload 0 (ix_getR 12 6 (ix_iload 1 (ix_iload 3 (ix_iast (ix_pushI 0 (ix_istore 4 (fqAt l G M_X12_tray (D + 1) mc ms Q 49))))))))))))) ((B_X12_tray_26 l G D mc ms Q))))))))))))))
theorem b_X12_tray_0 {l : Launch} {G : GT} {D mc ms : Nat} {Q : Post} : Imp l G M_X12_tray (D + 1) mc ms Q (B_X12_tray_0 l G D mc ms Q) 0 := sx_iload_n dX12_tray_0 rfl (sx_scall dX12_tray_1 cf_X12_isTray (mg_7 (List.mem_of_getElem? (i := 65) rfl) rfl) (mg_7 (List.mem_of_getElem? (i := 66) rfl) rfl) c_X12_isTray (sx_if_eq 26 dX12_tray_4 (by decide) (b_X12_tray_26) (sx_iload_n dX12_tray_7 rfl (sx_if_lt 26 dX12_tray_8 (by decide) (b_X12_tray_26) (sx_iload_n dX12_tray_11 rfl (sx_iconst dX12_tray_12 rfl (sx_icmp_gt 26 dX12_tray_13 (by decide) (b_X12_tray_26) (sx_iload_n dX12_tray_16 rfl (sx_if_lt 26 dX12_tray_17 (by decide) (b_X12_tray_26) (sx_iload_n dX12_tray_20 rfl (sx_bipush dX12_tray_21 rfl (sx_icmp_le 32 dX12_tray_23 (by decide) (sx_aload_n dX12_tray_32 rfl (sx_getR dX12_tray_33 fl_FootQuarrelModel_21 (fun _ _ _ => rfl) (sx_iload_n dX12_tray_36 rfl (sx_iload_n dX12_tray_37 rfl (sx_iast dX12_tray_38 (sx_aload_n dX12_tray_39 rfl (sx_getR dX12_tray_40 fl_FootQuarrelModel_24 (fun _ _ _ => rfl) (sx_iload_n dX12_tray_43 rfl (sx_iload_n dX12_tray_44 rfl (sx_iast dX12_tray_45 (sx_iconst dX12_tray_46 rfl (sx_istore dX12_tray_47 (by decide) ((fun _ _ _ _ _ _ _ _ h => h)))))))))))))) (b_X12_tray_26)))))))))))))
theorem dX12_four_0 : decode cX12_four 0 = .ok (.bipush 24, 2) := by decide +kernel
theorem dX12_four_2 : decode cX12_four 2 = .ok (.istore_n 2, 1) := by decide +kernel
theorem dX12_four_3 : decode cX12_four 3 = .ok (.iload_n 2, 1) := by decide +kernel
theorem dX12_four_4 : decode cX12_four 4 = .ok (.ifCond .lt 32, 3) := by decide +kernel
theorem dX12_four_7 : decode cX12_four 7 = .ok (.aload_n 0, 1) := by decide +kernel
theorem dX12_four_8 : decode cX12_four 8 = .ok (.getfield 30, 3) := by decide +kernel
theorem dX12_four_11 : decode cX12_four 11 = .ok (.aload_n 0, 1) := by decide +kernel
theorem dX12_four_12 : decode cX12_four 12 = .ok (.getfield 99, 3) := by decide +kernel
theorem dX12_four_15 : decode cX12_four 15 = .ok (.iload_n 1, 1) := by decide +kernel
theorem dX12_four_16 : decode cX12_four 16 = .ok (.iload_n 2, 1) := by decide +kernel
theorem dX12_four_17 : decode cX12_four 17 = .ok (.ishr, 1) := by decide +kernel
theorem dX12_four_18 : decode cX12_four 18 = .ok (.i2b, 1) := by decide +kernel
theorem dX12_four_19 : decode cX12_four 19 = .ok (.bastore, 1) := by decide +kernel
theorem dX12_four_20 : decode cX12_four 20 = .ok (.aload_n 0, 1) := by decide +kernel
theorem dX12_four_21 : decode cX12_four 21 = .ok (.dup, 1) := by decide +kernel
theorem dX12_four_22 : decode cX12_four 22 = .ok (.getfield 99, 3) := by decide +kernel
theorem dX12_four_25 : decode cX12_four 25 = .ok (.iconst 1, 1) := by decide +kernel
theorem dX12_four_26 : decode cX12_four 26 = .ok (.iadd, 1) := by decide +kernel
theorem dX12_four_27 : decode cX12_four 27 = .ok (.putfield 99, 3) := by decide +kernel
theorem dX12_four_30 : decode cX12_four 30 = .ok (.iinc 2 (-8), 3) := by decide +kernel
theorem dX12_four_33 : decode cX12_four 33 = .ok (.goto (-30), 3) := by decide +kernel
theorem dX12_four_36 : decode cX12_four 36 = .ok (.return_, 1) := by decide +kernel
abbrev M_X12_four : MT := (yX12_four, cX12_four, 3, none)
theorem cf_X12_four : fq_cf M_X12_four 1 := ⟨(mg_1 (List.mem_of_getElem? (i := 15) rfl) rfl), (mg_7 (List.mem_of_getElem? (i := 99) rfl) rfl), ⟨by decide, by decide, by decide +kernel⟩, by decide⟩
def B_X12_four_3 (l : Launch) (G : GT) (D mc ms : Nat) (Q : Post) : Cn := ix_iload 2 (ix_if_lt (ix_vret mc ms Q) (ix_aload 0 (ix_getR 12 8 (ix_aload 0 (ix_getI 12 10 (ix_iload 1 (ix_iload 2 (ix_ishr (ix_i2b (ix_bast (ix_aload 0 (ix_dupR (ix_getI 12 10 (ix_pushI 1 (ix_iadd (ix_putI 12 10 (ix_iinc 2 (-8) (fqAt l G M_X12_four (D + 0) mc ms Q 3))))))))))))))))))
theorem b_X12_four_3 {l : Launch} {G : GT} {D mc ms : Nat} {Q : Post} : Imp l G M_X12_four (D + 0) mc ms Q (B_X12_four_3 l G D mc ms Q) 3 := sx_iload_n dX12_four_3 rfl (sx_if_lt 36 dX12_four_4 (by decide) (sx_vret dX12_four_36 rfl) (sx_aload_n dX12_four_7 rfl (sx_getR dX12_four_8 fl_FootQuarrelModel_30 (fun _ _ _ => rfl) (sx_aload_n dX12_four_11 rfl (sx_getI dX12_four_12 fl_FootQuarrelModel_99 (fun _ _ _ => rfl) (sx_iload_n dX12_four_15 rfl (sx_iload_n dX12_four_16 rfl (sx_ishr dX12_four_17 (sx_i2b dX12_four_18 (sx_bast dX12_four_19 (sx_aload_n dX12_four_20 rfl (sx_dupR dX12_four_21 (sx_getI dX12_four_22 fl_FootQuarrelModel_99 (fun _ _ _ => rfl) (sx_iconst dX12_four_25 rfl (sx_iadd dX12_four_26 (sx_putI dX12_four_27 fl_FootQuarrelModel_99 (by decide) (fun _ _ _ => rfl) (fun _ => ⟨rfl, rfl⟩) (sx_iinc dX12_four_30 rfl (by decide) (sx_goto 3 dX12_four_33 (by decide) ((fun _ _ _ _ _ _ _ _ h => h))))))))))))))))))))
def B_X12_four_0 (l : Launch) (G : GT) (D mc ms : Nat) (Q : Post) : Cn := ix_pushI 24 (ix_istore 2 (fqAt l G M_X12_four (D + 0) mc ms Q 3))
theorem b_X12_four_0 {l : Launch} {G : GT} {D mc ms : Nat} {Q : Post} : Imp l G M_X12_four (D + 0) mc ms Q (B_X12_four_0 l G D mc ms Q) 0 := sx_bipush dX12_four_0 rfl (sx_istore_n dX12_four_2 rfl (by decide) ((fun _ _ _ _ _ _ _ _ h => h)))
theorem dX12_tellsBy_0 : decode cX12_tellsBy 0 = .ok (.lload_n 1, 1) := by decide +kernel
theorem dX12_tellsBy_1 : decode cX12_tellsBy 1 = .ok (.lstore 5, 2) := by decide +kernel
theorem dX12_tellsBy_3 : decode cX12_tellsBy 3 = .ok (.lload_n 3, 1) := by decide +kernel
theorem dX12_tellsBy_4 : decode cX12_tellsBy 4 = .ok (.lstore 7, 2) := by decide +kernel
theorem dX12_tellsBy_6 : decode cX12_tellsBy 6 = .ok (.lload 7, 2) := by decide +kernel
theorem dX12_tellsBy_8 : decode cX12_tellsBy 8 = .ok (.lconst 0, 1) := by decide +kernel
theorem dX12_tellsBy_9 : decode cX12_tellsBy 9 = .ok (.lcmp, 1) := by decide +kernel
theorem dX12_tellsBy_10 : decode cX12_tellsBy 10 = .ok (.ifCond .eq 21, 3) := by decide +kernel
theorem dX12_tellsBy_13 : decode cX12_tellsBy 13 = .ok (.lload 5, 2) := by decide +kernel
theorem dX12_tellsBy_15 : decode cX12_tellsBy 15 = .ok (.lload 7, 2) := by decide +kernel
theorem dX12_tellsBy_17 : decode cX12_tellsBy 17 = .ok (.lrem, 1) := by decide +kernel
theorem dX12_tellsBy_18 : decode cX12_tellsBy 18 = .ok (.lstore 9, 2) := by decide +kernel
theorem dX12_tellsBy_20 : decode cX12_tellsBy 20 = .ok (.lload 7, 2) := by decide +kernel
theorem dX12_tellsBy_22 : decode cX12_tellsBy 22 = .ok (.lstore 5, 2) := by decide +kernel
theorem dX12_tellsBy_24 : decode cX12_tellsBy 24 = .ok (.lload 9, 2) := by decide +kernel
theorem dX12_tellsBy_26 : decode cX12_tellsBy 26 = .ok (.lstore 7, 2) := by decide +kernel
theorem dX12_tellsBy_28 : decode cX12_tellsBy 28 = .ok (.goto (-22), 3) := by decide +kernel
theorem dX12_tellsBy_31 : decode cX12_tellsBy 31 = .ok (.aload_n 0, 1) := by decide +kernel
theorem dX12_tellsBy_32 : decode cX12_tellsBy 32 = .ok (.lload_n 1, 1) := by decide +kernel
theorem dX12_tellsBy_33 : decode cX12_tellsBy 33 = .ok (.lload 5, 2) := by decide +kernel
theorem dX12_tellsBy_35 : decode cX12_tellsBy 35 = .ok (.ldiv, 1) := by decide +kernel
theorem dX12_tellsBy_36 : decode cX12_tellsBy 36 = .ok (.putfield 72, 3) := by decide +kernel
theorem dX12_tellsBy_39 : decode cX12_tellsBy 39 = .ok (.aload_n 0, 1) := by decide +kernel
theorem dX12_tellsBy_40 : decode cX12_tellsBy 40 = .ok (.lload_n 3, 1) := by decide +kernel
theorem dX12_tellsBy_41 : decode cX12_tellsBy 41 = .ok (.lload 5, 2) := by decide +kernel
theorem dX12_tellsBy_43 : decode cX12_tellsBy 43 = .ok (.ldiv, 1) := by decide +kernel
theorem dX12_tellsBy_44 : decode cX12_tellsBy 44 = .ok (.putfield 17, 3) := by decide +kernel
theorem dX12_tellsBy_47 : decode cX12_tellsBy 47 = .ok (.aload_n 0, 1) := by decide +kernel
theorem dX12_tellsBy_48 : decode cX12_tellsBy 48 = .ok (.iconst 0, 1) := by decide +kernel
theorem dX12_tellsBy_49 : decode cX12_tellsBy 49 = .ok (.invokevirtual 82, 3) := by decide +kernel
theorem dX12_tellsBy_52 : decode cX12_tellsBy 52 = .ok (.ireturn, 1) := by decide +kernel
abbrev M_X12_tellsBy : MT := (yX12_tellsBy, cX12_tellsBy, 11, (some .boolean))
theorem cf_X12_tellsBy : fq_cf M_X12_tellsBy 2 := ⟨(mg_1 (List.mem_of_getElem? (i := 15) rfl) rfl), (mg_9 (List.mem_of_getElem? (i := 78) rfl) rfl), ⟨by decide, by decide, by decide +kernel⟩, by decide⟩
def B_X12_tellsBy_6 (l : Launch) (G : GT) (D mc ms : Nat) (Q : Post) : Cn := ix_lload 7 (ix_pushL 0 (ix_lcmp (ix_if_eq (ix_aload 0 (ix_lload 1 (ix_lload 5 (ix_ldiv (ix_putJ 12 3 (ix_aload 0 (ix_lload 3 (ix_lload 5 (ix_ldiv (ix_putJ 12 4 (ix_aload 0 (ix_pushI 0 (ix_vcall 12 2 0 0 mc ms (sp_X12_is G) (ix_zret mc ms Q)))))))))))))) (ix_lload 5 (ix_lload 7 (ix_lrem (ix_lstore 9 (ix_lload 7 (ix_lstore 5 (ix_lload 9 (ix_lstore 7 (fqAt l G M_X12_tellsBy (D + 1) mc ms Q 6))))))))))))
theorem b_X12_tellsBy_6 {l : Launch} {G : GT} {D mc ms : Nat} {Q : Post} : Imp l G M_X12_tellsBy (D + 1) mc ms Q (B_X12_tellsBy_6 l G D mc ms Q) 6 := sx_lload dX12_tellsBy_6 (sx_lconst dX12_tellsBy_8 rfl (sx_lcmp dX12_tellsBy_9 (sx_if_eq 31 dX12_tellsBy_10 (by decide) (sx_aload_n dX12_tellsBy_31 rfl (sx_lload_n dX12_tellsBy_32 rfl (sx_lload dX12_tellsBy_33 (sx_ldiv dX12_tellsBy_35 (sx_putJ dX12_tellsBy_36 fl_FootQuarrelModel_72 (by decide) (fun _ _ _ => rfl) (fun _ => ⟨rfl, rfl⟩) (sx_aload_n dX12_tellsBy_39 rfl (sx_lload_n dX12_tellsBy_40 rfl (sx_lload dX12_tellsBy_41 (sx_ldiv dX12_tellsBy_43 (sx_putJ dX12_tellsBy_44 fl_FootQuarrelModel_17 (by decide) (fun _ _ _ => rfl) (fun _ => ⟨rfl, rfl⟩) (sx_aload_n dX12_tellsBy_47 rfl (sx_iconst dX12_tellsBy_48 rfl (sx_vcall dX12_tellsBy_49 cf_X12_is (mg_7 (List.mem_of_getElem? (i := 68) rfl) rfl) (mg_7 (List.mem_of_getElem? (i := 70) rfl) rfl) (mg_p (List.mem_of_getElem? (i := 48) rfl) rfl) rfl c_X12_is (sx_zret dX12_tellsBy_52 rfl)))))))))))))) (sx_lload dX12_tellsBy_13 (sx_lload dX12_tellsBy_15 (sx_lrem dX12_tellsBy_17 (sx_lstore dX12_tellsBy_18 (by decide) (sx_lload dX12_tellsBy_20 (sx_lstore dX12_tellsBy_22 (by decide) (sx_lload dX12_tellsBy_24 (sx_lstore dX12_tellsBy_26 (by decide) (sx_goto 6 dX12_tellsBy_28 (by decide) ((fun _ _ _ _ _ _ _ _ h => h))))))))))))))
def B_X12_tellsBy_0 (l : Launch) (G : GT) (D mc ms : Nat) (Q : Post) : Cn := ix_lload 1 (ix_lstore 5 (ix_lload 3 (ix_lstore 7 (fqAt l G M_X12_tellsBy (D + 1) mc ms Q 6))))
theorem b_X12_tellsBy_0 {l : Launch} {G : GT} {D mc ms : Nat} {Q : Post} : Imp l G M_X12_tellsBy (D + 1) mc ms Q (B_X12_tellsBy_0 l G D mc ms Q) 0 := sx_lload_n dX12_tellsBy_0 rfl (sx_lstore dX12_tellsBy_1 (by decide) (sx_lload_n dX12_tellsBy_3 rfl (sx_lstore dX12_tellsBy_4 (by decide) ((fun _ _ _ _ _ _ _ _ h => h)))))
def cutF (v : Int64) (s : Int32) : Int64 := if s = 0 then v.toInt32.toInt8.toInt32.toInt64 else if s = 1 then v.toInt32.toInt16.toInt32.toInt64 else if s = 2 then v.toInt32.toInt64 else v
def sp_X12_cut (G : GT) : Sp := fun as S I J z Q => match as with
  | [.long v, .int s] => Q (some (.long (cutF v s))) S I J z
  | _ => False
set_option maxHeartbeats 4000000 in
set_option maxRecDepth 20000 in
theorem c_X12_cut {l : Launch} {G : GT} {D : Nat} : ∀ as S I J z Q, sp_X12_cut G as S I J z Q → fqCall l G M_X12_cut (D + 0) 0 0 as S I J z Q := by
  intro as S I J z Q h
  unfold sp_X12_cut at h
  split at h
  · next v s =>
    refine fq_enter [some (.long v), none, some (.int s)] (by decide +kernel) (Nat.le_of_ble_eq_true rfl) rfl (b_X12_cut_0 _ _ _ _ _ _ _ _ ?_)
    simp (disch := omega) only [B_X12_cut_0, B_X12_cut_35, nI_1, nI_add, nI_clamp, nI_pin, nI_neg, nI_nonneg, nI_leE, nI_ltE, nI_eqE, Nat.not_le, Nat.not_lt, fq_10, fq_01, fq_rr, ix_aald, ix_aast, ix_abs, ix_alen, ix_aload, ix_aret, ix_astore, ix_bald, ix_bast, ix_call, ix_cpyI, ix_cpyJ, ix_dead, ix_dup2, ix_dup2L, ix_dupI, ix_dupR, ix_dupx1, ix_getI, ix_getJ, ix_getR, ix_gfm, ix_gtab, ix_i2b, ix_i2c, ix_i2l, ix_i2s, ix_iadd, ix_iald, ix_iand, ix_iast, ix_icall, ix_icmp_eq, ix_icmp_ge, ix_icmp_gt, ix_icmp_le, ix_icmp_lt, ix_icmp_ne, ix_idiv, ix_if_eq, ix_if_ge, ix_if_gt, ix_if_le, ix_if_lt, ix_if_ne, ix_iinc, ix_iload, ix_imul, ix_ineg, ix_ior, ix_irem, ix_iret, ix_ishl, ix_ishr, ix_istore, ix_isub, ix_iushr, ix_ixor, ix_l2i, ix_ladd, ix_lald, ix_land, ix_last, ix_lcmp, ix_ldcS, ix_ldiv, ix_lload, ix_lmul, ix_lor, ix_lrem, ix_lret, ix_lshl, ix_lstore, ix_lsub, ix_lsw, ix_max, ix_min, ix_new, ix_newa, ix_nret, ix_oinit, ix_pop2L, ix_popI, ix_pushI, ix_pushL, ix_putI, ix_putJ, ix_putR, ix_putZ, ix_sbald, ix_sgetC, ix_sgetV, ix_slen, ix_strc, ix_tald, ix_tsw, ix_vcall, ix_vret, ix_zret, stL, stL2, kilL, popN, fq_sw, fq_lsw, List.map_cons, List.map_nil, List.getElem?_cons_zero, List.getElem?_cons_succ, Option.toList_some, Option.toList_none, List.cons_append, List.nil_append, List.length_cons, List.length_nil, List.sum_cons, List.sum_nil, cat_i, cat_l, cat_r, true_and, and_true, Nat.zero_add, Nat.add_zero, Nat.le_refl, Nat.zero_le, Nat.reduceAdd, Nat.reduceLeDiff, exists_eq_left', Option.some.injEq, not_true_eq_false, not_false_eq_true, false_implies, true_implies, implies_true, and_self, or_true, true_or, or_false, false_or]
    unfold cutF at h
    grind
  · exact h.elim
def rwp (I : IH) (M : Nat) (t p : Int32) : Int32 := if ¬ (0 ≤ t ∧ t < 4) then 1 else if I (M + 4) t.toNatClampNeg = -1 then 2 else if p < 0 ∨ I (M + 4) t.toNatClampNeg ≤ p then 3 else 0
def sp_X12_wrongPlace (G : GT) : Sp := fun as S I J z Q => match as with
  | [.ref M, .int t, .int p] => rfS S M ∧ Q (some (.int (rwp I M t p))) S I J z
  | _ => False
set_option maxHeartbeats 4000000 in
set_option maxRecDepth 20000 in
theorem c_X12_wrongPlace {l : Launch} {G : GT} {D : Nat} : ∀ as S I J z Q, sp_X12_wrongPlace G as S I J z Q → fqCall l G M_X12_wrongPlace (D + 1) 0 0 as S I J z Q := by
  intro as S I J z Q h
  unfold sp_X12_wrongPlace at h
  split at h
  · next M t p =>
    obtain ⟨hm, hQ⟩ := h
    unfold rwp at hQ
    by_cases h1 : 0 ≤ t ∧ t < 4
    · obtain ⟨k, rfl, hk⟩ := (in_c (c := 4) (by decide)).mp h1
      rw [if_neg (fun q => q h1), nI_clamp (by omega)] at hQ
      have h5 : ¬ bI (k < 4) = 0 := by
        rw [bI_0]
        exact fun q => q hk
      refine fq_enter [some (.ref M), some (.int (nI k)), some (.int p)] (by decide +kernel) (Nat.le_of_ble_eq_true rfl) rfl (b_X12_wrongPlace_0 _ _ _ _ _ _ _ _ ?_)
      simp (disch := omega) only [B_X12_wrongPlace_0, B_X12_wrongPlace_39, B_X12_wrongPlace_44, sp_X12_isTray, hm, hm.k, hm.k1, hm.n1, hm.r1, hm.k2, hm.n2, hm.r2, hm.k3, hm.n3, hm.r3, hm.k4, hm.n4, hm.r4, hm.k5, hm.n5, hm.r5, hm.k6, hm.n6, hm.r6, hm.k7, hm.n7, hm.r7, hm.k8, hm.n8, hm.r8, hm.k9, hm.n9, hm.r9, hm.k10, hm.n10, hm.r10, hm.k11, hm.n11, hm.r11, hm.k12, hm.n12, hm.r12, hm.k13, hm.n13, hm.r13, hm.k14, hm.n14, hm.r14, li_2, li_3, li_4, li_5, li_6, li_7, li_8, li_9, li_10, li_11, li_12, li_13, li_14, li_15, li_16, li_17, li_18, li_19, li_20, li_21, li_22, li_23, li_24, li_25, li_26, li_27, li_28, li_29, li_30, li_32, li_33, li_34, li_35, li_36, li_37, li_38, li_39, li_40, li_41, li_42, li_43, li_44, li_45, li_46, li_47, li_48, li_49, li_50, li_51, li_52, li_53, li_54, li_55, li_56, li_57, li_58, li_59, li_60, li_61, li_62, li_63, li_64, li_65, li_66, li_67, li_68, li_69, li_70, li_71, li_72, li_73, li_74, li_75, li_76, li_77, li_78, li_79, li_80, li_81, li_82, li_83, li_84, li_85, li_86, li_87, li_88, li_89, li_90, li_91, li_92, li_93, li_94, li_95, li_96, li_97, li_98, li_99, li_100, li_101, li_102, li_103, li_104, li_105, li_106, li_107, li_108, li_109, li_110, li_111, li_112, li_113, li_114, li_115, li_116, li_117, li_118, li_119, li_120, li_121, li_122, li_123, li_124, li_125, li_126, li_127, li_128, li_129, li_130, li_131, li_226, li_240, li_255, li_300, li_586, li_594, li_900, li_999, li_1000, li_1800, li_2376, li_2388, li_2406, li_2602, li_2970, li_3067, li_3564, li_9999, li_10000, li_11287, li_65536, li_100000, li_1000000, nI_mul, tn0, tn1, vin0, vin1, Int32.add_zero, Int32.or_zero, Int32.mul_one, Int32.mul_zero, Int32.zero_add, Nat.reduceEqDiff, Nat.reduceMul, Nat.reduceSub, nI_1, nI_add, nI_clamp, nI_pin, nI_neg, nI_nonneg, nI_leE, nI_ltE, nI_eqE, Nat.not_le, Nat.not_lt, fq_10, fq_01, fq_rr, ix_aald, ix_aast, ix_abs, ix_alen, ix_aload, ix_aret, ix_astore, ix_bald, ix_bast, ix_call, ix_cpyI, ix_cpyJ, ix_dead, ix_dup2, ix_dup2L, ix_dupI, ix_dupR, ix_dupx1, ix_getI, ix_getJ, ix_getR, ix_gfm, ix_gtab, ix_i2b, ix_i2c, ix_i2l, ix_i2s, ix_iadd, ix_iald, ix_iand, ix_iast, ix_icall, ix_icmp_eq, ix_icmp_ge, ix_icmp_gt, ix_icmp_le, ix_icmp_lt, ix_icmp_ne, ix_idiv, ix_if_eq, ix_if_ge, ix_if_gt, ix_if_le, ix_if_lt, ix_if_ne, ix_iinc, ix_iload, ix_imul, ix_ineg, ix_ior, ix_irem, ix_iret, ix_ishl, ix_ishr, ix_istore, ix_isub, ix_iushr, ix_ixor, ix_l2i, ix_ladd, ix_lald, ix_land, ix_last, ix_lcmp, ix_ldcS, ix_ldiv, ix_lload, ix_lmul, ix_lor, ix_lrem, ix_lret, ix_lshl, ix_lstore, ix_lsub, ix_lsw, ix_max, ix_min, ix_new, ix_newa, ix_nret, ix_oinit, ix_pop2L, ix_popI, ix_pushI, ix_pushL, ix_putI, ix_putJ, ix_putR, ix_putZ, ix_sbald, ix_sgetC, ix_sgetV, ix_slen, ix_strc, ix_tald, ix_tsw, ix_vcall, ix_vret, ix_zret, stL, stL2, kilL, popN, fq_sw, fq_lsw, List.map_cons, List.map_nil, List.getElem?_cons_zero, List.getElem?_cons_succ, Option.toList_some, Option.toList_none, List.cons_append, List.nil_append, List.length_cons, List.length_nil, List.sum_cons, List.sum_nil, cat_i, cat_l, cat_r, true_and, and_true, Nat.zero_add, Nat.add_zero, Nat.le_refl, Nat.zero_le, Nat.reduceAdd, Nat.reduceLeDiff, exists_eq_left', Option.some.injEq, not_true_eq_false, not_false_eq_true, false_implies, true_implies, implies_true, and_self, or_true, true_or, or_false, false_or]
      refine ⟨fun _ => ⟨fun g1 => ⟨fun g2 => ?_, fun g2 => ⟨fun g3 => ?_, fun g3 => ?_⟩⟩, fun g1 => ?_⟩, fun q => absurd q h5⟩
      · rw [if_neg g1, if_pos (Or.inl g2)] at hQ
        exact hQ
      · rw [if_neg g1, if_neg (fun q => q.elim g2 (Int32.not_le.mpr g3))] at hQ
        exact hQ
      · rw [if_neg g1, if_pos (Or.inr (Int32.not_lt.mp g3))] at hQ
        exact hQ
      · rw [if_pos g1] at hQ
        exact hQ
    · rw [if_pos h1] at hQ
      refine fq_enter [some (.ref M), some (.int t), some (.int p)] (by decide +kernel) (Nat.le_of_ble_eq_true rfl) rfl (b_X12_wrongPlace_0 _ _ _ _ _ _ _ _ ?_)
      simp (disch := omega) only [B_X12_wrongPlace_0, B_X12_wrongPlace_39, B_X12_wrongPlace_44, sp_X12_isTray, hm, hm.k, hm.k1, hm.n1, hm.r1, hm.k2, hm.n2, hm.r2, hm.k3, hm.n3, hm.r3, hm.k4, hm.n4, hm.r4, hm.k5, hm.n5, hm.r5, hm.k6, hm.n6, hm.r6, hm.k7, hm.n7, hm.r7, hm.k8, hm.n8, hm.r8, hm.k9, hm.n9, hm.r9, hm.k10, hm.n10, hm.r10, hm.k11, hm.n11, hm.r11, hm.k12, hm.n12, hm.r12, hm.k13, hm.n13, hm.r13, hm.k14, hm.n14, hm.r14, h1, bI_01, bI_01b, bI_0, bI_tr, bI_fl, nI_1, nI_add, nI_clamp, nI_pin, nI_neg, nI_nonneg, nI_leE, nI_ltE, nI_eqE, Nat.not_le, Nat.not_lt, fq_10, fq_01, fq_rr, ix_aald, ix_aast, ix_abs, ix_alen, ix_aload, ix_aret, ix_astore, ix_bald, ix_bast, ix_call, ix_cpyI, ix_cpyJ, ix_dead, ix_dup2, ix_dup2L, ix_dupI, ix_dupR, ix_dupx1, ix_getI, ix_getJ, ix_getR, ix_gfm, ix_gtab, ix_i2b, ix_i2c, ix_i2l, ix_i2s, ix_iadd, ix_iald, ix_iand, ix_iast, ix_icall, ix_icmp_eq, ix_icmp_ge, ix_icmp_gt, ix_icmp_le, ix_icmp_lt, ix_icmp_ne, ix_idiv, ix_if_eq, ix_if_ge, ix_if_gt, ix_if_le, ix_if_lt, ix_if_ne, ix_iinc, ix_iload, ix_imul, ix_ineg, ix_ior, ix_irem, ix_iret, ix_ishl, ix_ishr, ix_istore, ix_isub, ix_iushr, ix_ixor, ix_l2i, ix_ladd, ix_lald, ix_land, ix_last, ix_lcmp, ix_ldcS, ix_ldiv, ix_lload, ix_lmul, ix_lor, ix_lrem, ix_lret, ix_lshl, ix_lstore, ix_lsub, ix_lsw, ix_max, ix_min, ix_new, ix_newa, ix_nret, ix_oinit, ix_pop2L, ix_popI, ix_pushI, ix_pushL, ix_putI, ix_putJ, ix_putR, ix_putZ, ix_sbald, ix_sgetC, ix_sgetV, ix_slen, ix_strc, ix_tald, ix_tsw, ix_vcall, ix_vret, ix_zret, stL, stL2, kilL, popN, fq_sw, fq_lsw, List.map_cons, List.map_nil, List.getElem?_cons_zero, List.getElem?_cons_succ, Option.toList_some, Option.toList_none, List.cons_append, List.nil_append, List.length_cons, List.length_nil, List.sum_cons, List.sum_nil, cat_i, cat_l, cat_r, true_and, and_true, Nat.zero_add, Nat.add_zero, Nat.le_refl, Nat.zero_le, Nat.reduceAdd, Nat.reduceLeDiff, exists_eq_left', Option.some.injEq, not_true_eq_false, not_false_eq_true, false_implies, true_implies, implies_true, and_self, or_true, true_or, or_false, false_or]
      exact hQ
  · exact h.elim
def zrR (R : Nat → Int64) (b n : Nat) : Nat → Int64 := fun k => if b ≤ k ∧ k < b + n then 0 else R k
theorem zrR_s (R : Nat → Int64) (b n : Nat) : uA (zrR R b n) (b + n) 0 = zrR R b (n + 1) := by
  funext k
  unfold uA zrR
  by_cases h : k = b + n
  · rw [if_pos h, if_pos (by omega)]
  · rw [if_neg h]
    by_cases h2 : b ≤ k ∧ k < b + n
    · rw [if_pos h2, if_pos (by omega)]
    · rw [if_neg h2, if_neg (by omega)]
theorem zrR_0 (R : Nat → Int64) (b : Nat) : zrR R b 0 = R := by
  funext k
  unfold zrR
  rw [if_neg (by omega)]
abbrev trC (t so m : Int32) : Prop := (0 ≤ t ∧ t < 4) ∧ ¬ so < 0 ∧ so ≤ 3 ∧ ¬ m < 0 ∧ m ≤ 60
def sp_X12_tray (G : GT) : Sp := fun as S I J z Q => match as with
  | [.ref M, .int t, .int so, .int m] => rfS S M ∧ (¬ trC t so m → Q (some (.int 0)) S (u2 I M 2 1) J z) ∧ (trC t so m → ∀ k n, t = nI k → m = nI n → k < 4 → n ≤ 60 → Q (some (.int 1)) S (u2 (u2 (u2 I (M + 3) k so) (M + 4) k m) M 2 0) (up1 J (M + 5) (zrR (J (M + 5)) (60 * k) n)) z)
  | _ => False
set_option maxHeartbeats 4000000 in
set_option maxRecDepth 20000 in
theorem c_X12_tray {l : Launch} {G : GT} {D : Nat} : ∀ as S I J z Q, sp_X12_tray G as S I J z Q → fqCall l G M_X12_tray (D + 1) 0 0 as S I J z Q := by
  intro as S I J z Q h
  unfold sp_X12_tray at h
  split at h
  · next M t so m =>
    obtain ⟨hm, hQ1, hQ2⟩ := h
    by_cases h0 : trC t so m
    · have hq := hQ2 h0
      obtain ⟨h1, h2, h3, h4, h5⟩ := h0
      obtain ⟨k, rfl, hk⟩ := (in_c (c := 4) (by decide)).mp h1
      obtain ⟨n, hn9, rfl⟩ := nI_of h4
      have hn : n ≤ 60 := (nI_leI (a := n) (b := 60) hn9 (by decide)).mp h5
      have hq := hq k n rfl rfl hk hn
      have lp := loopU (α := Unit) (N := n) (f := fun _ u => u) (B := fun i _ => fqAt l G M_X12_tray (D + 1) 0 0 Q 49 [some (.ref M), some (.int (nI k)), some (.int so), some (.int (nI n)), some (.int (nI i))] [] S (u2 (u2 I (M + 3) k so) (M + 4) k (nI n)) (up1 J (M + 5) (zrR (J (M + 5)) (60 * k) i)) z 0 0) (by
        intro i a hi hb
        have e1 := zrR_s (J (M + 5)) (60 * k) i
        refine b_X12_tray_49 _ _ _ _ _ _ _ _ ?_
        simp (disch := omega) only [B_X12_tray_0, B_X12_tray_26, B_X12_tray_49, sp_X12_isTray, sp_X12_is, B_X12_is_0, B_X12_is_14, hm, hm.k, hm.k1, hm.n1, hm.r1, hm.k2, hm.n2, hm.r2, hm.k3, hm.n3, hm.r3, hm.k4, hm.n4, hm.r4, hm.k5, hm.n5, hm.r5, hm.k6, hm.n6, hm.r6, hm.k7, hm.n7, hm.r7, hm.k8, hm.n8, hm.r8, hm.k9, hm.n9, hm.r9, hm.k10, hm.n10, hm.r10, hm.k11, hm.n11, hm.r11, hm.k12, hm.n12, hm.r12, hm.k13, hm.n13, hm.r13, hm.k14, hm.n14, hm.r14, li_2, li_3, li_4, li_5, li_6, li_7, li_8, li_9, li_10, li_11, li_12, li_13, li_14, li_15, li_16, li_17, li_18, li_19, li_20, li_21, li_22, li_23, li_24, li_25, li_26, li_27, li_28, li_29, li_30, li_32, li_33, li_34, li_35, li_36, li_37, li_38, li_39, li_40, li_41, li_42, li_43, li_44, li_45, li_46, li_47, li_48, li_49, li_50, li_51, li_52, li_53, li_54, li_55, li_56, li_57, li_58, li_59, li_60, li_61, li_62, li_63, li_64, li_65, li_66, li_67, li_68, li_69, li_70, li_71, li_72, li_73, li_74, li_75, li_76, li_77, li_78, li_79, li_80, li_81, li_82, li_83, li_84, li_85, li_86, li_87, li_88, li_89, li_90, li_91, li_92, li_93, li_94, li_95, li_96, li_97, li_98, li_99, li_100, li_101, li_102, li_103, li_104, li_105, li_106, li_107, li_108, li_109, li_110, li_111, li_112, li_113, li_114, li_115, li_116, li_117, li_118, li_119, li_120, li_121, li_122, li_123, li_124, li_125, li_126, li_127, li_128, li_129, li_130, li_131, li_226, li_240, li_255, li_300, li_586, li_594, li_900, li_999, li_1000, li_1800, li_2376, li_2388, li_2406, li_2602, li_2970, li_3067, li_3564, li_9999, li_10000, li_11287, li_65536, li_100000, li_1000000, nI_mul, tn0, tn1, vin0, vin1, Int32.add_zero, Int32.or_zero, Int32.mul_one, Int32.mul_zero, Int32.zero_add, Nat.reduceEqDiff, Nat.reduceMul, Nat.reduceSub, u2_up, up1_at, e1, nI_1, nI_add, nI_clamp, nI_pin, nI_neg, nI_nonneg, nI_leE, nI_ltE, nI_eqE, Nat.not_le, Nat.not_lt, fq_10, fq_01, fq_rr, ix_aald, ix_aast, ix_abs, ix_alen, ix_aload, ix_aret, ix_astore, ix_bald, ix_bast, ix_call, ix_cpyI, ix_cpyJ, ix_dead, ix_dup2, ix_dup2L, ix_dupI, ix_dupR, ix_dupx1, ix_getI, ix_getJ, ix_getR, ix_gfm, ix_gtab, ix_i2b, ix_i2c, ix_i2l, ix_i2s, ix_iadd, ix_iald, ix_iand, ix_iast, ix_icall, ix_icmp_eq, ix_icmp_ge, ix_icmp_gt, ix_icmp_le, ix_icmp_lt, ix_icmp_ne, ix_idiv, ix_if_eq, ix_if_ge, ix_if_gt, ix_if_le, ix_if_lt, ix_if_ne, ix_iinc, ix_iload, ix_imul, ix_ineg, ix_ior, ix_irem, ix_iret, ix_ishl, ix_ishr, ix_istore, ix_isub, ix_iushr, ix_ixor, ix_l2i, ix_ladd, ix_lald, ix_land, ix_last, ix_lcmp, ix_ldcS, ix_ldiv, ix_lload, ix_lmul, ix_lor, ix_lrem, ix_lret, ix_lshl, ix_lstore, ix_lsub, ix_lsw, ix_max, ix_min, ix_new, ix_newa, ix_nret, ix_oinit, ix_pop2L, ix_popI, ix_pushI, ix_pushL, ix_putI, ix_putJ, ix_putR, ix_putZ, ix_sbald, ix_sgetC, ix_sgetV, ix_slen, ix_strc, ix_tald, ix_tsw, ix_vcall, ix_vret, ix_zret, stL, stL2, kilL, popN, fq_sw, fq_lsw, List.map_cons, List.map_nil, List.getElem?_cons_zero, List.getElem?_cons_succ, Option.toList_some, Option.toList_none, List.cons_append, List.nil_append, List.length_cons, List.length_nil, List.sum_cons, List.sum_nil, cat_i, cat_l, cat_r, true_and, and_true, Nat.zero_add, Nat.add_zero, Nat.le_refl, Nat.zero_le, Nat.reduceAdd, Nat.reduceLeDiff, exists_eq_left', Option.some.injEq, not_true_eq_false, not_false_eq_true, false_implies, true_implies, implies_true, and_self, or_true, true_or, or_false, false_or]
        exact ⟨fun h => absurd h (by omega), fun _ => hb⟩) n 0 () (by omega)
      have h6 : ¬ bI (k < 4) = 0 := by
        rw [bI_0]
        exact fun q => q hk
      refine fq_enter [some (.ref M), some (.int (nI k)), some (.int so), some (.int (nI n)), none] (by decide +kernel) (Nat.le_of_ble_eq_true rfl) rfl (b_X12_tray_0 _ _ _ _ _ _ _ _ ?_)
      simp (disch := omega) only [B_X12_tray_0, B_X12_tray_26, B_X12_tray_49, sp_X12_isTray, sp_X12_is, B_X12_is_0, B_X12_is_14, hm, hm.k, hm.k1, hm.n1, hm.r1, hm.k2, hm.n2, hm.r2, hm.k3, hm.n3, hm.r3, hm.k4, hm.n4, hm.r4, hm.k5, hm.n5, hm.r5, hm.k6, hm.n6, hm.r6, hm.k7, hm.n7, hm.r7, hm.k8, hm.n8, hm.r8, hm.k9, hm.n9, hm.r9, hm.k10, hm.n10, hm.r10, hm.k11, hm.n11, hm.r11, hm.k12, hm.n12, hm.r12, hm.k13, hm.n13, hm.r13, hm.k14, hm.n14, hm.r14, li_2, li_3, li_4, li_5, li_6, li_7, li_8, li_9, li_10, li_11, li_12, li_13, li_14, li_15, li_16, li_17, li_18, li_19, li_20, li_21, li_22, li_23, li_24, li_25, li_26, li_27, li_28, li_29, li_30, li_32, li_33, li_34, li_35, li_36, li_37, li_38, li_39, li_40, li_41, li_42, li_43, li_44, li_45, li_46, li_47, li_48, li_49, li_50, li_51, li_52, li_53, li_54, li_55, li_56, li_57, li_58, li_59, li_60, li_61, li_62, li_63, li_64, li_65, li_66, li_67, li_68, li_69, li_70, li_71, li_72, li_73, li_74, li_75, li_76, li_77, li_78, li_79, li_80, li_81, li_82, li_83, li_84, li_85, li_86, li_87, li_88, li_89, li_90, li_91, li_92, li_93, li_94, li_95, li_96, li_97, li_98, li_99, li_100, li_101, li_102, li_103, li_104, li_105, li_106, li_107, li_108, li_109, li_110, li_111, li_112, li_113, li_114, li_115, li_116, li_117, li_118, li_119, li_120, li_121, li_122, li_123, li_124, li_125, li_126, li_127, li_128, li_129, li_130, li_131, li_226, li_240, li_255, li_300, li_586, li_594, li_900, li_999, li_1000, li_1800, li_2376, li_2388, li_2406, li_2602, li_2970, li_3067, li_3564, li_9999, li_10000, li_11287, li_65536, li_100000, li_1000000, nI_mul, tn0, tn1, vin0, vin1, Int32.add_zero, Int32.or_zero, Int32.mul_one, Int32.mul_zero, Int32.zero_add, Nat.reduceEqDiff, Nat.reduceMul, Nat.reduceSub, nI_1, nI_add, nI_clamp, nI_pin, nI_neg, nI_nonneg, nI_leE, nI_ltE, nI_eqE, Nat.not_le, Nat.not_lt, fq_10, fq_01, fq_rr, ix_aald, ix_aast, ix_abs, ix_alen, ix_aload, ix_aret, ix_astore, ix_bald, ix_bast, ix_call, ix_cpyI, ix_cpyJ, ix_dead, ix_dup2, ix_dup2L, ix_dupI, ix_dupR, ix_dupx1, ix_getI, ix_getJ, ix_getR, ix_gfm, ix_gtab, ix_i2b, ix_i2c, ix_i2l, ix_i2s, ix_iadd, ix_iald, ix_iand, ix_iast, ix_icall, ix_icmp_eq, ix_icmp_ge, ix_icmp_gt, ix_icmp_le, ix_icmp_lt, ix_icmp_ne, ix_idiv, ix_if_eq, ix_if_ge, ix_if_gt, ix_if_le, ix_if_lt, ix_if_ne, ix_iinc, ix_iload, ix_imul, ix_ineg, ix_ior, ix_irem, ix_iret, ix_ishl, ix_ishr, ix_istore, ix_isub, ix_iushr, ix_ixor, ix_l2i, ix_ladd, ix_lald, ix_land, ix_last, ix_lcmp, ix_ldcS, ix_ldiv, ix_lload, ix_lmul, ix_lor, ix_lrem, ix_lret, ix_lshl, ix_lstore, ix_lsub, ix_lsw, ix_max, ix_min, ix_new, ix_newa, ix_nret, ix_oinit, ix_pop2L, ix_popI, ix_pushI, ix_pushL, ix_putI, ix_putJ, ix_putR, ix_putZ, ix_sbald, ix_sgetC, ix_sgetV, ix_slen, ix_strc, ix_tald, ix_tsw, ix_vcall, ix_vret, ix_zret, stL, stL2, kilL, popN, fq_sw, fq_lsw, List.map_cons, List.map_nil, List.getElem?_cons_zero, List.getElem?_cons_succ, Option.toList_some, Option.toList_none, List.cons_append, List.nil_append, List.length_cons, List.length_nil, List.sum_cons, List.sum_nil, cat_i, cat_l, cat_r, true_and, and_true, Nat.zero_add, Nat.add_zero, Nat.le_refl, Nat.zero_le, Nat.reduceAdd, Nat.reduceLeDiff, exists_eq_left', Option.some.injEq, not_true_eq_false, not_false_eq_true, false_implies, true_implies, implies_true, and_self, or_true, true_or, or_false, false_or]
      rw [zrR_0, up1_id] at lp
      rw [li_3] at h3
      refine ⟨fun q => absurd q h6, fun _ => ⟨fun q => absurd q h2, fun _ => ⟨fun q => absurd q (Int32.not_lt.mpr h3), fun _ => ⟨fun _ => lp ?_, fun q => absurd hn (by omega)⟩⟩⟩⟩
      refine b_X12_tray_49 _ _ _ _ _ _ _ _ ?_
      simp (disch := omega) only [B_X12_tray_0, B_X12_tray_26, B_X12_tray_49, sp_X12_isTray, sp_X12_is, B_X12_is_0, B_X12_is_14, hm, hm.k, hm.k1, hm.n1, hm.r1, hm.k2, hm.n2, hm.r2, hm.k3, hm.n3, hm.r3, hm.k4, hm.n4, hm.r4, hm.k5, hm.n5, hm.r5, hm.k6, hm.n6, hm.r6, hm.k7, hm.n7, hm.r7, hm.k8, hm.n8, hm.r8, hm.k9, hm.n9, hm.r9, hm.k10, hm.n10, hm.r10, hm.k11, hm.n11, hm.r11, hm.k12, hm.n12, hm.r12, hm.k13, hm.n13, hm.r13, hm.k14, hm.n14, hm.r14, li_2, li_3, li_4, li_5, li_6, li_7, li_8, li_9, li_10, li_11, li_12, li_13, li_14, li_15, li_16, li_17, li_18, li_19, li_20, li_21, li_22, li_23, li_24, li_25, li_26, li_27, li_28, li_29, li_30, li_32, li_33, li_34, li_35, li_36, li_37, li_38, li_39, li_40, li_41, li_42, li_43, li_44, li_45, li_46, li_47, li_48, li_49, li_50, li_51, li_52, li_53, li_54, li_55, li_56, li_57, li_58, li_59, li_60, li_61, li_62, li_63, li_64, li_65, li_66, li_67, li_68, li_69, li_70, li_71, li_72, li_73, li_74, li_75, li_76, li_77, li_78, li_79, li_80, li_81, li_82, li_83, li_84, li_85, li_86, li_87, li_88, li_89, li_90, li_91, li_92, li_93, li_94, li_95, li_96, li_97, li_98, li_99, li_100, li_101, li_102, li_103, li_104, li_105, li_106, li_107, li_108, li_109, li_110, li_111, li_112, li_113, li_114, li_115, li_116, li_117, li_118, li_119, li_120, li_121, li_122, li_123, li_124, li_125, li_126, li_127, li_128, li_129, li_130, li_131, li_226, li_240, li_255, li_300, li_586, li_594, li_900, li_999, li_1000, li_1800, li_2376, li_2388, li_2406, li_2602, li_2970, li_3067, li_3564, li_9999, li_10000, li_11287, li_65536, li_100000, li_1000000, nI_mul, tn0, tn1, vin0, vin1, Int32.add_zero, Int32.or_zero, Int32.mul_one, Int32.mul_zero, Int32.zero_add, Nat.reduceEqDiff, Nat.reduceMul, Nat.reduceSub, nI_1, nI_add, nI_clamp, nI_pin, nI_neg, nI_nonneg, nI_leE, nI_ltE, nI_eqE, Nat.not_le, Nat.not_lt, fq_10, fq_01, fq_rr, ix_aald, ix_aast, ix_abs, ix_alen, ix_aload, ix_aret, ix_astore, ix_bald, ix_bast, ix_call, ix_cpyI, ix_cpyJ, ix_dead, ix_dup2, ix_dup2L, ix_dupI, ix_dupR, ix_dupx1, ix_getI, ix_getJ, ix_getR, ix_gfm, ix_gtab, ix_i2b, ix_i2c, ix_i2l, ix_i2s, ix_iadd, ix_iald, ix_iand, ix_iast, ix_icall, ix_icmp_eq, ix_icmp_ge, ix_icmp_gt, ix_icmp_le, ix_icmp_lt, ix_icmp_ne, ix_idiv, ix_if_eq, ix_if_ge, ix_if_gt, ix_if_le, ix_if_lt, ix_if_ne, ix_iinc, ix_iload, ix_imul, ix_ineg, ix_ior, ix_irem, ix_iret, ix_ishl, ix_ishr, ix_istore, ix_isub, ix_iushr, ix_ixor, ix_l2i, ix_ladd, ix_lald, ix_land, ix_last, ix_lcmp, ix_ldcS, ix_ldiv, ix_lload, ix_lmul, ix_lor, ix_lrem, ix_lret, ix_lshl, ix_lstore, ix_lsub, ix_lsw, ix_max, ix_min, ix_new, ix_newa, ix_nret, ix_oinit, ix_pop2L, ix_popI, ix_pushI, ix_pushL, ix_putI, ix_putJ, ix_putR, ix_putZ, ix_sbald, ix_sgetC, ix_sgetV, ix_slen, ix_strc, ix_tald, ix_tsw, ix_vcall, ix_vret, ix_zret, stL, stL2, kilL, popN, fq_sw, fq_lsw, List.map_cons, List.map_nil, List.getElem?_cons_zero, List.getElem?_cons_succ, Option.toList_some, Option.toList_none, List.cons_append, List.nil_append, List.length_cons, List.length_nil, List.sum_cons, List.sum_nil, cat_i, cat_l, cat_r, true_and, and_true, Nat.zero_add, Nat.add_zero, Nat.le_refl, Nat.zero_le, Nat.reduceAdd, Nat.reduceLeDiff, exists_eq_left', Option.some.injEq, not_true_eq_false, not_false_eq_true, false_implies, true_implies, implies_true, and_self, or_true, true_or, or_false, false_or]
      exact hq
    · have hq := hQ1 h0
      refine fq_enter [some (.ref M), some (.int t), some (.int so), some (.int m), none] (by decide +kernel) (Nat.le_of_ble_eq_true rfl) rfl (b_X12_tray_0 _ _ _ _ _ _ _ _ ?_)
      simp (disch := omega) only [B_X12_tray_0, B_X12_tray_26, B_X12_tray_49, sp_X12_isTray, sp_X12_is, B_X12_is_0, B_X12_is_14, hm, hm.k, hm.k1, hm.n1, hm.r1, hm.k2, hm.n2, hm.r2, hm.k3, hm.n3, hm.r3, hm.k4, hm.n4, hm.r4, hm.k5, hm.n5, hm.r5, hm.k6, hm.n6, hm.r6, hm.k7, hm.n7, hm.r7, hm.k8, hm.n8, hm.r8, hm.k9, hm.n9, hm.r9, hm.k10, hm.n10, hm.r10, hm.k11, hm.n11, hm.r11, hm.k12, hm.n12, hm.r12, hm.k13, hm.n13, hm.r13, hm.k14, hm.n14, hm.r14, bI_01, bI_01b, bI_0, nI_1, nI_add, nI_clamp, nI_pin, nI_neg, nI_nonneg, nI_leE, nI_ltE, nI_eqE, Nat.not_le, Nat.not_lt, fq_10, fq_01, fq_rr, ix_aald, ix_aast, ix_abs, ix_alen, ix_aload, ix_aret, ix_astore, ix_bald, ix_bast, ix_call, ix_cpyI, ix_cpyJ, ix_dead, ix_dup2, ix_dup2L, ix_dupI, ix_dupR, ix_dupx1, ix_getI, ix_getJ, ix_getR, ix_gfm, ix_gtab, ix_i2b, ix_i2c, ix_i2l, ix_i2s, ix_iadd, ix_iald, ix_iand, ix_iast, ix_icall, ix_icmp_eq, ix_icmp_ge, ix_icmp_gt, ix_icmp_le, ix_icmp_lt, ix_icmp_ne, ix_idiv, ix_if_eq, ix_if_ge, ix_if_gt, ix_if_le, ix_if_lt, ix_if_ne, ix_iinc, ix_iload, ix_imul, ix_ineg, ix_ior, ix_irem, ix_iret, ix_ishl, ix_ishr, ix_istore, ix_isub, ix_iushr, ix_ixor, ix_l2i, ix_ladd, ix_lald, ix_land, ix_last, ix_lcmp, ix_ldcS, ix_ldiv, ix_lload, ix_lmul, ix_lor, ix_lrem, ix_lret, ix_lshl, ix_lstore, ix_lsub, ix_lsw, ix_max, ix_min, ix_new, ix_newa, ix_nret, ix_oinit, ix_pop2L, ix_popI, ix_pushI, ix_pushL, ix_putI, ix_putJ, ix_putR, ix_putZ, ix_sbald, ix_sgetC, ix_sgetV, ix_slen, ix_strc, ix_tald, ix_tsw, ix_vcall, ix_vret, ix_zret, stL, stL2, kilL, popN, fq_sw, fq_lsw, List.map_cons, List.map_nil, List.getElem?_cons_zero, List.getElem?_cons_succ, Option.toList_some, Option.toList_none, List.cons_append, List.nil_append, List.length_cons, List.length_nil, List.sum_cons, List.sum_nil, cat_i, cat_l, cat_r, true_and, and_true, Nat.zero_add, Nat.add_zero, Nat.le_refl, Nat.zero_le, Nat.reduceAdd, Nat.reduceLeDiff, exists_eq_left', Option.some.injEq, not_true_eq_false, not_false_eq_true, false_implies, true_implies, implies_true, and_self, or_true, true_or, or_false, false_or]
      exact ⟨fun _ => hq, fun a => ⟨fun _ => hq, fun b => ⟨fun _ => hq, fun c => ⟨fun _ => hq, fun d => ⟨fun e => absurd ⟨Decidable.not_not.mp a, b, Int32.not_lt.mp c, d, e⟩ h0, fun _ => hq⟩⟩⟩⟩⟩
  · exact h.elim
def sp_X12_four (G : GT) : Sp := fun as S I J z Q => match as with
  | [.ref M, .int v] => rfS S M ∧ ∃ n, I M 10 = nI n ∧ n + 4 ≤ 900 ∧ Q none S (u2 (fdI I (M + 6) n v) M 10 (nI (n + 4))) J z
  | _ => False
theorem fm_c (F : IH) {T m X c0 : Nat} {b c d : Int32} : u2 (u2 (u2 F X c0 d) T m b) X c0 c = u2 (u2 F T m b) X c0 c := by
  funext q k
  unfold u2
  by_cases h1 : q = X ∧ k = c0
  · rw [if_pos h1, if_pos h1]
  · rw [if_neg h1, if_neg h1, if_neg h1]
set_option maxHeartbeats 4000000 in
set_option maxRecDepth 20000 in
theorem c_X12_four {l : Launch} {G : GT} {D : Nat} : ∀ as S I J z Q, sp_X12_four G as S I J z Q → fqCall l G M_X12_four (D + 0) 0 0 as S I J z Q := by
  intro as S I J z Q h
  unfold sp_X12_four at h
  split at h
  · next M v =>
    obtain ⟨hm, n, hn, hn9, hQ⟩ := h
    have st : ∀ (sh : Int32) (m : Nat) (F : IH) (a : Int32), ¬ sh < 0 → m < 900 → a = nI m → fqAt l G M_X12_four (D + 0) 0 0 Q 3 [some (.ref M), some (.int v), some (.int (sh + -8))] [] S (u2 (u2 F (M + 6) m (v >>> (sh &&& 31)).toInt8.toInt32) M 10 (nI (m + 1))) J z 0 0 → fqAt l G M_X12_four (D + 0) 0 0 Q 3 [some (.ref M), some (.int v), some (.int sh)] [] S (u2 F M 10 a) J z 0 0 := by
      intro sh m F a h1 h2 h3 hq
      subst h3
      have r1 : u2 F M 10 (nI m) M 10 = nI m := u2_eq
      have r2 : u2 (u2 F M 10 (nI m)) (M + 6) m (v >>> (sh &&& 31)).toInt8.toInt32 M 10 = nI m := by rw [u2_ca _ _ _ _ _ _ (by omega)]; exact u2_eq
      rw [← fm_c F (d := nI m)] at hq
      refine b_X12_four_3 _ _ _ _ _ _ _ _ ?_
      simp (disch := omega) only [B_X12_four_0, B_X12_four_3, hm, hm.k, hm.k1, hm.n1, hm.r1, hm.k2, hm.n2, hm.r2, hm.k3, hm.n3, hm.r3, hm.k4, hm.n4, hm.r4, hm.k5, hm.n5, hm.r5, hm.k6, hm.n6, hm.r6, hm.k7, hm.n7, hm.r7, hm.k8, hm.n8, hm.r8, hm.k9, hm.n9, hm.r9, hm.k10, hm.n10, hm.r10, hm.k11, hm.n11, hm.r11, hm.k12, hm.n12, hm.r12, hm.k13, hm.n13, hm.r13, hm.k14, hm.n14, hm.r14, r1, r2, fd_n, nI_1, nI_add, nI_clamp, nI_pin, nI_neg, nI_nonneg, nI_leE, nI_ltE, nI_eqE, Nat.not_le, Nat.not_lt, fq_10, fq_01, fq_rr, ix_aald, ix_aast, ix_abs, ix_alen, ix_aload, ix_aret, ix_astore, ix_bald, ix_bast, ix_call, ix_cpyI, ix_cpyJ, ix_dead, ix_dup2, ix_dup2L, ix_dupI, ix_dupR, ix_dupx1, ix_getI, ix_getJ, ix_getR, ix_gfm, ix_gtab, ix_i2b, ix_i2c, ix_i2l, ix_i2s, ix_iadd, ix_iald, ix_iand, ix_iast, ix_icall, ix_icmp_eq, ix_icmp_ge, ix_icmp_gt, ix_icmp_le, ix_icmp_lt, ix_icmp_ne, ix_idiv, ix_if_eq, ix_if_ge, ix_if_gt, ix_if_le, ix_if_lt, ix_if_ne, ix_iinc, ix_iload, ix_imul, ix_ineg, ix_ior, ix_irem, ix_iret, ix_ishl, ix_ishr, ix_istore, ix_isub, ix_iushr, ix_ixor, ix_l2i, ix_ladd, ix_lald, ix_land, ix_last, ix_lcmp, ix_ldcS, ix_ldiv, ix_lload, ix_lmul, ix_lor, ix_lrem, ix_lret, ix_lshl, ix_lstore, ix_lsub, ix_lsw, ix_max, ix_min, ix_new, ix_newa, ix_nret, ix_oinit, ix_pop2L, ix_popI, ix_pushI, ix_pushL, ix_putI, ix_putJ, ix_putR, ix_putZ, ix_sbald, ix_sgetC, ix_sgetV, ix_slen, ix_strc, ix_tald, ix_tsw, ix_vcall, ix_vret, ix_zret, stL, stL2, kilL, popN, fq_sw, fq_lsw, List.map_cons, List.map_nil, List.getElem?_cons_zero, List.getElem?_cons_succ, Option.toList_some, Option.toList_none, List.cons_append, List.nil_append, List.length_cons, List.length_nil, List.sum_cons, List.sum_nil, cat_i, cat_l, cat_r, true_and, and_true, Nat.zero_add, Nat.add_zero, Nat.le_refl, Nat.zero_le, Nat.reduceAdd, Nat.reduceLeDiff, exists_eq_left', Option.some.injEq, not_true_eq_false, not_false_eq_true, false_implies, true_implies, implies_true, and_self, or_true, true_or, or_false, false_or]
      exact ⟨fun h => absurd h h1, fun _ => hq⟩
    refine fq_enter [some (.ref M), some (.int v), none] (by decide +kernel) (Nat.le_of_ble_eq_true rfl) rfl (b_X12_four_0 _ _ _ _ _ _ _ _ ?_)
    simp (disch := omega) only [B_X12_four_0, B_X12_four_3, hm, hm.k, hm.k1, hm.n1, hm.r1, hm.k2, hm.n2, hm.r2, hm.k3, hm.n3, hm.r3, hm.k4, hm.n4, hm.r4, hm.k5, hm.n5, hm.r5, hm.k6, hm.n6, hm.r6, hm.k7, hm.n7, hm.r7, hm.k8, hm.n8, hm.r8, hm.k9, hm.n9, hm.r9, hm.k10, hm.n10, hm.r10, hm.k11, hm.n11, hm.r11, hm.k12, hm.n12, hm.r12, hm.k13, hm.n13, hm.r13, hm.k14, hm.n14, hm.r14, hn, nI_1, nI_add, nI_clamp, nI_pin, nI_neg, nI_nonneg, nI_leE, nI_ltE, nI_eqE, Nat.not_le, Nat.not_lt, fq_10, fq_01, fq_rr, ix_aald, ix_aast, ix_abs, ix_alen, ix_aload, ix_aret, ix_astore, ix_bald, ix_bast, ix_call, ix_cpyI, ix_cpyJ, ix_dead, ix_dup2, ix_dup2L, ix_dupI, ix_dupR, ix_dupx1, ix_getI, ix_getJ, ix_getR, ix_gfm, ix_gtab, ix_i2b, ix_i2c, ix_i2l, ix_i2s, ix_iadd, ix_iald, ix_iand, ix_iast, ix_icall, ix_icmp_eq, ix_icmp_ge, ix_icmp_gt, ix_icmp_le, ix_icmp_lt, ix_icmp_ne, ix_idiv, ix_if_eq, ix_if_ge, ix_if_gt, ix_if_le, ix_if_lt, ix_if_ne, ix_iinc, ix_iload, ix_imul, ix_ineg, ix_ior, ix_irem, ix_iret, ix_ishl, ix_ishr, ix_istore, ix_isub, ix_iushr, ix_ixor, ix_l2i, ix_ladd, ix_lald, ix_land, ix_last, ix_lcmp, ix_ldcS, ix_ldiv, ix_lload, ix_lmul, ix_lor, ix_lrem, ix_lret, ix_lshl, ix_lstore, ix_lsub, ix_lsw, ix_max, ix_min, ix_new, ix_newa, ix_nret, ix_oinit, ix_pop2L, ix_popI, ix_pushI, ix_pushL, ix_putI, ix_putJ, ix_putR, ix_putZ, ix_sbald, ix_sgetC, ix_sgetV, ix_slen, ix_strc, ix_tald, ix_tsw, ix_vcall, ix_vret, ix_zret, stL, stL2, kilL, popN, fq_sw, fq_lsw, List.map_cons, List.map_nil, List.getElem?_cons_zero, List.getElem?_cons_succ, Option.toList_some, Option.toList_none, List.cons_append, List.nil_append, List.length_cons, List.length_nil, List.sum_cons, List.sum_nil, cat_i, cat_l, cat_r, true_and, and_true, Nat.zero_add, Nat.add_zero, Nat.le_refl, Nat.zero_le, Nat.reduceAdd, Nat.reduceLeDiff, exists_eq_left', Option.some.injEq, not_true_eq_false, not_false_eq_true, false_implies, true_implies, implies_true, and_self, or_true, true_or, or_false, false_or]
    have e0 : u2 I M 10 (nI n) = I := by
      funext q k
      unfold u2
      split
      · next h => rw [h.1, h.2, hn]
      · rfl
    have hz := st 24 n I (nI n) (by decide) (by omega) rfl (st 16 (n + 1) _ _ (by decide) (by omega) rfl (st 8 (n + 2) _ _ (by decide) (by omega) rfl (st 0 (n + 3) _ _ (by decide) (by omega) rfl ?_)))
    · rw [e0] at hz
      exact hz
    · refine b_X12_four_3 _ _ _ _ _ _ _ _ ?_
      simp (disch := omega) only [B_X12_four_0, B_X12_four_3, hm, hm.k, hm.k1, hm.n1, hm.r1, hm.k2, hm.n2, hm.r2, hm.k3, hm.n3, hm.r3, hm.k4, hm.n4, hm.r4, hm.k5, hm.n5, hm.r5, hm.k6, hm.n6, hm.r6, hm.k7, hm.n7, hm.r7, hm.k8, hm.n8, hm.r8, hm.k9, hm.n9, hm.r9, hm.k10, hm.n10, hm.r10, hm.k11, hm.n11, hm.r11, hm.k12, hm.n12, hm.r12, hm.k13, hm.n13, hm.r13, hm.k14, hm.n14, hm.r14, nI_1, nI_add, nI_clamp, nI_pin, nI_neg, nI_nonneg, nI_leE, nI_ltE, nI_eqE, Nat.not_le, Nat.not_lt, fq_10, fq_01, fq_rr, ix_aald, ix_aast, ix_abs, ix_alen, ix_aload, ix_aret, ix_astore, ix_bald, ix_bast, ix_call, ix_cpyI, ix_cpyJ, ix_dead, ix_dup2, ix_dup2L, ix_dupI, ix_dupR, ix_dupx1, ix_getI, ix_getJ, ix_getR, ix_gfm, ix_gtab, ix_i2b, ix_i2c, ix_i2l, ix_i2s, ix_iadd, ix_iald, ix_iand, ix_iast, ix_icall, ix_icmp_eq, ix_icmp_ge, ix_icmp_gt, ix_icmp_le, ix_icmp_lt, ix_icmp_ne, ix_idiv, ix_if_eq, ix_if_ge, ix_if_gt, ix_if_le, ix_if_lt, ix_if_ne, ix_iinc, ix_iload, ix_imul, ix_ineg, ix_ior, ix_irem, ix_iret, ix_ishl, ix_ishr, ix_istore, ix_isub, ix_iushr, ix_ixor, ix_l2i, ix_ladd, ix_lald, ix_land, ix_last, ix_lcmp, ix_ldcS, ix_ldiv, ix_lload, ix_lmul, ix_lor, ix_lrem, ix_lret, ix_lshl, ix_lstore, ix_lsub, ix_lsw, ix_max, ix_min, ix_new, ix_newa, ix_nret, ix_oinit, ix_pop2L, ix_popI, ix_pushI, ix_pushL, ix_putI, ix_putJ, ix_putR, ix_putZ, ix_sbald, ix_sgetC, ix_sgetV, ix_slen, ix_strc, ix_tald, ix_tsw, ix_vcall, ix_vret, ix_zret, stL, stL2, kilL, popN, fq_sw, fq_lsw, List.map_cons, List.map_nil, List.getElem?_cons_zero, List.getElem?_cons_succ, Option.toList_some, Option.toList_none, List.cons_append, List.nil_append, List.length_cons, List.length_nil, List.sum_cons, List.sum_nil, cat_i, cat_l, cat_r, true_and, and_true, Nat.zero_add, Nat.add_zero, Nat.le_refl, Nat.zero_le, Nat.reduceAdd, Nat.reduceLeDiff, exists_eq_left', Option.some.injEq, not_true_eq_false, not_false_eq_true, false_implies, true_implies, implies_true, and_self, or_true, true_or, or_false, false_or]
      exact ⟨fun _ => hQ, fun h => absurd (by decide) h⟩
  · exact h.elim
def sp_X12_tellsBy (G : GT) : Sp := fun as S I J z Q => match as with
  | [.ref M, .long a, .long b] => rfS S M ∧ ∃ n d, a = lN n ∧ b = lN d ∧ n < 2 ^ 49 ∧ d < 2 ^ 49 ∧ 0 < d ∧ Q (some (.int 1)) S (u2 I M 2 0) (u2 (u2 J M 3 (lN n / lN (Nat.gcd n d))) M 4 (lN d / lN (Nat.gcd n d))) z
  | _ => False
set_option maxHeartbeats 4000000 in
set_option maxRecDepth 20000 in
theorem c_X12_tellsBy {l : Launch} {G : GT} {D : Nat} : ∀ as S I J z Q, sp_X12_tellsBy G as S I J z Q → fqCall l G M_X12_tellsBy (D + 1) 0 0 as S I J z Q := by
  intro as S I J z Q h
  unfold sp_X12_tellsBy at h
  split at h
  · next M a b =>
    obtain ⟨hm, n, d, rfl, rfl, hn, hd, hd0, hQ⟩ := h
    have g0 : 0 < Nat.gcd n d := Nat.gcd_pos_of_pos_right n hd0
    have g1 : Nat.gcd n d ≤ d := Nat.gcd_le_right n hd0
    have lp : ∀ (y x : Nat) (o9 : Option Value), x < 2 ^ 49 → y < 2 ^ 49 → Nat.gcd x y = Nat.gcd n d → fqAt l G M_X12_tellsBy (D + 1) 0 0 Q 6 [some (.ref M), some (.long (lN n)), none, some (.long (lN d)), none, some (.long (lN x)), none, some (.long (lN y)), none, o9, none] [] S I J z 0 0 := by
      intro y
      induction y using Nat.strongRecOn with
      | _ y ih =>
        intro x o9 hx hy hg
        by_cases h0 : y = 0
        · subst h0
          rw [Nat.gcd_zero_right] at hg
          subst hg
          have e1 : ¬ lN (Nat.gcd n d) = 0 := fun q => by
            have := (pk_lEQ (a := Nat.gcd n d) (b := 0) (by omega) (by decide)).mp q
            omega
          have e0 : lN 0 = 0 := rfl
          refine b_X12_tellsBy_6 _ _ _ _ _ _ _ _ ?_
          simp (disch := omega) only [B_X12_tellsBy_0, B_X12_tellsBy_6, sp_X12_is, B_X12_is_0, B_X12_is_14, hm, hm.k, hm.k1, hm.n1, hm.r1, hm.k2, hm.n2, hm.r2, hm.k3, hm.n3, hm.r3, hm.k4, hm.n4, hm.r4, hm.k5, hm.n5, hm.r5, hm.k6, hm.n6, hm.r6, hm.k7, hm.n7, hm.r7, hm.k8, hm.n8, hm.r8, hm.k9, hm.n9, hm.r9, hm.k10, hm.n10, hm.r10, hm.k11, hm.n11, hm.r11, hm.k12, hm.n12, hm.r12, hm.k13, hm.n13, hm.r13, hm.k14, hm.n14, hm.r14, lg_cmp_eq, e0, e1, nI_1, nI_add, nI_clamp, nI_pin, nI_neg, nI_nonneg, nI_leE, nI_ltE, nI_eqE, Nat.not_le, Nat.not_lt, fq_10, fq_01, fq_rr, ix_aald, ix_aast, ix_abs, ix_alen, ix_aload, ix_aret, ix_astore, ix_bald, ix_bast, ix_call, ix_cpyI, ix_cpyJ, ix_dead, ix_dup2, ix_dup2L, ix_dupI, ix_dupR, ix_dupx1, ix_getI, ix_getJ, ix_getR, ix_gfm, ix_gtab, ix_i2b, ix_i2c, ix_i2l, ix_i2s, ix_iadd, ix_iald, ix_iand, ix_iast, ix_icall, ix_icmp_eq, ix_icmp_ge, ix_icmp_gt, ix_icmp_le, ix_icmp_lt, ix_icmp_ne, ix_idiv, ix_if_eq, ix_if_ge, ix_if_gt, ix_if_le, ix_if_lt, ix_if_ne, ix_iinc, ix_iload, ix_imul, ix_ineg, ix_ior, ix_irem, ix_iret, ix_ishl, ix_ishr, ix_istore, ix_isub, ix_iushr, ix_ixor, ix_l2i, ix_ladd, ix_lald, ix_land, ix_last, ix_lcmp, ix_ldcS, ix_ldiv, ix_lload, ix_lmul, ix_lor, ix_lrem, ix_lret, ix_lshl, ix_lstore, ix_lsub, ix_lsw, ix_max, ix_min, ix_new, ix_newa, ix_nret, ix_oinit, ix_pop2L, ix_popI, ix_pushI, ix_pushL, ix_putI, ix_putJ, ix_putR, ix_putZ, ix_sbald, ix_sgetC, ix_sgetV, ix_slen, ix_strc, ix_tald, ix_tsw, ix_vcall, ix_vret, ix_zret, stL, stL2, kilL, popN, fq_sw, fq_lsw, List.map_cons, List.map_nil, List.getElem?_cons_zero, List.getElem?_cons_succ, Option.toList_some, Option.toList_none, List.cons_append, List.nil_append, List.length_cons, List.length_nil, List.sum_cons, List.sum_nil, cat_i, cat_l, cat_r, true_and, and_true, Nat.zero_add, Nat.add_zero, Nat.le_refl, Nat.zero_le, Nat.reduceAdd, Nat.reduceLeDiff, exists_eq_left', Option.some.injEq, not_true_eq_false, not_false_eq_true, false_implies, true_implies, implies_true, and_self, or_true, true_or, or_false, false_or]
          exact hQ
        · have e1 : ¬ lN y = 0 := fun q => by
            have := (pk_lEQ (a := y) (b := 0) (by omega) (by decide)).mp q
            omega
          have e2 : lN x - lN x / lN y * lN y = lN (x % y) := pk_lRem (by omega) (by omega) (by omega)
          have hz := ih (x % y) (Nat.mod_lt _ (by omega)) y (some (.long (lN (x % y)))) hy (by have := Nat.mod_lt x (show 0 < y by omega); omega) (by rw [Nat.gcd_comm, ← Nat.gcd_rec, Nat.gcd_comm]; exact hg)
          refine b_X12_tellsBy_6 _ _ _ _ _ _ _ _ ?_
          simp (disch := omega) only [B_X12_tellsBy_0, B_X12_tellsBy_6, sp_X12_is, B_X12_is_0, B_X12_is_14, hm, hm.k, hm.k1, hm.n1, hm.r1, hm.k2, hm.n2, hm.r2, hm.k3, hm.n3, hm.r3, hm.k4, hm.n4, hm.r4, hm.k5, hm.n5, hm.r5, hm.k6, hm.n6, hm.r6, hm.k7, hm.n7, hm.r7, hm.k8, hm.n8, hm.r8, hm.k9, hm.n9, hm.r9, hm.k10, hm.n10, hm.r10, hm.k11, hm.n11, hm.r11, hm.k12, hm.n12, hm.r12, hm.k13, hm.n13, hm.r13, hm.k14, hm.n14, hm.r14, lg_cmp_eq, e1, e2, nI_1, nI_add, nI_clamp, nI_pin, nI_neg, nI_nonneg, nI_leE, nI_ltE, nI_eqE, Nat.not_le, Nat.not_lt, fq_10, fq_01, fq_rr, ix_aald, ix_aast, ix_abs, ix_alen, ix_aload, ix_aret, ix_astore, ix_bald, ix_bast, ix_call, ix_cpyI, ix_cpyJ, ix_dead, ix_dup2, ix_dup2L, ix_dupI, ix_dupR, ix_dupx1, ix_getI, ix_getJ, ix_getR, ix_gfm, ix_gtab, ix_i2b, ix_i2c, ix_i2l, ix_i2s, ix_iadd, ix_iald, ix_iand, ix_iast, ix_icall, ix_icmp_eq, ix_icmp_ge, ix_icmp_gt, ix_icmp_le, ix_icmp_lt, ix_icmp_ne, ix_idiv, ix_if_eq, ix_if_ge, ix_if_gt, ix_if_le, ix_if_lt, ix_if_ne, ix_iinc, ix_iload, ix_imul, ix_ineg, ix_ior, ix_irem, ix_iret, ix_ishl, ix_ishr, ix_istore, ix_isub, ix_iushr, ix_ixor, ix_l2i, ix_ladd, ix_lald, ix_land, ix_last, ix_lcmp, ix_ldcS, ix_ldiv, ix_lload, ix_lmul, ix_lor, ix_lrem, ix_lret, ix_lshl, ix_lstore, ix_lsub, ix_lsw, ix_max, ix_min, ix_new, ix_newa, ix_nret, ix_oinit, ix_pop2L, ix_popI, ix_pushI, ix_pushL, ix_putI, ix_putJ, ix_putR, ix_putZ, ix_sbald, ix_sgetC, ix_sgetV, ix_slen, ix_strc, ix_tald, ix_tsw, ix_vcall, ix_vret, ix_zret, stL, stL2, kilL, popN, fq_sw, fq_lsw, List.map_cons, List.map_nil, List.getElem?_cons_zero, List.getElem?_cons_succ, Option.toList_some, Option.toList_none, List.cons_append, List.nil_append, List.length_cons, List.length_nil, List.sum_cons, List.sum_nil, cat_i, cat_l, cat_r, true_and, and_true, Nat.zero_add, Nat.add_zero, Nat.le_refl, Nat.zero_le, Nat.reduceAdd, Nat.reduceLeDiff, exists_eq_left', Option.some.injEq, not_true_eq_false, not_false_eq_true, false_implies, true_implies, implies_true, and_self, or_true, true_or, or_false, false_or]
          exact hz
    refine fq_enter [some (.ref M), some (.long (lN n)), none, some (.long (lN d)), none, none, none, none, none, none, none] (by decide +kernel) (Nat.le_of_ble_eq_true rfl) rfl (b_X12_tellsBy_0 _ _ _ _ _ _ _ _ ?_)
    simp (disch := omega) only [B_X12_tellsBy_0, B_X12_tellsBy_6, sp_X12_is, B_X12_is_0, B_X12_is_14, hm, hm.k, hm.k1, hm.n1, hm.r1, hm.k2, hm.n2, hm.r2, hm.k3, hm.n3, hm.r3, hm.k4, hm.n4, hm.r4, hm.k5, hm.n5, hm.r5, hm.k6, hm.n6, hm.r6, hm.k7, hm.n7, hm.r7, hm.k8, hm.n8, hm.r8, hm.k9, hm.n9, hm.r9, hm.k10, hm.n10, hm.r10, hm.k11, hm.n11, hm.r11, hm.k12, hm.n12, hm.r12, hm.k13, hm.n13, hm.r13, hm.k14, hm.n14, hm.r14, nI_1, nI_add, nI_clamp, nI_pin, nI_neg, nI_nonneg, nI_leE, nI_ltE, nI_eqE, Nat.not_le, Nat.not_lt, fq_10, fq_01, fq_rr, ix_aald, ix_aast, ix_abs, ix_alen, ix_aload, ix_aret, ix_astore, ix_bald, ix_bast, ix_call, ix_cpyI, ix_cpyJ, ix_dead, ix_dup2, ix_dup2L, ix_dupI, ix_dupR, ix_dupx1, ix_getI, ix_getJ, ix_getR, ix_gfm, ix_gtab, ix_i2b, ix_i2c, ix_i2l, ix_i2s, ix_iadd, ix_iald, ix_iand, ix_iast, ix_icall, ix_icmp_eq, ix_icmp_ge, ix_icmp_gt, ix_icmp_le, ix_icmp_lt, ix_icmp_ne, ix_idiv, ix_if_eq, ix_if_ge, ix_if_gt, ix_if_le, ix_if_lt, ix_if_ne, ix_iinc, ix_iload, ix_imul, ix_ineg, ix_ior, ix_irem, ix_iret, ix_ishl, ix_ishr, ix_istore, ix_isub, ix_iushr, ix_ixor, ix_l2i, ix_ladd, ix_lald, ix_land, ix_last, ix_lcmp, ix_ldcS, ix_ldiv, ix_lload, ix_lmul, ix_lor, ix_lrem, ix_lret, ix_lshl, ix_lstore, ix_lsub, ix_lsw, ix_max, ix_min, ix_new, ix_newa, ix_nret, ix_oinit, ix_pop2L, ix_popI, ix_pushI, ix_pushL, ix_putI, ix_putJ, ix_putR, ix_putZ, ix_sbald, ix_sgetC, ix_sgetV, ix_slen, ix_strc, ix_tald, ix_tsw, ix_vcall, ix_vret, ix_zret, stL, stL2, kilL, popN, fq_sw, fq_lsw, List.map_cons, List.map_nil, List.getElem?_cons_zero, List.getElem?_cons_succ, Option.toList_some, Option.toList_none, List.cons_append, List.nil_append, List.length_cons, List.length_nil, List.sum_cons, List.sum_nil, cat_i, cat_l, cat_r, true_and, and_true, Nat.zero_add, Nat.add_zero, Nat.le_refl, Nat.zero_le, Nat.reduceAdd, Nat.reduceLeDiff, exists_eq_left', Option.some.injEq, not_true_eq_false, not_false_eq_true, false_implies, true_implies, implies_true, and_self, or_true, true_or, or_false, false_or]
    exact lp d n _ hn hd rfl
  · exact h.elim
theorem dX12_write_0 : decode cX12_write 0 = .ok (.aload_n 0, 1) := by decide +kernel
theorem dX12_write_1 : decode cX12_write 1 = .ok (.iload_n 1, 1) := by decide +kernel
theorem dX12_write_2 : decode cX12_write 2 = .ok (.iload_n 2, 1) := by decide +kernel
theorem dX12_write_3 : decode cX12_write 3 = .ok (.invokevirtual 89, 3) := by decide +kernel
theorem dX12_write_6 : decode cX12_write 6 = .ok (.istore 5, 2) := by decide +kernel
theorem dX12_write_8 : decode cX12_write 8 = .ok (.iload 5, 2) := by decide +kernel
theorem dX12_write_10 : decode cX12_write 10 = .ok (.ifCond .ne 24, 3) := by decide +kernel
theorem dX12_write_13 : decode cX12_write 13 = .ok (.aload_n 0, 1) := by decide +kernel
theorem dX12_write_14 : decode cX12_write 14 = .ok (.getfield 27, 3) := by decide +kernel
theorem dX12_write_17 : decode cX12_write 17 = .ok (.bipush 60, 2) := by decide +kernel
theorem dX12_write_19 : decode cX12_write 19 = .ok (.iload_n 1, 1) := by decide +kernel
theorem dX12_write_20 : decode cX12_write 20 = .ok (.imul, 1) := by decide +kernel
theorem dX12_write_21 : decode cX12_write 21 = .ok (.iload_n 2, 1) := by decide +kernel
theorem dX12_write_22 : decode cX12_write 22 = .ok (.iadd, 1) := by decide +kernel
theorem dX12_write_23 : decode cX12_write 23 = .ok (.lload_n 3, 1) := by decide +kernel
theorem dX12_write_24 : decode cX12_write 24 = .ok (.aload_n 0, 1) := by decide +kernel
theorem dX12_write_25 : decode cX12_write 25 = .ok (.getfield 21, 3) := by decide +kernel
theorem dX12_write_28 : decode cX12_write 28 = .ok (.iload_n 1, 1) := by decide +kernel
theorem dX12_write_29 : decode cX12_write 29 = .ok (.iaload, 1) := by decide +kernel
theorem dX12_write_30 : decode cX12_write 30 = .ok (.invokestatic 93, 3) := by decide +kernel
theorem dX12_write_33 : decode cX12_write 33 = .ok (.lastore, 1) := by decide +kernel
theorem dX12_write_34 : decode cX12_write 34 = .ok (.aload_n 0, 1) := by decide +kernel
theorem dX12_write_35 : decode cX12_write 35 = .ok (.iload 5, 2) := by decide +kernel
theorem dX12_write_37 : decode cX12_write 37 = .ok (.invokevirtual 82, 3) := by decide +kernel
theorem dX12_write_40 : decode cX12_write 40 = .ok (.ireturn, 1) := by decide +kernel
abbrev M_X12_write : MT := (yX12_write, cX12_write, 6, (some .boolean))
theorem cf_X12_write : fq_cf M_X12_write 3 := ⟨(mg_1 (List.mem_of_getElem? (i := 15) rfl) rfl), (mg_7 (List.mem_of_getElem? (i := 75) rfl) rfl), ⟨by decide, by decide, by decide +kernel⟩, by decide⟩
def B_X12_write_34 (G : GT) (mc ms : Nat) (Q : Post) : Cn := ix_aload 0 (ix_iload 5 (ix_vcall 12 2 0 0 mc ms (sp_X12_is G) (ix_zret mc ms Q)))
theorem b_X12_write_34 {l : Launch} {G : GT} {D mc ms : Nat} {Q : Post} : Imp l G M_X12_write (D + 2) mc ms Q (B_X12_write_34 G mc ms Q) 34 := sx_aload_n dX12_write_34 rfl (sx_iload dX12_write_35 (sx_vcall dX12_write_37 cf_X12_is (mg_7 (List.mem_of_getElem? (i := 68) rfl) rfl) (mg_7 (List.mem_of_getElem? (i := 70) rfl) rfl) (mg_p (List.mem_of_getElem? (i := 48) rfl) rfl) rfl c_X12_is (sx_zret dX12_write_40 rfl)))
def B_X12_write_0 (G : GT) (mc ms : Nat) (Q : Post) : Cn := ix_aload 0 (ix_iload 1 (ix_iload 2 (ix_vcall 12 3 0 0 mc ms (sp_X12_wrongPlace G) (ix_istore 5 (ix_iload 5 (ix_if_ne ((B_X12_write_34 G mc ms Q)) (ix_aload 0 (ix_getR 12 7 (ix_pushI 60 (ix_iload 1 (ix_imul (ix_iload 2 (ix_iadd (ix_lload 3 (ix_aload 0 (ix_getR 12 5 (ix_iload 1 (ix_iald (ix_call 2 0 0 mc ms (sp_X12_cut G) (ix_last ((B_X12_write_34 G mc ms Q))))))))))))))))))))))
theorem b_X12_write_0 {l : Launch} {G : GT} {D mc ms : Nat} {Q : Post} : Imp l G M_X12_write (D + 2) mc ms Q (B_X12_write_0 G mc ms Q) 0 := sx_aload_n dX12_write_0 rfl (sx_iload_n dX12_write_1 rfl (sx_iload_n dX12_write_2 rfl (sx_vcall dX12_write_3 cf_X12_wrongPlace (mg_7 (List.mem_of_getElem? (i := 76) rfl) rfl) (mg_7 (List.mem_of_getElem? (i := 78) rfl) rfl) (mg_p (List.mem_of_getElem? (i := 49) rfl) rfl) rfl c_X12_wrongPlace (sx_istore dX12_write_6 (by decide) (sx_iload dX12_write_8 (sx_if_ne 34 dX12_write_10 (by decide) (b_X12_write_34) (sx_aload_n dX12_write_13 rfl (sx_getR dX12_write_14 fl_FootQuarrelModel_27 (fun _ _ _ => rfl) (sx_bipush dX12_write_17 rfl (sx_iload_n dX12_write_19 rfl (sx_imul dX12_write_20 (sx_iload_n dX12_write_21 rfl (sx_iadd dX12_write_22 (sx_lload_n dX12_write_23 rfl (sx_aload_n dX12_write_24 rfl (sx_getR dX12_write_25 fl_FootQuarrelModel_21 (fun _ _ _ => rfl) (sx_iload_n dX12_write_28 rfl (sx_iald dX12_write_29 (sx_scall dX12_write_30 cf_X12_cut (mg_7 (List.mem_of_getElem? (i := 80) rfl) rfl) (mg_7 (List.mem_of_getElem? (i := 81) rfl) rfl) c_X12_cut (sx_last dX12_write_33 (b_X12_write_34)))))))))))))))))))))
def sp_X12_write (G : GT) : Sp := fun as S I J z Q => match as with
  | [.ref a0, .int a1, .int a2, .long a3] => B_X12_write_0 G 0 0 Q [some (.ref a0), some (.int a1), some (.int a2), some (.long a3), none, none] [] S I J z 0 0
  | _ => False
theorem c_X12_write {l : Launch} {G : GT} {D : Nat} : ∀ as S I J z Q, sp_X12_write G as S I J z Q → fqCall l G M_X12_write (D + 2) 0 0 as S I J z Q := by
  intro as S I J z Q h
  unfold sp_X12_write at h
  split at h
  · exact fq_enter _ (by decide +kernel) (Nat.le_of_ble_eq_true rfl) rfl (b_X12_write_0 _ _ _ _ _ _ _ _ h)
  · exact h.elim
theorem dX12_read_0 : decode cX12_read 0 = .ok (.aload_n 0, 1) := by decide +kernel
theorem dX12_read_1 : decode cX12_read 1 = .ok (.aload_n 0, 1) := by decide +kernel
theorem dX12_read_2 : decode cX12_read 2 = .ok (.iload_n 1, 1) := by decide +kernel
theorem dX12_read_3 : decode cX12_read 3 = .ok (.iload_n 2, 1) := by decide +kernel
theorem dX12_read_4 : decode cX12_read 4 = .ok (.invokevirtual 89, 3) := by decide +kernel
theorem dX12_read_7 : decode cX12_read 7 = .ok (.putfield 69, 3) := by decide +kernel
theorem dX12_read_10 : decode cX12_read 10 = .ok (.aload_n 0, 1) := by decide +kernel
theorem dX12_read_11 : decode cX12_read 11 = .ok (.getfield 69, 3) := by decide +kernel
theorem dX12_read_14 : decode cX12_read 14 = .ok (.ifCond .le 9, 3) := by decide +kernel
theorem dX12_read_17 : decode cX12_read 17 = .ok (.ldc2_w 97, 3) := by decide +kernel
theorem dX12_read_20 : decode cX12_read 20 = .ok (.goto 14, 3) := by decide +kernel
theorem dX12_read_23 : decode cX12_read 23 = .ok (.aload_n 0, 1) := by decide +kernel
theorem dX12_read_24 : decode cX12_read 24 = .ok (.getfield 27, 3) := by decide +kernel
theorem dX12_read_27 : decode cX12_read 27 = .ok (.bipush 60, 2) := by decide +kernel
theorem dX12_read_29 : decode cX12_read 29 = .ok (.iload_n 1, 1) := by decide +kernel
theorem dX12_read_30 : decode cX12_read 30 = .ok (.imul, 1) := by decide +kernel
theorem dX12_read_31 : decode cX12_read 31 = .ok (.iload_n 2, 1) := by decide +kernel
theorem dX12_read_32 : decode cX12_read 32 = .ok (.iadd, 1) := by decide +kernel
theorem dX12_read_33 : decode cX12_read 33 = .ok (.laload, 1) := by decide +kernel
theorem dX12_read_34 : decode cX12_read 34 = .ok (.lreturn, 1) := by decide +kernel
abbrev M_X12_read : MT := (yX12_read, cX12_read, 3, (some .long))
theorem cf_X12_read : fq_cf M_X12_read 2 := ⟨(mg_1 (List.mem_of_getElem? (i := 15) rfl) rfl), (mg_7 (List.mem_of_getElem? (i := 86) rfl) rfl), ⟨by decide, by decide, by decide +kernel⟩, by decide⟩
def B_X12_read_34 (G : GT) (mc ms : Nat) (Q : Post) : Cn := ix_lret mc ms Q
theorem b_X12_read_34 {l : Launch} {G : GT} {D mc ms : Nat} {Q : Post} : Imp l G M_X12_read (D + 2) mc ms Q (B_X12_read_34 G mc ms Q) 34 := sx_lret dX12_read_34 rfl
def B_X12_read_0 (G : GT) (mc ms : Nat) (Q : Post) : Cn := ix_aload 0 (ix_aload 0 (ix_iload 1 (ix_iload 2 (ix_vcall 12 3 0 0 mc ms (sp_X12_wrongPlace G) (ix_putI 12 2 (ix_aload 0 (ix_getI 12 2 (ix_if_le (ix_aload 0 (ix_getR 12 7 (ix_pushI 60 (ix_iload 1 (ix_imul (ix_iload 2 (ix_iadd (ix_lald ((B_X12_read_34 G mc ms Q)))))))))) (ix_pushL (-1) ((B_X12_read_34 G mc ms Q)))))))))))
theorem b_X12_read_0 {l : Launch} {G : GT} {D mc ms : Nat} {Q : Post} : Imp l G M_X12_read (D + 2) mc ms Q (B_X12_read_0 G mc ms Q) 0 := sx_aload_n dX12_read_0 rfl (sx_aload_n dX12_read_1 rfl (sx_iload_n dX12_read_2 rfl (sx_iload_n dX12_read_3 rfl (sx_vcall dX12_read_4 cf_X12_wrongPlace (mg_7 (List.mem_of_getElem? (i := 76) rfl) rfl) (mg_7 (List.mem_of_getElem? (i := 78) rfl) rfl) (mg_p (List.mem_of_getElem? (i := 49) rfl) rfl) rfl c_X12_wrongPlace (sx_putI dX12_read_7 fl_FootQuarrelModel_69 (by decide) (fun _ _ _ => rfl) (fun _ => ⟨rfl, rfl⟩) (sx_aload_n dX12_read_10 rfl (sx_getI dX12_read_11 fl_FootQuarrelModel_69 (fun _ _ _ => rfl) (sx_if_le 23 dX12_read_14 (by decide) (sx_aload_n dX12_read_23 rfl (sx_getR dX12_read_24 fl_FootQuarrelModel_27 (fun _ _ _ => rfl) (sx_bipush dX12_read_27 rfl (sx_iload_n dX12_read_29 rfl (sx_imul dX12_read_30 (sx_iload_n dX12_read_31 rfl (sx_iadd dX12_read_32 (sx_lald dX12_read_33 (b_X12_read_34))))))))) (sx_ldc2 dX12_read_17 (mg_7 (List.mem_of_getElem? (i := 87) rfl) rfl) (sx_goto 34 dX12_read_20 (by decide) (b_X12_read_34)))))))))))
def sp_X12_read (G : GT) : Sp := fun as S I J z Q => match as with
  | [.ref a0, .int a1, .int a2] => B_X12_read_0 G 0 0 Q [some (.ref a0), some (.int a1), some (.int a2)] [] S I J z 0 0
  | _ => False
theorem c_X12_read {l : Launch} {G : GT} {D : Nat} : ∀ as S I J z Q, sp_X12_read G as S I J z Q → fqCall l G M_X12_read (D + 2) 0 0 as S I J z Q := by
  intro as S I J z Q h
  unfold sp_X12_read at h
  split at h
  · exact fq_enter _ (by decide +kernel) (Nat.le_of_ble_eq_true rfl) rfl (b_X12_read_0 _ _ _ _ _ _ _ _ h)
  · exact h.elim
theorem dX12_feed_0 : decode cX12_feed 0 = .ok (.aload_n 0, 1) := by decide +kernel
theorem dX12_feed_1 : decode cX12_feed 1 = .ok (.getfield 99, 3) := by decide +kernel
theorem dX12_feed_4 : decode cX12_feed 4 = .ok (.bipush 20, 2) := by decide +kernel
theorem dX12_feed_6 : decode cX12_feed 6 = .ok (.iadd, 1) := by decide +kernel
theorem dX12_feed_7 : decode cX12_feed 7 = .ok (.sipush 900, 3) := by decide +kernel
theorem dX12_feed_10 : decode cX12_feed 10 = .ok (.if_icmp .le 5, 3) := by decide +kernel
theorem dX12_feed_13 : decode cX12_feed 13 = .ok (.iconst (-1), 1) := by decide +kernel
theorem dX12_feed_14 : decode cX12_feed 14 = .ok (.ireturn, 1) := by decide +kernel
theorem dX12_feed_15 : decode cX12_feed 15 = .ok (.aload_n 0, 1) := by decide +kernel
theorem dX12_feed_16 : decode cX12_feed 16 = .ok (.iload_n 1, 1) := by decide +kernel
theorem dX12_feed_17 : decode cX12_feed 17 = .ok (.invokevirtual 102, 3) := by decide +kernel
theorem dX12_feed_20 : decode cX12_feed 20 = .ok (.aload_n 0, 1) := by decide +kernel
theorem dX12_feed_21 : decode cX12_feed 21 = .ok (.iload_n 2, 1) := by decide +kernel
theorem dX12_feed_22 : decode cX12_feed 22 = .ok (.invokevirtual 102, 3) := by decide +kernel
theorem dX12_feed_25 : decode cX12_feed 25 = .ok (.aload_n 0, 1) := by decide +kernel
theorem dX12_feed_26 : decode cX12_feed 26 = .ok (.iload_n 3, 1) := by decide +kernel
theorem dX12_feed_27 : decode cX12_feed 27 = .ok (.invokevirtual 102, 3) := by decide +kernel
theorem dX12_feed_30 : decode cX12_feed 30 = .ok (.aload_n 0, 1) := by decide +kernel
theorem dX12_feed_31 : decode cX12_feed 31 = .ok (.iload 4, 2) := by decide +kernel
theorem dX12_feed_33 : decode cX12_feed 33 = .ok (.invokevirtual 102, 3) := by decide +kernel
theorem dX12_feed_36 : decode cX12_feed 36 = .ok (.aload_n 0, 1) := by decide +kernel
theorem dX12_feed_37 : decode cX12_feed 37 = .ok (.iload 5, 2) := by decide +kernel
theorem dX12_feed_39 : decode cX12_feed 39 = .ok (.invokevirtual 102, 3) := by decide +kernel
theorem dX12_feed_42 : decode cX12_feed 42 = .ok (.aload_n 0, 1) := by decide +kernel
theorem dX12_feed_43 : decode cX12_feed 43 = .ok (.getfield 99, 3) := by decide +kernel
theorem dX12_feed_46 : decode cX12_feed 46 = .ok (.ireturn, 1) := by decide +kernel
abbrev M_X12_feed : MT := (yX12_feed, cX12_feed, 6, (some .int))
theorem cf_X12_feed : fq_cf M_X12_feed 5 := ⟨(mg_1 (List.mem_of_getElem? (i := 15) rfl) rfl), (mg_7 (List.mem_of_getElem? (i := 95) rfl) rfl), ⟨by decide, by decide, by decide +kernel⟩, by decide⟩
def B_X12_feed_0 (G : GT) (mc ms : Nat) (Q : Post) : Cn := ix_aload 0 (ix_getI 12 10 (ix_pushI 20 (ix_iadd (ix_pushI 900 (ix_icmp_le (ix_aload 0 (ix_iload 1 (ix_vcall 12 2 0 0 mc ms (sp_X12_four G) (ix_aload 0 (ix_iload 2 (ix_vcall 12 2 0 0 mc ms (sp_X12_four G) (ix_aload 0 (ix_iload 3 (ix_vcall 12 2 0 0 mc ms (sp_X12_four G) (ix_aload 0 (ix_iload 4 (ix_vcall 12 2 0 0 mc ms (sp_X12_four G) (ix_aload 0 (ix_iload 5 (ix_vcall 12 2 0 0 mc ms (sp_X12_four G) (ix_aload 0 (ix_getI 12 10 (ix_iret mc ms Q)))))))))))))))))) (ix_pushI (-1) (ix_iret mc ms Q)))))))
theorem b_X12_feed_0 {l : Launch} {G : GT} {D mc ms : Nat} {Q : Post} : Imp l G M_X12_feed (D + 1) mc ms Q (B_X12_feed_0 G mc ms Q) 0 := sx_aload_n dX12_feed_0 rfl (sx_getI dX12_feed_1 fl_FootQuarrelModel_99 (fun _ _ _ => rfl) (sx_bipush dX12_feed_4 rfl (sx_iadd dX12_feed_6 (sx_sipush dX12_feed_7 rfl (sx_icmp_le 15 dX12_feed_10 (by decide) (sx_aload_n dX12_feed_15 rfl (sx_iload_n dX12_feed_16 rfl (sx_vcall dX12_feed_17 cf_X12_four (mg_7 (List.mem_of_getElem? (i := 96) rfl) rfl) (mg_7 (List.mem_of_getElem? (i := 98) rfl) rfl) (mg_p (List.mem_of_getElem? (i := 50) rfl) rfl) rfl c_X12_four (sx_aload_n dX12_feed_20 rfl (sx_iload_n dX12_feed_21 rfl (sx_vcall dX12_feed_22 cf_X12_four (mg_7 (List.mem_of_getElem? (i := 96) rfl) rfl) (mg_7 (List.mem_of_getElem? (i := 98) rfl) rfl) (mg_p (List.mem_of_getElem? (i := 50) rfl) rfl) rfl c_X12_four (sx_aload_n dX12_feed_25 rfl (sx_iload_n dX12_feed_26 rfl (sx_vcall dX12_feed_27 cf_X12_four (mg_7 (List.mem_of_getElem? (i := 96) rfl) rfl) (mg_7 (List.mem_of_getElem? (i := 98) rfl) rfl) (mg_p (List.mem_of_getElem? (i := 50) rfl) rfl) rfl c_X12_four (sx_aload_n dX12_feed_30 rfl (sx_iload dX12_feed_31 (sx_vcall dX12_feed_33 cf_X12_four (mg_7 (List.mem_of_getElem? (i := 96) rfl) rfl) (mg_7 (List.mem_of_getElem? (i := 98) rfl) rfl) (mg_p (List.mem_of_getElem? (i := 50) rfl) rfl) rfl c_X12_four (sx_aload_n dX12_feed_36 rfl (sx_iload dX12_feed_37 (sx_vcall dX12_feed_39 cf_X12_four (mg_7 (List.mem_of_getElem? (i := 96) rfl) rfl) (mg_7 (List.mem_of_getElem? (i := 98) rfl) rfl) (mg_p (List.mem_of_getElem? (i := 50) rfl) rfl) rfl c_X12_four (sx_aload_n dX12_feed_42 rfl (sx_getI dX12_feed_43 fl_FootQuarrelModel_99 (fun _ _ _ => rfl) (sx_iret dX12_feed_46 rfl)))))))))))))))))) (sx_iconst dX12_feed_13 rfl (sx_iret dX12_feed_14 rfl)))))))
def sp_X12_feed (G : GT) : Sp := fun as S I J z Q => match as with
  | [.ref a0, .int a1, .int a2, .int a3, .int a4, .int a5] => B_X12_feed_0 G 0 0 Q [some (.ref a0), some (.int a1), some (.int a2), some (.int a3), some (.int a4), some (.int a5)] [] S I J z 0 0
  | _ => False
theorem c_X12_feed {l : Launch} {G : GT} {D : Nat} : ∀ as S I J z Q, sp_X12_feed G as S I J z Q → fqCall l G M_X12_feed (D + 1) 0 0 as S I J z Q := by
  intro as S I J z Q h
  unfold sp_X12_feed at h
  split at h
  · exact fq_enter _ (by decide +kernel) (Nat.le_of_ble_eq_true rfl) rfl (b_X12_feed_0 _ _ _ _ _ _ _ _ h)
  · exact h.elim
theorem dX12_pour_0 : decode cX12_pour 0 = .ok (.iload_n 1, 1) := by decide +kernel
theorem dX12_pour_1 : decode cX12_pour 1 = .ok (.invokestatic 86, 3) := by decide +kernel
theorem dX12_pour_4 : decode cX12_pour 4 = .ok (.ifCond .eq 24, 3) := by decide +kernel
theorem dX12_pour_7 : decode cX12_pour 7 = .ok (.iload_n 3, 1) := by decide +kernel
theorem dX12_pour_8 : decode cX12_pour 8 = .ok (.invokestatic 86, 3) := by decide +kernel
theorem dX12_pour_11 : decode cX12_pour 11 = .ok (.ifCond .eq 17, 3) := by decide +kernel
theorem dX12_pour_14 : decode cX12_pour 14 = .ok (.iload_n 2, 1) := by decide +kernel
theorem dX12_pour_15 : decode cX12_pour 15 = .ok (.ifCond .lt 13, 3) := by decide +kernel
theorem dX12_pour_18 : decode cX12_pour 18 = .ok (.iload 4, 2) := by decide +kernel
theorem dX12_pour_20 : decode cX12_pour 20 = .ok (.ifCond .lt 8, 3) := by decide +kernel
theorem dX12_pour_23 : decode cX12_pour 23 = .ok (.iload 5, 2) := by decide +kernel
theorem dX12_pour_25 : decode cX12_pour 25 = .ok (.ifCond .ge 9, 3) := by decide +kernel
theorem dX12_pour_28 : decode cX12_pour 28 = .ok (.aload_n 0, 1) := by decide +kernel
theorem dX12_pour_29 : decode cX12_pour 29 = .ok (.iconst 1, 1) := by decide +kernel
theorem dX12_pour_30 : decode cX12_pour 30 = .ok (.invokevirtual 82, 3) := by decide +kernel
theorem dX12_pour_33 : decode cX12_pour 33 = .ok (.ireturn, 1) := by decide +kernel
theorem dX12_pour_34 : decode cX12_pour 34 = .ok (.aload_n 0, 1) := by decide +kernel
theorem dX12_pour_35 : decode cX12_pour 35 = .ok (.getfield 24, 3) := by decide +kernel
theorem dX12_pour_38 : decode cX12_pour 38 = .ok (.iload_n 1, 1) := by decide +kernel
theorem dX12_pour_39 : decode cX12_pour 39 = .ok (.iaload, 1) := by decide +kernel
theorem dX12_pour_40 : decode cX12_pour 40 = .ok (.iconst (-1), 1) := by decide +kernel
theorem dX12_pour_41 : decode cX12_pour 41 = .ok (.if_icmp .eq 13, 3) := by decide +kernel
theorem dX12_pour_44 : decode cX12_pour 44 = .ok (.aload_n 0, 1) := by decide +kernel
theorem dX12_pour_45 : decode cX12_pour 45 = .ok (.getfield 24, 3) := by decide +kernel
theorem dX12_pour_48 : decode cX12_pour 48 = .ok (.iload_n 3, 1) := by decide +kernel
theorem dX12_pour_49 : decode cX12_pour 49 = .ok (.iaload, 1) := by decide +kernel
theorem dX12_pour_50 : decode cX12_pour 50 = .ok (.iconst (-1), 1) := by decide +kernel
theorem dX12_pour_51 : decode cX12_pour 51 = .ok (.if_icmp .ne 9, 3) := by decide +kernel
theorem dX12_pour_54 : decode cX12_pour 54 = .ok (.aload_n 0, 1) := by decide +kernel
theorem dX12_pour_55 : decode cX12_pour 55 = .ok (.iconst 2, 1) := by decide +kernel
theorem dX12_pour_56 : decode cX12_pour 56 = .ok (.invokevirtual 82, 3) := by decide +kernel
theorem dX12_pour_59 : decode cX12_pour 59 = .ok (.ireturn, 1) := by decide +kernel
theorem dX12_pour_60 : decode cX12_pour 60 = .ok (.aload_n 0, 1) := by decide +kernel
theorem dX12_pour_61 : decode cX12_pour 61 = .ok (.getfield 21, 3) := by decide +kernel
theorem dX12_pour_64 : decode cX12_pour 64 = .ok (.iload_n 1, 1) := by decide +kernel
theorem dX12_pour_65 : decode cX12_pour 65 = .ok (.iaload, 1) := by decide +kernel
theorem dX12_pour_66 : decode cX12_pour 66 = .ok (.aload_n 0, 1) := by decide +kernel
theorem dX12_pour_67 : decode cX12_pour 67 = .ok (.getfield 21, 3) := by decide +kernel
theorem dX12_pour_70 : decode cX12_pour 70 = .ok (.iload_n 3, 1) := by decide +kernel
theorem dX12_pour_71 : decode cX12_pour 71 = .ok (.iaload, 1) := by decide +kernel
theorem dX12_pour_72 : decode cX12_pour 72 = .ok (.if_icmp .eq 10, 3) := by decide +kernel
theorem dX12_pour_75 : decode cX12_pour 75 = .ok (.aload_n 0, 1) := by decide +kernel
theorem dX12_pour_76 : decode cX12_pour 76 = .ok (.bipush 8, 2) := by decide +kernel
theorem dX12_pour_78 : decode cX12_pour 78 = .ok (.invokevirtual 82, 3) := by decide +kernel
theorem dX12_pour_81 : decode cX12_pour 81 = .ok (.ireturn, 1) := by decide +kernel
theorem dX12_pour_82 : decode cX12_pour 82 = .ok (.iload 5, 2) := by decide +kernel
theorem dX12_pour_84 : decode cX12_pour 84 = .ok (.aload_n 0, 1) := by decide +kernel
theorem dX12_pour_85 : decode cX12_pour 85 = .ok (.getfield 24, 3) := by decide +kernel
theorem dX12_pour_88 : decode cX12_pour 88 = .ok (.iload_n 1, 1) := by decide +kernel
theorem dX12_pour_89 : decode cX12_pour 89 = .ok (.iaload, 1) := by decide +kernel
theorem dX12_pour_90 : decode cX12_pour 90 = .ok (.iload_n 2, 1) := by decide +kernel
theorem dX12_pour_91 : decode cX12_pour 91 = .ok (.isub, 1) := by decide +kernel
theorem dX12_pour_92 : decode cX12_pour 92 = .ok (.if_icmp .gt 17, 3) := by decide +kernel
theorem dX12_pour_95 : decode cX12_pour 95 = .ok (.iload 5, 2) := by decide +kernel
theorem dX12_pour_97 : decode cX12_pour 97 = .ok (.aload_n 0, 1) := by decide +kernel
theorem dX12_pour_98 : decode cX12_pour 98 = .ok (.getfield 24, 3) := by decide +kernel
theorem dX12_pour_101 : decode cX12_pour 101 = .ok (.iload_n 3, 1) := by decide +kernel
theorem dX12_pour_102 : decode cX12_pour 102 = .ok (.iaload, 1) := by decide +kernel
theorem dX12_pour_103 : decode cX12_pour 103 = .ok (.iload 4, 2) := by decide +kernel
theorem dX12_pour_105 : decode cX12_pour 105 = .ok (.isub, 1) := by decide +kernel
theorem dX12_pour_106 : decode cX12_pour 106 = .ok (.if_icmp .le 9, 3) := by decide +kernel
theorem dX12_pour_109 : decode cX12_pour 109 = .ok (.aload_n 0, 1) := by decide +kernel
theorem dX12_pour_110 : decode cX12_pour 110 = .ok (.iconst 3, 1) := by decide +kernel
theorem dX12_pour_111 : decode cX12_pour 111 = .ok (.invokevirtual 82, 3) := by decide +kernel
theorem dX12_pour_114 : decode cX12_pour 114 = .ok (.ireturn, 1) := by decide +kernel
theorem dX12_pour_115 : decode cX12_pour 115 = .ok (.iconst 0, 1) := by decide +kernel
theorem dX12_pour_116 : decode cX12_pour 116 = .ok (.istore 6, 2) := by decide +kernel
theorem dX12_pour_118 : decode cX12_pour 118 = .ok (.iload 6, 2) := by decide +kernel
theorem dX12_pour_120 : decode cX12_pour 120 = .ok (.iload 5, 2) := by decide +kernel
theorem dX12_pour_122 : decode cX12_pour 122 = .ok (.if_icmp .ge 58, 3) := by decide +kernel
theorem dX12_pour_125 : decode cX12_pour 125 = .ok (.iload_n 2, 1) := by decide +kernel
theorem dX12_pour_126 : decode cX12_pour 126 = .ok (.iload 4, 2) := by decide +kernel
theorem dX12_pour_128 : decode cX12_pour 128 = .ok (.if_icmp .ge 13, 3) := by decide +kernel
theorem dX12_pour_131 : decode cX12_pour 131 = .ok (.iload 5, 2) := by decide +kernel
theorem dX12_pour_133 : decode cX12_pour 133 = .ok (.iconst 1, 1) := by decide +kernel
theorem dX12_pour_134 : decode cX12_pour 134 = .ok (.isub, 1) := by decide +kernel
theorem dX12_pour_135 : decode cX12_pour 135 = .ok (.iload 6, 2) := by decide +kernel
theorem dX12_pour_137 : decode cX12_pour 137 = .ok (.isub, 1) := by decide +kernel
theorem dX12_pour_138 : decode cX12_pour 138 = .ok (.goto 5, 3) := by decide +kernel
theorem dX12_pour_141 : decode cX12_pour 141 = .ok (.iload 6, 2) := by decide +kernel
theorem dX12_pour_143 : decode cX12_pour 143 = .ok (.istore 7, 2) := by decide +kernel
theorem dX12_pour_145 : decode cX12_pour 145 = .ok (.aload_n 0, 1) := by decide +kernel
theorem dX12_pour_146 : decode cX12_pour 146 = .ok (.getfield 27, 3) := by decide +kernel
theorem dX12_pour_149 : decode cX12_pour 149 = .ok (.bipush 60, 2) := by decide +kernel
theorem dX12_pour_151 : decode cX12_pour 151 = .ok (.iload_n 3, 1) := by decide +kernel
theorem dX12_pour_152 : decode cX12_pour 152 = .ok (.imul, 1) := by decide +kernel
theorem dX12_pour_153 : decode cX12_pour 153 = .ok (.iload 4, 2) := by decide +kernel
theorem dX12_pour_155 : decode cX12_pour 155 = .ok (.iadd, 1) := by decide +kernel
theorem dX12_pour_156 : decode cX12_pour 156 = .ok (.iload 7, 2) := by decide +kernel
theorem dX12_pour_158 : decode cX12_pour 158 = .ok (.iadd, 1) := by decide +kernel
theorem dX12_pour_159 : decode cX12_pour 159 = .ok (.aload_n 0, 1) := by decide +kernel
theorem dX12_pour_160 : decode cX12_pour 160 = .ok (.getfield 27, 3) := by decide +kernel
theorem dX12_pour_163 : decode cX12_pour 163 = .ok (.bipush 60, 2) := by decide +kernel
theorem dX12_pour_165 : decode cX12_pour 165 = .ok (.iload_n 1, 1) := by decide +kernel
theorem dX12_pour_166 : decode cX12_pour 166 = .ok (.imul, 1) := by decide +kernel
theorem dX12_pour_167 : decode cX12_pour 167 = .ok (.iload_n 2, 1) := by decide +kernel
theorem dX12_pour_168 : decode cX12_pour 168 = .ok (.iadd, 1) := by decide +kernel
theorem dX12_pour_169 : decode cX12_pour 169 = .ok (.iload 7, 2) := by decide +kernel
theorem dX12_pour_171 : decode cX12_pour 171 = .ok (.iadd, 1) := by decide +kernel
theorem dX12_pour_172 : decode cX12_pour 172 = .ok (.laload, 1) := by decide +kernel
theorem dX12_pour_173 : decode cX12_pour 173 = .ok (.lastore, 1) := by decide +kernel
theorem dX12_pour_174 : decode cX12_pour 174 = .ok (.iinc 6 1, 3) := by decide +kernel
theorem dX12_pour_177 : decode cX12_pour 177 = .ok (.goto (-59), 3) := by decide +kernel
theorem dX12_pour_180 : decode cX12_pour 180 = .ok (.aload_n 0, 1) := by decide +kernel
theorem dX12_pour_181 : decode cX12_pour 181 = .ok (.iconst 0, 1) := by decide +kernel
theorem dX12_pour_182 : decode cX12_pour 182 = .ok (.invokevirtual 82, 3) := by decide +kernel
theorem dX12_pour_185 : decode cX12_pour 185 = .ok (.ireturn, 1) := by decide +kernel
abbrev M_X12_pour : MT := (yX12_pour, cX12_pour, 8, (some .boolean))
theorem cf_X12_pour : fq_cf M_X12_pour 5 := ⟨(mg_1 (List.mem_of_getElem? (i := 15) rfl) rfl), (mg_7 (List.mem_of_getElem? (i := 91) rfl) rfl), ⟨by decide, by decide, by decide +kernel⟩, by decide⟩
def B_X12_pour_143 (l : Launch) (G : GT) (D mc ms : Nat) (Q : Post) : Cn := ix_istore 7 (ix_aload 0 (ix_getR 12 7 (ix_pushI 60 (ix_iload 3 (ix_imul (ix_iload 4 (ix_iadd (ix_iload 7 (ix_iadd (ix_aload 0 (ix_getR 12 7 (ix_pushI 60 (ix_iload 1 (ix_imul (ix_iload 2 (ix_iadd (ix_iload 7 (ix_iadd (ix_lald (ix_last (ix_iinc 6 1 (fqAt l G M_X12_pour (D + 1) mc ms Q 118))))))))))))))))))))))
theorem b_X12_pour_143 {l : Launch} {G : GT} {D mc ms : Nat} {Q : Post} : Imp l G M_X12_pour (D + 1) mc ms Q (B_X12_pour_143 l G D mc ms Q) 143 := sx_istore dX12_pour_143 (by decide) (sx_aload_n dX12_pour_145 rfl (sx_getR dX12_pour_146 fl_FootQuarrelModel_27 (fun _ _ _ => rfl) (sx_bipush dX12_pour_149 rfl (sx_iload_n dX12_pour_151 rfl (sx_imul dX12_pour_152 (sx_iload dX12_pour_153 (sx_iadd dX12_pour_155 (sx_iload dX12_pour_156 (sx_iadd dX12_pour_158 (sx_aload_n dX12_pour_159 rfl (sx_getR dX12_pour_160 fl_FootQuarrelModel_27 (fun _ _ _ => rfl) (sx_bipush dX12_pour_163 rfl (sx_iload_n dX12_pour_165 rfl (sx_imul dX12_pour_166 (sx_iload_n dX12_pour_167 rfl (sx_iadd dX12_pour_168 (sx_iload dX12_pour_169 (sx_iadd dX12_pour_171 (sx_lald dX12_pour_172 (sx_last dX12_pour_173 (sx_iinc dX12_pour_174 rfl (by decide) (sx_goto 118 dX12_pour_177 (by decide) ((fun _ _ _ _ _ _ _ _ h => h))))))))))))))))))))))))
def B_X12_pour_118 (l : Launch) (G : GT) (D mc ms : Nat) (Q : Post) : Cn := ix_iload 6 (ix_iload 5 (ix_icmp_ge (ix_aload 0 (ix_pushI 0 (ix_vcall 12 2 0 0 mc ms (sp_X12_is G) (ix_zret mc ms Q)))) (ix_iload 2 (ix_iload 4 (ix_icmp_ge (ix_iload 6 ((B_X12_pour_143 l G D mc ms Q))) (ix_iload 5 (ix_pushI 1 (ix_isub (ix_iload 6 (ix_isub ((B_X12_pour_143 l G D mc ms Q))))))))))))
theorem b_X12_pour_118 {l : Launch} {G : GT} {D mc ms : Nat} {Q : Post} : Imp l G M_X12_pour (D + 1) mc ms Q (B_X12_pour_118 l G D mc ms Q) 118 := sx_iload dX12_pour_118 (sx_iload dX12_pour_120 (sx_icmp_ge 180 dX12_pour_122 (by decide) (sx_aload_n dX12_pour_180 rfl (sx_iconst dX12_pour_181 rfl (sx_vcall dX12_pour_182 cf_X12_is (mg_7 (List.mem_of_getElem? (i := 68) rfl) rfl) (mg_7 (List.mem_of_getElem? (i := 70) rfl) rfl) (mg_p (List.mem_of_getElem? (i := 48) rfl) rfl) rfl c_X12_is (sx_zret dX12_pour_185 rfl)))) (sx_iload_n dX12_pour_125 rfl (sx_iload dX12_pour_126 (sx_icmp_ge 141 dX12_pour_128 (by decide) (sx_iload dX12_pour_141 (b_X12_pour_143)) (sx_iload dX12_pour_131 (sx_iconst dX12_pour_133 rfl (sx_isub dX12_pour_134 (sx_iload dX12_pour_135 (sx_isub dX12_pour_137 (sx_goto 143 dX12_pour_138 (by decide) (b_X12_pour_143))))))))))))
def B_X12_pour_109 (l : Launch) (G : GT) (D mc ms : Nat) (Q : Post) : Cn := ix_aload 0 (ix_pushI 3 (ix_vcall 12 2 0 0 mc ms (sp_X12_is G) (ix_zret mc ms Q)))
theorem b_X12_pour_109 {l : Launch} {G : GT} {D mc ms : Nat} {Q : Post} : Imp l G M_X12_pour (D + 1) mc ms Q (B_X12_pour_109 l G D mc ms Q) 109 := sx_aload_n dX12_pour_109 rfl (sx_iconst dX12_pour_110 rfl (sx_vcall dX12_pour_111 cf_X12_is (mg_7 (List.mem_of_getElem? (i := 68) rfl) rfl) (mg_7 (List.mem_of_getElem? (i := 70) rfl) rfl) (mg_p (List.mem_of_getElem? (i := 48) rfl) rfl) rfl c_X12_is (sx_zret dX12_pour_114 rfl)))
def B_X12_pour_54 (l : Launch) (G : GT) (D mc ms : Nat) (Q : Post) : Cn := ix_aload 0 (ix_pushI 2 (ix_vcall 12 2 0 0 mc ms (sp_X12_is G) (ix_zret mc ms Q)))
theorem b_X12_pour_54 {l : Launch} {G : GT} {D mc ms : Nat} {Q : Post} : Imp l G M_X12_pour (D + 1) mc ms Q (B_X12_pour_54 l G D mc ms Q) 54 := sx_aload_n dX12_pour_54 rfl (sx_iconst dX12_pour_55 rfl (sx_vcall dX12_pour_56 cf_X12_is (mg_7 (List.mem_of_getElem? (i := 68) rfl) rfl) (mg_7 (List.mem_of_getElem? (i := 70) rfl) rfl) (mg_p (List.mem_of_getElem? (i := 48) rfl) rfl) rfl c_X12_is (sx_zret dX12_pour_59 rfl)))
def B_X12_pour_28 (l : Launch) (G : GT) (D mc ms : Nat) (Q : Post) : Cn := ix_aload 0 (ix_pushI 1 (ix_vcall 12 2 0 0 mc ms (sp_X12_is G) (ix_zret mc ms Q)))
theorem b_X12_pour_28 {l : Launch} {G : GT} {D mc ms : Nat} {Q : Post} : Imp l G M_X12_pour (D + 1) mc ms Q (B_X12_pour_28 l G D mc ms Q) 28 := sx_aload_n dX12_pour_28 rfl (sx_iconst dX12_pour_29 rfl (sx_vcall dX12_pour_30 cf_X12_is (mg_7 (List.mem_of_getElem? (i := 68) rfl) rfl) (mg_7 (List.mem_of_getElem? (i := 70) rfl) rfl) (mg_p (List.mem_of_getElem? (i := 48) rfl) rfl) rfl c_X12_is (sx_zret dX12_pour_33 rfl)))
def B_X12_pour_0 (l : Launch) (G : GT) (D mc ms : Nat) (Q : Post) : Cn := ix_iload 1 (ix_call 1 0 0 mc ms (sp_X12_isTray G) (ix_if_eq ((B_X12_pour_28 l G D mc ms Q)) (ix_iload 3 (ix_call 1 0 0 mc ms (sp_X12_isTray G) (ix_if_eq ((B_X12_pour_28 l G D mc ms Q)) (ix_iload 2 (ix_if_lt ((B_X12_pour_28 l G D mc ms Q)) (ix_iload 4 (ix_if_lt ((B_X12_pour_28 l G D mc ms Q)) (ix_iload 5 (ix_if_ge (ix_aload 0 (ix_getR 12 6 (ix_iload 1 (ix_iald (ix_pushI (-1) (ix_icmp_eq ((B_X12_pour_54 l G D mc ms Q)) (ix_aload 0 (ix_getR 12 6 (ix_iload 3 (ix_iald (ix_pushI (-1) (ix_icmp_ne (ix_aload 0 (ix_getR 12 5 (ix_iload 1 (ix_iald (ix_aload 0 (ix_getR 12 5 (ix_iload 3 (ix_iald (ix_icmp_eq (ix_iload 5 (ix_aload 0 (ix_getR 12 6 (ix_iload 1 (ix_iald (ix_iload 2 (ix_isub (ix_icmp_gt ((B_X12_pour_109 l G D mc ms Q)) (ix_iload 5 (ix_aload 0 (ix_getR 12 6 (ix_iload 3 (ix_iald (ix_iload 4 (ix_isub (ix_icmp_le (ix_pushI 0 (ix_istore 6 (fqAt l G M_X12_pour (D + 1) mc ms Q 118))) ((B_X12_pour_109 l G D mc ms Q)))))))))))))))))) (ix_aload 0 (ix_pushI 8 (ix_vcall 12 2 0 0 mc ms (sp_X12_is G) (ix_zret mc ms Q))))))))))))) ((B_X12_pour_54 l G D mc ms Q)))))))))))))) ((B_X12_pour_28 l G D mc ms Q)))))))))))))
theorem b_X12_pour_0 {l : Launch} {G : GT} {D mc ms : Nat} {Q : Post} : Imp l G M_X12_pour (D + 1) mc ms Q (B_X12_pour_0 l G D mc ms Q) 0 := sx_iload_n dX12_pour_0 rfl (sx_scall dX12_pour_1 cf_X12_isTray (mg_7 (List.mem_of_getElem? (i := 65) rfl) rfl) (mg_7 (List.mem_of_getElem? (i := 66) rfl) rfl) c_X12_isTray (sx_if_eq 28 dX12_pour_4 (by decide) (b_X12_pour_28) (sx_iload_n dX12_pour_7 rfl (sx_scall dX12_pour_8 cf_X12_isTray (mg_7 (List.mem_of_getElem? (i := 65) rfl) rfl) (mg_7 (List.mem_of_getElem? (i := 66) rfl) rfl) c_X12_isTray (sx_if_eq 28 dX12_pour_11 (by decide) (b_X12_pour_28) (sx_iload_n dX12_pour_14 rfl (sx_if_lt 28 dX12_pour_15 (by decide) (b_X12_pour_28) (sx_iload dX12_pour_18 (sx_if_lt 28 dX12_pour_20 (by decide) (b_X12_pour_28) (sx_iload dX12_pour_23 (sx_if_ge 34 dX12_pour_25 (by decide) (sx_aload_n dX12_pour_34 rfl (sx_getR dX12_pour_35 fl_FootQuarrelModel_24 (fun _ _ _ => rfl) (sx_iload_n dX12_pour_38 rfl (sx_iald dX12_pour_39 (sx_iconst dX12_pour_40 rfl (sx_icmp_eq 54 dX12_pour_41 (by decide) (b_X12_pour_54) (sx_aload_n dX12_pour_44 rfl (sx_getR dX12_pour_45 fl_FootQuarrelModel_24 (fun _ _ _ => rfl) (sx_iload_n dX12_pour_48 rfl (sx_iald dX12_pour_49 (sx_iconst dX12_pour_50 rfl (sx_icmp_ne 60 dX12_pour_51 (by decide) (sx_aload_n dX12_pour_60 rfl (sx_getR dX12_pour_61 fl_FootQuarrelModel_21 (fun _ _ _ => rfl) (sx_iload_n dX12_pour_64 rfl (sx_iald dX12_pour_65 (sx_aload_n dX12_pour_66 rfl (sx_getR dX12_pour_67 fl_FootQuarrelModel_21 (fun _ _ _ => rfl) (sx_iload_n dX12_pour_70 rfl (sx_iald dX12_pour_71 (sx_icmp_eq 82 dX12_pour_72 (by decide) (sx_iload dX12_pour_82 (sx_aload_n dX12_pour_84 rfl (sx_getR dX12_pour_85 fl_FootQuarrelModel_24 (fun _ _ _ => rfl) (sx_iload_n dX12_pour_88 rfl (sx_iald dX12_pour_89 (sx_iload_n dX12_pour_90 rfl (sx_isub dX12_pour_91 (sx_icmp_gt 109 dX12_pour_92 (by decide) (b_X12_pour_109) (sx_iload dX12_pour_95 (sx_aload_n dX12_pour_97 rfl (sx_getR dX12_pour_98 fl_FootQuarrelModel_24 (fun _ _ _ => rfl) (sx_iload_n dX12_pour_101 rfl (sx_iald dX12_pour_102 (sx_iload dX12_pour_103 (sx_isub dX12_pour_105 (sx_icmp_le 115 dX12_pour_106 (by decide) (sx_iconst dX12_pour_115 rfl (sx_istore dX12_pour_116 (by decide) ((fun _ _ _ _ _ _ _ _ h => h)))) (b_X12_pour_109))))))))))))))))) (sx_aload_n dX12_pour_75 rfl (sx_bipush dX12_pour_76 rfl (sx_vcall dX12_pour_78 cf_X12_is (mg_7 (List.mem_of_getElem? (i := 68) rfl) rfl) (mg_7 (List.mem_of_getElem? (i := 70) rfl) rfl) (mg_p (List.mem_of_getElem? (i := 48) rfl) rfl) rfl c_X12_is (sx_zret dX12_pour_81 rfl))))))))))))) (b_X12_pour_54))))))))))))) (b_X12_pour_28))))))))))))
theorem dX12_share_0 : decode cX12_share 0 = .ok (.aload_n 0, 1) := by decide +kernel
theorem dX12_share_1 : decode cX12_share 1 = .ok (.iload_n 1, 1) := by decide +kernel
theorem dX12_share_2 : decode cX12_share 2 = .ok (.invokevirtual 268, 3) := by decide +kernel
theorem dX12_share_5 : decode cX12_share 5 = .ok (.ifCond .ne 9, 3) := by decide +kernel
theorem dX12_share_8 : decode cX12_share 8 = .ok (.aload_n 0, 1) := by decide +kernel
theorem dX12_share_9 : decode cX12_share 9 = .ok (.iconst 1, 1) := by decide +kernel
theorem dX12_share_10 : decode cX12_share 10 = .ok (.invokevirtual 82, 3) := by decide +kernel
theorem dX12_share_13 : decode cX12_share 13 = .ok (.ireturn, 1) := by decide +kernel
theorem dX12_share_14 : decode cX12_share 14 = .ok (.aload_n 0, 1) := by decide +kernel
theorem dX12_share_15 : decode cX12_share 15 = .ok (.aload_n 0, 1) := by decide +kernel
theorem dX12_share_16 : decode cX12_share 16 = .ok (.getfield 7, 3) := by decide +kernel
theorem dX12_share_19 : decode cX12_share 19 = .ok (.iconst 0, 1) := by decide +kernel
theorem dX12_share_20 : decode cX12_share 20 = .ok (.iaload, 1) := by decide +kernel
theorem dX12_share_21 : decode cX12_share 21 = .ok (.iconst 1, 1) := by decide +kernel
theorem dX12_share_22 : decode cX12_share 22 = .ok (.isub, 1) := by decide +kernel
theorem dX12_share_23 : decode cX12_share 23 = .ok (.iconst 0, 1) := by decide +kernel
theorem dX12_share_24 : decode cX12_share 24 = .ok (.invokevirtual 277, 3) := by decide +kernel
theorem dX12_share_27 : decode cX12_share 27 = .ok (.istore_n 2, 1) := by decide +kernel
theorem dX12_share_28 : decode cX12_share 28 = .ok (.iload_n 2, 1) := by decide +kernel
theorem dX12_share_29 : decode cX12_share 29 = .ok (.ifCond .ne 12, 3) := by decide +kernel
theorem dX12_share_32 : decode cX12_share 32 = .ok (.aload_n 0, 1) := by decide +kernel
theorem dX12_share_33 : decode cX12_share 33 = .ok (.bipush 6, 2) := by decide +kernel
theorem dX12_share_35 : decode cX12_share 35 = .ok (.invokevirtual 82, 3) := by decide +kernel
theorem dX12_share_38 : decode cX12_share 38 = .ok (.goto 15, 3) := by decide +kernel
theorem dX12_share_41 : decode cX12_share 41 = .ok (.aload_n 0, 1) := by decide +kernel
theorem dX12_share_42 : decode cX12_share 42 = .ok (.aload_n 0, 1) := by decide +kernel
theorem dX12_share_43 : decode cX12_share 43 = .ok (.iload_n 1, 1) := by decide +kernel
theorem dX12_share_44 : decode cX12_share 44 = .ok (.invokevirtual 262, 3) := by decide +kernel
theorem dX12_share_47 : decode cX12_share 47 = .ok (.i2l, 1) := by decide +kernel
theorem dX12_share_48 : decode cX12_share 48 = .ok (.iload_n 2, 1) := by decide +kernel
theorem dX12_share_49 : decode cX12_share 49 = .ok (.i2l, 1) := by decide +kernel
theorem dX12_share_50 : decode cX12_share 50 = .ok (.invokevirtual 399, 3) := by decide +kernel
theorem dX12_share_53 : decode cX12_share 53 = .ok (.ireturn, 1) := by decide +kernel
abbrev M_X12_share : MT := (yX12_share, cX12_share, 3, (some .boolean))
theorem cf_X12_share : fq_cf M_X12_share 1 := ⟨(mg_1 (List.mem_of_getElem? (i := 15) rfl) rfl), (mg_9 (List.mem_of_getElem? (i := 74) rfl) rfl), ⟨by decide, by decide, by decide +kernel⟩, by decide⟩
def B_X12_share_53 (G : GT) (mc ms : Nat) (Q : Post) : Cn := ix_zret mc ms Q
theorem b_X12_share_53 {l : Launch} {G : GT} {D mc ms : Nat} {Q : Post} : Imp l G M_X12_share (D + 2) mc ms Q (B_X12_share_53 G mc ms Q) 53 := sx_zret dX12_share_53 rfl
def B_X12_share_0 (G : GT) (mc ms : Nat) (Q : Post) : Cn := ix_aload 0 (ix_iload 1 (ix_vcall 12 2 0 0 mc ms (sp_X12_isHouse G) (ix_if_ne (ix_aload 0 (ix_aload 0 (ix_getR 12 0 (ix_pushI 0 (ix_iald (ix_pushI 1 (ix_isub (ix_pushI 0 (ix_vcall 12 3 0 0 mc ms (sp_X12_placeOf G) (ix_istore 2 (ix_iload 2 (ix_if_ne (ix_aload 0 (ix_aload 0 (ix_iload 1 (ix_vcall 12 2 0 0 mc ms (sp_X12_wideOf G) (ix_i2l (ix_iload 2 (ix_i2l (ix_vcall 12 3 0 0 mc ms (sp_X12_tellsBy G) ((B_X12_share_53 G mc ms Q)))))))))) (ix_aload 0 (ix_pushI 6 (ix_vcall 12 2 0 0 mc ms (sp_X12_is G) ((B_X12_share_53 G mc ms Q))))))))))))))))) (ix_aload 0 (ix_pushI 1 (ix_vcall 12 2 0 0 mc ms (sp_X12_is G) (ix_zret mc ms Q)))))))
theorem b_X12_share_0 {l : Launch} {G : GT} {D mc ms : Nat} {Q : Post} : Imp l G M_X12_share (D + 2) mc ms Q (B_X12_share_0 G mc ms Q) 0 := sx_aload_n dX12_share_0 rfl (sx_iload_n dX12_share_1 rfl (sx_vcall dX12_share_2 cf_X12_isHouse (mg_8 (List.mem_of_getElem? (i := 18) rfl) rfl) (mg_8 (List.mem_of_getElem? (i := 20) rfl) rfl) (mg_p (List.mem_of_getElem? (i := 81) rfl) rfl) rfl c_X12_isHouse (sx_if_ne 14 dX12_share_5 (by decide) (sx_aload_n dX12_share_14 rfl (sx_aload_n dX12_share_15 rfl (sx_getR dX12_share_16 fl_FootQuarrelModel_7 (fun _ _ _ => rfl) (sx_iconst dX12_share_19 rfl (sx_iald dX12_share_20 (sx_iconst dX12_share_21 rfl (sx_isub dX12_share_22 (sx_iconst dX12_share_23 rfl (sx_vcall dX12_share_24 cf_X12_placeOf (mg_8 (List.mem_of_getElem? (i := 38) rfl) rfl) (mg_8 (List.mem_of_getElem? (i := 40) rfl) rfl) (mg_p (List.mem_of_getElem? (i := 85) rfl) rfl) rfl c_X12_placeOf (sx_istore_n dX12_share_27 rfl (by decide) (sx_iload_n dX12_share_28 rfl (sx_if_ne 41 dX12_share_29 (by decide) (sx_aload_n dX12_share_41 rfl (sx_aload_n dX12_share_42 rfl (sx_iload_n dX12_share_43 rfl (sx_vcall dX12_share_44 cf_X12_wideOf (mg_8 (List.mem_of_getElem? (i := 7) rfl) rfl) (mg_8 (List.mem_of_getElem? (i := 9) rfl) rfl) (mg_p (List.mem_of_getElem? (i := 80) rfl) rfl) rfl c_X12_wideOf (sx_i2l dX12_share_47 (sx_iload_n dX12_share_48 rfl (sx_i2l dX12_share_49 (sx_vcall dX12_share_50 cf_X12_tellsBy (mg_9 (List.mem_of_getElem? (i := 75) rfl) rfl) (mg_9 (List.mem_of_getElem? (i := 77) rfl) rfl) (mg_p (List.mem_of_getElem? (i := 115) rfl) rfl) rfl c_X12_tellsBy (b_X12_share_53))))))))) (sx_aload_n dX12_share_32 rfl (sx_bipush dX12_share_33 rfl (sx_vcall dX12_share_35 cf_X12_is (mg_7 (List.mem_of_getElem? (i := 68) rfl) rfl) (mg_7 (List.mem_of_getElem? (i := 70) rfl) rfl) (mg_p (List.mem_of_getElem? (i := 48) rfl) rfl) rfl c_X12_is (sx_goto 53 dX12_share_38 (by decide) (b_X12_share_53))))))))))))))))) (sx_aload_n dX12_share_8 rfl (sx_iconst dX12_share_9 rfl (sx_vcall dX12_share_10 cf_X12_is (mg_7 (List.mem_of_getElem? (i := 68) rfl) rfl) (mg_7 (List.mem_of_getElem? (i := 70) rfl) rfl) (mg_p (List.mem_of_getElem? (i := 48) rfl) rfl) rfl c_X12_is (sx_zret dX12_share_13 rfl)))))))
theorem dX12_copyWalls_0 : decode cX12_copyWalls 0 = .ok (.iload_n 1, 1) := by decide +kernel
theorem dX12_copyWalls_1 : decode cX12_copyWalls 1 = .ok (.invokestatic 86, 3) := by decide +kernel
theorem dX12_copyWalls_4 : decode cX12_copyWalls 4 = .ok (.ifCond .ne 9, 3) := by decide +kernel
theorem dX12_copyWalls_7 : decode cX12_copyWalls 7 = .ok (.aload_n 0, 1) := by decide +kernel
theorem dX12_copyWalls_8 : decode cX12_copyWalls 8 = .ok (.iconst 1, 1) := by decide +kernel
theorem dX12_copyWalls_9 : decode cX12_copyWalls 9 = .ok (.invokevirtual 75, 3) := by decide +kernel
theorem dX12_copyWalls_12 : decode cX12_copyWalls 12 = .ok (.ireturn, 1) := by decide +kernel
theorem dX12_copyWalls_13 : decode cX12_copyWalls 13 = .ok (.iconst 0, 1) := by decide +kernel
theorem dX12_copyWalls_14 : decode cX12_copyWalls 14 = .ok (.aload_n 0, 1) := by decide +kernel
theorem dX12_copyWalls_15 : decode cX12_copyWalls 15 = .ok (.getfield 7, 3) := by decide +kernel
theorem dX12_copyWalls_18 : decode cX12_copyWalls 18 = .ok (.iconst 0, 1) := by decide +kernel
theorem dX12_copyWalls_19 : decode cX12_copyWalls 19 = .ok (.iaload, 1) := by decide +kernel
theorem dX12_copyWalls_20 : decode cX12_copyWalls 20 = .ok (.iconst 1, 1) := by decide +kernel
theorem dX12_copyWalls_21 : decode cX12_copyWalls 21 = .ok (.isub, 1) := by decide +kernel
theorem dX12_copyWalls_22 : decode cX12_copyWalls 22 = .ok (.invokestatic 295, 3) := by decide +kernel
theorem dX12_copyWalls_25 : decode cX12_copyWalls 25 = .ok (.istore_n 2, 1) := by decide +kernel
theorem dX12_copyWalls_26 : decode cX12_copyWalls 26 = .ok (.aload_n 0, 1) := by decide +kernel
theorem dX12_copyWalls_27 : decode cX12_copyWalls 27 = .ok (.getfield 24, 3) := by decide +kernel
theorem dX12_copyWalls_30 : decode cX12_copyWalls 30 = .ok (.iload_n 1, 1) := by decide +kernel
theorem dX12_copyWalls_31 : decode cX12_copyWalls 31 = .ok (.iaload, 1) := by decide +kernel
theorem dX12_copyWalls_32 : decode cX12_copyWalls 32 = .ok (.iconst (-1), 1) := by decide +kernel
theorem dX12_copyWalls_33 : decode cX12_copyWalls 33 = .ok (.if_icmp .ne 9, 3) := by decide +kernel
theorem dX12_copyWalls_36 : decode cX12_copyWalls 36 = .ok (.aload_n 0, 1) := by decide +kernel
theorem dX12_copyWalls_37 : decode cX12_copyWalls 37 = .ok (.iconst 2, 1) := by decide +kernel
theorem dX12_copyWalls_38 : decode cX12_copyWalls 38 = .ok (.invokevirtual 75, 3) := by decide +kernel
theorem dX12_copyWalls_41 : decode cX12_copyWalls 41 = .ok (.ireturn, 1) := by decide +kernel
theorem dX12_copyWalls_42 : decode cX12_copyWalls 42 = .ok (.aload_n 0, 1) := by decide +kernel
theorem dX12_copyWalls_43 : decode cX12_copyWalls 43 = .ok (.getfield 24, 3) := by decide +kernel
theorem dX12_copyWalls_46 : decode cX12_copyWalls 46 = .ok (.iload_n 1, 1) := by decide +kernel
theorem dX12_copyWalls_47 : decode cX12_copyWalls 47 = .ok (.iaload, 1) := by decide +kernel
theorem dX12_copyWalls_48 : decode cX12_copyWalls 48 = .ok (.iload_n 2, 1) := by decide +kernel
theorem dX12_copyWalls_49 : decode cX12_copyWalls 49 = .ok (.if_icmp .ge 9, 3) := by decide +kernel
theorem dX12_copyWalls_52 : decode cX12_copyWalls 52 = .ok (.aload_n 0, 1) := by decide +kernel
theorem dX12_copyWalls_53 : decode cX12_copyWalls 53 = .ok (.iconst 3, 1) := by decide +kernel
theorem dX12_copyWalls_54 : decode cX12_copyWalls 54 = .ok (.invokevirtual 75, 3) := by decide +kernel
theorem dX12_copyWalls_57 : decode cX12_copyWalls 57 = .ok (.ireturn, 1) := by decide +kernel
theorem dX12_copyWalls_58 : decode cX12_copyWalls 58 = .ok (.iconst 0, 1) := by decide +kernel
theorem dX12_copyWalls_59 : decode cX12_copyWalls 59 = .ok (.istore_n 3, 1) := by decide +kernel
theorem dX12_copyWalls_60 : decode cX12_copyWalls 60 = .ok (.iload_n 3, 1) := by decide +kernel
theorem dX12_copyWalls_61 : decode cX12_copyWalls 61 = .ok (.iload_n 2, 1) := by decide +kernel
theorem dX12_copyWalls_62 : decode cX12_copyWalls 62 = .ok (.if_icmp .ge 36, 3) := by decide +kernel
theorem dX12_copyWalls_65 : decode cX12_copyWalls 65 = .ok (.aload_n 0, 1) := by decide +kernel
theorem dX12_copyWalls_66 : decode cX12_copyWalls 66 = .ok (.getfield 27, 3) := by decide +kernel
theorem dX12_copyWalls_69 : decode cX12_copyWalls 69 = .ok (.bipush 60, 2) := by decide +kernel
theorem dX12_copyWalls_71 : decode cX12_copyWalls 71 = .ok (.iload_n 1, 1) := by decide +kernel
theorem dX12_copyWalls_72 : decode cX12_copyWalls 72 = .ok (.imul, 1) := by decide +kernel
theorem dX12_copyWalls_73 : decode cX12_copyWalls 73 = .ok (.iload_n 3, 1) := by decide +kernel
theorem dX12_copyWalls_74 : decode cX12_copyWalls 74 = .ok (.iadd, 1) := by decide +kernel
theorem dX12_copyWalls_75 : decode cX12_copyWalls 75 = .ok (.aload_n 0, 1) := by decide +kernel
theorem dX12_copyWalls_76 : decode cX12_copyWalls 76 = .ok (.iload_n 3, 1) := by decide +kernel
theorem dX12_copyWalls_77 : decode cX12_copyWalls 77 = .ok (.iconst 0, 1) := by decide +kernel
theorem dX12_copyWalls_78 : decode cX12_copyWalls 78 = .ok (.invokevirtual 277, 3) := by decide +kernel
theorem dX12_copyWalls_81 : decode cX12_copyWalls 81 = .ok (.i2l, 1) := by decide +kernel
theorem dX12_copyWalls_82 : decode cX12_copyWalls 82 = .ok (.aload_n 0, 1) := by decide +kernel
theorem dX12_copyWalls_83 : decode cX12_copyWalls 83 = .ok (.getfield 21, 3) := by decide +kernel
theorem dX12_copyWalls_86 : decode cX12_copyWalls 86 = .ok (.iload_n 1, 1) := by decide +kernel
theorem dX12_copyWalls_87 : decode cX12_copyWalls 87 = .ok (.iaload, 1) := by decide +kernel
theorem dX12_copyWalls_88 : decode cX12_copyWalls 88 = .ok (.invokestatic 93, 3) := by decide +kernel
theorem dX12_copyWalls_91 : decode cX12_copyWalls 91 = .ok (.lastore, 1) := by decide +kernel
theorem dX12_copyWalls_92 : decode cX12_copyWalls 92 = .ok (.iinc 3 1, 3) := by decide +kernel
theorem dX12_copyWalls_95 : decode cX12_copyWalls 95 = .ok (.goto (-35), 3) := by decide +kernel
theorem dX12_copyWalls_98 : decode cX12_copyWalls 98 = .ok (.aload_n 0, 1) := by decide +kernel
theorem dX12_copyWalls_99 : decode cX12_copyWalls 99 = .ok (.iload_n 2, 1) := by decide +kernel
theorem dX12_copyWalls_100 : decode cX12_copyWalls 100 = .ok (.invokevirtual 79, 3) := by decide +kernel
theorem dX12_copyWalls_103 : decode cX12_copyWalls 103 = .ok (.ireturn, 1) := by decide +kernel
abbrev M_X12_copyWalls : MT := (yX12_copyWalls, cX12_copyWalls, 4, (some .int))
theorem cf_X12_copyWalls : fq_cf M_X12_copyWalls 1 := ⟨(mg_1 (List.mem_of_getElem? (i := 15) rfl) rfl), (mg_9 (List.mem_of_getElem? (i := 123) rfl) rfl), ⟨by decide, by decide, by decide +kernel⟩, by decide⟩
def B_X12_copyWalls_60 (l : Launch) (G : GT) (D mc ms : Nat) (Q : Post) : Cn := ix_iload 3 (ix_iload 2 (ix_icmp_ge (ix_aload 0 (ix_iload 2 (ix_vcall 12 2 0 0 mc ms (sp_X12_gives G) (ix_iret mc ms Q)))) (ix_aload 0 (ix_getR 12 7 (ix_pushI 60 (ix_iload 1 (ix_imul (ix_iload 3 (ix_iadd (ix_aload 0 (ix_iload 3 (ix_pushI 0 (ix_vcall 12 3 0 0 mc ms (sp_X12_placeOf G) (ix_i2l (ix_aload 0 (ix_getR 12 5 (ix_iload 1 (ix_iald (ix_call 2 0 0 mc ms (sp_X12_cut G) (ix_last (ix_iinc 3 1 (fqAt l G M_X12_copyWalls (D + 2) mc ms Q 60))))))))))))))))))))))
theorem b_X12_copyWalls_60 {l : Launch} {G : GT} {D mc ms : Nat} {Q : Post} : Imp l G M_X12_copyWalls (D + 2) mc ms Q (B_X12_copyWalls_60 l G D mc ms Q) 60 := sx_iload_n dX12_copyWalls_60 rfl (sx_iload_n dX12_copyWalls_61 rfl (sx_icmp_ge 98 dX12_copyWalls_62 (by decide) (sx_aload_n dX12_copyWalls_98 rfl (sx_iload_n dX12_copyWalls_99 rfl (sx_vcall dX12_copyWalls_100 cf_X12_gives (mg_7 (List.mem_of_getElem? (i := 204) rfl) rfl) (mg_7 (List.mem_of_getElem? (i := 206) rfl) rfl) (mg_p (List.mem_of_getElem? (i := 72) rfl) rfl) rfl c_X12_gives (sx_iret dX12_copyWalls_103 rfl)))) (sx_aload_n dX12_copyWalls_65 rfl (sx_getR dX12_copyWalls_66 fl_FootQuarrelModel_27 (fun _ _ _ => rfl) (sx_bipush dX12_copyWalls_69 rfl (sx_iload_n dX12_copyWalls_71 rfl (sx_imul dX12_copyWalls_72 (sx_iload_n dX12_copyWalls_73 rfl (sx_iadd dX12_copyWalls_74 (sx_aload_n dX12_copyWalls_75 rfl (sx_iload_n dX12_copyWalls_76 rfl (sx_iconst dX12_copyWalls_77 rfl (sx_vcall dX12_copyWalls_78 cf_X12_placeOf (mg_8 (List.mem_of_getElem? (i := 38) rfl) rfl) (mg_8 (List.mem_of_getElem? (i := 40) rfl) rfl) (mg_p (List.mem_of_getElem? (i := 85) rfl) rfl) rfl c_X12_placeOf (sx_i2l dX12_copyWalls_81 (sx_aload_n dX12_copyWalls_82 rfl (sx_getR dX12_copyWalls_83 fl_FootQuarrelModel_21 (fun _ _ _ => rfl) (sx_iload_n dX12_copyWalls_86 rfl (sx_iald dX12_copyWalls_87 (sx_scall dX12_copyWalls_88 cf_X12_cut (mg_7 (List.mem_of_getElem? (i := 80) rfl) rfl) (mg_7 (List.mem_of_getElem? (i := 81) rfl) rfl) c_X12_cut (sx_last dX12_copyWalls_91 (sx_iinc dX12_copyWalls_92 rfl (by decide) (sx_goto 60 dX12_copyWalls_95 (by decide) ((fun _ _ _ _ _ _ _ _ h => h))))))))))))))))))))))))
def B_X12_copyWalls_0 (l : Launch) (G : GT) (D mc ms : Nat) (Q : Post) : Cn := ix_iload 1 (ix_call 1 0 0 mc ms (sp_X12_isTray G) (ix_if_ne (ix_pushI 0 (ix_aload 0 (ix_getR 12 0 (ix_pushI 0 (ix_iald (ix_pushI 1 (ix_isub (ix_max mc ms (ix_istore 2 (ix_aload 0 (ix_getR 12 6 (ix_iload 1 (ix_iald (ix_pushI (-1) (ix_icmp_ne (ix_aload 0 (ix_getR 12 6 (ix_iload 1 (ix_iald (ix_iload 2 (ix_icmp_ge (ix_pushI 0 (ix_istore 3 (fqAt l G M_X12_copyWalls (D + 2) mc ms Q 60))) (ix_aload 0 (ix_pushI 3 (ix_vcall 12 2 0 0 mc ms (sp_X12_refuse G) (ix_iret mc ms Q)))))))))) (ix_aload 0 (ix_pushI 2 (ix_vcall 12 2 0 0 mc ms (sp_X12_refuse G) (ix_iret mc ms Q))))))))))))))))))) (ix_aload 0 (ix_pushI 1 (ix_vcall 12 2 0 0 mc ms (sp_X12_refuse G) (ix_iret mc ms Q))))))
theorem b_X12_copyWalls_0 {l : Launch} {G : GT} {D mc ms : Nat} {Q : Post} : Imp l G M_X12_copyWalls (D + 2) mc ms Q (B_X12_copyWalls_0 l G D mc ms Q) 0 := sx_iload_n dX12_copyWalls_0 rfl (sx_scall dX12_copyWalls_1 cf_X12_isTray (mg_7 (List.mem_of_getElem? (i := 65) rfl) rfl) (mg_7 (List.mem_of_getElem? (i := 66) rfl) rfl) c_X12_isTray (sx_if_ne 13 dX12_copyWalls_4 (by decide) (sx_iconst dX12_copyWalls_13 rfl (sx_aload_n dX12_copyWalls_14 rfl (sx_getR dX12_copyWalls_15 fl_FootQuarrelModel_7 (fun _ _ _ => rfl) (sx_iconst dX12_copyWalls_18 rfl (sx_iald dX12_copyWalls_19 (sx_iconst dX12_copyWalls_20 rfl (sx_isub dX12_copyWalls_21 (sx_max dX12_copyWalls_22 (mg_8 (List.mem_of_getElem? (i := 97) rfl) rfl) (mg_4 (List.mem_of_getElem? (i := 199) rfl) rfl) (mg_1 (List.mem_of_getElem? (i := 18) rfl) rfl) (mg_4 (List.mem_of_getElem? (i := 200) rfl) rfl) (sx_istore_n dX12_copyWalls_25 rfl (by decide) (sx_aload_n dX12_copyWalls_26 rfl (sx_getR dX12_copyWalls_27 fl_FootQuarrelModel_24 (fun _ _ _ => rfl) (sx_iload_n dX12_copyWalls_30 rfl (sx_iald dX12_copyWalls_31 (sx_iconst dX12_copyWalls_32 rfl (sx_icmp_ne 42 dX12_copyWalls_33 (by decide) (sx_aload_n dX12_copyWalls_42 rfl (sx_getR dX12_copyWalls_43 fl_FootQuarrelModel_24 (fun _ _ _ => rfl) (sx_iload_n dX12_copyWalls_46 rfl (sx_iald dX12_copyWalls_47 (sx_iload_n dX12_copyWalls_48 rfl (sx_icmp_ge 58 dX12_copyWalls_49 (by decide) (sx_iconst dX12_copyWalls_58 rfl (sx_istore_n dX12_copyWalls_59 rfl (by decide) ((fun _ _ _ _ _ _ _ _ h => h)))) (sx_aload_n dX12_copyWalls_52 rfl (sx_iconst dX12_copyWalls_53 rfl (sx_vcall dX12_copyWalls_54 cf_X12_refuse (mg_7 (List.mem_of_getElem? (i := 128) rfl) rfl) (mg_7 (List.mem_of_getElem? (i := 130) rfl) rfl) (mg_p (List.mem_of_getElem? (i := 54) rfl) rfl) rfl c_X12_refuse (sx_iret dX12_copyWalls_57 rfl)))))))))) (sx_aload_n dX12_copyWalls_36 rfl (sx_iconst dX12_copyWalls_37 rfl (sx_vcall dX12_copyWalls_38 cf_X12_refuse (mg_7 (List.mem_of_getElem? (i := 128) rfl) rfl) (mg_7 (List.mem_of_getElem? (i := 130) rfl) rfl) (mg_p (List.mem_of_getElem? (i := 54) rfl) rfl) rfl c_X12_refuse (sx_iret dX12_copyWalls_41 rfl))))))))))))))))))) (sx_aload_n dX12_copyWalls_7 rfl (sx_iconst dX12_copyWalls_8 rfl (sx_vcall dX12_copyWalls_9 cf_X12_refuse (mg_7 (List.mem_of_getElem? (i := 128) rfl) rfl) (mg_7 (List.mem_of_getElem? (i := 130) rfl) rfl) (mg_p (List.mem_of_getElem? (i := 54) rfl) rfl) rfl c_X12_refuse (sx_iret dX12_copyWalls_12 rfl))))))
