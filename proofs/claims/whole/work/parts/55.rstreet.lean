/-! the reference: street() -/
theorem dX12_begins_0 : decode cX12_begins 0 = .ok (.iload_n 1, 1) := by decide +kernel
theorem dX12_begins_1 : decode cX12_begins 1 = .ok (.ifCond .lt 16, 3) := by decide +kernel
theorem dX12_begins_4 : decode cX12_begins 4 = .ok (.iload_n 1, 1) := by decide +kernel
theorem dX12_begins_5 : decode cX12_begins 5 = .ok (.aload_n 0, 1) := by decide +kernel
theorem dX12_begins_6 : decode cX12_begins 6 = .ok (.getfield 99, 3) := by decide +kernel
theorem dX12_begins_9 : decode cX12_begins 9 = .ok (.if_icmp .gt 8, 3) := by decide +kernel
theorem dX12_begins_12 : decode cX12_begins 12 = .ok (.iload_n 1, 1) := by decide +kernel
theorem dX12_begins_13 : decode cX12_begins 13 = .ok (.iload_n 2, 1) := by decide +kernel
theorem dX12_begins_14 : decode cX12_begins 14 = .ok (.if_icmp .le 5, 3) := by decide +kernel
theorem dX12_begins_17 : decode cX12_begins 17 = .ok (.iconst 0, 1) := by decide +kernel
theorem dX12_begins_18 : decode cX12_begins 18 = .ok (.ireturn, 1) := by decide +kernel
theorem dX12_begins_19 : decode cX12_begins 19 = .ok (.aload_n 0, 1) := by decide +kernel
theorem dX12_begins_20 : decode cX12_begins 20 = .ok (.iload_n 1, 1) := by decide +kernel
theorem dX12_begins_21 : decode cX12_begins 21 = .ok (.putfield 105, 3) := by decide +kernel
theorem dX12_begins_24 : decode cX12_begins 24 = .ok (.iconst 0, 1) := by decide +kernel
theorem dX12_begins_25 : decode cX12_begins 25 = .ok (.istore_n 3, 1) := by decide +kernel
theorem dX12_begins_26 : decode cX12_begins 26 = .ok (.iload_n 3, 1) := by decide +kernel
theorem dX12_begins_27 : decode cX12_begins 27 = .ok (.iload_n 1, 1) := by decide +kernel
theorem dX12_begins_28 : decode cX12_begins 28 = .ok (.if_icmp .ge 21, 3) := by decide +kernel
theorem dX12_begins_31 : decode cX12_begins 31 = .ok (.aload_n 0, 1) := by decide +kernel
theorem dX12_begins_32 : decode cX12_begins 32 = .ok (.getfield 34, 3) := by decide +kernel
theorem dX12_begins_35 : decode cX12_begins 35 = .ok (.iload_n 3, 1) := by decide +kernel
theorem dX12_begins_36 : decode cX12_begins 36 = .ok (.aload_n 0, 1) := by decide +kernel
theorem dX12_begins_37 : decode cX12_begins 37 = .ok (.getfield 30, 3) := by decide +kernel
theorem dX12_begins_40 : decode cX12_begins 40 = .ok (.iload_n 3, 1) := by decide +kernel
theorem dX12_begins_41 : decode cX12_begins 41 = .ok (.baload, 1) := by decide +kernel
theorem dX12_begins_42 : decode cX12_begins 42 = .ok (.bastore, 1) := by decide +kernel
theorem dX12_begins_43 : decode cX12_begins 43 = .ok (.iinc 3 1, 3) := by decide +kernel
theorem dX12_begins_46 : decode cX12_begins 46 = .ok (.goto (-20), 3) := by decide +kernel
theorem dX12_begins_49 : decode cX12_begins 49 = .ok (.aload_n 0, 1) := by decide +kernel
theorem dX12_begins_50 : decode cX12_begins 50 = .ok (.iconst 0, 1) := by decide +kernel
theorem dX12_begins_51 : decode cX12_begins 51 = .ok (.putfield 99, 3) := by decide +kernel
theorem dX12_begins_54 : decode cX12_begins 54 = .ok (.aload_n 0, 1) := by decide +kernel
theorem dX12_begins_55 : decode cX12_begins 55 = .ok (.iconst 0, 1) := by decide +kernel
theorem dX12_begins_56 : decode cX12_begins 56 = .ok (.putfield 145, 3) := by decide +kernel
theorem dX12_begins_59 : decode cX12_begins 59 = .ok (.aload_n 0, 1) := by decide +kernel
theorem dX12_begins_60 : decode cX12_begins 60 = .ok (.iconst (-1), 1) := by decide +kernel
theorem dX12_begins_61 : decode cX12_begins 61 = .ok (.putfield 41, 3) := by decide +kernel
theorem dX12_begins_64 : decode cX12_begins 64 = .ok (.aload_n 0, 1) := by decide +kernel
theorem dX12_begins_65 : decode cX12_begins 65 = .ok (.iconst 0, 1) := by decide +kernel
theorem dX12_begins_66 : decode cX12_begins 66 = .ok (.putfield 108, 3) := by decide +kernel
theorem dX12_begins_69 : decode cX12_begins 69 = .ok (.aload_n 0, 1) := by decide +kernel
theorem dX12_begins_70 : decode cX12_begins 70 = .ok (.iconst 0, 1) := by decide +kernel
theorem dX12_begins_71 : decode cX12_begins 71 = .ok (.putfield 148, 3) := by decide +kernel
theorem dX12_begins_74 : decode cX12_begins 74 = .ok (.aload_n 0, 1) := by decide +kernel
theorem dX12_begins_75 : decode cX12_begins 75 = .ok (.invokevirtual 151, 3) := by decide +kernel
theorem dX12_begins_78 : decode cX12_begins 78 = .ok (.iconst 1, 1) := by decide +kernel
theorem dX12_begins_79 : decode cX12_begins 79 = .ok (.ireturn, 1) := by decide +kernel
abbrev M_X12_begins : MT := (yX12_begins, cX12_begins, 4, (some .boolean))
theorem cf_X12_begins : fq_cf M_X12_begins 2 := ⟨(mg_1 (List.mem_of_getElem? (i := 15) rfl) rfl), (mg_7 (List.mem_of_getElem? (i := 111) rfl) rfl), ⟨by decide, by decide, by decide +kernel⟩, by decide⟩
def B_X12_begins_26 (l : Launch) (G : GT) (D mc ms : Nat) (Q : Post) : Cn := ix_iload 3 (ix_iload 1 (ix_icmp_ge (ix_aload 0 (ix_pushI 0 (ix_putI 12 10 (ix_aload 0 (ix_pushI 0 (ix_putI 12 18 (ix_aload 0 (ix_pushI (-1) (ix_putI 12 17 (ix_aload 0 (ix_pushI 0 (ix_putI 12 14 (ix_aload 0 (ix_pushI 0 (ix_putI 12 19 (ix_aload 0 (ix_vcall 12 1 0 0 mc ms (sp_X12_ahead G) (ix_pushI 1 (ix_zret mc ms Q))))))))))))))))))) (ix_aload 0 (ix_getR 12 9 (ix_iload 3 (ix_aload 0 (ix_getR 12 8 (ix_iload 3 (ix_bald (ix_bast (ix_iinc 3 1 (fqAt l G M_X12_begins (D + 2) mc ms Q 26))))))))))))
theorem b_X12_begins_26 {l : Launch} {G : GT} {D mc ms : Nat} {Q : Post} : Imp l G M_X12_begins (D + 2) mc ms Q (B_X12_begins_26 l G D mc ms Q) 26 := sx_iload_n dX12_begins_26 rfl (sx_iload_n dX12_begins_27 rfl (sx_icmp_ge 49 dX12_begins_28 (by decide) (sx_aload_n dX12_begins_49 rfl (sx_iconst dX12_begins_50 rfl (sx_putI dX12_begins_51 fl_FootQuarrelModel_99 (by decide) (fun _ _ _ => rfl) (fun _ => ⟨rfl, rfl⟩) (sx_aload_n dX12_begins_54 rfl (sx_iconst dX12_begins_55 rfl (sx_putI dX12_begins_56 fl_FootQuarrelModel_145 (by decide) (fun _ _ _ => rfl) (fun _ => ⟨rfl, rfl⟩) (sx_aload_n dX12_begins_59 rfl (sx_iconst dX12_begins_60 rfl (sx_putI dX12_begins_61 fl_FootQuarrelModel_41 (by decide) (fun _ _ _ => rfl) (fun _ => ⟨rfl, rfl⟩) (sx_aload_n dX12_begins_64 rfl (sx_iconst dX12_begins_65 rfl (sx_putI dX12_begins_66 fl_FootQuarrelModel_108 (by decide) (fun _ _ _ => rfl) (fun _ => ⟨rfl, rfl⟩) (sx_aload_n dX12_begins_69 rfl (sx_iconst dX12_begins_70 rfl (sx_putI dX12_begins_71 fl_FootQuarrelModel_148 (by decide) (fun _ _ _ => rfl) (fun _ => ⟨rfl, rfl⟩) (sx_aload_n dX12_begins_74 rfl (sx_vcall dX12_begins_75 cf_X12_ahead (mg_7 (List.mem_of_getElem? (i := 112) rfl) rfl) (mg_7 (List.mem_of_getElem? (i := 114) rfl) rfl) (mg_p (List.mem_of_getElem? (i := 52) rfl) rfl) rfl c_X12_ahead (sx_iconst dX12_begins_78 rfl (sx_zret dX12_begins_79 rfl))))))))))))))))))) (sx_aload_n dX12_begins_31 rfl (sx_getR dX12_begins_32 fl_FootQuarrelModel_34 (fun _ _ _ => rfl) (sx_iload_n dX12_begins_35 rfl (sx_aload_n dX12_begins_36 rfl (sx_getR dX12_begins_37 fl_FootQuarrelModel_30 (fun _ _ _ => rfl) (sx_iload_n dX12_begins_40 rfl (sx_bald dX12_begins_41 (sx_bast dX12_begins_42 (sx_iinc dX12_begins_43 rfl (by decide) (sx_goto 26 dX12_begins_46 (by decide) ((fun _ _ _ _ _ _ _ _ h => h))))))))))))))
def B_X12_begins_17 (l : Launch) (G : GT) (D mc ms : Nat) (Q : Post) : Cn := ix_pushI 0 (ix_zret mc ms Q)
theorem b_X12_begins_17 {l : Launch} {G : GT} {D mc ms : Nat} {Q : Post} : Imp l G M_X12_begins (D + 2) mc ms Q (B_X12_begins_17 l G D mc ms Q) 17 := sx_iconst dX12_begins_17 rfl (sx_zret dX12_begins_18 rfl)
def B_X12_begins_0 (l : Launch) (G : GT) (D mc ms : Nat) (Q : Post) : Cn := ix_iload 1 (ix_if_lt ((B_X12_begins_17 l G D mc ms Q)) (ix_iload 1 (ix_aload 0 (ix_getI 12 10 (ix_icmp_gt ((B_X12_begins_17 l G D mc ms Q)) (ix_iload 1 (ix_iload 2 (ix_icmp_le (ix_aload 0 (ix_iload 1 (ix_putI 12 11 (ix_pushI 0 (ix_istore 3 (fqAt l G M_X12_begins (D + 2) mc ms Q 26)))))) ((B_X12_begins_17 l G D mc ms Q))))))))))
theorem b_X12_begins_0 {l : Launch} {G : GT} {D mc ms : Nat} {Q : Post} : Imp l G M_X12_begins (D + 2) mc ms Q (B_X12_begins_0 l G D mc ms Q) 0 := sx_iload_n dX12_begins_0 rfl (sx_if_lt 17 dX12_begins_1 (by decide) (b_X12_begins_17) (sx_iload_n dX12_begins_4 rfl (sx_aload_n dX12_begins_5 rfl (sx_getI dX12_begins_6 fl_FootQuarrelModel_99 (fun _ _ _ => rfl) (sx_icmp_gt 17 dX12_begins_9 (by decide) (b_X12_begins_17) (sx_iload_n dX12_begins_12 rfl (sx_iload_n dX12_begins_13 rfl (sx_icmp_le 19 dX12_begins_14 (by decide) (sx_aload_n dX12_begins_19 rfl (sx_iload_n dX12_begins_20 rfl (sx_putI dX12_begins_21 fl_FootQuarrelModel_105 (by decide) (fun _ _ _ => rfl) (fun _ => ⟨rfl, rfl⟩) (sx_iconst dX12_begins_24 rfl (sx_istore_n dX12_begins_25 rfl (by decide) ((fun _ _ _ _ _ _ _ _ h => h))))))) (b_X12_begins_17)))))))))
theorem dX12_plain_0 : decode cX12_plain 0 = .ok (.iconst 0, 1) := by decide +kernel
theorem dX12_plain_1 : decode cX12_plain 1 = .ok (.istore_n 2, 1) := by decide +kernel
theorem dX12_plain_2 : decode cX12_plain 2 = .ok (.iload_n 2, 1) := by decide +kernel
theorem dX12_plain_3 : decode cX12_plain 3 = .ok (.sipush 594, 3) := by decide +kernel
theorem dX12_plain_6 : decode cX12_plain 6 = .ok (.if_icmp .ge 18, 3) := by decide +kernel
theorem dX12_plain_9 : decode cX12_plain 9 = .ok (.aload_n 0, 1) := by decide +kernel
theorem dX12_plain_10 : decode cX12_plain 10 = .ok (.getfield 7, 3) := by decide +kernel
theorem dX12_plain_13 : decode cX12_plain 13 = .ok (.iload_n 1, 1) := by decide +kernel
theorem dX12_plain_14 : decode cX12_plain 14 = .ok (.iload_n 2, 1) := by decide +kernel
theorem dX12_plain_15 : decode cX12_plain 15 = .ok (.iadd, 1) := by decide +kernel
theorem dX12_plain_16 : decode cX12_plain 16 = .ok (.iconst 0, 1) := by decide +kernel
theorem dX12_plain_17 : decode cX12_plain 17 = .ok (.iastore, 1) := by decide +kernel
theorem dX12_plain_18 : decode cX12_plain 18 = .ok (.iinc 2 1, 3) := by decide +kernel
theorem dX12_plain_21 : decode cX12_plain 21 = .ok (.goto (-19), 3) := by decide +kernel
theorem dX12_plain_24 : decode cX12_plain 24 = .ok (.aload_n 0, 1) := by decide +kernel
theorem dX12_plain_25 : decode cX12_plain 25 = .ok (.getfield 7, 3) := by decide +kernel
theorem dX12_plain_28 : decode cX12_plain 28 = .ok (.iload_n 1, 1) := by decide +kernel
theorem dX12_plain_29 : decode cX12_plain 29 = .ok (.iconst 3, 1) := by decide +kernel
theorem dX12_plain_30 : decode cX12_plain 30 = .ok (.iadd, 1) := by decide +kernel
theorem dX12_plain_31 : decode cX12_plain 31 = .ok (.iconst 1, 1) := by decide +kernel
theorem dX12_plain_32 : decode cX12_plain 32 = .ok (.iastore, 1) := by decide +kernel
theorem dX12_plain_33 : decode cX12_plain 33 = .ok (.aload_n 0, 1) := by decide +kernel
theorem dX12_plain_34 : decode cX12_plain 34 = .ok (.getfield 7, 3) := by decide +kernel
theorem dX12_plain_37 : decode cX12_plain 37 = .ok (.iload_n 1, 1) := by decide +kernel
theorem dX12_plain_38 : decode cX12_plain 38 = .ok (.iconst 4, 1) := by decide +kernel
theorem dX12_plain_39 : decode cX12_plain 39 = .ok (.iadd, 1) := by decide +kernel
theorem dX12_plain_40 : decode cX12_plain 40 = .ok (.iconst 2, 1) := by decide +kernel
theorem dX12_plain_41 : decode cX12_plain 41 = .ok (.iastore, 1) := by decide +kernel
theorem dX12_plain_42 : decode cX12_plain 42 = .ok (.aload_n 0, 1) := by decide +kernel
theorem dX12_plain_43 : decode cX12_plain 43 = .ok (.getfield 7, 3) := by decide +kernel
theorem dX12_plain_46 : decode cX12_plain 46 = .ok (.iload_n 1, 1) := by decide +kernel
theorem dX12_plain_47 : decode cX12_plain 47 = .ok (.iconst 5, 1) := by decide +kernel
theorem dX12_plain_48 : decode cX12_plain 48 = .ok (.iadd, 1) := by decide +kernel
theorem dX12_plain_49 : decode cX12_plain 49 = .ok (.iconst 4, 1) := by decide +kernel
theorem dX12_plain_50 : decode cX12_plain 50 = .ok (.iastore, 1) := by decide +kernel
theorem dX12_plain_51 : decode cX12_plain 51 = .ok (.aload_n 0, 1) := by decide +kernel
theorem dX12_plain_52 : decode cX12_plain 52 = .ok (.getfield 7, 3) := by decide +kernel
theorem dX12_plain_55 : decode cX12_plain 55 = .ok (.iload_n 1, 1) := by decide +kernel
theorem dX12_plain_56 : decode cX12_plain 56 = .ok (.bipush 11, 2) := by decide +kernel
theorem dX12_plain_58 : decode cX12_plain 58 = .ok (.iadd, 1) := by decide +kernel
theorem dX12_plain_59 : decode cX12_plain 59 = .ok (.iconst (-1), 1) := by decide +kernel
theorem dX12_plain_60 : decode cX12_plain 60 = .ok (.iastore, 1) := by decide +kernel
theorem dX12_plain_61 : decode cX12_plain 61 = .ok (.return_, 1) := by decide +kernel
abbrev M_X12_plain : MT := (yX12_plain, cX12_plain, 3, none)
theorem cf_X12_plain : fq_cf M_X12_plain 1 := ⟨(mg_1 (List.mem_of_getElem? (i := 15) rfl) rfl), (mg_6 (List.mem_of_getElem? (i := 179) rfl) rfl), ⟨by decide, by decide, by decide +kernel⟩, by decide⟩
def B_X12_plain_2 (l : Launch) (G : GT) (D mc ms : Nat) (Q : Post) : Cn := ix_iload 2 (ix_pushI 594 (ix_icmp_ge (ix_aload 0 (ix_getR 12 0 (ix_iload 1 (ix_pushI 3 (ix_iadd (ix_pushI 1 (ix_iast (ix_aload 0 (ix_getR 12 0 (ix_iload 1 (ix_pushI 4 (ix_iadd (ix_pushI 2 (ix_iast (ix_aload 0 (ix_getR 12 0 (ix_iload 1 (ix_pushI 5 (ix_iadd (ix_pushI 4 (ix_iast (ix_aload 0 (ix_getR 12 0 (ix_iload 1 (ix_pushI 11 (ix_iadd (ix_pushI (-1) (ix_iast (ix_vret mc ms Q))))))))))))))))))))))))))))) (ix_aload 0 (ix_getR 12 0 (ix_iload 1 (ix_iload 2 (ix_iadd (ix_pushI 0 (ix_iast (ix_iinc 2 1 (fqAt l G M_X12_plain (D + 0) mc ms Q 2)))))))))))
theorem b_X12_plain_2 {l : Launch} {G : GT} {D mc ms : Nat} {Q : Post} : Imp l G M_X12_plain (D + 0) mc ms Q (B_X12_plain_2 l G D mc ms Q) 2 := sx_iload_n dX12_plain_2 rfl (sx_sipush dX12_plain_3 rfl (sx_icmp_ge 24 dX12_plain_6 (by decide) (sx_aload_n dX12_plain_24 rfl (sx_getR dX12_plain_25 fl_FootQuarrelModel_7 (fun _ _ _ => rfl) (sx_iload_n dX12_plain_28 rfl (sx_iconst dX12_plain_29 rfl (sx_iadd dX12_plain_30 (sx_iconst dX12_plain_31 rfl (sx_iast dX12_plain_32 (sx_aload_n dX12_plain_33 rfl (sx_getR dX12_plain_34 fl_FootQuarrelModel_7 (fun _ _ _ => rfl) (sx_iload_n dX12_plain_37 rfl (sx_iconst dX12_plain_38 rfl (sx_iadd dX12_plain_39 (sx_iconst dX12_plain_40 rfl (sx_iast dX12_plain_41 (sx_aload_n dX12_plain_42 rfl (sx_getR dX12_plain_43 fl_FootQuarrelModel_7 (fun _ _ _ => rfl) (sx_iload_n dX12_plain_46 rfl (sx_iconst dX12_plain_47 rfl (sx_iadd dX12_plain_48 (sx_iconst dX12_plain_49 rfl (sx_iast dX12_plain_50 (sx_aload_n dX12_plain_51 rfl (sx_getR dX12_plain_52 fl_FootQuarrelModel_7 (fun _ _ _ => rfl) (sx_iload_n dX12_plain_55 rfl (sx_bipush dX12_plain_56 rfl (sx_iadd dX12_plain_58 (sx_iconst dX12_plain_59 rfl (sx_iast dX12_plain_60 (sx_vret dX12_plain_61 rfl))))))))))))))))))))))))))))) (sx_aload_n dX12_plain_9 rfl (sx_getR dX12_plain_10 fl_FootQuarrelModel_7 (fun _ _ _ => rfl) (sx_iload_n dX12_plain_13 rfl (sx_iload_n dX12_plain_14 rfl (sx_iadd dX12_plain_15 (sx_iconst dX12_plain_16 rfl (sx_iast dX12_plain_17 (sx_iinc dX12_plain_18 rfl (by decide) (sx_goto 2 dX12_plain_21 (by decide) ((fun _ _ _ _ _ _ _ _ h => h)))))))))))))
def B_X12_plain_0 (l : Launch) (G : GT) (D mc ms : Nat) (Q : Post) : Cn := ix_pushI 0 (ix_istore 2 (fqAt l G M_X12_plain (D + 0) mc ms Q 2))
theorem b_X12_plain_0 {l : Launch} {G : GT} {D mc ms : Nat} {Q : Post} : Imp l G M_X12_plain (D + 0) mc ms Q (B_X12_plain_0 l G D mc ms Q) 0 := sx_iconst dX12_plain_0 rfl (sx_istore_n dX12_plain_1 rfl (by decide) ((fun _ _ _ _ _ _ _ _ h => h)))
theorem dX12_taken_0 : decode cX12_taken 0 = .ok (.aload_n 0, 1) := by decide +kernel
theorem dX12_taken_1 : decode cX12_taken 1 = .ok (.aload_n 0, 1) := by decide +kernel
theorem dX12_taken_2 : decode cX12_taken 2 = .ok (.getfield 145, 3) := by decide +kernel
theorem dX12_taken_5 : decode cX12_taken 5 = .ok (.putfield 37, 3) := by decide +kernel
theorem dX12_taken_8 : decode cX12_taken 8 = .ok (.aload_n 0, 1) := by decide +kernel
theorem dX12_taken_9 : decode cX12_taken 9 = .ok (.getfield 145, 3) := by decide +kernel
theorem dX12_taken_12 : decode cX12_taken 12 = .ok (.ifCond .le 12, 3) := by decide +kernel
theorem dX12_taken_15 : decode cX12_taken 15 = .ok (.aload_n 0, 1) := by decide +kernel
theorem dX12_taken_16 : decode cX12_taken 16 = .ok (.bipush 9, 2) := by decide +kernel
theorem dX12_taken_18 : decode cX12_taken 18 = .ok (.invokevirtual 75, 3) := by decide +kernel
theorem dX12_taken_21 : decode cX12_taken 21 = .ok (.goto 8, 3) := by decide +kernel
theorem dX12_taken_24 : decode cX12_taken 24 = .ok (.aload_n 0, 1) := by decide +kernel
theorem dX12_taken_25 : decode cX12_taken 25 = .ok (.iload_n 1, 1) := by decide +kernel
theorem dX12_taken_26 : decode cX12_taken 26 = .ok (.invokevirtual 79, 3) := by decide +kernel
theorem dX12_taken_29 : decode cX12_taken 29 = .ok (.ireturn, 1) := by decide +kernel
abbrev M_X12_taken : MT := (yX12_taken, cX12_taken, 2, (some .int))
theorem cf_X12_taken : fq_cf M_X12_taken 1 := ⟨(mg_1 (List.mem_of_getElem? (i := 15) rfl) rfl), (mg_7 (List.mem_of_getElem? (i := 203) rfl) rfl), ⟨by decide, by decide, by decide +kernel⟩, by decide⟩
def B_X12_taken_29 (G : GT) (mc ms : Nat) (Q : Post) : Cn := ix_iret mc ms Q
theorem b_X12_taken_29 {l : Launch} {G : GT} {D mc ms : Nat} {Q : Post} : Imp l G M_X12_taken (D + 1) mc ms Q (B_X12_taken_29 G mc ms Q) 29 := sx_iret dX12_taken_29 rfl
def B_X12_taken_0 (G : GT) (mc ms : Nat) (Q : Post) : Cn := ix_aload 0 (ix_aload 0 (ix_getI 12 18 (ix_putI 12 16 (ix_aload 0 (ix_getI 12 18 (ix_if_le (ix_aload 0 (ix_iload 1 (ix_vcall 12 2 0 0 mc ms (sp_X12_gives G) ((B_X12_taken_29 G mc ms Q))))) (ix_aload 0 (ix_pushI 9 (ix_vcall 12 2 0 0 mc ms (sp_X12_refuse G) ((B_X12_taken_29 G mc ms Q)))))))))))
theorem b_X12_taken_0 {l : Launch} {G : GT} {D mc ms : Nat} {Q : Post} : Imp l G M_X12_taken (D + 1) mc ms Q (B_X12_taken_0 G mc ms Q) 0 := sx_aload_n dX12_taken_0 rfl (sx_aload_n dX12_taken_1 rfl (sx_getI dX12_taken_2 fl_FootQuarrelModel_145 (fun _ _ _ => rfl) (sx_putI dX12_taken_5 fl_FootQuarrelModel_37 (by decide) (fun _ _ _ => rfl) (fun _ => ⟨rfl, rfl⟩) (sx_aload_n dX12_taken_8 rfl (sx_getI dX12_taken_9 fl_FootQuarrelModel_145 (fun _ _ _ => rfl) (sx_if_le 24 dX12_taken_12 (by decide) (sx_aload_n dX12_taken_24 rfl (sx_iload_n dX12_taken_25 rfl (sx_vcall dX12_taken_26 cf_X12_gives (mg_7 (List.mem_of_getElem? (i := 204) rfl) rfl) (mg_7 (List.mem_of_getElem? (i := 206) rfl) rfl) (mg_p (List.mem_of_getElem? (i := 72) rfl) rfl) rfl c_X12_gives (b_X12_taken_29)))) (sx_aload_n dX12_taken_15 rfl (sx_bipush dX12_taken_16 rfl (sx_vcall dX12_taken_18 cf_X12_refuse (mg_7 (List.mem_of_getElem? (i := 128) rfl) rfl) (mg_7 (List.mem_of_getElem? (i := 130) rfl) rfl) (mg_p (List.mem_of_getElem? (i := 54) rfl) rfl) rfl c_X12_refuse (sx_goto 29 dX12_taken_21 (by decide) (b_X12_taken_29)))))))))))
def sp_X12_taken (G : GT) : Sp := fun as S I J z Q => match as with
  | [.ref a0, .int a1] => B_X12_taken_0 G 0 0 Q [some (.ref a0), some (.int a1)] [] S I J z 0 0
  | _ => False
theorem c_X12_taken {l : Launch} {G : GT} {D : Nat} : ∀ as S I J z Q, sp_X12_taken G as S I J z Q → fqCall l G M_X12_taken (D + 1) 0 0 as S I J z Q := by
  intro as S I J z Q h
  unfold sp_X12_taken at h
  split at h
  · exact fq_enter _ (by decide +kernel) (Nat.le_of_ble_eq_true rfl) rfl (b_X12_taken_0 _ _ _ _ _ _ _ _ h)
  · exact h.elim
def tpC (T P : Nat → Int32) (n : Nat) : Nat → Int32 := fun k => if k < n then vp_nar .byte (P k) else T k
theorem tpC_0 (T P : Nat → Int32) : tpC T P 0 = T := by
  funext k
  unfold tpC
  rw [if_neg (by omega)]
theorem tpC_s (T P : Nat → Int32) (n : Nat) : uA (tpC T P n) n (vp_nar .byte (P n)) = tpC T P (n + 1) := by
  funext k
  unfold uA tpC
  by_cases h : k = n
  · rw [if_pos h, if_pos (by omega), h]
  · rw [if_neg h]
    by_cases h2 : k < n
    · rw [if_pos h2, if_pos (by omega)]
    · rw [if_neg h2, if_neg (by omega)]
/-- a text begun -/
def bgQ (M : Nat) (I I' : IH) (n : Nat) : Prop := (∀ a, a ≠ M → a ≠ M + 7 → I' a = I a) ∧ (∀ k, k ≠ 10 → k ≠ 11 → k ≠ 12 → k ≠ 13 → k ≠ 14 → k ≠ 15 → k ≠ 17 → k ≠ 18 → k ≠ 19 → I' M k = I M k) ∧ I' (M + 7) = tpC (I (M + 7)) (I (M + 6)) n ∧ I' M 10 = 0 ∧ I' M 17 = -1 ∧ I' M 18 = 0 ∧ tkH M I' n 0
abbrev bgC (n t m : Int32) : Prop := ¬ n < 0 ∧ n ≤ t ∧ n ≤ m
def sp_X12_begins (G : GT) : Sp := fun as S I J z Q => match as with
  | [.ref M, .int a, .int m] => rfS S M ∧ m ≤ 900 ∧ (¬ bgC a (I M 10) m → Q (some (.int 0)) S I J z) ∧ (bgC a (I M 10) m → ∀ n, a = nI n → n ≤ 900 → ∀ I', bgQ M I I' n → Q (some (.int 1)) S I' J z)
  | _ => False
set_option maxHeartbeats 4000000 in
set_option maxRecDepth 20000 in
theorem c_X12_begins {l : Launch} {G : GT} {D : Nat} : ∀ as S I J z Q, sp_X12_begins G as S I J z Q → fqCall l G M_X12_begins (D + 2) 0 0 as S I J z Q := by
  intro as S I J z Q h
  unfold sp_X12_begins at h
  split at h
  · next M a m =>
    obtain ⟨hm, hm9, hQ1, hQ2⟩ := h
    by_cases h0 : bgC a (I M 10) m
    · have hq := hQ2 h0
      obtain ⟨h1, h2, h3⟩ := h0
      obtain ⟨n, hn9, rfl⟩ := nI_of h1
      have hn : n ≤ 900 := (nI_leI (a := n) (b := 900) hn9 (by decide)).mp (Int32.le_trans h3 hm9)
      have hq := hq n rfl hn
      have u6 : ∀ v w T, up1 (u2 I M 11 w) (M + 7) T (M + 6) v = I (M + 6) v := fun v w T => by rw [up1_o _ _ _ _ (by omega), u2_ca _ _ _ _ _ _ (by omega)]
      have lp := loopU (α := Unit) (N := n) (f := fun _ u => u) (B := fun i _ => fqAt l G M_X12_begins (D + 2) 0 0 Q 26 [some (.ref M), some (.int (nI n)), some (.int m), some (.int (nI i))] [] S (up1 (u2 I M 11 (nI n)) (M + 7) (tpC (I (M + 7)) (I (M + 6)) i)) J z 0 0) (by
        intro i u hi hb
        have e1 := tpC_s (I (M + 7)) (I (M + 6)) i
        refine b_X12_begins_26 _ _ _ _ _ _ _ _ ?_
        simp (disch := omega) only [B_X12_begins_0, B_X12_begins_17, B_X12_begins_26, sp_X12_ahead, hm, hm.k, hm.k1, hm.n1, hm.r1, hm.k2, hm.n2, hm.r2, hm.k3, hm.n3, hm.r3, hm.k4, hm.n4, hm.r4, hm.k5, hm.n5, hm.r5, hm.k6, hm.n6, hm.r6, hm.k7, hm.n7, hm.r7, hm.k8, hm.n8, hm.r8, hm.k9, hm.n9, hm.r9, hm.k10, hm.n10, hm.r10, hm.k11, hm.n11, hm.r11, hm.k12, hm.n12, hm.r12, hm.k13, hm.n13, hm.r13, hm.k14, hm.n14, hm.r14, u2_up, u6, e1, nI_1, nI_add, nI_clamp, nI_pin, nI_neg, nI_nonneg, nI_leE, nI_ltE, nI_eqE, Nat.not_le, Nat.not_lt, fq_10, fq_01, fq_rr, ix_aald, ix_aast, ix_abs, ix_alen, ix_aload, ix_aret, ix_astore, ix_bald, ix_bast, ix_call, ix_cpyI, ix_cpyJ, ix_dead, ix_dup2, ix_dup2L, ix_dupI, ix_dupR, ix_dupx1, ix_getI, ix_getJ, ix_getR, ix_gfm, ix_gtab, ix_i2b, ix_i2c, ix_i2l, ix_i2s, ix_iadd, ix_iald, ix_iand, ix_iast, ix_icall, ix_icmp_eq, ix_icmp_ge, ix_icmp_gt, ix_icmp_le, ix_icmp_lt, ix_icmp_ne, ix_idiv, ix_if_eq, ix_if_ge, ix_if_gt, ix_if_le, ix_if_lt, ix_if_ne, ix_iinc, ix_iload, ix_imul, ix_ineg, ix_ior, ix_irem, ix_iret, ix_ishl, ix_ishr, ix_istore, ix_isub, ix_iushr, ix_ixor, ix_l2i, ix_ladd, ix_lald, ix_land, ix_last, ix_lcmp, ix_ldcS, ix_ldiv, ix_lload, ix_lmul, ix_lor, ix_lrem, ix_lret, ix_lshl, ix_lstore, ix_lsub, ix_lsw, ix_max, ix_min, ix_new, ix_newa, ix_nret, ix_oinit, ix_pop2L, ix_popI, ix_pushI, ix_pushL, ix_putI, ix_putJ, ix_putR, ix_putZ, ix_sbald, ix_sgetC, ix_sgetV, ix_slen, ix_strc, ix_tald, ix_tsw, ix_vcall, ix_vret, ix_zret, stL, stL2, kilL, popN, fq_sw, fq_lsw, List.map_cons, List.map_nil, List.getElem?_cons_zero, List.getElem?_cons_succ, Option.toList_some, Option.toList_none, List.cons_append, List.nil_append, List.length_cons, List.length_nil, List.sum_cons, List.sum_nil, cat_i, cat_l, cat_r, true_and, and_true, Nat.zero_add, Nat.add_zero, Nat.le_refl, Nat.zero_le, Nat.reduceAdd, Nat.reduceLeDiff, exists_eq_left', Option.some.injEq, not_true_eq_false, not_false_eq_true, false_implies, true_implies, implies_true, and_self, or_true, true_or, or_false, false_or]
        exact ⟨fun h => absurd h (by omega), fun _ => hb⟩) n 0 () (by omega)
      have e0 : up1 (u2 I M 11 (nI n)) (M + 7) (tpC (I (M + 7)) (I (M + 6)) 0) = u2 I M 11 (nI n) := by
        rw [tpC_0]
        have : I (M + 7) = u2 I M 11 (nI n) (M + 7) := (u2_ne (by omega)).symm
        rw [this, up1_id]
      rw [e0] at lp
      refine fq_enter [some (.ref M), some (.int (nI n)), some (.int m), none] (by decide +kernel) (Nat.le_of_ble_eq_true rfl) rfl (b_X12_begins_0 _ _ _ _ _ _ _ _ ?_)
      simp (disch := omega) only [B_X12_begins_0, B_X12_begins_17, B_X12_begins_26, sp_X12_ahead, hm, hm.k, hm.k1, hm.n1, hm.r1, hm.k2, hm.n2, hm.r2, hm.k3, hm.n3, hm.r3, hm.k4, hm.n4, hm.r4, hm.k5, hm.n5, hm.r5, hm.k6, hm.n6, hm.r6, hm.k7, hm.n7, hm.r7, hm.k8, hm.n8, hm.r8, hm.k9, hm.n9, hm.r9, hm.k10, hm.n10, hm.r10, hm.k11, hm.n11, hm.r11, hm.k12, hm.n12, hm.r12, hm.k13, hm.n13, hm.r13, hm.k14, hm.n14, hm.r14, nI_1, nI_add, nI_clamp, nI_pin, nI_neg, nI_nonneg, nI_leE, nI_ltE, nI_eqE, Nat.not_le, Nat.not_lt, fq_10, fq_01, fq_rr, ix_aald, ix_aast, ix_abs, ix_alen, ix_aload, ix_aret, ix_astore, ix_bald, ix_bast, ix_call, ix_cpyI, ix_cpyJ, ix_dead, ix_dup2, ix_dup2L, ix_dupI, ix_dupR, ix_dupx1, ix_getI, ix_getJ, ix_getR, ix_gfm, ix_gtab, ix_i2b, ix_i2c, ix_i2l, ix_i2s, ix_iadd, ix_iald, ix_iand, ix_iast, ix_icall, ix_icmp_eq, ix_icmp_ge, ix_icmp_gt, ix_icmp_le, ix_icmp_lt, ix_icmp_ne, ix_idiv, ix_if_eq, ix_if_ge, ix_if_gt, ix_if_le, ix_if_lt, ix_if_ne, ix_iinc, ix_iload, ix_imul, ix_ineg, ix_ior, ix_irem, ix_iret, ix_ishl, ix_ishr, ix_istore, ix_isub, ix_iushr, ix_ixor, ix_l2i, ix_ladd, ix_lald, ix_land, ix_last, ix_lcmp, ix_ldcS, ix_ldiv, ix_lload, ix_lmul, ix_lor, ix_lrem, ix_lret, ix_lshl, ix_lstore, ix_lsub, ix_lsw, ix_max, ix_min, ix_new, ix_newa, ix_nret, ix_oinit, ix_pop2L, ix_popI, ix_pushI, ix_pushL, ix_putI, ix_putJ, ix_putR, ix_putZ, ix_sbald, ix_sgetC, ix_sgetV, ix_slen, ix_strc, ix_tald, ix_tsw, ix_vcall, ix_vret, ix_zret, stL, stL2, kilL, popN, fq_sw, fq_lsw, List.map_cons, List.map_nil, List.getElem?_cons_zero, List.getElem?_cons_succ, Option.toList_some, Option.toList_none, List.cons_append, List.nil_append, List.length_cons, List.length_nil, List.sum_cons, List.sum_nil, cat_i, cat_l, cat_r, true_and, and_true, Nat.zero_add, Nat.add_zero, Nat.le_refl, Nat.zero_le, Nat.reduceAdd, Nat.reduceLeDiff, exists_eq_left', Option.some.injEq, not_true_eq_false, not_false_eq_true, false_implies, true_implies, implies_true, and_self, or_true, true_or, or_false, false_or]
      refine ⟨fun h => absurd h2 (Int32.not_le.mpr h), fun _ => ⟨fun _ => lp ?_, fun h => absurd h3 h⟩⟩
      refine b_X12_begins_26 _ _ _ _ _ _ _ _ ?_
      simp (disch := omega) only [B_X12_begins_0, B_X12_begins_17, B_X12_begins_26, sp_X12_ahead, hm, hm.k, hm.k1, hm.n1, hm.r1, hm.k2, hm.n2, hm.r2, hm.k3, hm.n3, hm.r3, hm.k4, hm.n4, hm.r4, hm.k5, hm.n5, hm.r5, hm.k6, hm.n6, hm.r6, hm.k7, hm.n7, hm.r7, hm.k8, hm.n8, hm.r8, hm.k9, hm.n9, hm.r9, hm.k10, hm.n10, hm.r10, hm.k11, hm.n11, hm.r11, hm.k12, hm.n12, hm.r12, hm.k13, hm.n13, hm.r13, hm.k14, hm.n14, hm.r14, nI_1, nI_add, nI_clamp, nI_pin, nI_neg, nI_nonneg, nI_leE, nI_ltE, nI_eqE, Nat.not_le, Nat.not_lt, fq_10, fq_01, fq_rr, ix_aald, ix_aast, ix_abs, ix_alen, ix_aload, ix_aret, ix_astore, ix_bald, ix_bast, ix_call, ix_cpyI, ix_cpyJ, ix_dead, ix_dup2, ix_dup2L, ix_dupI, ix_dupR, ix_dupx1, ix_getI, ix_getJ, ix_getR, ix_gfm, ix_gtab, ix_i2b, ix_i2c, ix_i2l, ix_i2s, ix_iadd, ix_iald, ix_iand, ix_iast, ix_icall, ix_icmp_eq, ix_icmp_ge, ix_icmp_gt, ix_icmp_le, ix_icmp_lt, ix_icmp_ne, ix_idiv, ix_if_eq, ix_if_ge, ix_if_gt, ix_if_le, ix_if_lt, ix_if_ne, ix_iinc, ix_iload, ix_imul, ix_ineg, ix_ior, ix_irem, ix_iret, ix_ishl, ix_ishr, ix_istore, ix_isub, ix_iushr, ix_ixor, ix_l2i, ix_ladd, ix_lald, ix_land, ix_last, ix_lcmp, ix_ldcS, ix_ldiv, ix_lload, ix_lmul, ix_lor, ix_lrem, ix_lret, ix_lshl, ix_lstore, ix_lsub, ix_lsw, ix_max, ix_min, ix_new, ix_newa, ix_nret, ix_oinit, ix_pop2L, ix_popI, ix_pushI, ix_pushL, ix_putI, ix_putJ, ix_putR, ix_putZ, ix_sbald, ix_sgetC, ix_sgetV, ix_slen, ix_strc, ix_tald, ix_tsw, ix_vcall, ix_vret, ix_zret, stL, stL2, kilL, popN, fq_sw, fq_lsw, List.map_cons, List.map_nil, List.getElem?_cons_zero, List.getElem?_cons_succ, Option.toList_some, Option.toList_none, List.cons_append, List.nil_append, List.length_cons, List.length_nil, List.sum_cons, List.sum_nil, cat_i, cat_l, cat_r, true_and, and_true, Nat.zero_add, Nat.add_zero, Nat.le_refl, Nat.zero_le, Nat.reduceAdd, Nat.reduceLeDiff, exists_eq_left', Option.some.injEq, not_true_eq_false, not_false_eq_true, false_implies, true_implies, implies_true, and_self, or_true, true_or, or_false, false_or]
      refine ⟨n, 0, ?_, hn, ?_, by omega, fun I' hF hT => hq I' ⟨fun a x1 x2 => ?_, fun k y1 y2 y3 y4 y5 y6 y7 y8 y9 => ?_, ?_, ?_, ?_, ?_, hT⟩⟩
      · rw [u2_ck _ _ _ _ _ _ (by omega), u2_ck _ _ _ _ _ _ (by omega), u2_ck _ _ _ _ _ _ (by omega), u2_ck _ _ _ _ _ _ (by omega), u2_ck _ _ _ _ _ _ (by omega), up1_o _ _ _ _ (by omega), u2_same]
      · rw [u2_ck _ _ _ _ _ _ (by omega), u2_same]
        rfl
      · rw [hF.1 a x1, u2_ne x1, u2_ne x1, u2_ne x1, u2_ne x1, u2_ne x1, up1_o _ _ _ _ x2, u2_ne x1]
      · rw [hF.2 k y3 y4 y5 y6, u2_ck _ _ _ _ _ _ y9, u2_ck _ _ _ _ _ _ y5, u2_ck _ _ _ _ _ _ y7, u2_ck _ _ _ _ _ _ y8, u2_ck _ _ _ _ _ _ y1, up1_o _ _ _ _ (by omega), u2_ck _ _ _ _ _ _ y2]
      · rw [hF.1 _ (by omega), u2_ne (by omega), u2_ne (by omega), u2_ne (by omega), u2_ne (by omega), u2_ne (by omega), up1_at]
      · rw [hF.2 10 (by omega) (by omega) (by omega) (by omega), u2_ck _ _ _ _ _ _ (by omega), u2_ck _ _ _ _ _ _ (by omega), u2_ck _ _ _ _ _ _ (by omega), u2_ck _ _ _ _ _ _ (by omega), u2_same]
      · rw [hF.2 17 (by omega) (by omega) (by omega) (by omega), u2_ck _ _ _ _ _ _ (by omega), u2_ck _ _ _ _ _ _ (by omega), u2_same]
      · rw [hF.2 18 (by omega) (by omega) (by omega) (by omega), u2_ck _ _ _ _ _ _ (by omega), u2_ck _ _ _ _ _ _ (by omega), u2_ck _ _ _ _ _ _ (by omega), u2_same]
    · have hq := hQ1 h0
      refine fq_enter [some (.ref M), some (.int a), some (.int m), none] (by decide +kernel) (Nat.le_of_ble_eq_true rfl) rfl (b_X12_begins_0 _ _ _ _ _ _ _ _ ?_)
      simp (disch := omega) only [B_X12_begins_0, B_X12_begins_17, B_X12_begins_26, sp_X12_ahead, hm, hm.k, hm.k1, hm.n1, hm.r1, hm.k2, hm.n2, hm.r2, hm.k3, hm.n3, hm.r3, hm.k4, hm.n4, hm.r4, hm.k5, hm.n5, hm.r5, hm.k6, hm.n6, hm.r6, hm.k7, hm.n7, hm.r7, hm.k8, hm.n8, hm.r8, hm.k9, hm.n9, hm.r9, hm.k10, hm.n10, hm.r10, hm.k11, hm.n11, hm.r11, hm.k12, hm.n12, hm.r12, hm.k13, hm.n13, hm.r13, hm.k14, hm.n14, hm.r14, nI_1, nI_add, nI_clamp, nI_pin, nI_neg, nI_nonneg, nI_leE, nI_ltE, nI_eqE, Nat.not_le, Nat.not_lt, fq_10, fq_01, fq_rr, ix_aald, ix_aast, ix_abs, ix_alen, ix_aload, ix_aret, ix_astore, ix_bald, ix_bast, ix_call, ix_cpyI, ix_cpyJ, ix_dead, ix_dup2, ix_dup2L, ix_dupI, ix_dupR, ix_dupx1, ix_getI, ix_getJ, ix_getR, ix_gfm, ix_gtab, ix_i2b, ix_i2c, ix_i2l, ix_i2s, ix_iadd, ix_iald, ix_iand, ix_iast, ix_icall, ix_icmp_eq, ix_icmp_ge, ix_icmp_gt, ix_icmp_le, ix_icmp_lt, ix_icmp_ne, ix_idiv, ix_if_eq, ix_if_ge, ix_if_gt, ix_if_le, ix_if_lt, ix_if_ne, ix_iinc, ix_iload, ix_imul, ix_ineg, ix_ior, ix_irem, ix_iret, ix_ishl, ix_ishr, ix_istore, ix_isub, ix_iushr, ix_ixor, ix_l2i, ix_ladd, ix_lald, ix_land, ix_last, ix_lcmp, ix_ldcS, ix_ldiv, ix_lload, ix_lmul, ix_lor, ix_lrem, ix_lret, ix_lshl, ix_lstore, ix_lsub, ix_lsw, ix_max, ix_min, ix_new, ix_newa, ix_nret, ix_oinit, ix_pop2L, ix_popI, ix_pushI, ix_pushL, ix_putI, ix_putJ, ix_putR, ix_putZ, ix_sbald, ix_sgetC, ix_sgetV, ix_slen, ix_strc, ix_tald, ix_tsw, ix_vcall, ix_vret, ix_zret, stL, stL2, kilL, popN, fq_sw, fq_lsw, List.map_cons, List.map_nil, List.getElem?_cons_zero, List.getElem?_cons_succ, Option.toList_some, Option.toList_none, List.cons_append, List.nil_append, List.length_cons, List.length_nil, List.sum_cons, List.sum_nil, cat_i, cat_l, cat_r, true_and, and_true, Nat.zero_add, Nat.add_zero, Nat.le_refl, Nat.zero_le, Nat.reduceAdd, Nat.reduceLeDiff, exists_eq_left', Option.some.injEq, not_true_eq_false, not_false_eq_true, false_implies, true_implies, implies_true, and_self, or_true, true_or, or_false, false_or]
      exact ⟨fun _ => hq, fun b => ⟨fun _ => hq, fun c => ⟨fun d => absurd ⟨b, Int32.not_lt.mp c, d⟩ h0, fun _ => hq⟩⟩⟩
  · exact h.elim
def plZ (A : Nat → Int32) (b n : Nat) : Nat → Int32 := fun k => if b ≤ k ∧ k < b + n then 0 else A k
def plA (A : Nat → Int32) (b : Nat) : Nat → Int32 := uA (uA (uA (uA (plZ A b 594) (b + 3) 1) (b + 4) 2) (b + 5) 4) (b + 11) (-1)
theorem plZ_0 (A : Nat → Int32) (b : Nat) : plZ A b 0 = A := by
  funext k
  unfold plZ
  rw [if_neg (by omega)]
theorem plZ_s (A : Nat → Int32) (b n : Nat) : uA (plZ A b n) (b + n) 0 = plZ A b (n + 1) := by
  funext k
  unfold uA plZ
  by_cases h : k = b + n
  · rw [if_pos h, if_pos (by omega)]
  · rw [if_neg h]
    by_cases h2 : b ≤ k ∧ k < b + n
    · rw [if_pos h2, if_pos (by omega)]
    · rw [if_neg h2, if_neg (by omega)]
def sp_X12_plain (G : GT) : Sp := fun as S I J z Q => match as with
  | [.ref M, .int a] => rfS S M ∧ ∃ b, a = nI b ∧ b + 594 ≤ 4694 ∧ Q none S (up1 I (M + 1) (plA (I (M + 1)) b)) J z
  | _ => False
set_option maxHeartbeats 4000000 in
set_option maxRecDepth 20000 in
theorem c_X12_plain {l : Launch} {G : GT} {D : Nat} : ∀ as S I J z Q, sp_X12_plain G as S I J z Q → fqCall l G M_X12_plain (D + 0) 0 0 as S I J z Q := by
  intro as S I J z Q h
  unfold sp_X12_plain at h
  split at h
  · next M a =>
    obtain ⟨hm, b, rfl, hb, hQ⟩ := h
    have lp := loopU (α := Unit) (N := 594) (f := fun _ u => u) (B := fun i _ => fqAt l G M_X12_plain (D + 0) 0 0 Q 2 [some (.ref M), some (.int (nI b)), some (.int (nI i))] [] S (up1 I (M + 1) (plZ (I (M + 1)) b i)) J z 0 0) (by
      intro i u hi hbb
      have e1 := plZ_s (I (M + 1)) b i
      refine b_X12_plain_2 _ _ _ _ _ _ _ _ ?_
      simp (disch := omega) only [B_X12_plain_0, B_X12_plain_2, hm, hm.k, hm.k1, hm.n1, hm.r1, hm.k2, hm.n2, hm.r2, hm.k3, hm.n3, hm.r3, hm.k4, hm.n4, hm.r4, hm.k5, hm.n5, hm.r5, hm.k6, hm.n6, hm.r6, hm.k7, hm.n7, hm.r7, hm.k8, hm.n8, hm.r8, hm.k9, hm.n9, hm.r9, hm.k10, hm.n10, hm.r10, hm.k11, hm.n11, hm.r11, hm.k12, hm.n12, hm.r12, hm.k13, hm.n13, hm.r13, hm.k14, hm.n14, hm.r14, li_2, li_3, li_4, li_5, li_6, li_7, li_8, li_9, li_10, li_11, li_12, li_13, li_14, li_15, li_16, li_17, li_18, li_19, li_20, li_21, li_22, li_23, li_24, li_25, li_26, li_27, li_28, li_29, li_30, li_32, li_33, li_34, li_35, li_36, li_37, li_38, li_39, li_40, li_41, li_42, li_43, li_44, li_45, li_46, li_47, li_48, li_49, li_50, li_51, li_52, li_53, li_54, li_55, li_56, li_57, li_58, li_59, li_60, li_61, li_62, li_63, li_64, li_65, li_66, li_67, li_68, li_69, li_70, li_71, li_72, li_73, li_74, li_75, li_76, li_77, li_78, li_79, li_80, li_81, li_82, li_83, li_84, li_85, li_86, li_87, li_88, li_89, li_90, li_91, li_92, li_93, li_94, li_95, li_96, li_97, li_98, li_99, li_100, li_101, li_102, li_103, li_104, li_105, li_106, li_107, li_108, li_109, li_110, li_111, li_112, li_113, li_114, li_115, li_116, li_117, li_118, li_119, li_120, li_121, li_122, li_123, li_124, li_125, li_126, li_127, li_128, li_129, li_130, li_131, li_226, li_240, li_255, li_300, li_586, li_594, li_900, li_999, li_1000, li_1800, li_2376, li_2388, li_2406, li_2602, li_2970, li_3067, li_3564, li_9999, li_10000, li_11287, li_65536, li_100000, li_1000000, nI_mul, tn0, tn1, vin0, vin1, Int32.add_zero, Int32.or_zero, Int32.mul_one, Int32.mul_zero, Int32.zero_add, Nat.reduceEqDiff, Nat.reduceMul, Nat.reduceSub, u2_up, e1, nI_1, nI_add, nI_clamp, nI_pin, nI_neg, nI_nonneg, nI_leE, nI_ltE, nI_eqE, Nat.not_le, Nat.not_lt, fq_10, fq_01, fq_rr, ix_aald, ix_aast, ix_abs, ix_alen, ix_aload, ix_aret, ix_astore, ix_bald, ix_bast, ix_call, ix_cpyI, ix_cpyJ, ix_dead, ix_dup2, ix_dup2L, ix_dupI, ix_dupR, ix_dupx1, ix_getI, ix_getJ, ix_getR, ix_gfm, ix_gtab, ix_i2b, ix_i2c, ix_i2l, ix_i2s, ix_iadd, ix_iald, ix_iand, ix_iast, ix_icall, ix_icmp_eq, ix_icmp_ge, ix_icmp_gt, ix_icmp_le, ix_icmp_lt, ix_icmp_ne, ix_idiv, ix_if_eq, ix_if_ge, ix_if_gt, ix_if_le, ix_if_lt, ix_if_ne, ix_iinc, ix_iload, ix_imul, ix_ineg, ix_ior, ix_irem, ix_iret, ix_ishl, ix_ishr, ix_istore, ix_isub, ix_iushr, ix_ixor, ix_l2i, ix_ladd, ix_lald, ix_land, ix_last, ix_lcmp, ix_ldcS, ix_ldiv, ix_lload, ix_lmul, ix_lor, ix_lrem, ix_lret, ix_lshl, ix_lstore, ix_lsub, ix_lsw, ix_max, ix_min, ix_new, ix_newa, ix_nret, ix_oinit, ix_pop2L, ix_popI, ix_pushI, ix_pushL, ix_putI, ix_putJ, ix_putR, ix_putZ, ix_sbald, ix_sgetC, ix_sgetV, ix_slen, ix_strc, ix_tald, ix_tsw, ix_vcall, ix_vret, ix_zret, stL, stL2, kilL, popN, fq_sw, fq_lsw, List.map_cons, List.map_nil, List.getElem?_cons_zero, List.getElem?_cons_succ, Option.toList_some, Option.toList_none, List.cons_append, List.nil_append, List.length_cons, List.length_nil, List.sum_cons, List.sum_nil, cat_i, cat_l, cat_r, true_and, and_true, Nat.zero_add, Nat.add_zero, Nat.le_refl, Nat.zero_le, Nat.reduceAdd, Nat.reduceLeDiff, exists_eq_left', Option.some.injEq, not_true_eq_false, not_false_eq_true, false_implies, true_implies, implies_true, and_self, or_true, true_or, or_false, false_or]
      exact ⟨fun h => absurd h (by omega), fun _ => hbb⟩) 594 0 () (by omega)
    rw [plZ_0, up1_id] at lp
    refine fq_enter [some (.ref M), some (.int (nI b)), none] (by decide +kernel) (Nat.le_of_ble_eq_true rfl) rfl (b_X12_plain_0 _ _ _ _ _ _ _ _ ?_)
    simp (disch := omega) only [B_X12_plain_0, B_X12_plain_2, hm, hm.k, hm.k1, hm.n1, hm.r1, hm.k2, hm.n2, hm.r2, hm.k3, hm.n3, hm.r3, hm.k4, hm.n4, hm.r4, hm.k5, hm.n5, hm.r5, hm.k6, hm.n6, hm.r6, hm.k7, hm.n7, hm.r7, hm.k8, hm.n8, hm.r8, hm.k9, hm.n9, hm.r9, hm.k10, hm.n10, hm.r10, hm.k11, hm.n11, hm.r11, hm.k12, hm.n12, hm.r12, hm.k13, hm.n13, hm.r13, hm.k14, hm.n14, hm.r14, nI_1, nI_add, nI_clamp, nI_pin, nI_neg, nI_nonneg, nI_leE, nI_ltE, nI_eqE, Nat.not_le, Nat.not_lt, fq_10, fq_01, fq_rr, ix_aald, ix_aast, ix_abs, ix_alen, ix_aload, ix_aret, ix_astore, ix_bald, ix_bast, ix_call, ix_cpyI, ix_cpyJ, ix_dead, ix_dup2, ix_dup2L, ix_dupI, ix_dupR, ix_dupx1, ix_getI, ix_getJ, ix_getR, ix_gfm, ix_gtab, ix_i2b, ix_i2c, ix_i2l, ix_i2s, ix_iadd, ix_iald, ix_iand, ix_iast, ix_icall, ix_icmp_eq, ix_icmp_ge, ix_icmp_gt, ix_icmp_le, ix_icmp_lt, ix_icmp_ne, ix_idiv, ix_if_eq, ix_if_ge, ix_if_gt, ix_if_le, ix_if_lt, ix_if_ne, ix_iinc, ix_iload, ix_imul, ix_ineg, ix_ior, ix_irem, ix_iret, ix_ishl, ix_ishr, ix_istore, ix_isub, ix_iushr, ix_ixor, ix_l2i, ix_ladd, ix_lald, ix_land, ix_last, ix_lcmp, ix_ldcS, ix_ldiv, ix_lload, ix_lmul, ix_lor, ix_lrem, ix_lret, ix_lshl, ix_lstore, ix_lsub, ix_lsw, ix_max, ix_min, ix_new, ix_newa, ix_nret, ix_oinit, ix_pop2L, ix_popI, ix_pushI, ix_pushL, ix_putI, ix_putJ, ix_putR, ix_putZ, ix_sbald, ix_sgetC, ix_sgetV, ix_slen, ix_strc, ix_tald, ix_tsw, ix_vcall, ix_vret, ix_zret, stL, stL2, kilL, popN, fq_sw, fq_lsw, List.map_cons, List.map_nil, List.getElem?_cons_zero, List.getElem?_cons_succ, Option.toList_some, Option.toList_none, List.cons_append, List.nil_append, List.length_cons, List.length_nil, List.sum_cons, List.sum_nil, cat_i, cat_l, cat_r, true_and, and_true, Nat.zero_add, Nat.add_zero, Nat.le_refl, Nat.zero_le, Nat.reduceAdd, Nat.reduceLeDiff, exists_eq_left', Option.some.injEq, not_true_eq_false, not_false_eq_true, false_implies, true_implies, implies_true, and_self, or_true, true_or, or_false, false_or]
    refine lp ?_
    refine b_X12_plain_2 _ _ _ _ _ _ _ _ ?_
    simp (disch := omega) only [B_X12_plain_0, B_X12_plain_2, hm, hm.k, hm.k1, hm.n1, hm.r1, hm.k2, hm.n2, hm.r2, hm.k3, hm.n3, hm.r3, hm.k4, hm.n4, hm.r4, hm.k5, hm.n5, hm.r5, hm.k6, hm.n6, hm.r6, hm.k7, hm.n7, hm.r7, hm.k8, hm.n8, hm.r8, hm.k9, hm.n9, hm.r9, hm.k10, hm.n10, hm.r10, hm.k11, hm.n11, hm.r11, hm.k12, hm.n12, hm.r12, hm.k13, hm.n13, hm.r13, hm.k14, hm.n14, hm.r14, li_2, li_3, li_4, li_5, li_6, li_7, li_8, li_9, li_10, li_11, li_12, li_13, li_14, li_15, li_16, li_17, li_18, li_19, li_20, li_21, li_22, li_23, li_24, li_25, li_26, li_27, li_28, li_29, li_30, li_32, li_33, li_34, li_35, li_36, li_37, li_38, li_39, li_40, li_41, li_42, li_43, li_44, li_45, li_46, li_47, li_48, li_49, li_50, li_51, li_52, li_53, li_54, li_55, li_56, li_57, li_58, li_59, li_60, li_61, li_62, li_63, li_64, li_65, li_66, li_67, li_68, li_69, li_70, li_71, li_72, li_73, li_74, li_75, li_76, li_77, li_78, li_79, li_80, li_81, li_82, li_83, li_84, li_85, li_86, li_87, li_88, li_89, li_90, li_91, li_92, li_93, li_94, li_95, li_96, li_97, li_98, li_99, li_100, li_101, li_102, li_103, li_104, li_105, li_106, li_107, li_108, li_109, li_110, li_111, li_112, li_113, li_114, li_115, li_116, li_117, li_118, li_119, li_120, li_121, li_122, li_123, li_124, li_125, li_126, li_127, li_128, li_129, li_130, li_131, li_226, li_240, li_255, li_300, li_586, li_594, li_900, li_999, li_1000, li_1800, li_2376, li_2388, li_2406, li_2602, li_2970, li_3067, li_3564, li_9999, li_10000, li_11287, li_65536, li_100000, li_1000000, nI_mul, tn0, tn1, vin0, vin1, Int32.add_zero, Int32.or_zero, Int32.mul_one, Int32.mul_zero, Int32.zero_add, Nat.reduceEqDiff, Nat.reduceMul, Nat.reduceSub, u2_up, nI_1, nI_add, nI_clamp, nI_pin, nI_neg, nI_nonneg, nI_leE, nI_ltE, nI_eqE, Nat.not_le, Nat.not_lt, fq_10, fq_01, fq_rr, ix_aald, ix_aast, ix_abs, ix_alen, ix_aload, ix_aret, ix_astore, ix_bald, ix_bast, ix_call, ix_cpyI, ix_cpyJ, ix_dead, ix_dup2, ix_dup2L, ix_dupI, ix_dupR, ix_dupx1, ix_getI, ix_getJ, ix_getR, ix_gfm, ix_gtab, ix_i2b, ix_i2c, ix_i2l, ix_i2s, ix_iadd, ix_iald, ix_iand, ix_iast, ix_icall, ix_icmp_eq, ix_icmp_ge, ix_icmp_gt, ix_icmp_le, ix_icmp_lt, ix_icmp_ne, ix_idiv, ix_if_eq, ix_if_ge, ix_if_gt, ix_if_le, ix_if_lt, ix_if_ne, ix_iinc, ix_iload, ix_imul, ix_ineg, ix_ior, ix_irem, ix_iret, ix_ishl, ix_ishr, ix_istore, ix_isub, ix_iushr, ix_ixor, ix_l2i, ix_ladd, ix_lald, ix_land, ix_last, ix_lcmp, ix_ldcS, ix_ldiv, ix_lload, ix_lmul, ix_lor, ix_lrem, ix_lret, ix_lshl, ix_lstore, ix_lsub, ix_lsw, ix_max, ix_min, ix_new, ix_newa, ix_nret, ix_oinit, ix_pop2L, ix_popI, ix_pushI, ix_pushL, ix_putI, ix_putJ, ix_putR, ix_putZ, ix_sbald, ix_sgetC, ix_sgetV, ix_slen, ix_strc, ix_tald, ix_tsw, ix_vcall, ix_vret, ix_zret, stL, stL2, kilL, popN, fq_sw, fq_lsw, List.map_cons, List.map_nil, List.getElem?_cons_zero, List.getElem?_cons_succ, Option.toList_some, Option.toList_none, List.cons_append, List.nil_append, List.length_cons, List.length_nil, List.sum_cons, List.sum_nil, cat_i, cat_l, cat_r, true_and, and_true, Nat.zero_add, Nat.add_zero, Nat.le_refl, Nat.zero_le, Nat.reduceAdd, Nat.reduceLeDiff, exists_eq_left', Option.some.injEq, not_true_eq_false, not_false_eq_true, false_implies, true_implies, implies_true, and_self, or_true, true_or, or_false, false_or]
    exact hQ
  · exact h.elim
