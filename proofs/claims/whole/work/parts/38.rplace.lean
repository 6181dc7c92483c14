/-! the reference: places of a wall -/
def rsh (f : Int64) (ft : Int32) : Int32 := if ¬ f - f / ft.toInt64 * ft.toInt64 = 0 ∨ ¬ (-3 ≤ f / ft.toInt64 ∧ f / ft.toInt64 ≤ 3) then 4 else (f / ft.toInt64).toInt32
def rwB (t : Int32) : Int32 := if t = 0 then 3 else if t = 1 ∨ t = -1 then 4 else if t = 2 ∨ t = -2 ∨ t = 3 ∨ t = -3 then 1 else 0
def rlB (t : Int32) : Int32 := if t = -3 ∨ t = -2 ∨ t = 0 ∨ t = 1 then 1 else if t = -1 then 3 else 0
abbrev in8 (t : Int32) : Prop := t = 4 ∨ t = -3 ∨ t = -2 ∨ t = -1 ∨ t = 0 ∨ t = 1 ∨ t = 2 ∨ t = 3
theorem dX12_shoutsTo_0 : decode cX12_shoutsTo 0 = .ok (.aload_n 0, 1) := by decide +kernel
theorem dX12_shoutsTo_1 : decode cX12_shoutsTo 1 = .ok (.getfield 27, 3) := by decide +kernel
theorem dX12_shoutsTo_4 : decode cX12_shoutsTo 4 = .ok (.bipush 60, 2) := by decide +kernel
theorem dX12_shoutsTo_6 : decode cX12_shoutsTo 6 = .ok (.iload_n 1, 1) := by decide +kernel
theorem dX12_shoutsTo_7 : decode cX12_shoutsTo 7 = .ok (.imul, 1) := by decide +kernel
theorem dX12_shoutsTo_8 : decode cX12_shoutsTo 8 = .ok (.iload_n 2, 1) := by decide +kernel
theorem dX12_shoutsTo_9 : decode cX12_shoutsTo 9 = .ok (.iadd, 1) := by decide +kernel
theorem dX12_shoutsTo_10 : decode cX12_shoutsTo 10 = .ok (.iconst 1, 1) := by decide +kernel
theorem dX12_shoutsTo_11 : decode cX12_shoutsTo 11 = .ok (.iadd, 1) := by decide +kernel
theorem dX12_shoutsTo_12 : decode cX12_shoutsTo 12 = .ok (.laload, 1) := by decide +kernel
theorem dX12_shoutsTo_13 : decode cX12_shoutsTo 13 = .ok (.aload_n 0, 1) := by decide +kernel
theorem dX12_shoutsTo_14 : decode cX12_shoutsTo 14 = .ok (.getfield 27, 3) := by decide +kernel
theorem dX12_shoutsTo_17 : decode cX12_shoutsTo 17 = .ok (.bipush 60, 2) := by decide +kernel
theorem dX12_shoutsTo_19 : decode cX12_shoutsTo 19 = .ok (.iload_n 1, 1) := by decide +kernel
theorem dX12_shoutsTo_20 : decode cX12_shoutsTo 20 = .ok (.imul, 1) := by decide +kernel
theorem dX12_shoutsTo_21 : decode cX12_shoutsTo 21 = .ok (.iload_n 2, 1) := by decide +kernel
theorem dX12_shoutsTo_22 : decode cX12_shoutsTo 22 = .ok (.iadd, 1) := by decide +kernel
theorem dX12_shoutsTo_23 : decode cX12_shoutsTo 23 = .ok (.laload, 1) := by decide +kernel
theorem dX12_shoutsTo_24 : decode cX12_shoutsTo 24 = .ok (.lsub, 1) := by decide +kernel
theorem dX12_shoutsTo_25 : decode cX12_shoutsTo 25 = .ok (.lstore_n 3, 1) := by decide +kernel
theorem dX12_shoutsTo_26 : decode cX12_shoutsTo 26 = .ok (.lload_n 3, 1) := by decide +kernel
theorem dX12_shoutsTo_27 : decode cX12_shoutsTo 27 = .ok (.aload_n 0, 1) := by decide +kernel
theorem dX12_shoutsTo_28 : decode cX12_shoutsTo 28 = .ok (.getfield 7, 3) := by decide +kernel
theorem dX12_shoutsTo_31 : decode cX12_shoutsTo 31 = .ok (.iconst 3, 1) := by decide +kernel
theorem dX12_shoutsTo_32 : decode cX12_shoutsTo 32 = .ok (.iaload, 1) := by decide +kernel
theorem dX12_shoutsTo_33 : decode cX12_shoutsTo 33 = .ok (.i2l, 1) := by decide +kernel
theorem dX12_shoutsTo_34 : decode cX12_shoutsTo 34 = .ok (.lrem, 1) := by decide +kernel
theorem dX12_shoutsTo_35 : decode cX12_shoutsTo 35 = .ok (.lconst 0, 1) := by decide +kernel
theorem dX12_shoutsTo_36 : decode cX12_shoutsTo 36 = .ok (.lcmp, 1) := by decide +kernel
theorem dX12_shoutsTo_37 : decode cX12_shoutsTo 37 = .ok (.ifCond .ne 24, 3) := by decide +kernel
theorem dX12_shoutsTo_40 : decode cX12_shoutsTo 40 = .ok (.lload_n 3, 1) := by decide +kernel
theorem dX12_shoutsTo_41 : decode cX12_shoutsTo 41 = .ok (.aload_n 0, 1) := by decide +kernel
theorem dX12_shoutsTo_42 : decode cX12_shoutsTo 42 = .ok (.getfield 7, 3) := by decide +kernel
theorem dX12_shoutsTo_45 : decode cX12_shoutsTo 45 = .ok (.iconst 3, 1) := by decide +kernel
theorem dX12_shoutsTo_46 : decode cX12_shoutsTo 46 = .ok (.iaload, 1) := by decide +kernel
theorem dX12_shoutsTo_47 : decode cX12_shoutsTo 47 = .ok (.i2l, 1) := by decide +kernel
theorem dX12_shoutsTo_48 : decode cX12_shoutsTo 48 = .ok (.ldiv, 1) := by decide +kernel
theorem dX12_shoutsTo_49 : decode cX12_shoutsTo 49 = .ok (.ldc2_w 405, 3) := by decide +kernel
theorem dX12_shoutsTo_52 : decode cX12_shoutsTo 52 = .ok (.ldc2_w 407, 3) := by decide +kernel
theorem dX12_shoutsTo_55 : decode cX12_shoutsTo 55 = .ok (.invokestatic 329, 3) := by decide +kernel
theorem dX12_shoutsTo_58 : decode cX12_shoutsTo 58 = .ok (.ifCond .ne 7, 3) := by decide +kernel
theorem dX12_shoutsTo_61 : decode cX12_shoutsTo 61 = .ok (.iconst 4, 1) := by decide +kernel
theorem dX12_shoutsTo_62 : decode cX12_shoutsTo 62 = .ok (.goto 13, 3) := by decide +kernel
theorem dX12_shoutsTo_65 : decode cX12_shoutsTo 65 = .ok (.lload_n 3, 1) := by decide +kernel
theorem dX12_shoutsTo_66 : decode cX12_shoutsTo 66 = .ok (.aload_n 0, 1) := by decide +kernel
theorem dX12_shoutsTo_67 : decode cX12_shoutsTo 67 = .ok (.getfield 7, 3) := by decide +kernel
theorem dX12_shoutsTo_70 : decode cX12_shoutsTo 70 = .ok (.iconst 3, 1) := by decide +kernel
theorem dX12_shoutsTo_71 : decode cX12_shoutsTo 71 = .ok (.iaload, 1) := by decide +kernel
theorem dX12_shoutsTo_72 : decode cX12_shoutsTo 72 = .ok (.i2l, 1) := by decide +kernel
theorem dX12_shoutsTo_73 : decode cX12_shoutsTo 73 = .ok (.ldiv, 1) := by decide +kernel
theorem dX12_shoutsTo_74 : decode cX12_shoutsTo 74 = .ok (.l2i, 1) := by decide +kernel
theorem dX12_shoutsTo_75 : decode cX12_shoutsTo 75 = .ok (.ireturn, 1) := by decide +kernel
abbrev M_X12_shoutsTo : MT := (yX12_shoutsTo, cX12_shoutsTo, 5, (some .int))
theorem cf_X12_shoutsTo : fq_cf M_X12_shoutsTo 2 := ⟨(mg_1 (List.mem_of_getElem? (i := 15) rfl) rfl), (mg_9 (List.mem_of_getElem? (i := 103) rfl) rfl), ⟨by decide, by decide, by decide +kernel⟩, by decide⟩
def B_X12_shoutsTo_75 (G : GT) (mc ms : Nat) (Q : Post) : Cn := ix_iret mc ms Q
theorem b_X12_shoutsTo_75 {l : Launch} {G : GT} {D mc ms : Nat} {Q : Post} : Imp l G M_X12_shoutsTo (D + 1) mc ms Q (B_X12_shoutsTo_75 G mc ms Q) 75 := sx_iret dX12_shoutsTo_75 rfl
def B_X12_shoutsTo_61 (G : GT) (mc ms : Nat) (Q : Post) : Cn := ix_pushI 4 ((B_X12_shoutsTo_75 G mc ms Q))
theorem b_X12_shoutsTo_61 {l : Launch} {G : GT} {D mc ms : Nat} {Q : Post} : Imp l G M_X12_shoutsTo (D + 1) mc ms Q (B_X12_shoutsTo_61 G mc ms Q) 61 := sx_iconst dX12_shoutsTo_61 rfl (sx_goto 75 dX12_shoutsTo_62 (by decide) (b_X12_shoutsTo_75))
def B_X12_shoutsTo_0 (G : GT) (mc ms : Nat) (Q : Post) : Cn := ix_aload 0 (ix_getR 12 7 (ix_pushI 60 (ix_iload 1 (ix_imul (ix_iload 2 (ix_iadd (ix_pushI 1 (ix_iadd (ix_lald (ix_aload 0 (ix_getR 12 7 (ix_pushI 60 (ix_iload 1 (ix_imul (ix_iload 2 (ix_iadd (ix_lald (ix_lsub (ix_lstore 3 (ix_lload 3 (ix_aload 0 (ix_getR 12 0 (ix_pushI 3 (ix_iald (ix_i2l (ix_lrem (ix_pushL 0 (ix_lcmp (ix_if_ne ((B_X12_shoutsTo_61 G mc ms Q)) (ix_lload 3 (ix_aload 0 (ix_getR 12 0 (ix_pushI 3 (ix_iald (ix_i2l (ix_ldiv (ix_pushL (-3) (ix_pushL 3 (ix_call 3 0 0 mc ms (sp_X12_isFrom G) (ix_if_ne (ix_lload 3 (ix_aload 0 (ix_getR 12 0 (ix_pushI 3 (ix_iald (ix_i2l (ix_ldiv (ix_l2i ((B_X12_shoutsTo_75 G mc ms Q)))))))))) ((B_X12_shoutsTo_61 G mc ms Q))))))))))))))))))))))))))))))))))))))))))
theorem b_X12_shoutsTo_0 {l : Launch} {G : GT} {D mc ms : Nat} {Q : Post} : Imp l G M_X12_shoutsTo (D + 1) mc ms Q (B_X12_shoutsTo_0 G mc ms Q) 0 := sx_aload_n dX12_shoutsTo_0 rfl (sx_getR dX12_shoutsTo_1 fl_FootQuarrelModel_27 (fun _ _ _ => rfl) (sx_bipush dX12_shoutsTo_4 rfl (sx_iload_n dX12_shoutsTo_6 rfl (sx_imul dX12_shoutsTo_7 (sx_iload_n dX12_shoutsTo_8 rfl (sx_iadd dX12_shoutsTo_9 (sx_iconst dX12_shoutsTo_10 rfl (sx_iadd dX12_shoutsTo_11 (sx_lald dX12_shoutsTo_12 (sx_aload_n dX12_shoutsTo_13 rfl (sx_getR dX12_shoutsTo_14 fl_FootQuarrelModel_27 (fun _ _ _ => rfl) (sx_bipush dX12_shoutsTo_17 rfl (sx_iload_n dX12_shoutsTo_19 rfl (sx_imul dX12_shoutsTo_20 (sx_iload_n dX12_shoutsTo_21 rfl (sx_iadd dX12_shoutsTo_22 (sx_lald dX12_shoutsTo_23 (sx_lsub dX12_shoutsTo_24 (sx_lstore_n dX12_shoutsTo_25 rfl (by decide) (sx_lload_n dX12_shoutsTo_26 rfl (sx_aload_n dX12_shoutsTo_27 rfl (sx_getR dX12_shoutsTo_28 fl_FootQuarrelModel_7 (fun _ _ _ => rfl) (sx_iconst dX12_shoutsTo_31 rfl (sx_iald dX12_shoutsTo_32 (sx_i2l dX12_shoutsTo_33 (sx_lrem dX12_shoutsTo_34 (sx_lconst dX12_shoutsTo_35 rfl (sx_lcmp dX12_shoutsTo_36 (sx_if_ne 61 dX12_shoutsTo_37 (by decide) (b_X12_shoutsTo_61) (sx_lload_n dX12_shoutsTo_40 rfl (sx_aload_n dX12_shoutsTo_41 rfl (sx_getR dX12_shoutsTo_42 fl_FootQuarrelModel_7 (fun _ _ _ => rfl) (sx_iconst dX12_shoutsTo_45 rfl (sx_iald dX12_shoutsTo_46 (sx_i2l dX12_shoutsTo_47 (sx_ldiv dX12_shoutsTo_48 (sx_ldc2 dX12_shoutsTo_49 (mg_9 (List.mem_of_getElem? (i := 104) rfl) rfl) (sx_ldc2 dX12_shoutsTo_52 (mg_9 (List.mem_of_getElem? (i := 105) rfl) rfl) (sx_scall dX12_shoutsTo_55 cf_X12_isFrom (mg_8 (List.mem_of_getElem? (i := 131) rfl) rfl) (mg_8 (List.mem_of_getElem? (i := 132) rfl) rfl) c_X12_isFrom (sx_if_ne 65 dX12_shoutsTo_58 (by decide) (sx_lload_n dX12_shoutsTo_65 rfl (sx_aload_n dX12_shoutsTo_66 rfl (sx_getR dX12_shoutsTo_67 fl_FootQuarrelModel_7 (fun _ _ _ => rfl) (sx_iconst dX12_shoutsTo_70 rfl (sx_iald dX12_shoutsTo_71 (sx_i2l dX12_shoutsTo_72 (sx_ldiv dX12_shoutsTo_73 (sx_l2i dX12_shoutsTo_74 (b_X12_shoutsTo_75))))))))) (b_X12_shoutsTo_61)))))))))))))))))))))))))))))))))))))))))
theorem dX12_waysBy_0 : decode cX12_waysBy 0 = .ok (.iload_n 0, 1) := by decide +kernel
theorem dX12_waysBy_1 : decode cX12_waysBy 1 = .ok (.ifCond .ge 8, 3) := by decide +kernel
theorem dX12_waysBy_4 : decode cX12_waysBy 4 = .ok (.iload_n 0, 1) := by decide +kernel
theorem dX12_waysBy_5 : decode cX12_waysBy 5 = .ok (.ineg, 1) := by decide +kernel
theorem dX12_waysBy_6 : decode cX12_waysBy 6 = .ok (.goto 4, 3) := by decide +kernel
theorem dX12_waysBy_9 : decode cX12_waysBy 9 = .ok (.iload_n 0, 1) := by decide +kernel
theorem dX12_waysBy_10 : decode cX12_waysBy 10 = .ok (.tableswitch 36 0 3 #[30, 32, 34, 34], 30) := by decide +kernel
theorem dX12_waysBy_40 : decode cX12_waysBy 40 = .ok (.iconst 3, 1) := by decide +kernel
theorem dX12_waysBy_41 : decode cX12_waysBy 41 = .ok (.ireturn, 1) := by decide +kernel
theorem dX12_waysBy_42 : decode cX12_waysBy 42 = .ok (.iconst 4, 1) := by decide +kernel
theorem dX12_waysBy_43 : decode cX12_waysBy 43 = .ok (.ireturn, 1) := by decide +kernel
theorem dX12_waysBy_44 : decode cX12_waysBy 44 = .ok (.iconst 1, 1) := by decide +kernel
theorem dX12_waysBy_45 : decode cX12_waysBy 45 = .ok (.ireturn, 1) := by decide +kernel
theorem dX12_waysBy_46 : decode cX12_waysBy 46 = .ok (.iconst 0, 1) := by decide +kernel
theorem dX12_waysBy_47 : decode cX12_waysBy 47 = .ok (.ireturn, 1) := by decide +kernel
abbrev M_X12_waysBy : MT := (yX12_waysBy, cX12_waysBy, 1, (some .int))
theorem cf_X12_waysBy : fq_cf M_X12_waysBy 1 := ⟨(mg_1 (List.mem_of_getElem? (i := 15) rfl) rfl), (mg_9 (List.mem_of_getElem? (i := 108) rfl) rfl), ⟨by decide, by decide, by decide +kernel⟩, by decide⟩
def B_X12_waysBy_44 (G : GT) (mc ms : Nat) (Q : Post) : Cn := ix_pushI 1 (ix_iret mc ms Q)
theorem b_X12_waysBy_44 {l : Launch} {G : GT} {D mc ms : Nat} {Q : Post} : Imp l G M_X12_waysBy (D + 0) mc ms Q (B_X12_waysBy_44 G mc ms Q) 44 := sx_iconst dX12_waysBy_44 rfl (sx_iret dX12_waysBy_45 rfl)
def B_X12_waysBy_10 (G : GT) (mc ms : Nat) (Q : Post) : Cn := ix_tsw 0 [ix_pushI 3 (ix_iret mc ms Q), ix_pushI 4 (ix_iret mc ms Q), (B_X12_waysBy_44 G mc ms Q), (B_X12_waysBy_44 G mc ms Q)] (ix_pushI 0 (ix_iret mc ms Q))
theorem b_X12_waysBy_10 {l : Launch} {G : GT} {D mc ms : Nat} {Q : Post} : Imp l G M_X12_waysBy (D + 0) mc ms Q (B_X12_waysBy_10 G mc ms Q) 10 := sx_tswA [40, 42, 44, 44] 46 dX12_waysBy_10 rfl (by decide) (by decide) (by decide) ⟨sx_iconst dX12_waysBy_40 rfl (sx_iret dX12_waysBy_41 rfl), ⟨sx_iconst dX12_waysBy_42 rfl (sx_iret dX12_waysBy_43 rfl), ⟨b_X12_waysBy_44, ⟨b_X12_waysBy_44, trivial⟩⟩⟩⟩ (sx_iconst dX12_waysBy_46 rfl (sx_iret dX12_waysBy_47 rfl))
def B_X12_waysBy_0 (G : GT) (mc ms : Nat) (Q : Post) : Cn := ix_iload 0 (ix_if_ge (ix_iload 0 ((B_X12_waysBy_10 G mc ms Q))) (ix_iload 0 (ix_ineg ((B_X12_waysBy_10 G mc ms Q)))))
theorem b_X12_waysBy_0 {l : Launch} {G : GT} {D mc ms : Nat} {Q : Post} : Imp l G M_X12_waysBy (D + 0) mc ms Q (B_X12_waysBy_0 G mc ms Q) 0 := sx_iload_n dX12_waysBy_0 rfl (sx_if_ge 9 dX12_waysBy_1 (by decide) (sx_iload_n dX12_waysBy_9 rfl (b_X12_waysBy_10)) (sx_iload_n dX12_waysBy_4 rfl (sx_ineg dX12_waysBy_5 (sx_goto 10 dX12_waysBy_6 (by decide) (b_X12_waysBy_10)))))
theorem dX12_leftBy_0 : decode cX12_leftBy 0 = .ok (.iload_n 0, 1) := by decide +kernel
theorem dX12_leftBy_1 : decode cX12_leftBy 1 = .ok (.tableswitch 39 (-3) 1 #[35, 35, 37, 35, 35], 35) := by decide +kernel
theorem dX12_leftBy_36 : decode cX12_leftBy 36 = .ok (.iconst 1, 1) := by decide +kernel
theorem dX12_leftBy_37 : decode cX12_leftBy 37 = .ok (.ireturn, 1) := by decide +kernel
theorem dX12_leftBy_38 : decode cX12_leftBy 38 = .ok (.iconst 3, 1) := by decide +kernel
theorem dX12_leftBy_39 : decode cX12_leftBy 39 = .ok (.ireturn, 1) := by decide +kernel
theorem dX12_leftBy_40 : decode cX12_leftBy 40 = .ok (.iconst 0, 1) := by decide +kernel
theorem dX12_leftBy_41 : decode cX12_leftBy 41 = .ok (.ireturn, 1) := by decide +kernel
abbrev M_X12_leftBy : MT := (yX12_leftBy, cX12_leftBy, 1, (some .int))
theorem cf_X12_leftBy : fq_cf M_X12_leftBy 1 := ⟨(mg_1 (List.mem_of_getElem? (i := 15) rfl) rfl), (mg_9 (List.mem_of_getElem? (i := 119) rfl) rfl), ⟨by decide, by decide, by decide +kernel⟩, by decide⟩
def B_X12_leftBy_36 (G : GT) (mc ms : Nat) (Q : Post) : Cn := ix_pushI 1 (ix_iret mc ms Q)
theorem b_X12_leftBy_36 {l : Launch} {G : GT} {D mc ms : Nat} {Q : Post} : Imp l G M_X12_leftBy (D + 0) mc ms Q (B_X12_leftBy_36 G mc ms Q) 36 := sx_iconst dX12_leftBy_36 rfl (sx_iret dX12_leftBy_37 rfl)
def B_X12_leftBy_0 (G : GT) (mc ms : Nat) (Q : Post) : Cn := ix_iload 0 (ix_tsw (-3) [(B_X12_leftBy_36 G mc ms Q), (B_X12_leftBy_36 G mc ms Q), ix_pushI 3 (ix_iret mc ms Q), (B_X12_leftBy_36 G mc ms Q), (B_X12_leftBy_36 G mc ms Q)] (ix_pushI 0 (ix_iret mc ms Q)))
theorem b_X12_leftBy_0 {l : Launch} {G : GT} {D mc ms : Nat} {Q : Post} : Imp l G M_X12_leftBy (D + 0) mc ms Q (B_X12_leftBy_0 G mc ms Q) 0 := sx_iload_n dX12_leftBy_0 rfl (sx_tswA [36, 36, 38, 36, 36] 40 dX12_leftBy_1 rfl (by decide) (by decide) (by decide) ⟨b_X12_leftBy_36, ⟨b_X12_leftBy_36, ⟨sx_iconst dX12_leftBy_38 rfl (sx_iret dX12_leftBy_39 rfl), ⟨b_X12_leftBy_36, ⟨b_X12_leftBy_36, trivial⟩⟩⟩⟩⟩ (sx_iconst dX12_leftBy_40 rfl (sx_iret dX12_leftBy_41 rfl)))
theorem dX12_wrongPlaces_0 : decode cX12_wrongPlaces 0 = .ok (.iload_n 1, 1) := by decide +kernel
theorem dX12_wrongPlaces_1 : decode cX12_wrongPlaces 1 = .ok (.invokestatic 86, 3) := by decide +kernel
theorem dX12_wrongPlaces_4 : decode cX12_wrongPlaces 4 = .ok (.ifCond .eq 15, 3) := by decide +kernel
theorem dX12_wrongPlaces_7 : decode cX12_wrongPlaces 7 = .ok (.iload_n 2, 1) := by decide +kernel
theorem dX12_wrongPlaces_8 : decode cX12_wrongPlaces 8 = .ok (.i2l, 1) := by decide +kernel
theorem dX12_wrongPlaces_9 : decode cX12_wrongPlaces 9 = .ok (.lconst 1, 1) := by decide +kernel
theorem dX12_wrongPlaces_10 : decode cX12_wrongPlaces 10 = .ok (.ldc2_w 403, 3) := by decide +kernel
theorem dX12_wrongPlaces_13 : decode cX12_wrongPlaces 13 = .ok (.invokestatic 329, 3) := by decide +kernel
theorem dX12_wrongPlaces_16 : decode cX12_wrongPlaces 16 = .ok (.ifCond .ne 5, 3) := by decide +kernel
theorem dX12_wrongPlaces_19 : decode cX12_wrongPlaces 19 = .ok (.iconst 1, 1) := by decide +kernel
theorem dX12_wrongPlaces_20 : decode cX12_wrongPlaces 20 = .ok (.ireturn, 1) := by decide +kernel
theorem dX12_wrongPlaces_21 : decode cX12_wrongPlaces 21 = .ok (.aload_n 0, 1) := by decide +kernel
theorem dX12_wrongPlaces_22 : decode cX12_wrongPlaces 22 = .ok (.getfield 24, 3) := by decide +kernel
theorem dX12_wrongPlaces_25 : decode cX12_wrongPlaces 25 = .ok (.iload_n 1, 1) := by decide +kernel
theorem dX12_wrongPlaces_26 : decode cX12_wrongPlaces 26 = .ok (.iaload, 1) := by decide +kernel
theorem dX12_wrongPlaces_27 : decode cX12_wrongPlaces 27 = .ok (.iconst (-1), 1) := by decide +kernel
theorem dX12_wrongPlaces_28 : decode cX12_wrongPlaces 28 = .ok (.if_icmp .ne 5, 3) := by decide +kernel
theorem dX12_wrongPlaces_31 : decode cX12_wrongPlaces 31 = .ok (.iconst 2, 1) := by decide +kernel
theorem dX12_wrongPlaces_32 : decode cX12_wrongPlaces 32 = .ok (.ireturn, 1) := by decide +kernel
theorem dX12_wrongPlaces_33 : decode cX12_wrongPlaces 33 = .ok (.aload_n 0, 1) := by decide +kernel
theorem dX12_wrongPlaces_34 : decode cX12_wrongPlaces 34 = .ok (.getfield 24, 3) := by decide +kernel
theorem dX12_wrongPlaces_37 : decode cX12_wrongPlaces 37 = .ok (.iload_n 1, 1) := by decide +kernel
theorem dX12_wrongPlaces_38 : decode cX12_wrongPlaces 38 = .ok (.iaload, 1) := by decide +kernel
theorem dX12_wrongPlaces_39 : decode cX12_wrongPlaces 39 = .ok (.iload_n 2, 1) := by decide +kernel
theorem dX12_wrongPlaces_40 : decode cX12_wrongPlaces 40 = .ok (.if_icmp .ge 5, 3) := by decide +kernel
theorem dX12_wrongPlaces_43 : decode cX12_wrongPlaces 43 = .ok (.iconst 3, 1) := by decide +kernel
theorem dX12_wrongPlaces_44 : decode cX12_wrongPlaces 44 = .ok (.ireturn, 1) := by decide +kernel
theorem dX12_wrongPlaces_45 : decode cX12_wrongPlaces 45 = .ok (.iconst 0, 1) := by decide +kernel
theorem dX12_wrongPlaces_46 : decode cX12_wrongPlaces 46 = .ok (.istore_n 3, 1) := by decide +kernel
theorem dX12_wrongPlaces_47 : decode cX12_wrongPlaces 47 = .ok (.iload_n 3, 1) := by decide +kernel
theorem dX12_wrongPlaces_48 : decode cX12_wrongPlaces 48 = .ok (.iload_n 2, 1) := by decide +kernel
theorem dX12_wrongPlaces_49 : decode cX12_wrongPlaces 49 = .ok (.if_icmp .ge 27, 3) := by decide +kernel
theorem dX12_wrongPlaces_52 : decode cX12_wrongPlaces 52 = .ok (.aload_n 0, 1) := by decide +kernel
theorem dX12_wrongPlaces_53 : decode cX12_wrongPlaces 53 = .ok (.getfield 27, 3) := by decide +kernel
theorem dX12_wrongPlaces_56 : decode cX12_wrongPlaces 56 = .ok (.bipush 60, 2) := by decide +kernel
theorem dX12_wrongPlaces_58 : decode cX12_wrongPlaces 58 = .ok (.iload_n 1, 1) := by decide +kernel
theorem dX12_wrongPlaces_59 : decode cX12_wrongPlaces 59 = .ok (.imul, 1) := by decide +kernel
theorem dX12_wrongPlaces_60 : decode cX12_wrongPlaces 60 = .ok (.iload_n 3, 1) := by decide +kernel
theorem dX12_wrongPlaces_61 : decode cX12_wrongPlaces 61 = .ok (.iadd, 1) := by decide +kernel
theorem dX12_wrongPlaces_62 : decode cX12_wrongPlaces 62 = .ok (.laload, 1) := by decide +kernel
theorem dX12_wrongPlaces_63 : decode cX12_wrongPlaces 63 = .ok (.lconst 0, 1) := by decide +kernel
theorem dX12_wrongPlaces_64 : decode cX12_wrongPlaces 64 = .ok (.lcmp, 1) := by decide +kernel
theorem dX12_wrongPlaces_65 : decode cX12_wrongPlaces 65 = .ok (.ifCond .ge 5, 3) := by decide +kernel
theorem dX12_wrongPlaces_68 : decode cX12_wrongPlaces 68 = .ok (.iconst 5, 1) := by decide +kernel
theorem dX12_wrongPlaces_69 : decode cX12_wrongPlaces 69 = .ok (.ireturn, 1) := by decide +kernel
theorem dX12_wrongPlaces_70 : decode cX12_wrongPlaces 70 = .ok (.iinc 3 1, 3) := by decide +kernel
theorem dX12_wrongPlaces_73 : decode cX12_wrongPlaces 73 = .ok (.goto (-26), 3) := by decide +kernel
theorem dX12_wrongPlaces_76 : decode cX12_wrongPlaces 76 = .ok (.iconst 0, 1) := by decide +kernel
theorem dX12_wrongPlaces_77 : decode cX12_wrongPlaces 77 = .ok (.ireturn, 1) := by decide +kernel
abbrev M_X12_wrongPlaces : MT := (yX12_wrongPlaces, cX12_wrongPlaces, 4, (some .int))
theorem cf_X12_wrongPlaces : fq_cf M_X12_wrongPlaces 2 := ⟨(mg_1 (List.mem_of_getElem? (i := 15) rfl) rfl), (mg_9 (List.mem_of_getElem? (i := 94) rfl) rfl), ⟨by decide, by decide, by decide +kernel⟩, by decide⟩
def B_X12_wrongPlaces_47 (l : Launch) (G : GT) (D mc ms : Nat) (Q : Post) : Cn := ix_iload 3 (ix_iload 2 (ix_icmp_ge (ix_pushI 0 (ix_iret mc ms Q)) (ix_aload 0 (ix_getR 12 7 (ix_pushI 60 (ix_iload 1 (ix_imul (ix_iload 3 (ix_iadd (ix_lald (ix_pushL 0 (ix_lcmp (ix_if_ge (ix_iinc 3 1 (fqAt l G M_X12_wrongPlaces (D + 1) mc ms Q 47)) (ix_pushI 5 (ix_iret mc ms Q)))))))))))))))
theorem b_X12_wrongPlaces_47 {l : Launch} {G : GT} {D mc ms : Nat} {Q : Post} : Imp l G M_X12_wrongPlaces (D + 1) mc ms Q (B_X12_wrongPlaces_47 l G D mc ms Q) 47 := sx_iload_n dX12_wrongPlaces_47 rfl (sx_iload_n dX12_wrongPlaces_48 rfl (sx_icmp_ge 76 dX12_wrongPlaces_49 (by decide) (sx_iconst dX12_wrongPlaces_76 rfl (sx_iret dX12_wrongPlaces_77 rfl)) (sx_aload_n dX12_wrongPlaces_52 rfl (sx_getR dX12_wrongPlaces_53 fl_FootQuarrelModel_27 (fun _ _ _ => rfl) (sx_bipush dX12_wrongPlaces_56 rfl (sx_iload_n dX12_wrongPlaces_58 rfl (sx_imul dX12_wrongPlaces_59 (sx_iload_n dX12_wrongPlaces_60 rfl (sx_iadd dX12_wrongPlaces_61 (sx_lald dX12_wrongPlaces_62 (sx_lconst dX12_wrongPlaces_63 rfl (sx_lcmp dX12_wrongPlaces_64 (sx_if_ge 70 dX12_wrongPlaces_65 (by decide) (sx_iinc dX12_wrongPlaces_70 rfl (by decide) (sx_goto 47 dX12_wrongPlaces_73 (by decide) ((fun _ _ _ _ _ _ _ _ h => h)))) (sx_iconst dX12_wrongPlaces_68 rfl (sx_iret dX12_wrongPlaces_69 rfl)))))))))))))))
def B_X12_wrongPlaces_19 (l : Launch) (G : GT) (D mc ms : Nat) (Q : Post) : Cn := ix_pushI 1 (ix_iret mc ms Q)
theorem b_X12_wrongPlaces_19 {l : Launch} {G : GT} {D mc ms : Nat} {Q : Post} : Imp l G M_X12_wrongPlaces (D + 1) mc ms Q (B_X12_wrongPlaces_19 l G D mc ms Q) 19 := sx_iconst dX12_wrongPlaces_19 rfl (sx_iret dX12_wrongPlaces_20 rfl)
def B_X12_wrongPlaces_0 (l : Launch) (G : GT) (D mc ms : Nat) (Q : Post) : Cn := ix_iload 1 (ix_call 1 0 0 mc ms (sp_X12_isTray G) (ix_if_eq ((B_X12_wrongPlaces_19 l G D mc ms Q)) (ix_iload 2 (ix_i2l (ix_pushL 1 (ix_pushL 12 (ix_call 3 0 0 mc ms (sp_X12_isFrom G) (ix_if_ne (ix_aload 0 (ix_getR 12 6 (ix_iload 1 (ix_iald (ix_pushI (-1) (ix_icmp_ne (ix_aload 0 (ix_getR 12 6 (ix_iload 1 (ix_iald (ix_iload 2 (ix_icmp_ge (ix_pushI 0 (ix_istore 3 (fqAt l G M_X12_wrongPlaces (D + 1) mc ms Q 47))) (ix_pushI 3 (ix_iret mc ms Q)))))))) (ix_pushI 2 (ix_iret mc ms Q)))))))) ((B_X12_wrongPlaces_19 l G D mc ms Q))))))))))
theorem b_X12_wrongPlaces_0 {l : Launch} {G : GT} {D mc ms : Nat} {Q : Post} : Imp l G M_X12_wrongPlaces (D + 1) mc ms Q (B_X12_wrongPlaces_0 l G D mc ms Q) 0 := sx_iload_n dX12_wrongPlaces_0 rfl (sx_scall dX12_wrongPlaces_1 cf_X12_isTray (mg_7 (List.mem_of_getElem? (i := 65) rfl) rfl) (mg_7 (List.mem_of_getElem? (i := 66) rfl) rfl) c_X12_isTray (sx_if_eq 19 dX12_wrongPlaces_4 (by decide) (b_X12_wrongPlaces_19) (sx_iload_n dX12_wrongPlaces_7 rfl (sx_i2l dX12_wrongPlaces_8 (sx_lconst dX12_wrongPlaces_9 rfl (sx_ldc2 dX12_wrongPlaces_10 (mg_9 (List.mem_of_getElem? (i := 95) rfl) rfl) (sx_scall dX12_wrongPlaces_13 cf_X12_isFrom (mg_8 (List.mem_of_getElem? (i := 131) rfl) rfl) (mg_8 (List.mem_of_getElem? (i := 132) rfl) rfl) c_X12_isFrom (sx_if_ne 21 dX12_wrongPlaces_16 (by decide) (sx_aload_n dX12_wrongPlaces_21 rfl (sx_getR dX12_wrongPlaces_22 fl_FootQuarrelModel_24 (fun _ _ _ => rfl) (sx_iload_n dX12_wrongPlaces_25 rfl (sx_iald dX12_wrongPlaces_26 (sx_iconst dX12_wrongPlaces_27 rfl (sx_icmp_ne 33 dX12_wrongPlaces_28 (by decide) (sx_aload_n dX12_wrongPlaces_33 rfl (sx_getR dX12_wrongPlaces_34 fl_FootQuarrelModel_24 (fun _ _ _ => rfl) (sx_iload_n dX12_wrongPlaces_37 rfl (sx_iald dX12_wrongPlaces_38 (sx_iload_n dX12_wrongPlaces_39 rfl (sx_icmp_ge 45 dX12_wrongPlaces_40 (by decide) (sx_iconst dX12_wrongPlaces_45 rfl (sx_istore_n dX12_wrongPlaces_46 rfl (by decide) ((fun _ _ _ _ _ _ _ _ h => h)))) (sx_iconst dX12_wrongPlaces_43 rfl (sx_iret dX12_wrongPlaces_44 rfl)))))))) (sx_iconst dX12_wrongPlaces_31 rfl (sx_iret dX12_wrongPlaces_32 rfl)))))))) (b_X12_wrongPlaces_19)))))))))
def sp_X12_shoutsTo (G : GT) : Sp := fun as S I J z Q => match as with
  | [.ref M, .int t, .int k] => rfS S M ∧ vp_in t 4 ∧ vp_in k 59 ∧ ¬ (I (M + 1) 3).toInt64 = 0 ∧ Q (some (.int (rsh (J (M + 5) (60 * t.toNatClampNeg + k.toNatClampNeg + 1) - J (M + 5) (60 * t.toNatClampNeg + k.toNatClampNeg)) (I (M + 1) 3)))) S I J z
  | _ => False
set_option maxHeartbeats 4000000 in
set_option maxRecDepth 20000 in
theorem c_X12_shoutsTo {l : Launch} {G : GT} {D : Nat} : ∀ as S I J z Q, sp_X12_shoutsTo G as S I J z Q → fqCall l G M_X12_shoutsTo (D + 1) 0 0 as S I J z Q := by
  intro as S I J z Q h
  unfold sp_X12_shoutsTo at h
  split at h
  · next M t k =>
    obtain ⟨hm, ht, hk, hf, hQ⟩ := h
    obtain ⟨t, ht9, rfl⟩ := vp_in_of ht (by decide)
    obtain ⟨k, hk9, rfl⟩ := vp_in_of hk (by decide)
    rw [nI_clamp (by omega), nI_clamp (by omega)] at hQ
    refine fq_enter [some (.ref M), some (.int (nI t)), some (.int (nI k)), none, none] (by decide +kernel) (Nat.le_of_ble_eq_true rfl) rfl (b_X12_shoutsTo_0 _ _ _ _ _ _ _ _ ?_)
    simp (disch := omega) only [B_X12_shoutsTo_0, B_X12_shoutsTo_61, B_X12_shoutsTo_75, sp_X12_isFrom, hm, hm.k, hm.k1, hm.n1, hm.r1, hm.k2, hm.n2, hm.r2, hm.k3, hm.n3, hm.r3, hm.k4, hm.n4, hm.r4, hm.k5, hm.n5, hm.r5, hm.k6, hm.n6, hm.r6, hm.k7, hm.n7, hm.r7, hm.k8, hm.n8, hm.r8, hm.k9, hm.n9, hm.r9, hm.k10, hm.n10, hm.r10, hm.k11, hm.n11, hm.r11, hm.k12, hm.n12, hm.r12, hm.k13, hm.n13, hm.r13, hm.k14, hm.n14, hm.r14, li_2, li_3, li_4, li_5, li_6, li_7, li_8, li_9, li_10, li_11, li_12, li_13, li_14, li_15, li_16, li_17, li_18, li_19, li_20, li_21, li_22, li_23, li_24, li_25, li_26, li_27, li_28, li_29, li_30, li_32, li_33, li_34, li_35, li_36, li_37, li_38, li_39, li_40, li_41, li_42, li_43, li_44, li_45, li_46, li_47, li_48, li_49, li_50, li_51, li_52, li_53, li_54, li_55, li_56, li_57, li_58, li_59, li_60, li_61, li_62, li_63, li_64, li_65, li_66, li_67, li_68, li_69, li_70, li_71, li_72, li_73, li_74, li_75, li_76, li_77, li_78, li_79, li_80, li_81, li_82, li_83, li_84, li_85, li_86, li_87, li_88, li_89, li_90, li_91, li_92, li_93, li_94, li_95, li_96, li_97, li_98, li_99, li_100, li_101, li_102, li_103, li_104, li_105, li_106, li_107, li_108, li_109, li_110, li_111, li_112, li_113, li_114, li_115, li_116, li_117, li_118, li_119, li_120, li_121, li_122, li_123, li_124, li_125, li_126, li_127, li_128, li_129, li_130, li_131, li_226, li_240, li_255, li_300, li_586, li_594, li_900, li_999, li_1000, li_1800, li_2376, li_2388, li_2406, li_2602, li_2970, li_3067, li_3564, li_9999, li_10000, li_11287, li_65536, li_100000, li_1000000, nI_mul, tn0, tn1, vin0, vin1, Int32.add_zero, Int32.or_zero, Int32.mul_one, Int32.mul_zero, Int32.zero_add, Nat.reduceEqDiff, Nat.reduceMul, Nat.reduceSub, lg_cmp_eq, hf, bI_01, bI_01b, bI_0, nI_1, nI_add, nI_clamp, nI_pin, nI_neg, nI_nonneg, nI_leE, nI_ltE, nI_eqE, Nat.not_le, Nat.not_lt, fq_10, fq_01, fq_rr, ix_aald, ix_aast, ix_abs, ix_alen, ix_aload, ix_aret, ix_astore, ix_bald, ix_bast, ix_call, ix_cpyI, ix_cpyJ, ix_dead, ix_dup2, ix_dup2L, ix_dupI, ix_dupR, ix_dupx1, ix_getI, ix_getJ, ix_getR, ix_gfm, ix_gtab, ix_i2b, ix_i2c, ix_i2l, ix_i2s, ix_iadd, ix_iald, ix_iand, ix_iast, ix_icall, ix_icmp_eq, ix_icmp_ge, ix_icmp_gt, ix_icmp_le, ix_icmp_lt, ix_icmp_ne, ix_idiv, ix_if_eq, ix_if_ge, ix_if_gt, ix_if_le, ix_if_lt, ix_if_ne, ix_iinc, ix_iload, ix_imul, ix_ineg, ix_ior, ix_irem, ix_iret, ix_ishl, ix_ishr, ix_istore, ix_isub, ix_iushr, ix_ixor, ix_l2i, ix_ladd, ix_lald, ix_land, ix_last, ix_lcmp, ix_ldcS, ix_ldiv, ix_lload, ix_lmul, ix_lor, ix_lrem, ix_lret, ix_lshl, ix_lstore, ix_lsub, ix_lsw, ix_max, ix_min, ix_new, ix_newa, ix_nret, ix_oinit, ix_pop2L, ix_popI, ix_pushI, ix_pushL, ix_putI, ix_putJ, ix_putR, ix_putZ, ix_sbald, ix_sgetC, ix_sgetV, ix_slen, ix_strc, ix_tald, ix_tsw, ix_vcall, ix_vret, ix_zret, stL, stL2, kilL, popN, fq_sw, fq_lsw, List.map_cons, List.map_nil, List.getElem?_cons_zero, List.getElem?_cons_succ, Option.toList_some, Option.toList_none, List.cons_append, List.nil_append, List.length_cons, List.length_nil, List.sum_cons, List.sum_nil, cat_i, cat_l, cat_r, true_and, and_true, Nat.zero_add, Nat.add_zero, Nat.le_refl, Nat.zero_le, Nat.reduceAdd, Nat.reduceLeDiff, exists_eq_left', Option.some.injEq, not_true_eq_false, not_false_eq_true, false_implies, true_implies, implies_true, and_self, or_true, true_or, or_false, false_or]
    unfold rsh at hQ
    simp only [li_4] at hQ
    generalize J (M + 5) (60 * t + k + 1) - J (M + 5) (60 * t + k) = f at hQ ⊢
    generalize f / (I (M + 1) 3).toInt64 = q at hQ ⊢
    generalize f - q * (I (M + 1) 3).toInt64 = r at hQ ⊢
    grind
  · exact h.elim
def sp_X12_waysBy (G : GT) : Sp := fun as S I J z Q => match as with
  | [.int t] => in8 t ∧ Q (some (.int (rwB t))) S I J z
  | _ => False
set_option maxHeartbeats 4000000 in
set_option maxRecDepth 20000 in
theorem c_X12_waysBy {l : Launch} {G : GT} {D : Nat} : ∀ as S I J z Q, sp_X12_waysBy G as S I J z Q → fqCall l G M_X12_waysBy (D + 0) 0 0 as S I J z Q := by
  intro as S I J z Q h
  unfold sp_X12_waysBy at h
  split at h
  · next t =>
    obtain ⟨h8, hQ⟩ := h
    rcases h8 with rfl | rfl | rfl | rfl | rfl | rfl | rfl | rfl
    all_goals
      refine fq_enter [some (.int _)] (by decide +kernel) (Nat.le_of_ble_eq_true rfl) rfl (b_X12_waysBy_0 _ _ _ _ _ _ _ _ ?_)
      simp only [B_X12_waysBy_0, B_X12_waysBy_10, B_X12_waysBy_44, ix_aald, ix_aast, ix_abs, ix_alen, ix_aload, ix_aret, ix_astore, ix_bald, ix_bast, ix_call, ix_cpyI, ix_cpyJ, ix_dead, ix_dup2, ix_dup2L, ix_dupI, ix_dupR, ix_dupx1, ix_getI, ix_getJ, ix_getR, ix_gfm, ix_gtab, ix_i2b, ix_i2c, ix_i2l, ix_i2s, ix_iadd, ix_iald, ix_iand, ix_iast, ix_icall, ix_icmp_eq, ix_icmp_ge, ix_icmp_gt, ix_icmp_le, ix_icmp_lt, ix_icmp_ne, ix_idiv, ix_if_eq, ix_if_ge, ix_if_gt, ix_if_le, ix_if_lt, ix_if_ne, ix_iinc, ix_iload, ix_imul, ix_ineg, ix_ior, ix_irem, ix_iret, ix_ishl, ix_ishr, ix_istore, ix_isub, ix_iushr, ix_ixor, ix_l2i, ix_ladd, ix_lald, ix_land, ix_last, ix_lcmp, ix_ldcS, ix_ldiv, ix_lload, ix_lmul, ix_lor, ix_lrem, ix_lret, ix_lshl, ix_lstore, ix_lsub, ix_lsw, ix_max, ix_min, ix_new, ix_newa, ix_nret, ix_oinit, ix_pop2L, ix_popI, ix_pushI, ix_pushL, ix_putI, ix_putJ, ix_putR, ix_putZ, ix_sbald, ix_sgetC, ix_sgetV, ix_slen, ix_strc, ix_tald, ix_tsw, ix_vcall, ix_vret, ix_zret, stL, stL2, kilL, popN, fq_sw, fq_lsw, List.map_cons, List.map_nil, List.getElem?_cons_zero, List.getElem?_cons_succ, Option.toList_some, Option.toList_none, List.cons_append, List.nil_append, List.length_cons, List.length_nil, List.sum_cons, List.sum_nil, cat_i, cat_l, cat_r, true_and, and_true, Nat.zero_add, Nat.add_zero, Nat.le_refl, Nat.zero_le, Nat.reduceAdd, Nat.reduceLeDiff, exists_eq_left', Option.some.injEq, not_true_eq_false, not_false_eq_true, false_implies, true_implies, implies_true, and_self, or_true, true_or, or_false, false_or]
      refine ⟨fun h => ?_, fun h => ?_⟩
      all_goals first
        | exact absurd h (by decide)
        | exact absurd (by decide) h
        | exact ⟨fun q => absurd q (by decide), fun _ => ⟨fun q => absurd q (by decide), fun _ => ⟨fun q => absurd q (by decide), fun _ => ⟨fun q => absurd q (by decide), fun _ => hQ⟩⟩⟩⟩
        | exact ⟨fun _ => hQ, fun q => absurd (by decide) q⟩
        | exact ⟨fun q => absurd q (by decide), fun _ => ⟨fun _ => hQ, fun q => absurd (by decide) q⟩⟩
        | exact ⟨fun q => absurd q (by decide), fun _ => ⟨fun q => absurd q (by decide), fun _ => ⟨fun _ => hQ, fun q => absurd (by decide) q⟩⟩⟩
        | exact ⟨fun q => absurd q (by decide), fun _ => ⟨fun q => absurd q (by decide), fun _ => ⟨fun q => absurd q (by decide), fun _ => ⟨fun _ => hQ, fun q => absurd (by decide) q⟩⟩⟩⟩
  · exact h.elim
def sp_X12_leftBy (G : GT) : Sp := fun as S I J z Q => match as with
  | [.int t] => in8 t ∧ Q (some (.int (rlB t))) S I J z
  | _ => False
set_option maxHeartbeats 4000000 in
set_option maxRecDepth 20000 in
theorem c_X12_leftBy {l : Launch} {G : GT} {D : Nat} : ∀ as S I J z Q, sp_X12_leftBy G as S I J z Q → fqCall l G M_X12_leftBy (D + 0) 0 0 as S I J z Q := by
  intro as S I J z Q h
  unfold sp_X12_leftBy at h
  split at h
  · next t =>
    obtain ⟨h8, hQ⟩ := h
    rcases h8 with rfl | rfl | rfl | rfl | rfl | rfl | rfl | rfl
    all_goals
      refine fq_enter [some (.int _)] (by decide +kernel) (Nat.le_of_ble_eq_true rfl) rfl (b_X12_leftBy_0 _ _ _ _ _ _ _ _ ?_)
      simp only [B_X12_leftBy_0, B_X12_leftBy_36, ix_aald, ix_aast, ix_abs, ix_alen, ix_aload, ix_aret, ix_astore, ix_bald, ix_bast, ix_call, ix_cpyI, ix_cpyJ, ix_dead, ix_dup2, ix_dup2L, ix_dupI, ix_dupR, ix_dupx1, ix_getI, ix_getJ, ix_getR, ix_gfm, ix_gtab, ix_i2b, ix_i2c, ix_i2l, ix_i2s, ix_iadd, ix_iald, ix_iand, ix_iast, ix_icall, ix_icmp_eq, ix_icmp_ge, ix_icmp_gt, ix_icmp_le, ix_icmp_lt, ix_icmp_ne, ix_idiv, ix_if_eq, ix_if_ge, ix_if_gt, ix_if_le, ix_if_lt, ix_if_ne, ix_iinc, ix_iload, ix_imul, ix_ineg, ix_ior, ix_irem, ix_iret, ix_ishl, ix_ishr, ix_istore, ix_isub, ix_iushr, ix_ixor, ix_l2i, ix_ladd, ix_lald, ix_land, ix_last, ix_lcmp, ix_ldcS, ix_ldiv, ix_lload, ix_lmul, ix_lor, ix_lrem, ix_lret, ix_lshl, ix_lstore, ix_lsub, ix_lsw, ix_max, ix_min, ix_new, ix_newa, ix_nret, ix_oinit, ix_pop2L, ix_popI, ix_pushI, ix_pushL, ix_putI, ix_putJ, ix_putR, ix_putZ, ix_sbald, ix_sgetC, ix_sgetV, ix_slen, ix_strc, ix_tald, ix_tsw, ix_vcall, ix_vret, ix_zret, stL, stL2, kilL, popN, fq_sw, fq_lsw, List.map_cons, List.map_nil, List.getElem?_cons_zero, List.getElem?_cons_succ, Option.toList_some, Option.toList_none, List.cons_append, List.nil_append, List.length_cons, List.length_nil, List.sum_cons, List.sum_nil, cat_i, cat_l, cat_r, true_and, and_true, Nat.zero_add, Nat.add_zero, Nat.le_refl, Nat.zero_le, Nat.reduceAdd, Nat.reduceLeDiff, exists_eq_left', Option.some.injEq, not_true_eq_false, not_false_eq_true, false_implies, true_implies, implies_true, and_self, or_true, true_or, or_false, false_or]
      repeat' (apply And.intro <;> intro h <;> try (first | exact absurd h (by decide) | exact absurd (by decide) h))
      all_goals exact hQ
  · exact h.elim
/-- may a row of places be asked for -/
def rpl (I : IH) (J : JH) (M : Nat) (t n : Int32) : Int32 := if ¬ ((0 ≤ t ∧ t < 4) ∧ (1 ≤ n ∧ n ≤ 12)) then 1 else if I (M + 4) t.toNatClampNeg = -1 then 2 else if I (M + 4) t.toNatClampNeg < n then 3 else if (fndU (fun i => decide (J (M + 5) (60 * t.toNatClampNeg + i) < 0)) 0 n.toNatClampNeg) = -1 then 0 else 5
def sp_X12_wrongPlaces (G : GT) : Sp := fun as S I J z Q => match as with
  | [.ref M, .int t, .int n] => rfS S M ∧ Q (some (.int (rpl I J M t n))) S I J z
  | _ => False
theorem i64_le (a b : Int32) : a.toInt64 ≤ b.toInt64 ↔ a ≤ b := by
  rw [Int64.le_iff_toInt_le, Int32.le_iff_toInt_le, Int32.toInt_toInt64, Int32.toInt_toInt64]
theorem i64_1 (n : Int32) : ((1 : Int64) ≤ n.toInt64) = (1 ≤ n) := propext (i64_le 1 n)
theorem i64_0 (n : Int32) : ((0 : Int64) ≤ n.toInt64) = (0 ≤ n) := propext (i64_le 0 n)
theorem i64_12 (n : Int32) : (n.toInt64 ≤ (12 : Int64)) = (n ≤ 12) := propext (i64_le n 12)
theorem i64_9 (n : Int32) : (n.toInt64 ≤ (9 : Int64)) = (n ≤ 9) := propext (i64_le n 9)
theorem i64_30 (n : Int32) : (n.toInt64 ≤ (30 : Int64)) = (n ≤ 30) := propext (i64_le n 30)
theorem i64_99 (n : Int32) : (n.toInt64 ≤ (99 : Int64)) = (n ≤ 99) := propext (i64_le n 99)
theorem i64_20 (n : Int32) : (n.toInt64 ≤ (20 : Int64)) = (n ≤ 20) := propext (i64_le n 20)
theorem i64_4 (n : Int32) : (n.toInt64 ≤ (4 : Int64)) = (n ≤ 4) := propext (i64_le n 4)
theorem i64_9999 (n : Int32) : (n.toInt64 ≤ (9999 : Int64)) = (n ≤ 9999) := propext (i64_le n 9999)
set_option maxHeartbeats 4000000 in
set_option maxRecDepth 20000 in
theorem c_X12_wrongPlaces {l : Launch} {G : GT} {D : Nat} : ∀ as S I J z Q, sp_X12_wrongPlaces G as S I J z Q → fqCall l G M_X12_wrongPlaces (D + 1) 0 0 as S I J z Q := by
  intro as S I J z Q h
  unfold sp_X12_wrongPlaces at h
  split at h
  · next M t n =>
    obtain ⟨hm, hQ⟩ := h
    unfold rpl at hQ
    by_cases h1 : 0 ≤ t ∧ t < 4
    · by_cases h2 : 1 ≤ n ∧ n ≤ 12
      · obtain ⟨k, rfl, hk⟩ := (in_c (c := 4) (by decide)).mp h1
        obtain ⟨m, hm1, hm2, rfl⟩ := in112 h2
        rw [if_neg (fun q => q ⟨h1, h2⟩), nI_clamp (by omega), nI_clamp (by omega)] at hQ
        have lp := loopF (N := m) (p := fun i => decide (J (M + 5) (60 * k + i) < 0)) (R := fun v => Q (some (.int (if v = -1 then 0 else 5))) S I J z) (B := fun i => fqAt l G M_X12_wrongPlaces (D + 1) 0 0 Q 47 [some (.ref M), some (.int (nI k)), some (.int (nI m)), some (.int (nI i))] [] S I J z 0 0) (by
          intro i hi h3 h4
          rw [if_neg (by rw [nI_m1 (by omega)]; exact id)] at h3
          refine b_X12_wrongPlaces_47 _ _ _ _ _ _ _ _ ?_
          simp (disch := omega) only [B_X12_wrongPlaces_0, B_X12_wrongPlaces_19, B_X12_wrongPlaces_47, sp_X12_isTray, sp_X12_isFrom, hm, hm.k, hm.k1, hm.n1, hm.r1, hm.k2, hm.n2, hm.r2, hm.k3, hm.n3, hm.r3, hm.k4, hm.n4, hm.r4, hm.k5, hm.n5, hm.r5, hm.k6, hm.n6, hm.r6, hm.k7, hm.n7, hm.r7, hm.k8, hm.n8, hm.r8, hm.k9, hm.n9, hm.r9, hm.k10, hm.n10, hm.r10, hm.k11, hm.n11, hm.r11, hm.k12, hm.n12, hm.r12, hm.k13, hm.n13, hm.r13, hm.k14, hm.n14, hm.r14, li_2, li_3, li_4, li_5, li_6, li_7, li_8, li_9, li_10, li_11, li_12, li_13, li_14, li_15, li_16, li_17, li_18, li_19, li_20, li_21, li_22, li_23, li_24, li_25, li_26, li_27, li_28, li_29, li_30, li_32, li_33, li_34, li_35, li_36, li_37, li_38, li_39, li_40, li_41, li_42, li_43, li_44, li_45, li_46, li_47, li_48, li_49, li_50, li_51, li_52, li_53, li_54, li_55, li_56, li_57, li_58, li_59, li_60, li_61, li_62, li_63, li_64, li_65, li_66, li_67, li_68, li_69, li_70, li_71, li_72, li_73, li_74, li_75, li_76, li_77, li_78, li_79, li_80, li_81, li_82, li_83, li_84, li_85, li_86, li_87, li_88, li_89, li_90, li_91, li_92, li_93, li_94, li_95, li_96, li_97, li_98, li_99, li_100, li_101, li_102, li_103, li_104, li_105, li_106, li_107, li_108, li_109, li_110, li_111, li_112, li_113, li_114, li_115, li_116, li_117, li_118, li_119, li_120, li_121, li_122, li_123, li_124, li_125, li_126, li_127, li_128, li_129, li_130, li_131, li_226, li_240, li_255, li_300, li_586, li_594, li_900, li_999, li_1000, li_1800, li_2376, li_2388, li_2406, li_2602, li_2970, li_3067, li_3564, li_9999, li_10000, li_11287, li_65536, li_100000, li_1000000, nI_mul, tn0, tn1, vin0, vin1, Int32.add_zero, Int32.or_zero, Int32.mul_one, Int32.mul_zero, Int32.zero_add, Nat.reduceEqDiff, Nat.reduceMul, Nat.reduceSub, lg_cmp_ge, nI_1, nI_add, nI_clamp, nI_pin, nI_neg, nI_nonneg, nI_leE, nI_ltE, nI_eqE, Nat.not_le, Nat.not_lt, fq_10, fq_01, fq_rr, ix_aald, ix_aast, ix_abs, ix_alen, ix_aload, ix_aret, ix_astore, ix_bald, ix_bast, ix_call, ix_cpyI, ix_cpyJ, ix_dead, ix_dup2, ix_dup2L, ix_dupI, ix_dupR, ix_dupx1, ix_getI, ix_getJ, ix_getR, ix_gfm, ix_gtab, ix_i2b, ix_i2c, ix_i2l, ix_i2s, ix_iadd, ix_iald, ix_iand, ix_iast, ix_icall, ix_icmp_eq, ix_icmp_ge, ix_icmp_gt, ix_icmp_le, ix_icmp_lt, ix_icmp_ne, ix_idiv, ix_if_eq, ix_if_ge, ix_if_gt, ix_if_le, ix_if_lt, ix_if_ne, ix_iinc, ix_iload, ix_imul, ix_ineg, ix_ior, ix_irem, ix_iret, ix_ishl, ix_ishr, ix_istore, ix_isub, ix_iushr, ix_ixor, ix_l2i, ix_ladd, ix_lald, ix_land, ix_last, ix_lcmp, ix_ldcS, ix_ldiv, ix_lload, ix_lmul, ix_lor, ix_lrem, ix_lret, ix_lshl, ix_lstore, ix_lsub, ix_lsw, ix_max, ix_min, ix_new, ix_newa, ix_nret, ix_oinit, ix_pop2L, ix_popI, ix_pushI, ix_pushL, ix_putI, ix_putJ, ix_putR, ix_putZ, ix_sbald, ix_sgetC, ix_sgetV, ix_slen, ix_strc, ix_tald, ix_tsw, ix_vcall, ix_vret, ix_zret, stL, stL2, kilL, popN, fq_sw, fq_lsw, List.map_cons, List.map_nil, List.getElem?_cons_zero, List.getElem?_cons_succ, Option.toList_some, Option.toList_none, List.cons_append, List.nil_append, List.length_cons, List.length_nil, List.sum_cons, List.sum_nil, cat_i, cat_l, cat_r, true_and, and_true, Nat.zero_add, Nat.add_zero, Nat.le_refl, Nat.zero_le, Nat.reduceAdd, Nat.reduceLeDiff, exists_eq_left', Option.some.injEq, not_true_eq_false, not_false_eq_true, false_implies, true_implies, implies_true, and_self, or_true, true_or, or_false, false_or]
          refine ⟨fun h => absurd h (by omega), fun _ => ⟨fun h => h4 ?_, fun h => h3 ?_⟩⟩
          · rw [decide_eq_false_iff_not]
            exact Int64.not_lt.mpr h
          · rw [decide_eq_true_eq]
            exact Int64.not_le.mp h) (by
          intro h3
          refine b_X12_wrongPlaces_47 _ _ _ _ _ _ _ _ ?_
          simp (disch := omega) only [B_X12_wrongPlaces_0, B_X12_wrongPlaces_19, B_X12_wrongPlaces_47, sp_X12_isTray, sp_X12_isFrom, hm, hm.k, hm.k1, hm.n1, hm.r1, hm.k2, hm.n2, hm.r2, hm.k3, hm.n3, hm.r3, hm.k4, hm.n4, hm.r4, hm.k5, hm.n5, hm.r5, hm.k6, hm.n6, hm.r6, hm.k7, hm.n7, hm.r7, hm.k8, hm.n8, hm.r8, hm.k9, hm.n9, hm.r9, hm.k10, hm.n10, hm.r10, hm.k11, hm.n11, hm.r11, hm.k12, hm.n12, hm.r12, hm.k13, hm.n13, hm.r13, hm.k14, hm.n14, hm.r14, li_2, li_3, li_4, li_5, li_6, li_7, li_8, li_9, li_10, li_11, li_12, li_13, li_14, li_15, li_16, li_17, li_18, li_19, li_20, li_21, li_22, li_23, li_24, li_25, li_26, li_27, li_28, li_29, li_30, li_32, li_33, li_34, li_35, li_36, li_37, li_38, li_39, li_40, li_41, li_42, li_43, li_44, li_45, li_46, li_47, li_48, li_49, li_50, li_51, li_52, li_53, li_54, li_55, li_56, li_57, li_58, li_59, li_60, li_61, li_62, li_63, li_64, li_65, li_66, li_67, li_68, li_69, li_70, li_71, li_72, li_73, li_74, li_75, li_76, li_77, li_78, li_79, li_80, li_81, li_82, li_83, li_84, li_85, li_86, li_87, li_88, li_89, li_90, li_91, li_92, li_93, li_94, li_95, li_96, li_97, li_98, li_99, li_100, li_101, li_102, li_103, li_104, li_105, li_106, li_107, li_108, li_109, li_110, li_111, li_112, li_113, li_114, li_115, li_116, li_117, li_118, li_119, li_120, li_121, li_122, li_123, li_124, li_125, li_126, li_127, li_128, li_129, li_130, li_131, li_226, li_240, li_255, li_300, li_586, li_594, li_900, li_999, li_1000, li_1800, li_2376, li_2388, li_2406, li_2602, li_2970, li_3067, li_3564, li_9999, li_10000, li_11287, li_65536, li_100000, li_1000000, nI_mul, tn0, tn1, vin0, vin1, Int32.add_zero, Int32.or_zero, Int32.mul_one, Int32.mul_zero, Int32.zero_add, Nat.reduceEqDiff, Nat.reduceMul, Nat.reduceSub, nI_1, nI_add, nI_clamp, nI_pin, nI_neg, nI_nonneg, nI_leE, nI_ltE, nI_eqE, Nat.not_le, Nat.not_lt, fq_10, fq_01, fq_rr, ix_aald, ix_aast, ix_abs, ix_alen, ix_aload, ix_aret, ix_astore, ix_bald, ix_bast, ix_call, ix_cpyI, ix_cpyJ, ix_dead, ix_dup2, ix_dup2L, ix_dupI, ix_dupR, ix_dupx1, ix_getI, ix_getJ, ix_getR, ix_gfm, ix_gtab, ix_i2b, ix_i2c, ix_i2l, ix_i2s, ix_iadd, ix_iald, ix_iand, ix_iast, ix_icall, ix_icmp_eq, ix_icmp_ge, ix_icmp_gt, ix_icmp_le, ix_icmp_lt, ix_icmp_ne, ix_idiv, ix_if_eq, ix_if_ge, ix_if_gt, ix_if_le, ix_if_lt, ix_if_ne, ix_iinc, ix_iload, ix_imul, ix_ineg, ix_ior, ix_irem, ix_iret, ix_ishl, ix_ishr, ix_istore, ix_isub, ix_iushr, ix_ixor, ix_l2i, ix_ladd, ix_lald, ix_land, ix_last, ix_lcmp, ix_ldcS, ix_ldiv, ix_lload, ix_lmul, ix_lor, ix_lrem, ix_lret, ix_lshl, ix_lstore, ix_lsub, ix_lsw, ix_max, ix_min, ix_new, ix_newa, ix_nret, ix_oinit, ix_pop2L, ix_popI, ix_pushI, ix_pushL, ix_putI, ix_putJ, ix_putR, ix_putZ, ix_sbald, ix_sgetC, ix_sgetV, ix_slen, ix_strc, ix_tald, ix_tsw, ix_vcall, ix_vret, ix_zret, stL, stL2, kilL, popN, fq_sw, fq_lsw, List.map_cons, List.map_nil, List.getElem?_cons_zero, List.getElem?_cons_succ, Option.toList_some, Option.toList_none, List.cons_append, List.nil_append, List.length_cons, List.length_nil, List.sum_cons, List.sum_nil, cat_i, cat_l, cat_r, true_and, and_true, Nat.zero_add, Nat.add_zero, Nat.le_refl, Nat.zero_le, Nat.reduceAdd, Nat.reduceLeDiff, exists_eq_left', Option.some.injEq, not_true_eq_false, not_false_eq_true, false_implies, true_implies, implies_true, and_self, or_true, true_or, or_false, false_or]
          exact h3) m 0 (by omega)
        refine fq_enter [some (.ref M), some (.int (nI k)), some (.int (nI m)), none] (by decide +kernel) (Nat.le_of_ble_eq_true rfl) rfl (b_X12_wrongPlaces_0 _ _ _ _ _ _ _ _ ?_)
        simp (disch := omega) only [B_X12_wrongPlaces_0, B_X12_wrongPlaces_19, B_X12_wrongPlaces_47, sp_X12_isTray, sp_X12_isFrom, hm, hm.k, hm.k1, hm.n1, hm.r1, hm.k2, hm.n2, hm.r2, hm.k3, hm.n3, hm.r3, hm.k4, hm.n4, hm.r4, hm.k5, hm.n5, hm.r5, hm.k6, hm.n6, hm.r6, hm.k7, hm.n7, hm.r7, hm.k8, hm.n8, hm.r8, hm.k9, hm.n9, hm.r9, hm.k10, hm.n10, hm.r10, hm.k11, hm.n11, hm.r11, hm.k12, hm.n12, hm.r12, hm.k13, hm.n13, hm.r13, hm.k14, hm.n14, hm.r14, li_2, li_3, li_4, li_5, li_6, li_7, li_8, li_9, li_10, li_11, li_12, li_13, li_14, li_15, li_16, li_17, li_18, li_19, li_20, li_21, li_22, li_23, li_24, li_25, li_26, li_27, li_28, li_29, li_30, li_32, li_33, li_34, li_35, li_36, li_37, li_38, li_39, li_40, li_41, li_42, li_43, li_44, li_45, li_46, li_47, li_48, li_49, li_50, li_51, li_52, li_53, li_54, li_55, li_56, li_57, li_58, li_59, li_60, li_61, li_62, li_63, li_64, li_65, li_66, li_67, li_68, li_69, li_70, li_71, li_72, li_73, li_74, li_75, li_76, li_77, li_78, li_79, li_80, li_81, li_82, li_83, li_84, li_85, li_86, li_87, li_88, li_89, li_90, li_91, li_92, li_93, li_94, li_95, li_96, li_97, li_98, li_99, li_100, li_101, li_102, li_103, li_104, li_105, li_106, li_107, li_108, li_109, li_110, li_111, li_112, li_113, li_114, li_115, li_116, li_117, li_118, li_119, li_120, li_121, li_122, li_123, li_124, li_125, li_126, li_127, li_128, li_129, li_130, li_131, li_226, li_240, li_255, li_300, li_586, li_594, li_900, li_999, li_1000, li_1800, li_2376, li_2388, li_2406, li_2602, li_2970, li_3067, li_3564, li_9999, li_10000, li_11287, li_65536, li_100000, li_1000000, nI_mul, tn0, tn1, vin0, vin1, Int32.add_zero, Int32.or_zero, Int32.mul_one, Int32.mul_zero, Int32.zero_add, Nat.reduceEqDiff, Nat.reduceMul, Nat.reduceSub, i64_1, i64_12, nI_1, nI_add, nI_clamp, nI_pin, nI_neg, nI_nonneg, nI_leE, nI_ltE, nI_eqE, Nat.not_le, Nat.not_lt, fq_10, fq_01, fq_rr, ix_aald, ix_aast, ix_abs, ix_alen, ix_aload, ix_aret, ix_astore, ix_bald, ix_bast, ix_call, ix_cpyI, ix_cpyJ, ix_dead, ix_dup2, ix_dup2L, ix_dupI, ix_dupR, ix_dupx1, ix_getI, ix_getJ, ix_getR, ix_gfm, ix_gtab, ix_i2b, ix_i2c, ix_i2l, ix_i2s, ix_iadd, ix_iald, ix_iand, ix_iast, ix_icall, ix_icmp_eq, ix_icmp_ge, ix_icmp_gt, ix_icmp_le, ix_icmp_lt, ix_icmp_ne, ix_idiv, ix_if_eq, ix_if_ge, ix_if_gt, ix_if_le, ix_if_lt, ix_if_ne, ix_iinc, ix_iload, ix_imul, ix_ineg, ix_ior, ix_irem, ix_iret, ix_ishl, ix_ishr, ix_istore, ix_isub, ix_iushr, ix_ixor, ix_l2i, ix_ladd, ix_lald, ix_land, ix_last, ix_lcmp, ix_ldcS, ix_ldiv, ix_lload, ix_lmul, ix_lor, ix_lrem, ix_lret, ix_lshl, ix_lstore, ix_lsub, ix_lsw, ix_max, ix_min, ix_new, ix_newa, ix_nret, ix_oinit, ix_pop2L, ix_popI, ix_pushI, ix_pushL, ix_putI, ix_putJ, ix_putR, ix_putZ, ix_sbald, ix_sgetC, ix_sgetV, ix_slen, ix_strc, ix_tald, ix_tsw, ix_vcall, ix_vret, ix_zret, stL, stL2, kilL, popN, fq_sw, fq_lsw, List.map_cons, List.map_nil, List.getElem?_cons_zero, List.getElem?_cons_succ, Option.toList_some, Option.toList_none, List.cons_append, List.nil_append, List.length_cons, List.length_nil, List.sum_cons, List.sum_nil, cat_i, cat_l, cat_r, true_and, and_true, Nat.zero_add, Nat.add_zero, Nat.le_refl, Nat.zero_le, Nat.reduceAdd, Nat.reduceLeDiff, exists_eq_left', Option.some.injEq, not_true_eq_false, not_false_eq_true, false_implies, true_implies, implies_true, and_self, or_true, true_or, or_false, false_or]
        have h5 : ¬ bI (k < 4) = 0 := by
          rw [bI_0]
          exact fun q => q hk
        have h6 : ¬ bI (1 ≤ nI m ∧ m ≤ 12) = 0 := by
          rw [bI_0]
          exact fun q => q ⟨h2.1, hm2⟩
        refine ⟨fun q => absurd q h5, fun _ => ⟨fun _ => ⟨fun g1 => ⟨fun g2 => lp ?_, fun g2 => ?_⟩, fun g1 => ?_⟩, fun q => absurd q h6⟩⟩
        · rw [if_neg g1, if_neg (Int32.not_lt.mpr g2)] at hQ
          exact hQ
        · rw [if_neg g1, if_pos (Int32.not_le.mp g2)] at hQ
          exact hQ
        · rw [if_pos g1] at hQ
          exact hQ
      · refine fq_enter [some (.ref M), some (.int t), some (.int n), none] (by decide +kernel) (Nat.le_of_ble_eq_true rfl) rfl (b_X12_wrongPlaces_0 _ _ _ _ _ _ _ _ ?_)
        simp (disch := omega) only [B_X12_wrongPlaces_0, B_X12_wrongPlaces_19, B_X12_wrongPlaces_47, sp_X12_isTray, sp_X12_isFrom, hm, hm.k, hm.k1, hm.n1, hm.r1, hm.k2, hm.n2, hm.r2, hm.k3, hm.n3, hm.r3, hm.k4, hm.n4, hm.r4, hm.k5, hm.n5, hm.r5, hm.k6, hm.n6, hm.r6, hm.k7, hm.n7, hm.r7, hm.k8, hm.n8, hm.r8, hm.k9, hm.n9, hm.r9, hm.k10, hm.n10, hm.r10, hm.k11, hm.n11, hm.r11, hm.k12, hm.n12, hm.r12, hm.k13, hm.n13, hm.r13, hm.k14, hm.n14, hm.r14, i64_1, i64_12, h1, h2, bI_01, bI_01b, bI_0, bI_tr, bI_fl, nI_1, nI_add, nI_clamp, nI_pin, nI_neg, nI_nonneg, nI_leE, nI_ltE, nI_eqE, Nat.not_le, Nat.not_lt, fq_10, fq_01, fq_rr, ix_aald, ix_aast, ix_abs, ix_alen, ix_aload, ix_aret, ix_astore, ix_bald, ix_bast, ix_call, ix_cpyI, ix_cpyJ, ix_dead, ix_dup2, ix_dup2L, ix_dupI, ix_dupR, ix_dupx1, ix_getI, ix_getJ, ix_getR, ix_gfm, ix_gtab, ix_i2b, ix_i2c, ix_i2l, ix_i2s, ix_iadd, ix_iald, ix_iand, ix_iast, ix_icall, ix_icmp_eq, ix_icmp_ge, ix_icmp_gt, ix_icmp_le, ix_icmp_lt, ix_icmp_ne, ix_idiv, ix_if_eq, ix_if_ge, ix_if_gt, ix_if_le, ix_if_lt, ix_if_ne, ix_iinc, ix_iload, ix_imul, ix_ineg, ix_ior, ix_irem, ix_iret, ix_ishl, ix_ishr, ix_istore, ix_isub, ix_iushr, ix_ixor, ix_l2i, ix_ladd, ix_lald, ix_land, ix_last, ix_lcmp, ix_ldcS, ix_ldiv, ix_lload, ix_lmul, ix_lor, ix_lrem, ix_lret, ix_lshl, ix_lstore, ix_lsub, ix_lsw, ix_max, ix_min, ix_new, ix_newa, ix_nret, ix_oinit, ix_pop2L, ix_popI, ix_pushI, ix_pushL, ix_putI, ix_putJ, ix_putR, ix_putZ, ix_sbald, ix_sgetC, ix_sgetV, ix_slen, ix_strc, ix_tald, ix_tsw, ix_vcall, ix_vret, ix_zret, stL, stL2, kilL, popN, fq_sw, fq_lsw, List.map_cons, List.map_nil, List.getElem?_cons_zero, List.getElem?_cons_succ, Option.toList_some, Option.toList_none, List.cons_append, List.nil_append, List.length_cons, List.length_nil, List.sum_cons, List.sum_nil, cat_i, cat_l, cat_r, true_and, and_true, Nat.zero_add, Nat.add_zero, Nat.le_refl, Nat.zero_le, Nat.reduceAdd, Nat.reduceLeDiff, exists_eq_left', Option.some.injEq, not_true_eq_false, not_false_eq_true, false_implies, true_implies, implies_true, and_self, or_true, true_or, or_false, false_or]
        rw [if_pos (fun q => h2 q.2)] at hQ
        exact hQ
    · refine fq_enter [some (.ref M), some (.int t), some (.int n), none] (by decide +kernel) (Nat.le_of_ble_eq_true rfl) rfl (b_X12_wrongPlaces_0 _ _ _ _ _ _ _ _ ?_)
      simp (disch := omega) only [B_X12_wrongPlaces_0, B_X12_wrongPlaces_19, B_X12_wrongPlaces_47, sp_X12_isTray, sp_X12_isFrom, hm, hm.k, hm.k1, hm.n1, hm.r1, hm.k2, hm.n2, hm.r2, hm.k3, hm.n3, hm.r3, hm.k4, hm.n4, hm.r4, hm.k5, hm.n5, hm.r5, hm.k6, hm.n6, hm.r6, hm.k7, hm.n7, hm.r7, hm.k8, hm.n8, hm.r8, hm.k9, hm.n9, hm.r9, hm.k10, hm.n10, hm.r10, hm.k11, hm.n11, hm.r11, hm.k12, hm.n12, hm.r12, hm.k13, hm.n13, hm.r13, hm.k14, hm.n14, hm.r14, i64_1, i64_12, h1, bI_01, bI_01b, bI_0, bI_tr, bI_fl, nI_1, nI_add, nI_clamp, nI_pin, nI_neg, nI_nonneg, nI_leE, nI_ltE, nI_eqE, Nat.not_le, Nat.not_lt, fq_10, fq_01, fq_rr, ix_aald, ix_aast, ix_abs, ix_alen, ix_aload, ix_aret, ix_astore, ix_bald, ix_bast, ix_call, ix_cpyI, ix_cpyJ, ix_dead, ix_dup2, ix_dup2L, ix_dupI, ix_dupR, ix_dupx1, ix_getI, ix_getJ, ix_getR, ix_gfm, ix_gtab, ix_i2b, ix_i2c, ix_i2l, ix_i2s, ix_iadd, ix_iald, ix_iand, ix_iast, ix_icall, ix_icmp_eq, ix_icmp_ge, ix_icmp_gt, ix_icmp_le, ix_icmp_lt, ix_icmp_ne, ix_idiv, ix_if_eq, ix_if_ge, ix_if_gt, ix_if_le, ix_if_lt, ix_if_ne, ix_iinc, ix_iload, ix_imul, ix_ineg, ix_ior, ix_irem, ix_iret, ix_ishl, ix_ishr, ix_istore, ix_isub, ix_iushr, ix_ixor, ix_l2i, ix_ladd, ix_lald, ix_land, ix_last, ix_lcmp, ix_ldcS, ix_ldiv, ix_lload, ix_lmul, ix_lor, ix_lrem, ix_lret, ix_lshl, ix_lstore, ix_lsub, ix_lsw, ix_max, ix_min, ix_new, ix_newa, ix_nret, ix_oinit, ix_pop2L, ix_popI, ix_pushI, ix_pushL, ix_putI, ix_putJ, ix_putR, ix_putZ, ix_sbald, ix_sgetC, ix_sgetV, ix_slen, ix_strc, ix_tald, ix_tsw, ix_vcall, ix_vret, ix_zret, stL, stL2, kilL, popN, fq_sw, fq_lsw, List.map_cons, List.map_nil, List.getElem?_cons_zero, List.getElem?_cons_succ, Option.toList_some, Option.toList_none, List.cons_append, List.nil_append, List.length_cons, List.length_nil, List.sum_cons, List.sum_nil, cat_i, cat_l, cat_r, true_and, and_true, Nat.zero_add, Nat.add_zero, Nat.le_refl, Nat.zero_le, Nat.reduceAdd, Nat.reduceLeDiff, exists_eq_left', Option.some.injEq, not_true_eq_false, not_false_eq_true, false_implies, true_implies, implies_true, and_self, or_true, true_or, or_false, false_or]
      rw [if_pos (fun q => h1 q.1)] at hQ
      exact hQ
  · exact h.elim
theorem rsh_in (f : Int64) (ft : Int32) : in8 (rsh f ft) := by
  unfold rsh
  split
  · exact Or.inl rfl
  · next h =>
    generalize f / ft.toInt64 = q at h
    have h1 : -3 ≤ q ∧ q ≤ 3 := Decidable.not_not.mp (fun e => h (Or.inr e))
    have h2 := Int64.le_iff_toInt_le.mp h1.1
    have h3 := Int64.le_iff_toInt_le.mp h1.2
    have e1 : (-3 : Int64).toInt = -3 := by decide
    have e2 : (3 : Int64).toInt = 3 := by decide
    rw [e1] at h2
    rw [e2] at h3
    have hq : ∀ k : Int64, q.toInt = k.toInt → q = k := fun k h => Int64.toInt_inj.mp h
    rcases (show q.toInt = -3 ∨ q.toInt = -2 ∨ q.toInt = -1 ∨ q.toInt = 0 ∨ q.toInt = 1 ∨ q.toInt = 2 ∨ q.toInt = 3 by omega) with h | h | h | h | h | h | h
    · rw [hq (-3) h]; exact Or.inr (Or.inl rfl)
    · rw [hq (-2) h]; exact Or.inr (Or.inr (Or.inl rfl))
    · rw [hq (-1) h]; exact Or.inr (Or.inr (Or.inr (Or.inl rfl)))
    · rw [hq 0 h]; exact Or.inr (Or.inr (Or.inr (Or.inr (Or.inl rfl))))
    · rw [hq 1 h]; exact Or.inr (Or.inr (Or.inr (Or.inr (Or.inr (Or.inl rfl)))))
    · rw [hq 2 h]; exact Or.inr (Or.inr (Or.inr (Or.inr (Or.inr (Or.inr (Or.inl rfl))))))
    · rw [hq 3 h]; exact Or.inr (Or.inr (Or.inr (Or.inr (Or.inr (Or.inr (Or.inr rfl))))))
theorem dX12_waysFrom_0 : decode cX12_waysFrom 0 = .ok (.lconst 1, 1) := by decide +kernel
theorem dX12_waysFrom_1 : decode cX12_waysFrom 1 = .ok (.lstore 4, 2) := by decide +kernel
theorem dX12_waysFrom_3 : decode cX12_waysFrom 3 = .ok (.iload_n 3, 1) := by decide +kernel
theorem dX12_waysFrom_4 : decode cX12_waysFrom 4 = .ok (.istore 6, 2) := by decide +kernel
theorem dX12_waysFrom_6 : decode cX12_waysFrom 6 = .ok (.iload 6, 2) := by decide +kernel
theorem dX12_waysFrom_8 : decode cX12_waysFrom 8 = .ok (.iconst 1, 1) := by decide +kernel
theorem dX12_waysFrom_9 : decode cX12_waysFrom 9 = .ok (.iadd, 1) := by decide +kernel
theorem dX12_waysFrom_10 : decode cX12_waysFrom 10 = .ok (.iload_n 2, 1) := by decide +kernel
theorem dX12_waysFrom_11 : decode cX12_waysFrom 11 = .ok (.if_icmp .ge 25, 3) := by decide +kernel
theorem dX12_waysFrom_14 : decode cX12_waysFrom 14 = .ok (.lload 4, 2) := by decide +kernel
theorem dX12_waysFrom_16 : decode cX12_waysFrom 16 = .ok (.aload_n 0, 1) := by decide +kernel
theorem dX12_waysFrom_17 : decode cX12_waysFrom 17 = .ok (.iload_n 1, 1) := by decide +kernel
theorem dX12_waysFrom_18 : decode cX12_waysFrom 18 = .ok (.iload 6, 2) := by decide +kernel
theorem dX12_waysFrom_20 : decode cX12_waysFrom 20 = .ok (.invokevirtual 409, 3) := by decide +kernel
theorem dX12_waysFrom_23 : decode cX12_waysFrom 23 = .ok (.invokestatic 412, 3) := by decide +kernel
theorem dX12_waysFrom_26 : decode cX12_waysFrom 26 = .ok (.i2l, 1) := by decide +kernel
theorem dX12_waysFrom_27 : decode cX12_waysFrom 27 = .ok (.lmul, 1) := by decide +kernel
theorem dX12_waysFrom_28 : decode cX12_waysFrom 28 = .ok (.lstore 4, 2) := by decide +kernel
theorem dX12_waysFrom_30 : decode cX12_waysFrom 30 = .ok (.iinc 6 1, 3) := by decide +kernel
theorem dX12_waysFrom_33 : decode cX12_waysFrom 33 = .ok (.goto (-27), 3) := by decide +kernel
theorem dX12_waysFrom_36 : decode cX12_waysFrom 36 = .ok (.lload 4, 2) := by decide +kernel
theorem dX12_waysFrom_38 : decode cX12_waysFrom 38 = .ok (.lreturn, 1) := by decide +kernel
abbrev M_X12_waysFrom : MT := (yX12_waysFrom, cX12_waysFrom, 7, (some .long))
theorem cf_X12_waysFrom : fq_cf M_X12_waysFrom 3 := ⟨(mg_1 (List.mem_of_getElem? (i := 15) rfl) rfl), (mg_9 (List.mem_of_getElem? (i := 99) rfl) rfl), ⟨by decide, by decide, by decide +kernel⟩, by decide⟩
def B_X12_waysFrom_6 (l : Launch) (G : GT) (D mc ms : Nat) (Q : Post) : Cn := ix_iload 6 (ix_pushI 1 (ix_iadd (ix_iload 2 (ix_icmp_ge (ix_lload 4 (ix_lret mc ms Q)) (ix_lload 4 (ix_aload 0 (ix_iload 1 (ix_iload 6 (ix_vcall 12 3 0 0 mc ms (sp_X12_shoutsTo G) (ix_call 1 0 0 mc ms (sp_X12_waysBy G) (ix_i2l (ix_lmul (ix_lstore 4 (ix_iinc 6 1 (fqAt l G M_X12_waysFrom (D + 2) mc ms Q 6)))))))))))))))
theorem b_X12_waysFrom_6 {l : Launch} {G : GT} {D mc ms : Nat} {Q : Post} : Imp l G M_X12_waysFrom (D + 2) mc ms Q (B_X12_waysFrom_6 l G D mc ms Q) 6 := sx_iload dX12_waysFrom_6 (sx_iconst dX12_waysFrom_8 rfl (sx_iadd dX12_waysFrom_9 (sx_iload_n dX12_waysFrom_10 rfl (sx_icmp_ge 36 dX12_waysFrom_11 (by decide) (sx_lload dX12_waysFrom_36 (sx_lret dX12_waysFrom_38 rfl)) (sx_lload dX12_waysFrom_14 (sx_aload_n dX12_waysFrom_16 rfl (sx_iload_n dX12_waysFrom_17 rfl (sx_iload dX12_waysFrom_18 (sx_vcall dX12_waysFrom_20 cf_X12_shoutsTo (mg_9 (List.mem_of_getElem? (i := 100) rfl) rfl) (mg_9 (List.mem_of_getElem? (i := 102) rfl) rfl) (mg_p (List.mem_of_getElem? (i := 118) rfl) rfl) rfl c_X12_shoutsTo (sx_scall dX12_waysFrom_23 cf_X12_waysBy (mg_9 (List.mem_of_getElem? (i := 106) rfl) rfl) (mg_9 (List.mem_of_getElem? (i := 107) rfl) rfl) c_X12_waysBy (sx_i2l dX12_waysFrom_26 (sx_lmul dX12_waysFrom_27 (sx_lstore dX12_waysFrom_28 (by decide) (sx_iinc dX12_waysFrom_30 rfl (by decide) (sx_goto 6 dX12_waysFrom_33 (by decide) ((fun _ _ _ _ _ _ _ _ h => h)))))))))))))))))
def B_X12_waysFrom_0 (l : Launch) (G : GT) (D mc ms : Nat) (Q : Post) : Cn := ix_pushL 1 (ix_lstore 4 (ix_iload 3 (ix_istore 6 (fqAt l G M_X12_waysFrom (D + 2) mc ms Q 6))))
theorem b_X12_waysFrom_0 {l : Launch} {G : GT} {D mc ms : Nat} {Q : Post} : Imp l G M_X12_waysFrom (D + 2) mc ms Q (B_X12_waysFrom_0 l G D mc ms Q) 0 := sx_lconst dX12_waysFrom_0 rfl (sx_lstore dX12_waysFrom_1 (by decide) (sx_iload_n dX12_waysFrom_3 rfl (sx_istore dX12_waysFrom_4 (by decide) ((fun _ _ _ _ _ _ _ _ h => h)))))
abbrev rsk (I : IH) (J : JH) (M t k : Nat) : Int32 := rsh (J (M + 5) (60 * t + k + 1) - J (M + 5) (60 * t + k)) (I (M + 1) 3)
def rwf (I : IH) (J : JH) (M t f n : Nat) (x : Int64) : Int64 := foldU (fun k a => a * (rwB (rsk I J M t k)).toInt64) f n x
def sp_X12_waysFrom (G : GT) : Sp := fun as S I J z Q => match as with
  | [.ref M, .int t, .int n, .int f] => rfS S M ∧ vp_in t 4 ∧ okN n 12 ∧ okN f 12 ∧ ¬ (I (M + 1) 3).toInt64 = 0 ∧ Q (some (.long (rwf I J M t.toNatClampNeg f.toNatClampNeg (n.toNatClampNeg - 1 - f.toNatClampNeg) 1))) S I J z
  | _ => False
set_option maxHeartbeats 4000000 in
set_option maxRecDepth 20000 in
theorem c_X12_waysFrom {l : Launch} {G : GT} {D : Nat} : ∀ as S I J z Q, sp_X12_waysFrom G as S I J z Q → fqCall l G M_X12_waysFrom (D + 2) 0 0 as S I J z Q := by
  intro as S I J z Q h
  unfold sp_X12_waysFrom at h
  split at h
  · next M t n f =>
    obtain ⟨hm, ht, hn, hf, h3, hQ⟩ := h
    obtain ⟨t, ht9, rfl⟩ := vp_in_of ht (by decide)
    obtain ⟨n, hn9, rfl, hn2⟩ := hn.ex
    obtain ⟨f, hf9, rfl, hf2⟩ := hf.ex
    rw [nI_clamp (by omega), hn2, hf2] at hQ
    have lp : ∀ (m k : Nat) (a : Int64), n - 1 - k = m → k ≤ 12 → Q (some (.long (rwf I J M t k m a))) S I J z → fqAt l G M_X12_waysFrom (D + 2) 0 0 Q 6 [some (.ref M), some (.int (nI t)), some (.int (nI n)), some (.int (nI f)), some (.long a), none, some (.int (nI k))] [] S I J z 0 0 := by
      intro m
      induction m with
      | zero =>
        intro k a hk hk9 hq
        refine b_X12_waysFrom_6 _ _ _ _ _ _ _ _ ?_
        simp (disch := omega) only [B_X12_waysFrom_0, B_X12_waysFrom_6, sp_X12_shoutsTo, sp_X12_waysBy, hm, hm.k, hm.k1, hm.n1, hm.r1, hm.k2, hm.n2, hm.r2, hm.k3, hm.n3, hm.r3, hm.k4, hm.n4, hm.r4, hm.k5, hm.n5, hm.r5, hm.k6, hm.n6, hm.r6, hm.k7, hm.n7, hm.r7, hm.k8, hm.n8, hm.r8, hm.k9, hm.n9, hm.r9, hm.k10, hm.n10, hm.r10, hm.k11, hm.n11, hm.r11, hm.k12, hm.n12, hm.r12, hm.k13, hm.n13, hm.r13, hm.k14, hm.n14, hm.r14, li_2, li_3, li_4, li_5, li_6, li_7, li_8, li_9, li_10, li_11, li_12, li_13, li_14, li_15, li_16, li_17, li_18, li_19, li_20, li_21, li_22, li_23, li_24, li_25, li_26, li_27, li_28, li_29, li_30, li_32, li_33, li_34, li_35, li_36, li_37, li_38, li_39, li_40, li_41, li_42, li_43, li_44, li_45, li_46, li_47, li_48, li_49, li_50, li_51, li_52, li_53, li_54, li_55, li_56, li_57, li_58, li_59, li_60, li_61, li_62, li_63, li_64, li_65, li_66, li_67, li_68, li_69, li_70, li_71, li_72, li_73, li_74, li_75, li_76, li_77, li_78, li_79, li_80, li_81, li_82, li_83, li_84, li_85, li_86, li_87, li_88, li_89, li_90, li_91, li_92, li_93, li_94, li_95, li_96, li_97, li_98, li_99, li_100, li_101, li_102, li_103, li_104, li_105, li_106, li_107, li_108, li_109, li_110, li_111, li_112, li_113, li_114, li_115, li_116, li_117, li_118, li_119, li_120, li_121, li_122, li_123, li_124, li_125, li_126, li_127, li_128, li_129, li_130, li_131, li_226, li_240, li_255, li_300, li_586, li_594, li_900, li_999, li_1000, li_1800, li_2376, li_2388, li_2406, li_2602, li_2970, li_3067, li_3564, li_9999, li_10000, li_11287, li_65536, li_100000, li_1000000, nI_mul, tn0, tn1, vin0, vin1, Int32.add_zero, Int32.or_zero, Int32.mul_one, Int32.mul_zero, Int32.zero_add, Nat.reduceEqDiff, Nat.reduceMul, Nat.reduceSub, nI_1, nI_add, nI_clamp, nI_pin, nI_neg, nI_nonneg, nI_leE, nI_ltE, nI_eqE, Nat.not_le, Nat.not_lt, fq_10, fq_01, fq_rr, ix_aald, ix_aast, ix_abs, ix_alen, ix_aload, ix_aret, ix_astore, ix_bald, ix_bast, ix_call, ix_cpyI, ix_cpyJ, ix_dead, ix_dup2, ix_dup2L, ix_dupI, ix_dupR, ix_dupx1, ix_getI, ix_getJ, ix_getR, ix_gfm, ix_gtab, ix_i2b, ix_i2c, ix_i2l, ix_i2s, ix_iadd, ix_iald, ix_iand, ix_iast, ix_icall, ix_icmp_eq, ix_icmp_ge, ix_icmp_gt, ix_icmp_le, ix_icmp_lt, ix_icmp_ne, ix_idiv, ix_if_eq, ix_if_ge, ix_if_gt, ix_if_le, ix_if_lt, ix_if_ne, ix_iinc, ix_iload, ix_imul, ix_ineg, ix_ior, ix_irem, ix_iret, ix_ishl, ix_ishr, ix_istore, ix_isub, ix_iushr, ix_ixor, ix_l2i, ix_ladd, ix_lald, ix_land, ix_last, ix_lcmp, ix_ldcS, ix_ldiv, ix_lload, ix_lmul, ix_lor, ix_lrem, ix_lret, ix_lshl, ix_lstore, ix_lsub, ix_lsw, ix_max, ix_min, ix_new, ix_newa, ix_nret, ix_oinit, ix_pop2L, ix_popI, ix_pushI, ix_pushL, ix_putI, ix_putJ, ix_putR, ix_putZ, ix_sbald, ix_sgetC, ix_sgetV, ix_slen, ix_strc, ix_tald, ix_tsw, ix_vcall, ix_vret, ix_zret, stL, stL2, kilL, popN, fq_sw, fq_lsw, List.map_cons, List.map_nil, List.getElem?_cons_zero, List.getElem?_cons_succ, Option.toList_some, Option.toList_none, List.cons_append, List.nil_append, List.length_cons, List.length_nil, List.sum_cons, List.sum_nil, cat_i, cat_l, cat_r, true_and, and_true, Nat.zero_add, Nat.add_zero, Nat.le_refl, Nat.zero_le, Nat.reduceAdd, Nat.reduceLeDiff, exists_eq_left', Option.some.injEq, not_true_eq_false, not_false_eq_true, false_implies, true_implies, implies_true, and_self, or_true, true_or, or_false, false_or]
        exact ⟨fun _ => hq, fun h => absurd h (by omega)⟩
      | succ m ih =>
        intro k a hk hk9 hq
        have h8 := rsh_in (J (M + 5) (60 * t + k + 1) - J (M + 5) (60 * t + k)) (I (M + 1) 3)
        have hz := ih (k + 1) (a * (rwB (rsk I J M t k)).toInt64) (by omega) (by omega) hq
        refine b_X12_waysFrom_6 _ _ _ _ _ _ _ _ ?_
        simp (disch := omega) only [B_X12_waysFrom_0, B_X12_waysFrom_6, sp_X12_shoutsTo, sp_X12_waysBy, hm, hm.k, hm.k1, hm.n1, hm.r1, hm.k2, hm.n2, hm.r2, hm.k3, hm.n3, hm.r3, hm.k4, hm.n4, hm.r4, hm.k5, hm.n5, hm.r5, hm.k6, hm.n6, hm.r6, hm.k7, hm.n7, hm.r7, hm.k8, hm.n8, hm.r8, hm.k9, hm.n9, hm.r9, hm.k10, hm.n10, hm.r10, hm.k11, hm.n11, hm.r11, hm.k12, hm.n12, hm.r12, hm.k13, hm.n13, hm.r13, hm.k14, hm.n14, hm.r14, li_2, li_3, li_4, li_5, li_6, li_7, li_8, li_9, li_10, li_11, li_12, li_13, li_14, li_15, li_16, li_17, li_18, li_19, li_20, li_21, li_22, li_23, li_24, li_25, li_26, li_27, li_28, li_29, li_30, li_32, li_33, li_34, li_35, li_36, li_37, li_38, li_39, li_40, li_41, li_42, li_43, li_44, li_45, li_46, li_47, li_48, li_49, li_50, li_51, li_52, li_53, li_54, li_55, li_56, li_57, li_58, li_59, li_60, li_61, li_62, li_63, li_64, li_65, li_66, li_67, li_68, li_69, li_70, li_71, li_72, li_73, li_74, li_75, li_76, li_77, li_78, li_79, li_80, li_81, li_82, li_83, li_84, li_85, li_86, li_87, li_88, li_89, li_90, li_91, li_92, li_93, li_94, li_95, li_96, li_97, li_98, li_99, li_100, li_101, li_102, li_103, li_104, li_105, li_106, li_107, li_108, li_109, li_110, li_111, li_112, li_113, li_114, li_115, li_116, li_117, li_118, li_119, li_120, li_121, li_122, li_123, li_124, li_125, li_126, li_127, li_128, li_129, li_130, li_131, li_226, li_240, li_255, li_300, li_586, li_594, li_900, li_999, li_1000, li_1800, li_2376, li_2388, li_2406, li_2602, li_2970, li_3067, li_3564, li_9999, li_10000, li_11287, li_65536, li_100000, li_1000000, nI_mul, tn0, tn1, vin0, vin1, Int32.add_zero, Int32.or_zero, Int32.mul_one, Int32.mul_zero, Int32.zero_add, Nat.reduceEqDiff, Nat.reduceMul, Nat.reduceSub, h3, nI_1, nI_add, nI_clamp, nI_pin, nI_neg, nI_nonneg, nI_leE, nI_ltE, nI_eqE, Nat.not_le, Nat.not_lt, fq_10, fq_01, fq_rr, ix_aald, ix_aast, ix_abs, ix_alen, ix_aload, ix_aret, ix_astore, ix_bald, ix_bast, ix_call, ix_cpyI, ix_cpyJ, ix_dead, ix_dup2, ix_dup2L, ix_dupI, ix_dupR, ix_dupx1, ix_getI, ix_getJ, ix_getR, ix_gfm, ix_gtab, ix_i2b, ix_i2c, ix_i2l, ix_i2s, ix_iadd, ix_iald, ix_iand, ix_iast, ix_icall, ix_icmp_eq, ix_icmp_ge, ix_icmp_gt, ix_icmp_le, ix_icmp_lt, ix_icmp_ne, ix_idiv, ix_if_eq, ix_if_ge, ix_if_gt, ix_if_le, ix_if_lt, ix_if_ne, ix_iinc, ix_iload, ix_imul, ix_ineg, ix_ior, ix_irem, ix_iret, ix_ishl, ix_ishr, ix_istore, ix_isub, ix_iushr, ix_ixor, ix_l2i, ix_ladd, ix_lald, ix_land, ix_last, ix_lcmp, ix_ldcS, ix_ldiv, ix_lload, ix_lmul, ix_lor, ix_lrem, ix_lret, ix_lshl, ix_lstore, ix_lsub, ix_lsw, ix_max, ix_min, ix_new, ix_newa, ix_nret, ix_oinit, ix_pop2L, ix_popI, ix_pushI, ix_pushL, ix_putI, ix_putJ, ix_putR, ix_putZ, ix_sbald, ix_sgetC, ix_sgetV, ix_slen, ix_strc, ix_tald, ix_tsw, ix_vcall, ix_vret, ix_zret, stL, stL2, kilL, popN, fq_sw, fq_lsw, List.map_cons, List.map_nil, List.getElem?_cons_zero, List.getElem?_cons_succ, Option.toList_some, Option.toList_none, List.cons_append, List.nil_append, List.length_cons, List.length_nil, List.sum_cons, List.sum_nil, cat_i, cat_l, cat_r, true_and, and_true, Nat.zero_add, Nat.add_zero, Nat.le_refl, Nat.zero_le, Nat.reduceAdd, Nat.reduceLeDiff, exists_eq_left', Option.some.injEq, not_true_eq_false, not_false_eq_true, false_implies, true_implies, implies_true, and_self, or_true, true_or, or_false, false_or]
        exact ⟨fun h => absurd h (by omega), fun _ => ⟨h8, hz⟩⟩
    refine fq_enter [some (.ref M), some (.int (nI t)), some (.int (nI n)), some (.int (nI f)), none, none, none] (by decide +kernel) (Nat.le_of_ble_eq_true rfl) rfl (b_X12_waysFrom_0 _ _ _ _ _ _ _ _ ?_)
    simp (disch := omega) only [B_X12_waysFrom_0, B_X12_waysFrom_6, sp_X12_shoutsTo, sp_X12_waysBy, hm, hm.k, hm.k1, hm.n1, hm.r1, hm.k2, hm.n2, hm.r2, hm.k3, hm.n3, hm.r3, hm.k4, hm.n4, hm.r4, hm.k5, hm.n5, hm.r5, hm.k6, hm.n6, hm.r6, hm.k7, hm.n7, hm.r7, hm.k8, hm.n8, hm.r8, hm.k9, hm.n9, hm.r9, hm.k10, hm.n10, hm.r10, hm.k11, hm.n11, hm.r11, hm.k12, hm.n12, hm.r12, hm.k13, hm.n13, hm.r13, hm.k14, hm.n14, hm.r14, nI_1, nI_add, nI_clamp, nI_pin, nI_neg, nI_nonneg, nI_leE, nI_ltE, nI_eqE, Nat.not_le, Nat.not_lt, fq_10, fq_01, fq_rr, ix_aald, ix_aast, ix_abs, ix_alen, ix_aload, ix_aret, ix_astore, ix_bald, ix_bast, ix_call, ix_cpyI, ix_cpyJ, ix_dead, ix_dup2, ix_dup2L, ix_dupI, ix_dupR, ix_dupx1, ix_getI, ix_getJ, ix_getR, ix_gfm, ix_gtab, ix_i2b, ix_i2c, ix_i2l, ix_i2s, ix_iadd, ix_iald, ix_iand, ix_iast, ix_icall, ix_icmp_eq, ix_icmp_ge, ix_icmp_gt, ix_icmp_le, ix_icmp_lt, ix_icmp_ne, ix_idiv, ix_if_eq, ix_if_ge, ix_if_gt, ix_if_le, ix_if_lt, ix_if_ne, ix_iinc, ix_iload, ix_imul, ix_ineg, ix_ior, ix_irem, ix_iret, ix_ishl, ix_ishr, ix_istore, ix_isub, ix_iushr, ix_ixor, ix_l2i, ix_ladd, ix_lald, ix_land, ix_last, ix_lcmp, ix_ldcS, ix_ldiv, ix_lload, ix_lmul, ix_lor, ix_lrem, ix_lret, ix_lshl, ix_lstore, ix_lsub, ix_lsw, ix_max, ix_min, ix_new, ix_newa, ix_nret, ix_oinit, ix_pop2L, ix_popI, ix_pushI, ix_pushL, ix_putI, ix_putJ, ix_putR, ix_putZ, ix_sbald, ix_sgetC, ix_sgetV, ix_slen, ix_strc, ix_tald, ix_tsw, ix_vcall, ix_vret, ix_zret, stL, stL2, kilL, popN, fq_sw, fq_lsw, List.map_cons, List.map_nil, List.getElem?_cons_zero, List.getElem?_cons_succ, Option.toList_some, Option.toList_none, List.cons_append, List.nil_append, List.length_cons, List.length_nil, List.sum_cons, List.sum_nil, cat_i, cat_l, cat_r, true_and, and_true, Nat.zero_add, Nat.add_zero, Nat.le_refl, Nat.zero_le, Nat.reduceAdd, Nat.reduceLeDiff, exists_eq_left', Option.some.injEq, not_true_eq_false, not_false_eq_true, false_implies, true_implies, implies_true, and_self, or_true, true_or, or_false, false_or]
    exact lp _ f _ rfl hf9 hQ
  · exact h.elim
theorem dX12_ways_0 : decode cX12_ways 0 = .ok (.aload_n 0, 1) := by decide +kernel
theorem dX12_ways_1 : decode cX12_ways 1 = .ok (.iload_n 1, 1) := by decide +kernel
theorem dX12_ways_2 : decode cX12_ways 2 = .ok (.iload_n 2, 1) := by decide +kernel
theorem dX12_ways_3 : decode cX12_ways 3 = .ok (.invokevirtual 415, 3) := by decide +kernel
theorem dX12_ways_6 : decode cX12_ways 6 = .ok (.istore_n 3, 1) := by decide +kernel
theorem dX12_ways_7 : decode cX12_ways 7 = .ok (.iload_n 3, 1) := by decide +kernel
theorem dX12_ways_8 : decode cX12_ways 8 = .ok (.ifCond .le 10, 3) := by decide +kernel
theorem dX12_ways_11 : decode cX12_ways 11 = .ok (.aload_n 0, 1) := by decide +kernel
theorem dX12_ways_12 : decode cX12_ways 12 = .ok (.iload_n 3, 1) := by decide +kernel
theorem dX12_ways_13 : decode cX12_ways 13 = .ok (.invokevirtual 75, 3) := by decide +kernel
theorem dX12_ways_16 : decode cX12_ways 16 = .ok (.i2l, 1) := by decide +kernel
theorem dX12_ways_17 : decode cX12_ways 17 = .ok (.lreturn, 1) := by decide +kernel
theorem dX12_ways_18 : decode cX12_ways 18 = .ok (.aload_n 0, 1) := by decide +kernel
theorem dX12_ways_19 : decode cX12_ways 19 = .ok (.iconst 0, 1) := by decide +kernel
theorem dX12_ways_20 : decode cX12_ways 20 = .ok (.invokevirtual 82, 3) := by decide +kernel
theorem dX12_ways_23 : decode cX12_ways 23 = .ok (.pop, 1) := by decide +kernel
theorem dX12_ways_24 : decode cX12_ways 24 = .ok (.aload_n 0, 1) := by decide +kernel
theorem dX12_ways_25 : decode cX12_ways 25 = .ok (.iload_n 1, 1) := by decide +kernel
theorem dX12_ways_26 : decode cX12_ways 26 = .ok (.iload_n 2, 1) := by decide +kernel
theorem dX12_ways_27 : decode cX12_ways 27 = .ok (.iconst 0, 1) := by decide +kernel
theorem dX12_ways_28 : decode cX12_ways 28 = .ok (.invokevirtual 418, 3) := by decide +kernel
theorem dX12_ways_31 : decode cX12_ways 31 = .ok (.lreturn, 1) := by decide +kernel
abbrev M_X12_ways : MT := (yX12_ways, cX12_ways, 4, (some .long))
theorem cf_X12_ways : fq_cf M_X12_ways 2 := ⟨(mg_1 (List.mem_of_getElem? (i := 15) rfl) rfl), (mg_9 (List.mem_of_getElem? (i := 90) rfl) rfl), ⟨by decide, by decide, by decide +kernel⟩, by decide⟩
def B_X12_ways_0 (G : GT) (mc ms : Nat) (Q : Post) : Cn := ix_aload 0 (ix_iload 1 (ix_iload 2 (ix_vcall 12 3 0 0 mc ms (sp_X12_wrongPlaces G) (ix_istore 3 (ix_iload 3 (ix_if_le (ix_aload 0 (ix_pushI 0 (ix_vcall 12 2 0 0 mc ms (sp_X12_is G) (ix_popI (ix_aload 0 (ix_iload 1 (ix_iload 2 (ix_pushI 0 (ix_vcall 12 4 0 0 mc ms (sp_X12_waysFrom G) (ix_lret mc ms Q)))))))))) (ix_aload 0 (ix_iload 3 (ix_vcall 12 2 0 0 mc ms (sp_X12_refuse G) (ix_i2l (ix_lret mc ms Q)))))))))))
theorem b_X12_ways_0 {l : Launch} {G : GT} {D mc ms : Nat} {Q : Post} : Imp l G M_X12_ways (D + 3) mc ms Q (B_X12_ways_0 G mc ms Q) 0 := sx_aload_n dX12_ways_0 rfl (sx_iload_n dX12_ways_1 rfl (sx_iload_n dX12_ways_2 rfl (sx_vcall dX12_ways_3 cf_X12_wrongPlaces (mg_9 (List.mem_of_getElem? (i := 91) rfl) rfl) (mg_9 (List.mem_of_getElem? (i := 93) rfl) rfl) (mg_p (List.mem_of_getElem? (i := 116) rfl) rfl) rfl c_X12_wrongPlaces (sx_istore_n dX12_ways_6 rfl (by decide) (sx_iload_n dX12_ways_7 rfl (sx_if_le 18 dX12_ways_8 (by decide) (sx_aload_n dX12_ways_18 rfl (sx_iconst dX12_ways_19 rfl (sx_vcall dX12_ways_20 cf_X12_is (mg_7 (List.mem_of_getElem? (i := 68) rfl) rfl) (mg_7 (List.mem_of_getElem? (i := 70) rfl) rfl) (mg_p (List.mem_of_getElem? (i := 48) rfl) rfl) rfl c_X12_is (sx_popI dX12_ways_23 (sx_aload_n dX12_ways_24 rfl (sx_iload_n dX12_ways_25 rfl (sx_iload_n dX12_ways_26 rfl (sx_iconst dX12_ways_27 rfl (sx_vcall dX12_ways_28 cf_X12_waysFrom (mg_9 (List.mem_of_getElem? (i := 96) rfl) rfl) (mg_9 (List.mem_of_getElem? (i := 98) rfl) rfl) (mg_p (List.mem_of_getElem? (i := 117) rfl) rfl) rfl c_X12_waysFrom (sx_lret dX12_ways_31 rfl)))))))))) (sx_aload_n dX12_ways_11 rfl (sx_iload_n dX12_ways_12 rfl (sx_vcall dX12_ways_13 cf_X12_refuse (mg_7 (List.mem_of_getElem? (i := 128) rfl) rfl) (mg_7 (List.mem_of_getElem? (i := 130) rfl) rfl) (mg_p (List.mem_of_getElem? (i := 54) rfl) rfl) rfl c_X12_refuse (sx_i2l dX12_ways_16 (sx_lret dX12_ways_17 rfl)))))))))))
def sp_X12_ways (G : GT) : Sp := fun as S I J z Q => match as with
  | [.ref a0, .int a1, .int a2] => B_X12_ways_0 G 0 0 Q [some (.ref a0), some (.int a1), some (.int a2), none] [] S I J z 0 0
  | _ => False
theorem c_X12_ways {l : Launch} {G : GT} {D : Nat} : ∀ as S I J z Q, sp_X12_ways G as S I J z Q → fqCall l G M_X12_ways (D + 3) 0 0 as S I J z Q := by
  intro as S I J z Q h
  unfold sp_X12_ways at h
  split at h
  · exact fq_enter _ (by decide +kernel) (Nat.le_of_ble_eq_true rfl) rfl (b_X12_ways_0 _ _ _ _ _ _ _ _ h)
  · exact h.elim
theorem dX12_fewest_0 : decode cX12_fewest 0 = .ok (.aload_n 0, 1) := by decide +kernel
theorem dX12_fewest_1 : decode cX12_fewest 1 = .ok (.iload_n 1, 1) := by decide +kernel
theorem dX12_fewest_2 : decode cX12_fewest 2 = .ok (.iload_n 2, 1) := by decide +kernel
theorem dX12_fewest_3 : decode cX12_fewest 3 = .ok (.invokevirtual 415, 3) := by decide +kernel
theorem dX12_fewest_6 : decode cX12_fewest 6 = .ok (.istore_n 3, 1) := by decide +kernel
theorem dX12_fewest_7 : decode cX12_fewest 7 = .ok (.iload_n 3, 1) := by decide +kernel
theorem dX12_fewest_8 : decode cX12_fewest 8 = .ok (.ifCond .le 9, 3) := by decide +kernel
theorem dX12_fewest_11 : decode cX12_fewest 11 = .ok (.aload_n 0, 1) := by decide +kernel
theorem dX12_fewest_12 : decode cX12_fewest 12 = .ok (.iload_n 3, 1) := by decide +kernel
theorem dX12_fewest_13 : decode cX12_fewest 13 = .ok (.invokevirtual 75, 3) := by decide +kernel
theorem dX12_fewest_16 : decode cX12_fewest 16 = .ok (.ireturn, 1) := by decide +kernel
theorem dX12_fewest_17 : decode cX12_fewest 17 = .ok (.aload_n 0, 1) := by decide +kernel
theorem dX12_fewest_18 : decode cX12_fewest 18 = .ok (.iload_n 1, 1) := by decide +kernel
theorem dX12_fewest_19 : decode cX12_fewest 19 = .ok (.iload_n 2, 1) := by decide +kernel
theorem dX12_fewest_20 : decode cX12_fewest 20 = .ok (.iconst 0, 1) := by decide +kernel
theorem dX12_fewest_21 : decode cX12_fewest 21 = .ok (.invokevirtual 418, 3) := by decide +kernel
theorem dX12_fewest_24 : decode cX12_fewest 24 = .ok (.lconst 0, 1) := by decide +kernel
theorem dX12_fewest_25 : decode cX12_fewest 25 = .ok (.lcmp, 1) := by decide +kernel
theorem dX12_fewest_26 : decode cX12_fewest 26 = .ok (.ifCond .ne 10, 3) := by decide +kernel
theorem dX12_fewest_29 : decode cX12_fewest 29 = .ok (.aload_n 0, 1) := by decide +kernel
theorem dX12_fewest_30 : decode cX12_fewest 30 = .ok (.bipush 6, 2) := by decide +kernel
theorem dX12_fewest_32 : decode cX12_fewest 32 = .ok (.invokevirtual 75, 3) := by decide +kernel
theorem dX12_fewest_35 : decode cX12_fewest 35 = .ok (.ireturn, 1) := by decide +kernel
theorem dX12_fewest_36 : decode cX12_fewest 36 = .ok (.iconst 0, 1) := by decide +kernel
theorem dX12_fewest_37 : decode cX12_fewest 37 = .ok (.istore 4, 2) := by decide +kernel
theorem dX12_fewest_39 : decode cX12_fewest 39 = .ok (.iconst 0, 1) := by decide +kernel
theorem dX12_fewest_40 : decode cX12_fewest 40 = .ok (.istore 5, 2) := by decide +kernel
theorem dX12_fewest_42 : decode cX12_fewest 42 = .ok (.iload 5, 2) := by decide +kernel
theorem dX12_fewest_44 : decode cX12_fewest 44 = .ok (.iconst 1, 1) := by decide +kernel
theorem dX12_fewest_45 : decode cX12_fewest 45 = .ok (.iadd, 1) := by decide +kernel
theorem dX12_fewest_46 : decode cX12_fewest 46 = .ok (.iload_n 2, 1) := by decide +kernel
theorem dX12_fewest_47 : decode cX12_fewest 47 = .ok (.if_icmp .ge 24, 3) := by decide +kernel
theorem dX12_fewest_50 : decode cX12_fewest 50 = .ok (.iload 4, 2) := by decide +kernel
theorem dX12_fewest_52 : decode cX12_fewest 52 = .ok (.aload_n 0, 1) := by decide +kernel
theorem dX12_fewest_53 : decode cX12_fewest 53 = .ok (.iload_n 1, 1) := by decide +kernel
theorem dX12_fewest_54 : decode cX12_fewest 54 = .ok (.iload 5, 2) := by decide +kernel
theorem dX12_fewest_56 : decode cX12_fewest 56 = .ok (.invokevirtual 409, 3) := by decide +kernel
theorem dX12_fewest_59 : decode cX12_fewest 59 = .ok (.invokestatic 194, 3) := by decide +kernel
theorem dX12_fewest_62 : decode cX12_fewest 62 = .ok (.iadd, 1) := by decide +kernel
theorem dX12_fewest_63 : decode cX12_fewest 63 = .ok (.istore 4, 2) := by decide +kernel
theorem dX12_fewest_65 : decode cX12_fewest 65 = .ok (.iinc 5 1, 3) := by decide +kernel
theorem dX12_fewest_68 : decode cX12_fewest 68 = .ok (.goto (-26), 3) := by decide +kernel
theorem dX12_fewest_71 : decode cX12_fewest 71 = .ok (.aload_n 0, 1) := by decide +kernel
theorem dX12_fewest_72 : decode cX12_fewest 72 = .ok (.iload 4, 2) := by decide +kernel
theorem dX12_fewest_74 : decode cX12_fewest 74 = .ok (.invokevirtual 79, 3) := by decide +kernel
theorem dX12_fewest_77 : decode cX12_fewest 77 = .ok (.ireturn, 1) := by decide +kernel
abbrev M_X12_fewest : MT := (yX12_fewest, cX12_fewest, 6, (some .int))
theorem cf_X12_fewest : fq_cf M_X12_fewest 2 := ⟨(mg_1 (List.mem_of_getElem? (i := 15) rfl) rfl), (mg_9 (List.mem_of_getElem? (i := 112) rfl) rfl), ⟨by decide, by decide, by decide +kernel⟩, by decide⟩
def B_X12_fewest_42 (l : Launch) (G : GT) (D mc ms : Nat) (Q : Post) : Cn := ix_iload 5 (ix_pushI 1 (ix_iadd (ix_iload 2 (ix_icmp_ge (ix_aload 0 (ix_iload 4 (ix_vcall 12 2 0 0 mc ms (sp_X12_gives G) (ix_iret mc ms Q)))) (ix_iload 4 (ix_aload 0 (ix_iload 1 (ix_iload 5 (ix_vcall 12 3 0 0 mc ms (sp_X12_shoutsTo G) (ix_abs mc ms (ix_iadd (ix_istore 4 (ix_iinc 5 1 (fqAt l G M_X12_fewest (D + 3) mc ms Q 42))))))))))))))
theorem b_X12_fewest_42 {l : Launch} {G : GT} {D mc ms : Nat} {Q : Post} : Imp l G M_X12_fewest (D + 3) mc ms Q (B_X12_fewest_42 l G D mc ms Q) 42 := sx_iload dX12_fewest_42 (sx_iconst dX12_fewest_44 rfl (sx_iadd dX12_fewest_45 (sx_iload_n dX12_fewest_46 rfl (sx_icmp_ge 71 dX12_fewest_47 (by decide) (sx_aload_n dX12_fewest_71 rfl (sx_iload dX12_fewest_72 (sx_vcall dX12_fewest_74 cf_X12_gives (mg_7 (List.mem_of_getElem? (i := 204) rfl) rfl) (mg_7 (List.mem_of_getElem? (i := 206) rfl) rfl) (mg_p (List.mem_of_getElem? (i := 72) rfl) rfl) rfl c_X12_gives (sx_iret dX12_fewest_77 rfl)))) (sx_iload dX12_fewest_50 (sx_aload_n dX12_fewest_52 rfl (sx_iload_n dX12_fewest_53 rfl (sx_iload dX12_fewest_54 (sx_vcall dX12_fewest_56 cf_X12_shoutsTo (mg_9 (List.mem_of_getElem? (i := 100) rfl) rfl) (mg_9 (List.mem_of_getElem? (i := 102) rfl) rfl) (mg_p (List.mem_of_getElem? (i := 118) rfl) rfl) rfl c_X12_shoutsTo (sx_abs dX12_fewest_59 (mg_7 (List.mem_of_getElem? (i := 191) rfl) rfl) (mg_4 (List.mem_of_getElem? (i := 61) rfl) rfl) (mg_1 (List.mem_of_getElem? (i := 18) rfl) rfl) (mg_4 (List.mem_of_getElem? (i := 62) rfl) rfl) (sx_iadd dX12_fewest_62 (sx_istore dX12_fewest_63 (by decide) (sx_iinc dX12_fewest_65 rfl (by decide) (sx_goto 42 dX12_fewest_68 (by decide) ((fun _ _ _ _ _ _ _ _ h => h))))))))))))))))
def B_X12_fewest_0 (l : Launch) (G : GT) (D mc ms : Nat) (Q : Post) : Cn := ix_aload 0 (ix_iload 1 (ix_iload 2 (ix_vcall 12 3 0 0 mc ms (sp_X12_wrongPlaces G) (ix_istore 3 (ix_iload 3 (ix_if_le (ix_aload 0 (ix_iload 1 (ix_iload 2 (ix_pushI 0 (ix_vcall 12 4 0 0 mc ms (sp_X12_waysFrom G) (ix_pushL 0 (ix_lcmp (ix_if_ne (ix_pushI 0 (ix_istore 4 (ix_pushI 0 (ix_istore 5 (fqAt l G M_X12_fewest (D + 3) mc ms Q 42))))) (ix_aload 0 (ix_pushI 6 (ix_vcall 12 2 0 0 mc ms (sp_X12_refuse G) (ix_iret mc ms Q)))))))))))) (ix_aload 0 (ix_iload 3 (ix_vcall 12 2 0 0 mc ms (sp_X12_refuse G) (ix_iret mc ms Q))))))))))
theorem b_X12_fewest_0 {l : Launch} {G : GT} {D mc ms : Nat} {Q : Post} : Imp l G M_X12_fewest (D + 3) mc ms Q (B_X12_fewest_0 l G D mc ms Q) 0 := sx_aload_n dX12_fewest_0 rfl (sx_iload_n dX12_fewest_1 rfl (sx_iload_n dX12_fewest_2 rfl (sx_vcall dX12_fewest_3 cf_X12_wrongPlaces (mg_9 (List.mem_of_getElem? (i := 91) rfl) rfl) (mg_9 (List.mem_of_getElem? (i := 93) rfl) rfl) (mg_p (List.mem_of_getElem? (i := 116) rfl) rfl) rfl c_X12_wrongPlaces (sx_istore_n dX12_fewest_6 rfl (by decide) (sx_iload_n dX12_fewest_7 rfl (sx_if_le 17 dX12_fewest_8 (by decide) (sx_aload_n dX12_fewest_17 rfl (sx_iload_n dX12_fewest_18 rfl (sx_iload_n dX12_fewest_19 rfl (sx_iconst dX12_fewest_20 rfl (sx_vcall dX12_fewest_21 cf_X12_waysFrom (mg_9 (List.mem_of_getElem? (i := 96) rfl) rfl) (mg_9 (List.mem_of_getElem? (i := 98) rfl) rfl) (mg_p (List.mem_of_getElem? (i := 117) rfl) rfl) rfl c_X12_waysFrom (sx_lconst dX12_fewest_24 rfl (sx_lcmp dX12_fewest_25 (sx_if_ne 36 dX12_fewest_26 (by decide) (sx_iconst dX12_fewest_36 rfl (sx_istore dX12_fewest_37 (by decide) (sx_iconst dX12_fewest_39 rfl (sx_istore dX12_fewest_40 (by decide) ((fun _ _ _ _ _ _ _ _ h => h)))))) (sx_aload_n dX12_fewest_29 rfl (sx_bipush dX12_fewest_30 rfl (sx_vcall dX12_fewest_32 cf_X12_refuse (mg_7 (List.mem_of_getElem? (i := 128) rfl) rfl) (mg_7 (List.mem_of_getElem? (i := 130) rfl) rfl) (mg_p (List.mem_of_getElem? (i := 54) rfl) rfl) rfl c_X12_refuse (sx_iret dX12_fewest_35 rfl)))))))))))) (sx_aload_n dX12_fewest_11 rfl (sx_iload_n dX12_fewest_12 rfl (sx_vcall dX12_fewest_13 cf_X12_refuse (mg_7 (List.mem_of_getElem? (i := 128) rfl) rfl) (mg_7 (List.mem_of_getElem? (i := 130) rfl) rfl) (mg_p (List.mem_of_getElem? (i := 54) rfl) rfl) rfl c_X12_refuse (sx_iret dX12_fewest_16 rfl))))))))))
theorem dX12_blame_0 : decode cX12_blame 0 = .ok (.aload_n 0, 1) := by decide +kernel
theorem dX12_blame_1 : decode cX12_blame 1 = .ok (.iload_n 1, 1) := by decide +kernel
theorem dX12_blame_2 : decode cX12_blame 2 = .ok (.iload_n 2, 1) := by decide +kernel
theorem dX12_blame_3 : decode cX12_blame 3 = .ok (.invokevirtual 415, 3) := by decide +kernel
theorem dX12_blame_6 : decode cX12_blame 6 = .ok (.istore_n 3, 1) := by decide +kernel
theorem dX12_blame_7 : decode cX12_blame 7 = .ok (.iload_n 3, 1) := by decide +kernel
theorem dX12_blame_8 : decode cX12_blame 8 = .ok (.ifCond .le 10, 3) := by decide +kernel
theorem dX12_blame_11 : decode cX12_blame 11 = .ok (.aload_n 0, 1) := by decide +kernel
theorem dX12_blame_12 : decode cX12_blame 12 = .ok (.iload_n 3, 1) := by decide +kernel
theorem dX12_blame_13 : decode cX12_blame 13 = .ok (.invokevirtual 75, 3) := by decide +kernel
theorem dX12_blame_16 : decode cX12_blame 16 = .ok (.i2l, 1) := by decide +kernel
theorem dX12_blame_17 : decode cX12_blame 17 = .ok (.lreturn, 1) := by decide +kernel
theorem dX12_blame_18 : decode cX12_blame 18 = .ok (.lconst 0, 1) := by decide +kernel
theorem dX12_blame_19 : decode cX12_blame 19 = .ok (.lstore 4, 2) := by decide +kernel
theorem dX12_blame_21 : decode cX12_blame 21 = .ok (.iconst 0, 1) := by decide +kernel
theorem dX12_blame_22 : decode cX12_blame 22 = .ok (.istore 6, 2) := by decide +kernel
theorem dX12_blame_24 : decode cX12_blame 24 = .ok (.iload 6, 2) := by decide +kernel
theorem dX12_blame_26 : decode cX12_blame 26 = .ok (.iconst 1, 1) := by decide +kernel
theorem dX12_blame_27 : decode cX12_blame 27 = .ok (.iadd, 1) := by decide +kernel
theorem dX12_blame_28 : decode cX12_blame 28 = .ok (.iload_n 2, 1) := by decide +kernel
theorem dX12_blame_29 : decode cX12_blame 29 = .ok (.if_icmp .ge 49, 3) := by decide +kernel
theorem dX12_blame_32 : decode cX12_blame 32 = .ok (.lload 4, 2) := by decide +kernel
theorem dX12_blame_34 : decode cX12_blame 34 = .ok (.aload_n 0, 1) := by decide +kernel
theorem dX12_blame_35 : decode cX12_blame 35 = .ok (.iload_n 1, 1) := by decide +kernel
theorem dX12_blame_36 : decode cX12_blame 36 = .ok (.iload 6, 2) := by decide +kernel
theorem dX12_blame_38 : decode cX12_blame 38 = .ok (.invokevirtual 409, 3) := by decide +kernel
theorem dX12_blame_41 : decode cX12_blame 41 = .ok (.invokestatic 422, 3) := by decide +kernel
theorem dX12_blame_44 : decode cX12_blame 44 = .ok (.i2l, 1) := by decide +kernel
theorem dX12_blame_45 : decode cX12_blame 45 = .ok (.aload_n 0, 1) := by decide +kernel
theorem dX12_blame_46 : decode cX12_blame 46 = .ok (.iload_n 1, 1) := by decide +kernel
theorem dX12_blame_47 : decode cX12_blame 47 = .ok (.iload_n 2, 1) := by decide +kernel
theorem dX12_blame_48 : decode cX12_blame 48 = .ok (.iload 6, 2) := by decide +kernel
theorem dX12_blame_50 : decode cX12_blame 50 = .ok (.iconst 1, 1) := by decide +kernel
theorem dX12_blame_51 : decode cX12_blame 51 = .ok (.iadd, 1) := by decide +kernel
theorem dX12_blame_52 : decode cX12_blame 52 = .ok (.invokevirtual 418, 3) := by decide +kernel
theorem dX12_blame_55 : decode cX12_blame 55 = .ok (.lmul, 1) := by decide +kernel
theorem dX12_blame_56 : decode cX12_blame 56 = .ok (.ladd, 1) := by decide +kernel
theorem dX12_blame_57 : decode cX12_blame 57 = .ok (.lstore 4, 2) := by decide +kernel
theorem dX12_blame_59 : decode cX12_blame 59 = .ok (.aload_n 0, 1) := by decide +kernel
theorem dX12_blame_60 : decode cX12_blame 60 = .ok (.iload_n 1, 1) := by decide +kernel
theorem dX12_blame_61 : decode cX12_blame 61 = .ok (.iload 6, 2) := by decide +kernel
theorem dX12_blame_63 : decode cX12_blame 63 = .ok (.invokevirtual 409, 3) := by decide +kernel
theorem dX12_blame_66 : decode cX12_blame 66 = .ok (.ifCond .eq 6, 3) := by decide +kernel
theorem dX12_blame_69 : decode cX12_blame 69 = .ok (.goto 9, 3) := by decide +kernel
theorem dX12_blame_72 : decode cX12_blame 72 = .ok (.iinc 6 1, 3) := by decide +kernel
theorem dX12_blame_75 : decode cX12_blame 75 = .ok (.goto (-51), 3) := by decide +kernel
theorem dX12_blame_78 : decode cX12_blame 78 = .ok (.aload_n 0, 1) := by decide +kernel
theorem dX12_blame_79 : decode cX12_blame 79 = .ok (.iconst 0, 1) := by decide +kernel
theorem dX12_blame_80 : decode cX12_blame 80 = .ok (.invokevirtual 82, 3) := by decide +kernel
theorem dX12_blame_83 : decode cX12_blame 83 = .ok (.pop, 1) := by decide +kernel
theorem dX12_blame_84 : decode cX12_blame 84 = .ok (.lload 4, 2) := by decide +kernel
theorem dX12_blame_86 : decode cX12_blame 86 = .ok (.lreturn, 1) := by decide +kernel
abbrev M_X12_blame : MT := (yX12_blame, cX12_blame, 7, (some .long))
theorem cf_X12_blame : fq_cf M_X12_blame 2 := ⟨(mg_1 (List.mem_of_getElem? (i := 15) rfl) rfl), (mg_9 (List.mem_of_getElem? (i := 116) rfl) rfl), ⟨by decide, by decide, by decide +kernel⟩, by decide⟩
def B_X12_blame_78 (l : Launch) (G : GT) (D mc ms : Nat) (Q : Post) : Cn := ix_aload 0 (ix_pushI 0 (ix_vcall 12 2 0 0 mc ms (sp_X12_is G) (ix_popI (ix_lload 4 (ix_lret mc ms Q)))))
theorem b_X12_blame_78 {l : Launch} {G : GT} {D mc ms : Nat} {Q : Post} : Imp l G M_X12_blame (D + 3) mc ms Q (B_X12_blame_78 l G D mc ms Q) 78 := sx_aload_n dX12_blame_78 rfl (sx_iconst dX12_blame_79 rfl (sx_vcall dX12_blame_80 cf_X12_is (mg_7 (List.mem_of_getElem? (i := 68) rfl) rfl) (mg_7 (List.mem_of_getElem? (i := 70) rfl) rfl) (mg_p (List.mem_of_getElem? (i := 48) rfl) rfl) rfl c_X12_is (sx_popI dX12_blame_83 (sx_lload dX12_blame_84 (sx_lret dX12_blame_86 rfl)))))
def B_X12_blame_24 (l : Launch) (G : GT) (D mc ms : Nat) (Q : Post) : Cn := ix_iload 6 (ix_pushI 1 (ix_iadd (ix_iload 2 (ix_icmp_ge ((B_X12_blame_78 l G D mc ms Q)) (ix_lload 4 (ix_aload 0 (ix_iload 1 (ix_iload 6 (ix_vcall 12 3 0 0 mc ms (sp_X12_shoutsTo G) (ix_call 1 0 0 mc ms (sp_X12_leftBy G) (ix_i2l (ix_aload 0 (ix_iload 1 (ix_iload 2 (ix_iload 6 (ix_pushI 1 (ix_iadd (ix_vcall 12 4 0 0 mc ms (sp_X12_waysFrom G) (ix_lmul (ix_ladd (ix_lstore 4 (ix_aload 0 (ix_iload 1 (ix_iload 6 (ix_vcall 12 3 0 0 mc ms (sp_X12_shoutsTo G) (ix_if_eq (ix_iinc 6 1 (fqAt l G M_X12_blame (D + 3) mc ms Q 24)) ((B_X12_blame_78 l G D mc ms Q))))))))))))))))))))))))))))
theorem b_X12_blame_24 {l : Launch} {G : GT} {D mc ms : Nat} {Q : Post} : Imp l G M_X12_blame (D + 3) mc ms Q (B_X12_blame_24 l G D mc ms Q) 24 := sx_iload dX12_blame_24 (sx_iconst dX12_blame_26 rfl (sx_iadd dX12_blame_27 (sx_iload_n dX12_blame_28 rfl (sx_icmp_ge 78 dX12_blame_29 (by decide) (b_X12_blame_78) (sx_lload dX12_blame_32 (sx_aload_n dX12_blame_34 rfl (sx_iload_n dX12_blame_35 rfl (sx_iload dX12_blame_36 (sx_vcall dX12_blame_38 cf_X12_shoutsTo (mg_9 (List.mem_of_getElem? (i := 100) rfl) rfl) (mg_9 (List.mem_of_getElem? (i := 102) rfl) rfl) (mg_p (List.mem_of_getElem? (i := 118) rfl) rfl) rfl c_X12_shoutsTo (sx_scall dX12_blame_41 cf_X12_leftBy (mg_9 (List.mem_of_getElem? (i := 117) rfl) rfl) (mg_9 (List.mem_of_getElem? (i := 118) rfl) rfl) c_X12_leftBy (sx_i2l dX12_blame_44 (sx_aload_n dX12_blame_45 rfl (sx_iload_n dX12_blame_46 rfl (sx_iload_n dX12_blame_47 rfl (sx_iload dX12_blame_48 (sx_iconst dX12_blame_50 rfl (sx_iadd dX12_blame_51 (sx_vcall dX12_blame_52 cf_X12_waysFrom (mg_9 (List.mem_of_getElem? (i := 96) rfl) rfl) (mg_9 (List.mem_of_getElem? (i := 98) rfl) rfl) (mg_p (List.mem_of_getElem? (i := 117) rfl) rfl) rfl c_X12_waysFrom (sx_lmul dX12_blame_55 (sx_ladd dX12_blame_56 (sx_lstore dX12_blame_57 (by decide) (sx_aload_n dX12_blame_59 rfl (sx_iload_n dX12_blame_60 rfl (sx_iload dX12_blame_61 (sx_vcall dX12_blame_63 cf_X12_shoutsTo (mg_9 (List.mem_of_getElem? (i := 100) rfl) rfl) (mg_9 (List.mem_of_getElem? (i := 102) rfl) rfl) (mg_p (List.mem_of_getElem? (i := 118) rfl) rfl) rfl c_X12_shoutsTo (sx_if_eq 72 dX12_blame_66 (by decide) (sx_iinc dX12_blame_72 rfl (by decide) (sx_goto 24 dX12_blame_75 (by decide) ((fun _ _ _ _ _ _ _ _ h => h)))) (sx_goto 78 dX12_blame_69 (by decide) (b_X12_blame_78))))))))))))))))))))))))))))
def B_X12_blame_0 (l : Launch) (G : GT) (D mc ms : Nat) (Q : Post) : Cn := ix_aload 0 (ix_iload 1 (ix_iload 2 (ix_vcall 12 3 0 0 mc ms (sp_X12_wrongPlaces G) (ix_istore 3 (ix_iload 3 (ix_if_le (ix_pushL 0 (ix_lstore 4 (ix_pushI 0 (ix_istore 6 (fqAt l G M_X12_blame (D + 3) mc ms Q 24))))) (ix_aload 0 (ix_iload 3 (ix_vcall 12 2 0 0 mc ms (sp_X12_refuse G) (ix_i2l (ix_lret mc ms Q)))))))))))
theorem b_X12_blame_0 {l : Launch} {G : GT} {D mc ms : Nat} {Q : Post} : Imp l G M_X12_blame (D + 3) mc ms Q (B_X12_blame_0 l G D mc ms Q) 0 := sx_aload_n dX12_blame_0 rfl (sx_iload_n dX12_blame_1 rfl (sx_iload_n dX12_blame_2 rfl (sx_vcall dX12_blame_3 cf_X12_wrongPlaces (mg_9 (List.mem_of_getElem? (i := 91) rfl) rfl) (mg_9 (List.mem_of_getElem? (i := 93) rfl) rfl) (mg_p (List.mem_of_getElem? (i := 116) rfl) rfl) rfl c_X12_wrongPlaces (sx_istore_n dX12_blame_6 rfl (by decide) (sx_iload_n dX12_blame_7 rfl (sx_if_le 18 dX12_blame_8 (by decide) (sx_lconst dX12_blame_18 rfl (sx_lstore dX12_blame_19 (by decide) (sx_iconst dX12_blame_21 rfl (sx_istore dX12_blame_22 (by decide) ((fun _ _ _ _ _ _ _ _ h => h)))))) (sx_aload_n dX12_blame_11 rfl (sx_iload_n dX12_blame_12 rfl (sx_vcall dX12_blame_13 cf_X12_refuse (mg_7 (List.mem_of_getElem? (i := 128) rfl) rfl) (mg_7 (List.mem_of_getElem? (i := 130) rfl) rfl) (mg_p (List.mem_of_getElem? (i := 54) rfl) rfl) rfl c_X12_refuse (sx_i2l dX12_blame_16 (sx_lret dX12_blame_17 rfl)))))))))))
theorem rpl_0 {I : IH} {J : JH} {M : Nat} {t n : Int32} (h : rpl I J M t n = 0) : ∃ k m, k < 4 ∧ 1 ≤ m ∧ m ≤ 12 ∧ t = nI k ∧ n = nI m := by
  unfold rpl at h
  by_cases h1 : (0 ≤ t ∧ t < 4) ∧ (1 ≤ n ∧ n ≤ 12)
  · obtain ⟨k, rfl, hk⟩ := (in_c (c := 4) (by decide)).mp h1.1
    obtain ⟨m, hm1, hm2, e2⟩ := in112 h1.2
    exact ⟨k, m, hk, hm1, hm2, rfl, e2⟩
  · rw [if_pos h1] at h
    exact absurd h (by decide)
theorem rpl_p (I : IH) (J : JH) (M : Nat) (t n : Int32) : rpl I J M t n = 0 ∨ 0 < rpl I J M t n := by
  unfold rpl
  split
  · exact Or.inr (by decide)
  · split
    · exact Or.inr (by decide)
    · split
      · exact Or.inr (by decide)
      · split
        · exact Or.inl rfl
        · exact Or.inr (by decide)
def rfw (I : IH) (J : JH) (M t n : Nat) (x : Int32) : Int32 := foldU (fun k a => a + (if 0 ≤ rsk I J M t k then rsk I J M t k else 0 - rsk I J M t k)) 0 n x
def sp_X12_fewest (G : GT) : Sp := fun as S I J z Q => match as with
  | [.ref M, .int t, .int n] => rfS S M ∧ ¬ (I (M + 1) 3).toInt64 = 0 ∧ (¬ rpl I J M t n = 0 → Q (some (.int (-1))) S (u2 I M 2 (rpl I J M t n)) J z) ∧ (rpl I J M t n = 0 → ∀ k m, t = nI k → n = nI m → k < 4 → m ≤ 12 → (rwf I J M k 0 (m - 1) 1 = 0 → Q (some (.int (-1))) S (u2 I M 2 6) J z) ∧ (¬ rwf I J M k 0 (m - 1) 1 = 0 → Q (some (.int (rfw I J M k (m - 1) 0))) S (u2 I M 2 0) J z))
  | _ => False
set_option maxHeartbeats 4000000 in
set_option maxRecDepth 20000 in
theorem c_X12_fewest {l : Launch} {G : GT} {D : Nat} : ∀ as S I J z Q, sp_X12_fewest G as S I J z Q → fqCall l G M_X12_fewest (D + 3) 0 0 as S I J z Q := by
  intro as S I J z Q h
  unfold sp_X12_fewest at h
  split at h
  · next M t n =>
    obtain ⟨hm, h3, hQ1, hQ2⟩ := h
    rcases rpl_p I J M t n with h0 | h0
    · obtain ⟨k, m, hk, hm1, hm2, rfl, rfl⟩ := rpl_0 h0
      obtain ⟨hq1, hq2⟩ := hQ2 h0 k m rfl rfl hk hm2
      have lp : ∀ (c i : Nat) (a : Int32), i + c = m - 1 → Q (some (.int (foldU (fun j a => a + (if 0 ≤ rsk I J M k j then rsk I J M k j else 0 - rsk I J M k j)) i c a))) S (u2 I M 2 0) J z → ∀ o3 : Int32, fqAt l G M_X12_fewest (D + 3) 0 0 Q 42 [some (.ref M), some (.int (nI k)), some (.int (nI m)), some (.int o3), some (.int a), some (.int (nI i))] [] S I J z 0 0 := by
        intro c
        induction c with
        | zero =>
          intro i a hi hq o3
          refine b_X12_fewest_42 _ _ _ _ _ _ _ _ ?_
          simp (disch := omega) only [B_X12_fewest_0, B_X12_fewest_42, sp_X12_wrongPlaces, sp_X12_refuse, B_X12_refuse_0, sp_X12_waysFrom, sp_X12_shoutsTo, sp_X12_gives, B_X12_gives_0, hm, hm.k, hm.k1, hm.n1, hm.r1, hm.k2, hm.n2, hm.r2, hm.k3, hm.n3, hm.r3, hm.k4, hm.n4, hm.r4, hm.k5, hm.n5, hm.r5, hm.k6, hm.n6, hm.r6, hm.k7, hm.n7, hm.r7, hm.k8, hm.n8, hm.r8, hm.k9, hm.n9, hm.r9, hm.k10, hm.n10, hm.r10, hm.k11, hm.n11, hm.r11, hm.k12, hm.n12, hm.r12, hm.k13, hm.n13, hm.r13, hm.k14, hm.n14, hm.r14, li_2, li_3, li_4, li_5, li_6, li_7, li_8, li_9, li_10, li_11, li_12, li_13, li_14, li_15, li_16, li_17, li_18, li_19, li_20, li_21, li_22, li_23, li_24, li_25, li_26, li_27, li_28, li_29, li_30, li_32, li_33, li_34, li_35, li_36, li_37, li_38, li_39, li_40, li_41, li_42, li_43, li_44, li_45, li_46, li_47, li_48, li_49, li_50, li_51, li_52, li_53, li_54, li_55, li_56, li_57, li_58, li_59, li_60, li_61, li_62, li_63, li_64, li_65, li_66, li_67, li_68, li_69, li_70, li_71, li_72, li_73, li_74, li_75, li_76, li_77, li_78, li_79, li_80, li_81, li_82, li_83, li_84, li_85, li_86, li_87, li_88, li_89, li_90, li_91, li_92, li_93, li_94, li_95, li_96, li_97, li_98, li_99, li_100, li_101, li_102, li_103, li_104, li_105, li_106, li_107, li_108, li_109, li_110, li_111, li_112, li_113, li_114, li_115, li_116, li_117, li_118, li_119, li_120, li_121, li_122, li_123, li_124, li_125, li_126, li_127, li_128, li_129, li_130, li_131, li_226, li_240, li_255, li_300, li_586, li_594, li_900, li_999, li_1000, li_1800, li_2376, li_2388, li_2406, li_2602, li_2970, li_3067, li_3564, li_9999, li_10000, li_11287, li_65536, li_100000, li_1000000, nI_mul, tn0, tn1, vin0, vin1, Int32.add_zero, Int32.or_zero, Int32.mul_one, Int32.mul_zero, Int32.zero_add, Nat.reduceEqDiff, Nat.reduceMul, Nat.reduceSub, nI_1, nI_add, nI_clamp, nI_pin, nI_neg, nI_nonneg, nI_leE, nI_ltE, nI_eqE, Nat.not_le, Nat.not_lt, fq_10, fq_01, fq_rr, ix_aald, ix_aast, ix_abs, ix_alen, ix_aload, ix_aret, ix_astore, ix_bald, ix_bast, ix_call, ix_cpyI, ix_cpyJ, ix_dead, ix_dup2, ix_dup2L, ix_dupI, ix_dupR, ix_dupx1, ix_getI, ix_getJ, ix_getR, ix_gfm, ix_gtab, ix_i2b, ix_i2c, ix_i2l, ix_i2s, ix_iadd, ix_iald, ix_iand, ix_iast, ix_icall, ix_icmp_eq, ix_icmp_ge, ix_icmp_gt, ix_icmp_le, ix_icmp_lt, ix_icmp_ne, ix_idiv, ix_if_eq, ix_if_ge, ix_if_gt, ix_if_le, ix_if_lt, ix_if_ne, ix_iinc, ix_iload, ix_imul, ix_ineg, ix_ior, ix_irem, ix_iret, ix_ishl, ix_ishr, ix_istore, ix_isub, ix_iushr, ix_ixor, ix_l2i, ix_ladd, ix_lald, ix_land, ix_last, ix_lcmp, ix_ldcS, ix_ldiv, ix_lload, ix_lmul, ix_lor, ix_lrem, ix_lret, ix_lshl, ix_lstore, ix_lsub, ix_lsw, ix_max, ix_min, ix_new, ix_newa, ix_nret, ix_oinit, ix_pop2L, ix_popI, ix_pushI, ix_pushL, ix_putI, ix_putJ, ix_putR, ix_putZ, ix_sbald, ix_sgetC, ix_sgetV, ix_slen, ix_strc, ix_tald, ix_tsw, ix_vcall, ix_vret, ix_zret, stL, stL2, kilL, popN, fq_sw, fq_lsw, List.map_cons, List.map_nil, List.getElem?_cons_zero, List.getElem?_cons_succ, Option.toList_some, Option.toList_none, List.cons_append, List.nil_append, List.length_cons, List.length_nil, List.sum_cons, List.sum_nil, cat_i, cat_l, cat_r, true_and, and_true, Nat.zero_add, Nat.add_zero, Nat.le_refl, Nat.zero_le, Nat.reduceAdd, Nat.reduceLeDiff, exists_eq_left', Option.some.injEq, not_true_eq_false, not_false_eq_true, false_implies, true_implies, implies_true, and_self, or_true, true_or, or_false, false_or]
          exact ⟨fun _ => hq, fun h => absurd h (by omega)⟩
        | succ c ih =>
          intro i a hi hq o3
          have hz := ih (i + 1) _ (by omega) hq o3
          refine b_X12_fewest_42 _ _ _ _ _ _ _ _ ?_
          simp (disch := omega) only [B_X12_fewest_0, B_X12_fewest_42, sp_X12_wrongPlaces, sp_X12_refuse, B_X12_refuse_0, sp_X12_waysFrom, sp_X12_shoutsTo, sp_X12_gives, B_X12_gives_0, hm, hm.k, hm.k1, hm.n1, hm.r1, hm.k2, hm.n2, hm.r2, hm.k3, hm.n3, hm.r3, hm.k4, hm.n4, hm.r4, hm.k5, hm.n5, hm.r5, hm.k6, hm.n6, hm.r6, hm.k7, hm.n7, hm.r7, hm.k8, hm.n8, hm.r8, hm.k9, hm.n9, hm.r9, hm.k10, hm.n10, hm.r10, hm.k11, hm.n11, hm.r11, hm.k12, hm.n12, hm.r12, hm.k13, hm.n13, hm.r13, hm.k14, hm.n14, hm.r14, li_2, li_3, li_4, li_5, li_6, li_7, li_8, li_9, li_10, li_11, li_12, li_13, li_14, li_15, li_16, li_17, li_18, li_19, li_20, li_21, li_22, li_23, li_24, li_25, li_26, li_27, li_28, li_29, li_30, li_32, li_33, li_34, li_35, li_36, li_37, li_38, li_39, li_40, li_41, li_42, li_43, li_44, li_45, li_46, li_47, li_48, li_49, li_50, li_51, li_52, li_53, li_54, li_55, li_56, li_57, li_58, li_59, li_60, li_61, li_62, li_63, li_64, li_65, li_66, li_67, li_68, li_69, li_70, li_71, li_72, li_73, li_74, li_75, li_76, li_77, li_78, li_79, li_80, li_81, li_82, li_83, li_84, li_85, li_86, li_87, li_88, li_89, li_90, li_91, li_92, li_93, li_94, li_95, li_96, li_97, li_98, li_99, li_100, li_101, li_102, li_103, li_104, li_105, li_106, li_107, li_108, li_109, li_110, li_111, li_112, li_113, li_114, li_115, li_116, li_117, li_118, li_119, li_120, li_121, li_122, li_123, li_124, li_125, li_126, li_127, li_128, li_129, li_130, li_131, li_226, li_240, li_255, li_300, li_586, li_594, li_900, li_999, li_1000, li_1800, li_2376, li_2388, li_2406, li_2602, li_2970, li_3067, li_3564, li_9999, li_10000, li_11287, li_65536, li_100000, li_1000000, nI_mul, tn0, tn1, vin0, vin1, Int32.add_zero, Int32.or_zero, Int32.mul_one, Int32.mul_zero, Int32.zero_add, Nat.reduceEqDiff, Nat.reduceMul, Nat.reduceSub, h3, nI_1, nI_add, nI_clamp, nI_pin, nI_neg, nI_nonneg, nI_leE, nI_ltE, nI_eqE, Nat.not_le, Nat.not_lt, fq_10, fq_01, fq_rr, ix_aald, ix_aast, ix_abs, ix_alen, ix_aload, ix_aret, ix_astore, ix_bald, ix_bast, ix_call, ix_cpyI, ix_cpyJ, ix_dead, ix_dup2, ix_dup2L, ix_dupI, ix_dupR, ix_dupx1, ix_getI, ix_getJ, ix_getR, ix_gfm, ix_gtab, ix_i2b, ix_i2c, ix_i2l, ix_i2s, ix_iadd, ix_iald, ix_iand, ix_iast, ix_icall, ix_icmp_eq, ix_icmp_ge, ix_icmp_gt, ix_icmp_le, ix_icmp_lt, ix_icmp_ne, ix_idiv, ix_if_eq, ix_if_ge, ix_if_gt, ix_if_le, ix_if_lt, ix_if_ne, ix_iinc, ix_iload, ix_imul, ix_ineg, ix_ior, ix_irem, ix_iret, ix_ishl, ix_ishr, ix_istore, ix_isub, ix_iushr, ix_ixor, ix_l2i, ix_ladd, ix_lald, ix_land, ix_last, ix_lcmp, ix_ldcS, ix_ldiv, ix_lload, ix_lmul, ix_lor, ix_lrem, ix_lret, ix_lshl, ix_lstore, ix_lsub, ix_lsw, ix_max, ix_min, ix_new, ix_newa, ix_nret, ix_oinit, ix_pop2L, ix_popI, ix_pushI, ix_pushL, ix_putI, ix_putJ, ix_putR, ix_putZ, ix_sbald, ix_sgetC, ix_sgetV, ix_slen, ix_strc, ix_tald, ix_tsw, ix_vcall, ix_vret, ix_zret, stL, stL2, kilL, popN, fq_sw, fq_lsw, List.map_cons, List.map_nil, List.getElem?_cons_zero, List.getElem?_cons_succ, Option.toList_some, Option.toList_none, List.cons_append, List.nil_append, List.length_cons, List.length_nil, List.sum_cons, List.sum_nil, cat_i, cat_l, cat_r, true_and, and_true, Nat.zero_add, Nat.add_zero, Nat.le_refl, Nat.zero_le, Nat.reduceAdd, Nat.reduceLeDiff, exists_eq_left', Option.some.injEq, not_true_eq_false, not_false_eq_true, false_implies, true_implies, implies_true, and_self, or_true, true_or, or_false, false_or]
          exact ⟨fun h => absurd h (by omega), fun _ => hz⟩
      have o1 : okN (nI m) 12 := okN.nI hm2 (by decide)
      have o2 : okN 0 12 := okN.nI (c := 0) (by decide) (by decide)
      refine fq_enter [some (.ref M), some (.int (nI k)), some (.int (nI m)), none, none, none] (by decide +kernel) (Nat.le_of_ble_eq_true rfl) rfl (b_X12_fewest_0 _ _ _ _ _ _ _ _ ?_)
      simp (disch := omega) only [B_X12_fewest_0, B_X12_fewest_42, sp_X12_wrongPlaces, sp_X12_refuse, B_X12_refuse_0, sp_X12_waysFrom, sp_X12_shoutsTo, sp_X12_gives, B_X12_gives_0, hm, hm.k, hm.k1, hm.n1, hm.r1, hm.k2, hm.n2, hm.r2, hm.k3, hm.n3, hm.r3, hm.k4, hm.n4, hm.r4, hm.k5, hm.n5, hm.r5, hm.k6, hm.n6, hm.r6, hm.k7, hm.n7, hm.r7, hm.k8, hm.n8, hm.r8, hm.k9, hm.n9, hm.r9, hm.k10, hm.n10, hm.r10, hm.k11, hm.n11, hm.r11, hm.k12, hm.n12, hm.r12, hm.k13, hm.n13, hm.r13, hm.k14, hm.n14, hm.r14, li_2, li_3, li_4, li_5, li_6, li_7, li_8, li_9, li_10, li_11, li_12, li_13, li_14, li_15, li_16, li_17, li_18, li_19, li_20, li_21, li_22, li_23, li_24, li_25, li_26, li_27, li_28, li_29, li_30, li_32, li_33, li_34, li_35, li_36, li_37, li_38, li_39, li_40, li_41, li_42, li_43, li_44, li_45, li_46, li_47, li_48, li_49, li_50, li_51, li_52, li_53, li_54, li_55, li_56, li_57, li_58, li_59, li_60, li_61, li_62, li_63, li_64, li_65, li_66, li_67, li_68, li_69, li_70, li_71, li_72, li_73, li_74, li_75, li_76, li_77, li_78, li_79, li_80, li_81, li_82, li_83, li_84, li_85, li_86, li_87, li_88, li_89, li_90, li_91, li_92, li_93, li_94, li_95, li_96, li_97, li_98, li_99, li_100, li_101, li_102, li_103, li_104, li_105, li_106, li_107, li_108, li_109, li_110, li_111, li_112, li_113, li_114, li_115, li_116, li_117, li_118, li_119, li_120, li_121, li_122, li_123, li_124, li_125, li_126, li_127, li_128, li_129, li_130, li_131, li_226, li_240, li_255, li_300, li_586, li_594, li_900, li_999, li_1000, li_1800, li_2376, li_2388, li_2406, li_2602, li_2970, li_3067, li_3564, li_9999, li_10000, li_11287, li_65536, li_100000, li_1000000, nI_mul, tn0, tn1, vin0, vin1, Int32.add_zero, Int32.or_zero, Int32.mul_one, Int32.mul_zero, Int32.zero_add, Nat.reduceEqDiff, Nat.reduceMul, Nat.reduceSub, h0, h3, o1, o2, lg_cmp_eq, nI_1, nI_add, nI_clamp, nI_pin, nI_neg, nI_nonneg, nI_leE, nI_ltE, nI_eqE, Nat.not_le, Nat.not_lt, fq_10, fq_01, fq_rr, ix_aald, ix_aast, ix_abs, ix_alen, ix_aload, ix_aret, ix_astore, ix_bald, ix_bast, ix_call, ix_cpyI, ix_cpyJ, ix_dead, ix_dup2, ix_dup2L, ix_dupI, ix_dupR, ix_dupx1, ix_getI, ix_getJ, ix_getR, ix_gfm, ix_gtab, ix_i2b, ix_i2c, ix_i2l, ix_i2s, ix_iadd, ix_iald, ix_iand, ix_iast, ix_icall, ix_icmp_eq, ix_icmp_ge, ix_icmp_gt, ix_icmp_le, ix_icmp_lt, ix_icmp_ne, ix_idiv, ix_if_eq, ix_if_ge, ix_if_gt, ix_if_le, ix_if_lt, ix_if_ne, ix_iinc, ix_iload, ix_imul, ix_ineg, ix_ior, ix_irem, ix_iret, ix_ishl, ix_ishr, ix_istore, ix_isub, ix_iushr, ix_ixor, ix_l2i, ix_ladd, ix_lald, ix_land, ix_last, ix_lcmp, ix_ldcS, ix_ldiv, ix_lload, ix_lmul, ix_lor, ix_lrem, ix_lret, ix_lshl, ix_lstore, ix_lsub, ix_lsw, ix_max, ix_min, ix_new, ix_newa, ix_nret, ix_oinit, ix_pop2L, ix_popI, ix_pushI, ix_pushL, ix_putI, ix_putJ, ix_putR, ix_putZ, ix_sbald, ix_sgetC, ix_sgetV, ix_slen, ix_strc, ix_tald, ix_tsw, ix_vcall, ix_vret, ix_zret, stL, stL2, kilL, popN, fq_sw, fq_lsw, List.map_cons, List.map_nil, List.getElem?_cons_zero, List.getElem?_cons_succ, Option.toList_some, Option.toList_none, List.cons_append, List.nil_append, List.length_cons, List.length_nil, List.sum_cons, List.sum_nil, cat_i, cat_l, cat_r, true_and, and_true, Nat.zero_add, Nat.add_zero, Nat.le_refl, Nat.zero_le, Nat.reduceAdd, Nat.reduceLeDiff, exists_eq_left', Option.some.injEq, not_true_eq_false, not_false_eq_true, false_implies, true_implies, implies_true, and_self, or_true, true_or, or_false, false_or]
      exact ⟨fun _ => ⟨fun h => lp (m - 1) 0 0 (by omega) (hq2 h) 0, fun h => hq1 h⟩, fun h => absurd (by decide) h⟩
    · refine fq_enter [some (.ref M), some (.int t), some (.int n), none, none, none] (by decide +kernel) (Nat.le_of_ble_eq_true rfl) rfl (b_X12_fewest_0 _ _ _ _ _ _ _ _ ?_)
      simp (disch := omega) only [B_X12_fewest_0, B_X12_fewest_42, sp_X12_wrongPlaces, sp_X12_refuse, B_X12_refuse_0, sp_X12_waysFrom, sp_X12_shoutsTo, sp_X12_gives, B_X12_gives_0, hm, hm.k, hm.k1, hm.n1, hm.r1, hm.k2, hm.n2, hm.r2, hm.k3, hm.n3, hm.r3, hm.k4, hm.n4, hm.r4, hm.k5, hm.n5, hm.r5, hm.k6, hm.n6, hm.r6, hm.k7, hm.n7, hm.r7, hm.k8, hm.n8, hm.r8, hm.k9, hm.n9, hm.r9, hm.k10, hm.n10, hm.r10, hm.k11, hm.n11, hm.r11, hm.k12, hm.n12, hm.r12, hm.k13, hm.n13, hm.r13, hm.k14, hm.n14, hm.r14, li_2, li_3, li_4, li_5, li_6, li_7, li_8, li_9, li_10, li_11, li_12, li_13, li_14, li_15, li_16, li_17, li_18, li_19, li_20, li_21, li_22, li_23, li_24, li_25, li_26, li_27, li_28, li_29, li_30, li_32, li_33, li_34, li_35, li_36, li_37, li_38, li_39, li_40, li_41, li_42, li_43, li_44, li_45, li_46, li_47, li_48, li_49, li_50, li_51, li_52, li_53, li_54, li_55, li_56, li_57, li_58, li_59, li_60, li_61, li_62, li_63, li_64, li_65, li_66, li_67, li_68, li_69, li_70, li_71, li_72, li_73, li_74, li_75, li_76, li_77, li_78, li_79, li_80, li_81, li_82, li_83, li_84, li_85, li_86, li_87, li_88, li_89, li_90, li_91, li_92, li_93, li_94, li_95, li_96, li_97, li_98, li_99, li_100, li_101, li_102, li_103, li_104, li_105, li_106, li_107, li_108, li_109, li_110, li_111, li_112, li_113, li_114, li_115, li_116, li_117, li_118, li_119, li_120, li_121, li_122, li_123, li_124, li_125, li_126, li_127, li_128, li_129, li_130, li_131, li_226, li_240, li_255, li_300, li_586, li_594, li_900, li_999, li_1000, li_1800, li_2376, li_2388, li_2406, li_2602, li_2970, li_3067, li_3564, li_9999, li_10000, li_11287, li_65536, li_100000, li_1000000, nI_mul, tn0, tn1, vin0, vin1, Int32.add_zero, Int32.or_zero, Int32.mul_one, Int32.mul_zero, Int32.zero_add, Nat.reduceEqDiff, Nat.reduceMul, Nat.reduceSub, nI_1, nI_add, nI_clamp, nI_pin, nI_neg, nI_nonneg, nI_leE, nI_ltE, nI_eqE, Nat.not_le, Nat.not_lt, fq_10, fq_01, fq_rr, ix_aald, ix_aast, ix_abs, ix_alen, ix_aload, ix_aret, ix_astore, ix_bald, ix_bast, ix_call, ix_cpyI, ix_cpyJ, ix_dead, ix_dup2, ix_dup2L, ix_dupI, ix_dupR, ix_dupx1, ix_getI, ix_getJ, ix_getR, ix_gfm, ix_gtab, ix_i2b, ix_i2c, ix_i2l, ix_i2s, ix_iadd, ix_iald, ix_iand, ix_iast, ix_icall, ix_icmp_eq, ix_icmp_ge, ix_icmp_gt, ix_icmp_le, ix_icmp_lt, ix_icmp_ne, ix_idiv, ix_if_eq, ix_if_ge, ix_if_gt, ix_if_le, ix_if_lt, ix_if_ne, ix_iinc, ix_iload, ix_imul, ix_ineg, ix_ior, ix_irem, ix_iret, ix_ishl, ix_ishr, ix_istore, ix_isub, ix_iushr, ix_ixor, ix_l2i, ix_ladd, ix_lald, ix_land, ix_last, ix_lcmp, ix_ldcS, ix_ldiv, ix_lload, ix_lmul, ix_lor, ix_lrem, ix_lret, ix_lshl, ix_lstore, ix_lsub, ix_lsw, ix_max, ix_min, ix_new, ix_newa, ix_nret, ix_oinit, ix_pop2L, ix_popI, ix_pushI, ix_pushL, ix_putI, ix_putJ, ix_putR, ix_putZ, ix_sbald, ix_sgetC, ix_sgetV, ix_slen, ix_strc, ix_tald, ix_tsw, ix_vcall, ix_vret, ix_zret, stL, stL2, kilL, popN, fq_sw, fq_lsw, List.map_cons, List.map_nil, List.getElem?_cons_zero, List.getElem?_cons_succ, Option.toList_some, Option.toList_none, List.cons_append, List.nil_append, List.length_cons, List.length_nil, List.sum_cons, List.sum_nil, cat_i, cat_l, cat_r, true_and, and_true, Nat.zero_add, Nat.add_zero, Nat.le_refl, Nat.zero_le, Nat.reduceAdd, Nat.reduceLeDiff, exists_eq_left', Option.some.injEq, not_true_eq_false, not_false_eq_true, false_implies, true_implies, implies_true, and_self, or_true, true_or, or_false, false_or]
      exact ⟨fun h => absurd h0 (Int32.not_lt.mpr h), fun _ => hQ1 (fun e => by rw [e] at h0; exact absurd h0 (by decide))⟩
  · exact h.elim
/-- the blame, as the reference adds it up -/
def rbl (I : IH) (J : JH) (M t n : Nat) : Nat → Nat → Int64 → Int64
  | _, 0, x => x
  | k, c + 1, x => if ¬ rsk I J M t k = 0 then x + (rlB (rsk I J M t k)).toInt64 * rwf I J M t (k + 1) (n - 1 - (k + 1)) 1 else rbl I J M t n (k + 1) c (x + (rlB (rsk I J M t k)).toInt64 * rwf I J M t (k + 1) (n - 1 - (k + 1)) 1)
theorem rbl_1 (I : IH) (J : JH) (M t n k c : Nat) (x : Int64) : rbl I J M t n k (c + 1) x = if ¬ rsk I J M t k = 0 then x + (rlB (rsk I J M t k)).toInt64 * rwf I J M t (k + 1) (n - 1 - (k + 1)) 1 else rbl I J M t n (k + 1) c (x + (rlB (rsk I J M t k)).toInt64 * rwf I J M t (k + 1) (n - 1 - (k + 1)) 1) := rfl
def sp_X12_blame (G : GT) : Sp := fun as S I J z Q => match as with
  | [.ref M, .int t, .int n] => rfS S M ∧ ¬ (I (M + 1) 3).toInt64 = 0 ∧ (¬ rpl I J M t n = 0 → Q (some (.long (-1))) S (u2 I M 2 (rpl I J M t n)) J z) ∧ (rpl I J M t n = 0 → ∀ k m, t = nI k → n = nI m → k < 4 → m ≤ 12 → Q (some (.long (rbl I J M k m 0 (m - 1) 0))) S (u2 I M 2 0) J z)
  | _ => False
set_option maxHeartbeats 4000000 in
set_option maxRecDepth 20000 in
theorem c_X12_blame {l : Launch} {G : GT} {D : Nat} : ∀ as S I J z Q, sp_X12_blame G as S I J z Q → fqCall l G M_X12_blame (D + 3) 0 0 as S I J z Q := by
  intro as S I J z Q h
  unfold sp_X12_blame at h
  split at h
  · next M t n =>
    obtain ⟨hm, h3, hQ1, hQ2⟩ := h
    rcases rpl_p I J M t n with h0 | h0
    · obtain ⟨k, m, hk, hm1, hm2, rfl, rfl⟩ := rpl_0 h0
      have hq := hQ2 h0 k m rfl rfl hk hm2
      have o1 : okN (nI m) 12 := okN.nI hm2 (by decide)
      have lp : ∀ (c i : Nat) (a : Int64), i + c = m - 1 → Q (some (.long (rbl I J M k m i c a))) S (u2 I M 2 0) J z → ∀ w : Int32, fqAt l G M_X12_blame (D + 3) 0 0 Q 24 [some (.ref M), some (.int (nI k)), some (.int (nI m)), some (.int w), some (.long a), none, some (.int (nI i))] [] S I J z 0 0 := by
        intro c
        induction c with
        | zero =>
          intro i a hi hq w
          refine b_X12_blame_24 _ _ _ _ _ _ _ _ ?_
          simp (disch := omega) only [B_X12_blame_0, B_X12_blame_24, B_X12_blame_78, sp_X12_wrongPlaces, sp_X12_refuse, B_X12_refuse_0, sp_X12_shoutsTo, sp_X12_leftBy, sp_X12_waysFrom, sp_X12_is, B_X12_is_0, B_X12_is_14, hm, hm.k, hm.k1, hm.n1, hm.r1, hm.k2, hm.n2, hm.r2, hm.k3, hm.n3, hm.r3, hm.k4, hm.n4, hm.r4, hm.k5, hm.n5, hm.r5, hm.k6, hm.n6, hm.r6, hm.k7, hm.n7, hm.r7, hm.k8, hm.n8, hm.r8, hm.k9, hm.n9, hm.r9, hm.k10, hm.n10, hm.r10, hm.k11, hm.n11, hm.r11, hm.k12, hm.n12, hm.r12, hm.k13, hm.n13, hm.r13, hm.k14, hm.n14, hm.r14, li_2, li_3, li_4, li_5, li_6, li_7, li_8, li_9, li_10, li_11, li_12, li_13, li_14, li_15, li_16, li_17, li_18, li_19, li_20, li_21, li_22, li_23, li_24, li_25, li_26, li_27, li_28, li_29, li_30, li_32, li_33, li_34, li_35, li_36, li_37, li_38, li_39, li_40, li_41, li_42, li_43, li_44, li_45, li_46, li_47, li_48, li_49, li_50, li_51, li_52, li_53, li_54, li_55, li_56, li_57, li_58, li_59, li_60, li_61, li_62, li_63, li_64, li_65, li_66, li_67, li_68, li_69, li_70, li_71, li_72, li_73, li_74, li_75, li_76, li_77, li_78, li_79, li_80, li_81, li_82, li_83, li_84, li_85, li_86, li_87, li_88, li_89, li_90, li_91, li_92, li_93, li_94, li_95, li_96, li_97, li_98, li_99, li_100, li_101, li_102, li_103, li_104, li_105, li_106, li_107, li_108, li_109, li_110, li_111, li_112, li_113, li_114, li_115, li_116, li_117, li_118, li_119, li_120, li_121, li_122, li_123, li_124, li_125, li_126, li_127, li_128, li_129, li_130, li_131, li_226, li_240, li_255, li_300, li_586, li_594, li_900, li_999, li_1000, li_1800, li_2376, li_2388, li_2406, li_2602, li_2970, li_3067, li_3564, li_9999, li_10000, li_11287, li_65536, li_100000, li_1000000, nI_mul, tn0, tn1, vin0, vin1, Int32.add_zero, Int32.or_zero, Int32.mul_one, Int32.mul_zero, Int32.zero_add, Nat.reduceEqDiff, Nat.reduceMul, Nat.reduceSub, nI_1, nI_add, nI_clamp, nI_pin, nI_neg, nI_nonneg, nI_leE, nI_ltE, nI_eqE, Nat.not_le, Nat.not_lt, fq_10, fq_01, fq_rr, ix_aald, ix_aast, ix_abs, ix_alen, ix_aload, ix_aret, ix_astore, ix_bald, ix_bast, ix_call, ix_cpyI, ix_cpyJ, ix_dead, ix_dup2, ix_dup2L, ix_dupI, ix_dupR, ix_dupx1, ix_getI, ix_getJ, ix_getR, ix_gfm, ix_gtab, ix_i2b, ix_i2c, ix_i2l, ix_i2s, ix_iadd, ix_iald, ix_iand, ix_iast, ix_icall, ix_icmp_eq, ix_icmp_ge, ix_icmp_gt, ix_icmp_le, ix_icmp_lt, ix_icmp_ne, ix_idiv, ix_if_eq, ix_if_ge, ix_if_gt, ix_if_le, ix_if_lt, ix_if_ne, ix_iinc, ix_iload, ix_imul, ix_ineg, ix_ior, ix_irem, ix_iret, ix_ishl, ix_ishr, ix_istore, ix_isub, ix_iushr, ix_ixor, ix_l2i, ix_ladd, ix_lald, ix_land, ix_last, ix_lcmp, ix_ldcS, ix_ldiv, ix_lload, ix_lmul, ix_lor, ix_lrem, ix_lret, ix_lshl, ix_lstore, ix_lsub, ix_lsw, ix_max, ix_min, ix_new, ix_newa, ix_nret, ix_oinit, ix_pop2L, ix_popI, ix_pushI, ix_pushL, ix_putI, ix_putJ, ix_putR, ix_putZ, ix_sbald, ix_sgetC, ix_sgetV, ix_slen, ix_strc, ix_tald, ix_tsw, ix_vcall, ix_vret, ix_zret, stL, stL2, kilL, popN, fq_sw, fq_lsw, List.map_cons, List.map_nil, List.getElem?_cons_zero, List.getElem?_cons_succ, Option.toList_some, Option.toList_none, List.cons_append, List.nil_append, List.length_cons, List.length_nil, List.sum_cons, List.sum_nil, cat_i, cat_l, cat_r, true_and, and_true, Nat.zero_add, Nat.add_zero, Nat.le_refl, Nat.zero_le, Nat.reduceAdd, Nat.reduceLeDiff, exists_eq_left', Option.some.injEq, not_true_eq_false, not_false_eq_true, false_implies, true_implies, implies_true, and_self, or_true, true_or, or_false, false_or]
          exact ⟨fun _ => hq, fun h => absurd h (by omega)⟩
        | succ c ih =>
          intro i a hi hq w
          rw [rbl_1] at hq
          have h8 := rsh_in (J (M + 5) (60 * k + i + 1) - J (M + 5) (60 * k + i)) (I (M + 1) 3)
          have o2 : okN (nI (i + 1)) 12 := okN.nI (by omega) (by decide)
          refine b_X12_blame_24 _ _ _ _ _ _ _ _ ?_
          simp (disch := omega) only [B_X12_blame_0, B_X12_blame_24, B_X12_blame_78, sp_X12_wrongPlaces, sp_X12_refuse, B_X12_refuse_0, sp_X12_shoutsTo, sp_X12_leftBy, sp_X12_waysFrom, sp_X12_is, B_X12_is_0, B_X12_is_14, hm, hm.k, hm.k1, hm.n1, hm.r1, hm.k2, hm.n2, hm.r2, hm.k3, hm.n3, hm.r3, hm.k4, hm.n4, hm.r4, hm.k5, hm.n5, hm.r5, hm.k6, hm.n6, hm.r6, hm.k7, hm.n7, hm.r7, hm.k8, hm.n8, hm.r8, hm.k9, hm.n9, hm.r9, hm.k10, hm.n10, hm.r10, hm.k11, hm.n11, hm.r11, hm.k12, hm.n12, hm.r12, hm.k13, hm.n13, hm.r13, hm.k14, hm.n14, hm.r14, li_2, li_3, li_4, li_5, li_6, li_7, li_8, li_9, li_10, li_11, li_12, li_13, li_14, li_15, li_16, li_17, li_18, li_19, li_20, li_21, li_22, li_23, li_24, li_25, li_26, li_27, li_28, li_29, li_30, li_32, li_33, li_34, li_35, li_36, li_37, li_38, li_39, li_40, li_41, li_42, li_43, li_44, li_45, li_46, li_47, li_48, li_49, li_50, li_51, li_52, li_53, li_54, li_55, li_56, li_57, li_58, li_59, li_60, li_61, li_62, li_63, li_64, li_65, li_66, li_67, li_68, li_69, li_70, li_71, li_72, li_73, li_74, li_75, li_76, li_77, li_78, li_79, li_80, li_81, li_82, li_83, li_84, li_85, li_86, li_87, li_88, li_89, li_90, li_91, li_92, li_93, li_94, li_95, li_96, li_97, li_98, li_99, li_100, li_101, li_102, li_103, li_104, li_105, li_106, li_107, li_108, li_109, li_110, li_111, li_112, li_113, li_114, li_115, li_116, li_117, li_118, li_119, li_120, li_121, li_122, li_123, li_124, li_125, li_126, li_127, li_128, li_129, li_130, li_131, li_226, li_240, li_255, li_300, li_586, li_594, li_900, li_999, li_1000, li_1800, li_2376, li_2388, li_2406, li_2602, li_2970, li_3067, li_3564, li_9999, li_10000, li_11287, li_65536, li_100000, li_1000000, nI_mul, tn0, tn1, vin0, vin1, Int32.add_zero, Int32.or_zero, Int32.mul_one, Int32.mul_zero, Int32.zero_add, Nat.reduceEqDiff, Nat.reduceMul, Nat.reduceSub, h3, o1, o2, nI_1, nI_add, nI_clamp, nI_pin, nI_neg, nI_nonneg, nI_leE, nI_ltE, nI_eqE, Nat.not_le, Nat.not_lt, fq_10, fq_01, fq_rr, ix_aald, ix_aast, ix_abs, ix_alen, ix_aload, ix_aret, ix_astore, ix_bald, ix_bast, ix_call, ix_cpyI, ix_cpyJ, ix_dead, ix_dup2, ix_dup2L, ix_dupI, ix_dupR, ix_dupx1, ix_getI, ix_getJ, ix_getR, ix_gfm, ix_gtab, ix_i2b, ix_i2c, ix_i2l, ix_i2s, ix_iadd, ix_iald, ix_iand, ix_iast, ix_icall, ix_icmp_eq, ix_icmp_ge, ix_icmp_gt, ix_icmp_le, ix_icmp_lt, ix_icmp_ne, ix_idiv, ix_if_eq, ix_if_ge, ix_if_gt, ix_if_le, ix_if_lt, ix_if_ne, ix_iinc, ix_iload, ix_imul, ix_ineg, ix_ior, ix_irem, ix_iret, ix_ishl, ix_ishr, ix_istore, ix_isub, ix_iushr, ix_ixor, ix_l2i, ix_ladd, ix_lald, ix_land, ix_last, ix_lcmp, ix_ldcS, ix_ldiv, ix_lload, ix_lmul, ix_lor, ix_lrem, ix_lret, ix_lshl, ix_lstore, ix_lsub, ix_lsw, ix_max, ix_min, ix_new, ix_newa, ix_nret, ix_oinit, ix_pop2L, ix_popI, ix_pushI, ix_pushL, ix_putI, ix_putJ, ix_putR, ix_putZ, ix_sbald, ix_sgetC, ix_sgetV, ix_slen, ix_strc, ix_tald, ix_tsw, ix_vcall, ix_vret, ix_zret, stL, stL2, kilL, popN, fq_sw, fq_lsw, List.map_cons, List.map_nil, List.getElem?_cons_zero, List.getElem?_cons_succ, Option.toList_some, Option.toList_none, List.cons_append, List.nil_append, List.length_cons, List.length_nil, List.sum_cons, List.sum_nil, cat_i, cat_l, cat_r, true_and, and_true, Nat.zero_add, Nat.add_zero, Nat.le_refl, Nat.zero_le, Nat.reduceAdd, Nat.reduceLeDiff, exists_eq_left', Option.some.injEq, not_true_eq_false, not_false_eq_true, false_implies, true_implies, implies_true, and_self, or_true, true_or, or_false, false_or]
          refine ⟨fun h => absurd h (by omega), fun _ => ⟨h8, fun h => ?_, fun h => ?_⟩⟩
          · rw [if_neg (fun q => q h)] at hq
            exact ih (i + 1) _ (by omega) hq w
          · rw [if_pos h] at hq
            exact hq
      refine fq_enter [some (.ref M), some (.int (nI k)), some (.int (nI m)), none, none, none, none] (by decide +kernel) (Nat.le_of_ble_eq_true rfl) rfl (b_X12_blame_0 _ _ _ _ _ _ _ _ ?_)
      simp (disch := omega) only [B_X12_blame_0, B_X12_blame_24, B_X12_blame_78, sp_X12_wrongPlaces, sp_X12_refuse, B_X12_refuse_0, sp_X12_shoutsTo, sp_X12_leftBy, sp_X12_waysFrom, sp_X12_is, B_X12_is_0, B_X12_is_14, hm, hm.k, hm.k1, hm.n1, hm.r1, hm.k2, hm.n2, hm.r2, hm.k3, hm.n3, hm.r3, hm.k4, hm.n4, hm.r4, hm.k5, hm.n5, hm.r5, hm.k6, hm.n6, hm.r6, hm.k7, hm.n7, hm.r7, hm.k8, hm.n8, hm.r8, hm.k9, hm.n9, hm.r9, hm.k10, hm.n10, hm.r10, hm.k11, hm.n11, hm.r11, hm.k12, hm.n12, hm.r12, hm.k13, hm.n13, hm.r13, hm.k14, hm.n14, hm.r14, li_2, li_3, li_4, li_5, li_6, li_7, li_8, li_9, li_10, li_11, li_12, li_13, li_14, li_15, li_16, li_17, li_18, li_19, li_20, li_21, li_22, li_23, li_24, li_25, li_26, li_27, li_28, li_29, li_30, li_32, li_33, li_34, li_35, li_36, li_37, li_38, li_39, li_40, li_41, li_42, li_43, li_44, li_45, li_46, li_47, li_48, li_49, li_50, li_51, li_52, li_53, li_54, li_55, li_56, li_57, li_58, li_59, li_60, li_61, li_62, li_63, li_64, li_65, li_66, li_67, li_68, li_69, li_70, li_71, li_72, li_73, li_74, li_75, li_76, li_77, li_78, li_79, li_80, li_81, li_82, li_83, li_84, li_85, li_86, li_87, li_88, li_89, li_90, li_91, li_92, li_93, li_94, li_95, li_96, li_97, li_98, li_99, li_100, li_101, li_102, li_103, li_104, li_105, li_106, li_107, li_108, li_109, li_110, li_111, li_112, li_113, li_114, li_115, li_116, li_117, li_118, li_119, li_120, li_121, li_122, li_123, li_124, li_125, li_126, li_127, li_128, li_129, li_130, li_131, li_226, li_240, li_255, li_300, li_586, li_594, li_900, li_999, li_1000, li_1800, li_2376, li_2388, li_2406, li_2602, li_2970, li_3067, li_3564, li_9999, li_10000, li_11287, li_65536, li_100000, li_1000000, nI_mul, tn0, tn1, vin0, vin1, Int32.add_zero, Int32.or_zero, Int32.mul_one, Int32.mul_zero, Int32.zero_add, Nat.reduceEqDiff, Nat.reduceMul, Nat.reduceSub, h0, h3, o1, nI_1, nI_add, nI_clamp, nI_pin, nI_neg, nI_nonneg, nI_leE, nI_ltE, nI_eqE, Nat.not_le, Nat.not_lt, fq_10, fq_01, fq_rr, ix_aald, ix_aast, ix_abs, ix_alen, ix_aload, ix_aret, ix_astore, ix_bald, ix_bast, ix_call, ix_cpyI, ix_cpyJ, ix_dead, ix_dup2, ix_dup2L, ix_dupI, ix_dupR, ix_dupx1, ix_getI, ix_getJ, ix_getR, ix_gfm, ix_gtab, ix_i2b, ix_i2c, ix_i2l, ix_i2s, ix_iadd, ix_iald, ix_iand, ix_iast, ix_icall, ix_icmp_eq, ix_icmp_ge, ix_icmp_gt, ix_icmp_le, ix_icmp_lt, ix_icmp_ne, ix_idiv, ix_if_eq, ix_if_ge, ix_if_gt, ix_if_le, ix_if_lt, ix_if_ne, ix_iinc, ix_iload, ix_imul, ix_ineg, ix_ior, ix_irem, ix_iret, ix_ishl, ix_ishr, ix_istore, ix_isub, ix_iushr, ix_ixor, ix_l2i, ix_ladd, ix_lald, ix_land, ix_last, ix_lcmp, ix_ldcS, ix_ldiv, ix_lload, ix_lmul, ix_lor, ix_lrem, ix_lret, ix_lshl, ix_lstore, ix_lsub, ix_lsw, ix_max, ix_min, ix_new, ix_newa, ix_nret, ix_oinit, ix_pop2L, ix_popI, ix_pushI, ix_pushL, ix_putI, ix_putJ, ix_putR, ix_putZ, ix_sbald, ix_sgetC, ix_sgetV, ix_slen, ix_strc, ix_tald, ix_tsw, ix_vcall, ix_vret, ix_zret, stL, stL2, kilL, popN, fq_sw, fq_lsw, List.map_cons, List.map_nil, List.getElem?_cons_zero, List.getElem?_cons_succ, Option.toList_some, Option.toList_none, List.cons_append, List.nil_append, List.length_cons, List.length_nil, List.sum_cons, List.sum_nil, cat_i, cat_l, cat_r, true_and, and_true, Nat.zero_add, Nat.add_zero, Nat.le_refl, Nat.zero_le, Nat.reduceAdd, Nat.reduceLeDiff, exists_eq_left', Option.some.injEq, not_true_eq_false, not_false_eq_true, false_implies, true_implies, implies_true, and_self, or_true, true_or, or_false, false_or]
      exact ⟨fun _ => lp (m - 1) 0 0 (by omega) hq 0, fun h => absurd (by decide) h⟩
    · refine fq_enter [some (.ref M), some (.int t), some (.int n), none, none, none, none] (by decide +kernel) (Nat.le_of_ble_eq_true rfl) rfl (b_X12_blame_0 _ _ _ _ _ _ _ _ ?_)
      simp (disch := omega) only [B_X12_blame_0, B_X12_blame_24, B_X12_blame_78, sp_X12_wrongPlaces, sp_X12_refuse, B_X12_refuse_0, sp_X12_shoutsTo, sp_X12_leftBy, sp_X12_waysFrom, sp_X12_is, B_X12_is_0, B_X12_is_14, hm, hm.k, hm.k1, hm.n1, hm.r1, hm.k2, hm.n2, hm.r2, hm.k3, hm.n3, hm.r3, hm.k4, hm.n4, hm.r4, hm.k5, hm.n5, hm.r5, hm.k6, hm.n6, hm.r6, hm.k7, hm.n7, hm.r7, hm.k8, hm.n8, hm.r8, hm.k9, hm.n9, hm.r9, hm.k10, hm.n10, hm.r10, hm.k11, hm.n11, hm.r11, hm.k12, hm.n12, hm.r12, hm.k13, hm.n13, hm.r13, hm.k14, hm.n14, hm.r14, li_2, li_3, li_4, li_5, li_6, li_7, li_8, li_9, li_10, li_11, li_12, li_13, li_14, li_15, li_16, li_17, li_18, li_19, li_20, li_21, li_22, li_23, li_24, li_25, li_26, li_27, li_28, li_29, li_30, li_32, li_33, li_34, li_35, li_36, li_37, li_38, li_39, li_40, li_41, li_42, li_43, li_44, li_45, li_46, li_47, li_48, li_49, li_50, li_51, li_52, li_53, li_54, li_55, li_56, li_57, li_58, li_59, li_60, li_61, li_62, li_63, li_64, li_65, li_66, li_67, li_68, li_69, li_70, li_71, li_72, li_73, li_74, li_75, li_76, li_77, li_78, li_79, li_80, li_81, li_82, li_83, li_84, li_85, li_86, li_87, li_88, li_89, li_90, li_91, li_92, li_93, li_94, li_95, li_96, li_97, li_98, li_99, li_100, li_101, li_102, li_103, li_104, li_105, li_106, li_107, li_108, li_109, li_110, li_111, li_112, li_113, li_114, li_115, li_116, li_117, li_118, li_119, li_120, li_121, li_122, li_123, li_124, li_125, li_126, li_127, li_128, li_129, li_130, li_131, li_226, li_240, li_255, li_300, li_586, li_594, li_900, li_999, li_1000, li_1800, li_2376, li_2388, li_2406, li_2602, li_2970, li_3067, li_3564, li_9999, li_10000, li_11287, li_65536, li_100000, li_1000000, nI_mul, tn0, tn1, vin0, vin1, Int32.add_zero, Int32.or_zero, Int32.mul_one, Int32.mul_zero, Int32.zero_add, Nat.reduceEqDiff, Nat.reduceMul, Nat.reduceSub, nI_1, nI_add, nI_clamp, nI_pin, nI_neg, nI_nonneg, nI_leE, nI_ltE, nI_eqE, Nat.not_le, Nat.not_lt, fq_10, fq_01, fq_rr, ix_aald, ix_aast, ix_abs, ix_alen, ix_aload, ix_aret, ix_astore, ix_bald, ix_bast, ix_call, ix_cpyI, ix_cpyJ, ix_dead, ix_dup2, ix_dup2L, ix_dupI, ix_dupR, ix_dupx1, ix_getI, ix_getJ, ix_getR, ix_gfm, ix_gtab, ix_i2b, ix_i2c, ix_i2l, ix_i2s, ix_iadd, ix_iald, ix_iand, ix_iast, ix_icall, ix_icmp_eq, ix_icmp_ge, ix_icmp_gt, ix_icmp_le, ix_icmp_lt, ix_icmp_ne, ix_idiv, ix_if_eq, ix_if_ge, ix_if_gt, ix_if_le, ix_if_lt, ix_if_ne, ix_iinc, ix_iload, ix_imul, ix_ineg, ix_ior, ix_irem, ix_iret, ix_ishl, ix_ishr, ix_istore, ix_isub, ix_iushr, ix_ixor, ix_l2i, ix_ladd, ix_lald, ix_land, ix_last, ix_lcmp, ix_ldcS, ix_ldiv, ix_lload, ix_lmul, ix_lor, ix_lrem, ix_lret, ix_lshl, ix_lstore, ix_lsub, ix_lsw, ix_max, ix_min, ix_new, ix_newa, ix_nret, ix_oinit, ix_pop2L, ix_popI, ix_pushI, ix_pushL, ix_putI, ix_putJ, ix_putR, ix_putZ, ix_sbald, ix_sgetC, ix_sgetV, ix_slen, ix_strc, ix_tald, ix_tsw, ix_vcall, ix_vret, ix_zret, stL, stL2, kilL, popN, fq_sw, fq_lsw, List.map_cons, List.map_nil, List.getElem?_cons_zero, List.getElem?_cons_succ, Option.toList_some, Option.toList_none, List.cons_append, List.nil_append, List.length_cons, List.length_nil, List.sum_cons, List.sum_nil, cat_i, cat_l, cat_r, true_and, and_true, Nat.zero_add, Nat.add_zero, Nat.le_refl, Nat.zero_le, Nat.reduceAdd, Nat.reduceLeDiff, exists_eq_left', Option.some.injEq, not_true_eq_false, not_false_eq_true, false_implies, true_implies, implies_true, and_self, or_true, true_or, or_false, false_or]
      exact ⟨fun h => absurd h0 (Int32.not_lt.mpr h), fun _ => hQ1 (fun e => by rw [e] at h0; exact absurd h0 (by decide))⟩
  · exact h.elim
