/-! small methods of the class -/
def ldn (v r : Int32) : Int32 := if r = 0 then v else if 0 < v - 2 then v - 2 else 0
theorem dX11_isWithin_0 : decode cX11_isWithin 0 = .ok (.iload_n 0, 1) := by decide +kernel
theorem dX11_isWithin_1 : decode cX11_isWithin 1 = .ok (.iload_n 1, 1) := by decide +kernel
theorem dX11_isWithin_2 : decode cX11_isWithin 2 = .ok (.if_icmp .lt 12, 3) := by decide +kernel
theorem dX11_isWithin_5 : decode cX11_isWithin 5 = .ok (.iload_n 0, 1) := by decide +kernel
theorem dX11_isWithin_6 : decode cX11_isWithin 6 = .ok (.iload_n 2, 1) := by decide +kernel
theorem dX11_isWithin_7 : decode cX11_isWithin 7 = .ok (.if_icmp .gt 7, 3) := by decide +kernel
theorem dX11_isWithin_10 : decode cX11_isWithin 10 = .ok (.iconst 1, 1) := by decide +kernel
theorem dX11_isWithin_11 : decode cX11_isWithin 11 = .ok (.goto 4, 3) := by decide +kernel
theorem dX11_isWithin_14 : decode cX11_isWithin 14 = .ok (.iconst 0, 1) := by decide +kernel
theorem dX11_isWithin_15 : decode cX11_isWithin 15 = .ok (.ireturn, 1) := by decide +kernel
abbrev M_X11_isWithin : MT := (yX11_isWithin, cX11_isWithin, 3, (some .boolean))
theorem cf_X11_isWithin : fq_cf M_X11_isWithin 3 := ⟨(mg_1 (List.mem_of_getElem? (i := 1) rfl) rfl), (mg_3 (List.mem_of_getElem? (i := 87) rfl) rfl), ⟨by decide, by decide, by decide +kernel⟩, by decide⟩
def B_X11_isWithin_15 (G : GT) (mc ms : Nat) (Q : Post) : Cn := ix_zret mc ms Q
theorem b_X11_isWithin_15 {l : Launch} {G : GT} {D mc ms : Nat} {Q : Post} : Imp l G M_X11_isWithin (D + 0) mc ms Q (B_X11_isWithin_15 G mc ms Q) 15 := sx_zret dX11_isWithin_15 rfl
def B_X11_isWithin_14 (G : GT) (mc ms : Nat) (Q : Post) : Cn := ix_pushI 0 ((B_X11_isWithin_15 G mc ms Q))
theorem b_X11_isWithin_14 {l : Launch} {G : GT} {D mc ms : Nat} {Q : Post} : Imp l G M_X11_isWithin (D + 0) mc ms Q (B_X11_isWithin_14 G mc ms Q) 14 := sx_iconst dX11_isWithin_14 rfl (b_X11_isWithin_15)
def B_X11_isWithin_0 (G : GT) (mc ms : Nat) (Q : Post) : Cn := ix_iload 0 (ix_iload 1 (ix_icmp_lt ((B_X11_isWithin_14 G mc ms Q)) (ix_iload 0 (ix_iload 2 (ix_icmp_gt ((B_X11_isWithin_14 G mc ms Q)) (ix_pushI 1 ((B_X11_isWithin_15 G mc ms Q))))))))
theorem b_X11_isWithin_0 {l : Launch} {G : GT} {D mc ms : Nat} {Q : Post} : Imp l G M_X11_isWithin (D + 0) mc ms Q (B_X11_isWithin_0 G mc ms Q) 0 := sx_iload_n dX11_isWithin_0 rfl (sx_iload_n dX11_isWithin_1 rfl (sx_icmp_lt 14 dX11_isWithin_2 (by decide) (b_X11_isWithin_14) (sx_iload_n dX11_isWithin_5 rfl (sx_iload_n dX11_isWithin_6 rfl (sx_icmp_gt 14 dX11_isWithin_7 (by decide) (b_X11_isWithin_14) (sx_iconst dX11_isWithin_10 rfl (sx_goto 15 dX11_isWithin_11 (by decide) (b_X11_isWithin_15))))))))
theorem dX11_oneIf_0 : decode cX11_oneIf 0 = .ok (.iload_n 0, 1) := by decide +kernel
theorem dX11_oneIf_1 : decode cX11_oneIf 1 = .ok (.ifCond .eq 7, 3) := by decide +kernel
theorem dX11_oneIf_4 : decode cX11_oneIf 4 = .ok (.iconst 1, 1) := by decide +kernel
theorem dX11_oneIf_5 : decode cX11_oneIf 5 = .ok (.goto 4, 3) := by decide +kernel
theorem dX11_oneIf_8 : decode cX11_oneIf 8 = .ok (.iconst 0, 1) := by decide +kernel
theorem dX11_oneIf_9 : decode cX11_oneIf 9 = .ok (.ireturn, 1) := by decide +kernel
abbrev M_X11_oneIf : MT := (yX11_oneIf, cX11_oneIf, 1, (some .int))
theorem cf_X11_oneIf : fq_cf M_X11_oneIf 1 := ⟨(mg_1 (List.mem_of_getElem? (i := 1) rfl) rfl), (mg_4 (List.mem_of_getElem? (i := 165) rfl) rfl), ⟨by decide, by decide, by decide +kernel⟩, by decide⟩
def B_X11_oneIf_9 (G : GT) (mc ms : Nat) (Q : Post) : Cn := ix_iret mc ms Q
theorem b_X11_oneIf_9 {l : Launch} {G : GT} {D mc ms : Nat} {Q : Post} : Imp l G M_X11_oneIf (D + 0) mc ms Q (B_X11_oneIf_9 G mc ms Q) 9 := sx_iret dX11_oneIf_9 rfl
def B_X11_oneIf_0 (G : GT) (mc ms : Nat) (Q : Post) : Cn := ix_iload 0 (ix_if_eq (ix_pushI 0 ((B_X11_oneIf_9 G mc ms Q))) (ix_pushI 1 ((B_X11_oneIf_9 G mc ms Q))))
theorem b_X11_oneIf_0 {l : Launch} {G : GT} {D mc ms : Nat} {Q : Post} : Imp l G M_X11_oneIf (D + 0) mc ms Q (B_X11_oneIf_0 G mc ms Q) 0 := sx_iload_n dX11_oneIf_0 rfl (sx_if_eq 8 dX11_oneIf_1 (by decide) (sx_iconst dX11_oneIf_8 rfl (b_X11_oneIf_9)) (sx_iconst dX11_oneIf_4 rfl (sx_goto 9 dX11_oneIf_5 (by decide) (b_X11_oneIf_9))))
theorem dX6_isAtPeace_0 : decode cX6_isAtPeace 0 = .ok (.aload_n 0, 1) := by decide +kernel
theorem dX6_isAtPeace_1 : decode cX6_isAtPeace 1 = .ok (.getfield 74, 3) := by decide +kernel
theorem dX6_isAtPeace_4 : decode cX6_isAtPeace 4 = .ok (.iload_n 1, 1) := by decide +kernel
theorem dX6_isAtPeace_5 : decode cX6_isAtPeace 5 = .ok (.ishr, 1) := by decide +kernel
theorem dX6_isAtPeace_6 : decode cX6_isAtPeace 6 = .ok (.iconst 1, 1) := by decide +kernel
theorem dX6_isAtPeace_7 : decode cX6_isAtPeace 7 = .ok (.iand, 1) := by decide +kernel
theorem dX6_isAtPeace_8 : decode cX6_isAtPeace 8 = .ok (.iconst 1, 1) := by decide +kernel
theorem dX6_isAtPeace_9 : decode cX6_isAtPeace 9 = .ok (.if_icmp .ne 7, 3) := by decide +kernel
theorem dX6_isAtPeace_12 : decode cX6_isAtPeace 12 = .ok (.iconst 1, 1) := by decide +kernel
theorem dX6_isAtPeace_13 : decode cX6_isAtPeace 13 = .ok (.goto 4, 3) := by decide +kernel
theorem dX6_isAtPeace_16 : decode cX6_isAtPeace 16 = .ok (.iconst 0, 1) := by decide +kernel
theorem dX6_isAtPeace_17 : decode cX6_isAtPeace 17 = .ok (.ireturn, 1) := by decide +kernel
abbrev M_X6_isAtPeace : MT := (yX6_isAtPeace, cX6_isAtPeace, 2, (some .boolean))
theorem cf_X6_isAtPeace : fq_cf M_X6_isAtPeace 1 := ⟨(mg_1 (List.mem_of_getElem? (i := 8) rfl) rfl), (mg_5 (List.mem_of_getElem? (i := 1) rfl) rfl), ⟨by decide, by decide, by decide +kernel⟩, by decide⟩
def B_X6_isAtPeace_17 (G : GT) (mc ms : Nat) (Q : Post) : Cn := ix_zret mc ms Q
theorem b_X6_isAtPeace_17 {l : Launch} {G : GT} {D mc ms : Nat} {Q : Post} : Imp l G M_X6_isAtPeace (D + 0) mc ms Q (B_X6_isAtPeace_17 G mc ms Q) 17 := sx_zret dX6_isAtPeace_17 rfl
def B_X6_isAtPeace_0 (G : GT) (mc ms : Nat) (Q : Post) : Cn := ix_aload 0 (ix_getI 6 13 (ix_iload 1 (ix_ishr (ix_pushI 1 (ix_iand (ix_pushI 1 (ix_icmp_ne (ix_pushI 0 ((B_X6_isAtPeace_17 G mc ms Q))) (ix_pushI 1 ((B_X6_isAtPeace_17 G mc ms Q))))))))))
theorem b_X6_isAtPeace_0 {l : Launch} {G : GT} {D mc ms : Nat} {Q : Post} : Imp l G M_X6_isAtPeace (D + 0) mc ms Q (B_X6_isAtPeace_0 G mc ms Q) 0 := sx_aload_n dX6_isAtPeace_0 rfl (sx_getI dX6_isAtPeace_1 fl_FootQuarrel_Street_74 (fun _ _ _ => rfl) (sx_iload_n dX6_isAtPeace_4 rfl (sx_ishr dX6_isAtPeace_5 (sx_iconst dX6_isAtPeace_6 rfl (sx_iand dX6_isAtPeace_7 (sx_iconst dX6_isAtPeace_8 rfl (sx_icmp_ne 16 dX6_isAtPeace_9 (by decide) (sx_iconst dX6_isAtPeace_16 rfl (b_X6_isAtPeace_17)) (sx_iconst dX6_isAtPeace_12 rfl (sx_goto 17 dX6_isAtPeace_13 (by decide) (b_X6_isAtPeace_17))))))))))
theorem dX2_catches_0 : decode cX2_catches 0 = .ok (.iload_n 1, 1) := by decide +kernel
theorem dX2_catches_1 : decode cX2_catches 1 = .ok (.aload_n 0, 1) := by decide +kernel
theorem dX2_catches_2 : decode cX2_catches 2 = .ok (.getfield 20, 3) := by decide +kernel
theorem dX2_catches_5 : decode cX2_catches 5 = .ok (.iadd, 1) := by decide +kernel
theorem dX2_catches_6 : decode cX2_catches 6 = .ok (.bipush 10, 2) := by decide +kernel
theorem dX2_catches_8 : decode cX2_catches 8 = .ok (.if_icmp .lt 7, 3) := by decide +kernel
theorem dX2_catches_11 : decode cX2_catches 11 = .ok (.iconst 1, 1) := by decide +kernel
theorem dX2_catches_12 : decode cX2_catches 12 = .ok (.goto 4, 3) := by decide +kernel
theorem dX2_catches_15 : decode cX2_catches 15 = .ok (.iconst 0, 1) := by decide +kernel
theorem dX2_catches_16 : decode cX2_catches 16 = .ok (.ireturn, 1) := by decide +kernel
abbrev M_X2_catches : MT := (yX2_catches, cX2_catches, 2, (some .boolean))
theorem cf_X2_catches : fq_cf M_X2_catches 1 := ⟨(mg_1 (List.mem_of_getElem? (i := 11) rfl) rfl), (mg_5 (List.mem_of_getElem? (i := 46) rfl) rfl), ⟨by decide, by decide, by decide +kernel⟩, by decide⟩
def B_X2_catches_16 (G : GT) (mc ms : Nat) (Q : Post) : Cn := ix_zret mc ms Q
theorem b_X2_catches_16 {l : Launch} {G : GT} {D mc ms : Nat} {Q : Post} : Imp l G M_X2_catches (D + 0) mc ms Q (B_X2_catches_16 G mc ms Q) 16 := sx_zret dX2_catches_16 rfl
def B_X2_catches_0 (G : GT) (mc ms : Nat) (Q : Post) : Cn := ix_iload 1 (ix_aload 0 (ix_getI 2 3 (ix_iadd (ix_pushI 10 (ix_icmp_lt (ix_pushI 0 ((B_X2_catches_16 G mc ms Q))) (ix_pushI 1 ((B_X2_catches_16 G mc ms Q))))))))
theorem b_X2_catches_0 {l : Launch} {G : GT} {D mc ms : Nat} {Q : Post} : Imp l G M_X2_catches (D + 0) mc ms Q (B_X2_catches_0 G mc ms Q) 0 := sx_iload_n dX2_catches_0 rfl (sx_aload_n dX2_catches_1 rfl (sx_getI dX2_catches_2 fl_FootQuarrel_Person_20 (fun _ _ _ => rfl) (sx_iadd dX2_catches_5 (sx_bipush dX2_catches_6 rfl (sx_icmp_lt 15 dX2_catches_8 (by decide) (sx_iconst dX2_catches_15 rfl (b_X2_catches_16)) (sx_iconst dX2_catches_11 rfl (sx_goto 16 dX2_catches_12 (by decide) (b_X2_catches_16))))))))
theorem dX8_isMissing_0 : decode cX8_isMissing 0 = .ok (.aload_n 0, 1) := by decide +kernel
theorem dX8_isMissing_1 : decode cX8_isMissing 1 = .ok (.getfield 15, 3) := by decide +kernel
theorem dX8_isMissing_4 : decode cX8_isMissing 4 = .ok (.iconst (-1), 1) := by decide +kernel
theorem dX8_isMissing_5 : decode cX8_isMissing 5 = .ok (.if_icmp .ne 7, 3) := by decide +kernel
theorem dX8_isMissing_8 : decode cX8_isMissing 8 = .ok (.iconst 1, 1) := by decide +kernel
theorem dX8_isMissing_9 : decode cX8_isMissing 9 = .ok (.goto 4, 3) := by decide +kernel
theorem dX8_isMissing_12 : decode cX8_isMissing 12 = .ok (.iconst 0, 1) := by decide +kernel
theorem dX8_isMissing_13 : decode cX8_isMissing 13 = .ok (.ireturn, 1) := by decide +kernel
abbrev M_X8_isMissing : MT := (yX8_isMissing, cX8_isMissing, 1, (some .boolean))
theorem cf_X8_isMissing : fq_cf M_X8_isMissing 0 := ⟨(mg_1 (List.mem_of_getElem? (i := 2) rfl) rfl), (mg_3 (List.mem_of_getElem? (i := 111) rfl) rfl), ⟨by decide, by decide, by decide +kernel⟩, by decide⟩
def B_X8_isMissing_13 (G : GT) (mc ms : Nat) (Q : Post) : Cn := ix_zret mc ms Q
theorem b_X8_isMissing_13 {l : Launch} {G : GT} {D mc ms : Nat} {Q : Post} : Imp l G M_X8_isMissing (D + 0) mc ms Q (B_X8_isMissing_13 G mc ms Q) 13 := sx_zret dX8_isMissing_13 rfl
def B_X8_isMissing_0 (G : GT) (mc ms : Nat) (Q : Post) : Cn := ix_aload 0 (ix_getI 8 1 (ix_pushI (-1) (ix_icmp_ne (ix_pushI 0 ((B_X8_isMissing_13 G mc ms Q))) (ix_pushI 1 ((B_X8_isMissing_13 G mc ms Q))))))
theorem b_X8_isMissing_0 {l : Launch} {G : GT} {D mc ms : Nat} {Q : Post} : Imp l G M_X8_isMissing (D + 0) mc ms Q (B_X8_isMissing_0 G mc ms Q) 0 := sx_aload_n dX8_isMissing_0 rfl (sx_getI dX8_isMissing_1 fl_FootQuarrel_Tray_15 (fun _ _ _ => rfl) (sx_iconst dX8_isMissing_4 rfl (sx_icmp_ne 12 dX8_isMissing_5 (by decide) (sx_iconst dX8_isMissing_12 rfl (b_X8_isMissing_13)) (sx_iconst dX8_isMissing_8 rfl (sx_goto 13 dX8_isMissing_9 (by decide) (b_X8_isMissing_13))))))
theorem dX8_spans_0 : decode cX8_spans 0 = .ok (.iload_n 1, 1) := by decide +kernel
theorem dX8_spans_1 : decode cX8_spans 1 = .ok (.aload_n 0, 1) := by decide +kernel
theorem dX8_spans_2 : decode cX8_spans 2 = .ok (.getfield 15, 3) := by decide +kernel
theorem dX8_spans_5 : decode cX8_spans 5 = .ok (.if_icmp .gt 17, 3) := by decide +kernel
theorem dX8_spans_8 : decode cX8_spans 8 = .ok (.iload_n 2, 1) := by decide +kernel
theorem dX8_spans_9 : decode cX8_spans 9 = .ok (.aload_n 0, 1) := by decide +kernel
theorem dX8_spans_10 : decode cX8_spans 10 = .ok (.getfield 15, 3) := by decide +kernel
theorem dX8_spans_13 : decode cX8_spans 13 = .ok (.iload_n 1, 1) := by decide +kernel
theorem dX8_spans_14 : decode cX8_spans 14 = .ok (.isub, 1) := by decide +kernel
theorem dX8_spans_15 : decode cX8_spans 15 = .ok (.if_icmp .gt 7, 3) := by decide +kernel
theorem dX8_spans_18 : decode cX8_spans 18 = .ok (.iconst 1, 1) := by decide +kernel
theorem dX8_spans_19 : decode cX8_spans 19 = .ok (.goto 4, 3) := by decide +kernel
theorem dX8_spans_22 : decode cX8_spans 22 = .ok (.iconst 0, 1) := by decide +kernel
theorem dX8_spans_23 : decode cX8_spans 23 = .ok (.ireturn, 1) := by decide +kernel
abbrev M_X8_spans : MT := (yX8_spans, cX8_spans, 3, (some .boolean))
theorem cf_X8_spans : fq_cf M_X8_spans 2 := ⟨(mg_1 (List.mem_of_getElem? (i := 2) rfl) rfl), (mg_3 (List.mem_of_getElem? (i := 131) rfl) rfl), ⟨by decide, by decide, by decide +kernel⟩, by decide⟩
def B_X8_spans_23 (G : GT) (mc ms : Nat) (Q : Post) : Cn := ix_zret mc ms Q
theorem b_X8_spans_23 {l : Launch} {G : GT} {D mc ms : Nat} {Q : Post} : Imp l G M_X8_spans (D + 0) mc ms Q (B_X8_spans_23 G mc ms Q) 23 := sx_zret dX8_spans_23 rfl
def B_X8_spans_22 (G : GT) (mc ms : Nat) (Q : Post) : Cn := ix_pushI 0 ((B_X8_spans_23 G mc ms Q))
theorem b_X8_spans_22 {l : Launch} {G : GT} {D mc ms : Nat} {Q : Post} : Imp l G M_X8_spans (D + 0) mc ms Q (B_X8_spans_22 G mc ms Q) 22 := sx_iconst dX8_spans_22 rfl (b_X8_spans_23)
def B_X8_spans_0 (G : GT) (mc ms : Nat) (Q : Post) : Cn := ix_iload 1 (ix_aload 0 (ix_getI 8 1 (ix_icmp_gt ((B_X8_spans_22 G mc ms Q)) (ix_iload 2 (ix_aload 0 (ix_getI 8 1 (ix_iload 1 (ix_isub (ix_icmp_gt ((B_X8_spans_22 G mc ms Q)) (ix_pushI 1 ((B_X8_spans_23 G mc ms Q))))))))))))
theorem b_X8_spans_0 {l : Launch} {G : GT} {D mc ms : Nat} {Q : Post} : Imp l G M_X8_spans (D + 0) mc ms Q (B_X8_spans_0 G mc ms Q) 0 := sx_iload_n dX8_spans_0 rfl (sx_aload_n dX8_spans_1 rfl (sx_getI dX8_spans_2 fl_FootQuarrel_Tray_15 (fun _ _ _ => rfl) (sx_icmp_gt 22 dX8_spans_5 (by decide) (b_X8_spans_22) (sx_iload_n dX8_spans_8 rfl (sx_aload_n dX8_spans_9 rfl (sx_getI dX8_spans_10 fl_FootQuarrel_Tray_15 (fun _ _ _ => rfl) (sx_iload_n dX8_spans_13 rfl (sx_isub dX8_spans_14 (sx_icmp_gt 22 dX8_spans_15 (by decide) (b_X8_spans_22) (sx_iconst dX8_spans_18 rfl (sx_goto 23 dX8_spans_19 (by decide) (b_X8_spans_23))))))))))))
theorem dX8_renew_0 : decode cX8_renew 0 = .ok (.aload_n 0, 1) := by decide +kernel
theorem dX8_renew_1 : decode cX8_renew 1 = .ok (.iload_n 1, 1) := by decide +kernel
theorem dX8_renew_2 : decode cX8_renew 2 = .ok (.putfield 19, 3) := by decide +kernel
theorem dX8_renew_5 : decode cX8_renew 5 = .ok (.aload_n 0, 1) := by decide +kernel
theorem dX8_renew_6 : decode cX8_renew 6 = .ok (.iload_n 2, 1) := by decide +kernel
theorem dX8_renew_7 : decode cX8_renew 7 = .ok (.putfield 15, 3) := by decide +kernel
theorem dX8_renew_10 : decode cX8_renew 10 = .ok (.iconst 0, 1) := by decide +kernel
theorem dX8_renew_11 : decode cX8_renew 11 = .ok (.istore_n 3, 1) := by decide +kernel
theorem dX8_renew_12 : decode cX8_renew 12 = .ok (.iload_n 3, 1) := by decide +kernel
theorem dX8_renew_13 : decode cX8_renew 13 = .ok (.iload_n 2, 1) := by decide +kernel
theorem dX8_renew_14 : decode cX8_renew 14 = .ok (.if_icmp .ge 16, 3) := by decide +kernel
theorem dX8_renew_17 : decode cX8_renew 17 = .ok (.aload_n 0, 1) := by decide +kernel
theorem dX8_renew_18 : decode cX8_renew 18 = .ok (.getfield 11, 3) := by decide +kernel
theorem dX8_renew_21 : decode cX8_renew 21 = .ok (.iload_n 3, 1) := by decide +kernel
theorem dX8_renew_22 : decode cX8_renew 22 = .ok (.lconst 0, 1) := by decide +kernel
theorem dX8_renew_23 : decode cX8_renew 23 = .ok (.lastore, 1) := by decide +kernel
theorem dX8_renew_24 : decode cX8_renew 24 = .ok (.iinc 3 1, 3) := by decide +kernel
theorem dX8_renew_27 : decode cX8_renew 27 = .ok (.goto (-15), 3) := by decide +kernel
theorem dX8_renew_30 : decode cX8_renew 30 = .ok (.return_, 1) := by decide +kernel
abbrev M_X8_renew : MT := (yX8_renew, cX8_renew, 4, none)
theorem cf_X8_renew : fq_cf M_X8_renew 2 := ⟨(mg_1 (List.mem_of_getElem? (i := 2) rfl) rfl), (mg_3 (List.mem_of_getElem? (i := 95) rfl) rfl), ⟨by decide, by decide, by decide +kernel⟩, by decide⟩
def B_X8_renew_12 (l : Launch) (G : GT) (D mc ms : Nat) (Q : Post) : Cn := ix_iload 3 (ix_iload 2 (ix_icmp_ge (ix_vret mc ms Q) (ix_aload 0 (ix_getR 8 0 (ix_iload 3 (ix_pushL 0 (ix_last (ix_iinc 3 1 (fqAt l G M_X8_renew (D + 0) mc ms Q 12)))))))))
theorem b_X8_renew_12 {l : Launch} {G : GT} {D mc ms : Nat} {Q : Post} : Imp l G M_X8_renew (D + 0) mc ms Q (B_X8_renew_12 l G D mc ms Q) 12 := sx_iload_n dX8_renew_12 rfl (sx_iload_n dX8_renew_13 rfl (sx_icmp_ge 30 dX8_renew_14 (by decide) (sx_vret dX8_renew_30 rfl) (sx_aload_n dX8_renew_17 rfl (sx_getR dX8_renew_18 fl_FootQuarrel_Tray_11 (fun _ _ _ => rfl) (sx_iload_n dX8_renew_21 rfl (sx_lconst dX8_renew_22 rfl (sx_last dX8_renew_23 (sx_iinc dX8_renew_24 rfl (by decide) (sx_goto 12 dX8_renew_27 (by decide) ((fun _ _ _ _ _ _ _ _ h => h)))))))))))
def B_X8_renew_0 (l : Launch) (G : GT) (D mc ms : Nat) (Q : Post) : Cn := ix_aload 0 (ix_iload 1 (ix_putI 8 2 (ix_aload 0 (ix_iload 2 (ix_putI 8 1 (ix_pushI 0 (ix_istore 3 (fqAt l G M_X8_renew (D + 0) mc ms Q 12))))))))
theorem b_X8_renew_0 {l : Launch} {G : GT} {D mc ms : Nat} {Q : Post} : Imp l G M_X8_renew (D + 0) mc ms Q (B_X8_renew_0 l G D mc ms Q) 0 := sx_aload_n dX8_renew_0 rfl (sx_iload_n dX8_renew_1 rfl (sx_putI dX8_renew_2 fl_FootQuarrel_Tray_19 (by decide) (fun _ _ _ => rfl) (fun _ => ⟨rfl, rfl⟩) (sx_aload_n dX8_renew_5 rfl (sx_iload_n dX8_renew_6 rfl (sx_putI dX8_renew_7 fl_FootQuarrel_Tray_15 (by decide) (fun _ _ _ => rfl) (fun _ => ⟨rfl, rfl⟩) (sx_iconst dX8_renew_10 rfl (sx_istore_n dX8_renew_11 rfl (by decide) ((fun _ _ _ _ _ _ _ _ h => h)))))))))
theorem dX8_put_0 : decode cX8_put 0 = .ok (.aload_n 0, 1) := by decide +kernel
theorem dX8_put_1 : decode cX8_put 1 = .ok (.getfield 19, 3) := by decide +kernel
theorem dX8_put_4 : decode cX8_put 4 = .ok (.tableswitch 66 0 2 #[28, 41, 54], 28) := by decide +kernel
theorem dX8_put_32 : decode cX8_put 32 = .ok (.aload_n 0, 1) := by decide +kernel
theorem dX8_put_33 : decode cX8_put 33 = .ok (.getfield 11, 3) := by decide +kernel
theorem dX8_put_36 : decode cX8_put 36 = .ok (.iload_n 1, 1) := by decide +kernel
theorem dX8_put_37 : decode cX8_put 37 = .ok (.lload_n 2, 1) := by decide +kernel
theorem dX8_put_38 : decode cX8_put 38 = .ok (.l2i, 1) := by decide +kernel
theorem dX8_put_39 : decode cX8_put 39 = .ok (.i2b, 1) := by decide +kernel
theorem dX8_put_40 : decode cX8_put 40 = .ok (.i2l, 1) := by decide +kernel
theorem dX8_put_41 : decode cX8_put 41 = .ok (.lastore, 1) := by decide +kernel
theorem dX8_put_42 : decode cX8_put 42 = .ok (.goto 35, 3) := by decide +kernel
theorem dX8_put_45 : decode cX8_put 45 = .ok (.aload_n 0, 1) := by decide +kernel
theorem dX8_put_46 : decode cX8_put 46 = .ok (.getfield 11, 3) := by decide +kernel
theorem dX8_put_49 : decode cX8_put 49 = .ok (.iload_n 1, 1) := by decide +kernel
theorem dX8_put_50 : decode cX8_put 50 = .ok (.lload_n 2, 1) := by decide +kernel
theorem dX8_put_51 : decode cX8_put 51 = .ok (.l2i, 1) := by decide +kernel
theorem dX8_put_52 : decode cX8_put 52 = .ok (.i2s, 1) := by decide +kernel
theorem dX8_put_53 : decode cX8_put 53 = .ok (.i2l, 1) := by decide +kernel
theorem dX8_put_54 : decode cX8_put 54 = .ok (.lastore, 1) := by decide +kernel
theorem dX8_put_55 : decode cX8_put 55 = .ok (.goto 22, 3) := by decide +kernel
theorem dX8_put_58 : decode cX8_put 58 = .ok (.aload_n 0, 1) := by decide +kernel
theorem dX8_put_59 : decode cX8_put 59 = .ok (.getfield 11, 3) := by decide +kernel
theorem dX8_put_62 : decode cX8_put 62 = .ok (.iload_n 1, 1) := by decide +kernel
theorem dX8_put_63 : decode cX8_put 63 = .ok (.lload_n 2, 1) := by decide +kernel
theorem dX8_put_64 : decode cX8_put 64 = .ok (.l2i, 1) := by decide +kernel
theorem dX8_put_65 : decode cX8_put 65 = .ok (.i2l, 1) := by decide +kernel
theorem dX8_put_66 : decode cX8_put 66 = .ok (.lastore, 1) := by decide +kernel
theorem dX8_put_67 : decode cX8_put 67 = .ok (.goto 10, 3) := by decide +kernel
theorem dX8_put_70 : decode cX8_put 70 = .ok (.aload_n 0, 1) := by decide +kernel
theorem dX8_put_71 : decode cX8_put 71 = .ok (.getfield 11, 3) := by decide +kernel
theorem dX8_put_74 : decode cX8_put 74 = .ok (.iload_n 1, 1) := by decide +kernel
theorem dX8_put_75 : decode cX8_put 75 = .ok (.lload_n 2, 1) := by decide +kernel
theorem dX8_put_76 : decode cX8_put 76 = .ok (.lastore, 1) := by decide +kernel
theorem dX8_put_77 : decode cX8_put 77 = .ok (.return_, 1) := by decide +kernel
abbrev M_X8_put : MT := (yX8_put, cX8_put, 4, none)
theorem cf_X8_put : fq_cf M_X8_put 2 := ⟨(mg_1 (List.mem_of_getElem? (i := 2) rfl) rfl), (mg_3 (List.mem_of_getElem? (i := 115) rfl) rfl), ⟨by decide, by decide, by decide +kernel⟩, by decide⟩
def B_X8_put_77 (G : GT) (mc ms : Nat) (Q : Post) : Cn := ix_vret mc ms Q
theorem b_X8_put_77 {l : Launch} {G : GT} {D mc ms : Nat} {Q : Post} : Imp l G M_X8_put (D + 0) mc ms Q (B_X8_put_77 G mc ms Q) 77 := sx_vret dX8_put_77 rfl
def B_X8_put_0 (G : GT) (mc ms : Nat) (Q : Post) : Cn := ix_aload 0 (ix_getI 8 2 (ix_tsw 0 [ix_aload 0 (ix_getR 8 0 (ix_iload 1 (ix_lload 2 (ix_l2i (ix_i2b (ix_i2l (ix_last ((B_X8_put_77 G mc ms Q))))))))), ix_aload 0 (ix_getR 8 0 (ix_iload 1 (ix_lload 2 (ix_l2i (ix_i2s (ix_i2l (ix_last ((B_X8_put_77 G mc ms Q))))))))), ix_aload 0 (ix_getR 8 0 (ix_iload 1 (ix_lload 2 (ix_l2i (ix_i2l (ix_last ((B_X8_put_77 G mc ms Q))))))))] (ix_aload 0 (ix_getR 8 0 (ix_iload 1 (ix_lload 2 (ix_last ((B_X8_put_77 G mc ms Q)))))))))
theorem b_X8_put_0 {l : Launch} {G : GT} {D mc ms : Nat} {Q : Post} : Imp l G M_X8_put (D + 0) mc ms Q (B_X8_put_0 G mc ms Q) 0 := sx_aload_n dX8_put_0 rfl (sx_getI dX8_put_1 fl_FootQuarrel_Tray_19 (fun _ _ _ => rfl) (sx_tswA [32, 45, 58] 70 dX8_put_4 rfl (by decide) (by decide) (by decide) ⟨sx_aload_n dX8_put_32 rfl (sx_getR dX8_put_33 fl_FootQuarrel_Tray_11 (fun _ _ _ => rfl) (sx_iload_n dX8_put_36 rfl (sx_lload_n dX8_put_37 rfl (sx_l2i dX8_put_38 (sx_i2b dX8_put_39 (sx_i2l dX8_put_40 (sx_last dX8_put_41 (sx_goto 77 dX8_put_42 (by decide) (b_X8_put_77))))))))), ⟨sx_aload_n dX8_put_45 rfl (sx_getR dX8_put_46 fl_FootQuarrel_Tray_11 (fun _ _ _ => rfl) (sx_iload_n dX8_put_49 rfl (sx_lload_n dX8_put_50 rfl (sx_l2i dX8_put_51 (sx_i2s dX8_put_52 (sx_i2l dX8_put_53 (sx_last dX8_put_54 (sx_goto 77 dX8_put_55 (by decide) (b_X8_put_77))))))))), ⟨sx_aload_n dX8_put_58 rfl (sx_getR dX8_put_59 fl_FootQuarrel_Tray_11 (fun _ _ _ => rfl) (sx_iload_n dX8_put_62 rfl (sx_lload_n dX8_put_63 rfl (sx_l2i dX8_put_64 (sx_i2l dX8_put_65 (sx_last dX8_put_66 (sx_goto 77 dX8_put_67 (by decide) (b_X8_put_77)))))))), trivial⟩⟩⟩ (sx_aload_n dX8_put_70 rfl (sx_getR dX8_put_71 fl_FootQuarrel_Tray_11 (fun _ _ _ => rfl) (sx_iload_n dX8_put_74 rfl (sx_lload_n dX8_put_75 rfl (sx_last dX8_put_76 (b_X8_put_77))))))))
def sp_X8_put (G : GT) : Sp := fun as S I J z Q => match as with
  | [.ref a0, .int a1, .long a2] => B_X8_put_0 G 0 0 Q [some (.ref a0), some (.int a1), some (.long a2), none] [] S I J z 0 0
  | _ => False
theorem c_X8_put {l : Launch} {G : GT} {D : Nat} : ∀ as S I J z Q, sp_X8_put G as S I J z Q → fqCall l G M_X8_put (D + 0) 0 0 as S I J z Q := by
  intro as S I J z Q h
  unfold sp_X8_put at h
  split at h
  · exact fq_enter _ (by decide +kernel) (Nat.le_of_ble_eq_true rfl) rfl (b_X8_put_0 _ _ _ _ _ _ _ _ h)
  · exact h.elim
theorem dX0_build_0 : decode cX0_build 0 = .ok (.aload_n 0, 1) := by decide +kernel
theorem dX0_build_1 : decode cX0_build 1 = .ok (.lload_n 1, 1) := by decide +kernel
theorem dX0_build_2 : decode cX0_build 2 = .ok (.putfield 7, 3) := by decide +kernel
theorem dX0_build_5 : decode cX0_build 5 = .ok (.aload_n 0, 1) := by decide +kernel
theorem dX0_build_6 : decode cX0_build 6 = .ok (.iload_n 3, 1) := by decide +kernel
theorem dX0_build_7 : decode cX0_build 7 = .ok (.putfield 13, 3) := by decide +kernel
theorem dX0_build_10 : decode cX0_build 10 = .ok (.aload_n 0, 1) := by decide +kernel
theorem dX0_build_11 : decode cX0_build 11 = .ok (.iload_n 3, 1) := by decide +kernel
theorem dX0_build_12 : decode cX0_build 12 = .ok (.putfield 17, 3) := by decide +kernel
theorem dX0_build_15 : decode cX0_build 15 = .ok (.aload_n 0, 1) := by decide +kernel
theorem dX0_build_16 : decode cX0_build 16 = .ok (.iconst 0, 1) := by decide +kernel
theorem dX0_build_17 : decode cX0_build 17 = .ok (.putfield 20, 3) := by decide +kernel
theorem dX0_build_20 : decode cX0_build 20 = .ok (.return_, 1) := by decide +kernel
abbrev M_X0_build : MT := (yX0_build, cX0_build, 4, none)
theorem cf_X0_build : fq_cf M_X0_build 2 := ⟨(mg_1 (List.mem_of_getElem? (i := 12) rfl) rfl), (mg_4 (List.mem_of_getElem? (i := 22) rfl) rfl), ⟨by decide, by decide, by decide +kernel⟩, by decide⟩
def B_X0_build_0 (G : GT) (mc ms : Nat) (Q : Post) : Cn := ix_aload 0 (ix_lload 1 (ix_putJ 0 0 (ix_aload 0 (ix_iload 3 (ix_putI 0 1 (ix_aload 0 (ix_iload 3 (ix_putI 0 2 (ix_aload 0 (ix_pushI 0 (ix_putI 0 3 (ix_vret mc ms Q))))))))))))
theorem b_X0_build_0 {l : Launch} {G : GT} {D mc ms : Nat} {Q : Post} : Imp l G M_X0_build (D + 0) mc ms Q (B_X0_build_0 G mc ms Q) 0 := sx_aload_n dX0_build_0 rfl (sx_lload_n dX0_build_1 rfl (sx_putJ dX0_build_2 fl_FootQuarrel_House_7 (by decide) (fun _ _ _ => rfl) (fun _ => ⟨rfl, rfl⟩) (sx_aload_n dX0_build_5 rfl (sx_iload_n dX0_build_6 rfl (sx_putI dX0_build_7 fl_FootQuarrel_House_13 (by decide) (fun _ _ _ => rfl) (fun _ => ⟨rfl, rfl⟩) (sx_aload_n dX0_build_10 rfl (sx_iload_n dX0_build_11 rfl (sx_putI dX0_build_12 fl_FootQuarrel_House_17 (by decide) (fun _ _ _ => rfl) (fun _ => ⟨rfl, rfl⟩) (sx_aload_n dX0_build_15 rfl (sx_iconst dX0_build_16 rfl (sx_putI dX0_build_17 fl_FootQuarrel_House_20 (by decide) (fun _ _ _ => rfl) (fun _ => ⟨rfl, rfl⟩) (sx_vret dX0_build_20 rfl))))))))))))
def sp_X0_build (G : GT) : Sp := fun as S I J z Q => match as with
  | [.ref a0, .long a1, .int a2] => B_X0_build_0 G 0 0 Q [some (.ref a0), some (.long a1), none, some (.int a2)] [] S I J z 0 0
  | _ => False
theorem c_X0_build {l : Launch} {G : GT} {D : Nat} : ∀ as S I J z Q, sp_X0_build G as S I J z Q → fqCall l G M_X0_build (D + 0) 0 0 as S I J z Q := by
  intro as S I J z Q h
  unfold sp_X0_build at h
  split at h
  · exact fq_enter _ (by decide +kernel) (Nat.le_of_ble_eq_true rfl) rfl (b_X0_build_0 _ _ _ _ _ _ _ _ h)
  · exact h.elim
theorem dX2_settle_0 : decode cX2_settle 0 = .ok (.aload_n 0, 1) := by decide +kernel
theorem dX2_settle_1 : decode cX2_settle 1 = .ok (.lload_n 1, 1) := by decide +kernel
theorem dX2_settle_2 : decode cX2_settle 2 = .ok (.putfield 7, 3) := by decide +kernel
theorem dX2_settle_5 : decode cX2_settle 5 = .ok (.aload_n 0, 1) := by decide +kernel
theorem dX2_settle_6 : decode cX2_settle 6 = .ok (.iload_n 3, 1) := by decide +kernel
theorem dX2_settle_7 : decode cX2_settle 7 = .ok (.putfield 13, 3) := by decide +kernel
theorem dX2_settle_10 : decode cX2_settle 10 = .ok (.aload_n 0, 1) := by decide +kernel
theorem dX2_settle_11 : decode cX2_settle 11 = .ok (.bipush 10, 2) := by decide +kernel
theorem dX2_settle_13 : decode cX2_settle 13 = .ok (.putfield 17, 3) := by decide +kernel
theorem dX2_settle_16 : decode cX2_settle 16 = .ok (.aload_n 0, 1) := by decide +kernel
theorem dX2_settle_17 : decode cX2_settle 17 = .ok (.iconst 5, 1) := by decide +kernel
theorem dX2_settle_18 : decode cX2_settle 18 = .ok (.putfield 20, 3) := by decide +kernel
theorem dX2_settle_21 : decode cX2_settle 21 = .ok (.aload_n 0, 1) := by decide +kernel
theorem dX2_settle_22 : decode cX2_settle 22 = .ok (.iconst 5, 1) := by decide +kernel
theorem dX2_settle_23 : decode cX2_settle 23 = .ok (.putfield 23, 3) := by decide +kernel
theorem dX2_settle_26 : decode cX2_settle 26 = .ok (.aload_n 0, 1) := by decide +kernel
theorem dX2_settle_27 : decode cX2_settle 27 = .ok (.iconst 0, 1) := by decide +kernel
theorem dX2_settle_28 : decode cX2_settle 28 = .ok (.putfield 26, 3) := by decide +kernel
theorem dX2_settle_31 : decode cX2_settle 31 = .ok (.aload_n 0, 1) := by decide +kernel
theorem dX2_settle_32 : decode cX2_settle 32 = .ok (.iconst 0, 1) := by decide +kernel
theorem dX2_settle_33 : decode cX2_settle 33 = .ok (.putfield 29, 3) := by decide +kernel
theorem dX2_settle_36 : decode cX2_settle 36 = .ok (.aload_n 0, 1) := by decide +kernel
theorem dX2_settle_37 : decode cX2_settle 37 = .ok (.iconst 0, 1) := by decide +kernel
theorem dX2_settle_38 : decode cX2_settle 38 = .ok (.putfield 32, 3) := by decide +kernel
theorem dX2_settle_41 : decode cX2_settle 41 = .ok (.return_, 1) := by decide +kernel
abbrev M_X2_settle : MT := (yX2_settle, cX2_settle, 4, none)
theorem cf_X2_settle : fq_cf M_X2_settle 2 := ⟨(mg_1 (List.mem_of_getElem? (i := 11) rfl) rfl), (mg_4 (List.mem_of_getElem? (i := 42) rfl) rfl), ⟨by decide, by decide, by decide +kernel⟩, by decide⟩
def B_X2_settle_0 (G : GT) (mc ms : Nat) (Q : Post) : Cn := ix_aload 0 (ix_lload 1 (ix_putJ 2 0 (ix_aload 0 (ix_iload 3 (ix_putI 2 1 (ix_aload 0 (ix_pushI 10 (ix_putI 2 2 (ix_aload 0 (ix_pushI 5 (ix_putI 2 3 (ix_aload 0 (ix_pushI 5 (ix_putI 2 4 (ix_aload 0 (ix_pushI 0 (ix_putI 2 5 (ix_aload 0 (ix_pushI 0 (ix_putI 2 6 (ix_aload 0 (ix_pushI 0 (ix_putI 2 7 (ix_vret mc ms Q))))))))))))))))))))))))
theorem b_X2_settle_0 {l : Launch} {G : GT} {D mc ms : Nat} {Q : Post} : Imp l G M_X2_settle (D + 0) mc ms Q (B_X2_settle_0 G mc ms Q) 0 := sx_aload_n dX2_settle_0 rfl (sx_lload_n dX2_settle_1 rfl (sx_putJ dX2_settle_2 fl_FootQuarrel_Person_7 (by decide) (fun _ _ _ => rfl) (fun _ => ⟨rfl, rfl⟩) (sx_aload_n dX2_settle_5 rfl (sx_iload_n dX2_settle_6 rfl (sx_putI dX2_settle_7 fl_FootQuarrel_Person_13 (by decide) (fun _ _ _ => rfl) (fun _ => ⟨rfl, rfl⟩) (sx_aload_n dX2_settle_10 rfl (sx_bipush dX2_settle_11 rfl (sx_putI dX2_settle_13 fl_FootQuarrel_Person_17 (by decide) (fun _ _ _ => rfl) (fun _ => ⟨rfl, rfl⟩) (sx_aload_n dX2_settle_16 rfl (sx_iconst dX2_settle_17 rfl (sx_putI dX2_settle_18 fl_FootQuarrel_Person_20 (by decide) (fun _ _ _ => rfl) (fun _ => ⟨rfl, rfl⟩) (sx_aload_n dX2_settle_21 rfl (sx_iconst dX2_settle_22 rfl (sx_putI dX2_settle_23 fl_FootQuarrel_Person_23 (by decide) (fun _ _ _ => rfl) (fun _ => ⟨rfl, rfl⟩) (sx_aload_n dX2_settle_26 rfl (sx_iconst dX2_settle_27 rfl (sx_putI dX2_settle_28 fl_FootQuarrel_Person_26 (by decide) (fun _ _ _ => rfl) (fun _ => ⟨rfl, rfl⟩) (sx_aload_n dX2_settle_31 rfl (sx_iconst dX2_settle_32 rfl (sx_putI dX2_settle_33 fl_FootQuarrel_Person_29 (by decide) (fun _ _ _ => rfl) (fun _ => ⟨rfl, rfl⟩) (sx_aload_n dX2_settle_36 rfl (sx_iconst dX2_settle_37 rfl (sx_putI dX2_settle_38 fl_FootQuarrel_Person_32 (by decide) (fun _ _ _ => rfl) (fun _ => ⟨rfl, rfl⟩) (sx_vret dX2_settle_41 rfl))))))))))))))))))))))))
def sp_X2_settle (G : GT) : Sp := fun as S I J z Q => match as with
  | [.ref a0, .long a1, .int a2] => B_X2_settle_0 G 0 0 Q [some (.ref a0), some (.long a1), none, some (.int a2)] [] S I J z 0 0
  | _ => False
theorem c_X2_settle {l : Launch} {G : GT} {D : Nat} : ∀ as S I J z Q, sp_X2_settle G as S I J z Q → fqCall l G M_X2_settle (D + 0) 0 0 as S I J z Q := by
  intro as S I J z Q h
  unfold sp_X2_settle at h
  split at h
  · exact fq_enter _ (by decide +kernel) (Nat.le_of_ble_eq_true rfl) rfl (b_X2_settle_0 _ _ _ _ _ _ _ _ h)
  · exact h.elim
theorem dX2_setTrait_0 : decode cX2_setTrait 0 = .ok (.iload_n 1, 1) := by decide +kernel
theorem dX2_setTrait_1 : decode cX2_setTrait 1 = .ok (.tableswitch 51 1 3 #[27, 35, 43], 27) := by decide +kernel
theorem dX2_setTrait_28 : decode cX2_setTrait 28 = .ok (.aload_n 0, 1) := by decide +kernel
theorem dX2_setTrait_29 : decode cX2_setTrait 29 = .ok (.iload_n 2, 1) := by decide +kernel
theorem dX2_setTrait_30 : decode cX2_setTrait 30 = .ok (.putfield 17, 3) := by decide +kernel
theorem dX2_setTrait_33 : decode cX2_setTrait 33 = .ok (.goto 24, 3) := by decide +kernel
theorem dX2_setTrait_36 : decode cX2_setTrait 36 = .ok (.aload_n 0, 1) := by decide +kernel
theorem dX2_setTrait_37 : decode cX2_setTrait 37 = .ok (.iload_n 2, 1) := by decide +kernel
theorem dX2_setTrait_38 : decode cX2_setTrait 38 = .ok (.putfield 20, 3) := by decide +kernel
theorem dX2_setTrait_41 : decode cX2_setTrait 41 = .ok (.goto 16, 3) := by decide +kernel
theorem dX2_setTrait_44 : decode cX2_setTrait 44 = .ok (.aload_n 0, 1) := by decide +kernel
theorem dX2_setTrait_45 : decode cX2_setTrait 45 = .ok (.iload_n 2, 1) := by decide +kernel
theorem dX2_setTrait_46 : decode cX2_setTrait 46 = .ok (.putfield 23, 3) := by decide +kernel
theorem dX2_setTrait_49 : decode cX2_setTrait 49 = .ok (.goto 8, 3) := by decide +kernel
theorem dX2_setTrait_52 : decode cX2_setTrait 52 = .ok (.aload_n 0, 1) := by decide +kernel
theorem dX2_setTrait_53 : decode cX2_setTrait 53 = .ok (.iload_n 2, 1) := by decide +kernel
theorem dX2_setTrait_54 : decode cX2_setTrait 54 = .ok (.putfield 26, 3) := by decide +kernel
theorem dX2_setTrait_57 : decode cX2_setTrait 57 = .ok (.return_, 1) := by decide +kernel
abbrev M_X2_setTrait : MT := (yX2_setTrait, cX2_setTrait, 3, none)
theorem cf_X2_setTrait : fq_cf M_X2_setTrait 2 := ⟨(mg_1 (List.mem_of_getElem? (i := 11) rfl) rfl), (mg_4 (List.mem_of_getElem? (i := 54) rfl) rfl), ⟨by decide, by decide, by decide +kernel⟩, by decide⟩
def B_X2_setTrait_57 (G : GT) (mc ms : Nat) (Q : Post) : Cn := ix_vret mc ms Q
theorem b_X2_setTrait_57 {l : Launch} {G : GT} {D mc ms : Nat} {Q : Post} : Imp l G M_X2_setTrait (D + 0) mc ms Q (B_X2_setTrait_57 G mc ms Q) 57 := sx_vret dX2_setTrait_57 rfl
def B_X2_setTrait_0 (G : GT) (mc ms : Nat) (Q : Post) : Cn := ix_iload 1 (ix_tsw 1 [ix_aload 0 (ix_iload 2 (ix_putI 2 2 ((B_X2_setTrait_57 G mc ms Q)))), ix_aload 0 (ix_iload 2 (ix_putI 2 3 ((B_X2_setTrait_57 G mc ms Q)))), ix_aload 0 (ix_iload 2 (ix_putI 2 4 ((B_X2_setTrait_57 G mc ms Q))))] (ix_aload 0 (ix_iload 2 (ix_putI 2 5 ((B_X2_setTrait_57 G mc ms Q))))))
theorem b_X2_setTrait_0 {l : Launch} {G : GT} {D mc ms : Nat} {Q : Post} : Imp l G M_X2_setTrait (D + 0) mc ms Q (B_X2_setTrait_0 G mc ms Q) 0 := sx_iload_n dX2_setTrait_0 rfl (sx_tswA [28, 36, 44] 52 dX2_setTrait_1 rfl (by decide) (by decide) (by decide) ⟨sx_aload_n dX2_setTrait_28 rfl (sx_iload_n dX2_setTrait_29 rfl (sx_putI dX2_setTrait_30 fl_FootQuarrel_Person_17 (by decide) (fun _ _ _ => rfl) (fun _ => ⟨rfl, rfl⟩) (sx_goto 57 dX2_setTrait_33 (by decide) (b_X2_setTrait_57)))), ⟨sx_aload_n dX2_setTrait_36 rfl (sx_iload_n dX2_setTrait_37 rfl (sx_putI dX2_setTrait_38 fl_FootQuarrel_Person_20 (by decide) (fun _ _ _ => rfl) (fun _ => ⟨rfl, rfl⟩) (sx_goto 57 dX2_setTrait_41 (by decide) (b_X2_setTrait_57)))), ⟨sx_aload_n dX2_setTrait_44 rfl (sx_iload_n dX2_setTrait_45 rfl (sx_putI dX2_setTrait_46 fl_FootQuarrel_Person_23 (by decide) (fun _ _ _ => rfl) (fun _ => ⟨rfl, rfl⟩) (sx_goto 57 dX2_setTrait_49 (by decide) (b_X2_setTrait_57)))), trivial⟩⟩⟩ (sx_aload_n dX2_setTrait_52 rfl (sx_iload_n dX2_setTrait_53 rfl (sx_putI dX2_setTrait_54 fl_FootQuarrel_Person_26 (by decide) (fun _ _ _ => rfl) (fun _ => ⟨rfl, rfl⟩) (b_X2_setTrait_57)))))
def sp_X2_setTrait (G : GT) : Sp := fun as S I J z Q => match as with
  | [.ref a0, .int a1, .int a2] => B_X2_setTrait_0 G 0 0 Q [some (.ref a0), some (.int a1), some (.int a2)] [] S I J z 0 0
  | _ => False
theorem c_X2_setTrait {l : Launch} {G : GT} {D : Nat} : ∀ as S I J z Q, sp_X2_setTrait G as S I J z Q → fqCall l G M_X2_setTrait (D + 0) 0 0 as S I J z Q := by
  intro as S I J z Q h
  unfold sp_X2_setTrait at h
  split at h
  · exact fq_enter _ (by decide +kernel) (Nat.le_of_ble_eq_true rfl) rfl (b_X2_setTrait_0 _ _ _ _ _ _ _ _ h)
  · exact h.elim
theorem dX9_clear_0 : decode cX9_clear 0 = .ok (.aload_n 0, 1) := by decide +kernel
theorem dX9_clear_1 : decode cX9_clear 1 = .ok (.iconst 0, 1) := by decide +kernel
theorem dX9_clear_2 : decode cX9_clear 2 = .ok (.putfield 31, 3) := by decide +kernel
theorem dX9_clear_5 : decode cX9_clear 5 = .ok (.aload_n 0, 1) := by decide +kernel
theorem dX9_clear_6 : decode cX9_clear 6 = .ok (.iconst 0, 1) := by decide +kernel
theorem dX9_clear_7 : decode cX9_clear 7 = .ok (.putfield 35, 3) := by decide +kernel
theorem dX9_clear_10 : decode cX9_clear 10 = .ok (.aload_n 0, 1) := by decide +kernel
theorem dX9_clear_11 : decode cX9_clear 11 = .ok (.iconst 0, 1) := by decide +kernel
theorem dX9_clear_12 : decode cX9_clear 12 = .ok (.putfield 38, 3) := by decide +kernel
theorem dX9_clear_15 : decode cX9_clear 15 = .ok (.return_, 1) := by decide +kernel
abbrev M_X9_clear : MT := (yX9_clear, cX9_clear, 1, none)
theorem cf_X9_clear : fq_cf M_X9_clear 0 := ⟨(mg_1 (List.mem_of_getElem? (i := 9) rfl) rfl), (mg_2 (List.mem_of_getElem? (i := 131) rfl) rfl), ⟨by decide, by decide, by decide +kernel⟩, by decide⟩
def B_X9_clear_0 (G : GT) (mc ms : Nat) (Q : Post) : Cn := ix_aload 0 (ix_pushI 0 (ix_putI 9 7 (ix_aload 0 (ix_pushI 0 (ix_putI 9 8 (ix_aload 0 (ix_pushI 0 (ix_putZ 9 9 (ix_vret mc ms Q)))))))))
theorem b_X9_clear_0 {l : Launch} {G : GT} {D mc ms : Nat} {Q : Post} : Imp l G M_X9_clear (D + 0) mc ms Q (B_X9_clear_0 G mc ms Q) 0 := sx_aload_n dX9_clear_0 rfl (sx_iconst dX9_clear_1 rfl (sx_putI dX9_clear_2 fl_FootQuarrel_Years_31 (by decide) (fun _ _ _ => rfl) (fun _ => ⟨rfl, rfl⟩) (sx_aload_n dX9_clear_5 rfl (sx_iconst dX9_clear_6 rfl (sx_putI dX9_clear_7 fl_FootQuarrel_Years_35 (by decide) (fun _ _ _ => rfl) (fun _ => ⟨rfl, rfl⟩) (sx_aload_n dX9_clear_10 rfl (sx_iconst dX9_clear_11 rfl (sx_putZ dX9_clear_12 fl_FootQuarrel_Years_38 (by decide) (fun _ _ _ => rfl) (fun v h => by rcases h with h | h <;> subst h <;> exact ⟨rfl, rfl⟩) (sx_vret dX9_clear_15 rfl)))))))))
def sp_X9_clear (G : GT) : Sp := fun as S I J z Q => match as with
  | [.ref a0] => B_X9_clear_0 G 0 0 Q [some (.ref a0)] [] S I J z 0 0
  | _ => False
theorem c_X9_clear {l : Launch} {G : GT} {D : Nat} : ∀ as S I J z Q, sp_X9_clear G as S I J z Q → fqCall l G M_X9_clear (D + 0) 0 0 as S I J z Q := by
  intro as S I J z Q h
  unfold sp_X9_clear at h
  split at h
  · exact fq_enter _ (by decide +kernel) (Nat.le_of_ble_eq_true rfl) rfl (b_X9_clear_0 _ _ _ _ _ _ _ _ h)
  · exact h.elim
theorem dX11_answer_0 : decode cX11_answer 0 = .ok (.aload_n 0, 1) := by decide +kernel
theorem dX11_answer_1 : decode cX11_answer 1 = .ok (.iconst 0, 1) := by decide +kernel
theorem dX11_answer_2 : decode cX11_answer 2 = .ok (.putfield 64, 3) := by decide +kernel
theorem dX11_answer_5 : decode cX11_answer 5 = .ok (.iload_n 1, 1) := by decide +kernel
theorem dX11_answer_6 : decode cX11_answer 6 = .ok (.ireturn, 1) := by decide +kernel
abbrev M_X11_answer : MT := (yX11_answer, cX11_answer, 2, (some .int))
theorem cf_X11_answer : fq_cf M_X11_answer 1 := ⟨(mg_1 (List.mem_of_getElem? (i := 1) rfl) rfl), (mg_4 (List.mem_of_getElem? (i := 75) rfl) rfl), ⟨by decide, by decide, by decide +kernel⟩, by decide⟩
def B_X11_answer_0 (G : GT) (mc ms : Nat) (Q : Post) : Cn := ix_aload 0 (ix_pushI 0 (ix_putI 11 10 (ix_iload 1 (ix_iret mc ms Q))))
theorem b_X11_answer_0 {l : Launch} {G : GT} {D mc ms : Nat} {Q : Post} : Imp l G M_X11_answer (D + 0) mc ms Q (B_X11_answer_0 G mc ms Q) 0 := sx_aload_n dX11_answer_0 rfl (sx_iconst dX11_answer_1 rfl (sx_putI dX11_answer_2 fl_FootQuarrel_64 (by decide) (fun _ _ _ => rfl) (fun _ => ⟨rfl, rfl⟩) (sx_iload_n dX11_answer_5 rfl (sx_iret dX11_answer_6 rfl))))
def sp_X11_answer (G : GT) : Sp := fun as S I J z Q => match as with
  | [.ref a0, .int a1] => B_X11_answer_0 G 0 0 Q [some (.ref a0), some (.int a1)] [] S I J z 0 0
  | _ => False
theorem c_X11_answer {l : Launch} {G : GT} {D : Nat} : ∀ as S I J z Q, sp_X11_answer G as S I J z Q → fqCall l G M_X11_answer (D + 0) 0 0 as S I J z Q := by
  intro as S I J z Q h
  unfold sp_X11_answer at h
  split at h
  · exact fq_enter _ (by decide +kernel) (Nat.le_of_ble_eq_true rfl) rfl (b_X11_answer_0 _ _ _ _ _ _ _ _ h)
  · exact h.elim
theorem dX11_refuse_0 : decode cX11_refuse 0 = .ok (.aload_n 0, 1) := by decide +kernel
theorem dX11_refuse_1 : decode cX11_refuse 1 = .ok (.iload_n 1, 1) := by decide +kernel
theorem dX11_refuse_2 : decode cX11_refuse 2 = .ok (.putfield 64, 3) := by decide +kernel
theorem dX11_refuse_5 : decode cX11_refuse 5 = .ok (.iconst (-1), 1) := by decide +kernel
theorem dX11_refuse_6 : decode cX11_refuse 6 = .ok (.ireturn, 1) := by decide +kernel
abbrev M_X11_refuse : MT := (yX11_refuse, cX11_refuse, 2, (some .int))
theorem cf_X11_refuse : fq_cf M_X11_refuse 1 := ⟨(mg_1 (List.mem_of_getElem? (i := 1) rfl) rfl), (mg_3 (List.mem_of_getElem? (i := 123) rfl) rfl), ⟨by decide, by decide, by decide +kernel⟩, by decide⟩
def B_X11_refuse_0 (G : GT) (mc ms : Nat) (Q : Post) : Cn := ix_aload 0 (ix_iload 1 (ix_putI 11 10 (ix_pushI (-1) (ix_iret mc ms Q))))
theorem b_X11_refuse_0 {l : Launch} {G : GT} {D mc ms : Nat} {Q : Post} : Imp l G M_X11_refuse (D + 0) mc ms Q (B_X11_refuse_0 G mc ms Q) 0 := sx_aload_n dX11_refuse_0 rfl (sx_iload_n dX11_refuse_1 rfl (sx_putI dX11_refuse_2 fl_FootQuarrel_64 (by decide) (fun _ _ _ => rfl) (fun _ => ⟨rfl, rfl⟩) (sx_iconst dX11_refuse_5 rfl (sx_iret dX11_refuse_6 rfl))))
def sp_X11_refuse (G : GT) : Sp := fun as S I J z Q => match as with
  | [.ref a0, .int a1] => B_X11_refuse_0 G 0 0 Q [some (.ref a0), some (.int a1)] [] S I J z 0 0
  | _ => False
theorem c_X11_refuse {l : Launch} {G : GT} {D : Nat} : ∀ as S I J z Q, sp_X11_refuse G as S I J z Q → fqCall l G M_X11_refuse (D + 0) 0 0 as S I J z Q := by
  intro as S I J z Q h
  unfold sp_X11_refuse at h
  split at h
  · exact fq_enter _ (by decide +kernel) (Nat.le_of_ble_eq_true rfl) rfl (b_X11_refuse_0 _ _ _ _ _ _ _ _ h)
  · exact h.elim
theorem dX11_grant_0 : decode cX11_grant 0 = .ok (.aload_n 0, 1) := by decide +kernel
theorem dX11_grant_1 : decode cX11_grant 1 = .ok (.iconst 0, 1) := by decide +kernel
theorem dX11_grant_2 : decode cX11_grant 2 = .ok (.putfield 64, 3) := by decide +kernel
theorem dX11_grant_5 : decode cX11_grant 5 = .ok (.iconst 1, 1) := by decide +kernel
theorem dX11_grant_6 : decode cX11_grant 6 = .ok (.ireturn, 1) := by decide +kernel
abbrev M_X11_grant : MT := (yX11_grant, cX11_grant, 1, (some .boolean))
theorem cf_X11_grant : fq_cf M_X11_grant 0 := ⟨(mg_1 (List.mem_of_getElem? (i := 1) rfl) rfl), (mg_3 (List.mem_of_getElem? (i := 99) rfl) rfl), ⟨by decide, by decide, by decide +kernel⟩, by decide⟩
def B_X11_grant_0 (G : GT) (mc ms : Nat) (Q : Post) : Cn := ix_aload 0 (ix_pushI 0 (ix_putI 11 10 (ix_pushI 1 (ix_zret mc ms Q))))
theorem b_X11_grant_0 {l : Launch} {G : GT} {D mc ms : Nat} {Q : Post} : Imp l G M_X11_grant (D + 0) mc ms Q (B_X11_grant_0 G mc ms Q) 0 := sx_aload_n dX11_grant_0 rfl (sx_iconst dX11_grant_1 rfl (sx_putI dX11_grant_2 fl_FootQuarrel_64 (by decide) (fun _ _ _ => rfl) (fun _ => ⟨rfl, rfl⟩) (sx_iconst dX11_grant_5 rfl (sx_zret dX11_grant_6 rfl))))
def sp_X11_grant (G : GT) : Sp := fun as S I J z Q => match as with
  | [.ref a0] => B_X11_grant_0 G 0 0 Q [some (.ref a0)] [] S I J z 0 0
  | _ => False
theorem c_X11_grant {l : Launch} {G : GT} {D : Nat} : ∀ as S I J z Q, sp_X11_grant G as S I J z Q → fqCall l G M_X11_grant (D + 0) 0 0 as S I J z Q := by
  intro as S I J z Q h
  unfold sp_X11_grant at h
  split at h
  · exact fq_enter _ (by decide +kernel) (Nat.le_of_ble_eq_true rfl) rfl (b_X11_grant_0 _ _ _ _ _ _ _ _ h)
  · exact h.elim
theorem dX11_deny_0 : decode cX11_deny 0 = .ok (.aload_n 0, 1) := by decide +kernel
theorem dX11_deny_1 : decode cX11_deny 1 = .ok (.iload_n 1, 1) := by decide +kernel
theorem dX11_deny_2 : decode cX11_deny 2 = .ok (.putfield 64, 3) := by decide +kernel
theorem dX11_deny_5 : decode cX11_deny 5 = .ok (.iconst 0, 1) := by decide +kernel
theorem dX11_deny_6 : decode cX11_deny 6 = .ok (.ireturn, 1) := by decide +kernel
abbrev M_X11_deny : MT := (yX11_deny, cX11_deny, 2, (some .boolean))
theorem cf_X11_deny : fq_cf M_X11_deny 1 := ⟨(mg_1 (List.mem_of_getElem? (i := 1) rfl) rfl), (mg_3 (List.mem_of_getElem? (i := 91) rfl) rfl), ⟨by decide, by decide, by decide +kernel⟩, by decide⟩
def B_X11_deny_0 (G : GT) (mc ms : Nat) (Q : Post) : Cn := ix_aload 0 (ix_iload 1 (ix_putI 11 10 (ix_pushI 0 (ix_zret mc ms Q))))
theorem b_X11_deny_0 {l : Launch} {G : GT} {D mc ms : Nat} {Q : Post} : Imp l G M_X11_deny (D + 0) mc ms Q (B_X11_deny_0 G mc ms Q) 0 := sx_aload_n dX11_deny_0 rfl (sx_iload_n dX11_deny_1 rfl (sx_putI dX11_deny_2 fl_FootQuarrel_64 (by decide) (fun _ _ _ => rfl) (fun _ => ⟨rfl, rfl⟩) (sx_iconst dX11_deny_5 rfl (sx_zret dX11_deny_6 rfl))))
def sp_X11_deny (G : GT) : Sp := fun as S I J z Q => match as with
  | [.ref a0, .int a1] => B_X11_deny_0 G 0 0 Q [some (.ref a0), some (.int a1)] [] S I J z 0 0
  | _ => False
theorem c_X11_deny {l : Launch} {G : GT} {D : Nat} : ∀ as S I J z Q, sp_X11_deny G as S I J z Q → fqCall l G M_X11_deny (D + 0) 0 0 as S I J z Q := by
  intro as S I J z Q h
  unfold sp_X11_deny at h
  split at h
  · exact fq_enter _ (by decide +kernel) (Nat.le_of_ble_eq_true rfl) rfl (b_X11_deny_0 _ _ _ _ _ _ _ _ h)
  · exact h.elim
theorem dX11_status_0 : decode cX11_status 0 = .ok (.aload_n 0, 1) := by decide +kernel
theorem dX11_status_1 : decode cX11_status 1 = .ok (.getfield 64, 3) := by decide +kernel
theorem dX11_status_4 : decode cX11_status 4 = .ok (.ireturn, 1) := by decide +kernel
abbrev M_X11_status : MT := (yX11_status, cX11_status, 1, (some .int))
theorem cf_X11_status : fq_cf M_X11_status 0 := ⟨(mg_1 (List.mem_of_getElem? (i := 1) rfl) rfl), (mg_3 (List.mem_of_getElem? (i := 69) rfl) rfl), ⟨by decide, by decide, by decide +kernel⟩, by decide⟩
def B_X11_status_0 (G : GT) (mc ms : Nat) (Q : Post) : Cn := ix_aload 0 (ix_getI 11 10 (ix_iret mc ms Q))
theorem b_X11_status_0 {l : Launch} {G : GT} {D mc ms : Nat} {Q : Post} : Imp l G M_X11_status (D + 0) mc ms Q (B_X11_status_0 G mc ms Q) 0 := sx_aload_n dX11_status_0 rfl (sx_getI dX11_status_1 fl_FootQuarrel_64 (fun _ _ _ => rfl) (sx_iret dX11_status_4 rfl))
def sp_X11_status (G : GT) : Sp := fun as S I J z Q => match as with
  | [.ref a0] => B_X11_status_0 G 0 0 Q [some (.ref a0)] [] S I J z 0 0
  | _ => False
theorem c_X11_status {l : Launch} {G : GT} {D : Nat} : ∀ as S I J z Q, sp_X11_status G as S I J z Q → fqCall l G M_X11_status (D + 0) 0 0 as S I J z Q := by
  intro as S I J z Q h
  unfold sp_X11_status at h
  split at h
  · exact fq_enter _ (by decide +kernel) (Nat.le_of_ble_eq_true rfl) rfl (b_X11_status_0 _ _ _ _ _ _ _ _ h)
  · exact h.elim
theorem dX11_top_0 : decode cX11_top 0 = .ok (.aload_n 0, 1) := by decide +kernel
theorem dX11_top_1 : decode cX11_top 1 = .ok (.getfield 67, 3) := by decide +kernel
theorem dX11_top_4 : decode cX11_top 4 = .ok (.lreturn, 1) := by decide +kernel
abbrev M_X11_top : MT := (yX11_top, cX11_top, 1, (some .long))
theorem cf_X11_top : fq_cf M_X11_top 0 := ⟨(mg_1 (List.mem_of_getElem? (i := 1) rfl) rfl), (mg_3 (List.mem_of_getElem? (i := 73) rfl) rfl), ⟨by decide, by decide, by decide +kernel⟩, by decide⟩
def B_X11_top_0 (G : GT) (mc ms : Nat) (Q : Post) : Cn := ix_aload 0 (ix_getJ 11 13 (ix_lret mc ms Q))
theorem b_X11_top_0 {l : Launch} {G : GT} {D mc ms : Nat} {Q : Post} : Imp l G M_X11_top (D + 0) mc ms Q (B_X11_top_0 G mc ms Q) 0 := sx_aload_n dX11_top_0 rfl (sx_getJ dX11_top_1 fl_FootQuarrel_67 (fun _ _ _ => rfl) (sx_lret dX11_top_4 rfl))
def sp_X11_top (G : GT) : Sp := fun as S I J z Q => match as with
  | [.ref a0] => B_X11_top_0 G 0 0 Q [some (.ref a0)] [] S I J z 0 0
  | _ => False
theorem c_X11_top {l : Launch} {G : GT} {D : Nat} : ∀ as S I J z Q, sp_X11_top G as S I J z Q → fqCall l G M_X11_top (D + 0) 0 0 as S I J z Q := by
  intro as S I J z Q h
  unfold sp_X11_top at h
  split at h
  · exact fq_enter _ (by decide +kernel) (Nat.le_of_ble_eq_true rfl) rfl (b_X11_top_0 _ _ _ _ _ _ _ _ h)
  · exact h.elim
theorem dX11_bottom_0 : decode cX11_bottom 0 = .ok (.aload_n 0, 1) := by decide +kernel
theorem dX11_bottom_1 : decode cX11_bottom 1 = .ok (.getfield 60, 3) := by decide +kernel
theorem dX11_bottom_4 : decode cX11_bottom 4 = .ok (.lreturn, 1) := by decide +kernel
abbrev M_X11_bottom : MT := (yX11_bottom, cX11_bottom, 1, (some .long))
theorem cf_X11_bottom : fq_cf M_X11_bottom 0 := ⟨(mg_1 (List.mem_of_getElem? (i := 1) rfl) rfl), (mg_3 (List.mem_of_getElem? (i := 77) rfl) rfl), ⟨by decide, by decide, by decide +kernel⟩, by decide⟩
def B_X11_bottom_0 (G : GT) (mc ms : Nat) (Q : Post) : Cn := ix_aload 0 (ix_getJ 11 14 (ix_lret mc ms Q))
theorem b_X11_bottom_0 {l : Launch} {G : GT} {D mc ms : Nat} {Q : Post} : Imp l G M_X11_bottom (D + 0) mc ms Q (B_X11_bottom_0 G mc ms Q) 0 := sx_aload_n dX11_bottom_0 rfl (sx_getJ dX11_bottom_1 fl_FootQuarrel_60 (fun _ _ _ => rfl) (sx_lret dX11_bottom_4 rfl))
def sp_X11_bottom (G : GT) : Sp := fun as S I J z Q => match as with
  | [.ref a0] => B_X11_bottom_0 G 0 0 Q [some (.ref a0)] [] S I J z 0 0
  | _ => False
theorem c_X11_bottom {l : Launch} {G : GT} {D : Nat} : ∀ as S I J z Q, sp_X11_bottom G as S I J z Q → fqCall l G M_X11_bottom (D + 0) 0 0 as S I J z Q := by
  intro as S I J z Q h
  unfold sp_X11_bottom at h
  split at h
  · exact fq_enter _ (by decide +kernel) (Nat.le_of_ble_eq_true rfl) rfl (b_X11_bottom_0 _ _ _ _ _ _ _ _ h)
  · exact h.elim
theorem dX11_fault_0 : decode cX11_fault 0 = .ok (.iload_n 1, 1) := by decide +kernel
theorem dX11_fault_1 : decode cX11_fault 1 = .ok (.ifCond .ne 8, 3) := by decide +kernel
theorem dX11_fault_4 : decode cX11_fault 4 = .ok (.aload_n 0, 1) := by decide +kernel
theorem dX11_fault_5 : decode cX11_fault 5 = .ok (.getfield 53, 3) := by decide +kernel
theorem dX11_fault_8 : decode cX11_fault 8 = .ok (.ireturn, 1) := by decide +kernel
theorem dX11_fault_9 : decode cX11_fault 9 = .ok (.iload_n 1, 1) := by decide +kernel
theorem dX11_fault_10 : decode cX11_fault 10 = .ok (.iconst 1, 1) := by decide +kernel
theorem dX11_fault_11 : decode cX11_fault 11 = .ok (.if_icmp .ne 10, 3) := by decide +kernel
theorem dX11_fault_14 : decode cX11_fault 14 = .ok (.aload_n 0, 1) := by decide +kernel
theorem dX11_fault_15 : decode cX11_fault 15 = .ok (.getfield 57, 3) := by decide +kernel
theorem dX11_fault_18 : decode cX11_fault 18 = .ok (.goto 4, 3) := by decide +kernel
theorem dX11_fault_21 : decode cX11_fault 21 = .ok (.iconst (-1), 1) := by decide +kernel
theorem dX11_fault_22 : decode cX11_fault 22 = .ok (.ireturn, 1) := by decide +kernel
abbrev M_X11_fault : MT := (yX11_fault, cX11_fault, 2, (some .int))
theorem cf_X11_fault : fq_cf M_X11_fault 1 := ⟨(mg_1 (List.mem_of_getElem? (i := 1) rfl) rfl), (mg_4 (List.mem_of_getElem? (i := 158) rfl) rfl), ⟨by decide, by decide, by decide +kernel⟩, by decide⟩
def B_X11_fault_22 (G : GT) (mc ms : Nat) (Q : Post) : Cn := ix_iret mc ms Q
theorem b_X11_fault_22 {l : Launch} {G : GT} {D mc ms : Nat} {Q : Post} : Imp l G M_X11_fault (D + 0) mc ms Q (B_X11_fault_22 G mc ms Q) 22 := sx_iret dX11_fault_22 rfl
def B_X11_fault_0 (G : GT) (mc ms : Nat) (Q : Post) : Cn := ix_iload 1 (ix_if_ne (ix_iload 1 (ix_pushI 1 (ix_icmp_ne (ix_pushI (-1) ((B_X11_fault_22 G mc ms Q))) (ix_aload 0 (ix_getI 11 12 ((B_X11_fault_22 G mc ms Q))))))) (ix_aload 0 (ix_getI 11 11 (ix_iret mc ms Q))))
theorem b_X11_fault_0 {l : Launch} {G : GT} {D mc ms : Nat} {Q : Post} : Imp l G M_X11_fault (D + 0) mc ms Q (B_X11_fault_0 G mc ms Q) 0 := sx_iload_n dX11_fault_0 rfl (sx_if_ne 9 dX11_fault_1 (by decide) (sx_iload_n dX11_fault_9 rfl (sx_iconst dX11_fault_10 rfl (sx_icmp_ne 21 dX11_fault_11 (by decide) (sx_iconst dX11_fault_21 rfl (b_X11_fault_22)) (sx_aload_n dX11_fault_14 rfl (sx_getI dX11_fault_15 fl_FootQuarrel_57 (fun _ _ _ => rfl) (sx_goto 22 dX11_fault_18 (by decide) (b_X11_fault_22))))))) (sx_aload_n dX11_fault_4 rfl (sx_getI dX11_fault_5 fl_FootQuarrel_53 (fun _ _ _ => rfl) (sx_iret dX11_fault_8 rfl))))
def sp_X11_fault (G : GT) : Sp := fun as S I J z Q => match as with
  | [.ref a0, .int a1] => B_X11_fault_0 G 0 0 Q [some (.ref a0), some (.int a1)] [] S I J z 0 0
  | _ => False
theorem c_X11_fault {l : Launch} {G : GT} {D : Nat} : ∀ as S I J z Q, sp_X11_fault G as S I J z Q → fqCall l G M_X11_fault (D + 0) 0 0 as S I J z Q := by
  intro as S I J z Q h
  unfold sp_X11_fault at h
  split at h
  · exact fq_enter _ (by decide +kernel) (Nat.le_of_ble_eq_true rfl) rfl (b_X11_fault_0 _ _ _ _ _ _ _ _ h)
  · exact h.elim
def sp_X11_isWithin (G : GT) : Sp := fun as S I J z Q => match as with
  | [.int a, .int b, .int c] => Q (some (.int (bI (b ≤ a ∧ a ≤ c)))) S I J z
  | _ => False
set_option maxHeartbeats 4000000 in
set_option maxRecDepth 20000 in
theorem c_X11_isWithin {l : Launch} {G : GT} {D : Nat} : ∀ as S I J z Q, sp_X11_isWithin G as S I J z Q → fqCall l G M_X11_isWithin (D + 0) 0 0 as S I J z Q := by
  intro as S I J z Q h
  unfold sp_X11_isWithin at h
  split at h
  · next a b c =>
    refine fq_enter [some (.int a), some (.int b), some (.int c)] (by decide +kernel) (Nat.le_of_ble_eq_true rfl) rfl (b_X11_isWithin_0 _ _ _ _ _ _ _ _ ?_)
    simp (disch := omega) only [B_X11_isWithin_0, B_X11_isWithin_14, B_X11_isWithin_15, nI_1, nI_add, nI_clamp, nI_pin, nI_neg, nI_nonneg, nI_leE, nI_ltE, nI_eqE, Nat.not_le, Nat.not_lt, fq_10, fq_01, fq_rr, ix_aald, ix_aast, ix_abs, ix_alen, ix_aload, ix_aret, ix_astore, ix_bald, ix_bast, ix_call, ix_cpyI, ix_cpyJ, ix_dead, ix_dup2, ix_dup2L, ix_dupI, ix_dupR, ix_dupx1, ix_getI, ix_getJ, ix_getR, ix_gfm, ix_gtab, ix_i2b, ix_i2c, ix_i2l, ix_i2s, ix_iadd, ix_iald, ix_iand, ix_iast, ix_icall, ix_icmp_eq, ix_icmp_ge, ix_icmp_gt, ix_icmp_le, ix_icmp_lt, ix_icmp_ne, ix_idiv, ix_if_eq, ix_if_ge, ix_if_gt, ix_if_le, ix_if_lt, ix_if_ne, ix_iinc, ix_iload, ix_imul, ix_ineg, ix_ior, ix_irem, ix_iret, ix_ishl, ix_ishr, ix_istore, ix_isub, ix_iushr, ix_ixor, ix_l2i, ix_ladd, ix_lald, ix_land, ix_last, ix_lcmp, ix_ldcS, ix_ldiv, ix_lload, ix_lmul, ix_lor, ix_lrem, ix_lret, ix_lshl, ix_lstore, ix_lsub, ix_lsw, ix_max, ix_min, ix_new, ix_newa, ix_nret, ix_oinit, ix_pop2L, ix_popI, ix_pushI, ix_pushL, ix_putI, ix_putJ, ix_putR, ix_putZ, ix_sbald, ix_sgetC, ix_sgetV, ix_slen, ix_strc, ix_tald, ix_tsw, ix_vcall, ix_vret, ix_zret, stL, stL2, kilL, popN, fq_sw, fq_lsw, List.map_cons, List.map_nil, List.getElem?_cons_zero, List.getElem?_cons_succ, Option.toList_some, Option.toList_none, List.cons_append, List.nil_append, List.length_cons, List.length_nil, List.sum_cons, List.sum_nil, cat_i, cat_l, cat_r, true_and, and_true, Nat.zero_add, Nat.add_zero, Nat.le_refl, Nat.zero_le, Nat.reduceAdd, Nat.reduceLeDiff, exists_eq_left', Option.some.injEq, not_true_eq_false, not_false_eq_true, false_implies, true_implies, implies_true, and_self, or_true, true_or, or_false, false_or]
    refine ⟨fun h1 => ?_, fun h1 => ⟨fun h2 => ?_, fun h2 => ?_⟩⟩
    · rw [bI_f (fun q => Int32.not_le.mpr h1 q.1)] at h
      exact h
    · rw [bI_f (fun q => Int32.not_le.mpr h2 q.2)] at h
      exact h
    · rw [bI_t ⟨Int32.not_lt.mp h1, Int32.not_lt.mp h2⟩] at h
      exact h
  · exact h.elim
def sp_X11_oneIf (G : GT) : Sp := fun as S I J z Q => match as with
  | [.int a] => Q (some (.int (bI (¬ a = 0)))) S I J z
  | _ => False
set_option maxHeartbeats 4000000 in
set_option maxRecDepth 20000 in
theorem c_X11_oneIf {l : Launch} {G : GT} {D : Nat} : ∀ as S I J z Q, sp_X11_oneIf G as S I J z Q → fqCall l G M_X11_oneIf (D + 0) 0 0 as S I J z Q := by
  intro as S I J z Q h
  unfold sp_X11_oneIf at h
  split at h
  · next a =>
    refine fq_enter [some (.int a)] (by decide +kernel) (Nat.le_of_ble_eq_true rfl) rfl (b_X11_oneIf_0 _ _ _ _ _ _ _ _ ?_)
    simp (disch := omega) only [B_X11_oneIf_0, B_X11_oneIf_9, nI_1, nI_add, nI_clamp, nI_pin, nI_neg, nI_nonneg, nI_leE, nI_ltE, nI_eqE, Nat.not_le, Nat.not_lt, fq_10, fq_01, fq_rr, ix_aald, ix_aast, ix_abs, ix_alen, ix_aload, ix_aret, ix_astore, ix_bald, ix_bast, ix_call, ix_cpyI, ix_cpyJ, ix_dead, ix_dup2, ix_dup2L, ix_dupI, ix_dupR, ix_dupx1, ix_getI, ix_getJ, ix_getR, ix_gfm, ix_gtab, ix_i2b, ix_i2c, ix_i2l, ix_i2s, ix_iadd, ix_iald, ix_iand, ix_iast, ix_icall, ix_icmp_eq, ix_icmp_ge, ix_icmp_gt, ix_icmp_le, ix_icmp_lt, ix_icmp_ne, ix_idiv, ix_if_eq, ix_if_ge, ix_if_gt, ix_if_le, ix_if_lt, ix_if_ne, ix_iinc, ix_iload, ix_imul, ix_ineg, ix_ior, ix_irem, ix_iret, ix_ishl, ix_ishr, ix_istore, ix_isub, ix_iushr, ix_ixor, ix_l2i, ix_ladd, ix_lald, ix_land, ix_last, ix_lcmp, ix_ldcS, ix_ldiv, ix_lload, ix_lmul, ix_lor, ix_lrem, ix_lret, ix_lshl, ix_lstore, ix_lsub, ix_lsw, ix_max, ix_min, ix_new, ix_newa, ix_nret, ix_oinit, ix_pop2L, ix_popI, ix_pushI, ix_pushL, ix_putI, ix_putJ, ix_putR, ix_putZ, ix_sbald, ix_sgetC, ix_sgetV, ix_slen, ix_strc, ix_tald, ix_tsw, ix_vcall, ix_vret, ix_zret, stL, stL2, kilL, popN, fq_sw, fq_lsw, List.map_cons, List.map_nil, List.getElem?_cons_zero, List.getElem?_cons_succ, Option.toList_some, Option.toList_none, List.cons_append, List.nil_append, List.length_cons, List.length_nil, List.sum_cons, List.sum_nil, cat_i, cat_l, cat_r, true_and, and_true, Nat.zero_add, Nat.add_zero, Nat.le_refl, Nat.zero_le, Nat.reduceAdd, Nat.reduceLeDiff, exists_eq_left', Option.some.injEq, not_true_eq_false, not_false_eq_true, false_implies, true_implies, implies_true, and_self, or_true, true_or, or_false, false_or]
    refine ⟨fun h1 => ?_, fun h1 => ?_⟩
    · rw [bI_f (fun q => q h1)] at h
      exact h
    · rw [bI_t h1] at h
      exact h
  · exact h.elim
def sp_X6_isAtPeace (G : GT) : Sp := fun as S I J z Q => match as with
  | [.ref s, .int w] => S.1 s = 6 ∧ Q (some (.int (bI (I s 13 >>> (w &&& 31) &&& 1 = 1)))) S I J z
  | _ => False
set_option maxHeartbeats 4000000 in
set_option maxRecDepth 20000 in
theorem c_X6_isAtPeace {l : Launch} {G : GT} {D : Nat} : ∀ as S I J z Q, sp_X6_isAtPeace G as S I J z Q → fqCall l G M_X6_isAtPeace (D + 0) 0 0 as S I J z Q := by
  intro as S I J z Q h
  unfold sp_X6_isAtPeace at h
  split at h
  · next s w =>
    refine fq_enter [some (.ref s), some (.int w)] (by decide +kernel) (Nat.le_of_ble_eq_true rfl) rfl (b_X6_isAtPeace_0 _ _ _ _ _ _ _ _ ?_)
    simp (disch := omega) only [B_X6_isAtPeace_0, B_X6_isAtPeace_17, h.1, nI_1, nI_add, nI_clamp, nI_pin, nI_neg, nI_nonneg, nI_leE, nI_ltE, nI_eqE, Nat.not_le, Nat.not_lt, fq_10, fq_01, fq_rr, ix_aald, ix_aast, ix_abs, ix_alen, ix_aload, ix_aret, ix_astore, ix_bald, ix_bast, ix_call, ix_cpyI, ix_cpyJ, ix_dead, ix_dup2, ix_dup2L, ix_dupI, ix_dupR, ix_dupx1, ix_getI, ix_getJ, ix_getR, ix_gfm, ix_gtab, ix_i2b, ix_i2c, ix_i2l, ix_i2s, ix_iadd, ix_iald, ix_iand, ix_iast, ix_icall, ix_icmp_eq, ix_icmp_ge, ix_icmp_gt, ix_icmp_le, ix_icmp_lt, ix_icmp_ne, ix_idiv, ix_if_eq, ix_if_ge, ix_if_gt, ix_if_le, ix_if_lt, ix_if_ne, ix_iinc, ix_iload, ix_imul, ix_ineg, ix_ior, ix_irem, ix_iret, ix_ishl, ix_ishr, ix_istore, ix_isub, ix_iushr, ix_ixor, ix_l2i, ix_ladd, ix_lald, ix_land, ix_last, ix_lcmp, ix_ldcS, ix_ldiv, ix_lload, ix_lmul, ix_lor, ix_lrem, ix_lret, ix_lshl, ix_lstore, ix_lsub, ix_lsw, ix_max, ix_min, ix_new, ix_newa, ix_nret, ix_oinit, ix_pop2L, ix_popI, ix_pushI, ix_pushL, ix_putI, ix_putJ, ix_putR, ix_putZ, ix_sbald, ix_sgetC, ix_sgetV, ix_slen, ix_strc, ix_tald, ix_tsw, ix_vcall, ix_vret, ix_zret, stL, stL2, kilL, popN, fq_sw, fq_lsw, List.map_cons, List.map_nil, List.getElem?_cons_zero, List.getElem?_cons_succ, Option.toList_some, Option.toList_none, List.cons_append, List.nil_append, List.length_cons, List.length_nil, List.sum_cons, List.sum_nil, cat_i, cat_l, cat_r, true_and, and_true, Nat.zero_add, Nat.add_zero, Nat.le_refl, Nat.zero_le, Nat.reduceAdd, Nat.reduceLeDiff, exists_eq_left', Option.some.injEq, not_true_eq_false, not_false_eq_true, false_implies, true_implies, implies_true, and_self, or_true, true_or, or_false, false_or]
    refine ⟨fun h1 => ?_, fun h1 => ?_⟩
    · have h2 := h.2
      rw [bI_f h1] at h2
      exact h2
    · have h2 := h.2
      rw [bI_t h1] at h2
      exact h2
  · exact h.elim
def sp_X2_catches (G : GT) : Sp := fun as S I J z Q => match as with
  | [.ref p, .int v] => S.1 p = 2 ∧ Q (some (.int (bI (10 ≤ v + I p 3)))) S I J z
  | _ => False
set_option maxHeartbeats 4000000 in
set_option maxRecDepth 20000 in
theorem c_X2_catches {l : Launch} {G : GT} {D : Nat} : ∀ as S I J z Q, sp_X2_catches G as S I J z Q → fqCall l G M_X2_catches (D + 0) 0 0 as S I J z Q := by
  intro as S I J z Q h
  unfold sp_X2_catches at h
  split at h
  · next p v =>
    refine fq_enter [some (.ref p), some (.int v)] (by decide +kernel) (Nat.le_of_ble_eq_true rfl) rfl (b_X2_catches_0 _ _ _ _ _ _ _ _ ?_)
    simp (disch := omega) only [B_X2_catches_0, B_X2_catches_16, h.1, nI_1, nI_add, nI_clamp, nI_pin, nI_neg, nI_nonneg, nI_leE, nI_ltE, nI_eqE, Nat.not_le, Nat.not_lt, fq_10, fq_01, fq_rr, ix_aald, ix_aast, ix_abs, ix_alen, ix_aload, ix_aret, ix_astore, ix_bald, ix_bast, ix_call, ix_cpyI, ix_cpyJ, ix_dead, ix_dup2, ix_dup2L, ix_dupI, ix_dupR, ix_dupx1, ix_getI, ix_getJ, ix_getR, ix_gfm, ix_gtab, ix_i2b, ix_i2c, ix_i2l, ix_i2s, ix_iadd, ix_iald, ix_iand, ix_iast, ix_icall, ix_icmp_eq, ix_icmp_ge, ix_icmp_gt, ix_icmp_le, ix_icmp_lt, ix_icmp_ne, ix_idiv, ix_if_eq, ix_if_ge, ix_if_gt, ix_if_le, ix_if_lt, ix_if_ne, ix_iinc, ix_iload, ix_imul, ix_ineg, ix_ior, ix_irem, ix_iret, ix_ishl, ix_ishr, ix_istore, ix_isub, ix_iushr, ix_ixor, ix_l2i, ix_ladd, ix_lald, ix_land, ix_last, ix_lcmp, ix_ldcS, ix_ldiv, ix_lload, ix_lmul, ix_lor, ix_lrem, ix_lret, ix_lshl, ix_lstore, ix_lsub, ix_lsw, ix_max, ix_min, ix_new, ix_newa, ix_nret, ix_oinit, ix_pop2L, ix_popI, ix_pushI, ix_pushL, ix_putI, ix_putJ, ix_putR, ix_putZ, ix_sbald, ix_sgetC, ix_sgetV, ix_slen, ix_strc, ix_tald, ix_tsw, ix_vcall, ix_vret, ix_zret, stL, stL2, kilL, popN, fq_sw, fq_lsw, List.map_cons, List.map_nil, List.getElem?_cons_zero, List.getElem?_cons_succ, Option.toList_some, Option.toList_none, List.cons_append, List.nil_append, List.length_cons, List.length_nil, List.sum_cons, List.sum_nil, cat_i, cat_l, cat_r, true_and, and_true, Nat.zero_add, Nat.add_zero, Nat.le_refl, Nat.zero_le, Nat.reduceAdd, Nat.reduceLeDiff, exists_eq_left', Option.some.injEq, not_true_eq_false, not_false_eq_true, false_implies, true_implies, implies_true, and_self, or_true, true_or, or_false, false_or]
    refine ⟨fun h1 => ?_, fun h1 => ?_⟩
    · have h2 := h.2
      rw [bI_f (Int32.not_le.mpr h1)] at h2
      exact h2
    · have h2 := h.2
      rw [bI_t (Int32.not_lt.mp h1)] at h2
      exact h2
  · exact h.elim
def sp_X8_isMissing (G : GT) : Sp := fun as S I J z Q => match as with
  | [.ref p] => S.1 p = 8 ∧ Q (some (.int (bI (I p 1 = -1)))) S I J z
  | _ => False
set_option maxHeartbeats 4000000 in
set_option maxRecDepth 20000 in
theorem c_X8_isMissing {l : Launch} {G : GT} {D : Nat} : ∀ as S I J z Q, sp_X8_isMissing G as S I J z Q → fqCall l G M_X8_isMissing (D + 0) 0 0 as S I J z Q := by
  intro as S I J z Q h
  unfold sp_X8_isMissing at h
  split at h
  · next p =>
    refine fq_enter [some (.ref p)] (by decide +kernel) (Nat.le_of_ble_eq_true rfl) rfl (b_X8_isMissing_0 _ _ _ _ _ _ _ _ ?_)
    simp (disch := omega) only [B_X8_isMissing_0, B_X8_isMissing_13, h.1, nI_1, nI_add, nI_clamp, nI_pin, nI_neg, nI_nonneg, nI_leE, nI_ltE, nI_eqE, Nat.not_le, Nat.not_lt, fq_10, fq_01, fq_rr, ix_aald, ix_aast, ix_abs, ix_alen, ix_aload, ix_aret, ix_astore, ix_bald, ix_bast, ix_call, ix_cpyI, ix_cpyJ, ix_dead, ix_dup2, ix_dup2L, ix_dupI, ix_dupR, ix_dupx1, ix_getI, ix_getJ, ix_getR, ix_gfm, ix_gtab, ix_i2b, ix_i2c, ix_i2l, ix_i2s, ix_iadd, ix_iald, ix_iand, ix_iast, ix_icall, ix_icmp_eq, ix_icmp_ge, ix_icmp_gt, ix_icmp_le, ix_icmp_lt, ix_icmp_ne, ix_idiv, ix_if_eq, ix_if_ge, ix_if_gt, ix_if_le, ix_if_lt, ix_if_ne, ix_iinc, ix_iload, ix_imul, ix_ineg, ix_ior, ix_irem, ix_iret, ix_ishl, ix_ishr, ix_istore, ix_isub, ix_iushr, ix_ixor, ix_l2i, ix_ladd, ix_lald, ix_land, ix_last, ix_lcmp, ix_ldcS, ix_ldiv, ix_lload, ix_lmul, ix_lor, ix_lrem, ix_lret, ix_lshl, ix_lstore, ix_lsub, ix_lsw, ix_max, ix_min, ix_new, ix_newa, ix_nret, ix_oinit, ix_pop2L, ix_popI, ix_pushI, ix_pushL, ix_putI, ix_putJ, ix_putR, ix_putZ, ix_sbald, ix_sgetC, ix_sgetV, ix_slen, ix_strc, ix_tald, ix_tsw, ix_vcall, ix_vret, ix_zret, stL, stL2, kilL, popN, fq_sw, fq_lsw, List.map_cons, List.map_nil, List.getElem?_cons_zero, List.getElem?_cons_succ, Option.toList_some, Option.toList_none, List.cons_append, List.nil_append, List.length_cons, List.length_nil, List.sum_cons, List.sum_nil, cat_i, cat_l, cat_r, true_and, and_true, Nat.zero_add, Nat.add_zero, Nat.le_refl, Nat.zero_le, Nat.reduceAdd, Nat.reduceLeDiff, exists_eq_left', Option.some.injEq, not_true_eq_false, not_false_eq_true, false_implies, true_implies, implies_true, and_self, or_true, true_or, or_false, false_or]
    refine ⟨fun h1 => ?_, fun h1 => ?_⟩
    · have h2 := h.2
      rw [bI_f h1] at h2
      exact h2
    · have h2 := h.2
      rw [bI_t h1] at h2
      exact h2
  · exact h.elim
def sp_X8_spans (G : GT) : Sp := fun as S I J z Q => match as with
  | [.ref p, .int a, .int n] => S.1 p = 8 ∧ Q (some (.int (bI (a ≤ I p 1 ∧ n ≤ I p 1 - a)))) S I J z
  | _ => False
set_option maxHeartbeats 4000000 in
set_option maxRecDepth 20000 in
theorem c_X8_spans {l : Launch} {G : GT} {D : Nat} : ∀ as S I J z Q, sp_X8_spans G as S I J z Q → fqCall l G M_X8_spans (D + 0) 0 0 as S I J z Q := by
  intro as S I J z Q h
  unfold sp_X8_spans at h
  split at h
  · next p a n =>
    refine fq_enter [some (.ref p), some (.int a), some (.int n)] (by decide +kernel) (Nat.le_of_ble_eq_true rfl) rfl (b_X8_spans_0 _ _ _ _ _ _ _ _ ?_)
    simp (disch := omega) only [B_X8_spans_0, B_X8_spans_22, B_X8_spans_23, h.1, nI_1, nI_add, nI_clamp, nI_pin, nI_neg, nI_nonneg, nI_leE, nI_ltE, nI_eqE, Nat.not_le, Nat.not_lt, fq_10, fq_01, fq_rr, ix_aald, ix_aast, ix_abs, ix_alen, ix_aload, ix_aret, ix_astore, ix_bald, ix_bast, ix_call, ix_cpyI, ix_cpyJ, ix_dead, ix_dup2, ix_dup2L, ix_dupI, ix_dupR, ix_dupx1, ix_getI, ix_getJ, ix_getR, ix_gfm, ix_gtab, ix_i2b, ix_i2c, ix_i2l, ix_i2s, ix_iadd, ix_iald, ix_iand, ix_iast, ix_icall, ix_icmp_eq, ix_icmp_ge, ix_icmp_gt, ix_icmp_le, ix_icmp_lt, ix_icmp_ne, ix_idiv, ix_if_eq, ix_if_ge, ix_if_gt, ix_if_le, ix_if_lt, ix_if_ne, ix_iinc, ix_iload, ix_imul, ix_ineg, ix_ior, ix_irem, ix_iret, ix_ishl, ix_ishr, ix_istore, ix_isub, ix_iushr, ix_ixor, ix_l2i, ix_ladd, ix_lald, ix_land, ix_last, ix_lcmp, ix_ldcS, ix_ldiv, ix_lload, ix_lmul, ix_lor, ix_lrem, ix_lret, ix_lshl, ix_lstore, ix_lsub, ix_lsw, ix_max, ix_min, ix_new, ix_newa, ix_nret, ix_oinit, ix_pop2L, ix_popI, ix_pushI, ix_pushL, ix_putI, ix_putJ, ix_putR, ix_putZ, ix_sbald, ix_sgetC, ix_sgetV, ix_slen, ix_strc, ix_tald, ix_tsw, ix_vcall, ix_vret, ix_zret, stL, stL2, kilL, popN, fq_sw, fq_lsw, List.map_cons, List.map_nil, List.getElem?_cons_zero, List.getElem?_cons_succ, Option.toList_some, Option.toList_none, List.cons_append, List.nil_append, List.length_cons, List.length_nil, List.sum_cons, List.sum_nil, cat_i, cat_l, cat_r, true_and, and_true, Nat.zero_add, Nat.add_zero, Nat.le_refl, Nat.zero_le, Nat.reduceAdd, Nat.reduceLeDiff, exists_eq_left', Option.some.injEq, not_true_eq_false, not_false_eq_true, false_implies, true_implies, implies_true, and_self, or_true, true_or, or_false, false_or]
    have h2 := h.2
    refine ⟨fun h1 => ?_, fun h1 => ⟨fun h3 => ?_, fun h3 => ?_⟩⟩
    · rw [bI_f (fun q => Int32.not_le.mpr h1 q.1)] at h2
      exact h2
    · rw [bI_f (fun q => Int32.not_le.mpr h3 q.2)] at h2
      exact h2
    · rw [bI_t ⟨Int32.not_lt.mp h1, Int32.not_lt.mp h3⟩] at h2
      exact h2
  · exact h.elim
/-- the first n places of a row are 0 -/
def zrU (J : JH) (a n : Nat) : JH := fun b k => if b = a ∧ k < n then 0 else J b k
def sp_X8_renew (G : GT) : Sp := fun as S I J z Q => match as with
  | [.ref p, .int so, .int m] => S.1 p = 8 ∧ S.2.2 p 0 = some (p + 1) ∧ S.1 (p + 1) = 15 ∧ S.2.1 (p + 1) = 60 ∧ okN m 60 ∧ Q none S (u2 (u2 I p 2 so) p 1 m) (zrU J (p + 1) m.toNatClampNeg) z
  | _ => False
set_option maxHeartbeats 4000000 in
set_option maxRecDepth 20000 in
theorem c_X8_renew {l : Launch} {G : GT} {D : Nat} : ∀ as S I J z Q, sp_X8_renew G as S I J z Q → fqCall l G M_X8_renew (D + 0) 0 0 as S I J z Q := by
  intro as S I J z Q h
  unfold sp_X8_renew at h
  split at h
  · next p so m =>
    obtain ⟨h1, h2, h3, h4, h5, hQ⟩ := h
    obtain ⟨c, hc, rfl, hc2⟩ := h5.ex
    rw [hc2] at hQ
    have lp : ∀ (n i : Nat) (J' : JH), i + n = c → J' = zrU J (p + 1) i → fqAt l G M_X8_renew (D + 0) 0 0 Q 12 [some (.ref p), some (.int so), some (.int (nI c)), some (.int (nI i))] [] S (u2 (u2 I p 2 so) p 1 (nI c)) J' z 0 0 := by
      intro n
      induction n with
      | zero =>
        intro i J' hi hJ
        refine b_X8_renew_12 _ _ _ _ _ _ _ _ ?_
        simp (disch := omega) only [B_X8_renew_0, B_X8_renew_12, h1, h2, h3, h4, nI_1, nI_add, nI_clamp, nI_pin, nI_neg, nI_nonneg, nI_leE, nI_ltE, nI_eqE, Nat.not_le, Nat.not_lt, fq_10, fq_01, fq_rr, ix_aald, ix_aast, ix_abs, ix_alen, ix_aload, ix_aret, ix_astore, ix_bald, ix_bast, ix_call, ix_cpyI, ix_cpyJ, ix_dead, ix_dup2, ix_dup2L, ix_dupI, ix_dupR, ix_dupx1, ix_getI, ix_getJ, ix_getR, ix_gfm, ix_gtab, ix_i2b, ix_i2c, ix_i2l, ix_i2s, ix_iadd, ix_iald, ix_iand, ix_iast, ix_icall, ix_icmp_eq, ix_icmp_ge, ix_icmp_gt, ix_icmp_le, ix_icmp_lt, ix_icmp_ne, ix_idiv, ix_if_eq, ix_if_ge, ix_if_gt, ix_if_le, ix_if_lt, ix_if_ne, ix_iinc, ix_iload, ix_imul, ix_ineg, ix_ior, ix_irem, ix_iret, ix_ishl, ix_ishr, ix_istore, ix_isub, ix_iushr, ix_ixor, ix_l2i, ix_ladd, ix_lald, ix_land, ix_last, ix_lcmp, ix_ldcS, ix_ldiv, ix_lload, ix_lmul, ix_lor, ix_lrem, ix_lret, ix_lshl, ix_lstore, ix_lsub, ix_lsw, ix_max, ix_min, ix_new, ix_newa, ix_nret, ix_oinit, ix_pop2L, ix_popI, ix_pushI, ix_pushL, ix_putI, ix_putJ, ix_putR, ix_putZ, ix_sbald, ix_sgetC, ix_sgetV, ix_slen, ix_strc, ix_tald, ix_tsw, ix_vcall, ix_vret, ix_zret, stL, stL2, kilL, popN, fq_sw, fq_lsw, List.map_cons, List.map_nil, List.getElem?_cons_zero, List.getElem?_cons_succ, Option.toList_some, Option.toList_none, List.cons_append, List.nil_append, List.length_cons, List.length_nil, List.sum_cons, List.sum_nil, cat_i, cat_l, cat_r, true_and, and_true, Nat.zero_add, Nat.add_zero, Nat.le_refl, Nat.zero_le, Nat.reduceAdd, Nat.reduceLeDiff, exists_eq_left', Option.some.injEq, not_true_eq_false, not_false_eq_true, false_implies, true_implies, implies_true, and_self, or_true, true_or, or_false, false_or]
        refine ⟨fun _ => ?_, fun h => absurd h (by omega)⟩
        rw [hJ, show i = c by omega]
        exact hQ
      | succ n ih =>
        intro i J' hi hJ
        refine b_X8_renew_12 _ _ _ _ _ _ _ _ ?_
        simp (disch := omega) only [B_X8_renew_0, B_X8_renew_12, h1, h2, h3, h4, nI_1, nI_add, nI_clamp, nI_pin, nI_neg, nI_nonneg, nI_leE, nI_ltE, nI_eqE, Nat.not_le, Nat.not_lt, fq_10, fq_01, fq_rr, ix_aald, ix_aast, ix_abs, ix_alen, ix_aload, ix_aret, ix_astore, ix_bald, ix_bast, ix_call, ix_cpyI, ix_cpyJ, ix_dead, ix_dup2, ix_dup2L, ix_dupI, ix_dupR, ix_dupx1, ix_getI, ix_getJ, ix_getR, ix_gfm, ix_gtab, ix_i2b, ix_i2c, ix_i2l, ix_i2s, ix_iadd, ix_iald, ix_iand, ix_iast, ix_icall, ix_icmp_eq, ix_icmp_ge, ix_icmp_gt, ix_icmp_le, ix_icmp_lt, ix_icmp_ne, ix_idiv, ix_if_eq, ix_if_ge, ix_if_gt, ix_if_le, ix_if_lt, ix_if_ne, ix_iinc, ix_iload, ix_imul, ix_ineg, ix_ior, ix_irem, ix_iret, ix_ishl, ix_ishr, ix_istore, ix_isub, ix_iushr, ix_ixor, ix_l2i, ix_ladd, ix_lald, ix_land, ix_last, ix_lcmp, ix_ldcS, ix_ldiv, ix_lload, ix_lmul, ix_lor, ix_lrem, ix_lret, ix_lshl, ix_lstore, ix_lsub, ix_lsw, ix_max, ix_min, ix_new, ix_newa, ix_nret, ix_oinit, ix_pop2L, ix_popI, ix_pushI, ix_pushL, ix_putI, ix_putJ, ix_putR, ix_putZ, ix_sbald, ix_sgetC, ix_sgetV, ix_slen, ix_strc, ix_tald, ix_tsw, ix_vcall, ix_vret, ix_zret, stL, stL2, kilL, popN, fq_sw, fq_lsw, List.map_cons, List.map_nil, List.getElem?_cons_zero, List.getElem?_cons_succ, Option.toList_some, Option.toList_none, List.cons_append, List.nil_append, List.length_cons, List.length_nil, List.sum_cons, List.sum_nil, cat_i, cat_l, cat_r, true_and, and_true, Nat.zero_add, Nat.add_zero, Nat.le_refl, Nat.zero_le, Nat.reduceAdd, Nat.reduceLeDiff, exists_eq_left', Option.some.injEq, not_true_eq_false, not_false_eq_true, false_implies, true_implies, implies_true, and_self, or_true, true_or, or_false, false_or]
        refine ⟨fun h => absurd h (by omega), fun _ => ih (i + 1) _ (by omega) ?_⟩
        rw [hJ]
        funext b k
        unfold u2 zrU
        by_cases hb : b = p + 1
        · by_cases hk : k = i
          · rw [if_pos ⟨hb, hk⟩, if_pos ⟨hb, by omega⟩]
          · rw [if_neg (fun q => hk q.2)]
            by_cases hk2 : k < i
            · rw [if_pos ⟨hb, hk2⟩, if_pos ⟨hb, by omega⟩]
            · rw [if_neg (fun q => hk2 q.2), if_neg (fun q => by omega)]
        · rw [if_neg (fun q => hb q.1), if_neg (fun q => hb q.1), if_neg (fun q => hb q.1)]
    refine fq_enter [some (.ref p), some (.int so), some (.int (nI c)), none] (by decide +kernel) (Nat.le_of_ble_eq_true rfl) rfl (b_X8_renew_0 _ _ _ _ _ _ _ _ ?_)
    simp (disch := omega) only [B_X8_renew_0, B_X8_renew_12, h1, h2, h3, h4, nI_1, nI_add, nI_clamp, nI_pin, nI_neg, nI_nonneg, nI_leE, nI_ltE, nI_eqE, Nat.not_le, Nat.not_lt, fq_10, fq_01, fq_rr, ix_aald, ix_aast, ix_abs, ix_alen, ix_aload, ix_aret, ix_astore, ix_bald, ix_bast, ix_call, ix_cpyI, ix_cpyJ, ix_dead, ix_dup2, ix_dup2L, ix_dupI, ix_dupR, ix_dupx1, ix_getI, ix_getJ, ix_getR, ix_gfm, ix_gtab, ix_i2b, ix_i2c, ix_i2l, ix_i2s, ix_iadd, ix_iald, ix_iand, ix_iast, ix_icall, ix_icmp_eq, ix_icmp_ge, ix_icmp_gt, ix_icmp_le, ix_icmp_lt, ix_icmp_ne, ix_idiv, ix_if_eq, ix_if_ge, ix_if_gt, ix_if_le, ix_if_lt, ix_if_ne, ix_iinc, ix_iload, ix_imul, ix_ineg, ix_ior, ix_irem, ix_iret, ix_ishl, ix_ishr, ix_istore, ix_isub, ix_iushr, ix_ixor, ix_l2i, ix_ladd, ix_lald, ix_land, ix_last, ix_lcmp, ix_ldcS, ix_ldiv, ix_lload, ix_lmul, ix_lor, ix_lrem, ix_lret, ix_lshl, ix_lstore, ix_lsub, ix_lsw, ix_max, ix_min, ix_new, ix_newa, ix_nret, ix_oinit, ix_pop2L, ix_popI, ix_pushI, ix_pushL, ix_putI, ix_putJ, ix_putR, ix_putZ, ix_sbald, ix_sgetC, ix_sgetV, ix_slen, ix_strc, ix_tald, ix_tsw, ix_vcall, ix_vret, ix_zret, stL, stL2, kilL, popN, fq_sw, fq_lsw, List.map_cons, List.map_nil, List.getElem?_cons_zero, List.getElem?_cons_succ, Option.toList_some, Option.toList_none, List.cons_append, List.nil_append, List.length_cons, List.length_nil, List.sum_cons, List.sum_nil, cat_i, cat_l, cat_r, true_and, and_true, Nat.zero_add, Nat.add_zero, Nat.le_refl, Nat.zero_le, Nat.reduceAdd, Nat.reduceLeDiff, exists_eq_left', Option.some.injEq, not_true_eq_false, not_false_eq_true, false_implies, true_implies, implies_true, and_self, or_true, true_or, or_false, false_or]
    refine lp c 0 J (by omega) ?_
    funext b k
    unfold zrU
    rw [if_neg (fun q => by omega)]
  · exact h.elim
theorem dX2_wouldShout_0 : decode cX2_wouldShout 0 = .ok (.aload_n 0, 1) := by decide +kernel
theorem dX2_wouldShout_1 : decode cX2_wouldShout 1 = .ok (.iload_n 1, 1) := by decide +kernel
theorem dX2_wouldShout_2 : decode cX2_wouldShout 2 = .ok (.invokevirtual 35, 3) := by decide +kernel
theorem dX2_wouldShout_5 : decode cX2_wouldShout 5 = .ok (.ifCond .eq 20, 3) := by decide +kernel
theorem dX2_wouldShout_8 : decode cX2_wouldShout 8 = .ok (.aload_n 0, 1) := by decide +kernel
theorem dX2_wouldShout_9 : decode cX2_wouldShout 9 = .ok (.getfield 29, 3) := by decide +kernel
theorem dX2_wouldShout_12 : decode cX2_wouldShout 12 = .ok (.iload_n 1, 1) := by decide +kernel
theorem dX2_wouldShout_13 : decode cX2_wouldShout 13 = .ok (.iadd, 1) := by decide +kernel
theorem dX2_wouldShout_14 : decode cX2_wouldShout 14 = .ok (.aload_n 0, 1) := by decide +kernel
theorem dX2_wouldShout_15 : decode cX2_wouldShout 15 = .ok (.getfield 17, 3) := by decide +kernel
theorem dX2_wouldShout_18 : decode cX2_wouldShout 18 = .ok (.if_icmp .le 7, 3) := by decide +kernel
theorem dX2_wouldShout_21 : decode cX2_wouldShout 21 = .ok (.iconst 1, 1) := by decide +kernel
theorem dX2_wouldShout_22 : decode cX2_wouldShout 22 = .ok (.goto 4, 3) := by decide +kernel
theorem dX2_wouldShout_25 : decode cX2_wouldShout 25 = .ok (.iconst 0, 1) := by decide +kernel
theorem dX2_wouldShout_26 : decode cX2_wouldShout 26 = .ok (.ireturn, 1) := by decide +kernel
abbrev M_X2_wouldShout : MT := (yX2_wouldShout, cX2_wouldShout, 2, (some .boolean))
theorem cf_X2_wouldShout : fq_cf M_X2_wouldShout 1 := ⟨(mg_1 (List.mem_of_getElem? (i := 11) rfl) rfl), (mg_5 (List.mem_of_getElem? (i := 184) rfl) rfl), ⟨by decide, by decide, by decide +kernel⟩, by decide⟩
def B_X2_wouldShout_26 (G : GT) (mc ms : Nat) (Q : Post) : Cn := ix_zret mc ms Q
theorem b_X2_wouldShout_26 {l : Launch} {G : GT} {D mc ms : Nat} {Q : Post} : Imp l G M_X2_wouldShout (D + 1) mc ms Q (B_X2_wouldShout_26 G mc ms Q) 26 := sx_zret dX2_wouldShout_26 rfl
def B_X2_wouldShout_25 (G : GT) (mc ms : Nat) (Q : Post) : Cn := ix_pushI 0 ((B_X2_wouldShout_26 G mc ms Q))
theorem b_X2_wouldShout_25 {l : Launch} {G : GT} {D mc ms : Nat} {Q : Post} : Imp l G M_X2_wouldShout (D + 1) mc ms Q (B_X2_wouldShout_25 G mc ms Q) 25 := sx_iconst dX2_wouldShout_25 rfl (b_X2_wouldShout_26)
def B_X2_wouldShout_0 (G : GT) (mc ms : Nat) (Q : Post) : Cn := ix_aload 0 (ix_iload 1 (ix_vcall 2 2 0 0 mc ms (sp_X2_catches G) (ix_if_eq ((B_X2_wouldShout_25 G mc ms Q)) (ix_aload 0 (ix_getI 2 6 (ix_iload 1 (ix_iadd (ix_aload 0 (ix_getI 2 2 (ix_icmp_le ((B_X2_wouldShout_25 G mc ms Q)) (ix_pushI 1 ((B_X2_wouldShout_26 G mc ms Q)))))))))))))
theorem b_X2_wouldShout_0 {l : Launch} {G : GT} {D mc ms : Nat} {Q : Post} : Imp l G M_X2_wouldShout (D + 1) mc ms Q (B_X2_wouldShout_0 G mc ms Q) 0 := sx_aload_n dX2_wouldShout_0 rfl (sx_iload_n dX2_wouldShout_1 rfl (sx_vcall dX2_wouldShout_2 cf_X2_catches (mg_5 (List.mem_of_getElem? (i := 43) rfl) rfl) (mg_5 (List.mem_of_getElem? (i := 44) rfl) rfl) (mg_5 (List.mem_of_getElem? (i := 45) rfl) rfl) rfl c_X2_catches (sx_if_eq 25 dX2_wouldShout_5 (by decide) (b_X2_wouldShout_25) (sx_aload_n dX2_wouldShout_8 rfl (sx_getI dX2_wouldShout_9 fl_FootQuarrel_Person_29 (fun _ _ _ => rfl) (sx_iload_n dX2_wouldShout_12 rfl (sx_iadd dX2_wouldShout_13 (sx_aload_n dX2_wouldShout_14 rfl (sx_getI dX2_wouldShout_15 fl_FootQuarrel_Person_17 (fun _ _ _ => rfl) (sx_icmp_le 25 dX2_wouldShout_18 (by decide) (b_X2_wouldShout_25) (sx_iconst dX2_wouldShout_21 rfl (sx_goto 26 dX2_wouldShout_22 (by decide) (b_X2_wouldShout_26)))))))))))))
theorem dX5_loudness_0 : decode cX5_loudness 0 = .ok (.iload_n 1, 1) := by decide +kernel
theorem dX5_loudness_1 : decode cX5_loudness 1 = .ok (.ifCond .eq 13, 3) := by decide +kernel
theorem dX5_loudness_4 : decode cX5_loudness 4 = .ok (.iconst 0, 1) := by decide +kernel
theorem dX5_loudness_5 : decode cX5_loudness 5 = .ok (.iload_n 0, 1) := by decide +kernel
theorem dX5_loudness_6 : decode cX5_loudness 6 = .ok (.iconst 2, 1) := by decide +kernel
theorem dX5_loudness_7 : decode cX5_loudness 7 = .ok (.isub, 1) := by decide +kernel
theorem dX5_loudness_8 : decode cX5_loudness 8 = .ok (.invokestatic 52, 3) := by decide +kernel
theorem dX5_loudness_11 : decode cX5_loudness 11 = .ok (.goto 4, 3) := by decide +kernel
theorem dX5_loudness_14 : decode cX5_loudness 14 = .ok (.iload_n 0, 1) := by decide +kernel
theorem dX5_loudness_15 : decode cX5_loudness 15 = .ok (.ireturn, 1) := by decide +kernel
abbrev M_X5_loudness : MT := (yX5_loudness, cX5_loudness, 2, (some .int))
theorem cf_X5_loudness : fq_cf M_X5_loudness 2 := ⟨(mg_1 (List.mem_of_getElem? (i := 10) rfl) rfl), (mg_5 (List.mem_of_getElem? (i := 37) rfl) rfl), ⟨by decide, by decide, by decide +kernel⟩, by decide⟩
def B_X5_loudness_15 (G : GT) (mc ms : Nat) (Q : Post) : Cn := ix_iret mc ms Q
theorem b_X5_loudness_15 {l : Launch} {G : GT} {D mc ms : Nat} {Q : Post} : Imp l G M_X5_loudness (D + 1) mc ms Q (B_X5_loudness_15 G mc ms Q) 15 := sx_iret dX5_loudness_15 rfl
def B_X5_loudness_0 (G : GT) (mc ms : Nat) (Q : Post) : Cn := ix_iload 1 (ix_if_eq (ix_iload 0 ((B_X5_loudness_15 G mc ms Q))) (ix_pushI 0 (ix_iload 0 (ix_pushI 2 (ix_isub (ix_max mc ms ((B_X5_loudness_15 G mc ms Q))))))))
theorem b_X5_loudness_0 {l : Launch} {G : GT} {D mc ms : Nat} {Q : Post} : Imp l G M_X5_loudness (D + 1) mc ms Q (B_X5_loudness_0 G mc ms Q) 0 := sx_iload_n dX5_loudness_0 rfl (sx_if_eq 14 dX5_loudness_1 (by decide) (sx_iload_n dX5_loudness_14 rfl (b_X5_loudness_15)) (sx_iconst dX5_loudness_4 rfl (sx_iload_n dX5_loudness_5 rfl (sx_iconst dX5_loudness_6 rfl (sx_isub dX5_loudness_7 (sx_max dX5_loudness_8 (mg_5 (List.mem_of_getElem? (i := 38) rfl) rfl) (mg_4 (List.mem_of_getElem? (i := 199) rfl) rfl) (mg_1 (List.mem_of_getElem? (i := 18) rfl) rfl) (mg_4 (List.mem_of_getElem? (i := 200) rfl) rfl) (sx_goto 15 dX5_loudness_11 (by decide) (b_X5_loudness_15))))))))
theorem dX6_wallCount_0 : decode cX6_wallCount 0 = .ok (.iconst 0, 1) := by decide +kernel
theorem dX6_wallCount_1 : decode cX6_wallCount 1 = .ok (.aload_n 0, 1) := by decide +kernel
theorem dX6_wallCount_2 : decode cX6_wallCount 2 = .ok (.getfield 49, 3) := by decide +kernel
theorem dX6_wallCount_5 : decode cX6_wallCount 5 = .ok (.iconst 1, 1) := by decide +kernel
theorem dX6_wallCount_6 : decode cX6_wallCount 6 = .ok (.isub, 1) := by decide +kernel
theorem dX6_wallCount_7 : decode cX6_wallCount 7 = .ok (.invokestatic 106, 3) := by decide +kernel
theorem dX6_wallCount_10 : decode cX6_wallCount 10 = .ok (.ireturn, 1) := by decide +kernel
abbrev M_X6_wallCount : MT := (yX6_wallCount, cX6_wallCount, 1, (some .int))
theorem cf_X6_wallCount : fq_cf M_X6_wallCount 0 := ⟨(mg_1 (List.mem_of_getElem? (i := 8) rfl) rfl), (mg_4 (List.mem_of_getElem? (i := 197) rfl) rfl), ⟨by decide, by decide, by decide +kernel⟩, by decide⟩
def B_X6_wallCount_0 (G : GT) (mc ms : Nat) (Q : Post) : Cn := ix_pushI 0 (ix_aload 0 (ix_getI 6 5 (ix_pushI 1 (ix_isub (ix_max mc ms (ix_iret mc ms Q))))))
theorem b_X6_wallCount_0 {l : Launch} {G : GT} {D mc ms : Nat} {Q : Post} : Imp l G M_X6_wallCount (D + 1) mc ms Q (B_X6_wallCount_0 G mc ms Q) 0 := sx_iconst dX6_wallCount_0 rfl (sx_aload_n dX6_wallCount_1 rfl (sx_getI dX6_wallCount_2 fl_FootQuarrel_Street_49 (fun _ _ _ => rfl) (sx_iconst dX6_wallCount_5 rfl (sx_isub dX6_wallCount_6 (sx_max dX6_wallCount_7 (mg_4 (List.mem_of_getElem? (i := 198) rfl) rfl) (mg_4 (List.mem_of_getElem? (i := 199) rfl) rfl) (mg_1 (List.mem_of_getElem? (i := 18) rfl) rfl) (mg_4 (List.mem_of_getElem? (i := 200) rfl) rfl) (sx_iret dX6_wallCount_10 rfl))))))
def sp_X6_wallCount (G : GT) : Sp := fun as S I J z Q => match as with
  | [.ref a0] => B_X6_wallCount_0 G 0 0 Q [some (.ref a0)] [] S I J z 0 0
  | _ => False
theorem c_X6_wallCount {l : Launch} {G : GT} {D : Nat} : ∀ as S I J z Q, sp_X6_wallCount G as S I J z Q → fqCall l G M_X6_wallCount (D + 1) 0 0 as S I J z Q := by
  intro as S I J z Q h
  unfold sp_X6_wallCount at h
  split at h
  · exact fq_enter _ (by decide +kernel) (Nat.le_of_ble_eq_true rfl) rfl (b_X6_wallCount_0 _ _ _ _ _ _ _ _ h)
  · exact h.elim
theorem dX6_sharedWall_0 : decode cX6_sharedWall 0 = .ok (.aload_n 0, 1) := by decide +kernel
theorem dX6_sharedWall_1 : decode cX6_sharedWall 1 = .ok (.getfield 19, 3) := by decide +kernel
theorem dX6_sharedWall_4 : decode cX6_sharedWall 4 = .ok (.iload_n 1, 1) := by decide +kernel
theorem dX6_sharedWall_5 : decode cX6_sharedWall 5 = .ok (.aaload, 1) := by decide +kernel
theorem dX6_sharedWall_6 : decode cX6_sharedWall 6 = .ok (.getfield 118, 3) := by decide +kernel
theorem dX6_sharedWall_9 : decode cX6_sharedWall 9 = .ok (.istore_n 3, 1) := by decide +kernel
theorem dX6_sharedWall_10 : decode cX6_sharedWall 10 = .ok (.aload_n 0, 1) := by decide +kernel
theorem dX6_sharedWall_11 : decode cX6_sharedWall 11 = .ok (.getfield 19, 3) := by decide +kernel
theorem dX6_sharedWall_14 : decode cX6_sharedWall 14 = .ok (.iload_n 2, 1) := by decide +kernel
theorem dX6_sharedWall_15 : decode cX6_sharedWall 15 = .ok (.aaload, 1) := by decide +kernel
theorem dX6_sharedWall_16 : decode cX6_sharedWall 16 = .ok (.getfield 118, 3) := by decide +kernel
theorem dX6_sharedWall_19 : decode cX6_sharedWall 19 = .ok (.istore 4, 2) := by decide +kernel
theorem dX6_sharedWall_21 : decode cX6_sharedWall 21 = .ok (.iload_n 3, 1) := by decide +kernel
theorem dX6_sharedWall_22 : decode cX6_sharedWall 22 = .ok (.iload 4, 2) := by decide +kernel
theorem dX6_sharedWall_24 : decode cX6_sharedWall 24 = .ok (.isub, 1) := by decide +kernel
theorem dX6_sharedWall_25 : decode cX6_sharedWall 25 = .ok (.invokestatic 121, 3) := by decide +kernel
theorem dX6_sharedWall_28 : decode cX6_sharedWall 28 = .ok (.iconst 1, 1) := by decide +kernel
theorem dX6_sharedWall_29 : decode cX6_sharedWall 29 = .ok (.if_icmp .eq 5, 3) := by decide +kernel
theorem dX6_sharedWall_32 : decode cX6_sharedWall 32 = .ok (.iconst (-1), 1) := by decide +kernel
theorem dX6_sharedWall_33 : decode cX6_sharedWall 33 = .ok (.ireturn, 1) := by decide +kernel
theorem dX6_sharedWall_34 : decode cX6_sharedWall 34 = .ok (.iload_n 3, 1) := by decide +kernel
theorem dX6_sharedWall_35 : decode cX6_sharedWall 35 = .ok (.iload 4, 2) := by decide +kernel
theorem dX6_sharedWall_37 : decode cX6_sharedWall 37 = .ok (.invokestatic 125, 3) := by decide +kernel
theorem dX6_sharedWall_40 : decode cX6_sharedWall 40 = .ok (.istore 5, 2) := by decide +kernel
theorem dX6_sharedWall_42 : decode cX6_sharedWall 42 = .ok (.aload_n 0, 1) := by decide +kernel
theorem dX6_sharedWall_43 : decode cX6_sharedWall 43 = .ok (.iload 5, 2) := by decide +kernel
theorem dX6_sharedWall_45 : decode cX6_sharedWall 45 = .ok (.invokevirtual 128, 3) := by decide +kernel
theorem dX6_sharedWall_48 : decode cX6_sharedWall 48 = .ok (.ifCond .eq 7, 3) := by decide +kernel
theorem dX6_sharedWall_51 : decode cX6_sharedWall 51 = .ok (.iconst (-1), 1) := by decide +kernel
theorem dX6_sharedWall_52 : decode cX6_sharedWall 52 = .ok (.goto 5, 3) := by decide +kernel
theorem dX6_sharedWall_55 : decode cX6_sharedWall 55 = .ok (.iload 5, 2) := by decide +kernel
theorem dX6_sharedWall_57 : decode cX6_sharedWall 57 = .ok (.ireturn, 1) := by decide +kernel
abbrev M_X6_sharedWall : MT := (yX6_sharedWall, cX6_sharedWall, 6, (some .int))
theorem cf_X6_sharedWall : fq_cf M_X6_sharedWall 2 := ⟨(mg_1 (List.mem_of_getElem? (i := 8) rfl) rfl), (mg_4 (List.mem_of_getElem? (i := 235) rfl) rfl), ⟨by decide, by decide, by decide +kernel⟩, by decide⟩
def B_X6_sharedWall_57 (G : GT) (mc ms : Nat) (Q : Post) : Cn := ix_iret mc ms Q
theorem b_X6_sharedWall_57 {l : Launch} {G : GT} {D mc ms : Nat} {Q : Post} : Imp l G M_X6_sharedWall (D + 1) mc ms Q (B_X6_sharedWall_57 G mc ms Q) 57 := sx_iret dX6_sharedWall_57 rfl
def B_X6_sharedWall_0 (G : GT) (mc ms : Nat) (Q : Post) : Cn := ix_aload 0 (ix_getR 6 1 (ix_iload 1 (ix_aald 17 (ix_getI 2 1 (ix_istore 3 (ix_aload 0 (ix_getR 6 1 (ix_iload 2 (ix_aald 17 (ix_getI 2 1 (ix_istore 4 (ix_iload 3 (ix_iload 4 (ix_isub (ix_abs mc ms (ix_pushI 1 (ix_icmp_eq (ix_iload 3 (ix_iload 4 (ix_min mc ms (ix_istore 5 (ix_aload 0 (ix_iload 5 (ix_vcall 6 2 0 0 mc ms (sp_X6_isAtPeace G) (ix_if_eq (ix_iload 5 ((B_X6_sharedWall_57 G mc ms Q))) (ix_pushI (-1) ((B_X6_sharedWall_57 G mc ms Q))))))))))) (ix_pushI (-1) (ix_iret mc ms Q)))))))))))))))))))
theorem b_X6_sharedWall_0 {l : Launch} {G : GT} {D mc ms : Nat} {Q : Post} : Imp l G M_X6_sharedWall (D + 1) mc ms Q (B_X6_sharedWall_0 G mc ms Q) 0 := sx_aload_n dX6_sharedWall_0 rfl (sx_getR dX6_sharedWall_1 fl_FootQuarrel_Street_19 (fun _ _ _ => rfl) (sx_iload_n dX6_sharedWall_4 rfl (sx_aald dX6_sharedWall_5 (by decide) (by decide) rfl (sx_getI dX6_sharedWall_6 fl_FootQuarrel_Street_118 (fun _ _ _ => rfl) (sx_istore_n dX6_sharedWall_9 rfl (by decide) (sx_aload_n dX6_sharedWall_10 rfl (sx_getR dX6_sharedWall_11 fl_FootQuarrel_Street_19 (fun _ _ _ => rfl) (sx_iload_n dX6_sharedWall_14 rfl (sx_aald dX6_sharedWall_15 (by decide) (by decide) rfl (sx_getI dX6_sharedWall_16 fl_FootQuarrel_Street_118 (fun _ _ _ => rfl) (sx_istore dX6_sharedWall_19 (by decide) (sx_iload_n dX6_sharedWall_21 rfl (sx_iload dX6_sharedWall_22 (sx_isub dX6_sharedWall_24 (sx_abs dX6_sharedWall_25 (mg_4 (List.mem_of_getElem? (i := 236) rfl) rfl) (mg_4 (List.mem_of_getElem? (i := 61) rfl) rfl) (mg_1 (List.mem_of_getElem? (i := 18) rfl) rfl) (mg_4 (List.mem_of_getElem? (i := 62) rfl) rfl) (sx_iconst dX6_sharedWall_28 rfl (sx_icmp_eq 34 dX6_sharedWall_29 (by decide) (sx_iload_n dX6_sharedWall_34 rfl (sx_iload dX6_sharedWall_35 (sx_min dX6_sharedWall_37 (mg_4 (List.mem_of_getElem? (i := 237) rfl) rfl) (mg_3 (List.mem_of_getElem? (i := 179) rfl) rfl) (mg_1 (List.mem_of_getElem? (i := 18) rfl) rfl) (mg_3 (List.mem_of_getElem? (i := 180) rfl) rfl) (sx_istore dX6_sharedWall_40 (by decide) (sx_aload_n dX6_sharedWall_42 rfl (sx_iload dX6_sharedWall_43 (sx_vcall dX6_sharedWall_45 cf_X6_isAtPeace (mg_4 (List.mem_of_getElem? (i := 238) rfl) rfl) (mg_4 (List.mem_of_getElem? (i := 239) rfl) rfl) (mg_5 (List.mem_of_getElem? (i := 0) rfl) rfl) rfl c_X6_isAtPeace (sx_if_eq 55 dX6_sharedWall_48 (by decide) (sx_iload dX6_sharedWall_55 (b_X6_sharedWall_57)) (sx_iconst dX6_sharedWall_51 rfl (sx_goto 57 dX6_sharedWall_52 (by decide) (b_X6_sharedWall_57))))))))))) (sx_iconst dX6_sharedWall_32 rfl (sx_iret dX6_sharedWall_33 rfl)))))))))))))))))))
theorem dX6_clear_0 : decode cX6_clear 0 = .ok (.aload_n 0, 1) := by decide +kernel
theorem dX6_clear_1 : decode cX6_clear 1 = .ok (.iconst 0, 1) := by decide +kernel
theorem dX6_clear_2 : decode cX6_clear 2 = .ok (.putfield 49, 3) := by decide +kernel
theorem dX6_clear_5 : decode cX6_clear 5 = .ok (.aload_n 0, 1) := by decide +kernel
theorem dX6_clear_6 : decode cX6_clear 6 = .ok (.iconst 0, 1) := by decide +kernel
theorem dX6_clear_7 : decode cX6_clear 7 = .ok (.putfield 53, 3) := by decide +kernel
theorem dX6_clear_10 : decode cX6_clear 10 = .ok (.aload_n 0, 1) := by decide +kernel
theorem dX6_clear_11 : decode cX6_clear 11 = .ok (.iconst 0, 1) := by decide +kernel
theorem dX6_clear_12 : decode cX6_clear 12 = .ok (.putfield 56, 3) := by decide +kernel
theorem dX6_clear_15 : decode cX6_clear 15 = .ok (.aload_n 0, 1) := by decide +kernel
theorem dX6_clear_16 : decode cX6_clear 16 = .ok (.iconst 0, 1) := by decide +kernel
theorem dX6_clear_17 : decode cX6_clear 17 = .ok (.putfield 59, 3) := by decide +kernel
theorem dX6_clear_20 : decode cX6_clear 20 = .ok (.aload_n 0, 1) := by decide +kernel
theorem dX6_clear_21 : decode cX6_clear 21 = .ok (.iconst 1, 1) := by decide +kernel
theorem dX6_clear_22 : decode cX6_clear 22 = .ok (.putfield 62, 3) := by decide +kernel
theorem dX6_clear_25 : decode cX6_clear 25 = .ok (.aload_n 0, 1) := by decide +kernel
theorem dX6_clear_26 : decode cX6_clear 26 = .ok (.iconst 2, 1) := by decide +kernel
theorem dX6_clear_27 : decode cX6_clear 27 = .ok (.putfield 65, 3) := by decide +kernel
theorem dX6_clear_30 : decode cX6_clear 30 = .ok (.aload_n 0, 1) := by decide +kernel
theorem dX6_clear_31 : decode cX6_clear 31 = .ok (.iconst 4, 1) := by decide +kernel
theorem dX6_clear_32 : decode cX6_clear 32 = .ok (.putfield 68, 3) := by decide +kernel
theorem dX6_clear_35 : decode cX6_clear 35 = .ok (.aload_n 0, 1) := by decide +kernel
theorem dX6_clear_36 : decode cX6_clear 36 = .ok (.iconst 0, 1) := by decide +kernel
theorem dX6_clear_37 : decode cX6_clear 37 = .ok (.putfield 71, 3) := by decide +kernel
theorem dX6_clear_40 : decode cX6_clear 40 = .ok (.aload_n 0, 1) := by decide +kernel
theorem dX6_clear_41 : decode cX6_clear 41 = .ok (.iconst 0, 1) := by decide +kernel
theorem dX6_clear_42 : decode cX6_clear 42 = .ok (.putfield 74, 3) := by decide +kernel
theorem dX6_clear_45 : decode cX6_clear 45 = .ok (.aload_n 0, 1) := by decide +kernel
theorem dX6_clear_46 : decode cX6_clear 46 = .ok (.iconst 0, 1) := by decide +kernel
theorem dX6_clear_47 : decode cX6_clear 47 = .ok (.putfield 77, 3) := by decide +kernel
theorem dX6_clear_50 : decode cX6_clear 50 = .ok (.aload_n 0, 1) := by decide +kernel
theorem dX6_clear_51 : decode cX6_clear 51 = .ok (.iconst 0, 1) := by decide +kernel
theorem dX6_clear_52 : decode cX6_clear 52 = .ok (.putfield 80, 3) := by decide +kernel
theorem dX6_clear_55 : decode cX6_clear 55 = .ok (.aload_n 0, 1) := by decide +kernel
theorem dX6_clear_56 : decode cX6_clear 56 = .ok (.iconst 0, 1) := by decide +kernel
theorem dX6_clear_57 : decode cX6_clear 57 = .ok (.putfield 83, 3) := by decide +kernel
theorem dX6_clear_60 : decode cX6_clear 60 = .ok (.aload_n 0, 1) := by decide +kernel
theorem dX6_clear_61 : decode cX6_clear 61 = .ok (.getfield 32, 3) := by decide +kernel
theorem dX6_clear_64 : decode cX6_clear 64 = .ok (.invokevirtual 87, 3) := by decide +kernel
theorem dX6_clear_67 : decode cX6_clear 67 = .ok (.return_, 1) := by decide +kernel
abbrev M_X6_clear : MT := (yX6_clear, cX6_clear, 1, none)
theorem cf_X6_clear : fq_cf M_X6_clear 0 := ⟨(mg_1 (List.mem_of_getElem? (i := 8) rfl) rfl), (mg_2 (List.mem_of_getElem? (i := 127) rfl) rfl), ⟨by decide, by decide, by decide +kernel⟩, by decide⟩
def B_X6_clear_0 (G : GT) (mc ms : Nat) (Q : Post) : Cn := ix_aload 0 (ix_pushI 0 (ix_putI 6 5 (ix_aload 0 (ix_pushI 0 (ix_putI 6 6 (ix_aload 0 (ix_pushI 0 (ix_putI 6 7 (ix_aload 0 (ix_pushI 0 (ix_putI 6 8 (ix_aload 0 (ix_pushI 1 (ix_putI 6 9 (ix_aload 0 (ix_pushI 2 (ix_putI 6 10 (ix_aload 0 (ix_pushI 4 (ix_putI 6 11 (ix_aload 0 (ix_pushI 0 (ix_putI 6 12 (ix_aload 0 (ix_pushI 0 (ix_putI 6 13 (ix_aload 0 (ix_pushI 0 (ix_putI 6 14 (ix_aload 0 (ix_pushI 0 (ix_putI 6 15 (ix_aload 0 (ix_pushI 0 (ix_putZ 6 16 (ix_aload 0 (ix_getR 6 3 (ix_vcall 9 1 0 0 mc ms (sp_X9_clear G) (ix_vret mc ms Q)))))))))))))))))))))))))))))))))))))))
theorem b_X6_clear_0 {l : Launch} {G : GT} {D mc ms : Nat} {Q : Post} : Imp l G M_X6_clear (D + 1) mc ms Q (B_X6_clear_0 G mc ms Q) 0 := sx_aload_n dX6_clear_0 rfl (sx_iconst dX6_clear_1 rfl (sx_putI dX6_clear_2 fl_FootQuarrel_Street_49 (by decide) (fun _ _ _ => rfl) (fun _ => ⟨rfl, rfl⟩) (sx_aload_n dX6_clear_5 rfl (sx_iconst dX6_clear_6 rfl (sx_putI dX6_clear_7 fl_FootQuarrel_Street_53 (by decide) (fun _ _ _ => rfl) (fun _ => ⟨rfl, rfl⟩) (sx_aload_n dX6_clear_10 rfl (sx_iconst dX6_clear_11 rfl (sx_putI dX6_clear_12 fl_FootQuarrel_Street_56 (by decide) (fun _ _ _ => rfl) (fun _ => ⟨rfl, rfl⟩) (sx_aload_n dX6_clear_15 rfl (sx_iconst dX6_clear_16 rfl (sx_putI dX6_clear_17 fl_FootQuarrel_Street_59 (by decide) (fun _ _ _ => rfl) (fun _ => ⟨rfl, rfl⟩) (sx_aload_n dX6_clear_20 rfl (sx_iconst dX6_clear_21 rfl (sx_putI dX6_clear_22 fl_FootQuarrel_Street_62 (by decide) (fun _ _ _ => rfl) (fun _ => ⟨rfl, rfl⟩) (sx_aload_n dX6_clear_25 rfl (sx_iconst dX6_clear_26 rfl (sx_putI dX6_clear_27 fl_FootQuarrel_Street_65 (by decide) (fun _ _ _ => rfl) (fun _ => ⟨rfl, rfl⟩) (sx_aload_n dX6_clear_30 rfl (sx_iconst dX6_clear_31 rfl (sx_putI dX6_clear_32 fl_FootQuarrel_Street_68 (by decide) (fun _ _ _ => rfl) (fun _ => ⟨rfl, rfl⟩) (sx_aload_n dX6_clear_35 rfl (sx_iconst dX6_clear_36 rfl (sx_putI dX6_clear_37 fl_FootQuarrel_Street_71 (by decide) (fun _ _ _ => rfl) (fun _ => ⟨rfl, rfl⟩) (sx_aload_n dX6_clear_40 rfl (sx_iconst dX6_clear_41 rfl (sx_putI dX6_clear_42 fl_FootQuarrel_Street_74 (by decide) (fun _ _ _ => rfl) (fun _ => ⟨rfl, rfl⟩) (sx_aload_n dX6_clear_45 rfl (sx_iconst dX6_clear_46 rfl (sx_putI dX6_clear_47 fl_FootQuarrel_Street_77 (by decide) (fun _ _ _ => rfl) (fun _ => ⟨rfl, rfl⟩) (sx_aload_n dX6_clear_50 rfl (sx_iconst dX6_clear_51 rfl (sx_putI dX6_clear_52 fl_FootQuarrel_Street_80 (by decide) (fun _ _ _ => rfl) (fun _ => ⟨rfl, rfl⟩) (sx_aload_n dX6_clear_55 rfl (sx_iconst dX6_clear_56 rfl (sx_putZ dX6_clear_57 fl_FootQuarrel_Street_83 (by decide) (fun _ _ _ => rfl) (fun v h => by rcases h with h | h <;> subst h <;> exact ⟨rfl, rfl⟩) (sx_aload_n dX6_clear_60 rfl (sx_getR dX6_clear_61 fl_FootQuarrel_Street_32 (fun _ _ _ => rfl) (sx_vcall dX6_clear_64 cf_X9_clear (mg_2 (List.mem_of_getElem? (i := 128) rfl) rfl) (mg_2 (List.mem_of_getElem? (i := 129) rfl) rfl) (mg_2 (List.mem_of_getElem? (i := 130) rfl) rfl) rfl c_X9_clear (sx_vret dX6_clear_67 rfl)))))))))))))))))))))))))))))))))))))))
def sp_X6_clear (G : GT) : Sp := fun as S I J z Q => match as with
  | [.ref a0] => B_X6_clear_0 G 0 0 Q [some (.ref a0)] [] S I J z 0 0
  | _ => False
theorem c_X6_clear {l : Launch} {G : GT} {D : Nat} : ∀ as S I J z Q, sp_X6_clear G as S I J z Q → fqCall l G M_X6_clear (D + 1) 0 0 as S I J z Q := by
  intro as S I J z Q h
  unfold sp_X6_clear at h
  split at h
  · exact fq_enter _ (by decide +kernel) (Nat.le_of_ble_eq_true rfl) rfl (b_X6_clear_0 _ _ _ _ _ _ _ _ h)
  · exact h.elim
def sp_X2_wouldShout (G : GT) : Sp := fun as S I J z Q => match as with
  | [.ref p, .int v] => S.1 p = 2 ∧ Q (some (.int (bI (10 ≤ v + I p 3 ∧ I p 2 < I p 6 + v)))) S I J z
  | _ => False
set_option maxHeartbeats 4000000 in
set_option maxRecDepth 20000 in
theorem c_X2_wouldShout {l : Launch} {G : GT} {D : Nat} : ∀ as S I J z Q, sp_X2_wouldShout G as S I J z Q → fqCall l G M_X2_wouldShout (D + 1) 0 0 as S I J z Q := by
  intro as S I J z Q h
  unfold sp_X2_wouldShout at h
  split at h
  · next p v =>
    refine fq_enter [some (.ref p), some (.int v)] (by decide +kernel) (Nat.le_of_ble_eq_true rfl) rfl (b_X2_wouldShout_0 _ _ _ _ _ _ _ _ ?_)
    simp (disch := omega) only [B_X2_wouldShout_0, B_X2_wouldShout_25, B_X2_wouldShout_26, sp_X2_catches, h.1, bI_01, bI_0, nI_1, nI_add, nI_clamp, nI_pin, nI_neg, nI_nonneg, nI_leE, nI_ltE, nI_eqE, Nat.not_le, Nat.not_lt, fq_10, fq_01, fq_rr, ix_aald, ix_aast, ix_abs, ix_alen, ix_aload, ix_aret, ix_astore, ix_bald, ix_bast, ix_call, ix_cpyI, ix_cpyJ, ix_dead, ix_dup2, ix_dup2L, ix_dupI, ix_dupR, ix_dupx1, ix_getI, ix_getJ, ix_getR, ix_gfm, ix_gtab, ix_i2b, ix_i2c, ix_i2l, ix_i2s, ix_iadd, ix_iald, ix_iand, ix_iast, ix_icall, ix_icmp_eq, ix_icmp_ge, ix_icmp_gt, ix_icmp_le, ix_icmp_lt, ix_icmp_ne, ix_idiv, ix_if_eq, ix_if_ge, ix_if_gt, ix_if_le, ix_if_lt, ix_if_ne, ix_iinc, ix_iload, ix_imul, ix_ineg, ix_ior, ix_irem, ix_iret, ix_ishl, ix_ishr, ix_istore, ix_isub, ix_iushr, ix_ixor, ix_l2i, ix_ladd, ix_lald, ix_land, ix_last, ix_lcmp, ix_ldcS, ix_ldiv, ix_lload, ix_lmul, ix_lor, ix_lrem, ix_lret, ix_lshl, ix_lstore, ix_lsub, ix_lsw, ix_max, ix_min, ix_new, ix_newa, ix_nret, ix_oinit, ix_pop2L, ix_popI, ix_pushI, ix_pushL, ix_putI, ix_putJ, ix_putR, ix_putZ, ix_sbald, ix_sgetC, ix_sgetV, ix_slen, ix_strc, ix_tald, ix_tsw, ix_vcall, ix_vret, ix_zret, stL, stL2, kilL, popN, fq_sw, fq_lsw, List.map_cons, List.map_nil, List.getElem?_cons_zero, List.getElem?_cons_succ, Option.toList_some, Option.toList_none, List.cons_append, List.nil_append, List.length_cons, List.length_nil, List.sum_cons, List.sum_nil, cat_i, cat_l, cat_r, true_and, and_true, Nat.zero_add, Nat.add_zero, Nat.le_refl, Nat.zero_le, Nat.reduceAdd, Nat.reduceLeDiff, exists_eq_left', Option.some.injEq, not_true_eq_false, not_false_eq_true, false_implies, true_implies, implies_true, and_self, or_true, true_or, or_false, false_or]
    have h2 := h.2
    refine ⟨fun h1 => ?_, fun h1 => ⟨fun h3 => ?_, fun h3 => ?_⟩⟩
    · rw [bI_f (fun q => h1 q.1)] at h2
      exact h2
    · rw [bI_f (fun q => Int32.not_lt.mpr h3 q.2)] at h2
      exact h2
    · rw [bI_t ⟨Decidable.not_not.mp h1, Int32.not_le.mp h3⟩] at h2
      exact h2
  · exact h.elim
def sp_X5_loudness (G : GT) : Sp := fun as S I J z Q => match as with
  | [.int v, .int r] => Q (some (.int (ldn v r))) S I J z
  | _ => False
set_option maxHeartbeats 4000000 in
set_option maxRecDepth 20000 in
theorem c_X5_loudness {l : Launch} {G : GT} {D : Nat} : ∀ as S I J z Q, sp_X5_loudness G as S I J z Q → fqCall l G M_X5_loudness (D + 1) 0 0 as S I J z Q := by
  intro as S I J z Q h
  unfold sp_X5_loudness at h
  split at h
  · next v r =>
    refine fq_enter [some (.int v), some (.int r)] (by decide +kernel) (Nat.le_of_ble_eq_true rfl) rfl (b_X5_loudness_0 _ _ _ _ _ _ _ _ ?_)
    simp (disch := omega) only [B_X5_loudness_0, B_X5_loudness_15, nI_1, nI_add, nI_clamp, nI_pin, nI_neg, nI_nonneg, nI_leE, nI_ltE, nI_eqE, Nat.not_le, Nat.not_lt, fq_10, fq_01, fq_rr, ix_aald, ix_aast, ix_abs, ix_alen, ix_aload, ix_aret, ix_astore, ix_bald, ix_bast, ix_call, ix_cpyI, ix_cpyJ, ix_dead, ix_dup2, ix_dup2L, ix_dupI, ix_dupR, ix_dupx1, ix_getI, ix_getJ, ix_getR, ix_gfm, ix_gtab, ix_i2b, ix_i2c, ix_i2l, ix_i2s, ix_iadd, ix_iald, ix_iand, ix_iast, ix_icall, ix_icmp_eq, ix_icmp_ge, ix_icmp_gt, ix_icmp_le, ix_icmp_lt, ix_icmp_ne, ix_idiv, ix_if_eq, ix_if_ge, ix_if_gt, ix_if_le, ix_if_lt, ix_if_ne, ix_iinc, ix_iload, ix_imul, ix_ineg, ix_ior, ix_irem, ix_iret, ix_ishl, ix_ishr, ix_istore, ix_isub, ix_iushr, ix_ixor, ix_l2i, ix_ladd, ix_lald, ix_land, ix_last, ix_lcmp, ix_ldcS, ix_ldiv, ix_lload, ix_lmul, ix_lor, ix_lrem, ix_lret, ix_lshl, ix_lstore, ix_lsub, ix_lsw, ix_max, ix_min, ix_new, ix_newa, ix_nret, ix_oinit, ix_pop2L, ix_popI, ix_pushI, ix_pushL, ix_putI, ix_putJ, ix_putR, ix_putZ, ix_sbald, ix_sgetC, ix_sgetV, ix_slen, ix_strc, ix_tald, ix_tsw, ix_vcall, ix_vret, ix_zret, stL, stL2, kilL, popN, fq_sw, fq_lsw, List.map_cons, List.map_nil, List.getElem?_cons_zero, List.getElem?_cons_succ, Option.toList_some, Option.toList_none, List.cons_append, List.nil_append, List.length_cons, List.length_nil, List.sum_cons, List.sum_nil, cat_i, cat_l, cat_r, true_and, and_true, Nat.zero_add, Nat.add_zero, Nat.le_refl, Nat.zero_le, Nat.reduceAdd, Nat.reduceLeDiff, exists_eq_left', Option.some.injEq, not_true_eq_false, not_false_eq_true, false_implies, true_implies, implies_true, and_self, or_true, true_or, or_false, false_or]
    refine ⟨fun h1 => ?_, fun h1 => ?_⟩
    · unfold ldn at h
      rw [if_pos h1] at h
      exact h
    · unfold ldn at h
      rw [if_neg h1] at h
      exact h
  · exact h.elim
theorem dX6_loudness_0 : decode cX6_loudness 0 = .ok (.iload_n 1, 1) := by decide +kernel
theorem dX6_loudness_1 : decode cX6_loudness 1 = .ok (.aload_n 0, 1) := by decide +kernel
theorem dX6_loudness_2 : decode cX6_loudness 2 = .ok (.getfield 83, 3) := by decide +kernel
theorem dX6_loudness_5 : decode cX6_loudness 5 = .ok (.invokestatic 144, 3) := by decide +kernel
theorem dX6_loudness_8 : decode cX6_loudness 8 = .ok (.ireturn, 1) := by decide +kernel
abbrev M_X6_loudness : MT := (yX6_loudness, cX6_loudness, 2, (some .int))
theorem cf_X6_loudness : fq_cf M_X6_loudness 1 := ⟨(mg_1 (List.mem_of_getElem? (i := 8) rfl) rfl), (mg_5 (List.mem_of_getElem? (i := 138) rfl) rfl), ⟨by decide, by decide, by decide +kernel⟩, by decide⟩
def B_X6_loudness_0 (G : GT) (mc ms : Nat) (Q : Post) : Cn := ix_iload 1 (ix_aload 0 (ix_getI 6 16 (ix_call 2 0 0 mc ms (sp_X5_loudness G) (ix_iret mc ms Q))))
theorem b_X6_loudness_0 {l : Launch} {G : GT} {D mc ms : Nat} {Q : Post} : Imp l G M_X6_loudness (D + 2) mc ms Q (B_X6_loudness_0 G mc ms Q) 0 := sx_iload_n dX6_loudness_0 rfl (sx_aload_n dX6_loudness_1 rfl (sx_getI dX6_loudness_2 fl_FootQuarrel_Street_83 (fun _ _ _ => rfl) (sx_scall dX6_loudness_5 cf_X5_loudness (mg_5 (List.mem_of_getElem? (i := 139) rfl) rfl) (mg_5 (List.mem_of_getElem? (i := 36) rfl) rfl) c_X5_loudness (sx_iret dX6_loudness_8 rfl))))
def sp_X6_loudness (G : GT) : Sp := fun as S I J z Q => match as with
  | [.ref s, .int v] => S.1 s = 6 ∧ Q (some (.int (ldn v (I s 16)))) S I J z
  | _ => False
set_option maxHeartbeats 4000000 in
set_option maxRecDepth 20000 in
theorem c_X6_loudness {l : Launch} {G : GT} {D : Nat} : ∀ as S I J z Q, sp_X6_loudness G as S I J z Q → fqCall l G M_X6_loudness (D + 2) 0 0 as S I J z Q := by
  intro as S I J z Q h
  unfold sp_X6_loudness at h
  split at h
  · next s v =>
    refine fq_enter [some (.ref s), some (.int v)] (by decide +kernel) (Nat.le_of_ble_eq_true rfl) rfl (b_X6_loudness_0 _ _ _ _ _ _ _ _ ?_)
    simp (disch := omega) only [B_X6_loudness_0, sp_X5_loudness, h.1, nI_1, nI_add, nI_clamp, nI_pin, nI_neg, nI_nonneg, nI_leE, nI_ltE, nI_eqE, Nat.not_le, Nat.not_lt, fq_10, fq_01, fq_rr, ix_aald, ix_aast, ix_abs, ix_alen, ix_aload, ix_aret, ix_astore, ix_bald, ix_bast, ix_call, ix_cpyI, ix_cpyJ, ix_dead, ix_dup2, ix_dup2L, ix_dupI, ix_dupR, ix_dupx1, ix_getI, ix_getJ, ix_getR, ix_gfm, ix_gtab, ix_i2b, ix_i2c, ix_i2l, ix_i2s, ix_iadd, ix_iald, ix_iand, ix_iast, ix_icall, ix_icmp_eq, ix_icmp_ge, ix_icmp_gt, ix_icmp_le, ix_icmp_lt, ix_icmp_ne, ix_idiv, ix_if_eq, ix_if_ge, ix_if_gt, ix_if_le, ix_if_lt, ix_if_ne, ix_iinc, ix_iload, ix_imul, ix_ineg, ix_ior, ix_irem, ix_iret, ix_ishl, ix_ishr, ix_istore, ix_isub, ix_iushr, ix_ixor, ix_l2i, ix_ladd, ix_lald, ix_land, ix_last, ix_lcmp, ix_ldcS, ix_ldiv, ix_lload, ix_lmul, ix_lor, ix_lrem, ix_lret, ix_lshl, ix_lstore, ix_lsub, ix_lsw, ix_max, ix_min, ix_new, ix_newa, ix_nret, ix_oinit, ix_pop2L, ix_popI, ix_pushI, ix_pushL, ix_putI, ix_putJ, ix_putR, ix_putZ, ix_sbald, ix_sgetC, ix_sgetV, ix_slen, ix_strc, ix_tald, ix_tsw, ix_vcall, ix_vret, ix_zret, stL, stL2, kilL, popN, fq_sw, fq_lsw, List.map_cons, List.map_nil, List.getElem?_cons_zero, List.getElem?_cons_succ, Option.toList_some, Option.toList_none, List.cons_append, List.nil_append, List.length_cons, List.length_nil, List.sum_cons, List.sum_nil, cat_i, cat_l, cat_r, true_and, and_true, Nat.zero_add, Nat.add_zero, Nat.le_refl, Nat.zero_le, Nat.reduceAdd, Nat.reduceLeDiff, exists_eq_left', Option.some.injEq, not_true_eq_false, not_false_eq_true, false_implies, true_implies, implies_true, and_self, or_true, true_or, or_false, false_or]
    exact h.2
  · exact h.elim
/-- the wall of two houses, if it is not at peace -/
def shW (a b pe : Int32) : Int32 := if ¬ (if 0 ≤ a - b then a - b else 0 - (a - b)) = 1 then -1 else if pe >>> ((if b < a then b else a) &&& 31) &&& 1 = 1 then -1 else if b < a then b else a
def sp_X6_sharedWall (G : GT) : Sp := fun as S I J z Q => match as with
  | [.ref s, .int a, .int b] => stS S s ∧ vp_in a 8 ∧ vp_in b 8 ∧ Q (some (.int (shW (I (s + 24 + a.toNatClampNeg) 1) (I (s + 24 + b.toNatClampNeg) 1) (I s 13)))) S I J z
  | _ => False
set_option maxHeartbeats 4000000 in
set_option maxRecDepth 20000 in
theorem c_X6_sharedWall {l : Launch} {G : GT} {D : Nat} : ∀ as S I J z Q, sp_X6_sharedWall G as S I J z Q → fqCall l G M_X6_sharedWall (D + 1) 0 0 as S I J z Q := by
  intro as S I J z Q h
  unfold sp_X6_sharedWall at h
  split at h
  · next s a b =>
    obtain ⟨hs, ha, hb, hQ⟩ := h
    obtain ⟨a, ha, rfl⟩ := vp_in_of ha (by decide)
    obtain ⟨b, hb, rfl⟩ := vp_in_of hb (by decide)
    rw [nI_clamp (by omega), nI_clamp (by omega)] at hQ
    refine fq_enter [some (.ref s), some (.int (nI a)), some (.int (nI b)), none, none, none] (by decide +kernel) (Nat.le_of_ble_eq_true rfl) rfl (b_X6_sharedWall_0 _ _ _ _ _ _ _ _ ?_)
    simp (disch := omega) only [B_X6_sharedWall_0, B_X6_sharedWall_57, sp_X6_isAtPeace, hs.k, hs.r0, hs.k1, hs.r1, hs.k2, hs.r2, hs.k3, hs.r3, hs.k4, hs.r4, hs.k12, hs.n1, hs.n2, hs.n3, hs.y0, hs.k5, hs.n5, hs.y1, hs.k6, hs.n6, hs.y2, hs.k7, hs.n7, hs.y3, hs.k8, hs.n8, hs.y4, hs.k9, hs.n9, hs.y5, hs.k10, hs.n10, hs.y6, hs.k11, hs.n11, hs.p0, hs.p1, hs.p2, hs.k13, hs.n13, hs.q0, hs.q1, hs.k14, hs.k15, hs.k16, hs.n16, hs.k17, hs.n17, hs.rH, hs.kH, hs.rP, hs.kP, hs.rQ, hs.kQ, bI_0, nI_1, nI_add, nI_clamp, nI_pin, nI_neg, nI_nonneg, nI_leE, nI_ltE, nI_eqE, Nat.not_le, Nat.not_lt, fq_10, fq_01, fq_rr, ix_aald, ix_aast, ix_abs, ix_alen, ix_aload, ix_aret, ix_astore, ix_bald, ix_bast, ix_call, ix_cpyI, ix_cpyJ, ix_dead, ix_dup2, ix_dup2L, ix_dupI, ix_dupR, ix_dupx1, ix_getI, ix_getJ, ix_getR, ix_gfm, ix_gtab, ix_i2b, ix_i2c, ix_i2l, ix_i2s, ix_iadd, ix_iald, ix_iand, ix_iast, ix_icall, ix_icmp_eq, ix_icmp_ge, ix_icmp_gt, ix_icmp_le, ix_icmp_lt, ix_icmp_ne, ix_idiv, ix_if_eq, ix_if_ge, ix_if_gt, ix_if_le, ix_if_lt, ix_if_ne, ix_iinc, ix_iload, ix_imul, ix_ineg, ix_ior, ix_irem, ix_iret, ix_ishl, ix_ishr, ix_istore, ix_isub, ix_iushr, ix_ixor, ix_l2i, ix_ladd, ix_lald, ix_land, ix_last, ix_lcmp, ix_ldcS, ix_ldiv, ix_lload, ix_lmul, ix_lor, ix_lrem, ix_lret, ix_lshl, ix_lstore, ix_lsub, ix_lsw, ix_max, ix_min, ix_new, ix_newa, ix_nret, ix_oinit, ix_pop2L, ix_popI, ix_pushI, ix_pushL, ix_putI, ix_putJ, ix_putR, ix_putZ, ix_sbald, ix_sgetC, ix_sgetV, ix_slen, ix_strc, ix_tald, ix_tsw, ix_vcall, ix_vret, ix_zret, stL, stL2, kilL, popN, fq_sw, fq_lsw, List.map_cons, List.map_nil, List.getElem?_cons_zero, List.getElem?_cons_succ, Option.toList_some, Option.toList_none, List.cons_append, List.nil_append, List.length_cons, List.length_nil, List.sum_cons, List.sum_nil, cat_i, cat_l, cat_r, true_and, and_true, Nat.zero_add, Nat.add_zero, Nat.le_refl, Nat.zero_le, Nat.reduceAdd, Nat.reduceLeDiff, exists_eq_left', Option.some.injEq, not_true_eq_false, not_false_eq_true, false_implies, true_implies, implies_true, and_self, or_true, true_or, or_false, false_or]
    unfold shW at hQ
    refine ⟨fun h1 => ⟨fun h2 => ?_, fun h2 => ?_⟩, fun h1 => ?_⟩
    · rw [if_neg (fun q => q h1), if_neg h2] at hQ
      exact hQ
    · rw [if_neg (fun q => q h1), if_pos (Decidable.not_not.mp h2)] at hQ
      exact hQ
    · rw [if_pos h1] at hQ
      exact hQ
  · exact h.elim
