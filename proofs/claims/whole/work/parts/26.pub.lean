-- the tape, the trays, and what is told
theorem dX11_cellStatus_0 : decode cX11_cellStatus 0 = .ok (.iload_n 1, 1) := by decide +kernel
theorem dX11_cellStatus_1 : decode cX11_cellStatus 1 = .ok (.invokestatic 70, 3) := by decide +kernel
theorem dX11_cellStatus_4 : decode cX11_cellStatus 4 = .ok (.ifCond .ne 5, 3) := by decide +kernel
theorem dX11_cellStatus_7 : decode cX11_cellStatus 7 = .ok (.iconst 1, 1) := by decide +kernel
theorem dX11_cellStatus_8 : decode cX11_cellStatus 8 = .ok (.ireturn, 1) := by decide +kernel
theorem dX11_cellStatus_9 : decode cX11_cellStatus 9 = .ok (.aload_n 0, 1) := by decide +kernel
theorem dX11_cellStatus_10 : decode cX11_cellStatus 10 = .ok (.getfield 11, 3) := by decide +kernel
theorem dX11_cellStatus_13 : decode cX11_cellStatus 13 = .ok (.iload_n 1, 1) := by decide +kernel
theorem dX11_cellStatus_14 : decode cX11_cellStatus 14 = .ok (.aaload, 1) := by decide +kernel
theorem dX11_cellStatus_15 : decode cX11_cellStatus 15 = .ok (.invokevirtual 105, 3) := by decide +kernel
theorem dX11_cellStatus_18 : decode cX11_cellStatus 18 = .ok (.ifCond .eq 5, 3) := by decide +kernel
theorem dX11_cellStatus_21 : decode cX11_cellStatus 21 = .ok (.iconst 2, 1) := by decide +kernel
theorem dX11_cellStatus_22 : decode cX11_cellStatus 22 = .ok (.ireturn, 1) := by decide +kernel
theorem dX11_cellStatus_23 : decode cX11_cellStatus 23 = .ok (.iload_n 2, 1) := by decide +kernel
theorem dX11_cellStatus_24 : decode cX11_cellStatus 24 = .ok (.iconst 0, 1) := by decide +kernel
theorem dX11_cellStatus_25 : decode cX11_cellStatus 25 = .ok (.aload_n 0, 1) := by decide +kernel
theorem dX11_cellStatus_26 : decode cX11_cellStatus 26 = .ok (.getfield 11, 3) := by decide +kernel
theorem dX11_cellStatus_29 : decode cX11_cellStatus 29 = .ok (.iload_n 1, 1) := by decide +kernel
theorem dX11_cellStatus_30 : decode cX11_cellStatus 30 = .ok (.aaload, 1) := by decide +kernel
theorem dX11_cellStatus_31 : decode cX11_cellStatus 31 = .ok (.getfield 436, 3) := by decide +kernel
theorem dX11_cellStatus_34 : decode cX11_cellStatus 34 = .ok (.iconst 1, 1) := by decide +kernel
theorem dX11_cellStatus_35 : decode cX11_cellStatus 35 = .ok (.isub, 1) := by decide +kernel
theorem dX11_cellStatus_36 : decode cX11_cellStatus 36 = .ok (.invokestatic 74, 3) := by decide +kernel
theorem dX11_cellStatus_39 : decode cX11_cellStatus 39 = .ok (.ifCond .eq 7, 3) := by decide +kernel
theorem dX11_cellStatus_42 : decode cX11_cellStatus 42 = .ok (.iconst 0, 1) := by decide +kernel
theorem dX11_cellStatus_43 : decode cX11_cellStatus 43 = .ok (.goto 4, 3) := by decide +kernel
theorem dX11_cellStatus_46 : decode cX11_cellStatus 46 = .ok (.iconst 3, 1) := by decide +kernel
theorem dX11_cellStatus_47 : decode cX11_cellStatus 47 = .ok (.ireturn, 1) := by decide +kernel
abbrev M_X11_cellStatus : MT := (yX11_cellStatus, cX11_cellStatus, 3, (some .int))
theorem cf_X11_cellStatus : fq_cf M_X11_cellStatus 2 := ⟨(mg_1 (List.mem_of_getElem? (i := 1) rfl) rfl), (mg_3 (List.mem_of_getElem? (i := 107) rfl) rfl), ⟨by decide, by decide, by decide +kernel⟩, by decide⟩
def B_X11_cellStatus_47 (G : GT) (mc ms : Nat) (Q : Post) : Cn := ix_iret mc ms Q
theorem b_X11_cellStatus_47 {l : Launch} {G : GT} {D mc ms : Nat} {Q : Post} : Imp l G M_X11_cellStatus (D + 2) mc ms Q (B_X11_cellStatus_47 G mc ms Q) 47 := sx_iret dX11_cellStatus_47 rfl
def B_X11_cellStatus_0 (G : GT) (mc ms : Nat) (Q : Post) : Cn := ix_iload 1 (ix_call 1 0 0 mc ms (sp_X11_isTray G) (ix_if_ne (ix_aload 0 (ix_getR 11 0 (ix_iload 1 (ix_aald 20 (ix_vcall 8 1 0 0 mc ms (sp_X8_isMissing G) (ix_if_eq (ix_iload 2 (ix_pushI 0 (ix_aload 0 (ix_getR 11 0 (ix_iload 1 (ix_aald 20 (ix_getI 8 1 (ix_pushI 1 (ix_isub (ix_call 3 0 0 mc ms (sp_X11_isWithin G) (ix_if_eq (ix_pushI 3 ((B_X11_cellStatus_47 G mc ms Q))) (ix_pushI 0 ((B_X11_cellStatus_47 G mc ms Q)))))))))))))) (ix_pushI 2 (ix_iret mc ms Q)))))))) (ix_pushI 1 (ix_iret mc ms Q))))
theorem b_X11_cellStatus_0 {l : Launch} {G : GT} {D mc ms : Nat} {Q : Post} : Imp l G M_X11_cellStatus (D + 2) mc ms Q (B_X11_cellStatus_0 G mc ms Q) 0 := sx_iload_n dX11_cellStatus_0 rfl (sx_scall dX11_cellStatus_1 cf_X11_isTray (mg_3 (List.mem_of_getElem? (i := 82) rfl) rfl) (mg_3 (List.mem_of_getElem? (i := 83) rfl) rfl) c_X11_isTray (sx_if_ne 9 dX11_cellStatus_4 (by decide) (sx_aload_n dX11_cellStatus_9 rfl (sx_getR dX11_cellStatus_10 fl_FootQuarrel_11 (fun _ _ _ => rfl) (sx_iload_n dX11_cellStatus_13 rfl (sx_aald dX11_cellStatus_14 (by decide) (by decide) rfl (sx_vcall dX11_cellStatus_15 cf_X8_isMissing (mg_3 (List.mem_of_getElem? (i := 108) rfl) rfl) (mg_3 (List.mem_of_getElem? (i := 109) rfl) rfl) (mg_3 (List.mem_of_getElem? (i := 110) rfl) rfl) rfl c_X8_isMissing (sx_if_eq 23 dX11_cellStatus_18 (by decide) (sx_iload_n dX11_cellStatus_23 rfl (sx_iconst dX11_cellStatus_24 rfl (sx_aload_n dX11_cellStatus_25 rfl (sx_getR dX11_cellStatus_26 fl_FootQuarrel_11 (fun _ _ _ => rfl) (sx_iload_n dX11_cellStatus_29 rfl (sx_aald dX11_cellStatus_30 (by decide) (by decide) rfl (sx_getI dX11_cellStatus_31 fl_FootQuarrel_436 (fun _ _ _ => rfl) (sx_iconst dX11_cellStatus_34 rfl (sx_isub dX11_cellStatus_35 (sx_scall dX11_cellStatus_36 cf_X11_isWithin (mg_3 (List.mem_of_getElem? (i := 85) rfl) rfl) (mg_3 (List.mem_of_getElem? (i := 86) rfl) rfl) c_X11_isWithin (sx_if_eq 46 dX11_cellStatus_39 (by decide) (sx_iconst dX11_cellStatus_46 rfl (b_X11_cellStatus_47)) (sx_iconst dX11_cellStatus_42 rfl (sx_goto 47 dX11_cellStatus_43 (by decide) (b_X11_cellStatus_47)))))))))))))) (sx_iconst dX11_cellStatus_21 rfl (sx_iret dX11_cellStatus_22 rfl)))))))) (sx_iconst dX11_cellStatus_7 rfl (sx_iret dX11_cellStatus_8 rfl))))
def sp_X11_cellStatus (G : GT) : Sp := fun as S I J z Q => match as with
  | [.ref a0, .int a1, .int a2] => B_X11_cellStatus_0 G 0 0 Q [some (.ref a0), some (.int a1), some (.int a2)] [] S I J z 0 0
  | _ => False
theorem c_X11_cellStatus {l : Launch} {G : GT} {D : Nat} : ∀ as S I J z Q, sp_X11_cellStatus G as S I J z Q → fqCall l G M_X11_cellStatus (D + 2) 0 0 as S I J z Q := by
  intro as S I J z Q h
  unfold sp_X11_cellStatus at h
  split at h
  · exact fq_enter _ (by decide +kernel) (Nat.le_of_ble_eq_true rfl) rfl (b_X11_cellStatus_0 _ _ _ _ _ _ _ _ h)
  · exact h.elim
theorem dX11_endText_0 : decode cX11_endText 0 = .ok (.aload_n 0, 1) := by decide +kernel
theorem dX11_endText_1 : decode cX11_endText 1 = .ok (.iconst 0, 1) := by decide +kernel
theorem dX11_endText_2 : decode cX11_endText 2 = .ok (.putfield 121, 3) := by decide +kernel
theorem dX11_endText_5 : decode cX11_endText 5 = .ok (.aload_n 0, 1) := by decide +kernel
theorem dX11_endText_6 : decode cX11_endText 6 = .ok (.aload_n 0, 1) := by decide +kernel
theorem dX11_endText_7 : decode cX11_endText 7 = .ok (.getfield 25, 3) := by decide +kernel
theorem dX11_endText_10 : decode cX11_endText 10 = .ok (.getfield 454, 3) := by decide +kernel
theorem dX11_endText_13 : decode cX11_endText 13 = .ok (.putfield 53, 3) := by decide +kernel
theorem dX11_endText_16 : decode cX11_endText 16 = .ok (.aload_n 0, 1) := by decide +kernel
theorem dX11_endText_17 : decode cX11_endText 17 = .ok (.aload_n 0, 1) := by decide +kernel
theorem dX11_endText_18 : decode cX11_endText 18 = .ok (.getfield 25, 3) := by decide +kernel
theorem dX11_endText_21 : decode cX11_endText 21 = .ok (.getfield 457, 3) := by decide +kernel
theorem dX11_endText_24 : decode cX11_endText 24 = .ok (.putfield 57, 3) := by decide +kernel
theorem dX11_endText_27 : decode cX11_endText 27 = .ok (.return_, 1) := by decide +kernel
abbrev M_X11_endText : MT := (yX11_endText, cX11_endText, 1, none)
theorem cf_X11_endText : fq_cf M_X11_endText 0 := ⟨(mg_1 (List.mem_of_getElem? (i := 1) rfl) rfl), (mg_4 (List.mem_of_getElem? (i := 71) rfl) rfl), ⟨by decide, by decide, by decide +kernel⟩, by decide⟩
def B_X11_endText_0 (G : GT) (mc ms : Nat) (Q : Post) : Cn := ix_aload 0 (ix_pushI 0 (ix_putI 11 8 (ix_aload 0 (ix_aload 0 (ix_getR 11 2 (ix_getI 4 10 (ix_putI 11 11 (ix_aload 0 (ix_aload 0 (ix_getR 11 2 (ix_getI 4 11 (ix_putI 11 12 (ix_vret mc ms Q)))))))))))))
theorem b_X11_endText_0 {l : Launch} {G : GT} {D mc ms : Nat} {Q : Post} : Imp l G M_X11_endText (D + 0) mc ms Q (B_X11_endText_0 G mc ms Q) 0 := sx_aload_n dX11_endText_0 rfl (sx_iconst dX11_endText_1 rfl (sx_putI dX11_endText_2 fl_FootQuarrel_121 (by decide) (fun _ _ _ => rfl) (fun _ => ⟨rfl, rfl⟩) (sx_aload_n dX11_endText_5 rfl (sx_aload_n dX11_endText_6 rfl (sx_getR dX11_endText_7 fl_FootQuarrel_25 (fun _ _ _ => rfl) (sx_getI dX11_endText_10 fl_FootQuarrel_454 (fun _ _ _ => rfl) (sx_putI dX11_endText_13 fl_FootQuarrel_53 (by decide) (fun _ _ _ => rfl) (fun _ => ⟨rfl, rfl⟩) (sx_aload_n dX11_endText_16 rfl (sx_aload_n dX11_endText_17 rfl (sx_getR dX11_endText_18 fl_FootQuarrel_25 (fun _ _ _ => rfl) (sx_getI dX11_endText_21 fl_FootQuarrel_457 (fun _ _ _ => rfl) (sx_putI dX11_endText_24 fl_FootQuarrel_57 (by decide) (fun _ _ _ => rfl) (fun _ => ⟨rfl, rfl⟩) (sx_vret dX11_endText_27 rfl)))))))))))))
def sp_X11_endText (G : GT) : Sp := fun as S I J z Q => match as with
  | [.ref a0] => B_X11_endText_0 G 0 0 Q [some (.ref a0)] [] S I J z 0 0
  | _ => False
theorem c_X11_endText {l : Launch} {G : GT} {D : Nat} : ∀ as S I J z Q, sp_X11_endText G as S I J z Q → fqCall l G M_X11_endText (D + 0) 0 0 as S I J z Q := by
  intro as S I J z Q h
  unfold sp_X11_endText at h
  split at h
  · exact fq_enter _ (by decide +kernel) (Nat.le_of_ble_eq_true rfl) rfl (b_X11_endText_0 _ _ _ _ _ _ _ _ h)
  · exact h.elim
theorem dX11_write_0 : decode cX11_write 0 = .ok (.aload_n 0, 1) := by decide +kernel
theorem dX11_write_1 : decode cX11_write 1 = .ok (.iload_n 1, 1) := by decide +kernel
theorem dX11_write_2 : decode cX11_write 2 = .ok (.iload_n 2, 1) := by decide +kernel
theorem dX11_write_3 : decode cX11_write 3 = .ok (.invokevirtual 89, 3) := by decide +kernel
theorem dX11_write_6 : decode cX11_write 6 = .ok (.istore 5, 2) := by decide +kernel
theorem dX11_write_8 : decode cX11_write 8 = .ok (.iload 5, 2) := by decide +kernel
theorem dX11_write_10 : decode cX11_write 10 = .ok (.ifCond .eq 10, 3) := by decide +kernel
theorem dX11_write_13 : decode cX11_write 13 = .ok (.aload_n 0, 1) := by decide +kernel
theorem dX11_write_14 : decode cX11_write 14 = .ok (.iload 5, 2) := by decide +kernel
theorem dX11_write_16 : decode cX11_write 16 = .ok (.invokevirtual 78, 3) := by decide +kernel
theorem dX11_write_19 : decode cX11_write 19 = .ok (.ireturn, 1) := by decide +kernel
theorem dX11_write_20 : decode cX11_write 20 = .ok (.aload_n 0, 1) := by decide +kernel
theorem dX11_write_21 : decode cX11_write 21 = .ok (.getfield 11, 3) := by decide +kernel
theorem dX11_write_24 : decode cX11_write 24 = .ok (.iload_n 1, 1) := by decide +kernel
theorem dX11_write_25 : decode cX11_write 25 = .ok (.aaload, 1) := by decide +kernel
theorem dX11_write_26 : decode cX11_write 26 = .ok (.iload_n 2, 1) := by decide +kernel
theorem dX11_write_27 : decode cX11_write 27 = .ok (.lload_n 3, 1) := by decide +kernel
theorem dX11_write_28 : decode cX11_write 28 = .ok (.invokevirtual 93, 3) := by decide +kernel
theorem dX11_write_31 : decode cX11_write 31 = .ok (.aload_n 0, 1) := by decide +kernel
theorem dX11_write_32 : decode cX11_write 32 = .ok (.invokevirtual 85, 3) := by decide +kernel
theorem dX11_write_35 : decode cX11_write 35 = .ok (.ireturn, 1) := by decide +kernel
abbrev M_X11_write : MT := (yX11_write, cX11_write, 6, (some .boolean))
theorem cf_X11_write : fq_cf M_X11_write 3 := ⟨(mg_1 (List.mem_of_getElem? (i := 1) rfl) rfl), (mg_3 (List.mem_of_getElem? (i := 103) rfl) rfl), ⟨by decide, by decide, by decide +kernel⟩, by decide⟩
def B_X11_write_0 (G : GT) (mc ms : Nat) (Q : Post) : Cn := ix_aload 0 (ix_iload 1 (ix_iload 2 (ix_vcall 11 3 0 0 mc ms (sp_X11_cellStatus G) (ix_istore 5 (ix_iload 5 (ix_if_eq (ix_aload 0 (ix_getR 11 0 (ix_iload 1 (ix_aald 20 (ix_iload 2 (ix_lload 3 (ix_vcall 8 3 0 0 mc ms (sp_X8_put G) (ix_aload 0 (ix_vcall 11 1 0 0 mc ms (sp_X11_grant G) (ix_zret mc ms Q)))))))))) (ix_aload 0 (ix_iload 5 (ix_vcall 11 2 0 0 mc ms (sp_X11_deny G) (ix_zret mc ms Q))))))))))
theorem b_X11_write_0 {l : Launch} {G : GT} {D mc ms : Nat} {Q : Post} : Imp l G M_X11_write (D + 3) mc ms Q (B_X11_write_0 G mc ms Q) 0 := sx_aload_n dX11_write_0 rfl (sx_iload_n dX11_write_1 rfl (sx_iload_n dX11_write_2 rfl (sx_vcall dX11_write_3 cf_X11_cellStatus (mg_3 (List.mem_of_getElem? (i := 104) rfl) rfl) (mg_3 (List.mem_of_getElem? (i := 106) rfl) rfl) (mg_p (List.mem_of_getElem? (i := 2) rfl) rfl) rfl c_X11_cellStatus (sx_istore dX11_write_6 (by decide) (sx_iload dX11_write_8 (sx_if_eq 20 dX11_write_10 (by decide) (sx_aload_n dX11_write_20 rfl (sx_getR dX11_write_21 fl_FootQuarrel_11 (fun _ _ _ => rfl) (sx_iload_n dX11_write_24 rfl (sx_aald dX11_write_25 (by decide) (by decide) rfl (sx_iload_n dX11_write_26 rfl (sx_lload_n dX11_write_27 rfl (sx_vcall dX11_write_28 cf_X8_put (mg_3 (List.mem_of_getElem? (i := 112) rfl) rfl) (mg_3 (List.mem_of_getElem? (i := 113) rfl) rfl) (mg_3 (List.mem_of_getElem? (i := 114) rfl) rfl) rfl c_X8_put (sx_aload_n dX11_write_31 rfl (sx_vcall dX11_write_32 cf_X11_grant (mg_3 (List.mem_of_getElem? (i := 96) rfl) rfl) (mg_3 (List.mem_of_getElem? (i := 98) rfl) rfl) (mg_p (List.mem_of_getElem? (i := 1) rfl) rfl) rfl c_X11_grant (sx_zret dX11_write_35 rfl)))))))))) (sx_aload_n dX11_write_13 rfl (sx_iload dX11_write_14 (sx_vcall dX11_write_16 cf_X11_deny (mg_3 (List.mem_of_getElem? (i := 88) rfl) rfl) (mg_3 (List.mem_of_getElem? (i := 90) rfl) rfl) (mg_p (List.mem_of_getElem? (i := 0) rfl) rfl) rfl c_X11_deny (sx_zret dX11_write_19 rfl))))))))))
def sp_X11_write (G : GT) : Sp := fun as S I J z Q => match as with
  | [.ref a0, .int a1, .int a2, .long a3] => B_X11_write_0 G 0 0 Q [some (.ref a0), some (.int a1), some (.int a2), some (.long a3), none, none] [] S I J z 0 0
  | _ => False
theorem c_X11_write {l : Launch} {G : GT} {D : Nat} : ∀ as S I J z Q, sp_X11_write G as S I J z Q → fqCall l G M_X11_write (D + 3) 0 0 as S I J z Q := by
  intro as S I J z Q h
  unfold sp_X11_write at h
  split at h
  · exact fq_enter _ (by decide +kernel) (Nat.le_of_ble_eq_true rfl) rfl (b_X11_write_0 _ _ _ _ _ _ _ _ h)
  · exact h.elim
theorem dX11_read_0 : decode cX11_read 0 = .ok (.aload_n 0, 1) := by decide +kernel
theorem dX11_read_1 : decode cX11_read 1 = .ok (.iload_n 1, 1) := by decide +kernel
theorem dX11_read_2 : decode cX11_read 2 = .ok (.iload_n 2, 1) := by decide +kernel
theorem dX11_read_3 : decode cX11_read 3 = .ok (.invokevirtual 89, 3) := by decide +kernel
theorem dX11_read_6 : decode cX11_read 6 = .ok (.istore_n 3, 1) := by decide +kernel
theorem dX11_read_7 : decode cX11_read 7 = .ok (.iload_n 3, 1) := by decide +kernel
theorem dX11_read_8 : decode cX11_read 8 = .ok (.ifCond .eq 10, 3) := by decide +kernel
theorem dX11_read_11 : decode cX11_read 11 = .ok (.aload_n 0, 1) := by decide +kernel
theorem dX11_read_12 : decode cX11_read 12 = .ok (.iload_n 3, 1) := by decide +kernel
theorem dX11_read_13 : decode cX11_read 13 = .ok (.invokevirtual 97, 3) := by decide +kernel
theorem dX11_read_16 : decode cX11_read 16 = .ok (.i2l, 1) := by decide +kernel
theorem dX11_read_17 : decode cX11_read 17 = .ok (.lreturn, 1) := by decide +kernel
theorem dX11_read_18 : decode cX11_read 18 = .ok (.aload_n 0, 1) := by decide +kernel
theorem dX11_read_19 : decode cX11_read 19 = .ok (.iconst 0, 1) := by decide +kernel
theorem dX11_read_20 : decode cX11_read 20 = .ok (.putfield 64, 3) := by decide +kernel
theorem dX11_read_23 : decode cX11_read 23 = .ok (.aload_n 0, 1) := by decide +kernel
theorem dX11_read_24 : decode cX11_read 24 = .ok (.getfield 11, 3) := by decide +kernel
theorem dX11_read_27 : decode cX11_read 27 = .ok (.iload_n 1, 1) := by decide +kernel
theorem dX11_read_28 : decode cX11_read 28 = .ok (.aaload, 1) := by decide +kernel
theorem dX11_read_29 : decode cX11_read 29 = .ok (.getfield 101, 3) := by decide +kernel
theorem dX11_read_32 : decode cX11_read 32 = .ok (.iload_n 2, 1) := by decide +kernel
theorem dX11_read_33 : decode cX11_read 33 = .ok (.laload, 1) := by decide +kernel
theorem dX11_read_34 : decode cX11_read 34 = .ok (.lreturn, 1) := by decide +kernel
abbrev M_X11_read : MT := (yX11_read, cX11_read, 4, (some .long))
theorem cf_X11_read : fq_cf M_X11_read 2 := ⟨(mg_1 (List.mem_of_getElem? (i := 1) rfl) rfl), (mg_3 (List.mem_of_getElem? (i := 119) rfl) rfl), ⟨by decide, by decide, by decide +kernel⟩, by decide⟩
def B_X11_read_0 (G : GT) (mc ms : Nat) (Q : Post) : Cn := ix_aload 0 (ix_iload 1 (ix_iload 2 (ix_vcall 11 3 0 0 mc ms (sp_X11_cellStatus G) (ix_istore 3 (ix_iload 3 (ix_if_eq (ix_aload 0 (ix_pushI 0 (ix_putI 11 10 (ix_aload 0 (ix_getR 11 0 (ix_iload 1 (ix_aald 20 (ix_getR 8 0 (ix_iload 2 (ix_lald (ix_lret mc ms Q))))))))))) (ix_aload 0 (ix_iload 3 (ix_vcall 11 2 0 0 mc ms (sp_X11_refuse G) (ix_i2l (ix_lret mc ms Q)))))))))))
theorem b_X11_read_0 {l : Launch} {G : GT} {D mc ms : Nat} {Q : Post} : Imp l G M_X11_read (D + 3) mc ms Q (B_X11_read_0 G mc ms Q) 0 := sx_aload_n dX11_read_0 rfl (sx_iload_n dX11_read_1 rfl (sx_iload_n dX11_read_2 rfl (sx_vcall dX11_read_3 cf_X11_cellStatus (mg_3 (List.mem_of_getElem? (i := 104) rfl) rfl) (mg_3 (List.mem_of_getElem? (i := 106) rfl) rfl) (mg_p (List.mem_of_getElem? (i := 2) rfl) rfl) rfl c_X11_cellStatus (sx_istore_n dX11_read_6 rfl (by decide) (sx_iload_n dX11_read_7 rfl (sx_if_eq 18 dX11_read_8 (by decide) (sx_aload_n dX11_read_18 rfl (sx_iconst dX11_read_19 rfl (sx_putI dX11_read_20 fl_FootQuarrel_64 (by decide) (fun _ _ _ => rfl) (fun _ => ⟨rfl, rfl⟩) (sx_aload_n dX11_read_23 rfl (sx_getR dX11_read_24 fl_FootQuarrel_11 (fun _ _ _ => rfl) (sx_iload_n dX11_read_27 rfl (sx_aald dX11_read_28 (by decide) (by decide) rfl (sx_getR dX11_read_29 fl_FootQuarrel_101 (fun _ _ _ => rfl) (sx_iload_n dX11_read_32 rfl (sx_lald dX11_read_33 (sx_lret dX11_read_34 rfl))))))))))) (sx_aload_n dX11_read_11 rfl (sx_iload_n dX11_read_12 rfl (sx_vcall dX11_read_13 cf_X11_refuse (mg_3 (List.mem_of_getElem? (i := 120) rfl) rfl) (mg_3 (List.mem_of_getElem? (i := 122) rfl) rfl) (mg_p (List.mem_of_getElem? (i := 3) rfl) rfl) rfl c_X11_refuse (sx_i2l dX11_read_16 (sx_lret dX11_read_17 rfl)))))))))))
def sp_X11_read (G : GT) : Sp := fun as S I J z Q => match as with
  | [.ref a0, .int a1, .int a2] => B_X11_read_0 G 0 0 Q [some (.ref a0), some (.int a1), some (.int a2), none] [] S I J z 0 0
  | _ => False
theorem c_X11_read {l : Launch} {G : GT} {D : Nat} : ∀ as S I J z Q, sp_X11_read G as S I J z Q → fqCall l G M_X11_read (D + 3) 0 0 as S I J z Q := by
  intro as S I J z Q h
  unfold sp_X11_read at h
  split at h
  · exact fq_enter _ (by decide +kernel) (Nat.le_of_ble_eq_true rfl) rfl (b_X11_read_0 _ _ _ _ _ _ _ _ h)
  · exact h.elim
theorem dX11_wall_0 : decode cX11_wall 0 = .ok (.aload_n 0, 1) := by decide +kernel
theorem dX11_wall_1 : decode cX11_wall 1 = .ok (.iload_n 1, 1) := by decide +kernel
theorem dX11_wall_2 : decode cX11_wall 2 = .ok (.invokevirtual 227, 3) := by decide +kernel
theorem dX11_wall_5 : decode cX11_wall 5 = .ok (.ifCond .ne 9, 3) := by decide +kernel
theorem dX11_wall_8 : decode cX11_wall 8 = .ok (.aload_n 0, 1) := by decide +kernel
theorem dX11_wall_9 : decode cX11_wall 9 = .ok (.iconst 1, 1) := by decide +kernel
theorem dX11_wall_10 : decode cX11_wall 10 = .ok (.invokevirtual 97, 3) := by decide +kernel
theorem dX11_wall_13 : decode cX11_wall 13 = .ok (.ireturn, 1) := by decide +kernel
theorem dX11_wall_14 : decode cX11_wall 14 = .ok (.aload_n 0, 1) := by decide +kernel
theorem dX11_wall_15 : decode cX11_wall 15 = .ok (.aload_n 0, 1) := by decide +kernel
theorem dX11_wall_16 : decode cX11_wall 16 = .ok (.getfield 46, 3) := by decide +kernel
theorem dX11_wall_19 : decode cX11_wall 19 = .ok (.iload_n 1, 1) := by decide +kernel
theorem dX11_wall_20 : decode cX11_wall 20 = .ok (.invokevirtual 230, 3) := by decide +kernel
theorem dX11_wall_23 : decode cX11_wall 23 = .ok (.invokevirtual 142, 3) := by decide +kernel
theorem dX11_wall_26 : decode cX11_wall 26 = .ok (.ireturn, 1) := by decide +kernel
abbrev M_X11_wall : MT := (yX11_wall, cX11_wall, 2, (some .int))
theorem cf_X11_wall : fq_cf M_X11_wall 1 := ⟨(mg_1 (List.mem_of_getElem? (i := 1) rfl) rfl), (mg_4 (List.mem_of_getElem? (i := 189) rfl) rfl), ⟨by decide, by decide, by decide +kernel⟩, by decide⟩
def B_X11_wall_0 (G : GT) (mc ms : Nat) (Q : Post) : Cn := ix_aload 0 (ix_iload 1 (ix_vcall 11 2 0 0 mc ms (sp_X11_isWall G) (ix_if_ne (ix_aload 0 (ix_aload 0 (ix_getR 11 6 (ix_iload 1 (ix_vcall 6 2 0 0 mc ms (sp_X6_wallPlace G) (ix_vcall 11 2 0 0 mc ms (sp_X11_answer G) (ix_iret mc ms Q))))))) (ix_aload 0 (ix_pushI 1 (ix_vcall 11 2 0 0 mc ms (sp_X11_refuse G) (ix_iret mc ms Q)))))))
theorem b_X11_wall_0 {l : Launch} {G : GT} {D mc ms : Nat} {Q : Post} : Imp l G M_X11_wall (D + 3) mc ms Q (B_X11_wall_0 G mc ms Q) 0 := sx_aload_n dX11_wall_0 rfl (sx_iload_n dX11_wall_1 rfl (sx_vcall dX11_wall_2 cf_X11_isWall (mg_4 (List.mem_of_getElem? (i := 190) rfl) rfl) (mg_4 (List.mem_of_getElem? (i := 192) rfl) rfl) (mg_p (List.mem_of_getElem? (i := 25) rfl) rfl) rfl c_X11_isWall (sx_if_ne 14 dX11_wall_5 (by decide) (sx_aload_n dX11_wall_14 rfl (sx_aload_n dX11_wall_15 rfl (sx_getR dX11_wall_16 fl_FootQuarrel_46 (fun _ _ _ => rfl) (sx_iload_n dX11_wall_19 rfl (sx_vcall dX11_wall_20 cf_X6_wallPlace (mg_4 (List.mem_of_getElem? (i := 201) rfl) rfl) (mg_4 (List.mem_of_getElem? (i := 202) rfl) rfl) (mg_4 (List.mem_of_getElem? (i := 203) rfl) rfl) rfl c_X6_wallPlace (sx_vcall dX11_wall_23 cf_X11_answer (mg_4 (List.mem_of_getElem? (i := 72) rfl) rfl) (mg_4 (List.mem_of_getElem? (i := 74) rfl) rfl) (mg_p (List.mem_of_getElem? (i := 17) rfl) rfl) rfl c_X11_answer (sx_iret dX11_wall_26 rfl))))))) (sx_aload_n dX11_wall_8 rfl (sx_iconst dX11_wall_9 rfl (sx_vcall dX11_wall_10 cf_X11_refuse (mg_3 (List.mem_of_getElem? (i := 120) rfl) rfl) (mg_3 (List.mem_of_getElem? (i := 122) rfl) rfl) (mg_p (List.mem_of_getElem? (i := 3) rfl) rfl) rfl c_X11_refuse (sx_iret dX11_wall_13 rfl)))))))
def sp_X11_wall (G : GT) : Sp := fun as S I J z Q => match as with
  | [.ref a0, .int a1] => B_X11_wall_0 G 0 0 Q [some (.ref a0), some (.int a1)] [] S I J z 0 0
  | _ => False
theorem c_X11_wall {l : Launch} {G : GT} {D : Nat} : ∀ as S I J z Q, sp_X11_wall G as S I J z Q → fqCall l G M_X11_wall (D + 3) 0 0 as S I J z Q := by
  intro as S I J z Q h
  unfold sp_X11_wall at h
  split at h
  · exact fq_enter _ (by decide +kernel) (Nat.le_of_ble_eq_true rfl) rfl (b_X11_wall_0 _ _ _ _ _ _ _ _ h)
  · exact h.elim
theorem dX11_near_0 : decode cX11_near 0 = .ok (.aload_n 0, 1) := by decide +kernel
theorem dX11_near_1 : decode cX11_near 1 = .ok (.iload_n 1, 1) := by decide +kernel
theorem dX11_near_2 : decode cX11_near 2 = .ok (.iload_n 2, 1) := by decide +kernel
theorem dX11_near_3 : decode cX11_near 3 = .ok (.invokevirtual 284, 3) := by decide +kernel
theorem dX11_near_6 : decode cX11_near 6 = .ok (.ifCond .ne 9, 3) := by decide +kernel
theorem dX11_near_9 : decode cX11_near 9 = .ok (.aload_n 0, 1) := by decide +kernel
theorem dX11_near_10 : decode cX11_near 10 = .ok (.iconst 1, 1) := by decide +kernel
theorem dX11_near_11 : decode cX11_near 11 = .ok (.invokevirtual 97, 3) := by decide +kernel
theorem dX11_near_14 : decode cX11_near 14 = .ok (.ireturn, 1) := by decide +kernel
theorem dX11_near_15 : decode cX11_near 15 = .ok (.aload_n 0, 1) := by decide +kernel
theorem dX11_near_16 : decode cX11_near 16 = .ok (.aload_n 0, 1) := by decide +kernel
theorem dX11_near_17 : decode cX11_near 17 = .ok (.getfield 46, 3) := by decide +kernel
theorem dX11_near_20 : decode cX11_near 20 = .ok (.iload_n 1, 1) := by decide +kernel
theorem dX11_near_21 : decode cX11_near 21 = .ok (.iload_n 2, 1) := by decide +kernel
theorem dX11_near_22 : decode cX11_near 22 = .ok (.invokevirtual 287, 3) := by decide +kernel
theorem dX11_near_25 : decode cX11_near 25 = .ok (.iconst (-1), 1) := by decide +kernel
theorem dX11_near_26 : decode cX11_near 26 = .ok (.if_icmp .eq 7, 3) := by decide +kernel
theorem dX11_near_29 : decode cX11_near 29 = .ok (.iconst 1, 1) := by decide +kernel
theorem dX11_near_30 : decode cX11_near 30 = .ok (.goto 4, 3) := by decide +kernel
theorem dX11_near_33 : decode cX11_near 33 = .ok (.iconst 0, 1) := by decide +kernel
theorem dX11_near_34 : decode cX11_near 34 = .ok (.invokestatic 186, 3) := by decide +kernel
theorem dX11_near_37 : decode cX11_near 37 = .ok (.invokevirtual 142, 3) := by decide +kernel
theorem dX11_near_40 : decode cX11_near 40 = .ok (.ireturn, 1) := by decide +kernel
abbrev M_X11_near : MT := (yX11_near, cX11_near, 3, (some .int))
theorem cf_X11_near : fq_cf M_X11_near 2 := ⟨(mg_1 (List.mem_of_getElem? (i := 1) rfl) rfl), (mg_4 (List.mem_of_getElem? (i := 227) rfl) rfl), ⟨by decide, by decide, by decide +kernel⟩, by decide⟩
def B_X11_near_34 (G : GT) (mc ms : Nat) (Q : Post) : Cn := ix_call 1 0 0 mc ms (sp_X11_oneIf G) (ix_vcall 11 2 0 0 mc ms (sp_X11_answer G) (ix_iret mc ms Q))
theorem b_X11_near_34 {l : Launch} {G : GT} {D mc ms : Nat} {Q : Post} : Imp l G M_X11_near (D + 3) mc ms Q (B_X11_near_34 G mc ms Q) 34 := sx_scall dX11_near_34 cf_X11_oneIf (mg_4 (List.mem_of_getElem? (i := 163) rfl) rfl) (mg_4 (List.mem_of_getElem? (i := 164) rfl) rfl) c_X11_oneIf (sx_vcall dX11_near_37 cf_X11_answer (mg_4 (List.mem_of_getElem? (i := 72) rfl) rfl) (mg_4 (List.mem_of_getElem? (i := 74) rfl) rfl) (mg_p (List.mem_of_getElem? (i := 17) rfl) rfl) rfl c_X11_answer (sx_iret dX11_near_40 rfl))
def B_X11_near_0 (G : GT) (mc ms : Nat) (Q : Post) : Cn := ix_aload 0 (ix_iload 1 (ix_iload 2 (ix_vcall 11 3 0 0 mc ms (sp_X11_areTwo G) (ix_if_ne (ix_aload 0 (ix_aload 0 (ix_getR 11 6 (ix_iload 1 (ix_iload 2 (ix_vcall 6 3 0 0 mc ms (sp_X6_sharedWall G) (ix_pushI (-1) (ix_icmp_eq (ix_pushI 0 ((B_X11_near_34 G mc ms Q))) (ix_pushI 1 ((B_X11_near_34 G mc ms Q))))))))))) (ix_aload 0 (ix_pushI 1 (ix_vcall 11 2 0 0 mc ms (sp_X11_refuse G) (ix_iret mc ms Q))))))))
theorem b_X11_near_0 {l : Launch} {G : GT} {D mc ms : Nat} {Q : Post} : Imp l G M_X11_near (D + 3) mc ms Q (B_X11_near_0 G mc ms Q) 0 := sx_aload_n dX11_near_0 rfl (sx_iload_n dX11_near_1 rfl (sx_iload_n dX11_near_2 rfl (sx_vcall dX11_near_3 cf_X11_areTwo (mg_4 (List.mem_of_getElem? (i := 228) rfl) rfl) (mg_4 (List.mem_of_getElem? (i := 230) rfl) rfl) (mg_p (List.mem_of_getElem? (i := 27) rfl) rfl) rfl c_X11_areTwo (sx_if_ne 15 dX11_near_6 (by decide) (sx_aload_n dX11_near_15 rfl (sx_aload_n dX11_near_16 rfl (sx_getR dX11_near_17 fl_FootQuarrel_46 (fun _ _ _ => rfl) (sx_iload_n dX11_near_20 rfl (sx_iload_n dX11_near_21 rfl (sx_vcall dX11_near_22 cf_X6_sharedWall (mg_4 (List.mem_of_getElem? (i := 232) rfl) rfl) (mg_4 (List.mem_of_getElem? (i := 233) rfl) rfl) (mg_4 (List.mem_of_getElem? (i := 234) rfl) rfl) rfl c_X6_sharedWall (sx_iconst dX11_near_25 rfl (sx_icmp_eq 33 dX11_near_26 (by decide) (sx_iconst dX11_near_33 rfl (b_X11_near_34)) (sx_iconst dX11_near_29 rfl (sx_goto 34 dX11_near_30 (by decide) (b_X11_near_34))))))))))) (sx_aload_n dX11_near_9 rfl (sx_iconst dX11_near_10 rfl (sx_vcall dX11_near_11 cf_X11_refuse (mg_3 (List.mem_of_getElem? (i := 120) rfl) rfl) (mg_3 (List.mem_of_getElem? (i := 122) rfl) rfl) (mg_p (List.mem_of_getElem? (i := 3) rfl) rfl) rfl c_X11_refuse (sx_iret dX11_near_14 rfl))))))))
def sp_X11_near (G : GT) : Sp := fun as S I J z Q => match as with
  | [.ref a0, .int a1, .int a2] => B_X11_near_0 G 0 0 Q [some (.ref a0), some (.int a1), some (.int a2)] [] S I J z 0 0
  | _ => False
theorem c_X11_near {l : Launch} {G : GT} {D : Nat} : ∀ as S I J z Q, sp_X11_near G as S I J z Q → fqCall l G M_X11_near (D + 3) 0 0 as S I J z Q := by
  intro as S I J z Q h
  unfold sp_X11_near at h
  split at h
  · exact fq_enter _ (by decide +kernel) (Nat.le_of_ble_eq_true rfl) rfl (b_X11_near_0 _ _ _ _ _ _ _ _ h)
  · exact h.elim
theorem dX11_neighbours_0 : decode cX11_neighbours 0 = .ok (.aload_n 0, 1) := by decide +kernel
theorem dX11_neighbours_1 : decode cX11_neighbours 1 = .ok (.iload_n 1, 1) := by decide +kernel
theorem dX11_neighbours_2 : decode cX11_neighbours 2 = .ok (.invokevirtual 233, 3) := by decide +kernel
theorem dX11_neighbours_5 : decode cX11_neighbours 5 = .ok (.ifCond .ne 9, 3) := by decide +kernel
theorem dX11_neighbours_8 : decode cX11_neighbours 8 = .ok (.aload_n 0, 1) := by decide +kernel
theorem dX11_neighbours_9 : decode cX11_neighbours 9 = .ok (.iconst 1, 1) := by decide +kernel
theorem dX11_neighbours_10 : decode cX11_neighbours 10 = .ok (.invokevirtual 97, 3) := by decide +kernel
theorem dX11_neighbours_13 : decode cX11_neighbours 13 = .ok (.ireturn, 1) := by decide +kernel
theorem dX11_neighbours_14 : decode cX11_neighbours 14 = .ok (.aload_n 0, 1) := by decide +kernel
theorem dX11_neighbours_15 : decode cX11_neighbours 15 = .ok (.aload_n 0, 1) := by decide +kernel
theorem dX11_neighbours_16 : decode cX11_neighbours 16 = .ok (.getfield 46, 3) := by decide +kernel
theorem dX11_neighbours_19 : decode cX11_neighbours 19 = .ok (.iload_n 1, 1) := by decide +kernel
theorem dX11_neighbours_20 : decode cX11_neighbours 20 = .ok (.invokevirtual 290, 3) := by decide +kernel
theorem dX11_neighbours_23 : decode cX11_neighbours 23 = .ok (.invokevirtual 142, 3) := by decide +kernel
theorem dX11_neighbours_26 : decode cX11_neighbours 26 = .ok (.ireturn, 1) := by decide +kernel
abbrev M_X11_neighbours : MT := (yX11_neighbours, cX11_neighbours, 2, (some .int))
theorem cf_X11_neighbours : fq_cf M_X11_neighbours 1 := ⟨(mg_1 (List.mem_of_getElem? (i := 1) rfl) rfl), (mg_5 (List.mem_of_getElem? (i := 5) rfl) rfl), ⟨by decide, by decide, by decide +kernel⟩, by decide⟩
def B_X11_neighbours_0 (G : GT) (mc ms : Nat) (Q : Post) : Cn := ix_aload 0 (ix_iload 1 (ix_vcall 11 2 0 0 mc ms (sp_X11_isPerson G) (ix_if_ne (ix_aload 0 (ix_aload 0 (ix_getR 11 6 (ix_iload 1 (ix_vcall 6 2 0 0 mc ms (sp_X6_neighbourSet G) (ix_vcall 11 2 0 0 mc ms (sp_X11_answer G) (ix_iret mc ms Q))))))) (ix_aload 0 (ix_pushI 1 (ix_vcall 11 2 0 0 mc ms (sp_X11_refuse G) (ix_iret mc ms Q)))))))
theorem b_X11_neighbours_0 {l : Launch} {G : GT} {D mc ms : Nat} {Q : Post} : Imp l G M_X11_neighbours (D + 3) mc ms Q (B_X11_neighbours_0 G mc ms Q) 0 := sx_aload_n dX11_neighbours_0 rfl (sx_iload_n dX11_neighbours_1 rfl (sx_vcall dX11_neighbours_2 cf_X11_isPerson (mg_4 (List.mem_of_getElem? (i := 209) rfl) rfl) (mg_4 (List.mem_of_getElem? (i := 211) rfl) rfl) (mg_p (List.mem_of_getElem? (i := 26) rfl) rfl) rfl c_X11_isPerson (sx_if_ne 14 dX11_neighbours_5 (by decide) (sx_aload_n dX11_neighbours_14 rfl (sx_aload_n dX11_neighbours_15 rfl (sx_getR dX11_neighbours_16 fl_FootQuarrel_46 (fun _ _ _ => rfl) (sx_iload_n dX11_neighbours_19 rfl (sx_vcall dX11_neighbours_20 cf_X6_neighbourSet (mg_5 (List.mem_of_getElem? (i := 6) rfl) rfl) (mg_5 (List.mem_of_getElem? (i := 7) rfl) rfl) (mg_5 (List.mem_of_getElem? (i := 8) rfl) rfl) rfl c_X6_neighbourSet (sx_vcall dX11_neighbours_23 cf_X11_answer (mg_4 (List.mem_of_getElem? (i := 72) rfl) rfl) (mg_4 (List.mem_of_getElem? (i := 74) rfl) rfl) (mg_p (List.mem_of_getElem? (i := 17) rfl) rfl) rfl c_X11_answer (sx_iret dX11_neighbours_26 rfl))))))) (sx_aload_n dX11_neighbours_8 rfl (sx_iconst dX11_neighbours_9 rfl (sx_vcall dX11_neighbours_10 cf_X11_refuse (mg_3 (List.mem_of_getElem? (i := 120) rfl) rfl) (mg_3 (List.mem_of_getElem? (i := 122) rfl) rfl) (mg_p (List.mem_of_getElem? (i := 3) rfl) rfl) rfl c_X11_refuse (sx_iret dX11_neighbours_13 rfl)))))))
def sp_X11_neighbours (G : GT) : Sp := fun as S I J z Q => match as with
  | [.ref a0, .int a1] => B_X11_neighbours_0 G 0 0 Q [some (.ref a0), some (.int a1)] [] S I J z 0 0
  | _ => False
theorem c_X11_neighbours {l : Launch} {G : GT} {D : Nat} : ∀ as S I J z Q, sp_X11_neighbours G as S I J z Q → fqCall l G M_X11_neighbours (D + 3) 0 0 as S I J z Q := by
  intro as S I J z Q h
  unfold sp_X11_neighbours at h
  split at h
  · exact fq_enter _ (by decide +kernel) (Nat.le_of_ble_eq_true rfl) rfl (b_X11_neighbours_0 _ _ _ _ _ _ _ _ h)
  · exact h.elim
theorem dX11_loud_0 : decode cX11_loud 0 = .ok (.aload_n 0, 1) := by decide +kernel
theorem dX11_loud_1 : decode cX11_loud 1 = .ok (.iload_n 1, 1) := by decide +kernel
theorem dX11_loud_2 : decode cX11_loud 2 = .ok (.invokevirtual 233, 3) := by decide +kernel
theorem dX11_loud_5 : decode cX11_loud 5 = .ok (.ifCond .ne 9, 3) := by decide +kernel
theorem dX11_loud_8 : decode cX11_loud 8 = .ok (.aload_n 0, 1) := by decide +kernel
theorem dX11_loud_9 : decode cX11_loud 9 = .ok (.iconst 1, 1) := by decide +kernel
theorem dX11_loud_10 : decode cX11_loud 10 = .ok (.invokevirtual 97, 3) := by decide +kernel
theorem dX11_loud_13 : decode cX11_loud 13 = .ok (.ireturn, 1) := by decide +kernel
theorem dX11_loud_14 : decode cX11_loud 14 = .ok (.aload_n 0, 1) := by decide +kernel
theorem dX11_loud_15 : decode cX11_loud 15 = .ok (.aload_n 0, 1) := by decide +kernel
theorem dX11_loud_16 : decode cX11_loud 16 = .ok (.getfield 46, 3) := by decide +kernel
theorem dX11_loud_19 : decode cX11_loud 19 = .ok (.iload_n 1, 1) := by decide +kernel
theorem dX11_loud_20 : decode cX11_loud 20 = .ok (.invokevirtual 327, 3) := by decide +kernel
theorem dX11_loud_23 : decode cX11_loud 23 = .ok (.invokevirtual 142, 3) := by decide +kernel
theorem dX11_loud_26 : decode cX11_loud 26 = .ok (.ireturn, 1) := by decide +kernel
abbrev M_X11_loud : MT := (yX11_loud, cX11_loud, 2, (some .int))
theorem cf_X11_loud : fq_cf M_X11_loud 1 := ⟨(mg_1 (List.mem_of_getElem? (i := 1) rfl) rfl), (mg_5 (List.mem_of_getElem? (i := 130) rfl) rfl), ⟨by decide, by decide, by decide +kernel⟩, by decide⟩
def B_X11_loud_0 (G : GT) (mc ms : Nat) (Q : Post) : Cn := ix_aload 0 (ix_iload 1 (ix_vcall 11 2 0 0 mc ms (sp_X11_isPerson G) (ix_if_ne (ix_aload 0 (ix_aload 0 (ix_getR 11 6 (ix_iload 1 (ix_vcall 6 2 0 0 mc ms (sp_X6_loudnessOf G) (ix_vcall 11 2 0 0 mc ms (sp_X11_answer G) (ix_iret mc ms Q))))))) (ix_aload 0 (ix_pushI 1 (ix_vcall 11 2 0 0 mc ms (sp_X11_refuse G) (ix_iret mc ms Q)))))))
theorem b_X11_loud_0 {l : Launch} {G : GT} {D mc ms : Nat} {Q : Post} : Imp l G M_X11_loud (D + 4) mc ms Q (B_X11_loud_0 G mc ms Q) 0 := sx_aload_n dX11_loud_0 rfl (sx_iload_n dX11_loud_1 rfl (sx_vcall dX11_loud_2 cf_X11_isPerson (mg_4 (List.mem_of_getElem? (i := 209) rfl) rfl) (mg_4 (List.mem_of_getElem? (i := 211) rfl) rfl) (mg_p (List.mem_of_getElem? (i := 26) rfl) rfl) rfl c_X11_isPerson (sx_if_ne 14 dX11_loud_5 (by decide) (sx_aload_n dX11_loud_14 rfl (sx_aload_n dX11_loud_15 rfl (sx_getR dX11_loud_16 fl_FootQuarrel_46 (fun _ _ _ => rfl) (sx_iload_n dX11_loud_19 rfl (sx_vcall dX11_loud_20 cf_X6_loudnessOf (mg_5 (List.mem_of_getElem? (i := 131) rfl) rfl) (mg_5 (List.mem_of_getElem? (i := 132) rfl) rfl) (mg_5 (List.mem_of_getElem? (i := 133) rfl) rfl) rfl c_X6_loudnessOf (sx_vcall dX11_loud_23 cf_X11_answer (mg_4 (List.mem_of_getElem? (i := 72) rfl) rfl) (mg_4 (List.mem_of_getElem? (i := 74) rfl) rfl) (mg_p (List.mem_of_getElem? (i := 17) rfl) rfl) rfl c_X11_answer (sx_iret dX11_loud_26 rfl))))))) (sx_aload_n dX11_loud_8 rfl (sx_iconst dX11_loud_9 rfl (sx_vcall dX11_loud_10 cf_X11_refuse (mg_3 (List.mem_of_getElem? (i := 120) rfl) rfl) (mg_3 (List.mem_of_getElem? (i := 122) rfl) rfl) (mg_p (List.mem_of_getElem? (i := 3) rfl) rfl) rfl c_X11_refuse (sx_iret dX11_loud_13 rfl)))))))
def sp_X11_loud (G : GT) : Sp := fun as S I J z Q => match as with
  | [.ref a0, .int a1] => B_X11_loud_0 G 0 0 Q [some (.ref a0), some (.int a1)] [] S I J z 0 0
  | _ => False
theorem c_X11_loud {l : Launch} {G : GT} {D : Nat} : ∀ as S I J z Q, sp_X11_loud G as S I J z Q → fqCall l G M_X11_loud (D + 4) 0 0 as S I J z Q := by
  intro as S I J z Q h
  unfold sp_X11_loud at h
  split at h
  · exact fq_enter _ (by decide +kernel) (Nat.le_of_ble_eq_true rfl) rfl (b_X11_loud_0 _ _ _ _ _ _ _ _ h)
  · exact h.elim
theorem dX11_heardBy_0 : decode cX11_heardBy 0 = .ok (.aload_n 0, 1) := by decide +kernel
theorem dX11_heardBy_1 : decode cX11_heardBy 1 = .ok (.iload_n 1, 1) := by decide +kernel
theorem dX11_heardBy_2 : decode cX11_heardBy 2 = .ok (.invokevirtual 233, 3) := by decide +kernel
theorem dX11_heardBy_5 : decode cX11_heardBy 5 = .ok (.ifCond .ne 9, 3) := by decide +kernel
theorem dX11_heardBy_8 : decode cX11_heardBy 8 = .ok (.aload_n 0, 1) := by decide +kernel
theorem dX11_heardBy_9 : decode cX11_heardBy 9 = .ok (.iconst 1, 1) := by decide +kernel
theorem dX11_heardBy_10 : decode cX11_heardBy 10 = .ok (.invokevirtual 97, 3) := by decide +kernel
theorem dX11_heardBy_13 : decode cX11_heardBy 13 = .ok (.ireturn, 1) := by decide +kernel
theorem dX11_heardBy_14 : decode cX11_heardBy 14 = .ok (.aload_n 0, 1) := by decide +kernel
theorem dX11_heardBy_15 : decode cX11_heardBy 15 = .ok (.aload_n 0, 1) := by decide +kernel
theorem dX11_heardBy_16 : decode cX11_heardBy 16 = .ok (.getfield 46, 3) := by decide +kernel
theorem dX11_heardBy_19 : decode cX11_heardBy 19 = .ok (.iload_n 1, 1) := by decide +kernel
theorem dX11_heardBy_20 : decode cX11_heardBy 20 = .ok (.invokevirtual 333, 3) := by decide +kernel
theorem dX11_heardBy_23 : decode cX11_heardBy 23 = .ok (.invokevirtual 142, 3) := by decide +kernel
theorem dX11_heardBy_26 : decode cX11_heardBy 26 = .ok (.ireturn, 1) := by decide +kernel
abbrev M_X11_heardBy : MT := (yX11_heardBy, cX11_heardBy, 2, (some .int))
theorem cf_X11_heardBy : fq_cf M_X11_heardBy 1 := ⟨(mg_1 (List.mem_of_getElem? (i := 1) rfl) rfl), (mg_5 (List.mem_of_getElem? (i := 148) rfl) rfl), ⟨by decide, by decide, by decide +kernel⟩, by decide⟩
def B_X11_heardBy_0 (G : GT) (mc ms : Nat) (Q : Post) : Cn := ix_aload 0 (ix_iload 1 (ix_vcall 11 2 0 0 mc ms (sp_X11_isPerson G) (ix_if_ne (ix_aload 0 (ix_aload 0 (ix_getR 11 6 (ix_iload 1 (ix_vcall 6 2 0 0 mc ms (sp_X6_hearerSet G) (ix_vcall 11 2 0 0 mc ms (sp_X11_answer G) (ix_iret mc ms Q))))))) (ix_aload 0 (ix_pushI 1 (ix_vcall 11 2 0 0 mc ms (sp_X11_refuse G) (ix_iret mc ms Q)))))))
theorem b_X11_heardBy_0 {l : Launch} {G : GT} {D mc ms : Nat} {Q : Post} : Imp l G M_X11_heardBy (D + 5) mc ms Q (B_X11_heardBy_0 G mc ms Q) 0 := sx_aload_n dX11_heardBy_0 rfl (sx_iload_n dX11_heardBy_1 rfl (sx_vcall dX11_heardBy_2 cf_X11_isPerson (mg_4 (List.mem_of_getElem? (i := 209) rfl) rfl) (mg_4 (List.mem_of_getElem? (i := 211) rfl) rfl) (mg_p (List.mem_of_getElem? (i := 26) rfl) rfl) rfl c_X11_isPerson (sx_if_ne 14 dX11_heardBy_5 (by decide) (sx_aload_n dX11_heardBy_14 rfl (sx_aload_n dX11_heardBy_15 rfl (sx_getR dX11_heardBy_16 fl_FootQuarrel_46 (fun _ _ _ => rfl) (sx_iload_n dX11_heardBy_19 rfl (sx_vcall dX11_heardBy_20 cf_X6_hearerSet (mg_5 (List.mem_of_getElem? (i := 149) rfl) rfl) (mg_5 (List.mem_of_getElem? (i := 150) rfl) rfl) (mg_5 (List.mem_of_getElem? (i := 151) rfl) rfl) rfl c_X6_hearerSet (sx_vcall dX11_heardBy_23 cf_X11_answer (mg_4 (List.mem_of_getElem? (i := 72) rfl) rfl) (mg_4 (List.mem_of_getElem? (i := 74) rfl) rfl) (mg_p (List.mem_of_getElem? (i := 17) rfl) rfl) rfl c_X11_answer (sx_iret dX11_heardBy_26 rfl))))))) (sx_aload_n dX11_heardBy_8 rfl (sx_iconst dX11_heardBy_9 rfl (sx_vcall dX11_heardBy_10 cf_X11_refuse (mg_3 (List.mem_of_getElem? (i := 120) rfl) rfl) (mg_3 (List.mem_of_getElem? (i := 122) rfl) rfl) (mg_p (List.mem_of_getElem? (i := 3) rfl) rfl) rfl c_X11_refuse (sx_iret dX11_heardBy_13 rfl)))))))
def sp_X11_heardBy (G : GT) : Sp := fun as S I J z Q => match as with
  | [.ref a0, .int a1] => B_X11_heardBy_0 G 0 0 Q [some (.ref a0), some (.int a1)] [] S I J z 0 0
  | _ => False
theorem c_X11_heardBy {l : Launch} {G : GT} {D : Nat} : ∀ as S I J z Q, sp_X11_heardBy G as S I J z Q → fqCall l G M_X11_heardBy (D + 5) 0 0 as S I J z Q := by
  intro as S I J z Q h
  unfold sp_X11_heardBy at h
  split at h
  · exact fq_enter _ (by decide +kernel) (Nat.le_of_ble_eq_true rfl) rfl (b_X11_heardBy_0 _ _ _ _ _ _ _ _ h)
  · exact h.elim
theorem dX11_angerIn_0 : decode cX11_angerIn 0 = .ok (.aload_n 0, 1) := by decide +kernel
theorem dX11_angerIn_1 : decode cX11_angerIn 1 = .ok (.iload_n 1, 1) := by decide +kernel
theorem dX11_angerIn_2 : decode cX11_angerIn 2 = .ok (.invokevirtual 233, 3) := by decide +kernel
theorem dX11_angerIn_5 : decode cX11_angerIn 5 = .ok (.ifCond .eq 13, 3) := by decide +kernel
theorem dX11_angerIn_8 : decode cX11_angerIn 8 = .ok (.iload_n 2, 1) := by decide +kernel
theorem dX11_angerIn_9 : decode cX11_angerIn 9 = .ok (.iconst 0, 1) := by decide +kernel
theorem dX11_angerIn_10 : decode cX11_angerIn 10 = .ok (.bipush 99, 2) := by decide +kernel
theorem dX11_angerIn_12 : decode cX11_angerIn 12 = .ok (.invokestatic 74, 3) := by decide +kernel
theorem dX11_angerIn_15 : decode cX11_angerIn 15 = .ok (.ifCond .ne 9, 3) := by decide +kernel
theorem dX11_angerIn_18 : decode cX11_angerIn 18 = .ok (.aload_n 0, 1) := by decide +kernel
theorem dX11_angerIn_19 : decode cX11_angerIn 19 = .ok (.iconst 1, 1) := by decide +kernel
theorem dX11_angerIn_20 : decode cX11_angerIn 20 = .ok (.invokevirtual 97, 3) := by decide +kernel
theorem dX11_angerIn_23 : decode cX11_angerIn 23 = .ok (.ireturn, 1) := by decide +kernel
theorem dX11_angerIn_24 : decode cX11_angerIn 24 = .ok (.aload_n 0, 1) := by decide +kernel
theorem dX11_angerIn_25 : decode cX11_angerIn 25 = .ok (.aload_n 0, 1) := by decide +kernel
theorem dX11_angerIn_26 : decode cX11_angerIn 26 = .ok (.getfield 46, 3) := by decide +kernel
theorem dX11_angerIn_29 : decode cX11_angerIn 29 = .ok (.iload_n 1, 1) := by decide +kernel
theorem dX11_angerIn_30 : decode cX11_angerIn 30 = .ok (.iload_n 2, 1) := by decide +kernel
theorem dX11_angerIn_31 : decode cX11_angerIn 31 = .ok (.invokevirtual 357, 3) := by decide +kernel
theorem dX11_angerIn_34 : decode cX11_angerIn 34 = .ok (.invokevirtual 142, 3) := by decide +kernel
theorem dX11_angerIn_37 : decode cX11_angerIn 37 = .ok (.ireturn, 1) := by decide +kernel
abbrev M_X11_angerIn : MT := (yX11_angerIn, cX11_angerIn, 3, (some .int))
theorem cf_X11_angerIn : fq_cf M_X11_angerIn 2 := ⟨(mg_1 (List.mem_of_getElem? (i := 1) rfl) rfl), (mg_5 (List.mem_of_getElem? (i := 202) rfl) rfl), ⟨by decide, by decide, by decide +kernel⟩, by decide⟩
def B_X11_angerIn_18 (G : GT) (mc ms : Nat) (Q : Post) : Cn := ix_aload 0 (ix_pushI 1 (ix_vcall 11 2 0 0 mc ms (sp_X11_refuse G) (ix_iret mc ms Q)))
theorem b_X11_angerIn_18 {l : Launch} {G : GT} {D mc ms : Nat} {Q : Post} : Imp l G M_X11_angerIn (D + 2) mc ms Q (B_X11_angerIn_18 G mc ms Q) 18 := sx_aload_n dX11_angerIn_18 rfl (sx_iconst dX11_angerIn_19 rfl (sx_vcall dX11_angerIn_20 cf_X11_refuse (mg_3 (List.mem_of_getElem? (i := 120) rfl) rfl) (mg_3 (List.mem_of_getElem? (i := 122) rfl) rfl) (mg_p (List.mem_of_getElem? (i := 3) rfl) rfl) rfl c_X11_refuse (sx_iret dX11_angerIn_23 rfl)))
def B_X11_angerIn_0 (G : GT) (mc ms : Nat) (Q : Post) : Cn := ix_aload 0 (ix_iload 1 (ix_vcall 11 2 0 0 mc ms (sp_X11_isPerson G) (ix_if_eq ((B_X11_angerIn_18 G mc ms Q)) (ix_iload 2 (ix_pushI 0 (ix_pushI 99 (ix_call 3 0 0 mc ms (sp_X11_isWithin G) (ix_if_ne (ix_aload 0 (ix_aload 0 (ix_getR 11 6 (ix_iload 1 (ix_iload 2 (ix_vcall 6 3 0 0 mc ms (sp_X6_angerBehind G) (ix_vcall 11 2 0 0 mc ms (sp_X11_answer G) (ix_iret mc ms Q)))))))) ((B_X11_angerIn_18 G mc ms Q))))))))))
theorem b_X11_angerIn_0 {l : Launch} {G : GT} {D mc ms : Nat} {Q : Post} : Imp l G M_X11_angerIn (D + 2) mc ms Q (B_X11_angerIn_0 G mc ms Q) 0 := sx_aload_n dX11_angerIn_0 rfl (sx_iload_n dX11_angerIn_1 rfl (sx_vcall dX11_angerIn_2 cf_X11_isPerson (mg_4 (List.mem_of_getElem? (i := 209) rfl) rfl) (mg_4 (List.mem_of_getElem? (i := 211) rfl) rfl) (mg_p (List.mem_of_getElem? (i := 26) rfl) rfl) rfl c_X11_isPerson (sx_if_eq 18 dX11_angerIn_5 (by decide) (b_X11_angerIn_18) (sx_iload_n dX11_angerIn_8 rfl (sx_iconst dX11_angerIn_9 rfl (sx_bipush dX11_angerIn_10 rfl (sx_scall dX11_angerIn_12 cf_X11_isWithin (mg_3 (List.mem_of_getElem? (i := 85) rfl) rfl) (mg_3 (List.mem_of_getElem? (i := 86) rfl) rfl) c_X11_isWithin (sx_if_ne 24 dX11_angerIn_15 (by decide) (sx_aload_n dX11_angerIn_24 rfl (sx_aload_n dX11_angerIn_25 rfl (sx_getR dX11_angerIn_26 fl_FootQuarrel_46 (fun _ _ _ => rfl) (sx_iload_n dX11_angerIn_29 rfl (sx_iload_n dX11_angerIn_30 rfl (sx_vcall dX11_angerIn_31 cf_X6_angerBehind (mg_5 (List.mem_of_getElem? (i := 203) rfl) rfl) (mg_5 (List.mem_of_getElem? (i := 87) rfl) rfl) (mg_5 (List.mem_of_getElem? (i := 88) rfl) rfl) rfl c_X6_angerBehind (sx_vcall dX11_angerIn_34 cf_X11_answer (mg_4 (List.mem_of_getElem? (i := 72) rfl) rfl) (mg_4 (List.mem_of_getElem? (i := 74) rfl) rfl) (mg_p (List.mem_of_getElem? (i := 17) rfl) rfl) rfl c_X11_answer (sx_iret dX11_angerIn_37 rfl)))))))) (b_X11_angerIn_18)))))))))
def sp_X11_angerIn (G : GT) : Sp := fun as S I J z Q => match as with
  | [.ref a0, .int a1, .int a2] => B_X11_angerIn_0 G 0 0 Q [some (.ref a0), some (.int a1), some (.int a2)] [] S I J z 0 0
  | _ => False
theorem c_X11_angerIn {l : Launch} {G : GT} {D : Nat} : ∀ as S I J z Q, sp_X11_angerIn G as S I J z Q → fqCall l G M_X11_angerIn (D + 2) 0 0 as S I J z Q := by
  intro as S I J z Q h
  unfold sp_X11_angerIn at h
  split at h
  · exact fq_enter _ (by decide +kernel) (Nat.le_of_ble_eq_true rfl) rfl (b_X11_angerIn_0 _ _ _ _ _ _ _ _ h)
  · exact h.elim
theorem dX11_hire_0 : decode cX11_hire 0 = .ok (.aload_n 0, 1) := by decide +kernel
theorem dX11_hire_1 : decode cX11_hire 1 = .ok (.iload_n 1, 1) := by decide +kernel
theorem dX11_hire_2 : decode cX11_hire 2 = .ok (.invokevirtual 233, 3) := by decide +kernel
theorem dX11_hire_5 : decode cX11_hire 5 = .ok (.ifCond .ne 9, 3) := by decide +kernel
theorem dX11_hire_8 : decode cX11_hire 8 = .ok (.aload_n 0, 1) := by decide +kernel
theorem dX11_hire_9 : decode cX11_hire 9 = .ok (.iconst 1, 1) := by decide +kernel
theorem dX11_hire_10 : decode cX11_hire 10 = .ok (.invokevirtual 97, 3) := by decide +kernel
theorem dX11_hire_13 : decode cX11_hire 13 = .ok (.ireturn, 1) := by decide +kernel
theorem dX11_hire_14 : decode cX11_hire 14 = .ok (.aload_n 0, 1) := by decide +kernel
theorem dX11_hire_15 : decode cX11_hire 15 = .ok (.getfield 46, 3) := by decide +kernel
theorem dX11_hire_18 : decode cX11_hire 18 = .ok (.iload_n 1, 1) := by decide +kernel
theorem dX11_hire_19 : decode cX11_hire 19 = .ok (.invokevirtual 360, 3) := by decide +kernel
theorem dX11_hire_22 : decode cX11_hire 22 = .ok (.istore_n 2, 1) := by decide +kernel
theorem dX11_hire_23 : decode cX11_hire 23 = .ok (.iload_n 2, 1) := by decide +kernel
theorem dX11_hire_24 : decode cX11_hire 24 = .ok (.ifCond .ne 12, 3) := by decide +kernel
theorem dX11_hire_27 : decode cX11_hire 27 = .ok (.aload_n 0, 1) := by decide +kernel
theorem dX11_hire_28 : decode cX11_hire 28 = .ok (.bipush 6, 2) := by decide +kernel
theorem dX11_hire_30 : decode cX11_hire 30 = .ok (.invokevirtual 97, 3) := by decide +kernel
theorem dX11_hire_33 : decode cX11_hire 33 = .ok (.goto 15, 3) := by decide +kernel
theorem dX11_hire_36 : decode cX11_hire 36 = .ok (.aload_n 0, 1) := by decide +kernel
theorem dX11_hire_37 : decode cX11_hire 37 = .ok (.aload_n 0, 1) := by decide +kernel
theorem dX11_hire_38 : decode cX11_hire 38 = .ok (.getfield 46, 3) := by decide +kernel
theorem dX11_hire_41 : decode cX11_hire 41 = .ok (.iload_n 2, 1) := by decide +kernel
theorem dX11_hire_42 : decode cX11_hire 42 = .ok (.invokevirtual 363, 3) := by decide +kernel
theorem dX11_hire_45 : decode cX11_hire 45 = .ok (.invokevirtual 142, 3) := by decide +kernel
theorem dX11_hire_48 : decode cX11_hire 48 = .ok (.ireturn, 1) := by decide +kernel
abbrev M_X11_hire : MT := (yX11_hire, cX11_hire, 3, (some .int))
theorem cf_X11_hire : fq_cf M_X11_hire 1 := ⟨(mg_1 (List.mem_of_getElem? (i := 1) rfl) rfl), (mg_5 (List.mem_of_getElem? (i := 211) rfl) rfl), ⟨by decide, by decide, by decide +kernel⟩, by decide⟩
def B_X11_hire_48 (G : GT) (mc ms : Nat) (Q : Post) : Cn := ix_iret mc ms Q
theorem b_X11_hire_48 {l : Launch} {G : GT} {D mc ms : Nat} {Q : Post} : Imp l G M_X11_hire (D + 6) mc ms Q (B_X11_hire_48 G mc ms Q) 48 := sx_iret dX11_hire_48 rfl
def B_X11_hire_0 (G : GT) (mc ms : Nat) (Q : Post) : Cn := ix_aload 0 (ix_iload 1 (ix_vcall 11 2 0 0 mc ms (sp_X11_isPerson G) (ix_if_ne (ix_aload 0 (ix_getR 11 6 (ix_iload 1 (ix_vcall 6 2 0 0 mc ms (sp_X6_cheapestSet G) (ix_istore 2 (ix_iload 2 (ix_if_ne (ix_aload 0 (ix_aload 0 (ix_getR 11 6 (ix_iload 2 (ix_vcall 6 2 0 0 mc ms (sp_X6_payOf G) (ix_vcall 11 2 0 0 mc ms (sp_X11_answer G) ((B_X11_hire_48 G mc ms Q)))))))) (ix_aload 0 (ix_pushI 6 (ix_vcall 11 2 0 0 mc ms (sp_X11_refuse G) ((B_X11_hire_48 G mc ms Q)))))))))))) (ix_aload 0 (ix_pushI 1 (ix_vcall 11 2 0 0 mc ms (sp_X11_refuse G) (ix_iret mc ms Q)))))))
theorem b_X11_hire_0 {l : Launch} {G : GT} {D mc ms : Nat} {Q : Post} : Imp l G M_X11_hire (D + 6) mc ms Q (B_X11_hire_0 G mc ms Q) 0 := sx_aload_n dX11_hire_0 rfl (sx_iload_n dX11_hire_1 rfl (sx_vcall dX11_hire_2 cf_X11_isPerson (mg_4 (List.mem_of_getElem? (i := 209) rfl) rfl) (mg_4 (List.mem_of_getElem? (i := 211) rfl) rfl) (mg_p (List.mem_of_getElem? (i := 26) rfl) rfl) rfl c_X11_isPerson (sx_if_ne 14 dX11_hire_5 (by decide) (sx_aload_n dX11_hire_14 rfl (sx_getR dX11_hire_15 fl_FootQuarrel_46 (fun _ _ _ => rfl) (sx_iload_n dX11_hire_18 rfl (sx_vcall dX11_hire_19 cf_X6_cheapestSet (mg_5 (List.mem_of_getElem? (i := 212) rfl) rfl) (mg_5 (List.mem_of_getElem? (i := 213) rfl) rfl) (mg_5 (List.mem_of_getElem? (i := 214) rfl) rfl) rfl c_X6_cheapestSet (sx_istore_n dX11_hire_22 rfl (by decide) (sx_iload_n dX11_hire_23 rfl (sx_if_ne 36 dX11_hire_24 (by decide) (sx_aload_n dX11_hire_36 rfl (sx_aload_n dX11_hire_37 rfl (sx_getR dX11_hire_38 fl_FootQuarrel_46 (fun _ _ _ => rfl) (sx_iload_n dX11_hire_41 rfl (sx_vcall dX11_hire_42 cf_X6_payOf (mg_5 (List.mem_of_getElem? (i := 235) rfl) rfl) (mg_5 (List.mem_of_getElem? (i := 226) rfl) rfl) (mg_5 (List.mem_of_getElem? (i := 227) rfl) rfl) rfl c_X6_payOf (sx_vcall dX11_hire_45 cf_X11_answer (mg_4 (List.mem_of_getElem? (i := 72) rfl) rfl) (mg_4 (List.mem_of_getElem? (i := 74) rfl) rfl) (mg_p (List.mem_of_getElem? (i := 17) rfl) rfl) rfl c_X11_answer (b_X11_hire_48))))))) (sx_aload_n dX11_hire_27 rfl (sx_bipush dX11_hire_28 rfl (sx_vcall dX11_hire_30 cf_X11_refuse (mg_3 (List.mem_of_getElem? (i := 120) rfl) rfl) (mg_3 (List.mem_of_getElem? (i := 122) rfl) rfl) (mg_p (List.mem_of_getElem? (i := 3) rfl) rfl) rfl c_X11_refuse (sx_goto 48 dX11_hire_33 (by decide) (b_X11_hire_48)))))))))))) (sx_aload_n dX11_hire_8 rfl (sx_iconst dX11_hire_9 rfl (sx_vcall dX11_hire_10 cf_X11_refuse (mg_3 (List.mem_of_getElem? (i := 120) rfl) rfl) (mg_3 (List.mem_of_getElem? (i := 122) rfl) rfl) (mg_p (List.mem_of_getElem? (i := 3) rfl) rfl) rfl c_X11_refuse (sx_iret dX11_hire_13 rfl)))))))
def sp_X11_hire (G : GT) : Sp := fun as S I J z Q => match as with
  | [.ref a0, .int a1] => B_X11_hire_0 G 0 0 Q [some (.ref a0), some (.int a1), none] [] S I J z 0 0
  | _ => False
theorem c_X11_hire {l : Launch} {G : GT} {D : Nat} : ∀ as S I J z Q, sp_X11_hire G as S I J z Q → fqCall l G M_X11_hire (D + 6) 0 0 as S I J z Q := by
  intro as S I J z Q h
  unfold sp_X11_hire at h
  split at h
  · exact fq_enter _ (by decide +kernel) (Nat.le_of_ble_eq_true rfl) rfl (b_X11_hire_0 _ _ _ _ _ _ _ _ h)
  · exact h.elim
theorem dX11_hireSet_0 : decode cX11_hireSet 0 = .ok (.aload_n 0, 1) := by decide +kernel
theorem dX11_hireSet_1 : decode cX11_hireSet 1 = .ok (.iload_n 1, 1) := by decide +kernel
theorem dX11_hireSet_2 : decode cX11_hireSet 2 = .ok (.invokevirtual 233, 3) := by decide +kernel
theorem dX11_hireSet_5 : decode cX11_hireSet 5 = .ok (.ifCond .ne 9, 3) := by decide +kernel
theorem dX11_hireSet_8 : decode cX11_hireSet 8 = .ok (.aload_n 0, 1) := by decide +kernel
theorem dX11_hireSet_9 : decode cX11_hireSet 9 = .ok (.iconst 1, 1) := by decide +kernel
theorem dX11_hireSet_10 : decode cX11_hireSet 10 = .ok (.invokevirtual 97, 3) := by decide +kernel
theorem dX11_hireSet_13 : decode cX11_hireSet 13 = .ok (.ireturn, 1) := by decide +kernel
theorem dX11_hireSet_14 : decode cX11_hireSet 14 = .ok (.aload_n 0, 1) := by decide +kernel
theorem dX11_hireSet_15 : decode cX11_hireSet 15 = .ok (.getfield 46, 3) := by decide +kernel
theorem dX11_hireSet_18 : decode cX11_hireSet 18 = .ok (.iload_n 1, 1) := by decide +kernel
theorem dX11_hireSet_19 : decode cX11_hireSet 19 = .ok (.invokevirtual 360, 3) := by decide +kernel
theorem dX11_hireSet_22 : decode cX11_hireSet 22 = .ok (.istore_n 2, 1) := by decide +kernel
theorem dX11_hireSet_23 : decode cX11_hireSet 23 = .ok (.iload_n 2, 1) := by decide +kernel
theorem dX11_hireSet_24 : decode cX11_hireSet 24 = .ok (.ifCond .ne 12, 3) := by decide +kernel
theorem dX11_hireSet_27 : decode cX11_hireSet 27 = .ok (.aload_n 0, 1) := by decide +kernel
theorem dX11_hireSet_28 : decode cX11_hireSet 28 = .ok (.bipush 6, 2) := by decide +kernel
theorem dX11_hireSet_30 : decode cX11_hireSet 30 = .ok (.invokevirtual 97, 3) := by decide +kernel
theorem dX11_hireSet_33 : decode cX11_hireSet 33 = .ok (.goto 8, 3) := by decide +kernel
theorem dX11_hireSet_36 : decode cX11_hireSet 36 = .ok (.aload_n 0, 1) := by decide +kernel
theorem dX11_hireSet_37 : decode cX11_hireSet 37 = .ok (.iload_n 2, 1) := by decide +kernel
theorem dX11_hireSet_38 : decode cX11_hireSet 38 = .ok (.invokevirtual 142, 3) := by decide +kernel
theorem dX11_hireSet_41 : decode cX11_hireSet 41 = .ok (.ireturn, 1) := by decide +kernel
abbrev M_X11_hireSet : MT := (yX11_hireSet, cX11_hireSet, 3, (some .int))
theorem cf_X11_hireSet : fq_cf M_X11_hireSet 1 := ⟨(mg_1 (List.mem_of_getElem? (i := 1) rfl) rfl), (mg_5 (List.mem_of_getElem? (i := 239) rfl) rfl), ⟨by decide, by decide, by decide +kernel⟩, by decide⟩
def B_X11_hireSet_41 (G : GT) (mc ms : Nat) (Q : Post) : Cn := ix_iret mc ms Q
theorem b_X11_hireSet_41 {l : Launch} {G : GT} {D mc ms : Nat} {Q : Post} : Imp l G M_X11_hireSet (D + 6) mc ms Q (B_X11_hireSet_41 G mc ms Q) 41 := sx_iret dX11_hireSet_41 rfl
def B_X11_hireSet_0 (G : GT) (mc ms : Nat) (Q : Post) : Cn := ix_aload 0 (ix_iload 1 (ix_vcall 11 2 0 0 mc ms (sp_X11_isPerson G) (ix_if_ne (ix_aload 0 (ix_getR 11 6 (ix_iload 1 (ix_vcall 6 2 0 0 mc ms (sp_X6_cheapestSet G) (ix_istore 2 (ix_iload 2 (ix_if_ne (ix_aload 0 (ix_iload 2 (ix_vcall 11 2 0 0 mc ms (sp_X11_answer G) ((B_X11_hireSet_41 G mc ms Q))))) (ix_aload 0 (ix_pushI 6 (ix_vcall 11 2 0 0 mc ms (sp_X11_refuse G) ((B_X11_hireSet_41 G mc ms Q)))))))))))) (ix_aload 0 (ix_pushI 1 (ix_vcall 11 2 0 0 mc ms (sp_X11_refuse G) (ix_iret mc ms Q)))))))
theorem b_X11_hireSet_0 {l : Launch} {G : GT} {D mc ms : Nat} {Q : Post} : Imp l G M_X11_hireSet (D + 6) mc ms Q (B_X11_hireSet_0 G mc ms Q) 0 := sx_aload_n dX11_hireSet_0 rfl (sx_iload_n dX11_hireSet_1 rfl (sx_vcall dX11_hireSet_2 cf_X11_isPerson (mg_4 (List.mem_of_getElem? (i := 209) rfl) rfl) (mg_4 (List.mem_of_getElem? (i := 211) rfl) rfl) (mg_p (List.mem_of_getElem? (i := 26) rfl) rfl) rfl c_X11_isPerson (sx_if_ne 14 dX11_hireSet_5 (by decide) (sx_aload_n dX11_hireSet_14 rfl (sx_getR dX11_hireSet_15 fl_FootQuarrel_46 (fun _ _ _ => rfl) (sx_iload_n dX11_hireSet_18 rfl (sx_vcall dX11_hireSet_19 cf_X6_cheapestSet (mg_5 (List.mem_of_getElem? (i := 212) rfl) rfl) (mg_5 (List.mem_of_getElem? (i := 213) rfl) rfl) (mg_5 (List.mem_of_getElem? (i := 214) rfl) rfl) rfl c_X6_cheapestSet (sx_istore_n dX11_hireSet_22 rfl (by decide) (sx_iload_n dX11_hireSet_23 rfl (sx_if_ne 36 dX11_hireSet_24 (by decide) (sx_aload_n dX11_hireSet_36 rfl (sx_iload_n dX11_hireSet_37 rfl (sx_vcall dX11_hireSet_38 cf_X11_answer (mg_4 (List.mem_of_getElem? (i := 72) rfl) rfl) (mg_4 (List.mem_of_getElem? (i := 74) rfl) rfl) (mg_p (List.mem_of_getElem? (i := 17) rfl) rfl) rfl c_X11_answer (b_X11_hireSet_41)))) (sx_aload_n dX11_hireSet_27 rfl (sx_bipush dX11_hireSet_28 rfl (sx_vcall dX11_hireSet_30 cf_X11_refuse (mg_3 (List.mem_of_getElem? (i := 120) rfl) rfl) (mg_3 (List.mem_of_getElem? (i := 122) rfl) rfl) (mg_p (List.mem_of_getElem? (i := 3) rfl) rfl) rfl c_X11_refuse (sx_goto 41 dX11_hireSet_33 (by decide) (b_X11_hireSet_41)))))))))))) (sx_aload_n dX11_hireSet_8 rfl (sx_iconst dX11_hireSet_9 rfl (sx_vcall dX11_hireSet_10 cf_X11_refuse (mg_3 (List.mem_of_getElem? (i := 120) rfl) rfl) (mg_3 (List.mem_of_getElem? (i := 122) rfl) rfl) (mg_p (List.mem_of_getElem? (i := 3) rfl) rfl) rfl c_X11_refuse (sx_iret dX11_hireSet_13 rfl)))))))
def sp_X11_hireSet (G : GT) : Sp := fun as S I J z Q => match as with
  | [.ref a0, .int a1] => B_X11_hireSet_0 G 0 0 Q [some (.ref a0), some (.int a1), none] [] S I J z 0 0
  | _ => False
theorem c_X11_hireSet {l : Launch} {G : GT} {D : Nat} : ∀ as S I J z Q, sp_X11_hireSet G as S I J z Q → fqCall l G M_X11_hireSet (D + 6) 0 0 as S I J z Q := by
  intro as S I J z Q h
  unfold sp_X11_hireSet at h
  split at h
  · exact fq_enter _ (by decide +kernel) (Nat.le_of_ble_eq_true rfl) rfl (b_X11_hireSet_0 _ _ _ _ _ _ _ _ h)
  · exact h.elim
theorem dX11_shoutsBy_0 : decode cX11_shoutsBy 0 = .ok (.aload_n 0, 1) := by decide +kernel
theorem dX11_shoutsBy_1 : decode cX11_shoutsBy 1 = .ok (.iload_n 1, 1) := by decide +kernel
theorem dX11_shoutsBy_2 : decode cX11_shoutsBy 2 = .ok (.iload_n 2, 1) := by decide +kernel
theorem dX11_shoutsBy_3 : decode cX11_shoutsBy 3 = .ok (.invokevirtual 293, 3) := by decide +kernel
theorem dX11_shoutsBy_6 : decode cX11_shoutsBy 6 = .ok (.istore_n 3, 1) := by decide +kernel
theorem dX11_shoutsBy_7 : decode cX11_shoutsBy 7 = .ok (.iload_n 3, 1) := by decide +kernel
theorem dX11_shoutsBy_8 : decode cX11_shoutsBy 8 = .ok (.ifCond .eq 9, 3) := by decide +kernel
theorem dX11_shoutsBy_11 : decode cX11_shoutsBy 11 = .ok (.aload_n 0, 1) := by decide +kernel
theorem dX11_shoutsBy_12 : decode cX11_shoutsBy 12 = .ok (.iload_n 3, 1) := by decide +kernel
theorem dX11_shoutsBy_13 : decode cX11_shoutsBy 13 = .ok (.invokevirtual 97, 3) := by decide +kernel
theorem dX11_shoutsBy_16 : decode cX11_shoutsBy 16 = .ok (.ireturn, 1) := by decide +kernel
theorem dX11_shoutsBy_17 : decode cX11_shoutsBy 17 = .ok (.aload_n 0, 1) := by decide +kernel
theorem dX11_shoutsBy_18 : decode cX11_shoutsBy 18 = .ok (.aload_n 0, 1) := by decide +kernel
theorem dX11_shoutsBy_19 : decode cX11_shoutsBy 19 = .ok (.getfield 46, 3) := by decide +kernel
theorem dX11_shoutsBy_22 : decode cX11_shoutsBy 22 = .ok (.iload_n 1, 1) := by decide +kernel
theorem dX11_shoutsBy_23 : decode cX11_shoutsBy 23 = .ok (.iload_n 2, 1) := by decide +kernel
theorem dX11_shoutsBy_24 : decode cX11_shoutsBy 24 = .ok (.invokevirtual 336, 3) := by decide +kernel
theorem dX11_shoutsBy_27 : decode cX11_shoutsBy 27 = .ok (.iconst 0, 1) := by decide +kernel
theorem dX11_shoutsBy_28 : decode cX11_shoutsBy 28 = .ok (.invokevirtual 340, 3) := by decide +kernel
theorem dX11_shoutsBy_31 : decode cX11_shoutsBy 31 = .ok (.invokevirtual 142, 3) := by decide +kernel
theorem dX11_shoutsBy_34 : decode cX11_shoutsBy 34 = .ok (.ireturn, 1) := by decide +kernel
abbrev M_X11_shoutsBy : MT := (yX11_shoutsBy, cX11_shoutsBy, 4, (some .int))
theorem cf_X11_shoutsBy : fq_cf M_X11_shoutsBy 2 := ⟨(mg_1 (List.mem_of_getElem? (i := 1) rfl) rfl), (mg_5 (List.mem_of_getElem? (i := 158) rfl) rfl), ⟨by decide, by decide, by decide +kernel⟩, by decide⟩
def B_X11_shoutsBy_0 (G : GT) (mc ms : Nat) (Q : Post) : Cn := ix_aload 0 (ix_iload 1 (ix_iload 2 (ix_vcall 11 3 0 0 mc ms (sp_X11_pairStatus G) (ix_istore 3 (ix_iload 3 (ix_if_eq (ix_aload 0 (ix_aload 0 (ix_getR 11 6 (ix_iload 1 (ix_iload 2 (ix_vcall 6 3 0 0 mc ms (sp_X6_tryOut G) (ix_pushI 0 (ix_vcall 5 2 0 0 mc ms (sp_X5_speak G) (ix_vcall 11 2 0 0 mc ms (sp_X11_answer G) (ix_iret mc ms Q)))))))))) (ix_aload 0 (ix_iload 3 (ix_vcall 11 2 0 0 mc ms (sp_X11_refuse G) (ix_iret mc ms Q))))))))))
theorem b_X11_shoutsBy_0 {l : Launch} {G : GT} {D mc ms : Nat} {Q : Post} : Imp l G M_X11_shoutsBy (D + 4) mc ms Q (B_X11_shoutsBy_0 G mc ms Q) 0 := sx_aload_n dX11_shoutsBy_0 rfl (sx_iload_n dX11_shoutsBy_1 rfl (sx_iload_n dX11_shoutsBy_2 rfl (sx_vcall dX11_shoutsBy_3 cf_X11_pairStatus (mg_5 (List.mem_of_getElem? (i := 15) rfl) rfl) (mg_5 (List.mem_of_getElem? (i := 17) rfl) rfl) (mg_p (List.mem_of_getElem? (i := 28) rfl) rfl) rfl c_X11_pairStatus (sx_istore_n dX11_shoutsBy_6 rfl (by decide) (sx_iload_n dX11_shoutsBy_7 rfl (sx_if_eq 17 dX11_shoutsBy_8 (by decide) (sx_aload_n dX11_shoutsBy_17 rfl (sx_aload_n dX11_shoutsBy_18 rfl (sx_getR dX11_shoutsBy_19 fl_FootQuarrel_46 (fun _ _ _ => rfl) (sx_iload_n dX11_shoutsBy_22 rfl (sx_iload_n dX11_shoutsBy_23 rfl (sx_vcall dX11_shoutsBy_24 cf_X6_tryOut (mg_5 (List.mem_of_getElem? (i := 159) rfl) rfl) (mg_5 (List.mem_of_getElem? (i := 24) rfl) rfl) (mg_5 (List.mem_of_getElem? (i := 25) rfl) rfl) rfl c_X6_tryOut (sx_iconst dX11_shoutsBy_27 rfl (sx_vcall dX11_shoutsBy_28 cf_X5_speak (mg_5 (List.mem_of_getElem? (i := 160) rfl) rfl) (mg_5 (List.mem_of_getElem? (i := 32) rfl) rfl) (mg_5 (List.mem_of_getElem? (i := 33) rfl) rfl) rfl c_X5_speak (sx_vcall dX11_shoutsBy_31 cf_X11_answer (mg_4 (List.mem_of_getElem? (i := 72) rfl) rfl) (mg_4 (List.mem_of_getElem? (i := 74) rfl) rfl) (mg_p (List.mem_of_getElem? (i := 17) rfl) rfl) rfl c_X11_answer (sx_iret dX11_shoutsBy_34 rfl)))))))))) (sx_aload_n dX11_shoutsBy_11 rfl (sx_iload_n dX11_shoutsBy_12 rfl (sx_vcall dX11_shoutsBy_13 cf_X11_refuse (mg_3 (List.mem_of_getElem? (i := 120) rfl) rfl) (mg_3 (List.mem_of_getElem? (i := 122) rfl) rfl) (mg_p (List.mem_of_getElem? (i := 3) rfl) rfl) rfl c_X11_refuse (sx_iret dX11_shoutsBy_16 rfl))))))))))
def sp_X11_shoutsBy (G : GT) : Sp := fun as S I J z Q => match as with
  | [.ref a0, .int a1, .int a2] => B_X11_shoutsBy_0 G 0 0 Q [some (.ref a0), some (.int a1), some (.int a2), none] [] S I J z 0 0
  | _ => False
theorem c_X11_shoutsBy {l : Launch} {G : GT} {D : Nat} : ∀ as S I J z Q, sp_X11_shoutsBy G as S I J z Q → fqCall l G M_X11_shoutsBy (D + 4) 0 0 as S I J z Q := by
  intro as S I J z Q h
  unfold sp_X11_shoutsBy at h
  split at h
  · exact fq_enter _ (by decide +kernel) (Nat.le_of_ble_eq_true rfl) rfl (b_X11_shoutsBy_0 _ _ _ _ _ _ _ _ h)
  · exact h.elim
theorem dX11_gainBy_0 : decode cX11_gainBy 0 = .ok (.aload_n 0, 1) := by decide +kernel
theorem dX11_gainBy_1 : decode cX11_gainBy 1 = .ok (.iload_n 1, 1) := by decide +kernel
theorem dX11_gainBy_2 : decode cX11_gainBy 2 = .ok (.iload_n 2, 1) := by decide +kernel
theorem dX11_gainBy_3 : decode cX11_gainBy 3 = .ok (.invokevirtual 293, 3) := by decide +kernel
theorem dX11_gainBy_6 : decode cX11_gainBy 6 = .ok (.istore_n 3, 1) := by decide +kernel
theorem dX11_gainBy_7 : decode cX11_gainBy 7 = .ok (.iload_n 3, 1) := by decide +kernel
theorem dX11_gainBy_8 : decode cX11_gainBy 8 = .ok (.ifCond .eq 9, 3) := by decide +kernel
theorem dX11_gainBy_11 : decode cX11_gainBy 11 = .ok (.aload_n 0, 1) := by decide +kernel
theorem dX11_gainBy_12 : decode cX11_gainBy 12 = .ok (.iload_n 3, 1) := by decide +kernel
theorem dX11_gainBy_13 : decode cX11_gainBy 13 = .ok (.invokevirtual 97, 3) := by decide +kernel
theorem dX11_gainBy_16 : decode cX11_gainBy 16 = .ok (.ireturn, 1) := by decide +kernel
theorem dX11_gainBy_17 : decode cX11_gainBy 17 = .ok (.aload_n 0, 1) := by decide +kernel
theorem dX11_gainBy_18 : decode cX11_gainBy 18 = .ok (.aload_n 0, 1) := by decide +kernel
theorem dX11_gainBy_19 : decode cX11_gainBy 19 = .ok (.getfield 46, 3) := by decide +kernel
theorem dX11_gainBy_22 : decode cX11_gainBy 22 = .ok (.iload_n 1, 1) := by decide +kernel
theorem dX11_gainBy_23 : decode cX11_gainBy 23 = .ok (.iload_n 2, 1) := by decide +kernel
theorem dX11_gainBy_24 : decode cX11_gainBy 24 = .ok (.invokevirtual 345, 3) := by decide +kernel
theorem dX11_gainBy_27 : decode cX11_gainBy 27 = .ok (.invokevirtual 142, 3) := by decide +kernel
theorem dX11_gainBy_30 : decode cX11_gainBy 30 = .ok (.ireturn, 1) := by decide +kernel
abbrev M_X11_gainBy : MT := (yX11_gainBy, cX11_gainBy, 4, (some .int))
theorem cf_X11_gainBy : fq_cf M_X11_gainBy 2 := ⟨(mg_1 (List.mem_of_getElem? (i := 1) rfl) rfl), (mg_5 (List.mem_of_getElem? (i := 164) rfl) rfl), ⟨by decide, by decide, by decide +kernel⟩, by decide⟩
def B_X11_gainBy_0 (G : GT) (mc ms : Nat) (Q : Post) : Cn := ix_aload 0 (ix_iload 1 (ix_iload 2 (ix_vcall 11 3 0 0 mc ms (sp_X11_pairStatus G) (ix_istore 3 (ix_iload 3 (ix_if_eq (ix_aload 0 (ix_aload 0 (ix_getR 11 6 (ix_iload 1 (ix_iload 2 (ix_vcall 6 3 0 0 mc ms (sp_X6_gain G) (ix_vcall 11 2 0 0 mc ms (sp_X11_answer G) (ix_iret mc ms Q)))))))) (ix_aload 0 (ix_iload 3 (ix_vcall 11 2 0 0 mc ms (sp_X11_refuse G) (ix_iret mc ms Q))))))))))
theorem b_X11_gainBy_0 {l : Launch} {G : GT} {D mc ms : Nat} {Q : Post} : Imp l G M_X11_gainBy (D + 4) mc ms Q (B_X11_gainBy_0 G mc ms Q) 0 := sx_aload_n dX11_gainBy_0 rfl (sx_iload_n dX11_gainBy_1 rfl (sx_iload_n dX11_gainBy_2 rfl (sx_vcall dX11_gainBy_3 cf_X11_pairStatus (mg_5 (List.mem_of_getElem? (i := 15) rfl) rfl) (mg_5 (List.mem_of_getElem? (i := 17) rfl) rfl) (mg_p (List.mem_of_getElem? (i := 28) rfl) rfl) rfl c_X11_pairStatus (sx_istore_n dX11_gainBy_6 rfl (by decide) (sx_iload_n dX11_gainBy_7 rfl (sx_if_eq 17 dX11_gainBy_8 (by decide) (sx_aload_n dX11_gainBy_17 rfl (sx_aload_n dX11_gainBy_18 rfl (sx_getR dX11_gainBy_19 fl_FootQuarrel_46 (fun _ _ _ => rfl) (sx_iload_n dX11_gainBy_22 rfl (sx_iload_n dX11_gainBy_23 rfl (sx_vcall dX11_gainBy_24 cf_X6_gain (mg_5 (List.mem_of_getElem? (i := 165) rfl) rfl) (mg_5 (List.mem_of_getElem? (i := 166) rfl) rfl) (mg_5 (List.mem_of_getElem? (i := 167) rfl) rfl) rfl c_X6_gain (sx_vcall dX11_gainBy_27 cf_X11_answer (mg_4 (List.mem_of_getElem? (i := 72) rfl) rfl) (mg_4 (List.mem_of_getElem? (i := 74) rfl) rfl) (mg_p (List.mem_of_getElem? (i := 17) rfl) rfl) rfl c_X11_answer (sx_iret dX11_gainBy_30 rfl)))))))) (sx_aload_n dX11_gainBy_11 rfl (sx_iload_n dX11_gainBy_12 rfl (sx_vcall dX11_gainBy_13 cf_X11_refuse (mg_3 (List.mem_of_getElem? (i := 120) rfl) rfl) (mg_3 (List.mem_of_getElem? (i := 122) rfl) rfl) (mg_p (List.mem_of_getElem? (i := 3) rfl) rfl) rfl c_X11_refuse (sx_iret dX11_gainBy_16 rfl))))))))))
def sp_X11_gainBy (G : GT) : Sp := fun as S I J z Q => match as with
  | [.ref a0, .int a1, .int a2] => B_X11_gainBy_0 G 0 0 Q [some (.ref a0), some (.int a1), some (.int a2), none] [] S I J z 0 0
  | _ => False
theorem c_X11_gainBy {l : Launch} {G : GT} {D : Nat} : ∀ as S I J z Q, sp_X11_gainBy G as S I J z Q → fqCall l G M_X11_gainBy (D + 4) 0 0 as S I J z Q := by
  intro as S I J z Q h
  unfold sp_X11_gainBy at h
  split at h
  · exact fq_enter _ (by decide +kernel) (Nat.le_of_ble_eq_true rfl) rfl (b_X11_gainBy_0 _ _ _ _ _ _ _ _ h)
  · exact h.elim
theorem dX11_hears_0 : decode cX11_hears 0 = .ok (.aload_n 0, 1) := by decide +kernel
theorem dX11_hears_1 : decode cX11_hears 1 = .ok (.iload_n 1, 1) := by decide +kernel
theorem dX11_hears_2 : decode cX11_hears 2 = .ok (.iload_n 2, 1) := by decide +kernel
theorem dX11_hears_3 : decode cX11_hears 3 = .ok (.invokevirtual 284, 3) := by decide +kernel
theorem dX11_hears_6 : decode cX11_hears 6 = .ok (.ifCond .ne 9, 3) := by decide +kernel
theorem dX11_hears_9 : decode cX11_hears 9 = .ok (.aload_n 0, 1) := by decide +kernel
theorem dX11_hears_10 : decode cX11_hears 10 = .ok (.iconst 1, 1) := by decide +kernel
theorem dX11_hears_11 : decode cX11_hears 11 = .ok (.invokevirtual 97, 3) := by decide +kernel
theorem dX11_hears_14 : decode cX11_hears 14 = .ok (.ireturn, 1) := by decide +kernel
theorem dX11_hears_15 : decode cX11_hears 15 = .ok (.aload_n 0, 1) := by decide +kernel
theorem dX11_hears_16 : decode cX11_hears 16 = .ok (.aload_n 0, 1) := by decide +kernel
theorem dX11_hears_17 : decode cX11_hears 17 = .ok (.getfield 46, 3) := by decide +kernel
theorem dX11_hears_20 : decode cX11_hears 20 = .ok (.getfield 236, 3) := by decide +kernel
theorem dX11_hears_23 : decode cX11_hears 23 = .ok (.iload_n 1, 1) := by decide +kernel
theorem dX11_hears_24 : decode cX11_hears 24 = .ok (.aaload, 1) := by decide +kernel
theorem dX11_hears_25 : decode cX11_hears 25 = .ok (.aload_n 0, 1) := by decide +kernel
theorem dX11_hears_26 : decode cX11_hears 26 = .ok (.getfield 46, 3) := by decide +kernel
theorem dX11_hears_29 : decode cX11_hears 29 = .ok (.iload_n 2, 1) := by decide +kernel
theorem dX11_hears_30 : decode cX11_hears 30 = .ok (.invokevirtual 327, 3) := by decide +kernel
theorem dX11_hears_33 : decode cX11_hears 33 = .ok (.invokevirtual 330, 3) := by decide +kernel
theorem dX11_hears_36 : decode cX11_hears 36 = .ok (.invokestatic 186, 3) := by decide +kernel
theorem dX11_hears_39 : decode cX11_hears 39 = .ok (.invokevirtual 142, 3) := by decide +kernel
theorem dX11_hears_42 : decode cX11_hears 42 = .ok (.ireturn, 1) := by decide +kernel
abbrev M_X11_hears : MT := (yX11_hears, cX11_hears, 3, (some .int))
theorem cf_X11_hears : fq_cf M_X11_hears 2 := ⟨(mg_1 (List.mem_of_getElem? (i := 1) rfl) rfl), (mg_5 (List.mem_of_getElem? (i := 143) rfl) rfl), ⟨by decide, by decide, by decide +kernel⟩, by decide⟩
def B_X11_hears_0 (G : GT) (mc ms : Nat) (Q : Post) : Cn := ix_aload 0 (ix_iload 1 (ix_iload 2 (ix_vcall 11 3 0 0 mc ms (sp_X11_areTwo G) (ix_if_ne (ix_aload 0 (ix_aload 0 (ix_getR 11 6 (ix_getR 6 1 (ix_iload 1 (ix_aald 17 (ix_aload 0 (ix_getR 11 6 (ix_iload 2 (ix_vcall 6 2 0 0 mc ms (sp_X6_loudnessOf G) (ix_vcall 2 2 0 0 mc ms (sp_X2_catches G) (ix_call 1 0 0 mc ms (sp_X11_oneIf G) (ix_vcall 11 2 0 0 mc ms (sp_X11_answer G) (ix_iret mc ms Q)))))))))))))) (ix_aload 0 (ix_pushI 1 (ix_vcall 11 2 0 0 mc ms (sp_X11_refuse G) (ix_iret mc ms Q))))))))
theorem b_X11_hears_0 {l : Launch} {G : GT} {D mc ms : Nat} {Q : Post} : Imp l G M_X11_hears (D + 4) mc ms Q (B_X11_hears_0 G mc ms Q) 0 := sx_aload_n dX11_hears_0 rfl (sx_iload_n dX11_hears_1 rfl (sx_iload_n dX11_hears_2 rfl (sx_vcall dX11_hears_3 cf_X11_areTwo (mg_4 (List.mem_of_getElem? (i := 228) rfl) rfl) (mg_4 (List.mem_of_getElem? (i := 230) rfl) rfl) (mg_p (List.mem_of_getElem? (i := 27) rfl) rfl) rfl c_X11_areTwo (sx_if_ne 15 dX11_hears_6 (by decide) (sx_aload_n dX11_hears_15 rfl (sx_aload_n dX11_hears_16 rfl (sx_getR dX11_hears_17 fl_FootQuarrel_46 (fun _ _ _ => rfl) (sx_getR dX11_hears_20 fl_FootQuarrel_236 (fun _ _ _ => rfl) (sx_iload_n dX11_hears_23 rfl (sx_aald dX11_hears_24 (by decide) (by decide) rfl (sx_aload_n dX11_hears_25 rfl (sx_getR dX11_hears_26 fl_FootQuarrel_46 (fun _ _ _ => rfl) (sx_iload_n dX11_hears_29 rfl (sx_vcall dX11_hears_30 cf_X6_loudnessOf (mg_5 (List.mem_of_getElem? (i := 131) rfl) rfl) (mg_5 (List.mem_of_getElem? (i := 132) rfl) rfl) (mg_5 (List.mem_of_getElem? (i := 133) rfl) rfl) rfl c_X6_loudnessOf (sx_vcall dX11_hears_33 cf_X2_catches (mg_5 (List.mem_of_getElem? (i := 144) rfl) rfl) (mg_5 (List.mem_of_getElem? (i := 44) rfl) rfl) (mg_5 (List.mem_of_getElem? (i := 45) rfl) rfl) rfl c_X2_catches (sx_scall dX11_hears_36 cf_X11_oneIf (mg_4 (List.mem_of_getElem? (i := 163) rfl) rfl) (mg_4 (List.mem_of_getElem? (i := 164) rfl) rfl) c_X11_oneIf (sx_vcall dX11_hears_39 cf_X11_answer (mg_4 (List.mem_of_getElem? (i := 72) rfl) rfl) (mg_4 (List.mem_of_getElem? (i := 74) rfl) rfl) (mg_p (List.mem_of_getElem? (i := 17) rfl) rfl) rfl c_X11_answer (sx_iret dX11_hears_42 rfl)))))))))))))) (sx_aload_n dX11_hears_9 rfl (sx_iconst dX11_hears_10 rfl (sx_vcall dX11_hears_11 cf_X11_refuse (mg_3 (List.mem_of_getElem? (i := 120) rfl) rfl) (mg_3 (List.mem_of_getElem? (i := 122) rfl) rfl) (mg_p (List.mem_of_getElem? (i := 3) rfl) rfl) rfl c_X11_refuse (sx_iret dX11_hears_14 rfl))))))))
def sp_X11_hears (G : GT) : Sp := fun as S I J z Q => match as with
  | [.ref a0, .int a1, .int a2] => B_X11_hears_0 G 0 0 Q [some (.ref a0), some (.int a1), some (.int a2)] [] S I J z 0 0
  | _ => False
theorem c_X11_hears {l : Launch} {G : GT} {D : Nat} : ∀ as S I J z Q, sp_X11_hears G as S I J z Q → fqCall l G M_X11_hears (D + 4) 0 0 as S I J z Q := by
  intro as S I J z Q h
  unfold sp_X11_hears at h
  split at h
  · exact fq_enter _ (by decide +kernel) (Nat.le_of_ble_eq_true rfl) rfl (b_X11_hears_0 _ _ _ _ _ _ _ _ h)
  · exact h.elim
theorem dX11_rain_0 : decode cX11_rain 0 = .ok (.aload_n 0, 1) := by decide +kernel
theorem dX11_rain_1 : decode cX11_rain 1 = .ok (.getfield 46, 3) := by decide +kernel
theorem dX11_rain_4 : decode cX11_rain 4 = .ok (.getfield 182, 3) := by decide +kernel
theorem dX11_rain_7 : decode cX11_rain 7 = .ok (.iload_n 1, 1) := by decide +kernel
theorem dX11_rain_8 : decode cX11_rain 8 = .ok (.if_icmp .ne 10, 3) := by decide +kernel
theorem dX11_rain_11 : decode cX11_rain 11 = .ok (.aload_n 0, 1) := by decide +kernel
theorem dX11_rain_12 : decode cX11_rain 12 = .ok (.bipush 7, 2) := by decide +kernel
theorem dX11_rain_14 : decode cX11_rain 14 = .ok (.invokevirtual 78, 3) := by decide +kernel
theorem dX11_rain_17 : decode cX11_rain 17 = .ok (.ireturn, 1) := by decide +kernel
theorem dX11_rain_18 : decode cX11_rain 18 = .ok (.aload_n 0, 1) := by decide +kernel
theorem dX11_rain_19 : decode cX11_rain 19 = .ok (.getfield 46, 3) := by decide +kernel
theorem dX11_rain_22 : decode cX11_rain 22 = .ok (.iload_n 1, 1) := by decide +kernel
theorem dX11_rain_23 : decode cX11_rain 23 = .ok (.putfield 182, 3) := by decide +kernel
theorem dX11_rain_26 : decode cX11_rain 26 = .ok (.aload_n 0, 1) := by decide +kernel
theorem dX11_rain_27 : decode cX11_rain 27 = .ok (.invokevirtual 85, 3) := by decide +kernel
theorem dX11_rain_30 : decode cX11_rain 30 = .ok (.ireturn, 1) := by decide +kernel
abbrev M_X11_rain : MT := (yX11_rain, cX11_rain, 2, (some .boolean))
theorem cf_X11_rain : fq_cf M_X11_rain 1 := ⟨(mg_1 (List.mem_of_getElem? (i := 1) rfl) rfl), (mg_5 (List.mem_of_getElem? (i := 93) rfl) rfl), ⟨by decide, by decide, by decide +kernel⟩, by decide⟩
def B_X11_rain_0 (G : GT) (mc ms : Nat) (Q : Post) : Cn := ix_aload 0 (ix_getR 11 6 (ix_getI 6 16 (ix_iload 1 (ix_icmp_ne (ix_aload 0 (ix_getR 11 6 (ix_iload 1 (ix_putZ 6 16 (ix_aload 0 (ix_vcall 11 1 0 0 mc ms (sp_X11_grant G) (ix_zret mc ms Q))))))) (ix_aload 0 (ix_pushI 7 (ix_vcall 11 2 0 0 mc ms (sp_X11_deny G) (ix_zret mc ms Q))))))))
theorem b_X11_rain_0 {l : Launch} {G : GT} {D mc ms : Nat} {Q : Post} : Imp l G M_X11_rain (D + 1) mc ms Q (B_X11_rain_0 G mc ms Q) 0 := sx_aload_n dX11_rain_0 rfl (sx_getR dX11_rain_1 fl_FootQuarrel_46 (fun _ _ _ => rfl) (sx_getI dX11_rain_4 fl_FootQuarrel_182 (fun _ _ _ => rfl) (sx_iload_n dX11_rain_7 rfl (sx_icmp_ne 18 dX11_rain_8 (by decide) (sx_aload_n dX11_rain_18 rfl (sx_getR dX11_rain_19 fl_FootQuarrel_46 (fun _ _ _ => rfl) (sx_iload_n dX11_rain_22 rfl (sx_putZ dX11_rain_23 fl_FootQuarrel_182 (by decide) (fun _ _ _ => rfl) (fun v h => by rcases h with h | h <;> subst h <;> exact ⟨rfl, rfl⟩) (sx_aload_n dX11_rain_26 rfl (sx_vcall dX11_rain_27 cf_X11_grant (mg_3 (List.mem_of_getElem? (i := 96) rfl) rfl) (mg_3 (List.mem_of_getElem? (i := 98) rfl) rfl) (mg_p (List.mem_of_getElem? (i := 1) rfl) rfl) rfl c_X11_grant (sx_zret dX11_rain_30 rfl))))))) (sx_aload_n dX11_rain_11 rfl (sx_bipush dX11_rain_12 rfl (sx_vcall dX11_rain_14 cf_X11_deny (mg_3 (List.mem_of_getElem? (i := 88) rfl) rfl) (mg_3 (List.mem_of_getElem? (i := 90) rfl) rfl) (mg_p (List.mem_of_getElem? (i := 0) rfl) rfl) rfl c_X11_deny (sx_zret dX11_rain_17 rfl))))))))
def sp_X11_rain (G : GT) : Sp := fun as S I J z Q => match as with
  | [.ref a0, .int a1] => B_X11_rain_0 G 0 0 Q [some (.ref a0), some (.int a1)] [] S I J z 0 0
  | _ => False
theorem c_X11_rain {l : Launch} {G : GT} {D : Nat} : ∀ as S I J z Q, sp_X11_rain G as S I J z Q → fqCall l G M_X11_rain (D + 1) 0 0 as S I J z Q := by
  intro as S I J z Q h
  unfold sp_X11_rain at h
  split at h
  · exact fq_enter _ (by decide +kernel) (Nat.le_of_ble_eq_true rfl) rfl (b_X11_rain_0 _ _ _ _ _ _ _ _ h)
  · exact h.elim
theorem dX11_rule_0 : decode cX11_rule 0 = .ok (.iload_n 1, 1) := by decide +kernel
theorem dX11_rule_1 : decode cX11_rule 1 = .ok (.iconst 1, 1) := by decide +kernel
theorem dX11_rule_2 : decode cX11_rule 2 = .ok (.bipush 9, 2) := by decide +kernel
theorem dX11_rule_4 : decode cX11_rule 4 = .ok (.invokestatic 74, 3) := by decide +kernel
theorem dX11_rule_7 : decode cX11_rule 7 = .ok (.ifCond .ne 9, 3) := by decide +kernel
theorem dX11_rule_10 : decode cX11_rule 10 = .ok (.aload_n 0, 1) := by decide +kernel
theorem dX11_rule_11 : decode cX11_rule 11 = .ok (.iconst 1, 1) := by decide +kernel
theorem dX11_rule_12 : decode cX11_rule 12 = .ok (.invokevirtual 78, 3) := by decide +kernel
theorem dX11_rule_15 : decode cX11_rule 15 = .ok (.ireturn, 1) := by decide +kernel
theorem dX11_rule_16 : decode cX11_rule 16 = .ok (.aload_n 0, 1) := by decide +kernel
theorem dX11_rule_17 : decode cX11_rule 17 = .ok (.getfield 46, 3) := by decide +kernel
theorem dX11_rule_20 : decode cX11_rule 20 = .ok (.iload_n 1, 1) := by decide +kernel
theorem dX11_rule_21 : decode cX11_rule 21 = .ok (.putfield 170, 3) := by decide +kernel
theorem dX11_rule_24 : decode cX11_rule 24 = .ok (.aload_n 0, 1) := by decide +kernel
theorem dX11_rule_25 : decode cX11_rule 25 = .ok (.invokevirtual 85, 3) := by decide +kernel
theorem dX11_rule_28 : decode cX11_rule 28 = .ok (.ireturn, 1) := by decide +kernel
abbrev M_X11_rule : MT := (yX11_rule, cX11_rule, 2, (some .boolean))
theorem cf_X11_rule : fq_cf M_X11_rule 1 := ⟨(mg_1 (List.mem_of_getElem? (i := 1) rfl) rfl), (mg_5 (List.mem_of_getElem? (i := 113) rfl) rfl), ⟨by decide, by decide, by decide +kernel⟩, by decide⟩
def B_X11_rule_0 (G : GT) (mc ms : Nat) (Q : Post) : Cn := ix_iload 1 (ix_pushI 1 (ix_pushI 9 (ix_call 3 0 0 mc ms (sp_X11_isWithin G) (ix_if_ne (ix_aload 0 (ix_getR 11 6 (ix_iload 1 (ix_putI 6 9 (ix_aload 0 (ix_vcall 11 1 0 0 mc ms (sp_X11_grant G) (ix_zret mc ms Q))))))) (ix_aload 0 (ix_pushI 1 (ix_vcall 11 2 0 0 mc ms (sp_X11_deny G) (ix_zret mc ms Q))))))))
theorem b_X11_rule_0 {l : Launch} {G : GT} {D mc ms : Nat} {Q : Post} : Imp l G M_X11_rule (D + 1) mc ms Q (B_X11_rule_0 G mc ms Q) 0 := sx_iload_n dX11_rule_0 rfl (sx_iconst dX11_rule_1 rfl (sx_bipush dX11_rule_2 rfl (sx_scall dX11_rule_4 cf_X11_isWithin (mg_3 (List.mem_of_getElem? (i := 85) rfl) rfl) (mg_3 (List.mem_of_getElem? (i := 86) rfl) rfl) c_X11_isWithin (sx_if_ne 16 dX11_rule_7 (by decide) (sx_aload_n dX11_rule_16 rfl (sx_getR dX11_rule_17 fl_FootQuarrel_46 (fun _ _ _ => rfl) (sx_iload_n dX11_rule_20 rfl (sx_putI dX11_rule_21 fl_FootQuarrel_170 (by decide) (fun _ _ _ => rfl) (fun _ => ⟨rfl, rfl⟩) (sx_aload_n dX11_rule_24 rfl (sx_vcall dX11_rule_25 cf_X11_grant (mg_3 (List.mem_of_getElem? (i := 96) rfl) rfl) (mg_3 (List.mem_of_getElem? (i := 98) rfl) rfl) (mg_p (List.mem_of_getElem? (i := 1) rfl) rfl) rfl c_X11_grant (sx_zret dX11_rule_28 rfl))))))) (sx_aload_n dX11_rule_10 rfl (sx_iconst dX11_rule_11 rfl (sx_vcall dX11_rule_12 cf_X11_deny (mg_3 (List.mem_of_getElem? (i := 88) rfl) rfl) (mg_3 (List.mem_of_getElem? (i := 90) rfl) rfl) (mg_p (List.mem_of_getElem? (i := 0) rfl) rfl) rfl c_X11_deny (sx_zret dX11_rule_15 rfl))))))))
def sp_X11_rule (G : GT) : Sp := fun as S I J z Q => match as with
  | [.ref a0, .int a1] => B_X11_rule_0 G 0 0 Q [some (.ref a0), some (.int a1)] [] S I J z 0 0
  | _ => False
theorem c_X11_rule {l : Launch} {G : GT} {D : Nat} : ∀ as S I J z Q, sp_X11_rule G as S I J z Q → fqCall l G M_X11_rule (D + 1) 0 0 as S I J z Q := by
  intro as S I J z Q h
  unfold sp_X11_rule at h
  split at h
  · exact fq_enter _ (by decide +kernel) (Nat.le_of_ble_eq_true rfl) rfl (b_X11_rule_0 _ _ _ _ _ _ _ _ h)
  · exact h.elim
theorem dX11_told_0 : decode cX11_told 0 = .ok (.iload_n 1, 1) := by decide +kernel
theorem dX11_told_1 : decode cX11_told 1 = .ok (.tableswitch 226 0 12 #[67, 79, 91, 103, 115, 127, 139, 151, 166, 178, 190, 202, 214], 67) := by decide +kernel
theorem dX11_told_68 : decode cX11_told 68 = .ok (.aload_n 0, 1) := by decide +kernel
theorem dX11_told_69 : decode cX11_told 69 = .ok (.aload_n 0, 1) := by decide +kernel
theorem dX11_told_70 : decode cX11_told 70 = .ok (.getfield 46, 3) := by decide +kernel
theorem dX11_told_73 : decode cX11_told 73 = .ok (.getfield 164, 3) := by decide +kernel
theorem dX11_told_76 : decode cX11_told 76 = .ok (.invokevirtual 142, 3) := by decide +kernel
theorem dX11_told_79 : decode cX11_told 79 = .ok (.ireturn, 1) := by decide +kernel
theorem dX11_told_80 : decode cX11_told 80 = .ok (.aload_n 0, 1) := by decide +kernel
theorem dX11_told_81 : decode cX11_told 81 = .ok (.aload_n 0, 1) := by decide +kernel
theorem dX11_told_82 : decode cX11_told 82 = .ok (.getfield 46, 3) := by decide +kernel
theorem dX11_told_85 : decode cX11_told 85 = .ok (.getfield 139, 3) := by decide +kernel
theorem dX11_told_88 : decode cX11_told 88 = .ok (.invokevirtual 142, 3) := by decide +kernel
theorem dX11_told_91 : decode cX11_told 91 = .ok (.ireturn, 1) := by decide +kernel
theorem dX11_told_92 : decode cX11_told 92 = .ok (.aload_n 0, 1) := by decide +kernel
theorem dX11_told_93 : decode cX11_told 93 = .ok (.aload_n 0, 1) := by decide +kernel
theorem dX11_told_94 : decode cX11_told 94 = .ok (.getfield 46, 3) := by decide +kernel
theorem dX11_told_97 : decode cX11_told 97 = .ok (.getfield 167, 3) := by decide +kernel
theorem dX11_told_100 : decode cX11_told 100 = .ok (.invokevirtual 142, 3) := by decide +kernel
theorem dX11_told_103 : decode cX11_told 103 = .ok (.ireturn, 1) := by decide +kernel
theorem dX11_told_104 : decode cX11_told 104 = .ok (.aload_n 0, 1) := by decide +kernel
theorem dX11_told_105 : decode cX11_told 105 = .ok (.aload_n 0, 1) := by decide +kernel
theorem dX11_told_106 : decode cX11_told 106 = .ok (.getfield 46, 3) := by decide +kernel
theorem dX11_told_109 : decode cX11_told 109 = .ok (.getfield 170, 3) := by decide +kernel
theorem dX11_told_112 : decode cX11_told 112 = .ok (.invokevirtual 142, 3) := by decide +kernel
theorem dX11_told_115 : decode cX11_told 115 = .ok (.ireturn, 1) := by decide +kernel
theorem dX11_told_116 : decode cX11_told 116 = .ok (.aload_n 0, 1) := by decide +kernel
theorem dX11_told_117 : decode cX11_told 117 = .ok (.aload_n 0, 1) := by decide +kernel
theorem dX11_told_118 : decode cX11_told 118 = .ok (.getfield 46, 3) := by decide +kernel
theorem dX11_told_121 : decode cX11_told 121 = .ok (.getfield 173, 3) := by decide +kernel
theorem dX11_told_124 : decode cX11_told 124 = .ok (.invokevirtual 142, 3) := by decide +kernel
theorem dX11_told_127 : decode cX11_told 127 = .ok (.ireturn, 1) := by decide +kernel
theorem dX11_told_128 : decode cX11_told 128 = .ok (.aload_n 0, 1) := by decide +kernel
theorem dX11_told_129 : decode cX11_told 129 = .ok (.aload_n 0, 1) := by decide +kernel
theorem dX11_told_130 : decode cX11_told 130 = .ok (.getfield 46, 3) := by decide +kernel
theorem dX11_told_133 : decode cX11_told 133 = .ok (.getfield 176, 3) := by decide +kernel
theorem dX11_told_136 : decode cX11_told 136 = .ok (.invokevirtual 142, 3) := by decide +kernel
theorem dX11_told_139 : decode cX11_told 139 = .ok (.ireturn, 1) := by decide +kernel
theorem dX11_told_140 : decode cX11_told 140 = .ok (.aload_n 0, 1) := by decide +kernel
theorem dX11_told_141 : decode cX11_told 141 = .ok (.aload_n 0, 1) := by decide +kernel
theorem dX11_told_142 : decode cX11_told 142 = .ok (.getfield 46, 3) := by decide +kernel
theorem dX11_told_145 : decode cX11_told 145 = .ok (.getfield 179, 3) := by decide +kernel
theorem dX11_told_148 : decode cX11_told 148 = .ok (.invokevirtual 142, 3) := by decide +kernel
theorem dX11_told_151 : decode cX11_told 151 = .ok (.ireturn, 1) := by decide +kernel
theorem dX11_told_152 : decode cX11_told 152 = .ok (.aload_n 0, 1) := by decide +kernel
theorem dX11_told_153 : decode cX11_told 153 = .ok (.aload_n 0, 1) := by decide +kernel
theorem dX11_told_154 : decode cX11_told 154 = .ok (.getfield 46, 3) := by decide +kernel
theorem dX11_told_157 : decode cX11_told 157 = .ok (.getfield 182, 3) := by decide +kernel
theorem dX11_told_160 : decode cX11_told 160 = .ok (.invokestatic 186, 3) := by decide +kernel
theorem dX11_told_163 : decode cX11_told 163 = .ok (.invokevirtual 142, 3) := by decide +kernel
theorem dX11_told_166 : decode cX11_told 166 = .ok (.ireturn, 1) := by decide +kernel
theorem dX11_told_167 : decode cX11_told 167 = .ok (.aload_n 0, 1) := by decide +kernel
theorem dX11_told_168 : decode cX11_told 168 = .ok (.aload_n 0, 1) := by decide +kernel
theorem dX11_told_169 : decode cX11_told 169 = .ok (.getfield 46, 3) := by decide +kernel
theorem dX11_told_172 : decode cX11_told 172 = .ok (.invokevirtual 190, 3) := by decide +kernel
theorem dX11_told_175 : decode cX11_told 175 = .ok (.invokevirtual 142, 3) := by decide +kernel
theorem dX11_told_178 : decode cX11_told 178 = .ok (.ireturn, 1) := by decide +kernel
theorem dX11_told_179 : decode cX11_told 179 = .ok (.aload_n 0, 1) := by decide +kernel
theorem dX11_told_180 : decode cX11_told 180 = .ok (.aload_n 0, 1) := by decide +kernel
theorem dX11_told_181 : decode cX11_told 181 = .ok (.getfield 46, 3) := by decide +kernel
theorem dX11_told_184 : decode cX11_told 184 = .ok (.getfield 194, 3) := by decide +kernel
theorem dX11_told_187 : decode cX11_told 187 = .ok (.invokevirtual 142, 3) := by decide +kernel
theorem dX11_told_190 : decode cX11_told 190 = .ok (.ireturn, 1) := by decide +kernel
theorem dX11_told_191 : decode cX11_told 191 = .ok (.aload_n 0, 1) := by decide +kernel
theorem dX11_told_192 : decode cX11_told 192 = .ok (.aload_n 0, 1) := by decide +kernel
theorem dX11_told_193 : decode cX11_told 193 = .ok (.getfield 46, 3) := by decide +kernel
theorem dX11_told_196 : decode cX11_told 196 = .ok (.invokevirtual 197, 3) := by decide +kernel
theorem dX11_told_199 : decode cX11_told 199 = .ok (.invokevirtual 142, 3) := by decide +kernel
theorem dX11_told_202 : decode cX11_told 202 = .ok (.ireturn, 1) := by decide +kernel
theorem dX11_told_203 : decode cX11_told 203 = .ok (.aload_n 0, 1) := by decide +kernel
theorem dX11_told_204 : decode cX11_told 204 = .ok (.aload_n 0, 1) := by decide +kernel
theorem dX11_told_205 : decode cX11_told 205 = .ok (.getfield 46, 3) := by decide +kernel
theorem dX11_told_208 : decode cX11_told 208 = .ok (.getfield 200, 3) := by decide +kernel
theorem dX11_told_211 : decode cX11_told 211 = .ok (.invokevirtual 142, 3) := by decide +kernel
theorem dX11_told_214 : decode cX11_told 214 = .ok (.ireturn, 1) := by decide +kernel
theorem dX11_told_215 : decode cX11_told 215 = .ok (.aload_n 0, 1) := by decide +kernel
theorem dX11_told_216 : decode cX11_told 216 = .ok (.aload_n 0, 1) := by decide +kernel
theorem dX11_told_217 : decode cX11_told 217 = .ok (.getfield 46, 3) := by decide +kernel
theorem dX11_told_220 : decode cX11_told 220 = .ok (.getfield 203, 3) := by decide +kernel
theorem dX11_told_223 : decode cX11_told 223 = .ok (.invokevirtual 142, 3) := by decide +kernel
theorem dX11_told_226 : decode cX11_told 226 = .ok (.ireturn, 1) := by decide +kernel
theorem dX11_told_227 : decode cX11_told 227 = .ok (.aload_n 0, 1) := by decide +kernel
theorem dX11_told_228 : decode cX11_told 228 = .ok (.iconst 1, 1) := by decide +kernel
theorem dX11_told_229 : decode cX11_told 229 = .ok (.invokevirtual 97, 3) := by decide +kernel
theorem dX11_told_232 : decode cX11_told 232 = .ok (.ireturn, 1) := by decide +kernel
abbrev M_X11_told : MT := (yX11_told, cX11_told, 2, (some .int))
theorem cf_X11_told : fq_cf M_X11_told 1 := ⟨(mg_1 (List.mem_of_getElem? (i := 1) rfl) rfl), (mg_4 (List.mem_of_getElem? (i := 162) rfl) rfl), ⟨by decide, by decide, by decide +kernel⟩, by decide⟩
def B_X11_told_0 (G : GT) (mc ms : Nat) (Q : Post) : Cn := ix_iload 1 (ix_tsw 0 [ix_aload 0 (ix_aload 0 (ix_getR 11 6 (ix_getI 6 5 (ix_vcall 11 2 0 0 mc ms (sp_X11_answer G) (ix_iret mc ms Q))))), ix_aload 0 (ix_aload 0 (ix_getR 11 6 (ix_getI 6 6 (ix_vcall 11 2 0 0 mc ms (sp_X11_answer G) (ix_iret mc ms Q))))), ix_aload 0 (ix_aload 0 (ix_getR 11 6 (ix_getI 6 7 (ix_vcall 11 2 0 0 mc ms (sp_X11_answer G) (ix_iret mc ms Q))))), ix_aload 0 (ix_aload 0 (ix_getR 11 6 (ix_getI 6 9 (ix_vcall 11 2 0 0 mc ms (sp_X11_answer G) (ix_iret mc ms Q))))), ix_aload 0 (ix_aload 0 (ix_getR 11 6 (ix_getI 6 10 (ix_vcall 11 2 0 0 mc ms (sp_X11_answer G) (ix_iret mc ms Q))))), ix_aload 0 (ix_aload 0 (ix_getR 11 6 (ix_getI 6 11 (ix_vcall 11 2 0 0 mc ms (sp_X11_answer G) (ix_iret mc ms Q))))), ix_aload 0 (ix_aload 0 (ix_getR 11 6 (ix_getI 6 12 (ix_vcall 11 2 0 0 mc ms (sp_X11_answer G) (ix_iret mc ms Q))))), ix_aload 0 (ix_aload 0 (ix_getR 11 6 (ix_getI 6 16 (ix_call 1 0 0 mc ms (sp_X11_oneIf G) (ix_vcall 11 2 0 0 mc ms (sp_X11_answer G) (ix_iret mc ms Q)))))), ix_aload 0 (ix_aload 0 (ix_getR 11 6 (ix_vcall 6 1 0 0 mc ms (sp_X6_angrySet G) (ix_vcall 11 2 0 0 mc ms (sp_X11_answer G) (ix_iret mc ms Q))))), ix_aload 0 (ix_aload 0 (ix_getR 11 6 (ix_getI 6 13 (ix_vcall 11 2 0 0 mc ms (sp_X11_answer G) (ix_iret mc ms Q))))), ix_aload 0 (ix_aload 0 (ix_getR 11 6 (ix_vcall 6 1 0 0 mc ms (sp_X6_landlessSet G) (ix_vcall 11 2 0 0 mc ms (sp_X11_answer G) (ix_iret mc ms Q))))), ix_aload 0 (ix_aload 0 (ix_getR 11 6 (ix_getI 6 14 (ix_vcall 11 2 0 0 mc ms (sp_X11_answer G) (ix_iret mc ms Q))))), ix_aload 0 (ix_aload 0 (ix_getR 11 6 (ix_getI 6 15 (ix_vcall 11 2 0 0 mc ms (sp_X11_answer G) (ix_iret mc ms Q)))))] (ix_aload 0 (ix_pushI 1 (ix_vcall 11 2 0 0 mc ms (sp_X11_refuse G) (ix_iret mc ms Q)))))
theorem b_X11_told_0 {l : Launch} {G : GT} {D mc ms : Nat} {Q : Post} : Imp l G M_X11_told (D + 1) mc ms Q (B_X11_told_0 G mc ms Q) 0 := sx_iload_n dX11_told_0 rfl (sx_tswA [68, 80, 92, 104, 116, 128, 140, 152, 167, 179, 191, 203, 215] 227 dX11_told_1 rfl (by decide) (by decide) (by decide) ⟨sx_aload_n dX11_told_68 rfl (sx_aload_n dX11_told_69 rfl (sx_getR dX11_told_70 fl_FootQuarrel_46 (fun _ _ _ => rfl) (sx_getI dX11_told_73 fl_FootQuarrel_164 (fun _ _ _ => rfl) (sx_vcall dX11_told_76 cf_X11_answer (mg_4 (List.mem_of_getElem? (i := 72) rfl) rfl) (mg_4 (List.mem_of_getElem? (i := 74) rfl) rfl) (mg_p (List.mem_of_getElem? (i := 17) rfl) rfl) rfl c_X11_answer (sx_iret dX11_told_79 rfl))))), ⟨sx_aload_n dX11_told_80 rfl (sx_aload_n dX11_told_81 rfl (sx_getR dX11_told_82 fl_FootQuarrel_46 (fun _ _ _ => rfl) (sx_getI dX11_told_85 fl_FootQuarrel_139 (fun _ _ _ => rfl) (sx_vcall dX11_told_88 cf_X11_answer (mg_4 (List.mem_of_getElem? (i := 72) rfl) rfl) (mg_4 (List.mem_of_getElem? (i := 74) rfl) rfl) (mg_p (List.mem_of_getElem? (i := 17) rfl) rfl) rfl c_X11_answer (sx_iret dX11_told_91 rfl))))), ⟨sx_aload_n dX11_told_92 rfl (sx_aload_n dX11_told_93 rfl (sx_getR dX11_told_94 fl_FootQuarrel_46 (fun _ _ _ => rfl) (sx_getI dX11_told_97 fl_FootQuarrel_167 (fun _ _ _ => rfl) (sx_vcall dX11_told_100 cf_X11_answer (mg_4 (List.mem_of_getElem? (i := 72) rfl) rfl) (mg_4 (List.mem_of_getElem? (i := 74) rfl) rfl) (mg_p (List.mem_of_getElem? (i := 17) rfl) rfl) rfl c_X11_answer (sx_iret dX11_told_103 rfl))))), ⟨sx_aload_n dX11_told_104 rfl (sx_aload_n dX11_told_105 rfl (sx_getR dX11_told_106 fl_FootQuarrel_46 (fun _ _ _ => rfl) (sx_getI dX11_told_109 fl_FootQuarrel_170 (fun _ _ _ => rfl) (sx_vcall dX11_told_112 cf_X11_answer (mg_4 (List.mem_of_getElem? (i := 72) rfl) rfl) (mg_4 (List.mem_of_getElem? (i := 74) rfl) rfl) (mg_p (List.mem_of_getElem? (i := 17) rfl) rfl) rfl c_X11_answer (sx_iret dX11_told_115 rfl))))), ⟨sx_aload_n dX11_told_116 rfl (sx_aload_n dX11_told_117 rfl (sx_getR dX11_told_118 fl_FootQuarrel_46 (fun _ _ _ => rfl) (sx_getI dX11_told_121 fl_FootQuarrel_173 (fun _ _ _ => rfl) (sx_vcall dX11_told_124 cf_X11_answer (mg_4 (List.mem_of_getElem? (i := 72) rfl) rfl) (mg_4 (List.mem_of_getElem? (i := 74) rfl) rfl) (mg_p (List.mem_of_getElem? (i := 17) rfl) rfl) rfl c_X11_answer (sx_iret dX11_told_127 rfl))))), ⟨sx_aload_n dX11_told_128 rfl (sx_aload_n dX11_told_129 rfl (sx_getR dX11_told_130 fl_FootQuarrel_46 (fun _ _ _ => rfl) (sx_getI dX11_told_133 fl_FootQuarrel_176 (fun _ _ _ => rfl) (sx_vcall dX11_told_136 cf_X11_answer (mg_4 (List.mem_of_getElem? (i := 72) rfl) rfl) (mg_4 (List.mem_of_getElem? (i := 74) rfl) rfl) (mg_p (List.mem_of_getElem? (i := 17) rfl) rfl) rfl c_X11_answer (sx_iret dX11_told_139 rfl))))), ⟨sx_aload_n dX11_told_140 rfl (sx_aload_n dX11_told_141 rfl (sx_getR dX11_told_142 fl_FootQuarrel_46 (fun _ _ _ => rfl) (sx_getI dX11_told_145 fl_FootQuarrel_179 (fun _ _ _ => rfl) (sx_vcall dX11_told_148 cf_X11_answer (mg_4 (List.mem_of_getElem? (i := 72) rfl) rfl) (mg_4 (List.mem_of_getElem? (i := 74) rfl) rfl) (mg_p (List.mem_of_getElem? (i := 17) rfl) rfl) rfl c_X11_answer (sx_iret dX11_told_151 rfl))))), ⟨sx_aload_n dX11_told_152 rfl (sx_aload_n dX11_told_153 rfl (sx_getR dX11_told_154 fl_FootQuarrel_46 (fun _ _ _ => rfl) (sx_getI dX11_told_157 fl_FootQuarrel_182 (fun _ _ _ => rfl) (sx_scall dX11_told_160 cf_X11_oneIf (mg_4 (List.mem_of_getElem? (i := 163) rfl) rfl) (mg_4 (List.mem_of_getElem? (i := 164) rfl) rfl) c_X11_oneIf (sx_vcall dX11_told_163 cf_X11_answer (mg_4 (List.mem_of_getElem? (i := 72) rfl) rfl) (mg_4 (List.mem_of_getElem? (i := 74) rfl) rfl) (mg_p (List.mem_of_getElem? (i := 17) rfl) rfl) rfl c_X11_answer (sx_iret dX11_told_166 rfl)))))), ⟨sx_aload_n dX11_told_167 rfl (sx_aload_n dX11_told_168 rfl (sx_getR dX11_told_169 fl_FootQuarrel_46 (fun _ _ _ => rfl) (sx_vcall dX11_told_172 cf_X6_angrySet (mg_4 (List.mem_of_getElem? (i := 166) rfl) rfl) (mg_4 (List.mem_of_getElem? (i := 167) rfl) rfl) (mg_4 (List.mem_of_getElem? (i := 168) rfl) rfl) rfl c_X6_angrySet (sx_vcall dX11_told_175 cf_X11_answer (mg_4 (List.mem_of_getElem? (i := 72) rfl) rfl) (mg_4 (List.mem_of_getElem? (i := 74) rfl) rfl) (mg_p (List.mem_of_getElem? (i := 17) rfl) rfl) rfl c_X11_answer (sx_iret dX11_told_178 rfl))))), ⟨sx_aload_n dX11_told_179 rfl (sx_aload_n dX11_told_180 rfl (sx_getR dX11_told_181 fl_FootQuarrel_46 (fun _ _ _ => rfl) (sx_getI dX11_told_184 fl_FootQuarrel_194 (fun _ _ _ => rfl) (sx_vcall dX11_told_187 cf_X11_answer (mg_4 (List.mem_of_getElem? (i := 72) rfl) rfl) (mg_4 (List.mem_of_getElem? (i := 74) rfl) rfl) (mg_p (List.mem_of_getElem? (i := 17) rfl) rfl) rfl c_X11_answer (sx_iret dX11_told_190 rfl))))), ⟨sx_aload_n dX11_told_191 rfl (sx_aload_n dX11_told_192 rfl (sx_getR dX11_told_193 fl_FootQuarrel_46 (fun _ _ _ => rfl) (sx_vcall dX11_told_196 cf_X6_landlessSet (mg_4 (List.mem_of_getElem? (i := 170) rfl) rfl) (mg_4 (List.mem_of_getElem? (i := 171) rfl) rfl) (mg_4 (List.mem_of_getElem? (i := 172) rfl) rfl) rfl c_X6_landlessSet (sx_vcall dX11_told_199 cf_X11_answer (mg_4 (List.mem_of_getElem? (i := 72) rfl) rfl) (mg_4 (List.mem_of_getElem? (i := 74) rfl) rfl) (mg_p (List.mem_of_getElem? (i := 17) rfl) rfl) rfl c_X11_answer (sx_iret dX11_told_202 rfl))))), ⟨sx_aload_n dX11_told_203 rfl (sx_aload_n dX11_told_204 rfl (sx_getR dX11_told_205 fl_FootQuarrel_46 (fun _ _ _ => rfl) (sx_getI dX11_told_208 fl_FootQuarrel_200 (fun _ _ _ => rfl) (sx_vcall dX11_told_211 cf_X11_answer (mg_4 (List.mem_of_getElem? (i := 72) rfl) rfl) (mg_4 (List.mem_of_getElem? (i := 74) rfl) rfl) (mg_p (List.mem_of_getElem? (i := 17) rfl) rfl) rfl c_X11_answer (sx_iret dX11_told_214 rfl))))), ⟨sx_aload_n dX11_told_215 rfl (sx_aload_n dX11_told_216 rfl (sx_getR dX11_told_217 fl_FootQuarrel_46 (fun _ _ _ => rfl) (sx_getI dX11_told_220 fl_FootQuarrel_203 (fun _ _ _ => rfl) (sx_vcall dX11_told_223 cf_X11_answer (mg_4 (List.mem_of_getElem? (i := 72) rfl) rfl) (mg_4 (List.mem_of_getElem? (i := 74) rfl) rfl) (mg_p (List.mem_of_getElem? (i := 17) rfl) rfl) rfl c_X11_answer (sx_iret dX11_told_226 rfl))))), trivial⟩⟩⟩⟩⟩⟩⟩⟩⟩⟩⟩⟩⟩ (sx_aload_n dX11_told_227 rfl (sx_iconst dX11_told_228 rfl (sx_vcall dX11_told_229 cf_X11_refuse (mg_3 (List.mem_of_getElem? (i := 120) rfl) rfl) (mg_3 (List.mem_of_getElem? (i := 122) rfl) rfl) (mg_p (List.mem_of_getElem? (i := 3) rfl) rfl) rfl c_X11_refuse (sx_iret dX11_told_232 rfl)))))
def sp_X11_told (G : GT) : Sp := fun as S I J z Q => match as with
  | [.ref a0, .int a1] => B_X11_told_0 G 0 0 Q [some (.ref a0), some (.int a1)] [] S I J z 0 0
  | _ => False
theorem c_X11_told {l : Launch} {G : GT} {D : Nat} : ∀ as S I J z Q, sp_X11_told G as S I J z Q → fqCall l G M_X11_told (D + 1) 0 0 as S I J z Q := by
  intro as S I J z Q h
  unfold sp_X11_told at h
  split at h
  · exact fq_enter _ (by decide +kernel) (Nat.le_of_ble_eq_true rfl) rfl (b_X11_told_0 _ _ _ _ _ _ _ _ h)
  · exact h.elim
theorem dX11_house_0 : decode cX11_house 0 = .ok (.aload_n 0, 1) := by decide +kernel
theorem dX11_house_1 : decode cX11_house 1 = .ok (.iload_n 1, 1) := by decide +kernel
theorem dX11_house_2 : decode cX11_house 2 = .ok (.invokevirtual 206, 3) := by decide +kernel
theorem dX11_house_5 : decode cX11_house 5 = .ok (.ifCond .ne 9, 3) := by decide +kernel
theorem dX11_house_8 : decode cX11_house 8 = .ok (.aload_n 0, 1) := by decide +kernel
theorem dX11_house_9 : decode cX11_house 9 = .ok (.iconst 1, 1) := by decide +kernel
theorem dX11_house_10 : decode cX11_house 10 = .ok (.invokevirtual 97, 3) := by decide +kernel
theorem dX11_house_13 : decode cX11_house 13 = .ok (.ireturn, 1) := by decide +kernel
theorem dX11_house_14 : decode cX11_house 14 = .ok (.aload_n 0, 1) := by decide +kernel
theorem dX11_house_15 : decode cX11_house 15 = .ok (.getfield 46, 3) := by decide +kernel
theorem dX11_house_18 : decode cX11_house 18 = .ok (.getfield 209, 3) := by decide +kernel
theorem dX11_house_21 : decode cX11_house 21 = .ok (.iload_n 1, 1) := by decide +kernel
theorem dX11_house_22 : decode cX11_house 22 = .ok (.aaload, 1) := by decide +kernel
theorem dX11_house_23 : decode cX11_house 23 = .ok (.astore_n 3, 1) := by decide +kernel
theorem dX11_house_24 : decode cX11_house 24 = .ok (.iload_n 2, 1) := by decide +kernel
theorem dX11_house_25 : decode cX11_house 25 = .ok (.tableswitch 71 0 3 #[31, 40, 49, 62], 31) := by decide +kernel
theorem dX11_house_56 : decode cX11_house 56 = .ok (.aload_n 0, 1) := by decide +kernel
theorem dX11_house_57 : decode cX11_house 57 = .ok (.aload_n 3, 1) := by decide +kernel
theorem dX11_house_58 : decode cX11_house 58 = .ok (.getfield 213, 3) := by decide +kernel
theorem dX11_house_61 : decode cX11_house 61 = .ok (.invokevirtual 142, 3) := by decide +kernel
theorem dX11_house_64 : decode cX11_house 64 = .ok (.ireturn, 1) := by decide +kernel
theorem dX11_house_65 : decode cX11_house 65 = .ok (.aload_n 0, 1) := by decide +kernel
theorem dX11_house_66 : decode cX11_house 66 = .ok (.aload_n 3, 1) := by decide +kernel
theorem dX11_house_67 : decode cX11_house 67 = .ok (.getfield 218, 3) := by decide +kernel
theorem dX11_house_70 : decode cX11_house 70 = .ok (.invokevirtual 142, 3) := by decide +kernel
theorem dX11_house_73 : decode cX11_house 73 = .ok (.ireturn, 1) := by decide +kernel
theorem dX11_house_74 : decode cX11_house 74 = .ok (.aload_n 0, 1) := by decide +kernel
theorem dX11_house_75 : decode cX11_house 75 = .ok (.aload_n 0, 1) := by decide +kernel
theorem dX11_house_76 : decode cX11_house 76 = .ok (.getfield 46, 3) := by decide +kernel
theorem dX11_house_79 : decode cX11_house 79 = .ok (.iload_n 1, 1) := by decide +kernel
theorem dX11_house_80 : decode cX11_house 80 = .ok (.invokevirtual 221, 3) := by decide +kernel
theorem dX11_house_83 : decode cX11_house 83 = .ok (.invokevirtual 142, 3) := by decide +kernel
theorem dX11_house_86 : decode cX11_house 86 = .ok (.ireturn, 1) := by decide +kernel
theorem dX11_house_87 : decode cX11_house 87 = .ok (.aload_n 0, 1) := by decide +kernel
theorem dX11_house_88 : decode cX11_house 88 = .ok (.aload_n 3, 1) := by decide +kernel
theorem dX11_house_89 : decode cX11_house 89 = .ok (.getfield 224, 3) := by decide +kernel
theorem dX11_house_92 : decode cX11_house 92 = .ok (.invokevirtual 142, 3) := by decide +kernel
theorem dX11_house_95 : decode cX11_house 95 = .ok (.ireturn, 1) := by decide +kernel
theorem dX11_house_96 : decode cX11_house 96 = .ok (.aload_n 0, 1) := by decide +kernel
theorem dX11_house_97 : decode cX11_house 97 = .ok (.iconst 1, 1) := by decide +kernel
theorem dX11_house_98 : decode cX11_house 98 = .ok (.invokevirtual 97, 3) := by decide +kernel
theorem dX11_house_101 : decode cX11_house 101 = .ok (.ireturn, 1) := by decide +kernel
abbrev M_X11_house : MT := (yX11_house, cX11_house, 4, (some .int))
theorem cf_X11_house : fq_cf M_X11_house 2 := ⟨(mg_1 (List.mem_of_getElem? (i := 1) rfl) rfl), (mg_4 (List.mem_of_getElem? (i := 177) rfl) rfl), ⟨by decide, by decide, by decide +kernel⟩, by decide⟩
def B_X11_house_0 (G : GT) (mc ms : Nat) (Q : Post) : Cn := ix_aload 0 (ix_iload 1 (ix_vcall 11 2 0 0 mc ms (sp_X11_isHouse G) (ix_if_ne (ix_aload 0 (ix_getR 11 6 (ix_getR 6 0 (ix_iload 1 (ix_aald 16 (ix_astore 3 (ix_iload 2 (ix_tsw 0 [ix_aload 0 (ix_aload 3 (ix_getI 0 2 (ix_vcall 11 2 0 0 mc ms (sp_X11_answer G) (ix_iret mc ms Q)))), ix_aload 0 (ix_aload 3 (ix_getI 0 1 (ix_vcall 11 2 0 0 mc ms (sp_X11_answer G) (ix_iret mc ms Q)))), ix_aload 0 (ix_aload 0 (ix_getR 11 6 (ix_iload 1 (ix_vcall 6 2 0 0 mc ms (sp_X6_livingIn G) (ix_vcall 11 2 0 0 mc ms (sp_X11_answer G) (ix_iret mc ms Q)))))), ix_aload 0 (ix_aload 3 (ix_getI 0 3 (ix_vcall 11 2 0 0 mc ms (sp_X11_answer G) (ix_iret mc ms Q))))] (ix_aload 0 (ix_pushI 1 (ix_vcall 11 2 0 0 mc ms (sp_X11_refuse G) (ix_iret mc ms Q)))))))))))) (ix_aload 0 (ix_pushI 1 (ix_vcall 11 2 0 0 mc ms (sp_X11_refuse G) (ix_iret mc ms Q)))))))
theorem b_X11_house_0 {l : Launch} {G : GT} {D mc ms : Nat} {Q : Post} : Imp l G M_X11_house (D + 2) mc ms Q (B_X11_house_0 G mc ms Q) 0 := sx_aload_n dX11_house_0 rfl (sx_iload_n dX11_house_1 rfl (sx_vcall dX11_house_2 cf_X11_isHouse (mg_4 (List.mem_of_getElem? (i := 178) rfl) rfl) (mg_4 (List.mem_of_getElem? (i := 180) rfl) rfl) (mg_p (List.mem_of_getElem? (i := 24) rfl) rfl) rfl c_X11_isHouse (sx_if_ne 14 dX11_house_5 (by decide) (sx_aload_n dX11_house_14 rfl (sx_getR dX11_house_15 fl_FootQuarrel_46 (fun _ _ _ => rfl) (sx_getR dX11_house_18 fl_FootQuarrel_209 (fun _ _ _ => rfl) (sx_iload_n dX11_house_21 rfl (sx_aald dX11_house_22 (by decide) (by decide) rfl (sx_astore_n dX11_house_23 rfl (by decide) (sx_iload_n dX11_house_24 rfl (sx_tswA [56, 65, 74, 87] 96 dX11_house_25 rfl (by decide) (by decide) (by decide) ⟨sx_aload_n dX11_house_56 rfl (sx_aload_n dX11_house_57 rfl (sx_getI dX11_house_58 fl_FootQuarrel_213 (fun _ _ _ => rfl) (sx_vcall dX11_house_61 cf_X11_answer (mg_4 (List.mem_of_getElem? (i := 72) rfl) rfl) (mg_4 (List.mem_of_getElem? (i := 74) rfl) rfl) (mg_p (List.mem_of_getElem? (i := 17) rfl) rfl) rfl c_X11_answer (sx_iret dX11_house_64 rfl)))), ⟨sx_aload_n dX11_house_65 rfl (sx_aload_n dX11_house_66 rfl (sx_getI dX11_house_67 fl_FootQuarrel_218 (fun _ _ _ => rfl) (sx_vcall dX11_house_70 cf_X11_answer (mg_4 (List.mem_of_getElem? (i := 72) rfl) rfl) (mg_4 (List.mem_of_getElem? (i := 74) rfl) rfl) (mg_p (List.mem_of_getElem? (i := 17) rfl) rfl) rfl c_X11_answer (sx_iret dX11_house_73 rfl)))), ⟨sx_aload_n dX11_house_74 rfl (sx_aload_n dX11_house_75 rfl (sx_getR dX11_house_76 fl_FootQuarrel_46 (fun _ _ _ => rfl) (sx_iload_n dX11_house_79 rfl (sx_vcall dX11_house_80 cf_X6_livingIn (mg_4 (List.mem_of_getElem? (i := 182) rfl) rfl) (mg_4 (List.mem_of_getElem? (i := 183) rfl) rfl) (mg_4 (List.mem_of_getElem? (i := 184) rfl) rfl) rfl c_X6_livingIn (sx_vcall dX11_house_83 cf_X11_answer (mg_4 (List.mem_of_getElem? (i := 72) rfl) rfl) (mg_4 (List.mem_of_getElem? (i := 74) rfl) rfl) (mg_p (List.mem_of_getElem? (i := 17) rfl) rfl) rfl c_X11_answer (sx_iret dX11_house_86 rfl)))))), ⟨sx_aload_n dX11_house_87 rfl (sx_aload_n dX11_house_88 rfl (sx_getI dX11_house_89 fl_FootQuarrel_224 (fun _ _ _ => rfl) (sx_vcall dX11_house_92 cf_X11_answer (mg_4 (List.mem_of_getElem? (i := 72) rfl) rfl) (mg_4 (List.mem_of_getElem? (i := 74) rfl) rfl) (mg_p (List.mem_of_getElem? (i := 17) rfl) rfl) rfl c_X11_answer (sx_iret dX11_house_95 rfl)))), trivial⟩⟩⟩⟩ (sx_aload_n dX11_house_96 rfl (sx_iconst dX11_house_97 rfl (sx_vcall dX11_house_98 cf_X11_refuse (mg_3 (List.mem_of_getElem? (i := 120) rfl) rfl) (mg_3 (List.mem_of_getElem? (i := 122) rfl) rfl) (mg_p (List.mem_of_getElem? (i := 3) rfl) rfl) rfl c_X11_refuse (sx_iret dX11_house_101 rfl)))))))))))) (sx_aload_n dX11_house_8 rfl (sx_iconst dX11_house_9 rfl (sx_vcall dX11_house_10 cf_X11_refuse (mg_3 (List.mem_of_getElem? (i := 120) rfl) rfl) (mg_3 (List.mem_of_getElem? (i := 122) rfl) rfl) (mg_p (List.mem_of_getElem? (i := 3) rfl) rfl) rfl c_X11_refuse (sx_iret dX11_house_13 rfl)))))))
def sp_X11_house (G : GT) : Sp := fun as S I J z Q => match as with
  | [.ref a0, .int a1, .int a2] => B_X11_house_0 G 0 0 Q [some (.ref a0), some (.int a1), some (.int a2), none] [] S I J z 0 0
  | _ => False
theorem c_X11_house {l : Launch} {G : GT} {D : Nat} : ∀ as S I J z Q, sp_X11_house G as S I J z Q → fqCall l G M_X11_house (D + 2) 0 0 as S I J z Q := by
  intro as S I J z Q h
  unfold sp_X11_house at h
  split at h
  · exact fq_enter _ (by decide +kernel) (Nat.le_of_ble_eq_true rfl) rfl (b_X11_house_0 _ _ _ _ _ _ _ _ h)
  · exact h.elim
theorem dX11_person_0 : decode cX11_person 0 = .ok (.aload_n 0, 1) := by decide +kernel
theorem dX11_person_1 : decode cX11_person 1 = .ok (.iload_n 1, 1) := by decide +kernel
theorem dX11_person_2 : decode cX11_person 2 = .ok (.invokevirtual 233, 3) := by decide +kernel
theorem dX11_person_5 : decode cX11_person 5 = .ok (.ifCond .ne 9, 3) := by decide +kernel
theorem dX11_person_8 : decode cX11_person 8 = .ok (.aload_n 0, 1) := by decide +kernel
theorem dX11_person_9 : decode cX11_person 9 = .ok (.iconst 1, 1) := by decide +kernel
theorem dX11_person_10 : decode cX11_person 10 = .ok (.invokevirtual 97, 3) := by decide +kernel
theorem dX11_person_13 : decode cX11_person 13 = .ok (.ireturn, 1) := by decide +kernel
theorem dX11_person_14 : decode cX11_person 14 = .ok (.aload_n 0, 1) := by decide +kernel
theorem dX11_person_15 : decode cX11_person 15 = .ok (.getfield 46, 3) := by decide +kernel
theorem dX11_person_18 : decode cX11_person 18 = .ok (.getfield 236, 3) := by decide +kernel
theorem dX11_person_21 : decode cX11_person 21 = .ok (.iload_n 1, 1) := by decide +kernel
theorem dX11_person_22 : decode cX11_person 22 = .ok (.aaload, 1) := by decide +kernel
theorem dX11_person_23 : decode cX11_person 23 = .ok (.astore_n 3, 1) := by decide +kernel
theorem dX11_person_24 : decode cX11_person 24 = .ok (.iload_n 2, 1) := by decide +kernel
theorem dX11_person_25 : decode cX11_person 25 = .ok (.tableswitch 106 0 6 #[43, 52, 61, 70, 79, 88, 97], 43) := by decide +kernel
theorem dX11_person_68 : decode cX11_person 68 = .ok (.aload_n 0, 1) := by decide +kernel
theorem dX11_person_69 : decode cX11_person 69 = .ok (.aload_n 3, 1) := by decide +kernel
theorem dX11_person_70 : decode cX11_person 70 = .ok (.getfield 240, 3) := by decide +kernel
theorem dX11_person_73 : decode cX11_person 73 = .ok (.invokevirtual 142, 3) := by decide +kernel
theorem dX11_person_76 : decode cX11_person 76 = .ok (.ireturn, 1) := by decide +kernel
theorem dX11_person_77 : decode cX11_person 77 = .ok (.aload_n 0, 1) := by decide +kernel
theorem dX11_person_78 : decode cX11_person 78 = .ok (.aload_n 3, 1) := by decide +kernel
theorem dX11_person_79 : decode cX11_person 79 = .ok (.getfield 245, 3) := by decide +kernel
theorem dX11_person_82 : decode cX11_person 82 = .ok (.invokevirtual 142, 3) := by decide +kernel
theorem dX11_person_85 : decode cX11_person 85 = .ok (.ireturn, 1) := by decide +kernel
theorem dX11_person_86 : decode cX11_person 86 = .ok (.aload_n 0, 1) := by decide +kernel
theorem dX11_person_87 : decode cX11_person 87 = .ok (.aload_n 3, 1) := by decide +kernel
theorem dX11_person_88 : decode cX11_person 88 = .ok (.getfield 248, 3) := by decide +kernel
theorem dX11_person_91 : decode cX11_person 91 = .ok (.invokevirtual 142, 3) := by decide +kernel
theorem dX11_person_94 : decode cX11_person 94 = .ok (.ireturn, 1) := by decide +kernel
theorem dX11_person_95 : decode cX11_person 95 = .ok (.aload_n 0, 1) := by decide +kernel
theorem dX11_person_96 : decode cX11_person 96 = .ok (.aload_n 3, 1) := by decide +kernel
theorem dX11_person_97 : decode cX11_person 97 = .ok (.getfield 251, 3) := by decide +kernel
theorem dX11_person_100 : decode cX11_person 100 = .ok (.invokevirtual 142, 3) := by decide +kernel
theorem dX11_person_103 : decode cX11_person 103 = .ok (.ireturn, 1) := by decide +kernel
theorem dX11_person_104 : decode cX11_person 104 = .ok (.aload_n 0, 1) := by decide +kernel
theorem dX11_person_105 : decode cX11_person 105 = .ok (.aload_n 3, 1) := by decide +kernel
theorem dX11_person_106 : decode cX11_person 106 = .ok (.getfield 254, 3) := by decide +kernel
theorem dX11_person_109 : decode cX11_person 109 = .ok (.invokevirtual 142, 3) := by decide +kernel
theorem dX11_person_112 : decode cX11_person 112 = .ok (.ireturn, 1) := by decide +kernel
theorem dX11_person_113 : decode cX11_person 113 = .ok (.aload_n 0, 1) := by decide +kernel
theorem dX11_person_114 : decode cX11_person 114 = .ok (.aload_n 3, 1) := by decide +kernel
theorem dX11_person_115 : decode cX11_person 115 = .ok (.getfield 257, 3) := by decide +kernel
theorem dX11_person_118 : decode cX11_person 118 = .ok (.invokevirtual 142, 3) := by decide +kernel
theorem dX11_person_121 : decode cX11_person 121 = .ok (.ireturn, 1) := by decide +kernel
theorem dX11_person_122 : decode cX11_person 122 = .ok (.aload_n 0, 1) := by decide +kernel
theorem dX11_person_123 : decode cX11_person 123 = .ok (.aload_n 3, 1) := by decide +kernel
theorem dX11_person_124 : decode cX11_person 124 = .ok (.getfield 260, 3) := by decide +kernel
theorem dX11_person_127 : decode cX11_person 127 = .ok (.invokevirtual 142, 3) := by decide +kernel
theorem dX11_person_130 : decode cX11_person 130 = .ok (.ireturn, 1) := by decide +kernel
theorem dX11_person_131 : decode cX11_person 131 = .ok (.aload_n 0, 1) := by decide +kernel
theorem dX11_person_132 : decode cX11_person 132 = .ok (.iconst 1, 1) := by decide +kernel
theorem dX11_person_133 : decode cX11_person 133 = .ok (.invokevirtual 97, 3) := by decide +kernel
theorem dX11_person_136 : decode cX11_person 136 = .ok (.ireturn, 1) := by decide +kernel
abbrev M_X11_person : MT := (yX11_person, cX11_person, 4, (some .int))
theorem cf_X11_person : fq_cf M_X11_person 2 := ⟨(mg_1 (List.mem_of_getElem? (i := 1) rfl) rfl), (mg_4 (List.mem_of_getElem? (i := 208) rfl) rfl), ⟨by decide, by decide, by decide +kernel⟩, by decide⟩
def B_X11_person_0 (G : GT) (mc ms : Nat) (Q : Post) : Cn := ix_aload 0 (ix_iload 1 (ix_vcall 11 2 0 0 mc ms (sp_X11_isPerson G) (ix_if_ne (ix_aload 0 (ix_getR 11 6 (ix_getR 6 1 (ix_iload 1 (ix_aald 17 (ix_astore 3 (ix_iload 2 (ix_tsw 0 [ix_aload 0 (ix_aload 3 (ix_getI 2 1 (ix_vcall 11 2 0 0 mc ms (sp_X11_answer G) (ix_iret mc ms Q)))), ix_aload 0 (ix_aload 3 (ix_getI 2 2 (ix_vcall 11 2 0 0 mc ms (sp_X11_answer G) (ix_iret mc ms Q)))), ix_aload 0 (ix_aload 3 (ix_getI 2 3 (ix_vcall 11 2 0 0 mc ms (sp_X11_answer G) (ix_iret mc ms Q)))), ix_aload 0 (ix_aload 3 (ix_getI 2 4 (ix_vcall 11 2 0 0 mc ms (sp_X11_answer G) (ix_iret mc ms Q)))), ix_aload 0 (ix_aload 3 (ix_getI 2 5 (ix_vcall 11 2 0 0 mc ms (sp_X11_answer G) (ix_iret mc ms Q)))), ix_aload 0 (ix_aload 3 (ix_getI 2 6 (ix_vcall 11 2 0 0 mc ms (sp_X11_answer G) (ix_iret mc ms Q)))), ix_aload 0 (ix_aload 3 (ix_getI 2 7 (ix_vcall 11 2 0 0 mc ms (sp_X11_answer G) (ix_iret mc ms Q))))] (ix_aload 0 (ix_pushI 1 (ix_vcall 11 2 0 0 mc ms (sp_X11_refuse G) (ix_iret mc ms Q)))))))))))) (ix_aload 0 (ix_pushI 1 (ix_vcall 11 2 0 0 mc ms (sp_X11_refuse G) (ix_iret mc ms Q)))))))
theorem b_X11_person_0 {l : Launch} {G : GT} {D mc ms : Nat} {Q : Post} : Imp l G M_X11_person (D + 2) mc ms Q (B_X11_person_0 G mc ms Q) 0 := sx_aload_n dX11_person_0 rfl (sx_iload_n dX11_person_1 rfl (sx_vcall dX11_person_2 cf_X11_isPerson (mg_4 (List.mem_of_getElem? (i := 209) rfl) rfl) (mg_4 (List.mem_of_getElem? (i := 211) rfl) rfl) (mg_p (List.mem_of_getElem? (i := 26) rfl) rfl) rfl c_X11_isPerson (sx_if_ne 14 dX11_person_5 (by decide) (sx_aload_n dX11_person_14 rfl (sx_getR dX11_person_15 fl_FootQuarrel_46 (fun _ _ _ => rfl) (sx_getR dX11_person_18 fl_FootQuarrel_236 (fun _ _ _ => rfl) (sx_iload_n dX11_person_21 rfl (sx_aald dX11_person_22 (by decide) (by decide) rfl (sx_astore_n dX11_person_23 rfl (by decide) (sx_iload_n dX11_person_24 rfl (sx_tswA [68, 77, 86, 95, 104, 113, 122] 131 dX11_person_25 rfl (by decide) (by decide) (by decide) ⟨sx_aload_n dX11_person_68 rfl (sx_aload_n dX11_person_69 rfl (sx_getI dX11_person_70 fl_FootQuarrel_240 (fun _ _ _ => rfl) (sx_vcall dX11_person_73 cf_X11_answer (mg_4 (List.mem_of_getElem? (i := 72) rfl) rfl) (mg_4 (List.mem_of_getElem? (i := 74) rfl) rfl) (mg_p (List.mem_of_getElem? (i := 17) rfl) rfl) rfl c_X11_answer (sx_iret dX11_person_76 rfl)))), ⟨sx_aload_n dX11_person_77 rfl (sx_aload_n dX11_person_78 rfl (sx_getI dX11_person_79 fl_FootQuarrel_245 (fun _ _ _ => rfl) (sx_vcall dX11_person_82 cf_X11_answer (mg_4 (List.mem_of_getElem? (i := 72) rfl) rfl) (mg_4 (List.mem_of_getElem? (i := 74) rfl) rfl) (mg_p (List.mem_of_getElem? (i := 17) rfl) rfl) rfl c_X11_answer (sx_iret dX11_person_85 rfl)))), ⟨sx_aload_n dX11_person_86 rfl (sx_aload_n dX11_person_87 rfl (sx_getI dX11_person_88 fl_FootQuarrel_248 (fun _ _ _ => rfl) (sx_vcall dX11_person_91 cf_X11_answer (mg_4 (List.mem_of_getElem? (i := 72) rfl) rfl) (mg_4 (List.mem_of_getElem? (i := 74) rfl) rfl) (mg_p (List.mem_of_getElem? (i := 17) rfl) rfl) rfl c_X11_answer (sx_iret dX11_person_94 rfl)))), ⟨sx_aload_n dX11_person_95 rfl (sx_aload_n dX11_person_96 rfl (sx_getI dX11_person_97 fl_FootQuarrel_251 (fun _ _ _ => rfl) (sx_vcall dX11_person_100 cf_X11_answer (mg_4 (List.mem_of_getElem? (i := 72) rfl) rfl) (mg_4 (List.mem_of_getElem? (i := 74) rfl) rfl) (mg_p (List.mem_of_getElem? (i := 17) rfl) rfl) rfl c_X11_answer (sx_iret dX11_person_103 rfl)))), ⟨sx_aload_n dX11_person_104 rfl (sx_aload_n dX11_person_105 rfl (sx_getI dX11_person_106 fl_FootQuarrel_254 (fun _ _ _ => rfl) (sx_vcall dX11_person_109 cf_X11_answer (mg_4 (List.mem_of_getElem? (i := 72) rfl) rfl) (mg_4 (List.mem_of_getElem? (i := 74) rfl) rfl) (mg_p (List.mem_of_getElem? (i := 17) rfl) rfl) rfl c_X11_answer (sx_iret dX11_person_112 rfl)))), ⟨sx_aload_n dX11_person_113 rfl (sx_aload_n dX11_person_114 rfl (sx_getI dX11_person_115 fl_FootQuarrel_257 (fun _ _ _ => rfl) (sx_vcall dX11_person_118 cf_X11_answer (mg_4 (List.mem_of_getElem? (i := 72) rfl) rfl) (mg_4 (List.mem_of_getElem? (i := 74) rfl) rfl) (mg_p (List.mem_of_getElem? (i := 17) rfl) rfl) rfl c_X11_answer (sx_iret dX11_person_121 rfl)))), ⟨sx_aload_n dX11_person_122 rfl (sx_aload_n dX11_person_123 rfl (sx_getI dX11_person_124 fl_FootQuarrel_260 (fun _ _ _ => rfl) (sx_vcall dX11_person_127 cf_X11_answer (mg_4 (List.mem_of_getElem? (i := 72) rfl) rfl) (mg_4 (List.mem_of_getElem? (i := 74) rfl) rfl) (mg_p (List.mem_of_getElem? (i := 17) rfl) rfl) rfl c_X11_answer (sx_iret dX11_person_130 rfl)))), trivial⟩⟩⟩⟩⟩⟩⟩ (sx_aload_n dX11_person_131 rfl (sx_iconst dX11_person_132 rfl (sx_vcall dX11_person_133 cf_X11_refuse (mg_3 (List.mem_of_getElem? (i := 120) rfl) rfl) (mg_3 (List.mem_of_getElem? (i := 122) rfl) rfl) (mg_p (List.mem_of_getElem? (i := 3) rfl) rfl) rfl c_X11_refuse (sx_iret dX11_person_136 rfl)))))))))))) (sx_aload_n dX11_person_8 rfl (sx_iconst dX11_person_9 rfl (sx_vcall dX11_person_10 cf_X11_refuse (mg_3 (List.mem_of_getElem? (i := 120) rfl) rfl) (mg_3 (List.mem_of_getElem? (i := 122) rfl) rfl) (mg_p (List.mem_of_getElem? (i := 3) rfl) rfl) rfl c_X11_refuse (sx_iret dX11_person_13 rfl)))))))
def sp_X11_person (G : GT) : Sp := fun as S I J z Q => match as with
  | [.ref a0, .int a1, .int a2] => B_X11_person_0 G 0 0 Q [some (.ref a0), some (.int a1), some (.int a2), none] [] S I J z 0 0
  | _ => False
theorem c_X11_person {l : Launch} {G : GT} {D : Nat} : ∀ as S I J z Q, sp_X11_person G as S I J z Q → fqCall l G M_X11_person (D + 2) 0 0 as S I J z Q := by
  intro as S I J z Q h
  unfold sp_X11_person at h
  split at h
  · exact fq_enter _ (by decide +kernel) (Nat.le_of_ble_eq_true rfl) rfl (b_X11_person_0 _ _ _ _ _ _ _ _ h)
  · exact h.elim
theorem dX11_quarrel_0 : decode cX11_quarrel 0 = .ok (.iload_n 1, 1) := by decide +kernel
theorem dX11_quarrel_1 : decode cX11_quarrel 1 = .ok (.iconst 0, 1) := by decide +kernel
theorem dX11_quarrel_2 : decode cX11_quarrel 2 = .ok (.aload_n 0, 1) := by decide +kernel
theorem dX11_quarrel_3 : decode cX11_quarrel 3 = .ok (.getfield 46, 3) := by decide +kernel
theorem dX11_quarrel_6 : decode cX11_quarrel 6 = .ok (.getfield 167, 3) := by decide +kernel
theorem dX11_quarrel_9 : decode cX11_quarrel 9 = .ok (.iconst 1, 1) := by decide +kernel
theorem dX11_quarrel_10 : decode cX11_quarrel 10 = .ok (.isub, 1) := by decide +kernel
theorem dX11_quarrel_11 : decode cX11_quarrel 11 = .ok (.invokestatic 74, 3) := by decide +kernel
theorem dX11_quarrel_14 : decode cX11_quarrel 14 = .ok (.ifCond .ne 9, 3) := by decide +kernel
theorem dX11_quarrel_17 : decode cX11_quarrel 17 = .ok (.aload_n 0, 1) := by decide +kernel
theorem dX11_quarrel_18 : decode cX11_quarrel 18 = .ok (.iconst 1, 1) := by decide +kernel
theorem dX11_quarrel_19 : decode cX11_quarrel 19 = .ok (.invokevirtual 97, 3) := by decide +kernel
theorem dX11_quarrel_22 : decode cX11_quarrel 22 = .ok (.ireturn, 1) := by decide +kernel
theorem dX11_quarrel_23 : decode cX11_quarrel 23 = .ok (.aload_n 0, 1) := by decide +kernel
theorem dX11_quarrel_24 : decode cX11_quarrel 24 = .ok (.getfield 46, 3) := by decide +kernel
theorem dX11_quarrel_27 : decode cX11_quarrel 27 = .ok (.iload_n 1, 1) := by decide +kernel
theorem dX11_quarrel_28 : decode cX11_quarrel 28 = .ok (.invokevirtual 261, 3) := by decide +kernel
theorem dX11_quarrel_31 : decode cX11_quarrel 31 = .ok (.astore_n 3, 1) := by decide +kernel
theorem dX11_quarrel_32 : decode cX11_quarrel 32 = .ok (.iload_n 2, 1) := by decide +kernel
theorem dX11_quarrel_33 : decode cX11_quarrel 33 = .ok (.tableswitch 109 0 6 #[43, 52, 61, 70, 79, 88, 97], 43) := by decide +kernel
theorem dX11_quarrel_76 : decode cX11_quarrel 76 = .ok (.aload_n 0, 1) := by decide +kernel
theorem dX11_quarrel_77 : decode cX11_quarrel 77 = .ok (.aload_n 3, 1) := by decide +kernel
theorem dX11_quarrel_78 : decode cX11_quarrel 78 = .ok (.getfield 265, 3) := by decide +kernel
theorem dX11_quarrel_81 : decode cX11_quarrel 81 = .ok (.invokevirtual 142, 3) := by decide +kernel
theorem dX11_quarrel_84 : decode cX11_quarrel 84 = .ok (.ireturn, 1) := by decide +kernel
theorem dX11_quarrel_85 : decode cX11_quarrel 85 = .ok (.aload_n 0, 1) := by decide +kernel
theorem dX11_quarrel_86 : decode cX11_quarrel 86 = .ok (.aload_n 3, 1) := by decide +kernel
theorem dX11_quarrel_87 : decode cX11_quarrel 87 = .ok (.getfield 268, 3) := by decide +kernel
theorem dX11_quarrel_90 : decode cX11_quarrel 90 = .ok (.invokevirtual 142, 3) := by decide +kernel
theorem dX11_quarrel_93 : decode cX11_quarrel 93 = .ok (.ireturn, 1) := by decide +kernel
theorem dX11_quarrel_94 : decode cX11_quarrel 94 = .ok (.aload_n 0, 1) := by decide +kernel
theorem dX11_quarrel_95 : decode cX11_quarrel 95 = .ok (.aload_n 3, 1) := by decide +kernel
theorem dX11_quarrel_96 : decode cX11_quarrel 96 = .ok (.getfield 271, 3) := by decide +kernel
theorem dX11_quarrel_99 : decode cX11_quarrel 99 = .ok (.invokevirtual 142, 3) := by decide +kernel
theorem dX11_quarrel_102 : decode cX11_quarrel 102 = .ok (.ireturn, 1) := by decide +kernel
theorem dX11_quarrel_103 : decode cX11_quarrel 103 = .ok (.aload_n 0, 1) := by decide +kernel
theorem dX11_quarrel_104 : decode cX11_quarrel 104 = .ok (.aload_n 3, 1) := by decide +kernel
theorem dX11_quarrel_105 : decode cX11_quarrel 105 = .ok (.getfield 274, 3) := by decide +kernel
theorem dX11_quarrel_108 : decode cX11_quarrel 108 = .ok (.invokevirtual 142, 3) := by decide +kernel
theorem dX11_quarrel_111 : decode cX11_quarrel 111 = .ok (.ireturn, 1) := by decide +kernel
theorem dX11_quarrel_112 : decode cX11_quarrel 112 = .ok (.aload_n 0, 1) := by decide +kernel
theorem dX11_quarrel_113 : decode cX11_quarrel 113 = .ok (.aload_n 3, 1) := by decide +kernel
theorem dX11_quarrel_114 : decode cX11_quarrel 114 = .ok (.getfield 277, 3) := by decide +kernel
theorem dX11_quarrel_117 : decode cX11_quarrel 117 = .ok (.invokevirtual 142, 3) := by decide +kernel
theorem dX11_quarrel_120 : decode cX11_quarrel 120 = .ok (.ireturn, 1) := by decide +kernel
theorem dX11_quarrel_121 : decode cX11_quarrel 121 = .ok (.aload_n 0, 1) := by decide +kernel
theorem dX11_quarrel_122 : decode cX11_quarrel 122 = .ok (.aload_n 3, 1) := by decide +kernel
theorem dX11_quarrel_123 : decode cX11_quarrel 123 = .ok (.getfield 278, 3) := by decide +kernel
theorem dX11_quarrel_126 : decode cX11_quarrel 126 = .ok (.invokevirtual 142, 3) := by decide +kernel
theorem dX11_quarrel_129 : decode cX11_quarrel 129 = .ok (.ireturn, 1) := by decide +kernel
theorem dX11_quarrel_130 : decode cX11_quarrel 130 = .ok (.aload_n 0, 1) := by decide +kernel
theorem dX11_quarrel_131 : decode cX11_quarrel 131 = .ok (.aload_n 3, 1) := by decide +kernel
theorem dX11_quarrel_132 : decode cX11_quarrel 132 = .ok (.getfield 281, 3) := by decide +kernel
theorem dX11_quarrel_135 : decode cX11_quarrel 135 = .ok (.invokestatic 186, 3) := by decide +kernel
theorem dX11_quarrel_138 : decode cX11_quarrel 138 = .ok (.invokevirtual 142, 3) := by decide +kernel
theorem dX11_quarrel_141 : decode cX11_quarrel 141 = .ok (.ireturn, 1) := by decide +kernel
theorem dX11_quarrel_142 : decode cX11_quarrel 142 = .ok (.aload_n 0, 1) := by decide +kernel
theorem dX11_quarrel_143 : decode cX11_quarrel 143 = .ok (.iconst 1, 1) := by decide +kernel
theorem dX11_quarrel_144 : decode cX11_quarrel 144 = .ok (.invokevirtual 97, 3) := by decide +kernel
theorem dX11_quarrel_147 : decode cX11_quarrel 147 = .ok (.ireturn, 1) := by decide +kernel
abbrev M_X11_quarrel : MT := (yX11_quarrel, cX11_quarrel, 4, (some .int))
theorem cf_X11_quarrel : fq_cf M_X11_quarrel 2 := ⟨(mg_1 (List.mem_of_getElem? (i := 1) rfl) rfl), (mg_4 (List.mem_of_getElem? (i := 216) rfl) rfl), ⟨by decide, by decide, by decide +kernel⟩, by decide⟩
def B_X11_quarrel_0 (G : GT) (mc ms : Nat) (Q : Post) : Cn := ix_iload 1 (ix_pushI 0 (ix_aload 0 (ix_getR 11 6 (ix_getI 6 7 (ix_pushI 1 (ix_isub (ix_call 3 0 0 mc ms (sp_X11_isWithin G) (ix_if_ne (ix_aload 0 (ix_getR 11 6 (ix_iload 1 (ix_vcall 6 2 0 0 mc ms (sp_X6_latest G) (ix_astore 3 (ix_iload 2 (ix_tsw 0 [ix_aload 0 (ix_aload 3 (ix_getI 3 0 (ix_vcall 11 2 0 0 mc ms (sp_X11_answer G) (ix_iret mc ms Q)))), ix_aload 0 (ix_aload 3 (ix_getI 3 1 (ix_vcall 11 2 0 0 mc ms (sp_X11_answer G) (ix_iret mc ms Q)))), ix_aload 0 (ix_aload 3 (ix_getI 3 2 (ix_vcall 11 2 0 0 mc ms (sp_X11_answer G) (ix_iret mc ms Q)))), ix_aload 0 (ix_aload 3 (ix_getI 3 3 (ix_vcall 11 2 0 0 mc ms (sp_X11_answer G) (ix_iret mc ms Q)))), ix_aload 0 (ix_aload 3 (ix_getI 3 4 (ix_vcall 11 2 0 0 mc ms (sp_X11_answer G) (ix_iret mc ms Q)))), ix_aload 0 (ix_aload 3 (ix_getI 3 5 (ix_vcall 11 2 0 0 mc ms (sp_X11_answer G) (ix_iret mc ms Q)))), ix_aload 0 (ix_aload 3 (ix_getI 3 6 (ix_call 1 0 0 mc ms (sp_X11_oneIf G) (ix_vcall 11 2 0 0 mc ms (sp_X11_answer G) (ix_iret mc ms Q)))))] (ix_aload 0 (ix_pushI 1 (ix_vcall 11 2 0 0 mc ms (sp_X11_refuse G) (ix_iret mc ms Q))))))))))) (ix_aload 0 (ix_pushI 1 (ix_vcall 11 2 0 0 mc ms (sp_X11_refuse G) (ix_iret mc ms Q))))))))))))
theorem b_X11_quarrel_0 {l : Launch} {G : GT} {D mc ms : Nat} {Q : Post} : Imp l G M_X11_quarrel (D + 2) mc ms Q (B_X11_quarrel_0 G mc ms Q) 0 := sx_iload_n dX11_quarrel_0 rfl (sx_iconst dX11_quarrel_1 rfl (sx_aload_n dX11_quarrel_2 rfl (sx_getR dX11_quarrel_3 fl_FootQuarrel_46 (fun _ _ _ => rfl) (sx_getI dX11_quarrel_6 fl_FootQuarrel_167 (fun _ _ _ => rfl) (sx_iconst dX11_quarrel_9 rfl (sx_isub dX11_quarrel_10 (sx_scall dX11_quarrel_11 cf_X11_isWithin (mg_3 (List.mem_of_getElem? (i := 85) rfl) rfl) (mg_3 (List.mem_of_getElem? (i := 86) rfl) rfl) c_X11_isWithin (sx_if_ne 23 dX11_quarrel_14 (by decide) (sx_aload_n dX11_quarrel_23 rfl (sx_getR dX11_quarrel_24 fl_FootQuarrel_46 (fun _ _ _ => rfl) (sx_iload_n dX11_quarrel_27 rfl (sx_vcall dX11_quarrel_28 cf_X6_latest (mg_4 (List.mem_of_getElem? (i := 217) rfl) rfl) (mg_4 (List.mem_of_getElem? (i := 218) rfl) rfl) (mg_4 (List.mem_of_getElem? (i := 219) rfl) rfl) rfl c_X6_latest (sx_astore_n dX11_quarrel_31 rfl (by decide) (sx_iload_n dX11_quarrel_32 rfl (sx_tswA [76, 85, 94, 103, 112, 121, 130] 142 dX11_quarrel_33 rfl (by decide) (by decide) (by decide) ⟨sx_aload_n dX11_quarrel_76 rfl (sx_aload_n dX11_quarrel_77 rfl (sx_getI dX11_quarrel_78 fl_FootQuarrel_265 (fun _ _ _ => rfl) (sx_vcall dX11_quarrel_81 cf_X11_answer (mg_4 (List.mem_of_getElem? (i := 72) rfl) rfl) (mg_4 (List.mem_of_getElem? (i := 74) rfl) rfl) (mg_p (List.mem_of_getElem? (i := 17) rfl) rfl) rfl c_X11_answer (sx_iret dX11_quarrel_84 rfl)))), ⟨sx_aload_n dX11_quarrel_85 rfl (sx_aload_n dX11_quarrel_86 rfl (sx_getI dX11_quarrel_87 fl_FootQuarrel_268 (fun _ _ _ => rfl) (sx_vcall dX11_quarrel_90 cf_X11_answer (mg_4 (List.mem_of_getElem? (i := 72) rfl) rfl) (mg_4 (List.mem_of_getElem? (i := 74) rfl) rfl) (mg_p (List.mem_of_getElem? (i := 17) rfl) rfl) rfl c_X11_answer (sx_iret dX11_quarrel_93 rfl)))), ⟨sx_aload_n dX11_quarrel_94 rfl (sx_aload_n dX11_quarrel_95 rfl (sx_getI dX11_quarrel_96 fl_FootQuarrel_271 (fun _ _ _ => rfl) (sx_vcall dX11_quarrel_99 cf_X11_answer (mg_4 (List.mem_of_getElem? (i := 72) rfl) rfl) (mg_4 (List.mem_of_getElem? (i := 74) rfl) rfl) (mg_p (List.mem_of_getElem? (i := 17) rfl) rfl) rfl c_X11_answer (sx_iret dX11_quarrel_102 rfl)))), ⟨sx_aload_n dX11_quarrel_103 rfl (sx_aload_n dX11_quarrel_104 rfl (sx_getI dX11_quarrel_105 fl_FootQuarrel_274 (fun _ _ _ => rfl) (sx_vcall dX11_quarrel_108 cf_X11_answer (mg_4 (List.mem_of_getElem? (i := 72) rfl) rfl) (mg_4 (List.mem_of_getElem? (i := 74) rfl) rfl) (mg_p (List.mem_of_getElem? (i := 17) rfl) rfl) rfl c_X11_answer (sx_iret dX11_quarrel_111 rfl)))), ⟨sx_aload_n dX11_quarrel_112 rfl (sx_aload_n dX11_quarrel_113 rfl (sx_getI dX11_quarrel_114 fl_FootQuarrel_277 (fun _ _ _ => rfl) (sx_vcall dX11_quarrel_117 cf_X11_answer (mg_4 (List.mem_of_getElem? (i := 72) rfl) rfl) (mg_4 (List.mem_of_getElem? (i := 74) rfl) rfl) (mg_p (List.mem_of_getElem? (i := 17) rfl) rfl) rfl c_X11_answer (sx_iret dX11_quarrel_120 rfl)))), ⟨sx_aload_n dX11_quarrel_121 rfl (sx_aload_n dX11_quarrel_122 rfl (sx_getI dX11_quarrel_123 fl_FootQuarrel_278 (fun _ _ _ => rfl) (sx_vcall dX11_quarrel_126 cf_X11_answer (mg_4 (List.mem_of_getElem? (i := 72) rfl) rfl) (mg_4 (List.mem_of_getElem? (i := 74) rfl) rfl) (mg_p (List.mem_of_getElem? (i := 17) rfl) rfl) rfl c_X11_answer (sx_iret dX11_quarrel_129 rfl)))), ⟨sx_aload_n dX11_quarrel_130 rfl (sx_aload_n dX11_quarrel_131 rfl (sx_getI dX11_quarrel_132 fl_FootQuarrel_281 (fun _ _ _ => rfl) (sx_scall dX11_quarrel_135 cf_X11_oneIf (mg_4 (List.mem_of_getElem? (i := 163) rfl) rfl) (mg_4 (List.mem_of_getElem? (i := 164) rfl) rfl) c_X11_oneIf (sx_vcall dX11_quarrel_138 cf_X11_answer (mg_4 (List.mem_of_getElem? (i := 72) rfl) rfl) (mg_4 (List.mem_of_getElem? (i := 74) rfl) rfl) (mg_p (List.mem_of_getElem? (i := 17) rfl) rfl) rfl c_X11_answer (sx_iret dX11_quarrel_141 rfl))))), trivial⟩⟩⟩⟩⟩⟩⟩ (sx_aload_n dX11_quarrel_142 rfl (sx_iconst dX11_quarrel_143 rfl (sx_vcall dX11_quarrel_144 cf_X11_refuse (mg_3 (List.mem_of_getElem? (i := 120) rfl) rfl) (mg_3 (List.mem_of_getElem? (i := 122) rfl) rfl) (mg_p (List.mem_of_getElem? (i := 3) rfl) rfl) rfl c_X11_refuse (sx_iret dX11_quarrel_147 rfl))))))))))) (sx_aload_n dX11_quarrel_17 rfl (sx_iconst dX11_quarrel_18 rfl (sx_vcall dX11_quarrel_19 cf_X11_refuse (mg_3 (List.mem_of_getElem? (i := 120) rfl) rfl) (mg_3 (List.mem_of_getElem? (i := 122) rfl) rfl) (mg_p (List.mem_of_getElem? (i := 3) rfl) rfl) rfl c_X11_refuse (sx_iret dX11_quarrel_22 rfl))))))))))))
def sp_X11_quarrel (G : GT) : Sp := fun as S I J z Q => match as with
  | [.ref a0, .int a1, .int a2] => B_X11_quarrel_0 G 0 0 Q [some (.ref a0), some (.int a1), some (.int a2), none] [] S I J z 0 0
  | _ => False
theorem c_X11_quarrel {l : Launch} {G : GT} {D : Nat} : ∀ as S I J z Q, sp_X11_quarrel G as S I J z Q → fqCall l G M_X11_quarrel (D + 2) 0 0 as S I J z Q := by
  intro as S I J z Q h
  unfold sp_X11_quarrel at h
  split at h
  · exact fq_enter _ (by decide +kernel) (Nat.le_of_ble_eq_true rfl) rfl (b_X11_quarrel_0 _ _ _ _ _ _ _ _ h)
  · exact h.elim
theorem dX11_say_0 : decode cX11_say 0 = .ok (.aload_n 0, 1) := by decide +kernel
theorem dX11_say_1 : decode cX11_say 1 = .ok (.iload_n 1, 1) := by decide +kernel
theorem dX11_say_2 : decode cX11_say 2 = .ok (.iload_n 2, 1) := by decide +kernel
theorem dX11_say_3 : decode cX11_say 3 = .ok (.invokevirtual 293, 3) := by decide +kernel
theorem dX11_say_6 : decode cX11_say 6 = .ok (.istore_n 3, 1) := by decide +kernel
theorem dX11_say_7 : decode cX11_say 7 = .ok (.iload_n 3, 1) := by decide +kernel
theorem dX11_say_8 : decode cX11_say 8 = .ok (.ifCond .eq 9, 3) := by decide +kernel
theorem dX11_say_11 : decode cX11_say 11 = .ok (.aload_n 0, 1) := by decide +kernel
theorem dX11_say_12 : decode cX11_say 12 = .ok (.iload_n 3, 1) := by decide +kernel
theorem dX11_say_13 : decode cX11_say 13 = .ok (.invokevirtual 97, 3) := by decide +kernel
theorem dX11_say_16 : decode cX11_say 16 = .ok (.ireturn, 1) := by decide +kernel
theorem dX11_say_17 : decode cX11_say 17 = .ok (.aload_n 0, 1) := by decide +kernel
theorem dX11_say_18 : decode cX11_say 18 = .ok (.aload_n 0, 1) := by decide +kernel
theorem dX11_say_19 : decode cX11_say 19 = .ok (.getfield 46, 3) := by decide +kernel
theorem dX11_say_22 : decode cX11_say 22 = .ok (.iload_n 1, 1) := by decide +kernel
theorem dX11_say_23 : decode cX11_say 23 = .ok (.iload_n 2, 1) := by decide +kernel
theorem dX11_say_24 : decode cX11_say 24 = .ok (.invokevirtual 296, 3) := by decide +kernel
theorem dX11_say_27 : decode cX11_say 27 = .ok (.invokevirtual 142, 3) := by decide +kernel
theorem dX11_say_30 : decode cX11_say 30 = .ok (.ireturn, 1) := by decide +kernel
abbrev M_X11_say : MT := (yX11_say, cX11_say, 4, (some .int))
theorem cf_X11_say : fq_cf M_X11_say 2 := ⟨(mg_1 (List.mem_of_getElem? (i := 1) rfl) rfl), (mg_5 (List.mem_of_getElem? (i := 14) rfl) rfl), ⟨by decide, by decide, by decide +kernel⟩, by decide⟩
def B_X11_say_0 (G : GT) (mc ms : Nat) (Q : Post) : Cn := ix_aload 0 (ix_iload 1 (ix_iload 2 (ix_vcall 11 3 0 0 mc ms (sp_X11_pairStatus G) (ix_istore 3 (ix_iload 3 (ix_if_eq (ix_aload 0 (ix_aload 0 (ix_getR 11 6 (ix_iload 1 (ix_iload 2 (ix_vcall 6 3 0 0 mc ms (sp_X6_utter G) (ix_vcall 11 2 0 0 mc ms (sp_X11_answer G) (ix_iret mc ms Q)))))))) (ix_aload 0 (ix_iload 3 (ix_vcall 11 2 0 0 mc ms (sp_X11_refuse G) (ix_iret mc ms Q))))))))))
theorem b_X11_say_0 {l : Launch} {G : GT} {D mc ms : Nat} {Q : Post} : Imp l G M_X11_say (D + 4) mc ms Q (B_X11_say_0 G mc ms Q) 0 := sx_aload_n dX11_say_0 rfl (sx_iload_n dX11_say_1 rfl (sx_iload_n dX11_say_2 rfl (sx_vcall dX11_say_3 cf_X11_pairStatus (mg_5 (List.mem_of_getElem? (i := 15) rfl) rfl) (mg_5 (List.mem_of_getElem? (i := 17) rfl) rfl) (mg_p (List.mem_of_getElem? (i := 28) rfl) rfl) rfl c_X11_pairStatus (sx_istore_n dX11_say_6 rfl (by decide) (sx_iload_n dX11_say_7 rfl (sx_if_eq 17 dX11_say_8 (by decide) (sx_aload_n dX11_say_17 rfl (sx_aload_n dX11_say_18 rfl (sx_getR dX11_say_19 fl_FootQuarrel_46 (fun _ _ _ => rfl) (sx_iload_n dX11_say_22 rfl (sx_iload_n dX11_say_23 rfl (sx_vcall dX11_say_24 cf_X6_utter (mg_5 (List.mem_of_getElem? (i := 19) rfl) rfl) (mg_5 (List.mem_of_getElem? (i := 20) rfl) rfl) (mg_5 (List.mem_of_getElem? (i := 21) rfl) rfl) rfl c_X6_utter (sx_vcall dX11_say_27 cf_X11_answer (mg_4 (List.mem_of_getElem? (i := 72) rfl) rfl) (mg_4 (List.mem_of_getElem? (i := 74) rfl) rfl) (mg_p (List.mem_of_getElem? (i := 17) rfl) rfl) rfl c_X11_answer (sx_iret dX11_say_30 rfl)))))))) (sx_aload_n dX11_say_11 rfl (sx_iload_n dX11_say_12 rfl (sx_vcall dX11_say_13 cf_X11_refuse (mg_3 (List.mem_of_getElem? (i := 120) rfl) rfl) (mg_3 (List.mem_of_getElem? (i := 122) rfl) rfl) (mg_p (List.mem_of_getElem? (i := 3) rfl) rfl) rfl c_X11_refuse (sx_iret dX11_say_16 rfl))))))))))
def sp_X11_say (G : GT) : Sp := fun as S I J z Q => match as with
  | [.ref a0, .int a1, .int a2] => B_X11_say_0 G 0 0 Q [some (.ref a0), some (.int a1), some (.int a2), none] [] S I J z 0 0
  | _ => False
theorem c_X11_say {l : Launch} {G : GT} {D : Nat} : ∀ as S I J z Q, sp_X11_say G as S I J z Q → fqCall l G M_X11_say (D + 4) 0 0 as S I J z Q := by
  intro as S I J z Q h
  unfold sp_X11_say at h
  split at h
  · exact fq_enter _ (by decide +kernel) (Nat.le_of_ble_eq_true rfl) rfl (b_X11_say_0 _ _ _ _ _ _ _ _ h)
  · exact h.elim
theorem dX11_sorry_0 : decode cX11_sorry 0 = .ok (.iload_n 1, 1) := by decide +kernel
theorem dX11_sorry_1 : decode cX11_sorry 1 = .ok (.iconst 0, 1) := by decide +kernel
theorem dX11_sorry_2 : decode cX11_sorry 2 = .ok (.aload_n 0, 1) := by decide +kernel
theorem dX11_sorry_3 : decode cX11_sorry 3 = .ok (.getfield 46, 3) := by decide +kernel
theorem dX11_sorry_6 : decode cX11_sorry 6 = .ok (.getfield 167, 3) := by decide +kernel
theorem dX11_sorry_9 : decode cX11_sorry 9 = .ok (.iconst 1, 1) := by decide +kernel
theorem dX11_sorry_10 : decode cX11_sorry 10 = .ok (.isub, 1) := by decide +kernel
theorem dX11_sorry_11 : decode cX11_sorry 11 = .ok (.invokestatic 74, 3) := by decide +kernel
theorem dX11_sorry_14 : decode cX11_sorry 14 = .ok (.ifCond .ne 9, 3) := by decide +kernel
theorem dX11_sorry_17 : decode cX11_sorry 17 = .ok (.aload_n 0, 1) := by decide +kernel
theorem dX11_sorry_18 : decode cX11_sorry 18 = .ok (.iconst 1, 1) := by decide +kernel
theorem dX11_sorry_19 : decode cX11_sorry 19 = .ok (.invokevirtual 97, 3) := by decide +kernel
theorem dX11_sorry_22 : decode cX11_sorry 22 = .ok (.ireturn, 1) := by decide +kernel
theorem dX11_sorry_23 : decode cX11_sorry 23 = .ok (.aload_n 0, 1) := by decide +kernel
theorem dX11_sorry_24 : decode cX11_sorry 24 = .ok (.getfield 46, 3) := by decide +kernel
theorem dX11_sorry_27 : decode cX11_sorry 27 = .ok (.iload_n 1, 1) := by decide +kernel
theorem dX11_sorry_28 : decode cX11_sorry 28 = .ok (.invokevirtual 299, 3) := by decide +kernel
theorem dX11_sorry_31 : decode cX11_sorry 31 = .ok (.ifCond .ne 10, 3) := by decide +kernel
theorem dX11_sorry_34 : decode cX11_sorry 34 = .ok (.aload_n 0, 1) := by decide +kernel
theorem dX11_sorry_35 : decode cX11_sorry 35 = .ok (.bipush 7, 2) := by decide +kernel
theorem dX11_sorry_37 : decode cX11_sorry 37 = .ok (.invokevirtual 97, 3) := by decide +kernel
theorem dX11_sorry_40 : decode cX11_sorry 40 = .ok (.ireturn, 1) := by decide +kernel
theorem dX11_sorry_41 : decode cX11_sorry 41 = .ok (.aload_n 0, 1) := by decide +kernel
theorem dX11_sorry_42 : decode cX11_sorry 42 = .ok (.aload_n 0, 1) := by decide +kernel
theorem dX11_sorry_43 : decode cX11_sorry 43 = .ok (.getfield 46, 3) := by decide +kernel
theorem dX11_sorry_46 : decode cX11_sorry 46 = .ok (.iload_n 1, 1) := by decide +kernel
theorem dX11_sorry_47 : decode cX11_sorry 47 = .ok (.invokevirtual 302, 3) := by decide +kernel
theorem dX11_sorry_50 : decode cX11_sorry 50 = .ok (.invokevirtual 142, 3) := by decide +kernel
theorem dX11_sorry_53 : decode cX11_sorry 53 = .ok (.ireturn, 1) := by decide +kernel
abbrev M_X11_sorry : MT := (yX11_sorry, cX11_sorry, 2, (some .int))
theorem cf_X11_sorry : fq_cf M_X11_sorry 1 := ⟨(mg_1 (List.mem_of_getElem? (i := 1) rfl) rfl), (mg_5 (List.mem_of_getElem? (i := 64) rfl) rfl), ⟨by decide, by decide, by decide +kernel⟩, by decide⟩
def B_X11_sorry_0 (G : GT) (mc ms : Nat) (Q : Post) : Cn := ix_iload 1 (ix_pushI 0 (ix_aload 0 (ix_getR 11 6 (ix_getI 6 7 (ix_pushI 1 (ix_isub (ix_call 3 0 0 mc ms (sp_X11_isWithin G) (ix_if_ne (ix_aload 0 (ix_getR 11 6 (ix_iload 1 (ix_vcall 6 2 0 0 mc ms (sp_X6_canRegret G) (ix_if_ne (ix_aload 0 (ix_aload 0 (ix_getR 11 6 (ix_iload 1 (ix_vcall 6 2 0 0 mc ms (sp_X6_regret G) (ix_vcall 11 2 0 0 mc ms (sp_X11_answer G) (ix_iret mc ms Q))))))) (ix_aload 0 (ix_pushI 7 (ix_vcall 11 2 0 0 mc ms (sp_X11_refuse G) (ix_iret mc ms Q))))))))) (ix_aload 0 (ix_pushI 1 (ix_vcall 11 2 0 0 mc ms (sp_X11_refuse G) (ix_iret mc ms Q))))))))))))
theorem b_X11_sorry_0 {l : Launch} {G : GT} {D mc ms : Nat} {Q : Post} : Imp l G M_X11_sorry (D + 3) mc ms Q (B_X11_sorry_0 G mc ms Q) 0 := sx_iload_n dX11_sorry_0 rfl (sx_iconst dX11_sorry_1 rfl (sx_aload_n dX11_sorry_2 rfl (sx_getR dX11_sorry_3 fl_FootQuarrel_46 (fun _ _ _ => rfl) (sx_getI dX11_sorry_6 fl_FootQuarrel_167 (fun _ _ _ => rfl) (sx_iconst dX11_sorry_9 rfl (sx_isub dX11_sorry_10 (sx_scall dX11_sorry_11 cf_X11_isWithin (mg_3 (List.mem_of_getElem? (i := 85) rfl) rfl) (mg_3 (List.mem_of_getElem? (i := 86) rfl) rfl) c_X11_isWithin (sx_if_ne 23 dX11_sorry_14 (by decide) (sx_aload_n dX11_sorry_23 rfl (sx_getR dX11_sorry_24 fl_FootQuarrel_46 (fun _ _ _ => rfl) (sx_iload_n dX11_sorry_27 rfl (sx_vcall dX11_sorry_28 cf_X6_canRegret (mg_5 (List.mem_of_getElem? (i := 65) rfl) rfl) (mg_5 (List.mem_of_getElem? (i := 66) rfl) rfl) (mg_5 (List.mem_of_getElem? (i := 67) rfl) rfl) rfl c_X6_canRegret (sx_if_ne 41 dX11_sorry_31 (by decide) (sx_aload_n dX11_sorry_41 rfl (sx_aload_n dX11_sorry_42 rfl (sx_getR dX11_sorry_43 fl_FootQuarrel_46 (fun _ _ _ => rfl) (sx_iload_n dX11_sorry_46 rfl (sx_vcall dX11_sorry_47 cf_X6_regret (mg_5 (List.mem_of_getElem? (i := 70) rfl) rfl) (mg_5 (List.mem_of_getElem? (i := 71) rfl) rfl) (mg_5 (List.mem_of_getElem? (i := 72) rfl) rfl) rfl c_X6_regret (sx_vcall dX11_sorry_50 cf_X11_answer (mg_4 (List.mem_of_getElem? (i := 72) rfl) rfl) (mg_4 (List.mem_of_getElem? (i := 74) rfl) rfl) (mg_p (List.mem_of_getElem? (i := 17) rfl) rfl) rfl c_X11_answer (sx_iret dX11_sorry_53 rfl))))))) (sx_aload_n dX11_sorry_34 rfl (sx_bipush dX11_sorry_35 rfl (sx_vcall dX11_sorry_37 cf_X11_refuse (mg_3 (List.mem_of_getElem? (i := 120) rfl) rfl) (mg_3 (List.mem_of_getElem? (i := 122) rfl) rfl) (mg_p (List.mem_of_getElem? (i := 3) rfl) rfl) rfl c_X11_refuse (sx_iret dX11_sorry_40 rfl))))))))) (sx_aload_n dX11_sorry_17 rfl (sx_iconst dX11_sorry_18 rfl (sx_vcall dX11_sorry_19 cf_X11_refuse (mg_3 (List.mem_of_getElem? (i := 120) rfl) rfl) (mg_3 (List.mem_of_getElem? (i := 122) rfl) rfl) (mg_p (List.mem_of_getElem? (i := 3) rfl) rfl) rfl c_X11_refuse (sx_iret dX11_sorry_22 rfl))))))))))))
def sp_X11_sorry (G : GT) : Sp := fun as S I J z Q => match as with
  | [.ref a0, .int a1] => B_X11_sorry_0 G 0 0 Q [some (.ref a0), some (.int a1)] [] S I J z 0 0
  | _ => False
theorem c_X11_sorry {l : Launch} {G : GT} {D : Nat} : ∀ as S I J z Q, sp_X11_sorry G as S I J z Q → fqCall l G M_X11_sorry (D + 3) 0 0 as S I J z Q := by
  intro as S I J z Q h
  unfold sp_X11_sorry at h
  split at h
  · exact fq_enter _ (by decide +kernel) (Nat.le_of_ble_eq_true rfl) rfl (b_X11_sorry_0 _ _ _ _ _ _ _ _ h)
  · exact h.elim
theorem dX11_survey_0 : decode cX11_survey 0 = .ok (.aload_n 0, 1) := by decide +kernel
theorem dX11_survey_1 : decode cX11_survey 1 = .ok (.iload_n 1, 1) := by decide +kernel
theorem dX11_survey_2 : decode cX11_survey 2 = .ok (.invokevirtual 227, 3) := by decide +kernel
theorem dX11_survey_5 : decode cX11_survey 5 = .ok (.ifCond .ne 9, 3) := by decide +kernel
theorem dX11_survey_8 : decode cX11_survey 8 = .ok (.aload_n 0, 1) := by decide +kernel
theorem dX11_survey_9 : decode cX11_survey 9 = .ok (.iconst 1, 1) := by decide +kernel
theorem dX11_survey_10 : decode cX11_survey 10 = .ok (.invokevirtual 97, 3) := by decide +kernel
theorem dX11_survey_13 : decode cX11_survey 13 = .ok (.ireturn, 1) := by decide +kernel
theorem dX11_survey_14 : decode cX11_survey 14 = .ok (.aload_n 0, 1) := by decide +kernel
theorem dX11_survey_15 : decode cX11_survey 15 = .ok (.aload_n 0, 1) := by decide +kernel
theorem dX11_survey_16 : decode cX11_survey 16 = .ok (.getfield 46, 3) := by decide +kernel
theorem dX11_survey_19 : decode cX11_survey 19 = .ok (.iload_n 1, 1) := by decide +kernel
theorem dX11_survey_20 : decode cX11_survey 20 = .ok (.aload_n 0, 1) := by decide +kernel
theorem dX11_survey_21 : decode cX11_survey 21 = .ok (.getfield 46, 3) := by decide +kernel
theorem dX11_survey_24 : decode cX11_survey 24 = .ok (.iload_n 1, 1) := by decide +kernel
theorem dX11_survey_25 : decode cX11_survey 25 = .ok (.invokevirtual 321, 3) := by decide +kernel
theorem dX11_survey_28 : decode cX11_survey 28 = .ok (.aload_n 0, 1) := by decide +kernel
theorem dX11_survey_29 : decode cX11_survey 29 = .ok (.getfield 46, 3) := by decide +kernel
theorem dX11_survey_32 : decode cX11_survey 32 = .ok (.iload_n 1, 1) := by decide +kernel
theorem dX11_survey_33 : decode cX11_survey 33 = .ok (.invokevirtual 230, 3) := by decide +kernel
theorem dX11_survey_36 : decode cX11_survey 36 = .ok (.isub, 1) := by decide +kernel
theorem dX11_survey_37 : decode cX11_survey 37 = .ok (.invokevirtual 324, 3) := by decide +kernel
theorem dX11_survey_40 : decode cX11_survey 40 = .ok (.invokevirtual 142, 3) := by decide +kernel
theorem dX11_survey_43 : decode cX11_survey 43 = .ok (.ireturn, 1) := by decide +kernel
abbrev M_X11_survey : MT := (yX11_survey, cX11_survey, 2, (some .int))
theorem cf_X11_survey : fq_cf M_X11_survey 1 := ⟨(mg_1 (List.mem_of_getElem? (i := 1) rfl) rfl), (mg_5 (List.mem_of_getElem? (i := 117) rfl) rfl), ⟨by decide, by decide, by decide +kernel⟩, by decide⟩
def B_X11_survey_0 (G : GT) (mc ms : Nat) (Q : Post) : Cn := ix_aload 0 (ix_iload 1 (ix_vcall 11 2 0 0 mc ms (sp_X11_isWall G) (ix_if_ne (ix_aload 0 (ix_aload 0 (ix_getR 11 6 (ix_iload 1 (ix_aload 0 (ix_getR 11 6 (ix_iload 1 (ix_vcall 6 2 0 0 mc ms (sp_X6_toldPlace G) (ix_aload 0 (ix_getR 11 6 (ix_iload 1 (ix_vcall 6 2 0 0 mc ms (sp_X6_wallPlace G) (ix_isub (ix_vcall 6 3 0 0 mc ms (sp_X6_push G) (ix_vcall 11 2 0 0 mc ms (sp_X11_answer G) (ix_iret mc ms Q)))))))))))))))) (ix_aload 0 (ix_pushI 1 (ix_vcall 11 2 0 0 mc ms (sp_X11_refuse G) (ix_iret mc ms Q)))))))
theorem b_X11_survey_0 {l : Launch} {G : GT} {D mc ms : Nat} {Q : Post} : Imp l G M_X11_survey (D + 3) mc ms Q (B_X11_survey_0 G mc ms Q) 0 := sx_aload_n dX11_survey_0 rfl (sx_iload_n dX11_survey_1 rfl (sx_vcall dX11_survey_2 cf_X11_isWall (mg_4 (List.mem_of_getElem? (i := 190) rfl) rfl) (mg_4 (List.mem_of_getElem? (i := 192) rfl) rfl) (mg_p (List.mem_of_getElem? (i := 25) rfl) rfl) rfl c_X11_isWall (sx_if_ne 14 dX11_survey_5 (by decide) (sx_aload_n dX11_survey_14 rfl (sx_aload_n dX11_survey_15 rfl (sx_getR dX11_survey_16 fl_FootQuarrel_46 (fun _ _ _ => rfl) (sx_iload_n dX11_survey_19 rfl (sx_aload_n dX11_survey_20 rfl (sx_getR dX11_survey_21 fl_FootQuarrel_46 (fun _ _ _ => rfl) (sx_iload_n dX11_survey_24 rfl (sx_vcall dX11_survey_25 cf_X6_toldPlace (mg_5 (List.mem_of_getElem? (i := 118) rfl) rfl) (mg_5 (List.mem_of_getElem? (i := 119) rfl) rfl) (mg_5 (List.mem_of_getElem? (i := 120) rfl) rfl) rfl c_X6_toldPlace (sx_aload_n dX11_survey_28 rfl (sx_getR dX11_survey_29 fl_FootQuarrel_46 (fun _ _ _ => rfl) (sx_iload_n dX11_survey_32 rfl (sx_vcall dX11_survey_33 cf_X6_wallPlace (mg_4 (List.mem_of_getElem? (i := 201) rfl) rfl) (mg_4 (List.mem_of_getElem? (i := 202) rfl) rfl) (mg_4 (List.mem_of_getElem? (i := 203) rfl) rfl) rfl c_X6_wallPlace (sx_isub dX11_survey_36 (sx_vcall dX11_survey_37 cf_X6_push (mg_5 (List.mem_of_getElem? (i := 122) rfl) rfl) (mg_5 (List.mem_of_getElem? (i := 75) rfl) rfl) (mg_5 (List.mem_of_getElem? (i := 76) rfl) rfl) rfl c_X6_push (sx_vcall dX11_survey_40 cf_X11_answer (mg_4 (List.mem_of_getElem? (i := 72) rfl) rfl) (mg_4 (List.mem_of_getElem? (i := 74) rfl) rfl) (mg_p (List.mem_of_getElem? (i := 17) rfl) rfl) rfl c_X11_answer (sx_iret dX11_survey_43 rfl)))))))))))))))) (sx_aload_n dX11_survey_8 rfl (sx_iconst dX11_survey_9 rfl (sx_vcall dX11_survey_10 cf_X11_refuse (mg_3 (List.mem_of_getElem? (i := 120) rfl) rfl) (mg_3 (List.mem_of_getElem? (i := 122) rfl) rfl) (mg_p (List.mem_of_getElem? (i := 3) rfl) rfl) rfl c_X11_refuse (sx_iret dX11_survey_13 rfl)))))))
def sp_X11_survey (G : GT) : Sp := fun as S I J z Q => match as with
  | [.ref a0, .int a1] => B_X11_survey_0 G 0 0 Q [some (.ref a0), some (.int a1)] [] S I J z 0 0
  | _ => False
theorem c_X11_survey {l : Launch} {G : GT} {D : Nat} : ∀ as S I J z Q, sp_X11_survey G as S I J z Q → fqCall l G M_X11_survey (D + 3) 0 0 as S I J z Q := by
  intro as S I J z Q h
  unfold sp_X11_survey at h
  split at h
  · exact fq_enter _ (by decide +kernel) (Nat.le_of_ble_eq_true rfl) rfl (b_X11_survey_0 _ _ _ _ _ _ _ _ h)
  · exact h.elim
theorem dX11_soothe_0 : decode cX11_soothe 0 = .ok (.aload_n 0, 1) := by decide +kernel
theorem dX11_soothe_1 : decode cX11_soothe 1 = .ok (.iload_n 1, 1) := by decide +kernel
theorem dX11_soothe_2 : decode cX11_soothe 2 = .ok (.invokevirtual 233, 3) := by decide +kernel
theorem dX11_soothe_5 : decode cX11_soothe 5 = .ok (.ifCond .ne 9, 3) := by decide +kernel
theorem dX11_soothe_8 : decode cX11_soothe 8 = .ok (.aload_n 0, 1) := by decide +kernel
theorem dX11_soothe_9 : decode cX11_soothe 9 = .ok (.iconst 1, 1) := by decide +kernel
theorem dX11_soothe_10 : decode cX11_soothe 10 = .ok (.invokevirtual 97, 3) := by decide +kernel
theorem dX11_soothe_13 : decode cX11_soothe 13 = .ok (.ireturn, 1) := by decide +kernel
theorem dX11_soothe_14 : decode cX11_soothe 14 = .ok (.aload_n 0, 1) := by decide +kernel
theorem dX11_soothe_15 : decode cX11_soothe 15 = .ok (.getfield 46, 3) := by decide +kernel
theorem dX11_soothe_18 : decode cX11_soothe 18 = .ok (.getfield 236, 3) := by decide +kernel
theorem dX11_soothe_21 : decode cX11_soothe 21 = .ok (.iload_n 1, 1) := by decide +kernel
theorem dX11_soothe_22 : decode cX11_soothe 22 = .ok (.aaload, 1) := by decide +kernel
theorem dX11_soothe_23 : decode cX11_soothe 23 = .ok (.getfield 257, 3) := by decide +kernel
theorem dX11_soothe_26 : decode cX11_soothe 26 = .ok (.istore_n 2, 1) := by decide +kernel
theorem dX11_soothe_27 : decode cX11_soothe 27 = .ok (.aload_n 0, 1) := by decide +kernel
theorem dX11_soothe_28 : decode cX11_soothe 28 = .ok (.getfield 46, 3) := by decide +kernel
theorem dX11_soothe_31 : decode cX11_soothe 31 = .ok (.getfield 236, 3) := by decide +kernel
theorem dX11_soothe_34 : decode cX11_soothe 34 = .ok (.iload_n 1, 1) := by decide +kernel
theorem dX11_soothe_35 : decode cX11_soothe 35 = .ok (.aaload, 1) := by decide +kernel
theorem dX11_soothe_36 : decode cX11_soothe 36 = .ok (.iconst 0, 1) := by decide +kernel
theorem dX11_soothe_37 : decode cX11_soothe 37 = .ok (.putfield 257, 3) := by decide +kernel
theorem dX11_soothe_40 : decode cX11_soothe 40 = .ok (.aload_n 0, 1) := by decide +kernel
theorem dX11_soothe_41 : decode cX11_soothe 41 = .ok (.iload_n 2, 1) := by decide +kernel
theorem dX11_soothe_42 : decode cX11_soothe 42 = .ok (.invokevirtual 142, 3) := by decide +kernel
theorem dX11_soothe_45 : decode cX11_soothe 45 = .ok (.ireturn, 1) := by decide +kernel
abbrev M_X11_soothe : MT := (yX11_soothe, cX11_soothe, 3, (some .int))
theorem cf_X11_soothe : fq_cf M_X11_soothe 1 := ⟨(mg_1 (List.mem_of_getElem? (i := 1) rfl) rfl), (mg_5 (List.mem_of_getElem? (i := 126) rfl) rfl), ⟨by decide, by decide, by decide +kernel⟩, by decide⟩
def B_X11_soothe_0 (G : GT) (mc ms : Nat) (Q : Post) : Cn := ix_aload 0 (ix_iload 1 (ix_vcall 11 2 0 0 mc ms (sp_X11_isPerson G) (ix_if_ne (ix_aload 0 (ix_getR 11 6 (ix_getR 6 1 (ix_iload 1 (ix_aald 17 (ix_getI 2 6 (ix_istore 2 (ix_aload 0 (ix_getR 11 6 (ix_getR 6 1 (ix_iload 1 (ix_aald 17 (ix_pushI 0 (ix_putI 2 6 (ix_aload 0 (ix_iload 2 (ix_vcall 11 2 0 0 mc ms (sp_X11_answer G) (ix_iret mc ms Q)))))))))))))))))) (ix_aload 0 (ix_pushI 1 (ix_vcall 11 2 0 0 mc ms (sp_X11_refuse G) (ix_iret mc ms Q)))))))
theorem b_X11_soothe_0 {l : Launch} {G : GT} {D mc ms : Nat} {Q : Post} : Imp l G M_X11_soothe (D + 2) mc ms Q (B_X11_soothe_0 G mc ms Q) 0 := sx_aload_n dX11_soothe_0 rfl (sx_iload_n dX11_soothe_1 rfl (sx_vcall dX11_soothe_2 cf_X11_isPerson (mg_4 (List.mem_of_getElem? (i := 209) rfl) rfl) (mg_4 (List.mem_of_getElem? (i := 211) rfl) rfl) (mg_p (List.mem_of_getElem? (i := 26) rfl) rfl) rfl c_X11_isPerson (sx_if_ne 14 dX11_soothe_5 (by decide) (sx_aload_n dX11_soothe_14 rfl (sx_getR dX11_soothe_15 fl_FootQuarrel_46 (fun _ _ _ => rfl) (sx_getR dX11_soothe_18 fl_FootQuarrel_236 (fun _ _ _ => rfl) (sx_iload_n dX11_soothe_21 rfl (sx_aald dX11_soothe_22 (by decide) (by decide) rfl (sx_getI dX11_soothe_23 fl_FootQuarrel_257 (fun _ _ _ => rfl) (sx_istore_n dX11_soothe_26 rfl (by decide) (sx_aload_n dX11_soothe_27 rfl (sx_getR dX11_soothe_28 fl_FootQuarrel_46 (fun _ _ _ => rfl) (sx_getR dX11_soothe_31 fl_FootQuarrel_236 (fun _ _ _ => rfl) (sx_iload_n dX11_soothe_34 rfl (sx_aald dX11_soothe_35 (by decide) (by decide) rfl (sx_iconst dX11_soothe_36 rfl (sx_putI dX11_soothe_37 fl_FootQuarrel_257 (by decide) (fun _ _ _ => rfl) (fun _ => ⟨rfl, rfl⟩) (sx_aload_n dX11_soothe_40 rfl (sx_iload_n dX11_soothe_41 rfl (sx_vcall dX11_soothe_42 cf_X11_answer (mg_4 (List.mem_of_getElem? (i := 72) rfl) rfl) (mg_4 (List.mem_of_getElem? (i := 74) rfl) rfl) (mg_p (List.mem_of_getElem? (i := 17) rfl) rfl) rfl c_X11_answer (sx_iret dX11_soothe_45 rfl)))))))))))))))))) (sx_aload_n dX11_soothe_8 rfl (sx_iconst dX11_soothe_9 rfl (sx_vcall dX11_soothe_10 cf_X11_refuse (mg_3 (List.mem_of_getElem? (i := 120) rfl) rfl) (mg_3 (List.mem_of_getElem? (i := 122) rfl) rfl) (mg_p (List.mem_of_getElem? (i := 3) rfl) rfl) rfl c_X11_refuse (sx_iret dX11_soothe_13 rfl)))))))
def sp_X11_soothe (G : GT) : Sp := fun as S I J z Q => match as with
  | [.ref a0, .int a1] => B_X11_soothe_0 G 0 0 Q [some (.ref a0), some (.int a1), none] [] S I J z 0 0
  | _ => False
theorem c_X11_soothe {l : Launch} {G : GT} {D : Nat} : ∀ as S I J z Q, sp_X11_soothe G as S I J z Q → fqCall l G M_X11_soothe (D + 2) 0 0 as S I J z Q := by
  intro as S I J z Q h
  unfold sp_X11_soothe at h
  split at h
  · exact fq_enter _ (by decide +kernel) (Nat.le_of_ble_eq_true rfl) rfl (b_X11_soothe_0 _ _ _ _ _ _ _ _ h)
  · exact h.elim
theorem dX11_game_0 : decode cX11_game 0 = .ok (.aload_n 0, 1) := by decide +kernel
theorem dX11_game_1 : decode cX11_game 1 = .ok (.iload_n 1, 1) := by decide +kernel
theorem dX11_game_2 : decode cX11_game 2 = .ok (.iload_n 2, 1) := by decide +kernel
theorem dX11_game_3 : decode cX11_game 3 = .ok (.iload_n 3, 1) := by decide +kernel
theorem dX11_game_4 : decode cX11_game 4 = .ok (.iconst 0, 1) := by decide +kernel
theorem dX11_game_5 : decode cX11_game 5 = .ok (.invokevirtual 366, 3) := by decide +kernel
theorem dX11_game_8 : decode cX11_game 8 = .ok (.istore 4, 2) := by decide +kernel
theorem dX11_game_10 : decode cX11_game 10 = .ok (.iload 4, 2) := by decide +kernel
theorem dX11_game_12 : decode cX11_game 12 = .ok (.ifCond .eq 10, 3) := by decide +kernel
theorem dX11_game_15 : decode cX11_game 15 = .ok (.aload_n 0, 1) := by decide +kernel
theorem dX11_game_16 : decode cX11_game 16 = .ok (.iload 4, 2) := by decide +kernel
theorem dX11_game_18 : decode cX11_game 18 = .ok (.invokevirtual 97, 3) := by decide +kernel
theorem dX11_game_21 : decode cX11_game 21 = .ok (.ireturn, 1) := by decide +kernel
theorem dX11_game_22 : decode cX11_game 22 = .ok (.aload_n 0, 1) := by decide +kernel
theorem dX11_game_23 : decode cX11_game 23 = .ok (.getfield 46, 3) := by decide +kernel
theorem dX11_game_26 : decode cX11_game 26 = .ok (.iload_n 1, 1) := by decide +kernel
theorem dX11_game_27 : decode cX11_game 27 = .ok (.iload_n 2, 1) := by decide +kernel
theorem dX11_game_28 : decode cX11_game 28 = .ok (.invokevirtual 336, 3) := by decide +kernel
theorem dX11_game_31 : decode cX11_game 31 = .ok (.astore 5, 2) := by decide +kernel
theorem dX11_game_33 : decode cX11_game 33 = .ok (.aload 5, 2) := by decide +kernel
theorem dX11_game_35 : decode cX11_game 35 = .ok (.getfield 370, 3) := by decide +kernel
theorem dX11_game_38 : decode cX11_game 38 = .ok (.iconst 0, 1) := by decide +kernel
theorem dX11_game_39 : decode cX11_game 39 = .ok (.iaload, 1) := by decide +kernel
theorem dX11_game_40 : decode cX11_game 40 = .ok (.istore 6, 2) := by decide +kernel
theorem dX11_game_42 : decode cX11_game 42 = .ok (.aload_n 0, 1) := by decide +kernel
theorem dX11_game_43 : decode cX11_game 43 = .ok (.aload 5, 2) := by decide +kernel
theorem dX11_game_45 : decode cX11_game 45 = .ok (.iconst 0, 1) := by decide +kernel
theorem dX11_game_46 : decode cX11_game 46 = .ok (.iload_n 3, 1) := by decide +kernel
theorem dX11_game_47 : decode cX11_game 47 = .ok (.invokestatic 372, 3) := by decide +kernel
theorem dX11_game_50 : decode cX11_game 50 = .ok (.iload 6, 2) := by decide +kernel
theorem dX11_game_52 : decode cX11_game 52 = .ok (.isub, 1) := by decide +kernel
theorem dX11_game_53 : decode cX11_game 53 = .ok (.invokevirtual 142, 3) := by decide +kernel
theorem dX11_game_56 : decode cX11_game 56 = .ok (.ireturn, 1) := by decide +kernel
abbrev M_X11_game : MT := (yX11_game, cX11_game, 7, (some .int))
theorem cf_X11_game : fq_cf M_X11_game 3 := ⟨(mg_1 (List.mem_of_getElem? (i := 1) rfl) rfl), (mg_6 (List.mem_of_getElem? (i := 3) rfl) rfl), ⟨by decide, by decide, by decide +kernel⟩, by decide⟩
def B_X11_game_0 (G : GT) (mc ms : Nat) (Q : Post) : Cn := ix_aload 0 (ix_iload 1 (ix_iload 2 (ix_iload 3 (ix_pushI 0 (ix_vcall 11 5 0 0 mc ms (sp_X11_gameStatus G) (ix_istore 4 (ix_iload 4 (ix_if_eq (ix_aload 0 (ix_getR 11 6 (ix_iload 1 (ix_iload 2 (ix_vcall 6 3 0 0 mc ms (sp_X6_tryOut G) (ix_astore 5 (ix_aload 5 (ix_getR 5 1 (ix_pushI 0 (ix_iald (ix_istore 6 (ix_aload 0 (ix_aload 5 (ix_pushI 0 (ix_iload 3 (ix_call 3 0 0 mc ms (sp_X11_bestPlay G) (ix_iload 6 (ix_isub (ix_vcall 11 2 0 0 mc ms (sp_X11_answer G) (ix_iret mc ms Q)))))))))))))))))))) (ix_aload 0 (ix_iload 4 (ix_vcall 11 2 0 0 mc ms (sp_X11_refuse G) (ix_iret mc ms Q))))))))))))
theorem b_X11_game_0 {l : Launch} {G : GT} {D mc ms : Nat} {Q : Post} : Imp l G M_X11_game (D + 8) mc ms Q (B_X11_game_0 G mc ms Q) 0 := sx_aload_n dX11_game_0 rfl (sx_iload_n dX11_game_1 rfl (sx_iload_n dX11_game_2 rfl (sx_iload_n dX11_game_3 rfl (sx_iconst dX11_game_4 rfl (sx_vcall dX11_game_5 cf_X11_gameStatus (mg_6 (List.mem_of_getElem? (i := 4) rfl) rfl) (mg_6 (List.mem_of_getElem? (i := 6) rfl) rfl) (mg_p (List.mem_of_getElem? (i := 34) rfl) rfl) rfl c_X11_gameStatus (sx_istore dX11_game_8 (by decide) (sx_iload dX11_game_10 (sx_if_eq 22 dX11_game_12 (by decide) (sx_aload_n dX11_game_22 rfl (sx_getR dX11_game_23 fl_FootQuarrel_46 (fun _ _ _ => rfl) (sx_iload_n dX11_game_26 rfl (sx_iload_n dX11_game_27 rfl (sx_vcall dX11_game_28 cf_X6_tryOut (mg_5 (List.mem_of_getElem? (i := 159) rfl) rfl) (mg_5 (List.mem_of_getElem? (i := 24) rfl) rfl) (mg_5 (List.mem_of_getElem? (i := 25) rfl) rfl) rfl c_X6_tryOut (sx_astore dX11_game_31 (by decide) (sx_aload dX11_game_33 (sx_getR dX11_game_35 fl_FootQuarrel_370 (fun _ _ _ => rfl) (sx_iconst dX11_game_38 rfl (sx_iald dX11_game_39 (sx_istore dX11_game_40 (by decide) (sx_aload_n dX11_game_42 rfl (sx_aload dX11_game_43 (sx_iconst dX11_game_45 rfl (sx_iload_n dX11_game_46 rfl (sx_scall dX11_game_47 cf_X11_bestPlay (mg_6 (List.mem_of_getElem? (i := 8) rfl) rfl) (mg_6 (List.mem_of_getElem? (i := 9) rfl) rfl) c_X11_bestPlay (sx_iload dX11_game_50 (sx_isub dX11_game_52 (sx_vcall dX11_game_53 cf_X11_answer (mg_4 (List.mem_of_getElem? (i := 72) rfl) rfl) (mg_4 (List.mem_of_getElem? (i := 74) rfl) rfl) (mg_p (List.mem_of_getElem? (i := 17) rfl) rfl) rfl c_X11_answer (sx_iret dX11_game_56 rfl)))))))))))))))))))) (sx_aload_n dX11_game_15 rfl (sx_iload dX11_game_16 (sx_vcall dX11_game_18 cf_X11_refuse (mg_3 (List.mem_of_getElem? (i := 120) rfl) rfl) (mg_3 (List.mem_of_getElem? (i := 122) rfl) rfl) (mg_p (List.mem_of_getElem? (i := 3) rfl) rfl) rfl c_X11_refuse (sx_iret dX11_game_21 rfl))))))))))))
def sp_X11_game (G : GT) : Sp := fun as S I J z Q => match as with
  | [.ref a0, .int a1, .int a2, .int a3] => B_X11_game_0 G 0 0 Q [some (.ref a0), some (.int a1), some (.int a2), some (.int a3), none, none, none] [] S I J z 0 0
  | _ => False
theorem c_X11_game {l : Launch} {G : GT} {D : Nat} : ∀ as S I J z Q, sp_X11_game G as S I J z Q → fqCall l G M_X11_game (D + 8) 0 0 as S I J z Q := by
  intro as S I J z Q h
  unfold sp_X11_game at h
  split at h
  · exact fq_enter _ (by decide +kernel) (Nat.le_of_ble_eq_true rfl) rfl (b_X11_game_0 _ _ _ _ _ _ _ _ h)
  · exact h.elim
theorem dX11_moveOf_0 : decode cX11_moveOf 0 = .ok (.aload_n 0, 1) := by decide +kernel
theorem dX11_moveOf_1 : decode cX11_moveOf 1 = .ok (.iload_n 1, 1) := by decide +kernel
theorem dX11_moveOf_2 : decode cX11_moveOf 2 = .ok (.iload_n 2, 1) := by decide +kernel
theorem dX11_moveOf_3 : decode cX11_moveOf 3 = .ok (.iload_n 3, 1) := by decide +kernel
theorem dX11_moveOf_4 : decode cX11_moveOf 4 = .ok (.iconst 1, 1) := by decide +kernel
theorem dX11_moveOf_5 : decode cX11_moveOf 5 = .ok (.invokevirtual 366, 3) := by decide +kernel
theorem dX11_moveOf_8 : decode cX11_moveOf 8 = .ok (.istore 4, 2) := by decide +kernel
theorem dX11_moveOf_10 : decode cX11_moveOf 10 = .ok (.iload 4, 2) := by decide +kernel
theorem dX11_moveOf_12 : decode cX11_moveOf 12 = .ok (.ifCond .eq 10, 3) := by decide +kernel
theorem dX11_moveOf_15 : decode cX11_moveOf 15 = .ok (.aload_n 0, 1) := by decide +kernel
theorem dX11_moveOf_16 : decode cX11_moveOf 16 = .ok (.iload 4, 2) := by decide +kernel
theorem dX11_moveOf_18 : decode cX11_moveOf 18 = .ok (.invokevirtual 97, 3) := by decide +kernel
theorem dX11_moveOf_21 : decode cX11_moveOf 21 = .ok (.ireturn, 1) := by decide +kernel
theorem dX11_moveOf_22 : decode cX11_moveOf 22 = .ok (.aload_n 0, 1) := by decide +kernel
theorem dX11_moveOf_23 : decode cX11_moveOf 23 = .ok (.getfield 46, 3) := by decide +kernel
theorem dX11_moveOf_26 : decode cX11_moveOf 26 = .ok (.iload_n 1, 1) := by decide +kernel
theorem dX11_moveOf_27 : decode cX11_moveOf 27 = .ok (.iload_n 2, 1) := by decide +kernel
theorem dX11_moveOf_28 : decode cX11_moveOf 28 = .ok (.invokevirtual 336, 3) := by decide +kernel
theorem dX11_moveOf_31 : decode cX11_moveOf 31 = .ok (.iconst 1, 1) := by decide +kernel
theorem dX11_moveOf_32 : decode cX11_moveOf 32 = .ok (.iload_n 3, 1) := by decide +kernel
theorem dX11_moveOf_33 : decode cX11_moveOf 33 = .ok (.invokestatic 372, 3) := by decide +kernel
theorem dX11_moveOf_36 : decode cX11_moveOf 36 = .ok (.istore 5, 2) := by decide +kernel
theorem dX11_moveOf_38 : decode cX11_moveOf 38 = .ok (.aload_n 0, 1) := by decide +kernel
theorem dX11_moveOf_39 : decode cX11_moveOf 39 = .ok (.getfield 46, 3) := by decide +kernel
theorem dX11_moveOf_42 : decode cX11_moveOf 42 = .ok (.iload_n 1, 1) := by decide +kernel
theorem dX11_moveOf_43 : decode cX11_moveOf 43 = .ok (.iload_n 2, 1) := by decide +kernel
theorem dX11_moveOf_44 : decode cX11_moveOf 44 = .ok (.invokevirtual 336, 3) := by decide +kernel
theorem dX11_moveOf_47 : decode cX11_moveOf 47 = .ok (.astore 6, 2) := by decide +kernel
theorem dX11_moveOf_49 : decode cX11_moveOf 49 = .ok (.aload 6, 2) := by decide +kernel
theorem dX11_moveOf_51 : decode cX11_moveOf 51 = .ok (.iconst 0, 1) := by decide +kernel
theorem dX11_moveOf_52 : decode cX11_moveOf 52 = .ok (.invokevirtual 340, 3) := by decide +kernel
theorem dX11_moveOf_55 : decode cX11_moveOf 55 = .ok (.pop, 1) := by decide +kernel
theorem dX11_moveOf_56 : decode cX11_moveOf 56 = .ok (.aload_n 0, 1) := by decide +kernel
theorem dX11_moveOf_57 : decode cX11_moveOf 57 = .ok (.aload 6, 2) := by decide +kernel
theorem dX11_moveOf_59 : decode cX11_moveOf 59 = .ok (.iconst 1, 1) := by decide +kernel
theorem dX11_moveOf_60 : decode cX11_moveOf 60 = .ok (.iload_n 3, 1) := by decide +kernel
theorem dX11_moveOf_61 : decode cX11_moveOf 61 = .ok (.invokestatic 372, 3) := by decide +kernel
theorem dX11_moveOf_64 : decode cX11_moveOf 64 = .ok (.iload 5, 2) := by decide +kernel
theorem dX11_moveOf_66 : decode cX11_moveOf 66 = .ok (.if_icmp .le 7, 3) := by decide +kernel
theorem dX11_moveOf_69 : decode cX11_moveOf 69 = .ok (.iconst 1, 1) := by decide +kernel
theorem dX11_moveOf_70 : decode cX11_moveOf 70 = .ok (.goto 4, 3) := by decide +kernel
theorem dX11_moveOf_73 : decode cX11_moveOf 73 = .ok (.iconst 0, 1) := by decide +kernel
theorem dX11_moveOf_74 : decode cX11_moveOf 74 = .ok (.invokestatic 186, 3) := by decide +kernel
theorem dX11_moveOf_77 : decode cX11_moveOf 77 = .ok (.invokevirtual 142, 3) := by decide +kernel
theorem dX11_moveOf_80 : decode cX11_moveOf 80 = .ok (.ireturn, 1) := by decide +kernel
abbrev M_X11_moveOf : MT := (yX11_moveOf, cX11_moveOf, 7, (some .int))
theorem cf_X11_moveOf : fq_cf M_X11_moveOf 3 := ⟨(mg_1 (List.mem_of_getElem? (i := 1) rfl) rfl), (mg_6 (List.mem_of_getElem? (i := 16) rfl) rfl), ⟨by decide, by decide, by decide +kernel⟩, by decide⟩
def B_X11_moveOf_74 (G : GT) (mc ms : Nat) (Q : Post) : Cn := ix_call 1 0 0 mc ms (sp_X11_oneIf G) (ix_vcall 11 2 0 0 mc ms (sp_X11_answer G) (ix_iret mc ms Q))
theorem b_X11_moveOf_74 {l : Launch} {G : GT} {D mc ms : Nat} {Q : Post} : Imp l G M_X11_moveOf (D + 8) mc ms Q (B_X11_moveOf_74 G mc ms Q) 74 := sx_scall dX11_moveOf_74 cf_X11_oneIf (mg_4 (List.mem_of_getElem? (i := 163) rfl) rfl) (mg_4 (List.mem_of_getElem? (i := 164) rfl) rfl) c_X11_oneIf (sx_vcall dX11_moveOf_77 cf_X11_answer (mg_4 (List.mem_of_getElem? (i := 72) rfl) rfl) (mg_4 (List.mem_of_getElem? (i := 74) rfl) rfl) (mg_p (List.mem_of_getElem? (i := 17) rfl) rfl) rfl c_X11_answer (sx_iret dX11_moveOf_80 rfl))
def B_X11_moveOf_0 (G : GT) (mc ms : Nat) (Q : Post) : Cn := ix_aload 0 (ix_iload 1 (ix_iload 2 (ix_iload 3 (ix_pushI 1 (ix_vcall 11 5 0 0 mc ms (sp_X11_gameStatus G) (ix_istore 4 (ix_iload 4 (ix_if_eq (ix_aload 0 (ix_getR 11 6 (ix_iload 1 (ix_iload 2 (ix_vcall 6 3 0 0 mc ms (sp_X6_tryOut G) (ix_pushI 1 (ix_iload 3 (ix_call 3 0 0 mc ms (sp_X11_bestPlay G) (ix_istore 5 (ix_aload 0 (ix_getR 11 6 (ix_iload 1 (ix_iload 2 (ix_vcall 6 3 0 0 mc ms (sp_X6_tryOut G) (ix_astore 6 (ix_aload 6 (ix_pushI 0 (ix_vcall 5 2 0 0 mc ms (sp_X5_speak G) (ix_popI (ix_aload 0 (ix_aload 6 (ix_pushI 1 (ix_iload 3 (ix_call 3 0 0 mc ms (sp_X11_bestPlay G) (ix_iload 5 (ix_icmp_le (ix_pushI 0 ((B_X11_moveOf_74 G mc ms Q))) (ix_pushI 1 ((B_X11_moveOf_74 G mc ms Q))))))))))))))))))))))))))))) (ix_aload 0 (ix_iload 4 (ix_vcall 11 2 0 0 mc ms (sp_X11_refuse G) (ix_iret mc ms Q))))))))))))
theorem b_X11_moveOf_0 {l : Launch} {G : GT} {D mc ms : Nat} {Q : Post} : Imp l G M_X11_moveOf (D + 8) mc ms Q (B_X11_moveOf_0 G mc ms Q) 0 := sx_aload_n dX11_moveOf_0 rfl (sx_iload_n dX11_moveOf_1 rfl (sx_iload_n dX11_moveOf_2 rfl (sx_iload_n dX11_moveOf_3 rfl (sx_iconst dX11_moveOf_4 rfl (sx_vcall dX11_moveOf_5 cf_X11_gameStatus (mg_6 (List.mem_of_getElem? (i := 4) rfl) rfl) (mg_6 (List.mem_of_getElem? (i := 6) rfl) rfl) (mg_p (List.mem_of_getElem? (i := 34) rfl) rfl) rfl c_X11_gameStatus (sx_istore dX11_moveOf_8 (by decide) (sx_iload dX11_moveOf_10 (sx_if_eq 22 dX11_moveOf_12 (by decide) (sx_aload_n dX11_moveOf_22 rfl (sx_getR dX11_moveOf_23 fl_FootQuarrel_46 (fun _ _ _ => rfl) (sx_iload_n dX11_moveOf_26 rfl (sx_iload_n dX11_moveOf_27 rfl (sx_vcall dX11_moveOf_28 cf_X6_tryOut (mg_5 (List.mem_of_getElem? (i := 159) rfl) rfl) (mg_5 (List.mem_of_getElem? (i := 24) rfl) rfl) (mg_5 (List.mem_of_getElem? (i := 25) rfl) rfl) rfl c_X6_tryOut (sx_iconst dX11_moveOf_31 rfl (sx_iload_n dX11_moveOf_32 rfl (sx_scall dX11_moveOf_33 cf_X11_bestPlay (mg_6 (List.mem_of_getElem? (i := 8) rfl) rfl) (mg_6 (List.mem_of_getElem? (i := 9) rfl) rfl) c_X11_bestPlay (sx_istore dX11_moveOf_36 (by decide) (sx_aload_n dX11_moveOf_38 rfl (sx_getR dX11_moveOf_39 fl_FootQuarrel_46 (fun _ _ _ => rfl) (sx_iload_n dX11_moveOf_42 rfl (sx_iload_n dX11_moveOf_43 rfl (sx_vcall dX11_moveOf_44 cf_X6_tryOut (mg_5 (List.mem_of_getElem? (i := 159) rfl) rfl) (mg_5 (List.mem_of_getElem? (i := 24) rfl) rfl) (mg_5 (List.mem_of_getElem? (i := 25) rfl) rfl) rfl c_X6_tryOut (sx_astore dX11_moveOf_47 (by decide) (sx_aload dX11_moveOf_49 (sx_iconst dX11_moveOf_51 rfl (sx_vcall dX11_moveOf_52 cf_X5_speak (mg_5 (List.mem_of_getElem? (i := 160) rfl) rfl) (mg_5 (List.mem_of_getElem? (i := 32) rfl) rfl) (mg_5 (List.mem_of_getElem? (i := 33) rfl) rfl) rfl c_X5_speak (sx_popI dX11_moveOf_55 (sx_aload_n dX11_moveOf_56 rfl (sx_aload dX11_moveOf_57 (sx_iconst dX11_moveOf_59 rfl (sx_iload_n dX11_moveOf_60 rfl (sx_scall dX11_moveOf_61 cf_X11_bestPlay (mg_6 (List.mem_of_getElem? (i := 8) rfl) rfl) (mg_6 (List.mem_of_getElem? (i := 9) rfl) rfl) c_X11_bestPlay (sx_iload dX11_moveOf_64 (sx_icmp_le 73 dX11_moveOf_66 (by decide) (sx_iconst dX11_moveOf_73 rfl (b_X11_moveOf_74)) (sx_iconst dX11_moveOf_69 rfl (sx_goto 74 dX11_moveOf_70 (by decide) (b_X11_moveOf_74))))))))))))))))))))))))))))) (sx_aload_n dX11_moveOf_15 rfl (sx_iload dX11_moveOf_16 (sx_vcall dX11_moveOf_18 cf_X11_refuse (mg_3 (List.mem_of_getElem? (i := 120) rfl) rfl) (mg_3 (List.mem_of_getElem? (i := 122) rfl) rfl) (mg_p (List.mem_of_getElem? (i := 3) rfl) rfl) rfl c_X11_refuse (sx_iret dX11_moveOf_21 rfl))))))))))))
def sp_X11_moveOf (G : GT) : Sp := fun as S I J z Q => match as with
  | [.ref a0, .int a1, .int a2, .int a3] => B_X11_moveOf_0 G 0 0 Q [some (.ref a0), some (.int a1), some (.int a2), some (.int a3), none, none, none] [] S I J z 0 0
  | _ => False
theorem c_X11_moveOf {l : Launch} {G : GT} {D : Nat} : ∀ as S I J z Q, sp_X11_moveOf G as S I J z Q → fqCall l G M_X11_moveOf (D + 8) 0 0 as S I J z Q := by
  intro as S I J z Q h
  unfold sp_X11_moveOf at h
  split at h
  · exact fq_enter _ (by decide +kernel) (Nat.le_of_ble_eq_true rfl) rfl (b_X11_moveOf_0 _ _ _ _ _ _ _ _ h)
  · exact h.elim
theorem dX11_peace_0 : decode cX11_peace 0 = .ok (.aload_n 0, 1) := by decide +kernel
theorem dX11_peace_1 : decode cX11_peace 1 = .ok (.iload_n 1, 1) := by decide +kernel
theorem dX11_peace_2 : decode cX11_peace 2 = .ok (.invokevirtual 227, 3) := by decide +kernel
theorem dX11_peace_5 : decode cX11_peace 5 = .ok (.ifCond .ne 9, 3) := by decide +kernel
theorem dX11_peace_8 : decode cX11_peace 8 = .ok (.aload_n 0, 1) := by decide +kernel
theorem dX11_peace_9 : decode cX11_peace 9 = .ok (.iconst 1, 1) := by decide +kernel
theorem dX11_peace_10 : decode cX11_peace 10 = .ok (.invokevirtual 78, 3) := by decide +kernel
theorem dX11_peace_13 : decode cX11_peace 13 = .ok (.ireturn, 1) := by decide +kernel
theorem dX11_peace_14 : decode cX11_peace 14 = .ok (.aload_n 0, 1) := by decide +kernel
theorem dX11_peace_15 : decode cX11_peace 15 = .ok (.getfield 46, 3) := by decide +kernel
theorem dX11_peace_18 : decode cX11_peace 18 = .ok (.iload_n 1, 1) := by decide +kernel
theorem dX11_peace_19 : decode cX11_peace 19 = .ok (.invokevirtual 308, 3) := by decide +kernel
theorem dX11_peace_22 : decode cX11_peace 22 = .ok (.iload_n 2, 1) := by decide +kernel
theorem dX11_peace_23 : decode cX11_peace 23 = .ok (.if_icmp .ne 10, 3) := by decide +kernel
theorem dX11_peace_26 : decode cX11_peace 26 = .ok (.aload_n 0, 1) := by decide +kernel
theorem dX11_peace_27 : decode cX11_peace 27 = .ok (.bipush 7, 2) := by decide +kernel
theorem dX11_peace_29 : decode cX11_peace 29 = .ok (.invokevirtual 78, 3) := by decide +kernel
theorem dX11_peace_32 : decode cX11_peace 32 = .ok (.ireturn, 1) := by decide +kernel
theorem dX11_peace_33 : decode cX11_peace 33 = .ok (.aload_n 0, 1) := by decide +kernel
theorem dX11_peace_34 : decode cX11_peace 34 = .ok (.getfield 46, 3) := by decide +kernel
theorem dX11_peace_37 : decode cX11_peace 37 = .ok (.dup, 1) := by decide +kernel
theorem dX11_peace_38 : decode cX11_peace 38 = .ok (.getfield 194, 3) := by decide +kernel
theorem dX11_peace_41 : decode cX11_peace 41 = .ok (.iconst 1, 1) := by decide +kernel
theorem dX11_peace_42 : decode cX11_peace 42 = .ok (.iload_n 1, 1) := by decide +kernel
theorem dX11_peace_43 : decode cX11_peace 43 = .ok (.ishl, 1) := by decide +kernel
theorem dX11_peace_44 : decode cX11_peace 44 = .ok (.ixor, 1) := by decide +kernel
theorem dX11_peace_45 : decode cX11_peace 45 = .ok (.putfield 194, 3) := by decide +kernel
theorem dX11_peace_48 : decode cX11_peace 48 = .ok (.aload_n 0, 1) := by decide +kernel
theorem dX11_peace_49 : decode cX11_peace 49 = .ok (.invokevirtual 85, 3) := by decide +kernel
theorem dX11_peace_52 : decode cX11_peace 52 = .ok (.ireturn, 1) := by decide +kernel
abbrev M_X11_peace : MT := (yX11_peace, cX11_peace, 3, (some .boolean))
theorem cf_X11_peace : fq_cf M_X11_peace 2 := ⟨(mg_1 (List.mem_of_getElem? (i := 1) rfl) rfl), (mg_5 (List.mem_of_getElem? (i := 97) rfl) rfl), ⟨by decide, by decide, by decide +kernel⟩, by decide⟩
def B_X11_peace_0 (G : GT) (mc ms : Nat) (Q : Post) : Cn := ix_aload 0 (ix_iload 1 (ix_vcall 11 2 0 0 mc ms (sp_X11_isWall G) (ix_if_ne (ix_aload 0 (ix_getR 11 6 (ix_iload 1 (ix_vcall 6 2 0 0 mc ms (sp_X6_isAtPeace G) (ix_iload 2 (ix_icmp_ne (ix_aload 0 (ix_getR 11 6 (ix_dupR (ix_getI 6 13 (ix_pushI 1 (ix_iload 1 (ix_ishl (ix_ixor (ix_putI 6 13 (ix_aload 0 (ix_vcall 11 1 0 0 mc ms (sp_X11_grant G) (ix_zret mc ms Q)))))))))))) (ix_aload 0 (ix_pushI 7 (ix_vcall 11 2 0 0 mc ms (sp_X11_deny G) (ix_zret mc ms Q)))))))))) (ix_aload 0 (ix_pushI 1 (ix_vcall 11 2 0 0 mc ms (sp_X11_deny G) (ix_zret mc ms Q)))))))
theorem b_X11_peace_0 {l : Launch} {G : GT} {D mc ms : Nat} {Q : Post} : Imp l G M_X11_peace (D + 3) mc ms Q (B_X11_peace_0 G mc ms Q) 0 := sx_aload_n dX11_peace_0 rfl (sx_iload_n dX11_peace_1 rfl (sx_vcall dX11_peace_2 cf_X11_isWall (mg_4 (List.mem_of_getElem? (i := 190) rfl) rfl) (mg_4 (List.mem_of_getElem? (i := 192) rfl) rfl) (mg_p (List.mem_of_getElem? (i := 25) rfl) rfl) rfl c_X11_isWall (sx_if_ne 14 dX11_peace_5 (by decide) (sx_aload_n dX11_peace_14 rfl (sx_getR dX11_peace_15 fl_FootQuarrel_46 (fun _ _ _ => rfl) (sx_iload_n dX11_peace_18 rfl (sx_vcall dX11_peace_19 cf_X6_isAtPeace (mg_5 (List.mem_of_getElem? (i := 98) rfl) rfl) (mg_4 (List.mem_of_getElem? (i := 239) rfl) rfl) (mg_5 (List.mem_of_getElem? (i := 0) rfl) rfl) rfl c_X6_isAtPeace (sx_iload_n dX11_peace_22 rfl (sx_icmp_ne 33 dX11_peace_23 (by decide) (sx_aload_n dX11_peace_33 rfl (sx_getR dX11_peace_34 fl_FootQuarrel_46 (fun _ _ _ => rfl) (sx_dupR dX11_peace_37 (sx_getI dX11_peace_38 fl_FootQuarrel_194 (fun _ _ _ => rfl) (sx_iconst dX11_peace_41 rfl (sx_iload_n dX11_peace_42 rfl (sx_ishl dX11_peace_43 (sx_ixor dX11_peace_44 (sx_putI dX11_peace_45 fl_FootQuarrel_194 (by decide) (fun _ _ _ => rfl) (fun _ => ⟨rfl, rfl⟩) (sx_aload_n dX11_peace_48 rfl (sx_vcall dX11_peace_49 cf_X11_grant (mg_3 (List.mem_of_getElem? (i := 96) rfl) rfl) (mg_3 (List.mem_of_getElem? (i := 98) rfl) rfl) (mg_p (List.mem_of_getElem? (i := 1) rfl) rfl) rfl c_X11_grant (sx_zret dX11_peace_52 rfl)))))))))))) (sx_aload_n dX11_peace_26 rfl (sx_bipush dX11_peace_27 rfl (sx_vcall dX11_peace_29 cf_X11_deny (mg_3 (List.mem_of_getElem? (i := 88) rfl) rfl) (mg_3 (List.mem_of_getElem? (i := 90) rfl) rfl) (mg_p (List.mem_of_getElem? (i := 0) rfl) rfl) rfl c_X11_deny (sx_zret dX11_peace_32 rfl)))))))))) (sx_aload_n dX11_peace_8 rfl (sx_iconst dX11_peace_9 rfl (sx_vcall dX11_peace_10 cf_X11_deny (mg_3 (List.mem_of_getElem? (i := 88) rfl) rfl) (mg_3 (List.mem_of_getElem? (i := 90) rfl) rfl) (mg_p (List.mem_of_getElem? (i := 0) rfl) rfl) rfl c_X11_deny (sx_zret dX11_peace_13 rfl)))))))
def sp_X11_peace (G : GT) : Sp := fun as S I J z Q => match as with
  | [.ref a0, .int a1, .int a2] => B_X11_peace_0 G 0 0 Q [some (.ref a0), some (.int a1), some (.int a2)] [] S I J z 0 0
  | _ => False
theorem c_X11_peace {l : Launch} {G : GT} {D : Nat} : ∀ as S I J z Q, sp_X11_peace G as S I J z Q → fqCall l G M_X11_peace (D + 3) 0 0 as S I J z Q := by
  intro as S I J z Q h
  unfold sp_X11_peace at h
  split at h
  · exact fq_enter _ (by decide +kernel) (Nat.le_of_ble_eq_true rfl) rfl (b_X11_peace_0 _ _ _ _ _ _ _ _ h)
  · exact h.elim
theorem dX11_move_0 : decode cX11_move 0 = .ok (.aload_n 0, 1) := by decide +kernel
theorem dX11_move_1 : decode cX11_move 1 = .ok (.iload_n 1, 1) := by decide +kernel
theorem dX11_move_2 : decode cX11_move 2 = .ok (.invokevirtual 233, 3) := by decide +kernel
theorem dX11_move_5 : decode cX11_move 5 = .ok (.ifCond .eq 11, 3) := by decide +kernel
theorem dX11_move_8 : decode cX11_move 8 = .ok (.aload_n 0, 1) := by decide +kernel
theorem dX11_move_9 : decode cX11_move 9 = .ok (.iload_n 2, 1) := by decide +kernel
theorem dX11_move_10 : decode cX11_move 10 = .ok (.invokevirtual 206, 3) := by decide +kernel
theorem dX11_move_13 : decode cX11_move 13 = .ok (.ifCond .ne 9, 3) := by decide +kernel
theorem dX11_move_16 : decode cX11_move 16 = .ok (.aload_n 0, 1) := by decide +kernel
theorem dX11_move_17 : decode cX11_move 17 = .ok (.iconst 1, 1) := by decide +kernel
theorem dX11_move_18 : decode cX11_move 18 = .ok (.invokevirtual 97, 3) := by decide +kernel
theorem dX11_move_21 : decode cX11_move 21 = .ok (.ireturn, 1) := by decide +kernel
theorem dX11_move_22 : decode cX11_move 22 = .ok (.aload_n 0, 1) := by decide +kernel
theorem dX11_move_23 : decode cX11_move 23 = .ok (.getfield 46, 3) := by decide +kernel
theorem dX11_move_26 : decode cX11_move 26 = .ok (.getfield 236, 3) := by decide +kernel
theorem dX11_move_29 : decode cX11_move 29 = .ok (.iload_n 1, 1) := by decide +kernel
theorem dX11_move_30 : decode cX11_move 30 = .ok (.aaload, 1) := by decide +kernel
theorem dX11_move_31 : decode cX11_move 31 = .ok (.astore_n 3, 1) := by decide +kernel
theorem dX11_move_32 : decode cX11_move 32 = .ok (.aload_n 3, 1) := by decide +kernel
theorem dX11_move_33 : decode cX11_move 33 = .ok (.getfield 240, 3) := by decide +kernel
theorem dX11_move_36 : decode cX11_move 36 = .ok (.istore 4, 2) := by decide +kernel
theorem dX11_move_38 : decode cX11_move 38 = .ok (.iload 4, 2) := by decide +kernel
theorem dX11_move_40 : decode cX11_move 40 = .ok (.iload_n 2, 1) := by decide +kernel
theorem dX11_move_41 : decode cX11_move 41 = .ok (.if_icmp .ne 10, 3) := by decide +kernel
theorem dX11_move_44 : decode cX11_move 44 = .ok (.aload_n 0, 1) := by decide +kernel
theorem dX11_move_45 : decode cX11_move 45 = .ok (.bipush 7, 2) := by decide +kernel
theorem dX11_move_47 : decode cX11_move 47 = .ok (.invokevirtual 97, 3) := by decide +kernel
theorem dX11_move_50 : decode cX11_move 50 = .ok (.ireturn, 1) := by decide +kernel
theorem dX11_move_51 : decode cX11_move 51 = .ok (.aload_n 3, 1) := by decide +kernel
theorem dX11_move_52 : decode cX11_move 52 = .ok (.iload_n 2, 1) := by decide +kernel
theorem dX11_move_53 : decode cX11_move 53 = .ok (.putfield 240, 3) := by decide +kernel
theorem dX11_move_56 : decode cX11_move 56 = .ok (.aload_n 0, 1) := by decide +kernel
theorem dX11_move_57 : decode cX11_move 57 = .ok (.iload 4, 2) := by decide +kernel
theorem dX11_move_59 : decode cX11_move 59 = .ok (.invokevirtual 142, 3) := by decide +kernel
theorem dX11_move_62 : decode cX11_move 62 = .ok (.ireturn, 1) := by decide +kernel
abbrev M_X11_move : MT := (yX11_move, cX11_move, 5, (some .int))
theorem cf_X11_move : fq_cf M_X11_move 2 := ⟨(mg_1 (List.mem_of_getElem? (i := 1) rfl) rfl), (mg_5 (List.mem_of_getElem? (i := 102) rfl) rfl), ⟨by decide, by decide, by decide +kernel⟩, by decide⟩
def B_X11_move_16 (G : GT) (mc ms : Nat) (Q : Post) : Cn := ix_aload 0 (ix_pushI 1 (ix_vcall 11 2 0 0 mc ms (sp_X11_refuse G) (ix_iret mc ms Q)))
theorem b_X11_move_16 {l : Launch} {G : GT} {D mc ms : Nat} {Q : Post} : Imp l G M_X11_move (D + 2) mc ms Q (B_X11_move_16 G mc ms Q) 16 := sx_aload_n dX11_move_16 rfl (sx_iconst dX11_move_17 rfl (sx_vcall dX11_move_18 cf_X11_refuse (mg_3 (List.mem_of_getElem? (i := 120) rfl) rfl) (mg_3 (List.mem_of_getElem? (i := 122) rfl) rfl) (mg_p (List.mem_of_getElem? (i := 3) rfl) rfl) rfl c_X11_refuse (sx_iret dX11_move_21 rfl)))
def B_X11_move_0 (G : GT) (mc ms : Nat) (Q : Post) : Cn := ix_aload 0 (ix_iload 1 (ix_vcall 11 2 0 0 mc ms (sp_X11_isPerson G) (ix_if_eq ((B_X11_move_16 G mc ms Q)) (ix_aload 0 (ix_iload 2 (ix_vcall 11 2 0 0 mc ms (sp_X11_isHouse G) (ix_if_ne (ix_aload 0 (ix_getR 11 6 (ix_getR 6 1 (ix_iload 1 (ix_aald 17 (ix_astore 3 (ix_aload 3 (ix_getI 2 1 (ix_istore 4 (ix_iload 4 (ix_iload 2 (ix_icmp_ne (ix_aload 3 (ix_iload 2 (ix_putI 2 1 (ix_aload 0 (ix_iload 4 (ix_vcall 11 2 0 0 mc ms (sp_X11_answer G) (ix_iret mc ms Q))))))) (ix_aload 0 (ix_pushI 7 (ix_vcall 11 2 0 0 mc ms (sp_X11_refuse G) (ix_iret mc ms Q)))))))))))))))) ((B_X11_move_16 G mc ms Q)))))))))
theorem b_X11_move_0 {l : Launch} {G : GT} {D mc ms : Nat} {Q : Post} : Imp l G M_X11_move (D + 2) mc ms Q (B_X11_move_0 G mc ms Q) 0 := sx_aload_n dX11_move_0 rfl (sx_iload_n dX11_move_1 rfl (sx_vcall dX11_move_2 cf_X11_isPerson (mg_4 (List.mem_of_getElem? (i := 209) rfl) rfl) (mg_4 (List.mem_of_getElem? (i := 211) rfl) rfl) (mg_p (List.mem_of_getElem? (i := 26) rfl) rfl) rfl c_X11_isPerson (sx_if_eq 16 dX11_move_5 (by decide) (b_X11_move_16) (sx_aload_n dX11_move_8 rfl (sx_iload_n dX11_move_9 rfl (sx_vcall dX11_move_10 cf_X11_isHouse (mg_4 (List.mem_of_getElem? (i := 178) rfl) rfl) (mg_4 (List.mem_of_getElem? (i := 180) rfl) rfl) (mg_p (List.mem_of_getElem? (i := 24) rfl) rfl) rfl c_X11_isHouse (sx_if_ne 22 dX11_move_13 (by decide) (sx_aload_n dX11_move_22 rfl (sx_getR dX11_move_23 fl_FootQuarrel_46 (fun _ _ _ => rfl) (sx_getR dX11_move_26 fl_FootQuarrel_236 (fun _ _ _ => rfl) (sx_iload_n dX11_move_29 rfl (sx_aald dX11_move_30 (by decide) (by decide) rfl (sx_astore_n dX11_move_31 rfl (by decide) (sx_aload_n dX11_move_32 rfl (sx_getI dX11_move_33 fl_FootQuarrel_240 (fun _ _ _ => rfl) (sx_istore dX11_move_36 (by decide) (sx_iload dX11_move_38 (sx_iload_n dX11_move_40 rfl (sx_icmp_ne 51 dX11_move_41 (by decide) (sx_aload_n dX11_move_51 rfl (sx_iload_n dX11_move_52 rfl (sx_putI dX11_move_53 fl_FootQuarrel_240 (by decide) (fun _ _ _ => rfl) (fun _ => ⟨rfl, rfl⟩) (sx_aload_n dX11_move_56 rfl (sx_iload dX11_move_57 (sx_vcall dX11_move_59 cf_X11_answer (mg_4 (List.mem_of_getElem? (i := 72) rfl) rfl) (mg_4 (List.mem_of_getElem? (i := 74) rfl) rfl) (mg_p (List.mem_of_getElem? (i := 17) rfl) rfl) rfl c_X11_answer (sx_iret dX11_move_62 rfl))))))) (sx_aload_n dX11_move_44 rfl (sx_bipush dX11_move_45 rfl (sx_vcall dX11_move_47 cf_X11_refuse (mg_3 (List.mem_of_getElem? (i := 120) rfl) rfl) (mg_3 (List.mem_of_getElem? (i := 122) rfl) rfl) (mg_p (List.mem_of_getElem? (i := 3) rfl) rfl) rfl c_X11_refuse (sx_iret dX11_move_50 rfl)))))))))))))))) (b_X11_move_16))))))))
def sp_X11_move (G : GT) : Sp := fun as S I J z Q => match as with
  | [.ref a0, .int a1, .int a2] => B_X11_move_0 G 0 0 Q [some (.ref a0), some (.int a1), some (.int a2), none, none] [] S I J z 0 0
  | _ => False
theorem c_X11_move {l : Launch} {G : GT} {D : Nat} : ∀ as S I J z Q, sp_X11_move G as S I J z Q → fqCall l G M_X11_move (D + 2) 0 0 as S I J z Q := by
  intro as S I J z Q h
  unfold sp_X11_move at h
  split at h
  · exact fq_enter _ (by decide +kernel) (Nat.le_of_ble_eq_true rfl) rfl (b_X11_move_0 _ _ _ _ _ _ _ _ h)
  · exact h.elim
theorem dX11_change_0 : decode cX11_change 0 = .ok (.aload_n 0, 1) := by decide +kernel
theorem dX11_change_1 : decode cX11_change 1 = .ok (.iload_n 1, 1) := by decide +kernel
theorem dX11_change_2 : decode cX11_change 2 = .ok (.invokevirtual 233, 3) := by decide +kernel
theorem dX11_change_5 : decode cX11_change 5 = .ok (.ifCond .eq 29, 3) := by decide +kernel
theorem dX11_change_8 : decode cX11_change 8 = .ok (.iload_n 2, 1) := by decide +kernel
theorem dX11_change_9 : decode cX11_change 9 = .ok (.iconst 1, 1) := by decide +kernel
theorem dX11_change_10 : decode cX11_change 10 = .ok (.iconst 4, 1) := by decide +kernel
theorem dX11_change_11 : decode cX11_change 11 = .ok (.invokestatic 74, 3) := by decide +kernel
theorem dX11_change_14 : decode cX11_change 14 = .ok (.ifCond .eq 20, 3) := by decide +kernel
theorem dX11_change_17 : decode cX11_change 17 = .ok (.iload_n 3, 1) := by decide +kernel
theorem dX11_change_18 : decode cX11_change 18 = .ok (.getstatic 311, 3) := by decide +kernel
theorem dX11_change_21 : decode cX11_change 21 = .ok (.iload_n 2, 1) := by decide +kernel
theorem dX11_change_22 : decode cX11_change 22 = .ok (.iaload, 1) := by decide +kernel
theorem dX11_change_23 : decode cX11_change 23 = .ok (.getstatic 315, 3) := by decide +kernel
theorem dX11_change_26 : decode cX11_change 26 = .ok (.iload_n 2, 1) := by decide +kernel
theorem dX11_change_27 : decode cX11_change 27 = .ok (.iaload, 1) := by decide +kernel
theorem dX11_change_28 : decode cX11_change 28 = .ok (.invokestatic 74, 3) := by decide +kernel
theorem dX11_change_31 : decode cX11_change 31 = .ok (.ifCond .ne 9, 3) := by decide +kernel
theorem dX11_change_34 : decode cX11_change 34 = .ok (.aload_n 0, 1) := by decide +kernel
theorem dX11_change_35 : decode cX11_change 35 = .ok (.iconst 1, 1) := by decide +kernel
theorem dX11_change_36 : decode cX11_change 36 = .ok (.invokevirtual 78, 3) := by decide +kernel
theorem dX11_change_39 : decode cX11_change 39 = .ok (.ireturn, 1) := by decide +kernel
theorem dX11_change_40 : decode cX11_change 40 = .ok (.aload_n 0, 1) := by decide +kernel
theorem dX11_change_41 : decode cX11_change 41 = .ok (.getfield 46, 3) := by decide +kernel
theorem dX11_change_44 : decode cX11_change 44 = .ok (.getfield 236, 3) := by decide +kernel
theorem dX11_change_47 : decode cX11_change 47 = .ok (.iload_n 1, 1) := by decide +kernel
theorem dX11_change_48 : decode cX11_change 48 = .ok (.aaload, 1) := by decide +kernel
theorem dX11_change_49 : decode cX11_change 49 = .ok (.iload_n 2, 1) := by decide +kernel
theorem dX11_change_50 : decode cX11_change 50 = .ok (.iload_n 3, 1) := by decide +kernel
theorem dX11_change_51 : decode cX11_change 51 = .ok (.invokevirtual 318, 3) := by decide +kernel
theorem dX11_change_54 : decode cX11_change 54 = .ok (.aload_n 0, 1) := by decide +kernel
theorem dX11_change_55 : decode cX11_change 55 = .ok (.invokevirtual 85, 3) := by decide +kernel
theorem dX11_change_58 : decode cX11_change 58 = .ok (.ireturn, 1) := by decide +kernel
abbrev M_X11_change : MT := (yX11_change, cX11_change, 4, (some .boolean))
theorem cf_X11_change : fq_cf M_X11_change 3 := ⟨(mg_1 (List.mem_of_getElem? (i := 1) rfl) rfl), (mg_5 (List.mem_of_getElem? (i := 106) rfl) rfl), ⟨by decide, by decide, by decide +kernel⟩, by decide⟩
def B_X11_change_34 (G : GT) (mc ms : Nat) (Q : Post) : Cn := ix_aload 0 (ix_pushI 1 (ix_vcall 11 2 0 0 mc ms (sp_X11_deny G) (ix_zret mc ms Q)))
theorem b_X11_change_34 {l : Launch} {G : GT} {D mc ms : Nat} {Q : Post} : Imp l G M_X11_change (D + 2) mc ms Q (B_X11_change_34 G mc ms Q) 34 := sx_aload_n dX11_change_34 rfl (sx_iconst dX11_change_35 rfl (sx_vcall dX11_change_36 cf_X11_deny (mg_3 (List.mem_of_getElem? (i := 88) rfl) rfl) (mg_3 (List.mem_of_getElem? (i := 90) rfl) rfl) (mg_p (List.mem_of_getElem? (i := 0) rfl) rfl) rfl c_X11_deny (sx_zret dX11_change_39 rfl)))
def B_X11_change_0 (G : GT) (mc ms : Nat) (Q : Post) : Cn := ix_aload 0 (ix_iload 1 (ix_vcall 11 2 0 0 mc ms (sp_X11_isPerson G) (ix_if_eq ((B_X11_change_34 G mc ms Q)) (ix_iload 2 (ix_pushI 1 (ix_pushI 4 (ix_call 3 0 0 mc ms (sp_X11_isWithin G) (ix_if_eq ((B_X11_change_34 G mc ms Q)) (ix_iload 3 (ix_gtab G 0 (ix_iload 2 (ix_tald G 0 (ix_gtab G 1 (ix_iload 2 (ix_tald G 1 (ix_call 3 0 0 mc ms (sp_X11_isWithin G) (ix_if_ne (ix_aload 0 (ix_getR 11 6 (ix_getR 6 1 (ix_iload 1 (ix_aald 17 (ix_iload 2 (ix_iload 3 (ix_vcall 2 3 0 0 mc ms (sp_X2_setTrait G) (ix_aload 0 (ix_vcall 11 1 0 0 mc ms (sp_X11_grant G) (ix_zret mc ms Q))))))))))) ((B_X11_change_34 G mc ms Q)))))))))))))))))))
theorem b_X11_change_0 {l : Launch} {G : GT} {D mc ms : Nat} {Q : Post} : Imp l G M_X11_change (D + 2) mc ms Q (B_X11_change_0 G mc ms Q) 0 := sx_aload_n dX11_change_0 rfl (sx_iload_n dX11_change_1 rfl (sx_vcall dX11_change_2 cf_X11_isPerson (mg_4 (List.mem_of_getElem? (i := 209) rfl) rfl) (mg_4 (List.mem_of_getElem? (i := 211) rfl) rfl) (mg_p (List.mem_of_getElem? (i := 26) rfl) rfl) rfl c_X11_isPerson (sx_if_eq 34 dX11_change_5 (by decide) (b_X11_change_34) (sx_iload_n dX11_change_8 rfl (sx_iconst dX11_change_9 rfl (sx_iconst dX11_change_10 rfl (sx_scall dX11_change_11 cf_X11_isWithin (mg_3 (List.mem_of_getElem? (i := 85) rfl) rfl) (mg_3 (List.mem_of_getElem? (i := 86) rfl) rfl) c_X11_isWithin (sx_if_eq 34 dX11_change_14 (by decide) (b_X11_change_34) (sx_iload_n dX11_change_17 rfl (sx_gtab dX11_change_18 (by decide) (mg_5 (List.mem_of_getElem? (i := 107) rfl) rfl) (sx_iload_n dX11_change_21 rfl (sx_tald dX11_change_22 (by decide) (sx_gtab dX11_change_23 (by decide) (mg_5 (List.mem_of_getElem? (i := 108) rfl) rfl) (sx_iload_n dX11_change_26 rfl (sx_tald dX11_change_27 (by decide) (sx_scall dX11_change_28 cf_X11_isWithin (mg_3 (List.mem_of_getElem? (i := 85) rfl) rfl) (mg_3 (List.mem_of_getElem? (i := 86) rfl) rfl) c_X11_isWithin (sx_if_ne 40 dX11_change_31 (by decide) (sx_aload_n dX11_change_40 rfl (sx_getR dX11_change_41 fl_FootQuarrel_46 (fun _ _ _ => rfl) (sx_getR dX11_change_44 fl_FootQuarrel_236 (fun _ _ _ => rfl) (sx_iload_n dX11_change_47 rfl (sx_aald dX11_change_48 (by decide) (by decide) rfl (sx_iload_n dX11_change_49 rfl (sx_iload_n dX11_change_50 rfl (sx_vcall dX11_change_51 cf_X2_setTrait (mg_5 (List.mem_of_getElem? (i := 109) rfl) rfl) (mg_4 (List.mem_of_getElem? (i := 52) rfl) rfl) (mg_4 (List.mem_of_getElem? (i := 53) rfl) rfl) rfl c_X2_setTrait (sx_aload_n dX11_change_54 rfl (sx_vcall dX11_change_55 cf_X11_grant (mg_3 (List.mem_of_getElem? (i := 96) rfl) rfl) (mg_3 (List.mem_of_getElem? (i := 98) rfl) rfl) (mg_p (List.mem_of_getElem? (i := 1) rfl) rfl) rfl c_X11_grant (sx_zret dX11_change_58 rfl))))))))))) (b_X11_change_34))))))))))))))))))
def sp_X11_change (G : GT) : Sp := fun as S I J z Q => match as with
  | [.ref a0, .int a1, .int a2, .int a3] => B_X11_change_0 G 0 0 Q [some (.ref a0), some (.int a1), some (.int a2), some (.int a3)] [] S I J z 0 0
  | _ => False
theorem c_X11_change {l : Launch} {G : GT} {D : Nat} : ∀ as S I J z Q, sp_X11_change G as S I J z Q → fqCall l G M_X11_change (D + 2) 0 0 as S I J z Q := by
  intro as S I J z Q h
  unfold sp_X11_change at h
  split at h
  · exact fq_enter _ (by decide +kernel) (Nat.le_of_ble_eq_true rfl) rfl (b_X11_change_0 _ _ _ _ _ _ _ _ h)
  · exact h.elim
theorem dX11_lived_0 : decode cX11_lived 0 = .ok (.iload_n 1, 1) := by decide +kernel
theorem dX11_lived_1 : decode cX11_lived 1 = .ok (.iconst 0, 1) := by decide +kernel
theorem dX11_lived_2 : decode cX11_lived 2 = .ok (.iconst 4, 1) := by decide +kernel
theorem dX11_lived_3 : decode cX11_lived 3 = .ok (.invokestatic 74, 3) := by decide +kernel
theorem dX11_lived_6 : decode cX11_lived 6 = .ok (.ifCond .ne 9, 3) := by decide +kernel
theorem dX11_lived_9 : decode cX11_lived 9 = .ok (.aload_n 0, 1) := by decide +kernel
theorem dX11_lived_10 : decode cX11_lived 10 = .ok (.iconst 1, 1) := by decide +kernel
theorem dX11_lived_11 : decode cX11_lived 11 = .ok (.invokevirtual 97, 3) := by decide +kernel
theorem dX11_lived_14 : decode cX11_lived 14 = .ok (.ireturn, 1) := by decide +kernel
theorem dX11_lived_15 : decode cX11_lived 15 = .ok (.aload_n 0, 1) := by decide +kernel
theorem dX11_lived_16 : decode cX11_lived 16 = .ok (.getfield 39, 3) := by decide +kernel
theorem dX11_lived_19 : decode cX11_lived 19 = .ok (.getfield 416, 3) := by decide +kernel
theorem dX11_lived_22 : decode cX11_lived 22 = .ok (.ifCond .ne 10, 3) := by decide +kernel
theorem dX11_lived_25 : decode cX11_lived 25 = .ok (.aload_n 0, 1) := by decide +kernel
theorem dX11_lived_26 : decode cX11_lived 26 = .ok (.bipush 6, 2) := by decide +kernel
theorem dX11_lived_28 : decode cX11_lived 28 = .ok (.invokevirtual 97, 3) := by decide +kernel
theorem dX11_lived_31 : decode cX11_lived 31 = .ok (.ireturn, 1) := by decide +kernel
theorem dX11_lived_32 : decode cX11_lived 32 = .ok (.iload_n 1, 1) := by decide +kernel
theorem dX11_lived_33 : decode cX11_lived 33 = .ok (.tableswitch 79 0 3 #[31, 43, 55, 67], 31) := by decide +kernel
theorem dX11_lived_64 : decode cX11_lived 64 = .ok (.aload_n 0, 1) := by decide +kernel
theorem dX11_lived_65 : decode cX11_lived 65 = .ok (.aload_n 0, 1) := by decide +kernel
theorem dX11_lived_66 : decode cX11_lived 66 = .ok (.getfield 39, 3) := by decide +kernel
theorem dX11_lived_69 : decode cX11_lived 69 = .ok (.getfield 419, 3) := by decide +kernel
theorem dX11_lived_72 : decode cX11_lived 72 = .ok (.invokevirtual 142, 3) := by decide +kernel
theorem dX11_lived_75 : decode cX11_lived 75 = .ok (.ireturn, 1) := by decide +kernel
theorem dX11_lived_76 : decode cX11_lived 76 = .ok (.aload_n 0, 1) := by decide +kernel
theorem dX11_lived_77 : decode cX11_lived 77 = .ok (.aload_n 0, 1) := by decide +kernel
theorem dX11_lived_78 : decode cX11_lived 78 = .ok (.getfield 39, 3) := by decide +kernel
theorem dX11_lived_81 : decode cX11_lived 81 = .ok (.getfield 422, 3) := by decide +kernel
theorem dX11_lived_84 : decode cX11_lived 84 = .ok (.invokevirtual 142, 3) := by decide +kernel
theorem dX11_lived_87 : decode cX11_lived 87 = .ok (.ireturn, 1) := by decide +kernel
theorem dX11_lived_88 : decode cX11_lived 88 = .ok (.aload_n 0, 1) := by decide +kernel
theorem dX11_lived_89 : decode cX11_lived 89 = .ok (.aload_n 0, 1) := by decide +kernel
theorem dX11_lived_90 : decode cX11_lived 90 = .ok (.getfield 39, 3) := by decide +kernel
theorem dX11_lived_93 : decode cX11_lived 93 = .ok (.getfield 425, 3) := by decide +kernel
theorem dX11_lived_96 : decode cX11_lived 96 = .ok (.invokevirtual 142, 3) := by decide +kernel
theorem dX11_lived_99 : decode cX11_lived 99 = .ok (.ireturn, 1) := by decide +kernel
theorem dX11_lived_100 : decode cX11_lived 100 = .ok (.aload_n 0, 1) := by decide +kernel
theorem dX11_lived_101 : decode cX11_lived 101 = .ok (.aload_n 0, 1) := by decide +kernel
theorem dX11_lived_102 : decode cX11_lived 102 = .ok (.getfield 39, 3) := by decide +kernel
theorem dX11_lived_105 : decode cX11_lived 105 = .ok (.getfield 426, 3) := by decide +kernel
theorem dX11_lived_108 : decode cX11_lived 108 = .ok (.invokevirtual 142, 3) := by decide +kernel
theorem dX11_lived_111 : decode cX11_lived 111 = .ok (.ireturn, 1) := by decide +kernel
theorem dX11_lived_112 : decode cX11_lived 112 = .ok (.aload_n 0, 1) := by decide +kernel
theorem dX11_lived_113 : decode cX11_lived 113 = .ok (.aload_n 0, 1) := by decide +kernel
theorem dX11_lived_114 : decode cX11_lived 114 = .ok (.getfield 39, 3) := by decide +kernel
theorem dX11_lived_117 : decode cX11_lived 117 = .ok (.getfield 427, 3) := by decide +kernel
theorem dX11_lived_120 : decode cX11_lived 120 = .ok (.invokestatic 186, 3) := by decide +kernel
theorem dX11_lived_123 : decode cX11_lived 123 = .ok (.invokevirtual 142, 3) := by decide +kernel
theorem dX11_lived_126 : decode cX11_lived 126 = .ok (.ireturn, 1) := by decide +kernel
abbrev M_X11_lived : MT := (yX11_lived, cX11_lived, 2, (some .int))
theorem cf_X11_lived : fq_cf M_X11_lived 1 := ⟨(mg_1 (List.mem_of_getElem? (i := 1) rfl) rfl), (mg_6 (List.mem_of_getElem? (i := 144) rfl) rfl), ⟨by decide, by decide, by decide +kernel⟩, by decide⟩
def B_X11_lived_0 (G : GT) (mc ms : Nat) (Q : Post) : Cn := ix_iload 1 (ix_pushI 0 (ix_pushI 4 (ix_call 3 0 0 mc ms (sp_X11_isWithin G) (ix_if_ne (ix_aload 0 (ix_getR 11 4 (ix_getI 1 10 (ix_if_ne (ix_iload 1 (ix_tsw 0 [ix_aload 0 (ix_aload 0 (ix_getR 11 4 (ix_getI 1 5 (ix_vcall 11 2 0 0 mc ms (sp_X11_answer G) (ix_iret mc ms Q))))), ix_aload 0 (ix_aload 0 (ix_getR 11 4 (ix_getI 1 6 (ix_vcall 11 2 0 0 mc ms (sp_X11_answer G) (ix_iret mc ms Q))))), ix_aload 0 (ix_aload 0 (ix_getR 11 4 (ix_getI 1 7 (ix_vcall 11 2 0 0 mc ms (sp_X11_answer G) (ix_iret mc ms Q))))), ix_aload 0 (ix_aload 0 (ix_getR 11 4 (ix_getI 1 8 (ix_vcall 11 2 0 0 mc ms (sp_X11_answer G) (ix_iret mc ms Q)))))] (ix_aload 0 (ix_aload 0 (ix_getR 11 4 (ix_getI 1 9 (ix_call 1 0 0 mc ms (sp_X11_oneIf G) (ix_vcall 11 2 0 0 mc ms (sp_X11_answer G) (ix_iret mc ms Q))))))))) (ix_aload 0 (ix_pushI 6 (ix_vcall 11 2 0 0 mc ms (sp_X11_refuse G) (ix_iret mc ms Q)))))))) (ix_aload 0 (ix_pushI 1 (ix_vcall 11 2 0 0 mc ms (sp_X11_refuse G) (ix_iret mc ms Q))))))))
theorem b_X11_lived_0 {l : Launch} {G : GT} {D mc ms : Nat} {Q : Post} : Imp l G M_X11_lived (D + 1) mc ms Q (B_X11_lived_0 G mc ms Q) 0 := sx_iload_n dX11_lived_0 rfl (sx_iconst dX11_lived_1 rfl (sx_iconst dX11_lived_2 rfl (sx_scall dX11_lived_3 cf_X11_isWithin (mg_3 (List.mem_of_getElem? (i := 85) rfl) rfl) (mg_3 (List.mem_of_getElem? (i := 86) rfl) rfl) c_X11_isWithin (sx_if_ne 15 dX11_lived_6 (by decide) (sx_aload_n dX11_lived_15 rfl (sx_getR dX11_lived_16 fl_FootQuarrel_39 (fun _ _ _ => rfl) (sx_getI dX11_lived_19 fl_FootQuarrel_416 (fun _ _ _ => rfl) (sx_if_ne 32 dX11_lived_22 (by decide) (sx_iload_n dX11_lived_32 rfl (sx_tswA [64, 76, 88, 100] 112 dX11_lived_33 rfl (by decide) (by decide) (by decide) ⟨sx_aload_n dX11_lived_64 rfl (sx_aload_n dX11_lived_65 rfl (sx_getR dX11_lived_66 fl_FootQuarrel_39 (fun _ _ _ => rfl) (sx_getI dX11_lived_69 fl_FootQuarrel_419 (fun _ _ _ => rfl) (sx_vcall dX11_lived_72 cf_X11_answer (mg_4 (List.mem_of_getElem? (i := 72) rfl) rfl) (mg_4 (List.mem_of_getElem? (i := 74) rfl) rfl) (mg_p (List.mem_of_getElem? (i := 17) rfl) rfl) rfl c_X11_answer (sx_iret dX11_lived_75 rfl))))), ⟨sx_aload_n dX11_lived_76 rfl (sx_aload_n dX11_lived_77 rfl (sx_getR dX11_lived_78 fl_FootQuarrel_39 (fun _ _ _ => rfl) (sx_getI dX11_lived_81 fl_FootQuarrel_422 (fun _ _ _ => rfl) (sx_vcall dX11_lived_84 cf_X11_answer (mg_4 (List.mem_of_getElem? (i := 72) rfl) rfl) (mg_4 (List.mem_of_getElem? (i := 74) rfl) rfl) (mg_p (List.mem_of_getElem? (i := 17) rfl) rfl) rfl c_X11_answer (sx_iret dX11_lived_87 rfl))))), ⟨sx_aload_n dX11_lived_88 rfl (sx_aload_n dX11_lived_89 rfl (sx_getR dX11_lived_90 fl_FootQuarrel_39 (fun _ _ _ => rfl) (sx_getI dX11_lived_93 fl_FootQuarrel_425 (fun _ _ _ => rfl) (sx_vcall dX11_lived_96 cf_X11_answer (mg_4 (List.mem_of_getElem? (i := 72) rfl) rfl) (mg_4 (List.mem_of_getElem? (i := 74) rfl) rfl) (mg_p (List.mem_of_getElem? (i := 17) rfl) rfl) rfl c_X11_answer (sx_iret dX11_lived_99 rfl))))), ⟨sx_aload_n dX11_lived_100 rfl (sx_aload_n dX11_lived_101 rfl (sx_getR dX11_lived_102 fl_FootQuarrel_39 (fun _ _ _ => rfl) (sx_getI dX11_lived_105 fl_FootQuarrel_426 (fun _ _ _ => rfl) (sx_vcall dX11_lived_108 cf_X11_answer (mg_4 (List.mem_of_getElem? (i := 72) rfl) rfl) (mg_4 (List.mem_of_getElem? (i := 74) rfl) rfl) (mg_p (List.mem_of_getElem? (i := 17) rfl) rfl) rfl c_X11_answer (sx_iret dX11_lived_111 rfl))))), trivial⟩⟩⟩⟩ (sx_aload_n dX11_lived_112 rfl (sx_aload_n dX11_lived_113 rfl (sx_getR dX11_lived_114 fl_FootQuarrel_39 (fun _ _ _ => rfl) (sx_getI dX11_lived_117 fl_FootQuarrel_427 (fun _ _ _ => rfl) (sx_scall dX11_lived_120 cf_X11_oneIf (mg_4 (List.mem_of_getElem? (i := 163) rfl) rfl) (mg_4 (List.mem_of_getElem? (i := 164) rfl) rfl) c_X11_oneIf (sx_vcall dX11_lived_123 cf_X11_answer (mg_4 (List.mem_of_getElem? (i := 72) rfl) rfl) (mg_4 (List.mem_of_getElem? (i := 74) rfl) rfl) (mg_p (List.mem_of_getElem? (i := 17) rfl) rfl) rfl c_X11_answer (sx_iret dX11_lived_126 rfl))))))))) (sx_aload_n dX11_lived_25 rfl (sx_bipush dX11_lived_26 rfl (sx_vcall dX11_lived_28 cf_X11_refuse (mg_3 (List.mem_of_getElem? (i := 120) rfl) rfl) (mg_3 (List.mem_of_getElem? (i := 122) rfl) rfl) (mg_p (List.mem_of_getElem? (i := 3) rfl) rfl) rfl c_X11_refuse (sx_iret dX11_lived_31 rfl)))))))) (sx_aload_n dX11_lived_9 rfl (sx_iconst dX11_lived_10 rfl (sx_vcall dX11_lived_11 cf_X11_refuse (mg_3 (List.mem_of_getElem? (i := 120) rfl) rfl) (mg_3 (List.mem_of_getElem? (i := 122) rfl) rfl) (mg_p (List.mem_of_getElem? (i := 3) rfl) rfl) rfl c_X11_refuse (sx_iret dX11_lived_14 rfl))))))))
def sp_X11_lived (G : GT) : Sp := fun as S I J z Q => match as with
  | [.ref a0, .int a1] => B_X11_lived_0 G 0 0 Q [some (.ref a0), some (.int a1)] [] S I J z 0 0
  | _ => False
theorem c_X11_lived {l : Launch} {G : GT} {D : Nat} : ∀ as S I J z Q, sp_X11_lived G as S I J z Q → fqCall l G M_X11_lived (D + 1) 0 0 as S I J z Q := by
  intro as S I J z Q h
  unfold sp_X11_lived at h
  split at h
  · exact fq_enter _ (by decide +kernel) (Nat.le_of_ble_eq_true rfl) rfl (b_X11_lived_0 _ _ _ _ _ _ _ _ h)
  · exact h.elim
theorem dX11_pour_0 : decode cX11_pour 0 = .ok (.iload_n 1, 1) := by decide +kernel
theorem dX11_pour_1 : decode cX11_pour 1 = .ok (.invokestatic 70, 3) := by decide +kernel
theorem dX11_pour_4 : decode cX11_pour 4 = .ok (.ifCond .eq 24, 3) := by decide +kernel
theorem dX11_pour_7 : decode cX11_pour 7 = .ok (.iload_n 3, 1) := by decide +kernel
theorem dX11_pour_8 : decode cX11_pour 8 = .ok (.invokestatic 70, 3) := by decide +kernel
theorem dX11_pour_11 : decode cX11_pour 11 = .ok (.ifCond .eq 17, 3) := by decide +kernel
theorem dX11_pour_14 : decode cX11_pour 14 = .ok (.iload_n 2, 1) := by decide +kernel
theorem dX11_pour_15 : decode cX11_pour 15 = .ok (.ifCond .lt 13, 3) := by decide +kernel
theorem dX11_pour_18 : decode cX11_pour 18 = .ok (.iload 4, 2) := by decide +kernel
theorem dX11_pour_20 : decode cX11_pour 20 = .ok (.ifCond .lt 8, 3) := by decide +kernel
theorem dX11_pour_23 : decode cX11_pour 23 = .ok (.iload 5, 2) := by decide +kernel
theorem dX11_pour_25 : decode cX11_pour 25 = .ok (.ifCond .ge 9, 3) := by decide +kernel
theorem dX11_pour_28 : decode cX11_pour 28 = .ok (.aload_n 0, 1) := by decide +kernel
theorem dX11_pour_29 : decode cX11_pour 29 = .ok (.iconst 1, 1) := by decide +kernel
theorem dX11_pour_30 : decode cX11_pour 30 = .ok (.invokevirtual 78, 3) := by decide +kernel
theorem dX11_pour_33 : decode cX11_pour 33 = .ok (.ireturn, 1) := by decide +kernel
theorem dX11_pour_34 : decode cX11_pour 34 = .ok (.aload_n 0, 1) := by decide +kernel
theorem dX11_pour_35 : decode cX11_pour 35 = .ok (.getfield 11, 3) := by decide +kernel
theorem dX11_pour_38 : decode cX11_pour 38 = .ok (.iload_n 1, 1) := by decide +kernel
theorem dX11_pour_39 : decode cX11_pour 39 = .ok (.aaload, 1) := by decide +kernel
theorem dX11_pour_40 : decode cX11_pour 40 = .ok (.astore 6, 2) := by decide +kernel
theorem dX11_pour_42 : decode cX11_pour 42 = .ok (.aload_n 0, 1) := by decide +kernel
theorem dX11_pour_43 : decode cX11_pour 43 = .ok (.getfield 11, 3) := by decide +kernel
theorem dX11_pour_46 : decode cX11_pour 46 = .ok (.iload_n 3, 1) := by decide +kernel
theorem dX11_pour_47 : decode cX11_pour 47 = .ok (.aaload, 1) := by decide +kernel
theorem dX11_pour_48 : decode cX11_pour 48 = .ok (.astore 7, 2) := by decide +kernel
theorem dX11_pour_50 : decode cX11_pour 50 = .ok (.aload 6, 2) := by decide +kernel
theorem dX11_pour_52 : decode cX11_pour 52 = .ok (.invokevirtual 105, 3) := by decide +kernel
theorem dX11_pour_55 : decode cX11_pour 55 = .ok (.ifCond .ne 11, 3) := by decide +kernel
theorem dX11_pour_58 : decode cX11_pour 58 = .ok (.aload 7, 2) := by decide +kernel
theorem dX11_pour_60 : decode cX11_pour 60 = .ok (.invokevirtual 105, 3) := by decide +kernel
theorem dX11_pour_63 : decode cX11_pour 63 = .ok (.ifCond .eq 9, 3) := by decide +kernel
theorem dX11_pour_66 : decode cX11_pour 66 = .ok (.aload_n 0, 1) := by decide +kernel
theorem dX11_pour_67 : decode cX11_pour 67 = .ok (.iconst 2, 1) := by decide +kernel
theorem dX11_pour_68 : decode cX11_pour 68 = .ok (.invokevirtual 78, 3) := by decide +kernel
theorem dX11_pour_71 : decode cX11_pour 71 = .ok (.ireturn, 1) := by decide +kernel
theorem dX11_pour_72 : decode cX11_pour 72 = .ok (.aload 6, 2) := by decide +kernel
theorem dX11_pour_74 : decode cX11_pour 74 = .ok (.getfield 108, 3) := by decide +kernel
theorem dX11_pour_77 : decode cX11_pour 77 = .ok (.aload 7, 2) := by decide +kernel
theorem dX11_pour_79 : decode cX11_pour 79 = .ok (.getfield 108, 3) := by decide +kernel
theorem dX11_pour_82 : decode cX11_pour 82 = .ok (.if_icmp .eq 10, 3) := by decide +kernel
theorem dX11_pour_85 : decode cX11_pour 85 = .ok (.aload_n 0, 1) := by decide +kernel
theorem dX11_pour_86 : decode cX11_pour 86 = .ok (.bipush 8, 2) := by decide +kernel
theorem dX11_pour_88 : decode cX11_pour 88 = .ok (.invokevirtual 78, 3) := by decide +kernel
theorem dX11_pour_91 : decode cX11_pour 91 = .ok (.ireturn, 1) := by decide +kernel
theorem dX11_pour_92 : decode cX11_pour 92 = .ok (.aload 6, 2) := by decide +kernel
theorem dX11_pour_94 : decode cX11_pour 94 = .ok (.iload_n 2, 1) := by decide +kernel
theorem dX11_pour_95 : decode cX11_pour 95 = .ok (.iload 5, 2) := by decide +kernel
theorem dX11_pour_97 : decode cX11_pour 97 = .ok (.invokevirtual 111, 3) := by decide +kernel
theorem dX11_pour_100 : decode cX11_pour 100 = .ok (.ifCond .eq 15, 3) := by decide +kernel
theorem dX11_pour_103 : decode cX11_pour 103 = .ok (.aload 7, 2) := by decide +kernel
theorem dX11_pour_105 : decode cX11_pour 105 = .ok (.iload 4, 2) := by decide +kernel
theorem dX11_pour_107 : decode cX11_pour 107 = .ok (.iload 5, 2) := by decide +kernel
theorem dX11_pour_109 : decode cX11_pour 109 = .ok (.invokevirtual 111, 3) := by decide +kernel
theorem dX11_pour_112 : decode cX11_pour 112 = .ok (.ifCond .ne 9, 3) := by decide +kernel
theorem dX11_pour_115 : decode cX11_pour 115 = .ok (.aload_n 0, 1) := by decide +kernel
theorem dX11_pour_116 : decode cX11_pour 116 = .ok (.iconst 3, 1) := by decide +kernel
theorem dX11_pour_117 : decode cX11_pour 117 = .ok (.invokevirtual 78, 3) := by decide +kernel
theorem dX11_pour_120 : decode cX11_pour 120 = .ok (.ireturn, 1) := by decide +kernel
theorem dX11_pour_121 : decode cX11_pour 121 = .ok (.aload 6, 2) := by decide +kernel
theorem dX11_pour_123 : decode cX11_pour 123 = .ok (.getfield 101, 3) := by decide +kernel
theorem dX11_pour_126 : decode cX11_pour 126 = .ok (.iload_n 2, 1) := by decide +kernel
theorem dX11_pour_127 : decode cX11_pour 127 = .ok (.aload 7, 2) := by decide +kernel
theorem dX11_pour_129 : decode cX11_pour 129 = .ok (.getfield 101, 3) := by decide +kernel
theorem dX11_pour_132 : decode cX11_pour 132 = .ok (.iload 4, 2) := by decide +kernel
theorem dX11_pour_134 : decode cX11_pour 134 = .ok (.iload 5, 2) := by decide +kernel
theorem dX11_pour_136 : decode cX11_pour 136 = .ok (.invokestatic 115, 3) := by decide +kernel
theorem dX11_pour_139 : decode cX11_pour 139 = .ok (.aload_n 0, 1) := by decide +kernel
theorem dX11_pour_140 : decode cX11_pour 140 = .ok (.invokevirtual 85, 3) := by decide +kernel
theorem dX11_pour_143 : decode cX11_pour 143 = .ok (.ireturn, 1) := by decide +kernel
abbrev M_X11_pour : MT := (yX11_pour, cX11_pour, 8, (some .boolean))
theorem cf_X11_pour : fq_cf M_X11_pour 5 := ⟨(mg_1 (List.mem_of_getElem? (i := 1) rfl) rfl), (mg_3 (List.mem_of_getElem? (i := 127) rfl) rfl), ⟨by decide, by decide, by decide +kernel⟩, by decide⟩
def B_X11_pour_115 (G : GT) (mc ms : Nat) (Q : Post) : Cn := ix_aload 0 (ix_pushI 3 (ix_vcall 11 2 0 0 mc ms (sp_X11_deny G) (ix_zret mc ms Q)))
theorem b_X11_pour_115 {l : Launch} {G : GT} {D mc ms : Nat} {Q : Post} : Imp l G M_X11_pour (D + 2) mc ms Q (B_X11_pour_115 G mc ms Q) 115 := sx_aload_n dX11_pour_115 rfl (sx_iconst dX11_pour_116 rfl (sx_vcall dX11_pour_117 cf_X11_deny (mg_3 (List.mem_of_getElem? (i := 88) rfl) rfl) (mg_3 (List.mem_of_getElem? (i := 90) rfl) rfl) (mg_p (List.mem_of_getElem? (i := 0) rfl) rfl) rfl c_X11_deny (sx_zret dX11_pour_120 rfl)))
def B_X11_pour_66 (G : GT) (mc ms : Nat) (Q : Post) : Cn := ix_aload 0 (ix_pushI 2 (ix_vcall 11 2 0 0 mc ms (sp_X11_deny G) (ix_zret mc ms Q)))
theorem b_X11_pour_66 {l : Launch} {G : GT} {D mc ms : Nat} {Q : Post} : Imp l G M_X11_pour (D + 2) mc ms Q (B_X11_pour_66 G mc ms Q) 66 := sx_aload_n dX11_pour_66 rfl (sx_iconst dX11_pour_67 rfl (sx_vcall dX11_pour_68 cf_X11_deny (mg_3 (List.mem_of_getElem? (i := 88) rfl) rfl) (mg_3 (List.mem_of_getElem? (i := 90) rfl) rfl) (mg_p (List.mem_of_getElem? (i := 0) rfl) rfl) rfl c_X11_deny (sx_zret dX11_pour_71 rfl)))
def B_X11_pour_28 (G : GT) (mc ms : Nat) (Q : Post) : Cn := ix_aload 0 (ix_pushI 1 (ix_vcall 11 2 0 0 mc ms (sp_X11_deny G) (ix_zret mc ms Q)))
theorem b_X11_pour_28 {l : Launch} {G : GT} {D mc ms : Nat} {Q : Post} : Imp l G M_X11_pour (D + 2) mc ms Q (B_X11_pour_28 G mc ms Q) 28 := sx_aload_n dX11_pour_28 rfl (sx_iconst dX11_pour_29 rfl (sx_vcall dX11_pour_30 cf_X11_deny (mg_3 (List.mem_of_getElem? (i := 88) rfl) rfl) (mg_3 (List.mem_of_getElem? (i := 90) rfl) rfl) (mg_p (List.mem_of_getElem? (i := 0) rfl) rfl) rfl c_X11_deny (sx_zret dX11_pour_33 rfl)))
def B_X11_pour_0 (G : GT) (mc ms : Nat) (Q : Post) : Cn := ix_iload 1 (ix_call 1 0 0 mc ms (sp_X11_isTray G) (ix_if_eq ((B_X11_pour_28 G mc ms Q)) (ix_iload 3 (ix_call 1 0 0 mc ms (sp_X11_isTray G) (ix_if_eq ((B_X11_pour_28 G mc ms Q)) (ix_iload 2 (ix_if_lt ((B_X11_pour_28 G mc ms Q)) (ix_iload 4 (ix_if_lt ((B_X11_pour_28 G mc ms Q)) (ix_iload 5 (ix_if_ge (ix_aload 0 (ix_getR 11 0 (ix_iload 1 (ix_aald 20 (ix_astore 6 (ix_aload 0 (ix_getR 11 0 (ix_iload 3 (ix_aald 20 (ix_astore 7 (ix_aload 6 (ix_vcall 8 1 0 0 mc ms (sp_X8_isMissing G) (ix_if_ne ((B_X11_pour_66 G mc ms Q)) (ix_aload 7 (ix_vcall 8 1 0 0 mc ms (sp_X8_isMissing G) (ix_if_eq (ix_aload 6 (ix_getI 8 2 (ix_aload 7 (ix_getI 8 2 (ix_icmp_eq (ix_aload 6 (ix_iload 2 (ix_iload 5 (ix_vcall 8 3 0 0 mc ms (sp_X8_spans G) (ix_if_eq ((B_X11_pour_115 G mc ms Q)) (ix_aload 7 (ix_iload 4 (ix_iload 5 (ix_vcall 8 3 0 0 mc ms (sp_X8_spans G) (ix_if_ne (ix_aload 6 (ix_getR 8 0 (ix_iload 2 (ix_aload 7 (ix_getR 8 0 (ix_iload 4 (ix_iload 5 (ix_cpyJ (ix_aload 0 (ix_vcall 11 1 0 0 mc ms (sp_X11_grant G) (ix_zret mc ms Q))))))))))) ((B_X11_pour_115 G mc ms Q)))))))))))) (ix_aload 0 (ix_pushI 8 (ix_vcall 11 2 0 0 mc ms (sp_X11_deny G) (ix_zret mc ms Q))))))))) ((B_X11_pour_66 G mc ms Q)))))))))))))))))) ((B_X11_pour_28 G mc ms Q)))))))))))))
theorem b_X11_pour_0 {l : Launch} {G : GT} {D mc ms : Nat} {Q : Post} : Imp l G M_X11_pour (D + 2) mc ms Q (B_X11_pour_0 G mc ms Q) 0 := sx_iload_n dX11_pour_0 rfl (sx_scall dX11_pour_1 cf_X11_isTray (mg_3 (List.mem_of_getElem? (i := 82) rfl) rfl) (mg_3 (List.mem_of_getElem? (i := 83) rfl) rfl) c_X11_isTray (sx_if_eq 28 dX11_pour_4 (by decide) (b_X11_pour_28) (sx_iload_n dX11_pour_7 rfl (sx_scall dX11_pour_8 cf_X11_isTray (mg_3 (List.mem_of_getElem? (i := 82) rfl) rfl) (mg_3 (List.mem_of_getElem? (i := 83) rfl) rfl) c_X11_isTray (sx_if_eq 28 dX11_pour_11 (by decide) (b_X11_pour_28) (sx_iload_n dX11_pour_14 rfl (sx_if_lt 28 dX11_pour_15 (by decide) (b_X11_pour_28) (sx_iload dX11_pour_18 (sx_if_lt 28 dX11_pour_20 (by decide) (b_X11_pour_28) (sx_iload dX11_pour_23 (sx_if_ge 34 dX11_pour_25 (by decide) (sx_aload_n dX11_pour_34 rfl (sx_getR dX11_pour_35 fl_FootQuarrel_11 (fun _ _ _ => rfl) (sx_iload_n dX11_pour_38 rfl (sx_aald dX11_pour_39 (by decide) (by decide) rfl (sx_astore dX11_pour_40 (by decide) (sx_aload_n dX11_pour_42 rfl (sx_getR dX11_pour_43 fl_FootQuarrel_11 (fun _ _ _ => rfl) (sx_iload_n dX11_pour_46 rfl (sx_aald dX11_pour_47 (by decide) (by decide) rfl (sx_astore dX11_pour_48 (by decide) (sx_aload dX11_pour_50 (sx_vcall dX11_pour_52 cf_X8_isMissing (mg_3 (List.mem_of_getElem? (i := 108) rfl) rfl) (mg_3 (List.mem_of_getElem? (i := 109) rfl) rfl) (mg_3 (List.mem_of_getElem? (i := 110) rfl) rfl) rfl c_X8_isMissing (sx_if_ne 66 dX11_pour_55 (by decide) (b_X11_pour_66) (sx_aload dX11_pour_58 (sx_vcall dX11_pour_60 cf_X8_isMissing (mg_3 (List.mem_of_getElem? (i := 108) rfl) rfl) (mg_3 (List.mem_of_getElem? (i := 109) rfl) rfl) (mg_3 (List.mem_of_getElem? (i := 110) rfl) rfl) rfl c_X8_isMissing (sx_if_eq 72 dX11_pour_63 (by decide) (sx_aload dX11_pour_72 (sx_getI dX11_pour_74 fl_FootQuarrel_108 (fun _ _ _ => rfl) (sx_aload dX11_pour_77 (sx_getI dX11_pour_79 fl_FootQuarrel_108 (fun _ _ _ => rfl) (sx_icmp_eq 92 dX11_pour_82 (by decide) (sx_aload dX11_pour_92 (sx_iload_n dX11_pour_94 rfl (sx_iload dX11_pour_95 (sx_vcall dX11_pour_97 cf_X8_spans (mg_3 (List.mem_of_getElem? (i := 128) rfl) rfl) (mg_3 (List.mem_of_getElem? (i := 129) rfl) rfl) (mg_3 (List.mem_of_getElem? (i := 130) rfl) rfl) rfl c_X8_spans (sx_if_eq 115 dX11_pour_100 (by decide) (b_X11_pour_115) (sx_aload dX11_pour_103 (sx_iload dX11_pour_105 (sx_iload dX11_pour_107 (sx_vcall dX11_pour_109 cf_X8_spans (mg_3 (List.mem_of_getElem? (i := 128) rfl) rfl) (mg_3 (List.mem_of_getElem? (i := 129) rfl) rfl) (mg_3 (List.mem_of_getElem? (i := 130) rfl) rfl) rfl c_X8_spans (sx_if_ne 121 dX11_pour_112 (by decide) (sx_aload dX11_pour_121 (sx_getR dX11_pour_123 fl_FootQuarrel_101 (fun _ _ _ => rfl) (sx_iload_n dX11_pour_126 rfl (sx_aload dX11_pour_127 (sx_getR dX11_pour_129 fl_FootQuarrel_101 (fun _ _ _ => rfl) (sx_iload dX11_pour_132 (sx_iload dX11_pour_134 (sx_cpyJ dX11_pour_136 (mg_3 (List.mem_of_getElem? (i := 132) rfl) rfl) (mg_3 (List.mem_of_getElem? (i := 134) rfl) rfl) (mg_3 (List.mem_of_getElem? (i := 133) rfl) rfl) (mg_1 (List.mem_of_getElem? (i := 16) rfl) rfl) (sx_aload_n dX11_pour_139 rfl (sx_vcall dX11_pour_140 cf_X11_grant (mg_3 (List.mem_of_getElem? (i := 96) rfl) rfl) (mg_3 (List.mem_of_getElem? (i := 98) rfl) rfl) (mg_p (List.mem_of_getElem? (i := 1) rfl) rfl) rfl c_X11_grant (sx_zret dX11_pour_143 rfl))))))))))) (b_X11_pour_115))))))))))) (sx_aload_n dX11_pour_85 rfl (sx_bipush dX11_pour_86 rfl (sx_vcall dX11_pour_88 cf_X11_deny (mg_3 (List.mem_of_getElem? (i := 88) rfl) rfl) (mg_3 (List.mem_of_getElem? (i := 90) rfl) rfl) (mg_p (List.mem_of_getElem? (i := 0) rfl) rfl) rfl c_X11_deny (sx_zret dX11_pour_91 rfl))))))))) (b_X11_pour_66))))))))))))))))) (b_X11_pour_28))))))))))))
def sp_X11_pour (G : GT) : Sp := fun as S I J z Q => match as with
  | [.ref a0, .int a1, .int a2, .int a3, .int a4, .int a5] => B_X11_pour_0 G 0 0 Q [some (.ref a0), some (.int a1), some (.int a2), some (.int a3), some (.int a4), some (.int a5), none, none] [] S I J z 0 0
  | _ => False
theorem c_X11_pour {l : Launch} {G : GT} {D : Nat} : ∀ as S I J z Q, sp_X11_pour G as S I J z Q → fqCall l G M_X11_pour (D + 2) 0 0 as S I J z Q := by
  intro as S I J z Q h
  unfold sp_X11_pour at h
  split at h
  · exact fq_enter _ (by decide +kernel) (Nat.le_of_ble_eq_true rfl) rfl (b_X11_pour_0 _ _ _ _ _ _ _ _ h)
  · exact h.elim
theorem dX11_feedOne_0 : decode cX11_feedOne 0 = .ok (.bipush 24, 2) := by decide +kernel
theorem dX11_feedOne_2 : decode cX11_feedOne 2 = .ok (.istore_n 2, 1) := by decide +kernel
theorem dX11_feedOne_3 : decode cX11_feedOne 3 = .ok (.iload_n 2, 1) := by decide +kernel
theorem dX11_feedOne_4 : decode cX11_feedOne 4 = .ok (.ifCond .lt 32, 3) := by decide +kernel
theorem dX11_feedOne_7 : decode cX11_feedOne 7 = .ok (.aload_n 0, 1) := by decide +kernel
theorem dX11_feedOne_8 : decode cX11_feedOne 8 = .ok (.getfield 16, 3) := by decide +kernel
theorem dX11_feedOne_11 : decode cX11_feedOne 11 = .ok (.aload_n 0, 1) := by decide +kernel
theorem dX11_feedOne_12 : decode cX11_feedOne 12 = .ok (.getfield 121, 3) := by decide +kernel
theorem dX11_feedOne_15 : decode cX11_feedOne 15 = .ok (.iload_n 1, 1) := by decide +kernel
theorem dX11_feedOne_16 : decode cX11_feedOne 16 = .ok (.iload_n 2, 1) := by decide +kernel
theorem dX11_feedOne_17 : decode cX11_feedOne 17 = .ok (.ishr, 1) := by decide +kernel
theorem dX11_feedOne_18 : decode cX11_feedOne 18 = .ok (.i2b, 1) := by decide +kernel
theorem dX11_feedOne_19 : decode cX11_feedOne 19 = .ok (.bastore, 1) := by decide +kernel
theorem dX11_feedOne_20 : decode cX11_feedOne 20 = .ok (.aload_n 0, 1) := by decide +kernel
theorem dX11_feedOne_21 : decode cX11_feedOne 21 = .ok (.dup, 1) := by decide +kernel
theorem dX11_feedOne_22 : decode cX11_feedOne 22 = .ok (.getfield 121, 3) := by decide +kernel
theorem dX11_feedOne_25 : decode cX11_feedOne 25 = .ok (.iconst 1, 1) := by decide +kernel
theorem dX11_feedOne_26 : decode cX11_feedOne 26 = .ok (.iadd, 1) := by decide +kernel
theorem dX11_feedOne_27 : decode cX11_feedOne 27 = .ok (.putfield 121, 3) := by decide +kernel
theorem dX11_feedOne_30 : decode cX11_feedOne 30 = .ok (.iinc 2 (-8), 3) := by decide +kernel
theorem dX11_feedOne_33 : decode cX11_feedOne 33 = .ok (.goto (-30), 3) := by decide +kernel
theorem dX11_feedOne_36 : decode cX11_feedOne 36 = .ok (.return_, 1) := by decide +kernel
abbrev M_X11_feedOne : MT := (yX11_feedOne, cX11_feedOne, 3, none)
theorem cf_X11_feedOne : fq_cf M_X11_feedOne 1 := ⟨(mg_1 (List.mem_of_getElem? (i := 1) rfl) rfl), (mg_3 (List.mem_of_getElem? (i := 142) rfl) rfl), ⟨by decide, by decide, by decide +kernel⟩, by decide⟩
def B_X11_feedOne_3 (l : Launch) (G : GT) (D mc ms : Nat) (Q : Post) : Cn := ix_iload 2 (ix_if_lt (ix_vret mc ms Q) (ix_aload 0 (ix_getR 11 1 (ix_aload 0 (ix_getI 11 8 (ix_iload 1 (ix_iload 2 (ix_ishr (ix_i2b (ix_bast (ix_aload 0 (ix_dupR (ix_getI 11 8 (ix_pushI 1 (ix_iadd (ix_putI 11 8 (ix_iinc 2 (-8) (fqAt l G M_X11_feedOne (D + 0) mc ms Q 3))))))))))))))))))
theorem b_X11_feedOne_3 {l : Launch} {G : GT} {D mc ms : Nat} {Q : Post} : Imp l G M_X11_feedOne (D + 0) mc ms Q (B_X11_feedOne_3 l G D mc ms Q) 3 := sx_iload_n dX11_feedOne_3 rfl (sx_if_lt 36 dX11_feedOne_4 (by decide) (sx_vret dX11_feedOne_36 rfl) (sx_aload_n dX11_feedOne_7 rfl (sx_getR dX11_feedOne_8 fl_FootQuarrel_16 (fun _ _ _ => rfl) (sx_aload_n dX11_feedOne_11 rfl (sx_getI dX11_feedOne_12 fl_FootQuarrel_121 (fun _ _ _ => rfl) (sx_iload_n dX11_feedOne_15 rfl (sx_iload_n dX11_feedOne_16 rfl (sx_ishr dX11_feedOne_17 (sx_i2b dX11_feedOne_18 (sx_bast dX11_feedOne_19 (sx_aload_n dX11_feedOne_20 rfl (sx_dupR dX11_feedOne_21 (sx_getI dX11_feedOne_22 fl_FootQuarrel_121 (fun _ _ _ => rfl) (sx_iconst dX11_feedOne_25 rfl (sx_iadd dX11_feedOne_26 (sx_putI dX11_feedOne_27 fl_FootQuarrel_121 (by decide) (fun _ _ _ => rfl) (fun _ => ⟨rfl, rfl⟩) (sx_iinc dX11_feedOne_30 rfl (by decide) (sx_goto 3 dX11_feedOne_33 (by decide) ((fun _ _ _ _ _ _ _ _ h => h))))))))))))))))))))
def B_X11_feedOne_0 (l : Launch) (G : GT) (D mc ms : Nat) (Q : Post) : Cn := ix_pushI 24 (ix_istore 2 (fqAt l G M_X11_feedOne (D + 0) mc ms Q 3))
theorem b_X11_feedOne_0 {l : Launch} {G : GT} {D mc ms : Nat} {Q : Post} : Imp l G M_X11_feedOne (D + 0) mc ms Q (B_X11_feedOne_0 l G D mc ms Q) 0 := sx_bipush dX11_feedOne_0 rfl (sx_istore_n dX11_feedOne_2 rfl (by decide) ((fun _ _ _ _ _ _ _ _ h => h)))
/-- four letters more on the tape -/
def fdI (I : IH) (T n : Nat) (v : Int32) : IH := u2 (u2 (u2 (u2 I T n (v >>> (24 &&& 31)).toInt8.toInt32) T (n + 1) (v >>> (16 &&& 31)).toInt8.toInt32) T (n + 2) (v >>> (8 &&& 31)).toInt8.toInt32) T (n + 3) (v >>> (0 &&& 31)).toInt8.toInt32
def sp_X11_feedOne (G : GT) : Sp := fun as S I J z Q => match as with
  | [.ref X, .int v] => S.1 X = 11 ∧ ∃ T n, S.2.2 X 1 = some T ∧ S.1 T = 13 ∧ S.2.1 T = 900 ∧ X < T ∧ I X 8 = nI n ∧ n + 4 ≤ 900 ∧ Q none S (u2 (fdI I T n v) X 8 (nI (n + 4))) J z
  | _ => False
theorem fd_c (F : IH) {T m X : Nat} {b c d : Int32} (h : X < T) : u2 (u2 (u2 F X 8 d) T m b) X 8 c = u2 (u2 F T m b) X 8 c := by
  funext q k
  unfold u2
  by_cases h1 : q = X ∧ k = 8
  · rw [if_pos h1, if_pos h1]
  · rw [if_neg h1, if_neg h1, if_neg h1]
theorem fd_r {F : IH} {T m X : Nat} {b : Int32} (h : X < T) : u2 F T m b X 8 = F X 8 := by
  unfold u2
  rw [if_neg (by omega)]
theorem fd_0 {F : IH} {X : Nat} {b : Int32} : u2 F X 8 b X 8 = b := by
  unfold u2
  rw [if_pos ⟨rfl, rfl⟩]
theorem fd_n (x : Int32) : vp_nar FieldType.byte x.toInt8.toInt32 = x.toInt8.toInt32 := by
  show x.toInt8.toInt32.toInt8.toInt32 = _
  rw [Int8.toInt8_toInt32]
set_option maxHeartbeats 4000000 in
set_option maxRecDepth 20000 in
theorem c_X11_feedOne {l : Launch} {G : GT} {D : Nat} : ∀ as S I J z Q, sp_X11_feedOne G as S I J z Q → fqCall l G M_X11_feedOne (D + 0) 0 0 as S I J z Q := by
  intro as S I J z Q h
  unfold sp_X11_feedOne at h
  split at h
  · next X v =>
    obtain ⟨x1, T, n, x2, t1, t2, hT, hn, hn9, hQ⟩ := h
    have st : ∀ (sh : Int32) (m : Nat) (F : IH) (a : Int32), ¬ sh < 0 → m < 900 → a = nI m → fqAt l G M_X11_feedOne (D + 0) 0 0 Q 3 [some (.ref X), some (.int v), some (.int (sh + -8))] [] S (u2 (u2 F T m (v >>> (sh &&& 31)).toInt8.toInt32) X 8 (nI (m + 1))) J z 0 0 → fqAt l G M_X11_feedOne (D + 0) 0 0 Q 3 [some (.ref X), some (.int v), some (.int sh)] [] S (u2 F X 8 a) J z 0 0 := by
      intro sh m F a h1 h2 h3 hq
      subst h3
      rw [← fd_c F hT] at hq
      refine b_X11_feedOne_3 _ _ _ _ _ _ _ _ ?_
      simp (disch := omega) only [B_X11_feedOne_0, B_X11_feedOne_3, x1, x2, t1, t2, fd_r hT, fd_0, fd_n, nI_1, nI_add, nI_clamp, nI_pin, nI_neg, nI_nonneg, nI_leE, nI_ltE, nI_eqE, Nat.not_le, Nat.not_lt, fq_10, fq_01, fq_rr, ix_aald, ix_aast, ix_abs, ix_alen, ix_aload, ix_aret, ix_astore, ix_bald, ix_bast, ix_call, ix_cpyI, ix_cpyJ, ix_dead, ix_dup2, ix_dup2L, ix_dupI, ix_dupR, ix_dupx1, ix_getI, ix_getJ, ix_getR, ix_gfm, ix_gtab, ix_i2b, ix_i2c, ix_i2l, ix_i2s, ix_iadd, ix_iald, ix_iand, ix_iast, ix_icall, ix_icmp_eq, ix_icmp_ge, ix_icmp_gt, ix_icmp_le, ix_icmp_lt, ix_icmp_ne, ix_idiv, ix_if_eq, ix_if_ge, ix_if_gt, ix_if_le, ix_if_lt, ix_if_ne, ix_iinc, ix_iload, ix_imul, ix_ineg, ix_ior, ix_irem, ix_iret, ix_ishl, ix_ishr, ix_istore, ix_isub, ix_iushr, ix_ixor, ix_l2i, ix_ladd, ix_lald, ix_land, ix_last, ix_lcmp, ix_ldcS, ix_ldiv, ix_lload, ix_lmul, ix_lor, ix_lrem, ix_lret, ix_lshl, ix_lstore, ix_lsub, ix_lsw, ix_max, ix_min, ix_new, ix_newa, ix_nret, ix_oinit, ix_pop2L, ix_popI, ix_pushI, ix_pushL, ix_putI, ix_putJ, ix_putR, ix_putZ, ix_sbald, ix_sgetC, ix_sgetV, ix_slen, ix_strc, ix_tald, ix_tsw, ix_vcall, ix_vret, ix_zret, stL, stL2, kilL, popN, fq_sw, fq_lsw, List.map_cons, List.map_nil, List.getElem?_cons_zero, List.getElem?_cons_succ, Option.toList_some, Option.toList_none, List.cons_append, List.nil_append, List.length_cons, List.length_nil, List.sum_cons, List.sum_nil, cat_i, cat_l, cat_r, true_and, and_true, Nat.zero_add, Nat.add_zero, Nat.le_refl, Nat.zero_le, Nat.reduceAdd, Nat.reduceLeDiff, exists_eq_left', Option.some.injEq, not_true_eq_false, not_false_eq_true, false_implies, true_implies, implies_true, and_self, or_true, true_or, or_false, false_or]
      exact ⟨fun h => absurd h h1, fun _ => hq⟩
    refine fq_enter [some (.ref X), some (.int v), none] (by decide +kernel) (Nat.le_of_ble_eq_true rfl) rfl (b_X11_feedOne_0 _ _ _ _ _ _ _ _ ?_)
    simp (disch := omega) only [B_X11_feedOne_0, B_X11_feedOne_3, x1, x2, t1, t2, hn, nI_1, nI_add, nI_clamp, nI_pin, nI_neg, nI_nonneg, nI_leE, nI_ltE, nI_eqE, Nat.not_le, Nat.not_lt, fq_10, fq_01, fq_rr, ix_aald, ix_aast, ix_abs, ix_alen, ix_aload, ix_aret, ix_astore, ix_bald, ix_bast, ix_call, ix_cpyI, ix_cpyJ, ix_dead, ix_dup2, ix_dup2L, ix_dupI, ix_dupR, ix_dupx1, ix_getI, ix_getJ, ix_getR, ix_gfm, ix_gtab, ix_i2b, ix_i2c, ix_i2l, ix_i2s, ix_iadd, ix_iald, ix_iand, ix_iast, ix_icall, ix_icmp_eq, ix_icmp_ge, ix_icmp_gt, ix_icmp_le, ix_icmp_lt, ix_icmp_ne, ix_idiv, ix_if_eq, ix_if_ge, ix_if_gt, ix_if_le, ix_if_lt, ix_if_ne, ix_iinc, ix_iload, ix_imul, ix_ineg, ix_ior, ix_irem, ix_iret, ix_ishl, ix_ishr, ix_istore, ix_isub, ix_iushr, ix_ixor, ix_l2i, ix_ladd, ix_lald, ix_land, ix_last, ix_lcmp, ix_ldcS, ix_ldiv, ix_lload, ix_lmul, ix_lor, ix_lrem, ix_lret, ix_lshl, ix_lstore, ix_lsub, ix_lsw, ix_max, ix_min, ix_new, ix_newa, ix_nret, ix_oinit, ix_pop2L, ix_popI, ix_pushI, ix_pushL, ix_putI, ix_putJ, ix_putR, ix_putZ, ix_sbald, ix_sgetC, ix_sgetV, ix_slen, ix_strc, ix_tald, ix_tsw, ix_vcall, ix_vret, ix_zret, stL, stL2, kilL, popN, fq_sw, fq_lsw, List.map_cons, List.map_nil, List.getElem?_cons_zero, List.getElem?_cons_succ, Option.toList_some, Option.toList_none, List.cons_append, List.nil_append, List.length_cons, List.length_nil, List.sum_cons, List.sum_nil, cat_i, cat_l, cat_r, true_and, and_true, Nat.zero_add, Nat.add_zero, Nat.le_refl, Nat.zero_le, Nat.reduceAdd, Nat.reduceLeDiff, exists_eq_left', Option.some.injEq, not_true_eq_false, not_false_eq_true, false_implies, true_implies, implies_true, and_self, or_true, true_or, or_false, false_or]
    have e0 : u2 I X 8 (nI n) = I := by
      funext q k
      unfold u2
      split
      · next h => rw [h.1, h.2, hn]
      · rfl
    have hz := st 24 n I (nI n) (by decide) (by omega) rfl (st 16 (n + 1) _ _ (by decide) (by omega) rfl (st 8 (n + 2) _ _ (by decide) (by omega) rfl (st 0 (n + 3) _ _ (by decide) (by omega) rfl ?_)))
    · rw [e0] at hz
      exact hz
    · refine b_X11_feedOne_3 _ _ _ _ _ _ _ _ ?_
      simp (disch := omega) only [B_X11_feedOne_0, B_X11_feedOne_3, x1, x2, t1, t2, nI_1, nI_add, nI_clamp, nI_pin, nI_neg, nI_nonneg, nI_leE, nI_ltE, nI_eqE, Nat.not_le, Nat.not_lt, fq_10, fq_01, fq_rr, ix_aald, ix_aast, ix_abs, ix_alen, ix_aload, ix_aret, ix_astore, ix_bald, ix_bast, ix_call, ix_cpyI, ix_cpyJ, ix_dead, ix_dup2, ix_dup2L, ix_dupI, ix_dupR, ix_dupx1, ix_getI, ix_getJ, ix_getR, ix_gfm, ix_gtab, ix_i2b, ix_i2c, ix_i2l, ix_i2s, ix_iadd, ix_iald, ix_iand, ix_iast, ix_icall, ix_icmp_eq, ix_icmp_ge, ix_icmp_gt, ix_icmp_le, ix_icmp_lt, ix_icmp_ne, ix_idiv, ix_if_eq, ix_if_ge, ix_if_gt, ix_if_le, ix_if_lt, ix_if_ne, ix_iinc, ix_iload, ix_imul, ix_ineg, ix_ior, ix_irem, ix_iret, ix_ishl, ix_ishr, ix_istore, ix_isub, ix_iushr, ix_ixor, ix_l2i, ix_ladd, ix_lald, ix_land, ix_last, ix_lcmp, ix_ldcS, ix_ldiv, ix_lload, ix_lmul, ix_lor, ix_lrem, ix_lret, ix_lshl, ix_lstore, ix_lsub, ix_lsw, ix_max, ix_min, ix_new, ix_newa, ix_nret, ix_oinit, ix_pop2L, ix_popI, ix_pushI, ix_pushL, ix_putI, ix_putJ, ix_putR, ix_putZ, ix_sbald, ix_sgetC, ix_sgetV, ix_slen, ix_strc, ix_tald, ix_tsw, ix_vcall, ix_vret, ix_zret, stL, stL2, kilL, popN, fq_sw, fq_lsw, List.map_cons, List.map_nil, List.getElem?_cons_zero, List.getElem?_cons_succ, Option.toList_some, Option.toList_none, List.cons_append, List.nil_append, List.length_cons, List.length_nil, List.sum_cons, List.sum_nil, cat_i, cat_l, cat_r, true_and, and_true, Nat.zero_add, Nat.add_zero, Nat.le_refl, Nat.zero_le, Nat.reduceAdd, Nat.reduceLeDiff, exists_eq_left', Option.some.injEq, not_true_eq_false, not_false_eq_true, false_implies, true_implies, implies_true, and_self, or_true, true_or, or_false, false_or]
      exact ⟨fun _ => hQ, fun h => absurd (by decide) h⟩
  · exact h.elim
