/-! places of a wall -/
theorem bI_tr {h : Decidable True} : @bI True h = 1 := by
  unfold bI
  rw [if_pos trivial]
theorem bI_fl {h : Decidable False} : @bI False h = 0 := by
  unfold bI
  rw [if_neg id]
/-- the trays of an object at X -/
def trS (S : Sh) (X : Nat) : Prop := S.1 X = 11 ∧ S.2.2 X 0 = some (X + 1) ∧ S.1 (X + 1) = 20 ∧ S.2.1 (X + 1) = 4 ∧ ∀ i, i < 4 → S.2.2 (X + 1) i = some (X + 2 + 2 * i) ∧ S.1 (X + 2 + 2 * i) = 8 ∧ S.2.2 (X + 2 + 2 * i) 0 = some (X + 2 + 2 * i + 1) ∧ S.1 (X + 2 + 2 * i + 1) = 15 ∧ S.2.1 (X + 2 + 2 * i + 1) = 60
theorem trS.k {S : Sh} {X : Nat} (h : trS S X) : S.1 X = 11 := h.1
theorem trS.r {S : Sh} {X : Nat} (h : trS S X) : S.2.2 X 0 = some (X + 1) := h.2.1
theorem trS.k1 {S : Sh} {X : Nat} (h : trS S X) : S.1 (X + 1) = 20 := h.2.2.1
theorem trS.n1 {S : Sh} {X : Nat} (h : trS S X) : S.2.1 (X + 1) = 4 := h.2.2.2.1
theorem trS.ri {S : Sh} {X : Nat} (h : trS S X) (i : Nat) (hi : i < 4) : S.2.2 (X + 1) i = some (X + 2 + 2 * i) := (h.2.2.2.2 i hi).1
theorem trS.ki {S : Sh} {X : Nat} (h : trS S X) (i : Nat) (hi : i < 4) : S.1 (X + 2 + 2 * i) = 8 := (h.2.2.2.2 i hi).2.1
theorem trS.ci {S : Sh} {X : Nat} (h : trS S X) (i : Nat) (hi : i < 4) : S.2.2 (X + 2 + 2 * i) 0 = some (X + 2 + 2 * i + 1) := (h.2.2.2.2 i hi).2.2.1
theorem trS.kc {S : Sh} {X : Nat} (h : trS S X) (i : Nat) (hi : i < 4) : S.1 (X + 2 + 2 * i + 1) = 15 := (h.2.2.2.2 i hi).2.2.2.1
theorem trS.nc {S : Sh} {X : Nat} (h : trS S X) (i : Nat) (hi : i < 4) : S.2.1 (X + 2 + 2 * i + 1) = 60 := (h.2.2.2.2 i hi).2.2.2.2
theorem dX11_shoutsBetween_0 : decode cX11_shoutsBetween 0 = .ok (.aload_n 1, 1) := by decide +kernel
theorem dX11_shoutsBetween_1 : decode cX11_shoutsBetween 1 = .ok (.getfield 101, 3) := by decide +kernel
theorem dX11_shoutsBetween_4 : decode cX11_shoutsBetween 4 = .ok (.iload_n 2, 1) := by decide +kernel
theorem dX11_shoutsBetween_5 : decode cX11_shoutsBetween 5 = .ok (.laload, 1) := by decide +kernel
theorem dX11_shoutsBetween_6 : decode cX11_shoutsBetween 6 = .ok (.aload_n 1, 1) := by decide +kernel
theorem dX11_shoutsBetween_7 : decode cX11_shoutsBetween 7 = .ok (.getfield 101, 3) := by decide +kernel
theorem dX11_shoutsBetween_10 : decode cX11_shoutsBetween 10 = .ok (.iload_n 2, 1) := by decide +kernel
theorem dX11_shoutsBetween_11 : decode cX11_shoutsBetween 11 = .ok (.iconst 1, 1) := by decide +kernel
theorem dX11_shoutsBetween_12 : decode cX11_shoutsBetween 12 = .ok (.isub, 1) := by decide +kernel
theorem dX11_shoutsBetween_13 : decode cX11_shoutsBetween 13 = .ok (.laload, 1) := by decide +kernel
theorem dX11_shoutsBetween_14 : decode cX11_shoutsBetween 14 = .ok (.lsub, 1) := by decide +kernel
theorem dX11_shoutsBetween_15 : decode cX11_shoutsBetween 15 = .ok (.lstore_n 3, 1) := by decide +kernel
theorem dX11_shoutsBetween_16 : decode cX11_shoutsBetween 16 = .ok (.bipush (-3), 2) := by decide +kernel
theorem dX11_shoutsBetween_18 : decode cX11_shoutsBetween 18 = .ok (.istore 5, 2) := by decide +kernel
theorem dX11_shoutsBetween_20 : decode cX11_shoutsBetween 20 = .ok (.iload 5, 2) := by decide +kernel
theorem dX11_shoutsBetween_22 : decode cX11_shoutsBetween 22 = .ok (.iconst 3, 1) := by decide +kernel
theorem dX11_shoutsBetween_23 : decode cX11_shoutsBetween 23 = .ok (.if_icmp .gt 28, 3) := by decide +kernel
theorem dX11_shoutsBetween_26 : decode cX11_shoutsBetween 26 = .ok (.iload 5, 2) := by decide +kernel
theorem dX11_shoutsBetween_28 : decode cX11_shoutsBetween 28 = .ok (.aload_n 0, 1) := by decide +kernel
theorem dX11_shoutsBetween_29 : decode cX11_shoutsBetween 29 = .ok (.getfield 46, 3) := by decide +kernel
theorem dX11_shoutsBetween_32 : decode cX11_shoutsBetween 32 = .ok (.getfield 170, 3) := by decide +kernel
theorem dX11_shoutsBetween_35 : decode cX11_shoutsBetween 35 = .ok (.imul, 1) := by decide +kernel
theorem dX11_shoutsBetween_36 : decode cX11_shoutsBetween 36 = .ok (.i2l, 1) := by decide +kernel
theorem dX11_shoutsBetween_37 : decode cX11_shoutsBetween 37 = .ok (.lload_n 3, 1) := by decide +kernel
theorem dX11_shoutsBetween_38 : decode cX11_shoutsBetween 38 = .ok (.lcmp, 1) := by decide +kernel
theorem dX11_shoutsBetween_39 : decode cX11_shoutsBetween 39 = .ok (.ifCond .ne 6, 3) := by decide +kernel
theorem dX11_shoutsBetween_42 : decode cX11_shoutsBetween 42 = .ok (.iload 5, 2) := by decide +kernel
theorem dX11_shoutsBetween_44 : decode cX11_shoutsBetween 44 = .ok (.ireturn, 1) := by decide +kernel
theorem dX11_shoutsBetween_45 : decode cX11_shoutsBetween 45 = .ok (.iinc 5 1, 3) := by decide +kernel
theorem dX11_shoutsBetween_48 : decode cX11_shoutsBetween 48 = .ok (.goto (-28), 3) := by decide +kernel
theorem dX11_shoutsBetween_51 : decode cX11_shoutsBetween 51 = .ok (.iconst 4, 1) := by decide +kernel
theorem dX11_shoutsBetween_52 : decode cX11_shoutsBetween 52 = .ok (.ireturn, 1) := by decide +kernel
abbrev M_X11_shoutsBetween : MT := (yX11_shoutsBetween, cX11_shoutsBetween, 6, (some .int))
theorem cf_X11_shoutsBetween : fq_cf M_X11_shoutsBetween 2 := ⟨(mg_1 (List.mem_of_getElem? (i := 1) rfl) rfl), (mg_6 (List.mem_of_getElem? (i := 59) rfl) rfl), ⟨by decide, by decide, by decide +kernel⟩, by decide⟩
def B_X11_shoutsBetween_20 (l : Launch) (G : GT) (D mc ms : Nat) (Q : Post) : Cn := ix_iload 5 (ix_pushI 3 (ix_icmp_gt (ix_pushI 4 (ix_iret mc ms Q)) (ix_iload 5 (ix_aload 0 (ix_getR 11 6 (ix_getI 6 9 (ix_imul (ix_i2l (ix_lload 3 (ix_lcmp (ix_if_ne (ix_iinc 5 1 (fqAt l G M_X11_shoutsBetween (D + 0) mc ms Q 20)) (ix_iload 5 (ix_iret mc ms Q)))))))))))))
theorem b_X11_shoutsBetween_20 {l : Launch} {G : GT} {D mc ms : Nat} {Q : Post} : Imp l G M_X11_shoutsBetween (D + 0) mc ms Q (B_X11_shoutsBetween_20 l G D mc ms Q) 20 := sx_iload dX11_shoutsBetween_20 (sx_iconst dX11_shoutsBetween_22 rfl (sx_icmp_gt 51 dX11_shoutsBetween_23 (by decide) (sx_iconst dX11_shoutsBetween_51 rfl (sx_iret dX11_shoutsBetween_52 rfl)) (sx_iload dX11_shoutsBetween_26 (sx_aload_n dX11_shoutsBetween_28 rfl (sx_getR dX11_shoutsBetween_29 fl_FootQuarrel_46 (fun _ _ _ => rfl) (sx_getI dX11_shoutsBetween_32 fl_FootQuarrel_170 (fun _ _ _ => rfl) (sx_imul dX11_shoutsBetween_35 (sx_i2l dX11_shoutsBetween_36 (sx_lload_n dX11_shoutsBetween_37 rfl (sx_lcmp dX11_shoutsBetween_38 (sx_if_ne 45 dX11_shoutsBetween_39 (by decide) (sx_iinc dX11_shoutsBetween_45 rfl (by decide) (sx_goto 20 dX11_shoutsBetween_48 (by decide) ((fun _ _ _ _ _ _ _ _ h => h)))) (sx_iload dX11_shoutsBetween_42 (sx_iret dX11_shoutsBetween_44 rfl)))))))))))))
def B_X11_shoutsBetween_0 (l : Launch) (G : GT) (D mc ms : Nat) (Q : Post) : Cn := ix_aload 1 (ix_getR 8 0 (ix_iload 2 (ix_lald (ix_aload 1 (ix_getR 8 0 (ix_iload 2 (ix_pushI 1 (ix_isub (ix_lald (ix_lsub (ix_lstore 3 (ix_pushI (-3) (ix_istore 5 (fqAt l G M_X11_shoutsBetween (D + 0) mc ms Q 20))))))))))))))
theorem b_X11_shoutsBetween_0 {l : Launch} {G : GT} {D mc ms : Nat} {Q : Post} : Imp l G M_X11_shoutsBetween (D + 0) mc ms Q (B_X11_shoutsBetween_0 l G D mc ms Q) 0 := sx_aload_n dX11_shoutsBetween_0 rfl (sx_getR dX11_shoutsBetween_1 fl_FootQuarrel_101 (fun _ _ _ => rfl) (sx_iload_n dX11_shoutsBetween_4 rfl (sx_lald dX11_shoutsBetween_5 (sx_aload_n dX11_shoutsBetween_6 rfl (sx_getR dX11_shoutsBetween_7 fl_FootQuarrel_101 (fun _ _ _ => rfl) (sx_iload_n dX11_shoutsBetween_10 rfl (sx_iconst dX11_shoutsBetween_11 rfl (sx_isub dX11_shoutsBetween_12 (sx_lald dX11_shoutsBetween_13 (sx_lsub dX11_shoutsBetween_14 (sx_lstore_n dX11_shoutsBetween_15 rfl (by decide) (sx_bipush dX11_shoutsBetween_16 rfl (sx_istore dX11_shoutsBetween_18 (by decide) ((fun _ _ _ _ _ _ _ _ h => h)))))))))))))))
theorem dX11_rowsFor_0 : decode cX11_rowsFor 0 = .ok (.iload_n 0, 1) := by decide +kernel
theorem dX11_rowsFor_1 : decode cX11_rowsFor 1 = .ok (.iconst 4, 1) := by decide +kernel
theorem dX11_rowsFor_2 : decode cX11_rowsFor 2 = .ok (.if_icmp .ne 7, 3) := by decide +kernel
theorem dX11_rowsFor_5 : decode cX11_rowsFor 5 = .ok (.lconst 0, 1) := by decide +kernel
theorem dX11_rowsFor_6 : decode cX11_rowsFor 6 = .ok (.goto 12, 3) := by decide +kernel
theorem dX11_rowsFor_9 : decode cX11_rowsFor 9 = .ok (.getstatic 439, 3) := by decide +kernel
theorem dX11_rowsFor_12 : decode cX11_rowsFor 12 = .ok (.iload_n 0, 1) := by decide +kernel
theorem dX11_rowsFor_13 : decode cX11_rowsFor 13 = .ok (.invokestatic 391, 3) := by decide +kernel
theorem dX11_rowsFor_16 : decode cX11_rowsFor 16 = .ok (.iaload, 1) := by decide +kernel
theorem dX11_rowsFor_17 : decode cX11_rowsFor 17 = .ok (.i2l, 1) := by decide +kernel
theorem dX11_rowsFor_18 : decode cX11_rowsFor 18 = .ok (.lreturn, 1) := by decide +kernel
abbrev M_X11_rowsFor : MT := (yX11_rowsFor, cX11_rowsFor, 1, (some .long))
theorem cf_X11_rowsFor : fq_cf M_X11_rowsFor 1 := ⟨(mg_1 (List.mem_of_getElem? (i := 1) rfl) rfl), (mg_6 (List.mem_of_getElem? (i := 62) rfl) rfl), ⟨by decide, by decide, by decide +kernel⟩, by decide⟩
def B_X11_rowsFor_18 (G : GT) (mc ms : Nat) (Q : Post) : Cn := ix_lret mc ms Q
theorem b_X11_rowsFor_18 {l : Launch} {G : GT} {D mc ms : Nat} {Q : Post} : Imp l G M_X11_rowsFor (D + 1) mc ms Q (B_X11_rowsFor_18 G mc ms Q) 18 := sx_lret dX11_rowsFor_18 rfl
def B_X11_rowsFor_0 (G : GT) (mc ms : Nat) (Q : Post) : Cn := ix_iload 0 (ix_pushI 4 (ix_icmp_ne (ix_gtab G 2 (ix_iload 0 (ix_abs mc ms (ix_tald G 2 (ix_i2l ((B_X11_rowsFor_18 G mc ms Q))))))) (ix_pushL 0 ((B_X11_rowsFor_18 G mc ms Q)))))
theorem b_X11_rowsFor_0 {l : Launch} {G : GT} {D mc ms : Nat} {Q : Post} : Imp l G M_X11_rowsFor (D + 1) mc ms Q (B_X11_rowsFor_0 G mc ms Q) 0 := sx_iload_n dX11_rowsFor_0 rfl (sx_iconst dX11_rowsFor_1 rfl (sx_icmp_ne 9 dX11_rowsFor_2 (by decide) (sx_gtab dX11_rowsFor_9 (by decide) (mg_6 (List.mem_of_getElem? (i := 63) rfl) rfl) (sx_iload_n dX11_rowsFor_12 rfl (sx_abs dX11_rowsFor_13 (mg_6 (List.mem_of_getElem? (i := 65) rfl) rfl) (mg_4 (List.mem_of_getElem? (i := 61) rfl) rfl) (mg_1 (List.mem_of_getElem? (i := 18) rfl) rfl) (mg_4 (List.mem_of_getElem? (i := 62) rfl) rfl) (sx_tald dX11_rowsFor_16 (by decide) (sx_i2l dX11_rowsFor_17 (b_X11_rowsFor_18)))))) (sx_lconst dX11_rowsFor_5 rfl (sx_goto 18 dX11_rowsFor_6 (by decide) (b_X11_rowsFor_18)))))
theorem dX11_leftFirstFor_0 : decode cX11_leftFirstFor 0 = .ok (.iload_n 0, 1) := by decide +kernel
theorem dX11_leftFirstFor_1 : decode cX11_leftFirstFor 1 = .ok (.iconst 4, 1) := by decide +kernel
theorem dX11_leftFirstFor_2 : decode cX11_leftFirstFor 2 = .ok (.if_icmp .ne 7, 3) := by decide +kernel
theorem dX11_leftFirstFor_5 : decode cX11_leftFirstFor 5 = .ok (.lconst 0, 1) := by decide +kernel
theorem dX11_leftFirstFor_6 : decode cX11_leftFirstFor 6 = .ok (.goto 11, 3) := by decide +kernel
theorem dX11_leftFirstFor_9 : decode cX11_leftFirstFor 9 = .ok (.getstatic 442, 3) := by decide +kernel
theorem dX11_leftFirstFor_12 : decode cX11_leftFirstFor 12 = .ok (.iload_n 0, 1) := by decide +kernel
theorem dX11_leftFirstFor_13 : decode cX11_leftFirstFor 13 = .ok (.iconst 3, 1) := by decide +kernel
theorem dX11_leftFirstFor_14 : decode cX11_leftFirstFor 14 = .ok (.iadd, 1) := by decide +kernel
theorem dX11_leftFirstFor_15 : decode cX11_leftFirstFor 15 = .ok (.iaload, 1) := by decide +kernel
theorem dX11_leftFirstFor_16 : decode cX11_leftFirstFor 16 = .ok (.i2l, 1) := by decide +kernel
theorem dX11_leftFirstFor_17 : decode cX11_leftFirstFor 17 = .ok (.lreturn, 1) := by decide +kernel
abbrev M_X11_leftFirstFor : MT := (yX11_leftFirstFor, cX11_leftFirstFor, 1, (some .long))
theorem cf_X11_leftFirstFor : fq_cf M_X11_leftFirstFor 1 := ⟨(mg_1 (List.mem_of_getElem? (i := 1) rfl) rfl), (mg_6 (List.mem_of_getElem? (i := 76) rfl) rfl), ⟨by decide, by decide, by decide +kernel⟩, by decide⟩
def B_X11_leftFirstFor_17 (G : GT) (mc ms : Nat) (Q : Post) : Cn := ix_lret mc ms Q
theorem b_X11_leftFirstFor_17 {l : Launch} {G : GT} {D mc ms : Nat} {Q : Post} : Imp l G M_X11_leftFirstFor (D + 0) mc ms Q (B_X11_leftFirstFor_17 G mc ms Q) 17 := sx_lret dX11_leftFirstFor_17 rfl
def B_X11_leftFirstFor_0 (G : GT) (mc ms : Nat) (Q : Post) : Cn := ix_iload 0 (ix_pushI 4 (ix_icmp_ne (ix_gtab G 3 (ix_iload 0 (ix_pushI 3 (ix_iadd (ix_tald G 3 (ix_i2l ((B_X11_leftFirstFor_17 G mc ms Q)))))))) (ix_pushL 0 ((B_X11_leftFirstFor_17 G mc ms Q)))))
theorem b_X11_leftFirstFor_0 {l : Launch} {G : GT} {D mc ms : Nat} {Q : Post} : Imp l G M_X11_leftFirstFor (D + 0) mc ms Q (B_X11_leftFirstFor_0 G mc ms Q) 0 := sx_iload_n dX11_leftFirstFor_0 rfl (sx_iconst dX11_leftFirstFor_1 rfl (sx_icmp_ne 9 dX11_leftFirstFor_2 (by decide) (sx_gtab dX11_leftFirstFor_9 (by decide) (mg_6 (List.mem_of_getElem? (i := 77) rfl) rfl) (sx_iload_n dX11_leftFirstFor_12 rfl (sx_iconst dX11_leftFirstFor_13 rfl (sx_iadd dX11_leftFirstFor_14 (sx_tald dX11_leftFirstFor_15 (by decide) (sx_i2l dX11_leftFirstFor_16 (b_X11_leftFirstFor_17))))))) (sx_lconst dX11_leftFirstFor_5 rfl (sx_goto 17 dX11_leftFirstFor_6 (by decide) (b_X11_leftFirstFor_17)))))
theorem dX11_placesStatus_0 : decode cX11_placesStatus 0 = .ok (.iload_n 1, 1) := by decide +kernel
theorem dX11_placesStatus_1 : decode cX11_placesStatus 1 = .ok (.invokestatic 70, 3) := by decide +kernel
theorem dX11_placesStatus_4 : decode cX11_placesStatus 4 = .ok (.ifCond .eq 13, 3) := by decide +kernel
theorem dX11_placesStatus_7 : decode cX11_placesStatus 7 = .ok (.iload_n 2, 1) := by decide +kernel
theorem dX11_placesStatus_8 : decode cX11_placesStatus 8 = .ok (.iconst 1, 1) := by decide +kernel
theorem dX11_placesStatus_9 : decode cX11_placesStatus 9 = .ok (.bipush 12, 2) := by decide +kernel
theorem dX11_placesStatus_11 : decode cX11_placesStatus 11 = .ok (.invokestatic 74, 3) := by decide +kernel
theorem dX11_placesStatus_14 : decode cX11_placesStatus 14 = .ok (.ifCond .ne 5, 3) := by decide +kernel
theorem dX11_placesStatus_17 : decode cX11_placesStatus 17 = .ok (.iconst 1, 1) := by decide +kernel
theorem dX11_placesStatus_18 : decode cX11_placesStatus 18 = .ok (.ireturn, 1) := by decide +kernel
theorem dX11_placesStatus_19 : decode cX11_placesStatus 19 = .ok (.aload_n 0, 1) := by decide +kernel
theorem dX11_placesStatus_20 : decode cX11_placesStatus 20 = .ok (.getfield 11, 3) := by decide +kernel
theorem dX11_placesStatus_23 : decode cX11_placesStatus 23 = .ok (.iload_n 1, 1) := by decide +kernel
theorem dX11_placesStatus_24 : decode cX11_placesStatus 24 = .ok (.aaload, 1) := by decide +kernel
theorem dX11_placesStatus_25 : decode cX11_placesStatus 25 = .ok (.astore_n 3, 1) := by decide +kernel
theorem dX11_placesStatus_26 : decode cX11_placesStatus 26 = .ok (.aload_n 3, 1) := by decide +kernel
theorem dX11_placesStatus_27 : decode cX11_placesStatus 27 = .ok (.invokevirtual 105, 3) := by decide +kernel
theorem dX11_placesStatus_30 : decode cX11_placesStatus 30 = .ok (.ifCond .eq 5, 3) := by decide +kernel
theorem dX11_placesStatus_33 : decode cX11_placesStatus 33 = .ok (.iconst 2, 1) := by decide +kernel
theorem dX11_placesStatus_34 : decode cX11_placesStatus 34 = .ok (.ireturn, 1) := by decide +kernel
theorem dX11_placesStatus_35 : decode cX11_placesStatus 35 = .ok (.aload_n 3, 1) := by decide +kernel
theorem dX11_placesStatus_36 : decode cX11_placesStatus 36 = .ok (.iconst 0, 1) := by decide +kernel
theorem dX11_placesStatus_37 : decode cX11_placesStatus 37 = .ok (.iload_n 2, 1) := by decide +kernel
theorem dX11_placesStatus_38 : decode cX11_placesStatus 38 = .ok (.invokevirtual 111, 3) := by decide +kernel
theorem dX11_placesStatus_41 : decode cX11_placesStatus 41 = .ok (.ifCond .ne 5, 3) := by decide +kernel
theorem dX11_placesStatus_44 : decode cX11_placesStatus 44 = .ok (.iconst 3, 1) := by decide +kernel
theorem dX11_placesStatus_45 : decode cX11_placesStatus 45 = .ok (.ireturn, 1) := by decide +kernel
theorem dX11_placesStatus_46 : decode cX11_placesStatus 46 = .ok (.iconst 0, 1) := by decide +kernel
theorem dX11_placesStatus_47 : decode cX11_placesStatus 47 = .ok (.istore 4, 2) := by decide +kernel
theorem dX11_placesStatus_49 : decode cX11_placesStatus 49 = .ok (.iload 4, 2) := by decide +kernel
theorem dX11_placesStatus_51 : decode cX11_placesStatus 51 = .ok (.iload_n 2, 1) := by decide +kernel
theorem dX11_placesStatus_52 : decode cX11_placesStatus 52 = .ok (.if_icmp .ge 23, 3) := by decide +kernel
theorem dX11_placesStatus_55 : decode cX11_placesStatus 55 = .ok (.aload_n 3, 1) := by decide +kernel
theorem dX11_placesStatus_56 : decode cX11_placesStatus 56 = .ok (.getfield 101, 3) := by decide +kernel
theorem dX11_placesStatus_59 : decode cX11_placesStatus 59 = .ok (.iload 4, 2) := by decide +kernel
theorem dX11_placesStatus_61 : decode cX11_placesStatus 61 = .ok (.laload, 1) := by decide +kernel
theorem dX11_placesStatus_62 : decode cX11_placesStatus 62 = .ok (.lconst 0, 1) := by decide +kernel
theorem dX11_placesStatus_63 : decode cX11_placesStatus 63 = .ok (.lcmp, 1) := by decide +kernel
theorem dX11_placesStatus_64 : decode cX11_placesStatus 64 = .ok (.ifCond .ge 5, 3) := by decide +kernel
theorem dX11_placesStatus_67 : decode cX11_placesStatus 67 = .ok (.iconst 5, 1) := by decide +kernel
theorem dX11_placesStatus_68 : decode cX11_placesStatus 68 = .ok (.ireturn, 1) := by decide +kernel
theorem dX11_placesStatus_69 : decode cX11_placesStatus 69 = .ok (.iinc 4 1, 3) := by decide +kernel
theorem dX11_placesStatus_72 : decode cX11_placesStatus 72 = .ok (.goto (-23), 3) := by decide +kernel
theorem dX11_placesStatus_75 : decode cX11_placesStatus 75 = .ok (.iconst 0, 1) := by decide +kernel
theorem dX11_placesStatus_76 : decode cX11_placesStatus 76 = .ok (.ireturn, 1) := by decide +kernel
abbrev M_X11_placesStatus : MT := (yX11_placesStatus, cX11_placesStatus, 5, (some .int))
theorem cf_X11_placesStatus : fq_cf M_X11_placesStatus 2 := ⟨(mg_1 (List.mem_of_getElem? (i := 1) rfl) rfl), (mg_6 (List.mem_of_getElem? (i := 55) rfl) rfl), ⟨by decide, by decide, by decide +kernel⟩, by decide⟩
def B_X11_placesStatus_49 (l : Launch) (G : GT) (D mc ms : Nat) (Q : Post) : Cn := ix_iload 4 (ix_iload 2 (ix_icmp_ge (ix_pushI 0 (ix_iret mc ms Q)) (ix_aload 3 (ix_getR 8 0 (ix_iload 4 (ix_lald (ix_pushL 0 (ix_lcmp (ix_if_ge (ix_iinc 4 1 (fqAt l G M_X11_placesStatus (D + 2) mc ms Q 49)) (ix_pushI 5 (ix_iret mc ms Q)))))))))))
theorem b_X11_placesStatus_49 {l : Launch} {G : GT} {D mc ms : Nat} {Q : Post} : Imp l G M_X11_placesStatus (D + 2) mc ms Q (B_X11_placesStatus_49 l G D mc ms Q) 49 := sx_iload dX11_placesStatus_49 (sx_iload_n dX11_placesStatus_51 rfl (sx_icmp_ge 75 dX11_placesStatus_52 (by decide) (sx_iconst dX11_placesStatus_75 rfl (sx_iret dX11_placesStatus_76 rfl)) (sx_aload_n dX11_placesStatus_55 rfl (sx_getR dX11_placesStatus_56 fl_FootQuarrel_101 (fun _ _ _ => rfl) (sx_iload dX11_placesStatus_59 (sx_lald dX11_placesStatus_61 (sx_lconst dX11_placesStatus_62 rfl (sx_lcmp dX11_placesStatus_63 (sx_if_ge 69 dX11_placesStatus_64 (by decide) (sx_iinc dX11_placesStatus_69 rfl (by decide) (sx_goto 49 dX11_placesStatus_72 (by decide) ((fun _ _ _ _ _ _ _ _ h => h)))) (sx_iconst dX11_placesStatus_67 rfl (sx_iret dX11_placesStatus_68 rfl)))))))))))
def B_X11_placesStatus_17 (l : Launch) (G : GT) (D mc ms : Nat) (Q : Post) : Cn := ix_pushI 1 (ix_iret mc ms Q)
theorem b_X11_placesStatus_17 {l : Launch} {G : GT} {D mc ms : Nat} {Q : Post} : Imp l G M_X11_placesStatus (D + 2) mc ms Q (B_X11_placesStatus_17 l G D mc ms Q) 17 := sx_iconst dX11_placesStatus_17 rfl (sx_iret dX11_placesStatus_18 rfl)
def B_X11_placesStatus_0 (l : Launch) (G : GT) (D mc ms : Nat) (Q : Post) : Cn := ix_iload 1 (ix_call 1 0 0 mc ms (sp_X11_isTray G) (ix_if_eq ((B_X11_placesStatus_17 l G D mc ms Q)) (ix_iload 2 (ix_pushI 1 (ix_pushI 12 (ix_call 3 0 0 mc ms (sp_X11_isWithin G) (ix_if_ne (ix_aload 0 (ix_getR 11 0 (ix_iload 1 (ix_aald 20 (ix_astore 3 (ix_aload 3 (ix_vcall 8 1 0 0 mc ms (sp_X8_isMissing G) (ix_if_eq (ix_aload 3 (ix_pushI 0 (ix_iload 2 (ix_vcall 8 3 0 0 mc ms (sp_X8_spans G) (ix_if_ne (ix_pushI 0 (ix_istore 4 (fqAt l G M_X11_placesStatus (D + 2) mc ms Q 49))) (ix_pushI 3 (ix_iret mc ms Q))))))) (ix_pushI 2 (ix_iret mc ms Q)))))))))) ((B_X11_placesStatus_17 l G D mc ms Q)))))))))
theorem b_X11_placesStatus_0 {l : Launch} {G : GT} {D mc ms : Nat} {Q : Post} : Imp l G M_X11_placesStatus (D + 2) mc ms Q (B_X11_placesStatus_0 l G D mc ms Q) 0 := sx_iload_n dX11_placesStatus_0 rfl (sx_scall dX11_placesStatus_1 cf_X11_isTray (mg_3 (List.mem_of_getElem? (i := 82) rfl) rfl) (mg_3 (List.mem_of_getElem? (i := 83) rfl) rfl) c_X11_isTray (sx_if_eq 17 dX11_placesStatus_4 (by decide) (b_X11_placesStatus_17) (sx_iload_n dX11_placesStatus_7 rfl (sx_iconst dX11_placesStatus_8 rfl (sx_bipush dX11_placesStatus_9 rfl (sx_scall dX11_placesStatus_11 cf_X11_isWithin (mg_3 (List.mem_of_getElem? (i := 85) rfl) rfl) (mg_3 (List.mem_of_getElem? (i := 86) rfl) rfl) c_X11_isWithin (sx_if_ne 19 dX11_placesStatus_14 (by decide) (sx_aload_n dX11_placesStatus_19 rfl (sx_getR dX11_placesStatus_20 fl_FootQuarrel_11 (fun _ _ _ => rfl) (sx_iload_n dX11_placesStatus_23 rfl (sx_aald dX11_placesStatus_24 (by decide) (by decide) rfl (sx_astore_n dX11_placesStatus_25 rfl (by decide) (sx_aload_n dX11_placesStatus_26 rfl (sx_vcall dX11_placesStatus_27 cf_X8_isMissing (mg_3 (List.mem_of_getElem? (i := 108) rfl) rfl) (mg_3 (List.mem_of_getElem? (i := 109) rfl) rfl) (mg_3 (List.mem_of_getElem? (i := 110) rfl) rfl) rfl c_X8_isMissing (sx_if_eq 35 dX11_placesStatus_30 (by decide) (sx_aload_n dX11_placesStatus_35 rfl (sx_iconst dX11_placesStatus_36 rfl (sx_iload_n dX11_placesStatus_37 rfl (sx_vcall dX11_placesStatus_38 cf_X8_spans (mg_3 (List.mem_of_getElem? (i := 128) rfl) rfl) (mg_3 (List.mem_of_getElem? (i := 129) rfl) rfl) (mg_3 (List.mem_of_getElem? (i := 130) rfl) rfl) rfl c_X8_spans (sx_if_ne 46 dX11_placesStatus_41 (by decide) (sx_iconst dX11_placesStatus_46 rfl (sx_istore dX11_placesStatus_47 (by decide) ((fun _ _ _ _ _ _ _ _ h => h)))) (sx_iconst dX11_placesStatus_44 rfl (sx_iret dX11_placesStatus_45 rfl))))))) (sx_iconst dX11_placesStatus_33 rfl (sx_iret dX11_placesStatus_34 rfl)))))))))) (b_X11_placesStatus_17))))))))
/-- by how many shouts more to the right -/
def shR (f : Int64) (ft : Int32) : Nat → Int32 → Int32
  | 0, _ => 4
  | n + 1, c => if (c * ft).toInt64 = f then c else shR f ft n (c + 1)
def shB (f : Int64) (ft : Int32) : Int32 := shR f ft 7 (-3)
theorem cnt4 : ∀ n, n < 8 → (3 < 4 - nI n ↔ n = 0) ∧ (4 - nI (n + 1)) + 1 = 4 - nI n := by decide +kernel
def sp_X11_shoutsBetween (G : GT) : Sp := fun as S I J z Q => match as with
  | [.ref X, .ref t, .int i] => ∃ s, xsh S X s ∧ S.1 t = 8 ∧ S.2.2 t 0 = some (t + 1) ∧ S.1 (t + 1) = 15 ∧ S.2.1 (t + 1) = 60 ∧ ∃ k, i = nI (k + 1) ∧ k + 1 < 60 ∧ Q (some (.int (shB (J (t + 1) (k + 1) - J (t + 1) k) (I s 9)))) S I J z
  | _ => False
set_option maxHeartbeats 4000000 in
set_option maxRecDepth 20000 in
theorem c_X11_shoutsBetween {l : Launch} {G : GT} {D : Nat} : ∀ as S I J z Q, sp_X11_shoutsBetween G as S I J z Q → fqCall l G M_X11_shoutsBetween (D + 0) 0 0 as S I J z Q := by
  intro as S I J z Q h
  unfold sp_X11_shoutsBetween at h
  split at h
  · next X t i =>
    obtain ⟨s, ⟨x1, x2, hs⟩, t1, t2, t3, t4, k, rfl, hk, hQ⟩ := h
    have lp : ∀ (n : Nat), n < 8 → Q (some (.int (shR (J (t + 1) (k + 1) - J (t + 1) k) (I s 9) n (4 - nI n)))) S I J z → fqAt l G M_X11_shoutsBetween (D + 0) 0 0 Q 20 [some (.ref X), some (.ref t), some (.int (nI (k + 1))), some (.long (J (t + 1) (k + 1) - J (t + 1) k)), none, some (.int (4 - nI n))] [] S I J z 0 0 := by
      intro n
      induction n with
      | zero =>
        intro hn hq
        have c0 := cnt4 0 (by decide)
        refine b_X11_shoutsBetween_20 _ _ _ _ _ _ _ _ ?_
        simp (disch := omega) only [B_X11_shoutsBetween_0, B_X11_shoutsBetween_20, hs.k, hs.r0, hs.k1, hs.r1, hs.k2, hs.r2, hs.k3, hs.r3, hs.k4, hs.r4, hs.k12, hs.n1, hs.n2, hs.n3, hs.y0, hs.k5, hs.n5, hs.y1, hs.k6, hs.n6, hs.y2, hs.k7, hs.n7, hs.y3, hs.k8, hs.n8, hs.y4, hs.k9, hs.n9, hs.y5, hs.k10, hs.n10, hs.y6, hs.k11, hs.n11, hs.p0, hs.p1, hs.p2, hs.k13, hs.n13, hs.q0, hs.q1, hs.k14, hs.k15, hs.k16, hs.n16, hs.k17, hs.n17, hs.rH, hs.kH, hs.rP, hs.kP, hs.rQ, hs.kQ, x1, x2, nI_1, nI_add, nI_clamp, nI_pin, nI_neg, nI_nonneg, nI_leE, nI_ltE, nI_eqE, Nat.not_le, Nat.not_lt, fq_10, fq_01, fq_rr, ix_aald, ix_aast, ix_abs, ix_alen, ix_aload, ix_aret, ix_astore, ix_bald, ix_bast, ix_call, ix_cpyI, ix_cpyJ, ix_dead, ix_dup2, ix_dup2L, ix_dupI, ix_dupR, ix_dupx1, ix_getI, ix_getJ, ix_getR, ix_gfm, ix_gtab, ix_i2b, ix_i2c, ix_i2l, ix_i2s, ix_iadd, ix_iald, ix_iand, ix_iast, ix_icall, ix_icmp_eq, ix_icmp_ge, ix_icmp_gt, ix_icmp_le, ix_icmp_lt, ix_icmp_ne, ix_idiv, ix_if_eq, ix_if_ge, ix_if_gt, ix_if_le, ix_if_lt, ix_if_ne, ix_iinc, ix_iload, ix_imul, ix_ineg, ix_ior, ix_irem, ix_iret, ix_ishl, ix_ishr, ix_istore, ix_isub, ix_iushr, ix_ixor, ix_l2i, ix_ladd, ix_lald, ix_land, ix_last, ix_lcmp, ix_ldcS, ix_ldiv, ix_lload, ix_lmul, ix_lor, ix_lrem, ix_lret, ix_lshl, ix_lstore, ix_lsub, ix_lsw, ix_max, ix_min, ix_new, ix_newa, ix_nret, ix_oinit, ix_pop2L, ix_popI, ix_pushI, ix_pushL, ix_putI, ix_putJ, ix_putR, ix_putZ, ix_sbald, ix_sgetC, ix_sgetV, ix_slen, ix_strc, ix_tald, ix_tsw, ix_vcall, ix_vret, ix_zret, stL, stL2, kilL, popN, fq_sw, fq_lsw, List.map_cons, List.map_nil, List.getElem?_cons_zero, List.getElem?_cons_succ, Option.toList_some, Option.toList_none, List.cons_append, List.nil_append, List.length_cons, List.length_nil, List.sum_cons, List.sum_nil, cat_i, cat_l, cat_r, true_and, and_true, Nat.zero_add, Nat.add_zero, Nat.le_refl, Nat.zero_le, Nat.reduceAdd, Nat.reduceLeDiff, exists_eq_left', Option.some.injEq, not_true_eq_false, not_false_eq_true, false_implies, true_implies, implies_true, and_self, or_true, true_or, or_false, false_or]
        exact ⟨fun _ => hq, fun h => absurd (c0.1.mpr rfl) h⟩
      | succ n ih =>
        intro hn hq
        have c0 := cnt4 (n + 1) (by omega)
        have c1 := (cnt4 n (by omega)).2
        refine b_X11_shoutsBetween_20 _ _ _ _ _ _ _ _ ?_
        simp (disch := omega) only [B_X11_shoutsBetween_0, B_X11_shoutsBetween_20, hs.k, hs.r0, hs.k1, hs.r1, hs.k2, hs.r2, hs.k3, hs.r3, hs.k4, hs.r4, hs.k12, hs.n1, hs.n2, hs.n3, hs.y0, hs.k5, hs.n5, hs.y1, hs.k6, hs.n6, hs.y2, hs.k7, hs.n7, hs.y3, hs.k8, hs.n8, hs.y4, hs.k9, hs.n9, hs.y5, hs.k10, hs.n10, hs.y6, hs.k11, hs.n11, hs.p0, hs.p1, hs.p2, hs.k13, hs.n13, hs.q0, hs.q1, hs.k14, hs.k15, hs.k16, hs.n16, hs.k17, hs.n17, hs.rH, hs.kH, hs.rP, hs.kP, hs.rQ, hs.kQ, x1, x2, lg_cmp_eq, c1, nI_1, nI_add, nI_clamp, nI_pin, nI_neg, nI_nonneg, nI_leE, nI_ltE, nI_eqE, Nat.not_le, Nat.not_lt, fq_10, fq_01, fq_rr, ix_aald, ix_aast, ix_abs, ix_alen, ix_aload, ix_aret, ix_astore, ix_bald, ix_bast, ix_call, ix_cpyI, ix_cpyJ, ix_dead, ix_dup2, ix_dup2L, ix_dupI, ix_dupR, ix_dupx1, ix_getI, ix_getJ, ix_getR, ix_gfm, ix_gtab, ix_i2b, ix_i2c, ix_i2l, ix_i2s, ix_iadd, ix_iald, ix_iand, ix_iast, ix_icall, ix_icmp_eq, ix_icmp_ge, ix_icmp_gt, ix_icmp_le, ix_icmp_lt, ix_icmp_ne, ix_idiv, ix_if_eq, ix_if_ge, ix_if_gt, ix_if_le, ix_if_lt, ix_if_ne, ix_iinc, ix_iload, ix_imul, ix_ineg, ix_ior, ix_irem, ix_iret, ix_ishl, ix_ishr, ix_istore, ix_isub, ix_iushr, ix_ixor, ix_l2i, ix_ladd, ix_lald, ix_land, ix_last, ix_lcmp, ix_ldcS, ix_ldiv, ix_lload, ix_lmul, ix_lor, ix_lrem, ix_lret, ix_lshl, ix_lstore, ix_lsub, ix_lsw, ix_max, ix_min, ix_new, ix_newa, ix_nret, ix_oinit, ix_pop2L, ix_popI, ix_pushI, ix_pushL, ix_putI, ix_putJ, ix_putR, ix_putZ, ix_sbald, ix_sgetC, ix_sgetV, ix_slen, ix_strc, ix_tald, ix_tsw, ix_vcall, ix_vret, ix_zret, stL, stL2, kilL, popN, fq_sw, fq_lsw, List.map_cons, List.map_nil, List.getElem?_cons_zero, List.getElem?_cons_succ, Option.toList_some, Option.toList_none, List.cons_append, List.nil_append, List.length_cons, List.length_nil, List.sum_cons, List.sum_nil, cat_i, cat_l, cat_r, true_and, and_true, Nat.zero_add, Nat.add_zero, Nat.le_refl, Nat.zero_le, Nat.reduceAdd, Nat.reduceLeDiff, exists_eq_left', Option.some.injEq, not_true_eq_false, not_false_eq_true, false_implies, true_implies, implies_true, and_self, or_true, true_or, or_false, false_or]
        refine ⟨fun h => absurd (c0.1.mp h) (by omega), fun _ => ⟨fun h => ih (by omega) ?_, fun h => ?_⟩⟩
        · unfold shR at hq
          rw [if_neg h, c1] at hq
          exact hq
        · unfold shR at hq
          rw [if_pos h] at hq
          exact hq
    refine fq_enter [some (.ref X), some (.ref t), some (.int (nI (k + 1))), none, none, none] (by decide +kernel) (Nat.le_of_ble_eq_true rfl) rfl (b_X11_shoutsBetween_0 _ _ _ _ _ _ _ _ ?_)
    simp (disch := omega) only [B_X11_shoutsBetween_0, B_X11_shoutsBetween_20, hs.k, hs.r0, hs.k1, hs.r1, hs.k2, hs.r2, hs.k3, hs.r3, hs.k4, hs.r4, hs.k12, hs.n1, hs.n2, hs.n3, hs.y0, hs.k5, hs.n5, hs.y1, hs.k6, hs.n6, hs.y2, hs.k7, hs.n7, hs.y3, hs.k8, hs.n8, hs.y4, hs.k9, hs.n9, hs.y5, hs.k10, hs.n10, hs.y6, hs.k11, hs.n11, hs.p0, hs.p1, hs.p2, hs.k13, hs.n13, hs.q0, hs.q1, hs.k14, hs.k15, hs.k16, hs.n16, hs.k17, hs.n17, hs.rH, hs.kH, hs.rP, hs.kP, hs.rQ, hs.kQ, x1, x2, t1, t2, t3, t4, nI_pred, nI_1, nI_add, nI_clamp, nI_pin, nI_neg, nI_nonneg, nI_leE, nI_ltE, nI_eqE, Nat.not_le, Nat.not_lt, fq_10, fq_01, fq_rr, ix_aald, ix_aast, ix_abs, ix_alen, ix_aload, ix_aret, ix_astore, ix_bald, ix_bast, ix_call, ix_cpyI, ix_cpyJ, ix_dead, ix_dup2, ix_dup2L, ix_dupI, ix_dupR, ix_dupx1, ix_getI, ix_getJ, ix_getR, ix_gfm, ix_gtab, ix_i2b, ix_i2c, ix_i2l, ix_i2s, ix_iadd, ix_iald, ix_iand, ix_iast, ix_icall, ix_icmp_eq, ix_icmp_ge, ix_icmp_gt, ix_icmp_le, ix_icmp_lt, ix_icmp_ne, ix_idiv, ix_if_eq, ix_if_ge, ix_if_gt, ix_if_le, ix_if_lt, ix_if_ne, ix_iinc, ix_iload, ix_imul, ix_ineg, ix_ior, ix_irem, ix_iret, ix_ishl, ix_ishr, ix_istore, ix_isub, ix_iushr, ix_ixor, ix_l2i, ix_ladd, ix_lald, ix_land, ix_last, ix_lcmp, ix_ldcS, ix_ldiv, ix_lload, ix_lmul, ix_lor, ix_lrem, ix_lret, ix_lshl, ix_lstore, ix_lsub, ix_lsw, ix_max, ix_min, ix_new, ix_newa, ix_nret, ix_oinit, ix_pop2L, ix_popI, ix_pushI, ix_pushL, ix_putI, ix_putJ, ix_putR, ix_putZ, ix_sbald, ix_sgetC, ix_sgetV, ix_slen, ix_strc, ix_tald, ix_tsw, ix_vcall, ix_vret, ix_zret, stL, stL2, kilL, popN, fq_sw, fq_lsw, List.map_cons, List.map_nil, List.getElem?_cons_zero, List.getElem?_cons_succ, Option.toList_some, Option.toList_none, List.cons_append, List.nil_append, List.length_cons, List.length_nil, List.sum_cons, List.sum_nil, cat_i, cat_l, cat_r, true_and, and_true, Nat.zero_add, Nat.add_zero, Nat.le_refl, Nat.zero_le, Nat.reduceAdd, Nat.reduceLeDiff, exists_eq_left', Option.some.injEq, not_true_eq_false, not_false_eq_true, false_implies, true_implies, implies_true, and_self, or_true, true_or, or_false, false_or]
    exact lp 7 (by decide) hQ
  · exact h.elim
def rwF (x : Int32) : Int64 := if x = 4 then 0 else ([3, 4, 1, 1].getD (abI x).toNatClampNeg 0 : Int32).toInt64
def sp_X11_rowsFor (G : GT) : Sp := fun as S I J z Q => match as with
  | [.int x] => (x = 4 ∨ vp_in (abI x) 4) ∧ Q (some (.long (rwF x))) S I J z
  | _ => False
set_option maxHeartbeats 4000000 in
set_option maxRecDepth 20000 in
theorem c_X11_rowsFor {l : Launch} {G : GT} {D : Nat} : ∀ as S I J z Q, sp_X11_rowsFor G as S I J z Q → fqCall l G M_X11_rowsFor (D + 1) 0 0 as S I J z Q := by
  intro as S I J z Q h
  unfold sp_X11_rowsFor at h
  split at h
  · next x =>
    obtain ⟨h1, hQ⟩ := h
    refine fq_enter [some (.int x)] (by decide +kernel) (Nat.le_of_ble_eq_true rfl) rfl (b_X11_rowsFor_0 _ _ _ _ _ _ _ _ ?_)
    simp (disch := omega) only [B_X11_rowsFor_0, B_X11_rowsFor_18, nI_1, nI_add, nI_clamp, nI_pin, nI_neg, nI_nonneg, nI_leE, nI_ltE, nI_eqE, Nat.not_le, Nat.not_lt, fq_10, fq_01, fq_rr, ix_aald, ix_aast, ix_abs, ix_alen, ix_aload, ix_aret, ix_astore, ix_bald, ix_bast, ix_call, ix_cpyI, ix_cpyJ, ix_dead, ix_dup2, ix_dup2L, ix_dupI, ix_dupR, ix_dupx1, ix_getI, ix_getJ, ix_getR, ix_gfm, ix_gtab, ix_i2b, ix_i2c, ix_i2l, ix_i2s, ix_iadd, ix_iald, ix_iand, ix_iast, ix_icall, ix_icmp_eq, ix_icmp_ge, ix_icmp_gt, ix_icmp_le, ix_icmp_lt, ix_icmp_ne, ix_idiv, ix_if_eq, ix_if_ge, ix_if_gt, ix_if_le, ix_if_lt, ix_if_ne, ix_iinc, ix_iload, ix_imul, ix_ineg, ix_ior, ix_irem, ix_iret, ix_ishl, ix_ishr, ix_istore, ix_isub, ix_iushr, ix_ixor, ix_l2i, ix_ladd, ix_lald, ix_land, ix_last, ix_lcmp, ix_ldcS, ix_ldiv, ix_lload, ix_lmul, ix_lor, ix_lrem, ix_lret, ix_lshl, ix_lstore, ix_lsub, ix_lsw, ix_max, ix_min, ix_new, ix_newa, ix_nret, ix_oinit, ix_pop2L, ix_popI, ix_pushI, ix_pushL, ix_putI, ix_putJ, ix_putR, ix_putZ, ix_sbald, ix_sgetC, ix_sgetV, ix_slen, ix_strc, ix_tald, ix_tsw, ix_vcall, ix_vret, ix_zret, stL, stL2, kilL, popN, fq_sw, fq_lsw, List.map_cons, List.map_nil, List.getElem?_cons_zero, List.getElem?_cons_succ, Option.toList_some, Option.toList_none, List.cons_append, List.nil_append, List.length_cons, List.length_nil, List.sum_cons, List.sum_nil, cat_i, cat_l, cat_r, true_and, and_true, Nat.zero_add, Nat.add_zero, Nat.le_refl, Nat.zero_le, Nat.reduceAdd, Nat.reduceLeDiff, exists_eq_left', Option.some.injEq, not_true_eq_false, not_false_eq_true, false_implies, true_implies, implies_true, and_self, or_true, true_or, or_false, false_or]
    unfold rwF at hQ
    refine ⟨fun h => ?_, fun h => ?_⟩
    · rw [if_neg h] at hQ
      exact ⟨h1.resolve_left h, hQ⟩
    · rw [if_pos h] at hQ
      exact hQ
  · exact h.elim
def lfF (x : Int32) : Int64 := if x = 4 then 0 else ([1, 1, 3, 1, 1, 0, 0].getD (x + 3).toNatClampNeg 0 : Int32).toInt64
def sp_X11_leftFirstFor (G : GT) : Sp := fun as S I J z Q => match as with
  | [.int x] => (x = 4 ∨ vp_in (x + 3) 7) ∧ Q (some (.long (lfF x))) S I J z
  | _ => False
set_option maxHeartbeats 4000000 in
set_option maxRecDepth 20000 in
theorem c_X11_leftFirstFor {l : Launch} {G : GT} {D : Nat} : ∀ as S I J z Q, sp_X11_leftFirstFor G as S I J z Q → fqCall l G M_X11_leftFirstFor (D + 0) 0 0 as S I J z Q := by
  intro as S I J z Q h
  unfold sp_X11_leftFirstFor at h
  split at h
  · next x =>
    obtain ⟨h1, hQ⟩ := h
    refine fq_enter [some (.int x)] (by decide +kernel) (Nat.le_of_ble_eq_true rfl) rfl (b_X11_leftFirstFor_0 _ _ _ _ _ _ _ _ ?_)
    simp (disch := omega) only [B_X11_leftFirstFor_0, B_X11_leftFirstFor_17, nI_1, nI_add, nI_clamp, nI_pin, nI_neg, nI_nonneg, nI_leE, nI_ltE, nI_eqE, Nat.not_le, Nat.not_lt, fq_10, fq_01, fq_rr, ix_aald, ix_aast, ix_abs, ix_alen, ix_aload, ix_aret, ix_astore, ix_bald, ix_bast, ix_call, ix_cpyI, ix_cpyJ, ix_dead, ix_dup2, ix_dup2L, ix_dupI, ix_dupR, ix_dupx1, ix_getI, ix_getJ, ix_getR, ix_gfm, ix_gtab, ix_i2b, ix_i2c, ix_i2l, ix_i2s, ix_iadd, ix_iald, ix_iand, ix_iast, ix_icall, ix_icmp_eq, ix_icmp_ge, ix_icmp_gt, ix_icmp_le, ix_icmp_lt, ix_icmp_ne, ix_idiv, ix_if_eq, ix_if_ge, ix_if_gt, ix_if_le, ix_if_lt, ix_if_ne, ix_iinc, ix_iload, ix_imul, ix_ineg, ix_ior, ix_irem, ix_iret, ix_ishl, ix_ishr, ix_istore, ix_isub, ix_iushr, ix_ixor, ix_l2i, ix_ladd, ix_lald, ix_land, ix_last, ix_lcmp, ix_ldcS, ix_ldiv, ix_lload, ix_lmul, ix_lor, ix_lrem, ix_lret, ix_lshl, ix_lstore, ix_lsub, ix_lsw, ix_max, ix_min, ix_new, ix_newa, ix_nret, ix_oinit, ix_pop2L, ix_popI, ix_pushI, ix_pushL, ix_putI, ix_putJ, ix_putR, ix_putZ, ix_sbald, ix_sgetC, ix_sgetV, ix_slen, ix_strc, ix_tald, ix_tsw, ix_vcall, ix_vret, ix_zret, stL, stL2, kilL, popN, fq_sw, fq_lsw, List.map_cons, List.map_nil, List.getElem?_cons_zero, List.getElem?_cons_succ, Option.toList_some, Option.toList_none, List.cons_append, List.nil_append, List.length_cons, List.length_nil, List.sum_cons, List.sum_nil, cat_i, cat_l, cat_r, true_and, and_true, Nat.zero_add, Nat.add_zero, Nat.le_refl, Nat.zero_le, Nat.reduceAdd, Nat.reduceLeDiff, exists_eq_left', Option.some.injEq, not_true_eq_false, not_false_eq_true, false_implies, true_implies, implies_true, and_self, or_true, true_or, or_false, false_or]
    unfold lfF at hQ
    refine ⟨fun h => ?_, fun h => ?_⟩
    · rw [if_neg h] at hQ
      exact ⟨h1.resolve_left h, hQ⟩
    · rw [if_pos h] at hQ
      exact hQ
  · exact h.elim
/-- what shoutsBetween answers: 4, or a number from -3 to 3 -/
theorem shB_in (f : Int64) (ft : Int32) : shB f ft = 4 ∨ shB f ft = -3 ∨ shB f ft = -2 ∨ shB f ft = -1 ∨ shB f ft = 0 ∨ shB f ft = 1 ∨ shB f ft = 2 ∨ shB f ft = 3 := by
  have e1 : (-3 : Int32) + 1 = -2 := by decide
  have e2 : (-2 : Int32) + 1 = -1 := by decide
  have e3 : (-1 : Int32) + 1 = 0 := by decide
  have e4 : (0 : Int32) + 1 = 1 := by decide
  have e5 : (1 : Int32) + 1 = 2 := by decide
  have e6 : (2 : Int32) + 1 = 3 := by decide
  unfold shB
  simp only [shR, e1, e2, e3, e4, e5, e6]
  repeat' split
  all_goals simp
theorem shB_ab (f : Int64) (ft : Int32) : shB f ft = 4 ∨ vp_in (abI (shB f ft)) 4 := by
  rcases shB_in f ft with h | h | h | h | h | h | h | h <;> rw [h]
  · exact Or.inl rfl
  all_goals exact Or.inr (by unfold vp_in abI; decide)
theorem shB_l (f : Int64) (ft : Int32) : shB f ft = 4 ∨ vp_in (shB f ft + 3) 7 := by
  rcases shB_in f ft with h | h | h | h | h | h | h | h <;> rw [h]
  · exact Or.inl rfl
  all_goals exact Or.inr (by unfold vp_in; decide)
/-- may a row of places be asked for -/
def plS (I : IH) (J : JH) (X : Nat) (t n : Int32) : Int32 := if ¬ ((0 ≤ t ∧ t ≤ 3) ∧ (1 ≤ n ∧ n ≤ 12)) then 1 else if I (X + 2 + 2 * t.toNatClampNeg) 1 = -1 then 2 else if ¬ ((0 : Int32) ≤ I (X + 2 + 2 * t.toNatClampNeg) 1 ∧ n ≤ I (X + 2 + 2 * t.toNatClampNeg) 1 - 0) then 3 else if (fndU (fun i => decide (J (X + 2 + 2 * t.toNatClampNeg + 1) i < 0)) 0 n.toNatClampNeg) = -1 then 0 else 5
def sp_X11_placesStatus (G : GT) : Sp := fun as S I J z Q => match as with
  | [.ref X, .int t, .int n] => trS S X ∧ Q (some (.int (plS I J X t n))) S I J z
  | _ => False
theorem in03 {t : Int32} (h : 0 ≤ t ∧ t ≤ 3) : ∃ k, k < 4 ∧ t = nI k := by
  obtain ⟨k, hk, rfl⟩ := nI_of (Int32.not_lt.mpr h.1)
  have := (nI_leI (a := k) (b := 3) hk (by decide)).mp h.2
  exact ⟨k, by omega, rfl⟩
theorem in112 {t : Int32} (h : 1 ≤ t ∧ t ≤ 12) : ∃ k, 1 ≤ k ∧ k ≤ 12 ∧ t = nI k := by
  have h0 : ¬ t < 0 := fun q => by
    have h1 := h.1
    rw [Int32.le_iff_toInt_le] at h1
    rw [Int32.lt_iff_toInt_lt] at q
    have e1 : (1 : Int32).toInt = 1 := by decide
    have e0 : (0 : Int32).toInt = 0 := by decide
    omega
  obtain ⟨k, hk, rfl⟩ := nI_of h0
  have h2 := (nI_leI (a := k) (b := 12) hk (by decide)).mp h.2
  have h1 := (nI_leI (a := 1) (b := k) (by decide) hk).mp h.1
  exact ⟨k, h1, h2, rfl⟩
set_option maxHeartbeats 4000000 in
set_option maxRecDepth 20000 in
theorem c_X11_placesStatus {l : Launch} {G : GT} {D : Nat} : ∀ as S I J z Q, sp_X11_placesStatus G as S I J z Q → fqCall l G M_X11_placesStatus (D + 2) 0 0 as S I J z Q := by
  intro as S I J z Q h
  unfold sp_X11_placesStatus at h
  split at h
  · next X t n =>
    obtain ⟨ht, hQ⟩ := h
    unfold plS at hQ
    by_cases h1 : 0 ≤ t ∧ t ≤ 3
    · by_cases h2 : 1 ≤ n ∧ n ≤ 12
      · obtain ⟨k, hk, rfl⟩ := in03 h1
        obtain ⟨m, hm1, hm2, rfl⟩ := in112 h2
        rw [if_neg (fun q => q ⟨h1, h2⟩), nI_clamp (by omega), nI_clamp (by omega)] at hQ
        have lp : ∀ (c i : Nat), i + c = m → Q (some (.int (if (fndU (fun i => decide (J (X + 2 + 2 * k + 1) i < 0)) i c) = -1 then 0 else 5))) S I J z → fqAt l G M_X11_placesStatus (D + 2) 0 0 Q 49 [some (.ref X), some (.int (nI k)), some (.int (nI m)), some (.ref (X + 2 + 2 * k)), some (.int (nI i))] [] S I J z 0 0 := by
          intro c
          induction c with
          | zero =>
            intro i hi hq
            refine b_X11_placesStatus_49 _ _ _ _ _ _ _ _ ?_
            simp (disch := omega) only [B_X11_placesStatus_0, B_X11_placesStatus_17, B_X11_placesStatus_49, sp_X11_isTray, B_X11_isTray_0, sp_X11_isWithin, sp_X8_isMissing, sp_X8_spans, ht.k, ht.r, ht.k1, ht.n1, ht.ri, ht.ki, ht.ci, ht.kc, ht.nc, nI_1, nI_add, nI_clamp, nI_pin, nI_neg, nI_nonneg, nI_leE, nI_ltE, nI_eqE, Nat.not_le, Nat.not_lt, fq_10, fq_01, fq_rr, ix_aald, ix_aast, ix_abs, ix_alen, ix_aload, ix_aret, ix_astore, ix_bald, ix_bast, ix_call, ix_cpyI, ix_cpyJ, ix_dead, ix_dup2, ix_dup2L, ix_dupI, ix_dupR, ix_dupx1, ix_getI, ix_getJ, ix_getR, ix_gfm, ix_gtab, ix_i2b, ix_i2c, ix_i2l, ix_i2s, ix_iadd, ix_iald, ix_iand, ix_iast, ix_icall, ix_icmp_eq, ix_icmp_ge, ix_icmp_gt, ix_icmp_le, ix_icmp_lt, ix_icmp_ne, ix_idiv, ix_if_eq, ix_if_ge, ix_if_gt, ix_if_le, ix_if_lt, ix_if_ne, ix_iinc, ix_iload, ix_imul, ix_ineg, ix_ior, ix_irem, ix_iret, ix_ishl, ix_ishr, ix_istore, ix_isub, ix_iushr, ix_ixor, ix_l2i, ix_ladd, ix_lald, ix_land, ix_last, ix_lcmp, ix_ldcS, ix_ldiv, ix_lload, ix_lmul, ix_lor, ix_lrem, ix_lret, ix_lshl, ix_lstore, ix_lsub, ix_lsw, ix_max, ix_min, ix_new, ix_newa, ix_nret, ix_oinit, ix_pop2L, ix_popI, ix_pushI, ix_pushL, ix_putI, ix_putJ, ix_putR, ix_putZ, ix_sbald, ix_sgetC, ix_sgetV, ix_slen, ix_strc, ix_tald, ix_tsw, ix_vcall, ix_vret, ix_zret, stL, stL2, kilL, popN, fq_sw, fq_lsw, List.map_cons, List.map_nil, List.getElem?_cons_zero, List.getElem?_cons_succ, Option.toList_some, Option.toList_none, List.cons_append, List.nil_append, List.length_cons, List.length_nil, List.sum_cons, List.sum_nil, cat_i, cat_l, cat_r, true_and, and_true, Nat.zero_add, Nat.add_zero, Nat.le_refl, Nat.zero_le, Nat.reduceAdd, Nat.reduceLeDiff, exists_eq_left', Option.some.injEq, not_true_eq_false, not_false_eq_true, false_implies, true_implies, implies_true, and_self, or_true, true_or, or_false, false_or]
            exact ⟨fun _ => hq, fun h => absurd h (by omega)⟩
          | succ c ih =>
            intro i hi hq
            rw [fndU_1] at hq
            refine b_X11_placesStatus_49 _ _ _ _ _ _ _ _ ?_
            simp (disch := omega) only [B_X11_placesStatus_0, B_X11_placesStatus_17, B_X11_placesStatus_49, sp_X11_isTray, B_X11_isTray_0, sp_X11_isWithin, sp_X8_isMissing, sp_X8_spans, ht.k, ht.r, ht.k1, ht.n1, ht.ri, ht.ki, ht.ci, ht.kc, ht.nc, lg_cmp_ge, nI_1, nI_add, nI_clamp, nI_pin, nI_neg, nI_nonneg, nI_leE, nI_ltE, nI_eqE, Nat.not_le, Nat.not_lt, fq_10, fq_01, fq_rr, ix_aald, ix_aast, ix_abs, ix_alen, ix_aload, ix_aret, ix_astore, ix_bald, ix_bast, ix_call, ix_cpyI, ix_cpyJ, ix_dead, ix_dup2, ix_dup2L, ix_dupI, ix_dupR, ix_dupx1, ix_getI, ix_getJ, ix_getR, ix_gfm, ix_gtab, ix_i2b, ix_i2c, ix_i2l, ix_i2s, ix_iadd, ix_iald, ix_iand, ix_iast, ix_icall, ix_icmp_eq, ix_icmp_ge, ix_icmp_gt, ix_icmp_le, ix_icmp_lt, ix_icmp_ne, ix_idiv, ix_if_eq, ix_if_ge, ix_if_gt, ix_if_le, ix_if_lt, ix_if_ne, ix_iinc, ix_iload, ix_imul, ix_ineg, ix_ior, ix_irem, ix_iret, ix_ishl, ix_ishr, ix_istore, ix_isub, ix_iushr, ix_ixor, ix_l2i, ix_ladd, ix_lald, ix_land, ix_last, ix_lcmp, ix_ldcS, ix_ldiv, ix_lload, ix_lmul, ix_lor, ix_lrem, ix_lret, ix_lshl, ix_lstore, ix_lsub, ix_lsw, ix_max, ix_min, ix_new, ix_newa, ix_nret, ix_oinit, ix_pop2L, ix_popI, ix_pushI, ix_pushL, ix_putI, ix_putJ, ix_putR, ix_putZ, ix_sbald, ix_sgetC, ix_sgetV, ix_slen, ix_strc, ix_tald, ix_tsw, ix_vcall, ix_vret, ix_zret, stL, stL2, kilL, popN, fq_sw, fq_lsw, List.map_cons, List.map_nil, List.getElem?_cons_zero, List.getElem?_cons_succ, Option.toList_some, Option.toList_none, List.cons_append, List.nil_append, List.length_cons, List.length_nil, List.sum_cons, List.sum_nil, cat_i, cat_l, cat_r, true_and, and_true, Nat.zero_add, Nat.add_zero, Nat.le_refl, Nat.zero_le, Nat.reduceAdd, Nat.reduceLeDiff, exists_eq_left', Option.some.injEq, not_true_eq_false, not_false_eq_true, false_implies, true_implies, implies_true, and_self, or_true, true_or, or_false, false_or]
            refine ⟨fun h => absurd h (by omega), fun _ => ⟨fun h => ih (i + 1) (by omega) ?_, fun h => ?_⟩⟩
            · have e1 : (if decide (J (X + 2 + 2 * k + 1) i < 0) = true then nI i else fndU (fun i => decide (J (X + 2 + 2 * k + 1) i < 0)) (i + 1) c) = fndU (fun i => decide (J (X + 2 + 2 * k + 1) i < 0)) (i + 1) c := if_neg (by simpa using h)
              rw [e1] at hq
              exact hq
            · have e1 : (if decide (J (X + 2 + 2 * k + 1) i < 0) = true then nI i else fndU (fun i => decide (J (X + 2 + 2 * k + 1) i < 0)) (i + 1) c) = nI i := if_pos (by simpa using Int64.not_le.mp h)
              rw [e1, if_neg (fun q => by rw [nI_m1 (by omega)] at q; exact q)] at hq
              exact hq
        refine fq_enter [some (.ref X), some (.int (nI k)), some (.int (nI m)), none, none] (by decide +kernel) (Nat.le_of_ble_eq_true rfl) rfl (b_X11_placesStatus_0 _ _ _ _ _ _ _ _ ?_)
        simp (disch := omega) only [B_X11_placesStatus_0, B_X11_placesStatus_17, B_X11_placesStatus_49, sp_X11_isTray, B_X11_isTray_0, sp_X11_isWithin, sp_X8_isMissing, sp_X8_spans, ht.k, ht.r, ht.k1, ht.n1, ht.ri, ht.ki, ht.ci, ht.kc, ht.nc, h1, h2, bI_01, bI_01b, bI_0, bI_tr, bI_fl, nI_1, nI_add, nI_clamp, nI_pin, nI_neg, nI_nonneg, nI_leE, nI_ltE, nI_eqE, Nat.not_le, Nat.not_lt, fq_10, fq_01, fq_rr, ix_aald, ix_aast, ix_abs, ix_alen, ix_aload, ix_aret, ix_astore, ix_bald, ix_bast, ix_call, ix_cpyI, ix_cpyJ, ix_dead, ix_dup2, ix_dup2L, ix_dupI, ix_dupR, ix_dupx1, ix_getI, ix_getJ, ix_getR, ix_gfm, ix_gtab, ix_i2b, ix_i2c, ix_i2l, ix_i2s, ix_iadd, ix_iald, ix_iand, ix_iast, ix_icall, ix_icmp_eq, ix_icmp_ge, ix_icmp_gt, ix_icmp_le, ix_icmp_lt, ix_icmp_ne, ix_idiv, ix_if_eq, ix_if_ge, ix_if_gt, ix_if_le, ix_if_lt, ix_if_ne, ix_iinc, ix_iload, ix_imul, ix_ineg, ix_ior, ix_irem, ix_iret, ix_ishl, ix_ishr, ix_istore, ix_isub, ix_iushr, ix_ixor, ix_l2i, ix_ladd, ix_lald, ix_land, ix_last, ix_lcmp, ix_ldcS, ix_ldiv, ix_lload, ix_lmul, ix_lor, ix_lrem, ix_lret, ix_lshl, ix_lstore, ix_lsub, ix_lsw, ix_max, ix_min, ix_new, ix_newa, ix_nret, ix_oinit, ix_pop2L, ix_popI, ix_pushI, ix_pushL, ix_putI, ix_putJ, ix_putR, ix_putZ, ix_sbald, ix_sgetC, ix_sgetV, ix_slen, ix_strc, ix_tald, ix_tsw, ix_vcall, ix_vret, ix_zret, stL, stL2, kilL, popN, fq_sw, fq_lsw, List.map_cons, List.map_nil, List.getElem?_cons_zero, List.getElem?_cons_succ, Option.toList_some, Option.toList_none, List.cons_append, List.nil_append, List.length_cons, List.length_nil, List.sum_cons, List.sum_nil, cat_i, cat_l, cat_r, true_and, and_true, Nat.zero_add, Nat.add_zero, Nat.le_refl, Nat.zero_le, Nat.reduceAdd, Nat.reduceLeDiff, exists_eq_left', Option.some.injEq, not_true_eq_false, not_false_eq_true, false_implies, true_implies, implies_true, and_self, or_true, true_or, or_false, false_or]
        refine ⟨fun g1 => ⟨fun g2 => ?_, fun g2 => ?_⟩, fun g1 => ?_⟩
        · rw [if_neg g1, if_neg g2] at hQ
          exact lp m 0 (by omega) hQ
        · rw [if_neg g1, if_pos g2] at hQ
          exact hQ
        · rw [if_pos (Decidable.not_not.mp g1)] at hQ
          exact hQ
      · refine fq_enter [some (.ref X), some (.int t), some (.int n), none, none] (by decide +kernel) (Nat.le_of_ble_eq_true rfl) rfl (b_X11_placesStatus_0 _ _ _ _ _ _ _ _ ?_)
        simp (disch := omega) only [B_X11_placesStatus_0, B_X11_placesStatus_17, B_X11_placesStatus_49, sp_X11_isTray, B_X11_isTray_0, sp_X11_isWithin, sp_X8_isMissing, sp_X8_spans, ht.k, ht.r, ht.k1, ht.n1, h1, h2, bI_01, bI_01b, bI_0, bI_tr, bI_fl, nI_1, nI_add, nI_clamp, nI_pin, nI_neg, nI_nonneg, nI_leE, nI_ltE, nI_eqE, Nat.not_le, Nat.not_lt, fq_10, fq_01, fq_rr, ix_aald, ix_aast, ix_abs, ix_alen, ix_aload, ix_aret, ix_astore, ix_bald, ix_bast, ix_call, ix_cpyI, ix_cpyJ, ix_dead, ix_dup2, ix_dup2L, ix_dupI, ix_dupR, ix_dupx1, ix_getI, ix_getJ, ix_getR, ix_gfm, ix_gtab, ix_i2b, ix_i2c, ix_i2l, ix_i2s, ix_iadd, ix_iald, ix_iand, ix_iast, ix_icall, ix_icmp_eq, ix_icmp_ge, ix_icmp_gt, ix_icmp_le, ix_icmp_lt, ix_icmp_ne, ix_idiv, ix_if_eq, ix_if_ge, ix_if_gt, ix_if_le, ix_if_lt, ix_if_ne, ix_iinc, ix_iload, ix_imul, ix_ineg, ix_ior, ix_irem, ix_iret, ix_ishl, ix_ishr, ix_istore, ix_isub, ix_iushr, ix_ixor, ix_l2i, ix_ladd, ix_lald, ix_land, ix_last, ix_lcmp, ix_ldcS, ix_ldiv, ix_lload, ix_lmul, ix_lor, ix_lrem, ix_lret, ix_lshl, ix_lstore, ix_lsub, ix_lsw, ix_max, ix_min, ix_new, ix_newa, ix_nret, ix_oinit, ix_pop2L, ix_popI, ix_pushI, ix_pushL, ix_putI, ix_putJ, ix_putR, ix_putZ, ix_sbald, ix_sgetC, ix_sgetV, ix_slen, ix_strc, ix_tald, ix_tsw, ix_vcall, ix_vret, ix_zret, stL, stL2, kilL, popN, fq_sw, fq_lsw, List.map_cons, List.map_nil, List.getElem?_cons_zero, List.getElem?_cons_succ, Option.toList_some, Option.toList_none, List.cons_append, List.nil_append, List.length_cons, List.length_nil, List.sum_cons, List.sum_nil, cat_i, cat_l, cat_r, true_and, and_true, Nat.zero_add, Nat.add_zero, Nat.le_refl, Nat.zero_le, Nat.reduceAdd, Nat.reduceLeDiff, exists_eq_left', Option.some.injEq, not_true_eq_false, not_false_eq_true, false_implies, true_implies, implies_true, and_self, or_true, true_or, or_false, false_or]
        rw [if_pos (fun q => h2 q.2)] at hQ
        exact hQ
    · refine fq_enter [some (.ref X), some (.int t), some (.int n), none, none] (by decide +kernel) (Nat.le_of_ble_eq_true rfl) rfl (b_X11_placesStatus_0 _ _ _ _ _ _ _ _ ?_)
      simp (disch := omega) only [B_X11_placesStatus_0, B_X11_placesStatus_17, B_X11_placesStatus_49, sp_X11_isTray, B_X11_isTray_0, sp_X11_isWithin, sp_X8_isMissing, sp_X8_spans, ht.k, ht.r, ht.k1, ht.n1, h1, bI_01, bI_01b, bI_0, bI_tr, bI_fl, nI_1, nI_add, nI_clamp, nI_pin, nI_neg, nI_nonneg, nI_leE, nI_ltE, nI_eqE, Nat.not_le, Nat.not_lt, fq_10, fq_01, fq_rr, ix_aald, ix_aast, ix_abs, ix_alen, ix_aload, ix_aret, ix_astore, ix_bald, ix_bast, ix_call, ix_cpyI, ix_cpyJ, ix_dead, ix_dup2, ix_dup2L, ix_dupI, ix_dupR, ix_dupx1, ix_getI, ix_getJ, ix_getR, ix_gfm, ix_gtab, ix_i2b, ix_i2c, ix_i2l, ix_i2s, ix_iadd, ix_iald, ix_iand, ix_iast, ix_icall, ix_icmp_eq, ix_icmp_ge, ix_icmp_gt, ix_icmp_le, ix_icmp_lt, ix_icmp_ne, ix_idiv, ix_if_eq, ix_if_ge, ix_if_gt, ix_if_le, ix_if_lt, ix_if_ne, ix_iinc, ix_iload, ix_imul, ix_ineg, ix_ior, ix_irem, ix_iret, ix_ishl, ix_ishr, ix_istore, ix_isub, ix_iushr, ix_ixor, ix_l2i, ix_ladd, ix_lald, ix_land, ix_last, ix_lcmp, ix_ldcS, ix_ldiv, ix_lload, ix_lmul, ix_lor, ix_lrem, ix_lret, ix_lshl, ix_lstore, ix_lsub, ix_lsw, ix_max, ix_min, ix_new, ix_newa, ix_nret, ix_oinit, ix_pop2L, ix_popI, ix_pushI, ix_pushL, ix_putI, ix_putJ, ix_putR, ix_putZ, ix_sbald, ix_sgetC, ix_sgetV, ix_slen, ix_strc, ix_tald, ix_tsw, ix_vcall, ix_vret, ix_zret, stL, stL2, kilL, popN, fq_sw, fq_lsw, List.map_cons, List.map_nil, List.getElem?_cons_zero, List.getElem?_cons_succ, Option.toList_some, Option.toList_none, List.cons_append, List.nil_append, List.length_cons, List.length_nil, List.sum_cons, List.sum_nil, cat_i, cat_l, cat_r, true_and, and_true, Nat.zero_add, Nat.add_zero, Nat.le_refl, Nat.zero_le, Nat.reduceAdd, Nat.reduceLeDiff, exists_eq_left', Option.some.injEq, not_true_eq_false, not_false_eq_true, false_implies, true_implies, implies_true, and_self, or_true, true_or, or_false, false_or]
      rw [if_pos (fun q => h1 q.1)] at hQ
      exact hQ
  · exact h.elim
theorem dX11_ways_0 : decode cX11_ways 0 = .ok (.aload_n 0, 1) := by decide +kernel
theorem dX11_ways_1 : decode cX11_ways 1 = .ok (.iload_n 1, 1) := by decide +kernel
theorem dX11_ways_2 : decode cX11_ways 2 = .ok (.iload_n 2, 1) := by decide +kernel
theorem dX11_ways_3 : decode cX11_ways 3 = .ok (.invokevirtual 380, 3) := by decide +kernel
theorem dX11_ways_6 : decode cX11_ways 6 = .ok (.istore_n 3, 1) := by decide +kernel
theorem dX11_ways_7 : decode cX11_ways 7 = .ok (.iload_n 3, 1) := by decide +kernel
theorem dX11_ways_8 : decode cX11_ways 8 = .ok (.ifCond .eq 10, 3) := by decide +kernel
theorem dX11_ways_11 : decode cX11_ways 11 = .ok (.aload_n 0, 1) := by decide +kernel
theorem dX11_ways_12 : decode cX11_ways 12 = .ok (.iload_n 3, 1) := by decide +kernel
theorem dX11_ways_13 : decode cX11_ways 13 = .ok (.invokevirtual 97, 3) := by decide +kernel
theorem dX11_ways_16 : decode cX11_ways 16 = .ok (.i2l, 1) := by decide +kernel
theorem dX11_ways_17 : decode cX11_ways 17 = .ok (.lreturn, 1) := by decide +kernel
theorem dX11_ways_18 : decode cX11_ways 18 = .ok (.lconst 1, 1) := by decide +kernel
theorem dX11_ways_19 : decode cX11_ways 19 = .ok (.lstore 4, 2) := by decide +kernel
theorem dX11_ways_21 : decode cX11_ways 21 = .ok (.iconst 1, 1) := by decide +kernel
theorem dX11_ways_22 : decode cX11_ways 22 = .ok (.istore 6, 2) := by decide +kernel
theorem dX11_ways_24 : decode cX11_ways 24 = .ok (.iload 6, 2) := by decide +kernel
theorem dX11_ways_26 : decode cX11_ways 26 = .ok (.iload_n 2, 1) := by decide +kernel
theorem dX11_ways_27 : decode cX11_ways 27 = .ok (.if_icmp .ge 29, 3) := by decide +kernel
theorem dX11_ways_30 : decode cX11_ways 30 = .ok (.lload 4, 2) := by decide +kernel
theorem dX11_ways_32 : decode cX11_ways 32 = .ok (.aload_n 0, 1) := by decide +kernel
theorem dX11_ways_33 : decode cX11_ways 33 = .ok (.aload_n 0, 1) := by decide +kernel
theorem dX11_ways_34 : decode cX11_ways 34 = .ok (.getfield 11, 3) := by decide +kernel
theorem dX11_ways_37 : decode cX11_ways 37 = .ok (.iload_n 1, 1) := by decide +kernel
theorem dX11_ways_38 : decode cX11_ways 38 = .ok (.aaload, 1) := by decide +kernel
theorem dX11_ways_39 : decode cX11_ways 39 = .ok (.iload 6, 2) := by decide +kernel
theorem dX11_ways_41 : decode cX11_ways 41 = .ok (.invokevirtual 383, 3) := by decide +kernel
theorem dX11_ways_44 : decode cX11_ways 44 = .ok (.invokestatic 387, 3) := by decide +kernel
theorem dX11_ways_47 : decode cX11_ways 47 = .ok (.lmul, 1) := by decide +kernel
theorem dX11_ways_48 : decode cX11_ways 48 = .ok (.lstore 4, 2) := by decide +kernel
theorem dX11_ways_50 : decode cX11_ways 50 = .ok (.iinc 6 1, 3) := by decide +kernel
theorem dX11_ways_53 : decode cX11_ways 53 = .ok (.goto (-29), 3) := by decide +kernel
theorem dX11_ways_56 : decode cX11_ways 56 = .ok (.aload_n 0, 1) := by decide +kernel
theorem dX11_ways_57 : decode cX11_ways 57 = .ok (.iconst 0, 1) := by decide +kernel
theorem dX11_ways_58 : decode cX11_ways 58 = .ok (.putfield 64, 3) := by decide +kernel
theorem dX11_ways_61 : decode cX11_ways 61 = .ok (.lload 4, 2) := by decide +kernel
theorem dX11_ways_63 : decode cX11_ways 63 = .ok (.lreturn, 1) := by decide +kernel
abbrev M_X11_ways : MT := (yX11_ways, cX11_ways, 7, (some .long))
theorem cf_X11_ways : fq_cf M_X11_ways 2 := ⟨(mg_1 (List.mem_of_getElem? (i := 1) rfl) rfl), (mg_6 (List.mem_of_getElem? (i := 51) rfl) rfl), ⟨by decide, by decide, by decide +kernel⟩, by decide⟩
def B_X11_ways_24 (l : Launch) (G : GT) (D mc ms : Nat) (Q : Post) : Cn := ix_iload 6 (ix_iload 2 (ix_icmp_ge (ix_aload 0 (ix_pushI 0 (ix_putI 11 10 (ix_lload 4 (ix_lret mc ms Q))))) (ix_lload 4 (ix_aload 0 (ix_aload 0 (ix_getR 11 0 (ix_iload 1 (ix_aald 20 (ix_iload 6 (ix_vcall 11 3 0 0 mc ms (sp_X11_shoutsBetween G) (ix_call 1 0 0 mc ms (sp_X11_rowsFor G) (ix_lmul (ix_lstore 4 (ix_iinc 6 1 (fqAt l G M_X11_ways (D + 3) mc ms Q 24)))))))))))))))
theorem b_X11_ways_24 {l : Launch} {G : GT} {D mc ms : Nat} {Q : Post} : Imp l G M_X11_ways (D + 3) mc ms Q (B_X11_ways_24 l G D mc ms Q) 24 := sx_iload dX11_ways_24 (sx_iload_n dX11_ways_26 rfl (sx_icmp_ge 56 dX11_ways_27 (by decide) (sx_aload_n dX11_ways_56 rfl (sx_iconst dX11_ways_57 rfl (sx_putI dX11_ways_58 fl_FootQuarrel_64 (by decide) (fun _ _ _ => rfl) (fun _ => ⟨rfl, rfl⟩) (sx_lload dX11_ways_61 (sx_lret dX11_ways_63 rfl))))) (sx_lload dX11_ways_30 (sx_aload_n dX11_ways_32 rfl (sx_aload_n dX11_ways_33 rfl (sx_getR dX11_ways_34 fl_FootQuarrel_11 (fun _ _ _ => rfl) (sx_iload_n dX11_ways_37 rfl (sx_aald dX11_ways_38 (by decide) (by decide) rfl (sx_iload dX11_ways_39 (sx_vcall dX11_ways_41 cf_X11_shoutsBetween (mg_6 (List.mem_of_getElem? (i := 56) rfl) rfl) (mg_6 (List.mem_of_getElem? (i := 58) rfl) rfl) (mg_p (List.mem_of_getElem? (i := 37) rfl) rfl) rfl c_X11_shoutsBetween (sx_scall dX11_ways_44 cf_X11_rowsFor (mg_6 (List.mem_of_getElem? (i := 60) rfl) rfl) (mg_6 (List.mem_of_getElem? (i := 61) rfl) rfl) c_X11_rowsFor (sx_lmul dX11_ways_47 (sx_lstore dX11_ways_48 (by decide) (sx_iinc dX11_ways_50 rfl (by decide) (sx_goto 24 dX11_ways_53 (by decide) ((fun _ _ _ _ _ _ _ _ h => h)))))))))))))))))
def B_X11_ways_0 (l : Launch) (G : GT) (D mc ms : Nat) (Q : Post) : Cn := ix_aload 0 (ix_iload 1 (ix_iload 2 (ix_vcall 11 3 0 0 mc ms (sp_X11_placesStatus G) (ix_istore 3 (ix_iload 3 (ix_if_eq (ix_pushL 1 (ix_lstore 4 (ix_pushI 1 (ix_istore 6 (fqAt l G M_X11_ways (D + 3) mc ms Q 24))))) (ix_aload 0 (ix_iload 3 (ix_vcall 11 2 0 0 mc ms (sp_X11_refuse G) (ix_i2l (ix_lret mc ms Q)))))))))))
theorem b_X11_ways_0 {l : Launch} {G : GT} {D mc ms : Nat} {Q : Post} : Imp l G M_X11_ways (D + 3) mc ms Q (B_X11_ways_0 l G D mc ms Q) 0 := sx_aload_n dX11_ways_0 rfl (sx_iload_n dX11_ways_1 rfl (sx_iload_n dX11_ways_2 rfl (sx_vcall dX11_ways_3 cf_X11_placesStatus (mg_6 (List.mem_of_getElem? (i := 52) rfl) rfl) (mg_6 (List.mem_of_getElem? (i := 54) rfl) rfl) (mg_p (List.mem_of_getElem? (i := 36) rfl) rfl) rfl c_X11_placesStatus (sx_istore_n dX11_ways_6 rfl (by decide) (sx_iload_n dX11_ways_7 rfl (sx_if_eq 18 dX11_ways_8 (by decide) (sx_lconst dX11_ways_18 rfl (sx_lstore dX11_ways_19 (by decide) (sx_iconst dX11_ways_21 rfl (sx_istore dX11_ways_22 (by decide) ((fun _ _ _ _ _ _ _ _ h => h)))))) (sx_aload_n dX11_ways_11 rfl (sx_iload_n dX11_ways_12 rfl (sx_vcall dX11_ways_13 cf_X11_refuse (mg_3 (List.mem_of_getElem? (i := 120) rfl) rfl) (mg_3 (List.mem_of_getElem? (i := 122) rfl) rfl) (mg_p (List.mem_of_getElem? (i := 3) rfl) rfl) rfl c_X11_refuse (sx_i2l dX11_ways_16 (sx_lret dX11_ways_17 rfl)))))))))))
theorem dX11_fewest_0 : decode cX11_fewest 0 = .ok (.aload_n 0, 1) := by decide +kernel
theorem dX11_fewest_1 : decode cX11_fewest 1 = .ok (.iload_n 1, 1) := by decide +kernel
theorem dX11_fewest_2 : decode cX11_fewest 2 = .ok (.iload_n 2, 1) := by decide +kernel
theorem dX11_fewest_3 : decode cX11_fewest 3 = .ok (.invokevirtual 380, 3) := by decide +kernel
theorem dX11_fewest_6 : decode cX11_fewest 6 = .ok (.istore_n 3, 1) := by decide +kernel
theorem dX11_fewest_7 : decode cX11_fewest 7 = .ok (.iload_n 3, 1) := by decide +kernel
theorem dX11_fewest_8 : decode cX11_fewest 8 = .ok (.ifCond .eq 9, 3) := by decide +kernel
theorem dX11_fewest_11 : decode cX11_fewest 11 = .ok (.aload_n 0, 1) := by decide +kernel
theorem dX11_fewest_12 : decode cX11_fewest 12 = .ok (.iload_n 3, 1) := by decide +kernel
theorem dX11_fewest_13 : decode cX11_fewest 13 = .ok (.invokevirtual 97, 3) := by decide +kernel
theorem dX11_fewest_16 : decode cX11_fewest 16 = .ok (.ireturn, 1) := by decide +kernel
theorem dX11_fewest_17 : decode cX11_fewest 17 = .ok (.iconst 0, 1) := by decide +kernel
theorem dX11_fewest_18 : decode cX11_fewest 18 = .ok (.istore 4, 2) := by decide +kernel
theorem dX11_fewest_20 : decode cX11_fewest 20 = .ok (.iconst 1, 1) := by decide +kernel
theorem dX11_fewest_21 : decode cX11_fewest 21 = .ok (.istore 5, 2) := by decide +kernel
theorem dX11_fewest_23 : decode cX11_fewest 23 = .ok (.iload 5, 2) := by decide +kernel
theorem dX11_fewest_25 : decode cX11_fewest 25 = .ok (.iload_n 2, 1) := by decide +kernel
theorem dX11_fewest_26 : decode cX11_fewest 26 = .ok (.if_icmp .ge 46, 3) := by decide +kernel
theorem dX11_fewest_29 : decode cX11_fewest 29 = .ok (.aload_n 0, 1) := by decide +kernel
theorem dX11_fewest_30 : decode cX11_fewest 30 = .ok (.aload_n 0, 1) := by decide +kernel
theorem dX11_fewest_31 : decode cX11_fewest 31 = .ok (.getfield 11, 3) := by decide +kernel
theorem dX11_fewest_34 : decode cX11_fewest 34 = .ok (.iload_n 1, 1) := by decide +kernel
theorem dX11_fewest_35 : decode cX11_fewest 35 = .ok (.aaload, 1) := by decide +kernel
theorem dX11_fewest_36 : decode cX11_fewest 36 = .ok (.iload 5, 2) := by decide +kernel
theorem dX11_fewest_38 : decode cX11_fewest 38 = .ok (.invokevirtual 383, 3) := by decide +kernel
theorem dX11_fewest_41 : decode cX11_fewest 41 = .ok (.istore 6, 2) := by decide +kernel
theorem dX11_fewest_43 : decode cX11_fewest 43 = .ok (.iload 6, 2) := by decide +kernel
theorem dX11_fewest_45 : decode cX11_fewest 45 = .ok (.iconst 4, 1) := by decide +kernel
theorem dX11_fewest_46 : decode cX11_fewest 46 = .ok (.if_icmp .ne 10, 3) := by decide +kernel
theorem dX11_fewest_49 : decode cX11_fewest 49 = .ok (.aload_n 0, 1) := by decide +kernel
theorem dX11_fewest_50 : decode cX11_fewest 50 = .ok (.bipush 6, 2) := by decide +kernel
theorem dX11_fewest_52 : decode cX11_fewest 52 = .ok (.invokevirtual 97, 3) := by decide +kernel
theorem dX11_fewest_55 : decode cX11_fewest 55 = .ok (.ireturn, 1) := by decide +kernel
theorem dX11_fewest_56 : decode cX11_fewest 56 = .ok (.iload 4, 2) := by decide +kernel
theorem dX11_fewest_58 : decode cX11_fewest 58 = .ok (.iload 6, 2) := by decide +kernel
theorem dX11_fewest_60 : decode cX11_fewest 60 = .ok (.invokestatic 391, 3) := by decide +kernel
theorem dX11_fewest_63 : decode cX11_fewest 63 = .ok (.iadd, 1) := by decide +kernel
theorem dX11_fewest_64 : decode cX11_fewest 64 = .ok (.istore 4, 2) := by decide +kernel
theorem dX11_fewest_66 : decode cX11_fewest 66 = .ok (.iinc 5 1, 3) := by decide +kernel
theorem dX11_fewest_69 : decode cX11_fewest 69 = .ok (.goto (-46), 3) := by decide +kernel
theorem dX11_fewest_72 : decode cX11_fewest 72 = .ok (.aload_n 0, 1) := by decide +kernel
theorem dX11_fewest_73 : decode cX11_fewest 73 = .ok (.iload 4, 2) := by decide +kernel
theorem dX11_fewest_75 : decode cX11_fewest 75 = .ok (.invokevirtual 142, 3) := by decide +kernel
theorem dX11_fewest_78 : decode cX11_fewest 78 = .ok (.ireturn, 1) := by decide +kernel
abbrev M_X11_fewest : MT := (yX11_fewest, cX11_fewest, 7, (some .int))
theorem cf_X11_fewest : fq_cf M_X11_fewest 2 := ⟨(mg_1 (List.mem_of_getElem? (i := 1) rfl) rfl), (mg_6 (List.mem_of_getElem? (i := 69) rfl) rfl), ⟨by decide, by decide, by decide +kernel⟩, by decide⟩
def B_X11_fewest_23 (l : Launch) (G : GT) (D mc ms : Nat) (Q : Post) : Cn := ix_iload 5 (ix_iload 2 (ix_icmp_ge (ix_aload 0 (ix_iload 4 (ix_vcall 11 2 0 0 mc ms (sp_X11_answer G) (ix_iret mc ms Q)))) (ix_aload 0 (ix_aload 0 (ix_getR 11 0 (ix_iload 1 (ix_aald 20 (ix_iload 5 (ix_vcall 11 3 0 0 mc ms (sp_X11_shoutsBetween G) (ix_istore 6 (ix_iload 6 (ix_pushI 4 (ix_icmp_ne (ix_iload 4 (ix_iload 6 (ix_abs mc ms (ix_iadd (ix_istore 4 (ix_iinc 5 1 (fqAt l G M_X11_fewest (D + 3) mc ms Q 23))))))) (ix_aload 0 (ix_pushI 6 (ix_vcall 11 2 0 0 mc ms (sp_X11_refuse G) (ix_iret mc ms Q)))))))))))))))))
theorem b_X11_fewest_23 {l : Launch} {G : GT} {D mc ms : Nat} {Q : Post} : Imp l G M_X11_fewest (D + 3) mc ms Q (B_X11_fewest_23 l G D mc ms Q) 23 := sx_iload dX11_fewest_23 (sx_iload_n dX11_fewest_25 rfl (sx_icmp_ge 72 dX11_fewest_26 (by decide) (sx_aload_n dX11_fewest_72 rfl (sx_iload dX11_fewest_73 (sx_vcall dX11_fewest_75 cf_X11_answer (mg_4 (List.mem_of_getElem? (i := 72) rfl) rfl) (mg_4 (List.mem_of_getElem? (i := 74) rfl) rfl) (mg_p (List.mem_of_getElem? (i := 17) rfl) rfl) rfl c_X11_answer (sx_iret dX11_fewest_78 rfl)))) (sx_aload_n dX11_fewest_29 rfl (sx_aload_n dX11_fewest_30 rfl (sx_getR dX11_fewest_31 fl_FootQuarrel_11 (fun _ _ _ => rfl) (sx_iload_n dX11_fewest_34 rfl (sx_aald dX11_fewest_35 (by decide) (by decide) rfl (sx_iload dX11_fewest_36 (sx_vcall dX11_fewest_38 cf_X11_shoutsBetween (mg_6 (List.mem_of_getElem? (i := 56) rfl) rfl) (mg_6 (List.mem_of_getElem? (i := 58) rfl) rfl) (mg_p (List.mem_of_getElem? (i := 37) rfl) rfl) rfl c_X11_shoutsBetween (sx_istore dX11_fewest_41 (by decide) (sx_iload dX11_fewest_43 (sx_iconst dX11_fewest_45 rfl (sx_icmp_ne 56 dX11_fewest_46 (by decide) (sx_iload dX11_fewest_56 (sx_iload dX11_fewest_58 (sx_abs dX11_fewest_60 (mg_6 (List.mem_of_getElem? (i := 65) rfl) rfl) (mg_4 (List.mem_of_getElem? (i := 61) rfl) rfl) (mg_1 (List.mem_of_getElem? (i := 18) rfl) rfl) (mg_4 (List.mem_of_getElem? (i := 62) rfl) rfl) (sx_iadd dX11_fewest_63 (sx_istore dX11_fewest_64 (by decide) (sx_iinc dX11_fewest_66 rfl (by decide) (sx_goto 23 dX11_fewest_69 (by decide) ((fun _ _ _ _ _ _ _ _ h => h))))))))) (sx_aload_n dX11_fewest_49 rfl (sx_bipush dX11_fewest_50 rfl (sx_vcall dX11_fewest_52 cf_X11_refuse (mg_3 (List.mem_of_getElem? (i := 120) rfl) rfl) (mg_3 (List.mem_of_getElem? (i := 122) rfl) rfl) (mg_p (List.mem_of_getElem? (i := 3) rfl) rfl) rfl c_X11_refuse (sx_iret dX11_fewest_55 rfl)))))))))))))))))
def B_X11_fewest_0 (l : Launch) (G : GT) (D mc ms : Nat) (Q : Post) : Cn := ix_aload 0 (ix_iload 1 (ix_iload 2 (ix_vcall 11 3 0 0 mc ms (sp_X11_placesStatus G) (ix_istore 3 (ix_iload 3 (ix_if_eq (ix_pushI 0 (ix_istore 4 (ix_pushI 1 (ix_istore 5 (fqAt l G M_X11_fewest (D + 3) mc ms Q 23))))) (ix_aload 0 (ix_iload 3 (ix_vcall 11 2 0 0 mc ms (sp_X11_refuse G) (ix_iret mc ms Q))))))))))
theorem b_X11_fewest_0 {l : Launch} {G : GT} {D mc ms : Nat} {Q : Post} : Imp l G M_X11_fewest (D + 3) mc ms Q (B_X11_fewest_0 l G D mc ms Q) 0 := sx_aload_n dX11_fewest_0 rfl (sx_iload_n dX11_fewest_1 rfl (sx_iload_n dX11_fewest_2 rfl (sx_vcall dX11_fewest_3 cf_X11_placesStatus (mg_6 (List.mem_of_getElem? (i := 52) rfl) rfl) (mg_6 (List.mem_of_getElem? (i := 54) rfl) rfl) (mg_p (List.mem_of_getElem? (i := 36) rfl) rfl) rfl c_X11_placesStatus (sx_istore_n dX11_fewest_6 rfl (by decide) (sx_iload_n dX11_fewest_7 rfl (sx_if_eq 17 dX11_fewest_8 (by decide) (sx_iconst dX11_fewest_17 rfl (sx_istore dX11_fewest_18 (by decide) (sx_iconst dX11_fewest_20 rfl (sx_istore dX11_fewest_21 (by decide) ((fun _ _ _ _ _ _ _ _ h => h)))))) (sx_aload_n dX11_fewest_11 rfl (sx_iload_n dX11_fewest_12 rfl (sx_vcall dX11_fewest_13 cf_X11_refuse (mg_3 (List.mem_of_getElem? (i := 120) rfl) rfl) (mg_3 (List.mem_of_getElem? (i := 122) rfl) rfl) (mg_p (List.mem_of_getElem? (i := 3) rfl) rfl) rfl c_X11_refuse (sx_iret dX11_fewest_16 rfl))))))))))
theorem dX11_blame_0 : decode cX11_blame 0 = .ok (.aload_n 0, 1) := by decide +kernel
theorem dX11_blame_1 : decode cX11_blame 1 = .ok (.iload_n 1, 1) := by decide +kernel
theorem dX11_blame_2 : decode cX11_blame 2 = .ok (.iload_n 2, 1) := by decide +kernel
theorem dX11_blame_3 : decode cX11_blame 3 = .ok (.invokevirtual 380, 3) := by decide +kernel
theorem dX11_blame_6 : decode cX11_blame 6 = .ok (.istore_n 3, 1) := by decide +kernel
theorem dX11_blame_7 : decode cX11_blame 7 = .ok (.iload_n 3, 1) := by decide +kernel
theorem dX11_blame_8 : decode cX11_blame 8 = .ok (.ifCond .eq 10, 3) := by decide +kernel
theorem dX11_blame_11 : decode cX11_blame 11 = .ok (.aload_n 0, 1) := by decide +kernel
theorem dX11_blame_12 : decode cX11_blame 12 = .ok (.iload_n 3, 1) := by decide +kernel
theorem dX11_blame_13 : decode cX11_blame 13 = .ok (.invokevirtual 97, 3) := by decide +kernel
theorem dX11_blame_16 : decode cX11_blame 16 = .ok (.i2l, 1) := by decide +kernel
theorem dX11_blame_17 : decode cX11_blame 17 = .ok (.lreturn, 1) := by decide +kernel
theorem dX11_blame_18 : decode cX11_blame 18 = .ok (.lconst 1, 1) := by decide +kernel
theorem dX11_blame_19 : decode cX11_blame 19 = .ok (.lstore 4, 2) := by decide +kernel
theorem dX11_blame_21 : decode cX11_blame 21 = .ok (.lconst 0, 1) := by decide +kernel
theorem dX11_blame_22 : decode cX11_blame 22 = .ok (.lstore 6, 2) := by decide +kernel
theorem dX11_blame_24 : decode cX11_blame 24 = .ok (.iload_n 2, 1) := by decide +kernel
theorem dX11_blame_25 : decode cX11_blame 25 = .ok (.iconst 1, 1) := by decide +kernel
theorem dX11_blame_26 : decode cX11_blame 26 = .ok (.isub, 1) := by decide +kernel
theorem dX11_blame_27 : decode cX11_blame 27 = .ok (.istore 8, 2) := by decide +kernel
theorem dX11_blame_29 : decode cX11_blame 29 = .ok (.iload 8, 2) := by decide +kernel
theorem dX11_blame_31 : decode cX11_blame 31 = .ok (.iconst 1, 1) := by decide +kernel
theorem dX11_blame_32 : decode cX11_blame 32 = .ok (.if_icmp .lt 59, 3) := by decide +kernel
theorem dX11_blame_35 : decode cX11_blame 35 = .ok (.aload_n 0, 1) := by decide +kernel
theorem dX11_blame_36 : decode cX11_blame 36 = .ok (.aload_n 0, 1) := by decide +kernel
theorem dX11_blame_37 : decode cX11_blame 37 = .ok (.getfield 11, 3) := by decide +kernel
theorem dX11_blame_40 : decode cX11_blame 40 = .ok (.iload_n 1, 1) := by decide +kernel
theorem dX11_blame_41 : decode cX11_blame 41 = .ok (.aaload, 1) := by decide +kernel
theorem dX11_blame_42 : decode cX11_blame 42 = .ok (.iload 8, 2) := by decide +kernel
theorem dX11_blame_44 : decode cX11_blame 44 = .ok (.invokevirtual 383, 3) := by decide +kernel
theorem dX11_blame_47 : decode cX11_blame 47 = .ok (.istore 9, 2) := by decide +kernel
theorem dX11_blame_49 : decode cX11_blame 49 = .ok (.iload 9, 2) := by decide +kernel
theorem dX11_blame_51 : decode cX11_blame 51 = .ok (.ifCond .ne 8, 3) := by decide +kernel
theorem dX11_blame_54 : decode cX11_blame 54 = .ok (.lload 6, 2) := by decide +kernel
theorem dX11_blame_56 : decode cX11_blame 56 = .ok (.goto 4, 3) := by decide +kernel
theorem dX11_blame_59 : decode cX11_blame 59 = .ok (.lconst 0, 1) := by decide +kernel
theorem dX11_blame_60 : decode cX11_blame 60 = .ok (.lstore 10, 2) := by decide +kernel
theorem dX11_blame_62 : decode cX11_blame 62 = .ok (.iload 9, 2) := by decide +kernel
theorem dX11_blame_64 : decode cX11_blame 64 = .ok (.invokestatic 396, 3) := by decide +kernel
theorem dX11_blame_67 : decode cX11_blame 67 = .ok (.lload 4, 2) := by decide +kernel
theorem dX11_blame_69 : decode cX11_blame 69 = .ok (.lmul, 1) := by decide +kernel
theorem dX11_blame_70 : decode cX11_blame 70 = .ok (.lload 10, 2) := by decide +kernel
theorem dX11_blame_72 : decode cX11_blame 72 = .ok (.ladd, 1) := by decide +kernel
theorem dX11_blame_73 : decode cX11_blame 73 = .ok (.lstore 6, 2) := by decide +kernel
theorem dX11_blame_75 : decode cX11_blame 75 = .ok (.lload 4, 2) := by decide +kernel
theorem dX11_blame_77 : decode cX11_blame 77 = .ok (.iload 9, 2) := by decide +kernel
theorem dX11_blame_79 : decode cX11_blame 79 = .ok (.invokestatic 387, 3) := by decide +kernel
theorem dX11_blame_82 : decode cX11_blame 82 = .ok (.lmul, 1) := by decide +kernel
theorem dX11_blame_83 : decode cX11_blame 83 = .ok (.lstore 4, 2) := by decide +kernel
theorem dX11_blame_85 : decode cX11_blame 85 = .ok (.iinc 8 (-1), 3) := by decide +kernel
theorem dX11_blame_88 : decode cX11_blame 88 = .ok (.goto (-59), 3) := by decide +kernel
theorem dX11_blame_91 : decode cX11_blame 91 = .ok (.aload_n 0, 1) := by decide +kernel
theorem dX11_blame_92 : decode cX11_blame 92 = .ok (.iconst 0, 1) := by decide +kernel
theorem dX11_blame_93 : decode cX11_blame 93 = .ok (.putfield 64, 3) := by decide +kernel
theorem dX11_blame_96 : decode cX11_blame 96 = .ok (.lload 6, 2) := by decide +kernel
theorem dX11_blame_98 : decode cX11_blame 98 = .ok (.lreturn, 1) := by decide +kernel
abbrev M_X11_blame : MT := (yX11_blame, cX11_blame, 12, (some .long))
theorem cf_X11_blame : fq_cf M_X11_blame 2 := ⟨(mg_1 (List.mem_of_getElem? (i := 1) rfl) rfl), (mg_6 (List.mem_of_getElem? (i := 73) rfl) rfl), ⟨by decide, by decide, by decide +kernel⟩, by decide⟩
def B_X11_blame_60 (l : Launch) (G : GT) (D mc ms : Nat) (Q : Post) : Cn := ix_lstore 10 (ix_iload 9 (ix_call 1 0 0 mc ms (sp_X11_leftFirstFor G) (ix_lload 4 (ix_lmul (ix_lload 10 (ix_ladd (ix_lstore 6 (ix_lload 4 (ix_iload 9 (ix_call 1 0 0 mc ms (sp_X11_rowsFor G) (ix_lmul (ix_lstore 4 (ix_iinc 8 (-1) (fqAt l G M_X11_blame (D + 3) mc ms Q 29))))))))))))))
theorem b_X11_blame_60 {l : Launch} {G : GT} {D mc ms : Nat} {Q : Post} : Imp l G M_X11_blame (D + 3) mc ms Q (B_X11_blame_60 l G D mc ms Q) 60 := sx_lstore dX11_blame_60 (by decide) (sx_iload dX11_blame_62 (sx_scall dX11_blame_64 cf_X11_leftFirstFor (mg_6 (List.mem_of_getElem? (i := 74) rfl) rfl) (mg_6 (List.mem_of_getElem? (i := 75) rfl) rfl) c_X11_leftFirstFor (sx_lload dX11_blame_67 (sx_lmul dX11_blame_69 (sx_lload dX11_blame_70 (sx_ladd dX11_blame_72 (sx_lstore dX11_blame_73 (by decide) (sx_lload dX11_blame_75 (sx_iload dX11_blame_77 (sx_scall dX11_blame_79 cf_X11_rowsFor (mg_6 (List.mem_of_getElem? (i := 60) rfl) rfl) (mg_6 (List.mem_of_getElem? (i := 61) rfl) rfl) c_X11_rowsFor (sx_lmul dX11_blame_82 (sx_lstore dX11_blame_83 (by decide) (sx_iinc dX11_blame_85 rfl (by decide) (sx_goto 29 dX11_blame_88 (by decide) ((fun _ _ _ _ _ _ _ _ h => h))))))))))))))))
def B_X11_blame_29 (l : Launch) (G : GT) (D mc ms : Nat) (Q : Post) : Cn := ix_iload 8 (ix_pushI 1 (ix_icmp_lt (ix_aload 0 (ix_pushI 0 (ix_putI 11 10 (ix_lload 6 (ix_lret mc ms Q))))) (ix_aload 0 (ix_aload 0 (ix_getR 11 0 (ix_iload 1 (ix_aald 20 (ix_iload 8 (ix_vcall 11 3 0 0 mc ms (sp_X11_shoutsBetween G) (ix_istore 9 (ix_iload 9 (ix_if_ne (ix_pushL 0 ((B_X11_blame_60 l G D mc ms Q))) (ix_lload 6 ((B_X11_blame_60 l G D mc ms Q)))))))))))))))
theorem b_X11_blame_29 {l : Launch} {G : GT} {D mc ms : Nat} {Q : Post} : Imp l G M_X11_blame (D + 3) mc ms Q (B_X11_blame_29 l G D mc ms Q) 29 := sx_iload dX11_blame_29 (sx_iconst dX11_blame_31 rfl (sx_icmp_lt 91 dX11_blame_32 (by decide) (sx_aload_n dX11_blame_91 rfl (sx_iconst dX11_blame_92 rfl (sx_putI dX11_blame_93 fl_FootQuarrel_64 (by decide) (fun _ _ _ => rfl) (fun _ => ⟨rfl, rfl⟩) (sx_lload dX11_blame_96 (sx_lret dX11_blame_98 rfl))))) (sx_aload_n dX11_blame_35 rfl (sx_aload_n dX11_blame_36 rfl (sx_getR dX11_blame_37 fl_FootQuarrel_11 (fun _ _ _ => rfl) (sx_iload_n dX11_blame_40 rfl (sx_aald dX11_blame_41 (by decide) (by decide) rfl (sx_iload dX11_blame_42 (sx_vcall dX11_blame_44 cf_X11_shoutsBetween (mg_6 (List.mem_of_getElem? (i := 56) rfl) rfl) (mg_6 (List.mem_of_getElem? (i := 58) rfl) rfl) (mg_p (List.mem_of_getElem? (i := 37) rfl) rfl) rfl c_X11_shoutsBetween (sx_istore dX11_blame_47 (by decide) (sx_iload dX11_blame_49 (sx_if_ne 59 dX11_blame_51 (by decide) (sx_lconst dX11_blame_59 rfl (b_X11_blame_60)) (sx_lload dX11_blame_54 (sx_goto 60 dX11_blame_56 (by decide) (b_X11_blame_60)))))))))))))))
def B_X11_blame_0 (l : Launch) (G : GT) (D mc ms : Nat) (Q : Post) : Cn := ix_aload 0 (ix_iload 1 (ix_iload 2 (ix_vcall 11 3 0 0 mc ms (sp_X11_placesStatus G) (ix_istore 3 (ix_iload 3 (ix_if_eq (ix_pushL 1 (ix_lstore 4 (ix_pushL 0 (ix_lstore 6 (ix_iload 2 (ix_pushI 1 (ix_isub (ix_istore 8 (fqAt l G M_X11_blame (D + 3) mc ms Q 29))))))))) (ix_aload 0 (ix_iload 3 (ix_vcall 11 2 0 0 mc ms (sp_X11_refuse G) (ix_i2l (ix_lret mc ms Q)))))))))))
theorem b_X11_blame_0 {l : Launch} {G : GT} {D mc ms : Nat} {Q : Post} : Imp l G M_X11_blame (D + 3) mc ms Q (B_X11_blame_0 l G D mc ms Q) 0 := sx_aload_n dX11_blame_0 rfl (sx_iload_n dX11_blame_1 rfl (sx_iload_n dX11_blame_2 rfl (sx_vcall dX11_blame_3 cf_X11_placesStatus (mg_6 (List.mem_of_getElem? (i := 52) rfl) rfl) (mg_6 (List.mem_of_getElem? (i := 54) rfl) rfl) (mg_p (List.mem_of_getElem? (i := 36) rfl) rfl) rfl c_X11_placesStatus (sx_istore_n dX11_blame_6 rfl (by decide) (sx_iload_n dX11_blame_7 rfl (sx_if_eq 18 dX11_blame_8 (by decide) (sx_lconst dX11_blame_18 rfl (sx_lstore dX11_blame_19 (by decide) (sx_lconst dX11_blame_21 rfl (sx_lstore dX11_blame_22 (by decide) (sx_iload_n dX11_blame_24 rfl (sx_iconst dX11_blame_25 rfl (sx_isub dX11_blame_26 (sx_istore dX11_blame_27 (by decide) ((fun _ _ _ _ _ _ _ _ h => h)))))))))) (sx_aload_n dX11_blame_11 rfl (sx_iload_n dX11_blame_12 rfl (sx_vcall dX11_blame_13 cf_X11_refuse (mg_3 (List.mem_of_getElem? (i := 120) rfl) rfl) (mg_3 (List.mem_of_getElem? (i := 122) rfl) rfl) (mg_p (List.mem_of_getElem? (i := 3) rfl) rfl) rfl c_X11_refuse (sx_i2l dX11_blame_16 (sx_lret dX11_blame_17 rfl)))))))))))
def wyU (J : JH) (t : Nat) (ft : Int32) (n : Nat) (x : Int64) : Int64 := foldU (fun i a => a * rwF (shB (J t i - J t (i - 1)) ft)) 1 (n - 1) x
def sp_X11_ways (G : GT) : Sp := fun as S I J z Q => match as with
  | [.ref X, .int t, .int n] => ∃ s, xsh S X s ∧ trS S X ∧ (¬ plS I J X t n = 0 → Q (some (.long (-1))) S (u2 I X 10 (plS I J X t n)) J z) ∧ (plS I J X t n = 0 → Q (some (.long (wyU J (X + 2 + 2 * t.toNatClampNeg + 1) (I s 9) n.toNatClampNeg 1))) S (u2 I X 10 0) J z)
  | _ => False
/-- what a row that may be asked for is -/
theorem plS_0 {I : IH} {J : JH} {X : Nat} {t n : Int32} (h : plS I J X t n = 0) : ∃ k m, k < 4 ∧ 1 ≤ m ∧ m ≤ 12 ∧ t = nI k ∧ n = nI m := by
  unfold plS at h
  by_cases h1 : (0 ≤ t ∧ t ≤ 3) ∧ (1 ≤ n ∧ n ≤ 12)
  · obtain ⟨k, hk, e1⟩ := in03 h1.1
    obtain ⟨m, hm1, hm2, e2⟩ := in112 h1.2
    exact ⟨k, m, hk, hm1, hm2, e1, e2⟩
  · rw [if_pos h1] at h
    exact absurd h (by decide)
theorem n_tX (X k : Nat) : X + 2 + 2 * k + 1 ≠ X := by omega
set_option maxHeartbeats 4000000 in
set_option maxRecDepth 20000 in
theorem c_X11_ways {l : Launch} {G : GT} {D : Nat} : ∀ as S I J z Q, sp_X11_ways G as S I J z Q → fqCall l G M_X11_ways (D + 3) 0 0 as S I J z Q := by
  intro as S I J z Q h
  unfold sp_X11_ways at h
  split at h
  · next X t n =>
    obtain ⟨s, ⟨x1, x2, hs⟩, ht, hQ1, hQ2⟩ := h
    by_cases hp : plS I J X t n = 0
    · have hq := hQ2 hp
      obtain ⟨k, m, hk, hm1, hm2, rfl, rfl⟩ := plS_0 hp
      rw [nI_clamp (by omega), nI_clamp (by omega)] at hq
      have lp : ∀ (c i : Nat) (a : Int64), 1 ≤ i → i + c = m → Q (some (.long (foldU (fun i a => a * rwF (shB (J (X + 2 + 2 * k + 1) i - J (X + 2 + 2 * k + 1) (i - 1)) (I s 9))) i c a))) S (u2 I X 10 0) J z → fqAt l G M_X11_ways (D + 3) 0 0 Q 24 [some (.ref X), some (.int (nI k)), some (.int (nI m)), some (.int 0), some (.long a), none, some (.int (nI i))] [] S I J z 0 0 := by
        intro c
        induction c with
        | zero =>
          intro i a hi1 hi hq
          refine b_X11_ways_24 _ _ _ _ _ _ _ _ ?_
          simp (disch := omega) only [B_X11_ways_0, B_X11_ways_24, sp_X11_placesStatus, sp_X11_refuse, B_X11_refuse_0, sp_X11_shoutsBetween, sp_X11_rowsFor, x1, x2, nI_1, nI_add, nI_clamp, nI_pin, nI_neg, nI_nonneg, nI_leE, nI_ltE, nI_eqE, Nat.not_le, Nat.not_lt, fq_10, fq_01, fq_rr, ix_aald, ix_aast, ix_abs, ix_alen, ix_aload, ix_aret, ix_astore, ix_bald, ix_bast, ix_call, ix_cpyI, ix_cpyJ, ix_dead, ix_dup2, ix_dup2L, ix_dupI, ix_dupR, ix_dupx1, ix_getI, ix_getJ, ix_getR, ix_gfm, ix_gtab, ix_i2b, ix_i2c, ix_i2l, ix_i2s, ix_iadd, ix_iald, ix_iand, ix_iast, ix_icall, ix_icmp_eq, ix_icmp_ge, ix_icmp_gt, ix_icmp_le, ix_icmp_lt, ix_icmp_ne, ix_idiv, ix_if_eq, ix_if_ge, ix_if_gt, ix_if_le, ix_if_lt, ix_if_ne, ix_iinc, ix_iload, ix_imul, ix_ineg, ix_ior, ix_irem, ix_iret, ix_ishl, ix_ishr, ix_istore, ix_isub, ix_iushr, ix_ixor, ix_l2i, ix_ladd, ix_lald, ix_land, ix_last, ix_lcmp, ix_ldcS, ix_ldiv, ix_lload, ix_lmul, ix_lor, ix_lrem, ix_lret, ix_lshl, ix_lstore, ix_lsub, ix_lsw, ix_max, ix_min, ix_new, ix_newa, ix_nret, ix_oinit, ix_pop2L, ix_popI, ix_pushI, ix_pushL, ix_putI, ix_putJ, ix_putR, ix_putZ, ix_sbald, ix_sgetC, ix_sgetV, ix_slen, ix_strc, ix_tald, ix_tsw, ix_vcall, ix_vret, ix_zret, stL, stL2, kilL, popN, fq_sw, fq_lsw, List.map_cons, List.map_nil, List.getElem?_cons_zero, List.getElem?_cons_succ, Option.toList_some, Option.toList_none, List.cons_append, List.nil_append, List.length_cons, List.length_nil, List.sum_cons, List.sum_nil, cat_i, cat_l, cat_r, true_and, and_true, Nat.zero_add, Nat.add_zero, Nat.le_refl, Nat.zero_le, Nat.reduceAdd, Nat.reduceLeDiff, exists_eq_left', Option.some.injEq, not_true_eq_false, not_false_eq_true, false_implies, true_implies, implies_true, and_self, or_true, true_or, or_false, false_or]
          exact ⟨fun _ => hq, fun h => absurd h (by omega)⟩
        | succ c ih =>
          intro i a hi1 hi hq
          rw [foldU_1] at hq
          obtain ⟨i, rfl⟩ : ∃ j, i = j + 1 := ⟨i - 1, by omega⟩
          have sb := shB_ab (J (X + 2 + 2 * k + 1) (i + 1) - J (X + 2 + 2 * k + 1) i) (I s 9)
          refine b_X11_ways_24 _ _ _ _ _ _ _ _ ?_
          simp (disch := omega) only [B_X11_ways_0, B_X11_ways_24, sp_X11_placesStatus, sp_X11_refuse, B_X11_refuse_0, sp_X11_shoutsBetween, sp_X11_rowsFor, x1, x2, ht.r, ht.k1, ht.n1, ht.ri, ht.ki, ht.ci, ht.kc, ht.nc, hs, xsh, nI_1, nI_add, nI_clamp, nI_pin, nI_neg, nI_nonneg, nI_leE, nI_ltE, nI_eqE, Nat.not_le, Nat.not_lt, fq_10, fq_01, fq_rr, ix_aald, ix_aast, ix_abs, ix_alen, ix_aload, ix_aret, ix_astore, ix_bald, ix_bast, ix_call, ix_cpyI, ix_cpyJ, ix_dead, ix_dup2, ix_dup2L, ix_dupI, ix_dupR, ix_dupx1, ix_getI, ix_getJ, ix_getR, ix_gfm, ix_gtab, ix_i2b, ix_i2c, ix_i2l, ix_i2s, ix_iadd, ix_iald, ix_iand, ix_iast, ix_icall, ix_icmp_eq, ix_icmp_ge, ix_icmp_gt, ix_icmp_le, ix_icmp_lt, ix_icmp_ne, ix_idiv, ix_if_eq, ix_if_ge, ix_if_gt, ix_if_le, ix_if_lt, ix_if_ne, ix_iinc, ix_iload, ix_imul, ix_ineg, ix_ior, ix_irem, ix_iret, ix_ishl, ix_ishr, ix_istore, ix_isub, ix_iushr, ix_ixor, ix_l2i, ix_ladd, ix_lald, ix_land, ix_last, ix_lcmp, ix_ldcS, ix_ldiv, ix_lload, ix_lmul, ix_lor, ix_lrem, ix_lret, ix_lshl, ix_lstore, ix_lsub, ix_lsw, ix_max, ix_min, ix_new, ix_newa, ix_nret, ix_oinit, ix_pop2L, ix_popI, ix_pushI, ix_pushL, ix_putI, ix_putJ, ix_putR, ix_putZ, ix_sbald, ix_sgetC, ix_sgetV, ix_slen, ix_strc, ix_tald, ix_tsw, ix_vcall, ix_vret, ix_zret, stL, stL2, kilL, popN, fq_sw, fq_lsw, List.map_cons, List.map_nil, List.getElem?_cons_zero, List.getElem?_cons_succ, Option.toList_some, Option.toList_none, List.cons_append, List.nil_append, List.length_cons, List.length_nil, List.sum_cons, List.sum_nil, cat_i, cat_l, cat_r, true_and, and_true, Nat.zero_add, Nat.add_zero, Nat.le_refl, Nat.zero_le, Nat.reduceAdd, Nat.reduceLeDiff, exists_eq_left', Option.some.injEq, not_true_eq_false, not_false_eq_true, false_implies, true_implies, implies_true, and_self, or_true, true_or, or_false, false_or]
          exact ⟨fun h => absurd h (by omega), fun _ => ⟨s, ⟨rfl, hs⟩, i, rfl, by omega, sb, ih (i + 1 + 1) _ (by omega) (by omega) hq⟩⟩
      refine fq_enter [some (.ref X), some (.int (nI k)), some (.int (nI m)), none, none, none, none] (by decide +kernel) (Nat.le_of_ble_eq_true rfl) rfl (b_X11_ways_0 _ _ _ _ _ _ _ _ ?_)
      simp (disch := omega) only [B_X11_ways_0, B_X11_ways_24, sp_X11_placesStatus, sp_X11_refuse, B_X11_refuse_0, sp_X11_shoutsBetween, sp_X11_rowsFor, x1, x2, ht, hp, nI_1, nI_add, nI_clamp, nI_pin, nI_neg, nI_nonneg, nI_leE, nI_ltE, nI_eqE, Nat.not_le, Nat.not_lt, fq_10, fq_01, fq_rr, ix_aald, ix_aast, ix_abs, ix_alen, ix_aload, ix_aret, ix_astore, ix_bald, ix_bast, ix_call, ix_cpyI, ix_cpyJ, ix_dead, ix_dup2, ix_dup2L, ix_dupI, ix_dupR, ix_dupx1, ix_getI, ix_getJ, ix_getR, ix_gfm, ix_gtab, ix_i2b, ix_i2c, ix_i2l, ix_i2s, ix_iadd, ix_iald, ix_iand, ix_iast, ix_icall, ix_icmp_eq, ix_icmp_ge, ix_icmp_gt, ix_icmp_le, ix_icmp_lt, ix_icmp_ne, ix_idiv, ix_if_eq, ix_if_ge, ix_if_gt, ix_if_le, ix_if_lt, ix_if_ne, ix_iinc, ix_iload, ix_imul, ix_ineg, ix_ior, ix_irem, ix_iret, ix_ishl, ix_ishr, ix_istore, ix_isub, ix_iushr, ix_ixor, ix_l2i, ix_ladd, ix_lald, ix_land, ix_last, ix_lcmp, ix_ldcS, ix_ldiv, ix_lload, ix_lmul, ix_lor, ix_lrem, ix_lret, ix_lshl, ix_lstore, ix_lsub, ix_lsw, ix_max, ix_min, ix_new, ix_newa, ix_nret, ix_oinit, ix_pop2L, ix_popI, ix_pushI, ix_pushL, ix_putI, ix_putJ, ix_putR, ix_putZ, ix_sbald, ix_sgetC, ix_sgetV, ix_slen, ix_strc, ix_tald, ix_tsw, ix_vcall, ix_vret, ix_zret, stL, stL2, kilL, popN, fq_sw, fq_lsw, List.map_cons, List.map_nil, List.getElem?_cons_zero, List.getElem?_cons_succ, Option.toList_some, Option.toList_none, List.cons_append, List.nil_append, List.length_cons, List.length_nil, List.sum_cons, List.sum_nil, cat_i, cat_l, cat_r, true_and, and_true, Nat.zero_add, Nat.add_zero, Nat.le_refl, Nat.zero_le, Nat.reduceAdd, Nat.reduceLeDiff, exists_eq_left', Option.some.injEq, not_true_eq_false, not_false_eq_true, false_implies, true_implies, implies_true, and_self, or_true, true_or, or_false, false_or]
      exact lp (m - 1) 1 1 (Nat.le_refl 1) (by omega) hq
    · refine fq_enter [some (.ref X), some (.int t), some (.int n), none, none, none, none] (by decide +kernel) (Nat.le_of_ble_eq_true rfl) rfl (b_X11_ways_0 _ _ _ _ _ _ _ _ ?_)
      simp (disch := omega) only [B_X11_ways_0, B_X11_ways_24, sp_X11_placesStatus, sp_X11_refuse, B_X11_refuse_0, sp_X11_shoutsBetween, sp_X11_rowsFor, x1, x2, ht, hp, nI_1, nI_add, nI_clamp, nI_pin, nI_neg, nI_nonneg, nI_leE, nI_ltE, nI_eqE, Nat.not_le, Nat.not_lt, fq_10, fq_01, fq_rr, ix_aald, ix_aast, ix_abs, ix_alen, ix_aload, ix_aret, ix_astore, ix_bald, ix_bast, ix_call, ix_cpyI, ix_cpyJ, ix_dead, ix_dup2, ix_dup2L, ix_dupI, ix_dupR, ix_dupx1, ix_getI, ix_getJ, ix_getR, ix_gfm, ix_gtab, ix_i2b, ix_i2c, ix_i2l, ix_i2s, ix_iadd, ix_iald, ix_iand, ix_iast, ix_icall, ix_icmp_eq, ix_icmp_ge, ix_icmp_gt, ix_icmp_le, ix_icmp_lt, ix_icmp_ne, ix_idiv, ix_if_eq, ix_if_ge, ix_if_gt, ix_if_le, ix_if_lt, ix_if_ne, ix_iinc, ix_iload, ix_imul, ix_ineg, ix_ior, ix_irem, ix_iret, ix_ishl, ix_ishr, ix_istore, ix_isub, ix_iushr, ix_ixor, ix_l2i, ix_ladd, ix_lald, ix_land, ix_last, ix_lcmp, ix_ldcS, ix_ldiv, ix_lload, ix_lmul, ix_lor, ix_lrem, ix_lret, ix_lshl, ix_lstore, ix_lsub, ix_lsw, ix_max, ix_min, ix_new, ix_newa, ix_nret, ix_oinit, ix_pop2L, ix_popI, ix_pushI, ix_pushL, ix_putI, ix_putJ, ix_putR, ix_putZ, ix_sbald, ix_sgetC, ix_sgetV, ix_slen, ix_strc, ix_tald, ix_tsw, ix_vcall, ix_vret, ix_zret, stL, stL2, kilL, popN, fq_sw, fq_lsw, List.map_cons, List.map_nil, List.getElem?_cons_zero, List.getElem?_cons_succ, Option.toList_some, Option.toList_none, List.cons_append, List.nil_append, List.length_cons, List.length_nil, List.sum_cons, List.sum_nil, cat_i, cat_l, cat_r, true_and, and_true, Nat.zero_add, Nat.add_zero, Nat.le_refl, Nat.zero_le, Nat.reduceAdd, Nat.reduceLeDiff, exists_eq_left', Option.some.injEq, not_true_eq_false, not_false_eq_true, false_implies, true_implies, implies_true, and_self, or_true, true_or, or_false, false_or]
      exact hQ1 hp
  · exact h.elim
/-- with how few shouts, if there is a way -/
def fwR (J : JH) (t : Nat) (ft : Int32) : Nat → Nat → Int32 → Option Int32
  | _, 0, a => some a
  | i, n + 1, a => if shB (J t i - J t (i - 1)) ft = 4 then none else fwR J t ft (i + 1) n (a + abI (shB (J t i - J t (i - 1)) ft))
def sp_X11_fewest (G : GT) : Sp := fun as S I J z Q => match as with
  | [.ref X, .int t, .int n] => ∃ s, xsh S X s ∧ trS S X ∧ (¬ plS I J X t n = 0 → Q (some (.int (-1))) S (u2 I X 10 (plS I J X t n)) J z) ∧ (plS I J X t n = 0 → (fwR J (X + 2 + 2 * t.toNatClampNeg + 1) (I s 9) 1 (n.toNatClampNeg - 1) 0 = none → Q (some (.int (-1))) S (u2 I X 10 6) J z) ∧ (∀ v, fwR J (X + 2 + 2 * t.toNatClampNeg + 1) (I s 9) 1 (n.toNatClampNeg - 1) 0 = some v → Q (some (.int v)) S (u2 I X 10 0) J z))
  | _ => False
set_option maxHeartbeats 4000000 in
set_option maxRecDepth 20000 in
theorem c_X11_fewest {l : Launch} {G : GT} {D : Nat} : ∀ as S I J z Q, sp_X11_fewest G as S I J z Q → fqCall l G M_X11_fewest (D + 3) 0 0 as S I J z Q := by
  intro as S I J z Q h
  unfold sp_X11_fewest at h
  split at h
  · next X t n =>
    obtain ⟨s, ⟨x1, x2, hs⟩, ht, hQ1, hQ2⟩ := h
    by_cases hp : plS I J X t n = 0
    · have hq := hQ2 hp
      obtain ⟨k, m, hk, hm1, hm2, rfl, rfl⟩ := plS_0 hp
      rw [nI_clamp (by omega), nI_clamp (by omega)] at hq
      have lp : ∀ (c i : Nat) (a : Int32) (o : Option Value), 1 ≤ i → i + c = m → (fwR J (X + 2 + 2 * k + 1) (I s 9) i c a = none → Q (some (.int (-1))) S (u2 I X 10 6) J z) ∧ (∀ v, fwR J (X + 2 + 2 * k + 1) (I s 9) i c a = some v → Q (some (.int v)) S (u2 I X 10 0) J z) → fqAt l G M_X11_fewest (D + 3) 0 0 Q 23 [some (.ref X), some (.int (nI k)), some (.int (nI m)), some (.int 0), some (.int a), some (.int (nI i)), o] [] S I J z 0 0 := by
        intro c
        induction c with
        | zero =>
          intro i a o hi1 hi hq
          refine b_X11_fewest_23 _ _ _ _ _ _ _ _ ?_
          simp (disch := omega) only [B_X11_fewest_0, B_X11_fewest_23, sp_X11_placesStatus, sp_X11_refuse, B_X11_refuse_0, sp_X11_shoutsBetween, sp_X11_answer, B_X11_answer_0, x1, x2, nI_1, nI_add, nI_clamp, nI_pin, nI_neg, nI_nonneg, nI_leE, nI_ltE, nI_eqE, Nat.not_le, Nat.not_lt, fq_10, fq_01, fq_rr, ix_aald, ix_aast, ix_abs, ix_alen, ix_aload, ix_aret, ix_astore, ix_bald, ix_bast, ix_call, ix_cpyI, ix_cpyJ, ix_dead, ix_dup2, ix_dup2L, ix_dupI, ix_dupR, ix_dupx1, ix_getI, ix_getJ, ix_getR, ix_gfm, ix_gtab, ix_i2b, ix_i2c, ix_i2l, ix_i2s, ix_iadd, ix_iald, ix_iand, ix_iast, ix_icall, ix_icmp_eq, ix_icmp_ge, ix_icmp_gt, ix_icmp_le, ix_icmp_lt, ix_icmp_ne, ix_idiv, ix_if_eq, ix_if_ge, ix_if_gt, ix_if_le, ix_if_lt, ix_if_ne, ix_iinc, ix_iload, ix_imul, ix_ineg, ix_ior, ix_irem, ix_iret, ix_ishl, ix_ishr, ix_istore, ix_isub, ix_iushr, ix_ixor, ix_l2i, ix_ladd, ix_lald, ix_land, ix_last, ix_lcmp, ix_ldcS, ix_ldiv, ix_lload, ix_lmul, ix_lor, ix_lrem, ix_lret, ix_lshl, ix_lstore, ix_lsub, ix_lsw, ix_max, ix_min, ix_new, ix_newa, ix_nret, ix_oinit, ix_pop2L, ix_popI, ix_pushI, ix_pushL, ix_putI, ix_putJ, ix_putR, ix_putZ, ix_sbald, ix_sgetC, ix_sgetV, ix_slen, ix_strc, ix_tald, ix_tsw, ix_vcall, ix_vret, ix_zret, stL, stL2, kilL, popN, fq_sw, fq_lsw, List.map_cons, List.map_nil, List.getElem?_cons_zero, List.getElem?_cons_succ, Option.toList_some, Option.toList_none, List.cons_append, List.nil_append, List.length_cons, List.length_nil, List.sum_cons, List.sum_nil, cat_i, cat_l, cat_r, true_and, and_true, Nat.zero_add, Nat.add_zero, Nat.le_refl, Nat.zero_le, Nat.reduceAdd, Nat.reduceLeDiff, exists_eq_left', Option.some.injEq, not_true_eq_false, not_false_eq_true, false_implies, true_implies, implies_true, and_self, or_true, true_or, or_false, false_or]
          exact ⟨fun _ => hq.2 a rfl, fun h => absurd h (by omega)⟩
        | succ c ih =>
          intro i a o hi1 hi hq
          obtain ⟨i, rfl⟩ : ∃ j, i = j + 1 := ⟨i - 1, by omega⟩
          refine b_X11_fewest_23 _ _ _ _ _ _ _ _ ?_
          simp (disch := omega) only [B_X11_fewest_0, B_X11_fewest_23, sp_X11_placesStatus, sp_X11_refuse, B_X11_refuse_0, sp_X11_shoutsBetween, sp_X11_answer, B_X11_answer_0, x1, x2, ht.r, ht.k1, ht.n1, ht.ri, ht.ki, ht.ci, ht.kc, ht.nc, hs, xsh, nI_1, nI_add, nI_clamp, nI_pin, nI_neg, nI_nonneg, nI_leE, nI_ltE, nI_eqE, Nat.not_le, Nat.not_lt, fq_10, fq_01, fq_rr, ix_aald, ix_aast, ix_abs, ix_alen, ix_aload, ix_aret, ix_astore, ix_bald, ix_bast, ix_call, ix_cpyI, ix_cpyJ, ix_dead, ix_dup2, ix_dup2L, ix_dupI, ix_dupR, ix_dupx1, ix_getI, ix_getJ, ix_getR, ix_gfm, ix_gtab, ix_i2b, ix_i2c, ix_i2l, ix_i2s, ix_iadd, ix_iald, ix_iand, ix_iast, ix_icall, ix_icmp_eq, ix_icmp_ge, ix_icmp_gt, ix_icmp_le, ix_icmp_lt, ix_icmp_ne, ix_idiv, ix_if_eq, ix_if_ge, ix_if_gt, ix_if_le, ix_if_lt, ix_if_ne, ix_iinc, ix_iload, ix_imul, ix_ineg, ix_ior, ix_irem, ix_iret, ix_ishl, ix_ishr, ix_istore, ix_isub, ix_iushr, ix_ixor, ix_l2i, ix_ladd, ix_lald, ix_land, ix_last, ix_lcmp, ix_ldcS, ix_ldiv, ix_lload, ix_lmul, ix_lor, ix_lrem, ix_lret, ix_lshl, ix_lstore, ix_lsub, ix_lsw, ix_max, ix_min, ix_new, ix_newa, ix_nret, ix_oinit, ix_pop2L, ix_popI, ix_pushI, ix_pushL, ix_putI, ix_putJ, ix_putR, ix_putZ, ix_sbald, ix_sgetC, ix_sgetV, ix_slen, ix_strc, ix_tald, ix_tsw, ix_vcall, ix_vret, ix_zret, stL, stL2, kilL, popN, fq_sw, fq_lsw, List.map_cons, List.map_nil, List.getElem?_cons_zero, List.getElem?_cons_succ, Option.toList_some, Option.toList_none, List.cons_append, List.nil_append, List.length_cons, List.length_nil, List.sum_cons, List.sum_nil, cat_i, cat_l, cat_r, true_and, and_true, Nat.zero_add, Nat.add_zero, Nat.le_refl, Nat.zero_le, Nat.reduceAdd, Nat.reduceLeDiff, exists_eq_left', Option.some.injEq, not_true_eq_false, not_false_eq_true, false_implies, true_implies, implies_true, and_self, or_true, true_or, or_false, false_or]
          have e0 : fwR J (X + 2 + 2 * k + 1) (I s 9) (i + 1) (c + 1) a = if shB (J (X + 2 + 2 * k + 1) (i + 1) - J (X + 2 + 2 * k + 1) i) (I s 9) = 4 then none else fwR J (X + 2 + 2 * k + 1) (I s 9) (i + 1 + 1) c (a + abI (shB (J (X + 2 + 2 * k + 1) (i + 1) - J (X + 2 + 2 * k + 1) i) (I s 9))) := rfl
          rw [e0] at hq
          refine ⟨fun h => absurd h (by omega), fun _ => ⟨s, ⟨rfl, hs⟩, i, rfl, by omega, fun h => ?_, fun h => ?_⟩⟩
          · rw [if_neg h] at hq
            exact ih (i + 1 + 1) _ _ (by omega) (by omega) hq
          · rw [if_pos h] at hq
            exact hq.1 rfl
      refine fq_enter [some (.ref X), some (.int (nI k)), some (.int (nI m)), none, none, none, none] (by decide +kernel) (Nat.le_of_ble_eq_true rfl) rfl (b_X11_fewest_0 _ _ _ _ _ _ _ _ ?_)
      simp (disch := omega) only [B_X11_fewest_0, B_X11_fewest_23, sp_X11_placesStatus, sp_X11_refuse, B_X11_refuse_0, sp_X11_shoutsBetween, sp_X11_answer, B_X11_answer_0, x1, x2, ht, hp, nI_1, nI_add, nI_clamp, nI_pin, nI_neg, nI_nonneg, nI_leE, nI_ltE, nI_eqE, Nat.not_le, Nat.not_lt, fq_10, fq_01, fq_rr, ix_aald, ix_aast, ix_abs, ix_alen, ix_aload, ix_aret, ix_astore, ix_bald, ix_bast, ix_call, ix_cpyI, ix_cpyJ, ix_dead, ix_dup2, ix_dup2L, ix_dupI, ix_dupR, ix_dupx1, ix_getI, ix_getJ, ix_getR, ix_gfm, ix_gtab, ix_i2b, ix_i2c, ix_i2l, ix_i2s, ix_iadd, ix_iald, ix_iand, ix_iast, ix_icall, ix_icmp_eq, ix_icmp_ge, ix_icmp_gt, ix_icmp_le, ix_icmp_lt, ix_icmp_ne, ix_idiv, ix_if_eq, ix_if_ge, ix_if_gt, ix_if_le, ix_if_lt, ix_if_ne, ix_iinc, ix_iload, ix_imul, ix_ineg, ix_ior, ix_irem, ix_iret, ix_ishl, ix_ishr, ix_istore, ix_isub, ix_iushr, ix_ixor, ix_l2i, ix_ladd, ix_lald, ix_land, ix_last, ix_lcmp, ix_ldcS, ix_ldiv, ix_lload, ix_lmul, ix_lor, ix_lrem, ix_lret, ix_lshl, ix_lstore, ix_lsub, ix_lsw, ix_max, ix_min, ix_new, ix_newa, ix_nret, ix_oinit, ix_pop2L, ix_popI, ix_pushI, ix_pushL, ix_putI, ix_putJ, ix_putR, ix_putZ, ix_sbald, ix_sgetC, ix_sgetV, ix_slen, ix_strc, ix_tald, ix_tsw, ix_vcall, ix_vret, ix_zret, stL, stL2, kilL, popN, fq_sw, fq_lsw, List.map_cons, List.map_nil, List.getElem?_cons_zero, List.getElem?_cons_succ, Option.toList_some, Option.toList_none, List.cons_append, List.nil_append, List.length_cons, List.length_nil, List.sum_cons, List.sum_nil, cat_i, cat_l, cat_r, true_and, and_true, Nat.zero_add, Nat.add_zero, Nat.le_refl, Nat.zero_le, Nat.reduceAdd, Nat.reduceLeDiff, exists_eq_left', Option.some.injEq, not_true_eq_false, not_false_eq_true, false_implies, true_implies, implies_true, and_self, or_true, true_or, or_false, false_or]
      exact lp (m - 1) 1 0 none (Nat.le_refl 1) (by omega) hq
    · refine fq_enter [some (.ref X), some (.int t), some (.int n), none, none, none, none] (by decide +kernel) (Nat.le_of_ble_eq_true rfl) rfl (b_X11_fewest_0 _ _ _ _ _ _ _ _ ?_)
      simp (disch := omega) only [B_X11_fewest_0, B_X11_fewest_23, sp_X11_placesStatus, sp_X11_refuse, B_X11_refuse_0, sp_X11_shoutsBetween, sp_X11_answer, B_X11_answer_0, x1, x2, ht, hp, nI_1, nI_add, nI_clamp, nI_pin, nI_neg, nI_nonneg, nI_leE, nI_ltE, nI_eqE, Nat.not_le, Nat.not_lt, fq_10, fq_01, fq_rr, ix_aald, ix_aast, ix_abs, ix_alen, ix_aload, ix_aret, ix_astore, ix_bald, ix_bast, ix_call, ix_cpyI, ix_cpyJ, ix_dead, ix_dup2, ix_dup2L, ix_dupI, ix_dupR, ix_dupx1, ix_getI, ix_getJ, ix_getR, ix_gfm, ix_gtab, ix_i2b, ix_i2c, ix_i2l, ix_i2s, ix_iadd, ix_iald, ix_iand, ix_iast, ix_icall, ix_icmp_eq, ix_icmp_ge, ix_icmp_gt, ix_icmp_le, ix_icmp_lt, ix_icmp_ne, ix_idiv, ix_if_eq, ix_if_ge, ix_if_gt, ix_if_le, ix_if_lt, ix_if_ne, ix_iinc, ix_iload, ix_imul, ix_ineg, ix_ior, ix_irem, ix_iret, ix_ishl, ix_ishr, ix_istore, ix_isub, ix_iushr, ix_ixor, ix_l2i, ix_ladd, ix_lald, ix_land, ix_last, ix_lcmp, ix_ldcS, ix_ldiv, ix_lload, ix_lmul, ix_lor, ix_lrem, ix_lret, ix_lshl, ix_lstore, ix_lsub, ix_lsw, ix_max, ix_min, ix_new, ix_newa, ix_nret, ix_oinit, ix_pop2L, ix_popI, ix_pushI, ix_pushL, ix_putI, ix_putJ, ix_putR, ix_putZ, ix_sbald, ix_sgetC, ix_sgetV, ix_slen, ix_strc, ix_tald, ix_tsw, ix_vcall, ix_vret, ix_zret, stL, stL2, kilL, popN, fq_sw, fq_lsw, List.map_cons, List.map_nil, List.getElem?_cons_zero, List.getElem?_cons_succ, Option.toList_some, Option.toList_none, List.cons_append, List.nil_append, List.length_cons, List.length_nil, List.sum_cons, List.sum_nil, cat_i, cat_l, cat_r, true_and, and_true, Nat.zero_add, Nat.add_zero, Nat.le_refl, Nat.zero_le, Nat.reduceAdd, Nat.reduceLeDiff, exists_eq_left', Option.some.injEq, not_true_eq_false, not_false_eq_true, false_implies, true_implies, implies_true, and_self, or_true, true_or, or_false, false_or]
      exact hQ1 hp
  · exact h.elim
/-- from the last day back: those that begin on the left, and all -/
def blD (J : JH) (t : Nat) (ft : Int32) : Nat → Int64 → Int64 → Int64
  | 0, lf, _ => lf
  | i + 1, lf, bh => blD J t ft i (lfF (shB (J t (i + 1) - J t i) ft) * bh + (if shB (J t (i + 1) - J t i) ft = 0 then lf else 0)) (bh * rwF (shB (J t (i + 1) - J t i) ft))
def sp_X11_blame (G : GT) : Sp := fun as S I J z Q => match as with
  | [.ref X, .int t, .int n] => ∃ s, xsh S X s ∧ trS S X ∧ (¬ plS I J X t n = 0 → Q (some (.long (-1))) S (u2 I X 10 (plS I J X t n)) J z) ∧ (plS I J X t n = 0 → Q (some (.long (blD J (X + 2 + 2 * t.toNatClampNeg + 1) (I s 9) (n.toNatClampNeg - 1) 0 1))) S (u2 I X 10 0) J z)
  | _ => False
theorem nI_lt1 {c : Nat} (h : c < 2 ^ 31) : (nI c < 1) = (c = 0) := by
  rw [show (1 : Int32) = nI 1 from rfl, nI_ltE h (by decide)]
  exact propext (by omega)
set_option maxHeartbeats 4000000 in
set_option maxRecDepth 20000 in
theorem c_X11_blame {l : Launch} {G : GT} {D : Nat} : ∀ as S I J z Q, sp_X11_blame G as S I J z Q → fqCall l G M_X11_blame (D + 3) 0 0 as S I J z Q := by
  intro as S I J z Q h
  unfold sp_X11_blame at h
  split at h
  · next X t n =>
    obtain ⟨s, ⟨x1, x2, hs⟩, ht, hQ1, hQ2⟩ := h
    by_cases hp : plS I J X t n = 0
    · have hq := hQ2 hp
      obtain ⟨k, m, hk, hm1, hm2, rfl, rfl⟩ := plS_0 hp
      rw [nI_clamp (by omega), nI_clamp (by omega)] at hq
      have lp : ∀ (i : Nat) (lf bh : Int64) (o1 o2 o3 : Option Value), i < m → Q (some (.long (blD J (X + 2 + 2 * k + 1) (I s 9) i lf bh))) S (u2 I X 10 0) J z → fqAt l G M_X11_blame (D + 3) 0 0 Q 29 [some (.ref X), some (.int (nI k)), some (.int (nI m)), some (.int 0), some (.long bh), none, some (.long lf), none, some (.int (nI i)), o1, o2, o3] [] S I J z 0 0 := by
        intro i
        induction i with
        | zero =>
          intro lf bh o1 o2 o3 hi hq
          refine b_X11_blame_29 _ _ _ _ _ _ _ _ ?_
          simp (disch := omega) only [B_X11_blame_0, B_X11_blame_29, B_X11_blame_60, sp_X11_placesStatus, sp_X11_refuse, B_X11_refuse_0, sp_X11_shoutsBetween, sp_X11_leftFirstFor, sp_X11_rowsFor, x1, x2, nI_lt1, nI_1, nI_add, nI_clamp, nI_pin, nI_neg, nI_nonneg, nI_leE, nI_ltE, nI_eqE, Nat.not_le, Nat.not_lt, fq_10, fq_01, fq_rr, ix_aald, ix_aast, ix_abs, ix_alen, ix_aload, ix_aret, ix_astore, ix_bald, ix_bast, ix_call, ix_cpyI, ix_cpyJ, ix_dead, ix_dup2, ix_dup2L, ix_dupI, ix_dupR, ix_dupx1, ix_getI, ix_getJ, ix_getR, ix_gfm, ix_gtab, ix_i2b, ix_i2c, ix_i2l, ix_i2s, ix_iadd, ix_iald, ix_iand, ix_iast, ix_icall, ix_icmp_eq, ix_icmp_ge, ix_icmp_gt, ix_icmp_le, ix_icmp_lt, ix_icmp_ne, ix_idiv, ix_if_eq, ix_if_ge, ix_if_gt, ix_if_le, ix_if_lt, ix_if_ne, ix_iinc, ix_iload, ix_imul, ix_ineg, ix_ior, ix_irem, ix_iret, ix_ishl, ix_ishr, ix_istore, ix_isub, ix_iushr, ix_ixor, ix_l2i, ix_ladd, ix_lald, ix_land, ix_last, ix_lcmp, ix_ldcS, ix_ldiv, ix_lload, ix_lmul, ix_lor, ix_lrem, ix_lret, ix_lshl, ix_lstore, ix_lsub, ix_lsw, ix_max, ix_min, ix_new, ix_newa, ix_nret, ix_oinit, ix_pop2L, ix_popI, ix_pushI, ix_pushL, ix_putI, ix_putJ, ix_putR, ix_putZ, ix_sbald, ix_sgetC, ix_sgetV, ix_slen, ix_strc, ix_tald, ix_tsw, ix_vcall, ix_vret, ix_zret, stL, stL2, kilL, popN, fq_sw, fq_lsw, List.map_cons, List.map_nil, List.getElem?_cons_zero, List.getElem?_cons_succ, Option.toList_some, Option.toList_none, List.cons_append, List.nil_append, List.length_cons, List.length_nil, List.sum_cons, List.sum_nil, cat_i, cat_l, cat_r, true_and, and_true, Nat.zero_add, Nat.add_zero, Nat.le_refl, Nat.zero_le, Nat.reduceAdd, Nat.reduceLeDiff, exists_eq_left', Option.some.injEq, not_true_eq_false, not_false_eq_true, false_implies, true_implies, implies_true, and_self, or_true, true_or, or_false, false_or]
          exact hq
        | succ i ih =>
          intro lf bh o1 o2 o3 hi hq
          have sb := shB_ab (J (X + 2 + 2 * k + 1) (i + 1) - J (X + 2 + 2 * k + 1) i) (I s 9)
          have sl := shB_l (J (X + 2 + 2 * k + 1) (i + 1) - J (X + 2 + 2 * k + 1) i) (I s 9)
          refine b_X11_blame_29 _ _ _ _ _ _ _ _ ?_
          simp (disch := omega) only [B_X11_blame_0, B_X11_blame_29, B_X11_blame_60, sp_X11_placesStatus, sp_X11_refuse, B_X11_refuse_0, sp_X11_shoutsBetween, sp_X11_leftFirstFor, sp_X11_rowsFor, x1, x2, ht.r, ht.k1, ht.n1, ht.ri, ht.ki, ht.ci, ht.kc, ht.nc, hs, xsh, nI_lt1, pk_m1, nI_1, nI_add, nI_clamp, nI_pin, nI_neg, nI_nonneg, nI_leE, nI_ltE, nI_eqE, Nat.not_le, Nat.not_lt, fq_10, fq_01, fq_rr, ix_aald, ix_aast, ix_abs, ix_alen, ix_aload, ix_aret, ix_astore, ix_bald, ix_bast, ix_call, ix_cpyI, ix_cpyJ, ix_dead, ix_dup2, ix_dup2L, ix_dupI, ix_dupR, ix_dupx1, ix_getI, ix_getJ, ix_getR, ix_gfm, ix_gtab, ix_i2b, ix_i2c, ix_i2l, ix_i2s, ix_iadd, ix_iald, ix_iand, ix_iast, ix_icall, ix_icmp_eq, ix_icmp_ge, ix_icmp_gt, ix_icmp_le, ix_icmp_lt, ix_icmp_ne, ix_idiv, ix_if_eq, ix_if_ge, ix_if_gt, ix_if_le, ix_if_lt, ix_if_ne, ix_iinc, ix_iload, ix_imul, ix_ineg, ix_ior, ix_irem, ix_iret, ix_ishl, ix_ishr, ix_istore, ix_isub, ix_iushr, ix_ixor, ix_l2i, ix_ladd, ix_lald, ix_land, ix_last, ix_lcmp, ix_ldcS, ix_ldiv, ix_lload, ix_lmul, ix_lor, ix_lrem, ix_lret, ix_lshl, ix_lstore, ix_lsub, ix_lsw, ix_max, ix_min, ix_new, ix_newa, ix_nret, ix_oinit, ix_pop2L, ix_popI, ix_pushI, ix_pushL, ix_putI, ix_putJ, ix_putR, ix_putZ, ix_sbald, ix_sgetC, ix_sgetV, ix_slen, ix_strc, ix_tald, ix_tsw, ix_vcall, ix_vret, ix_zret, stL, stL2, kilL, popN, fq_sw, fq_lsw, List.map_cons, List.map_nil, List.getElem?_cons_zero, List.getElem?_cons_succ, Option.toList_some, Option.toList_none, List.cons_append, List.nil_append, List.length_cons, List.length_nil, List.sum_cons, List.sum_nil, cat_i, cat_l, cat_r, true_and, and_true, Nat.zero_add, Nat.add_zero, Nat.le_refl, Nat.zero_le, Nat.reduceAdd, Nat.reduceLeDiff, exists_eq_left', Option.some.injEq, not_true_eq_false, not_false_eq_true, false_implies, true_implies, implies_true, and_self, or_true, true_or, or_false, false_or]
          have e0 : blD J (X + 2 + 2 * k + 1) (I s 9) (i + 1) lf bh = blD J (X + 2 + 2 * k + 1) (I s 9) i (lfF (shB (J (X + 2 + 2 * k + 1) (i + 1) - J (X + 2 + 2 * k + 1) i) (I s 9)) * bh + (if shB (J (X + 2 + 2 * k + 1) (i + 1) - J (X + 2 + 2 * k + 1) i) (I s 9) = 0 then lf else 0)) (bh * rwF (shB (J (X + 2 + 2 * k + 1) (i + 1) - J (X + 2 + 2 * k + 1) i) (I s 9))) := rfl
          rw [e0] at hq
          refine ⟨fun h => absurd h (by omega), fun _ => ⟨s, ⟨rfl, hs⟩, i, rfl, by omega, fun h => ⟨sl, sb, ih _ _ _ _ _ (by omega) ?_⟩, fun h => ⟨sl, sb, ih _ _ _ _ _ (by omega) ?_⟩⟩⟩
          · rw [if_neg h] at hq
            exact hq
          · rw [if_pos h] at hq
            exact hq
      refine fq_enter [some (.ref X), some (.int (nI k)), some (.int (nI m)), none, none, none, none, none, none, none, none, none] (by decide +kernel) (Nat.le_of_ble_eq_true rfl) rfl (b_X11_blame_0 _ _ _ _ _ _ _ _ ?_)
      simp (disch := omega) only [B_X11_blame_0, B_X11_blame_29, B_X11_blame_60, sp_X11_placesStatus, sp_X11_refuse, B_X11_refuse_0, sp_X11_shoutsBetween, sp_X11_leftFirstFor, sp_X11_rowsFor, x1, x2, ht, hp, nI_1, nI_add, nI_clamp, nI_pin, nI_neg, nI_nonneg, nI_leE, nI_ltE, nI_eqE, Nat.not_le, Nat.not_lt, fq_10, fq_01, fq_rr, ix_aald, ix_aast, ix_abs, ix_alen, ix_aload, ix_aret, ix_astore, ix_bald, ix_bast, ix_call, ix_cpyI, ix_cpyJ, ix_dead, ix_dup2, ix_dup2L, ix_dupI, ix_dupR, ix_dupx1, ix_getI, ix_getJ, ix_getR, ix_gfm, ix_gtab, ix_i2b, ix_i2c, ix_i2l, ix_i2s, ix_iadd, ix_iald, ix_iand, ix_iast, ix_icall, ix_icmp_eq, ix_icmp_ge, ix_icmp_gt, ix_icmp_le, ix_icmp_lt, ix_icmp_ne, ix_idiv, ix_if_eq, ix_if_ge, ix_if_gt, ix_if_le, ix_if_lt, ix_if_ne, ix_iinc, ix_iload, ix_imul, ix_ineg, ix_ior, ix_irem, ix_iret, ix_ishl, ix_ishr, ix_istore, ix_isub, ix_iushr, ix_ixor, ix_l2i, ix_ladd, ix_lald, ix_land, ix_last, ix_lcmp, ix_ldcS, ix_ldiv, ix_lload, ix_lmul, ix_lor, ix_lrem, ix_lret, ix_lshl, ix_lstore, ix_lsub, ix_lsw, ix_max, ix_min, ix_new, ix_newa, ix_nret, ix_oinit, ix_pop2L, ix_popI, ix_pushI, ix_pushL, ix_putI, ix_putJ, ix_putR, ix_putZ, ix_sbald, ix_sgetC, ix_sgetV, ix_slen, ix_strc, ix_tald, ix_tsw, ix_vcall, ix_vret, ix_zret, stL, stL2, kilL, popN, fq_sw, fq_lsw, List.map_cons, List.map_nil, List.getElem?_cons_zero, List.getElem?_cons_succ, Option.toList_some, Option.toList_none, List.cons_append, List.nil_append, List.length_cons, List.length_nil, List.sum_cons, List.sum_nil, cat_i, cat_l, cat_r, true_and, and_true, Nat.zero_add, Nat.add_zero, Nat.le_refl, Nat.zero_le, Nat.reduceAdd, Nat.reduceLeDiff, exists_eq_left', Option.some.injEq, not_true_eq_false, not_false_eq_true, false_implies, true_implies, implies_true, and_self, or_true, true_or, or_false, false_or]
      have em : nI m - 1 = nI (m - 1) := by
        obtain ⟨q, rfl⟩ : ∃ q, m = q + 1 := ⟨m - 1, by omega⟩
        exact nI_pred q
      rw [em]
      exact lp (m - 1) 0 1 none none none (by omega) hq
    · refine fq_enter [some (.ref X), some (.int t), some (.int n), none, none, none, none, none, none, none, none, none] (by decide +kernel) (Nat.le_of_ble_eq_true rfl) rfl (b_X11_blame_0 _ _ _ _ _ _ _ _ ?_)
      simp (disch := omega) only [B_X11_blame_0, B_X11_blame_29, B_X11_blame_60, sp_X11_placesStatus, sp_X11_refuse, B_X11_refuse_0, sp_X11_shoutsBetween, sp_X11_leftFirstFor, sp_X11_rowsFor, x1, x2, ht, hp, nI_1, nI_add, nI_clamp, nI_pin, nI_neg, nI_nonneg, nI_leE, nI_ltE, nI_eqE, Nat.not_le, Nat.not_lt, fq_10, fq_01, fq_rr, ix_aald, ix_aast, ix_abs, ix_alen, ix_aload, ix_aret, ix_astore, ix_bald, ix_bast, ix_call, ix_cpyI, ix_cpyJ, ix_dead, ix_dup2, ix_dup2L, ix_dupI, ix_dupR, ix_dupx1, ix_getI, ix_getJ, ix_getR, ix_gfm, ix_gtab, ix_i2b, ix_i2c, ix_i2l, ix_i2s, ix_iadd, ix_iald, ix_iand, ix_iast, ix_icall, ix_icmp_eq, ix_icmp_ge, ix_icmp_gt, ix_icmp_le, ix_icmp_lt, ix_icmp_ne, ix_idiv, ix_if_eq, ix_if_ge, ix_if_gt, ix_if_le, ix_if_lt, ix_if_ne, ix_iinc, ix_iload, ix_imul, ix_ineg, ix_ior, ix_irem, ix_iret, ix_ishl, ix_ishr, ix_istore, ix_isub, ix_iushr, ix_ixor, ix_l2i, ix_ladd, ix_lald, ix_land, ix_last, ix_lcmp, ix_ldcS, ix_ldiv, ix_lload, ix_lmul, ix_lor, ix_lrem, ix_lret, ix_lshl, ix_lstore, ix_lsub, ix_lsw, ix_max, ix_min, ix_new, ix_newa, ix_nret, ix_oinit, ix_pop2L, ix_popI, ix_pushI, ix_pushL, ix_putI, ix_putJ, ix_putR, ix_putZ, ix_sbald, ix_sgetC, ix_sgetV, ix_slen, ix_strc, ix_tald, ix_tsw, ix_vcall, ix_vret, ix_zret, stL, stL2, kilL, popN, fq_sw, fq_lsw, List.map_cons, List.map_nil, List.getElem?_cons_zero, List.getElem?_cons_succ, Option.toList_some, Option.toList_none, List.cons_append, List.nil_append, List.length_cons, List.length_nil, List.sum_cons, List.sum_nil, cat_i, cat_l, cat_r, true_and, and_true, Nat.zero_add, Nat.add_zero, Nat.le_refl, Nat.zero_le, Nat.reduceAdd, Nat.reduceLeDiff, exists_eq_left', Option.some.injEq, not_true_eq_false, not_false_eq_true, false_implies, true_implies, implies_true, and_self, or_true, true_or, or_false, false_or]
      exact hQ1 hp
  · exact h.elim
theorem dX11_copyWalls_0 : decode cX11_copyWalls 0 = .ok (.iload_n 1, 1) := by decide +kernel
theorem dX11_copyWalls_1 : decode cX11_copyWalls 1 = .ok (.invokestatic 70, 3) := by decide +kernel
theorem dX11_copyWalls_4 : decode cX11_copyWalls 4 = .ok (.ifCond .ne 9, 3) := by decide +kernel
theorem dX11_copyWalls_7 : decode cX11_copyWalls 7 = .ok (.aload_n 0, 1) := by decide +kernel
theorem dX11_copyWalls_8 : decode cX11_copyWalls 8 = .ok (.iconst 1, 1) := by decide +kernel
theorem dX11_copyWalls_9 : decode cX11_copyWalls 9 = .ok (.invokevirtual 97, 3) := by decide +kernel
theorem dX11_copyWalls_12 : decode cX11_copyWalls 12 = .ok (.ireturn, 1) := by decide +kernel
theorem dX11_copyWalls_13 : decode cX11_copyWalls 13 = .ok (.aload_n 0, 1) := by decide +kernel
theorem dX11_copyWalls_14 : decode cX11_copyWalls 14 = .ok (.getfield 11, 3) := by decide +kernel
theorem dX11_copyWalls_17 : decode cX11_copyWalls 17 = .ok (.iload_n 1, 1) := by decide +kernel
theorem dX11_copyWalls_18 : decode cX11_copyWalls 18 = .ok (.aaload, 1) := by decide +kernel
theorem dX11_copyWalls_19 : decode cX11_copyWalls 19 = .ok (.astore_n 2, 1) := by decide +kernel
theorem dX11_copyWalls_20 : decode cX11_copyWalls 20 = .ok (.aload_n 2, 1) := by decide +kernel
theorem dX11_copyWalls_21 : decode cX11_copyWalls 21 = .ok (.invokevirtual 105, 3) := by decide +kernel
theorem dX11_copyWalls_24 : decode cX11_copyWalls 24 = .ok (.ifCond .eq 9, 3) := by decide +kernel
theorem dX11_copyWalls_27 : decode cX11_copyWalls 27 = .ok (.aload_n 0, 1) := by decide +kernel
theorem dX11_copyWalls_28 : decode cX11_copyWalls 28 = .ok (.iconst 2, 1) := by decide +kernel
theorem dX11_copyWalls_29 : decode cX11_copyWalls 29 = .ok (.invokevirtual 97, 3) := by decide +kernel
theorem dX11_copyWalls_32 : decode cX11_copyWalls 32 = .ok (.ireturn, 1) := by decide +kernel
theorem dX11_copyWalls_33 : decode cX11_copyWalls 33 = .ok (.aload_n 0, 1) := by decide +kernel
theorem dX11_copyWalls_34 : decode cX11_copyWalls 34 = .ok (.getfield 46, 3) := by decide +kernel
theorem dX11_copyWalls_37 : decode cX11_copyWalls 37 = .ok (.invokevirtual 399, 3) := by decide +kernel
theorem dX11_copyWalls_40 : decode cX11_copyWalls 40 = .ok (.istore_n 3, 1) := by decide +kernel
theorem dX11_copyWalls_41 : decode cX11_copyWalls 41 = .ok (.aload_n 2, 1) := by decide +kernel
theorem dX11_copyWalls_42 : decode cX11_copyWalls 42 = .ok (.iconst 0, 1) := by decide +kernel
theorem dX11_copyWalls_43 : decode cX11_copyWalls 43 = .ok (.iload_n 3, 1) := by decide +kernel
theorem dX11_copyWalls_44 : decode cX11_copyWalls 44 = .ok (.invokevirtual 111, 3) := by decide +kernel
theorem dX11_copyWalls_47 : decode cX11_copyWalls 47 = .ok (.ifCond .ne 9, 3) := by decide +kernel
theorem dX11_copyWalls_50 : decode cX11_copyWalls 50 = .ok (.aload_n 0, 1) := by decide +kernel
theorem dX11_copyWalls_51 : decode cX11_copyWalls 51 = .ok (.iconst 3, 1) := by decide +kernel
theorem dX11_copyWalls_52 : decode cX11_copyWalls 52 = .ok (.invokevirtual 97, 3) := by decide +kernel
theorem dX11_copyWalls_55 : decode cX11_copyWalls 55 = .ok (.ireturn, 1) := by decide +kernel
theorem dX11_copyWalls_56 : decode cX11_copyWalls 56 = .ok (.iconst 0, 1) := by decide +kernel
theorem dX11_copyWalls_57 : decode cX11_copyWalls 57 = .ok (.istore 4, 2) := by decide +kernel
theorem dX11_copyWalls_59 : decode cX11_copyWalls 59 = .ok (.iload 4, 2) := by decide +kernel
theorem dX11_copyWalls_61 : decode cX11_copyWalls 61 = .ok (.iload_n 3, 1) := by decide +kernel
theorem dX11_copyWalls_62 : decode cX11_copyWalls 62 = .ok (.if_icmp .ge 25, 3) := by decide +kernel
theorem dX11_copyWalls_65 : decode cX11_copyWalls 65 = .ok (.aload_n 2, 1) := by decide +kernel
theorem dX11_copyWalls_66 : decode cX11_copyWalls 66 = .ok (.iload 4, 2) := by decide +kernel
theorem dX11_copyWalls_68 : decode cX11_copyWalls 68 = .ok (.aload_n 0, 1) := by decide +kernel
theorem dX11_copyWalls_69 : decode cX11_copyWalls 69 = .ok (.getfield 46, 3) := by decide +kernel
theorem dX11_copyWalls_72 : decode cX11_copyWalls 72 = .ok (.iload 4, 2) := by decide +kernel
theorem dX11_copyWalls_74 : decode cX11_copyWalls 74 = .ok (.invokevirtual 230, 3) := by decide +kernel
theorem dX11_copyWalls_77 : decode cX11_copyWalls 77 = .ok (.i2l, 1) := by decide +kernel
theorem dX11_copyWalls_78 : decode cX11_copyWalls 78 = .ok (.invokevirtual 93, 3) := by decide +kernel
theorem dX11_copyWalls_81 : decode cX11_copyWalls 81 = .ok (.iinc 4 1, 3) := by decide +kernel
theorem dX11_copyWalls_84 : decode cX11_copyWalls 84 = .ok (.goto (-25), 3) := by decide +kernel
theorem dX11_copyWalls_87 : decode cX11_copyWalls 87 = .ok (.aload_n 0, 1) := by decide +kernel
theorem dX11_copyWalls_88 : decode cX11_copyWalls 88 = .ok (.iload_n 3, 1) := by decide +kernel
theorem dX11_copyWalls_89 : decode cX11_copyWalls 89 = .ok (.invokevirtual 142, 3) := by decide +kernel
theorem dX11_copyWalls_92 : decode cX11_copyWalls 92 = .ok (.ireturn, 1) := by decide +kernel
abbrev M_X11_copyWalls : MT := (yX11_copyWalls, cX11_copyWalls, 5, (some .int))
theorem cf_X11_copyWalls : fq_cf M_X11_copyWalls 1 := ⟨(mg_1 (List.mem_of_getElem? (i := 1) rfl) rfl), (mg_6 (List.mem_of_getElem? (i := 82) rfl) rfl), ⟨by decide, by decide, by decide +kernel⟩, by decide⟩
def B_X11_copyWalls_59 (l : Launch) (G : GT) (D mc ms : Nat) (Q : Post) : Cn := ix_iload 4 (ix_iload 3 (ix_icmp_ge (ix_aload 0 (ix_iload 3 (ix_vcall 11 2 0 0 mc ms (sp_X11_answer G) (ix_iret mc ms Q)))) (ix_aload 2 (ix_iload 4 (ix_aload 0 (ix_getR 11 6 (ix_iload 4 (ix_vcall 6 2 0 0 mc ms (sp_X6_wallPlace G) (ix_i2l (ix_vcall 8 3 0 0 mc ms (sp_X8_put G) (ix_iinc 4 1 (fqAt l G M_X11_copyWalls (D + 2) mc ms Q 59))))))))))))
theorem b_X11_copyWalls_59 {l : Launch} {G : GT} {D mc ms : Nat} {Q : Post} : Imp l G M_X11_copyWalls (D + 2) mc ms Q (B_X11_copyWalls_59 l G D mc ms Q) 59 := sx_iload dX11_copyWalls_59 (sx_iload_n dX11_copyWalls_61 rfl (sx_icmp_ge 87 dX11_copyWalls_62 (by decide) (sx_aload_n dX11_copyWalls_87 rfl (sx_iload_n dX11_copyWalls_88 rfl (sx_vcall dX11_copyWalls_89 cf_X11_answer (mg_4 (List.mem_of_getElem? (i := 72) rfl) rfl) (mg_4 (List.mem_of_getElem? (i := 74) rfl) rfl) (mg_p (List.mem_of_getElem? (i := 17) rfl) rfl) rfl c_X11_answer (sx_iret dX11_copyWalls_92 rfl)))) (sx_aload_n dX11_copyWalls_65 rfl (sx_iload dX11_copyWalls_66 (sx_aload_n dX11_copyWalls_68 rfl (sx_getR dX11_copyWalls_69 fl_FootQuarrel_46 (fun _ _ _ => rfl) (sx_iload dX11_copyWalls_72 (sx_vcall dX11_copyWalls_74 cf_X6_wallPlace (mg_4 (List.mem_of_getElem? (i := 201) rfl) rfl) (mg_4 (List.mem_of_getElem? (i := 202) rfl) rfl) (mg_4 (List.mem_of_getElem? (i := 203) rfl) rfl) rfl c_X6_wallPlace (sx_i2l dX11_copyWalls_77 (sx_vcall dX11_copyWalls_78 cf_X8_put (mg_3 (List.mem_of_getElem? (i := 112) rfl) rfl) (mg_3 (List.mem_of_getElem? (i := 113) rfl) rfl) (mg_3 (List.mem_of_getElem? (i := 114) rfl) rfl) rfl c_X8_put (sx_iinc dX11_copyWalls_81 rfl (by decide) (sx_goto 59 dX11_copyWalls_84 (by decide) ((fun _ _ _ _ _ _ _ _ h => h))))))))))))))
def B_X11_copyWalls_0 (l : Launch) (G : GT) (D mc ms : Nat) (Q : Post) : Cn := ix_iload 1 (ix_call 1 0 0 mc ms (sp_X11_isTray G) (ix_if_ne (ix_aload 0 (ix_getR 11 0 (ix_iload 1 (ix_aald 20 (ix_astore 2 (ix_aload 2 (ix_vcall 8 1 0 0 mc ms (sp_X8_isMissing G) (ix_if_eq (ix_aload 0 (ix_getR 11 6 (ix_vcall 6 1 0 0 mc ms (sp_X6_wallCount G) (ix_istore 3 (ix_aload 2 (ix_pushI 0 (ix_iload 3 (ix_vcall 8 3 0 0 mc ms (sp_X8_spans G) (ix_if_ne (ix_pushI 0 (ix_istore 4 (fqAt l G M_X11_copyWalls (D + 2) mc ms Q 59))) (ix_aload 0 (ix_pushI 3 (ix_vcall 11 2 0 0 mc ms (sp_X11_refuse G) (ix_iret mc ms Q))))))))))))) (ix_aload 0 (ix_pushI 2 (ix_vcall 11 2 0 0 mc ms (sp_X11_refuse G) (ix_iret mc ms Q)))))))))))) (ix_aload 0 (ix_pushI 1 (ix_vcall 11 2 0 0 mc ms (sp_X11_refuse G) (ix_iret mc ms Q))))))
theorem b_X11_copyWalls_0 {l : Launch} {G : GT} {D mc ms : Nat} {Q : Post} : Imp l G M_X11_copyWalls (D + 2) mc ms Q (B_X11_copyWalls_0 l G D mc ms Q) 0 := sx_iload_n dX11_copyWalls_0 rfl (sx_scall dX11_copyWalls_1 cf_X11_isTray (mg_3 (List.mem_of_getElem? (i := 82) rfl) rfl) (mg_3 (List.mem_of_getElem? (i := 83) rfl) rfl) c_X11_isTray (sx_if_ne 13 dX11_copyWalls_4 (by decide) (sx_aload_n dX11_copyWalls_13 rfl (sx_getR dX11_copyWalls_14 fl_FootQuarrel_11 (fun _ _ _ => rfl) (sx_iload_n dX11_copyWalls_17 rfl (sx_aald dX11_copyWalls_18 (by decide) (by decide) rfl (sx_astore_n dX11_copyWalls_19 rfl (by decide) (sx_aload_n dX11_copyWalls_20 rfl (sx_vcall dX11_copyWalls_21 cf_X8_isMissing (mg_3 (List.mem_of_getElem? (i := 108) rfl) rfl) (mg_3 (List.mem_of_getElem? (i := 109) rfl) rfl) (mg_3 (List.mem_of_getElem? (i := 110) rfl) rfl) rfl c_X8_isMissing (sx_if_eq 33 dX11_copyWalls_24 (by decide) (sx_aload_n dX11_copyWalls_33 rfl (sx_getR dX11_copyWalls_34 fl_FootQuarrel_46 (fun _ _ _ => rfl) (sx_vcall dX11_copyWalls_37 cf_X6_wallCount (mg_4 (List.mem_of_getElem? (i := 194) rfl) rfl) (mg_4 (List.mem_of_getElem? (i := 195) rfl) rfl) (mg_4 (List.mem_of_getElem? (i := 196) rfl) rfl) rfl c_X6_wallCount (sx_istore_n dX11_copyWalls_40 rfl (by decide) (sx_aload_n dX11_copyWalls_41 rfl (sx_iconst dX11_copyWalls_42 rfl (sx_iload_n dX11_copyWalls_43 rfl (sx_vcall dX11_copyWalls_44 cf_X8_spans (mg_3 (List.mem_of_getElem? (i := 128) rfl) rfl) (mg_3 (List.mem_of_getElem? (i := 129) rfl) rfl) (mg_3 (List.mem_of_getElem? (i := 130) rfl) rfl) rfl c_X8_spans (sx_if_ne 56 dX11_copyWalls_47 (by decide) (sx_iconst dX11_copyWalls_56 rfl (sx_istore dX11_copyWalls_57 (by decide) ((fun _ _ _ _ _ _ _ _ h => h)))) (sx_aload_n dX11_copyWalls_50 rfl (sx_iconst dX11_copyWalls_51 rfl (sx_vcall dX11_copyWalls_52 cf_X11_refuse (mg_3 (List.mem_of_getElem? (i := 120) rfl) rfl) (mg_3 (List.mem_of_getElem? (i := 122) rfl) rfl) (mg_p (List.mem_of_getElem? (i := 3) rfl) rfl) rfl c_X11_refuse (sx_iret dX11_copyWalls_55 rfl))))))))))))) (sx_aload_n dX11_copyWalls_27 rfl (sx_iconst dX11_copyWalls_28 rfl (sx_vcall dX11_copyWalls_29 cf_X11_refuse (mg_3 (List.mem_of_getElem? (i := 120) rfl) rfl) (mg_3 (List.mem_of_getElem? (i := 122) rfl) rfl) (mg_p (List.mem_of_getElem? (i := 3) rfl) rfl) rfl c_X11_refuse (sx_iret dX11_copyWalls_32 rfl)))))))))))) (sx_aload_n dX11_copyWalls_7 rfl (sx_iconst dX11_copyWalls_8 rfl (sx_vcall dX11_copyWalls_9 cf_X11_refuse (mg_3 (List.mem_of_getElem? (i := 120) rfl) rfl) (mg_3 (List.mem_of_getElem? (i := 122) rfl) rfl) (mg_p (List.mem_of_getElem? (i := 3) rfl) rfl) rfl c_X11_refuse (sx_iret dX11_copyWalls_12 rfl))))))
theorem dX11_wet_0 : decode cX11_wet 0 = .ok (.iload_n 1, 1) := by decide +kernel
theorem dX11_wet_1 : decode cX11_wet 1 = .ok (.iconst 0, 1) := by decide +kernel
theorem dX11_wet_2 : decode cX11_wet 2 = .ok (.bipush 12, 2) := by decide +kernel
theorem dX11_wet_4 : decode cX11_wet 4 = .ok (.invokestatic 74, 3) := by decide +kernel
theorem dX11_wet_7 : decode cX11_wet 7 = .ok (.ifCond .eq 13, 3) := by decide +kernel
theorem dX11_wet_10 : decode cX11_wet 10 = .ok (.iload_n 2, 1) := by decide +kernel
theorem dX11_wet_11 : decode cX11_wet 11 = .ok (.iconst 0, 1) := by decide +kernel
theorem dX11_wet_12 : decode cX11_wet 12 = .ok (.bipush 12, 2) := by decide +kernel
theorem dX11_wet_14 : decode cX11_wet 14 = .ok (.invokestatic 74, 3) := by decide +kernel
theorem dX11_wet_17 : decode cX11_wet 17 = .ok (.ifCond .ne 9, 3) := by decide +kernel
theorem dX11_wet_20 : decode cX11_wet 20 = .ok (.aload_n 0, 1) := by decide +kernel
theorem dX11_wet_21 : decode cX11_wet 21 = .ok (.iconst 1, 1) := by decide +kernel
theorem dX11_wet_22 : decode cX11_wet 22 = .ok (.invokevirtual 78, 3) := by decide +kernel
theorem dX11_wet_25 : decode cX11_wet 25 = .ok (.ireturn, 1) := by decide +kernel
theorem dX11_wet_26 : decode cX11_wet 26 = .ok (.lconst 0, 1) := by decide +kernel
theorem dX11_wet_27 : decode cX11_wet 27 = .ok (.lstore_n 3, 1) := by decide +kernel
theorem dX11_wet_28 : decode cX11_wet 28 = .ok (.lconst 1, 1) := by decide +kernel
theorem dX11_wet_29 : decode cX11_wet 29 = .ok (.lstore 5, 2) := by decide +kernel
theorem dX11_wet_31 : decode cX11_wet 31 = .ok (.iconst 0, 1) := by decide +kernel
theorem dX11_wet_32 : decode cX11_wet 32 = .ok (.istore 7, 2) := by decide +kernel
theorem dX11_wet_34 : decode cX11_wet 34 = .ok (.iload 7, 2) := by decide +kernel
theorem dX11_wet_36 : decode cX11_wet 36 = .ok (.iload_n 1, 1) := by decide +kernel
theorem dX11_wet_37 : decode cX11_wet 37 = .ok (.if_icmp .gt 67, 3) := by decide +kernel
theorem dX11_wet_40 : decode cX11_wet 40 = .ok (.iload 7, 2) := by decide +kernel
theorem dX11_wet_42 : decode cX11_wet 42 = .ok (.iload_n 2, 1) := by decide +kernel
theorem dX11_wet_43 : decode cX11_wet 43 = .ok (.if_icmp .lt 39, 3) := by decide +kernel
theorem dX11_wet_46 : decode cX11_wet 46 = .ok (.lload_n 3, 1) := by decide +kernel
theorem dX11_wet_47 : decode cX11_wet 47 = .ok (.lload 5, 2) := by decide +kernel
theorem dX11_wet_49 : decode cX11_wet 49 = .ok (.aload_n 0, 1) := by decide +kernel
theorem dX11_wet_50 : decode cX11_wet 50 = .ok (.getfield 46, 3) := by decide +kernel
theorem dX11_wet_53 : decode cX11_wet 53 = .ok (.getfield 176, 3) := by decide +kernel
theorem dX11_wet_56 : decode cX11_wet 56 = .ok (.iload 7, 2) := by decide +kernel
theorem dX11_wet_58 : decode cX11_wet 58 = .ok (.invokestatic 402, 3) := by decide +kernel
theorem dX11_wet_61 : decode cX11_wet 61 = .ok (.lmul, 1) := by decide +kernel
theorem dX11_wet_62 : decode cX11_wet 62 = .ok (.bipush 16, 2) := by decide +kernel
theorem dX11_wet_64 : decode cX11_wet 64 = .ok (.aload_n 0, 1) := by decide +kernel
theorem dX11_wet_65 : decode cX11_wet 65 = .ok (.getfield 46, 3) := by decide +kernel
theorem dX11_wet_68 : decode cX11_wet 68 = .ok (.getfield 176, 3) := by decide +kernel
theorem dX11_wet_71 : decode cX11_wet 71 = .ok (.isub, 1) := by decide +kernel
theorem dX11_wet_72 : decode cX11_wet 72 = .ok (.iload_n 1, 1) := by decide +kernel
theorem dX11_wet_73 : decode cX11_wet 73 = .ok (.iload 7, 2) := by decide +kernel
theorem dX11_wet_75 : decode cX11_wet 75 = .ok (.isub, 1) := by decide +kernel
theorem dX11_wet_76 : decode cX11_wet 76 = .ok (.invokestatic 402, 3) := by decide +kernel
theorem dX11_wet_79 : decode cX11_wet 79 = .ok (.lmul, 1) := by decide +kernel
theorem dX11_wet_80 : decode cX11_wet 80 = .ok (.ladd, 1) := by decide +kernel
theorem dX11_wet_81 : decode cX11_wet 81 = .ok (.lstore_n 3, 1) := by decide +kernel
theorem dX11_wet_82 : decode cX11_wet 82 = .ok (.lload 5, 2) := by decide +kernel
theorem dX11_wet_84 : decode cX11_wet 84 = .ok (.iload_n 1, 1) := by decide +kernel
theorem dX11_wet_85 : decode cX11_wet 85 = .ok (.iload 7, 2) := by decide +kernel
theorem dX11_wet_87 : decode cX11_wet 87 = .ok (.isub, 1) := by decide +kernel
theorem dX11_wet_88 : decode cX11_wet 88 = .ok (.i2l, 1) := by decide +kernel
theorem dX11_wet_89 : decode cX11_wet 89 = .ok (.lmul, 1) := by decide +kernel
theorem dX11_wet_90 : decode cX11_wet 90 = .ok (.iload 7, 2) := by decide +kernel
theorem dX11_wet_92 : decode cX11_wet 92 = .ok (.iconst 1, 1) := by decide +kernel
theorem dX11_wet_93 : decode cX11_wet 93 = .ok (.iadd, 1) := by decide +kernel
theorem dX11_wet_94 : decode cX11_wet 94 = .ok (.i2l, 1) := by decide +kernel
theorem dX11_wet_95 : decode cX11_wet 95 = .ok (.ldiv, 1) := by decide +kernel
theorem dX11_wet_96 : decode cX11_wet 96 = .ok (.lstore 5, 2) := by decide +kernel
theorem dX11_wet_98 : decode cX11_wet 98 = .ok (.iinc 7 1, 3) := by decide +kernel
theorem dX11_wet_101 : decode cX11_wet 101 = .ok (.goto (-67), 3) := by decide +kernel
theorem dX11_wet_104 : decode cX11_wet 104 = .ok (.aload_n 0, 1) := by decide +kernel
theorem dX11_wet_105 : decode cX11_wet 105 = .ok (.lload_n 3, 1) := by decide +kernel
theorem dX11_wet_106 : decode cX11_wet 106 = .ok (.bipush 16, 2) := by decide +kernel
theorem dX11_wet_108 : decode cX11_wet 108 = .ok (.iload_n 1, 1) := by decide +kernel
theorem dX11_wet_109 : decode cX11_wet 109 = .ok (.invokestatic 402, 3) := by decide +kernel
theorem dX11_wet_112 : decode cX11_wet 112 = .ok (.invokevirtual 376, 3) := by decide +kernel
theorem dX11_wet_115 : decode cX11_wet 115 = .ok (.aload_n 0, 1) := by decide +kernel
theorem dX11_wet_116 : decode cX11_wet 116 = .ok (.invokevirtual 85, 3) := by decide +kernel
theorem dX11_wet_119 : decode cX11_wet 119 = .ok (.ireturn, 1) := by decide +kernel
abbrev M_X11_wet : MT := (yX11_wet, cX11_wet, 8, (some .boolean))
theorem cf_X11_wet : fq_cf M_X11_wet 2 := ⟨(mg_1 (List.mem_of_getElem? (i := 1) rfl) rfl), (mg_6 (List.mem_of_getElem? (i := 86) rfl) rfl), ⟨by decide, by decide, by decide +kernel⟩, by decide⟩
def B_X11_wet_82 (l : Launch) (G : GT) (D mc ms : Nat) (Q : Post) : Cn := ix_lload 5 (ix_iload 1 (ix_iload 7 (ix_isub (ix_i2l (ix_lmul (ix_iload 7 (ix_pushI 1 (ix_iadd (ix_i2l (ix_ldiv (ix_lstore 5 (ix_iinc 7 1 (fqAt l G M_X11_wet (D + 2) mc ms Q 34)))))))))))))
theorem b_X11_wet_82 {l : Launch} {G : GT} {D mc ms : Nat} {Q : Post} : Imp l G M_X11_wet (D + 2) mc ms Q (B_X11_wet_82 l G D mc ms Q) 82 := sx_lload dX11_wet_82 (sx_iload_n dX11_wet_84 rfl (sx_iload dX11_wet_85 (sx_isub dX11_wet_87 (sx_i2l dX11_wet_88 (sx_lmul dX11_wet_89 (sx_iload dX11_wet_90 (sx_iconst dX11_wet_92 rfl (sx_iadd dX11_wet_93 (sx_i2l dX11_wet_94 (sx_ldiv dX11_wet_95 (sx_lstore dX11_wet_96 (by decide) (sx_iinc dX11_wet_98 rfl (by decide) (sx_goto 34 dX11_wet_101 (by decide) ((fun _ _ _ _ _ _ _ _ h => h)))))))))))))))
def B_X11_wet_34 (l : Launch) (G : GT) (D mc ms : Nat) (Q : Post) : Cn := ix_iload 7 (ix_iload 1 (ix_icmp_gt (ix_aload 0 (ix_lload 3 (ix_pushI 16 (ix_iload 1 (ix_call 2 0 0 mc ms (sp_X11_power G) (ix_vcall 11 3 0 0 mc ms (sp_X11_tellFraction G) (ix_aload 0 (ix_vcall 11 1 0 0 mc ms (sp_X11_grant G) (ix_zret mc ms Q))))))))) (ix_iload 7 (ix_iload 2 (ix_icmp_lt ((B_X11_wet_82 l G D mc ms Q)) (ix_lload 3 (ix_lload 5 (ix_aload 0 (ix_getR 11 6 (ix_getI 6 11 (ix_iload 7 (ix_call 2 0 0 mc ms (sp_X11_power G) (ix_lmul (ix_pushI 16 (ix_aload 0 (ix_getR 11 6 (ix_getI 6 11 (ix_isub (ix_iload 1 (ix_iload 7 (ix_isub (ix_call 2 0 0 mc ms (sp_X11_power G) (ix_lmul (ix_ladd (ix_lstore 3 ((B_X11_wet_82 l G D mc ms Q)))))))))))))))))))))))))))
theorem b_X11_wet_34 {l : Launch} {G : GT} {D mc ms : Nat} {Q : Post} : Imp l G M_X11_wet (D + 2) mc ms Q (B_X11_wet_34 l G D mc ms Q) 34 := sx_iload dX11_wet_34 (sx_iload_n dX11_wet_36 rfl (sx_icmp_gt 104 dX11_wet_37 (by decide) (sx_aload_n dX11_wet_104 rfl (sx_lload_n dX11_wet_105 rfl (sx_bipush dX11_wet_106 rfl (sx_iload_n dX11_wet_108 rfl (sx_scall dX11_wet_109 cf_X11_power (mg_6 (List.mem_of_getElem? (i := 87) rfl) rfl) (mg_6 (List.mem_of_getElem? (i := 88) rfl) rfl) c_X11_power (sx_vcall dX11_wet_112 cf_X11_tellFraction (mg_6 (List.mem_of_getElem? (i := 33) rfl) rfl) (mg_6 (List.mem_of_getElem? (i := 35) rfl) rfl) (mg_p (List.mem_of_getElem? (i := 35) rfl) rfl) rfl c_X11_tellFraction (sx_aload_n dX11_wet_115 rfl (sx_vcall dX11_wet_116 cf_X11_grant (mg_3 (List.mem_of_getElem? (i := 96) rfl) rfl) (mg_3 (List.mem_of_getElem? (i := 98) rfl) rfl) (mg_p (List.mem_of_getElem? (i := 1) rfl) rfl) rfl c_X11_grant (sx_zret dX11_wet_119 rfl))))))))) (sx_iload dX11_wet_40 (sx_iload_n dX11_wet_42 rfl (sx_icmp_lt 82 dX11_wet_43 (by decide) (b_X11_wet_82) (sx_lload_n dX11_wet_46 rfl (sx_lload dX11_wet_47 (sx_aload_n dX11_wet_49 rfl (sx_getR dX11_wet_50 fl_FootQuarrel_46 (fun _ _ _ => rfl) (sx_getI dX11_wet_53 fl_FootQuarrel_176 (fun _ _ _ => rfl) (sx_iload dX11_wet_56 (sx_scall dX11_wet_58 cf_X11_power (mg_6 (List.mem_of_getElem? (i := 87) rfl) rfl) (mg_6 (List.mem_of_getElem? (i := 88) rfl) rfl) c_X11_power (sx_lmul dX11_wet_61 (sx_bipush dX11_wet_62 rfl (sx_aload_n dX11_wet_64 rfl (sx_getR dX11_wet_65 fl_FootQuarrel_46 (fun _ _ _ => rfl) (sx_getI dX11_wet_68 fl_FootQuarrel_176 (fun _ _ _ => rfl) (sx_isub dX11_wet_71 (sx_iload_n dX11_wet_72 rfl (sx_iload dX11_wet_73 (sx_isub dX11_wet_75 (sx_scall dX11_wet_76 cf_X11_power (mg_6 (List.mem_of_getElem? (i := 87) rfl) rfl) (mg_6 (List.mem_of_getElem? (i := 88) rfl) rfl) c_X11_power (sx_lmul dX11_wet_79 (sx_ladd dX11_wet_80 (sx_lstore_n dX11_wet_81 rfl (by decide) (b_X11_wet_82))))))))))))))))))))))))))
def B_X11_wet_20 (l : Launch) (G : GT) (D mc ms : Nat) (Q : Post) : Cn := ix_aload 0 (ix_pushI 1 (ix_vcall 11 2 0 0 mc ms (sp_X11_deny G) (ix_zret mc ms Q)))
theorem b_X11_wet_20 {l : Launch} {G : GT} {D mc ms : Nat} {Q : Post} : Imp l G M_X11_wet (D + 2) mc ms Q (B_X11_wet_20 l G D mc ms Q) 20 := sx_aload_n dX11_wet_20 rfl (sx_iconst dX11_wet_21 rfl (sx_vcall dX11_wet_22 cf_X11_deny (mg_3 (List.mem_of_getElem? (i := 88) rfl) rfl) (mg_3 (List.mem_of_getElem? (i := 90) rfl) rfl) (mg_p (List.mem_of_getElem? (i := 0) rfl) rfl) rfl c_X11_deny (sx_zret dX11_wet_25 rfl)))
def B_X11_wet_0 (l : Launch) (G : GT) (D mc ms : Nat) (Q : Post) : Cn := ix_iload 1 (ix_pushI 0 (ix_pushI 12 (ix_call 3 0 0 mc ms (sp_X11_isWithin G) (ix_if_eq ((B_X11_wet_20 l G D mc ms Q)) (ix_iload 2 (ix_pushI 0 (ix_pushI 12 (ix_call 3 0 0 mc ms (sp_X11_isWithin G) (ix_if_ne (ix_pushL 0 (ix_lstore 3 (ix_pushL 1 (ix_lstore 5 (ix_pushI 0 (ix_istore 7 (fqAt l G M_X11_wet (D + 2) mc ms Q 34))))))) ((B_X11_wet_20 l G D mc ms Q)))))))))))
theorem b_X11_wet_0 {l : Launch} {G : GT} {D mc ms : Nat} {Q : Post} : Imp l G M_X11_wet (D + 2) mc ms Q (B_X11_wet_0 l G D mc ms Q) 0 := sx_iload_n dX11_wet_0 rfl (sx_iconst dX11_wet_1 rfl (sx_bipush dX11_wet_2 rfl (sx_scall dX11_wet_4 cf_X11_isWithin (mg_3 (List.mem_of_getElem? (i := 85) rfl) rfl) (mg_3 (List.mem_of_getElem? (i := 86) rfl) rfl) c_X11_isWithin (sx_if_eq 20 dX11_wet_7 (by decide) (b_X11_wet_20) (sx_iload_n dX11_wet_10 rfl (sx_iconst dX11_wet_11 rfl (sx_bipush dX11_wet_12 rfl (sx_scall dX11_wet_14 cf_X11_isWithin (mg_3 (List.mem_of_getElem? (i := 85) rfl) rfl) (mg_3 (List.mem_of_getElem? (i := 86) rfl) rfl) c_X11_isWithin (sx_if_ne 26 dX11_wet_17 (by decide) (sx_lconst dX11_wet_26 rfl (sx_lstore_n dX11_wet_27 rfl (by decide) (sx_lconst dX11_wet_28 rfl (sx_lstore dX11_wet_29 (by decide) (sx_iconst dX11_wet_31 rfl (sx_istore dX11_wet_32 (by decide) ((fun _ _ _ _ _ _ _ _ h => h)))))))) (b_X11_wet_20))))))))))
/-- a number cut to a sort -/
def ctF (so : Int32) (v : Int64) : Int64 := if so = 0 then v.toInt32.toInt8.toInt32.toInt64 else if so = 1 then v.toInt32.toInt16.toInt32.toInt64 else if so = 2 then v.toInt32.toInt64 else v
theorem ctF_0 {so : Int32} {v : Int64} (h : so.toInt = 0) : ctF so v = v.toInt32.toInt8.toInt32.toInt64 := by
  have : so = 0 := Int32.toInt_inj.mp h
  unfold ctF
  rw [if_pos this]
theorem ctF_1 {so : Int32} {v : Int64} (h : so.toInt = 0 + 1) : ctF so v = v.toInt32.toInt16.toInt32.toInt64 := by
  have : so = 1 := Int32.toInt_inj.mp h
  subst this
  rfl
theorem ctF_2 {so : Int32} {v : Int64} (h : so.toInt = 0 + 1 + 1) : ctF so v = v.toInt32.toInt64 := by
  have : so = 2 := Int32.toInt_inj.mp h
  subst this
  rfl
theorem ctF_3 {so : Int32} {v : Int64} (h0 : ¬ so.toInt = 0) (h1 : ¬ so.toInt = 0 + 1) (h2 : ¬ so.toInt = 0 + 1 + 1) : ctF so v = v := by
  unfold ctF
  rw [if_neg (fun h => h0 (by rw [h]; rfl)), if_neg (fun h => h1 (by rw [h]; rfl)), if_neg (fun h => h2 (by rw [h]; rfl))]
/-- the walls' places, the first w of them, in a row -/
def cwJ (I : IH) (J : JH) (s t : Nat) (so : Int32) (w : Nat) : JH := fun q k => if q = t ∧ k < w then ctF so (foldU (fun i a => a + I (s + 18 + i) 2) 0 (k + 1) 0).toInt64 else J q k
theorem cwJ_0 (I : IH) (J : JH) (s t : Nat) (so : Int32) : cwJ I J s t so 0 = J := by
  funext q k
  unfold cwJ
  rw [if_neg (by omega)]
theorem cwJ_1 (I : IH) (J : JH) (s t : Nat) (so : Int32) (w : Nat) : u2 (cwJ I J s t so w) t w (ctF so (foldU (fun i a => a + I (s + 18 + i) 2) 0 (w + 1) 0).toInt64) = cwJ I J s t so (w + 1) := by
  funext q k
  unfold u2 cwJ
  by_cases h1 : q = t ∧ k = w
  · rw [if_pos h1, if_pos ⟨h1.1, by omega⟩, h1.2]
  · rw [if_neg h1]
    by_cases h2 : q = t ∧ k < w
    · rw [if_pos h2, if_pos ⟨h2.1, by omega⟩]
    · rw [if_neg h2, if_neg (by omega)]
def wcU (hc : Nat) : Nat := hc - 1
def sp_X11_copyWalls (G : GT) : Sp := fun as S I J z Q => match as with
  | [.ref X, .int t] => ∃ s, xsh S X s ∧ trS S X ∧ okN (I s 5) 6 ∧ (¬ (0 ≤ t ∧ t ≤ 3) → Q (some (.int (-1))) S (u2 I X 10 1) J z) ∧ ∀ k, t = nI k → k < 4 → (I (X + 2 + 2 * k) 1 = -1 → Q (some (.int (-1))) S (u2 I X 10 2) J z) ∧ (¬ I (X + 2 + 2 * k) 1 = -1 → (¬ ((0 : Int32) ≤ I (X + 2 + 2 * k) 1 ∧ nI ((I s 5).toNatClampNeg - 1) ≤ I (X + 2 + 2 * k) 1 - 0) → Q (some (.int (-1))) S (u2 I X 10 3) J z) ∧ (((0 : Int32) ≤ I (X + 2 + 2 * k) 1 ∧ nI ((I s 5).toNatClampNeg - 1) ≤ I (X + 2 + 2 * k) 1 - 0) → Q (some (.int (nI ((I s 5).toNatClampNeg - 1)))) S (u2 I X 10 0) (cwJ I J s (X + 2 + 2 * k + 1) (I (X + 2 + 2 * k) 2) ((I s 5).toNatClampNeg - 1)) z))
  | _ => False
theorem wct {c : Nat} (h : c ≤ 6) : (if (0 : Int32) < nI c - 1 then nI c - 1 else 0) = nI (c - 1) := by
  rcases (show c = 0 ∨ c = 1 ∨ c = 2 ∨ c = 3 ∨ c = 4 ∨ c = 5 ∨ c = 6 by omega) with rfl | rfl | rfl | rfl | rfl | rfl | rfl <;> decide
set_option maxHeartbeats 4000000 in
set_option maxRecDepth 20000 in
theorem c_X11_copyWalls {l : Launch} {G : GT} {D : Nat} : ∀ as S I J z Q, sp_X11_copyWalls G as S I J z Q → fqCall l G M_X11_copyWalls (D + 2) 0 0 as S I J z Q := by
  intro as S I J z Q h
  unfold sp_X11_copyWalls at h
  split at h
  · next X t =>
    obtain ⟨s, ⟨x1, x2, hs⟩, ht, ho, hQ1, hQ2⟩ := h
    obtain ⟨c, hc, hc1, hc2⟩ := ho.ex
    rw [hc2] at hQ2
    by_cases h1 : 0 ≤ t ∧ t ≤ 3
    · obtain ⟨k, hk, rfl⟩ := in03 h1
      have hq := hQ2 k rfl hk
      have hw := wct hc
      have lp : ∀ (n i : Nat), i + n = c - 1 → Q (some (.int (nI (c - 1)))) S (u2 I X 10 0) (cwJ I J s (X + 2 + 2 * k + 1) (I (X + 2 + 2 * k) 2) (c - 1)) z → fqAt l G M_X11_copyWalls (D + 2) 0 0 Q 59 [some (.ref X), some (.int (nI k)), some (.ref (X + 2 + 2 * k)), some (.int (nI (c - 1))), some (.int (nI i))] [] S I (cwJ I J s (X + 2 + 2 * k + 1) (I (X + 2 + 2 * k) 2) i) z 0 0 := by
        intro n
        induction n with
        | zero =>
          intro i hi hq
          refine b_X11_copyWalls_59 _ _ _ _ _ _ _ _ ?_
          simp (disch := omega) only [B_X11_copyWalls_0, B_X11_copyWalls_59, sp_X11_isTray, B_X11_isTray_0, sp_X11_isWithin, sp_X11_refuse, B_X11_refuse_0, sp_X8_isMissing, sp_X6_wallCount, B_X6_wallCount_0, sp_X8_spans, sp_X6_wallPlace, sp_X8_put, B_X8_put_0, B_X8_put_77, sp_X11_answer, B_X11_answer_0, x1, x2, nI_1, nI_add, nI_clamp, nI_pin, nI_neg, nI_nonneg, nI_leE, nI_ltE, nI_eqE, Nat.not_le, Nat.not_lt, fq_10, fq_01, fq_rr, ix_aald, ix_aast, ix_abs, ix_alen, ix_aload, ix_aret, ix_astore, ix_bald, ix_bast, ix_call, ix_cpyI, ix_cpyJ, ix_dead, ix_dup2, ix_dup2L, ix_dupI, ix_dupR, ix_dupx1, ix_getI, ix_getJ, ix_getR, ix_gfm, ix_gtab, ix_i2b, ix_i2c, ix_i2l, ix_i2s, ix_iadd, ix_iald, ix_iand, ix_iast, ix_icall, ix_icmp_eq, ix_icmp_ge, ix_icmp_gt, ix_icmp_le, ix_icmp_lt, ix_icmp_ne, ix_idiv, ix_if_eq, ix_if_ge, ix_if_gt, ix_if_le, ix_if_lt, ix_if_ne, ix_iinc, ix_iload, ix_imul, ix_ineg, ix_ior, ix_irem, ix_iret, ix_ishl, ix_ishr, ix_istore, ix_isub, ix_iushr, ix_ixor, ix_l2i, ix_ladd, ix_lald, ix_land, ix_last, ix_lcmp, ix_ldcS, ix_ldiv, ix_lload, ix_lmul, ix_lor, ix_lrem, ix_lret, ix_lshl, ix_lstore, ix_lsub, ix_lsw, ix_max, ix_min, ix_new, ix_newa, ix_nret, ix_oinit, ix_pop2L, ix_popI, ix_pushI, ix_pushL, ix_putI, ix_putJ, ix_putR, ix_putZ, ix_sbald, ix_sgetC, ix_sgetV, ix_slen, ix_strc, ix_tald, ix_tsw, ix_vcall, ix_vret, ix_zret, stL, stL2, kilL, popN, fq_sw, fq_lsw, List.map_cons, List.map_nil, List.getElem?_cons_zero, List.getElem?_cons_succ, Option.toList_some, Option.toList_none, List.cons_append, List.nil_append, List.length_cons, List.length_nil, List.sum_cons, List.sum_nil, cat_i, cat_l, cat_r, true_and, and_true, Nat.zero_add, Nat.add_zero, Nat.le_refl, Nat.zero_le, Nat.reduceAdd, Nat.reduceLeDiff, exists_eq_left', Option.some.injEq, not_true_eq_false, not_false_eq_true, false_implies, true_implies, implies_true, and_self, or_true, true_or, or_false, false_or]
          refine ⟨fun _ => ?_, fun h => absurd h (by omega)⟩
          rw [show i = c - 1 by omega]
          exact hq
        | succ n ih =>
          intro i hi hq
          refine b_X11_copyWalls_59 _ _ _ _ _ _ _ _ ?_
          simp (disch := omega) only [B_X11_copyWalls_0, B_X11_copyWalls_59, sp_X11_isTray, B_X11_isTray_0, sp_X11_isWithin, sp_X11_refuse, B_X11_refuse_0, sp_X8_isMissing, sp_X6_wallCount, B_X6_wallCount_0, sp_X8_spans, sp_X6_wallPlace, sp_X8_put, B_X8_put_0, B_X8_put_77, sp_X11_answer, B_X11_answer_0, x1, x2, ht.r, ht.k1, ht.n1, ht.ri, ht.ki, ht.ci, ht.kc, ht.nc, hs, hs.k, nI_1, nI_add, nI_clamp, nI_pin, nI_neg, nI_nonneg, nI_leE, nI_ltE, nI_eqE, Nat.not_le, Nat.not_lt, fq_10, fq_01, fq_rr, ix_aald, ix_aast, ix_abs, ix_alen, ix_aload, ix_aret, ix_astore, ix_bald, ix_bast, ix_call, ix_cpyI, ix_cpyJ, ix_dead, ix_dup2, ix_dup2L, ix_dupI, ix_dupR, ix_dupx1, ix_getI, ix_getJ, ix_getR, ix_gfm, ix_gtab, ix_i2b, ix_i2c, ix_i2l, ix_i2s, ix_iadd, ix_iald, ix_iand, ix_iast, ix_icall, ix_icmp_eq, ix_icmp_ge, ix_icmp_gt, ix_icmp_le, ix_icmp_lt, ix_icmp_ne, ix_idiv, ix_if_eq, ix_if_ge, ix_if_gt, ix_if_le, ix_if_lt, ix_if_ne, ix_iinc, ix_iload, ix_imul, ix_ineg, ix_ior, ix_irem, ix_iret, ix_ishl, ix_ishr, ix_istore, ix_isub, ix_iushr, ix_ixor, ix_l2i, ix_ladd, ix_lald, ix_land, ix_last, ix_lcmp, ix_ldcS, ix_ldiv, ix_lload, ix_lmul, ix_lor, ix_lrem, ix_lret, ix_lshl, ix_lstore, ix_lsub, ix_lsw, ix_max, ix_min, ix_new, ix_newa, ix_nret, ix_oinit, ix_pop2L, ix_popI, ix_pushI, ix_pushL, ix_putI, ix_putJ, ix_putR, ix_putZ, ix_sbald, ix_sgetC, ix_sgetV, ix_slen, ix_strc, ix_tald, ix_tsw, ix_vcall, ix_vret, ix_zret, stL, stL2, kilL, popN, fq_sw, fq_lsw, List.map_cons, List.map_nil, List.getElem?_cons_zero, List.getElem?_cons_succ, Option.toList_some, Option.toList_none, List.cons_append, List.nil_append, List.length_cons, List.length_nil, List.sum_cons, List.sum_nil, cat_i, cat_l, cat_r, true_and, and_true, Nat.zero_add, Nat.add_zero, Nat.le_refl, Nat.zero_le, Nat.reduceAdd, Nat.reduceLeDiff, exists_eq_left', Option.some.injEq, not_true_eq_false, not_false_eq_true, false_implies, true_implies, implies_true, and_self, or_true, true_or, or_false, false_or]
          have hz := ih (i + 1) (by omega) hq
          rw [← cwJ_1] at hz
          refine ⟨fun h => absurd h (by omega), fun _ => ⟨fun h0 => ?_, fun h0 => ⟨fun h1 => ?_, fun h1 => ⟨fun h2 => ?_, fun h2 => ?_⟩⟩⟩⟩
          · rw [ctF_0 h0] at hz
            exact hz
          · rw [ctF_1 h1] at hz
            exact hz
          · rw [ctF_2 h2] at hz
            exact hz
          · rw [ctF_3 h0 h1 h2] at hz
            exact hz
      refine fq_enter [some (.ref X), some (.int (nI k)), none, none, none] (by decide +kernel) (Nat.le_of_ble_eq_true rfl) rfl (b_X11_copyWalls_0 _ _ _ _ _ _ _ _ ?_)
      simp (disch := omega) only [B_X11_copyWalls_0, B_X11_copyWalls_59, sp_X11_isTray, B_X11_isTray_0, sp_X11_isWithin, sp_X11_refuse, B_X11_refuse_0, sp_X8_isMissing, sp_X6_wallCount, B_X6_wallCount_0, sp_X8_spans, sp_X6_wallPlace, sp_X8_put, B_X8_put_0, B_X8_put_77, sp_X11_answer, B_X11_answer_0, x1, x2, hc1, hw, ht.r, ht.k1, ht.n1, ht.ri, ht.ki, ht.ci, ht.kc, ht.nc, hs, hs.k, h1, bI_01, bI_01b, bI_0, bI_tr, bI_fl, nI_1, nI_add, nI_clamp, nI_pin, nI_neg, nI_nonneg, nI_leE, nI_ltE, nI_eqE, Nat.not_le, Nat.not_lt, fq_10, fq_01, fq_rr, ix_aald, ix_aast, ix_abs, ix_alen, ix_aload, ix_aret, ix_astore, ix_bald, ix_bast, ix_call, ix_cpyI, ix_cpyJ, ix_dead, ix_dup2, ix_dup2L, ix_dupI, ix_dupR, ix_dupx1, ix_getI, ix_getJ, ix_getR, ix_gfm, ix_gtab, ix_i2b, ix_i2c, ix_i2l, ix_i2s, ix_iadd, ix_iald, ix_iand, ix_iast, ix_icall, ix_icmp_eq, ix_icmp_ge, ix_icmp_gt, ix_icmp_le, ix_icmp_lt, ix_icmp_ne, ix_idiv, ix_if_eq, ix_if_ge, ix_if_gt, ix_if_le, ix_if_lt, ix_if_ne, ix_iinc, ix_iload, ix_imul, ix_ineg, ix_ior, ix_irem, ix_iret, ix_ishl, ix_ishr, ix_istore, ix_isub, ix_iushr, ix_ixor, ix_l2i, ix_ladd, ix_lald, ix_land, ix_last, ix_lcmp, ix_ldcS, ix_ldiv, ix_lload, ix_lmul, ix_lor, ix_lrem, ix_lret, ix_lshl, ix_lstore, ix_lsub, ix_lsw, ix_max, ix_min, ix_new, ix_newa, ix_nret, ix_oinit, ix_pop2L, ix_popI, ix_pushI, ix_pushL, ix_putI, ix_putJ, ix_putR, ix_putZ, ix_sbald, ix_sgetC, ix_sgetV, ix_slen, ix_strc, ix_tald, ix_tsw, ix_vcall, ix_vret, ix_zret, stL, stL2, kilL, popN, fq_sw, fq_lsw, List.map_cons, List.map_nil, List.getElem?_cons_zero, List.getElem?_cons_succ, Option.toList_some, Option.toList_none, List.cons_append, List.nil_append, List.length_cons, List.length_nil, List.sum_cons, List.sum_nil, cat_i, cat_l, cat_r, true_and, and_true, Nat.zero_add, Nat.add_zero, Nat.le_refl, Nat.zero_le, Nat.reduceAdd, Nat.reduceLeDiff, exists_eq_left', Option.some.injEq, not_true_eq_false, not_false_eq_true, false_implies, true_implies, implies_true, and_self, or_true, true_or, or_false, false_or]
      refine ⟨fun h => ⟨fun h9 => ?_, fun h9 => (hq.2 h).1 h9⟩, fun h => hq.1 (Classical.not_not.mp h)⟩
      have hz := lp (c - 1) 0 (by omega) ((hq.2 h).2 (Classical.not_not.mp h9))
      rw [cwJ_0] at hz
      exact hz
    · refine fq_enter [some (.ref X), some (.int t), none, none, none] (by decide +kernel) (Nat.le_of_ble_eq_true rfl) rfl (b_X11_copyWalls_0 _ _ _ _ _ _ _ _ ?_)
      simp (disch := omega) only [B_X11_copyWalls_0, B_X11_copyWalls_59, sp_X11_isTray, B_X11_isTray_0, sp_X11_isWithin, sp_X11_refuse, B_X11_refuse_0, sp_X8_isMissing, sp_X6_wallCount, B_X6_wallCount_0, sp_X8_spans, sp_X6_wallPlace, sp_X8_put, B_X8_put_0, B_X8_put_77, sp_X11_answer, B_X11_answer_0, x1, x2, h1, bI_01, bI_01b, bI_0, bI_tr, bI_fl, nI_1, nI_add, nI_clamp, nI_pin, nI_neg, nI_nonneg, nI_leE, nI_ltE, nI_eqE, Nat.not_le, Nat.not_lt, fq_10, fq_01, fq_rr, ix_aald, ix_aast, ix_abs, ix_alen, ix_aload, ix_aret, ix_astore, ix_bald, ix_bast, ix_call, ix_cpyI, ix_cpyJ, ix_dead, ix_dup2, ix_dup2L, ix_dupI, ix_dupR, ix_dupx1, ix_getI, ix_getJ, ix_getR, ix_gfm, ix_gtab, ix_i2b, ix_i2c, ix_i2l, ix_i2s, ix_iadd, ix_iald, ix_iand, ix_iast, ix_icall, ix_icmp_eq, ix_icmp_ge, ix_icmp_gt, ix_icmp_le, ix_icmp_lt, ix_icmp_ne, ix_idiv, ix_if_eq, ix_if_ge, ix_if_gt, ix_if_le, ix_if_lt, ix_if_ne, ix_iinc, ix_iload, ix_imul, ix_ineg, ix_ior, ix_irem, ix_iret, ix_ishl, ix_ishr, ix_istore, ix_isub, ix_iushr, ix_ixor, ix_l2i, ix_ladd, ix_lald, ix_land, ix_last, ix_lcmp, ix_ldcS, ix_ldiv, ix_lload, ix_lmul, ix_lor, ix_lrem, ix_lret, ix_lshl, ix_lstore, ix_lsub, ix_lsw, ix_max, ix_min, ix_new, ix_newa, ix_nret, ix_oinit, ix_pop2L, ix_popI, ix_pushI, ix_pushL, ix_putI, ix_putJ, ix_putR, ix_putZ, ix_sbald, ix_sgetC, ix_sgetV, ix_slen, ix_strc, ix_tald, ix_tsw, ix_vcall, ix_vret, ix_zret, stL, stL2, kilL, popN, fq_sw, fq_lsw, List.map_cons, List.map_nil, List.getElem?_cons_zero, List.getElem?_cons_succ, Option.toList_some, Option.toList_none, List.cons_append, List.nil_append, List.length_cons, List.length_nil, List.sum_cons, List.sum_nil, cat_i, cat_l, cat_r, true_and, and_true, Nat.zero_add, Nat.add_zero, Nat.le_refl, Nat.zero_le, Nat.reduceAdd, Nat.reduceLeDiff, exists_eq_left', Option.some.injEq, not_true_eq_false, not_false_eq_true, false_implies, true_implies, implies_true, and_self, or_true, true_or, or_false, false_or]
      exact hQ1 h1
  · exact h.elim
/-- ways of n wet or dry days with k wet ones at least, in sixteenths -/
def wtU (o : Int32) (n k : Nat) : Nat → Nat → Int64 → Int64 → Int64
  | _, 0, w, _ => w
  | i, c + 1, w, ch => wtU o n k (i + 1) c (if i < k then w else w + ch * pwU o i * pwU (16 - o) (n - i)) (ch * (nI (n - i)).toInt64 / (nI (i + 1)).toInt64)
def sp_X11_wet (G : GT) : Sp := fun as S I J z Q => match as with
  | [.ref X, .int n, .int k] => ∃ s, xsh S X s ∧ (¬ ((0 ≤ n ∧ n ≤ 12) ∧ (0 ≤ k ∧ k ≤ 12)) → Q (some (.int 0)) S (u2 I X 10 1) J z) ∧ ∀ a b, a ≤ 12 → b ≤ 12 → n = nI a → k = nI b → ¬ cdv 100 (wtU (I s 11) a b 0 (a + 1) 0 1) (pwU 16 a) = 0 ∧ Q (some (.int 1)) S (u2 I X 10 0) (u2 (u2 J X 13 (wtU (I s 11) a b 0 (a + 1) 0 1 / cdv 100 (wtU (I s 11) a b 0 (a + 1) 0 1) (pwU 16 a))) X 14 (pwU 16 a / cdv 100 (wtU (I s 11) a b 0 (a + 1) 0 1) (pwU 16 a))) z
  | _ => False
theorem in12 {t : Int32} (h : 0 ≤ t ∧ t ≤ 12) : ∃ k, k ≤ 12 ∧ t = nI k := by
  obtain ⟨k, hk, rfl⟩ := nI_of (Int32.not_lt.mpr h.1)
  refine ⟨k, ?_, rfl⟩
  have := (nI_leI (a := k) (b := 12) hk (by decide)).mp h.2
  omega
theorem nI_dif {a i : Nat} (h : i ≤ a) (ha : a < 2 ^ 31) : nI a - nI i = nI (a - i) := by
  obtain ⟨d, rfl⟩ : ∃ d, a = i + d := ⟨a - i, by omega⟩
  rw [show i + d - i = d by omega, show i + d = d + i by omega, ← nI_add, Int32.add_sub_cancel]
theorem nIL_ne {i : Nat} (h : i < 2 ^ 31) (h0 : 0 < i) : ¬ (nI i).toInt64 = 0 := by
  intro h9
  have h8 : (nI i).toInt64.toInt = 0 := by rw [h9]; rfl
  rw [Int32.toInt_toInt64] at h8
  have h7 : nI i = nI 0 := Int32.toInt_inj.mp h8
  have := (nI_eq h (by decide)).mp h7
  omega
set_option maxHeartbeats 4000000 in
set_option maxRecDepth 20000 in
theorem c_X11_wet {l : Launch} {G : GT} {D : Nat} : ∀ as S I J z Q, sp_X11_wet G as S I J z Q → fqCall l G M_X11_wet (D + 2) 0 0 as S I J z Q := by
  intro as S I J z Q h
  unfold sp_X11_wet at h
  split at h
  · next X n k =>
    obtain ⟨s, ⟨x1, x2, hs⟩, hQ1, hQ2⟩ := h
    by_cases h1 : 0 ≤ n ∧ n ≤ 12
    · by_cases h2 : 0 ≤ k ∧ k ≤ 12
      · obtain ⟨a, ha, rfl⟩ := in12 h1
        obtain ⟨b, hb, rfl⟩ := in12 h2
        have hq := hQ2 a b ha hb rfl rfl
        have lp : ∀ (c i : Nat) (w ch : Int64), i + c = a + 1 → wtU (I s 11) a b i c w ch = wtU (I s 11) a b 0 (a + 1) 0 1 → fqAt l G M_X11_wet (D + 2) 0 0 Q 34 [some (.ref X), some (.int (nI a)), some (.int (nI b)), some (.long w), none, some (.long ch), none, some (.int (nI i))] [] S I J z 0 0 := by
          intro c
          induction c with
          | zero =>
            intro i w ch hi he
            have he : w = wtU (I s 11) a b 0 (a + 1) 0 1 := he
            have o1 : okN (nI a) 12 := okN.nI ha (by decide)
            refine b_X11_wet_34 _ _ _ _ _ _ _ _ ?_
            simp (disch := omega) only [B_X11_wet_0, B_X11_wet_20, B_X11_wet_34, B_X11_wet_82, sp_X11_isWithin, sp_X11_deny, B_X11_deny_0, sp_X11_power, sp_X11_tellFraction, sp_X11_grant, B_X11_grant_0, x1, x2, hs, hs.k, o1, nI_clamp, nI_1, nI_add, nI_clamp, nI_pin, nI_neg, nI_nonneg, nI_leE, nI_ltE, nI_eqE, Nat.not_le, Nat.not_lt, fq_10, fq_01, fq_rr, ix_aald, ix_aast, ix_abs, ix_alen, ix_aload, ix_aret, ix_astore, ix_bald, ix_bast, ix_call, ix_cpyI, ix_cpyJ, ix_dead, ix_dup2, ix_dup2L, ix_dupI, ix_dupR, ix_dupx1, ix_getI, ix_getJ, ix_getR, ix_gfm, ix_gtab, ix_i2b, ix_i2c, ix_i2l, ix_i2s, ix_iadd, ix_iald, ix_iand, ix_iast, ix_icall, ix_icmp_eq, ix_icmp_ge, ix_icmp_gt, ix_icmp_le, ix_icmp_lt, ix_icmp_ne, ix_idiv, ix_if_eq, ix_if_ge, ix_if_gt, ix_if_le, ix_if_lt, ix_if_ne, ix_iinc, ix_iload, ix_imul, ix_ineg, ix_ior, ix_irem, ix_iret, ix_ishl, ix_ishr, ix_istore, ix_isub, ix_iushr, ix_ixor, ix_l2i, ix_ladd, ix_lald, ix_land, ix_last, ix_lcmp, ix_ldcS, ix_ldiv, ix_lload, ix_lmul, ix_lor, ix_lrem, ix_lret, ix_lshl, ix_lstore, ix_lsub, ix_lsw, ix_max, ix_min, ix_new, ix_newa, ix_nret, ix_oinit, ix_pop2L, ix_popI, ix_pushI, ix_pushL, ix_putI, ix_putJ, ix_putR, ix_putZ, ix_sbald, ix_sgetC, ix_sgetV, ix_slen, ix_strc, ix_tald, ix_tsw, ix_vcall, ix_vret, ix_zret, stL, stL2, kilL, popN, fq_sw, fq_lsw, List.map_cons, List.map_nil, List.getElem?_cons_zero, List.getElem?_cons_succ, Option.toList_some, Option.toList_none, List.cons_append, List.nil_append, List.length_cons, List.length_nil, List.sum_cons, List.sum_nil, cat_i, cat_l, cat_r, true_and, and_true, Nat.zero_add, Nat.add_zero, Nat.le_refl, Nat.zero_le, Nat.reduceAdd, Nat.reduceLeDiff, exists_eq_left', Option.some.injEq, not_true_eq_false, not_false_eq_true, false_implies, true_implies, implies_true, and_self, or_true, true_or, or_false, false_or]
            rw [he]
            exact ⟨fun _ => hq, fun h => absurd h (by omega)⟩
          | succ c ih =>
            intro i w ch hi he
            have o1 : okN (nI i) 12 := okN.nI (by omega) (by decide)
            have o2 : okN (nI (a - i)) 12 := okN.nI (by omega) (by decide)
            have hn := nIL_ne (i := i + 1) (by omega) (by omega)
            have e0 : wtU (I s 11) a b i (c + 1) w ch = wtU (I s 11) a b (i + 1) c (if i < b then w else w + ch * pwU (I s 11) i * pwU (16 - I s 11) (a - i)) (ch * (nI (a - i)).toInt64 / (nI (i + 1)).toInt64) := rfl
            rw [e0] at he
            refine b_X11_wet_34 _ _ _ _ _ _ _ _ ?_
            have ed := nI_dif (a := a) (i := i) (by omega) (by omega)
            simp (disch := omega) only [B_X11_wet_0, B_X11_wet_20, B_X11_wet_34, B_X11_wet_82, sp_X11_isWithin, sp_X11_deny, B_X11_deny_0, sp_X11_power, sp_X11_tellFraction, sp_X11_grant, B_X11_grant_0, x1, x2, hs, hs.k, o1, o2, hn, nI_clamp, ed, nI_1, nI_add, nI_clamp, nI_pin, nI_neg, nI_nonneg, nI_leE, nI_ltE, nI_eqE, Nat.not_le, Nat.not_lt, fq_10, fq_01, fq_rr, ix_aald, ix_aast, ix_abs, ix_alen, ix_aload, ix_aret, ix_astore, ix_bald, ix_bast, ix_call, ix_cpyI, ix_cpyJ, ix_dead, ix_dup2, ix_dup2L, ix_dupI, ix_dupR, ix_dupx1, ix_getI, ix_getJ, ix_getR, ix_gfm, ix_gtab, ix_i2b, ix_i2c, ix_i2l, ix_i2s, ix_iadd, ix_iald, ix_iand, ix_iast, ix_icall, ix_icmp_eq, ix_icmp_ge, ix_icmp_gt, ix_icmp_le, ix_icmp_lt, ix_icmp_ne, ix_idiv, ix_if_eq, ix_if_ge, ix_if_gt, ix_if_le, ix_if_lt, ix_if_ne, ix_iinc, ix_iload, ix_imul, ix_ineg, ix_ior, ix_irem, ix_iret, ix_ishl, ix_ishr, ix_istore, ix_isub, ix_iushr, ix_ixor, ix_l2i, ix_ladd, ix_lald, ix_land, ix_last, ix_lcmp, ix_ldcS, ix_ldiv, ix_lload, ix_lmul, ix_lor, ix_lrem, ix_lret, ix_lshl, ix_lstore, ix_lsub, ix_lsw, ix_max, ix_min, ix_new, ix_newa, ix_nret, ix_oinit, ix_pop2L, ix_popI, ix_pushI, ix_pushL, ix_putI, ix_putJ, ix_putR, ix_putZ, ix_sbald, ix_sgetC, ix_sgetV, ix_slen, ix_strc, ix_tald, ix_tsw, ix_vcall, ix_vret, ix_zret, stL, stL2, kilL, popN, fq_sw, fq_lsw, List.map_cons, List.map_nil, List.getElem?_cons_zero, List.getElem?_cons_succ, Option.toList_some, Option.toList_none, List.cons_append, List.nil_append, List.length_cons, List.length_nil, List.sum_cons, List.sum_nil, cat_i, cat_l, cat_r, true_and, and_true, Nat.zero_add, Nat.add_zero, Nat.le_refl, Nat.zero_le, Nat.reduceAdd, Nat.reduceLeDiff, exists_eq_left', Option.some.injEq, not_true_eq_false, not_false_eq_true, false_implies, true_implies, implies_true, and_self, or_true, true_or, or_false, false_or]
            refine ⟨fun h => absurd h (by omega), fun _ => ⟨fun h => ih (i + 1) _ _ (by omega) ?_, fun h => ih (i + 1) _ _ (by omega) ?_⟩⟩
            · rw [if_pos h] at he
              exact he
            · rw [if_neg (by omega)] at he
              exact he
        refine fq_enter [some (.ref X), some (.int (nI a)), some (.int (nI b)), none, none, none, none, none] (by decide +kernel) (Nat.le_of_ble_eq_true rfl) rfl (b_X11_wet_0 _ _ _ _ _ _ _ _ ?_)
        simp (disch := omega) only [B_X11_wet_0, B_X11_wet_20, B_X11_wet_34, B_X11_wet_82, sp_X11_isWithin, sp_X11_deny, B_X11_deny_0, sp_X11_power, sp_X11_tellFraction, sp_X11_grant, B_X11_grant_0, x1, x2, h1, h2, bI_01, bI_01b, bI_0, bI_tr, bI_fl, nI_1, nI_add, nI_clamp, nI_pin, nI_neg, nI_nonneg, nI_leE, nI_ltE, nI_eqE, Nat.not_le, Nat.not_lt, fq_10, fq_01, fq_rr, ix_aald, ix_aast, ix_abs, ix_alen, ix_aload, ix_aret, ix_astore, ix_bald, ix_bast, ix_call, ix_cpyI, ix_cpyJ, ix_dead, ix_dup2, ix_dup2L, ix_dupI, ix_dupR, ix_dupx1, ix_getI, ix_getJ, ix_getR, ix_gfm, ix_gtab, ix_i2b, ix_i2c, ix_i2l, ix_i2s, ix_iadd, ix_iald, ix_iand, ix_iast, ix_icall, ix_icmp_eq, ix_icmp_ge, ix_icmp_gt, ix_icmp_le, ix_icmp_lt, ix_icmp_ne, ix_idiv, ix_if_eq, ix_if_ge, ix_if_gt, ix_if_le, ix_if_lt, ix_if_ne, ix_iinc, ix_iload, ix_imul, ix_ineg, ix_ior, ix_irem, ix_iret, ix_ishl, ix_ishr, ix_istore, ix_isub, ix_iushr, ix_ixor, ix_l2i, ix_ladd, ix_lald, ix_land, ix_last, ix_lcmp, ix_ldcS, ix_ldiv, ix_lload, ix_lmul, ix_lor, ix_lrem, ix_lret, ix_lshl, ix_lstore, ix_lsub, ix_lsw, ix_max, ix_min, ix_new, ix_newa, ix_nret, ix_oinit, ix_pop2L, ix_popI, ix_pushI, ix_pushL, ix_putI, ix_putJ, ix_putR, ix_putZ, ix_sbald, ix_sgetC, ix_sgetV, ix_slen, ix_strc, ix_tald, ix_tsw, ix_vcall, ix_vret, ix_zret, stL, stL2, kilL, popN, fq_sw, fq_lsw, List.map_cons, List.map_nil, List.getElem?_cons_zero, List.getElem?_cons_succ, Option.toList_some, Option.toList_none, List.cons_append, List.nil_append, List.length_cons, List.length_nil, List.sum_cons, List.sum_nil, cat_i, cat_l, cat_r, true_and, and_true, Nat.zero_add, Nat.add_zero, Nat.le_refl, Nat.zero_le, Nat.reduceAdd, Nat.reduceLeDiff, exists_eq_left', Option.some.injEq, not_true_eq_false, not_false_eq_true, false_implies, true_implies, implies_true, and_self, or_true, true_or, or_false, false_or]
        exact lp (a + 1) 0 0 1 (by omega) rfl
      · refine fq_enter [some (.ref X), some (.int n), some (.int k), none, none, none, none, none] (by decide +kernel) (Nat.le_of_ble_eq_true rfl) rfl (b_X11_wet_0 _ _ _ _ _ _ _ _ ?_)
        simp (disch := omega) only [B_X11_wet_0, B_X11_wet_20, B_X11_wet_34, B_X11_wet_82, sp_X11_isWithin, sp_X11_deny, B_X11_deny_0, sp_X11_power, sp_X11_tellFraction, sp_X11_grant, B_X11_grant_0, x1, x2, h1, h2, bI_01, bI_01b, bI_0, bI_tr, bI_fl, nI_1, nI_add, nI_clamp, nI_pin, nI_neg, nI_nonneg, nI_leE, nI_ltE, nI_eqE, Nat.not_le, Nat.not_lt, fq_10, fq_01, fq_rr, ix_aald, ix_aast, ix_abs, ix_alen, ix_aload, ix_aret, ix_astore, ix_bald, ix_bast, ix_call, ix_cpyI, ix_cpyJ, ix_dead, ix_dup2, ix_dup2L, ix_dupI, ix_dupR, ix_dupx1, ix_getI, ix_getJ, ix_getR, ix_gfm, ix_gtab, ix_i2b, ix_i2c, ix_i2l, ix_i2s, ix_iadd, ix_iald, ix_iand, ix_iast, ix_icall, ix_icmp_eq, ix_icmp_ge, ix_icmp_gt, ix_icmp_le, ix_icmp_lt, ix_icmp_ne, ix_idiv, ix_if_eq, ix_if_ge, ix_if_gt, ix_if_le, ix_if_lt, ix_if_ne, ix_iinc, ix_iload, ix_imul, ix_ineg, ix_ior, ix_irem, ix_iret, ix_ishl, ix_ishr, ix_istore, ix_isub, ix_iushr, ix_ixor, ix_l2i, ix_ladd, ix_lald, ix_land, ix_last, ix_lcmp, ix_ldcS, ix_ldiv, ix_lload, ix_lmul, ix_lor, ix_lrem, ix_lret, ix_lshl, ix_lstore, ix_lsub, ix_lsw, ix_max, ix_min, ix_new, ix_newa, ix_nret, ix_oinit, ix_pop2L, ix_popI, ix_pushI, ix_pushL, ix_putI, ix_putJ, ix_putR, ix_putZ, ix_sbald, ix_sgetC, ix_sgetV, ix_slen, ix_strc, ix_tald, ix_tsw, ix_vcall, ix_vret, ix_zret, stL, stL2, kilL, popN, fq_sw, fq_lsw, List.map_cons, List.map_nil, List.getElem?_cons_zero, List.getElem?_cons_succ, Option.toList_some, Option.toList_none, List.cons_append, List.nil_append, List.length_cons, List.length_nil, List.sum_cons, List.sum_nil, cat_i, cat_l, cat_r, true_and, and_true, Nat.zero_add, Nat.add_zero, Nat.le_refl, Nat.zero_le, Nat.reduceAdd, Nat.reduceLeDiff, exists_eq_left', Option.some.injEq, not_true_eq_false, not_false_eq_true, false_implies, true_implies, implies_true, and_self, or_true, true_or, or_false, false_or]
        exact hQ1 (fun h => h2 h.2)
    · refine fq_enter [some (.ref X), some (.int n), some (.int k), none, none, none, none, none] (by decide +kernel) (Nat.le_of_ble_eq_true rfl) rfl (b_X11_wet_0 _ _ _ _ _ _ _ _ ?_)
      simp (disch := omega) only [B_X11_wet_0, B_X11_wet_20, B_X11_wet_34, B_X11_wet_82, sp_X11_isWithin, sp_X11_deny, B_X11_deny_0, sp_X11_power, sp_X11_tellFraction, sp_X11_grant, B_X11_grant_0, x1, x2, h1, bI_01, bI_01b, bI_0, bI_tr, bI_fl, nI_1, nI_add, nI_clamp, nI_pin, nI_neg, nI_nonneg, nI_leE, nI_ltE, nI_eqE, Nat.not_le, Nat.not_lt, fq_10, fq_01, fq_rr, ix_aald, ix_aast, ix_abs, ix_alen, ix_aload, ix_aret, ix_astore, ix_bald, ix_bast, ix_call, ix_cpyI, ix_cpyJ, ix_dead, ix_dup2, ix_dup2L, ix_dupI, ix_dupR, ix_dupx1, ix_getI, ix_getJ, ix_getR, ix_gfm, ix_gtab, ix_i2b, ix_i2c, ix_i2l, ix_i2s, ix_iadd, ix_iald, ix_iand, ix_iast, ix_icall, ix_icmp_eq, ix_icmp_ge, ix_icmp_gt, ix_icmp_le, ix_icmp_lt, ix_icmp_ne, ix_idiv, ix_if_eq, ix_if_ge, ix_if_gt, ix_if_le, ix_if_lt, ix_if_ne, ix_iinc, ix_iload, ix_imul, ix_ineg, ix_ior, ix_irem, ix_iret, ix_ishl, ix_ishr, ix_istore, ix_isub, ix_iushr, ix_ixor, ix_l2i, ix_ladd, ix_lald, ix_land, ix_last, ix_lcmp, ix_ldcS, ix_ldiv, ix_lload, ix_lmul, ix_lor, ix_lrem, ix_lret, ix_lshl, ix_lstore, ix_lsub, ix_lsw, ix_max, ix_min, ix_new, ix_newa, ix_nret, ix_oinit, ix_pop2L, ix_popI, ix_pushI, ix_pushL, ix_putI, ix_putJ, ix_putR, ix_putZ, ix_sbald, ix_sgetC, ix_sgetV, ix_slen, ix_strc, ix_tald, ix_tsw, ix_vcall, ix_vret, ix_zret, stL, stL2, kilL, popN, fq_sw, fq_lsw, List.map_cons, List.map_nil, List.getElem?_cons_zero, List.getElem?_cons_succ, Option.toList_some, Option.toList_none, List.cons_append, List.nil_append, List.length_cons, List.length_nil, List.sum_cons, List.sum_nil, cat_i, cat_l, cat_r, true_and, and_true, Nat.zero_add, Nat.add_zero, Nat.le_refl, Nat.zero_le, Nat.reduceAdd, Nat.reduceLeDiff, exists_eq_left', Option.some.injEq, not_true_eq_false, not_false_eq_true, false_implies, true_implies, implies_true, and_self, or_true, true_or, or_false, false_or]
      exact hQ1 (fun h => h1 h.1)
  · exact h.elim
