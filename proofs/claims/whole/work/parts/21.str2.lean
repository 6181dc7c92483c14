/-! the street, further -/
theorem dX6_neighbourSet_0 : decode cX6_neighbourSet 0 = .ok (.iconst 0, 1) := by decide +kernel
theorem dX6_neighbourSet_1 : decode cX6_neighbourSet 1 = .ok (.istore_n 2, 1) := by decide +kernel
theorem dX6_neighbourSet_2 : decode cX6_neighbourSet 2 = .ok (.iconst 0, 1) := by decide +kernel
theorem dX6_neighbourSet_3 : decode cX6_neighbourSet 3 = .ok (.istore_n 3, 1) := by decide +kernel
theorem dX6_neighbourSet_4 : decode cX6_neighbourSet 4 = .ok (.iload_n 3, 1) := by decide +kernel
theorem dX6_neighbourSet_5 : decode cX6_neighbourSet 5 = .ok (.aload_n 0, 1) := by decide +kernel
theorem dX6_neighbourSet_6 : decode cX6_neighbourSet 6 = .ok (.getfield 53, 3) := by decide +kernel
theorem dX6_neighbourSet_9 : decode cX6_neighbourSet 9 = .ok (.if_icmp .ge 25, 3) := by decide +kernel
theorem dX6_neighbourSet_12 : decode cX6_neighbourSet 12 = .ok (.aload_n 0, 1) := by decide +kernel
theorem dX6_neighbourSet_13 : decode cX6_neighbourSet 13 = .ok (.iload_n 1, 1) := by decide +kernel
theorem dX6_neighbourSet_14 : decode cX6_neighbourSet 14 = .ok (.iload_n 3, 1) := by decide +kernel
theorem dX6_neighbourSet_15 : decode cX6_neighbourSet 15 = .ok (.invokevirtual 132, 3) := by decide +kernel
theorem dX6_neighbourSet_18 : decode cX6_neighbourSet 18 = .ok (.iconst (-1), 1) := by decide +kernel
theorem dX6_neighbourSet_19 : decode cX6_neighbourSet 19 = .ok (.if_icmp .eq 9, 3) := by decide +kernel
theorem dX6_neighbourSet_22 : decode cX6_neighbourSet 22 = .ok (.iload_n 2, 1) := by decide +kernel
theorem dX6_neighbourSet_23 : decode cX6_neighbourSet 23 = .ok (.iconst 1, 1) := by decide +kernel
theorem dX6_neighbourSet_24 : decode cX6_neighbourSet 24 = .ok (.iload_n 3, 1) := by decide +kernel
theorem dX6_neighbourSet_25 : decode cX6_neighbourSet 25 = .ok (.ishl, 1) := by decide +kernel
theorem dX6_neighbourSet_26 : decode cX6_neighbourSet 26 = .ok (.ior, 1) := by decide +kernel
theorem dX6_neighbourSet_27 : decode cX6_neighbourSet 27 = .ok (.istore_n 2, 1) := by decide +kernel
theorem dX6_neighbourSet_28 : decode cX6_neighbourSet 28 = .ok (.iinc 3 1, 3) := by decide +kernel
theorem dX6_neighbourSet_31 : decode cX6_neighbourSet 31 = .ok (.goto (-27), 3) := by decide +kernel
theorem dX6_neighbourSet_34 : decode cX6_neighbourSet 34 = .ok (.iload_n 2, 1) := by decide +kernel
theorem dX6_neighbourSet_35 : decode cX6_neighbourSet 35 = .ok (.ireturn, 1) := by decide +kernel
abbrev M_X6_neighbourSet : MT := (yX6_neighbourSet, cX6_neighbourSet, 4, (some .int))
theorem cf_X6_neighbourSet : fq_cf M_X6_neighbourSet 1 := ⟨(mg_1 (List.mem_of_getElem? (i := 8) rfl) rfl), (mg_5 (List.mem_of_getElem? (i := 9) rfl) rfl), ⟨by decide, by decide, by decide +kernel⟩, by decide⟩
def B_X6_neighbourSet_28 (l : Launch) (G : GT) (D mc ms : Nat) (Q : Post) : Cn := ix_iinc 3 1 (fqAt l G M_X6_neighbourSet (D + 2) mc ms Q 4)
theorem b_X6_neighbourSet_28 {l : Launch} {G : GT} {D mc ms : Nat} {Q : Post} : Imp l G M_X6_neighbourSet (D + 2) mc ms Q (B_X6_neighbourSet_28 l G D mc ms Q) 28 := sx_iinc dX6_neighbourSet_28 rfl (by decide) (sx_goto 4 dX6_neighbourSet_31 (by decide) ((fun _ _ _ _ _ _ _ _ h => h)))
def B_X6_neighbourSet_4 (l : Launch) (G : GT) (D mc ms : Nat) (Q : Post) : Cn := ix_iload 3 (ix_aload 0 (ix_getI 6 6 (ix_icmp_ge (ix_iload 2 (ix_iret mc ms Q)) (ix_aload 0 (ix_iload 1 (ix_iload 3 (ix_vcall 6 3 0 0 mc ms (sp_X6_sharedWall G) (ix_pushI (-1) (ix_icmp_eq ((B_X6_neighbourSet_28 l G D mc ms Q)) (ix_iload 2 (ix_pushI 1 (ix_iload 3 (ix_ishl (ix_ior (ix_istore 2 ((B_X6_neighbourSet_28 l G D mc ms Q)))))))))))))))))
theorem b_X6_neighbourSet_4 {l : Launch} {G : GT} {D mc ms : Nat} {Q : Post} : Imp l G M_X6_neighbourSet (D + 2) mc ms Q (B_X6_neighbourSet_4 l G D mc ms Q) 4 := sx_iload_n dX6_neighbourSet_4 rfl (sx_aload_n dX6_neighbourSet_5 rfl (sx_getI dX6_neighbourSet_6 fl_FootQuarrel_Street_53 (fun _ _ _ => rfl) (sx_icmp_ge 34 dX6_neighbourSet_9 (by decide) (sx_iload_n dX6_neighbourSet_34 rfl (sx_iret dX6_neighbourSet_35 rfl)) (sx_aload_n dX6_neighbourSet_12 rfl (sx_iload_n dX6_neighbourSet_13 rfl (sx_iload_n dX6_neighbourSet_14 rfl (sx_vcall dX6_neighbourSet_15 cf_X6_sharedWall (mg_5 (List.mem_of_getElem? (i := 10) rfl) rfl) (mg_4 (List.mem_of_getElem? (i := 233) rfl) rfl) (mg_4 (List.mem_of_getElem? (i := 234) rfl) rfl) rfl c_X6_sharedWall (sx_iconst dX6_neighbourSet_18 rfl (sx_icmp_eq 28 dX6_neighbourSet_19 (by decide) (b_X6_neighbourSet_28) (sx_iload_n dX6_neighbourSet_22 rfl (sx_iconst dX6_neighbourSet_23 rfl (sx_iload_n dX6_neighbourSet_24 rfl (sx_ishl dX6_neighbourSet_25 (sx_ior dX6_neighbourSet_26 (sx_istore_n dX6_neighbourSet_27 rfl (by decide) (b_X6_neighbourSet_28))))))))))))))))
def B_X6_neighbourSet_0 (l : Launch) (G : GT) (D mc ms : Nat) (Q : Post) : Cn := ix_pushI 0 (ix_istore 2 (ix_pushI 0 (ix_istore 3 (fqAt l G M_X6_neighbourSet (D + 2) mc ms Q 4))))
theorem b_X6_neighbourSet_0 {l : Launch} {G : GT} {D mc ms : Nat} {Q : Post} : Imp l G M_X6_neighbourSet (D + 2) mc ms Q (B_X6_neighbourSet_0 l G D mc ms Q) 0 := sx_iconst dX6_neighbourSet_0 rfl (sx_istore_n dX6_neighbourSet_1 rfl (by decide) (sx_iconst dX6_neighbourSet_2 rfl (sx_istore_n dX6_neighbourSet_3 rfl (by decide) ((fun _ _ _ _ _ _ _ _ h => h)))))
theorem dX6_canRegret_0 : decode cX6_canRegret 0 = .ok (.iload_n 1, 1) := by decide +kernel
theorem dX6_canRegret_1 : decode cX6_canRegret 1 = .ok (.aload_n 0, 1) := by decide +kernel
theorem dX6_canRegret_2 : decode cX6_canRegret 2 = .ok (.getfield 56, 3) := by decide +kernel
theorem dX6_canRegret_5 : decode cX6_canRegret 5 = .ok (.if_icmp .ge 33, 3) := by decide +kernel
theorem dX6_canRegret_8 : decode cX6_canRegret 8 = .ok (.aload_n 0, 1) := by decide +kernel
theorem dX6_canRegret_9 : decode cX6_canRegret 9 = .ok (.iload_n 1, 1) := by decide +kernel
theorem dX6_canRegret_10 : decode cX6_canRegret 10 = .ok (.invokevirtual 207, 3) := by decide +kernel
theorem dX6_canRegret_13 : decode cX6_canRegret 13 = .ok (.getfield 187, 3) := by decide +kernel
theorem dX6_canRegret_16 : decode cX6_canRegret 16 = .ok (.aload_n 0, 1) := by decide +kernel
theorem dX6_canRegret_17 : decode cX6_canRegret 17 = .ok (.getfield 71, 3) := by decide +kernel
theorem dX6_canRegret_20 : decode cX6_canRegret 20 = .ok (.if_icmp .ne 18, 3) := by decide +kernel
theorem dX6_canRegret_23 : decode cX6_canRegret 23 = .ok (.aload_n 0, 1) := by decide +kernel
theorem dX6_canRegret_24 : decode cX6_canRegret 24 = .ok (.iload_n 1, 1) := by decide +kernel
theorem dX6_canRegret_25 : decode cX6_canRegret 25 = .ok (.invokevirtual 207, 3) := by decide +kernel
theorem dX6_canRegret_28 : decode cX6_canRegret 28 = .ok (.getfield 201, 3) := by decide +kernel
theorem dX6_canRegret_31 : decode cX6_canRegret 31 = .ok (.ifCond .ne 7, 3) := by decide +kernel
theorem dX6_canRegret_34 : decode cX6_canRegret 34 = .ok (.iconst 1, 1) := by decide +kernel
theorem dX6_canRegret_35 : decode cX6_canRegret 35 = .ok (.goto 4, 3) := by decide +kernel
theorem dX6_canRegret_38 : decode cX6_canRegret 38 = .ok (.iconst 0, 1) := by decide +kernel
theorem dX6_canRegret_39 : decode cX6_canRegret 39 = .ok (.ireturn, 1) := by decide +kernel
abbrev M_X6_canRegret : MT := (yX6_canRegret, cX6_canRegret, 2, (some .boolean))
theorem cf_X6_canRegret : fq_cf M_X6_canRegret 1 := ⟨(mg_1 (List.mem_of_getElem? (i := 8) rfl) rfl), (mg_5 (List.mem_of_getElem? (i := 68) rfl) rfl), ⟨by decide, by decide, by decide +kernel⟩, by decide⟩
def B_X6_canRegret_39 (G : GT) (mc ms : Nat) (Q : Post) : Cn := ix_zret mc ms Q
theorem b_X6_canRegret_39 {l : Launch} {G : GT} {D mc ms : Nat} {Q : Post} : Imp l G M_X6_canRegret (D + 2) mc ms Q (B_X6_canRegret_39 G mc ms Q) 39 := sx_zret dX6_canRegret_39 rfl
def B_X6_canRegret_38 (G : GT) (mc ms : Nat) (Q : Post) : Cn := ix_pushI 0 ((B_X6_canRegret_39 G mc ms Q))
theorem b_X6_canRegret_38 {l : Launch} {G : GT} {D mc ms : Nat} {Q : Post} : Imp l G M_X6_canRegret (D + 2) mc ms Q (B_X6_canRegret_38 G mc ms Q) 38 := sx_iconst dX6_canRegret_38 rfl (b_X6_canRegret_39)
def B_X6_canRegret_0 (G : GT) (mc ms : Nat) (Q : Post) : Cn := ix_iload 1 (ix_aload 0 (ix_getI 6 7 (ix_icmp_ge ((B_X6_canRegret_38 G mc ms Q)) (ix_aload 0 (ix_iload 1 (ix_vcall 6 2 0 0 mc ms (sp_X6_latest G) (ix_getI 3 0 (ix_aload 0 (ix_getI 6 12 (ix_icmp_ne ((B_X6_canRegret_38 G mc ms Q)) (ix_aload 0 (ix_iload 1 (ix_vcall 6 2 0 0 mc ms (sp_X6_latest G) (ix_getI 3 6 (ix_if_ne ((B_X6_canRegret_38 G mc ms Q)) (ix_pushI 1 ((B_X6_canRegret_39 G mc ms Q))))))))))))))))))
theorem b_X6_canRegret_0 {l : Launch} {G : GT} {D mc ms : Nat} {Q : Post} : Imp l G M_X6_canRegret (D + 2) mc ms Q (B_X6_canRegret_0 G mc ms Q) 0 := sx_iload_n dX6_canRegret_0 rfl (sx_aload_n dX6_canRegret_1 rfl (sx_getI dX6_canRegret_2 fl_FootQuarrel_Street_56 (fun _ _ _ => rfl) (sx_icmp_ge 38 dX6_canRegret_5 (by decide) (b_X6_canRegret_38) (sx_aload_n dX6_canRegret_8 rfl (sx_iload_n dX6_canRegret_9 rfl (sx_vcall dX6_canRegret_10 cf_X6_latest (mg_5 (List.mem_of_getElem? (i := 69) rfl) rfl) (mg_4 (List.mem_of_getElem? (i := 218) rfl) rfl) (mg_4 (List.mem_of_getElem? (i := 219) rfl) rfl) rfl c_X6_latest (sx_getI dX6_canRegret_13 fl_FootQuarrel_Street_187 (fun _ _ _ => rfl) (sx_aload_n dX6_canRegret_16 rfl (sx_getI dX6_canRegret_17 fl_FootQuarrel_Street_71 (fun _ _ _ => rfl) (sx_icmp_ne 38 dX6_canRegret_20 (by decide) (b_X6_canRegret_38) (sx_aload_n dX6_canRegret_23 rfl (sx_iload_n dX6_canRegret_24 rfl (sx_vcall dX6_canRegret_25 cf_X6_latest (mg_5 (List.mem_of_getElem? (i := 69) rfl) rfl) (mg_4 (List.mem_of_getElem? (i := 218) rfl) rfl) (mg_4 (List.mem_of_getElem? (i := 219) rfl) rfl) rfl c_X6_latest (sx_getI dX6_canRegret_28 fl_FootQuarrel_Street_201 (fun _ _ _ => rfl) (sx_if_ne 38 dX6_canRegret_31 (by decide) (b_X6_canRegret_38) (sx_iconst dX6_canRegret_34 rfl (sx_goto 39 dX6_canRegret_35 (by decide) (b_X6_canRegret_39))))))))))))))))))
theorem dX6_regret_0 : decode cX6_regret 0 = .ok (.aload_n 0, 1) := by decide +kernel
theorem dX6_regret_1 : decode cX6_regret 1 = .ok (.iload_n 1, 1) := by decide +kernel
theorem dX6_regret_2 : decode cX6_regret 2 = .ok (.invokevirtual 207, 3) := by decide +kernel
theorem dX6_regret_5 : decode cX6_regret 5 = .ok (.astore_n 2, 1) := by decide +kernel
theorem dX6_regret_6 : decode cX6_regret 6 = .ok (.aload_n 2, 1) := by decide +kernel
theorem dX6_regret_7 : decode cX6_regret 7 = .ok (.iconst 1, 1) := by decide +kernel
theorem dX6_regret_8 : decode cX6_regret 8 = .ok (.putfield 201, 3) := by decide +kernel
theorem dX6_regret_11 : decode cX6_regret 11 = .ok (.aload_n 0, 1) := by decide +kernel
theorem dX6_regret_12 : decode cX6_regret 12 = .ok (.aload_n 2, 1) := by decide +kernel
theorem dX6_regret_13 : decode cX6_regret 13 = .ok (.getfield 188, 3) := by decide +kernel
theorem dX6_regret_16 : decode cX6_regret 16 = .ok (.aload_n 2, 1) := by decide +kernel
theorem dX6_regret_17 : decode cX6_regret 17 = .ok (.getfield 198, 3) := by decide +kernel
theorem dX6_regret_20 : decode cX6_regret 20 = .ok (.iconst 2, 1) := by decide +kernel
theorem dX6_regret_21 : decode cX6_regret 21 = .ok (.idiv, 1) := by decide +kernel
theorem dX6_regret_22 : decode cX6_regret 22 = .ok (.ineg, 1) := by decide +kernel
theorem dX6_regret_23 : decode cX6_regret 23 = .ok (.invokevirtual 211, 3) := by decide +kernel
theorem dX6_regret_26 : decode cX6_regret 26 = .ok (.invokestatic 121, 3) := by decide +kernel
theorem dX6_regret_29 : decode cX6_regret 29 = .ok (.ireturn, 1) := by decide +kernel
abbrev M_X6_regret : MT := (yX6_regret, cX6_regret, 3, (some .int))
theorem cf_X6_regret : fq_cf M_X6_regret 1 := ⟨(mg_1 (List.mem_of_getElem? (i := 8) rfl) rfl), (mg_5 (List.mem_of_getElem? (i := 73) rfl) rfl), ⟨by decide, by decide, by decide +kernel⟩, by decide⟩
def B_X6_regret_0 (G : GT) (mc ms : Nat) (Q : Post) : Cn := ix_aload 0 (ix_iload 1 (ix_vcall 6 2 0 0 mc ms (sp_X6_latest G) (ix_astore 2 (ix_aload 2 (ix_pushI 1 (ix_putZ 3 6 (ix_aload 0 (ix_aload 2 (ix_getI 3 1 (ix_aload 2 (ix_getI 3 5 (ix_pushI 2 (ix_idiv (ix_ineg (ix_vcall 6 3 0 0 mc ms (sp_X6_push G) (ix_abs mc ms (ix_iret mc ms Q)))))))))))))))))
theorem b_X6_regret_0 {l : Launch} {G : GT} {D mc ms : Nat} {Q : Post} : Imp l G M_X6_regret (D + 2) mc ms Q (B_X6_regret_0 G mc ms Q) 0 := sx_aload_n dX6_regret_0 rfl (sx_iload_n dX6_regret_1 rfl (sx_vcall dX6_regret_2 cf_X6_latest (mg_5 (List.mem_of_getElem? (i := 69) rfl) rfl) (mg_4 (List.mem_of_getElem? (i := 218) rfl) rfl) (mg_4 (List.mem_of_getElem? (i := 219) rfl) rfl) rfl c_X6_latest (sx_astore_n dX6_regret_5 rfl (by decide) (sx_aload_n dX6_regret_6 rfl (sx_iconst dX6_regret_7 rfl (sx_putZ dX6_regret_8 fl_FootQuarrel_Street_201 (by decide) (fun _ _ _ => rfl) (fun v h => by rcases h with h | h <;> subst h <;> exact ⟨rfl, rfl⟩) (sx_aload_n dX6_regret_11 rfl (sx_aload_n dX6_regret_12 rfl (sx_getI dX6_regret_13 fl_FootQuarrel_Street_188 (fun _ _ _ => rfl) (sx_aload_n dX6_regret_16 rfl (sx_getI dX6_regret_17 fl_FootQuarrel_Street_198 (fun _ _ _ => rfl) (sx_iconst dX6_regret_20 rfl (sx_idiv dX6_regret_21 (sx_ineg dX6_regret_22 (sx_vcall dX6_regret_23 cf_X6_push (mg_5 (List.mem_of_getElem? (i := 74) rfl) rfl) (mg_5 (List.mem_of_getElem? (i := 75) rfl) rfl) (mg_5 (List.mem_of_getElem? (i := 76) rfl) rfl) rfl c_X6_push (sx_abs dX6_regret_26 (mg_4 (List.mem_of_getElem? (i := 236) rfl) rfl) (mg_4 (List.mem_of_getElem? (i := 61) rfl) rfl) (mg_1 (List.mem_of_getElem? (i := 18) rfl) rfl) (mg_4 (List.mem_of_getElem? (i := 62) rfl) rfl) (sx_iret dX6_regret_29 rfl)))))))))))))))))
theorem dX6_sleep_0 : decode cX6_sleep 0 = .ok (.iconst 0, 1) := by decide +kernel
theorem dX6_sleep_1 : decode cX6_sleep 1 = .ok (.istore_n 2, 1) := by decide +kernel
theorem dX6_sleep_2 : decode cX6_sleep 2 = .ok (.iload_n 2, 1) := by decide +kernel
theorem dX6_sleep_3 : decode cX6_sleep 3 = .ok (.aload_n 0, 1) := by decide +kernel
theorem dX6_sleep_4 : decode cX6_sleep 4 = .ok (.getfield 53, 3) := by decide +kernel
theorem dX6_sleep_7 : decode cX6_sleep 7 = .ok (.if_icmp .ge 24, 3) := by decide +kernel
theorem dX6_sleep_10 : decode cX6_sleep 10 = .ok (.aload_n 0, 1) := by decide +kernel
theorem dX6_sleep_11 : decode cX6_sleep 11 = .ok (.getfield 19, 3) := by decide +kernel
theorem dX6_sleep_14 : decode cX6_sleep 14 = .ok (.iload_n 2, 1) := by decide +kernel
theorem dX6_sleep_15 : decode cX6_sleep 15 = .ok (.aaload, 1) := by decide +kernel
theorem dX6_sleep_16 : decode cX6_sleep 16 = .ok (.aload_n 0, 1) := by decide +kernel
theorem dX6_sleep_17 : decode cX6_sleep 17 = .ok (.iload_n 2, 1) := by decide +kernel
theorem dX6_sleep_18 : decode cX6_sleep 18 = .ok (.iload_n 1, 1) := by decide +kernel
theorem dX6_sleep_19 : decode cX6_sleep 19 = .ok (.invokevirtual 214, 3) := by decide +kernel
theorem dX6_sleep_22 : decode cX6_sleep 22 = .ok (.putfield 141, 3) := by decide +kernel
theorem dX6_sleep_25 : decode cX6_sleep 25 = .ok (.iinc 2 1, 3) := by decide +kernel
theorem dX6_sleep_28 : decode cX6_sleep 28 = .ok (.goto (-26), 3) := by decide +kernel
theorem dX6_sleep_31 : decode cX6_sleep 31 = .ok (.aload_n 0, 1) := by decide +kernel
theorem dX6_sleep_32 : decode cX6_sleep 32 = .ok (.dup, 1) := by decide +kernel
theorem dX6_sleep_33 : decode cX6_sleep 33 = .ok (.getfield 71, 3) := by decide +kernel
theorem dX6_sleep_36 : decode cX6_sleep 36 = .ok (.iload_n 1, 1) := by decide +kernel
theorem dX6_sleep_37 : decode cX6_sleep 37 = .ok (.iadd, 1) := by decide +kernel
theorem dX6_sleep_38 : decode cX6_sleep 38 = .ok (.putfield 71, 3) := by decide +kernel
theorem dX6_sleep_41 : decode cX6_sleep 41 = .ok (.return_, 1) := by decide +kernel
abbrev M_X6_sleep : MT := (yX6_sleep, cX6_sleep, 3, none)
theorem cf_X6_sleep : fq_cf M_X6_sleep 1 := ⟨(mg_1 (List.mem_of_getElem? (i := 8) rfl) rfl), (mg_5 (List.mem_of_getElem? (i := 85) rfl) rfl), ⟨by decide, by decide, by decide +kernel⟩, by decide⟩
def B_X6_sleep_2 (l : Launch) (G : GT) (D mc ms : Nat) (Q : Post) : Cn := ix_iload 2 (ix_aload 0 (ix_getI 6 6 (ix_icmp_ge (ix_aload 0 (ix_dupR (ix_getI 6 12 (ix_iload 1 (ix_iadd (ix_putI 6 12 (ix_vret mc ms Q))))))) (ix_aload 0 (ix_getR 6 1 (ix_iload 2 (ix_aald 17 (ix_aload 0 (ix_iload 2 (ix_iload 1 (ix_vcall 6 3 0 0 mc ms (sp_X6_angerBehind G) (ix_putI 2 6 (ix_iinc 2 1 (fqAt l G M_X6_sleep (D + 2) mc ms Q 2))))))))))))))
theorem b_X6_sleep_2 {l : Launch} {G : GT} {D mc ms : Nat} {Q : Post} : Imp l G M_X6_sleep (D + 2) mc ms Q (B_X6_sleep_2 l G D mc ms Q) 2 := sx_iload_n dX6_sleep_2 rfl (sx_aload_n dX6_sleep_3 rfl (sx_getI dX6_sleep_4 fl_FootQuarrel_Street_53 (fun _ _ _ => rfl) (sx_icmp_ge 31 dX6_sleep_7 (by decide) (sx_aload_n dX6_sleep_31 rfl (sx_dupR dX6_sleep_32 (sx_getI dX6_sleep_33 fl_FootQuarrel_Street_71 (fun _ _ _ => rfl) (sx_iload_n dX6_sleep_36 rfl (sx_iadd dX6_sleep_37 (sx_putI dX6_sleep_38 fl_FootQuarrel_Street_71 (by decide) (fun _ _ _ => rfl) (fun _ => ⟨rfl, rfl⟩) (sx_vret dX6_sleep_41 rfl))))))) (sx_aload_n dX6_sleep_10 rfl (sx_getR dX6_sleep_11 fl_FootQuarrel_Street_19 (fun _ _ _ => rfl) (sx_iload_n dX6_sleep_14 rfl (sx_aald dX6_sleep_15 (by decide) (by decide) rfl (sx_aload_n dX6_sleep_16 rfl (sx_iload_n dX6_sleep_17 rfl (sx_iload_n dX6_sleep_18 rfl (sx_vcall dX6_sleep_19 cf_X6_angerBehind (mg_5 (List.mem_of_getElem? (i := 86) rfl) rfl) (mg_5 (List.mem_of_getElem? (i := 87) rfl) rfl) (mg_5 (List.mem_of_getElem? (i := 88) rfl) rfl) rfl c_X6_angerBehind (sx_putI dX6_sleep_22 fl_FootQuarrel_Street_141 (by decide) (fun _ _ _ => rfl) (fun _ => ⟨rfl, rfl⟩) (sx_iinc dX6_sleep_25 rfl (by decide) (sx_goto 2 dX6_sleep_28 (by decide) ((fun _ _ _ _ _ _ _ _ h => h))))))))))))))))
def B_X6_sleep_0 (l : Launch) (G : GT) (D mc ms : Nat) (Q : Post) : Cn := ix_pushI 0 (ix_istore 2 (fqAt l G M_X6_sleep (D + 2) mc ms Q 2))
theorem b_X6_sleep_0 {l : Launch} {G : GT} {D mc ms : Nat} {Q : Post} : Imp l G M_X6_sleep (D + 2) mc ms Q (B_X6_sleep_0 l G D mc ms Q) 0 := sx_iconst dX6_sleep_0 rfl (sx_istore_n dX6_sleep_1 rfl (by decide) ((fun _ _ _ _ _ _ _ _ h => h)))
theorem dX6_loudnessOf_0 : decode cX6_loudnessOf 0 = .ok (.aload_n 0, 1) := by decide +kernel
theorem dX6_loudnessOf_1 : decode cX6_loudnessOf 1 = .ok (.aload_n 0, 1) := by decide +kernel
theorem dX6_loudnessOf_2 : decode cX6_loudnessOf 2 = .ok (.getfield 19, 3) := by decide +kernel
theorem dX6_loudnessOf_5 : decode cX6_loudnessOf 5 = .ok (.iload_n 1, 1) := by decide +kernel
theorem dX6_loudnessOf_6 : decode cX6_loudnessOf 6 = .ok (.aaload, 1) := by decide +kernel
theorem dX6_loudnessOf_7 : decode cX6_loudnessOf 7 = .ok (.getfield 148, 3) := by decide +kernel
theorem dX6_loudnessOf_10 : decode cX6_loudnessOf 10 = .ok (.invokevirtual 151, 3) := by decide +kernel
theorem dX6_loudnessOf_13 : decode cX6_loudnessOf 13 = .ok (.ireturn, 1) := by decide +kernel
abbrev M_X6_loudnessOf : MT := (yX6_loudnessOf, cX6_loudnessOf, 2, (some .int))
theorem cf_X6_loudnessOf : fq_cf M_X6_loudnessOf 1 := ⟨(mg_1 (List.mem_of_getElem? (i := 8) rfl) rfl), (mg_5 (List.mem_of_getElem? (i := 134) rfl) rfl), ⟨by decide, by decide, by decide +kernel⟩, by decide⟩
def B_X6_loudnessOf_0 (G : GT) (mc ms : Nat) (Q : Post) : Cn := ix_aload 0 (ix_aload 0 (ix_getR 6 1 (ix_iload 1 (ix_aald 17 (ix_getI 2 4 (ix_vcall 6 2 0 0 mc ms (sp_X6_loudness G) (ix_iret mc ms Q)))))))
theorem b_X6_loudnessOf_0 {l : Launch} {G : GT} {D mc ms : Nat} {Q : Post} : Imp l G M_X6_loudnessOf (D + 3) mc ms Q (B_X6_loudnessOf_0 G mc ms Q) 0 := sx_aload_n dX6_loudnessOf_0 rfl (sx_aload_n dX6_loudnessOf_1 rfl (sx_getR dX6_loudnessOf_2 fl_FootQuarrel_Street_19 (fun _ _ _ => rfl) (sx_iload_n dX6_loudnessOf_5 rfl (sx_aald dX6_loudnessOf_6 (by decide) (by decide) rfl (sx_getI dX6_loudnessOf_7 fl_FootQuarrel_Street_148 (fun _ _ _ => rfl) (sx_vcall dX6_loudnessOf_10 cf_X6_loudness (mg_5 (List.mem_of_getElem? (i := 135) rfl) rfl) (mg_5 (List.mem_of_getElem? (i := 136) rfl) rfl) (mg_5 (List.mem_of_getElem? (i := 137) rfl) rfl) rfl c_X6_loudness (sx_iret dX6_loudnessOf_13 rfl)))))))
theorem set_lp (p : Nat → Prop) [DecidablePred p] (i n : Nat) (a : Int32) : foldU (fun i a => if p i then a ||| 1 <<< (nI i &&& 31) else a) i (n + 1) a = foldU (fun i a => if p i then a ||| 1 <<< (nI i &&& 31) else a) (i + 1) n (if p i then a ||| 1 <<< (nI i &&& 31) else a) := rfl
def sp_X6_neighbourSet (G : GT) : Sp := fun as S I J z Q => match as with
  | [.ref s, .int p] => stS S s ∧ vp_in p 8 ∧ okN (I s 6) 8 ∧ Q (some (.int (setU (fun i => ¬ shW (I (s + 24 + p.toNatClampNeg) 1) (I (s + 24 + i) 1) (I s 13) = -1) (I s 6).toNatClampNeg))) S I J z
  | _ => False
set_option maxHeartbeats 4000000 in
set_option maxRecDepth 20000 in
theorem c_X6_neighbourSet {l : Launch} {G : GT} {D : Nat} : ∀ as S I J z Q, sp_X6_neighbourSet G as S I J z Q → fqCall l G M_X6_neighbourSet (D + 2) 0 0 as S I J z Q := by
  intro as S I J z Q h
  unfold sp_X6_neighbourSet at h
  split at h
  · next s p =>
    obtain ⟨hs, hp, ho, hQ⟩ := h
    obtain ⟨p, hp9, rfl⟩ := vp_in_of hp (by decide)
    obtain ⟨c, hc, hc1, hc2⟩ := ho.ex
    rw [nI_clamp (by omega), hc2] at hQ
    have lp : ∀ (n i : Nat) (acc : Int32), i + n = c → Q (some (.int (foldU (fun i a => if ¬ shW (I (s + 24 + p) 1) (I (s + 24 + i) 1) (I s 13) = -1 then a ||| 1 <<< (nI i &&& 31) else a) i n acc))) S I J z → fqAt l G M_X6_neighbourSet (D + 2) 0 0 Q 4 [some (.ref s), some (.int (nI p)), some (.int acc), some (.int (nI i))] [] S I J z 0 0 := by
      intro n
      induction n with
      | zero =>
        intro i acc hi hq
        refine b_X6_neighbourSet_4 _ _ _ _ _ _ _ _ ?_
        simp (disch := omega) only [B_X6_neighbourSet_0, B_X6_neighbourSet_4, B_X6_neighbourSet_28, sp_X6_sharedWall, hs.k, hs.r0, hs.k1, hs.r1, hs.k2, hs.r2, hs.k3, hs.r3, hs.k4, hs.r4, hs.k12, hs.n1, hs.n2, hs.n3, hs.y0, hs.k5, hs.n5, hs.y1, hs.k6, hs.n6, hs.y2, hs.k7, hs.n7, hs.y3, hs.k8, hs.n8, hs.y4, hs.k9, hs.n9, hs.y5, hs.k10, hs.n10, hs.y6, hs.k11, hs.n11, hs.p0, hs.p1, hs.p2, hs.k13, hs.n13, hs.q0, hs.q1, hs.k14, hs.k15, hs.k16, hs.n16, hs.k17, hs.n17, hs.rH, hs.kH, hs.rP, hs.kP, hs.rQ, hs.kQ, hs, hc1, nI_1, nI_add, nI_clamp, nI_pin, nI_neg, nI_nonneg, nI_leE, nI_ltE, nI_eqE, Nat.not_le, Nat.not_lt, fq_10, fq_01, fq_rr, ix_aald, ix_aast, ix_abs, ix_alen, ix_aload, ix_aret, ix_astore, ix_bald, ix_bast, ix_call, ix_cpyI, ix_cpyJ, ix_dead, ix_dup2, ix_dup2L, ix_dupI, ix_dupR, ix_dupx1, ix_getI, ix_getJ, ix_getR, ix_gfm, ix_gtab, ix_i2b, ix_i2c, ix_i2l, ix_i2s, ix_iadd, ix_iald, ix_iand, ix_iast, ix_icall, ix_icmp_eq, ix_icmp_ge, ix_icmp_gt, ix_icmp_le, ix_icmp_lt, ix_icmp_ne, ix_idiv, ix_if_eq, ix_if_ge, ix_if_gt, ix_if_le, ix_if_lt, ix_if_ne, ix_iinc, ix_iload, ix_imul, ix_ineg, ix_ior, ix_irem, ix_iret, ix_ishl, ix_ishr, ix_istore, ix_isub, ix_iushr, ix_ixor, ix_l2i, ix_ladd, ix_lald, ix_land, ix_last, ix_lcmp, ix_ldcS, ix_ldiv, ix_lload, ix_lmul, ix_lor, ix_lrem, ix_lret, ix_lshl, ix_lstore, ix_lsub, ix_lsw, ix_max, ix_min, ix_new, ix_newa, ix_nret, ix_oinit, ix_pop2L, ix_popI, ix_pushI, ix_pushL, ix_putI, ix_putJ, ix_putR, ix_putZ, ix_sbald, ix_sgetC, ix_sgetV, ix_slen, ix_strc, ix_tald, ix_tsw, ix_vcall, ix_vret, ix_zret, stL, stL2, kilL, popN, fq_sw, fq_lsw, List.map_cons, List.map_nil, List.getElem?_cons_zero, List.getElem?_cons_succ, Option.toList_some, Option.toList_none, List.cons_append, List.nil_append, List.length_cons, List.length_nil, List.sum_cons, List.sum_nil, cat_i, cat_l, cat_r, true_and, and_true, Nat.zero_add, Nat.add_zero, Nat.le_refl, Nat.zero_le, Nat.reduceAdd, Nat.reduceLeDiff, exists_eq_left', Option.some.injEq, not_true_eq_false, not_false_eq_true, false_implies, true_implies, implies_true, and_self, or_true, true_or, or_false, false_or]
        exact ⟨fun _ => hq, fun h => absurd h (by omega)⟩
      | succ n ih =>
        intro i acc hi hq
        refine b_X6_neighbourSet_4 _ _ _ _ _ _ _ _ ?_
        simp (disch := omega) only [B_X6_neighbourSet_0, B_X6_neighbourSet_4, B_X6_neighbourSet_28, sp_X6_sharedWall, hs.k, hs.r0, hs.k1, hs.r1, hs.k2, hs.r2, hs.k3, hs.r3, hs.k4, hs.r4, hs.k12, hs.n1, hs.n2, hs.n3, hs.y0, hs.k5, hs.n5, hs.y1, hs.k6, hs.n6, hs.y2, hs.k7, hs.n7, hs.y3, hs.k8, hs.n8, hs.y4, hs.k9, hs.n9, hs.y5, hs.k10, hs.n10, hs.y6, hs.k11, hs.n11, hs.p0, hs.p1, hs.p2, hs.k13, hs.n13, hs.q0, hs.q1, hs.k14, hs.k15, hs.k16, hs.n16, hs.k17, hs.n17, hs.rH, hs.kH, hs.rP, hs.kP, hs.rQ, hs.kQ, hs, hc1, nI_1, nI_add, nI_clamp, nI_pin, nI_neg, nI_nonneg, nI_leE, nI_ltE, nI_eqE, Nat.not_le, Nat.not_lt, fq_10, fq_01, fq_rr, ix_aald, ix_aast, ix_abs, ix_alen, ix_aload, ix_aret, ix_astore, ix_bald, ix_bast, ix_call, ix_cpyI, ix_cpyJ, ix_dead, ix_dup2, ix_dup2L, ix_dupI, ix_dupR, ix_dupx1, ix_getI, ix_getJ, ix_getR, ix_gfm, ix_gtab, ix_i2b, ix_i2c, ix_i2l, ix_i2s, ix_iadd, ix_iald, ix_iand, ix_iast, ix_icall, ix_icmp_eq, ix_icmp_ge, ix_icmp_gt, ix_icmp_le, ix_icmp_lt, ix_icmp_ne, ix_idiv, ix_if_eq, ix_if_ge, ix_if_gt, ix_if_le, ix_if_lt, ix_if_ne, ix_iinc, ix_iload, ix_imul, ix_ineg, ix_ior, ix_irem, ix_iret, ix_ishl, ix_ishr, ix_istore, ix_isub, ix_iushr, ix_ixor, ix_l2i, ix_ladd, ix_lald, ix_land, ix_last, ix_lcmp, ix_ldcS, ix_ldiv, ix_lload, ix_lmul, ix_lor, ix_lrem, ix_lret, ix_lshl, ix_lstore, ix_lsub, ix_lsw, ix_max, ix_min, ix_new, ix_newa, ix_nret, ix_oinit, ix_pop2L, ix_popI, ix_pushI, ix_pushL, ix_putI, ix_putJ, ix_putR, ix_putZ, ix_sbald, ix_sgetC, ix_sgetV, ix_slen, ix_strc, ix_tald, ix_tsw, ix_vcall, ix_vret, ix_zret, stL, stL2, kilL, popN, fq_sw, fq_lsw, List.map_cons, List.map_nil, List.getElem?_cons_zero, List.getElem?_cons_succ, Option.toList_some, Option.toList_none, List.cons_append, List.nil_append, List.length_cons, List.length_nil, List.sum_cons, List.sum_nil, cat_i, cat_l, cat_r, true_and, and_true, Nat.zero_add, Nat.add_zero, Nat.le_refl, Nat.zero_le, Nat.reduceAdd, Nat.reduceLeDiff, exists_eq_left', Option.some.injEq, not_true_eq_false, not_false_eq_true, false_implies, true_implies, implies_true, and_self, or_true, true_or, or_false, false_or]
        rw [foldU_1] at hq
        refine ⟨fun h => absurd h (by omega), fun _ => ⟨fun h => ih (i + 1) _ (by omega) ?_, fun h => ih (i + 1) _ (by omega) ?_⟩⟩
        · rw [if_neg (fun q => q h)] at hq
          exact hq
        · rw [if_pos h] at hq
          exact hq
    refine fq_enter [some (.ref s), some (.int (nI p)), none, none] (by decide +kernel) (Nat.le_of_ble_eq_true rfl) rfl (b_X6_neighbourSet_0 _ _ _ _ _ _ _ _ ?_)
    simp (disch := omega) only [B_X6_neighbourSet_0, B_X6_neighbourSet_4, B_X6_neighbourSet_28, sp_X6_sharedWall, hs.k, hs.r0, hs.k1, hs.r1, hs.k2, hs.r2, hs.k3, hs.r3, hs.k4, hs.r4, hs.k12, hs.n1, hs.n2, hs.n3, hs.y0, hs.k5, hs.n5, hs.y1, hs.k6, hs.n6, hs.y2, hs.k7, hs.n7, hs.y3, hs.k8, hs.n8, hs.y4, hs.k9, hs.n9, hs.y5, hs.k10, hs.n10, hs.y6, hs.k11, hs.n11, hs.p0, hs.p1, hs.p2, hs.k13, hs.n13, hs.q0, hs.q1, hs.k14, hs.k15, hs.k16, hs.n16, hs.k17, hs.n17, hs.rH, hs.kH, hs.rP, hs.kP, hs.rQ, hs.kQ, nI_1, nI_add, nI_clamp, nI_pin, nI_neg, nI_nonneg, nI_leE, nI_ltE, nI_eqE, Nat.not_le, Nat.not_lt, fq_10, fq_01, fq_rr, ix_aald, ix_aast, ix_abs, ix_alen, ix_aload, ix_aret, ix_astore, ix_bald, ix_bast, ix_call, ix_cpyI, ix_cpyJ, ix_dead, ix_dup2, ix_dup2L, ix_dupI, ix_dupR, ix_dupx1, ix_getI, ix_getJ, ix_getR, ix_gfm, ix_gtab, ix_i2b, ix_i2c, ix_i2l, ix_i2s, ix_iadd, ix_iald, ix_iand, ix_iast, ix_icall, ix_icmp_eq, ix_icmp_ge, ix_icmp_gt, ix_icmp_le, ix_icmp_lt, ix_icmp_ne, ix_idiv, ix_if_eq, ix_if_ge, ix_if_gt, ix_if_le, ix_if_lt, ix_if_ne, ix_iinc, ix_iload, ix_imul, ix_ineg, ix_ior, ix_irem, ix_iret, ix_ishl, ix_ishr, ix_istore, ix_isub, ix_iushr, ix_ixor, ix_l2i, ix_ladd, ix_lald, ix_land, ix_last, ix_lcmp, ix_ldcS, ix_ldiv, ix_lload, ix_lmul, ix_lor, ix_lrem, ix_lret, ix_lshl, ix_lstore, ix_lsub, ix_lsw, ix_max, ix_min, ix_new, ix_newa, ix_nret, ix_oinit, ix_pop2L, ix_popI, ix_pushI, ix_pushL, ix_putI, ix_putJ, ix_putR, ix_putZ, ix_sbald, ix_sgetC, ix_sgetV, ix_slen, ix_strc, ix_tald, ix_tsw, ix_vcall, ix_vret, ix_zret, stL, stL2, kilL, popN, fq_sw, fq_lsw, List.map_cons, List.map_nil, List.getElem?_cons_zero, List.getElem?_cons_succ, Option.toList_some, Option.toList_none, List.cons_append, List.nil_append, List.length_cons, List.length_nil, List.sum_cons, List.sum_nil, cat_i, cat_l, cat_r, true_and, and_true, Nat.zero_add, Nat.add_zero, Nat.le_refl, Nat.zero_le, Nat.reduceAdd, Nat.reduceLeDiff, exists_eq_left', Option.some.injEq, not_true_eq_false, not_false_eq_true, false_implies, true_implies, implies_true, and_self, or_true, true_or, or_false, false_or]
    exact lp c 0 0 (by omega) hQ
  · exact h.elim
def sp_X6_canRegret (G : GT) : Sp := fun as S I J z Q => match as with
  | [.ref s, .int k] => stS S s ∧ vp_in k 20 ∧ okN (I s 8) 19 ∧ Q (some (.int (bI (k < I s 7 ∧ I (s + 32 + qix (I s 8).toNatClampNeg k.toNatClampNeg) 0 = I s 12 ∧ I (s + 32 + qix (I s 8).toNatClampNeg k.toNatClampNeg) 6 = 0)))) S I J z
  | _ => False
set_option maxHeartbeats 4000000 in
set_option maxRecDepth 20000 in
theorem c_X6_canRegret {l : Launch} {G : GT} {D : Nat} : ∀ as S I J z Q, sp_X6_canRegret G as S I J z Q → fqCall l G M_X6_canRegret (D + 2) 0 0 as S I J z Q := by
  intro as S I J z Q h
  unfold sp_X6_canRegret at h
  split at h
  · next s k =>
    obtain ⟨hs, hk, ho, hQ⟩ := h
    obtain ⟨k, hk9, rfl⟩ := vp_in_of hk (by decide)
    obtain ⟨c, hc, hc1, hc2⟩ := ho.ex
    rw [nI_clamp (by omega), hc2] at hQ
    have ql := qix_lt c k
    refine fq_enter [some (.ref s), some (.int (nI k))] (by decide +kernel) (Nat.le_of_ble_eq_true rfl) rfl (b_X6_canRegret_0 _ _ _ _ _ _ _ _ ?_)
    simp (disch := omega) only [B_X6_canRegret_0, B_X6_canRegret_38, B_X6_canRegret_39, sp_X6_latest, hs.k, hs.r0, hs.k1, hs.r1, hs.k2, hs.r2, hs.k3, hs.r3, hs.k4, hs.r4, hs.k12, hs.n1, hs.n2, hs.n3, hs.y0, hs.k5, hs.n5, hs.y1, hs.k6, hs.n6, hs.y2, hs.k7, hs.n7, hs.y3, hs.k8, hs.n8, hs.y4, hs.k9, hs.n9, hs.y5, hs.k10, hs.n10, hs.y6, hs.k11, hs.n11, hs.p0, hs.p1, hs.p2, hs.k13, hs.n13, hs.q0, hs.q1, hs.k14, hs.k15, hs.k16, hs.n16, hs.k17, hs.n17, hs.rH, hs.kH, hs.rP, hs.kP, hs.rQ, hs.kQ, hs, ho, hc2, nI_1, nI_add, nI_clamp, nI_pin, nI_neg, nI_nonneg, nI_leE, nI_ltE, nI_eqE, Nat.not_le, Nat.not_lt, fq_10, fq_01, fq_rr, ix_aald, ix_aast, ix_abs, ix_alen, ix_aload, ix_aret, ix_astore, ix_bald, ix_bast, ix_call, ix_cpyI, ix_cpyJ, ix_dead, ix_dup2, ix_dup2L, ix_dupI, ix_dupR, ix_dupx1, ix_getI, ix_getJ, ix_getR, ix_gfm, ix_gtab, ix_i2b, ix_i2c, ix_i2l, ix_i2s, ix_iadd, ix_iald, ix_iand, ix_iast, ix_icall, ix_icmp_eq, ix_icmp_ge, ix_icmp_gt, ix_icmp_le, ix_icmp_lt, ix_icmp_ne, ix_idiv, ix_if_eq, ix_if_ge, ix_if_gt, ix_if_le, ix_if_lt, ix_if_ne, ix_iinc, ix_iload, ix_imul, ix_ineg, ix_ior, ix_irem, ix_iret, ix_ishl, ix_ishr, ix_istore, ix_isub, ix_iushr, ix_ixor, ix_l2i, ix_ladd, ix_lald, ix_land, ix_last, ix_lcmp, ix_ldcS, ix_ldiv, ix_lload, ix_lmul, ix_lor, ix_lrem, ix_lret, ix_lshl, ix_lstore, ix_lsub, ix_lsw, ix_max, ix_min, ix_new, ix_newa, ix_nret, ix_oinit, ix_pop2L, ix_popI, ix_pushI, ix_pushL, ix_putI, ix_putJ, ix_putR, ix_putZ, ix_sbald, ix_sgetC, ix_sgetV, ix_slen, ix_strc, ix_tald, ix_tsw, ix_vcall, ix_vret, ix_zret, stL, stL2, kilL, popN, fq_sw, fq_lsw, List.map_cons, List.map_nil, List.getElem?_cons_zero, List.getElem?_cons_succ, Option.toList_some, Option.toList_none, List.cons_append, List.nil_append, List.length_cons, List.length_nil, List.sum_cons, List.sum_nil, cat_i, cat_l, cat_r, true_and, and_true, Nat.zero_add, Nat.add_zero, Nat.le_refl, Nat.zero_le, Nat.reduceAdd, Nat.reduceLeDiff, exists_eq_left', Option.some.injEq, not_true_eq_false, not_false_eq_true, false_implies, true_implies, implies_true, and_self, or_true, true_or, or_false, false_or]
    refine ⟨fun g1 => ?_, fun g1 => ⟨fun g2 => ?_, fun g2 => ⟨fun g3 => ?_, fun g3 => ?_⟩⟩⟩
    · rw [bI_f (fun q => Int32.not_le.mpr q.1 g1)] at hQ
      exact hQ
    · rw [bI_f (fun q => g2 q.2.1)] at hQ
      exact hQ
    · rw [bI_f (fun q => g3 q.2.2)] at hQ
      exact hQ
    · rw [bI_t ⟨Int32.not_le.mp g1, g2, g3⟩] at hQ
      exact hQ
  · exact h.elim
def abI (x : Int32) : Int32 := if 0 ≤ x then x else 0 - x
theorem n_qh (s m w : Nat) (h : w < 6) : s + 18 + w ≠ s + 32 + m := by omega
def sp_X6_regret (G : GT) : Sp := fun as S I J z Q => match as with
  | [.ref s, .int k] => stS S s ∧ vp_in k 20 ∧ okN (I s 8) 19 ∧ vp_in (I (s + 32 + qix (I s 8).toNatClampNeg k.toNatClampNeg) 1) 5 ∧ ∀ (q w : Nat) (f : Int32), q = s + 32 + qix (I s 8).toNatClampNeg k.toNatClampNeg → I q 1 = nI w → w < 5 → f = psh (I (s + 18 + w) 2) (I (s + 18 + (w + 1)) 2) (-(I q 5 / 2)) → Q (some (.int (abI f))) S (u2 (u2 (u2 I q 6 1) (s + 18 + w) 2 (I (s + 18 + w) 2 + f)) (s + 18 + (w + 1)) 2 (I (s + 18 + (w + 1)) 2 - f)) J z
  | _ => False
set_option maxHeartbeats 4000000 in
set_option maxRecDepth 20000 in
theorem c_X6_regret {l : Launch} {G : GT} {D : Nat} : ∀ as S I J z Q, sp_X6_regret G as S I J z Q → fqCall l G M_X6_regret (D + 2) 0 0 as S I J z Q := by
  intro as S I J z Q h
  unfold sp_X6_regret at h
  split at h
  · next s k =>
    obtain ⟨hs, hk, ho, hw, hQ⟩ := h
    obtain ⟨k, hk9, rfl⟩ := vp_in_of hk (by decide)
    obtain ⟨c, hc, hc1, hc2⟩ := ho.ex
    rw [nI_clamp (by omega), hc2] at hQ hw
    have ql := qix_lt c k
    obtain ⟨w, hw9, hw8⟩ := vp_in_of hw (by decide)
    have hq := hQ _ w _ rfl hw8 hw9 rfl
    have n1 := n_qh s (qix c k) w (by omega)
    have n2 := n_qh s (qix c k) (w + 1) (by omega)
    refine fq_enter [some (.ref s), some (.int (nI k)), none] (by decide +kernel) (Nat.le_of_ble_eq_true rfl) rfl (b_X6_regret_0 _ _ _ _ _ _ _ _ ?_)
    simp (disch := omega) only [B_X6_regret_0, sp_X6_latest, sp_X6_push, hs.k, hs.r0, hs.k1, hs.r1, hs.k2, hs.r2, hs.k3, hs.r3, hs.k4, hs.r4, hs.k12, hs.n1, hs.n2, hs.n3, hs.y0, hs.k5, hs.n5, hs.y1, hs.k6, hs.n6, hs.y2, hs.k7, hs.n7, hs.y3, hs.k8, hs.n8, hs.y4, hs.k9, hs.n9, hs.y5, hs.k10, hs.n10, hs.y6, hs.k11, hs.n11, hs.p0, hs.p1, hs.p2, hs.k13, hs.n13, hs.q0, hs.q1, hs.k14, hs.k15, hs.k16, hs.n16, hs.k17, hs.n17, hs.rH, hs.kH, hs.rP, hs.kP, hs.rQ, hs.kQ, hs, ho, hc2, u2_ck, hw8, u2_ca, nI_1, nI_add, nI_clamp, nI_pin, nI_neg, nI_nonneg, nI_leE, nI_ltE, nI_eqE, Nat.not_le, Nat.not_lt, fq_10, fq_01, fq_rr, ix_aald, ix_aast, ix_abs, ix_alen, ix_aload, ix_aret, ix_astore, ix_bald, ix_bast, ix_call, ix_cpyI, ix_cpyJ, ix_dead, ix_dup2, ix_dup2L, ix_dupI, ix_dupR, ix_dupx1, ix_getI, ix_getJ, ix_getR, ix_gfm, ix_gtab, ix_i2b, ix_i2c, ix_i2l, ix_i2s, ix_iadd, ix_iald, ix_iand, ix_iast, ix_icall, ix_icmp_eq, ix_icmp_ge, ix_icmp_gt, ix_icmp_le, ix_icmp_lt, ix_icmp_ne, ix_idiv, ix_if_eq, ix_if_ge, ix_if_gt, ix_if_le, ix_if_lt, ix_if_ne, ix_iinc, ix_iload, ix_imul, ix_ineg, ix_ior, ix_irem, ix_iret, ix_ishl, ix_ishr, ix_istore, ix_isub, ix_iushr, ix_ixor, ix_l2i, ix_ladd, ix_lald, ix_land, ix_last, ix_lcmp, ix_ldcS, ix_ldiv, ix_lload, ix_lmul, ix_lor, ix_lrem, ix_lret, ix_lshl, ix_lstore, ix_lsub, ix_lsw, ix_max, ix_min, ix_new, ix_newa, ix_nret, ix_oinit, ix_pop2L, ix_popI, ix_pushI, ix_pushL, ix_putI, ix_putJ, ix_putR, ix_putZ, ix_sbald, ix_sgetC, ix_sgetV, ix_slen, ix_strc, ix_tald, ix_tsw, ix_vcall, ix_vret, ix_zret, stL, stL2, kilL, popN, fq_sw, fq_lsw, List.map_cons, List.map_nil, List.getElem?_cons_zero, List.getElem?_cons_succ, Option.toList_some, Option.toList_none, List.cons_append, List.nil_append, List.length_cons, List.length_nil, List.sum_cons, List.sum_nil, cat_i, cat_l, cat_r, true_and, and_true, Nat.zero_add, Nat.add_zero, Nat.le_refl, Nat.zero_le, Nat.reduceAdd, Nat.reduceLeDiff, exists_eq_left', Option.some.injEq, not_true_eq_false, not_false_eq_true, false_implies, true_implies, implies_true, and_self, or_true, true_or, or_false, false_or]
    exact ⟨by decide, hq⟩
  · exact h.elim
/-- so many nights -/
def slp (I : IH) (s pc : Nat) (n : Int32) : IH := fun q k => if s + 24 ≤ q ∧ q < s + 24 + pc ∧ k = 6 then mx0 (I q 6 - n * I s 10) else I q k
def sp_X6_sleep (G : GT) : Sp := fun as S I J z Q => match as with
  | [.ref s, .int n] => stS S s ∧ okN (I s 6) 8 ∧ Q none S (u2 (slp I s (I s 6).toNatClampNeg n) s 12 (I s 12 + n)) J z
  | _ => False
theorem slp_s (I : IH) (s pc k : Nat) (n : Int32) : slp I s pc n s k = I s k := by
  unfold slp
  rw [if_neg (by omega)]
theorem slp_p (I : IH) (s pc k i : Nat) (n : Int32) (h : pc ≤ i) : slp I s pc n (s + 24 + i) k = I (s + 24 + i) k := by
  unfold slp
  rw [if_neg (by omega)]
theorem slp_n (I : IH) (s i : Nat) (n : Int32) : u2 (slp I s i n) (s + 24 + i) 6 (mx0 (I (s + 24 + i) 6 - n * I s 10)) = slp I s (i + 1) n := by
  funext q k
  unfold u2 slp
  by_cases h1 : q = s + 24 + i ∧ k = 6
  · rw [if_pos h1, if_pos ⟨by omega, by omega, h1.2⟩, h1.1]
  · rw [if_neg h1]
    by_cases h2 : s + 24 ≤ q ∧ q < s + 24 + i ∧ k = 6
    · rw [if_pos h2, if_pos ⟨h2.1, by omega, h2.2.2⟩]
    · rw [if_neg h2, if_neg (by omega)]
theorem slp_0 (I : IH) (s : Nat) (n : Int32) : slp I s 0 n = I := by
  funext q k
  unfold slp
  rw [if_neg (by omega)]
set_option maxHeartbeats 4000000 in
set_option maxRecDepth 20000 in
theorem c_X6_sleep {l : Launch} {G : GT} {D : Nat} : ∀ as S I J z Q, sp_X6_sleep G as S I J z Q → fqCall l G M_X6_sleep (D + 2) 0 0 as S I J z Q := by
  intro as S I J z Q h
  unfold sp_X6_sleep at h
  split at h
  · next s m =>
    obtain ⟨hs, ho, hQ⟩ := h
    obtain ⟨c, hc, hc1, hc2⟩ := ho.ex
    rw [hc2] at hQ
    have lp : ∀ (n i : Nat), i + n = c → fqAt l G M_X6_sleep (D + 2) 0 0 Q 2 [some (.ref s), some (.int m), some (.int (nI i))] [] S (slp I s i m) J z 0 0 := by
      intro n
      induction n with
      | zero =>
        intro i hi
        refine b_X6_sleep_2 _ _ _ _ _ _ _ _ ?_
        simp (disch := omega) only [B_X6_sleep_0, B_X6_sleep_2, sp_X6_angerBehind, hs.k, hs.r0, hs.k1, hs.r1, hs.k2, hs.r2, hs.k3, hs.r3, hs.k4, hs.r4, hs.k12, hs.n1, hs.n2, hs.n3, hs.y0, hs.k5, hs.n5, hs.y1, hs.k6, hs.n6, hs.y2, hs.k7, hs.n7, hs.y3, hs.k8, hs.n8, hs.y4, hs.k9, hs.n9, hs.y5, hs.k10, hs.n10, hs.y6, hs.k11, hs.n11, hs.p0, hs.p1, hs.p2, hs.k13, hs.n13, hs.q0, hs.q1, hs.k14, hs.k15, hs.k16, hs.n16, hs.k17, hs.n17, hs.rH, hs.kH, hs.rP, hs.kP, hs.rQ, hs.kQ, hs, slp_s, hc1, nI_1, nI_add, nI_clamp, nI_pin, nI_neg, nI_nonneg, nI_leE, nI_ltE, nI_eqE, Nat.not_le, Nat.not_lt, fq_10, fq_01, fq_rr, ix_aald, ix_aast, ix_abs, ix_alen, ix_aload, ix_aret, ix_astore, ix_bald, ix_bast, ix_call, ix_cpyI, ix_cpyJ, ix_dead, ix_dup2, ix_dup2L, ix_dupI, ix_dupR, ix_dupx1, ix_getI, ix_getJ, ix_getR, ix_gfm, ix_gtab, ix_i2b, ix_i2c, ix_i2l, ix_i2s, ix_iadd, ix_iald, ix_iand, ix_iast, ix_icall, ix_icmp_eq, ix_icmp_ge, ix_icmp_gt, ix_icmp_le, ix_icmp_lt, ix_icmp_ne, ix_idiv, ix_if_eq, ix_if_ge, ix_if_gt, ix_if_le, ix_if_lt, ix_if_ne, ix_iinc, ix_iload, ix_imul, ix_ineg, ix_ior, ix_irem, ix_iret, ix_ishl, ix_ishr, ix_istore, ix_isub, ix_iushr, ix_ixor, ix_l2i, ix_ladd, ix_lald, ix_land, ix_last, ix_lcmp, ix_ldcS, ix_ldiv, ix_lload, ix_lmul, ix_lor, ix_lrem, ix_lret, ix_lshl, ix_lstore, ix_lsub, ix_lsw, ix_max, ix_min, ix_new, ix_newa, ix_nret, ix_oinit, ix_pop2L, ix_popI, ix_pushI, ix_pushL, ix_putI, ix_putJ, ix_putR, ix_putZ, ix_sbald, ix_sgetC, ix_sgetV, ix_slen, ix_strc, ix_tald, ix_tsw, ix_vcall, ix_vret, ix_zret, stL, stL2, kilL, popN, fq_sw, fq_lsw, List.map_cons, List.map_nil, List.getElem?_cons_zero, List.getElem?_cons_succ, Option.toList_some, Option.toList_none, List.cons_append, List.nil_append, List.length_cons, List.length_nil, List.sum_cons, List.sum_nil, cat_i, cat_l, cat_r, true_and, and_true, Nat.zero_add, Nat.add_zero, Nat.le_refl, Nat.zero_le, Nat.reduceAdd, Nat.reduceLeDiff, exists_eq_left', Option.some.injEq, not_true_eq_false, not_false_eq_true, false_implies, true_implies, implies_true, and_self, or_true, true_or, or_false, false_or]
        refine ⟨fun _ => ?_, fun h => absurd h (by omega)⟩
        rw [show i = c by omega]
        exact hQ
      | succ n ih =>
        intro i hi
        refine b_X6_sleep_2 _ _ _ _ _ _ _ _ ?_
        simp (disch := omega) only [B_X6_sleep_0, B_X6_sleep_2, sp_X6_angerBehind, hs.k, hs.r0, hs.k1, hs.r1, hs.k2, hs.r2, hs.k3, hs.r3, hs.k4, hs.r4, hs.k12, hs.n1, hs.n2, hs.n3, hs.y0, hs.k5, hs.n5, hs.y1, hs.k6, hs.n6, hs.y2, hs.k7, hs.n7, hs.y3, hs.k8, hs.n8, hs.y4, hs.k9, hs.n9, hs.y5, hs.k10, hs.n10, hs.y6, hs.k11, hs.n11, hs.p0, hs.p1, hs.p2, hs.k13, hs.n13, hs.q0, hs.q1, hs.k14, hs.k15, hs.k16, hs.n16, hs.k17, hs.n17, hs.rH, hs.kH, hs.rP, hs.kP, hs.rQ, hs.kQ, hs, slp_s, slp_p, slp_n, hc1, nI_1, nI_add, nI_clamp, nI_pin, nI_neg, nI_nonneg, nI_leE, nI_ltE, nI_eqE, Nat.not_le, Nat.not_lt, fq_10, fq_01, fq_rr, ix_aald, ix_aast, ix_abs, ix_alen, ix_aload, ix_aret, ix_astore, ix_bald, ix_bast, ix_call, ix_cpyI, ix_cpyJ, ix_dead, ix_dup2, ix_dup2L, ix_dupI, ix_dupR, ix_dupx1, ix_getI, ix_getJ, ix_getR, ix_gfm, ix_gtab, ix_i2b, ix_i2c, ix_i2l, ix_i2s, ix_iadd, ix_iald, ix_iand, ix_iast, ix_icall, ix_icmp_eq, ix_icmp_ge, ix_icmp_gt, ix_icmp_le, ix_icmp_lt, ix_icmp_ne, ix_idiv, ix_if_eq, ix_if_ge, ix_if_gt, ix_if_le, ix_if_lt, ix_if_ne, ix_iinc, ix_iload, ix_imul, ix_ineg, ix_ior, ix_irem, ix_iret, ix_ishl, ix_ishr, ix_istore, ix_isub, ix_iushr, ix_ixor, ix_l2i, ix_ladd, ix_lald, ix_land, ix_last, ix_lcmp, ix_ldcS, ix_ldiv, ix_lload, ix_lmul, ix_lor, ix_lrem, ix_lret, ix_lshl, ix_lstore, ix_lsub, ix_lsw, ix_max, ix_min, ix_new, ix_newa, ix_nret, ix_oinit, ix_pop2L, ix_popI, ix_pushI, ix_pushL, ix_putI, ix_putJ, ix_putR, ix_putZ, ix_sbald, ix_sgetC, ix_sgetV, ix_slen, ix_strc, ix_tald, ix_tsw, ix_vcall, ix_vret, ix_zret, stL, stL2, kilL, popN, fq_sw, fq_lsw, List.map_cons, List.map_nil, List.getElem?_cons_zero, List.getElem?_cons_succ, Option.toList_some, Option.toList_none, List.cons_append, List.nil_append, List.length_cons, List.length_nil, List.sum_cons, List.sum_nil, cat_i, cat_l, cat_r, true_and, and_true, Nat.zero_add, Nat.add_zero, Nat.le_refl, Nat.zero_le, Nat.reduceAdd, Nat.reduceLeDiff, exists_eq_left', Option.some.injEq, not_true_eq_false, not_false_eq_true, false_implies, true_implies, implies_true, and_self, or_true, true_or, or_false, false_or]
        exact ⟨fun h => absurd h (by omega), fun _ => ih (i + 1) (by omega)⟩
    refine fq_enter [some (.ref s), some (.int m), none] (by decide +kernel) (Nat.le_of_ble_eq_true rfl) rfl (b_X6_sleep_0 _ _ _ _ _ _ _ _ ?_)
    simp (disch := omega) only [B_X6_sleep_0, B_X6_sleep_2, sp_X6_angerBehind, hs.k, hs.r0, hs.k1, hs.r1, hs.k2, hs.r2, hs.k3, hs.r3, hs.k4, hs.r4, hs.k12, hs.n1, hs.n2, hs.n3, hs.y0, hs.k5, hs.n5, hs.y1, hs.k6, hs.n6, hs.y2, hs.k7, hs.n7, hs.y3, hs.k8, hs.n8, hs.y4, hs.k9, hs.n9, hs.y5, hs.k10, hs.n10, hs.y6, hs.k11, hs.n11, hs.p0, hs.p1, hs.p2, hs.k13, hs.n13, hs.q0, hs.q1, hs.k14, hs.k15, hs.k16, hs.n16, hs.k17, hs.n17, hs.rH, hs.kH, hs.rP, hs.kP, hs.rQ, hs.kQ, nI_1, nI_add, nI_clamp, nI_pin, nI_neg, nI_nonneg, nI_leE, nI_ltE, nI_eqE, Nat.not_le, Nat.not_lt, fq_10, fq_01, fq_rr, ix_aald, ix_aast, ix_abs, ix_alen, ix_aload, ix_aret, ix_astore, ix_bald, ix_bast, ix_call, ix_cpyI, ix_cpyJ, ix_dead, ix_dup2, ix_dup2L, ix_dupI, ix_dupR, ix_dupx1, ix_getI, ix_getJ, ix_getR, ix_gfm, ix_gtab, ix_i2b, ix_i2c, ix_i2l, ix_i2s, ix_iadd, ix_iald, ix_iand, ix_iast, ix_icall, ix_icmp_eq, ix_icmp_ge, ix_icmp_gt, ix_icmp_le, ix_icmp_lt, ix_icmp_ne, ix_idiv, ix_if_eq, ix_if_ge, ix_if_gt, ix_if_le, ix_if_lt, ix_if_ne, ix_iinc, ix_iload, ix_imul, ix_ineg, ix_ior, ix_irem, ix_iret, ix_ishl, ix_ishr, ix_istore, ix_isub, ix_iushr, ix_ixor, ix_l2i, ix_ladd, ix_lald, ix_land, ix_last, ix_lcmp, ix_ldcS, ix_ldiv, ix_lload, ix_lmul, ix_lor, ix_lrem, ix_lret, ix_lshl, ix_lstore, ix_lsub, ix_lsw, ix_max, ix_min, ix_new, ix_newa, ix_nret, ix_oinit, ix_pop2L, ix_popI, ix_pushI, ix_pushL, ix_putI, ix_putJ, ix_putR, ix_putZ, ix_sbald, ix_sgetC, ix_sgetV, ix_slen, ix_strc, ix_tald, ix_tsw, ix_vcall, ix_vret, ix_zret, stL, stL2, kilL, popN, fq_sw, fq_lsw, List.map_cons, List.map_nil, List.getElem?_cons_zero, List.getElem?_cons_succ, Option.toList_some, Option.toList_none, List.cons_append, List.nil_append, List.length_cons, List.length_nil, List.sum_cons, List.sum_nil, cat_i, cat_l, cat_r, true_and, and_true, Nat.zero_add, Nat.add_zero, Nat.le_refl, Nat.zero_le, Nat.reduceAdd, Nat.reduceLeDiff, exists_eq_left', Option.some.injEq, not_true_eq_false, not_false_eq_true, false_implies, true_implies, implies_true, and_self, or_true, true_or, or_false, false_or]
    have := lp c 0 (by omega)
    rw [slp_0] at this
    exact this
  · exact h.elim
def sp_X6_loudnessOf (G : GT) : Sp := fun as S I J z Q => match as with
  | [.ref s, .int p] => stS S s ∧ vp_in p 8 ∧ Q (some (.int (ldn (I (s + 24 + p.toNatClampNeg) 4) (I s 16)))) S I J z
  | _ => False
set_option maxHeartbeats 4000000 in
set_option maxRecDepth 20000 in
theorem c_X6_loudnessOf {l : Launch} {G : GT} {D : Nat} : ∀ as S I J z Q, sp_X6_loudnessOf G as S I J z Q → fqCall l G M_X6_loudnessOf (D + 3) 0 0 as S I J z Q := by
  intro as S I J z Q h
  unfold sp_X6_loudnessOf at h
  split at h
  · next s p =>
    obtain ⟨hs, hp, hQ⟩ := h
    obtain ⟨p, hp9, rfl⟩ := vp_in_of hp (by decide)
    rw [nI_clamp (by omega)] at hQ
    refine fq_enter [some (.ref s), some (.int (nI p))] (by decide +kernel) (Nat.le_of_ble_eq_true rfl) rfl (b_X6_loudnessOf_0 _ _ _ _ _ _ _ _ ?_)
    simp (disch := omega) only [B_X6_loudnessOf_0, sp_X6_loudness, hs.k, hs.r0, hs.k1, hs.r1, hs.k2, hs.r2, hs.k3, hs.r3, hs.k4, hs.r4, hs.k12, hs.n1, hs.n2, hs.n3, hs.y0, hs.k5, hs.n5, hs.y1, hs.k6, hs.n6, hs.y2, hs.k7, hs.n7, hs.y3, hs.k8, hs.n8, hs.y4, hs.k9, hs.n9, hs.y5, hs.k10, hs.n10, hs.y6, hs.k11, hs.n11, hs.p0, hs.p1, hs.p2, hs.k13, hs.n13, hs.q0, hs.q1, hs.k14, hs.k15, hs.k16, hs.n16, hs.k17, hs.n17, hs.rH, hs.kH, hs.rP, hs.kP, hs.rQ, hs.kQ, hs, nI_1, nI_add, nI_clamp, nI_pin, nI_neg, nI_nonneg, nI_leE, nI_ltE, nI_eqE, Nat.not_le, Nat.not_lt, fq_10, fq_01, fq_rr, ix_aald, ix_aast, ix_abs, ix_alen, ix_aload, ix_aret, ix_astore, ix_bald, ix_bast, ix_call, ix_cpyI, ix_cpyJ, ix_dead, ix_dup2, ix_dup2L, ix_dupI, ix_dupR, ix_dupx1, ix_getI, ix_getJ, ix_getR, ix_gfm, ix_gtab, ix_i2b, ix_i2c, ix_i2l, ix_i2s, ix_iadd, ix_iald, ix_iand, ix_iast, ix_icall, ix_icmp_eq, ix_icmp_ge, ix_icmp_gt, ix_icmp_le, ix_icmp_lt, ix_icmp_ne, ix_idiv, ix_if_eq, ix_if_ge, ix_if_gt, ix_if_le, ix_if_lt, ix_if_ne, ix_iinc, ix_iload, ix_imul, ix_ineg, ix_ior, ix_irem, ix_iret, ix_ishl, ix_ishr, ix_istore, ix_isub, ix_iushr, ix_ixor, ix_l2i, ix_ladd, ix_lald, ix_land, ix_last, ix_lcmp, ix_ldcS, ix_ldiv, ix_lload, ix_lmul, ix_lor, ix_lrem, ix_lret, ix_lshl, ix_lstore, ix_lsub, ix_lsw, ix_max, ix_min, ix_new, ix_newa, ix_nret, ix_oinit, ix_pop2L, ix_popI, ix_pushI, ix_pushL, ix_putI, ix_putJ, ix_putR, ix_putZ, ix_sbald, ix_sgetC, ix_sgetV, ix_slen, ix_strc, ix_tald, ix_tsw, ix_vcall, ix_vret, ix_zret, stL, stL2, kilL, popN, fq_sw, fq_lsw, List.map_cons, List.map_nil, List.getElem?_cons_zero, List.getElem?_cons_succ, Option.toList_some, Option.toList_none, List.cons_append, List.nil_append, List.length_cons, List.length_nil, List.sum_cons, List.sum_nil, cat_i, cat_l, cat_r, true_and, and_true, Nat.zero_add, Nat.add_zero, Nat.le_refl, Nat.zero_le, Nat.reduceAdd, Nat.reduceLeDiff, exists_eq_left', Option.some.injEq, not_true_eq_false, not_false_eq_true, false_implies, true_implies, implies_true, and_self, or_true, true_or, or_false, false_or]
    exact hQ
  · exact h.elim
theorem dX6_hearerSet_0 : decode cX6_hearerSet 0 = .ok (.iconst 0, 1) := by decide +kernel
theorem dX6_hearerSet_1 : decode cX6_hearerSet 1 = .ok (.istore_n 2, 1) := by decide +kernel
theorem dX6_hearerSet_2 : decode cX6_hearerSet 2 = .ok (.iconst 0, 1) := by decide +kernel
theorem dX6_hearerSet_3 : decode cX6_hearerSet 3 = .ok (.istore_n 3, 1) := by decide +kernel
theorem dX6_hearerSet_4 : decode cX6_hearerSet 4 = .ok (.iload_n 3, 1) := by decide +kernel
theorem dX6_hearerSet_5 : decode cX6_hearerSet 5 = .ok (.aload_n 0, 1) := by decide +kernel
theorem dX6_hearerSet_6 : decode cX6_hearerSet 6 = .ok (.getfield 53, 3) := by decide +kernel
theorem dX6_hearerSet_9 : decode cX6_hearerSet 9 = .ok (.if_icmp .ge 37, 3) := by decide +kernel
theorem dX6_hearerSet_12 : decode cX6_hearerSet 12 = .ok (.iload_n 3, 1) := by decide +kernel
theorem dX6_hearerSet_13 : decode cX6_hearerSet 13 = .ok (.iload_n 1, 1) := by decide +kernel
theorem dX6_hearerSet_14 : decode cX6_hearerSet 14 = .ok (.if_icmp .eq 26, 3) := by decide +kernel
theorem dX6_hearerSet_17 : decode cX6_hearerSet 17 = .ok (.aload_n 0, 1) := by decide +kernel
theorem dX6_hearerSet_18 : decode cX6_hearerSet 18 = .ok (.getfield 19, 3) := by decide +kernel
theorem dX6_hearerSet_21 : decode cX6_hearerSet 21 = .ok (.iload_n 3, 1) := by decide +kernel
theorem dX6_hearerSet_22 : decode cX6_hearerSet 22 = .ok (.aaload, 1) := by decide +kernel
theorem dX6_hearerSet_23 : decode cX6_hearerSet 23 = .ok (.aload_n 0, 1) := by decide +kernel
theorem dX6_hearerSet_24 : decode cX6_hearerSet 24 = .ok (.iload_n 1, 1) := by decide +kernel
theorem dX6_hearerSet_25 : decode cX6_hearerSet 25 = .ok (.invokevirtual 135, 3) := by decide +kernel
theorem dX6_hearerSet_28 : decode cX6_hearerSet 28 = .ok (.invokevirtual 138, 3) := by decide +kernel
theorem dX6_hearerSet_31 : decode cX6_hearerSet 31 = .ok (.ifCond .eq 9, 3) := by decide +kernel
theorem dX6_hearerSet_34 : decode cX6_hearerSet 34 = .ok (.iload_n 2, 1) := by decide +kernel
theorem dX6_hearerSet_35 : decode cX6_hearerSet 35 = .ok (.iconst 1, 1) := by decide +kernel
theorem dX6_hearerSet_36 : decode cX6_hearerSet 36 = .ok (.iload_n 3, 1) := by decide +kernel
theorem dX6_hearerSet_37 : decode cX6_hearerSet 37 = .ok (.ishl, 1) := by decide +kernel
theorem dX6_hearerSet_38 : decode cX6_hearerSet 38 = .ok (.ior, 1) := by decide +kernel
theorem dX6_hearerSet_39 : decode cX6_hearerSet 39 = .ok (.istore_n 2, 1) := by decide +kernel
theorem dX6_hearerSet_40 : decode cX6_hearerSet 40 = .ok (.iinc 3 1, 3) := by decide +kernel
theorem dX6_hearerSet_43 : decode cX6_hearerSet 43 = .ok (.goto (-39), 3) := by decide +kernel
theorem dX6_hearerSet_46 : decode cX6_hearerSet 46 = .ok (.iload_n 2, 1) := by decide +kernel
theorem dX6_hearerSet_47 : decode cX6_hearerSet 47 = .ok (.ireturn, 1) := by decide +kernel
abbrev M_X6_hearerSet : MT := (yX6_hearerSet, cX6_hearerSet, 4, (some .int))
theorem cf_X6_hearerSet : fq_cf M_X6_hearerSet 1 := ⟨(mg_1 (List.mem_of_getElem? (i := 8) rfl) rfl), (mg_5 (List.mem_of_getElem? (i := 152) rfl) rfl), ⟨by decide, by decide, by decide +kernel⟩, by decide⟩
def B_X6_hearerSet_40 (l : Launch) (G : GT) (D mc ms : Nat) (Q : Post) : Cn := ix_iinc 3 1 (fqAt l G M_X6_hearerSet (D + 4) mc ms Q 4)
theorem b_X6_hearerSet_40 {l : Launch} {G : GT} {D mc ms : Nat} {Q : Post} : Imp l G M_X6_hearerSet (D + 4) mc ms Q (B_X6_hearerSet_40 l G D mc ms Q) 40 := sx_iinc dX6_hearerSet_40 rfl (by decide) (sx_goto 4 dX6_hearerSet_43 (by decide) ((fun _ _ _ _ _ _ _ _ h => h)))
def B_X6_hearerSet_4 (l : Launch) (G : GT) (D mc ms : Nat) (Q : Post) : Cn := ix_iload 3 (ix_aload 0 (ix_getI 6 6 (ix_icmp_ge (ix_iload 2 (ix_iret mc ms Q)) (ix_iload 3 (ix_iload 1 (ix_icmp_eq ((B_X6_hearerSet_40 l G D mc ms Q)) (ix_aload 0 (ix_getR 6 1 (ix_iload 3 (ix_aald 17 (ix_aload 0 (ix_iload 1 (ix_vcall 6 2 0 0 mc ms (sp_X6_loudnessOf G) (ix_vcall 2 2 0 0 mc ms (sp_X2_catches G) (ix_if_eq ((B_X6_hearerSet_40 l G D mc ms Q)) (ix_iload 2 (ix_pushI 1 (ix_iload 3 (ix_ishl (ix_ior (ix_istore 2 ((B_X6_hearerSet_40 l G D mc ms Q)))))))))))))))))))))))
theorem b_X6_hearerSet_4 {l : Launch} {G : GT} {D mc ms : Nat} {Q : Post} : Imp l G M_X6_hearerSet (D + 4) mc ms Q (B_X6_hearerSet_4 l G D mc ms Q) 4 := sx_iload_n dX6_hearerSet_4 rfl (sx_aload_n dX6_hearerSet_5 rfl (sx_getI dX6_hearerSet_6 fl_FootQuarrel_Street_53 (fun _ _ _ => rfl) (sx_icmp_ge 46 dX6_hearerSet_9 (by decide) (sx_iload_n dX6_hearerSet_46 rfl (sx_iret dX6_hearerSet_47 rfl)) (sx_iload_n dX6_hearerSet_12 rfl (sx_iload_n dX6_hearerSet_13 rfl (sx_icmp_eq 40 dX6_hearerSet_14 (by decide) (b_X6_hearerSet_40) (sx_aload_n dX6_hearerSet_17 rfl (sx_getR dX6_hearerSet_18 fl_FootQuarrel_Street_19 (fun _ _ _ => rfl) (sx_iload_n dX6_hearerSet_21 rfl (sx_aald dX6_hearerSet_22 (by decide) (by decide) rfl (sx_aload_n dX6_hearerSet_23 rfl (sx_iload_n dX6_hearerSet_24 rfl (sx_vcall dX6_hearerSet_25 cf_X6_loudnessOf (mg_5 (List.mem_of_getElem? (i := 153) rfl) rfl) (mg_5 (List.mem_of_getElem? (i := 132) rfl) rfl) (mg_5 (List.mem_of_getElem? (i := 133) rfl) rfl) rfl c_X6_loudnessOf (sx_vcall dX6_hearerSet_28 cf_X2_catches (mg_5 (List.mem_of_getElem? (i := 154) rfl) rfl) (mg_5 (List.mem_of_getElem? (i := 44) rfl) rfl) (mg_5 (List.mem_of_getElem? (i := 45) rfl) rfl) rfl c_X2_catches (sx_if_eq 40 dX6_hearerSet_31 (by decide) (b_X6_hearerSet_40) (sx_iload_n dX6_hearerSet_34 rfl (sx_iconst dX6_hearerSet_35 rfl (sx_iload_n dX6_hearerSet_36 rfl (sx_ishl dX6_hearerSet_37 (sx_ior dX6_hearerSet_38 (sx_istore_n dX6_hearerSet_39 rfl (by decide) (b_X6_hearerSet_40))))))))))))))))))))))
def B_X6_hearerSet_0 (l : Launch) (G : GT) (D mc ms : Nat) (Q : Post) : Cn := ix_pushI 0 (ix_istore 2 (ix_pushI 0 (ix_istore 3 (fqAt l G M_X6_hearerSet (D + 4) mc ms Q 4))))
theorem b_X6_hearerSet_0 {l : Launch} {G : GT} {D mc ms : Nat} {Q : Post} : Imp l G M_X6_hearerSet (D + 4) mc ms Q (B_X6_hearerSet_0 l G D mc ms Q) 0 := sx_iconst dX6_hearerSet_0 rfl (sx_istore_n dX6_hearerSet_1 rfl (by decide) (sx_iconst dX6_hearerSet_2 rfl (sx_istore_n dX6_hearerSet_3 rfl (by decide) ((fun _ _ _ _ _ _ _ _ h => h)))))
theorem dX6_wouldProvoke_0 : decode cX6_wouldProvoke 0 = .ok (.aload_n 0, 1) := by decide +kernel
theorem dX6_wouldProvoke_1 : decode cX6_wouldProvoke 1 = .ok (.iload_n 1, 1) := by decide +kernel
theorem dX6_wouldProvoke_2 : decode cX6_wouldProvoke 2 = .ok (.iload_n 2, 1) := by decide +kernel
theorem dX6_wouldProvoke_3 : decode cX6_wouldProvoke 3 = .ok (.invokevirtual 132, 3) := by decide +kernel
theorem dX6_wouldProvoke_6 : decode cX6_wouldProvoke 6 = .ok (.iconst (-1), 1) := by decide +kernel
theorem dX6_wouldProvoke_7 : decode cX6_wouldProvoke 7 = .ok (.if_icmp .eq 24, 3) := by decide +kernel
theorem dX6_wouldProvoke_10 : decode cX6_wouldProvoke 10 = .ok (.aload_n 0, 1) := by decide +kernel
theorem dX6_wouldProvoke_11 : decode cX6_wouldProvoke 11 = .ok (.getfield 19, 3) := by decide +kernel
theorem dX6_wouldProvoke_14 : decode cX6_wouldProvoke 14 = .ok (.iload_n 2, 1) := by decide +kernel
theorem dX6_wouldProvoke_15 : decode cX6_wouldProvoke 15 = .ok (.aaload, 1) := by decide +kernel
theorem dX6_wouldProvoke_16 : decode cX6_wouldProvoke 16 = .ok (.aload_n 0, 1) := by decide +kernel
theorem dX6_wouldProvoke_17 : decode cX6_wouldProvoke 17 = .ok (.iload_n 1, 1) := by decide +kernel
theorem dX6_wouldProvoke_18 : decode cX6_wouldProvoke 18 = .ok (.invokevirtual 135, 3) := by decide +kernel
theorem dX6_wouldProvoke_21 : decode cX6_wouldProvoke 21 = .ok (.invokevirtual 153, 3) := by decide +kernel
theorem dX6_wouldProvoke_24 : decode cX6_wouldProvoke 24 = .ok (.ifCond .eq 7, 3) := by decide +kernel
theorem dX6_wouldProvoke_27 : decode cX6_wouldProvoke 27 = .ok (.iconst 1, 1) := by decide +kernel
theorem dX6_wouldProvoke_28 : decode cX6_wouldProvoke 28 = .ok (.goto 4, 3) := by decide +kernel
theorem dX6_wouldProvoke_31 : decode cX6_wouldProvoke 31 = .ok (.iconst 0, 1) := by decide +kernel
theorem dX6_wouldProvoke_32 : decode cX6_wouldProvoke 32 = .ok (.ireturn, 1) := by decide +kernel
abbrev M_X6_wouldProvoke : MT := (yX6_wouldProvoke, cX6_wouldProvoke, 3, (some .boolean))
theorem cf_X6_wouldProvoke : fq_cf M_X6_wouldProvoke 2 := ⟨(mg_1 (List.mem_of_getElem? (i := 8) rfl) rfl), (mg_5 (List.mem_of_getElem? (i := 180) rfl) rfl), ⟨by decide, by decide, by decide +kernel⟩, by decide⟩
def B_X6_wouldProvoke_32 (G : GT) (mc ms : Nat) (Q : Post) : Cn := ix_zret mc ms Q
theorem b_X6_wouldProvoke_32 {l : Launch} {G : GT} {D mc ms : Nat} {Q : Post} : Imp l G M_X6_wouldProvoke (D + 4) mc ms Q (B_X6_wouldProvoke_32 G mc ms Q) 32 := sx_zret dX6_wouldProvoke_32 rfl
def B_X6_wouldProvoke_31 (G : GT) (mc ms : Nat) (Q : Post) : Cn := ix_pushI 0 ((B_X6_wouldProvoke_32 G mc ms Q))
theorem b_X6_wouldProvoke_31 {l : Launch} {G : GT} {D mc ms : Nat} {Q : Post} : Imp l G M_X6_wouldProvoke (D + 4) mc ms Q (B_X6_wouldProvoke_31 G mc ms Q) 31 := sx_iconst dX6_wouldProvoke_31 rfl (b_X6_wouldProvoke_32)
def B_X6_wouldProvoke_0 (G : GT) (mc ms : Nat) (Q : Post) : Cn := ix_aload 0 (ix_iload 1 (ix_iload 2 (ix_vcall 6 3 0 0 mc ms (sp_X6_sharedWall G) (ix_pushI (-1) (ix_icmp_eq ((B_X6_wouldProvoke_31 G mc ms Q)) (ix_aload 0 (ix_getR 6 1 (ix_iload 2 (ix_aald 17 (ix_aload 0 (ix_iload 1 (ix_vcall 6 2 0 0 mc ms (sp_X6_loudnessOf G) (ix_vcall 2 2 0 0 mc ms (sp_X2_wouldShout G) (ix_if_eq ((B_X6_wouldProvoke_31 G mc ms Q)) (ix_pushI 1 ((B_X6_wouldProvoke_32 G mc ms Q)))))))))))))))))
theorem b_X6_wouldProvoke_0 {l : Launch} {G : GT} {D mc ms : Nat} {Q : Post} : Imp l G M_X6_wouldProvoke (D + 4) mc ms Q (B_X6_wouldProvoke_0 G mc ms Q) 0 := sx_aload_n dX6_wouldProvoke_0 rfl (sx_iload_n dX6_wouldProvoke_1 rfl (sx_iload_n dX6_wouldProvoke_2 rfl (sx_vcall dX6_wouldProvoke_3 cf_X6_sharedWall (mg_5 (List.mem_of_getElem? (i := 10) rfl) rfl) (mg_4 (List.mem_of_getElem? (i := 233) rfl) rfl) (mg_4 (List.mem_of_getElem? (i := 234) rfl) rfl) rfl c_X6_sharedWall (sx_iconst dX6_wouldProvoke_6 rfl (sx_icmp_eq 31 dX6_wouldProvoke_7 (by decide) (b_X6_wouldProvoke_31) (sx_aload_n dX6_wouldProvoke_10 rfl (sx_getR dX6_wouldProvoke_11 fl_FootQuarrel_Street_19 (fun _ _ _ => rfl) (sx_iload_n dX6_wouldProvoke_14 rfl (sx_aald dX6_wouldProvoke_15 (by decide) (by decide) rfl (sx_aload_n dX6_wouldProvoke_16 rfl (sx_iload_n dX6_wouldProvoke_17 rfl (sx_vcall dX6_wouldProvoke_18 cf_X6_loudnessOf (mg_5 (List.mem_of_getElem? (i := 153) rfl) rfl) (mg_5 (List.mem_of_getElem? (i := 132) rfl) rfl) (mg_5 (List.mem_of_getElem? (i := 133) rfl) rfl) rfl c_X6_loudnessOf (sx_vcall dX6_wouldProvoke_21 cf_X2_wouldShout (mg_5 (List.mem_of_getElem? (i := 181) rfl) rfl) (mg_5 (List.mem_of_getElem? (i := 182) rfl) rfl) (mg_5 (List.mem_of_getElem? (i := 183) rfl) rfl) rfl c_X2_wouldShout (sx_if_eq 31 dX6_wouldProvoke_24 (by decide) (b_X6_wouldProvoke_31) (sx_iconst dX6_wouldProvoke_27 rfl (sx_goto 32 dX6_wouldProvoke_28 (by decide) (b_X6_wouldProvoke_32)))))))))))))))))
theorem dX6_wouldProvokeTogether_0 : decode cX6_wouldProvokeTogether 0 = .ok (.aload_n 0, 1) := by decide +kernel
theorem dX6_wouldProvokeTogether_1 : decode cX6_wouldProvokeTogether 1 = .ok (.getfield 19, 3) := by decide +kernel
theorem dX6_wouldProvokeTogether_4 : decode cX6_wouldProvokeTogether 4 = .ok (.iload_n 2, 1) := by decide +kernel
theorem dX6_wouldProvokeTogether_5 : decode cX6_wouldProvokeTogether 5 = .ok (.aaload, 1) := by decide +kernel
theorem dX6_wouldProvokeTogether_6 : decode cX6_wouldProvokeTogether 6 = .ok (.astore_n 3, 1) := by decide +kernel
theorem dX6_wouldProvokeTogether_7 : decode cX6_wouldProvokeTogether 7 = .ok (.aload_n 3, 1) := by decide +kernel
theorem dX6_wouldProvokeTogether_8 : decode cX6_wouldProvokeTogether 8 = .ok (.getfield 141, 3) := by decide +kernel
theorem dX6_wouldProvokeTogether_11 : decode cX6_wouldProvokeTogether 11 = .ok (.istore 4, 2) := by decide +kernel
theorem dX6_wouldProvokeTogether_13 : decode cX6_wouldProvokeTogether 13 = .ok (.iconst 0, 1) := by decide +kernel
theorem dX6_wouldProvokeTogether_14 : decode cX6_wouldProvokeTogether 14 = .ok (.istore 5, 2) := by decide +kernel
theorem dX6_wouldProvokeTogether_16 : decode cX6_wouldProvokeTogether 16 = .ok (.iload 5, 2) := by decide +kernel
theorem dX6_wouldProvokeTogether_18 : decode cX6_wouldProvokeTogether 18 = .ok (.aload_n 0, 1) := by decide +kernel
theorem dX6_wouldProvokeTogether_19 : decode cX6_wouldProvokeTogether 19 = .ok (.getfield 53, 3) := by decide +kernel
theorem dX6_wouldProvokeTogether_22 : decode cX6_wouldProvokeTogether 22 = .ok (.if_icmp .ge 54, 3) := by decide +kernel
theorem dX6_wouldProvokeTogether_25 : decode cX6_wouldProvokeTogether 25 = .ok (.aload_n 0, 1) := by decide +kernel
theorem dX6_wouldProvokeTogether_26 : decode cX6_wouldProvokeTogether 26 = .ok (.iload 5, 2) := by decide +kernel
theorem dX6_wouldProvokeTogether_28 : decode cX6_wouldProvokeTogether 28 = .ok (.invokevirtual 135, 3) := by decide +kernel
theorem dX6_wouldProvokeTogether_31 : decode cX6_wouldProvokeTogether 31 = .ok (.istore 6, 2) := by decide +kernel
theorem dX6_wouldProvokeTogether_33 : decode cX6_wouldProvokeTogether 33 = .ok (.iload_n 1, 1) := by decide +kernel
theorem dX6_wouldProvokeTogether_34 : decode cX6_wouldProvokeTogether 34 = .ok (.iload 5, 2) := by decide +kernel
theorem dX6_wouldProvokeTogether_36 : decode cX6_wouldProvokeTogether 36 = .ok (.ishr, 1) := by decide +kernel
theorem dX6_wouldProvokeTogether_37 : decode cX6_wouldProvokeTogether 37 = .ok (.iconst 1, 1) := by decide +kernel
theorem dX6_wouldProvokeTogether_38 : decode cX6_wouldProvokeTogether 38 = .ok (.iand, 1) := by decide +kernel
theorem dX6_wouldProvokeTogether_39 : decode cX6_wouldProvokeTogether 39 = .ok (.iconst 1, 1) := by decide +kernel
theorem dX6_wouldProvokeTogether_40 : decode cX6_wouldProvokeTogether 40 = .ok (.if_icmp .ne 30, 3) := by decide +kernel
theorem dX6_wouldProvokeTogether_43 : decode cX6_wouldProvokeTogether 43 = .ok (.aload_n 3, 1) := by decide +kernel
theorem dX6_wouldProvokeTogether_44 : decode cX6_wouldProvokeTogether 44 = .ok (.iload 6, 2) := by decide +kernel
theorem dX6_wouldProvokeTogether_46 : decode cX6_wouldProvokeTogether 46 = .ok (.invokevirtual 138, 3) := by decide +kernel
theorem dX6_wouldProvokeTogether_49 : decode cX6_wouldProvokeTogether 49 = .ok (.ifCond .eq 21, 3) := by decide +kernel
theorem dX6_wouldProvokeTogether_52 : decode cX6_wouldProvokeTogether 52 = .ok (.iload 4, 2) := by decide +kernel
theorem dX6_wouldProvokeTogether_54 : decode cX6_wouldProvokeTogether 54 = .ok (.iload 6, 2) := by decide +kernel
theorem dX6_wouldProvokeTogether_56 : decode cX6_wouldProvokeTogether 56 = .ok (.iadd, 1) := by decide +kernel
theorem dX6_wouldProvokeTogether_57 : decode cX6_wouldProvokeTogether 57 = .ok (.istore 4, 2) := by decide +kernel
theorem dX6_wouldProvokeTogether_59 : decode cX6_wouldProvokeTogether 59 = .ok (.iload 4, 2) := by decide +kernel
theorem dX6_wouldProvokeTogether_61 : decode cX6_wouldProvokeTogether 61 = .ok (.aload_n 3, 1) := by decide +kernel
theorem dX6_wouldProvokeTogether_62 : decode cX6_wouldProvokeTogether 62 = .ok (.getfield 227, 3) := by decide +kernel
theorem dX6_wouldProvokeTogether_65 : decode cX6_wouldProvokeTogether 65 = .ok (.if_icmp .le 5, 3) := by decide +kernel
theorem dX6_wouldProvokeTogether_68 : decode cX6_wouldProvokeTogether 68 = .ok (.iconst 1, 1) := by decide +kernel
theorem dX6_wouldProvokeTogether_69 : decode cX6_wouldProvokeTogether 69 = .ok (.ireturn, 1) := by decide +kernel
theorem dX6_wouldProvokeTogether_70 : decode cX6_wouldProvokeTogether 70 = .ok (.iinc 5 1, 3) := by decide +kernel
theorem dX6_wouldProvokeTogether_73 : decode cX6_wouldProvokeTogether 73 = .ok (.goto (-57), 3) := by decide +kernel
theorem dX6_wouldProvokeTogether_76 : decode cX6_wouldProvokeTogether 76 = .ok (.iconst 0, 1) := by decide +kernel
theorem dX6_wouldProvokeTogether_77 : decode cX6_wouldProvokeTogether 77 = .ok (.ireturn, 1) := by decide +kernel
abbrev M_X6_wouldProvokeTogether : MT := (yX6_wouldProvokeTogether, cX6_wouldProvokeTogether, 7, (some .boolean))
theorem cf_X6_wouldProvokeTogether : fq_cf M_X6_wouldProvokeTogether 2 := ⟨(mg_1 (List.mem_of_getElem? (i := 8) rfl) rfl), (mg_5 (List.mem_of_getElem? (i := 220) rfl) rfl), ⟨by decide, by decide, by decide +kernel⟩, by decide⟩
def B_X6_wouldProvokeTogether_70 (l : Launch) (G : GT) (D mc ms : Nat) (Q : Post) : Cn := ix_iinc 5 1 (fqAt l G M_X6_wouldProvokeTogether (D + 4) mc ms Q 16)
theorem b_X6_wouldProvokeTogether_70 {l : Launch} {G : GT} {D mc ms : Nat} {Q : Post} : Imp l G M_X6_wouldProvokeTogether (D + 4) mc ms Q (B_X6_wouldProvokeTogether_70 l G D mc ms Q) 70 := sx_iinc dX6_wouldProvokeTogether_70 rfl (by decide) (sx_goto 16 dX6_wouldProvokeTogether_73 (by decide) ((fun _ _ _ _ _ _ _ _ h => h)))
def B_X6_wouldProvokeTogether_16 (l : Launch) (G : GT) (D mc ms : Nat) (Q : Post) : Cn := ix_iload 5 (ix_aload 0 (ix_getI 6 6 (ix_icmp_ge (ix_pushI 0 (ix_zret mc ms Q)) (ix_aload 0 (ix_iload 5 (ix_vcall 6 2 0 0 mc ms (sp_X6_loudnessOf G) (ix_istore 6 (ix_iload 1 (ix_iload 5 (ix_ishr (ix_pushI 1 (ix_iand (ix_pushI 1 (ix_icmp_ne ((B_X6_wouldProvokeTogether_70 l G D mc ms Q)) (ix_aload 3 (ix_iload 6 (ix_vcall 2 2 0 0 mc ms (sp_X2_catches G) (ix_if_eq ((B_X6_wouldProvokeTogether_70 l G D mc ms Q)) (ix_iload 4 (ix_iload 6 (ix_iadd (ix_istore 4 (ix_iload 4 (ix_aload 3 (ix_getI 2 2 (ix_icmp_le ((B_X6_wouldProvokeTogether_70 l G D mc ms Q)) (ix_pushI 1 (ix_zret mc ms Q))))))))))))))))))))))))))))
theorem b_X6_wouldProvokeTogether_16 {l : Launch} {G : GT} {D mc ms : Nat} {Q : Post} : Imp l G M_X6_wouldProvokeTogether (D + 4) mc ms Q (B_X6_wouldProvokeTogether_16 l G D mc ms Q) 16 := sx_iload dX6_wouldProvokeTogether_16 (sx_aload_n dX6_wouldProvokeTogether_18 rfl (sx_getI dX6_wouldProvokeTogether_19 fl_FootQuarrel_Street_53 (fun _ _ _ => rfl) (sx_icmp_ge 76 dX6_wouldProvokeTogether_22 (by decide) (sx_iconst dX6_wouldProvokeTogether_76 rfl (sx_zret dX6_wouldProvokeTogether_77 rfl)) (sx_aload_n dX6_wouldProvokeTogether_25 rfl (sx_iload dX6_wouldProvokeTogether_26 (sx_vcall dX6_wouldProvokeTogether_28 cf_X6_loudnessOf (mg_5 (List.mem_of_getElem? (i := 153) rfl) rfl) (mg_5 (List.mem_of_getElem? (i := 132) rfl) rfl) (mg_5 (List.mem_of_getElem? (i := 133) rfl) rfl) rfl c_X6_loudnessOf (sx_istore dX6_wouldProvokeTogether_31 (by decide) (sx_iload_n dX6_wouldProvokeTogether_33 rfl (sx_iload dX6_wouldProvokeTogether_34 (sx_ishr dX6_wouldProvokeTogether_36 (sx_iconst dX6_wouldProvokeTogether_37 rfl (sx_iand dX6_wouldProvokeTogether_38 (sx_iconst dX6_wouldProvokeTogether_39 rfl (sx_icmp_ne 70 dX6_wouldProvokeTogether_40 (by decide) (b_X6_wouldProvokeTogether_70) (sx_aload_n dX6_wouldProvokeTogether_43 rfl (sx_iload dX6_wouldProvokeTogether_44 (sx_vcall dX6_wouldProvokeTogether_46 cf_X2_catches (mg_5 (List.mem_of_getElem? (i := 154) rfl) rfl) (mg_5 (List.mem_of_getElem? (i := 44) rfl) rfl) (mg_5 (List.mem_of_getElem? (i := 45) rfl) rfl) rfl c_X2_catches (sx_if_eq 70 dX6_wouldProvokeTogether_49 (by decide) (b_X6_wouldProvokeTogether_70) (sx_iload dX6_wouldProvokeTogether_52 (sx_iload dX6_wouldProvokeTogether_54 (sx_iadd dX6_wouldProvokeTogether_56 (sx_istore dX6_wouldProvokeTogether_57 (by decide) (sx_iload dX6_wouldProvokeTogether_59 (sx_aload_n dX6_wouldProvokeTogether_61 rfl (sx_getI dX6_wouldProvokeTogether_62 fl_FootQuarrel_Street_227 (fun _ _ _ => rfl) (sx_icmp_le 70 dX6_wouldProvokeTogether_65 (by decide) (b_X6_wouldProvokeTogether_70) (sx_iconst dX6_wouldProvokeTogether_68 rfl (sx_zret dX6_wouldProvokeTogether_69 rfl))))))))))))))))))))))))))))
def B_X6_wouldProvokeTogether_0 (l : Launch) (G : GT) (D mc ms : Nat) (Q : Post) : Cn := ix_aload 0 (ix_getR 6 1 (ix_iload 2 (ix_aald 17 (ix_astore 3 (ix_aload 3 (ix_getI 2 6 (ix_istore 4 (ix_pushI 0 (ix_istore 5 (fqAt l G M_X6_wouldProvokeTogether (D + 4) mc ms Q 16))))))))))
theorem b_X6_wouldProvokeTogether_0 {l : Launch} {G : GT} {D mc ms : Nat} {Q : Post} : Imp l G M_X6_wouldProvokeTogether (D + 4) mc ms Q (B_X6_wouldProvokeTogether_0 l G D mc ms Q) 0 := sx_aload_n dX6_wouldProvokeTogether_0 rfl (sx_getR dX6_wouldProvokeTogether_1 fl_FootQuarrel_Street_19 (fun _ _ _ => rfl) (sx_iload_n dX6_wouldProvokeTogether_4 rfl (sx_aald dX6_wouldProvokeTogether_5 (by decide) (by decide) rfl (sx_astore_n dX6_wouldProvokeTogether_6 rfl (by decide) (sx_aload_n dX6_wouldProvokeTogether_7 rfl (sx_getI dX6_wouldProvokeTogether_8 fl_FootQuarrel_Street_141 (fun _ _ _ => rfl) (sx_istore dX6_wouldProvokeTogether_11 (by decide) (sx_iconst dX6_wouldProvokeTogether_13 rfl (sx_istore dX6_wouldProvokeTogether_14 (by decide) ((fun _ _ _ _ _ _ _ _ h => h)))))))))))
theorem dX6_isCheaper_0 : decode cX6_isCheaper 0 = .ok (.aload_n 0, 1) := by decide +kernel
theorem dX6_isCheaper_1 : decode cX6_isCheaper 1 = .ok (.iload_n 1, 1) := by decide +kernel
theorem dX6_isCheaper_2 : decode cX6_isCheaper 2 = .ok (.invokevirtual 230, 3) := by decide +kernel
theorem dX6_isCheaper_5 : decode cX6_isCheaper 5 = .ok (.aload_n 0, 1) := by decide +kernel
theorem dX6_isCheaper_6 : decode cX6_isCheaper 6 = .ok (.iload_n 2, 1) := by decide +kernel
theorem dX6_isCheaper_7 : decode cX6_isCheaper 7 = .ok (.invokevirtual 230, 3) := by decide +kernel
theorem dX6_isCheaper_10 : decode cX6_isCheaper 10 = .ok (.isub, 1) := by decide +kernel
theorem dX6_isCheaper_11 : decode cX6_isCheaper 11 = .ok (.istore_n 3, 1) := by decide +kernel
theorem dX6_isCheaper_12 : decode cX6_isCheaper 12 = .ok (.iload_n 3, 1) := by decide +kernel
theorem dX6_isCheaper_13 : decode cX6_isCheaper 13 = .ok (.ifCond .lt 18, 3) := by decide +kernel
theorem dX6_isCheaper_16 : decode cX6_isCheaper 16 = .ok (.iload_n 3, 1) := by decide +kernel
theorem dX6_isCheaper_17 : decode cX6_isCheaper 17 = .ok (.ifCond .ne 18, 3) := by decide +kernel
theorem dX6_isCheaper_20 : decode cX6_isCheaper 20 = .ok (.iload_n 1, 1) := by decide +kernel
theorem dX6_isCheaper_21 : decode cX6_isCheaper 21 = .ok (.invokestatic 233, 3) := by decide +kernel
theorem dX6_isCheaper_24 : decode cX6_isCheaper 24 = .ok (.iload_n 2, 1) := by decide +kernel
theorem dX6_isCheaper_25 : decode cX6_isCheaper 25 = .ok (.invokestatic 233, 3) := by decide +kernel
theorem dX6_isCheaper_28 : decode cX6_isCheaper 28 = .ok (.if_icmp .ge 7, 3) := by decide +kernel
theorem dX6_isCheaper_31 : decode cX6_isCheaper 31 = .ok (.iconst 1, 1) := by decide +kernel
theorem dX6_isCheaper_32 : decode cX6_isCheaper 32 = .ok (.goto 4, 3) := by decide +kernel
theorem dX6_isCheaper_35 : decode cX6_isCheaper 35 = .ok (.iconst 0, 1) := by decide +kernel
theorem dX6_isCheaper_36 : decode cX6_isCheaper 36 = .ok (.ireturn, 1) := by decide +kernel
abbrev M_X6_isCheaper : MT := (yX6_isCheaper, cX6_isCheaper, 4, (some .boolean))
theorem cf_X6_isCheaper : fq_cf M_X6_isCheaper 2 := ⟨(mg_1 (List.mem_of_getElem? (i := 8) rfl) rfl), (mg_5 (List.mem_of_getElem? (i := 224) rfl) rfl), ⟨by decide, by decide, by decide +kernel⟩, by decide⟩
def B_X6_isCheaper_36 (G : GT) (mc ms : Nat) (Q : Post) : Cn := ix_zret mc ms Q
theorem b_X6_isCheaper_36 {l : Launch} {G : GT} {D mc ms : Nat} {Q : Post} : Imp l G M_X6_isCheaper (D + 1) mc ms Q (B_X6_isCheaper_36 G mc ms Q) 36 := sx_zret dX6_isCheaper_36 rfl
def B_X6_isCheaper_35 (G : GT) (mc ms : Nat) (Q : Post) : Cn := ix_pushI 0 ((B_X6_isCheaper_36 G mc ms Q))
theorem b_X6_isCheaper_35 {l : Launch} {G : GT} {D mc ms : Nat} {Q : Post} : Imp l G M_X6_isCheaper (D + 1) mc ms Q (B_X6_isCheaper_35 G mc ms Q) 35 := sx_iconst dX6_isCheaper_35 rfl (b_X6_isCheaper_36)
def B_X6_isCheaper_31 (G : GT) (mc ms : Nat) (Q : Post) : Cn := ix_pushI 1 ((B_X6_isCheaper_36 G mc ms Q))
theorem b_X6_isCheaper_31 {l : Launch} {G : GT} {D mc ms : Nat} {Q : Post} : Imp l G M_X6_isCheaper (D + 1) mc ms Q (B_X6_isCheaper_31 G mc ms Q) 31 := sx_iconst dX6_isCheaper_31 rfl (sx_goto 36 dX6_isCheaper_32 (by decide) (b_X6_isCheaper_36))
def B_X6_isCheaper_0 (G : GT) (mc ms : Nat) (Q : Post) : Cn := ix_aload 0 (ix_iload 1 (ix_vcall 6 2 0 0 mc ms (sp_X6_payOf G) (ix_aload 0 (ix_iload 2 (ix_vcall 6 2 0 0 mc ms (sp_X6_payOf G) (ix_isub (ix_istore 3 (ix_iload 3 (ix_if_lt ((B_X6_isCheaper_31 G mc ms Q)) (ix_iload 3 (ix_if_ne ((B_X6_isCheaper_35 G mc ms Q)) (ix_iload 1 (ix_call 1 0 0 mc ms (sp_J6_bitCount_0f7a4 G) (ix_iload 2 (ix_call 1 0 0 mc ms (sp_J6_bitCount_0f7a4 G) (ix_icmp_ge ((B_X6_isCheaper_35 G mc ms Q)) ((B_X6_isCheaper_31 G mc ms Q))))))))))))))))))
theorem b_X6_isCheaper_0 {l : Launch} {G : GT} {D mc ms : Nat} {Q : Post} : Imp l G M_X6_isCheaper (D + 1) mc ms Q (B_X6_isCheaper_0 G mc ms Q) 0 := sx_aload_n dX6_isCheaper_0 rfl (sx_iload_n dX6_isCheaper_1 rfl (sx_vcall dX6_isCheaper_2 cf_X6_payOf (mg_5 (List.mem_of_getElem? (i := 225) rfl) rfl) (mg_5 (List.mem_of_getElem? (i := 226) rfl) rfl) (mg_5 (List.mem_of_getElem? (i := 227) rfl) rfl) rfl c_X6_payOf (sx_aload_n dX6_isCheaper_5 rfl (sx_iload_n dX6_isCheaper_6 rfl (sx_vcall dX6_isCheaper_7 cf_X6_payOf (mg_5 (List.mem_of_getElem? (i := 225) rfl) rfl) (mg_5 (List.mem_of_getElem? (i := 226) rfl) rfl) (mg_5 (List.mem_of_getElem? (i := 227) rfl) rfl) rfl c_X6_payOf (sx_isub dX6_isCheaper_10 (sx_istore_n dX6_isCheaper_11 rfl (by decide) (sx_iload_n dX6_isCheaper_12 rfl (sx_if_lt 31 dX6_isCheaper_13 (by decide) (b_X6_isCheaper_31) (sx_iload_n dX6_isCheaper_16 rfl (sx_if_ne 35 dX6_isCheaper_17 (by decide) (b_X6_isCheaper_35) (sx_iload_n dX6_isCheaper_20 rfl (sx_scall dX6_isCheaper_21 cf_J6_bitCount_0f7a4 (mg_5 (List.mem_of_getElem? (i := 229) rfl) rfl) (mg_5 (List.mem_of_getElem? (i := 230) rfl) rfl) c_J6_bitCount_0f7a4 (sx_iload_n dX6_isCheaper_24 rfl (sx_scall dX6_isCheaper_25 cf_J6_bitCount_0f7a4 (mg_5 (List.mem_of_getElem? (i := 229) rfl) rfl) (mg_5 (List.mem_of_getElem? (i := 230) rfl) rfl) c_J6_bitCount_0f7a4 (sx_icmp_ge 35 dX6_isCheaper_28 (by decide) (b_X6_isCheaper_35) (b_X6_isCheaper_31)))))))))))))))))
def sp_X6_hearerSet (G : GT) : Sp := fun as S I J z Q => match as with
  | [.ref s, .int p] => stS S s ∧ vp_in p 8 ∧ okN (I s 6) 8 ∧ Q (some (.int (setU (fun i => ¬ i = p.toNatClampNeg ∧ 10 ≤ ldn (I (s + 24 + p.toNatClampNeg) 4) (I s 16) + I (s + 24 + i) 3) (I s 6).toNatClampNeg))) S I J z
  | _ => False
set_option maxHeartbeats 4000000 in
set_option maxRecDepth 20000 in
theorem c_X6_hearerSet {l : Launch} {G : GT} {D : Nat} : ∀ as S I J z Q, sp_X6_hearerSet G as S I J z Q → fqCall l G M_X6_hearerSet (D + 4) 0 0 as S I J z Q := by
  intro as S I J z Q h
  unfold sp_X6_hearerSet at h
  split at h
  · next s p =>
    obtain ⟨hs, hp, ho, hQ⟩ := h
    obtain ⟨p, hp9, rfl⟩ := vp_in_of hp (by decide)
    obtain ⟨c, hc, hc1, hc2⟩ := ho.ex
    rw [nI_clamp (by omega), hc2] at hQ
    have lp : ∀ (n i : Nat) (acc : Int32), i + n = c → Q (some (.int (foldU (fun i a => if ¬ i = p ∧ 10 ≤ ldn (I (s + 24 + p) 4) (I s 16) + I (s + 24 + i) 3 then a ||| 1 <<< (nI i &&& 31) else a) i n acc))) S I J z → fqAt l G M_X6_hearerSet (D + 4) 0 0 Q 4 [some (.ref s), some (.int (nI p)), some (.int acc), some (.int (nI i))] [] S I J z 0 0 := by
      intro n
      induction n with
      | zero =>
        intro i acc hi hq
        refine b_X6_hearerSet_4 _ _ _ _ _ _ _ _ ?_
        simp (disch := omega) only [B_X6_hearerSet_0, B_X6_hearerSet_4, B_X6_hearerSet_40, sp_X6_loudnessOf, sp_X2_catches, hs.k, hs.r0, hs.k1, hs.r1, hs.k2, hs.r2, hs.k3, hs.r3, hs.k4, hs.r4, hs.k12, hs.n1, hs.n2, hs.n3, hs.y0, hs.k5, hs.n5, hs.y1, hs.k6, hs.n6, hs.y2, hs.k7, hs.n7, hs.y3, hs.k8, hs.n8, hs.y4, hs.k9, hs.n9, hs.y5, hs.k10, hs.n10, hs.y6, hs.k11, hs.n11, hs.p0, hs.p1, hs.p2, hs.k13, hs.n13, hs.q0, hs.q1, hs.k14, hs.k15, hs.k16, hs.n16, hs.k17, hs.n17, hs.rH, hs.kH, hs.rP, hs.kP, hs.rQ, hs.kQ, hs, hc1, nI_1, nI_add, nI_clamp, nI_pin, nI_neg, nI_nonneg, nI_leE, nI_ltE, nI_eqE, Nat.not_le, Nat.not_lt, fq_10, fq_01, fq_rr, ix_aald, ix_aast, ix_abs, ix_alen, ix_aload, ix_aret, ix_astore, ix_bald, ix_bast, ix_call, ix_cpyI, ix_cpyJ, ix_dead, ix_dup2, ix_dup2L, ix_dupI, ix_dupR, ix_dupx1, ix_getI, ix_getJ, ix_getR, ix_gfm, ix_gtab, ix_i2b, ix_i2c, ix_i2l, ix_i2s, ix_iadd, ix_iald, ix_iand, ix_iast, ix_icall, ix_icmp_eq, ix_icmp_ge, ix_icmp_gt, ix_icmp_le, ix_icmp_lt, ix_icmp_ne, ix_idiv, ix_if_eq, ix_if_ge, ix_if_gt, ix_if_le, ix_if_lt, ix_if_ne, ix_iinc, ix_iload, ix_imul, ix_ineg, ix_ior, ix_irem, ix_iret, ix_ishl, ix_ishr, ix_istore, ix_isub, ix_iushr, ix_ixor, ix_l2i, ix_ladd, ix_lald, ix_land, ix_last, ix_lcmp, ix_ldcS, ix_ldiv, ix_lload, ix_lmul, ix_lor, ix_lrem, ix_lret, ix_lshl, ix_lstore, ix_lsub, ix_lsw, ix_max, ix_min, ix_new, ix_newa, ix_nret, ix_oinit, ix_pop2L, ix_popI, ix_pushI, ix_pushL, ix_putI, ix_putJ, ix_putR, ix_putZ, ix_sbald, ix_sgetC, ix_sgetV, ix_slen, ix_strc, ix_tald, ix_tsw, ix_vcall, ix_vret, ix_zret, stL, stL2, kilL, popN, fq_sw, fq_lsw, List.map_cons, List.map_nil, List.getElem?_cons_zero, List.getElem?_cons_succ, Option.toList_some, Option.toList_none, List.cons_append, List.nil_append, List.length_cons, List.length_nil, List.sum_cons, List.sum_nil, cat_i, cat_l, cat_r, true_and, and_true, Nat.zero_add, Nat.add_zero, Nat.le_refl, Nat.zero_le, Nat.reduceAdd, Nat.reduceLeDiff, exists_eq_left', Option.some.injEq, not_true_eq_false, not_false_eq_true, false_implies, true_implies, implies_true, and_self, or_true, true_or, or_false, false_or]
        exact ⟨fun _ => hq, fun h => absurd h (by omega)⟩
      | succ n ih =>
        intro i acc hi hq
        refine b_X6_hearerSet_4 _ _ _ _ _ _ _ _ ?_
        simp (disch := omega) only [B_X6_hearerSet_0, B_X6_hearerSet_4, B_X6_hearerSet_40, sp_X6_loudnessOf, sp_X2_catches, hs.k, hs.r0, hs.k1, hs.r1, hs.k2, hs.r2, hs.k3, hs.r3, hs.k4, hs.r4, hs.k12, hs.n1, hs.n2, hs.n3, hs.y0, hs.k5, hs.n5, hs.y1, hs.k6, hs.n6, hs.y2, hs.k7, hs.n7, hs.y3, hs.k8, hs.n8, hs.y4, hs.k9, hs.n9, hs.y5, hs.k10, hs.n10, hs.y6, hs.k11, hs.n11, hs.p0, hs.p1, hs.p2, hs.k13, hs.n13, hs.q0, hs.q1, hs.k14, hs.k15, hs.k16, hs.n16, hs.k17, hs.n17, hs.rH, hs.kH, hs.rP, hs.kP, hs.rQ, hs.kQ, hs, hc1, bI_01, bI_01b, bI_0, nI_1, nI_add, nI_clamp, nI_pin, nI_neg, nI_nonneg, nI_leE, nI_ltE, nI_eqE, Nat.not_le, Nat.not_lt, fq_10, fq_01, fq_rr, ix_aald, ix_aast, ix_abs, ix_alen, ix_aload, ix_aret, ix_astore, ix_bald, ix_bast, ix_call, ix_cpyI, ix_cpyJ, ix_dead, ix_dup2, ix_dup2L, ix_dupI, ix_dupR, ix_dupx1, ix_getI, ix_getJ, ix_getR, ix_gfm, ix_gtab, ix_i2b, ix_i2c, ix_i2l, ix_i2s, ix_iadd, ix_iald, ix_iand, ix_iast, ix_icall, ix_icmp_eq, ix_icmp_ge, ix_icmp_gt, ix_icmp_le, ix_icmp_lt, ix_icmp_ne, ix_idiv, ix_if_eq, ix_if_ge, ix_if_gt, ix_if_le, ix_if_lt, ix_if_ne, ix_iinc, ix_iload, ix_imul, ix_ineg, ix_ior, ix_irem, ix_iret, ix_ishl, ix_ishr, ix_istore, ix_isub, ix_iushr, ix_ixor, ix_l2i, ix_ladd, ix_lald, ix_land, ix_last, ix_lcmp, ix_ldcS, ix_ldiv, ix_lload, ix_lmul, ix_lor, ix_lrem, ix_lret, ix_lshl, ix_lstore, ix_lsub, ix_lsw, ix_max, ix_min, ix_new, ix_newa, ix_nret, ix_oinit, ix_pop2L, ix_popI, ix_pushI, ix_pushL, ix_putI, ix_putJ, ix_putR, ix_putZ, ix_sbald, ix_sgetC, ix_sgetV, ix_slen, ix_strc, ix_tald, ix_tsw, ix_vcall, ix_vret, ix_zret, stL, stL2, kilL, popN, fq_sw, fq_lsw, List.map_cons, List.map_nil, List.getElem?_cons_zero, List.getElem?_cons_succ, Option.toList_some, Option.toList_none, List.cons_append, List.nil_append, List.length_cons, List.length_nil, List.sum_cons, List.sum_nil, cat_i, cat_l, cat_r, true_and, and_true, Nat.zero_add, Nat.add_zero, Nat.le_refl, Nat.zero_le, Nat.reduceAdd, Nat.reduceLeDiff, exists_eq_left', Option.some.injEq, not_true_eq_false, not_false_eq_true, false_implies, true_implies, implies_true, and_self, or_true, true_or, or_false, false_or]
        rw [foldU_1] at hq
        refine ⟨fun h => absurd h (by omega), fun _ => ⟨fun h => ih (i + 1) _ (by omega) ?_, fun h => ⟨fun h2 => ih (i + 1) _ (by omega) ?_, fun h2 => ih (i + 1) _ (by omega) ?_⟩⟩⟩
        · rw [if_neg (fun q => q.1 h)] at hq
          exact hq
        · rw [if_neg (fun q => h2 q.2)] at hq
          exact hq
        · rw [if_pos ⟨h, Decidable.not_not.mp h2⟩] at hq
          exact hq
    refine fq_enter [some (.ref s), some (.int (nI p)), none, none] (by decide +kernel) (Nat.le_of_ble_eq_true rfl) rfl (b_X6_hearerSet_0 _ _ _ _ _ _ _ _ ?_)
    simp (disch := omega) only [B_X6_hearerSet_0, B_X6_hearerSet_4, B_X6_hearerSet_40, sp_X6_loudnessOf, sp_X2_catches, hs.k, hs.r0, hs.k1, hs.r1, hs.k2, hs.r2, hs.k3, hs.r3, hs.k4, hs.r4, hs.k12, hs.n1, hs.n2, hs.n3, hs.y0, hs.k5, hs.n5, hs.y1, hs.k6, hs.n6, hs.y2, hs.k7, hs.n7, hs.y3, hs.k8, hs.n8, hs.y4, hs.k9, hs.n9, hs.y5, hs.k10, hs.n10, hs.y6, hs.k11, hs.n11, hs.p0, hs.p1, hs.p2, hs.k13, hs.n13, hs.q0, hs.q1, hs.k14, hs.k15, hs.k16, hs.n16, hs.k17, hs.n17, hs.rH, hs.kH, hs.rP, hs.kP, hs.rQ, hs.kQ, nI_1, nI_add, nI_clamp, nI_pin, nI_neg, nI_nonneg, nI_leE, nI_ltE, nI_eqE, Nat.not_le, Nat.not_lt, fq_10, fq_01, fq_rr, ix_aald, ix_aast, ix_abs, ix_alen, ix_aload, ix_aret, ix_astore, ix_bald, ix_bast, ix_call, ix_cpyI, ix_cpyJ, ix_dead, ix_dup2, ix_dup2L, ix_dupI, ix_dupR, ix_dupx1, ix_getI, ix_getJ, ix_getR, ix_gfm, ix_gtab, ix_i2b, ix_i2c, ix_i2l, ix_i2s, ix_iadd, ix_iald, ix_iand, ix_iast, ix_icall, ix_icmp_eq, ix_icmp_ge, ix_icmp_gt, ix_icmp_le, ix_icmp_lt, ix_icmp_ne, ix_idiv, ix_if_eq, ix_if_ge, ix_if_gt, ix_if_le, ix_if_lt, ix_if_ne, ix_iinc, ix_iload, ix_imul, ix_ineg, ix_ior, ix_irem, ix_iret, ix_ishl, ix_ishr, ix_istore, ix_isub, ix_iushr, ix_ixor, ix_l2i, ix_ladd, ix_lald, ix_land, ix_last, ix_lcmp, ix_ldcS, ix_ldiv, ix_lload, ix_lmul, ix_lor, ix_lrem, ix_lret, ix_lshl, ix_lstore, ix_lsub, ix_lsw, ix_max, ix_min, ix_new, ix_newa, ix_nret, ix_oinit, ix_pop2L, ix_popI, ix_pushI, ix_pushL, ix_putI, ix_putJ, ix_putR, ix_putZ, ix_sbald, ix_sgetC, ix_sgetV, ix_slen, ix_strc, ix_tald, ix_tsw, ix_vcall, ix_vret, ix_zret, stL, stL2, kilL, popN, fq_sw, fq_lsw, List.map_cons, List.map_nil, List.getElem?_cons_zero, List.getElem?_cons_succ, Option.toList_some, Option.toList_none, List.cons_append, List.nil_append, List.length_cons, List.length_nil, List.sum_cons, List.sum_nil, cat_i, cat_l, cat_r, true_and, and_true, Nat.zero_add, Nat.add_zero, Nat.le_refl, Nat.zero_le, Nat.reduceAdd, Nat.reduceLeDiff, exists_eq_left', Option.some.injEq, not_true_eq_false, not_false_eq_true, false_implies, true_implies, implies_true, and_self, or_true, true_or, or_false, false_or]
    exact lp c 0 0 (by omega) hQ
  · exact h.elim
def sp_X6_wouldProvoke (G : GT) : Sp := fun as S I J z Q => match as with
  | [.ref s, .int a, .int b] => stS S s ∧ vp_in a 8 ∧ vp_in b 8 ∧ Q (some (.int (bI (¬ shW (I (s + 24 + a.toNatClampNeg) 1) (I (s + 24 + b.toNatClampNeg) 1) (I s 13) = -1 ∧ 10 ≤ ldn (I (s + 24 + a.toNatClampNeg) 4) (I s 16) + I (s + 24 + b.toNatClampNeg) 3 ∧ I (s + 24 + b.toNatClampNeg) 2 < I (s + 24 + b.toNatClampNeg) 6 + ldn (I (s + 24 + a.toNatClampNeg) 4) (I s 16))))) S I J z
  | _ => False
set_option maxHeartbeats 4000000 in
set_option maxRecDepth 20000 in
theorem c_X6_wouldProvoke {l : Launch} {G : GT} {D : Nat} : ∀ as S I J z Q, sp_X6_wouldProvoke G as S I J z Q → fqCall l G M_X6_wouldProvoke (D + 4) 0 0 as S I J z Q := by
  intro as S I J z Q h
  unfold sp_X6_wouldProvoke at h
  split at h
  · next s a b =>
    obtain ⟨hs, ha, hb, hQ⟩ := h
    obtain ⟨a, ha9, rfl⟩ := vp_in_of ha (by decide)
    obtain ⟨b, hb9, rfl⟩ := vp_in_of hb (by decide)
    rw [nI_clamp (by omega), nI_clamp (by omega)] at hQ
    refine fq_enter [some (.ref s), some (.int (nI a)), some (.int (nI b))] (by decide +kernel) (Nat.le_of_ble_eq_true rfl) rfl (b_X6_wouldProvoke_0 _ _ _ _ _ _ _ _ ?_)
    simp (disch := omega) only [B_X6_wouldProvoke_0, B_X6_wouldProvoke_31, B_X6_wouldProvoke_32, sp_X6_sharedWall, sp_X6_loudnessOf, sp_X2_wouldShout, hs.k, hs.r0, hs.k1, hs.r1, hs.k2, hs.r2, hs.k3, hs.r3, hs.k4, hs.r4, hs.k12, hs.n1, hs.n2, hs.n3, hs.y0, hs.k5, hs.n5, hs.y1, hs.k6, hs.n6, hs.y2, hs.k7, hs.n7, hs.y3, hs.k8, hs.n8, hs.y4, hs.k9, hs.n9, hs.y5, hs.k10, hs.n10, hs.y6, hs.k11, hs.n11, hs.p0, hs.p1, hs.p2, hs.k13, hs.n13, hs.q0, hs.q1, hs.k14, hs.k15, hs.k16, hs.n16, hs.k17, hs.n17, hs.rH, hs.kH, hs.rP, hs.kP, hs.rQ, hs.kQ, hs, bI_01, bI_01b, bI_0, nI_1, nI_add, nI_clamp, nI_pin, nI_neg, nI_nonneg, nI_leE, nI_ltE, nI_eqE, Nat.not_le, Nat.not_lt, fq_10, fq_01, fq_rr, ix_aald, ix_aast, ix_abs, ix_alen, ix_aload, ix_aret, ix_astore, ix_bald, ix_bast, ix_call, ix_cpyI, ix_cpyJ, ix_dead, ix_dup2, ix_dup2L, ix_dupI, ix_dupR, ix_dupx1, ix_getI, ix_getJ, ix_getR, ix_gfm, ix_gtab, ix_i2b, ix_i2c, ix_i2l, ix_i2s, ix_iadd, ix_iald, ix_iand, ix_iast, ix_icall, ix_icmp_eq, ix_icmp_ge, ix_icmp_gt, ix_icmp_le, ix_icmp_lt, ix_icmp_ne, ix_idiv, ix_if_eq, ix_if_ge, ix_if_gt, ix_if_le, ix_if_lt, ix_if_ne, ix_iinc, ix_iload, ix_imul, ix_ineg, ix_ior, ix_irem, ix_iret, ix_ishl, ix_ishr, ix_istore, ix_isub, ix_iushr, ix_ixor, ix_l2i, ix_ladd, ix_lald, ix_land, ix_last, ix_lcmp, ix_ldcS, ix_ldiv, ix_lload, ix_lmul, ix_lor, ix_lrem, ix_lret, ix_lshl, ix_lstore, ix_lsub, ix_lsw, ix_max, ix_min, ix_new, ix_newa, ix_nret, ix_oinit, ix_pop2L, ix_popI, ix_pushI, ix_pushL, ix_putI, ix_putJ, ix_putR, ix_putZ, ix_sbald, ix_sgetC, ix_sgetV, ix_slen, ix_strc, ix_tald, ix_tsw, ix_vcall, ix_vret, ix_zret, stL, stL2, kilL, popN, fq_sw, fq_lsw, List.map_cons, List.map_nil, List.getElem?_cons_zero, List.getElem?_cons_succ, Option.toList_some, Option.toList_none, List.cons_append, List.nil_append, List.length_cons, List.length_nil, List.sum_cons, List.sum_nil, cat_i, cat_l, cat_r, true_and, and_true, Nat.zero_add, Nat.add_zero, Nat.le_refl, Nat.zero_le, Nat.reduceAdd, Nat.reduceLeDiff, exists_eq_left', Option.some.injEq, not_true_eq_false, not_false_eq_true, false_implies, true_implies, implies_true, and_self, or_true, true_or, or_false, false_or]
    refine ⟨fun g1 => ?_, fun g1 => ⟨fun g2 => ?_, fun g2 => ?_⟩⟩
    · rw [bI_f (fun q => q.1 g1)] at hQ
      exact hQ
    · rw [bI_f (fun q => g2 q.2)] at hQ
      exact hQ
    · rw [bI_t ⟨g1, Decidable.not_not.mp g2⟩] at hQ
      exact hQ
  · exact h.elim
/-- would one shout by those of a set, one behind the other -/
def wpt (ld ears : Nat → Int32) (er tm st : Int32) : Nat → Nat → Int32 → Bool
  | _, 0, _ => false
  | i, n + 1, a => if st >>> (nI i &&& 31) &&& 1 = 1 ∧ 10 ≤ ld i + er then (if tm < a + ld i then true else wpt ld ears er tm st (i + 1) n (a + ld i)) else wpt ld ears er tm st (i + 1) n a
def wptI (I : IH) (s p : Nat) (st : Int32) : Nat → Nat → Int32 → Bool := wpt (fun i => ldn (I (s + 24 + i) 4) (I s 16)) (fun _ => 0) (I (s + 24 + p) 3) (I (s + 24 + p) 2) st
def sp_X6_wouldProvokeTogether (G : GT) : Sp := fun as S I J z Q => match as with
  | [.ref s, .int st, .int p] => stS S s ∧ vp_in p 8 ∧ okN (I s 6) 8 ∧ Q (some (.int (bI (wptI I s p.toNatClampNeg st 0 (I s 6).toNatClampNeg (I (s + 24 + p.toNatClampNeg) 6) = true)))) S I J z
  | _ => False
set_option maxHeartbeats 4000000 in
set_option maxRecDepth 20000 in
theorem c_X6_wouldProvokeTogether {l : Launch} {G : GT} {D : Nat} : ∀ as S I J z Q, sp_X6_wouldProvokeTogether G as S I J z Q → fqCall l G M_X6_wouldProvokeTogether (D + 4) 0 0 as S I J z Q := by
  intro as S I J z Q h
  unfold sp_X6_wouldProvokeTogether at h
  split at h
  · next s st p =>
    obtain ⟨hs, hp, ho, hQ⟩ := h
    obtain ⟨p, hp9, rfl⟩ := vp_in_of hp (by decide)
    obtain ⟨c, hc, hc1, hc2⟩ := ho.ex
    rw [nI_clamp (by omega), hc2] at hQ
    have lp : ∀ (n i : Nat) (acc : Int32) (o : Option Value), i + n = c → Q (some (.int (bI (wptI I s p st i n acc = true)))) S I J z → fqAt l G M_X6_wouldProvokeTogether (D + 4) 0 0 Q 16 [some (.ref s), some (.int st), some (.int (nI p)), some (.ref (s + 24 + p)), some (.int acc), some (.int (nI i)), o] [] S I J z 0 0 := by
      intro n
      induction n with
      | zero =>
        intro i acc o hi hq
        refine b_X6_wouldProvokeTogether_16 _ _ _ _ _ _ _ _ ?_
        simp (disch := omega) only [B_X6_wouldProvokeTogether_0, B_X6_wouldProvokeTogether_16, B_X6_wouldProvokeTogether_70, sp_X6_loudnessOf, sp_X2_catches, hs.k, hs.r0, hs.k1, hs.r1, hs.k2, hs.r2, hs.k3, hs.r3, hs.k4, hs.r4, hs.k12, hs.n1, hs.n2, hs.n3, hs.y0, hs.k5, hs.n5, hs.y1, hs.k6, hs.n6, hs.y2, hs.k7, hs.n7, hs.y3, hs.k8, hs.n8, hs.y4, hs.k9, hs.n9, hs.y5, hs.k10, hs.n10, hs.y6, hs.k11, hs.n11, hs.p0, hs.p1, hs.p2, hs.k13, hs.n13, hs.q0, hs.q1, hs.k14, hs.k15, hs.k16, hs.n16, hs.k17, hs.n17, hs.rH, hs.kH, hs.rP, hs.kP, hs.rQ, hs.kQ, hs, hc1, nI_1, nI_add, nI_clamp, nI_pin, nI_neg, nI_nonneg, nI_leE, nI_ltE, nI_eqE, Nat.not_le, Nat.not_lt, fq_10, fq_01, fq_rr, ix_aald, ix_aast, ix_abs, ix_alen, ix_aload, ix_aret, ix_astore, ix_bald, ix_bast, ix_call, ix_cpyI, ix_cpyJ, ix_dead, ix_dup2, ix_dup2L, ix_dupI, ix_dupR, ix_dupx1, ix_getI, ix_getJ, ix_getR, ix_gfm, ix_gtab, ix_i2b, ix_i2c, ix_i2l, ix_i2s, ix_iadd, ix_iald, ix_iand, ix_iast, ix_icall, ix_icmp_eq, ix_icmp_ge, ix_icmp_gt, ix_icmp_le, ix_icmp_lt, ix_icmp_ne, ix_idiv, ix_if_eq, ix_if_ge, ix_if_gt, ix_if_le, ix_if_lt, ix_if_ne, ix_iinc, ix_iload, ix_imul, ix_ineg, ix_ior, ix_irem, ix_iret, ix_ishl, ix_ishr, ix_istore, ix_isub, ix_iushr, ix_ixor, ix_l2i, ix_ladd, ix_lald, ix_land, ix_last, ix_lcmp, ix_ldcS, ix_ldiv, ix_lload, ix_lmul, ix_lor, ix_lrem, ix_lret, ix_lshl, ix_lstore, ix_lsub, ix_lsw, ix_max, ix_min, ix_new, ix_newa, ix_nret, ix_oinit, ix_pop2L, ix_popI, ix_pushI, ix_pushL, ix_putI, ix_putJ, ix_putR, ix_putZ, ix_sbald, ix_sgetC, ix_sgetV, ix_slen, ix_strc, ix_tald, ix_tsw, ix_vcall, ix_vret, ix_zret, stL, stL2, kilL, popN, fq_sw, fq_lsw, List.map_cons, List.map_nil, List.getElem?_cons_zero, List.getElem?_cons_succ, Option.toList_some, Option.toList_none, List.cons_append, List.nil_append, List.length_cons, List.length_nil, List.sum_cons, List.sum_nil, cat_i, cat_l, cat_r, true_and, and_true, Nat.zero_add, Nat.add_zero, Nat.le_refl, Nat.zero_le, Nat.reduceAdd, Nat.reduceLeDiff, exists_eq_left', Option.some.injEq, not_true_eq_false, not_false_eq_true, false_implies, true_implies, implies_true, and_self, or_true, true_or, or_false, false_or]
        rw [bI_f (by simp [wptI, wpt])] at hq
        exact ⟨fun _ => hq, fun h => absurd h (by omega)⟩
      | succ n ih =>
        intro i acc o hi hq
        refine b_X6_wouldProvokeTogether_16 _ _ _ _ _ _ _ _ ?_
        simp (disch := omega) only [B_X6_wouldProvokeTogether_0, B_X6_wouldProvokeTogether_16, B_X6_wouldProvokeTogether_70, sp_X6_loudnessOf, sp_X2_catches, hs.k, hs.r0, hs.k1, hs.r1, hs.k2, hs.r2, hs.k3, hs.r3, hs.k4, hs.r4, hs.k12, hs.n1, hs.n2, hs.n3, hs.y0, hs.k5, hs.n5, hs.y1, hs.k6, hs.n6, hs.y2, hs.k7, hs.n7, hs.y3, hs.k8, hs.n8, hs.y4, hs.k9, hs.n9, hs.y5, hs.k10, hs.n10, hs.y6, hs.k11, hs.n11, hs.p0, hs.p1, hs.p2, hs.k13, hs.n13, hs.q0, hs.q1, hs.k14, hs.k15, hs.k16, hs.n16, hs.k17, hs.n17, hs.rH, hs.kH, hs.rP, hs.kP, hs.rQ, hs.kQ, hs, hc1, bI_01, bI_01b, bI_0, nI_1, nI_add, nI_clamp, nI_pin, nI_neg, nI_nonneg, nI_leE, nI_ltE, nI_eqE, Nat.not_le, Nat.not_lt, fq_10, fq_01, fq_rr, ix_aald, ix_aast, ix_abs, ix_alen, ix_aload, ix_aret, ix_astore, ix_bald, ix_bast, ix_call, ix_cpyI, ix_cpyJ, ix_dead, ix_dup2, ix_dup2L, ix_dupI, ix_dupR, ix_dupx1, ix_getI, ix_getJ, ix_getR, ix_gfm, ix_gtab, ix_i2b, ix_i2c, ix_i2l, ix_i2s, ix_iadd, ix_iald, ix_iand, ix_iast, ix_icall, ix_icmp_eq, ix_icmp_ge, ix_icmp_gt, ix_icmp_le, ix_icmp_lt, ix_icmp_ne, ix_idiv, ix_if_eq, ix_if_ge, ix_if_gt, ix_if_le, ix_if_lt, ix_if_ne, ix_iinc, ix_iload, ix_imul, ix_ineg, ix_ior, ix_irem, ix_iret, ix_ishl, ix_ishr, ix_istore, ix_isub, ix_iushr, ix_ixor, ix_l2i, ix_ladd, ix_lald, ix_land, ix_last, ix_lcmp, ix_ldcS, ix_ldiv, ix_lload, ix_lmul, ix_lor, ix_lrem, ix_lret, ix_lshl, ix_lstore, ix_lsub, ix_lsw, ix_max, ix_min, ix_new, ix_newa, ix_nret, ix_oinit, ix_pop2L, ix_popI, ix_pushI, ix_pushL, ix_putI, ix_putJ, ix_putR, ix_putZ, ix_sbald, ix_sgetC, ix_sgetV, ix_slen, ix_strc, ix_tald, ix_tsw, ix_vcall, ix_vret, ix_zret, stL, stL2, kilL, popN, fq_sw, fq_lsw, List.map_cons, List.map_nil, List.getElem?_cons_zero, List.getElem?_cons_succ, Option.toList_some, Option.toList_none, List.cons_append, List.nil_append, List.length_cons, List.length_nil, List.sum_cons, List.sum_nil, cat_i, cat_l, cat_r, true_and, and_true, Nat.zero_add, Nat.add_zero, Nat.le_refl, Nat.zero_le, Nat.reduceAdd, Nat.reduceLeDiff, exists_eq_left', Option.some.injEq, not_true_eq_false, not_false_eq_true, false_implies, true_implies, implies_true, and_self, or_true, true_or, or_false, false_or]
        have e0 : wptI I s p st i (n + 1) acc = if st >>> (nI i &&& 31) &&& 1 = 1 ∧ 10 ≤ ldn (I (s + 24 + i) 4) (I s 16) + I (s + 24 + p) 3 then (if I (s + 24 + p) 2 < acc + ldn (I (s + 24 + i) 4) (I s 16) then true else wptI I s p st (i + 1) n (acc + ldn (I (s + 24 + i) 4) (I s 16))) else wptI I s p st (i + 1) n acc := rfl
        rw [e0] at hq
        refine ⟨fun h => absurd h (by omega), fun _ => ⟨fun h => ih (i + 1) _ _ (by omega) ?_, fun h => ⟨fun h2 => ih (i + 1) _ _ (by omega) ?_, fun h2 => ⟨fun h3 => ih (i + 1) _ _ (by omega) ?_, fun h3 => ?_⟩⟩⟩⟩
        · rw [if_neg (fun q => h q.1)] at hq
          exact hq
        · rw [if_neg (fun q => h2 q.2)] at hq
          exact hq
        · rw [if_pos ⟨h, Decidable.not_not.mp h2⟩, if_neg (Int32.not_lt.mpr h3)] at hq
          exact hq
        · rw [if_pos ⟨h, Decidable.not_not.mp h2⟩, if_pos (Int32.not_le.mp h3), bI_t rfl] at hq
          exact hq
    refine fq_enter [some (.ref s), some (.int st), some (.int (nI p)), none, none, none, none] (by decide +kernel) (Nat.le_of_ble_eq_true rfl) rfl (b_X6_wouldProvokeTogether_0 _ _ _ _ _ _ _ _ ?_)
    simp (disch := omega) only [B_X6_wouldProvokeTogether_0, B_X6_wouldProvokeTogether_16, B_X6_wouldProvokeTogether_70, sp_X6_loudnessOf, sp_X2_catches, hs.k, hs.r0, hs.k1, hs.r1, hs.k2, hs.r2, hs.k3, hs.r3, hs.k4, hs.r4, hs.k12, hs.n1, hs.n2, hs.n3, hs.y0, hs.k5, hs.n5, hs.y1, hs.k6, hs.n6, hs.y2, hs.k7, hs.n7, hs.y3, hs.k8, hs.n8, hs.y4, hs.k9, hs.n9, hs.y5, hs.k10, hs.n10, hs.y6, hs.k11, hs.n11, hs.p0, hs.p1, hs.p2, hs.k13, hs.n13, hs.q0, hs.q1, hs.k14, hs.k15, hs.k16, hs.n16, hs.k17, hs.n17, hs.rH, hs.kH, hs.rP, hs.kP, hs.rQ, hs.kQ, nI_1, nI_add, nI_clamp, nI_pin, nI_neg, nI_nonneg, nI_leE, nI_ltE, nI_eqE, Nat.not_le, Nat.not_lt, fq_10, fq_01, fq_rr, ix_aald, ix_aast, ix_abs, ix_alen, ix_aload, ix_aret, ix_astore, ix_bald, ix_bast, ix_call, ix_cpyI, ix_cpyJ, ix_dead, ix_dup2, ix_dup2L, ix_dupI, ix_dupR, ix_dupx1, ix_getI, ix_getJ, ix_getR, ix_gfm, ix_gtab, ix_i2b, ix_i2c, ix_i2l, ix_i2s, ix_iadd, ix_iald, ix_iand, ix_iast, ix_icall, ix_icmp_eq, ix_icmp_ge, ix_icmp_gt, ix_icmp_le, ix_icmp_lt, ix_icmp_ne, ix_idiv, ix_if_eq, ix_if_ge, ix_if_gt, ix_if_le, ix_if_lt, ix_if_ne, ix_iinc, ix_iload, ix_imul, ix_ineg, ix_ior, ix_irem, ix_iret, ix_ishl, ix_ishr, ix_istore, ix_isub, ix_iushr, ix_ixor, ix_l2i, ix_ladd, ix_lald, ix_land, ix_last, ix_lcmp, ix_ldcS, ix_ldiv, ix_lload, ix_lmul, ix_lor, ix_lrem, ix_lret, ix_lshl, ix_lstore, ix_lsub, ix_lsw, ix_max, ix_min, ix_new, ix_newa, ix_nret, ix_oinit, ix_pop2L, ix_popI, ix_pushI, ix_pushL, ix_putI, ix_putJ, ix_putR, ix_putZ, ix_sbald, ix_sgetC, ix_sgetV, ix_slen, ix_strc, ix_tald, ix_tsw, ix_vcall, ix_vret, ix_zret, stL, stL2, kilL, popN, fq_sw, fq_lsw, List.map_cons, List.map_nil, List.getElem?_cons_zero, List.getElem?_cons_succ, Option.toList_some, Option.toList_none, List.cons_append, List.nil_append, List.length_cons, List.length_nil, List.sum_cons, List.sum_nil, cat_i, cat_l, cat_r, true_and, and_true, Nat.zero_add, Nat.add_zero, Nat.le_refl, Nat.zero_le, Nat.reduceAdd, Nat.reduceLeDiff, exists_eq_left', Option.some.injEq, not_true_eq_false, not_false_eq_true, false_implies, true_implies, implies_true, and_self, or_true, true_or, or_false, false_or]
    exact lp c 0 _ none (by omega) hQ
  · exact h.elim
/-- PAY of a set -/
def pyU (I : IH) (s c : Nat) (v : Int32) : Int32 := foldU (fun i a => if v >>> (nI i &&& 31) &&& 1 = 1 then a + I (s + 24 + i) 5 else a) 0 c 0
/-- how many bits: the library's own way -/
def bc1 (x : Int32) : Int32 := x - ((x.toUInt32 >>> ((1 : Int32).toUInt32 &&& Int32.toUInt32 31)).toInt32 &&& 1431655765)
def bc2 (x : Int32) : Int32 := (x &&& 858993459) + ((x.toUInt32 >>> ((2 : Int32).toUInt32 &&& Int32.toUInt32 31)).toInt32 &&& 858993459)
def bc3 (x : Int32) : Int32 := x + (x.toUInt32 >>> ((4 : Int32).toUInt32 &&& Int32.toUInt32 31)).toInt32 &&& 252645135
def bc4 (x : Int32) : Int32 := x + (x.toUInt32 >>> ((8 : Int32).toUInt32 &&& Int32.toUInt32 31)).toInt32
def bc5 (x : Int32) : Int32 := x + (x.toUInt32 >>> ((16 : Int32).toUInt32 &&& Int32.toUInt32 31)).toInt32
def bcx (x : Int32) : Int32 := bc5 (bc4 (bc3 (bc2 (bc1 x)))) &&& 63
def sp_X6_isCheaper (G : GT) : Sp := fun as S I J z Q => match as with
  | [.ref s, .int a, .int b] => stS S s ∧ okN (I s 6) 8 ∧ Q (some (.int (bI (pyU I s (I s 6).toNatClampNeg a - pyU I s (I s 6).toNatClampNeg b < 0 ∨ (pyU I s (I s 6).toNatClampNeg a - pyU I s (I s 6).toNatClampNeg b = 0 ∧ bcx a < bcx b))))) S I J z
  | _ => False
theorem bcx_sp {G : GT} {S : Sh} {I : IH} {J : JH} {z : Nat} {Q : Post} (a : Int32) : sp_J6_bitCount_0f7a4 G [.int a] S I J z Q = Q (some (.int (bcx a))) S I J z := by
  simp only [sp_J6_bitCount_0f7a4, B_J6_bitCount_0f7a4_0, ix_aald, ix_aast, ix_abs, ix_alen, ix_aload, ix_aret, ix_astore, ix_bald, ix_bast, ix_call, ix_cpyI, ix_cpyJ, ix_dead, ix_dup2, ix_dup2L, ix_dupI, ix_dupR, ix_dupx1, ix_getI, ix_getJ, ix_getR, ix_gfm, ix_gtab, ix_i2b, ix_i2c, ix_i2l, ix_i2s, ix_iadd, ix_iald, ix_iand, ix_iast, ix_icall, ix_icmp_eq, ix_icmp_ge, ix_icmp_gt, ix_icmp_le, ix_icmp_lt, ix_icmp_ne, ix_idiv, ix_if_eq, ix_if_ge, ix_if_gt, ix_if_le, ix_if_lt, ix_if_ne, ix_iinc, ix_iload, ix_imul, ix_ineg, ix_ior, ix_irem, ix_iret, ix_ishl, ix_ishr, ix_istore, ix_isub, ix_iushr, ix_ixor, ix_l2i, ix_ladd, ix_lald, ix_land, ix_last, ix_lcmp, ix_ldcS, ix_ldiv, ix_lload, ix_lmul, ix_lor, ix_lrem, ix_lret, ix_lshl, ix_lstore, ix_lsub, ix_lsw, ix_max, ix_min, ix_new, ix_newa, ix_nret, ix_oinit, ix_pop2L, ix_popI, ix_pushI, ix_pushL, ix_putI, ix_putJ, ix_putR, ix_putZ, ix_sbald, ix_sgetC, ix_sgetV, ix_slen, ix_strc, ix_tald, ix_tsw, ix_vcall, ix_vret, ix_zret, stL, stL2, kilL, popN, fq_sw, fq_lsw, List.map_cons, List.map_nil, List.getElem?_cons_zero, List.getElem?_cons_succ, Option.toList_some, Option.toList_none, List.cons_append, List.nil_append, List.length_cons, List.length_nil, List.sum_cons, List.sum_nil, cat_i, cat_l, cat_r, true_and, and_true, Nat.zero_add, Nat.add_zero, Nat.le_refl, Nat.zero_le, Nat.reduceAdd, Nat.reduceLeDiff, exists_eq_left', Option.some.injEq, not_true_eq_false, not_false_eq_true, false_implies, true_implies, implies_true, and_self, or_true, true_or, or_false, false_or]
  rfl
set_option maxHeartbeats 4000000 in
set_option maxRecDepth 20000 in
theorem c_X6_isCheaper {l : Launch} {G : GT} {D : Nat} : ∀ as S I J z Q, sp_X6_isCheaper G as S I J z Q → fqCall l G M_X6_isCheaper (D + 1) 0 0 as S I J z Q := by
  intro as S I J z Q h
  unfold sp_X6_isCheaper at h
  split at h
  · next s a b =>
    obtain ⟨hs, ho, hQ⟩ := h
    refine fq_enter [some (.ref s), some (.int a), some (.int b), none] (by decide +kernel) (Nat.le_of_ble_eq_true rfl) rfl (b_X6_isCheaper_0 _ _ _ _ _ _ _ _ ?_)
    simp (disch := omega) only [B_X6_isCheaper_0, B_X6_isCheaper_31, B_X6_isCheaper_35, B_X6_isCheaper_36, sp_X6_payOf, bcx_sp, hs.k, hs.r0, hs.k1, hs.r1, hs.k2, hs.r2, hs.k3, hs.r3, hs.k4, hs.r4, hs.k12, hs.n1, hs.n2, hs.n3, hs.y0, hs.k5, hs.n5, hs.y1, hs.k6, hs.n6, hs.y2, hs.k7, hs.n7, hs.y3, hs.k8, hs.n8, hs.y4, hs.k9, hs.n9, hs.y5, hs.k10, hs.n10, hs.y6, hs.k11, hs.n11, hs.p0, hs.p1, hs.p2, hs.k13, hs.n13, hs.q0, hs.q1, hs.k14, hs.k15, hs.k16, hs.n16, hs.k17, hs.n17, hs.rH, hs.kH, hs.rP, hs.kP, hs.rQ, hs.kQ, hs, ho, bI_01, bI_01b, bI_0, nI_1, nI_add, nI_clamp, nI_pin, nI_neg, nI_nonneg, nI_leE, nI_ltE, nI_eqE, Nat.not_le, Nat.not_lt, fq_10, fq_01, fq_rr, ix_aald, ix_aast, ix_abs, ix_alen, ix_aload, ix_aret, ix_astore, ix_bald, ix_bast, ix_call, ix_cpyI, ix_cpyJ, ix_dead, ix_dup2, ix_dup2L, ix_dupI, ix_dupR, ix_dupx1, ix_getI, ix_getJ, ix_getR, ix_gfm, ix_gtab, ix_i2b, ix_i2c, ix_i2l, ix_i2s, ix_iadd, ix_iald, ix_iand, ix_iast, ix_icall, ix_icmp_eq, ix_icmp_ge, ix_icmp_gt, ix_icmp_le, ix_icmp_lt, ix_icmp_ne, ix_idiv, ix_if_eq, ix_if_ge, ix_if_gt, ix_if_le, ix_if_lt, ix_if_ne, ix_iinc, ix_iload, ix_imul, ix_ineg, ix_ior, ix_irem, ix_iret, ix_ishl, ix_ishr, ix_istore, ix_isub, ix_iushr, ix_ixor, ix_l2i, ix_ladd, ix_lald, ix_land, ix_last, ix_lcmp, ix_ldcS, ix_ldiv, ix_lload, ix_lmul, ix_lor, ix_lrem, ix_lret, ix_lshl, ix_lstore, ix_lsub, ix_lsw, ix_max, ix_min, ix_new, ix_newa, ix_nret, ix_oinit, ix_pop2L, ix_popI, ix_pushI, ix_pushL, ix_putI, ix_putJ, ix_putR, ix_putZ, ix_sbald, ix_sgetC, ix_sgetV, ix_slen, ix_strc, ix_tald, ix_tsw, ix_vcall, ix_vret, ix_zret, stL, stL2, kilL, popN, fq_sw, fq_lsw, List.map_cons, List.map_nil, List.getElem?_cons_zero, List.getElem?_cons_succ, Option.toList_some, Option.toList_none, List.cons_append, List.nil_append, List.length_cons, List.length_nil, List.sum_cons, List.sum_nil, cat_i, cat_l, cat_r, true_and, and_true, Nat.zero_add, Nat.add_zero, Nat.le_refl, Nat.zero_le, Nat.reduceAdd, Nat.reduceLeDiff, exists_eq_left', Option.some.injEq, not_true_eq_false, not_false_eq_true, false_implies, true_implies, implies_true, and_self, or_true, true_or, or_false, false_or]
    unfold pyU at hQ
    refine ⟨fun g1 => ?_, fun g1 => ⟨fun g2 => ?_, fun g2 => ⟨fun g3 => ?_, fun g3 => ?_⟩⟩⟩
    · rw [bI_t (Or.inl g1)] at hQ
      exact hQ
    · rw [bI_f (fun q => q.elim g1 (fun q => g2 q.1))] at hQ
      exact hQ
    · rw [bI_f (fun q => q.elim g1 (fun q => Int32.not_lt.mpr g3 q.2))] at hQ
      exact hQ
    · rw [bI_t (Or.inr ⟨g2, Int32.not_le.mp g3⟩)] at hQ
      exact hQ
  · exact h.elim
theorem shl1 : ∀ i, i < 8 → (1 : Int32) <<< (nI i &&& 31) = nI (2 ^ i) := by decide +kernel
theorem or8 : ∀ a, a < 256 → ∀ i, i < 8 → nI a ||| nI (2 ^ i) = nI (a ||| 2 ^ i) := by decide +kernel
theorem setU_ex (p : Nat → Prop) [DecidablePred p] {n : Nat} (hn : n ≤ 8) : ∃ m, m < 2 ^ n ∧ setU p n = nI m := by
  have h := foldU_inv (f := fun i (a : Int32) => if p i then a ||| 1 <<< (nI i &&& 31) else a) (fun i a => ∃ m, m < 2 ^ i ∧ a = nI m) (n := n) (i := 0) (x := 0) ⟨0, by decide, rfl⟩ (by
    intro j y h1 h2 ⟨m, hm, hy⟩
    have hj : j < 8 := by omega
    have h2j : 2 ^ j ≤ 128 := by
      have : 2 ^ j ≤ 2 ^ 7 := Nat.pow_le_pow_right (by decide) (by omega)
      simpa using this
    have hlt : 2 ^ j < 2 ^ (j + 1) := Nat.pow_lt_pow_right (by decide) (by omega)
    show ∃ m, m < 2 ^ (j + 1) ∧ (if p j then y ||| 1 <<< (nI j &&& 31) else y) = nI m
    by_cases hp : p j
    · rw [if_pos hp, hy, shl1 j hj, or8 m (by omega) j hj]
      exact ⟨_, Nat.or_lt_two_pow (by omega) hlt, rfl⟩
    · rw [if_neg hp]
      exact ⟨m, by omega, hy⟩)
  rw [Nat.zero_add] at h
  exact h
theorem dX6_cheapestSet_0 : decode cX6_cheapestSet 0 = .ok (.aload_n 0, 1) := by decide +kernel
theorem dX6_cheapestSet_1 : decode cX6_cheapestSet 1 = .ok (.iload_n 1, 1) := by decide +kernel
theorem dX6_cheapestSet_2 : decode cX6_cheapestSet 2 = .ok (.invokevirtual 217, 3) := by decide +kernel
theorem dX6_cheapestSet_5 : decode cX6_cheapestSet 5 = .ok (.istore_n 2, 1) := by decide +kernel
theorem dX6_cheapestSet_6 : decode cX6_cheapestSet 6 = .ok (.iconst 0, 1) := by decide +kernel
theorem dX6_cheapestSet_7 : decode cX6_cheapestSet 7 = .ok (.istore_n 3, 1) := by decide +kernel
theorem dX6_cheapestSet_8 : decode cX6_cheapestSet 8 = .ok (.iconst 1, 1) := by decide +kernel
theorem dX6_cheapestSet_9 : decode cX6_cheapestSet 9 = .ok (.istore 4, 2) := by decide +kernel
theorem dX6_cheapestSet_11 : decode cX6_cheapestSet 11 = .ok (.iload 4, 2) := by decide +kernel
theorem dX6_cheapestSet_13 : decode cX6_cheapestSet 13 = .ok (.iload_n 2, 1) := by decide +kernel
theorem dX6_cheapestSet_14 : decode cX6_cheapestSet 14 = .ok (.if_icmp .gt 57, 3) := by decide +kernel
theorem dX6_cheapestSet_17 : decode cX6_cheapestSet 17 = .ok (.iload 4, 2) := by decide +kernel
theorem dX6_cheapestSet_19 : decode cX6_cheapestSet 19 = .ok (.iload_n 2, 1) := by decide +kernel
theorem dX6_cheapestSet_20 : decode cX6_cheapestSet 20 = .ok (.iconst (-1), 1) := by decide +kernel
theorem dX6_cheapestSet_21 : decode cX6_cheapestSet 21 = .ok (.ixor, 1) := by decide +kernel
theorem dX6_cheapestSet_22 : decode cX6_cheapestSet 22 = .ok (.iand, 1) := by decide +kernel
theorem dX6_cheapestSet_23 : decode cX6_cheapestSet 23 = .ok (.ifCond .ne 7, 3) := by decide +kernel
theorem dX6_cheapestSet_26 : decode cX6_cheapestSet 26 = .ok (.iconst 1, 1) := by decide +kernel
theorem dX6_cheapestSet_27 : decode cX6_cheapestSet 27 = .ok (.goto 4, 3) := by decide +kernel
theorem dX6_cheapestSet_30 : decode cX6_cheapestSet 30 = .ok (.iconst 0, 1) := by decide +kernel
theorem dX6_cheapestSet_31 : decode cX6_cheapestSet 31 = .ok (.istore 5, 2) := by decide +kernel
theorem dX6_cheapestSet_33 : decode cX6_cheapestSet 33 = .ok (.iload 5, 2) := by decide +kernel
theorem dX6_cheapestSet_35 : decode cX6_cheapestSet 35 = .ok (.ifCond .eq 30, 3) := by decide +kernel
theorem dX6_cheapestSet_38 : decode cX6_cheapestSet 38 = .ok (.aload_n 0, 1) := by decide +kernel
theorem dX6_cheapestSet_39 : decode cX6_cheapestSet 39 = .ok (.iload 4, 2) := by decide +kernel
theorem dX6_cheapestSet_41 : decode cX6_cheapestSet 41 = .ok (.iload_n 1, 1) := by decide +kernel
theorem dX6_cheapestSet_42 : decode cX6_cheapestSet 42 = .ok (.invokevirtual 220, 3) := by decide +kernel
theorem dX6_cheapestSet_45 : decode cX6_cheapestSet 45 = .ok (.ifCond .eq 20, 3) := by decide +kernel
theorem dX6_cheapestSet_48 : decode cX6_cheapestSet 48 = .ok (.iload_n 3, 1) := by decide +kernel
theorem dX6_cheapestSet_49 : decode cX6_cheapestSet 49 = .ok (.ifCond .eq 13, 3) := by decide +kernel
theorem dX6_cheapestSet_52 : decode cX6_cheapestSet 52 = .ok (.aload_n 0, 1) := by decide +kernel
theorem dX6_cheapestSet_53 : decode cX6_cheapestSet 53 = .ok (.iload 4, 2) := by decide +kernel
theorem dX6_cheapestSet_55 : decode cX6_cheapestSet 55 = .ok (.iload_n 3, 1) := by decide +kernel
theorem dX6_cheapestSet_56 : decode cX6_cheapestSet 56 = .ok (.invokevirtual 224, 3) := by decide +kernel
theorem dX6_cheapestSet_59 : decode cX6_cheapestSet 59 = .ok (.ifCond .eq 6, 3) := by decide +kernel
theorem dX6_cheapestSet_62 : decode cX6_cheapestSet 62 = .ok (.iload 4, 2) := by decide +kernel
theorem dX6_cheapestSet_64 : decode cX6_cheapestSet 64 = .ok (.istore_n 3, 1) := by decide +kernel
theorem dX6_cheapestSet_65 : decode cX6_cheapestSet 65 = .ok (.iinc 4 1, 3) := by decide +kernel
theorem dX6_cheapestSet_68 : decode cX6_cheapestSet 68 = .ok (.goto (-57), 3) := by decide +kernel
theorem dX6_cheapestSet_71 : decode cX6_cheapestSet 71 = .ok (.iload_n 3, 1) := by decide +kernel
theorem dX6_cheapestSet_72 : decode cX6_cheapestSet 72 = .ok (.ireturn, 1) := by decide +kernel
abbrev M_X6_cheapestSet : MT := (yX6_cheapestSet, cX6_cheapestSet, 6, (some .int))
theorem cf_X6_cheapestSet : fq_cf M_X6_cheapestSet 1 := ⟨(mg_1 (List.mem_of_getElem? (i := 8) rfl) rfl), (mg_5 (List.mem_of_getElem? (i := 215) rfl) rfl), ⟨by decide, by decide, by decide +kernel⟩, by decide⟩
def B_X6_cheapestSet_65 (l : Launch) (G : GT) (D mc ms : Nat) (Q : Post) : Cn := ix_iinc 4 1 (fqAt l G M_X6_cheapestSet (D + 5) mc ms Q 11)
theorem b_X6_cheapestSet_65 {l : Launch} {G : GT} {D mc ms : Nat} {Q : Post} : Imp l G M_X6_cheapestSet (D + 5) mc ms Q (B_X6_cheapestSet_65 l G D mc ms Q) 65 := sx_iinc dX6_cheapestSet_65 rfl (by decide) (sx_goto 11 dX6_cheapestSet_68 (by decide) ((fun _ _ _ _ _ _ _ _ h => h)))
def B_X6_cheapestSet_62 (l : Launch) (G : GT) (D mc ms : Nat) (Q : Post) : Cn := ix_iload 4 (ix_istore 3 ((B_X6_cheapestSet_65 l G D mc ms Q)))
theorem b_X6_cheapestSet_62 {l : Launch} {G : GT} {D mc ms : Nat} {Q : Post} : Imp l G M_X6_cheapestSet (D + 5) mc ms Q (B_X6_cheapestSet_62 l G D mc ms Q) 62 := sx_iload dX6_cheapestSet_62 (sx_istore_n dX6_cheapestSet_64 rfl (by decide) (b_X6_cheapestSet_65))
def B_X6_cheapestSet_31 (l : Launch) (G : GT) (D mc ms : Nat) (Q : Post) : Cn := ix_istore 5 (ix_iload 5 (ix_if_eq ((B_X6_cheapestSet_65 l G D mc ms Q)) (ix_aload 0 (ix_iload 4 (ix_iload 1 (ix_vcall 6 3 0 0 mc ms (sp_X6_wouldProvokeTogether G) (ix_if_eq ((B_X6_cheapestSet_65 l G D mc ms Q)) (ix_iload 3 (ix_if_eq ((B_X6_cheapestSet_62 l G D mc ms Q)) (ix_aload 0 (ix_iload 4 (ix_iload 3 (ix_vcall 6 3 0 0 mc ms (sp_X6_isCheaper G) (ix_if_eq ((B_X6_cheapestSet_65 l G D mc ms Q)) ((B_X6_cheapestSet_62 l G D mc ms Q))))))))))))))))
theorem b_X6_cheapestSet_31 {l : Launch} {G : GT} {D mc ms : Nat} {Q : Post} : Imp l G M_X6_cheapestSet (D + 5) mc ms Q (B_X6_cheapestSet_31 l G D mc ms Q) 31 := sx_istore dX6_cheapestSet_31 (by decide) (sx_iload dX6_cheapestSet_33 (sx_if_eq 65 dX6_cheapestSet_35 (by decide) (b_X6_cheapestSet_65) (sx_aload_n dX6_cheapestSet_38 rfl (sx_iload dX6_cheapestSet_39 (sx_iload_n dX6_cheapestSet_41 rfl (sx_vcall dX6_cheapestSet_42 cf_X6_wouldProvokeTogether (mg_5 (List.mem_of_getElem? (i := 217) rfl) rfl) (mg_5 (List.mem_of_getElem? (i := 219) rfl) rfl) (mg_p (List.mem_of_getElem? (i := 32) rfl) rfl) rfl c_X6_wouldProvokeTogether (sx_if_eq 65 dX6_cheapestSet_45 (by decide) (b_X6_cheapestSet_65) (sx_iload_n dX6_cheapestSet_48 rfl (sx_if_eq 62 dX6_cheapestSet_49 (by decide) (b_X6_cheapestSet_62) (sx_aload_n dX6_cheapestSet_52 rfl (sx_iload dX6_cheapestSet_53 (sx_iload_n dX6_cheapestSet_55 rfl (sx_vcall dX6_cheapestSet_56 cf_X6_isCheaper (mg_5 (List.mem_of_getElem? (i := 221) rfl) rfl) (mg_5 (List.mem_of_getElem? (i := 223) rfl) rfl) (mg_p (List.mem_of_getElem? (i := 33) rfl) rfl) rfl c_X6_isCheaper (sx_if_eq 65 dX6_cheapestSet_59 (by decide) (b_X6_cheapestSet_65) (b_X6_cheapestSet_62)))))))))))))))
def B_X6_cheapestSet_11 (l : Launch) (G : GT) (D mc ms : Nat) (Q : Post) : Cn := ix_iload 4 (ix_iload 2 (ix_icmp_gt (ix_iload 3 (ix_iret mc ms Q)) (ix_iload 4 (ix_iload 2 (ix_pushI (-1) (ix_ixor (ix_iand (ix_if_ne (ix_pushI 0 ((B_X6_cheapestSet_31 l G D mc ms Q))) (ix_pushI 1 ((B_X6_cheapestSet_31 l G D mc ms Q)))))))))))
theorem b_X6_cheapestSet_11 {l : Launch} {G : GT} {D mc ms : Nat} {Q : Post} : Imp l G M_X6_cheapestSet (D + 5) mc ms Q (B_X6_cheapestSet_11 l G D mc ms Q) 11 := sx_iload dX6_cheapestSet_11 (sx_iload_n dX6_cheapestSet_13 rfl (sx_icmp_gt 71 dX6_cheapestSet_14 (by decide) (sx_iload_n dX6_cheapestSet_71 rfl (sx_iret dX6_cheapestSet_72 rfl)) (sx_iload dX6_cheapestSet_17 (sx_iload_n dX6_cheapestSet_19 rfl (sx_iconst dX6_cheapestSet_20 rfl (sx_ixor dX6_cheapestSet_21 (sx_iand dX6_cheapestSet_22 (sx_if_ne 30 dX6_cheapestSet_23 (by decide) (sx_iconst dX6_cheapestSet_30 rfl (b_X6_cheapestSet_31)) (sx_iconst dX6_cheapestSet_26 rfl (sx_goto 31 dX6_cheapestSet_27 (by decide) (b_X6_cheapestSet_31)))))))))))
def B_X6_cheapestSet_0 (l : Launch) (G : GT) (D mc ms : Nat) (Q : Post) : Cn := ix_aload 0 (ix_iload 1 (ix_vcall 6 2 0 0 mc ms (sp_X6_neighbourSet G) (ix_istore 2 (ix_pushI 0 (ix_istore 3 (ix_pushI 1 (ix_istore 4 (fqAt l G M_X6_cheapestSet (D + 5) mc ms Q 11))))))))
theorem b_X6_cheapestSet_0 {l : Launch} {G : GT} {D mc ms : Nat} {Q : Post} : Imp l G M_X6_cheapestSet (D + 5) mc ms Q (B_X6_cheapestSet_0 l G D mc ms Q) 0 := sx_aload_n dX6_cheapestSet_0 rfl (sx_iload_n dX6_cheapestSet_1 rfl (sx_vcall dX6_cheapestSet_2 cf_X6_neighbourSet (mg_5 (List.mem_of_getElem? (i := 216) rfl) rfl) (mg_5 (List.mem_of_getElem? (i := 7) rfl) rfl) (mg_5 (List.mem_of_getElem? (i := 8) rfl) rfl) rfl c_X6_neighbourSet (sx_istore_n dX6_cheapestSet_5 rfl (by decide) (sx_iconst dX6_cheapestSet_6 rfl (sx_istore_n dX6_cheapestSet_7 rfl (by decide) (sx_iconst dX6_cheapestSet_8 rfl (sx_istore dX6_cheapestSet_9 (by decide) ((fun _ _ _ _ _ _ _ _ h => h)))))))))
/-- is a set dearer than another, or of more people -/
def chp (I : IH) (s c : Nat) (a b : Int32) : Prop := pyU I s c a - pyU I s c b < 0 ∨ (pyU I s c a - pyU I s c b = 0 ∧ bcx a < bcx b)
def nrS (I : IH) (s c p : Nat) : Int32 := setU (fun i => ¬ shW (I (s + 24 + p) 1) (I (s + 24 + i) 1) (I s 13) = -1) c
def chF (I : IH) (s c p : Nat) (k : Nat) (best : Int32) : Int32 := if nI k &&& (nrS I s c p ^^^ -1) = 0 ∧ wptI I s p (nI k) 0 c (I (s + 24 + p) 6) = true ∧ (best = 0 ∨ (pyU I s c (nI k) - pyU I s c best < 0 ∨ (pyU I s c (nI k) - pyU I s c best = 0 ∧ bcx (nI k) < bcx best))) then nI k else best
def chU (I : IH) (s c p : Nat) : Int32 := foldU (chF I s c p) 1 (nrS I s c p).toNatClampNeg 0
def sp_X6_cheapestSet (G : GT) : Sp := fun as S I J z Q => match as with
  | [.ref s, .int p] => stS S s ∧ vp_in p 8 ∧ okN (I s 6) 8 ∧ Q (some (.int (chU I s (I s 6).toNatClampNeg p.toNatClampNeg))) S I J z
  | _ => False
set_option maxHeartbeats 4000000 in
set_option maxRecDepth 20000 in
theorem c_X6_cheapestSet {l : Launch} {G : GT} {D : Nat} : ∀ as S I J z Q, sp_X6_cheapestSet G as S I J z Q → fqCall l G M_X6_cheapestSet (D + 5) 0 0 as S I J z Q := by
  intro as S I J z Q h
  unfold sp_X6_cheapestSet at h
  split at h
  · next s p =>
    obtain ⟨hs, hp, ho, hQ⟩ := h
    obtain ⟨p, hp9, rfl⟩ := vp_in_of hp (by decide)
    obtain ⟨c, hc, hc1, hc2⟩ := ho.ex
    rw [nI_clamp (by omega), hc2] at hQ
    obtain ⟨m, hm, hnr⟩ := setU_ex (fun i => ¬ shW (I (s + 24 + p) 1) (I (s + 24 + i) 1) (I s 13) = -1) hc
    have hm2 : m < 256 := by
      have : 2 ^ c ≤ 2 ^ 8 := Nat.pow_le_pow_right (by decide) hc
      omega
    have hnr2 : nrS I s c p = nI m := hnr
    have hQ2 : Q (some (.int (foldU (chF I s c p) 1 m 0))) S I J z := by
      have := hQ
      unfold chU at this
      rw [hnr2, nI_clamp (by omega)] at this
      exact this
    have lp : ∀ (n k : Nat) (best : Int32) (o : Option Value), k + n = m + 1 → Q (some (.int (foldU (chF I s c p) k n best))) S I J z → fqAt l G M_X6_cheapestSet (D + 5) 0 0 Q 11 [some (.ref s), some (.int (nI p)), some (.int (nI m)), some (.int best), some (.int (nI k)), o] [] S I J z 0 0 := by
      intro n
      induction n with
      | zero =>
        intro k best o hi hq
        refine b_X6_cheapestSet_11 _ _ _ _ _ _ _ _ ?_
        simp (disch := omega) only [B_X6_cheapestSet_0, B_X6_cheapestSet_11, B_X6_cheapestSet_31, B_X6_cheapestSet_62, B_X6_cheapestSet_65, sp_X6_neighbourSet, sp_X6_wouldProvokeTogether, sp_X6_isCheaper, hs.k, hs.r0, hs.k1, hs.r1, hs.k2, hs.r2, hs.k3, hs.r3, hs.k4, hs.r4, hs.k12, hs.n1, hs.n2, hs.n3, hs.y0, hs.k5, hs.n5, hs.y1, hs.k6, hs.n6, hs.y2, hs.k7, hs.n7, hs.y3, hs.k8, hs.n8, hs.y4, hs.k9, hs.n9, hs.y5, hs.k10, hs.n10, hs.y6, hs.k11, hs.n11, hs.p0, hs.p1, hs.p2, hs.k13, hs.n13, hs.q0, hs.q1, hs.k14, hs.k15, hs.k16, hs.n16, hs.k17, hs.n17, hs.rH, hs.kH, hs.rP, hs.kP, hs.rQ, hs.kQ, hs, ho, hc2, nI_1, nI_add, nI_clamp, nI_pin, nI_neg, nI_nonneg, nI_leE, nI_ltE, nI_eqE, Nat.not_le, Nat.not_lt, fq_10, fq_01, fq_rr, ix_aald, ix_aast, ix_abs, ix_alen, ix_aload, ix_aret, ix_astore, ix_bald, ix_bast, ix_call, ix_cpyI, ix_cpyJ, ix_dead, ix_dup2, ix_dup2L, ix_dupI, ix_dupR, ix_dupx1, ix_getI, ix_getJ, ix_getR, ix_gfm, ix_gtab, ix_i2b, ix_i2c, ix_i2l, ix_i2s, ix_iadd, ix_iald, ix_iand, ix_iast, ix_icall, ix_icmp_eq, ix_icmp_ge, ix_icmp_gt, ix_icmp_le, ix_icmp_lt, ix_icmp_ne, ix_idiv, ix_if_eq, ix_if_ge, ix_if_gt, ix_if_le, ix_if_lt, ix_if_ne, ix_iinc, ix_iload, ix_imul, ix_ineg, ix_ior, ix_irem, ix_iret, ix_ishl, ix_ishr, ix_istore, ix_isub, ix_iushr, ix_ixor, ix_l2i, ix_ladd, ix_lald, ix_land, ix_last, ix_lcmp, ix_ldcS, ix_ldiv, ix_lload, ix_lmul, ix_lor, ix_lrem, ix_lret, ix_lshl, ix_lstore, ix_lsub, ix_lsw, ix_max, ix_min, ix_new, ix_newa, ix_nret, ix_oinit, ix_pop2L, ix_popI, ix_pushI, ix_pushL, ix_putI, ix_putJ, ix_putR, ix_putZ, ix_sbald, ix_sgetC, ix_sgetV, ix_slen, ix_strc, ix_tald, ix_tsw, ix_vcall, ix_vret, ix_zret, stL, stL2, kilL, popN, fq_sw, fq_lsw, List.map_cons, List.map_nil, List.getElem?_cons_zero, List.getElem?_cons_succ, Option.toList_some, Option.toList_none, List.cons_append, List.nil_append, List.length_cons, List.length_nil, List.sum_cons, List.sum_nil, cat_i, cat_l, cat_r, true_and, and_true, Nat.zero_add, Nat.add_zero, Nat.le_refl, Nat.zero_le, Nat.reduceAdd, Nat.reduceLeDiff, exists_eq_left', Option.some.injEq, not_true_eq_false, not_false_eq_true, false_implies, true_implies, implies_true, and_self, or_true, true_or, or_false, false_or]
        exact ⟨fun _ => hq, fun h => absurd h (by omega)⟩
      | succ n ih =>
        intro k best o hi hq
        rw [foldU_1] at hq
        refine b_X6_cheapestSet_11 _ _ _ _ _ _ _ _ ?_
        simp (disch := omega) only [B_X6_cheapestSet_0, B_X6_cheapestSet_11, B_X6_cheapestSet_31, B_X6_cheapestSet_62, B_X6_cheapestSet_65, sp_X6_neighbourSet, sp_X6_wouldProvokeTogether, sp_X6_isCheaper, hs.k, hs.r0, hs.k1, hs.r1, hs.k2, hs.r2, hs.k3, hs.r3, hs.k4, hs.r4, hs.k12, hs.n1, hs.n2, hs.n3, hs.y0, hs.k5, hs.n5, hs.y1, hs.k6, hs.n6, hs.y2, hs.k7, hs.n7, hs.y3, hs.k8, hs.n8, hs.y4, hs.k9, hs.n9, hs.y5, hs.k10, hs.n10, hs.y6, hs.k11, hs.n11, hs.p0, hs.p1, hs.p2, hs.k13, hs.n13, hs.q0, hs.q1, hs.k14, hs.k15, hs.k16, hs.n16, hs.k17, hs.n17, hs.rH, hs.kH, hs.rP, hs.kP, hs.rQ, hs.kQ, hs, ho, hc2, bI_01, bI_01b, bI_0, nI_1, nI_add, nI_clamp, nI_pin, nI_neg, nI_nonneg, nI_leE, nI_ltE, nI_eqE, Nat.not_le, Nat.not_lt, fq_10, fq_01, fq_rr, ix_aald, ix_aast, ix_abs, ix_alen, ix_aload, ix_aret, ix_astore, ix_bald, ix_bast, ix_call, ix_cpyI, ix_cpyJ, ix_dead, ix_dup2, ix_dup2L, ix_dupI, ix_dupR, ix_dupx1, ix_getI, ix_getJ, ix_getR, ix_gfm, ix_gtab, ix_i2b, ix_i2c, ix_i2l, ix_i2s, ix_iadd, ix_iald, ix_iand, ix_iast, ix_icall, ix_icmp_eq, ix_icmp_ge, ix_icmp_gt, ix_icmp_le, ix_icmp_lt, ix_icmp_ne, ix_idiv, ix_if_eq, ix_if_ge, ix_if_gt, ix_if_le, ix_if_lt, ix_if_ne, ix_iinc, ix_iload, ix_imul, ix_ineg, ix_ior, ix_irem, ix_iret, ix_ishl, ix_ishr, ix_istore, ix_isub, ix_iushr, ix_ixor, ix_l2i, ix_ladd, ix_lald, ix_land, ix_last, ix_lcmp, ix_ldcS, ix_ldiv, ix_lload, ix_lmul, ix_lor, ix_lrem, ix_lret, ix_lshl, ix_lstore, ix_lsub, ix_lsw, ix_max, ix_min, ix_new, ix_newa, ix_nret, ix_oinit, ix_pop2L, ix_popI, ix_pushI, ix_pushL, ix_putI, ix_putJ, ix_putR, ix_putZ, ix_sbald, ix_sgetC, ix_sgetV, ix_slen, ix_strc, ix_tald, ix_tsw, ix_vcall, ix_vret, ix_zret, stL, stL2, kilL, popN, fq_sw, fq_lsw, List.map_cons, List.map_nil, List.getElem?_cons_zero, List.getElem?_cons_succ, Option.toList_some, Option.toList_none, List.cons_append, List.nil_append, List.length_cons, List.length_nil, List.sum_cons, List.sum_nil, cat_i, cat_l, cat_r, true_and, and_true, Nat.zero_add, Nat.add_zero, Nat.le_refl, Nat.zero_le, Nat.reduceAdd, Nat.reduceLeDiff, exists_eq_left', Option.some.injEq, not_true_eq_false, not_false_eq_true, false_implies, true_implies, implies_true, and_self, or_true, true_or, or_false, false_or]
        have eq1 : chF I s c p k best = if nI k &&& (nI m ^^^ -1) = 0 ∧ wptI I s p (nI k) 0 c (I (s + 24 + p) 6) = true ∧ (best = 0 ∨ (pyU I s c (nI k) - pyU I s c best < 0 ∨ (pyU I s c (nI k) - pyU I s c best = 0 ∧ bcx (nI k) < bcx best))) then nI k else best := by
          unfold chF
          rw [hnr2]
        rw [eq1] at hq
        refine ⟨fun h => absurd h (by omega), fun _ => ⟨fun h => ih (k + 1) _ _ (by omega) ?_, fun h => ⟨fun h2 => ih (k + 1) _ _ (by omega) ?_, fun h2 => ⟨fun h3 => ih (k + 1) _ _ (by omega) ?_, fun h3 => ⟨fun h4 => ih (k + 1) _ _ (by omega) ?_, fun h4 => ih (k + 1) _ _ (by omega) ?_⟩⟩⟩⟩⟩
        · rw [if_neg (fun q => h q.1)] at hq
          exact hq
        · rw [if_neg (fun q => h2 q.2.1)] at hq
          exact hq
        · rw [if_pos ⟨h, Decidable.not_not.mp h2, Or.inl h3⟩] at hq
          exact hq
        · rw [if_neg (fun q => q.2.2.elim h3 h4)] at hq
          exact hq
        · rw [if_pos ⟨h, Decidable.not_not.mp h2, Or.inr (Decidable.not_not.mp h4)⟩] at hq
          exact hq
    refine fq_enter [some (.ref s), some (.int (nI p)), none, none, none, none] (by decide +kernel) (Nat.le_of_ble_eq_true rfl) rfl (b_X6_cheapestSet_0 _ _ _ _ _ _ _ _ ?_)
    simp (disch := omega) only [B_X6_cheapestSet_0, B_X6_cheapestSet_11, B_X6_cheapestSet_31, B_X6_cheapestSet_62, B_X6_cheapestSet_65, sp_X6_neighbourSet, sp_X6_wouldProvokeTogether, sp_X6_isCheaper, hs.k, hs.r0, hs.k1, hs.r1, hs.k2, hs.r2, hs.k3, hs.r3, hs.k4, hs.r4, hs.k12, hs.n1, hs.n2, hs.n3, hs.y0, hs.k5, hs.n5, hs.y1, hs.k6, hs.n6, hs.y2, hs.k7, hs.n7, hs.y3, hs.k8, hs.n8, hs.y4, hs.k9, hs.n9, hs.y5, hs.k10, hs.n10, hs.y6, hs.k11, hs.n11, hs.p0, hs.p1, hs.p2, hs.k13, hs.n13, hs.q0, hs.q1, hs.k14, hs.k15, hs.k16, hs.n16, hs.k17, hs.n17, hs.rH, hs.kH, hs.rP, hs.kP, hs.rQ, hs.kQ, hs, ho, hc2, nI_1, nI_add, nI_clamp, nI_pin, nI_neg, nI_nonneg, nI_leE, nI_ltE, nI_eqE, Nat.not_le, Nat.not_lt, fq_10, fq_01, fq_rr, ix_aald, ix_aast, ix_abs, ix_alen, ix_aload, ix_aret, ix_astore, ix_bald, ix_bast, ix_call, ix_cpyI, ix_cpyJ, ix_dead, ix_dup2, ix_dup2L, ix_dupI, ix_dupR, ix_dupx1, ix_getI, ix_getJ, ix_getR, ix_gfm, ix_gtab, ix_i2b, ix_i2c, ix_i2l, ix_i2s, ix_iadd, ix_iald, ix_iand, ix_iast, ix_icall, ix_icmp_eq, ix_icmp_ge, ix_icmp_gt, ix_icmp_le, ix_icmp_lt, ix_icmp_ne, ix_idiv, ix_if_eq, ix_if_ge, ix_if_gt, ix_if_le, ix_if_lt, ix_if_ne, ix_iinc, ix_iload, ix_imul, ix_ineg, ix_ior, ix_irem, ix_iret, ix_ishl, ix_ishr, ix_istore, ix_isub, ix_iushr, ix_ixor, ix_l2i, ix_ladd, ix_lald, ix_land, ix_last, ix_lcmp, ix_ldcS, ix_ldiv, ix_lload, ix_lmul, ix_lor, ix_lrem, ix_lret, ix_lshl, ix_lstore, ix_lsub, ix_lsw, ix_max, ix_min, ix_new, ix_newa, ix_nret, ix_oinit, ix_pop2L, ix_popI, ix_pushI, ix_pushL, ix_putI, ix_putJ, ix_putR, ix_putZ, ix_sbald, ix_sgetC, ix_sgetV, ix_slen, ix_strc, ix_tald, ix_tsw, ix_vcall, ix_vret, ix_zret, stL, stL2, kilL, popN, fq_sw, fq_lsw, List.map_cons, List.map_nil, List.getElem?_cons_zero, List.getElem?_cons_succ, Option.toList_some, Option.toList_none, List.cons_append, List.nil_append, List.length_cons, List.length_nil, List.sum_cons, List.sum_nil, cat_i, cat_l, cat_r, true_and, and_true, Nat.zero_add, Nat.add_zero, Nat.le_refl, Nat.zero_le, Nat.reduceAdd, Nat.reduceLeDiff, exists_eq_left', Option.some.injEq, not_true_eq_false, not_false_eq_true, false_implies, true_implies, implies_true, and_self, or_true, true_or, or_false, false_or]
    rw [hnr]
    exact lp m 1 0 none (by omega) hQ2
  · exact h.elim
