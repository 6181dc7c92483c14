/-! a street's text: numbers, a house, a peace -/
theorem dX4_begin_0 : decode cX4_begin 0 = .ok (.aload_n 0, 1) := by decide +kernel
theorem dX4_begin_1 : decode cX4_begin 1 = .ok (.iload_n 1, 1) := by decide +kernel
theorem dX4_begin_2 : decode cX4_begin 2 = .ok (.aload_n 0, 1) := by decide +kernel
theorem dX4_begin_3 : decode cX4_begin 3 = .ok (.getfield 9, 3) := by decide +kernel
theorem dX4_begin_6 : decode cX4_begin 6 = .ok (.arraylength, 1) := by decide +kernel
theorem dX4_begin_7 : decode cX4_begin 7 = .ok (.invokestatic 35, 3) := by decide +kernel
theorem dX4_begin_10 : decode cX4_begin 10 = .ok (.putfield 41, 3) := by decide +kernel
theorem dX4_begin_13 : decode cX4_begin 13 = .ok (.aload_n 0, 1) := by decide +kernel
theorem dX4_begin_14 : decode cX4_begin 14 = .ok (.iconst 0, 1) := by decide +kernel
theorem dX4_begin_15 : decode cX4_begin 15 = .ok (.putfield 44, 3) := by decide +kernel
theorem dX4_begin_18 : decode cX4_begin 18 = .ok (.aload_n 0, 1) := by decide +kernel
theorem dX4_begin_19 : decode cX4_begin 19 = .ok (.iconst 0, 1) := by decide +kernel
theorem dX4_begin_20 : decode cX4_begin 20 = .ok (.putfield 47, 3) := by decide +kernel
theorem dX4_begin_23 : decode cX4_begin 23 = .ok (.aload_n 0, 1) := by decide +kernel
theorem dX4_begin_24 : decode cX4_begin 24 = .ok (.iconst (-1), 1) := by decide +kernel
theorem dX4_begin_25 : decode cX4_begin 25 = .ok (.putfield 50, 3) := by decide +kernel
theorem dX4_begin_28 : decode cX4_begin 28 = .ok (.aload_n 0, 1) := by decide +kernel
theorem dX4_begin_29 : decode cX4_begin 29 = .ok (.invokevirtual 53, 3) := by decide +kernel
theorem dX4_begin_32 : decode cX4_begin 32 = .ok (.return_, 1) := by decide +kernel
abbrev M_X4_begin : MT := (yX4_begin, cX4_begin, 2, none)
theorem cf_X4_begin : fq_cf M_X4_begin 1 := ⟨(mg_1 (List.mem_of_getElem? (i := 3) rfl) rfl), (mg_3 (List.mem_of_getElem? (i := 177) rfl) rfl), ⟨by decide, by decide, by decide +kernel⟩, by decide⟩
def B_X4_begin_0 (G : GT) (mc ms : Nat) (Q : Post) : Cn := ix_aload 0 (ix_iload 1 (ix_aload 0 (ix_getR 4 0 (ix_alen 13 (ix_min mc ms (ix_putI 4 2 (ix_aload 0 (ix_pushI 0 (ix_putI 4 3 (ix_aload 0 (ix_pushI 0 (ix_putI 4 10 (ix_aload 0 (ix_pushI (-1) (ix_putI 4 11 (ix_aload 0 (ix_vcall 4 1 0 0 mc ms (sp_X4_advance G) (ix_vret mc ms Q))))))))))))))))))
theorem b_X4_begin_0 {l : Launch} {G : GT} {D mc ms : Nat} {Q : Post} : Imp l G M_X4_begin (D + 3) mc ms Q (B_X4_begin_0 G mc ms Q) 0 := sx_aload_n dX4_begin_0 rfl (sx_iload_n dX4_begin_1 rfl (sx_aload_n dX4_begin_2 rfl (sx_getR dX4_begin_3 fl_FootQuarrel_Reader_9 (fun _ _ _ => rfl) (sx_alen dX4_begin_6 (by decide) (by decide) (sx_min dX4_begin_7 (mg_3 (List.mem_of_getElem? (i := 178) rfl) rfl) (mg_3 (List.mem_of_getElem? (i := 179) rfl) rfl) (mg_1 (List.mem_of_getElem? (i := 18) rfl) rfl) (mg_3 (List.mem_of_getElem? (i := 180) rfl) rfl) (sx_putI dX4_begin_10 fl_FootQuarrel_Reader_41 (by decide) (fun _ _ _ => rfl) (fun _ => ⟨rfl, rfl⟩) (sx_aload_n dX4_begin_13 rfl (sx_iconst dX4_begin_14 rfl (sx_putI dX4_begin_15 fl_FootQuarrel_Reader_44 (by decide) (fun _ _ _ => rfl) (fun _ => ⟨rfl, rfl⟩) (sx_aload_n dX4_begin_18 rfl (sx_iconst dX4_begin_19 rfl (sx_putI dX4_begin_20 fl_FootQuarrel_Reader_47 (by decide) (fun _ _ _ => rfl) (fun _ => ⟨rfl, rfl⟩) (sx_aload_n dX4_begin_23 rfl (sx_iconst dX4_begin_24 rfl (sx_putI dX4_begin_25 fl_FootQuarrel_Reader_50 (by decide) (fun _ _ _ => rfl) (fun _ => ⟨rfl, rfl⟩) (sx_aload_n dX4_begin_28 rfl (sx_vcall dX4_begin_29 cf_X4_advance (mg_3 (List.mem_of_getElem? (i := 181) rfl) rfl) (mg_3 (List.mem_of_getElem? (i := 182) rfl) rfl) (mg_3 (List.mem_of_getElem? (i := 183) rfl) rfl) rfl c_X4_advance (sx_vret dX4_begin_32 rfl))))))))))))))))))
def sp_X4_begin (G : GT) : Sp := fun as S I J z Q => match as with
  | [.ref a0, .int a1] => B_X4_begin_0 G 0 0 Q [some (.ref a0), some (.int a1)] [] S I J z 0 0
  | _ => False
theorem c_X4_begin {l : Launch} {G : GT} {D : Nat} : ∀ as S I J z Q, sp_X4_begin G as S I J z Q → fqCall l G M_X4_begin (D + 3) 0 0 as S I J z Q := by
  intro as S I J z Q h
  unfold sp_X4_begin at h
  split at h
  · exact fq_enter _ (by decide +kernel) (Nat.le_of_ble_eq_true rfl) rfl (b_X4_begin_0 _ _ _ _ _ _ _ _ h)
  · exact h.elim
theorem dX7_init_0 : decode cX7_init 0 = .ok (.aload_n 0, 1) := by decide +kernel
theorem dX7_init_1 : decode cX7_init 1 = .ok (.invokespecial 3, 3) := by decide +kernel
theorem dX7_init_4 : decode cX7_init 4 = .ok (.aload_n 0, 1) := by decide +kernel
theorem dX7_init_5 : decode cX7_init 5 = .ok (.aload_n 1, 1) := by decide +kernel
theorem dX7_init_6 : decode cX7_init 6 = .ok (.putfield 9, 3) := by decide +kernel
theorem dX7_init_9 : decode cX7_init 9 = .ok (.aload_n 0, 1) := by decide +kernel
theorem dX7_init_10 : decode cX7_init 10 = .ok (.aload_n 2, 1) := by decide +kernel
theorem dX7_init_11 : decode cX7_init 11 = .ok (.putfield 15, 3) := by decide +kernel
theorem dX7_init_14 : decode cX7_init 14 = .ok (.return_, 1) := by decide +kernel
abbrev M_X7_init : MT := (yX7_init, cX7_init, 3, none)
theorem cf_X7_init : fq_cf M_X7_init 2 := ⟨(mg_1 (List.mem_of_getElem? (i := 17) rfl) rfl), (mg_3 (List.mem_of_getElem? (i := 151) rfl) rfl), ⟨by decide, by decide, by decide +kernel⟩, by decide⟩
def B_X7_init_0 (G : GT) (mc ms : Nat) (Q : Post) : Cn := ix_aload 0 (ix_oinit (ix_aload 0 (ix_aload 1 (ix_putR 7 0 (ix_aload 0 (ix_aload 2 (ix_putR 7 1 (ix_vret mc ms Q))))))))
theorem b_X7_init_0 {l : Launch} {G : GT} {D mc ms : Nat} {Q : Post} : Imp l G M_X7_init (D + 1) mc ms Q (B_X7_init_0 G mc ms Q) 0 := sx_aload_n dX7_init_0 rfl (sx_oinit dX7_init_1 (mg_3 (List.mem_of_getElem? (i := 152) rfl) rfl) (mg_1 (List.mem_of_getElem? (i := 27) rfl) rfl) (mg_1 (List.mem_of_getElem? (i := 28) rfl) rfl) (sx_aload_n dX7_init_4 rfl (sx_aload_n dX7_init_5 rfl (sx_putR dX7_init_6 fl_FootQuarrel_StreetText_9 (fun _ => ⟨rfl, rfl⟩) (by decide) (fun _ _ _ => rfl) (fun _ => ⟨rfl, rfl⟩) (sx_aload_n dX7_init_9 rfl (sx_aload_n dX7_init_10 rfl (sx_putR dX7_init_11 fl_FootQuarrel_StreetText_15 (fun _ => ⟨rfl, rfl⟩) (by decide) (fun _ _ _ => rfl) (fun _ => ⟨rfl, rfl⟩) (sx_vret dX7_init_14 rfl))))))))
def sp_X7_init (G : GT) : Sp := fun as S I J z Q => match as with
  | [.ref a0, .ref a1, .ref a2] => B_X7_init_0 G 0 0 Q [some (.ref a0), some (.ref a1), some (.ref a2)] [] S I J z 0 0
  | _ => False
theorem c_X7_init {l : Launch} {G : GT} {D : Nat} : ∀ as S I J z Q, sp_X7_init G as S I J z Q → fqCall l G M_X7_init (D + 1) 0 0 as S I J z Q := by
  intro as S I J z Q h
  unfold sp_X7_init at h
  split at h
  · exact fq_enter _ (by decide +kernel) (Nat.le_of_ble_eq_true rfl) rfl (b_X7_init_0 _ _ _ _ _ _ _ _ h)
  · exact h.elim
theorem dX7_takeFoot_0 : decode cX7_takeFoot 0 = .ok (.aload_n 0, 1) := by decide +kernel
theorem dX7_takeFoot_1 : decode cX7_takeFoot 1 = .ok (.getfield 63, 3) := by decide +kernel
theorem dX7_takeFoot_4 : decode cX7_takeFoot 4 = .ok (.ifCond .eq 12, 3) := by decide +kernel
theorem dX7_takeFoot_7 : decode cX7_takeFoot 7 = .ok (.aload_n 0, 1) := by decide +kernel
theorem dX7_takeFoot_8 : decode cX7_takeFoot 8 = .ok (.getfield 9, 3) := by decide +kernel
theorem dX7_takeFoot_11 : decode cX7_takeFoot 11 = .ok (.iconst 5, 1) := by decide +kernel
theorem dX7_takeFoot_12 : decode cX7_takeFoot 12 = .ok (.invokevirtual 56, 3) := by decide +kernel
theorem dX7_takeFoot_15 : decode cX7_takeFoot 15 = .ok (.ireturn, 1) := by decide +kernel
theorem dX7_takeFoot_16 : decode cX7_takeFoot 16 = .ok (.aload_n 0, 1) := by decide +kernel
theorem dX7_takeFoot_17 : decode cX7_takeFoot 17 = .ok (.iconst 1, 1) := by decide +kernel
theorem dX7_takeFoot_18 : decode cX7_takeFoot 18 = .ok (.putfield 63, 3) := by decide +kernel
theorem dX7_takeFoot_21 : decode cX7_takeFoot 21 = .ok (.aload_n 0, 1) := by decide +kernel
theorem dX7_takeFoot_22 : decode cX7_takeFoot 22 = .ok (.getfield 9, 3) := by decide +kernel
theorem dX7_takeFoot_25 : decode cX7_takeFoot 25 = .ok (.invokevirtual 67, 3) := by decide +kernel
theorem dX7_takeFoot_28 : decode cX7_takeFoot 28 = .ok (.aload_n 0, 1) := by decide +kernel
theorem dX7_takeFoot_29 : decode cX7_takeFoot 29 = .ok (.getfield 15, 3) := by decide +kernel
theorem dX7_takeFoot_32 : decode cX7_takeFoot 32 = .ok (.aload_n 0, 1) := by decide +kernel
theorem dX7_takeFoot_33 : decode cX7_takeFoot 33 = .ok (.getfield 9, 3) := by decide +kernel
theorem dX7_takeFoot_36 : decode cX7_takeFoot 36 = .ok (.iconst 1, 1) := by decide +kernel
theorem dX7_takeFoot_37 : decode cX7_takeFoot 37 = .ok (.bipush 9, 2) := by decide +kernel
theorem dX7_takeFoot_39 : decode cX7_takeFoot 39 = .ok (.invokevirtual 70, 3) := by decide +kernel
theorem dX7_takeFoot_42 : decode cX7_takeFoot 42 = .ok (.putfield 74, 3) := by decide +kernel
theorem dX7_takeFoot_45 : decode cX7_takeFoot 45 = .ok (.aload_n 0, 1) := by decide +kernel
theorem dX7_takeFoot_46 : decode cX7_takeFoot 46 = .ok (.getfield 15, 3) := by decide +kernel
theorem dX7_takeFoot_49 : decode cX7_takeFoot 49 = .ok (.getfield 74, 3) := by decide +kernel
theorem dX7_takeFoot_52 : decode cX7_takeFoot 52 = .ok (.iconst (-1), 1) := by decide +kernel
theorem dX7_takeFoot_53 : decode cX7_takeFoot 53 = .ok (.if_icmp .eq 7, 3) := by decide +kernel
theorem dX7_takeFoot_56 : decode cX7_takeFoot 56 = .ok (.iconst 1, 1) := by decide +kernel
theorem dX7_takeFoot_57 : decode cX7_takeFoot 57 = .ok (.goto 4, 3) := by decide +kernel
theorem dX7_takeFoot_60 : decode cX7_takeFoot 60 = .ok (.iconst 0, 1) := by decide +kernel
theorem dX7_takeFoot_61 : decode cX7_takeFoot 61 = .ok (.ireturn, 1) := by decide +kernel
abbrev M_X7_takeFoot : MT := (yX7_takeFoot, cX7_takeFoot, 1, (some .boolean))
theorem cf_X7_takeFoot : fq_cf M_X7_takeFoot 0 := ⟨(mg_1 (List.mem_of_getElem? (i := 17) rfl) rfl), (mg_3 (List.mem_of_getElem? (i := 215) rfl) rfl), ⟨by decide, by decide, by decide +kernel⟩, by decide⟩
def B_X7_takeFoot_61 (G : GT) (mc ms : Nat) (Q : Post) : Cn := ix_zret mc ms Q
theorem b_X7_takeFoot_61 {l : Launch} {G : GT} {D mc ms : Nat} {Q : Post} : Imp l G M_X7_takeFoot (D + 4) mc ms Q (B_X7_takeFoot_61 G mc ms Q) 61 := sx_zret dX7_takeFoot_61 rfl
def B_X7_takeFoot_0 (G : GT) (mc ms : Nat) (Q : Post) : Cn := ix_aload 0 (ix_getI 7 2 (ix_if_eq (ix_aload 0 (ix_pushI 1 (ix_putZ 7 2 (ix_aload 0 (ix_getR 7 0 (ix_vcall 4 1 0 0 mc ms (sp_X4_advance G) (ix_aload 0 (ix_getR 7 1 (ix_aload 0 (ix_getR 7 0 (ix_pushI 1 (ix_pushI 9 (ix_vcall 4 3 0 0 mc ms (sp_X4_takeNumber G) (ix_putI 6 9 (ix_aload 0 (ix_getR 7 1 (ix_getI 6 9 (ix_pushI (-1) (ix_icmp_eq (ix_pushI 0 ((B_X7_takeFoot_61 G mc ms Q))) (ix_pushI 1 ((B_X7_takeFoot_61 G mc ms Q)))))))))))))))))))))) (ix_aload 0 (ix_getR 7 0 (ix_pushI 5 (ix_vcall 4 2 0 0 mc ms (sp_X4_reject G) (ix_zret mc ms Q)))))))
theorem b_X7_takeFoot_0 {l : Launch} {G : GT} {D mc ms : Nat} {Q : Post} : Imp l G M_X7_takeFoot (D + 4) mc ms Q (B_X7_takeFoot_0 G mc ms Q) 0 := sx_aload_n dX7_takeFoot_0 rfl (sx_getI dX7_takeFoot_1 fl_FootQuarrel_StreetText_63 (fun _ _ _ => rfl) (sx_if_eq 16 dX7_takeFoot_4 (by decide) (sx_aload_n dX7_takeFoot_16 rfl (sx_iconst dX7_takeFoot_17 rfl (sx_putZ dX7_takeFoot_18 fl_FootQuarrel_StreetText_63 (by decide) (fun _ _ _ => rfl) (fun v h => by rcases h with h | h <;> subst h <;> exact ⟨rfl, rfl⟩) (sx_aload_n dX7_takeFoot_21 rfl (sx_getR dX7_takeFoot_22 fl_FootQuarrel_StreetText_9 (fun _ _ _ => rfl) (sx_vcall dX7_takeFoot_25 cf_X4_advance (mg_3 (List.mem_of_getElem? (i := 220) rfl) rfl) (mg_3 (List.mem_of_getElem? (i := 182) rfl) rfl) (mg_3 (List.mem_of_getElem? (i := 183) rfl) rfl) rfl c_X4_advance (sx_aload_n dX7_takeFoot_28 rfl (sx_getR dX7_takeFoot_29 fl_FootQuarrel_StreetText_15 (fun _ _ _ => rfl) (sx_aload_n dX7_takeFoot_32 rfl (sx_getR dX7_takeFoot_33 fl_FootQuarrel_StreetText_9 (fun _ _ _ => rfl) (sx_iconst dX7_takeFoot_36 rfl (sx_bipush dX7_takeFoot_37 rfl (sx_vcall dX7_takeFoot_39 cf_X4_takeNumber (mg_3 (List.mem_of_getElem? (i := 221) rfl) rfl) (mg_3 (List.mem_of_getElem? (i := 222) rfl) rfl) (mg_3 (List.mem_of_getElem? (i := 223) rfl) rfl) rfl c_X4_takeNumber (sx_putI dX7_takeFoot_42 fl_FootQuarrel_StreetText_74 (by decide) (fun _ _ _ => rfl) (fun _ => ⟨rfl, rfl⟩) (sx_aload_n dX7_takeFoot_45 rfl (sx_getR dX7_takeFoot_46 fl_FootQuarrel_StreetText_15 (fun _ _ _ => rfl) (sx_getI dX7_takeFoot_49 fl_FootQuarrel_StreetText_74 (fun _ _ _ => rfl) (sx_iconst dX7_takeFoot_52 rfl (sx_icmp_eq 60 dX7_takeFoot_53 (by decide) (sx_iconst dX7_takeFoot_60 rfl (b_X7_takeFoot_61)) (sx_iconst dX7_takeFoot_56 rfl (sx_goto 61 dX7_takeFoot_57 (by decide) (b_X7_takeFoot_61)))))))))))))))))))))) (sx_aload_n dX7_takeFoot_7 rfl (sx_getR dX7_takeFoot_8 fl_FootQuarrel_StreetText_9 (fun _ _ _ => rfl) (sx_iconst dX7_takeFoot_11 rfl (sx_vcall dX7_takeFoot_12 cf_X4_reject (mg_3 (List.mem_of_getElem? (i := 216) rfl) rfl) (mg_3 (List.mem_of_getElem? (i := 217) rfl) rfl) (mg_3 (List.mem_of_getElem? (i := 218) rfl) rfl) rfl c_X4_reject (sx_zret dX7_takeFoot_15 rfl)))))))
theorem dX7_takeCalm_0 : decode cX7_takeCalm 0 = .ok (.aload_n 0, 1) := by decide +kernel
theorem dX7_takeCalm_1 : decode cX7_takeCalm 1 = .ok (.getfield 77, 3) := by decide +kernel
theorem dX7_takeCalm_4 : decode cX7_takeCalm 4 = .ok (.ifCond .eq 12, 3) := by decide +kernel
theorem dX7_takeCalm_7 : decode cX7_takeCalm 7 = .ok (.aload_n 0, 1) := by decide +kernel
theorem dX7_takeCalm_8 : decode cX7_takeCalm 8 = .ok (.getfield 9, 3) := by decide +kernel
theorem dX7_takeCalm_11 : decode cX7_takeCalm 11 = .ok (.iconst 5, 1) := by decide +kernel
theorem dX7_takeCalm_12 : decode cX7_takeCalm 12 = .ok (.invokevirtual 56, 3) := by decide +kernel
theorem dX7_takeCalm_15 : decode cX7_takeCalm 15 = .ok (.ireturn, 1) := by decide +kernel
theorem dX7_takeCalm_16 : decode cX7_takeCalm 16 = .ok (.aload_n 0, 1) := by decide +kernel
theorem dX7_takeCalm_17 : decode cX7_takeCalm 17 = .ok (.iconst 1, 1) := by decide +kernel
theorem dX7_takeCalm_18 : decode cX7_takeCalm 18 = .ok (.putfield 77, 3) := by decide +kernel
theorem dX7_takeCalm_21 : decode cX7_takeCalm 21 = .ok (.aload_n 0, 1) := by decide +kernel
theorem dX7_takeCalm_22 : decode cX7_takeCalm 22 = .ok (.getfield 9, 3) := by decide +kernel
theorem dX7_takeCalm_25 : decode cX7_takeCalm 25 = .ok (.invokevirtual 67, 3) := by decide +kernel
theorem dX7_takeCalm_28 : decode cX7_takeCalm 28 = .ok (.aload_n 0, 1) := by decide +kernel
theorem dX7_takeCalm_29 : decode cX7_takeCalm 29 = .ok (.getfield 15, 3) := by decide +kernel
theorem dX7_takeCalm_32 : decode cX7_takeCalm 32 = .ok (.aload_n 0, 1) := by decide +kernel
theorem dX7_takeCalm_33 : decode cX7_takeCalm 33 = .ok (.getfield 9, 3) := by decide +kernel
theorem dX7_takeCalm_36 : decode cX7_takeCalm 36 = .ok (.iconst 0, 1) := by decide +kernel
theorem dX7_takeCalm_37 : decode cX7_takeCalm 37 = .ok (.bipush 9, 2) := by decide +kernel
theorem dX7_takeCalm_39 : decode cX7_takeCalm 39 = .ok (.invokevirtual 70, 3) := by decide +kernel
theorem dX7_takeCalm_42 : decode cX7_takeCalm 42 = .ok (.putfield 80, 3) := by decide +kernel
theorem dX7_takeCalm_45 : decode cX7_takeCalm 45 = .ok (.aload_n 0, 1) := by decide +kernel
theorem dX7_takeCalm_46 : decode cX7_takeCalm 46 = .ok (.getfield 15, 3) := by decide +kernel
theorem dX7_takeCalm_49 : decode cX7_takeCalm 49 = .ok (.getfield 80, 3) := by decide +kernel
theorem dX7_takeCalm_52 : decode cX7_takeCalm 52 = .ok (.iconst (-1), 1) := by decide +kernel
theorem dX7_takeCalm_53 : decode cX7_takeCalm 53 = .ok (.if_icmp .eq 7, 3) := by decide +kernel
theorem dX7_takeCalm_56 : decode cX7_takeCalm 56 = .ok (.iconst 1, 1) := by decide +kernel
theorem dX7_takeCalm_57 : decode cX7_takeCalm 57 = .ok (.goto 4, 3) := by decide +kernel
theorem dX7_takeCalm_60 : decode cX7_takeCalm 60 = .ok (.iconst 0, 1) := by decide +kernel
theorem dX7_takeCalm_61 : decode cX7_takeCalm 61 = .ok (.ireturn, 1) := by decide +kernel
abbrev M_X7_takeCalm : MT := (yX7_takeCalm, cX7_takeCalm, 1, (some .boolean))
theorem cf_X7_takeCalm : fq_cf M_X7_takeCalm 0 := ⟨(mg_1 (List.mem_of_getElem? (i := 17) rfl) rfl), (mg_3 (List.mem_of_getElem? (i := 230) rfl) rfl), ⟨by decide, by decide, by decide +kernel⟩, by decide⟩
def B_X7_takeCalm_61 (G : GT) (mc ms : Nat) (Q : Post) : Cn := ix_zret mc ms Q
theorem b_X7_takeCalm_61 {l : Launch} {G : GT} {D mc ms : Nat} {Q : Post} : Imp l G M_X7_takeCalm (D + 4) mc ms Q (B_X7_takeCalm_61 G mc ms Q) 61 := sx_zret dX7_takeCalm_61 rfl
def B_X7_takeCalm_0 (G : GT) (mc ms : Nat) (Q : Post) : Cn := ix_aload 0 (ix_getI 7 3 (ix_if_eq (ix_aload 0 (ix_pushI 1 (ix_putZ 7 3 (ix_aload 0 (ix_getR 7 0 (ix_vcall 4 1 0 0 mc ms (sp_X4_advance G) (ix_aload 0 (ix_getR 7 1 (ix_aload 0 (ix_getR 7 0 (ix_pushI 0 (ix_pushI 9 (ix_vcall 4 3 0 0 mc ms (sp_X4_takeNumber G) (ix_putI 6 10 (ix_aload 0 (ix_getR 7 1 (ix_getI 6 10 (ix_pushI (-1) (ix_icmp_eq (ix_pushI 0 ((B_X7_takeCalm_61 G mc ms Q))) (ix_pushI 1 ((B_X7_takeCalm_61 G mc ms Q)))))))))))))))))))))) (ix_aload 0 (ix_getR 7 0 (ix_pushI 5 (ix_vcall 4 2 0 0 mc ms (sp_X4_reject G) (ix_zret mc ms Q)))))))
theorem b_X7_takeCalm_0 {l : Launch} {G : GT} {D mc ms : Nat} {Q : Post} : Imp l G M_X7_takeCalm (D + 4) mc ms Q (B_X7_takeCalm_0 G mc ms Q) 0 := sx_aload_n dX7_takeCalm_0 rfl (sx_getI dX7_takeCalm_1 fl_FootQuarrel_StreetText_77 (fun _ _ _ => rfl) (sx_if_eq 16 dX7_takeCalm_4 (by decide) (sx_aload_n dX7_takeCalm_16 rfl (sx_iconst dX7_takeCalm_17 rfl (sx_putZ dX7_takeCalm_18 fl_FootQuarrel_StreetText_77 (by decide) (fun _ _ _ => rfl) (fun v h => by rcases h with h | h <;> subst h <;> exact ⟨rfl, rfl⟩) (sx_aload_n dX7_takeCalm_21 rfl (sx_getR dX7_takeCalm_22 fl_FootQuarrel_StreetText_9 (fun _ _ _ => rfl) (sx_vcall dX7_takeCalm_25 cf_X4_advance (mg_3 (List.mem_of_getElem? (i := 220) rfl) rfl) (mg_3 (List.mem_of_getElem? (i := 182) rfl) rfl) (mg_3 (List.mem_of_getElem? (i := 183) rfl) rfl) rfl c_X4_advance (sx_aload_n dX7_takeCalm_28 rfl (sx_getR dX7_takeCalm_29 fl_FootQuarrel_StreetText_15 (fun _ _ _ => rfl) (sx_aload_n dX7_takeCalm_32 rfl (sx_getR dX7_takeCalm_33 fl_FootQuarrel_StreetText_9 (fun _ _ _ => rfl) (sx_iconst dX7_takeCalm_36 rfl (sx_bipush dX7_takeCalm_37 rfl (sx_vcall dX7_takeCalm_39 cf_X4_takeNumber (mg_3 (List.mem_of_getElem? (i := 221) rfl) rfl) (mg_3 (List.mem_of_getElem? (i := 222) rfl) rfl) (mg_3 (List.mem_of_getElem? (i := 223) rfl) rfl) rfl c_X4_takeNumber (sx_putI dX7_takeCalm_42 fl_FootQuarrel_StreetText_80 (by decide) (fun _ _ _ => rfl) (fun _ => ⟨rfl, rfl⟩) (sx_aload_n dX7_takeCalm_45 rfl (sx_getR dX7_takeCalm_46 fl_FootQuarrel_StreetText_15 (fun _ _ _ => rfl) (sx_getI dX7_takeCalm_49 fl_FootQuarrel_StreetText_80 (fun _ _ _ => rfl) (sx_iconst dX7_takeCalm_52 rfl (sx_icmp_eq 60 dX7_takeCalm_53 (by decide) (sx_iconst dX7_takeCalm_60 rfl (b_X7_takeCalm_61)) (sx_iconst dX7_takeCalm_56 rfl (sx_goto 61 dX7_takeCalm_57 (by decide) (b_X7_takeCalm_61)))))))))))))))))))))) (sx_aload_n dX7_takeCalm_7 rfl (sx_getR dX7_takeCalm_8 fl_FootQuarrel_StreetText_9 (fun _ _ _ => rfl) (sx_iconst dX7_takeCalm_11 rfl (sx_vcall dX7_takeCalm_12 cf_X4_reject (mg_3 (List.mem_of_getElem? (i := 216) rfl) rfl) (mg_3 (List.mem_of_getElem? (i := 217) rfl) rfl) (mg_3 (List.mem_of_getElem? (i := 218) rfl) rfl) rfl c_X4_reject (sx_zret dX7_takeCalm_15 rfl)))))))
theorem dX7_takeOdds_0 : decode cX7_takeOdds 0 = .ok (.aload_n 0, 1) := by decide +kernel
theorem dX7_takeOdds_1 : decode cX7_takeOdds 1 = .ok (.getfield 83, 3) := by decide +kernel
theorem dX7_takeOdds_4 : decode cX7_takeOdds 4 = .ok (.ifCond .eq 12, 3) := by decide +kernel
theorem dX7_takeOdds_7 : decode cX7_takeOdds 7 = .ok (.aload_n 0, 1) := by decide +kernel
theorem dX7_takeOdds_8 : decode cX7_takeOdds 8 = .ok (.getfield 9, 3) := by decide +kernel
theorem dX7_takeOdds_11 : decode cX7_takeOdds 11 = .ok (.iconst 5, 1) := by decide +kernel
theorem dX7_takeOdds_12 : decode cX7_takeOdds 12 = .ok (.invokevirtual 56, 3) := by decide +kernel
theorem dX7_takeOdds_15 : decode cX7_takeOdds 15 = .ok (.ireturn, 1) := by decide +kernel
theorem dX7_takeOdds_16 : decode cX7_takeOdds 16 = .ok (.aload_n 0, 1) := by decide +kernel
theorem dX7_takeOdds_17 : decode cX7_takeOdds 17 = .ok (.iconst 1, 1) := by decide +kernel
theorem dX7_takeOdds_18 : decode cX7_takeOdds 18 = .ok (.putfield 83, 3) := by decide +kernel
theorem dX7_takeOdds_21 : decode cX7_takeOdds 21 = .ok (.aload_n 0, 1) := by decide +kernel
theorem dX7_takeOdds_22 : decode cX7_takeOdds 22 = .ok (.getfield 9, 3) := by decide +kernel
theorem dX7_takeOdds_25 : decode cX7_takeOdds 25 = .ok (.invokevirtual 67, 3) := by decide +kernel
theorem dX7_takeOdds_28 : decode cX7_takeOdds 28 = .ok (.aload_n 0, 1) := by decide +kernel
theorem dX7_takeOdds_29 : decode cX7_takeOdds 29 = .ok (.getfield 15, 3) := by decide +kernel
theorem dX7_takeOdds_32 : decode cX7_takeOdds 32 = .ok (.aload_n 0, 1) := by decide +kernel
theorem dX7_takeOdds_33 : decode cX7_takeOdds 33 = .ok (.getfield 9, 3) := by decide +kernel
theorem dX7_takeOdds_36 : decode cX7_takeOdds 36 = .ok (.iconst 0, 1) := by decide +kernel
theorem dX7_takeOdds_37 : decode cX7_takeOdds 37 = .ok (.bipush 16, 2) := by decide +kernel
theorem dX7_takeOdds_39 : decode cX7_takeOdds 39 = .ok (.invokevirtual 70, 3) := by decide +kernel
theorem dX7_takeOdds_42 : decode cX7_takeOdds 42 = .ok (.putfield 86, 3) := by decide +kernel
theorem dX7_takeOdds_45 : decode cX7_takeOdds 45 = .ok (.aload_n 0, 1) := by decide +kernel
theorem dX7_takeOdds_46 : decode cX7_takeOdds 46 = .ok (.getfield 15, 3) := by decide +kernel
theorem dX7_takeOdds_49 : decode cX7_takeOdds 49 = .ok (.getfield 86, 3) := by decide +kernel
theorem dX7_takeOdds_52 : decode cX7_takeOdds 52 = .ok (.iconst (-1), 1) := by decide +kernel
theorem dX7_takeOdds_53 : decode cX7_takeOdds 53 = .ok (.if_icmp .eq 7, 3) := by decide +kernel
theorem dX7_takeOdds_56 : decode cX7_takeOdds 56 = .ok (.iconst 1, 1) := by decide +kernel
theorem dX7_takeOdds_57 : decode cX7_takeOdds 57 = .ok (.goto 4, 3) := by decide +kernel
theorem dX7_takeOdds_60 : decode cX7_takeOdds 60 = .ok (.iconst 0, 1) := by decide +kernel
theorem dX7_takeOdds_61 : decode cX7_takeOdds 61 = .ok (.ireturn, 1) := by decide +kernel
abbrev M_X7_takeOdds : MT := (yX7_takeOdds, cX7_takeOdds, 1, (some .boolean))
theorem cf_X7_takeOdds : fq_cf M_X7_takeOdds 0 := ⟨(mg_1 (List.mem_of_getElem? (i := 17) rfl) rfl), (mg_3 (List.mem_of_getElem? (i := 234) rfl) rfl), ⟨by decide, by decide, by decide +kernel⟩, by decide⟩
def B_X7_takeOdds_61 (G : GT) (mc ms : Nat) (Q : Post) : Cn := ix_zret mc ms Q
theorem b_X7_takeOdds_61 {l : Launch} {G : GT} {D mc ms : Nat} {Q : Post} : Imp l G M_X7_takeOdds (D + 4) mc ms Q (B_X7_takeOdds_61 G mc ms Q) 61 := sx_zret dX7_takeOdds_61 rfl
def B_X7_takeOdds_0 (G : GT) (mc ms : Nat) (Q : Post) : Cn := ix_aload 0 (ix_getI 7 4 (ix_if_eq (ix_aload 0 (ix_pushI 1 (ix_putZ 7 4 (ix_aload 0 (ix_getR 7 0 (ix_vcall 4 1 0 0 mc ms (sp_X4_advance G) (ix_aload 0 (ix_getR 7 1 (ix_aload 0 (ix_getR 7 0 (ix_pushI 0 (ix_pushI 16 (ix_vcall 4 3 0 0 mc ms (sp_X4_takeNumber G) (ix_putI 6 11 (ix_aload 0 (ix_getR 7 1 (ix_getI 6 11 (ix_pushI (-1) (ix_icmp_eq (ix_pushI 0 ((B_X7_takeOdds_61 G mc ms Q))) (ix_pushI 1 ((B_X7_takeOdds_61 G mc ms Q)))))))))))))))))))))) (ix_aload 0 (ix_getR 7 0 (ix_pushI 5 (ix_vcall 4 2 0 0 mc ms (sp_X4_reject G) (ix_zret mc ms Q)))))))
theorem b_X7_takeOdds_0 {l : Launch} {G : GT} {D mc ms : Nat} {Q : Post} : Imp l G M_X7_takeOdds (D + 4) mc ms Q (B_X7_takeOdds_0 G mc ms Q) 0 := sx_aload_n dX7_takeOdds_0 rfl (sx_getI dX7_takeOdds_1 fl_FootQuarrel_StreetText_83 (fun _ _ _ => rfl) (sx_if_eq 16 dX7_takeOdds_4 (by decide) (sx_aload_n dX7_takeOdds_16 rfl (sx_iconst dX7_takeOdds_17 rfl (sx_putZ dX7_takeOdds_18 fl_FootQuarrel_StreetText_83 (by decide) (fun _ _ _ => rfl) (fun v h => by rcases h with h | h <;> subst h <;> exact ⟨rfl, rfl⟩) (sx_aload_n dX7_takeOdds_21 rfl (sx_getR dX7_takeOdds_22 fl_FootQuarrel_StreetText_9 (fun _ _ _ => rfl) (sx_vcall dX7_takeOdds_25 cf_X4_advance (mg_3 (List.mem_of_getElem? (i := 220) rfl) rfl) (mg_3 (List.mem_of_getElem? (i := 182) rfl) rfl) (mg_3 (List.mem_of_getElem? (i := 183) rfl) rfl) rfl c_X4_advance (sx_aload_n dX7_takeOdds_28 rfl (sx_getR dX7_takeOdds_29 fl_FootQuarrel_StreetText_15 (fun _ _ _ => rfl) (sx_aload_n dX7_takeOdds_32 rfl (sx_getR dX7_takeOdds_33 fl_FootQuarrel_StreetText_9 (fun _ _ _ => rfl) (sx_iconst dX7_takeOdds_36 rfl (sx_bipush dX7_takeOdds_37 rfl (sx_vcall dX7_takeOdds_39 cf_X4_takeNumber (mg_3 (List.mem_of_getElem? (i := 221) rfl) rfl) (mg_3 (List.mem_of_getElem? (i := 222) rfl) rfl) (mg_3 (List.mem_of_getElem? (i := 223) rfl) rfl) rfl c_X4_takeNumber (sx_putI dX7_takeOdds_42 fl_FootQuarrel_StreetText_86 (by decide) (fun _ _ _ => rfl) (fun _ => ⟨rfl, rfl⟩) (sx_aload_n dX7_takeOdds_45 rfl (sx_getR dX7_takeOdds_46 fl_FootQuarrel_StreetText_15 (fun _ _ _ => rfl) (sx_getI dX7_takeOdds_49 fl_FootQuarrel_StreetText_86 (fun _ _ _ => rfl) (sx_iconst dX7_takeOdds_52 rfl (sx_icmp_eq 60 dX7_takeOdds_53 (by decide) (sx_iconst dX7_takeOdds_60 rfl (b_X7_takeOdds_61)) (sx_iconst dX7_takeOdds_56 rfl (sx_goto 61 dX7_takeOdds_57 (by decide) (b_X7_takeOdds_61)))))))))))))))))))))) (sx_aload_n dX7_takeOdds_7 rfl (sx_getR dX7_takeOdds_8 fl_FootQuarrel_StreetText_9 (fun _ _ _ => rfl) (sx_iconst dX7_takeOdds_11 rfl (sx_vcall dX7_takeOdds_12 cf_X4_reject (mg_3 (List.mem_of_getElem? (i := 216) rfl) rfl) (mg_3 (List.mem_of_getElem? (i := 217) rfl) rfl) (mg_3 (List.mem_of_getElem? (i := 218) rfl) rfl) rfl c_X4_reject (sx_zret dX7_takeOdds_15 rfl)))))))
/-- foot, calm, odds: told once -/
theorem stH.num {X s n k j : Nat} {I : IH} {J : JH} {T : Nat → Int32} {σ : PSt} {v : Int32} (h : stH X s I J T n σ) (hs : X + 13 ≤ s) (hk : (k = 9 ∧ j = 3) ∨ (k = 10 ∧ j = 4) ∨ (k = 11 ∧ j = 5) ∨ (k = 13 ∧ j = 8)) : stH X s (u2 I s k v) J T n (uA σ.1 (2376 + j) v, σ.2.1, σ.2.2) := by
  obtain ⟨h1, h2, h3, h4, h5, h6, h7, h8⟩ := h
  have e1 : slN (uA σ.1 (2376 + j) v) = uA (slN σ.1) j v := by
    funext i
    unfold slN uA
    by_cases q : i = j
    · rw [if_pos q, if_pos (by omega)]
    · rw [if_neg q, if_neg (by omega)]
  have uo : ∀ i, i < 2379 ∨ 2385 ≤ i → uA σ.1 (2376 + j) v i = σ.1 i := fun i hi => uA_n _ _ _ _ (by omega)
  have r0 : ∀ a, a ≠ s → u2 I s k v a = I a := fun a ha => u2_ne ha
  refine ⟨?_, h2, ?_, ?_, ?_, ?_, ?_, ?_⟩
  · unfold rdH
    rw [r0 _ (by omega)]
    exact h1
  · dsimp only
    rw [e1]
    exact h3.sc k j v (by omega)
  · dsimp only
    rw [uo _ (by omega), uo _ (by omega)]
    exact h4
  · obtain ⟨z1, z2, z3, z4⟩ := h5
    refine ⟨(uo _ (by omega)).trans z1, (uo _ (by omega)).trans z2, fun h a b => ?_, fun p a b => ?_⟩
    · dsimp only at a ⊢
      rw [uo _ (by omega)] at a
      rw [uo _ (by omega)]
      exact z3 h a b
    · dsimp only at a ⊢
      rw [uo _ (by omega)] at a
      rw [uo _ (by omega), uo _ (by omega), uo _ (by omega)]
      exact z4 p a b
  · rw [r0 _ (by omega)]
    exact h6
  · rw [r0 _ (by omega)]
    exact h7
  · rw [r0 _ (by omega)]
    exact h8
/-- behind a part told once: what is told is kept -/
def CEN (X s t f : Nat) (I : IH) (J : JH) (T : Nat → Int32) (n : Nat) (x : PR) (Q1 Q0 : IH → JH → Prop) : Prop := match x with
  | .inl f => ∀ I' J', csF X s t I I' J J' → I' (X + 11) 10 = f.1 → I' (X + 11) 11 = nI f.2 → Q0 I' J'
  | .inr σ => ∀ I' J', csF X s t I I' J J' → stH X s I' J' T n σ → I' t f = 1 → (∀ k, k ≠ f → I' t k = I t k) → Q1 I' J'
theorem CEN.fl {X s t f : Nat} {I I1 : IH} {J J1 : JH} {T : Nat → Int32} {n e : Nat} {k : Int32} {Q1 Q0 : IH → JH → Prop} (h : CEN X s t f I J T n (pE T n k e) Q1 Q0) (hF : csF X s t I I1 J J1) : Q0 (rej I1 X T n e k) J1 := by
  refine h _ _ (hF.tr csF.rj) ?_ ?_
  · unfold rej
    rw [u2_ck _ _ _ _ _ _ (by omega), u2_same]
  · unfold rej
    rw [u2_same]
theorem CEN.fx {X s t f : Nat} {I I1 I2 : IH} {J J2 : JH} {T : Nat → Int32} {n e : Nat} {k : Int32} {Q1 Q0 : IH → JH → Prop} (h : CEN X s t f I J T n (pE T n k e) Q1 Q0) (hF : csF X s t I I2 J J2) (e2 : I2 (X + 11) = rej I1 X T n e k (X + 11)) : Q0 I2 J2 := by
  refine h _ _ hF ?_ ?_
  · rw [e2]
    unfold rej
    rw [u2_ck _ _ _ _ _ _ (by omega), u2_same]
  · rw [e2]
    unfold rej
    rw [u2_same]
theorem CES.fx {X s t : Nat} {I I1 I2 : IH} {J J2 : JH} {T : Nat → Int32} {n e : Nat} {k : Int32} {Q1 Q0 : IH → JH → Prop} (h : CES X s t I J T n (pE T n k e) Q1 Q0) (hF : csF X s t I I2 J J2) (e2 : I2 (X + 11) = rej I1 X T n e k (X + 11)) : Q0 I2 J2 := by
  refine h _ _ hF ?_ ?_
  · rw [e2]
    unfold rej
    rw [u2_ck _ _ _ _ _ _ (by omega), u2_same]
  · rw [e2]
    unfold rej
    rw [u2_same]
theorem rdH.fr {R : Nat} {I I' : IH} {J J' : JH} {T : Nat → Int32} {n e : Nat} (h : rdH R I J T n e) (h1 : I' R = I R) (h2 : J' R = J R) : rdH R I' J' T n e := by
  unfold rdH
  rw [h1, h2]
  exact h
theorem stH.fr {X s n : Nat} {I I' : IH} {J J' : JH} {T : Nat → Int32} {σ : PSt} (h : stH X s I J T n σ) (h1 : I' (X + 11) = I (X + 11)) (h2 : J' (X + 11) = J (X + 11)) (h3 : ∀ a, s ≤ a → a < s + 52 → I' a = I a) (h4 : ∀ a, s ≤ a → a < s + 52 → J' a = J a) : stH X s I' J' T n σ := by
  have c := h.c
  obtain ⟨a1, a2, a3, a4, a5, a6, a7, a8⟩ := h
  exact ⟨a1.fr h1 h2, a2, a3.mv (fun a x y _ => h3 a x y), a4.mv c.1.2 c.2.1.2 (fun a x y => by rw [h4 a (by omega) (by omega)]), a5, by rw [h3 _ (by omega) (by omega)]; exact a6, by rw [h1]; exact a7, by rw [h1]; exact a8⟩
theorem tV_nn {T : Nat → Int32} {n e : Nat} {lo hi : Int32} (h : lo ≤ tV T n e ∧ tV T n e ≤ hi) (h0 : 0 ≤ lo) : (tV T n e = -1) = False := eq_false (fun q => by
  rw [q] at h
  exact absurd (Int32.le_trans h0 h.1) (by decide))
def spNum (f k j : Nat) (lo hi : Int32) : Sp := fun as S I J z Q => match as with
  | [.ref a] => ∃ (X s t : Nat) (T : Nat → Int32) (n : Nat) (σ : PSt), t = a ∧ txS S X s t ∧ rdE S I J X T n ∧ stH X s I J T n σ ∧ ¬ tK T n σ.2.2 = 1 ∧ (¬ I t f = 0 → Q (some (.int 0)) S (rej I X T n σ.2.2 5) J z) ∧ (I t f = 0 → CEN X s t f I J T n (pNum T n (2376 + j) lo hi (σ.1, σ.2.1, tE T n σ.2.2)) (fun I' J' => Q (some (.int 1)) S I' J' z) (fun I' J' => Q (some (.int 0)) S I' J' z))
  | _ => False
def sp_X7_takeFoot (G : GT) : Sp := spNum 2 9 3 1 9
set_option maxHeartbeats 4000000 in
set_option maxRecDepth 20000 in
theorem c_X7_takeFoot {l : Launch} {G : GT} {D : Nat} : ∀ as S I J z Q, sp_X7_takeFoot G as S I J z Q → fqCall l G M_X7_takeFoot (D + 4) 0 0 as S I J z Q := by
  intro as S I J z Q h
  unfold sp_X7_takeFoot spNum at h
  split at h
  · next a =>
    obtain ⟨X, s, t, T, n, σ, rfl, hx, hE, hH, hk, h0, h1⟩ := h
    have hx0 := hx
    obtain ⟨x1, x2, x3, hs, l1, l2, l3⟩ := hx
    have s1 := hE.1.1
    refine fq_enter [some (.ref t)] (by decide +kernel) (Nat.le_of_ble_eq_true rfl) rfl (b_X7_takeFoot_0 _ _ _ _ _ _ _ _ ?_)
    simp (disch := omega) only [B_X7_takeFoot_0, B_X7_takeFoot_61, x1, x2, x3, s1, hs.k, hs.r0, hs.k1, hs.r1, hs.k2, hs.r2, hs.k3, hs.r3, hs.k4, hs.r4, hs.k12, hs.n1, hs.n2, hs.n3, hs.y0, hs.k5, hs.n5, hs.y1, hs.k6, hs.n6, hs.y2, hs.k7, hs.n7, hs.y3, hs.k8, hs.n8, hs.y4, hs.k9, hs.n9, hs.y5, hs.k10, hs.n10, hs.y6, hs.k11, hs.n11, hs.p0, hs.p1, hs.p2, hs.k13, hs.n13, hs.q0, hs.q1, hs.k14, hs.k15, hs.k16, hs.n16, hs.k17, hs.n17, hs.rH, hs.kH, hs.rP, hs.kP, hs.rQ, hs.kQ, nI_1, nI_add, nI_clamp, nI_pin, nI_neg, nI_nonneg, nI_leE, nI_ltE, nI_eqE, Nat.not_le, Nat.not_lt, fq_10, fq_01, fq_rr, ix_aald, ix_aast, ix_abs, ix_alen, ix_aload, ix_aret, ix_astore, ix_bald, ix_bast, ix_call, ix_cpyI, ix_cpyJ, ix_dead, ix_dup2, ix_dup2L, ix_dupI, ix_dupR, ix_dupx1, ix_getI, ix_getJ, ix_getR, ix_gfm, ix_gtab, ix_i2b, ix_i2c, ix_i2l, ix_i2s, ix_iadd, ix_iald, ix_iand, ix_iast, ix_icall, ix_icmp_eq, ix_icmp_ge, ix_icmp_gt, ix_icmp_le, ix_icmp_lt, ix_icmp_ne, ix_idiv, ix_if_eq, ix_if_ge, ix_if_gt, ix_if_le, ix_if_lt, ix_if_ne, ix_iinc, ix_iload, ix_imul, ix_ineg, ix_ior, ix_irem, ix_iret, ix_ishl, ix_ishr, ix_istore, ix_isub, ix_iushr, ix_ixor, ix_l2i, ix_ladd, ix_lald, ix_land, ix_last, ix_lcmp, ix_ldcS, ix_ldiv, ix_lload, ix_lmul, ix_lor, ix_lrem, ix_lret, ix_lshl, ix_lstore, ix_lsub, ix_lsw, ix_max, ix_min, ix_new, ix_newa, ix_nret, ix_oinit, ix_pop2L, ix_popI, ix_pushI, ix_pushL, ix_putI, ix_putJ, ix_putR, ix_putZ, ix_sbald, ix_sgetC, ix_sgetV, ix_slen, ix_strc, ix_tald, ix_tsw, ix_vcall, ix_vret, ix_zret, stL, stL2, kilL, popN, fq_sw, fq_lsw, List.map_cons, List.map_nil, List.getElem?_cons_zero, List.getElem?_cons_succ, Option.toList_some, Option.toList_none, List.cons_append, List.nil_append, List.length_cons, List.length_nil, List.sum_cons, List.sum_nil, cat_i, cat_l, cat_r, true_and, and_true, Nat.zero_add, Nat.add_zero, Nat.le_refl, Nat.zero_le, Nat.reduceAdd, Nat.reduceLeDiff, exists_eq_left', Option.some.injEq, not_true_eq_false, not_false_eq_true, false_implies, true_implies, implies_true, and_self, or_true, true_or, or_false, false_or]
    refine ⟨fun q => ?_, fun q => rej_R (hH.q hE) ⟨Or.inl rfl, h0 q⟩⟩
    have h1 := h1 q
    have r0 : ∀ a, a ≠ t → u2 I t 2 1 a = I a := fun a ha => u2_ne ha
    have F1 : csF X s t I (u2 I t 2 1) J J := ⟨fun a _ h2 _ => r0 a h2, fun _ _ _ => rfl⟩
    have H0 : stH X s (u2 I t 2 1) J T n σ := hH.fr (r0 _ (by omega)) rfl (fun a _ _ => r0 a (by omega)) (fun _ _ _ => rfl)
    have e1 := (tFE hH.2.1 (T := T)).2.2.2
    have e2 := (tFE e1 (T := T)).2.2.2
    refine adv_R (H0.q (hE.ct hx0 F1)) hk (fun I1 J1 hF1 hH1 => ?_)
    have F2 := F1.tr (csF.rd (s := s) (t := t) hF1)
    have t2 : I1 t = u2 I t 2 1 t := hF1.1 t (by omega)
    have G1 : stH X s I1 J1 T n (σ.1, σ.2.1, tE T n σ.2.2) := H0.rd l1 hF1 hH1 e1
    simp (disch := omega) only [x1, x2, x3, s1, hs.k, hs.r0, hs.k1, hs.r1, hs.k2, hs.r2, hs.k3, hs.r3, hs.k4, hs.r4, hs.k12, hs.n1, hs.n2, hs.n3, hs.y0, hs.k5, hs.n5, hs.y1, hs.k6, hs.n6, hs.y2, hs.k7, hs.n7, hs.y3, hs.k8, hs.n8, hs.y4, hs.k9, hs.n9, hs.y5, hs.k10, hs.n10, hs.y6, hs.k11, hs.n11, hs.p0, hs.p1, hs.p2, hs.k13, hs.n13, hs.q0, hs.q1, hs.k14, hs.k15, hs.k16, hs.n16, hs.k17, hs.n17, hs.rH, hs.kH, hs.rP, hs.kP, hs.rQ, hs.kQ, nI_1, nI_add, nI_clamp, nI_pin, nI_neg, nI_nonneg, nI_leE, nI_ltE, nI_eqE, Nat.not_le, Nat.not_lt, fq_10, fq_01, fq_rr, ix_aald, ix_aast, ix_abs, ix_alen, ix_aload, ix_aret, ix_astore, ix_bald, ix_bast, ix_call, ix_cpyI, ix_cpyJ, ix_dead, ix_dup2, ix_dup2L, ix_dupI, ix_dupR, ix_dupx1, ix_getI, ix_getJ, ix_getR, ix_gfm, ix_gtab, ix_i2b, ix_i2c, ix_i2l, ix_i2s, ix_iadd, ix_iald, ix_iand, ix_iast, ix_icall, ix_icmp_eq, ix_icmp_ge, ix_icmp_gt, ix_icmp_le, ix_icmp_lt, ix_icmp_ne, ix_idiv, ix_if_eq, ix_if_ge, ix_if_gt, ix_if_le, ix_if_lt, ix_if_ne, ix_iinc, ix_iload, ix_imul, ix_ineg, ix_ior, ix_irem, ix_iret, ix_ishl, ix_ishr, ix_istore, ix_isub, ix_iushr, ix_ixor, ix_l2i, ix_ladd, ix_lald, ix_land, ix_last, ix_lcmp, ix_ldcS, ix_ldiv, ix_lload, ix_lmul, ix_lor, ix_lrem, ix_lret, ix_lshl, ix_lstore, ix_lsub, ix_lsw, ix_max, ix_min, ix_new, ix_newa, ix_nret, ix_oinit, ix_pop2L, ix_popI, ix_pushI, ix_pushL, ix_putI, ix_putJ, ix_putR, ix_putZ, ix_sbald, ix_sgetC, ix_sgetV, ix_slen, ix_strc, ix_tald, ix_tsw, ix_vcall, ix_vret, ix_zret, stL, stL2, kilL, popN, fq_sw, fq_lsw, List.map_cons, List.map_nil, List.getElem?_cons_zero, List.getElem?_cons_succ, Option.toList_some, Option.toList_none, List.cons_append, List.nil_append, List.length_cons, List.length_nil, List.sum_cons, List.sum_nil, cat_i, cat_l, cat_r, true_and, and_true, Nat.zero_add, Nat.add_zero, Nat.le_refl, Nat.zero_le, Nat.reduceAdd, Nat.reduceLeDiff, exists_eq_left', Option.some.injEq, not_true_eq_false, not_false_eq_true, false_implies, true_implies, implies_true, and_self, or_true, true_or, or_false, false_or]
    unfold pNum at h1
    refine ⟨X, T, n, tE T n σ.2.2, rfl, G1.q (hE.ct hx0 F2), fun g => ?_, fun g1 g => ?_, fun g1 g I2 J2 hF2 hH2 => ?_⟩
    · rw [if_pos g] at h1
      simp (disch := omega) only [x1, x2, x3, s1, hs.k, hs.r0, hs.k1, hs.r1, hs.k2, hs.r2, hs.k3, hs.r3, hs.k4, hs.r4, hs.k12, hs.n1, hs.n2, hs.n3, hs.y0, hs.k5, hs.n5, hs.y1, hs.k6, hs.n6, hs.y2, hs.k7, hs.n7, hs.y3, hs.k8, hs.n8, hs.y4, hs.k9, hs.n9, hs.y5, hs.k10, hs.n10, hs.y6, hs.k11, hs.n11, hs.p0, hs.p1, hs.p2, hs.k13, hs.n13, hs.q0, hs.q1, hs.k14, hs.k15, hs.k16, hs.n16, hs.k17, hs.n17, hs.rH, hs.kH, hs.rP, hs.kP, hs.rQ, hs.kQ, u2_same, nI_1, nI_add, nI_clamp, nI_pin, nI_neg, nI_nonneg, nI_leE, nI_ltE, nI_eqE, Nat.not_le, Nat.not_lt, fq_10, fq_01, fq_rr, ix_aald, ix_aast, ix_abs, ix_alen, ix_aload, ix_aret, ix_astore, ix_bald, ix_bast, ix_call, ix_cpyI, ix_cpyJ, ix_dead, ix_dup2, ix_dup2L, ix_dupI, ix_dupR, ix_dupx1, ix_getI, ix_getJ, ix_getR, ix_gfm, ix_gtab, ix_i2b, ix_i2c, ix_i2l, ix_i2s, ix_iadd, ix_iald, ix_iand, ix_iast, ix_icall, ix_icmp_eq, ix_icmp_ge, ix_icmp_gt, ix_icmp_le, ix_icmp_lt, ix_icmp_ne, ix_idiv, ix_if_eq, ix_if_ge, ix_if_gt, ix_if_le, ix_if_lt, ix_if_ne, ix_iinc, ix_iload, ix_imul, ix_ineg, ix_ior, ix_irem, ix_iret, ix_ishl, ix_ishr, ix_istore, ix_isub, ix_iushr, ix_ixor, ix_l2i, ix_ladd, ix_lald, ix_land, ix_last, ix_lcmp, ix_ldcS, ix_ldiv, ix_lload, ix_lmul, ix_lor, ix_lrem, ix_lret, ix_lshl, ix_lstore, ix_lsub, ix_lsw, ix_max, ix_min, ix_new, ix_newa, ix_nret, ix_oinit, ix_pop2L, ix_popI, ix_pushI, ix_pushL, ix_putI, ix_putJ, ix_putR, ix_putZ, ix_sbald, ix_sgetC, ix_sgetV, ix_slen, ix_strc, ix_tald, ix_tsw, ix_vcall, ix_vret, ix_zret, stL, stL2, kilL, popN, fq_sw, fq_lsw, List.map_cons, List.map_nil, List.getElem?_cons_zero, List.getElem?_cons_succ, Option.toList_some, Option.toList_none, List.cons_append, List.nil_append, List.length_cons, List.length_nil, List.sum_cons, List.sum_nil, cat_i, cat_l, cat_r, true_and, and_true, Nat.zero_add, Nat.add_zero, Nat.le_refl, Nat.zero_le, Nat.reduceAdd, Nat.reduceLeDiff, exists_eq_left', Option.some.injEq, not_true_eq_false, not_false_eq_true, false_implies, true_implies, implies_true, and_self, or_true, true_or, or_false, false_or]
      exact h1.fx (F2.tr (csF.rj.tr (csF.s (fun a ha => u2_ne (by omega)) (fun _ _ => rfl)))) (u2_ne (by omega))
    · rw [if_neg (fun r => r g1), if_pos g] at h1
      simp (disch := omega) only [x1, x2, x3, s1, hs.k, hs.r0, hs.k1, hs.r1, hs.k2, hs.r2, hs.k3, hs.r3, hs.k4, hs.r4, hs.k12, hs.n1, hs.n2, hs.n3, hs.y0, hs.k5, hs.n5, hs.y1, hs.k6, hs.n6, hs.y2, hs.k7, hs.n7, hs.y3, hs.k8, hs.n8, hs.y4, hs.k9, hs.n9, hs.y5, hs.k10, hs.n10, hs.y6, hs.k11, hs.n11, hs.p0, hs.p1, hs.p2, hs.k13, hs.n13, hs.q0, hs.q1, hs.k14, hs.k15, hs.k16, hs.n16, hs.k17, hs.n17, hs.rH, hs.kH, hs.rP, hs.kP, hs.rQ, hs.kQ, u2_same, nI_1, nI_add, nI_clamp, nI_pin, nI_neg, nI_nonneg, nI_leE, nI_ltE, nI_eqE, Nat.not_le, Nat.not_lt, fq_10, fq_01, fq_rr, ix_aald, ix_aast, ix_abs, ix_alen, ix_aload, ix_aret, ix_astore, ix_bald, ix_bast, ix_call, ix_cpyI, ix_cpyJ, ix_dead, ix_dup2, ix_dup2L, ix_dupI, ix_dupR, ix_dupx1, ix_getI, ix_getJ, ix_getR, ix_gfm, ix_gtab, ix_i2b, ix_i2c, ix_i2l, ix_i2s, ix_iadd, ix_iald, ix_iand, ix_iast, ix_icall, ix_icmp_eq, ix_icmp_ge, ix_icmp_gt, ix_icmp_le, ix_icmp_lt, ix_icmp_ne, ix_idiv, ix_if_eq, ix_if_ge, ix_if_gt, ix_if_le, ix_if_lt, ix_if_ne, ix_iinc, ix_iload, ix_imul, ix_ineg, ix_ior, ix_irem, ix_iret, ix_ishl, ix_ishr, ix_istore, ix_isub, ix_iushr, ix_ixor, ix_l2i, ix_ladd, ix_lald, ix_land, ix_last, ix_lcmp, ix_ldcS, ix_ldiv, ix_lload, ix_lmul, ix_lor, ix_lrem, ix_lret, ix_lshl, ix_lstore, ix_lsub, ix_lsw, ix_max, ix_min, ix_new, ix_newa, ix_nret, ix_oinit, ix_pop2L, ix_popI, ix_pushI, ix_pushL, ix_putI, ix_putJ, ix_putR, ix_putZ, ix_sbald, ix_sgetC, ix_sgetV, ix_slen, ix_strc, ix_tald, ix_tsw, ix_vcall, ix_vret, ix_zret, stL, stL2, kilL, popN, fq_sw, fq_lsw, List.map_cons, List.map_nil, List.getElem?_cons_zero, List.getElem?_cons_succ, Option.toList_some, Option.toList_none, List.cons_append, List.nil_append, List.length_cons, List.length_nil, List.sum_cons, List.sum_nil, cat_i, cat_l, cat_r, true_and, and_true, Nat.zero_add, Nat.add_zero, Nat.le_refl, Nat.zero_le, Nat.reduceAdd, Nat.reduceLeDiff, exists_eq_left', Option.some.injEq, not_true_eq_false, not_false_eq_true, false_implies, true_implies, implies_true, and_self, or_true, true_or, or_false, false_or]
      exact h1.fx (F2.tr (csF.rj.tr (csF.s (fun a ha => u2_ne (by omega)) (fun _ _ => rfl)))) (u2_ne (by omega))
    · rw [if_neg (fun r => r g1), if_neg (fun r => r g)] at h1
      have nn := tV_nn g (by decide)
      simp (disch := omega) only [x1, x2, x3, s1, hs.k, hs.r0, hs.k1, hs.r1, hs.k2, hs.r2, hs.k3, hs.r3, hs.k4, hs.r4, hs.k12, hs.n1, hs.n2, hs.n3, hs.y0, hs.k5, hs.n5, hs.y1, hs.k6, hs.n6, hs.y2, hs.k7, hs.n7, hs.y3, hs.k8, hs.n8, hs.y4, hs.k9, hs.n9, hs.y5, hs.k10, hs.n10, hs.y6, hs.k11, hs.n11, hs.p0, hs.p1, hs.p2, hs.k13, hs.n13, hs.q0, hs.q1, hs.k14, hs.k15, hs.k16, hs.n16, hs.k17, hs.n17, hs.rH, hs.kH, hs.rP, hs.kP, hs.rQ, hs.kQ, u2_same, nn, nI_1, nI_add, nI_clamp, nI_pin, nI_neg, nI_nonneg, nI_leE, nI_ltE, nI_eqE, Nat.not_le, Nat.not_lt, fq_10, fq_01, fq_rr, ix_aald, ix_aast, ix_abs, ix_alen, ix_aload, ix_aret, ix_astore, ix_bald, ix_bast, ix_call, ix_cpyI, ix_cpyJ, ix_dead, ix_dup2, ix_dup2L, ix_dupI, ix_dupR, ix_dupx1, ix_getI, ix_getJ, ix_getR, ix_gfm, ix_gtab, ix_i2b, ix_i2c, ix_i2l, ix_i2s, ix_iadd, ix_iald, ix_iand, ix_iast, ix_icall, ix_icmp_eq, ix_icmp_ge, ix_icmp_gt, ix_icmp_le, ix_icmp_lt, ix_icmp_ne, ix_idiv, ix_if_eq, ix_if_ge, ix_if_gt, ix_if_le, ix_if_lt, ix_if_ne, ix_iinc, ix_iload, ix_imul, ix_ineg, ix_ior, ix_irem, ix_iret, ix_ishl, ix_ishr, ix_istore, ix_isub, ix_iushr, ix_ixor, ix_l2i, ix_ladd, ix_lald, ix_land, ix_last, ix_lcmp, ix_ldcS, ix_ldiv, ix_lload, ix_lmul, ix_lor, ix_lrem, ix_lret, ix_lshl, ix_lstore, ix_lsub, ix_lsw, ix_max, ix_min, ix_new, ix_newa, ix_nret, ix_oinit, ix_pop2L, ix_popI, ix_pushI, ix_pushL, ix_putI, ix_putJ, ix_putR, ix_putZ, ix_sbald, ix_sgetC, ix_sgetV, ix_slen, ix_strc, ix_tald, ix_tsw, ix_vcall, ix_vret, ix_zret, stL, stL2, kilL, popN, fq_sw, fq_lsw, List.map_cons, List.map_nil, List.getElem?_cons_zero, List.getElem?_cons_succ, Option.toList_some, Option.toList_none, List.cons_append, List.nil_append, List.length_cons, List.length_nil, List.sum_cons, List.sum_nil, cat_i, cat_l, cat_r, true_and, and_true, Nat.zero_add, Nat.add_zero, Nat.le_refl, Nat.zero_le, Nat.reduceAdd, Nat.reduceLeDiff, exists_eq_left', Option.some.injEq, not_true_eq_false, not_false_eq_true, false_implies, true_implies, implies_true, and_self, or_true, true_or, or_false, false_or]
      refine h1 _ _ (F2.tr ((csF.rd hF2).tr (csF.s (fun a ha => u2_ne (by omega)) (fun _ _ => rfl)))) ((G1.rd l1 hF2 hH2 e2).num l1 (by omega)) ?_ (fun k hk => ?_)
      · rw [u2_ne (by omega), hF2.1 t (by omega), t2, u2_same]
      · rw [u2_ne (by omega), hF2.1 t (by omega), t2, u2_ck _ _ _ _ _ _ hk]
  · exact h.elim
def sp_X7_takeCalm (G : GT) : Sp := spNum 3 10 4 0 9
set_option maxHeartbeats 4000000 in
set_option maxRecDepth 20000 in
theorem c_X7_takeCalm {l : Launch} {G : GT} {D : Nat} : ∀ as S I J z Q, sp_X7_takeCalm G as S I J z Q → fqCall l G M_X7_takeCalm (D + 4) 0 0 as S I J z Q := by
  intro as S I J z Q h
  unfold sp_X7_takeCalm spNum at h
  split at h
  · next a =>
    obtain ⟨X, s, t, T, n, σ, rfl, hx, hE, hH, hk, h0, h1⟩ := h
    have hx0 := hx
    obtain ⟨x1, x2, x3, hs, l1, l2, l3⟩ := hx
    have s1 := hE.1.1
    refine fq_enter [some (.ref t)] (by decide +kernel) (Nat.le_of_ble_eq_true rfl) rfl (b_X7_takeCalm_0 _ _ _ _ _ _ _ _ ?_)
    simp (disch := omega) only [B_X7_takeCalm_0, B_X7_takeCalm_61, x1, x2, x3, s1, hs.k, hs.r0, hs.k1, hs.r1, hs.k2, hs.r2, hs.k3, hs.r3, hs.k4, hs.r4, hs.k12, hs.n1, hs.n2, hs.n3, hs.y0, hs.k5, hs.n5, hs.y1, hs.k6, hs.n6, hs.y2, hs.k7, hs.n7, hs.y3, hs.k8, hs.n8, hs.y4, hs.k9, hs.n9, hs.y5, hs.k10, hs.n10, hs.y6, hs.k11, hs.n11, hs.p0, hs.p1, hs.p2, hs.k13, hs.n13, hs.q0, hs.q1, hs.k14, hs.k15, hs.k16, hs.n16, hs.k17, hs.n17, hs.rH, hs.kH, hs.rP, hs.kP, hs.rQ, hs.kQ, nI_1, nI_add, nI_clamp, nI_pin, nI_neg, nI_nonneg, nI_leE, nI_ltE, nI_eqE, Nat.not_le, Nat.not_lt, fq_10, fq_01, fq_rr, ix_aald, ix_aast, ix_abs, ix_alen, ix_aload, ix_aret, ix_astore, ix_bald, ix_bast, ix_call, ix_cpyI, ix_cpyJ, ix_dead, ix_dup2, ix_dup2L, ix_dupI, ix_dupR, ix_dupx1, ix_getI, ix_getJ, ix_getR, ix_gfm, ix_gtab, ix_i2b, ix_i2c, ix_i2l, ix_i2s, ix_iadd, ix_iald, ix_iand, ix_iast, ix_icall, ix_icmp_eq, ix_icmp_ge, ix_icmp_gt, ix_icmp_le, ix_icmp_lt, ix_icmp_ne, ix_idiv, ix_if_eq, ix_if_ge, ix_if_gt, ix_if_le, ix_if_lt, ix_if_ne, ix_iinc, ix_iload, ix_imul, ix_ineg, ix_ior, ix_irem, ix_iret, ix_ishl, ix_ishr, ix_istore, ix_isub, ix_iushr, ix_ixor, ix_l2i, ix_ladd, ix_lald, ix_land, ix_last, ix_lcmp, ix_ldcS, ix_ldiv, ix_lload, ix_lmul, ix_lor, ix_lrem, ix_lret, ix_lshl, ix_lstore, ix_lsub, ix_lsw, ix_max, ix_min, ix_new, ix_newa, ix_nret, ix_oinit, ix_pop2L, ix_popI, ix_pushI, ix_pushL, ix_putI, ix_putJ, ix_putR, ix_putZ, ix_sbald, ix_sgetC, ix_sgetV, ix_slen, ix_strc, ix_tald, ix_tsw, ix_vcall, ix_vret, ix_zret, stL, stL2, kilL, popN, fq_sw, fq_lsw, List.map_cons, List.map_nil, List.getElem?_cons_zero, List.getElem?_cons_succ, Option.toList_some, Option.toList_none, List.cons_append, List.nil_append, List.length_cons, List.length_nil, List.sum_cons, List.sum_nil, cat_i, cat_l, cat_r, true_and, and_true, Nat.zero_add, Nat.add_zero, Nat.le_refl, Nat.zero_le, Nat.reduceAdd, Nat.reduceLeDiff, exists_eq_left', Option.some.injEq, not_true_eq_false, not_false_eq_true, false_implies, true_implies, implies_true, and_self, or_true, true_or, or_false, false_or]
    refine ⟨fun q => ?_, fun q => rej_R (hH.q hE) ⟨Or.inl rfl, h0 q⟩⟩
    have h1 := h1 q
    have r0 : ∀ a, a ≠ t → u2 I t 3 1 a = I a := fun a ha => u2_ne ha
    have F1 : csF X s t I (u2 I t 3 1) J J := ⟨fun a _ h2 _ => r0 a h2, fun _ _ _ => rfl⟩
    have H0 : stH X s (u2 I t 3 1) J T n σ := hH.fr (r0 _ (by omega)) rfl (fun a _ _ => r0 a (by omega)) (fun _ _ _ => rfl)
    have e1 := (tFE hH.2.1 (T := T)).2.2.2
    have e2 := (tFE e1 (T := T)).2.2.2
    refine adv_R (H0.q (hE.ct hx0 F1)) hk (fun I1 J1 hF1 hH1 => ?_)
    have F2 := F1.tr (csF.rd (s := s) (t := t) hF1)
    have t2 : I1 t = u2 I t 3 1 t := hF1.1 t (by omega)
    have G1 : stH X s I1 J1 T n (σ.1, σ.2.1, tE T n σ.2.2) := H0.rd l1 hF1 hH1 e1
    simp (disch := omega) only [x1, x2, x3, s1, hs.k, hs.r0, hs.k1, hs.r1, hs.k2, hs.r2, hs.k3, hs.r3, hs.k4, hs.r4, hs.k12, hs.n1, hs.n2, hs.n3, hs.y0, hs.k5, hs.n5, hs.y1, hs.k6, hs.n6, hs.y2, hs.k7, hs.n7, hs.y3, hs.k8, hs.n8, hs.y4, hs.k9, hs.n9, hs.y5, hs.k10, hs.n10, hs.y6, hs.k11, hs.n11, hs.p0, hs.p1, hs.p2, hs.k13, hs.n13, hs.q0, hs.q1, hs.k14, hs.k15, hs.k16, hs.n16, hs.k17, hs.n17, hs.rH, hs.kH, hs.rP, hs.kP, hs.rQ, hs.kQ, nI_1, nI_add, nI_clamp, nI_pin, nI_neg, nI_nonneg, nI_leE, nI_ltE, nI_eqE, Nat.not_le, Nat.not_lt, fq_10, fq_01, fq_rr, ix_aald, ix_aast, ix_abs, ix_alen, ix_aload, ix_aret, ix_astore, ix_bald, ix_bast, ix_call, ix_cpyI, ix_cpyJ, ix_dead, ix_dup2, ix_dup2L, ix_dupI, ix_dupR, ix_dupx1, ix_getI, ix_getJ, ix_getR, ix_gfm, ix_gtab, ix_i2b, ix_i2c, ix_i2l, ix_i2s, ix_iadd, ix_iald, ix_iand, ix_iast, ix_icall, ix_icmp_eq, ix_icmp_ge, ix_icmp_gt, ix_icmp_le, ix_icmp_lt, ix_icmp_ne, ix_idiv, ix_if_eq, ix_if_ge, ix_if_gt, ix_if_le, ix_if_lt, ix_if_ne, ix_iinc, ix_iload, ix_imul, ix_ineg, ix_ior, ix_irem, ix_iret, ix_ishl, ix_ishr, ix_istore, ix_isub, ix_iushr, ix_ixor, ix_l2i, ix_ladd, ix_lald, ix_land, ix_last, ix_lcmp, ix_ldcS, ix_ldiv, ix_lload, ix_lmul, ix_lor, ix_lrem, ix_lret, ix_lshl, ix_lstore, ix_lsub, ix_lsw, ix_max, ix_min, ix_new, ix_newa, ix_nret, ix_oinit, ix_pop2L, ix_popI, ix_pushI, ix_pushL, ix_putI, ix_putJ, ix_putR, ix_putZ, ix_sbald, ix_sgetC, ix_sgetV, ix_slen, ix_strc, ix_tald, ix_tsw, ix_vcall, ix_vret, ix_zret, stL, stL2, kilL, popN, fq_sw, fq_lsw, List.map_cons, List.map_nil, List.getElem?_cons_zero, List.getElem?_cons_succ, Option.toList_some, Option.toList_none, List.cons_append, List.nil_append, List.length_cons, List.length_nil, List.sum_cons, List.sum_nil, cat_i, cat_l, cat_r, true_and, and_true, Nat.zero_add, Nat.add_zero, Nat.le_refl, Nat.zero_le, Nat.reduceAdd, Nat.reduceLeDiff, exists_eq_left', Option.some.injEq, not_true_eq_false, not_false_eq_true, false_implies, true_implies, implies_true, and_self, or_true, true_or, or_false, false_or]
    unfold pNum at h1
    refine ⟨X, T, n, tE T n σ.2.2, rfl, G1.q (hE.ct hx0 F2), fun g => ?_, fun g1 g => ?_, fun g1 g I2 J2 hF2 hH2 => ?_⟩
    · rw [if_pos g] at h1
      simp (disch := omega) only [x1, x2, x3, s1, hs.k, hs.r0, hs.k1, hs.r1, hs.k2, hs.r2, hs.k3, hs.r3, hs.k4, hs.r4, hs.k12, hs.n1, hs.n2, hs.n3, hs.y0, hs.k5, hs.n5, hs.y1, hs.k6, hs.n6, hs.y2, hs.k7, hs.n7, hs.y3, hs.k8, hs.n8, hs.y4, hs.k9, hs.n9, hs.y5, hs.k10, hs.n10, hs.y6, hs.k11, hs.n11, hs.p0, hs.p1, hs.p2, hs.k13, hs.n13, hs.q0, hs.q1, hs.k14, hs.k15, hs.k16, hs.n16, hs.k17, hs.n17, hs.rH, hs.kH, hs.rP, hs.kP, hs.rQ, hs.kQ, u2_same, nI_1, nI_add, nI_clamp, nI_pin, nI_neg, nI_nonneg, nI_leE, nI_ltE, nI_eqE, Nat.not_le, Nat.not_lt, fq_10, fq_01, fq_rr, ix_aald, ix_aast, ix_abs, ix_alen, ix_aload, ix_aret, ix_astore, ix_bald, ix_bast, ix_call, ix_cpyI, ix_cpyJ, ix_dead, ix_dup2, ix_dup2L, ix_dupI, ix_dupR, ix_dupx1, ix_getI, ix_getJ, ix_getR, ix_gfm, ix_gtab, ix_i2b, ix_i2c, ix_i2l, ix_i2s, ix_iadd, ix_iald, ix_iand, ix_iast, ix_icall, ix_icmp_eq, ix_icmp_ge, ix_icmp_gt, ix_icmp_le, ix_icmp_lt, ix_icmp_ne, ix_idiv, ix_if_eq, ix_if_ge, ix_if_gt, ix_if_le, ix_if_lt, ix_if_ne, ix_iinc, ix_iload, ix_imul, ix_ineg, ix_ior, ix_irem, ix_iret, ix_ishl, ix_ishr, ix_istore, ix_isub, ix_iushr, ix_ixor, ix_l2i, ix_ladd, ix_lald, ix_land, ix_last, ix_lcmp, ix_ldcS, ix_ldiv, ix_lload, ix_lmul, ix_lor, ix_lrem, ix_lret, ix_lshl, ix_lstore, ix_lsub, ix_lsw, ix_max, ix_min, ix_new, ix_newa, ix_nret, ix_oinit, ix_pop2L, ix_popI, ix_pushI, ix_pushL, ix_putI, ix_putJ, ix_putR, ix_putZ, ix_sbald, ix_sgetC, ix_sgetV, ix_slen, ix_strc, ix_tald, ix_tsw, ix_vcall, ix_vret, ix_zret, stL, stL2, kilL, popN, fq_sw, fq_lsw, List.map_cons, List.map_nil, List.getElem?_cons_zero, List.getElem?_cons_succ, Option.toList_some, Option.toList_none, List.cons_append, List.nil_append, List.length_cons, List.length_nil, List.sum_cons, List.sum_nil, cat_i, cat_l, cat_r, true_and, and_true, Nat.zero_add, Nat.add_zero, Nat.le_refl, Nat.zero_le, Nat.reduceAdd, Nat.reduceLeDiff, exists_eq_left', Option.some.injEq, not_true_eq_false, not_false_eq_true, false_implies, true_implies, implies_true, and_self, or_true, true_or, or_false, false_or]
      exact h1.fx (F2.tr (csF.rj.tr (csF.s (fun a ha => u2_ne (by omega)) (fun _ _ => rfl)))) (u2_ne (by omega))
    · rw [if_neg (fun r => r g1), if_pos g] at h1
      simp (disch := omega) only [x1, x2, x3, s1, hs.k, hs.r0, hs.k1, hs.r1, hs.k2, hs.r2, hs.k3, hs.r3, hs.k4, hs.r4, hs.k12, hs.n1, hs.n2, hs.n3, hs.y0, hs.k5, hs.n5, hs.y1, hs.k6, hs.n6, hs.y2, hs.k7, hs.n7, hs.y3, hs.k8, hs.n8, hs.y4, hs.k9, hs.n9, hs.y5, hs.k10, hs.n10, hs.y6, hs.k11, hs.n11, hs.p0, hs.p1, hs.p2, hs.k13, hs.n13, hs.q0, hs.q1, hs.k14, hs.k15, hs.k16, hs.n16, hs.k17, hs.n17, hs.rH, hs.kH, hs.rP, hs.kP, hs.rQ, hs.kQ, u2_same, nI_1, nI_add, nI_clamp, nI_pin, nI_neg, nI_nonneg, nI_leE, nI_ltE, nI_eqE, Nat.not_le, Nat.not_lt, fq_10, fq_01, fq_rr, ix_aald, ix_aast, ix_abs, ix_alen, ix_aload, ix_aret, ix_astore, ix_bald, ix_bast, ix_call, ix_cpyI, ix_cpyJ, ix_dead, ix_dup2, ix_dup2L, ix_dupI, ix_dupR, ix_dupx1, ix_getI, ix_getJ, ix_getR, ix_gfm, ix_gtab, ix_i2b, ix_i2c, ix_i2l, ix_i2s, ix_iadd, ix_iald, ix_iand, ix_iast, ix_icall, ix_icmp_eq, ix_icmp_ge, ix_icmp_gt, ix_icmp_le, ix_icmp_lt, ix_icmp_ne, ix_idiv, ix_if_eq, ix_if_ge, ix_if_gt, ix_if_le, ix_if_lt, ix_if_ne, ix_iinc, ix_iload, ix_imul, ix_ineg, ix_ior, ix_irem, ix_iret, ix_ishl, ix_ishr, ix_istore, ix_isub, ix_iushr, ix_ixor, ix_l2i, ix_ladd, ix_lald, ix_land, ix_last, ix_lcmp, ix_ldcS, ix_ldiv, ix_lload, ix_lmul, ix_lor, ix_lrem, ix_lret, ix_lshl, ix_lstore, ix_lsub, ix_lsw, ix_max, ix_min, ix_new, ix_newa, ix_nret, ix_oinit, ix_pop2L, ix_popI, ix_pushI, ix_pushL, ix_putI, ix_putJ, ix_putR, ix_putZ, ix_sbald, ix_sgetC, ix_sgetV, ix_slen, ix_strc, ix_tald, ix_tsw, ix_vcall, ix_vret, ix_zret, stL, stL2, kilL, popN, fq_sw, fq_lsw, List.map_cons, List.map_nil, List.getElem?_cons_zero, List.getElem?_cons_succ, Option.toList_some, Option.toList_none, List.cons_append, List.nil_append, List.length_cons, List.length_nil, List.sum_cons, List.sum_nil, cat_i, cat_l, cat_r, true_and, and_true, Nat.zero_add, Nat.add_zero, Nat.le_refl, Nat.zero_le, Nat.reduceAdd, Nat.reduceLeDiff, exists_eq_left', Option.some.injEq, not_true_eq_false, not_false_eq_true, false_implies, true_implies, implies_true, and_self, or_true, true_or, or_false, false_or]
      exact h1.fx (F2.tr (csF.rj.tr (csF.s (fun a ha => u2_ne (by omega)) (fun _ _ => rfl)))) (u2_ne (by omega))
    · rw [if_neg (fun r => r g1), if_neg (fun r => r g)] at h1
      have nn := tV_nn g (by decide)
      simp (disch := omega) only [x1, x2, x3, s1, hs.k, hs.r0, hs.k1, hs.r1, hs.k2, hs.r2, hs.k3, hs.r3, hs.k4, hs.r4, hs.k12, hs.n1, hs.n2, hs.n3, hs.y0, hs.k5, hs.n5, hs.y1, hs.k6, hs.n6, hs.y2, hs.k7, hs.n7, hs.y3, hs.k8, hs.n8, hs.y4, hs.k9, hs.n9, hs.y5, hs.k10, hs.n10, hs.y6, hs.k11, hs.n11, hs.p0, hs.p1, hs.p2, hs.k13, hs.n13, hs.q0, hs.q1, hs.k14, hs.k15, hs.k16, hs.n16, hs.k17, hs.n17, hs.rH, hs.kH, hs.rP, hs.kP, hs.rQ, hs.kQ, u2_same, nn, nI_1, nI_add, nI_clamp, nI_pin, nI_neg, nI_nonneg, nI_leE, nI_ltE, nI_eqE, Nat.not_le, Nat.not_lt, fq_10, fq_01, fq_rr, ix_aald, ix_aast, ix_abs, ix_alen, ix_aload, ix_aret, ix_astore, ix_bald, ix_bast, ix_call, ix_cpyI, ix_cpyJ, ix_dead, ix_dup2, ix_dup2L, ix_dupI, ix_dupR, ix_dupx1, ix_getI, ix_getJ, ix_getR, ix_gfm, ix_gtab, ix_i2b, ix_i2c, ix_i2l, ix_i2s, ix_iadd, ix_iald, ix_iand, ix_iast, ix_icall, ix_icmp_eq, ix_icmp_ge, ix_icmp_gt, ix_icmp_le, ix_icmp_lt, ix_icmp_ne, ix_idiv, ix_if_eq, ix_if_ge, ix_if_gt, ix_if_le, ix_if_lt, ix_if_ne, ix_iinc, ix_iload, ix_imul, ix_ineg, ix_ior, ix_irem, ix_iret, ix_ishl, ix_ishr, ix_istore, ix_isub, ix_iushr, ix_ixor, ix_l2i, ix_ladd, ix_lald, ix_land, ix_last, ix_lcmp, ix_ldcS, ix_ldiv, ix_lload, ix_lmul, ix_lor, ix_lrem, ix_lret, ix_lshl, ix_lstore, ix_lsub, ix_lsw, ix_max, ix_min, ix_new, ix_newa, ix_nret, ix_oinit, ix_pop2L, ix_popI, ix_pushI, ix_pushL, ix_putI, ix_putJ, ix_putR, ix_putZ, ix_sbald, ix_sgetC, ix_sgetV, ix_slen, ix_strc, ix_tald, ix_tsw, ix_vcall, ix_vret, ix_zret, stL, stL2, kilL, popN, fq_sw, fq_lsw, List.map_cons, List.map_nil, List.getElem?_cons_zero, List.getElem?_cons_succ, Option.toList_some, Option.toList_none, List.cons_append, List.nil_append, List.length_cons, List.length_nil, List.sum_cons, List.sum_nil, cat_i, cat_l, cat_r, true_and, and_true, Nat.zero_add, Nat.add_zero, Nat.le_refl, Nat.zero_le, Nat.reduceAdd, Nat.reduceLeDiff, exists_eq_left', Option.some.injEq, not_true_eq_false, not_false_eq_true, false_implies, true_implies, implies_true, and_self, or_true, true_or, or_false, false_or]
      refine h1 _ _ (F2.tr ((csF.rd hF2).tr (csF.s (fun a ha => u2_ne (by omega)) (fun _ _ => rfl)))) ((G1.rd l1 hF2 hH2 e2).num l1 (by omega)) ?_ (fun k hk => ?_)
      · rw [u2_ne (by omega), hF2.1 t (by omega), t2, u2_same]
      · rw [u2_ne (by omega), hF2.1 t (by omega), t2, u2_ck _ _ _ _ _ _ hk]
  · exact h.elim
def sp_X7_takeOdds (G : GT) : Sp := spNum 4 11 5 0 16
set_option maxHeartbeats 4000000 in
set_option maxRecDepth 20000 in
theorem c_X7_takeOdds {l : Launch} {G : GT} {D : Nat} : ∀ as S I J z Q, sp_X7_takeOdds G as S I J z Q → fqCall l G M_X7_takeOdds (D + 4) 0 0 as S I J z Q := by
  intro as S I J z Q h
  unfold sp_X7_takeOdds spNum at h
  split at h
  · next a =>
    obtain ⟨X, s, t, T, n, σ, rfl, hx, hE, hH, hk, h0, h1⟩ := h
    have hx0 := hx
    obtain ⟨x1, x2, x3, hs, l1, l2, l3⟩ := hx
    have s1 := hE.1.1
    refine fq_enter [some (.ref t)] (by decide +kernel) (Nat.le_of_ble_eq_true rfl) rfl (b_X7_takeOdds_0 _ _ _ _ _ _ _ _ ?_)
    simp (disch := omega) only [B_X7_takeOdds_0, B_X7_takeOdds_61, x1, x2, x3, s1, hs.k, hs.r0, hs.k1, hs.r1, hs.k2, hs.r2, hs.k3, hs.r3, hs.k4, hs.r4, hs.k12, hs.n1, hs.n2, hs.n3, hs.y0, hs.k5, hs.n5, hs.y1, hs.k6, hs.n6, hs.y2, hs.k7, hs.n7, hs.y3, hs.k8, hs.n8, hs.y4, hs.k9, hs.n9, hs.y5, hs.k10, hs.n10, hs.y6, hs.k11, hs.n11, hs.p0, hs.p1, hs.p2, hs.k13, hs.n13, hs.q0, hs.q1, hs.k14, hs.k15, hs.k16, hs.n16, hs.k17, hs.n17, hs.rH, hs.kH, hs.rP, hs.kP, hs.rQ, hs.kQ, nI_1, nI_add, nI_clamp, nI_pin, nI_neg, nI_nonneg, nI_leE, nI_ltE, nI_eqE, Nat.not_le, Nat.not_lt, fq_10, fq_01, fq_rr, ix_aald, ix_aast, ix_abs, ix_alen, ix_aload, ix_aret, ix_astore, ix_bald, ix_bast, ix_call, ix_cpyI, ix_cpyJ, ix_dead, ix_dup2, ix_dup2L, ix_dupI, ix_dupR, ix_dupx1, ix_getI, ix_getJ, ix_getR, ix_gfm, ix_gtab, ix_i2b, ix_i2c, ix_i2l, ix_i2s, ix_iadd, ix_iald, ix_iand, ix_iast, ix_icall, ix_icmp_eq, ix_icmp_ge, ix_icmp_gt, ix_icmp_le, ix_icmp_lt, ix_icmp_ne, ix_idiv, ix_if_eq, ix_if_ge, ix_if_gt, ix_if_le, ix_if_lt, ix_if_ne, ix_iinc, ix_iload, ix_imul, ix_ineg, ix_ior, ix_irem, ix_iret, ix_ishl, ix_ishr, ix_istore, ix_isub, ix_iushr, ix_ixor, ix_l2i, ix_ladd, ix_lald, ix_land, ix_last, ix_lcmp, ix_ldcS, ix_ldiv, ix_lload, ix_lmul, ix_lor, ix_lrem, ix_lret, ix_lshl, ix_lstore, ix_lsub, ix_lsw, ix_max, ix_min, ix_new, ix_newa, ix_nret, ix_oinit, ix_pop2L, ix_popI, ix_pushI, ix_pushL, ix_putI, ix_putJ, ix_putR, ix_putZ, ix_sbald, ix_sgetC, ix_sgetV, ix_slen, ix_strc, ix_tald, ix_tsw, ix_vcall, ix_vret, ix_zret, stL, stL2, kilL, popN, fq_sw, fq_lsw, List.map_cons, List.map_nil, List.getElem?_cons_zero, List.getElem?_cons_succ, Option.toList_some, Option.toList_none, List.cons_append, List.nil_append, List.length_cons, List.length_nil, List.sum_cons, List.sum_nil, cat_i, cat_l, cat_r, true_and, and_true, Nat.zero_add, Nat.add_zero, Nat.le_refl, Nat.zero_le, Nat.reduceAdd, Nat.reduceLeDiff, exists_eq_left', Option.some.injEq, not_true_eq_false, not_false_eq_true, false_implies, true_implies, implies_true, and_self, or_true, true_or, or_false, false_or]
    refine ⟨fun q => ?_, fun q => rej_R (hH.q hE) ⟨Or.inl rfl, h0 q⟩⟩
    have h1 := h1 q
    have r0 : ∀ a, a ≠ t → u2 I t 4 1 a = I a := fun a ha => u2_ne ha
    have F1 : csF X s t I (u2 I t 4 1) J J := ⟨fun a _ h2 _ => r0 a h2, fun _ _ _ => rfl⟩
    have H0 : stH X s (u2 I t 4 1) J T n σ := hH.fr (r0 _ (by omega)) rfl (fun a _ _ => r0 a (by omega)) (fun _ _ _ => rfl)
    have e1 := (tFE hH.2.1 (T := T)).2.2.2
    have e2 := (tFE e1 (T := T)).2.2.2
    refine adv_R (H0.q (hE.ct hx0 F1)) hk (fun I1 J1 hF1 hH1 => ?_)
    have F2 := F1.tr (csF.rd (s := s) (t := t) hF1)
    have t2 : I1 t = u2 I t 4 1 t := hF1.1 t (by omega)
    have G1 : stH X s I1 J1 T n (σ.1, σ.2.1, tE T n σ.2.2) := H0.rd l1 hF1 hH1 e1
    simp (disch := omega) only [x1, x2, x3, s1, hs.k, hs.r0, hs.k1, hs.r1, hs.k2, hs.r2, hs.k3, hs.r3, hs.k4, hs.r4, hs.k12, hs.n1, hs.n2, hs.n3, hs.y0, hs.k5, hs.n5, hs.y1, hs.k6, hs.n6, hs.y2, hs.k7, hs.n7, hs.y3, hs.k8, hs.n8, hs.y4, hs.k9, hs.n9, hs.y5, hs.k10, hs.n10, hs.y6, hs.k11, hs.n11, hs.p0, hs.p1, hs.p2, hs.k13, hs.n13, hs.q0, hs.q1, hs.k14, hs.k15, hs.k16, hs.n16, hs.k17, hs.n17, hs.rH, hs.kH, hs.rP, hs.kP, hs.rQ, hs.kQ, nI_1, nI_add, nI_clamp, nI_pin, nI_neg, nI_nonneg, nI_leE, nI_ltE, nI_eqE, Nat.not_le, Nat.not_lt, fq_10, fq_01, fq_rr, ix_aald, ix_aast, ix_abs, ix_alen, ix_aload, ix_aret, ix_astore, ix_bald, ix_bast, ix_call, ix_cpyI, ix_cpyJ, ix_dead, ix_dup2, ix_dup2L, ix_dupI, ix_dupR, ix_dupx1, ix_getI, ix_getJ, ix_getR, ix_gfm, ix_gtab, ix_i2b, ix_i2c, ix_i2l, ix_i2s, ix_iadd, ix_iald, ix_iand, ix_iast, ix_icall, ix_icmp_eq, ix_icmp_ge, ix_icmp_gt, ix_icmp_le, ix_icmp_lt, ix_icmp_ne, ix_idiv, ix_if_eq, ix_if_ge, ix_if_gt, ix_if_le, ix_if_lt, ix_if_ne, ix_iinc, ix_iload, ix_imul, ix_ineg, ix_ior, ix_irem, ix_iret, ix_ishl, ix_ishr, ix_istore, ix_isub, ix_iushr, ix_ixor, ix_l2i, ix_ladd, ix_lald, ix_land, ix_last, ix_lcmp, ix_ldcS, ix_ldiv, ix_lload, ix_lmul, ix_lor, ix_lrem, ix_lret, ix_lshl, ix_lstore, ix_lsub, ix_lsw, ix_max, ix_min, ix_new, ix_newa, ix_nret, ix_oinit, ix_pop2L, ix_popI, ix_pushI, ix_pushL, ix_putI, ix_putJ, ix_putR, ix_putZ, ix_sbald, ix_sgetC, ix_sgetV, ix_slen, ix_strc, ix_tald, ix_tsw, ix_vcall, ix_vret, ix_zret, stL, stL2, kilL, popN, fq_sw, fq_lsw, List.map_cons, List.map_nil, List.getElem?_cons_zero, List.getElem?_cons_succ, Option.toList_some, Option.toList_none, List.cons_append, List.nil_append, List.length_cons, List.length_nil, List.sum_cons, List.sum_nil, cat_i, cat_l, cat_r, true_and, and_true, Nat.zero_add, Nat.add_zero, Nat.le_refl, Nat.zero_le, Nat.reduceAdd, Nat.reduceLeDiff, exists_eq_left', Option.some.injEq, not_true_eq_false, not_false_eq_true, false_implies, true_implies, implies_true, and_self, or_true, true_or, or_false, false_or]
    unfold pNum at h1
    refine ⟨X, T, n, tE T n σ.2.2, rfl, G1.q (hE.ct hx0 F2), fun g => ?_, fun g1 g => ?_, fun g1 g I2 J2 hF2 hH2 => ?_⟩
    · rw [if_pos g] at h1
      simp (disch := omega) only [x1, x2, x3, s1, hs.k, hs.r0, hs.k1, hs.r1, hs.k2, hs.r2, hs.k3, hs.r3, hs.k4, hs.r4, hs.k12, hs.n1, hs.n2, hs.n3, hs.y0, hs.k5, hs.n5, hs.y1, hs.k6, hs.n6, hs.y2, hs.k7, hs.n7, hs.y3, hs.k8, hs.n8, hs.y4, hs.k9, hs.n9, hs.y5, hs.k10, hs.n10, hs.y6, hs.k11, hs.n11, hs.p0, hs.p1, hs.p2, hs.k13, hs.n13, hs.q0, hs.q1, hs.k14, hs.k15, hs.k16, hs.n16, hs.k17, hs.n17, hs.rH, hs.kH, hs.rP, hs.kP, hs.rQ, hs.kQ, u2_same, nI_1, nI_add, nI_clamp, nI_pin, nI_neg, nI_nonneg, nI_leE, nI_ltE, nI_eqE, Nat.not_le, Nat.not_lt, fq_10, fq_01, fq_rr, ix_aald, ix_aast, ix_abs, ix_alen, ix_aload, ix_aret, ix_astore, ix_bald, ix_bast, ix_call, ix_cpyI, ix_cpyJ, ix_dead, ix_dup2, ix_dup2L, ix_dupI, ix_dupR, ix_dupx1, ix_getI, ix_getJ, ix_getR, ix_gfm, ix_gtab, ix_i2b, ix_i2c, ix_i2l, ix_i2s, ix_iadd, ix_iald, ix_iand, ix_iast, ix_icall, ix_icmp_eq, ix_icmp_ge, ix_icmp_gt, ix_icmp_le, ix_icmp_lt, ix_icmp_ne, ix_idiv, ix_if_eq, ix_if_ge, ix_if_gt, ix_if_le, ix_if_lt, ix_if_ne, ix_iinc, ix_iload, ix_imul, ix_ineg, ix_ior, ix_irem, ix_iret, ix_ishl, ix_ishr, ix_istore, ix_isub, ix_iushr, ix_ixor, ix_l2i, ix_ladd, ix_lald, ix_land, ix_last, ix_lcmp, ix_ldcS, ix_ldiv, ix_lload, ix_lmul, ix_lor, ix_lrem, ix_lret, ix_lshl, ix_lstore, ix_lsub, ix_lsw, ix_max, ix_min, ix_new, ix_newa, ix_nret, ix_oinit, ix_pop2L, ix_popI, ix_pushI, ix_pushL, ix_putI, ix_putJ, ix_putR, ix_putZ, ix_sbald, ix_sgetC, ix_sgetV, ix_slen, ix_strc, ix_tald, ix_tsw, ix_vcall, ix_vret, ix_zret, stL, stL2, kilL, popN, fq_sw, fq_lsw, List.map_cons, List.map_nil, List.getElem?_cons_zero, List.getElem?_cons_succ, Option.toList_some, Option.toList_none, List.cons_append, List.nil_append, List.length_cons, List.length_nil, List.sum_cons, List.sum_nil, cat_i, cat_l, cat_r, true_and, and_true, Nat.zero_add, Nat.add_zero, Nat.le_refl, Nat.zero_le, Nat.reduceAdd, Nat.reduceLeDiff, exists_eq_left', Option.some.injEq, not_true_eq_false, not_false_eq_true, false_implies, true_implies, implies_true, and_self, or_true, true_or, or_false, false_or]
      exact h1.fx (F2.tr (csF.rj.tr (csF.s (fun a ha => u2_ne (by omega)) (fun _ _ => rfl)))) (u2_ne (by omega))
    · rw [if_neg (fun r => r g1), if_pos g] at h1
      simp (disch := omega) only [x1, x2, x3, s1, hs.k, hs.r0, hs.k1, hs.r1, hs.k2, hs.r2, hs.k3, hs.r3, hs.k4, hs.r4, hs.k12, hs.n1, hs.n2, hs.n3, hs.y0, hs.k5, hs.n5, hs.y1, hs.k6, hs.n6, hs.y2, hs.k7, hs.n7, hs.y3, hs.k8, hs.n8, hs.y4, hs.k9, hs.n9, hs.y5, hs.k10, hs.n10, hs.y6, hs.k11, hs.n11, hs.p0, hs.p1, hs.p2, hs.k13, hs.n13, hs.q0, hs.q1, hs.k14, hs.k15, hs.k16, hs.n16, hs.k17, hs.n17, hs.rH, hs.kH, hs.rP, hs.kP, hs.rQ, hs.kQ, u2_same, nI_1, nI_add, nI_clamp, nI_pin, nI_neg, nI_nonneg, nI_leE, nI_ltE, nI_eqE, Nat.not_le, Nat.not_lt, fq_10, fq_01, fq_rr, ix_aald, ix_aast, ix_abs, ix_alen, ix_aload, ix_aret, ix_astore, ix_bald, ix_bast, ix_call, ix_cpyI, ix_cpyJ, ix_dead, ix_dup2, ix_dup2L, ix_dupI, ix_dupR, ix_dupx1, ix_getI, ix_getJ, ix_getR, ix_gfm, ix_gtab, ix_i2b, ix_i2c, ix_i2l, ix_i2s, ix_iadd, ix_iald, ix_iand, ix_iast, ix_icall, ix_icmp_eq, ix_icmp_ge, ix_icmp_gt, ix_icmp_le, ix_icmp_lt, ix_icmp_ne, ix_idiv, ix_if_eq, ix_if_ge, ix_if_gt, ix_if_le, ix_if_lt, ix_if_ne, ix_iinc, ix_iload, ix_imul, ix_ineg, ix_ior, ix_irem, ix_iret, ix_ishl, ix_ishr, ix_istore, ix_isub, ix_iushr, ix_ixor, ix_l2i, ix_ladd, ix_lald, ix_land, ix_last, ix_lcmp, ix_ldcS, ix_ldiv, ix_lload, ix_lmul, ix_lor, ix_lrem, ix_lret, ix_lshl, ix_lstore, ix_lsub, ix_lsw, ix_max, ix_min, ix_new, ix_newa, ix_nret, ix_oinit, ix_pop2L, ix_popI, ix_pushI, ix_pushL, ix_putI, ix_putJ, ix_putR, ix_putZ, ix_sbald, ix_sgetC, ix_sgetV, ix_slen, ix_strc, ix_tald, ix_tsw, ix_vcall, ix_vret, ix_zret, stL, stL2, kilL, popN, fq_sw, fq_lsw, List.map_cons, List.map_nil, List.getElem?_cons_zero, List.getElem?_cons_succ, Option.toList_some, Option.toList_none, List.cons_append, List.nil_append, List.length_cons, List.length_nil, List.sum_cons, List.sum_nil, cat_i, cat_l, cat_r, true_and, and_true, Nat.zero_add, Nat.add_zero, Nat.le_refl, Nat.zero_le, Nat.reduceAdd, Nat.reduceLeDiff, exists_eq_left', Option.some.injEq, not_true_eq_false, not_false_eq_true, false_implies, true_implies, implies_true, and_self, or_true, true_or, or_false, false_or]
      exact h1.fx (F2.tr (csF.rj.tr (csF.s (fun a ha => u2_ne (by omega)) (fun _ _ => rfl)))) (u2_ne (by omega))
    · rw [if_neg (fun r => r g1), if_neg (fun r => r g)] at h1
      have nn := tV_nn g (by decide)
      simp (disch := omega) only [x1, x2, x3, s1, hs.k, hs.r0, hs.k1, hs.r1, hs.k2, hs.r2, hs.k3, hs.r3, hs.k4, hs.r4, hs.k12, hs.n1, hs.n2, hs.n3, hs.y0, hs.k5, hs.n5, hs.y1, hs.k6, hs.n6, hs.y2, hs.k7, hs.n7, hs.y3, hs.k8, hs.n8, hs.y4, hs.k9, hs.n9, hs.y5, hs.k10, hs.n10, hs.y6, hs.k11, hs.n11, hs.p0, hs.p1, hs.p2, hs.k13, hs.n13, hs.q0, hs.q1, hs.k14, hs.k15, hs.k16, hs.n16, hs.k17, hs.n17, hs.rH, hs.kH, hs.rP, hs.kP, hs.rQ, hs.kQ, u2_same, nn, nI_1, nI_add, nI_clamp, nI_pin, nI_neg, nI_nonneg, nI_leE, nI_ltE, nI_eqE, Nat.not_le, Nat.not_lt, fq_10, fq_01, fq_rr, ix_aald, ix_aast, ix_abs, ix_alen, ix_aload, ix_aret, ix_astore, ix_bald, ix_bast, ix_call, ix_cpyI, ix_cpyJ, ix_dead, ix_dup2, ix_dup2L, ix_dupI, ix_dupR, ix_dupx1, ix_getI, ix_getJ, ix_getR, ix_gfm, ix_gtab, ix_i2b, ix_i2c, ix_i2l, ix_i2s, ix_iadd, ix_iald, ix_iand, ix_iast, ix_icall, ix_icmp_eq, ix_icmp_ge, ix_icmp_gt, ix_icmp_le, ix_icmp_lt, ix_icmp_ne, ix_idiv, ix_if_eq, ix_if_ge, ix_if_gt, ix_if_le, ix_if_lt, ix_if_ne, ix_iinc, ix_iload, ix_imul, ix_ineg, ix_ior, ix_irem, ix_iret, ix_ishl, ix_ishr, ix_istore, ix_isub, ix_iushr, ix_ixor, ix_l2i, ix_ladd, ix_lald, ix_land, ix_last, ix_lcmp, ix_ldcS, ix_ldiv, ix_lload, ix_lmul, ix_lor, ix_lrem, ix_lret, ix_lshl, ix_lstore, ix_lsub, ix_lsw, ix_max, ix_min, ix_new, ix_newa, ix_nret, ix_oinit, ix_pop2L, ix_popI, ix_pushI, ix_pushL, ix_putI, ix_putJ, ix_putR, ix_putZ, ix_sbald, ix_sgetC, ix_sgetV, ix_slen, ix_strc, ix_tald, ix_tsw, ix_vcall, ix_vret, ix_zret, stL, stL2, kilL, popN, fq_sw, fq_lsw, List.map_cons, List.map_nil, List.getElem?_cons_zero, List.getElem?_cons_succ, Option.toList_some, Option.toList_none, List.cons_append, List.nil_append, List.length_cons, List.length_nil, List.sum_cons, List.sum_nil, cat_i, cat_l, cat_r, true_and, and_true, Nat.zero_add, Nat.add_zero, Nat.le_refl, Nat.zero_le, Nat.reduceAdd, Nat.reduceLeDiff, exists_eq_left', Option.some.injEq, not_true_eq_false, not_false_eq_true, false_implies, true_implies, implies_true, and_self, or_true, true_or, or_false, false_or]
      refine h1 _ _ (F2.tr ((csF.rd hF2).tr (csF.s (fun a ha => u2_ne (by omega)) (fun _ _ => rfl)))) ((G1.rd l1 hF2 hH2 e2).num l1 (by omega)) ?_ (fun k hk => ?_)
      · rw [u2_ne (by omega), hF2.1 t (by omega), t2, u2_same]
      · rw [u2_ne (by omega), hF2.1 t (by omega), t2, u2_ck _ _ _ _ _ _ hk]
  · exact h.elim
