/-! copying, two neighbours apart -/
def cpF {α : Type} (I : Nat → Nat → α) (a b lo hi : Nat) : Nat → Nat → α := fun q k => if q = a ∧ lo ≤ k ∧ k ≤ hi then I b k else I q k
theorem dX0_copyFrom_0 : decode cX0_copyFrom 0 = .ok (.aload_n 0, 1) := by decide +kernel
theorem dX0_copyFrom_1 : decode cX0_copyFrom 1 = .ok (.aload_n 1, 1) := by decide +kernel
theorem dX0_copyFrom_2 : decode cX0_copyFrom 2 = .ok (.getfield 7, 3) := by decide +kernel
theorem dX0_copyFrom_5 : decode cX0_copyFrom 5 = .ok (.putfield 7, 3) := by decide +kernel
theorem dX0_copyFrom_8 : decode cX0_copyFrom 8 = .ok (.aload_n 0, 1) := by decide +kernel
theorem dX0_copyFrom_9 : decode cX0_copyFrom 9 = .ok (.aload_n 1, 1) := by decide +kernel
theorem dX0_copyFrom_10 : decode cX0_copyFrom 10 = .ok (.getfield 13, 3) := by decide +kernel
theorem dX0_copyFrom_13 : decode cX0_copyFrom 13 = .ok (.putfield 13, 3) := by decide +kernel
theorem dX0_copyFrom_16 : decode cX0_copyFrom 16 = .ok (.aload_n 0, 1) := by decide +kernel
theorem dX0_copyFrom_17 : decode cX0_copyFrom 17 = .ok (.aload_n 1, 1) := by decide +kernel
theorem dX0_copyFrom_18 : decode cX0_copyFrom 18 = .ok (.getfield 17, 3) := by decide +kernel
theorem dX0_copyFrom_21 : decode cX0_copyFrom 21 = .ok (.putfield 17, 3) := by decide +kernel
theorem dX0_copyFrom_24 : decode cX0_copyFrom 24 = .ok (.aload_n 0, 1) := by decide +kernel
theorem dX0_copyFrom_25 : decode cX0_copyFrom 25 = .ok (.aload_n 1, 1) := by decide +kernel
theorem dX0_copyFrom_26 : decode cX0_copyFrom 26 = .ok (.getfield 20, 3) := by decide +kernel
theorem dX0_copyFrom_29 : decode cX0_copyFrom 29 = .ok (.putfield 20, 3) := by decide +kernel
theorem dX0_copyFrom_32 : decode cX0_copyFrom 32 = .ok (.return_, 1) := by decide +kernel
abbrev M_X0_copyFrom : MT := (yX0_copyFrom, cX0_copyFrom, 2, none)
theorem cf_X0_copyFrom : fq_cf M_X0_copyFrom 1 := ⟨(mg_1 (List.mem_of_getElem? (i := 12) rfl) rfl), (mg_6 (List.mem_of_getElem? (i := 156) rfl) rfl), ⟨by decide, by decide, by decide +kernel⟩, by decide⟩
def B_X0_copyFrom_0 (G : GT) (mc ms : Nat) (Q : Post) : Cn := ix_aload 0 (ix_aload 1 (ix_getJ 0 0 (ix_putJ 0 0 (ix_aload 0 (ix_aload 1 (ix_getI 0 1 (ix_putI 0 1 (ix_aload 0 (ix_aload 1 (ix_getI 0 2 (ix_putI 0 2 (ix_aload 0 (ix_aload 1 (ix_getI 0 3 (ix_putI 0 3 (ix_vret mc ms Q))))))))))))))))
theorem b_X0_copyFrom_0 {l : Launch} {G : GT} {D mc ms : Nat} {Q : Post} : Imp l G M_X0_copyFrom (D + 0) mc ms Q (B_X0_copyFrom_0 G mc ms Q) 0 := sx_aload_n dX0_copyFrom_0 rfl (sx_aload_n dX0_copyFrom_1 rfl (sx_getJ dX0_copyFrom_2 fl_FootQuarrel_House_7 (fun _ _ _ => rfl) (sx_putJ dX0_copyFrom_5 fl_FootQuarrel_House_7 (by decide) (fun _ _ _ => rfl) (fun _ => ⟨rfl, rfl⟩) (sx_aload_n dX0_copyFrom_8 rfl (sx_aload_n dX0_copyFrom_9 rfl (sx_getI dX0_copyFrom_10 fl_FootQuarrel_House_13 (fun _ _ _ => rfl) (sx_putI dX0_copyFrom_13 fl_FootQuarrel_House_13 (by decide) (fun _ _ _ => rfl) (fun _ => ⟨rfl, rfl⟩) (sx_aload_n dX0_copyFrom_16 rfl (sx_aload_n dX0_copyFrom_17 rfl (sx_getI dX0_copyFrom_18 fl_FootQuarrel_House_17 (fun _ _ _ => rfl) (sx_putI dX0_copyFrom_21 fl_FootQuarrel_House_17 (by decide) (fun _ _ _ => rfl) (fun _ => ⟨rfl, rfl⟩) (sx_aload_n dX0_copyFrom_24 rfl (sx_aload_n dX0_copyFrom_25 rfl (sx_getI dX0_copyFrom_26 fl_FootQuarrel_House_20 (fun _ _ _ => rfl) (sx_putI dX0_copyFrom_29 fl_FootQuarrel_House_20 (by decide) (fun _ _ _ => rfl) (fun _ => ⟨rfl, rfl⟩) (sx_vret dX0_copyFrom_32 rfl))))))))))))))))
theorem dX2_copyFrom_0 : decode cX2_copyFrom 0 = .ok (.aload_n 0, 1) := by decide +kernel
theorem dX2_copyFrom_1 : decode cX2_copyFrom 1 = .ok (.aload_n 1, 1) := by decide +kernel
theorem dX2_copyFrom_2 : decode cX2_copyFrom 2 = .ok (.getfield 7, 3) := by decide +kernel
theorem dX2_copyFrom_5 : decode cX2_copyFrom 5 = .ok (.putfield 7, 3) := by decide +kernel
theorem dX2_copyFrom_8 : decode cX2_copyFrom 8 = .ok (.aload_n 0, 1) := by decide +kernel
theorem dX2_copyFrom_9 : decode cX2_copyFrom 9 = .ok (.aload_n 1, 1) := by decide +kernel
theorem dX2_copyFrom_10 : decode cX2_copyFrom 10 = .ok (.getfield 13, 3) := by decide +kernel
theorem dX2_copyFrom_13 : decode cX2_copyFrom 13 = .ok (.putfield 13, 3) := by decide +kernel
theorem dX2_copyFrom_16 : decode cX2_copyFrom 16 = .ok (.aload_n 0, 1) := by decide +kernel
theorem dX2_copyFrom_17 : decode cX2_copyFrom 17 = .ok (.aload_n 1, 1) := by decide +kernel
theorem dX2_copyFrom_18 : decode cX2_copyFrom 18 = .ok (.getfield 17, 3) := by decide +kernel
theorem dX2_copyFrom_21 : decode cX2_copyFrom 21 = .ok (.putfield 17, 3) := by decide +kernel
theorem dX2_copyFrom_24 : decode cX2_copyFrom 24 = .ok (.aload_n 0, 1) := by decide +kernel
theorem dX2_copyFrom_25 : decode cX2_copyFrom 25 = .ok (.aload_n 1, 1) := by decide +kernel
theorem dX2_copyFrom_26 : decode cX2_copyFrom 26 = .ok (.getfield 20, 3) := by decide +kernel
theorem dX2_copyFrom_29 : decode cX2_copyFrom 29 = .ok (.putfield 20, 3) := by decide +kernel
theorem dX2_copyFrom_32 : decode cX2_copyFrom 32 = .ok (.aload_n 0, 1) := by decide +kernel
theorem dX2_copyFrom_33 : decode cX2_copyFrom 33 = .ok (.aload_n 1, 1) := by decide +kernel
theorem dX2_copyFrom_34 : decode cX2_copyFrom 34 = .ok (.getfield 23, 3) := by decide +kernel
theorem dX2_copyFrom_37 : decode cX2_copyFrom 37 = .ok (.putfield 23, 3) := by decide +kernel
theorem dX2_copyFrom_40 : decode cX2_copyFrom 40 = .ok (.aload_n 0, 1) := by decide +kernel
theorem dX2_copyFrom_41 : decode cX2_copyFrom 41 = .ok (.aload_n 1, 1) := by decide +kernel
theorem dX2_copyFrom_42 : decode cX2_copyFrom 42 = .ok (.getfield 26, 3) := by decide +kernel
theorem dX2_copyFrom_45 : decode cX2_copyFrom 45 = .ok (.putfield 26, 3) := by decide +kernel
theorem dX2_copyFrom_48 : decode cX2_copyFrom 48 = .ok (.aload_n 0, 1) := by decide +kernel
theorem dX2_copyFrom_49 : decode cX2_copyFrom 49 = .ok (.aload_n 1, 1) := by decide +kernel
theorem dX2_copyFrom_50 : decode cX2_copyFrom 50 = .ok (.getfield 29, 3) := by decide +kernel
theorem dX2_copyFrom_53 : decode cX2_copyFrom 53 = .ok (.putfield 29, 3) := by decide +kernel
theorem dX2_copyFrom_56 : decode cX2_copyFrom 56 = .ok (.aload_n 0, 1) := by decide +kernel
theorem dX2_copyFrom_57 : decode cX2_copyFrom 57 = .ok (.aload_n 1, 1) := by decide +kernel
theorem dX2_copyFrom_58 : decode cX2_copyFrom 58 = .ok (.getfield 32, 3) := by decide +kernel
theorem dX2_copyFrom_61 : decode cX2_copyFrom 61 = .ok (.putfield 32, 3) := by decide +kernel
theorem dX2_copyFrom_64 : decode cX2_copyFrom 64 = .ok (.return_, 1) := by decide +kernel
abbrev M_X2_copyFrom : MT := (yX2_copyFrom, cX2_copyFrom, 2, none)
theorem cf_X2_copyFrom : fq_cf M_X2_copyFrom 1 := ⟨(mg_1 (List.mem_of_getElem? (i := 11) rfl) rfl), (mg_5 (List.mem_of_getElem? (i := 30) rfl) rfl), ⟨by decide, by decide, by decide +kernel⟩, by decide⟩
def B_X2_copyFrom_0 (G : GT) (mc ms : Nat) (Q : Post) : Cn := ix_aload 0 (ix_aload 1 (ix_getJ 2 0 (ix_putJ 2 0 (ix_aload 0 (ix_aload 1 (ix_getI 2 1 (ix_putI 2 1 (ix_aload 0 (ix_aload 1 (ix_getI 2 2 (ix_putI 2 2 (ix_aload 0 (ix_aload 1 (ix_getI 2 3 (ix_putI 2 3 (ix_aload 0 (ix_aload 1 (ix_getI 2 4 (ix_putI 2 4 (ix_aload 0 (ix_aload 1 (ix_getI 2 5 (ix_putI 2 5 (ix_aload 0 (ix_aload 1 (ix_getI 2 6 (ix_putI 2 6 (ix_aload 0 (ix_aload 1 (ix_getI 2 7 (ix_putI 2 7 (ix_vret mc ms Q))))))))))))))))))))))))))))))))
theorem b_X2_copyFrom_0 {l : Launch} {G : GT} {D mc ms : Nat} {Q : Post} : Imp l G M_X2_copyFrom (D + 0) mc ms Q (B_X2_copyFrom_0 G mc ms Q) 0 := sx_aload_n dX2_copyFrom_0 rfl (sx_aload_n dX2_copyFrom_1 rfl (sx_getJ dX2_copyFrom_2 fl_FootQuarrel_Person_7 (fun _ _ _ => rfl) (sx_putJ dX2_copyFrom_5 fl_FootQuarrel_Person_7 (by decide) (fun _ _ _ => rfl) (fun _ => ⟨rfl, rfl⟩) (sx_aload_n dX2_copyFrom_8 rfl (sx_aload_n dX2_copyFrom_9 rfl (sx_getI dX2_copyFrom_10 fl_FootQuarrel_Person_13 (fun _ _ _ => rfl) (sx_putI dX2_copyFrom_13 fl_FootQuarrel_Person_13 (by decide) (fun _ _ _ => rfl) (fun _ => ⟨rfl, rfl⟩) (sx_aload_n dX2_copyFrom_16 rfl (sx_aload_n dX2_copyFrom_17 rfl (sx_getI dX2_copyFrom_18 fl_FootQuarrel_Person_17 (fun _ _ _ => rfl) (sx_putI dX2_copyFrom_21 fl_FootQuarrel_Person_17 (by decide) (fun _ _ _ => rfl) (fun _ => ⟨rfl, rfl⟩) (sx_aload_n dX2_copyFrom_24 rfl (sx_aload_n dX2_copyFrom_25 rfl (sx_getI dX2_copyFrom_26 fl_FootQuarrel_Person_20 (fun _ _ _ => rfl) (sx_putI dX2_copyFrom_29 fl_FootQuarrel_Person_20 (by decide) (fun _ _ _ => rfl) (fun _ => ⟨rfl, rfl⟩) (sx_aload_n dX2_copyFrom_32 rfl (sx_aload_n dX2_copyFrom_33 rfl (sx_getI dX2_copyFrom_34 fl_FootQuarrel_Person_23 (fun _ _ _ => rfl) (sx_putI dX2_copyFrom_37 fl_FootQuarrel_Person_23 (by decide) (fun _ _ _ => rfl) (fun _ => ⟨rfl, rfl⟩) (sx_aload_n dX2_copyFrom_40 rfl (sx_aload_n dX2_copyFrom_41 rfl (sx_getI dX2_copyFrom_42 fl_FootQuarrel_Person_26 (fun _ _ _ => rfl) (sx_putI dX2_copyFrom_45 fl_FootQuarrel_Person_26 (by decide) (fun _ _ _ => rfl) (fun _ => ⟨rfl, rfl⟩) (sx_aload_n dX2_copyFrom_48 rfl (sx_aload_n dX2_copyFrom_49 rfl (sx_getI dX2_copyFrom_50 fl_FootQuarrel_Person_29 (fun _ _ _ => rfl) (sx_putI dX2_copyFrom_53 fl_FootQuarrel_Person_29 (by decide) (fun _ _ _ => rfl) (fun _ => ⟨rfl, rfl⟩) (sx_aload_n dX2_copyFrom_56 rfl (sx_aload_n dX2_copyFrom_57 rfl (sx_getI dX2_copyFrom_58 fl_FootQuarrel_Person_32 (fun _ _ _ => rfl) (sx_putI dX2_copyFrom_61 fl_FootQuarrel_Person_32 (by decide) (fun _ _ _ => rfl) (fun _ => ⟨rfl, rfl⟩) (sx_vret dX2_copyFrom_64 rfl))))))))))))))))))))))))))))))))
theorem dX3_copyFrom_0 : decode cX3_copyFrom 0 = .ok (.aload_n 0, 1) := by decide +kernel
theorem dX3_copyFrom_1 : decode cX3_copyFrom 1 = .ok (.aload_n 1, 1) := by decide +kernel
theorem dX3_copyFrom_2 : decode cX3_copyFrom 2 = .ok (.getfield 7, 3) := by decide +kernel
theorem dX3_copyFrom_5 : decode cX3_copyFrom 5 = .ok (.putfield 7, 3) := by decide +kernel
theorem dX3_copyFrom_8 : decode cX3_copyFrom 8 = .ok (.aload_n 0, 1) := by decide +kernel
theorem dX3_copyFrom_9 : decode cX3_copyFrom 9 = .ok (.aload_n 1, 1) := by decide +kernel
theorem dX3_copyFrom_10 : decode cX3_copyFrom 10 = .ok (.getfield 13, 3) := by decide +kernel
theorem dX3_copyFrom_13 : decode cX3_copyFrom 13 = .ok (.putfield 13, 3) := by decide +kernel
theorem dX3_copyFrom_16 : decode cX3_copyFrom 16 = .ok (.aload_n 0, 1) := by decide +kernel
theorem dX3_copyFrom_17 : decode cX3_copyFrom 17 = .ok (.aload_n 1, 1) := by decide +kernel
theorem dX3_copyFrom_18 : decode cX3_copyFrom 18 = .ok (.getfield 16, 3) := by decide +kernel
theorem dX3_copyFrom_21 : decode cX3_copyFrom 21 = .ok (.putfield 16, 3) := by decide +kernel
theorem dX3_copyFrom_24 : decode cX3_copyFrom 24 = .ok (.aload_n 0, 1) := by decide +kernel
theorem dX3_copyFrom_25 : decode cX3_copyFrom 25 = .ok (.aload_n 1, 1) := by decide +kernel
theorem dX3_copyFrom_26 : decode cX3_copyFrom 26 = .ok (.getfield 19, 3) := by decide +kernel
theorem dX3_copyFrom_29 : decode cX3_copyFrom 29 = .ok (.putfield 19, 3) := by decide +kernel
theorem dX3_copyFrom_32 : decode cX3_copyFrom 32 = .ok (.aload_n 0, 1) := by decide +kernel
theorem dX3_copyFrom_33 : decode cX3_copyFrom 33 = .ok (.aload_n 1, 1) := by decide +kernel
theorem dX3_copyFrom_34 : decode cX3_copyFrom 34 = .ok (.getfield 22, 3) := by decide +kernel
theorem dX3_copyFrom_37 : decode cX3_copyFrom 37 = .ok (.putfield 22, 3) := by decide +kernel
theorem dX3_copyFrom_40 : decode cX3_copyFrom 40 = .ok (.aload_n 0, 1) := by decide +kernel
theorem dX3_copyFrom_41 : decode cX3_copyFrom 41 = .ok (.aload_n 1, 1) := by decide +kernel
theorem dX3_copyFrom_42 : decode cX3_copyFrom 42 = .ok (.getfield 25, 3) := by decide +kernel
theorem dX3_copyFrom_45 : decode cX3_copyFrom 45 = .ok (.putfield 25, 3) := by decide +kernel
theorem dX3_copyFrom_48 : decode cX3_copyFrom 48 = .ok (.aload_n 0, 1) := by decide +kernel
theorem dX3_copyFrom_49 : decode cX3_copyFrom 49 = .ok (.aload_n 1, 1) := by decide +kernel
theorem dX3_copyFrom_50 : decode cX3_copyFrom 50 = .ok (.getfield 28, 3) := by decide +kernel
theorem dX3_copyFrom_53 : decode cX3_copyFrom 53 = .ok (.putfield 28, 3) := by decide +kernel
theorem dX3_copyFrom_56 : decode cX3_copyFrom 56 = .ok (.return_, 1) := by decide +kernel
abbrev M_X3_copyFrom : MT := (yX3_copyFrom, cX3_copyFrom, 2, none)
theorem cf_X3_copyFrom : fq_cf M_X3_copyFrom 1 := ⟨(mg_1 (List.mem_of_getElem? (i := 13) rfl) rfl), (mg_6 (List.mem_of_getElem? (i := 160) rfl) rfl), ⟨by decide, by decide, by decide +kernel⟩, by decide⟩
def B_X3_copyFrom_0 (G : GT) (mc ms : Nat) (Q : Post) : Cn := ix_aload 0 (ix_aload 1 (ix_getI 3 0 (ix_putI 3 0 (ix_aload 0 (ix_aload 1 (ix_getI 3 1 (ix_putI 3 1 (ix_aload 0 (ix_aload 1 (ix_getI 3 2 (ix_putI 3 2 (ix_aload 0 (ix_aload 1 (ix_getI 3 3 (ix_putI 3 3 (ix_aload 0 (ix_aload 1 (ix_getI 3 4 (ix_putI 3 4 (ix_aload 0 (ix_aload 1 (ix_getI 3 5 (ix_putI 3 5 (ix_aload 0 (ix_aload 1 (ix_getI 3 6 (ix_putZ 3 6 (ix_vret mc ms Q))))))))))))))))))))))))))))
theorem b_X3_copyFrom_0 {l : Launch} {G : GT} {D mc ms : Nat} {Q : Post} : Imp l G M_X3_copyFrom (D + 0) mc ms Q (B_X3_copyFrom_0 G mc ms Q) 0 := sx_aload_n dX3_copyFrom_0 rfl (sx_aload_n dX3_copyFrom_1 rfl (sx_getI dX3_copyFrom_2 fl_FootQuarrel_Quarrel_7 (fun _ _ _ => rfl) (sx_putI dX3_copyFrom_5 fl_FootQuarrel_Quarrel_7 (by decide) (fun _ _ _ => rfl) (fun _ => ⟨rfl, rfl⟩) (sx_aload_n dX3_copyFrom_8 rfl (sx_aload_n dX3_copyFrom_9 rfl (sx_getI dX3_copyFrom_10 fl_FootQuarrel_Quarrel_13 (fun _ _ _ => rfl) (sx_putI dX3_copyFrom_13 fl_FootQuarrel_Quarrel_13 (by decide) (fun _ _ _ => rfl) (fun _ => ⟨rfl, rfl⟩) (sx_aload_n dX3_copyFrom_16 rfl (sx_aload_n dX3_copyFrom_17 rfl (sx_getI dX3_copyFrom_18 fl_FootQuarrel_Quarrel_16 (fun _ _ _ => rfl) (sx_putI dX3_copyFrom_21 fl_FootQuarrel_Quarrel_16 (by decide) (fun _ _ _ => rfl) (fun _ => ⟨rfl, rfl⟩) (sx_aload_n dX3_copyFrom_24 rfl (sx_aload_n dX3_copyFrom_25 rfl (sx_getI dX3_copyFrom_26 fl_FootQuarrel_Quarrel_19 (fun _ _ _ => rfl) (sx_putI dX3_copyFrom_29 fl_FootQuarrel_Quarrel_19 (by decide) (fun _ _ _ => rfl) (fun _ => ⟨rfl, rfl⟩) (sx_aload_n dX3_copyFrom_32 rfl (sx_aload_n dX3_copyFrom_33 rfl (sx_getI dX3_copyFrom_34 fl_FootQuarrel_Quarrel_22 (fun _ _ _ => rfl) (sx_putI dX3_copyFrom_37 fl_FootQuarrel_Quarrel_22 (by decide) (fun _ _ _ => rfl) (fun _ => ⟨rfl, rfl⟩) (sx_aload_n dX3_copyFrom_40 rfl (sx_aload_n dX3_copyFrom_41 rfl (sx_getI dX3_copyFrom_42 fl_FootQuarrel_Quarrel_25 (fun _ _ _ => rfl) (sx_putI dX3_copyFrom_45 fl_FootQuarrel_Quarrel_25 (by decide) (fun _ _ _ => rfl) (fun _ => ⟨rfl, rfl⟩) (sx_aload_n dX3_copyFrom_48 rfl (sx_aload_n dX3_copyFrom_49 rfl (sx_getI dX3_copyFrom_50 fl_FootQuarrel_Quarrel_28 (fun _ _ _ => rfl) (sx_putZ dX3_copyFrom_53 fl_FootQuarrel_Quarrel_28 (by decide) (fun _ _ _ => rfl) (fun v h => by rcases h with h | h <;> subst h <;> exact ⟨rfl, rfl⟩) (sx_vret dX3_copyFrom_56 rfl))))))))))))))))))))))))))))
theorem dX2_isProvoked_0 : decode cX2_isProvoked 0 = .ok (.aload_n 0, 1) := by decide +kernel
theorem dX2_isProvoked_1 : decode cX2_isProvoked 1 = .ok (.iload_n 1, 1) := by decide +kernel
theorem dX2_isProvoked_2 : decode cX2_isProvoked 2 = .ok (.invokevirtual 35, 3) := by decide +kernel
theorem dX2_isProvoked_5 : decode cX2_isProvoked 5 = .ok (.ifCond .ne 5, 3) := by decide +kernel
theorem dX2_isProvoked_8 : decode cX2_isProvoked 8 = .ok (.iconst 0, 1) := by decide +kernel
theorem dX2_isProvoked_9 : decode cX2_isProvoked 9 = .ok (.ireturn, 1) := by decide +kernel
theorem dX2_isProvoked_10 : decode cX2_isProvoked 10 = .ok (.aload_n 0, 1) := by decide +kernel
theorem dX2_isProvoked_11 : decode cX2_isProvoked 11 = .ok (.dup, 1) := by decide +kernel
theorem dX2_isProvoked_12 : decode cX2_isProvoked 12 = .ok (.getfield 29, 3) := by decide +kernel
theorem dX2_isProvoked_15 : decode cX2_isProvoked 15 = .ok (.iload_n 1, 1) := by decide +kernel
theorem dX2_isProvoked_16 : decode cX2_isProvoked 16 = .ok (.iadd, 1) := by decide +kernel
theorem dX2_isProvoked_17 : decode cX2_isProvoked 17 = .ok (.putfield 29, 3) := by decide +kernel
theorem dX2_isProvoked_20 : decode cX2_isProvoked 20 = .ok (.aload_n 0, 1) := by decide +kernel
theorem dX2_isProvoked_21 : decode cX2_isProvoked 21 = .ok (.getfield 29, 3) := by decide +kernel
theorem dX2_isProvoked_24 : decode cX2_isProvoked 24 = .ok (.aload_n 0, 1) := by decide +kernel
theorem dX2_isProvoked_25 : decode cX2_isProvoked 25 = .ok (.getfield 17, 3) := by decide +kernel
theorem dX2_isProvoked_28 : decode cX2_isProvoked 28 = .ok (.if_icmp .gt 5, 3) := by decide +kernel
theorem dX2_isProvoked_31 : decode cX2_isProvoked 31 = .ok (.iconst 0, 1) := by decide +kernel
theorem dX2_isProvoked_32 : decode cX2_isProvoked 32 = .ok (.ireturn, 1) := by decide +kernel
theorem dX2_isProvoked_33 : decode cX2_isProvoked 33 = .ok (.aload_n 0, 1) := by decide +kernel
theorem dX2_isProvoked_34 : decode cX2_isProvoked 34 = .ok (.iconst 0, 1) := by decide +kernel
theorem dX2_isProvoked_35 : decode cX2_isProvoked 35 = .ok (.putfield 29, 3) := by decide +kernel
theorem dX2_isProvoked_38 : decode cX2_isProvoked 38 = .ok (.aload_n 0, 1) := by decide +kernel
theorem dX2_isProvoked_39 : decode cX2_isProvoked 39 = .ok (.dup, 1) := by decide +kernel
theorem dX2_isProvoked_40 : decode cX2_isProvoked 40 = .ok (.getfield 32, 3) := by decide +kernel
theorem dX2_isProvoked_43 : decode cX2_isProvoked 43 = .ok (.iconst 1, 1) := by decide +kernel
theorem dX2_isProvoked_44 : decode cX2_isProvoked 44 = .ok (.iadd, 1) := by decide +kernel
theorem dX2_isProvoked_45 : decode cX2_isProvoked 45 = .ok (.putfield 32, 3) := by decide +kernel
theorem dX2_isProvoked_48 : decode cX2_isProvoked 48 = .ok (.iconst 1, 1) := by decide +kernel
theorem dX2_isProvoked_49 : decode cX2_isProvoked 49 = .ok (.ireturn, 1) := by decide +kernel
abbrev M_X2_isProvoked : MT := (yX2_isProvoked, cX2_isProvoked, 2, (some .boolean))
theorem cf_X2_isProvoked : fq_cf M_X2_isProvoked 1 := ⟨(mg_1 (List.mem_of_getElem? (i := 11) rfl) rfl), (mg_5 (List.mem_of_getElem? (i := 42) rfl) rfl), ⟨by decide, by decide, by decide +kernel⟩, by decide⟩
def B_X2_isProvoked_0 (G : GT) (mc ms : Nat) (Q : Post) : Cn := ix_aload 0 (ix_iload 1 (ix_vcall 2 2 0 0 mc ms (sp_X2_catches G) (ix_if_ne (ix_aload 0 (ix_dupR (ix_getI 2 6 (ix_iload 1 (ix_iadd (ix_putI 2 6 (ix_aload 0 (ix_getI 2 6 (ix_aload 0 (ix_getI 2 2 (ix_icmp_gt (ix_aload 0 (ix_pushI 0 (ix_putI 2 6 (ix_aload 0 (ix_dupR (ix_getI 2 7 (ix_pushI 1 (ix_iadd (ix_putI 2 7 (ix_pushI 1 (ix_zret mc ms Q))))))))))) (ix_pushI 0 (ix_zret mc ms Q))))))))))))) (ix_pushI 0 (ix_zret mc ms Q)))))
theorem b_X2_isProvoked_0 {l : Launch} {G : GT} {D mc ms : Nat} {Q : Post} : Imp l G M_X2_isProvoked (D + 1) mc ms Q (B_X2_isProvoked_0 G mc ms Q) 0 := sx_aload_n dX2_isProvoked_0 rfl (sx_iload_n dX2_isProvoked_1 rfl (sx_vcall dX2_isProvoked_2 cf_X2_catches (mg_5 (List.mem_of_getElem? (i := 43) rfl) rfl) (mg_5 (List.mem_of_getElem? (i := 44) rfl) rfl) (mg_5 (List.mem_of_getElem? (i := 45) rfl) rfl) rfl c_X2_catches (sx_if_ne 10 dX2_isProvoked_5 (by decide) (sx_aload_n dX2_isProvoked_10 rfl (sx_dupR dX2_isProvoked_11 (sx_getI dX2_isProvoked_12 fl_FootQuarrel_Person_29 (fun _ _ _ => rfl) (sx_iload_n dX2_isProvoked_15 rfl (sx_iadd dX2_isProvoked_16 (sx_putI dX2_isProvoked_17 fl_FootQuarrel_Person_29 (by decide) (fun _ _ _ => rfl) (fun _ => ⟨rfl, rfl⟩) (sx_aload_n dX2_isProvoked_20 rfl (sx_getI dX2_isProvoked_21 fl_FootQuarrel_Person_29 (fun _ _ _ => rfl) (sx_aload_n dX2_isProvoked_24 rfl (sx_getI dX2_isProvoked_25 fl_FootQuarrel_Person_17 (fun _ _ _ => rfl) (sx_icmp_gt 33 dX2_isProvoked_28 (by decide) (sx_aload_n dX2_isProvoked_33 rfl (sx_iconst dX2_isProvoked_34 rfl (sx_putI dX2_isProvoked_35 fl_FootQuarrel_Person_29 (by decide) (fun _ _ _ => rfl) (fun _ => ⟨rfl, rfl⟩) (sx_aload_n dX2_isProvoked_38 rfl (sx_dupR dX2_isProvoked_39 (sx_getI dX2_isProvoked_40 fl_FootQuarrel_Person_32 (fun _ _ _ => rfl) (sx_iconst dX2_isProvoked_43 rfl (sx_iadd dX2_isProvoked_44 (sx_putI dX2_isProvoked_45 fl_FootQuarrel_Person_32 (by decide) (fun _ _ _ => rfl) (fun _ => ⟨rfl, rfl⟩) (sx_iconst dX2_isProvoked_48 rfl (sx_zret dX2_isProvoked_49 rfl))))))))))) (sx_iconst dX2_isProvoked_31 rfl (sx_zret dX2_isProvoked_32 rfl))))))))))))) (sx_iconst dX2_isProvoked_8 rfl (sx_zret dX2_isProvoked_9 rfl)))))
theorem dX5_giveWay_0 : decode cX5_giveWay 0 = .ok (.aload_n 0, 1) := by decide +kernel
theorem dX5_giveWay_1 : decode cX5_giveWay 1 = .ok (.getfield 43, 3) := by decide +kernel
theorem dX5_giveWay_4 : decode cX5_giveWay 4 = .ok (.aload_n 0, 1) := by decide +kernel
theorem dX5_giveWay_5 : decode cX5_giveWay 5 = .ok (.getfield 16, 3) := by decide +kernel
theorem dX5_giveWay_8 : decode cX5_giveWay 8 = .ok (.iload_n 1, 1) := by decide +kernel
theorem dX5_giveWay_9 : decode cX5_giveWay 9 = .ok (.iaload, 1) := by decide +kernel
theorem dX5_giveWay_10 : decode cX5_giveWay 10 = .ok (.invokestatic 46, 3) := by decide +kernel
theorem dX5_giveWay_13 : decode cX5_giveWay 13 = .ok (.istore_n 2, 1) := by decide +kernel
theorem dX5_giveWay_14 : decode cX5_giveWay 14 = .ok (.aload_n 0, 1) := by decide +kernel
theorem dX5_giveWay_15 : decode cX5_giveWay 15 = .ok (.getfield 16, 3) := by decide +kernel
theorem dX5_giveWay_18 : decode cX5_giveWay 18 = .ok (.iload_n 1, 1) := by decide +kernel
theorem dX5_giveWay_19 : decode cX5_giveWay 19 = .ok (.dup2, 1) := by decide +kernel
theorem dX5_giveWay_20 : decode cX5_giveWay 20 = .ok (.iaload, 1) := by decide +kernel
theorem dX5_giveWay_21 : decode cX5_giveWay 21 = .ok (.iload_n 2, 1) := by decide +kernel
theorem dX5_giveWay_22 : decode cX5_giveWay 22 = .ok (.isub, 1) := by decide +kernel
theorem dX5_giveWay_23 : decode cX5_giveWay 23 = .ok (.iastore, 1) := by decide +kernel
theorem dX5_giveWay_24 : decode cX5_giveWay 24 = .ok (.aload_n 0, 1) := by decide +kernel
theorem dX5_giveWay_25 : decode cX5_giveWay 25 = .ok (.getfield 20, 3) := by decide +kernel
theorem dX5_giveWay_28 : decode cX5_giveWay 28 = .ok (.iload_n 1, 1) := by decide +kernel
theorem dX5_giveWay_29 : decode cX5_giveWay 29 = .ok (.dup2, 1) := by decide +kernel
theorem dX5_giveWay_30 : decode cX5_giveWay 30 = .ok (.iaload, 1) := by decide +kernel
theorem dX5_giveWay_31 : decode cX5_giveWay 31 = .ok (.iload_n 2, 1) := by decide +kernel
theorem dX5_giveWay_32 : decode cX5_giveWay 32 = .ok (.iadd, 1) := by decide +kernel
theorem dX5_giveWay_33 : decode cX5_giveWay 33 = .ok (.iastore, 1) := by decide +kernel
theorem dX5_giveWay_34 : decode cX5_giveWay 34 = .ok (.aload_n 0, 1) := by decide +kernel
theorem dX5_giveWay_35 : decode cX5_giveWay 35 = .ok (.getfield 16, 3) := by decide +kernel
theorem dX5_giveWay_38 : decode cX5_giveWay 38 = .ok (.iconst 1, 1) := by decide +kernel
theorem dX5_giveWay_39 : decode cX5_giveWay 39 = .ok (.iload_n 1, 1) := by decide +kernel
theorem dX5_giveWay_40 : decode cX5_giveWay 40 = .ok (.isub, 1) := by decide +kernel
theorem dX5_giveWay_41 : decode cX5_giveWay 41 = .ok (.dup2, 1) := by decide +kernel
theorem dX5_giveWay_42 : decode cX5_giveWay 42 = .ok (.iaload, 1) := by decide +kernel
theorem dX5_giveWay_43 : decode cX5_giveWay 43 = .ok (.iload_n 2, 1) := by decide +kernel
theorem dX5_giveWay_44 : decode cX5_giveWay 44 = .ok (.iadd, 1) := by decide +kernel
theorem dX5_giveWay_45 : decode cX5_giveWay 45 = .ok (.iastore, 1) := by decide +kernel
theorem dX5_giveWay_46 : decode cX5_giveWay 46 = .ok (.return_, 1) := by decide +kernel
abbrev M_X5_giveWay : MT := (yX5_giveWay, cX5_giveWay, 3, none)
theorem cf_X5_giveWay : fq_cf M_X5_giveWay 1 := ⟨(mg_1 (List.mem_of_getElem? (i := 10) rfl) rfl), (mg_5 (List.mem_of_getElem? (i := 50) rfl) rfl), ⟨by decide, by decide, by decide +kernel⟩, by decide⟩
def B_X5_giveWay_0 (G : GT) (mc ms : Nat) (Q : Post) : Cn := ix_aload 0 (ix_getI 5 3 (ix_aload 0 (ix_getR 5 1 (ix_iload 1 (ix_iald (ix_min mc ms (ix_istore 2 (ix_aload 0 (ix_getR 5 1 (ix_iload 1 (ix_dup2 (ix_iald (ix_iload 2 (ix_isub (ix_iast (ix_aload 0 (ix_getR 5 2 (ix_iload 1 (ix_dup2 (ix_iald (ix_iload 2 (ix_iadd (ix_iast (ix_aload 0 (ix_getR 5 1 (ix_pushI 1 (ix_iload 1 (ix_isub (ix_dup2 (ix_iald (ix_iload 2 (ix_iadd (ix_iast (ix_vret mc ms Q))))))))))))))))))))))))))))))))))
theorem b_X5_giveWay_0 {l : Launch} {G : GT} {D mc ms : Nat} {Q : Post} : Imp l G M_X5_giveWay (D + 1) mc ms Q (B_X5_giveWay_0 G mc ms Q) 0 := sx_aload_n dX5_giveWay_0 rfl (sx_getI dX5_giveWay_1 fl_FootQuarrel_Spat_43 (fun _ _ _ => rfl) (sx_aload_n dX5_giveWay_4 rfl (sx_getR dX5_giveWay_5 fl_FootQuarrel_Spat_16 (fun _ _ _ => rfl) (sx_iload_n dX5_giveWay_8 rfl (sx_iald dX5_giveWay_9 (sx_min dX5_giveWay_10 (mg_5 (List.mem_of_getElem? (i := 51) rfl) rfl) (mg_3 (List.mem_of_getElem? (i := 179) rfl) rfl) (mg_1 (List.mem_of_getElem? (i := 18) rfl) rfl) (mg_3 (List.mem_of_getElem? (i := 180) rfl) rfl) (sx_istore_n dX5_giveWay_13 rfl (by decide) (sx_aload_n dX5_giveWay_14 rfl (sx_getR dX5_giveWay_15 fl_FootQuarrel_Spat_16 (fun _ _ _ => rfl) (sx_iload_n dX5_giveWay_18 rfl (sx_dup2 dX5_giveWay_19 (sx_iald dX5_giveWay_20 (sx_iload_n dX5_giveWay_21 rfl (sx_isub dX5_giveWay_22 (sx_iast dX5_giveWay_23 (sx_aload_n dX5_giveWay_24 rfl (sx_getR dX5_giveWay_25 fl_FootQuarrel_Spat_20 (fun _ _ _ => rfl) (sx_iload_n dX5_giveWay_28 rfl (sx_dup2 dX5_giveWay_29 (sx_iald dX5_giveWay_30 (sx_iload_n dX5_giveWay_31 rfl (sx_iadd dX5_giveWay_32 (sx_iast dX5_giveWay_33 (sx_aload_n dX5_giveWay_34 rfl (sx_getR dX5_giveWay_35 fl_FootQuarrel_Spat_16 (fun _ _ _ => rfl) (sx_iconst dX5_giveWay_38 rfl (sx_iload_n dX5_giveWay_39 rfl (sx_isub dX5_giveWay_40 (sx_dup2 dX5_giveWay_41 (sx_iald dX5_giveWay_42 (sx_iload_n dX5_giveWay_43 rfl (sx_iadd dX5_giveWay_44 (sx_iast dX5_giveWay_45 (sx_vret dX5_giveWay_46 rfl))))))))))))))))))))))))))))))))))
def sp_X0_copyFrom (G : GT) : Sp := fun as S I J z Q => match as with
  | [.ref a, .ref b] => S.1 a = 0 ∧ S.1 b = 0 ∧ Q none S (cpF I a b 1 3) (u2 J a 0 (J b 0)) z
  | _ => False
set_option maxHeartbeats 4000000 in
set_option maxRecDepth 20000 in
theorem c_X0_copyFrom {l : Launch} {G : GT} {D : Nat} : ∀ as S I J z Q, sp_X0_copyFrom G as S I J z Q → fqCall l G M_X0_copyFrom (D + 0) 0 0 as S I J z Q := by
  intro as S I J z Q h
  unfold sp_X0_copyFrom at h
  split at h
  · next a b =>
    obtain ⟨h1, h2, hQ⟩ := h
    refine fq_enter [some (.ref a), some (.ref b)] (by decide +kernel) (Nat.le_of_ble_eq_true rfl) rfl (b_X0_copyFrom_0 _ _ _ _ _ _ _ _ ?_)
    simp (disch := omega) only [B_X0_copyFrom_0, h1, h2, u2_ck, nI_1, nI_add, nI_clamp, nI_pin, nI_neg, nI_nonneg, nI_leE, nI_ltE, nI_eqE, Nat.not_le, Nat.not_lt, fq_10, fq_01, fq_rr, ix_aald, ix_aast, ix_abs, ix_alen, ix_aload, ix_aret, ix_astore, ix_bald, ix_bast, ix_call, ix_cpyI, ix_cpyJ, ix_dead, ix_dup2, ix_dup2L, ix_dupI, ix_dupR, ix_dupx1, ix_getI, ix_getJ, ix_getR, ix_gfm, ix_gtab, ix_i2b, ix_i2c, ix_i2l, ix_i2s, ix_iadd, ix_iald, ix_iand, ix_iast, ix_icall, ix_icmp_eq, ix_icmp_ge, ix_icmp_gt, ix_icmp_le, ix_icmp_lt, ix_icmp_ne, ix_idiv, ix_if_eq, ix_if_ge, ix_if_gt, ix_if_le, ix_if_lt, ix_if_ne, ix_iinc, ix_iload, ix_imul, ix_ineg, ix_ior, ix_irem, ix_iret, ix_ishl, ix_ishr, ix_istore, ix_isub, ix_iushr, ix_ixor, ix_l2i, ix_ladd, ix_lald, ix_land, ix_last, ix_lcmp, ix_ldcS, ix_ldiv, ix_lload, ix_lmul, ix_lor, ix_lrem, ix_lret, ix_lshl, ix_lstore, ix_lsub, ix_lsw, ix_max, ix_min, ix_new, ix_newa, ix_nret, ix_oinit, ix_pop2L, ix_popI, ix_pushI, ix_pushL, ix_putI, ix_putJ, ix_putR, ix_putZ, ix_sbald, ix_sgetC, ix_sgetV, ix_slen, ix_strc, ix_tald, ix_tsw, ix_vcall, ix_vret, ix_zret, stL, stL2, kilL, popN, fq_sw, fq_lsw, List.map_cons, List.map_nil, List.getElem?_cons_zero, List.getElem?_cons_succ, Option.toList_some, Option.toList_none, List.cons_append, List.nil_append, List.length_cons, List.length_nil, List.sum_cons, List.sum_nil, cat_i, cat_l, cat_r, true_and, and_true, Nat.zero_add, Nat.add_zero, Nat.le_refl, Nat.zero_le, Nat.reduceAdd, Nat.reduceLeDiff, exists_eq_left', Option.some.injEq, not_true_eq_false, not_false_eq_true, false_implies, true_implies, implies_true, and_self, or_true, true_or, or_false, false_or]
    have e1 : u2 (u2 (u2 I a 1 (I b 1)) a 2 (I b 2)) a 3 (I b 3) = cpF I a b 1 3 := by
      funext q k
      unfold u2 cpF
      by_cases hq : q = a
      · subst hq
        rcases (show k = 0 ∨ k = 1 ∨ k = 2 ∨ k = 3 ∨ 4 ≤ k by omega) with rfl | rfl | rfl | rfl | hk
        · simp
        · simp
        · simp
        · simp
        · rw [if_neg (by omega), if_neg (by omega), if_neg (by omega), if_neg (by omega)]
      · simp [hq]
    rw [e1]
    exact hQ
  · exact h.elim
def sp_X2_copyFrom (G : GT) : Sp := fun as S I J z Q => match as with
  | [.ref a, .ref b] => S.1 a = 2 ∧ S.1 b = 2 ∧ Q none S (cpF I a b 1 7) (u2 J a 0 (J b 0)) z
  | _ => False
set_option maxHeartbeats 4000000 in
set_option maxRecDepth 20000 in
theorem c_X2_copyFrom {l : Launch} {G : GT} {D : Nat} : ∀ as S I J z Q, sp_X2_copyFrom G as S I J z Q → fqCall l G M_X2_copyFrom (D + 0) 0 0 as S I J z Q := by
  intro as S I J z Q h
  unfold sp_X2_copyFrom at h
  split at h
  · next a b =>
    obtain ⟨h1, h2, hQ⟩ := h
    refine fq_enter [some (.ref a), some (.ref b)] (by decide +kernel) (Nat.le_of_ble_eq_true rfl) rfl (b_X2_copyFrom_0 _ _ _ _ _ _ _ _ ?_)
    simp (disch := omega) only [B_X2_copyFrom_0, h1, h2, u2_ck, nI_1, nI_add, nI_clamp, nI_pin, nI_neg, nI_nonneg, nI_leE, nI_ltE, nI_eqE, Nat.not_le, Nat.not_lt, fq_10, fq_01, fq_rr, ix_aald, ix_aast, ix_abs, ix_alen, ix_aload, ix_aret, ix_astore, ix_bald, ix_bast, ix_call, ix_cpyI, ix_cpyJ, ix_dead, ix_dup2, ix_dup2L, ix_dupI, ix_dupR, ix_dupx1, ix_getI, ix_getJ, ix_getR, ix_gfm, ix_gtab, ix_i2b, ix_i2c, ix_i2l, ix_i2s, ix_iadd, ix_iald, ix_iand, ix_iast, ix_icall, ix_icmp_eq, ix_icmp_ge, ix_icmp_gt, ix_icmp_le, ix_icmp_lt, ix_icmp_ne, ix_idiv, ix_if_eq, ix_if_ge, ix_if_gt, ix_if_le, ix_if_lt, ix_if_ne, ix_iinc, ix_iload, ix_imul, ix_ineg, ix_ior, ix_irem, ix_iret, ix_ishl, ix_ishr, ix_istore, ix_isub, ix_iushr, ix_ixor, ix_l2i, ix_ladd, ix_lald, ix_land, ix_last, ix_lcmp, ix_ldcS, ix_ldiv, ix_lload, ix_lmul, ix_lor, ix_lrem, ix_lret, ix_lshl, ix_lstore, ix_lsub, ix_lsw, ix_max, ix_min, ix_new, ix_newa, ix_nret, ix_oinit, ix_pop2L, ix_popI, ix_pushI, ix_pushL, ix_putI, ix_putJ, ix_putR, ix_putZ, ix_sbald, ix_sgetC, ix_sgetV, ix_slen, ix_strc, ix_tald, ix_tsw, ix_vcall, ix_vret, ix_zret, stL, stL2, kilL, popN, fq_sw, fq_lsw, List.map_cons, List.map_nil, List.getElem?_cons_zero, List.getElem?_cons_succ, Option.toList_some, Option.toList_none, List.cons_append, List.nil_append, List.length_cons, List.length_nil, List.sum_cons, List.sum_nil, cat_i, cat_l, cat_r, true_and, and_true, Nat.zero_add, Nat.add_zero, Nat.le_refl, Nat.zero_le, Nat.reduceAdd, Nat.reduceLeDiff, exists_eq_left', Option.some.injEq, not_true_eq_false, not_false_eq_true, false_implies, true_implies, implies_true, and_self, or_true, true_or, or_false, false_or]
    have e1 : u2 (u2 (u2 (u2 (u2 (u2 (u2 I a 1 (I b 1)) a 2 (I b 2)) a 3 (I b 3)) a 4 (I b 4)) a 5 (I b 5)) a 6 (I b 6)) a 7 (I b 7) = cpF I a b 1 7 := by
      funext q k
      unfold u2 cpF
      by_cases hq : q = a
      · subst hq
        rcases (show k = 0 ∨ k = 1 ∨ k = 2 ∨ k = 3 ∨ k = 4 ∨ k = 5 ∨ k = 6 ∨ k = 7 ∨ 8 ≤ k by omega) with rfl | rfl | rfl | rfl | rfl | rfl | rfl | rfl | hk
        · simp
        · simp
        · simp
        · simp
        · simp
        · simp
        · simp
        · simp
        · rw [if_neg (by omega), if_neg (by omega), if_neg (by omega), if_neg (by omega), if_neg (by omega), if_neg (by omega), if_neg (by omega), if_neg (by omega)]
      · simp [hq]
    rw [e1]
    exact hQ
  · exact h.elim
def sp_X3_copyFrom (G : GT) : Sp := fun as S I J z Q => match as with
  | [.ref a, .ref b] => S.1 a = 3 ∧ S.1 b = 3 ∧ (I b 6 = 0 ∨ I b 6 = 1) ∧ Q none S (cpF I a b 0 6) J z
  | _ => False
set_option maxHeartbeats 4000000 in
set_option maxRecDepth 20000 in
theorem c_X3_copyFrom {l : Launch} {G : GT} {D : Nat} : ∀ as S I J z Q, sp_X3_copyFrom G as S I J z Q → fqCall l G M_X3_copyFrom (D + 0) 0 0 as S I J z Q := by
  intro as S I J z Q h
  unfold sp_X3_copyFrom at h
  split at h
  · next a b =>
    obtain ⟨h1, h2, h3, hQ⟩ := h
    refine fq_enter [some (.ref a), some (.ref b)] (by decide +kernel) (Nat.le_of_ble_eq_true rfl) rfl (b_X3_copyFrom_0 _ _ _ _ _ _ _ _ ?_)
    simp (disch := omega) only [B_X3_copyFrom_0, h1, h2, u2_ck, nI_1, nI_add, nI_clamp, nI_pin, nI_neg, nI_nonneg, nI_leE, nI_ltE, nI_eqE, Nat.not_le, Nat.not_lt, fq_10, fq_01, fq_rr, ix_aald, ix_aast, ix_abs, ix_alen, ix_aload, ix_aret, ix_astore, ix_bald, ix_bast, ix_call, ix_cpyI, ix_cpyJ, ix_dead, ix_dup2, ix_dup2L, ix_dupI, ix_dupR, ix_dupx1, ix_getI, ix_getJ, ix_getR, ix_gfm, ix_gtab, ix_i2b, ix_i2c, ix_i2l, ix_i2s, ix_iadd, ix_iald, ix_iand, ix_iast, ix_icall, ix_icmp_eq, ix_icmp_ge, ix_icmp_gt, ix_icmp_le, ix_icmp_lt, ix_icmp_ne, ix_idiv, ix_if_eq, ix_if_ge, ix_if_gt, ix_if_le, ix_if_lt, ix_if_ne, ix_iinc, ix_iload, ix_imul, ix_ineg, ix_ior, ix_irem, ix_iret, ix_ishl, ix_ishr, ix_istore, ix_isub, ix_iushr, ix_ixor, ix_l2i, ix_ladd, ix_lald, ix_land, ix_last, ix_lcmp, ix_ldcS, ix_ldiv, ix_lload, ix_lmul, ix_lor, ix_lrem, ix_lret, ix_lshl, ix_lstore, ix_lsub, ix_lsw, ix_max, ix_min, ix_new, ix_newa, ix_nret, ix_oinit, ix_pop2L, ix_popI, ix_pushI, ix_pushL, ix_putI, ix_putJ, ix_putR, ix_putZ, ix_sbald, ix_sgetC, ix_sgetV, ix_slen, ix_strc, ix_tald, ix_tsw, ix_vcall, ix_vret, ix_zret, stL, stL2, kilL, popN, fq_sw, fq_lsw, List.map_cons, List.map_nil, List.getElem?_cons_zero, List.getElem?_cons_succ, Option.toList_some, Option.toList_none, List.cons_append, List.nil_append, List.length_cons, List.length_nil, List.sum_cons, List.sum_nil, cat_i, cat_l, cat_r, true_and, and_true, Nat.zero_add, Nat.add_zero, Nat.le_refl, Nat.zero_le, Nat.reduceAdd, Nat.reduceLeDiff, exists_eq_left', Option.some.injEq, not_true_eq_false, not_false_eq_true, false_implies, true_implies, implies_true, and_self, or_true, true_or, or_false, false_or]
    have e1 : u2 (u2 (u2 (u2 (u2 (u2 (u2 I a 0 (I b 0)) a 1 (I b 1)) a 2 (I b 2)) a 3 (I b 3)) a 4 (I b 4)) a 5 (I b 5)) a 6 (I b 6) = cpF I a b 0 6 := by
      funext q k
      unfold u2 cpF
      by_cases hq : q = a
      · subst hq
        rcases (show k = 0 ∨ k = 1 ∨ k = 2 ∨ k = 3 ∨ k = 4 ∨ k = 5 ∨ k = 6 ∨ 7 ≤ k by omega) with rfl | rfl | rfl | rfl | rfl | rfl | rfl | hk
        · simp
        · simp
        · simp
        · simp
        · simp
        · simp
        · simp
        · rw [if_neg (by omega), if_neg (by omega), if_neg (by omega), if_neg (by omega), if_neg (by omega), if_neg (by omega), if_neg (by omega), if_neg (by omega)]
      · simp [hq]
    rw [e1]
    exact ⟨h3, hQ⟩
  · exact h.elim
def sp_X2_isProvoked (G : GT) : Sp := fun as S I J z Q => match as with
  | [.ref p, .int v] => S.1 p = 2 ∧ (10 ≤ v + I p 3 → (I p 2 < I p 6 + v → Q (some (.int 1)) S (u2 (u2 I p 6 0) p 7 (I p 7 + 1)) J z) ∧ (¬ I p 2 < I p 6 + v → Q (some (.int 0)) S (u2 I p 6 (I p 6 + v)) J z)) ∧ (¬ 10 ≤ v + I p 3 → Q (some (.int 0)) S I J z)
  | _ => False
set_option maxHeartbeats 4000000 in
set_option maxRecDepth 20000 in
theorem c_X2_isProvoked {l : Launch} {G : GT} {D : Nat} : ∀ as S I J z Q, sp_X2_isProvoked G as S I J z Q → fqCall l G M_X2_isProvoked (D + 1) 0 0 as S I J z Q := by
  intro as S I J z Q h
  unfold sp_X2_isProvoked at h
  split at h
  · next p v =>
    obtain ⟨h1, h2, h3⟩ := h
    have e1 : ∀ (x y : Int32), u2 (u2 (u2 I p 6 x) p 6 0) p 7 y = u2 (u2 I p 6 0) p 7 y := by
      intro x y
      funext q k
      unfold u2
      by_cases hq : q = p ∧ k = 6 <;> simp [hq]
    refine fq_enter [some (.ref p), some (.int v)] (by decide +kernel) (Nat.le_of_ble_eq_true rfl) rfl (b_X2_isProvoked_0 _ _ _ _ _ _ _ _ ?_)
    simp (disch := omega) only [B_X2_isProvoked_0, sp_X2_catches, h1, bI_01, bI_01b, bI_0, u2_ck, u2_same, Decidable.not_not, e1, nI_1, nI_add, nI_clamp, nI_pin, nI_neg, nI_nonneg, nI_leE, nI_ltE, nI_eqE, Nat.not_le, Nat.not_lt, fq_10, fq_01, fq_rr, ix_aald, ix_aast, ix_abs, ix_alen, ix_aload, ix_aret, ix_astore, ix_bald, ix_bast, ix_call, ix_cpyI, ix_cpyJ, ix_dead, ix_dup2, ix_dup2L, ix_dupI, ix_dupR, ix_dupx1, ix_getI, ix_getJ, ix_getR, ix_gfm, ix_gtab, ix_i2b, ix_i2c, ix_i2l, ix_i2s, ix_iadd, ix_iald, ix_iand, ix_iast, ix_icall, ix_icmp_eq, ix_icmp_ge, ix_icmp_gt, ix_icmp_le, ix_icmp_lt, ix_icmp_ne, ix_idiv, ix_if_eq, ix_if_ge, ix_if_gt, ix_if_le, ix_if_lt, ix_if_ne, ix_iinc, ix_iload, ix_imul, ix_ineg, ix_ior, ix_irem, ix_iret, ix_ishl, ix_ishr, ix_istore, ix_isub, ix_iushr, ix_ixor, ix_l2i, ix_ladd, ix_lald, ix_land, ix_last, ix_lcmp, ix_ldcS, ix_ldiv, ix_lload, ix_lmul, ix_lor, ix_lrem, ix_lret, ix_lshl, ix_lstore, ix_lsub, ix_lsw, ix_max, ix_min, ix_new, ix_newa, ix_nret, ix_oinit, ix_pop2L, ix_popI, ix_pushI, ix_pushL, ix_putI, ix_putJ, ix_putR, ix_putZ, ix_sbald, ix_sgetC, ix_sgetV, ix_slen, ix_strc, ix_tald, ix_tsw, ix_vcall, ix_vret, ix_zret, stL, stL2, kilL, popN, fq_sw, fq_lsw, List.map_cons, List.map_nil, List.getElem?_cons_zero, List.getElem?_cons_succ, Option.toList_some, Option.toList_none, List.cons_append, List.nil_append, List.length_cons, List.length_nil, List.sum_cons, List.sum_nil, cat_i, cat_l, cat_r, true_and, and_true, Nat.zero_add, Nat.add_zero, Nat.le_refl, Nat.zero_le, Nat.reduceAdd, Nat.reduceLeDiff, exists_eq_left', Option.some.injEq, not_true_eq_false, not_false_eq_true, false_implies, true_implies, implies_true, and_self, or_true, true_or, or_false, false_or]
    exact ⟨h2, h3⟩
  · exact h.elim
def mnI (x y : Int32) : Int32 := if y < x then y else x
def sp_X5_giveWay (G : GT) : Sp := fun as S I J z Q => match as with
  | [.ref p, .int v] => S.1 p = 5 ∧ S.2.2 p 1 = some (p + 4) ∧ S.2.2 p 2 = some (p + 5) ∧ S.1 (p + 4) = 14 ∧ S.1 (p + 5) = 14 ∧ S.2.1 (p + 4) = 2 ∧ S.2.1 (p + 5) = 2 ∧ (v = 0 → Q none S (u2 (u2 (u2 I (p + 4) 0 (I (p + 4) 0 - mnI (I p 3) (I (p + 4) 0))) (p + 5) 0 (I (p + 5) 0 + mnI (I p 3) (I (p + 4) 0))) (p + 4) 1 (I (p + 4) 1 + mnI (I p 3) (I (p + 4) 0))) J z) ∧ (v = 1 → Q none S (u2 (u2 (u2 I (p + 4) 1 (I (p + 4) 1 - mnI (I p 3) (I (p + 4) 1))) (p + 5) 1 (I (p + 5) 1 + mnI (I p 3) (I (p + 4) 1))) (p + 4) 0 (I (p + 4) 0 + mnI (I p 3) (I (p + 4) 1))) J z) ∧ (v = 0 ∨ v = 1)
  | _ => False
theorem tn0 : (0 : Int32).toNatClampNeg = 0 := by decide
theorem tn1 : (1 : Int32).toNatClampNeg = 1 := by decide
theorem vin02 : vp_in 0 2 = True := eq_true (by unfold vp_in; decide)
theorem vin12 : vp_in 1 2 = True := eq_true (by unfold vp_in; decide)
theorem i1m0 : (1 : Int32) - 0 = 1 := by decide
theorem i1m1 : (1 : Int32) - 1 = 0 := by decide
set_option maxHeartbeats 4000000 in
set_option maxRecDepth 20000 in
theorem c_X5_giveWay {l : Launch} {G : GT} {D : Nat} : ∀ as S I J z Q, sp_X5_giveWay G as S I J z Q → fqCall l G M_X5_giveWay (D + 1) 0 0 as S I J z Q := by
  intro as S I J z Q h
  unfold sp_X5_giveWay at h
  split at h
  · next p v =>
    obtain ⟨h1, h2, h3, h4, h5, h6, h7, h8, h9, h10⟩ := h
    rcases h10 with rfl | rfl
    · refine fq_enter [some (.ref p), some (.int 0), none] (by decide +kernel) (Nat.le_of_ble_eq_true rfl) rfl (b_X5_giveWay_0 _ _ _ _ _ _ _ _ ?_)
      simp (disch := omega) only [B_X5_giveWay_0, h1, h2, h3, h4, h5, h6, h7, tn0, tn1, vin02, vin12, i1m0, i1m1, u2_ca, u2_ck, nI_1, nI_add, nI_clamp, nI_pin, nI_neg, nI_nonneg, nI_leE, nI_ltE, nI_eqE, Nat.not_le, Nat.not_lt, fq_10, fq_01, fq_rr, ix_aald, ix_aast, ix_abs, ix_alen, ix_aload, ix_aret, ix_astore, ix_bald, ix_bast, ix_call, ix_cpyI, ix_cpyJ, ix_dead, ix_dup2, ix_dup2L, ix_dupI, ix_dupR, ix_dupx1, ix_getI, ix_getJ, ix_getR, ix_gfm, ix_gtab, ix_i2b, ix_i2c, ix_i2l, ix_i2s, ix_iadd, ix_iald, ix_iand, ix_iast, ix_icall, ix_icmp_eq, ix_icmp_ge, ix_icmp_gt, ix_icmp_le, ix_icmp_lt, ix_icmp_ne, ix_idiv, ix_if_eq, ix_if_ge, ix_if_gt, ix_if_le, ix_if_lt, ix_if_ne, ix_iinc, ix_iload, ix_imul, ix_ineg, ix_ior, ix_irem, ix_iret, ix_ishl, ix_ishr, ix_istore, ix_isub, ix_iushr, ix_ixor, ix_l2i, ix_ladd, ix_lald, ix_land, ix_last, ix_lcmp, ix_ldcS, ix_ldiv, ix_lload, ix_lmul, ix_lor, ix_lrem, ix_lret, ix_lshl, ix_lstore, ix_lsub, ix_lsw, ix_max, ix_min, ix_new, ix_newa, ix_nret, ix_oinit, ix_pop2L, ix_popI, ix_pushI, ix_pushL, ix_putI, ix_putJ, ix_putR, ix_putZ, ix_sbald, ix_sgetC, ix_sgetV, ix_slen, ix_strc, ix_tald, ix_tsw, ix_vcall, ix_vret, ix_zret, stL, stL2, kilL, popN, fq_sw, fq_lsw, List.map_cons, List.map_nil, List.getElem?_cons_zero, List.getElem?_cons_succ, Option.toList_some, Option.toList_none, List.cons_append, List.nil_append, List.length_cons, List.length_nil, List.sum_cons, List.sum_nil, cat_i, cat_l, cat_r, true_and, and_true, Nat.zero_add, Nat.add_zero, Nat.le_refl, Nat.zero_le, Nat.reduceAdd, Nat.reduceLeDiff, exists_eq_left', Option.some.injEq, not_true_eq_false, not_false_eq_true, false_implies, true_implies, implies_true, and_self, or_true, true_or, or_false, false_or]
      exact h8 rfl
    · refine fq_enter [some (.ref p), some (.int 1), none] (by decide +kernel) (Nat.le_of_ble_eq_true rfl) rfl (b_X5_giveWay_0 _ _ _ _ _ _ _ _ ?_)
      simp (disch := omega) only [B_X5_giveWay_0, h1, h2, h3, h4, h5, h6, h7, tn0, tn1, vin02, vin12, i1m0, i1m1, u2_ca, u2_ck, nI_1, nI_add, nI_clamp, nI_pin, nI_neg, nI_nonneg, nI_leE, nI_ltE, nI_eqE, Nat.not_le, Nat.not_lt, fq_10, fq_01, fq_rr, ix_aald, ix_aast, ix_abs, ix_alen, ix_aload, ix_aret, ix_astore, ix_bald, ix_bast, ix_call, ix_cpyI, ix_cpyJ, ix_dead, ix_dup2, ix_dup2L, ix_dupI, ix_dupR, ix_dupx1, ix_getI, ix_getJ, ix_getR, ix_gfm, ix_gtab, ix_i2b, ix_i2c, ix_i2l, ix_i2s, ix_iadd, ix_iald, ix_iand, ix_iast, ix_icall, ix_icmp_eq, ix_icmp_ge, ix_icmp_gt, ix_icmp_le, ix_icmp_lt, ix_icmp_ne, ix_idiv, ix_if_eq, ix_if_ge, ix_if_gt, ix_if_le, ix_if_lt, ix_if_ne, ix_iinc, ix_iload, ix_imul, ix_ineg, ix_ior, ix_irem, ix_iret, ix_ishl, ix_ishr, ix_istore, ix_isub, ix_iushr, ix_ixor, ix_l2i, ix_ladd, ix_lald, ix_land, ix_last, ix_lcmp, ix_ldcS, ix_ldiv, ix_lload, ix_lmul, ix_lor, ix_lrem, ix_lret, ix_lshl, ix_lstore, ix_lsub, ix_lsw, ix_max, ix_min, ix_new, ix_newa, ix_nret, ix_oinit, ix_pop2L, ix_popI, ix_pushI, ix_pushL, ix_putI, ix_putJ, ix_putR, ix_putZ, ix_sbald, ix_sgetC, ix_sgetV, ix_slen, ix_strc, ix_tald, ix_tsw, ix_vcall, ix_vret, ix_zret, stL, stL2, kilL, popN, fq_sw, fq_lsw, List.map_cons, List.map_nil, List.getElem?_cons_zero, List.getElem?_cons_succ, Option.toList_some, Option.toList_none, List.cons_append, List.nil_append, List.length_cons, List.length_nil, List.sum_cons, List.sum_nil, cat_i, cat_l, cat_r, true_and, and_true, Nat.zero_add, Nat.add_zero, Nat.le_refl, Nat.zero_le, Nat.reduceAdd, Nat.reduceLeDiff, exists_eq_left', Option.some.injEq, not_true_eq_false, not_false_eq_true, false_implies, true_implies, implies_true, and_self, or_true, true_or, or_false, false_or]
      exact h9 rfl
  · exact h.elim
/-- what two neighbours hold while they quarrel -/
def wbS (I : IH) (s : Nat) (a0 a1 h0 h1 w0 w1 l0 l1 : Int32) : IH := fun q k => if q = s + 14 ∧ k = 6 then a0 else if q = s + 15 ∧ k = 6 then a1 else if q = s + 14 ∧ k = 7 then h0 else if q = s + 15 ∧ k = 7 then h1 else if q = s + 16 ∧ k = 0 then w0 else if q = s + 16 ∧ k = 1 then w1 else if q = s + 17 ∧ k = 0 then l0 else if q = s + 17 ∧ k = 1 then l1 else I q k
abbrev S8 : Type := Int32 × Int32 × Int32 × Int32 × Int32 × Int32 × Int32 × Int32
abbrev wbT (I : IH) (s : Nat) (x : S8) : IH := wbS I s x.1 x.2.1 x.2.2.1 x.2.2.2.1 x.2.2.2.2.1 x.2.2.2.2.2.1 x.2.2.2.2.2.2.1 x.2.2.2.2.2.2.2
/-- one hears, is angrier, shouts; to and fro: c0 says that the first one tells -/
def spk (t0 t1 e0 e1 ft r : Int32) : Nat → Bool → Int32 → S8 → Nat × S8
  | 0, _, _, x => (0, x)
  | n + 1, true, v, (a0, a1, h0, h1, w0, w1, l0, l1) => if 10 ≤ v + e1 then if t1 < a1 + v then ((spk t0 t1 e0 e1 ft r n false (ldn 9 r) (a0, 0, h0, h1 + 1, w0 + mnI ft w1, w1 - mnI ft w1, l0, l1 + mnI ft w1)).1 + 1, (spk t0 t1 e0 e1 ft r n false (ldn 9 r) (a0, 0, h0, h1 + 1, w0 + mnI ft w1, w1 - mnI ft w1, l0, l1 + mnI ft w1)).2) else (0, (a0, a1 + v, h0, h1, w0, w1, l0, l1)) else (0, (a0, a1, h0, h1, w0, w1, l0, l1))
  | n + 1, false, v, (a0, a1, h0, h1, w0, w1, l0, l1) => if 10 ≤ v + e0 then if t0 < a0 + v then ((spk t0 t1 e0 e1 ft r n true (ldn 9 r) (0, a1, h0 + 1, h1, w0 - mnI ft w0, w1 + mnI ft w0, l0 + mnI ft w0, l1)).1 + 1, (spk t0 t1 e0 e1 ft r n true (ldn 9 r) (0, a1, h0 + 1, h1, w0 - mnI ft w0, w1 + mnI ft w0, l0 + mnI ft w0, l1)).2) else (0, (a0 + v, a1, h0, h1, w0, w1, l0, l1)) else (0, (a0, a1, h0, h1, w0, w1, l0, l1))
theorem dX5_speak_0 : decode cX5_speak 0 = .ok (.iload_n 1, 1) := by decide +kernel
theorem dX5_speak_1 : decode cX5_speak 1 = .ok (.istore_n 2, 1) := by decide +kernel
theorem dX5_speak_2 : decode cX5_speak 2 = .ok (.aload_n 0, 1) := by decide +kernel
theorem dX5_speak_3 : decode cX5_speak 3 = .ok (.getfield 10, 3) := by decide +kernel
theorem dX5_speak_6 : decode cX5_speak 6 = .ok (.iload_n 1, 1) := by decide +kernel
theorem dX5_speak_7 : decode cX5_speak 7 = .ok (.aaload, 1) := by decide +kernel
theorem dX5_speak_8 : decode cX5_speak 8 = .ok (.getfield 23, 3) := by decide +kernel
theorem dX5_speak_11 : decode cX5_speak 11 = .ok (.aload_n 0, 1) := by decide +kernel
theorem dX5_speak_12 : decode cX5_speak 12 = .ok (.getfield 27, 3) := by decide +kernel
theorem dX5_speak_15 : decode cX5_speak 15 = .ok (.invokestatic 31, 3) := by decide +kernel
theorem dX5_speak_18 : decode cX5_speak 18 = .ok (.istore_n 3, 1) := by decide +kernel
theorem dX5_speak_19 : decode cX5_speak 19 = .ok (.iconst 0, 1) := by decide +kernel
theorem dX5_speak_20 : decode cX5_speak 20 = .ok (.istore 4, 2) := by decide +kernel
theorem dX5_speak_22 : decode cX5_speak 22 = .ok (.iload 4, 2) := by decide +kernel
theorem dX5_speak_24 : decode cX5_speak 24 = .ok (.bipush 6, 2) := by decide +kernel
theorem dX5_speak_26 : decode cX5_speak 26 = .ok (.if_icmp .ge 50, 3) := by decide +kernel
theorem dX5_speak_29 : decode cX5_speak 29 = .ok (.iconst 1, 1) := by decide +kernel
theorem dX5_speak_30 : decode cX5_speak 30 = .ok (.iload_n 2, 1) := by decide +kernel
theorem dX5_speak_31 : decode cX5_speak 31 = .ok (.isub, 1) := by decide +kernel
theorem dX5_speak_32 : decode cX5_speak 32 = .ok (.istore 5, 2) := by decide +kernel
theorem dX5_speak_34 : decode cX5_speak 34 = .ok (.aload_n 0, 1) := by decide +kernel
theorem dX5_speak_35 : decode cX5_speak 35 = .ok (.getfield 10, 3) := by decide +kernel
theorem dX5_speak_38 : decode cX5_speak 38 = .ok (.iload 5, 2) := by decide +kernel
theorem dX5_speak_40 : decode cX5_speak 40 = .ok (.aaload, 1) := by decide +kernel
theorem dX5_speak_41 : decode cX5_speak 41 = .ok (.iload_n 3, 1) := by decide +kernel
theorem dX5_speak_42 : decode cX5_speak 42 = .ok (.invokevirtual 35, 3) := by decide +kernel
theorem dX5_speak_45 : decode cX5_speak 45 = .ok (.ifCond .ne 6, 3) := by decide +kernel
theorem dX5_speak_48 : decode cX5_speak 48 = .ok (.iload 4, 2) := by decide +kernel
theorem dX5_speak_50 : decode cX5_speak 50 = .ok (.ireturn, 1) := by decide +kernel
theorem dX5_speak_51 : decode cX5_speak 51 = .ok (.aload_n 0, 1) := by decide +kernel
theorem dX5_speak_52 : decode cX5_speak 52 = .ok (.iload 5, 2) := by decide +kernel
theorem dX5_speak_54 : decode cX5_speak 54 = .ok (.invokevirtual 39, 3) := by decide +kernel
theorem dX5_speak_57 : decode cX5_speak 57 = .ok (.iload 5, 2) := by decide +kernel
theorem dX5_speak_59 : decode cX5_speak 59 = .ok (.istore_n 2, 1) := by decide +kernel
theorem dX5_speak_60 : decode cX5_speak 60 = .ok (.bipush 9, 2) := by decide +kernel
theorem dX5_speak_62 : decode cX5_speak 62 = .ok (.aload_n 0, 1) := by decide +kernel
theorem dX5_speak_63 : decode cX5_speak 63 = .ok (.getfield 27, 3) := by decide +kernel
theorem dX5_speak_66 : decode cX5_speak 66 = .ok (.invokestatic 31, 3) := by decide +kernel
theorem dX5_speak_69 : decode cX5_speak 69 = .ok (.istore_n 3, 1) := by decide +kernel
theorem dX5_speak_70 : decode cX5_speak 70 = .ok (.iinc 4 1, 3) := by decide +kernel
theorem dX5_speak_73 : decode cX5_speak 73 = .ok (.goto (-51), 3) := by decide +kernel
theorem dX5_speak_76 : decode cX5_speak 76 = .ok (.bipush 6, 2) := by decide +kernel
theorem dX5_speak_78 : decode cX5_speak 78 = .ok (.ireturn, 1) := by decide +kernel
abbrev M_X5_speak : MT := (yX5_speak, cX5_speak, 6, (some .int))
theorem cf_X5_speak : fq_cf M_X5_speak 1 := ⟨(mg_1 (List.mem_of_getElem? (i := 10) rfl) rfl), (mg_5 (List.mem_of_getElem? (i := 34) rfl) rfl), ⟨by decide, by decide, by decide +kernel⟩, by decide⟩
def B_X5_speak_22 (l : Launch) (G : GT) (D mc ms : Nat) (Q : Post) : Cn := ix_iload 4 (ix_pushI 6 (ix_icmp_ge (ix_pushI 6 (ix_iret mc ms Q)) (ix_pushI 1 (ix_iload 2 (ix_isub (ix_istore 5 (ix_aload 0 (ix_getR 5 0 (ix_iload 5 (ix_aald 17 (ix_iload 3 (ix_vcall 2 2 0 0 mc ms (sp_X2_isProvoked G) (ix_if_ne (ix_aload 0 (ix_iload 5 (ix_vcall 5 2 0 0 mc ms (sp_X5_giveWay G) (ix_iload 5 (ix_istore 2 (ix_pushI 9 (ix_aload 0 (ix_getI 5 4 (ix_call 2 0 0 mc ms (sp_X5_loudness G) (ix_istore 3 (ix_iinc 4 1 (fqAt l G M_X5_speak (D + 2) mc ms Q 22)))))))))))) (ix_iload 4 (ix_iret mc ms Q)))))))))))))))
theorem b_X5_speak_22 {l : Launch} {G : GT} {D mc ms : Nat} {Q : Post} : Imp l G M_X5_speak (D + 2) mc ms Q (B_X5_speak_22 l G D mc ms Q) 22 := sx_iload dX5_speak_22 (sx_bipush dX5_speak_24 rfl (sx_icmp_ge 76 dX5_speak_26 (by decide) (sx_bipush dX5_speak_76 rfl (sx_iret dX5_speak_78 rfl)) (sx_iconst dX5_speak_29 rfl (sx_iload_n dX5_speak_30 rfl (sx_isub dX5_speak_31 (sx_istore dX5_speak_32 (by decide) (sx_aload_n dX5_speak_34 rfl (sx_getR dX5_speak_35 fl_FootQuarrel_Spat_10 (fun _ _ _ => rfl) (sx_iload dX5_speak_38 (sx_aald dX5_speak_40 (by decide) (by decide) rfl (sx_iload_n dX5_speak_41 rfl (sx_vcall dX5_speak_42 cf_X2_isProvoked (mg_5 (List.mem_of_getElem? (i := 39) rfl) rfl) (mg_5 (List.mem_of_getElem? (i := 40) rfl) rfl) (mg_5 (List.mem_of_getElem? (i := 41) rfl) rfl) rfl c_X2_isProvoked (sx_if_ne 51 dX5_speak_45 (by decide) (sx_aload_n dX5_speak_51 rfl (sx_iload dX5_speak_52 (sx_vcall dX5_speak_54 cf_X5_giveWay (mg_5 (List.mem_of_getElem? (i := 47) rfl) rfl) (mg_5 (List.mem_of_getElem? (i := 49) rfl) rfl) (mg_p (List.mem_of_getElem? (i := 29) rfl) rfl) rfl c_X5_giveWay (sx_iload dX5_speak_57 (sx_istore_n dX5_speak_59 rfl (by decide) (sx_bipush dX5_speak_60 rfl (sx_aload_n dX5_speak_62 rfl (sx_getI dX5_speak_63 fl_FootQuarrel_Spat_27 (fun _ _ _ => rfl) (sx_scall dX5_speak_66 cf_X5_loudness (mg_5 (List.mem_of_getElem? (i := 35) rfl) rfl) (mg_5 (List.mem_of_getElem? (i := 36) rfl) rfl) c_X5_loudness (sx_istore_n dX5_speak_69 rfl (by decide) (sx_iinc dX5_speak_70 rfl (by decide) (sx_goto 22 dX5_speak_73 (by decide) ((fun _ _ _ _ _ _ _ _ h => h)))))))))))))) (sx_iload dX5_speak_48 (sx_iret dX5_speak_50 rfl)))))))))))))))
def B_X5_speak_0 (l : Launch) (G : GT) (D mc ms : Nat) (Q : Post) : Cn := ix_iload 1 (ix_istore 2 (ix_aload 0 (ix_getR 5 0 (ix_iload 1 (ix_aald 17 (ix_getI 2 4 (ix_aload 0 (ix_getI 5 4 (ix_call 2 0 0 mc ms (sp_X5_loudness G) (ix_istore 3 (ix_pushI 0 (ix_istore 4 (fqAt l G M_X5_speak (D + 2) mc ms Q 22)))))))))))))
theorem b_X5_speak_0 {l : Launch} {G : GT} {D mc ms : Nat} {Q : Post} : Imp l G M_X5_speak (D + 2) mc ms Q (B_X5_speak_0 l G D mc ms Q) 0 := sx_iload_n dX5_speak_0 rfl (sx_istore_n dX5_speak_1 rfl (by decide) (sx_aload_n dX5_speak_2 rfl (sx_getR dX5_speak_3 fl_FootQuarrel_Spat_10 (fun _ _ _ => rfl) (sx_iload_n dX5_speak_6 rfl (sx_aald dX5_speak_7 (by decide) (by decide) rfl (sx_getI dX5_speak_8 fl_FootQuarrel_Spat_23 (fun _ _ _ => rfl) (sx_aload_n dX5_speak_11 rfl (sx_getI dX5_speak_12 fl_FootQuarrel_Spat_27 (fun _ _ _ => rfl) (sx_scall dX5_speak_15 cf_X5_loudness (mg_5 (List.mem_of_getElem? (i := 35) rfl) rfl) (mg_5 (List.mem_of_getElem? (i := 36) rfl) rfl) c_X5_loudness (sx_istore_n dX5_speak_18 rfl (by decide) (sx_iconst dX5_speak_19 rfl (sx_istore dX5_speak_20 (by decide) ((fun _ _ _ _ _ _ _ _ h => h))))))))))))))
