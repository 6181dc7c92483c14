-- a life: its steps
theorem dX1_behindEnd_0 : decode cX1_behindEnd 0 = .ok (.aload_n 1, 1) := by decide +kernel
theorem dX1_behindEnd_1 : decode cX1_behindEnd 1 = .ok (.getfield 64, 3) := by decide +kernel
theorem dX1_behindEnd_4 : decode cX1_behindEnd 4 = .ok (.iload_n 2, 1) := by decide +kernel
theorem dX1_behindEnd_5 : decode cX1_behindEnd 5 = .ok (.iaload, 1) := by decide +kernel
theorem dX1_behindEnd_6 : decode cX1_behindEnd 6 = .ok (.istore_n 3, 1) := by decide +kernel
theorem dX1_behindEnd_7 : decode cX1_behindEnd 7 = .ok (.aload_n 1, 1) := by decide +kernel
theorem dX1_behindEnd_8 : decode cX1_behindEnd 8 = .ok (.getfield 53, 3) := by decide +kernel
theorem dX1_behindEnd_11 : decode cX1_behindEnd 11 = .ok (.iload_n 3, 1) := by decide +kernel
theorem dX1_behindEnd_12 : decode cX1_behindEnd 12 = .ok (.iaload, 1) := by decide +kernel
theorem dX1_behindEnd_13 : decode cX1_behindEnd 13 = .ok (.bipush 21, 2) := by decide +kernel
theorem dX1_behindEnd_15 : decode cX1_behindEnd 15 = .ok (.if_icmp .ne 26, 3) := by decide +kernel
theorem dX1_behindEnd_18 : decode cX1_behindEnd 18 = .ok (.aload_n 0, 1) := by decide +kernel
theorem dX1_behindEnd_19 : decode cX1_behindEnd 19 = .ok (.getfield 11, 3) := by decide +kernel
theorem dX1_behindEnd_22 : decode cX1_behindEnd 22 = .ok (.iload_n 3, 1) := by decide +kernel
theorem dX1_behindEnd_23 : decode cX1_behindEnd 23 = .ok (.dup2, 1) := by decide +kernel
theorem dX1_behindEnd_24 : decode cX1_behindEnd 24 = .ok (.iaload, 1) := by decide +kernel
theorem dX1_behindEnd_25 : decode cX1_behindEnd 25 = .ok (.iconst 1, 1) := by decide +kernel
theorem dX1_behindEnd_26 : decode cX1_behindEnd 26 = .ok (.isub, 1) := by decide +kernel
theorem dX1_behindEnd_27 : decode cX1_behindEnd 27 = .ok (.iastore, 1) := by decide +kernel
theorem dX1_behindEnd_28 : decode cX1_behindEnd 28 = .ok (.aload_n 0, 1) := by decide +kernel
theorem dX1_behindEnd_29 : decode cX1_behindEnd 29 = .ok (.getfield 11, 3) := by decide +kernel
theorem dX1_behindEnd_32 : decode cX1_behindEnd 32 = .ok (.iload_n 3, 1) := by decide +kernel
theorem dX1_behindEnd_33 : decode cX1_behindEnd 33 = .ok (.iaload, 1) := by decide +kernel
theorem dX1_behindEnd_34 : decode cX1_behindEnd 34 = .ok (.ifCond .le 7, 3) := by decide +kernel
theorem dX1_behindEnd_37 : decode cX1_behindEnd 37 = .ok (.iload_n 3, 1) := by decide +kernel
theorem dX1_behindEnd_38 : decode cX1_behindEnd 38 = .ok (.iconst 1, 1) := by decide +kernel
theorem dX1_behindEnd_39 : decode cX1_behindEnd 39 = .ok (.iadd, 1) := by decide +kernel
theorem dX1_behindEnd_40 : decode cX1_behindEnd 40 = .ok (.ireturn, 1) := by decide +kernel
theorem dX1_behindEnd_41 : decode cX1_behindEnd 41 = .ok (.iload_n 2, 1) := by decide +kernel
theorem dX1_behindEnd_42 : decode cX1_behindEnd 42 = .ok (.iconst 1, 1) := by decide +kernel
theorem dX1_behindEnd_43 : decode cX1_behindEnd 43 = .ok (.iadd, 1) := by decide +kernel
theorem dX1_behindEnd_44 : decode cX1_behindEnd 44 = .ok (.ireturn, 1) := by decide +kernel
abbrev M_X1_behindEnd : MT := (yX1_behindEnd, cX1_behindEnd, 4, (some .int))
theorem cf_X1_behindEnd : fq_cf M_X1_behindEnd 2 := ⟨(mg_1 (List.mem_of_getElem? (i := 14) rfl) rfl), (mg_6 (List.mem_of_getElem? (i := 102) rfl) rfl), ⟨by decide, by decide, by decide +kernel⟩, by decide⟩
def B_X1_behindEnd_41 (G : GT) (mc ms : Nat) (Q : Post) : Cn := ix_iload 2 (ix_pushI 1 (ix_iadd (ix_iret mc ms Q)))
theorem b_X1_behindEnd_41 {l : Launch} {G : GT} {D mc ms : Nat} {Q : Post} : Imp l G M_X1_behindEnd (D + 0) mc ms Q (B_X1_behindEnd_41 G mc ms Q) 41 := sx_iload_n dX1_behindEnd_41 rfl (sx_iconst dX1_behindEnd_42 rfl (sx_iadd dX1_behindEnd_43 (sx_iret dX1_behindEnd_44 rfl)))
def B_X1_behindEnd_0 (G : GT) (mc ms : Nat) (Q : Post) : Cn := ix_aload 1 (ix_getR 9 6 (ix_iload 2 (ix_iald (ix_istore 3 (ix_aload 1 (ix_getR 9 0 (ix_iload 3 (ix_iald (ix_pushI 21 (ix_icmp_ne ((B_X1_behindEnd_41 G mc ms Q)) (ix_aload 0 (ix_getR 1 0 (ix_iload 3 (ix_dup2 (ix_iald (ix_pushI 1 (ix_isub (ix_iast (ix_aload 0 (ix_getR 1 0 (ix_iload 3 (ix_iald (ix_if_le ((B_X1_behindEnd_41 G mc ms Q)) (ix_iload 3 (ix_pushI 1 (ix_iadd (ix_iret mc ms Q)))))))))))))))))))))))))))
theorem b_X1_behindEnd_0 {l : Launch} {G : GT} {D mc ms : Nat} {Q : Post} : Imp l G M_X1_behindEnd (D + 0) mc ms Q (B_X1_behindEnd_0 G mc ms Q) 0 := sx_aload_n dX1_behindEnd_0 rfl (sx_getR dX1_behindEnd_1 fl_FootQuarrel_Life_64 (fun _ _ _ => rfl) (sx_iload_n dX1_behindEnd_4 rfl (sx_iald dX1_behindEnd_5 (sx_istore_n dX1_behindEnd_6 rfl (by decide) (sx_aload_n dX1_behindEnd_7 rfl (sx_getR dX1_behindEnd_8 fl_FootQuarrel_Life_53 (fun _ _ _ => rfl) (sx_iload_n dX1_behindEnd_11 rfl (sx_iald dX1_behindEnd_12 (sx_bipush dX1_behindEnd_13 rfl (sx_icmp_ne 41 dX1_behindEnd_15 (by decide) (b_X1_behindEnd_41) (sx_aload_n dX1_behindEnd_18 rfl (sx_getR dX1_behindEnd_19 fl_FootQuarrel_Life_11 (fun _ _ _ => rfl) (sx_iload_n dX1_behindEnd_22 rfl (sx_dup2 dX1_behindEnd_23 (sx_iald dX1_behindEnd_24 (sx_iconst dX1_behindEnd_25 rfl (sx_isub dX1_behindEnd_26 (sx_iast dX1_behindEnd_27 (sx_aload_n dX1_behindEnd_28 rfl (sx_getR dX1_behindEnd_29 fl_FootQuarrel_Life_11 (fun _ _ _ => rfl) (sx_iload_n dX1_behindEnd_32 rfl (sx_iald dX1_behindEnd_33 (sx_if_le 41 dX1_behindEnd_34 (by decide) (b_X1_behindEnd_41) (sx_iload_n dX1_behindEnd_37 rfl (sx_iconst dX1_behindEnd_38 rfl (sx_iadd dX1_behindEnd_39 (sx_iret dX1_behindEnd_40 rfl)))))))))))))))))))))))))))
def sp_X1_behindEnd (G : GT) : Sp := fun as S I J z Q => match as with
  | [.ref a0, .ref a1, .int a2] => B_X1_behindEnd_0 G 0 0 Q [some (.ref a0), some (.ref a1), some (.int a2), none] [] S I J z 0 0
  | _ => False
theorem c_X1_behindEnd {l : Launch} {G : GT} {D : Nat} : ∀ as S I J z Q, sp_X1_behindEnd G as S I J z Q → fqCall l G M_X1_behindEnd (D + 0) 0 0 as S I J z Q := by
  intro as S I J z Q h
  unfold sp_X1_behindEnd at h
  split at h
  · exact fq_enter _ (by decide +kernel) (Nat.le_of_ble_eq_true rfl) rfl (b_X1_behindEnd_0 _ _ _ _ _ _ _ _ h)
  · exact h.elim
theorem dX1_holds_0 : decode cX1_holds 0 = .ok (.aload_n 1, 1) := by decide +kernel
theorem dX1_holds_1 : decode cX1_holds 1 = .ok (.getfield 43, 3) := by decide +kernel
theorem dX1_holds_4 : decode cX1_holds 4 = .ok (.astore_n 3, 1) := by decide +kernel
theorem dX1_holds_5 : decode cX1_holds 5 = .ok (.aload_n 3, 1) := by decide +kernel
theorem dX1_holds_6 : decode cX1_holds 6 = .ok (.getfield 108, 3) := by decide +kernel
theorem dX1_holds_9 : decode cX1_holds 9 = .ok (.iload_n 2, 1) := by decide +kernel
theorem dX1_holds_10 : decode cX1_holds 10 = .ok (.iaload, 1) := by decide +kernel
theorem dX1_holds_11 : decode cX1_holds 11 = .ok (.bipush 20, 2) := by decide +kernel
theorem dX1_holds_13 : decode cX1_holds 13 = .ok (.if_icmp .ne 8, 3) := by decide +kernel
theorem dX1_holds_16 : decode cX1_holds 16 = .ok (.aload_n 1, 1) := by decide +kernel
theorem dX1_holds_17 : decode cX1_holds 17 = .ok (.getfield 111, 3) := by decide +kernel
theorem dX1_holds_20 : decode cX1_holds 20 = .ok (.ireturn, 1) := by decide +kernel
theorem dX1_holds_21 : decode cX1_holds 21 = .ok (.aload_n 3, 1) := by decide +kernel
theorem dX1_holds_22 : decode cX1_holds 22 = .ok (.getfield 67, 3) := by decide +kernel
theorem dX1_holds_25 : decode cX1_holds 25 = .ok (.iload_n 2, 1) := by decide +kernel
theorem dX1_holds_26 : decode cX1_holds 26 = .ok (.iaload, 1) := by decide +kernel
theorem dX1_holds_27 : decode cX1_holds 27 = .ok (.istore 4, 2) := by decide +kernel
theorem dX1_holds_29 : decode cX1_holds 29 = .ok (.aload_n 3, 1) := by decide +kernel
theorem dX1_holds_30 : decode cX1_holds 30 = .ok (.getfield 108, 3) := by decide +kernel
theorem dX1_holds_33 : decode cX1_holds 33 = .ok (.iload_n 2, 1) := by decide +kernel
theorem dX1_holds_34 : decode cX1_holds 34 = .ok (.iaload, 1) := by decide +kernel
theorem dX1_holds_35 : decode cX1_holds 35 = .ok (.bipush 19, 2) := by decide +kernel
theorem dX1_holds_37 : decode cX1_holds 37 = .ok (.if_icmp .ne 16, 3) := by decide +kernel
theorem dX1_holds_40 : decode cX1_holds 40 = .ok (.aload_n 1, 1) := by decide +kernel
theorem dX1_holds_41 : decode cX1_holds 41 = .ok (.getfield 114, 3) := by decide +kernel
theorem dX1_holds_44 : decode cX1_holds 44 = .ok (.iload 4, 2) := by decide +kernel
theorem dX1_holds_46 : decode cX1_holds 46 = .ok (.aaload, 1) := by decide +kernel
theorem dX1_holds_47 : decode cX1_holds 47 = .ok (.getfield 118, 3) := by decide +kernel
theorem dX1_holds_50 : decode cX1_holds 50 = .ok (.goto 13, 3) := by decide +kernel
theorem dX1_holds_53 : decode cX1_holds 53 = .ok (.aload_n 1, 1) := by decide +kernel
theorem dX1_holds_54 : decode cX1_holds 54 = .ok (.getfield 123, 3) := by decide +kernel
theorem dX1_holds_57 : decode cX1_holds 57 = .ok (.iload 4, 2) := by decide +kernel
theorem dX1_holds_59 : decode cX1_holds 59 = .ok (.aaload, 1) := by decide +kernel
theorem dX1_holds_60 : decode cX1_holds 60 = .ok (.getfield 127, 3) := by decide +kernel
theorem dX1_holds_63 : decode cX1_holds 63 = .ok (.istore 5, 2) := by decide +kernel
theorem dX1_holds_65 : decode cX1_holds 65 = .ok (.aload_n 3, 1) := by decide +kernel
theorem dX1_holds_66 : decode cX1_holds 66 = .ok (.getfield 81, 3) := by decide +kernel
theorem dX1_holds_69 : decode cX1_holds 69 = .ok (.iload_n 2, 1) := by decide +kernel
theorem dX1_holds_70 : decode cX1_holds 70 = .ok (.iaload, 1) := by decide +kernel
theorem dX1_holds_71 : decode cX1_holds 71 = .ok (.istore 6, 2) := by decide +kernel
theorem dX1_holds_73 : decode cX1_holds 73 = .ok (.aload_n 3, 1) := by decide +kernel
theorem dX1_holds_74 : decode cX1_holds 74 = .ok (.getfield 132, 3) := by decide +kernel
theorem dX1_holds_77 : decode cX1_holds 77 = .ok (.iload_n 2, 1) := by decide +kernel
theorem dX1_holds_78 : decode cX1_holds 78 = .ok (.iaload, 1) := by decide +kernel
theorem dX1_holds_79 : decode cX1_holds 79 = .ok (.lookupswitch 51 #[(60, 25), (62, 38)], 25) := by decide +kernel
theorem dX1_holds_104 : decode cX1_holds 104 = .ok (.iload 5, 2) := by decide +kernel
theorem dX1_holds_106 : decode cX1_holds 106 = .ok (.iload 6, 2) := by decide +kernel
theorem dX1_holds_108 : decode cX1_holds 108 = .ok (.if_icmp .ge 7, 3) := by decide +kernel
theorem dX1_holds_111 : decode cX1_holds 111 = .ok (.iconst 1, 1) := by decide +kernel
theorem dX1_holds_112 : decode cX1_holds 112 = .ok (.goto 4, 3) := by decide +kernel
theorem dX1_holds_115 : decode cX1_holds 115 = .ok (.iconst 0, 1) := by decide +kernel
theorem dX1_holds_116 : decode cX1_holds 116 = .ok (.ireturn, 1) := by decide +kernel
theorem dX1_holds_117 : decode cX1_holds 117 = .ok (.iload 5, 2) := by decide +kernel
theorem dX1_holds_119 : decode cX1_holds 119 = .ok (.iload 6, 2) := by decide +kernel
theorem dX1_holds_121 : decode cX1_holds 121 = .ok (.if_icmp .le 7, 3) := by decide +kernel
theorem dX1_holds_124 : decode cX1_holds 124 = .ok (.iconst 1, 1) := by decide +kernel
theorem dX1_holds_125 : decode cX1_holds 125 = .ok (.goto 4, 3) := by decide +kernel
theorem dX1_holds_128 : decode cX1_holds 128 = .ok (.iconst 0, 1) := by decide +kernel
theorem dX1_holds_129 : decode cX1_holds 129 = .ok (.ireturn, 1) := by decide +kernel
theorem dX1_holds_130 : decode cX1_holds 130 = .ok (.iload 5, 2) := by decide +kernel
theorem dX1_holds_132 : decode cX1_holds 132 = .ok (.iload 6, 2) := by decide +kernel
theorem dX1_holds_134 : decode cX1_holds 134 = .ok (.if_icmp .ne 7, 3) := by decide +kernel
theorem dX1_holds_137 : decode cX1_holds 137 = .ok (.iconst 1, 1) := by decide +kernel
theorem dX1_holds_138 : decode cX1_holds 138 = .ok (.goto 4, 3) := by decide +kernel
theorem dX1_holds_141 : decode cX1_holds 141 = .ok (.iconst 0, 1) := by decide +kernel
theorem dX1_holds_142 : decode cX1_holds 142 = .ok (.ireturn, 1) := by decide +kernel
abbrev M_X1_holds : MT := (yX1_holds, cX1_holds, 7, (some .boolean))
theorem cf_X1_holds : fq_cf M_X1_holds 2 := ⟨(mg_1 (List.mem_of_getElem? (i := 14) rfl) rfl), (mg_6 (List.mem_of_getElem? (i := 140) rfl) rfl), ⟨by decide, by decide, by decide +kernel⟩, by decide⟩
def B_X1_holds_142 (G : GT) (mc ms : Nat) (Q : Post) : Cn := ix_zret mc ms Q
theorem b_X1_holds_142 {l : Launch} {G : GT} {D mc ms : Nat} {Q : Post} : Imp l G M_X1_holds (D + 0) mc ms Q (B_X1_holds_142 G mc ms Q) 142 := sx_zret dX1_holds_142 rfl
def B_X1_holds_129 (G : GT) (mc ms : Nat) (Q : Post) : Cn := ix_zret mc ms Q
theorem b_X1_holds_129 {l : Launch} {G : GT} {D mc ms : Nat} {Q : Post} : Imp l G M_X1_holds (D + 0) mc ms Q (B_X1_holds_129 G mc ms Q) 129 := sx_zret dX1_holds_129 rfl
def B_X1_holds_116 (G : GT) (mc ms : Nat) (Q : Post) : Cn := ix_zret mc ms Q
theorem b_X1_holds_116 {l : Launch} {G : GT} {D mc ms : Nat} {Q : Post} : Imp l G M_X1_holds (D + 0) mc ms Q (B_X1_holds_116 G mc ms Q) 116 := sx_zret dX1_holds_116 rfl
def B_X1_holds_63 (G : GT) (mc ms : Nat) (Q : Post) : Cn := ix_istore 5 (ix_aload 3 (ix_getR 9 5 (ix_iload 2 (ix_iald (ix_istore 6 (ix_aload 3 (ix_getR 9 4 (ix_iload 2 (ix_iald (ix_lsw [(60, ix_iload 5 (ix_iload 6 (ix_icmp_ge (ix_pushI 0 ((B_X1_holds_116 G mc ms Q))) (ix_pushI 1 ((B_X1_holds_116 G mc ms Q)))))), (62, ix_iload 5 (ix_iload 6 (ix_icmp_le (ix_pushI 0 ((B_X1_holds_129 G mc ms Q))) (ix_pushI 1 ((B_X1_holds_129 G mc ms Q))))))] (ix_iload 5 (ix_iload 6 (ix_icmp_ne (ix_pushI 0 ((B_X1_holds_142 G mc ms Q))) (ix_pushI 1 ((B_X1_holds_142 G mc ms Q))))))))))))))))
theorem b_X1_holds_63 {l : Launch} {G : GT} {D mc ms : Nat} {Q : Post} : Imp l G M_X1_holds (D + 0) mc ms Q (B_X1_holds_63 G mc ms Q) 63 := sx_istore dX1_holds_63 (by decide) (sx_aload_n dX1_holds_65 rfl (sx_getR dX1_holds_66 fl_FootQuarrel_Life_81 (fun _ _ _ => rfl) (sx_iload_n dX1_holds_69 rfl (sx_iald dX1_holds_70 (sx_istore dX1_holds_71 (by decide) (sx_aload_n dX1_holds_73 rfl (sx_getR dX1_holds_74 fl_FootQuarrel_Life_132 (fun _ _ _ => rfl) (sx_iload_n dX1_holds_77 rfl (sx_iald dX1_holds_78 (sx_lswA [104, 117] 130 dX1_holds_79 rfl rfl (by decide) (by decide) (by decide) ⟨sx_iload dX1_holds_104 (sx_iload dX1_holds_106 (sx_icmp_ge 115 dX1_holds_108 (by decide) (sx_iconst dX1_holds_115 rfl (b_X1_holds_116)) (sx_iconst dX1_holds_111 rfl (sx_goto 116 dX1_holds_112 (by decide) (b_X1_holds_116))))), ⟨sx_iload dX1_holds_117 (sx_iload dX1_holds_119 (sx_icmp_le 128 dX1_holds_121 (by decide) (sx_iconst dX1_holds_128 rfl (b_X1_holds_129)) (sx_iconst dX1_holds_124 rfl (sx_goto 129 dX1_holds_125 (by decide) (b_X1_holds_129))))), trivial⟩⟩ (sx_iload dX1_holds_130 (sx_iload dX1_holds_132 (sx_icmp_ne 141 dX1_holds_134 (by decide) (sx_iconst dX1_holds_141 rfl (b_X1_holds_142)) (sx_iconst dX1_holds_137 rfl (sx_goto 142 dX1_holds_138 (by decide) (b_X1_holds_142))))))))))))))))
def B_X1_holds_0 (G : GT) (mc ms : Nat) (Q : Post) : Cn := ix_aload 1 (ix_getR 6 3 (ix_astore 3 (ix_aload 3 (ix_getR 9 1 (ix_iload 2 (ix_iald (ix_pushI 20 (ix_icmp_ne (ix_aload 3 (ix_getR 9 2 (ix_iload 2 (ix_iald (ix_istore 4 (ix_aload 3 (ix_getR 9 1 (ix_iload 2 (ix_iald (ix_pushI 19 (ix_icmp_ne (ix_aload 1 (ix_getR 6 0 (ix_iload 4 (ix_aald 16 (ix_getI 0 2 ((B_X1_holds_63 G mc ms Q))))))) (ix_aload 1 (ix_getR 6 1 (ix_iload 4 (ix_aald 17 (ix_getI 2 6 ((B_X1_holds_63 G mc ms Q)))))))))))))))))) (ix_aload 1 (ix_getI 6 16 (ix_zret mc ms Q)))))))))))
theorem b_X1_holds_0 {l : Launch} {G : GT} {D mc ms : Nat} {Q : Post} : Imp l G M_X1_holds (D + 0) mc ms Q (B_X1_holds_0 G mc ms Q) 0 := sx_aload_n dX1_holds_0 rfl (sx_getR dX1_holds_1 fl_FootQuarrel_Life_43 (fun _ _ _ => rfl) (sx_astore_n dX1_holds_4 rfl (by decide) (sx_aload_n dX1_holds_5 rfl (sx_getR dX1_holds_6 fl_FootQuarrel_Life_108 (fun _ _ _ => rfl) (sx_iload_n dX1_holds_9 rfl (sx_iald dX1_holds_10 (sx_bipush dX1_holds_11 rfl (sx_icmp_ne 21 dX1_holds_13 (by decide) (sx_aload_n dX1_holds_21 rfl (sx_getR dX1_holds_22 fl_FootQuarrel_Life_67 (fun _ _ _ => rfl) (sx_iload_n dX1_holds_25 rfl (sx_iald dX1_holds_26 (sx_istore dX1_holds_27 (by decide) (sx_aload_n dX1_holds_29 rfl (sx_getR dX1_holds_30 fl_FootQuarrel_Life_108 (fun _ _ _ => rfl) (sx_iload_n dX1_holds_33 rfl (sx_iald dX1_holds_34 (sx_bipush dX1_holds_35 rfl (sx_icmp_ne 53 dX1_holds_37 (by decide) (sx_aload_n dX1_holds_53 rfl (sx_getR dX1_holds_54 fl_FootQuarrel_Life_123 (fun _ _ _ => rfl) (sx_iload dX1_holds_57 (sx_aald dX1_holds_59 (by decide) (by decide) rfl (sx_getI dX1_holds_60 fl_FootQuarrel_Life_127 (fun _ _ _ => rfl) (b_X1_holds_63)))))) (sx_aload_n dX1_holds_40 rfl (sx_getR dX1_holds_41 fl_FootQuarrel_Life_114 (fun _ _ _ => rfl) (sx_iload dX1_holds_44 (sx_aald dX1_holds_46 (by decide) (by decide) rfl (sx_getI dX1_holds_47 fl_FootQuarrel_Life_118 (fun _ _ _ => rfl) (sx_goto 63 dX1_holds_50 (by decide) (b_X1_holds_63)))))))))))))))))) (sx_aload_n dX1_holds_16 rfl (sx_getI dX1_holds_17 fl_FootQuarrel_Life_111 (fun _ _ _ => rfl) (sx_zret dX1_holds_20 rfl)))))))))))
def sp_X1_holds (G : GT) : Sp := fun as S I J z Q => match as with
  | [.ref a0, .ref a1, .int a2] => B_X1_holds_0 G 0 0 Q [some (.ref a0), some (.ref a1), some (.int a2), none, none, none, none] [] S I J z 0 0
  | _ => False
theorem c_X1_holds {l : Launch} {G : GT} {D : Nat} : ∀ as S I J z Q, sp_X1_holds G as S I J z Q → fqCall l G M_X1_holds (D + 0) 0 0 as S I J z Q := by
  intro as S I J z Q h
  unfold sp_X1_holds at h
  split at h
  · exact fq_enter _ (by decide +kernel) (Nat.le_of_ble_eq_true rfl) rfl (b_X1_holds_0 _ _ _ _ _ _ _ _ h)
  · exact h.elim
theorem dX1_draw_0 : decode cX1_draw 0 = .ok (.aload_n 0, 1) := by decide +kernel
theorem dX1_draw_1 : decode cX1_draw 1 = .ok (.aload_n 0, 1) := by decide +kernel
theorem dX1_draw_2 : decode cX1_draw 2 = .ok (.getfield 17, 3) := by decide +kernel
theorem dX1_draw_5 : decode cX1_draw 5 = .ok (.sipush 3067, 3) := by decide +kernel
theorem dX1_draw_8 : decode cX1_draw 8 = .ok (.imul, 1) := by decide +kernel
theorem dX1_draw_9 : decode cX1_draw 9 = .ok (.sipush 11287, 3) := by decide +kernel
theorem dX1_draw_12 : decode cX1_draw 12 = .ok (.iadd, 1) := by decide +kernel
theorem dX1_draw_13 : decode cX1_draw 13 = .ok (.ldc 161, 2) := by decide +kernel
theorem dX1_draw_15 : decode cX1_draw 15 = .ok (.irem, 1) := by decide +kernel
theorem dX1_draw_16 : decode cX1_draw 16 = .ok (.putfield 17, 3) := by decide +kernel
theorem dX1_draw_19 : decode cX1_draw 19 = .ok (.aload_n 0, 1) := by decide +kernel
theorem dX1_draw_20 : decode cX1_draw 20 = .ok (.getfield 17, 3) := by decide +kernel
theorem dX1_draw_23 : decode cX1_draw 23 = .ok (.bipush 8, 2) := by decide +kernel
theorem dX1_draw_25 : decode cX1_draw 25 = .ok (.idiv, 1) := by decide +kernel
theorem dX1_draw_26 : decode cX1_draw 26 = .ok (.iload_n 1, 1) := by decide +kernel
theorem dX1_draw_27 : decode cX1_draw 27 = .ok (.irem, 1) := by decide +kernel
theorem dX1_draw_28 : decode cX1_draw 28 = .ok (.ireturn, 1) := by decide +kernel
abbrev M_X1_draw : MT := (yX1_draw, cX1_draw, 2, (some .int))
theorem cf_X1_draw : fq_cf M_X1_draw 1 := ⟨(mg_1 (List.mem_of_getElem? (i := 14) rfl) rfl), (mg_6 (List.mem_of_getElem? (i := 131) rfl) rfl), ⟨by decide, by decide, by decide +kernel⟩, by decide⟩
def B_X1_draw_0 (G : GT) (mc ms : Nat) (Q : Post) : Cn := ix_aload 0 (ix_aload 0 (ix_getI 1 1 (ix_pushI 3067 (ix_imul (ix_pushI 11287 (ix_iadd (ix_pushI 65536 (ix_irem (ix_putI 1 1 (ix_aload 0 (ix_getI 1 1 (ix_pushI 8 (ix_idiv (ix_iload 1 (ix_irem (ix_iret mc ms Q))))))))))))))))
theorem b_X1_draw_0 {l : Launch} {G : GT} {D mc ms : Nat} {Q : Post} : Imp l G M_X1_draw (D + 0) mc ms Q (B_X1_draw_0 G mc ms Q) 0 := sx_aload_n dX1_draw_0 rfl (sx_aload_n dX1_draw_1 rfl (sx_getI dX1_draw_2 fl_FootQuarrel_Life_17 (fun _ _ _ => rfl) (sx_sipush dX1_draw_5 rfl (sx_imul dX1_draw_8 (sx_sipush dX1_draw_9 rfl (sx_iadd dX1_draw_12 (sx_ldc dX1_draw_13 (mg_6 (List.mem_of_getElem? (i := 132) rfl) rfl) (sx_irem dX1_draw_15 (sx_putI dX1_draw_16 fl_FootQuarrel_Life_17 (by decide) (fun _ _ _ => rfl) (fun _ => ⟨rfl, rfl⟩) (sx_aload_n dX1_draw_19 rfl (sx_getI dX1_draw_20 fl_FootQuarrel_Life_17 (fun _ _ _ => rfl) (sx_bipush dX1_draw_23 rfl (sx_idiv dX1_draw_25 (sx_iload_n dX1_draw_26 rfl (sx_irem dX1_draw_27 (sx_iret dX1_draw_28 rfl))))))))))))))))
def sp_X1_draw (G : GT) : Sp := fun as S I J z Q => match as with
  | [.ref a0, .int a1] => B_X1_draw_0 G 0 0 Q [some (.ref a0), some (.int a1)] [] S I J z 0 0
  | _ => False
theorem c_X1_draw {l : Launch} {G : GT} {D : Nat} : ∀ as S I J z Q, sp_X1_draw G as S I J z Q → fqCall l G M_X1_draw (D + 0) 0 0 as S I J z Q := by
  intro as S I J z Q h
  unfold sp_X1_draw at h
  split at h
  · exact fq_enter _ (by decide +kernel) (Nat.le_of_ble_eq_true rfl) rfl (b_X1_draw_0 _ _ _ _ _ _ _ _ h)
  · exact h.elim
theorem dX1_speak_0 : decode cX1_speak 0 = .ok (.aload_n 1, 1) := by decide +kernel
theorem dX1_speak_1 : decode cX1_speak 1 = .ok (.iload_n 2, 1) := by decide +kernel
theorem dX1_speak_2 : decode cX1_speak 2 = .ok (.iload_n 3, 1) := by decide +kernel
theorem dX1_speak_3 : decode cX1_speak 3 = .ok (.invokevirtual 135, 3) := by decide +kernel
theorem dX1_speak_6 : decode cX1_speak 6 = .ok (.iconst (-1), 1) := by decide +kernel
theorem dX1_speak_7 : decode cX1_speak 7 = .ok (.if_icmp .ne 14, 3) := by decide +kernel
theorem dX1_speak_10 : decode cX1_speak 10 = .ok (.aload_n 0, 1) := by decide +kernel
theorem dX1_speak_11 : decode cX1_speak 11 = .ok (.dup, 1) := by decide +kernel
theorem dX1_speak_12 : decode cX1_speak 12 = .ok (.getfield 24, 3) := by decide +kernel
theorem dX1_speak_15 : decode cX1_speak 15 = .ok (.iconst 1, 1) := by decide +kernel
theorem dX1_speak_16 : decode cX1_speak 16 = .ok (.iadd, 1) := by decide +kernel
theorem dX1_speak_17 : decode cX1_speak 17 = .ok (.putfield 24, 3) := by decide +kernel
theorem dX1_speak_20 : decode cX1_speak 20 = .ok (.return_, 1) := by decide +kernel
theorem dX1_speak_21 : decode cX1_speak 21 = .ok (.aload_n 0, 1) := by decide +kernel
theorem dX1_speak_22 : decode cX1_speak 22 = .ok (.dup, 1) := by decide +kernel
theorem dX1_speak_23 : decode cX1_speak 23 = .ok (.getfield 30, 3) := by decide +kernel
theorem dX1_speak_26 : decode cX1_speak 26 = .ok (.iconst 1, 1) := by decide +kernel
theorem dX1_speak_27 : decode cX1_speak 27 = .ok (.iadd, 1) := by decide +kernel
theorem dX1_speak_28 : decode cX1_speak 28 = .ok (.putfield 30, 3) := by decide +kernel
theorem dX1_speak_31 : decode cX1_speak 31 = .ok (.aload_n 0, 1) := by decide +kernel
theorem dX1_speak_32 : decode cX1_speak 32 = .ok (.dup, 1) := by decide +kernel
theorem dX1_speak_33 : decode cX1_speak 33 = .ok (.getfield 33, 3) := by decide +kernel
theorem dX1_speak_36 : decode cX1_speak 36 = .ok (.aload_n 1, 1) := by decide +kernel
theorem dX1_speak_37 : decode cX1_speak 37 = .ok (.iload_n 2, 1) := by decide +kernel
theorem dX1_speak_38 : decode cX1_speak 38 = .ok (.iload_n 3, 1) := by decide +kernel
theorem dX1_speak_39 : decode cX1_speak 39 = .ok (.invokevirtual 139, 3) := by decide +kernel
theorem dX1_speak_42 : decode cX1_speak 42 = .ok (.iadd, 1) := by decide +kernel
theorem dX1_speak_43 : decode cX1_speak 43 = .ok (.putfield 33, 3) := by decide +kernel
theorem dX1_speak_46 : decode cX1_speak 46 = .ok (.return_, 1) := by decide +kernel
abbrev M_X1_speak : MT := (yX1_speak, cX1_speak, 4, none)
theorem cf_X1_speak : fq_cf M_X1_speak 3 := ⟨(mg_1 (List.mem_of_getElem? (i := 14) rfl) rfl), (mg_6 (List.mem_of_getElem? (i := 110) rfl) rfl), ⟨by decide, by decide, by decide +kernel⟩, by decide⟩
def B_X1_speak_0 (G : GT) (mc ms : Nat) (Q : Post) : Cn := ix_aload 1 (ix_iload 2 (ix_iload 3 (ix_vcall 6 3 0 0 mc ms (sp_X6_sharedWall G) (ix_pushI (-1) (ix_icmp_ne (ix_aload 0 (ix_dupR (ix_getI 1 7 (ix_pushI 1 (ix_iadd (ix_putI 1 7 (ix_aload 0 (ix_dupR (ix_getI 1 8 (ix_aload 1 (ix_iload 2 (ix_iload 3 (ix_vcall 6 3 0 0 mc ms (sp_X6_utter G) (ix_iadd (ix_putI 1 8 (ix_vret mc ms Q)))))))))))))))) (ix_aload 0 (ix_dupR (ix_getI 1 5 (ix_pushI 1 (ix_iadd (ix_putI 1 5 (ix_vret mc ms Q))))))))))))
theorem b_X1_speak_0 {l : Launch} {G : GT} {D mc ms : Nat} {Q : Post} : Imp l G M_X1_speak (D + 4) mc ms Q (B_X1_speak_0 G mc ms Q) 0 := sx_aload_n dX1_speak_0 rfl (sx_iload_n dX1_speak_1 rfl (sx_iload_n dX1_speak_2 rfl (sx_vcall dX1_speak_3 cf_X6_sharedWall (mg_6 (List.mem_of_getElem? (i := 111) rfl) rfl) (mg_4 (List.mem_of_getElem? (i := 233) rfl) rfl) (mg_4 (List.mem_of_getElem? (i := 234) rfl) rfl) rfl c_X6_sharedWall (sx_iconst dX1_speak_6 rfl (sx_icmp_ne 21 dX1_speak_7 (by decide) (sx_aload_n dX1_speak_21 rfl (sx_dupR dX1_speak_22 (sx_getI dX1_speak_23 fl_FootQuarrel_Life_30 (fun _ _ _ => rfl) (sx_iconst dX1_speak_26 rfl (sx_iadd dX1_speak_27 (sx_putI dX1_speak_28 fl_FootQuarrel_Life_30 (by decide) (fun _ _ _ => rfl) (fun _ => ⟨rfl, rfl⟩) (sx_aload_n dX1_speak_31 rfl (sx_dupR dX1_speak_32 (sx_getI dX1_speak_33 fl_FootQuarrel_Life_33 (fun _ _ _ => rfl) (sx_aload_n dX1_speak_36 rfl (sx_iload_n dX1_speak_37 rfl (sx_iload_n dX1_speak_38 rfl (sx_vcall dX1_speak_39 cf_X6_utter (mg_6 (List.mem_of_getElem? (i := 112) rfl) rfl) (mg_5 (List.mem_of_getElem? (i := 20) rfl) rfl) (mg_5 (List.mem_of_getElem? (i := 21) rfl) rfl) rfl c_X6_utter (sx_iadd dX1_speak_42 (sx_putI dX1_speak_43 fl_FootQuarrel_Life_33 (by decide) (fun _ _ _ => rfl) (fun _ => ⟨rfl, rfl⟩) (sx_vret dX1_speak_46 rfl)))))))))))))))) (sx_aload_n dX1_speak_10 rfl (sx_dupR dX1_speak_11 (sx_getI dX1_speak_12 fl_FootQuarrel_Life_24 (fun _ _ _ => rfl) (sx_iconst dX1_speak_15 rfl (sx_iadd dX1_speak_16 (sx_putI dX1_speak_17 fl_FootQuarrel_Life_24 (by decide) (fun _ _ _ => rfl) (fun _ => ⟨rfl, rfl⟩) (sx_vret dX1_speak_20 rfl))))))))))))
def sp_X1_speak (G : GT) : Sp := fun as S I J z Q => match as with
  | [.ref a0, .ref a1, .int a2, .int a3] => B_X1_speak_0 G 0 0 Q [some (.ref a0), some (.ref a1), some (.int a2), some (.int a3)] [] S I J z 0 0
  | _ => False
theorem c_X1_speak {l : Launch} {G : GT} {D : Nat} : ∀ as S I J z Q, sp_X1_speak G as S I J z Q → fqCall l G M_X1_speak (D + 4) 0 0 as S I J z Q := by
  intro as S I J z Q h
  unfold sp_X1_speak at h
  split at h
  · exact fq_enter _ (by decide +kernel) (Nat.le_of_ble_eq_true rfl) rfl (b_X1_speak_0 _ _ _ _ _ _ _ _ h)
  · exact h.elim
theorem dX1_regret_0 : decode cX1_regret 0 = .ok (.aload_n 1, 1) := by decide +kernel
theorem dX1_regret_1 : decode cX1_regret 1 = .ok (.iconst 0, 1) := by decide +kernel
theorem dX1_regret_2 : decode cX1_regret 2 = .ok (.invokevirtual 142, 3) := by decide +kernel
theorem dX1_regret_5 : decode cX1_regret 5 = .ok (.ifCond .eq 12, 3) := by decide +kernel
theorem dX1_regret_8 : decode cX1_regret 8 = .ok (.aload_n 1, 1) := by decide +kernel
theorem dX1_regret_9 : decode cX1_regret 9 = .ok (.iconst 0, 1) := by decide +kernel
theorem dX1_regret_10 : decode cX1_regret 10 = .ok (.invokevirtual 146, 3) := by decide +kernel
theorem dX1_regret_13 : decode cX1_regret 13 = .ok (.pop, 1) := by decide +kernel
theorem dX1_regret_14 : decode cX1_regret 14 = .ok (.goto 13, 3) := by decide +kernel
theorem dX1_regret_17 : decode cX1_regret 17 = .ok (.aload_n 0, 1) := by decide +kernel
theorem dX1_regret_18 : decode cX1_regret 18 = .ok (.dup, 1) := by decide +kernel
theorem dX1_regret_19 : decode cX1_regret 19 = .ok (.getfield 24, 3) := by decide +kernel
theorem dX1_regret_22 : decode cX1_regret 22 = .ok (.iconst 1, 1) := by decide +kernel
theorem dX1_regret_23 : decode cX1_regret 23 = .ok (.iadd, 1) := by decide +kernel
theorem dX1_regret_24 : decode cX1_regret 24 = .ok (.putfield 24, 3) := by decide +kernel
theorem dX1_regret_27 : decode cX1_regret 27 = .ok (.return_, 1) := by decide +kernel
abbrev M_X1_regret : MT := (yX1_regret, cX1_regret, 2, none)
theorem cf_X1_regret : fq_cf M_X1_regret 1 := ⟨(mg_1 (List.mem_of_getElem? (i := 14) rfl) rfl), (mg_6 (List.mem_of_getElem? (i := 116) rfl) rfl), ⟨by decide, by decide, by decide +kernel⟩, by decide⟩
def B_X1_regret_27 (G : GT) (mc ms : Nat) (Q : Post) : Cn := ix_vret mc ms Q
theorem b_X1_regret_27 {l : Launch} {G : GT} {D mc ms : Nat} {Q : Post} : Imp l G M_X1_regret (D + 3) mc ms Q (B_X1_regret_27 G mc ms Q) 27 := sx_vret dX1_regret_27 rfl
def B_X1_regret_0 (G : GT) (mc ms : Nat) (Q : Post) : Cn := ix_aload 1 (ix_pushI 0 (ix_vcall 6 2 0 0 mc ms (sp_X6_canRegret G) (ix_if_eq (ix_aload 0 (ix_dupR (ix_getI 1 5 (ix_pushI 1 (ix_iadd (ix_putI 1 5 ((B_X1_regret_27 G mc ms Q)))))))) (ix_aload 1 (ix_pushI 0 (ix_vcall 6 2 0 0 mc ms (sp_X6_regret G) (ix_popI ((B_X1_regret_27 G mc ms Q)))))))))
theorem b_X1_regret_0 {l : Launch} {G : GT} {D mc ms : Nat} {Q : Post} : Imp l G M_X1_regret (D + 3) mc ms Q (B_X1_regret_0 G mc ms Q) 0 := sx_aload_n dX1_regret_0 rfl (sx_iconst dX1_regret_1 rfl (sx_vcall dX1_regret_2 cf_X6_canRegret (mg_6 (List.mem_of_getElem? (i := 117) rfl) rfl) (mg_5 (List.mem_of_getElem? (i := 66) rfl) rfl) (mg_5 (List.mem_of_getElem? (i := 67) rfl) rfl) rfl c_X6_canRegret (sx_if_eq 17 dX1_regret_5 (by decide) (sx_aload_n dX1_regret_17 rfl (sx_dupR dX1_regret_18 (sx_getI dX1_regret_19 fl_FootQuarrel_Life_24 (fun _ _ _ => rfl) (sx_iconst dX1_regret_22 rfl (sx_iadd dX1_regret_23 (sx_putI dX1_regret_24 fl_FootQuarrel_Life_24 (by decide) (fun _ _ _ => rfl) (fun _ => ⟨rfl, rfl⟩) (b_X1_regret_27))))))) (sx_aload_n dX1_regret_8 rfl (sx_iconst dX1_regret_9 rfl (sx_vcall dX1_regret_10 cf_X6_regret (mg_6 (List.mem_of_getElem? (i := 118) rfl) rfl) (mg_5 (List.mem_of_getElem? (i := 71) rfl) rfl) (mg_5 (List.mem_of_getElem? (i := 72) rfl) rfl) rfl c_X6_regret (sx_popI dX1_regret_13 (sx_goto 27 dX1_regret_14 (by decide) (b_X1_regret_27)))))))))
def sp_X1_regret (G : GT) : Sp := fun as S I J z Q => match as with
  | [.ref a0, .ref a1] => B_X1_regret_0 G 0 0 Q [some (.ref a0), some (.ref a1)] [] S I J z 0 0
  | _ => False
theorem c_X1_regret {l : Launch} {G : GT} {D : Nat} : ∀ as S I J z Q, sp_X1_regret G as S I J z Q → fqCall l G M_X1_regret (D + 3) 0 0 as S I J z Q := by
  intro as S I J z Q h
  unfold sp_X1_regret at h
  split at h
  · exact fq_enter _ (by decide +kernel) (Nat.le_of_ble_eq_true rfl) rfl (b_X1_regret_0 _ _ _ _ _ _ _ _ h)
  · exact h.elim
theorem dX1_sleep_0 : decode cX1_sleep 0 = .ok (.aload_n 1, 1) := by decide +kernel
theorem dX1_sleep_1 : decode cX1_sleep 1 = .ok (.getfield 149, 3) := by decide +kernel
theorem dX1_sleep_4 : decode cX1_sleep 4 = .ok (.iload_n 2, 1) := by decide +kernel
theorem dX1_sleep_5 : decode cX1_sleep 5 = .ok (.iadd, 1) := by decide +kernel
theorem dX1_sleep_6 : decode cX1_sleep 6 = .ok (.sipush 9999, 3) := by decide +kernel
theorem dX1_sleep_9 : decode cX1_sleep 9 = .ok (.if_icmp .le 14, 3) := by decide +kernel
theorem dX1_sleep_12 : decode cX1_sleep 12 = .ok (.aload_n 0, 1) := by decide +kernel
theorem dX1_sleep_13 : decode cX1_sleep 13 = .ok (.dup, 1) := by decide +kernel
theorem dX1_sleep_14 : decode cX1_sleep 14 = .ok (.getfield 24, 3) := by decide +kernel
theorem dX1_sleep_17 : decode cX1_sleep 17 = .ok (.iconst 1, 1) := by decide +kernel
theorem dX1_sleep_18 : decode cX1_sleep 18 = .ok (.iadd, 1) := by decide +kernel
theorem dX1_sleep_19 : decode cX1_sleep 19 = .ok (.putfield 24, 3) := by decide +kernel
theorem dX1_sleep_22 : decode cX1_sleep 22 = .ok (.return_, 1) := by decide +kernel
theorem dX1_sleep_23 : decode cX1_sleep 23 = .ok (.aload_n 0, 1) := by decide +kernel
theorem dX1_sleep_24 : decode cX1_sleep 24 = .ok (.dup, 1) := by decide +kernel
theorem dX1_sleep_25 : decode cX1_sleep 25 = .ok (.getfield 27, 3) := by decide +kernel
theorem dX1_sleep_28 : decode cX1_sleep 28 = .ok (.iload_n 2, 1) := by decide +kernel
theorem dX1_sleep_29 : decode cX1_sleep 29 = .ok (.iadd, 1) := by decide +kernel
theorem dX1_sleep_30 : decode cX1_sleep 30 = .ok (.putfield 27, 3) := by decide +kernel
theorem dX1_sleep_33 : decode cX1_sleep 33 = .ok (.aload_n 1, 1) := by decide +kernel
theorem dX1_sleep_34 : decode cX1_sleep 34 = .ok (.iload_n 2, 1) := by decide +kernel
theorem dX1_sleep_35 : decode cX1_sleep 35 = .ok (.invokevirtual 152, 3) := by decide +kernel
theorem dX1_sleep_38 : decode cX1_sleep 38 = .ok (.return_, 1) := by decide +kernel
abbrev M_X1_sleep : MT := (yX1_sleep, cX1_sleep, 3, none)
theorem cf_X1_sleep : fq_cf M_X1_sleep 2 := ⟨(mg_1 (List.mem_of_getElem? (i := 14) rfl) rfl), (mg_6 (List.mem_of_getElem? (i := 122) rfl) rfl), ⟨by decide, by decide, by decide +kernel⟩, by decide⟩
def B_X1_sleep_0 (G : GT) (mc ms : Nat) (Q : Post) : Cn := ix_aload 1 (ix_getI 6 12 (ix_iload 2 (ix_iadd (ix_pushI 9999 (ix_icmp_le (ix_aload 0 (ix_dupR (ix_getI 1 6 (ix_iload 2 (ix_iadd (ix_putI 1 6 (ix_aload 1 (ix_iload 2 (ix_vcall 6 2 0 0 mc ms (sp_X6_sleep G) (ix_vret mc ms Q)))))))))) (ix_aload 0 (ix_dupR (ix_getI 1 5 (ix_pushI 1 (ix_iadd (ix_putI 1 5 (ix_vret mc ms Q))))))))))))
theorem b_X1_sleep_0 {l : Launch} {G : GT} {D mc ms : Nat} {Q : Post} : Imp l G M_X1_sleep (D + 3) mc ms Q (B_X1_sleep_0 G mc ms Q) 0 := sx_aload_n dX1_sleep_0 rfl (sx_getI dX1_sleep_1 fl_FootQuarrel_Life_149 (fun _ _ _ => rfl) (sx_iload_n dX1_sleep_4 rfl (sx_iadd dX1_sleep_5 (sx_sipush dX1_sleep_6 rfl (sx_icmp_le 23 dX1_sleep_9 (by decide) (sx_aload_n dX1_sleep_23 rfl (sx_dupR dX1_sleep_24 (sx_getI dX1_sleep_25 fl_FootQuarrel_Life_27 (fun _ _ _ => rfl) (sx_iload_n dX1_sleep_28 rfl (sx_iadd dX1_sleep_29 (sx_putI dX1_sleep_30 fl_FootQuarrel_Life_27 (by decide) (fun _ _ _ => rfl) (fun _ => ⟨rfl, rfl⟩) (sx_aload_n dX1_sleep_33 rfl (sx_iload_n dX1_sleep_34 rfl (sx_vcall dX1_sleep_35 cf_X6_sleep (mg_6 (List.mem_of_getElem? (i := 123) rfl) rfl) (mg_5 (List.mem_of_getElem? (i := 83) rfl) rfl) (mg_5 (List.mem_of_getElem? (i := 84) rfl) rfl) rfl c_X6_sleep (sx_vret dX1_sleep_38 rfl)))))))))) (sx_aload_n dX1_sleep_12 rfl (sx_dupR dX1_sleep_13 (sx_getI dX1_sleep_14 fl_FootQuarrel_Life_24 (fun _ _ _ => rfl) (sx_iconst dX1_sleep_17 rfl (sx_iadd dX1_sleep_18 (sx_putI dX1_sleep_19 fl_FootQuarrel_Life_24 (by decide) (fun _ _ _ => rfl) (fun _ => ⟨rfl, rfl⟩) (sx_vret dX1_sleep_22 rfl))))))))))))
def sp_X1_sleep (G : GT) : Sp := fun as S I J z Q => match as with
  | [.ref a0, .ref a1, .int a2] => B_X1_sleep_0 G 0 0 Q [some (.ref a0), some (.ref a1), some (.int a2)] [] S I J z 0 0
  | _ => False
theorem c_X1_sleep {l : Launch} {G : GT} {D : Nat} : ∀ as S I J z Q, sp_X1_sleep G as S I J z Q → fqCall l G M_X1_sleep (D + 3) 0 0 as S I J z Q := by
  intro as S I J z Q h
  unfold sp_X1_sleep at h
  split at h
  · exact fq_enter _ (by decide +kernel) (Nat.le_of_ble_eq_true rfl) rfl (b_X1_sleep_0 _ _ _ _ _ _ _ _ h)
  · exact h.elim
theorem dX1_turnWeather_0 : decode cX1_turnWeather 0 = .ok (.aload_n 1, 1) := by decide +kernel
theorem dX1_turnWeather_1 : decode cX1_turnWeather 1 = .ok (.getfield 111, 3) := by decide +kernel
theorem dX1_turnWeather_4 : decode cX1_turnWeather 4 = .ok (.iload_n 2, 1) := by decide +kernel
theorem dX1_turnWeather_5 : decode cX1_turnWeather 5 = .ok (.if_icmp .ne 13, 3) := by decide +kernel
theorem dX1_turnWeather_8 : decode cX1_turnWeather 8 = .ok (.aload_n 0, 1) := by decide +kernel
theorem dX1_turnWeather_9 : decode cX1_turnWeather 9 = .ok (.dup, 1) := by decide +kernel
theorem dX1_turnWeather_10 : decode cX1_turnWeather 10 = .ok (.getfield 24, 3) := by decide +kernel
theorem dX1_turnWeather_13 : decode cX1_turnWeather 13 = .ok (.iconst 1, 1) := by decide +kernel
theorem dX1_turnWeather_14 : decode cX1_turnWeather 14 = .ok (.iadd, 1) := by decide +kernel
theorem dX1_turnWeather_15 : decode cX1_turnWeather 15 = .ok (.putfield 24, 3) := by decide +kernel
theorem dX1_turnWeather_18 : decode cX1_turnWeather 18 = .ok (.aload_n 1, 1) := by decide +kernel
theorem dX1_turnWeather_19 : decode cX1_turnWeather 19 = .ok (.iload_n 2, 1) := by decide +kernel
theorem dX1_turnWeather_20 : decode cX1_turnWeather 20 = .ok (.putfield 111, 3) := by decide +kernel
theorem dX1_turnWeather_23 : decode cX1_turnWeather 23 = .ok (.return_, 1) := by decide +kernel
abbrev M_X1_turnWeather : MT := (yX1_turnWeather, cX1_turnWeather, 3, none)
theorem cf_X1_turnWeather : fq_cf M_X1_turnWeather 2 := ⟨(mg_1 (List.mem_of_getElem? (i := 14) rfl) rfl), (mg_6 (List.mem_of_getElem? (i := 136) rfl) rfl), ⟨by decide, by decide, by decide +kernel⟩, by decide⟩
def B_X1_turnWeather_18 (G : GT) (mc ms : Nat) (Q : Post) : Cn := ix_aload 1 (ix_iload 2 (ix_putZ 6 16 (ix_vret mc ms Q)))
theorem b_X1_turnWeather_18 {l : Launch} {G : GT} {D mc ms : Nat} {Q : Post} : Imp l G M_X1_turnWeather (D + 0) mc ms Q (B_X1_turnWeather_18 G mc ms Q) 18 := sx_aload_n dX1_turnWeather_18 rfl (sx_iload_n dX1_turnWeather_19 rfl (sx_putZ dX1_turnWeather_20 fl_FootQuarrel_Life_111 (by decide) (fun _ _ _ => rfl) (fun v h => by rcases h with h | h <;> subst h <;> exact ⟨rfl, rfl⟩) (sx_vret dX1_turnWeather_23 rfl)))
def B_X1_turnWeather_0 (G : GT) (mc ms : Nat) (Q : Post) : Cn := ix_aload 1 (ix_getI 6 16 (ix_iload 2 (ix_icmp_ne ((B_X1_turnWeather_18 G mc ms Q)) (ix_aload 0 (ix_dupR (ix_getI 1 5 (ix_pushI 1 (ix_iadd (ix_putI 1 5 ((B_X1_turnWeather_18 G mc ms Q)))))))))))
theorem b_X1_turnWeather_0 {l : Launch} {G : GT} {D mc ms : Nat} {Q : Post} : Imp l G M_X1_turnWeather (D + 0) mc ms Q (B_X1_turnWeather_0 G mc ms Q) 0 := sx_aload_n dX1_turnWeather_0 rfl (sx_getI dX1_turnWeather_1 fl_FootQuarrel_Life_111 (fun _ _ _ => rfl) (sx_iload_n dX1_turnWeather_4 rfl (sx_icmp_ne 18 dX1_turnWeather_5 (by decide) (b_X1_turnWeather_18) (sx_aload_n dX1_turnWeather_8 rfl (sx_dupR dX1_turnWeather_9 (sx_getI dX1_turnWeather_10 fl_FootQuarrel_Life_24 (fun _ _ _ => rfl) (sx_iconst dX1_turnWeather_13 rfl (sx_iadd dX1_turnWeather_14 (sx_putI dX1_turnWeather_15 fl_FootQuarrel_Life_24 (by decide) (fun _ _ _ => rfl) (fun _ => ⟨rfl, rfl⟩) (b_X1_turnWeather_18))))))))))
def sp_X1_turnWeather (G : GT) : Sp := fun as S I J z Q => match as with
  | [.ref a0, .ref a1, .int a2] => B_X1_turnWeather_0 G 0 0 Q [some (.ref a0), some (.ref a1), some (.int a2)] [] S I J z 0 0
  | _ => False
theorem c_X1_turnWeather {l : Launch} {G : GT} {D : Nat} : ∀ as S I J z Q, sp_X1_turnWeather G as S I J z Q → fqCall l G M_X1_turnWeather (D + 0) 0 0 as S I J z Q := by
  intro as S I J z Q h
  unfold sp_X1_turnWeather at h
  split at h
  · exact fq_enter _ (by decide +kernel) (Nat.le_of_ble_eq_true rfl) rfl (b_X1_turnWeather_0 _ _ _ _ _ _ _ _ h)
  · exact h.elim
theorem dX1_drawMeeting_0 : decode cX1_drawMeeting 0 = .ok (.aload_n 1, 1) := by decide +kernel
theorem dX1_drawMeeting_1 : decode cX1_drawMeeting 1 = .ok (.aload_n 0, 1) := by decide +kernel
theorem dX1_drawMeeting_2 : decode cX1_drawMeeting 2 = .ok (.bipush 16, 2) := by decide +kernel
theorem dX1_drawMeeting_4 : decode cX1_drawMeeting 4 = .ok (.invokevirtual 155, 3) := by decide +kernel
theorem dX1_drawMeeting_7 : decode cX1_drawMeeting 7 = .ok (.aload_n 1, 1) := by decide +kernel
theorem dX1_drawMeeting_8 : decode cX1_drawMeeting 8 = .ok (.getfield 158, 3) := by decide +kernel
theorem dX1_drawMeeting_11 : decode cX1_drawMeeting 11 = .ok (.if_icmp .ge 7, 3) := by decide +kernel
theorem dX1_drawMeeting_14 : decode cX1_drawMeeting 14 = .ok (.iconst 1, 1) := by decide +kernel
theorem dX1_drawMeeting_15 : decode cX1_drawMeeting 15 = .ok (.goto 4, 3) := by decide +kernel
theorem dX1_drawMeeting_18 : decode cX1_drawMeeting 18 = .ok (.iconst 0, 1) := by decide +kernel
theorem dX1_drawMeeting_19 : decode cX1_drawMeeting 19 = .ok (.putfield 111, 3) := by decide +kernel
theorem dX1_drawMeeting_22 : decode cX1_drawMeeting 22 = .ok (.aload_n 0, 1) := by decide +kernel
theorem dX1_drawMeeting_23 : decode cX1_drawMeeting 23 = .ok (.aload_n 0, 1) := by decide +kernel
theorem dX1_drawMeeting_24 : decode cX1_drawMeeting 24 = .ok (.aload_n 1, 1) := by decide +kernel
theorem dX1_drawMeeting_25 : decode cX1_drawMeeting 25 = .ok (.getfield 88, 3) := by decide +kernel
theorem dX1_drawMeeting_28 : decode cX1_drawMeeting 28 = .ok (.invokevirtual 155, 3) := by decide +kernel
theorem dX1_drawMeeting_31 : decode cX1_drawMeeting 31 = .ok (.putfield 94, 3) := by decide +kernel
theorem dX1_drawMeeting_34 : decode cX1_drawMeeting 34 = .ok (.aload_n 0, 1) := by decide +kernel
theorem dX1_drawMeeting_35 : decode cX1_drawMeeting 35 = .ok (.aload_n 0, 1) := by decide +kernel
theorem dX1_drawMeeting_36 : decode cX1_drawMeeting 36 = .ok (.aload_n 1, 1) := by decide +kernel
theorem dX1_drawMeeting_37 : decode cX1_drawMeeting 37 = .ok (.getfield 88, 3) := by decide +kernel
theorem dX1_drawMeeting_40 : decode cX1_drawMeeting 40 = .ok (.invokevirtual 155, 3) := by decide +kernel
theorem dX1_drawMeeting_43 : decode cX1_drawMeeting 43 = .ok (.putfield 97, 3) := by decide +kernel
theorem dX1_drawMeeting_46 : decode cX1_drawMeeting 46 = .ok (.return_, 1) := by decide +kernel
abbrev M_X1_drawMeeting : MT := (yX1_drawMeeting, cX1_drawMeeting, 2, none)
theorem cf_X1_drawMeeting : fq_cf M_X1_drawMeeting 1 := ⟨(mg_1 (List.mem_of_getElem? (i := 14) rfl) rfl), (mg_6 (List.mem_of_getElem? (i := 127) rfl) rfl), ⟨by decide, by decide, by decide +kernel⟩, by decide⟩
def B_X1_drawMeeting_19 (G : GT) (mc ms : Nat) (Q : Post) : Cn := ix_putZ 6 16 (ix_aload 0 (ix_aload 0 (ix_aload 1 (ix_getI 6 6 (ix_vcall 1 2 0 0 mc ms (sp_X1_draw G) (ix_putI 1 2 (ix_aload 0 (ix_aload 0 (ix_aload 1 (ix_getI 6 6 (ix_vcall 1 2 0 0 mc ms (sp_X1_draw G) (ix_putI 1 3 (ix_vret mc ms Q)))))))))))))
theorem b_X1_drawMeeting_19 {l : Launch} {G : GT} {D mc ms : Nat} {Q : Post} : Imp l G M_X1_drawMeeting (D + 1) mc ms Q (B_X1_drawMeeting_19 G mc ms Q) 19 := sx_putZ dX1_drawMeeting_19 fl_FootQuarrel_Life_111 (by decide) (fun _ _ _ => rfl) (fun v h => by rcases h with h | h <;> subst h <;> exact ⟨rfl, rfl⟩) (sx_aload_n dX1_drawMeeting_22 rfl (sx_aload_n dX1_drawMeeting_23 rfl (sx_aload_n dX1_drawMeeting_24 rfl (sx_getI dX1_drawMeeting_25 fl_FootQuarrel_Life_88 (fun _ _ _ => rfl) (sx_vcall dX1_drawMeeting_28 cf_X1_draw (mg_6 (List.mem_of_getElem? (i := 128) rfl) rfl) (mg_6 (List.mem_of_getElem? (i := 130) rfl) rfl) (mg_p (List.mem_of_getElem? (i := 44) rfl) rfl) rfl c_X1_draw (sx_putI dX1_drawMeeting_31 fl_FootQuarrel_Life_94 (by decide) (fun _ _ _ => rfl) (fun _ => ⟨rfl, rfl⟩) (sx_aload_n dX1_drawMeeting_34 rfl (sx_aload_n dX1_drawMeeting_35 rfl (sx_aload_n dX1_drawMeeting_36 rfl (sx_getI dX1_drawMeeting_37 fl_FootQuarrel_Life_88 (fun _ _ _ => rfl) (sx_vcall dX1_drawMeeting_40 cf_X1_draw (mg_6 (List.mem_of_getElem? (i := 128) rfl) rfl) (mg_6 (List.mem_of_getElem? (i := 130) rfl) rfl) (mg_p (List.mem_of_getElem? (i := 44) rfl) rfl) rfl c_X1_draw (sx_putI dX1_drawMeeting_43 fl_FootQuarrel_Life_97 (by decide) (fun _ _ _ => rfl) (fun _ => ⟨rfl, rfl⟩) (sx_vret dX1_drawMeeting_46 rfl)))))))))))))
def B_X1_drawMeeting_0 (G : GT) (mc ms : Nat) (Q : Post) : Cn := ix_aload 1 (ix_aload 0 (ix_pushI 16 (ix_vcall 1 2 0 0 mc ms (sp_X1_draw G) (ix_aload 1 (ix_getI 6 11 (ix_icmp_ge (ix_pushI 0 ((B_X1_drawMeeting_19 G mc ms Q))) (ix_pushI 1 ((B_X1_drawMeeting_19 G mc ms Q)))))))))
theorem b_X1_drawMeeting_0 {l : Launch} {G : GT} {D mc ms : Nat} {Q : Post} : Imp l G M_X1_drawMeeting (D + 1) mc ms Q (B_X1_drawMeeting_0 G mc ms Q) 0 := sx_aload_n dX1_drawMeeting_0 rfl (sx_aload_n dX1_drawMeeting_1 rfl (sx_bipush dX1_drawMeeting_2 rfl (sx_vcall dX1_drawMeeting_4 cf_X1_draw (mg_6 (List.mem_of_getElem? (i := 128) rfl) rfl) (mg_6 (List.mem_of_getElem? (i := 130) rfl) rfl) (mg_p (List.mem_of_getElem? (i := 44) rfl) rfl) rfl c_X1_draw (sx_aload_n dX1_drawMeeting_7 rfl (sx_getI dX1_drawMeeting_8 fl_FootQuarrel_Life_158 (fun _ _ _ => rfl) (sx_icmp_ge 18 dX1_drawMeeting_11 (by decide) (sx_iconst dX1_drawMeeting_18 rfl (b_X1_drawMeeting_19)) (sx_iconst dX1_drawMeeting_14 rfl (sx_goto 19 dX1_drawMeeting_15 (by decide) (b_X1_drawMeeting_19)))))))))
def sp_X1_drawMeeting (G : GT) : Sp := fun as S I J z Q => match as with
  | [.ref a0, .ref a1] => B_X1_drawMeeting_0 G 0 0 Q [some (.ref a0), some (.ref a1)] [] S I J z 0 0
  | _ => False
theorem c_X1_drawMeeting {l : Launch} {G : GT} {D : Nat} : ∀ as S I J z Q, sp_X1_drawMeeting G as S I J z Q → fqCall l G M_X1_drawMeeting (D + 1) 0 0 as S I J z Q := by
  intro as S I J z Q h
  unfold sp_X1_drawMeeting at h
  split at h
  · exact fq_enter _ (by decide +kernel) (Nat.le_of_ble_eq_true rfl) rfl (b_X1_drawMeeting_0 _ _ _ _ _ _ _ _ h)
  · exact h.elim
