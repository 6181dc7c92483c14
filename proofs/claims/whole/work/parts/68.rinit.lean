/-! the reference: its making -/
theorem dX12_init_0 : decode cX12_init 0 = .ok (.aload_n 0, 1) := by decide +kernel
theorem dX12_init_1 : decode cX12_init 1 = .ok (.invokespecial 1, 3) := by decide +kernel
theorem dX12_init_4 : decode cX12_init 4 = .ok (.aload_n 0, 1) := by decide +kernel
theorem dX12_init_5 : decode cX12_init 5 = .ok (.sipush 4694, 3) := by decide +kernel
theorem dX12_init_8 : decode cX12_init 8 = .ok (.newarray .int, 2) := by decide +kernel
theorem dX12_init_10 : decode cX12_init 10 = .ok (.putfield 7, 3) := by decide +kernel
theorem dX12_init_13 : decode cX12_init 13 = .ok (.aload_n 0, 1) := by decide +kernel
theorem dX12_init_14 : decode cX12_init 14 = .ok (.bipush 84, 2) := by decide +kernel
theorem dX12_init_16 : decode cX12_init 16 = .ok (.newarray .long, 2) := by decide +kernel
theorem dX12_init_18 : decode cX12_init 18 = .ok (.putfield 13, 3) := by decide +kernel
theorem dX12_init_21 : decode cX12_init 21 = .ok (.aload_n 0, 1) := by decide +kernel
theorem dX12_init_22 : decode cX12_init 22 = .ok (.lconst 1, 1) := by decide +kernel
theorem dX12_init_23 : decode cX12_init 23 = .ok (.putfield 17, 3) := by decide +kernel
theorem dX12_init_26 : decode cX12_init 26 = .ok (.aload_n 0, 1) := by decide +kernel
theorem dX12_init_27 : decode cX12_init 27 = .ok (.iconst 4, 1) := by decide +kernel
theorem dX12_init_28 : decode cX12_init 28 = .ok (.newarray .int, 2) := by decide +kernel
theorem dX12_init_30 : decode cX12_init 30 = .ok (.putfield 21, 3) := by decide +kernel
theorem dX12_init_33 : decode cX12_init 33 = .ok (.aload_n 0, 1) := by decide +kernel
theorem dX12_init_34 : decode cX12_init 34 = .ok (.iconst 4, 1) := by decide +kernel
theorem dX12_init_35 : decode cX12_init 35 = .ok (.newarray .int, 2) := by decide +kernel
theorem dX12_init_37 : decode cX12_init 37 = .ok (.dup, 1) := by decide +kernel
theorem dX12_init_38 : decode cX12_init 38 = .ok (.iconst 0, 1) := by decide +kernel
theorem dX12_init_39 : decode cX12_init 39 = .ok (.iconst (-1), 1) := by decide +kernel
theorem dX12_init_40 : decode cX12_init 40 = .ok (.iastore, 1) := by decide +kernel
theorem dX12_init_41 : decode cX12_init 41 = .ok (.dup, 1) := by decide +kernel
theorem dX12_init_42 : decode cX12_init 42 = .ok (.iconst 1, 1) := by decide +kernel
theorem dX12_init_43 : decode cX12_init 43 = .ok (.iconst (-1), 1) := by decide +kernel
theorem dX12_init_44 : decode cX12_init 44 = .ok (.iastore, 1) := by decide +kernel
theorem dX12_init_45 : decode cX12_init 45 = .ok (.dup, 1) := by decide +kernel
theorem dX12_init_46 : decode cX12_init 46 = .ok (.iconst 2, 1) := by decide +kernel
theorem dX12_init_47 : decode cX12_init 47 = .ok (.iconst (-1), 1) := by decide +kernel
theorem dX12_init_48 : decode cX12_init 48 = .ok (.iastore, 1) := by decide +kernel
theorem dX12_init_49 : decode cX12_init 49 = .ok (.dup, 1) := by decide +kernel
theorem dX12_init_50 : decode cX12_init 50 = .ok (.iconst 3, 1) := by decide +kernel
theorem dX12_init_51 : decode cX12_init 51 = .ok (.iconst (-1), 1) := by decide +kernel
theorem dX12_init_52 : decode cX12_init 52 = .ok (.iastore, 1) := by decide +kernel
theorem dX12_init_53 : decode cX12_init 53 = .ok (.putfield 24, 3) := by decide +kernel
theorem dX12_init_56 : decode cX12_init 56 = .ok (.aload_n 0, 1) := by decide +kernel
theorem dX12_init_57 : decode cX12_init 57 = .ok (.sipush 240, 3) := by decide +kernel
theorem dX12_init_60 : decode cX12_init 60 = .ok (.newarray .long, 2) := by decide +kernel
theorem dX12_init_62 : decode cX12_init 62 = .ok (.putfield 27, 3) := by decide +kernel
theorem dX12_init_65 : decode cX12_init 65 = .ok (.aload_n 0, 1) := by decide +kernel
theorem dX12_init_66 : decode cX12_init 66 = .ok (.sipush 900, 3) := by decide +kernel
theorem dX12_init_69 : decode cX12_init 69 = .ok (.newarray .byte, 2) := by decide +kernel
theorem dX12_init_71 : decode cX12_init 71 = .ok (.putfield 30, 3) := by decide +kernel
theorem dX12_init_74 : decode cX12_init 74 = .ok (.aload_n 0, 1) := by decide +kernel
theorem dX12_init_75 : decode cX12_init 75 = .ok (.sipush 900, 3) := by decide +kernel
theorem dX12_init_78 : decode cX12_init 78 = .ok (.newarray .byte, 2) := by decide +kernel
theorem dX12_init_80 : decode cX12_init 80 = .ok (.putfield 34, 3) := by decide +kernel
theorem dX12_init_83 : decode cX12_init 83 = .ok (.aload_n 0, 1) := by decide +kernel
theorem dX12_init_84 : decode cX12_init 84 = .ok (.iconst (-1), 1) := by decide +kernel
theorem dX12_init_85 : decode cX12_init 85 = .ok (.putfield 37, 3) := by decide +kernel
theorem dX12_init_88 : decode cX12_init 88 = .ok (.aload_n 0, 1) := by decide +kernel
theorem dX12_init_89 : decode cX12_init 89 = .ok (.iconst (-1), 1) := by decide +kernel
theorem dX12_init_90 : decode cX12_init 90 = .ok (.putfield 41, 3) := by decide +kernel
theorem dX12_init_93 : decode cX12_init 93 = .ok (.aload_n 0, 1) := by decide +kernel
theorem dX12_init_94 : decode cX12_init 94 = .ok (.iconst 3, 1) := by decide +kernel
theorem dX12_init_95 : decode cX12_init 95 = .ok (.newarray .int, 2) := by decide +kernel
theorem dX12_init_97 : decode cX12_init 97 = .ok (.putfield 44, 3) := by decide +kernel
theorem dX12_init_100 : decode cX12_init 100 = .ok (.aload_n 0, 1) := by decide +kernel
theorem dX12_init_101 : decode cX12_init 101 = .ok (.iconst 5, 1) := by decide +kernel
theorem dX12_init_102 : decode cX12_init 102 = .ok (.newarray .int, 2) := by decide +kernel
theorem dX12_init_104 : decode cX12_init 104 = .ok (.putfield 47, 3) := by decide +kernel
theorem dX12_init_107 : decode cX12_init 107 = .ok (.aload_n 0, 1) := by decide +kernel
theorem dX12_init_108 : decode cX12_init 108 = .ok (.iconst 5, 1) := by decide +kernel
theorem dX12_init_109 : decode cX12_init 109 = .ok (.newarray .int, 2) := by decide +kernel
theorem dX12_init_111 : decode cX12_init 111 = .ok (.putfield 50, 3) := by decide +kernel
theorem dX12_init_114 : decode cX12_init 114 = .ok (.aload_n 0, 1) := by decide +kernel
theorem dX12_init_115 : decode cX12_init 115 = .ok (.bipush 13, 2) := by decide +kernel
theorem dX12_init_117 : decode cX12_init 117 = .ok (.newarray .long, 2) := by decide +kernel
theorem dX12_init_119 : decode cX12_init 119 = .ok (.putfield 53, 3) := by decide +kernel
theorem dX12_init_122 : decode cX12_init 122 = .ok (.aload_n 0, 1) := by decide +kernel
theorem dX12_init_123 : decode cX12_init 123 = .ok (.bipush 80, 2) := by decide +kernel
theorem dX12_init_125 : decode cX12_init 125 = .ok (.newarray .int, 2) := by decide +kernel
theorem dX12_init_127 : decode cX12_init 127 = .ok (.putfield 56, 3) := by decide +kernel
theorem dX12_init_130 : decode cX12_init 130 = .ok (.aload_n 0, 1) := by decide +kernel
theorem dX12_init_131 : decode cX12_init 131 = .ok (.iconst 5, 1) := by decide +kernel
theorem dX12_init_132 : decode cX12_init 132 = .ok (.newarray .int, 2) := by decide +kernel
theorem dX12_init_134 : decode cX12_init 134 = .ok (.putfield 59, 3) := by decide +kernel
theorem dX12_init_137 : decode cX12_init 137 = .ok (.aload_n 0, 1) := by decide +kernel
theorem dX12_init_138 : decode cX12_init 138 = .ok (.iconst 5, 1) := by decide +kernel
theorem dX12_init_139 : decode cX12_init 139 = .ok (.newarray .int, 2) := by decide +kernel
theorem dX12_init_141 : decode cX12_init 141 = .ok (.putfield 62, 3) := by decide +kernel
theorem dX12_init_144 : decode cX12_init 144 = .ok (.aload_n 0, 1) := by decide +kernel
theorem dX12_init_145 : decode cX12_init 145 = .ok (.iconst 0, 1) := by decide +kernel
theorem dX12_init_146 : decode cX12_init 146 = .ok (.invokevirtual 65, 3) := by decide +kernel
theorem dX12_init_149 : decode cX12_init 149 = .ok (.return_, 1) := by decide +kernel
abbrev M_X12_init : MT := (yX12_init, cX12_init, 1, none)
theorem cf_X12_init : fq_cf M_X12_init 0 := ⟨(mg_1 (List.mem_of_getElem? (i := 15) rfl) rfl), (mg_6 (List.mem_of_getElem? (i := 174) rfl) rfl), ⟨by decide, by decide, by decide +kernel⟩, by decide⟩
def B_X12_init_0 (G : GT) (mc ms : Nat) (Q : Post) : Cn := ix_aload 0 (ix_oinit (ix_aload 0 (ix_pushI 4694 (ix_newa 14 mc ms (ix_putR 12 0 (ix_aload 0 (ix_pushI 84 (ix_newa 15 mc ms (ix_putR 12 1 (ix_aload 0 (ix_pushL 1 (ix_putJ 12 4 (ix_aload 0 (ix_pushI 4 (ix_newa 14 mc ms (ix_putR 12 5 (ix_aload 0 (ix_pushI 4 (ix_newa 14 mc ms (ix_dupR (ix_pushI 0 (ix_pushI (-1) (ix_iast (ix_dupR (ix_pushI 1 (ix_pushI (-1) (ix_iast (ix_dupR (ix_pushI 2 (ix_pushI (-1) (ix_iast (ix_dupR (ix_pushI 3 (ix_pushI (-1) (ix_iast (ix_putR 12 6 (ix_aload 0 (ix_pushI 240 (ix_newa 15 mc ms (ix_putR 12 7 (ix_aload 0 (ix_pushI 900 (ix_newa 13 mc ms (ix_putR 12 8 (ix_aload 0 (ix_pushI 900 (ix_newa 13 mc ms (ix_putR 12 9 (ix_aload 0 (ix_pushI (-1) (ix_putI 12 16 (ix_aload 0 (ix_pushI (-1) (ix_putI 12 17 (ix_aload 0 (ix_pushI 3 (ix_newa 14 mc ms (ix_putR 12 21 (ix_aload 0 (ix_pushI 5 (ix_newa 14 mc ms (ix_putR 12 25 (ix_aload 0 (ix_pushI 5 (ix_newa 14 mc ms (ix_putR 12 26 (ix_aload 0 (ix_pushI 13 (ix_newa 15 mc ms (ix_putR 12 28 (ix_aload 0 (ix_pushI 80 (ix_newa 14 mc ms (ix_putR 12 31 (ix_aload 0 (ix_pushI 5 (ix_newa 14 mc ms (ix_putR 12 32 (ix_aload 0 (ix_pushI 5 (ix_newa 14 mc ms (ix_putR 12 33 (ix_aload 0 (ix_pushI 0 (ix_vcall 12 2 0 0 mc ms (sp_X12_plain G) (ix_vret mc ms Q))))))))))))))))))))))))))))))))))))))))))))))))))))))))))))))))))))))))))))))))))))))
theorem b_X12_init_0 {l : Launch} {G : GT} {D mc ms : Nat} {Q : Post} : Imp l G M_X12_init (D + 1) mc ms Q (B_X12_init_0 G mc ms Q) 0 := sx_aload_n dX12_init_0 rfl (sx_oinit dX12_init_1 (mg_6 (List.mem_of_getElem? (i := 175) rfl) rfl) (mg_1 (List.mem_of_getElem? (i := 27) rfl) rfl) (mg_1 (List.mem_of_getElem? (i := 28) rfl) rfl) (sx_aload_n dX12_init_4 rfl (sx_sipush dX12_init_5 rfl (sx_newa dX12_init_8 rfl (by decide) (by decide) (mg_1 (List.mem_of_getElem? (i := 220) rfl) rfl) (sx_putR dX12_init_10 fl_FootQuarrelModel_7 (fun _ => ⟨rfl, rfl⟩) (by decide) (fun _ _ _ => rfl) (fun _ => ⟨rfl, rfl⟩) (sx_aload_n dX12_init_13 rfl (sx_bipush dX12_init_14 rfl (sx_newa dX12_init_16 rfl (by decide) (by decide) (mg_1 (List.mem_of_getElem? (i := 49) rfl) rfl) (sx_putR dX12_init_18 fl_FootQuarrelModel_13 (fun _ => ⟨rfl, rfl⟩) (by decide) (fun _ _ _ => rfl) (fun _ => ⟨rfl, rfl⟩) (sx_aload_n dX12_init_21 rfl (sx_lconst dX12_init_22 rfl (sx_putJ dX12_init_23 fl_FootQuarrelModel_17 (by decide) (fun _ _ _ => rfl) (fun _ => ⟨rfl, rfl⟩) (sx_aload_n dX12_init_26 rfl (sx_iconst dX12_init_27 rfl (sx_newa dX12_init_28 rfl (by decide) (by decide) (mg_1 (List.mem_of_getElem? (i := 220) rfl) rfl) (sx_putR dX12_init_30 fl_FootQuarrelModel_21 (fun _ => ⟨rfl, rfl⟩) (by decide) (fun _ _ _ => rfl) (fun _ => ⟨rfl, rfl⟩) (sx_aload_n dX12_init_33 rfl (sx_iconst dX12_init_34 rfl (sx_newa dX12_init_35 rfl (by decide) (by decide) (mg_1 (List.mem_of_getElem? (i := 220) rfl) rfl) (sx_dupR dX12_init_37 (sx_iconst dX12_init_38 rfl (sx_iconst dX12_init_39 rfl (sx_iast dX12_init_40 (sx_dupR dX12_init_41 (sx_iconst dX12_init_42 rfl (sx_iconst dX12_init_43 rfl (sx_iast dX12_init_44 (sx_dupR dX12_init_45 (sx_iconst dX12_init_46 rfl (sx_iconst dX12_init_47 rfl (sx_iast dX12_init_48 (sx_dupR dX12_init_49 (sx_iconst dX12_init_50 rfl (sx_iconst dX12_init_51 rfl (sx_iast dX12_init_52 (sx_putR dX12_init_53 fl_FootQuarrelModel_24 (fun _ => ⟨rfl, rfl⟩) (by decide) (fun _ _ _ => rfl) (fun _ => ⟨rfl, rfl⟩) (sx_aload_n dX12_init_56 rfl (sx_sipush dX12_init_57 rfl (sx_newa dX12_init_60 rfl (by decide) (by decide) (mg_1 (List.mem_of_getElem? (i := 49) rfl) rfl) (sx_putR dX12_init_62 fl_FootQuarrelModel_27 (fun _ => ⟨rfl, rfl⟩) (by decide) (fun _ _ _ => rfl) (fun _ => ⟨rfl, rfl⟩) (sx_aload_n dX12_init_65 rfl (sx_sipush dX12_init_66 rfl (sx_newa dX12_init_69 rfl (by decide) (by decide) (mg_1 (List.mem_of_getElem? (i := 149) rfl) rfl) (sx_putR dX12_init_71 fl_FootQuarrelModel_30 (fun _ => ⟨rfl, rfl⟩) (by decide) (fun _ _ _ => rfl) (fun _ => ⟨rfl, rfl⟩) (sx_aload_n dX12_init_74 rfl (sx_sipush dX12_init_75 rfl (sx_newa dX12_init_78 rfl (by decide) (by decide) (mg_1 (List.mem_of_getElem? (i := 149) rfl) rfl) (sx_putR dX12_init_80 fl_FootQuarrelModel_34 (fun _ => ⟨rfl, rfl⟩) (by decide) (fun _ _ _ => rfl) (fun _ => ⟨rfl, rfl⟩) (sx_aload_n dX12_init_83 rfl (sx_iconst dX12_init_84 rfl (sx_putI dX12_init_85 fl_FootQuarrelModel_37 (by decide) (fun _ _ _ => rfl) (fun _ => ⟨rfl, rfl⟩) (sx_aload_n dX12_init_88 rfl (sx_iconst dX12_init_89 rfl (sx_putI dX12_init_90 fl_FootQuarrelModel_41 (by decide) (fun _ _ _ => rfl) (fun _ => ⟨rfl, rfl⟩) (sx_aload_n dX12_init_93 rfl (sx_iconst dX12_init_94 rfl (sx_newa dX12_init_95 rfl (by decide) (by decide) (mg_1 (List.mem_of_getElem? (i := 220) rfl) rfl) (sx_putR dX12_init_97 fl_FootQuarrelModel_44 (fun _ => ⟨rfl, rfl⟩) (by decide) (fun _ _ _ => rfl) (fun _ => ⟨rfl, rfl⟩) (sx_aload_n dX12_init_100 rfl (sx_iconst dX12_init_101 rfl (sx_newa dX12_init_102 rfl (by decide) (by decide) (mg_1 (List.mem_of_getElem? (i := 220) rfl) rfl) (sx_putR dX12_init_104 fl_FootQuarrelModel_47 (fun _ => ⟨rfl, rfl⟩) (by decide) (fun _ _ _ => rfl) (fun _ => ⟨rfl, rfl⟩) (sx_aload_n dX12_init_107 rfl (sx_iconst dX12_init_108 rfl (sx_newa dX12_init_109 rfl (by decide) (by decide) (mg_1 (List.mem_of_getElem? (i := 220) rfl) rfl) (sx_putR dX12_init_111 fl_FootQuarrelModel_50 (fun _ => ⟨rfl, rfl⟩) (by decide) (fun _ _ _ => rfl) (fun _ => ⟨rfl, rfl⟩) (sx_aload_n dX12_init_114 rfl (sx_bipush dX12_init_115 rfl (sx_newa dX12_init_117 rfl (by decide) (by decide) (mg_1 (List.mem_of_getElem? (i := 49) rfl) rfl) (sx_putR dX12_init_119 fl_FootQuarrelModel_53 (fun _ => ⟨rfl, rfl⟩) (by decide) (fun _ _ _ => rfl) (fun _ => ⟨rfl, rfl⟩) (sx_aload_n dX12_init_122 rfl (sx_bipush dX12_init_123 rfl (sx_newa dX12_init_125 rfl (by decide) (by decide) (mg_1 (List.mem_of_getElem? (i := 220) rfl) rfl) (sx_putR dX12_init_127 fl_FootQuarrelModel_56 (fun _ => ⟨rfl, rfl⟩) (by decide) (fun _ _ _ => rfl) (fun _ => ⟨rfl, rfl⟩) (sx_aload_n dX12_init_130 rfl (sx_iconst dX12_init_131 rfl (sx_newa dX12_init_132 rfl (by decide) (by decide) (mg_1 (List.mem_of_getElem? (i := 220) rfl) rfl) (sx_putR dX12_init_134 fl_FootQuarrelModel_59 (fun _ => ⟨rfl, rfl⟩) (by decide) (fun _ _ _ => rfl) (fun _ => ⟨rfl, rfl⟩) (sx_aload_n dX12_init_137 rfl (sx_iconst dX12_init_138 rfl (sx_newa dX12_init_139 rfl (by decide) (by decide) (mg_1 (List.mem_of_getElem? (i := 220) rfl) rfl) (sx_putR dX12_init_141 fl_FootQuarrelModel_62 (fun _ => ⟨rfl, rfl⟩) (by decide) (fun _ _ _ => rfl) (fun _ => ⟨rfl, rfl⟩) (sx_aload_n dX12_init_144 rfl (sx_iconst dX12_init_145 rfl (sx_vcall dX12_init_146 cf_X12_plain (mg_6 (List.mem_of_getElem? (i := 176) rfl) rfl) (mg_6 (List.mem_of_getElem? (i := 178) rfl) rfl) (mg_p (List.mem_of_getElem? (i := 47) rfl) rfl) rfl c_X12_plain (sx_vret dX12_init_149 rfl))))))))))))))))))))))))))))))))))))))))))))))))))))))))))))))))))))))))))))))))))))))
def sp_X12_init (G : GT) : Sp := fun as S I J z Q => match as with
  | [.ref a0] => B_X12_init_0 G 14 6942 Q [some (.ref a0)] [] S I J z 0 0
  | _ => False
theorem c_X12_init {l : Launch} {G : GT} {D : Nat} : ∀ as S I J z Q, sp_X12_init G as S I J z Q → fqCall l G M_X12_init (D + 1) 14 6942 as S I J z Q := by
  intro as S I J z Q h
  unfold sp_X12_init at h
  split at h
  · exact fq_enter _ (by decide +kernel) (Nat.le_of_ble_eq_true rfl) rfl (b_X12_init_0 _ _ _ _ _ _ _ _ h)
  · exact h.elim
