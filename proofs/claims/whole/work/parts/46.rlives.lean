/-! the reference: a life -/
def lvR (N : Nat) : Nat → LSt → Nat → LSt
  | 0, x, _ => x
  | f + 1, x, k => if ¬ k < N then x else if x.2.2.2.1 = 300 then (x.1, x.2.1, uA x.2.2.1 4 1, x.2.2.2.1, x.2.2.2.2) else if x.1 (226 + 6 * k) = 21 then (x.1, x.2.1, x.2.2.1, x.2.2.2.1 + 1, x.2.2.2.2) else lvR N f ((doF x.1 x.2.1 (226 + 6 * k)).2.1, (doF x.1 x.2.1 (226 + 6 * k)).2.2.1, rnU x.2.2.1 (doF x.1 x.2.1 (226 + 6 * k)), x.2.2.2.1 + 1, (bhE (doF x.1 x.2.1 (226 + 6 * k)).2.1 N 200 (if x.1 (226 + 6 * k) = 19 then uA x.2.2.2.2 k (x.1 (226 + 6 * k + 1) - 1) else x.2.2.2.2) (nxK (doF x.1 x.2.1 (226 + 6 * k)).2.1 k)).1) (bhE (doF x.1 x.2.1 (226 + 6 * k)).2.1 N 200 (if x.1 (226 + 6 * k) = 19 then uA x.2.2.2.2 k (x.1 (226 + 6 * k + 1) - 1) else x.2.2.2.2) (nxK (doF x.1 x.2.1 (226 + 6 * k)).2.1 k)).2
/-- what a life may have changed -/
def lgF (M : Nat) (I I' : IH) : Prop := (∀ a, a ≠ M → a ≠ M + 1 → a ≠ M + 12 → a ≠ M + 13 → I' a = I a) ∧ ∀ k, k ≠ 29 → k ≠ 30 → I' M k = I M k
theorem lgF.tr {M : Nat} {I I1 I2 : IH} (h : lgF M I I1) (g : lgF M I1 I2) : lgF M I I2 := ⟨fun a h1 h2 h3 h4 => (g.1 a h1 h2 h3 h4).trans (h.1 a h1 h2 h3 h4), fun k h1 h2 => (g.2 k h1 h2).trans (h.2 k h1 h2)⟩
theorem lgF.rf {M : Nat} {I : IH} : lgF M I I := ⟨fun _ _ _ _ _ => rfl, fun _ _ _ => rfl⟩
/-- the pool holds a life's numbers -/
def lvH (M : Nat) (I : IH) (x : LSt) : Prop := I (M + 1) = x.1 ∧ I M 29 = nI x.2.1 ∧ (∀ j, j < 5 → I (M + 13) j = x.2.2.1 j) ∧ I M 30 = nI x.2.2.2.1 ∧ I (M + 12) = x.2.2.2.2
theorem dX12_lives_0 : decode cX12_lives 0 = .ok (.aload_n 0, 1) := by decide +kernel
theorem dX12_lives_1 : decode cX12_lives 1 = .ok (.iload_n 1, 1) := by decide +kernel
theorem dX12_lives_2 : decode cX12_lives 2 = .ok (.putfield 427, 3) := by decide +kernel
theorem dX12_lives_5 : decode cX12_lives 5 = .ok (.aload_n 0, 1) := by decide +kernel
theorem dX12_lives_6 : decode cX12_lives 6 = .ok (.iconst 0, 1) := by decide +kernel
theorem dX12_lives_7 : decode cX12_lives 7 = .ok (.putfield 446, 3) := by decide +kernel
theorem dX12_lives_10 : decode cX12_lives 10 = .ok (.iconst 0, 1) := by decide +kernel
theorem dX12_lives_11 : decode cX12_lives 11 = .ok (.istore_n 2, 1) := by decide +kernel
theorem dX12_lives_12 : decode cX12_lives 12 = .ok (.iload_n 2, 1) := by decide +kernel
theorem dX12_lives_13 : decode cX12_lives 13 = .ok (.iconst 5, 1) := by decide +kernel
theorem dX12_lives_14 : decode cX12_lives 14 = .ok (.if_icmp .ge 16, 3) := by decide +kernel
theorem dX12_lives_17 : decode cX12_lives 17 = .ok (.aload_n 0, 1) := by decide +kernel
theorem dX12_lives_18 : decode cX12_lives 18 = .ok (.getfield 59, 3) := by decide +kernel
theorem dX12_lives_21 : decode cX12_lives 21 = .ok (.iload_n 2, 1) := by decide +kernel
theorem dX12_lives_22 : decode cX12_lives 22 = .ok (.iconst 0, 1) := by decide +kernel
theorem dX12_lives_23 : decode cX12_lives 23 = .ok (.iastore, 1) := by decide +kernel
theorem dX12_lives_24 : decode cX12_lives 24 = .ok (.iinc 2 1, 3) := by decide +kernel
theorem dX12_lives_27 : decode cX12_lives 27 = .ok (.goto (-15), 3) := by decide +kernel
theorem dX12_lives_30 : decode cX12_lives 30 = .ok (.iconst 0, 1) := by decide +kernel
theorem dX12_lives_31 : decode cX12_lives 31 = .ok (.istore_n 2, 1) := by decide +kernel
theorem dX12_lives_32 : decode cX12_lives 32 = .ok (.iload_n 2, 1) := by decide +kernel
theorem dX12_lives_33 : decode cX12_lives 33 = .ok (.aload_n 0, 1) := by decide +kernel
theorem dX12_lives_34 : decode cX12_lives 34 = .ok (.getfield 7, 3) := by decide +kernel
theorem dX12_lives_37 : decode cX12_lives 37 = .ok (.bipush 11, 2) := by decide +kernel
theorem dX12_lives_39 : decode cX12_lives 39 = .ok (.iaload, 1) := by decide +kernel
theorem dX12_lives_40 : decode cX12_lives 40 = .ok (.if_icmp .ge 145, 3) := by decide +kernel
theorem dX12_lives_43 : decode cX12_lives 43 = .ok (.aload_n 0, 1) := by decide +kernel
theorem dX12_lives_44 : decode cX12_lives 44 = .ok (.getfield 446, 3) := by decide +kernel
theorem dX12_lives_47 : decode cX12_lives 47 = .ok (.sipush 300, 3) := by decide +kernel
theorem dX12_lives_50 : decode cX12_lives 50 = .ok (.if_icmp .ne 11, 3) := by decide +kernel
theorem dX12_lives_53 : decode cX12_lives 53 = .ok (.aload_n 0, 1) := by decide +kernel
theorem dX12_lives_54 : decode cX12_lives 54 = .ok (.getfield 59, 3) := by decide +kernel
theorem dX12_lives_57 : decode cX12_lives 57 = .ok (.iconst 4, 1) := by decide +kernel
theorem dX12_lives_58 : decode cX12_lives 58 = .ok (.iconst 1, 1) := by decide +kernel
theorem dX12_lives_59 : decode cX12_lives 59 = .ok (.iastore, 1) := by decide +kernel
theorem dX12_lives_60 : decode cX12_lives 60 = .ok (.return_, 1) := by decide +kernel
theorem dX12_lives_61 : decode cX12_lives 61 = .ok (.sipush 226, 3) := by decide +kernel
theorem dX12_lives_64 : decode cX12_lives 64 = .ok (.bipush 6, 2) := by decide +kernel
theorem dX12_lives_66 : decode cX12_lives 66 = .ok (.iload_n 2, 1) := by decide +kernel
theorem dX12_lives_67 : decode cX12_lives 67 = .ok (.imul, 1) := by decide +kernel
theorem dX12_lives_68 : decode cX12_lives 68 = .ok (.iadd, 1) := by decide +kernel
theorem dX12_lives_69 : decode cX12_lives 69 = .ok (.istore_n 3, 1) := by decide +kernel
theorem dX12_lives_70 : decode cX12_lives 70 = .ok (.aload_n 0, 1) := by decide +kernel
theorem dX12_lives_71 : decode cX12_lives 71 = .ok (.dup, 1) := by decide +kernel
theorem dX12_lives_72 : decode cX12_lives 72 = .ok (.getfield 446, 3) := by decide +kernel
theorem dX12_lives_75 : decode cX12_lives 75 = .ok (.iconst 1, 1) := by decide +kernel
theorem dX12_lives_76 : decode cX12_lives 76 = .ok (.iadd, 1) := by decide +kernel
theorem dX12_lives_77 : decode cX12_lives 77 = .ok (.putfield 446, 3) := by decide +kernel
theorem dX12_lives_80 : decode cX12_lives 80 = .ok (.aload_n 0, 1) := by decide +kernel
theorem dX12_lives_81 : decode cX12_lives 81 = .ok (.getfield 7, 3) := by decide +kernel
theorem dX12_lives_84 : decode cX12_lives 84 = .ok (.iload_n 3, 1) := by decide +kernel
theorem dX12_lives_85 : decode cX12_lives 85 = .ok (.iaload, 1) := by decide +kernel
theorem dX12_lives_86 : decode cX12_lives 86 = .ok (.bipush 21, 2) := by decide +kernel
theorem dX12_lives_88 : decode cX12_lives 88 = .ok (.if_icmp .ne 4, 3) := by decide +kernel
theorem dX12_lives_91 : decode cX12_lives 91 = .ok (.return_, 1) := by decide +kernel
theorem dX12_lives_92 : decode cX12_lives 92 = .ok (.aload_n 0, 1) := by decide +kernel
theorem dX12_lives_93 : decode cX12_lives 93 = .ok (.getfield 59, 3) := by decide +kernel
theorem dX12_lives_96 : decode cX12_lives 96 = .ok (.iconst 0, 1) := by decide +kernel
theorem dX12_lives_97 : decode cX12_lives 97 = .ok (.dup2, 1) := by decide +kernel
theorem dX12_lives_98 : decode cX12_lives 98 = .ok (.iaload, 1) := by decide +kernel
theorem dX12_lives_99 : decode cX12_lives 99 = .ok (.aload_n 0, 1) := by decide +kernel
theorem dX12_lives_100 : decode cX12_lives 100 = .ok (.iload_n 3, 1) := by decide +kernel
theorem dX12_lives_101 : decode cX12_lives 101 = .ok (.invokevirtual 449, 3) := by decide +kernel
theorem dX12_lives_104 : decode cX12_lives 104 = .ok (.ifCond .eq 7, 3) := by decide +kernel
theorem dX12_lives_107 : decode cX12_lives 107 = .ok (.iconst 0, 1) := by decide +kernel
theorem dX12_lives_108 : decode cX12_lives 108 = .ok (.goto 4, 3) := by decide +kernel
theorem dX12_lives_111 : decode cX12_lives 111 = .ok (.iconst 1, 1) := by decide +kernel
theorem dX12_lives_112 : decode cX12_lives 112 = .ok (.iadd, 1) := by decide +kernel
theorem dX12_lives_113 : decode cX12_lives 113 = .ok (.iastore, 1) := by decide +kernel
theorem dX12_lives_114 : decode cX12_lives 114 = .ok (.aload_n 0, 1) := by decide +kernel
theorem dX12_lives_115 : decode cX12_lives 115 = .ok (.getfield 7, 3) := by decide +kernel
theorem dX12_lives_118 : decode cX12_lives 118 = .ok (.iload_n 3, 1) := by decide +kernel
theorem dX12_lives_119 : decode cX12_lives 119 = .ok (.iaload, 1) := by decide +kernel
theorem dX12_lives_120 : decode cX12_lives 120 = .ok (.bipush 19, 2) := by decide +kernel
theorem dX12_lives_122 : decode cX12_lives 122 = .ok (.if_icmp .ne 19, 3) := by decide +kernel
theorem dX12_lives_125 : decode cX12_lives 125 = .ok (.aload_n 0, 1) := by decide +kernel
theorem dX12_lives_126 : decode cX12_lives 126 = .ok (.getfield 56, 3) := by decide +kernel
theorem dX12_lives_129 : decode cX12_lives 129 = .ok (.iload_n 2, 1) := by decide +kernel
theorem dX12_lives_130 : decode cX12_lives 130 = .ok (.aload_n 0, 1) := by decide +kernel
theorem dX12_lives_131 : decode cX12_lives 131 = .ok (.getfield 7, 3) := by decide +kernel
theorem dX12_lives_134 : decode cX12_lives 134 = .ok (.iload_n 3, 1) := by decide +kernel
theorem dX12_lives_135 : decode cX12_lives 135 = .ok (.iconst 1, 1) := by decide +kernel
theorem dX12_lives_136 : decode cX12_lives 136 = .ok (.iadd, 1) := by decide +kernel
theorem dX12_lives_137 : decode cX12_lives 137 = .ok (.iaload, 1) := by decide +kernel
theorem dX12_lives_138 : decode cX12_lives 138 = .ok (.iconst 1, 1) := by decide +kernel
theorem dX12_lives_139 : decode cX12_lives 139 = .ok (.isub, 1) := by decide +kernel
theorem dX12_lives_140 : decode cX12_lives 140 = .ok (.iastore, 1) := by decide +kernel
theorem dX12_lives_141 : decode cX12_lives 141 = .ok (.aload_n 0, 1) := by decide +kernel
theorem dX12_lives_142 : decode cX12_lives 142 = .ok (.aload_n 0, 1) := by decide +kernel
theorem dX12_lives_143 : decode cX12_lives 143 = .ok (.getfield 7, 3) := by decide +kernel
theorem dX12_lives_146 : decode cX12_lives 146 = .ok (.iload_n 3, 1) := by decide +kernel
theorem dX12_lives_147 : decode cX12_lives 147 = .ok (.iaload, 1) := by decide +kernel
theorem dX12_lives_148 : decode cX12_lives 148 = .ok (.sipush 1800, 3) := by decide +kernel
theorem dX12_lives_151 : decode cX12_lives 151 = .ok (.if_icmp .lt 24, 3) := by decide +kernel
theorem dX12_lives_154 : decode cX12_lives 154 = .ok (.aload_n 0, 1) := by decide +kernel
theorem dX12_lives_155 : decode cX12_lives 155 = .ok (.iload_n 3, 1) := by decide +kernel
theorem dX12_lives_156 : decode cX12_lives 156 = .ok (.invokevirtual 452, 3) := by decide +kernel
theorem dX12_lives_159 : decode cX12_lives 159 = .ok (.ifCond .ne 16, 3) := by decide +kernel
theorem dX12_lives_162 : decode cX12_lives 162 = .ok (.aload_n 0, 1) := by decide +kernel
theorem dX12_lives_163 : decode cX12_lives 163 = .ok (.getfield 7, 3) := by decide +kernel
theorem dX12_lives_166 : decode cX12_lives 166 = .ok (.iload_n 3, 1) := by decide +kernel
theorem dX12_lives_167 : decode cX12_lives 167 = .ok (.iconst 4, 1) := by decide +kernel
theorem dX12_lives_168 : decode cX12_lives 168 = .ok (.iadd, 1) := by decide +kernel
theorem dX12_lives_169 : decode cX12_lives 169 = .ok (.iaload, 1) := by decide +kernel
theorem dX12_lives_170 : decode cX12_lives 170 = .ok (.iconst 1, 1) := by decide +kernel
theorem dX12_lives_171 : decode cX12_lives 171 = .ok (.iadd, 1) := by decide +kernel
theorem dX12_lives_172 : decode cX12_lives 172 = .ok (.goto 6, 3) := by decide +kernel
theorem dX12_lives_175 : decode cX12_lives 175 = .ok (.iload_n 2, 1) := by decide +kernel
theorem dX12_lives_176 : decode cX12_lives 176 = .ok (.iconst 1, 1) := by decide +kernel
theorem dX12_lives_177 : decode cX12_lives 177 = .ok (.iadd, 1) := by decide +kernel
theorem dX12_lives_178 : decode cX12_lives 178 = .ok (.invokevirtual 455, 3) := by decide +kernel
theorem dX12_lives_181 : decode cX12_lives 181 = .ok (.istore_n 2, 1) := by decide +kernel
theorem dX12_lives_182 : decode cX12_lives 182 = .ok (.goto (-150), 3) := by decide +kernel
theorem dX12_lives_185 : decode cX12_lives 185 = .ok (.return_, 1) := by decide +kernel
abbrev M_X12_lives : MT := (yX12_lives, cX12_lives, 4, none)
theorem cf_X12_lives : fq_cf M_X12_lives 1 := ⟨(mg_1 (List.mem_of_getElem? (i := 15) rfl) rfl), (mg_9 (List.mem_of_getElem? (i := 137) rfl) rfl), ⟨by decide, by decide, by decide +kernel⟩, by decide⟩
def B_X12_lives_178 (l : Launch) (G : GT) (D mc ms : Nat) (Q : Post) : Cn := ix_vcall 12 2 0 0 mc ms (sp_X12_behindEnds G) (ix_istore 2 (fqAt l G M_X12_lives (D + 8) mc ms Q 32))
theorem b_X12_lives_178 {l : Launch} {G : GT} {D mc ms : Nat} {Q : Post} : Imp l G M_X12_lives (D + 8) mc ms Q (B_X12_lives_178 l G D mc ms Q) 178 := sx_vcall dX12_lives_178 cf_X12_behindEnds (mg_9 (List.mem_of_getElem? (i := 167) rfl) rfl) (mg_9 (List.mem_of_getElem? (i := 169) rfl) rfl) (mg_p (List.mem_of_getElem? (i := 127) rfl) rfl) rfl c_X12_behindEnds (sx_istore_n dX12_lives_181 rfl (by decide) (sx_goto 32 dX12_lives_182 (by decide) ((fun _ _ _ _ _ _ _ _ h => h))))
def B_X12_lives_175 (l : Launch) (G : GT) (D mc ms : Nat) (Q : Post) : Cn := ix_iload 2 (ix_pushI 1 (ix_iadd ((B_X12_lives_178 l G D mc ms Q))))
theorem b_X12_lives_175 {l : Launch} {G : GT} {D mc ms : Nat} {Q : Post} : Imp l G M_X12_lives (D + 8) mc ms Q (B_X12_lives_175 l G D mc ms Q) 175 := sx_iload_n dX12_lives_175 rfl (sx_iconst dX12_lives_176 rfl (sx_iadd dX12_lives_177 (b_X12_lives_178)))
def B_X12_lives_141 (l : Launch) (G : GT) (D mc ms : Nat) (Q : Post) : Cn := ix_aload 0 (ix_aload 0 (ix_getR 12 0 (ix_iload 3 (ix_iald (ix_pushI 1800 (ix_icmp_lt ((B_X12_lives_175 l G D mc ms Q)) (ix_aload 0 (ix_iload 3 (ix_vcall 12 2 0 0 mc ms (sp_X12_holds G) (ix_if_ne ((B_X12_lives_175 l G D mc ms Q)) (ix_aload 0 (ix_getR 12 0 (ix_iload 3 (ix_pushI 4 (ix_iadd (ix_iald (ix_pushI 1 (ix_iadd ((B_X12_lives_178 l G D mc ms Q))))))))))))))))))))
theorem b_X12_lives_141 {l : Launch} {G : GT} {D mc ms : Nat} {Q : Post} : Imp l G M_X12_lives (D + 8) mc ms Q (B_X12_lives_141 l G D mc ms Q) 141 := sx_aload_n dX12_lives_141 rfl (sx_aload_n dX12_lives_142 rfl (sx_getR dX12_lives_143 fl_FootQuarrelModel_7 (fun _ _ _ => rfl) (sx_iload_n dX12_lives_146 rfl (sx_iald dX12_lives_147 (sx_sipush dX12_lives_148 rfl (sx_icmp_lt 175 dX12_lives_151 (by decide) (b_X12_lives_175) (sx_aload_n dX12_lives_154 rfl (sx_iload_n dX12_lives_155 rfl (sx_vcall dX12_lives_156 cf_X12_holds (mg_9 (List.mem_of_getElem? (i := 163) rfl) rfl) (mg_9 (List.mem_of_getElem? (i := 165) rfl) rfl) (mg_p (List.mem_of_getElem? (i := 126) rfl) rfl) rfl c_X12_holds (sx_if_ne 175 dX12_lives_159 (by decide) (b_X12_lives_175) (sx_aload_n dX12_lives_162 rfl (sx_getR dX12_lives_163 fl_FootQuarrelModel_7 (fun _ _ _ => rfl) (sx_iload_n dX12_lives_166 rfl (sx_iconst dX12_lives_167 rfl (sx_iadd dX12_lives_168 (sx_iald dX12_lives_169 (sx_iconst dX12_lives_170 rfl (sx_iadd dX12_lives_171 (sx_goto 178 dX12_lives_172 (by decide) (b_X12_lives_178))))))))))))))))))))
def B_X12_lives_114 (l : Launch) (G : GT) (D mc ms : Nat) (Q : Post) : Cn := ix_aload 0 (ix_getR 12 0 (ix_iload 3 (ix_iald (ix_pushI 19 (ix_icmp_ne ((B_X12_lives_141 l G D mc ms Q)) (ix_aload 0 (ix_getR 12 31 (ix_iload 2 (ix_aload 0 (ix_getR 12 0 (ix_iload 3 (ix_pushI 1 (ix_iadd (ix_iald (ix_pushI 1 (ix_isub (ix_iast ((B_X12_lives_141 l G D mc ms Q)))))))))))))))))))
theorem b_X12_lives_114 {l : Launch} {G : GT} {D mc ms : Nat} {Q : Post} : Imp l G M_X12_lives (D + 8) mc ms Q (B_X12_lives_114 l G D mc ms Q) 114 := sx_aload_n dX12_lives_114 rfl (sx_getR dX12_lives_115 fl_FootQuarrelModel_7 (fun _ _ _ => rfl) (sx_iload_n dX12_lives_118 rfl (sx_iald dX12_lives_119 (sx_bipush dX12_lives_120 rfl (sx_icmp_ne 141 dX12_lives_122 (by decide) (b_X12_lives_141) (sx_aload_n dX12_lives_125 rfl (sx_getR dX12_lives_126 fl_FootQuarrelModel_56 (fun _ _ _ => rfl) (sx_iload_n dX12_lives_129 rfl (sx_aload_n dX12_lives_130 rfl (sx_getR dX12_lives_131 fl_FootQuarrelModel_7 (fun _ _ _ => rfl) (sx_iload_n dX12_lives_134 rfl (sx_iconst dX12_lives_135 rfl (sx_iadd dX12_lives_136 (sx_iald dX12_lives_137 (sx_iconst dX12_lives_138 rfl (sx_isub dX12_lives_139 (sx_iast dX12_lives_140 (b_X12_lives_141))))))))))))))))))
def B_X12_lives_112 (l : Launch) (G : GT) (D mc ms : Nat) (Q : Post) : Cn := ix_iadd (ix_iast ((B_X12_lives_114 l G D mc ms Q)))
theorem b_X12_lives_112 {l : Launch} {G : GT} {D mc ms : Nat} {Q : Post} : Imp l G M_X12_lives (D + 8) mc ms Q (B_X12_lives_112 l G D mc ms Q) 112 := sx_iadd dX12_lives_112 (sx_iast dX12_lives_113 (b_X12_lives_114))
def B_X12_lives_104 (l : Launch) (G : GT) (D mc ms : Nat) (Q : Post) : Cn := ix_if_eq (ix_pushI 1 ((B_X12_lives_112 l G D mc ms Q))) (ix_pushI 0 ((B_X12_lives_112 l G D mc ms Q)))
theorem b_X12_lives_104 {l : Launch} {G : GT} {D mc ms : Nat} {Q : Post} : Imp l G M_X12_lives (D + 8) mc ms Q (B_X12_lives_104 l G D mc ms Q) 104 := sx_if_eq 111 dX12_lives_104 (by decide) (sx_iconst dX12_lives_111 rfl (b_X12_lives_112)) (sx_iconst dX12_lives_107 rfl (sx_goto 112 dX12_lives_108 (by decide) (b_X12_lives_112)))
def B_X12_lives_32 (l : Launch) (G : GT) (D mc ms : Nat) (Q : Post) : Cn := ix_iload 2 (ix_aload 0 (ix_getR 12 0 (ix_pushI 11 (ix_iald (ix_icmp_ge (ix_vret mc ms Q) (ix_aload 0 (ix_getI 12 30 (ix_pushI 300 (ix_icmp_ne (ix_pushI 226 (ix_pushI 6 (ix_iload 2 (ix_imul (ix_iadd (ix_istore 3 (ix_aload 0 (ix_dupR (ix_getI 12 30 (ix_pushI 1 (ix_iadd (ix_putI 12 30 (ix_aload 0 (ix_getR 12 0 (ix_iload 3 (ix_iald (ix_pushI 21 (ix_icmp_ne (ix_aload 0 (ix_getR 12 32 (ix_pushI 0 (ix_dup2 (ix_iald (ix_aload 0 (ix_iload 3 (ix_vcall 12 2 0 0 mc ms (sp_X12_does G) ((B_X12_lives_104 l G D mc ms Q)))))))))) (ix_vret mc ms Q))))))))))))))))))) (ix_aload 0 (ix_getR 12 32 (ix_pushI 4 (ix_pushI 1 (ix_iast (ix_vret mc ms Q)))))))))))))))
theorem b_X12_lives_32 {l : Launch} {G : GT} {D mc ms : Nat} {Q : Post} : Imp l G M_X12_lives (D + 8) mc ms Q (B_X12_lives_32 l G D mc ms Q) 32 := sx_iload_n dX12_lives_32 rfl (sx_aload_n dX12_lives_33 rfl (sx_getR dX12_lives_34 fl_FootQuarrelModel_7 (fun _ _ _ => rfl) (sx_bipush dX12_lives_37 rfl (sx_iald dX12_lives_39 (sx_icmp_ge 185 dX12_lives_40 (by decide) (sx_vret dX12_lives_185 rfl) (sx_aload_n dX12_lives_43 rfl (sx_getI dX12_lives_44 fl_FootQuarrelModel_446 (fun _ _ _ => rfl) (sx_sipush dX12_lives_47 rfl (sx_icmp_ne 61 dX12_lives_50 (by decide) (sx_sipush dX12_lives_61 rfl (sx_bipush dX12_lives_64 rfl (sx_iload_n dX12_lives_66 rfl (sx_imul dX12_lives_67 (sx_iadd dX12_lives_68 (sx_istore_n dX12_lives_69 rfl (by decide) (sx_aload_n dX12_lives_70 rfl (sx_dupR dX12_lives_71 (sx_getI dX12_lives_72 fl_FootQuarrelModel_446 (fun _ _ _ => rfl) (sx_iconst dX12_lives_75 rfl (sx_iadd dX12_lives_76 (sx_putI dX12_lives_77 fl_FootQuarrelModel_446 (by decide) (fun _ _ _ => rfl) (fun _ => ⟨rfl, rfl⟩) (sx_aload_n dX12_lives_80 rfl (sx_getR dX12_lives_81 fl_FootQuarrelModel_7 (fun _ _ _ => rfl) (sx_iload_n dX12_lives_84 rfl (sx_iald dX12_lives_85 (sx_bipush dX12_lives_86 rfl (sx_icmp_ne 92 dX12_lives_88 (by decide) (sx_aload_n dX12_lives_92 rfl (sx_getR dX12_lives_93 fl_FootQuarrelModel_59 (fun _ _ _ => rfl) (sx_iconst dX12_lives_96 rfl (sx_dup2 dX12_lives_97 (sx_iald dX12_lives_98 (sx_aload_n dX12_lives_99 rfl (sx_iload_n dX12_lives_100 rfl (sx_vcall dX12_lives_101 cf_X12_does (mg_9 (List.mem_of_getElem? (i := 138) rfl) rfl) (mg_9 (List.mem_of_getElem? (i := 140) rfl) rfl) (mg_p (List.mem_of_getElem? (i := 120) rfl) rfl) rfl c_X12_does (b_X12_lives_104))))))))) (sx_vret dX12_lives_91 rfl))))))))))))))))))) (sx_aload_n dX12_lives_53 rfl (sx_getR dX12_lives_54 fl_FootQuarrelModel_59 (fun _ _ _ => rfl) (sx_iconst dX12_lives_57 rfl (sx_iconst dX12_lives_58 rfl (sx_iast dX12_lives_59 (sx_vret dX12_lives_60 rfl)))))))))))))))
def B_X12_lives_12 (l : Launch) (G : GT) (D mc ms : Nat) (Q : Post) : Cn := ix_iload 2 (ix_pushI 5 (ix_icmp_ge (ix_pushI 0 (ix_istore 2 (fqAt l G M_X12_lives (D + 8) mc ms Q 32))) (ix_aload 0 (ix_getR 12 32 (ix_iload 2 (ix_pushI 0 (ix_iast (ix_iinc 2 1 (fqAt l G M_X12_lives (D + 8) mc ms Q 12)))))))))
theorem b_X12_lives_12 {l : Launch} {G : GT} {D mc ms : Nat} {Q : Post} : Imp l G M_X12_lives (D + 8) mc ms Q (B_X12_lives_12 l G D mc ms Q) 12 := sx_iload_n dX12_lives_12 rfl (sx_iconst dX12_lives_13 rfl (sx_icmp_ge 30 dX12_lives_14 (by decide) (sx_iconst dX12_lives_30 rfl (sx_istore_n dX12_lives_31 rfl (by decide) ((fun _ _ _ _ _ _ _ _ h => h)))) (sx_aload_n dX12_lives_17 rfl (sx_getR dX12_lives_18 fl_FootQuarrelModel_59 (fun _ _ _ => rfl) (sx_iload_n dX12_lives_21 rfl (sx_iconst dX12_lives_22 rfl (sx_iast dX12_lives_23 (sx_iinc dX12_lives_24 rfl (by decide) (sx_goto 12 dX12_lives_27 (by decide) ((fun _ _ _ _ _ _ _ _ h => h)))))))))))
def B_X12_lives_0 (l : Launch) (G : GT) (D mc ms : Nat) (Q : Post) : Cn := ix_aload 0 (ix_iload 1 (ix_putI 12 29 (ix_aload 0 (ix_pushI 0 (ix_putI 12 30 (ix_pushI 0 (ix_istore 2 (fqAt l G M_X12_lives (D + 8) mc ms Q 12))))))))
theorem b_X12_lives_0 {l : Launch} {G : GT} {D mc ms : Nat} {Q : Post} : Imp l G M_X12_lives (D + 8) mc ms Q (B_X12_lives_0 l G D mc ms Q) 0 := sx_aload_n dX12_lives_0 rfl (sx_iload_n dX12_lives_1 rfl (sx_putI dX12_lives_2 fl_FootQuarrelModel_427 (by decide) (fun _ _ _ => rfl) (fun _ => ⟨rfl, rfl⟩) (sx_aload_n dX12_lives_5 rfl (sx_iconst dX12_lives_6 rfl (sx_putI dX12_lives_7 fl_FootQuarrelModel_446 (by decide) (fun _ _ _ => rfl) (fun _ => ⟨rfl, rfl⟩) (sx_iconst dX12_lives_10 rfl (sx_istore_n dX12_lives_11 rfl (by decide) ((fun _ _ _ _ _ _ _ _ h => h)))))))))
def sp_X12_lives (G : GT) : Sp := fun as S I J z Q => match as with
  | [.ref M, .int a] => rfS S M ∧ wfS (I (M + 1)) ∧ okL (I (M + 12)) ∧ ∃ d N, a = nI d ∧ d < 65536 ∧ I (M + 1) 11 = nI N ∧ wfY (I (M + 1)) N ∧ ∀ I', lgF M I I' → lvH M I' (lvR N 302 (I (M + 1), d, fun _ => 0, 0, I (M + 12)) 0) → Q none S I' J z
  | _ => False
set_option maxHeartbeats 4000000 in
set_option maxRecDepth 20000 in
theorem c_X12_lives {l : Launch} {G : GT} {D : Nat} : ∀ as S I J z Q, sp_X12_lives G as S I J z Q → fqCall l G M_X12_lives (D + 8) 0 0 as S I J z Q := by
  intro as S I J z Q h
  unfold sp_X12_lives at h
  split at h
  · next M a =>
    obtain ⟨hm, hw, hL, d, N, rfl, hd, hN, hy, hQ⟩ := h
    have lp : ∀ (f : Nat) (x : LSt) (k : Nat) (I1 : IH) (o3 : Option Value), wfS x.1 → wfY x.1 N → x.1 11 = nI N → okL x.2.2.2.2 → x.2.1 < 65536 → k ≤ N → x.2.2.2.1 ≤ 300 → 300 < x.2.2.2.1 + f → lgF M I I1 → lvH M I1 x → lvR N 302 (I (M + 1), d, fun _ => 0, 0, I (M + 12)) 0 = lvR N f x k → fqAt l G M_X12_lives (D + 8) 0 0 Q 32 [some (.ref M), some (.int (nI d)), some (.int (nI k)), o3] [] S I1 J z 0 0 := by
      intro f
      induction f with
      | zero =>
        intro x k I1 o3 _ _ _ _ _ _ h1 h2
        omega
      | succ f ih =>
        intro x k I1 o3 hw hy hN hL hd9 hk hn hf hF hH he
        obtain ⟨A, dd, R, n, L⟩ := x
        simp only at hw hy hN hL hd9 hn hf
        obtain ⟨g1, g2, g3, g4, g5⟩ := hH
        simp only at g1 g2 g3 g4 g5
        have hN6 := hy.1
        have e11 : I1 (M + 1) 11 = nI N := by rw [g1]; exact hN
        have er : I1 (M + 1) (226 + 6 * k) = A (226 + 6 * k) := by rw [g1]
        rw [show lvR N (f + 1) (A, dd, R, n, L) k = if ¬ k < N then (A, dd, R, n, L) else if n = 300 then (A, dd, uA R 4 1, n, L) else if A (226 + 6 * k) = 21 then (A, dd, R, n + 1, L) else lvR N f ((doF A dd (226 + 6 * k)).2.1, (doF A dd (226 + 6 * k)).2.2.1, rnU R (doF A dd (226 + 6 * k)), n + 1, (bhE (doF A dd (226 + 6 * k)).2.1 N 200 (if A (226 + 6 * k) = 19 then uA L k (A (226 + 6 * k + 1) - 1) else L) (nxK (doF A dd (226 + 6 * k)).2.1 k)).1) (bhE (doF A dd (226 + 6 * k)).2.1 N 200 (if A (226 + 6 * k) = 19 then uA L k (A (226 + 6 * k + 1) - 1) else L) (nxK (doF A dd (226 + 6 * k)).2.1 k)).2 from rfl] at he
        refine b_X12_lives_32 _ _ _ _ _ _ _ _ ?_
        simp (disch := omega) only [B_X12_lives_0, B_X12_lives_12, B_X12_lives_32, B_X12_lives_112, B_X12_lives_175, sp_X12_does, sp_X12_holds, sp_X12_behindEnds, hm, hm.k, hm.k1, hm.n1, hm.r1, hm.k2, hm.n2, hm.r2, hm.k3, hm.n3, hm.r3, hm.k4, hm.n4, hm.r4, hm.k5, hm.n5, hm.r5, hm.k6, hm.n6, hm.r6, hm.k7, hm.n7, hm.r7, hm.k8, hm.n8, hm.r8, hm.k9, hm.n9, hm.r9, hm.k10, hm.n10, hm.r10, hm.k11, hm.n11, hm.r11, hm.k12, hm.n12, hm.r12, hm.k13, hm.n13, hm.r13, hm.k14, hm.n14, hm.r14, li_2, li_3, li_4, li_5, li_6, li_7, li_8, li_9, li_10, li_11, li_12, li_13, li_14, li_15, li_16, li_17, li_18, li_19, li_20, li_21, li_22, li_23, li_24, li_25, li_26, li_27, li_28, li_29, li_30, li_32, li_33, li_34, li_35, li_36, li_37, li_38, li_39, li_40, li_41, li_42, li_43, li_44, li_45, li_46, li_47, li_48, li_49, li_50, li_51, li_52, li_53, li_54, li_55, li_56, li_57, li_58, li_59, li_60, li_61, li_62, li_63, li_64, li_65, li_66, li_67, li_68, li_69, li_70, li_71, li_72, li_73, li_74, li_75, li_76, li_77, li_78, li_79, li_80, li_81, li_82, li_83, li_84, li_85, li_86, li_87, li_88, li_89, li_90, li_91, li_92, li_93, li_94, li_95, li_96, li_97, li_98, li_99, li_100, li_101, li_102, li_103, li_104, li_105, li_106, li_107, li_108, li_109, li_110, li_111, li_112, li_113, li_114, li_115, li_116, li_117, li_118, li_119, li_120, li_121, li_122, li_123, li_124, li_125, li_126, li_127, li_128, li_129, li_130, li_131, li_226, li_240, li_255, li_300, li_586, li_594, li_900, li_999, li_1000, li_1800, li_2376, li_2388, li_2406, li_2602, li_2970, li_3067, li_3564, li_9999, li_10000, li_11287, li_65536, li_100000, li_1000000, nI_mul, tn0, tn1, vin0, vin1, Int32.add_zero, Int32.or_zero, Int32.mul_one, Int32.mul_zero, Int32.zero_add, Nat.reduceEqDiff, Nat.reduceMul, Nat.reduceSub, e11, g4, er, u2_ca, nI_1, nI_add, nI_clamp, nI_pin, nI_neg, nI_nonneg, nI_leE, nI_ltE, nI_eqE, Nat.not_le, Nat.not_lt, fq_10, fq_01, fq_rr, ix_aald, ix_aast, ix_abs, ix_alen, ix_aload, ix_aret, ix_astore, ix_bald, ix_bast, ix_call, ix_cpyI, ix_cpyJ, ix_dead, ix_dup2, ix_dup2L, ix_dupI, ix_dupR, ix_dupx1, ix_getI, ix_getJ, ix_getR, ix_gfm, ix_gtab, ix_i2b, ix_i2c, ix_i2l, ix_i2s, ix_iadd, ix_iald, ix_iand, ix_iast, ix_icall, ix_icmp_eq, ix_icmp_ge, ix_icmp_gt, ix_icmp_le, ix_icmp_lt, ix_icmp_ne, ix_idiv, ix_if_eq, ix_if_ge, ix_if_gt, ix_if_le, ix_if_lt, ix_if_ne, ix_iinc, ix_iload, ix_imul, ix_ineg, ix_ior, ix_irem, ix_iret, ix_ishl, ix_ishr, ix_istore, ix_isub, ix_iushr, ix_ixor, ix_l2i, ix_ladd, ix_lald, ix_land, ix_last, ix_lcmp, ix_ldcS, ix_ldiv, ix_lload, ix_lmul, ix_lor, ix_lrem, ix_lret, ix_lshl, ix_lstore, ix_lsub, ix_lsw, ix_max, ix_min, ix_new, ix_newa, ix_nret, ix_oinit, ix_pop2L, ix_popI, ix_pushI, ix_pushL, ix_putI, ix_putJ, ix_putR, ix_putZ, ix_sbald, ix_sgetC, ix_sgetV, ix_slen, ix_strc, ix_tald, ix_tsw, ix_vcall, ix_vret, ix_zret, stL, stL2, kilL, popN, fq_sw, fq_lsw, List.map_cons, List.map_nil, List.getElem?_cons_zero, List.getElem?_cons_succ, Option.toList_some, Option.toList_none, List.cons_append, List.nil_append, List.length_cons, List.length_nil, List.sum_cons, List.sum_nil, cat_i, cat_l, cat_r, true_and, and_true, Nat.zero_add, Nat.add_zero, Nat.le_refl, Nat.zero_le, Nat.reduceAdd, Nat.reduceLeDiff, exists_eq_left', Option.some.injEq, not_true_eq_false, not_false_eq_true, false_implies, true_implies, implies_true, and_self, or_true, true_or, or_false, false_or]
        by_cases hkN : k < N
        · have hK := hy.2.1 k hkN
          have hO := hK.o
          rw [if_neg (fun q => q hkN)] at he
          refine ⟨fun h => absurd h (by omega), fun _ => ⟨fun h300 => ⟨fun h21 => ?_, fun h21 => ?_⟩, fun h300 => ?_⟩⟩
          · have h21 : ¬ A (226 + 6 * k) = 21 := h21
            rw [if_neg h300, if_neg h21] at he
            obtain ⟨w1, w2, w3⟩ := doF_ok hw hO hd9
            have q1 : u2 I1 M 30 (nI (n + 1)) (M + 1) = A := by rw [u2_ne (by omega), g1]
            have q2 : u2 I1 M 30 (nI (n + 1)) (M + 13) = I1 (M + 13) := u2_ne (by omega)
            have q3 : u2 I1 M 30 (nI (n + 1)) M 29 = nI dd := by rw [u2_ck _ _ _ _ _ _ (by omega)]; exact g2
            rw [q1]
            refine ⟨hw, 226 + 6 * k, dd, rfl, by omega, hO, q3, hd9, fun I' hI' => ?_⟩
            have wY := hy.cg w2
            generalize hoo : doF A dd (226 + 6 * k) = o at *
            have ar : ∀ j, o.2.1 (226 + 6 * k + j) = A (226 + 6 * k + j) := fun j => w2 _ (by omega)
            have ar0 : o.2.1 (226 + 6 * k) = A (226 + 6 * k) := w2 _ (by omega)
            have hK2 := wY.2.1 k hkN
            have a11 : o.2.1 11 = nI N := by rw [w2 11 (by omega)]; exact hN
            generalize hL1 : (if A (226 + 6 * k) = 19 then uA L k (A (226 + 6 * k + 1) - 1) else L) = L1 at *
            have okL1 : okL L1 := by
              rw [← hL1]
              split
              · next h19 =>
                intro j hj
                by_cases e : j = k
                · rw [e, uA_e]
                  rcases hK with q | q | q
                  · rw [q.1] at h19
                    exact absurd h19 (by decide)
                  · obtain ⟨⟨c, hc, ec, ec2⟩, hc1⟩ := (⟨(q.2.1 h19).1.ex, (q.2.1 h19).2⟩ : _ ∧ _)
                    obtain ⟨c', rfl⟩ : ∃ c', c = c' + 1 := ⟨c - 1, by omega⟩
                    rw [ec, nI_pred]
                    exact okN.nI (by omega) (by decide)
                  · rcases q.1 with q | q | q | q | q | q | q <;> rw [h19] at q <;> exact absurd q (by decide)
                · rw [uA_n _ _ _ _ e]
                  exact hL j hj
              · exact hL
            obtain ⟨bno, bok⟩ := bhE_200 wY (k := nxK o.2.1 k) okL1
            have s178 : ∀ (t : Nat) (I3 : IH), t = nxK o.2.1 k → t ≤ N → lgF M I I3 → I3 (M + 1) = o.2.1 → I3 M 29 = nI o.2.2.1 → (∀ j, j < 5 → I3 (M + 13) j = rnU R o j) → I3 M 30 = nI (n + 1) → I3 (M + 12) = L1 → B_X12_lives_178 l G D 0 0 Q [some (.ref M), some (.int (nI d)), some (.int (nI k)), some (.int (nI (226 + 6 * k)))] [.int (nI t), .ref M] S I3 J z 0 0 := by
              intro t I3 ht htN hF3 k1 k2 k3 k4 k5
              subst ht
              have ble := bhE_le wY 200 L1 _ htN
              have hz := ih (o.2.1, o.2.2.1, rnU R o, n + 1, (bhE o.2.1 N 200 L1 (nxK o.2.1 k)).1) (bhE o.2.1 N 200 L1 (nxK o.2.1 k)).2 (up1 I3 (M + 12) (bhE o.2.1 N 200 L1 (nxK o.2.1 k)).1) (some (.int (nI (226 + 6 * k)))) w1 wY a11 bok w3 ble (by show n + 1 ≤ 300; omega) (by show 300 < n + 1 + f; omega) (hF3.tr ⟨fun a h1 h2 h3 h4 => up1_o _ _ _ _ h3, fun j h1 h2 => by rw [up1_o _ _ _ _ (by omega)]⟩) ⟨by rw [up1_o _ _ _ _ (by omega)]; exact k1, by rw [up1_o _ _ _ _ (by omega)]; exact k2, fun j hj => by rw [up1_o _ _ _ _ (by omega)]; exact k3 j hj, by rw [up1_o _ _ _ _ (by omega)]; exact k4, by rw [up1_at]⟩ he
              simp (disch := omega) only [B_X12_lives_178, sp_X12_behindEnds, hm, hm.k, hm.k1, hm.n1, hm.r1, hm.k2, hm.n2, hm.r2, hm.k3, hm.n3, hm.r3, hm.k4, hm.n4, hm.r4, hm.k5, hm.n5, hm.r5, hm.k6, hm.n6, hm.r6, hm.k7, hm.n7, hm.r7, hm.k8, hm.n8, hm.r8, hm.k9, hm.n9, hm.r9, hm.k10, hm.n10, hm.r10, hm.k11, hm.n11, hm.r11, hm.k12, hm.n12, hm.r12, hm.k13, hm.n13, hm.r13, hm.k14, hm.n14, hm.r14, nI_1, nI_add, nI_clamp, nI_pin, nI_neg, nI_nonneg, nI_leE, nI_ltE, nI_eqE, Nat.not_le, Nat.not_lt, fq_10, fq_01, fq_rr, li_2, li_3, li_4, li_5, li_6, li_7, li_8, li_9, li_10, li_11, li_12, li_13, li_14, li_15, li_16, li_17, li_18, li_19, li_20, li_21, li_22, li_23, li_24, li_25, li_26, li_27, li_28, li_29, li_30, li_32, li_33, li_34, li_35, li_36, li_37, li_38, li_39, li_40, li_41, li_42, li_43, li_44, li_45, li_46, li_47, li_48, li_49, li_50, li_51, li_52, li_53, li_54, li_55, li_56, li_57, li_58, li_59, li_60, li_61, li_62, li_63, li_64, li_65, li_66, li_67, li_68, li_69, li_70, li_71, li_72, li_73, li_74, li_75, li_76, li_77, li_78, li_79, li_80, li_81, li_82, li_83, li_84, li_85, li_86, li_87, li_88, li_89, li_90, li_91, li_92, li_93, li_94, li_95, li_96, li_97, li_98, li_99, li_100, li_101, li_102, li_103, li_104, li_105, li_106, li_107, li_108, li_109, li_110, li_111, li_112, li_113, li_114, li_115, li_116, li_117, li_118, li_119, li_120, li_121, li_122, li_123, li_124, li_125, li_126, li_127, li_128, li_129, li_130, li_131, li_226, li_240, li_255, li_300, li_586, li_594, li_900, li_999, li_1000, li_1800, li_2376, li_2388, li_2406, li_2602, li_2970, li_3067, li_3564, li_9999, li_10000, li_11287, li_65536, li_100000, li_1000000, nI_mul, tn0, tn1, vin0, vin1, Int32.add_zero, Int32.or_zero, Int32.mul_one, Int32.mul_zero, Int32.zero_add, Nat.reduceEqDiff, Nat.reduceMul, Nat.reduceSub, ix_aald, ix_aast, ix_abs, ix_alen, ix_aload, ix_aret, ix_astore, ix_bald, ix_bast, ix_call, ix_cpyI, ix_cpyJ, ix_dead, ix_dup2, ix_dup2L, ix_dupI, ix_dupR, ix_dupx1, ix_getI, ix_getJ, ix_getR, ix_gfm, ix_gtab, ix_i2b, ix_i2c, ix_i2l, ix_i2s, ix_iadd, ix_iald, ix_iand, ix_iast, ix_icall, ix_icmp_eq, ix_icmp_ge, ix_icmp_gt, ix_icmp_le, ix_icmp_lt, ix_icmp_ne, ix_idiv, ix_if_eq, ix_if_ge, ix_if_gt, ix_if_le, ix_if_lt, ix_if_ne, ix_iinc, ix_iload, ix_imul, ix_ineg, ix_ior, ix_irem, ix_iret, ix_ishl, ix_ishr, ix_istore, ix_isub, ix_iushr, ix_ixor, ix_l2i, ix_ladd, ix_lald, ix_land, ix_last, ix_lcmp, ix_ldcS, ix_ldiv, ix_lload, ix_lmul, ix_lor, ix_lrem, ix_lret, ix_lshl, ix_lstore, ix_lsub, ix_lsw, ix_max, ix_min, ix_new, ix_newa, ix_nret, ix_oinit, ix_pop2L, ix_popI, ix_pushI, ix_pushL, ix_putI, ix_putJ, ix_putR, ix_putZ, ix_sbald, ix_sgetC, ix_sgetV, ix_slen, ix_strc, ix_tald, ix_tsw, ix_vcall, ix_vret, ix_zret, stL, stL2, kilL, popN, fq_sw, fq_lsw, List.map_cons, List.map_nil, List.getElem?_cons_zero, List.getElem?_cons_succ, Option.toList_some, Option.toList_none, List.cons_append, List.nil_append, List.length_cons, List.length_nil, List.sum_cons, List.sum_nil, cat_i, cat_l, cat_r, true_and, and_true, Nat.zero_add, Nat.add_zero, Nat.le_refl, Nat.zero_le, Nat.reduceAdd, Nat.reduceLeDiff, exists_eq_left', Option.some.injEq, not_true_eq_false, not_false_eq_true, false_implies, true_implies, implies_true, and_self, or_true, true_or, or_false, false_or]
              rw [k1, k5]
              exact ⟨nxK o.2.1 k, N, 200, rfl, by omega, a11, wY, bno, hz⟩
            have s141 : ∀ (I3 : IH), lgF M I I3 → I3 (M + 1) = o.2.1 → I3 M 29 = nI o.2.2.1 → (∀ j, j < 5 → I3 (M + 13) j = rnU R o j) → I3 M 30 = nI (n + 1) → I3 (M + 12) = L1 → B_X12_lives_141 l G D 0 0 Q [some (.ref M), some (.int (nI d)), some (.int (nI k)), some (.int (nI (226 + 6 * k)))] [] S I3 J z 0 0 := by
              intro I3 hF3 k1 k2 k3 k4 k5
              have k1r : ∀ j, I3 (M + 1) j = o.2.1 j := fun j => by rw [k1]
              simp (disch := omega) only [B_X12_lives_141, B_X12_lives_175, sp_X12_holds, hm, hm.k, hm.k1, hm.n1, hm.r1, hm.k2, hm.n2, hm.r2, hm.k3, hm.n3, hm.r3, hm.k4, hm.n4, hm.r4, hm.k5, hm.n5, hm.r5, hm.k6, hm.n6, hm.r6, hm.k7, hm.n7, hm.r7, hm.k8, hm.n8, hm.r8, hm.k9, hm.n9, hm.r9, hm.k10, hm.n10, hm.r10, hm.k11, hm.n11, hm.r11, hm.k12, hm.n12, hm.r12, hm.k13, hm.n13, hm.r13, hm.k14, hm.n14, hm.r14, k1r, nI_1, nI_add, nI_clamp, nI_pin, nI_neg, nI_nonneg, nI_leE, nI_ltE, nI_eqE, Nat.not_le, Nat.not_lt, fq_10, fq_01, fq_rr, li_2, li_3, li_4, li_5, li_6, li_7, li_8, li_9, li_10, li_11, li_12, li_13, li_14, li_15, li_16, li_17, li_18, li_19, li_20, li_21, li_22, li_23, li_24, li_25, li_26, li_27, li_28, li_29, li_30, li_32, li_33, li_34, li_35, li_36, li_37, li_38, li_39, li_40, li_41, li_42, li_43, li_44, li_45, li_46, li_47, li_48, li_49, li_50, li_51, li_52, li_53, li_54, li_55, li_56, li_57, li_58, li_59, li_60, li_61, li_62, li_63, li_64, li_65, li_66, li_67, li_68, li_69, li_70, li_71, li_72, li_73, li_74, li_75, li_76, li_77, li_78, li_79, li_80, li_81, li_82, li_83, li_84, li_85, li_86, li_87, li_88, li_89, li_90, li_91, li_92, li_93, li_94, li_95, li_96, li_97, li_98, li_99, li_100, li_101, li_102, li_103, li_104, li_105, li_106, li_107, li_108, li_109, li_110, li_111, li_112, li_113, li_114, li_115, li_116, li_117, li_118, li_119, li_120, li_121, li_122, li_123, li_124, li_125, li_126, li_127, li_128, li_129, li_130, li_131, li_226, li_240, li_255, li_300, li_586, li_594, li_900, li_999, li_1000, li_1800, li_2376, li_2388, li_2406, li_2602, li_2970, li_3067, li_3564, li_9999, li_10000, li_11287, li_65536, li_100000, li_1000000, nI_mul, tn0, tn1, vin0, vin1, Int32.add_zero, Int32.or_zero, Int32.mul_one, Int32.mul_zero, Int32.zero_add, Nat.reduceEqDiff, Nat.reduceMul, Nat.reduceSub, ix_aald, ix_aast, ix_abs, ix_alen, ix_aload, ix_aret, ix_astore, ix_bald, ix_bast, ix_call, ix_cpyI, ix_cpyJ, ix_dead, ix_dup2, ix_dup2L, ix_dupI, ix_dupR, ix_dupx1, ix_getI, ix_getJ, ix_getR, ix_gfm, ix_gtab, ix_i2b, ix_i2c, ix_i2l, ix_i2s, ix_iadd, ix_iald, ix_iand, ix_iast, ix_icall, ix_icmp_eq, ix_icmp_ge, ix_icmp_gt, ix_icmp_le, ix_icmp_lt, ix_icmp_ne, ix_idiv, ix_if_eq, ix_if_ge, ix_if_gt, ix_if_le, ix_if_lt, ix_if_ne, ix_iinc, ix_iload, ix_imul, ix_ineg, ix_ior, ix_irem, ix_iret, ix_ishl, ix_ishr, ix_istore, ix_isub, ix_iushr, ix_ixor, ix_l2i, ix_ladd, ix_lald, ix_land, ix_last, ix_lcmp, ix_ldcS, ix_ldiv, ix_lload, ix_lmul, ix_lor, ix_lrem, ix_lret, ix_lshl, ix_lstore, ix_lsub, ix_lsw, ix_max, ix_min, ix_new, ix_newa, ix_nret, ix_oinit, ix_pop2L, ix_popI, ix_pushI, ix_pushL, ix_putI, ix_putJ, ix_putR, ix_putZ, ix_sbald, ix_sgetC, ix_sgetV, ix_slen, ix_strc, ix_tald, ix_tsw, ix_vcall, ix_vret, ix_zret, stL, stL2, kilL, popN, fq_sw, fq_lsw, List.map_cons, List.map_nil, List.getElem?_cons_zero, List.getElem?_cons_succ, Option.toList_some, Option.toList_none, List.cons_append, List.nil_append, List.length_cons, List.length_nil, List.sum_cons, List.sum_nil, cat_i, cat_l, cat_r, true_and, and_true, Nat.zero_add, Nat.add_zero, Nat.le_refl, Nat.zero_le, Nat.reduceAdd, Nat.reduceLeDiff, exists_eq_left', Option.some.injEq, not_true_eq_false, not_false_eq_true, false_implies, true_implies, implies_true, and_self, or_true, true_or, or_false, false_or]
              refine ⟨fun h => s178 (k + 1) I3 ?_ (by omega) hF3 k1 k2 k3 k4 k5, fun h => ?_⟩
              · unfold nxK
                rw [if_neg (fun q => Int32.not_lt.mpr q.1 h)]
              · have h : 1800 ≤ o.2.1 (226 + 6 * k) := Int32.not_lt.mp h
                rw [k1]
                rcases hK2 with q | q | q
                · rw [q.1] at h
                  exact absurd h (by decide)
                · obtain ⟨q1, q2, q3, q4, p, ep, hp1, hp2, -, -⟩ := q
                  refine ⟨226 + 6 * k, rfl, by omega, ?_, fun hh => s178 (k + 1) I3 ?_ (by omega) hF3 k1 k2 k3 k4 k5, fun hh => ?_⟩
                  · rcases q1 with e | e | e | e
                    · rw [e] at h
                      exact absurd h (by decide)
                    · exact Or.inr (Or.inr ⟨e, (q4 e).1⟩)
                    · exact Or.inr (Or.inl ⟨e, (q3 e).1⟩)
                    · exact Or.inl e
                  · unfold nxK
                    rw [if_neg (fun q => q.2 hh)]
                  · rw [ep, nI_1]
                    refine s178 (p + 1) I3 ?_ (by omega) hF3 k1 k2 k3 k4 k5
                    unfold nxK
                    rw [if_pos ⟨h, hh⟩, ep, nI_clamp (by omega)]
                · rcases q.1 with q | q | q | q | q | q | q <;> rw [q] at h <;> exact absurd h (by decide)
            obtain ⟨j1, j2, j3, j4, j5, j6, j7, j8⟩ := hI'
            rw [q2] at j4 j5 j6 j7 j8
            have j12 : I' (M + 12) = L := by rw [j1.1 (M + 12) (by omega) (by omega) (by omega), u2_ne (by omega)]; exact g5
            have j30 : I' M 30 = nI (n + 1) := by rw [j1.2 30 (by omega)]; exact u2_eq
            have jF : lgF M I I' := hF.tr ⟨fun a h1 h2 h3 h4 => by rw [j1.1 a h1 h2 h4, u2_ne h1], fun j h1 h2 => by rw [j1.2 j h1, u2_ck _ _ _ _ _ _ h2]⟩
            have s114 : ∀ v, v = R 0 + (if o.1 = true then 0 else 1) → B_X12_lives_114 l G D 0 0 Q [some (.ref M), some (.int (nI d)), some (.int (nI k)), some (.int (nI (226 + 6 * k)))] [] S (u2 I' (M + 13) 0 v) J z 0 0 := by
              intro v hv
              have k1 : u2 I' (M + 13) 0 v (M + 1) = o.2.1 := by rw [u2_ne (by omega)]; exact j2
              have k1r : ∀ j, u2 I' (M + 13) 0 v (M + 1) j = o.2.1 j := fun j => by rw [k1]
              have k3 : ∀ j, j < 5 → u2 I' (M + 13) 0 v (M + 13) j = rnU R o j := fun j hj => by
                unfold rnU
                rcases (show j = 0 ∨ j = 1 ∨ j = 2 ∨ j = 3 ∨ j = 4 by omega) with rfl | rfl | rfl | rfl | rfl
                · rw [u2_same, if_pos rfl]
                  exact hv
                · rw [u2_ck _ _ _ _ _ _ (by omega), j5, g3 1 (by omega)]
                  rfl
                · rw [u2_ck _ _ _ _ _ _ (by omega), j6, g3 2 (by omega)]
                  rfl
                · rw [u2_ck _ _ _ _ _ _ (by omega), j7, g3 3 (by omega)]
                  rfl
                · rw [u2_ck _ _ _ _ _ _ (by omega), j8, g3 4 (by omega)]
                  rfl
              have kF : lgF M I (u2 I' (M + 13) 0 v) := jF.tr ⟨fun a h1 h2 h3 h4 => u2_ne h4, fun j h1 h2 => u2_ca _ _ _ _ _ _ (by omega)⟩
              have k2 : u2 I' (M + 13) 0 v M 29 = nI o.2.2.1 := by rw [u2_ca _ _ _ _ _ _ (by omega)]; exact j3
              have k4 : u2 I' (M + 13) 0 v M 30 = nI (n + 1) := by rw [u2_ca _ _ _ _ _ _ (by omega)]; exact j30
              have k5 : u2 I' (M + 13) 0 v (M + 12) = L := by rw [u2_ne (by omega)]; exact j12
              generalize u2 I' (M + 13) 0 v = I2 at *
              simp (disch := omega) only [B_X12_lives_114, hm, hm.k, hm.k1, hm.n1, hm.r1, hm.k2, hm.n2, hm.r2, hm.k3, hm.n3, hm.r3, hm.k4, hm.n4, hm.r4, hm.k5, hm.n5, hm.r5, hm.k6, hm.n6, hm.r6, hm.k7, hm.n7, hm.r7, hm.k8, hm.n8, hm.r8, hm.k9, hm.n9, hm.r9, hm.k10, hm.n10, hm.r10, hm.k11, hm.n11, hm.r11, hm.k12, hm.n12, hm.r12, hm.k13, hm.n13, hm.r13, hm.k14, hm.n14, hm.r14, k1r, ar0, ar, nI_1, nI_add, nI_clamp, nI_pin, nI_neg, nI_nonneg, nI_leE, nI_ltE, nI_eqE, Nat.not_le, Nat.not_lt, fq_10, fq_01, fq_rr, li_2, li_3, li_4, li_5, li_6, li_7, li_8, li_9, li_10, li_11, li_12, li_13, li_14, li_15, li_16, li_17, li_18, li_19, li_20, li_21, li_22, li_23, li_24, li_25, li_26, li_27, li_28, li_29, li_30, li_32, li_33, li_34, li_35, li_36, li_37, li_38, li_39, li_40, li_41, li_42, li_43, li_44, li_45, li_46, li_47, li_48, li_49, li_50, li_51, li_52, li_53, li_54, li_55, li_56, li_57, li_58, li_59, li_60, li_61, li_62, li_63, li_64, li_65, li_66, li_67, li_68, li_69, li_70, li_71, li_72, li_73, li_74, li_75, li_76, li_77, li_78, li_79, li_80, li_81, li_82, li_83, li_84, li_85, li_86, li_87, li_88, li_89, li_90, li_91, li_92, li_93, li_94, li_95, li_96, li_97, li_98, li_99, li_100, li_101, li_102, li_103, li_104, li_105, li_106, li_107, li_108, li_109, li_110, li_111, li_112, li_113, li_114, li_115, li_116, li_117, li_118, li_119, li_120, li_121, li_122, li_123, li_124, li_125, li_126, li_127, li_128, li_129, li_130, li_131, li_226, li_240, li_255, li_300, li_586, li_594, li_900, li_999, li_1000, li_1800, li_2376, li_2388, li_2406, li_2602, li_2970, li_3067, li_3564, li_9999, li_10000, li_11287, li_65536, li_100000, li_1000000, nI_mul, tn0, tn1, vin0, vin1, Int32.add_zero, Int32.or_zero, Int32.mul_one, Int32.mul_zero, Int32.zero_add, Nat.reduceEqDiff, Nat.reduceMul, Nat.reduceSub, ix_aald, ix_aast, ix_abs, ix_alen, ix_aload, ix_aret, ix_astore, ix_bald, ix_bast, ix_call, ix_cpyI, ix_cpyJ, ix_dead, ix_dup2, ix_dup2L, ix_dupI, ix_dupR, ix_dupx1, ix_getI, ix_getJ, ix_getR, ix_gfm, ix_gtab, ix_i2b, ix_i2c, ix_i2l, ix_i2s, ix_iadd, ix_iald, ix_iand, ix_iast, ix_icall, ix_icmp_eq, ix_icmp_ge, ix_icmp_gt, ix_icmp_le, ix_icmp_lt, ix_icmp_ne, ix_idiv, ix_if_eq, ix_if_ge, ix_if_gt, ix_if_le, ix_if_lt, ix_if_ne, ix_iinc, ix_iload, ix_imul, ix_ineg, ix_ior, ix_irem, ix_iret, ix_ishl, ix_ishr, ix_istore, ix_isub, ix_iushr, ix_ixor, ix_l2i, ix_ladd, ix_lald, ix_land, ix_last, ix_lcmp, ix_ldcS, ix_ldiv, ix_lload, ix_lmul, ix_lor, ix_lrem, ix_lret, ix_lshl, ix_lstore, ix_lsub, ix_lsw, ix_max, ix_min, ix_new, ix_newa, ix_nret, ix_oinit, ix_pop2L, ix_popI, ix_pushI, ix_pushL, ix_putI, ix_putJ, ix_putR, ix_putZ, ix_sbald, ix_sgetC, ix_sgetV, ix_slen, ix_strc, ix_tald, ix_tsw, ix_vcall, ix_vret, ix_zret, stL, stL2, kilL, popN, fq_sw, fq_lsw, List.map_cons, List.map_nil, List.getElem?_cons_zero, List.getElem?_cons_succ, Option.toList_some, Option.toList_none, List.cons_append, List.nil_append, List.length_cons, List.length_nil, List.sum_cons, List.sum_nil, cat_i, cat_l, cat_r, true_and, and_true, Nat.zero_add, Nat.add_zero, Nat.le_refl, Nat.zero_le, Nat.reduceAdd, Nat.reduceLeDiff, exists_eq_left', Option.some.injEq, not_true_eq_false, not_false_eq_true, false_implies, true_implies, implies_true, and_self, or_true, true_or, or_false, false_or]
              refine ⟨fun h => s141 I2 kF k1 k2 k3 k4 ?_, fun h => ?_⟩
              · rw [← hL1, if_neg (show ¬ A (226 + 6 * k) = 19 from h)]
                exact k5
              · refine s141 _ (kF.tr ⟨fun a h1 h2 h3 h4 => u2_ne h3, fun j h1 h2 => u2_ca _ _ _ _ _ _ (by omega)⟩) (by rw [u2_ne (by omega)]; exact k1) (by rw [u2_ca _ _ _ _ _ _ (by omega)]; exact k2) (fun j hj => by rw [u2_ca _ _ _ _ _ _ (by omega)]; exact k3 j hj) (by rw [u2_ca _ _ _ _ _ _ (by omega)]; exact k4) ?_
                rw [← hL1, if_pos (show A (226 + 6 * k) = 19 from h), u2_up0, up1_at, k5]
            have g30 := g3 0 (by omega)
            have g30 : I1 (M + 13) 0 = R 0 := g30
            simp (disch := omega) only [B_X12_lives_104, B_X12_lives_112, hm, hm.k, hm.k1, hm.n1, hm.r1, hm.k2, hm.n2, hm.r2, hm.k3, hm.n3, hm.r3, hm.k4, hm.n4, hm.r4, hm.k5, hm.n5, hm.r5, hm.k6, hm.n6, hm.r6, hm.k7, hm.n7, hm.r7, hm.k8, hm.n8, hm.r8, hm.k9, hm.n9, hm.r9, hm.k10, hm.n10, hm.r10, hm.k11, hm.n11, hm.r11, hm.k12, hm.n12, hm.r12, hm.k13, hm.n13, hm.r13, hm.k14, hm.n14, hm.r14, g30, nI_1, nI_add, nI_clamp, nI_pin, nI_neg, nI_nonneg, nI_leE, nI_ltE, nI_eqE, Nat.not_le, Nat.not_lt, fq_10, fq_01, fq_rr, li_2, li_3, li_4, li_5, li_6, li_7, li_8, li_9, li_10, li_11, li_12, li_13, li_14, li_15, li_16, li_17, li_18, li_19, li_20, li_21, li_22, li_23, li_24, li_25, li_26, li_27, li_28, li_29, li_30, li_32, li_33, li_34, li_35, li_36, li_37, li_38, li_39, li_40, li_41, li_42, li_43, li_44, li_45, li_46, li_47, li_48, li_49, li_50, li_51, li_52, li_53, li_54, li_55, li_56, li_57, li_58, li_59, li_60, li_61, li_62, li_63, li_64, li_65, li_66, li_67, li_68, li_69, li_70, li_71, li_72, li_73, li_74, li_75, li_76, li_77, li_78, li_79, li_80, li_81, li_82, li_83, li_84, li_85, li_86, li_87, li_88, li_89, li_90, li_91, li_92, li_93, li_94, li_95, li_96, li_97, li_98, li_99, li_100, li_101, li_102, li_103, li_104, li_105, li_106, li_107, li_108, li_109, li_110, li_111, li_112, li_113, li_114, li_115, li_116, li_117, li_118, li_119, li_120, li_121, li_122, li_123, li_124, li_125, li_126, li_127, li_128, li_129, li_130, li_131, li_226, li_240, li_255, li_300, li_586, li_594, li_900, li_999, li_1000, li_1800, li_2376, li_2388, li_2406, li_2602, li_2970, li_3067, li_3564, li_9999, li_10000, li_11287, li_65536, li_100000, li_1000000, nI_mul, tn0, tn1, vin0, vin1, Int32.add_zero, Int32.or_zero, Int32.mul_one, Int32.mul_zero, Int32.zero_add, Nat.reduceEqDiff, Nat.reduceMul, Nat.reduceSub, ix_aald, ix_aast, ix_abs, ix_alen, ix_aload, ix_aret, ix_astore, ix_bald, ix_bast, ix_call, ix_cpyI, ix_cpyJ, ix_dead, ix_dup2, ix_dup2L, ix_dupI, ix_dupR, ix_dupx1, ix_getI, ix_getJ, ix_getR, ix_gfm, ix_gtab, ix_i2b, ix_i2c, ix_i2l, ix_i2s, ix_iadd, ix_iald, ix_iand, ix_iast, ix_icall, ix_icmp_eq, ix_icmp_ge, ix_icmp_gt, ix_icmp_le, ix_icmp_lt, ix_icmp_ne, ix_idiv, ix_if_eq, ix_if_ge, ix_if_gt, ix_if_le, ix_if_lt, ix_if_ne, ix_iinc, ix_iload, ix_imul, ix_ineg, ix_ior, ix_irem, ix_iret, ix_ishl, ix_ishr, ix_istore, ix_isub, ix_iushr, ix_ixor, ix_l2i, ix_ladd, ix_lald, ix_land, ix_last, ix_lcmp, ix_ldcS, ix_ldiv, ix_lload, ix_lmul, ix_lor, ix_lrem, ix_lret, ix_lshl, ix_lstore, ix_lsub, ix_lsw, ix_max, ix_min, ix_new, ix_newa, ix_nret, ix_oinit, ix_pop2L, ix_popI, ix_pushI, ix_pushL, ix_putI, ix_putJ, ix_putR, ix_putZ, ix_sbald, ix_sgetC, ix_sgetV, ix_slen, ix_strc, ix_tald, ix_tsw, ix_vcall, ix_vret, ix_zret, stL, stL2, kilL, popN, fq_sw, fq_lsw, List.map_cons, List.map_nil, List.getElem?_cons_zero, List.getElem?_cons_succ, Option.toList_some, Option.toList_none, List.cons_append, List.nil_append, List.length_cons, List.length_nil, List.sum_cons, List.sum_nil, cat_i, cat_l, cat_r, true_and, and_true, Nat.zero_add, Nat.add_zero, Nat.le_refl, Nat.zero_le, Nat.reduceAdd, Nat.reduceLeDiff, exists_eq_left', Option.some.injEq, not_true_eq_false, not_false_eq_true, false_implies, true_implies, implies_true, and_self, or_true, true_or, or_false, false_or]
            refine ⟨fun h => s114 _ ?_, fun h => s114 _ ?_⟩
            · rw [bI_0] at h
              rw [if_neg h]
            · rw [bI_0] at h
              rw [if_pos (Decidable.not_not.mp h), Int32.add_zero]
          · have h21 : A (226 + 6 * k) = 21 := h21
            rw [if_neg h300, if_pos h21] at he
            refine hQ _ (hF.tr ⟨fun a h1 h2 h3 h4 => u2_ne h1, fun j h1 h2 => u2_ck _ _ _ _ _ _ h2⟩) ?_
            rw [he]
            exact ⟨by rw [u2_ne (by omega)]; exact g1, by rw [u2_ck _ _ _ _ _ _ (by omega)]; exact g2, fun j hj => by rw [u2_ca _ _ _ _ _ _ (by omega)]; exact g3 j hj, u2_eq, by rw [u2_ne (by omega)]; exact g5⟩
          · rw [if_pos h300] at he
            refine hQ _ (hF.tr ⟨fun a h1 h2 h3 h4 => u2_ne h4, fun j h1 h2 => u2_ca _ _ _ _ _ _ (by omega)⟩) ?_
            rw [he]
            refine ⟨by rw [u2_ne (by omega)]; exact g1, by rw [u2_ca _ _ _ _ _ _ (by omega)]; exact g2, fun j hj => ?_, by rw [u2_ca _ _ _ _ _ _ (by omega)]; exact g4, by rw [u2_ne (by omega)]; exact g5⟩
            show u2 I1 (M + 13) 4 1 (M + 13) j = uA R 4 1 j
            unfold u2 uA
            by_cases e : j = 4
            · rw [if_pos ⟨rfl, e⟩, if_pos e]
            · rw [if_neg (fun q => e q.2), if_neg e]
              exact g3 j hj
        · rw [if_pos hkN] at he
          have hz := hQ I1 hF (by rw [he]; exact ⟨g1, g2, g3, g4, g5⟩)
          exact ⟨fun _ => hz, fun h => absurd h hkN⟩
    have z1 : ∀ i, uA (fun j => if j < i then 0 else I (M + 13) j) i 0 = fun j => if j < i + 1 then 0 else I (M + 13) j := by
      intro i
      funext j
      unfold uA
      by_cases e : j = i
      · rw [if_pos e, if_pos (by omega)]
      · rw [if_neg e]
        by_cases e2 : j < i
        · show (if j < i then 0 else I (M + 13) j) = if j < i + 1 then 0 else I (M + 13) j
          rw [if_pos e2, if_pos (by omega)]
        · show (if j < i then 0 else I (M + 13) j) = if j < i + 1 then 0 else I (M + 13) j
          rw [if_neg e2, if_neg (by omega)]
    have lp1 := loopU (α := Unit) (N := 5) (f := fun _ u => u) (B := fun i _ => fqAt l G M_X12_lives (D + 8) 0 0 Q 12 [some (.ref M), some (.int (nI d)), some (.int (nI i)), none] [] S (up1 (u2 (u2 I M 29 (nI d)) M 30 0) (M + 13) (fun j => if j < i then 0 else I (M + 13) j)) J z 0 0) (by
      intro i u hi hb
      have e1 := z1 i
      refine b_X12_lives_12 _ _ _ _ _ _ _ _ ?_
      simp (disch := omega) only [B_X12_lives_0, B_X12_lives_12, B_X12_lives_32, B_X12_lives_112, B_X12_lives_175, sp_X12_does, sp_X12_holds, sp_X12_behindEnds, hm, hm.k, hm.k1, hm.n1, hm.r1, hm.k2, hm.n2, hm.r2, hm.k3, hm.n3, hm.r3, hm.k4, hm.n4, hm.r4, hm.k5, hm.n5, hm.r5, hm.k6, hm.n6, hm.r6, hm.k7, hm.n7, hm.r7, hm.k8, hm.n8, hm.r8, hm.k9, hm.n9, hm.r9, hm.k10, hm.n10, hm.r10, hm.k11, hm.n11, hm.r11, hm.k12, hm.n12, hm.r12, hm.k13, hm.n13, hm.r13, hm.k14, hm.n14, hm.r14, li_2, li_3, li_4, li_5, li_6, li_7, li_8, li_9, li_10, li_11, li_12, li_13, li_14, li_15, li_16, li_17, li_18, li_19, li_20, li_21, li_22, li_23, li_24, li_25, li_26, li_27, li_28, li_29, li_30, li_32, li_33, li_34, li_35, li_36, li_37, li_38, li_39, li_40, li_41, li_42, li_43, li_44, li_45, li_46, li_47, li_48, li_49, li_50, li_51, li_52, li_53, li_54, li_55, li_56, li_57, li_58, li_59, li_60, li_61, li_62, li_63, li_64, li_65, li_66, li_67, li_68, li_69, li_70, li_71, li_72, li_73, li_74, li_75, li_76, li_77, li_78, li_79, li_80, li_81, li_82, li_83, li_84, li_85, li_86, li_87, li_88, li_89, li_90, li_91, li_92, li_93, li_94, li_95, li_96, li_97, li_98, li_99, li_100, li_101, li_102, li_103, li_104, li_105, li_106, li_107, li_108, li_109, li_110, li_111, li_112, li_113, li_114, li_115, li_116, li_117, li_118, li_119, li_120, li_121, li_122, li_123, li_124, li_125, li_126, li_127, li_128, li_129, li_130, li_131, li_226, li_240, li_255, li_300, li_586, li_594, li_900, li_999, li_1000, li_1800, li_2376, li_2388, li_2406, li_2602, li_2970, li_3067, li_3564, li_9999, li_10000, li_11287, li_65536, li_100000, li_1000000, nI_mul, tn0, tn1, vin0, vin1, Int32.add_zero, Int32.or_zero, Int32.mul_one, Int32.mul_zero, Int32.zero_add, Nat.reduceEqDiff, Nat.reduceMul, Nat.reduceSub, u2_up, e1, nI_1, nI_add, nI_clamp, nI_pin, nI_neg, nI_nonneg, nI_leE, nI_ltE, nI_eqE, Nat.not_le, Nat.not_lt, fq_10, fq_01, fq_rr, ix_aald, ix_aast, ix_abs, ix_alen, ix_aload, ix_aret, ix_astore, ix_bald, ix_bast, ix_call, ix_cpyI, ix_cpyJ, ix_dead, ix_dup2, ix_dup2L, ix_dupI, ix_dupR, ix_dupx1, ix_getI, ix_getJ, ix_getR, ix_gfm, ix_gtab, ix_i2b, ix_i2c, ix_i2l, ix_i2s, ix_iadd, ix_iald, ix_iand, ix_iast, ix_icall, ix_icmp_eq, ix_icmp_ge, ix_icmp_gt, ix_icmp_le, ix_icmp_lt, ix_icmp_ne, ix_idiv, ix_if_eq, ix_if_ge, ix_if_gt, ix_if_le, ix_if_lt, ix_if_ne, ix_iinc, ix_iload, ix_imul, ix_ineg, ix_ior, ix_irem, ix_iret, ix_ishl, ix_ishr, ix_istore, ix_isub, ix_iushr, ix_ixor, ix_l2i, ix_ladd, ix_lald, ix_land, ix_last, ix_lcmp, ix_ldcS, ix_ldiv, ix_lload, ix_lmul, ix_lor, ix_lrem, ix_lret, ix_lshl, ix_lstore, ix_lsub, ix_lsw, ix_max, ix_min, ix_new, ix_newa, ix_nret, ix_oinit, ix_pop2L, ix_popI, ix_pushI, ix_pushL, ix_putI, ix_putJ, ix_putR, ix_putZ, ix_sbald, ix_sgetC, ix_sgetV, ix_slen, ix_strc, ix_tald, ix_tsw, ix_vcall, ix_vret, ix_zret, stL, stL2, kilL, popN, fq_sw, fq_lsw, List.map_cons, List.map_nil, List.getElem?_cons_zero, List.getElem?_cons_succ, Option.toList_some, Option.toList_none, List.cons_append, List.nil_append, List.length_cons, List.length_nil, List.sum_cons, List.sum_nil, cat_i, cat_l, cat_r, true_and, and_true, Nat.zero_add, Nat.add_zero, Nat.le_refl, Nat.zero_le, Nat.reduceAdd, Nat.reduceLeDiff, exists_eq_left', Option.some.injEq, not_true_eq_false, not_false_eq_true, false_implies, true_implies, implies_true, and_self, or_true, true_or, or_false, false_or]
      exact ⟨fun h => absurd h (by omega), fun _ => hb⟩) 5 0 () (by omega)
    have e0 : up1 (u2 (u2 I M 29 (nI d)) M 30 0) (M + 13) (fun j => if j < 0 then 0 else I (M + 13) j) = u2 (u2 I M 29 (nI d)) M 30 0 := by
      have : (fun j => if j < 0 then 0 else I (M + 13) j) = u2 (u2 I M 29 (nI d)) M 30 0 (M + 13) := by
        rw [u2_ne (by omega), u2_ne (by omega)]
        funext j
        rw [if_neg (by omega)]
      rw [this, up1_id]
    rw [e0] at lp1
    refine fq_enter [some (.ref M), some (.int (nI d)), none, none] (by decide +kernel) (Nat.le_of_ble_eq_true rfl) rfl (b_X12_lives_0 _ _ _ _ _ _ _ _ ?_)
    simp (disch := omega) only [B_X12_lives_0, B_X12_lives_12, B_X12_lives_32, B_X12_lives_112, B_X12_lives_175, sp_X12_does, sp_X12_holds, sp_X12_behindEnds, hm, hm.k, hm.k1, hm.n1, hm.r1, hm.k2, hm.n2, hm.r2, hm.k3, hm.n3, hm.r3, hm.k4, hm.n4, hm.r4, hm.k5, hm.n5, hm.r5, hm.k6, hm.n6, hm.r6, hm.k7, hm.n7, hm.r7, hm.k8, hm.n8, hm.r8, hm.k9, hm.n9, hm.r9, hm.k10, hm.n10, hm.r10, hm.k11, hm.n11, hm.r11, hm.k12, hm.n12, hm.r12, hm.k13, hm.n13, hm.r13, hm.k14, hm.n14, hm.r14, li_2, li_3, li_4, li_5, li_6, li_7, li_8, li_9, li_10, li_11, li_12, li_13, li_14, li_15, li_16, li_17, li_18, li_19, li_20, li_21, li_22, li_23, li_24, li_25, li_26, li_27, li_28, li_29, li_30, li_32, li_33, li_34, li_35, li_36, li_37, li_38, li_39, li_40, li_41, li_42, li_43, li_44, li_45, li_46, li_47, li_48, li_49, li_50, li_51, li_52, li_53, li_54, li_55, li_56, li_57, li_58, li_59, li_60, li_61, li_62, li_63, li_64, li_65, li_66, li_67, li_68, li_69, li_70, li_71, li_72, li_73, li_74, li_75, li_76, li_77, li_78, li_79, li_80, li_81, li_82, li_83, li_84, li_85, li_86, li_87, li_88, li_89, li_90, li_91, li_92, li_93, li_94, li_95, li_96, li_97, li_98, li_99, li_100, li_101, li_102, li_103, li_104, li_105, li_106, li_107, li_108, li_109, li_110, li_111, li_112, li_113, li_114, li_115, li_116, li_117, li_118, li_119, li_120, li_121, li_122, li_123, li_124, li_125, li_126, li_127, li_128, li_129, li_130, li_131, li_226, li_240, li_255, li_300, li_586, li_594, li_900, li_999, li_1000, li_1800, li_2376, li_2388, li_2406, li_2602, li_2970, li_3067, li_3564, li_9999, li_10000, li_11287, li_65536, li_100000, li_1000000, nI_mul, tn0, tn1, vin0, vin1, Int32.add_zero, Int32.or_zero, Int32.mul_one, Int32.mul_zero, Int32.zero_add, Nat.reduceEqDiff, Nat.reduceMul, Nat.reduceSub, nI_1, nI_add, nI_clamp, nI_pin, nI_neg, nI_nonneg, nI_leE, nI_ltE, nI_eqE, Nat.not_le, Nat.not_lt, fq_10, fq_01, fq_rr, ix_aald, ix_aast, ix_abs, ix_alen, ix_aload, ix_aret, ix_astore, ix_bald, ix_bast, ix_call, ix_cpyI, ix_cpyJ, ix_dead, ix_dup2, ix_dup2L, ix_dupI, ix_dupR, ix_dupx1, ix_getI, ix_getJ, ix_getR, ix_gfm, ix_gtab, ix_i2b, ix_i2c, ix_i2l, ix_i2s, ix_iadd, ix_iald, ix_iand, ix_iast, ix_icall, ix_icmp_eq, ix_icmp_ge, ix_icmp_gt, ix_icmp_le, ix_icmp_lt, ix_icmp_ne, ix_idiv, ix_if_eq, ix_if_ge, ix_if_gt, ix_if_le, ix_if_lt, ix_if_ne, ix_iinc, ix_iload, ix_imul, ix_ineg, ix_ior, ix_irem, ix_iret, ix_ishl, ix_ishr, ix_istore, ix_isub, ix_iushr, ix_ixor, ix_l2i, ix_ladd, ix_lald, ix_land, ix_last, ix_lcmp, ix_ldcS, ix_ldiv, ix_lload, ix_lmul, ix_lor, ix_lrem, ix_lret, ix_lshl, ix_lstore, ix_lsub, ix_lsw, ix_max, ix_min, ix_new, ix_newa, ix_nret, ix_oinit, ix_pop2L, ix_popI, ix_pushI, ix_pushL, ix_putI, ix_putJ, ix_putR, ix_putZ, ix_sbald, ix_sgetC, ix_sgetV, ix_slen, ix_strc, ix_tald, ix_tsw, ix_vcall, ix_vret, ix_zret, stL, stL2, kilL, popN, fq_sw, fq_lsw, List.map_cons, List.map_nil, List.getElem?_cons_zero, List.getElem?_cons_succ, Option.toList_some, Option.toList_none, List.cons_append, List.nil_append, List.length_cons, List.length_nil, List.sum_cons, List.sum_nil, cat_i, cat_l, cat_r, true_and, and_true, Nat.zero_add, Nat.add_zero, Nat.le_refl, Nat.zero_le, Nat.reduceAdd, Nat.reduceLeDiff, exists_eq_left', Option.some.injEq, not_true_eq_false, not_false_eq_true, false_implies, true_implies, implies_true, and_self, or_true, true_or, or_false, false_or]
    refine lp1 ?_
    refine b_X12_lives_12 _ _ _ _ _ _ _ _ ?_
    simp (disch := omega) only [B_X12_lives_0, B_X12_lives_12, B_X12_lives_32, B_X12_lives_112, B_X12_lives_175, sp_X12_does, sp_X12_holds, sp_X12_behindEnds, hm, hm.k, hm.k1, hm.n1, hm.r1, hm.k2, hm.n2, hm.r2, hm.k3, hm.n3, hm.r3, hm.k4, hm.n4, hm.r4, hm.k5, hm.n5, hm.r5, hm.k6, hm.n6, hm.r6, hm.k7, hm.n7, hm.r7, hm.k8, hm.n8, hm.r8, hm.k9, hm.n9, hm.r9, hm.k10, hm.n10, hm.r10, hm.k11, hm.n11, hm.r11, hm.k12, hm.n12, hm.r12, hm.k13, hm.n13, hm.r13, hm.k14, hm.n14, hm.r14, li_2, li_3, li_4, li_5, li_6, li_7, li_8, li_9, li_10, li_11, li_12, li_13, li_14, li_15, li_16, li_17, li_18, li_19, li_20, li_21, li_22, li_23, li_24, li_25, li_26, li_27, li_28, li_29, li_30, li_32, li_33, li_34, li_35, li_36, li_37, li_38, li_39, li_40, li_41, li_42, li_43, li_44, li_45, li_46, li_47, li_48, li_49, li_50, li_51, li_52, li_53, li_54, li_55, li_56, li_57, li_58, li_59, li_60, li_61, li_62, li_63, li_64, li_65, li_66, li_67, li_68, li_69, li_70, li_71, li_72, li_73, li_74, li_75, li_76, li_77, li_78, li_79, li_80, li_81, li_82, li_83, li_84, li_85, li_86, li_87, li_88, li_89, li_90, li_91, li_92, li_93, li_94, li_95, li_96, li_97, li_98, li_99, li_100, li_101, li_102, li_103, li_104, li_105, li_106, li_107, li_108, li_109, li_110, li_111, li_112, li_113, li_114, li_115, li_116, li_117, li_118, li_119, li_120, li_121, li_122, li_123, li_124, li_125, li_126, li_127, li_128, li_129, li_130, li_131, li_226, li_240, li_255, li_300, li_586, li_594, li_900, li_999, li_1000, li_1800, li_2376, li_2388, li_2406, li_2602, li_2970, li_3067, li_3564, li_9999, li_10000, li_11287, li_65536, li_100000, li_1000000, nI_mul, tn0, tn1, vin0, vin1, Int32.add_zero, Int32.or_zero, Int32.mul_one, Int32.mul_zero, Int32.zero_add, Nat.reduceEqDiff, Nat.reduceMul, Nat.reduceSub, nI_1, nI_add, nI_clamp, nI_pin, nI_neg, nI_nonneg, nI_leE, nI_ltE, nI_eqE, Nat.not_le, Nat.not_lt, fq_10, fq_01, fq_rr, ix_aald, ix_aast, ix_abs, ix_alen, ix_aload, ix_aret, ix_astore, ix_bald, ix_bast, ix_call, ix_cpyI, ix_cpyJ, ix_dead, ix_dup2, ix_dup2L, ix_dupI, ix_dupR, ix_dupx1, ix_getI, ix_getJ, ix_getR, ix_gfm, ix_gtab, ix_i2b, ix_i2c, ix_i2l, ix_i2s, ix_iadd, ix_iald, ix_iand, ix_iast, ix_icall, ix_icmp_eq, ix_icmp_ge, ix_icmp_gt, ix_icmp_le, ix_icmp_lt, ix_icmp_ne, ix_idiv, ix_if_eq, ix_if_ge, ix_if_gt, ix_if_le, ix_if_lt, ix_if_ne, ix_iinc, ix_iload, ix_imul, ix_ineg, ix_ior, ix_irem, ix_iret, ix_ishl, ix_ishr, ix_istore, ix_isub, ix_iushr, ix_ixor, ix_l2i, ix_ladd, ix_lald, ix_land, ix_last, ix_lcmp, ix_ldcS, ix_ldiv, ix_lload, ix_lmul, ix_lor, ix_lrem, ix_lret, ix_lshl, ix_lstore, ix_lsub, ix_lsw, ix_max, ix_min, ix_new, ix_newa, ix_nret, ix_oinit, ix_pop2L, ix_popI, ix_pushI, ix_pushL, ix_putI, ix_putJ, ix_putR, ix_putZ, ix_sbald, ix_sgetC, ix_sgetV, ix_slen, ix_strc, ix_tald, ix_tsw, ix_vcall, ix_vret, ix_zret, stL, stL2, kilL, popN, fq_sw, fq_lsw, List.map_cons, List.map_nil, List.getElem?_cons_zero, List.getElem?_cons_succ, Option.toList_some, Option.toList_none, List.cons_append, List.nil_append, List.length_cons, List.length_nil, List.sum_cons, List.sum_nil, cat_i, cat_l, cat_r, true_and, and_true, Nat.zero_add, Nat.add_zero, Nat.le_refl, Nat.zero_le, Nat.reduceAdd, Nat.reduceLeDiff, exists_eq_left', Option.some.injEq, not_true_eq_false, not_false_eq_true, false_implies, true_implies, implies_true, and_self, or_true, true_or, or_false, false_or]
    refine lp 302 (I (M + 1), d, fun _ => 0, 0, I (M + 12)) 0 _ _ hw hy hN hL hd (by omega) (by show 0 ≤ 300; omega) (by show 300 < 0 + 302; omega) ⟨fun a h1 h2 h3 h4 => by rw [up1_o _ _ _ _ h4, u2_ne h1, u2_ne h1], fun j h1 h2 => by rw [up1_o _ _ _ _ (by omega), u2_ck _ _ _ _ _ _ h2, u2_ck _ _ _ _ _ _ h1]⟩ ⟨by rw [up1_o _ _ _ _ (by omega), u2_ne (by omega), u2_ne (by omega)], by rw [up1_o _ _ _ _ (by omega), u2_ck _ _ _ _ _ _ (by omega), u2_same], fun j hj => by rw [up1_at, if_pos hj], by rw [up1_o _ _ _ _ (by omega), u2_same]; rfl, by rw [up1_o _ _ _ _ (by omega), u2_ne (by omega), u2_ne (by omega)]⟩ rfl
  · exact h.elim
