/-! the reference: a step of a year's text -/
theorem dX12_yearStep_0 : decode cX12_yearStep 0 = .ok (.aload_n 0, 1) := by decide +kernel
theorem dX12_yearStep_1 : decode cX12_yearStep 1 = .ok (.ldc 168, 2) := by decide +kernel
theorem dX12_yearStep_3 : decode cX12_yearStep 3 = .ok (.invokevirtual 160, 3) := by decide +kernel
theorem dX12_yearStep_6 : decode cX12_yearStep 6 = .ok (.istore_n 1, 1) := by decide +kernel
theorem dX12_yearStep_7 : decode cX12_yearStep 7 = .ok (.aload_n 0, 1) := by decide +kernel
theorem dX12_yearStep_8 : decode cX12_yearStep 8 = .ok (.getfield 7, 3) := by decide +kernel
theorem dX12_yearStep_11 : decode cX12_yearStep 11 = .ok (.sipush 2387, 3) := by decide +kernel
theorem dX12_yearStep_14 : decode cX12_yearStep 14 = .ok (.iaload, 1) := by decide +kernel
theorem dX12_yearStep_15 : decode cX12_yearStep 15 = .ok (.istore_n 2, 1) := by decide +kernel
theorem dX12_yearStep_16 : decode cX12_yearStep 16 = .ok (.sipush 2602, 3) := by decide +kernel
theorem dX12_yearStep_19 : decode cX12_yearStep 19 = .ok (.bipush 6, 2) := by decide +kernel
theorem dX12_yearStep_21 : decode cX12_yearStep 21 = .ok (.iload_n 2, 1) := by decide +kernel
theorem dX12_yearStep_22 : decode cX12_yearStep 22 = .ok (.imul, 1) := by decide +kernel
theorem dX12_yearStep_23 : decode cX12_yearStep 23 = .ok (.iadd, 1) := by decide +kernel
theorem dX12_yearStep_24 : decode cX12_yearStep 24 = .ok (.istore_n 3, 1) := by decide +kernel
theorem dX12_yearStep_25 : decode cX12_yearStep 25 = .ok (.iload_n 1, 1) := by decide +kernel
theorem dX12_yearStep_26 : decode cX12_yearStep 26 = .ok (.bipush 18, 2) := by decide +kernel
theorem dX12_yearStep_28 : decode cX12_yearStep 28 = .ok (.if_icmp .eq 9, 3) := by decide +kernel
theorem dX12_yearStep_31 : decode cX12_yearStep 31 = .ok (.iload_n 1, 1) := by decide +kernel
theorem dX12_yearStep_32 : decode cX12_yearStep 32 = .ok (.bipush 19, 2) := by decide +kernel
theorem dX12_yearStep_34 : decode cX12_yearStep 34 = .ok (.if_icmp .ne 7, 3) := by decide +kernel
theorem dX12_yearStep_37 : decode cX12_yearStep 37 = .ok (.iconst 1, 1) := by decide +kernel
theorem dX12_yearStep_38 : decode cX12_yearStep 38 = .ok (.goto 4, 3) := by decide +kernel
theorem dX12_yearStep_41 : decode cX12_yearStep 41 = .ok (.iconst 0, 1) := by decide +kernel
theorem dX12_yearStep_42 : decode cX12_yearStep 42 = .ok (.istore 4, 2) := by decide +kernel
theorem dX12_yearStep_44 : decode cX12_yearStep 44 = .ok (.iload_n 1, 1) := by decide +kernel
theorem dX12_yearStep_45 : decode cX12_yearStep 45 = .ok (.bipush 12, 2) := by decide +kernel
theorem dX12_yearStep_47 : decode cX12_yearStep 47 = .ok (.if_icmp .lt 22, 3) := by decide +kernel
theorem dX12_yearStep_50 : decode cX12_yearStep 50 = .ok (.iload_n 1, 1) := by decide +kernel
theorem dX12_yearStep_51 : decode cX12_yearStep 51 = .ok (.bipush 21, 2) := by decide +kernel
theorem dX12_yearStep_53 : decode cX12_yearStep 53 = .ok (.if_icmp .gt 16, 3) := by decide +kernel
theorem dX12_yearStep_56 : decode cX12_yearStep 56 = .ok (.iload_n 1, 1) := by decide +kernel
theorem dX12_yearStep_57 : decode cX12_yearStep 57 = .ok (.bipush 20, 2) := by decide +kernel
theorem dX12_yearStep_59 : decode cX12_yearStep 59 = .ok (.if_icmp .ne 16, 3) := by decide +kernel
theorem dX12_yearStep_62 : decode cX12_yearStep 62 = .ok (.aload_n 0, 1) := by decide +kernel
theorem dX12_yearStep_63 : decode cX12_yearStep 63 = .ok (.getfield 232, 3) := by decide +kernel
theorem dX12_yearStep_66 : decode cX12_yearStep 66 = .ok (.ifCond .ne 9, 3) := by decide +kernel
theorem dX12_yearStep_69 : decode cX12_yearStep 69 = .ok (.aload_n 0, 1) := by decide +kernel
theorem dX12_yearStep_70 : decode cX12_yearStep 70 = .ok (.iconst 2, 1) := by decide +kernel
theorem dX12_yearStep_71 : decode cX12_yearStep 71 = .ok (.invokevirtual 157, 3) := by decide +kernel
theorem dX12_yearStep_74 : decode cX12_yearStep 74 = .ok (.ireturn, 1) := by decide +kernel
theorem dX12_yearStep_75 : decode cX12_yearStep 75 = .ok (.iload_n 1, 1) := by decide +kernel
theorem dX12_yearStep_76 : decode cX12_yearStep 76 = .ok (.bipush 20, 2) := by decide +kernel
theorem dX12_yearStep_78 : decode cX12_yearStep 78 = .ok (.if_icmp .eq 19, 3) := by decide +kernel
theorem dX12_yearStep_81 : decode cX12_yearStep 81 = .ok (.aload_n 0, 1) := by decide +kernel
theorem dX12_yearStep_82 : decode cX12_yearStep 82 = .ok (.getfield 235, 3) := by decide +kernel
theorem dX12_yearStep_85 : decode cX12_yearStep 85 = .ok (.bipush 30, 2) := by decide +kernel
theorem dX12_yearStep_87 : decode cX12_yearStep 87 = .ok (.if_icmp .ne 10, 3) := by decide +kernel
theorem dX12_yearStep_90 : decode cX12_yearStep 90 = .ok (.aload_n 0, 1) := by decide +kernel
theorem dX12_yearStep_91 : decode cX12_yearStep 91 = .ok (.bipush 6, 2) := by decide +kernel
theorem dX12_yearStep_93 : decode cX12_yearStep 93 = .ok (.invokevirtual 157, 3) := by decide +kernel
theorem dX12_yearStep_96 : decode cX12_yearStep 96 = .ok (.ireturn, 1) := by decide +kernel
theorem dX12_yearStep_97 : decode cX12_yearStep 97 = .ok (.iload 4, 2) := by decide +kernel
theorem dX12_yearStep_99 : decode cX12_yearStep 99 = .ok (.ifCond .eq 18, 3) := by decide +kernel
theorem dX12_yearStep_102 : decode cX12_yearStep 102 = .ok (.aload_n 0, 1) := by decide +kernel
theorem dX12_yearStep_103 : decode cX12_yearStep 103 = .ok (.getfield 232, 3) := by decide +kernel
theorem dX12_yearStep_106 : decode cX12_yearStep 106 = .ok (.iconst 3, 1) := by decide +kernel
theorem dX12_yearStep_107 : decode cX12_yearStep 107 = .ok (.if_icmp .ne 10, 3) := by decide +kernel
theorem dX12_yearStep_110 : decode cX12_yearStep 110 = .ok (.aload_n 0, 1) := by decide +kernel
theorem dX12_yearStep_111 : decode cX12_yearStep 111 = .ok (.bipush 7, 2) := by decide +kernel
theorem dX12_yearStep_113 : decode cX12_yearStep 113 = .ok (.invokevirtual 157, 3) := by decide +kernel
theorem dX12_yearStep_116 : decode cX12_yearStep 116 = .ok (.ireturn, 1) := by decide +kernel
theorem dX12_yearStep_117 : decode cX12_yearStep 117 = .ok (.aload_n 0, 1) := by decide +kernel
theorem dX12_yearStep_118 : decode cX12_yearStep 118 = .ok (.dup, 1) := by decide +kernel
theorem dX12_yearStep_119 : decode cX12_yearStep 119 = .ok (.getfield 235, 3) := by decide +kernel
theorem dX12_yearStep_122 : decode cX12_yearStep 122 = .ok (.iload_n 1, 1) := by decide +kernel
theorem dX12_yearStep_123 : decode cX12_yearStep 123 = .ok (.bipush 20, 2) := by decide +kernel
theorem dX12_yearStep_125 : decode cX12_yearStep 125 = .ok (.if_icmp .ne 7, 3) := by decide +kernel
theorem dX12_yearStep_128 : decode cX12_yearStep 128 = .ok (.iconst 0, 1) := by decide +kernel
theorem dX12_yearStep_129 : decode cX12_yearStep 129 = .ok (.goto 4, 3) := by decide +kernel
theorem dX12_yearStep_132 : decode cX12_yearStep 132 = .ok (.iconst 1, 1) := by decide +kernel
theorem dX12_yearStep_133 : decode cX12_yearStep 133 = .ok (.iadd, 1) := by decide +kernel
theorem dX12_yearStep_134 : decode cX12_yearStep 134 = .ok (.putfield 235, 3) := by decide +kernel
theorem dX12_yearStep_137 : decode cX12_yearStep 137 = .ok (.aload_n 0, 1) := by decide +kernel
theorem dX12_yearStep_138 : decode cX12_yearStep 138 = .ok (.getfield 7, 3) := by decide +kernel
theorem dX12_yearStep_141 : decode cX12_yearStep 141 = .ok (.iload_n 3, 1) := by decide +kernel
theorem dX12_yearStep_142 : decode cX12_yearStep 142 = .ok (.iload_n 1, 1) := by decide +kernel
theorem dX12_yearStep_143 : decode cX12_yearStep 143 = .ok (.iastore, 1) := by decide +kernel
theorem dX12_yearStep_144 : decode cX12_yearStep 144 = .ok (.iconst 1, 1) := by decide +kernel
theorem dX12_yearStep_145 : decode cX12_yearStep 145 = .ok (.istore 5, 2) := by decide +kernel
theorem dX12_yearStep_147 : decode cX12_yearStep 147 = .ok (.iload 5, 2) := by decide +kernel
theorem dX12_yearStep_149 : decode cX12_yearStep 149 = .ok (.bipush 6, 2) := by decide +kernel
theorem dX12_yearStep_151 : decode cX12_yearStep 151 = .ok (.if_icmp .ge 19, 3) := by decide +kernel
theorem dX12_yearStep_154 : decode cX12_yearStep 154 = .ok (.aload_n 0, 1) := by decide +kernel
theorem dX12_yearStep_155 : decode cX12_yearStep 155 = .ok (.getfield 7, 3) := by decide +kernel
theorem dX12_yearStep_158 : decode cX12_yearStep 158 = .ok (.iload_n 3, 1) := by decide +kernel
theorem dX12_yearStep_159 : decode cX12_yearStep 159 = .ok (.iload 5, 2) := by decide +kernel
theorem dX12_yearStep_161 : decode cX12_yearStep 161 = .ok (.iadd, 1) := by decide +kernel
theorem dX12_yearStep_162 : decode cX12_yearStep 162 = .ok (.iconst 0, 1) := by decide +kernel
theorem dX12_yearStep_163 : decode cX12_yearStep 163 = .ok (.iastore, 1) := by decide +kernel
theorem dX12_yearStep_164 : decode cX12_yearStep 164 = .ok (.iinc 5 1, 3) := by decide +kernel
theorem dX12_yearStep_167 : decode cX12_yearStep 167 = .ok (.goto (-20), 3) := by decide +kernel
theorem dX12_yearStep_170 : decode cX12_yearStep 170 = .ok (.aload_n 0, 1) := by decide +kernel
theorem dX12_yearStep_171 : decode cX12_yearStep 171 = .ok (.getfield 7, 3) := by decide +kernel
theorem dX12_yearStep_174 : decode cX12_yearStep 174 = .ok (.sipush 2387, 3) := by decide +kernel
theorem dX12_yearStep_177 : decode cX12_yearStep 177 = .ok (.dup2, 1) := by decide +kernel
theorem dX12_yearStep_178 : decode cX12_yearStep 178 = .ok (.iaload, 1) := by decide +kernel
theorem dX12_yearStep_179 : decode cX12_yearStep 179 = .ok (.iconst 1, 1) := by decide +kernel
theorem dX12_yearStep_180 : decode cX12_yearStep 180 = .ok (.iadd, 1) := by decide +kernel
theorem dX12_yearStep_181 : decode cX12_yearStep 181 = .ok (.iastore, 1) := by decide +kernel
theorem dX12_yearStep_182 : decode cX12_yearStep 182 = .ok (.aload_n 0, 1) := by decide +kernel
theorem dX12_yearStep_183 : decode cX12_yearStep 183 = .ok (.invokevirtual 151, 3) := by decide +kernel
theorem dX12_yearStep_186 : decode cX12_yearStep 186 = .ok (.aload_n 0, 1) := by decide +kernel
theorem dX12_yearStep_187 : decode cX12_yearStep 187 = .ok (.iload_n 1, 1) := by decide +kernel
theorem dX12_yearStep_188 : decode cX12_yearStep 188 = .ok (.iload_n 3, 1) := by decide +kernel
theorem dX12_yearStep_189 : decode cX12_yearStep 189 = .ok (.invokevirtual 238, 3) := by decide +kernel
theorem dX12_yearStep_192 : decode cX12_yearStep 192 = .ok (.ifCond .ne 5, 3) := by decide +kernel
theorem dX12_yearStep_195 : decode cX12_yearStep 195 = .ok (.iconst 0, 1) := by decide +kernel
theorem dX12_yearStep_196 : decode cX12_yearStep 196 = .ok (.ireturn, 1) := by decide +kernel
theorem dX12_yearStep_197 : decode cX12_yearStep 197 = .ok (.iload 4, 2) := by decide +kernel
theorem dX12_yearStep_199 : decode cX12_yearStep 199 = .ok (.ifCond .eq 23, 3) := by decide +kernel
theorem dX12_yearStep_202 : decode cX12_yearStep 202 = .ok (.aload_n 0, 1) := by decide +kernel
theorem dX12_yearStep_203 : decode cX12_yearStep 203 = .ok (.getfield 44, 3) := by decide +kernel
theorem dX12_yearStep_206 : decode cX12_yearStep 206 = .ok (.aload_n 0, 1) := by decide +kernel
theorem dX12_yearStep_207 : decode cX12_yearStep 207 = .ok (.getfield 232, 3) := by decide +kernel
theorem dX12_yearStep_210 : decode cX12_yearStep 210 = .ok (.iload_n 2, 1) := by decide +kernel
theorem dX12_yearStep_211 : decode cX12_yearStep 211 = .ok (.iastore, 1) := by decide +kernel
theorem dX12_yearStep_212 : decode cX12_yearStep 212 = .ok (.aload_n 0, 1) := by decide +kernel
theorem dX12_yearStep_213 : decode cX12_yearStep 213 = .ok (.dup, 1) := by decide +kernel
theorem dX12_yearStep_214 : decode cX12_yearStep 214 = .ok (.getfield 232, 3) := by decide +kernel
theorem dX12_yearStep_217 : decode cX12_yearStep 217 = .ok (.iconst 1, 1) := by decide +kernel
theorem dX12_yearStep_218 : decode cX12_yearStep 218 = .ok (.iadd, 1) := by decide +kernel
theorem dX12_yearStep_219 : decode cX12_yearStep 219 = .ok (.putfield 232, 3) := by decide +kernel
theorem dX12_yearStep_222 : decode cX12_yearStep 222 = .ok (.iload_n 1, 1) := by decide +kernel
theorem dX12_yearStep_223 : decode cX12_yearStep 223 = .ok (.bipush 20, 2) := by decide +kernel
theorem dX12_yearStep_225 : decode cX12_yearStep 225 = .ok (.if_icmp .ne 54, 3) := by decide +kernel
theorem dX12_yearStep_228 : decode cX12_yearStep 228 = .ok (.aload_n 0, 1) := by decide +kernel
theorem dX12_yearStep_229 : decode cX12_yearStep 229 = .ok (.dup, 1) := by decide +kernel
theorem dX12_yearStep_230 : decode cX12_yearStep 230 = .ok (.getfield 232, 3) := by decide +kernel
theorem dX12_yearStep_233 : decode cX12_yearStep 233 = .ok (.iconst 1, 1) := by decide +kernel
theorem dX12_yearStep_234 : decode cX12_yearStep 234 = .ok (.isub, 1) := by decide +kernel
theorem dX12_yearStep_235 : decode cX12_yearStep 235 = .ok (.putfield 232, 3) := by decide +kernel
theorem dX12_yearStep_238 : decode cX12_yearStep 238 = .ok (.aload_n 0, 1) := by decide +kernel
theorem dX12_yearStep_239 : decode cX12_yearStep 239 = .ok (.getfield 7, 3) := by decide +kernel
theorem dX12_yearStep_242 : decode cX12_yearStep 242 = .ok (.iload_n 3, 1) := by decide +kernel
theorem dX12_yearStep_243 : decode cX12_yearStep 243 = .ok (.iconst 4, 1) := by decide +kernel
theorem dX12_yearStep_244 : decode cX12_yearStep 244 = .ok (.iadd, 1) := by decide +kernel
theorem dX12_yearStep_245 : decode cX12_yearStep 245 = .ok (.aload_n 0, 1) := by decide +kernel
theorem dX12_yearStep_246 : decode cX12_yearStep 246 = .ok (.getfield 44, 3) := by decide +kernel
theorem dX12_yearStep_249 : decode cX12_yearStep 249 = .ok (.aload_n 0, 1) := by decide +kernel
theorem dX12_yearStep_250 : decode cX12_yearStep 250 = .ok (.getfield 232, 3) := by decide +kernel
theorem dX12_yearStep_253 : decode cX12_yearStep 253 = .ok (.iaload, 1) := by decide +kernel
theorem dX12_yearStep_254 : decode cX12_yearStep 254 = .ok (.iastore, 1) := by decide +kernel
theorem dX12_yearStep_255 : decode cX12_yearStep 255 = .ok (.aload_n 0, 1) := by decide +kernel
theorem dX12_yearStep_256 : decode cX12_yearStep 256 = .ok (.getfield 7, 3) := by decide +kernel
theorem dX12_yearStep_259 : decode cX12_yearStep 259 = .ok (.sipush 2602, 3) := by decide +kernel
theorem dX12_yearStep_262 : decode cX12_yearStep 262 = .ok (.bipush 6, 2) := by decide +kernel
theorem dX12_yearStep_264 : decode cX12_yearStep 264 = .ok (.aload_n 0, 1) := by decide +kernel
theorem dX12_yearStep_265 : decode cX12_yearStep 265 = .ok (.getfield 44, 3) := by decide +kernel
theorem dX12_yearStep_268 : decode cX12_yearStep 268 = .ok (.aload_n 0, 1) := by decide +kernel
theorem dX12_yearStep_269 : decode cX12_yearStep 269 = .ok (.getfield 232, 3) := by decide +kernel
theorem dX12_yearStep_272 : decode cX12_yearStep 272 = .ok (.iaload, 1) := by decide +kernel
theorem dX12_yearStep_273 : decode cX12_yearStep 273 = .ok (.imul, 1) := by decide +kernel
theorem dX12_yearStep_274 : decode cX12_yearStep 274 = .ok (.iadd, 1) := by decide +kernel
theorem dX12_yearStep_275 : decode cX12_yearStep 275 = .ok (.iconst 4, 1) := by decide +kernel
theorem dX12_yearStep_276 : decode cX12_yearStep 276 = .ok (.iadd, 1) := by decide +kernel
theorem dX12_yearStep_277 : decode cX12_yearStep 277 = .ok (.iload_n 2, 1) := by decide +kernel
theorem dX12_yearStep_278 : decode cX12_yearStep 278 = .ok (.iastore, 1) := by decide +kernel
theorem dX12_yearStep_279 : decode cX12_yearStep 279 = .ok (.aload_n 0, 1) := by decide +kernel
theorem dX12_yearStep_280 : decode cX12_yearStep 280 = .ok (.bipush 59, 2) := by decide +kernel
theorem dX12_yearStep_282 : decode cX12_yearStep 282 = .ok (.invokevirtual 210, 3) := by decide +kernel
theorem dX12_yearStep_285 : decode cX12_yearStep 285 = .ok (.ireturn, 1) := by decide +kernel
abbrev M_X12_yearStep : MT := (yX12_yearStep, cX12_yearStep, 6, (some .boolean))
theorem cf_X12_yearStep : fq_cf M_X12_yearStep 0 := ⟨(mg_1 (List.mem_of_getElem? (i := 15) rfl) rfl), (mg_7 (List.mem_of_getElem? (i := 215) rfl) rfl), ⟨by decide, by decide, by decide +kernel⟩, by decide⟩
def B_X12_yearStep_279 (l : Launch) (G : GT) (D mc ms : Nat) (Q : Post) : Cn := ix_aload 0 (ix_pushI 59 (ix_vcall 12 2 0 0 mc ms (sp_X12_wantSign G) (ix_zret mc ms Q)))
theorem b_X12_yearStep_279 {l : Launch} {G : GT} {D mc ms : Nat} {Q : Post} : Imp l G M_X12_yearStep (D + 10) mc ms Q (B_X12_yearStep_279 l G D mc ms Q) 279 := sx_aload_n dX12_yearStep_279 rfl (sx_bipush dX12_yearStep_280 rfl (sx_vcall dX12_yearStep_282 cf_X12_wantSign (mg_7 (List.mem_of_getElem? (i := 192) rfl) rfl) (mg_7 (List.mem_of_getElem? (i := 194) rfl) rfl) (mg_p (List.mem_of_getElem? (i := 69) rfl) rfl) rfl c_X12_wantSign (sx_zret dX12_yearStep_285 rfl)))
def B_X12_yearStep_222 (l : Launch) (G : GT) (D mc ms : Nat) (Q : Post) : Cn := ix_iload 1 (ix_pushI 20 (ix_icmp_ne ((B_X12_yearStep_279 l G D mc ms Q)) (ix_aload 0 (ix_dupR (ix_getI 12 22 (ix_pushI 1 (ix_isub (ix_putI 12 22 (ix_aload 0 (ix_getR 12 0 (ix_iload 3 (ix_pushI 4 (ix_iadd (ix_aload 0 (ix_getR 12 21 (ix_aload 0 (ix_getI 12 22 (ix_iald (ix_iast (ix_aload 0 (ix_getR 12 0 (ix_pushI 2602 (ix_pushI 6 (ix_aload 0 (ix_getR 12 21 (ix_aload 0 (ix_getI 12 22 (ix_iald (ix_imul (ix_iadd (ix_pushI 4 (ix_iadd (ix_iload 2 (ix_iast ((B_X12_yearStep_279 l G D mc ms Q))))))))))))))))))))))))))))))))))))
theorem b_X12_yearStep_222 {l : Launch} {G : GT} {D mc ms : Nat} {Q : Post} : Imp l G M_X12_yearStep (D + 10) mc ms Q (B_X12_yearStep_222 l G D mc ms Q) 222 := sx_iload_n dX12_yearStep_222 rfl (sx_bipush dX12_yearStep_223 rfl (sx_icmp_ne 279 dX12_yearStep_225 (by decide) (b_X12_yearStep_279) (sx_aload_n dX12_yearStep_228 rfl (sx_dupR dX12_yearStep_229 (sx_getI dX12_yearStep_230 fl_FootQuarrelModel_232 (fun _ _ _ => rfl) (sx_iconst dX12_yearStep_233 rfl (sx_isub dX12_yearStep_234 (sx_putI dX12_yearStep_235 fl_FootQuarrelModel_232 (by decide) (fun _ _ _ => rfl) (fun _ => ⟨rfl, rfl⟩) (sx_aload_n dX12_yearStep_238 rfl (sx_getR dX12_yearStep_239 fl_FootQuarrelModel_7 (fun _ _ _ => rfl) (sx_iload_n dX12_yearStep_242 rfl (sx_iconst dX12_yearStep_243 rfl (sx_iadd dX12_yearStep_244 (sx_aload_n dX12_yearStep_245 rfl (sx_getR dX12_yearStep_246 fl_FootQuarrelModel_44 (fun _ _ _ => rfl) (sx_aload_n dX12_yearStep_249 rfl (sx_getI dX12_yearStep_250 fl_FootQuarrelModel_232 (fun _ _ _ => rfl) (sx_iald dX12_yearStep_253 (sx_iast dX12_yearStep_254 (sx_aload_n dX12_yearStep_255 rfl (sx_getR dX12_yearStep_256 fl_FootQuarrelModel_7 (fun _ _ _ => rfl) (sx_sipush dX12_yearStep_259 rfl (sx_bipush dX12_yearStep_262 rfl (sx_aload_n dX12_yearStep_264 rfl (sx_getR dX12_yearStep_265 fl_FootQuarrelModel_44 (fun _ _ _ => rfl) (sx_aload_n dX12_yearStep_268 rfl (sx_getI dX12_yearStep_269 fl_FootQuarrelModel_232 (fun _ _ _ => rfl) (sx_iald dX12_yearStep_272 (sx_imul dX12_yearStep_273 (sx_iadd dX12_yearStep_274 (sx_iconst dX12_yearStep_275 rfl (sx_iadd dX12_yearStep_276 (sx_iload_n dX12_yearStep_277 rfl (sx_iast dX12_yearStep_278 (b_X12_yearStep_279)))))))))))))))))))))))))))))))))))
def B_X12_yearStep_192 (l : Launch) (G : GT) (D mc ms : Nat) (Q : Post) : Cn := ix_if_ne (ix_iload 4 (ix_if_eq ((B_X12_yearStep_222 l G D mc ms Q)) (ix_aload 0 (ix_getR 12 21 (ix_aload 0 (ix_getI 12 22 (ix_iload 2 (ix_iast (ix_aload 0 (ix_dupR (ix_getI 12 22 (ix_pushI 1 (ix_iadd (ix_putI 12 22 ((B_X12_yearStep_222 l G D mc ms Q)))))))))))))))) (ix_pushI 0 (ix_zret mc ms Q))
theorem b_X12_yearStep_192 {l : Launch} {G : GT} {D mc ms : Nat} {Q : Post} : Imp l G M_X12_yearStep (D + 10) mc ms Q (B_X12_yearStep_192 l G D mc ms Q) 192 := sx_if_ne 197 dX12_yearStep_192 (by decide) (sx_iload dX12_yearStep_197 (sx_if_eq 222 dX12_yearStep_199 (by decide) (b_X12_yearStep_222) (sx_aload_n dX12_yearStep_202 rfl (sx_getR dX12_yearStep_203 fl_FootQuarrelModel_44 (fun _ _ _ => rfl) (sx_aload_n dX12_yearStep_206 rfl (sx_getI dX12_yearStep_207 fl_FootQuarrelModel_232 (fun _ _ _ => rfl) (sx_iload_n dX12_yearStep_210 rfl (sx_iast dX12_yearStep_211 (sx_aload_n dX12_yearStep_212 rfl (sx_dupR dX12_yearStep_213 (sx_getI dX12_yearStep_214 fl_FootQuarrelModel_232 (fun _ _ _ => rfl) (sx_iconst dX12_yearStep_217 rfl (sx_iadd dX12_yearStep_218 (sx_putI dX12_yearStep_219 fl_FootQuarrelModel_232 (by decide) (fun _ _ _ => rfl) (fun _ => ⟨rfl, rfl⟩) (b_X12_yearStep_222))))))))))))))) (sx_iconst dX12_yearStep_195 rfl (sx_zret dX12_yearStep_196 rfl))
def B_X12_yearStep_186 (l : Launch) (G : GT) (D mc ms : Nat) (Q : Post) : Cn := ix_aload 0 (ix_iload 1 (ix_iload 3 (ix_vcall 12 3 0 0 mc ms (sp_X12_yearOrder G) ((B_X12_yearStep_192 l G D mc ms Q)))))
theorem b_X12_yearStep_186 {l : Launch} {G : GT} {D mc ms : Nat} {Q : Post} : Imp l G M_X12_yearStep (D + 10) mc ms Q (B_X12_yearStep_186 l G D mc ms Q) 186 := sx_aload_n dX12_yearStep_186 rfl (sx_iload_n dX12_yearStep_187 rfl (sx_iload_n dX12_yearStep_188 rfl (sx_vcall dX12_yearStep_189 cf_X12_yearOrder (mg_7 (List.mem_of_getElem? (i := 216) rfl) rfl) (mg_7 (List.mem_of_getElem? (i := 218) rfl) rfl) (mg_p (List.mem_of_getElem? (i := 74) rfl) rfl) rfl c_X12_yearOrder (b_X12_yearStep_192))))
def B_X12_yearStep_147 (l : Launch) (G : GT) (D mc ms : Nat) (Q : Post) : Cn := ix_iload 5 (ix_pushI 6 (ix_icmp_ge (ix_aload 0 (ix_getR 12 0 (ix_pushI 2387 (ix_dup2 (ix_iald (ix_pushI 1 (ix_iadd (ix_iast (ix_aload 0 (ix_vcall 12 1 0 0 mc ms (sp_X12_ahead G) ((B_X12_yearStep_186 l G D mc ms Q)))))))))))) (ix_aload 0 (ix_getR 12 0 (ix_iload 3 (ix_iload 5 (ix_iadd (ix_pushI 0 (ix_iast (ix_iinc 5 1 (fqAt l G M_X12_yearStep (D + 10) mc ms Q 147)))))))))))
theorem b_X12_yearStep_147 {l : Launch} {G : GT} {D mc ms : Nat} {Q : Post} : Imp l G M_X12_yearStep (D + 10) mc ms Q (B_X12_yearStep_147 l G D mc ms Q) 147 := sx_iload dX12_yearStep_147 (sx_bipush dX12_yearStep_149 rfl (sx_icmp_ge 170 dX12_yearStep_151 (by decide) (sx_aload_n dX12_yearStep_170 rfl (sx_getR dX12_yearStep_171 fl_FootQuarrelModel_7 (fun _ _ _ => rfl) (sx_sipush dX12_yearStep_174 rfl (sx_dup2 dX12_yearStep_177 (sx_iald dX12_yearStep_178 (sx_iconst dX12_yearStep_179 rfl (sx_iadd dX12_yearStep_180 (sx_iast dX12_yearStep_181 (sx_aload_n dX12_yearStep_182 rfl (sx_vcall dX12_yearStep_183 cf_X12_ahead (mg_7 (List.mem_of_getElem? (i := 112) rfl) rfl) (mg_7 (List.mem_of_getElem? (i := 114) rfl) rfl) (mg_p (List.mem_of_getElem? (i := 52) rfl) rfl) rfl c_X12_ahead (b_X12_yearStep_186))))))))))) (sx_aload_n dX12_yearStep_154 rfl (sx_getR dX12_yearStep_155 fl_FootQuarrelModel_7 (fun _ _ _ => rfl) (sx_iload_n dX12_yearStep_158 rfl (sx_iload dX12_yearStep_159 (sx_iadd dX12_yearStep_161 (sx_iconst dX12_yearStep_162 rfl (sx_iast dX12_yearStep_163 (sx_iinc dX12_yearStep_164 rfl (by decide) (sx_goto 147 dX12_yearStep_167 (by decide) ((fun _ _ _ _ _ _ _ _ h => h)))))))))))))
def B_X12_yearStep_133 (l : Launch) (G : GT) (D mc ms : Nat) (Q : Post) : Cn := ix_iadd (ix_putI 12 23 (ix_aload 0 (ix_getR 12 0 (ix_iload 3 (ix_iload 1 (ix_iast (ix_pushI 1 (ix_istore 5 (fqAt l G M_X12_yearStep (D + 10) mc ms Q 147)))))))))
theorem b_X12_yearStep_133 {l : Launch} {G : GT} {D mc ms : Nat} {Q : Post} : Imp l G M_X12_yearStep (D + 10) mc ms Q (B_X12_yearStep_133 l G D mc ms Q) 133 := sx_iadd dX12_yearStep_133 (sx_putI dX12_yearStep_134 fl_FootQuarrelModel_235 (by decide) (fun _ _ _ => rfl) (fun _ => ⟨rfl, rfl⟩) (sx_aload_n dX12_yearStep_137 rfl (sx_getR dX12_yearStep_138 fl_FootQuarrelModel_7 (fun _ _ _ => rfl) (sx_iload_n dX12_yearStep_141 rfl (sx_iload_n dX12_yearStep_142 rfl (sx_iast dX12_yearStep_143 (sx_iconst dX12_yearStep_144 rfl (sx_istore dX12_yearStep_145 (by decide) ((fun _ _ _ _ _ _ _ _ h => h))))))))))
def B_X12_yearStep_117 (l : Launch) (G : GT) (D mc ms : Nat) (Q : Post) : Cn := ix_aload 0 (ix_dupR (ix_getI 12 23 (ix_iload 1 (ix_pushI 20 (ix_icmp_ne (ix_pushI 1 ((B_X12_yearStep_133 l G D mc ms Q))) (ix_pushI 0 ((B_X12_yearStep_133 l G D mc ms Q))))))))
theorem b_X12_yearStep_117 {l : Launch} {G : GT} {D mc ms : Nat} {Q : Post} : Imp l G M_X12_yearStep (D + 10) mc ms Q (B_X12_yearStep_117 l G D mc ms Q) 117 := sx_aload_n dX12_yearStep_117 rfl (sx_dupR dX12_yearStep_118 (sx_getI dX12_yearStep_119 fl_FootQuarrelModel_235 (fun _ _ _ => rfl) (sx_iload_n dX12_yearStep_122 rfl (sx_bipush dX12_yearStep_123 rfl (sx_icmp_ne 132 dX12_yearStep_125 (by decide) (sx_iconst dX12_yearStep_132 rfl (b_X12_yearStep_133)) (sx_iconst dX12_yearStep_128 rfl (sx_goto 133 dX12_yearStep_129 (by decide) (b_X12_yearStep_133))))))))
def B_X12_yearStep_97 (l : Launch) (G : GT) (D mc ms : Nat) (Q : Post) : Cn := ix_iload 4 (ix_if_eq ((B_X12_yearStep_117 l G D mc ms Q)) (ix_aload 0 (ix_getI 12 22 (ix_pushI 3 (ix_icmp_ne ((B_X12_yearStep_117 l G D mc ms Q)) (ix_aload 0 (ix_pushI 7 (ix_vcall 12 2 0 0 mc ms (sp_X12_fails G) (ix_zret mc ms Q)))))))))
theorem b_X12_yearStep_97 {l : Launch} {G : GT} {D mc ms : Nat} {Q : Post} : Imp l G M_X12_yearStep (D + 10) mc ms Q (B_X12_yearStep_97 l G D mc ms Q) 97 := sx_iload dX12_yearStep_97 (sx_if_eq 117 dX12_yearStep_99 (by decide) (b_X12_yearStep_117) (sx_aload_n dX12_yearStep_102 rfl (sx_getI dX12_yearStep_103 fl_FootQuarrelModel_232 (fun _ _ _ => rfl) (sx_iconst dX12_yearStep_106 rfl (sx_icmp_ne 117 dX12_yearStep_107 (by decide) (b_X12_yearStep_117) (sx_aload_n dX12_yearStep_110 rfl (sx_bipush dX12_yearStep_111 rfl (sx_vcall dX12_yearStep_113 cf_X12_fails (mg_7 (List.mem_of_getElem? (i := 143) rfl) rfl) (mg_7 (List.mem_of_getElem? (i := 145) rfl) rfl) (mg_p (List.mem_of_getElem? (i := 57) rfl) rfl) rfl c_X12_fails (sx_zret dX12_yearStep_116 rfl)))))))))
def B_X12_yearStep_75 (l : Launch) (G : GT) (D mc ms : Nat) (Q : Post) : Cn := ix_iload 1 (ix_pushI 20 (ix_icmp_eq ((B_X12_yearStep_97 l G D mc ms Q)) (ix_aload 0 (ix_getI 12 23 (ix_pushI 30 (ix_icmp_ne ((B_X12_yearStep_97 l G D mc ms Q)) (ix_aload 0 (ix_pushI 6 (ix_vcall 12 2 0 0 mc ms (sp_X12_fails G) (ix_zret mc ms Q))))))))))
theorem b_X12_yearStep_75 {l : Launch} {G : GT} {D mc ms : Nat} {Q : Post} : Imp l G M_X12_yearStep (D + 10) mc ms Q (B_X12_yearStep_75 l G D mc ms Q) 75 := sx_iload_n dX12_yearStep_75 rfl (sx_bipush dX12_yearStep_76 rfl (sx_icmp_eq 97 dX12_yearStep_78 (by decide) (b_X12_yearStep_97) (sx_aload_n dX12_yearStep_81 rfl (sx_getI dX12_yearStep_82 fl_FootQuarrelModel_235 (fun _ _ _ => rfl) (sx_bipush dX12_yearStep_85 rfl (sx_icmp_ne 97 dX12_yearStep_87 (by decide) (b_X12_yearStep_97) (sx_aload_n dX12_yearStep_90 rfl (sx_bipush dX12_yearStep_91 rfl (sx_vcall dX12_yearStep_93 cf_X12_fails (mg_7 (List.mem_of_getElem? (i := 143) rfl) rfl) (mg_7 (List.mem_of_getElem? (i := 145) rfl) rfl) (mg_p (List.mem_of_getElem? (i := 57) rfl) rfl) rfl c_X12_fails (sx_zret dX12_yearStep_96 rfl))))))))))
def B_X12_yearStep_69 (l : Launch) (G : GT) (D mc ms : Nat) (Q : Post) : Cn := ix_aload 0 (ix_pushI 2 (ix_vcall 12 2 0 0 mc ms (sp_X12_fails G) (ix_zret mc ms Q)))
theorem b_X12_yearStep_69 {l : Launch} {G : GT} {D mc ms : Nat} {Q : Post} : Imp l G M_X12_yearStep (D + 10) mc ms Q (B_X12_yearStep_69 l G D mc ms Q) 69 := sx_aload_n dX12_yearStep_69 rfl (sx_iconst dX12_yearStep_70 rfl (sx_vcall dX12_yearStep_71 cf_X12_fails (mg_7 (List.mem_of_getElem? (i := 143) rfl) rfl) (mg_7 (List.mem_of_getElem? (i := 145) rfl) rfl) (mg_p (List.mem_of_getElem? (i := 57) rfl) rfl) rfl c_X12_fails (sx_zret dX12_yearStep_74 rfl)))
def B_X12_yearStep_42 (l : Launch) (G : GT) (D mc ms : Nat) (Q : Post) : Cn := ix_istore 4 (ix_iload 1 (ix_pushI 12 (ix_icmp_lt ((B_X12_yearStep_69 l G D mc ms Q)) (ix_iload 1 (ix_pushI 21 (ix_icmp_gt ((B_X12_yearStep_69 l G D mc ms Q)) (ix_iload 1 (ix_pushI 20 (ix_icmp_ne ((B_X12_yearStep_75 l G D mc ms Q)) (ix_aload 0 (ix_getI 12 22 (ix_if_ne ((B_X12_yearStep_75 l G D mc ms Q)) ((B_X12_yearStep_69 l G D mc ms Q))))))))))))))
theorem b_X12_yearStep_42 {l : Launch} {G : GT} {D mc ms : Nat} {Q : Post} : Imp l G M_X12_yearStep (D + 10) mc ms Q (B_X12_yearStep_42 l G D mc ms Q) 42 := sx_istore dX12_yearStep_42 (by decide) (sx_iload_n dX12_yearStep_44 rfl (sx_bipush dX12_yearStep_45 rfl (sx_icmp_lt 69 dX12_yearStep_47 (by decide) (b_X12_yearStep_69) (sx_iload_n dX12_yearStep_50 rfl (sx_bipush dX12_yearStep_51 rfl (sx_icmp_gt 69 dX12_yearStep_53 (by decide) (b_X12_yearStep_69) (sx_iload_n dX12_yearStep_56 rfl (sx_bipush dX12_yearStep_57 rfl (sx_icmp_ne 75 dX12_yearStep_59 (by decide) (b_X12_yearStep_75) (sx_aload_n dX12_yearStep_62 rfl (sx_getI dX12_yearStep_63 fl_FootQuarrelModel_232 (fun _ _ _ => rfl) (sx_if_ne 75 dX12_yearStep_66 (by decide) (b_X12_yearStep_75) (b_X12_yearStep_69)))))))))))))
def B_X12_yearStep_37 (l : Launch) (G : GT) (D mc ms : Nat) (Q : Post) : Cn := ix_pushI 1 ((B_X12_yearStep_42 l G D mc ms Q))
theorem b_X12_yearStep_37 {l : Launch} {G : GT} {D mc ms : Nat} {Q : Post} : Imp l G M_X12_yearStep (D + 10) mc ms Q (B_X12_yearStep_37 l G D mc ms Q) 37 := sx_iconst dX12_yearStep_37 rfl (sx_goto 42 dX12_yearStep_38 (by decide) (b_X12_yearStep_42))
def B_X12_yearStep_6 (l : Launch) (G : GT) (D mc ms : Nat) (Q : Post) : Cn := ix_istore 1 (ix_aload 0 (ix_getR 12 0 (ix_pushI 2387 (ix_iald (ix_istore 2 (ix_pushI 2602 (ix_pushI 6 (ix_iload 2 (ix_imul (ix_iadd (ix_istore 3 (ix_iload 1 (ix_pushI 18 (ix_icmp_eq ((B_X12_yearStep_37 l G D mc ms Q)) (ix_iload 1 (ix_pushI 19 (ix_icmp_ne (ix_pushI 0 ((B_X12_yearStep_42 l G D mc ms Q))) ((B_X12_yearStep_37 l G D mc ms Q)))))))))))))))))))
theorem b_X12_yearStep_6 {l : Launch} {G : GT} {D mc ms : Nat} {Q : Post} : Imp l G M_X12_yearStep (D + 10) mc ms Q (B_X12_yearStep_6 l G D mc ms Q) 6 := sx_istore_n dX12_yearStep_6 rfl (by decide) (sx_aload_n dX12_yearStep_7 rfl (sx_getR dX12_yearStep_8 fl_FootQuarrelModel_7 (fun _ _ _ => rfl) (sx_sipush dX12_yearStep_11 rfl (sx_iald dX12_yearStep_14 (sx_istore_n dX12_yearStep_15 rfl (by decide) (sx_sipush dX12_yearStep_16 rfl (sx_bipush dX12_yearStep_19 rfl (sx_iload_n dX12_yearStep_21 rfl (sx_imul dX12_yearStep_22 (sx_iadd dX12_yearStep_23 (sx_istore_n dX12_yearStep_24 rfl (by decide) (sx_iload_n dX12_yearStep_25 rfl (sx_bipush dX12_yearStep_26 rfl (sx_icmp_eq 37 dX12_yearStep_28 (by decide) (b_X12_yearStep_37) (sx_iload_n dX12_yearStep_31 rfl (sx_bipush dX12_yearStep_32 rfl (sx_icmp_ne 41 dX12_yearStep_34 (by decide) (sx_iconst dX12_yearStep_41 rfl (b_X12_yearStep_42)) (b_X12_yearStep_37))))))))))))))))))
def B_X12_yearStep_0 (l : Launch) (G : GT) (D mc ms : Nat) (Q : Post) : Cn := ix_aload 0 (ix_ldcS G 1 (ix_vcall 12 2 0 0 mc ms (sp_X12_inWords G) ((B_X12_yearStep_6 l G D mc ms Q))))
theorem b_X12_yearStep_0 {l : Launch} {G : GT} {D mc ms : Nat} {Q : Post} : Imp l G M_X12_yearStep (D + 10) mc ms Q (B_X12_yearStep_0 l G D mc ms Q) 0 := sx_aload_n dX12_yearStep_0 rfl (sx_ldcS 168 dX12_yearStep_1 (Or.inr ⟨rfl, rfl, rfl⟩) (sx_vcall dX12_yearStep_3 cf_X12_inWords (mg_7 (List.mem_of_getElem? (i := 137) rfl) rfl) (mg_7 (List.mem_of_getElem? (i := 139) rfl) rfl) (mg_p (List.mem_of_getElem? (i := 56) rfl) rfl) rfl c_X12_inWords (b_X12_yearStep_6)))
/-- a place in a year's text: the text's place, depth, counted, opened -/
abbrev YSt : Type := PSt × Nat × Nat × (Nat → Int32)
abbrev YR : Type := (Int32 × Nat) ⊕ YSt
def ysH (M : Nat) (I : IH) (J : JH) (n : Nat) (y : YSt) : Prop := psH M I J n y.1 ∧ I M 22 = nI y.2.1 ∧ I M 23 = nI y.2.2.1 ∧ I (M + 8) = y.2.2.2
def yrA (A : Nat → Int32) (r : Nat) (k : Int32) (i : Nat) : Nat → Int32 := fun j => if j = r then k else if r < j ∧ j < r + i then 0 else A j
theorem yrA_1 (A : Nat → Int32) (r : Nat) (k : Int32) : yrA A r k 1 = uA A r k := by
  funext j
  unfold yrA uA
  by_cases h : j = r
  · rw [if_pos h, if_pos h]
  · rw [if_neg h, if_neg h, if_neg (by omega)]
theorem yrA_s (A : Nat → Int32) (r : Nat) (k : Int32) (i : Nat) (hi : 0 < i) : uA (yrA A r k i) (r + i) 0 = yrA A r k (i + 1) := by
  funext j
  unfold yrA uA
  by_cases h : j = r + i
  · rw [if_pos h, if_neg (by omega), if_pos (by omega)]
  · rw [if_neg h]
    dsimp only
    by_cases h2 : j = r
    · rw [if_pos h2, if_pos h2]
    · rw [if_neg h2, if_neg h2]
      by_cases h3 : r < j ∧ j < r + i
      · rw [if_pos h3, if_pos (by omega)]
      · rw [if_neg h3, if_neg (by omega)]
theorem yrA_o (A : Nat → Int32) (r : Nat) (k : Int32) (i j : Nat) (h : j < r) : yrA A r k i j = A j := by
  unfold yrA
  rw [if_neg (by omega), if_neg (by omega)]
/-- a step's row begun -/
def yrB (A : Nat → Int32) (k : Int32) : Nat → Int32 := uA (yrA A (2602 + 6 * (A 2387).toNatClampNeg) k 6) 2387 (A 2387 + 1)
/-- behind an order: what opens is kept, what closes is told -/
def yrE (k : Int32) (m : Nat) (s : PSt) (d c : Nat) (O : Nat → Int32) : YSt := if k = 18 ∨ k = 19 then (s, d + 1, c, uA O d (nI m)) else if k = 20 then ((uA (uA s.1 (2602 + 6 * m + 4) (O (d - 1))) (2602 + 6 * (O (d - 1)).toNatClampNeg + 4) (nI m), s.2.1, s.2.2), d - 1, c, O) else (s, d, c, O)
def yB (x : PR) (f : PSt → YR) : YR := match x with
  | .inl y => .inl y
  | .inr s => f s
def pYs (T : Nat → Int32) (n hm pm : Nat) (y : YSt) : YR :=
  if kwI T n y.1.2.2 < 12 ∨ 21 < kwI T n y.1.2.2 ∨ kwI T n y.1.2.2 = 20 ∧ y.2.1 = 0 then yB (pE T n 2 y.1.2.2) (fun _ => .inr y)
  else if ¬ kwI T n y.1.2.2 = 20 ∧ y.2.2.1 = 30 then yB (pE T n 6 y.1.2.2) (fun _ => .inr y)
  else if (kwI T n y.1.2.2 = 18 ∨ kwI T n y.1.2.2 = 19) ∧ y.2.1 = 3 then yB (pE T n 7 y.1.2.2) (fun _ => .inr y)
  else yB (pYo T n (kwI T n y.1.2.2) (2602 + 6 * (y.1.1 2387).toNatClampNeg) hm pm (yrB y.1.1 (kwI T n y.1.2.2), y.1.2.1, tE T n y.1.2.2)) (fun s2 =>
    yB (pSg T n 59 (yrE (kwI T n y.1.2.2) (y.1.1 2387).toNatClampNeg s2 y.2.1 (if kwI T n y.1.2.2 = 20 then y.2.2.1 else y.2.2.1 + 1) y.2.2.2).1) (fun s3 => .inr (s3, (yrE (kwI T n y.1.2.2) (y.1.1 2387).toNatClampNeg s2 y.2.1 (if kwI T n y.1.2.2 = 20 then y.2.2.1 else y.2.2.1 + 1) y.2.2.2).2)))
/-- what holds of a place in a year's text -/
def yW (y : YSt) : Prop := ∃ m, y.1.1 2387 = nI m ∧ m + y.2.1 ≤ 2 * y.2.2.1 ∧ y.2.2.1 ≤ 30 ∧ y.2.1 ≤ 3 ∧ (∀ i, i < y.2.1 → ∃ j, j < m ∧ y.2.2.2 i = nI j) ∧ okN (y.1.1 0) 8 ∧ okN (y.1.1 1) 8
def RYS (M : Nat) (I : IH) (J : JH) (n : Nat) (x : YR) (Q1 Q0 : IH → JH → Prop) : Prop := match x with
  | .inl f => ∀ I' J', txF M I I' J J' → I' M 18 = f.1 → I' M 17 = nI f.2 → Q0 I' J'
  | .inr y => ∀ I' J', txF M I I' J J' → ysH M I' J' n y → Q1 I' J'
def sp_X12_yearStep (G : GT) : Sp := fun as S I J z Q => match as with
  | [.ref M] => rfS S M ∧ ∃ n y, ysH M I J n y ∧ yW y ∧ RYS M I J n (pYs (I (M + 7)) n (y.1.1 0).toNatClampNeg (y.1.1 1).toNatClampNeg y) (fun I' J' => Q (some (.int 1)) S I' J' z) (fun I' J' => Q (some (.int 0)) S I' J' z)
  | _ => False
