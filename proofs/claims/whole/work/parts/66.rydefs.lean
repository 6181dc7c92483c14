/-! the reference: a year's text, whole -/
theorem dX12_years_0 : decode cX12_years 0 = .ok (.aload_n 0, 1) := by decide +kernel
theorem dX12_years_1 : decode cX12_years 1 = .ok (.iload_n 1, 1) := by decide +kernel
theorem dX12_years_2 : decode cX12_years 2 = .ok (.sipush 300, 3) := by decide +kernel
theorem dX12_years_5 : decode cX12_years 5 = .ok (.invokevirtual 213, 3) := by decide +kernel
theorem dX12_years_8 : decode cX12_years 8 = .ok (.ifCond .ne 9, 3) := by decide +kernel
theorem dX12_years_11 : decode cX12_years 11 = .ok (.aload_n 0, 1) := by decide +kernel
theorem dX12_years_12 : decode cX12_years 12 = .ok (.iconst 1, 1) := by decide +kernel
theorem dX12_years_13 : decode cX12_years 13 = .ok (.invokevirtual 75, 3) := by decide +kernel
theorem dX12_years_16 : decode cX12_years 16 = .ok (.ireturn, 1) := by decide +kernel
theorem dX12_years_17 : decode cX12_years 17 = .ok (.aload_n 0, 1) := by decide +kernel
theorem dX12_years_18 : decode cX12_years 18 = .ok (.getfield 7, 3) := by decide +kernel
theorem dX12_years_21 : decode cX12_years 21 = .ok (.sipush 2387, 3) := by decide +kernel
theorem dX12_years_24 : decode cX12_years 24 = .ok (.iconst 0, 1) := by decide +kernel
theorem dX12_years_25 : decode cX12_years 25 = .ok (.iastore, 1) := by decide +kernel
theorem dX12_years_26 : decode cX12_years 26 = .ok (.aload_n 0, 1) := by decide +kernel
theorem dX12_years_27 : decode cX12_years 27 = .ok (.iconst 0, 1) := by decide +kernel
theorem dX12_years_28 : decode cX12_years 28 = .ok (.putfield 232, 3) := by decide +kernel
theorem dX12_years_31 : decode cX12_years 31 = .ok (.aload_n 0, 1) := by decide +kernel
theorem dX12_years_32 : decode cX12_years 32 = .ok (.iconst 0, 1) := by decide +kernel
theorem dX12_years_33 : decode cX12_years 33 = .ok (.putfield 235, 3) := by decide +kernel
theorem dX12_years_36 : decode cX12_years 36 = .ok (.iconst 1, 1) := by decide +kernel
theorem dX12_years_37 : decode cX12_years 37 = .ok (.istore_n 2, 1) := by decide +kernel
theorem dX12_years_38 : decode cX12_years 38 = .ok (.iload_n 2, 1) := by decide +kernel
theorem dX12_years_39 : decode cX12_years 39 = .ok (.ifCond .eq 18, 3) := by decide +kernel
theorem dX12_years_42 : decode cX12_years 42 = .ok (.aload_n 0, 1) := by decide +kernel
theorem dX12_years_43 : decode cX12_years 43 = .ok (.getfield 120, 3) := by decide +kernel
theorem dX12_years_46 : decode cX12_years 46 = .ok (.ifCond .eq 11, 3) := by decide +kernel
theorem dX12_years_49 : decode cX12_years 49 = .ok (.aload_n 0, 1) := by decide +kernel
theorem dX12_years_50 : decode cX12_years 50 = .ok (.invokevirtual 241, 3) := by decide +kernel
theorem dX12_years_53 : decode cX12_years 53 = .ok (.istore_n 2, 1) := by decide +kernel
theorem dX12_years_54 : decode cX12_years 54 = .ok (.goto (-16), 3) := by decide +kernel
theorem dX12_years_57 : decode cX12_years 57 = .ok (.aload_n 0, 1) := by decide +kernel
theorem dX12_years_58 : decode cX12_years 58 = .ok (.getfield 145, 3) := by decide +kernel
theorem dX12_years_61 : decode cX12_years 61 = .ok (.ifCond .ne 16, 3) := by decide +kernel
theorem dX12_years_64 : decode cX12_years 64 = .ok (.aload_n 0, 1) := by decide +kernel
theorem dX12_years_65 : decode cX12_years 65 = .ok (.getfield 232, 3) := by decide +kernel
theorem dX12_years_68 : decode cX12_years 68 = .ok (.ifCond .le 9, 3) := by decide +kernel
theorem dX12_years_71 : decode cX12_years 71 = .ok (.aload_n 0, 1) := by decide +kernel
theorem dX12_years_72 : decode cX12_years 72 = .ok (.iconst 2, 1) := by decide +kernel
theorem dX12_years_73 : decode cX12_years 73 = .ok (.invokevirtual 157, 3) := by decide +kernel
theorem dX12_years_76 : decode cX12_years 76 = .ok (.pop, 1) := by decide +kernel
theorem dX12_years_77 : decode cX12_years 77 = .ok (.aload_n 0, 1) := by decide +kernel
theorem dX12_years_78 : decode cX12_years 78 = .ok (.getfield 145, 3) := by decide +kernel
theorem dX12_years_81 : decode cX12_years 81 = .ok (.ifCond .ne 51, 3) := by decide +kernel
theorem dX12_years_84 : decode cX12_years 84 = .ok (.aload_n 0, 1) := by decide +kernel
theorem dX12_years_85 : decode cX12_years 85 = .ok (.getfield 7, 3) := by decide +kernel
theorem dX12_years_88 : decode cX12_years 88 = .ok (.bipush 11, 2) := by decide +kernel
theorem dX12_years_90 : decode cX12_years 90 = .ok (.aload_n 0, 1) := by decide +kernel
theorem dX12_years_91 : decode cX12_years 91 = .ok (.getfield 7, 3) := by decide +kernel
theorem dX12_years_94 : decode cX12_years 94 = .ok (.sipush 2387, 3) := by decide +kernel
theorem dX12_years_97 : decode cX12_years 97 = .ok (.iaload, 1) := by decide +kernel
theorem dX12_years_98 : decode cX12_years 98 = .ok (.iastore, 1) := by decide +kernel
theorem dX12_years_99 : decode cX12_years 99 = .ok (.sipush 226, 3) := by decide +kernel
theorem dX12_years_102 : decode cX12_years 102 = .ok (.istore_n 3, 1) := by decide +kernel
theorem dX12_years_103 : decode cX12_years 103 = .ok (.iload_n 3, 1) := by decide +kernel
theorem dX12_years_104 : decode cX12_years 104 = .ok (.sipush 586, 3) := by decide +kernel
theorem dX12_years_107 : decode cX12_years 107 = .ok (.if_icmp .ge 25, 3) := by decide +kernel
theorem dX12_years_110 : decode cX12_years 110 = .ok (.aload_n 0, 1) := by decide +kernel
theorem dX12_years_111 : decode cX12_years 111 = .ok (.getfield 7, 3) := by decide +kernel
theorem dX12_years_114 : decode cX12_years 114 = .ok (.iload_n 3, 1) := by decide +kernel
theorem dX12_years_115 : decode cX12_years 115 = .ok (.aload_n 0, 1) := by decide +kernel
theorem dX12_years_116 : decode cX12_years 116 = .ok (.getfield 7, 3) := by decide +kernel
theorem dX12_years_119 : decode cX12_years 119 = .ok (.sipush 2376, 3) := by decide +kernel
theorem dX12_years_122 : decode cX12_years 122 = .ok (.iload_n 3, 1) := by decide +kernel
theorem dX12_years_123 : decode cX12_years 123 = .ok (.iadd, 1) := by decide +kernel
theorem dX12_years_124 : decode cX12_years 124 = .ok (.iaload, 1) := by decide +kernel
theorem dX12_years_125 : decode cX12_years 125 = .ok (.iastore, 1) := by decide +kernel
theorem dX12_years_126 : decode cX12_years 126 = .ok (.iinc 3 1, 3) := by decide +kernel
theorem dX12_years_129 : decode cX12_years 129 = .ok (.goto (-26), 3) := by decide +kernel
theorem dX12_years_132 : decode cX12_years 132 = .ok (.aload_n 0, 1) := by decide +kernel
theorem dX12_years_133 : decode cX12_years 133 = .ok (.aload_n 0, 1) := by decide +kernel
theorem dX12_years_134 : decode cX12_years 134 = .ok (.getfield 235, 3) := by decide +kernel
theorem dX12_years_137 : decode cX12_years 137 = .ok (.invokevirtual 220, 3) := by decide +kernel
theorem dX12_years_140 : decode cX12_years 140 = .ok (.ireturn, 1) := by decide +kernel
abbrev M_X12_years : MT := (yX12_years, cX12_years, 4, (some .int))
theorem cf_X12_years : fq_cf M_X12_years 1 := ⟨(mg_1 (List.mem_of_getElem? (i := 15) rfl) rfl), (mg_7 (List.mem_of_getElem? (i := 211) rfl) rfl), ⟨by decide, by decide, by decide +kernel⟩, by decide⟩
def B_X12_years_132 (l : Launch) (G : GT) (D mc ms : Nat) (Q : Post) : Cn := ix_aload 0 (ix_aload 0 (ix_getI 12 23 (ix_vcall 12 2 0 0 mc ms (sp_X12_taken G) (ix_iret mc ms Q))))
theorem b_X12_years_132 {l : Launch} {G : GT} {D mc ms : Nat} {Q : Post} : Imp l G M_X12_years (D + 11) mc ms Q (B_X12_years_132 l G D mc ms Q) 132 := sx_aload_n dX12_years_132 rfl (sx_aload_n dX12_years_133 rfl (sx_getI dX12_years_134 fl_FootQuarrelModel_235 (fun _ _ _ => rfl) (sx_vcall dX12_years_137 cf_X12_taken (mg_7 (List.mem_of_getElem? (i := 200) rfl) rfl) (mg_7 (List.mem_of_getElem? (i := 202) rfl) rfl) (mg_p (List.mem_of_getElem? (i := 71) rfl) rfl) rfl c_X12_taken (sx_iret dX12_years_140 rfl))))
def B_X12_years_103 (l : Launch) (G : GT) (D mc ms : Nat) (Q : Post) : Cn := ix_iload 3 (ix_pushI 586 (ix_icmp_ge ((B_X12_years_132 l G D mc ms Q)) (ix_aload 0 (ix_getR 12 0 (ix_iload 3 (ix_aload 0 (ix_getR 12 0 (ix_pushI 2376 (ix_iload 3 (ix_iadd (ix_iald (ix_iast (ix_iinc 3 1 (fqAt l G M_X12_years (D + 11) mc ms Q 103))))))))))))))
theorem b_X12_years_103 {l : Launch} {G : GT} {D mc ms : Nat} {Q : Post} : Imp l G M_X12_years (D + 11) mc ms Q (B_X12_years_103 l G D mc ms Q) 103 := sx_iload_n dX12_years_103 rfl (sx_sipush dX12_years_104 rfl (sx_icmp_ge 132 dX12_years_107 (by decide) (b_X12_years_132) (sx_aload_n dX12_years_110 rfl (sx_getR dX12_years_111 fl_FootQuarrelModel_7 (fun _ _ _ => rfl) (sx_iload_n dX12_years_114 rfl (sx_aload_n dX12_years_115 rfl (sx_getR dX12_years_116 fl_FootQuarrelModel_7 (fun _ _ _ => rfl) (sx_sipush dX12_years_119 rfl (sx_iload_n dX12_years_122 rfl (sx_iadd dX12_years_123 (sx_iald dX12_years_124 (sx_iast dX12_years_125 (sx_iinc dX12_years_126 rfl (by decide) (sx_goto 103 dX12_years_129 (by decide) ((fun _ _ _ _ _ _ _ _ h => h))))))))))))))))
def B_X12_years_77 (l : Launch) (G : GT) (D mc ms : Nat) (Q : Post) : Cn := ix_aload 0 (ix_getI 12 18 (ix_if_ne ((B_X12_years_132 l G D mc ms Q)) (ix_aload 0 (ix_getR 12 0 (ix_pushI 11 (ix_aload 0 (ix_getR 12 0 (ix_pushI 2387 (ix_iald (ix_iast (ix_pushI 226 (ix_istore 3 (fqAt l G M_X12_years (D + 11) mc ms Q 103)))))))))))))
theorem b_X12_years_77 {l : Launch} {G : GT} {D mc ms : Nat} {Q : Post} : Imp l G M_X12_years (D + 11) mc ms Q (B_X12_years_77 l G D mc ms Q) 77 := sx_aload_n dX12_years_77 rfl (sx_getI dX12_years_78 fl_FootQuarrelModel_145 (fun _ _ _ => rfl) (sx_if_ne 132 dX12_years_81 (by decide) (b_X12_years_132) (sx_aload_n dX12_years_84 rfl (sx_getR dX12_years_85 fl_FootQuarrelModel_7 (fun _ _ _ => rfl) (sx_bipush dX12_years_88 rfl (sx_aload_n dX12_years_90 rfl (sx_getR dX12_years_91 fl_FootQuarrelModel_7 (fun _ _ _ => rfl) (sx_sipush dX12_years_94 rfl (sx_iald dX12_years_97 (sx_iast dX12_years_98 (sx_sipush dX12_years_99 rfl (sx_istore_n dX12_years_102 rfl (by decide) ((fun _ _ _ _ _ _ _ _ h => h))))))))))))))
def B_X12_years_76 (l : Launch) (G : GT) (D mc ms : Nat) (Q : Post) : Cn := ix_popI ((B_X12_years_77 l G D mc ms Q))
theorem b_X12_years_76 {l : Launch} {G : GT} {D mc ms : Nat} {Q : Post} : Imp l G M_X12_years (D + 11) mc ms Q (B_X12_years_76 l G D mc ms Q) 76 := sx_popI dX12_years_76 (b_X12_years_77)
def B_X12_years_57 (l : Launch) (G : GT) (D mc ms : Nat) (Q : Post) : Cn := ix_aload 0 (ix_getI 12 18 (ix_if_ne ((B_X12_years_77 l G D mc ms Q)) (ix_aload 0 (ix_getI 12 22 (ix_if_le ((B_X12_years_77 l G D mc ms Q)) (ix_aload 0 (ix_pushI 2 (ix_vcall 12 2 0 0 mc ms (sp_X12_fails G) ((B_X12_years_76 l G D mc ms Q))))))))))
theorem b_X12_years_57 {l : Launch} {G : GT} {D mc ms : Nat} {Q : Post} : Imp l G M_X12_years (D + 11) mc ms Q (B_X12_years_57 l G D mc ms Q) 57 := sx_aload_n dX12_years_57 rfl (sx_getI dX12_years_58 fl_FootQuarrelModel_145 (fun _ _ _ => rfl) (sx_if_ne 77 dX12_years_61 (by decide) (b_X12_years_77) (sx_aload_n dX12_years_64 rfl (sx_getI dX12_years_65 fl_FootQuarrelModel_232 (fun _ _ _ => rfl) (sx_if_le 77 dX12_years_68 (by decide) (b_X12_years_77) (sx_aload_n dX12_years_71 rfl (sx_iconst dX12_years_72 rfl (sx_vcall dX12_years_73 cf_X12_fails (mg_7 (List.mem_of_getElem? (i := 143) rfl) rfl) (mg_7 (List.mem_of_getElem? (i := 145) rfl) rfl) (mg_p (List.mem_of_getElem? (i := 57) rfl) rfl) rfl c_X12_fails (b_X12_years_76)))))))))
def B_X12_years_53 (l : Launch) (G : GT) (D mc ms : Nat) (Q : Post) : Cn := ix_istore 2 (fqAt l G M_X12_years (D + 11) mc ms Q 38)
theorem b_X12_years_53 {l : Launch} {G : GT} {D mc ms : Nat} {Q : Post} : Imp l G M_X12_years (D + 11) mc ms Q (B_X12_years_53 l G D mc ms Q) 53 := sx_istore_n dX12_years_53 rfl (by decide) (sx_goto 38 dX12_years_54 (by decide) ((fun _ _ _ _ _ _ _ _ h => h)))
def B_X12_years_38 (l : Launch) (G : GT) (D mc ms : Nat) (Q : Post) : Cn := ix_iload 2 (ix_if_eq ((B_X12_years_57 l G D mc ms Q)) (ix_aload 0 (ix_getI 12 12 (ix_if_eq ((B_X12_years_57 l G D mc ms Q)) (ix_aload 0 (ix_vcall 12 1 0 0 mc ms (sp_X12_yearStep G) ((B_X12_years_53 l G D mc ms Q))))))))
theorem b_X12_years_38 {l : Launch} {G : GT} {D mc ms : Nat} {Q : Post} : Imp l G M_X12_years (D + 11) mc ms Q (B_X12_years_38 l G D mc ms Q) 38 := sx_iload_n dX12_years_38 rfl (sx_if_eq 57 dX12_years_39 (by decide) (b_X12_years_57) (sx_aload_n dX12_years_42 rfl (sx_getI dX12_years_43 fl_FootQuarrelModel_120 (fun _ _ _ => rfl) (sx_if_eq 57 dX12_years_46 (by decide) (b_X12_years_57) (sx_aload_n dX12_years_49 rfl (sx_vcall dX12_years_50 cf_X12_yearStep (mg_7 (List.mem_of_getElem? (i := 212) rfl) rfl) (mg_7 (List.mem_of_getElem? (i := 214) rfl) rfl) (mg_p (List.mem_of_getElem? (i := 73) rfl) rfl) rfl c_X12_yearStep (b_X12_years_53)))))))
def B_X12_years_8 (l : Launch) (G : GT) (D mc ms : Nat) (Q : Post) : Cn := ix_if_ne (ix_aload 0 (ix_getR 12 0 (ix_pushI 2387 (ix_pushI 0 (ix_iast (ix_aload 0 (ix_pushI 0 (ix_putI 12 22 (ix_aload 0 (ix_pushI 0 (ix_putI 12 23 (ix_pushI 1 (ix_istore 2 (fqAt l G M_X12_years (D + 11) mc ms Q 38)))))))))))))) (ix_aload 0 (ix_pushI 1 (ix_vcall 12 2 0 0 mc ms (sp_X12_refuse G) (ix_iret mc ms Q))))
theorem b_X12_years_8 {l : Launch} {G : GT} {D mc ms : Nat} {Q : Post} : Imp l G M_X12_years (D + 11) mc ms Q (B_X12_years_8 l G D mc ms Q) 8 := sx_if_ne 17 dX12_years_8 (by decide) (sx_aload_n dX12_years_17 rfl (sx_getR dX12_years_18 fl_FootQuarrelModel_7 (fun _ _ _ => rfl) (sx_sipush dX12_years_21 rfl (sx_iconst dX12_years_24 rfl (sx_iast dX12_years_25 (sx_aload_n dX12_years_26 rfl (sx_iconst dX12_years_27 rfl (sx_putI dX12_years_28 fl_FootQuarrelModel_232 (by decide) (fun _ _ _ => rfl) (fun _ => ⟨rfl, rfl⟩) (sx_aload_n dX12_years_31 rfl (sx_iconst dX12_years_32 rfl (sx_putI dX12_years_33 fl_FootQuarrelModel_235 (by decide) (fun _ _ _ => rfl) (fun _ => ⟨rfl, rfl⟩) (sx_iconst dX12_years_36 rfl (sx_istore_n dX12_years_37 rfl (by decide) ((fun _ _ _ _ _ _ _ _ h => h))))))))))))))) (sx_aload_n dX12_years_11 rfl (sx_iconst dX12_years_12 rfl (sx_vcall dX12_years_13 cf_X12_refuse (mg_7 (List.mem_of_getElem? (i := 128) rfl) rfl) (mg_7 (List.mem_of_getElem? (i := 130) rfl) rfl) (mg_p (List.mem_of_getElem? (i := 54) rfl) rfl) rfl c_X12_refuse (sx_iret dX12_years_16 rfl))))
def B_X12_years_0 (l : Launch) (G : GT) (D mc ms : Nat) (Q : Post) : Cn := ix_aload 0 (ix_iload 1 (ix_pushI 300 (ix_vcall 12 3 0 0 mc ms (sp_X12_begins G) ((B_X12_years_8 l G D mc ms Q)))))
theorem b_X12_years_0 {l : Launch} {G : GT} {D mc ms : Nat} {Q : Post} : Imp l G M_X12_years (D + 11) mc ms Q (B_X12_years_0 l G D mc ms Q) 0 := sx_aload_n dX12_years_0 rfl (sx_iload_n dX12_years_1 rfl (sx_sipush dX12_years_2 rfl (sx_vcall dX12_years_5 cf_X12_begins (mg_7 (List.mem_of_getElem? (i := 108) rfl) rfl) (mg_7 (List.mem_of_getElem? (i := 110) rfl) rfl) (mg_p (List.mem_of_getElem? (i := 51) rfl) rfl) rfl c_X12_begins (b_X12_years_8))))
def pYt (T : Nat → Int32) (n hm pm : Nat) : Nat → YSt → YR
  | 0, y => .inr y
  | f + 1, y => if tK T n y.1.2.2 = 0 then .inr y else match pYs T n hm pm y with
    | .inl x => .inl x
    | .inr y' => pYt T n hm pm f y'
theorem pYt_v {T : Nat → Int32} {n hm pm : Nat} : ∀ f y, yv (pYt T n hm pm f y) := by
  intro f
  induction f with
  | zero => exact fun _ => trivial
  | succ f ih =>
    intro y
    unfold pYt
    split
    · exact yv_i
    · have := pYs_v (T := T) (n := n) (hm := hm) (pm := pm) (y := y)
      generalize pYs T n hm pm y = x at this
      cases x with
      | inl x => exact this
      | inr y' => exact ih y'
