/-! the reference: words -/
def kS : List Nat := [1, 6, 11, 16, 22, 29, 35, 40, 43, 50, 56, 62, 66, 70, 76, 82, 87, 91, 95, 100, 105, 109, 114, 120]
def kL : List Nat := [4, 4, 4, 5, 6, 5, 4, 2, 6, 5, 5, 3, 3, 5, 5, 4, 3, 3, 4, 4, 3, 4, 5, 7]
abbrev kyB (i : Nat) : Int32 := fq_keysB.getD i 0
/-- the token from fr to en is the j-th word -/
abbrev mtP (T : Nat → Int32) (n fr en j : Nat) : Prop := kL.getD j 0 = en - fr ∧ ∀ t, t < kL.getD j 0 → byA T n (fr + t) = kyB (kS.getD j 0 + t)
def kwI (T : Nat → Int32) (n e : Nat) : Int32 := if tK T n e = 2 then fndU (fun j => decide (mtP T n (tF T n e) (tE T n e) j)) 0 24 else -1
theorem kS_in : ∀ j, j < 24 → kS.getD j 0 + kL.getD j 0 < 128 ∧ 1 ≤ kS.getD j 0 ∧ kS.getD (j + 1) 128 = kS.getD j 0 + kL.getD j 0 + 1 ∧ kyB (kS.getD j 0 + kL.getD j 0) = 32 ∧ kL.getD j 0 ≤ 7 := by decide +kernel
theorem kS_ne : ∀ j, j < 24 → ∀ t, t < kL.getD j 0 → ¬ kyB (kS.getD j 0 + t) = 32 := by decide +kernel
theorem kS_lt {j : Nat} (h : j < 24) : kS.getD j 128 = kS.getD j 0 := by
  have : ∀ j, j < 24 → kS.getD j 128 = kS.getD j 0 := by decide +kernel
  exact this j h
theorem dX12_inWords_0 : decode cX12_inWords 0 = .ok (.aload_n 0, 1) := by decide +kernel
theorem dX12_inWords_1 : decode cX12_inWords 1 = .ok (.getfield 120, 3) := by decide +kernel
theorem dX12_inWords_4 : decode cX12_inWords 4 = .ok (.iconst 2, 1) := by decide +kernel
theorem dX12_inWords_5 : decode cX12_inWords 5 = .ok (.if_icmp .eq 5, 3) := by decide +kernel
theorem dX12_inWords_8 : decode cX12_inWords 8 = .ok (.iconst (-1), 1) := by decide +kernel
theorem dX12_inWords_9 : decode cX12_inWords 9 = .ok (.ireturn, 1) := by decide +kernel
theorem dX12_inWords_10 : decode cX12_inWords 10 = .ok (.iconst 0, 1) := by decide +kernel
theorem dX12_inWords_11 : decode cX12_inWords 11 = .ok (.istore_n 2, 1) := by decide +kernel
theorem dX12_inWords_12 : decode cX12_inWords 12 = .ok (.iconst 1, 1) := by decide +kernel
theorem dX12_inWords_13 : decode cX12_inWords 13 = .ok (.istore_n 3, 1) := by decide +kernel
theorem dX12_inWords_14 : decode cX12_inWords 14 = .ok (.iload_n 3, 1) := by decide +kernel
theorem dX12_inWords_15 : decode cX12_inWords 15 = .ok (.aload_n 1, 1) := by decide +kernel
theorem dX12_inWords_16 : decode cX12_inWords 16 = .ok (.invokevirtual 135, 3) := by decide +kernel
theorem dX12_inWords_19 : decode cX12_inWords 19 = .ok (.if_icmp .ge 114, 3) := by decide +kernel
theorem dX12_inWords_22 : decode cX12_inWords 22 = .ok (.iload_n 3, 1) := by decide +kernel
theorem dX12_inWords_23 : decode cX12_inWords 23 = .ok (.istore 4, 2) := by decide +kernel
theorem dX12_inWords_25 : decode cX12_inWords 25 = .ok (.aload_n 1, 1) := by decide +kernel
theorem dX12_inWords_26 : decode cX12_inWords 26 = .ok (.iload 4, 2) := by decide +kernel
theorem dX12_inWords_28 : decode cX12_inWords 28 = .ok (.invokevirtual 141, 3) := by decide +kernel
theorem dX12_inWords_31 : decode cX12_inWords 31 = .ok (.bipush 32, 2) := by decide +kernel
theorem dX12_inWords_33 : decode cX12_inWords 33 = .ok (.if_icmp .eq 9, 3) := by decide +kernel
theorem dX12_inWords_36 : decode cX12_inWords 36 = .ok (.iinc 4 1, 3) := by decide +kernel
theorem dX12_inWords_39 : decode cX12_inWords 39 = .ok (.goto (-14), 3) := by decide +kernel
theorem dX12_inWords_42 : decode cX12_inWords 42 = .ok (.iload 4, 2) := by decide +kernel
theorem dX12_inWords_44 : decode cX12_inWords 44 = .ok (.iload_n 3, 1) := by decide +kernel
theorem dX12_inWords_45 : decode cX12_inWords 45 = .ok (.isub, 1) := by decide +kernel
theorem dX12_inWords_46 : decode cX12_inWords 46 = .ok (.aload_n 0, 1) := by decide +kernel
theorem dX12_inWords_47 : decode cX12_inWords 47 = .ok (.getfield 108, 3) := by decide +kernel
theorem dX12_inWords_50 : decode cX12_inWords 50 = .ok (.aload_n 0, 1) := by decide +kernel
theorem dX12_inWords_51 : decode cX12_inWords 51 = .ok (.getfield 114, 3) := by decide +kernel
theorem dX12_inWords_54 : decode cX12_inWords 54 = .ok (.isub, 1) := by decide +kernel
theorem dX12_inWords_55 : decode cX12_inWords 55 = .ok (.if_icmp .ne 7, 3) := by decide +kernel
theorem dX12_inWords_58 : decode cX12_inWords 58 = .ok (.iconst 1, 1) := by decide +kernel
theorem dX12_inWords_59 : decode cX12_inWords 59 = .ok (.goto 4, 3) := by decide +kernel
theorem dX12_inWords_62 : decode cX12_inWords 62 = .ok (.iconst 0, 1) := by decide +kernel
theorem dX12_inWords_63 : decode cX12_inWords 63 = .ok (.istore 5, 2) := by decide +kernel
theorem dX12_inWords_65 : decode cX12_inWords 65 = .ok (.iload_n 3, 1) := by decide +kernel
theorem dX12_inWords_66 : decode cX12_inWords 66 = .ok (.istore 6, 2) := by decide +kernel
theorem dX12_inWords_68 : decode cX12_inWords 68 = .ok (.iload 6, 2) := by decide +kernel
theorem dX12_inWords_70 : decode cX12_inWords 70 = .ok (.iload 4, 2) := by decide +kernel
theorem dX12_inWords_72 : decode cX12_inWords 72 = .ok (.if_icmp .ge 43, 3) := by decide +kernel
theorem dX12_inWords_75 : decode cX12_inWords 75 = .ok (.iload 5, 2) := by decide +kernel
theorem dX12_inWords_77 : decode cX12_inWords 77 = .ok (.ifCond .eq 38, 3) := by decide +kernel
theorem dX12_inWords_80 : decode cX12_inWords 80 = .ok (.aload_n 1, 1) := by decide +kernel
theorem dX12_inWords_81 : decode cX12_inWords 81 = .ok (.iload 6, 2) := by decide +kernel
theorem dX12_inWords_83 : decode cX12_inWords 83 = .ok (.invokevirtual 141, 3) := by decide +kernel
theorem dX12_inWords_86 : decode cX12_inWords 86 = .ok (.aload_n 0, 1) := by decide +kernel
theorem dX12_inWords_87 : decode cX12_inWords 87 = .ok (.aload_n 0, 1) := by decide +kernel
theorem dX12_inWords_88 : decode cX12_inWords 88 = .ok (.getfield 114, 3) := by decide +kernel
theorem dX12_inWords_91 : decode cX12_inWords 91 = .ok (.iload 6, 2) := by decide +kernel
theorem dX12_inWords_93 : decode cX12_inWords 93 = .ok (.iadd, 1) := by decide +kernel
theorem dX12_inWords_94 : decode cX12_inWords 94 = .ok (.iload_n 3, 1) := by decide +kernel
theorem dX12_inWords_95 : decode cX12_inWords 95 = .ok (.isub, 1) := by decide +kernel
theorem dX12_inWords_96 : decode cX12_inWords 96 = .ok (.invokevirtual 111, 3) := by decide +kernel
theorem dX12_inWords_99 : decode cX12_inWords 99 = .ok (.if_icmp .ne 7, 3) := by decide +kernel
theorem dX12_inWords_102 : decode cX12_inWords 102 = .ok (.iconst 1, 1) := by decide +kernel
theorem dX12_inWords_103 : decode cX12_inWords 103 = .ok (.goto 4, 3) := by decide +kernel
theorem dX12_inWords_106 : decode cX12_inWords 106 = .ok (.iconst 0, 1) := by decide +kernel
theorem dX12_inWords_107 : decode cX12_inWords 107 = .ok (.istore 5, 2) := by decide +kernel
theorem dX12_inWords_109 : decode cX12_inWords 109 = .ok (.iinc 6 1, 3) := by decide +kernel
theorem dX12_inWords_112 : decode cX12_inWords 112 = .ok (.goto (-44), 3) := by decide +kernel
theorem dX12_inWords_115 : decode cX12_inWords 115 = .ok (.iload 5, 2) := by decide +kernel
theorem dX12_inWords_117 : decode cX12_inWords 117 = .ok (.ifCond .eq 5, 3) := by decide +kernel
theorem dX12_inWords_120 : decode cX12_inWords 120 = .ok (.iload_n 2, 1) := by decide +kernel
theorem dX12_inWords_121 : decode cX12_inWords 121 = .ok (.ireturn, 1) := by decide +kernel
theorem dX12_inWords_122 : decode cX12_inWords 122 = .ok (.iinc 2 1, 3) := by decide +kernel
theorem dX12_inWords_125 : decode cX12_inWords 125 = .ok (.iload 4, 2) := by decide +kernel
theorem dX12_inWords_127 : decode cX12_inWords 127 = .ok (.iconst 1, 1) := by decide +kernel
theorem dX12_inWords_128 : decode cX12_inWords 128 = .ok (.iadd, 1) := by decide +kernel
theorem dX12_inWords_129 : decode cX12_inWords 129 = .ok (.istore_n 3, 1) := by decide +kernel
theorem dX12_inWords_130 : decode cX12_inWords 130 = .ok (.goto (-116), 3) := by decide +kernel
theorem dX12_inWords_133 : decode cX12_inWords 133 = .ok (.iconst (-1), 1) := by decide +kernel
theorem dX12_inWords_134 : decode cX12_inWords 134 = .ok (.ireturn, 1) := by decide +kernel
abbrev M_X12_inWords : MT := (yX12_inWords, cX12_inWords, 7, (some .int))
theorem cf_X12_inWords : fq_cf M_X12_inWords 1 := ⟨(mg_1 (List.mem_of_getElem? (i := 15) rfl) rfl), (mg_7 (List.mem_of_getElem? (i := 140) rfl) rfl), ⟨by decide, by decide, by decide +kernel⟩, by decide⟩
def B_X12_inWords_115 (l : Launch) (G : GT) (D mc ms : Nat) (Q : Post) : Cn := ix_iload 5 (ix_if_eq (ix_iinc 2 1 (ix_iload 4 (ix_pushI 1 (ix_iadd (ix_istore 3 (fqAt l G M_X12_inWords (D + 4) mc ms Q 14)))))) (ix_iload 2 (ix_iret mc ms Q)))
theorem b_X12_inWords_115 {l : Launch} {G : GT} {D mc ms : Nat} {Q : Post} : Imp l G M_X12_inWords (D + 4) mc ms Q (B_X12_inWords_115 l G D mc ms Q) 115 := sx_iload dX12_inWords_115 (sx_if_eq 122 dX12_inWords_117 (by decide) (sx_iinc dX12_inWords_122 rfl (by decide) (sx_iload dX12_inWords_125 (sx_iconst dX12_inWords_127 rfl (sx_iadd dX12_inWords_128 (sx_istore_n dX12_inWords_129 rfl (by decide) (sx_goto 14 dX12_inWords_130 (by decide) ((fun _ _ _ _ _ _ _ _ h => h)))))))) (sx_iload_n dX12_inWords_120 rfl (sx_iret dX12_inWords_121 rfl)))
def B_X12_inWords_107 (l : Launch) (G : GT) (D mc ms : Nat) (Q : Post) : Cn := ix_istore 5 (ix_iinc 6 1 (fqAt l G M_X12_inWords (D + 4) mc ms Q 68))
theorem b_X12_inWords_107 {l : Launch} {G : GT} {D mc ms : Nat} {Q : Post} : Imp l G M_X12_inWords (D + 4) mc ms Q (B_X12_inWords_107 l G D mc ms Q) 107 := sx_istore dX12_inWords_107 (by decide) (sx_iinc dX12_inWords_109 rfl (by decide) (sx_goto 68 dX12_inWords_112 (by decide) ((fun _ _ _ _ _ _ _ _ h => h))))
def B_X12_inWords_68 (l : Launch) (G : GT) (D mc ms : Nat) (Q : Post) : Cn := ix_iload 6 (ix_iload 4 (ix_icmp_ge ((B_X12_inWords_115 l G D mc ms Q)) (ix_iload 5 (ix_if_eq ((B_X12_inWords_115 l G D mc ms Q)) (ix_aload 1 (ix_iload 6 (ix_strc G 2 mc ms (sp_J0_charAt_5068e G) (ix_aload 0 (ix_aload 0 (ix_getI 12 13 (ix_iload 6 (ix_iadd (ix_iload 3 (ix_isub (ix_vcall 12 2 0 0 mc ms (sp_X12_byteAt G) (ix_icmp_ne (ix_pushI 0 ((B_X12_inWords_107 l G D mc ms Q))) (ix_pushI 1 ((B_X12_inWords_107 l G D mc ms Q)))))))))))))))))))
theorem b_X12_inWords_68 {l : Launch} {G : GT} {D mc ms : Nat} {Q : Post} : Imp l G M_X12_inWords (D + 4) mc ms Q (B_X12_inWords_68 l G D mc ms Q) 68 := sx_iload dX12_inWords_68 (sx_iload dX12_inWords_70 (sx_icmp_ge 115 dX12_inWords_72 (by decide) (b_X12_inWords_115) (sx_iload dX12_inWords_75 (sx_if_eq 115 dX12_inWords_77 (by decide) (b_X12_inWords_115) (sx_aload_n dX12_inWords_80 rfl (sx_iload dX12_inWords_81 (sx_strc dX12_inWords_83 cf_J0_charAt_5068e (mg_7 (List.mem_of_getElem? (i := 142) rfl) rfl) (mg_1 (List.mem_of_getElem? (i := 68) rfl) rfl) (mg_1 (List.mem_of_getElem? (i := 69) rfl) rfl) c_J0_charAt_5068e (sx_aload_n dX12_inWords_86 rfl (sx_aload_n dX12_inWords_87 rfl (sx_getI dX12_inWords_88 fl_FootQuarrelModel_114 (fun _ _ _ => rfl) (sx_iload dX12_inWords_91 (sx_iadd dX12_inWords_93 (sx_iload_n dX12_inWords_94 rfl (sx_isub dX12_inWords_95 (sx_vcall dX12_inWords_96 cf_X12_byteAt (mg_7 (List.mem_of_getElem? (i := 116) rfl) rfl) (mg_7 (List.mem_of_getElem? (i := 118) rfl) rfl) (mg_p (List.mem_of_getElem? (i := 53) rfl) rfl) rfl c_X12_byteAt (sx_icmp_ne 106 dX12_inWords_99 (by decide) (sx_iconst dX12_inWords_106 rfl (b_X12_inWords_107)) (sx_iconst dX12_inWords_102 rfl (sx_goto 107 dX12_inWords_103 (by decide) (b_X12_inWords_107)))))))))))))))))))
def B_X12_inWords_63 (l : Launch) (G : GT) (D mc ms : Nat) (Q : Post) : Cn := ix_istore 5 (ix_iload 3 (ix_istore 6 (fqAt l G M_X12_inWords (D + 4) mc ms Q 68)))
theorem b_X12_inWords_63 {l : Launch} {G : GT} {D mc ms : Nat} {Q : Post} : Imp l G M_X12_inWords (D + 4) mc ms Q (B_X12_inWords_63 l G D mc ms Q) 63 := sx_istore dX12_inWords_63 (by decide) (sx_iload_n dX12_inWords_65 rfl (sx_istore dX12_inWords_66 (by decide) ((fun _ _ _ _ _ _ _ _ h => h))))
def B_X12_inWords_42 (l : Launch) (G : GT) (D mc ms : Nat) (Q : Post) : Cn := ix_iload 4 (ix_iload 3 (ix_isub (ix_aload 0 (ix_getI 12 14 (ix_aload 0 (ix_getI 12 13 (ix_isub (ix_icmp_ne (ix_pushI 0 ((B_X12_inWords_63 l G D mc ms Q))) (ix_pushI 1 ((B_X12_inWords_63 l G D mc ms Q)))))))))))
theorem b_X12_inWords_42 {l : Launch} {G : GT} {D mc ms : Nat} {Q : Post} : Imp l G M_X12_inWords (D + 4) mc ms Q (B_X12_inWords_42 l G D mc ms Q) 42 := sx_iload dX12_inWords_42 (sx_iload_n dX12_inWords_44 rfl (sx_isub dX12_inWords_45 (sx_aload_n dX12_inWords_46 rfl (sx_getI dX12_inWords_47 fl_FootQuarrelModel_108 (fun _ _ _ => rfl) (sx_aload_n dX12_inWords_50 rfl (sx_getI dX12_inWords_51 fl_FootQuarrelModel_114 (fun _ _ _ => rfl) (sx_isub dX12_inWords_54 (sx_icmp_ne 62 dX12_inWords_55 (by decide) (sx_iconst dX12_inWords_62 rfl (b_X12_inWords_63)) (sx_iconst dX12_inWords_58 rfl (sx_goto 63 dX12_inWords_59 (by decide) (b_X12_inWords_63)))))))))))
def B_X12_inWords_25 (l : Launch) (G : GT) (D mc ms : Nat) (Q : Post) : Cn := ix_aload 1 (ix_iload 4 (ix_strc G 2 mc ms (sp_J0_charAt_5068e G) (ix_pushI 32 (ix_icmp_eq ((B_X12_inWords_42 l G D mc ms Q)) (ix_iinc 4 1 (fqAt l G M_X12_inWords (D + 4) mc ms Q 25))))))
theorem b_X12_inWords_25 {l : Launch} {G : GT} {D mc ms : Nat} {Q : Post} : Imp l G M_X12_inWords (D + 4) mc ms Q (B_X12_inWords_25 l G D mc ms Q) 25 := sx_aload_n dX12_inWords_25 rfl (sx_iload dX12_inWords_26 (sx_strc dX12_inWords_28 cf_J0_charAt_5068e (mg_7 (List.mem_of_getElem? (i := 142) rfl) rfl) (mg_1 (List.mem_of_getElem? (i := 68) rfl) rfl) (mg_1 (List.mem_of_getElem? (i := 69) rfl) rfl) c_J0_charAt_5068e (sx_bipush dX12_inWords_31 rfl (sx_icmp_eq 42 dX12_inWords_33 (by decide) (b_X12_inWords_42) (sx_iinc dX12_inWords_36 rfl (by decide) (sx_goto 25 dX12_inWords_39 (by decide) ((fun _ _ _ _ _ _ _ _ h => h))))))))
def B_X12_inWords_14 (l : Launch) (G : GT) (D mc ms : Nat) (Q : Post) : Cn := ix_iload 3 (ix_aload 1 (ix_strc G 1 mc ms (sp_J0_length_8abf5 G) (ix_icmp_ge (ix_pushI (-1) (ix_iret mc ms Q)) (ix_iload 3 (ix_istore 4 (fqAt l G M_X12_inWords (D + 4) mc ms Q 25))))))
theorem b_X12_inWords_14 {l : Launch} {G : GT} {D mc ms : Nat} {Q : Post} : Imp l G M_X12_inWords (D + 4) mc ms Q (B_X12_inWords_14 l G D mc ms Q) 14 := sx_iload_n dX12_inWords_14 rfl (sx_aload_n dX12_inWords_15 rfl (sx_strc dX12_inWords_16 cf_J0_length_8abf5 (mg_7 (List.mem_of_getElem? (i := 141) rfl) rfl) (mg_1 (List.mem_of_getElem? (i := 58) rfl) rfl) (mg_1 (List.mem_of_getElem? (i := 59) rfl) rfl) c_J0_length_8abf5 (sx_icmp_ge 133 dX12_inWords_19 (by decide) (sx_iconst dX12_inWords_133 rfl (sx_iret dX12_inWords_134 rfl)) (sx_iload_n dX12_inWords_22 rfl (sx_istore dX12_inWords_23 (by decide) ((fun _ _ _ _ _ _ _ _ h => h)))))))
def B_X12_inWords_0 (l : Launch) (G : GT) (D mc ms : Nat) (Q : Post) : Cn := ix_aload 0 (ix_getI 12 12 (ix_pushI 2 (ix_icmp_eq (ix_pushI 0 (ix_istore 2 (ix_pushI 1 (ix_istore 3 (fqAt l G M_X12_inWords (D + 4) mc ms Q 14))))) (ix_pushI (-1) (ix_iret mc ms Q)))))
theorem b_X12_inWords_0 {l : Launch} {G : GT} {D mc ms : Nat} {Q : Post} : Imp l G M_X12_inWords (D + 4) mc ms Q (B_X12_inWords_0 l G D mc ms Q) 0 := sx_aload_n dX12_inWords_0 rfl (sx_getI dX12_inWords_1 fl_FootQuarrelModel_120 (fun _ _ _ => rfl) (sx_iconst dX12_inWords_4 rfl (sx_icmp_eq 10 dX12_inWords_5 (by decide) (sx_iconst dX12_inWords_10 rfl (sx_istore_n dX12_inWords_11 rfl (by decide) (sx_iconst dX12_inWords_12 rfl (sx_istore_n dX12_inWords_13 rfl (by decide) ((fun _ _ _ _ _ _ _ _ h => h)))))) (sx_iconst dX12_inWords_8 rfl (sx_iret dX12_inWords_9 rfl)))))
def sp_X12_inWords (G : GT) : Sp := fun as S I J z Q => match as with
  | [.ref M, .ref s] => rfS S M ∧ s = G.2.2.2 5 ∧ ∃ n e, n ≤ 900 ∧ e ≤ n ∧ tkH M I n e ∧ Q (some (.int (kwI (I (M + 7)) n e))) S I J z
  | _ => False
theorem tFE {T : Nat → Int32} {n e : Nat} (h : e ≤ n) : e ≤ tF T n e ∧ tF T n e ≤ n ∧ tF T n e ≤ tE T n e ∧ tE T n e ≤ n := by
  have h1 := scX_le (p := fun c => decide (isBl c)) (T := T) h
  have hF : e ≤ tF T n e ∧ tF T n e ≤ n := h1
  refine ⟨hF.1, hF.2, ?_⟩
  have h2 := scX_le (p := fun c => decide (isSm c)) (T := T) hF.2
  have h3 := scX_le (p := fun c => decide (isDg c)) (T := T) hF.2
  unfold tE
  split
  · exact ⟨Nat.le_refl _, hF.2⟩
  · next hc =>
    split
    · exact h2
    · split
      · exact h3
      · have : tF T n e < n := by
          rcases Nat.lt_or_ge (tF T n e) n with h | h
          · exact h
          · exact absurd (byA_o h) hc
        omega
set_option maxHeartbeats 4000000 in
set_option maxRecDepth 20000 in
theorem c_X12_inWords {l : Launch} {G : GT} {D : Nat} : ∀ as S I J z Q, sp_X12_inWords G as S I J z Q → fqCall l G M_X12_inWords (D + 4) 0 0 as S I J z Q := by
  intro as S I J z Q h
  unfold sp_X12_inWords at h
  split at h
  · next M s =>
    obtain ⟨hm, rfl, n, e, hn, he, hT, hQ⟩ := h
    obtain ⟨t11, t12, t13, t14, t15⟩ := hT
    obtain ⟨b1, b2, b3, b4⟩ := tFE (T := I (M + 7)) he
    unfold kwI at hQ
    by_cases hk : tK (I (M + 7)) n e = 2
    · rw [if_pos hk] at hQ
      rw [hk] at t12
      generalize tF (I (M + 7)) n e = fr at *
      generalize tE (I (M + 7)) n e = en at *
      have dl : nI en - nI fr = nI (en - fr) := nI_s _ _ b3
      have st1 : ∃ j, j < 2 ∧ G.2.2.2 5 = G.2.2.2 (4 + j) := ⟨1, by decide, rfl⟩
      have lo := loopF (N := 24) (p := fun j => decide (mtP (I (M + 7)) n fr en j)) (R := fun v => Q (some (.int v)) S I J z) (B := fun j => ∀ o4 o5 o6 : Option Value, fqAt l G M_X12_inWords (D + 4) 0 0 Q 14 [some (.ref M), some (.ref (G.2.2.2 5)), some (.int (nI j)), some (.int (nI (kS.getD j 128))), o4, o5, o6] [] S I J z 0 0) (by
        intro j hj h1 h2 o4 o5 o6
        obtain ⟨c1, c2, c3, c4, c5⟩ := kS_in j hj
        have cn := kS_ne j hj
        rw [c3] at h2
        rw [kS_lt hj]
        have g1 : mtP (I (M + 7)) n fr en j → Q (some (.int (nI j))) S I J z := fun q => h1 (decide_eq_true q)
        have g2 := fun q : ¬ mtP (I (M + 7)) n fr en j => h2 (decide_eq_false q)
        clear h1 h2
        unfold mtP at g1 g2
        generalize kS.getD j 0 = k at *
        generalize kL.getD j 0 = m at *
        have d1 : ∀ i, nI (k + i) - nI k = nI i := fun i => by rw [nI_s _ _ (by omega), show k + i - k = i by omega]
        have x115 : ∀ (b : Int32) (o6 : Option Value), (b = 1 ∧ (m = en - fr ∧ ∀ t, t < m → byA (I (M + 7)) n (fr + t) = kyB (k + t))) ∨ (b = 0 ∧ ¬ (m = en - fr ∧ ∀ t, t < m → byA (I (M + 7)) n (fr + t) = kyB (k + t))) → B_X12_inWords_115 l G D 0 0 Q [some (.ref M), some (.ref (G.2.2.2 5)), some (.int (nI j)), some (.int (nI k)), some (.int (nI (k + m))), some (.int b), o6] [] S I J z 0 0 := by
          intro b o6 hb
          simp (disch := omega) only [B_X12_inWords_115, nI_1, nI_add, nI_clamp, nI_pin, nI_neg, nI_nonneg, nI_leE, nI_ltE, nI_eqE, Nat.not_le, Nat.not_lt, fq_10, fq_01, fq_rr, ix_aald, ix_aast, ix_abs, ix_alen, ix_aload, ix_aret, ix_astore, ix_bald, ix_bast, ix_call, ix_cpyI, ix_cpyJ, ix_dead, ix_dup2, ix_dup2L, ix_dupI, ix_dupR, ix_dupx1, ix_getI, ix_getJ, ix_getR, ix_gfm, ix_gtab, ix_i2b, ix_i2c, ix_i2l, ix_i2s, ix_iadd, ix_iald, ix_iand, ix_iast, ix_icall, ix_icmp_eq, ix_icmp_ge, ix_icmp_gt, ix_icmp_le, ix_icmp_lt, ix_icmp_ne, ix_idiv, ix_if_eq, ix_if_ge, ix_if_gt, ix_if_le, ix_if_lt, ix_if_ne, ix_iinc, ix_iload, ix_imul, ix_ineg, ix_ior, ix_irem, ix_iret, ix_ishl, ix_ishr, ix_istore, ix_isub, ix_iushr, ix_ixor, ix_l2i, ix_ladd, ix_lald, ix_land, ix_last, ix_lcmp, ix_ldcS, ix_ldiv, ix_lload, ix_lmul, ix_lor, ix_lrem, ix_lret, ix_lshl, ix_lstore, ix_lsub, ix_lsw, ix_max, ix_min, ix_new, ix_newa, ix_nret, ix_oinit, ix_pop2L, ix_popI, ix_pushI, ix_pushL, ix_putI, ix_putJ, ix_putR, ix_putZ, ix_sbald, ix_sgetC, ix_sgetV, ix_slen, ix_strc, ix_tald, ix_tsw, ix_vcall, ix_vret, ix_zret, stL, stL2, kilL, popN, fq_sw, fq_lsw, List.map_cons, List.map_nil, List.getElem?_cons_zero, List.getElem?_cons_succ, Option.toList_some, Option.toList_none, List.cons_append, List.nil_append, List.length_cons, List.length_nil, List.sum_cons, List.sum_nil, cat_i, cat_l, cat_r, true_and, and_true, Nat.zero_add, Nat.add_zero, Nat.le_refl, Nat.zero_le, Nat.reduceAdd, Nat.reduceLeDiff, exists_eq_left', Option.some.injEq, not_true_eq_false, not_false_eq_true, false_implies, true_implies, implies_true, and_self, or_true, true_or, or_false, false_or]
          rcases hb with ⟨rfl, hb⟩ | ⟨rfl, hb⟩
          · exact ⟨fun h => absurd h (by decide), fun _ => g1 hb⟩
          · exact ⟨fun _ => g2 hb _ _ _, fun h => absurd rfl h⟩
        have lp68 : ∀ (c i : Nat) (b : Int32), i + c = m → (b = 1 ∧ m = en - fr ∧ ∀ t, t < i → byA (I (M + 7)) n (fr + t) = kyB (k + t)) ∨ (b = 0 ∧ ¬ (m = en - fr ∧ ∀ t, t < m → byA (I (M + 7)) n (fr + t) = kyB (k + t))) → fqAt l G M_X12_inWords (D + 4) 0 0 Q 68 [some (.ref M), some (.ref (G.2.2.2 5)), some (.int (nI j)), some (.int (nI k)), some (.int (nI (k + m))), some (.int b), some (.int (nI (k + i)))] [] S I J z 0 0 := by
          intro c
          induction c with
          | zero =>
            intro i b hi hb
            obtain rfl : i = m := by omega
            have hz := x115 b (some (.int (nI (k + i)))) hb
            refine b_X12_inWords_68 _ _ _ _ _ _ _ _ ?_
            simp (disch := omega) only [B_X12_inWords_0, B_X12_inWords_14, B_X12_inWords_25, B_X12_inWords_63, B_X12_inWords_68, sp_J0_length_8abf5, sp_J0_charAt_5068e, sp_X12_byteAt, hm, hm.k, hm.k1, hm.n1, hm.r1, hm.k2, hm.n2, hm.r2, hm.k3, hm.n3, hm.r3, hm.k4, hm.n4, hm.r4, hm.k5, hm.n5, hm.r5, hm.k6, hm.n6, hm.r6, hm.k7, hm.n7, hm.r7, hm.k8, hm.n8, hm.r8, hm.k9, hm.n9, hm.r9, hm.k10, hm.n10, hm.r10, hm.k11, hm.n11, hm.r11, hm.k12, hm.n12, hm.r12, hm.k13, hm.n13, hm.r13, hm.k14, hm.n14, hm.r14, nI_1, nI_add, nI_clamp, nI_pin, nI_neg, nI_nonneg, nI_leE, nI_ltE, nI_eqE, Nat.not_le, Nat.not_lt, fq_10, fq_01, fq_rr, ix_aald, ix_aast, ix_abs, ix_alen, ix_aload, ix_aret, ix_astore, ix_bald, ix_bast, ix_call, ix_cpyI, ix_cpyJ, ix_dead, ix_dup2, ix_dup2L, ix_dupI, ix_dupR, ix_dupx1, ix_getI, ix_getJ, ix_getR, ix_gfm, ix_gtab, ix_i2b, ix_i2c, ix_i2l, ix_i2s, ix_iadd, ix_iald, ix_iand, ix_iast, ix_icall, ix_icmp_eq, ix_icmp_ge, ix_icmp_gt, ix_icmp_le, ix_icmp_lt, ix_icmp_ne, ix_idiv, ix_if_eq, ix_if_ge, ix_if_gt, ix_if_le, ix_if_lt, ix_if_ne, ix_iinc, ix_iload, ix_imul, ix_ineg, ix_ior, ix_irem, ix_iret, ix_ishl, ix_ishr, ix_istore, ix_isub, ix_iushr, ix_ixor, ix_l2i, ix_ladd, ix_lald, ix_land, ix_last, ix_lcmp, ix_ldcS, ix_ldiv, ix_lload, ix_lmul, ix_lor, ix_lrem, ix_lret, ix_lshl, ix_lstore, ix_lsub, ix_lsw, ix_max, ix_min, ix_new, ix_newa, ix_nret, ix_oinit, ix_pop2L, ix_popI, ix_pushI, ix_pushL, ix_putI, ix_putJ, ix_putR, ix_putZ, ix_sbald, ix_sgetC, ix_sgetV, ix_slen, ix_strc, ix_tald, ix_tsw, ix_vcall, ix_vret, ix_zret, stL, stL2, kilL, popN, fq_sw, fq_lsw, List.map_cons, List.map_nil, List.getElem?_cons_zero, List.getElem?_cons_succ, Option.toList_some, Option.toList_none, List.cons_append, List.nil_append, List.length_cons, List.length_nil, List.sum_cons, List.sum_nil, cat_i, cat_l, cat_r, true_and, and_true, Nat.zero_add, Nat.add_zero, Nat.le_refl, Nat.zero_le, Nat.reduceAdd, Nat.reduceLeDiff, exists_eq_left', Option.some.injEq, not_true_eq_false, not_false_eq_true, false_implies, true_implies, implies_true, and_self, or_true, true_or, or_false, false_or]
            exact hz
          | succ c ih =>
            intro i b hi hb
            rcases hb with ⟨rfl, hb⟩ | ⟨rfl, hb⟩
            · have hfi : fr + i ≤ 900 := by omega
              have d2 : nI (fr + (k + i)) - nI k = nI (fr + i) := by rw [nI_s _ _ (by omega), show fr + (k + i) - k = fr + i by omega]
              have v1 : ((fq_sb.getD 1 []).getD (nI (k + i)).toNatClampNeg 0 : Int32) = kyB (k + i) := by rw [nI_clamp (by omega)]; rfl
              refine b_X12_inWords_68 _ _ _ _ _ _ _ _ ?_
              simp (disch := omega) only [B_X12_inWords_0, B_X12_inWords_14, B_X12_inWords_25, B_X12_inWords_63, B_X12_inWords_68, sp_J0_length_8abf5, sp_J0_charAt_5068e, sp_X12_byteAt, hm, hm.k, hm.k1, hm.n1, hm.r1, hm.k2, hm.n2, hm.r2, hm.k3, hm.n3, hm.r3, hm.k4, hm.n4, hm.r4, hm.k5, hm.n5, hm.r5, hm.k6, hm.n6, hm.r6, hm.k7, hm.n7, hm.r7, hm.k8, hm.n8, hm.r8, hm.k9, hm.n9, hm.r9, hm.k10, hm.n10, hm.r10, hm.k11, hm.n11, hm.r11, hm.k12, hm.n12, hm.r12, hm.k13, hm.n13, hm.r13, hm.k14, hm.n14, hm.r14, nI_1, nI_add, nI_clamp, nI_pin, nI_neg, nI_nonneg, nI_leE, nI_ltE, nI_eqE, Nat.not_le, Nat.not_lt, fq_10, fq_01, fq_rr, ix_aald, ix_aast, ix_abs, ix_alen, ix_aload, ix_aret, ix_astore, ix_bald, ix_bast, ix_call, ix_cpyI, ix_cpyJ, ix_dead, ix_dup2, ix_dup2L, ix_dupI, ix_dupR, ix_dupx1, ix_getI, ix_getJ, ix_getR, ix_gfm, ix_gtab, ix_i2b, ix_i2c, ix_i2l, ix_i2s, ix_iadd, ix_iald, ix_iand, ix_iast, ix_icall, ix_icmp_eq, ix_icmp_ge, ix_icmp_gt, ix_icmp_le, ix_icmp_lt, ix_icmp_ne, ix_idiv, ix_if_eq, ix_if_ge, ix_if_gt, ix_if_le, ix_if_lt, ix_if_ne, ix_iinc, ix_iload, ix_imul, ix_ineg, ix_ior, ix_irem, ix_iret, ix_ishl, ix_ishr, ix_istore, ix_isub, ix_iushr, ix_ixor, ix_l2i, ix_ladd, ix_lald, ix_land, ix_last, ix_lcmp, ix_ldcS, ix_ldiv, ix_lload, ix_lmul, ix_lor, ix_lrem, ix_lret, ix_lshl, ix_lstore, ix_lsub, ix_lsw, ix_max, ix_min, ix_new, ix_newa, ix_nret, ix_oinit, ix_pop2L, ix_popI, ix_pushI, ix_pushL, ix_putI, ix_putJ, ix_putR, ix_putZ, ix_sbald, ix_sgetC, ix_sgetV, ix_slen, ix_strc, ix_tald, ix_tsw, ix_vcall, ix_vret, ix_zret, stL, stL2, kilL, popN, fq_sw, fq_lsw, List.map_cons, List.map_nil, List.getElem?_cons_zero, List.getElem?_cons_succ, Option.toList_some, Option.toList_none, List.cons_append, List.nil_append, List.length_cons, List.length_nil, List.sum_cons, List.sum_nil, cat_i, cat_l, cat_r, true_and, and_true, Nat.zero_add, Nat.add_zero, Nat.le_refl, Nat.zero_le, Nat.reduceAdd, Nat.reduceLeDiff, exists_eq_left', Option.some.injEq, not_true_eq_false, not_false_eq_true, false_implies, true_implies, implies_true, and_self, or_true, true_or, or_false, false_or]
              refine ⟨fun h => absurd h (by omega), fun _ => ⟨st1, 1, by decide, rfl, vp_in_nI (by show k + i < 128; omega) (by decide), ?_⟩⟩
              simp (disch := omega) only [nI_add, d2, t11, t13, okE, v1, true_and, nI_1, nI_add, nI_clamp, nI_pin, nI_neg, nI_nonneg, nI_leE, nI_ltE, nI_eqE, Nat.not_le, Nat.not_lt, fq_10, fq_01, fq_rr]
              simp (disch := omega) only [B_X12_inWords_107, nI_1, nI_add, nI_clamp, nI_pin, nI_neg, nI_nonneg, nI_leE, nI_ltE, nI_eqE, Nat.not_le, Nat.not_lt, fq_10, fq_01, fq_rr, ix_aald, ix_aast, ix_abs, ix_alen, ix_aload, ix_aret, ix_astore, ix_bald, ix_bast, ix_call, ix_cpyI, ix_cpyJ, ix_dead, ix_dup2, ix_dup2L, ix_dupI, ix_dupR, ix_dupx1, ix_getI, ix_getJ, ix_getR, ix_gfm, ix_gtab, ix_i2b, ix_i2c, ix_i2l, ix_i2s, ix_iadd, ix_iald, ix_iand, ix_iast, ix_icall, ix_icmp_eq, ix_icmp_ge, ix_icmp_gt, ix_icmp_le, ix_icmp_lt, ix_icmp_ne, ix_idiv, ix_if_eq, ix_if_ge, ix_if_gt, ix_if_le, ix_if_lt, ix_if_ne, ix_iinc, ix_iload, ix_imul, ix_ineg, ix_ior, ix_irem, ix_iret, ix_ishl, ix_ishr, ix_istore, ix_isub, ix_iushr, ix_ixor, ix_l2i, ix_ladd, ix_lald, ix_land, ix_last, ix_lcmp, ix_ldcS, ix_ldiv, ix_lload, ix_lmul, ix_lor, ix_lrem, ix_lret, ix_lshl, ix_lstore, ix_lsub, ix_lsw, ix_max, ix_min, ix_new, ix_newa, ix_nret, ix_oinit, ix_pop2L, ix_popI, ix_pushI, ix_pushL, ix_putI, ix_putJ, ix_putR, ix_putZ, ix_sbald, ix_sgetC, ix_sgetV, ix_slen, ix_strc, ix_tald, ix_tsw, ix_vcall, ix_vret, ix_zret, stL, stL2, kilL, popN, fq_sw, fq_lsw, List.map_cons, List.map_nil, List.getElem?_cons_zero, List.getElem?_cons_succ, Option.toList_some, Option.toList_none, List.cons_append, List.nil_append, List.length_cons, List.length_nil, List.sum_cons, List.sum_nil, cat_i, cat_l, cat_r, true_and, and_true, Nat.zero_add, Nat.add_zero, Nat.le_refl, Nat.zero_le, Nat.reduceAdd, Nat.reduceLeDiff, exists_eq_left', Option.some.injEq, not_true_eq_false, not_false_eq_true, false_implies, true_implies, implies_true, and_self, or_true, true_or, or_false, false_or]
              refine ⟨fun h => ih (i + 1) 0 (by omega) (Or.inr ⟨rfl, fun q => h (q.2 i (by omega)).symm⟩), fun h => ih (i + 1) 1 (by omega) (Or.inl ⟨rfl, hb.1, fun t ht => ?_⟩)⟩
              by_cases e1 : t = i
              · rw [e1]
                exact h.symm
              · exact hb.2 t (by omega)
            · have hz := x115 0 (some (.int (nI (k + i)))) (Or.inr ⟨rfl, hb⟩)
              refine b_X12_inWords_68 _ _ _ _ _ _ _ _ ?_
              simp (disch := omega) only [B_X12_inWords_0, B_X12_inWords_14, B_X12_inWords_25, B_X12_inWords_63, B_X12_inWords_68, sp_J0_length_8abf5, sp_J0_charAt_5068e, sp_X12_byteAt, hm, hm.k, hm.k1, hm.n1, hm.r1, hm.k2, hm.n2, hm.r2, hm.k3, hm.n3, hm.r3, hm.k4, hm.n4, hm.r4, hm.k5, hm.n5, hm.r5, hm.k6, hm.n6, hm.r6, hm.k7, hm.n7, hm.r7, hm.k8, hm.n8, hm.r8, hm.k9, hm.n9, hm.r9, hm.k10, hm.n10, hm.r10, hm.k11, hm.n11, hm.r11, hm.k12, hm.n12, hm.r12, hm.k13, hm.n13, hm.r13, hm.k14, hm.n14, hm.r14, nI_1, nI_add, nI_clamp, nI_pin, nI_neg, nI_nonneg, nI_leE, nI_ltE, nI_eqE, Nat.not_le, Nat.not_lt, fq_10, fq_01, fq_rr, ix_aald, ix_aast, ix_abs, ix_alen, ix_aload, ix_aret, ix_astore, ix_bald, ix_bast, ix_call, ix_cpyI, ix_cpyJ, ix_dead, ix_dup2, ix_dup2L, ix_dupI, ix_dupR, ix_dupx1, ix_getI, ix_getJ, ix_getR, ix_gfm, ix_gtab, ix_i2b, ix_i2c, ix_i2l, ix_i2s, ix_iadd, ix_iald, ix_iand, ix_iast, ix_icall, ix_icmp_eq, ix_icmp_ge, ix_icmp_gt, ix_icmp_le, ix_icmp_lt, ix_icmp_ne, ix_idiv, ix_if_eq, ix_if_ge, ix_if_gt, ix_if_le, ix_if_lt, ix_if_ne, ix_iinc, ix_iload, ix_imul, ix_ineg, ix_ior, ix_irem, ix_iret, ix_ishl, ix_ishr, ix_istore, ix_isub, ix_iushr, ix_ixor, ix_l2i, ix_ladd, ix_lald, ix_land, ix_last, ix_lcmp, ix_ldcS, ix_ldiv, ix_lload, ix_lmul, ix_lor, ix_lrem, ix_lret, ix_lshl, ix_lstore, ix_lsub, ix_lsw, ix_max, ix_min, ix_new, ix_newa, ix_nret, ix_oinit, ix_pop2L, ix_popI, ix_pushI, ix_pushL, ix_putI, ix_putJ, ix_putR, ix_putZ, ix_sbald, ix_sgetC, ix_sgetV, ix_slen, ix_strc, ix_tald, ix_tsw, ix_vcall, ix_vret, ix_zret, stL, stL2, kilL, popN, fq_sw, fq_lsw, List.map_cons, List.map_nil, List.getElem?_cons_zero, List.getElem?_cons_succ, Option.toList_some, Option.toList_none, List.cons_append, List.nil_append, List.length_cons, List.length_nil, List.sum_cons, List.sum_nil, cat_i, cat_l, cat_r, true_and, and_true, Nat.zero_add, Nat.add_zero, Nat.le_refl, Nat.zero_le, Nat.reduceAdd, Nat.reduceLeDiff, exists_eq_left', Option.some.injEq, not_true_eq_false, not_false_eq_true, false_implies, true_implies, implies_true, and_self, or_true, true_or, or_false, false_or]
              exact ⟨fun h => absurd h (by omega), fun _ => hz⟩
        have x42 : ∀ o5 o6 : Option Value, B_X12_inWords_42 l G D 0 0 Q [some (.ref M), some (.ref (G.2.2.2 5)), some (.int (nI j)), some (.int (nI k)), some (.int (nI (k + m))), o5, o6] [] S I J z 0 0 := by
          intro o5 o6
          simp (disch := omega) only [B_X12_inWords_42, B_X12_inWords_63, hm, hm.k, hm.k1, hm.n1, hm.r1, hm.k2, hm.n2, hm.r2, hm.k3, hm.n3, hm.r3, hm.k4, hm.n4, hm.r4, hm.k5, hm.n5, hm.r5, hm.k6, hm.n6, hm.r6, hm.k7, hm.n7, hm.r7, hm.k8, hm.n8, hm.r8, hm.k9, hm.n9, hm.r9, hm.k10, hm.n10, hm.r10, hm.k11, hm.n11, hm.r11, hm.k12, hm.n12, hm.r12, hm.k13, hm.n13, hm.r13, hm.k14, hm.n14, hm.r14, t13, t14, d1, dl, nI_1, nI_add, nI_clamp, nI_pin, nI_neg, nI_nonneg, nI_leE, nI_ltE, nI_eqE, Nat.not_le, Nat.not_lt, fq_10, fq_01, fq_rr, ix_aald, ix_aast, ix_abs, ix_alen, ix_aload, ix_aret, ix_astore, ix_bald, ix_bast, ix_call, ix_cpyI, ix_cpyJ, ix_dead, ix_dup2, ix_dup2L, ix_dupI, ix_dupR, ix_dupx1, ix_getI, ix_getJ, ix_getR, ix_gfm, ix_gtab, ix_i2b, ix_i2c, ix_i2l, ix_i2s, ix_iadd, ix_iald, ix_iand, ix_iast, ix_icall, ix_icmp_eq, ix_icmp_ge, ix_icmp_gt, ix_icmp_le, ix_icmp_lt, ix_icmp_ne, ix_idiv, ix_if_eq, ix_if_ge, ix_if_gt, ix_if_le, ix_if_lt, ix_if_ne, ix_iinc, ix_iload, ix_imul, ix_ineg, ix_ior, ix_irem, ix_iret, ix_ishl, ix_ishr, ix_istore, ix_isub, ix_iushr, ix_ixor, ix_l2i, ix_ladd, ix_lald, ix_land, ix_last, ix_lcmp, ix_ldcS, ix_ldiv, ix_lload, ix_lmul, ix_lor, ix_lrem, ix_lret, ix_lshl, ix_lstore, ix_lsub, ix_lsw, ix_max, ix_min, ix_new, ix_newa, ix_nret, ix_oinit, ix_pop2L, ix_popI, ix_pushI, ix_pushL, ix_putI, ix_putJ, ix_putR, ix_putZ, ix_sbald, ix_sgetC, ix_sgetV, ix_slen, ix_strc, ix_tald, ix_tsw, ix_vcall, ix_vret, ix_zret, stL, stL2, kilL, popN, fq_sw, fq_lsw, List.map_cons, List.map_nil, List.getElem?_cons_zero, List.getElem?_cons_succ, Option.toList_some, Option.toList_none, List.cons_append, List.nil_append, List.length_cons, List.length_nil, List.sum_cons, List.sum_nil, cat_i, cat_l, cat_r, true_and, and_true, Nat.zero_add, Nat.add_zero, Nat.le_refl, Nat.zero_le, Nat.reduceAdd, Nat.reduceLeDiff, exists_eq_left', Option.some.injEq, not_true_eq_false, not_false_eq_true, false_implies, true_implies, implies_true, and_self, or_true, true_or, or_false, false_or]
          refine ⟨fun h => ?_, fun h => ?_⟩
          · exact lp68 m 0 0 (by omega) (Or.inr ⟨rfl, fun q => h q.1⟩)
          · exact lp68 m 0 1 (by omega) (Or.inl ⟨rfl, h, fun t ht => absurd ht (by omega)⟩)
        have lp25 : ∀ (c i : Nat) (o5 o6 : Option Value), i + c = m → fqAt l G M_X12_inWords (D + 4) 0 0 Q 25 [some (.ref M), some (.ref (G.2.2.2 5)), some (.int (nI j)), some (.int (nI k)), some (.int (nI (k + i))), o5, o6] [] S I J z 0 0 := by
          intro c
          induction c with
          | zero =>
            intro i o5 o6 hi
            obtain rfl : i = m := by omega
            have v1 : ((fq_sb.getD 1 []).getD (nI (k + i)).toNatClampNeg 0 : Int32) = 32 := by rw [nI_clamp (by omega)]; exact c4
            refine b_X12_inWords_25 _ _ _ _ _ _ _ _ ?_
            simp (disch := omega) only [B_X12_inWords_0, B_X12_inWords_14, B_X12_inWords_25, B_X12_inWords_63, B_X12_inWords_68, sp_J0_length_8abf5, sp_J0_charAt_5068e, sp_X12_byteAt, hm, hm.k, hm.k1, hm.n1, hm.r1, hm.k2, hm.n2, hm.r2, hm.k3, hm.n3, hm.r3, hm.k4, hm.n4, hm.r4, hm.k5, hm.n5, hm.r5, hm.k6, hm.n6, hm.r6, hm.k7, hm.n7, hm.r7, hm.k8, hm.n8, hm.r8, hm.k9, hm.n9, hm.r9, hm.k10, hm.n10, hm.r10, hm.k11, hm.n11, hm.r11, hm.k12, hm.n12, hm.r12, hm.k13, hm.n13, hm.r13, hm.k14, hm.n14, hm.r14, nI_1, nI_add, nI_clamp, nI_pin, nI_neg, nI_nonneg, nI_leE, nI_ltE, nI_eqE, Nat.not_le, Nat.not_lt, fq_10, fq_01, fq_rr, ix_aald, ix_aast, ix_abs, ix_alen, ix_aload, ix_aret, ix_astore, ix_bald, ix_bast, ix_call, ix_cpyI, ix_cpyJ, ix_dead, ix_dup2, ix_dup2L, ix_dupI, ix_dupR, ix_dupx1, ix_getI, ix_getJ, ix_getR, ix_gfm, ix_gtab, ix_i2b, ix_i2c, ix_i2l, ix_i2s, ix_iadd, ix_iald, ix_iand, ix_iast, ix_icall, ix_icmp_eq, ix_icmp_ge, ix_icmp_gt, ix_icmp_le, ix_icmp_lt, ix_icmp_ne, ix_idiv, ix_if_eq, ix_if_ge, ix_if_gt, ix_if_le, ix_if_lt, ix_if_ne, ix_iinc, ix_iload, ix_imul, ix_ineg, ix_ior, ix_irem, ix_iret, ix_ishl, ix_ishr, ix_istore, ix_isub, ix_iushr, ix_ixor, ix_l2i, ix_ladd, ix_lald, ix_land, ix_last, ix_lcmp, ix_ldcS, ix_ldiv, ix_lload, ix_lmul, ix_lor, ix_lrem, ix_lret, ix_lshl, ix_lstore, ix_lsub, ix_lsw, ix_max, ix_min, ix_new, ix_newa, ix_nret, ix_oinit, ix_pop2L, ix_popI, ix_pushI, ix_pushL, ix_putI, ix_putJ, ix_putR, ix_putZ, ix_sbald, ix_sgetC, ix_sgetV, ix_slen, ix_strc, ix_tald, ix_tsw, ix_vcall, ix_vret, ix_zret, stL, stL2, kilL, popN, fq_sw, fq_lsw, List.map_cons, List.map_nil, List.getElem?_cons_zero, List.getElem?_cons_succ, Option.toList_some, Option.toList_none, List.cons_append, List.nil_append, List.length_cons, List.length_nil, List.sum_cons, List.sum_nil, cat_i, cat_l, cat_r, true_and, and_true, Nat.zero_add, Nat.add_zero, Nat.le_refl, Nat.zero_le, Nat.reduceAdd, Nat.reduceLeDiff, exists_eq_left', Option.some.injEq, not_true_eq_false, not_false_eq_true, false_implies, true_implies, implies_true, and_self, or_true, true_or, or_false, false_or]
            refine ⟨st1, 1, by decide, rfl, vp_in_nI (by show k + i < 128; omega) (by decide), ?_⟩
            rw [nI_clamp (by omega)] at v1
            exact ⟨fun _ => x42 _ _, fun h => absurd v1 h⟩
          | succ c ih =>
            intro i o5 o6 hi
            have v1 : ¬ kyB (k + i) = 32 := cn i (by omega)
            refine b_X12_inWords_25 _ _ _ _ _ _ _ _ ?_
            simp (disch := omega) only [B_X12_inWords_0, B_X12_inWords_14, B_X12_inWords_25, B_X12_inWords_63, B_X12_inWords_68, sp_J0_length_8abf5, sp_J0_charAt_5068e, sp_X12_byteAt, hm, hm.k, hm.k1, hm.n1, hm.r1, hm.k2, hm.n2, hm.r2, hm.k3, hm.n3, hm.r3, hm.k4, hm.n4, hm.r4, hm.k5, hm.n5, hm.r5, hm.k6, hm.n6, hm.r6, hm.k7, hm.n7, hm.r7, hm.k8, hm.n8, hm.r8, hm.k9, hm.n9, hm.r9, hm.k10, hm.n10, hm.r10, hm.k11, hm.n11, hm.r11, hm.k12, hm.n12, hm.r12, hm.k13, hm.n13, hm.r13, hm.k14, hm.n14, hm.r14, nI_1, nI_add, nI_clamp, nI_pin, nI_neg, nI_nonneg, nI_leE, nI_ltE, nI_eqE, Nat.not_le, Nat.not_lt, fq_10, fq_01, fq_rr, ix_aald, ix_aast, ix_abs, ix_alen, ix_aload, ix_aret, ix_astore, ix_bald, ix_bast, ix_call, ix_cpyI, ix_cpyJ, ix_dead, ix_dup2, ix_dup2L, ix_dupI, ix_dupR, ix_dupx1, ix_getI, ix_getJ, ix_getR, ix_gfm, ix_gtab, ix_i2b, ix_i2c, ix_i2l, ix_i2s, ix_iadd, ix_iald, ix_iand, ix_iast, ix_icall, ix_icmp_eq, ix_icmp_ge, ix_icmp_gt, ix_icmp_le, ix_icmp_lt, ix_icmp_ne, ix_idiv, ix_if_eq, ix_if_ge, ix_if_gt, ix_if_le, ix_if_lt, ix_if_ne, ix_iinc, ix_iload, ix_imul, ix_ineg, ix_ior, ix_irem, ix_iret, ix_ishl, ix_ishr, ix_istore, ix_isub, ix_iushr, ix_ixor, ix_l2i, ix_ladd, ix_lald, ix_land, ix_last, ix_lcmp, ix_ldcS, ix_ldiv, ix_lload, ix_lmul, ix_lor, ix_lrem, ix_lret, ix_lshl, ix_lstore, ix_lsub, ix_lsw, ix_max, ix_min, ix_new, ix_newa, ix_nret, ix_oinit, ix_pop2L, ix_popI, ix_pushI, ix_pushL, ix_putI, ix_putJ, ix_putR, ix_putZ, ix_sbald, ix_sgetC, ix_sgetV, ix_slen, ix_strc, ix_tald, ix_tsw, ix_vcall, ix_vret, ix_zret, stL, stL2, kilL, popN, fq_sw, fq_lsw, List.map_cons, List.map_nil, List.getElem?_cons_zero, List.getElem?_cons_succ, Option.toList_some, Option.toList_none, List.cons_append, List.nil_append, List.length_cons, List.length_nil, List.sum_cons, List.sum_nil, cat_i, cat_l, cat_r, true_and, and_true, Nat.zero_add, Nat.add_zero, Nat.le_refl, Nat.zero_le, Nat.reduceAdd, Nat.reduceLeDiff, exists_eq_left', Option.some.injEq, not_true_eq_false, not_false_eq_true, false_implies, true_implies, implies_true, and_self, or_true, true_or, or_false, false_or]
            exact ⟨st1, 1, by decide, rfl, vp_in_nI (by show k + i < 128; omega) (by decide), fun h => absurd h v1, fun _ => ih (i + 1) _ _ (by omega)⟩
        refine b_X12_inWords_14 _ _ _ _ _ _ _ _ ?_
        simp (disch := omega) only [B_X12_inWords_0, B_X12_inWords_14, B_X12_inWords_25, B_X12_inWords_63, B_X12_inWords_68, sp_J0_length_8abf5, sp_J0_charAt_5068e, sp_X12_byteAt, hm, hm.k, hm.k1, hm.n1, hm.r1, hm.k2, hm.n2, hm.r2, hm.k3, hm.n3, hm.r3, hm.k4, hm.n4, hm.r4, hm.k5, hm.n5, hm.r5, hm.k6, hm.n6, hm.r6, hm.k7, hm.n7, hm.r7, hm.k8, hm.n8, hm.r8, hm.k9, hm.n9, hm.r9, hm.k10, hm.n10, hm.r10, hm.k11, hm.n11, hm.r11, hm.k12, hm.n12, hm.r12, hm.k13, hm.n13, hm.r13, hm.k14, hm.n14, hm.r14, nI_1, nI_add, nI_clamp, nI_pin, nI_neg, nI_nonneg, nI_leE, nI_ltE, nI_eqE, Nat.not_le, Nat.not_lt, fq_10, fq_01, fq_rr, ix_aald, ix_aast, ix_abs, ix_alen, ix_aload, ix_aret, ix_astore, ix_bald, ix_bast, ix_call, ix_cpyI, ix_cpyJ, ix_dead, ix_dup2, ix_dup2L, ix_dupI, ix_dupR, ix_dupx1, ix_getI, ix_getJ, ix_getR, ix_gfm, ix_gtab, ix_i2b, ix_i2c, ix_i2l, ix_i2s, ix_iadd, ix_iald, ix_iand, ix_iast, ix_icall, ix_icmp_eq, ix_icmp_ge, ix_icmp_gt, ix_icmp_le, ix_icmp_lt, ix_icmp_ne, ix_idiv, ix_if_eq, ix_if_ge, ix_if_gt, ix_if_le, ix_if_lt, ix_if_ne, ix_iinc, ix_iload, ix_imul, ix_ineg, ix_ior, ix_irem, ix_iret, ix_ishl, ix_ishr, ix_istore, ix_isub, ix_iushr, ix_ixor, ix_l2i, ix_ladd, ix_lald, ix_land, ix_last, ix_lcmp, ix_ldcS, ix_ldiv, ix_lload, ix_lmul, ix_lor, ix_lrem, ix_lret, ix_lshl, ix_lstore, ix_lsub, ix_lsw, ix_max, ix_min, ix_new, ix_newa, ix_nret, ix_oinit, ix_pop2L, ix_popI, ix_pushI, ix_pushL, ix_putI, ix_putJ, ix_putR, ix_putZ, ix_sbald, ix_sgetC, ix_sgetV, ix_slen, ix_strc, ix_tald, ix_tsw, ix_vcall, ix_vret, ix_zret, stL, stL2, kilL, popN, fq_sw, fq_lsw, List.map_cons, List.map_nil, List.getElem?_cons_zero, List.getElem?_cons_succ, Option.toList_some, Option.toList_none, List.cons_append, List.nil_append, List.length_cons, List.length_nil, List.sum_cons, List.sum_nil, cat_i, cat_l, cat_r, true_and, and_true, Nat.zero_add, Nat.add_zero, Nat.le_refl, Nat.zero_le, Nat.reduceAdd, Nat.reduceLeDiff, exists_eq_left', Option.some.injEq, not_true_eq_false, not_false_eq_true, false_implies, true_implies, implies_true, and_self, or_true, true_or, or_false, false_or]
        refine ⟨st1, 1, by decide, rfl, fun h => ?_, fun _ => lp25 m 0 _ _ (by omega)⟩
        have : 128 ≤ k := (nI_leI (a := 128) (b := k) (by decide) (by omega)).mp h
        omega) (by
        intro h1 o4 o5 o6
        have e1 : kS.getD 24 128 = 128 := rfl
        rw [e1]
        refine b_X12_inWords_14 _ _ _ _ _ _ _ _ ?_
        simp (disch := omega) only [B_X12_inWords_0, B_X12_inWords_14, B_X12_inWords_25, B_X12_inWords_63, B_X12_inWords_68, sp_J0_length_8abf5, sp_J0_charAt_5068e, sp_X12_byteAt, hm, hm.k, hm.k1, hm.n1, hm.r1, hm.k2, hm.n2, hm.r2, hm.k3, hm.n3, hm.r3, hm.k4, hm.n4, hm.r4, hm.k5, hm.n5, hm.r5, hm.k6, hm.n6, hm.r6, hm.k7, hm.n7, hm.r7, hm.k8, hm.n8, hm.r8, hm.k9, hm.n9, hm.r9, hm.k10, hm.n10, hm.r10, hm.k11, hm.n11, hm.r11, hm.k12, hm.n12, hm.r12, hm.k13, hm.n13, hm.r13, hm.k14, hm.n14, hm.r14, nI_1, nI_add, nI_clamp, nI_pin, nI_neg, nI_nonneg, nI_leE, nI_ltE, nI_eqE, Nat.not_le, Nat.not_lt, fq_10, fq_01, fq_rr, ix_aald, ix_aast, ix_abs, ix_alen, ix_aload, ix_aret, ix_astore, ix_bald, ix_bast, ix_call, ix_cpyI, ix_cpyJ, ix_dead, ix_dup2, ix_dup2L, ix_dupI, ix_dupR, ix_dupx1, ix_getI, ix_getJ, ix_getR, ix_gfm, ix_gtab, ix_i2b, ix_i2c, ix_i2l, ix_i2s, ix_iadd, ix_iald, ix_iand, ix_iast, ix_icall, ix_icmp_eq, ix_icmp_ge, ix_icmp_gt, ix_icmp_le, ix_icmp_lt, ix_icmp_ne, ix_idiv, ix_if_eq, ix_if_ge, ix_if_gt, ix_if_le, ix_if_lt, ix_if_ne, ix_iinc, ix_iload, ix_imul, ix_ineg, ix_ior, ix_irem, ix_iret, ix_ishl, ix_ishr, ix_istore, ix_isub, ix_iushr, ix_ixor, ix_l2i, ix_ladd, ix_lald, ix_land, ix_last, ix_lcmp, ix_ldcS, ix_ldiv, ix_lload, ix_lmul, ix_lor, ix_lrem, ix_lret, ix_lshl, ix_lstore, ix_lsub, ix_lsw, ix_max, ix_min, ix_new, ix_newa, ix_nret, ix_oinit, ix_pop2L, ix_popI, ix_pushI, ix_pushL, ix_putI, ix_putJ, ix_putR, ix_putZ, ix_sbald, ix_sgetC, ix_sgetV, ix_slen, ix_strc, ix_tald, ix_tsw, ix_vcall, ix_vret, ix_zret, stL, stL2, kilL, popN, fq_sw, fq_lsw, List.map_cons, List.map_nil, List.getElem?_cons_zero, List.getElem?_cons_succ, Option.toList_some, Option.toList_none, List.cons_append, List.nil_append, List.length_cons, List.length_nil, List.sum_cons, List.sum_nil, cat_i, cat_l, cat_r, true_and, and_true, Nat.zero_add, Nat.add_zero, Nat.le_refl, Nat.zero_le, Nat.reduceAdd, Nat.reduceLeDiff, exists_eq_left', Option.some.injEq, not_true_eq_false, not_false_eq_true, false_implies, true_implies, implies_true, and_self, or_true, true_or, or_false, false_or]
        exact ⟨st1, 1, by decide, rfl, fun _ => h1, fun h => absurd (by decide) h⟩) 24 0 (by omega) hQ
      refine fq_enter [some (.ref M), some (.ref (G.2.2.2 5)), none, none, none, none, none] (by decide +kernel) (Nat.le_of_ble_eq_true rfl) rfl (b_X12_inWords_0 _ _ _ _ _ _ _ _ ?_)
      simp (disch := omega) only [B_X12_inWords_0, B_X12_inWords_14, B_X12_inWords_25, B_X12_inWords_63, B_X12_inWords_68, sp_J0_length_8abf5, sp_J0_charAt_5068e, sp_X12_byteAt, hm, hm.k, hm.k1, hm.n1, hm.r1, hm.k2, hm.n2, hm.r2, hm.k3, hm.n3, hm.r3, hm.k4, hm.n4, hm.r4, hm.k5, hm.n5, hm.r5, hm.k6, hm.n6, hm.r6, hm.k7, hm.n7, hm.r7, hm.k8, hm.n8, hm.r8, hm.k9, hm.n9, hm.r9, hm.k10, hm.n10, hm.r10, hm.k11, hm.n11, hm.r11, hm.k12, hm.n12, hm.r12, hm.k13, hm.n13, hm.r13, hm.k14, hm.n14, hm.r14, t12, nI_1, nI_add, nI_clamp, nI_pin, nI_neg, nI_nonneg, nI_leE, nI_ltE, nI_eqE, Nat.not_le, Nat.not_lt, fq_10, fq_01, fq_rr, ix_aald, ix_aast, ix_abs, ix_alen, ix_aload, ix_aret, ix_astore, ix_bald, ix_bast, ix_call, ix_cpyI, ix_cpyJ, ix_dead, ix_dup2, ix_dup2L, ix_dupI, ix_dupR, ix_dupx1, ix_getI, ix_getJ, ix_getR, ix_gfm, ix_gtab, ix_i2b, ix_i2c, ix_i2l, ix_i2s, ix_iadd, ix_iald, ix_iand, ix_iast, ix_icall, ix_icmp_eq, ix_icmp_ge, ix_icmp_gt, ix_icmp_le, ix_icmp_lt, ix_icmp_ne, ix_idiv, ix_if_eq, ix_if_ge, ix_if_gt, ix_if_le, ix_if_lt, ix_if_ne, ix_iinc, ix_iload, ix_imul, ix_ineg, ix_ior, ix_irem, ix_iret, ix_ishl, ix_ishr, ix_istore, ix_isub, ix_iushr, ix_ixor, ix_l2i, ix_ladd, ix_lald, ix_land, ix_last, ix_lcmp, ix_ldcS, ix_ldiv, ix_lload, ix_lmul, ix_lor, ix_lrem, ix_lret, ix_lshl, ix_lstore, ix_lsub, ix_lsw, ix_max, ix_min, ix_new, ix_newa, ix_nret, ix_oinit, ix_pop2L, ix_popI, ix_pushI, ix_pushL, ix_putI, ix_putJ, ix_putR, ix_putZ, ix_sbald, ix_sgetC, ix_sgetV, ix_slen, ix_strc, ix_tald, ix_tsw, ix_vcall, ix_vret, ix_zret, stL, stL2, kilL, popN, fq_sw, fq_lsw, List.map_cons, List.map_nil, List.getElem?_cons_zero, List.getElem?_cons_succ, Option.toList_some, Option.toList_none, List.cons_append, List.nil_append, List.length_cons, List.length_nil, List.sum_cons, List.sum_nil, cat_i, cat_l, cat_r, true_and, and_true, Nat.zero_add, Nat.add_zero, Nat.le_refl, Nat.zero_le, Nat.reduceAdd, Nat.reduceLeDiff, exists_eq_left', Option.some.injEq, not_true_eq_false, not_false_eq_true, false_implies, true_implies, implies_true, and_self, or_true, true_or, or_false, false_or]
      exact lo none none none
    · rw [if_neg hk] at hQ
      refine fq_enter [some (.ref M), some (.ref (G.2.2.2 5)), none, none, none, none, none] (by decide +kernel) (Nat.le_of_ble_eq_true rfl) rfl (b_X12_inWords_0 _ _ _ _ _ _ _ _ ?_)
      simp (disch := omega) only [B_X12_inWords_0, B_X12_inWords_14, B_X12_inWords_25, B_X12_inWords_63, B_X12_inWords_68, sp_J0_length_8abf5, sp_J0_charAt_5068e, sp_X12_byteAt, hm, hm.k, hm.k1, hm.n1, hm.r1, hm.k2, hm.n2, hm.r2, hm.k3, hm.n3, hm.r3, hm.k4, hm.n4, hm.r4, hm.k5, hm.n5, hm.r5, hm.k6, hm.n6, hm.r6, hm.k7, hm.n7, hm.r7, hm.k8, hm.n8, hm.r8, hm.k9, hm.n9, hm.r9, hm.k10, hm.n10, hm.r10, hm.k11, hm.n11, hm.r11, hm.k12, hm.n12, hm.r12, hm.k13, hm.n13, hm.r13, hm.k14, hm.n14, hm.r14, t12, hk, nI_1, nI_add, nI_clamp, nI_pin, nI_neg, nI_nonneg, nI_leE, nI_ltE, nI_eqE, Nat.not_le, Nat.not_lt, fq_10, fq_01, fq_rr, ix_aald, ix_aast, ix_abs, ix_alen, ix_aload, ix_aret, ix_astore, ix_bald, ix_bast, ix_call, ix_cpyI, ix_cpyJ, ix_dead, ix_dup2, ix_dup2L, ix_dupI, ix_dupR, ix_dupx1, ix_getI, ix_getJ, ix_getR, ix_gfm, ix_gtab, ix_i2b, ix_i2c, ix_i2l, ix_i2s, ix_iadd, ix_iald, ix_iand, ix_iast, ix_icall, ix_icmp_eq, ix_icmp_ge, ix_icmp_gt, ix_icmp_le, ix_icmp_lt, ix_icmp_ne, ix_idiv, ix_if_eq, ix_if_ge, ix_if_gt, ix_if_le, ix_if_lt, ix_if_ne, ix_iinc, ix_iload, ix_imul, ix_ineg, ix_ior, ix_irem, ix_iret, ix_ishl, ix_ishr, ix_istore, ix_isub, ix_iushr, ix_ixor, ix_l2i, ix_ladd, ix_lald, ix_land, ix_last, ix_lcmp, ix_ldcS, ix_ldiv, ix_lload, ix_lmul, ix_lor, ix_lrem, ix_lret, ix_lshl, ix_lstore, ix_lsub, ix_lsw, ix_max, ix_min, ix_new, ix_newa, ix_nret, ix_oinit, ix_pop2L, ix_popI, ix_pushI, ix_pushL, ix_putI, ix_putJ, ix_putR, ix_putZ, ix_sbald, ix_sgetC, ix_sgetV, ix_slen, ix_strc, ix_tald, ix_tsw, ix_vcall, ix_vret, ix_zret, stL, stL2, kilL, popN, fq_sw, fq_lsw, List.map_cons, List.map_nil, List.getElem?_cons_zero, List.getElem?_cons_succ, Option.toList_some, Option.toList_none, List.cons_append, List.nil_append, List.length_cons, List.length_nil, List.sum_cons, List.sum_nil, cat_i, cat_l, cat_r, true_and, and_true, Nat.zero_add, Nat.add_zero, Nat.le_refl, Nat.zero_le, Nat.reduceAdd, Nat.reduceLeDiff, exists_eq_left', Option.some.injEq, not_true_eq_false, not_false_eq_true, false_implies, true_implies, implies_true, and_self, or_true, true_or, or_false, false_or]
      exact hQ
  · exact h.elim
theorem dX12_nameHere_0 : decode cX12_nameHere 0 = .ok (.lconst 0, 1) := by decide +kernel
theorem dX12_nameHere_1 : decode cX12_nameHere 1 = .ok (.lstore_n 1, 1) := by decide +kernel
theorem dX12_nameHere_2 : decode cX12_nameHere 2 = .ok (.aload_n 0, 1) := by decide +kernel
theorem dX12_nameHere_3 : decode cX12_nameHere 3 = .ok (.getfield 114, 3) := by decide +kernel
theorem dX12_nameHere_6 : decode cX12_nameHere 6 = .ok (.istore_n 3, 1) := by decide +kernel
theorem dX12_nameHere_7 : decode cX12_nameHere 7 = .ok (.iload_n 3, 1) := by decide +kernel
theorem dX12_nameHere_8 : decode cX12_nameHere 8 = .ok (.aload_n 0, 1) := by decide +kernel
theorem dX12_nameHere_9 : decode cX12_nameHere 9 = .ok (.getfield 108, 3) := by decide +kernel
theorem dX12_nameHere_12 : decode cX12_nameHere 12 = .ok (.if_icmp .ge 21, 3) := by decide +kernel
theorem dX12_nameHere_15 : decode cX12_nameHere 15 = .ok (.lload_n 1, 1) := by decide +kernel
theorem dX12_nameHere_16 : decode cX12_nameHere 16 = .ok (.bipush 8, 2) := by decide +kernel
theorem dX12_nameHere_18 : decode cX12_nameHere 18 = .ok (.lshl, 1) := by decide +kernel
theorem dX12_nameHere_19 : decode cX12_nameHere 19 = .ok (.aload_n 0, 1) := by decide +kernel
theorem dX12_nameHere_20 : decode cX12_nameHere 20 = .ok (.iload_n 3, 1) := by decide +kernel
theorem dX12_nameHere_21 : decode cX12_nameHere 21 = .ok (.invokevirtual 111, 3) := by decide +kernel
theorem dX12_nameHere_24 : decode cX12_nameHere 24 = .ok (.i2l, 1) := by decide +kernel
theorem dX12_nameHere_25 : decode cX12_nameHere 25 = .ok (.lor, 1) := by decide +kernel
theorem dX12_nameHere_26 : decode cX12_nameHere 26 = .ok (.lstore_n 1, 1) := by decide +kernel
theorem dX12_nameHere_27 : decode cX12_nameHere 27 = .ok (.iinc 3 1, 3) := by decide +kernel
theorem dX12_nameHere_30 : decode cX12_nameHere 30 = .ok (.goto (-23), 3) := by decide +kernel
theorem dX12_nameHere_33 : decode cX12_nameHere 33 = .ok (.lload_n 1, 1) := by decide +kernel
theorem dX12_nameHere_34 : decode cX12_nameHere 34 = .ok (.lreturn, 1) := by decide +kernel
abbrev M_X12_nameHere : MT := (yX12_nameHere, cX12_nameHere, 4, (some .long))
theorem cf_X12_nameHere : fq_cf M_X12_nameHere 0 := ⟨(mg_1 (List.mem_of_getElem? (i := 15) rfl) rfl), (mg_7 (List.mem_of_getElem? (i := 170) rfl) rfl), ⟨by decide, by decide, by decide +kernel⟩, by decide⟩
def B_X12_nameHere_7 (l : Launch) (G : GT) (D mc ms : Nat) (Q : Post) : Cn := ix_iload 3 (ix_aload 0 (ix_getI 12 14 (ix_icmp_ge (ix_lload 1 (ix_lret mc ms Q)) (ix_lload 1 (ix_pushI 8 (ix_lshl (ix_aload 0 (ix_iload 3 (ix_vcall 12 2 0 0 mc ms (sp_X12_byteAt G) (ix_i2l (ix_lor (ix_lstore 1 (ix_iinc 3 1 (fqAt l G M_X12_nameHere (D + 1) mc ms Q 7))))))))))))))
theorem b_X12_nameHere_7 {l : Launch} {G : GT} {D mc ms : Nat} {Q : Post} : Imp l G M_X12_nameHere (D + 1) mc ms Q (B_X12_nameHere_7 l G D mc ms Q) 7 := sx_iload_n dX12_nameHere_7 rfl (sx_aload_n dX12_nameHere_8 rfl (sx_getI dX12_nameHere_9 fl_FootQuarrelModel_108 (fun _ _ _ => rfl) (sx_icmp_ge 33 dX12_nameHere_12 (by decide) (sx_lload_n dX12_nameHere_33 rfl (sx_lret dX12_nameHere_34 rfl)) (sx_lload_n dX12_nameHere_15 rfl (sx_bipush dX12_nameHere_16 rfl (sx_lshl dX12_nameHere_18 (sx_aload_n dX12_nameHere_19 rfl (sx_iload_n dX12_nameHere_20 rfl (sx_vcall dX12_nameHere_21 cf_X12_byteAt (mg_7 (List.mem_of_getElem? (i := 116) rfl) rfl) (mg_7 (List.mem_of_getElem? (i := 118) rfl) rfl) (mg_p (List.mem_of_getElem? (i := 53) rfl) rfl) rfl c_X12_byteAt (sx_i2l dX12_nameHere_24 (sx_lor dX12_nameHere_25 (sx_lstore_n dX12_nameHere_26 rfl (by decide) (sx_iinc dX12_nameHere_27 rfl (by decide) (sx_goto 7 dX12_nameHere_30 (by decide) ((fun _ _ _ _ _ _ _ _ h => h))))))))))))))))
def B_X12_nameHere_0 (l : Launch) (G : GT) (D mc ms : Nat) (Q : Post) : Cn := ix_pushL 0 (ix_lstore 1 (ix_aload 0 (ix_getI 12 13 (ix_istore 3 (fqAt l G M_X12_nameHere (D + 1) mc ms Q 7)))))
theorem b_X12_nameHere_0 {l : Launch} {G : GT} {D mc ms : Nat} {Q : Post} : Imp l G M_X12_nameHere (D + 1) mc ms Q (B_X12_nameHere_0 l G D mc ms Q) 0 := sx_lconst dX12_nameHere_0 rfl (sx_lstore_n dX12_nameHere_1 rfl (by decide) (sx_aload_n dX12_nameHere_2 rfl (sx_getI dX12_nameHere_3 fl_FootQuarrelModel_114 (fun _ _ _ => rfl) (sx_istore_n dX12_nameHere_6 rfl (by decide) ((fun _ _ _ _ _ _ _ _ h => h))))))
theorem dX12_fails_0 : decode cX12_fails 0 = .ok (.aload_n 0, 1) := by decide +kernel
theorem dX12_fails_1 : decode cX12_fails 1 = .ok (.getfield 145, 3) := by decide +kernel
theorem dX12_fails_4 : decode cX12_fails 4 = .ok (.ifCond .ne 28, 3) := by decide +kernel
theorem dX12_fails_7 : decode cX12_fails 7 = .ok (.aload_n 0, 1) := by decide +kernel
theorem dX12_fails_8 : decode cX12_fails 8 = .ok (.aload_n 0, 1) := by decide +kernel
theorem dX12_fails_9 : decode cX12_fails 9 = .ok (.getfield 120, 3) := by decide +kernel
theorem dX12_fails_12 : decode cX12_fails 12 = .ok (.iconst 1, 1) := by decide +kernel
theorem dX12_fails_13 : decode cX12_fails 13 = .ok (.if_icmp .ne 7, 3) := by decide +kernel
theorem dX12_fails_16 : decode cX12_fails 16 = .ok (.iconst 1, 1) := by decide +kernel
theorem dX12_fails_17 : decode cX12_fails 17 = .ok (.goto 4, 3) := by decide +kernel
theorem dX12_fails_20 : decode cX12_fails 20 = .ok (.iload_n 1, 1) := by decide +kernel
theorem dX12_fails_21 : decode cX12_fails 21 = .ok (.putfield 145, 3) := by decide +kernel
theorem dX12_fails_24 : decode cX12_fails 24 = .ok (.aload_n 0, 1) := by decide +kernel
theorem dX12_fails_25 : decode cX12_fails 25 = .ok (.aload_n 0, 1) := by decide +kernel
theorem dX12_fails_26 : decode cX12_fails 26 = .ok (.getfield 114, 3) := by decide +kernel
theorem dX12_fails_29 : decode cX12_fails 29 = .ok (.putfield 41, 3) := by decide +kernel
theorem dX12_fails_32 : decode cX12_fails 32 = .ok (.iconst 0, 1) := by decide +kernel
theorem dX12_fails_33 : decode cX12_fails 33 = .ok (.ireturn, 1) := by decide +kernel
abbrev M_X12_fails : MT := (yX12_fails, cX12_fails, 2, (some .boolean))
theorem cf_X12_fails : fq_cf M_X12_fails 1 := ⟨(mg_1 (List.mem_of_getElem? (i := 15) rfl) rfl), (mg_7 (List.mem_of_getElem? (i := 146) rfl) rfl), ⟨by decide, by decide, by decide +kernel⟩, by decide⟩
def B_X12_fails_32 (G : GT) (mc ms : Nat) (Q : Post) : Cn := ix_pushI 0 (ix_zret mc ms Q)
theorem b_X12_fails_32 {l : Launch} {G : GT} {D mc ms : Nat} {Q : Post} : Imp l G M_X12_fails (D + 0) mc ms Q (B_X12_fails_32 G mc ms Q) 32 := sx_iconst dX12_fails_32 rfl (sx_zret dX12_fails_33 rfl)
def B_X12_fails_21 (G : GT) (mc ms : Nat) (Q : Post) : Cn := ix_putI 12 18 (ix_aload 0 (ix_aload 0 (ix_getI 12 13 (ix_putI 12 17 ((B_X12_fails_32 G mc ms Q))))))
theorem b_X12_fails_21 {l : Launch} {G : GT} {D mc ms : Nat} {Q : Post} : Imp l G M_X12_fails (D + 0) mc ms Q (B_X12_fails_21 G mc ms Q) 21 := sx_putI dX12_fails_21 fl_FootQuarrelModel_145 (by decide) (fun _ _ _ => rfl) (fun _ => ⟨rfl, rfl⟩) (sx_aload_n dX12_fails_24 rfl (sx_aload_n dX12_fails_25 rfl (sx_getI dX12_fails_26 fl_FootQuarrelModel_114 (fun _ _ _ => rfl) (sx_putI dX12_fails_29 fl_FootQuarrelModel_41 (by decide) (fun _ _ _ => rfl) (fun _ => ⟨rfl, rfl⟩) (b_X12_fails_32)))))
def B_X12_fails_0 (G : GT) (mc ms : Nat) (Q : Post) : Cn := ix_aload 0 (ix_getI 12 18 (ix_if_ne ((B_X12_fails_32 G mc ms Q)) (ix_aload 0 (ix_aload 0 (ix_getI 12 12 (ix_pushI 1 (ix_icmp_ne (ix_iload 1 ((B_X12_fails_21 G mc ms Q))) (ix_pushI 1 ((B_X12_fails_21 G mc ms Q))))))))))
theorem b_X12_fails_0 {l : Launch} {G : GT} {D mc ms : Nat} {Q : Post} : Imp l G M_X12_fails (D + 0) mc ms Q (B_X12_fails_0 G mc ms Q) 0 := sx_aload_n dX12_fails_0 rfl (sx_getI dX12_fails_1 fl_FootQuarrelModel_145 (fun _ _ _ => rfl) (sx_if_ne 32 dX12_fails_4 (by decide) (b_X12_fails_32) (sx_aload_n dX12_fails_7 rfl (sx_aload_n dX12_fails_8 rfl (sx_getI dX12_fails_9 fl_FootQuarrelModel_120 (fun _ _ _ => rfl) (sx_iconst dX12_fails_12 rfl (sx_icmp_ne 20 dX12_fails_13 (by decide) (sx_iload_n dX12_fails_20 rfl (b_X12_fails_21)) (sx_iconst dX12_fails_16 rfl (sx_goto 21 dX12_fails_17 (by decide) (b_X12_fails_21))))))))))
theorem dX12_isSign_0 : decode cX12_isSign 0 = .ok (.aload_n 0, 1) := by decide +kernel
theorem dX12_isSign_1 : decode cX12_isSign 1 = .ok (.getfield 120, 3) := by decide +kernel
theorem dX12_isSign_4 : decode cX12_isSign 4 = .ok (.iconst 4, 1) := by decide +kernel
theorem dX12_isSign_5 : decode cX12_isSign 5 = .ok (.if_icmp .ne 15, 3) := by decide +kernel
theorem dX12_isSign_8 : decode cX12_isSign 8 = .ok (.aload_n 0, 1) := by decide +kernel
theorem dX12_isSign_9 : decode cX12_isSign 9 = .ok (.getfield 117, 3) := by decide +kernel
theorem dX12_isSign_12 : decode cX12_isSign 12 = .ok (.iload_n 1, 1) := by decide +kernel
theorem dX12_isSign_13 : decode cX12_isSign 13 = .ok (.if_icmp .ne 7, 3) := by decide +kernel
theorem dX12_isSign_16 : decode cX12_isSign 16 = .ok (.iconst 1, 1) := by decide +kernel
theorem dX12_isSign_17 : decode cX12_isSign 17 = .ok (.goto 4, 3) := by decide +kernel
theorem dX12_isSign_20 : decode cX12_isSign 20 = .ok (.iconst 0, 1) := by decide +kernel
theorem dX12_isSign_21 : decode cX12_isSign 21 = .ok (.ireturn, 1) := by decide +kernel
abbrev M_X12_isSign : MT := (yX12_isSign, cX12_isSign, 2, (some .boolean))
theorem cf_X12_isSign : fq_cf M_X12_isSign 1 := ⟨(mg_1 (List.mem_of_getElem? (i := 15) rfl) rfl), (mg_7 (List.mem_of_getElem? (i := 199) rfl) rfl), ⟨by decide, by decide, by decide +kernel⟩, by decide⟩
def B_X12_isSign_21 (G : GT) (mc ms : Nat) (Q : Post) : Cn := ix_zret mc ms Q
theorem b_X12_isSign_21 {l : Launch} {G : GT} {D mc ms : Nat} {Q : Post} : Imp l G M_X12_isSign (D + 0) mc ms Q (B_X12_isSign_21 G mc ms Q) 21 := sx_zret dX12_isSign_21 rfl
def B_X12_isSign_20 (G : GT) (mc ms : Nat) (Q : Post) : Cn := ix_pushI 0 ((B_X12_isSign_21 G mc ms Q))
theorem b_X12_isSign_20 {l : Launch} {G : GT} {D mc ms : Nat} {Q : Post} : Imp l G M_X12_isSign (D + 0) mc ms Q (B_X12_isSign_20 G mc ms Q) 20 := sx_iconst dX12_isSign_20 rfl (b_X12_isSign_21)
def B_X12_isSign_0 (G : GT) (mc ms : Nat) (Q : Post) : Cn := ix_aload 0 (ix_getI 12 12 (ix_pushI 4 (ix_icmp_ne ((B_X12_isSign_20 G mc ms Q)) (ix_aload 0 (ix_getI 12 15 (ix_iload 1 (ix_icmp_ne ((B_X12_isSign_20 G mc ms Q)) (ix_pushI 1 ((B_X12_isSign_21 G mc ms Q))))))))))
theorem b_X12_isSign_0 {l : Launch} {G : GT} {D mc ms : Nat} {Q : Post} : Imp l G M_X12_isSign (D + 0) mc ms Q (B_X12_isSign_0 G mc ms Q) 0 := sx_aload_n dX12_isSign_0 rfl (sx_getI dX12_isSign_1 fl_FootQuarrelModel_120 (fun _ _ _ => rfl) (sx_iconst dX12_isSign_4 rfl (sx_icmp_ne 20 dX12_isSign_5 (by decide) (b_X12_isSign_20) (sx_aload_n dX12_isSign_8 rfl (sx_getI dX12_isSign_9 fl_FootQuarrelModel_117 (fun _ _ _ => rfl) (sx_iload_n dX12_isSign_12 rfl (sx_icmp_ne 20 dX12_isSign_13 (by decide) (b_X12_isSign_20) (sx_iconst dX12_isSign_16 rfl (sx_goto 21 dX12_isSign_17 (by decide) (b_X12_isSign_21))))))))))
def sp_X12_isSign (G : GT) : Sp := fun as S I J z Q => match as with
  | [.ref a0, .int a1] => B_X12_isSign_0 G 0 0 Q [some (.ref a0), some (.int a1)] [] S I J z 0 0
  | _ => False
theorem c_X12_isSign {l : Launch} {G : GT} {D : Nat} : ∀ as S I J z Q, sp_X12_isSign G as S I J z Q → fqCall l G M_X12_isSign (D + 0) 0 0 as S I J z Q := by
  intro as S I J z Q h
  unfold sp_X12_isSign at h
  split at h
  · exact fq_enter _ (by decide +kernel) (Nat.le_of_ble_eq_true rfl) rfl (b_X12_isSign_0 _ _ _ _ _ _ _ _ h)
  · exact h.elim
/-- a name's eight bits a letter -/
def nmR (T : Nat → Int32) (n : Nat) (f m : Nat) (v : Int64) : Int64 := foldU (fun k v => v <<< ((8 : Int32).toInt64 &&& 63) ||| (byA T n k).toInt64) f m v
def nmH (T : Nat → Int32) (n e : Nat) : Int64 := nmR T n (tF T n e) (tE T n e - tF T n e) 0
def sp_X12_nameHere (G : GT) : Sp := fun as S I J z Q => match as with
  | [.ref M] => rfS S M ∧ ∃ n e, n ≤ 900 ∧ e ≤ n ∧ tkH M I n e ∧ Q (some (.long (nmH (I (M + 7)) n e))) S I J z
  | _ => False
set_option maxHeartbeats 4000000 in
set_option maxRecDepth 20000 in
theorem c_X12_nameHere {l : Launch} {G : GT} {D : Nat} : ∀ as S I J z Q, sp_X12_nameHere G as S I J z Q → fqCall l G M_X12_nameHere (D + 1) 0 0 as S I J z Q := by
  intro as S I J z Q h
  unfold sp_X12_nameHere at h
  split at h
  · next M =>
    obtain ⟨hm, n, e, hn, he, hT, hQ⟩ := h
    obtain ⟨t11, t12, t13, t14, t15⟩ := hT
    obtain ⟨b1, b2, b3, b4⟩ := tFE (T := I (M + 7)) he
    unfold nmH nmR at hQ
    generalize tF (I (M + 7)) n e = fr at *
    generalize tE (I (M + 7)) n e = en at *
    have lp := loopU (N := en) (f := fun k v => v <<< ((8 : Int32).toInt64 &&& 63) ||| (byA (I (M + 7)) n k).toInt64) (B := fun i v => fqAt l G M_X12_nameHere (D + 1) 0 0 Q 7 [some (.ref M), some (.long v), none, some (.int (nI i))] [] S I J z 0 0) (by
      intro i v hi hb
      refine b_X12_nameHere_7 _ _ _ _ _ _ _ _ ?_
      simp (disch := omega) only [B_X12_nameHere_0, B_X12_nameHere_7, sp_X12_byteAt, hm, hm.k, hm.k1, hm.n1, hm.r1, hm.k2, hm.n2, hm.r2, hm.k3, hm.n3, hm.r3, hm.k4, hm.n4, hm.r4, hm.k5, hm.n5, hm.r5, hm.k6, hm.n6, hm.r6, hm.k7, hm.n7, hm.r7, hm.k8, hm.n8, hm.r8, hm.k9, hm.n9, hm.r9, hm.k10, hm.n10, hm.r10, hm.k11, hm.n11, hm.r11, hm.k12, hm.n12, hm.r12, hm.k13, hm.n13, hm.r13, hm.k14, hm.n14, hm.r14, t14, t11, okE, nI_1, nI_add, nI_clamp, nI_pin, nI_neg, nI_nonneg, nI_leE, nI_ltE, nI_eqE, Nat.not_le, Nat.not_lt, fq_10, fq_01, fq_rr, ix_aald, ix_aast, ix_abs, ix_alen, ix_aload, ix_aret, ix_astore, ix_bald, ix_bast, ix_call, ix_cpyI, ix_cpyJ, ix_dead, ix_dup2, ix_dup2L, ix_dupI, ix_dupR, ix_dupx1, ix_getI, ix_getJ, ix_getR, ix_gfm, ix_gtab, ix_i2b, ix_i2c, ix_i2l, ix_i2s, ix_iadd, ix_iald, ix_iand, ix_iast, ix_icall, ix_icmp_eq, ix_icmp_ge, ix_icmp_gt, ix_icmp_le, ix_icmp_lt, ix_icmp_ne, ix_idiv, ix_if_eq, ix_if_ge, ix_if_gt, ix_if_le, ix_if_lt, ix_if_ne, ix_iinc, ix_iload, ix_imul, ix_ineg, ix_ior, ix_irem, ix_iret, ix_ishl, ix_ishr, ix_istore, ix_isub, ix_iushr, ix_ixor, ix_l2i, ix_ladd, ix_lald, ix_land, ix_last, ix_lcmp, ix_ldcS, ix_ldiv, ix_lload, ix_lmul, ix_lor, ix_lrem, ix_lret, ix_lshl, ix_lstore, ix_lsub, ix_lsw, ix_max, ix_min, ix_new, ix_newa, ix_nret, ix_oinit, ix_pop2L, ix_popI, ix_pushI, ix_pushL, ix_putI, ix_putJ, ix_putR, ix_putZ, ix_sbald, ix_sgetC, ix_sgetV, ix_slen, ix_strc, ix_tald, ix_tsw, ix_vcall, ix_vret, ix_zret, stL, stL2, kilL, popN, fq_sw, fq_lsw, List.map_cons, List.map_nil, List.getElem?_cons_zero, List.getElem?_cons_succ, Option.toList_some, Option.toList_none, List.cons_append, List.nil_append, List.length_cons, List.length_nil, List.sum_cons, List.sum_nil, cat_i, cat_l, cat_r, true_and, and_true, Nat.zero_add, Nat.add_zero, Nat.le_refl, Nat.zero_le, Nat.reduceAdd, Nat.reduceLeDiff, exists_eq_left', Option.some.injEq, not_true_eq_false, not_false_eq_true, false_implies, true_implies, implies_true, and_self, or_true, true_or, or_false, false_or]
      exact ⟨fun h => absurd h (by omega), fun _ => hb⟩) (en - fr) fr 0 (by omega)
    refine fq_enter [some (.ref M), none, none, none] (by decide +kernel) (Nat.le_of_ble_eq_true rfl) rfl (b_X12_nameHere_0 _ _ _ _ _ _ _ _ ?_)
    simp (disch := omega) only [B_X12_nameHere_0, B_X12_nameHere_7, sp_X12_byteAt, hm, hm.k, hm.k1, hm.n1, hm.r1, hm.k2, hm.n2, hm.r2, hm.k3, hm.n3, hm.r3, hm.k4, hm.n4, hm.r4, hm.k5, hm.n5, hm.r5, hm.k6, hm.n6, hm.r6, hm.k7, hm.n7, hm.r7, hm.k8, hm.n8, hm.r8, hm.k9, hm.n9, hm.r9, hm.k10, hm.n10, hm.r10, hm.k11, hm.n11, hm.r11, hm.k12, hm.n12, hm.r12, hm.k13, hm.n13, hm.r13, hm.k14, hm.n14, hm.r14, t13, nI_1, nI_add, nI_clamp, nI_pin, nI_neg, nI_nonneg, nI_leE, nI_ltE, nI_eqE, Nat.not_le, Nat.not_lt, fq_10, fq_01, fq_rr, ix_aald, ix_aast, ix_abs, ix_alen, ix_aload, ix_aret, ix_astore, ix_bald, ix_bast, ix_call, ix_cpyI, ix_cpyJ, ix_dead, ix_dup2, ix_dup2L, ix_dupI, ix_dupR, ix_dupx1, ix_getI, ix_getJ, ix_getR, ix_gfm, ix_gtab, ix_i2b, ix_i2c, ix_i2l, ix_i2s, ix_iadd, ix_iald, ix_iand, ix_iast, ix_icall, ix_icmp_eq, ix_icmp_ge, ix_icmp_gt, ix_icmp_le, ix_icmp_lt, ix_icmp_ne, ix_idiv, ix_if_eq, ix_if_ge, ix_if_gt, ix_if_le, ix_if_lt, ix_if_ne, ix_iinc, ix_iload, ix_imul, ix_ineg, ix_ior, ix_irem, ix_iret, ix_ishl, ix_ishr, ix_istore, ix_isub, ix_iushr, ix_ixor, ix_l2i, ix_ladd, ix_lald, ix_land, ix_last, ix_lcmp, ix_ldcS, ix_ldiv, ix_lload, ix_lmul, ix_lor, ix_lrem, ix_lret, ix_lshl, ix_lstore, ix_lsub, ix_lsw, ix_max, ix_min, ix_new, ix_newa, ix_nret, ix_oinit, ix_pop2L, ix_popI, ix_pushI, ix_pushL, ix_putI, ix_putJ, ix_putR, ix_putZ, ix_sbald, ix_sgetC, ix_sgetV, ix_slen, ix_strc, ix_tald, ix_tsw, ix_vcall, ix_vret, ix_zret, stL, stL2, kilL, popN, fq_sw, fq_lsw, List.map_cons, List.map_nil, List.getElem?_cons_zero, List.getElem?_cons_succ, Option.toList_some, Option.toList_none, List.cons_append, List.nil_append, List.length_cons, List.length_nil, List.sum_cons, List.sum_nil, cat_i, cat_l, cat_r, true_and, and_true, Nat.zero_add, Nat.add_zero, Nat.le_refl, Nat.zero_le, Nat.reduceAdd, Nat.reduceLeDiff, exists_eq_left', Option.some.injEq, not_true_eq_false, not_false_eq_true, false_implies, true_implies, implies_true, and_self, or_true, true_or, or_false, false_or]
    refine lp ?_
    refine b_X12_nameHere_7 _ _ _ _ _ _ _ _ ?_
    simp (disch := omega) only [B_X12_nameHere_0, B_X12_nameHere_7, sp_X12_byteAt, hm, hm.k, hm.k1, hm.n1, hm.r1, hm.k2, hm.n2, hm.r2, hm.k3, hm.n3, hm.r3, hm.k4, hm.n4, hm.r4, hm.k5, hm.n5, hm.r5, hm.k6, hm.n6, hm.r6, hm.k7, hm.n7, hm.r7, hm.k8, hm.n8, hm.r8, hm.k9, hm.n9, hm.r9, hm.k10, hm.n10, hm.r10, hm.k11, hm.n11, hm.r11, hm.k12, hm.n12, hm.r12, hm.k13, hm.n13, hm.r13, hm.k14, hm.n14, hm.r14, t14, nI_1, nI_add, nI_clamp, nI_pin, nI_neg, nI_nonneg, nI_leE, nI_ltE, nI_eqE, Nat.not_le, Nat.not_lt, fq_10, fq_01, fq_rr, ix_aald, ix_aast, ix_abs, ix_alen, ix_aload, ix_aret, ix_astore, ix_bald, ix_bast, ix_call, ix_cpyI, ix_cpyJ, ix_dead, ix_dup2, ix_dup2L, ix_dupI, ix_dupR, ix_dupx1, ix_getI, ix_getJ, ix_getR, ix_gfm, ix_gtab, ix_i2b, ix_i2c, ix_i2l, ix_i2s, ix_iadd, ix_iald, ix_iand, ix_iast, ix_icall, ix_icmp_eq, ix_icmp_ge, ix_icmp_gt, ix_icmp_le, ix_icmp_lt, ix_icmp_ne, ix_idiv, ix_if_eq, ix_if_ge, ix_if_gt, ix_if_le, ix_if_lt, ix_if_ne, ix_iinc, ix_iload, ix_imul, ix_ineg, ix_ior, ix_irem, ix_iret, ix_ishl, ix_ishr, ix_istore, ix_isub, ix_iushr, ix_ixor, ix_l2i, ix_ladd, ix_lald, ix_land, ix_last, ix_lcmp, ix_ldcS, ix_ldiv, ix_lload, ix_lmul, ix_lor, ix_lrem, ix_lret, ix_lshl, ix_lstore, ix_lsub, ix_lsw, ix_max, ix_min, ix_new, ix_newa, ix_nret, ix_oinit, ix_pop2L, ix_popI, ix_pushI, ix_pushL, ix_putI, ix_putJ, ix_putR, ix_putZ, ix_sbald, ix_sgetC, ix_sgetV, ix_slen, ix_strc, ix_tald, ix_tsw, ix_vcall, ix_vret, ix_zret, stL, stL2, kilL, popN, fq_sw, fq_lsw, List.map_cons, List.map_nil, List.getElem?_cons_zero, List.getElem?_cons_succ, Option.toList_some, Option.toList_none, List.cons_append, List.nil_append, List.length_cons, List.length_nil, List.sum_cons, List.sum_nil, cat_i, cat_l, cat_r, true_and, and_true, Nat.zero_add, Nat.add_zero, Nat.le_refl, Nat.zero_le, Nat.reduceAdd, Nat.reduceLeDiff, exists_eq_left', Option.some.injEq, not_true_eq_false, not_false_eq_true, false_implies, true_implies, implies_true, and_self, or_true, true_or, or_false, false_or]
    exact hQ
  · exact h.elim
def sp_X12_fails (G : GT) : Sp := fun as S I J z Q => match as with
  | [.ref M, .int k] => rfS S M ∧ I M 18 = 0 ∧ Q (some (.int 0)) S (u2 (u2 I M 18 (if I M 12 = 1 then 1 else k)) M 17 (I M 13)) J z
  | _ => False
set_option maxHeartbeats 4000000 in
set_option maxRecDepth 20000 in
theorem c_X12_fails {l : Launch} {G : GT} {D : Nat} : ∀ as S I J z Q, sp_X12_fails G as S I J z Q → fqCall l G M_X12_fails (D + 0) 0 0 as S I J z Q := by
  intro as S I J z Q h
  unfold sp_X12_fails at h
  split at h
  · next M k =>
    obtain ⟨hm, h0, hQ⟩ := h
    refine fq_enter [some (.ref M), some (.int k)] (by decide +kernel) (Nat.le_of_ble_eq_true rfl) rfl (b_X12_fails_0 _ _ _ _ _ _ _ _ ?_)
    simp (disch := omega) only [B_X12_fails_0, B_X12_fails_21, B_X12_fails_32, hm, hm.k, hm.k1, hm.n1, hm.r1, hm.k2, hm.n2, hm.r2, hm.k3, hm.n3, hm.r3, hm.k4, hm.n4, hm.r4, hm.k5, hm.n5, hm.r5, hm.k6, hm.n6, hm.r6, hm.k7, hm.n7, hm.r7, hm.k8, hm.n8, hm.r8, hm.k9, hm.n9, hm.r9, hm.k10, hm.n10, hm.r10, hm.k11, hm.n11, hm.r11, hm.k12, hm.n12, hm.r12, hm.k13, hm.n13, hm.r13, hm.k14, hm.n14, hm.r14, h0, u2_ck, nI_1, nI_add, nI_clamp, nI_pin, nI_neg, nI_nonneg, nI_leE, nI_ltE, nI_eqE, Nat.not_le, Nat.not_lt, fq_10, fq_01, fq_rr, ix_aald, ix_aast, ix_abs, ix_alen, ix_aload, ix_aret, ix_astore, ix_bald, ix_bast, ix_call, ix_cpyI, ix_cpyJ, ix_dead, ix_dup2, ix_dup2L, ix_dupI, ix_dupR, ix_dupx1, ix_getI, ix_getJ, ix_getR, ix_gfm, ix_gtab, ix_i2b, ix_i2c, ix_i2l, ix_i2s, ix_iadd, ix_iald, ix_iand, ix_iast, ix_icall, ix_icmp_eq, ix_icmp_ge, ix_icmp_gt, ix_icmp_le, ix_icmp_lt, ix_icmp_ne, ix_idiv, ix_if_eq, ix_if_ge, ix_if_gt, ix_if_le, ix_if_lt, ix_if_ne, ix_iinc, ix_iload, ix_imul, ix_ineg, ix_ior, ix_irem, ix_iret, ix_ishl, ix_ishr, ix_istore, ix_isub, ix_iushr, ix_ixor, ix_l2i, ix_ladd, ix_lald, ix_land, ix_last, ix_lcmp, ix_ldcS, ix_ldiv, ix_lload, ix_lmul, ix_lor, ix_lrem, ix_lret, ix_lshl, ix_lstore, ix_lsub, ix_lsw, ix_max, ix_min, ix_new, ix_newa, ix_nret, ix_oinit, ix_pop2L, ix_popI, ix_pushI, ix_pushL, ix_putI, ix_putJ, ix_putR, ix_putZ, ix_sbald, ix_sgetC, ix_sgetV, ix_slen, ix_strc, ix_tald, ix_tsw, ix_vcall, ix_vret, ix_zret, stL, stL2, kilL, popN, fq_sw, fq_lsw, List.map_cons, List.map_nil, List.getElem?_cons_zero, List.getElem?_cons_succ, Option.toList_some, Option.toList_none, List.cons_append, List.nil_append, List.length_cons, List.length_nil, List.sum_cons, List.sum_nil, cat_i, cat_l, cat_r, true_and, and_true, Nat.zero_add, Nat.add_zero, Nat.le_refl, Nat.zero_le, Nat.reduceAdd, Nat.reduceLeDiff, exists_eq_left', Option.some.injEq, not_true_eq_false, not_false_eq_true, false_implies, true_implies, implies_true, and_self, or_true, true_or, or_false, false_or]
    grind
  · exact h.elim
theorem dX12_findHere_0 : decode cX12_findHere 0 = .ok (.iconst 0, 1) := by decide +kernel
theorem dX12_findHere_1 : decode cX12_findHere 1 = .ok (.istore_n 3, 1) := by decide +kernel
theorem dX12_findHere_2 : decode cX12_findHere 2 = .ok (.iload_n 3, 1) := by decide +kernel
theorem dX12_findHere_3 : decode cX12_findHere 3 = .ok (.iload_n 2, 1) := by decide +kernel
theorem dX12_findHere_4 : decode cX12_findHere 4 = .ok (.if_icmp .ge 27, 3) := by decide +kernel
theorem dX12_findHere_7 : decode cX12_findHere 7 = .ok (.aload_n 0, 1) := by decide +kernel
theorem dX12_findHere_8 : decode cX12_findHere 8 = .ok (.getfield 13, 3) := by decide +kernel
theorem dX12_findHere_11 : decode cX12_findHere 11 = .ok (.iload_n 1, 1) := by decide +kernel
theorem dX12_findHere_12 : decode cX12_findHere 12 = .ok (.iload_n 3, 1) := by decide +kernel
theorem dX12_findHere_13 : decode cX12_findHere 13 = .ok (.iadd, 1) := by decide +kernel
theorem dX12_findHere_14 : decode cX12_findHere 14 = .ok (.laload, 1) := by decide +kernel
theorem dX12_findHere_15 : decode cX12_findHere 15 = .ok (.aload_n 0, 1) := by decide +kernel
theorem dX12_findHere_16 : decode cX12_findHere 16 = .ok (.invokevirtual 164, 3) := by decide +kernel
theorem dX12_findHere_19 : decode cX12_findHere 19 = .ok (.lcmp, 1) := by decide +kernel
theorem dX12_findHere_20 : decode cX12_findHere 20 = .ok (.ifCond .ne 5, 3) := by decide +kernel
theorem dX12_findHere_23 : decode cX12_findHere 23 = .ok (.iload_n 3, 1) := by decide +kernel
theorem dX12_findHere_24 : decode cX12_findHere 24 = .ok (.ireturn, 1) := by decide +kernel
theorem dX12_findHere_25 : decode cX12_findHere 25 = .ok (.iinc 3 1, 3) := by decide +kernel
theorem dX12_findHere_28 : decode cX12_findHere 28 = .ok (.goto (-26), 3) := by decide +kernel
theorem dX12_findHere_31 : decode cX12_findHere 31 = .ok (.iconst (-1), 1) := by decide +kernel
theorem dX12_findHere_32 : decode cX12_findHere 32 = .ok (.ireturn, 1) := by decide +kernel
abbrev M_X12_findHere : MT := (yX12_findHere, cX12_findHere, 4, (some .int))
theorem cf_X12_findHere : fq_cf M_X12_findHere 2 := ⟨(mg_1 (List.mem_of_getElem? (i := 15) rfl) rfl), (mg_7 (List.mem_of_getElem? (i := 166) rfl) rfl), ⟨by decide, by decide, by decide +kernel⟩, by decide⟩
def B_X12_findHere_2 (l : Launch) (G : GT) (D mc ms : Nat) (Q : Post) : Cn := ix_iload 3 (ix_iload 2 (ix_icmp_ge (ix_pushI (-1) (ix_iret mc ms Q)) (ix_aload 0 (ix_getR 12 1 (ix_iload 1 (ix_iload 3 (ix_iadd (ix_lald (ix_aload 0 (ix_vcall 12 1 0 0 mc ms (sp_X12_nameHere G) (ix_lcmp (ix_if_ne (ix_iinc 3 1 (fqAt l G M_X12_findHere (D + 2) mc ms Q 2)) (ix_iload 3 (ix_iret mc ms Q))))))))))))))
theorem b_X12_findHere_2 {l : Launch} {G : GT} {D mc ms : Nat} {Q : Post} : Imp l G M_X12_findHere (D + 2) mc ms Q (B_X12_findHere_2 l G D mc ms Q) 2 := sx_iload_n dX12_findHere_2 rfl (sx_iload_n dX12_findHere_3 rfl (sx_icmp_ge 31 dX12_findHere_4 (by decide) (sx_iconst dX12_findHere_31 rfl (sx_iret dX12_findHere_32 rfl)) (sx_aload_n dX12_findHere_7 rfl (sx_getR dX12_findHere_8 fl_FootQuarrelModel_13 (fun _ _ _ => rfl) (sx_iload_n dX12_findHere_11 rfl (sx_iload_n dX12_findHere_12 rfl (sx_iadd dX12_findHere_13 (sx_lald dX12_findHere_14 (sx_aload_n dX12_findHere_15 rfl (sx_vcall dX12_findHere_16 cf_X12_nameHere (mg_7 (List.mem_of_getElem? (i := 167) rfl) rfl) (mg_7 (List.mem_of_getElem? (i := 169) rfl) rfl) (mg_p (List.mem_of_getElem? (i := 63) rfl) rfl) rfl c_X12_nameHere (sx_lcmp dX12_findHere_19 (sx_if_ne 25 dX12_findHere_20 (by decide) (sx_iinc dX12_findHere_25 rfl (by decide) (sx_goto 2 dX12_findHere_28 (by decide) ((fun _ _ _ _ _ _ _ _ h => h)))) (sx_iload_n dX12_findHere_23 rfl (sx_iret dX12_findHere_24 rfl))))))))))))))
def B_X12_findHere_0 (l : Launch) (G : GT) (D mc ms : Nat) (Q : Post) : Cn := ix_pushI 0 (ix_istore 3 (fqAt l G M_X12_findHere (D + 2) mc ms Q 2))
theorem b_X12_findHere_0 {l : Launch} {G : GT} {D mc ms : Nat} {Q : Post} : Imp l G M_X12_findHere (D + 2) mc ms Q (B_X12_findHere_0 l G D mc ms Q) 0 := sx_iconst dX12_findHere_0 rfl (sx_istore_n dX12_findHere_1 rfl (by decide) ((fun _ _ _ _ _ _ _ _ h => h)))
theorem dX12_wantSign_0 : decode cX12_wantSign 0 = .ok (.aload_n 0, 1) := by decide +kernel
theorem dX12_wantSign_1 : decode cX12_wantSign 1 = .ok (.iload_n 1, 1) := by decide +kernel
theorem dX12_wantSign_2 : decode cX12_wantSign 2 = .ok (.invokevirtual 154, 3) := by decide +kernel
theorem dX12_wantSign_5 : decode cX12_wantSign 5 = .ok (.ifCond .ne 9, 3) := by decide +kernel
theorem dX12_wantSign_8 : decode cX12_wantSign 8 = .ok (.aload_n 0, 1) := by decide +kernel
theorem dX12_wantSign_9 : decode cX12_wantSign 9 = .ok (.iconst 2, 1) := by decide +kernel
theorem dX12_wantSign_10 : decode cX12_wantSign 10 = .ok (.invokevirtual 157, 3) := by decide +kernel
theorem dX12_wantSign_13 : decode cX12_wantSign 13 = .ok (.ireturn, 1) := by decide +kernel
theorem dX12_wantSign_14 : decode cX12_wantSign 14 = .ok (.aload_n 0, 1) := by decide +kernel
theorem dX12_wantSign_15 : decode cX12_wantSign 15 = .ok (.invokevirtual 151, 3) := by decide +kernel
theorem dX12_wantSign_18 : decode cX12_wantSign 18 = .ok (.iconst 1, 1) := by decide +kernel
theorem dX12_wantSign_19 : decode cX12_wantSign 19 = .ok (.ireturn, 1) := by decide +kernel
abbrev M_X12_wantSign : MT := (yX12_wantSign, cX12_wantSign, 2, (some .boolean))
theorem cf_X12_wantSign : fq_cf M_X12_wantSign 1 := ⟨(mg_1 (List.mem_of_getElem? (i := 15) rfl) rfl), (mg_7 (List.mem_of_getElem? (i := 195) rfl) rfl), ⟨by decide, by decide, by decide +kernel⟩, by decide⟩
def B_X12_wantSign_0 (G : GT) (mc ms : Nat) (Q : Post) : Cn := ix_aload 0 (ix_iload 1 (ix_vcall 12 2 0 0 mc ms (sp_X12_isSign G) (ix_if_ne (ix_aload 0 (ix_vcall 12 1 0 0 mc ms (sp_X12_ahead G) (ix_pushI 1 (ix_zret mc ms Q)))) (ix_aload 0 (ix_pushI 2 (ix_vcall 12 2 0 0 mc ms (sp_X12_fails G) (ix_zret mc ms Q)))))))
theorem b_X12_wantSign_0 {l : Launch} {G : GT} {D mc ms : Nat} {Q : Post} : Imp l G M_X12_wantSign (D + 2) mc ms Q (B_X12_wantSign_0 G mc ms Q) 0 := sx_aload_n dX12_wantSign_0 rfl (sx_iload_n dX12_wantSign_1 rfl (sx_vcall dX12_wantSign_2 cf_X12_isSign (mg_7 (List.mem_of_getElem? (i := 196) rfl) rfl) (mg_7 (List.mem_of_getElem? (i := 198) rfl) rfl) (mg_p (List.mem_of_getElem? (i := 70) rfl) rfl) rfl c_X12_isSign (sx_if_ne 14 dX12_wantSign_5 (by decide) (sx_aload_n dX12_wantSign_14 rfl (sx_vcall dX12_wantSign_15 cf_X12_ahead (mg_7 (List.mem_of_getElem? (i := 112) rfl) rfl) (mg_7 (List.mem_of_getElem? (i := 114) rfl) rfl) (mg_p (List.mem_of_getElem? (i := 52) rfl) rfl) rfl c_X12_ahead (sx_iconst dX12_wantSign_18 rfl (sx_zret dX12_wantSign_19 rfl)))) (sx_aload_n dX12_wantSign_8 rfl (sx_iconst dX12_wantSign_9 rfl (sx_vcall dX12_wantSign_10 cf_X12_fails (mg_7 (List.mem_of_getElem? (i := 143) rfl) rfl) (mg_7 (List.mem_of_getElem? (i := 145) rfl) rfl) (mg_p (List.mem_of_getElem? (i := 57) rfl) rfl) rfl c_X12_fails (sx_zret dX12_wantSign_13 rfl)))))))
theorem dX12_number_0 : decode cX12_number 0 = .ok (.aload_n 0, 1) := by decide +kernel
theorem dX12_number_1 : decode cX12_number 1 = .ok (.getfield 120, 3) := by decide +kernel
theorem dX12_number_4 : decode cX12_number 4 = .ok (.iconst 3, 1) := by decide +kernel
theorem dX12_number_5 : decode cX12_number 5 = .ok (.if_icmp .eq 9, 3) := by decide +kernel
theorem dX12_number_8 : decode cX12_number 8 = .ok (.aload_n 0, 1) := by decide +kernel
theorem dX12_number_9 : decode cX12_number 9 = .ok (.iconst 2, 1) := by decide +kernel
theorem dX12_number_10 : decode cX12_number 10 = .ok (.invokevirtual 157, 3) := by decide +kernel
theorem dX12_number_13 : decode cX12_number 13 = .ok (.ireturn, 1) := by decide +kernel
theorem dX12_number_14 : decode cX12_number 14 = .ok (.aload_n 0, 1) := by decide +kernel
theorem dX12_number_15 : decode cX12_number 15 = .ok (.getfield 117, 3) := by decide +kernel
theorem dX12_number_18 : decode cX12_number 18 = .ok (.iload_n 2, 1) := by decide +kernel
theorem dX12_number_19 : decode cX12_number 19 = .ok (.if_icmp .lt 11, 3) := by decide +kernel
theorem dX12_number_22 : decode cX12_number 22 = .ok (.aload_n 0, 1) := by decide +kernel
theorem dX12_number_23 : decode cX12_number 23 = .ok (.getfield 117, 3) := by decide +kernel
theorem dX12_number_26 : decode cX12_number 26 = .ok (.iload_n 3, 1) := by decide +kernel
theorem dX12_number_27 : decode cX12_number 27 = .ok (.if_icmp .le 9, 3) := by decide +kernel
theorem dX12_number_30 : decode cX12_number 30 = .ok (.aload_n 0, 1) := by decide +kernel
theorem dX12_number_31 : decode cX12_number 31 = .ok (.iconst 4, 1) := by decide +kernel
theorem dX12_number_32 : decode cX12_number 32 = .ok (.invokevirtual 157, 3) := by decide +kernel
theorem dX12_number_35 : decode cX12_number 35 = .ok (.ireturn, 1) := by decide +kernel
theorem dX12_number_36 : decode cX12_number 36 = .ok (.aload_n 0, 1) := by decide +kernel
theorem dX12_number_37 : decode cX12_number 37 = .ok (.getfield 7, 3) := by decide +kernel
theorem dX12_number_40 : decode cX12_number 40 = .ok (.iload_n 1, 1) := by decide +kernel
theorem dX12_number_41 : decode cX12_number 41 = .ok (.aload_n 0, 1) := by decide +kernel
theorem dX12_number_42 : decode cX12_number 42 = .ok (.getfield 117, 3) := by decide +kernel
theorem dX12_number_45 : decode cX12_number 45 = .ok (.iastore, 1) := by decide +kernel
theorem dX12_number_46 : decode cX12_number 46 = .ok (.aload_n 0, 1) := by decide +kernel
theorem dX12_number_47 : decode cX12_number 47 = .ok (.invokevirtual 151, 3) := by decide +kernel
theorem dX12_number_50 : decode cX12_number 50 = .ok (.iconst 1, 1) := by decide +kernel
theorem dX12_number_51 : decode cX12_number 51 = .ok (.ireturn, 1) := by decide +kernel
abbrev M_X12_number : MT := (yX12_number, cX12_number, 4, (some .boolean))
theorem cf_X12_number : fq_cf M_X12_number 3 := ⟨(mg_1 (List.mem_of_getElem? (i := 15) rfl) rfl), (mg_7 (List.mem_of_getElem? (i := 150) rfl) rfl), ⟨by decide, by decide, by decide +kernel⟩, by decide⟩
def B_X12_number_30 (G : GT) (mc ms : Nat) (Q : Post) : Cn := ix_aload 0 (ix_pushI 4 (ix_vcall 12 2 0 0 mc ms (sp_X12_fails G) (ix_zret mc ms Q)))
theorem b_X12_number_30 {l : Launch} {G : GT} {D mc ms : Nat} {Q : Post} : Imp l G M_X12_number (D + 2) mc ms Q (B_X12_number_30 G mc ms Q) 30 := sx_aload_n dX12_number_30 rfl (sx_iconst dX12_number_31 rfl (sx_vcall dX12_number_32 cf_X12_fails (mg_7 (List.mem_of_getElem? (i := 143) rfl) rfl) (mg_7 (List.mem_of_getElem? (i := 145) rfl) rfl) (mg_p (List.mem_of_getElem? (i := 57) rfl) rfl) rfl c_X12_fails (sx_zret dX12_number_35 rfl)))
def B_X12_number_0 (G : GT) (mc ms : Nat) (Q : Post) : Cn := ix_aload 0 (ix_getI 12 12 (ix_pushI 3 (ix_icmp_eq (ix_aload 0 (ix_getI 12 15 (ix_iload 2 (ix_icmp_lt ((B_X12_number_30 G mc ms Q)) (ix_aload 0 (ix_getI 12 15 (ix_iload 3 (ix_icmp_le (ix_aload 0 (ix_getR 12 0 (ix_iload 1 (ix_aload 0 (ix_getI 12 15 (ix_iast (ix_aload 0 (ix_vcall 12 1 0 0 mc ms (sp_X12_ahead G) (ix_pushI 1 (ix_zret mc ms Q)))))))))) ((B_X12_number_30 G mc ms Q)))))))))) (ix_aload 0 (ix_pushI 2 (ix_vcall 12 2 0 0 mc ms (sp_X12_fails G) (ix_zret mc ms Q)))))))
theorem b_X12_number_0 {l : Launch} {G : GT} {D mc ms : Nat} {Q : Post} : Imp l G M_X12_number (D + 2) mc ms Q (B_X12_number_0 G mc ms Q) 0 := sx_aload_n dX12_number_0 rfl (sx_getI dX12_number_1 fl_FootQuarrelModel_120 (fun _ _ _ => rfl) (sx_iconst dX12_number_4 rfl (sx_icmp_eq 14 dX12_number_5 (by decide) (sx_aload_n dX12_number_14 rfl (sx_getI dX12_number_15 fl_FootQuarrelModel_117 (fun _ _ _ => rfl) (sx_iload_n dX12_number_18 rfl (sx_icmp_lt 30 dX12_number_19 (by decide) (b_X12_number_30) (sx_aload_n dX12_number_22 rfl (sx_getI dX12_number_23 fl_FootQuarrelModel_117 (fun _ _ _ => rfl) (sx_iload_n dX12_number_26 rfl (sx_icmp_le 36 dX12_number_27 (by decide) (sx_aload_n dX12_number_36 rfl (sx_getR dX12_number_37 fl_FootQuarrelModel_7 (fun _ _ _ => rfl) (sx_iload_n dX12_number_40 rfl (sx_aload_n dX12_number_41 rfl (sx_getI dX12_number_42 fl_FootQuarrelModel_117 (fun _ _ _ => rfl) (sx_iast dX12_number_45 (sx_aload_n dX12_number_46 rfl (sx_vcall dX12_number_47 cf_X12_ahead (mg_7 (List.mem_of_getElem? (i := 112) rfl) rfl) (mg_7 (List.mem_of_getElem? (i := 114) rfl) rfl) (mg_p (List.mem_of_getElem? (i := 52) rfl) rfl) rfl c_X12_ahead (sx_iconst dX12_number_50 rfl (sx_zret dX12_number_51 rfl)))))))))) (b_X12_number_30))))))))) (sx_aload_n dX12_number_8 rfl (sx_iconst dX12_number_9 rfl (sx_vcall dX12_number_10 cf_X12_fails (mg_7 (List.mem_of_getElem? (i := 143) rfl) rfl) (mg_7 (List.mem_of_getElem? (i := 145) rfl) rfl) (mg_p (List.mem_of_getElem? (i := 57) rfl) rfl) rfl c_X12_fails (sx_zret dX12_number_13 rfl)))))))
theorem dX12_isName_0 : decode cX12_isName 0 = .ok (.aload_n 0, 1) := by decide +kernel
theorem dX12_isName_1 : decode cX12_isName 1 = .ok (.getfield 120, 3) := by decide +kernel
theorem dX12_isName_4 : decode cX12_isName 4 = .ok (.iconst 2, 1) := by decide +kernel
theorem dX12_isName_5 : decode cX12_isName 5 = .ok (.if_icmp .ne 30, 3) := by decide +kernel
theorem dX12_isName_8 : decode cX12_isName 8 = .ok (.aload_n 0, 1) := by decide +kernel
theorem dX12_isName_9 : decode cX12_isName 9 = .ok (.getfield 108, 3) := by decide +kernel
theorem dX12_isName_12 : decode cX12_isName 12 = .ok (.aload_n 0, 1) := by decide +kernel
theorem dX12_isName_13 : decode cX12_isName 13 = .ok (.getfield 114, 3) := by decide +kernel
theorem dX12_isName_16 : decode cX12_isName 16 = .ok (.isub, 1) := by decide +kernel
theorem dX12_isName_17 : decode cX12_isName 17 = .ok (.bipush 8, 2) := by decide +kernel
theorem dX12_isName_19 : decode cX12_isName 19 = .ok (.if_icmp .gt 16, 3) := by decide +kernel
theorem dX12_isName_22 : decode cX12_isName 22 = .ok (.aload_n 0, 1) := by decide +kernel
theorem dX12_isName_23 : decode cX12_isName 23 = .ok (.aload_n 1, 1) := by decide +kernel
theorem dX12_isName_24 : decode cX12_isName 24 = .ok (.invokevirtual 160, 3) := by decide +kernel
theorem dX12_isName_27 : decode cX12_isName 27 = .ok (.iconst (-1), 1) := by decide +kernel
theorem dX12_isName_28 : decode cX12_isName 28 = .ok (.if_icmp .ne 7, 3) := by decide +kernel
theorem dX12_isName_31 : decode cX12_isName 31 = .ok (.iconst 1, 1) := by decide +kernel
theorem dX12_isName_32 : decode cX12_isName 32 = .ok (.goto 4, 3) := by decide +kernel
theorem dX12_isName_35 : decode cX12_isName 35 = .ok (.iconst 0, 1) := by decide +kernel
theorem dX12_isName_36 : decode cX12_isName 36 = .ok (.ireturn, 1) := by decide +kernel
abbrev M_X12_isName : MT := (yX12_isName, cX12_isName, 2, (some .boolean))
theorem cf_X12_isName : fq_cf M_X12_isName 1 := ⟨(mg_1 (List.mem_of_getElem? (i := 15) rfl) rfl), (mg_7 (List.mem_of_getElem? (i := 162) rfl) rfl), ⟨by decide, by decide, by decide +kernel⟩, by decide⟩
def B_X12_isName_36 (G : GT) (mc ms : Nat) (Q : Post) : Cn := ix_zret mc ms Q
theorem b_X12_isName_36 {l : Launch} {G : GT} {D mc ms : Nat} {Q : Post} : Imp l G M_X12_isName (D + 5) mc ms Q (B_X12_isName_36 G mc ms Q) 36 := sx_zret dX12_isName_36 rfl
def B_X12_isName_35 (G : GT) (mc ms : Nat) (Q : Post) : Cn := ix_pushI 0 ((B_X12_isName_36 G mc ms Q))
theorem b_X12_isName_35 {l : Launch} {G : GT} {D mc ms : Nat} {Q : Post} : Imp l G M_X12_isName (D + 5) mc ms Q (B_X12_isName_35 G mc ms Q) 35 := sx_iconst dX12_isName_35 rfl (b_X12_isName_36)
def B_X12_isName_0 (G : GT) (mc ms : Nat) (Q : Post) : Cn := ix_aload 0 (ix_getI 12 12 (ix_pushI 2 (ix_icmp_ne ((B_X12_isName_35 G mc ms Q)) (ix_aload 0 (ix_getI 12 14 (ix_aload 0 (ix_getI 12 13 (ix_isub (ix_pushI 8 (ix_icmp_gt ((B_X12_isName_35 G mc ms Q)) (ix_aload 0 (ix_aload 1 (ix_vcall 12 2 0 0 mc ms (sp_X12_inWords G) (ix_pushI (-1) (ix_icmp_ne ((B_X12_isName_35 G mc ms Q)) (ix_pushI 1 ((B_X12_isName_36 G mc ms Q))))))))))))))))))
theorem b_X12_isName_0 {l : Launch} {G : GT} {D mc ms : Nat} {Q : Post} : Imp l G M_X12_isName (D + 5) mc ms Q (B_X12_isName_0 G mc ms Q) 0 := sx_aload_n dX12_isName_0 rfl (sx_getI dX12_isName_1 fl_FootQuarrelModel_120 (fun _ _ _ => rfl) (sx_iconst dX12_isName_4 rfl (sx_icmp_ne 35 dX12_isName_5 (by decide) (b_X12_isName_35) (sx_aload_n dX12_isName_8 rfl (sx_getI dX12_isName_9 fl_FootQuarrelModel_108 (fun _ _ _ => rfl) (sx_aload_n dX12_isName_12 rfl (sx_getI dX12_isName_13 fl_FootQuarrelModel_114 (fun _ _ _ => rfl) (sx_isub dX12_isName_16 (sx_bipush dX12_isName_17 rfl (sx_icmp_gt 35 dX12_isName_19 (by decide) (b_X12_isName_35) (sx_aload_n dX12_isName_22 rfl (sx_aload_n dX12_isName_23 rfl (sx_vcall dX12_isName_24 cf_X12_inWords (mg_7 (List.mem_of_getElem? (i := 137) rfl) rfl) (mg_7 (List.mem_of_getElem? (i := 139) rfl) rfl) (mg_p (List.mem_of_getElem? (i := 56) rfl) rfl) rfl c_X12_inWords (sx_iconst dX12_isName_27 rfl (sx_icmp_ne 35 dX12_isName_28 (by decide) (b_X12_isName_35) (sx_iconst dX12_isName_31 rfl (sx_goto 36 dX12_isName_32 (by decide) (b_X12_isName_36))))))))))))))))))
/-- a name looked up among many from b on -/
def fnH (N : Nat → Int64) (b m : Nat) (v : Int64) : Int32 := fndU (fun k => decide (N (b + k) = v)) 0 m
def sp_X12_findHere (G : GT) : Sp := fun as S I J z Q => match as with
  | [.ref M, .int b, .int m] => rfS S M ∧ okN b 70 ∧ okN m 8 ∧ ∃ n e, n ≤ 900 ∧ e ≤ n ∧ tkH M I n e ∧ Q (some (.int (fnH (J (M + 2)) b.toNatClampNeg m.toNatClampNeg (nmH (I (M + 7)) n e)))) S I J z
  | _ => False
set_option maxHeartbeats 4000000 in
set_option maxRecDepth 20000 in
theorem c_X12_findHere {l : Launch} {G : GT} {D : Nat} : ∀ as S I J z Q, sp_X12_findHere G as S I J z Q → fqCall l G M_X12_findHere (D + 2) 0 0 as S I J z Q := by
  intro as S I J z Q h
  unfold sp_X12_findHere at h
  split at h
  · next M b m =>
    obtain ⟨hm, hb, hmm, n, e, hn, he, hT, hQ⟩ := h
    obtain ⟨b, hb9, rfl, hb2⟩ := hb.ex
    obtain ⟨m, hm9, rfl, hm2⟩ := hmm.ex
    rw [hb2, hm2] at hQ
    unfold fnH at hQ
    have lp := loopF (N := m) (p := fun k => decide (J (M + 2) (b + k) = nmH (I (M + 7)) n e)) (R := fun v => Q (some (.int v)) S I J z) (B := fun i => fqAt l G M_X12_findHere (D + 2) 0 0 Q 2 [some (.ref M), some (.int (nI b)), some (.int (nI m)), some (.int (nI i))] [] S I J z 0 0) (by
      intro i hi h1 h2
      refine b_X12_findHere_2 _ _ _ _ _ _ _ _ ?_
      simp (disch := omega) only [B_X12_findHere_0, B_X12_findHere_2, sp_X12_nameHere, hm, hm.k, hm.k1, hm.n1, hm.r1, hm.k2, hm.n2, hm.r2, hm.k3, hm.n3, hm.r3, hm.k4, hm.n4, hm.r4, hm.k5, hm.n5, hm.r5, hm.k6, hm.n6, hm.r6, hm.k7, hm.n7, hm.r7, hm.k8, hm.n8, hm.r8, hm.k9, hm.n9, hm.r9, hm.k10, hm.n10, hm.r10, hm.k11, hm.n11, hm.r11, hm.k12, hm.n12, hm.r12, hm.k13, hm.n13, hm.r13, hm.k14, hm.n14, hm.r14, lg_cmp_eq, nI_1, nI_add, nI_clamp, nI_pin, nI_neg, nI_nonneg, nI_leE, nI_ltE, nI_eqE, Nat.not_le, Nat.not_lt, fq_10, fq_01, fq_rr, ix_aald, ix_aast, ix_abs, ix_alen, ix_aload, ix_aret, ix_astore, ix_bald, ix_bast, ix_call, ix_cpyI, ix_cpyJ, ix_dead, ix_dup2, ix_dup2L, ix_dupI, ix_dupR, ix_dupx1, ix_getI, ix_getJ, ix_getR, ix_gfm, ix_gtab, ix_i2b, ix_i2c, ix_i2l, ix_i2s, ix_iadd, ix_iald, ix_iand, ix_iast, ix_icall, ix_icmp_eq, ix_icmp_ge, ix_icmp_gt, ix_icmp_le, ix_icmp_lt, ix_icmp_ne, ix_idiv, ix_if_eq, ix_if_ge, ix_if_gt, ix_if_le, ix_if_lt, ix_if_ne, ix_iinc, ix_iload, ix_imul, ix_ineg, ix_ior, ix_irem, ix_iret, ix_ishl, ix_ishr, ix_istore, ix_isub, ix_iushr, ix_ixor, ix_l2i, ix_ladd, ix_lald, ix_land, ix_last, ix_lcmp, ix_ldcS, ix_ldiv, ix_lload, ix_lmul, ix_lor, ix_lrem, ix_lret, ix_lshl, ix_lstore, ix_lsub, ix_lsw, ix_max, ix_min, ix_new, ix_newa, ix_nret, ix_oinit, ix_pop2L, ix_popI, ix_pushI, ix_pushL, ix_putI, ix_putJ, ix_putR, ix_putZ, ix_sbald, ix_sgetC, ix_sgetV, ix_slen, ix_strc, ix_tald, ix_tsw, ix_vcall, ix_vret, ix_zret, stL, stL2, kilL, popN, fq_sw, fq_lsw, List.map_cons, List.map_nil, List.getElem?_cons_zero, List.getElem?_cons_succ, Option.toList_some, Option.toList_none, List.cons_append, List.nil_append, List.length_cons, List.length_nil, List.sum_cons, List.sum_nil, cat_i, cat_l, cat_r, true_and, and_true, Nat.zero_add, Nat.add_zero, Nat.le_refl, Nat.zero_le, Nat.reduceAdd, Nat.reduceLeDiff, exists_eq_left', Option.some.injEq, not_true_eq_false, not_false_eq_true, false_implies, true_implies, implies_true, and_self, or_true, true_or, or_false, false_or]
      refine ⟨fun h => absurd h (by omega), fun _ => ⟨n, e, hn, he, hT, fun h => h2 (decide_eq_false h), fun h => h1 (decide_eq_true h)⟩⟩) (by
      intro h1
      refine b_X12_findHere_2 _ _ _ _ _ _ _ _ ?_
      simp (disch := omega) only [B_X12_findHere_0, B_X12_findHere_2, sp_X12_nameHere, hm, hm.k, hm.k1, hm.n1, hm.r1, hm.k2, hm.n2, hm.r2, hm.k3, hm.n3, hm.r3, hm.k4, hm.n4, hm.r4, hm.k5, hm.n5, hm.r5, hm.k6, hm.n6, hm.r6, hm.k7, hm.n7, hm.r7, hm.k8, hm.n8, hm.r8, hm.k9, hm.n9, hm.r9, hm.k10, hm.n10, hm.r10, hm.k11, hm.n11, hm.r11, hm.k12, hm.n12, hm.r12, hm.k13, hm.n13, hm.r13, hm.k14, hm.n14, hm.r14, nI_1, nI_add, nI_clamp, nI_pin, nI_neg, nI_nonneg, nI_leE, nI_ltE, nI_eqE, Nat.not_le, Nat.not_lt, fq_10, fq_01, fq_rr, ix_aald, ix_aast, ix_abs, ix_alen, ix_aload, ix_aret, ix_astore, ix_bald, ix_bast, ix_call, ix_cpyI, ix_cpyJ, ix_dead, ix_dup2, ix_dup2L, ix_dupI, ix_dupR, ix_dupx1, ix_getI, ix_getJ, ix_getR, ix_gfm, ix_gtab, ix_i2b, ix_i2c, ix_i2l, ix_i2s, ix_iadd, ix_iald, ix_iand, ix_iast, ix_icall, ix_icmp_eq, ix_icmp_ge, ix_icmp_gt, ix_icmp_le, ix_icmp_lt, ix_icmp_ne, ix_idiv, ix_if_eq, ix_if_ge, ix_if_gt, ix_if_le, ix_if_lt, ix_if_ne, ix_iinc, ix_iload, ix_imul, ix_ineg, ix_ior, ix_irem, ix_iret, ix_ishl, ix_ishr, ix_istore, ix_isub, ix_iushr, ix_ixor, ix_l2i, ix_ladd, ix_lald, ix_land, ix_last, ix_lcmp, ix_ldcS, ix_ldiv, ix_lload, ix_lmul, ix_lor, ix_lrem, ix_lret, ix_lshl, ix_lstore, ix_lsub, ix_lsw, ix_max, ix_min, ix_new, ix_newa, ix_nret, ix_oinit, ix_pop2L, ix_popI, ix_pushI, ix_pushL, ix_putI, ix_putJ, ix_putR, ix_putZ, ix_sbald, ix_sgetC, ix_sgetV, ix_slen, ix_strc, ix_tald, ix_tsw, ix_vcall, ix_vret, ix_zret, stL, stL2, kilL, popN, fq_sw, fq_lsw, List.map_cons, List.map_nil, List.getElem?_cons_zero, List.getElem?_cons_succ, Option.toList_some, Option.toList_none, List.cons_append, List.nil_append, List.length_cons, List.length_nil, List.sum_cons, List.sum_nil, cat_i, cat_l, cat_r, true_and, and_true, Nat.zero_add, Nat.add_zero, Nat.le_refl, Nat.zero_le, Nat.reduceAdd, Nat.reduceLeDiff, exists_eq_left', Option.some.injEq, not_true_eq_false, not_false_eq_true, false_implies, true_implies, implies_true, and_self, or_true, true_or, or_false, false_or]
      exact h1) m 0 (by omega) hQ
    refine fq_enter [some (.ref M), some (.int (nI b)), some (.int (nI m)), none] (by decide +kernel) (Nat.le_of_ble_eq_true rfl) rfl (b_X12_findHere_0 _ _ _ _ _ _ _ _ ?_)
    simp (disch := omega) only [B_X12_findHere_0, B_X12_findHere_2, sp_X12_nameHere, hm, hm.k, hm.k1, hm.n1, hm.r1, hm.k2, hm.n2, hm.r2, hm.k3, hm.n3, hm.r3, hm.k4, hm.n4, hm.r4, hm.k5, hm.n5, hm.r5, hm.k6, hm.n6, hm.r6, hm.k7, hm.n7, hm.r7, hm.k8, hm.n8, hm.r8, hm.k9, hm.n9, hm.r9, hm.k10, hm.n10, hm.r10, hm.k11, hm.n11, hm.r11, hm.k12, hm.n12, hm.r12, hm.k13, hm.n13, hm.r13, hm.k14, hm.n14, hm.r14, nI_1, nI_add, nI_clamp, nI_pin, nI_neg, nI_nonneg, nI_leE, nI_ltE, nI_eqE, Nat.not_le, Nat.not_lt, fq_10, fq_01, fq_rr, ix_aald, ix_aast, ix_abs, ix_alen, ix_aload, ix_aret, ix_astore, ix_bald, ix_bast, ix_call, ix_cpyI, ix_cpyJ, ix_dead, ix_dup2, ix_dup2L, ix_dupI, ix_dupR, ix_dupx1, ix_getI, ix_getJ, ix_getR, ix_gfm, ix_gtab, ix_i2b, ix_i2c, ix_i2l, ix_i2s, ix_iadd, ix_iald, ix_iand, ix_iast, ix_icall, ix_icmp_eq, ix_icmp_ge, ix_icmp_gt, ix_icmp_le, ix_icmp_lt, ix_icmp_ne, ix_idiv, ix_if_eq, ix_if_ge, ix_if_gt, ix_if_le, ix_if_lt, ix_if_ne, ix_iinc, ix_iload, ix_imul, ix_ineg, ix_ior, ix_irem, ix_iret, ix_ishl, ix_ishr, ix_istore, ix_isub, ix_iushr, ix_ixor, ix_l2i, ix_ladd, ix_lald, ix_land, ix_last, ix_lcmp, ix_ldcS, ix_ldiv, ix_lload, ix_lmul, ix_lor, ix_lrem, ix_lret, ix_lshl, ix_lstore, ix_lsub, ix_lsw, ix_max, ix_min, ix_new, ix_newa, ix_nret, ix_oinit, ix_pop2L, ix_popI, ix_pushI, ix_pushL, ix_putI, ix_putJ, ix_putR, ix_putZ, ix_sbald, ix_sgetC, ix_sgetV, ix_slen, ix_strc, ix_tald, ix_tsw, ix_vcall, ix_vret, ix_zret, stL, stL2, kilL, popN, fq_sw, fq_lsw, List.map_cons, List.map_nil, List.getElem?_cons_zero, List.getElem?_cons_succ, Option.toList_some, Option.toList_none, List.cons_append, List.nil_append, List.length_cons, List.length_nil, List.sum_cons, List.sum_nil, cat_i, cat_l, cat_r, true_and, and_true, Nat.zero_add, Nat.add_zero, Nat.le_refl, Nat.zero_le, Nat.reduceAdd, Nat.reduceLeDiff, exists_eq_left', Option.some.injEq, not_true_eq_false, not_false_eq_true, false_implies, true_implies, implies_true, and_self, or_true, true_or, or_false, false_or]
    exact lp
  · exact h.elim
/-- a fault told -/
def flI (I : IH) (M : Nat) (k : Int32) : IH := u2 (u2 I M 18 (if I M 12 = 1 then 1 else k)) M 17 (I M 13)
/-- the token is taken: what changed -/
def adV (M : Nat) (I I' : IH) (A : Nat → Int32) (n e : Nat) : Prop := (∀ a, a ≠ M → a ≠ M + 1 → I' a = I a) ∧ (∀ k, k ≠ 12 → k ≠ 13 → k ≠ 14 → k ≠ 15 → I' M k = I M k) ∧ I' (M + 1) = A ∧ tkH M I' n (tE (I (M + 7)) n e)
def sp_X12_wantSign (G : GT) : Sp := fun as S I J z Q => match as with
  | [.ref M, .int c] => rfS S M ∧ I M 18 = 0 ∧ ∃ n e, n ≤ 900 ∧ e ≤ n ∧ tkH M I n e ∧ (¬ (tK (I (M + 7)) n e = 4 ∧ tV (I (M + 7)) n e = c) → Q (some (.int 0)) S (flI I M 2) J z) ∧ (tK (I (M + 7)) n e = 4 ∧ tV (I (M + 7)) n e = c → ∀ I', adV M I I' (I (M + 1)) n e → Q (some (.int 1)) S I' J z)
  | _ => False
theorem adV_a {M : Nat} {I I' : IH} {n e : Nat} (h : ahF M I I') (g : tkH M I' n (tE (I (M + 7)) n e)) : adV M I I' (I (M + 1)) n e := ⟨fun a h1 _ => h.1 a h1, h.2, h.1 _ (by omega), g⟩
set_option maxHeartbeats 4000000 in
set_option maxRecDepth 20000 in
theorem c_X12_wantSign {l : Launch} {G : GT} {D : Nat} : ∀ as S I J z Q, sp_X12_wantSign G as S I J z Q → fqCall l G M_X12_wantSign (D + 2) 0 0 as S I J z Q := by
  intro as S I J z Q h
  unfold sp_X12_wantSign at h
  split at h
  · next M c =>
    obtain ⟨hm, h0, n, e, hn, he, hT, hQ1, hQ2⟩ := h
    obtain ⟨t11, t12, t13, t14, t15⟩ := hT
    obtain ⟨b1, b2, b3, b4⟩ := tFE (T := I (M + 7)) he
    refine fq_enter [some (.ref M), some (.int c)] (by decide +kernel) (Nat.le_of_ble_eq_true rfl) rfl (b_X12_wantSign_0 _ _ _ _ _ _ _ _ ?_)
    simp (disch := omega) only [B_X12_wantSign_0, sp_X12_isSign, B_X12_isSign_0, B_X12_isSign_20, B_X12_isSign_21, sp_X12_fails, sp_X12_ahead, hm, hm.k, hm.k1, hm.n1, hm.r1, hm.k2, hm.n2, hm.r2, hm.k3, hm.n3, hm.r3, hm.k4, hm.n4, hm.r4, hm.k5, hm.n5, hm.r5, hm.k6, hm.n6, hm.r6, hm.k7, hm.n7, hm.r7, hm.k8, hm.n8, hm.r8, hm.k9, hm.n9, hm.r9, hm.k10, hm.n10, hm.r10, hm.k11, hm.n11, hm.r11, hm.k12, hm.n12, hm.r12, hm.k13, hm.n13, hm.r13, hm.k14, hm.n14, hm.r14, t12, t15, h0, nI_1, nI_add, nI_clamp, nI_pin, nI_neg, nI_nonneg, nI_leE, nI_ltE, nI_eqE, Nat.not_le, Nat.not_lt, fq_10, fq_01, fq_rr, ix_aald, ix_aast, ix_abs, ix_alen, ix_aload, ix_aret, ix_astore, ix_bald, ix_bast, ix_call, ix_cpyI, ix_cpyJ, ix_dead, ix_dup2, ix_dup2L, ix_dupI, ix_dupR, ix_dupx1, ix_getI, ix_getJ, ix_getR, ix_gfm, ix_gtab, ix_i2b, ix_i2c, ix_i2l, ix_i2s, ix_iadd, ix_iald, ix_iand, ix_iast, ix_icall, ix_icmp_eq, ix_icmp_ge, ix_icmp_gt, ix_icmp_le, ix_icmp_lt, ix_icmp_ne, ix_idiv, ix_if_eq, ix_if_ge, ix_if_gt, ix_if_le, ix_if_lt, ix_if_ne, ix_iinc, ix_iload, ix_imul, ix_ineg, ix_ior, ix_irem, ix_iret, ix_ishl, ix_ishr, ix_istore, ix_isub, ix_iushr, ix_ixor, ix_l2i, ix_ladd, ix_lald, ix_land, ix_last, ix_lcmp, ix_ldcS, ix_ldiv, ix_lload, ix_lmul, ix_lor, ix_lrem, ix_lret, ix_lshl, ix_lstore, ix_lsub, ix_lsw, ix_max, ix_min, ix_new, ix_newa, ix_nret, ix_oinit, ix_pop2L, ix_popI, ix_pushI, ix_pushL, ix_putI, ix_putJ, ix_putR, ix_putZ, ix_sbald, ix_sgetC, ix_sgetV, ix_slen, ix_strc, ix_tald, ix_tsw, ix_vcall, ix_vret, ix_zret, stL, stL2, kilL, popN, fq_sw, fq_lsw, List.map_cons, List.map_nil, List.getElem?_cons_zero, List.getElem?_cons_succ, Option.toList_some, Option.toList_none, List.cons_append, List.nil_append, List.length_cons, List.length_nil, List.sum_cons, List.sum_nil, cat_i, cat_l, cat_r, true_and, and_true, Nat.zero_add, Nat.add_zero, Nat.le_refl, Nat.zero_le, Nat.reduceAdd, Nat.reduceLeDiff, exists_eq_left', Option.some.injEq, not_true_eq_false, not_false_eq_true, false_implies, true_implies, implies_true, and_self, or_true, true_or, or_false, false_or]
    unfold flI at hQ1
    rw [t12] at hQ1
    exact ⟨fun h => hQ1 (fun q => h q.1), fun h => ⟨fun h2 => hQ1 (fun q => h2 q.2), fun h2 => ⟨n, _, t11, hn, t14, b4, fun I' hF hT' => hQ2 ⟨h, h2⟩ I' (adV_a hF hT')⟩⟩⟩
  · exact h.elim
def sp_X12_number (G : GT) : Sp := fun as S I J z Q => match as with
  | [.ref M, .int t, .int lo, .int hi] => rfS S M ∧ I M 18 = 0 ∧ ∃ n e k, n ≤ 900 ∧ e ≤ n ∧ t = nI k ∧ k < 4694 ∧ tkH M I n e ∧ (¬ tK (I (M + 7)) n e = 3 → Q (some (.int 0)) S (flI I M 2) J z) ∧ (tK (I (M + 7)) n e = 3 → (¬ (lo ≤ tV (I (M + 7)) n e ∧ tV (I (M + 7)) n e ≤ hi) → Q (some (.int 0)) S (flI I M 4) J z) ∧ (lo ≤ tV (I (M + 7)) n e ∧ tV (I (M + 7)) n e ≤ hi → ∀ I', adV M I I' (uA (I (M + 1)) k (tV (I (M + 7)) n e)) n e → Q (some (.int 1)) S I' J z))
  | _ => False
set_option maxHeartbeats 4000000 in
set_option maxRecDepth 20000 in
theorem c_X12_number {l : Launch} {G : GT} {D : Nat} : ∀ as S I J z Q, sp_X12_number G as S I J z Q → fqCall l G M_X12_number (D + 2) 0 0 as S I J z Q := by
  intro as S I J z Q h
  unfold sp_X12_number at h
  split at h
  · next M t lo hi =>
    obtain ⟨hm, h0, n, e, k, hn, he, rfl, hk, hT, hQ1, hQ2⟩ := h
    obtain ⟨t11, t12, t13, t14, t15⟩ := hT
    obtain ⟨b1, b2, b3, b4⟩ := tFE (T := I (M + 7)) he
    unfold flI at hQ1 hQ2
    rw [t12] at hQ1 hQ2
    refine fq_enter [some (.ref M), some (.int (nI k)), some (.int lo), some (.int hi)] (by decide +kernel) (Nat.le_of_ble_eq_true rfl) rfl (b_X12_number_0 _ _ _ _ _ _ _ _ ?_)
    simp (disch := omega) only [B_X12_number_0, B_X12_number_30, sp_X12_fails, sp_X12_ahead, hm, hm.k, hm.k1, hm.n1, hm.r1, hm.k2, hm.n2, hm.r2, hm.k3, hm.n3, hm.r3, hm.k4, hm.n4, hm.r4, hm.k5, hm.n5, hm.r5, hm.k6, hm.n6, hm.r6, hm.k7, hm.n7, hm.r7, hm.k8, hm.n8, hm.r8, hm.k9, hm.n9, hm.r9, hm.k10, hm.n10, hm.r10, hm.k11, hm.n11, hm.r11, hm.k12, hm.n12, hm.r12, hm.k13, hm.n13, hm.r13, hm.k14, hm.n14, hm.r14, t12, t15, h0, nI_1, nI_add, nI_clamp, nI_pin, nI_neg, nI_nonneg, nI_leE, nI_ltE, nI_eqE, Nat.not_le, Nat.not_lt, fq_10, fq_01, fq_rr, ix_aald, ix_aast, ix_abs, ix_alen, ix_aload, ix_aret, ix_astore, ix_bald, ix_bast, ix_call, ix_cpyI, ix_cpyJ, ix_dead, ix_dup2, ix_dup2L, ix_dupI, ix_dupR, ix_dupx1, ix_getI, ix_getJ, ix_getR, ix_gfm, ix_gtab, ix_i2b, ix_i2c, ix_i2l, ix_i2s, ix_iadd, ix_iald, ix_iand, ix_iast, ix_icall, ix_icmp_eq, ix_icmp_ge, ix_icmp_gt, ix_icmp_le, ix_icmp_lt, ix_icmp_ne, ix_idiv, ix_if_eq, ix_if_ge, ix_if_gt, ix_if_le, ix_if_lt, ix_if_ne, ix_iinc, ix_iload, ix_imul, ix_ineg, ix_ior, ix_irem, ix_iret, ix_ishl, ix_ishr, ix_istore, ix_isub, ix_iushr, ix_ixor, ix_l2i, ix_ladd, ix_lald, ix_land, ix_last, ix_lcmp, ix_ldcS, ix_ldiv, ix_lload, ix_lmul, ix_lor, ix_lrem, ix_lret, ix_lshl, ix_lstore, ix_lsub, ix_lsw, ix_max, ix_min, ix_new, ix_newa, ix_nret, ix_oinit, ix_pop2L, ix_popI, ix_pushI, ix_pushL, ix_putI, ix_putJ, ix_putR, ix_putZ, ix_sbald, ix_sgetC, ix_sgetV, ix_slen, ix_strc, ix_tald, ix_tsw, ix_vcall, ix_vret, ix_zret, stL, stL2, kilL, popN, fq_sw, fq_lsw, List.map_cons, List.map_nil, List.getElem?_cons_zero, List.getElem?_cons_succ, Option.toList_some, Option.toList_none, List.cons_append, List.nil_append, List.length_cons, List.length_nil, List.sum_cons, List.sum_nil, cat_i, cat_l, cat_r, true_and, and_true, Nat.zero_add, Nat.add_zero, Nat.le_refl, Nat.zero_le, Nat.reduceAdd, Nat.reduceLeDiff, exists_eq_left', Option.some.injEq, not_true_eq_false, not_false_eq_true, false_implies, true_implies, implies_true, and_self, or_true, true_or, or_false, false_or]
    refine ⟨fun h => ⟨fun h2 => (hQ2 h).1 (fun q => Int32.not_le.mpr h2 q.1), fun h2 => ⟨fun h3 => ?_, fun h3 => (hQ2 h).1 (fun q => h3 q.2)⟩⟩, fun h => hQ1 h⟩
    have e7 : u2 I (M + 1) k (tV (I (M + 7)) n e) (M + 7) = I (M + 7) := u2_ne (by omega)
    refine ⟨n, _, by rw [u2_ca _ _ _ _ _ _ (by omega)]; exact t11, hn, by rw [u2_ca _ _ _ _ _ _ (by omega)]; exact t14, b4, fun I' hF hT' => (hQ2 h).2 ⟨Int32.not_lt.mp h2, h3⟩ I' ⟨fun a h1 h2 => by rw [hF.1 a h1, u2_ne h2], fun j h1 h2 h3 h4 => by rw [hF.2 j h1 h2 h3 h4, u2_ca _ _ _ _ _ _ (by omega)], by rw [hF.1 _ (by omega), u2_up0, up1_at], hT'⟩⟩
  · exact h.elim
abbrev isNm (T : Nat → Int32) (n e : Nat) : Prop := tK T n e = 2 ∧ tE T n e - tF T n e ≤ 8 ∧ kwI T n e = -1
def sp_X12_isName (G : GT) : Sp := fun as S I J z Q => match as with
  | [.ref M, .ref s] => rfS S M ∧ s = G.2.2.2 5 ∧ ∃ n e, n ≤ 900 ∧ e ≤ n ∧ tkH M I n e ∧ Q (some (.int (bI (isNm (I (M + 7)) n e)))) S I J z
  | _ => False
set_option maxHeartbeats 4000000 in
set_option maxRecDepth 20000 in
theorem c_X12_isName {l : Launch} {G : GT} {D : Nat} : ∀ as S I J z Q, sp_X12_isName G as S I J z Q → fqCall l G M_X12_isName (D + 5) 0 0 as S I J z Q := by
  intro as S I J z Q h
  unfold sp_X12_isName at h
  split at h
  · next M s =>
    obtain ⟨hm, rfl, n, e, hn, he, hT, hQ⟩ := h
    have hT' := hT
    obtain ⟨t11, t12, t13, t14, t15⟩ := hT
    obtain ⟨b1, b2, b3, b4⟩ := tFE (T := I (M + 7)) he
    have dl : nI (tE (I (M + 7)) n e) - nI (tF (I (M + 7)) n e) = nI (tE (I (M + 7)) n e - tF (I (M + 7)) n e) := nI_s _ _ b3
    refine fq_enter [some (.ref M), some (.ref (G.2.2.2 5))] (by decide +kernel) (Nat.le_of_ble_eq_true rfl) rfl (b_X12_isName_0 _ _ _ _ _ _ _ _ ?_)
    simp (disch := omega) only [B_X12_isName_0, B_X12_isName_35, B_X12_isName_36, sp_X12_inWords, hm, hm.k, hm.k1, hm.n1, hm.r1, hm.k2, hm.n2, hm.r2, hm.k3, hm.n3, hm.r3, hm.k4, hm.n4, hm.r4, hm.k5, hm.n5, hm.r5, hm.k6, hm.n6, hm.r6, hm.k7, hm.n7, hm.r7, hm.k8, hm.n8, hm.r8, hm.k9, hm.n9, hm.r9, hm.k10, hm.n10, hm.r10, hm.k11, hm.n11, hm.r11, hm.k12, hm.n12, hm.r12, hm.k13, hm.n13, hm.r13, hm.k14, hm.n14, hm.r14, t12, t13, t14, dl, li_8, nI_1, nI_add, nI_clamp, nI_pin, nI_neg, nI_nonneg, nI_leE, nI_ltE, nI_eqE, Nat.not_le, Nat.not_lt, fq_10, fq_01, fq_rr, ix_aald, ix_aast, ix_abs, ix_alen, ix_aload, ix_aret, ix_astore, ix_bald, ix_bast, ix_call, ix_cpyI, ix_cpyJ, ix_dead, ix_dup2, ix_dup2L, ix_dupI, ix_dupR, ix_dupx1, ix_getI, ix_getJ, ix_getR, ix_gfm, ix_gtab, ix_i2b, ix_i2c, ix_i2l, ix_i2s, ix_iadd, ix_iald, ix_iand, ix_iast, ix_icall, ix_icmp_eq, ix_icmp_ge, ix_icmp_gt, ix_icmp_le, ix_icmp_lt, ix_icmp_ne, ix_idiv, ix_if_eq, ix_if_ge, ix_if_gt, ix_if_le, ix_if_lt, ix_if_ne, ix_iinc, ix_iload, ix_imul, ix_ineg, ix_ior, ix_irem, ix_iret, ix_ishl, ix_ishr, ix_istore, ix_isub, ix_iushr, ix_ixor, ix_l2i, ix_ladd, ix_lald, ix_land, ix_last, ix_lcmp, ix_ldcS, ix_ldiv, ix_lload, ix_lmul, ix_lor, ix_lrem, ix_lret, ix_lshl, ix_lstore, ix_lsub, ix_lsw, ix_max, ix_min, ix_new, ix_newa, ix_nret, ix_oinit, ix_pop2L, ix_popI, ix_pushI, ix_pushL, ix_putI, ix_putJ, ix_putR, ix_putZ, ix_sbald, ix_sgetC, ix_sgetV, ix_slen, ix_strc, ix_tald, ix_tsw, ix_vcall, ix_vret, ix_zret, stL, stL2, kilL, popN, fq_sw, fq_lsw, List.map_cons, List.map_nil, List.getElem?_cons_zero, List.getElem?_cons_succ, Option.toList_some, Option.toList_none, List.cons_append, List.nil_append, List.length_cons, List.length_nil, List.sum_cons, List.sum_nil, cat_i, cat_l, cat_r, true_and, and_true, Nat.zero_add, Nat.add_zero, Nat.le_refl, Nat.zero_le, Nat.reduceAdd, Nat.reduceLeDiff, exists_eq_left', Option.some.injEq, not_true_eq_false, not_false_eq_true, false_implies, true_implies, implies_true, and_self, or_true, true_or, or_false, false_or]
    refine ⟨fun h1 => ?_, fun h1 => ⟨fun h2 => ?_, fun h2 => ⟨n, e, hn, he, hT', fun h3 => ?_, fun h3 => ?_⟩⟩⟩
    · rw [bI_f (fun q => h1 q.1)] at hQ
      exact hQ
    · rw [bI_f (fun q => by have := q.2.1; omega)] at hQ
      exact hQ
    · rw [bI_f (fun q => h3 q.2.2)] at hQ
      exact hQ
    · rw [bI_t ⟨h1, by omega, h3⟩] at hQ
      exact hQ
  · exact h.elim
theorem dX12_wantWord_0 : decode cX12_wantWord 0 = .ok (.aload_n 0, 1) := by decide +kernel
theorem dX12_wantWord_1 : decode cX12_wantWord 1 = .ok (.aload_n 1, 1) := by decide +kernel
theorem dX12_wantWord_2 : decode cX12_wantWord 2 = .ok (.invokevirtual 160, 3) := by decide +kernel
theorem dX12_wantWord_5 : decode cX12_wantWord 5 = .ok (.iload_n 2, 1) := by decide +kernel
theorem dX12_wantWord_6 : decode cX12_wantWord 6 = .ok (.if_icmp .eq 9, 3) := by decide +kernel
theorem dX12_wantWord_9 : decode cX12_wantWord 9 = .ok (.aload_n 0, 1) := by decide +kernel
theorem dX12_wantWord_10 : decode cX12_wantWord 10 = .ok (.iconst 2, 1) := by decide +kernel
theorem dX12_wantWord_11 : decode cX12_wantWord 11 = .ok (.invokevirtual 157, 3) := by decide +kernel
theorem dX12_wantWord_14 : decode cX12_wantWord 14 = .ok (.ireturn, 1) := by decide +kernel
theorem dX12_wantWord_15 : decode cX12_wantWord 15 = .ok (.aload_n 0, 1) := by decide +kernel
theorem dX12_wantWord_16 : decode cX12_wantWord 16 = .ok (.invokevirtual 151, 3) := by decide +kernel
theorem dX12_wantWord_19 : decode cX12_wantWord 19 = .ok (.iconst 1, 1) := by decide +kernel
theorem dX12_wantWord_20 : decode cX12_wantWord 20 = .ok (.ireturn, 1) := by decide +kernel
abbrev M_X12_wantWord : MT := (yX12_wantWord, cX12_wantWord, 3, (some .boolean))
theorem cf_X12_wantWord : fq_cf M_X12_wantWord 2 := ⟨(mg_1 (List.mem_of_getElem? (i := 15) rfl) rfl), (mg_7 (List.mem_of_getElem? (i := 174) rfl) rfl), ⟨by decide, by decide, by decide +kernel⟩, by decide⟩
def B_X12_wantWord_0 (G : GT) (mc ms : Nat) (Q : Post) : Cn := ix_aload 0 (ix_aload 1 (ix_vcall 12 2 0 0 mc ms (sp_X12_inWords G) (ix_iload 2 (ix_icmp_eq (ix_aload 0 (ix_vcall 12 1 0 0 mc ms (sp_X12_ahead G) (ix_pushI 1 (ix_zret mc ms Q)))) (ix_aload 0 (ix_pushI 2 (ix_vcall 12 2 0 0 mc ms (sp_X12_fails G) (ix_zret mc ms Q))))))))
theorem b_X12_wantWord_0 {l : Launch} {G : GT} {D mc ms : Nat} {Q : Post} : Imp l G M_X12_wantWord (D + 5) mc ms Q (B_X12_wantWord_0 G mc ms Q) 0 := sx_aload_n dX12_wantWord_0 rfl (sx_aload_n dX12_wantWord_1 rfl (sx_vcall dX12_wantWord_2 cf_X12_inWords (mg_7 (List.mem_of_getElem? (i := 137) rfl) rfl) (mg_7 (List.mem_of_getElem? (i := 139) rfl) rfl) (mg_p (List.mem_of_getElem? (i := 56) rfl) rfl) rfl c_X12_inWords (sx_iload_n dX12_wantWord_5 rfl (sx_icmp_eq 15 dX12_wantWord_6 (by decide) (sx_aload_n dX12_wantWord_15 rfl (sx_vcall dX12_wantWord_16 cf_X12_ahead (mg_7 (List.mem_of_getElem? (i := 112) rfl) rfl) (mg_7 (List.mem_of_getElem? (i := 114) rfl) rfl) (mg_p (List.mem_of_getElem? (i := 52) rfl) rfl) rfl c_X12_ahead (sx_iconst dX12_wantWord_19 rfl (sx_zret dX12_wantWord_20 rfl)))) (sx_aload_n dX12_wantWord_9 rfl (sx_iconst dX12_wantWord_10 rfl (sx_vcall dX12_wantWord_11 cf_X12_fails (mg_7 (List.mem_of_getElem? (i := 143) rfl) rfl) (mg_7 (List.mem_of_getElem? (i := 145) rfl) rfl) (mg_p (List.mem_of_getElem? (i := 57) rfl) rfl) rfl c_X12_fails (sx_zret dX12_wantWord_14 rfl))))))))
theorem dX12_isThere_0 : decode cX12_isThere 0 = .ok (.aload_n 0, 1) := by decide +kernel
theorem dX12_isThere_1 : decode cX12_isThere 1 = .ok (.ldc 168, 2) := by decide +kernel
theorem dX12_isThere_3 : decode cX12_isThere 3 = .ok (.invokevirtual 160, 3) := by decide +kernel
theorem dX12_isThere_6 : decode cX12_isThere 6 = .ok (.iload_n 1, 1) := by decide +kernel
theorem dX12_isThere_7 : decode cX12_isThere 7 = .ok (.if_icmp .eq 5, 3) := by decide +kernel
theorem dX12_isThere_10 : decode cX12_isThere 10 = .ok (.iconst 0, 1) := by decide +kernel
theorem dX12_isThere_11 : decode cX12_isThere 11 = .ok (.ireturn, 1) := by decide +kernel
theorem dX12_isThere_12 : decode cX12_isThere 12 = .ok (.aload_n 0, 1) := by decide +kernel
theorem dX12_isThere_13 : decode cX12_isThere 13 = .ok (.invokevirtual 151, 3) := by decide +kernel
theorem dX12_isThere_16 : decode cX12_isThere 16 = .ok (.iconst 1, 1) := by decide +kernel
theorem dX12_isThere_17 : decode cX12_isThere 17 = .ok (.ireturn, 1) := by decide +kernel
abbrev M_X12_isThere : MT := (yX12_isThere, cX12_isThere, 2, (some .boolean))
theorem cf_X12_isThere : fq_cf M_X12_isThere 1 := ⟨(mg_1 (List.mem_of_getElem? (i := 15) rfl) rfl), (mg_7 (List.mem_of_getElem? (i := 186) rfl) rfl), ⟨by decide, by decide, by decide +kernel⟩, by decide⟩
def B_X12_isThere_0 (G : GT) (mc ms : Nat) (Q : Post) : Cn := ix_aload 0 (ix_ldcS G 1 (ix_vcall 12 2 0 0 mc ms (sp_X12_inWords G) (ix_iload 1 (ix_icmp_eq (ix_aload 0 (ix_vcall 12 1 0 0 mc ms (sp_X12_ahead G) (ix_pushI 1 (ix_zret mc ms Q)))) (ix_pushI 0 (ix_zret mc ms Q))))))
theorem b_X12_isThere_0 {l : Launch} {G : GT} {D mc ms : Nat} {Q : Post} : Imp l G M_X12_isThere (D + 5) mc ms Q (B_X12_isThere_0 G mc ms Q) 0 := sx_aload_n dX12_isThere_0 rfl (sx_ldcS 168 dX12_isThere_1 (Or.inr ⟨rfl, rfl, rfl⟩) (sx_vcall dX12_isThere_3 cf_X12_inWords (mg_7 (List.mem_of_getElem? (i := 137) rfl) rfl) (mg_7 (List.mem_of_getElem? (i := 139) rfl) rfl) (mg_p (List.mem_of_getElem? (i := 56) rfl) rfl) rfl c_X12_inWords (sx_iload_n dX12_isThere_6 rfl (sx_icmp_eq 12 dX12_isThere_7 (by decide) (sx_aload_n dX12_isThere_12 rfl (sx_vcall dX12_isThere_13 cf_X12_ahead (mg_7 (List.mem_of_getElem? (i := 112) rfl) rfl) (mg_7 (List.mem_of_getElem? (i := 114) rfl) rfl) (mg_p (List.mem_of_getElem? (i := 52) rfl) rfl) rfl c_X12_ahead (sx_iconst dX12_isThere_16 rfl (sx_zret dX12_isThere_17 rfl)))) (sx_iconst dX12_isThere_10 rfl (sx_zret dX12_isThere_11 rfl))))))
def sp_X12_wantWord (G : GT) : Sp := fun as S I J z Q => match as with
  | [.ref M, .ref s, .int c] => rfS S M ∧ s = G.2.2.2 5 ∧ I M 18 = 0 ∧ ∃ n e, n ≤ 900 ∧ e ≤ n ∧ tkH M I n e ∧ (¬ kwI (I (M + 7)) n e = c → Q (some (.int 0)) S (flI I M 2) J z) ∧ (kwI (I (M + 7)) n e = c → ∀ I', adV M I I' (I (M + 1)) n e → Q (some (.int 1)) S I' J z)
  | _ => False
set_option maxHeartbeats 4000000 in
set_option maxRecDepth 20000 in
theorem c_X12_wantWord {l : Launch} {G : GT} {D : Nat} : ∀ as S I J z Q, sp_X12_wantWord G as S I J z Q → fqCall l G M_X12_wantWord (D + 5) 0 0 as S I J z Q := by
  intro as S I J z Q h
  unfold sp_X12_wantWord at h
  split at h
  · next M s c =>
    obtain ⟨hm, rfl, h0, n, e, hn, he, hT, hQ1, hQ2⟩ := h
    have hT' := hT
    obtain ⟨t11, t12, t13, t14, t15⟩ := hT
    obtain ⟨b1, b2, b3, b4⟩ := tFE (T := I (M + 7)) he
    refine fq_enter [some (.ref M), some (.ref (G.2.2.2 5)), some (.int c)] (by decide +kernel) (Nat.le_of_ble_eq_true rfl) rfl (b_X12_wantWord_0 _ _ _ _ _ _ _ _ ?_)
    simp (disch := omega) only [B_X12_wantWord_0, sp_X12_inWords, sp_X12_fails, sp_X12_ahead, hm, hm.k, hm.k1, hm.n1, hm.r1, hm.k2, hm.n2, hm.r2, hm.k3, hm.n3, hm.r3, hm.k4, hm.n4, hm.r4, hm.k5, hm.n5, hm.r5, hm.k6, hm.n6, hm.r6, hm.k7, hm.n7, hm.r7, hm.k8, hm.n8, hm.r8, hm.k9, hm.n9, hm.r9, hm.k10, hm.n10, hm.r10, hm.k11, hm.n11, hm.r11, hm.k12, hm.n12, hm.r12, hm.k13, hm.n13, hm.r13, hm.k14, hm.n14, hm.r14, h0, nI_1, nI_add, nI_clamp, nI_pin, nI_neg, nI_nonneg, nI_leE, nI_ltE, nI_eqE, Nat.not_le, Nat.not_lt, fq_10, fq_01, fq_rr, ix_aald, ix_aast, ix_abs, ix_alen, ix_aload, ix_aret, ix_astore, ix_bald, ix_bast, ix_call, ix_cpyI, ix_cpyJ, ix_dead, ix_dup2, ix_dup2L, ix_dupI, ix_dupR, ix_dupx1, ix_getI, ix_getJ, ix_getR, ix_gfm, ix_gtab, ix_i2b, ix_i2c, ix_i2l, ix_i2s, ix_iadd, ix_iald, ix_iand, ix_iast, ix_icall, ix_icmp_eq, ix_icmp_ge, ix_icmp_gt, ix_icmp_le, ix_icmp_lt, ix_icmp_ne, ix_idiv, ix_if_eq, ix_if_ge, ix_if_gt, ix_if_le, ix_if_lt, ix_if_ne, ix_iinc, ix_iload, ix_imul, ix_ineg, ix_ior, ix_irem, ix_iret, ix_ishl, ix_ishr, ix_istore, ix_isub, ix_iushr, ix_ixor, ix_l2i, ix_ladd, ix_lald, ix_land, ix_last, ix_lcmp, ix_ldcS, ix_ldiv, ix_lload, ix_lmul, ix_lor, ix_lrem, ix_lret, ix_lshl, ix_lstore, ix_lsub, ix_lsw, ix_max, ix_min, ix_new, ix_newa, ix_nret, ix_oinit, ix_pop2L, ix_popI, ix_pushI, ix_pushL, ix_putI, ix_putJ, ix_putR, ix_putZ, ix_sbald, ix_sgetC, ix_sgetV, ix_slen, ix_strc, ix_tald, ix_tsw, ix_vcall, ix_vret, ix_zret, stL, stL2, kilL, popN, fq_sw, fq_lsw, List.map_cons, List.map_nil, List.getElem?_cons_zero, List.getElem?_cons_succ, Option.toList_some, Option.toList_none, List.cons_append, List.nil_append, List.length_cons, List.length_nil, List.sum_cons, List.sum_nil, cat_i, cat_l, cat_r, true_and, and_true, Nat.zero_add, Nat.add_zero, Nat.le_refl, Nat.zero_le, Nat.reduceAdd, Nat.reduceLeDiff, exists_eq_left', Option.some.injEq, not_true_eq_false, not_false_eq_true, false_implies, true_implies, implies_true, and_self, or_true, true_or, or_false, false_or]
    exact ⟨n, e, hn, he, hT', fun h => ⟨n, _, t11, hn, t14, b4, fun I' hF hT2 => hQ2 h I' (adV_a hF hT2)⟩, fun h => hQ1 h⟩
  · exact h.elim
def sp_X12_isThere (G : GT) : Sp := fun as S I J z Q => match as with
  | [.ref M, .int c] => rfS S M ∧ ∃ n e, n ≤ 900 ∧ e ≤ n ∧ tkH M I n e ∧ (¬ kwI (I (M + 7)) n e = c → Q (some (.int 0)) S I J z) ∧ (kwI (I (M + 7)) n e = c → ∀ I', adV M I I' (I (M + 1)) n e → Q (some (.int 1)) S I' J z)
  | _ => False
set_option maxHeartbeats 4000000 in
set_option maxRecDepth 20000 in
theorem c_X12_isThere {l : Launch} {G : GT} {D : Nat} : ∀ as S I J z Q, sp_X12_isThere G as S I J z Q → fqCall l G M_X12_isThere (D + 5) 0 0 as S I J z Q := by
  intro as S I J z Q h
  unfold sp_X12_isThere at h
  split at h
  · next M c =>
    obtain ⟨hm, n, e, hn, he, hT, hQ1, hQ2⟩ := h
    have hT' := hT
    obtain ⟨t11, t12, t13, t14, t15⟩ := hT
    obtain ⟨b1, b2, b3, b4⟩ := tFE (T := I (M + 7)) he
    have g5 : G.2.2.2 (4 + 1) = G.2.2.2 5 := rfl
    refine fq_enter [some (.ref M), some (.int c)] (by decide +kernel) (Nat.le_of_ble_eq_true rfl) rfl (b_X12_isThere_0 _ _ _ _ _ _ _ _ ?_)
    simp (disch := omega) only [B_X12_isThere_0, sp_X12_inWords, sp_X12_ahead, hm, hm.k, hm.k1, hm.n1, hm.r1, hm.k2, hm.n2, hm.r2, hm.k3, hm.n3, hm.r3, hm.k4, hm.n4, hm.r4, hm.k5, hm.n5, hm.r5, hm.k6, hm.n6, hm.r6, hm.k7, hm.n7, hm.r7, hm.k8, hm.n8, hm.r8, hm.k9, hm.n9, hm.r9, hm.k10, hm.n10, hm.r10, hm.k11, hm.n11, hm.r11, hm.k12, hm.n12, hm.r12, hm.k13, hm.n13, hm.r13, hm.k14, hm.n14, hm.r14, g5, nI_1, nI_add, nI_clamp, nI_pin, nI_neg, nI_nonneg, nI_leE, nI_ltE, nI_eqE, Nat.not_le, Nat.not_lt, fq_10, fq_01, fq_rr, ix_aald, ix_aast, ix_abs, ix_alen, ix_aload, ix_aret, ix_astore, ix_bald, ix_bast, ix_call, ix_cpyI, ix_cpyJ, ix_dead, ix_dup2, ix_dup2L, ix_dupI, ix_dupR, ix_dupx1, ix_getI, ix_getJ, ix_getR, ix_gfm, ix_gtab, ix_i2b, ix_i2c, ix_i2l, ix_i2s, ix_iadd, ix_iald, ix_iand, ix_iast, ix_icall, ix_icmp_eq, ix_icmp_ge, ix_icmp_gt, ix_icmp_le, ix_icmp_lt, ix_icmp_ne, ix_idiv, ix_if_eq, ix_if_ge, ix_if_gt, ix_if_le, ix_if_lt, ix_if_ne, ix_iinc, ix_iload, ix_imul, ix_ineg, ix_ior, ix_irem, ix_iret, ix_ishl, ix_ishr, ix_istore, ix_isub, ix_iushr, ix_ixor, ix_l2i, ix_ladd, ix_lald, ix_land, ix_last, ix_lcmp, ix_ldcS, ix_ldiv, ix_lload, ix_lmul, ix_lor, ix_lrem, ix_lret, ix_lshl, ix_lstore, ix_lsub, ix_lsw, ix_max, ix_min, ix_new, ix_newa, ix_nret, ix_oinit, ix_pop2L, ix_popI, ix_pushI, ix_pushL, ix_putI, ix_putJ, ix_putR, ix_putZ, ix_sbald, ix_sgetC, ix_sgetV, ix_slen, ix_strc, ix_tald, ix_tsw, ix_vcall, ix_vret, ix_zret, stL, stL2, kilL, popN, fq_sw, fq_lsw, List.map_cons, List.map_nil, List.getElem?_cons_zero, List.getElem?_cons_succ, Option.toList_some, Option.toList_none, List.cons_append, List.nil_append, List.length_cons, List.length_nil, List.sum_cons, List.sum_nil, cat_i, cat_l, cat_r, true_and, and_true, Nat.zero_add, Nat.add_zero, Nat.le_refl, Nat.zero_le, Nat.reduceAdd, Nat.reduceLeDiff, exists_eq_left', Option.some.injEq, not_true_eq_false, not_false_eq_true, false_implies, true_implies, implies_true, and_self, or_true, true_or, or_false, false_or]
    exact ⟨n, e, hn, he, hT', fun h => ⟨n, _, t11, hn, t14, b4, fun I' hF hT2 => hQ2 h I' (adV_a hF hT2)⟩, fun h => hQ1 h⟩
  · exact h.elim
