/-! the reference: years, run through -/
abbrev opn (A : Nat → Int32) (k : Nat) : Prop := A (226 + 6 * k) = 19 ∨ A (226 + 6 * k) = 1806 ∨ A (226 + 6 * k) = 1822 ∨ A (226 + 6 * k) = 1823
/-- a row of the years -/
def wfK (A : Nat → Int32) (N k : Nat) : Prop := (A (226 + 6 * k) = 20 ∧ ∃ o, A (226 + 6 * k + 4) = nI o ∧ o < k ∧ opn A o ∧ A (226 + 6 * o + 4) = nI k) ∨ (opn A k ∧ (A (226 + 6 * k) = 19 → okM (A (226 + 6 * k + 1)) 1 99) ∧ (A (226 + 6 * k) = 1822 → okN (A (226 + 6 * k + 1)) 7 ∧ (A (226 + 6 * k + 1)).toNatClampNeg < (A 1).toNatClampNeg) ∧ (A (226 + 6 * k) = 1806 → okN (A (226 + 6 * k + 1)) 5 ∧ (A (226 + 6 * k + 1)).toNatClampNeg < (A 0).toNatClampNeg) ∧ ∃ p, A (226 + 6 * k + 4) = nI p ∧ k < p ∧ p < N ∧ A (226 + 6 * p) = 20 ∧ A (226 + 6 * p + 4) = nI k) ∨ ((A (226 + 6 * k) = 12 ∨ A (226 + 6 * k) = 13 ∨ A (226 + 6 * k) = 14 ∨ A (226 + 6 * k) = 15 ∨ A (226 + 6 * k) = 16 ∨ A (226 + 6 * k) = 17 ∨ A (226 + 6 * k) = 21) ∧ wfO A (226 + 6 * k))
def wfY (A : Nat → Int32) (N : Nat) : Prop := N ≤ 60 ∧ (∀ k, k < N → wfK A N k) ∧ ∀ a b p q, a < b → b < p → b < N → opn A a → opn A b → A (226 + 6 * a + 4) = nI p → A (226 + 6 * b + 4) = nI q → p < 60 → q < 60 → q < p
def bhE (A : Nat → Int32) (N : Nat) : Nat → (Nat → Int32) → Nat → (Nat → Int32) × Nat
  | 0, L, k => (L, k)
  | f + 1, L, k => if k < N ∧ A (226 + 6 * k) = 20 then bhE A N f (uA L (A (226 + 6 * k + 4)).toNatClampNeg (L (A (226 + 6 * k + 4)).toNatClampNeg - (if A (226 + 6 * (A (226 + 6 * k + 4)).toNatClampNeg) = 19 ∧ 0 < L (A (226 + 6 * k + 4)).toNatClampNeg then 1 else 0))) (if A (226 + 6 * (A (226 + 6 * k + 4)).toNatClampNeg) = 19 ∧ 0 < L (A (226 + 6 * k + 4)).toNatClampNeg then (A (226 + 6 * k + 4)).toNatClampNeg + 1 else k + 1) else (L, k)
theorem bhE_1 (A : Nat → Int32) (N f : Nat) (L : Nat → Int32) (k : Nat) : bhE A N (f + 1) L k = if k < N ∧ A (226 + 6 * k) = 20 then bhE A N f (uA L (A (226 + 6 * k + 4)).toNatClampNeg (L (A (226 + 6 * k + 4)).toNatClampNeg - (if A (226 + 6 * (A (226 + 6 * k + 4)).toNatClampNeg) = 19 ∧ 0 < L (A (226 + 6 * k + 4)).toNatClampNeg then 1 else 0))) (if A (226 + 6 * (A (226 + 6 * k + 4)).toNatClampNeg) = 19 ∧ 0 < L (A (226 + 6 * k + 4)).toNatClampNeg then (A (226 + 6 * k + 4)).toNatClampNeg + 1 else k + 1) else (L, k) := rfl
/-- no end stands there -/
def noE (A : Nat → Int32) (N k : Nat) : Prop := ¬ (k < N ∧ A (226 + 6 * k) = 20)
theorem dX12_behindEnds_0 : decode cX12_behindEnds 0 = .ok (.iload_n 1, 1) := by decide +kernel
theorem dX12_behindEnds_1 : decode cX12_behindEnds 1 = .ok (.istore_n 2, 1) := by decide +kernel
theorem dX12_behindEnds_2 : decode cX12_behindEnds 2 = .ok (.iload_n 2, 1) := by decide +kernel
theorem dX12_behindEnds_3 : decode cX12_behindEnds 3 = .ok (.aload_n 0, 1) := by decide +kernel
theorem dX12_behindEnds_4 : decode cX12_behindEnds 4 = .ok (.getfield 7, 3) := by decide +kernel
theorem dX12_behindEnds_7 : decode cX12_behindEnds 7 = .ok (.bipush 11, 2) := by decide +kernel
theorem dX12_behindEnds_9 : decode cX12_behindEnds 9 = .ok (.iaload, 1) := by decide +kernel
theorem dX12_behindEnds_10 : decode cX12_behindEnds 10 = .ok (.if_icmp .ge 108, 3) := by decide +kernel
theorem dX12_behindEnds_13 : decode cX12_behindEnds 13 = .ok (.aload_n 0, 1) := by decide +kernel
theorem dX12_behindEnds_14 : decode cX12_behindEnds 14 = .ok (.getfield 7, 3) := by decide +kernel
theorem dX12_behindEnds_17 : decode cX12_behindEnds 17 = .ok (.sipush 226, 3) := by decide +kernel
theorem dX12_behindEnds_20 : decode cX12_behindEnds 20 = .ok (.bipush 6, 2) := by decide +kernel
theorem dX12_behindEnds_22 : decode cX12_behindEnds 22 = .ok (.iload_n 2, 1) := by decide +kernel
theorem dX12_behindEnds_23 : decode cX12_behindEnds 23 = .ok (.imul, 1) := by decide +kernel
theorem dX12_behindEnds_24 : decode cX12_behindEnds 24 = .ok (.iadd, 1) := by decide +kernel
theorem dX12_behindEnds_25 : decode cX12_behindEnds 25 = .ok (.iaload, 1) := by decide +kernel
theorem dX12_behindEnds_26 : decode cX12_behindEnds 26 = .ok (.bipush 20, 2) := by decide +kernel
theorem dX12_behindEnds_28 : decode cX12_behindEnds 28 = .ok (.if_icmp .ne 90, 3) := by decide +kernel
theorem dX12_behindEnds_31 : decode cX12_behindEnds 31 = .ok (.aload_n 0, 1) := by decide +kernel
theorem dX12_behindEnds_32 : decode cX12_behindEnds 32 = .ok (.getfield 7, 3) := by decide +kernel
theorem dX12_behindEnds_35 : decode cX12_behindEnds 35 = .ok (.sipush 226, 3) := by decide +kernel
theorem dX12_behindEnds_38 : decode cX12_behindEnds 38 = .ok (.bipush 6, 2) := by decide +kernel
theorem dX12_behindEnds_40 : decode cX12_behindEnds 40 = .ok (.iload_n 2, 1) := by decide +kernel
theorem dX12_behindEnds_41 : decode cX12_behindEnds 41 = .ok (.imul, 1) := by decide +kernel
theorem dX12_behindEnds_42 : decode cX12_behindEnds 42 = .ok (.iadd, 1) := by decide +kernel
theorem dX12_behindEnds_43 : decode cX12_behindEnds 43 = .ok (.iconst 4, 1) := by decide +kernel
theorem dX12_behindEnds_44 : decode cX12_behindEnds 44 = .ok (.iadd, 1) := by decide +kernel
theorem dX12_behindEnds_45 : decode cX12_behindEnds 45 = .ok (.iaload, 1) := by decide +kernel
theorem dX12_behindEnds_46 : decode cX12_behindEnds 46 = .ok (.istore_n 3, 1) := by decide +kernel
theorem dX12_behindEnds_47 : decode cX12_behindEnds 47 = .ok (.aload_n 0, 1) := by decide +kernel
theorem dX12_behindEnds_48 : decode cX12_behindEnds 48 = .ok (.getfield 7, 3) := by decide +kernel
theorem dX12_behindEnds_51 : decode cX12_behindEnds 51 = .ok (.sipush 226, 3) := by decide +kernel
theorem dX12_behindEnds_54 : decode cX12_behindEnds 54 = .ok (.bipush 6, 2) := by decide +kernel
theorem dX12_behindEnds_56 : decode cX12_behindEnds 56 = .ok (.iload_n 3, 1) := by decide +kernel
theorem dX12_behindEnds_57 : decode cX12_behindEnds 57 = .ok (.imul, 1) := by decide +kernel
theorem dX12_behindEnds_58 : decode cX12_behindEnds 58 = .ok (.iadd, 1) := by decide +kernel
theorem dX12_behindEnds_59 : decode cX12_behindEnds 59 = .ok (.iaload, 1) := by decide +kernel
theorem dX12_behindEnds_60 : decode cX12_behindEnds 60 = .ok (.bipush 19, 2) := by decide +kernel
theorem dX12_behindEnds_62 : decode cX12_behindEnds 62 = .ok (.if_icmp .ne 16, 3) := by decide +kernel
theorem dX12_behindEnds_65 : decode cX12_behindEnds 65 = .ok (.aload_n 0, 1) := by decide +kernel
theorem dX12_behindEnds_66 : decode cX12_behindEnds 66 = .ok (.getfield 56, 3) := by decide +kernel
theorem dX12_behindEnds_69 : decode cX12_behindEnds 69 = .ok (.iload_n 3, 1) := by decide +kernel
theorem dX12_behindEnds_70 : decode cX12_behindEnds 70 = .ok (.iaload, 1) := by decide +kernel
theorem dX12_behindEnds_71 : decode cX12_behindEnds 71 = .ok (.ifCond .le 7, 3) := by decide +kernel
theorem dX12_behindEnds_74 : decode cX12_behindEnds 74 = .ok (.iconst 1, 1) := by decide +kernel
theorem dX12_behindEnds_75 : decode cX12_behindEnds 75 = .ok (.goto 4, 3) := by decide +kernel
theorem dX12_behindEnds_78 : decode cX12_behindEnds 78 = .ok (.iconst 0, 1) := by decide +kernel
theorem dX12_behindEnds_79 : decode cX12_behindEnds 79 = .ok (.istore 4, 2) := by decide +kernel
theorem dX12_behindEnds_81 : decode cX12_behindEnds 81 = .ok (.aload_n 0, 1) := by decide +kernel
theorem dX12_behindEnds_82 : decode cX12_behindEnds 82 = .ok (.getfield 56, 3) := by decide +kernel
theorem dX12_behindEnds_85 : decode cX12_behindEnds 85 = .ok (.iload_n 3, 1) := by decide +kernel
theorem dX12_behindEnds_86 : decode cX12_behindEnds 86 = .ok (.dup2, 1) := by decide +kernel
theorem dX12_behindEnds_87 : decode cX12_behindEnds 87 = .ok (.iaload, 1) := by decide +kernel
theorem dX12_behindEnds_88 : decode cX12_behindEnds 88 = .ok (.iload 4, 2) := by decide +kernel
theorem dX12_behindEnds_90 : decode cX12_behindEnds 90 = .ok (.ifCond .eq 7, 3) := by decide +kernel
theorem dX12_behindEnds_93 : decode cX12_behindEnds 93 = .ok (.iconst 1, 1) := by decide +kernel
theorem dX12_behindEnds_94 : decode cX12_behindEnds 94 = .ok (.goto 4, 3) := by decide +kernel
theorem dX12_behindEnds_97 : decode cX12_behindEnds 97 = .ok (.iconst 0, 1) := by decide +kernel
theorem dX12_behindEnds_98 : decode cX12_behindEnds 98 = .ok (.isub, 1) := by decide +kernel
theorem dX12_behindEnds_99 : decode cX12_behindEnds 99 = .ok (.iastore, 1) := by decide +kernel
theorem dX12_behindEnds_100 : decode cX12_behindEnds 100 = .ok (.iload 4, 2) := by decide +kernel
theorem dX12_behindEnds_102 : decode cX12_behindEnds 102 = .ok (.ifCond .eq 9, 3) := by decide +kernel
theorem dX12_behindEnds_105 : decode cX12_behindEnds 105 = .ok (.iload_n 3, 1) := by decide +kernel
theorem dX12_behindEnds_106 : decode cX12_behindEnds 106 = .ok (.iconst 1, 1) := by decide +kernel
theorem dX12_behindEnds_107 : decode cX12_behindEnds 107 = .ok (.iadd, 1) := by decide +kernel
theorem dX12_behindEnds_108 : decode cX12_behindEnds 108 = .ok (.goto 6, 3) := by decide +kernel
theorem dX12_behindEnds_111 : decode cX12_behindEnds 111 = .ok (.iload_n 2, 1) := by decide +kernel
theorem dX12_behindEnds_112 : decode cX12_behindEnds 112 = .ok (.iconst 1, 1) := by decide +kernel
theorem dX12_behindEnds_113 : decode cX12_behindEnds 113 = .ok (.iadd, 1) := by decide +kernel
theorem dX12_behindEnds_114 : decode cX12_behindEnds 114 = .ok (.istore_n 2, 1) := by decide +kernel
theorem dX12_behindEnds_115 : decode cX12_behindEnds 115 = .ok (.goto (-113), 3) := by decide +kernel
theorem dX12_behindEnds_118 : decode cX12_behindEnds 118 = .ok (.iload_n 2, 1) := by decide +kernel
theorem dX12_behindEnds_119 : decode cX12_behindEnds 119 = .ok (.ireturn, 1) := by decide +kernel
abbrev M_X12_behindEnds : MT := (yX12_behindEnds, cX12_behindEnds, 5, (some .int))
theorem cf_X12_behindEnds : fq_cf M_X12_behindEnds 1 := ⟨(mg_1 (List.mem_of_getElem? (i := 15) rfl) rfl), (mg_9 (List.mem_of_getElem? (i := 170) rfl) rfl), ⟨by decide, by decide, by decide +kernel⟩, by decide⟩
def B_X12_behindEnds_118 (l : Launch) (G : GT) (D mc ms : Nat) (Q : Post) : Cn := ix_iload 2 (ix_iret mc ms Q)
theorem b_X12_behindEnds_118 {l : Launch} {G : GT} {D mc ms : Nat} {Q : Post} : Imp l G M_X12_behindEnds (D + 0) mc ms Q (B_X12_behindEnds_118 l G D mc ms Q) 118 := sx_iload_n dX12_behindEnds_118 rfl (sx_iret dX12_behindEnds_119 rfl)
def B_X12_behindEnds_114 (l : Launch) (G : GT) (D mc ms : Nat) (Q : Post) : Cn := ix_istore 2 (fqAt l G M_X12_behindEnds (D + 0) mc ms Q 2)
theorem b_X12_behindEnds_114 {l : Launch} {G : GT} {D mc ms : Nat} {Q : Post} : Imp l G M_X12_behindEnds (D + 0) mc ms Q (B_X12_behindEnds_114 l G D mc ms Q) 114 := sx_istore_n dX12_behindEnds_114 rfl (by decide) (sx_goto 2 dX12_behindEnds_115 (by decide) ((fun _ _ _ _ _ _ _ _ h => h)))
def B_X12_behindEnds_98 (l : Launch) (G : GT) (D mc ms : Nat) (Q : Post) : Cn := ix_isub (ix_iast (ix_iload 4 (ix_if_eq (ix_iload 2 (ix_pushI 1 (ix_iadd ((B_X12_behindEnds_114 l G D mc ms Q))))) (ix_iload 3 (ix_pushI 1 (ix_iadd ((B_X12_behindEnds_114 l G D mc ms Q))))))))
theorem b_X12_behindEnds_98 {l : Launch} {G : GT} {D mc ms : Nat} {Q : Post} : Imp l G M_X12_behindEnds (D + 0) mc ms Q (B_X12_behindEnds_98 l G D mc ms Q) 98 := sx_isub dX12_behindEnds_98 (sx_iast dX12_behindEnds_99 (sx_iload dX12_behindEnds_100 (sx_if_eq 111 dX12_behindEnds_102 (by decide) (sx_iload_n dX12_behindEnds_111 rfl (sx_iconst dX12_behindEnds_112 rfl (sx_iadd dX12_behindEnds_113 (b_X12_behindEnds_114)))) (sx_iload_n dX12_behindEnds_105 rfl (sx_iconst dX12_behindEnds_106 rfl (sx_iadd dX12_behindEnds_107 (sx_goto 114 dX12_behindEnds_108 (by decide) (b_X12_behindEnds_114))))))))
def B_X12_behindEnds_79 (l : Launch) (G : GT) (D mc ms : Nat) (Q : Post) : Cn := ix_istore 4 (ix_aload 0 (ix_getR 12 31 (ix_iload 3 (ix_dup2 (ix_iald (ix_iload 4 (ix_if_eq (ix_pushI 0 ((B_X12_behindEnds_98 l G D mc ms Q))) (ix_pushI 1 ((B_X12_behindEnds_98 l G D mc ms Q))))))))))
theorem b_X12_behindEnds_79 {l : Launch} {G : GT} {D mc ms : Nat} {Q : Post} : Imp l G M_X12_behindEnds (D + 0) mc ms Q (B_X12_behindEnds_79 l G D mc ms Q) 79 := sx_istore dX12_behindEnds_79 (by decide) (sx_aload_n dX12_behindEnds_81 rfl (sx_getR dX12_behindEnds_82 fl_FootQuarrelModel_56 (fun _ _ _ => rfl) (sx_iload_n dX12_behindEnds_85 rfl (sx_dup2 dX12_behindEnds_86 (sx_iald dX12_behindEnds_87 (sx_iload dX12_behindEnds_88 (sx_if_eq 97 dX12_behindEnds_90 (by decide) (sx_iconst dX12_behindEnds_97 rfl (b_X12_behindEnds_98)) (sx_iconst dX12_behindEnds_93 rfl (sx_goto 98 dX12_behindEnds_94 (by decide) (b_X12_behindEnds_98))))))))))
def B_X12_behindEnds_78 (l : Launch) (G : GT) (D mc ms : Nat) (Q : Post) : Cn := ix_pushI 0 ((B_X12_behindEnds_79 l G D mc ms Q))
theorem b_X12_behindEnds_78 {l : Launch} {G : GT} {D mc ms : Nat} {Q : Post} : Imp l G M_X12_behindEnds (D + 0) mc ms Q (B_X12_behindEnds_78 l G D mc ms Q) 78 := sx_iconst dX12_behindEnds_78 rfl (b_X12_behindEnds_79)
def B_X12_behindEnds_2 (l : Launch) (G : GT) (D mc ms : Nat) (Q : Post) : Cn := ix_iload 2 (ix_aload 0 (ix_getR 12 0 (ix_pushI 11 (ix_iald (ix_icmp_ge ((B_X12_behindEnds_118 l G D mc ms Q)) (ix_aload 0 (ix_getR 12 0 (ix_pushI 226 (ix_pushI 6 (ix_iload 2 (ix_imul (ix_iadd (ix_iald (ix_pushI 20 (ix_icmp_ne ((B_X12_behindEnds_118 l G D mc ms Q)) (ix_aload 0 (ix_getR 12 0 (ix_pushI 226 (ix_pushI 6 (ix_iload 2 (ix_imul (ix_iadd (ix_pushI 4 (ix_iadd (ix_iald (ix_istore 3 (ix_aload 0 (ix_getR 12 0 (ix_pushI 226 (ix_pushI 6 (ix_iload 3 (ix_imul (ix_iadd (ix_iald (ix_pushI 19 (ix_icmp_ne ((B_X12_behindEnds_78 l G D mc ms Q)) (ix_aload 0 (ix_getR 12 31 (ix_iload 3 (ix_iald (ix_if_le ((B_X12_behindEnds_78 l G D mc ms Q)) (ix_pushI 1 ((B_X12_behindEnds_79 l G D mc ms Q))))))))))))))))))))))))))))))))))))))))))))
theorem b_X12_behindEnds_2 {l : Launch} {G : GT} {D mc ms : Nat} {Q : Post} : Imp l G M_X12_behindEnds (D + 0) mc ms Q (B_X12_behindEnds_2 l G D mc ms Q) 2 := sx_iload_n dX12_behindEnds_2 rfl (sx_aload_n dX12_behindEnds_3 rfl (sx_getR dX12_behindEnds_4 fl_FootQuarrelModel_7 (fun _ _ _ => rfl) (sx_bipush dX12_behindEnds_7 rfl (sx_iald dX12_behindEnds_9 (sx_icmp_ge 118 dX12_behindEnds_10 (by decide) (b_X12_behindEnds_118) (sx_aload_n dX12_behindEnds_13 rfl (sx_getR dX12_behindEnds_14 fl_FootQuarrelModel_7 (fun _ _ _ => rfl) (sx_sipush dX12_behindEnds_17 rfl (sx_bipush dX12_behindEnds_20 rfl (sx_iload_n dX12_behindEnds_22 rfl (sx_imul dX12_behindEnds_23 (sx_iadd dX12_behindEnds_24 (sx_iald dX12_behindEnds_25 (sx_bipush dX12_behindEnds_26 rfl (sx_icmp_ne 118 dX12_behindEnds_28 (by decide) (b_X12_behindEnds_118) (sx_aload_n dX12_behindEnds_31 rfl (sx_getR dX12_behindEnds_32 fl_FootQuarrelModel_7 (fun _ _ _ => rfl) (sx_sipush dX12_behindEnds_35 rfl (sx_bipush dX12_behindEnds_38 rfl (sx_iload_n dX12_behindEnds_40 rfl (sx_imul dX12_behindEnds_41 (sx_iadd dX12_behindEnds_42 (sx_iconst dX12_behindEnds_43 rfl (sx_iadd dX12_behindEnds_44 (sx_iald dX12_behindEnds_45 (sx_istore_n dX12_behindEnds_46 rfl (by decide) (sx_aload_n dX12_behindEnds_47 rfl (sx_getR dX12_behindEnds_48 fl_FootQuarrelModel_7 (fun _ _ _ => rfl) (sx_sipush dX12_behindEnds_51 rfl (sx_bipush dX12_behindEnds_54 rfl (sx_iload_n dX12_behindEnds_56 rfl (sx_imul dX12_behindEnds_57 (sx_iadd dX12_behindEnds_58 (sx_iald dX12_behindEnds_59 (sx_bipush dX12_behindEnds_60 rfl (sx_icmp_ne 78 dX12_behindEnds_62 (by decide) (b_X12_behindEnds_78) (sx_aload_n dX12_behindEnds_65 rfl (sx_getR dX12_behindEnds_66 fl_FootQuarrelModel_56 (fun _ _ _ => rfl) (sx_iload_n dX12_behindEnds_69 rfl (sx_iald dX12_behindEnds_70 (sx_if_le 78 dX12_behindEnds_71 (by decide) (b_X12_behindEnds_78) (sx_iconst dX12_behindEnds_74 rfl (sx_goto 79 dX12_behindEnds_75 (by decide) (b_X12_behindEnds_79))))))))))))))))))))))))))))))))))))))))))))
def B_X12_behindEnds_0 (l : Launch) (G : GT) (D mc ms : Nat) (Q : Post) : Cn := ix_iload 1 (ix_istore 2 (fqAt l G M_X12_behindEnds (D + 0) mc ms Q 2))
theorem b_X12_behindEnds_0 {l : Launch} {G : GT} {D mc ms : Nat} {Q : Post} : Imp l G M_X12_behindEnds (D + 0) mc ms Q (B_X12_behindEnds_0 l G D mc ms Q) 0 := sx_iload_n dX12_behindEnds_0 rfl (sx_istore_n dX12_behindEnds_1 rfl (by decide) ((fun _ _ _ _ _ _ _ _ h => h)))
def sp_X12_behindEnds (G : GT) : Sp := fun as S I J z Q => match as with
  | [.ref M, .int a] => rfS S M ∧ ∃ k N f, a = nI k ∧ k ≤ 60 ∧ I (M + 1) 11 = nI N ∧ wfY (I (M + 1)) N ∧ noE (I (M + 1)) N (bhE (I (M + 1)) N f (I (M + 12)) k).2 ∧ Q (some (.int (nI (bhE (I (M + 1)) N f (I (M + 12)) k).2))) S (up1 I (M + 12) (bhE (I (M + 1)) N f (I (M + 12)) k).1) J z
  | _ => False
set_option maxHeartbeats 4000000 in
set_option maxRecDepth 20000 in
theorem c_X12_behindEnds {l : Launch} {G : GT} {D : Nat} : ∀ as S I J z Q, sp_X12_behindEnds G as S I J z Q → fqCall l G M_X12_behindEnds (D + 0) 0 0 as S I J z Q := by
  intro as S I J z Q h
  unfold sp_X12_behindEnds at h
  split at h
  · next M a =>
    obtain ⟨hm, k, N, f, rfl, hk, hN, hy, hno, hQ⟩ := h
    have hN6 := hy.1
    have lp : ∀ (f k : Nat) (L : Nat → Int32) (o3 o4 : Option Value), k ≤ 60 → noE (I (M + 1)) N (bhE (I (M + 1)) N f L k).2 → Q (some (.int (nI (bhE (I (M + 1)) N f L k).2))) S (up1 I (M + 12) (bhE (I (M + 1)) N f L k).1) J z → ∀ x1 : Int32, fqAt l G M_X12_behindEnds (D + 0) 0 0 Q 2 [some (.ref M), some (.int x1), some (.int (nI k)), o3, o4] [] S (up1 I (M + 12) L) J z 0 0 := by
      intro f
      induction f with
      | zero =>
        intro k L o3 o4 hk hno hq x1
        have hno : noE (I (M + 1)) N k := hno
        have hq : Q (some (.int (nI k))) S (up1 I (M + 12) L) J z := hq
        unfold noE at hno
        refine b_X12_behindEnds_2 _ _ _ _ _ _ _ _ ?_
        simp (disch := omega) only [B_X12_behindEnds_0, B_X12_behindEnds_2, B_X12_behindEnds_78, B_X12_behindEnds_79, B_X12_behindEnds_98, B_X12_behindEnds_114, B_X12_behindEnds_118, hm, hm.k, hm.k1, hm.n1, hm.r1, hm.k2, hm.n2, hm.r2, hm.k3, hm.n3, hm.r3, hm.k4, hm.n4, hm.r4, hm.k5, hm.n5, hm.r5, hm.k6, hm.n6, hm.r6, hm.k7, hm.n7, hm.r7, hm.k8, hm.n8, hm.r8, hm.k9, hm.n9, hm.r9, hm.k10, hm.n10, hm.r10, hm.k11, hm.n11, hm.r11, hm.k12, hm.n12, hm.r12, hm.k13, hm.n13, hm.r13, hm.k14, hm.n14, hm.r14, li_2, li_3, li_4, li_5, li_6, li_7, li_8, li_9, li_10, li_11, li_12, li_13, li_14, li_15, li_16, li_17, li_18, li_19, li_20, li_21, li_22, li_23, li_24, li_25, li_26, li_27, li_28, li_29, li_30, li_32, li_33, li_34, li_35, li_36, li_37, li_38, li_39, li_40, li_41, li_42, li_43, li_44, li_45, li_46, li_47, li_48, li_49, li_50, li_51, li_52, li_53, li_54, li_55, li_56, li_57, li_58, li_59, li_60, li_61, li_62, li_63, li_64, li_65, li_66, li_67, li_68, li_69, li_70, li_71, li_72, li_73, li_74, li_75, li_76, li_77, li_78, li_79, li_80, li_81, li_82, li_83, li_84, li_85, li_86, li_87, li_88, li_89, li_90, li_91, li_92, li_93, li_94, li_95, li_96, li_97, li_98, li_99, li_100, li_101, li_102, li_103, li_104, li_105, li_106, li_107, li_108, li_109, li_110, li_111, li_112, li_113, li_114, li_115, li_116, li_117, li_118, li_119, li_120, li_121, li_122, li_123, li_124, li_125, li_126, li_127, li_128, li_129, li_130, li_131, li_226, li_240, li_255, li_300, li_586, li_594, li_900, li_999, li_1000, li_1800, li_2376, li_2388, li_2406, li_2602, li_2970, li_3067, li_3564, li_9999, li_10000, li_11287, li_65536, li_100000, li_1000000, nI_mul, tn0, tn1, vin0, vin1, Int32.add_zero, Int32.or_zero, Int32.mul_one, Int32.mul_zero, Int32.zero_add, Nat.reduceEqDiff, Nat.reduceMul, Nat.reduceSub, up1_o, hN, nI_1, nI_add, nI_clamp, nI_pin, nI_neg, nI_nonneg, nI_leE, nI_ltE, nI_eqE, Nat.not_le, Nat.not_lt, fq_10, fq_01, fq_rr, ix_aald, ix_aast, ix_abs, ix_alen, ix_aload, ix_aret, ix_astore, ix_bald, ix_bast, ix_call, ix_cpyI, ix_cpyJ, ix_dead, ix_dup2, ix_dup2L, ix_dupI, ix_dupR, ix_dupx1, ix_getI, ix_getJ, ix_getR, ix_gfm, ix_gtab, ix_i2b, ix_i2c, ix_i2l, ix_i2s, ix_iadd, ix_iald, ix_iand, ix_iast, ix_icall, ix_icmp_eq, ix_icmp_ge, ix_icmp_gt, ix_icmp_le, ix_icmp_lt, ix_icmp_ne, ix_idiv, ix_if_eq, ix_if_ge, ix_if_gt, ix_if_le, ix_if_lt, ix_if_ne, ix_iinc, ix_iload, ix_imul, ix_ineg, ix_ior, ix_irem, ix_iret, ix_ishl, ix_ishr, ix_istore, ix_isub, ix_iushr, ix_ixor, ix_l2i, ix_ladd, ix_lald, ix_land, ix_last, ix_lcmp, ix_ldcS, ix_ldiv, ix_lload, ix_lmul, ix_lor, ix_lrem, ix_lret, ix_lshl, ix_lstore, ix_lsub, ix_lsw, ix_max, ix_min, ix_new, ix_newa, ix_nret, ix_oinit, ix_pop2L, ix_popI, ix_pushI, ix_pushL, ix_putI, ix_putJ, ix_putR, ix_putZ, ix_sbald, ix_sgetC, ix_sgetV, ix_slen, ix_strc, ix_tald, ix_tsw, ix_vcall, ix_vret, ix_zret, stL, stL2, kilL, popN, fq_sw, fq_lsw, List.map_cons, List.map_nil, List.getElem?_cons_zero, List.getElem?_cons_succ, Option.toList_some, Option.toList_none, List.cons_append, List.nil_append, List.length_cons, List.length_nil, List.sum_cons, List.sum_nil, cat_i, cat_l, cat_r, true_and, and_true, Nat.zero_add, Nat.add_zero, Nat.le_refl, Nat.zero_le, Nat.reduceAdd, Nat.reduceLeDiff, exists_eq_left', Option.some.injEq, not_true_eq_false, not_false_eq_true, false_implies, true_implies, implies_true, and_self, or_true, true_or, or_false, false_or]
        trace_state
        sorry
      | succ f ih =>
        intro k L o3 o4 hk hno hq x1
        sorry
    refine fq_enter [some (.ref M), some (.int (nI k)), none, none, none] (by decide +kernel) (Nat.le_of_ble_eq_true rfl) rfl (b_X12_behindEnds_0 _ _ _ _ _ _ _ _ ?_)
    simp (disch := omega) only [B_X12_behindEnds_0, B_X12_behindEnds_2, B_X12_behindEnds_78, B_X12_behindEnds_79, B_X12_behindEnds_98, B_X12_behindEnds_114, B_X12_behindEnds_118, hm, hm.k, hm.k1, hm.n1, hm.r1, hm.k2, hm.n2, hm.r2, hm.k3, hm.n3, hm.r3, hm.k4, hm.n4, hm.r4, hm.k5, hm.n5, hm.r5, hm.k6, hm.n6, hm.r6, hm.k7, hm.n7, hm.r7, hm.k8, hm.n8, hm.r8, hm.k9, hm.n9, hm.r9, hm.k10, hm.n10, hm.r10, hm.k11, hm.n11, hm.r11, hm.k12, hm.n12, hm.r12, hm.k13, hm.n13, hm.r13, hm.k14, hm.n14, hm.r14, li_2, li_3, li_4, li_5, li_6, li_7, li_8, li_9, li_10, li_11, li_12, li_13, li_14, li_15, li_16, li_17, li_18, li_19, li_20, li_21, li_22, li_23, li_24, li_25, li_26, li_27, li_28, li_29, li_30, li_32, li_33, li_34, li_35, li_36, li_37, li_38, li_39, li_40, li_41, li_42, li_43, li_44, li_45, li_46, li_47, li_48, li_49, li_50, li_51, li_52, li_53, li_54, li_55, li_56, li_57, li_58, li_59, li_60, li_61, li_62, li_63, li_64, li_65, li_66, li_67, li_68, li_69, li_70, li_71, li_72, li_73, li_74, li_75, li_76, li_77, li_78, li_79, li_80, li_81, li_82, li_83, li_84, li_85, li_86, li_87, li_88, li_89, li_90, li_91, li_92, li_93, li_94, li_95, li_96, li_97, li_98, li_99, li_100, li_101, li_102, li_103, li_104, li_105, li_106, li_107, li_108, li_109, li_110, li_111, li_112, li_113, li_114, li_115, li_116, li_117, li_118, li_119, li_120, li_121, li_122, li_123, li_124, li_125, li_126, li_127, li_128, li_129, li_130, li_131, li_226, li_240, li_255, li_300, li_586, li_594, li_900, li_999, li_1000, li_1800, li_2376, li_2388, li_2406, li_2602, li_2970, li_3067, li_3564, li_9999, li_10000, li_11287, li_65536, li_100000, li_1000000, nI_mul, tn0, tn1, vin0, vin1, Int32.add_zero, Int32.or_zero, Int32.mul_one, Int32.mul_zero, Int32.zero_add, Nat.reduceEqDiff, Nat.reduceMul, Nat.reduceSub, nI_1, nI_add, nI_clamp, nI_pin, nI_neg, nI_nonneg, nI_leE, nI_ltE, nI_eqE, Nat.not_le, Nat.not_lt, fq_10, fq_01, fq_rr, ix_aald, ix_aast, ix_abs, ix_alen, ix_aload, ix_aret, ix_astore, ix_bald, ix_bast, ix_call, ix_cpyI, ix_cpyJ, ix_dead, ix_dup2, ix_dup2L, ix_dupI, ix_dupR, ix_dupx1, ix_getI, ix_getJ, ix_getR, ix_gfm, ix_gtab, ix_i2b, ix_i2c, ix_i2l, ix_i2s, ix_iadd, ix_iald, ix_iand, ix_iast, ix_icall, ix_icmp_eq, ix_icmp_ge, ix_icmp_gt, ix_icmp_le, ix_icmp_lt, ix_icmp_ne, ix_idiv, ix_if_eq, ix_if_ge, ix_if_gt, ix_if_le, ix_if_lt, ix_if_ne, ix_iinc, ix_iload, ix_imul, ix_ineg, ix_ior, ix_irem, ix_iret, ix_ishl, ix_ishr, ix_istore, ix_isub, ix_iushr, ix_ixor, ix_l2i, ix_ladd, ix_lald, ix_land, ix_last, ix_lcmp, ix_ldcS, ix_ldiv, ix_lload, ix_lmul, ix_lor, ix_lrem, ix_lret, ix_lshl, ix_lstore, ix_lsub, ix_lsw, ix_max, ix_min, ix_new, ix_newa, ix_nret, ix_oinit, ix_pop2L, ix_popI, ix_pushI, ix_pushL, ix_putI, ix_putJ, ix_putR, ix_putZ, ix_sbald, ix_sgetC, ix_sgetV, ix_slen, ix_strc, ix_tald, ix_tsw, ix_vcall, ix_vret, ix_zret, stL, stL2, kilL, popN, fq_sw, fq_lsw, List.map_cons, List.map_nil, List.getElem?_cons_zero, List.getElem?_cons_succ, Option.toList_some, Option.toList_none, List.cons_append, List.nil_append, List.length_cons, List.length_nil, List.sum_cons, List.sum_nil, cat_i, cat_l, cat_r, true_and, and_true, Nat.zero_add, Nat.add_zero, Nat.le_refl, Nat.zero_le, Nat.reduceAdd, Nat.reduceLeDiff, exists_eq_left', Option.some.injEq, not_true_eq_false, not_false_eq_true, false_implies, true_implies, implies_true, and_self, or_true, true_or, or_false, false_or]
    have := lp f k (I (M + 12)) none none hk hno hQ (nI k)
    rw [up1_id] at this
    exact this
  · exact h.elim
