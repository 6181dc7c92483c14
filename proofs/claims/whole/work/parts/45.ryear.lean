/-! the reference: years, run through -/
abbrev opn (A : Nat → Int32) (k : Nat) : Prop := A (226 + 6 * k) = 19 ∨ A (226 + 6 * k) = 1806 ∨ A (226 + 6 * k) = 1822 ∨ A (226 + 6 * k) = 1823
/-- a row of the years -/
def wfK (A : Nat → Int32) (N k : Nat) : Prop := (A (226 + 6 * k) = 20 ∧ ∃ o, A (226 + 6 * k + 4) = nI o ∧ o < k ∧ opn A o ∧ A (226 + 6 * o + 4) = nI k) ∨ (opn A k ∧ (A (226 + 6 * k) = 19 → okM (A (226 + 6 * k + 1)) 1 99) ∧ (A (226 + 6 * k) = 1822 → okN (A (226 + 6 * k + 1)) 7 ∧ (A (226 + 6 * k + 1)).toNatClampNeg < (A 1).toNatClampNeg) ∧ (A (226 + 6 * k) = 1806 → okN (A (226 + 6 * k + 1)) 5 ∧ (A (226 + 6 * k + 1)).toNatClampNeg < (A 0).toNatClampNeg) ∧ ∃ p, A (226 + 6 * k + 4) = nI p ∧ k < p ∧ p < N ∧ A (226 + 6 * p) = 20 ∧ A (226 + 6 * p + 4) = nI k) ∨ ((A (226 + 6 * k) = 12 ∨ A (226 + 6 * k) = 13 ∨ A (226 + 6 * k) = 14 ∨ A (226 + 6 * k) = 15 ∨ A (226 + 6 * k) = 16 ∨ A (226 + 6 * k) = 17 ∨ A (226 + 6 * k) = 21) ∧ wfO A (226 + 6 * k))
def wfY (A : Nat → Int32) (N : Nat) : Prop := N ≤ 60 ∧ (∀ k, k < N → wfK A N k) ∧ ∀ a b p q, a < b → b < p → b < N → opn A a → opn A b → A (226 + 6 * a + 4) = nI p → A (226 + 6 * b + 4) = nI q → p < 60 → q < 60 → q < p
def bhE (A : Nat → Int32) (N : Nat) : Nat → (Nat → Int32) → Nat → (Nat → Int32) × Nat
  | 0, L, k => (L, k)
  | f + 1, L, k => if k < N ∧ A (226 + 6 * k) = 20 then bhE A N f (uA L (A (226 + 6 * k + 4)).toNatClampNeg (L (A (226 + 6 * k + 4)).toNatClampNeg - (if A (226 + 6 * (A (226 + 6 * k + 4)).toNatClampNeg) = 19 ∧ 0 < L (A (226 + 6 * k + 4)).toNatClampNeg then 1 else 0))) (if A (226 + 6 * (A (226 + 6 * k + 4)).toNatClampNeg) = 19 ∧ 0 < L (A (226 + 6 * k + 4)).toNatClampNeg then (A (226 + 6 * k + 4)).toNatClampNeg + 1 else k + 1) else (L, k)
theorem bhE_1 (A : Nat → Int32) (N f : Nat) (L : Nat → Int32) (k : Nat) : bhE A N (f + 1) L k = if k < N ∧ A (226 + 6 * k) = 20 then bhE A N f (uA L (A (226 + 6 * k + 4)).toNatClampNeg (L (A (226 + 6 * k + 4)).toNatClampNeg - (if A (226 + 6 * (A (226 + 6 * k + 4)).toNatClampNeg) = 19 ∧ 0 < L (A (226 + 6 * k + 4)).toNatClampNeg then 1 else 0))) (if A (226 + 6 * (A (226 + 6 * k + 4)).toNatClampNeg) = 19 ∧ 0 < L (A (226 + 6 * k + 4)).toNatClampNeg then (A (226 + 6 * k + 4)).toNatClampNeg + 1 else k + 1) else (L, k) := rfl
/-- no end stands there -/
def noE (A : Nat → Int32) (N k : Nat) : Prop := ¬ (k < N ∧ A (226 + 6 * k) = 20)
theorem wfK.e {A : Nat → Int32} {N k : Nat} (h : wfK A N k) (he : A (226 + 6 * k) = 20) : ∃ o, A (226 + 6 * k + 4) = nI o ∧ o < k ∧ opn A o ∧ A (226 + 6 * o + 4) = nI k := by
  rcases h with h | h | h
  · exact h.2
  · rcases h.1 with q | q | q | q <;> rw [he] at q <;> exact absurd q (by decide)
  · rcases h.1 with q | q | q | q | q | q | q <;> rw [he] at q <;> exact absurd q (by decide)
theorem dX12_behindEnds_0 : decode cX12_behindEnds 0 = .ok (.iload_n 1, 1) := by decide +kernel
theorem dX12_behindEnds_1 : decode cX12_behindEnds 1 = .ok (.istore_n 2, 1) := by decide +kernel
theorem dX12_behindEnds_2 : decode cX12_behindEnds 2 = .ok (.iload_n 2, 1) := by decide +kernel
theorem dX12_behindEnds_3 : decode cX12_behindEnds 3 = .ok (.aload_n 0, 1) := by decide +kernel
theorem dX12_behindEnds_4 : decode cX12_behindEnds 4 = .ok (.getfield 7, 3) := by decide +kernel
theorem dX12_behindEnds_7 : decode cX12_behindEnds 7 = .ok (.bipush 11, 2) := by decide +kernel
theorem dX12_behindEnds_9 : decode cX12_behindEnds 9 = .ok (.iaload, 1) := by decide +kernel
theorem dX12_behindEnds_10 : decode cX12_behindEnds 10 = .ok (.if_icmp .ge 108, 3) := by decide +kernel
theorem dX12_behindEnds_13 : decode cX12_behindEnds 13 = .ok (.aload_n 0, 1) := by decide +kernel
theorem dX12_behindEnds_14 : decode cX12_behindEnds 14 = .ok (.getfield 7, 3) := by decide +kernel
theorem dX12_behindEnds_17 : decode cX12_behindEnds 17 = .ok (.sipush 226, 3) := by decide +kernel
theorem dX12_behindEnds_20 : decode cX12_behindEnds 20 = .ok (.bipush 6, 2) := by decide +kernel
theorem dX12_behindEnds_22 : decode cX12_behindEnds 22 = .ok (.iload_n 2, 1) := by decide +kernel
theorem dX12_behindEnds_23 : decode cX12_behindEnds 23 = .ok (.imul, 1) := by decide +kernel
theorem dX12_behindEnds_24 : decode cX12_behindEnds 24 = .ok (.iadd, 1) := by decide +kernel
theorem dX12_behindEnds_25 : decode cX12_behindEnds 25 = .ok (.iaload, 1) := by decide +kernel
theorem dX12_behindEnds_26 : decode cX12_behindEnds 26 = .ok (.bipush 20, 2) := by decide +kernel
theorem dX12_behindEnds_28 : decode cX12_behindEnds 28 = .ok (.if_icmp .ne 90, 3) := by decide +kernel
theorem dX12_behindEnds_31 : decode cX12_behindEnds 31 = .ok (.aload_n 0, 1) := by decide +kernel
theorem dX12_behindEnds_32 : decode cX12_behindEnds 32 = .ok (.getfield 7, 3) := by decide +kernel
theorem dX12_behindEnds_35 : decode cX12_behindEnds 35 = .ok (.sipush 226, 3) := by decide +kernel
theorem dX12_behindEnds_38 : decode cX12_behindEnds 38 = .ok (.bipush 6, 2) := by decide +kernel
theorem dX12_behindEnds_40 : decode cX12_behindEnds 40 = .ok (.iload_n 2, 1) := by decide +kernel
theorem dX12_behindEnds_41 : decode cX12_behindEnds 41 = .ok (.imul, 1) := by decide +kernel
theorem dX12_behindEnds_42 : decode cX12_behindEnds 42 = .ok (.iadd, 1) := by decide +kernel
theorem dX12_behindEnds_43 : decode cX12_behindEnds 43 = .ok (.iconst 4, 1) := by decide +kernel
theorem dX12_behindEnds_44 : decode cX12_behindEnds 44 = .ok (.iadd, 1) := by decide +kernel
theorem dX12_behindEnds_45 : decode cX12_behindEnds 45 = .ok (.iaload, 1) := by decide +kernel
theorem dX12_behindEnds_46 : decode cX12_behindEnds 46 = .ok (.istore_n 3, 1) := by decide +kernel
theorem dX12_behindEnds_47 : decode cX12_behindEnds 47 = .ok (.aload_n 0, 1) := by decide +kernel
theorem dX12_behindEnds_48 : decode cX12_behindEnds 48 = .ok (.getfield 7, 3) := by decide +kernel
theorem dX12_behindEnds_51 : decode cX12_behindEnds 51 = .ok (.sipush 226, 3) := by decide +kernel
theorem dX12_behindEnds_54 : decode cX12_behindEnds 54 = .ok (.bipush 6, 2) := by decide +kernel
theorem dX12_behindEnds_56 : decode cX12_behindEnds 56 = .ok (.iload_n 3, 1) := by decide +kernel
theorem dX12_behindEnds_57 : decode cX12_behindEnds 57 = .ok (.imul, 1) := by decide +kernel
theorem dX12_behindEnds_58 : decode cX12_behindEnds 58 = .ok (.iadd, 1) := by decide +kernel
theorem dX12_behindEnds_59 : decode cX12_behindEnds 59 = .ok (.iaload, 1) := by decide +kernel
theorem dX12_behindEnds_60 : decode cX12_behindEnds 60 = .ok (.bipush 19, 2) := by decide +kernel
theorem dX12_behindEnds_62 : decode cX12_behindEnds 62 = .ok (.if_icmp .ne 16, 3) := by decide +kernel
theorem dX12_behindEnds_65 : decode cX12_behindEnds 65 = .ok (.aload_n 0, 1) := by decide +kernel
theorem dX12_behindEnds_66 : decode cX12_behindEnds 66 = .ok (.getfield 56, 3) := by decide +kernel
theorem dX12_behindEnds_69 : decode cX12_behindEnds 69 = .ok (.iload_n 3, 1) := by decide +kernel
theorem dX12_behindEnds_70 : decode cX12_behindEnds 70 = .ok (.iaload, 1) := by decide +kernel
theorem dX12_behindEnds_71 : decode cX12_behindEnds 71 = .ok (.ifCond .le 7, 3) := by decide +kernel
theorem dX12_behindEnds_74 : decode cX12_behindEnds 74 = .ok (.iconst 1, 1) := by decide +kernel
theorem dX12_behindEnds_75 : decode cX12_behindEnds 75 = .ok (.goto 4, 3) := by decide +kernel
theorem dX12_behindEnds_78 : decode cX12_behindEnds 78 = .ok (.iconst 0, 1) := by decide +kernel
theorem dX12_behindEnds_79 : decode cX12_behindEnds 79 = .ok (.istore 4, 2) := by decide +kernel
theorem dX12_behindEnds_81 : decode cX12_behindEnds 81 = .ok (.aload_n 0, 1) := by decide +kernel
theorem dX12_behindEnds_82 : decode cX12_behindEnds 82 = .ok (.getfield 56, 3) := by decide +kernel
theorem dX12_behindEnds_85 : decode cX12_behindEnds 85 = .ok (.iload_n 3, 1) := by decide +kernel
theorem dX12_behindEnds_86 : decode cX12_behindEnds 86 = .ok (.dup2, 1) := by decide +kernel
theorem dX12_behindEnds_87 : decode cX12_behindEnds 87 = .ok (.iaload, 1) := by decide +kernel
theorem dX12_behindEnds_88 : decode cX12_behindEnds 88 = .ok (.iload 4, 2) := by decide +kernel
theorem dX12_behindEnds_90 : decode cX12_behindEnds 90 = .ok (.ifCond .eq 7, 3) := by decide +kernel
theorem dX12_behindEnds_93 : decode cX12_behindEnds 93 = .ok (.iconst 1, 1) := by decide +kernel
theorem dX12_behindEnds_94 : decode cX12_behindEnds 94 = .ok (.goto 4, 3) := by decide +kernel
theorem dX12_behindEnds_97 : decode cX12_behindEnds 97 = .ok (.iconst 0, 1) := by decide +kernel
theorem dX12_behindEnds_98 : decode cX12_behindEnds 98 = .ok (.isub, 1) := by decide +kernel
theorem dX12_behindEnds_99 : decode cX12_behindEnds 99 = .ok (.iastore, 1) := by decide +kernel
theorem dX12_behindEnds_100 : decode cX12_behindEnds 100 = .ok (.iload 4, 2) := by decide +kernel
theorem dX12_behindEnds_102 : decode cX12_behindEnds 102 = .ok (.ifCond .eq 9, 3) := by decide +kernel
theorem dX12_behindEnds_105 : decode cX12_behindEnds 105 = .ok (.iload_n 3, 1) := by decide +kernel
theorem dX12_behindEnds_106 : decode cX12_behindEnds 106 = .ok (.iconst 1, 1) := by decide +kernel
theorem dX12_behindEnds_107 : decode cX12_behindEnds 107 = .ok (.iadd, 1) := by decide +kernel
theorem dX12_behindEnds_108 : decode cX12_behindEnds 108 = .ok (.goto 6, 3) := by decide +kernel
theorem dX12_behindEnds_111 : decode cX12_behindEnds 111 = .ok (.iload_n 2, 1) := by decide +kernel
theorem dX12_behindEnds_112 : decode cX12_behindEnds 112 = .ok (.iconst 1, 1) := by decide +kernel
theorem dX12_behindEnds_113 : decode cX12_behindEnds 113 = .ok (.iadd, 1) := by decide +kernel
theorem dX12_behindEnds_114 : decode cX12_behindEnds 114 = .ok (.istore_n 2, 1) := by decide +kernel
theorem dX12_behindEnds_115 : decode cX12_behindEnds 115 = .ok (.goto (-113), 3) := by decide +kernel
theorem dX12_behindEnds_118 : decode cX12_behindEnds 118 = .ok (.iload_n 2, 1) := by decide +kernel
theorem dX12_behindEnds_119 : decode cX12_behindEnds 119 = .ok (.ireturn, 1) := by decide +kernel
abbrev M_X12_behindEnds : MT := (yX12_behindEnds, cX12_behindEnds, 5, (some .int))
theorem cf_X12_behindEnds : fq_cf M_X12_behindEnds 1 := ⟨(mg_1 (List.mem_of_getElem? (i := 15) rfl) rfl), (mg_9 (List.mem_of_getElem? (i := 170) rfl) rfl), ⟨by decide, by decide, by decide +kernel⟩, by decide⟩
def B_X12_behindEnds_118 (l : Launch) (G : GT) (D mc ms : Nat) (Q : Post) : Cn := ix_iload 2 (ix_iret mc ms Q)
theorem b_X12_behindEnds_118 {l : Launch} {G : GT} {D mc ms : Nat} {Q : Post} : Imp l G M_X12_behindEnds (D + 0) mc ms Q (B_X12_behindEnds_118 l G D mc ms Q) 118 := sx_iload_n dX12_behindEnds_118 rfl (sx_iret dX12_behindEnds_119 rfl)
def B_X12_behindEnds_114 (l : Launch) (G : GT) (D mc ms : Nat) (Q : Post) : Cn := ix_istore 2 (fqAt l G M_X12_behindEnds (D + 0) mc ms Q 2)
theorem b_X12_behindEnds_114 {l : Launch} {G : GT} {D mc ms : Nat} {Q : Post} : Imp l G M_X12_behindEnds (D + 0) mc ms Q (B_X12_behindEnds_114 l G D mc ms Q) 114 := sx_istore_n dX12_behindEnds_114 rfl (by decide) (sx_goto 2 dX12_behindEnds_115 (by decide) ((fun _ _ _ _ _ _ _ _ h => h)))
def B_X12_behindEnds_98 (l : Launch) (G : GT) (D mc ms : Nat) (Q : Post) : Cn := ix_isub (ix_iast (ix_iload 4 (ix_if_eq (ix_iload 2 (ix_pushI 1 (ix_iadd ((B_X12_behindEnds_114 l G D mc ms Q))))) (ix_iload 3 (ix_pushI 1 (ix_iadd ((B_X12_behindEnds_114 l G D mc ms Q))))))))
theorem b_X12_behindEnds_98 {l : Launch} {G : GT} {D mc ms : Nat} {Q : Post} : Imp l G M_X12_behindEnds (D + 0) mc ms Q (B_X12_behindEnds_98 l G D mc ms Q) 98 := sx_isub dX12_behindEnds_98 (sx_iast dX12_behindEnds_99 (sx_iload dX12_behindEnds_100 (sx_if_eq 111 dX12_behindEnds_102 (by decide) (sx_iload_n dX12_behindEnds_111 rfl (sx_iconst dX12_behindEnds_112 rfl (sx_iadd dX12_behindEnds_113 (b_X12_behindEnds_114)))) (sx_iload_n dX12_behindEnds_105 rfl (sx_iconst dX12_behindEnds_106 rfl (sx_iadd dX12_behindEnds_107 (sx_goto 114 dX12_behindEnds_108 (by decide) (b_X12_behindEnds_114))))))))
def B_X12_behindEnds_79 (l : Launch) (G : GT) (D mc ms : Nat) (Q : Post) : Cn := ix_istore 4 (ix_aload 0 (ix_getR 12 31 (ix_iload 3 (ix_dup2 (ix_iald (ix_iload 4 (ix_if_eq (ix_pushI 0 ((B_X12_behindEnds_98 l G D mc ms Q))) (ix_pushI 1 ((B_X12_behindEnds_98 l G D mc ms Q))))))))))
theorem b_X12_behindEnds_79 {l : Launch} {G : GT} {D mc ms : Nat} {Q : Post} : Imp l G M_X12_behindEnds (D + 0) mc ms Q (B_X12_behindEnds_79 l G D mc ms Q) 79 := sx_istore dX12_behindEnds_79 (by decide) (sx_aload_n dX12_behindEnds_81 rfl (sx_getR dX12_behindEnds_82 fl_FootQuarrelModel_56 (fun _ _ _ => rfl) (sx_iload_n dX12_behindEnds_85 rfl (sx_dup2 dX12_behindEnds_86 (sx_iald dX12_behindEnds_87 (sx_iload dX12_behindEnds_88 (sx_if_eq 97 dX12_behindEnds_90 (by decide) (sx_iconst dX12_behindEnds_97 rfl (b_X12_behindEnds_98)) (sx_iconst dX12_behindEnds_93 rfl (sx_goto 98 dX12_behindEnds_94 (by decide) (b_X12_behindEnds_98))))))))))
def B_X12_behindEnds_78 (l : Launch) (G : GT) (D mc ms : Nat) (Q : Post) : Cn := ix_pushI 0 ((B_X12_behindEnds_79 l G D mc ms Q))
theorem b_X12_behindEnds_78 {l : Launch} {G : GT} {D mc ms : Nat} {Q : Post} : Imp l G M_X12_behindEnds (D + 0) mc ms Q (B_X12_behindEnds_78 l G D mc ms Q) 78 := sx_iconst dX12_behindEnds_78 rfl (b_X12_behindEnds_79)
def B_X12_behindEnds_2 (l : Launch) (G : GT) (D mc ms : Nat) (Q : Post) : Cn := ix_iload 2 (ix_aload 0 (ix_getR 12 0 (ix_pushI 11 (ix_iald (ix_icmp_ge ((B_X12_behindEnds_118 l G D mc ms Q)) (ix_aload 0 (ix_getR 12 0 (ix_pushI 226 (ix_pushI 6 (ix_iload 2 (ix_imul (ix_iadd (ix_iald (ix_pushI 20 (ix_icmp_ne ((B_X12_behindEnds_118 l G D mc ms Q)) (ix_aload 0 (ix_getR 12 0 (ix_pushI 226 (ix_pushI 6 (ix_iload 2 (ix_imul (ix_iadd (ix_pushI 4 (ix_iadd (ix_iald (ix_istore 3 (ix_aload 0 (ix_getR 12 0 (ix_pushI 226 (ix_pushI 6 (ix_iload 3 (ix_imul (ix_iadd (ix_iald (ix_pushI 19 (ix_icmp_ne ((B_X12_behindEnds_78 l G D mc ms Q)) (ix_aload 0 (ix_getR 12 31 (ix_iload 3 (ix_iald (ix_if_le ((B_X12_behindEnds_78 l G D mc ms Q)) (ix_pushI 1 ((B_X12_behindEnds_79 l G D mc ms Q))))))))))))))))))))))))))))))))))))))))))))
theorem b_X12_behindEnds_2 {l : Launch} {G : GT} {D mc ms : Nat} {Q : Post} : Imp l G M_X12_behindEnds (D + 0) mc ms Q (B_X12_behindEnds_2 l G D mc ms Q) 2 := sx_iload_n dX12_behindEnds_2 rfl (sx_aload_n dX12_behindEnds_3 rfl (sx_getR dX12_behindEnds_4 fl_FootQuarrelModel_7 (fun _ _ _ => rfl) (sx_bipush dX12_behindEnds_7 rfl (sx_iald dX12_behindEnds_9 (sx_icmp_ge 118 dX12_behindEnds_10 (by decide) (b_X12_behindEnds_118) (sx_aload_n dX12_behindEnds_13 rfl (sx_getR dX12_behindEnds_14 fl_FootQuarrelModel_7 (fun _ _ _ => rfl) (sx_sipush dX12_behindEnds_17 rfl (sx_bipush dX12_behindEnds_20 rfl (sx_iload_n dX12_behindEnds_22 rfl (sx_imul dX12_behindEnds_23 (sx_iadd dX12_behindEnds_24 (sx_iald dX12_behindEnds_25 (sx_bipush dX12_behindEnds_26 rfl (sx_icmp_ne 118 dX12_behindEnds_28 (by decide) (b_X12_behindEnds_118) (sx_aload_n dX12_behindEnds_31 rfl (sx_getR dX12_behindEnds_32 fl_FootQuarrelModel_7 (fun _ _ _ => rfl) (sx_sipush dX12_behindEnds_35 rfl (sx_bipush dX12_behindEnds_38 rfl (sx_iload_n dX12_behindEnds_40 rfl (sx_imul dX12_behindEnds_41 (sx_iadd dX12_behindEnds_42 (sx_iconst dX12_behindEnds_43 rfl (sx_iadd dX12_behindEnds_44 (sx_iald dX12_behindEnds_45 (sx_istore_n dX12_behindEnds_46 rfl (by decide) (sx_aload_n dX12_behindEnds_47 rfl (sx_getR dX12_behindEnds_48 fl_FootQuarrelModel_7 (fun _ _ _ => rfl) (sx_sipush dX12_behindEnds_51 rfl (sx_bipush dX12_behindEnds_54 rfl (sx_iload_n dX12_behindEnds_56 rfl (sx_imul dX12_behindEnds_57 (sx_iadd dX12_behindEnds_58 (sx_iald dX12_behindEnds_59 (sx_bipush dX12_behindEnds_60 rfl (sx_icmp_ne 78 dX12_behindEnds_62 (by decide) (b_X12_behindEnds_78) (sx_aload_n dX12_behindEnds_65 rfl (sx_getR dX12_behindEnds_66 fl_FootQuarrelModel_56 (fun _ _ _ => rfl) (sx_iload_n dX12_behindEnds_69 rfl (sx_iald dX12_behindEnds_70 (sx_if_le 78 dX12_behindEnds_71 (by decide) (b_X12_behindEnds_78) (sx_iconst dX12_behindEnds_74 rfl (sx_goto 79 dX12_behindEnds_75 (by decide) (b_X12_behindEnds_79))))))))))))))))))))))))))))))))))))))))))))
def B_X12_behindEnds_0 (l : Launch) (G : GT) (D mc ms : Nat) (Q : Post) : Cn := ix_iload 1 (ix_istore 2 (fqAt l G M_X12_behindEnds (D + 0) mc ms Q 2))
theorem b_X12_behindEnds_0 {l : Launch} {G : GT} {D mc ms : Nat} {Q : Post} : Imp l G M_X12_behindEnds (D + 0) mc ms Q (B_X12_behindEnds_0 l G D mc ms Q) 0 := sx_iload_n dX12_behindEnds_0 rfl (sx_istore_n dX12_behindEnds_1 rfl (by decide) ((fun _ _ _ _ _ _ _ _ h => h)))
def sp_X12_behindEnds (G : GT) : Sp := fun as S I J z Q => match as with
  | [.ref M, .int a] => rfS S M ∧ ∃ k N f, a = nI k ∧ k ≤ 60 ∧ I (M + 1) 11 = nI N ∧ wfY (I (M + 1)) N ∧ noE (I (M + 1)) N (bhE (I (M + 1)) N f (I (M + 12)) k).2 ∧ Q (some (.int (nI (bhE (I (M + 1)) N f (I (M + 12)) k).2))) S (up1 I (M + 12) (bhE (I (M + 1)) N f (I (M + 12)) k).1) J z
  | _ => False
set_option maxHeartbeats 4000000 in
set_option maxRecDepth 20000 in
theorem c_X12_behindEnds {l : Launch} {G : GT} {D : Nat} : ∀ as S I J z Q, sp_X12_behindEnds G as S I J z Q → fqCall l G M_X12_behindEnds (D + 0) 0 0 as S I J z Q := by
  intro as S I J z Q h
  unfold sp_X12_behindEnds at h
  split at h
  · next M a =>
    obtain ⟨hm, k, N, f, rfl, hk, hN, hy, hno, hQ⟩ := h
    have hN6 := hy.1
    have lp : ∀ (f k : Nat) (L : Nat → Int32) (o3 o4 : Option Value), k ≤ 60 → noE (I (M + 1)) N (bhE (I (M + 1)) N f L k).2 → Q (some (.int (nI (bhE (I (M + 1)) N f L k).2))) S (up1 I (M + 12) (bhE (I (M + 1)) N f L k).1) J z → ∀ x1 : Int32, fqAt l G M_X12_behindEnds (D + 0) 0 0 Q 2 [some (.ref M), some (.int x1), some (.int (nI k)), o3, o4] [] S (up1 I (M + 12) L) J z 0 0 := by
      intro f
      induction f with
      | zero =>
        intro k L o3 o4 hk hno hq x1
        have hno : noE (I (M + 1)) N k := hno
        have hq : Q (some (.int (nI k))) S (up1 I (M + 12) L) J z := hq
        unfold noE at hno
        refine b_X12_behindEnds_2 _ _ _ _ _ _ _ _ ?_
        simp (disch := omega) only [B_X12_behindEnds_0, B_X12_behindEnds_2, B_X12_behindEnds_78, B_X12_behindEnds_79, B_X12_behindEnds_98, B_X12_behindEnds_114, B_X12_behindEnds_118, hm, hm.k, hm.k1, hm.n1, hm.r1, hm.k2, hm.n2, hm.r2, hm.k3, hm.n3, hm.r3, hm.k4, hm.n4, hm.r4, hm.k5, hm.n5, hm.r5, hm.k6, hm.n6, hm.r6, hm.k7, hm.n7, hm.r7, hm.k8, hm.n8, hm.r8, hm.k9, hm.n9, hm.r9, hm.k10, hm.n10, hm.r10, hm.k11, hm.n11, hm.r11, hm.k12, hm.n12, hm.r12, hm.k13, hm.n13, hm.r13, hm.k14, hm.n14, hm.r14, li_2, li_3, li_4, li_5, li_6, li_7, li_8, li_9, li_10, li_11, li_12, li_13, li_14, li_15, li_16, li_17, li_18, li_19, li_20, li_21, li_22, li_23, li_24, li_25, li_26, li_27, li_28, li_29, li_30, li_32, li_33, li_34, li_35, li_36, li_37, li_38, li_39, li_40, li_41, li_42, li_43, li_44, li_45, li_46, li_47, li_48, li_49, li_50, li_51, li_52, li_53, li_54, li_55, li_56, li_57, li_58, li_59, li_60, li_61, li_62, li_63, li_64, li_65, li_66, li_67, li_68, li_69, li_70, li_71, li_72, li_73, li_74, li_75, li_76, li_77, li_78, li_79, li_80, li_81, li_82, li_83, li_84, li_85, li_86, li_87, li_88, li_89, li_90, li_91, li_92, li_93, li_94, li_95, li_96, li_97, li_98, li_99, li_100, li_101, li_102, li_103, li_104, li_105, li_106, li_107, li_108, li_109, li_110, li_111, li_112, li_113, li_114, li_115, li_116, li_117, li_118, li_119, li_120, li_121, li_122, li_123, li_124, li_125, li_126, li_127, li_128, li_129, li_130, li_131, li_226, li_240, li_255, li_300, li_586, li_594, li_900, li_999, li_1000, li_1800, li_2376, li_2388, li_2406, li_2602, li_2970, li_3067, li_3564, li_9999, li_10000, li_11287, li_65536, li_100000, li_1000000, nI_mul, tn0, tn1, vin0, vin1, Int32.add_zero, Int32.or_zero, Int32.mul_one, Int32.mul_zero, Int32.zero_add, Nat.reduceEqDiff, Nat.reduceMul, Nat.reduceSub, up1_o, hN, nI_1, nI_add, nI_clamp, nI_pin, nI_neg, nI_nonneg, nI_leE, nI_ltE, nI_eqE, Nat.not_le, Nat.not_lt, fq_10, fq_01, fq_rr, ix_aald, ix_aast, ix_abs, ix_alen, ix_aload, ix_aret, ix_astore, ix_bald, ix_bast, ix_call, ix_cpyI, ix_cpyJ, ix_dead, ix_dup2, ix_dup2L, ix_dupI, ix_dupR, ix_dupx1, ix_getI, ix_getJ, ix_getR, ix_gfm, ix_gtab, ix_i2b, ix_i2c, ix_i2l, ix_i2s, ix_iadd, ix_iald, ix_iand, ix_iast, ix_icall, ix_icmp_eq, ix_icmp_ge, ix_icmp_gt, ix_icmp_le, ix_icmp_lt, ix_icmp_ne, ix_idiv, ix_if_eq, ix_if_ge, ix_if_gt, ix_if_le, ix_if_lt, ix_if_ne, ix_iinc, ix_iload, ix_imul, ix_ineg, ix_ior, ix_irem, ix_iret, ix_ishl, ix_ishr, ix_istore, ix_isub, ix_iushr, ix_ixor, ix_l2i, ix_ladd, ix_lald, ix_land, ix_last, ix_lcmp, ix_ldcS, ix_ldiv, ix_lload, ix_lmul, ix_lor, ix_lrem, ix_lret, ix_lshl, ix_lstore, ix_lsub, ix_lsw, ix_max, ix_min, ix_new, ix_newa, ix_nret, ix_oinit, ix_pop2L, ix_popI, ix_pushI, ix_pushL, ix_putI, ix_putJ, ix_putR, ix_putZ, ix_sbald, ix_sgetC, ix_sgetV, ix_slen, ix_strc, ix_tald, ix_tsw, ix_vcall, ix_vret, ix_zret, stL, stL2, kilL, popN, fq_sw, fq_lsw, List.map_cons, List.map_nil, List.getElem?_cons_zero, List.getElem?_cons_succ, Option.toList_some, Option.toList_none, List.cons_append, List.nil_append, List.length_cons, List.length_nil, List.sum_cons, List.sum_nil, cat_i, cat_l, cat_r, true_and, and_true, Nat.zero_add, Nat.add_zero, Nat.le_refl, Nat.zero_le, Nat.reduceAdd, Nat.reduceLeDiff, exists_eq_left', Option.some.injEq, not_true_eq_false, not_false_eq_true, false_implies, true_implies, implies_true, and_self, or_true, true_or, or_false, false_or]
        exact ⟨fun _ => hq, fun h => ⟨fun _ => hq, fun h2 => absurd ⟨h, h2⟩ hno⟩⟩
      | succ f ih =>
        intro k L o3 o4 hk hno hq x1
        rw [bhE_1] at hno hq
        by_cases hE : k < N ∧ I (M + 1) (226 + 6 * k) = 20
        · rw [if_pos hE] at hno hq
          obtain ⟨o, eo, ho, op, -⟩ := (hy.2.1 k hE.1).e hE.2
          rw [eo, nI_clamp (by omega)] at hno hq
          have hE2 : I (M + 1) (226 + 6 * k) = nI 20 := hE.2
          have hkN := hE.1
          refine b_X12_behindEnds_2 _ _ _ _ _ _ _ _ ?_
          simp (disch := omega) only [B_X12_behindEnds_0, B_X12_behindEnds_2, B_X12_behindEnds_78, B_X12_behindEnds_79, B_X12_behindEnds_98, B_X12_behindEnds_114, B_X12_behindEnds_118, hm, hm.k, hm.k1, hm.n1, hm.r1, hm.k2, hm.n2, hm.r2, hm.k3, hm.n3, hm.r3, hm.k4, hm.n4, hm.r4, hm.k5, hm.n5, hm.r5, hm.k6, hm.n6, hm.r6, hm.k7, hm.n7, hm.r7, hm.k8, hm.n8, hm.r8, hm.k9, hm.n9, hm.r9, hm.k10, hm.n10, hm.r10, hm.k11, hm.n11, hm.r11, hm.k12, hm.n12, hm.r12, hm.k13, hm.n13, hm.r13, hm.k14, hm.n14, hm.r14, li_2, li_3, li_4, li_5, li_6, li_7, li_8, li_9, li_10, li_11, li_12, li_13, li_14, li_15, li_16, li_17, li_18, li_19, li_20, li_21, li_22, li_23, li_24, li_25, li_26, li_27, li_28, li_29, li_30, li_32, li_33, li_34, li_35, li_36, li_37, li_38, li_39, li_40, li_41, li_42, li_43, li_44, li_45, li_46, li_47, li_48, li_49, li_50, li_51, li_52, li_53, li_54, li_55, li_56, li_57, li_58, li_59, li_60, li_61, li_62, li_63, li_64, li_65, li_66, li_67, li_68, li_69, li_70, li_71, li_72, li_73, li_74, li_75, li_76, li_77, li_78, li_79, li_80, li_81, li_82, li_83, li_84, li_85, li_86, li_87, li_88, li_89, li_90, li_91, li_92, li_93, li_94, li_95, li_96, li_97, li_98, li_99, li_100, li_101, li_102, li_103, li_104, li_105, li_106, li_107, li_108, li_109, li_110, li_111, li_112, li_113, li_114, li_115, li_116, li_117, li_118, li_119, li_120, li_121, li_122, li_123, li_124, li_125, li_126, li_127, li_128, li_129, li_130, li_131, li_226, li_240, li_255, li_300, li_586, li_594, li_900, li_999, li_1000, li_1800, li_2376, li_2388, li_2406, li_2602, li_2970, li_3067, li_3564, li_9999, li_10000, li_11287, li_65536, li_100000, li_1000000, nI_mul, tn0, tn1, vin0, vin1, Int32.add_zero, Int32.or_zero, Int32.mul_one, Int32.mul_zero, Int32.zero_add, Nat.reduceEqDiff, Nat.reduceMul, Nat.reduceSub, up1_o, up1_at, hN, hE2, eo, u2_up, nI_1, nI_add, nI_clamp, nI_pin, nI_neg, nI_nonneg, nI_leE, nI_ltE, nI_eqE, Nat.not_le, Nat.not_lt, fq_10, fq_01, fq_rr, ix_aald, ix_aast, ix_abs, ix_alen, ix_aload, ix_aret, ix_astore, ix_bald, ix_bast, ix_call, ix_cpyI, ix_cpyJ, ix_dead, ix_dup2, ix_dup2L, ix_dupI, ix_dupR, ix_dupx1, ix_getI, ix_getJ, ix_getR, ix_gfm, ix_gtab, ix_i2b, ix_i2c, ix_i2l, ix_i2s, ix_iadd, ix_iald, ix_iand, ix_iast, ix_icall, ix_icmp_eq, ix_icmp_ge, ix_icmp_gt, ix_icmp_le, ix_icmp_lt, ix_icmp_ne, ix_idiv, ix_if_eq, ix_if_ge, ix_if_gt, ix_if_le, ix_if_lt, ix_if_ne, ix_iinc, ix_iload, ix_imul, ix_ineg, ix_ior, ix_irem, ix_iret, ix_ishl, ix_ishr, ix_istore, ix_isub, ix_iushr, ix_ixor, ix_l2i, ix_ladd, ix_lald, ix_land, ix_last, ix_lcmp, ix_ldcS, ix_ldiv, ix_lload, ix_lmul, ix_lor, ix_lrem, ix_lret, ix_lshl, ix_lstore, ix_lsub, ix_lsw, ix_max, ix_min, ix_new, ix_newa, ix_nret, ix_oinit, ix_pop2L, ix_popI, ix_pushI, ix_pushL, ix_putI, ix_putJ, ix_putR, ix_putZ, ix_sbald, ix_sgetC, ix_sgetV, ix_slen, ix_strc, ix_tald, ix_tsw, ix_vcall, ix_vret, ix_zret, stL, stL2, kilL, popN, fq_sw, fq_lsw, List.map_cons, List.map_nil, List.getElem?_cons_zero, List.getElem?_cons_succ, Option.toList_some, Option.toList_none, List.cons_append, List.nil_append, List.length_cons, List.length_nil, List.sum_cons, List.sum_nil, cat_i, cat_l, cat_r, true_and, and_true, Nat.zero_add, Nat.add_zero, Nat.le_refl, Nat.zero_le, Nat.reduceAdd, Nat.reduceLeDiff, exists_eq_left', Option.some.injEq, not_true_eq_false, not_false_eq_true, false_implies, true_implies, implies_true, and_self, or_true, true_or, or_false, false_or]
          refine ⟨fun h => absurd h (by omega), fun _ => ⟨fun h => ?_, fun h => ⟨fun h2 => ?_, fun h2 => ?_⟩⟩⟩
          · have hn : ¬ (I (M + 1) (226 + 6 * o) = 19 ∧ 0 < L o) := fun q => h q.1
            rw [if_neg hn, if_neg hn] at hno hq
            exact ih _ _ _ _ (by omega) hno hq x1
          · have hn : ¬ (I (M + 1) (226 + 6 * o) = 19 ∧ 0 < L o) := fun q => Int32.not_le.mpr q.2 h2
            rw [if_neg hn, if_neg hn] at hno hq
            exact ih _ _ _ _ (by omega) hno hq x1
          · have hn : I (M + 1) (226 + 6 * o) = 19 ∧ 0 < L o := ⟨h, Int32.not_le.mp h2⟩
            rw [if_pos hn, if_pos hn] at hno hq
            exact ih _ _ _ _ (by omega) hno hq x1
        · rw [if_neg hE] at hno hq
          refine b_X12_behindEnds_2 _ _ _ _ _ _ _ _ ?_
          simp (disch := omega) only [B_X12_behindEnds_0, B_X12_behindEnds_2, B_X12_behindEnds_78, B_X12_behindEnds_79, B_X12_behindEnds_98, B_X12_behindEnds_114, B_X12_behindEnds_118, hm, hm.k, hm.k1, hm.n1, hm.r1, hm.k2, hm.n2, hm.r2, hm.k3, hm.n3, hm.r3, hm.k4, hm.n4, hm.r4, hm.k5, hm.n5, hm.r5, hm.k6, hm.n6, hm.r6, hm.k7, hm.n7, hm.r7, hm.k8, hm.n8, hm.r8, hm.k9, hm.n9, hm.r9, hm.k10, hm.n10, hm.r10, hm.k11, hm.n11, hm.r11, hm.k12, hm.n12, hm.r12, hm.k13, hm.n13, hm.r13, hm.k14, hm.n14, hm.r14, li_2, li_3, li_4, li_5, li_6, li_7, li_8, li_9, li_10, li_11, li_12, li_13, li_14, li_15, li_16, li_17, li_18, li_19, li_20, li_21, li_22, li_23, li_24, li_25, li_26, li_27, li_28, li_29, li_30, li_32, li_33, li_34, li_35, li_36, li_37, li_38, li_39, li_40, li_41, li_42, li_43, li_44, li_45, li_46, li_47, li_48, li_49, li_50, li_51, li_52, li_53, li_54, li_55, li_56, li_57, li_58, li_59, li_60, li_61, li_62, li_63, li_64, li_65, li_66, li_67, li_68, li_69, li_70, li_71, li_72, li_73, li_74, li_75, li_76, li_77, li_78, li_79, li_80, li_81, li_82, li_83, li_84, li_85, li_86, li_87, li_88, li_89, li_90, li_91, li_92, li_93, li_94, li_95, li_96, li_97, li_98, li_99, li_100, li_101, li_102, li_103, li_104, li_105, li_106, li_107, li_108, li_109, li_110, li_111, li_112, li_113, li_114, li_115, li_116, li_117, li_118, li_119, li_120, li_121, li_122, li_123, li_124, li_125, li_126, li_127, li_128, li_129, li_130, li_131, li_226, li_240, li_255, li_300, li_586, li_594, li_900, li_999, li_1000, li_1800, li_2376, li_2388, li_2406, li_2602, li_2970, li_3067, li_3564, li_9999, li_10000, li_11287, li_65536, li_100000, li_1000000, nI_mul, tn0, tn1, vin0, vin1, Int32.add_zero, Int32.or_zero, Int32.mul_one, Int32.mul_zero, Int32.zero_add, Nat.reduceEqDiff, Nat.reduceMul, Nat.reduceSub, up1_o, hN, nI_1, nI_add, nI_clamp, nI_pin, nI_neg, nI_nonneg, nI_leE, nI_ltE, nI_eqE, Nat.not_le, Nat.not_lt, fq_10, fq_01, fq_rr, ix_aald, ix_aast, ix_abs, ix_alen, ix_aload, ix_aret, ix_astore, ix_bald, ix_bast, ix_call, ix_cpyI, ix_cpyJ, ix_dead, ix_dup2, ix_dup2L, ix_dupI, ix_dupR, ix_dupx1, ix_getI, ix_getJ, ix_getR, ix_gfm, ix_gtab, ix_i2b, ix_i2c, ix_i2l, ix_i2s, ix_iadd, ix_iald, ix_iand, ix_iast, ix_icall, ix_icmp_eq, ix_icmp_ge, ix_icmp_gt, ix_icmp_le, ix_icmp_lt, ix_icmp_ne, ix_idiv, ix_if_eq, ix_if_ge, ix_if_gt, ix_if_le, ix_if_lt, ix_if_ne, ix_iinc, ix_iload, ix_imul, ix_ineg, ix_ior, ix_irem, ix_iret, ix_ishl, ix_ishr, ix_istore, ix_isub, ix_iushr, ix_ixor, ix_l2i, ix_ladd, ix_lald, ix_land, ix_last, ix_lcmp, ix_ldcS, ix_ldiv, ix_lload, ix_lmul, ix_lor, ix_lrem, ix_lret, ix_lshl, ix_lstore, ix_lsub, ix_lsw, ix_max, ix_min, ix_new, ix_newa, ix_nret, ix_oinit, ix_pop2L, ix_popI, ix_pushI, ix_pushL, ix_putI, ix_putJ, ix_putR, ix_putZ, ix_sbald, ix_sgetC, ix_sgetV, ix_slen, ix_strc, ix_tald, ix_tsw, ix_vcall, ix_vret, ix_zret, stL, stL2, kilL, popN, fq_sw, fq_lsw, List.map_cons, List.map_nil, List.getElem?_cons_zero, List.getElem?_cons_succ, Option.toList_some, Option.toList_none, List.cons_append, List.nil_append, List.length_cons, List.length_nil, List.sum_cons, List.sum_nil, cat_i, cat_l, cat_r, true_and, and_true, Nat.zero_add, Nat.add_zero, Nat.le_refl, Nat.zero_le, Nat.reduceAdd, Nat.reduceLeDiff, exists_eq_left', Option.some.injEq, not_true_eq_false, not_false_eq_true, false_implies, true_implies, implies_true, and_self, or_true, true_or, or_false, false_or]
          exact ⟨fun _ => hq, fun h => ⟨fun _ => hq, fun h2 => absurd ⟨h, h2⟩ hE⟩⟩
    refine fq_enter [some (.ref M), some (.int (nI k)), none, none, none] (by decide +kernel) (Nat.le_of_ble_eq_true rfl) rfl (b_X12_behindEnds_0 _ _ _ _ _ _ _ _ ?_)
    simp (disch := omega) only [B_X12_behindEnds_0, B_X12_behindEnds_2, B_X12_behindEnds_78, B_X12_behindEnds_79, B_X12_behindEnds_98, B_X12_behindEnds_114, B_X12_behindEnds_118, hm, hm.k, hm.k1, hm.n1, hm.r1, hm.k2, hm.n2, hm.r2, hm.k3, hm.n3, hm.r3, hm.k4, hm.n4, hm.r4, hm.k5, hm.n5, hm.r5, hm.k6, hm.n6, hm.r6, hm.k7, hm.n7, hm.r7, hm.k8, hm.n8, hm.r8, hm.k9, hm.n9, hm.r9, hm.k10, hm.n10, hm.r10, hm.k11, hm.n11, hm.r11, hm.k12, hm.n12, hm.r12, hm.k13, hm.n13, hm.r13, hm.k14, hm.n14, hm.r14, li_2, li_3, li_4, li_5, li_6, li_7, li_8, li_9, li_10, li_11, li_12, li_13, li_14, li_15, li_16, li_17, li_18, li_19, li_20, li_21, li_22, li_23, li_24, li_25, li_26, li_27, li_28, li_29, li_30, li_32, li_33, li_34, li_35, li_36, li_37, li_38, li_39, li_40, li_41, li_42, li_43, li_44, li_45, li_46, li_47, li_48, li_49, li_50, li_51, li_52, li_53, li_54, li_55, li_56, li_57, li_58, li_59, li_60, li_61, li_62, li_63, li_64, li_65, li_66, li_67, li_68, li_69, li_70, li_71, li_72, li_73, li_74, li_75, li_76, li_77, li_78, li_79, li_80, li_81, li_82, li_83, li_84, li_85, li_86, li_87, li_88, li_89, li_90, li_91, li_92, li_93, li_94, li_95, li_96, li_97, li_98, li_99, li_100, li_101, li_102, li_103, li_104, li_105, li_106, li_107, li_108, li_109, li_110, li_111, li_112, li_113, li_114, li_115, li_116, li_117, li_118, li_119, li_120, li_121, li_122, li_123, li_124, li_125, li_126, li_127, li_128, li_129, li_130, li_131, li_226, li_240, li_255, li_300, li_586, li_594, li_900, li_999, li_1000, li_1800, li_2376, li_2388, li_2406, li_2602, li_2970, li_3067, li_3564, li_9999, li_10000, li_11287, li_65536, li_100000, li_1000000, nI_mul, tn0, tn1, vin0, vin1, Int32.add_zero, Int32.or_zero, Int32.mul_one, Int32.mul_zero, Int32.zero_add, Nat.reduceEqDiff, Nat.reduceMul, Nat.reduceSub, nI_1, nI_add, nI_clamp, nI_pin, nI_neg, nI_nonneg, nI_leE, nI_ltE, nI_eqE, Nat.not_le, Nat.not_lt, fq_10, fq_01, fq_rr, ix_aald, ix_aast, ix_abs, ix_alen, ix_aload, ix_aret, ix_astore, ix_bald, ix_bast, ix_call, ix_cpyI, ix_cpyJ, ix_dead, ix_dup2, ix_dup2L, ix_dupI, ix_dupR, ix_dupx1, ix_getI, ix_getJ, ix_getR, ix_gfm, ix_gtab, ix_i2b, ix_i2c, ix_i2l, ix_i2s, ix_iadd, ix_iald, ix_iand, ix_iast, ix_icall, ix_icmp_eq, ix_icmp_ge, ix_icmp_gt, ix_icmp_le, ix_icmp_lt, ix_icmp_ne, ix_idiv, ix_if_eq, ix_if_ge, ix_if_gt, ix_if_le, ix_if_lt, ix_if_ne, ix_iinc, ix_iload, ix_imul, ix_ineg, ix_ior, ix_irem, ix_iret, ix_ishl, ix_ishr, ix_istore, ix_isub, ix_iushr, ix_ixor, ix_l2i, ix_ladd, ix_lald, ix_land, ix_last, ix_lcmp, ix_ldcS, ix_ldiv, ix_lload, ix_lmul, ix_lor, ix_lrem, ix_lret, ix_lshl, ix_lstore, ix_lsub, ix_lsw, ix_max, ix_min, ix_new, ix_newa, ix_nret, ix_oinit, ix_pop2L, ix_popI, ix_pushI, ix_pushL, ix_putI, ix_putJ, ix_putR, ix_putZ, ix_sbald, ix_sgetC, ix_sgetV, ix_slen, ix_strc, ix_tald, ix_tsw, ix_vcall, ix_vret, ix_zret, stL, stL2, kilL, popN, fq_sw, fq_lsw, List.map_cons, List.map_nil, List.getElem?_cons_zero, List.getElem?_cons_succ, Option.toList_some, Option.toList_none, List.cons_append, List.nil_append, List.length_cons, List.length_nil, List.sum_cons, List.sum_nil, cat_i, cat_l, cat_r, true_and, and_true, Nat.zero_add, Nat.add_zero, Nat.le_refl, Nat.zero_le, Nat.reduceAdd, Nat.reduceLeDiff, exists_eq_left', Option.some.injEq, not_true_eq_false, not_false_eq_true, false_implies, true_implies, implies_true, and_self, or_true, true_or, or_false, false_or]
    have := lp f k (I (M + 12)) none none hk hno hQ (nI k)
    rw [up1_id] at this
    exact this
  · exact h.elim
/-- the ends come to an end -/
def okL (L : Nat → Int32) : Prop := ∀ o, o < 60 → okN (L o) 98
theorem okL.u {L : Nat → Int32} (h : okL L) {o : Nat} {b : Bool} (hb : b = true → 0 < L o) : okL (uA L o (L o - (if b = true then 1 else 0))) := by
  intro j hj
  by_cases e : j = o
  · subst e
    rw [uA_e]
    obtain ⟨n, hn, en, en2⟩ := (h j hj).ex
    cases b with
    | true =>
      rw [if_pos rfl]
      have h0 := hb rfl
      rw [en, nI_gt0 (by omega)] at h0
      obtain ⟨m, rfl⟩ : ∃ m, n = m + 1 := ⟨n - 1, by omega⟩
      rw [en, nI_pred]
      exact okN.nI (by omega) (by decide)
    | false =>
      rw [if_neg (by decide), Int32.sub_zero]
      exact h j hj
  · rw [uA_n _ _ _ _ e]
    exact h j hj
theorem bhE_st {A : Nat → Int32} {N : Nat} : ∀ (f : Nat) {L : Nat → Int32} {k : Nat}, noE A N k → bhE A N f L k = (L, k)
  | 0, _, _, _ => rfl
  | f + 1, L, k, h => by rw [bhE_1, if_neg h]
theorem bhE_end {A : Nat → Int32} {N : Nat} (hy : wfY A N) : ∀ (f : Nat) (L : Nat → Int32) (k : Nat), okL L → (∀ o, o < 60 → k < N → A (226 + 6 * k) = 20 → A (226 + 6 * k + 4) = nI o → (if o + 1 = k then (L o).toNatClampNeg else 0) + (60 - k) < f) → (k < N ∨ 0 < f) → noE A N (bhE A N f L k).2 ∧ okL (bhE A N f L k).1
  | 0, L, k, hL, hm, hf => by
    have hk : k < N := by omega
    by_cases hE : A (226 + 6 * k) = 20
    · obtain ⟨o, eo, ho, op, -⟩ := (hy.2.1 k hk).e hE
      have hN := hy.1
      have := hm o (by omega) hk hE eo
      omega
    · exact ⟨fun q => hE q.2, hL⟩
  | f + 1, L, k, hL, hm, hf => by
    by_cases hE : k < N ∧ A (226 + 6 * k) = 20
    · obtain ⟨hk, hE⟩ := hE
      have hN := hy.1
      obtain ⟨o, eo, ho, op, eo2⟩ := (hy.2.1 k hk).e hE
      have hmk := hm o (by omega) hk hE eo
      rw [bhE_1, if_pos ⟨hk, hE⟩, eo, nI_clamp (by omega)]
      by_cases hg : A (226 + 6 * o) = 19 ∧ 0 < L o
      · rw [if_pos hg, if_pos hg]
        have hL2 : okL (uA L o (L o - 1)) := by
          have := hL.u (o := o) (b := true) (fun _ => hg.2)
          rw [if_pos rfl] at this
          exact this
        refine bhE_end hy f _ _ hL2 ?_ (Or.inl (by omega))
        intro o' ho' hk' hE' eo'
        obtain ⟨o'', eo'', ho'', op'', eo3⟩ := (hy.2.1 (o + 1) hk').e hE'
        have e1 : o'' = o' := nI_i (by omega) (by omega) (eo''.symm.trans eo')
        subst e1
        have h1 : o'' = o := by
          by_cases hlt : o'' < o
          · have := hy.2.2 o'' o (o + 1) k hlt (by omega) (by omega) op'' op eo3 eo2 (by omega) (by omega)
            omega
          · omega
        subst h1
        have h2 : o'' + 1 = k := nI_i (by omega) (by omega) (eo3.symm.trans eo2)
        rw [if_pos rfl, uA_e]
        rw [if_pos h2] at hmk
        obtain ⟨n, hn, en, en2⟩ := (hL o'' (by omega)).ex
        have h0 := hg.2
        rw [en, nI_gt0 (by omega)] at h0
        obtain ⟨m, rfl⟩ : ∃ m, n = m + 1 := ⟨n - 1, by omega⟩
        rw [en, nI_pred, nI_clamp (by omega)]
        omega
      · rw [if_neg hg, if_neg hg]
        have hL2 : okL (uA L o (L o - 0)) := by
          have := hL.u (o := o) (b := false) (fun q => absurd q (by decide))
          rw [if_neg (by decide)] at this
          exact this
        by_cases hf0 : f = 0
        · subst hf0
          omega
        refine bhE_end hy f _ _ hL2 ?_ (Or.inr (by omega))
        intro o' ho' hk' hE' eo'
        obtain ⟨o'', eo'', ho'', op'', eo3⟩ := (hy.2.1 (k + 1) hk').e hE'
        have e2 : ¬ o' + 1 = k + 1 := fun q => by
          obtain rfl : o' = k := by omega
          have e1 : o'' = o' := nI_i (by omega) (by omega) (eo''.symm.trans eo')
          subst e1
          rcases op'' with q | q | q | q <;> rw [hE] at q <;> exact absurd q (by decide)
        rw [if_neg e2]
        omega
    · rw [bhE_st _ hE]
      exact ⟨hE, hL⟩
theorem bhE_200 {A : Nat → Int32} {N : Nat} (hy : wfY A N) {L : Nat → Int32} {k : Nat} (hL : okL L) : noE A N (bhE A N 200 L k).2 ∧ okL (bhE A N 200 L k).1 := by
  refine bhE_end hy 200 L k hL ?_ (Or.inr (by omega))
  intro o ho _ _ _
  have := (hL o ho).2
  split <;> omega
theorem bhE_le {A : Nat → Int32} {N : Nat} (hy : wfY A N) : ∀ (f : Nat) (L : Nat → Int32) (k : Nat), k ≤ N → (bhE A N f L k).2 ≤ N
  | 0, _, _, h => h
  | f + 1, L, k, h => by
    rw [bhE_1]
    split
    · next hE =>
      have hN := hy.1
      obtain ⟨o, eo, ho, op, -⟩ := (hy.2.1 k hE.1).e hE.2
      rw [eo, nI_clamp (by omega)]
      refine bhE_le hy f _ _ ?_
      split <;> omega
    · exact h
/-- a life: the row, the draw, what was counted, steps done, rounds left -/
abbrev LSt : Type := (Nat → Int32) × Nat × (Nat → Int32) × Nat × (Nat → Int32)
def rnU (R : Nat → Int32) (x : LR) : Nat → Int32 := fun j => if j = 0 then R 0 + (if x.1 = true then 0 else 1) else if j = 1 then R 1 + x.2.2.2.1 else if j = 2 then R 2 + x.2.2.2.2.1 else if j = 3 then R 3 + x.2.2.2.2.2 else R j
/-- where it goes on, ends not looked at yet -/
def nxK (A : Nat → Int32) (k : Nat) : Nat := if 1800 ≤ A (226 + 6 * k) ∧ ¬ hdF A (226 + 6 * k) then (A (226 + 6 * k + 4)).toNatClampNeg + 1 else k + 1
theorem hlA_o {A : Nat → Int32} {w k : Nat} (hw : w < 5) (hk : 93 ≤ k ∨ k < 12) : hlA A 0 w k = A k := by
  unfold hlA
  split
  · rw [uA_n _ _ _ _ (by omega), uA_n _ _ _ _ (by omega), uA_n _ _ _ _ (by omega)]
  · rw [uA_n _ _ _ _ (by omega), uA_n _ _ _ _ (by omega), uA_n _ _ _ _ (by omega)]
theorem ngtN_o : ∀ {n : Nat} {A : Nat → Int32} {k : Nat}, okN (A 1) 8 → (86 ≤ k ∨ (k < 30 ∧ k ≠ 6)) → ngtN n A k = A k
  | 0, _, _, _, _ => rfl
  | n + 1, A, k, h1, hk => by
    unfold ngtN
    have hc := h1.2
    rw [ngtN_o (by rw [ngtA_1]; exact h1) hk]
    unfold ngtA
    rw [uA_n _ _ _ _ (by omega), slpR_r _ _ _ (by omega)]
theorem syX_11 {A : Nat → Int32} {p q x y : Nat} : syX A p q x y 11 = A 11 := by
  rw [syX_lo (by omega) (by omega)]
  unfold wbX wbR
  rw [if_neg (by omega), if_neg (by omega), if_neg (by omega), if_neg (by omega), if_neg (by omega), if_neg (by omega), if_neg (by omega), if_neg (by omega), if_neg (by omega), if_neg (by omega)]
/-- what a say in a life keeps -/
theorem loS_ok {A : Nat → Int32} (h : wfS A) {d a b : Nat} (ha : a < (A 1).toNatClampNeg) (hb : b < (A 1).toNatClampNeg) : wfS (loS A d a b).2.1 ∧ (∀ k, (226 ≤ k ∨ k = 0 ∨ k = 1 ∨ k = 11) → (loS A d a b).2.1 k = A k) ∧ (loS A d a b).2.2.1 = d := by
  have hc := h.2.1.2
  have hc0 := h.1.2
  unfold loS
  split
  · next hn =>
    obtain ⟨x, y, nb⟩ := nb_of h ha hb hn.1 hn.2
    obtain ⟨n1, n2, n3, ex, ey, hx, hy, hxy⟩ := nb
    simp only [ex, ey, nI_clamp (show x < 2 ^ 31 by omega), nI_clamp (show y < 2 ^ 31 by omega)]
    refine ⟨h.sy ⟨n1, n2, n3, ex, ey, hx, hy, hxy⟩, fun k hk => ?_, trivial⟩
    rcases hk with hk | rfl | rfl | rfl
    · exact syX_o (by omega) (by omega) (by omega) (by omega) (Or.inl hk)
    · exact syX_k (by omega) (by omega)
    · exact syX_k (by omega) (by omega)
    · exact syX_11
  · exact ⟨h, fun k hk => rfl, rfl⟩
theorem hf_bd {m : Int} (h1 : -600 ≤ m) (h2 : m ≤ 600) : (0 < Int32.ofInt m ↔ 0 < m) ∧ (0 < m → Int32.ofInt m / 2 = nI (m.toNat / 2)) ∧ (¬ 0 < m → -Int32.ofInt m / 2 = nI ((-m).toNat / 2) ∧ Int32.ofInt m / 2 = -nI ((-m).toNat / 2)) := by
  have key : ∀ n : Nat, n ≤ 600 → (n = 0 ∨ 0 < nI n) ∧ nI n / 2 = nI (n / 2) ∧ (-nI n) / 2 = -nI (n / 2) ∧ ¬ 0 < - nI n := by decide +kernel
  have e0 : ∀ n : Nat, Int32.ofInt (n : Int) = nI n := fun n => rfl
  by_cases h : 0 < m
  · obtain ⟨n, rfl⟩ : ∃ n : Nat, m = n := ⟨m.toNat, by omega⟩
    obtain ⟨k1, k2, k3, k4⟩ := key n (by omega)
    rw [e0]
    refine ⟨⟨fun _ => h, fun _ => ?_⟩, fun _ => ?_, fun q => absurd h q⟩
    · rcases k1 with k1 | k1
      · omega
      · exact k1
    · rw [k2]
      congr 1
  · obtain ⟨n, rfl⟩ : ∃ n : Nat, m = -(n : Int) := ⟨(-m).toNat, by omega⟩
    obtain ⟨k1, k2, k3, k4⟩ := key n (by omega)
    have e1 : Int32.ofInt (-(n : Int)) = - nI n := by
      rw [Int32.ofInt_neg]
      rfl
    rw [e1]
    refine ⟨⟨fun q => absurd q k4, fun q => absurd q h⟩, fun q => absurd q h, fun _ => ⟨?_, ?_⟩⟩
    · rw [Int32.neg_neg, k2, show (-(-(n : Int))).toNat = n by omega]
    · rw [k3, show (-(-(n : Int))).toNat = n by omega]
theorem hlA_wf {A : Nat → Int32} (h : wfS A) {k w : Nat} (hk : k < (A 2).toNatClampNeg) (ew : A (86 + 7 * k + 1) = nI w) (hw : w < 5) : wfS (hlA A k w) := by
  have hc2 := h.2.2.1.2
  have hc0 := h.1.2
  obtain ⟨⟨q1, q2⟩, ⟨m, em, hm1, hm2⟩, -⟩ := h.2.2.2.2.2.2.2.2.2.2.1 k hk
  rw [ew, nI_clamp (by omega)] at q2
  have hv := h.hv (k := k) (by omega)
  have b0 : uA A (86 + 7 * k + 6) 1 0 = A 0 := uA_n _ _ _ _ (by omega)
  have bw : ∀ j, j < 6 → uA A (86 + 7 * k + 6) 1 (12 + 3 * j) = A (12 + 3 * j) := fun j hj => uA_n _ _ _ _ (by omega)
  obtain ⟨f1, f2, f3⟩ := hf_bd hm1 hm2
  obtain ⟨x, hx, ex, ex2⟩ := (h.2.2.2.2.2.2.2.2.2.1 w (by omega)).1.ex
  obtain ⟨y, hy, ey, ey2⟩ := (h.2.2.2.2.2.2.2.2.2.1 (w + 1) (by omega)).1.ex
  unfold hlA
  rw [em]
  split
  · next hp =>
    rw [f2 (f1.mp hp), ex, mnI_n (by omega) (by omega)]
    have := hv.go (x := w) (y := w + 1) (n := min (m.toNat / 2) x) (by rw [b0]; omega) (by rw [b0]; omega) (by omega) (by rw [bw w (by omega), ex, nI_clamp (by omega)]; omega)
    rw [bw w (by omega), bw (w + 1) (by omega), ex] at this
    exact this
  · next hp =>
    rw [(f3 (fun q => hp (f1.mpr q))).1, ey, mnI_n (by omega) (by omega)]
    have := hv.go (x := w + 1) (y := w) (n := min ((-m).toNat / 2) y) (by rw [b0]; omega) (by rw [b0]; omega) (by omega) (by rw [bw (w + 1) (by omega), ey, nI_clamp (by omega)]; omega)
    rw [bw w (by omega), bw (w + 1) (by omega), ey] at this
    exact this
/-- what a step keeps -/
theorem doF_ok {A : Nat → Int32} (h : wfS A) {d r : Nat} (ho : wfO A r) (hd : d < 65536) : wfS (doF A d r).2.1 ∧ (∀ k, (226 ≤ k ∨ k = 0 ∨ k = 1 ∨ k = 11) → (doF A d r).2.1 k = A k) ∧ (doF A d r).2.2.1 < 65536 := by
  unfold doF
  split
  · next h12 =>
    obtain ⟨k1, k2, k3, k4⟩ := ho.1 h12
    obtain ⟨a, b, c⟩ := loS_ok h (d := d) k2 k4
    exact ⟨a, b, by rw [c]; exact hd⟩
  · split
    · unfold loH
      split
      · next hn =>
        obtain ⟨⟨q1, q2⟩, -⟩ := h.2.2.2.2.2.2.2.2.2.2.1 0 hn.1
        obtain ⟨w, hw, ew, ew2⟩ := q1.ex
        have hc0 := h.1.2
        have ew : A 87 = nI w := ew
        have ew3 : (A 87).toNatClampNeg = w := ew2
        have q2 : (A 87).toNatClampNeg + 1 < (A 0).toNatClampNeg := q2
        rw [ew3] at *
        exact ⟨hlA_wf h hn.1 ew (by omega), fun k hk => hlA_o (by omega) (by omega), hd⟩
      · exact ⟨h, fun _ _ => rfl, hd⟩
    · split
      · next h14 =>
        have k1 := ho.2 h14
        unfold loN
        split
        · exact ⟨h, fun _ _ => rfl, hd⟩
        · exact ⟨h.ngn (by omega), fun k hk => ngtN_o h.2.1 (by omega), hd⟩
      · split
        · exact ⟨h.u7 (Or.inr rfl), fun k hk => uA_n _ _ _ _ (by omega), hd⟩
        · split
          · exact ⟨h.u7 (Or.inl rfl), fun k hk => uA_n _ _ _ _ (by omega), hd⟩
          · split
            · unfold loY
              split
              · exact ⟨h, fun _ _ => rfl, hd⟩
              · next h0 =>
                obtain ⟨c, hc, hc1, hc2⟩ := h.2.1.ex
                have c0 : 0 < c := by
                  rcases Nat.eq_zero_or_pos c with e | e
                  · exact absurd (by rw [hc1, e]; rfl) h0
                  · exact e
                have hw := h.u7 (r := bI (nI (fd d / 8 % 16) < A 5)) (by
                  unfold bI
                  split
                  · exact Or.inr rfl
                  · exact Or.inl rfl)
                have e1 : uA A 7 (bI (nI (fd d / 8 % 16) < A 5)) 1 = A 1 := uA_n _ _ _ _ (by omega)
                obtain ⟨a, b, e⟩ := loS_ok hw (d := fd (fd (fd d))) (a := fd (fd d) / 8 % (A 1).toNatClampNeg) (b := fd (fd (fd d)) / 8 % (A 1).toNatClampNeg) (by rw [e1, hc2]; exact Nat.mod_lt _ c0) (by rw [e1, hc2]; exact Nat.mod_lt _ c0)
                exact ⟨a, fun k hk => by rw [b k hk, uA_n _ _ _ _ (by omega)], by rw [e]; exact fd_lt _⟩
            · exact ⟨h, fun _ _ => rfl, hd⟩
theorem wfY.cg {A B : Nat → Int32} {N : Nat} (h : wfY A N) (hb : ∀ k, (226 ≤ k ∨ k = 0 ∨ k = 1 ∨ k = 11) → B k = A k) : wfY B N := by
  have e : ∀ k, B (226 + 6 * k) = A (226 + 6 * k) := fun k => hb _ (by omega)
  have e1 : ∀ k j, B (226 + 6 * k + j) = A (226 + 6 * k + j) := fun k j => hb _ (by omega)
  have e0 := hb 0 (by omega)
  have e11 := hb 1 (by omega)
  unfold wfY wfK wfO opn at *
  simp only [e, e1, e0, e11]
  exact h
theorem wfK.o {A : Nat → Int32} {N k : Nat} (h : wfK A N k) : wfO A (226 + 6 * k) := by
  rcases h with h | h | h
  · exact ⟨fun q => by rw [h.1] at q; exact absurd q (by decide), fun q => by rw [h.1] at q; exact absurd q (by decide)⟩
  · rcases h.1 with e | e | e | e <;> exact ⟨fun q => by rw [e] at q; exact absurd q (by decide), fun q => by rw [e] at q; exact absurd q (by decide)⟩
  · exact h.2
