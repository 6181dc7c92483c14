/-! the reader made -/
/-- the words that are no names, as they are read off -/
def rvS : Nat → Nat × (Nat → Int64)
  | 0 => (0, fun _ => 0)
  | j + 1 => if fq_wordsB.getD j 0 = 32 then ((rvS j).1 + 1, (rvS j).2) else ((rvS j).1, uA (rvS j).2 (rvS j).1 ((rvS j).2 (rvS j).1 <<< (Int32.toInt64 5 &&& 63) ||| (fq_wordsB.getD j 0 - 97 + 1).toInt64))
theorem rvS_a : ∀ j, j < 127 → (rvS j).1 < 24 := by decide +kernel
theorem rvS_e : ∀ i, i < 24 → (rvS 127).2 i = rsv i := by decide +kernel
theorem dX4_init_0 : decode cX4_init 0 = .ok (.aload_n 0, 1) := by decide +kernel
theorem dX4_init_1 : decode cX4_init 1 = .ok (.invokespecial 3, 3) := by decide +kernel
theorem dX4_init_4 : decode cX4_init 4 = .ok (.aload_n 0, 1) := by decide +kernel
theorem dX4_init_5 : decode cX4_init 5 = .ok (.aload_n 1, 1) := by decide +kernel
theorem dX4_init_6 : decode cX4_init 6 = .ok (.putfield 9, 3) := by decide +kernel
theorem dX4_init_9 : decode cX4_init 9 = .ok (.aload_n 0, 1) := by decide +kernel
theorem dX4_init_10 : decode cX4_init 10 = .ok (.bipush 24, 2) := by decide +kernel
theorem dX4_init_12 : decode cX4_init 12 = .ok (.newarray .long, 2) := by decide +kernel
theorem dX4_init_14 : decode cX4_init 14 = .ok (.putfield 15, 3) := by decide +kernel
theorem dX4_init_17 : decode cX4_init 17 = .ok (.iconst 0, 1) := by decide +kernel
theorem dX4_init_18 : decode cX4_init 18 = .ok (.istore_n 2, 1) := by decide +kernel
theorem dX4_init_19 : decode cX4_init 19 = .ok (.iconst 0, 1) := by decide +kernel
theorem dX4_init_20 : decode cX4_init 20 = .ok (.istore_n 3, 1) := by decide +kernel
theorem dX4_init_21 : decode cX4_init 21 = .ok (.iload_n 3, 1) := by decide +kernel
theorem dX4_init_22 : decode cX4_init 22 = .ok (.ldc 19, 2) := by decide +kernel
theorem dX4_init_24 : decode cX4_init 24 = .ok (.invokevirtual 21, 3) := by decide +kernel
theorem dX4_init_27 : decode cX4_init 27 = .ok (.if_icmp .ge 53, 3) := by decide +kernel
theorem dX4_init_30 : decode cX4_init 30 = .ok (.iload_n 2, 1) := by decide +kernel
theorem dX4_init_31 : decode cX4_init 31 = .ok (.bipush 24, 2) := by decide +kernel
theorem dX4_init_33 : decode cX4_init 33 = .ok (.if_icmp .ge 47, 3) := by decide +kernel
theorem dX4_init_36 : decode cX4_init 36 = .ok (.ldc 19, 2) := by decide +kernel
theorem dX4_init_38 : decode cX4_init 38 = .ok (.iload_n 3, 1) := by decide +kernel
theorem dX4_init_39 : decode cX4_init 39 = .ok (.invokevirtual 27, 3) := by decide +kernel
theorem dX4_init_42 : decode cX4_init 42 = .ok (.bipush 32, 2) := by decide +kernel
theorem dX4_init_44 : decode cX4_init 44 = .ok (.if_icmp .ne 9, 3) := by decide +kernel
theorem dX4_init_47 : decode cX4_init 47 = .ok (.iinc 2 1, 3) := by decide +kernel
theorem dX4_init_50 : decode cX4_init 50 = .ok (.goto 24, 3) := by decide +kernel
theorem dX4_init_53 : decode cX4_init 53 = .ok (.aload_n 0, 1) := by decide +kernel
theorem dX4_init_54 : decode cX4_init 54 = .ok (.getfield 15, 3) := by decide +kernel
theorem dX4_init_57 : decode cX4_init 57 = .ok (.iload_n 2, 1) := by decide +kernel
theorem dX4_init_58 : decode cX4_init 58 = .ok (.aload_n 0, 1) := by decide +kernel
theorem dX4_init_59 : decode cX4_init 59 = .ok (.getfield 15, 3) := by decide +kernel
theorem dX4_init_62 : decode cX4_init 62 = .ok (.iload_n 2, 1) := by decide +kernel
theorem dX4_init_63 : decode cX4_init 63 = .ok (.laload, 1) := by decide +kernel
theorem dX4_init_64 : decode cX4_init 64 = .ok (.ldc 19, 2) := by decide +kernel
theorem dX4_init_66 : decode cX4_init 66 = .ok (.iload_n 3, 1) := by decide +kernel
theorem dX4_init_67 : decode cX4_init 67 = .ok (.invokevirtual 27, 3) := by decide +kernel
theorem dX4_init_70 : decode cX4_init 70 = .ok (.invokestatic 31, 3) := by decide +kernel
theorem dX4_init_73 : decode cX4_init 73 = .ok (.lastore, 1) := by decide +kernel
theorem dX4_init_74 : decode cX4_init 74 = .ok (.iinc 3 1, 3) := by decide +kernel
theorem dX4_init_77 : decode cX4_init 77 = .ok (.goto (-56), 3) := by decide +kernel
theorem dX4_init_80 : decode cX4_init 80 = .ok (.return_, 1) := by decide +kernel
abbrev M_X4_init : MT := (yX4_init, cX4_init, 4, none)
theorem cf_X4_init : fq_cf M_X4_init 1 := ⟨(mg_1 (List.mem_of_getElem? (i := 3) rfl) rfl), (mg_1 (List.mem_of_getElem? (i := 54) rfl) rfl), ⟨by decide, by decide, by decide +kernel⟩, by decide⟩
def B_X4_init_80 (l : Launch) (G : GT) (D mc ms : Nat) (Q : Post) : Cn := ix_vret mc ms Q
theorem b_X4_init_80 {l : Launch} {G : GT} {D mc ms : Nat} {Q : Post} : Imp l G M_X4_init (D + 4) mc ms Q (B_X4_init_80 l G D mc ms Q) 80 := sx_vret dX4_init_80 rfl
def B_X4_init_74 (l : Launch) (G : GT) (D mc ms : Nat) (Q : Post) : Cn := ix_iinc 3 1 (fqAt l G M_X4_init (D + 4) mc ms Q 21)
theorem b_X4_init_74 {l : Launch} {G : GT} {D mc ms : Nat} {Q : Post} : Imp l G M_X4_init (D + 4) mc ms Q (B_X4_init_74 l G D mc ms Q) 74 := sx_iinc dX4_init_74 rfl (by decide) (sx_goto 21 dX4_init_77 (by decide) ((fun _ _ _ _ _ _ _ _ h => h)))
def B_X4_init_73 (l : Launch) (G : GT) (D mc ms : Nat) (Q : Post) : Cn := ix_last ((B_X4_init_74 l G D mc ms Q))
theorem b_X4_init_73 {l : Launch} {G : GT} {D mc ms : Nat} {Q : Post} : Imp l G M_X4_init (D + 4) mc ms Q (B_X4_init_73 l G D mc ms Q) 73 := sx_last dX4_init_73 (b_X4_init_74)
def B_X4_init_70 (l : Launch) (G : GT) (D mc ms : Nat) (Q : Post) : Cn := ix_call 2 0 0 mc ms (sp_X4_withLetter G) ((B_X4_init_73 l G D mc ms Q))
theorem b_X4_init_70 {l : Launch} {G : GT} {D mc ms : Nat} {Q : Post} : Imp l G M_X4_init (D + 4) mc ms Q (B_X4_init_70 l G D mc ms Q) 70 := sx_scall dX4_init_70 cf_X4_withLetter (mg_1 (List.mem_of_getElem? (i := 105) rfl) rfl) (mg_1 (List.mem_of_getElem? (i := 106) rfl) rfl) c_X4_withLetter (b_X4_init_73)
def B_X4_init_42 (l : Launch) (G : GT) (D mc ms : Nat) (Q : Post) : Cn := ix_pushI 32 (ix_icmp_ne (ix_aload 0 (ix_getR 4 1 (ix_iload 2 (ix_aload 0 (ix_getR 4 1 (ix_iload 2 (ix_lald (ix_ldcS G 0 (ix_iload 3 (ix_strc G 2 mc ms (sp_J0_charAt_5068e G) ((B_X4_init_70 l G D mc ms Q)))))))))))) (ix_iinc 2 1 ((B_X4_init_74 l G D mc ms Q))))
theorem b_X4_init_42 {l : Launch} {G : GT} {D mc ms : Nat} {Q : Post} : Imp l G M_X4_init (D + 4) mc ms Q (B_X4_init_42 l G D mc ms Q) 42 := sx_bipush dX4_init_42 rfl (sx_icmp_ne 53 dX4_init_44 (by decide) (sx_aload_n dX4_init_53 rfl (sx_getR dX4_init_54 fl_FootQuarrel_Reader_15 (fun _ _ _ => rfl) (sx_iload_n dX4_init_57 rfl (sx_aload_n dX4_init_58 rfl (sx_getR dX4_init_59 fl_FootQuarrel_Reader_15 (fun _ _ _ => rfl) (sx_iload_n dX4_init_62 rfl (sx_lald dX4_init_63 (sx_ldcS 19 dX4_init_64 (Or.inl ⟨rfl, rfl, rfl⟩) (sx_iload_n dX4_init_66 rfl (sx_strc dX4_init_67 cf_J0_charAt_5068e (mg_1 (List.mem_of_getElem? (i := 67) rfl) rfl) (mg_1 (List.mem_of_getElem? (i := 68) rfl) rfl) (mg_1 (List.mem_of_getElem? (i := 69) rfl) rfl) c_J0_charAt_5068e (b_X4_init_70))))))))))) (sx_iinc dX4_init_47 rfl (by decide) (sx_goto 74 dX4_init_50 (by decide) (b_X4_init_74))))
def B_X4_init_27 (l : Launch) (G : GT) (D mc ms : Nat) (Q : Post) : Cn := ix_icmp_ge ((B_X4_init_80 l G D mc ms Q)) (ix_iload 2 (ix_pushI 24 (ix_icmp_ge ((B_X4_init_80 l G D mc ms Q)) (ix_ldcS G 0 (ix_iload 3 (ix_strc G 2 mc ms (sp_J0_charAt_5068e G) ((B_X4_init_42 l G D mc ms Q))))))))
theorem b_X4_init_27 {l : Launch} {G : GT} {D mc ms : Nat} {Q : Post} : Imp l G M_X4_init (D + 4) mc ms Q (B_X4_init_27 l G D mc ms Q) 27 := sx_icmp_ge 80 dX4_init_27 (by decide) (b_X4_init_80) (sx_iload_n dX4_init_30 rfl (sx_bipush dX4_init_31 rfl (sx_icmp_ge 80 dX4_init_33 (by decide) (b_X4_init_80) (sx_ldcS 19 dX4_init_36 (Or.inl ⟨rfl, rfl, rfl⟩) (sx_iload_n dX4_init_38 rfl (sx_strc dX4_init_39 cf_J0_charAt_5068e (mg_1 (List.mem_of_getElem? (i := 67) rfl) rfl) (mg_1 (List.mem_of_getElem? (i := 68) rfl) rfl) (mg_1 (List.mem_of_getElem? (i := 69) rfl) rfl) c_J0_charAt_5068e (b_X4_init_42)))))))
def B_X4_init_21 (l : Launch) (G : GT) (D mc ms : Nat) (Q : Post) : Cn := ix_iload 3 (ix_ldcS G 0 (ix_strc G 1 mc ms (sp_J0_length_8abf5 G) ((B_X4_init_27 l G D mc ms Q))))
theorem b_X4_init_21 {l : Launch} {G : GT} {D mc ms : Nat} {Q : Post} : Imp l G M_X4_init (D + 4) mc ms Q (B_X4_init_21 l G D mc ms Q) 21 := sx_iload_n dX4_init_21 rfl (sx_ldcS 19 dX4_init_22 (Or.inl ⟨rfl, rfl, rfl⟩) (sx_strc dX4_init_24 cf_J0_length_8abf5 (mg_1 (List.mem_of_getElem? (i := 57) rfl) rfl) (mg_1 (List.mem_of_getElem? (i := 58) rfl) rfl) (mg_1 (List.mem_of_getElem? (i := 59) rfl) rfl) c_J0_length_8abf5 (b_X4_init_27)))
def B_X4_init_0 (l : Launch) (G : GT) (D mc ms : Nat) (Q : Post) : Cn := ix_aload 0 (ix_oinit (ix_aload 0 (ix_aload 1 (ix_putR 4 0 (ix_aload 0 (ix_pushI 24 (ix_newa 15 mc ms (ix_putR 4 1 (ix_pushI 0 (ix_istore 2 (ix_pushI 0 (ix_istore 3 (fqAt l G M_X4_init (D + 4) mc ms Q 21)))))))))))))
theorem b_X4_init_0 {l : Launch} {G : GT} {D mc ms : Nat} {Q : Post} : Imp l G M_X4_init (D + 4) mc ms Q (B_X4_init_0 l G D mc ms Q) 0 := sx_aload_n dX4_init_0 rfl (sx_oinit dX4_init_1 (mg_1 (List.mem_of_getElem? (i := 55) rfl) rfl) (mg_1 (List.mem_of_getElem? (i := 27) rfl) rfl) (mg_1 (List.mem_of_getElem? (i := 28) rfl) rfl) (sx_aload_n dX4_init_4 rfl (sx_aload_n dX4_init_5 rfl (sx_putR dX4_init_6 fl_FootQuarrel_Reader_9 (fun _ => ⟨rfl, rfl⟩) (by decide) (fun _ _ _ => rfl) (fun _ => ⟨rfl, rfl⟩) (sx_aload_n dX4_init_9 rfl (sx_bipush dX4_init_10 rfl (sx_newa dX4_init_12 rfl (by decide) (by decide) (mg_1 (List.mem_of_getElem? (i := 49) rfl) rfl) (sx_putR dX4_init_14 fl_FootQuarrel_Reader_15 (fun _ => ⟨rfl, rfl⟩) (by decide) (fun _ _ _ => rfl) (fun _ => ⟨rfl, rfl⟩) (sx_iconst dX4_init_17 rfl (sx_istore_n dX4_init_18 rfl (by decide) (sx_iconst dX4_init_19 rfl (sx_istore_n dX4_init_20 rfl (by decide) ((fun _ _ _ _ _ _ _ _ h => h))))))))))))))
def sp_X4_init (G : GT) : Sp := fun as S I J z Q => match as with
  | [.ref a, .ref b] => ∃ (t : Nat), t = a ∧ S.1 t = 4 ∧ t + 1 = z ∧ ∀ S' I' J', (∀ b, b < z → S'.1 b = S.1 b ∧ S'.2.1 b = S.2.1 b ∧ (b ≠ t → S'.2.2 b = S.2.2 b) ∧ I' b = I b ∧ J' b = J b) → S'.2.2 t 0 = some b → S'.2.2 t 1 = some (t + 1) → S'.1 (t + 1) = 15 → S'.2.1 (t + 1) = 24 → (∀ i, i < 24 → J' (t + 1) i = rsv i) → Q none S' I' J' (z + 1)
  | _ => False
set_option maxHeartbeats 4000000 in
set_option maxRecDepth 20000 in
theorem c_X4_init {l : Launch} {G : GT} {D : Nat} : ∀ as S I J z Q, sp_X4_init G as S I J z Q → fqCall l G M_X4_init (D + 4) 1 24 as S I J z Q := by
  intro as S I J z Q h
  unfold sp_X4_init at h
  split at h
  · next a b =>
    obtain ⟨t, rfl, h1, rfl, hQ⟩ := h
    refine fq_enter [some (.ref t), some (.ref b), none, none] (by decide +kernel) (Nat.le_of_ble_eq_true rfl) rfl (b_X4_init_0 _ _ _ _ _ _ _ _ ?_)
    simp (disch := omega) only [B_X4_init_0, h1, up1_ne, up1_eq, li_24, nI_1, nI_add, nI_clamp, nI_pin, nI_neg, nI_nonneg, nI_leE, nI_ltE, nI_eqE, Nat.not_le, Nat.not_lt, fq_10, fq_01, fq_rr, ix_aald, ix_aast, ix_abs, ix_alen, ix_aload, ix_aret, ix_astore, ix_bald, ix_bast, ix_call, ix_cpyI, ix_cpyJ, ix_dead, ix_dup2, ix_dup2L, ix_dupI, ix_dupR, ix_dupx1, ix_getI, ix_getJ, ix_getR, ix_gfm, ix_gtab, ix_i2b, ix_i2c, ix_i2l, ix_i2s, ix_iadd, ix_iald, ix_iand, ix_iast, ix_icall, ix_icmp_eq, ix_icmp_ge, ix_icmp_gt, ix_icmp_le, ix_icmp_lt, ix_icmp_ne, ix_idiv, ix_if_eq, ix_if_ge, ix_if_gt, ix_if_le, ix_if_lt, ix_if_ne, ix_iinc, ix_iload, ix_imul, ix_ineg, ix_ior, ix_irem, ix_iret, ix_ishl, ix_ishr, ix_istore, ix_isub, ix_iushr, ix_ixor, ix_l2i, ix_ladd, ix_lald, ix_land, ix_last, ix_lcmp, ix_ldcS, ix_ldiv, ix_lload, ix_lmul, ix_lor, ix_lrem, ix_lret, ix_lshl, ix_lstore, ix_lsub, ix_lsw, ix_max, ix_min, ix_new, ix_newa, ix_nret, ix_oinit, ix_pop2L, ix_popI, ix_pushI, ix_pushL, ix_putI, ix_putJ, ix_putR, ix_putZ, ix_sbald, ix_sgetC, ix_sgetV, ix_slen, ix_strc, ix_tald, ix_tsw, ix_vcall, ix_vret, ix_zret, stL, stL2, kilL, popN, fq_sw, fq_lsw, List.map_cons, List.map_nil, List.getElem?_cons_zero, List.getElem?_cons_succ, Option.toList_some, Option.toList_none, List.cons_append, List.nil_append, List.length_cons, List.length_nil, List.sum_cons, List.sum_nil, cat_i, cat_l, cat_r, true_and, and_true, Nat.zero_add, Nat.add_zero, Nat.le_refl, Nat.zero_le, Nat.reduceAdd, Nat.reduceLeDiff, exists_eq_left', Option.some.injEq, not_true_eq_false, not_false_eq_true, false_implies, true_implies, implies_true, and_self, or_true, true_or, or_false, false_or]
    have key : ∀ (S1 : Sh) (I1 : IH), (∀ b, b < t + 1 → S1.1 b = S.1 b ∧ S1.2.1 b = S.2.1 b ∧ (b ≠ t → S1.2.2 b = S.2.2 b) ∧ I1 b = I b) → S1.2.2 t 0 = some b → S1.2.2 t 1 = some (t + 1) → S1.1 (t + 1) = 15 → S1.2.1 (t + 1) = 24 → ∀ (n j : Nat) (J1 : JH), j + n = 127 → (∀ b, b < t + 1 → J1 b = J b) → J1 (t + 1) = (rvS j).2 → fqAt l G M_X4_init (D + 4) 1 24 Q 21 [some (.ref t), some (.ref b), some (.int (nI (rvS j).1)), some (.int (nI j))] [] S1 I1 J1 (t + 2) 1 24 := by
      intro S1 I1 hF r0 r1 k15 n24 n
      have k4 : S1.1 t = 4 := (hF t (by omega)).1.trans h1
      induction n with
      | zero =>
        intro j J1 hj hJ hr
        have : j = 127 := by omega
        subst this
        refine b_X4_init_21 _ _ _ _ _ _ _ _ ?_
        simp (disch := omega) only [B_X4_init_21, B_X4_init_27, B_X4_init_80, sp_J0_length_8abf5, nI_1, nI_add, nI_clamp, nI_pin, nI_neg, nI_nonneg, nI_leE, nI_ltE, nI_eqE, Nat.not_le, Nat.not_lt, fq_10, fq_01, fq_rr, ix_aald, ix_aast, ix_abs, ix_alen, ix_aload, ix_aret, ix_astore, ix_bald, ix_bast, ix_call, ix_cpyI, ix_cpyJ, ix_dead, ix_dup2, ix_dup2L, ix_dupI, ix_dupR, ix_dupx1, ix_getI, ix_getJ, ix_getR, ix_gfm, ix_gtab, ix_i2b, ix_i2c, ix_i2l, ix_i2s, ix_iadd, ix_iald, ix_iand, ix_iast, ix_icall, ix_icmp_eq, ix_icmp_ge, ix_icmp_gt, ix_icmp_le, ix_icmp_lt, ix_icmp_ne, ix_idiv, ix_if_eq, ix_if_ge, ix_if_gt, ix_if_le, ix_if_lt, ix_if_ne, ix_iinc, ix_iload, ix_imul, ix_ineg, ix_ior, ix_irem, ix_iret, ix_ishl, ix_ishr, ix_istore, ix_isub, ix_iushr, ix_ixor, ix_l2i, ix_ladd, ix_lald, ix_land, ix_last, ix_lcmp, ix_ldcS, ix_ldiv, ix_lload, ix_lmul, ix_lor, ix_lrem, ix_lret, ix_lshl, ix_lstore, ix_lsub, ix_lsw, ix_max, ix_min, ix_new, ix_newa, ix_nret, ix_oinit, ix_pop2L, ix_popI, ix_pushI, ix_pushL, ix_putI, ix_putJ, ix_putR, ix_putZ, ix_sbald, ix_sgetC, ix_sgetV, ix_slen, ix_strc, ix_tald, ix_tsw, ix_vcall, ix_vret, ix_zret, stL, stL2, kilL, popN, fq_sw, fq_lsw, List.map_cons, List.map_nil, List.getElem?_cons_zero, List.getElem?_cons_succ, Option.toList_some, Option.toList_none, List.cons_append, List.nil_append, List.length_cons, List.length_nil, List.sum_cons, List.sum_nil, cat_i, cat_l, cat_r, true_and, and_true, Nat.zero_add, Nat.add_zero, Nat.le_refl, Nat.zero_le, Nat.reduceAdd, Nat.reduceLeDiff, exists_eq_left', Option.some.injEq, not_true_eq_false, not_false_eq_true, false_implies, true_implies, implies_true, and_self, or_true, true_or, or_false, false_or]
        have hq := hQ S1 I1 J1 (fun b hb => ⟨(hF b hb).1, (hF b hb).2.1, (hF b hb).2.2.1, (hF b hb).2.2.2, hJ b hb⟩) r0 r1 k15 n24 (fun i hi => by rw [hr]; exact rvS_e i hi)
        exact ⟨⟨0, by omega, rfl⟩, 0, by omega, rfl, fun _ => hq, fun q => absurd (by decide) q⟩
      | succ n ih =>
        intro j J1 hj hJ hr
        have ha := rvS_a j (by omega)
        refine b_X4_init_21 _ _ _ _ _ _ _ _ ?_
        simp (disch := omega) only [B_X4_init_21, B_X4_init_27, B_X4_init_42, B_X4_init_70, B_X4_init_73, B_X4_init_74, sp_J0_length_8abf5, sp_J0_charAt_5068e, sp_X4_withLetter, B_X4_withLetter_0, k4, r1, k15, n24, nI_1, nI_add, nI_clamp, nI_pin, nI_neg, nI_nonneg, nI_leE, nI_ltE, nI_eqE, Nat.not_le, Nat.not_lt, fq_10, fq_01, fq_rr, ix_aald, ix_aast, ix_abs, ix_alen, ix_aload, ix_aret, ix_astore, ix_bald, ix_bast, ix_call, ix_cpyI, ix_cpyJ, ix_dead, ix_dup2, ix_dup2L, ix_dupI, ix_dupR, ix_dupx1, ix_getI, ix_getJ, ix_getR, ix_gfm, ix_gtab, ix_i2b, ix_i2c, ix_i2l, ix_i2s, ix_iadd, ix_iald, ix_iand, ix_iast, ix_icall, ix_icmp_eq, ix_icmp_ge, ix_icmp_gt, ix_icmp_le, ix_icmp_lt, ix_icmp_ne, ix_idiv, ix_if_eq, ix_if_ge, ix_if_gt, ix_if_le, ix_if_lt, ix_if_ne, ix_iinc, ix_iload, ix_imul, ix_ineg, ix_ior, ix_irem, ix_iret, ix_ishl, ix_ishr, ix_istore, ix_isub, ix_iushr, ix_ixor, ix_l2i, ix_ladd, ix_lald, ix_land, ix_last, ix_lcmp, ix_ldcS, ix_ldiv, ix_lload, ix_lmul, ix_lor, ix_lrem, ix_lret, ix_lshl, ix_lstore, ix_lsub, ix_lsw, ix_max, ix_min, ix_new, ix_newa, ix_nret, ix_oinit, ix_pop2L, ix_popI, ix_pushI, ix_pushL, ix_putI, ix_putJ, ix_putR, ix_putZ, ix_sbald, ix_sgetC, ix_sgetV, ix_slen, ix_strc, ix_tald, ix_tsw, ix_vcall, ix_vret, ix_zret, stL, stL2, kilL, popN, fq_sw, fq_lsw, List.map_cons, List.map_nil, List.getElem?_cons_zero, List.getElem?_cons_succ, Option.toList_some, Option.toList_none, List.cons_append, List.nil_append, List.length_cons, List.length_nil, List.sum_cons, List.sum_nil, cat_i, cat_l, cat_r, true_and, and_true, Nat.zero_add, Nat.add_zero, Nat.le_refl, Nat.zero_le, Nat.reduceAdd, Nat.reduceLeDiff, exists_eq_left', Option.some.injEq, not_true_eq_false, not_false_eq_true, false_implies, true_implies, implies_true, and_self, or_true, true_or, or_false, false_or]
        have w : ∃ j, j < 2 ∧ G.2.2.2 4 = G.2.2.2 (4 + j) := ⟨0, by omega, rfl⟩
        have vi : vp_in (nI j) (fq_sl.getD 0 0) := vin_of (n := 127) (by omega) (by omega)
        refine ⟨w, 0, by omega, rfl, fun q => absurd q (fun r => ?_), fun _ => ⟨fun q => absurd q (fun r => ?_), fun _ => ⟨w, 0, by omega, rfl, vi, fun hc => ⟨w, 0, by omega, rfl, vi, ?_⟩, fun hc => ?_⟩⟩⟩
        · have := (nI_leI (a := 127) (b := j) (by omega) (by omega)).mp r
          omega
        · have := (nI_leI (a := 24) (b := (rvS j).1) (by omega) (by omega)).mp r
          omega
        · have e : rvS (j + 1) = ((rvS j).1, uA (rvS j).2 (rvS j).1 ((rvS j).2 (rvS j).1 <<< (Int32.toInt64 5 &&& 63) ||| (fq_wordsB.getD j 0 - 97 + 1).toInt64)) := if_neg hc
          have := ih (j + 1) (u2 J1 (t + 1) (rvS j).1 (J1 (t + 1) (rvS j).1 <<< (Int32.toInt64 5 &&& 63) ||| ((fq_sb.getD 0 []).getD j 0 - 97 + 1).toInt64)) (by omega) (fun b hb => by rw [u2_ne (by omega)]; exact hJ b hb) (by
            rw [e]
            funext k
            unfold u2 uA
            dsimp only
            rw [hr]
            by_cases q : k = (rvS j).1
            · rw [if_pos ⟨rfl, q⟩, if_pos q]
              rfl
            · rw [if_neg (fun r => q r.2), if_neg q])
          rw [show (rvS (j + 1)).1 = (rvS j).1 by rw [e]] at this
          exact this
        · have hc' : fq_wordsB.getD j 0 = 32 := by first | exact hc | exact Decidable.not_not.mp hc
          have e : rvS (j + 1) = ((rvS j).1 + 1, (rvS j).2) := if_pos hc'
          have := ih (j + 1) J1 (by omega) hJ (by rw [hr, e])
          rw [show (rvS (j + 1)).1 = (rvS j).1 + 1 by rw [e]] at this
          exact this
    refine key _ _ (fun b hb => ⟨up1_ne (by omega), up1_ne (by omega), fun q => ?_, up1_ne (by omega)⟩) ?_ ?_ up1_eq up1_eq 127 0 _ rfl (fun b hb => up1_ne (by omega)) up1_eq
    · show u2 (up1 (u2 S.2.2 t 0 (some _)) (t + 1) fun x => none) t 1 (some (t + 1)) b = _
      rw [u2_ne q, up1_ne (by omega), u2_ne q]
    · show u2 (up1 (u2 S.2.2 t 0 (some _)) (t + 1) fun x => none) t 1 (some (t + 1)) t 0 = _
      rw [u2_ck _ _ _ _ _ _ (by omega), up1_ne (by omega), u2_same]
    · show u2 (up1 (u2 S.2.2 t 0 (some _)) (t + 1) fun x => none) t 1 (some (t + 1)) t 1 = _
      rw [u2_same]
  · exact h.elim
