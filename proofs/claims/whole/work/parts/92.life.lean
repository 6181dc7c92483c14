/-! a life of the class, against the row: its steps -/
theorem fq_pick {x : Int32} {Kd : Prop} : ∀ {ps : List Prop} {lo : Int} {i : Nat} {p : Prop}, ps[i]? = some p → x.toInt = lo + i → p → fq_sw x lo Kd ps
  | [], _, _, _, h, _, _ => by simp at h
  | q :: ps, lo, 0, p, h, hx, hp => by
    simp only [List.getElem?_cons_zero, Option.some.injEq] at h
    subst h
    exact ⟨fun _ => hp, fun n => absurd (by omega) n⟩
  | q :: ps, lo, i + 1, p, h, hx, hp => ⟨fun e => by omega, fun _ => fq_pick (ps := ps) (i := i) (by simpa using h) (by omega) hp⟩
def lfS (S : Sh) (L s : Nat) : Prop := S.1 L = 1 ∧ S.2.2 L 0 = some (L + 1) ∧ S.1 (L + 1) = 14 ∧ S.2.1 (L + 1) = 60 ∧ stS S s ∧ (L + 2 ≤ s ∨ s + 52 ≤ L)
def lyF (L s : Nat) (I I' : IH) (J J' : JH) : Prop := (∀ a, a ≠ L → a ≠ L + 1 → ¬ (s ≤ a ∧ a < s + 52) → I' a = I a) ∧ (∀ a, s < a → a < s + 12 → I' a = I a) ∧ ∀ a, (a < s + 12 ∨ s + 18 ≤ a) → J' a = J a
theorem lyF.rf {L s : Nat} {I : IH} {J : JH} : lyF L s I I J J := ⟨fun _ _ _ _ => rfl, fun _ _ _ => rfl, fun _ _ => rfl⟩
theorem lyF.tr {L s : Nat} {I I1 I2 : IH} {J J1 J2 : JH} (h : lyF L s I I1 J J1) (g : lyF L s I1 I2 J1 J2) : lyF L s I I2 J J2 := ⟨fun a h1 h2 h3 => (g.1 a h1 h2 h3).trans (h.1 a h1 h2 h3), fun a h1 h2 => (g.2.1 a h1 h2).trans (h.2.1 a h1 h2), fun a h1 => (g.2.2 a h1).trans (h.2.2 a h1)⟩
theorem dyF.l {L s : Nat} {I I1 : IH} {J J1 : JH} (h : dyF s I I1 J J1) : lyF L s I I1 J J1 := ⟨fun a _ _ h3 => h.1 a h3, h.2.1, h.2.2⟩
theorem lyF.u {L s a k : Nat} {v : Int32} {I I1 : IH} {J J1 : JH} (h : lyF L s I I1 J J1) (hl : L + 2 ≤ s ∨ s + 52 ≤ L) (ha : a = L ∨ a = L + 1 ∨ a = s) : lyF L s I (u2 I1 a k v) J J1 := ⟨fun b h1 h2 h3 => by rw [u2_ne (by omega)]; exact h.1 b h1 h2 h3, fun b h1 h2 => by rw [u2_ne (by omega)]; exact h.2.1 b h1 h2, h.2.2⟩
theorem stR.ou {I : IH} {s a k : Nat} {v : Int32} {A : Nat → Int32} (h : stR I s A) (ha : ¬ (s ≤ a ∧ a < s + 52)) : stR (u2 I a k v) s A := h.mv (fun b h1 h2 _ => u2_ne (by omega))
theorem bqS.ou {I : IH} {s a k : Nat} {v : Int32} (h : bqS I s) (ha : ¬ (s + 32 ≤ a ∧ a < s + 52)) : bqS (u2 I a k v) s := h.mv (fun i hi => by rw [u2_ne (by omega)])
/-- what a step adds to a life's counts -/
def lsQ (L : Nat) (I I' : IH) (x : LR) : Prop := I' L 1 = nI x.2.2.1 ∧ I' L 4 = I L 4 ∧ I' L 5 = I L 5 + (if x.1 = true then 0 else 1) ∧ I' L 6 = I L 6 + x.2.2.2.1 ∧ I' L 7 = I L 7 + x.2.2.2.2.1 ∧ I' L 8 = I L 8 + x.2.2.2.2.2 ∧ I' L 9 = I L 9 ∧ I' L 10 = I L 10
theorem i32_z (x : Int32) : x + 0 = x := Int32.add_zero x
theorem speak_R {G : GT} {S : Sh} {I : IH} {J : JH} {z L s p q d : Nat} {A : Nat → Int32} {Q : Post} (hl : lfS S L s) (h : stR I s A) (hw : wfS A) (hb : bqS I s) (hp : p < (A 1).toNatClampNeg) (hq : q < (A 1).toNatClampNeg) (hd : I L 1 = nI d) (k : ∀ I' J', lyF L s I I' J J' → stR I' s (loS A d p q).2.1 → bqS I' s → lsQ L I I' (loS A d p q) → I' (L + 1) = I (L + 1) → Q none S I' J' z) : sp_X1_speak G [.ref L, .ref s, .int (nI p), .int (nI q)] S I J z Q := by
  obtain ⟨l1, l2, l3, l4, hs, l5⟩ := hl
  have o2 := h.1.2.1.2
  have p1 := (h.P hp).1
  have q1 := (h.P hq).1
  have s13 : I s 13 = A 8 := h.2.1.2.2.2.2.2.2.2.2.1
  have hsn := sh_n hw hp hq
  unfold loS at k
  simp (disch := omega) only [sp_X1_speak, B_X1_speak_0, sp_X6_sharedWall, hs, l1, p1, q1, s13, u2_same, u2_ck, hs.k, hs.r0, hs.k1, hs.r1, hs.k2, hs.r2, hs.k3, hs.r3, hs.k4, hs.r4, hs.k12, hs.n1, hs.n2, hs.n3, hs.y0, hs.k5, hs.n5, hs.y1, hs.k6, hs.n6, hs.y2, hs.k7, hs.n7, hs.y3, hs.k8, hs.n8, hs.y4, hs.k9, hs.n9, hs.y5, hs.k10, hs.n10, hs.y6, hs.k11, hs.n11, hs.p0, hs.p1, hs.p2, hs.k13, hs.n13, hs.q0, hs.q1, hs.k14, hs.k15, hs.k16, hs.n16, hs.k17, hs.n17, hs.rH, hs.kH, hs.rP, hs.kP, hs.rQ, hs.kQ, nI_1, nI_add, nI_clamp, nI_pin, nI_neg, nI_nonneg, nI_leE, nI_ltE, nI_eqE, Nat.not_le, Nat.not_lt, fq_10, fq_01, fq_rr, ix_aald, ix_aast, ix_abs, ix_alen, ix_aload, ix_aret, ix_astore, ix_bald, ix_bast, ix_call, ix_cpyI, ix_cpyJ, ix_dead, ix_dup2, ix_dup2L, ix_dupI, ix_dupR, ix_dupx1, ix_getI, ix_getJ, ix_getR, ix_gfm, ix_gtab, ix_i2b, ix_i2c, ix_i2l, ix_i2s, ix_iadd, ix_iald, ix_iand, ix_iast, ix_icall, ix_icmp_eq, ix_icmp_ge, ix_icmp_gt, ix_icmp_le, ix_icmp_lt, ix_icmp_ne, ix_idiv, ix_if_eq, ix_if_ge, ix_if_gt, ix_if_le, ix_if_lt, ix_if_ne, ix_iinc, ix_iload, ix_imul, ix_ineg, ix_ior, ix_irem, ix_iret, ix_ishl, ix_ishr, ix_istore, ix_isub, ix_iushr, ix_ixor, ix_l2i, ix_ladd, ix_lald, ix_land, ix_last, ix_lcmp, ix_ldcS, ix_ldiv, ix_lload, ix_lmul, ix_lor, ix_lrem, ix_lret, ix_lshl, ix_lstore, ix_lsub, ix_lsw, ix_max, ix_min, ix_new, ix_newa, ix_nret, ix_oinit, ix_pop2L, ix_popI, ix_pushI, ix_pushL, ix_putI, ix_putJ, ix_putR, ix_putZ, ix_sbald, ix_sgetC, ix_sgetV, ix_slen, ix_strc, ix_tald, ix_tsw, ix_vcall, ix_vret, ix_zret, stL, stL2, kilL, popN, fq_sw, fq_lsw, List.map_cons, List.map_nil, List.getElem?_cons_zero, List.getElem?_cons_succ, Option.toList_some, Option.toList_none, List.cons_append, List.nil_append, List.length_cons, List.length_nil, List.sum_cons, List.sum_nil, cat_i, cat_l, cat_r, true_and, and_true, Nat.zero_add, Nat.add_zero, Nat.le_refl, Nat.zero_le, Nat.reduceAdd, Nat.reduceLeDiff, exists_eq_left', Option.some.injEq, not_true_eq_false, not_false_eq_true, false_implies, true_implies, implies_true, and_self, or_true, true_or, or_false, false_or]
  refine ⟨fun g => ?_, fun g => ?_⟩
  · have c : ¬ p = q ∧ nrP (A (30 + 7 * p)) (A (30 + 7 * q)) (A 8) := Classical.byContradiction fun r => g (hsn.mpr r)
    simp only [if_pos c] at k
    obtain ⟨x, y, hn⟩ := nb_of hw hp hq c.1 c.2
    have ex : (A (30 + 7 * p)).toNatClampNeg = x := by rw [hn.2.2.2.1, nI_clamp (by have := hn.2.2.2.2.2.1; have := hw.1.2; omega)]
    have ey : (A (30 + 7 * q)).toNatClampNeg = y := by rw [hn.2.2.2.2.1, nI_clamp (by have := hn.2.2.2.2.2.2.1; have := hw.1.2; omega)]
    unfold rq2 at k
    rw [ex, ey] at k
    refine utter_R hs (h.ou (by omega)) hw (hb.ou (by omega)) hn c.2 (fun I' J' hF hst hbq => ?_)
    have fl : I' L = u2 I L 7 (I L 7 + 1) L := hF.1 L (by omega)
    have fl1 : I' (L + 1) = I (L + 1) := by rw [hF.1 _ (by omega), u2_ne (by omega)]
    simp (disch := omega) only [l1, nI_1, nI_add, nI_clamp, nI_pin, nI_neg, nI_nonneg, nI_leE, nI_ltE, nI_eqE, Nat.not_le, Nat.not_lt, fq_10, fq_01, fq_rr, ix_aald, ix_aast, ix_abs, ix_alen, ix_aload, ix_aret, ix_astore, ix_bald, ix_bast, ix_call, ix_cpyI, ix_cpyJ, ix_dead, ix_dup2, ix_dup2L, ix_dupI, ix_dupR, ix_dupx1, ix_getI, ix_getJ, ix_getR, ix_gfm, ix_gtab, ix_i2b, ix_i2c, ix_i2l, ix_i2s, ix_iadd, ix_iald, ix_iand, ix_iast, ix_icall, ix_icmp_eq, ix_icmp_ge, ix_icmp_gt, ix_icmp_le, ix_icmp_lt, ix_icmp_ne, ix_idiv, ix_if_eq, ix_if_ge, ix_if_gt, ix_if_le, ix_if_lt, ix_if_ne, ix_iinc, ix_iload, ix_imul, ix_ineg, ix_ior, ix_irem, ix_iret, ix_ishl, ix_ishr, ix_istore, ix_isub, ix_iushr, ix_ixor, ix_l2i, ix_ladd, ix_lald, ix_land, ix_last, ix_lcmp, ix_ldcS, ix_ldiv, ix_lload, ix_lmul, ix_lor, ix_lrem, ix_lret, ix_lshl, ix_lstore, ix_lsub, ix_lsw, ix_max, ix_min, ix_new, ix_newa, ix_nret, ix_oinit, ix_pop2L, ix_popI, ix_pushI, ix_pushL, ix_putI, ix_putJ, ix_putR, ix_putZ, ix_sbald, ix_sgetC, ix_sgetV, ix_slen, ix_strc, ix_tald, ix_tsw, ix_vcall, ix_vret, ix_zret, stL, stL2, kilL, popN, fq_sw, fq_lsw, List.map_cons, List.map_nil, List.getElem?_cons_zero, List.getElem?_cons_succ, Option.toList_some, Option.toList_none, List.cons_append, List.nil_append, List.length_cons, List.length_nil, List.sum_cons, List.sum_nil, cat_i, cat_l, cat_r, true_and, and_true, Nat.zero_add, Nat.add_zero, Nat.le_refl, Nat.zero_le, Nat.reduceAdd, Nat.reduceLeDiff, exists_eq_left', Option.some.injEq, not_true_eq_false, not_false_eq_true, false_implies, true_implies, implies_true, and_self, or_true, true_or, or_false, false_or]
    refine k _ J' ((((lyF.rf.u l5 (Or.inl rfl)).tr hF.l).u l5 (Or.inl rfl))) (hst.ou (by omega)) (hbq.ou (by omega)) ⟨?_, ?_, ?_, ?_, ?_, ?_, ?_, ?_⟩ (by rw [u2_ne (by omega)]; exact fl1)
    · rw [u2_ck _ _ _ _ _ _ (by omega), fl, u2_ck _ _ _ _ _ _ (by omega)]
      exact hd
    · rw [u2_ck _ _ _ _ _ _ (by omega), fl, u2_ck _ _ _ _ _ _ (by omega)]
    · rw [u2_ck _ _ _ _ _ _ (by omega), fl, u2_ck _ _ _ _ _ _ (by omega), if_pos rfl, i32_z]
    · rw [u2_ck _ _ _ _ _ _ (by omega), fl, u2_ck _ _ _ _ _ _ (by omega), i32_z]
    · rw [u2_ck _ _ _ _ _ _ (by omega), fl, u2_same]
    · rw [u2_same]
    · rw [u2_ck _ _ _ _ _ _ (by omega), fl, u2_ck _ _ _ _ _ _ (by omega)]
    · rw [u2_ck _ _ _ _ _ _ (by omega), fl, u2_ck _ _ _ _ _ _ (by omega)]
  · have c : ¬ (¬ p = q ∧ nrP (A (30 + 7 * p)) (A (30 + 7 * q)) (A 8)) := hsn.mp (by
      first | exact g | exact Decidable.not_not.mp g)
    simp only [if_neg c] at k
    refine k _ J (lyF.rf.u l5 (Or.inl rfl)) (h.ou (by omega)) (hb.ou (by omega)) ⟨?_, ?_, ?_, ?_, ?_, ?_, ?_, ?_⟩ (u2_ne (by omega))
    · rw [u2_ck _ _ _ _ _ _ (by omega)]
      exact hd
    · rw [u2_ck _ _ _ _ _ _ (by omega)]
    · rw [u2_same, if_neg (fun q => by cases q)]
    · rw [u2_ck _ _ _ _ _ _ (by omega), i32_z]
    · rw [u2_ck _ _ _ _ _ _ (by omega), i32_z]
    · rw [u2_ck _ _ _ _ _ _ (by omega), i32_z]
    · rw [u2_ck _ _ _ _ _ _ (by omega)]
    · rw [u2_ck _ _ _ _ _ _ (by omega)]
/-- a street of the class with its years, against the row -/
def svR (I : IH) (s : Nat) (A : Nat → Int32) (N : Nat) : Prop := stR I s A ∧ wfS A ∧ bqS I s ∧ wfY A N ∧ I (s + 4) 7 = nI N ∧ ∀ i, i < N → rowA I s i (fun j => A (226 + 6 * i + j)) ∧ prtR I s i (fun j => A (226 + 6 * i + j))
theorem svR.nx {I I' : IH} {s N : Nat} {A B : Nat → Int32} (h : svR I s A N) (hI : ∀ a, s < a → a < s + 12 → I' a = I a) (h1 : stR I' s B) (h2 : bqS I' s) (h3 : wfS B) (hB : ∀ k, (226 ≤ k ∨ k = 0 ∨ k = 1 ∨ k = 11) → B k = A k) : svR I' s B N := by
  obtain ⟨-, -, -, hy, h7, hr⟩ := h
  refine ⟨h1, h3, h2, hy.cg hB, by rw [hI _ (by omega) (by omega)]; exact h7, fun i hi => ?_⟩
  obtain ⟨r1, r2⟩ := hr i hi
  refine ⟨r1.mv (fun a x1 x2 => by rw [hI _ (by omega) (by omega)]) (fun j _ _ => hB _ (by omega)), r2.mv (by rw [hI _ (by omega) (by omega)]) (by rw [hI _ (by omega) (by omega)]) (hB _ (by omega))⟩
theorem lsQ.z {L d : Nat} {I : IH} {A : Nat → Int32} (h : I L 1 = nI d) : lsQ L I I (true, A, d, 0, 0, 0) := ⟨h, rfl, by rw [if_pos rfl, i32_z], (i32_z _).symm, (i32_z _).symm, (i32_z _).symm, rfl, rfl⟩
/-- one more is missed -/
theorem lsQ.m {L d : Nat} {I : IH} {A : Nat → Int32} (h : I L 1 = nI d) : lsQ L I (u2 I L 5 (I L 5 + 1)) (false, A, d, 0, 0, 0) := by
  refine ⟨?_, ?_, ?_, ?_, ?_, ?_, ?_, ?_⟩
  · rw [u2_ck _ _ _ _ _ _ (by omega)]
    exact h
  · rw [u2_ck _ _ _ _ _ _ (by omega)]
  · rw [u2_same, if_neg (fun q => by cases q)]
  · rw [u2_ck _ _ _ _ _ _ (by omega), i32_z]
  · rw [u2_ck _ _ _ _ _ _ (by omega), i32_z]
  · rw [u2_ck _ _ _ _ _ _ (by omega), i32_z]
  · rw [u2_ck _ _ _ _ _ _ (by omega)]
  · rw [u2_ck _ _ _ _ _ _ (by omega)]
theorem lsQ.cg {L : Nat} {I I1 I2 : IH} {x : LR} (h : lsQ L I I1 x) (e : I2 L = I1 L) : lsQ L I I2 x := by
  unfold lsQ at *
  rw [e]
  exact h
theorem regretL_R {G : GT} {S : Sh} {I : IH} {J : JH} {z L s d : Nat} {A : Nat → Int32} {Q : Post} (hl : lfS S L s) (h : stR I s A) (hw : wfS A) (hb : bqS I s) (hd : I L 1 = nI d) (k : ∀ I' J', lyF L s I I' J J' → stR I' s (loH A d).2.1 → bqS I' s → lsQ L I I' (loH A d) → I' (L + 1) = I (L + 1) → Q none S I' J' z) : sp_X1_regret G [.ref L, .ref s] S I J z Q := by
  obtain ⟨l1, l2, l3, l4, hs, l5⟩ := hl
  unfold loH at k
  simp (disch := omega) only [sp_X1_regret, B_X1_regret_0, l1, hs.k, hs.r0, hs.k1, hs.r1, hs.k2, hs.r2, hs.k3, hs.r3, hs.k4, hs.r4, hs.k12, hs.n1, hs.n2, hs.n3, hs.y0, hs.k5, hs.n5, hs.y1, hs.k6, hs.n6, hs.y2, hs.k7, hs.n7, hs.y3, hs.k8, hs.n8, hs.y4, hs.k9, hs.n9, hs.y5, hs.k10, hs.n10, hs.y6, hs.k11, hs.n11, hs.p0, hs.p1, hs.p2, hs.k13, hs.n13, hs.q0, hs.q1, hs.k14, hs.k15, hs.k16, hs.n16, hs.k17, hs.n17, hs.rH, hs.kH, hs.rP, hs.kP, hs.rQ, hs.kQ, nI_1, nI_add, nI_clamp, nI_pin, nI_neg, nI_nonneg, nI_leE, nI_ltE, nI_eqE, Nat.not_le, Nat.not_lt, fq_10, fq_01, fq_rr, ix_aald, ix_aast, ix_abs, ix_alen, ix_aload, ix_aret, ix_astore, ix_bald, ix_bast, ix_call, ix_cpyI, ix_cpyJ, ix_dead, ix_dup2, ix_dup2L, ix_dupI, ix_dupR, ix_dupx1, ix_getI, ix_getJ, ix_getR, ix_gfm, ix_gtab, ix_i2b, ix_i2c, ix_i2l, ix_i2s, ix_iadd, ix_iald, ix_iand, ix_iast, ix_icall, ix_icmp_eq, ix_icmp_ge, ix_icmp_gt, ix_icmp_le, ix_icmp_lt, ix_icmp_ne, ix_idiv, ix_if_eq, ix_if_ge, ix_if_gt, ix_if_le, ix_if_lt, ix_if_ne, ix_iinc, ix_iload, ix_imul, ix_ineg, ix_ior, ix_irem, ix_iret, ix_ishl, ix_ishr, ix_istore, ix_isub, ix_iushr, ix_ixor, ix_l2i, ix_ladd, ix_lald, ix_land, ix_last, ix_lcmp, ix_ldcS, ix_ldiv, ix_lload, ix_lmul, ix_lor, ix_lrem, ix_lret, ix_lshl, ix_lstore, ix_lsub, ix_lsw, ix_max, ix_min, ix_new, ix_newa, ix_nret, ix_oinit, ix_pop2L, ix_popI, ix_pushI, ix_pushL, ix_putI, ix_putJ, ix_putR, ix_putZ, ix_sbald, ix_sgetC, ix_sgetV, ix_slen, ix_strc, ix_tald, ix_tsw, ix_vcall, ix_vret, ix_zret, stL, stL2, kilL, popN, fq_sw, fq_lsw, List.map_cons, List.map_nil, List.getElem?_cons_zero, List.getElem?_cons_succ, Option.toList_some, Option.toList_none, List.cons_append, List.nil_append, List.length_cons, List.length_nil, List.sum_cons, List.sum_nil, cat_i, cat_l, cat_r, true_and, and_true, Nat.zero_add, Nat.add_zero, Nat.le_refl, Nat.zero_le, Nat.reduceAdd, Nat.reduceLeDiff, exists_eq_left', Option.some.injEq, not_true_eq_false, not_false_eq_true, false_implies, true_implies, implies_true, and_self, or_true, true_or, or_false, false_or]
  refine canR_R (j := 0) hs h (by omega) ?_
  by_cases g : 0 < (A 2).toNatClampNeg ∧ A 86 = A 6 ∧ A 92 = 0
  · rw [bI_t (show 0 < (A 2).toNatClampNeg ∧ A (86 + 7 * 0) = A 6 ∧ A (86 + 7 * 0 + 6) = 0 from g)]
    simp only [if_pos g] at k
    simp (disch := omega) only [B_X1_regret_27, l1, hs.k, hs.r0, hs.k1, hs.r1, hs.k2, hs.r2, hs.k3, hs.r3, hs.k4, hs.r4, hs.k12, hs.n1, hs.n2, hs.n3, hs.y0, hs.k5, hs.n5, hs.y1, hs.k6, hs.n6, hs.y2, hs.k7, hs.n7, hs.y3, hs.k8, hs.n8, hs.y4, hs.k9, hs.n9, hs.y5, hs.k10, hs.n10, hs.y6, hs.k11, hs.n11, hs.p0, hs.p1, hs.p2, hs.k13, hs.n13, hs.q0, hs.q1, hs.k14, hs.k15, hs.k16, hs.n16, hs.k17, hs.n17, hs.rH, hs.kH, hs.rP, hs.kP, hs.rQ, hs.kQ, nI_1, nI_add, nI_clamp, nI_pin, nI_neg, nI_nonneg, nI_leE, nI_ltE, nI_eqE, Nat.not_le, Nat.not_lt, fq_10, fq_01, fq_rr, ix_aald, ix_aast, ix_abs, ix_alen, ix_aload, ix_aret, ix_astore, ix_bald, ix_bast, ix_call, ix_cpyI, ix_cpyJ, ix_dead, ix_dup2, ix_dup2L, ix_dupI, ix_dupR, ix_dupx1, ix_getI, ix_getJ, ix_getR, ix_gfm, ix_gtab, ix_i2b, ix_i2c, ix_i2l, ix_i2s, ix_iadd, ix_iald, ix_iand, ix_iast, ix_icall, ix_icmp_eq, ix_icmp_ge, ix_icmp_gt, ix_icmp_le, ix_icmp_lt, ix_icmp_ne, ix_idiv, ix_if_eq, ix_if_ge, ix_if_gt, ix_if_le, ix_if_lt, ix_if_ne, ix_iinc, ix_iload, ix_imul, ix_ineg, ix_ior, ix_irem, ix_iret, ix_ishl, ix_ishr, ix_istore, ix_isub, ix_iushr, ix_ixor, ix_l2i, ix_ladd, ix_lald, ix_land, ix_last, ix_lcmp, ix_ldcS, ix_ldiv, ix_lload, ix_lmul, ix_lor, ix_lrem, ix_lret, ix_lshl, ix_lstore, ix_lsub, ix_lsw, ix_max, ix_min, ix_new, ix_newa, ix_nret, ix_oinit, ix_pop2L, ix_popI, ix_pushI, ix_pushL, ix_putI, ix_putJ, ix_putR, ix_putZ, ix_sbald, ix_sgetC, ix_sgetV, ix_slen, ix_strc, ix_tald, ix_tsw, ix_vcall, ix_vret, ix_zret, stL, stL2, kilL, popN, fq_sw, fq_lsw, List.map_cons, List.map_nil, List.getElem?_cons_zero, List.getElem?_cons_succ, Option.toList_some, Option.toList_none, List.cons_append, List.nil_append, List.length_cons, List.length_nil, List.sum_cons, List.sum_nil, cat_i, cat_l, cat_r, true_and, and_true, Nat.zero_add, Nat.add_zero, Nat.le_refl, Nat.zero_le, Nat.reduceAdd, Nat.reduceLeDiff, exists_eq_left', Option.some.injEq, not_true_eq_false, not_false_eq_true, false_implies, true_implies, implies_true, and_self, or_true, true_or, or_false, false_or]
    refine regret_R (j := 0) hs h hw hb g.1 (fun I' w f hF hst hbq ew hw5 hc _ _ => ?_)
    have ew : A 87 = nI w := ew
    rw [ew, nI_clamp (by omega)] at k
    simp (disch := omega) only [l1, hs.k, hs.r0, hs.k1, hs.r1, hs.k2, hs.r2, hs.k3, hs.r3, hs.k4, hs.r4, hs.k12, hs.n1, hs.n2, hs.n3, hs.y0, hs.k5, hs.n5, hs.y1, hs.k6, hs.n6, hs.y2, hs.k7, hs.n7, hs.y3, hs.k8, hs.n8, hs.y4, hs.k9, hs.n9, hs.y5, hs.k10, hs.n10, hs.y6, hs.k11, hs.n11, hs.p0, hs.p1, hs.p2, hs.k13, hs.n13, hs.q0, hs.q1, hs.k14, hs.k15, hs.k16, hs.n16, hs.k17, hs.n17, hs.rH, hs.kH, hs.rP, hs.kP, hs.rQ, hs.kQ, nI_1, nI_add, nI_clamp, nI_pin, nI_neg, nI_nonneg, nI_leE, nI_ltE, nI_eqE, Nat.not_le, Nat.not_lt, fq_10, fq_01, fq_rr, ix_aald, ix_aast, ix_abs, ix_alen, ix_aload, ix_aret, ix_astore, ix_bald, ix_bast, ix_call, ix_cpyI, ix_cpyJ, ix_dead, ix_dup2, ix_dup2L, ix_dupI, ix_dupR, ix_dupx1, ix_getI, ix_getJ, ix_getR, ix_gfm, ix_gtab, ix_i2b, ix_i2c, ix_i2l, ix_i2s, ix_iadd, ix_iald, ix_iand, ix_iast, ix_icall, ix_icmp_eq, ix_icmp_ge, ix_icmp_gt, ix_icmp_le, ix_icmp_lt, ix_icmp_ne, ix_idiv, ix_if_eq, ix_if_ge, ix_if_gt, ix_if_le, ix_if_lt, ix_if_ne, ix_iinc, ix_iload, ix_imul, ix_ineg, ix_ior, ix_irem, ix_iret, ix_ishl, ix_ishr, ix_istore, ix_isub, ix_iushr, ix_ixor, ix_l2i, ix_ladd, ix_lald, ix_land, ix_last, ix_lcmp, ix_ldcS, ix_ldiv, ix_lload, ix_lmul, ix_lor, ix_lrem, ix_lret, ix_lshl, ix_lstore, ix_lsub, ix_lsw, ix_max, ix_min, ix_new, ix_newa, ix_nret, ix_oinit, ix_pop2L, ix_popI, ix_pushI, ix_pushL, ix_putI, ix_putJ, ix_putR, ix_putZ, ix_sbald, ix_sgetC, ix_sgetV, ix_slen, ix_strc, ix_tald, ix_tsw, ix_vcall, ix_vret, ix_zret, stL, stL2, kilL, popN, fq_sw, fq_lsw, List.map_cons, List.map_nil, List.getElem?_cons_zero, List.getElem?_cons_succ, Option.toList_some, Option.toList_none, List.cons_append, List.nil_append, List.length_cons, List.length_nil, List.sum_cons, List.sum_nil, cat_i, cat_l, cat_r, true_and, and_true, Nat.zero_add, Nat.add_zero, Nat.le_refl, Nat.zero_le, Nat.reduceAdd, Nat.reduceLeDiff, exists_eq_left', Option.some.injEq, not_true_eq_false, not_false_eq_true, false_implies, true_implies, implies_true, and_self, or_true, true_or, or_false, false_or]
    exact k I' J hF.l hst hbq ((lsQ.z hd).cg (hF.1 L (by omega))) (hF.1 _ (by omega))
  · rw [bI_f (show ¬ (0 < (A 2).toNatClampNeg ∧ A (86 + 7 * 0) = A 6 ∧ A (86 + 7 * 0 + 6) = 0) from g)]
    simp only [if_neg g] at k
    simp (disch := omega) only [B_X1_regret_27, l1, hs.k, hs.r0, hs.k1, hs.r1, hs.k2, hs.r2, hs.k3, hs.r3, hs.k4, hs.r4, hs.k12, hs.n1, hs.n2, hs.n3, hs.y0, hs.k5, hs.n5, hs.y1, hs.k6, hs.n6, hs.y2, hs.k7, hs.n7, hs.y3, hs.k8, hs.n8, hs.y4, hs.k9, hs.n9, hs.y5, hs.k10, hs.n10, hs.y6, hs.k11, hs.n11, hs.p0, hs.p1, hs.p2, hs.k13, hs.n13, hs.q0, hs.q1, hs.k14, hs.k15, hs.k16, hs.n16, hs.k17, hs.n17, hs.rH, hs.kH, hs.rP, hs.kP, hs.rQ, hs.kQ, nI_1, nI_add, nI_clamp, nI_pin, nI_neg, nI_nonneg, nI_leE, nI_ltE, nI_eqE, Nat.not_le, Nat.not_lt, fq_10, fq_01, fq_rr, ix_aald, ix_aast, ix_abs, ix_alen, ix_aload, ix_aret, ix_astore, ix_bald, ix_bast, ix_call, ix_cpyI, ix_cpyJ, ix_dead, ix_dup2, ix_dup2L, ix_dupI, ix_dupR, ix_dupx1, ix_getI, ix_getJ, ix_getR, ix_gfm, ix_gtab, ix_i2b, ix_i2c, ix_i2l, ix_i2s, ix_iadd, ix_iald, ix_iand, ix_iast, ix_icall, ix_icmp_eq, ix_icmp_ge, ix_icmp_gt, ix_icmp_le, ix_icmp_lt, ix_icmp_ne, ix_idiv, ix_if_eq, ix_if_ge, ix_if_gt, ix_if_le, ix_if_lt, ix_if_ne, ix_iinc, ix_iload, ix_imul, ix_ineg, ix_ior, ix_irem, ix_iret, ix_ishl, ix_ishr, ix_istore, ix_isub, ix_iushr, ix_ixor, ix_l2i, ix_ladd, ix_lald, ix_land, ix_last, ix_lcmp, ix_ldcS, ix_ldiv, ix_lload, ix_lmul, ix_lor, ix_lrem, ix_lret, ix_lshl, ix_lstore, ix_lsub, ix_lsw, ix_max, ix_min, ix_new, ix_newa, ix_nret, ix_oinit, ix_pop2L, ix_popI, ix_pushI, ix_pushL, ix_putI, ix_putJ, ix_putR, ix_putZ, ix_sbald, ix_sgetC, ix_sgetV, ix_slen, ix_strc, ix_tald, ix_tsw, ix_vcall, ix_vret, ix_zret, stL, stL2, kilL, popN, fq_sw, fq_lsw, List.map_cons, List.map_nil, List.getElem?_cons_zero, List.getElem?_cons_succ, Option.toList_some, Option.toList_none, List.cons_append, List.nil_append, List.length_cons, List.length_nil, List.sum_cons, List.sum_nil, cat_i, cat_l, cat_r, true_and, and_true, Nat.zero_add, Nat.add_zero, Nat.le_refl, Nat.zero_le, Nat.reduceAdd, Nat.reduceLeDiff, exists_eq_left', Option.some.injEq, not_true_eq_false, not_false_eq_true, false_implies, true_implies, implies_true, and_self, or_true, true_or, or_false, false_or]
    exact k _ J (lyF.rf.u l5 (Or.inl rfl)) (h.ou (by omega)) (hb.ou (by omega)) (lsQ.m hd) (u2_ne (by omega))
theorem sleepL_R {G : GT} {S : Sh} {I : IH} {J : JH} {z L s d n : Nat} {A : Nat → Int32} {Q : Post} (hl : lfS S L s) (h : stR I s A) (hw : wfS A) (hb : bqS I s) (hd : I L 1 = nI d) (hn : n ≤ 20) (k : ∀ I' J', lyF L s I I' J J' → stR I' s (loN A d n).2.1 → bqS I' s → lsQ L I I' (loN A d n) → I' (L + 1) = I (L + 1) → Q none S I' J' z) : sp_X1_sleep G [.ref L, .ref s, .int (nI n)] S I J z Q := by
  obtain ⟨l1, l2, l3, l4, hs, l5⟩ := hl
  obtain ⟨c, hc, ec, ec2⟩ := hw.2.2.2.2.2.2.1.ex
  have s12 : I s 12 = nI c := h.2.1.2.2.2.2.2.2.1.trans ec
  unfold loN at k
  rw [ec2] at k
  simp (disch := omega) only [sp_X1_sleep, B_X1_sleep_0, l1, s12, li_9999, u2_same, u2_ck, hs.k, hs.r0, hs.k1, hs.r1, hs.k2, hs.r2, hs.k3, hs.r3, hs.k4, hs.r4, hs.k12, hs.n1, hs.n2, hs.n3, hs.y0, hs.k5, hs.n5, hs.y1, hs.k6, hs.n6, hs.y2, hs.k7, hs.n7, hs.y3, hs.k8, hs.n8, hs.y4, hs.k9, hs.n9, hs.y5, hs.k10, hs.n10, hs.y6, hs.k11, hs.n11, hs.p0, hs.p1, hs.p2, hs.k13, hs.n13, hs.q0, hs.q1, hs.k14, hs.k15, hs.k16, hs.n16, hs.k17, hs.n17, hs.rH, hs.kH, hs.rP, hs.kP, hs.rQ, hs.kQ, nI_1, nI_add, nI_clamp, nI_pin, nI_neg, nI_nonneg, nI_leE, nI_ltE, nI_eqE, Nat.not_le, Nat.not_lt, fq_10, fq_01, fq_rr, ix_aald, ix_aast, ix_abs, ix_alen, ix_aload, ix_aret, ix_astore, ix_bald, ix_bast, ix_call, ix_cpyI, ix_cpyJ, ix_dead, ix_dup2, ix_dup2L, ix_dupI, ix_dupR, ix_dupx1, ix_getI, ix_getJ, ix_getR, ix_gfm, ix_gtab, ix_i2b, ix_i2c, ix_i2l, ix_i2s, ix_iadd, ix_iald, ix_iand, ix_iast, ix_icall, ix_icmp_eq, ix_icmp_ge, ix_icmp_gt, ix_icmp_le, ix_icmp_lt, ix_icmp_ne, ix_idiv, ix_if_eq, ix_if_ge, ix_if_gt, ix_if_le, ix_if_lt, ix_if_ne, ix_iinc, ix_iload, ix_imul, ix_ineg, ix_ior, ix_irem, ix_iret, ix_ishl, ix_ishr, ix_istore, ix_isub, ix_iushr, ix_ixor, ix_l2i, ix_ladd, ix_lald, ix_land, ix_last, ix_lcmp, ix_ldcS, ix_ldiv, ix_lload, ix_lmul, ix_lor, ix_lrem, ix_lret, ix_lshl, ix_lstore, ix_lsub, ix_lsw, ix_max, ix_min, ix_new, ix_newa, ix_nret, ix_oinit, ix_pop2L, ix_popI, ix_pushI, ix_pushL, ix_putI, ix_putJ, ix_putR, ix_putZ, ix_sbald, ix_sgetC, ix_sgetV, ix_slen, ix_strc, ix_tald, ix_tsw, ix_vcall, ix_vret, ix_zret, stL, stL2, kilL, popN, fq_sw, fq_lsw, List.map_cons, List.map_nil, List.getElem?_cons_zero, List.getElem?_cons_succ, Option.toList_some, Option.toList_none, List.cons_append, List.nil_append, List.length_cons, List.length_nil, List.sum_cons, List.sum_nil, cat_i, cat_l, cat_r, true_and, and_true, Nat.zero_add, Nat.add_zero, Nat.le_refl, Nat.zero_le, Nat.reduceAdd, Nat.reduceLeDiff, exists_eq_left', Option.some.injEq, not_true_eq_false, not_false_eq_true, false_implies, true_implies, implies_true, and_self, or_true, true_or, or_false, false_or]
  refine ⟨fun g => ?_, fun g => ?_⟩
  · simp only [if_neg (show ¬ 9999 < c + n by omega)] at k
    refine sleep_R hs (h.ou (by omega)) hw (hb.ou (by omega)) (by omega) (by omega) (fun I' hF hst hbq => ?_)
    simp (disch := omega) only [l1, hs.k, hs.r0, hs.k1, hs.r1, hs.k2, hs.r2, hs.k3, hs.r3, hs.k4, hs.r4, hs.k12, hs.n1, hs.n2, hs.n3, hs.y0, hs.k5, hs.n5, hs.y1, hs.k6, hs.n6, hs.y2, hs.k7, hs.n7, hs.y3, hs.k8, hs.n8, hs.y4, hs.k9, hs.n9, hs.y5, hs.k10, hs.n10, hs.y6, hs.k11, hs.n11, hs.p0, hs.p1, hs.p2, hs.k13, hs.n13, hs.q0, hs.q1, hs.k14, hs.k15, hs.k16, hs.n16, hs.k17, hs.n17, hs.rH, hs.kH, hs.rP, hs.kP, hs.rQ, hs.kQ, nI_1, nI_add, nI_clamp, nI_pin, nI_neg, nI_nonneg, nI_leE, nI_ltE, nI_eqE, Nat.not_le, Nat.not_lt, fq_10, fq_01, fq_rr, ix_aald, ix_aast, ix_abs, ix_alen, ix_aload, ix_aret, ix_astore, ix_bald, ix_bast, ix_call, ix_cpyI, ix_cpyJ, ix_dead, ix_dup2, ix_dup2L, ix_dupI, ix_dupR, ix_dupx1, ix_getI, ix_getJ, ix_getR, ix_gfm, ix_gtab, ix_i2b, ix_i2c, ix_i2l, ix_i2s, ix_iadd, ix_iald, ix_iand, ix_iast, ix_icall, ix_icmp_eq, ix_icmp_ge, ix_icmp_gt, ix_icmp_le, ix_icmp_lt, ix_icmp_ne, ix_idiv, ix_if_eq, ix_if_ge, ix_if_gt, ix_if_le, ix_if_lt, ix_if_ne, ix_iinc, ix_iload, ix_imul, ix_ineg, ix_ior, ix_irem, ix_iret, ix_ishl, ix_ishr, ix_istore, ix_isub, ix_iushr, ix_ixor, ix_l2i, ix_ladd, ix_lald, ix_land, ix_last, ix_lcmp, ix_ldcS, ix_ldiv, ix_lload, ix_lmul, ix_lor, ix_lrem, ix_lret, ix_lshl, ix_lstore, ix_lsub, ix_lsw, ix_max, ix_min, ix_new, ix_newa, ix_nret, ix_oinit, ix_pop2L, ix_popI, ix_pushI, ix_pushL, ix_putI, ix_putJ, ix_putR, ix_putZ, ix_sbald, ix_sgetC, ix_sgetV, ix_slen, ix_strc, ix_tald, ix_tsw, ix_vcall, ix_vret, ix_zret, stL, stL2, kilL, popN, fq_sw, fq_lsw, List.map_cons, List.map_nil, List.getElem?_cons_zero, List.getElem?_cons_succ, Option.toList_some, Option.toList_none, List.cons_append, List.nil_append, List.length_cons, List.length_nil, List.sum_cons, List.sum_nil, cat_i, cat_l, cat_r, true_and, and_true, Nat.zero_add, Nat.add_zero, Nat.le_refl, Nat.zero_le, Nat.reduceAdd, Nat.reduceLeDiff, exists_eq_left', Option.some.injEq, not_true_eq_false, not_false_eq_true, false_implies, true_implies, implies_true, and_self, or_true, true_or, or_false, false_or]
    have fl : I' L = u2 I L 6 (I L 6 + nI n) L := hF.1 L (by omega)
    refine k I' J ((lyF.rf.u l5 (Or.inl rfl)).tr hF.l) hst hbq ⟨?_, ?_, ?_, ?_, ?_, ?_, ?_, ?_⟩ (by rw [hF.1 _ (by omega), u2_ne (by omega)])
    · rw [fl, u2_ck _ _ _ _ _ _ (by omega)]
      exact hd
    · rw [fl, u2_ck _ _ _ _ _ _ (by omega)]
    · rw [fl, u2_ck _ _ _ _ _ _ (by omega), if_pos rfl, i32_z]
    · rw [fl, u2_same]
    · rw [fl, u2_ck _ _ _ _ _ _ (by omega), i32_z]
    · rw [fl, u2_ck _ _ _ _ _ _ (by omega), i32_z]
    · rw [fl, u2_ck _ _ _ _ _ _ (by omega)]
    · rw [fl, u2_ck _ _ _ _ _ _ (by omega)]
  · simp only [if_pos (show 9999 < c + n by omega)] at k
    exact k _ J (lyF.rf.u l5 (Or.inl rfl)) (h.ou (by omega)) (hb.ou (by omega)) (lsQ.m hd) (u2_ne (by omega))
theorem weather_R {G : GT} {S : Sh} {I : IH} {J : JH} {z L s d : Nat} {A : Nat → Int32} {r : Int32} {Q : Post} (hl : lfS S L s) (h : stR I s A) (hb : bqS I s) (hd : I L 1 = nI d) (hr : r = 0 ∨ r = 1) (k : ∀ I' J', lyF L s I I' J J' → stR I' s (loW A d r).2.1 → bqS I' s → lsQ L I I' (loW A d r) → I' (L + 1) = I (L + 1) → Q none S I' J' z) : sp_X1_turnWeather G [.ref L, .ref s, .int r] S I J z Q := by
  obtain ⟨l1, l2, l3, l4, hs, l5⟩ := hl
  have s16 : I s 16 = A 7 := h.2.1.2.2.2.2.2.2.2.1
  unfold loW at k
  simp (disch := omega) only [sp_X1_turnWeather, B_X1_turnWeather_0, B_X1_turnWeather_18, l1, s16, hr, hs.k, hs.r0, hs.k1, hs.r1, hs.k2, hs.r2, hs.k3, hs.r3, hs.k4, hs.r4, hs.k12, hs.n1, hs.n2, hs.n3, hs.y0, hs.k5, hs.n5, hs.y1, hs.k6, hs.n6, hs.y2, hs.k7, hs.n7, hs.y3, hs.k8, hs.n8, hs.y4, hs.k9, hs.n9, hs.y5, hs.k10, hs.n10, hs.y6, hs.k11, hs.n11, hs.p0, hs.p1, hs.p2, hs.k13, hs.n13, hs.q0, hs.q1, hs.k14, hs.k15, hs.k16, hs.n16, hs.k17, hs.n17, hs.rH, hs.kH, hs.rP, hs.kP, hs.rQ, hs.kQ, nI_1, nI_add, nI_clamp, nI_pin, nI_neg, nI_nonneg, nI_leE, nI_ltE, nI_eqE, Nat.not_le, Nat.not_lt, fq_10, fq_01, fq_rr, ix_aald, ix_aast, ix_abs, ix_alen, ix_aload, ix_aret, ix_astore, ix_bald, ix_bast, ix_call, ix_cpyI, ix_cpyJ, ix_dead, ix_dup2, ix_dup2L, ix_dupI, ix_dupR, ix_dupx1, ix_getI, ix_getJ, ix_getR, ix_gfm, ix_gtab, ix_i2b, ix_i2c, ix_i2l, ix_i2s, ix_iadd, ix_iald, ix_iand, ix_iast, ix_icall, ix_icmp_eq, ix_icmp_ge, ix_icmp_gt, ix_icmp_le, ix_icmp_lt, ix_icmp_ne, ix_idiv, ix_if_eq, ix_if_ge, ix_if_gt, ix_if_le, ix_if_lt, ix_if_ne, ix_iinc, ix_iload, ix_imul, ix_ineg, ix_ior, ix_irem, ix_iret, ix_ishl, ix_ishr, ix_istore, ix_isub, ix_iushr, ix_ixor, ix_l2i, ix_ladd, ix_lald, ix_land, ix_last, ix_lcmp, ix_ldcS, ix_ldiv, ix_lload, ix_lmul, ix_lor, ix_lrem, ix_lret, ix_lshl, ix_lstore, ix_lsub, ix_lsw, ix_max, ix_min, ix_new, ix_newa, ix_nret, ix_oinit, ix_pop2L, ix_popI, ix_pushI, ix_pushL, ix_putI, ix_putJ, ix_putR, ix_putZ, ix_sbald, ix_sgetC, ix_sgetV, ix_slen, ix_strc, ix_tald, ix_tsw, ix_vcall, ix_vret, ix_zret, stL, stL2, kilL, popN, fq_sw, fq_lsw, List.map_cons, List.map_nil, List.getElem?_cons_zero, List.getElem?_cons_succ, Option.toList_some, Option.toList_none, List.cons_append, List.nil_append, List.length_cons, List.length_nil, List.sum_cons, List.sum_nil, cat_i, cat_l, cat_r, true_and, and_true, Nat.zero_add, Nat.add_zero, Nat.le_refl, Nat.zero_le, Nat.reduceAdd, Nat.reduceLeDiff, exists_eq_left', Option.some.injEq, not_true_eq_false, not_false_eq_true, false_implies, true_implies, implies_true, and_self, or_true, true_or, or_false, false_or]
  refine ⟨fun g => ?_, fun g => ?_⟩
  · rw [decide_eq_true g] at k
    exact k _ J (lyF.rf.u l5 (Or.inr (Or.inr rfl))) (h.sc 16 7 r (by omega)) (hb.ou (by omega)) ((lsQ.z hd).cg (u2_ne (by omega))) (u2_ne (by omega))
  · rw [decide_eq_false (fun q => q g)] at k
    exact k _ J ((lyF.rf.u l5 (Or.inl rfl)).u l5 (Or.inr (Or.inr rfl))) ((h.ou (by omega)).sc 16 7 r (by omega)) ((hb.ou (by omega)).ou (by omega)) ((lsQ.m hd).cg (u2_ne (by omega))) (by rw [u2_ne (by omega), u2_ne (by omega)])
theorem bI_nge {a b : Int32} : bI (a < b) = if b ≤ a then 0 else 1 := by
  unfold bI
  by_cases h : a < b
  · rw [if_pos h, if_neg (fun q => absurd h (Int32.not_lt.mpr q))]
  · rw [if_neg h, if_pos (Int32.not_lt.mp h)]
/-- someone says something to someone, by draws -/
theorem meet_R {G : GT} {S : Sh} {I : IH} {J : JH} {z L s d : Nat} {A : Nat → Int32} {Q : Post} (hl : lfS S L s) (h : stR I s A) (hw : wfS A) (hb : bqS I s) (hd : I L 1 = nI d) (hd6 : d < 65536) (h0 : ¬ A 1 = 0) (k : ∀ I', lyF L s I I' J J → stR I' s (uA A 7 (bI (nI (fd d / 8 % 16) < A 5))) → bqS I' s → I' L 1 = nI (fd (fd (fd d))) → I' L 2 = nI (fd (fd d) / 8 % (A 1).toNatClampNeg) → I' L 3 = nI (fd (fd (fd d)) / 8 % (A 1).toNatClampNeg) → (∀ j, 4 ≤ j → I' L j = I L j) → I' (L + 1) = I (L + 1) → Q none S I' J z) : sp_X1_drawMeeting G [.ref L, .ref s] S I J z Q := by
  obtain ⟨l1, l2, l3, l4, hs, l5⟩ := hl
  obtain ⟨c, hc, ec, ec2⟩ := hw.2.1.ex
  have c0 : 0 < c := by
    rcases Nat.eq_zero_or_pos c with q | q
    · exact absurd (by rw [ec, q]; rfl) h0
    · exact q
  rw [ec2] at k
  have s6 : I s 6 = nI c := h.2.1.2.1.trans ec
  have s11 : I s 11 = A 5 := h.2.1.2.2.2.2.2.1
  have n16 : ¬ nI 16 = 0 := by decide
  have n8 := n8_0
  have n65 := n65_0
  have nc : ¬ nI c = 0 := fun q => by
    have := (nI_eqE (a := c) (b := 0) (by omega) (by omega)).mp q
    omega
  have f1 := fd_lt d
  have f2 := fd_lt (fd d)
  have q1 := fd_I hd6
  have q2 := fd_I f1
  have q3 := fd_I f2
  have w16 := fdq_c (d := d) (c := 16) (by omega) (by omega)
  have w2 := fdq_c (d := fd d) c0 (show c < 100 by omega)
  have w3 := fdq_c (d := fd (fd d)) c0 (show c < 100 by omega)
  have e1 := fd_8 d
  have e2 := fd_8 (fd d)
  have e3 := fd_8 (fd (fd d))
  simp (disch := omega) only [sp_X1_drawMeeting, B_X1_drawMeeting_0, sp_X1_draw, B_X1_draw_0, B_X1_drawMeeting_19, l1, hd, s6, s11, u2_same, u2_ck, u2_ca, n16, n8, n65, nc, q1, q2, q3, w16, w2, w3, e1, e2, e3, li_3067, li_11287, li_65536, li_8, li_16, nI_mul, hs.k, hs.r0, hs.k1, hs.r1, hs.k2, hs.r2, hs.k3, hs.r3, hs.k4, hs.r4, hs.k12, hs.n1, hs.n2, hs.n3, hs.y0, hs.k5, hs.n5, hs.y1, hs.k6, hs.n6, hs.y2, hs.k7, hs.n7, hs.y3, hs.k8, hs.n8, hs.y4, hs.k9, hs.n9, hs.y5, hs.k10, hs.n10, hs.y6, hs.k11, hs.n11, hs.p0, hs.p1, hs.p2, hs.k13, hs.n13, hs.q0, hs.q1, hs.k14, hs.k15, hs.k16, hs.n16, hs.k17, hs.n17, hs.rH, hs.kH, hs.rP, hs.kP, hs.rQ, hs.kQ, nI_1, nI_add, nI_clamp, nI_pin, nI_neg, nI_nonneg, nI_leE, nI_ltE, nI_eqE, Nat.not_le, Nat.not_lt, fq_10, fq_01, fq_rr, ix_aald, ix_aast, ix_abs, ix_alen, ix_aload, ix_aret, ix_astore, ix_bald, ix_bast, ix_call, ix_cpyI, ix_cpyJ, ix_dead, ix_dup2, ix_dup2L, ix_dupI, ix_dupR, ix_dupx1, ix_getI, ix_getJ, ix_getR, ix_gfm, ix_gtab, ix_i2b, ix_i2c, ix_i2l, ix_i2s, ix_iadd, ix_iald, ix_iand, ix_iast, ix_icall, ix_icmp_eq, ix_icmp_ge, ix_icmp_gt, ix_icmp_le, ix_icmp_lt, ix_icmp_ne, ix_idiv, ix_if_eq, ix_if_ge, ix_if_gt, ix_if_le, ix_if_lt, ix_if_ne, ix_iinc, ix_iload, ix_imul, ix_ineg, ix_ior, ix_irem, ix_iret, ix_ishl, ix_ishr, ix_istore, ix_isub, ix_iushr, ix_ixor, ix_l2i, ix_ladd, ix_lald, ix_land, ix_last, ix_lcmp, ix_ldcS, ix_ldiv, ix_lload, ix_lmul, ix_lor, ix_lrem, ix_lret, ix_lshl, ix_lstore, ix_lsub, ix_lsw, ix_max, ix_min, ix_new, ix_newa, ix_nret, ix_oinit, ix_pop2L, ix_popI, ix_pushI, ix_pushL, ix_putI, ix_putJ, ix_putR, ix_putZ, ix_sbald, ix_sgetC, ix_sgetV, ix_slen, ix_strc, ix_tald, ix_tsw, ix_vcall, ix_vret, ix_zret, stL, stL2, kilL, popN, fq_sw, fq_lsw, List.map_cons, List.map_nil, List.getElem?_cons_zero, List.getElem?_cons_succ, Option.toList_some, Option.toList_none, List.cons_append, List.nil_append, List.length_cons, List.length_nil, List.sum_cons, List.sum_nil, cat_i, cat_l, cat_r, true_and, and_true, Nat.zero_add, Nat.add_zero, Nat.le_refl, Nat.zero_le, Nat.reduceAdd, Nat.reduceLeDiff, exists_eq_left', Option.some.injEq, not_true_eq_false, not_false_eq_true, false_implies, true_implies, implies_true, and_self, or_true, true_or, or_false, false_or]
  have fin : ∀ v, v = bI (nI (fd d / 8 % 16) < A 5) → Q none S (u2 (u2 (u2 (u2 (u2 (u2 I L 1 (nI (fd d))) s 16 v) L 1 (nI (fd (fd d)))) L 2 (nI (fd (fd d) / 8 % c))) L 1 (nI (fd (fd (fd d))))) L 3 (nI (fd (fd (fd d)) / 8 % c))) J z := by
    rintro v rfl
    refine k _ ((((((lyF.rf.u l5 (Or.inl rfl)).u l5 (Or.inr (Or.inr rfl))).u l5 (Or.inl rfl)).u l5 (Or.inl rfl)).u l5 (Or.inl rfl)).u l5 (Or.inl rfl)) (((((((h.ou (by omega)).sc 16 7 _ (by omega)).ou (by omega)).ou (by omega)).ou (by omega)).ou (by omega))) ((((((hb.ou (by omega)).ou (by omega)).ou (by omega)).ou (by omega)).ou (by omega)).ou (by omega)) ?_ ?_ ?_ (fun j hj => ?_) ?_
    · rw [u2_ck _ _ _ _ _ _ (by omega), u2_same]
    · rw [u2_ck _ _ _ _ _ _ (by omega), u2_ck _ _ _ _ _ _ (by omega), u2_same]
    · rw [u2_same]
    · rw [u2_ck _ _ _ _ _ _ (by omega), u2_ck _ _ _ _ _ _ (by omega), u2_ck _ _ _ _ _ _ (by omega), u2_ck _ _ _ _ _ _ (by omega), u2_ne (by omega), u2_ck _ _ _ _ _ _ (by omega)]
    · rw [u2_ne (by omega), u2_ne (by omega), u2_ne (by omega), u2_ne (by omega), u2_ne (by omega), u2_ne (by omega)]
  refine ⟨fun g => fin 0 ?_, fun g => fin 1 ?_⟩
  · rw [bI_nge, if_pos g]
  · rw [bI_nge, if_neg g]
theorem wk_u : wk (nI 12) = 12 ∧ wk (nI 13) = 13 ∧ wk (nI 14) = 14 ∧ wk (nI 15) = 15 ∧ wk (nI 16) = 16 ∧ wk (nI 17) = 17 ∧ wk (nI 19) = 21 ∧ wk (nI 20) = 22 ∧ wk (nI 21) = 23 ∧ wk (nI 6) = 4 ∧ wk (nI 22) = 19 ∧ wk (nI 23) = 20 := by decide +kernel
theorem holds_R {G : GT} {S : Sh} {I : IH} {J : JH} {z L s N k : Nat} {A : Nat → Int32} {Q : Post} (hl : lfS S L s) (hv : svR I s A N) (hk : k < N) (ht : ∃ t, (t = 6 ∨ t = 22 ∨ t = 23) ∧ A (226 + 6 * k) = nI (1800 + t) ∧ I (s + 6) k = wk (nI t) ∧ (t ≠ 23 → I (s + 7) k = A (226 + 6 * k + 1) ∧ I (s + 10) k = A (226 + 6 * k + 2) ∧ I (s + 9) k = A (226 + 6 * k + 5))) (hQ : Q (some (.int (bI (hdF A (226 + 6 * k))))) S I J z) : sp_X1_holds G [.ref L, .ref s, .int (nI k)] S I J z Q := by
  obtain ⟨l1, l2, l3, l4, hs, l5⟩ := hl
  obtain ⟨hst, hw, hb, hy, h7, hr⟩ := hv
  have hN6 := hy.1
  have s16 : I s 16 = A 7 := hst.2.1.2.2.2.2.2.2.2.1
  obtain ⟨w12, w13, w14, w15, w16, w17, w19, w20, w21, w6, w22, w23⟩ := wk_u
  obtain ⟨t, ht, e0, e6, c6⟩ := ht
  have hK := hy.2.1 k hk
  have n20 : ¬ A (226 + 6 * k) = 20 := by
    rw [e0]
    rcases ht with rfl | rfl | rfl <;> decide
  have hop : opn A k := by
    unfold opn
    rw [e0]
    rcases ht with rfl | rfl | rfl <;> decide
  obtain ⟨a22, a6⟩ : (A (226 + 6 * k) = 1822 → okN (A (226 + 6 * k + 1)) 7 ∧ (A (226 + 6 * k + 1)).toNatClampNeg < (A 1).toNatClampNeg) ∧ (A (226 + 6 * k) = 1806 → okN (A (226 + 6 * k + 1)) 5 ∧ (A (226 + 6 * k + 1)).toNatClampNeg < (A 0).toNatClampNeg) := by
    rcases hK with ⟨q, -⟩ | ⟨-, -, q1, q2, -⟩ | ⟨q, -⟩
    · exact absurd q n20
    · exact ⟨q1, q2⟩
    · unfold opn at hop
      rcases q with q | q | q | q | q | q | q <;> (rw [q] at hop; exact absurd hop (by decide))
  have bq : ∀ (v w : Int32), (w ≤ v → bI (v < w) = 0) ∧ (¬ w ≤ v → bI (v < w) = 1) := fun v w => ⟨fun h => bI_f (Int32.not_lt.mpr h), fun h => bI_t (Int32.not_le.mp h)⟩
  -- the number, the sign
  have tail : ∀ (v : Int32), hdV A (226 + 6 * k) = v → ¬ A (226 + 6 * k) = 1823 → t ≠ 23 → ∀ (o4 : Option Value), B_X1_holds_63 G 0 0 Q [some (.ref L), some (.ref s), some (.int (nI k)), some (.ref (s + 4)), o4, none, none] [.int v] S I J z 0 0 := by
    intro v hvv n23 t23 o4
    obtain ⟨c1, c2, c3⟩ := c6 t23
    unfold hdF at hQ
    simp only [if_neg n23, hvv] at hQ
    simp (disch := omega) only [B_X1_holds_63, B_X1_holds_116, B_X1_holds_129, B_X1_holds_142, c2, c3, hs.k, hs.r0, hs.k1, hs.r1, hs.k2, hs.r2, hs.k3, hs.r3, hs.k4, hs.r4, hs.k12, hs.n1, hs.n2, hs.n3, hs.y0, hs.k5, hs.n5, hs.y1, hs.k6, hs.n6, hs.y2, hs.k7, hs.n7, hs.y3, hs.k8, hs.n8, hs.y4, hs.k9, hs.n9, hs.y5, hs.k10, hs.n10, hs.y6, hs.k11, hs.n11, hs.p0, hs.p1, hs.p2, hs.k13, hs.n13, hs.q0, hs.q1, hs.k14, hs.k15, hs.k16, hs.n16, hs.k17, hs.n17, hs.rH, hs.kH, hs.rP, hs.kP, hs.rQ, hs.kQ, nI_1, nI_add, nI_clamp, nI_pin, nI_neg, nI_nonneg, nI_leE, nI_ltE, nI_eqE, Nat.not_le, Nat.not_lt, fq_10, fq_01, fq_rr, ix_aald, ix_aast, ix_abs, ix_alen, ix_aload, ix_aret, ix_astore, ix_bald, ix_bast, ix_call, ix_cpyI, ix_cpyJ, ix_dead, ix_dup2, ix_dup2L, ix_dupI, ix_dupR, ix_dupx1, ix_getI, ix_getJ, ix_getR, ix_gfm, ix_gtab, ix_i2b, ix_i2c, ix_i2l, ix_i2s, ix_iadd, ix_iald, ix_iand, ix_iast, ix_icall, ix_icmp_eq, ix_icmp_ge, ix_icmp_gt, ix_icmp_le, ix_icmp_lt, ix_icmp_ne, ix_idiv, ix_if_eq, ix_if_ge, ix_if_gt, ix_if_le, ix_if_lt, ix_if_ne, ix_iinc, ix_iload, ix_imul, ix_ineg, ix_ior, ix_irem, ix_iret, ix_ishl, ix_ishr, ix_istore, ix_isub, ix_iushr, ix_ixor, ix_l2i, ix_ladd, ix_lald, ix_land, ix_last, ix_lcmp, ix_ldcS, ix_ldiv, ix_lload, ix_lmul, ix_lor, ix_lrem, ix_lret, ix_lshl, ix_lstore, ix_lsub, ix_lsw, ix_max, ix_min, ix_new, ix_newa, ix_nret, ix_oinit, ix_pop2L, ix_popI, ix_pushI, ix_pushL, ix_putI, ix_putJ, ix_putR, ix_putZ, ix_sbald, ix_sgetC, ix_sgetV, ix_slen, ix_strc, ix_tald, ix_tsw, ix_vcall, ix_vret, ix_zret, stL, stL2, kilL, popN, fq_sw, fq_lsw, List.map_cons, List.map_nil, List.getElem?_cons_zero, List.getElem?_cons_succ, Option.toList_some, Option.toList_none, List.cons_append, List.nil_append, List.length_cons, List.length_nil, List.sum_cons, List.sum_nil, cat_i, cat_l, cat_r, true_and, and_true, Nat.zero_add, Nat.add_zero, Nat.le_refl, Nat.zero_le, Nat.reduceAdd, Nat.reduceLeDiff, exists_eq_left', Option.some.injEq, not_true_eq_false, not_false_eq_true, false_implies, true_implies, implies_true, and_self, or_true, true_or, or_false, false_or]
    generalize A (226 + 6 * k + 5) = g at *
    generalize A (226 + 6 * k + 2) = w at *
    rw [tI (x := g) (k := 60) (y := 60) rfl, tI (x := g) (k := 62) (y := 62) rfl]
    refine ⟨fun q => ?_, fun q => ⟨fun q2 => ?_, fun q2 => ?_⟩⟩
    · simp only [if_pos q] at hQ
      exact ⟨fun r => by rw [(bq v w).1 r] at hQ; exact hQ, fun r => by rw [(bq v w).2 r] at hQ; exact hQ⟩
    · simp only [if_neg q, if_pos q2] at hQ
      exact ⟨fun r => by rw [(bq w v).1 r] at hQ; exact hQ, fun r => by rw [(bq w v).2 r] at hQ; exact hQ⟩
    · simp only [if_neg q, if_neg q2] at hQ
      exact ⟨fun r => by rw [bI_f r] at hQ; exact hQ, fun r => by rw [bI_t r] at hQ; exact hQ⟩
  rcases ht with rfl | rfl | rfl
  · have e6 : I (s + 6) k = 4 := e6.trans w6
    obtain ⟨x, hx, ex, ex2⟩ := (a6 e0).1.ex
    have hx2 := (a6 e0).2
    rw [ex2] at hx2
    have c1 : I (s + 7) k = nI x := (c6 (by omega)).1.trans ex
    have hH := (hst.H hx2).1
    simp (disch := omega) only [sp_X1_holds, B_X1_holds_0, l1, e6, c1, hH, hs.k, hs.r0, hs.k1, hs.r1, hs.k2, hs.r2, hs.k3, hs.r3, hs.k4, hs.r4, hs.k12, hs.n1, hs.n2, hs.n3, hs.y0, hs.k5, hs.n5, hs.y1, hs.k6, hs.n6, hs.y2, hs.k7, hs.n7, hs.y3, hs.k8, hs.n8, hs.y4, hs.k9, hs.n9, hs.y5, hs.k10, hs.n10, hs.y6, hs.k11, hs.n11, hs.p0, hs.p1, hs.p2, hs.k13, hs.n13, hs.q0, hs.q1, hs.k14, hs.k15, hs.k16, hs.n16, hs.k17, hs.n17, hs.rH, hs.kH, hs.rP, hs.kP, hs.rQ, hs.kQ, nI_1, nI_add, nI_clamp, nI_pin, nI_neg, nI_nonneg, nI_leE, nI_ltE, nI_eqE, Nat.not_le, Nat.not_lt, fq_10, fq_01, fq_rr, ix_aald, ix_aast, ix_abs, ix_alen, ix_aload, ix_aret, ix_astore, ix_bald, ix_bast, ix_call, ix_cpyI, ix_cpyJ, ix_dead, ix_dup2, ix_dup2L, ix_dupI, ix_dupR, ix_dupx1, ix_getI, ix_getJ, ix_getR, ix_gfm, ix_gtab, ix_i2b, ix_i2c, ix_i2l, ix_i2s, ix_iadd, ix_iald, ix_iand, ix_iast, ix_icall, ix_icmp_eq, ix_icmp_ge, ix_icmp_gt, ix_icmp_le, ix_icmp_lt, ix_icmp_ne, ix_idiv, ix_if_eq, ix_if_ge, ix_if_gt, ix_if_le, ix_if_lt, ix_if_ne, ix_iinc, ix_iload, ix_imul, ix_ineg, ix_ior, ix_irem, ix_iret, ix_ishl, ix_ishr, ix_istore, ix_isub, ix_iushr, ix_ixor, ix_l2i, ix_ladd, ix_lald, ix_land, ix_last, ix_lcmp, ix_ldcS, ix_ldiv, ix_lload, ix_lmul, ix_lor, ix_lrem, ix_lret, ix_lshl, ix_lstore, ix_lsub, ix_lsw, ix_max, ix_min, ix_new, ix_newa, ix_nret, ix_oinit, ix_pop2L, ix_popI, ix_pushI, ix_pushL, ix_putI, ix_putJ, ix_putR, ix_putZ, ix_sbald, ix_sgetC, ix_sgetV, ix_slen, ix_strc, ix_tald, ix_tsw, ix_vcall, ix_vret, ix_zret, stL, stL2, kilL, popN, fq_sw, fq_lsw, List.map_cons, List.map_nil, List.getElem?_cons_zero, List.getElem?_cons_succ, Option.toList_some, Option.toList_none, List.cons_append, List.nil_append, List.length_cons, List.length_nil, List.sum_cons, List.sum_nil, cat_i, cat_l, cat_r, true_and, and_true, Nat.zero_add, Nat.add_zero, Nat.le_refl, Nat.zero_le, Nat.reduceAdd, Nat.reduceLeDiff, exists_eq_left', Option.some.injEq, not_true_eq_false, not_false_eq_true, false_implies, true_implies, implies_true, and_self, or_true, true_or, or_false, false_or]
    have n23 : ¬ A (226 + 6 * k) = 1823 := by rw [e0]; decide
    have hv : hdV A (226 + 6 * k) = A (12 + 3 * x) := by
      unfold hdV
      rw [if_neg (by rw [e0]; decide), ex2]
    exact ⟨fun _ => ⟨fun _ => tail _ hv n23 (by omega) _, fun q => absurd q (by decide)⟩, fun q => absurd q (by decide)⟩
  · have e6 : I (s + 6) k = 19 := e6.trans w22
    obtain ⟨x, hx, ex, ex2⟩ := (a22 e0).1.ex
    have hx2 := (a22 e0).2
    rw [ex2] at hx2
    have c1 : I (s + 7) k = nI x := (c6 (by omega)).1.trans ex
    have hP := (hst.P hx2).2.2.2.2.2.1
    simp (disch := omega) only [sp_X1_holds, B_X1_holds_0, l1, e6, c1, hP, hs.k, hs.r0, hs.k1, hs.r1, hs.k2, hs.r2, hs.k3, hs.r3, hs.k4, hs.r4, hs.k12, hs.n1, hs.n2, hs.n3, hs.y0, hs.k5, hs.n5, hs.y1, hs.k6, hs.n6, hs.y2, hs.k7, hs.n7, hs.y3, hs.k8, hs.n8, hs.y4, hs.k9, hs.n9, hs.y5, hs.k10, hs.n10, hs.y6, hs.k11, hs.n11, hs.p0, hs.p1, hs.p2, hs.k13, hs.n13, hs.q0, hs.q1, hs.k14, hs.k15, hs.k16, hs.n16, hs.k17, hs.n17, hs.rH, hs.kH, hs.rP, hs.kP, hs.rQ, hs.kQ, nI_1, nI_add, nI_clamp, nI_pin, nI_neg, nI_nonneg, nI_leE, nI_ltE, nI_eqE, Nat.not_le, Nat.not_lt, fq_10, fq_01, fq_rr, ix_aald, ix_aast, ix_abs, ix_alen, ix_aload, ix_aret, ix_astore, ix_bald, ix_bast, ix_call, ix_cpyI, ix_cpyJ, ix_dead, ix_dup2, ix_dup2L, ix_dupI, ix_dupR, ix_dupx1, ix_getI, ix_getJ, ix_getR, ix_gfm, ix_gtab, ix_i2b, ix_i2c, ix_i2l, ix_i2s, ix_iadd, ix_iald, ix_iand, ix_iast, ix_icall, ix_icmp_eq, ix_icmp_ge, ix_icmp_gt, ix_icmp_le, ix_icmp_lt, ix_icmp_ne, ix_idiv, ix_if_eq, ix_if_ge, ix_if_gt, ix_if_le, ix_if_lt, ix_if_ne, ix_iinc, ix_iload, ix_imul, ix_ineg, ix_ior, ix_irem, ix_iret, ix_ishl, ix_ishr, ix_istore, ix_isub, ix_iushr, ix_ixor, ix_l2i, ix_ladd, ix_lald, ix_land, ix_last, ix_lcmp, ix_ldcS, ix_ldiv, ix_lload, ix_lmul, ix_lor, ix_lrem, ix_lret, ix_lshl, ix_lstore, ix_lsub, ix_lsw, ix_max, ix_min, ix_new, ix_newa, ix_nret, ix_oinit, ix_pop2L, ix_popI, ix_pushI, ix_pushL, ix_putI, ix_putJ, ix_putR, ix_putZ, ix_sbald, ix_sgetC, ix_sgetV, ix_slen, ix_strc, ix_tald, ix_tsw, ix_vcall, ix_vret, ix_zret, stL, stL2, kilL, popN, fq_sw, fq_lsw, List.map_cons, List.map_nil, List.getElem?_cons_zero, List.getElem?_cons_succ, Option.toList_some, Option.toList_none, List.cons_append, List.nil_append, List.length_cons, List.length_nil, List.sum_cons, List.sum_nil, cat_i, cat_l, cat_r, true_and, and_true, Nat.zero_add, Nat.add_zero, Nat.le_refl, Nat.zero_le, Nat.reduceAdd, Nat.reduceLeDiff, exists_eq_left', Option.some.injEq, not_true_eq_false, not_false_eq_true, false_implies, true_implies, implies_true, and_self, or_true, true_or, or_false, false_or]
    have n23 : ¬ A (226 + 6 * k) = 1823 := by rw [e0]; decide
    have hv : hdV A (226 + 6 * k) = A (30 + 7 * x + 5) := by
      unfold hdV
      rw [if_pos (show A (226 + 6 * k) = 1822 from e0), ex2]
    exact ⟨fun _ => tail _ hv n23 (by omega) _, fun q => absurd q (by decide)⟩
  · have e6 : I (s + 6) k = 20 := e6.trans w23
    simp (disch := omega) only [sp_X1_holds, B_X1_holds_0, l1, e6, s16, hs.k, hs.r0, hs.k1, hs.r1, hs.k2, hs.r2, hs.k3, hs.r3, hs.k4, hs.r4, hs.k12, hs.n1, hs.n2, hs.n3, hs.y0, hs.k5, hs.n5, hs.y1, hs.k6, hs.n6, hs.y2, hs.k7, hs.n7, hs.y3, hs.k8, hs.n8, hs.y4, hs.k9, hs.n9, hs.y5, hs.k10, hs.n10, hs.y6, hs.k11, hs.n11, hs.p0, hs.p1, hs.p2, hs.k13, hs.n13, hs.q0, hs.q1, hs.k14, hs.k15, hs.k16, hs.n16, hs.k17, hs.n17, hs.rH, hs.kH, hs.rP, hs.kP, hs.rQ, hs.kQ, nI_1, nI_add, nI_clamp, nI_pin, nI_neg, nI_nonneg, nI_leE, nI_ltE, nI_eqE, Nat.not_le, Nat.not_lt, fq_10, fq_01, fq_rr, ix_aald, ix_aast, ix_abs, ix_alen, ix_aload, ix_aret, ix_astore, ix_bald, ix_bast, ix_call, ix_cpyI, ix_cpyJ, ix_dead, ix_dup2, ix_dup2L, ix_dupI, ix_dupR, ix_dupx1, ix_getI, ix_getJ, ix_getR, ix_gfm, ix_gtab, ix_i2b, ix_i2c, ix_i2l, ix_i2s, ix_iadd, ix_iald, ix_iand, ix_iast, ix_icall, ix_icmp_eq, ix_icmp_ge, ix_icmp_gt, ix_icmp_le, ix_icmp_lt, ix_icmp_ne, ix_idiv, ix_if_eq, ix_if_ge, ix_if_gt, ix_if_le, ix_if_lt, ix_if_ne, ix_iinc, ix_iload, ix_imul, ix_ineg, ix_ior, ix_irem, ix_iret, ix_ishl, ix_ishr, ix_istore, ix_isub, ix_iushr, ix_ixor, ix_l2i, ix_ladd, ix_lald, ix_land, ix_last, ix_lcmp, ix_ldcS, ix_ldiv, ix_lload, ix_lmul, ix_lor, ix_lrem, ix_lret, ix_lshl, ix_lstore, ix_lsub, ix_lsw, ix_max, ix_min, ix_new, ix_newa, ix_nret, ix_oinit, ix_pop2L, ix_popI, ix_pushI, ix_pushL, ix_putI, ix_putJ, ix_putR, ix_putZ, ix_sbald, ix_sgetC, ix_sgetV, ix_slen, ix_strc, ix_tald, ix_tsw, ix_vcall, ix_vret, ix_zret, stL, stL2, kilL, popN, fq_sw, fq_lsw, List.map_cons, List.map_nil, List.getElem?_cons_zero, List.getElem?_cons_succ, Option.toList_some, Option.toList_none, List.cons_append, List.nil_append, List.length_cons, List.length_nil, List.sum_cons, List.sum_nil, cat_i, cat_l, cat_r, true_and, and_true, Nat.zero_add, Nat.add_zero, Nat.le_refl, Nat.zero_le, Nat.reduceAdd, Nat.reduceLeDiff, exists_eq_left', Option.some.injEq, not_true_eq_false, not_false_eq_true, false_implies, true_implies, implies_true, and_self, or_true, true_or, or_false, false_or]
    have h7 := hw.2.2.2.2.2.2.2.1
    refine ⟨h7, ?_⟩
    unfold hdF at hQ
    simp only [if_pos (show A (226 + 6 * k) = 1823 from e0)] at hQ
    rcases h7 with q | q
    · rw [bI_f (by rw [q]; decide)] at hQ
      rw [q]
      exact hQ
    · rw [bI_t q] at hQ
      rw [q]
      exact hQ
theorem dX1_behindStep_0 : decode cX1_behindStep 0 = .ok (.aload_n 1, 1) := by decide +kernel
theorem dX1_behindStep_1 : decode cX1_behindStep 1 = .ok (.getfield 43, 3) := by decide +kernel
theorem dX1_behindStep_4 : decode cX1_behindStep 4 = .ok (.astore_n 3, 1) := by decide +kernel
theorem dX1_behindStep_5 : decode cX1_behindStep 5 = .ok (.aload_n 3, 1) := by decide +kernel
theorem dX1_behindStep_6 : decode cX1_behindStep 6 = .ok (.getfield 53, 3) := by decide +kernel
theorem dX1_behindStep_9 : decode cX1_behindStep 9 = .ok (.iload_n 2, 1) := by decide +kernel
theorem dX1_behindStep_10 : decode cX1_behindStep 10 = .ok (.iaload, 1) := by decide +kernel
theorem dX1_behindStep_11 : decode cX1_behindStep 11 = .ok (.tableswitch 206 12 23 #[61, 81, 89, 144, 153, 103, 162, 206, 206, 186, 206, 201], 61) := by decide +kernel
theorem dX1_behindStep_72 : decode cX1_behindStep 72 = .ok (.aload_n 0, 1) := by decide +kernel
theorem dX1_behindStep_73 : decode cX1_behindStep 73 = .ok (.aload_n 1, 1) := by decide +kernel
theorem dX1_behindStep_74 : decode cX1_behindStep 74 = .ok (.aload_n 3, 1) := by decide +kernel
theorem dX1_behindStep_75 : decode cX1_behindStep 75 = .ok (.getfield 67, 3) := by decide +kernel
theorem dX1_behindStep_78 : decode cX1_behindStep 78 = .ok (.iload_n 2, 1) := by decide +kernel
theorem dX1_behindStep_79 : decode cX1_behindStep 79 = .ok (.iaload, 1) := by decide +kernel
theorem dX1_behindStep_80 : decode cX1_behindStep 80 = .ok (.aload_n 3, 1) := by decide +kernel
theorem dX1_behindStep_81 : decode cX1_behindStep 81 = .ok (.getfield 70, 3) := by decide +kernel
theorem dX1_behindStep_84 : decode cX1_behindStep 84 = .ok (.iload_n 2, 1) := by decide +kernel
theorem dX1_behindStep_85 : decode cX1_behindStep 85 = .ok (.iaload, 1) := by decide +kernel
theorem dX1_behindStep_86 : decode cX1_behindStep 86 = .ok (.invokevirtual 73, 3) := by decide +kernel
theorem dX1_behindStep_89 : decode cX1_behindStep 89 = .ok (.goto 128, 3) := by decide +kernel
theorem dX1_behindStep_92 : decode cX1_behindStep 92 = .ok (.aload_n 0, 1) := by decide +kernel
theorem dX1_behindStep_93 : decode cX1_behindStep 93 = .ok (.aload_n 1, 1) := by decide +kernel
theorem dX1_behindStep_94 : decode cX1_behindStep 94 = .ok (.invokevirtual 77, 3) := by decide +kernel
theorem dX1_behindStep_97 : decode cX1_behindStep 97 = .ok (.goto 120, 3) := by decide +kernel
theorem dX1_behindStep_100 : decode cX1_behindStep 100 = .ok (.aload_n 0, 1) := by decide +kernel
theorem dX1_behindStep_101 : decode cX1_behindStep 101 = .ok (.aload_n 1, 1) := by decide +kernel
theorem dX1_behindStep_102 : decode cX1_behindStep 102 = .ok (.aload_n 3, 1) := by decide +kernel
theorem dX1_behindStep_103 : decode cX1_behindStep 103 = .ok (.getfield 81, 3) := by decide +kernel
theorem dX1_behindStep_106 : decode cX1_behindStep 106 = .ok (.iload_n 2, 1) := by decide +kernel
theorem dX1_behindStep_107 : decode cX1_behindStep 107 = .ok (.iaload, 1) := by decide +kernel
theorem dX1_behindStep_108 : decode cX1_behindStep 108 = .ok (.invokevirtual 84, 3) := by decide +kernel
theorem dX1_behindStep_111 : decode cX1_behindStep 111 = .ok (.goto 106, 3) := by decide +kernel
theorem dX1_behindStep_114 : decode cX1_behindStep 114 = .ok (.aload_n 1, 1) := by decide +kernel
theorem dX1_behindStep_115 : decode cX1_behindStep 115 = .ok (.getfield 88, 3) := by decide +kernel
theorem dX1_behindStep_118 : decode cX1_behindStep 118 = .ok (.ifCond .ne 16, 3) := by decide +kernel
theorem dX1_behindStep_121 : decode cX1_behindStep 121 = .ok (.aload_n 0, 1) := by decide +kernel
theorem dX1_behindStep_122 : decode cX1_behindStep 122 = .ok (.dup, 1) := by decide +kernel
theorem dX1_behindStep_123 : decode cX1_behindStep 123 = .ok (.getfield 24, 3) := by decide +kernel
theorem dX1_behindStep_126 : decode cX1_behindStep 126 = .ok (.iconst 1, 1) := by decide +kernel
theorem dX1_behindStep_127 : decode cX1_behindStep 127 = .ok (.iadd, 1) := by decide +kernel
theorem dX1_behindStep_128 : decode cX1_behindStep 128 = .ok (.putfield 24, 3) := by decide +kernel
theorem dX1_behindStep_131 : decode cX1_behindStep 131 = .ok (.goto 86, 3) := by decide +kernel
theorem dX1_behindStep_134 : decode cX1_behindStep 134 = .ok (.aload_n 0, 1) := by decide +kernel
theorem dX1_behindStep_135 : decode cX1_behindStep 135 = .ok (.aload_n 1, 1) := by decide +kernel
theorem dX1_behindStep_136 : decode cX1_behindStep 136 = .ok (.invokevirtual 91, 3) := by decide +kernel
theorem dX1_behindStep_139 : decode cX1_behindStep 139 = .ok (.aload_n 0, 1) := by decide +kernel
theorem dX1_behindStep_140 : decode cX1_behindStep 140 = .ok (.aload_n 1, 1) := by decide +kernel
theorem dX1_behindStep_141 : decode cX1_behindStep 141 = .ok (.aload_n 0, 1) := by decide +kernel
theorem dX1_behindStep_142 : decode cX1_behindStep 142 = .ok (.getfield 94, 3) := by decide +kernel
theorem dX1_behindStep_145 : decode cX1_behindStep 145 = .ok (.aload_n 0, 1) := by decide +kernel
theorem dX1_behindStep_146 : decode cX1_behindStep 146 = .ok (.getfield 97, 3) := by decide +kernel
theorem dX1_behindStep_149 : decode cX1_behindStep 149 = .ok (.invokevirtual 73, 3) := by decide +kernel
theorem dX1_behindStep_152 : decode cX1_behindStep 152 = .ok (.goto 65, 3) := by decide +kernel
theorem dX1_behindStep_155 : decode cX1_behindStep 155 = .ok (.aload_n 0, 1) := by decide +kernel
theorem dX1_behindStep_156 : decode cX1_behindStep 156 = .ok (.aload_n 1, 1) := by decide +kernel
theorem dX1_behindStep_157 : decode cX1_behindStep 157 = .ok (.iconst 1, 1) := by decide +kernel
theorem dX1_behindStep_158 : decode cX1_behindStep 158 = .ok (.invokevirtual 100, 3) := by decide +kernel
theorem dX1_behindStep_161 : decode cX1_behindStep 161 = .ok (.goto 56, 3) := by decide +kernel
theorem dX1_behindStep_164 : decode cX1_behindStep 164 = .ok (.aload_n 0, 1) := by decide +kernel
theorem dX1_behindStep_165 : decode cX1_behindStep 165 = .ok (.aload_n 1, 1) := by decide +kernel
theorem dX1_behindStep_166 : decode cX1_behindStep 166 = .ok (.iconst 0, 1) := by decide +kernel
theorem dX1_behindStep_167 : decode cX1_behindStep 167 = .ok (.invokevirtual 100, 3) := by decide +kernel
theorem dX1_behindStep_170 : decode cX1_behindStep 170 = .ok (.goto 47, 3) := by decide +kernel
theorem dX1_behindStep_173 : decode cX1_behindStep 173 = .ok (.aload_n 0, 1) := by decide +kernel
theorem dX1_behindStep_174 : decode cX1_behindStep 174 = .ok (.aload_n 1, 1) := by decide +kernel
theorem dX1_behindStep_175 : decode cX1_behindStep 175 = .ok (.iload_n 2, 1) := by decide +kernel
theorem dX1_behindStep_176 : decode cX1_behindStep 176 = .ok (.invokevirtual 104, 3) := by decide +kernel
theorem dX1_behindStep_179 : decode cX1_behindStep 179 = .ok (.ifCond .eq 9, 3) := by decide +kernel
theorem dX1_behindStep_182 : decode cX1_behindStep 182 = .ok (.iload_n 2, 1) := by decide +kernel
theorem dX1_behindStep_183 : decode cX1_behindStep 183 = .ok (.iconst 1, 1) := by decide +kernel
theorem dX1_behindStep_184 : decode cX1_behindStep 184 = .ok (.iadd, 1) := by decide +kernel
theorem dX1_behindStep_185 : decode cX1_behindStep 185 = .ok (.goto 11, 3) := by decide +kernel
theorem dX1_behindStep_188 : decode cX1_behindStep 188 = .ok (.aload_n 3, 1) := by decide +kernel
theorem dX1_behindStep_189 : decode cX1_behindStep 189 = .ok (.getfield 64, 3) := by decide +kernel
theorem dX1_behindStep_192 : decode cX1_behindStep 192 = .ok (.iload_n 2, 1) := by decide +kernel
theorem dX1_behindStep_193 : decode cX1_behindStep 193 = .ok (.iaload, 1) := by decide +kernel
theorem dX1_behindStep_194 : decode cX1_behindStep 194 = .ok (.iconst 1, 1) := by decide +kernel
theorem dX1_behindStep_195 : decode cX1_behindStep 195 = .ok (.iadd, 1) := by decide +kernel
theorem dX1_behindStep_196 : decode cX1_behindStep 196 = .ok (.ireturn, 1) := by decide +kernel
theorem dX1_behindStep_197 : decode cX1_behindStep 197 = .ok (.aload_n 0, 1) := by decide +kernel
theorem dX1_behindStep_198 : decode cX1_behindStep 198 = .ok (.getfield 11, 3) := by decide +kernel
theorem dX1_behindStep_201 : decode cX1_behindStep 201 = .ok (.iload_n 2, 1) := by decide +kernel
theorem dX1_behindStep_202 : decode cX1_behindStep 202 = .ok (.aload_n 3, 1) := by decide +kernel
theorem dX1_behindStep_203 : decode cX1_behindStep 203 = .ok (.getfield 81, 3) := by decide +kernel
theorem dX1_behindStep_206 : decode cX1_behindStep 206 = .ok (.iload_n 2, 1) := by decide +kernel
theorem dX1_behindStep_207 : decode cX1_behindStep 207 = .ok (.iaload, 1) := by decide +kernel
theorem dX1_behindStep_208 : decode cX1_behindStep 208 = .ok (.iastore, 1) := by decide +kernel
theorem dX1_behindStep_209 : decode cX1_behindStep 209 = .ok (.goto 8, 3) := by decide +kernel
theorem dX1_behindStep_212 : decode cX1_behindStep 212 = .ok (.aload_n 3, 1) := by decide +kernel
theorem dX1_behindStep_213 : decode cX1_behindStep 213 = .ok (.getfield 50, 3) := by decide +kernel
theorem dX1_behindStep_216 : decode cX1_behindStep 216 = .ok (.ireturn, 1) := by decide +kernel
theorem dX1_behindStep_217 : decode cX1_behindStep 217 = .ok (.iload_n 2, 1) := by decide +kernel
theorem dX1_behindStep_218 : decode cX1_behindStep 218 = .ok (.iconst 1, 1) := by decide +kernel
theorem dX1_behindStep_219 : decode cX1_behindStep 219 = .ok (.iadd, 1) := by decide +kernel
theorem dX1_behindStep_220 : decode cX1_behindStep 220 = .ok (.ireturn, 1) := by decide +kernel
abbrev M_X1_behindStep : MT := (yX1_behindStep, cX1_behindStep, 4, (some .int))
theorem cf_X1_behindStep : fq_cf M_X1_behindStep 2 := ⟨(mg_1 (List.mem_of_getElem? (i := 14) rfl) rfl), (mg_6 (List.mem_of_getElem? (i := 106) rfl) rfl), ⟨by decide, by decide, by decide +kernel⟩, by decide⟩
def B_X1_behindStep_217 (G : GT) (mc ms : Nat) (Q : Post) : Cn := ix_iload 2 (ix_pushI 1 (ix_iadd (ix_iret mc ms Q)))
theorem b_X1_behindStep_217 {l : Launch} {G : GT} {D mc ms : Nat} {Q : Post} : Imp l G M_X1_behindStep (D + 5) mc ms Q (B_X1_behindStep_217 G mc ms Q) 217 := sx_iload_n dX1_behindStep_217 rfl (sx_iconst dX1_behindStep_218 rfl (sx_iadd dX1_behindStep_219 (sx_iret dX1_behindStep_220 rfl)))
def B_X1_behindStep_196 (G : GT) (mc ms : Nat) (Q : Post) : Cn := ix_iret mc ms Q
theorem b_X1_behindStep_196 {l : Launch} {G : GT} {D mc ms : Nat} {Q : Post} : Imp l G M_X1_behindStep (D + 5) mc ms Q (B_X1_behindStep_196 G mc ms Q) 196 := sx_iret dX1_behindStep_196 rfl
def B_X1_behindStep_179 (G : GT) (mc ms : Nat) (Q : Post) : Cn := ix_if_eq (ix_aload 3 (ix_getR 9 6 (ix_iload 2 (ix_iald (ix_pushI 1 (ix_iadd ((B_X1_behindStep_196 G mc ms Q)))))))) (ix_iload 2 (ix_pushI 1 (ix_iadd ((B_X1_behindStep_196 G mc ms Q)))))
theorem b_X1_behindStep_179 {l : Launch} {G : GT} {D mc ms : Nat} {Q : Post} : Imp l G M_X1_behindStep (D + 5) mc ms Q (B_X1_behindStep_179 G mc ms Q) 179 := sx_if_eq 188 dX1_behindStep_179 (by decide) (sx_aload_n dX1_behindStep_188 rfl (sx_getR dX1_behindStep_189 fl_FootQuarrel_Life_64 (fun _ _ _ => rfl) (sx_iload_n dX1_behindStep_192 rfl (sx_iald dX1_behindStep_193 (sx_iconst dX1_behindStep_194 rfl (sx_iadd dX1_behindStep_195 (b_X1_behindStep_196))))))) (sx_iload_n dX1_behindStep_182 rfl (sx_iconst dX1_behindStep_183 rfl (sx_iadd dX1_behindStep_184 (sx_goto 196 dX1_behindStep_185 (by decide) (b_X1_behindStep_196)))))
def B_X1_behindStep_170 (G : GT) (mc ms : Nat) (Q : Post) : Cn := (B_X1_behindStep_217 G mc ms Q)
theorem b_X1_behindStep_170 {l : Launch} {G : GT} {D mc ms : Nat} {Q : Post} : Imp l G M_X1_behindStep (D + 5) mc ms Q (B_X1_behindStep_170 G mc ms Q) 170 := sx_goto 217 dX1_behindStep_170 (by decide) (b_X1_behindStep_217)
def B_X1_behindStep_161 (G : GT) (mc ms : Nat) (Q : Post) : Cn := (B_X1_behindStep_217 G mc ms Q)
theorem b_X1_behindStep_161 {l : Launch} {G : GT} {D mc ms : Nat} {Q : Post} : Imp l G M_X1_behindStep (D + 5) mc ms Q (B_X1_behindStep_161 G mc ms Q) 161 := sx_goto 217 dX1_behindStep_161 (by decide) (b_X1_behindStep_217)
def B_X1_behindStep_152 (G : GT) (mc ms : Nat) (Q : Post) : Cn := (B_X1_behindStep_217 G mc ms Q)
theorem b_X1_behindStep_152 {l : Launch} {G : GT} {D mc ms : Nat} {Q : Post} : Imp l G M_X1_behindStep (D + 5) mc ms Q (B_X1_behindStep_152 G mc ms Q) 152 := sx_goto 217 dX1_behindStep_152 (by decide) (b_X1_behindStep_217)
def B_X1_behindStep_139 (G : GT) (mc ms : Nat) (Q : Post) : Cn := ix_aload 0 (ix_aload 1 (ix_aload 0 (ix_getI 1 2 (ix_aload 0 (ix_getI 1 3 (ix_vcall 1 4 0 0 mc ms (sp_X1_speak G) ((B_X1_behindStep_152 G mc ms Q))))))))
theorem b_X1_behindStep_139 {l : Launch} {G : GT} {D mc ms : Nat} {Q : Post} : Imp l G M_X1_behindStep (D + 5) mc ms Q (B_X1_behindStep_139 G mc ms Q) 139 := sx_aload_n dX1_behindStep_139 rfl (sx_aload_n dX1_behindStep_140 rfl (sx_aload_n dX1_behindStep_141 rfl (sx_getI dX1_behindStep_142 fl_FootQuarrel_Life_94 (fun _ _ _ => rfl) (sx_aload_n dX1_behindStep_145 rfl (sx_getI dX1_behindStep_146 fl_FootQuarrel_Life_97 (fun _ _ _ => rfl) (sx_vcall dX1_behindStep_149 cf_X1_speak (mg_6 (List.mem_of_getElem? (i := 107) rfl) rfl) (mg_6 (List.mem_of_getElem? (i := 109) rfl) rfl) (mg_p (List.mem_of_getElem? (i := 40) rfl) rfl) rfl c_X1_speak (b_X1_behindStep_152)))))))
def B_X1_behindStep_111 (G : GT) (mc ms : Nat) (Q : Post) : Cn := (B_X1_behindStep_217 G mc ms Q)
theorem b_X1_behindStep_111 {l : Launch} {G : GT} {D mc ms : Nat} {Q : Post} : Imp l G M_X1_behindStep (D + 5) mc ms Q (B_X1_behindStep_111 G mc ms Q) 111 := sx_goto 217 dX1_behindStep_111 (by decide) (b_X1_behindStep_217)
def B_X1_behindStep_97 (G : GT) (mc ms : Nat) (Q : Post) : Cn := (B_X1_behindStep_217 G mc ms Q)
theorem b_X1_behindStep_97 {l : Launch} {G : GT} {D mc ms : Nat} {Q : Post} : Imp l G M_X1_behindStep (D + 5) mc ms Q (B_X1_behindStep_97 G mc ms Q) 97 := sx_goto 217 dX1_behindStep_97 (by decide) (b_X1_behindStep_217)
def B_X1_behindStep_89 (G : GT) (mc ms : Nat) (Q : Post) : Cn := (B_X1_behindStep_217 G mc ms Q)
theorem b_X1_behindStep_89 {l : Launch} {G : GT} {D mc ms : Nat} {Q : Post} : Imp l G M_X1_behindStep (D + 5) mc ms Q (B_X1_behindStep_89 G mc ms Q) 89 := sx_goto 217 dX1_behindStep_89 (by decide) (b_X1_behindStep_217)
def B_X1_behindStep_0 (G : GT) (mc ms : Nat) (Q : Post) : Cn := ix_aload 1 (ix_getR 6 3 (ix_astore 3 (ix_aload 3 (ix_getR 9 0 (ix_iload 2 (ix_iald (ix_tsw 12 [ix_aload 0 (ix_aload 1 (ix_aload 3 (ix_getR 9 2 (ix_iload 2 (ix_iald (ix_aload 3 (ix_getR 9 3 (ix_iload 2 (ix_iald (ix_vcall 1 4 0 0 mc ms (sp_X1_speak G) ((B_X1_behindStep_89 G mc ms Q)))))))))))), ix_aload 0 (ix_aload 1 (ix_vcall 1 2 0 0 mc ms (sp_X1_regret G) ((B_X1_behindStep_97 G mc ms Q)))), ix_aload 0 (ix_aload 1 (ix_aload 3 (ix_getR 9 5 (ix_iload 2 (ix_iald (ix_vcall 1 3 0 0 mc ms (sp_X1_sleep G) ((B_X1_behindStep_111 G mc ms Q)))))))), ix_aload 0 (ix_aload 1 (ix_pushI 1 (ix_vcall 1 3 0 0 mc ms (sp_X1_turnWeather G) ((B_X1_behindStep_161 G mc ms Q))))), ix_aload 0 (ix_aload 1 (ix_pushI 0 (ix_vcall 1 3 0 0 mc ms (sp_X1_turnWeather G) ((B_X1_behindStep_170 G mc ms Q))))), ix_aload 1 (ix_getI 6 6 (ix_if_ne (ix_aload 0 (ix_aload 1 (ix_vcall 1 2 0 0 mc ms (sp_X1_drawMeeting G) ((B_X1_behindStep_139 G mc ms Q))))) (ix_aload 0 (ix_dupR (ix_getI 1 5 (ix_pushI 1 (ix_iadd (ix_putI 1 5 ((B_X1_behindStep_217 G mc ms Q)))))))))), ix_aload 0 (ix_aload 1 (ix_iload 2 (ix_vcall 1 3 0 0 mc ms (sp_X1_holds G) ((B_X1_behindStep_179 G mc ms Q))))), (B_X1_behindStep_217 G mc ms Q), (B_X1_behindStep_217 G mc ms Q), ix_aload 0 (ix_getR 1 0 (ix_iload 2 (ix_aload 3 (ix_getR 9 5 (ix_iload 2 (ix_iald (ix_iast ((B_X1_behindStep_217 G mc ms Q))))))))), (B_X1_behindStep_217 G mc ms Q), ix_aload 3 (ix_getI 9 7 (ix_iret mc ms Q))] ((B_X1_behindStep_217 G mc ms Q)))))))))
theorem b_X1_behindStep_0 {l : Launch} {G : GT} {D mc ms : Nat} {Q : Post} : Imp l G M_X1_behindStep (D + 5) mc ms Q (B_X1_behindStep_0 G mc ms Q) 0 := sx_aload_n dX1_behindStep_0 rfl (sx_getR dX1_behindStep_1 fl_FootQuarrel_Life_43 (fun _ _ _ => rfl) (sx_astore_n dX1_behindStep_4 rfl (by decide) (sx_aload_n dX1_behindStep_5 rfl (sx_getR dX1_behindStep_6 fl_FootQuarrel_Life_53 (fun _ _ _ => rfl) (sx_iload_n dX1_behindStep_9 rfl (sx_iald dX1_behindStep_10 (sx_tswA [72, 92, 100, 155, 164, 114, 173, 217, 217, 197, 217, 212] 217 dX1_behindStep_11 rfl (by decide) (by decide) (by decide) ⟨sx_aload_n dX1_behindStep_72 rfl (sx_aload_n dX1_behindStep_73 rfl (sx_aload_n dX1_behindStep_74 rfl (sx_getR dX1_behindStep_75 fl_FootQuarrel_Life_67 (fun _ _ _ => rfl) (sx_iload_n dX1_behindStep_78 rfl (sx_iald dX1_behindStep_79 (sx_aload_n dX1_behindStep_80 rfl (sx_getR dX1_behindStep_81 fl_FootQuarrel_Life_70 (fun _ _ _ => rfl) (sx_iload_n dX1_behindStep_84 rfl (sx_iald dX1_behindStep_85 (sx_vcall dX1_behindStep_86 cf_X1_speak (mg_6 (List.mem_of_getElem? (i := 107) rfl) rfl) (mg_6 (List.mem_of_getElem? (i := 109) rfl) rfl) (mg_p (List.mem_of_getElem? (i := 40) rfl) rfl) rfl c_X1_speak (b_X1_behindStep_89))))))))))), ⟨sx_aload_n dX1_behindStep_92 rfl (sx_aload_n dX1_behindStep_93 rfl (sx_vcall dX1_behindStep_94 cf_X1_regret (mg_6 (List.mem_of_getElem? (i := 113) rfl) rfl) (mg_6 (List.mem_of_getElem? (i := 115) rfl) rfl) (mg_p (List.mem_of_getElem? (i := 41) rfl) rfl) rfl c_X1_regret (b_X1_behindStep_97))), ⟨sx_aload_n dX1_behindStep_100 rfl (sx_aload_n dX1_behindStep_101 rfl (sx_aload_n dX1_behindStep_102 rfl (sx_getR dX1_behindStep_103 fl_FootQuarrel_Life_81 (fun _ _ _ => rfl) (sx_iload_n dX1_behindStep_106 rfl (sx_iald dX1_behindStep_107 (sx_vcall dX1_behindStep_108 cf_X1_sleep (mg_6 (List.mem_of_getElem? (i := 119) rfl) rfl) (mg_6 (List.mem_of_getElem? (i := 121) rfl) rfl) (mg_p (List.mem_of_getElem? (i := 42) rfl) rfl) rfl c_X1_sleep (b_X1_behindStep_111))))))), ⟨sx_aload_n dX1_behindStep_155 rfl (sx_aload_n dX1_behindStep_156 rfl (sx_iconst dX1_behindStep_157 rfl (sx_vcall dX1_behindStep_158 cf_X1_turnWeather (mg_6 (List.mem_of_getElem? (i := 133) rfl) rfl) (mg_6 (List.mem_of_getElem? (i := 135) rfl) rfl) (mg_p (List.mem_of_getElem? (i := 45) rfl) rfl) rfl c_X1_turnWeather (b_X1_behindStep_161)))), ⟨sx_aload_n dX1_behindStep_164 rfl (sx_aload_n dX1_behindStep_165 rfl (sx_iconst dX1_behindStep_166 rfl (sx_vcall dX1_behindStep_167 cf_X1_turnWeather (mg_6 (List.mem_of_getElem? (i := 133) rfl) rfl) (mg_6 (List.mem_of_getElem? (i := 135) rfl) rfl) (mg_p (List.mem_of_getElem? (i := 45) rfl) rfl) rfl c_X1_turnWeather (b_X1_behindStep_170)))), ⟨sx_aload_n dX1_behindStep_114 rfl (sx_getI dX1_behindStep_115 fl_FootQuarrel_Life_88 (fun _ _ _ => rfl) (sx_if_ne 134 dX1_behindStep_118 (by decide) (sx_aload_n dX1_behindStep_134 rfl (sx_aload_n dX1_behindStep_135 rfl (sx_vcall dX1_behindStep_136 cf_X1_drawMeeting (mg_6 (List.mem_of_getElem? (i := 124) rfl) rfl) (mg_6 (List.mem_of_getElem? (i := 126) rfl) rfl) (mg_p (List.mem_of_getElem? (i := 43) rfl) rfl) rfl c_X1_drawMeeting (b_X1_behindStep_139)))) (sx_aload_n dX1_behindStep_121 rfl (sx_dupR dX1_behindStep_122 (sx_getI dX1_behindStep_123 fl_FootQuarrel_Life_24 (fun _ _ _ => rfl) (sx_iconst dX1_behindStep_126 rfl (sx_iadd dX1_behindStep_127 (sx_putI dX1_behindStep_128 fl_FootQuarrel_Life_24 (by decide) (fun _ _ _ => rfl) (fun _ => ⟨rfl, rfl⟩) (sx_goto 217 dX1_behindStep_131 (by decide) (b_X1_behindStep_217)))))))))), ⟨sx_aload_n dX1_behindStep_173 rfl (sx_aload_n dX1_behindStep_174 rfl (sx_iload_n dX1_behindStep_175 rfl (sx_vcall dX1_behindStep_176 cf_X1_holds (mg_6 (List.mem_of_getElem? (i := 137) rfl) rfl) (mg_6 (List.mem_of_getElem? (i := 139) rfl) rfl) (mg_p (List.mem_of_getElem? (i := 46) rfl) rfl) rfl c_X1_holds (b_X1_behindStep_179)))), ⟨b_X1_behindStep_217, ⟨b_X1_behindStep_217, ⟨sx_aload_n dX1_behindStep_197 rfl (sx_getR dX1_behindStep_198 fl_FootQuarrel_Life_11 (fun _ _ _ => rfl) (sx_iload_n dX1_behindStep_201 rfl (sx_aload_n dX1_behindStep_202 rfl (sx_getR dX1_behindStep_203 fl_FootQuarrel_Life_81 (fun _ _ _ => rfl) (sx_iload_n dX1_behindStep_206 rfl (sx_iald dX1_behindStep_207 (sx_iast dX1_behindStep_208 (sx_goto 217 dX1_behindStep_209 (by decide) (b_X1_behindStep_217))))))))), ⟨b_X1_behindStep_217, ⟨sx_aload_n dX1_behindStep_212 rfl (sx_getI dX1_behindStep_213 fl_FootQuarrel_Life_50 (fun _ _ _ => rfl) (sx_iret dX1_behindStep_216 rfl)), trivial⟩⟩⟩⟩⟩⟩⟩⟩⟩⟩⟩⟩ (b_X1_behindStep_217))))))))
def sp_X1_behindStep (G : GT) : Sp := fun as S I J z Q => match as with
  | [.ref a, .ref b, .int c] => ∃ (L s : Nat) (A : Nat → Int32) (N k d : Nat), L = a ∧ s = b ∧ c = nI k ∧ lfS S L s ∧ svR I s A N ∧ k < N ∧ ¬ A (226 + 6 * k) = 20 ∧ I L 1 = nI d ∧ d < 65536 ∧ ∀ I' J', lyF L s I I' J J' → svR I' s (doF A d (226 + 6 * k)).2.1 N → lsQ L I I' (doF A d (226 + 6 * k)) → I' (L + 1) = (if A (226 + 6 * k) = 19 then uA (I (L + 1)) k (A (226 + 6 * k + 1)) else I (L + 1)) → Q (some (.int (if A (226 + 6 * k) = 21 then nI N else nI (nxK (doF A d (226 + 6 * k)).2.1 k)))) S I' J' z
  | _ => False
set_option maxHeartbeats 4000000 in
set_option maxRecDepth 20000 in
theorem c_X1_behindStep {l : Launch} {G : GT} {D : Nat} : ∀ as S I J z Q, sp_X1_behindStep G as S I J z Q → fqCall l G M_X1_behindStep (D + 5) 0 0 as S I J z Q := by
  intro as S I J z Q h
  unfold sp_X1_behindStep at h
  split at h
  · next a b c =>
    obtain ⟨L, s, A, N, k, d, rfl, rfl, rfl, hl, hv, hk, n20, hd, hd6, hQ⟩ := h
    have hl0 := hl
    have hv0 := hv
    obtain ⟨l1, l2, l3, l4, hs, l5⟩ := hl
    obtain ⟨hst, hw, hb, hy, h7, hr⟩ := hv
    obtain ⟨r1, r2⟩ := hr k hk
    have hN6 := hy.1
    have hK := hy.2.1 k hk
    have hO := hK.o
    obtain ⟨dw, dr, dd⟩ := doF_ok hw hO hd6
    obtain ⟨w12, w13, w14, w15, w16, w17, w19, w20, w21, w6, w22, w23⟩ := wk_u
    -- behind all but a stop, a test and a loop
    have fin : ∀ I' J', lyF L s I I' J J' → stR I' s (doF A d (226 + 6 * k)).2.1 → bqS I' s → lsQ L I I' (doF A d (226 + 6 * k)) → I' (L + 1) = I (L + 1) → ¬ A (226 + 6 * k) = 19 → ¬ A (226 + 6 * k) = 21 → ¬ 1800 ≤ A (226 + 6 * k) → B_X1_behindStep_217 G 0 0 Q [some (.ref L), some (.ref s), some (.int (nI k)), some (.ref (s + 4))] [] S I' J' z 0 0 := by
      intro I' J' f1 f2 f3 f4 f5 n19 n21 n18
      have := hQ I' J' f1 (hv0.nx f1.2.1 f2 f3 dw dr) f4 (by rw [if_neg n19]; exact f5)
      rw [if_neg n21] at this
      unfold nxK at this
      have n18' : ¬ 1800 ≤ (doF A d (226 + 6 * k)).2.1 (226 + 6 * k) := by
        rw [dr _ (by omega)]
        exact n18
      rw [if_neg (fun q => n18' q.1)] at this
      simp (disch := omega) only [B_X1_behindStep_217, nI_1, nI_add, nI_clamp, nI_pin, nI_neg, nI_nonneg, nI_leE, nI_ltE, nI_eqE, Nat.not_le, Nat.not_lt, fq_10, fq_01, fq_rr, ix_aald, ix_aast, ix_abs, ix_alen, ix_aload, ix_aret, ix_astore, ix_bald, ix_bast, ix_call, ix_cpyI, ix_cpyJ, ix_dead, ix_dup2, ix_dup2L, ix_dupI, ix_dupR, ix_dupx1, ix_getI, ix_getJ, ix_getR, ix_gfm, ix_gtab, ix_i2b, ix_i2c, ix_i2l, ix_i2s, ix_iadd, ix_iald, ix_iand, ix_iast, ix_icall, ix_icmp_eq, ix_icmp_ge, ix_icmp_gt, ix_icmp_le, ix_icmp_lt, ix_icmp_ne, ix_idiv, ix_if_eq, ix_if_ge, ix_if_gt, ix_if_le, ix_if_lt, ix_if_ne, ix_iinc, ix_iload, ix_imul, ix_ineg, ix_ior, ix_irem, ix_iret, ix_ishl, ix_ishr, ix_istore, ix_isub, ix_iushr, ix_ixor, ix_l2i, ix_ladd, ix_lald, ix_land, ix_last, ix_lcmp, ix_ldcS, ix_ldiv, ix_lload, ix_lmul, ix_lor, ix_lrem, ix_lret, ix_lshl, ix_lstore, ix_lsub, ix_lsw, ix_max, ix_min, ix_new, ix_newa, ix_nret, ix_oinit, ix_pop2L, ix_popI, ix_pushI, ix_pushL, ix_putI, ix_putJ, ix_putR, ix_putZ, ix_sbald, ix_sgetC, ix_sgetV, ix_slen, ix_strc, ix_tald, ix_tsw, ix_vcall, ix_vret, ix_zret, stL, stL2, kilL, popN, fq_sw, fq_lsw, List.map_cons, List.map_nil, List.getElem?_cons_zero, List.getElem?_cons_succ, Option.toList_some, Option.toList_none, List.cons_append, List.nil_append, List.length_cons, List.length_nil, List.sum_cons, List.sum_nil, cat_i, cat_l, cat_r, true_and, and_true, Nat.zero_add, Nat.add_zero, Nat.le_refl, Nat.zero_le, Nat.reduceAdd, Nat.reduceLeDiff, exists_eq_left', Option.some.injEq, not_true_eq_false, not_false_eq_true, false_implies, true_implies, implies_true, and_self, or_true, true_or, or_false, false_or]
      exact this
    refine fq_enter [some (.ref L), some (.ref s), some (.int (nI k)), none] (by decide +kernel) (Nat.le_of_ble_eq_true rfl) rfl (b_X1_behindStep_0 _ _ _ _ _ _ _ _ ?_)
    simp (disch := omega) only [B_X1_behindStep_0, l1, hs.k, hs.r0, hs.k1, hs.r1, hs.k2, hs.r2, hs.k3, hs.r3, hs.k4, hs.r4, hs.k12, hs.n1, hs.n2, hs.n3, hs.y0, hs.k5, hs.n5, hs.y1, hs.k6, hs.n6, hs.y2, hs.k7, hs.n7, hs.y3, hs.k8, hs.n8, hs.y4, hs.k9, hs.n9, hs.y5, hs.k10, hs.n10, hs.y6, hs.k11, hs.n11, hs.p0, hs.p1, hs.p2, hs.k13, hs.n13, hs.q0, hs.q1, hs.k14, hs.k15, hs.k16, hs.n16, hs.k17, hs.n17, hs.rH, hs.kH, hs.rP, hs.kP, hs.rQ, hs.kQ, nI_1, nI_add, nI_clamp, nI_pin, nI_neg, nI_nonneg, nI_leE, nI_ltE, nI_eqE, Nat.not_le, Nat.not_lt, fq_10, fq_01, fq_rr, ix_aald, ix_aast, ix_abs, ix_alen, ix_aload, ix_aret, ix_astore, ix_bald, ix_bast, ix_call, ix_cpyI, ix_cpyJ, ix_dead, ix_dup2, ix_dup2L, ix_dupI, ix_dupR, ix_dupx1, ix_getI, ix_getJ, ix_getR, ix_gfm, ix_gtab, ix_i2b, ix_i2c, ix_i2l, ix_i2s, ix_iadd, ix_iald, ix_iand, ix_iast, ix_icall, ix_icmp_eq, ix_icmp_ge, ix_icmp_gt, ix_icmp_le, ix_icmp_lt, ix_icmp_ne, ix_idiv, ix_if_eq, ix_if_ge, ix_if_gt, ix_if_le, ix_if_lt, ix_if_ne, ix_iinc, ix_iload, ix_imul, ix_ineg, ix_ior, ix_irem, ix_iret, ix_ishl, ix_ishr, ix_istore, ix_isub, ix_iushr, ix_ixor, ix_l2i, ix_ladd, ix_lald, ix_land, ix_last, ix_lcmp, ix_ldcS, ix_ldiv, ix_lload, ix_lmul, ix_lor, ix_lrem, ix_lret, ix_lshl, ix_lstore, ix_lsub, ix_lsw, ix_max, ix_min, ix_new, ix_newa, ix_nret, ix_oinit, ix_pop2L, ix_popI, ix_pushI, ix_pushL, ix_putI, ix_putJ, ix_putR, ix_putZ, ix_sbald, ix_sgetC, ix_sgetV, ix_slen, ix_strc, ix_tald, ix_tsw, ix_vcall, ix_vret, ix_zret, stL, stL2, kilL, popN, List.getElem?_cons_zero, List.getElem?_cons_succ, Option.toList_some, Option.toList_none, List.cons_append, List.nil_append, List.length_cons, List.length_nil, List.sum_cons, List.sum_nil, cat_i, cat_l, cat_r, true_and, and_true, Nat.zero_add, Nat.add_zero, Nat.le_refl, Nat.zero_le, Nat.reduceAdd, Nat.reduceLeDiff, exists_eq_left', Option.some.injEq, not_true_eq_false, not_false_eq_true, false_implies, true_implies, implies_true, and_self, or_true, true_or, or_false, false_or]
    rcases r1 with ⟨kd, k1, k2, k3, e0, e5, c12, c14⟩ | ⟨e5, t, ht, e0, e6, c6⟩
    · have e0 : A (226 + 6 * k) = nI kd := e0
      have n18 : ¬ 1800 ≤ A (226 + 6 * k) := by
        rw [e0]
        intro q
        have := (nI_leI (a := 1800) (b := kd) (by omega) (by omega)).mp q
        omega
      rcases (show kd = 12 ∨ kd = 13 ∨ kd = 14 ∨ kd = 15 ∨ kd = 16 ∨ kd = 17 ∨ kd = 19 ∨ kd = 20 ∨ kd = 21 by omega) with rfl | rfl | rfl | rfl | rfl | rfl | rfl | rfl | rfl
      · refine fq_pick (i := 0) rfl (by rw [e5]; decide) ?_
        obtain ⟨c1, c2⟩ := c12 rfl
        obtain ⟨o1, o2, o3, o4⟩ := hO.1 e0
        have c1 : I (s + 7) k = nI (A (226 + 6 * k + 1)).toNatClampNeg := c1.trans o1.1
        have c2 : I (s + 8) k = nI (A (226 + 6 * k + 2)).toNatClampNeg := c2.trans o3.1
        have ed : doF A d (226 + 6 * k) = loS A d (A (226 + 6 * k + 1)).toNatClampNeg (A (226 + 6 * k + 2)).toNatClampNeg := by
          unfold doF
          rw [if_pos (show A (226 + 6 * k) = 12 from e0)]
        simp (disch := omega) only [l1, c1, c2, hs.k, hs.r0, hs.k1, hs.r1, hs.k2, hs.r2, hs.k3, hs.r3, hs.k4, hs.r4, hs.k12, hs.n1, hs.n2, hs.n3, hs.y0, hs.k5, hs.n5, hs.y1, hs.k6, hs.n6, hs.y2, hs.k7, hs.n7, hs.y3, hs.k8, hs.n8, hs.y4, hs.k9, hs.n9, hs.y5, hs.k10, hs.n10, hs.y6, hs.k11, hs.n11, hs.p0, hs.p1, hs.p2, hs.k13, hs.n13, hs.q0, hs.q1, hs.k14, hs.k15, hs.k16, hs.n16, hs.k17, hs.n17, hs.rH, hs.kH, hs.rP, hs.kP, hs.rQ, hs.kQ, nI_1, nI_add, nI_clamp, nI_pin, nI_neg, nI_nonneg, nI_leE, nI_ltE, nI_eqE, Nat.not_le, Nat.not_lt, fq_10, fq_01, fq_rr, ix_aald, ix_aast, ix_abs, ix_alen, ix_aload, ix_aret, ix_astore, ix_bald, ix_bast, ix_call, ix_cpyI, ix_cpyJ, ix_dead, ix_dup2, ix_dup2L, ix_dupI, ix_dupR, ix_dupx1, ix_getI, ix_getJ, ix_getR, ix_gfm, ix_gtab, ix_i2b, ix_i2c, ix_i2l, ix_i2s, ix_iadd, ix_iald, ix_iand, ix_iast, ix_icall, ix_icmp_eq, ix_icmp_ge, ix_icmp_gt, ix_icmp_le, ix_icmp_lt, ix_icmp_ne, ix_idiv, ix_if_eq, ix_if_ge, ix_if_gt, ix_if_le, ix_if_lt, ix_if_ne, ix_iinc, ix_iload, ix_imul, ix_ineg, ix_ior, ix_irem, ix_iret, ix_ishl, ix_ishr, ix_istore, ix_isub, ix_iushr, ix_ixor, ix_l2i, ix_ladd, ix_lald, ix_land, ix_last, ix_lcmp, ix_ldcS, ix_ldiv, ix_lload, ix_lmul, ix_lor, ix_lrem, ix_lret, ix_lshl, ix_lstore, ix_lsub, ix_lsw, ix_max, ix_min, ix_new, ix_newa, ix_nret, ix_oinit, ix_pop2L, ix_popI, ix_pushI, ix_pushL, ix_putI, ix_putJ, ix_putR, ix_putZ, ix_sbald, ix_sgetC, ix_sgetV, ix_slen, ix_strc, ix_tald, ix_tsw, ix_vcall, ix_vret, ix_zret, stL, stL2, kilL, popN, fq_sw, fq_lsw, List.map_cons, List.map_nil, List.getElem?_cons_zero, List.getElem?_cons_succ, Option.toList_some, Option.toList_none, List.cons_append, List.nil_append, List.length_cons, List.length_nil, List.sum_cons, List.sum_nil, cat_i, cat_l, cat_r, true_and, and_true, Nat.zero_add, Nat.add_zero, Nat.le_refl, Nat.zero_le, Nat.reduceAdd, Nat.reduceLeDiff, exists_eq_left', Option.some.injEq, not_true_eq_false, not_false_eq_true, false_implies, true_implies, implies_true, and_self, or_true, true_or, or_false, false_or]
        refine speak_R hl0 hst hw hb o2 o4 hd (fun I' J' f1 f2 f3 f4 f5 => ?_)
        rw [← ed] at f2 f4
        simp (disch := omega) only [B_X1_behindStep_89, nI_1, nI_add, nI_clamp, nI_pin, nI_neg, nI_nonneg, nI_leE, nI_ltE, nI_eqE, Nat.not_le, Nat.not_lt, fq_10, fq_01, fq_rr, ix_aald, ix_aast, ix_abs, ix_alen, ix_aload, ix_aret, ix_astore, ix_bald, ix_bast, ix_call, ix_cpyI, ix_cpyJ, ix_dead, ix_dup2, ix_dup2L, ix_dupI, ix_dupR, ix_dupx1, ix_getI, ix_getJ, ix_getR, ix_gfm, ix_gtab, ix_i2b, ix_i2c, ix_i2l, ix_i2s, ix_iadd, ix_iald, ix_iand, ix_iast, ix_icall, ix_icmp_eq, ix_icmp_ge, ix_icmp_gt, ix_icmp_le, ix_icmp_lt, ix_icmp_ne, ix_idiv, ix_if_eq, ix_if_ge, ix_if_gt, ix_if_le, ix_if_lt, ix_if_ne, ix_iinc, ix_iload, ix_imul, ix_ineg, ix_ior, ix_irem, ix_iret, ix_ishl, ix_ishr, ix_istore, ix_isub, ix_iushr, ix_ixor, ix_l2i, ix_ladd, ix_lald, ix_land, ix_last, ix_lcmp, ix_ldcS, ix_ldiv, ix_lload, ix_lmul, ix_lor, ix_lrem, ix_lret, ix_lshl, ix_lstore, ix_lsub, ix_lsw, ix_max, ix_min, ix_new, ix_newa, ix_nret, ix_oinit, ix_pop2L, ix_popI, ix_pushI, ix_pushL, ix_putI, ix_putJ, ix_putR, ix_putZ, ix_sbald, ix_sgetC, ix_sgetV, ix_slen, ix_strc, ix_tald, ix_tsw, ix_vcall, ix_vret, ix_zret, stL, stL2, kilL, popN, fq_sw, fq_lsw, List.map_cons, List.map_nil, List.getElem?_cons_zero, List.getElem?_cons_succ, Option.toList_some, Option.toList_none, List.cons_append, List.nil_append, List.length_cons, List.length_nil, List.sum_cons, List.sum_nil, cat_i, cat_l, cat_r, true_and, and_true, Nat.zero_add, Nat.add_zero, Nat.le_refl, Nat.zero_le, Nat.reduceAdd, Nat.reduceLeDiff, exists_eq_left', Option.some.injEq, not_true_eq_false, not_false_eq_true, false_implies, true_implies, implies_true, and_self, or_true, true_or, or_false, false_or]
        exact fin I' J' f1 f2 f3 f4 f5 (by rw [e0]; decide) (by rw [e0]; decide) n18
      · refine fq_pick (i := 1) rfl (by rw [e5]; decide) ?_
        have ed : doF A d (226 + 6 * k) = loH A d := by
          unfold doF
          rw [e0]
          rfl
        simp (disch := omega) only [l1, hs.k, hs.r0, hs.k1, hs.r1, hs.k2, hs.r2, hs.k3, hs.r3, hs.k4, hs.r4, hs.k12, hs.n1, hs.n2, hs.n3, hs.y0, hs.k5, hs.n5, hs.y1, hs.k6, hs.n6, hs.y2, hs.k7, hs.n7, hs.y3, hs.k8, hs.n8, hs.y4, hs.k9, hs.n9, hs.y5, hs.k10, hs.n10, hs.y6, hs.k11, hs.n11, hs.p0, hs.p1, hs.p2, hs.k13, hs.n13, hs.q0, hs.q1, hs.k14, hs.k15, hs.k16, hs.n16, hs.k17, hs.n17, hs.rH, hs.kH, hs.rP, hs.kP, hs.rQ, hs.kQ, nI_1, nI_add, nI_clamp, nI_pin, nI_neg, nI_nonneg, nI_leE, nI_ltE, nI_eqE, Nat.not_le, Nat.not_lt, fq_10, fq_01, fq_rr, ix_aald, ix_aast, ix_abs, ix_alen, ix_aload, ix_aret, ix_astore, ix_bald, ix_bast, ix_call, ix_cpyI, ix_cpyJ, ix_dead, ix_dup2, ix_dup2L, ix_dupI, ix_dupR, ix_dupx1, ix_getI, ix_getJ, ix_getR, ix_gfm, ix_gtab, ix_i2b, ix_i2c, ix_i2l, ix_i2s, ix_iadd, ix_iald, ix_iand, ix_iast, ix_icall, ix_icmp_eq, ix_icmp_ge, ix_icmp_gt, ix_icmp_le, ix_icmp_lt, ix_icmp_ne, ix_idiv, ix_if_eq, ix_if_ge, ix_if_gt, ix_if_le, ix_if_lt, ix_if_ne, ix_iinc, ix_iload, ix_imul, ix_ineg, ix_ior, ix_irem, ix_iret, ix_ishl, ix_ishr, ix_istore, ix_isub, ix_iushr, ix_ixor, ix_l2i, ix_ladd, ix_lald, ix_land, ix_last, ix_lcmp, ix_ldcS, ix_ldiv, ix_lload, ix_lmul, ix_lor, ix_lrem, ix_lret, ix_lshl, ix_lstore, ix_lsub, ix_lsw, ix_max, ix_min, ix_new, ix_newa, ix_nret, ix_oinit, ix_pop2L, ix_popI, ix_pushI, ix_pushL, ix_putI, ix_putJ, ix_putR, ix_putZ, ix_sbald, ix_sgetC, ix_sgetV, ix_slen, ix_strc, ix_tald, ix_tsw, ix_vcall, ix_vret, ix_zret, stL, stL2, kilL, popN, fq_sw, fq_lsw, List.map_cons, List.map_nil, List.getElem?_cons_zero, List.getElem?_cons_succ, Option.toList_some, Option.toList_none, List.cons_append, List.nil_append, List.length_cons, List.length_nil, List.sum_cons, List.sum_nil, cat_i, cat_l, cat_r, true_and, and_true, Nat.zero_add, Nat.add_zero, Nat.le_refl, Nat.zero_le, Nat.reduceAdd, Nat.reduceLeDiff, exists_eq_left', Option.some.injEq, not_true_eq_false, not_false_eq_true, false_implies, true_implies, implies_true, and_self, or_true, true_or, or_false, false_or]
        refine regretL_R hl0 hst hw hb hd (fun I' J' f1 f2 f3 f4 f5 => ?_)
        rw [← ed] at f2 f4
        simp (disch := omega) only [B_X1_behindStep_97, nI_1, nI_add, nI_clamp, nI_pin, nI_neg, nI_nonneg, nI_leE, nI_ltE, nI_eqE, Nat.not_le, Nat.not_lt, fq_10, fq_01, fq_rr, ix_aald, ix_aast, ix_abs, ix_alen, ix_aload, ix_aret, ix_astore, ix_bald, ix_bast, ix_call, ix_cpyI, ix_cpyJ, ix_dead, ix_dup2, ix_dup2L, ix_dupI, ix_dupR, ix_dupx1, ix_getI, ix_getJ, ix_getR, ix_gfm, ix_gtab, ix_i2b, ix_i2c, ix_i2l, ix_i2s, ix_iadd, ix_iald, ix_iand, ix_iast, ix_icall, ix_icmp_eq, ix_icmp_ge, ix_icmp_gt, ix_icmp_le, ix_icmp_lt, ix_icmp_ne, ix_idiv, ix_if_eq, ix_if_ge, ix_if_gt, ix_if_le, ix_if_lt, ix_if_ne, ix_iinc, ix_iload, ix_imul, ix_ineg, ix_ior, ix_irem, ix_iret, ix_ishl, ix_ishr, ix_istore, ix_isub, ix_iushr, ix_ixor, ix_l2i, ix_ladd, ix_lald, ix_land, ix_last, ix_lcmp, ix_ldcS, ix_ldiv, ix_lload, ix_lmul, ix_lor, ix_lrem, ix_lret, ix_lshl, ix_lstore, ix_lsub, ix_lsw, ix_max, ix_min, ix_new, ix_newa, ix_nret, ix_oinit, ix_pop2L, ix_popI, ix_pushI, ix_pushL, ix_putI, ix_putJ, ix_putR, ix_putZ, ix_sbald, ix_sgetC, ix_sgetV, ix_slen, ix_strc, ix_tald, ix_tsw, ix_vcall, ix_vret, ix_zret, stL, stL2, kilL, popN, fq_sw, fq_lsw, List.map_cons, List.map_nil, List.getElem?_cons_zero, List.getElem?_cons_succ, Option.toList_some, Option.toList_none, List.cons_append, List.nil_append, List.length_cons, List.length_nil, List.sum_cons, List.sum_nil, cat_i, cat_l, cat_r, true_and, and_true, Nat.zero_add, Nat.add_zero, Nat.le_refl, Nat.zero_le, Nat.reduceAdd, Nat.reduceLeDiff, exists_eq_left', Option.some.injEq, not_true_eq_false, not_false_eq_true, false_implies, true_implies, implies_true, and_self, or_true, true_or, or_false, false_or]
        exact fin I' J' f1 f2 f3 f4 f5 (by rw [e0]; decide) (by rw [e0]; decide) n18
      · refine fq_pick (i := 2) rfl (by rw [e5]; decide) ?_
        obtain ⟨n, hn, en, en2⟩ := (hO.2 e0).ex
        have c1 : I (s + 10) k = nI n := (c14 (Or.inl rfl)).trans en
        have ed : doF A d (226 + 6 * k) = loN A d n := by
          unfold doF
          rw [e0, en2]
          rfl
        simp (disch := omega) only [l1, c1, hs.k, hs.r0, hs.k1, hs.r1, hs.k2, hs.r2, hs.k3, hs.r3, hs.k4, hs.r4, hs.k12, hs.n1, hs.n2, hs.n3, hs.y0, hs.k5, hs.n5, hs.y1, hs.k6, hs.n6, hs.y2, hs.k7, hs.n7, hs.y3, hs.k8, hs.n8, hs.y4, hs.k9, hs.n9, hs.y5, hs.k10, hs.n10, hs.y6, hs.k11, hs.n11, hs.p0, hs.p1, hs.p2, hs.k13, hs.n13, hs.q0, hs.q1, hs.k14, hs.k15, hs.k16, hs.n16, hs.k17, hs.n17, hs.rH, hs.kH, hs.rP, hs.kP, hs.rQ, hs.kQ, nI_1, nI_add, nI_clamp, nI_pin, nI_neg, nI_nonneg, nI_leE, nI_ltE, nI_eqE, Nat.not_le, Nat.not_lt, fq_10, fq_01, fq_rr, ix_aald, ix_aast, ix_abs, ix_alen, ix_aload, ix_aret, ix_astore, ix_bald, ix_bast, ix_call, ix_cpyI, ix_cpyJ, ix_dead, ix_dup2, ix_dup2L, ix_dupI, ix_dupR, ix_dupx1, ix_getI, ix_getJ, ix_getR, ix_gfm, ix_gtab, ix_i2b, ix_i2c, ix_i2l, ix_i2s, ix_iadd, ix_iald, ix_iand, ix_iast, ix_icall, ix_icmp_eq, ix_icmp_ge, ix_icmp_gt, ix_icmp_le, ix_icmp_lt, ix_icmp_ne, ix_idiv, ix_if_eq, ix_if_ge, ix_if_gt, ix_if_le, ix_if_lt, ix_if_ne, ix_iinc, ix_iload, ix_imul, ix_ineg, ix_ior, ix_irem, ix_iret, ix_ishl, ix_ishr, ix_istore, ix_isub, ix_iushr, ix_ixor, ix_l2i, ix_ladd, ix_lald, ix_land, ix_last, ix_lcmp, ix_ldcS, ix_ldiv, ix_lload, ix_lmul, ix_lor, ix_lrem, ix_lret, ix_lshl, ix_lstore, ix_lsub, ix_lsw, ix_max, ix_min, ix_new, ix_newa, ix_nret, ix_oinit, ix_pop2L, ix_popI, ix_pushI, ix_pushL, ix_putI, ix_putJ, ix_putR, ix_putZ, ix_sbald, ix_sgetC, ix_sgetV, ix_slen, ix_strc, ix_tald, ix_tsw, ix_vcall, ix_vret, ix_zret, stL, stL2, kilL, popN, fq_sw, fq_lsw, List.map_cons, List.map_nil, List.getElem?_cons_zero, List.getElem?_cons_succ, Option.toList_some, Option.toList_none, List.cons_append, List.nil_append, List.length_cons, List.length_nil, List.sum_cons, List.sum_nil, cat_i, cat_l, cat_r, true_and, and_true, Nat.zero_add, Nat.add_zero, Nat.le_refl, Nat.zero_le, Nat.reduceAdd, Nat.reduceLeDiff, exists_eq_left', Option.some.injEq, not_true_eq_false, not_false_eq_true, false_implies, true_implies, implies_true, and_self, or_true, true_or, or_false, false_or]
        refine sleepL_R hl0 hst hw hb hd hn (fun I' J' f1 f2 f3 f4 f5 => ?_)
        rw [← ed] at f2 f4
        simp (disch := omega) only [B_X1_behindStep_111, nI_1, nI_add, nI_clamp, nI_pin, nI_neg, nI_nonneg, nI_leE, nI_ltE, nI_eqE, Nat.not_le, Nat.not_lt, fq_10, fq_01, fq_rr, ix_aald, ix_aast, ix_abs, ix_alen, ix_aload, ix_aret, ix_astore, ix_bald, ix_bast, ix_call, ix_cpyI, ix_cpyJ, ix_dead, ix_dup2, ix_dup2L, ix_dupI, ix_dupR, ix_dupx1, ix_getI, ix_getJ, ix_getR, ix_gfm, ix_gtab, ix_i2b, ix_i2c, ix_i2l, ix_i2s, ix_iadd, ix_iald, ix_iand, ix_iast, ix_icall, ix_icmp_eq, ix_icmp_ge, ix_icmp_gt, ix_icmp_le, ix_icmp_lt, ix_icmp_ne, ix_idiv, ix_if_eq, ix_if_ge, ix_if_gt, ix_if_le, ix_if_lt, ix_if_ne, ix_iinc, ix_iload, ix_imul, ix_ineg, ix_ior, ix_irem, ix_iret, ix_ishl, ix_ishr, ix_istore, ix_isub, ix_iushr, ix_ixor, ix_l2i, ix_ladd, ix_lald, ix_land, ix_last, ix_lcmp, ix_ldcS, ix_ldiv, ix_lload, ix_lmul, ix_lor, ix_lrem, ix_lret, ix_lshl, ix_lstore, ix_lsub, ix_lsw, ix_max, ix_min, ix_new, ix_newa, ix_nret, ix_oinit, ix_pop2L, ix_popI, ix_pushI, ix_pushL, ix_putI, ix_putJ, ix_putR, ix_putZ, ix_sbald, ix_sgetC, ix_sgetV, ix_slen, ix_strc, ix_tald, ix_tsw, ix_vcall, ix_vret, ix_zret, stL, stL2, kilL, popN, fq_sw, fq_lsw, List.map_cons, List.map_nil, List.getElem?_cons_zero, List.getElem?_cons_succ, Option.toList_some, Option.toList_none, List.cons_append, List.nil_append, List.length_cons, List.length_nil, List.sum_cons, List.sum_nil, cat_i, cat_l, cat_r, true_and, and_true, Nat.zero_add, Nat.add_zero, Nat.le_refl, Nat.zero_le, Nat.reduceAdd, Nat.reduceLeDiff, exists_eq_left', Option.some.injEq, not_true_eq_false, not_false_eq_true, false_implies, true_implies, implies_true, and_self, or_true, true_or, or_false, false_or]
        exact fin I' J' f1 f2 f3 f4 f5 (by rw [e0]; decide) (by rw [e0]; decide) n18
      · refine fq_pick (i := 3) rfl (by rw [e5]; decide) ?_
        have ed : doF A d (226 + 6 * k) = loW A d 1 := by
          unfold doF
          rw [e0]
          rfl
        simp (disch := omega) only [l1, hs.k, hs.r0, hs.k1, hs.r1, hs.k2, hs.r2, hs.k3, hs.r3, hs.k4, hs.r4, hs.k12, hs.n1, hs.n2, hs.n3, hs.y0, hs.k5, hs.n5, hs.y1, hs.k6, hs.n6, hs.y2, hs.k7, hs.n7, hs.y3, hs.k8, hs.n8, hs.y4, hs.k9, hs.n9, hs.y5, hs.k10, hs.n10, hs.y6, hs.k11, hs.n11, hs.p0, hs.p1, hs.p2, hs.k13, hs.n13, hs.q0, hs.q1, hs.k14, hs.k15, hs.k16, hs.n16, hs.k17, hs.n17, hs.rH, hs.kH, hs.rP, hs.kP, hs.rQ, hs.kQ, nI_1, nI_add, nI_clamp, nI_pin, nI_neg, nI_nonneg, nI_leE, nI_ltE, nI_eqE, Nat.not_le, Nat.not_lt, fq_10, fq_01, fq_rr, ix_aald, ix_aast, ix_abs, ix_alen, ix_aload, ix_aret, ix_astore, ix_bald, ix_bast, ix_call, ix_cpyI, ix_cpyJ, ix_dead, ix_dup2, ix_dup2L, ix_dupI, ix_dupR, ix_dupx1, ix_getI, ix_getJ, ix_getR, ix_gfm, ix_gtab, ix_i2b, ix_i2c, ix_i2l, ix_i2s, ix_iadd, ix_iald, ix_iand, ix_iast, ix_icall, ix_icmp_eq, ix_icmp_ge, ix_icmp_gt, ix_icmp_le, ix_icmp_lt, ix_icmp_ne, ix_idiv, ix_if_eq, ix_if_ge, ix_if_gt, ix_if_le, ix_if_lt, ix_if_ne, ix_iinc, ix_iload, ix_imul, ix_ineg, ix_ior, ix_irem, ix_iret, ix_ishl, ix_ishr, ix_istore, ix_isub, ix_iushr, ix_ixor, ix_l2i, ix_ladd, ix_lald, ix_land, ix_last, ix_lcmp, ix_ldcS, ix_ldiv, ix_lload, ix_lmul, ix_lor, ix_lrem, ix_lret, ix_lshl, ix_lstore, ix_lsub, ix_lsw, ix_max, ix_min, ix_new, ix_newa, ix_nret, ix_oinit, ix_pop2L, ix_popI, ix_pushI, ix_pushL, ix_putI, ix_putJ, ix_putR, ix_putZ, ix_sbald, ix_sgetC, ix_sgetV, ix_slen, ix_strc, ix_tald, ix_tsw, ix_vcall, ix_vret, ix_zret, stL, stL2, kilL, popN, fq_sw, fq_lsw, List.map_cons, List.map_nil, List.getElem?_cons_zero, List.getElem?_cons_succ, Option.toList_some, Option.toList_none, List.cons_append, List.nil_append, List.length_cons, List.length_nil, List.sum_cons, List.sum_nil, cat_i, cat_l, cat_r, true_and, and_true, Nat.zero_add, Nat.add_zero, Nat.le_refl, Nat.zero_le, Nat.reduceAdd, Nat.reduceLeDiff, exists_eq_left', Option.some.injEq, not_true_eq_false, not_false_eq_true, false_implies, true_implies, implies_true, and_self, or_true, true_or, or_false, false_or]
        refine weather_R hl0 hst hb hd (Or.inr rfl) (fun I' J' f1 f2 f3 f4 f5 => ?_)
        rw [← ed] at f2 f4
        simp (disch := omega) only [B_X1_behindStep_161, nI_1, nI_add, nI_clamp, nI_pin, nI_neg, nI_nonneg, nI_leE, nI_ltE, nI_eqE, Nat.not_le, Nat.not_lt, fq_10, fq_01, fq_rr, ix_aald, ix_aast, ix_abs, ix_alen, ix_aload, ix_aret, ix_astore, ix_bald, ix_bast, ix_call, ix_cpyI, ix_cpyJ, ix_dead, ix_dup2, ix_dup2L, ix_dupI, ix_dupR, ix_dupx1, ix_getI, ix_getJ, ix_getR, ix_gfm, ix_gtab, ix_i2b, ix_i2c, ix_i2l, ix_i2s, ix_iadd, ix_iald, ix_iand, ix_iast, ix_icall, ix_icmp_eq, ix_icmp_ge, ix_icmp_gt, ix_icmp_le, ix_icmp_lt, ix_icmp_ne, ix_idiv, ix_if_eq, ix_if_ge, ix_if_gt, ix_if_le, ix_if_lt, ix_if_ne, ix_iinc, ix_iload, ix_imul, ix_ineg, ix_ior, ix_irem, ix_iret, ix_ishl, ix_ishr, ix_istore, ix_isub, ix_iushr, ix_ixor, ix_l2i, ix_ladd, ix_lald, ix_land, ix_last, ix_lcmp, ix_ldcS, ix_ldiv, ix_lload, ix_lmul, ix_lor, ix_lrem, ix_lret, ix_lshl, ix_lstore, ix_lsub, ix_lsw, ix_max, ix_min, ix_new, ix_newa, ix_nret, ix_oinit, ix_pop2L, ix_popI, ix_pushI, ix_pushL, ix_putI, ix_putJ, ix_putR, ix_putZ, ix_sbald, ix_sgetC, ix_sgetV, ix_slen, ix_strc, ix_tald, ix_tsw, ix_vcall, ix_vret, ix_zret, stL, stL2, kilL, popN, fq_sw, fq_lsw, List.map_cons, List.map_nil, List.getElem?_cons_zero, List.getElem?_cons_succ, Option.toList_some, Option.toList_none, List.cons_append, List.nil_append, List.length_cons, List.length_nil, List.sum_cons, List.sum_nil, cat_i, cat_l, cat_r, true_and, and_true, Nat.zero_add, Nat.add_zero, Nat.le_refl, Nat.zero_le, Nat.reduceAdd, Nat.reduceLeDiff, exists_eq_left', Option.some.injEq, not_true_eq_false, not_false_eq_true, false_implies, true_implies, implies_true, and_self, or_true, true_or, or_false, false_or]
        exact fin I' J' f1 f2 f3 f4 f5 (by rw [e0]; decide) (by rw [e0]; decide) n18
      · refine fq_pick (i := 4) rfl (by rw [e5]; decide) ?_
        have ed : doF A d (226 + 6 * k) = loW A d 0 := by
          unfold doF
          rw [e0]
          rfl
        simp (disch := omega) only [l1, hs.k, hs.r0, hs.k1, hs.r1, hs.k2, hs.r2, hs.k3, hs.r3, hs.k4, hs.r4, hs.k12, hs.n1, hs.n2, hs.n3, hs.y0, hs.k5, hs.n5, hs.y1, hs.k6, hs.n6, hs.y2, hs.k7, hs.n7, hs.y3, hs.k8, hs.n8, hs.y4, hs.k9, hs.n9, hs.y5, hs.k10, hs.n10, hs.y6, hs.k11, hs.n11, hs.p0, hs.p1, hs.p2, hs.k13, hs.n13, hs.q0, hs.q1, hs.k14, hs.k15, hs.k16, hs.n16, hs.k17, hs.n17, hs.rH, hs.kH, hs.rP, hs.kP, hs.rQ, hs.kQ, nI_1, nI_add, nI_clamp, nI_pin, nI_neg, nI_nonneg, nI_leE, nI_ltE, nI_eqE, Nat.not_le, Nat.not_lt, fq_10, fq_01, fq_rr, ix_aald, ix_aast, ix_abs, ix_alen, ix_aload, ix_aret, ix_astore, ix_bald, ix_bast, ix_call, ix_cpyI, ix_cpyJ, ix_dead, ix_dup2, ix_dup2L, ix_dupI, ix_dupR, ix_dupx1, ix_getI, ix_getJ, ix_getR, ix_gfm, ix_gtab, ix_i2b, ix_i2c, ix_i2l, ix_i2s, ix_iadd, ix_iald, ix_iand, ix_iast, ix_icall, ix_icmp_eq, ix_icmp_ge, ix_icmp_gt, ix_icmp_le, ix_icmp_lt, ix_icmp_ne, ix_idiv, ix_if_eq, ix_if_ge, ix_if_gt, ix_if_le, ix_if_lt, ix_if_ne, ix_iinc, ix_iload, ix_imul, ix_ineg, ix_ior, ix_irem, ix_iret, ix_ishl, ix_ishr, ix_istore, ix_isub, ix_iushr, ix_ixor, ix_l2i, ix_ladd, ix_lald, ix_land, ix_last, ix_lcmp, ix_ldcS, ix_ldiv, ix_lload, ix_lmul, ix_lor, ix_lrem, ix_lret, ix_lshl, ix_lstore, ix_lsub, ix_lsw, ix_max, ix_min, ix_new, ix_newa, ix_nret, ix_oinit, ix_pop2L, ix_popI, ix_pushI, ix_pushL, ix_putI, ix_putJ, ix_putR, ix_putZ, ix_sbald, ix_sgetC, ix_sgetV, ix_slen, ix_strc, ix_tald, ix_tsw, ix_vcall, ix_vret, ix_zret, stL, stL2, kilL, popN, fq_sw, fq_lsw, List.map_cons, List.map_nil, List.getElem?_cons_zero, List.getElem?_cons_succ, Option.toList_some, Option.toList_none, List.cons_append, List.nil_append, List.length_cons, List.length_nil, List.sum_cons, List.sum_nil, cat_i, cat_l, cat_r, true_and, and_true, Nat.zero_add, Nat.add_zero, Nat.le_refl, Nat.zero_le, Nat.reduceAdd, Nat.reduceLeDiff, exists_eq_left', Option.some.injEq, not_true_eq_false, not_false_eq_true, false_implies, true_implies, implies_true, and_self, or_true, true_or, or_false, false_or]
        refine weather_R hl0 hst hb hd (Or.inl rfl) (fun I' J' f1 f2 f3 f4 f5 => ?_)
        rw [← ed] at f2 f4
        simp (disch := omega) only [B_X1_behindStep_170, nI_1, nI_add, nI_clamp, nI_pin, nI_neg, nI_nonneg, nI_leE, nI_ltE, nI_eqE, Nat.not_le, Nat.not_lt, fq_10, fq_01, fq_rr, ix_aald, ix_aast, ix_abs, ix_alen, ix_aload, ix_aret, ix_astore, ix_bald, ix_bast, ix_call, ix_cpyI, ix_cpyJ, ix_dead, ix_dup2, ix_dup2L, ix_dupI, ix_dupR, ix_dupx1, ix_getI, ix_getJ, ix_getR, ix_gfm, ix_gtab, ix_i2b, ix_i2c, ix_i2l, ix_i2s, ix_iadd, ix_iald, ix_iand, ix_iast, ix_icall, ix_icmp_eq, ix_icmp_ge, ix_icmp_gt, ix_icmp_le, ix_icmp_lt, ix_icmp_ne, ix_idiv, ix_if_eq, ix_if_ge, ix_if_gt, ix_if_le, ix_if_lt, ix_if_ne, ix_iinc, ix_iload, ix_imul, ix_ineg, ix_ior, ix_irem, ix_iret, ix_ishl, ix_ishr, ix_istore, ix_isub, ix_iushr, ix_ixor, ix_l2i, ix_ladd, ix_lald, ix_land, ix_last, ix_lcmp, ix_ldcS, ix_ldiv, ix_lload, ix_lmul, ix_lor, ix_lrem, ix_lret, ix_lshl, ix_lstore, ix_lsub, ix_lsw, ix_max, ix_min, ix_new, ix_newa, ix_nret, ix_oinit, ix_pop2L, ix_popI, ix_pushI, ix_pushL, ix_putI, ix_putJ, ix_putR, ix_putZ, ix_sbald, ix_sgetC, ix_sgetV, ix_slen, ix_strc, ix_tald, ix_tsw, ix_vcall, ix_vret, ix_zret, stL, stL2, kilL, popN, fq_sw, fq_lsw, List.map_cons, List.map_nil, List.getElem?_cons_zero, List.getElem?_cons_succ, Option.toList_some, Option.toList_none, List.cons_append, List.nil_append, List.length_cons, List.length_nil, List.sum_cons, List.sum_nil, cat_i, cat_l, cat_r, true_and, and_true, Nat.zero_add, Nat.add_zero, Nat.le_refl, Nat.zero_le, Nat.reduceAdd, Nat.reduceLeDiff, exists_eq_left', Option.some.injEq, not_true_eq_false, not_false_eq_true, false_implies, true_implies, implies_true, and_self, or_true, true_or, or_false, false_or]
        exact fin I' J' f1 f2 f3 f4 f5 (by rw [e0]; decide) (by rw [e0]; decide) n18
      · refine fq_pick (i := 5) rfl (by rw [e5]; decide) ?_
        have ed : doF A d (226 + 6 * k) = loY A d := by
          unfold doF
          rw [e0]
          rfl
        have s6 : I s 6 = A 1 := hst.2.1.2.1
        simp (disch := omega) only [l1, s6, hs.k, hs.r0, hs.k1, hs.r1, hs.k2, hs.r2, hs.k3, hs.r3, hs.k4, hs.r4, hs.k12, hs.n1, hs.n2, hs.n3, hs.y0, hs.k5, hs.n5, hs.y1, hs.k6, hs.n6, hs.y2, hs.k7, hs.n7, hs.y3, hs.k8, hs.n8, hs.y4, hs.k9, hs.n9, hs.y5, hs.k10, hs.n10, hs.y6, hs.k11, hs.n11, hs.p0, hs.p1, hs.p2, hs.k13, hs.n13, hs.q0, hs.q1, hs.k14, hs.k15, hs.k16, hs.n16, hs.k17, hs.n17, hs.rH, hs.kH, hs.rP, hs.kP, hs.rQ, hs.kQ, nI_1, nI_add, nI_clamp, nI_pin, nI_neg, nI_nonneg, nI_leE, nI_ltE, nI_eqE, Nat.not_le, Nat.not_lt, fq_10, fq_01, fq_rr, ix_aald, ix_aast, ix_abs, ix_alen, ix_aload, ix_aret, ix_astore, ix_bald, ix_bast, ix_call, ix_cpyI, ix_cpyJ, ix_dead, ix_dup2, ix_dup2L, ix_dupI, ix_dupR, ix_dupx1, ix_getI, ix_getJ, ix_getR, ix_gfm, ix_gtab, ix_i2b, ix_i2c, ix_i2l, ix_i2s, ix_iadd, ix_iald, ix_iand, ix_iast, ix_icall, ix_icmp_eq, ix_icmp_ge, ix_icmp_gt, ix_icmp_le, ix_icmp_lt, ix_icmp_ne, ix_idiv, ix_if_eq, ix_if_ge, ix_if_gt, ix_if_le, ix_if_lt, ix_if_ne, ix_iinc, ix_iload, ix_imul, ix_ineg, ix_ior, ix_irem, ix_iret, ix_ishl, ix_ishr, ix_istore, ix_isub, ix_iushr, ix_ixor, ix_l2i, ix_ladd, ix_lald, ix_land, ix_last, ix_lcmp, ix_ldcS, ix_ldiv, ix_lload, ix_lmul, ix_lor, ix_lrem, ix_lret, ix_lshl, ix_lstore, ix_lsub, ix_lsw, ix_max, ix_min, ix_new, ix_newa, ix_nret, ix_oinit, ix_pop2L, ix_popI, ix_pushI, ix_pushL, ix_putI, ix_putJ, ix_putR, ix_putZ, ix_sbald, ix_sgetC, ix_sgetV, ix_slen, ix_strc, ix_tald, ix_tsw, ix_vcall, ix_vret, ix_zret, stL, stL2, kilL, popN, fq_sw, fq_lsw, List.map_cons, List.map_nil, List.getElem?_cons_zero, List.getElem?_cons_succ, Option.toList_some, Option.toList_none, List.cons_append, List.nil_append, List.length_cons, List.length_nil, List.sum_cons, List.sum_nil, cat_i, cat_l, cat_r, true_and, and_true, Nat.zero_add, Nat.add_zero, Nat.le_refl, Nat.zero_le, Nat.reduceAdd, Nat.reduceLeDiff, exists_eq_left', Option.some.injEq, not_true_eq_false, not_false_eq_true, false_implies, true_implies, implies_true, and_self, or_true, true_or, or_false, false_or]
        refine ⟨fun g => ?_, fun g => ?_⟩
        · have ed2 : doF A d (226 + 6 * k) = loS (uA A 7 (bI (nI (fd d / 8 % 16) < A 5))) (fd (fd (fd d))) (fd (fd d) / 8 % (A 1).toNatClampNeg) (fd (fd (fd d)) / 8 % (A 1).toNatClampNeg) := by
            rw [ed]
            unfold loY
            rw [if_neg g]
          refine meet_R hl0 hst hw hb hd hd6 g (fun I1 f1 f2 f3 f4 f5 f6 f7 f8 => ?_)
          have c0 : 0 < (A 1).toNatClampNeg := by
            rcases Nat.eq_zero_or_pos (A 1).toNatClampNeg with q | q
            · exact absurd (by rw [hw.2.1.1, q]; rfl) g
            · exact q
          have u1 : uA A 7 (bI (nI (fd d / 8 % 16) < A 5)) 1 = A 1 := uA_n _ _ _ _ (by omega)
          have hw1 : wfS (uA A 7 (bI (nI (fd d / 8 % 16) < A 5))) := hw.u7 (by
            unfold bI
            split
            · exact Or.inr rfl
            · exact Or.inl rfl)
          simp (disch := omega) only [B_X1_behindStep_139, l1, f5, f6, hs.k, hs.r0, hs.k1, hs.r1, hs.k2, hs.r2, hs.k3, hs.r3, hs.k4, hs.r4, hs.k12, hs.n1, hs.n2, hs.n3, hs.y0, hs.k5, hs.n5, hs.y1, hs.k6, hs.n6, hs.y2, hs.k7, hs.n7, hs.y3, hs.k8, hs.n8, hs.y4, hs.k9, hs.n9, hs.y5, hs.k10, hs.n10, hs.y6, hs.k11, hs.n11, hs.p0, hs.p1, hs.p2, hs.k13, hs.n13, hs.q0, hs.q1, hs.k14, hs.k15, hs.k16, hs.n16, hs.k17, hs.n17, hs.rH, hs.kH, hs.rP, hs.kP, hs.rQ, hs.kQ, nI_1, nI_add, nI_clamp, nI_pin, nI_neg, nI_nonneg, nI_leE, nI_ltE, nI_eqE, Nat.not_le, Nat.not_lt, fq_10, fq_01, fq_rr, ix_aald, ix_aast, ix_abs, ix_alen, ix_aload, ix_aret, ix_astore, ix_bald, ix_bast, ix_call, ix_cpyI, ix_cpyJ, ix_dead, ix_dup2, ix_dup2L, ix_dupI, ix_dupR, ix_dupx1, ix_getI, ix_getJ, ix_getR, ix_gfm, ix_gtab, ix_i2b, ix_i2c, ix_i2l, ix_i2s, ix_iadd, ix_iald, ix_iand, ix_iast, ix_icall, ix_icmp_eq, ix_icmp_ge, ix_icmp_gt, ix_icmp_le, ix_icmp_lt, ix_icmp_ne, ix_idiv, ix_if_eq, ix_if_ge, ix_if_gt, ix_if_le, ix_if_lt, ix_if_ne, ix_iinc, ix_iload, ix_imul, ix_ineg, ix_ior, ix_irem, ix_iret, ix_ishl, ix_ishr, ix_istore, ix_isub, ix_iushr, ix_ixor, ix_l2i, ix_ladd, ix_lald, ix_land, ix_last, ix_lcmp, ix_ldcS, ix_ldiv, ix_lload, ix_lmul, ix_lor, ix_lrem, ix_lret, ix_lshl, ix_lstore, ix_lsub, ix_lsw, ix_max, ix_min, ix_new, ix_newa, ix_nret, ix_oinit, ix_pop2L, ix_popI, ix_pushI, ix_pushL, ix_putI, ix_putJ, ix_putR, ix_putZ, ix_sbald, ix_sgetC, ix_sgetV, ix_slen, ix_strc, ix_tald, ix_tsw, ix_vcall, ix_vret, ix_zret, stL, stL2, kilL, popN, fq_sw, fq_lsw, List.map_cons, List.map_nil, List.getElem?_cons_zero, List.getElem?_cons_succ, Option.toList_some, Option.toList_none, List.cons_append, List.nil_append, List.length_cons, List.length_nil, List.sum_cons, List.sum_nil, cat_i, cat_l, cat_r, true_and, and_true, Nat.zero_add, Nat.add_zero, Nat.le_refl, Nat.zero_le, Nat.reduceAdd, Nat.reduceLeDiff, exists_eq_left', Option.some.injEq, not_true_eq_false, not_false_eq_true, false_implies, true_implies, implies_true, and_self, or_true, true_or, or_false, false_or]
          refine speak_R hl0 f2 hw1 f3 (by rw [u1]; exact Nat.mod_lt _ c0) (by rw [u1]; exact Nat.mod_lt _ c0) f4 (fun I' J' g1 g2 g3 g4 g5 => ?_)
          rw [← ed2] at g2 g4
          simp (disch := omega) only [B_X1_behindStep_152, nI_1, nI_add, nI_clamp, nI_pin, nI_neg, nI_nonneg, nI_leE, nI_ltE, nI_eqE, Nat.not_le, Nat.not_lt, fq_10, fq_01, fq_rr, ix_aald, ix_aast, ix_abs, ix_alen, ix_aload, ix_aret, ix_astore, ix_bald, ix_bast, ix_call, ix_cpyI, ix_cpyJ, ix_dead, ix_dup2, ix_dup2L, ix_dupI, ix_dupR, ix_dupx1, ix_getI, ix_getJ, ix_getR, ix_gfm, ix_gtab, ix_i2b, ix_i2c, ix_i2l, ix_i2s, ix_iadd, ix_iald, ix_iand, ix_iast, ix_icall, ix_icmp_eq, ix_icmp_ge, ix_icmp_gt, ix_icmp_le, ix_icmp_lt, ix_icmp_ne, ix_idiv, ix_if_eq, ix_if_ge, ix_if_gt, ix_if_le, ix_if_lt, ix_if_ne, ix_iinc, ix_iload, ix_imul, ix_ineg, ix_ior, ix_irem, ix_iret, ix_ishl, ix_ishr, ix_istore, ix_isub, ix_iushr, ix_ixor, ix_l2i, ix_ladd, ix_lald, ix_land, ix_last, ix_lcmp, ix_ldcS, ix_ldiv, ix_lload, ix_lmul, ix_lor, ix_lrem, ix_lret, ix_lshl, ix_lstore, ix_lsub, ix_lsw, ix_max, ix_min, ix_new, ix_newa, ix_nret, ix_oinit, ix_pop2L, ix_popI, ix_pushI, ix_pushL, ix_putI, ix_putJ, ix_putR, ix_putZ, ix_sbald, ix_sgetC, ix_sgetV, ix_slen, ix_strc, ix_tald, ix_tsw, ix_vcall, ix_vret, ix_zret, stL, stL2, kilL, popN, fq_sw, fq_lsw, List.map_cons, List.map_nil, List.getElem?_cons_zero, List.getElem?_cons_succ, Option.toList_some, Option.toList_none, List.cons_append, List.nil_append, List.length_cons, List.length_nil, List.sum_cons, List.sum_nil, cat_i, cat_l, cat_r, true_and, and_true, Nat.zero_add, Nat.add_zero, Nat.le_refl, Nat.zero_le, Nat.reduceAdd, Nat.reduceLeDiff, exists_eq_left', Option.some.injEq, not_true_eq_false, not_false_eq_true, false_implies, true_implies, implies_true, and_self, or_true, true_or, or_false, false_or]
          refine fin I' J' (f1.tr g1) g2 g3 ?_ (g5.trans f8) (by rw [e0]; decide) (by rw [e0]; decide) n18
          obtain ⟨a1, a2, a3, a4, a5, a6, a7, a8⟩ := g4
          exact ⟨a1, a2.trans (f7 4 (by omega)), by rw [a3, f7 5 (by omega)], by rw [a4, f7 6 (by omega)], by rw [a5, f7 7 (by omega)], by rw [a6, f7 8 (by omega)], a7.trans (f7 9 (by omega)), a8.trans (f7 10 (by omega))⟩
        · have g0 : A 1 = 0 := by first | exact g | exact Decidable.not_not.mp g
          have ed2 : doF A d (226 + 6 * k) = (false, A, d, 0, 0, 0) := by
            rw [ed]
            unfold loY
            rw [if_pos g0]
          refine fin _ J (lyF.rf.u l5 (Or.inl rfl)) ?_ (hb.ou (by omega)) ?_ (u2_ne (by omega)) (by rw [e0]; decide) (by rw [e0]; decide) n18
          · rw [ed2]
            exact hst.ou (by omega)
          · rw [ed2]
            exact lsQ.m hd
      · refine fq_pick (i := 9) rfl (by rw [e5]; decide) ?_
        have ed : doF A d (226 + 6 * k) = (true, A, d, 0, 0, 0) := by
          unfold doF
          rw [e0]
          rfl
        have c1 : I (s + 10) k = A (226 + 6 * k + 1) := c14 (Or.inr rfl)
        simp (disch := omega) only [B_X1_behindStep_217, l1, l2, l3, l4, c1, hs.k, hs.r0, hs.k1, hs.r1, hs.k2, hs.r2, hs.k3, hs.r3, hs.k4, hs.r4, hs.k12, hs.n1, hs.n2, hs.n3, hs.y0, hs.k5, hs.n5, hs.y1, hs.k6, hs.n6, hs.y2, hs.k7, hs.n7, hs.y3, hs.k8, hs.n8, hs.y4, hs.k9, hs.n9, hs.y5, hs.k10, hs.n10, hs.y6, hs.k11, hs.n11, hs.p0, hs.p1, hs.p2, hs.k13, hs.n13, hs.q0, hs.q1, hs.k14, hs.k15, hs.k16, hs.n16, hs.k17, hs.n17, hs.rH, hs.kH, hs.rP, hs.kP, hs.rQ, hs.kQ, nI_1, nI_add, nI_clamp, nI_pin, nI_neg, nI_nonneg, nI_leE, nI_ltE, nI_eqE, Nat.not_le, Nat.not_lt, fq_10, fq_01, fq_rr, ix_aald, ix_aast, ix_abs, ix_alen, ix_aload, ix_aret, ix_astore, ix_bald, ix_bast, ix_call, ix_cpyI, ix_cpyJ, ix_dead, ix_dup2, ix_dup2L, ix_dupI, ix_dupR, ix_dupx1, ix_getI, ix_getJ, ix_getR, ix_gfm, ix_gtab, ix_i2b, ix_i2c, ix_i2l, ix_i2s, ix_iadd, ix_iald, ix_iand, ix_iast, ix_icall, ix_icmp_eq, ix_icmp_ge, ix_icmp_gt, ix_icmp_le, ix_icmp_lt, ix_icmp_ne, ix_idiv, ix_if_eq, ix_if_ge, ix_if_gt, ix_if_le, ix_if_lt, ix_if_ne, ix_iinc, ix_iload, ix_imul, ix_ineg, ix_ior, ix_irem, ix_iret, ix_ishl, ix_ishr, ix_istore, ix_isub, ix_iushr, ix_ixor, ix_l2i, ix_ladd, ix_lald, ix_land, ix_last, ix_lcmp, ix_ldcS, ix_ldiv, ix_lload, ix_lmul, ix_lor, ix_lrem, ix_lret, ix_lshl, ix_lstore, ix_lsub, ix_lsw, ix_max, ix_min, ix_new, ix_newa, ix_nret, ix_oinit, ix_pop2L, ix_popI, ix_pushI, ix_pushL, ix_putI, ix_putJ, ix_putR, ix_putZ, ix_sbald, ix_sgetC, ix_sgetV, ix_slen, ix_strc, ix_tald, ix_tsw, ix_vcall, ix_vret, ix_zret, stL, stL2, kilL, popN, fq_sw, fq_lsw, List.map_cons, List.map_nil, List.getElem?_cons_zero, List.getElem?_cons_succ, Option.toList_some, Option.toList_none, List.cons_append, List.nil_append, List.length_cons, List.length_nil, List.sum_cons, List.sum_nil, cat_i, cat_l, cat_r, true_and, and_true, Nat.zero_add, Nat.add_zero, Nat.le_refl, Nat.zero_le, Nat.reduceAdd, Nat.reduceLeDiff, exists_eq_left', Option.some.injEq, not_true_eq_false, not_false_eq_true, false_implies, true_implies, implies_true, and_self, or_true, true_or, or_false, false_or]
        have := hQ (u2 I (L + 1) k (A (226 + 6 * k + 1))) J (lyF.rf.u l5 (Or.inr (Or.inl rfl))) (by rw [ed]; exact hv0.nx (fun a h1 h2 => u2_ne (by omega)) (hst.ou (by omega)) (hb.ou (by omega)) hw (fun _ _ => rfl)) (by rw [ed]; exact (lsQ.z hd).cg (u2_ne (by omega))) (by
          rw [if_pos (show A (226 + 6 * k) = 19 from e0)]
          funext j
          unfold u2 uA
          by_cases q : j = k
          · rw [if_pos ⟨rfl, q⟩, if_pos q]
          · rw [if_neg (fun r => q r.2), if_neg q])
        rw [if_neg (by rw [e0]; decide), ed] at this
        unfold nxK at this
        rw [if_neg (fun q => n18 q.1)] at this
        exact this
      · exact absurd e0 n20
      · refine fq_pick (i := 11) rfl (by rw [e5]; decide) ?_
        have ed : doF A d (226 + 6 * k) = (true, A, d, 0, 0, 0) := by
          unfold doF
          rw [e0]
          rfl
        simp (disch := omega) only [l1, h7, hs.k, hs.r0, hs.k1, hs.r1, hs.k2, hs.r2, hs.k3, hs.r3, hs.k4, hs.r4, hs.k12, hs.n1, hs.n2, hs.n3, hs.y0, hs.k5, hs.n5, hs.y1, hs.k6, hs.n6, hs.y2, hs.k7, hs.n7, hs.y3, hs.k8, hs.n8, hs.y4, hs.k9, hs.n9, hs.y5, hs.k10, hs.n10, hs.y6, hs.k11, hs.n11, hs.p0, hs.p1, hs.p2, hs.k13, hs.n13, hs.q0, hs.q1, hs.k14, hs.k15, hs.k16, hs.n16, hs.k17, hs.n17, hs.rH, hs.kH, hs.rP, hs.kP, hs.rQ, hs.kQ, nI_1, nI_add, nI_clamp, nI_pin, nI_neg, nI_nonneg, nI_leE, nI_ltE, nI_eqE, Nat.not_le, Nat.not_lt, fq_10, fq_01, fq_rr, ix_aald, ix_aast, ix_abs, ix_alen, ix_aload, ix_aret, ix_astore, ix_bald, ix_bast, ix_call, ix_cpyI, ix_cpyJ, ix_dead, ix_dup2, ix_dup2L, ix_dupI, ix_dupR, ix_dupx1, ix_getI, ix_getJ, ix_getR, ix_gfm, ix_gtab, ix_i2b, ix_i2c, ix_i2l, ix_i2s, ix_iadd, ix_iald, ix_iand, ix_iast, ix_icall, ix_icmp_eq, ix_icmp_ge, ix_icmp_gt, ix_icmp_le, ix_icmp_lt, ix_icmp_ne, ix_idiv, ix_if_eq, ix_if_ge, ix_if_gt, ix_if_le, ix_if_lt, ix_if_ne, ix_iinc, ix_iload, ix_imul, ix_ineg, ix_ior, ix_irem, ix_iret, ix_ishl, ix_ishr, ix_istore, ix_isub, ix_iushr, ix_ixor, ix_l2i, ix_ladd, ix_lald, ix_land, ix_last, ix_lcmp, ix_ldcS, ix_ldiv, ix_lload, ix_lmul, ix_lor, ix_lrem, ix_lret, ix_lshl, ix_lstore, ix_lsub, ix_lsw, ix_max, ix_min, ix_new, ix_newa, ix_nret, ix_oinit, ix_pop2L, ix_popI, ix_pushI, ix_pushL, ix_putI, ix_putJ, ix_putR, ix_putZ, ix_sbald, ix_sgetC, ix_sgetV, ix_slen, ix_strc, ix_tald, ix_tsw, ix_vcall, ix_vret, ix_zret, stL, stL2, kilL, popN, fq_sw, fq_lsw, List.map_cons, List.map_nil, List.getElem?_cons_zero, List.getElem?_cons_succ, Option.toList_some, Option.toList_none, List.cons_append, List.nil_append, List.length_cons, List.length_nil, List.sum_cons, List.sum_nil, cat_i, cat_l, cat_r, true_and, and_true, Nat.zero_add, Nat.add_zero, Nat.le_refl, Nat.zero_le, Nat.reduceAdd, Nat.reduceLeDiff, exists_eq_left', Option.some.injEq, not_true_eq_false, not_false_eq_true, false_implies, true_implies, implies_true, and_self, or_true, true_or, or_false, false_or]
        have := hQ I J lyF.rf (by rw [ed]; exact hv0) (by rw [ed]; exact lsQ.z hd) (by rw [if_neg (by rw [e0]; decide)])
        rw [if_pos (show A (226 + 6 * k) = 21 from e0)] at this
        exact this
    · refine fq_pick (i := 6) rfl (by rw [e5]; decide) ?_
      have e0 : A (226 + 6 * k) = nI (1800 + t) := e0
      have ed : doF A d (226 + 6 * k) = (true, A, d, 0, 0, 0) := by
        unfold doF
        rcases ht with rfl | rfl | rfl <;> (rw [e0]; rfl)
      have g18 : 1800 ≤ A (226 + 6 * k) := by
        rw [e0]
        exact (nI_leI (a := 1800) (b := 1800 + t) (by omega) (by omega)).mpr (by omega)
      have n21 : ¬ A (226 + 6 * k) = 21 := by
        rw [e0]
        rcases ht with rfl | rfl | rfl <;> decide
      have n19 : ¬ A (226 + 6 * k) = 19 := by
        rw [e0]
        rcases ht with rfl | rfl | rfl <;> decide
      have hop : opn A k := by
        unfold opn
        rw [e0]
        rcases ht with rfl | rfl | rfl <;> decide
      have hQ1 := hQ I J lyF.rf (by rw [ed]; exact hv0) (by rw [ed]; exact lsQ.z hd) (by rw [if_neg n19])
      rw [if_neg n21, ed] at hQ1
      unfold nxK at hQ1
      obtain ⟨p, hp1, hp2, hp3⟩ : ∃ p, A (226 + 6 * k + 4) = nI p ∧ k < p ∧ p < N := by
        rcases hK with ⟨q, -⟩ | ⟨-, -, -, -, p, q1, q2, q3, -⟩ | ⟨q, -⟩
        · exact absurd q n20
        · exact ⟨p, q1, q2, q3⟩
        · unfold opn at hop
          rcases q with q | q | q | q | q | q | q <;> (rw [q] at hop; exact absurd hop (by decide))
      have e11 : I (s + 11) k = nI p := (r2 (Or.inl e5)).trans hp1
      dsimp only at hQ1
      rw [hp1, nI_clamp (by omega)] at hQ1
      simp (disch := omega) only [l1, hs.k, hs.r0, hs.k1, hs.r1, hs.k2, hs.r2, hs.k3, hs.r3, hs.k4, hs.r4, hs.k12, hs.n1, hs.n2, hs.n3, hs.y0, hs.k5, hs.n5, hs.y1, hs.k6, hs.n6, hs.y2, hs.k7, hs.n7, hs.y3, hs.k8, hs.n8, hs.y4, hs.k9, hs.n9, hs.y5, hs.k10, hs.n10, hs.y6, hs.k11, hs.n11, hs.p0, hs.p1, hs.p2, hs.k13, hs.n13, hs.q0, hs.q1, hs.k14, hs.k15, hs.k16, hs.n16, hs.k17, hs.n17, hs.rH, hs.kH, hs.rP, hs.kP, hs.rQ, hs.kQ, nI_1, nI_add, nI_clamp, nI_pin, nI_neg, nI_nonneg, nI_leE, nI_ltE, nI_eqE, Nat.not_le, Nat.not_lt, fq_10, fq_01, fq_rr, ix_aald, ix_aast, ix_abs, ix_alen, ix_aload, ix_aret, ix_astore, ix_bald, ix_bast, ix_call, ix_cpyI, ix_cpyJ, ix_dead, ix_dup2, ix_dup2L, ix_dupI, ix_dupR, ix_dupx1, ix_getI, ix_getJ, ix_getR, ix_gfm, ix_gtab, ix_i2b, ix_i2c, ix_i2l, ix_i2s, ix_iadd, ix_iald, ix_iand, ix_iast, ix_icall, ix_icmp_eq, ix_icmp_ge, ix_icmp_gt, ix_icmp_le, ix_icmp_lt, ix_icmp_ne, ix_idiv, ix_if_eq, ix_if_ge, ix_if_gt, ix_if_le, ix_if_lt, ix_if_ne, ix_iinc, ix_iload, ix_imul, ix_ineg, ix_ior, ix_irem, ix_iret, ix_ishl, ix_ishr, ix_istore, ix_isub, ix_iushr, ix_ixor, ix_l2i, ix_ladd, ix_lald, ix_land, ix_last, ix_lcmp, ix_ldcS, ix_ldiv, ix_lload, ix_lmul, ix_lor, ix_lrem, ix_lret, ix_lshl, ix_lstore, ix_lsub, ix_lsw, ix_max, ix_min, ix_new, ix_newa, ix_nret, ix_oinit, ix_pop2L, ix_popI, ix_pushI, ix_pushL, ix_putI, ix_putJ, ix_putR, ix_putZ, ix_sbald, ix_sgetC, ix_sgetV, ix_slen, ix_strc, ix_tald, ix_tsw, ix_vcall, ix_vret, ix_zret, stL, stL2, kilL, popN, fq_sw, fq_lsw, List.map_cons, List.map_nil, List.getElem?_cons_zero, List.getElem?_cons_succ, Option.toList_some, Option.toList_none, List.cons_append, List.nil_append, List.length_cons, List.length_nil, List.sum_cons, List.sum_nil, cat_i, cat_l, cat_r, true_and, and_true, Nat.zero_add, Nat.add_zero, Nat.le_refl, Nat.zero_le, Nat.reduceAdd, Nat.reduceLeDiff, exists_eq_left', Option.some.injEq, not_true_eq_false, not_false_eq_true, false_implies, true_implies, implies_true, and_self, or_true, true_or, or_false, false_or]
      refine holds_R hl0 hv0 hk ⟨t, ht, e0, e6, c6⟩ ?_
      by_cases hh : hdF A (226 + 6 * k)
      · rw [if_neg (fun q => q.2 hh)] at hQ1
        rw [bI_t hh]
        simp (disch := omega) only [B_X1_behindStep_179, B_X1_behindStep_196, hs.k, hs.r0, hs.k1, hs.r1, hs.k2, hs.r2, hs.k3, hs.r3, hs.k4, hs.r4, hs.k12, hs.n1, hs.n2, hs.n3, hs.y0, hs.k5, hs.n5, hs.y1, hs.k6, hs.n6, hs.y2, hs.k7, hs.n7, hs.y3, hs.k8, hs.n8, hs.y4, hs.k9, hs.n9, hs.y5, hs.k10, hs.n10, hs.y6, hs.k11, hs.n11, hs.p0, hs.p1, hs.p2, hs.k13, hs.n13, hs.q0, hs.q1, hs.k14, hs.k15, hs.k16, hs.n16, hs.k17, hs.n17, hs.rH, hs.kH, hs.rP, hs.kP, hs.rQ, hs.kQ, nI_1, nI_add, nI_clamp, nI_pin, nI_neg, nI_nonneg, nI_leE, nI_ltE, nI_eqE, Nat.not_le, Nat.not_lt, fq_10, fq_01, fq_rr, ix_aald, ix_aast, ix_abs, ix_alen, ix_aload, ix_aret, ix_astore, ix_bald, ix_bast, ix_call, ix_cpyI, ix_cpyJ, ix_dead, ix_dup2, ix_dup2L, ix_dupI, ix_dupR, ix_dupx1, ix_getI, ix_getJ, ix_getR, ix_gfm, ix_gtab, ix_i2b, ix_i2c, ix_i2l, ix_i2s, ix_iadd, ix_iald, ix_iand, ix_iast, ix_icall, ix_icmp_eq, ix_icmp_ge, ix_icmp_gt, ix_icmp_le, ix_icmp_lt, ix_icmp_ne, ix_idiv, ix_if_eq, ix_if_ge, ix_if_gt, ix_if_le, ix_if_lt, ix_if_ne, ix_iinc, ix_iload, ix_imul, ix_ineg, ix_ior, ix_irem, ix_iret, ix_ishl, ix_ishr, ix_istore, ix_isub, ix_iushr, ix_ixor, ix_l2i, ix_ladd, ix_lald, ix_land, ix_last, ix_lcmp, ix_ldcS, ix_ldiv, ix_lload, ix_lmul, ix_lor, ix_lrem, ix_lret, ix_lshl, ix_lstore, ix_lsub, ix_lsw, ix_max, ix_min, ix_new, ix_newa, ix_nret, ix_oinit, ix_pop2L, ix_popI, ix_pushI, ix_pushL, ix_putI, ix_putJ, ix_putR, ix_putZ, ix_sbald, ix_sgetC, ix_sgetV, ix_slen, ix_strc, ix_tald, ix_tsw, ix_vcall, ix_vret, ix_zret, stL, stL2, kilL, popN, fq_sw, fq_lsw, List.map_cons, List.map_nil, List.getElem?_cons_zero, List.getElem?_cons_succ, Option.toList_some, Option.toList_none, List.cons_append, List.nil_append, List.length_cons, List.length_nil, List.sum_cons, List.sum_nil, cat_i, cat_l, cat_r, true_and, and_true, Nat.zero_add, Nat.add_zero, Nat.le_refl, Nat.zero_le, Nat.reduceAdd, Nat.reduceLeDiff, exists_eq_left', Option.some.injEq, not_true_eq_false, not_false_eq_true, false_implies, true_implies, implies_true, and_self, or_true, true_or, or_false, false_or]
        exact hQ1
      · rw [if_pos ⟨g18, hh⟩] at hQ1
        rw [bI_f hh]
        simp (disch := omega) only [B_X1_behindStep_179, B_X1_behindStep_196, e11, hs.k, hs.r0, hs.k1, hs.r1, hs.k2, hs.r2, hs.k3, hs.r3, hs.k4, hs.r4, hs.k12, hs.n1, hs.n2, hs.n3, hs.y0, hs.k5, hs.n5, hs.y1, hs.k6, hs.n6, hs.y2, hs.k7, hs.n7, hs.y3, hs.k8, hs.n8, hs.y4, hs.k9, hs.n9, hs.y5, hs.k10, hs.n10, hs.y6, hs.k11, hs.n11, hs.p0, hs.p1, hs.p2, hs.k13, hs.n13, hs.q0, hs.q1, hs.k14, hs.k15, hs.k16, hs.n16, hs.k17, hs.n17, hs.rH, hs.kH, hs.rP, hs.kP, hs.rQ, hs.kQ, nI_1, nI_add, nI_clamp, nI_pin, nI_neg, nI_nonneg, nI_leE, nI_ltE, nI_eqE, Nat.not_le, Nat.not_lt, fq_10, fq_01, fq_rr, ix_aald, ix_aast, ix_abs, ix_alen, ix_aload, ix_aret, ix_astore, ix_bald, ix_bast, ix_call, ix_cpyI, ix_cpyJ, ix_dead, ix_dup2, ix_dup2L, ix_dupI, ix_dupR, ix_dupx1, ix_getI, ix_getJ, ix_getR, ix_gfm, ix_gtab, ix_i2b, ix_i2c, ix_i2l, ix_i2s, ix_iadd, ix_iald, ix_iand, ix_iast, ix_icall, ix_icmp_eq, ix_icmp_ge, ix_icmp_gt, ix_icmp_le, ix_icmp_lt, ix_icmp_ne, ix_idiv, ix_if_eq, ix_if_ge, ix_if_gt, ix_if_le, ix_if_lt, ix_if_ne, ix_iinc, ix_iload, ix_imul, ix_ineg, ix_ior, ix_irem, ix_iret, ix_ishl, ix_ishr, ix_istore, ix_isub, ix_iushr, ix_ixor, ix_l2i, ix_ladd, ix_lald, ix_land, ix_last, ix_lcmp, ix_ldcS, ix_ldiv, ix_lload, ix_lmul, ix_lor, ix_lrem, ix_lret, ix_lshl, ix_lstore, ix_lsub, ix_lsw, ix_max, ix_min, ix_new, ix_newa, ix_nret, ix_oinit, ix_pop2L, ix_popI, ix_pushI, ix_pushL, ix_putI, ix_putJ, ix_putR, ix_putZ, ix_sbald, ix_sgetC, ix_sgetV, ix_slen, ix_strc, ix_tald, ix_tsw, ix_vcall, ix_vret, ix_zret, stL, stL2, kilL, popN, fq_sw, fq_lsw, List.map_cons, List.map_nil, List.getElem?_cons_zero, List.getElem?_cons_succ, Option.toList_some, Option.toList_none, List.cons_append, List.nil_append, List.length_cons, List.length_nil, List.sum_cons, List.sum_nil, cat_i, cat_l, cat_r, true_and, and_true, Nat.zero_add, Nat.add_zero, Nat.le_refl, Nat.zero_le, Nat.reduceAdd, Nat.reduceLeDiff, exists_eq_left', Option.some.injEq, not_true_eq_false, not_false_eq_true, false_implies, true_implies, implies_true, and_self, or_true, true_or, or_false, false_or]
        exact hQ1
  · exact h.elim
