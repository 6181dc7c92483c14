theorem wbS_a0 (I : IH) (s : Nat) (a0 a1 h0 h1 w0 w1 l0 l1 : Int32) : wbS I s a0 a1 h0 h1 w0 w1 l0 l1 (s + 14) 6 = a0 := by simp [wbS]
theorem wbS_a1 (I : IH) (s : Nat) (a0 a1 h0 h1 w0 w1 l0 l1 : Int32) : wbS I s a0 a1 h0 h1 w0 w1 l0 l1 (s + 15) 6 = a1 := by simp [wbS]
theorem wbS_h0 (I : IH) (s : Nat) (a0 a1 h0 h1 w0 w1 l0 l1 : Int32) : wbS I s a0 a1 h0 h1 w0 w1 l0 l1 (s + 14) 7 = h0 := by simp [wbS]
theorem wbS_h1 (I : IH) (s : Nat) (a0 a1 h0 h1 w0 w1 l0 l1 : Int32) : wbS I s a0 a1 h0 h1 w0 w1 l0 l1 (s + 15) 7 = h1 := by simp [wbS]
theorem wbS_w0 (I : IH) (s : Nat) (a0 a1 h0 h1 w0 w1 l0 l1 : Int32) : wbS I s a0 a1 h0 h1 w0 w1 l0 l1 (s + 16) 0 = w0 := by simp [wbS]
theorem wbS_w1 (I : IH) (s : Nat) (a0 a1 h0 h1 w0 w1 l0 l1 : Int32) : wbS I s a0 a1 h0 h1 w0 w1 l0 l1 (s + 16) 1 = w1 := by simp [wbS]
theorem wbS_l0 (I : IH) (s : Nat) (a0 a1 h0 h1 w0 w1 l0 l1 : Int32) : wbS I s a0 a1 h0 h1 w0 w1 l0 l1 (s + 17) 0 = l0 := by simp [wbS]
theorem wbS_l1 (I : IH) (s : Nat) (a0 a1 h0 h1 w0 w1 l0 l1 : Int32) : wbS I s a0 a1 h0 h1 w0 w1 l0 l1 (s + 17) 1 = l1 := by simp [wbS]
theorem wbS_o14_2 (I : IH) (s : Nat) (a0 a1 h0 h1 w0 w1 l0 l1 : Int32) : wbS I s a0 a1 h0 h1 w0 w1 l0 l1 (s + 14) 2 = I (s + 14) 2 := by simp [wbS]
theorem wbS_o14_3 (I : IH) (s : Nat) (a0 a1 h0 h1 w0 w1 l0 l1 : Int32) : wbS I s a0 a1 h0 h1 w0 w1 l0 l1 (s + 14) 3 = I (s + 14) 3 := by simp [wbS]
theorem wbS_o14_4 (I : IH) (s : Nat) (a0 a1 h0 h1 w0 w1 l0 l1 : Int32) : wbS I s a0 a1 h0 h1 w0 w1 l0 l1 (s + 14) 4 = I (s + 14) 4 := by simp [wbS]
theorem wbS_o15_2 (I : IH) (s : Nat) (a0 a1 h0 h1 w0 w1 l0 l1 : Int32) : wbS I s a0 a1 h0 h1 w0 w1 l0 l1 (s + 15) 2 = I (s + 15) 2 := by simp [wbS]
theorem wbS_o15_3 (I : IH) (s : Nat) (a0 a1 h0 h1 w0 w1 l0 l1 : Int32) : wbS I s a0 a1 h0 h1 w0 w1 l0 l1 (s + 15) 3 = I (s + 15) 3 := by simp [wbS]
theorem wbS_o15_4 (I : IH) (s : Nat) (a0 a1 h0 h1 w0 w1 l0 l1 : Int32) : wbS I s a0 a1 h0 h1 w0 w1 l0 l1 (s + 15) 4 = I (s + 15) 4 := by simp [wbS]
theorem wbS_o12_3 (I : IH) (s : Nat) (a0 a1 h0 h1 w0 w1 l0 l1 : Int32) : wbS I s a0 a1 h0 h1 w0 w1 l0 l1 (s + 12) 3 = I (s + 12) 3 := by simp [wbS]
theorem wbS_o12_4 (I : IH) (s : Nat) (a0 a1 h0 h1 w0 w1 l0 l1 : Int32) : wbS I s a0 a1 h0 h1 w0 w1 l0 l1 (s + 12) 4 = I (s + 12) 4 := by simp [wbS]
theorem wbS_ua0 (I : IH) (s : Nat) (a0 a1 h0 h1 w0 w1 l0 l1 v : Int32) : u2 (wbS I s a0 a1 h0 h1 w0 w1 l0 l1) (s + 14) 6 v = wbS I s v a1 h0 h1 w0 w1 l0 l1 := by
  funext q j
  unfold u2 wbS
  by_cases h : q = s + 14 ∧ j = 6
  · obtain ⟨rfl, rfl⟩ := h
    simp
  · simp only [h, if_false]
theorem wbS_ua1 (I : IH) (s : Nat) (a0 a1 h0 h1 w0 w1 l0 l1 v : Int32) : u2 (wbS I s a0 a1 h0 h1 w0 w1 l0 l1) (s + 15) 6 v = wbS I s a0 v h0 h1 w0 w1 l0 l1 := by
  funext q j
  unfold u2 wbS
  by_cases h : q = s + 15 ∧ j = 6
  · obtain ⟨rfl, rfl⟩ := h
    simp
  · simp only [h, if_false]
theorem wbS_uh0 (I : IH) (s : Nat) (a0 a1 h0 h1 w0 w1 l0 l1 v : Int32) : u2 (wbS I s a0 a1 h0 h1 w0 w1 l0 l1) (s + 14) 7 v = wbS I s a0 a1 v h1 w0 w1 l0 l1 := by
  funext q j
  unfold u2 wbS
  by_cases h : q = s + 14 ∧ j = 7
  · obtain ⟨rfl, rfl⟩ := h
    simp
  · simp only [h, if_false]
theorem wbS_uh1 (I : IH) (s : Nat) (a0 a1 h0 h1 w0 w1 l0 l1 v : Int32) : u2 (wbS I s a0 a1 h0 h1 w0 w1 l0 l1) (s + 15) 7 v = wbS I s a0 a1 h0 v w0 w1 l0 l1 := by
  funext q j
  unfold u2 wbS
  by_cases h : q = s + 15 ∧ j = 7
  · obtain ⟨rfl, rfl⟩ := h
    simp
  · simp only [h, if_false]
theorem wbS_uw0 (I : IH) (s : Nat) (a0 a1 h0 h1 w0 w1 l0 l1 v : Int32) : u2 (wbS I s a0 a1 h0 h1 w0 w1 l0 l1) (s + 16) 0 v = wbS I s a0 a1 h0 h1 v w1 l0 l1 := by
  funext q j
  unfold u2 wbS
  by_cases h : q = s + 16 ∧ j = 0
  · obtain ⟨rfl, rfl⟩ := h
    simp
  · simp only [h, if_false]
theorem wbS_uw1 (I : IH) (s : Nat) (a0 a1 h0 h1 w0 w1 l0 l1 v : Int32) : u2 (wbS I s a0 a1 h0 h1 w0 w1 l0 l1) (s + 16) 1 v = wbS I s a0 a1 h0 h1 w0 v l0 l1 := by
  funext q j
  unfold u2 wbS
  by_cases h : q = s + 16 ∧ j = 1
  · obtain ⟨rfl, rfl⟩ := h
    simp
  · simp only [h, if_false]
theorem wbS_ul0 (I : IH) (s : Nat) (a0 a1 h0 h1 w0 w1 l0 l1 v : Int32) : u2 (wbS I s a0 a1 h0 h1 w0 w1 l0 l1) (s + 17) 0 v = wbS I s a0 a1 h0 h1 w0 w1 v l1 := by
  funext q j
  unfold u2 wbS
  by_cases h : q = s + 17 ∧ j = 0
  · obtain ⟨rfl, rfl⟩ := h
    simp
  · simp only [h, if_false]
theorem wbS_ul1 (I : IH) (s : Nat) (a0 a1 h0 h1 w0 w1 l0 l1 v : Int32) : u2 (wbS I s a0 a1 h0 h1 w0 w1 l0 l1) (s + 17) 1 v = wbS I s a0 a1 h0 h1 w0 w1 l0 v := by
  funext q j
  unfold u2 wbS
  by_cases h : q = s + 17 ∧ j = 1
  · obtain ⟨rfl, rfl⟩ := h
    simp
  · simp only [h, if_false]
theorem wbS_rd (I : IH) (s : Nat) : wbS I s (I (s + 14) 6) (I (s + 15) 6) (I (s + 14) 7) (I (s + 15) 7) (I (s + 16) 0) (I (s + 16) 1) (I (s + 17) 0) (I (s + 17) 1) = I := by
  funext q j
  unfold wbS
  by_cases h1 : q = s + 14 ∧ j = 6
  · obtain ⟨rfl, rfl⟩ := h1; simp
  by_cases h2 : q = s + 15 ∧ j = 6
  · obtain ⟨rfl, rfl⟩ := h2; simp
  by_cases h3 : q = s + 14 ∧ j = 7
  · obtain ⟨rfl, rfl⟩ := h3; simp
  by_cases h4 : q = s + 15 ∧ j = 7
  · obtain ⟨rfl, rfl⟩ := h4; simp
  by_cases h5 : q = s + 16 ∧ j = 0
  · obtain ⟨rfl, rfl⟩ := h5; simp
  by_cases h6 : q = s + 16 ∧ j = 1
  · obtain ⟨rfl, rfl⟩ := h6; simp
  by_cases h7 : q = s + 17 ∧ j = 0
  · obtain ⟨rfl, rfl⟩ := h7; simp
  by_cases h8 : q = s + 17 ∧ j = 1
  · obtain ⟨rfl, rfl⟩ := h8; simp
  simp only [h1, h2, h3, h4, h5, h6, h7, h8, if_false]
abbrev rdS (I : IH) (s : Nat) : S8 := (I (s + 14) 6, I (s + 15) 6, I (s + 14) 7, I (s + 15) 7, I (s + 16) 0, I (s + 16) 1, I (s + 17) 0, I (s + 17) 1)
abbrev spkI (I : IH) (s : Nat) : Nat → Bool → Int32 → S8 → Nat × S8 := spk (I (s + 14) 2) (I (s + 15) 2) (I (s + 14) 3) (I (s + 15) 3) (I (s + 12) 3) (I (s + 12) 4)
def sp_X5_speak (G : GT) : Sp := fun as S I J z Q => match as with
  | [.ref p, .int d] => ∃ s, p = s + 12 ∧ stS S s ∧ (d = 0 ∨ d = 1) ∧ (d = 0 → Q (some (.int (nI (spkI I s 6 true (ldn (I (s + 14) 4) (I (s + 12) 4)) (rdS I s)).1))) S (wbT I s (spkI I s 6 true (ldn (I (s + 14) 4) (I (s + 12) 4)) (rdS I s)).2) J z) ∧ (d = 1 → Q (some (.int (nI (spkI I s 6 false (ldn (I (s + 15) 4) (I (s + 12) 4)) (rdS I s)).1))) S (wbT I s (spkI I s 6 false (ldn (I (s + 15) 4) (I (s + 12) 4)) (rdS I s)).2) J z)
  | _ => False
def tlr (t : Bool) : Int32 := if t then 0 else 1
theorem tlr_t : tlr true = 0 := rfl
theorem tlr_f : tlr false = 1 := rfl
theorem n124 (s : Nat) : s + 12 + 4 = s + 16 := rfl
theorem n125 (s : Nat) : s + 12 + 5 = s + 17 := rfl
set_option maxHeartbeats 4000000 in
set_option maxRecDepth 20000 in
theorem lp_X5_speak {l : Launch} {G : GT} {D : Nat} {S : Sh} {I : IH} {J : JH} {z s : Nat} {Q : Post} {d : Int32} (hs : stS S s) : ∀ (n cnt : Nat) (t : Bool) (v : Int32) (x : S8) (o : Option Value), cnt + n = 6 → Q (some (.int (nI (cnt + (spkI I s n t v x).1)))) S (wbT I s (spkI I s n t v x).2) J z → fqAt l G M_X5_speak (D + 2) 0 0 Q 22 [some (.ref (s + 12)), some (.int d), some (.int (tlr t)), some (.int v), some (.int (nI cnt)), o] [] S (wbT I s x) J z 0 0 := by
  intro n
  induction n with
  | zero =>
    intro cnt t v x o hc hq
    obtain rfl : cnt = 6 := by omega
    have h6 : (6 : Int32) ≤ nI 6 := by decide
    refine b_X5_speak_22 _ _ _ _ _ _ _ _ ?_
    simp (disch := omega) only [B_X5_speak_0, B_X5_speak_22, sp_X5_loudness, sp_X2_isProvoked, sp_X5_giveWay, nI_1, nI_add, nI_clamp, nI_pin, nI_neg, nI_nonneg, nI_leE, nI_ltE, nI_eqE, Nat.not_le, Nat.not_lt, fq_10, fq_01, fq_rr, ix_aald, ix_aast, ix_abs, ix_alen, ix_aload, ix_aret, ix_astore, ix_bald, ix_bast, ix_call, ix_cpyI, ix_cpyJ, ix_dead, ix_dup2, ix_dup2L, ix_dupI, ix_dupR, ix_dupx1, ix_getI, ix_getJ, ix_getR, ix_gfm, ix_gtab, ix_i2b, ix_i2c, ix_i2l, ix_i2s, ix_iadd, ix_iald, ix_iand, ix_iast, ix_icall, ix_icmp_eq, ix_icmp_ge, ix_icmp_gt, ix_icmp_le, ix_icmp_lt, ix_icmp_ne, ix_idiv, ix_if_eq, ix_if_ge, ix_if_gt, ix_if_le, ix_if_lt, ix_if_ne, ix_iinc, ix_iload, ix_imul, ix_ineg, ix_ior, ix_irem, ix_iret, ix_ishl, ix_ishr, ix_istore, ix_isub, ix_iushr, ix_ixor, ix_l2i, ix_ladd, ix_lald, ix_land, ix_last, ix_lcmp, ix_ldcS, ix_ldiv, ix_lload, ix_lmul, ix_lor, ix_lrem, ix_lret, ix_lshl, ix_lstore, ix_lsub, ix_lsw, ix_max, ix_min, ix_new, ix_newa, ix_nret, ix_oinit, ix_pop2L, ix_popI, ix_pushI, ix_pushL, ix_putI, ix_putJ, ix_putR, ix_putZ, ix_sbald, ix_sgetC, ix_sgetV, ix_slen, ix_strc, ix_tald, ix_tsw, ix_vcall, ix_vret, ix_zret, stL, stL2, kilL, popN, fq_sw, fq_lsw, List.map_cons, List.map_nil, List.getElem?_cons_zero, List.getElem?_cons_succ, Option.toList_some, Option.toList_none, List.cons_append, List.nil_append, List.length_cons, List.length_nil, List.sum_cons, List.sum_nil, cat_i, cat_l, cat_r, true_and, and_true, Nat.zero_add, Nat.add_zero, Nat.le_refl, Nat.zero_le, Nat.reduceAdd, Nat.reduceLeDiff, exists_eq_left', Option.some.injEq, not_true_eq_false, not_false_eq_true, false_implies, true_implies, implies_true, and_self, or_true, true_or, or_false, false_or]
    exact ⟨fun _ => hq, fun h => absurd h6 h⟩
  | succ n ih =>
    intro cnt t v x o hc hq
    obtain ⟨a0, a1, h0, h1, w0, w1, l0, l1⟩ := x
    have h6 : ((6 : Int32) ≤ nI cnt) = False := eq_false (nI_ge (a := cnt) (b := 6) (by omega) (by decide))
    cases t with
    | true =>
      refine b_X5_speak_22 _ _ _ _ _ _ _ _ ?_
      simp (disch := omega) only [B_X5_speak_0, B_X5_speak_22, sp_X5_loudness, sp_X2_isProvoked, sp_X5_giveWay, hs.k, hs.r0, hs.k1, hs.r1, hs.k2, hs.r2, hs.k3, hs.r3, hs.k4, hs.r4, hs.k12, hs.n1, hs.n2, hs.n3, hs.y0, hs.k5, hs.n5, hs.y1, hs.k6, hs.n6, hs.y2, hs.k7, hs.n7, hs.y3, hs.k8, hs.n8, hs.y4, hs.k9, hs.n9, hs.y5, hs.k10, hs.n10, hs.y6, hs.k11, hs.n11, hs.p0, hs.p1, hs.p2, hs.k13, hs.n13, hs.q0, hs.q1, hs.k14, hs.k15, hs.k16, hs.n16, hs.k17, hs.n17, hs.rH, hs.kH, hs.rP, hs.kP, hs.rQ, hs.kQ, h6, tlr_t, tn0, tn1, vin02, vin12, i1m0, i1m1, n124, n125, wbT, wbS_a0, wbS_a1, wbS_h0, wbS_h1, wbS_w0, wbS_w1, wbS_l0, wbS_l1, wbS_o14_2, wbS_o14_3, wbS_o14_4, wbS_o15_2, wbS_o15_3, wbS_o15_4, wbS_o12_3, wbS_o12_4, wbS_ua0, wbS_ua1, wbS_uh0, wbS_uh1, wbS_uw0, wbS_uw1, wbS_ul0, wbS_ul1, nI_1, nI_add, nI_clamp, nI_pin, nI_neg, nI_nonneg, nI_leE, nI_ltE, nI_eqE, Nat.not_le, Nat.not_lt, fq_10, fq_01, fq_rr, ix_aald, ix_aast, ix_abs, ix_alen, ix_aload, ix_aret, ix_astore, ix_bald, ix_bast, ix_call, ix_cpyI, ix_cpyJ, ix_dead, ix_dup2, ix_dup2L, ix_dupI, ix_dupR, ix_dupx1, ix_getI, ix_getJ, ix_getR, ix_gfm, ix_gtab, ix_i2b, ix_i2c, ix_i2l, ix_i2s, ix_iadd, ix_iald, ix_iand, ix_iast, ix_icall, ix_icmp_eq, ix_icmp_ge, ix_icmp_gt, ix_icmp_le, ix_icmp_lt, ix_icmp_ne, ix_idiv, ix_if_eq, ix_if_ge, ix_if_gt, ix_if_le, ix_if_lt, ix_if_ne, ix_iinc, ix_iload, ix_imul, ix_ineg, ix_ior, ix_irem, ix_iret, ix_ishl, ix_ishr, ix_istore, ix_isub, ix_iushr, ix_ixor, ix_l2i, ix_ladd, ix_lald, ix_land, ix_last, ix_lcmp, ix_ldcS, ix_ldiv, ix_lload, ix_lmul, ix_lor, ix_lrem, ix_lret, ix_lshl, ix_lstore, ix_lsub, ix_lsw, ix_max, ix_min, ix_new, ix_newa, ix_nret, ix_oinit, ix_pop2L, ix_popI, ix_pushI, ix_pushL, ix_putI, ix_putJ, ix_putR, ix_putZ, ix_sbald, ix_sgetC, ix_sgetV, ix_slen, ix_strc, ix_tald, ix_tsw, ix_vcall, ix_vret, ix_zret, stL, stL2, kilL, popN, fq_sw, fq_lsw, List.map_cons, List.map_nil, List.getElem?_cons_zero, List.getElem?_cons_succ, Option.toList_some, Option.toList_none, List.cons_append, List.nil_append, List.length_cons, List.length_nil, List.sum_cons, List.sum_nil, cat_i, cat_l, cat_r, true_and, and_true, Nat.zero_add, Nat.add_zero, Nat.le_refl, Nat.zero_le, Nat.reduceAdd, Nat.reduceLeDiff, exists_eq_left', Option.some.injEq, not_true_eq_false, not_false_eq_true, false_implies, true_implies, implies_true, and_self, or_true, true_or, or_false, false_or]
      refine ⟨fun g1 => ⟨fun g2 => ?_, fun g2 => ?_⟩, fun g1 => ?_⟩
      · refine ih (cnt + 1) false _ (a0, 0, h0, h1 + 1, w0 + mnI (I (s + 12) 3) w1, w1 - mnI (I (s + 12) 3) w1, l0, l1 + mnI (I (s + 12) 3) w1) _ (by omega) ?_
        simp only [spkI, spk, g1, g2, if_true] at hq
        rw [show cnt + 1 + (spkI I s n false (ldn 9 (I (s + 12) 4)) (a0, 0, h0, h1 + 1, w0 + mnI (I (s + 12) 3) w1, w1 - mnI (I (s + 12) 3) w1, l0, l1 + mnI (I (s + 12) 3) w1)).1 = cnt + ((spkI I s n false (ldn 9 (I (s + 12) 4)) (a0, 0, h0, h1 + 1, w0 + mnI (I (s + 12) 3) w1, w1 - mnI (I (s + 12) 3) w1, l0, l1 + mnI (I (s + 12) 3) w1)).1 + 1) by omega]
        exact hq
      · simp only [spkI, spk, g1, g2, if_true, if_false, Nat.add_zero] at hq
        exact hq
      · simp only [spkI, spk, g1, if_false, Nat.add_zero] at hq
        exact hq
    | false =>
      refine b_X5_speak_22 _ _ _ _ _ _ _ _ ?_
      simp (disch := omega) only [B_X5_speak_0, B_X5_speak_22, sp_X5_loudness, sp_X2_isProvoked, sp_X5_giveWay, hs.k, hs.r0, hs.k1, hs.r1, hs.k2, hs.r2, hs.k3, hs.r3, hs.k4, hs.r4, hs.k12, hs.n1, hs.n2, hs.n3, hs.y0, hs.k5, hs.n5, hs.y1, hs.k6, hs.n6, hs.y2, hs.k7, hs.n7, hs.y3, hs.k8, hs.n8, hs.y4, hs.k9, hs.n9, hs.y5, hs.k10, hs.n10, hs.y6, hs.k11, hs.n11, hs.p0, hs.p1, hs.p2, hs.k13, hs.n13, hs.q0, hs.q1, hs.k14, hs.k15, hs.k16, hs.n16, hs.k17, hs.n17, hs.rH, hs.kH, hs.rP, hs.kP, hs.rQ, hs.kQ, h6, tlr_f, tn0, tn1, vin02, vin12, i1m0, i1m1, n124, n125, wbT, wbS_a0, wbS_a1, wbS_h0, wbS_h1, wbS_w0, wbS_w1, wbS_l0, wbS_l1, wbS_o14_2, wbS_o14_3, wbS_o14_4, wbS_o15_2, wbS_o15_3, wbS_o15_4, wbS_o12_3, wbS_o12_4, wbS_ua0, wbS_ua1, wbS_uh0, wbS_uh1, wbS_uw0, wbS_uw1, wbS_ul0, wbS_ul1, nI_1, nI_add, nI_clamp, nI_pin, nI_neg, nI_nonneg, nI_leE, nI_ltE, nI_eqE, Nat.not_le, Nat.not_lt, fq_10, fq_01, fq_rr, ix_aald, ix_aast, ix_abs, ix_alen, ix_aload, ix_aret, ix_astore, ix_bald, ix_bast, ix_call, ix_cpyI, ix_cpyJ, ix_dead, ix_dup2, ix_dup2L, ix_dupI, ix_dupR, ix_dupx1, ix_getI, ix_getJ, ix_getR, ix_gfm, ix_gtab, ix_i2b, ix_i2c, ix_i2l, ix_i2s, ix_iadd, ix_iald, ix_iand, ix_iast, ix_icall, ix_icmp_eq, ix_icmp_ge, ix_icmp_gt, ix_icmp_le, ix_icmp_lt, ix_icmp_ne, ix_idiv, ix_if_eq, ix_if_ge, ix_if_gt, ix_if_le, ix_if_lt, ix_if_ne, ix_iinc, ix_iload, ix_imul, ix_ineg, ix_ior, ix_irem, ix_iret, ix_ishl, ix_ishr, ix_istore, ix_isub, ix_iushr, ix_ixor, ix_l2i, ix_ladd, ix_lald, ix_land, ix_last, ix_lcmp, ix_ldcS, ix_ldiv, ix_lload, ix_lmul, ix_lor, ix_lrem, ix_lret, ix_lshl, ix_lstore, ix_lsub, ix_lsw, ix_max, ix_min, ix_new, ix_newa, ix_nret, ix_oinit, ix_pop2L, ix_popI, ix_pushI, ix_pushL, ix_putI, ix_putJ, ix_putR, ix_putZ, ix_sbald, ix_sgetC, ix_sgetV, ix_slen, ix_strc, ix_tald, ix_tsw, ix_vcall, ix_vret, ix_zret, stL, stL2, kilL, popN, fq_sw, fq_lsw, List.map_cons, List.map_nil, List.getElem?_cons_zero, List.getElem?_cons_succ, Option.toList_some, Option.toList_none, List.cons_append, List.nil_append, List.length_cons, List.length_nil, List.sum_cons, List.sum_nil, cat_i, cat_l, cat_r, true_and, and_true, Nat.zero_add, Nat.add_zero, Nat.le_refl, Nat.zero_le, Nat.reduceAdd, Nat.reduceLeDiff, exists_eq_left', Option.some.injEq, not_true_eq_false, not_false_eq_true, false_implies, true_implies, implies_true, and_self, or_true, true_or, or_false, false_or]
      refine ⟨fun g1 => ⟨fun g2 => ?_, fun g2 => ?_⟩, fun g1 => ?_⟩
      · refine ih (cnt + 1) true _ (0, a1, h0 + 1, h1, w0 - mnI (I (s + 12) 3) w0, w1 + mnI (I (s + 12) 3) w0, l0 + mnI (I (s + 12) 3) w0, l1) _ (by omega) ?_
        simp only [spkI, spk, g1, g2, if_true] at hq
        rw [show cnt + 1 + (spkI I s n true (ldn 9 (I (s + 12) 4)) (0, a1, h0 + 1, h1, w0 - mnI (I (s + 12) 3) w0, w1 + mnI (I (s + 12) 3) w0, l0 + mnI (I (s + 12) 3) w0, l1)).1 = cnt + ((spkI I s n true (ldn 9 (I (s + 12) 4)) (0, a1, h0 + 1, h1, w0 - mnI (I (s + 12) 3) w0, w1 + mnI (I (s + 12) 3) w0, l0 + mnI (I (s + 12) 3) w0, l1)).1 + 1) by omega]
        exact hq
      · simp only [spkI, spk, g1, g2, if_true, if_false, Nat.add_zero] at hq
        exact hq
      · simp only [spkI, spk, g1, if_false, Nat.add_zero] at hq
        exact hq
set_option maxHeartbeats 4000000 in
set_option maxRecDepth 20000 in
theorem c_X5_speak {l : Launch} {G : GT} {D : Nat} : ∀ as S I J z Q, sp_X5_speak G as S I J z Q → fqCall l G M_X5_speak (D + 2) 0 0 as S I J z Q := by
  intro as S I J z Q h
  unfold sp_X5_speak at h
  split at h
  · next p d =>
    obtain ⟨s, rfl, hs, hd, h0, h1⟩ := h
    rcases hd with rfl | rfl
    · refine fq_enter [some (.ref (s + 12)), some (.int 0), none, none, none, none] (by decide +kernel) (Nat.le_of_ble_eq_true rfl) rfl (b_X5_speak_0 _ _ _ _ _ _ _ _ ?_)
      simp (disch := omega) only [B_X5_speak_0, B_X5_speak_22, sp_X5_loudness, sp_X2_isProvoked, sp_X5_giveWay, hs.k, hs.r0, hs.k1, hs.r1, hs.k2, hs.r2, hs.k3, hs.r3, hs.k4, hs.r4, hs.k12, hs.n1, hs.n2, hs.n3, hs.y0, hs.k5, hs.n5, hs.y1, hs.k6, hs.n6, hs.y2, hs.k7, hs.n7, hs.y3, hs.k8, hs.n8, hs.y4, hs.k9, hs.n9, hs.y5, hs.k10, hs.n10, hs.y6, hs.k11, hs.n11, hs.p0, hs.p1, hs.p2, hs.k13, hs.n13, hs.q0, hs.q1, hs.k14, hs.k15, hs.k16, hs.n16, hs.k17, hs.n17, hs.rH, hs.kH, hs.rP, hs.kP, hs.rQ, hs.kQ, tn0, tn1, vin02, vin12, nI_1, nI_add, nI_clamp, nI_pin, nI_neg, nI_nonneg, nI_leE, nI_ltE, nI_eqE, Nat.not_le, Nat.not_lt, fq_10, fq_01, fq_rr, ix_aald, ix_aast, ix_abs, ix_alen, ix_aload, ix_aret, ix_astore, ix_bald, ix_bast, ix_call, ix_cpyI, ix_cpyJ, ix_dead, ix_dup2, ix_dup2L, ix_dupI, ix_dupR, ix_dupx1, ix_getI, ix_getJ, ix_getR, ix_gfm, ix_gtab, ix_i2b, ix_i2c, ix_i2l, ix_i2s, ix_iadd, ix_iald, ix_iand, ix_iast, ix_icall, ix_icmp_eq, ix_icmp_ge, ix_icmp_gt, ix_icmp_le, ix_icmp_lt, ix_icmp_ne, ix_idiv, ix_if_eq, ix_if_ge, ix_if_gt, ix_if_le, ix_if_lt, ix_if_ne, ix_iinc, ix_iload, ix_imul, ix_ineg, ix_ior, ix_irem, ix_iret, ix_ishl, ix_ishr, ix_istore, ix_isub, ix_iushr, ix_ixor, ix_l2i, ix_ladd, ix_lald, ix_land, ix_last, ix_lcmp, ix_ldcS, ix_ldiv, ix_lload, ix_lmul, ix_lor, ix_lrem, ix_lret, ix_lshl, ix_lstore, ix_lsub, ix_lsw, ix_max, ix_min, ix_new, ix_newa, ix_nret, ix_oinit, ix_pop2L, ix_popI, ix_pushI, ix_pushL, ix_putI, ix_putJ, ix_putR, ix_putZ, ix_sbald, ix_sgetC, ix_sgetV, ix_slen, ix_strc, ix_tald, ix_tsw, ix_vcall, ix_vret, ix_zret, stL, stL2, kilL, popN, fq_sw, fq_lsw, List.map_cons, List.map_nil, List.getElem?_cons_zero, List.getElem?_cons_succ, Option.toList_some, Option.toList_none, List.cons_append, List.nil_append, List.length_cons, List.length_nil, List.sum_cons, List.sum_nil, cat_i, cat_l, cat_r, true_and, and_true, Nat.zero_add, Nat.add_zero, Nat.le_refl, Nat.zero_le, Nat.reduceAdd, Nat.reduceLeDiff, exists_eq_left', Option.some.injEq, not_true_eq_false, not_false_eq_true, false_implies, true_implies, implies_true, and_self, or_true, true_or, or_false, false_or]
      have hq := h0 rfl
      have hl := lp_X5_speak (l := l) (G := G) (D := D) (I := I) (J := J) (z := z) (Q := Q) (d := 0) hs 6 0 true (ldn (I (s + 14) 4) (I (s + 12) 4)) (rdS I s) none (by omega) (by rw [Nat.zero_add]; exact hq)
      rw [show wbT I s (rdS I s) = I from wbS_rd I s] at hl
      exact hl
    · refine fq_enter [some (.ref (s + 12)), some (.int 1), none, none, none, none] (by decide +kernel) (Nat.le_of_ble_eq_true rfl) rfl (b_X5_speak_0 _ _ _ _ _ _ _ _ ?_)
      simp (disch := omega) only [B_X5_speak_0, B_X5_speak_22, sp_X5_loudness, sp_X2_isProvoked, sp_X5_giveWay, hs.k, hs.r0, hs.k1, hs.r1, hs.k2, hs.r2, hs.k3, hs.r3, hs.k4, hs.r4, hs.k12, hs.n1, hs.n2, hs.n3, hs.y0, hs.k5, hs.n5, hs.y1, hs.k6, hs.n6, hs.y2, hs.k7, hs.n7, hs.y3, hs.k8, hs.n8, hs.y4, hs.k9, hs.n9, hs.y5, hs.k10, hs.n10, hs.y6, hs.k11, hs.n11, hs.p0, hs.p1, hs.p2, hs.k13, hs.n13, hs.q0, hs.q1, hs.k14, hs.k15, hs.k16, hs.n16, hs.k17, hs.n17, hs.rH, hs.kH, hs.rP, hs.kP, hs.rQ, hs.kQ, tn0, tn1, vin02, vin12, nI_1, nI_add, nI_clamp, nI_pin, nI_neg, nI_nonneg, nI_leE, nI_ltE, nI_eqE, Nat.not_le, Nat.not_lt, fq_10, fq_01, fq_rr, ix_aald, ix_aast, ix_abs, ix_alen, ix_aload, ix_aret, ix_astore, ix_bald, ix_bast, ix_call, ix_cpyI, ix_cpyJ, ix_dead, ix_dup2, ix_dup2L, ix_dupI, ix_dupR, ix_dupx1, ix_getI, ix_getJ, ix_getR, ix_gfm, ix_gtab, ix_i2b, ix_i2c, ix_i2l, ix_i2s, ix_iadd, ix_iald, ix_iand, ix_iast, ix_icall, ix_icmp_eq, ix_icmp_ge, ix_icmp_gt, ix_icmp_le, ix_icmp_lt, ix_icmp_ne, ix_idiv, ix_if_eq, ix_if_ge, ix_if_gt, ix_if_le, ix_if_lt, ix_if_ne, ix_iinc, ix_iload, ix_imul, ix_ineg, ix_ior, ix_irem, ix_iret, ix_ishl, ix_ishr, ix_istore, ix_isub, ix_iushr, ix_ixor, ix_l2i, ix_ladd, ix_lald, ix_land, ix_last, ix_lcmp, ix_ldcS, ix_ldiv, ix_lload, ix_lmul, ix_lor, ix_lrem, ix_lret, ix_lshl, ix_lstore, ix_lsub, ix_lsw, ix_max, ix_min, ix_new, ix_newa, ix_nret, ix_oinit, ix_pop2L, ix_popI, ix_pushI, ix_pushL, ix_putI, ix_putJ, ix_putR, ix_putZ, ix_sbald, ix_sgetC, ix_sgetV, ix_slen, ix_strc, ix_tald, ix_tsw, ix_vcall, ix_vret, ix_zret, stL, stL2, kilL, popN, fq_sw, fq_lsw, List.map_cons, List.map_nil, List.getElem?_cons_zero, List.getElem?_cons_succ, Option.toList_some, Option.toList_none, List.cons_append, List.nil_append, List.length_cons, List.length_nil, List.sum_cons, List.sum_nil, cat_i, cat_l, cat_r, true_and, and_true, Nat.zero_add, Nat.add_zero, Nat.le_refl, Nat.zero_le, Nat.reduceAdd, Nat.reduceLeDiff, exists_eq_left', Option.some.injEq, not_true_eq_false, not_false_eq_true, false_implies, true_implies, implies_true, and_self, or_true, true_or, or_false, false_or]
      have hq := h1 rfl
      have hl := lp_X5_speak (l := l) (G := G) (D := D) (I := I) (J := J) (z := z) (Q := Q) (d := 1) hs 6 0 false (ldn (I (s + 15) 4) (I (s + 12) 4)) (rdS I s) none (by omega) (by rw [Nat.zero_add]; exact hq)
      rw [show wbT I s (rdS I s) = I from wbS_rd I s] at hl
      exact hl
  · exact h.elim
