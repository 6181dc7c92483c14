/-! a year's text of the class: an end, a step -/
def sp_X10_takeEnd (G : GT) : Sp := fun as S I J z Q => match as with
  | [.ref a] => ∃ (X s p t m : Nat) (T : Nat → Int32) (n : Nat) (A : Nat → Int32) (N : Nat → Int64) (e d c : Nat) (O : Nat → Int32), t = a ∧ yxS S X s p t ∧ rdE S I J X T n ∧ ytH X s p t I J T n ((A, N, e), d, c, O) ∧ A 2387 = nI m ∧ (0 < d → m < 60) ∧ d ≤ 3 ∧ kwI T n e = 20 ∧ (∀ i, i < d → ∃ j, j < m ∧ O i = nI j) ∧ (d = 0 → Q (some (.int 0)) S (rej I X T n e 2) J z) ∧ (0 < d → ∀ I' J', yF X p t I I' J J' → ytH X s p t I' J' T n (yrE 20 m (yrB A 20, N, tE T n e) d c O) → Q (some (.int 1)) S I' J' z)
  | _ => False
theorem yrB_e (A : Nat → Int32) (k : Int32) {m : Nat} (hm : A 2387 = nI m) (h6 : m < 60) : yrB A k = uA (yrA A (2602 + 6 * m) k 6) 2387 (nI (m + 1)) := by
  unfold yrB
  rw [hm, nI_tn (by omega), nI_1]
theorem yrB_o (A : Nat → Int32) (k : Int32) {m : Nat} (hm : A 2387 = nI m) (h6 : m < 60) (j : Nat) (h1 : j < 2602 + 6 * m) (h2 : j ≠ 2387) : yrB A k j = A j := by
  rw [yrB_e A k hm h6, uA_n _ _ _ _ h2, yrA_o _ _ _ _ _ h1]
theorem yrB_m (A : Nat → Int32) (k : Int32) {m : Nat} (hm : A 2387 = nI m) (h6 : m < 60) : yrB A k 2387 = nI (m + 1) := by
  rw [yrB_e A k hm h6, uA_e]
theorem yrB_0 (A : Nat → Int32) (k : Int32) {m : Nat} (hm : A 2387 = nI m) (h6 : m < 60) : yrB A k (2602 + 6 * m) = k := by
  rw [yrB_e A k hm h6, uA_n _ _ _ _ (by omega)]
  unfold yrA
  rw [if_pos rfl]
set_option maxHeartbeats 4000000 in
set_option maxRecDepth 20000 in
theorem c_X10_takeEnd {l : Launch} {G : GT} {D : Nat} : ∀ as S I J z Q, sp_X10_takeEnd G as S I J z Q → fqCall l G M_X10_takeEnd (D + 3) 0 0 as S I J z Q := by
  intro as S I J z Q h
  unfold sp_X10_takeEnd at h
  split at h
  · next a =>
    obtain ⟨X, s, p, t, m, T, n, A, N, e, d, c, O, rfl, hx, hE, hH, hm, hm6, hd3, hk, hO, h0, h1⟩ := h
    obtain ⟨x1, x2, x3, x4, x5, x6, x7, hs, hp, l1, l2, l3, l4, l5⟩ := hx
    have s1 := hE.1.1
    have hq := hH.q hE
    have g3 := hH.2.2.1
    have g5 := hH.2.2.2.2.1
    have g6 := hH.2.2.2.2.2.1
    dsimp only at hq g3 g5 g6
    rw [hm] at g3
    have e1 := (tFE hq.2.2 (T := T)).2.2.2
    have h2 : tK T n e = 2 := Classical.byContradiction fun q => by
      rw [kwI_n q] at hk
      exact absurd hk (by decide)
    refine fq_enter [some (.ref t), none] (by decide +kernel) (Nat.le_of_ble_eq_true rfl) rfl (b_X10_takeEnd_0 _ _ _ _ _ _ _ _ ?_)
    simp (disch := omega) only [B_X10_takeEnd_0, x1, x2, x3, x4, s1, g5, hp.k, hp.r0, hp.k1, hp.r1, hp.k2, hp.r2, hp.k3, hp.r3, hp.k4, hp.r4, hp.k12, hp.n1, hp.n2, hp.n3, hp.y0, hp.k5, hp.n5, hp.y1, hp.k6, hp.n6, hp.y2, hp.k7, hp.n7, hp.y3, hp.k8, hp.n8, hp.y4, hp.k9, hp.n9, hp.y5, hp.k10, hp.n10, hp.y6, hp.k11, hp.n11, hp.p0, hp.p1, hp.p2, hp.k13, hp.n13, hp.q0, hp.q1, hp.k14, hp.k15, hp.k16, hp.n16, hp.k17, hp.n17, hp.rH, hp.kH, hp.rP, hp.kP, hp.rQ, hp.kQ, nI_1, nI_add, nI_clamp, nI_pin, nI_neg, nI_nonneg, nI_leE, nI_ltE, nI_eqE, Nat.not_le, Nat.not_lt, fq_10, fq_01, fq_rr, ix_aald, ix_aast, ix_abs, ix_alen, ix_aload, ix_aret, ix_astore, ix_bald, ix_bast, ix_call, ix_cpyI, ix_cpyJ, ix_dead, ix_dup2, ix_dup2L, ix_dupI, ix_dupR, ix_dupx1, ix_getI, ix_getJ, ix_getR, ix_gfm, ix_gtab, ix_i2b, ix_i2c, ix_i2l, ix_i2s, ix_iadd, ix_iald, ix_iand, ix_iast, ix_icall, ix_icmp_eq, ix_icmp_ge, ix_icmp_gt, ix_icmp_le, ix_icmp_lt, ix_icmp_ne, ix_idiv, ix_if_eq, ix_if_ge, ix_if_gt, ix_if_le, ix_if_lt, ix_if_ne, ix_iinc, ix_iload, ix_imul, ix_ineg, ix_ior, ix_irem, ix_iret, ix_ishl, ix_ishr, ix_istore, ix_isub, ix_iushr, ix_ixor, ix_l2i, ix_ladd, ix_lald, ix_land, ix_last, ix_lcmp, ix_ldcS, ix_ldiv, ix_lload, ix_lmul, ix_lor, ix_lrem, ix_lret, ix_lshl, ix_lstore, ix_lsub, ix_lsw, ix_max, ix_min, ix_new, ix_newa, ix_nret, ix_oinit, ix_pop2L, ix_popI, ix_pushI, ix_pushL, ix_putI, ix_putJ, ix_putR, ix_putZ, ix_sbald, ix_sgetC, ix_sgetV, ix_slen, ix_strc, ix_tald, ix_tsw, ix_vcall, ix_vret, ix_zret, stL, stL2, kilL, popN, fq_sw, fq_lsw, List.map_cons, List.map_nil, List.getElem?_cons_zero, List.getElem?_cons_succ, Option.toList_some, Option.toList_none, List.cons_append, List.nil_append, List.length_cons, List.length_nil, List.sum_cons, List.sum_nil, cat_i, cat_l, cat_r, true_and, and_true, Nat.zero_add, Nat.add_zero, Nat.le_refl, Nat.zero_le, Nat.reduceAdd, Nat.reduceLeDiff, exists_eq_left', Option.some.injEq, not_true_eq_false, not_false_eq_true, false_implies, true_implies, implies_true, and_self, or_true, true_or, or_false, false_or]
    refine ⟨fun q => ?_, fun q => rej_R hq ?_⟩
    · have hd : 0 < d := Nat.pos_of_ne_zero (fun r => q (by rw [r]; rfl))
      obtain ⟨d', rfl⟩ : ∃ d', d = d' + 1 := ⟨d - 1, by omega⟩
      obtain ⟨o, ho, hOo⟩ := hO d' (by omega)
      have m6 := hm6 hd
      refine adv_R hq (by rw [h2]; decide) (fun I1 J1 hF1 hH1 => ?_)
      have y7 : I1 (p + 4) 7 = nI m := by rw [hF1.1 _ (by omega)]; exact g3
      have y4 : I1 t 4 = nI (d' + 1) := by rw [hF1.1 _ (by omega)]; exact g5
      have yo : I1 (t + 1) d' = nI o := by rw [hF1.1 _ (by omega), g6 d' (by omega)]; exact hOo
      have es1 : nI (d' + 1) - 1 = nI d' := by rcases (show d' = 0 ∨ d' = 1 ∨ d' = 2 by omega) with rfl | rfl | rfl <;> rfl
      simp (disch := omega) only [B_X10_takeEnd_23, x1, x2, x3, x4, x5, x6, x7, s1, y7, y4, yo, es1, u2_same, u2_ca, u2_ck, hp.k, hp.r0, hp.k1, hp.r1, hp.k2, hp.r2, hp.k3, hp.r3, hp.k4, hp.r4, hp.k12, hp.n1, hp.n2, hp.n3, hp.y0, hp.k5, hp.n5, hp.y1, hp.k6, hp.n6, hp.y2, hp.k7, hp.n7, hp.y3, hp.k8, hp.n8, hp.y4, hp.k9, hp.n9, hp.y5, hp.k10, hp.n10, hp.y6, hp.k11, hp.n11, hp.p0, hp.p1, hp.p2, hp.k13, hp.n13, hp.q0, hp.q1, hp.k14, hp.k15, hp.k16, hp.n16, hp.k17, hp.n17, hp.rH, hp.kH, hp.rP, hp.kP, hp.rQ, hp.kQ, nI_1, nI_add, nI_clamp, nI_pin, nI_neg, nI_nonneg, nI_leE, nI_ltE, nI_eqE, Nat.not_le, Nat.not_lt, fq_10, fq_01, fq_rr, ix_aald, ix_aast, ix_abs, ix_alen, ix_aload, ix_aret, ix_astore, ix_bald, ix_bast, ix_call, ix_cpyI, ix_cpyJ, ix_dead, ix_dup2, ix_dup2L, ix_dupI, ix_dupR, ix_dupx1, ix_getI, ix_getJ, ix_getR, ix_gfm, ix_gtab, ix_i2b, ix_i2c, ix_i2l, ix_i2s, ix_iadd, ix_iald, ix_iand, ix_iast, ix_icall, ix_icmp_eq, ix_icmp_ge, ix_icmp_gt, ix_icmp_le, ix_icmp_lt, ix_icmp_ne, ix_idiv, ix_if_eq, ix_if_ge, ix_if_gt, ix_if_le, ix_if_lt, ix_if_ne, ix_iinc, ix_iload, ix_imul, ix_ineg, ix_ior, ix_irem, ix_iret, ix_ishl, ix_ishr, ix_istore, ix_isub, ix_iushr, ix_ixor, ix_l2i, ix_ladd, ix_lald, ix_land, ix_last, ix_lcmp, ix_ldcS, ix_ldiv, ix_lload, ix_lmul, ix_lor, ix_lrem, ix_lret, ix_lshl, ix_lstore, ix_lsub, ix_lsw, ix_max, ix_min, ix_new, ix_newa, ix_nret, ix_oinit, ix_pop2L, ix_popI, ix_pushI, ix_pushL, ix_putI, ix_putJ, ix_putR, ix_putZ, ix_sbald, ix_sgetC, ix_sgetV, ix_slen, ix_strc, ix_tald, ix_tsw, ix_vcall, ix_vret, ix_zret, stL, stL2, kilL, popN, fq_sw, fq_lsw, List.map_cons, List.map_nil, List.getElem?_cons_zero, List.getElem?_cons_succ, Option.toList_some, Option.toList_none, List.cons_append, List.nil_append, List.length_cons, List.length_nil, List.sum_cons, List.sum_nil, cat_i, cat_l, cat_r, true_and, and_true, Nat.zero_add, Nat.add_zero, Nat.le_refl, Nat.zero_le, Nat.reduceAdd, Nat.reduceLeDiff, exists_eq_left', Option.some.injEq, not_true_eq_false, not_false_eq_true, false_implies, true_implies, implies_true, and_self, or_true, true_or, or_false, false_or]
      refine h1 hd _ _ ?_ ?_
      · exact (((((yF.rd hF1).u (by omega)).u (by omega)).u (by omega)).u (by omega)).u (by omega)
      · unfold yrE
        rw [if_neg (by decide), if_pos rfl, Nat.add_sub_cancel, hOo, nI_tn (by omega)]
        dsimp only
        have hH0 := hH
        obtain ⟨-, -, -, f8, -, -, f7, fR, f9, f10, f11, f12, f13⟩ := hH
        dsimp only at f8 f7 f9 f10 f11 f12 f13
        rw [hm, nI_tn (by omega)] at f7
        have fo : ∀ a i, 5 ≤ a → a < 11 → i ≠ m → u2 (u2 (u2 (u2 (u2 I1 t 4 (nI d')) (p + 5) m 22) (p + 11) m (nI o)) (p + 11) o (nI m)) (p + 4) 7 (nI (m + 1)) (p + a) i = I (p + a) i := fun a i h1 h2 h3 => by
          rw [u2_ca _ _ _ _ _ _ (by omega), u2_ca _ _ _ _ _ _ (by omega), u2_ca _ _ _ _ _ _ (by omega), u2_ck _ _ _ _ _ _ h3, u2_ca _ _ _ _ _ _ (by omega), hF1.1 _ (by omega)]
        have f5 : u2 (u2 (u2 (u2 (u2 I1 t 4 (nI d')) (p + 5) m 22) (p + 11) m (nI o)) (p + 11) o (nI m)) (p + 4) 7 (nI (m + 1)) (p + 5) m = 22 := by
          simp (disch := omega) only [u2_same, u2_ca, u2_ck]
        have fm : u2 (u2 (u2 (u2 (u2 I1 t 4 (nI d')) (p + 5) m 22) (p + 11) m (nI o)) (p + 11) o (nI m)) (p + 4) 7 (nI (m + 1)) (p + 11) m = nI o := by
          simp (disch := omega) only [u2_same, u2_ca, u2_ck]
        have fo2 : u2 (u2 (u2 (u2 (u2 I1 t 4 (nI d')) (p + 5) m 22) (p + 11) m (nI o)) (p + 11) o (nI m)) (p + 4) 7 (nI (m + 1)) (p + 11) o = nI m := by
          simp (disch := omega) only [u2_same, u2_ca, u2_ck]
        have fi : ∀ i, i ≠ m → i ≠ o → u2 (u2 (u2 (u2 (u2 I1 t 4 (nI d')) (p + 5) m 22) (p + 11) m (nI o)) (p + 11) o (nI m)) (p + 4) 7 (nI (m + 1)) (p + 11) i = I (p + 11) i := fun i h1 h2 => by
          simp (disch := omega) only [u2_same, u2_ca, u2_ck]
          rw [hF1.1 _ (by omega)]
        have fa : ∀ a, a ≠ t → ¬ (p + 4 ≤ a ∧ a < p + 12) → a ≠ X + 11 → u2 (u2 (u2 (u2 (u2 I1 t 4 (nI d')) (p + 5) m 22) (p + 11) m (nI o)) (p + 11) o (nI m)) (p + 4) 7 (nI (m + 1)) a = I a := fun a h1 h2 h3 => by
          rw [u2_ne (by omega), u2_ne (by omega), u2_ne (by omega), u2_ne (by omega), u2_ne (by omega), hF1.1 _ h3]
        have Bo : ∀ j, j < 2602 + 6 * m → j ≠ 2387 → j ≠ 2602 + 6 * o + 4 → uA (uA (yrB A 20) (2602 + 6 * m + 4) (nI o)) (2602 + 6 * o + 4) (nI m) j = A j := fun j h1 h2 h3 => by
          rw [uA_n _ _ _ _ h3, uA_n _ _ _ _ (by omega), yrB_o A 20 hm m6 j h1 h2]
        have Bm : uA (uA (yrB A 20) (2602 + 6 * m + 4) (nI o)) (2602 + 6 * o + 4) (nI m) 2387 = nI (m + 1) := by
          rw [uA_n _ _ _ _ (by omega), uA_n _ _ _ _ (by omega), yrB_m A 20 hm m6]
        have B0 : uA (uA (yrB A 20) (2602 + 6 * m + 4) (nI o)) (2602 + 6 * o + 4) (nI m) (2602 + 6 * m + 0) = 20 := by
          rw [uA_n _ _ _ _ (by omega), uA_n _ _ _ _ (by omega), Nat.add_zero, yrB_0 A 20 hm m6]
        have B4 : uA (uA (yrB A 20) (2602 + 6 * m + 4) (nI o)) (2602 + 6 * o + 4) (nI m) (2602 + 6 * m + 4) = nI o := by
          rw [uA_n _ _ _ _ (by omega), uA_e]
        refine ⟨hH1.fr ?_ rfl, e1, ?_, ?_, ?_, fun i hi => ?_, fun i hi => ?_, ⟨?_, ?_⟩, ?_, ?_, ?_, ?_, ?_⟩
        · rw [u2_ne (by omega), u2_ne (by omega), u2_ne (by omega), u2_ne (by omega), u2_ne (by omega)]
        · dsimp only
          rw [Bm, u2_same]
        · dsimp only
          rw [u2_ck _ _ _ _ _ _ (by omega), u2_ca _ _ _ _ _ _ (by omega), u2_ca _ _ _ _ _ _ (by omega), u2_ca _ _ _ _ _ _ (by omega), u2_ca _ _ _ _ _ _ (by omega), hF1.1 _ (by omega)]
          exact f8
        · dsimp only
          simp (disch := omega) only [u2_same, u2_ca, u2_ck]
        · dsimp only at hi ⊢
          rw [fa _ (by omega) (by omega) (by omega)]
          exact g6 i (by omega)
        · dsimp only at hi ⊢
          rw [Bm, nI_tn (by omega)] at hi
          by_cases q : i = m
          · subst q
            refine ⟨Or.inl ⟨20, by omega, by omega, by omega, B0, f5, fun r => by omega, fun r => by omega⟩, fun _ _ => ?_⟩
            exact fm.trans B4.symm
          · refine ⟨(f7 i (by omega)).1.mv (fun a h1 h2 => fo a i h1 h2 q) (fun j h1 h2 => Bo _ (by omega) (by omega) (by omega)), fun k => ?_⟩
            by_cases q2 : i = o
            · subst q2
              intro _
              show _ = uA (uA (yrB A 20) (2602 + 6 * m + 4) (nI i)) (2602 + 6 * i + 4) (nI m) (2602 + 6 * i + 4)
              rw [uA_e]
              exact fo2
            · refine ((f7 i (by omega)).2 (fun j hj => ?_)).mv (fo 5 i (by omega) (by omega) q) (fi i q q2) (Bo _ (by omega) (by omega) (by omega))
              by_cases q3 : j = d'
              · subst q3
                rw [hOo]
                exact fun r => q2 ((nI_eq (by omega) (by omega)).mp r).symm
              · exact k j (by omega)
        · rw [u2_ne (by omega), u2_ne (by omega), u2_ne (by omega), u2_ne (by omega), u2_ne (by omega)]
          exact (hF1.2.1 10 (by omega) (by omega) (by omega) (by omega) (by omega) (by omega)).trans fR.1
        · rw [u2_ne (by omega), u2_ne (by omega), u2_ne (by omega), u2_ne (by omega), u2_ne (by omega)]
          exact (hF1.2.1 11 (by omega) (by omega) (by omega) (by omega) (by omega) (by omega)).trans fR.2
        · dsimp only
          rw [fa s (by omega) (by omega) (by omega), Bo 0 (by omega) (by omega) (by omega)]
          exact f9
        · dsimp only
          rw [fa s (by omega) (by omega) (by omega), Bo 1 (by omega) (by omega) (by omega)]
          exact f10
        · dsimp only
          rw [Bo 0 (by omega) (by omega) (by omega)]
          exact f11
        · dsimp only
          rw [Bo 1 (by omega) (by omega) (by omega)]
          exact f12
        · dsimp only
          rw [Bo 0 (by omega) (by omega) (by omega), Bo 1 (by omega) (by omega) (by omega)]
          exact f13.mv f11.2 f12.2 (fun a _ _ => by rw [hF1.2.2 a (by omega)])
    · simp (disch := omega) only [B_X10_takeEnd_15, nI_1, nI_add, nI_clamp, nI_pin, nI_neg, nI_nonneg, nI_leE, nI_ltE, nI_eqE, Nat.not_le, Nat.not_lt, fq_10, fq_01, fq_rr, ix_aald, ix_aast, ix_abs, ix_alen, ix_aload, ix_aret, ix_astore, ix_bald, ix_bast, ix_call, ix_cpyI, ix_cpyJ, ix_dead, ix_dup2, ix_dup2L, ix_dupI, ix_dupR, ix_dupx1, ix_getI, ix_getJ, ix_getR, ix_gfm, ix_gtab, ix_i2b, ix_i2c, ix_i2l, ix_i2s, ix_iadd, ix_iald, ix_iand, ix_iast, ix_icall, ix_icmp_eq, ix_icmp_ge, ix_icmp_gt, ix_icmp_le, ix_icmp_lt, ix_icmp_ne, ix_idiv, ix_if_eq, ix_if_ge, ix_if_gt, ix_if_le, ix_if_lt, ix_if_ne, ix_iinc, ix_iload, ix_imul, ix_ineg, ix_ior, ix_irem, ix_iret, ix_ishl, ix_ishr, ix_istore, ix_isub, ix_iushr, ix_ixor, ix_l2i, ix_ladd, ix_lald, ix_land, ix_last, ix_lcmp, ix_ldcS, ix_ldiv, ix_lload, ix_lmul, ix_lor, ix_lrem, ix_lret, ix_lshl, ix_lstore, ix_lsub, ix_lsw, ix_max, ix_min, ix_new, ix_newa, ix_nret, ix_oinit, ix_pop2L, ix_popI, ix_pushI, ix_pushL, ix_putI, ix_putJ, ix_putR, ix_putZ, ix_sbald, ix_sgetC, ix_sgetV, ix_slen, ix_strc, ix_tald, ix_tsw, ix_vcall, ix_vret, ix_zret, stL, stL2, kilL, popN, fq_sw, fq_lsw, List.map_cons, List.map_nil, List.getElem?_cons_zero, List.getElem?_cons_succ, Option.toList_some, Option.toList_none, List.cons_append, List.nil_append, List.length_cons, List.length_nil, List.sum_cons, List.sum_nil, cat_i, cat_l, cat_r, true_and, and_true, Nat.zero_add, Nat.add_zero, Nat.le_refl, Nat.zero_le, Nat.reduceAdd, Nat.reduceLeDiff, exists_eq_left', Option.some.injEq, not_true_eq_false, not_false_eq_true, false_implies, true_implies, implies_true, and_self, or_true, true_or, or_false, false_or]
      refine h0 ?_
      exact (nI_eq (a := d) (b := 0) (by omega) (by omega)).mp q
  · exact h.elim
