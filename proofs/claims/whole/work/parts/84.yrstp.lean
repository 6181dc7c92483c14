/-! a year's text of the class: a step -/
theorem pFd_in {T : Nat → Int32} {n b m t : Nat} {s σ : PSt} (h : pFd T n b m t s = .inr σ) : ∃ v, σ = (uA s.1 t v, s.2.1, tE T n s.2.2) := by
  unfold pFd pE at h
  split at h
  · cases h
  · split at h
    · cases h
    · cases h
      exact ⟨_, rfl⟩
theorem pNum_in {T : Nat → Int32} {n k : Nat} {lo hi : Int32} {s σ : PSt} (h : pNum T n k lo hi s = .inr σ) : ∃ v, σ = (uA s.1 k v, s.2.1, tE T n s.2.2) := by
  unfold pNum pE at h
  split at h
  · cases h
  · split at h
    · cases h
    · cases h
      exact ⟨_, rfl⟩
theorem pB_in {x : PR} {f : PSt → PR} {σ : PSt} (h : pB x f = .inr σ) : ∃ σ1, x = .inr σ1 ∧ f σ1 = .inr σ := by
  cases x with
  | inl y => cases h
  | inr s => exact ⟨s, rfl, h⟩
theorem pTs_in {T : Nat → Int32} {n r hm pm : Nat} {s σ : PSt} (h : pTs T n r hm pm s = .inr σ) : (kwI T n s.2.2 = 23 ∧ σ = (uA s.1 r 1823, s.2.1, tE T n s.2.2)) ∨ ∃ (c v1 v2 v5 : Int32), ((kwI T n s.2.2 = 22 ∧ c = 1822) ∨ (kwI T n s.2.2 = 6 ∧ c = 1806)) ∧ σ = (uA (uA (uA (uA s.1 r c) (r + 1) v1) (r + 5) v5) (r + 2) v2, s.2.1, tE T n (tE T n (tE T n (tE T n s.2.2)))) := by
  unfold pTs at h
  split at h
  · cases h
  · next g =>
    have g : kwI T n s.2.2 = 22 ∨ kwI T n s.2.2 = 6 ∨ kwI T n s.2.2 = 23 := Classical.byContradiction g
    split at h
    · next q =>
      cases h
      exact Or.inl ⟨q, rfl⟩
    · next q =>
      obtain ⟨σ1, h1, h2⟩ := pB_in h
      split at h2
      · cases h2
      · obtain ⟨v2, h2⟩ := pNum_in h2
        split at h1
        · next q2 =>
          obtain ⟨v1, rfl⟩ := pFd_in h1
          exact Or.inr ⟨1822, v1, v2, _, Or.inl ⟨q2, rfl⟩, h2⟩
        · next q2 =>
          obtain ⟨v1, rfl⟩ := pFd_in h1
          refine Or.inr ⟨1806, v1, v2, _, Or.inr ⟨?_, rfl⟩, h2⟩
          rcases g with g | g | g
          · exact absurd g q2
          · exact g
          · exact absurd g q
theorem wk_v : (wk (nI 12)).toInt = 12 ∧ (wk (nI 13)).toInt = 13 ∧ (wk (nI 14)).toInt = 14 ∧ (wk (nI 15)).toInt = 15 ∧ (wk (nI 16)).toInt = 16 ∧ (wk (nI 17)).toInt = 17 ∧ (wk (nI 18)).toInt = 18 ∧ (wk (nI 19)).toInt = 21 ∧ (wk (nI 21)).toInt = 23 := by decide +kernel
theorem wk_t (j : Nat) (h1 : j < 22) (h2 : 12 ≤ j) (h3 : j ≠ 20) (i : Nat) (hi : i < 10) (h : (wk (nI j)).toInt = 12 + (i : Int)) : (i = 9 → j = 19) ∧ (i ≠ 9 → j = 12 + i) ∧ i ≠ 7 ∧ i ≠ 8 := by
  obtain ⟨v0, v1, v2, v3, v4, v5, v6, v7, v8⟩ := wk_v
  rcases (show j = 12 ∨ j = 13 ∨ j = 14 ∨ j = 15 ∨ j = 16 ∨ j = 17 ∨ j = 18 ∨ j = 19 ∨ j = 21 by omega) with rfl | rfl | rfl | rfl | rfl | rfl | rfl | rfl | rfl <;> omega
theorem wk_t2 (j : Nat) (h1 : j < 21) (h2 : 12 ≤ j) (h3 : j ≠ 20) : ∃ i : Nat, i < 10 ∧ (wk (nI j)).toInt = 12 + (i : Int) := by
  obtain ⟨v0, v1, v2, v3, v4, v5, v6, v7, v8⟩ := wk_v
  rcases (show j = 12 ∨ j = 13 ∨ j = 14 ∨ j = 15 ∨ j = 16 ∨ j = 17 ∨ j = 18 ∨ j = 19 by omega) with rfl | rfl | rfl | rfl | rfl | rfl | rfl | rfl
  · exact ⟨0, by omega, by omega⟩
  · exact ⟨1, by omega, by omega⟩
  · exact ⟨2, by omega, by omega⟩
  · exact ⟨3, by omega, by omega⟩
  · exact ⟨4, by omega, by omega⟩
  · exact ⟨5, by omega, by omega⟩
  · exact ⟨6, by omega, by omega⟩
  · exact ⟨9, by omega, by omega⟩
theorem CEY.fx {X s p t : Nat} {I I1 I2 : IH} {J J2 : JH} {T : Nat → Int32} {n e : Nat} {k : Int32} {f : PSt → YR} {Q1 Q0 : IH → JH → Prop} (h : CEY X s p t I J T n (yB (pE T n k e) f) Q1 Q0) (hF : yF X p t I I2 J J2) (e2 : I2 (X + 11) = rej I1 X T n e k (X + 11)) : Q0 I2 J2 := by
  refine h _ _ hF ?_ ?_
  · rw [e2]
    unfold rej
    rw [u2_ck _ _ _ _ _ _ (by omega), u2_same]
  · rw [e2]
    unfold rej
    rw [u2_same]
def sp_X10_takeStep (G : GT) : Sp := fun as S I J z Q => match as with
  | [.ref a, .int b] => ∃ (X s p t m : Nat) (T : Nat → Int32) (n : Nat) (A : Nat → Int32) (N : Nat → Int64) (e d c : Nat) (O : Nat → Int32), t = a ∧ b = wk (kwI T n e) ∧ yxS S X s p t ∧ rdE S I J X T n ∧ ytH X s p t I J T n ((A, N, e), d, c, O) ∧ A 2387 = nI m ∧ m < 60 ∧ d ≤ 3 ∧ c < 30 ∧ ¬ (kwI T n e < 12 ∨ 21 < kwI T n e) ∧ ¬ kwI T n e = 20 ∧ ((kwI T n e = 18 ∨ kwI T n e = 19) → d < 3) ∧ CEY X s p t I J T n (yB (pYo T n (kwI T n e) (2602 + 6 * m) (A 0).toNatClampNeg (A 1).toNatClampNeg (yrB A (kwI T n e), N, tE T n e)) (fun s2 => .inr (yrE (kwI T n e) m s2 d (c + 1) O))) (fun I' J' => Q (some (.int 1)) S I' J' z) (fun I' J' => Q (some (.int 0)) S I' J' z)
  | _ => False
set_option maxHeartbeats 4000000 in
set_option maxRecDepth 20000 in
theorem c_X10_takeStep {l : Launch} {G : GT} {D : Nat} : ∀ as S I J z Q, sp_X10_takeStep G as S I J z Q → fqCall l G M_X10_takeStep (D + 5) 0 0 as S I J z Q := by
  intro as S I J z Q h
  unfold sp_X10_takeStep at h
  split at h
  · next a b =>
    obtain ⟨X, s, p, t, m, T, n, A, N, e, d, c, O, rfl, rfl, hx, hE, hH, hm, m6, hd3, hc3, hk, k20, kd, hR⟩ := h
    have hx0 := hx
    obtain ⟨x1, x2, x3, x4, x5, x6, x7, hs, hp, l1, l2, l3, l4, l5⟩ := hx
    have s1 := hE.1.1
    have hq := hH.q hE
    have g3 := hH.2.2.1
    have g4 := hH.2.2.2.1
    have g5 := hH.2.2.2.2.1
    have g6 := hH.2.2.2.2.2.1
    dsimp only at hq g3 g4 g5 g6
    rw [hm] at g3
    have e1 := (tFE hq.2.2 (T := T)).2.2.2
    have e2 := (tFE e1 (T := T)).2.2.2
    have e3 := (tFE e2 (T := T)).2.2.2
    have e4 := (tFE e3 (T := T)).2.2.2
    have e5 := (tFE e4 (T := T)).2.2.2
    have h2 : tK T n e = 2 := Classical.byContradiction fun q => by
      rw [kwI_n q] at hk
      exact hk (Or.inl (by decide))
    obtain ⟨j, j1, j2, j20, hj⟩ : ∃ j, j < 22 ∧ 12 ≤ j ∧ j ≠ 20 ∧ kwI T n e = nI j := by
      rcases kw_r T n e with q | ⟨j, hj, q⟩
      · rw [q] at hk
        exact absurd (Or.inl (by decide)) hk
      · rw [q] at hk k20
        refine ⟨j, ?_, ?_, fun r => k20 (by rw [r]; rfl), q⟩
        · refine Classical.byContradiction fun r => hk (Or.inr ?_)
          exact (nI_ltI (a := 21) (b := j) (by omega) (by omega)).mpr (by omega)
        · refine Classical.byContradiction fun r => hk (Or.inl ?_)
          exact (nI_ltI (a := j) (b := 12) (by omega) (by omega)).mpr (by omega)
    rw [hj] at hR kd ⊢
    clear hk k20
    have wi := wk_t j j1 j2 j20
    have wd : (∀ i : Nat, i < 10 → ¬ (wk (nI j)).toInt = 12 + (i : Int)) → j = 21 := fun h => Classical.byContradiction fun q => by
      obtain ⟨i, h1, h2⟩ := wk_t2 j (by omega) j2 j20
      exact h i h1 h2
    refine fq_enter [some (.ref t), some (.int (wk (nI j))), none] (by decide +kernel) (Nat.le_of_ble_eq_true rfl) rfl (b_X10_takeStep_0 _ _ _ _ _ _ _ _ ?_)
    simp (disch := omega) only [B_X10_takeStep_0, x1, x2, x3, x4, s1, hp.k, hp.r0, hp.k1, hp.r1, hp.k2, hp.r2, hp.k3, hp.r3, hp.k4, hp.r4, hp.k12, hp.n1, hp.n2, hp.n3, hp.y0, hp.k5, hp.n5, hp.y1, hp.k6, hp.n6, hp.y2, hp.k7, hp.n7, hp.y3, hp.k8, hp.n8, hp.y4, hp.k9, hp.n9, hp.y5, hp.k10, hp.n10, hp.y6, hp.k11, hp.n11, hp.p0, hp.p1, hp.p2, hp.k13, hp.n13, hp.q0, hp.q1, hp.k14, hp.k15, hp.k16, hp.n16, hp.k17, hp.n17, hp.rH, hp.kH, hp.rP, hp.kP, hp.rQ, hp.kQ, nI_1, nI_add, nI_clamp, nI_pin, nI_neg, nI_nonneg, nI_leE, nI_ltE, nI_eqE, Nat.not_le, Nat.not_lt, fq_10, fq_01, fq_rr, ix_aald, ix_aast, ix_abs, ix_alen, ix_aload, ix_aret, ix_astore, ix_bald, ix_bast, ix_call, ix_cpyI, ix_cpyJ, ix_dead, ix_dup2, ix_dup2L, ix_dupI, ix_dupR, ix_dupx1, ix_getI, ix_getJ, ix_getR, ix_gfm, ix_gtab, ix_i2b, ix_i2c, ix_i2l, ix_i2s, ix_iadd, ix_iald, ix_iand, ix_iast, ix_icall, ix_icmp_eq, ix_icmp_ge, ix_icmp_gt, ix_icmp_le, ix_icmp_lt, ix_icmp_ne, ix_idiv, ix_if_eq, ix_if_ge, ix_if_gt, ix_if_le, ix_if_lt, ix_if_ne, ix_iinc, ix_iload, ix_imul, ix_ineg, ix_ior, ix_irem, ix_iret, ix_ishl, ix_ishr, ix_istore, ix_isub, ix_iushr, ix_ixor, ix_l2i, ix_ladd, ix_lald, ix_land, ix_last, ix_lcmp, ix_ldcS, ix_ldiv, ix_lload, ix_lmul, ix_lor, ix_lrem, ix_lret, ix_lshl, ix_lstore, ix_lsub, ix_lsw, ix_max, ix_min, ix_new, ix_newa, ix_nret, ix_oinit, ix_pop2L, ix_popI, ix_pushI, ix_pushL, ix_putI, ix_putJ, ix_putR, ix_putZ, ix_sbald, ix_sgetC, ix_sgetV, ix_slen, ix_strc, ix_tald, ix_tsw, ix_vcall, ix_vret, ix_zret, stL, stL2, kilL, popN, fq_sw, fq_lsw, List.map_cons, List.map_nil, List.getElem?_cons_zero, List.getElem?_cons_succ, Option.toList_some, Option.toList_none, List.cons_append, List.nil_append, List.length_cons, List.length_nil, List.sum_cons, List.sum_nil, cat_i, cat_l, cat_r, true_and, and_true, Nat.zero_add, Nat.add_zero, Nat.le_refl, Nat.zero_le, Nat.reduceAdd, Nat.reduceLeDiff, exists_eq_left', Option.some.injEq, not_true_eq_false, not_false_eq_true, false_implies, true_implies, implies_true, and_self, or_true, true_or, or_false, false_or]
    refine adv_R hq (by rw [h2]; decide) (fun I1 J1 hF1 hH1 => ?_)
    have y7 : I1 (p + 4) 7 = nI m := by rw [hF1.1 _ (by omega)]; exact g3
    have y8 : I1 (p + 4) 8 = nI c := by rw [hF1.1 _ (by omega)]; exact g4
    simp (disch := omega) only [B_X10_takeStep_7, x1, x2, x3, x4, s1, y7, y8, u2_same, u2_ca, u2_ck, hp.k, hp.r0, hp.k1, hp.r1, hp.k2, hp.r2, hp.k3, hp.r3, hp.k4, hp.r4, hp.k12, hp.n1, hp.n2, hp.n3, hp.y0, hp.k5, hp.n5, hp.y1, hp.k6, hp.n6, hp.y2, hp.k7, hp.n7, hp.y3, hp.k8, hp.n8, hp.y4, hp.k9, hp.n9, hp.y5, hp.k10, hp.n10, hp.y6, hp.k11, hp.n11, hp.p0, hp.p1, hp.p2, hp.k13, hp.n13, hp.q0, hp.q1, hp.k14, hp.k15, hp.k16, hp.n16, hp.k17, hp.n17, hp.rH, hp.kH, hp.rP, hp.kP, hp.rQ, hp.kQ, nI_1, nI_add, nI_clamp, nI_pin, nI_neg, nI_nonneg, nI_leE, nI_ltE, nI_eqE, Nat.not_le, Nat.not_lt, fq_10, fq_01, fq_rr, ix_aald, ix_aast, ix_abs, ix_alen, ix_aload, ix_aret, ix_astore, ix_bald, ix_bast, ix_call, ix_cpyI, ix_cpyJ, ix_dead, ix_dup2, ix_dup2L, ix_dupI, ix_dupR, ix_dupx1, ix_getI, ix_getJ, ix_getR, ix_gfm, ix_gtab, ix_i2b, ix_i2c, ix_i2l, ix_i2s, ix_iadd, ix_iald, ix_iand, ix_iast, ix_icall, ix_icmp_eq, ix_icmp_ge, ix_icmp_gt, ix_icmp_le, ix_icmp_lt, ix_icmp_ne, ix_idiv, ix_if_eq, ix_if_ge, ix_if_gt, ix_if_le, ix_if_lt, ix_if_ne, ix_iinc, ix_iload, ix_imul, ix_ineg, ix_ior, ix_irem, ix_iret, ix_ishl, ix_ishr, ix_istore, ix_isub, ix_iushr, ix_ixor, ix_l2i, ix_ladd, ix_lald, ix_land, ix_last, ix_lcmp, ix_ldcS, ix_ldiv, ix_lload, ix_lmul, ix_lor, ix_lrem, ix_lret, ix_lshl, ix_lstore, ix_lsub, ix_lsw, ix_max, ix_min, ix_new, ix_newa, ix_nret, ix_oinit, ix_pop2L, ix_popI, ix_pushI, ix_pushL, ix_putI, ix_putJ, ix_putR, ix_putZ, ix_sbald, ix_sgetC, ix_sgetV, ix_slen, ix_strc, ix_tald, ix_tsw, ix_vcall, ix_vret, ix_zret, stL, stL2, kilL, popN, fq_sw, fq_lsw, List.map_cons, List.map_nil, List.getElem?_cons_zero, List.getElem?_cons_succ, Option.toList_some, Option.toList_none, List.cons_append, List.nil_append, List.length_cons, List.length_nil, List.sum_cons, List.sum_nil, cat_i, cat_l, cat_r, true_and, and_true, Nat.zero_add, Nat.add_zero, Nat.le_refl, Nat.zero_le, Nat.reduceAdd, Nat.reduceLeDiff, exists_eq_left', Option.some.injEq, not_true_eq_false, not_false_eq_true, false_implies, true_implies, implies_true, and_self, or_true, true_or, or_false, false_or]
    generalize hI2 : u2 (u2 (u2 I1 (p + 5) m (wk (nI j))) (p + 4) 7 (nI (m + 1))) (p + 4) 8 (nI (c + 1)) = I2
    have z5 : I2 (p + 5) m = wk (nI j) := by rw [← hI2]; simp (disch := omega) only [u2_same, u2_ca, u2_ck]
    have z7 : I2 (p + 4) 7 = nI (m + 1) := by rw [← hI2]; simp (disch := omega) only [u2_same, u2_ca, u2_ck]
    have z8 : I2 (p + 4) 8 = nI (c + 1) := by rw [← hI2]; simp (disch := omega) only [u2_same, u2_ca, u2_ck]
    have zo : ∀ a, 5 ≤ a → a < 12 → ∀ i, i ≠ m → I2 (p + a) i = I (p + a) i := fun a h1 h2 i h3 => by
      rw [← hI2, u2_ca _ _ _ _ _ _ (by omega), u2_ca _ _ _ _ _ _ (by omega), u2_ck _ _ _ _ _ _ h3, hF1.1 _ (by omega)]
    have za : ∀ a, ¬ (p + 4 ≤ a ∧ a < p + 12) → I2 a = I1 a := fun a h => by
      rw [← hI2, u2_ne (by omega), u2_ne (by omega), u2_ne (by omega)]
    have F2 : yF X p t I I2 J J1 := by
      rw [← hI2]
      exact (((yF.rd hF1).u (by omega)).u (by omega)).u (by omega)
    have hq2 : rdQ S I2 J1 X T n (tE T n e) := by
      rw [← hI2]
      exact (((hq.nx hF1 hH1).u (by omega) (by omega)).u (by omega) (by omega)).u (by omega) (by omega)
    clear hI2
    have zs : I2 s = I s := (za s (by omega)).trans (hF1.1 s (by omega))
    have z4 : I2 t 4 = nI d := by rw [za t (by omega), hF1.1 _ (by omega)]; exact g5
    have zO : ∀ i, i < d → I2 (t + 1) i = O i := fun i hi => by rw [za _ (by omega), hF1.1 _ (by omega)]; exact g6 i hi
    have zR : ∀ k, I2 (X + 11) k = I1 (X + 11) k := fun k => by rw [za _ (by omega)]
    have f9 := hH.2.2.2.2.2.2.2.2.1
    have f10 := hH.2.2.2.2.2.2.2.2.2.1
    have f11 := hH.2.2.2.2.2.2.2.2.2.2.1
    have f12 := hH.2.2.2.2.2.2.2.2.2.2.2.1
    have f13 := hH.2.2.2.2.2.2.2.2.2.2.2.2
    dsimp only at f9 f10 f11 f12 f13
    have c5 : I2 s 5 = A 0 := by rw [zs]; exact f9
    have c6 : I2 s 6 = A 1 := by rw [zs]; exact f10
    have ej : ∀ a, a ≠ X + 11 → J1 a = J a := fun a q => hF1.2.2 a q
    have nm5 : ∀ i, i < (A 0).toNatClampNeg → nmP (J1 (s + 18 + i) 0) (N (0 + i)) := fun i hi => by rw [ej _ (by omega)]; exact f13.1 i hi
    have nm6 : ∀ i, i < (A 1).toNatClampNeg → nmP (J1 (s + 24 + i) 0) (N (6 + i)) := fun i hi => by rw [ej _ (by omega)]; exact f13.2 i hi
    -- the end of a step
    have fin : ∀ (σ : PSt) (d' : Nat) (O' : Nat → Int32) (W I' : IH) (J' : JH), (∀ a, ¬ (p + 4 ≤ a ∧ a < p + 12) → a ≠ t → a ≠ t + 1 → W a = I2 a) → W (p + 4) = I2 (p + 4) → (∀ a, 5 ≤ a → a < 12 → ∀ i, i ≠ m → W (p + a) i = I2 (p + a) i) → W t 4 = nI d' → (∀ i, i < d' → W (t + 1) i = O' i) → rdF (X + 11) W I' J1 J' → rdH (X + 11) I' J' T n σ.2.2 → σ.2.2 ≤ n → (∀ i, i < 2602 + 6 * m → i ≠ 2387 → σ.1 i = A i) → σ.1 2387 = nI (m + 1) → σ.2.1 = N → rowA W p m (fun i => σ.1 (2602 + 6 * m + i)) → ((∀ i, i < d' → ¬ O' i = nI m) → prtR W p m (fun i => σ.1 (2602 + 6 * m + i))) → (∀ i, i < m → (∀ k, k < d' → ¬ O' k = nI i) → ∀ k, k < d → ¬ O k = nI i) → yF X p t I I' J J' ∧ ytH X s p t I' J' T n (σ, d', c + 1, O') := by
      intro σ d' O' W I' J' w1 w2 w3 w4 w5 hF hG hn a1 a2 a3 hr hpt hoo
      have f : ∀ a, a ≠ X + 11 → I' a = W a := hF.1
      refine ⟨⟨fun a h1 h2 h3 h4 => ?_, fun a h1 => (hF.2.2 a h1).trans (ej a h1)⟩, hH.nx hm m6 σ d' (c + 1) O' hG hn a1 a2 a3 ?_ ?_ ?_ (fun i hi => ?_) (fun a h1 h2 i hi => ?_) (hr.mv (fun a h1 h2 => ?_) (fun _ _ _ => rfl)) (fun q => (hpt q).mv ?_ ?_ rfl) hoo ?_ ?_ ?_ l1 (fun a h1 => (hF.2.2 a h1).trans (ej a h1))⟩
      · rw [f a h1, w1 a h4 h2 h3]
        exact F2.1 a h1 h2 h3 h4
      · rw [f _ (by omega), w2]
        exact z7
      · rw [f _ (by omega), w2]
        exact z8
      · rw [f _ (by omega)]
        exact w4
      · rw [f _ (by omega)]
        exact w5 i hi
      · rw [f _ (by omega), w3 a h1 h2 i (by omega)]
        exact zo a h1 h2 i (by omega)
      · rw [f _ (by omega)]
      · rw [f _ (by omega)]
      · rw [f _ (by omega)]
      · rw [hF.2.1 10 (by omega) (by omega) (by omega) (by omega) (by omega) (by omega), w1 _ (by omega) (by omega) (by omega), zR]
        exact hF1.2.1 10 (by omega) (by omega) (by omega) (by omega) (by omega) (by omega)
      · rw [hF.2.1 11 (by omega) (by omega) (by omega) (by omega) (by omega) (by omega), w1 _ (by omega) (by omega) (by omega), zR]
        exact hF1.2.1 11 (by omega) (by omega) (by omega) (by omega) (by omega) (by omega)
      · rw [f _ (by omega), w1 _ (by omega) (by omega) (by omega)]
        exact zs
    have b206 : (j = 13 ∨ j = 15 ∨ j = 16 ∨ j = 17 ∨ j = 21) → B_X10_takeStep_206 G 0 0 Q [some (.ref t), some (.int (wk (nI j))), some (.int (nI m))] [] S I2 J1 z 0 0 := by
      intro hj5
      simp (disch := omega) only [B_X10_takeStep_206, nI_1, nI_add, nI_clamp, nI_pin, nI_neg, nI_nonneg, nI_leE, nI_ltE, nI_eqE, Nat.not_le, Nat.not_lt, fq_10, fq_01, fq_rr, ix_aald, ix_aast, ix_abs, ix_alen, ix_aload, ix_aret, ix_astore, ix_bald, ix_bast, ix_call, ix_cpyI, ix_cpyJ, ix_dead, ix_dup2, ix_dup2L, ix_dupI, ix_dupR, ix_dupx1, ix_getI, ix_getJ, ix_getR, ix_gfm, ix_gtab, ix_i2b, ix_i2c, ix_i2l, ix_i2s, ix_iadd, ix_iald, ix_iand, ix_iast, ix_icall, ix_icmp_eq, ix_icmp_ge, ix_icmp_gt, ix_icmp_le, ix_icmp_lt, ix_icmp_ne, ix_idiv, ix_if_eq, ix_if_ge, ix_if_gt, ix_if_le, ix_if_lt, ix_if_ne, ix_iinc, ix_iload, ix_imul, ix_ineg, ix_ior, ix_irem, ix_iret, ix_ishl, ix_ishr, ix_istore, ix_isub, ix_iushr, ix_ixor, ix_l2i, ix_ladd, ix_lald, ix_land, ix_last, ix_lcmp, ix_ldcS, ix_ldiv, ix_lload, ix_lmul, ix_lor, ix_lrem, ix_lret, ix_lshl, ix_lstore, ix_lsub, ix_lsw, ix_max, ix_min, ix_new, ix_newa, ix_nret, ix_oinit, ix_pop2L, ix_popI, ix_pushI, ix_pushL, ix_putI, ix_putJ, ix_putR, ix_putZ, ix_sbald, ix_sgetC, ix_sgetV, ix_slen, ix_strc, ix_tald, ix_tsw, ix_vcall, ix_vret, ix_zret, stL, stL2, kilL, popN, fq_sw, fq_lsw, List.map_cons, List.map_nil, List.getElem?_cons_zero, List.getElem?_cons_succ, Option.toList_some, Option.toList_none, List.cons_append, List.nil_append, List.length_cons, List.length_nil, List.sum_cons, List.sum_nil, cat_i, cat_l, cat_r, true_and, and_true, Nat.zero_add, Nat.add_zero, Nat.le_refl, Nat.zero_le, Nat.reduceAdd, Nat.reduceLeDiff, exists_eq_left', Option.some.injEq, not_true_eq_false, not_false_eq_true, false_implies, true_implies, implies_true, and_self, or_true, true_or, or_false, false_or]
      have nk : ∀ v : Nat, v < 100 → j ≠ v → ¬ nI j = nI v := fun v hv q r => q ((nI_eq (by omega) (by omega)).mp r)
      have pv : ¬ (I2 (p + 5) m = 18 ∨ I2 (p + 5) m = 21 ∨ I2 (p + 5) m = 22) := by
        rw [z5]
        rcases hj5 with rfl | rfl | rfl | rfl | rfl <;> decide
      have n12 : ¬ nI j = 12 := nk 12 (by omega) (by omega)
      have n14 : ¬ nI j = 14 := nk 14 (by omega) (by omega)
      have n18 : ¬ nI j = 18 := nk 18 (by omega) (by omega)
      have n19 : ¬ nI j = 19 := nk 19 (by omega) (by omega)
      have n20 : ¬ nI j = 20 := nk 20 (by omega) (by omega)
      unfold pYo at hR
      rw [if_neg n12, if_neg n14, if_neg n19, if_neg n18] at hR
      dsimp only [yB] at hR
      unfold yrE at hR
      rw [if_neg (fun r => r.elim n18 n19), if_neg n20] at hR
      obtain ⟨u1, u2'⟩ := fin (yrB A (nI j), N, tE T n e) d O I2 I2 J1 (fun _ _ _ _ => rfl) rfl (fun _ _ _ _ _ => rfl) z4 zO rdF.rf hq2.2.1 e1 (fun i h1 h2 => yrB_o A (nI j) hm m6 i h1 h2) (yrB_m A (nI j) hm m6) rfl (Or.inl ⟨j, by omega, by omega, by omega, yrB_0 A (nI j) hm m6, z5, fun r => by omega, fun r => by omega⟩) (fun _ r => absurd r pv) (fun i _ h => h)
      exact hR _ _ u1 u2'
    refine ⟨fun q => ?_, fun n0 => ⟨fun q => ?_, fun n1 => ⟨fun q => ?_, fun n2 => ⟨fun q => ?_, fun n3 => ⟨fun q => ?_, fun n4 => ⟨fun q => ?_, fun n5 => ⟨fun q => ?_, fun n6 => ⟨fun q => ?_, fun n7 => ⟨fun q => ?_, fun n8 => ⟨fun q => ?_, fun n9 => ?_⟩⟩⟩⟩⟩⟩⟩⟩⟩⟩
    · obtain rfl : j = 12 := (wi 0 (by omega) (q.trans (by decide))).2.1 (by omega)
      unfold pYo at hR
      rw [if_pos (show nI 12 = 12 from rfl)] at hR
      refine ⟨X, s, p, t, m, T, n, (yrB A (nI 12), N, tE T n e), 2602 + 6 * m, rfl, rfl, by omega, hx0, hq2, by rw [c6]; exact f12, fun i hi => nm6 i (by rw [c6] at hi; exact hi), ?_⟩
      rw [c6]
      cases hv : pB (pFd T n 6 (A 1).toNatClampNeg (2602 + 6 * m + 1) (yrB A (nI 12), N, tE T n e)) (pFd T n 6 (A 1).toNatClampNeg (2602 + 6 * m + 2)) with
      | inl f =>
        rw [hv] at hR
        intro I' J' hF a b
        simp (disch := omega) only [B_X10_takeStep_113, nI_1, nI_add, nI_clamp, nI_pin, nI_neg, nI_nonneg, nI_leE, nI_ltE, nI_eqE, Nat.not_le, Nat.not_lt, fq_10, fq_01, fq_rr, ix_aald, ix_aast, ix_abs, ix_alen, ix_aload, ix_aret, ix_astore, ix_bald, ix_bast, ix_call, ix_cpyI, ix_cpyJ, ix_dead, ix_dup2, ix_dup2L, ix_dupI, ix_dupR, ix_dupx1, ix_getI, ix_getJ, ix_getR, ix_gfm, ix_gtab, ix_i2b, ix_i2c, ix_i2l, ix_i2s, ix_iadd, ix_iald, ix_iand, ix_iast, ix_icall, ix_icmp_eq, ix_icmp_ge, ix_icmp_gt, ix_icmp_le, ix_icmp_lt, ix_icmp_ne, ix_idiv, ix_if_eq, ix_if_ge, ix_if_gt, ix_if_le, ix_if_lt, ix_if_ne, ix_iinc, ix_iload, ix_imul, ix_ineg, ix_ior, ix_irem, ix_iret, ix_ishl, ix_ishr, ix_istore, ix_isub, ix_iushr, ix_ixor, ix_l2i, ix_ladd, ix_lald, ix_land, ix_last, ix_lcmp, ix_ldcS, ix_ldiv, ix_lload, ix_lmul, ix_lor, ix_lrem, ix_lret, ix_lshl, ix_lstore, ix_lsub, ix_lsw, ix_max, ix_min, ix_new, ix_newa, ix_nret, ix_oinit, ix_pop2L, ix_popI, ix_pushI, ix_pushL, ix_putI, ix_putJ, ix_putR, ix_putZ, ix_sbald, ix_sgetC, ix_sgetV, ix_slen, ix_strc, ix_tald, ix_tsw, ix_vcall, ix_vret, ix_zret, stL, stL2, kilL, popN, fq_sw, fq_lsw, List.map_cons, List.map_nil, List.getElem?_cons_zero, List.getElem?_cons_succ, Option.toList_some, Option.toList_none, List.cons_append, List.nil_append, List.length_cons, List.length_nil, List.sum_cons, List.sum_nil, cat_i, cat_l, cat_r, true_and, and_true, Nat.zero_add, Nat.add_zero, Nat.le_refl, Nat.zero_le, Nat.reduceAdd, Nat.reduceLeDiff, exists_eq_left', Option.some.injEq, not_true_eq_false, not_false_eq_true, false_implies, true_implies, implies_true, and_self, or_true, true_or, or_false, false_or]
        exact hR I' J' (F2.tr hF) a b
      | inr σ =>
        rw [hv] at hR
        obtain ⟨σ1, v1, v2⟩ := pB_in hv
        obtain ⟨v, rfl⟩ := pFd_in v1
        obtain ⟨w, rfl⟩ := pFd_in v2
        intro I' J' hF hG
        simp (disch := omega) only [B_X10_takeStep_113, nI_1, nI_add, nI_clamp, nI_pin, nI_neg, nI_nonneg, nI_leE, nI_ltE, nI_eqE, Nat.not_le, Nat.not_lt, fq_10, fq_01, fq_rr, ix_aald, ix_aast, ix_abs, ix_alen, ix_aload, ix_aret, ix_astore, ix_bald, ix_bast, ix_call, ix_cpyI, ix_cpyJ, ix_dead, ix_dup2, ix_dup2L, ix_dupI, ix_dupR, ix_dupx1, ix_getI, ix_getJ, ix_getR, ix_gfm, ix_gtab, ix_i2b, ix_i2c, ix_i2l, ix_i2s, ix_iadd, ix_iald, ix_iand, ix_iast, ix_icall, ix_icmp_eq, ix_icmp_ge, ix_icmp_gt, ix_icmp_le, ix_icmp_lt, ix_icmp_ne, ix_idiv, ix_if_eq, ix_if_ge, ix_if_gt, ix_if_le, ix_if_lt, ix_if_ne, ix_iinc, ix_iload, ix_imul, ix_ineg, ix_ior, ix_irem, ix_iret, ix_ishl, ix_ishr, ix_istore, ix_isub, ix_iushr, ix_ixor, ix_l2i, ix_ladd, ix_lald, ix_land, ix_last, ix_lcmp, ix_ldcS, ix_ldiv, ix_lload, ix_lmul, ix_lor, ix_lrem, ix_lret, ix_lshl, ix_lstore, ix_lsub, ix_lsw, ix_max, ix_min, ix_new, ix_newa, ix_nret, ix_oinit, ix_pop2L, ix_popI, ix_pushI, ix_pushL, ix_putI, ix_putJ, ix_putR, ix_putZ, ix_sbald, ix_sgetC, ix_sgetV, ix_slen, ix_strc, ix_tald, ix_tsw, ix_vcall, ix_vret, ix_zret, stL, stL2, kilL, popN, fq_sw, fq_lsw, List.map_cons, List.map_nil, List.getElem?_cons_zero, List.getElem?_cons_succ, Option.toList_some, Option.toList_none, List.cons_append, List.nil_append, List.length_cons, List.length_nil, List.sum_cons, List.sum_nil, cat_i, cat_l, cat_r, true_and, and_true, Nat.zero_add, Nat.add_zero, Nat.le_refl, Nat.zero_le, Nat.reduceAdd, Nat.reduceLeDiff, exists_eq_left', Option.some.injEq, not_true_eq_false, not_false_eq_true, false_implies, true_implies, implies_true, and_self, or_true, true_or, or_false, false_or]
        dsimp only [yB] at hR hF hG
        unfold yrE at hR
        rw [if_neg (by decide), if_neg (by decide)] at hR
        rw [uA_n _ _ _ _ (by omega), uA_e, uA_e] at hF
        obtain ⟨u1, u2'⟩ := fin (uA (uA (yrB A (nI 12)) (2602 + 6 * m + 1) v) (2602 + 6 * m + 2) w, N, tE T n (tE T n (tE T n e))) d O (u2 (u2 I2 (p + 7) m v) (p + 8) m w) I' J' (fun a h1 h2 h3 => by rw [u2_ne (by omega), u2_ne (by omega)]) (by rw [u2_ne (by omega), u2_ne (by omega)]) (fun a h1 h2 i h3 => by rw [u2_ck _ _ _ _ _ _ h3, u2_ck _ _ _ _ _ _ h3]) (by rw [u2_ne (by omega), u2_ne (by omega)]; exact z4) (fun i hi => by rw [u2_ne (by omega), u2_ne (by omega)]; exact zO i hi) hF hG e3 (fun i h1 h2 => by (try dsimp only); rw [uA_n _ _ _ _ (by omega), uA_n _ _ _ _ (by omega), yrB_o A (nI 12) hm m6 i h1 h2]) (by (try dsimp only); rw [uA_n _ _ _ _ (by omega), uA_n _ _ _ _ (by omega), yrB_m A (nI 12) hm m6]) rfl (Or.inl ⟨12, by omega, by omega, by omega, by (try dsimp only); rw [uA_n _ _ _ _ (by omega), uA_n _ _ _ _ (by omega), Nat.add_zero, yrB_0 A (nI 12) hm m6], by rw [u2_ca _ _ _ _ _ _ (by omega), u2_ca _ _ _ _ _ _ (by omega)]; exact z5, fun _ => ⟨by rw [u2_ca _ _ _ _ _ _ (by omega), u2_same]; (try dsimp only); rw [uA_n _ _ _ _ (by omega), uA_e], by rw [u2_same]; (try dsimp only); rw [uA_e]⟩, fun r => by omega⟩) (fun _ r => absurd r (by rw [u2_ca _ _ _ _ _ _ (by omega), u2_ca _ _ _ _ _ _ (by omega), z5]; decide)) (fun i _ h => h)
        exact hR _ _ u1 u2'
    · exact b206 (by have := (wi 1 (by omega) (q.trans (by decide))).2.1 (by omega); omega)
    · obtain rfl : j = 14 := (wi 2 (by omega) (q.trans (by decide))).2.1 (by omega)
      unfold pYo pNum at hR
      rw [if_neg (show ¬ nI 14 = 12 by decide), if_pos (show nI 14 = 14 from rfl)] at hR
      dsimp only at hR
      refine ⟨X, T, n, tE T n e, rfl, hq2, fun g => ?_, fun g g2 => ?_, fun g g2 I3 J3 hF3 hH3 => ?_⟩
      · rw [if_pos g] at hR
        simp (disch := omega) only [B_X10_takeStep_132, B_X10_takeStep_151, x1, x2, x3, x4, s1, u2_same, hp.k, hp.r0, hp.k1, hp.r1, hp.k2, hp.r2, hp.k3, hp.r3, hp.k4, hp.r4, hp.k12, hp.n1, hp.n2, hp.n3, hp.y0, hp.k5, hp.n5, hp.y1, hp.k6, hp.n6, hp.y2, hp.k7, hp.n7, hp.y3, hp.k8, hp.n8, hp.y4, hp.k9, hp.n9, hp.y5, hp.k10, hp.n10, hp.y6, hp.k11, hp.n11, hp.p0, hp.p1, hp.p2, hp.k13, hp.n13, hp.q0, hp.q1, hp.k14, hp.k15, hp.k16, hp.n16, hp.k17, hp.n17, hp.rH, hp.kH, hp.rP, hp.kP, hp.rQ, hp.kQ, nI_1, nI_add, nI_clamp, nI_pin, nI_neg, nI_nonneg, nI_leE, nI_ltE, nI_eqE, Nat.not_le, Nat.not_lt, fq_10, fq_01, fq_rr, ix_aald, ix_aast, ix_abs, ix_alen, ix_aload, ix_aret, ix_astore, ix_bald, ix_bast, ix_call, ix_cpyI, ix_cpyJ, ix_dead, ix_dup2, ix_dup2L, ix_dupI, ix_dupR, ix_dupx1, ix_getI, ix_getJ, ix_getR, ix_gfm, ix_gtab, ix_i2b, ix_i2c, ix_i2l, ix_i2s, ix_iadd, ix_iald, ix_iand, ix_iast, ix_icall, ix_icmp_eq, ix_icmp_ge, ix_icmp_gt, ix_icmp_le, ix_icmp_lt, ix_icmp_ne, ix_idiv, ix_if_eq, ix_if_ge, ix_if_gt, ix_if_le, ix_if_lt, ix_if_ne, ix_iinc, ix_iload, ix_imul, ix_ineg, ix_ior, ix_irem, ix_iret, ix_ishl, ix_ishr, ix_istore, ix_isub, ix_iushr, ix_ixor, ix_l2i, ix_ladd, ix_lald, ix_land, ix_last, ix_lcmp, ix_ldcS, ix_ldiv, ix_lload, ix_lmul, ix_lor, ix_lrem, ix_lret, ix_lshl, ix_lstore, ix_lsub, ix_lsw, ix_max, ix_min, ix_new, ix_newa, ix_nret, ix_oinit, ix_pop2L, ix_popI, ix_pushI, ix_pushL, ix_putI, ix_putJ, ix_putR, ix_putZ, ix_sbald, ix_sgetC, ix_sgetV, ix_slen, ix_strc, ix_tald, ix_tsw, ix_vcall, ix_vret, ix_zret, stL, stL2, kilL, popN, fq_sw, fq_lsw, List.map_cons, List.map_nil, List.getElem?_cons_zero, List.getElem?_cons_succ, Option.toList_some, Option.toList_none, List.cons_append, List.nil_append, List.length_cons, List.length_nil, List.sum_cons, List.sum_nil, cat_i, cat_l, cat_r, true_and, and_true, Nat.zero_add, Nat.add_zero, Nat.le_refl, Nat.zero_le, Nat.reduceAdd, Nat.reduceLeDiff, exists_eq_left', Option.some.injEq, not_true_eq_false, not_false_eq_true, false_implies, true_implies, implies_true, and_self, or_true, true_or, or_false, false_or]
        exact hR.fx (((F2).tr yF.rj).u (by omega)) (u2_ne (by omega))
      · rw [if_neg (fun q => q g), if_pos g2] at hR
        simp (disch := omega) only [B_X10_takeStep_132, B_X10_takeStep_151, x1, x2, x3, x4, s1, u2_same, hp.k, hp.r0, hp.k1, hp.r1, hp.k2, hp.r2, hp.k3, hp.r3, hp.k4, hp.r4, hp.k12, hp.n1, hp.n2, hp.n3, hp.y0, hp.k5, hp.n5, hp.y1, hp.k6, hp.n6, hp.y2, hp.k7, hp.n7, hp.y3, hp.k8, hp.n8, hp.y4, hp.k9, hp.n9, hp.y5, hp.k10, hp.n10, hp.y6, hp.k11, hp.n11, hp.p0, hp.p1, hp.p2, hp.k13, hp.n13, hp.q0, hp.q1, hp.k14, hp.k15, hp.k16, hp.n16, hp.k17, hp.n17, hp.rH, hp.kH, hp.rP, hp.kP, hp.rQ, hp.kQ, nI_1, nI_add, nI_clamp, nI_pin, nI_neg, nI_nonneg, nI_leE, nI_ltE, nI_eqE, Nat.not_le, Nat.not_lt, fq_10, fq_01, fq_rr, ix_aald, ix_aast, ix_abs, ix_alen, ix_aload, ix_aret, ix_astore, ix_bald, ix_bast, ix_call, ix_cpyI, ix_cpyJ, ix_dead, ix_dup2, ix_dup2L, ix_dupI, ix_dupR, ix_dupx1, ix_getI, ix_getJ, ix_getR, ix_gfm, ix_gtab, ix_i2b, ix_i2c, ix_i2l, ix_i2s, ix_iadd, ix_iald, ix_iand, ix_iast, ix_icall, ix_icmp_eq, ix_icmp_ge, ix_icmp_gt, ix_icmp_le, ix_icmp_lt, ix_icmp_ne, ix_idiv, ix_if_eq, ix_if_ge, ix_if_gt, ix_if_le, ix_if_lt, ix_if_ne, ix_iinc, ix_iload, ix_imul, ix_ineg, ix_ior, ix_irem, ix_iret, ix_ishl, ix_ishr, ix_istore, ix_isub, ix_iushr, ix_ixor, ix_l2i, ix_ladd, ix_lald, ix_land, ix_last, ix_lcmp, ix_ldcS, ix_ldiv, ix_lload, ix_lmul, ix_lor, ix_lrem, ix_lret, ix_lshl, ix_lstore, ix_lsub, ix_lsw, ix_max, ix_min, ix_new, ix_newa, ix_nret, ix_oinit, ix_pop2L, ix_popI, ix_pushI, ix_pushL, ix_putI, ix_putJ, ix_putR, ix_putZ, ix_sbald, ix_sgetC, ix_sgetV, ix_slen, ix_strc, ix_tald, ix_tsw, ix_vcall, ix_vret, ix_zret, stL, stL2, kilL, popN, fq_sw, fq_lsw, List.map_cons, List.map_nil, List.getElem?_cons_zero, List.getElem?_cons_succ, Option.toList_some, Option.toList_none, List.cons_append, List.nil_append, List.length_cons, List.length_nil, List.sum_cons, List.sum_nil, cat_i, cat_l, cat_r, true_and, and_true, Nat.zero_add, Nat.add_zero, Nat.le_refl, Nat.zero_le, Nat.reduceAdd, Nat.reduceLeDiff, exists_eq_left', Option.some.injEq, not_true_eq_false, not_false_eq_true, false_implies, true_implies, implies_true, and_self, or_true, true_or, or_false, false_or]
        exact hR.fx (((F2).tr yF.rj).u (by omega)) (u2_ne (by omega))
      · rw [if_neg (fun q => q g), if_neg (fun q => q g2)] at hR
        have hv3 : ¬ tV T n (tE T n e) = -1 := fun q => by
          have g2 := g2.1
          rw [q] at g2
          exact absurd g2 (by decide)
        simp (disch := omega) only [B_X10_takeStep_132, B_X10_takeStep_151, x1, x2, x3, x4, s1, u2_same, hp.k, hp.r0, hp.k1, hp.r1, hp.k2, hp.r2, hp.k3, hp.r3, hp.k4, hp.r4, hp.k12, hp.n1, hp.n2, hp.n3, hp.y0, hp.k5, hp.n5, hp.y1, hp.k6, hp.n6, hp.y2, hp.k7, hp.n7, hp.y3, hp.k8, hp.n8, hp.y4, hp.k9, hp.n9, hp.y5, hp.k10, hp.n10, hp.y6, hp.k11, hp.n11, hp.p0, hp.p1, hp.p2, hp.k13, hp.n13, hp.q0, hp.q1, hp.k14, hp.k15, hp.k16, hp.n16, hp.k17, hp.n17, hp.rH, hp.kH, hp.rP, hp.kP, hp.rQ, hp.kQ, nI_1, nI_add, nI_clamp, nI_pin, nI_neg, nI_nonneg, nI_leE, nI_ltE, nI_eqE, Nat.not_le, Nat.not_lt, fq_10, fq_01, fq_rr, ix_aald, ix_aast, ix_abs, ix_alen, ix_aload, ix_aret, ix_astore, ix_bald, ix_bast, ix_call, ix_cpyI, ix_cpyJ, ix_dead, ix_dup2, ix_dup2L, ix_dupI, ix_dupR, ix_dupx1, ix_getI, ix_getJ, ix_getR, ix_gfm, ix_gtab, ix_i2b, ix_i2c, ix_i2l, ix_i2s, ix_iadd, ix_iald, ix_iand, ix_iast, ix_icall, ix_icmp_eq, ix_icmp_ge, ix_icmp_gt, ix_icmp_le, ix_icmp_lt, ix_icmp_ne, ix_idiv, ix_if_eq, ix_if_ge, ix_if_gt, ix_if_le, ix_if_lt, ix_if_ne, ix_iinc, ix_iload, ix_imul, ix_ineg, ix_ior, ix_irem, ix_iret, ix_ishl, ix_ishr, ix_istore, ix_isub, ix_iushr, ix_ixor, ix_l2i, ix_ladd, ix_lald, ix_land, ix_last, ix_lcmp, ix_ldcS, ix_ldiv, ix_lload, ix_lmul, ix_lor, ix_lrem, ix_lret, ix_lshl, ix_lstore, ix_lsub, ix_lsw, ix_max, ix_min, ix_new, ix_newa, ix_nret, ix_oinit, ix_pop2L, ix_popI, ix_pushI, ix_pushL, ix_putI, ix_putJ, ix_putR, ix_putZ, ix_sbald, ix_sgetC, ix_sgetV, ix_slen, ix_strc, ix_tald, ix_tsw, ix_vcall, ix_vret, ix_zret, stL, stL2, kilL, popN, fq_sw, fq_lsw, List.map_cons, List.map_nil, List.getElem?_cons_zero, List.getElem?_cons_succ, Option.toList_some, Option.toList_none, List.cons_append, List.nil_append, List.length_cons, List.length_nil, List.sum_cons, List.sum_nil, cat_i, cat_l, cat_r, true_and, and_true, Nat.zero_add, Nat.add_zero, Nat.le_refl, Nat.zero_le, Nat.reduceAdd, Nat.reduceLeDiff, exists_eq_left', Option.some.injEq, not_true_eq_false, not_false_eq_true, false_implies, true_implies, implies_true, and_self, or_true, true_or, or_false, false_or]
        refine ⟨fun q => absurd q hv3, fun _ => ?_⟩
        dsimp only [yB] at hR
        unfold yrE at hR
        rw [if_neg (by decide), if_neg (by decide)] at hR
        obtain ⟨u1, u2'⟩ := fin (uA (yrB A (nI 14)) (2602 + 6 * m + 1) (tV T n (tE T n e)), N, tE T n (tE T n e)) d O (u2 I2 (p + 10) m (tV T n (tE T n e))) (u2 I3 (p + 10) m (tV T n (tE T n e))) J3 (fun a h1 h2 h3 => by rw [u2_ne (by omega)]) (by rw [u2_ne (by omega)]) (fun a h1 h2 i h3 => by rw [u2_ck _ _ _ _ _ _ h3]) (by rw [u2_ne (by omega)]; exact z4) (fun i hi => by rw [u2_ne (by omega)]; exact zO i hi) (hF3.u (by omega)) (hH3.fr (u2_ne (by omega)) rfl) e2 (fun i h1 h2 => by (try dsimp only); rw [uA_n _ _ _ _ (by omega), yrB_o A (nI 14) hm m6 i h1 h2]) (by (try dsimp only); rw [uA_n _ _ _ _ (by omega), yrB_m A (nI 14) hm m6]) rfl (Or.inl ⟨14, by omega, by omega, by omega, by (try dsimp only); rw [uA_n _ _ _ _ (by omega), Nat.add_zero, yrB_0 A (nI 14) hm m6], by rw [u2_ca _ _ _ _ _ _ (by omega)]; exact z5, fun r => by omega, fun _ => by rw [u2_same]; (try dsimp only); rw [uA_e]⟩) (fun _ r => absurd r (by rw [u2_ca _ _ _ _ _ _ (by omega), z5]; decide)) (fun i _ h => h)
        exact hR _ _ u1 u2'
    · exact b206 (by have := (wi 3 (by omega) (q.trans (by decide))).2.1 (by omega); omega)
    · exact b206 (by have := (wi 4 (by omega) (q.trans (by decide))).2.1 (by omega); omega)
    · exact b206 (by have := (wi 5 (by omega) (q.trans (by decide))).2.1 (by omega); omega)
    · obtain rfl : j = 18 := (wi 6 (by omega) (q.trans (by decide))).2.1 (by omega)
      have kd' : d < 3 := kd (Or.inl rfl)
      unfold pYo at hR
      rw [if_neg (show ¬ nI 18 = 12 by decide), if_neg (show ¬ nI 18 = 14 by decide), if_neg (show ¬ nI 18 = 19 by decide), if_pos (show nI 18 = 18 from rfl)] at hR
      simp (disch := omega) only [sp_X10_beginPart, B_X10_beginPart_0, B_X10_takeStep_200, x1, x2, x3, x4, x5, x6, x7, s1, z4, u2_same, u2_ca, u2_ck, hp.k, hp.r0, hp.k1, hp.r1, hp.k2, hp.r2, hp.k3, hp.r3, hp.k4, hp.r4, hp.k12, hp.n1, hp.n2, hp.n3, hp.y0, hp.k5, hp.n5, hp.y1, hp.k6, hp.n6, hp.y2, hp.k7, hp.n7, hp.y3, hp.k8, hp.n8, hp.y4, hp.k9, hp.n9, hp.y5, hp.k10, hp.n10, hp.y6, hp.k11, hp.n11, hp.p0, hp.p1, hp.p2, hp.k13, hp.n13, hp.q0, hp.q1, hp.k14, hp.k15, hp.k16, hp.n16, hp.k17, hp.n17, hp.rH, hp.kH, hp.rP, hp.kP, hp.rQ, hp.kQ, nI_1, nI_add, nI_clamp, nI_pin, nI_neg, nI_nonneg, nI_leE, nI_ltE, nI_eqE, Nat.not_le, Nat.not_lt, fq_10, fq_01, fq_rr, ix_aald, ix_aast, ix_abs, ix_alen, ix_aload, ix_aret, ix_astore, ix_bald, ix_bast, ix_call, ix_cpyI, ix_cpyJ, ix_dead, ix_dup2, ix_dup2L, ix_dupI, ix_dupR, ix_dupx1, ix_getI, ix_getJ, ix_getR, ix_gfm, ix_gtab, ix_i2b, ix_i2c, ix_i2l, ix_i2s, ix_iadd, ix_iald, ix_iand, ix_iast, ix_icall, ix_icmp_eq, ix_icmp_ge, ix_icmp_gt, ix_icmp_le, ix_icmp_lt, ix_icmp_ne, ix_idiv, ix_if_eq, ix_if_ge, ix_if_gt, ix_if_le, ix_if_lt, ix_if_ne, ix_iinc, ix_iload, ix_imul, ix_ineg, ix_ior, ix_irem, ix_iret, ix_ishl, ix_ishr, ix_istore, ix_isub, ix_iushr, ix_ixor, ix_l2i, ix_ladd, ix_lald, ix_land, ix_last, ix_lcmp, ix_ldcS, ix_ldiv, ix_lload, ix_lmul, ix_lor, ix_lrem, ix_lret, ix_lshl, ix_lstore, ix_lsub, ix_lsw, ix_max, ix_min, ix_new, ix_newa, ix_nret, ix_oinit, ix_pop2L, ix_popI, ix_pushI, ix_pushL, ix_putI, ix_putJ, ix_putR, ix_putZ, ix_sbald, ix_sgetC, ix_sgetV, ix_slen, ix_strc, ix_tald, ix_tsw, ix_vcall, ix_vret, ix_zret, stL, stL2, kilL, popN, fq_sw, fq_lsw, List.map_cons, List.map_nil, List.getElem?_cons_zero, List.getElem?_cons_succ, Option.toList_some, Option.toList_none, List.cons_append, List.nil_append, List.length_cons, List.length_nil, List.sum_cons, List.sum_nil, cat_i, cat_l, cat_r, true_and, and_true, Nat.zero_add, Nat.add_zero, Nat.le_refl, Nat.zero_le, Nat.reduceAdd, Nat.reduceLeDiff, exists_eq_left', Option.some.injEq, not_true_eq_false, not_false_eq_true, false_implies, true_implies, implies_true, and_self, or_true, true_or, or_false, false_or]
      have hq3 : rdQ S (u2 (u2 I2 (t + 1) d (nI m)) t 4 (nI (d + 1))) J1 X T n (tE T n e) := (hq2.u (by omega) (by omega)).u (by omega) (by omega)
      have F3 : yF X p t I (u2 (u2 I2 (t + 1) d (nI m)) t 4 (nI (d + 1))) J J1 := (F2.u (by omega)).u (by omega)
      have d5 : u2 (u2 I2 (t + 1) d (nI m)) t 4 (nI (d + 1)) s 5 = A 0 := by rw [u2_ne (by omega), u2_ne (by omega)]; exact c5
      have d6 : u2 (u2 I2 (t + 1) d (nI m)) t 4 (nI (d + 1)) s 6 = A 1 := by rw [u2_ne (by omega), u2_ne (by omega)]; exact c6
      have da : ∀ a, a ≠ t → a ≠ t + 1 → u2 (u2 I2 (t + 1) d (nI m)) t 4 (nI (d + 1)) a = I2 a := fun a h1 h2 => by rw [u2_ne h1, u2_ne h2]
      have dt : u2 (u2 I2 (t + 1) d (nI m)) t 4 (nI (d + 1)) t 4 = nI (d + 1) := by rw [u2_same]
      have dO : ∀ i, i < d + 1 → u2 (u2 I2 (t + 1) d (nI m)) t 4 (nI (d + 1)) (t + 1) i = uA O d (nI m) i := fun i hi => by
        rw [u2_ne (by omega)]
        by_cases q3 : i = d
        · rw [q3, u2_same, uA_e]
        · rw [u2_ck _ _ _ _ _ _ q3, uA_n _ _ _ _ q3]
          exact zO i (by omega)
      generalize u2 (u2 I2 (t + 1) d (nI m)) t 4 (nI (d + 1)) = I3 at hq3 F3 d5 d6 da dt dO ⊢
      have z53 : I3 (p + 5) m = 18 := by rw [da _ (by omega) (by omega)]; exact z5
      refine ⟨X, s, p, t, m, T, n, (yrB A (nI 18), N, tE T n e), 2602 + 6 * m, rfl, rfl, by omega, hx0, hq3, by rw [d5]; exact f11, by rw [d6]; exact f12, fun i hi => nm5 i (by rw [d5] at hi; exact hi), fun i hi => nm6 i (by rw [d6] at hi; exact hi), ?_⟩
      rw [d5, d6]
      cases hv : pTs T n (2602 + 6 * m) (A 0).toNatClampNeg (A 1).toNatClampNeg (yrB A (nI 18), N, tE T n e) with
      | inl f =>
        rw [hv] at hR
        intro I' J' hF a b
        simp (disch := omega) only [B_X10_takeStep_205, nI_1, nI_add, nI_clamp, nI_pin, nI_neg, nI_nonneg, nI_leE, nI_ltE, nI_eqE, Nat.not_le, Nat.not_lt, fq_10, fq_01, fq_rr, ix_aald, ix_aast, ix_abs, ix_alen, ix_aload, ix_aret, ix_astore, ix_bald, ix_bast, ix_call, ix_cpyI, ix_cpyJ, ix_dead, ix_dup2, ix_dup2L, ix_dupI, ix_dupR, ix_dupx1, ix_getI, ix_getJ, ix_getR, ix_gfm, ix_gtab, ix_i2b, ix_i2c, ix_i2l, ix_i2s, ix_iadd, ix_iald, ix_iand, ix_iast, ix_icall, ix_icmp_eq, ix_icmp_ge, ix_icmp_gt, ix_icmp_le, ix_icmp_lt, ix_icmp_ne, ix_idiv, ix_if_eq, ix_if_ge, ix_if_gt, ix_if_le, ix_if_lt, ix_if_ne, ix_iinc, ix_iload, ix_imul, ix_ineg, ix_ior, ix_irem, ix_iret, ix_ishl, ix_ishr, ix_istore, ix_isub, ix_iushr, ix_ixor, ix_l2i, ix_ladd, ix_lald, ix_land, ix_last, ix_lcmp, ix_ldcS, ix_ldiv, ix_lload, ix_lmul, ix_lor, ix_lrem, ix_lret, ix_lshl, ix_lstore, ix_lsub, ix_lsw, ix_max, ix_min, ix_new, ix_newa, ix_nret, ix_oinit, ix_pop2L, ix_popI, ix_pushI, ix_pushL, ix_putI, ix_putJ, ix_putR, ix_putZ, ix_sbald, ix_sgetC, ix_sgetV, ix_slen, ix_strc, ix_tald, ix_tsw, ix_vcall, ix_vret, ix_zret, stL, stL2, kilL, popN, fq_sw, fq_lsw, List.map_cons, List.map_nil, List.getElem?_cons_zero, List.getElem?_cons_succ, Option.toList_some, Option.toList_none, List.cons_append, List.nil_append, List.length_cons, List.length_nil, List.sum_cons, List.sum_nil, cat_i, cat_l, cat_r, true_and, and_true, Nat.zero_add, Nat.add_zero, Nat.le_refl, Nat.zero_le, Nat.reduceAdd, Nat.reduceLeDiff, exists_eq_left', Option.some.injEq, not_true_eq_false, not_false_eq_true, false_implies, true_implies, implies_true, and_self, or_true, true_or, or_false, false_or]
        exact hR I' J' (F3.tr hF) a b
      | inr σ =>
        rw [hv] at hR
        intro I' J' hF hG
        simp (disch := omega) only [B_X10_takeStep_205, nI_1, nI_add, nI_clamp, nI_pin, nI_neg, nI_nonneg, nI_leE, nI_ltE, nI_eqE, Nat.not_le, Nat.not_lt, fq_10, fq_01, fq_rr, ix_aald, ix_aast, ix_abs, ix_alen, ix_aload, ix_aret, ix_astore, ix_bald, ix_bast, ix_call, ix_cpyI, ix_cpyJ, ix_dead, ix_dup2, ix_dup2L, ix_dupI, ix_dupR, ix_dupx1, ix_getI, ix_getJ, ix_getR, ix_gfm, ix_gtab, ix_i2b, ix_i2c, ix_i2l, ix_i2s, ix_iadd, ix_iald, ix_iand, ix_iast, ix_icall, ix_icmp_eq, ix_icmp_ge, ix_icmp_gt, ix_icmp_le, ix_icmp_lt, ix_icmp_ne, ix_idiv, ix_if_eq, ix_if_ge, ix_if_gt, ix_if_le, ix_if_lt, ix_if_ne, ix_iinc, ix_iload, ix_imul, ix_ineg, ix_ior, ix_irem, ix_iret, ix_ishl, ix_ishr, ix_istore, ix_isub, ix_iushr, ix_ixor, ix_l2i, ix_ladd, ix_lald, ix_land, ix_last, ix_lcmp, ix_ldcS, ix_ldiv, ix_lload, ix_lmul, ix_lor, ix_lrem, ix_lret, ix_lshl, ix_lstore, ix_lsub, ix_lsw, ix_max, ix_min, ix_new, ix_newa, ix_nret, ix_oinit, ix_pop2L, ix_popI, ix_pushI, ix_pushL, ix_putI, ix_putJ, ix_putR, ix_putZ, ix_sbald, ix_sgetC, ix_sgetV, ix_slen, ix_strc, ix_tald, ix_tsw, ix_vcall, ix_vret, ix_zret, stL, stL2, kilL, popN, fq_sw, fq_lsw, List.map_cons, List.map_nil, List.getElem?_cons_zero, List.getElem?_cons_succ, Option.toList_some, Option.toList_none, List.cons_append, List.nil_append, List.length_cons, List.length_nil, List.sum_cons, List.sum_nil, cat_i, cat_l, cat_r, true_and, and_true, Nat.zero_add, Nat.add_zero, Nat.le_refl, Nat.zero_le, Nat.reduceAdd, Nat.reduceLeDiff, exists_eq_left', Option.some.injEq, not_true_eq_false, not_false_eq_true, false_implies, true_implies, implies_true, and_self, or_true, true_or, or_false, false_or]
        dsimp only [yB] at hR hF hG
        unfold yrE at hR
        rw [if_pos (show nI 18 = 18 ∨ nI 18 = 19 from Or.inl rfl)] at hR
        rcases pTs_in hv with ⟨k23, rfl⟩ | ⟨c', v1, v2, v5, hc', rfl⟩
        · dsimp only at k23
          unfold ttW at hF
          rw [if_pos k23, k23] at hF
          obtain ⟨u1, u2'⟩ := fin (uA (yrB A (nI 18)) (2602 + 6 * m) 1823, N, tE T n (tE T n e)) (d + 1) (uA O d (nI m)) (u2 I3 (p + 6) m (wk 23)) I' J' (fun a h1 h2 h3 => by rw [u2_ne (by omega), da a h2 h3]) (by rw [u2_ne (by omega), da _ (by omega) (by omega)]) (fun a h1 h2 i h3 => by rw [u2_ck _ _ _ _ _ _ h3, da _ (by omega) (by omega)]) (by rw [u2_ne (by omega)]; exact dt) (fun i hi => by rw [u2_ne (by omega)]; exact dO i hi) hF hG e2 (fun i h1 h2 => by (try dsimp only); rw [uA_n _ _ _ _ (by omega), yrB_o A (nI 18) hm m6 i h1 h2]) (by (try dsimp only); rw [uA_n _ _ _ _ (by omega), yrB_m A (nI 18) hm m6]) rfl (Or.inr ⟨by rw [u2_ca _ _ _ _ _ _ (by omega)]; exact z53, 23, by omega, by (try dsimp only); rw [Nat.add_zero, uA_e]; rfl, by rw [u2_same]; rfl, fun r => absurd rfl r⟩) (fun h => absurd (uA_e _ _ _) (h d (by omega))) (fun i hi h k hk => by
            have := h k (by omega)
            rw [uA_n _ _ _ _ (by omega)] at this
            exact this)
          exact hR _ _ u1 u2'
        · dsimp only at hc'
          have hk3 : ¬ kwI T n (tE T n e) = 23 := by rcases hc' with ⟨q, _⟩ | ⟨q, _⟩ <;> rw [q] <;> decide
          unfold ttW at hF
          rw [if_neg hk3] at hF
          dsimp only at hF
          simp (disch := omega) only [uA_n, uA_e] at hF
          obtain ⟨tt, ht1, ht2, ht3, ht4⟩ : ∃ tt, (tt = 6 ∨ tt = 22 ∨ tt = 23) ∧ c' = nI (1800 + tt) ∧ kwI T n (tE T n e) = nI tt ∧ tt ≠ 23 := by
            rcases hc' with ⟨q, r⟩ | ⟨q, r⟩
            · exact ⟨22, by omega, r, q, by omega⟩
            · exact ⟨6, by omega, r, q, by omega⟩
          obtain ⟨u1, u2'⟩ := fin (uA (uA (uA (uA (yrB A (nI 18)) (2602 + 6 * m) c') (2602 + 6 * m + 1) v1) (2602 + 6 * m + 5) v5) (2602 + 6 * m + 2) v2, N, tE T n (tE T n (tE T n (tE T n (tE T n e))))) (d + 1) (uA O d (nI m)) (u2 (u2 (u2 (u2 I3 (p + 6) m (wk (kwI T n (tE T n e)))) (p + 7) m v1) (p + 9) m v5) (p + 10) m v2) I' J' (fun a h1 h2 h3 => by rw [u2_ne (by omega), u2_ne (by omega), u2_ne (by omega), u2_ne (by omega), da a h2 h3]) (by rw [u2_ne (by omega), u2_ne (by omega), u2_ne (by omega), u2_ne (by omega), da _ (by omega) (by omega)]) (fun a h1 h2 i h3 => by rw [u2_ck _ _ _ _ _ _ h3, u2_ck _ _ _ _ _ _ h3, u2_ck _ _ _ _ _ _ h3, u2_ck _ _ _ _ _ _ h3, da _ (by omega) (by omega)]) (by rw [u2_ne (by omega), u2_ne (by omega), u2_ne (by omega), u2_ne (by omega)]; exact dt) (fun i hi => by rw [u2_ne (by omega), u2_ne (by omega), u2_ne (by omega), u2_ne (by omega)]; exact dO i hi) hF hG e5 (fun i h1 h2 => by (try dsimp only); rw [uA_n _ _ _ _ (by omega), uA_n _ _ _ _ (by omega), uA_n _ _ _ _ (by omega), uA_n _ _ _ _ (by omega), yrB_o A (nI 18) hm m6 i h1 h2]) (by (try dsimp only); rw [uA_n _ _ _ _ (by omega), uA_n _ _ _ _ (by omega), uA_n _ _ _ _ (by omega), uA_n _ _ _ _ (by omega), yrB_m A (nI 18) hm m6]) rfl (Or.inr ⟨by simp (disch := omega) only [u2_ca]; exact z53, tt, ht1, by (try dsimp only); rw [uA_n _ _ _ _ (by omega), uA_n _ _ _ _ (by omega), uA_n _ _ _ _ (by omega), Nat.add_zero, uA_e, ht2], by simp (disch := omega) only [u2_ca, u2_same, ht3], fun _ => ⟨by simp (disch := omega) only [u2_ca, u2_same, uA_n, uA_e], by simp (disch := omega) only [u2_ca, u2_same, uA_n, uA_e], by simp (disch := omega) only [u2_ca, u2_same, uA_n, uA_e]⟩⟩) (fun h => absurd (uA_e _ _ _) (h d (by omega))) (fun i hi h k hk => by
            have := h k (by omega)
            rw [uA_n _ _ _ _ (by omega)] at this
            exact this)
          exact hR _ _ u1 u2'
    · exact absurd rfl (wi 7 (by omega) (q.trans (by decide))).2.2.1
    · exact absurd rfl (wi 8 (by omega) (q.trans (by decide))).2.2.2
    · obtain rfl : j = 19 := (wi 9 (by omega) (q.trans (by decide))).1 rfl
      have kd' : d < 3 := kd (Or.inr rfl)
      unfold pYo pNum at hR
      rw [if_neg (show ¬ nI 19 = 12 by decide), if_neg (show ¬ nI 19 = 14 by decide), if_pos (show nI 19 = 19 from rfl)] at hR
      dsimp only at hR
      simp (disch := omega) only [sp_X10_beginPart, B_X10_beginPart_0, B_X10_takeStep_157, x1, x2, x3, x4, x5, x6, x7, s1, z4, u2_same, u2_ca, u2_ck, hp.k, hp.r0, hp.k1, hp.r1, hp.k2, hp.r2, hp.k3, hp.r3, hp.k4, hp.r4, hp.k12, hp.n1, hp.n2, hp.n3, hp.y0, hp.k5, hp.n5, hp.y1, hp.k6, hp.n6, hp.y2, hp.k7, hp.n7, hp.y3, hp.k8, hp.n8, hp.y4, hp.k9, hp.n9, hp.y5, hp.k10, hp.n10, hp.y6, hp.k11, hp.n11, hp.p0, hp.p1, hp.p2, hp.k13, hp.n13, hp.q0, hp.q1, hp.k14, hp.k15, hp.k16, hp.n16, hp.k17, hp.n17, hp.rH, hp.kH, hp.rP, hp.kP, hp.rQ, hp.kQ, nI_1, nI_add, nI_clamp, nI_pin, nI_neg, nI_nonneg, nI_leE, nI_ltE, nI_eqE, Nat.not_le, Nat.not_lt, fq_10, fq_01, fq_rr, ix_aald, ix_aast, ix_abs, ix_alen, ix_aload, ix_aret, ix_astore, ix_bald, ix_bast, ix_call, ix_cpyI, ix_cpyJ, ix_dead, ix_dup2, ix_dup2L, ix_dupI, ix_dupR, ix_dupx1, ix_getI, ix_getJ, ix_getR, ix_gfm, ix_gtab, ix_i2b, ix_i2c, ix_i2l, ix_i2s, ix_iadd, ix_iald, ix_iand, ix_iast, ix_icall, ix_icmp_eq, ix_icmp_ge, ix_icmp_gt, ix_icmp_le, ix_icmp_lt, ix_icmp_ne, ix_idiv, ix_if_eq, ix_if_ge, ix_if_gt, ix_if_le, ix_if_lt, ix_if_ne, ix_iinc, ix_iload, ix_imul, ix_ineg, ix_ior, ix_irem, ix_iret, ix_ishl, ix_ishr, ix_istore, ix_isub, ix_iushr, ix_ixor, ix_l2i, ix_ladd, ix_lald, ix_land, ix_last, ix_lcmp, ix_ldcS, ix_ldiv, ix_lload, ix_lmul, ix_lor, ix_lrem, ix_lret, ix_lshl, ix_lstore, ix_lsub, ix_lsw, ix_max, ix_min, ix_new, ix_newa, ix_nret, ix_oinit, ix_pop2L, ix_popI, ix_pushI, ix_pushL, ix_putI, ix_putJ, ix_putR, ix_putZ, ix_sbald, ix_sgetC, ix_sgetV, ix_slen, ix_strc, ix_tald, ix_tsw, ix_vcall, ix_vret, ix_zret, stL, stL2, kilL, popN, fq_sw, fq_lsw, List.map_cons, List.map_nil, List.getElem?_cons_zero, List.getElem?_cons_succ, Option.toList_some, Option.toList_none, List.cons_append, List.nil_append, List.length_cons, List.length_nil, List.sum_cons, List.sum_nil, cat_i, cat_l, cat_r, true_and, and_true, Nat.zero_add, Nat.add_zero, Nat.le_refl, Nat.zero_le, Nat.reduceAdd, Nat.reduceLeDiff, exists_eq_left', Option.some.injEq, not_true_eq_false, not_false_eq_true, false_implies, true_implies, implies_true, and_self, or_true, true_or, or_false, false_or]
      refine ⟨X, T, n, tE T n e, rfl, (hq2.u (by omega) (by omega)).u (by omega) (by omega), fun g => ?_, fun g g2 => ?_, fun g g2 I3 J3 hF3 hH3 => ?_⟩
      · rw [if_pos g] at hR
        simp (disch := omega) only [B_X10_takeStep_175, B_X10_takeStep_194, x1, x2, x3, x4, s1, u2_same, hp.k, hp.r0, hp.k1, hp.r1, hp.k2, hp.r2, hp.k3, hp.r3, hp.k4, hp.r4, hp.k12, hp.n1, hp.n2, hp.n3, hp.y0, hp.k5, hp.n5, hp.y1, hp.k6, hp.n6, hp.y2, hp.k7, hp.n7, hp.y3, hp.k8, hp.n8, hp.y4, hp.k9, hp.n9, hp.y5, hp.k10, hp.n10, hp.y6, hp.k11, hp.n11, hp.p0, hp.p1, hp.p2, hp.k13, hp.n13, hp.q0, hp.q1, hp.k14, hp.k15, hp.k16, hp.n16, hp.k17, hp.n17, hp.rH, hp.kH, hp.rP, hp.kP, hp.rQ, hp.kQ, nI_1, nI_add, nI_clamp, nI_pin, nI_neg, nI_nonneg, nI_leE, nI_ltE, nI_eqE, Nat.not_le, Nat.not_lt, fq_10, fq_01, fq_rr, ix_aald, ix_aast, ix_abs, ix_alen, ix_aload, ix_aret, ix_astore, ix_bald, ix_bast, ix_call, ix_cpyI, ix_cpyJ, ix_dead, ix_dup2, ix_dup2L, ix_dupI, ix_dupR, ix_dupx1, ix_getI, ix_getJ, ix_getR, ix_gfm, ix_gtab, ix_i2b, ix_i2c, ix_i2l, ix_i2s, ix_iadd, ix_iald, ix_iand, ix_iast, ix_icall, ix_icmp_eq, ix_icmp_ge, ix_icmp_gt, ix_icmp_le, ix_icmp_lt, ix_icmp_ne, ix_idiv, ix_if_eq, ix_if_ge, ix_if_gt, ix_if_le, ix_if_lt, ix_if_ne, ix_iinc, ix_iload, ix_imul, ix_ineg, ix_ior, ix_irem, ix_iret, ix_ishl, ix_ishr, ix_istore, ix_isub, ix_iushr, ix_ixor, ix_l2i, ix_ladd, ix_lald, ix_land, ix_last, ix_lcmp, ix_ldcS, ix_ldiv, ix_lload, ix_lmul, ix_lor, ix_lrem, ix_lret, ix_lshl, ix_lstore, ix_lsub, ix_lsw, ix_max, ix_min, ix_new, ix_newa, ix_nret, ix_oinit, ix_pop2L, ix_popI, ix_pushI, ix_pushL, ix_putI, ix_putJ, ix_putR, ix_putZ, ix_sbald, ix_sgetC, ix_sgetV, ix_slen, ix_strc, ix_tald, ix_tsw, ix_vcall, ix_vret, ix_zret, stL, stL2, kilL, popN, fq_sw, fq_lsw, List.map_cons, List.map_nil, List.getElem?_cons_zero, List.getElem?_cons_succ, Option.toList_some, Option.toList_none, List.cons_append, List.nil_append, List.length_cons, List.length_nil, List.sum_cons, List.sum_nil, cat_i, cat_l, cat_r, true_and, and_true, Nat.zero_add, Nat.add_zero, Nat.le_refl, Nat.zero_le, Nat.reduceAdd, Nat.reduceLeDiff, exists_eq_left', Option.some.injEq, not_true_eq_false, not_false_eq_true, false_implies, true_implies, implies_true, and_self, or_true, true_or, or_false, false_or]
        exact hR.fx ((((F2.u (by omega)).u (by omega)).tr yF.rj).u (by omega)) (u2_ne (by omega))
      · rw [if_neg (fun q => q g), if_pos g2] at hR
        simp (disch := omega) only [B_X10_takeStep_175, B_X10_takeStep_194, x1, x2, x3, x4, s1, u2_same, hp.k, hp.r0, hp.k1, hp.r1, hp.k2, hp.r2, hp.k3, hp.r3, hp.k4, hp.r4, hp.k12, hp.n1, hp.n2, hp.n3, hp.y0, hp.k5, hp.n5, hp.y1, hp.k6, hp.n6, hp.y2, hp.k7, hp.n7, hp.y3, hp.k8, hp.n8, hp.y4, hp.k9, hp.n9, hp.y5, hp.k10, hp.n10, hp.y6, hp.k11, hp.n11, hp.p0, hp.p1, hp.p2, hp.k13, hp.n13, hp.q0, hp.q1, hp.k14, hp.k15, hp.k16, hp.n16, hp.k17, hp.n17, hp.rH, hp.kH, hp.rP, hp.kP, hp.rQ, hp.kQ, nI_1, nI_add, nI_clamp, nI_pin, nI_neg, nI_nonneg, nI_leE, nI_ltE, nI_eqE, Nat.not_le, Nat.not_lt, fq_10, fq_01, fq_rr, ix_aald, ix_aast, ix_abs, ix_alen, ix_aload, ix_aret, ix_astore, ix_bald, ix_bast, ix_call, ix_cpyI, ix_cpyJ, ix_dead, ix_dup2, ix_dup2L, ix_dupI, ix_dupR, ix_dupx1, ix_getI, ix_getJ, ix_getR, ix_gfm, ix_gtab, ix_i2b, ix_i2c, ix_i2l, ix_i2s, ix_iadd, ix_iald, ix_iand, ix_iast, ix_icall, ix_icmp_eq, ix_icmp_ge, ix_icmp_gt, ix_icmp_le, ix_icmp_lt, ix_icmp_ne, ix_idiv, ix_if_eq, ix_if_ge, ix_if_gt, ix_if_le, ix_if_lt, ix_if_ne, ix_iinc, ix_iload, ix_imul, ix_ineg, ix_ior, ix_irem, ix_iret, ix_ishl, ix_ishr, ix_istore, ix_isub, ix_iushr, ix_ixor, ix_l2i, ix_ladd, ix_lald, ix_land, ix_last, ix_lcmp, ix_ldcS, ix_ldiv, ix_lload, ix_lmul, ix_lor, ix_lrem, ix_lret, ix_lshl, ix_lstore, ix_lsub, ix_lsw, ix_max, ix_min, ix_new, ix_newa, ix_nret, ix_oinit, ix_pop2L, ix_popI, ix_pushI, ix_pushL, ix_putI, ix_putJ, ix_putR, ix_putZ, ix_sbald, ix_sgetC, ix_sgetV, ix_slen, ix_strc, ix_tald, ix_tsw, ix_vcall, ix_vret, ix_zret, stL, stL2, kilL, popN, fq_sw, fq_lsw, List.map_cons, List.map_nil, List.getElem?_cons_zero, List.getElem?_cons_succ, Option.toList_some, Option.toList_none, List.cons_append, List.nil_append, List.length_cons, List.length_nil, List.sum_cons, List.sum_nil, cat_i, cat_l, cat_r, true_and, and_true, Nat.zero_add, Nat.add_zero, Nat.le_refl, Nat.zero_le, Nat.reduceAdd, Nat.reduceLeDiff, exists_eq_left', Option.some.injEq, not_true_eq_false, not_false_eq_true, false_implies, true_implies, implies_true, and_self, or_true, true_or, or_false, false_or]
        exact hR.fx ((((F2.u (by omega)).u (by omega)).tr yF.rj).u (by omega)) (u2_ne (by omega))
      · rw [if_neg (fun q => q g), if_neg (fun q => q g2)] at hR
        have hv3 : ¬ tV T n (tE T n e) = -1 := fun q => by
          have g2 := g2.1
          rw [q] at g2
          exact absurd g2 (by decide)
        simp (disch := omega) only [B_X10_takeStep_175, B_X10_takeStep_194, x1, x2, x3, x4, s1, u2_same, hp.k, hp.r0, hp.k1, hp.r1, hp.k2, hp.r2, hp.k3, hp.r3, hp.k4, hp.r4, hp.k12, hp.n1, hp.n2, hp.n3, hp.y0, hp.k5, hp.n5, hp.y1, hp.k6, hp.n6, hp.y2, hp.k7, hp.n7, hp.y3, hp.k8, hp.n8, hp.y4, hp.k9, hp.n9, hp.y5, hp.k10, hp.n10, hp.y6, hp.k11, hp.n11, hp.p0, hp.p1, hp.p2, hp.k13, hp.n13, hp.q0, hp.q1, hp.k14, hp.k15, hp.k16, hp.n16, hp.k17, hp.n17, hp.rH, hp.kH, hp.rP, hp.kP, hp.rQ, hp.kQ, nI_1, nI_add, nI_clamp, nI_pin, nI_neg, nI_nonneg, nI_leE, nI_ltE, nI_eqE, Nat.not_le, Nat.not_lt, fq_10, fq_01, fq_rr, ix_aald, ix_aast, ix_abs, ix_alen, ix_aload, ix_aret, ix_astore, ix_bald, ix_bast, ix_call, ix_cpyI, ix_cpyJ, ix_dead, ix_dup2, ix_dup2L, ix_dupI, ix_dupR, ix_dupx1, ix_getI, ix_getJ, ix_getR, ix_gfm, ix_gtab, ix_i2b, ix_i2c, ix_i2l, ix_i2s, ix_iadd, ix_iald, ix_iand, ix_iast, ix_icall, ix_icmp_eq, ix_icmp_ge, ix_icmp_gt, ix_icmp_le, ix_icmp_lt, ix_icmp_ne, ix_idiv, ix_if_eq, ix_if_ge, ix_if_gt, ix_if_le, ix_if_lt, ix_if_ne, ix_iinc, ix_iload, ix_imul, ix_ineg, ix_ior, ix_irem, ix_iret, ix_ishl, ix_ishr, ix_istore, ix_isub, ix_iushr, ix_ixor, ix_l2i, ix_ladd, ix_lald, ix_land, ix_last, ix_lcmp, ix_ldcS, ix_ldiv, ix_lload, ix_lmul, ix_lor, ix_lrem, ix_lret, ix_lshl, ix_lstore, ix_lsub, ix_lsw, ix_max, ix_min, ix_new, ix_newa, ix_nret, ix_oinit, ix_pop2L, ix_popI, ix_pushI, ix_pushL, ix_putI, ix_putJ, ix_putR, ix_putZ, ix_sbald, ix_sgetC, ix_sgetV, ix_slen, ix_strc, ix_tald, ix_tsw, ix_vcall, ix_vret, ix_zret, stL, stL2, kilL, popN, fq_sw, fq_lsw, List.map_cons, List.map_nil, List.getElem?_cons_zero, List.getElem?_cons_succ, Option.toList_some, Option.toList_none, List.cons_append, List.nil_append, List.length_cons, List.length_nil, List.sum_cons, List.sum_nil, cat_i, cat_l, cat_r, true_and, and_true, Nat.zero_add, Nat.add_zero, Nat.le_refl, Nat.zero_le, Nat.reduceAdd, Nat.reduceLeDiff, exists_eq_left', Option.some.injEq, not_true_eq_false, not_false_eq_true, false_implies, true_implies, implies_true, and_self, or_true, true_or, or_false, false_or]
        refine ⟨fun q => absurd q hv3, fun _ => ?_⟩
        dsimp only [yB] at hR
        unfold yrE at hR
        rw [if_pos (show nI 19 = 18 ∨ nI 19 = 19 from Or.inr rfl)] at hR
        obtain ⟨u1, u2'⟩ := fin (uA (yrB A (nI 19)) (2602 + 6 * m + 1) (tV T n (tE T n e)), N, tE T n (tE T n e)) (d + 1) (uA O d (nI m)) (u2 (u2 (u2 I2 (t + 1) d (nI m)) t 4 (nI (d + 1))) (p + 10) m (tV T n (tE T n e))) (u2 I3 (p + 10) m (tV T n (tE T n e))) J3 (fun a h1 h2 h3 => by rw [u2_ne (by omega)]; rw [u2_ne (by omega), u2_ne (by omega)]) (by rw [u2_ne (by omega)]; rw [u2_ne (by omega), u2_ne (by omega)]) (fun a h1 h2 i h3 => by rw [u2_ck _ _ _ _ _ _ h3]; rw [u2_ca _ _ _ _ _ _ (by omega), u2_ca _ _ _ _ _ _ (by omega)]) (by rw [u2_ne (by omega), u2_same]) (fun i hi => by
          rw [u2_ne (by omega), u2_ne (by omega)]
          by_cases q3 : i = d
          · rw [q3, u2_same, uA_e]
          · rw [u2_ck _ _ _ _ _ _ q3, uA_n _ _ _ _ q3]
            exact zO i (by omega)) (hF3.u (by omega)) (hH3.fr (u2_ne (by omega)) rfl) e2 (fun i h1 h2 => by (try dsimp only); rw [uA_n _ _ _ _ (by omega), yrB_o A (nI 19) hm m6 i h1 h2]) (by (try dsimp only); rw [uA_n _ _ _ _ (by omega), yrB_m A (nI 19) hm m6]) rfl (Or.inl ⟨19, by omega, by omega, by omega, by (try dsimp only); rw [uA_n _ _ _ _ (by omega), Nat.add_zero, yrB_0 A (nI 19) hm m6], by rw [u2_ca _ _ _ _ _ _ (by omega)]; rw [u2_ca _ _ _ _ _ _ (by omega), u2_ca _ _ _ _ _ _ (by omega)]; exact z5, fun r => by omega, fun _ => by rw [u2_same]; (try dsimp only); rw [uA_e]⟩) (fun h => absurd (uA_e _ _ _) (h d (by omega))) (fun i hi h k hk => by
          have := h k (by omega)
          rw [uA_n _ _ _ _ (by omega)] at this
          exact this)
        exact hR _ _ u1 u2'
    · refine b206 (Or.inr (Or.inr (Or.inr (Or.inr (wd fun i hi q => ?_)))))
      rcases (show i = 0 ∨ i = 1 ∨ i = 2 ∨ i = 3 ∨ i = 4 ∨ i = 5 ∨ i = 6 ∨ i = 7 ∨ i = 8 ∨ i = 9 by omega) with rfl | rfl | rfl | rfl | rfl | rfl | rfl | rfl | rfl | rfl
      · exact n0 (q.trans (by decide))
      · exact n1 (q.trans (by decide))
      · exact n2 (q.trans (by decide))
      · exact n3 (q.trans (by decide))
      · exact n4 (q.trans (by decide))
      · exact n5 (q.trans (by decide))
      · exact n6 (q.trans (by decide))
      · exact n7 (q.trans (by decide))
      · exact n8 (q.trans (by decide))
      · exact n9 (q.trans (by decide))
  · exact h.elim
