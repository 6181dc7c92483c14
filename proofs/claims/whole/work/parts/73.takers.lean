/-! the component's reader: what it takes -/
theorem dX4_isAtEnd_0 : decode cX4_isAtEnd 0 = .ok (.aload_n 0, 1) := by decide +kernel
theorem dX4_isAtEnd_1 : decode cX4_isAtEnd 1 = .ok (.getfield 76, 3) := by decide +kernel
theorem dX4_isAtEnd_4 : decode cX4_isAtEnd 4 = .ok (.iconst 1, 1) := by decide +kernel
theorem dX4_isAtEnd_5 : decode cX4_isAtEnd 5 = .ok (.if_icmp .ne 7, 3) := by decide +kernel
theorem dX4_isAtEnd_8 : decode cX4_isAtEnd 8 = .ok (.iconst 1, 1) := by decide +kernel
theorem dX4_isAtEnd_9 : decode cX4_isAtEnd 9 = .ok (.goto 4, 3) := by decide +kernel
theorem dX4_isAtEnd_12 : decode cX4_isAtEnd 12 = .ok (.iconst 0, 1) := by decide +kernel
theorem dX4_isAtEnd_13 : decode cX4_isAtEnd 13 = .ok (.ireturn, 1) := by decide +kernel
abbrev M_X4_isAtEnd : MT := (yX4_isAtEnd, cX4_isAtEnd, 1, (some .boolean))
theorem cf_X4_isAtEnd : fq_cf M_X4_isAtEnd 0 := ⟨(mg_1 (List.mem_of_getElem? (i := 3) rfl) rfl), (mg_3 (List.mem_of_getElem? (i := 211) rfl) rfl), ⟨by decide, by decide, by decide +kernel⟩, by decide⟩
def B_X4_isAtEnd_13 (G : GT) (mc ms : Nat) (Q : Post) : Cn := ix_zret mc ms Q
theorem b_X4_isAtEnd_13 {l : Launch} {G : GT} {D mc ms : Nat} {Q : Post} : Imp l G M_X4_isAtEnd (D + 0) mc ms Q (B_X4_isAtEnd_13 G mc ms Q) 13 := sx_zret dX4_isAtEnd_13 rfl
def B_X4_isAtEnd_0 (G : GT) (mc ms : Nat) (Q : Post) : Cn := ix_aload 0 (ix_getI 4 4 (ix_pushI 1 (ix_icmp_ne (ix_pushI 0 ((B_X4_isAtEnd_13 G mc ms Q))) (ix_pushI 1 ((B_X4_isAtEnd_13 G mc ms Q))))))
theorem b_X4_isAtEnd_0 {l : Launch} {G : GT} {D mc ms : Nat} {Q : Post} : Imp l G M_X4_isAtEnd (D + 0) mc ms Q (B_X4_isAtEnd_0 G mc ms Q) 0 := sx_aload_n dX4_isAtEnd_0 rfl (sx_getI dX4_isAtEnd_1 fl_FootQuarrel_Reader_76 (fun _ _ _ => rfl) (sx_iconst dX4_isAtEnd_4 rfl (sx_icmp_ne 12 dX4_isAtEnd_5 (by decide) (sx_iconst dX4_isAtEnd_12 rfl (b_X4_isAtEnd_13)) (sx_iconst dX4_isAtEnd_8 rfl (sx_goto 13 dX4_isAtEnd_9 (by decide) (b_X4_isAtEnd_13))))))
theorem dX4_reject_0 : decode cX4_reject 0 = .ok (.aload_n 0, 1) := by decide +kernel
theorem dX4_reject_1 : decode cX4_reject 1 = .ok (.aload_n 0, 1) := by decide +kernel
theorem dX4_reject_2 : decode cX4_reject 2 = .ok (.getfield 76, 3) := by decide +kernel
theorem dX4_reject_5 : decode cX4_reject 5 = .ok (.ifCond .ne 7, 3) := by decide +kernel
theorem dX4_reject_8 : decode cX4_reject 8 = .ok (.iconst 1, 1) := by decide +kernel
theorem dX4_reject_9 : decode cX4_reject 9 = .ok (.goto 4, 3) := by decide +kernel
theorem dX4_reject_12 : decode cX4_reject 12 = .ok (.iload_n 1, 1) := by decide +kernel
theorem dX4_reject_13 : decode cX4_reject 13 = .ok (.putfield 47, 3) := by decide +kernel
theorem dX4_reject_16 : decode cX4_reject 16 = .ok (.aload_n 0, 1) := by decide +kernel
theorem dX4_reject_17 : decode cX4_reject 17 = .ok (.aload_n 0, 1) := by decide +kernel
theorem dX4_reject_18 : decode cX4_reject 18 = .ok (.getfield 60, 3) := by decide +kernel
theorem dX4_reject_21 : decode cX4_reject 21 = .ok (.putfield 50, 3) := by decide +kernel
theorem dX4_reject_24 : decode cX4_reject 24 = .ok (.iconst 0, 1) := by decide +kernel
theorem dX4_reject_25 : decode cX4_reject 25 = .ok (.ireturn, 1) := by decide +kernel
abbrev M_X4_reject : MT := (yX4_reject, cX4_reject, 2, (some .boolean))
theorem cf_X4_reject : fq_cf M_X4_reject 1 := ⟨(mg_1 (List.mem_of_getElem? (i := 3) rfl) rfl), (mg_3 (List.mem_of_getElem? (i := 219) rfl) rfl), ⟨by decide, by decide, by decide +kernel⟩, by decide⟩
def B_X4_reject_13 (G : GT) (mc ms : Nat) (Q : Post) : Cn := ix_putI 4 10 (ix_aload 0 (ix_aload 0 (ix_getI 4 7 (ix_putI 4 11 (ix_pushI 0 (ix_zret mc ms Q))))))
theorem b_X4_reject_13 {l : Launch} {G : GT} {D mc ms : Nat} {Q : Post} : Imp l G M_X4_reject (D + 0) mc ms Q (B_X4_reject_13 G mc ms Q) 13 := sx_putI dX4_reject_13 fl_FootQuarrel_Reader_47 (by decide) (fun _ _ _ => rfl) (fun _ => ⟨rfl, rfl⟩) (sx_aload_n dX4_reject_16 rfl (sx_aload_n dX4_reject_17 rfl (sx_getI dX4_reject_18 fl_FootQuarrel_Reader_60 (fun _ _ _ => rfl) (sx_putI dX4_reject_21 fl_FootQuarrel_Reader_50 (by decide) (fun _ _ _ => rfl) (fun _ => ⟨rfl, rfl⟩) (sx_iconst dX4_reject_24 rfl (sx_zret dX4_reject_25 rfl))))))
def B_X4_reject_0 (G : GT) (mc ms : Nat) (Q : Post) : Cn := ix_aload 0 (ix_aload 0 (ix_getI 4 4 (ix_if_ne (ix_iload 1 ((B_X4_reject_13 G mc ms Q))) (ix_pushI 1 ((B_X4_reject_13 G mc ms Q))))))
theorem b_X4_reject_0 {l : Launch} {G : GT} {D mc ms : Nat} {Q : Post} : Imp l G M_X4_reject (D + 0) mc ms Q (B_X4_reject_0 G mc ms Q) 0 := sx_aload_n dX4_reject_0 rfl (sx_aload_n dX4_reject_1 rfl (sx_getI dX4_reject_2 fl_FootQuarrel_Reader_76 (fun _ _ _ => rfl) (sx_if_ne 12 dX4_reject_5 (by decide) (sx_iload_n dX4_reject_12 rfl (b_X4_reject_13)) (sx_iconst dX4_reject_8 rfl (sx_goto 13 dX4_reject_9 (by decide) (b_X4_reject_13))))))
def sp_X4_reject (G : GT) : Sp := fun as S I J z Q => match as with
  | [.ref a0, .int a1] => B_X4_reject_0 G 0 0 Q [some (.ref a0), some (.int a1)] [] S I J z 0 0
  | _ => False
theorem c_X4_reject {l : Launch} {G : GT} {D : Nat} : ∀ as S I J z Q, sp_X4_reject G as S I J z Q → fqCall l G M_X4_reject (D + 0) 0 0 as S I J z Q := by
  intro as S I J z Q h
  unfold sp_X4_reject at h
  split at h
  · exact fq_enter _ (by decide +kernel) (Nat.le_of_ble_eq_true rfl) rfl (b_X4_reject_0 _ _ _ _ _ _ _ _ h)
  · exact h.elim
theorem dX4_isName_0 : decode cX4_isName 0 = .ok (.aload_n 0, 1) := by decide +kernel
theorem dX4_isName_1 : decode cX4_isName 1 = .ok (.getfield 76, 3) := by decide +kernel
theorem dX4_isName_4 : decode cX4_isName 4 = .ok (.iconst 2, 1) := by decide +kernel
theorem dX4_isName_5 : decode cX4_isName 5 = .ok (.if_icmp .ne 24, 3) := by decide +kernel
theorem dX4_isName_8 : decode cX4_isName 8 = .ok (.aload_n 0, 1) := by decide +kernel
theorem dX4_isName_9 : decode cX4_isName 9 = .ok (.getfield 69, 3) := by decide +kernel
theorem dX4_isName_12 : decode cX4_isName 12 = .ok (.lconst 0, 1) := by decide +kernel
theorem dX4_isName_13 : decode cX4_isName 13 = .ok (.lcmp, 1) := by decide +kernel
theorem dX4_isName_14 : decode cX4_isName 14 = .ok (.ifCond .eq 15, 3) := by decide +kernel
theorem dX4_isName_17 : decode cX4_isName 17 = .ok (.aload_n 0, 1) := by decide +kernel
theorem dX4_isName_18 : decode cX4_isName 18 = .ok (.getfield 63, 3) := by decide +kernel
theorem dX4_isName_21 : decode cX4_isName 21 = .ok (.iconst (-1), 1) := by decide +kernel
theorem dX4_isName_22 : decode cX4_isName 22 = .ok (.if_icmp .ne 7, 3) := by decide +kernel
theorem dX4_isName_25 : decode cX4_isName 25 = .ok (.iconst 1, 1) := by decide +kernel
theorem dX4_isName_26 : decode cX4_isName 26 = .ok (.goto 4, 3) := by decide +kernel
theorem dX4_isName_29 : decode cX4_isName 29 = .ok (.iconst 0, 1) := by decide +kernel
theorem dX4_isName_30 : decode cX4_isName 30 = .ok (.ireturn, 1) := by decide +kernel
abbrev M_X4_isName : MT := (yX4_isName, cX4_isName, 1, (some .boolean))
theorem cf_X4_isName : fq_cf M_X4_isName 0 := ⟨(mg_1 (List.mem_of_getElem? (i := 3) rfl) rfl), (mg_4 (List.mem_of_getElem? (i := 6) rfl) rfl), ⟨by decide, by decide, by decide +kernel⟩, by decide⟩
def B_X4_isName_30 (G : GT) (mc ms : Nat) (Q : Post) : Cn := ix_zret mc ms Q
theorem b_X4_isName_30 {l : Launch} {G : GT} {D mc ms : Nat} {Q : Post} : Imp l G M_X4_isName (D + 0) mc ms Q (B_X4_isName_30 G mc ms Q) 30 := sx_zret dX4_isName_30 rfl
def B_X4_isName_29 (G : GT) (mc ms : Nat) (Q : Post) : Cn := ix_pushI 0 ((B_X4_isName_30 G mc ms Q))
theorem b_X4_isName_29 {l : Launch} {G : GT} {D mc ms : Nat} {Q : Post} : Imp l G M_X4_isName (D + 0) mc ms Q (B_X4_isName_29 G mc ms Q) 29 := sx_iconst dX4_isName_29 rfl (b_X4_isName_30)
def B_X4_isName_0 (G : GT) (mc ms : Nat) (Q : Post) : Cn := ix_aload 0 (ix_getI 4 4 (ix_pushI 2 (ix_icmp_ne ((B_X4_isName_29 G mc ms Q)) (ix_aload 0 (ix_getJ 4 6 (ix_pushL 0 (ix_lcmp (ix_if_eq ((B_X4_isName_29 G mc ms Q)) (ix_aload 0 (ix_getI 4 8 (ix_pushI (-1) (ix_icmp_ne ((B_X4_isName_29 G mc ms Q)) (ix_pushI 1 ((B_X4_isName_30 G mc ms Q)))))))))))))))
theorem b_X4_isName_0 {l : Launch} {G : GT} {D mc ms : Nat} {Q : Post} : Imp l G M_X4_isName (D + 0) mc ms Q (B_X4_isName_0 G mc ms Q) 0 := sx_aload_n dX4_isName_0 rfl (sx_getI dX4_isName_1 fl_FootQuarrel_Reader_76 (fun _ _ _ => rfl) (sx_iconst dX4_isName_4 rfl (sx_icmp_ne 29 dX4_isName_5 (by decide) (b_X4_isName_29) (sx_aload_n dX4_isName_8 rfl (sx_getJ dX4_isName_9 fl_FootQuarrel_Reader_69 (fun _ _ _ => rfl) (sx_lconst dX4_isName_12 rfl (sx_lcmp dX4_isName_13 (sx_if_eq 29 dX4_isName_14 (by decide) (b_X4_isName_29) (sx_aload_n dX4_isName_17 rfl (sx_getI dX4_isName_18 fl_FootQuarrel_Reader_63 (fun _ _ _ => rfl) (sx_iconst dX4_isName_21 rfl (sx_icmp_ne 29 dX4_isName_22 (by decide) (b_X4_isName_29) (sx_iconst dX4_isName_25 rfl (sx_goto 30 dX4_isName_26 (by decide) (b_X4_isName_30)))))))))))))))
def rdQ (S : Sh) (I : IH) (J : JH) (X : Nat) (T : Nat → Int32) (n e : Nat) : Prop := rdE S I J X T n ∧ rdH (X + 11) I J T n e ∧ e ≤ n
/-- behind the token -/
def rdN (X : Nat) (I : IH) (J : JH) (T : Nat → Int32) (n e : Nat) (Q : IH → JH → Prop) : Prop := ∀ I' J', rdF (X + 11) I I' J J' → rdH (X + 11) I' J' T n (tE T n e) → Q I' J'
def rej (I : IH) (X : Nat) (T : Nat → Int32) (n e : Nat) (k : Int32) : IH := u2 (u2 I (X + 11) 10 (if tK T n e = 1 then 1 else k)) (X + 11) 11 (nI (tF T n e))
abbrev kwK (x : Int32) : Prop := x = -1 ∨ ∃ j, j < 24 ∧ x = nI j
theorem fndU_r {p : Nat → Bool} : ∀ (n i : Nat), fndU p i n = -1 ∨ ∃ j, i ≤ j ∧ j < i + n ∧ fndU p i n = nI j ∧ p j = true
  | 0, _ => Or.inl rfl
  | n + 1, i => by
    rw [fndU_1]
    cases h : p i with
    | true => exact Or.inr ⟨i, by omega, by omega, if_pos rfl, h⟩
    | false =>
      rcases fndU_r n (i + 1) (p := p) with g | ⟨j, g1, g2, g3, g4⟩
      · exact Or.inl g
      · exact Or.inr ⟨j, by omega, by omega, g3, g4⟩
theorem kw_r (T : Nat → Int32) (n e : Nat) : kwK (kwI T n e) := by
  unfold kwI
  split
  · rcases fndU_r (p := fun j => decide (mtP T n (tF T n e) (tE T n e) j)) 24 0 with g | ⟨j, g1, g2, g3, g4⟩
    · exact Or.inl g
    · exact Or.inr ⟨j, by omega, g3⟩
  · exact Or.inl rfl
theorem pmW_i : ∀ j, j < 24 → ∀ i, i < 24 → pmW.getD j 0 = pmW.getD i 0 → j = i := by decide +kernel
theorem pmW_l : ∀ j, j < 24 → pmW.getD j 0 < 24 := by decide +kernel
theorem wk_n {j : Nat} (h : j < 24) : wk (nI j) = nI (pmW.getD j 0) := by
  unfold wk
  rw [if_neg (of_eq_false (nI_m1 (by omega))), nI_clamp (by omega)]
theorem wk_eq {x c : Int32} (hx : kwK x) (hc : kwK c) : (wk x = wk c) = (x = c) := by
  apply propext
  rcases hx with rfl | ⟨i, hi, rfl⟩ <;> rcases hc with rfl | ⟨j, hj, rfl⟩
  · exact ⟨fun _ => rfl, fun _ => rfl⟩
  · rw [wk_n hj]
    exact ⟨fun h => absurd h.symm (of_eq_false (nI_m1 (by have := pmW_l j hj; omega))), fun h => absurd h.symm (of_eq_false (nI_m1 (by omega)))⟩
  · rw [wk_n hi]
    exact ⟨fun h => absurd h (of_eq_false (nI_m1 (by have := pmW_l i hi; omega))), fun h => absurd h (of_eq_false (nI_m1 (by omega)))⟩
  · rw [wk_n hi, wk_n hj]
    refine ⟨fun h => ?_, fun h => ?_⟩
    · have a := pmW_l i hi
      have b := pmW_l j hj
      have := (nI_eqE (a := pmW.getD i 0) (b := pmW.getD j 0) (by omega) (by omega)).mp h
      rw [pmW_i i hi j hj this]
    · have := (nI_eqE (a := i) (b := j) (by omega) (by omega)).mp h
      rw [this]
theorem tK_r (T : Nat → Int32) (n e : Nat) : tK T n e = 0 ∨ tK T n e = 1 ∨ tK T n e = 2 ∨ tK T n e = 3 ∨ tK T n e = 4 := by
  unfold tK
  repeat' split
  all_goals simp
theorem kdC_0 (T : Nat → Int32) (n e : Nat) : (kdC (tK T n e) = 1) = (tK T n e = 0) := by
  rcases tK_r T n e with h | h | h | h | h <;> rw [h] <;> decide
theorem kdC_1 (T : Nat → Int32) (n e : Nat) : (kdC (tK T n e) = 0) = (tK T n e = 1) := by
  rcases tK_r T n e with h | h | h | h | h <;> rw [h] <;> decide
theorem kdC_2 (T : Nat → Int32) (n e : Nat) : (kdC (tK T n e) = 2) = (tK T n e = 2) := by
  rcases tK_r T n e with h | h | h | h | h <;> rw [h] <;> decide
theorem kdC_3 (T : Nat → Int32) (n e : Nat) : (kdC (tK T n e) = 3) = (tK T n e = 3) := by
  rcases tK_r T n e with h | h | h | h | h <;> rw [h] <;> decide
def sp_X4_isAtEnd (G : GT) : Sp := fun as S I J z Q => match as with
  | [.ref R] => ∃ X T n e, R = X + 11 ∧ rdQ S I J X T n e ∧ Q (some (.int (bI (tK T n e = 0)))) S I J z
  | _ => False
set_option maxHeartbeats 4000000 in
set_option maxRecDepth 20000 in
theorem c_X4_isAtEnd {l : Launch} {G : GT} {D : Nat} : ∀ as S I J z Q, sp_X4_isAtEnd G as S I J z Q → fqCall l G M_X4_isAtEnd (D + 0) 0 0 as S I J z Q := by
  intro as S I J z Q h
  unfold sp_X4_isAtEnd at h
  split at h
  · next R =>
    obtain ⟨X, T, n, e, rfl, ⟨⟨⟨s1, -⟩, -⟩, hH, -⟩, hQ⟩ := h
    have h4 := hH.2.1
    refine fq_enter [some (.ref (X + 11))] (by decide +kernel) (Nat.le_of_ble_eq_true rfl) rfl (b_X4_isAtEnd_0 _ _ _ _ _ _ _ _ ?_)
    simp (disch := omega) only [B_X4_isAtEnd_0, B_X4_isAtEnd_13, s1, h4, kdC_0, nI_1, nI_add, nI_clamp, nI_pin, nI_neg, nI_nonneg, nI_leE, nI_ltE, nI_eqE, Nat.not_le, Nat.not_lt, fq_10, fq_01, fq_rr, ix_aald, ix_aast, ix_abs, ix_alen, ix_aload, ix_aret, ix_astore, ix_bald, ix_bast, ix_call, ix_cpyI, ix_cpyJ, ix_dead, ix_dup2, ix_dup2L, ix_dupI, ix_dupR, ix_dupx1, ix_getI, ix_getJ, ix_getR, ix_gfm, ix_gtab, ix_i2b, ix_i2c, ix_i2l, ix_i2s, ix_iadd, ix_iald, ix_iand, ix_iast, ix_icall, ix_icmp_eq, ix_icmp_ge, ix_icmp_gt, ix_icmp_le, ix_icmp_lt, ix_icmp_ne, ix_idiv, ix_if_eq, ix_if_ge, ix_if_gt, ix_if_le, ix_if_lt, ix_if_ne, ix_iinc, ix_iload, ix_imul, ix_ineg, ix_ior, ix_irem, ix_iret, ix_ishl, ix_ishr, ix_istore, ix_isub, ix_iushr, ix_ixor, ix_l2i, ix_ladd, ix_lald, ix_land, ix_last, ix_lcmp, ix_ldcS, ix_ldiv, ix_lload, ix_lmul, ix_lor, ix_lrem, ix_lret, ix_lshl, ix_lstore, ix_lsub, ix_lsw, ix_max, ix_min, ix_new, ix_newa, ix_nret, ix_oinit, ix_pop2L, ix_popI, ix_pushI, ix_pushL, ix_putI, ix_putJ, ix_putR, ix_putZ, ix_sbald, ix_sgetC, ix_sgetV, ix_slen, ix_strc, ix_tald, ix_tsw, ix_vcall, ix_vret, ix_zret, stL, stL2, kilL, popN, fq_sw, fq_lsw, List.map_cons, List.map_nil, List.getElem?_cons_zero, List.getElem?_cons_succ, Option.toList_some, Option.toList_none, List.cons_append, List.nil_append, List.length_cons, List.length_nil, List.sum_cons, List.sum_nil, cat_i, cat_l, cat_r, true_and, and_true, Nat.zero_add, Nat.add_zero, Nat.le_refl, Nat.zero_le, Nat.reduceAdd, Nat.reduceLeDiff, exists_eq_left', Option.some.injEq, not_true_eq_false, not_false_eq_true, false_implies, true_implies, implies_true, and_self, or_true, true_or, or_false, false_or]
    grind [bI]
  · exact h.elim
theorem rej_R {G : GT} {X n e z : Nat} {S : Sh} {I : IH} {J : JH} {T : Nat → Int32} {k : Int32} {Q : Post} (h : rdQ S I J X T n e) (hQ : Q (some (.int 0)) S (rej I X T n e k) J z) : sp_X4_reject G [.ref (X + 11), .int k] S I J z Q := by
  obtain ⟨⟨⟨s1, -⟩, -⟩, hH, -⟩ := h
  have h4 := hH.2.1
  have h7 := hH.2.2.1
  unfold rej at hQ
  simp (disch := omega) only [sp_X4_reject, B_X4_reject_0, B_X4_reject_13, s1, h4, h7, u2_ck, kdC_1, nI_1, nI_add, nI_clamp, nI_pin, nI_neg, nI_nonneg, nI_leE, nI_ltE, nI_eqE, Nat.not_le, Nat.not_lt, fq_10, fq_01, fq_rr, ix_aald, ix_aast, ix_abs, ix_alen, ix_aload, ix_aret, ix_astore, ix_bald, ix_bast, ix_call, ix_cpyI, ix_cpyJ, ix_dead, ix_dup2, ix_dup2L, ix_dupI, ix_dupR, ix_dupx1, ix_getI, ix_getJ, ix_getR, ix_gfm, ix_gtab, ix_i2b, ix_i2c, ix_i2l, ix_i2s, ix_iadd, ix_iald, ix_iand, ix_iast, ix_icall, ix_icmp_eq, ix_icmp_ge, ix_icmp_gt, ix_icmp_le, ix_icmp_lt, ix_icmp_ne, ix_idiv, ix_if_eq, ix_if_ge, ix_if_gt, ix_if_le, ix_if_lt, ix_if_ne, ix_iinc, ix_iload, ix_imul, ix_ineg, ix_ior, ix_irem, ix_iret, ix_ishl, ix_ishr, ix_istore, ix_isub, ix_iushr, ix_ixor, ix_l2i, ix_ladd, ix_lald, ix_land, ix_last, ix_lcmp, ix_ldcS, ix_ldiv, ix_lload, ix_lmul, ix_lor, ix_lrem, ix_lret, ix_lshl, ix_lstore, ix_lsub, ix_lsw, ix_max, ix_min, ix_new, ix_newa, ix_nret, ix_oinit, ix_pop2L, ix_popI, ix_pushI, ix_pushL, ix_putI, ix_putJ, ix_putR, ix_putZ, ix_sbald, ix_sgetC, ix_sgetV, ix_slen, ix_strc, ix_tald, ix_tsw, ix_vcall, ix_vret, ix_zret, stL, stL2, kilL, popN, fq_sw, fq_lsw, List.map_cons, List.map_nil, List.getElem?_cons_zero, List.getElem?_cons_succ, Option.toList_some, Option.toList_none, List.cons_append, List.nil_append, List.length_cons, List.length_nil, List.sum_cons, List.sum_nil, cat_i, cat_l, cat_r, true_and, and_true, Nat.zero_add, Nat.add_zero, Nat.le_refl, Nat.zero_le, Nat.reduceAdd, Nat.reduceLeDiff, exists_eq_left', Option.some.injEq, not_true_eq_false, not_false_eq_true, false_implies, true_implies, implies_true, and_self, or_true, true_or, or_false, false_or]
  refine ⟨fun q => ?_, fun q => ?_⟩
  · rw [if_neg q] at hQ
    exact hQ
  · rw [if_pos q] at hQ
    exact hQ
theorem adv_R {G : GT} {X n e z : Nat} {S : Sh} {I : IH} {J : JH} {T : Nat → Int32} {Q : Post} (h : rdQ S I J X T n e) (hk : ¬ tK T n e = 1) (hQ : rdN X I J T n e (fun I' J' => Q none S I' J' z)) : sp_X4_advance G [.ref (X + 11)] S I J z Q := by
  obtain ⟨hE, hH, hn⟩ := h
  exact ⟨X, T, n, tE T n e, rfl, hE, hH.1, hH.2.2.2.1 hk, (tFE hn).2.2.2, hQ⟩
def sp_X4_isName (G : GT) : Sp := fun as S I J z Q => match as with
  | [.ref R] => ∃ X T n e, R = X + 11 ∧ rdQ S I J X T n e ∧ Q (some (.int (bI (isNm T n e)))) S I J z
  | _ => False
theorem nm_iff {S : Sh} {I : IH} {J : JH} {X : Nat} {T : Nat → Int32} {n e : Nat} (h : rdQ S I J X T n e) : isNm T n e ↔ (tK T n e = 2 ∧ ¬ J (X + 11) 6 = 0 ∧ wk (kwI T n e) = -1) := by
  obtain ⟨-, ⟨-, -, -, -, -, -, -, g1, g2⟩, -⟩ := h
  have e1 : (wk (kwI T n e) = -1) = (kwI T n e = -1) := wk_eq (c := -1) (kw_r T n e) (Or.inl rfl)
  rw [e1]
  constructor
  · rintro ⟨a, b, c⟩
    exact ⟨a, (g1 a b).2, c⟩
  · rintro ⟨a, b, c⟩
    refine ⟨a, ?_, c⟩
    by_cases q : 8 < tE T n e - tF T n e
    · exact absurd (g2 (Or.inr q)) b
    · omega
set_option maxHeartbeats 4000000 in
set_option maxRecDepth 20000 in
theorem c_X4_isName {l : Launch} {G : GT} {D : Nat} : ∀ as S I J z Q, sp_X4_isName G as S I J z Q → fqCall l G M_X4_isName (D + 0) 0 0 as S I J z Q := by
  intro as S I J z Q h
  unfold sp_X4_isName at h
  split at h
  · next R =>
    obtain ⟨X, T, n, e, rfl, hq, hQ⟩ := h
    have hi := nm_iff hq
    obtain ⟨⟨⟨s1, -⟩, -⟩, hH, -⟩ := hq
    have h4 := hH.2.1
    have h8 := hH.2.2.2.2.1
    rw [bI_c hi] at hQ
    refine fq_enter [some (.ref (X + 11))] (by decide +kernel) (Nat.le_of_ble_eq_true rfl) rfl (b_X4_isName_0 _ _ _ _ _ _ _ _ ?_)
    simp (disch := omega) only [B_X4_isName_0, B_X4_isName_29, B_X4_isName_30, s1, h4, h8, kdC_2, lg_cmp_eq, nI_1, nI_add, nI_clamp, nI_pin, nI_neg, nI_nonneg, nI_leE, nI_ltE, nI_eqE, Nat.not_le, Nat.not_lt, fq_10, fq_01, fq_rr, ix_aald, ix_aast, ix_abs, ix_alen, ix_aload, ix_aret, ix_astore, ix_bald, ix_bast, ix_call, ix_cpyI, ix_cpyJ, ix_dead, ix_dup2, ix_dup2L, ix_dupI, ix_dupR, ix_dupx1, ix_getI, ix_getJ, ix_getR, ix_gfm, ix_gtab, ix_i2b, ix_i2c, ix_i2l, ix_i2s, ix_iadd, ix_iald, ix_iand, ix_iast, ix_icall, ix_icmp_eq, ix_icmp_ge, ix_icmp_gt, ix_icmp_le, ix_icmp_lt, ix_icmp_ne, ix_idiv, ix_if_eq, ix_if_ge, ix_if_gt, ix_if_le, ix_if_lt, ix_if_ne, ix_iinc, ix_iload, ix_imul, ix_ineg, ix_ior, ix_irem, ix_iret, ix_ishl, ix_ishr, ix_istore, ix_isub, ix_iushr, ix_ixor, ix_l2i, ix_ladd, ix_lald, ix_land, ix_last, ix_lcmp, ix_ldcS, ix_ldiv, ix_lload, ix_lmul, ix_lor, ix_lrem, ix_lret, ix_lshl, ix_lstore, ix_lsub, ix_lsw, ix_max, ix_min, ix_new, ix_newa, ix_nret, ix_oinit, ix_pop2L, ix_popI, ix_pushI, ix_pushL, ix_putI, ix_putJ, ix_putR, ix_putZ, ix_sbald, ix_sgetC, ix_sgetV, ix_slen, ix_strc, ix_tald, ix_tsw, ix_vcall, ix_vret, ix_zret, stL, stL2, kilL, popN, fq_sw, fq_lsw, List.map_cons, List.map_nil, List.getElem?_cons_zero, List.getElem?_cons_succ, Option.toList_some, Option.toList_none, List.cons_append, List.nil_append, List.length_cons, List.length_nil, List.sum_cons, List.sum_nil, cat_i, cat_l, cat_r, true_and, and_true, Nat.zero_add, Nat.add_zero, Nat.le_refl, Nat.zero_le, Nat.reduceAdd, Nat.reduceLeDiff, exists_eq_left', Option.some.injEq, not_true_eq_false, not_false_eq_true, false_implies, true_implies, implies_true, and_self, or_true, true_or, or_false, false_or]
    grind [bI]
  · exact h.elim
theorem dX4_takeWord_0 : decode cX4_takeWord 0 = .ok (.aload_n 0, 1) := by decide +kernel
theorem dX4_takeWord_1 : decode cX4_takeWord 1 = .ok (.getfield 63, 3) := by decide +kernel
theorem dX4_takeWord_4 : decode cX4_takeWord 4 = .ok (.iload_n 1, 1) := by decide +kernel
theorem dX4_takeWord_5 : decode cX4_takeWord 5 = .ok (.if_icmp .eq 9, 3) := by decide +kernel
theorem dX4_takeWord_8 : decode cX4_takeWord 8 = .ok (.aload_n 0, 1) := by decide +kernel
theorem dX4_takeWord_9 : decode cX4_takeWord 9 = .ok (.iconst 2, 1) := by decide +kernel
theorem dX4_takeWord_10 : decode cX4_takeWord 10 = .ok (.invokevirtual 97, 3) := by decide +kernel
theorem dX4_takeWord_13 : decode cX4_takeWord 13 = .ok (.ireturn, 1) := by decide +kernel
theorem dX4_takeWord_14 : decode cX4_takeWord 14 = .ok (.aload_n 0, 1) := by decide +kernel
theorem dX4_takeWord_15 : decode cX4_takeWord 15 = .ok (.invokevirtual 53, 3) := by decide +kernel
theorem dX4_takeWord_18 : decode cX4_takeWord 18 = .ok (.iconst 1, 1) := by decide +kernel
theorem dX4_takeWord_19 : decode cX4_takeWord 19 = .ok (.ireturn, 1) := by decide +kernel
abbrev M_X4_takeWord : MT := (yX4_takeWord, cX4_takeWord, 2, (some .boolean))
theorem cf_X4_takeWord : fq_cf M_X4_takeWord 1 := ⟨(mg_1 (List.mem_of_getElem? (i := 3) rfl) rfl), (mg_4 (List.mem_of_getElem? (i := 18) rfl) rfl), ⟨by decide, by decide, by decide +kernel⟩, by decide⟩
def B_X4_takeWord_0 (G : GT) (mc ms : Nat) (Q : Post) : Cn := ix_aload 0 (ix_getI 4 8 (ix_iload 1 (ix_icmp_eq (ix_aload 0 (ix_vcall 4 1 0 0 mc ms (sp_X4_advance G) (ix_pushI 1 (ix_zret mc ms Q)))) (ix_aload 0 (ix_pushI 2 (ix_vcall 4 2 0 0 mc ms (sp_X4_reject G) (ix_zret mc ms Q)))))))
theorem b_X4_takeWord_0 {l : Launch} {G : GT} {D mc ms : Nat} {Q : Post} : Imp l G M_X4_takeWord (D + 3) mc ms Q (B_X4_takeWord_0 G mc ms Q) 0 := sx_aload_n dX4_takeWord_0 rfl (sx_getI dX4_takeWord_1 fl_FootQuarrel_Reader_63 (fun _ _ _ => rfl) (sx_iload_n dX4_takeWord_4 rfl (sx_icmp_eq 14 dX4_takeWord_5 (by decide) (sx_aload_n dX4_takeWord_14 rfl (sx_vcall dX4_takeWord_15 cf_X4_advance (mg_3 (List.mem_of_getElem? (i := 181) rfl) rfl) (mg_3 (List.mem_of_getElem? (i := 182) rfl) rfl) (mg_3 (List.mem_of_getElem? (i := 183) rfl) rfl) rfl c_X4_advance (sx_iconst dX4_takeWord_18 rfl (sx_zret dX4_takeWord_19 rfl)))) (sx_aload_n dX4_takeWord_8 rfl (sx_iconst dX4_takeWord_9 rfl (sx_vcall dX4_takeWord_10 cf_X4_reject (mg_3 (List.mem_of_getElem? (i := 225) rfl) rfl) (mg_3 (List.mem_of_getElem? (i := 217) rfl) rfl) (mg_3 (List.mem_of_getElem? (i := 218) rfl) rfl) rfl c_X4_reject (sx_zret dX4_takeWord_13 rfl)))))))
theorem dX4_takeStop_0 : decode cX4_takeStop 0 = .ok (.aload_n 0, 1) := by decide +kernel
theorem dX4_takeStop_1 : decode cX4_takeStop 1 = .ok (.getfield 66, 3) := by decide +kernel
theorem dX4_takeStop_4 : decode cX4_takeStop 4 = .ok (.bipush 59, 2) := by decide +kernel
theorem dX4_takeStop_6 : decode cX4_takeStop 6 = .ok (.if_icmp .eq 9, 3) := by decide +kernel
theorem dX4_takeStop_9 : decode cX4_takeStop 9 = .ok (.aload_n 0, 1) := by decide +kernel
theorem dX4_takeStop_10 : decode cX4_takeStop 10 = .ok (.iconst 2, 1) := by decide +kernel
theorem dX4_takeStop_11 : decode cX4_takeStop 11 = .ok (.invokevirtual 97, 3) := by decide +kernel
theorem dX4_takeStop_14 : decode cX4_takeStop 14 = .ok (.ireturn, 1) := by decide +kernel
theorem dX4_takeStop_15 : decode cX4_takeStop 15 = .ok (.aload_n 0, 1) := by decide +kernel
theorem dX4_takeStop_16 : decode cX4_takeStop 16 = .ok (.invokevirtual 53, 3) := by decide +kernel
theorem dX4_takeStop_19 : decode cX4_takeStop 19 = .ok (.iconst 1, 1) := by decide +kernel
theorem dX4_takeStop_20 : decode cX4_takeStop 20 = .ok (.ireturn, 1) := by decide +kernel
abbrev M_X4_takeStop : MT := (yX4_takeStop, cX4_takeStop, 1, (some .boolean))
theorem cf_X4_takeStop : fq_cf M_X4_takeStop 0 := ⟨(mg_1 (List.mem_of_getElem? (i := 3) rfl) rfl), (mg_4 (List.mem_of_getElem? (i := 67) rfl) rfl), ⟨by decide, by decide, by decide +kernel⟩, by decide⟩
def B_X4_takeStop_0 (G : GT) (mc ms : Nat) (Q : Post) : Cn := ix_aload 0 (ix_getI 4 9 (ix_pushI 59 (ix_icmp_eq (ix_aload 0 (ix_vcall 4 1 0 0 mc ms (sp_X4_advance G) (ix_pushI 1 (ix_zret mc ms Q)))) (ix_aload 0 (ix_pushI 2 (ix_vcall 4 2 0 0 mc ms (sp_X4_reject G) (ix_zret mc ms Q)))))))
theorem b_X4_takeStop_0 {l : Launch} {G : GT} {D mc ms : Nat} {Q : Post} : Imp l G M_X4_takeStop (D + 3) mc ms Q (B_X4_takeStop_0 G mc ms Q) 0 := sx_aload_n dX4_takeStop_0 rfl (sx_getI dX4_takeStop_1 fl_FootQuarrel_Reader_66 (fun _ _ _ => rfl) (sx_bipush dX4_takeStop_4 rfl (sx_icmp_eq 15 dX4_takeStop_6 (by decide) (sx_aload_n dX4_takeStop_15 rfl (sx_vcall dX4_takeStop_16 cf_X4_advance (mg_3 (List.mem_of_getElem? (i := 181) rfl) rfl) (mg_3 (List.mem_of_getElem? (i := 182) rfl) rfl) (mg_3 (List.mem_of_getElem? (i := 183) rfl) rfl) rfl c_X4_advance (sx_iconst dX4_takeStop_19 rfl (sx_zret dX4_takeStop_20 rfl)))) (sx_aload_n dX4_takeStop_9 rfl (sx_iconst dX4_takeStop_10 rfl (sx_vcall dX4_takeStop_11 cf_X4_reject (mg_3 (List.mem_of_getElem? (i := 225) rfl) rfl) (mg_3 (List.mem_of_getElem? (i := 217) rfl) rfl) (mg_3 (List.mem_of_getElem? (i := 218) rfl) rfl) rfl c_X4_reject (sx_zret dX4_takeStop_14 rfl)))))))
theorem dX4_takeCompare_0 : decode cX4_takeCompare 0 = .ok (.aload_n 0, 1) := by decide +kernel
theorem dX4_takeCompare_1 : decode cX4_takeCompare 1 = .ok (.getfield 66, 3) := by decide +kernel
theorem dX4_takeCompare_4 : decode cX4_takeCompare 4 = .ok (.istore_n 1, 1) := by decide +kernel
theorem dX4_takeCompare_5 : decode cX4_takeCompare 5 = .ok (.iload_n 1, 1) := by decide +kernel
theorem dX4_takeCompare_6 : decode cX4_takeCompare 6 = .ok (.invokestatic 94, 3) := by decide +kernel
theorem dX4_takeCompare_9 : decode cX4_takeCompare 9 = .ok (.ifCond .ne 11, 3) := by decide +kernel
theorem dX4_takeCompare_12 : decode cX4_takeCompare 12 = .ok (.aload_n 0, 1) := by decide +kernel
theorem dX4_takeCompare_13 : decode cX4_takeCompare 13 = .ok (.iconst 2, 1) := by decide +kernel
theorem dX4_takeCompare_14 : decode cX4_takeCompare 14 = .ok (.invokevirtual 97, 3) := by decide +kernel
theorem dX4_takeCompare_17 : decode cX4_takeCompare 17 = .ok (.pop, 1) := by decide +kernel
theorem dX4_takeCompare_18 : decode cX4_takeCompare 18 = .ok (.iconst (-1), 1) := by decide +kernel
theorem dX4_takeCompare_19 : decode cX4_takeCompare 19 = .ok (.ireturn, 1) := by decide +kernel
theorem dX4_takeCompare_20 : decode cX4_takeCompare 20 = .ok (.aload_n 0, 1) := by decide +kernel
theorem dX4_takeCompare_21 : decode cX4_takeCompare 21 = .ok (.invokevirtual 53, 3) := by decide +kernel
theorem dX4_takeCompare_24 : decode cX4_takeCompare 24 = .ok (.iload_n 1, 1) := by decide +kernel
theorem dX4_takeCompare_25 : decode cX4_takeCompare 25 = .ok (.ireturn, 1) := by decide +kernel
abbrev M_X4_takeCompare : MT := (yX4_takeCompare, cX4_takeCompare, 2, (some .int))
theorem cf_X4_takeCompare : fq_cf M_X4_takeCompare 0 := ⟨(mg_1 (List.mem_of_getElem? (i := 3) rfl) rfl), (mg_4 (List.mem_of_getElem? (i := 148) rfl) rfl), ⟨by decide, by decide, by decide +kernel⟩, by decide⟩
def B_X4_takeCompare_0 (G : GT) (mc ms : Nat) (Q : Post) : Cn := ix_aload 0 (ix_getI 4 9 (ix_istore 1 (ix_iload 1 (ix_call 1 0 0 mc ms (sp_X4_isCompare G) (ix_if_ne (ix_aload 0 (ix_vcall 4 1 0 0 mc ms (sp_X4_advance G) (ix_iload 1 (ix_iret mc ms Q)))) (ix_aload 0 (ix_pushI 2 (ix_vcall 4 2 0 0 mc ms (sp_X4_reject G) (ix_popI (ix_pushI (-1) (ix_iret mc ms Q)))))))))))
theorem b_X4_takeCompare_0 {l : Launch} {G : GT} {D mc ms : Nat} {Q : Post} : Imp l G M_X4_takeCompare (D + 3) mc ms Q (B_X4_takeCompare_0 G mc ms Q) 0 := sx_aload_n dX4_takeCompare_0 rfl (sx_getI dX4_takeCompare_1 fl_FootQuarrel_Reader_66 (fun _ _ _ => rfl) (sx_istore_n dX4_takeCompare_4 rfl (by decide) (sx_iload_n dX4_takeCompare_5 rfl (sx_scall dX4_takeCompare_6 cf_X4_isCompare (mg_3 (List.mem_of_getElem? (i := 205) rfl) rfl) (mg_3 (List.mem_of_getElem? (i := 206) rfl) rfl) c_X4_isCompare (sx_if_ne 20 dX4_takeCompare_9 (by decide) (sx_aload_n dX4_takeCompare_20 rfl (sx_vcall dX4_takeCompare_21 cf_X4_advance (mg_3 (List.mem_of_getElem? (i := 181) rfl) rfl) (mg_3 (List.mem_of_getElem? (i := 182) rfl) rfl) (mg_3 (List.mem_of_getElem? (i := 183) rfl) rfl) rfl c_X4_advance (sx_iload_n dX4_takeCompare_24 rfl (sx_iret dX4_takeCompare_25 rfl)))) (sx_aload_n dX4_takeCompare_12 rfl (sx_iconst dX4_takeCompare_13 rfl (sx_vcall dX4_takeCompare_14 cf_X4_reject (mg_3 (List.mem_of_getElem? (i := 225) rfl) rfl) (mg_3 (List.mem_of_getElem? (i := 217) rfl) rfl) (mg_3 (List.mem_of_getElem? (i := 218) rfl) rfl) rfl c_X4_reject (sx_popI dX4_takeCompare_17 (sx_iconst dX4_takeCompare_18 rfl (sx_iret dX4_takeCompare_19 rfl)))))))))))
theorem dX4_takeNumber_0 : decode cX4_takeNumber 0 = .ok (.aload_n 0, 1) := by decide +kernel
theorem dX4_takeNumber_1 : decode cX4_takeNumber 1 = .ok (.getfield 73, 3) := by decide +kernel
theorem dX4_takeNumber_4 : decode cX4_takeNumber 4 = .ok (.istore_n 3, 1) := by decide +kernel
theorem dX4_takeNumber_5 : decode cX4_takeNumber 5 = .ok (.aload_n 0, 1) := by decide +kernel
theorem dX4_takeNumber_6 : decode cX4_takeNumber 6 = .ok (.getfield 76, 3) := by decide +kernel
theorem dX4_takeNumber_9 : decode cX4_takeNumber 9 = .ok (.iconst 3, 1) := by decide +kernel
theorem dX4_takeNumber_10 : decode cX4_takeNumber 10 = .ok (.if_icmp .eq 11, 3) := by decide +kernel
theorem dX4_takeNumber_13 : decode cX4_takeNumber 13 = .ok (.aload_n 0, 1) := by decide +kernel
theorem dX4_takeNumber_14 : decode cX4_takeNumber 14 = .ok (.iconst 2, 1) := by decide +kernel
theorem dX4_takeNumber_15 : decode cX4_takeNumber 15 = .ok (.invokevirtual 97, 3) := by decide +kernel
theorem dX4_takeNumber_18 : decode cX4_takeNumber 18 = .ok (.pop, 1) := by decide +kernel
theorem dX4_takeNumber_19 : decode cX4_takeNumber 19 = .ok (.iconst (-1), 1) := by decide +kernel
theorem dX4_takeNumber_20 : decode cX4_takeNumber 20 = .ok (.ireturn, 1) := by decide +kernel
theorem dX4_takeNumber_21 : decode cX4_takeNumber 21 = .ok (.iload_n 3, 1) := by decide +kernel
theorem dX4_takeNumber_22 : decode cX4_takeNumber 22 = .ok (.iload_n 1, 1) := by decide +kernel
theorem dX4_takeNumber_23 : decode cX4_takeNumber 23 = .ok (.iload_n 2, 1) := by decide +kernel
theorem dX4_takeNumber_24 : decode cX4_takeNumber 24 = .ok (.invokestatic 100, 3) := by decide +kernel
theorem dX4_takeNumber_27 : decode cX4_takeNumber 27 = .ok (.ifCond .ne 11, 3) := by decide +kernel
theorem dX4_takeNumber_30 : decode cX4_takeNumber 30 = .ok (.aload_n 0, 1) := by decide +kernel
theorem dX4_takeNumber_31 : decode cX4_takeNumber 31 = .ok (.iconst 4, 1) := by decide +kernel
theorem dX4_takeNumber_32 : decode cX4_takeNumber 32 = .ok (.invokevirtual 97, 3) := by decide +kernel
theorem dX4_takeNumber_35 : decode cX4_takeNumber 35 = .ok (.pop, 1) := by decide +kernel
theorem dX4_takeNumber_36 : decode cX4_takeNumber 36 = .ok (.iconst (-1), 1) := by decide +kernel
theorem dX4_takeNumber_37 : decode cX4_takeNumber 37 = .ok (.ireturn, 1) := by decide +kernel
theorem dX4_takeNumber_38 : decode cX4_takeNumber 38 = .ok (.aload_n 0, 1) := by decide +kernel
theorem dX4_takeNumber_39 : decode cX4_takeNumber 39 = .ok (.invokevirtual 53, 3) := by decide +kernel
theorem dX4_takeNumber_42 : decode cX4_takeNumber 42 = .ok (.iload_n 3, 1) := by decide +kernel
theorem dX4_takeNumber_43 : decode cX4_takeNumber 43 = .ok (.ireturn, 1) := by decide +kernel
abbrev M_X4_takeNumber : MT := (yX4_takeNumber, cX4_takeNumber, 4, (some .int))
theorem cf_X4_takeNumber : fq_cf M_X4_takeNumber 2 := ⟨(mg_1 (List.mem_of_getElem? (i := 3) rfl) rfl), (mg_3 (List.mem_of_getElem? (i := 224) rfl) rfl), ⟨by decide, by decide, by decide +kernel⟩, by decide⟩
def B_X4_takeNumber_0 (G : GT) (mc ms : Nat) (Q : Post) : Cn := ix_aload 0 (ix_getI 4 5 (ix_istore 3 (ix_aload 0 (ix_getI 4 4 (ix_pushI 3 (ix_icmp_eq (ix_iload 3 (ix_iload 1 (ix_iload 2 (ix_call 3 0 0 mc ms (sp_X11_isWithin G) (ix_if_ne (ix_aload 0 (ix_vcall 4 1 0 0 mc ms (sp_X4_advance G) (ix_iload 3 (ix_iret mc ms Q)))) (ix_aload 0 (ix_pushI 4 (ix_vcall 4 2 0 0 mc ms (sp_X4_reject G) (ix_popI (ix_pushI (-1) (ix_iret mc ms Q))))))))))) (ix_aload 0 (ix_pushI 2 (ix_vcall 4 2 0 0 mc ms (sp_X4_reject G) (ix_popI (ix_pushI (-1) (ix_iret mc ms Q))))))))))))
theorem b_X4_takeNumber_0 {l : Launch} {G : GT} {D mc ms : Nat} {Q : Post} : Imp l G M_X4_takeNumber (D + 3) mc ms Q (B_X4_takeNumber_0 G mc ms Q) 0 := sx_aload_n dX4_takeNumber_0 rfl (sx_getI dX4_takeNumber_1 fl_FootQuarrel_Reader_73 (fun _ _ _ => rfl) (sx_istore_n dX4_takeNumber_4 rfl (by decide) (sx_aload_n dX4_takeNumber_5 rfl (sx_getI dX4_takeNumber_6 fl_FootQuarrel_Reader_76 (fun _ _ _ => rfl) (sx_iconst dX4_takeNumber_9 rfl (sx_icmp_eq 21 dX4_takeNumber_10 (by decide) (sx_iload_n dX4_takeNumber_21 rfl (sx_iload_n dX4_takeNumber_22 rfl (sx_iload_n dX4_takeNumber_23 rfl (sx_scallN dX4_takeNumber_24 cf_X11_isWithin (by decide) (mg_3 (List.mem_of_getElem? (i := 86) rfl) rfl) c_X11_isWithin (sx_if_ne 38 dX4_takeNumber_27 (by decide) (sx_aload_n dX4_takeNumber_38 rfl (sx_vcall dX4_takeNumber_39 cf_X4_advance (mg_3 (List.mem_of_getElem? (i := 181) rfl) rfl) (mg_3 (List.mem_of_getElem? (i := 182) rfl) rfl) (mg_3 (List.mem_of_getElem? (i := 183) rfl) rfl) rfl c_X4_advance (sx_iload_n dX4_takeNumber_42 rfl (sx_iret dX4_takeNumber_43 rfl)))) (sx_aload_n dX4_takeNumber_30 rfl (sx_iconst dX4_takeNumber_31 rfl (sx_vcall dX4_takeNumber_32 cf_X4_reject (mg_3 (List.mem_of_getElem? (i := 225) rfl) rfl) (mg_3 (List.mem_of_getElem? (i := 217) rfl) rfl) (mg_3 (List.mem_of_getElem? (i := 218) rfl) rfl) rfl c_X4_reject (sx_popI dX4_takeNumber_35 (sx_iconst dX4_takeNumber_36 rfl (sx_iret dX4_takeNumber_37 rfl))))))))))) (sx_aload_n dX4_takeNumber_13 rfl (sx_iconst dX4_takeNumber_14 rfl (sx_vcall dX4_takeNumber_15 cf_X4_reject (mg_3 (List.mem_of_getElem? (i := 225) rfl) rfl) (mg_3 (List.mem_of_getElem? (i := 217) rfl) rfl) (mg_3 (List.mem_of_getElem? (i := 218) rfl) rfl) rfl c_X4_reject (sx_popI dX4_takeNumber_18 (sx_iconst dX4_takeNumber_19 rfl (sx_iret dX4_takeNumber_20 rfl))))))))))))
def sp_X4_takeWord (G : GT) : Sp := fun as S I J z Q => match as with
  | [.ref R, .int w] => ∃ X T n e c, R = X + 11 ∧ rdQ S I J X T n e ∧ w = wk c ∧ kwK c ∧ ¬ c = -1 ∧ (¬ kwI T n e = c → Q (some (.int 0)) S (rej I X T n e 2) J z) ∧ (kwI T n e = c → rdN X I J T n e (fun I' J' => Q (some (.int 1)) S I' J' z))
  | _ => False
set_option maxHeartbeats 4000000 in
set_option maxRecDepth 20000 in
theorem c_X4_takeWord {l : Launch} {G : GT} {D : Nat} : ∀ as S I J z Q, sp_X4_takeWord G as S I J z Q → fqCall l G M_X4_takeWord (D + 3) 0 0 as S I J z Q := by
  intro as S I J z Q h
  unfold sp_X4_takeWord at h
  split at h
  · next R w =>
    obtain ⟨X, T, n, e, c, rfl, hq, rfl, hc, hc1, h0, h1⟩ := h
    have s1 := hq.1.1.1
    have h8 := hq.2.1.2.2.2.2.1
    have ew := wk_eq (kw_r T n e) hc
    refine fq_enter [some (.ref (X + 11)), some (.int (wk c))] (by decide +kernel) (Nat.le_of_ble_eq_true rfl) rfl (b_X4_takeWord_0 _ _ _ _ _ _ _ _ ?_)
    simp (disch := omega) only [B_X4_takeWord_0, s1, h8, ew, nI_1, nI_add, nI_clamp, nI_pin, nI_neg, nI_nonneg, nI_leE, nI_ltE, nI_eqE, Nat.not_le, Nat.not_lt, fq_10, fq_01, fq_rr, ix_aald, ix_aast, ix_abs, ix_alen, ix_aload, ix_aret, ix_astore, ix_bald, ix_bast, ix_call, ix_cpyI, ix_cpyJ, ix_dead, ix_dup2, ix_dup2L, ix_dupI, ix_dupR, ix_dupx1, ix_getI, ix_getJ, ix_getR, ix_gfm, ix_gtab, ix_i2b, ix_i2c, ix_i2l, ix_i2s, ix_iadd, ix_iald, ix_iand, ix_iast, ix_icall, ix_icmp_eq, ix_icmp_ge, ix_icmp_gt, ix_icmp_le, ix_icmp_lt, ix_icmp_ne, ix_idiv, ix_if_eq, ix_if_ge, ix_if_gt, ix_if_le, ix_if_lt, ix_if_ne, ix_iinc, ix_iload, ix_imul, ix_ineg, ix_ior, ix_irem, ix_iret, ix_ishl, ix_ishr, ix_istore, ix_isub, ix_iushr, ix_ixor, ix_l2i, ix_ladd, ix_lald, ix_land, ix_last, ix_lcmp, ix_ldcS, ix_ldiv, ix_lload, ix_lmul, ix_lor, ix_lrem, ix_lret, ix_lshl, ix_lstore, ix_lsub, ix_lsw, ix_max, ix_min, ix_new, ix_newa, ix_nret, ix_oinit, ix_pop2L, ix_popI, ix_pushI, ix_pushL, ix_putI, ix_putJ, ix_putR, ix_putZ, ix_sbald, ix_sgetC, ix_sgetV, ix_slen, ix_strc, ix_tald, ix_tsw, ix_vcall, ix_vret, ix_zret, stL, stL2, kilL, popN, fq_sw, fq_lsw, List.map_cons, List.map_nil, List.getElem?_cons_zero, List.getElem?_cons_succ, Option.toList_some, Option.toList_none, List.cons_append, List.nil_append, List.length_cons, List.length_nil, List.sum_cons, List.sum_nil, cat_i, cat_l, cat_r, true_and, and_true, Nat.zero_add, Nat.add_zero, Nat.le_refl, Nat.zero_le, Nat.reduceAdd, Nat.reduceLeDiff, exists_eq_left', Option.some.injEq, not_true_eq_false, not_false_eq_true, false_implies, true_implies, implies_true, and_self, or_true, true_or, or_false, false_or]
    refine ⟨fun q => adv_R hq ?_ (fun I' J' a b => ⟨Or.inr rfl, h1 q I' J' a b⟩), fun q => rej_R hq ⟨Or.inl rfl, h0 q⟩⟩
    intro k1
    rw [kwI_n (by rw [k1]; decide)] at q
    exact hc1 q.symm
  · exact h.elim
def sp_X4_takeStop (G : GT) : Sp := fun as S I J z Q => match as with
  | [.ref R] => ∃ X T n e, R = X + 11 ∧ rdQ S I J X T n e ∧ (¬ (tK T n e = 4 ∧ tV T n e = 59) → Q (some (.int 0)) S (rej I X T n e 2) J z) ∧ ((tK T n e = 4 ∧ tV T n e = 59) → rdN X I J T n e (fun I' J' => Q (some (.int 1)) S I' J' z))
  | _ => False
set_option maxHeartbeats 4000000 in
set_option maxRecDepth 20000 in
theorem c_X4_takeStop {l : Launch} {G : GT} {D : Nat} : ∀ as S I J z Q, sp_X4_takeStop G as S I J z Q → fqCall l G M_X4_takeStop (D + 3) 0 0 as S I J z Q := by
  intro as S I J z Q h
  unfold sp_X4_takeStop at h
  split at h
  · next R =>
    obtain ⟨X, T, n, e, rfl, hq, h0, h1⟩ := h
    have s1 := hq.1.1.1
    have h9 := hq.2.1.2.2.2.2.2.1
    have ew : ((if tK T n e = 4 then tV T n e else 0) = 59) = (tK T n e = 4 ∧ tV T n e = 59) := by
      by_cases q : tK T n e = 4
      · simp [q]
      · simp [q]
    refine fq_enter [some (.ref (X + 11))] (by decide +kernel) (Nat.le_of_ble_eq_true rfl) rfl (b_X4_takeStop_0 _ _ _ _ _ _ _ _ ?_)
    simp (disch := omega) only [B_X4_takeStop_0, s1, h9, ew, nI_1, nI_add, nI_clamp, nI_pin, nI_neg, nI_nonneg, nI_leE, nI_ltE, nI_eqE, Nat.not_le, Nat.not_lt, fq_10, fq_01, fq_rr, ix_aald, ix_aast, ix_abs, ix_alen, ix_aload, ix_aret, ix_astore, ix_bald, ix_bast, ix_call, ix_cpyI, ix_cpyJ, ix_dead, ix_dup2, ix_dup2L, ix_dupI, ix_dupR, ix_dupx1, ix_getI, ix_getJ, ix_getR, ix_gfm, ix_gtab, ix_i2b, ix_i2c, ix_i2l, ix_i2s, ix_iadd, ix_iald, ix_iand, ix_iast, ix_icall, ix_icmp_eq, ix_icmp_ge, ix_icmp_gt, ix_icmp_le, ix_icmp_lt, ix_icmp_ne, ix_idiv, ix_if_eq, ix_if_ge, ix_if_gt, ix_if_le, ix_if_lt, ix_if_ne, ix_iinc, ix_iload, ix_imul, ix_ineg, ix_ior, ix_irem, ix_iret, ix_ishl, ix_ishr, ix_istore, ix_isub, ix_iushr, ix_ixor, ix_l2i, ix_ladd, ix_lald, ix_land, ix_last, ix_lcmp, ix_ldcS, ix_ldiv, ix_lload, ix_lmul, ix_lor, ix_lrem, ix_lret, ix_lshl, ix_lstore, ix_lsub, ix_lsw, ix_max, ix_min, ix_new, ix_newa, ix_nret, ix_oinit, ix_pop2L, ix_popI, ix_pushI, ix_pushL, ix_putI, ix_putJ, ix_putR, ix_putZ, ix_sbald, ix_sgetC, ix_sgetV, ix_slen, ix_strc, ix_tald, ix_tsw, ix_vcall, ix_vret, ix_zret, stL, stL2, kilL, popN, fq_sw, fq_lsw, List.map_cons, List.map_nil, List.getElem?_cons_zero, List.getElem?_cons_succ, Option.toList_some, Option.toList_none, List.cons_append, List.nil_append, List.length_cons, List.length_nil, List.sum_cons, List.sum_nil, cat_i, cat_l, cat_r, true_and, and_true, Nat.zero_add, Nat.add_zero, Nat.le_refl, Nat.zero_le, Nat.reduceAdd, Nat.reduceLeDiff, exists_eq_left', Option.some.injEq, not_true_eq_false, not_false_eq_true, false_implies, true_implies, implies_true, and_self, or_true, true_or, or_false, false_or]
    exact ⟨fun q => adv_R hq (by rw [q.1]; decide) (fun I' J' a b => ⟨Or.inr rfl, h1 q I' J' a b⟩), fun q => rej_R hq ⟨Or.inl rfl, h0 q⟩⟩
  · exact h.elim
abbrev cmP (T : Nat → Int32) (n e : Nat) : Prop := tK T n e = 4 ∧ (tV T n e = 60 ∨ tV T n e = 62 ∨ tV T n e = 61)
def sp_X4_takeCompare (G : GT) : Sp := fun as S I J z Q => match as with
  | [.ref R] => ∃ X T n e, R = X + 11 ∧ rdQ S I J X T n e ∧ (¬ cmP T n e → Q (some (.int (-1))) S (rej I X T n e 2) J z) ∧ (cmP T n e → rdN X I J T n e (fun I' J' => Q (some (.int (tV T n e))) S I' J' z))
  | _ => False
set_option maxHeartbeats 4000000 in
set_option maxRecDepth 20000 in
theorem c_X4_takeCompare {l : Launch} {G : GT} {D : Nat} : ∀ as S I J z Q, sp_X4_takeCompare G as S I J z Q → fqCall l G M_X4_takeCompare (D + 3) 0 0 as S I J z Q := by
  intro as S I J z Q h
  unfold sp_X4_takeCompare at h
  split at h
  · next R =>
    obtain ⟨X, T, n, e, rfl, hq, h0, h1⟩ := h
    have s1 := hq.1.1.1
    have h9 := hq.2.1.2.2.2.2.2.1
    refine fq_enter [some (.ref (X + 11)), none] (by decide +kernel) (Nat.le_of_ble_eq_true rfl) rfl (b_X4_takeCompare_0 _ _ _ _ _ _ _ _ ?_)
    by_cases q : cmP T n e
    · rw [if_pos q.1] at h9
      simp (disch := omega) only [B_X4_takeCompare_0, sp_X4_isCompare, s1, h9, bI_01, bI_01b, bI_0, nI_1, nI_add, nI_clamp, nI_pin, nI_neg, nI_nonneg, nI_leE, nI_ltE, nI_eqE, Nat.not_le, Nat.not_lt, fq_10, fq_01, fq_rr, ix_aald, ix_aast, ix_abs, ix_alen, ix_aload, ix_aret, ix_astore, ix_bald, ix_bast, ix_call, ix_cpyI, ix_cpyJ, ix_dead, ix_dup2, ix_dup2L, ix_dupI, ix_dupR, ix_dupx1, ix_getI, ix_getJ, ix_getR, ix_gfm, ix_gtab, ix_i2b, ix_i2c, ix_i2l, ix_i2s, ix_iadd, ix_iald, ix_iand, ix_iast, ix_icall, ix_icmp_eq, ix_icmp_ge, ix_icmp_gt, ix_icmp_le, ix_icmp_lt, ix_icmp_ne, ix_idiv, ix_if_eq, ix_if_ge, ix_if_gt, ix_if_le, ix_if_lt, ix_if_ne, ix_iinc, ix_iload, ix_imul, ix_ineg, ix_ior, ix_irem, ix_iret, ix_ishl, ix_ishr, ix_istore, ix_isub, ix_iushr, ix_ixor, ix_l2i, ix_ladd, ix_lald, ix_land, ix_last, ix_lcmp, ix_ldcS, ix_ldiv, ix_lload, ix_lmul, ix_lor, ix_lrem, ix_lret, ix_lshl, ix_lstore, ix_lsub, ix_lsw, ix_max, ix_min, ix_new, ix_newa, ix_nret, ix_oinit, ix_pop2L, ix_popI, ix_pushI, ix_pushL, ix_putI, ix_putJ, ix_putR, ix_putZ, ix_sbald, ix_sgetC, ix_sgetV, ix_slen, ix_strc, ix_tald, ix_tsw, ix_vcall, ix_vret, ix_zret, stL, stL2, kilL, popN, fq_sw, fq_lsw, List.map_cons, List.map_nil, List.getElem?_cons_zero, List.getElem?_cons_succ, Option.toList_some, Option.toList_none, List.cons_append, List.nil_append, List.length_cons, List.length_nil, List.sum_cons, List.sum_nil, cat_i, cat_l, cat_r, true_and, and_true, Nat.zero_add, Nat.add_zero, Nat.le_refl, Nat.zero_le, Nat.reduceAdd, Nat.reduceLeDiff, exists_eq_left', Option.some.injEq, not_true_eq_false, not_false_eq_true, false_implies, true_implies, implies_true, and_self, or_true, true_or, or_false, false_or]
      exact ⟨fun _ => adv_R hq (by rw [q.1]; decide) (fun I' J' a b => h1 q I' J' a b), fun r => absurd q.2 r⟩
    · have q2 : ¬ (I (X + 11) 9 = 60 ∨ I (X + 11) 9 = 62 ∨ I (X + 11) 9 = 61) := by
        rw [h9]
        by_cases r : tK T n e = 4
        · rw [if_pos r]
          exact fun y => q ⟨r, y⟩
        · rw [if_neg r]
          decide
      simp (disch := omega) only [B_X4_takeCompare_0, sp_X4_isCompare, s1, bI_01, bI_01b, bI_0, nI_1, nI_add, nI_clamp, nI_pin, nI_neg, nI_nonneg, nI_leE, nI_ltE, nI_eqE, Nat.not_le, Nat.not_lt, fq_10, fq_01, fq_rr, ix_aald, ix_aast, ix_abs, ix_alen, ix_aload, ix_aret, ix_astore, ix_bald, ix_bast, ix_call, ix_cpyI, ix_cpyJ, ix_dead, ix_dup2, ix_dup2L, ix_dupI, ix_dupR, ix_dupx1, ix_getI, ix_getJ, ix_getR, ix_gfm, ix_gtab, ix_i2b, ix_i2c, ix_i2l, ix_i2s, ix_iadd, ix_iald, ix_iand, ix_iast, ix_icall, ix_icmp_eq, ix_icmp_ge, ix_icmp_gt, ix_icmp_le, ix_icmp_lt, ix_icmp_ne, ix_idiv, ix_if_eq, ix_if_ge, ix_if_gt, ix_if_le, ix_if_lt, ix_if_ne, ix_iinc, ix_iload, ix_imul, ix_ineg, ix_ior, ix_irem, ix_iret, ix_ishl, ix_ishr, ix_istore, ix_isub, ix_iushr, ix_ixor, ix_l2i, ix_ladd, ix_lald, ix_land, ix_last, ix_lcmp, ix_ldcS, ix_ldiv, ix_lload, ix_lmul, ix_lor, ix_lrem, ix_lret, ix_lshl, ix_lstore, ix_lsub, ix_lsw, ix_max, ix_min, ix_new, ix_newa, ix_nret, ix_oinit, ix_pop2L, ix_popI, ix_pushI, ix_pushL, ix_putI, ix_putJ, ix_putR, ix_putZ, ix_sbald, ix_sgetC, ix_sgetV, ix_slen, ix_strc, ix_tald, ix_tsw, ix_vcall, ix_vret, ix_zret, stL, stL2, kilL, popN, fq_sw, fq_lsw, List.map_cons, List.map_nil, List.getElem?_cons_zero, List.getElem?_cons_succ, Option.toList_some, Option.toList_none, List.cons_append, List.nil_append, List.length_cons, List.length_nil, List.sum_cons, List.sum_nil, cat_i, cat_l, cat_r, true_and, and_true, Nat.zero_add, Nat.add_zero, Nat.le_refl, Nat.zero_le, Nat.reduceAdd, Nat.reduceLeDiff, exists_eq_left', Option.some.injEq, not_true_eq_false, not_false_eq_true, false_implies, true_implies, implies_true, and_self, or_true, true_or, or_false, false_or]
      exact ⟨fun r => absurd (Decidable.not_not.mp r) q2, fun _ => rej_R hq (h0 q)⟩
  · exact h.elim
def sp_X4_takeNumber (G : GT) : Sp := fun as S I J z Q => match as with
  | [.ref R, .int lo, .int hi] => ∃ X T n e, R = X + 11 ∧ rdQ S I J X T n e ∧ (¬ tK T n e = 3 → Q (some (.int (-1))) S (rej I X T n e 2) J z) ∧ (tK T n e = 3 → ¬ (lo ≤ tV T n e ∧ tV T n e ≤ hi) → Q (some (.int (-1))) S (rej I X T n e 4) J z) ∧ (tK T n e = 3 → (lo ≤ tV T n e ∧ tV T n e ≤ hi) → rdN X I J T n e (fun I' J' => Q (some (.int (tV T n e))) S I' J' z))
  | _ => False
set_option maxHeartbeats 4000000 in
set_option maxRecDepth 20000 in
theorem c_X4_takeNumber {l : Launch} {G : GT} {D : Nat} : ∀ as S I J z Q, sp_X4_takeNumber G as S I J z Q → fqCall l G M_X4_takeNumber (D + 3) 0 0 as S I J z Q := by
  intro as S I J z Q h
  unfold sp_X4_takeNumber at h
  split at h
  · next R lo hi =>
    obtain ⟨X, T, n, e, rfl, hq, h0, h1, h2⟩ := h
    have s1 := hq.1.1.1
    have h4 := hq.2.1.2.1
    refine fq_enter [some (.ref (X + 11)), some (.int lo), some (.int hi), none] (by decide +kernel) (Nat.le_of_ble_eq_true rfl) rfl (b_X4_takeNumber_0 _ _ _ _ _ _ _ _ ?_)
    by_cases q : tK T n e = 3
    · have h5 := hq.2.1.2.2.2.2.2.2.1 q
      simp (disch := omega) only [B_X4_takeNumber_0, sp_X11_isWithin, s1, h4, h5, kdC_3, bI_01, bI_01b, bI_0, nI_1, nI_add, nI_clamp, nI_pin, nI_neg, nI_nonneg, nI_leE, nI_ltE, nI_eqE, Nat.not_le, Nat.not_lt, fq_10, fq_01, fq_rr, ix_aald, ix_aast, ix_abs, ix_alen, ix_aload, ix_aret, ix_astore, ix_bald, ix_bast, ix_call, ix_cpyI, ix_cpyJ, ix_dead, ix_dup2, ix_dup2L, ix_dupI, ix_dupR, ix_dupx1, ix_getI, ix_getJ, ix_getR, ix_gfm, ix_gtab, ix_i2b, ix_i2c, ix_i2l, ix_i2s, ix_iadd, ix_iald, ix_iand, ix_iast, ix_icall, ix_icmp_eq, ix_icmp_ge, ix_icmp_gt, ix_icmp_le, ix_icmp_lt, ix_icmp_ne, ix_idiv, ix_if_eq, ix_if_ge, ix_if_gt, ix_if_le, ix_if_lt, ix_if_ne, ix_iinc, ix_iload, ix_imul, ix_ineg, ix_ior, ix_irem, ix_iret, ix_ishl, ix_ishr, ix_istore, ix_isub, ix_iushr, ix_ixor, ix_l2i, ix_ladd, ix_lald, ix_land, ix_last, ix_lcmp, ix_ldcS, ix_ldiv, ix_lload, ix_lmul, ix_lor, ix_lrem, ix_lret, ix_lshl, ix_lstore, ix_lsub, ix_lsw, ix_max, ix_min, ix_new, ix_newa, ix_nret, ix_oinit, ix_pop2L, ix_popI, ix_pushI, ix_pushL, ix_putI, ix_putJ, ix_putR, ix_putZ, ix_sbald, ix_sgetC, ix_sgetV, ix_slen, ix_strc, ix_tald, ix_tsw, ix_vcall, ix_vret, ix_zret, stL, stL2, kilL, popN, fq_sw, fq_lsw, List.map_cons, List.map_nil, List.getElem?_cons_zero, List.getElem?_cons_succ, Option.toList_some, Option.toList_none, List.cons_append, List.nil_append, List.length_cons, List.length_nil, List.sum_cons, List.sum_nil, cat_i, cat_l, cat_r, true_and, and_true, Nat.zero_add, Nat.add_zero, Nat.le_refl, Nat.zero_le, Nat.reduceAdd, Nat.reduceLeDiff, exists_eq_left', Option.some.injEq, not_true_eq_false, not_false_eq_true, false_implies, true_implies, implies_true, and_self, or_true, true_or, or_false, false_or]
      exact ⟨fun _ => ⟨fun r => adv_R hq (by rw [q]; decide) (fun I' J' a b => h2 q (Decidable.not_not.mp r) I' J' a b), fun r => rej_R hq (h1 q r)⟩, fun r => absurd q r⟩
    · simp (disch := omega) only [B_X4_takeNumber_0, sp_X11_isWithin, s1, h4, kdC_3, q, bI_01, bI_01b, bI_0, nI_1, nI_add, nI_clamp, nI_pin, nI_neg, nI_nonneg, nI_leE, nI_ltE, nI_eqE, Nat.not_le, Nat.not_lt, fq_10, fq_01, fq_rr, ix_aald, ix_aast, ix_abs, ix_alen, ix_aload, ix_aret, ix_astore, ix_bald, ix_bast, ix_call, ix_cpyI, ix_cpyJ, ix_dead, ix_dup2, ix_dup2L, ix_dupI, ix_dupR, ix_dupx1, ix_getI, ix_getJ, ix_getR, ix_gfm, ix_gtab, ix_i2b, ix_i2c, ix_i2l, ix_i2s, ix_iadd, ix_iald, ix_iand, ix_iast, ix_icall, ix_icmp_eq, ix_icmp_ge, ix_icmp_gt, ix_icmp_le, ix_icmp_lt, ix_icmp_ne, ix_idiv, ix_if_eq, ix_if_ge, ix_if_gt, ix_if_le, ix_if_lt, ix_if_ne, ix_iinc, ix_iload, ix_imul, ix_ineg, ix_ior, ix_irem, ix_iret, ix_ishl, ix_ishr, ix_istore, ix_isub, ix_iushr, ix_ixor, ix_l2i, ix_ladd, ix_lald, ix_land, ix_last, ix_lcmp, ix_ldcS, ix_ldiv, ix_lload, ix_lmul, ix_lor, ix_lrem, ix_lret, ix_lshl, ix_lstore, ix_lsub, ix_lsw, ix_max, ix_min, ix_new, ix_newa, ix_nret, ix_oinit, ix_pop2L, ix_popI, ix_pushI, ix_pushL, ix_putI, ix_putJ, ix_putR, ix_putZ, ix_sbald, ix_sgetC, ix_sgetV, ix_slen, ix_strc, ix_tald, ix_tsw, ix_vcall, ix_vret, ix_zret, stL, stL2, kilL, popN, fq_sw, fq_lsw, List.map_cons, List.map_nil, List.getElem?_cons_zero, List.getElem?_cons_succ, Option.toList_some, Option.toList_none, List.cons_append, List.nil_append, List.length_cons, List.length_nil, List.sum_cons, List.sum_nil, cat_i, cat_l, cat_r, true_and, and_true, Nat.zero_add, Nat.add_zero, Nat.le_refl, Nat.zero_le, Nat.reduceAdd, Nat.reduceLeDiff, exists_eq_left', Option.some.injEq, not_true_eq_false, not_false_eq_true, false_implies, true_implies, implies_true, and_self, or_true, true_or, or_false, false_or]
      exact rej_R hq (h0 q)
  · exact h.elim
