/-! the reference: street(), whole -/
def psv (x : PR) : Prop := match x with
  | .inl f => 0 < f.1
  | .inr _ => True
theorem psv_E {T : Nat → Int32} {n e : Nat} {k : Int32} (hk : 0 < k) : psv (pE T n k e) := by
  unfold psv pE
  dsimp only
  split
  · decide
  · exact hk
theorem psv_B {x : PR} {f : PSt → PR} (hx : psv x) (hf : ∀ s, psv (f s)) : psv (pB x f) := by
  cases x with
  | inl y => exact hx
  | inr s => exact hf s
theorem psv_i {s : PSt} : psv (.inr s) := trivial
theorem pNum_v {T : Nat → Int32} {n k : Nat} {lo hi : Int32} {s : PSt} : psv (pNum T n k lo hi s) := by
  unfold pNum
  repeat' first | with_reducible exact psv_i | (with_reducible refine psv_E ?_; decide) | split
theorem pWd_v {T : Nat → Int32} {n : Nat} {c : Int32} {s : PSt} : psv (pWd T n c s) := by
  unfold pWd
  repeat' first | with_reducible exact psv_i | (with_reducible refine psv_E ?_; decide) | split
theorem pSg_v {T : Nat → Int32} {n : Nat} {c : Int32} {s : PSt} : psv (pSg T n c s) := by
  unfold pSg
  repeat' first | with_reducible exact psv_i | (with_reducible refine psv_E ?_; decide) | split
theorem pFd_v {T : Nat → Int32} {n b m t : Nat} {s : PSt} : psv (pFd T n b m t s) := by
  unfold pFd
  repeat' first | with_reducible exact psv_i | (with_reducible refine psv_E ?_; decide) | split
theorem pNw_v {T : Nat → Int32} {n a b : Nat} {most : Int32} {s : PSt} : psv (pNw T n a b most s) := by
  unfold pNw
  repeat' first | with_reducible exact psv_i | (with_reducible refine psv_E ?_; decide) | split
theorem pOp_v {T : Nat → Int32} {n k : Nat} {c lo hi : Int32} {s : PSt} : psv (pOp T n c k lo hi s) := by
  unfold pOp
  repeat' first | with_reducible exact psv_i | with_reducible exact pNum_v | (with_reducible refine psv_E ?_; decide) | split
theorem pHs_v {T : Nat → Int32} {n : Nat} {s : PSt} : psv (pHs T n s) := by
  unfold pHs
  repeat' first | with_reducible exact psv_i | with_reducible exact pNum_v | with_reducible exact pWd_v | with_reducible exact pSg_v | with_reducible exact pFd_v | with_reducible exact pNw_v | with_reducible exact pOp_v | (with_reducible refine psv_E ?_; decide) | with_reducible refine psv_B ?_ (fun s => ?_) | split
theorem pPn_v {T : Nat → Int32} {n : Nat} {s : PSt} : psv (pPn T n s) := by
  unfold pPn
  repeat' first | with_reducible exact psv_i | with_reducible exact pNum_v | with_reducible exact pWd_v | with_reducible exact pSg_v | with_reducible exact pFd_v | with_reducible exact pNw_v | with_reducible exact pOp_v | (with_reducible refine psv_E ?_; decide) | with_reducible refine psv_B ?_ (fun s => ?_) | split
theorem pPc_v {T : Nat → Int32} {n : Nat} {s : PSt} : psv (pPc T n s) := by
  unfold pPc
  repeat' first | with_reducible exact psv_i | with_reducible exact pNum_v | with_reducible exact pWd_v | with_reducible exact pSg_v | with_reducible exact pFd_v | with_reducible exact pNw_v | with_reducible exact pOp_v | (with_reducible refine psv_E ?_; decide) | with_reducible refine psv_B ?_ (fun s => ?_) | split
theorem pPt_v {T : Nat → Int32} {n : Nat} {tp : Int32} {s : PSt} : psv (pPt T n tp s) := by
  unfold pPt
  repeat' first | with_reducible exact psv_i | with_reducible exact pNum_v | with_reducible exact pHs_v | with_reducible exact pPn_v | with_reducible exact pPc_v | with_reducible exact pSg_v | (with_reducible refine psv_E ?_; decide) | with_reducible refine psv_B ?_ (fun s => ?_) | split
/-- a street's text -/
def pSt (T : Nat → Int32) (n : Nat) : Nat → Int32 → PSt → PR
  | 0, _, s => .inr s
  | f + 1, tp, s => if tK T n s.2.2 = 0 then .inr s else pB (pPt T n tp s) (pSt T n f (tp ||| 1 <<< (kwI T n s.2.2 &&& 31)))
theorem pSt_v {T : Nat → Int32} {n : Nat} : ∀ f tp s, psv (pSt T n f tp s) := by
  intro f
  induction f with
  | zero => exact fun _ _ => trivial
  | succ f ih =>
    intro tp s
    unfold pSt
    split
    · exact psv_i
    · exact psv_B pPt_v (fun s => ih _ s)
def REX (M : Nat) (I : IH) (J : JH) (n : Nat) (x : PR) (Q1 Q0 : IH → JH → Prop) : Prop := match x with
  | .inl f => ∀ I' J', txF M I I' J J' → I' M 18 = f.1 → I' M 17 = nI f.2 → Q0 I' J'
  | .inr s => ∀ I' J', txF M I I' J J' → psH M I' J' n s → Q1 I' J'
theorem REX.on {M : Nat} {I I1 : IH} {J J1 : JH} {n : Nat} {x : PR} {Q1 Q0 : IH → JH → Prop} (hF : txF M I I1 J J1) (h : REX M I J n x Q1 Q0) : REX M I1 J1 n x Q1 Q0 := by
  cases x with
  | inl y => exact fun I2 J2 hF2 => h I2 J2 (hF.tr hF2)
  | inr z => exact fun I2 J2 hF2 => h I2 J2 (hF.tr hF2)
theorem REX.step {M : Nat} {I : IH} {J : JH} {n : Nat} {x : PR} {f : PSt → PR} {tp : Int32} {Q1 Q0 P1 P0 : IH → JH → Prop} (h : REX M I J n (pB x f) Q1 Q0) (h1 : ∀ s I' J', x = .inr s → txF M I I' J J' → psH M I' J' n s → I' M 20 = tp → REX M I' J' n (f s) Q1 Q0 → P1 I' J') (h0 : ∀ I' J', Q0 I' J' → P0 I' J') : RET M I J n x tp P1 P0 := by
  cases x with
  | inl y => exact fun I' J' a b c => h0 I' J' (h I' J' a b c)
  | inr s =>
    have h : REX M I J n (f s) Q1 Q0 := h
    exact fun I' J' a b c => h1 s I' J' rfl a b c (h.on a)
theorem taken_R {G : GT} {M z : Nat} {S : Sh} {I : IH} {J : JH} {v : Int32} {Q : Post} (hm : rfS S M) (h : I M 18 = 0) (hQ : Q (some (.int v)) S (u2 (u2 I M 16 0) M 2 0) J z) : sp_X12_taken G [.ref M, .int v] S I J z Q := by
  simp (disch := omega) only [sp_X12_taken, B_X12_taken_0, B_X12_taken_29, sp_X12_gives, B_X12_gives_0, sp_X12_refuse, B_X12_refuse_0, hm, hm.k, hm.k1, hm.n1, hm.r1, hm.k2, hm.n2, hm.r2, hm.k3, hm.n3, hm.r3, hm.k4, hm.n4, hm.r4, hm.k5, hm.n5, hm.r5, hm.k6, hm.n6, hm.r6, hm.k7, hm.n7, hm.r7, hm.k8, hm.n8, hm.r8, hm.k9, hm.n9, hm.r9, hm.k10, hm.n10, hm.r10, hm.k11, hm.n11, hm.r11, hm.k12, hm.n12, hm.r12, hm.k13, hm.n13, hm.r13, hm.k14, hm.n14, hm.r14, h, ix_aald, ix_aast, ix_abs, ix_alen, ix_aload, ix_aret, ix_astore, ix_bald, ix_bast, ix_call, ix_cpyI, ix_cpyJ, ix_dead, ix_dup2, ix_dup2L, ix_dupI, ix_dupR, ix_dupx1, ix_getI, ix_getJ, ix_getR, ix_gfm, ix_gtab, ix_i2b, ix_i2c, ix_i2l, ix_i2s, ix_iadd, ix_iald, ix_iand, ix_iast, ix_icall, ix_icmp_eq, ix_icmp_ge, ix_icmp_gt, ix_icmp_le, ix_icmp_lt, ix_icmp_ne, ix_idiv, ix_if_eq, ix_if_ge, ix_if_gt, ix_if_le, ix_if_lt, ix_if_ne, ix_iinc, ix_iload, ix_imul, ix_ineg, ix_ior, ix_irem, ix_iret, ix_ishl, ix_ishr, ix_istore, ix_isub, ix_iushr, ix_ixor, ix_l2i, ix_ladd, ix_lald, ix_land, ix_last, ix_lcmp, ix_ldcS, ix_ldiv, ix_lload, ix_lmul, ix_lor, ix_lrem, ix_lret, ix_lshl, ix_lstore, ix_lsub, ix_lsw, ix_max, ix_min, ix_new, ix_newa, ix_nret, ix_oinit, ix_pop2L, ix_popI, ix_pushI, ix_pushL, ix_putI, ix_putJ, ix_putR, ix_putZ, ix_sbald, ix_sgetC, ix_sgetV, ix_slen, ix_strc, ix_tald, ix_tsw, ix_vcall, ix_vret, ix_zret, stL, stL2, kilL, popN, fq_sw, fq_lsw, List.map_cons, List.map_nil, List.getElem?_cons_zero, List.getElem?_cons_succ, Option.toList_some, Option.toList_none, List.cons_append, List.nil_append, List.length_cons, List.length_nil, List.sum_cons, List.sum_nil, cat_i, cat_l, cat_r, true_and, and_true, Nat.zero_add, Nat.add_zero, Nat.le_refl, Nat.zero_le, Nat.reduceAdd, Nat.reduceLeDiff, exists_eq_left', Option.some.injEq, not_true_eq_false, not_false_eq_true, false_implies, true_implies, implies_true, and_self, or_true, true_or, or_false, false_or, u2_same, u2_ck]
  exact ⟨fun _ => hQ, fun h => absurd (by decide) h⟩
theorem taken_F {G : GT} {M z : Nat} {S : Sh} {I : IH} {J : JH} {v k : Int32} {Q : Post} (hm : rfS S M) (h : I M 18 = k) (hk : 0 < k) (hQ : Q (some (.int (-1))) S (u2 (u2 I M 16 k) M 2 9) J z) : sp_X12_taken G [.ref M, .int v] S I J z Q := by
  simp (disch := omega) only [sp_X12_taken, B_X12_taken_0, B_X12_taken_29, sp_X12_gives, B_X12_gives_0, sp_X12_refuse, B_X12_refuse_0, hm, hm.k, hm.k1, hm.n1, hm.r1, hm.k2, hm.n2, hm.r2, hm.k3, hm.n3, hm.r3, hm.k4, hm.n4, hm.r4, hm.k5, hm.n5, hm.r5, hm.k6, hm.n6, hm.r6, hm.k7, hm.n7, hm.r7, hm.k8, hm.n8, hm.r8, hm.k9, hm.n9, hm.r9, hm.k10, hm.n10, hm.r10, hm.k11, hm.n11, hm.r11, hm.k12, hm.n12, hm.r12, hm.k13, hm.n13, hm.r13, hm.k14, hm.n14, hm.r14, h, ix_aald, ix_aast, ix_abs, ix_alen, ix_aload, ix_aret, ix_astore, ix_bald, ix_bast, ix_call, ix_cpyI, ix_cpyJ, ix_dead, ix_dup2, ix_dup2L, ix_dupI, ix_dupR, ix_dupx1, ix_getI, ix_getJ, ix_getR, ix_gfm, ix_gtab, ix_i2b, ix_i2c, ix_i2l, ix_i2s, ix_iadd, ix_iald, ix_iand, ix_iast, ix_icall, ix_icmp_eq, ix_icmp_ge, ix_icmp_gt, ix_icmp_le, ix_icmp_lt, ix_icmp_ne, ix_idiv, ix_if_eq, ix_if_ge, ix_if_gt, ix_if_le, ix_if_lt, ix_if_ne, ix_iinc, ix_iload, ix_imul, ix_ineg, ix_ior, ix_irem, ix_iret, ix_ishl, ix_ishr, ix_istore, ix_isub, ix_iushr, ix_ixor, ix_l2i, ix_ladd, ix_lald, ix_land, ix_last, ix_lcmp, ix_ldcS, ix_ldiv, ix_lload, ix_lmul, ix_lor, ix_lrem, ix_lret, ix_lshl, ix_lstore, ix_lsub, ix_lsw, ix_max, ix_min, ix_new, ix_newa, ix_nret, ix_oinit, ix_pop2L, ix_popI, ix_pushI, ix_pushL, ix_putI, ix_putJ, ix_putR, ix_putZ, ix_sbald, ix_sgetC, ix_sgetV, ix_slen, ix_strc, ix_tald, ix_tsw, ix_vcall, ix_vret, ix_zret, stL, stL2, kilL, popN, fq_sw, fq_lsw, List.map_cons, List.map_nil, List.getElem?_cons_zero, List.getElem?_cons_succ, Option.toList_some, Option.toList_none, List.cons_append, List.nil_append, List.length_cons, List.length_nil, List.sum_cons, List.sum_nil, cat_i, cat_l, cat_r, true_and, and_true, Nat.zero_add, Nat.add_zero, Nat.le_refl, Nat.zero_le, Nat.reduceAdd, Nat.reduceLeDiff, exists_eq_left', Option.some.injEq, not_true_eq_false, not_false_eq_true, false_implies, true_implies, implies_true, and_self, or_true, true_or, or_false, false_or, u2_same, u2_ck]
  exact ⟨fun h => absurd hk (Int32.not_lt.mpr h), fun _ => hQ⟩
