/-! the reference: tokens -/
theorem dX12_byteAt_0 : decode cX12_byteAt 0 = .ok (.iload_n 1, 1) := by decide +kernel
theorem dX12_byteAt_1 : decode cX12_byteAt 1 = .ok (.aload_n 0, 1) := by decide +kernel
theorem dX12_byteAt_2 : decode cX12_byteAt 2 = .ok (.getfield 105, 3) := by decide +kernel
theorem dX12_byteAt_5 : decode cX12_byteAt 5 = .ok (.if_icmp .ge 16, 3) := by decide +kernel
theorem dX12_byteAt_8 : decode cX12_byteAt 8 = .ok (.aload_n 0, 1) := by decide +kernel
theorem dX12_byteAt_9 : decode cX12_byteAt 9 = .ok (.getfield 34, 3) := by decide +kernel
theorem dX12_byteAt_12 : decode cX12_byteAt 12 = .ok (.iload_n 1, 1) := by decide +kernel
theorem dX12_byteAt_13 : decode cX12_byteAt 13 = .ok (.baload, 1) := by decide +kernel
theorem dX12_byteAt_14 : decode cX12_byteAt 14 = .ok (.sipush 255, 3) := by decide +kernel
theorem dX12_byteAt_17 : decode cX12_byteAt 17 = .ok (.iand, 1) := by decide +kernel
theorem dX12_byteAt_18 : decode cX12_byteAt 18 = .ok (.goto 4, 3) := by decide +kernel
theorem dX12_byteAt_21 : decode cX12_byteAt 21 = .ok (.iconst (-1), 1) := by decide +kernel
theorem dX12_byteAt_22 : decode cX12_byteAt 22 = .ok (.ireturn, 1) := by decide +kernel
abbrev M_X12_byteAt : MT := (yX12_byteAt, cX12_byteAt, 2, (some .int))
theorem cf_X12_byteAt : fq_cf M_X12_byteAt 1 := ⟨(mg_1 (List.mem_of_getElem? (i := 15) rfl) rfl), (mg_7 (List.mem_of_getElem? (i := 119) rfl) rfl), ⟨by decide, by decide, by decide +kernel⟩, by decide⟩
def B_X12_byteAt_22 (G : GT) (mc ms : Nat) (Q : Post) : Cn := ix_iret mc ms Q
theorem b_X12_byteAt_22 {l : Launch} {G : GT} {D mc ms : Nat} {Q : Post} : Imp l G M_X12_byteAt (D + 0) mc ms Q (B_X12_byteAt_22 G mc ms Q) 22 := sx_iret dX12_byteAt_22 rfl
def B_X12_byteAt_0 (G : GT) (mc ms : Nat) (Q : Post) : Cn := ix_iload 1 (ix_aload 0 (ix_getI 12 11 (ix_icmp_ge (ix_pushI (-1) ((B_X12_byteAt_22 G mc ms Q))) (ix_aload 0 (ix_getR 12 9 (ix_iload 1 (ix_bald (ix_pushI 255 (ix_iand ((B_X12_byteAt_22 G mc ms Q)))))))))))
theorem b_X12_byteAt_0 {l : Launch} {G : GT} {D mc ms : Nat} {Q : Post} : Imp l G M_X12_byteAt (D + 0) mc ms Q (B_X12_byteAt_0 G mc ms Q) 0 := sx_iload_n dX12_byteAt_0 rfl (sx_aload_n dX12_byteAt_1 rfl (sx_getI dX12_byteAt_2 fl_FootQuarrelModel_105 (fun _ _ _ => rfl) (sx_icmp_ge 21 dX12_byteAt_5 (by decide) (sx_iconst dX12_byteAt_21 rfl (b_X12_byteAt_22)) (sx_aload_n dX12_byteAt_8 rfl (sx_getR dX12_byteAt_9 fl_FootQuarrelModel_34 (fun _ _ _ => rfl) (sx_iload_n dX12_byteAt_12 rfl (sx_bald dX12_byteAt_13 (sx_sipush dX12_byteAt_14 rfl (sx_iand dX12_byteAt_17 (sx_goto 22 dX12_byteAt_18 (by decide) (b_X12_byteAt_22)))))))))))
def byA (T : Nat → Int32) (n k : Nat) : Int32 := if k < n then T k &&& 255 else -1
def sp_X12_byteAt (G : GT) : Sp := fun as S I J z Q => match as with
  | [.ref M, .int a] => rfS S M ∧ okN a 900 ∧ okN (I M 11) 900 ∧ Q (some (.int (byA (I (M + 7)) (I M 11).toNatClampNeg a.toNatClampNeg))) S I J z
  | _ => False
theorem okE {c n : Nat} (h : c ≤ n) (hn : n < 2 ^ 31) : okN (nI c) n = True := eq_true (okN.nI h hn)
set_option maxHeartbeats 4000000 in
set_option maxRecDepth 20000 in
theorem c_X12_byteAt {l : Launch} {G : GT} {D : Nat} : ∀ as S I J z Q, sp_X12_byteAt G as S I J z Q → fqCall l G M_X12_byteAt (D + 0) 0 0 as S I J z Q := by
  intro as S I J z Q h
  unfold sp_X12_byteAt at h
  split at h
  · next M a =>
    obtain ⟨hm, hk, hn, hQ⟩ := h
    obtain ⟨k, hk, rfl, hk2⟩ := hk.ex
    obtain ⟨n, hn9, hn, hn2⟩ := hn.ex
    rw [hk2, hn2] at hQ
    unfold byA at hQ
    by_cases h : k < n
    · rw [if_pos h] at hQ
      refine fq_enter [some (.ref M), some (.int (nI k))] (by decide +kernel) (Nat.le_of_ble_eq_true rfl) rfl (b_X12_byteAt_0 _ _ _ _ _ _ _ _ ?_)
      simp (disch := omega) only [B_X12_byteAt_0, B_X12_byteAt_22, hm, hm.k, hm.k1, hm.n1, hm.r1, hm.k2, hm.n2, hm.r2, hm.k3, hm.n3, hm.r3, hm.k4, hm.n4, hm.r4, hm.k5, hm.n5, hm.r5, hm.k6, hm.n6, hm.r6, hm.k7, hm.n7, hm.r7, hm.k8, hm.n8, hm.r8, hm.k9, hm.n9, hm.r9, hm.k10, hm.n10, hm.r10, hm.k11, hm.n11, hm.r11, hm.k12, hm.n12, hm.r12, hm.k13, hm.n13, hm.r13, hm.k14, hm.n14, hm.r14, hn, nI_1, nI_add, nI_clamp, nI_pin, nI_neg, nI_nonneg, nI_leE, nI_ltE, nI_eqE, Nat.not_le, Nat.not_lt, fq_10, fq_01, fq_rr, ix_aald, ix_aast, ix_abs, ix_alen, ix_aload, ix_aret, ix_astore, ix_bald, ix_bast, ix_call, ix_cpyI, ix_cpyJ, ix_dead, ix_dup2, ix_dup2L, ix_dupI, ix_dupR, ix_dupx1, ix_getI, ix_getJ, ix_getR, ix_gfm, ix_gtab, ix_i2b, ix_i2c, ix_i2l, ix_i2s, ix_iadd, ix_iald, ix_iand, ix_iast, ix_icall, ix_icmp_eq, ix_icmp_ge, ix_icmp_gt, ix_icmp_le, ix_icmp_lt, ix_icmp_ne, ix_idiv, ix_if_eq, ix_if_ge, ix_if_gt, ix_if_le, ix_if_lt, ix_if_ne, ix_iinc, ix_iload, ix_imul, ix_ineg, ix_ior, ix_irem, ix_iret, ix_ishl, ix_ishr, ix_istore, ix_isub, ix_iushr, ix_ixor, ix_l2i, ix_ladd, ix_lald, ix_land, ix_last, ix_lcmp, ix_ldcS, ix_ldiv, ix_lload, ix_lmul, ix_lor, ix_lrem, ix_lret, ix_lshl, ix_lstore, ix_lsub, ix_lsw, ix_max, ix_min, ix_new, ix_newa, ix_nret, ix_oinit, ix_pop2L, ix_popI, ix_pushI, ix_pushL, ix_putI, ix_putJ, ix_putR, ix_putZ, ix_sbald, ix_sgetC, ix_sgetV, ix_slen, ix_strc, ix_tald, ix_tsw, ix_vcall, ix_vret, ix_zret, stL, stL2, kilL, popN, fq_sw, fq_lsw, List.map_cons, List.map_nil, List.getElem?_cons_zero, List.getElem?_cons_succ, Option.toList_some, Option.toList_none, List.cons_append, List.nil_append, List.length_cons, List.length_nil, List.sum_cons, List.sum_nil, cat_i, cat_l, cat_r, true_and, and_true, Nat.zero_add, Nat.add_zero, Nat.le_refl, Nat.zero_le, Nat.reduceAdd, Nat.reduceLeDiff, exists_eq_left', Option.some.injEq, not_true_eq_false, not_false_eq_true, false_implies, true_implies, implies_true, and_self, or_true, true_or, or_false, false_or]
      exact ⟨fun q => absurd h (by omega), fun _ => hQ⟩
    · rw [if_neg h] at hQ
      refine fq_enter [some (.ref M), some (.int (nI k))] (by decide +kernel) (Nat.le_of_ble_eq_true rfl) rfl (b_X12_byteAt_0 _ _ _ _ _ _ _ _ ?_)
      simp (disch := omega) only [B_X12_byteAt_0, B_X12_byteAt_22, hm, hm.k, hm.k1, hm.n1, hm.r1, hm.k2, hm.n2, hm.r2, hm.k3, hm.n3, hm.r3, hm.k4, hm.n4, hm.r4, hm.k5, hm.n5, hm.r5, hm.k6, hm.n6, hm.r6, hm.k7, hm.n7, hm.r7, hm.k8, hm.n8, hm.r8, hm.k9, hm.n9, hm.r9, hm.k10, hm.n10, hm.r10, hm.k11, hm.n11, hm.r11, hm.k12, hm.n12, hm.r12, hm.k13, hm.n13, hm.r13, hm.k14, hm.n14, hm.r14, hn, nI_1, nI_add, nI_clamp, nI_pin, nI_neg, nI_nonneg, nI_leE, nI_ltE, nI_eqE, Nat.not_le, Nat.not_lt, fq_10, fq_01, fq_rr, ix_aald, ix_aast, ix_abs, ix_alen, ix_aload, ix_aret, ix_astore, ix_bald, ix_bast, ix_call, ix_cpyI, ix_cpyJ, ix_dead, ix_dup2, ix_dup2L, ix_dupI, ix_dupR, ix_dupx1, ix_getI, ix_getJ, ix_getR, ix_gfm, ix_gtab, ix_i2b, ix_i2c, ix_i2l, ix_i2s, ix_iadd, ix_iald, ix_iand, ix_iast, ix_icall, ix_icmp_eq, ix_icmp_ge, ix_icmp_gt, ix_icmp_le, ix_icmp_lt, ix_icmp_ne, ix_idiv, ix_if_eq, ix_if_ge, ix_if_gt, ix_if_le, ix_if_lt, ix_if_ne, ix_iinc, ix_iload, ix_imul, ix_ineg, ix_ior, ix_irem, ix_iret, ix_ishl, ix_ishr, ix_istore, ix_isub, ix_iushr, ix_ixor, ix_l2i, ix_ladd, ix_lald, ix_land, ix_last, ix_lcmp, ix_ldcS, ix_ldiv, ix_lload, ix_lmul, ix_lor, ix_lrem, ix_lret, ix_lshl, ix_lstore, ix_lsub, ix_lsw, ix_max, ix_min, ix_new, ix_newa, ix_nret, ix_oinit, ix_pop2L, ix_popI, ix_pushI, ix_pushL, ix_putI, ix_putJ, ix_putR, ix_putZ, ix_sbald, ix_sgetC, ix_sgetV, ix_slen, ix_strc, ix_tald, ix_tsw, ix_vcall, ix_vret, ix_zret, stL, stL2, kilL, popN, fq_sw, fq_lsw, List.map_cons, List.map_nil, List.getElem?_cons_zero, List.getElem?_cons_succ, Option.toList_some, Option.toList_none, List.cons_append, List.nil_append, List.length_cons, List.length_nil, List.sum_cons, List.sum_nil, cat_i, cat_l, cat_r, true_and, and_true, Nat.zero_add, Nat.add_zero, Nat.le_refl, Nat.zero_le, Nat.reduceAdd, Nat.reduceLeDiff, exists_eq_left', Option.some.injEq, not_true_eq_false, not_false_eq_true, false_implies, true_implies, implies_true, and_self, or_true, true_or, or_false, false_or]
      exact ⟨fun _ => hQ, fun q => absurd q h⟩
  · exact h.elim
abbrev isBl (c : Int32) : Prop := c = 32 ∨ c = 10
abbrev isSm (c : Int32) : Prop := 97 ≤ c ∧ c ≤ 122
abbrev isDg (c : Int32) : Prop := 48 ≤ c ∧ c ≤ 57
abbrev isSg (c : Int32) : Prop := c = 59 ∨ c = 60 ∨ c = 62 ∨ c = 61
/-- on over bytes of one kind -/
def scn (p : Int32 → Bool) (T : Nat → Int32) (n : Nat) : Nat → Nat → Nat
  | 0, e => e
  | f + 1, e => if p (byA T n e) then scn p T n f (e + 1) else e
theorem scn_1 (p : Int32 → Bool) (T : Nat → Int32) (n f e : Nat) : scn p T n (f + 1) e = if p (byA T n e) then scn p T n f (e + 1) else e := rfl
def scB (T : Nat → Int32) (n e : Nat) : Nat := scn (fun c => decide (isBl c)) T n (n - e) e
def scS (T : Nat → Int32) (n e : Nat) : Nat := scn (fun c => decide (isSm c)) T n (n - e) e
def scD (T : Nat → Int32) (n e : Nat) : Nat := scn (fun c => decide (isDg c)) T n (n - e) e
/-- the number along digits -/
def dgV (T : Nat → Int32) (n : Nat) : Nat → Nat → Int32 → Int32
  | 0, _, v => v
  | f + 1, e, v => if isDg (byA T n e) then dgV T n f (e + 1) (mnI 100000 (10 * v + byA T n e - 48)) else v
/-- a token behind e: kind, from, end, value -/
def tF (T : Nat → Int32) (n e : Nat) : Nat := scB T n e
def tC (T : Nat → Int32) (n e : Nat) : Int32 := byA T n (tF T n e)
def tE (T : Nat → Int32) (n e : Nat) : Nat := if tC T n e = -1 then tF T n e else if isSm (tC T n e) then scS T n (tF T n e) else if isDg (tC T n e) then scD T n (tF T n e) else tF T n e + 1
def tV (T : Nat → Int32) (n e : Nat) : Int32 := if tC T n e = -1 then tC T n e else if isSm (tC T n e) then tC T n e else if isDg (tC T n e) then dgV T n (n - tF T n e) (tF T n e) 0 else tC T n e
def tK (T : Nat → Int32) (n e : Nat) : Int32 := if tC T n e = -1 then 0 else if isSm (tC T n e) then 2 else if isDg (tC T n e) then (if 4 < tE T n e - tF T n e then 1 else 3) else if isSg (tC T n e) then 4 else 1
theorem byA_o {T : Nat → Int32} {n k : Nat} (h : n ≤ k) : byA T n k = -1 := if_neg (by omega)
theorem scn_le {p : Int32 → Bool} {T : Nat → Int32} {n : Nat} : ∀ (f e : Nat), e ≤ scn p T n f e ∧ scn p T n f e ≤ e + f
  | 0, e => ⟨Nat.le_refl e, Nat.le_refl e⟩
  | f + 1, e => by
    rw [scn_1]
    split
    · have := scn_le (p := p) (T := T) (n := n) f (e + 1)
      omega
    · omega
theorem scn_st {p : Int32 → Bool} {T : Nat → Int32} {n : Nat} (hp : p (-1) = false) : ∀ (f e : Nat), n ≤ e + f → p (byA T n (scn p T n f e)) = false
  | 0, e, h => by
    show p (byA T n e) = false
    rw [byA_o (by omega)]
    exact hp
  | f + 1, e, h => by
    rw [scn_1]
    split
    · exact scn_st hp f (e + 1) (by omega)
    · next q => simpa using q
theorem scn_in {p : Int32 → Bool} {T : Nat → Int32} {n : Nat} : ∀ (f e j : Nat), e ≤ j → j < scn p T n f e → p (byA T n j) = true
  | 0, e, j, h1, h2 => by
    have h2 : j < e := h2
    omega
  | f + 1, e, j, h1, h2 => by
    rw [scn_1] at h2
    split at h2
    · next q =>
      by_cases h : j = e
      · rw [h]; exact q
      · exact scn_in f (e + 1) j (by omega) h2
    · omega
/-- what ahead may have changed -/
def ahF (M : Nat) (I I' : IH) : Prop := (∀ a, a ≠ M → I' a = I a) ∧ ∀ k, k ≠ 12 → k ≠ 13 → k ≠ 14 → k ≠ 15 → I' M k = I M k
theorem ahF.tr {M : Nat} {I I1 I2 : IH} (h : ahF M I I1) (g : ahF M I1 I2) : ahF M I I2 := ⟨fun a h1 => (g.1 a h1).trans (h.1 a h1), fun k h1 h2 h3 h4 => (g.2 k h1 h2 h3 h4).trans (h.2 k h1 h2 h3 h4)⟩
theorem ahF.rf {M : Nat} {I : IH} : ahF M I I := ⟨fun _ _ => rfl, fun _ _ _ _ _ => rfl⟩
theorem ahF.u {M : Nat} {I : IH} {k : Nat} {v : Int32} (h : k = 12 ∨ k = 13 ∨ k = 14 ∨ k = 15) : ahF M I (u2 I M k v) := ⟨fun a h1 => u2_ne h1, fun j h1 h2 h3 h4 => u2_ck _ _ _ _ _ _ (by omega)⟩
/-- the pool stands at the token behind e -/
def tkH (M : Nat) (I : IH) (n e : Nat) : Prop := I M 11 = nI n ∧ I M 12 = tK (I (M + 7)) n e ∧ I M 13 = nI (tF (I (M + 7)) n e) ∧ I M 14 = nI (tE (I (M + 7)) n e) ∧ I M 15 = tV (I (M + 7)) n e
theorem dX12_ahead_0 : decode cX12_ahead 0 = .ok (.aload_n 0, 1) := by decide +kernel
theorem dX12_ahead_1 : decode cX12_ahead 1 = .ok (.aload_n 0, 1) := by decide +kernel
theorem dX12_ahead_2 : decode cX12_ahead 2 = .ok (.getfield 108, 3) := by decide +kernel
theorem dX12_ahead_5 : decode cX12_ahead 5 = .ok (.invokevirtual 111, 3) := by decide +kernel
theorem dX12_ahead_8 : decode cX12_ahead 8 = .ok (.bipush 32, 2) := by decide +kernel
theorem dX12_ahead_10 : decode cX12_ahead 10 = .ok (.if_icmp .eq 16, 3) := by decide +kernel
theorem dX12_ahead_13 : decode cX12_ahead 13 = .ok (.aload_n 0, 1) := by decide +kernel
theorem dX12_ahead_14 : decode cX12_ahead 14 = .ok (.aload_n 0, 1) := by decide +kernel
theorem dX12_ahead_15 : decode cX12_ahead 15 = .ok (.getfield 108, 3) := by decide +kernel
theorem dX12_ahead_18 : decode cX12_ahead 18 = .ok (.invokevirtual 111, 3) := by decide +kernel
theorem dX12_ahead_21 : decode cX12_ahead 21 = .ok (.bipush 10, 2) := by decide +kernel
theorem dX12_ahead_23 : decode cX12_ahead 23 = .ok (.if_icmp .ne 16, 3) := by decide +kernel
theorem dX12_ahead_26 : decode cX12_ahead 26 = .ok (.aload_n 0, 1) := by decide +kernel
theorem dX12_ahead_27 : decode cX12_ahead 27 = .ok (.dup, 1) := by decide +kernel
theorem dX12_ahead_28 : decode cX12_ahead 28 = .ok (.getfield 108, 3) := by decide +kernel
theorem dX12_ahead_31 : decode cX12_ahead 31 = .ok (.iconst 1, 1) := by decide +kernel
theorem dX12_ahead_32 : decode cX12_ahead 32 = .ok (.iadd, 1) := by decide +kernel
theorem dX12_ahead_33 : decode cX12_ahead 33 = .ok (.putfield 108, 3) := by decide +kernel
theorem dX12_ahead_36 : decode cX12_ahead 36 = .ok (.goto (-36), 3) := by decide +kernel
theorem dX12_ahead_39 : decode cX12_ahead 39 = .ok (.aload_n 0, 1) := by decide +kernel
theorem dX12_ahead_40 : decode cX12_ahead 40 = .ok (.aload_n 0, 1) := by decide +kernel
theorem dX12_ahead_41 : decode cX12_ahead 41 = .ok (.getfield 108, 3) := by decide +kernel
theorem dX12_ahead_44 : decode cX12_ahead 44 = .ok (.putfield 114, 3) := by decide +kernel
theorem dX12_ahead_47 : decode cX12_ahead 47 = .ok (.aload_n 0, 1) := by decide +kernel
theorem dX12_ahead_48 : decode cX12_ahead 48 = .ok (.aload_n 0, 1) := by decide +kernel
theorem dX12_ahead_49 : decode cX12_ahead 49 = .ok (.getfield 108, 3) := by decide +kernel
theorem dX12_ahead_52 : decode cX12_ahead 52 = .ok (.invokevirtual 111, 3) := by decide +kernel
theorem dX12_ahead_55 : decode cX12_ahead 55 = .ok (.istore_n 1, 1) := by decide +kernel
theorem dX12_ahead_56 : decode cX12_ahead 56 = .ok (.aload_n 0, 1) := by decide +kernel
theorem dX12_ahead_57 : decode cX12_ahead 57 = .ok (.iload_n 1, 1) := by decide +kernel
theorem dX12_ahead_58 : decode cX12_ahead 58 = .ok (.putfield 117, 3) := by decide +kernel
theorem dX12_ahead_61 : decode cX12_ahead 61 = .ok (.iload_n 1, 1) := by decide +kernel
theorem dX12_ahead_62 : decode cX12_ahead 62 = .ok (.iconst (-1), 1) := by decide +kernel
theorem dX12_ahead_63 : decode cX12_ahead 63 = .ok (.if_icmp .ne 11, 3) := by decide +kernel
theorem dX12_ahead_66 : decode cX12_ahead 66 = .ok (.aload_n 0, 1) := by decide +kernel
theorem dX12_ahead_67 : decode cX12_ahead 67 = .ok (.iconst 0, 1) := by decide +kernel
theorem dX12_ahead_68 : decode cX12_ahead 68 = .ok (.putfield 120, 3) := by decide +kernel
theorem dX12_ahead_71 : decode cX12_ahead 71 = .ok (.goto 180, 3) := by decide +kernel
theorem dX12_ahead_74 : decode cX12_ahead 74 = .ok (.iload_n 1, 1) := by decide +kernel
theorem dX12_ahead_75 : decode cX12_ahead 75 = .ok (.invokestatic 123, 3) := by decide +kernel
theorem dX12_ahead_78 : decode cX12_ahead 78 = .ok (.ifCond .eq 38, 3) := by decide +kernel
theorem dX12_ahead_81 : decode cX12_ahead 81 = .ok (.aload_n 0, 1) := by decide +kernel
theorem dX12_ahead_82 : decode cX12_ahead 82 = .ok (.aload_n 0, 1) := by decide +kernel
theorem dX12_ahead_83 : decode cX12_ahead 83 = .ok (.getfield 108, 3) := by decide +kernel
theorem dX12_ahead_86 : decode cX12_ahead 86 = .ok (.invokevirtual 111, 3) := by decide +kernel
theorem dX12_ahead_89 : decode cX12_ahead 89 = .ok (.invokestatic 123, 3) := by decide +kernel
theorem dX12_ahead_92 : decode cX12_ahead 92 = .ok (.ifCond .eq 16, 3) := by decide +kernel
theorem dX12_ahead_95 : decode cX12_ahead 95 = .ok (.aload_n 0, 1) := by decide +kernel
theorem dX12_ahead_96 : decode cX12_ahead 96 = .ok (.dup, 1) := by decide +kernel
theorem dX12_ahead_97 : decode cX12_ahead 97 = .ok (.getfield 108, 3) := by decide +kernel
theorem dX12_ahead_100 : decode cX12_ahead 100 = .ok (.iconst 1, 1) := by decide +kernel
theorem dX12_ahead_101 : decode cX12_ahead 101 = .ok (.iadd, 1) := by decide +kernel
theorem dX12_ahead_102 : decode cX12_ahead 102 = .ok (.putfield 108, 3) := by decide +kernel
theorem dX12_ahead_105 : decode cX12_ahead 105 = .ok (.goto (-24), 3) := by decide +kernel
theorem dX12_ahead_108 : decode cX12_ahead 108 = .ok (.aload_n 0, 1) := by decide +kernel
theorem dX12_ahead_109 : decode cX12_ahead 109 = .ok (.iconst 2, 1) := by decide +kernel
theorem dX12_ahead_110 : decode cX12_ahead 110 = .ok (.putfield 120, 3) := by decide +kernel
theorem dX12_ahead_113 : decode cX12_ahead 113 = .ok (.goto 138, 3) := by decide +kernel
theorem dX12_ahead_116 : decode cX12_ahead 116 = .ok (.iload_n 1, 1) := by decide +kernel
theorem dX12_ahead_117 : decode cX12_ahead 117 = .ok (.invokestatic 126, 3) := by decide +kernel
theorem dX12_ahead_120 : decode cX12_ahead 120 = .ok (.ifCond .eq 88, 3) := by decide +kernel
theorem dX12_ahead_123 : decode cX12_ahead 123 = .ok (.aload_n 0, 1) := by decide +kernel
theorem dX12_ahead_124 : decode cX12_ahead 124 = .ok (.iconst 0, 1) := by decide +kernel
theorem dX12_ahead_125 : decode cX12_ahead 125 = .ok (.putfield 117, 3) := by decide +kernel
theorem dX12_ahead_128 : decode cX12_ahead 128 = .ok (.aload_n 0, 1) := by decide +kernel
theorem dX12_ahead_129 : decode cX12_ahead 129 = .ok (.aload_n 0, 1) := by decide +kernel
theorem dX12_ahead_130 : decode cX12_ahead 130 = .ok (.getfield 108, 3) := by decide +kernel
theorem dX12_ahead_133 : decode cX12_ahead 133 = .ok (.invokevirtual 111, 3) := by decide +kernel
theorem dX12_ahead_136 : decode cX12_ahead 136 = .ok (.invokestatic 126, 3) := by decide +kernel
theorem dX12_ahead_139 : decode cX12_ahead 139 = .ok (.ifCond .eq 44, 3) := by decide +kernel
theorem dX12_ahead_142 : decode cX12_ahead 142 = .ok (.aload_n 0, 1) := by decide +kernel
theorem dX12_ahead_143 : decode cX12_ahead 143 = .ok (.ldc 129, 2) := by decide +kernel
theorem dX12_ahead_145 : decode cX12_ahead 145 = .ok (.bipush 10, 2) := by decide +kernel
theorem dX12_ahead_147 : decode cX12_ahead 147 = .ok (.aload_n 0, 1) := by decide +kernel
theorem dX12_ahead_148 : decode cX12_ahead 148 = .ok (.getfield 117, 3) := by decide +kernel
theorem dX12_ahead_151 : decode cX12_ahead 151 = .ok (.imul, 1) := by decide +kernel
theorem dX12_ahead_152 : decode cX12_ahead 152 = .ok (.aload_n 0, 1) := by decide +kernel
theorem dX12_ahead_153 : decode cX12_ahead 153 = .ok (.aload_n 0, 1) := by decide +kernel
theorem dX12_ahead_154 : decode cX12_ahead 154 = .ok (.getfield 108, 3) := by decide +kernel
theorem dX12_ahead_157 : decode cX12_ahead 157 = .ok (.invokevirtual 111, 3) := by decide +kernel
theorem dX12_ahead_160 : decode cX12_ahead 160 = .ok (.iadd, 1) := by decide +kernel
theorem dX12_ahead_161 : decode cX12_ahead 161 = .ok (.bipush 48, 2) := by decide +kernel
theorem dX12_ahead_163 : decode cX12_ahead 163 = .ok (.isub, 1) := by decide +kernel
theorem dX12_ahead_164 : decode cX12_ahead 164 = .ok (.invokestatic 130, 3) := by decide +kernel
theorem dX12_ahead_167 : decode cX12_ahead 167 = .ok (.putfield 117, 3) := by decide +kernel
theorem dX12_ahead_170 : decode cX12_ahead 170 = .ok (.aload_n 0, 1) := by decide +kernel
theorem dX12_ahead_171 : decode cX12_ahead 171 = .ok (.dup, 1) := by decide +kernel
theorem dX12_ahead_172 : decode cX12_ahead 172 = .ok (.getfield 108, 3) := by decide +kernel
theorem dX12_ahead_175 : decode cX12_ahead 175 = .ok (.iconst 1, 1) := by decide +kernel
theorem dX12_ahead_176 : decode cX12_ahead 176 = .ok (.iadd, 1) := by decide +kernel
theorem dX12_ahead_177 : decode cX12_ahead 177 = .ok (.putfield 108, 3) := by decide +kernel
theorem dX12_ahead_180 : decode cX12_ahead 180 = .ok (.goto (-52), 3) := by decide +kernel
theorem dX12_ahead_183 : decode cX12_ahead 183 = .ok (.aload_n 0, 1) := by decide +kernel
theorem dX12_ahead_184 : decode cX12_ahead 184 = .ok (.aload_n 0, 1) := by decide +kernel
theorem dX12_ahead_185 : decode cX12_ahead 185 = .ok (.getfield 108, 3) := by decide +kernel
theorem dX12_ahead_188 : decode cX12_ahead 188 = .ok (.aload_n 0, 1) := by decide +kernel
theorem dX12_ahead_189 : decode cX12_ahead 189 = .ok (.getfield 114, 3) := by decide +kernel
theorem dX12_ahead_192 : decode cX12_ahead 192 = .ok (.isub, 1) := by decide +kernel
theorem dX12_ahead_193 : decode cX12_ahead 193 = .ok (.iconst 4, 1) := by decide +kernel
theorem dX12_ahead_194 : decode cX12_ahead 194 = .ok (.if_icmp .le 7, 3) := by decide +kernel
theorem dX12_ahead_197 : decode cX12_ahead 197 = .ok (.iconst 1, 1) := by decide +kernel
theorem dX12_ahead_198 : decode cX12_ahead 198 = .ok (.goto 4, 3) := by decide +kernel
theorem dX12_ahead_201 : decode cX12_ahead 201 = .ok (.iconst 3, 1) := by decide +kernel
theorem dX12_ahead_202 : decode cX12_ahead 202 = .ok (.putfield 120, 3) := by decide +kernel
theorem dX12_ahead_205 : decode cX12_ahead 205 = .ok (.goto 46, 3) := by decide +kernel
theorem dX12_ahead_208 : decode cX12_ahead 208 = .ok (.aload_n 0, 1) := by decide +kernel
theorem dX12_ahead_209 : decode cX12_ahead 209 = .ok (.dup, 1) := by decide +kernel
theorem dX12_ahead_210 : decode cX12_ahead 210 = .ok (.getfield 108, 3) := by decide +kernel
theorem dX12_ahead_213 : decode cX12_ahead 213 = .ok (.iconst 1, 1) := by decide +kernel
theorem dX12_ahead_214 : decode cX12_ahead 214 = .ok (.iadd, 1) := by decide +kernel
theorem dX12_ahead_215 : decode cX12_ahead 215 = .ok (.putfield 108, 3) := by decide +kernel
theorem dX12_ahead_218 : decode cX12_ahead 218 = .ok (.aload_n 0, 1) := by decide +kernel
theorem dX12_ahead_219 : decode cX12_ahead 219 = .ok (.iload_n 1, 1) := by decide +kernel
theorem dX12_ahead_220 : decode cX12_ahead 220 = .ok (.bipush 59, 2) := by decide +kernel
theorem dX12_ahead_222 : decode cX12_ahead 222 = .ok (.if_icmp .eq 21, 3) := by decide +kernel
theorem dX12_ahead_225 : decode cX12_ahead 225 = .ok (.iload_n 1, 1) := by decide +kernel
theorem dX12_ahead_226 : decode cX12_ahead 226 = .ok (.bipush 60, 2) := by decide +kernel
theorem dX12_ahead_228 : decode cX12_ahead 228 = .ok (.if_icmp .eq 15, 3) := by decide +kernel
theorem dX12_ahead_231 : decode cX12_ahead 231 = .ok (.iload_n 1, 1) := by decide +kernel
theorem dX12_ahead_232 : decode cX12_ahead 232 = .ok (.bipush 62, 2) := by decide +kernel
theorem dX12_ahead_234 : decode cX12_ahead 234 = .ok (.if_icmp .eq 9, 3) := by decide +kernel
theorem dX12_ahead_237 : decode cX12_ahead 237 = .ok (.iload_n 1, 1) := by decide +kernel
theorem dX12_ahead_238 : decode cX12_ahead 238 = .ok (.bipush 61, 2) := by decide +kernel
theorem dX12_ahead_240 : decode cX12_ahead 240 = .ok (.if_icmp .ne 7, 3) := by decide +kernel
theorem dX12_ahead_243 : decode cX12_ahead 243 = .ok (.iconst 4, 1) := by decide +kernel
theorem dX12_ahead_244 : decode cX12_ahead 244 = .ok (.goto 4, 3) := by decide +kernel
theorem dX12_ahead_247 : decode cX12_ahead 247 = .ok (.iconst 1, 1) := by decide +kernel
theorem dX12_ahead_248 : decode cX12_ahead 248 = .ok (.putfield 120, 3) := by decide +kernel
theorem dX12_ahead_251 : decode cX12_ahead 251 = .ok (.return_, 1) := by decide +kernel
abbrev M_X12_ahead : MT := (yX12_ahead, cX12_ahead, 2, none)
theorem cf_X12_ahead : fq_cf M_X12_ahead 0 := ⟨(mg_1 (List.mem_of_getElem? (i := 15) rfl) rfl), (mg_7 (List.mem_of_getElem? (i := 115) rfl) rfl), ⟨by decide, by decide, by decide +kernel⟩, by decide⟩
def B_X12_ahead_251 (l : Launch) (G : GT) (D mc ms : Nat) (Q : Post) : Cn := ix_vret mc ms Q
theorem b_X12_ahead_251 {l : Launch} {G : GT} {D mc ms : Nat} {Q : Post} : Imp l G M_X12_ahead (D + 1) mc ms Q (B_X12_ahead_251 l G D mc ms Q) 251 := sx_vret dX12_ahead_251 rfl
def B_X12_ahead_248 (l : Launch) (G : GT) (D mc ms : Nat) (Q : Post) : Cn := ix_putI 12 12 ((B_X12_ahead_251 l G D mc ms Q))
theorem b_X12_ahead_248 {l : Launch} {G : GT} {D mc ms : Nat} {Q : Post} : Imp l G M_X12_ahead (D + 1) mc ms Q (B_X12_ahead_248 l G D mc ms Q) 248 := sx_putI dX12_ahead_248 fl_FootQuarrelModel_120 (by decide) (fun _ _ _ => rfl) (fun _ => ⟨rfl, rfl⟩) (b_X12_ahead_251)
def B_X12_ahead_243 (l : Launch) (G : GT) (D mc ms : Nat) (Q : Post) : Cn := ix_pushI 4 ((B_X12_ahead_248 l G D mc ms Q))
theorem b_X12_ahead_243 {l : Launch} {G : GT} {D mc ms : Nat} {Q : Post} : Imp l G M_X12_ahead (D + 1) mc ms Q (B_X12_ahead_243 l G D mc ms Q) 243 := sx_iconst dX12_ahead_243 rfl (sx_goto 248 dX12_ahead_244 (by decide) (b_X12_ahead_248))
def B_X12_ahead_202 (l : Launch) (G : GT) (D mc ms : Nat) (Q : Post) : Cn := ix_putI 12 12 ((B_X12_ahead_251 l G D mc ms Q))
theorem b_X12_ahead_202 {l : Launch} {G : GT} {D mc ms : Nat} {Q : Post} : Imp l G M_X12_ahead (D + 1) mc ms Q (B_X12_ahead_202 l G D mc ms Q) 202 := sx_putI dX12_ahead_202 fl_FootQuarrelModel_120 (by decide) (fun _ _ _ => rfl) (fun _ => ⟨rfl, rfl⟩) (sx_goto 251 dX12_ahead_205 (by decide) (b_X12_ahead_251))
def B_X12_ahead_183 (l : Launch) (G : GT) (D mc ms : Nat) (Q : Post) : Cn := ix_aload 0 (ix_aload 0 (ix_getI 12 14 (ix_aload 0 (ix_getI 12 13 (ix_isub (ix_pushI 4 (ix_icmp_le (ix_pushI 3 ((B_X12_ahead_202 l G D mc ms Q))) (ix_pushI 1 ((B_X12_ahead_202 l G D mc ms Q))))))))))
theorem b_X12_ahead_183 {l : Launch} {G : GT} {D mc ms : Nat} {Q : Post} : Imp l G M_X12_ahead (D + 1) mc ms Q (B_X12_ahead_183 l G D mc ms Q) 183 := sx_aload_n dX12_ahead_183 rfl (sx_aload_n dX12_ahead_184 rfl (sx_getI dX12_ahead_185 fl_FootQuarrelModel_108 (fun _ _ _ => rfl) (sx_aload_n dX12_ahead_188 rfl (sx_getI dX12_ahead_189 fl_FootQuarrelModel_114 (fun _ _ _ => rfl) (sx_isub dX12_ahead_192 (sx_iconst dX12_ahead_193 rfl (sx_icmp_le 201 dX12_ahead_194 (by decide) (sx_iconst dX12_ahead_201 rfl (b_X12_ahead_202)) (sx_iconst dX12_ahead_197 rfl (sx_goto 202 dX12_ahead_198 (by decide) (b_X12_ahead_202))))))))))
def B_X12_ahead_128 (l : Launch) (G : GT) (D mc ms : Nat) (Q : Post) : Cn := ix_aload 0 (ix_aload 0 (ix_getI 12 14 (ix_vcall 12 2 0 0 mc ms (sp_X12_byteAt G) (ix_call 1 0 0 mc ms (sp_X12_isDigit G) (ix_if_eq ((B_X12_ahead_183 l G D mc ms Q)) (ix_aload 0 (ix_pushI 100000 (ix_pushI 10 (ix_aload 0 (ix_getI 12 15 (ix_imul (ix_aload 0 (ix_aload 0 (ix_getI 12 14 (ix_vcall 12 2 0 0 mc ms (sp_X12_byteAt G) (ix_iadd (ix_pushI 48 (ix_isub (ix_min mc ms (ix_putI 12 15 (ix_aload 0 (ix_dupR (ix_getI 12 14 (ix_pushI 1 (ix_iadd (ix_putI 12 14 (fqAt l G M_X12_ahead (D + 1) mc ms Q 128)))))))))))))))))))))))))))
theorem b_X12_ahead_128 {l : Launch} {G : GT} {D mc ms : Nat} {Q : Post} : Imp l G M_X12_ahead (D + 1) mc ms Q (B_X12_ahead_128 l G D mc ms Q) 128 := sx_aload_n dX12_ahead_128 rfl (sx_aload_n dX12_ahead_129 rfl (sx_getI dX12_ahead_130 fl_FootQuarrelModel_108 (fun _ _ _ => rfl) (sx_vcall dX12_ahead_133 cf_X12_byteAt (mg_7 (List.mem_of_getElem? (i := 116) rfl) rfl) (mg_7 (List.mem_of_getElem? (i := 118) rfl) rfl) (mg_p (List.mem_of_getElem? (i := 53) rfl) rfl) rfl c_X12_byteAt (sx_scall dX12_ahead_136 cf_X12_isDigit (mg_7 (List.mem_of_getElem? (i := 123) rfl) rfl) (mg_7 (List.mem_of_getElem? (i := 124) rfl) rfl) c_X12_isDigit (sx_if_eq 183 dX12_ahead_139 (by decide) (b_X12_ahead_183) (sx_aload_n dX12_ahead_142 rfl (sx_ldc dX12_ahead_143 (mg_7 (List.mem_of_getElem? (i := 126) rfl) rfl) (sx_bipush dX12_ahead_145 rfl (sx_aload_n dX12_ahead_147 rfl (sx_getI dX12_ahead_148 fl_FootQuarrelModel_117 (fun _ _ _ => rfl) (sx_imul dX12_ahead_151 (sx_aload_n dX12_ahead_152 rfl (sx_aload_n dX12_ahead_153 rfl (sx_getI dX12_ahead_154 fl_FootQuarrelModel_108 (fun _ _ _ => rfl) (sx_vcall dX12_ahead_157 cf_X12_byteAt (mg_7 (List.mem_of_getElem? (i := 116) rfl) rfl) (mg_7 (List.mem_of_getElem? (i := 118) rfl) rfl) (mg_p (List.mem_of_getElem? (i := 53) rfl) rfl) rfl c_X12_byteAt (sx_iadd dX12_ahead_160 (sx_bipush dX12_ahead_161 rfl (sx_isub dX12_ahead_163 (sx_min dX12_ahead_164 (mg_7 (List.mem_of_getElem? (i := 127) rfl) rfl) (mg_3 (List.mem_of_getElem? (i := 179) rfl) rfl) (mg_1 (List.mem_of_getElem? (i := 18) rfl) rfl) (mg_3 (List.mem_of_getElem? (i := 180) rfl) rfl) (sx_putI dX12_ahead_167 fl_FootQuarrelModel_117 (by decide) (fun _ _ _ => rfl) (fun _ => ⟨rfl, rfl⟩) (sx_aload_n dX12_ahead_170 rfl (sx_dupR dX12_ahead_171 (sx_getI dX12_ahead_172 fl_FootQuarrelModel_108 (fun _ _ _ => rfl) (sx_iconst dX12_ahead_175 rfl (sx_iadd dX12_ahead_176 (sx_putI dX12_ahead_177 fl_FootQuarrelModel_108 (by decide) (fun _ _ _ => rfl) (fun _ => ⟨rfl, rfl⟩) (sx_goto 128 dX12_ahead_180 (by decide) ((fun _ _ _ _ _ _ _ _ h => h)))))))))))))))))))))))))))))
def B_X12_ahead_108 (l : Launch) (G : GT) (D mc ms : Nat) (Q : Post) : Cn := ix_aload 0 (ix_pushI 2 (ix_putI 12 12 ((B_X12_ahead_251 l G D mc ms Q))))
theorem b_X12_ahead_108 {l : Launch} {G : GT} {D mc ms : Nat} {Q : Post} : Imp l G M_X12_ahead (D + 1) mc ms Q (B_X12_ahead_108 l G D mc ms Q) 108 := sx_aload_n dX12_ahead_108 rfl (sx_iconst dX12_ahead_109 rfl (sx_putI dX12_ahead_110 fl_FootQuarrelModel_120 (by decide) (fun _ _ _ => rfl) (fun _ => ⟨rfl, rfl⟩) (sx_goto 251 dX12_ahead_113 (by decide) (b_X12_ahead_251))))
def B_X12_ahead_81 (l : Launch) (G : GT) (D mc ms : Nat) (Q : Post) : Cn := ix_aload 0 (ix_aload 0 (ix_getI 12 14 (ix_vcall 12 2 0 0 mc ms (sp_X12_byteAt G) (ix_call 1 0 0 mc ms (sp_X12_isSmall G) (ix_if_eq ((B_X12_ahead_108 l G D mc ms Q)) (ix_aload 0 (ix_dupR (ix_getI 12 14 (ix_pushI 1 (ix_iadd (ix_putI 12 14 (fqAt l G M_X12_ahead (D + 1) mc ms Q 81))))))))))))
theorem b_X12_ahead_81 {l : Launch} {G : GT} {D mc ms : Nat} {Q : Post} : Imp l G M_X12_ahead (D + 1) mc ms Q (B_X12_ahead_81 l G D mc ms Q) 81 := sx_aload_n dX12_ahead_81 rfl (sx_aload_n dX12_ahead_82 rfl (sx_getI dX12_ahead_83 fl_FootQuarrelModel_108 (fun _ _ _ => rfl) (sx_vcall dX12_ahead_86 cf_X12_byteAt (mg_7 (List.mem_of_getElem? (i := 116) rfl) rfl) (mg_7 (List.mem_of_getElem? (i := 118) rfl) rfl) (mg_p (List.mem_of_getElem? (i := 53) rfl) rfl) rfl c_X12_byteAt (sx_scall dX12_ahead_89 cf_X12_isSmall (mg_7 (List.mem_of_getElem? (i := 120) rfl) rfl) (mg_7 (List.mem_of_getElem? (i := 121) rfl) rfl) c_X12_isSmall (sx_if_eq 108 dX12_ahead_92 (by decide) (b_X12_ahead_108) (sx_aload_n dX12_ahead_95 rfl (sx_dupR dX12_ahead_96 (sx_getI dX12_ahead_97 fl_FootQuarrelModel_108 (fun _ _ _ => rfl) (sx_iconst dX12_ahead_100 rfl (sx_iadd dX12_ahead_101 (sx_putI dX12_ahead_102 fl_FootQuarrelModel_108 (by decide) (fun _ _ _ => rfl) (fun _ => ⟨rfl, rfl⟩) (sx_goto 81 dX12_ahead_105 (by decide) ((fun _ _ _ _ _ _ _ _ h => h))))))))))))))
def B_X12_ahead_39 (l : Launch) (G : GT) (D mc ms : Nat) (Q : Post) : Cn := ix_aload 0 (ix_aload 0 (ix_getI 12 14 (ix_putI 12 13 (ix_aload 0 (ix_aload 0 (ix_getI 12 14 (ix_vcall 12 2 0 0 mc ms (sp_X12_byteAt G) (ix_istore 1 (ix_aload 0 (ix_iload 1 (ix_putI 12 15 (ix_iload 1 (ix_pushI (-1) (ix_icmp_ne (ix_iload 1 (ix_call 1 0 0 mc ms (sp_X12_isSmall G) (ix_if_eq (ix_iload 1 (ix_call 1 0 0 mc ms (sp_X12_isDigit G) (ix_if_eq (ix_aload 0 (ix_dupR (ix_getI 12 14 (ix_pushI 1 (ix_iadd (ix_putI 12 14 (ix_aload 0 (ix_iload 1 (ix_pushI 59 (ix_icmp_eq ((B_X12_ahead_243 l G D mc ms Q)) (ix_iload 1 (ix_pushI 60 (ix_icmp_eq ((B_X12_ahead_243 l G D mc ms Q)) (ix_iload 1 (ix_pushI 62 (ix_icmp_eq ((B_X12_ahead_243 l G D mc ms Q)) (ix_iload 1 (ix_pushI 61 (ix_icmp_ne (ix_pushI 1 ((B_X12_ahead_248 l G D mc ms Q))) ((B_X12_ahead_243 l G D mc ms Q))))))))))))))))))))) (ix_aload 0 (ix_pushI 0 (ix_putI 12 15 (fqAt l G M_X12_ahead (D + 1) mc ms Q 128))))))) (fqAt l G M_X12_ahead (D + 1) mc ms Q 81)))) (ix_aload 0 (ix_pushI 0 (ix_putI 12 12 ((B_X12_ahead_251 l G D mc ms Q)))))))))))))))))))
theorem b_X12_ahead_39 {l : Launch} {G : GT} {D mc ms : Nat} {Q : Post} : Imp l G M_X12_ahead (D + 1) mc ms Q (B_X12_ahead_39 l G D mc ms Q) 39 := sx_aload_n dX12_ahead_39 rfl (sx_aload_n dX12_ahead_40 rfl (sx_getI dX12_ahead_41 fl_FootQuarrelModel_108 (fun _ _ _ => rfl) (sx_putI dX12_ahead_44 fl_FootQuarrelModel_114 (by decide) (fun _ _ _ => rfl) (fun _ => ⟨rfl, rfl⟩) (sx_aload_n dX12_ahead_47 rfl (sx_aload_n dX12_ahead_48 rfl (sx_getI dX12_ahead_49 fl_FootQuarrelModel_108 (fun _ _ _ => rfl) (sx_vcall dX12_ahead_52 cf_X12_byteAt (mg_7 (List.mem_of_getElem? (i := 116) rfl) rfl) (mg_7 (List.mem_of_getElem? (i := 118) rfl) rfl) (mg_p (List.mem_of_getElem? (i := 53) rfl) rfl) rfl c_X12_byteAt (sx_istore_n dX12_ahead_55 rfl (by decide) (sx_aload_n dX12_ahead_56 rfl (sx_iload_n dX12_ahead_57 rfl (sx_putI dX12_ahead_58 fl_FootQuarrelModel_117 (by decide) (fun _ _ _ => rfl) (fun _ => ⟨rfl, rfl⟩) (sx_iload_n dX12_ahead_61 rfl (sx_iconst dX12_ahead_62 rfl (sx_icmp_ne 74 dX12_ahead_63 (by decide) (sx_iload_n dX12_ahead_74 rfl (sx_scall dX12_ahead_75 cf_X12_isSmall (mg_7 (List.mem_of_getElem? (i := 120) rfl) rfl) (mg_7 (List.mem_of_getElem? (i := 121) rfl) rfl) c_X12_isSmall (sx_if_eq 116 dX12_ahead_78 (by decide) (sx_iload_n dX12_ahead_116 rfl (sx_scall dX12_ahead_117 cf_X12_isDigit (mg_7 (List.mem_of_getElem? (i := 123) rfl) rfl) (mg_7 (List.mem_of_getElem? (i := 124) rfl) rfl) c_X12_isDigit (sx_if_eq 208 dX12_ahead_120 (by decide) (sx_aload_n dX12_ahead_208 rfl (sx_dupR dX12_ahead_209 (sx_getI dX12_ahead_210 fl_FootQuarrelModel_108 (fun _ _ _ => rfl) (sx_iconst dX12_ahead_213 rfl (sx_iadd dX12_ahead_214 (sx_putI dX12_ahead_215 fl_FootQuarrelModel_108 (by decide) (fun _ _ _ => rfl) (fun _ => ⟨rfl, rfl⟩) (sx_aload_n dX12_ahead_218 rfl (sx_iload_n dX12_ahead_219 rfl (sx_bipush dX12_ahead_220 rfl (sx_icmp_eq 243 dX12_ahead_222 (by decide) (b_X12_ahead_243) (sx_iload_n dX12_ahead_225 rfl (sx_bipush dX12_ahead_226 rfl (sx_icmp_eq 243 dX12_ahead_228 (by decide) (b_X12_ahead_243) (sx_iload_n dX12_ahead_231 rfl (sx_bipush dX12_ahead_232 rfl (sx_icmp_eq 243 dX12_ahead_234 (by decide) (b_X12_ahead_243) (sx_iload_n dX12_ahead_237 rfl (sx_bipush dX12_ahead_238 rfl (sx_icmp_ne 247 dX12_ahead_240 (by decide) (sx_iconst dX12_ahead_247 rfl (b_X12_ahead_248)) (b_X12_ahead_243)))))))))))))))))))) (sx_aload_n dX12_ahead_123 rfl (sx_iconst dX12_ahead_124 rfl (sx_putI dX12_ahead_125 fl_FootQuarrelModel_117 (by decide) (fun _ _ _ => rfl) (fun _ => ⟨rfl, rfl⟩) ((fun _ _ _ _ _ _ _ _ h => h)))))))) ((fun _ _ _ _ _ _ _ _ h => h))))) (sx_aload_n dX12_ahead_66 rfl (sx_iconst dX12_ahead_67 rfl (sx_putI dX12_ahead_68 fl_FootQuarrelModel_120 (by decide) (fun _ _ _ => rfl) (fun _ => ⟨rfl, rfl⟩) (sx_goto 251 dX12_ahead_71 (by decide) (b_X12_ahead_251)))))))))))))))))))
def B_X12_ahead_26 (l : Launch) (G : GT) (D mc ms : Nat) (Q : Post) : Cn := ix_aload 0 (ix_dupR (ix_getI 12 14 (ix_pushI 1 (ix_iadd (ix_putI 12 14 (fqAt l G M_X12_ahead (D + 1) mc ms Q 0))))))
theorem b_X12_ahead_26 {l : Launch} {G : GT} {D mc ms : Nat} {Q : Post} : Imp l G M_X12_ahead (D + 1) mc ms Q (B_X12_ahead_26 l G D mc ms Q) 26 := sx_aload_n dX12_ahead_26 rfl (sx_dupR dX12_ahead_27 (sx_getI dX12_ahead_28 fl_FootQuarrelModel_108 (fun _ _ _ => rfl) (sx_iconst dX12_ahead_31 rfl (sx_iadd dX12_ahead_32 (sx_putI dX12_ahead_33 fl_FootQuarrelModel_108 (by decide) (fun _ _ _ => rfl) (fun _ => ⟨rfl, rfl⟩) (sx_goto 0 dX12_ahead_36 (by decide) ((fun _ _ _ _ _ _ _ _ h => h))))))))
def B_X12_ahead_0 (l : Launch) (G : GT) (D mc ms : Nat) (Q : Post) : Cn := ix_aload 0 (ix_aload 0 (ix_getI 12 14 (ix_vcall 12 2 0 0 mc ms (sp_X12_byteAt G) (ix_pushI 32 (ix_icmp_eq ((B_X12_ahead_26 l G D mc ms Q)) (ix_aload 0 (ix_aload 0 (ix_getI 12 14 (ix_vcall 12 2 0 0 mc ms (sp_X12_byteAt G) (ix_pushI 10 (ix_icmp_ne ((B_X12_ahead_39 l G D mc ms Q)) ((B_X12_ahead_26 l G D mc ms Q)))))))))))))
theorem b_X12_ahead_0 {l : Launch} {G : GT} {D mc ms : Nat} {Q : Post} : Imp l G M_X12_ahead (D + 1) mc ms Q (B_X12_ahead_0 l G D mc ms Q) 0 := sx_aload_n dX12_ahead_0 rfl (sx_aload_n dX12_ahead_1 rfl (sx_getI dX12_ahead_2 fl_FootQuarrelModel_108 (fun _ _ _ => rfl) (sx_vcall dX12_ahead_5 cf_X12_byteAt (mg_7 (List.mem_of_getElem? (i := 116) rfl) rfl) (mg_7 (List.mem_of_getElem? (i := 118) rfl) rfl) (mg_p (List.mem_of_getElem? (i := 53) rfl) rfl) rfl c_X12_byteAt (sx_bipush dX12_ahead_8 rfl (sx_icmp_eq 26 dX12_ahead_10 (by decide) (b_X12_ahead_26) (sx_aload_n dX12_ahead_13 rfl (sx_aload_n dX12_ahead_14 rfl (sx_getI dX12_ahead_15 fl_FootQuarrelModel_108 (fun _ _ _ => rfl) (sx_vcall dX12_ahead_18 cf_X12_byteAt (mg_7 (List.mem_of_getElem? (i := 116) rfl) rfl) (mg_7 (List.mem_of_getElem? (i := 118) rfl) rfl) (mg_p (List.mem_of_getElem? (i := 53) rfl) rfl) rfl c_X12_byteAt (sx_bipush dX12_ahead_21 rfl (sx_icmp_ne 39 dX12_ahead_23 (by decide) (b_X12_ahead_39) (b_X12_ahead_26))))))))))))
def sp_X12_ahead (G : GT) : Sp := fun as S I J z Q => match as with
  | [.ref M] => rfS S M ∧ ∃ n e, I M 11 = nI n ∧ n ≤ 900 ∧ I M 14 = nI e ∧ e ≤ n ∧ ∀ I', ahF M I I' → tkH M I' n e → Q none S I' J z
  | _ => False
theorem scB_st (T : Nat → Int32) (n e : Nat) : ¬ isBl (byA T n (scB T n e)) := by
  have := scn_st (p := fun c => decide (isBl c)) (T := T) (n := n) (by decide) (n - e) e (by omega)
  exact of_decide_eq_false this
theorem scS_st (T : Nat → Int32) (n e : Nat) : ¬ isSm (byA T n (scS T n e)) := of_decide_eq_false (scn_st (p := fun c => decide (isSm c)) (T := T) (n := n) (by decide) (n - e) e (by omega))
theorem scD_st (T : Nat → Int32) (n e : Nat) : ¬ isDg (byA T n (scD T n e)) := of_decide_eq_false (scn_st (p := fun c => decide (isDg c)) (T := T) (n := n) (by decide) (n - e) e (by omega))
theorem scX_le {p : Int32 → Bool} {T : Nat → Int32} {n e : Nat} (h : e ≤ n) : e ≤ scn p T n (n - e) e ∧ scn p T n (n - e) e ≤ n := by
  have := scn_le (p := p) (T := T) (n := n) (n - e) e
  omega
set_option maxHeartbeats 4000000 in
set_option maxRecDepth 20000 in
theorem c_X12_ahead {l : Launch} {G : GT} {D : Nat} : ∀ as S I J z Q, sp_X12_ahead G as S I J z Q → fqCall l G M_X12_ahead (D + 1) 0 0 as S I J z Q := by
  intro as S I J z Q h
  unfold sp_X12_ahead at h
  split at h
  · next M =>
    obtain ⟨hm, n, e, hn, hn9, he, hen, hQ⟩ := h
    have hle := scX_le (p := fun c => decide (isBl c)) (T := I (M + 7)) hen
    have fN : tF (I (M + 7)) n e ≤ n := hle.2
    have tail : ∀ (I1 : IH) (o1 : Option Value), ahF M I I1 → I1 M 14 = nI (tF (I (M + 7)) n e) → B_X12_ahead_39 l G D 0 0 Q [some (.ref M), o1] [] S I1 J z 0 0 := by
      intro I1 o1 hF h14
      have t7 : I1 (M + 7) = I (M + 7) := hF.1 _ (by omega)
      have e11 : I1 M 11 = nI n := by rw [hF.2 11 (by omega) (by omega) (by omega) (by omega)]; exact hn
      have hC : byA (I (M + 7)) n (tF (I (M + 7)) n e) = tC (I (M + 7)) n e := rfl
      have s11 : u2 I1 M 13 (nI (tF (I (M + 7)) n e)) M 11 = nI n := by rw [u2_ck _ _ _ _ _ _ (by omega)]; exact e11
      have s14 : u2 I1 M 13 (nI (tF (I (M + 7)) n e)) M 14 = nI (tF (I (M + 7)) n e) := by rw [u2_ck _ _ _ _ _ _ (by omega)]; exact h14
      have s7 : u2 I1 M 13 (nI (tF (I (M + 7)) n e)) (M + 7) = I (M + 7) := by rw [u2_ne (by omega)]; exact t7
      have fin : ∀ (I2 : IH) (v : Int32) (o1 : Option Value), ahF M I I2 → I2 M 13 = nI (tF (I (M + 7)) n e) → I2 M 14 = nI (tE (I (M + 7)) n e) → I2 M 15 = tV (I (M + 7)) n e → v = tK (I (M + 7)) n e → B_X12_ahead_251 l G D 0 0 Q [some (.ref M), o1] [] S (u2 I2 M 12 v) J z 0 0 := by
        intro I2 v o1 hF2 k13 k14 k15 hv
        have t72 : u2 I2 M 12 v (M + 7) = I (M + 7) := by rw [u2_ne (by omega)]; exact hF2.1 _ (by omega)
        have hz := hQ (u2 I2 M 12 v) (hF2.tr (ahF.u (by omega))) (by
          unfold tkH
          rw [t72]
          exact ⟨by rw [u2_ck _ _ _ _ _ _ (by omega), hF2.2 11 (by omega) (by omega) (by omega) (by omega)]; exact hn, by rw [u2_same]; exact hv, by rw [u2_ck _ _ _ _ _ _ (by omega)]; exact k13, by rw [u2_ck _ _ _ _ _ _ (by omega)]; exact k14, by rw [u2_ck _ _ _ _ _ _ (by omega)]; exact k15⟩)
        simp (disch := omega) only [B_X12_ahead_251, nI_1, nI_add, nI_clamp, nI_pin, nI_neg, nI_nonneg, nI_leE, nI_ltE, nI_eqE, Nat.not_le, Nat.not_lt, fq_10, fq_01, fq_rr, ix_aald, ix_aast, ix_abs, ix_alen, ix_aload, ix_aret, ix_astore, ix_bald, ix_bast, ix_call, ix_cpyI, ix_cpyJ, ix_dead, ix_dup2, ix_dup2L, ix_dupI, ix_dupR, ix_dupx1, ix_getI, ix_getJ, ix_getR, ix_gfm, ix_gtab, ix_i2b, ix_i2c, ix_i2l, ix_i2s, ix_iadd, ix_iald, ix_iand, ix_iast, ix_icall, ix_icmp_eq, ix_icmp_ge, ix_icmp_gt, ix_icmp_le, ix_icmp_lt, ix_icmp_ne, ix_idiv, ix_if_eq, ix_if_ge, ix_if_gt, ix_if_le, ix_if_lt, ix_if_ne, ix_iinc, ix_iload, ix_imul, ix_ineg, ix_ior, ix_irem, ix_iret, ix_ishl, ix_ishr, ix_istore, ix_isub, ix_iushr, ix_ixor, ix_l2i, ix_ladd, ix_lald, ix_land, ix_last, ix_lcmp, ix_ldcS, ix_ldiv, ix_lload, ix_lmul, ix_lor, ix_lrem, ix_lret, ix_lshl, ix_lstore, ix_lsub, ix_lsw, ix_max, ix_min, ix_new, ix_newa, ix_nret, ix_oinit, ix_pop2L, ix_popI, ix_pushI, ix_pushL, ix_putI, ix_putJ, ix_putR, ix_putZ, ix_sbald, ix_sgetC, ix_sgetV, ix_slen, ix_strc, ix_tald, ix_tsw, ix_vcall, ix_vret, ix_zret, stL, stL2, kilL, popN, fq_sw, fq_lsw, List.map_cons, List.map_nil, List.getElem?_cons_zero, List.getElem?_cons_succ, Option.toList_some, Option.toList_none, List.cons_append, List.nil_append, List.length_cons, List.length_nil, List.sum_cons, List.sum_nil, cat_i, cat_l, cat_r, true_and, and_true, Nat.zero_add, Nat.add_zero, Nat.le_refl, Nat.zero_le, Nat.reduceAdd, Nat.reduceLeDiff, exists_eq_left', Option.some.injEq, not_true_eq_false, not_false_eq_true, false_implies, true_implies, implies_true, and_self, or_true, true_or, or_false, false_or]
        exact hz
      simp (disch := omega) only [B_X12_ahead_39, sp_X12_byteAt, sp_X12_isSmall, sp_X12_isDigit, hm, hm.k, hm.k1, hm.n1, hm.r1, hm.k2, hm.n2, hm.r2, hm.k3, hm.n3, hm.r3, hm.k4, hm.n4, hm.r4, hm.k5, hm.n5, hm.r5, hm.k6, hm.n6, hm.r6, hm.k7, hm.n7, hm.r7, hm.k8, hm.n8, hm.r8, hm.k9, hm.n9, hm.r9, hm.k10, hm.n10, hm.r10, hm.k11, hm.n11, hm.r11, hm.k12, hm.n12, hm.r12, hm.k13, hm.n13, hm.r13, hm.k14, hm.n14, hm.r14, h14, s11, s14, s7, okE, hC, bI_01, bI_01b, bI_0, u2_ck, nI_1, nI_add, nI_clamp, nI_pin, nI_neg, nI_nonneg, nI_leE, nI_ltE, nI_eqE, Nat.not_le, Nat.not_lt, fq_10, fq_01, fq_rr, ix_aald, ix_aast, ix_abs, ix_alen, ix_aload, ix_aret, ix_astore, ix_bald, ix_bast, ix_call, ix_cpyI, ix_cpyJ, ix_dead, ix_dup2, ix_dup2L, ix_dupI, ix_dupR, ix_dupx1, ix_getI, ix_getJ, ix_getR, ix_gfm, ix_gtab, ix_i2b, ix_i2c, ix_i2l, ix_i2s, ix_iadd, ix_iald, ix_iand, ix_iast, ix_icall, ix_icmp_eq, ix_icmp_ge, ix_icmp_gt, ix_icmp_le, ix_icmp_lt, ix_icmp_ne, ix_idiv, ix_if_eq, ix_if_ge, ix_if_gt, ix_if_le, ix_if_lt, ix_if_ne, ix_iinc, ix_iload, ix_imul, ix_ineg, ix_ior, ix_irem, ix_iret, ix_ishl, ix_ishr, ix_istore, ix_isub, ix_iushr, ix_ixor, ix_l2i, ix_ladd, ix_lald, ix_land, ix_last, ix_lcmp, ix_ldcS, ix_ldiv, ix_lload, ix_lmul, ix_lor, ix_lrem, ix_lret, ix_lshl, ix_lstore, ix_lsub, ix_lsw, ix_max, ix_min, ix_new, ix_newa, ix_nret, ix_oinit, ix_pop2L, ix_popI, ix_pushI, ix_pushL, ix_putI, ix_putJ, ix_putR, ix_putZ, ix_sbald, ix_sgetC, ix_sgetV, ix_slen, ix_strc, ix_tald, ix_tsw, ix_vcall, ix_vret, ix_zret, stL, stL2, kilL, popN, fq_sw, fq_lsw, List.map_cons, List.map_nil, List.getElem?_cons_zero, List.getElem?_cons_succ, Option.toList_some, Option.toList_none, List.cons_append, List.nil_append, List.length_cons, List.length_nil, List.sum_cons, List.sum_nil, cat_i, cat_l, cat_r, true_and, and_true, Nat.zero_add, Nat.add_zero, Nat.le_refl, Nat.zero_le, Nat.reduceAdd, Nat.reduceLeDiff, exists_eq_left', Option.some.injEq, not_true_eq_false, not_false_eq_true, false_implies, true_implies, implies_true, and_self, or_true, true_or, or_false, false_or]
      generalize hc : tC (I (M + 7)) n e = c at *
      generalize hfr : tF (I (M + 7)) n e = fr at *
      have eF : ahF M I (u2 (u2 I1 M 13 (nI fr)) M 15 c) := hF.tr ((ahF.u (by omega)).tr (ahF.u (by omega)))
      have e13 : u2 (u2 I1 M 13 (nI fr)) M 15 c M 13 = nI fr := by rw [u2_ck _ _ _ _ _ _ (by omega), u2_same]
      have e14 : u2 (u2 I1 M 13 (nI fr)) M 15 c M 14 = nI fr := by rw [u2_ck _ _ _ _ _ _ (by omega)]; exact s14
      have e15 : u2 (u2 I1 M 13 (nI fr)) M 15 c M 15 = c := u2_eq
      generalize u2 (u2 I1 M 13 (nI fr)) M 15 c = I3 at *
      refine ⟨fun h1 => ⟨fun h2 => ⟨fun h3 => ?_, fun h3 => ?_⟩, fun h2 => ?_⟩, fun h1 => ?_⟩
      · have vE : tE (I (M + 7)) n e = fr + 1 := by unfold tE; rw [hc, hfr, if_neg h1, if_neg h2, if_neg h3]
        have vV : tV (I (M + 7)) n e = c := by unfold tV; rw [hc, if_neg h1, if_neg h2, if_neg h3]
        have vK : tK (I (M + 7)) n e = if isSg c then 4 else 1 := by unfold tK; rw [hc, if_neg h1, if_neg h2, if_neg h3]
        have f2 := fun v hv => fin (u2 I3 M 14 (nI (fr + 1))) v (some (.int c)) (eF.tr (ahF.u (by omega))) (by rw [u2_ck _ _ _ _ _ _ (by omega)]; exact e13) (by rw [u2_same, vE]) (by rw [u2_ck _ _ _ _ _ _ (by omega), vV]; exact e15) hv
        have y : isSg c → B_X12_ahead_243 l G D 0 0 Q [some (.ref M), some (.int c)] [.ref M] S (u2 I3 M 14 (nI (fr + 1))) J z 0 0 := fun hs => by
          simp (disch := omega) only [B_X12_ahead_243, B_X12_ahead_248, hm, hm.k, hm.k1, hm.n1, hm.r1, hm.k2, hm.n2, hm.r2, hm.k3, hm.n3, hm.r3, hm.k4, hm.n4, hm.r4, hm.k5, hm.n5, hm.r5, hm.k6, hm.n6, hm.r6, hm.k7, hm.n7, hm.r7, hm.k8, hm.n8, hm.r8, hm.k9, hm.n9, hm.r9, hm.k10, hm.n10, hm.r10, hm.k11, hm.n11, hm.r11, hm.k12, hm.n12, hm.r12, hm.k13, hm.n13, hm.r13, hm.k14, hm.n14, hm.r14, nI_1, nI_add, nI_clamp, nI_pin, nI_neg, nI_nonneg, nI_leE, nI_ltE, nI_eqE, Nat.not_le, Nat.not_lt, fq_10, fq_01, fq_rr, ix_aald, ix_aast, ix_abs, ix_alen, ix_aload, ix_aret, ix_astore, ix_bald, ix_bast, ix_call, ix_cpyI, ix_cpyJ, ix_dead, ix_dup2, ix_dup2L, ix_dupI, ix_dupR, ix_dupx1, ix_getI, ix_getJ, ix_getR, ix_gfm, ix_gtab, ix_i2b, ix_i2c, ix_i2l, ix_i2s, ix_iadd, ix_iald, ix_iand, ix_iast, ix_icall, ix_icmp_eq, ix_icmp_ge, ix_icmp_gt, ix_icmp_le, ix_icmp_lt, ix_icmp_ne, ix_idiv, ix_if_eq, ix_if_ge, ix_if_gt, ix_if_le, ix_if_lt, ix_if_ne, ix_iinc, ix_iload, ix_imul, ix_ineg, ix_ior, ix_irem, ix_iret, ix_ishl, ix_ishr, ix_istore, ix_isub, ix_iushr, ix_ixor, ix_l2i, ix_ladd, ix_lald, ix_land, ix_last, ix_lcmp, ix_ldcS, ix_ldiv, ix_lload, ix_lmul, ix_lor, ix_lrem, ix_lret, ix_lshl, ix_lstore, ix_lsub, ix_lsw, ix_max, ix_min, ix_new, ix_newa, ix_nret, ix_oinit, ix_pop2L, ix_popI, ix_pushI, ix_pushL, ix_putI, ix_putJ, ix_putR, ix_putZ, ix_sbald, ix_sgetC, ix_sgetV, ix_slen, ix_strc, ix_tald, ix_tsw, ix_vcall, ix_vret, ix_zret, stL, stL2, kilL, popN, fq_sw, fq_lsw, List.map_cons, List.map_nil, List.getElem?_cons_zero, List.getElem?_cons_succ, Option.toList_some, Option.toList_none, List.cons_append, List.nil_append, List.length_cons, List.length_nil, List.sum_cons, List.sum_nil, cat_i, cat_l, cat_r, true_and, and_true, Nat.zero_add, Nat.add_zero, Nat.le_refl, Nat.zero_le, Nat.reduceAdd, Nat.reduceLeDiff, exists_eq_left', Option.some.injEq, not_true_eq_false, not_false_eq_true, false_implies, true_implies, implies_true, and_self, or_true, true_or, or_false, false_or]
          exact f2 4 (by rw [vK, if_pos hs])
        refine ⟨fun g => y (Or.inl g), fun g1 => ⟨fun g => y (Or.inr (Or.inl g)), fun g2 => ⟨fun g => y (Or.inr (Or.inr (Or.inl g))), fun g3 => ⟨fun g4 => ?_, fun g => y (Or.inr (Or.inr (Or.inr g)))⟩⟩⟩⟩
        simp (disch := omega) only [B_X12_ahead_248, hm, hm.k, hm.k1, hm.n1, hm.r1, hm.k2, hm.n2, hm.r2, hm.k3, hm.n3, hm.r3, hm.k4, hm.n4, hm.r4, hm.k5, hm.n5, hm.r5, hm.k6, hm.n6, hm.r6, hm.k7, hm.n7, hm.r7, hm.k8, hm.n8, hm.r8, hm.k9, hm.n9, hm.r9, hm.k10, hm.n10, hm.r10, hm.k11, hm.n11, hm.r11, hm.k12, hm.n12, hm.r12, hm.k13, hm.n13, hm.r13, hm.k14, hm.n14, hm.r14, nI_1, nI_add, nI_clamp, nI_pin, nI_neg, nI_nonneg, nI_leE, nI_ltE, nI_eqE, Nat.not_le, Nat.not_lt, fq_10, fq_01, fq_rr, ix_aald, ix_aast, ix_abs, ix_alen, ix_aload, ix_aret, ix_astore, ix_bald, ix_bast, ix_call, ix_cpyI, ix_cpyJ, ix_dead, ix_dup2, ix_dup2L, ix_dupI, ix_dupR, ix_dupx1, ix_getI, ix_getJ, ix_getR, ix_gfm, ix_gtab, ix_i2b, ix_i2c, ix_i2l, ix_i2s, ix_iadd, ix_iald, ix_iand, ix_iast, ix_icall, ix_icmp_eq, ix_icmp_ge, ix_icmp_gt, ix_icmp_le, ix_icmp_lt, ix_icmp_ne, ix_idiv, ix_if_eq, ix_if_ge, ix_if_gt, ix_if_le, ix_if_lt, ix_if_ne, ix_iinc, ix_iload, ix_imul, ix_ineg, ix_ior, ix_irem, ix_iret, ix_ishl, ix_ishr, ix_istore, ix_isub, ix_iushr, ix_ixor, ix_l2i, ix_ladd, ix_lald, ix_land, ix_last, ix_lcmp, ix_ldcS, ix_ldiv, ix_lload, ix_lmul, ix_lor, ix_lrem, ix_lret, ix_lshl, ix_lstore, ix_lsub, ix_lsw, ix_max, ix_min, ix_new, ix_newa, ix_nret, ix_oinit, ix_pop2L, ix_popI, ix_pushI, ix_pushL, ix_putI, ix_putJ, ix_putR, ix_putZ, ix_sbald, ix_sgetC, ix_sgetV, ix_slen, ix_strc, ix_tald, ix_tsw, ix_vcall, ix_vret, ix_zret, stL, stL2, kilL, popN, fq_sw, fq_lsw, List.map_cons, List.map_nil, List.getElem?_cons_zero, List.getElem?_cons_succ, Option.toList_some, Option.toList_none, List.cons_append, List.nil_append, List.length_cons, List.length_nil, List.sum_cons, List.sum_nil, cat_i, cat_l, cat_r, true_and, and_true, Nat.zero_add, Nat.add_zero, Nat.le_refl, Nat.zero_le, Nat.reduceAdd, Nat.reduceLeDiff, exists_eq_left', Option.some.injEq, not_true_eq_false, not_false_eq_true, false_implies, true_implies, implies_true, and_self, or_true, true_or, or_false, false_or]
        exact f2 1 (by rw [vK, if_neg (fun q => q.elim g1 (fun q => q.elim g2 (fun q => q.elim g3 g4)))])
      · have h3 : isDg c := Decidable.not_not.mp h3
        have vE : tE (I (M + 7)) n e = scD (I (M + 7)) n fr := by unfold tE; rw [hc, hfr, if_neg h1, if_neg h2, if_pos h3]
        have vV : tV (I (M + 7)) n e = dgV (I (M + 7)) n (n - fr) fr 0 := by unfold tV; rw [hc, hfr, if_neg h1, if_neg h2, if_pos h3]
        have vK : tK (I (M + 7)) n e = if 4 < tE (I (M + 7)) n e - fr then 1 else 3 := by unfold tK; rw [hc, hfr, if_neg h1, if_neg h2, if_pos h3]
        have hle2 := scX_le (p := fun c => decide (isDg c)) (T := I (M + 7)) fN
        have hle3 : fr ≤ scD (I (M + 7)) n fr ∧ scD (I (M + 7)) n fr ≤ n := hle2
        have fin2 : ∀ I2 : IH, ahF M I I2 → I2 M 13 = nI fr → I2 M 14 = nI (scD (I (M + 7)) n fr) → I2 M 15 = dgV (I (M + 7)) n (n - fr) fr 0 → B_X12_ahead_183 l G D 0 0 Q [some (.ref M), some (.int c)] [] S I2 J z 0 0 := by
          intro I2 hF2 k13 k14 k15
          have ds : nI (scD (I (M + 7)) n fr) - nI fr = nI (scD (I (M + 7)) n fr - fr) := nI_s _ _ hle3.1
          simp (disch := omega) only [B_X12_ahead_183, B_X12_ahead_202, hm, hm.k, hm.k1, hm.n1, hm.r1, hm.k2, hm.n2, hm.r2, hm.k3, hm.n3, hm.r3, hm.k4, hm.n4, hm.r4, hm.k5, hm.n5, hm.r5, hm.k6, hm.n6, hm.r6, hm.k7, hm.n7, hm.r7, hm.k8, hm.n8, hm.r8, hm.k9, hm.n9, hm.r9, hm.k10, hm.n10, hm.r10, hm.k11, hm.n11, hm.r11, hm.k12, hm.n12, hm.r12, hm.k13, hm.n13, hm.r13, hm.k14, hm.n14, hm.r14, k13, k14, ds, nI_1, nI_add, nI_clamp, nI_pin, nI_neg, nI_nonneg, nI_leE, nI_ltE, nI_eqE, Nat.not_le, Nat.not_lt, fq_10, fq_01, fq_rr, li_2, li_3, li_4, li_5, li_6, li_7, li_8, li_9, li_10, li_11, li_12, li_13, li_14, li_15, li_16, li_17, li_18, li_19, li_20, li_21, li_22, li_23, li_24, li_25, li_26, li_27, li_28, li_29, li_30, li_32, li_33, li_34, li_35, li_36, li_37, li_38, li_39, li_40, li_41, li_42, li_43, li_44, li_45, li_46, li_47, li_48, li_49, li_50, li_51, li_52, li_53, li_54, li_55, li_56, li_57, li_58, li_59, li_60, li_61, li_62, li_63, li_64, li_65, li_66, li_67, li_68, li_69, li_70, li_71, li_72, li_73, li_74, li_75, li_76, li_77, li_78, li_79, li_80, li_81, li_82, li_83, li_84, li_85, li_86, li_87, li_88, li_89, li_90, li_91, li_92, li_93, li_94, li_95, li_96, li_97, li_98, li_99, li_100, li_101, li_102, li_103, li_104, li_105, li_106, li_107, li_108, li_109, li_110, li_111, li_112, li_113, li_114, li_115, li_116, li_117, li_118, li_119, li_120, li_121, li_122, li_123, li_124, li_125, li_126, li_127, li_128, li_129, li_130, li_131, li_226, li_240, li_255, li_300, li_586, li_594, li_900, li_999, li_1000, li_1800, li_2376, li_2388, li_2406, li_2602, li_2970, li_3067, li_3564, li_9999, li_10000, li_11287, li_65536, li_100000, li_1000000, nI_mul, tn0, tn1, vin0, vin1, Int32.add_zero, Int32.or_zero, Int32.mul_one, Int32.mul_zero, Int32.zero_add, Nat.reduceEqDiff, Nat.reduceMul, Nat.reduceSub, ix_aald, ix_aast, ix_abs, ix_alen, ix_aload, ix_aret, ix_astore, ix_bald, ix_bast, ix_call, ix_cpyI, ix_cpyJ, ix_dead, ix_dup2, ix_dup2L, ix_dupI, ix_dupR, ix_dupx1, ix_getI, ix_getJ, ix_getR, ix_gfm, ix_gtab, ix_i2b, ix_i2c, ix_i2l, ix_i2s, ix_iadd, ix_iald, ix_iand, ix_iast, ix_icall, ix_icmp_eq, ix_icmp_ge, ix_icmp_gt, ix_icmp_le, ix_icmp_lt, ix_icmp_ne, ix_idiv, ix_if_eq, ix_if_ge, ix_if_gt, ix_if_le, ix_if_lt, ix_if_ne, ix_iinc, ix_iload, ix_imul, ix_ineg, ix_ior, ix_irem, ix_iret, ix_ishl, ix_ishr, ix_istore, ix_isub, ix_iushr, ix_ixor, ix_l2i, ix_ladd, ix_lald, ix_land, ix_last, ix_lcmp, ix_ldcS, ix_ldiv, ix_lload, ix_lmul, ix_lor, ix_lrem, ix_lret, ix_lshl, ix_lstore, ix_lsub, ix_lsw, ix_max, ix_min, ix_new, ix_newa, ix_nret, ix_oinit, ix_pop2L, ix_popI, ix_pushI, ix_pushL, ix_putI, ix_putJ, ix_putR, ix_putZ, ix_sbald, ix_sgetC, ix_sgetV, ix_slen, ix_strc, ix_tald, ix_tsw, ix_vcall, ix_vret, ix_zret, stL, stL2, kilL, popN, fq_sw, fq_lsw, List.map_cons, List.map_nil, List.getElem?_cons_zero, List.getElem?_cons_succ, Option.toList_some, Option.toList_none, List.cons_append, List.nil_append, List.length_cons, List.length_nil, List.sum_cons, List.sum_nil, cat_i, cat_l, cat_r, true_and, and_true, Nat.zero_add, Nat.add_zero, Nat.le_refl, Nat.zero_le, Nat.reduceAdd, Nat.reduceLeDiff, exists_eq_left', Option.some.injEq, not_true_eq_false, not_false_eq_true, false_implies, true_implies, implies_true, and_self, or_true, true_or, or_false, false_or]
          refine ⟨fun g => ?_, fun g => ?_⟩
          · exact fin I2 3 _ hF2 k13 (by rw [k14, vE]) (by rw [k15, vV]) (by rw [vK, vE, if_neg (by omega)])
          · exact fin I2 1 _ hF2 k13 (by rw [k14, vE]) (by rw [k15, vV]) (by rw [vK, vE, if_pos (by omega)])
        have lp : ∀ (f e' : Nat) (v : Int32) (I2 : IH), n - e' = f → e' ≤ n → ahF M I I2 → I2 M 13 = nI fr → I2 M 14 = nI e' → I2 M 15 = v → scD (I (M + 7)) n fr = scn (fun c => decide (isDg c)) (I (M + 7)) n f e' → dgV (I (M + 7)) n (n - fr) fr 0 = dgV (I (M + 7)) n f e' v → fqAt l G M_X12_ahead (D + 1) 0 0 Q 128 [some (.ref M), some (.int c)] [] S I2 J z 0 0 := by
          intro f
          induction f with
          | zero =>
            intro e' v I2 hf hle hF2 k13 k14 k15 hs hv
            have e11 : I2 M 11 = nI n := by rw [hF2.2 11 (by omega) (by omega) (by omega) (by omega)]; exact hn
            have b1 : byA (I2 (M + 7)) n e' = -1 := byA_o (by omega)
            have hz := fin2 I2 hF2 k13 (by rw [k14, hs]; rfl) (by rw [k15, hv]; rfl)
            refine b_X12_ahead_128 _ _ _ _ _ _ _ _ ?_
            simp (disch := omega) only [B_X12_ahead_0, B_X12_ahead_26, B_X12_ahead_81, B_X12_ahead_128, B_X12_ahead_202, B_X12_ahead_243, B_X12_ahead_248, B_X12_ahead_251, sp_X12_byteAt, sp_X12_isSmall, sp_X12_isDigit, hm, hm.k, hm.k1, hm.n1, hm.r1, hm.k2, hm.n2, hm.r2, hm.k3, hm.n3, hm.r3, hm.k4, hm.n4, hm.r4, hm.k5, hm.n5, hm.r5, hm.k6, hm.n6, hm.r6, hm.k7, hm.n7, hm.r7, hm.k8, hm.n8, hm.r8, hm.k9, hm.n9, hm.r9, hm.k10, hm.n10, hm.r10, hm.k11, hm.n11, hm.r11, hm.k12, hm.n12, hm.r12, hm.k13, hm.n13, hm.r13, hm.k14, hm.n14, hm.r14, k14, e11, okE, b1, bI_01, bI_01b, bI_0, nI_1, nI_add, nI_clamp, nI_pin, nI_neg, nI_nonneg, nI_leE, nI_ltE, nI_eqE, Nat.not_le, Nat.not_lt, fq_10, fq_01, fq_rr, ix_aald, ix_aast, ix_abs, ix_alen, ix_aload, ix_aret, ix_astore, ix_bald, ix_bast, ix_call, ix_cpyI, ix_cpyJ, ix_dead, ix_dup2, ix_dup2L, ix_dupI, ix_dupR, ix_dupx1, ix_getI, ix_getJ, ix_getR, ix_gfm, ix_gtab, ix_i2b, ix_i2c, ix_i2l, ix_i2s, ix_iadd, ix_iald, ix_iand, ix_iast, ix_icall, ix_icmp_eq, ix_icmp_ge, ix_icmp_gt, ix_icmp_le, ix_icmp_lt, ix_icmp_ne, ix_idiv, ix_if_eq, ix_if_ge, ix_if_gt, ix_if_le, ix_if_lt, ix_if_ne, ix_iinc, ix_iload, ix_imul, ix_ineg, ix_ior, ix_irem, ix_iret, ix_ishl, ix_ishr, ix_istore, ix_isub, ix_iushr, ix_ixor, ix_l2i, ix_ladd, ix_lald, ix_land, ix_last, ix_lcmp, ix_ldcS, ix_ldiv, ix_lload, ix_lmul, ix_lor, ix_lrem, ix_lret, ix_lshl, ix_lstore, ix_lsub, ix_lsw, ix_max, ix_min, ix_new, ix_newa, ix_nret, ix_oinit, ix_pop2L, ix_popI, ix_pushI, ix_pushL, ix_putI, ix_putJ, ix_putR, ix_putZ, ix_sbald, ix_sgetC, ix_sgetV, ix_slen, ix_strc, ix_tald, ix_tsw, ix_vcall, ix_vret, ix_zret, stL, stL2, kilL, popN, fq_sw, fq_lsw, List.map_cons, List.map_nil, List.getElem?_cons_zero, List.getElem?_cons_succ, Option.toList_some, Option.toList_none, List.cons_append, List.nil_append, List.length_cons, List.length_nil, List.sum_cons, List.sum_nil, cat_i, cat_l, cat_r, true_and, and_true, Nat.zero_add, Nat.add_zero, Nat.le_refl, Nat.zero_le, Nat.reduceAdd, Nat.reduceLeDiff, exists_eq_left', Option.some.injEq, not_true_eq_false, not_false_eq_true, false_implies, true_implies, implies_true, and_self, or_true, true_or, or_false, false_or]
            exact ⟨fun _ => hz, fun h => absurd (by decide) h⟩
          | succ f ih =>
            intro e' v I2 hf hle hF2 k13 k14 k15 hs hv
            have e11 : I2 M 11 = nI n := by rw [hF2.2 11 (by omega) (by omega) (by omega) (by omega)]; exact hn
            have t72 : I2 (M + 7) = I (M + 7) := hF2.1 _ (by omega)
            have d1 : dgV (I (M + 7)) n (f + 1) e' v = if isDg (byA (I (M + 7)) n e') then dgV (I (M + 7)) n f (e' + 1) (mnI 100000 (10 * v + byA (I (M + 7)) n e' - 48)) else v := rfl
            rw [scn_1] at hs
            rw [d1] at hv
            refine b_X12_ahead_128 _ _ _ _ _ _ _ _ ?_
            simp (disch := omega) only [B_X12_ahead_0, B_X12_ahead_26, B_X12_ahead_81, B_X12_ahead_128, B_X12_ahead_202, B_X12_ahead_243, B_X12_ahead_248, B_X12_ahead_251, sp_X12_byteAt, sp_X12_isSmall, sp_X12_isDigit, hm, hm.k, hm.k1, hm.n1, hm.r1, hm.k2, hm.n2, hm.r2, hm.k3, hm.n3, hm.r3, hm.k4, hm.n4, hm.r4, hm.k5, hm.n5, hm.r5, hm.k6, hm.n6, hm.r6, hm.k7, hm.n7, hm.r7, hm.k8, hm.n8, hm.r8, hm.k9, hm.n9, hm.r9, hm.k10, hm.n10, hm.r10, hm.k11, hm.n11, hm.r11, hm.k12, hm.n12, hm.r12, hm.k13, hm.n13, hm.r13, hm.k14, hm.n14, hm.r14, k14, k15, e11, okE, t72, bI_01, bI_01b, bI_0, u2_ck, nI_1, nI_add, nI_clamp, nI_pin, nI_neg, nI_nonneg, nI_leE, nI_ltE, nI_eqE, Nat.not_le, Nat.not_lt, fq_10, fq_01, fq_rr, ix_aald, ix_aast, ix_abs, ix_alen, ix_aload, ix_aret, ix_astore, ix_bald, ix_bast, ix_call, ix_cpyI, ix_cpyJ, ix_dead, ix_dup2, ix_dup2L, ix_dupI, ix_dupR, ix_dupx1, ix_getI, ix_getJ, ix_getR, ix_gfm, ix_gtab, ix_i2b, ix_i2c, ix_i2l, ix_i2s, ix_iadd, ix_iald, ix_iand, ix_iast, ix_icall, ix_icmp_eq, ix_icmp_ge, ix_icmp_gt, ix_icmp_le, ix_icmp_lt, ix_icmp_ne, ix_idiv, ix_if_eq, ix_if_ge, ix_if_gt, ix_if_le, ix_if_lt, ix_if_ne, ix_iinc, ix_iload, ix_imul, ix_ineg, ix_ior, ix_irem, ix_iret, ix_ishl, ix_ishr, ix_istore, ix_isub, ix_iushr, ix_ixor, ix_l2i, ix_ladd, ix_lald, ix_land, ix_last, ix_lcmp, ix_ldcS, ix_ldiv, ix_lload, ix_lmul, ix_lor, ix_lrem, ix_lret, ix_lshl, ix_lstore, ix_lsub, ix_lsw, ix_max, ix_min, ix_new, ix_newa, ix_nret, ix_oinit, ix_pop2L, ix_popI, ix_pushI, ix_pushL, ix_putI, ix_putJ, ix_putR, ix_putZ, ix_sbald, ix_sgetC, ix_sgetV, ix_slen, ix_strc, ix_tald, ix_tsw, ix_vcall, ix_vret, ix_zret, stL, stL2, kilL, popN, fq_sw, fq_lsw, List.map_cons, List.map_nil, List.getElem?_cons_zero, List.getElem?_cons_succ, Option.toList_some, Option.toList_none, List.cons_append, List.nil_append, List.length_cons, List.length_nil, List.sum_cons, List.sum_nil, cat_i, cat_l, cat_r, true_and, and_true, Nat.zero_add, Nat.add_zero, Nat.le_refl, Nat.zero_le, Nat.reduceAdd, Nat.reduceLeDiff, exists_eq_left', Option.some.injEq, not_true_eq_false, not_false_eq_true, false_implies, true_implies, implies_true, and_self, or_true, true_or, or_false, false_or]
            refine ⟨fun h => ?_, fun h => ?_⟩
            · rw [if_neg (by rw [decide_eq_true_eq]; exact h)] at hs
              rw [if_neg h] at hv
              exact fin2 I2 hF2 k13 (by rw [k14, hs]) (by rw [k15, hv])
            · have h : isDg (byA (I (M + 7)) n e') := Decidable.not_not.mp h
              rw [if_pos (decide_eq_true h)] at hs
              rw [if_pos h] at hv
              exact ih (e' + 1) _ _ (by omega) (by omega) (hF2.tr ((ahF.u (by omega)).tr (ahF.u (by omega)))) (by rw [u2_ck _ _ _ _ _ _ (by omega), u2_ck _ _ _ _ _ _ (by omega)]; exact k13) u2_eq (by rw [u2_ck _ _ _ _ _ _ (by omega), u2_same]; rfl) hs hv
        exact lp (n - fr) fr 0 _ rfl fN (eF.tr (ahF.u (by omega))) (by rw [u2_ck _ _ _ _ _ _ (by omega)]; exact e13) (by rw [u2_ck _ _ _ _ _ _ (by omega)]; exact e14) u2_eq rfl rfl
      · have h2 : isSm c := Decidable.not_not.mp h2
        have vE : tE (I (M + 7)) n e = scS (I (M + 7)) n fr := by unfold tE; rw [hc, hfr, if_neg h1, if_pos h2]
        have vV : tV (I (M + 7)) n e = c := by unfold tV; rw [hc, if_neg h1, if_pos h2]
        have vK : tK (I (M + 7)) n e = 2 := by unfold tK; rw [hc, if_neg h1, if_pos h2]
        have fin2 : ∀ I2 : IH, ahF M I I2 → I2 M 13 = nI fr → I2 M 14 = nI (scS (I (M + 7)) n fr) → I2 M 15 = c → B_X12_ahead_108 l G D 0 0 Q [some (.ref M), some (.int c)] [] S I2 J z 0 0 := by
          intro I2 hF2 k13 k14 k15
          simp (disch := omega) only [B_X12_ahead_108, hm, hm.k, hm.k1, hm.n1, hm.r1, hm.k2, hm.n2, hm.r2, hm.k3, hm.n3, hm.r3, hm.k4, hm.n4, hm.r4, hm.k5, hm.n5, hm.r5, hm.k6, hm.n6, hm.r6, hm.k7, hm.n7, hm.r7, hm.k8, hm.n8, hm.r8, hm.k9, hm.n9, hm.r9, hm.k10, hm.n10, hm.r10, hm.k11, hm.n11, hm.r11, hm.k12, hm.n12, hm.r12, hm.k13, hm.n13, hm.r13, hm.k14, hm.n14, hm.r14, nI_1, nI_add, nI_clamp, nI_pin, nI_neg, nI_nonneg, nI_leE, nI_ltE, nI_eqE, Nat.not_le, Nat.not_lt, fq_10, fq_01, fq_rr, ix_aald, ix_aast, ix_abs, ix_alen, ix_aload, ix_aret, ix_astore, ix_bald, ix_bast, ix_call, ix_cpyI, ix_cpyJ, ix_dead, ix_dup2, ix_dup2L, ix_dupI, ix_dupR, ix_dupx1, ix_getI, ix_getJ, ix_getR, ix_gfm, ix_gtab, ix_i2b, ix_i2c, ix_i2l, ix_i2s, ix_iadd, ix_iald, ix_iand, ix_iast, ix_icall, ix_icmp_eq, ix_icmp_ge, ix_icmp_gt, ix_icmp_le, ix_icmp_lt, ix_icmp_ne, ix_idiv, ix_if_eq, ix_if_ge, ix_if_gt, ix_if_le, ix_if_lt, ix_if_ne, ix_iinc, ix_iload, ix_imul, ix_ineg, ix_ior, ix_irem, ix_iret, ix_ishl, ix_ishr, ix_istore, ix_isub, ix_iushr, ix_ixor, ix_l2i, ix_ladd, ix_lald, ix_land, ix_last, ix_lcmp, ix_ldcS, ix_ldiv, ix_lload, ix_lmul, ix_lor, ix_lrem, ix_lret, ix_lshl, ix_lstore, ix_lsub, ix_lsw, ix_max, ix_min, ix_new, ix_newa, ix_nret, ix_oinit, ix_pop2L, ix_popI, ix_pushI, ix_pushL, ix_putI, ix_putJ, ix_putR, ix_putZ, ix_sbald, ix_sgetC, ix_sgetV, ix_slen, ix_strc, ix_tald, ix_tsw, ix_vcall, ix_vret, ix_zret, stL, stL2, kilL, popN, fq_sw, fq_lsw, List.map_cons, List.map_nil, List.getElem?_cons_zero, List.getElem?_cons_succ, Option.toList_some, Option.toList_none, List.cons_append, List.nil_append, List.length_cons, List.length_nil, List.sum_cons, List.sum_nil, cat_i, cat_l, cat_r, true_and, and_true, Nat.zero_add, Nat.add_zero, Nat.le_refl, Nat.zero_le, Nat.reduceAdd, Nat.reduceLeDiff, exists_eq_left', Option.some.injEq, not_true_eq_false, not_false_eq_true, false_implies, true_implies, implies_true, and_self, or_true, true_or, or_false, false_or]
          exact fin I2 2 _ hF2 k13 (by rw [k14, vE]) (by rw [k15, vV]) vK.symm
        have lp : ∀ (f e' : Nat) (I2 : IH), n - e' = f → e' ≤ n → ahF M I I2 → I2 M 13 = nI fr → I2 M 14 = nI e' → I2 M 15 = c → scS (I (M + 7)) n fr = scn (fun c => decide (isSm c)) (I (M + 7)) n f e' → fqAt l G M_X12_ahead (D + 1) 0 0 Q 81 [some (.ref M), some (.int c)] [] S I2 J z 0 0 := by
          intro f
          induction f with
          | zero =>
            intro e' I2 hf hle hF2 k13 k14 k15 hs
            have e11 : I2 M 11 = nI n := by rw [hF2.2 11 (by omega) (by omega) (by omega) (by omega)]; exact hn
            have b1 : byA (I2 (M + 7)) n e' = -1 := byA_o (by omega)
            have hz := fin2 I2 hF2 k13 (by rw [k14, hs]; rfl) k15
            refine b_X12_ahead_81 _ _ _ _ _ _ _ _ ?_
            simp (disch := omega) only [B_X12_ahead_0, B_X12_ahead_26, B_X12_ahead_81, B_X12_ahead_128, B_X12_ahead_202, B_X12_ahead_243, B_X12_ahead_248, B_X12_ahead_251, sp_X12_byteAt, sp_X12_isSmall, sp_X12_isDigit, hm, hm.k, hm.k1, hm.n1, hm.r1, hm.k2, hm.n2, hm.r2, hm.k3, hm.n3, hm.r3, hm.k4, hm.n4, hm.r4, hm.k5, hm.n5, hm.r5, hm.k6, hm.n6, hm.r6, hm.k7, hm.n7, hm.r7, hm.k8, hm.n8, hm.r8, hm.k9, hm.n9, hm.r9, hm.k10, hm.n10, hm.r10, hm.k11, hm.n11, hm.r11, hm.k12, hm.n12, hm.r12, hm.k13, hm.n13, hm.r13, hm.k14, hm.n14, hm.r14, k14, e11, okE, b1, bI_01, bI_01b, bI_0, nI_1, nI_add, nI_clamp, nI_pin, nI_neg, nI_nonneg, nI_leE, nI_ltE, nI_eqE, Nat.not_le, Nat.not_lt, fq_10, fq_01, fq_rr, ix_aald, ix_aast, ix_abs, ix_alen, ix_aload, ix_aret, ix_astore, ix_bald, ix_bast, ix_call, ix_cpyI, ix_cpyJ, ix_dead, ix_dup2, ix_dup2L, ix_dupI, ix_dupR, ix_dupx1, ix_getI, ix_getJ, ix_getR, ix_gfm, ix_gtab, ix_i2b, ix_i2c, ix_i2l, ix_i2s, ix_iadd, ix_iald, ix_iand, ix_iast, ix_icall, ix_icmp_eq, ix_icmp_ge, ix_icmp_gt, ix_icmp_le, ix_icmp_lt, ix_icmp_ne, ix_idiv, ix_if_eq, ix_if_ge, ix_if_gt, ix_if_le, ix_if_lt, ix_if_ne, ix_iinc, ix_iload, ix_imul, ix_ineg, ix_ior, ix_irem, ix_iret, ix_ishl, ix_ishr, ix_istore, ix_isub, ix_iushr, ix_ixor, ix_l2i, ix_ladd, ix_lald, ix_land, ix_last, ix_lcmp, ix_ldcS, ix_ldiv, ix_lload, ix_lmul, ix_lor, ix_lrem, ix_lret, ix_lshl, ix_lstore, ix_lsub, ix_lsw, ix_max, ix_min, ix_new, ix_newa, ix_nret, ix_oinit, ix_pop2L, ix_popI, ix_pushI, ix_pushL, ix_putI, ix_putJ, ix_putR, ix_putZ, ix_sbald, ix_sgetC, ix_sgetV, ix_slen, ix_strc, ix_tald, ix_tsw, ix_vcall, ix_vret, ix_zret, stL, stL2, kilL, popN, fq_sw, fq_lsw, List.map_cons, List.map_nil, List.getElem?_cons_zero, List.getElem?_cons_succ, Option.toList_some, Option.toList_none, List.cons_append, List.nil_append, List.length_cons, List.length_nil, List.sum_cons, List.sum_nil, cat_i, cat_l, cat_r, true_and, and_true, Nat.zero_add, Nat.add_zero, Nat.le_refl, Nat.zero_le, Nat.reduceAdd, Nat.reduceLeDiff, exists_eq_left', Option.some.injEq, not_true_eq_false, not_false_eq_true, false_implies, true_implies, implies_true, and_self, or_true, true_or, or_false, false_or]
            exact ⟨fun _ => hz, fun h => absurd (by decide) h⟩
          | succ f ih =>
            intro e' I2 hf hle hF2 k13 k14 k15 hs
            have e11 : I2 M 11 = nI n := by rw [hF2.2 11 (by omega) (by omega) (by omega) (by omega)]; exact hn
            have t72 : I2 (M + 7) = I (M + 7) := hF2.1 _ (by omega)
            rw [scn_1] at hs
            refine b_X12_ahead_81 _ _ _ _ _ _ _ _ ?_
            simp (disch := omega) only [B_X12_ahead_0, B_X12_ahead_26, B_X12_ahead_81, B_X12_ahead_128, B_X12_ahead_202, B_X12_ahead_243, B_X12_ahead_248, B_X12_ahead_251, sp_X12_byteAt, sp_X12_isSmall, sp_X12_isDigit, hm, hm.k, hm.k1, hm.n1, hm.r1, hm.k2, hm.n2, hm.r2, hm.k3, hm.n3, hm.r3, hm.k4, hm.n4, hm.r4, hm.k5, hm.n5, hm.r5, hm.k6, hm.n6, hm.r6, hm.k7, hm.n7, hm.r7, hm.k8, hm.n8, hm.r8, hm.k9, hm.n9, hm.r9, hm.k10, hm.n10, hm.r10, hm.k11, hm.n11, hm.r11, hm.k12, hm.n12, hm.r12, hm.k13, hm.n13, hm.r13, hm.k14, hm.n14, hm.r14, k14, e11, okE, t72, bI_01, bI_01b, bI_0, nI_1, nI_add, nI_clamp, nI_pin, nI_neg, nI_nonneg, nI_leE, nI_ltE, nI_eqE, Nat.not_le, Nat.not_lt, fq_10, fq_01, fq_rr, ix_aald, ix_aast, ix_abs, ix_alen, ix_aload, ix_aret, ix_astore, ix_bald, ix_bast, ix_call, ix_cpyI, ix_cpyJ, ix_dead, ix_dup2, ix_dup2L, ix_dupI, ix_dupR, ix_dupx1, ix_getI, ix_getJ, ix_getR, ix_gfm, ix_gtab, ix_i2b, ix_i2c, ix_i2l, ix_i2s, ix_iadd, ix_iald, ix_iand, ix_iast, ix_icall, ix_icmp_eq, ix_icmp_ge, ix_icmp_gt, ix_icmp_le, ix_icmp_lt, ix_icmp_ne, ix_idiv, ix_if_eq, ix_if_ge, ix_if_gt, ix_if_le, ix_if_lt, ix_if_ne, ix_iinc, ix_iload, ix_imul, ix_ineg, ix_ior, ix_irem, ix_iret, ix_ishl, ix_ishr, ix_istore, ix_isub, ix_iushr, ix_ixor, ix_l2i, ix_ladd, ix_lald, ix_land, ix_last, ix_lcmp, ix_ldcS, ix_ldiv, ix_lload, ix_lmul, ix_lor, ix_lrem, ix_lret, ix_lshl, ix_lstore, ix_lsub, ix_lsw, ix_max, ix_min, ix_new, ix_newa, ix_nret, ix_oinit, ix_pop2L, ix_popI, ix_pushI, ix_pushL, ix_putI, ix_putJ, ix_putR, ix_putZ, ix_sbald, ix_sgetC, ix_sgetV, ix_slen, ix_strc, ix_tald, ix_tsw, ix_vcall, ix_vret, ix_zret, stL, stL2, kilL, popN, fq_sw, fq_lsw, List.map_cons, List.map_nil, List.getElem?_cons_zero, List.getElem?_cons_succ, Option.toList_some, Option.toList_none, List.cons_append, List.nil_append, List.length_cons, List.length_nil, List.sum_cons, List.sum_nil, cat_i, cat_l, cat_r, true_and, and_true, Nat.zero_add, Nat.add_zero, Nat.le_refl, Nat.zero_le, Nat.reduceAdd, Nat.reduceLeDiff, exists_eq_left', Option.some.injEq, not_true_eq_false, not_false_eq_true, false_implies, true_implies, implies_true, and_self, or_true, true_or, or_false, false_or]
            refine ⟨fun h => ?_, fun h => ?_⟩
            · rw [if_neg (by rw [decide_eq_true_eq]; exact h)] at hs
              exact fin2 I2 hF2 k13 (by rw [k14, hs]) k15
            · have h : isSm (byA (I (M + 7)) n e') := Decidable.not_not.mp h
              rw [if_pos (decide_eq_true h)] at hs
              exact ih (e' + 1) _ (by omega) (by omega) (hF2.tr (ahF.u (by omega))) (by rw [u2_ck _ _ _ _ _ _ (by omega)]; exact k13) u2_eq (by rw [u2_ck _ _ _ _ _ _ (by omega)]; exact k15) hs
        exact lp (n - fr) fr _ rfl fN eF e13 e14 e15 rfl
      · refine fin I3 0 _ eF e13 (by rw [e14]; unfold tE; rw [hc, hfr, if_pos h1]) (by rw [e15]; unfold tV; rw [hc, if_pos h1]) (by unfold tK; rw [hc, if_pos h1])
    have lp : ∀ (f e' : Nat) (I1 : IH) (o1 : Option Value), n - e' = f → e' ≤ n → ahF M I I1 → I1 M 14 = nI e' → scB (I (M + 7)) n e = scn (fun c => decide (isBl c)) (I (M + 7)) n f e' → fqAt l G M_X12_ahead (D + 1) 0 0 Q 0 [some (.ref M), o1] [] S I1 J z 0 0 := by
      intro f
      induction f with
      | zero =>
        intro e' I1 o1 hf hle hF h14 hs
        have t7 : I1 (M + 7) = I (M + 7) := hF.1 _ (by omega)
        have e11 : I1 M 11 = nI n := by rw [hF.2 11 (by omega) (by omega) (by omega) (by omega)]; exact hn
        have hz := tail I1 o1 hF (by rw [h14]; unfold tF; rw [hs]; rfl)
        have b1 : byA (I1 (M + 7)) n e' = -1 := byA_o (by omega)
        refine b_X12_ahead_0 _ _ _ _ _ _ _ _ ?_
        simp (disch := omega) only [B_X12_ahead_0, B_X12_ahead_26, B_X12_ahead_81, B_X12_ahead_128, B_X12_ahead_202, B_X12_ahead_243, B_X12_ahead_248, B_X12_ahead_251, sp_X12_byteAt, sp_X12_isSmall, sp_X12_isDigit, hm, hm.k, hm.k1, hm.n1, hm.r1, hm.k2, hm.n2, hm.r2, hm.k3, hm.n3, hm.r3, hm.k4, hm.n4, hm.r4, hm.k5, hm.n5, hm.r5, hm.k6, hm.n6, hm.r6, hm.k7, hm.n7, hm.r7, hm.k8, hm.n8, hm.r8, hm.k9, hm.n9, hm.r9, hm.k10, hm.n10, hm.r10, hm.k11, hm.n11, hm.r11, hm.k12, hm.n12, hm.r12, hm.k13, hm.n13, hm.r13, hm.k14, hm.n14, hm.r14, h14, e11, okE, b1, nI_1, nI_add, nI_clamp, nI_pin, nI_neg, nI_nonneg, nI_leE, nI_ltE, nI_eqE, Nat.not_le, Nat.not_lt, fq_10, fq_01, fq_rr, ix_aald, ix_aast, ix_abs, ix_alen, ix_aload, ix_aret, ix_astore, ix_bald, ix_bast, ix_call, ix_cpyI, ix_cpyJ, ix_dead, ix_dup2, ix_dup2L, ix_dupI, ix_dupR, ix_dupx1, ix_getI, ix_getJ, ix_getR, ix_gfm, ix_gtab, ix_i2b, ix_i2c, ix_i2l, ix_i2s, ix_iadd, ix_iald, ix_iand, ix_iast, ix_icall, ix_icmp_eq, ix_icmp_ge, ix_icmp_gt, ix_icmp_le, ix_icmp_lt, ix_icmp_ne, ix_idiv, ix_if_eq, ix_if_ge, ix_if_gt, ix_if_le, ix_if_lt, ix_if_ne, ix_iinc, ix_iload, ix_imul, ix_ineg, ix_ior, ix_irem, ix_iret, ix_ishl, ix_ishr, ix_istore, ix_isub, ix_iushr, ix_ixor, ix_l2i, ix_ladd, ix_lald, ix_land, ix_last, ix_lcmp, ix_ldcS, ix_ldiv, ix_lload, ix_lmul, ix_lor, ix_lrem, ix_lret, ix_lshl, ix_lstore, ix_lsub, ix_lsw, ix_max, ix_min, ix_new, ix_newa, ix_nret, ix_oinit, ix_pop2L, ix_popI, ix_pushI, ix_pushL, ix_putI, ix_putJ, ix_putR, ix_putZ, ix_sbald, ix_sgetC, ix_sgetV, ix_slen, ix_strc, ix_tald, ix_tsw, ix_vcall, ix_vret, ix_zret, stL, stL2, kilL, popN, fq_sw, fq_lsw, List.map_cons, List.map_nil, List.getElem?_cons_zero, List.getElem?_cons_succ, Option.toList_some, Option.toList_none, List.cons_append, List.nil_append, List.length_cons, List.length_nil, List.sum_cons, List.sum_nil, cat_i, cat_l, cat_r, true_and, and_true, Nat.zero_add, Nat.add_zero, Nat.le_refl, Nat.zero_le, Nat.reduceAdd, Nat.reduceLeDiff, exists_eq_left', Option.some.injEq, not_true_eq_false, not_false_eq_true, false_implies, true_implies, implies_true, and_self, or_true, true_or, or_false, false_or]
        exact ⟨fun h => absurd h (by decide), fun _ => ⟨fun _ => hz, fun h => absurd h (by decide)⟩⟩
      | succ f ih =>
        intro e' I1 o1 hf hle hF h14 hs
        have t7 : I1 (M + 7) = I (M + 7) := hF.1 _ (by omega)
        have e11 : I1 M 11 = nI n := by rw [hF.2 11 (by omega) (by omega) (by omega) (by omega)]; exact hn
        rw [scn_1] at hs
        have hn1 : ∀ h : isBl (byA (I (M + 7)) n e'), fqAt l G M_X12_ahead (D + 1) 0 0 Q 0 [some (.ref M), o1] [] S (u2 I1 M 14 (nI (e' + 1))) J z 0 0 := fun h => ih (e' + 1) _ _ (by omega) (by omega) (hF.tr (ahF.u (by omega))) u2_eq (by rw [hs, if_pos (decide_eq_true h)])
        have hn2 : ∀ h : ¬ isBl (byA (I (M + 7)) n e'), B_X12_ahead_39 l G D 0 0 Q [some (.ref M), o1] [] S I1 J z 0 0 := fun h => tail I1 o1 hF (by rw [h14]; unfold tF; rw [hs, if_neg (by rw [decide_eq_true_eq]; exact h)])
        refine b_X12_ahead_0 _ _ _ _ _ _ _ _ ?_
        simp (disch := omega) only [B_X12_ahead_0, B_X12_ahead_26, B_X12_ahead_81, B_X12_ahead_128, B_X12_ahead_202, B_X12_ahead_243, B_X12_ahead_248, B_X12_ahead_251, sp_X12_byteAt, sp_X12_isSmall, sp_X12_isDigit, hm, hm.k, hm.k1, hm.n1, hm.r1, hm.k2, hm.n2, hm.r2, hm.k3, hm.n3, hm.r3, hm.k4, hm.n4, hm.r4, hm.k5, hm.n5, hm.r5, hm.k6, hm.n6, hm.r6, hm.k7, hm.n7, hm.r7, hm.k8, hm.n8, hm.r8, hm.k9, hm.n9, hm.r9, hm.k10, hm.n10, hm.r10, hm.k11, hm.n11, hm.r11, hm.k12, hm.n12, hm.r12, hm.k13, hm.n13, hm.r13, hm.k14, hm.n14, hm.r14, h14, e11, okE, t7, nI_1, nI_add, nI_clamp, nI_pin, nI_neg, nI_nonneg, nI_leE, nI_ltE, nI_eqE, Nat.not_le, Nat.not_lt, fq_10, fq_01, fq_rr, ix_aald, ix_aast, ix_abs, ix_alen, ix_aload, ix_aret, ix_astore, ix_bald, ix_bast, ix_call, ix_cpyI, ix_cpyJ, ix_dead, ix_dup2, ix_dup2L, ix_dupI, ix_dupR, ix_dupx1, ix_getI, ix_getJ, ix_getR, ix_gfm, ix_gtab, ix_i2b, ix_i2c, ix_i2l, ix_i2s, ix_iadd, ix_iald, ix_iand, ix_iast, ix_icall, ix_icmp_eq, ix_icmp_ge, ix_icmp_gt, ix_icmp_le, ix_icmp_lt, ix_icmp_ne, ix_idiv, ix_if_eq, ix_if_ge, ix_if_gt, ix_if_le, ix_if_lt, ix_if_ne, ix_iinc, ix_iload, ix_imul, ix_ineg, ix_ior, ix_irem, ix_iret, ix_ishl, ix_ishr, ix_istore, ix_isub, ix_iushr, ix_ixor, ix_l2i, ix_ladd, ix_lald, ix_land, ix_last, ix_lcmp, ix_ldcS, ix_ldiv, ix_lload, ix_lmul, ix_lor, ix_lrem, ix_lret, ix_lshl, ix_lstore, ix_lsub, ix_lsw, ix_max, ix_min, ix_new, ix_newa, ix_nret, ix_oinit, ix_pop2L, ix_popI, ix_pushI, ix_pushL, ix_putI, ix_putJ, ix_putR, ix_putZ, ix_sbald, ix_sgetC, ix_sgetV, ix_slen, ix_strc, ix_tald, ix_tsw, ix_vcall, ix_vret, ix_zret, stL, stL2, kilL, popN, fq_sw, fq_lsw, List.map_cons, List.map_nil, List.getElem?_cons_zero, List.getElem?_cons_succ, Option.toList_some, Option.toList_none, List.cons_append, List.nil_append, List.length_cons, List.length_nil, List.sum_cons, List.sum_nil, cat_i, cat_l, cat_r, true_and, and_true, Nat.zero_add, Nat.add_zero, Nat.le_refl, Nat.zero_le, Nat.reduceAdd, Nat.reduceLeDiff, exists_eq_left', Option.some.injEq, not_true_eq_false, not_false_eq_true, false_implies, true_implies, implies_true, and_self, or_true, true_or, or_false, false_or]
        exact ⟨fun h => hn1 (Or.inl h), fun h => ⟨fun h2 => hn2 (fun q => q.elim h h2), fun h2 => hn1 (Or.inr h2)⟩⟩
    refine fq_enter [some (.ref M), none] (by decide +kernel) (Nat.le_of_ble_eq_true rfl) rfl ?_
    exact lp (n - e) e I none rfl hen ahF.rf he rfl
  · exact h.elim
