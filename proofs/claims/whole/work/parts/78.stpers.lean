/-! a street's text: a person -/
theorem stH.person {X s n e c : Nat} {I I' : IH} {J J' : JH} {T : Nat → Int32} {A A' : Nat → Int32} {N N' : Nat → Int64} {w : Int64} (h : stH X s I J T n (A, N, e)) (hc : A 2377 = nI c) (c8 : c < 8) (hs : X + 13 ≤ s)
    (i0 : ∀ a, a ≠ s → a ≠ s + 24 + c → I' a = I a) (i6 : I' s 6 = nI (c + 1)) (ik : ∀ k, k ≠ 6 → I' s k = I s k) (v0 : ∀ j, j < 5 → I' (s + 24 + c) (j + 1) = A' (2406 + 7 * c + j)) (v5 : I' (s + 24 + c) 6 = 0) (v6 : I' (s + 24 + c) 7 = 0)
    (j0 : ∀ a, a ≠ s + 24 + c → J' a = J a) (j1 : nmP (J' (s + 24 + c) 0) w)
    (a0 : A' 2377 = nI (c + 1)) (ak : ∀ k, k ≠ 2377 → ¬ (2406 + 7 * c ≤ k ∧ k < 2406 + 7 * c + 5) → A' k = A k)
    (n1 : N' (62 + c) = w) (nk : ∀ k, k ≠ 62 + c → N' k = N k) : stH X s I' J' T n (A', N', e) := by
  obtain ⟨h1, h2, ⟨⟨o1, o2, o3⟩, ⟨y1, y2, y3, y4, y5, y6, y7, y8, y9, y10, y11⟩, b, p, q, hq, q8, qk⟩, ⟨m1, m2⟩, ⟨z1, z2, z3, z4⟩, h6, h7, h8⟩ := h
  dsimp only at *
  have cc : (A 2377).toNatClampNeg = c := by rw [hc, nI_clamp (by omega)]
  have cc' : (A' 2377).toNatClampNeg = c + 1 := by rw [a0, nI_clamp (by omega)]
  have e7 : A' 2376 = A 2376 := ak _ (by omega) (by omega)
  have e8 : A' 2378 = A 2378 := ak _ (by omega) (by omega)
  have sk : ∀ j, j ≠ 1 → j < 30 → A' (2376 + j) = A (2376 + j) := fun j _ _ => ak _ (by omega) (by omega)
  have o19 : (A 2376).toNatClampNeg ≤ 6 := o1.2
  have p : ∀ i, i < (A 2377).toNatClampNeg → ∀ j, j < 7 → I (s + 24 + i) (j + 1) = A (2376 + (30 + 7 * i + j)) := p
  rw [cc] at p m2 z4
  refine ⟨h1.fr (i0 _ (by omega) (by omega)) (j0 _ (by omega)), h2, ⟨⟨?_, ?_, ?_⟩, ⟨?_, ?_, ?_, ?_, ?_, ?_, ?_, ?_, ?_, ?_, ?_⟩, fun i hi => ?_, fun i hi j hj => ?_, q, hq, ?_, fun k hk j hj => ?_⟩, ⟨fun i hi => ?_, fun i hi => ?_⟩, ⟨?_, ?_, fun i hi hi6 => ?_, fun i hi hi8 => ?_⟩, ?_, ?_, ?_⟩
  · show okN (A' 2376) 6
    rw [e7]
    exact o1
  · show okN (A' 2377) 8
    rw [a0]
    exact okN.nI (by omega) (by omega)
  · show okN (A' 2378) 20
    rw [e8]
    exact o3
  · exact (ik 5 (by omega)).trans (y1.trans (sk 0 (by omega) (by omega)).symm)
  · show I' s 6 = A' 2377
    rw [i6, a0]
  · exact (ik 7 (by omega)).trans (y3.trans (sk 2 (by omega) (by omega)).symm)
  · exact (ik 9 (by omega)).trans (y4.trans (sk 3 (by omega) (by omega)).symm)
  · exact (ik 10 (by omega)).trans (y5.trans (sk 4 (by omega) (by omega)).symm)
  · exact (ik 11 (by omega)).trans (y6.trans (sk 5 (by omega) (by omega)).symm)
  · exact (ik 12 (by omega)).trans (y7.trans (sk 6 (by omega) (by omega)).symm)
  · exact (ik 16 (by omega)).trans (y8.trans (sk 7 (by omega) (by omega)).symm)
  · exact (ik 13 (by omega)).trans (y9.trans (sk 8 (by omega) (by omega)).symm)
  · exact (ik 14 (by omega)).trans (y10.trans (sk 9 (by omega) (by omega)).symm)
  · exact (ik 15 (by omega)).trans (y11.trans (sk 10 (by omega) (by omega)).symm)
  · have hi : i < (A' 2376).toNatClampNeg := hi
    rw [e7] at hi
    show I' (s + 18 + i) 2 = A' (2376 + (12 + 3 * i)) ∧ I' (s + 18 + i) 1 = A' (2376 + (12 + 3 * i + 1)) ∧ I' (s + 18 + i) 3 = A' (2376 + (12 + 3 * i + 2))
    rw [i0 _ (by omega) (by omega), ak _ (by omega) (by omega), ak _ (by omega) (by omega), ak _ (by omega) (by omega)]
    exact b i hi
  · have hi : i < (A' 2377).toNatClampNeg := hi
    rw [cc'] at hi
    show I' (s + 24 + i) (j + 1) = A' (2376 + (30 + 7 * i + j))
    by_cases hic : i = c
    · subst hic
      rw [show 2376 + (30 + 7 * i + j) = 2406 + 7 * i + j by omega]
      by_cases j5 : j < 5
      · exact v0 j j5
      · obtain ⟨z41, z42, z43⟩ := z4 i (by omega) (by omega)
        rw [ak _ (by omega) (by omega)]
        rcases (show j = 5 ∨ j = 6 by omega) with rfl | rfl
        · rw [z42]
          exact v5
        · rw [z43]
          exact v6
    · rw [i0 _ (by omega) (by omega), ak _ (by omega) (by omega)]
      exact p i (by omega) j hj
  · rw [ik 8 (by omega)]
    exact q8
  · have hk : k < (A' 2378).toNatClampNeg := hk
    rw [e8] at hk
    show I' (s + 32 + qix q k) j = A' (2376 + (86 + 7 * k + j))
    rw [i0 _ (by omega) (by omega), ak _ (by omega) (by omega)]
    exact qk k hk j hj
  · have hi : i < (A' 2376).toNatClampNeg := hi
    rw [e7] at hi
    show nmP (J' (s + 18 + i) 0) (N' (56 + i))
    rw [j0 _ (by omega), nk _ (by omega)]
    exact m1 i hi
  · have hi : i < (A' 2377).toNatClampNeg := hi
    rw [cc'] at hi
    show nmP (J' (s + 24 + i) 0) (N' (56 + 6 + i))
    by_cases hic : i = c
    · subst hic
      rw [show 56 + 6 + i = 62 + i by omega, n1]
      exact j1
    · rw [j0 _ (by omega), nk _ (by omega)]
      exact m2 i (by omega)
  · show A' 2378 = 0
    rw [e8]
    exact z1
  · show A' 2387 = -1
    rw [ak _ (by omega) (by omega)]
    exact z2
  · have hi : (A' 2376).toNatClampNeg ≤ i := hi
    rw [e7] at hi
    show A' (2388 + 3 * i + 2) = 0
    rw [ak _ (by omega) (by omega)]
    exact z3 i hi hi6
  · have hi : (A' 2377).toNatClampNeg ≤ i := hi
    rw [cc'] at hi
    show A' (2406 + 7 * i + 4) = 0 ∧ A' (2406 + 7 * i + 5) = 0 ∧ A' (2406 + 7 * i + 6) = 0
    rw [ak _ (by omega) (by omega), ak _ (by omega) (by omega), ak _ (by omega) (by omega)]
    exact z4 i (by omega) hi8
  · rw [i0 _ (by omega) (by omega)]
    exact h6
  · rw [i0 _ (by omega) (by omega)]
    exact h7
  · rw [i0 _ (by omega) (by omega)]
    exact h8
theorem dX7_takeTrait_0 : decode cX7_takeTrait 0 = .ok (.aload_n 0, 1) := by decide +kernel
theorem dX7_takeTrait_1 : decode cX7_takeTrait 1 = .ok (.getfield 9, 3) := by decide +kernel
theorem dX7_takeTrait_4 : decode cX7_takeTrait 4 = .ok (.getfield 34, 3) := by decide +kernel
theorem dX7_takeTrait_7 : decode cX7_takeTrait 7 = .ok (.bipush 7, 2) := by decide +kernel
theorem dX7_takeTrait_9 : decode cX7_takeTrait 9 = .ok (.iload_n 2, 1) := by decide +kernel
theorem dX7_takeTrait_10 : decode cX7_takeTrait 10 = .ok (.iadd, 1) := by decide +kernel
theorem dX7_takeTrait_11 : decode cX7_takeTrait 11 = .ok (.iconst 1, 1) := by decide +kernel
theorem dX7_takeTrait_12 : decode cX7_takeTrait 12 = .ok (.isub, 1) := by decide +kernel
theorem dX7_takeTrait_13 : decode cX7_takeTrait 13 = .ok (.if_icmp .eq 5, 3) := by decide +kernel
theorem dX7_takeTrait_16 : decode cX7_takeTrait 16 = .ok (.iconst 1, 1) := by decide +kernel
theorem dX7_takeTrait_17 : decode cX7_takeTrait 17 = .ok (.ireturn, 1) := by decide +kernel
theorem dX7_takeTrait_18 : decode cX7_takeTrait 18 = .ok (.aload_n 0, 1) := by decide +kernel
theorem dX7_takeTrait_19 : decode cX7_takeTrait 19 = .ok (.getfield 9, 3) := by decide +kernel
theorem dX7_takeTrait_22 : decode cX7_takeTrait 22 = .ok (.invokevirtual 67, 3) := by decide +kernel
theorem dX7_takeTrait_25 : decode cX7_takeTrait 25 = .ok (.aload_n 0, 1) := by decide +kernel
theorem dX7_takeTrait_26 : decode cX7_takeTrait 26 = .ok (.getfield 9, 3) := by decide +kernel
theorem dX7_takeTrait_29 : decode cX7_takeTrait 29 = .ok (.getstatic 128, 3) := by decide +kernel
theorem dX7_takeTrait_32 : decode cX7_takeTrait 32 = .ok (.iload_n 2, 1) := by decide +kernel
theorem dX7_takeTrait_33 : decode cX7_takeTrait 33 = .ok (.iaload, 1) := by decide +kernel
theorem dX7_takeTrait_34 : decode cX7_takeTrait 34 = .ok (.getstatic 132, 3) := by decide +kernel
theorem dX7_takeTrait_37 : decode cX7_takeTrait 37 = .ok (.iload_n 2, 1) := by decide +kernel
theorem dX7_takeTrait_38 : decode cX7_takeTrait 38 = .ok (.iaload, 1) := by decide +kernel
theorem dX7_takeTrait_39 : decode cX7_takeTrait 39 = .ok (.invokevirtual 70, 3) := by decide +kernel
theorem dX7_takeTrait_42 : decode cX7_takeTrait 42 = .ok (.istore_n 3, 1) := by decide +kernel
theorem dX7_takeTrait_43 : decode cX7_takeTrait 43 = .ok (.iload_n 3, 1) := by decide +kernel
theorem dX7_takeTrait_44 : decode cX7_takeTrait 44 = .ok (.iconst (-1), 1) := by decide +kernel
theorem dX7_takeTrait_45 : decode cX7_takeTrait 45 = .ok (.if_icmp .ne 5, 3) := by decide +kernel
theorem dX7_takeTrait_48 : decode cX7_takeTrait 48 = .ok (.iconst 0, 1) := by decide +kernel
theorem dX7_takeTrait_49 : decode cX7_takeTrait 49 = .ok (.ireturn, 1) := by decide +kernel
theorem dX7_takeTrait_50 : decode cX7_takeTrait 50 = .ok (.aload_n 1, 1) := by decide +kernel
theorem dX7_takeTrait_51 : decode cX7_takeTrait 51 = .ok (.iload_n 2, 1) := by decide +kernel
theorem dX7_takeTrait_52 : decode cX7_takeTrait 52 = .ok (.iload_n 3, 1) := by decide +kernel
theorem dX7_takeTrait_53 : decode cX7_takeTrait 53 = .ok (.invokevirtual 135, 3) := by decide +kernel
theorem dX7_takeTrait_56 : decode cX7_takeTrait 56 = .ok (.iconst 1, 1) := by decide +kernel
theorem dX7_takeTrait_57 : decode cX7_takeTrait 57 = .ok (.ireturn, 1) := by decide +kernel
abbrev M_X7_takeTrait : MT := (yX7_takeTrait, cX7_takeTrait, 4, (some .boolean))
theorem cf_X7_takeTrait : fq_cf M_X7_takeTrait 2 := ⟨(mg_1 (List.mem_of_getElem? (i := 17) rfl) rfl), (mg_4 (List.mem_of_getElem? (i := 46) rfl) rfl), ⟨by decide, by decide, by decide +kernel⟩, by decide⟩
def B_X7_takeTrait_56 (G : GT) (mc ms : Nat) (Q : Post) : Cn := ix_pushI 1 (ix_zret mc ms Q)
theorem b_X7_takeTrait_56 {l : Launch} {G : GT} {D mc ms : Nat} {Q : Post} : Imp l G M_X7_takeTrait (D + 4) mc ms Q (B_X7_takeTrait_56 G mc ms Q) 56 := sx_iconst dX7_takeTrait_56 rfl (sx_zret dX7_takeTrait_57 rfl)
def B_X7_takeTrait_42 (G : GT) (mc ms : Nat) (Q : Post) : Cn := ix_istore 3 (ix_iload 3 (ix_pushI (-1) (ix_icmp_ne (ix_aload 1 (ix_iload 2 (ix_iload 3 (ix_vcall 2 3 0 0 mc ms (sp_X2_setTrait G) ((B_X7_takeTrait_56 G mc ms Q)))))) (ix_pushI 0 (ix_zret mc ms Q)))))
theorem b_X7_takeTrait_42 {l : Launch} {G : GT} {D mc ms : Nat} {Q : Post} : Imp l G M_X7_takeTrait (D + 4) mc ms Q (B_X7_takeTrait_42 G mc ms Q) 42 := sx_istore_n dX7_takeTrait_42 rfl (by decide) (sx_iload_n dX7_takeTrait_43 rfl (sx_iconst dX7_takeTrait_44 rfl (sx_icmp_ne 50 dX7_takeTrait_45 (by decide) (sx_aload_n dX7_takeTrait_50 rfl (sx_iload_n dX7_takeTrait_51 rfl (sx_iload_n dX7_takeTrait_52 rfl (sx_vcall dX7_takeTrait_53 cf_X2_setTrait (mg_4 (List.mem_of_getElem? (i := 51) rfl) rfl) (mg_4 (List.mem_of_getElem? (i := 52) rfl) rfl) (mg_4 (List.mem_of_getElem? (i := 53) rfl) rfl) rfl c_X2_setTrait (b_X7_takeTrait_56))))) (sx_iconst dX7_takeTrait_48 rfl (sx_zret dX7_takeTrait_49 rfl)))))
def B_X7_takeTrait_25 (G : GT) (mc ms : Nat) (Q : Post) : Cn := ix_aload 0 (ix_getR 7 0 (ix_gtab G 0 (ix_iload 2 (ix_tald G 0 (ix_gtab G 1 (ix_iload 2 (ix_tald G 1 (ix_vcall 4 3 0 0 mc ms (sp_X4_takeNumber G) ((B_X7_takeTrait_42 G mc ms Q))))))))))
theorem b_X7_takeTrait_25 {l : Launch} {G : GT} {D mc ms : Nat} {Q : Post} : Imp l G M_X7_takeTrait (D + 4) mc ms Q (B_X7_takeTrait_25 G mc ms Q) 25 := sx_aload_n dX7_takeTrait_25 rfl (sx_getR dX7_takeTrait_26 fl_FootQuarrel_StreetText_9 (fun _ _ _ => rfl) (sx_gtabN dX7_takeTrait_29 (by decide) rfl (by decide) (sx_iload_n dX7_takeTrait_32 rfl (sx_tald dX7_takeTrait_33 (by decide) (sx_gtabN dX7_takeTrait_34 (by decide) rfl (by decide) (sx_iload_n dX7_takeTrait_37 rfl (sx_tald dX7_takeTrait_38 (by decide) (sx_vcall dX7_takeTrait_39 cf_X4_takeNumber (mg_3 (List.mem_of_getElem? (i := 221) rfl) rfl) (mg_3 (List.mem_of_getElem? (i := 222) rfl) rfl) (mg_3 (List.mem_of_getElem? (i := 223) rfl) rfl) rfl c_X4_takeNumber (b_X7_takeTrait_42)))))))))
def B_X7_takeTrait_0 (G : GT) (mc ms : Nat) (Q : Post) : Cn := ix_aload 0 (ix_getR 7 0 (ix_getI 4 8 (ix_pushI 7 (ix_iload 2 (ix_iadd (ix_pushI 1 (ix_isub (ix_icmp_eq (ix_aload 0 (ix_getR 7 0 (ix_vcall 4 1 0 0 mc ms (sp_X4_advance G) ((B_X7_takeTrait_25 G mc ms Q))))) (ix_pushI 1 (ix_zret mc ms Q))))))))))
theorem b_X7_takeTrait_0 {l : Launch} {G : GT} {D mc ms : Nat} {Q : Post} : Imp l G M_X7_takeTrait (D + 4) mc ms Q (B_X7_takeTrait_0 G mc ms Q) 0 := sx_aload_n dX7_takeTrait_0 rfl (sx_getR dX7_takeTrait_1 fl_FootQuarrel_StreetText_9 (fun _ _ _ => rfl) (sx_getI dX7_takeTrait_4 fl_FootQuarrel_StreetText_34 (fun _ _ _ => rfl) (sx_bipush dX7_takeTrait_7 rfl (sx_iload_n dX7_takeTrait_9 rfl (sx_iadd dX7_takeTrait_10 (sx_iconst dX7_takeTrait_11 rfl (sx_isub dX7_takeTrait_12 (sx_icmp_eq 18 dX7_takeTrait_13 (by decide) (sx_aload_n dX7_takeTrait_18 rfl (sx_getR dX7_takeTrait_19 fl_FootQuarrel_StreetText_9 (fun _ _ _ => rfl) (sx_vcall dX7_takeTrait_22 cf_X4_advance (mg_3 (List.mem_of_getElem? (i := 220) rfl) rfl) (mg_3 (List.mem_of_getElem? (i := 182) rfl) rfl) (mg_3 (List.mem_of_getElem? (i := 183) rfl) rfl) rfl c_X4_advance (b_X7_takeTrait_25)))) (sx_iconst dX7_takeTrait_16 rfl (sx_zret dX7_takeTrait_17 rfl))))))))))
def trL (i : Nat) : Int32 := ([0, 0, 1, 0] : List Int32).getD i 0
def trH (i : Nat) : Int32 := ([30, 9, 9, 99] : List Int32).getD i 0
def sp_X7_takeTrait (G : GT) : Sp := fun as S I J z Q => match as with
  | [.ref a, .ref p, .int w] => ∃ (X s t : Nat) (T : Nat → Int32) (n e c i : Nat), t = a ∧ txS S X s t ∧ rdQ S I J X T n e ∧ p = s + 24 + c ∧ c < 8 ∧ w = nI (i + 1) ∧ i < 4 ∧ (¬ kwI T n e = nI (8 + i) → Q (some (.int 1)) S I J z) ∧ (kwI T n e = nI (8 + i) → rdN X I J T n e (fun I1 J1 => (¬ tK T n (tE T n e) = 3 → Q (some (.int 0)) S (rej I1 X T n (tE T n e) 2) J1 z) ∧ (tK T n (tE T n e) = 3 → ¬ (trL i ≤ tV T n (tE T n e) ∧ tV T n (tE T n e) ≤ trH i) → Q (some (.int 0)) S (rej I1 X T n (tE T n e) 4) J1 z) ∧ (tK T n (tE T n e) = 3 → (trL i ≤ tV T n (tE T n e) ∧ tV T n (tE T n e) ≤ trH i) → rdN X I1 J1 T n (tE T n e) (fun I2 J2 => Q (some (.int 1)) S (u2 I2 (s + 24 + c) (i + 2) (tV T n (tE T n e))) J2 z))))
  | _ => False
theorem tr_w : ∀ i, i < 4 → (7 : Int32) + nI (i + 1) - 1 = wk (nI (8 + i)) ∧ trL i = (fq_tab 0).getD (i + 1) 0 ∧ trH i = (fq_tab 1).getD (i + 1) 0 ∧ (0 : Int32) ≤ trL i := by decide +kernel
set_option maxHeartbeats 4000000 in
set_option maxRecDepth 20000 in
theorem c_X7_takeTrait {l : Launch} {G : GT} {D : Nat} : ∀ as S I J z Q, sp_X7_takeTrait G as S I J z Q → fqCall l G M_X7_takeTrait (D + 4) 0 0 as S I J z Q := by
  intro as S I J z Q h
  unfold sp_X7_takeTrait at h
  split at h
  · next a p w =>
    obtain ⟨X, s, t, T, n, e, c, i, rfl, hx, hq, rfl, hc, rfl, hi, h0, h1⟩ := h
    have hx0 := hx
    obtain ⟨x1, x2, x3, hs, l1, l2, l3⟩ := hx
    have s1 := hq.1.1.1
    have h8 := hq.2.1.2.2.2.2.1
    obtain ⟨w1, w2, w3, w4⟩ := tr_w i hi
    have ew := wk_eq (kw_r T n e) (c := nI (8 + i)) (Or.inr ⟨8 + i, by omega, rfl⟩)
    have e1 := (tFE hq.2.2 (T := T)).2.2.2
    refine fq_enter [some (.ref t), some (.ref (s + 24 + c)), some (.int (nI (i + 1))), none] (by decide +kernel) (Nat.le_of_ble_eq_true rfl) rfl (b_X7_takeTrait_0 _ _ _ _ _ _ _ _ ?_)
    simp (disch := omega) only [B_X7_takeTrait_0, h8, w1, ew, x1, x2, x3, s1, hs.k, hs.r0, hs.k1, hs.r1, hs.k2, hs.r2, hs.k3, hs.r3, hs.k4, hs.r4, hs.k12, hs.n1, hs.n2, hs.n3, hs.y0, hs.k5, hs.n5, hs.y1, hs.k6, hs.n6, hs.y2, hs.k7, hs.n7, hs.y3, hs.k8, hs.n8, hs.y4, hs.k9, hs.n9, hs.y5, hs.k10, hs.n10, hs.y6, hs.k11, hs.n11, hs.p0, hs.p1, hs.p2, hs.k13, hs.n13, hs.q0, hs.q1, hs.k14, hs.k15, hs.k16, hs.n16, hs.k17, hs.n17, hs.rH, hs.kH, hs.rP, hs.kP, hs.rQ, hs.kQ, ix_aald, ix_aast, ix_abs, ix_alen, ix_aload, ix_aret, ix_astore, ix_bald, ix_bast, ix_call, ix_cpyI, ix_cpyJ, ix_dead, ix_dup2, ix_dup2L, ix_dupI, ix_dupR, ix_dupx1, ix_getI, ix_getJ, ix_getR, ix_gfm, ix_gtab, ix_i2b, ix_i2c, ix_i2l, ix_i2s, ix_iadd, ix_iald, ix_iand, ix_iast, ix_icall, ix_icmp_eq, ix_icmp_ge, ix_icmp_gt, ix_icmp_le, ix_icmp_lt, ix_icmp_ne, ix_idiv, ix_if_eq, ix_if_ge, ix_if_gt, ix_if_le, ix_if_lt, ix_if_ne, ix_iinc, ix_iload, ix_imul, ix_ineg, ix_ior, ix_irem, ix_iret, ix_ishl, ix_ishr, ix_istore, ix_isub, ix_iushr, ix_ixor, ix_l2i, ix_ladd, ix_lald, ix_land, ix_last, ix_lcmp, ix_ldcS, ix_ldiv, ix_lload, ix_lmul, ix_lor, ix_lrem, ix_lret, ix_lshl, ix_lstore, ix_lsub, ix_lsw, ix_max, ix_min, ix_new, ix_newa, ix_nret, ix_oinit, ix_pop2L, ix_popI, ix_pushI, ix_pushL, ix_putI, ix_putJ, ix_putR, ix_putZ, ix_sbald, ix_sgetC, ix_sgetV, ix_slen, ix_strc, ix_tald, ix_tsw, ix_vcall, ix_vret, ix_zret, stL, stL2, kilL, popN, fq_sw, fq_lsw, List.map_cons, List.map_nil, List.getElem?_cons_zero, List.getElem?_cons_succ, Option.toList_some, Option.toList_none, List.cons_append, List.nil_append, List.length_cons, List.length_nil, List.sum_cons, List.sum_nil, cat_i, cat_l, cat_r, true_and, and_true, Nat.zero_add, Nat.add_zero, Nat.le_refl, Nat.zero_le, Nat.reduceAdd, Nat.reduceLeDiff, exists_eq_left', Option.some.injEq, not_true_eq_false, not_false_eq_true, false_implies, true_implies, implies_true, and_self, or_true, true_or, or_false, false_or]
    refine ⟨fun q => adv_R hq ?_ (fun I1 J1 hF1 hH1 => ?_), fun q => h0 q⟩
    · intro k1
      rw [kwI_n (by rw [k1]; decide)] at q
      exact absurd q.symm (of_eq_false (nI_m1 (by omega)))
    · obtain ⟨g1, g2, g3⟩ := h1 q I1 J1 hF1 hH1
      have q1 : rdQ S I1 J1 X T n (tE T n e) := ⟨hq.1.f hF1, hH1, e1⟩
      have vi : vp_in (nI (i + 1)) 5 := by
        intro q
        rcases q with q | q
        · exact absurd q (Int32.not_lt.mpr ((nI_leI (a := 0) (b := i + 1) (by omega) (by omega)).mpr (by omega)))
        · rw [nI_clamp (by omega)] at q
          omega
      simp (disch := omega) only [B_X7_takeTrait_25, x1, x2, x3, s1, hs.k, hs.r0, hs.k1, hs.r1, hs.k2, hs.r2, hs.k3, hs.r3, hs.k4, hs.r4, hs.k12, hs.n1, hs.n2, hs.n3, hs.y0, hs.k5, hs.n5, hs.y1, hs.k6, hs.n6, hs.y2, hs.k7, hs.n7, hs.y3, hs.k8, hs.n8, hs.y4, hs.k9, hs.n9, hs.y5, hs.k10, hs.n10, hs.y6, hs.k11, hs.n11, hs.p0, hs.p1, hs.p2, hs.k13, hs.n13, hs.q0, hs.q1, hs.k14, hs.k15, hs.k16, hs.n16, hs.k17, hs.n17, hs.rH, hs.kH, hs.rP, hs.kP, hs.rQ, hs.kQ, nI_1, nI_add, nI_clamp, nI_pin, nI_neg, nI_nonneg, nI_leE, nI_ltE, nI_eqE, Nat.not_le, Nat.not_lt, fq_10, fq_01, fq_rr, ix_aald, ix_aast, ix_abs, ix_alen, ix_aload, ix_aret, ix_astore, ix_bald, ix_bast, ix_call, ix_cpyI, ix_cpyJ, ix_dead, ix_dup2, ix_dup2L, ix_dupI, ix_dupR, ix_dupx1, ix_getI, ix_getJ, ix_getR, ix_gfm, ix_gtab, ix_i2b, ix_i2c, ix_i2l, ix_i2s, ix_iadd, ix_iald, ix_iand, ix_iast, ix_icall, ix_icmp_eq, ix_icmp_ge, ix_icmp_gt, ix_icmp_le, ix_icmp_lt, ix_icmp_ne, ix_idiv, ix_if_eq, ix_if_ge, ix_if_gt, ix_if_le, ix_if_lt, ix_if_ne, ix_iinc, ix_iload, ix_imul, ix_ineg, ix_ior, ix_irem, ix_iret, ix_ishl, ix_ishr, ix_istore, ix_isub, ix_iushr, ix_ixor, ix_l2i, ix_ladd, ix_lald, ix_land, ix_last, ix_lcmp, ix_ldcS, ix_ldiv, ix_lload, ix_lmul, ix_lor, ix_lrem, ix_lret, ix_lshl, ix_lstore, ix_lsub, ix_lsw, ix_max, ix_min, ix_new, ix_newa, ix_nret, ix_oinit, ix_pop2L, ix_popI, ix_pushI, ix_pushL, ix_putI, ix_putJ, ix_putR, ix_putZ, ix_sbald, ix_sgetC, ix_sgetV, ix_slen, ix_strc, ix_tald, ix_tsw, ix_vcall, ix_vret, ix_zret, stL, stL2, kilL, popN, fq_sw, fq_lsw, List.map_cons, List.map_nil, List.getElem?_cons_zero, List.getElem?_cons_succ, Option.toList_some, Option.toList_none, List.cons_append, List.nil_append, List.length_cons, List.length_nil, List.sum_cons, List.sum_nil, cat_i, cat_l, cat_r, true_and, and_true, Nat.zero_add, Nat.add_zero, Nat.le_refl, Nat.zero_le, Nat.reduceAdd, Nat.reduceLeDiff, exists_eq_left', Option.some.injEq, not_true_eq_false, not_false_eq_true, false_implies, true_implies, implies_true, and_self, or_true, true_or, or_false, false_or]
      refine ⟨vi, vi, ?_⟩
      rw [← w2, ← w3]
      refine ⟨X, T, n, tE T n e, rfl, q1, fun g => ?_, fun g g' => ?_, fun g g' I2 J2 hF2 hH2 => ?_⟩
      · simp (disch := omega) only [B_X7_takeTrait_42, nI_1, nI_add, nI_clamp, nI_pin, nI_neg, nI_nonneg, nI_leE, nI_ltE, nI_eqE, Nat.not_le, Nat.not_lt, fq_10, fq_01, fq_rr, ix_aald, ix_aast, ix_abs, ix_alen, ix_aload, ix_aret, ix_astore, ix_bald, ix_bast, ix_call, ix_cpyI, ix_cpyJ, ix_dead, ix_dup2, ix_dup2L, ix_dupI, ix_dupR, ix_dupx1, ix_getI, ix_getJ, ix_getR, ix_gfm, ix_gtab, ix_i2b, ix_i2c, ix_i2l, ix_i2s, ix_iadd, ix_iald, ix_iand, ix_iast, ix_icall, ix_icmp_eq, ix_icmp_ge, ix_icmp_gt, ix_icmp_le, ix_icmp_lt, ix_icmp_ne, ix_idiv, ix_if_eq, ix_if_ge, ix_if_gt, ix_if_le, ix_if_lt, ix_if_ne, ix_iinc, ix_iload, ix_imul, ix_ineg, ix_ior, ix_irem, ix_iret, ix_ishl, ix_ishr, ix_istore, ix_isub, ix_iushr, ix_ixor, ix_l2i, ix_ladd, ix_lald, ix_land, ix_last, ix_lcmp, ix_ldcS, ix_ldiv, ix_lload, ix_lmul, ix_lor, ix_lrem, ix_lret, ix_lshl, ix_lstore, ix_lsub, ix_lsw, ix_max, ix_min, ix_new, ix_newa, ix_nret, ix_oinit, ix_pop2L, ix_popI, ix_pushI, ix_pushL, ix_putI, ix_putJ, ix_putR, ix_putZ, ix_sbald, ix_sgetC, ix_sgetV, ix_slen, ix_strc, ix_tald, ix_tsw, ix_vcall, ix_vret, ix_zret, stL, stL2, kilL, popN, fq_sw, fq_lsw, List.map_cons, List.map_nil, List.getElem?_cons_zero, List.getElem?_cons_succ, Option.toList_some, Option.toList_none, List.cons_append, List.nil_append, List.length_cons, List.length_nil, List.sum_cons, List.sum_nil, cat_i, cat_l, cat_r, true_and, and_true, Nat.zero_add, Nat.add_zero, Nat.le_refl, Nat.zero_le, Nat.reduceAdd, Nat.reduceLeDiff, exists_eq_left', Option.some.injEq, not_true_eq_false, not_false_eq_true, false_implies, true_implies, implies_true, and_self, or_true, true_or, or_false, false_or]
        exact g1 g
      · simp (disch := omega) only [B_X7_takeTrait_42, nI_1, nI_add, nI_clamp, nI_pin, nI_neg, nI_nonneg, nI_leE, nI_ltE, nI_eqE, Nat.not_le, Nat.not_lt, fq_10, fq_01, fq_rr, ix_aald, ix_aast, ix_abs, ix_alen, ix_aload, ix_aret, ix_astore, ix_bald, ix_bast, ix_call, ix_cpyI, ix_cpyJ, ix_dead, ix_dup2, ix_dup2L, ix_dupI, ix_dupR, ix_dupx1, ix_getI, ix_getJ, ix_getR, ix_gfm, ix_gtab, ix_i2b, ix_i2c, ix_i2l, ix_i2s, ix_iadd, ix_iald, ix_iand, ix_iast, ix_icall, ix_icmp_eq, ix_icmp_ge, ix_icmp_gt, ix_icmp_le, ix_icmp_lt, ix_icmp_ne, ix_idiv, ix_if_eq, ix_if_ge, ix_if_gt, ix_if_le, ix_if_lt, ix_if_ne, ix_iinc, ix_iload, ix_imul, ix_ineg, ix_ior, ix_irem, ix_iret, ix_ishl, ix_ishr, ix_istore, ix_isub, ix_iushr, ix_ixor, ix_l2i, ix_ladd, ix_lald, ix_land, ix_last, ix_lcmp, ix_ldcS, ix_ldiv, ix_lload, ix_lmul, ix_lor, ix_lrem, ix_lret, ix_lshl, ix_lstore, ix_lsub, ix_lsw, ix_max, ix_min, ix_new, ix_newa, ix_nret, ix_oinit, ix_pop2L, ix_popI, ix_pushI, ix_pushL, ix_putI, ix_putJ, ix_putR, ix_putZ, ix_sbald, ix_sgetC, ix_sgetV, ix_slen, ix_strc, ix_tald, ix_tsw, ix_vcall, ix_vret, ix_zret, stL, stL2, kilL, popN, fq_sw, fq_lsw, List.map_cons, List.map_nil, List.getElem?_cons_zero, List.getElem?_cons_succ, Option.toList_some, Option.toList_none, List.cons_append, List.nil_append, List.length_cons, List.length_nil, List.sum_cons, List.sum_nil, cat_i, cat_l, cat_r, true_and, and_true, Nat.zero_add, Nat.add_zero, Nat.le_refl, Nat.zero_le, Nat.reduceAdd, Nat.reduceLeDiff, exists_eq_left', Option.some.injEq, not_true_eq_false, not_false_eq_true, false_implies, true_implies, implies_true, and_self, or_true, true_or, or_false, false_or]
        exact g2 g g'
      · have nn := tV_nn g' w4
        have r := g3 g g' I2 J2 hF2 hH2
        have kp := hs.kP c hc
        generalize tV T n (tE T n e) = v at nn r
        rcases (show i = 0 ∨ i = 1 ∨ i = 2 ∨ i = 3 by omega) with rfl | rfl | rfl | rfl
        · simp (disch := omega) only [B_X7_takeTrait_42, B_X7_takeTrait_56, sp_X2_setTrait, B_X2_setTrait_0, B_X2_setTrait_57, kp, nn, hs.k, hs.r0, hs.k1, hs.r1, hs.k2, hs.r2, hs.k3, hs.r3, hs.k4, hs.r4, hs.k12, hs.n1, hs.n2, hs.n3, hs.y0, hs.k5, hs.n5, hs.y1, hs.k6, hs.n6, hs.y2, hs.k7, hs.n7, hs.y3, hs.k8, hs.n8, hs.y4, hs.k9, hs.n9, hs.y5, hs.k10, hs.n10, hs.y6, hs.k11, hs.n11, hs.p0, hs.p1, hs.p2, hs.k13, hs.n13, hs.q0, hs.q1, hs.k14, hs.k15, hs.k16, hs.n16, hs.k17, hs.n17, hs.rH, hs.kH, hs.rP, hs.kP, hs.rQ, hs.kQ, nI_1, nI_add, nI_clamp, nI_pin, nI_neg, nI_nonneg, nI_leE, nI_ltE, nI_eqE, Nat.not_le, Nat.not_lt, fq_10, fq_01, fq_rr, ix_aald, ix_aast, ix_abs, ix_alen, ix_aload, ix_aret, ix_astore, ix_bald, ix_bast, ix_call, ix_cpyI, ix_cpyJ, ix_dead, ix_dup2, ix_dup2L, ix_dupI, ix_dupR, ix_dupx1, ix_getI, ix_getJ, ix_getR, ix_gfm, ix_gtab, ix_i2b, ix_i2c, ix_i2l, ix_i2s, ix_iadd, ix_iald, ix_iand, ix_iast, ix_icall, ix_icmp_eq, ix_icmp_ge, ix_icmp_gt, ix_icmp_le, ix_icmp_lt, ix_icmp_ne, ix_idiv, ix_if_eq, ix_if_ge, ix_if_gt, ix_if_le, ix_if_lt, ix_if_ne, ix_iinc, ix_iload, ix_imul, ix_ineg, ix_ior, ix_irem, ix_iret, ix_ishl, ix_ishr, ix_istore, ix_isub, ix_iushr, ix_ixor, ix_l2i, ix_ladd, ix_lald, ix_land, ix_last, ix_lcmp, ix_ldcS, ix_ldiv, ix_lload, ix_lmul, ix_lor, ix_lrem, ix_lret, ix_lshl, ix_lstore, ix_lsub, ix_lsw, ix_max, ix_min, ix_new, ix_newa, ix_nret, ix_oinit, ix_pop2L, ix_popI, ix_pushI, ix_pushL, ix_putI, ix_putJ, ix_putR, ix_putZ, ix_sbald, ix_sgetC, ix_sgetV, ix_slen, ix_strc, ix_tald, ix_tsw, ix_vcall, ix_vret, ix_zret, stL, stL2, kilL, popN, fq_sw, fq_lsw, List.map_cons, List.map_nil, List.getElem?_cons_zero, List.getElem?_cons_succ, Option.toList_some, Option.toList_none, List.cons_append, List.nil_append, List.length_cons, List.length_nil, List.sum_cons, List.sum_nil, cat_i, cat_l, cat_r, true_and, and_true, Nat.zero_add, Nat.add_zero, Nat.le_refl, Nat.zero_le, Nat.reduceAdd, Nat.reduceLeDiff, exists_eq_left', Option.some.injEq, not_true_eq_false, not_false_eq_true, false_implies, true_implies, implies_true, and_self, or_true, true_or, or_false, false_or]
          exact ⟨fun _ => r, fun q => absurd (by decide) q⟩
        · simp (disch := omega) only [B_X7_takeTrait_42, B_X7_takeTrait_56, sp_X2_setTrait, B_X2_setTrait_0, B_X2_setTrait_57, kp, nn, hs.k, hs.r0, hs.k1, hs.r1, hs.k2, hs.r2, hs.k3, hs.r3, hs.k4, hs.r4, hs.k12, hs.n1, hs.n2, hs.n3, hs.y0, hs.k5, hs.n5, hs.y1, hs.k6, hs.n6, hs.y2, hs.k7, hs.n7, hs.y3, hs.k8, hs.n8, hs.y4, hs.k9, hs.n9, hs.y5, hs.k10, hs.n10, hs.y6, hs.k11, hs.n11, hs.p0, hs.p1, hs.p2, hs.k13, hs.n13, hs.q0, hs.q1, hs.k14, hs.k15, hs.k16, hs.n16, hs.k17, hs.n17, hs.rH, hs.kH, hs.rP, hs.kP, hs.rQ, hs.kQ, nI_1, nI_add, nI_clamp, nI_pin, nI_neg, nI_nonneg, nI_leE, nI_ltE, nI_eqE, Nat.not_le, Nat.not_lt, fq_10, fq_01, fq_rr, ix_aald, ix_aast, ix_abs, ix_alen, ix_aload, ix_aret, ix_astore, ix_bald, ix_bast, ix_call, ix_cpyI, ix_cpyJ, ix_dead, ix_dup2, ix_dup2L, ix_dupI, ix_dupR, ix_dupx1, ix_getI, ix_getJ, ix_getR, ix_gfm, ix_gtab, ix_i2b, ix_i2c, ix_i2l, ix_i2s, ix_iadd, ix_iald, ix_iand, ix_iast, ix_icall, ix_icmp_eq, ix_icmp_ge, ix_icmp_gt, ix_icmp_le, ix_icmp_lt, ix_icmp_ne, ix_idiv, ix_if_eq, ix_if_ge, ix_if_gt, ix_if_le, ix_if_lt, ix_if_ne, ix_iinc, ix_iload, ix_imul, ix_ineg, ix_ior, ix_irem, ix_iret, ix_ishl, ix_ishr, ix_istore, ix_isub, ix_iushr, ix_ixor, ix_l2i, ix_ladd, ix_lald, ix_land, ix_last, ix_lcmp, ix_ldcS, ix_ldiv, ix_lload, ix_lmul, ix_lor, ix_lrem, ix_lret, ix_lshl, ix_lstore, ix_lsub, ix_lsw, ix_max, ix_min, ix_new, ix_newa, ix_nret, ix_oinit, ix_pop2L, ix_popI, ix_pushI, ix_pushL, ix_putI, ix_putJ, ix_putR, ix_putZ, ix_sbald, ix_sgetC, ix_sgetV, ix_slen, ix_strc, ix_tald, ix_tsw, ix_vcall, ix_vret, ix_zret, stL, stL2, kilL, popN, fq_sw, fq_lsw, List.map_cons, List.map_nil, List.getElem?_cons_zero, List.getElem?_cons_succ, Option.toList_some, Option.toList_none, List.cons_append, List.nil_append, List.length_cons, List.length_nil, List.sum_cons, List.sum_nil, cat_i, cat_l, cat_r, true_and, and_true, Nat.zero_add, Nat.add_zero, Nat.le_refl, Nat.zero_le, Nat.reduceAdd, Nat.reduceLeDiff, exists_eq_left', Option.some.injEq, not_true_eq_false, not_false_eq_true, false_implies, true_implies, implies_true, and_self, or_true, true_or, or_false, false_or]
          exact ⟨fun q => absurd q (by decide), fun _ => ⟨fun _ => r, fun q => absurd (by decide) q⟩⟩
        · simp (disch := omega) only [B_X7_takeTrait_42, B_X7_takeTrait_56, sp_X2_setTrait, B_X2_setTrait_0, B_X2_setTrait_57, kp, nn, hs.k, hs.r0, hs.k1, hs.r1, hs.k2, hs.r2, hs.k3, hs.r3, hs.k4, hs.r4, hs.k12, hs.n1, hs.n2, hs.n3, hs.y0, hs.k5, hs.n5, hs.y1, hs.k6, hs.n6, hs.y2, hs.k7, hs.n7, hs.y3, hs.k8, hs.n8, hs.y4, hs.k9, hs.n9, hs.y5, hs.k10, hs.n10, hs.y6, hs.k11, hs.n11, hs.p0, hs.p1, hs.p2, hs.k13, hs.n13, hs.q0, hs.q1, hs.k14, hs.k15, hs.k16, hs.n16, hs.k17, hs.n17, hs.rH, hs.kH, hs.rP, hs.kP, hs.rQ, hs.kQ, nI_1, nI_add, nI_clamp, nI_pin, nI_neg, nI_nonneg, nI_leE, nI_ltE, nI_eqE, Nat.not_le, Nat.not_lt, fq_10, fq_01, fq_rr, ix_aald, ix_aast, ix_abs, ix_alen, ix_aload, ix_aret, ix_astore, ix_bald, ix_bast, ix_call, ix_cpyI, ix_cpyJ, ix_dead, ix_dup2, ix_dup2L, ix_dupI, ix_dupR, ix_dupx1, ix_getI, ix_getJ, ix_getR, ix_gfm, ix_gtab, ix_i2b, ix_i2c, ix_i2l, ix_i2s, ix_iadd, ix_iald, ix_iand, ix_iast, ix_icall, ix_icmp_eq, ix_icmp_ge, ix_icmp_gt, ix_icmp_le, ix_icmp_lt, ix_icmp_ne, ix_idiv, ix_if_eq, ix_if_ge, ix_if_gt, ix_if_le, ix_if_lt, ix_if_ne, ix_iinc, ix_iload, ix_imul, ix_ineg, ix_ior, ix_irem, ix_iret, ix_ishl, ix_ishr, ix_istore, ix_isub, ix_iushr, ix_ixor, ix_l2i, ix_ladd, ix_lald, ix_land, ix_last, ix_lcmp, ix_ldcS, ix_ldiv, ix_lload, ix_lmul, ix_lor, ix_lrem, ix_lret, ix_lshl, ix_lstore, ix_lsub, ix_lsw, ix_max, ix_min, ix_new, ix_newa, ix_nret, ix_oinit, ix_pop2L, ix_popI, ix_pushI, ix_pushL, ix_putI, ix_putJ, ix_putR, ix_putZ, ix_sbald, ix_sgetC, ix_sgetV, ix_slen, ix_strc, ix_tald, ix_tsw, ix_vcall, ix_vret, ix_zret, stL, stL2, kilL, popN, fq_sw, fq_lsw, List.map_cons, List.map_nil, List.getElem?_cons_zero, List.getElem?_cons_succ, Option.toList_some, Option.toList_none, List.cons_append, List.nil_append, List.length_cons, List.length_nil, List.sum_cons, List.sum_nil, cat_i, cat_l, cat_r, true_and, and_true, Nat.zero_add, Nat.add_zero, Nat.le_refl, Nat.zero_le, Nat.reduceAdd, Nat.reduceLeDiff, exists_eq_left', Option.some.injEq, not_true_eq_false, not_false_eq_true, false_implies, true_implies, implies_true, and_self, or_true, true_or, or_false, false_or]
          exact ⟨fun q => absurd q (by decide), fun _ => ⟨fun q => absurd q (by decide), fun _ => ⟨fun _ => r, fun q => absurd (by decide) q⟩⟩⟩
        · simp (disch := omega) only [B_X7_takeTrait_42, B_X7_takeTrait_56, sp_X2_setTrait, B_X2_setTrait_0, B_X2_setTrait_57, kp, nn, hs.k, hs.r0, hs.k1, hs.r1, hs.k2, hs.r2, hs.k3, hs.r3, hs.k4, hs.r4, hs.k12, hs.n1, hs.n2, hs.n3, hs.y0, hs.k5, hs.n5, hs.y1, hs.k6, hs.n6, hs.y2, hs.k7, hs.n7, hs.y3, hs.k8, hs.n8, hs.y4, hs.k9, hs.n9, hs.y5, hs.k10, hs.n10, hs.y6, hs.k11, hs.n11, hs.p0, hs.p1, hs.p2, hs.k13, hs.n13, hs.q0, hs.q1, hs.k14, hs.k15, hs.k16, hs.n16, hs.k17, hs.n17, hs.rH, hs.kH, hs.rP, hs.kP, hs.rQ, hs.kQ, nI_1, nI_add, nI_clamp, nI_pin, nI_neg, nI_nonneg, nI_leE, nI_ltE, nI_eqE, Nat.not_le, Nat.not_lt, fq_10, fq_01, fq_rr, ix_aald, ix_aast, ix_abs, ix_alen, ix_aload, ix_aret, ix_astore, ix_bald, ix_bast, ix_call, ix_cpyI, ix_cpyJ, ix_dead, ix_dup2, ix_dup2L, ix_dupI, ix_dupR, ix_dupx1, ix_getI, ix_getJ, ix_getR, ix_gfm, ix_gtab, ix_i2b, ix_i2c, ix_i2l, ix_i2s, ix_iadd, ix_iald, ix_iand, ix_iast, ix_icall, ix_icmp_eq, ix_icmp_ge, ix_icmp_gt, ix_icmp_le, ix_icmp_lt, ix_icmp_ne, ix_idiv, ix_if_eq, ix_if_ge, ix_if_gt, ix_if_le, ix_if_lt, ix_if_ne, ix_iinc, ix_iload, ix_imul, ix_ineg, ix_ior, ix_irem, ix_iret, ix_ishl, ix_ishr, ix_istore, ix_isub, ix_iushr, ix_ixor, ix_l2i, ix_ladd, ix_lald, ix_land, ix_last, ix_lcmp, ix_ldcS, ix_ldiv, ix_lload, ix_lmul, ix_lor, ix_lrem, ix_lret, ix_lshl, ix_lstore, ix_lsub, ix_lsw, ix_max, ix_min, ix_new, ix_newa, ix_nret, ix_oinit, ix_pop2L, ix_popI, ix_pushI, ix_pushL, ix_putI, ix_putJ, ix_putR, ix_putZ, ix_sbald, ix_sgetC, ix_sgetV, ix_slen, ix_strc, ix_tald, ix_tsw, ix_vcall, ix_vret, ix_zret, stL, stL2, kilL, popN, fq_sw, fq_lsw, List.map_cons, List.map_nil, List.getElem?_cons_zero, List.getElem?_cons_succ, Option.toList_some, Option.toList_none, List.cons_append, List.nil_append, List.length_cons, List.length_nil, List.sum_cons, List.sum_nil, cat_i, cat_l, cat_r, true_and, and_true, Nat.zero_add, Nat.add_zero, Nat.le_refl, Nat.zero_le, Nat.reduceAdd, Nat.reduceLeDiff, exists_eq_left', Option.some.injEq, not_true_eq_false, not_false_eq_true, false_implies, true_implies, implies_true, and_self, or_true, true_or, or_false, false_or]
          exact ⟨fun q => absurd q (by decide), fun _ => ⟨fun q => absurd q (by decide), fun _ => ⟨fun q => absurd q (by decide), fun _ => r⟩⟩⟩
  · exact h.elim
theorem dX7_takePerson_0 : decode cX7_takePerson 0 = .ok (.aload_n 0, 1) := by decide +kernel
theorem dX7_takePerson_1 : decode cX7_takePerson 1 = .ok (.getfield 15, 3) := by decide +kernel
theorem dX7_takePerson_4 : decode cX7_takePerson 4 = .ok (.getfield 109, 3) := by decide +kernel
theorem dX7_takePerson_7 : decode cX7_takePerson 7 = .ok (.bipush 8, 2) := by decide +kernel
theorem dX7_takePerson_9 : decode cX7_takePerson 9 = .ok (.if_icmp .lt 13, 3) := by decide +kernel
theorem dX7_takePerson_12 : decode cX7_takePerson 12 = .ok (.aload_n 0, 1) := by decide +kernel
theorem dX7_takePerson_13 : decode cX7_takePerson 13 = .ok (.getfield 9, 3) := by decide +kernel
theorem dX7_takePerson_16 : decode cX7_takePerson 16 = .ok (.bipush 6, 2) := by decide +kernel
theorem dX7_takePerson_18 : decode cX7_takePerson 18 = .ok (.invokevirtual 56, 3) := by decide +kernel
theorem dX7_takePerson_21 : decode cX7_takePerson 21 = .ok (.ireturn, 1) := by decide +kernel
theorem dX7_takePerson_22 : decode cX7_takePerson 22 = .ok (.aload_n 0, 1) := by decide +kernel
theorem dX7_takePerson_23 : decode cX7_takePerson 23 = .ok (.getfield 9, 3) := by decide +kernel
theorem dX7_takePerson_26 : decode cX7_takePerson 26 = .ok (.invokevirtual 67, 3) := by decide +kernel
theorem dX7_takePerson_29 : decode cX7_takePerson 29 = .ok (.aload_n 0, 1) := by decide +kernel
theorem dX7_takePerson_30 : decode cX7_takePerson 30 = .ok (.getfield 9, 3) := by decide +kernel
theorem dX7_takePerson_33 : decode cX7_takePerson 33 = .ok (.aload_n 0, 1) := by decide +kernel
theorem dX7_takePerson_34 : decode cX7_takePerson 34 = .ok (.getfield 15, 3) := by decide +kernel
theorem dX7_takePerson_37 : decode cX7_takePerson 37 = .ok (.invokevirtual 92, 3) := by decide +kernel
theorem dX7_takePerson_40 : decode cX7_takePerson 40 = .ok (.lstore_n 1, 1) := by decide +kernel
theorem dX7_takePerson_41 : decode cX7_takePerson 41 = .ok (.lload_n 1, 1) := by decide +kernel
theorem dX7_takePerson_42 : decode cX7_takePerson 42 = .ok (.lconst 0, 1) := by decide +kernel
theorem dX7_takePerson_43 : decode cX7_takePerson 43 = .ok (.lcmp, 1) := by decide +kernel
theorem dX7_takePerson_44 : decode cX7_takePerson 44 = .ok (.ifCond .eq 15, 3) := by decide +kernel
theorem dX7_takePerson_47 : decode cX7_takePerson 47 = .ok (.aload_n 0, 1) := by decide +kernel
theorem dX7_takePerson_48 : decode cX7_takePerson 48 = .ok (.getfield 9, 3) := by decide +kernel
theorem dX7_takePerson_51 : decode cX7_takePerson 51 = .ok (.bipush 6, 2) := by decide +kernel
theorem dX7_takePerson_53 : decode cX7_takePerson 53 = .ok (.invokevirtual 96, 3) := by decide +kernel
theorem dX7_takePerson_56 : decode cX7_takePerson 56 = .ok (.ifCond .ne 5, 3) := by decide +kernel
theorem dX7_takePerson_59 : decode cX7_takePerson 59 = .ok (.iconst 0, 1) := by decide +kernel
theorem dX7_takePerson_60 : decode cX7_takePerson 60 = .ok (.ireturn, 1) := by decide +kernel
theorem dX7_takePerson_61 : decode cX7_takePerson 61 = .ok (.aload_n 0, 1) := by decide +kernel
theorem dX7_takePerson_62 : decode cX7_takePerson 62 = .ok (.getfield 9, 3) := by decide +kernel
theorem dX7_takePerson_65 : decode cX7_takePerson 65 = .ok (.aload_n 0, 1) := by decide +kernel
theorem dX7_takePerson_66 : decode cX7_takePerson 66 = .ok (.getfield 15, 3) := by decide +kernel
theorem dX7_takePerson_69 : decode cX7_takePerson 69 = .ok (.invokevirtual 112, 3) := by decide +kernel
theorem dX7_takePerson_72 : decode cX7_takePerson 72 = .ok (.istore_n 3, 1) := by decide +kernel
theorem dX7_takePerson_73 : decode cX7_takePerson 73 = .ok (.iload_n 3, 1) := by decide +kernel
theorem dX7_takePerson_74 : decode cX7_takePerson 74 = .ok (.iconst (-1), 1) := by decide +kernel
theorem dX7_takePerson_75 : decode cX7_takePerson 75 = .ok (.if_icmp .ne 5, 3) := by decide +kernel
theorem dX7_takePerson_78 : decode cX7_takePerson 78 = .ok (.iconst 0, 1) := by decide +kernel
theorem dX7_takePerson_79 : decode cX7_takePerson 79 = .ok (.ireturn, 1) := by decide +kernel
theorem dX7_takePerson_80 : decode cX7_takePerson 80 = .ok (.aload_n 0, 1) := by decide +kernel
theorem dX7_takePerson_81 : decode cX7_takePerson 81 = .ok (.getfield 15, 3) := by decide +kernel
theorem dX7_takePerson_84 : decode cX7_takePerson 84 = .ok (.getfield 115, 3) := by decide +kernel
theorem dX7_takePerson_87 : decode cX7_takePerson 87 = .ok (.aload_n 0, 1) := by decide +kernel
theorem dX7_takePerson_88 : decode cX7_takePerson 88 = .ok (.getfield 15, 3) := by decide +kernel
theorem dX7_takePerson_91 : decode cX7_takePerson 91 = .ok (.getfield 109, 3) := by decide +kernel
theorem dX7_takePerson_94 : decode cX7_takePerson 94 = .ok (.aaload, 1) := by decide +kernel
theorem dX7_takePerson_95 : decode cX7_takePerson 95 = .ok (.astore 4, 2) := by decide +kernel
theorem dX7_takePerson_97 : decode cX7_takePerson 97 = .ok (.aload 4, 2) := by decide +kernel
theorem dX7_takePerson_99 : decode cX7_takePerson 99 = .ok (.lload_n 1, 1) := by decide +kernel
theorem dX7_takePerson_100 : decode cX7_takePerson 100 = .ok (.iload_n 3, 1) := by decide +kernel
theorem dX7_takePerson_101 : decode cX7_takePerson 101 = .ok (.invokevirtual 119, 3) := by decide +kernel
theorem dX7_takePerson_104 : decode cX7_takePerson 104 = .ok (.aload_n 0, 1) := by decide +kernel
theorem dX7_takePerson_105 : decode cX7_takePerson 105 = .ok (.getfield 15, 3) := by decide +kernel
theorem dX7_takePerson_108 : decode cX7_takePerson 108 = .ok (.dup, 1) := by decide +kernel
theorem dX7_takePerson_109 : decode cX7_takePerson 109 = .ok (.getfield 109, 3) := by decide +kernel
theorem dX7_takePerson_112 : decode cX7_takePerson 112 = .ok (.iconst 1, 1) := by decide +kernel
theorem dX7_takePerson_113 : decode cX7_takePerson 113 = .ok (.iadd, 1) := by decide +kernel
theorem dX7_takePerson_114 : decode cX7_takePerson 114 = .ok (.putfield 109, 3) := by decide +kernel
theorem dX7_takePerson_117 : decode cX7_takePerson 117 = .ok (.iconst 1, 1) := by decide +kernel
theorem dX7_takePerson_118 : decode cX7_takePerson 118 = .ok (.istore 5, 2) := by decide +kernel
theorem dX7_takePerson_120 : decode cX7_takePerson 120 = .ok (.iload 5, 2) := by decide +kernel
theorem dX7_takePerson_122 : decode cX7_takePerson 122 = .ok (.iconst 4, 1) := by decide +kernel
theorem dX7_takePerson_123 : decode cX7_takePerson 123 = .ok (.if_icmp .gt 22, 3) := by decide +kernel
theorem dX7_takePerson_126 : decode cX7_takePerson 126 = .ok (.aload_n 0, 1) := by decide +kernel
theorem dX7_takePerson_127 : decode cX7_takePerson 127 = .ok (.aload 4, 2) := by decide +kernel
theorem dX7_takePerson_129 : decode cX7_takePerson 129 = .ok (.iload 5, 2) := by decide +kernel
theorem dX7_takePerson_131 : decode cX7_takePerson 131 = .ok (.invokevirtual 124, 3) := by decide +kernel
theorem dX7_takePerson_134 : decode cX7_takePerson 134 = .ok (.ifCond .ne 5, 3) := by decide +kernel
theorem dX7_takePerson_137 : decode cX7_takePerson 137 = .ok (.iconst 0, 1) := by decide +kernel
theorem dX7_takePerson_138 : decode cX7_takePerson 138 = .ok (.ireturn, 1) := by decide +kernel
theorem dX7_takePerson_139 : decode cX7_takePerson 139 = .ok (.iinc 5 1, 3) := by decide +kernel
theorem dX7_takePerson_142 : decode cX7_takePerson 142 = .ok (.goto (-22), 3) := by decide +kernel
theorem dX7_takePerson_145 : decode cX7_takePerson 145 = .ok (.iconst 1, 1) := by decide +kernel
theorem dX7_takePerson_146 : decode cX7_takePerson 146 = .ok (.ireturn, 1) := by decide +kernel
abbrev M_X7_takePerson : MT := (yX7_takePerson, cX7_takePerson, 6, (some .boolean))
theorem cf_X7_takePerson : fq_cf M_X7_takePerson 0 := ⟨(mg_1 (List.mem_of_getElem? (i := 17) rfl) rfl), (mg_4 (List.mem_of_getElem? (i := 26) rfl) rfl), ⟨by decide, by decide, by decide +kernel⟩, by decide⟩
def B_X7_takePerson_134 (l : Launch) (G : GT) (D mc ms : Nat) (Q : Post) : Cn := ix_if_ne (ix_iinc 5 1 (fqAt l G M_X7_takePerson (D + 5) mc ms Q 120)) (ix_pushI 0 (ix_zret mc ms Q))
theorem b_X7_takePerson_134 {l : Launch} {G : GT} {D mc ms : Nat} {Q : Post} : Imp l G M_X7_takePerson (D + 5) mc ms Q (B_X7_takePerson_134 l G D mc ms Q) 134 := sx_if_ne 139 dX7_takePerson_134 (by decide) (sx_iinc dX7_takePerson_139 rfl (by decide) (sx_goto 120 dX7_takePerson_142 (by decide) ((fun _ _ _ _ _ _ _ _ h => h)))) (sx_iconst dX7_takePerson_137 rfl (sx_zret dX7_takePerson_138 rfl))
def B_X7_takePerson_120 (l : Launch) (G : GT) (D mc ms : Nat) (Q : Post) : Cn := ix_iload 5 (ix_pushI 4 (ix_icmp_gt (ix_pushI 1 (ix_zret mc ms Q)) (ix_aload 0 (ix_aload 4 (ix_iload 5 (ix_vcall 7 3 0 0 mc ms (sp_X7_takeTrait G) ((B_X7_takePerson_134 l G D mc ms Q))))))))
theorem b_X7_takePerson_120 {l : Launch} {G : GT} {D mc ms : Nat} {Q : Post} : Imp l G M_X7_takePerson (D + 5) mc ms Q (B_X7_takePerson_120 l G D mc ms Q) 120 := sx_iload dX7_takePerson_120 (sx_iconst dX7_takePerson_122 rfl (sx_icmp_gt 145 dX7_takePerson_123 (by decide) (sx_iconst dX7_takePerson_145 rfl (sx_zret dX7_takePerson_146 rfl)) (sx_aload_n dX7_takePerson_126 rfl (sx_aload dX7_takePerson_127 (sx_iload dX7_takePerson_129 (sx_vcall dX7_takePerson_131 cf_X7_takeTrait (mg_4 (List.mem_of_getElem? (i := 43) rfl) rfl) (mg_4 (List.mem_of_getElem? (i := 45) rfl) rfl) (mg_p (List.mem_of_getElem? (i := 14) rfl) rfl) rfl c_X7_takeTrait (b_X7_takePerson_134)))))))
def B_X7_takePerson_104 (l : Launch) (G : GT) (D mc ms : Nat) (Q : Post) : Cn := ix_aload 0 (ix_getR 7 1 (ix_dupR (ix_getI 6 6 (ix_pushI 1 (ix_iadd (ix_putI 6 6 (ix_pushI 1 (ix_istore 5 (fqAt l G M_X7_takePerson (D + 5) mc ms Q 120)))))))))
theorem b_X7_takePerson_104 {l : Launch} {G : GT} {D mc ms : Nat} {Q : Post} : Imp l G M_X7_takePerson (D + 5) mc ms Q (B_X7_takePerson_104 l G D mc ms Q) 104 := sx_aload_n dX7_takePerson_104 rfl (sx_getR dX7_takePerson_105 fl_FootQuarrel_StreetText_15 (fun _ _ _ => rfl) (sx_dupR dX7_takePerson_108 (sx_getI dX7_takePerson_109 fl_FootQuarrel_StreetText_109 (fun _ _ _ => rfl) (sx_iconst dX7_takePerson_112 rfl (sx_iadd dX7_takePerson_113 (sx_putI dX7_takePerson_114 fl_FootQuarrel_StreetText_109 (by decide) (fun _ _ _ => rfl) (fun _ => ⟨rfl, rfl⟩) (sx_iconst dX7_takePerson_117 rfl (sx_istore dX7_takePerson_118 (by decide) ((fun _ _ _ _ _ _ _ _ h => h))))))))))
def B_X7_takePerson_72 (l : Launch) (G : GT) (D mc ms : Nat) (Q : Post) : Cn := ix_istore 3 (ix_iload 3 (ix_pushI (-1) (ix_icmp_ne (ix_aload 0 (ix_getR 7 1 (ix_getR 6 1 (ix_aload 0 (ix_getR 7 1 (ix_getI 6 6 (ix_aald 17 (ix_astore 4 (ix_aload 4 (ix_lload 1 (ix_iload 3 (ix_vcall 2 3 0 0 mc ms (sp_X2_settle G) ((B_X7_takePerson_104 l G D mc ms Q)))))))))))))) (ix_pushI 0 (ix_zret mc ms Q)))))
theorem b_X7_takePerson_72 {l : Launch} {G : GT} {D mc ms : Nat} {Q : Post} : Imp l G M_X7_takePerson (D + 5) mc ms Q (B_X7_takePerson_72 l G D mc ms Q) 72 := sx_istore_n dX7_takePerson_72 rfl (by decide) (sx_iload_n dX7_takePerson_73 rfl (sx_iconst dX7_takePerson_74 rfl (sx_icmp_ne 80 dX7_takePerson_75 (by decide) (sx_aload_n dX7_takePerson_80 rfl (sx_getR dX7_takePerson_81 fl_FootQuarrel_StreetText_15 (fun _ _ _ => rfl) (sx_getR dX7_takePerson_84 fl_FootQuarrel_StreetText_115 (fun _ _ _ => rfl) (sx_aload_n dX7_takePerson_87 rfl (sx_getR dX7_takePerson_88 fl_FootQuarrel_StreetText_15 (fun _ _ _ => rfl) (sx_getI dX7_takePerson_91 fl_FootQuarrel_StreetText_109 (fun _ _ _ => rfl) (sx_aald dX7_takePerson_94 (by decide) (by decide) rfl (sx_astore dX7_takePerson_95 (by decide) (sx_aload dX7_takePerson_97 (sx_lload_n dX7_takePerson_99 rfl (sx_iload_n dX7_takePerson_100 rfl (sx_vcall dX7_takePerson_101 cf_X2_settle (mg_4 (List.mem_of_getElem? (i := 39) rfl) rfl) (mg_4 (List.mem_of_getElem? (i := 40) rfl) rfl) (mg_4 (List.mem_of_getElem? (i := 41) rfl) rfl) rfl c_X2_settle (b_X7_takePerson_104))))))))))))) (sx_iconst dX7_takePerson_78 rfl (sx_zret dX7_takePerson_79 rfl)))))
def B_X7_takePerson_59 (l : Launch) (G : GT) (D mc ms : Nat) (Q : Post) : Cn := ix_pushI 0 (ix_zret mc ms Q)
theorem b_X7_takePerson_59 {l : Launch} {G : GT} {D mc ms : Nat} {Q : Post} : Imp l G M_X7_takePerson (D + 5) mc ms Q (B_X7_takePerson_59 l G D mc ms Q) 59 := sx_iconst dX7_takePerson_59 rfl (sx_zret dX7_takePerson_60 rfl)
def B_X7_takePerson_56 (l : Launch) (G : GT) (D mc ms : Nat) (Q : Post) : Cn := ix_if_ne (ix_aload 0 (ix_getR 7 0 (ix_aload 0 (ix_getR 7 1 (ix_vcall 4 2 0 0 mc ms (sp_X4_takeHouse G) ((B_X7_takePerson_72 l G D mc ms Q))))))) ((B_X7_takePerson_59 l G D mc ms Q))
theorem b_X7_takePerson_56 {l : Launch} {G : GT} {D mc ms : Nat} {Q : Post} : Imp l G M_X7_takePerson (D + 5) mc ms Q (B_X7_takePerson_56 l G D mc ms Q) 56 := sx_if_ne 61 dX7_takePerson_56 (by decide) (sx_aload_n dX7_takePerson_61 rfl (sx_getR dX7_takePerson_62 fl_FootQuarrel_StreetText_9 (fun _ _ _ => rfl) (sx_aload_n dX7_takePerson_65 rfl (sx_getR dX7_takePerson_66 fl_FootQuarrel_StreetText_15 (fun _ _ _ => rfl) (sx_vcall dX7_takePerson_69 cf_X4_takeHouse (mg_4 (List.mem_of_getElem? (i := 27) rfl) rfl) (mg_4 (List.mem_of_getElem? (i := 28) rfl) rfl) (mg_4 (List.mem_of_getElem? (i := 29) rfl) rfl) rfl c_X4_takeHouse (b_X7_takePerson_72)))))) (b_X7_takePerson_59)
def B_X7_takePerson_40 (l : Launch) (G : GT) (D mc ms : Nat) (Q : Post) : Cn := ix_lstore 1 (ix_lload 1 (ix_pushL 0 (ix_lcmp (ix_if_eq ((B_X7_takePerson_59 l G D mc ms Q)) (ix_aload 0 (ix_getR 7 0 (ix_pushI 6 (ix_vcall 4 2 0 0 mc ms (sp_X4_takeWord G) ((B_X7_takePerson_56 l G D mc ms Q))))))))))
theorem b_X7_takePerson_40 {l : Launch} {G : GT} {D mc ms : Nat} {Q : Post} : Imp l G M_X7_takePerson (D + 5) mc ms Q (B_X7_takePerson_40 l G D mc ms Q) 40 := sx_lstore_n dX7_takePerson_40 rfl (by decide) (sx_lload_n dX7_takePerson_41 rfl (sx_lconst dX7_takePerson_42 rfl (sx_lcmp dX7_takePerson_43 (sx_if_eq 59 dX7_takePerson_44 (by decide) (b_X7_takePerson_59) (sx_aload_n dX7_takePerson_47 rfl (sx_getR dX7_takePerson_48 fl_FootQuarrel_StreetText_9 (fun _ _ _ => rfl) (sx_bipush dX7_takePerson_51 rfl (sx_vcall dX7_takePerson_53 cf_X4_takeWord (mg_4 (List.mem_of_getElem? (i := 15) rfl) rfl) (mg_4 (List.mem_of_getElem? (i := 16) rfl) rfl) (mg_4 (List.mem_of_getElem? (i := 17) rfl) rfl) rfl c_X4_takeWord (b_X7_takePerson_56)))))))))
def B_X7_takePerson_29 (l : Launch) (G : GT) (D mc ms : Nat) (Q : Post) : Cn := ix_aload 0 (ix_getR 7 0 (ix_aload 0 (ix_getR 7 1 (ix_vcall 4 2 0 0 mc ms (sp_X4_takeNewName G) ((B_X7_takePerson_40 l G D mc ms Q))))))
theorem b_X7_takePerson_29 {l : Launch} {G : GT} {D mc ms : Nat} {Q : Post} : Imp l G M_X7_takePerson (D + 5) mc ms Q (B_X7_takePerson_29 l G D mc ms Q) 29 := sx_aload_n dX7_takePerson_29 rfl (sx_getR dX7_takePerson_30 fl_FootQuarrel_StreetText_9 (fun _ _ _ => rfl) (sx_aload_n dX7_takePerson_33 rfl (sx_getR dX7_takePerson_34 fl_FootQuarrel_StreetText_15 (fun _ _ _ => rfl) (sx_vcall dX7_takePerson_37 cf_X4_takeNewName (mg_3 (List.mem_of_getElem? (i := 239) rfl) rfl) (mg_4 (List.mem_of_getElem? (i := 0) rfl) rfl) (mg_4 (List.mem_of_getElem? (i := 1) rfl) rfl) rfl c_X4_takeNewName (b_X7_takePerson_40)))))
def B_X7_takePerson_21 (l : Launch) (G : GT) (D mc ms : Nat) (Q : Post) : Cn := ix_zret mc ms Q
theorem b_X7_takePerson_21 {l : Launch} {G : GT} {D mc ms : Nat} {Q : Post} : Imp l G M_X7_takePerson (D + 5) mc ms Q (B_X7_takePerson_21 l G D mc ms Q) 21 := sx_zret dX7_takePerson_21 rfl
def B_X7_takePerson_0 (l : Launch) (G : GT) (D mc ms : Nat) (Q : Post) : Cn := ix_aload 0 (ix_getR 7 1 (ix_getI 6 6 (ix_pushI 8 (ix_icmp_lt (ix_aload 0 (ix_getR 7 0 (ix_vcall 4 1 0 0 mc ms (sp_X4_advance G) ((B_X7_takePerson_29 l G D mc ms Q))))) (ix_aload 0 (ix_getR 7 0 (ix_pushI 6 (ix_vcall 4 2 0 0 mc ms (sp_X4_reject G) ((B_X7_takePerson_21 l G D mc ms Q))))))))))
theorem b_X7_takePerson_0 {l : Launch} {G : GT} {D mc ms : Nat} {Q : Post} : Imp l G M_X7_takePerson (D + 5) mc ms Q (B_X7_takePerson_0 l G D mc ms Q) 0 := sx_aload_n dX7_takePerson_0 rfl (sx_getR dX7_takePerson_1 fl_FootQuarrel_StreetText_15 (fun _ _ _ => rfl) (sx_getI dX7_takePerson_4 fl_FootQuarrel_StreetText_109 (fun _ _ _ => rfl) (sx_bipush dX7_takePerson_7 rfl (sx_icmp_lt 22 dX7_takePerson_9 (by decide) (sx_aload_n dX7_takePerson_22 rfl (sx_getR dX7_takePerson_23 fl_FootQuarrel_StreetText_9 (fun _ _ _ => rfl) (sx_vcall dX7_takePerson_26 cf_X4_advance (mg_3 (List.mem_of_getElem? (i := 220) rfl) rfl) (mg_3 (List.mem_of_getElem? (i := 182) rfl) rfl) (mg_3 (List.mem_of_getElem? (i := 183) rfl) rfl) rfl c_X4_advance (b_X7_takePerson_29)))) (sx_aload_n dX7_takePerson_12 rfl (sx_getR dX7_takePerson_13 fl_FootQuarrel_StreetText_9 (fun _ _ _ => rfl) (sx_bipush dX7_takePerson_16 rfl (sx_vcall dX7_takePerson_18 cf_X4_reject (mg_3 (List.mem_of_getElem? (i := 216) rfl) rfl) (mg_3 (List.mem_of_getElem? (i := 217) rfl) rfl) (mg_3 (List.mem_of_getElem? (i := 218) rfl) rfl) rfl c_X4_reject (b_X7_takePerson_21)))))))))
def sp_X7_takePerson (G : GT) : Sp := fun as S I J z Q => match as with
  | [.ref a] => ∃ (X s t : Nat) (T : Nat → Int32) (n : Nat) (σ : PSt), t = a ∧ txS S X s t ∧ rdE S I J X T n ∧ stH X s I J T n σ ∧ ¬ tK T n σ.2.2 = 1 ∧ CES X s t I J T n (pPn T n σ) (fun I' J' => Q (some (.int 1)) S I' J' z) (fun I' J' => Q (some (.int 0)) S I' J' z)
  | _ => False
/-- a person's traits, one behind the other -/
def trG (T : Nat → Int32) (n r : Nat) : Nat → Nat → PSt → PR
  | 0, _, σ => .inr (uA σ.1 2377 (σ.1 2377 + 1), σ.2.1, σ.2.2)
  | f + 1, i, σ => pB (pOp T n (nI (8 + i)) (r + 1 + i) (trL i) (trH i) σ) (trG T n r f (i + 1))
/-- within a person's text -/
def pvH (X s c n e : Nat) (I0 I : IH) (J0 J : JH) (T A A' : Nat → Int32) : Prop := rdH (X + 11) I J T n e ∧ e ≤ n ∧ (∀ a, a ≠ X + 11 → a ≠ s → a ≠ s + 24 + c → I a = I0 a) ∧ (∀ k, k ≠ 3 → k ≠ 4 → k ≠ 5 → k ≠ 7 → k ≠ 8 → k ≠ 9 → I (X + 11) k = I0 (X + 11) k) ∧ (∀ k, k ≠ 6 → I s k = I0 s k) ∧ I s 6 = nI (c + 1) ∧ (∀ j, j < 5 → I (s + 24 + c) (j + 1) = A' (2406 + 7 * c + j)) ∧ I (s + 24 + c) 6 = 0 ∧ I (s + 24 + c) 7 = 0 ∧ (∀ a, a ≠ X + 11 → a ≠ s + 24 + c → J a = J0 a) ∧ ∀ k, ¬ (2406 + 7 * c ≤ k ∧ k < 2406 + 7 * c + 5) → A' k = A k
theorem pvH.rd {X s c n e e' : Nat} {I0 I I' : IH} {J0 J J' : JH} {T A A' : Nat → Int32} (h : pvH X s c n e I0 I J0 J T A A') (hs : X + 13 ≤ s) (hF : rdF (X + 11) I I' J J') (hH : rdH (X + 11) I' J' T n e') (he : e' ≤ n) : pvH X s c n e' I0 I' J0 J' T A A' := by
  obtain ⟨h1, h2, h3, h4, h5, h6, h7, h8, h9, h10, h11⟩ := h
  exact ⟨hH, he, fun a x y w => (hF.1 a x).trans (h3 a x y w), fun k a b c d e f => (hF.2.1 k a b c d e f).trans (h4 k a b c d e f), fun k hk => by rw [hF.1 _ (by omega)]; exact h5 k hk, by rw [hF.1 _ (by omega)]; exact h6, fun j hj => by rw [hF.1 _ (by omega)]; exact h7 j hj, by rw [hF.1 _ (by omega)]; exact h8, by rw [hF.1 _ (by omega)]; exact h9, fun a x y => (hF.2.2 a x).trans (h10 a x y), h11⟩
theorem pvH.tr {X s c n e i : Nat} {I0 I : IH} {J0 J : JH} {T A A' : Nat → Int32} {v : Int32} (h : pvH X s c n e I0 I J0 J T A A') (hs : X + 13 ≤ s) (hi : i < 4) : pvH X s c n e I0 (u2 I (s + 24 + c) (i + 2) v) J0 J T A (uA A' (2406 + 7 * c + 1 + i) v) := by
  obtain ⟨h1, h2, h3, h4, h5, h6, h7, h8, h9, h10, h11⟩ := h
  refine ⟨h1.fr (u2_ne (by omega)) rfl, h2, fun a x y w => (u2_ne w).trans (h3 a x y w), fun k a b c d e f => by rw [u2_ne (by omega)]; exact h4 k a b c d e f, fun k hk => by rw [u2_ne (by omega)]; exact h5 k hk, by rw [u2_ne (by omega)]; exact h6, fun j hj => ?_, by rw [u2_ck _ _ _ _ _ _ (by omega)]; exact h8, by rw [u2_ck _ _ _ _ _ _ (by omega)]; exact h9, h10, fun k hk => by rw [uA_n _ _ _ _ (by omega)]; exact h11 k hk⟩
  by_cases q : j = i + 1
  · subst q
    rw [u2_same, show 2406 + 7 * c + (i + 1) = 2406 + 7 * c + 1 + i by omega, uA_e]
  · rw [u2_ck _ _ _ _ _ _ (by omega), uA_n _ _ _ _ (by omega)]
    exact h7 j hj
theorem pvH.end {X s c n e e0 : Nat} {I0 I : IH} {J0 J : JH} {T A A' : Nat → Int32} {N N' : Nat → Int64} {w : Int64} (h : pvH X s c n e I0 I J0 J T A A') (hs : X + 13 ≤ s) (G0 : stH X s I0 J0 T n (A, N, e0)) (hc : A 2377 = nI c) (c8 : c < 8) (j1 : nmP (J (s + 24 + c) 0) w) (n1 : N' (62 + c) = w) (nk : ∀ k, k ≠ 62 + c → N' k = N k) : stH X s I J T n (uA A' 2377 (A' 2377 + 1), N', e) := by
  obtain ⟨h1, h2, h3, h4, h5, h6, h7, h8, h9, h10, h11⟩ := h
  have G1 : stH X s (up1 I0 (X + 11) (I (X + 11))) (up1 J0 (X + 11) (J (X + 11))) T n (A, N, e) := G0.rd hs ⟨fun a x => up1_o _ _ _ _ x, fun k a b c d e f => by rw [up1_at]; exact h4 k a b c d e f, fun a x => up1_o _ _ _ _ x⟩ (h1.fr (up1_at _ _ _) (up1_at _ _ _)) h2
  have e7 : A' 2377 = nI c := (h11 _ (by omega)).trans hc
  refine G1.person hc c8 hs (fun a x y => ?_) h6 (fun k hk => ?_) (fun j hj => ?_) h8 h9 (fun a x => ?_) j1 ?_ (fun k x y => ?_) n1 nk
  · by_cases q : a = X + 11
    · rw [q, up1_at]
    · rw [up1_o _ _ _ _ q]
      exact h3 a q x y
  · rw [up1_o _ _ _ _ (by omega)]
    exact h5 k hk
  · rw [uA_n _ _ _ _ (by omega)]
    exact h7 j hj
  · by_cases q : a = X + 11
    · rw [q, up1_at]
    · rw [up1_o _ _ _ _ q]
      exact h10 a q x
  · rw [uA_e, e7]
    exact nI_add c 1
  · rw [uA_n _ _ _ _ x]
    exact h11 k y
set_option maxHeartbeats 4000000 in
set_option maxRecDepth 20000 in
theorem c_X7_takePerson {l : Launch} {G : GT} {D : Nat} : ∀ as S I J z Q, sp_X7_takePerson G as S I J z Q → fqCall l G M_X7_takePerson (D + 5) 0 0 as S I J z Q := by
  intro as S I J z Q h
  unfold sp_X7_takePerson at h
  split at h
  · next a =>
    obtain ⟨X, s, t, T, n, ⟨A, N, e⟩, rfl, hx, hE, hH, hk, hR⟩ := h
    have hx0 := hx
    obtain ⟨x1, x2, x3, hs, l1, l2, l3⟩ := hx
    have s1 := hE.1.1
    obtain ⟨c, hc8, hc, hcc⟩ := hH.c.2.1.ex
    obtain ⟨d, hd6, hd, hdd⟩ := hH.c.1.ex
    dsimp only at hc hcc hd hdd hR hk
    have i6 : I s 6 = nI c := hH.c.2.2.2.trans hc
    have e1 := (tFE hH.2.1 (T := T)).2.2.2
    dsimp only at e1
    have e2 := (tFE e1 (T := T)).2.2.2
    have e3 := (tFE e2 (T := T)).2.2.2
    have e4 := (tFE e3 (T := T)).2.2.2
    have hP : pPn T n (A, N, e) = pB (pNw T n 1 6 8 (A, N, e)) (fun s1 => pB (pWd T n 7 s1) (fun s2 => pB (pFd T n 56 (s2.1 2376).toNatClampNeg (2406 + 7 * c) s2) (fun s3 => trG T n (2406 + 7 * c) 4 0 (uA (uA (uA s3.1 (2406 + 7 * c + 1) 10) (2406 + 7 * c + 2) 5) (2406 + 7 * c + 3) 5, s3.2.1, s3.2.2)))) := by
      unfold pPn
      dsimp only
      rw [hcc]
      rfl
    rw [hP] at hR
    unfold pNw pWd pFd at hR
    dsimp only at hR
    rw [show 2376 + 1 = 2377 from rfl, hcc, hdd] at hR
    refine fq_enter [some (.ref t), none, none, none, none, none] (by decide +kernel) (Nat.le_of_ble_eq_true rfl) rfl (b_X7_takePerson_0 _ _ _ _ _ _ _ _ ?_)
    simp (disch := omega) only [B_X7_takePerson_0, x1, x2, x3, s1, hs.k, hs.r0, hs.k1, hs.r1, hs.k2, hs.r2, hs.k3, hs.r3, hs.k4, hs.r4, hs.k12, hs.n1, hs.n2, hs.n3, hs.y0, hs.k5, hs.n5, hs.y1, hs.k6, hs.n6, hs.y2, hs.k7, hs.n7, hs.y3, hs.k8, hs.n8, hs.y4, hs.k9, hs.n9, hs.y5, hs.k10, hs.n10, hs.y6, hs.k11, hs.n11, hs.p0, hs.p1, hs.p2, hs.k13, hs.n13, hs.q0, hs.q1, hs.k14, hs.k15, hs.k16, hs.n16, hs.k17, hs.n17, hs.rH, hs.kH, hs.rP, hs.kP, hs.rQ, hs.kQ, i6, nI_1, nI_add, nI_clamp, nI_pin, nI_neg, nI_nonneg, nI_leE, nI_ltE, nI_eqE, Nat.not_le, Nat.not_lt, fq_10, fq_01, fq_rr, ix_aald, ix_aast, ix_abs, ix_alen, ix_aload, ix_aret, ix_astore, ix_bald, ix_bast, ix_call, ix_cpyI, ix_cpyJ, ix_dead, ix_dup2, ix_dup2L, ix_dupI, ix_dupR, ix_dupx1, ix_getI, ix_getJ, ix_getR, ix_gfm, ix_gtab, ix_i2b, ix_i2c, ix_i2l, ix_i2s, ix_iadd, ix_iald, ix_iand, ix_iast, ix_icall, ix_icmp_eq, ix_icmp_ge, ix_icmp_gt, ix_icmp_le, ix_icmp_lt, ix_icmp_ne, ix_idiv, ix_if_eq, ix_if_ge, ix_if_gt, ix_if_le, ix_if_lt, ix_if_ne, ix_iinc, ix_iload, ix_imul, ix_ineg, ix_ior, ix_irem, ix_iret, ix_ishl, ix_ishr, ix_istore, ix_isub, ix_iushr, ix_ixor, ix_l2i, ix_ladd, ix_lald, ix_land, ix_last, ix_lcmp, ix_ldcS, ix_ldiv, ix_lload, ix_lmul, ix_lor, ix_lrem, ix_lret, ix_lshl, ix_lstore, ix_lsub, ix_lsw, ix_max, ix_min, ix_new, ix_newa, ix_nret, ix_oinit, ix_pop2L, ix_popI, ix_pushI, ix_pushL, ix_putI, ix_putJ, ix_putR, ix_putZ, ix_sbald, ix_sgetC, ix_sgetV, ix_slen, ix_strc, ix_tald, ix_tsw, ix_vcall, ix_vret, ix_zret, stL, stL2, kilL, popN, fq_sw, fq_lsw, List.map_cons, List.map_nil, List.getElem?_cons_zero, List.getElem?_cons_succ, Option.toList_some, Option.toList_none, List.cons_append, List.nil_append, List.length_cons, List.length_nil, List.sum_cons, List.sum_nil, cat_i, cat_l, cat_r, true_and, and_true, Nat.zero_add, Nat.add_zero, Nat.le_refl, Nat.zero_le, Nat.reduceAdd, Nat.reduceLeDiff, exists_eq_left', Option.some.injEq, not_true_eq_false, not_false_eq_true, false_implies, true_implies, implies_true, and_self, or_true, true_or, or_false, false_or]
    by_cases q8 : c = 8
    · subst q8
      rw [if_pos (show A 2377 = 8 from hc)] at hR
      refine ⟨fun r => absurd r (by decide), fun _ => rej_R (hH.q hE) ?_⟩
      simp (disch := omega) only [B_X7_takePerson_21, nI_1, nI_add, nI_clamp, nI_pin, nI_neg, nI_nonneg, nI_leE, nI_ltE, nI_eqE, Nat.not_le, Nat.not_lt, fq_10, fq_01, fq_rr, ix_aald, ix_aast, ix_abs, ix_alen, ix_aload, ix_aret, ix_astore, ix_bald, ix_bast, ix_call, ix_cpyI, ix_cpyJ, ix_dead, ix_dup2, ix_dup2L, ix_dupI, ix_dupR, ix_dupx1, ix_getI, ix_getJ, ix_getR, ix_gfm, ix_gtab, ix_i2b, ix_i2c, ix_i2l, ix_i2s, ix_iadd, ix_iald, ix_iand, ix_iast, ix_icall, ix_icmp_eq, ix_icmp_ge, ix_icmp_gt, ix_icmp_le, ix_icmp_lt, ix_icmp_ne, ix_idiv, ix_if_eq, ix_if_ge, ix_if_gt, ix_if_le, ix_if_lt, ix_if_ne, ix_iinc, ix_iload, ix_imul, ix_ineg, ix_ior, ix_irem, ix_iret, ix_ishl, ix_ishr, ix_istore, ix_isub, ix_iushr, ix_ixor, ix_l2i, ix_ladd, ix_lald, ix_land, ix_last, ix_lcmp, ix_ldcS, ix_ldiv, ix_lload, ix_lmul, ix_lor, ix_lrem, ix_lret, ix_lshl, ix_lstore, ix_lsub, ix_lsw, ix_max, ix_min, ix_new, ix_newa, ix_nret, ix_oinit, ix_pop2L, ix_popI, ix_pushI, ix_pushL, ix_putI, ix_putJ, ix_putR, ix_putZ, ix_sbald, ix_sgetC, ix_sgetV, ix_slen, ix_strc, ix_tald, ix_tsw, ix_vcall, ix_vret, ix_zret, stL, stL2, kilL, popN, fq_sw, fq_lsw, List.map_cons, List.map_nil, List.getElem?_cons_zero, List.getElem?_cons_succ, Option.toList_some, Option.toList_none, List.cons_append, List.nil_append, List.length_cons, List.length_nil, List.sum_cons, List.sum_nil, cat_i, cat_l, cat_r, true_and, and_true, Nat.zero_add, Nat.add_zero, Nat.le_refl, Nat.zero_le, Nat.reduceAdd, Nat.reduceLeDiff, exists_eq_left', Option.some.injEq, not_true_eq_false, not_false_eq_true, false_implies, true_implies, implies_true, and_self, or_true, true_or, or_false, false_or]
      exact CES.fl hR
    · have lt8 : nI c < 8 := (nI_ltI (a := c) (b := 8) (by omega) (by omega)).mpr (by omega)
      have ne8 : ¬ A 2377 = 8 := by
        rw [hc]
        intro r
        have := (nI_eqE (a := c) (b := 8) (by omega) (by omega)).mp r
        omega
      rw [if_neg ne8] at hR
      refine ⟨fun _ => adv_R (hH.q hE) hk (fun I1 J1 hF1 hH1 => ?_), fun r => absurd lt8 r⟩
      have G1 : stH X s I1 J1 T n (A, N, tE T n e) := hH.rd l1 hF1 hH1 e1
      have F1 : csF X s t I I1 J J1 := csF.rd hF1
      have t1 : I1 t = I t := hF1.1 t (by omega)
      simp (disch := omega) only [B_X7_takePerson_29, x1, x2, x3, s1, hs.k, hs.r0, hs.k1, hs.r1, hs.k2, hs.r2, hs.k3, hs.r3, hs.k4, hs.r4, hs.k12, hs.n1, hs.n2, hs.n3, hs.y0, hs.k5, hs.n5, hs.y1, hs.k6, hs.n6, hs.y2, hs.k7, hs.n7, hs.y3, hs.k8, hs.n8, hs.y4, hs.k9, hs.n9, hs.y5, hs.k10, hs.n10, hs.y6, hs.k11, hs.n11, hs.p0, hs.p1, hs.p2, hs.k13, hs.n13, hs.q0, hs.q1, hs.k14, hs.k15, hs.k16, hs.n16, hs.k17, hs.n17, hs.rH, hs.kH, hs.rP, hs.kP, hs.rQ, hs.kQ, nI_1, nI_add, nI_clamp, nI_pin, nI_neg, nI_nonneg, nI_leE, nI_ltE, nI_eqE, Nat.not_le, Nat.not_lt, fq_10, fq_01, fq_rr, ix_aald, ix_aast, ix_abs, ix_alen, ix_aload, ix_aret, ix_astore, ix_bald, ix_bast, ix_call, ix_cpyI, ix_cpyJ, ix_dead, ix_dup2, ix_dup2L, ix_dupI, ix_dupR, ix_dupx1, ix_getI, ix_getJ, ix_getR, ix_gfm, ix_gtab, ix_i2b, ix_i2c, ix_i2l, ix_i2s, ix_iadd, ix_iald, ix_iand, ix_iast, ix_icall, ix_icmp_eq, ix_icmp_ge, ix_icmp_gt, ix_icmp_le, ix_icmp_lt, ix_icmp_ne, ix_idiv, ix_if_eq, ix_if_ge, ix_if_gt, ix_if_le, ix_if_lt, ix_if_ne, ix_iinc, ix_iload, ix_imul, ix_ineg, ix_ior, ix_irem, ix_iret, ix_ishl, ix_ishr, ix_istore, ix_isub, ix_iushr, ix_ixor, ix_l2i, ix_ladd, ix_lald, ix_land, ix_last, ix_lcmp, ix_ldcS, ix_ldiv, ix_lload, ix_lmul, ix_lor, ix_lrem, ix_lret, ix_lshl, ix_lstore, ix_lsub, ix_lsw, ix_max, ix_min, ix_new, ix_newa, ix_nret, ix_oinit, ix_pop2L, ix_popI, ix_pushI, ix_pushL, ix_putI, ix_putJ, ix_putR, ix_putZ, ix_sbald, ix_sgetC, ix_sgetV, ix_slen, ix_strc, ix_tald, ix_tsw, ix_vcall, ix_vret, ix_zret, stL, stL2, kilL, popN, fq_sw, fq_lsw, List.map_cons, List.map_nil, List.getElem?_cons_zero, List.getElem?_cons_succ, Option.toList_some, Option.toList_none, List.cons_append, List.nil_append, List.length_cons, List.length_nil, List.sum_cons, List.sum_nil, cat_i, cat_l, cat_r, true_and, and_true, Nat.zero_add, Nat.add_zero, Nat.le_refl, Nat.zero_le, Nat.reduceAdd, Nat.reduceLeDiff, exists_eq_left', Option.some.injEq, not_true_eq_false, not_false_eq_true, false_implies, true_implies, implies_true, and_self, or_true, true_or, or_false, false_or]
      have c5 : I1 s 5 = nI d := G1.c.2.2.1.trans hd
      have c6 : I1 s 6 = nI c := G1.c.2.2.2.trans hc
      have q1 := G1.q (hE.ct hx0 F1)
      refine ⟨X, T, n, tE T n e, N, 56, rfl, q1, hs, by rw [c5]; exact okN.nI hd6 (by omega), by rw [c6]; exact okN.nI hc8 (by omega), ?_, fun g => ?_, fun g1 g => ?_, fun g1 g I2 J2 hF2 hH2 => ?_⟩
      · rw [c5, nI_clamp (by omega), c6, nI_clamp (by omega)]
        have := G1.2.2.2.1
        dsimp only at this
        rw [hdd, hcc] at this
        exact this
      · rw [if_pos g] at hR
        simp (disch := omega) only [B_X7_takePerson_40, B_X7_takePerson_59, lg_cmp_eq, x1, x2, x3, s1, hs.k, hs.r0, hs.k1, hs.r1, hs.k2, hs.r2, hs.k3, hs.r3, hs.k4, hs.r4, hs.k12, hs.n1, hs.n2, hs.n3, hs.y0, hs.k5, hs.n5, hs.y1, hs.k6, hs.n6, hs.y2, hs.k7, hs.n7, hs.y3, hs.k8, hs.n8, hs.y4, hs.k9, hs.n9, hs.y5, hs.k10, hs.n10, hs.y6, hs.k11, hs.n11, hs.p0, hs.p1, hs.p2, hs.k13, hs.n13, hs.q0, hs.q1, hs.k14, hs.k15, hs.k16, hs.n16, hs.k17, hs.n17, hs.rH, hs.kH, hs.rP, hs.kP, hs.rQ, hs.kQ, nI_1, nI_add, nI_clamp, nI_pin, nI_neg, nI_nonneg, nI_leE, nI_ltE, nI_eqE, Nat.not_le, Nat.not_lt, fq_10, fq_01, fq_rr, ix_aald, ix_aast, ix_abs, ix_alen, ix_aload, ix_aret, ix_astore, ix_bald, ix_bast, ix_call, ix_cpyI, ix_cpyJ, ix_dead, ix_dup2, ix_dup2L, ix_dupI, ix_dupR, ix_dupx1, ix_getI, ix_getJ, ix_getR, ix_gfm, ix_gtab, ix_i2b, ix_i2c, ix_i2l, ix_i2s, ix_iadd, ix_iald, ix_iand, ix_iast, ix_icall, ix_icmp_eq, ix_icmp_ge, ix_icmp_gt, ix_icmp_le, ix_icmp_lt, ix_icmp_ne, ix_idiv, ix_if_eq, ix_if_ge, ix_if_gt, ix_if_le, ix_if_lt, ix_if_ne, ix_iinc, ix_iload, ix_imul, ix_ineg, ix_ior, ix_irem, ix_iret, ix_ishl, ix_ishr, ix_istore, ix_isub, ix_iushr, ix_ixor, ix_l2i, ix_ladd, ix_lald, ix_land, ix_last, ix_lcmp, ix_ldcS, ix_ldiv, ix_lload, ix_lmul, ix_lor, ix_lrem, ix_lret, ix_lshl, ix_lstore, ix_lsub, ix_lsw, ix_max, ix_min, ix_new, ix_newa, ix_nret, ix_oinit, ix_pop2L, ix_popI, ix_pushI, ix_pushL, ix_putI, ix_putJ, ix_putR, ix_putZ, ix_sbald, ix_sgetC, ix_sgetV, ix_slen, ix_strc, ix_tald, ix_tsw, ix_vcall, ix_vret, ix_zret, stL, stL2, kilL, popN, fq_sw, fq_lsw, List.map_cons, List.map_nil, List.getElem?_cons_zero, List.getElem?_cons_succ, Option.toList_some, Option.toList_none, List.cons_append, List.nil_append, List.length_cons, List.length_nil, List.sum_cons, List.sum_nil, cat_i, cat_l, cat_r, true_and, and_true, Nat.zero_add, Nat.add_zero, Nat.le_refl, Nat.zero_le, Nat.reduceAdd, Nat.reduceLeDiff, exists_eq_left', Option.some.injEq, not_true_eq_false, not_false_eq_true, false_implies, true_implies, implies_true, and_self, or_true, true_or, or_false, false_or]
        exact hR.fx (F1.tr csF.rj) rfl
      · rw [if_neg (fun r => r g1), if_pos (by rw [c5, nI_clamp (by omega), c6, nI_clamp (by omega)] at g; exact g)] at hR
        simp (disch := omega) only [B_X7_takePerson_40, B_X7_takePerson_59, lg_cmp_eq, x1, x2, x3, s1, hs.k, hs.r0, hs.k1, hs.r1, hs.k2, hs.r2, hs.k3, hs.r3, hs.k4, hs.r4, hs.k12, hs.n1, hs.n2, hs.n3, hs.y0, hs.k5, hs.n5, hs.y1, hs.k6, hs.n6, hs.y2, hs.k7, hs.n7, hs.y3, hs.k8, hs.n8, hs.y4, hs.k9, hs.n9, hs.y5, hs.k10, hs.n10, hs.y6, hs.k11, hs.n11, hs.p0, hs.p1, hs.p2, hs.k13, hs.n13, hs.q0, hs.q1, hs.k14, hs.k15, hs.k16, hs.n16, hs.k17, hs.n17, hs.rH, hs.kH, hs.rP, hs.kP, hs.rQ, hs.kQ, nI_1, nI_add, nI_clamp, nI_pin, nI_neg, nI_nonneg, nI_leE, nI_ltE, nI_eqE, Nat.not_le, Nat.not_lt, fq_10, fq_01, fq_rr, ix_aald, ix_aast, ix_abs, ix_alen, ix_aload, ix_aret, ix_astore, ix_bald, ix_bast, ix_call, ix_cpyI, ix_cpyJ, ix_dead, ix_dup2, ix_dup2L, ix_dupI, ix_dupR, ix_dupx1, ix_getI, ix_getJ, ix_getR, ix_gfm, ix_gtab, ix_i2b, ix_i2c, ix_i2l, ix_i2s, ix_iadd, ix_iald, ix_iand, ix_iast, ix_icall, ix_icmp_eq, ix_icmp_ge, ix_icmp_gt, ix_icmp_le, ix_icmp_lt, ix_icmp_ne, ix_idiv, ix_if_eq, ix_if_ge, ix_if_gt, ix_if_le, ix_if_lt, ix_if_ne, ix_iinc, ix_iload, ix_imul, ix_ineg, ix_ior, ix_irem, ix_iret, ix_ishl, ix_ishr, ix_istore, ix_isub, ix_iushr, ix_ixor, ix_l2i, ix_ladd, ix_lald, ix_land, ix_last, ix_lcmp, ix_ldcS, ix_ldiv, ix_lload, ix_lmul, ix_lor, ix_lrem, ix_lret, ix_lshl, ix_lstore, ix_lsub, ix_lsw, ix_max, ix_min, ix_new, ix_newa, ix_nret, ix_oinit, ix_pop2L, ix_popI, ix_pushI, ix_pushL, ix_putI, ix_putJ, ix_putR, ix_putZ, ix_sbald, ix_sgetC, ix_sgetV, ix_slen, ix_strc, ix_tald, ix_tsw, ix_vcall, ix_vret, ix_zret, stL, stL2, kilL, popN, fq_sw, fq_lsw, List.map_cons, List.map_nil, List.getElem?_cons_zero, List.getElem?_cons_succ, Option.toList_some, Option.toList_none, List.cons_append, List.nil_append, List.length_cons, List.length_nil, List.sum_cons, List.sum_nil, cat_i, cat_l, cat_r, true_and, and_true, Nat.zero_add, Nat.add_zero, Nat.le_refl, Nat.zero_le, Nat.reduceAdd, Nat.reduceLeDiff, exists_eq_left', Option.some.injEq, not_true_eq_false, not_false_eq_true, false_implies, true_implies, implies_true, and_self, or_true, true_or, or_false, false_or]
        exact hR.fx (F1.tr csF.rj) rfl
      · rw [if_neg (fun r => r g1), if_neg (by rw [c5, nI_clamp (by omega), c6, nI_clamp (by omega)] at g; exact g)] at hR
        have nm0 := (q1.2.1.2.2.2.2.2.2.2.1 g1.1 g1.2.1).2
        have nmr := q1.nm g1
        generalize hnm : J1 (X + 11) 6 = nm at nm0 nmr
        have G2 : stH X s I2 J2 T n (A, N, tE T n (tE T n e)) := G1.rd l1 hF2 hH2 e2
        have F2 := F1.tr (csF.rd (s := s) (t := t) hF2)
        have t2 : I2 t = I t := (hF2.1 t (by omega)).trans t1
        simp (disch := omega) only [B_X7_takePerson_40, lg_cmp_eq, nm0, x1, x2, x3, s1, hs.k, hs.r0, hs.k1, hs.r1, hs.k2, hs.r2, hs.k3, hs.r3, hs.k4, hs.r4, hs.k12, hs.n1, hs.n2, hs.n3, hs.y0, hs.k5, hs.n5, hs.y1, hs.k6, hs.n6, hs.y2, hs.k7, hs.n7, hs.y3, hs.k8, hs.n8, hs.y4, hs.k9, hs.n9, hs.y5, hs.k10, hs.n10, hs.y6, hs.k11, hs.n11, hs.p0, hs.p1, hs.p2, hs.k13, hs.n13, hs.q0, hs.q1, hs.k14, hs.k15, hs.k16, hs.n16, hs.k17, hs.n17, hs.rH, hs.kH, hs.rP, hs.kP, hs.rQ, hs.kQ, nI_1, nI_add, nI_clamp, nI_pin, nI_neg, nI_nonneg, nI_leE, nI_ltE, nI_eqE, Nat.not_le, Nat.not_lt, fq_10, fq_01, fq_rr, ix_aald, ix_aast, ix_abs, ix_alen, ix_aload, ix_aret, ix_astore, ix_bald, ix_bast, ix_call, ix_cpyI, ix_cpyJ, ix_dead, ix_dup2, ix_dup2L, ix_dupI, ix_dupR, ix_dupx1, ix_getI, ix_getJ, ix_getR, ix_gfm, ix_gtab, ix_i2b, ix_i2c, ix_i2l, ix_i2s, ix_iadd, ix_iald, ix_iand, ix_iast, ix_icall, ix_icmp_eq, ix_icmp_ge, ix_icmp_gt, ix_icmp_le, ix_icmp_lt, ix_icmp_ne, ix_idiv, ix_if_eq, ix_if_ge, ix_if_gt, ix_if_le, ix_if_lt, ix_if_ne, ix_iinc, ix_iload, ix_imul, ix_ineg, ix_ior, ix_irem, ix_iret, ix_ishl, ix_ishr, ix_istore, ix_isub, ix_iushr, ix_ixor, ix_l2i, ix_ladd, ix_lald, ix_land, ix_last, ix_lcmp, ix_ldcS, ix_ldiv, ix_lload, ix_lmul, ix_lor, ix_lrem, ix_lret, ix_lshl, ix_lstore, ix_lsub, ix_lsw, ix_max, ix_min, ix_new, ix_newa, ix_nret, ix_oinit, ix_pop2L, ix_popI, ix_pushI, ix_pushL, ix_putI, ix_putJ, ix_putR, ix_putZ, ix_sbald, ix_sgetC, ix_sgetV, ix_slen, ix_strc, ix_tald, ix_tsw, ix_vcall, ix_vret, ix_zret, stL, stL2, kilL, popN, fq_sw, fq_lsw, List.map_cons, List.map_nil, List.getElem?_cons_zero, List.getElem?_cons_succ, Option.toList_some, Option.toList_none, List.cons_append, List.nil_append, List.length_cons, List.length_nil, List.sum_cons, List.sum_nil, cat_i, cat_l, cat_r, true_and, and_true, Nat.zero_add, Nat.add_zero, Nat.le_refl, Nat.zero_le, Nat.reduceAdd, Nat.reduceLeDiff, exists_eq_left', Option.some.injEq, not_true_eq_false, not_false_eq_true, false_implies, true_implies, implies_true, and_self, or_true, true_or, or_false, false_or]
        dsimp only [pB] at hR
        refine ⟨X, T, n, tE T n (tE T n e), 7, rfl, G2.q (hE.ct hx0 F2), rfl, Or.inr ⟨7, by omega, rfl⟩, by decide, fun g => ?_, fun g I3 J3 hF3 hH3 => ?_⟩
        · rw [if_pos g] at hR
          simp (disch := omega) only [B_X7_takePerson_56, B_X7_takePerson_59, x1, x2, x3, s1, hs.k, hs.r0, hs.k1, hs.r1, hs.k2, hs.r2, hs.k3, hs.r3, hs.k4, hs.r4, hs.k12, hs.n1, hs.n2, hs.n3, hs.y0, hs.k5, hs.n5, hs.y1, hs.k6, hs.n6, hs.y2, hs.k7, hs.n7, hs.y3, hs.k8, hs.n8, hs.y4, hs.k9, hs.n9, hs.y5, hs.k10, hs.n10, hs.y6, hs.k11, hs.n11, hs.p0, hs.p1, hs.p2, hs.k13, hs.n13, hs.q0, hs.q1, hs.k14, hs.k15, hs.k16, hs.n16, hs.k17, hs.n17, hs.rH, hs.kH, hs.rP, hs.kP, hs.rQ, hs.kQ, nI_1, nI_add, nI_clamp, nI_pin, nI_neg, nI_nonneg, nI_leE, nI_ltE, nI_eqE, Nat.not_le, Nat.not_lt, fq_10, fq_01, fq_rr, ix_aald, ix_aast, ix_abs, ix_alen, ix_aload, ix_aret, ix_astore, ix_bald, ix_bast, ix_call, ix_cpyI, ix_cpyJ, ix_dead, ix_dup2, ix_dup2L, ix_dupI, ix_dupR, ix_dupx1, ix_getI, ix_getJ, ix_getR, ix_gfm, ix_gtab, ix_i2b, ix_i2c, ix_i2l, ix_i2s, ix_iadd, ix_iald, ix_iand, ix_iast, ix_icall, ix_icmp_eq, ix_icmp_ge, ix_icmp_gt, ix_icmp_le, ix_icmp_lt, ix_icmp_ne, ix_idiv, ix_if_eq, ix_if_ge, ix_if_gt, ix_if_le, ix_if_lt, ix_if_ne, ix_iinc, ix_iload, ix_imul, ix_ineg, ix_ior, ix_irem, ix_iret, ix_ishl, ix_ishr, ix_istore, ix_isub, ix_iushr, ix_ixor, ix_l2i, ix_ladd, ix_lald, ix_land, ix_last, ix_lcmp, ix_ldcS, ix_ldiv, ix_lload, ix_lmul, ix_lor, ix_lrem, ix_lret, ix_lshl, ix_lstore, ix_lsub, ix_lsw, ix_max, ix_min, ix_new, ix_newa, ix_nret, ix_oinit, ix_pop2L, ix_popI, ix_pushI, ix_pushL, ix_putI, ix_putJ, ix_putR, ix_putZ, ix_sbald, ix_sgetC, ix_sgetV, ix_slen, ix_strc, ix_tald, ix_tsw, ix_vcall, ix_vret, ix_zret, stL, stL2, kilL, popN, fq_sw, fq_lsw, List.map_cons, List.map_nil, List.getElem?_cons_zero, List.getElem?_cons_succ, Option.toList_some, Option.toList_none, List.cons_append, List.nil_append, List.length_cons, List.length_nil, List.sum_cons, List.sum_nil, cat_i, cat_l, cat_r, true_and, and_true, Nat.zero_add, Nat.add_zero, Nat.le_refl, Nat.zero_le, Nat.reduceAdd, Nat.reduceLeDiff, exists_eq_left', Option.some.injEq, not_true_eq_false, not_false_eq_true, false_implies, true_implies, implies_true, and_self, or_true, true_or, or_false, false_or]
          exact hR.fx (F2.tr csF.rj) rfl
        · rw [if_neg (fun r => r g)] at hR
          dsimp only at hR
          rw [hdd] at hR
          have G3 : stH X s I3 J3 T n (A, N, tE T n (tE T n (tE T n e))) := G2.rd l1 hF3 hH3 e3
          have F3 := F2.tr (csF.rd (s := s) (t := t) hF3)
          have t3 : I3 t = I t := (hF3.1 t (by omega)).trans t2
          have c53 : I3 s 5 = nI d := G3.c.2.2.1.trans hd
          have nms := G3.2.2.2.1.1
          dsimp only at nms
          rw [hdd] at nms
          have nu : ∀ v, fnH (uA N (56 + 6 + c) (nmH T n (tE T n e))) 56 d v = fnH N 56 d v := fun v => fndU_congr (fun j _ hj => by rw [uA_n _ _ _ _ (by omega)])
          rw [nu] at hR
          simp (disch := omega) only [B_X7_takePerson_56, x1, x2, x3, s1, hs.k, hs.r0, hs.k1, hs.r1, hs.k2, hs.r2, hs.k3, hs.r3, hs.k4, hs.r4, hs.k12, hs.n1, hs.n2, hs.n3, hs.y0, hs.k5, hs.n5, hs.y1, hs.k6, hs.n6, hs.y2, hs.k7, hs.n7, hs.y3, hs.k8, hs.n8, hs.y4, hs.k9, hs.n9, hs.y5, hs.k10, hs.n10, hs.y6, hs.k11, hs.n11, hs.p0, hs.p1, hs.p2, hs.k13, hs.n13, hs.q0, hs.q1, hs.k14, hs.k15, hs.k16, hs.n16, hs.k17, hs.n17, hs.rH, hs.kH, hs.rP, hs.kP, hs.rQ, hs.kQ, nI_1, nI_add, nI_clamp, nI_pin, nI_neg, nI_nonneg, nI_leE, nI_ltE, nI_eqE, Nat.not_le, Nat.not_lt, fq_10, fq_01, fq_rr, ix_aald, ix_aast, ix_abs, ix_alen, ix_aload, ix_aret, ix_astore, ix_bald, ix_bast, ix_call, ix_cpyI, ix_cpyJ, ix_dead, ix_dup2, ix_dup2L, ix_dupI, ix_dupR, ix_dupx1, ix_getI, ix_getJ, ix_getR, ix_gfm, ix_gtab, ix_i2b, ix_i2c, ix_i2l, ix_i2s, ix_iadd, ix_iald, ix_iand, ix_iast, ix_icall, ix_icmp_eq, ix_icmp_ge, ix_icmp_gt, ix_icmp_le, ix_icmp_lt, ix_icmp_ne, ix_idiv, ix_if_eq, ix_if_ge, ix_if_gt, ix_if_le, ix_if_lt, ix_if_ne, ix_iinc, ix_iload, ix_imul, ix_ineg, ix_ior, ix_irem, ix_iret, ix_ishl, ix_ishr, ix_istore, ix_isub, ix_iushr, ix_ixor, ix_l2i, ix_ladd, ix_lald, ix_land, ix_last, ix_lcmp, ix_ldcS, ix_ldiv, ix_lload, ix_lmul, ix_lor, ix_lrem, ix_lret, ix_lshl, ix_lstore, ix_lsub, ix_lsw, ix_max, ix_min, ix_new, ix_newa, ix_nret, ix_oinit, ix_pop2L, ix_popI, ix_pushI, ix_pushL, ix_putI, ix_putJ, ix_putR, ix_putZ, ix_sbald, ix_sgetC, ix_sgetV, ix_slen, ix_strc, ix_tald, ix_tsw, ix_vcall, ix_vret, ix_zret, stL, stL2, kilL, popN, fq_sw, fq_lsw, List.map_cons, List.map_nil, List.getElem?_cons_zero, List.getElem?_cons_succ, Option.toList_some, Option.toList_none, List.cons_append, List.nil_append, List.length_cons, List.length_nil, List.sum_cons, List.sum_nil, cat_i, cat_l, cat_r, true_and, and_true, Nat.zero_add, Nat.add_zero, Nat.le_refl, Nat.zero_le, Nat.reduceAdd, Nat.reduceLeDiff, exists_eq_left', Option.some.injEq, not_true_eq_false, not_false_eq_true, false_implies, true_implies, implies_true, and_self, or_true, true_or, or_false, false_or]
          refine ⟨X, T, n, tE T n (tE T n (tE T n e)), N, 56, rfl, G3.q (hE.ct hx0 F3), hs, by rw [c53]; exact okN.nI hd6 (by omega), by rw [c53, nI_clamp (by omega)]; exact nms, fun g => ?_, fun g1 g => ?_, fun g1 g I4 J4 hF4 hH4 => ?_⟩
          · rw [if_pos g] at hR
            simp (disch := omega) only [B_X7_takePerson_72, x1, x2, x3, s1, hs.k, hs.r0, hs.k1, hs.r1, hs.k2, hs.r2, hs.k3, hs.r3, hs.k4, hs.r4, hs.k12, hs.n1, hs.n2, hs.n3, hs.y0, hs.k5, hs.n5, hs.y1, hs.k6, hs.n6, hs.y2, hs.k7, hs.n7, hs.y3, hs.k8, hs.n8, hs.y4, hs.k9, hs.n9, hs.y5, hs.k10, hs.n10, hs.y6, hs.k11, hs.n11, hs.p0, hs.p1, hs.p2, hs.k13, hs.n13, hs.q0, hs.q1, hs.k14, hs.k15, hs.k16, hs.n16, hs.k17, hs.n17, hs.rH, hs.kH, hs.rP, hs.kP, hs.rQ, hs.kQ, nI_1, nI_add, nI_clamp, nI_pin, nI_neg, nI_nonneg, nI_leE, nI_ltE, nI_eqE, Nat.not_le, Nat.not_lt, fq_10, fq_01, fq_rr, ix_aald, ix_aast, ix_abs, ix_alen, ix_aload, ix_aret, ix_astore, ix_bald, ix_bast, ix_call, ix_cpyI, ix_cpyJ, ix_dead, ix_dup2, ix_dup2L, ix_dupI, ix_dupR, ix_dupx1, ix_getI, ix_getJ, ix_getR, ix_gfm, ix_gtab, ix_i2b, ix_i2c, ix_i2l, ix_i2s, ix_iadd, ix_iald, ix_iand, ix_iast, ix_icall, ix_icmp_eq, ix_icmp_ge, ix_icmp_gt, ix_icmp_le, ix_icmp_lt, ix_icmp_ne, ix_idiv, ix_if_eq, ix_if_ge, ix_if_gt, ix_if_le, ix_if_lt, ix_if_ne, ix_iinc, ix_iload, ix_imul, ix_ineg, ix_ior, ix_irem, ix_iret, ix_ishl, ix_ishr, ix_istore, ix_isub, ix_iushr, ix_ixor, ix_l2i, ix_ladd, ix_lald, ix_land, ix_last, ix_lcmp, ix_ldcS, ix_ldiv, ix_lload, ix_lmul, ix_lor, ix_lrem, ix_lret, ix_lshl, ix_lstore, ix_lsub, ix_lsw, ix_max, ix_min, ix_new, ix_newa, ix_nret, ix_oinit, ix_pop2L, ix_popI, ix_pushI, ix_pushL, ix_putI, ix_putJ, ix_putR, ix_putZ, ix_sbald, ix_sgetC, ix_sgetV, ix_slen, ix_strc, ix_tald, ix_tsw, ix_vcall, ix_vret, ix_zret, stL, stL2, kilL, popN, fq_sw, fq_lsw, List.map_cons, List.map_nil, List.getElem?_cons_zero, List.getElem?_cons_succ, Option.toList_some, Option.toList_none, List.cons_append, List.nil_append, List.length_cons, List.length_nil, List.sum_cons, List.sum_nil, cat_i, cat_l, cat_r, true_and, and_true, Nat.zero_add, Nat.add_zero, Nat.le_refl, Nat.zero_le, Nat.reduceAdd, Nat.reduceLeDiff, exists_eq_left', Option.some.injEq, not_true_eq_false, not_false_eq_true, false_implies, true_implies, implies_true, and_self, or_true, true_or, or_false, false_or]
            exact hR.fx (F3.tr csF.rj) rfl
          · rw [c53, nI_clamp (by omega)] at g
            rw [if_neg (fun r => r g1), if_pos g] at hR
            simp (disch := omega) only [B_X7_takePerson_72, x1, x2, x3, s1, hs.k, hs.r0, hs.k1, hs.r1, hs.k2, hs.r2, hs.k3, hs.r3, hs.k4, hs.r4, hs.k12, hs.n1, hs.n2, hs.n3, hs.y0, hs.k5, hs.n5, hs.y1, hs.k6, hs.n6, hs.y2, hs.k7, hs.n7, hs.y3, hs.k8, hs.n8, hs.y4, hs.k9, hs.n9, hs.y5, hs.k10, hs.n10, hs.y6, hs.k11, hs.n11, hs.p0, hs.p1, hs.p2, hs.k13, hs.n13, hs.q0, hs.q1, hs.k14, hs.k15, hs.k16, hs.n16, hs.k17, hs.n17, hs.rH, hs.kH, hs.rP, hs.kP, hs.rQ, hs.kQ, nI_1, nI_add, nI_clamp, nI_pin, nI_neg, nI_nonneg, nI_leE, nI_ltE, nI_eqE, Nat.not_le, Nat.not_lt, fq_10, fq_01, fq_rr, ix_aald, ix_aast, ix_abs, ix_alen, ix_aload, ix_aret, ix_astore, ix_bald, ix_bast, ix_call, ix_cpyI, ix_cpyJ, ix_dead, ix_dup2, ix_dup2L, ix_dupI, ix_dupR, ix_dupx1, ix_getI, ix_getJ, ix_getR, ix_gfm, ix_gtab, ix_i2b, ix_i2c, ix_i2l, ix_i2s, ix_iadd, ix_iald, ix_iand, ix_iast, ix_icall, ix_icmp_eq, ix_icmp_ge, ix_icmp_gt, ix_icmp_le, ix_icmp_lt, ix_icmp_ne, ix_idiv, ix_if_eq, ix_if_ge, ix_if_gt, ix_if_le, ix_if_lt, ix_if_ne, ix_iinc, ix_iload, ix_imul, ix_ineg, ix_ior, ix_irem, ix_iret, ix_ishl, ix_ishr, ix_istore, ix_isub, ix_iushr, ix_ixor, ix_l2i, ix_ladd, ix_lald, ix_land, ix_last, ix_lcmp, ix_ldcS, ix_ldiv, ix_lload, ix_lmul, ix_lor, ix_lrem, ix_lret, ix_lshl, ix_lstore, ix_lsub, ix_lsw, ix_max, ix_min, ix_new, ix_newa, ix_nret, ix_oinit, ix_pop2L, ix_popI, ix_pushI, ix_pushL, ix_putI, ix_putJ, ix_putR, ix_putZ, ix_sbald, ix_sgetC, ix_sgetV, ix_slen, ix_strc, ix_tald, ix_tsw, ix_vcall, ix_vret, ix_zret, stL, stL2, kilL, popN, fq_sw, fq_lsw, List.map_cons, List.map_nil, List.getElem?_cons_zero, List.getElem?_cons_succ, Option.toList_some, Option.toList_none, List.cons_append, List.nil_append, List.length_cons, List.length_nil, List.sum_cons, List.sum_nil, cat_i, cat_l, cat_r, true_and, and_true, Nat.zero_add, Nat.add_zero, Nat.le_refl, Nat.zero_le, Nat.reduceAdd, Nat.reduceLeDiff, exists_eq_left', Option.some.injEq, not_true_eq_false, not_false_eq_true, false_implies, true_implies, implies_true, and_self, or_true, true_or, or_false, false_or]
            exact hR.fx (F3.tr csF.rj) rfl
          · rw [c53, nI_clamp (by omega)] at g ⊢
            rw [if_neg (fun r => r g1), if_neg g] at hR
            dsimp only [pB] at hR
            obtain ⟨hm, hhm, ehm⟩ := (fnH_ok (N := N) (b := 56) (c := d) (v := nmH T n (tE T n (tE T n (tE T n e))))).resolve_left g
            rw [ehm] at hR g ⊢
            have G4 : stH X s I4 J4 T n (A, N, tE T n (tE T n (tE T n (tE T n e)))) := G3.rd l1 hF4 hH4 e4
            have F4 := F3.tr (csF.rd (s := s) (t := t) hF4)
            have t4 : I4 t = I t := (hF4.1 t (by omega)).trans t3
            have c64 : I4 s 6 = nI c := G4.c.2.2.2.trans hc
            have zp := G4.2.2.2.2.1.2.2.2 c (by dsimp only; omega) (by omega)
            dsimp only at zp
            have lp : ∀ f i, i + f = 4 → ∀ (A' : Nat → Int32) (e' : Nat) (I' : IH) (J' : JH), pvH X s c n e' I4 I' J4 J' T A A' → J' (s + 24 + c) 0 = nm → csF X s t I I' J J' → I' t = I t → CES X s t I J T n (trG T n (2406 + 7 * c) f i (A', uA N (56 + 6 + c) (nmH T n (tE T n e)), e')) (fun I' J' => Q (some (.int 1)) S I' J' z) (fun I' J' => Q (some (.int 0)) S I' J' z) → fqAt l G M_X7_takePerson (D + 5) 0 0 Q 120 [some (.ref t), some (.long nm), none, some (.int (nI hm)), some (.ref (s + 24 + c)), some (.int (nI (i + 1)))] [] S I' J' z 0 0 := by
              intro f
              induction f with
              | zero =>
                intro i hi A' e' I' J' hv hj hF ht hR
                refine b_X7_takePerson_120 _ _ _ _ _ _ _ _ ?_
                simp (disch := omega) only [B_X7_takePerson_120, x1, x2, x3, s1, hs.k, hs.r0, hs.k1, hs.r1, hs.k2, hs.r2, hs.k3, hs.r3, hs.k4, hs.r4, hs.k12, hs.n1, hs.n2, hs.n3, hs.y0, hs.k5, hs.n5, hs.y1, hs.k6, hs.n6, hs.y2, hs.k7, hs.n7, hs.y3, hs.k8, hs.n8, hs.y4, hs.k9, hs.n9, hs.y5, hs.k10, hs.n10, hs.y6, hs.k11, hs.n11, hs.p0, hs.p1, hs.p2, hs.k13, hs.n13, hs.q0, hs.q1, hs.k14, hs.k15, hs.k16, hs.n16, hs.k17, hs.n17, hs.rH, hs.kH, hs.rP, hs.kP, hs.rQ, hs.kQ, li_2, li_3, li_4, li_5, li_6, li_7, li_8, li_9, li_10, li_11, li_12, li_13, li_14, li_15, li_16, li_17, li_18, li_19, li_20, li_21, li_22, li_23, li_24, li_25, li_26, li_27, li_28, li_29, li_30, li_32, li_33, li_34, li_35, li_36, li_37, li_38, li_39, li_40, li_41, li_42, li_43, li_44, li_45, li_46, li_47, li_48, li_49, li_50, li_51, li_52, li_53, li_54, li_55, li_56, li_57, li_58, li_59, li_60, li_61, li_62, li_63, li_64, li_65, li_66, li_67, li_68, li_69, li_70, li_71, li_72, li_73, li_74, li_75, li_76, li_77, li_78, li_79, li_80, li_81, li_82, li_83, li_84, li_85, li_86, li_87, li_88, li_89, li_90, li_91, li_92, li_93, li_94, li_95, li_96, li_97, li_98, li_99, li_100, li_101, li_102, li_103, li_104, li_105, li_106, li_107, li_108, li_109, li_110, li_111, li_112, li_113, li_114, li_115, li_116, li_117, li_118, li_119, li_120, li_121, li_122, li_123, li_124, li_125, li_126, li_127, li_128, li_129, li_130, li_131, li_226, li_240, li_255, li_300, li_586, li_594, li_900, li_999, li_1000, li_1800, li_2376, li_2388, li_2406, li_2602, li_2970, li_3067, li_3564, li_9999, li_10000, li_11287, li_65536, li_100000, li_1000000, nI_mul, tn0, tn1, vin0, vin1, Int32.add_zero, Int32.or_zero, Int32.mul_one, Int32.mul_zero, Int32.zero_add, Nat.reduceEqDiff, Nat.reduceMul, Nat.reduceSub, nI_1, nI_add, nI_clamp, nI_pin, nI_neg, nI_nonneg, nI_leE, nI_ltE, nI_eqE, Nat.not_le, Nat.not_lt, fq_10, fq_01, fq_rr, ix_aald, ix_aast, ix_abs, ix_alen, ix_aload, ix_aret, ix_astore, ix_bald, ix_bast, ix_call, ix_cpyI, ix_cpyJ, ix_dead, ix_dup2, ix_dup2L, ix_dupI, ix_dupR, ix_dupx1, ix_getI, ix_getJ, ix_getR, ix_gfm, ix_gtab, ix_i2b, ix_i2c, ix_i2l, ix_i2s, ix_iadd, ix_iald, ix_iand, ix_iast, ix_icall, ix_icmp_eq, ix_icmp_ge, ix_icmp_gt, ix_icmp_le, ix_icmp_lt, ix_icmp_ne, ix_idiv, ix_if_eq, ix_if_ge, ix_if_gt, ix_if_le, ix_if_lt, ix_if_ne, ix_iinc, ix_iload, ix_imul, ix_ineg, ix_ior, ix_irem, ix_iret, ix_ishl, ix_ishr, ix_istore, ix_isub, ix_iushr, ix_ixor, ix_l2i, ix_ladd, ix_lald, ix_land, ix_last, ix_lcmp, ix_ldcS, ix_ldiv, ix_lload, ix_lmul, ix_lor, ix_lrem, ix_lret, ix_lshl, ix_lstore, ix_lsub, ix_lsw, ix_max, ix_min, ix_new, ix_newa, ix_nret, ix_oinit, ix_pop2L, ix_popI, ix_pushI, ix_pushL, ix_putI, ix_putJ, ix_putR, ix_putZ, ix_sbald, ix_sgetC, ix_sgetV, ix_slen, ix_strc, ix_tald, ix_tsw, ix_vcall, ix_vret, ix_zret, stL, stL2, kilL, popN, fq_sw, fq_lsw, List.map_cons, List.map_nil, List.getElem?_cons_zero, List.getElem?_cons_succ, Option.toList_some, Option.toList_none, List.cons_append, List.nil_append, List.length_cons, List.length_nil, List.sum_cons, List.sum_nil, cat_i, cat_l, cat_r, true_and, and_true, Nat.zero_add, Nat.add_zero, Nat.le_refl, Nat.zero_le, Nat.reduceAdd, Nat.reduceLeDiff, exists_eq_left', Option.some.injEq, not_true_eq_false, not_false_eq_true, false_implies, true_implies, implies_true, and_self, or_true, true_or, or_false, false_or]
                unfold trG at hR
                refine ⟨fun _ => hR I' J' hF (hv.end l1 G4 hc (by omega) (by rw [hj]; exact nmr) ?_ (fun k hk => uA_n _ _ _ _ (by omega))) ht, fun q => absurd q (by omega)⟩
                show uA N (56 + 6 + c) (nmH T n (tE T n e)) (62 + c) = nmH T n (tE T n e)
                rw [show 62 + c = 56 + 6 + c by omega, uA_e]
              | succ f ih =>
                intro i hi A' e' I' J' hv hj hF ht hR
                refine b_X7_takePerson_120 _ _ _ _ _ _ _ _ ?_
                simp (disch := omega) only [B_X7_takePerson_120, x1, x2, x3, s1, hs.k, hs.r0, hs.k1, hs.r1, hs.k2, hs.r2, hs.k3, hs.r3, hs.k4, hs.r4, hs.k12, hs.n1, hs.n2, hs.n3, hs.y0, hs.k5, hs.n5, hs.y1, hs.k6, hs.n6, hs.y2, hs.k7, hs.n7, hs.y3, hs.k8, hs.n8, hs.y4, hs.k9, hs.n9, hs.y5, hs.k10, hs.n10, hs.y6, hs.k11, hs.n11, hs.p0, hs.p1, hs.p2, hs.k13, hs.n13, hs.q0, hs.q1, hs.k14, hs.k15, hs.k16, hs.n16, hs.k17, hs.n17, hs.rH, hs.kH, hs.rP, hs.kP, hs.rQ, hs.kQ, li_2, li_3, li_4, li_5, li_6, li_7, li_8, li_9, li_10, li_11, li_12, li_13, li_14, li_15, li_16, li_17, li_18, li_19, li_20, li_21, li_22, li_23, li_24, li_25, li_26, li_27, li_28, li_29, li_30, li_32, li_33, li_34, li_35, li_36, li_37, li_38, li_39, li_40, li_41, li_42, li_43, li_44, li_45, li_46, li_47, li_48, li_49, li_50, li_51, li_52, li_53, li_54, li_55, li_56, li_57, li_58, li_59, li_60, li_61, li_62, li_63, li_64, li_65, li_66, li_67, li_68, li_69, li_70, li_71, li_72, li_73, li_74, li_75, li_76, li_77, li_78, li_79, li_80, li_81, li_82, li_83, li_84, li_85, li_86, li_87, li_88, li_89, li_90, li_91, li_92, li_93, li_94, li_95, li_96, li_97, li_98, li_99, li_100, li_101, li_102, li_103, li_104, li_105, li_106, li_107, li_108, li_109, li_110, li_111, li_112, li_113, li_114, li_115, li_116, li_117, li_118, li_119, li_120, li_121, li_122, li_123, li_124, li_125, li_126, li_127, li_128, li_129, li_130, li_131, li_226, li_240, li_255, li_300, li_586, li_594, li_900, li_999, li_1000, li_1800, li_2376, li_2388, li_2406, li_2602, li_2970, li_3067, li_3564, li_9999, li_10000, li_11287, li_65536, li_100000, li_1000000, nI_mul, tn0, tn1, vin0, vin1, Int32.add_zero, Int32.or_zero, Int32.mul_one, Int32.mul_zero, Int32.zero_add, Nat.reduceEqDiff, Nat.reduceMul, Nat.reduceSub, nI_1, nI_add, nI_clamp, nI_pin, nI_neg, nI_nonneg, nI_leE, nI_ltE, nI_eqE, Nat.not_le, Nat.not_lt, fq_10, fq_01, fq_rr, ix_aald, ix_aast, ix_abs, ix_alen, ix_aload, ix_aret, ix_astore, ix_bald, ix_bast, ix_call, ix_cpyI, ix_cpyJ, ix_dead, ix_dup2, ix_dup2L, ix_dupI, ix_dupR, ix_dupx1, ix_getI, ix_getJ, ix_getR, ix_gfm, ix_gtab, ix_i2b, ix_i2c, ix_i2l, ix_i2s, ix_iadd, ix_iald, ix_iand, ix_iast, ix_icall, ix_icmp_eq, ix_icmp_ge, ix_icmp_gt, ix_icmp_le, ix_icmp_lt, ix_icmp_ne, ix_idiv, ix_if_eq, ix_if_ge, ix_if_gt, ix_if_le, ix_if_lt, ix_if_ne, ix_iinc, ix_iload, ix_imul, ix_ineg, ix_ior, ix_irem, ix_iret, ix_ishl, ix_ishr, ix_istore, ix_isub, ix_iushr, ix_ixor, ix_l2i, ix_ladd, ix_lald, ix_land, ix_last, ix_lcmp, ix_ldcS, ix_ldiv, ix_lload, ix_lmul, ix_lor, ix_lrem, ix_lret, ix_lshl, ix_lstore, ix_lsub, ix_lsw, ix_max, ix_min, ix_new, ix_newa, ix_nret, ix_oinit, ix_pop2L, ix_popI, ix_pushI, ix_pushL, ix_putI, ix_putJ, ix_putR, ix_putZ, ix_sbald, ix_sgetC, ix_sgetV, ix_slen, ix_strc, ix_tald, ix_tsw, ix_vcall, ix_vret, ix_zret, stL, stL2, kilL, popN, fq_sw, fq_lsw, List.map_cons, List.map_nil, List.getElem?_cons_zero, List.getElem?_cons_succ, Option.toList_some, Option.toList_none, List.cons_append, List.nil_append, List.length_cons, List.length_nil, List.sum_cons, List.sum_nil, cat_i, cat_l, cat_r, true_and, and_true, Nat.zero_add, Nat.add_zero, Nat.le_refl, Nat.zero_le, Nat.reduceAdd, Nat.reduceLeDiff, exists_eq_left', Option.some.injEq, not_true_eq_false, not_false_eq_true, false_implies, true_implies, implies_true, and_self, or_true, true_or, or_false, false_or]
                refine ⟨fun q => absurd q (by omega), fun _ => ?_⟩
                unfold trG pOp pNum at hR
                dsimp only at hR
                have e5 := (tFE hv.2.1 (T := T)).2.2.2
                have e6 := (tFE e5 (T := T)).2.2.2
                refine ⟨X, s, t, T, n, e', c, i, rfl, hx0, ⟨hE.ct hx0 hF, hv.1, hv.2.1⟩, rfl, by omega, rfl, by omega, fun g => ?_, fun g I5 J5 hF5 hH5 => ⟨fun g1 => ?_, fun g1 g2 => ?_, fun g1 g2 I6 J6 hF6 hH6 => ?_⟩⟩
                · rw [if_neg g] at hR
                  dsimp only [pB] at hR
                  simp (disch := omega) only [B_X7_takePerson_134, x1, x2, x3, s1, hs.k, hs.r0, hs.k1, hs.r1, hs.k2, hs.r2, hs.k3, hs.r3, hs.k4, hs.r4, hs.k12, hs.n1, hs.n2, hs.n3, hs.y0, hs.k5, hs.n5, hs.y1, hs.k6, hs.n6, hs.y2, hs.k7, hs.n7, hs.y3, hs.k8, hs.n8, hs.y4, hs.k9, hs.n9, hs.y5, hs.k10, hs.n10, hs.y6, hs.k11, hs.n11, hs.p0, hs.p1, hs.p2, hs.k13, hs.n13, hs.q0, hs.q1, hs.k14, hs.k15, hs.k16, hs.n16, hs.k17, hs.n17, hs.rH, hs.kH, hs.rP, hs.kP, hs.rQ, hs.kQ, nI_1, nI_add, nI_clamp, nI_pin, nI_neg, nI_nonneg, nI_leE, nI_ltE, nI_eqE, Nat.not_le, Nat.not_lt, fq_10, fq_01, fq_rr, ix_aald, ix_aast, ix_abs, ix_alen, ix_aload, ix_aret, ix_astore, ix_bald, ix_bast, ix_call, ix_cpyI, ix_cpyJ, ix_dead, ix_dup2, ix_dup2L, ix_dupI, ix_dupR, ix_dupx1, ix_getI, ix_getJ, ix_getR, ix_gfm, ix_gtab, ix_i2b, ix_i2c, ix_i2l, ix_i2s, ix_iadd, ix_iald, ix_iand, ix_iast, ix_icall, ix_icmp_eq, ix_icmp_ge, ix_icmp_gt, ix_icmp_le, ix_icmp_lt, ix_icmp_ne, ix_idiv, ix_if_eq, ix_if_ge, ix_if_gt, ix_if_le, ix_if_lt, ix_if_ne, ix_iinc, ix_iload, ix_imul, ix_ineg, ix_ior, ix_irem, ix_iret, ix_ishl, ix_ishr, ix_istore, ix_isub, ix_iushr, ix_ixor, ix_l2i, ix_ladd, ix_lald, ix_land, ix_last, ix_lcmp, ix_ldcS, ix_ldiv, ix_lload, ix_lmul, ix_lor, ix_lrem, ix_lret, ix_lshl, ix_lstore, ix_lsub, ix_lsw, ix_max, ix_min, ix_new, ix_newa, ix_nret, ix_oinit, ix_pop2L, ix_popI, ix_pushI, ix_pushL, ix_putI, ix_putJ, ix_putR, ix_putZ, ix_sbald, ix_sgetC, ix_sgetV, ix_slen, ix_strc, ix_tald, ix_tsw, ix_vcall, ix_vret, ix_zret, stL, stL2, kilL, popN, fq_sw, fq_lsw, List.map_cons, List.map_nil, List.getElem?_cons_zero, List.getElem?_cons_succ, Option.toList_some, Option.toList_none, List.cons_append, List.nil_append, List.length_cons, List.length_nil, List.sum_cons, List.sum_nil, cat_i, cat_l, cat_r, true_and, and_true, Nat.zero_add, Nat.add_zero, Nat.le_refl, Nat.zero_le, Nat.reduceAdd, Nat.reduceLeDiff, exists_eq_left', Option.some.injEq, not_true_eq_false, not_false_eq_true, false_implies, true_implies, implies_true, and_self, or_true, true_or, or_false, false_or]
                  exact ih (i + 1) (by omega) A' e' I' J' hv hj hF ht hR
                · rw [if_pos g, if_pos g1] at hR
                  simp (disch := omega) only [B_X7_takePerson_134, x1, x2, x3, s1, hs.k, hs.r0, hs.k1, hs.r1, hs.k2, hs.r2, hs.k3, hs.r3, hs.k4, hs.r4, hs.k12, hs.n1, hs.n2, hs.n3, hs.y0, hs.k5, hs.n5, hs.y1, hs.k6, hs.n6, hs.y2, hs.k7, hs.n7, hs.y3, hs.k8, hs.n8, hs.y4, hs.k9, hs.n9, hs.y5, hs.k10, hs.n10, hs.y6, hs.k11, hs.n11, hs.p0, hs.p1, hs.p2, hs.k13, hs.n13, hs.q0, hs.q1, hs.k14, hs.k15, hs.k16, hs.n16, hs.k17, hs.n17, hs.rH, hs.kH, hs.rP, hs.kP, hs.rQ, hs.kQ, nI_1, nI_add, nI_clamp, nI_pin, nI_neg, nI_nonneg, nI_leE, nI_ltE, nI_eqE, Nat.not_le, Nat.not_lt, fq_10, fq_01, fq_rr, ix_aald, ix_aast, ix_abs, ix_alen, ix_aload, ix_aret, ix_astore, ix_bald, ix_bast, ix_call, ix_cpyI, ix_cpyJ, ix_dead, ix_dup2, ix_dup2L, ix_dupI, ix_dupR, ix_dupx1, ix_getI, ix_getJ, ix_getR, ix_gfm, ix_gtab, ix_i2b, ix_i2c, ix_i2l, ix_i2s, ix_iadd, ix_iald, ix_iand, ix_iast, ix_icall, ix_icmp_eq, ix_icmp_ge, ix_icmp_gt, ix_icmp_le, ix_icmp_lt, ix_icmp_ne, ix_idiv, ix_if_eq, ix_if_ge, ix_if_gt, ix_if_le, ix_if_lt, ix_if_ne, ix_iinc, ix_iload, ix_imul, ix_ineg, ix_ior, ix_irem, ix_iret, ix_ishl, ix_ishr, ix_istore, ix_isub, ix_iushr, ix_ixor, ix_l2i, ix_ladd, ix_lald, ix_land, ix_last, ix_lcmp, ix_ldcS, ix_ldiv, ix_lload, ix_lmul, ix_lor, ix_lrem, ix_lret, ix_lshl, ix_lstore, ix_lsub, ix_lsw, ix_max, ix_min, ix_new, ix_newa, ix_nret, ix_oinit, ix_pop2L, ix_popI, ix_pushI, ix_pushL, ix_putI, ix_putJ, ix_putR, ix_putZ, ix_sbald, ix_sgetC, ix_sgetV, ix_slen, ix_strc, ix_tald, ix_tsw, ix_vcall, ix_vret, ix_zret, stL, stL2, kilL, popN, fq_sw, fq_lsw, List.map_cons, List.map_nil, List.getElem?_cons_zero, List.getElem?_cons_succ, Option.toList_some, Option.toList_none, List.cons_append, List.nil_append, List.length_cons, List.length_nil, List.sum_cons, List.sum_nil, cat_i, cat_l, cat_r, true_and, and_true, Nat.zero_add, Nat.add_zero, Nat.le_refl, Nat.zero_le, Nat.reduceAdd, Nat.reduceLeDiff, exists_eq_left', Option.some.injEq, not_true_eq_false, not_false_eq_true, false_implies, true_implies, implies_true, and_self, or_true, true_or, or_false, false_or]
                  exact hR.fx (hF.tr ((csF.rd hF5).tr csF.rj)) rfl
                · rw [if_pos g, if_neg (fun r => r g1), if_pos g2] at hR
                  simp (disch := omega) only [B_X7_takePerson_134, x1, x2, x3, s1, hs.k, hs.r0, hs.k1, hs.r1, hs.k2, hs.r2, hs.k3, hs.r3, hs.k4, hs.r4, hs.k12, hs.n1, hs.n2, hs.n3, hs.y0, hs.k5, hs.n5, hs.y1, hs.k6, hs.n6, hs.y2, hs.k7, hs.n7, hs.y3, hs.k8, hs.n8, hs.y4, hs.k9, hs.n9, hs.y5, hs.k10, hs.n10, hs.y6, hs.k11, hs.n11, hs.p0, hs.p1, hs.p2, hs.k13, hs.n13, hs.q0, hs.q1, hs.k14, hs.k15, hs.k16, hs.n16, hs.k17, hs.n17, hs.rH, hs.kH, hs.rP, hs.kP, hs.rQ, hs.kQ, nI_1, nI_add, nI_clamp, nI_pin, nI_neg, nI_nonneg, nI_leE, nI_ltE, nI_eqE, Nat.not_le, Nat.not_lt, fq_10, fq_01, fq_rr, ix_aald, ix_aast, ix_abs, ix_alen, ix_aload, ix_aret, ix_astore, ix_bald, ix_bast, ix_call, ix_cpyI, ix_cpyJ, ix_dead, ix_dup2, ix_dup2L, ix_dupI, ix_dupR, ix_dupx1, ix_getI, ix_getJ, ix_getR, ix_gfm, ix_gtab, ix_i2b, ix_i2c, ix_i2l, ix_i2s, ix_iadd, ix_iald, ix_iand, ix_iast, ix_icall, ix_icmp_eq, ix_icmp_ge, ix_icmp_gt, ix_icmp_le, ix_icmp_lt, ix_icmp_ne, ix_idiv, ix_if_eq, ix_if_ge, ix_if_gt, ix_if_le, ix_if_lt, ix_if_ne, ix_iinc, ix_iload, ix_imul, ix_ineg, ix_ior, ix_irem, ix_iret, ix_ishl, ix_ishr, ix_istore, ix_isub, ix_iushr, ix_ixor, ix_l2i, ix_ladd, ix_lald, ix_land, ix_last, ix_lcmp, ix_ldcS, ix_ldiv, ix_lload, ix_lmul, ix_lor, ix_lrem, ix_lret, ix_lshl, ix_lstore, ix_lsub, ix_lsw, ix_max, ix_min, ix_new, ix_newa, ix_nret, ix_oinit, ix_pop2L, ix_popI, ix_pushI, ix_pushL, ix_putI, ix_putJ, ix_putR, ix_putZ, ix_sbald, ix_sgetC, ix_sgetV, ix_slen, ix_strc, ix_tald, ix_tsw, ix_vcall, ix_vret, ix_zret, stL, stL2, kilL, popN, fq_sw, fq_lsw, List.map_cons, List.map_nil, List.getElem?_cons_zero, List.getElem?_cons_succ, Option.toList_some, Option.toList_none, List.cons_append, List.nil_append, List.length_cons, List.length_nil, List.sum_cons, List.sum_nil, cat_i, cat_l, cat_r, true_and, and_true, Nat.zero_add, Nat.add_zero, Nat.le_refl, Nat.zero_le, Nat.reduceAdd, Nat.reduceLeDiff, exists_eq_left', Option.some.injEq, not_true_eq_false, not_false_eq_true, false_implies, true_implies, implies_true, and_self, or_true, true_or, or_false, false_or]
                  exact hR.fx (hF.tr ((csF.rd hF5).tr csF.rj)) rfl
                · rw [if_pos g, if_neg (fun r => r g1), if_neg (fun r => r g2)] at hR
                  dsimp only [pB] at hR
                  simp (disch := omega) only [B_X7_takePerson_134, x1, x2, x3, s1, hs.k, hs.r0, hs.k1, hs.r1, hs.k2, hs.r2, hs.k3, hs.r3, hs.k4, hs.r4, hs.k12, hs.n1, hs.n2, hs.n3, hs.y0, hs.k5, hs.n5, hs.y1, hs.k6, hs.n6, hs.y2, hs.k7, hs.n7, hs.y3, hs.k8, hs.n8, hs.y4, hs.k9, hs.n9, hs.y5, hs.k10, hs.n10, hs.y6, hs.k11, hs.n11, hs.p0, hs.p1, hs.p2, hs.k13, hs.n13, hs.q0, hs.q1, hs.k14, hs.k15, hs.k16, hs.n16, hs.k17, hs.n17, hs.rH, hs.kH, hs.rP, hs.kP, hs.rQ, hs.kQ, nI_1, nI_add, nI_clamp, nI_pin, nI_neg, nI_nonneg, nI_leE, nI_ltE, nI_eqE, Nat.not_le, Nat.not_lt, fq_10, fq_01, fq_rr, ix_aald, ix_aast, ix_abs, ix_alen, ix_aload, ix_aret, ix_astore, ix_bald, ix_bast, ix_call, ix_cpyI, ix_cpyJ, ix_dead, ix_dup2, ix_dup2L, ix_dupI, ix_dupR, ix_dupx1, ix_getI, ix_getJ, ix_getR, ix_gfm, ix_gtab, ix_i2b, ix_i2c, ix_i2l, ix_i2s, ix_iadd, ix_iald, ix_iand, ix_iast, ix_icall, ix_icmp_eq, ix_icmp_ge, ix_icmp_gt, ix_icmp_le, ix_icmp_lt, ix_icmp_ne, ix_idiv, ix_if_eq, ix_if_ge, ix_if_gt, ix_if_le, ix_if_lt, ix_if_ne, ix_iinc, ix_iload, ix_imul, ix_ineg, ix_ior, ix_irem, ix_iret, ix_ishl, ix_ishr, ix_istore, ix_isub, ix_iushr, ix_ixor, ix_l2i, ix_ladd, ix_lald, ix_land, ix_last, ix_lcmp, ix_ldcS, ix_ldiv, ix_lload, ix_lmul, ix_lor, ix_lrem, ix_lret, ix_lshl, ix_lstore, ix_lsub, ix_lsw, ix_max, ix_min, ix_new, ix_newa, ix_nret, ix_oinit, ix_pop2L, ix_popI, ix_pushI, ix_pushL, ix_putI, ix_putJ, ix_putR, ix_putZ, ix_sbald, ix_sgetC, ix_sgetV, ix_slen, ix_strc, ix_tald, ix_tsw, ix_vcall, ix_vret, ix_zret, stL, stL2, kilL, popN, fq_sw, fq_lsw, List.map_cons, List.map_nil, List.getElem?_cons_zero, List.getElem?_cons_succ, Option.toList_some, Option.toList_none, List.cons_append, List.nil_append, List.length_cons, List.length_nil, List.sum_cons, List.sum_nil, cat_i, cat_l, cat_r, true_and, and_true, Nat.zero_add, Nat.add_zero, Nat.le_refl, Nat.zero_le, Nat.reduceAdd, Nat.reduceLeDiff, exists_eq_left', Option.some.injEq, not_true_eq_false, not_false_eq_true, false_implies, true_implies, implies_true, and_self, or_true, true_or, or_false, false_or]
                  refine ih (i + 1) (by omega) _ _ _ _ (((hv.rd l1 hF5 hH5 e5).rd l1 hF6 hH6 e6).tr l1 (i := i) (by omega)) ?_ (hF.tr ((csF.rd hF5).tr ((csF.rd hF6).tr (csF.s (fun a ha => u2_ne (by omega)) (fun a ha => rfl))))) ?_ hR
                  · rw [hF6.2.2 _ (by omega), hF5.2.2 _ (by omega)]
                    exact hj
                  · rw [u2_ne (by omega), hF6.1 _ (by omega), hF5.1 _ (by omega)]
                    exact ht
            simp (disch := omega) only [B_X7_takePerson_72, B_X7_takePerson_104, sp_X2_settle, B_X2_settle_0, g, c64, u2_ca, x1, x2, x3, s1, hs.k, hs.r0, hs.k1, hs.r1, hs.k2, hs.r2, hs.k3, hs.r3, hs.k4, hs.r4, hs.k12, hs.n1, hs.n2, hs.n3, hs.y0, hs.k5, hs.n5, hs.y1, hs.k6, hs.n6, hs.y2, hs.k7, hs.n7, hs.y3, hs.k8, hs.n8, hs.y4, hs.k9, hs.n9, hs.y5, hs.k10, hs.n10, hs.y6, hs.k11, hs.n11, hs.p0, hs.p1, hs.p2, hs.k13, hs.n13, hs.q0, hs.q1, hs.k14, hs.k15, hs.k16, hs.n16, hs.k17, hs.n17, hs.rH, hs.kH, hs.rP, hs.kP, hs.rQ, hs.kQ, nI_1, nI_add, nI_clamp, nI_pin, nI_neg, nI_nonneg, nI_leE, nI_ltE, nI_eqE, Nat.not_le, Nat.not_lt, fq_10, fq_01, fq_rr, ix_aald, ix_aast, ix_abs, ix_alen, ix_aload, ix_aret, ix_astore, ix_bald, ix_bast, ix_call, ix_cpyI, ix_cpyJ, ix_dead, ix_dup2, ix_dup2L, ix_dupI, ix_dupR, ix_dupx1, ix_getI, ix_getJ, ix_getR, ix_gfm, ix_gtab, ix_i2b, ix_i2c, ix_i2l, ix_i2s, ix_iadd, ix_iald, ix_iand, ix_iast, ix_icall, ix_icmp_eq, ix_icmp_ge, ix_icmp_gt, ix_icmp_le, ix_icmp_lt, ix_icmp_ne, ix_idiv, ix_if_eq, ix_if_ge, ix_if_gt, ix_if_le, ix_if_lt, ix_if_ne, ix_iinc, ix_iload, ix_imul, ix_ineg, ix_ior, ix_irem, ix_iret, ix_ishl, ix_ishr, ix_istore, ix_isub, ix_iushr, ix_ixor, ix_l2i, ix_ladd, ix_lald, ix_land, ix_last, ix_lcmp, ix_ldcS, ix_ldiv, ix_lload, ix_lmul, ix_lor, ix_lrem, ix_lret, ix_lshl, ix_lstore, ix_lsub, ix_lsw, ix_max, ix_min, ix_new, ix_newa, ix_nret, ix_oinit, ix_pop2L, ix_popI, ix_pushI, ix_pushL, ix_putI, ix_putJ, ix_putR, ix_putZ, ix_sbald, ix_sgetC, ix_sgetV, ix_slen, ix_strc, ix_tald, ix_tsw, ix_vcall, ix_vret, ix_zret, stL, stL2, kilL, popN, fq_sw, fq_lsw, List.map_cons, List.map_nil, List.getElem?_cons_zero, List.getElem?_cons_succ, Option.toList_some, Option.toList_none, List.cons_append, List.nil_append, List.length_cons, List.length_nil, List.sum_cons, List.sum_nil, cat_i, cat_l, cat_r, true_and, and_true, Nat.zero_add, Nat.add_zero, Nat.le_refl, Nat.zero_le, Nat.reduceAdd, Nat.reduceLeDiff, exists_eq_left', Option.some.injEq, not_true_eq_false, not_false_eq_true, false_implies, true_implies, implies_true, and_self, or_true, true_or, or_false, false_or]
            refine lp 4 0 (by omega) _ _ _ _ ⟨G4.1.fr ?_ ?_, e4, fun a y1 y2 y3 => ?_, fun k _ _ _ _ _ _ => ?_, fun k hk => ?_, ?_, fun j hj => ?_, ?_, ?_, fun a y1 y2 => ?_, fun k hk => ?_⟩ ?_ (F4.tr (csF.s (fun a ha => ?_) (fun a ha => ?_))) ?_ hR
            · rw [u2_ne (by omega), u2_ne (by omega), u2_ne (by omega), u2_ne (by omega), u2_ne (by omega), u2_ne (by omega), u2_ne (by omega), u2_ne (by omega)]
            · rw [u2_ne (by omega)]
            · rw [u2_ne y2, u2_ne y3, u2_ne y3, u2_ne y3, u2_ne y3, u2_ne y3, u2_ne y3, u2_ne y3]
            · rw [u2_ne (by omega), u2_ne (by omega), u2_ne (by omega), u2_ne (by omega), u2_ne (by omega), u2_ne (by omega), u2_ne (by omega), u2_ne (by omega)]
            · rw [u2_ck _ _ _ _ _ _ hk, u2_ne (by omega), u2_ne (by omega), u2_ne (by omega), u2_ne (by omega), u2_ne (by omega), u2_ne (by omega), u2_ne (by omega)]
            · rw [u2_same]
            · rw [u2_ne (by omega)]
              rcases (show j = 0 ∨ j = 1 ∨ j = 2 ∨ j = 3 ∨ j = 4 by omega) with rfl | rfl | rfl | rfl | rfl
              · simp (disch := omega) only [u2_same, u2_ck, uA_e, uA_n, Nat.add_zero, Nat.zero_add]
              · simp (disch := omega) only [u2_same, u2_ck, uA_e, uA_n]
              · simp (disch := omega) only [u2_same, u2_ck, uA_e, uA_n]
              · simp (disch := omega) only [u2_same, u2_ck, uA_e, uA_n]
              · simp (disch := omega) only [u2_same, u2_ck, uA_e, uA_n, zp.1]
            · simp (disch := omega) only [u2_same, u2_ck, u2_ca]
            · simp (disch := omega) only [u2_same, u2_ck, u2_ca]
            · rw [u2_ne y2]
            · rw [uA_n _ _ _ _ (by omega), uA_n _ _ _ _ (by omega), uA_n _ _ _ _ (by omega), uA_n _ _ _ _ (by omega)]
            · rw [u2_same]
            · rw [u2_ne (by omega), u2_ne (by omega), u2_ne (by omega), u2_ne (by omega), u2_ne (by omega), u2_ne (by omega), u2_ne (by omega), u2_ne (by omega)]
            · rw [u2_ne (by omega)]
            · rw [u2_ne (by omega), u2_ne (by omega), u2_ne (by omega), u2_ne (by omega), u2_ne (by omega), u2_ne (by omega), u2_ne (by omega), u2_ne (by omega), t4]
  · exact h.elim
