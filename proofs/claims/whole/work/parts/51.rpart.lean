/-! the reference: parts of a street's text -/
theorem lt_2377 : (2377 : Int32) = nI 2377 := rfl
theorem lt_2379 : (2379 : Int32) = nI 2379 := rfl
theorem lt_2380 : (2380 : Int32) = nI 2380 := rfl
theorem lt_2381 : (2381 : Int32) = nI 2381 := rfl
theorem lt_2384 : (2384 : Int32) = nI 2384 := rfl
theorem lt_2387 : (2387 : Int32) = nI 2387 := rfl
theorem lt_2962 : (2962 : Int32) = nI 2962 := rfl
theorem lt_2963 : (2963 : Int32) = nI 2963 := rfl
theorem lt_1806 : (1806 : Int32) = nI 1806 := rfl
theorem lt_1822 : (1822 : Int32) = nI 1822 := rfl
theorem lt_1823 : (1823 : Int32) = nI 1823 := rfl
theorem RES.step {M : Nat} {I : IH} {J : JH} {n : Nat} {x : PR} {f : PSt → PR} {Q1 Q0 P1 P0 : IH → JH → Prop} (h : RES M I J n (pB x f) Q1 Q0) (h1 : ∀ s I' J', x = .inr s → txF M I I' J J' → psH M I' J' n s → I' M 20 = I M 20 → I' M 22 = I M 22 → I' M 23 = I M 23 → I' (M + 8) = I (M + 8) → RES M I' J' n (f s) Q1 Q0 → P1 I' J') (h0 : ∀ I' J', Q0 I' J' → P0 I' J') : RES M I J n x P1 P0 := by
  have hb := RES.bind h
  cases x with
  | inl y => exact fun I' J' a b c => h0 I' J' (hb I' J' a b c)
  | inr s => exact fun I' J' a b c d e f => h1 s I' J' rfl a b c d e f (hb I' J' a b c d e f s b rfl)
theorem RES.imp {M : Nat} {I : IH} {J : JH} {n : Nat} {x : PR} {Q1 Q0 P1 P0 : IH → JH → Prop} (h : RES M I J n x Q1 Q0) (h1 : ∀ I' J', Q1 I' J' → P1 I' J') (h0 : ∀ I' J', Q0 I' J' → P0 I' J') : RES M I J n x P1 P0 := by
  cases x with
  | inl y => exact fun I' J' a b c => h0 I' J' (h I' J' a b c)
  | inr s => exact fun I' J' a b c d e f => h1 I' J' (h I' J' a b c d e f)
/-- a piece begun further on -/
theorem RES.on {M : Nat} {I I1 : IH} {J J1 : JH} {n : Nat} {x : PR} {Q1 Q0 : IH → JH → Prop} (hF : txF M I I1 J J1) (k20 : I1 M 20 = I M 20) (k22 : I1 M 22 = I M 22) (k23 : I1 M 23 = I M 23) (k8 : I1 (M + 8) = I (M + 8)) (h : RES M I J n x Q1 Q0) : RES M I1 J1 n x Q1 Q0 := by
  cases x with
  | inl y => exact fun I2 J2 hF2 => h I2 J2 (hF.tr hF2)
  | inr z => exact fun I2 J2 hF2 hp2 a b c d => h I2 J2 (hF.tr hF2) hp2 (a.trans k20) (b.trans k22) (c.trans k23) (d.trans k8)
theorem txF.t {M : Nat} {I I' : IH} {J J' : JH} (h : txF M I I' J J') : I' (M + 7) = I (M + 7) := h.1 _ (by omega) (by omega) (by omega)
def pNum (T : Nat → Int32) (n k : Nat) (lo hi : Int32) (s : PSt) : PR := if ¬ tK T n s.2.2 = 3 then pE T n 2 s.2.2 else if ¬ (lo ≤ tV T n s.2.2 ∧ tV T n s.2.2 ≤ hi) then pE T n 4 s.2.2 else .inr (uA s.1 k (tV T n s.2.2), s.2.1, tE T n s.2.2)
def pWd (T : Nat → Int32) (n : Nat) (c : Int32) (s : PSt) : PR := if ¬ kwI T n s.2.2 = c then pE T n 2 s.2.2 else .inr (s.1, s.2.1, tE T n s.2.2)
def pSg (T : Nat → Int32) (n : Nat) (c : Int32) (s : PSt) : PR := if ¬ (tK T n s.2.2 = 4 ∧ tV T n s.2.2 = c) then pE T n 2 s.2.2 else .inr (s.1, s.2.1, tE T n s.2.2)
def pAd (T : Nat → Int32) (n : Nat) (s : PSt) : PR := .inr (s.1, s.2.1, tE T n s.2.2)
abbrev RQ (M : Nat) (S : Sh) (I : IH) (J : JH) (z n : Nat) (x : PR) (Q : Post) : Prop := RES M I J n x (fun I' J' => Q (some (.int 1)) S I' J' z) (fun I' J' => Q (some (.int 0)) S I' J' z)
theorem number_R {G : GT} {M k n z : Nat} {S : Sh} {I : IH} {J : JH} {s : PSt} {lo hi : Int32} {Q : Post} (hm : rfS S M) (hP : psH M I J n s) (hk0 : 2376 ≤ k) (hk : k < 4694) (hR : RQ M S I J z n (pNum (I (M + 7)) n k lo hi s) Q) : sp_X12_number G [.ref M, .int (nI k), .int lo, .int hi] S I J z Q := by
  have hP' := hP
  obtain ⟨hA, hN, hT, he, hn, h0⟩ := hP
  unfold pNum at hR
  refine ⟨hm, h0, n, s.2.2, k, hn, he, rfl, hk, hT, fun h => ?_, fun h => ⟨fun h2 => ?_, fun h2 I' hI' => ?_⟩⟩
  · rw [if_pos h] at hR
    exact RES.f0 hP' hR
  · rw [if_neg (fun q => q h), if_pos h2] at hR
    exact RES.f0 hP' hR
  · rw [if_neg (fun q => q h), if_neg (fun q => q h2)] at hR
    obtain ⟨x1, x2, x3, x4, x5, x6⟩ := hI'.ps hP' (fun j hj => uA_n _ _ _ _ (by omega))
    rw [hA] at x2
    exact hR I' J x1 x2 x3 x4 x5 x6
theorem wantWord_R {G : GT} {M n z : Nat} {S : Sh} {I : IH} {J : JH} {s : PSt} {c : Int32} {Q : Post} (hm : rfS S M) (hP : psH M I J n s) (hR : RQ M S I J z n (pWd (I (M + 7)) n c s) Q) : sp_X12_wantWord G [.ref M, .ref (G.2.2.2 (4 + 1)), .int c] S I J z Q := by
  have hP' := hP
  obtain ⟨hA, hN, hT, he, hn, h0⟩ := hP
  unfold pWd at hR
  refine ⟨hm, rfl, h0, n, s.2.2, hn, he, hT, fun h => ?_, fun h I' hI' => ?_⟩
  · rw [if_pos h] at hR
    exact RES.f0 hP' hR
  · rw [if_neg (fun q => q h)] at hR
    obtain ⟨x1, x2, x3, x4, x5, x6⟩ := hI'.ps hP' (fun j hj => rfl)
    rw [hA] at x2
    exact hR I' J x1 x2 x3 x4 x5 x6
theorem wantSign_R {G : GT} {M n z : Nat} {S : Sh} {I : IH} {J : JH} {s : PSt} {c : Int32} {Q : Post} (hm : rfS S M) (hP : psH M I J n s) (hR : RQ M S I J z n (pSg (I (M + 7)) n c s) Q) : sp_X12_wantSign G [.ref M, .int c] S I J z Q := by
  have hP' := hP
  obtain ⟨hA, hN, hT, he, hn, h0⟩ := hP
  unfold pSg at hR
  refine ⟨hm, h0, n, s.2.2, hn, he, hT, fun h => ?_, fun h I' hI' => ?_⟩
  · rw [if_pos h] at hR
    exact RES.f0 hP' hR
  · rw [if_neg (fun q => q h)] at hR
    obtain ⟨x1, x2, x3, x4, x5, x6⟩ := hI'.ps hP' (fun j hj => rfl)
    rw [hA] at x2
    exact hR I' J x1 x2 x3 x4 x5 x6
theorem houseTo_R {G : GT} {M k n z : Nat} {S : Sh} {I : IH} {J : JH} {s : PSt} {Q : Post} (hm : rfS S M) (hP : psH M I J n s) (hc : okN (s.1 2376) 6) (hk0 : 2377 ≤ k) (hk : k < 4694) (hR : RQ M S I J z n (pFd (I (M + 7)) n 56 (s.1 2376).toNatClampNeg k s) Q) : sp_X12_houseTo G [.ref M, .int (nI k)] S I J z Q := by
  refine ⟨hm, by rw [hP.1]; exact hc, n, s, k, rfl, hk0, hk, hP, ?_⟩
  rw [hP.1]
  exact hR
theorem isThere_R {G : GT} {M n z : Nat} {S : Sh} {I : IH} {J : JH} {s : PSt} {c : Int32} {Q : Post} (hm : rfS S M) (hP : psH M I J n s) (h0 : ¬ kwI (I (M + 7)) n s.2.2 = c → Q (some (.int 0)) S I J z) (h1 : kwI (I (M + 7)) n s.2.2 = c → ∀ I', txF M I I' J J → psH M I' J n (s.1, s.2.1, tE (I (M + 7)) n s.2.2) → I' M 20 = I M 20 → I' M 22 = I M 22 → I' M 23 = I M 23 → I' (M + 8) = I (M + 8) → Q (some (.int 1)) S I' J z) : sp_X12_isThere G [.ref M, .int c] S I J z Q := by
  have hP' := hP
  obtain ⟨hA, hN, hT, he, hn, hz⟩ := hP
  refine ⟨hm, n, s.2.2, hn, he, hT, h0, fun h I' hI' => ?_⟩
  obtain ⟨x1, x2, x3, x4, x5, x6⟩ := hI'.ps hP' (fun j hj => rfl)
  rw [hA] at x2
  exact h1 h I' x1 x2 x3 x4 x5 x6
theorem ahead_R {G : GT} {M n z : Nat} {S : Sh} {I : IH} {J : JH} {s : PSt} {Q : Post} (hm : rfS S M) (hP : psH M I J n s) (h1 : ∀ I', txF M I I' J J → psH M I' J n (s.1, s.2.1, tE (I (M + 7)) n s.2.2) → I' M 20 = I M 20 → I' M 22 = I M 22 → I' M 23 = I M 23 → I' (M + 8) = I (M + 8) → Q none S I' J z) : sp_X12_ahead G [.ref M] S I J z Q := by
  have hP' := hP
  obtain ⟨hA, hN, ⟨t11, t12, t13, t14, t15⟩, he, hn, hz⟩ := hP
  obtain ⟨b1, b2, b3, b4⟩ := tFE (T := I (M + 7)) he
  refine ⟨hm, n, _, t11, hn, t14, b4, fun I' hF hT => ?_⟩
  obtain ⟨x1, x2, x3, x4, x5, x6⟩ := (adV_a hF hT).ps hP' (fun j hj => rfl)
  rw [hA] at x2
  exact h1 I' x1 x2 x3 x4 x5 x6
theorem fails_R {G : GT} {M n z : Nat} {S : Sh} {I : IH} {J : JH} {s : PSt} {k : Int32} {Q : Post} (hm : rfS S M) (hP : psH M I J n s) (hR : RQ M S I J z n (pE (I (M + 7)) n k s.2.2) Q) : sp_X12_fails G [.ref M, .int k] S I J z Q := ⟨hm, hP.2.2.2.2.2, RES.f0 hP hR⟩
theorem isName_R {G : GT} {M n z : Nat} {S : Sh} {I : IH} {J : JH} {s : PSt} {Q : Post} (hm : rfS S M) (hP : psH M I J n s) (h : Q (some (.int (bI (isNm (I (M + 7)) n s.2.2)))) S I J z) : sp_X12_isName G [.ref M, .ref (G.2.2.2 (4 + 1))] S I J z Q := ⟨hm, rfl, n, s.2.2, hP.2.2.2.2.1, hP.2.2.2.1, hP.2.2.1, h⟩
theorem findHere_R {G : GT} {M n z : Nat} {S : Sh} {I : IH} {J : JH} {s : PSt} {b m : Nat} {Q : Post} (hm : rfS S M) (hP : psH M I J n s) (hb : b ≤ 70) (hmm : m ≤ 8) (h : Q (some (.int (fnH s.2.1 b m (nmH (I (M + 7)) n s.2.2)))) S I J z) : sp_X12_findHere G [.ref M, .int (nI b), .int (nI m)] S I J z Q := by
  refine ⟨hm, okN.nI hb (by decide), okN.nI hmm (by decide), n, s.2.2, hP.2.2.2.2.1, hP.2.2.2.1, hP.2.2.1, ?_⟩
  rw [nI_clamp (by omega), nI_clamp (by omega), hP.2.1]
  exact h
theorem inWords_R {G : GT} {M n z : Nat} {S : Sh} {I : IH} {J : JH} {s : PSt} {Q : Post} (hm : rfS S M) (hP : psH M I J n s) (h : Q (some (.int (kwI (I (M + 7)) n s.2.2))) S I J z) : sp_X12_inWords G [.ref M, .ref (G.2.2.2 (4 + 1))] S I J z Q := ⟨hm, rfl, n, s.2.2, hP.2.2.2.2.1, hP.2.2.2.1, hP.2.2.1, h⟩
theorem nameHere_R {G : GT} {M n z : Nat} {S : Sh} {I : IH} {J : JH} {s : PSt} {Q : Post} (hm : rfS S M) (hP : psH M I J n s) (h : Q (some (.long (nmH (I (M + 7)) n s.2.2))) S I J z) : sp_X12_nameHere G [.ref M] S I J z Q := ⟨hm, n, s.2.2, hP.2.2.2.2.1, hP.2.2.2.1, hP.2.2.1, h⟩
def pNw (T : Nat → Int32) (n a b : Nat) (most : Int32) (s : PSt) : PR := if s.1 (2376 + a) = most then pE T n 6 s.2.2 else if ¬ isNm T n (tE T n s.2.2) then pE T n 2 (tE T n s.2.2) else if ¬ fnH s.2.1 56 (s.1 2376).toNatClampNeg (nmH T n (tE T n s.2.2)) = -1 ∨ ¬ fnH s.2.1 62 (s.1 2377).toNatClampNeg (nmH T n (tE T n s.2.2)) = -1 then pE T n 3 (tE T n s.2.2) else .inr (s.1, uA s.2.1 (56 + b + (s.1 (2376 + a)).toNatClampNeg) (nmH T n (tE T n s.2.2)), tE T n (tE T n s.2.2))
theorem dX12_newOne_0 : decode cX12_newOne 0 = .ok (.aload_n 0, 1) := by decide +kernel
theorem dX12_newOne_1 : decode cX12_newOne 1 = .ok (.getfield 7, 3) := by decide +kernel
theorem dX12_newOne_4 : decode cX12_newOne 4 = .ok (.sipush 2376, 3) := by decide +kernel
theorem dX12_newOne_7 : decode cX12_newOne 7 = .ok (.iload_n 1, 1) := by decide +kernel
theorem dX12_newOne_8 : decode cX12_newOne 8 = .ok (.iadd, 1) := by decide +kernel
theorem dX12_newOne_9 : decode cX12_newOne 9 = .ok (.iaload, 1) := by decide +kernel
theorem dX12_newOne_10 : decode cX12_newOne 10 = .ok (.iload_n 2, 1) := by decide +kernel
theorem dX12_newOne_11 : decode cX12_newOne 11 = .ok (.if_icmp .ne 10, 3) := by decide +kernel
theorem dX12_newOne_14 : decode cX12_newOne 14 = .ok (.aload_n 0, 1) := by decide +kernel
theorem dX12_newOne_15 : decode cX12_newOne 15 = .ok (.bipush 6, 2) := by decide +kernel
theorem dX12_newOne_17 : decode cX12_newOne 17 = .ok (.invokevirtual 157, 3) := by decide +kernel
theorem dX12_newOne_20 : decode cX12_newOne 20 = .ok (.ireturn, 1) := by decide +kernel
theorem dX12_newOne_21 : decode cX12_newOne 21 = .ok (.aload_n 0, 1) := by decide +kernel
theorem dX12_newOne_22 : decode cX12_newOne 22 = .ok (.invokevirtual 151, 3) := by decide +kernel
theorem dX12_newOne_25 : decode cX12_newOne 25 = .ok (.aload_n 0, 1) := by decide +kernel
theorem dX12_newOne_26 : decode cX12_newOne 26 = .ok (.ldc 168, 2) := by decide +kernel
theorem dX12_newOne_28 : decode cX12_newOne 28 = .ok (.invokevirtual 170, 3) := by decide +kernel
theorem dX12_newOne_31 : decode cX12_newOne 31 = .ok (.ifCond .ne 9, 3) := by decide +kernel
theorem dX12_newOne_34 : decode cX12_newOne 34 = .ok (.aload_n 0, 1) := by decide +kernel
theorem dX12_newOne_35 : decode cX12_newOne 35 = .ok (.iconst 2, 1) := by decide +kernel
theorem dX12_newOne_36 : decode cX12_newOne 36 = .ok (.invokevirtual 157, 3) := by decide +kernel
theorem dX12_newOne_39 : decode cX12_newOne 39 = .ok (.ireturn, 1) := by decide +kernel
theorem dX12_newOne_40 : decode cX12_newOne 40 = .ok (.aload_n 0, 1) := by decide +kernel
theorem dX12_newOne_41 : decode cX12_newOne 41 = .ok (.bipush 56, 2) := by decide +kernel
theorem dX12_newOne_43 : decode cX12_newOne 43 = .ok (.aload_n 0, 1) := by decide +kernel
theorem dX12_newOne_44 : decode cX12_newOne 44 = .ok (.getfield 7, 3) := by decide +kernel
theorem dX12_newOne_47 : decode cX12_newOne 47 = .ok (.sipush 2376, 3) := by decide +kernel
theorem dX12_newOne_50 : decode cX12_newOne 50 = .ok (.iaload, 1) := by decide +kernel
theorem dX12_newOne_51 : decode cX12_newOne 51 = .ok (.invokevirtual 174, 3) := by decide +kernel
theorem dX12_newOne_54 : decode cX12_newOne 54 = .ok (.iconst (-1), 1) := by decide +kernel
theorem dX12_newOne_55 : decode cX12_newOne 55 = .ok (.if_icmp .ne 21, 3) := by decide +kernel
theorem dX12_newOne_58 : decode cX12_newOne 58 = .ok (.aload_n 0, 1) := by decide +kernel
theorem dX12_newOne_59 : decode cX12_newOne 59 = .ok (.bipush 62, 2) := by decide +kernel
theorem dX12_newOne_61 : decode cX12_newOne 61 = .ok (.aload_n 0, 1) := by decide +kernel
theorem dX12_newOne_62 : decode cX12_newOne 62 = .ok (.getfield 7, 3) := by decide +kernel
theorem dX12_newOne_65 : decode cX12_newOne 65 = .ok (.sipush 2377, 3) := by decide +kernel
theorem dX12_newOne_68 : decode cX12_newOne 68 = .ok (.iaload, 1) := by decide +kernel
theorem dX12_newOne_69 : decode cX12_newOne 69 = .ok (.invokevirtual 174, 3) := by decide +kernel
theorem dX12_newOne_72 : decode cX12_newOne 72 = .ok (.iconst (-1), 1) := by decide +kernel
theorem dX12_newOne_73 : decode cX12_newOne 73 = .ok (.if_icmp .eq 9, 3) := by decide +kernel
theorem dX12_newOne_76 : decode cX12_newOne 76 = .ok (.aload_n 0, 1) := by decide +kernel
theorem dX12_newOne_77 : decode cX12_newOne 77 = .ok (.iconst 3, 1) := by decide +kernel
theorem dX12_newOne_78 : decode cX12_newOne 78 = .ok (.invokevirtual 157, 3) := by decide +kernel
theorem dX12_newOne_81 : decode cX12_newOne 81 = .ok (.ireturn, 1) := by decide +kernel
theorem dX12_newOne_82 : decode cX12_newOne 82 = .ok (.aload_n 0, 1) := by decide +kernel
theorem dX12_newOne_83 : decode cX12_newOne 83 = .ok (.getfield 13, 3) := by decide +kernel
theorem dX12_newOne_86 : decode cX12_newOne 86 = .ok (.bipush 56, 2) := by decide +kernel
theorem dX12_newOne_88 : decode cX12_newOne 88 = .ok (.iload_n 3, 1) := by decide +kernel
theorem dX12_newOne_89 : decode cX12_newOne 89 = .ok (.iadd, 1) := by decide +kernel
theorem dX12_newOne_90 : decode cX12_newOne 90 = .ok (.aload_n 0, 1) := by decide +kernel
theorem dX12_newOne_91 : decode cX12_newOne 91 = .ok (.getfield 7, 3) := by decide +kernel
theorem dX12_newOne_94 : decode cX12_newOne 94 = .ok (.sipush 2376, 3) := by decide +kernel
theorem dX12_newOne_97 : decode cX12_newOne 97 = .ok (.iload_n 1, 1) := by decide +kernel
theorem dX12_newOne_98 : decode cX12_newOne 98 = .ok (.iadd, 1) := by decide +kernel
theorem dX12_newOne_99 : decode cX12_newOne 99 = .ok (.iaload, 1) := by decide +kernel
theorem dX12_newOne_100 : decode cX12_newOne 100 = .ok (.iadd, 1) := by decide +kernel
theorem dX12_newOne_101 : decode cX12_newOne 101 = .ok (.aload_n 0, 1) := by decide +kernel
theorem dX12_newOne_102 : decode cX12_newOne 102 = .ok (.invokevirtual 164, 3) := by decide +kernel
theorem dX12_newOne_105 : decode cX12_newOne 105 = .ok (.lastore, 1) := by decide +kernel
theorem dX12_newOne_106 : decode cX12_newOne 106 = .ok (.aload_n 0, 1) := by decide +kernel
theorem dX12_newOne_107 : decode cX12_newOne 107 = .ok (.invokevirtual 151, 3) := by decide +kernel
theorem dX12_newOne_110 : decode cX12_newOne 110 = .ok (.iconst 1, 1) := by decide +kernel
theorem dX12_newOne_111 : decode cX12_newOne 111 = .ok (.ireturn, 1) := by decide +kernel
abbrev M_X12_newOne : MT := (yX12_newOne, cX12_newOne, 4, (some .boolean))
theorem cf_X12_newOne : fq_cf M_X12_newOne 3 := ⟨(mg_1 (List.mem_of_getElem? (i := 15) rfl) rfl), (mg_7 (List.mem_of_getElem? (i := 158) rfl) rfl), ⟨by decide, by decide, by decide +kernel⟩, by decide⟩
def B_X12_newOne_105 (G : GT) (mc ms : Nat) (Q : Post) : Cn := ix_last (ix_aload 0 (ix_vcall 12 1 0 0 mc ms (sp_X12_ahead G) (ix_pushI 1 (ix_zret mc ms Q))))
theorem b_X12_newOne_105 {l : Launch} {G : GT} {D mc ms : Nat} {Q : Post} : Imp l G M_X12_newOne (D + 6) mc ms Q (B_X12_newOne_105 G mc ms Q) 105 := sx_last dX12_newOne_105 (sx_aload_n dX12_newOne_106 rfl (sx_vcall dX12_newOne_107 cf_X12_ahead (mg_7 (List.mem_of_getElem? (i := 112) rfl) rfl) (mg_7 (List.mem_of_getElem? (i := 114) rfl) rfl) (mg_p (List.mem_of_getElem? (i := 52) rfl) rfl) rfl c_X12_ahead (sx_iconst dX12_newOne_110 rfl (sx_zret dX12_newOne_111 rfl))))
def B_X12_newOne_76 (G : GT) (mc ms : Nat) (Q : Post) : Cn := ix_aload 0 (ix_pushI 3 (ix_vcall 12 2 0 0 mc ms (sp_X12_fails G) (ix_zret mc ms Q)))
theorem b_X12_newOne_76 {l : Launch} {G : GT} {D mc ms : Nat} {Q : Post} : Imp l G M_X12_newOne (D + 6) mc ms Q (B_X12_newOne_76 G mc ms Q) 76 := sx_aload_n dX12_newOne_76 rfl (sx_iconst dX12_newOne_77 rfl (sx_vcall dX12_newOne_78 cf_X12_fails (mg_7 (List.mem_of_getElem? (i := 143) rfl) rfl) (mg_7 (List.mem_of_getElem? (i := 145) rfl) rfl) (mg_p (List.mem_of_getElem? (i := 57) rfl) rfl) rfl c_X12_fails (sx_zret dX12_newOne_81 rfl)))
def B_X12_newOne_72 (G : GT) (mc ms : Nat) (Q : Post) : Cn := ix_pushI (-1) (ix_icmp_eq (ix_aload 0 (ix_getR 12 1 (ix_pushI 56 (ix_iload 3 (ix_iadd (ix_aload 0 (ix_getR 12 0 (ix_pushI 2376 (ix_iload 1 (ix_iadd (ix_iald (ix_iadd (ix_aload 0 (ix_vcall 12 1 0 0 mc ms (sp_X12_nameHere G) ((B_X12_newOne_105 G mc ms Q)))))))))))))))) ((B_X12_newOne_76 G mc ms Q)))
theorem b_X12_newOne_72 {l : Launch} {G : GT} {D mc ms : Nat} {Q : Post} : Imp l G M_X12_newOne (D + 6) mc ms Q (B_X12_newOne_72 G mc ms Q) 72 := sx_iconst dX12_newOne_72 rfl (sx_icmp_eq 82 dX12_newOne_73 (by decide) (sx_aload_n dX12_newOne_82 rfl (sx_getR dX12_newOne_83 fl_FootQuarrelModel_13 (fun _ _ _ => rfl) (sx_bipush dX12_newOne_86 rfl (sx_iload_n dX12_newOne_88 rfl (sx_iadd dX12_newOne_89 (sx_aload_n dX12_newOne_90 rfl (sx_getR dX12_newOne_91 fl_FootQuarrelModel_7 (fun _ _ _ => rfl) (sx_sipush dX12_newOne_94 rfl (sx_iload_n dX12_newOne_97 rfl (sx_iadd dX12_newOne_98 (sx_iald dX12_newOne_99 (sx_iadd dX12_newOne_100 (sx_aload_n dX12_newOne_101 rfl (sx_vcall dX12_newOne_102 cf_X12_nameHere (mg_7 (List.mem_of_getElem? (i := 167) rfl) rfl) (mg_7 (List.mem_of_getElem? (i := 169) rfl) rfl) (mg_p (List.mem_of_getElem? (i := 63) rfl) rfl) rfl c_X12_nameHere (b_X12_newOne_105))))))))))))))) (b_X12_newOne_76))
def B_X12_newOne_54 (G : GT) (mc ms : Nat) (Q : Post) : Cn := ix_pushI (-1) (ix_icmp_ne ((B_X12_newOne_76 G mc ms Q)) (ix_aload 0 (ix_pushI 62 (ix_aload 0 (ix_getR 12 0 (ix_pushI 2377 (ix_iald (ix_vcall 12 3 0 0 mc ms (sp_X12_findHere G) ((B_X12_newOne_72 G mc ms Q))))))))))
theorem b_X12_newOne_54 {l : Launch} {G : GT} {D mc ms : Nat} {Q : Post} : Imp l G M_X12_newOne (D + 6) mc ms Q (B_X12_newOne_54 G mc ms Q) 54 := sx_iconst dX12_newOne_54 rfl (sx_icmp_ne 76 dX12_newOne_55 (by decide) (b_X12_newOne_76) (sx_aload_n dX12_newOne_58 rfl (sx_bipush dX12_newOne_59 rfl (sx_aload_n dX12_newOne_61 rfl (sx_getR dX12_newOne_62 fl_FootQuarrelModel_7 (fun _ _ _ => rfl) (sx_sipush dX12_newOne_65 rfl (sx_iald dX12_newOne_68 (sx_vcall dX12_newOne_69 cf_X12_findHere (mg_7 (List.mem_of_getElem? (i := 163) rfl) rfl) (mg_7 (List.mem_of_getElem? (i := 165) rfl) rfl) (mg_p (List.mem_of_getElem? (i := 62) rfl) rfl) rfl c_X12_findHere (b_X12_newOne_72)))))))))
def B_X12_newOne_31 (G : GT) (mc ms : Nat) (Q : Post) : Cn := ix_if_ne (ix_aload 0 (ix_pushI 56 (ix_aload 0 (ix_getR 12 0 (ix_pushI 2376 (ix_iald (ix_vcall 12 3 0 0 mc ms (sp_X12_findHere G) ((B_X12_newOne_54 G mc ms Q))))))))) (ix_aload 0 (ix_pushI 2 (ix_vcall 12 2 0 0 mc ms (sp_X12_fails G) (ix_zret mc ms Q))))
theorem b_X12_newOne_31 {l : Launch} {G : GT} {D mc ms : Nat} {Q : Post} : Imp l G M_X12_newOne (D + 6) mc ms Q (B_X12_newOne_31 G mc ms Q) 31 := sx_if_ne 40 dX12_newOne_31 (by decide) (sx_aload_n dX12_newOne_40 rfl (sx_bipush dX12_newOne_41 rfl (sx_aload_n dX12_newOne_43 rfl (sx_getR dX12_newOne_44 fl_FootQuarrelModel_7 (fun _ _ _ => rfl) (sx_sipush dX12_newOne_47 rfl (sx_iald dX12_newOne_50 (sx_vcall dX12_newOne_51 cf_X12_findHere (mg_7 (List.mem_of_getElem? (i := 163) rfl) rfl) (mg_7 (List.mem_of_getElem? (i := 165) rfl) rfl) (mg_p (List.mem_of_getElem? (i := 62) rfl) rfl) rfl c_X12_findHere (b_X12_newOne_54)))))))) (sx_aload_n dX12_newOne_34 rfl (sx_iconst dX12_newOne_35 rfl (sx_vcall dX12_newOne_36 cf_X12_fails (mg_7 (List.mem_of_getElem? (i := 143) rfl) rfl) (mg_7 (List.mem_of_getElem? (i := 145) rfl) rfl) (mg_p (List.mem_of_getElem? (i := 57) rfl) rfl) rfl c_X12_fails (sx_zret dX12_newOne_39 rfl))))
def B_X12_newOne_25 (G : GT) (mc ms : Nat) (Q : Post) : Cn := ix_aload 0 (ix_ldcS G 1 (ix_vcall 12 2 0 0 mc ms (sp_X12_isName G) ((B_X12_newOne_31 G mc ms Q))))
theorem b_X12_newOne_25 {l : Launch} {G : GT} {D mc ms : Nat} {Q : Post} : Imp l G M_X12_newOne (D + 6) mc ms Q (B_X12_newOne_25 G mc ms Q) 25 := sx_aload_n dX12_newOne_25 rfl (sx_ldcS 168 dX12_newOne_26 (Or.inr ⟨rfl, rfl, rfl⟩) (sx_vcall dX12_newOne_28 cf_X12_isName (mg_7 (List.mem_of_getElem? (i := 159) rfl) rfl) (mg_7 (List.mem_of_getElem? (i := 161) rfl) rfl) (mg_p (List.mem_of_getElem? (i := 61) rfl) rfl) rfl c_X12_isName (b_X12_newOne_31)))
def B_X12_newOne_0 (G : GT) (mc ms : Nat) (Q : Post) : Cn := ix_aload 0 (ix_getR 12 0 (ix_pushI 2376 (ix_iload 1 (ix_iadd (ix_iald (ix_iload 2 (ix_icmp_ne (ix_aload 0 (ix_vcall 12 1 0 0 mc ms (sp_X12_ahead G) ((B_X12_newOne_25 G mc ms Q)))) (ix_aload 0 (ix_pushI 6 (ix_vcall 12 2 0 0 mc ms (sp_X12_fails G) (ix_zret mc ms Q)))))))))))
theorem b_X12_newOne_0 {l : Launch} {G : GT} {D mc ms : Nat} {Q : Post} : Imp l G M_X12_newOne (D + 6) mc ms Q (B_X12_newOne_0 G mc ms Q) 0 := sx_aload_n dX12_newOne_0 rfl (sx_getR dX12_newOne_1 fl_FootQuarrelModel_7 (fun _ _ _ => rfl) (sx_sipush dX12_newOne_4 rfl (sx_iload_n dX12_newOne_7 rfl (sx_iadd dX12_newOne_8 (sx_iald dX12_newOne_9 (sx_iload_n dX12_newOne_10 rfl (sx_icmp_ne 21 dX12_newOne_11 (by decide) (sx_aload_n dX12_newOne_21 rfl (sx_vcall dX12_newOne_22 cf_X12_ahead (mg_7 (List.mem_of_getElem? (i := 112) rfl) rfl) (mg_7 (List.mem_of_getElem? (i := 114) rfl) rfl) (mg_p (List.mem_of_getElem? (i := 52) rfl) rfl) rfl c_X12_ahead (b_X12_newOne_25))) (sx_aload_n dX12_newOne_14 rfl (sx_bipush dX12_newOne_15 rfl (sx_vcall dX12_newOne_17 cf_X12_fails (mg_7 (List.mem_of_getElem? (i := 143) rfl) rfl) (mg_7 (List.mem_of_getElem? (i := 145) rfl) rfl) (mg_p (List.mem_of_getElem? (i := 57) rfl) rfl) rfl c_X12_fails (sx_zret dX12_newOne_20 rfl)))))))))))
def sp_X12_newOne (G : GT) : Sp := fun as S I J z Q => match as with
  | [.ref M, .int many, .int most, .int so] => rfS S M ∧ ∃ n s a b, many = nI a ∧ so = nI b ∧ (a = 0 ∧ b = 0 ∧ most = 6 ∨ a = 1 ∧ b = 6 ∧ most = 8) ∧ psH M I J n s ∧ okN (s.1 2376) 6 ∧ okN (s.1 2377) 8 ∧ RQ M S I J z n (pNw (I (M + 7)) n a b most s) Q
  | _ => False
set_option maxHeartbeats 4000000 in
set_option maxRecDepth 20000 in
theorem c_X12_newOne {l : Launch} {G : GT} {D : Nat} : ∀ as S I J z Q, sp_X12_newOne G as S I J z Q → fqCall l G M_X12_newOne (D + 6) 0 0 as S I J z Q := by
  intro as S I J z Q h
  unfold sp_X12_newOne at h
  split at h
  · next M many most so =>
    obtain ⟨hm, n, s, a, b, rfl, rfl, hab, hP, hc0, hc1, hR⟩ := h
    obtain ⟨c0, h0, e0, e02⟩ := hc0.ex
    obtain ⟨c1, h1, e1, e12⟩ := hc1.ex
    have ha : a ≤ 1 := by omega
    unfold pNw at hR
    have i0 : I (M + 1) (2376 + a) = s.1 (2376 + a) := by rw [hP.1]
    refine fq_enter [some (.ref M), some (.int (nI a)), some (.int most), some (.int (nI b))] (by decide +kernel) (Nat.le_of_ble_eq_true rfl) rfl (b_X12_newOne_0 _ _ _ _ _ _ _ _ ?_)
    simp (disch := omega) only [B_X12_newOne_0, hm, hm.k, hm.k1, hm.n1, hm.r1, hm.k2, hm.n2, hm.r2, hm.k3, hm.n3, hm.r3, hm.k4, hm.n4, hm.r4, hm.k5, hm.n5, hm.r5, hm.k6, hm.n6, hm.r6, hm.k7, hm.n7, hm.r7, hm.k8, hm.n8, hm.r8, hm.k9, hm.n9, hm.r9, hm.k10, hm.n10, hm.r10, hm.k11, hm.n11, hm.r11, hm.k12, hm.n12, hm.r12, hm.k13, hm.n13, hm.r13, hm.k14, hm.n14, hm.r14, i0, nI_1, nI_add, nI_clamp, nI_pin, nI_neg, nI_nonneg, nI_leE, nI_ltE, nI_eqE, Nat.not_le, Nat.not_lt, fq_10, fq_01, fq_rr, li_2, li_3, li_4, li_5, li_6, li_7, li_8, li_9, li_10, li_11, li_12, li_13, li_14, li_15, li_16, li_17, li_18, li_19, li_20, li_21, li_22, li_23, li_24, li_25, li_26, li_27, li_28, li_29, li_30, li_32, li_33, li_34, li_35, li_36, li_37, li_38, li_39, li_40, li_41, li_42, li_43, li_44, li_45, li_46, li_47, li_48, li_49, li_50, li_51, li_52, li_53, li_54, li_55, li_56, li_57, li_58, li_59, li_60, li_61, li_62, li_63, li_64, li_65, li_66, li_67, li_68, li_69, li_70, li_71, li_72, li_73, li_74, li_75, li_76, li_77, li_78, li_79, li_80, li_81, li_82, li_83, li_84, li_85, li_86, li_87, li_88, li_89, li_90, li_91, li_92, li_93, li_94, li_95, li_96, li_97, li_98, li_99, li_100, li_101, li_102, li_103, li_104, li_105, li_106, li_107, li_108, li_109, li_110, li_111, li_112, li_113, li_114, li_115, li_116, li_117, li_118, li_119, li_120, li_121, li_122, li_123, li_124, li_125, li_126, li_127, li_128, li_129, li_130, li_131, li_226, li_240, li_255, li_300, li_586, li_594, li_900, li_999, li_1000, li_1800, li_2376, li_2388, li_2406, li_2602, li_2970, li_3067, li_3564, li_9999, li_10000, li_11287, li_65536, li_100000, li_1000000, nI_mul, tn0, tn1, vin0, vin1, Int32.add_zero, Int32.or_zero, Int32.mul_one, Int32.mul_zero, Int32.zero_add, Nat.reduceEqDiff, Nat.reduceMul, Nat.reduceSub, lt_2377, lt_2379, lt_2380, lt_2381, lt_2384, lt_2387, lt_2962, lt_2963, lt_1806, lt_1822, lt_1823, ix_aald, ix_aast, ix_abs, ix_alen, ix_aload, ix_aret, ix_astore, ix_bald, ix_bast, ix_call, ix_cpyI, ix_cpyJ, ix_dead, ix_dup2, ix_dup2L, ix_dupI, ix_dupR, ix_dupx1, ix_getI, ix_getJ, ix_getR, ix_gfm, ix_gtab, ix_i2b, ix_i2c, ix_i2l, ix_i2s, ix_iadd, ix_iald, ix_iand, ix_iast, ix_icall, ix_icmp_eq, ix_icmp_ge, ix_icmp_gt, ix_icmp_le, ix_icmp_lt, ix_icmp_ne, ix_idiv, ix_if_eq, ix_if_ge, ix_if_gt, ix_if_le, ix_if_lt, ix_if_ne, ix_iinc, ix_iload, ix_imul, ix_ineg, ix_ior, ix_irem, ix_iret, ix_ishl, ix_ishr, ix_istore, ix_isub, ix_iushr, ix_ixor, ix_l2i, ix_ladd, ix_lald, ix_land, ix_last, ix_lcmp, ix_ldcS, ix_ldiv, ix_lload, ix_lmul, ix_lor, ix_lrem, ix_lret, ix_lshl, ix_lstore, ix_lsub, ix_lsw, ix_max, ix_min, ix_new, ix_newa, ix_nret, ix_oinit, ix_pop2L, ix_popI, ix_pushI, ix_pushL, ix_putI, ix_putJ, ix_putR, ix_putZ, ix_sbald, ix_sgetC, ix_sgetV, ix_slen, ix_strc, ix_tald, ix_tsw, ix_vcall, ix_vret, ix_zret, stL, stL2, kilL, popN, fq_sw, fq_lsw, List.map_cons, List.map_nil, List.getElem?_cons_zero, List.getElem?_cons_succ, Option.toList_some, Option.toList_none, List.cons_append, List.nil_append, List.length_cons, List.length_nil, List.sum_cons, List.sum_nil, cat_i, cat_l, cat_r, true_and, and_true, Nat.zero_add, Nat.add_zero, Nat.le_refl, Nat.zero_le, Nat.reduceAdd, Nat.reduceLeDiff, exists_eq_left', Option.some.injEq, not_true_eq_false, not_false_eq_true, false_implies, true_implies, implies_true, and_self, or_true, true_or, or_false, false_or]
    refine ⟨fun hne => ahead_R hm hP ?_, fun heq => ?_⟩
    · rw [if_neg hne] at hR
      intro I1 hF hP1 k20 k22 k23 k8
      have t7 := hF.t
      have hR := RES.on hF k20 k22 k23 k8 hR
      have j0 : ∀ j, I1 (M + 1) j = s.1 j := fun j => by rw [hP1.1]
      simp (disch := omega) only [B_X12_newOne_25, hm, hm.k, hm.k1, hm.n1, hm.r1, hm.k2, hm.n2, hm.r2, hm.k3, hm.n3, hm.r3, hm.k4, hm.n4, hm.r4, hm.k5, hm.n5, hm.r5, hm.k6, hm.n6, hm.r6, hm.k7, hm.n7, hm.r7, hm.k8, hm.n8, hm.r8, hm.k9, hm.n9, hm.r9, hm.k10, hm.n10, hm.r10, hm.k11, hm.n11, hm.r11, hm.k12, hm.n12, hm.r12, hm.k13, hm.n13, hm.r13, hm.k14, hm.n14, hm.r14, nI_1, nI_add, nI_clamp, nI_pin, nI_neg, nI_nonneg, nI_leE, nI_ltE, nI_eqE, Nat.not_le, Nat.not_lt, fq_10, fq_01, fq_rr, li_2, li_3, li_4, li_5, li_6, li_7, li_8, li_9, li_10, li_11, li_12, li_13, li_14, li_15, li_16, li_17, li_18, li_19, li_20, li_21, li_22, li_23, li_24, li_25, li_26, li_27, li_28, li_29, li_30, li_32, li_33, li_34, li_35, li_36, li_37, li_38, li_39, li_40, li_41, li_42, li_43, li_44, li_45, li_46, li_47, li_48, li_49, li_50, li_51, li_52, li_53, li_54, li_55, li_56, li_57, li_58, li_59, li_60, li_61, li_62, li_63, li_64, li_65, li_66, li_67, li_68, li_69, li_70, li_71, li_72, li_73, li_74, li_75, li_76, li_77, li_78, li_79, li_80, li_81, li_82, li_83, li_84, li_85, li_86, li_87, li_88, li_89, li_90, li_91, li_92, li_93, li_94, li_95, li_96, li_97, li_98, li_99, li_100, li_101, li_102, li_103, li_104, li_105, li_106, li_107, li_108, li_109, li_110, li_111, li_112, li_113, li_114, li_115, li_116, li_117, li_118, li_119, li_120, li_121, li_122, li_123, li_124, li_125, li_126, li_127, li_128, li_129, li_130, li_131, li_226, li_240, li_255, li_300, li_586, li_594, li_900, li_999, li_1000, li_1800, li_2376, li_2388, li_2406, li_2602, li_2970, li_3067, li_3564, li_9999, li_10000, li_11287, li_65536, li_100000, li_1000000, nI_mul, tn0, tn1, vin0, vin1, Int32.add_zero, Int32.or_zero, Int32.mul_one, Int32.mul_zero, Int32.zero_add, Nat.reduceEqDiff, Nat.reduceMul, Nat.reduceSub, lt_2377, lt_2379, lt_2380, lt_2381, lt_2384, lt_2387, lt_2962, lt_2963, lt_1806, lt_1822, lt_1823, ix_aald, ix_aast, ix_abs, ix_alen, ix_aload, ix_aret, ix_astore, ix_bald, ix_bast, ix_call, ix_cpyI, ix_cpyJ, ix_dead, ix_dup2, ix_dup2L, ix_dupI, ix_dupR, ix_dupx1, ix_getI, ix_getJ, ix_getR, ix_gfm, ix_gtab, ix_i2b, ix_i2c, ix_i2l, ix_i2s, ix_iadd, ix_iald, ix_iand, ix_iast, ix_icall, ix_icmp_eq, ix_icmp_ge, ix_icmp_gt, ix_icmp_le, ix_icmp_lt, ix_icmp_ne, ix_idiv, ix_if_eq, ix_if_ge, ix_if_gt, ix_if_le, ix_if_lt, ix_if_ne, ix_iinc, ix_iload, ix_imul, ix_ineg, ix_ior, ix_irem, ix_iret, ix_ishl, ix_ishr, ix_istore, ix_isub, ix_iushr, ix_ixor, ix_l2i, ix_ladd, ix_lald, ix_land, ix_last, ix_lcmp, ix_ldcS, ix_ldiv, ix_lload, ix_lmul, ix_lor, ix_lrem, ix_lret, ix_lshl, ix_lstore, ix_lsub, ix_lsw, ix_max, ix_min, ix_new, ix_newa, ix_nret, ix_oinit, ix_pop2L, ix_popI, ix_pushI, ix_pushL, ix_putI, ix_putJ, ix_putR, ix_putZ, ix_sbald, ix_sgetC, ix_sgetV, ix_slen, ix_strc, ix_tald, ix_tsw, ix_vcall, ix_vret, ix_zret, stL, stL2, kilL, popN, fq_sw, fq_lsw, List.map_cons, List.map_nil, List.getElem?_cons_zero, List.getElem?_cons_succ, Option.toList_some, Option.toList_none, List.cons_append, List.nil_append, List.length_cons, List.length_nil, List.sum_cons, List.sum_nil, cat_i, cat_l, cat_r, true_and, and_true, Nat.zero_add, Nat.add_zero, Nat.le_refl, Nat.zero_le, Nat.reduceAdd, Nat.reduceLeDiff, exists_eq_left', Option.some.injEq, not_true_eq_false, not_false_eq_true, false_implies, true_implies, implies_true, and_self, or_true, true_or, or_false, false_or]
      refine isName_R hm hP1 ?_
      rw [t7]
      simp (disch := omega) only [B_X12_newOne_31, hm, hm.k, hm.k1, hm.n1, hm.r1, hm.k2, hm.n2, hm.r2, hm.k3, hm.n3, hm.r3, hm.k4, hm.n4, hm.r4, hm.k5, hm.n5, hm.r5, hm.k6, hm.n6, hm.r6, hm.k7, hm.n7, hm.r7, hm.k8, hm.n8, hm.r8, hm.k9, hm.n9, hm.r9, hm.k10, hm.n10, hm.r10, hm.k11, hm.n11, hm.r11, hm.k12, hm.n12, hm.r12, hm.k13, hm.n13, hm.r13, hm.k14, hm.n14, hm.r14, bI_01, bI_01b, bI_0, j0, e0, e1, nI_1, nI_add, nI_clamp, nI_pin, nI_neg, nI_nonneg, nI_leE, nI_ltE, nI_eqE, Nat.not_le, Nat.not_lt, fq_10, fq_01, fq_rr, li_2, li_3, li_4, li_5, li_6, li_7, li_8, li_9, li_10, li_11, li_12, li_13, li_14, li_15, li_16, li_17, li_18, li_19, li_20, li_21, li_22, li_23, li_24, li_25, li_26, li_27, li_28, li_29, li_30, li_32, li_33, li_34, li_35, li_36, li_37, li_38, li_39, li_40, li_41, li_42, li_43, li_44, li_45, li_46, li_47, li_48, li_49, li_50, li_51, li_52, li_53, li_54, li_55, li_56, li_57, li_58, li_59, li_60, li_61, li_62, li_63, li_64, li_65, li_66, li_67, li_68, li_69, li_70, li_71, li_72, li_73, li_74, li_75, li_76, li_77, li_78, li_79, li_80, li_81, li_82, li_83, li_84, li_85, li_86, li_87, li_88, li_89, li_90, li_91, li_92, li_93, li_94, li_95, li_96, li_97, li_98, li_99, li_100, li_101, li_102, li_103, li_104, li_105, li_106, li_107, li_108, li_109, li_110, li_111, li_112, li_113, li_114, li_115, li_116, li_117, li_118, li_119, li_120, li_121, li_122, li_123, li_124, li_125, li_126, li_127, li_128, li_129, li_130, li_131, li_226, li_240, li_255, li_300, li_586, li_594, li_900, li_999, li_1000, li_1800, li_2376, li_2388, li_2406, li_2602, li_2970, li_3067, li_3564, li_9999, li_10000, li_11287, li_65536, li_100000, li_1000000, nI_mul, tn0, tn1, vin0, vin1, Int32.add_zero, Int32.or_zero, Int32.mul_one, Int32.mul_zero, Int32.zero_add, Nat.reduceEqDiff, Nat.reduceMul, Nat.reduceSub, lt_2377, lt_2379, lt_2380, lt_2381, lt_2384, lt_2387, lt_2962, lt_2963, lt_1806, lt_1822, lt_1823, ix_aald, ix_aast, ix_abs, ix_alen, ix_aload, ix_aret, ix_astore, ix_bald, ix_bast, ix_call, ix_cpyI, ix_cpyJ, ix_dead, ix_dup2, ix_dup2L, ix_dupI, ix_dupR, ix_dupx1, ix_getI, ix_getJ, ix_getR, ix_gfm, ix_gtab, ix_i2b, ix_i2c, ix_i2l, ix_i2s, ix_iadd, ix_iald, ix_iand, ix_iast, ix_icall, ix_icmp_eq, ix_icmp_ge, ix_icmp_gt, ix_icmp_le, ix_icmp_lt, ix_icmp_ne, ix_idiv, ix_if_eq, ix_if_ge, ix_if_gt, ix_if_le, ix_if_lt, ix_if_ne, ix_iinc, ix_iload, ix_imul, ix_ineg, ix_ior, ix_irem, ix_iret, ix_ishl, ix_ishr, ix_istore, ix_isub, ix_iushr, ix_ixor, ix_l2i, ix_ladd, ix_lald, ix_land, ix_last, ix_lcmp, ix_ldcS, ix_ldiv, ix_lload, ix_lmul, ix_lor, ix_lrem, ix_lret, ix_lshl, ix_lstore, ix_lsub, ix_lsw, ix_max, ix_min, ix_new, ix_newa, ix_nret, ix_oinit, ix_pop2L, ix_popI, ix_pushI, ix_pushL, ix_putI, ix_putJ, ix_putR, ix_putZ, ix_sbald, ix_sgetC, ix_sgetV, ix_slen, ix_strc, ix_tald, ix_tsw, ix_vcall, ix_vret, ix_zret, stL, stL2, kilL, popN, fq_sw, fq_lsw, List.map_cons, List.map_nil, List.getElem?_cons_zero, List.getElem?_cons_succ, Option.toList_some, Option.toList_none, List.cons_append, List.nil_append, List.length_cons, List.length_nil, List.sum_cons, List.sum_nil, cat_i, cat_l, cat_r, true_and, and_true, Nat.zero_add, Nat.add_zero, Nat.le_refl, Nat.zero_le, Nat.reduceAdd, Nat.reduceLeDiff, exists_eq_left', Option.some.injEq, not_true_eq_false, not_false_eq_true, false_implies, true_implies, implies_true, and_self, or_true, true_or, or_false, false_or]
      refine ⟨fun hnn => findHere_R hm hP1 (by omega) (by omega) ?_, fun hnn => ?_⟩
      · rw [if_neg hnn] at hR
        rw [t7]
        simp (disch := omega) only [B_X12_newOne_54, hm, hm.k, hm.k1, hm.n1, hm.r1, hm.k2, hm.n2, hm.r2, hm.k3, hm.n3, hm.r3, hm.k4, hm.n4, hm.r4, hm.k5, hm.n5, hm.r5, hm.k6, hm.n6, hm.r6, hm.k7, hm.n7, hm.r7, hm.k8, hm.n8, hm.r8, hm.k9, hm.n9, hm.r9, hm.k10, hm.n10, hm.r10, hm.k11, hm.n11, hm.r11, hm.k12, hm.n12, hm.r12, hm.k13, hm.n13, hm.r13, hm.k14, hm.n14, hm.r14, j0, e0, e1, nI_1, nI_add, nI_clamp, nI_pin, nI_neg, nI_nonneg, nI_leE, nI_ltE, nI_eqE, Nat.not_le, Nat.not_lt, fq_10, fq_01, fq_rr, li_2, li_3, li_4, li_5, li_6, li_7, li_8, li_9, li_10, li_11, li_12, li_13, li_14, li_15, li_16, li_17, li_18, li_19, li_20, li_21, li_22, li_23, li_24, li_25, li_26, li_27, li_28, li_29, li_30, li_32, li_33, li_34, li_35, li_36, li_37, li_38, li_39, li_40, li_41, li_42, li_43, li_44, li_45, li_46, li_47, li_48, li_49, li_50, li_51, li_52, li_53, li_54, li_55, li_56, li_57, li_58, li_59, li_60, li_61, li_62, li_63, li_64, li_65, li_66, li_67, li_68, li_69, li_70, li_71, li_72, li_73, li_74, li_75, li_76, li_77, li_78, li_79, li_80, li_81, li_82, li_83, li_84, li_85, li_86, li_87, li_88, li_89, li_90, li_91, li_92, li_93, li_94, li_95, li_96, li_97, li_98, li_99, li_100, li_101, li_102, li_103, li_104, li_105, li_106, li_107, li_108, li_109, li_110, li_111, li_112, li_113, li_114, li_115, li_116, li_117, li_118, li_119, li_120, li_121, li_122, li_123, li_124, li_125, li_126, li_127, li_128, li_129, li_130, li_131, li_226, li_240, li_255, li_300, li_586, li_594, li_900, li_999, li_1000, li_1800, li_2376, li_2388, li_2406, li_2602, li_2970, li_3067, li_3564, li_9999, li_10000, li_11287, li_65536, li_100000, li_1000000, nI_mul, tn0, tn1, vin0, vin1, Int32.add_zero, Int32.or_zero, Int32.mul_one, Int32.mul_zero, Int32.zero_add, Nat.reduceEqDiff, Nat.reduceMul, Nat.reduceSub, lt_2377, lt_2379, lt_2380, lt_2381, lt_2384, lt_2387, lt_2962, lt_2963, lt_1806, lt_1822, lt_1823, ix_aald, ix_aast, ix_abs, ix_alen, ix_aload, ix_aret, ix_astore, ix_bald, ix_bast, ix_call, ix_cpyI, ix_cpyJ, ix_dead, ix_dup2, ix_dup2L, ix_dupI, ix_dupR, ix_dupx1, ix_getI, ix_getJ, ix_getR, ix_gfm, ix_gtab, ix_i2b, ix_i2c, ix_i2l, ix_i2s, ix_iadd, ix_iald, ix_iand, ix_iast, ix_icall, ix_icmp_eq, ix_icmp_ge, ix_icmp_gt, ix_icmp_le, ix_icmp_lt, ix_icmp_ne, ix_idiv, ix_if_eq, ix_if_ge, ix_if_gt, ix_if_le, ix_if_lt, ix_if_ne, ix_iinc, ix_iload, ix_imul, ix_ineg, ix_ior, ix_irem, ix_iret, ix_ishl, ix_ishr, ix_istore, ix_isub, ix_iushr, ix_ixor, ix_l2i, ix_ladd, ix_lald, ix_land, ix_last, ix_lcmp, ix_ldcS, ix_ldiv, ix_lload, ix_lmul, ix_lor, ix_lrem, ix_lret, ix_lshl, ix_lstore, ix_lsub, ix_lsw, ix_max, ix_min, ix_new, ix_newa, ix_nret, ix_oinit, ix_pop2L, ix_popI, ix_pushI, ix_pushL, ix_putI, ix_putJ, ix_putR, ix_putZ, ix_sbald, ix_sgetC, ix_sgetV, ix_slen, ix_strc, ix_tald, ix_tsw, ix_vcall, ix_vret, ix_zret, stL, stL2, kilL, popN, fq_sw, fq_lsw, List.map_cons, List.map_nil, List.getElem?_cons_zero, List.getElem?_cons_succ, Option.toList_some, Option.toList_none, List.cons_append, List.nil_append, List.length_cons, List.length_nil, List.sum_cons, List.sum_nil, cat_i, cat_l, cat_r, true_and, and_true, Nat.zero_add, Nat.add_zero, Nat.le_refl, Nat.zero_le, Nat.reduceAdd, Nat.reduceLeDiff, exists_eq_left', Option.some.injEq, not_true_eq_false, not_false_eq_true, false_implies, true_implies, implies_true, and_self, or_true, true_or, or_false, false_or]
        rw [e02, e12] at hR
        refine ⟨fun g1 => ?_, fun g1 => findHere_R hm hP1 (by omega) (by omega) ?_⟩
        · rw [if_pos (Or.inl g1)] at hR
          simp (disch := omega) only [B_X12_newOne_76, hm, hm.k, hm.k1, hm.n1, hm.r1, hm.k2, hm.n2, hm.r2, hm.k3, hm.n3, hm.r3, hm.k4, hm.n4, hm.r4, hm.k5, hm.n5, hm.r5, hm.k6, hm.n6, hm.r6, hm.k7, hm.n7, hm.r7, hm.k8, hm.n8, hm.r8, hm.k9, hm.n9, hm.r9, hm.k10, hm.n10, hm.r10, hm.k11, hm.n11, hm.r11, hm.k12, hm.n12, hm.r12, hm.k13, hm.n13, hm.r13, hm.k14, hm.n14, hm.r14, nI_1, nI_add, nI_clamp, nI_pin, nI_neg, nI_nonneg, nI_leE, nI_ltE, nI_eqE, Nat.not_le, Nat.not_lt, fq_10, fq_01, fq_rr, li_2, li_3, li_4, li_5, li_6, li_7, li_8, li_9, li_10, li_11, li_12, li_13, li_14, li_15, li_16, li_17, li_18, li_19, li_20, li_21, li_22, li_23, li_24, li_25, li_26, li_27, li_28, li_29, li_30, li_32, li_33, li_34, li_35, li_36, li_37, li_38, li_39, li_40, li_41, li_42, li_43, li_44, li_45, li_46, li_47, li_48, li_49, li_50, li_51, li_52, li_53, li_54, li_55, li_56, li_57, li_58, li_59, li_60, li_61, li_62, li_63, li_64, li_65, li_66, li_67, li_68, li_69, li_70, li_71, li_72, li_73, li_74, li_75, li_76, li_77, li_78, li_79, li_80, li_81, li_82, li_83, li_84, li_85, li_86, li_87, li_88, li_89, li_90, li_91, li_92, li_93, li_94, li_95, li_96, li_97, li_98, li_99, li_100, li_101, li_102, li_103, li_104, li_105, li_106, li_107, li_108, li_109, li_110, li_111, li_112, li_113, li_114, li_115, li_116, li_117, li_118, li_119, li_120, li_121, li_122, li_123, li_124, li_125, li_126, li_127, li_128, li_129, li_130, li_131, li_226, li_240, li_255, li_300, li_586, li_594, li_900, li_999, li_1000, li_1800, li_2376, li_2388, li_2406, li_2602, li_2970, li_3067, li_3564, li_9999, li_10000, li_11287, li_65536, li_100000, li_1000000, nI_mul, tn0, tn1, vin0, vin1, Int32.add_zero, Int32.or_zero, Int32.mul_one, Int32.mul_zero, Int32.zero_add, Nat.reduceEqDiff, Nat.reduceMul, Nat.reduceSub, lt_2377, lt_2379, lt_2380, lt_2381, lt_2384, lt_2387, lt_2962, lt_2963, lt_1806, lt_1822, lt_1823, ix_aald, ix_aast, ix_abs, ix_alen, ix_aload, ix_aret, ix_astore, ix_bald, ix_bast, ix_call, ix_cpyI, ix_cpyJ, ix_dead, ix_dup2, ix_dup2L, ix_dupI, ix_dupR, ix_dupx1, ix_getI, ix_getJ, ix_getR, ix_gfm, ix_gtab, ix_i2b, ix_i2c, ix_i2l, ix_i2s, ix_iadd, ix_iald, ix_iand, ix_iast, ix_icall, ix_icmp_eq, ix_icmp_ge, ix_icmp_gt, ix_icmp_le, ix_icmp_lt, ix_icmp_ne, ix_idiv, ix_if_eq, ix_if_ge, ix_if_gt, ix_if_le, ix_if_lt, ix_if_ne, ix_iinc, ix_iload, ix_imul, ix_ineg, ix_ior, ix_irem, ix_iret, ix_ishl, ix_ishr, ix_istore, ix_isub, ix_iushr, ix_ixor, ix_l2i, ix_ladd, ix_lald, ix_land, ix_last, ix_lcmp, ix_ldcS, ix_ldiv, ix_lload, ix_lmul, ix_lor, ix_lrem, ix_lret, ix_lshl, ix_lstore, ix_lsub, ix_lsw, ix_max, ix_min, ix_new, ix_newa, ix_nret, ix_oinit, ix_pop2L, ix_popI, ix_pushI, ix_pushL, ix_putI, ix_putJ, ix_putR, ix_putZ, ix_sbald, ix_sgetC, ix_sgetV, ix_slen, ix_strc, ix_tald, ix_tsw, ix_vcall, ix_vret, ix_zret, stL, stL2, kilL, popN, fq_sw, fq_lsw, List.map_cons, List.map_nil, List.getElem?_cons_zero, List.getElem?_cons_succ, Option.toList_some, Option.toList_none, List.cons_append, List.nil_append, List.length_cons, List.length_nil, List.sum_cons, List.sum_nil, cat_i, cat_l, cat_r, true_and, and_true, Nat.zero_add, Nat.add_zero, Nat.le_refl, Nat.zero_le, Nat.reduceAdd, Nat.reduceLeDiff, exists_eq_left', Option.some.injEq, not_true_eq_false, not_false_eq_true, false_implies, true_implies, implies_true, and_self, or_true, true_or, or_false, false_or]
          refine fails_R hm hP1 ?_
          rw [t7]
          exact hR.imp (fun _ _ h => ⟨Or.inr rfl, h⟩) (fun _ _ h => ⟨Or.inl rfl, h⟩)
        · rw [t7]
          simp (disch := omega) only [B_X12_newOne_72, B_X12_newOne_76, hm, hm.k, hm.k1, hm.n1, hm.r1, hm.k2, hm.n2, hm.r2, hm.k3, hm.n3, hm.r3, hm.k4, hm.n4, hm.r4, hm.k5, hm.n5, hm.r5, hm.k6, hm.n6, hm.r6, hm.k7, hm.n7, hm.r7, hm.k8, hm.n8, hm.r8, hm.k9, hm.n9, hm.r9, hm.k10, hm.n10, hm.r10, hm.k11, hm.n11, hm.r11, hm.k12, hm.n12, hm.r12, hm.k13, hm.n13, hm.r13, hm.k14, hm.n14, hm.r14, j0, nI_1, nI_add, nI_clamp, nI_pin, nI_neg, nI_nonneg, nI_leE, nI_ltE, nI_eqE, Nat.not_le, Nat.not_lt, fq_10, fq_01, fq_rr, li_2, li_3, li_4, li_5, li_6, li_7, li_8, li_9, li_10, li_11, li_12, li_13, li_14, li_15, li_16, li_17, li_18, li_19, li_20, li_21, li_22, li_23, li_24, li_25, li_26, li_27, li_28, li_29, li_30, li_32, li_33, li_34, li_35, li_36, li_37, li_38, li_39, li_40, li_41, li_42, li_43, li_44, li_45, li_46, li_47, li_48, li_49, li_50, li_51, li_52, li_53, li_54, li_55, li_56, li_57, li_58, li_59, li_60, li_61, li_62, li_63, li_64, li_65, li_66, li_67, li_68, li_69, li_70, li_71, li_72, li_73, li_74, li_75, li_76, li_77, li_78, li_79, li_80, li_81, li_82, li_83, li_84, li_85, li_86, li_87, li_88, li_89, li_90, li_91, li_92, li_93, li_94, li_95, li_96, li_97, li_98, li_99, li_100, li_101, li_102, li_103, li_104, li_105, li_106, li_107, li_108, li_109, li_110, li_111, li_112, li_113, li_114, li_115, li_116, li_117, li_118, li_119, li_120, li_121, li_122, li_123, li_124, li_125, li_126, li_127, li_128, li_129, li_130, li_131, li_226, li_240, li_255, li_300, li_586, li_594, li_900, li_999, li_1000, li_1800, li_2376, li_2388, li_2406, li_2602, li_2970, li_3067, li_3564, li_9999, li_10000, li_11287, li_65536, li_100000, li_1000000, nI_mul, tn0, tn1, vin0, vin1, Int32.add_zero, Int32.or_zero, Int32.mul_one, Int32.mul_zero, Int32.zero_add, Nat.reduceEqDiff, Nat.reduceMul, Nat.reduceSub, lt_2377, lt_2379, lt_2380, lt_2381, lt_2384, lt_2387, lt_2962, lt_2963, lt_1806, lt_1822, lt_1823, ix_aald, ix_aast, ix_abs, ix_alen, ix_aload, ix_aret, ix_astore, ix_bald, ix_bast, ix_call, ix_cpyI, ix_cpyJ, ix_dead, ix_dup2, ix_dup2L, ix_dupI, ix_dupR, ix_dupx1, ix_getI, ix_getJ, ix_getR, ix_gfm, ix_gtab, ix_i2b, ix_i2c, ix_i2l, ix_i2s, ix_iadd, ix_iald, ix_iand, ix_iast, ix_icall, ix_icmp_eq, ix_icmp_ge, ix_icmp_gt, ix_icmp_le, ix_icmp_lt, ix_icmp_ne, ix_idiv, ix_if_eq, ix_if_ge, ix_if_gt, ix_if_le, ix_if_lt, ix_if_ne, ix_iinc, ix_iload, ix_imul, ix_ineg, ix_ior, ix_irem, ix_iret, ix_ishl, ix_ishr, ix_istore, ix_isub, ix_iushr, ix_ixor, ix_l2i, ix_ladd, ix_lald, ix_land, ix_last, ix_lcmp, ix_ldcS, ix_ldiv, ix_lload, ix_lmul, ix_lor, ix_lrem, ix_lret, ix_lshl, ix_lstore, ix_lsub, ix_lsw, ix_max, ix_min, ix_new, ix_newa, ix_nret, ix_oinit, ix_pop2L, ix_popI, ix_pushI, ix_pushL, ix_putI, ix_putJ, ix_putR, ix_putZ, ix_sbald, ix_sgetC, ix_sgetV, ix_slen, ix_strc, ix_tald, ix_tsw, ix_vcall, ix_vret, ix_zret, stL, stL2, kilL, popN, fq_sw, fq_lsw, List.map_cons, List.map_nil, List.getElem?_cons_zero, List.getElem?_cons_succ, Option.toList_some, Option.toList_none, List.cons_append, List.nil_append, List.length_cons, List.length_nil, List.sum_cons, List.sum_nil, cat_i, cat_l, cat_r, true_and, and_true, Nat.zero_add, Nat.add_zero, Nat.le_refl, Nat.zero_le, Nat.reduceAdd, Nat.reduceLeDiff, exists_eq_left', Option.some.injEq, not_true_eq_false, not_false_eq_true, false_implies, true_implies, implies_true, and_self, or_true, true_or, or_false, false_or]
          refine ⟨fun g2 => nameHere_R hm hP1 ?_, fun g2 => ?_⟩
          · rw [if_neg (fun q => q.elim (fun q => q g1) (fun q => q g2))] at hR
            rw [t7]
            obtain ⟨cn, hcn, ecn⟩ : ∃ cn, cn ≤ 8 ∧ s.1 (2376 + a) = nI cn := by
              rcases hab with ⟨rfl, _, _⟩ | ⟨rfl, _, _⟩
              · exact ⟨c0, by omega, e0⟩
              · exact ⟨c1, h1, e1⟩
            have hb : b ≤ 6 := by omega
            rw [ecn, nI_clamp (by omega)] at hR
            rw [ecn]
            simp (disch := omega) only [B_X12_newOne_105, hm, hm.k, hm.k1, hm.n1, hm.r1, hm.k2, hm.n2, hm.r2, hm.k3, hm.n3, hm.r3, hm.k4, hm.n4, hm.r4, hm.k5, hm.n5, hm.r5, hm.k6, hm.n6, hm.r6, hm.k7, hm.n7, hm.r7, hm.k8, hm.n8, hm.r8, hm.k9, hm.n9, hm.r9, hm.k10, hm.n10, hm.r10, hm.k11, hm.n11, hm.r11, hm.k12, hm.n12, hm.r12, hm.k13, hm.n13, hm.r13, hm.k14, hm.n14, hm.r14, nI_1, nI_add, nI_clamp, nI_pin, nI_neg, nI_nonneg, nI_leE, nI_ltE, nI_eqE, Nat.not_le, Nat.not_lt, fq_10, fq_01, fq_rr, li_2, li_3, li_4, li_5, li_6, li_7, li_8, li_9, li_10, li_11, li_12, li_13, li_14, li_15, li_16, li_17, li_18, li_19, li_20, li_21, li_22, li_23, li_24, li_25, li_26, li_27, li_28, li_29, li_30, li_32, li_33, li_34, li_35, li_36, li_37, li_38, li_39, li_40, li_41, li_42, li_43, li_44, li_45, li_46, li_47, li_48, li_49, li_50, li_51, li_52, li_53, li_54, li_55, li_56, li_57, li_58, li_59, li_60, li_61, li_62, li_63, li_64, li_65, li_66, li_67, li_68, li_69, li_70, li_71, li_72, li_73, li_74, li_75, li_76, li_77, li_78, li_79, li_80, li_81, li_82, li_83, li_84, li_85, li_86, li_87, li_88, li_89, li_90, li_91, li_92, li_93, li_94, li_95, li_96, li_97, li_98, li_99, li_100, li_101, li_102, li_103, li_104, li_105, li_106, li_107, li_108, li_109, li_110, li_111, li_112, li_113, li_114, li_115, li_116, li_117, li_118, li_119, li_120, li_121, li_122, li_123, li_124, li_125, li_126, li_127, li_128, li_129, li_130, li_131, li_226, li_240, li_255, li_300, li_586, li_594, li_900, li_999, li_1000, li_1800, li_2376, li_2388, li_2406, li_2602, li_2970, li_3067, li_3564, li_9999, li_10000, li_11287, li_65536, li_100000, li_1000000, nI_mul, tn0, tn1, vin0, vin1, Int32.add_zero, Int32.or_zero, Int32.mul_one, Int32.mul_zero, Int32.zero_add, Nat.reduceEqDiff, Nat.reduceMul, Nat.reduceSub, lt_2377, lt_2379, lt_2380, lt_2381, lt_2384, lt_2387, lt_2962, lt_2963, lt_1806, lt_1822, lt_1823, ix_aald, ix_aast, ix_abs, ix_alen, ix_aload, ix_aret, ix_astore, ix_bald, ix_bast, ix_call, ix_cpyI, ix_cpyJ, ix_dead, ix_dup2, ix_dup2L, ix_dupI, ix_dupR, ix_dupx1, ix_getI, ix_getJ, ix_getR, ix_gfm, ix_gtab, ix_i2b, ix_i2c, ix_i2l, ix_i2s, ix_iadd, ix_iald, ix_iand, ix_iast, ix_icall, ix_icmp_eq, ix_icmp_ge, ix_icmp_gt, ix_icmp_le, ix_icmp_lt, ix_icmp_ne, ix_idiv, ix_if_eq, ix_if_ge, ix_if_gt, ix_if_le, ix_if_lt, ix_if_ne, ix_iinc, ix_iload, ix_imul, ix_ineg, ix_ior, ix_irem, ix_iret, ix_ishl, ix_ishr, ix_istore, ix_isub, ix_iushr, ix_ixor, ix_l2i, ix_ladd, ix_lald, ix_land, ix_last, ix_lcmp, ix_ldcS, ix_ldiv, ix_lload, ix_lmul, ix_lor, ix_lrem, ix_lret, ix_lshl, ix_lstore, ix_lsub, ix_lsw, ix_max, ix_min, ix_new, ix_newa, ix_nret, ix_oinit, ix_pop2L, ix_popI, ix_pushI, ix_pushL, ix_putI, ix_putJ, ix_putR, ix_putZ, ix_sbald, ix_sgetC, ix_sgetV, ix_slen, ix_strc, ix_tald, ix_tsw, ix_vcall, ix_vret, ix_zret, stL, stL2, kilL, popN, fq_sw, fq_lsw, List.map_cons, List.map_nil, List.getElem?_cons_zero, List.getElem?_cons_succ, Option.toList_some, Option.toList_none, List.cons_append, List.nil_append, List.length_cons, List.length_nil, List.sum_cons, List.sum_nil, cat_i, cat_l, cat_r, true_and, and_true, Nat.zero_add, Nat.add_zero, Nat.le_refl, Nat.zero_le, Nat.reduceAdd, Nat.reduceLeDiff, exists_eq_left', Option.some.injEq, not_true_eq_false, not_false_eq_true, false_implies, true_implies, implies_true, and_self, or_true, true_or, or_false, false_or]
            have hP2 : psH M I1 (u2 J (M + 2) (56 + b + cn) (nmH (I (M + 7)) n (tE (I (M + 7)) n s.2.2))) n (s.1, uA s.2.1 (56 + b + cn) (nmH (I (M + 7)) n (tE (I (M + 7)) n s.2.2)), tE (I (M + 7)) n s.2.2) := ⟨hP1.1, by rw [u2_up0, up1_at, hP1.2.1], hP1.2.2.1, hP1.2.2.2.1, hP1.2.2.2.2⟩
            refine ahead_R hm hP2 ?_
            intro I2 hF2 hP3 x20 x22 x23 x8
            rw [t7] at hP3
            refine ⟨Or.inr rfl, hR I2 _ (txF.tr ⟨fun _ _ _ _ => rfl, fun _ _ _ _ _ _ _ _ _ _ => rfl, fun _ _ => rfl, fun a ha => u2_ne ha, fun j hj => u2_ck _ _ _ _ _ _ (by omega)⟩ hF2) hP3 x20 x22 x23 x8⟩
          · rw [if_pos (Or.inr g2)] at hR
            refine fails_R hm hP1 ?_
            rw [t7]
            exact hR.imp (fun _ _ h => ⟨Or.inr rfl, h⟩) (fun _ _ h => ⟨Or.inl rfl, h⟩)
      · rw [if_pos hnn] at hR
        refine fails_R hm hP1 ?_
        rw [t7]
        exact hR.imp (fun _ _ h => ⟨Or.inr rfl, h⟩) (fun _ _ h => ⟨Or.inl rfl, h⟩)
    · rw [if_pos heq] at hR
      refine fails_R hm hP ?_
      exact hR.imp (fun _ _ h => ⟨Or.inr rfl, h⟩) (fun _ _ h => ⟨Or.inl rfl, h⟩)
  · exact h.elim
theorem newOne_R {G : GT} {M a b n z : Nat} {S : Sh} {I : IH} {J : JH} {s : PSt} {most : Int32} {Q : Post} (hm : rfS S M) (hab : a = 0 ∧ b = 0 ∧ most = 6 ∨ a = 1 ∧ b = 6 ∧ most = 8) (hP : psH M I J n s) (hc0 : okN (s.1 2376) 6) (hc1 : okN (s.1 2377) 8) (hR : RQ M S I J z n (pNw (I (M + 7)) n a b most s) Q) : sp_X12_newOne G [.ref M, .int (nI a), .int most, .int (nI b)] S I J z Q := ⟨hm, n, s, a, b, rfl, rfl, hab, hP, hc0, hc1, hR⟩
/-- a house told -/
def pHs (T : Nat → Int32) (n : Nat) (s : PSt) : PR := pB (pNw T n 0 0 6 s) (fun s1 => pB (pWd T n 6 s1) (fun s2 => pB (pNum T n (2388 + 3 * (s.1 2376).toNatClampNeg) 0 99 s2) (fun s3 => .inr (uA (uA s3.1 (2388 + 3 * (s.1 2376).toNatClampNeg + 1) (s3.1 (2388 + 3 * (s.1 2376).toNatClampNeg))) 2376 (s3.1 2376 + 1), s3.2.1, s3.2.2))))
theorem dX12_aHouse_0 : decode cX12_aHouse 0 = .ok (.sipush 2388, 3) := by decide +kernel
theorem dX12_aHouse_3 : decode cX12_aHouse 3 = .ok (.iconst 3, 1) := by decide +kernel
theorem dX12_aHouse_4 : decode cX12_aHouse 4 = .ok (.aload_n 0, 1) := by decide +kernel
theorem dX12_aHouse_5 : decode cX12_aHouse 5 = .ok (.getfield 7, 3) := by decide +kernel
theorem dX12_aHouse_8 : decode cX12_aHouse 8 = .ok (.sipush 2376, 3) := by decide +kernel
theorem dX12_aHouse_11 : decode cX12_aHouse 11 = .ok (.iaload, 1) := by decide +kernel
theorem dX12_aHouse_12 : decode cX12_aHouse 12 = .ok (.imul, 1) := by decide +kernel
theorem dX12_aHouse_13 : decode cX12_aHouse 13 = .ok (.iadd, 1) := by decide +kernel
theorem dX12_aHouse_14 : decode cX12_aHouse 14 = .ok (.istore_n 1, 1) := by decide +kernel
theorem dX12_aHouse_15 : decode cX12_aHouse 15 = .ok (.aload_n 0, 1) := by decide +kernel
theorem dX12_aHouse_16 : decode cX12_aHouse 16 = .ok (.iconst 0, 1) := by decide +kernel
theorem dX12_aHouse_17 : decode cX12_aHouse 17 = .ok (.bipush 6, 2) := by decide +kernel
theorem dX12_aHouse_19 : decode cX12_aHouse 19 = .ok (.iconst 0, 1) := by decide +kernel
theorem dX12_aHouse_20 : decode cX12_aHouse 20 = .ok (.invokevirtual 177, 3) := by decide +kernel
theorem dX12_aHouse_23 : decode cX12_aHouse 23 = .ok (.ifCond .eq 25, 3) := by decide +kernel
theorem dX12_aHouse_26 : decode cX12_aHouse 26 = .ok (.aload_n 0, 1) := by decide +kernel
theorem dX12_aHouse_27 : decode cX12_aHouse 27 = .ok (.ldc 168, 2) := by decide +kernel
theorem dX12_aHouse_29 : decode cX12_aHouse 29 = .ok (.bipush 6, 2) := by decide +kernel
theorem dX12_aHouse_31 : decode cX12_aHouse 31 = .ok (.invokevirtual 181, 3) := by decide +kernel
theorem dX12_aHouse_34 : decode cX12_aHouse 34 = .ok (.ifCond .eq 14, 3) := by decide +kernel
theorem dX12_aHouse_37 : decode cX12_aHouse 37 = .ok (.aload_n 0, 1) := by decide +kernel
theorem dX12_aHouse_38 : decode cX12_aHouse 38 = .ok (.iload_n 1, 1) := by decide +kernel
theorem dX12_aHouse_39 : decode cX12_aHouse 39 = .ok (.iconst 0, 1) := by decide +kernel
theorem dX12_aHouse_40 : decode cX12_aHouse 40 = .ok (.bipush 99, 2) := by decide +kernel
theorem dX12_aHouse_42 : decode cX12_aHouse 42 = .ok (.invokevirtual 185, 3) := by decide +kernel
theorem dX12_aHouse_45 : decode cX12_aHouse 45 = .ok (.ifCond .ne 5, 3) := by decide +kernel
theorem dX12_aHouse_48 : decode cX12_aHouse 48 = .ok (.iconst 0, 1) := by decide +kernel
theorem dX12_aHouse_49 : decode cX12_aHouse 49 = .ok (.ireturn, 1) := by decide +kernel
theorem dX12_aHouse_50 : decode cX12_aHouse 50 = .ok (.aload_n 0, 1) := by decide +kernel
theorem dX12_aHouse_51 : decode cX12_aHouse 51 = .ok (.getfield 7, 3) := by decide +kernel
theorem dX12_aHouse_54 : decode cX12_aHouse 54 = .ok (.iload_n 1, 1) := by decide +kernel
theorem dX12_aHouse_55 : decode cX12_aHouse 55 = .ok (.iconst 1, 1) := by decide +kernel
theorem dX12_aHouse_56 : decode cX12_aHouse 56 = .ok (.iadd, 1) := by decide +kernel
theorem dX12_aHouse_57 : decode cX12_aHouse 57 = .ok (.aload_n 0, 1) := by decide +kernel
theorem dX12_aHouse_58 : decode cX12_aHouse 58 = .ok (.getfield 7, 3) := by decide +kernel
theorem dX12_aHouse_61 : decode cX12_aHouse 61 = .ok (.iload_n 1, 1) := by decide +kernel
theorem dX12_aHouse_62 : decode cX12_aHouse 62 = .ok (.iaload, 1) := by decide +kernel
theorem dX12_aHouse_63 : decode cX12_aHouse 63 = .ok (.iastore, 1) := by decide +kernel
theorem dX12_aHouse_64 : decode cX12_aHouse 64 = .ok (.aload_n 0, 1) := by decide +kernel
theorem dX12_aHouse_65 : decode cX12_aHouse 65 = .ok (.getfield 7, 3) := by decide +kernel
theorem dX12_aHouse_68 : decode cX12_aHouse 68 = .ok (.sipush 2376, 3) := by decide +kernel
theorem dX12_aHouse_71 : decode cX12_aHouse 71 = .ok (.dup2, 1) := by decide +kernel
theorem dX12_aHouse_72 : decode cX12_aHouse 72 = .ok (.iaload, 1) := by decide +kernel
theorem dX12_aHouse_73 : decode cX12_aHouse 73 = .ok (.iconst 1, 1) := by decide +kernel
theorem dX12_aHouse_74 : decode cX12_aHouse 74 = .ok (.iadd, 1) := by decide +kernel
theorem dX12_aHouse_75 : decode cX12_aHouse 75 = .ok (.iastore, 1) := by decide +kernel
theorem dX12_aHouse_76 : decode cX12_aHouse 76 = .ok (.iconst 1, 1) := by decide +kernel
theorem dX12_aHouse_77 : decode cX12_aHouse 77 = .ok (.ireturn, 1) := by decide +kernel
abbrev M_X12_aHouse : MT := (yX12_aHouse, cX12_aHouse, 2, (some .boolean))
theorem cf_X12_aHouse : fq_cf M_X12_aHouse 0 := ⟨(mg_1 (List.mem_of_getElem? (i := 15) rfl) rfl), (mg_7 (List.mem_of_getElem? (i := 154) rfl) rfl), ⟨by decide, by decide, by decide +kernel⟩, by decide⟩
def B_X12_aHouse_48 (G : GT) (mc ms : Nat) (Q : Post) : Cn := ix_pushI 0 (ix_zret mc ms Q)
theorem b_X12_aHouse_48 {l : Launch} {G : GT} {D mc ms : Nat} {Q : Post} : Imp l G M_X12_aHouse (D + 7) mc ms Q (B_X12_aHouse_48 G mc ms Q) 48 := sx_iconst dX12_aHouse_48 rfl (sx_zret dX12_aHouse_49 rfl)
def B_X12_aHouse_45 (G : GT) (mc ms : Nat) (Q : Post) : Cn := ix_if_ne (ix_aload 0 (ix_getR 12 0 (ix_iload 1 (ix_pushI 1 (ix_iadd (ix_aload 0 (ix_getR 12 0 (ix_iload 1 (ix_iald (ix_iast (ix_aload 0 (ix_getR 12 0 (ix_pushI 2376 (ix_dup2 (ix_iald (ix_pushI 1 (ix_iadd (ix_iast (ix_pushI 1 (ix_zret mc ms Q)))))))))))))))))))) ((B_X12_aHouse_48 G mc ms Q))
theorem b_X12_aHouse_45 {l : Launch} {G : GT} {D mc ms : Nat} {Q : Post} : Imp l G M_X12_aHouse (D + 7) mc ms Q (B_X12_aHouse_45 G mc ms Q) 45 := sx_if_ne 50 dX12_aHouse_45 (by decide) (sx_aload_n dX12_aHouse_50 rfl (sx_getR dX12_aHouse_51 fl_FootQuarrelModel_7 (fun _ _ _ => rfl) (sx_iload_n dX12_aHouse_54 rfl (sx_iconst dX12_aHouse_55 rfl (sx_iadd dX12_aHouse_56 (sx_aload_n dX12_aHouse_57 rfl (sx_getR dX12_aHouse_58 fl_FootQuarrelModel_7 (fun _ _ _ => rfl) (sx_iload_n dX12_aHouse_61 rfl (sx_iald dX12_aHouse_62 (sx_iast dX12_aHouse_63 (sx_aload_n dX12_aHouse_64 rfl (sx_getR dX12_aHouse_65 fl_FootQuarrelModel_7 (fun _ _ _ => rfl) (sx_sipush dX12_aHouse_68 rfl (sx_dup2 dX12_aHouse_71 (sx_iald dX12_aHouse_72 (sx_iconst dX12_aHouse_73 rfl (sx_iadd dX12_aHouse_74 (sx_iast dX12_aHouse_75 (sx_iconst dX12_aHouse_76 rfl (sx_zret dX12_aHouse_77 rfl)))))))))))))))))))) (b_X12_aHouse_48)
def B_X12_aHouse_34 (G : GT) (mc ms : Nat) (Q : Post) : Cn := ix_if_eq ((B_X12_aHouse_48 G mc ms Q)) (ix_aload 0 (ix_iload 1 (ix_pushI 0 (ix_pushI 99 (ix_vcall 12 4 0 0 mc ms (sp_X12_number G) ((B_X12_aHouse_45 G mc ms Q)))))))
theorem b_X12_aHouse_34 {l : Launch} {G : GT} {D mc ms : Nat} {Q : Post} : Imp l G M_X12_aHouse (D + 7) mc ms Q (B_X12_aHouse_34 G mc ms Q) 34 := sx_if_eq 48 dX12_aHouse_34 (by decide) (b_X12_aHouse_48) (sx_aload_n dX12_aHouse_37 rfl (sx_iload_n dX12_aHouse_38 rfl (sx_iconst dX12_aHouse_39 rfl (sx_bipush dX12_aHouse_40 rfl (sx_vcall dX12_aHouse_42 cf_X12_number (mg_7 (List.mem_of_getElem? (i := 147) rfl) rfl) (mg_7 (List.mem_of_getElem? (i := 149) rfl) rfl) (mg_p (List.mem_of_getElem? (i := 58) rfl) rfl) rfl c_X12_number (b_X12_aHouse_45))))))
def B_X12_aHouse_23 (G : GT) (mc ms : Nat) (Q : Post) : Cn := ix_if_eq ((B_X12_aHouse_48 G mc ms Q)) (ix_aload 0 (ix_ldcS G 1 (ix_pushI 6 (ix_vcall 12 3 0 0 mc ms (sp_X12_wantWord G) ((B_X12_aHouse_34 G mc ms Q))))))
theorem b_X12_aHouse_23 {l : Launch} {G : GT} {D mc ms : Nat} {Q : Post} : Imp l G M_X12_aHouse (D + 7) mc ms Q (B_X12_aHouse_23 G mc ms Q) 23 := sx_if_eq 48 dX12_aHouse_23 (by decide) (b_X12_aHouse_48) (sx_aload_n dX12_aHouse_26 rfl (sx_ldcS 168 dX12_aHouse_27 (Or.inr ⟨rfl, rfl, rfl⟩) (sx_bipush dX12_aHouse_29 rfl (sx_vcall dX12_aHouse_31 cf_X12_wantWord (mg_7 (List.mem_of_getElem? (i := 171) rfl) rfl) (mg_7 (List.mem_of_getElem? (i := 173) rfl) rfl) (mg_p (List.mem_of_getElem? (i := 64) rfl) rfl) rfl c_X12_wantWord (b_X12_aHouse_34)))))
def B_X12_aHouse_0 (G : GT) (mc ms : Nat) (Q : Post) : Cn := ix_pushI 2388 (ix_pushI 3 (ix_aload 0 (ix_getR 12 0 (ix_pushI 2376 (ix_iald (ix_imul (ix_iadd (ix_istore 1 (ix_aload 0 (ix_pushI 0 (ix_pushI 6 (ix_pushI 0 (ix_vcall 12 4 0 0 mc ms (sp_X12_newOne G) ((B_X12_aHouse_23 G mc ms Q)))))))))))))))
theorem b_X12_aHouse_0 {l : Launch} {G : GT} {D mc ms : Nat} {Q : Post} : Imp l G M_X12_aHouse (D + 7) mc ms Q (B_X12_aHouse_0 G mc ms Q) 0 := sx_sipush dX12_aHouse_0 rfl (sx_iconst dX12_aHouse_3 rfl (sx_aload_n dX12_aHouse_4 rfl (sx_getR dX12_aHouse_5 fl_FootQuarrelModel_7 (fun _ _ _ => rfl) (sx_sipush dX12_aHouse_8 rfl (sx_iald dX12_aHouse_11 (sx_imul dX12_aHouse_12 (sx_iadd dX12_aHouse_13 (sx_istore_n dX12_aHouse_14 rfl (by decide) (sx_aload_n dX12_aHouse_15 rfl (sx_iconst dX12_aHouse_16 rfl (sx_bipush dX12_aHouse_17 rfl (sx_iconst dX12_aHouse_19 rfl (sx_vcall dX12_aHouse_20 cf_X12_newOne (mg_7 (List.mem_of_getElem? (i := 155) rfl) rfl) (mg_7 (List.mem_of_getElem? (i := 157) rfl) rfl) (mg_p (List.mem_of_getElem? (i := 60) rfl) rfl) rfl c_X12_newOne (b_X12_aHouse_23))))))))))))))
def sp_X12_aHouse (G : GT) : Sp := fun as S I J z Q => match as with
  | [.ref M] => rfS S M ∧ ∃ n s, psH M I J n s ∧ okN (s.1 2376) 6 ∧ okN (s.1 2377) 8 ∧ RQ M S I J z n (pHs (I (M + 7)) n s) Q
  | _ => False
theorem pNw_i {T : Nat → Int32} {n a b : Nat} {most : Int32} {s s' : PSt} (h : pNw T n a b most s = .inr s') : s'.1 = s.1 ∧ ¬ s.1 (2376 + a) = most := by
  unfold pNw pE at h
  split at h
  · cases h
  · next h1 =>
    split at h
    · cases h
    · split at h
      · cases h
      · cases h
        exact ⟨rfl, h1⟩
theorem pWd_i {T : Nat → Int32} {n : Nat} {c : Int32} {s s' : PSt} (h : pWd T n c s = .inr s') : s'.1 = s.1 := by
  unfold pWd pE at h
  split at h
  · cases h
  · cases h
    rfl
theorem pNum_i {T : Nat → Int32} {n k : Nat} {lo hi : Int32} {s s' : PSt} (h : pNum T n k lo hi s = .inr s') : ∃ v, s'.1 = uA s.1 k v ∧ lo ≤ v ∧ v ≤ hi := by
  unfold pNum pE at h
  split at h
  · cases h
  · split at h
    · cases h
    · next h2 =>
      cases h
      have h2 := Decidable.not_not.mp h2
      exact ⟨_, rfl, h2.1, h2.2⟩
set_option maxHeartbeats 4000000 in
set_option maxRecDepth 20000 in
theorem c_X12_aHouse {l : Launch} {G : GT} {D : Nat} : ∀ as S I J z Q, sp_X12_aHouse G as S I J z Q → fqCall l G M_X12_aHouse (D + 7) 0 0 as S I J z Q := by
  intro as S I J z Q h
  unfold sp_X12_aHouse at h
  split at h
  · next M =>
    obtain ⟨hm, n, s, hP, hc0, hc1, hR⟩ := h
    obtain ⟨c0, h0, e0, e02⟩ := hc0.ex
    unfold pHs at hR
    rw [e02] at hR
    have i0 : I (M + 1) 2376 = nI c0 := by rw [hP.1]; exact e0
    refine fq_enter [some (.ref M), none] (by decide +kernel) (Nat.le_of_ble_eq_true rfl) rfl (b_X12_aHouse_0 _ _ _ _ _ _ _ _ ?_)
    simp (disch := omega) only [B_X12_aHouse_0, hm, hm.k, hm.k1, hm.n1, hm.r1, hm.k2, hm.n2, hm.r2, hm.k3, hm.n3, hm.r3, hm.k4, hm.n4, hm.r4, hm.k5, hm.n5, hm.r5, hm.k6, hm.n6, hm.r6, hm.k7, hm.n7, hm.r7, hm.k8, hm.n8, hm.r8, hm.k9, hm.n9, hm.r9, hm.k10, hm.n10, hm.r10, hm.k11, hm.n11, hm.r11, hm.k12, hm.n12, hm.r12, hm.k13, hm.n13, hm.r13, hm.k14, hm.n14, hm.r14, i0, nI_1, nI_add, nI_clamp, nI_pin, nI_neg, nI_nonneg, nI_leE, nI_ltE, nI_eqE, Nat.not_le, Nat.not_lt, fq_10, fq_01, fq_rr, li_2, li_3, li_4, li_5, li_6, li_7, li_8, li_9, li_10, li_11, li_12, li_13, li_14, li_15, li_16, li_17, li_18, li_19, li_20, li_21, li_22, li_23, li_24, li_25, li_26, li_27, li_28, li_29, li_30, li_32, li_33, li_34, li_35, li_36, li_37, li_38, li_39, li_40, li_41, li_42, li_43, li_44, li_45, li_46, li_47, li_48, li_49, li_50, li_51, li_52, li_53, li_54, li_55, li_56, li_57, li_58, li_59, li_60, li_61, li_62, li_63, li_64, li_65, li_66, li_67, li_68, li_69, li_70, li_71, li_72, li_73, li_74, li_75, li_76, li_77, li_78, li_79, li_80, li_81, li_82, li_83, li_84, li_85, li_86, li_87, li_88, li_89, li_90, li_91, li_92, li_93, li_94, li_95, li_96, li_97, li_98, li_99, li_100, li_101, li_102, li_103, li_104, li_105, li_106, li_107, li_108, li_109, li_110, li_111, li_112, li_113, li_114, li_115, li_116, li_117, li_118, li_119, li_120, li_121, li_122, li_123, li_124, li_125, li_126, li_127, li_128, li_129, li_130, li_131, li_226, li_240, li_255, li_300, li_586, li_594, li_900, li_999, li_1000, li_1800, li_2376, li_2388, li_2406, li_2602, li_2970, li_3067, li_3564, li_9999, li_10000, li_11287, li_65536, li_100000, li_1000000, nI_mul, tn0, tn1, vin0, vin1, Int32.add_zero, Int32.or_zero, Int32.mul_one, Int32.mul_zero, Int32.zero_add, Nat.reduceEqDiff, Nat.reduceMul, Nat.reduceSub, lt_2377, lt_2379, lt_2380, lt_2381, lt_2384, lt_2387, lt_2962, lt_2963, lt_1806, lt_1822, lt_1823, ix_aald, ix_aast, ix_abs, ix_alen, ix_aload, ix_aret, ix_astore, ix_bald, ix_bast, ix_call, ix_cpyI, ix_cpyJ, ix_dead, ix_dup2, ix_dup2L, ix_dupI, ix_dupR, ix_dupx1, ix_getI, ix_getJ, ix_getR, ix_gfm, ix_gtab, ix_i2b, ix_i2c, ix_i2l, ix_i2s, ix_iadd, ix_iald, ix_iand, ix_iast, ix_icall, ix_icmp_eq, ix_icmp_ge, ix_icmp_gt, ix_icmp_le, ix_icmp_lt, ix_icmp_ne, ix_idiv, ix_if_eq, ix_if_ge, ix_if_gt, ix_if_le, ix_if_lt, ix_if_ne, ix_iinc, ix_iload, ix_imul, ix_ineg, ix_ior, ix_irem, ix_iret, ix_ishl, ix_ishr, ix_istore, ix_isub, ix_iushr, ix_ixor, ix_l2i, ix_ladd, ix_lald, ix_land, ix_last, ix_lcmp, ix_ldcS, ix_ldiv, ix_lload, ix_lmul, ix_lor, ix_lrem, ix_lret, ix_lshl, ix_lstore, ix_lsub, ix_lsw, ix_max, ix_min, ix_new, ix_newa, ix_nret, ix_oinit, ix_pop2L, ix_popI, ix_pushI, ix_pushL, ix_putI, ix_putJ, ix_putR, ix_putZ, ix_sbald, ix_sgetC, ix_sgetV, ix_slen, ix_strc, ix_tald, ix_tsw, ix_vcall, ix_vret, ix_zret, stL, stL2, kilL, popN, fq_sw, fq_lsw, List.map_cons, List.map_nil, List.getElem?_cons_zero, List.getElem?_cons_succ, Option.toList_some, Option.toList_none, List.cons_append, List.nil_append, List.length_cons, List.length_nil, List.sum_cons, List.sum_nil, cat_i, cat_l, cat_r, true_and, and_true, Nat.zero_add, Nat.add_zero, Nat.le_refl, Nat.zero_le, Nat.reduceAdd, Nat.reduceLeDiff, exists_eq_left', Option.some.injEq, not_true_eq_false, not_false_eq_true, false_implies, true_implies, implies_true, and_self, or_true, true_or, or_false, false_or]
    refine newOne_R (a := 0) (b := 0) hm (Or.inl ⟨rfl, rfl, rfl⟩) hP hc0 hc1 (hR.step ?_ ?_)
    · intro s1 I1 J1 hx1 hF1 hP1 k20 k22 k23 k8 hR1
      obtain ⟨a1, a2⟩ := pNw_i hx1
      have t1 := hF1.t
      simp (disch := omega) only [B_X12_aHouse_23, B_X12_aHouse_48, hm, hm.k, hm.k1, hm.n1, hm.r1, hm.k2, hm.n2, hm.r2, hm.k3, hm.n3, hm.r3, hm.k4, hm.n4, hm.r4, hm.k5, hm.n5, hm.r5, hm.k6, hm.n6, hm.r6, hm.k7, hm.n7, hm.r7, hm.k8, hm.n8, hm.r8, hm.k9, hm.n9, hm.r9, hm.k10, hm.n10, hm.r10, hm.k11, hm.n11, hm.r11, hm.k12, hm.n12, hm.r12, hm.k13, hm.n13, hm.r13, hm.k14, hm.n14, hm.r14, fq_10, nI_1, nI_add, nI_clamp, nI_pin, nI_neg, nI_nonneg, nI_leE, nI_ltE, nI_eqE, Nat.not_le, Nat.not_lt, fq_10, fq_01, fq_rr, li_2, li_3, li_4, li_5, li_6, li_7, li_8, li_9, li_10, li_11, li_12, li_13, li_14, li_15, li_16, li_17, li_18, li_19, li_20, li_21, li_22, li_23, li_24, li_25, li_26, li_27, li_28, li_29, li_30, li_32, li_33, li_34, li_35, li_36, li_37, li_38, li_39, li_40, li_41, li_42, li_43, li_44, li_45, li_46, li_47, li_48, li_49, li_50, li_51, li_52, li_53, li_54, li_55, li_56, li_57, li_58, li_59, li_60, li_61, li_62, li_63, li_64, li_65, li_66, li_67, li_68, li_69, li_70, li_71, li_72, li_73, li_74, li_75, li_76, li_77, li_78, li_79, li_80, li_81, li_82, li_83, li_84, li_85, li_86, li_87, li_88, li_89, li_90, li_91, li_92, li_93, li_94, li_95, li_96, li_97, li_98, li_99, li_100, li_101, li_102, li_103, li_104, li_105, li_106, li_107, li_108, li_109, li_110, li_111, li_112, li_113, li_114, li_115, li_116, li_117, li_118, li_119, li_120, li_121, li_122, li_123, li_124, li_125, li_126, li_127, li_128, li_129, li_130, li_131, li_226, li_240, li_255, li_300, li_586, li_594, li_900, li_999, li_1000, li_1800, li_2376, li_2388, li_2406, li_2602, li_2970, li_3067, li_3564, li_9999, li_10000, li_11287, li_65536, li_100000, li_1000000, nI_mul, tn0, tn1, vin0, vin1, Int32.add_zero, Int32.or_zero, Int32.mul_one, Int32.mul_zero, Int32.zero_add, Nat.reduceEqDiff, Nat.reduceMul, Nat.reduceSub, lt_2377, lt_2379, lt_2380, lt_2381, lt_2384, lt_2387, lt_2962, lt_2963, lt_1806, lt_1822, lt_1823, ix_aald, ix_aast, ix_abs, ix_alen, ix_aload, ix_aret, ix_astore, ix_bald, ix_bast, ix_call, ix_cpyI, ix_cpyJ, ix_dead, ix_dup2, ix_dup2L, ix_dupI, ix_dupR, ix_dupx1, ix_getI, ix_getJ, ix_getR, ix_gfm, ix_gtab, ix_i2b, ix_i2c, ix_i2l, ix_i2s, ix_iadd, ix_iald, ix_iand, ix_iast, ix_icall, ix_icmp_eq, ix_icmp_ge, ix_icmp_gt, ix_icmp_le, ix_icmp_lt, ix_icmp_ne, ix_idiv, ix_if_eq, ix_if_ge, ix_if_gt, ix_if_le, ix_if_lt, ix_if_ne, ix_iinc, ix_iload, ix_imul, ix_ineg, ix_ior, ix_irem, ix_iret, ix_ishl, ix_ishr, ix_istore, ix_isub, ix_iushr, ix_ixor, ix_l2i, ix_ladd, ix_lald, ix_land, ix_last, ix_lcmp, ix_ldcS, ix_ldiv, ix_lload, ix_lmul, ix_lor, ix_lrem, ix_lret, ix_lshl, ix_lstore, ix_lsub, ix_lsw, ix_max, ix_min, ix_new, ix_newa, ix_nret, ix_oinit, ix_pop2L, ix_popI, ix_pushI, ix_pushL, ix_putI, ix_putJ, ix_putR, ix_putZ, ix_sbald, ix_sgetC, ix_sgetV, ix_slen, ix_strc, ix_tald, ix_tsw, ix_vcall, ix_vret, ix_zret, stL, stL2, kilL, popN, fq_sw, fq_lsw, List.map_cons, List.map_nil, List.getElem?_cons_zero, List.getElem?_cons_succ, Option.toList_some, Option.toList_none, List.cons_append, List.nil_append, List.length_cons, List.length_nil, List.sum_cons, List.sum_nil, cat_i, cat_l, cat_r, true_and, and_true, Nat.zero_add, Nat.add_zero, Nat.le_refl, Nat.zero_le, Nat.reduceAdd, Nat.reduceLeDiff, exists_eq_left', Option.some.injEq, not_true_eq_false, not_false_eq_true, false_implies, true_implies, implies_true, and_self, or_true, true_or, or_false, false_or]
      trace_state
      sorry
    · intro I' J' h
      simp (disch := omega) only [B_X12_aHouse_23, B_X12_aHouse_48, hm, hm.k, hm.k1, hm.n1, hm.r1, hm.k2, hm.n2, hm.r2, hm.k3, hm.n3, hm.r3, hm.k4, hm.n4, hm.r4, hm.k5, hm.n5, hm.r5, hm.k6, hm.n6, hm.r6, hm.k7, hm.n7, hm.r7, hm.k8, hm.n8, hm.r8, hm.k9, hm.n9, hm.r9, hm.k10, hm.n10, hm.r10, hm.k11, hm.n11, hm.r11, hm.k12, hm.n12, hm.r12, hm.k13, hm.n13, hm.r13, hm.k14, hm.n14, hm.r14, nI_1, nI_add, nI_clamp, nI_pin, nI_neg, nI_nonneg, nI_leE, nI_ltE, nI_eqE, Nat.not_le, Nat.not_lt, fq_10, fq_01, fq_rr, li_2, li_3, li_4, li_5, li_6, li_7, li_8, li_9, li_10, li_11, li_12, li_13, li_14, li_15, li_16, li_17, li_18, li_19, li_20, li_21, li_22, li_23, li_24, li_25, li_26, li_27, li_28, li_29, li_30, li_32, li_33, li_34, li_35, li_36, li_37, li_38, li_39, li_40, li_41, li_42, li_43, li_44, li_45, li_46, li_47, li_48, li_49, li_50, li_51, li_52, li_53, li_54, li_55, li_56, li_57, li_58, li_59, li_60, li_61, li_62, li_63, li_64, li_65, li_66, li_67, li_68, li_69, li_70, li_71, li_72, li_73, li_74, li_75, li_76, li_77, li_78, li_79, li_80, li_81, li_82, li_83, li_84, li_85, li_86, li_87, li_88, li_89, li_90, li_91, li_92, li_93, li_94, li_95, li_96, li_97, li_98, li_99, li_100, li_101, li_102, li_103, li_104, li_105, li_106, li_107, li_108, li_109, li_110, li_111, li_112, li_113, li_114, li_115, li_116, li_117, li_118, li_119, li_120, li_121, li_122, li_123, li_124, li_125, li_126, li_127, li_128, li_129, li_130, li_131, li_226, li_240, li_255, li_300, li_586, li_594, li_900, li_999, li_1000, li_1800, li_2376, li_2388, li_2406, li_2602, li_2970, li_3067, li_3564, li_9999, li_10000, li_11287, li_65536, li_100000, li_1000000, nI_mul, tn0, tn1, vin0, vin1, Int32.add_zero, Int32.or_zero, Int32.mul_one, Int32.mul_zero, Int32.zero_add, Nat.reduceEqDiff, Nat.reduceMul, Nat.reduceSub, lt_2377, lt_2379, lt_2380, lt_2381, lt_2384, lt_2387, lt_2962, lt_2963, lt_1806, lt_1822, lt_1823, ix_aald, ix_aast, ix_abs, ix_alen, ix_aload, ix_aret, ix_astore, ix_bald, ix_bast, ix_call, ix_cpyI, ix_cpyJ, ix_dead, ix_dup2, ix_dup2L, ix_dupI, ix_dupR, ix_dupx1, ix_getI, ix_getJ, ix_getR, ix_gfm, ix_gtab, ix_i2b, ix_i2c, ix_i2l, ix_i2s, ix_iadd, ix_iald, ix_iand, ix_iast, ix_icall, ix_icmp_eq, ix_icmp_ge, ix_icmp_gt, ix_icmp_le, ix_icmp_lt, ix_icmp_ne, ix_idiv, ix_if_eq, ix_if_ge, ix_if_gt, ix_if_le, ix_if_lt, ix_if_ne, ix_iinc, ix_iload, ix_imul, ix_ineg, ix_ior, ix_irem, ix_iret, ix_ishl, ix_ishr, ix_istore, ix_isub, ix_iushr, ix_ixor, ix_l2i, ix_ladd, ix_lald, ix_land, ix_last, ix_lcmp, ix_ldcS, ix_ldiv, ix_lload, ix_lmul, ix_lor, ix_lrem, ix_lret, ix_lshl, ix_lstore, ix_lsub, ix_lsw, ix_max, ix_min, ix_new, ix_newa, ix_nret, ix_oinit, ix_pop2L, ix_popI, ix_pushI, ix_pushL, ix_putI, ix_putJ, ix_putR, ix_putZ, ix_sbald, ix_sgetC, ix_sgetV, ix_slen, ix_strc, ix_tald, ix_tsw, ix_vcall, ix_vret, ix_zret, stL, stL2, kilL, popN, fq_sw, fq_lsw, List.map_cons, List.map_nil, List.getElem?_cons_zero, List.getElem?_cons_succ, Option.toList_some, Option.toList_none, List.cons_append, List.nil_append, List.length_cons, List.length_nil, List.sum_cons, List.sum_nil, cat_i, cat_l, cat_r, true_and, and_true, Nat.zero_add, Nat.add_zero, Nat.le_refl, Nat.zero_le, Nat.reduceAdd, Nat.reduceLeDiff, exists_eq_left', Option.some.injEq, not_true_eq_false, not_false_eq_true, false_implies, true_implies, implies_true, and_self, or_true, true_or, or_false, false_or]
      exact h
  · exact h.elim
