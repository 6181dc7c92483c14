/-! the law: its loop -/
def lw_ts : List Nat := [288, 301, 315, 329, 372, 445, 479, 542, 605, 628, 651, 674, 697, 730, 753, 786, 819, 852, 875, 908, 931, 954, 993, 1042, 1075, 1118, 1141, 1164, 1187, 1210, 1243, 1266, 1299, 1332, 1355, 1378, 1401, 1434, 1467, 1500, 1513, 1536, 1559, 1602, 1645, 1658, 1671, 1684, 1707, 1730, 1753, 1787, 1820, 1854, 1877, 1910, 1933, 1956, 1999, 2012]
abbrev lwLs (sb X M i : Nat) : List (Option Value) := [some (.ref sb), some (.ref X), some (.ref M), some (.int (nI i))]
theorem lw_all60 {P : Nat → Prop} (h0 : P 288) (h1 : P 301) (h2 : P 315) (h3 : P 329) (h4 : P 372) (h5 : P 445) (h6 : P 479) (h7 : P 542) (h8 : P 605) (h9 : P 628) (h10 : P 651) (h11 : P 674) (h12 : P 697) (h13 : P 730) (h14 : P 753) (h15 : P 786) (h16 : P 819) (h17 : P 852) (h18 : P 875) (h19 : P 908) (h20 : P 931) (h21 : P 954) (h22 : P 993) (h23 : P 1042) (h24 : P 1075) (h25 : P 1118) (h26 : P 1141) (h27 : P 1164) (h28 : P 1187) (h29 : P 1210) (h30 : P 1243) (h31 : P 1266) (h32 : P 1299) (h33 : P 1332) (h34 : P 1355) (h35 : P 1378) (h36 : P 1401) (h37 : P 1434) (h38 : P 1467) (h39 : P 1500) (h40 : P 1513) (h41 : P 1536) (h42 : P 1559) (h43 : P 1602) (h44 : P 1645) (h45 : P 1658) (h46 : P 1671) (h47 : P 1684) (h48 : P 1707) (h49 : P 1730) (h50 : P 1753) (h51 : P 1787) (h52 : P 1820) (h53 : P 1854) (h54 : P 1877) (h55 : P 1910) (h56 : P 1933) (h57 : P 1956) (h58 : P 1999) (h59 : P 2012) : ∀ t ∈ lw_ts, P t := by
  intro t ht
  simp only [lw_ts, List.mem_cons, List.not_mem_nil, or_false] at ht
  rcases ht with rfl | rfl | rfl | rfl | rfl | rfl | rfl | rfl | rfl | rfl | rfl | rfl | rfl | rfl | rfl | rfl | rfl | rfl | rfl | rfl | rfl | rfl | rfl | rfl | rfl | rfl | rfl | rfl | rfl | rfl | rfl | rfl | rfl | rfl | rfl | rfl | rfl | rfl | rfl | rfl | rfl | rfl | rfl | rfl | rfl | rfl | rfl | rfl | rfl | rfl | rfl | rfl | rfl | rfl | rfl | rfl | rfl | rfl | rfl | rfl
  · exact h0
  · exact h1
  · exact h2
  · exact h3
  · exact h4
  · exact h5
  · exact h6
  · exact h7
  · exact h8
  · exact h9
  · exact h10
  · exact h11
  · exact h12
  · exact h13
  · exact h14
  · exact h15
  · exact h16
  · exact h17
  · exact h18
  · exact h19
  · exact h20
  · exact h21
  · exact h22
  · exact h23
  · exact h24
  · exact h25
  · exact h26
  · exact h27
  · exact h28
  · exact h29
  · exact h30
  · exact h31
  · exact h32
  · exact h33
  · exact h34
  · exact h35
  · exact h36
  · exact h37
  · exact h38
  · exact h39
  · exact h40
  · exact h41
  · exact h42
  · exact h43
  · exact h44
  · exact h45
  · exact h46
  · exact h47
  · exact h48
  · exact h49
  · exact h50
  · exact h51
  · exact h52
  · exact h53
  · exact h54
  · exact h55
  · exact h56
  · exact h57
  · exact h58
  · exact h59
theorem lw_case {l : Launch} {G : GT} {nm : String} {sb sL : Nat} {sx : Nat → Int32} {X M i kk nn : Nat} {S : Sh} {I : IH} {J : JH} {z : Nat} (hi : i + 6 ≤ sL) (hL : sL ≤ 3072) (hr : relR X M S I J z) (hk : kk + 2 ≤ 600000) (hn : nn + 8 ≤ 7302250) (K : ∀ (S' : Sh) (I' : IH) (J' : JH) (z' k' n' : Nat), relR X M S' I' J' z' → k' ≤ kk + 2 → n' ≤ nn + 8 → lwAt l G nm sb sL sx 2025 (lwLs sb X M i) [] S' I' J' z' k' n') : ∀ t ∈ lw_ts, lwAt l G nm sb sL sx t (lwLs sb X M i) [] S I J z kk nn :=
  lw_all60
    (lc_0 hi hL hr hk hn (fun _ _ _ _ h => K _ _ _ _ _ _ h (by omega) (by omega)))
    (lc_1 hi hL hr hk hn (fun _ _ _ _ h => K _ _ _ _ _ _ h (by omega) (by omega)))
    (lc_2 hi hL hr hk hn (fun _ _ _ _ h => K _ _ _ _ _ _ h (by omega) (by omega)))
    (lc_3 hi hL hr hk hn (fun _ _ _ _ h => K _ _ _ _ _ _ h (by omega) (by omega)))
    (lc_4 hi hL hr hk hn (fun _ _ _ _ h => K _ _ _ _ _ _ h (by omega) (by omega)))
    (lc_5 hi hL hr hk hn (fun _ _ _ _ h => K _ _ _ _ _ _ h (by omega) (by omega)))
    (lc_6 hi hL hr hk hn (fun _ _ _ _ h => K _ _ _ _ _ _ h (by omega) (by omega)))
    (lc_7 hi hL hr hk hn (fun _ _ _ _ h => K _ _ _ _ _ _ h (by omega) (by omega)))
    (lc_8 hi hL hr hk hn (fun _ _ _ _ h => K _ _ _ _ _ _ h (by omega) (by omega)))
    (lc_9 hi hL hr hk hn (fun _ _ _ _ h => K _ _ _ _ _ _ h (by omega) (by omega)))
    (lc_10 hi hL hr hk hn (fun _ _ _ _ h => K _ _ _ _ _ _ h (by omega) (by omega)))
    (lc_11 hi hL hr hk hn (fun _ _ _ _ h => K _ _ _ _ _ _ h (by omega) (by omega)))
    (lc_12 hi hL hr hk hn (fun _ _ _ _ h => K _ _ _ _ _ _ h (by omega) (by omega)))
    (lc_13 hi hL hr hk hn (fun _ _ _ _ h => K _ _ _ _ _ _ h (by omega) (by omega)))
    (lc_14 hi hL hr hk hn (fun _ _ _ _ h => K _ _ _ _ _ _ h (by omega) (by omega)))
    (lc_15 hi hL hr hk hn (fun _ _ _ _ h => K _ _ _ _ _ _ h (by omega) (by omega)))
    (lc_16 hi hL hr hk hn (fun _ _ _ _ h => K _ _ _ _ _ _ h (by omega) (by omega)))
    (lc_17 hi hL hr hk hn (fun _ _ _ _ h => K _ _ _ _ _ _ h (by omega) (by omega)))
    (lc_18 hi hL hr hk hn (fun _ _ _ _ h => K _ _ _ _ _ _ h (by omega) (by omega)))
    (lc_19 hi hL hr hk hn (fun _ _ _ _ h => K _ _ _ _ _ _ h (by omega) (by omega)))
    (lc_20 hi hL hr hk hn (fun _ _ _ _ h => K _ _ _ _ _ _ h (by omega) (by omega)))
    (lc_21 hi hL hr hk hn (fun _ _ _ _ h => K _ _ _ _ _ _ h (by omega) (by omega)))
    (lc_22 hi hL hr hk hn (fun _ _ _ _ h => K _ _ _ _ _ _ h (by omega) (by omega)))
    (lc_23 hi hL hr hk hn (fun _ _ _ _ h => K _ _ _ _ _ _ h (by omega) (by omega)))
    (lc_24 hi hL hr hk hn (fun _ _ _ _ h => K _ _ _ _ _ _ h (by omega) (by omega)))
    (lc_25 hi hL hr hk hn (fun _ _ _ _ h => K _ _ _ _ _ _ h (by omega) (by omega)))
    (lc_26 hi hL hr hk hn (fun _ _ _ _ h => K _ _ _ _ _ _ h (by omega) (by omega)))
    (lc_27 hi hL hr hk hn (fun _ _ _ _ h => K _ _ _ _ _ _ h (by omega) (by omega)))
    (lc_28 hi hL hr hk hn (fun _ _ _ _ h => K _ _ _ _ _ _ h (by omega) (by omega)))
    (lc_29 hi hL hr hk hn (fun _ _ _ _ h => K _ _ _ _ _ _ h (by omega) (by omega)))
    (lc_30 hi hL hr hk hn (fun _ _ _ _ h => K _ _ _ _ _ _ h (by omega) (by omega)))
    (lc_31 hi hL hr hk hn (fun _ _ _ _ h => K _ _ _ _ _ _ h (by omega) (by omega)))
    (lc_32 hi hL hr hk hn (fun _ _ _ _ h => K _ _ _ _ _ _ h (by omega) (by omega)))
    (lc_33 hi hL hr hk hn (fun _ _ _ _ h => K _ _ _ _ _ _ h (by omega) (by omega)))
    (lc_34 hi hL hr hk hn (fun _ _ _ _ h => K _ _ _ _ _ _ h (by omega) (by omega)))
    (lc_35 hi hL hr hk hn (fun _ _ _ _ h => K _ _ _ _ _ _ h (by omega) (by omega)))
    (lc_36 hi hL hr hk hn (fun _ _ _ _ h => K _ _ _ _ _ _ h (by omega) (by omega)))
    (lc_37 hi hL hr hk hn (fun _ _ _ _ h => K _ _ _ _ _ _ h (by omega) (by omega)))
    (lc_38 hi hL hr hk hn (fun _ _ _ _ h => K _ _ _ _ _ _ h (by omega) (by omega)))
    (lc_39 hi hL hr hk hn (fun _ _ _ _ h => K _ _ _ _ _ _ h (by omega) (by omega)))
    (lc_40 hi hL hr hk hn (fun _ _ _ _ h => K _ _ _ _ _ _ h (by omega) (by omega)))
    (lc_41 hi hL hr hk hn (fun _ _ _ _ h => K _ _ _ _ _ _ h (by omega) (by omega)))
    (lc_42 hi hL hr hk hn (fun _ _ _ _ h => K _ _ _ _ _ _ h (by omega) (by omega)))
    (lc_43 hi hL hr hk hn (fun _ _ _ _ h => K _ _ _ _ _ _ h (by omega) (by omega)))
    (lc_44 hi hL hr hk hn (fun _ _ _ _ h => K _ _ _ _ _ _ h (by omega) (by omega)))
    (lc_45 hi hL hr hk hn (fun _ _ _ _ h => K _ _ _ _ _ _ h (by omega) (by omega)))
    (lc_46 hi hL hr hk hn (fun _ _ _ _ h => K _ _ _ _ _ _ h (by omega) (by omega)))
    (lc_47 hi hL hr hk hn (fun _ _ _ _ h => K _ _ _ _ _ _ h (by omega) (by omega)))
    (lc_48 hi hL hr hk hn (fun _ _ _ _ h => K _ _ _ _ _ _ h (by omega) (by omega)))
    (lc_49 hi hL hr hk hn (fun _ _ _ _ h => K _ _ _ _ _ _ h (by omega) (by omega)))
    (lc_50 hi hL hr hk hn (fun _ _ _ _ h => K _ _ _ _ _ _ h (by omega) (by omega)))
    (lc_51 hi hL hr hk hn (fun _ _ _ _ h => K _ _ _ _ _ _ h (by omega) (by omega)))
    (lc_52 hi hL hr hk hn (fun _ _ _ _ h => K _ _ _ _ _ _ h (by omega) (by omega)))
    (lc_53 hi hL hr hk hn (fun _ _ _ _ h => K _ _ _ _ _ _ h (by omega) (by omega)))
    (lc_54 hi hL hr hk hn (fun _ _ _ _ h => K _ _ _ _ _ _ h (by omega) (by omega)))
    (lc_55 hi hL hr hk hn (fun _ _ _ _ h => K _ _ _ _ _ _ h (by omega) (by omega)))
    (lc_56 hi hL hr hk hn (fun _ _ _ _ h => K _ _ _ _ _ _ h (by omega) (by omega)))
    (lc_57 hi hL hr hk hn (fun _ _ _ _ h => K _ _ _ _ _ _ h (by omega) (by omega)))
    (lc_58 hi hL hr hk hn (fun _ _ _ _ h => K _ _ _ _ _ _ h (by omega) (by omega)))
    (lc_59 hi hL hr hk hn (fun _ _ _ _ h => K _ _ _ _ _ _ h (by omega) (by omega)))
theorem fq_sw_mk {x : Int32} {Kd : Prop} : ∀ {ps : List Prop} {lo : Int}, (∀ p ∈ ps, p) → Kd → fq_sw x lo Kd ps
  | [], _, _, h => h
  | q :: ps, lo, h, hd => ⟨fun _ => h q (List.mem_cons_self ..), fun _ => fq_sw_mk (fun p hp => h p (List.mem_cons_of_mem _ hp)) hd⟩
def LH (l : Launch) (G : GT) (nm : String) (sb sL : Nat) (sx : Nat → Int32) : Cn := ix_iload 3 (ix_aload 0 (lwAt l G nm sb sL sx 20))
theorem lh_18 {l : Launch} {G : GT} {nm : String} {sb sL : Nat} {sx : Nat → Int32} : ImpL l G nm sb sL sx (LH l G nm sb sL sx) 18 := lx_iload_n dl_18 rfl (lx_aload_n dl_19 rfl (fun _ _ _ _ _ _ _ _ h => h))
def LH2 (l : Launch) (G : GT) (nm : String) (sb sL : Nat) (sx : Nat → Int32) : Cn := ix_pushI 6 (ix_isub (ix_icmp_gt (ix_pushI 1 (lwAt l G nm sb sL sx 2032)) (ix_aload 0 (ix_iload 3 (ix_scr sb sL sx (ix_pushI 63 (ix_iand (ix_tsw 0 (lw_ts.map (lwAt l G nm sb sL sx)) (lwAt l G nm sb sL sx 2025)))))))))
theorem lh_33 {l : Launch} {G : GT} {nm : String} {sb sL : Nat} {sx : Nat → Int32} : ImpL l G nm sb sL sx (ix_tsw 0 (lw_ts.map (lwAt l G nm sb sL sx)) (lwAt l G nm sb sL sx 2025)) 33 :=
  lx_tsw lw_ts 2025 dl_33 (by rw [List.length_map]) (by decide) (by decide) (by decide) (fun i K t h1 h2 => by
    rw [List.getElem?_map, h2] at h1
    cases h1
    exact fun _ _ _ _ _ _ _ _ h => h) (fun _ _ _ _ _ _ _ _ h => h)
theorem lh_21 {l : Launch} {G : GT} {nm : String} {sb sL : Nat} {sx : Nat → Int32} : ImpL l G nm sb sL sx (LH2 l G nm sb sL sx) 21 :=
  lx_bipush dl_21 (by decide) (lx_isub dl_23 (lx_icmp_gt 2031 dl_24 (by decide) (lx_iconst dl_2031 (by decide) (fun _ _ _ _ _ _ _ _ h => h)) (lx_aload_n dl_27 rfl (lx_iload_n dl_28 rfl (lx_scr dl_29 (lx_bipush dl_30 (by decide) (lx_iand dl_32 lh_33)))))))
def LH3 (l : Launch) (G : GT) (nm : String) (sb sL : Nat) (sx : Nat → Int32) : Cn := ix_iinc 3 6 (lwAt l G nm sb sL sx 18)
theorem lh_2025 {l : Launch} {G : GT} {nm : String} {sb sL : Nat} {sx : Nat → Int32} : ImpL l G nm sb sL sx (LH3 l G nm sb sL sx) 2025 := lx_iinc dl_2025 (by decide) (by decide) (lx_goto 18 dl_2028 (by decide) (fun _ _ _ _ _ _ _ _ h => h))
theorem lw_gt {sL i : Nat} (hL : sL ≤ 3072) (hi : i < 2 ^ 30) : (Int32.ofNat sL - 6 < nI i) = (sL < i + 6) := by
  apply propext
  rw [Int32.lt_iff_toInt_lt, Int32.toInt_sub, show (Int32.ofNat sL).toInt = (sL : Int) from Int32.toInt_ofNat_of_lt (by omega), show (nI i).toInt = (i : Int) from Int32.toInt_ofNat_of_lt (by omega), show ((6 : Int32)).toInt = 6 from rfl]
  rw [Int.bmod_def]
  omega
theorem lw_loop {l : Launch} {G : GT} {nm : String} {sb sL : Nat} {sx : Nat → Int32} {X M : Nat} (hL : sL ≤ 3072) : ∀ (r i k n : Nat) (S : Sh) (I : IH) (J : JH) (z : Nat), relR X M S I J z → sL < i + 6 * r + 6 → i ≤ sL + 6 → k + 2 * r ≤ 600000 → n + 8 * r ≤ 7302250 → lwAt l G nm sb sL sx 18 (lwLs sb X M i) [] S I J z k n := by
  intro r
  induction r with
  | zero =>
    intro i k n S I J z hr h1 h2 h3 h4
    refine lh_18 _ _ _ _ _ _ _ _ ?_
    simp only [LH, ix_iload, ix_aload, lwLs, List.getElem?_cons_zero, List.getElem?_cons_succ]
    refine lx_slen dl_20 ?_
    refine lh_21 _ _ _ _ _ _ _ _ ?_
    simp only [LH2, ix_pushI, ix_isub, ix_icmp_gt]
    refine ⟨fun _ => lx_end dl_2032 (by omega) (by omega), fun q => absurd ?_ q⟩
    rw [lw_gt hL (by omega)]
    omega
  | succ r ih =>
    intro i k n S I J z hr h1 h2 h3 h4
    refine lh_18 _ _ _ _ _ _ _ _ ?_
    simp only [LH, ix_iload, ix_aload, lwLs, List.getElem?_cons_zero, List.getElem?_cons_succ]
    refine lx_slen dl_20 ?_
    refine lh_21 _ _ _ _ _ _ _ _ ?_
    simp only [LH2, ix_pushI, ix_isub, ix_icmp_gt]
    refine ⟨fun _ => lx_end dl_2032 (by omega) (by omega), fun q => ?_⟩
    rw [lw_gt hL (by omega)] at q
    have kk : ∀ (S' : Sh) (I' : IH) (J' : JH) (z' k' n' : Nat), relR X M S' I' J' z' → k' ≤ k + 2 → n' ≤ n + 8 → lwAt l G nm sb sL sx 2025 (lwLs sb X M i) [] S' I' J' z' k' n' := by
      intro S' I' J' z' k' n' hr' g1 g2
      refine lh_2025 _ _ _ _ _ _ _ _ ?_
      show lwAt l G nm sb sL sx 18 [some (.ref sb), some (.ref X), some (.ref M), some (.int (nI i + 6))] [] S' I' J' z' k' n'
      rw [show nI i + 6 = nI (i + 6) from (Int32.ofNat_add i 6).symm]
      exact ih (i + 6) k' n' S' I' J' z' hr' (by omega) (by omega) (by omega) (by omega)
    simp only [ix_aload, ix_iload, ix_scr, List.getElem?_cons_zero, List.getElem?_cons_succ, true_and]
    refine ⟨vp_in_nI (by omega) (by omega), ?_⟩
    simp only [ix_pushI, ix_iand, ix_tsw]
    refine fq_sw_mk (fun p hp => ?_) (kk _ _ _ _ _ _ hr (by omega) (by omega))
    obtain ⟨K, h5, rfl⟩ := List.mem_map.mp hp
    obtain ⟨t, h6, rfl⟩ := List.mem_map.mp h5
    exact lw_case (by omega) hL hr (by omega) (by omega) kk t h6
