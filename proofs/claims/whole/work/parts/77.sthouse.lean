/-! a street's text: a house, a peace -/
theorem stH.house {X s n e c : Nat} {I I' : IH} {J J' : JH} {T : Nat → Int32} {A A' : Nat → Int32} {N N' : Nat → Int64} {v : Int32} {w : Int64} (h : stH X s I J T n (A, N, e)) (hc : A 2376 = nI c) (c6 : c < 6) (hs : X + 13 ≤ s)
    (i0 : ∀ a, a ≠ s → a ≠ s + 18 + c → I' a = I a) (i5 : I' s 5 = nI (c + 1)) (ik : ∀ k, k ≠ 5 → I' s k = I s k) (v1 : I' (s + 18 + c) 1 = v) (v2 : I' (s + 18 + c) 2 = v) (v3 : I' (s + 18 + c) 3 = 0)
    (j0 : ∀ a, a ≠ s + 18 + c → J' a = J a) (j1 : nmP (J' (s + 18 + c) 0) w)
    (a0 : A' 2376 = nI (c + 1)) (a1 : A' (2388 + 3 * c) = v) (a2 : A' (2388 + 3 * c + 1) = v) (ak : ∀ k, k ≠ 2376 → k ≠ 2388 + 3 * c → k ≠ 2388 + 3 * c + 1 → A' k = A k)
    (n1 : N' (56 + c) = w) (nk : ∀ k, k ≠ 56 + c → N' k = N k) : stH X s I' J' T n (A', N', e) := by
  obtain ⟨h1, h2, ⟨⟨o1, o2, o3⟩, ⟨y1, y2, y3, y4, y5, y6, y7, y8, y9, y10, y11⟩, b, p, q, hq, q8, qk⟩, ⟨m1, m2⟩, ⟨z1, z2, z3, z4⟩, h6, h7, h8⟩ := h
  dsimp only at *
  have cc : (A 2376).toNatClampNeg = c := by rw [hc, nI_clamp (by omega)]
  have cc' : (A' 2376).toNatClampNeg = c + 1 := by rw [a0, nI_clamp (by omega)]
  have e7 : A' 2377 = A 2377 := ak _ (by omega) (by omega) (by omega)
  have e8 : A' 2378 = A 2378 := ak _ (by omega) (by omega) (by omega)
  have sk : ∀ j, 0 < j → j < 12 → A' (2376 + j) = A (2376 + j) := fun j _ _ => ak _ (by omega) (by omega) (by omega)
  have o29 := o2.2
  rw [cc] at b m1 z3
  refine ⟨h1.fr (i0 _ (by omega) (by omega)) (j0 _ (by omega)), h2, ⟨⟨?_, ?_, ?_⟩, ⟨?_, ?_, ?_, ?_, ?_, ?_, ?_, ?_, ?_, ?_, ?_⟩, fun i hi => ?_, fun i hi j hj => ?_, q, hq, ?_, fun k hk j hj => ?_⟩, ⟨fun i hi => ?_, fun i hi => ?_⟩, ⟨?_, ?_, fun i hi hi6 => ?_, fun i hi hi8 => ?_⟩, ?_, ?_, ?_⟩
  · show okN (A' 2376) 6
    rw [a0]
    exact okN.nI (by omega) (by omega)
  · show okN (A' 2377) 8
    rw [e7]
    exact o2
  · show okN (A' 2378) 20
    rw [e8]
    exact o3
  · show I' s 5 = A' 2376
    rw [i5, a0]
  · exact (ik 6 (by omega)).trans (y2.trans (sk 1 (by omega) (by omega)).symm)
  · exact (ik 7 (by omega)).trans (y3.trans (sk 2 (by omega) (by omega)).symm)
  · exact (ik 9 (by omega)).trans (y4.trans (sk 3 (by omega) (by omega)).symm)
  · exact (ik 10 (by omega)).trans (y5.trans (sk 4 (by omega) (by omega)).symm)
  · exact (ik 11 (by omega)).trans (y6.trans (sk 5 (by omega) (by omega)).symm)
  · exact (ik 12 (by omega)).trans (y7.trans (sk 6 (by omega) (by omega)).symm)
  · exact (ik 16 (by omega)).trans (y8.trans (sk 7 (by omega) (by omega)).symm)
  · exact (ik 13 (by omega)).trans (y9.trans (sk 8 (by omega) (by omega)).symm)
  · exact (ik 14 (by omega)).trans (y10.trans (sk 9 (by omega) (by omega)).symm)
  · exact (ik 15 (by omega)).trans (y11.trans (sk 10 (by omega) (by omega)).symm)
  · have hi : i < (A' 2376).toNatClampNeg := hi
    rw [cc'] at hi
    show I' (s + 18 + i) 2 = A' (2376 + (12 + 3 * i)) ∧ I' (s + 18 + i) 1 = A' (2376 + (12 + 3 * i + 1)) ∧ I' (s + 18 + i) 3 = A' (2376 + (12 + 3 * i + 2))
    rw [show 2376 + (12 + 3 * i) = 2388 + 3 * i by omega, show 2376 + (12 + 3 * i + 1) = 2388 + 3 * i + 1 by omega, show 2376 + (12 + 3 * i + 2) = 2388 + 3 * i + 2 by omega]
    by_cases hic : i = c
    · subst hic
      rw [v1, v2, v3, a1, a2, ak _ (by omega) (by omega) (by omega), z3 i (by omega) (by omega)]
      exact ⟨rfl, rfl, rfl⟩
    · have bi : I (s + 18 + i) 2 = A (2376 + (12 + 3 * i)) ∧ I (s + 18 + i) 1 = A (2376 + (12 + 3 * i + 1)) ∧ I (s + 18 + i) 3 = A (2376 + (12 + 3 * i + 2)) := b i (by omega)
      rw [show 2376 + (12 + 3 * i) = 2388 + 3 * i by omega, show 2376 + (12 + 3 * i + 1) = 2388 + 3 * i + 1 by omega, show 2376 + (12 + 3 * i + 2) = 2388 + 3 * i + 2 by omega] at bi
      rw [i0 _ (by omega) (by omega), ak _ (by omega) (by omega) (by omega), ak _ (by omega) (by omega) (by omega), ak _ (by omega) (by omega) (by omega)]
      exact bi
  · have hi : i < (A' 2377).toNatClampNeg := hi
    rw [e7] at hi
    show I' (s + 24 + i) (j + 1) = A' (2376 + (30 + 7 * i + j))
    rw [i0 _ (by omega) (by omega), ak _ (by omega) (by omega) (by omega)]
    exact p i hi j hj
  · rw [ik 8 (by omega)]
    exact q8
  · have hk : k < (A' 2378).toNatClampNeg := hk
    rw [e8] at hk
    show I' (s + 32 + qix q k) j = A' (2376 + (86 + 7 * k + j))
    rw [i0 _ (by omega) (by omega), ak _ (by omega) (by omega) (by omega)]
    exact qk k hk j hj
  · have hi : i < (A' 2376).toNatClampNeg := hi
    rw [cc'] at hi
    show nmP (J' (s + 18 + i) 0) (N' (56 + i))
    by_cases hic : i = c
    · subst hic
      rw [n1]
      exact j1
    · rw [j0 _ (by omega), nk _ (by omega)]
      exact m1 i (by omega)
  · have hi : i < (A' 2377).toNatClampNeg := hi
    rw [e7] at hi
    show nmP (J' (s + 24 + i) 0) (N' (56 + 6 + i))
    rw [j0 _ (by omega), nk _ (by omega)]
    exact m2 i hi
  · show A' 2378 = 0
    rw [e8]
    exact z1
  · show A' 2387 = -1
    rw [ak _ (by omega) (by omega) (by omega)]
    exact z2
  · have hi : (A' 2376).toNatClampNeg ≤ i := hi
    rw [cc'] at hi
    show A' (2388 + 3 * i + 2) = 0
    rw [ak _ (by omega) (by omega) (by omega)]
    exact z3 i (by omega) hi6
  · have hi : (A' 2377).toNatClampNeg ≤ i := hi
    rw [e7] at hi
    show A' (2406 + 7 * i + 4) = 0 ∧ A' (2406 + 7 * i + 5) = 0 ∧ A' (2406 + 7 * i + 6) = 0
    rw [ak _ (by omega) (by omega) (by omega), ak _ (by omega) (by omega) (by omega), ak _ (by omega) (by omega) (by omega)]
    exact z4 i hi hi8
  · rw [i0 _ (by omega) (by omega)]
    exact h6
  · rw [i0 _ (by omega) (by omega)]
    exact h7
  · rw [i0 _ (by omega) (by omega)]
    exact h8
theorem dX7_takeHouse_0 : decode cX7_takeHouse 0 = .ok (.aload_n 0, 1) := by decide +kernel
theorem dX7_takeHouse_1 : decode cX7_takeHouse 1 = .ok (.getfield 15, 3) := by decide +kernel
theorem dX7_takeHouse_4 : decode cX7_takeHouse 4 = .ok (.getfield 89, 3) := by decide +kernel
theorem dX7_takeHouse_7 : decode cX7_takeHouse 7 = .ok (.bipush 6, 2) := by decide +kernel
theorem dX7_takeHouse_9 : decode cX7_takeHouse 9 = .ok (.if_icmp .lt 13, 3) := by decide +kernel
theorem dX7_takeHouse_12 : decode cX7_takeHouse 12 = .ok (.aload_n 0, 1) := by decide +kernel
theorem dX7_takeHouse_13 : decode cX7_takeHouse 13 = .ok (.getfield 9, 3) := by decide +kernel
theorem dX7_takeHouse_16 : decode cX7_takeHouse 16 = .ok (.bipush 6, 2) := by decide +kernel
theorem dX7_takeHouse_18 : decode cX7_takeHouse 18 = .ok (.invokevirtual 56, 3) := by decide +kernel
theorem dX7_takeHouse_21 : decode cX7_takeHouse 21 = .ok (.ireturn, 1) := by decide +kernel
theorem dX7_takeHouse_22 : decode cX7_takeHouse 22 = .ok (.aload_n 0, 1) := by decide +kernel
theorem dX7_takeHouse_23 : decode cX7_takeHouse 23 = .ok (.getfield 9, 3) := by decide +kernel
theorem dX7_takeHouse_26 : decode cX7_takeHouse 26 = .ok (.invokevirtual 67, 3) := by decide +kernel
theorem dX7_takeHouse_29 : decode cX7_takeHouse 29 = .ok (.aload_n 0, 1) := by decide +kernel
theorem dX7_takeHouse_30 : decode cX7_takeHouse 30 = .ok (.getfield 9, 3) := by decide +kernel
theorem dX7_takeHouse_33 : decode cX7_takeHouse 33 = .ok (.aload_n 0, 1) := by decide +kernel
theorem dX7_takeHouse_34 : decode cX7_takeHouse 34 = .ok (.getfield 15, 3) := by decide +kernel
theorem dX7_takeHouse_37 : decode cX7_takeHouse 37 = .ok (.invokevirtual 92, 3) := by decide +kernel
theorem dX7_takeHouse_40 : decode cX7_takeHouse 40 = .ok (.lstore_n 1, 1) := by decide +kernel
theorem dX7_takeHouse_41 : decode cX7_takeHouse 41 = .ok (.lload_n 1, 1) := by decide +kernel
theorem dX7_takeHouse_42 : decode cX7_takeHouse 42 = .ok (.lconst 0, 1) := by decide +kernel
theorem dX7_takeHouse_43 : decode cX7_takeHouse 43 = .ok (.lcmp, 1) := by decide +kernel
theorem dX7_takeHouse_44 : decode cX7_takeHouse 44 = .ok (.ifCond .eq 14, 3) := by decide +kernel
theorem dX7_takeHouse_47 : decode cX7_takeHouse 47 = .ok (.aload_n 0, 1) := by decide +kernel
theorem dX7_takeHouse_48 : decode cX7_takeHouse 48 = .ok (.getfield 9, 3) := by decide +kernel
theorem dX7_takeHouse_51 : decode cX7_takeHouse 51 = .ok (.iconst 4, 1) := by decide +kernel
theorem dX7_takeHouse_52 : decode cX7_takeHouse 52 = .ok (.invokevirtual 96, 3) := by decide +kernel
theorem dX7_takeHouse_55 : decode cX7_takeHouse 55 = .ok (.ifCond .ne 5, 3) := by decide +kernel
theorem dX7_takeHouse_58 : decode cX7_takeHouse 58 = .ok (.iconst 0, 1) := by decide +kernel
theorem dX7_takeHouse_59 : decode cX7_takeHouse 59 = .ok (.ireturn, 1) := by decide +kernel
theorem dX7_takeHouse_60 : decode cX7_takeHouse 60 = .ok (.aload_n 0, 1) := by decide +kernel
theorem dX7_takeHouse_61 : decode cX7_takeHouse 61 = .ok (.getfield 9, 3) := by decide +kernel
theorem dX7_takeHouse_64 : decode cX7_takeHouse 64 = .ok (.iconst 0, 1) := by decide +kernel
theorem dX7_takeHouse_65 : decode cX7_takeHouse 65 = .ok (.bipush 99, 2) := by decide +kernel
theorem dX7_takeHouse_67 : decode cX7_takeHouse 67 = .ok (.invokevirtual 70, 3) := by decide +kernel
theorem dX7_takeHouse_70 : decode cX7_takeHouse 70 = .ok (.istore_n 3, 1) := by decide +kernel
theorem dX7_takeHouse_71 : decode cX7_takeHouse 71 = .ok (.iload_n 3, 1) := by decide +kernel
theorem dX7_takeHouse_72 : decode cX7_takeHouse 72 = .ok (.iconst (-1), 1) := by decide +kernel
theorem dX7_takeHouse_73 : decode cX7_takeHouse 73 = .ok (.if_icmp .ne 5, 3) := by decide +kernel
theorem dX7_takeHouse_76 : decode cX7_takeHouse 76 = .ok (.iconst 0, 1) := by decide +kernel
theorem dX7_takeHouse_77 : decode cX7_takeHouse 77 = .ok (.ireturn, 1) := by decide +kernel
theorem dX7_takeHouse_78 : decode cX7_takeHouse 78 = .ok (.aload_n 0, 1) := by decide +kernel
theorem dX7_takeHouse_79 : decode cX7_takeHouse 79 = .ok (.getfield 15, 3) := by decide +kernel
theorem dX7_takeHouse_82 : decode cX7_takeHouse 82 = .ok (.getfield 99, 3) := by decide +kernel
theorem dX7_takeHouse_85 : decode cX7_takeHouse 85 = .ok (.aload_n 0, 1) := by decide +kernel
theorem dX7_takeHouse_86 : decode cX7_takeHouse 86 = .ok (.getfield 15, 3) := by decide +kernel
theorem dX7_takeHouse_89 : decode cX7_takeHouse 89 = .ok (.getfield 89, 3) := by decide +kernel
theorem dX7_takeHouse_92 : decode cX7_takeHouse 92 = .ok (.aaload, 1) := by decide +kernel
theorem dX7_takeHouse_93 : decode cX7_takeHouse 93 = .ok (.lload_n 1, 1) := by decide +kernel
theorem dX7_takeHouse_94 : decode cX7_takeHouse 94 = .ok (.iload_n 3, 1) := by decide +kernel
theorem dX7_takeHouse_95 : decode cX7_takeHouse 95 = .ok (.invokevirtual 103, 3) := by decide +kernel
theorem dX7_takeHouse_98 : decode cX7_takeHouse 98 = .ok (.aload_n 0, 1) := by decide +kernel
theorem dX7_takeHouse_99 : decode cX7_takeHouse 99 = .ok (.getfield 15, 3) := by decide +kernel
theorem dX7_takeHouse_102 : decode cX7_takeHouse 102 = .ok (.dup, 1) := by decide +kernel
theorem dX7_takeHouse_103 : decode cX7_takeHouse 103 = .ok (.getfield 89, 3) := by decide +kernel
theorem dX7_takeHouse_106 : decode cX7_takeHouse 106 = .ok (.iconst 1, 1) := by decide +kernel
theorem dX7_takeHouse_107 : decode cX7_takeHouse 107 = .ok (.iadd, 1) := by decide +kernel
theorem dX7_takeHouse_108 : decode cX7_takeHouse 108 = .ok (.putfield 89, 3) := by decide +kernel
theorem dX7_takeHouse_111 : decode cX7_takeHouse 111 = .ok (.iconst 1, 1) := by decide +kernel
theorem dX7_takeHouse_112 : decode cX7_takeHouse 112 = .ok (.ireturn, 1) := by decide +kernel
abbrev M_X7_takeHouse : MT := (yX7_takeHouse, cX7_takeHouse, 4, (some .boolean))
theorem cf_X7_takeHouse : fq_cf M_X7_takeHouse 0 := ⟨(mg_1 (List.mem_of_getElem? (i := 17) rfl) rfl), (mg_3 (List.mem_of_getElem? (i := 238) rfl) rfl), ⟨by decide, by decide, by decide +kernel⟩, by decide⟩
def B_X7_takeHouse_98 (G : GT) (mc ms : Nat) (Q : Post) : Cn := ix_aload 0 (ix_getR 7 1 (ix_dupR (ix_getI 6 5 (ix_pushI 1 (ix_iadd (ix_putI 6 5 (ix_pushI 1 (ix_zret mc ms Q))))))))
theorem b_X7_takeHouse_98 {l : Launch} {G : GT} {D mc ms : Nat} {Q : Post} : Imp l G M_X7_takeHouse (D + 4) mc ms Q (B_X7_takeHouse_98 G mc ms Q) 98 := sx_aload_n dX7_takeHouse_98 rfl (sx_getR dX7_takeHouse_99 fl_FootQuarrel_StreetText_15 (fun _ _ _ => rfl) (sx_dupR dX7_takeHouse_102 (sx_getI dX7_takeHouse_103 fl_FootQuarrel_StreetText_89 (fun _ _ _ => rfl) (sx_iconst dX7_takeHouse_106 rfl (sx_iadd dX7_takeHouse_107 (sx_putI dX7_takeHouse_108 fl_FootQuarrel_StreetText_89 (by decide) (fun _ _ _ => rfl) (fun _ => ⟨rfl, rfl⟩) (sx_iconst dX7_takeHouse_111 rfl (sx_zret dX7_takeHouse_112 rfl))))))))
def B_X7_takeHouse_70 (G : GT) (mc ms : Nat) (Q : Post) : Cn := ix_istore 3 (ix_iload 3 (ix_pushI (-1) (ix_icmp_ne (ix_aload 0 (ix_getR 7 1 (ix_getR 6 0 (ix_aload 0 (ix_getR 7 1 (ix_getI 6 5 (ix_aald 16 (ix_lload 1 (ix_iload 3 (ix_vcall 0 3 0 0 mc ms (sp_X0_build G) ((B_X7_takeHouse_98 G mc ms Q)))))))))))) (ix_pushI 0 (ix_zret mc ms Q)))))
theorem b_X7_takeHouse_70 {l : Launch} {G : GT} {D mc ms : Nat} {Q : Post} : Imp l G M_X7_takeHouse (D + 4) mc ms Q (B_X7_takeHouse_70 G mc ms Q) 70 := sx_istore_n dX7_takeHouse_70 rfl (by decide) (sx_iload_n dX7_takeHouse_71 rfl (sx_iconst dX7_takeHouse_72 rfl (sx_icmp_ne 78 dX7_takeHouse_73 (by decide) (sx_aload_n dX7_takeHouse_78 rfl (sx_getR dX7_takeHouse_79 fl_FootQuarrel_StreetText_15 (fun _ _ _ => rfl) (sx_getR dX7_takeHouse_82 fl_FootQuarrel_StreetText_99 (fun _ _ _ => rfl) (sx_aload_n dX7_takeHouse_85 rfl (sx_getR dX7_takeHouse_86 fl_FootQuarrel_StreetText_15 (fun _ _ _ => rfl) (sx_getI dX7_takeHouse_89 fl_FootQuarrel_StreetText_89 (fun _ _ _ => rfl) (sx_aald dX7_takeHouse_92 (by decide) (by decide) rfl (sx_lload_n dX7_takeHouse_93 rfl (sx_iload_n dX7_takeHouse_94 rfl (sx_vcall dX7_takeHouse_95 cf_X0_build (mg_4 (List.mem_of_getElem? (i := 19) rfl) rfl) (mg_4 (List.mem_of_getElem? (i := 20) rfl) rfl) (mg_4 (List.mem_of_getElem? (i := 21) rfl) rfl) rfl c_X0_build (b_X7_takeHouse_98))))))))))) (sx_iconst dX7_takeHouse_76 rfl (sx_zret dX7_takeHouse_77 rfl)))))
def B_X7_takeHouse_58 (G : GT) (mc ms : Nat) (Q : Post) : Cn := ix_pushI 0 (ix_zret mc ms Q)
theorem b_X7_takeHouse_58 {l : Launch} {G : GT} {D mc ms : Nat} {Q : Post} : Imp l G M_X7_takeHouse (D + 4) mc ms Q (B_X7_takeHouse_58 G mc ms Q) 58 := sx_iconst dX7_takeHouse_58 rfl (sx_zret dX7_takeHouse_59 rfl)
def B_X7_takeHouse_55 (G : GT) (mc ms : Nat) (Q : Post) : Cn := ix_if_ne (ix_aload 0 (ix_getR 7 0 (ix_pushI 0 (ix_pushI 99 (ix_vcall 4 3 0 0 mc ms (sp_X4_takeNumber G) ((B_X7_takeHouse_70 G mc ms Q))))))) ((B_X7_takeHouse_58 G mc ms Q))
theorem b_X7_takeHouse_55 {l : Launch} {G : GT} {D mc ms : Nat} {Q : Post} : Imp l G M_X7_takeHouse (D + 4) mc ms Q (B_X7_takeHouse_55 G mc ms Q) 55 := sx_if_ne 60 dX7_takeHouse_55 (by decide) (sx_aload_n dX7_takeHouse_60 rfl (sx_getR dX7_takeHouse_61 fl_FootQuarrel_StreetText_9 (fun _ _ _ => rfl) (sx_iconst dX7_takeHouse_64 rfl (sx_bipush dX7_takeHouse_65 rfl (sx_vcall dX7_takeHouse_67 cf_X4_takeNumber (mg_3 (List.mem_of_getElem? (i := 221) rfl) rfl) (mg_3 (List.mem_of_getElem? (i := 222) rfl) rfl) (mg_3 (List.mem_of_getElem? (i := 223) rfl) rfl) rfl c_X4_takeNumber (b_X7_takeHouse_70)))))) (b_X7_takeHouse_58)
def B_X7_takeHouse_40 (G : GT) (mc ms : Nat) (Q : Post) : Cn := ix_lstore 1 (ix_lload 1 (ix_pushL 0 (ix_lcmp (ix_if_eq ((B_X7_takeHouse_58 G mc ms Q)) (ix_aload 0 (ix_getR 7 0 (ix_pushI 4 (ix_vcall 4 2 0 0 mc ms (sp_X4_takeWord G) ((B_X7_takeHouse_55 G mc ms Q))))))))))
theorem b_X7_takeHouse_40 {l : Launch} {G : GT} {D mc ms : Nat} {Q : Post} : Imp l G M_X7_takeHouse (D + 4) mc ms Q (B_X7_takeHouse_40 G mc ms Q) 40 := sx_lstore_n dX7_takeHouse_40 rfl (by decide) (sx_lload_n dX7_takeHouse_41 rfl (sx_lconst dX7_takeHouse_42 rfl (sx_lcmp dX7_takeHouse_43 (sx_if_eq 58 dX7_takeHouse_44 (by decide) (b_X7_takeHouse_58) (sx_aload_n dX7_takeHouse_47 rfl (sx_getR dX7_takeHouse_48 fl_FootQuarrel_StreetText_9 (fun _ _ _ => rfl) (sx_iconst dX7_takeHouse_51 rfl (sx_vcall dX7_takeHouse_52 cf_X4_takeWord (mg_4 (List.mem_of_getElem? (i := 15) rfl) rfl) (mg_4 (List.mem_of_getElem? (i := 16) rfl) rfl) (mg_4 (List.mem_of_getElem? (i := 17) rfl) rfl) rfl c_X4_takeWord (b_X7_takeHouse_55)))))))))
def B_X7_takeHouse_29 (G : GT) (mc ms : Nat) (Q : Post) : Cn := ix_aload 0 (ix_getR 7 0 (ix_aload 0 (ix_getR 7 1 (ix_vcall 4 2 0 0 mc ms (sp_X4_takeNewName G) ((B_X7_takeHouse_40 G mc ms Q))))))
theorem b_X7_takeHouse_29 {l : Launch} {G : GT} {D mc ms : Nat} {Q : Post} : Imp l G M_X7_takeHouse (D + 4) mc ms Q (B_X7_takeHouse_29 G mc ms Q) 29 := sx_aload_n dX7_takeHouse_29 rfl (sx_getR dX7_takeHouse_30 fl_FootQuarrel_StreetText_9 (fun _ _ _ => rfl) (sx_aload_n dX7_takeHouse_33 rfl (sx_getR dX7_takeHouse_34 fl_FootQuarrel_StreetText_15 (fun _ _ _ => rfl) (sx_vcall dX7_takeHouse_37 cf_X4_takeNewName (mg_3 (List.mem_of_getElem? (i := 239) rfl) rfl) (mg_4 (List.mem_of_getElem? (i := 0) rfl) rfl) (mg_4 (List.mem_of_getElem? (i := 1) rfl) rfl) rfl c_X4_takeNewName (b_X7_takeHouse_40)))))
def B_X7_takeHouse_21 (G : GT) (mc ms : Nat) (Q : Post) : Cn := ix_zret mc ms Q
theorem b_X7_takeHouse_21 {l : Launch} {G : GT} {D mc ms : Nat} {Q : Post} : Imp l G M_X7_takeHouse (D + 4) mc ms Q (B_X7_takeHouse_21 G mc ms Q) 21 := sx_zret dX7_takeHouse_21 rfl
def B_X7_takeHouse_0 (G : GT) (mc ms : Nat) (Q : Post) : Cn := ix_aload 0 (ix_getR 7 1 (ix_getI 6 5 (ix_pushI 6 (ix_icmp_lt (ix_aload 0 (ix_getR 7 0 (ix_vcall 4 1 0 0 mc ms (sp_X4_advance G) ((B_X7_takeHouse_29 G mc ms Q))))) (ix_aload 0 (ix_getR 7 0 (ix_pushI 6 (ix_vcall 4 2 0 0 mc ms (sp_X4_reject G) ((B_X7_takeHouse_21 G mc ms Q))))))))))
theorem b_X7_takeHouse_0 {l : Launch} {G : GT} {D mc ms : Nat} {Q : Post} : Imp l G M_X7_takeHouse (D + 4) mc ms Q (B_X7_takeHouse_0 G mc ms Q) 0 := sx_aload_n dX7_takeHouse_0 rfl (sx_getR dX7_takeHouse_1 fl_FootQuarrel_StreetText_15 (fun _ _ _ => rfl) (sx_getI dX7_takeHouse_4 fl_FootQuarrel_StreetText_89 (fun _ _ _ => rfl) (sx_bipush dX7_takeHouse_7 rfl (sx_icmp_lt 22 dX7_takeHouse_9 (by decide) (sx_aload_n dX7_takeHouse_22 rfl (sx_getR dX7_takeHouse_23 fl_FootQuarrel_StreetText_9 (fun _ _ _ => rfl) (sx_vcall dX7_takeHouse_26 cf_X4_advance (mg_3 (List.mem_of_getElem? (i := 220) rfl) rfl) (mg_3 (List.mem_of_getElem? (i := 182) rfl) rfl) (mg_3 (List.mem_of_getElem? (i := 183) rfl) rfl) rfl c_X4_advance (b_X7_takeHouse_29)))) (sx_aload_n dX7_takeHouse_12 rfl (sx_getR dX7_takeHouse_13 fl_FootQuarrel_StreetText_9 (fun _ _ _ => rfl) (sx_bipush dX7_takeHouse_16 rfl (sx_vcall dX7_takeHouse_18 cf_X4_reject (mg_3 (List.mem_of_getElem? (i := 216) rfl) rfl) (mg_3 (List.mem_of_getElem? (i := 217) rfl) rfl) (mg_3 (List.mem_of_getElem? (i := 218) rfl) rfl) rfl c_X4_reject (b_X7_takeHouse_21)))))))))
theorem dX7_takePeace_0 : decode cX7_takePeace 0 = .ok (.aload_n 0, 1) := by decide +kernel
theorem dX7_takePeace_1 : decode cX7_takePeace 1 = .ok (.getfield 9, 3) := by decide +kernel
theorem dX7_takePeace_4 : decode cX7_takePeace 4 = .ok (.invokevirtual 67, 3) := by decide +kernel
theorem dX7_takePeace_7 : decode cX7_takePeace 7 = .ok (.aload_n 0, 1) := by decide +kernel
theorem dX7_takePeace_8 : decode cX7_takePeace 8 = .ok (.getfield 9, 3) := by decide +kernel
theorem dX7_takePeace_11 : decode cX7_takePeace 11 = .ok (.aload_n 0, 1) := by decide +kernel
theorem dX7_takePeace_12 : decode cX7_takePeace 12 = .ok (.getfield 15, 3) := by decide +kernel
theorem dX7_takePeace_15 : decode cX7_takePeace 15 = .ok (.invokevirtual 112, 3) := by decide +kernel
theorem dX7_takePeace_18 : decode cX7_takePeace 18 = .ok (.istore_n 1, 1) := by decide +kernel
theorem dX7_takePeace_19 : decode cX7_takePeace 19 = .ok (.iload_n 1, 1) := by decide +kernel
theorem dX7_takePeace_20 : decode cX7_takePeace 20 = .ok (.iconst (-1), 1) := by decide +kernel
theorem dX7_takePeace_21 : decode cX7_takePeace 21 = .ok (.if_icmp .ne 5, 3) := by decide +kernel
theorem dX7_takePeace_24 : decode cX7_takePeace 24 = .ok (.iconst 0, 1) := by decide +kernel
theorem dX7_takePeace_25 : decode cX7_takePeace 25 = .ok (.ireturn, 1) := by decide +kernel
theorem dX7_takePeace_26 : decode cX7_takePeace 26 = .ok (.aload_n 0, 1) := by decide +kernel
theorem dX7_takePeace_27 : decode cX7_takePeace 27 = .ok (.getfield 9, 3) := by decide +kernel
theorem dX7_takePeace_30 : decode cX7_takePeace 30 = .ok (.aload_n 0, 1) := by decide +kernel
theorem dX7_takePeace_31 : decode cX7_takePeace 31 = .ok (.getfield 15, 3) := by decide +kernel
theorem dX7_takePeace_34 : decode cX7_takePeace 34 = .ok (.invokevirtual 139, 3) := by decide +kernel
theorem dX7_takePeace_37 : decode cX7_takePeace 37 = .ok (.istore_n 2, 1) := by decide +kernel
theorem dX7_takePeace_38 : decode cX7_takePeace 38 = .ok (.iload_n 2, 1) := by decide +kernel
theorem dX7_takePeace_39 : decode cX7_takePeace 39 = .ok (.iconst (-1), 1) := by decide +kernel
theorem dX7_takePeace_40 : decode cX7_takePeace 40 = .ok (.if_icmp .ne 5, 3) := by decide +kernel
theorem dX7_takePeace_43 : decode cX7_takePeace 43 = .ok (.iconst 0, 1) := by decide +kernel
theorem dX7_takePeace_44 : decode cX7_takePeace 44 = .ok (.ireturn, 1) := by decide +kernel
theorem dX7_takePeace_45 : decode cX7_takePeace 45 = .ok (.iload_n 1, 1) := by decide +kernel
theorem dX7_takePeace_46 : decode cX7_takePeace 46 = .ok (.iload_n 2, 1) := by decide +kernel
theorem dX7_takePeace_47 : decode cX7_takePeace 47 = .ok (.isub, 1) := by decide +kernel
theorem dX7_takePeace_48 : decode cX7_takePeace 48 = .ok (.invokestatic 142, 3) := by decide +kernel
theorem dX7_takePeace_51 : decode cX7_takePeace 51 = .ok (.iconst 1, 1) := by decide +kernel
theorem dX7_takePeace_52 : decode cX7_takePeace 52 = .ok (.if_icmp .eq 12, 3) := by decide +kernel
theorem dX7_takePeace_55 : decode cX7_takePeace 55 = .ok (.aload_n 0, 1) := by decide +kernel
theorem dX7_takePeace_56 : decode cX7_takePeace 56 = .ok (.getfield 9, 3) := by decide +kernel
theorem dX7_takePeace_59 : decode cX7_takePeace 59 = .ok (.iconst 5, 1) := by decide +kernel
theorem dX7_takePeace_60 : decode cX7_takePeace 60 = .ok (.invokevirtual 56, 3) := by decide +kernel
theorem dX7_takePeace_63 : decode cX7_takePeace 63 = .ok (.ireturn, 1) := by decide +kernel
theorem dX7_takePeace_64 : decode cX7_takePeace 64 = .ok (.aload_n 0, 1) := by decide +kernel
theorem dX7_takePeace_65 : decode cX7_takePeace 65 = .ok (.getfield 9, 3) := by decide +kernel
theorem dX7_takePeace_68 : decode cX7_takePeace 68 = .ok (.invokevirtual 67, 3) := by decide +kernel
theorem dX7_takePeace_71 : decode cX7_takePeace 71 = .ok (.aload_n 0, 1) := by decide +kernel
theorem dX7_takePeace_72 : decode cX7_takePeace 72 = .ok (.getfield 15, 3) := by decide +kernel
theorem dX7_takePeace_75 : decode cX7_takePeace 75 = .ok (.dup, 1) := by decide +kernel
theorem dX7_takePeace_76 : decode cX7_takePeace 76 = .ok (.getfield 148, 3) := by decide +kernel
theorem dX7_takePeace_79 : decode cX7_takePeace 79 = .ok (.iconst 1, 1) := by decide +kernel
theorem dX7_takePeace_80 : decode cX7_takePeace 80 = .ok (.iload_n 1, 1) := by decide +kernel
theorem dX7_takePeace_81 : decode cX7_takePeace 81 = .ok (.iload_n 2, 1) := by decide +kernel
theorem dX7_takePeace_82 : decode cX7_takePeace 82 = .ok (.invokestatic 151, 3) := by decide +kernel
theorem dX7_takePeace_85 : decode cX7_takePeace 85 = .ok (.ishl, 1) := by decide +kernel
theorem dX7_takePeace_86 : decode cX7_takePeace 86 = .ok (.ior, 1) := by decide +kernel
theorem dX7_takePeace_87 : decode cX7_takePeace 87 = .ok (.putfield 148, 3) := by decide +kernel
theorem dX7_takePeace_90 : decode cX7_takePeace 90 = .ok (.iconst 1, 1) := by decide +kernel
theorem dX7_takePeace_91 : decode cX7_takePeace 91 = .ok (.ireturn, 1) := by decide +kernel
abbrev M_X7_takePeace : MT := (yX7_takePeace, cX7_takePeace, 3, (some .boolean))
theorem cf_X7_takePeace : fq_cf M_X7_takePeace 0 := ⟨(mg_1 (List.mem_of_getElem? (i := 17) rfl) rfl), (mg_4 (List.mem_of_getElem? (i := 58) rfl) rfl), ⟨by decide, by decide, by decide +kernel⟩, by decide⟩
def B_X7_takePeace_71 (G : GT) (mc ms : Nat) (Q : Post) : Cn := ix_aload 0 (ix_getR 7 1 (ix_dupR (ix_getI 6 13 (ix_pushI 1 (ix_iload 1 (ix_iload 2 (ix_min mc ms (ix_ishl (ix_ior (ix_putI 6 13 (ix_pushI 1 (ix_zret mc ms Q))))))))))))
theorem b_X7_takePeace_71 {l : Launch} {G : GT} {D mc ms : Nat} {Q : Post} : Imp l G M_X7_takePeace (D + 4) mc ms Q (B_X7_takePeace_71 G mc ms Q) 71 := sx_aload_n dX7_takePeace_71 rfl (sx_getR dX7_takePeace_72 fl_FootQuarrel_StreetText_15 (fun _ _ _ => rfl) (sx_dupR dX7_takePeace_75 (sx_getI dX7_takePeace_76 fl_FootQuarrel_StreetText_148 (fun _ _ _ => rfl) (sx_iconst dX7_takePeace_79 rfl (sx_iload_n dX7_takePeace_80 rfl (sx_iload_n dX7_takePeace_81 rfl (sx_min dX7_takePeace_82 (mg_4 (List.mem_of_getElem? (i := 63) rfl) rfl) (mg_3 (List.mem_of_getElem? (i := 179) rfl) rfl) (mg_1 (List.mem_of_getElem? (i := 18) rfl) rfl) (mg_3 (List.mem_of_getElem? (i := 180) rfl) rfl) (sx_ishl dX7_takePeace_85 (sx_ior dX7_takePeace_86 (sx_putI dX7_takePeace_87 fl_FootQuarrel_StreetText_148 (by decide) (fun _ _ _ => rfl) (fun _ => ⟨rfl, rfl⟩) (sx_iconst dX7_takePeace_90 rfl (sx_zret dX7_takePeace_91 rfl))))))))))))
def B_X7_takePeace_63 (G : GT) (mc ms : Nat) (Q : Post) : Cn := ix_zret mc ms Q
theorem b_X7_takePeace_63 {l : Launch} {G : GT} {D mc ms : Nat} {Q : Post} : Imp l G M_X7_takePeace (D + 4) mc ms Q (B_X7_takePeace_63 G mc ms Q) 63 := sx_zret dX7_takePeace_63 rfl
def B_X7_takePeace_37 (G : GT) (mc ms : Nat) (Q : Post) : Cn := ix_istore 2 (ix_iload 2 (ix_pushI (-1) (ix_icmp_ne (ix_iload 1 (ix_iload 2 (ix_isub (ix_abs mc ms (ix_pushI 1 (ix_icmp_eq (ix_aload 0 (ix_getR 7 0 (ix_vcall 4 1 0 0 mc ms (sp_X4_advance G) ((B_X7_takePeace_71 G mc ms Q))))) (ix_aload 0 (ix_getR 7 0 (ix_pushI 5 (ix_vcall 4 2 0 0 mc ms (sp_X4_reject G) ((B_X7_takePeace_63 G mc ms Q)))))))))))) (ix_pushI 0 (ix_zret mc ms Q)))))
theorem b_X7_takePeace_37 {l : Launch} {G : GT} {D mc ms : Nat} {Q : Post} : Imp l G M_X7_takePeace (D + 4) mc ms Q (B_X7_takePeace_37 G mc ms Q) 37 := sx_istore_n dX7_takePeace_37 rfl (by decide) (sx_iload_n dX7_takePeace_38 rfl (sx_iconst dX7_takePeace_39 rfl (sx_icmp_ne 45 dX7_takePeace_40 (by decide) (sx_iload_n dX7_takePeace_45 rfl (sx_iload_n dX7_takePeace_46 rfl (sx_isub dX7_takePeace_47 (sx_abs dX7_takePeace_48 (mg_4 (List.mem_of_getElem? (i := 60) rfl) rfl) (mg_4 (List.mem_of_getElem? (i := 61) rfl) rfl) (mg_1 (List.mem_of_getElem? (i := 18) rfl) rfl) (mg_4 (List.mem_of_getElem? (i := 62) rfl) rfl) (sx_iconst dX7_takePeace_51 rfl (sx_icmp_eq 64 dX7_takePeace_52 (by decide) (sx_aload_n dX7_takePeace_64 rfl (sx_getR dX7_takePeace_65 fl_FootQuarrel_StreetText_9 (fun _ _ _ => rfl) (sx_vcall dX7_takePeace_68 cf_X4_advance (mg_3 (List.mem_of_getElem? (i := 220) rfl) rfl) (mg_3 (List.mem_of_getElem? (i := 182) rfl) rfl) (mg_3 (List.mem_of_getElem? (i := 183) rfl) rfl) rfl c_X4_advance (b_X7_takePeace_71)))) (sx_aload_n dX7_takePeace_55 rfl (sx_getR dX7_takePeace_56 fl_FootQuarrel_StreetText_9 (fun _ _ _ => rfl) (sx_iconst dX7_takePeace_59 rfl (sx_vcall dX7_takePeace_60 cf_X4_reject (mg_3 (List.mem_of_getElem? (i := 216) rfl) rfl) (mg_3 (List.mem_of_getElem? (i := 217) rfl) rfl) (mg_3 (List.mem_of_getElem? (i := 218) rfl) rfl) rfl c_X4_reject (b_X7_takePeace_63))))))))))) (sx_iconst dX7_takePeace_43 rfl (sx_zret dX7_takePeace_44 rfl)))))
def B_X7_takePeace_18 (G : GT) (mc ms : Nat) (Q : Post) : Cn := ix_istore 1 (ix_iload 1 (ix_pushI (-1) (ix_icmp_ne (ix_aload 0 (ix_getR 7 0 (ix_aload 0 (ix_getR 7 1 (ix_vcall 4 2 0 0 mc ms (sp_X4_seeHouse G) ((B_X7_takePeace_37 G mc ms Q))))))) (ix_pushI 0 (ix_zret mc ms Q)))))
theorem b_X7_takePeace_18 {l : Launch} {G : GT} {D mc ms : Nat} {Q : Post} : Imp l G M_X7_takePeace (D + 4) mc ms Q (B_X7_takePeace_18 G mc ms Q) 18 := sx_istore_n dX7_takePeace_18 rfl (by decide) (sx_iload_n dX7_takePeace_19 rfl (sx_iconst dX7_takePeace_20 rfl (sx_icmp_ne 26 dX7_takePeace_21 (by decide) (sx_aload_n dX7_takePeace_26 rfl (sx_getR dX7_takePeace_27 fl_FootQuarrel_StreetText_9 (fun _ _ _ => rfl) (sx_aload_n dX7_takePeace_30 rfl (sx_getR dX7_takePeace_31 fl_FootQuarrel_StreetText_15 (fun _ _ _ => rfl) (sx_vcall dX7_takePeace_34 cf_X4_seeHouse (mg_4 (List.mem_of_getElem? (i := 59) rfl) rfl) (mg_4 (List.mem_of_getElem? (i := 32) rfl) rfl) (mg_4 (List.mem_of_getElem? (i := 33) rfl) rfl) rfl c_X4_seeHouse (b_X7_takePeace_37)))))) (sx_iconst dX7_takePeace_24 rfl (sx_zret dX7_takePeace_25 rfl)))))
def B_X7_takePeace_7 (G : GT) (mc ms : Nat) (Q : Post) : Cn := ix_aload 0 (ix_getR 7 0 (ix_aload 0 (ix_getR 7 1 (ix_vcall 4 2 0 0 mc ms (sp_X4_takeHouse G) ((B_X7_takePeace_18 G mc ms Q))))))
theorem b_X7_takePeace_7 {l : Launch} {G : GT} {D mc ms : Nat} {Q : Post} : Imp l G M_X7_takePeace (D + 4) mc ms Q (B_X7_takePeace_7 G mc ms Q) 7 := sx_aload_n dX7_takePeace_7 rfl (sx_getR dX7_takePeace_8 fl_FootQuarrel_StreetText_9 (fun _ _ _ => rfl) (sx_aload_n dX7_takePeace_11 rfl (sx_getR dX7_takePeace_12 fl_FootQuarrel_StreetText_15 (fun _ _ _ => rfl) (sx_vcall dX7_takePeace_15 cf_X4_takeHouse (mg_4 (List.mem_of_getElem? (i := 27) rfl) rfl) (mg_4 (List.mem_of_getElem? (i := 28) rfl) rfl) (mg_4 (List.mem_of_getElem? (i := 29) rfl) rfl) rfl c_X4_takeHouse (b_X7_takePeace_18)))))
def B_X7_takePeace_0 (G : GT) (mc ms : Nat) (Q : Post) : Cn := ix_aload 0 (ix_getR 7 0 (ix_vcall 4 1 0 0 mc ms (sp_X4_advance G) ((B_X7_takePeace_7 G mc ms Q))))
theorem b_X7_takePeace_0 {l : Launch} {G : GT} {D mc ms : Nat} {Q : Post} : Imp l G M_X7_takePeace (D + 4) mc ms Q (B_X7_takePeace_0 G mc ms Q) 0 := sx_aload_n dX7_takePeace_0 rfl (sx_getR dX7_takePeace_1 fl_FootQuarrel_StreetText_9 (fun _ _ _ => rfl) (sx_vcall dX7_takePeace_4 cf_X4_advance (mg_3 (List.mem_of_getElem? (i := 220) rfl) rfl) (mg_3 (List.mem_of_getElem? (i := 182) rfl) rfl) (mg_3 (List.mem_of_getElem? (i := 183) rfl) rfl) rfl c_X4_advance (b_X7_takePeace_7)))
def sp_X7_takeHouse (G : GT) : Sp := fun as S I J z Q => match as with
  | [.ref a] => ∃ (X s t : Nat) (T : Nat → Int32) (n : Nat) (σ : PSt), t = a ∧ txS S X s t ∧ rdE S I J X T n ∧ stH X s I J T n σ ∧ ¬ tK T n σ.2.2 = 1 ∧ CES X s t I J T n (pHs T n σ) (fun I' J' => Q (some (.int 1)) S I' J' z) (fun I' J' => Q (some (.int 0)) S I' J' z)
  | _ => False
set_option maxHeartbeats 4000000 in
set_option maxRecDepth 20000 in
theorem c_X7_takeHouse {l : Launch} {G : GT} {D : Nat} : ∀ as S I J z Q, sp_X7_takeHouse G as S I J z Q → fqCall l G M_X7_takeHouse (D + 4) 0 0 as S I J z Q := by
  intro as S I J z Q h
  unfold sp_X7_takeHouse at h
  split at h
  · next a =>
    obtain ⟨X, s, t, T, n, ⟨A, N, e⟩, rfl, hx, hE, hH, hk, hR⟩ := h
    have hx0 := hx
    obtain ⟨x1, x2, x3, hs, l1, l2, l3⟩ := hx
    have s1 := hE.1.1
    obtain ⟨c, hc6, hc, hcc⟩ := hH.c.1.ex
    dsimp only at hc hcc hR hk
    have i5 : I s 5 = nI c := hH.c.2.2.1.trans hc
    have e1 := (tFE hH.2.1 (T := T)).2.2.2
    dsimp only at e1
    have e2 := (tFE e1 (T := T)).2.2.2
    have e3 := (tFE e2 (T := T)).2.2.2
    have e4 := (tFE e3 (T := T)).2.2.2
    unfold pHs pNw pWd pNum at hR
    dsimp only at hR
    rw [show 2376 + 0 = 2376 from rfl, hcc] at hR
    refine fq_enter [some (.ref t), none, none, none] (by decide +kernel) (Nat.le_of_ble_eq_true rfl) rfl (b_X7_takeHouse_0 _ _ _ _ _ _ _ _ ?_)
    simp (disch := omega) only [B_X7_takeHouse_0, x1, x2, x3, s1, hs.k, hs.r0, hs.k1, hs.r1, hs.k2, hs.r2, hs.k3, hs.r3, hs.k4, hs.r4, hs.k12, hs.n1, hs.n2, hs.n3, hs.y0, hs.k5, hs.n5, hs.y1, hs.k6, hs.n6, hs.y2, hs.k7, hs.n7, hs.y3, hs.k8, hs.n8, hs.y4, hs.k9, hs.n9, hs.y5, hs.k10, hs.n10, hs.y6, hs.k11, hs.n11, hs.p0, hs.p1, hs.p2, hs.k13, hs.n13, hs.q0, hs.q1, hs.k14, hs.k15, hs.k16, hs.n16, hs.k17, hs.n17, hs.rH, hs.kH, hs.rP, hs.kP, hs.rQ, hs.kQ, i5, nI_1, nI_add, nI_clamp, nI_pin, nI_neg, nI_nonneg, nI_leE, nI_ltE, nI_eqE, Nat.not_le, Nat.not_lt, fq_10, fq_01, fq_rr, ix_aald, ix_aast, ix_abs, ix_alen, ix_aload, ix_aret, ix_astore, ix_bald, ix_bast, ix_call, ix_cpyI, ix_cpyJ, ix_dead, ix_dup2, ix_dup2L, ix_dupI, ix_dupR, ix_dupx1, ix_getI, ix_getJ, ix_getR, ix_gfm, ix_gtab, ix_i2b, ix_i2c, ix_i2l, ix_i2s, ix_iadd, ix_iald, ix_iand, ix_iast, ix_icall, ix_icmp_eq, ix_icmp_ge, ix_icmp_gt, ix_icmp_le, ix_icmp_lt, ix_icmp_ne, ix_idiv, ix_if_eq, ix_if_ge, ix_if_gt, ix_if_le, ix_if_lt, ix_if_ne, ix_iinc, ix_iload, ix_imul, ix_ineg, ix_ior, ix_irem, ix_iret, ix_ishl, ix_ishr, ix_istore, ix_isub, ix_iushr, ix_ixor, ix_l2i, ix_ladd, ix_lald, ix_land, ix_last, ix_lcmp, ix_ldcS, ix_ldiv, ix_lload, ix_lmul, ix_lor, ix_lrem, ix_lret, ix_lshl, ix_lstore, ix_lsub, ix_lsw, ix_max, ix_min, ix_new, ix_newa, ix_nret, ix_oinit, ix_pop2L, ix_popI, ix_pushI, ix_pushL, ix_putI, ix_putJ, ix_putR, ix_putZ, ix_sbald, ix_sgetC, ix_sgetV, ix_slen, ix_strc, ix_tald, ix_tsw, ix_vcall, ix_vret, ix_zret, stL, stL2, kilL, popN, fq_sw, fq_lsw, List.map_cons, List.map_nil, List.getElem?_cons_zero, List.getElem?_cons_succ, Option.toList_some, Option.toList_none, List.cons_append, List.nil_append, List.length_cons, List.length_nil, List.sum_cons, List.sum_nil, cat_i, cat_l, cat_r, true_and, and_true, Nat.zero_add, Nat.add_zero, Nat.le_refl, Nat.zero_le, Nat.reduceAdd, Nat.reduceLeDiff, exists_eq_left', Option.some.injEq, not_true_eq_false, not_false_eq_true, false_implies, true_implies, implies_true, and_self, or_true, true_or, or_false, false_or]
    by_cases q6 : c = 6
    · subst q6
      rw [if_pos (show A 2376 = 6 from hc)] at hR
      refine ⟨fun r => absurd r (by decide), fun _ => rej_R (hH.q hE) ?_⟩
      simp (disch := omega) only [B_X7_takeHouse_21, nI_1, nI_add, nI_clamp, nI_pin, nI_neg, nI_nonneg, nI_leE, nI_ltE, nI_eqE, Nat.not_le, Nat.not_lt, fq_10, fq_01, fq_rr, ix_aald, ix_aast, ix_abs, ix_alen, ix_aload, ix_aret, ix_astore, ix_bald, ix_bast, ix_call, ix_cpyI, ix_cpyJ, ix_dead, ix_dup2, ix_dup2L, ix_dupI, ix_dupR, ix_dupx1, ix_getI, ix_getJ, ix_getR, ix_gfm, ix_gtab, ix_i2b, ix_i2c, ix_i2l, ix_i2s, ix_iadd, ix_iald, ix_iand, ix_iast, ix_icall, ix_icmp_eq, ix_icmp_ge, ix_icmp_gt, ix_icmp_le, ix_icmp_lt, ix_icmp_ne, ix_idiv, ix_if_eq, ix_if_ge, ix_if_gt, ix_if_le, ix_if_lt, ix_if_ne, ix_iinc, ix_iload, ix_imul, ix_ineg, ix_ior, ix_irem, ix_iret, ix_ishl, ix_ishr, ix_istore, ix_isub, ix_iushr, ix_ixor, ix_l2i, ix_ladd, ix_lald, ix_land, ix_last, ix_lcmp, ix_ldcS, ix_ldiv, ix_lload, ix_lmul, ix_lor, ix_lrem, ix_lret, ix_lshl, ix_lstore, ix_lsub, ix_lsw, ix_max, ix_min, ix_new, ix_newa, ix_nret, ix_oinit, ix_pop2L, ix_popI, ix_pushI, ix_pushL, ix_putI, ix_putJ, ix_putR, ix_putZ, ix_sbald, ix_sgetC, ix_sgetV, ix_slen, ix_strc, ix_tald, ix_tsw, ix_vcall, ix_vret, ix_zret, stL, stL2, kilL, popN, fq_sw, fq_lsw, List.map_cons, List.map_nil, List.getElem?_cons_zero, List.getElem?_cons_succ, Option.toList_some, Option.toList_none, List.cons_append, List.nil_append, List.length_cons, List.length_nil, List.sum_cons, List.sum_nil, cat_i, cat_l, cat_r, true_and, and_true, Nat.zero_add, Nat.add_zero, Nat.le_refl, Nat.zero_le, Nat.reduceAdd, Nat.reduceLeDiff, exists_eq_left', Option.some.injEq, not_true_eq_false, not_false_eq_true, false_implies, true_implies, implies_true, and_self, or_true, true_or, or_false, false_or]
      exact CES.fl hR
    · have lt6 : nI c < 6 := (nI_ltI (a := c) (b := 6) (by omega) (by omega)).mpr (by omega)
      have ne6 : ¬ A 2376 = 6 := by
        rw [hc]
        intro r
        have := (nI_eqE (a := c) (b := 6) (by omega) (by omega)).mp r
        omega
      rw [if_neg ne6] at hR
      refine ⟨fun _ => adv_R (hH.q hE) hk (fun I1 J1 hF1 hH1 => ?_), fun r => absurd lt6 r⟩
      have G1 : stH X s I1 J1 T n (A, N, tE T n e) := hH.rd l1 hF1 hH1 e1
      have F1 : csF X s t I I1 J J1 := csF.rd hF1
      have t1 : I1 t = I t := hF1.1 t (by omega)
      simp (disch := omega) only [B_X7_takeHouse_29, x1, x2, x3, s1, hs.k, hs.r0, hs.k1, hs.r1, hs.k2, hs.r2, hs.k3, hs.r3, hs.k4, hs.r4, hs.k12, hs.n1, hs.n2, hs.n3, hs.y0, hs.k5, hs.n5, hs.y1, hs.k6, hs.n6, hs.y2, hs.k7, hs.n7, hs.y3, hs.k8, hs.n8, hs.y4, hs.k9, hs.n9, hs.y5, hs.k10, hs.n10, hs.y6, hs.k11, hs.n11, hs.p0, hs.p1, hs.p2, hs.k13, hs.n13, hs.q0, hs.q1, hs.k14, hs.k15, hs.k16, hs.n16, hs.k17, hs.n17, hs.rH, hs.kH, hs.rP, hs.kP, hs.rQ, hs.kQ, nI_1, nI_add, nI_clamp, nI_pin, nI_neg, nI_nonneg, nI_leE, nI_ltE, nI_eqE, Nat.not_le, Nat.not_lt, fq_10, fq_01, fq_rr, ix_aald, ix_aast, ix_abs, ix_alen, ix_aload, ix_aret, ix_astore, ix_bald, ix_bast, ix_call, ix_cpyI, ix_cpyJ, ix_dead, ix_dup2, ix_dup2L, ix_dupI, ix_dupR, ix_dupx1, ix_getI, ix_getJ, ix_getR, ix_gfm, ix_gtab, ix_i2b, ix_i2c, ix_i2l, ix_i2s, ix_iadd, ix_iald, ix_iand, ix_iast, ix_icall, ix_icmp_eq, ix_icmp_ge, ix_icmp_gt, ix_icmp_le, ix_icmp_lt, ix_icmp_ne, ix_idiv, ix_if_eq, ix_if_ge, ix_if_gt, ix_if_le, ix_if_lt, ix_if_ne, ix_iinc, ix_iload, ix_imul, ix_ineg, ix_ior, ix_irem, ix_iret, ix_ishl, ix_ishr, ix_istore, ix_isub, ix_iushr, ix_ixor, ix_l2i, ix_ladd, ix_lald, ix_land, ix_last, ix_lcmp, ix_ldcS, ix_ldiv, ix_lload, ix_lmul, ix_lor, ix_lrem, ix_lret, ix_lshl, ix_lstore, ix_lsub, ix_lsw, ix_max, ix_min, ix_new, ix_newa, ix_nret, ix_oinit, ix_pop2L, ix_popI, ix_pushI, ix_pushL, ix_putI, ix_putJ, ix_putR, ix_putZ, ix_sbald, ix_sgetC, ix_sgetV, ix_slen, ix_strc, ix_tald, ix_tsw, ix_vcall, ix_vret, ix_zret, stL, stL2, kilL, popN, fq_sw, fq_lsw, List.map_cons, List.map_nil, List.getElem?_cons_zero, List.getElem?_cons_succ, Option.toList_some, Option.toList_none, List.cons_append, List.nil_append, List.length_cons, List.length_nil, List.sum_cons, List.sum_nil, cat_i, cat_l, cat_r, true_and, and_true, Nat.zero_add, Nat.add_zero, Nat.le_refl, Nat.zero_le, Nat.reduceAdd, Nat.reduceLeDiff, exists_eq_left', Option.some.injEq, not_true_eq_false, not_false_eq_true, false_implies, true_implies, implies_true, and_self, or_true, true_or, or_false, false_or]
      have c5 : I1 s 5 = nI c := G1.c.2.2.1.trans hc
      have o6 := G1.c.2.1
      have c6 : I1 s 6 = A 2377 := G1.c.2.2.2
      have q1 := G1.q (hE.ct hx0 F1)
      refine ⟨X, T, n, tE T n e, N, 56, rfl, q1, hs, by rw [c5]; exact okN.nI hc6 (by omega), by rw [c6]; exact o6, ?_, fun g => ?_, fun g1 g => ?_, fun g1 g I2 J2 hF2 hH2 => ?_⟩
      · rw [c5, nI_clamp (by omega), c6]
        have := G1.2.2.2.1
        rw [← hcc]
        exact this
      · rw [if_pos g] at hR
        simp (disch := omega) only [B_X7_takeHouse_40, B_X7_takeHouse_58, lg_cmp_eq, x1, x2, x3, s1, hs.k, hs.r0, hs.k1, hs.r1, hs.k2, hs.r2, hs.k3, hs.r3, hs.k4, hs.r4, hs.k12, hs.n1, hs.n2, hs.n3, hs.y0, hs.k5, hs.n5, hs.y1, hs.k6, hs.n6, hs.y2, hs.k7, hs.n7, hs.y3, hs.k8, hs.n8, hs.y4, hs.k9, hs.n9, hs.y5, hs.k10, hs.n10, hs.y6, hs.k11, hs.n11, hs.p0, hs.p1, hs.p2, hs.k13, hs.n13, hs.q0, hs.q1, hs.k14, hs.k15, hs.k16, hs.n16, hs.k17, hs.n17, hs.rH, hs.kH, hs.rP, hs.kP, hs.rQ, hs.kQ, nI_1, nI_add, nI_clamp, nI_pin, nI_neg, nI_nonneg, nI_leE, nI_ltE, nI_eqE, Nat.not_le, Nat.not_lt, fq_10, fq_01, fq_rr, ix_aald, ix_aast, ix_abs, ix_alen, ix_aload, ix_aret, ix_astore, ix_bald, ix_bast, ix_call, ix_cpyI, ix_cpyJ, ix_dead, ix_dup2, ix_dup2L, ix_dupI, ix_dupR, ix_dupx1, ix_getI, ix_getJ, ix_getR, ix_gfm, ix_gtab, ix_i2b, ix_i2c, ix_i2l, ix_i2s, ix_iadd, ix_iald, ix_iand, ix_iast, ix_icall, ix_icmp_eq, ix_icmp_ge, ix_icmp_gt, ix_icmp_le, ix_icmp_lt, ix_icmp_ne, ix_idiv, ix_if_eq, ix_if_ge, ix_if_gt, ix_if_le, ix_if_lt, ix_if_ne, ix_iinc, ix_iload, ix_imul, ix_ineg, ix_ior, ix_irem, ix_iret, ix_ishl, ix_ishr, ix_istore, ix_isub, ix_iushr, ix_ixor, ix_l2i, ix_ladd, ix_lald, ix_land, ix_last, ix_lcmp, ix_ldcS, ix_ldiv, ix_lload, ix_lmul, ix_lor, ix_lrem, ix_lret, ix_lshl, ix_lstore, ix_lsub, ix_lsw, ix_max, ix_min, ix_new, ix_newa, ix_nret, ix_oinit, ix_pop2L, ix_popI, ix_pushI, ix_pushL, ix_putI, ix_putJ, ix_putR, ix_putZ, ix_sbald, ix_sgetC, ix_sgetV, ix_slen, ix_strc, ix_tald, ix_tsw, ix_vcall, ix_vret, ix_zret, stL, stL2, kilL, popN, fq_sw, fq_lsw, List.map_cons, List.map_nil, List.getElem?_cons_zero, List.getElem?_cons_succ, Option.toList_some, Option.toList_none, List.cons_append, List.nil_append, List.length_cons, List.length_nil, List.sum_cons, List.sum_nil, cat_i, cat_l, cat_r, true_and, and_true, Nat.zero_add, Nat.add_zero, Nat.le_refl, Nat.zero_le, Nat.reduceAdd, Nat.reduceLeDiff, exists_eq_left', Option.some.injEq, not_true_eq_false, not_false_eq_true, false_implies, true_implies, implies_true, and_self, or_true, true_or, or_false, false_or]
        exact hR.fx (F1.tr csF.rj) rfl
      · rw [if_neg (fun r => r g1), if_pos (by rw [c5, nI_clamp (by omega), c6] at g; exact g)] at hR
        simp (disch := omega) only [B_X7_takeHouse_40, B_X7_takeHouse_58, lg_cmp_eq, x1, x2, x3, s1, hs.k, hs.r0, hs.k1, hs.r1, hs.k2, hs.r2, hs.k3, hs.r3, hs.k4, hs.r4, hs.k12, hs.n1, hs.n2, hs.n3, hs.y0, hs.k5, hs.n5, hs.y1, hs.k6, hs.n6, hs.y2, hs.k7, hs.n7, hs.y3, hs.k8, hs.n8, hs.y4, hs.k9, hs.n9, hs.y5, hs.k10, hs.n10, hs.y6, hs.k11, hs.n11, hs.p0, hs.p1, hs.p2, hs.k13, hs.n13, hs.q0, hs.q1, hs.k14, hs.k15, hs.k16, hs.n16, hs.k17, hs.n17, hs.rH, hs.kH, hs.rP, hs.kP, hs.rQ, hs.kQ, nI_1, nI_add, nI_clamp, nI_pin, nI_neg, nI_nonneg, nI_leE, nI_ltE, nI_eqE, Nat.not_le, Nat.not_lt, fq_10, fq_01, fq_rr, ix_aald, ix_aast, ix_abs, ix_alen, ix_aload, ix_aret, ix_astore, ix_bald, ix_bast, ix_call, ix_cpyI, ix_cpyJ, ix_dead, ix_dup2, ix_dup2L, ix_dupI, ix_dupR, ix_dupx1, ix_getI, ix_getJ, ix_getR, ix_gfm, ix_gtab, ix_i2b, ix_i2c, ix_i2l, ix_i2s, ix_iadd, ix_iald, ix_iand, ix_iast, ix_icall, ix_icmp_eq, ix_icmp_ge, ix_icmp_gt, ix_icmp_le, ix_icmp_lt, ix_icmp_ne, ix_idiv, ix_if_eq, ix_if_ge, ix_if_gt, ix_if_le, ix_if_lt, ix_if_ne, ix_iinc, ix_iload, ix_imul, ix_ineg, ix_ior, ix_irem, ix_iret, ix_ishl, ix_ishr, ix_istore, ix_isub, ix_iushr, ix_ixor, ix_l2i, ix_ladd, ix_lald, ix_land, ix_last, ix_lcmp, ix_ldcS, ix_ldiv, ix_lload, ix_lmul, ix_lor, ix_lrem, ix_lret, ix_lshl, ix_lstore, ix_lsub, ix_lsw, ix_max, ix_min, ix_new, ix_newa, ix_nret, ix_oinit, ix_pop2L, ix_popI, ix_pushI, ix_pushL, ix_putI, ix_putJ, ix_putR, ix_putZ, ix_sbald, ix_sgetC, ix_sgetV, ix_slen, ix_strc, ix_tald, ix_tsw, ix_vcall, ix_vret, ix_zret, stL, stL2, kilL, popN, fq_sw, fq_lsw, List.map_cons, List.map_nil, List.getElem?_cons_zero, List.getElem?_cons_succ, Option.toList_some, Option.toList_none, List.cons_append, List.nil_append, List.length_cons, List.length_nil, List.sum_cons, List.sum_nil, cat_i, cat_l, cat_r, true_and, and_true, Nat.zero_add, Nat.add_zero, Nat.le_refl, Nat.zero_le, Nat.reduceAdd, Nat.reduceLeDiff, exists_eq_left', Option.some.injEq, not_true_eq_false, not_false_eq_true, false_implies, true_implies, implies_true, and_self, or_true, true_or, or_false, false_or]
        exact hR.fx (F1.tr csF.rj) rfl
      · rw [if_neg (fun r => r g1), if_neg (by rw [c5, nI_clamp (by omega), c6] at g; exact g)] at hR
        have nm0 := (q1.2.1.2.2.2.2.2.2.2.1 g1.1 g1.2.1).2
        have nmr := q1.nm g1
        generalize hnm : J1 (X + 11) 6 = nm at nm0 nmr
        have G2 : stH X s I2 J2 T n (A, N, tE T n (tE T n e)) := G1.rd l1 hF2 hH2 e2
        have F2 := F1.tr (csF.rd (s := s) (t := t) hF2)
        have t2 : I2 t = I t := (hF2.1 t (by omega)).trans t1
        simp (disch := omega) only [B_X7_takeHouse_40, lg_cmp_eq, nm0, x1, x2, x3, s1, hs.k, hs.r0, hs.k1, hs.r1, hs.k2, hs.r2, hs.k3, hs.r3, hs.k4, hs.r4, hs.k12, hs.n1, hs.n2, hs.n3, hs.y0, hs.k5, hs.n5, hs.y1, hs.k6, hs.n6, hs.y2, hs.k7, hs.n7, hs.y3, hs.k8, hs.n8, hs.y4, hs.k9, hs.n9, hs.y5, hs.k10, hs.n10, hs.y6, hs.k11, hs.n11, hs.p0, hs.p1, hs.p2, hs.k13, hs.n13, hs.q0, hs.q1, hs.k14, hs.k15, hs.k16, hs.n16, hs.k17, hs.n17, hs.rH, hs.kH, hs.rP, hs.kP, hs.rQ, hs.kQ, nI_1, nI_add, nI_clamp, nI_pin, nI_neg, nI_nonneg, nI_leE, nI_ltE, nI_eqE, Nat.not_le, Nat.not_lt, fq_10, fq_01, fq_rr, ix_aald, ix_aast, ix_abs, ix_alen, ix_aload, ix_aret, ix_astore, ix_bald, ix_bast, ix_call, ix_cpyI, ix_cpyJ, ix_dead, ix_dup2, ix_dup2L, ix_dupI, ix_dupR, ix_dupx1, ix_getI, ix_getJ, ix_getR, ix_gfm, ix_gtab, ix_i2b, ix_i2c, ix_i2l, ix_i2s, ix_iadd, ix_iald, ix_iand, ix_iast, ix_icall, ix_icmp_eq, ix_icmp_ge, ix_icmp_gt, ix_icmp_le, ix_icmp_lt, ix_icmp_ne, ix_idiv, ix_if_eq, ix_if_ge, ix_if_gt, ix_if_le, ix_if_lt, ix_if_ne, ix_iinc, ix_iload, ix_imul, ix_ineg, ix_ior, ix_irem, ix_iret, ix_ishl, ix_ishr, ix_istore, ix_isub, ix_iushr, ix_ixor, ix_l2i, ix_ladd, ix_lald, ix_land, ix_last, ix_lcmp, ix_ldcS, ix_ldiv, ix_lload, ix_lmul, ix_lor, ix_lrem, ix_lret, ix_lshl, ix_lstore, ix_lsub, ix_lsw, ix_max, ix_min, ix_new, ix_newa, ix_nret, ix_oinit, ix_pop2L, ix_popI, ix_pushI, ix_pushL, ix_putI, ix_putJ, ix_putR, ix_putZ, ix_sbald, ix_sgetC, ix_sgetV, ix_slen, ix_strc, ix_tald, ix_tsw, ix_vcall, ix_vret, ix_zret, stL, stL2, kilL, popN, fq_sw, fq_lsw, List.map_cons, List.map_nil, List.getElem?_cons_zero, List.getElem?_cons_succ, Option.toList_some, Option.toList_none, List.cons_append, List.nil_append, List.length_cons, List.length_nil, List.sum_cons, List.sum_nil, cat_i, cat_l, cat_r, true_and, and_true, Nat.zero_add, Nat.add_zero, Nat.le_refl, Nat.zero_le, Nat.reduceAdd, Nat.reduceLeDiff, exists_eq_left', Option.some.injEq, not_true_eq_false, not_false_eq_true, false_implies, true_implies, implies_true, and_self, or_true, true_or, or_false, false_or]
        dsimp only [pB] at hR
        refine ⟨X, T, n, tE T n (tE T n e), 6, rfl, G2.q (hE.ct hx0 F2), rfl, Or.inr ⟨6, by omega, rfl⟩, by decide, fun g => ?_, fun g I3 J3 hF3 hH3 => ?_⟩
        · rw [if_pos g] at hR
          simp (disch := omega) only [B_X7_takeHouse_55, B_X7_takeHouse_58, x1, x2, x3, s1, hs.k, hs.r0, hs.k1, hs.r1, hs.k2, hs.r2, hs.k3, hs.r3, hs.k4, hs.r4, hs.k12, hs.n1, hs.n2, hs.n3, hs.y0, hs.k5, hs.n5, hs.y1, hs.k6, hs.n6, hs.y2, hs.k7, hs.n7, hs.y3, hs.k8, hs.n8, hs.y4, hs.k9, hs.n9, hs.y5, hs.k10, hs.n10, hs.y6, hs.k11, hs.n11, hs.p0, hs.p1, hs.p2, hs.k13, hs.n13, hs.q0, hs.q1, hs.k14, hs.k15, hs.k16, hs.n16, hs.k17, hs.n17, hs.rH, hs.kH, hs.rP, hs.kP, hs.rQ, hs.kQ, nI_1, nI_add, nI_clamp, nI_pin, nI_neg, nI_nonneg, nI_leE, nI_ltE, nI_eqE, Nat.not_le, Nat.not_lt, fq_10, fq_01, fq_rr, ix_aald, ix_aast, ix_abs, ix_alen, ix_aload, ix_aret, ix_astore, ix_bald, ix_bast, ix_call, ix_cpyI, ix_cpyJ, ix_dead, ix_dup2, ix_dup2L, ix_dupI, ix_dupR, ix_dupx1, ix_getI, ix_getJ, ix_getR, ix_gfm, ix_gtab, ix_i2b, ix_i2c, ix_i2l, ix_i2s, ix_iadd, ix_iald, ix_iand, ix_iast, ix_icall, ix_icmp_eq, ix_icmp_ge, ix_icmp_gt, ix_icmp_le, ix_icmp_lt, ix_icmp_ne, ix_idiv, ix_if_eq, ix_if_ge, ix_if_gt, ix_if_le, ix_if_lt, ix_if_ne, ix_iinc, ix_iload, ix_imul, ix_ineg, ix_ior, ix_irem, ix_iret, ix_ishl, ix_ishr, ix_istore, ix_isub, ix_iushr, ix_ixor, ix_l2i, ix_ladd, ix_lald, ix_land, ix_last, ix_lcmp, ix_ldcS, ix_ldiv, ix_lload, ix_lmul, ix_lor, ix_lrem, ix_lret, ix_lshl, ix_lstore, ix_lsub, ix_lsw, ix_max, ix_min, ix_new, ix_newa, ix_nret, ix_oinit, ix_pop2L, ix_popI, ix_pushI, ix_pushL, ix_putI, ix_putJ, ix_putR, ix_putZ, ix_sbald, ix_sgetC, ix_sgetV, ix_slen, ix_strc, ix_tald, ix_tsw, ix_vcall, ix_vret, ix_zret, stL, stL2, kilL, popN, fq_sw, fq_lsw, List.map_cons, List.map_nil, List.getElem?_cons_zero, List.getElem?_cons_succ, Option.toList_some, Option.toList_none, List.cons_append, List.nil_append, List.length_cons, List.length_nil, List.sum_cons, List.sum_nil, cat_i, cat_l, cat_r, true_and, and_true, Nat.zero_add, Nat.add_zero, Nat.le_refl, Nat.zero_le, Nat.reduceAdd, Nat.reduceLeDiff, exists_eq_left', Option.some.injEq, not_true_eq_false, not_false_eq_true, false_implies, true_implies, implies_true, and_self, or_true, true_or, or_false, false_or]
          exact hR.fx (F2.tr csF.rj) rfl
        · rw [if_neg (fun r => r g)] at hR
          dsimp only at hR
          have G3 : stH X s I3 J3 T n (A, N, tE T n (tE T n (tE T n e))) := G2.rd l1 hF3 hH3 e3
          have F3 := F2.tr (csF.rd (s := s) (t := t) hF3)
          have t3 : I3 t = I t := (hF3.1 t (by omega)).trans t2
          simp (disch := omega) only [B_X7_takeHouse_55, x1, x2, x3, s1, hs.k, hs.r0, hs.k1, hs.r1, hs.k2, hs.r2, hs.k3, hs.r3, hs.k4, hs.r4, hs.k12, hs.n1, hs.n2, hs.n3, hs.y0, hs.k5, hs.n5, hs.y1, hs.k6, hs.n6, hs.y2, hs.k7, hs.n7, hs.y3, hs.k8, hs.n8, hs.y4, hs.k9, hs.n9, hs.y5, hs.k10, hs.n10, hs.y6, hs.k11, hs.n11, hs.p0, hs.p1, hs.p2, hs.k13, hs.n13, hs.q0, hs.q1, hs.k14, hs.k15, hs.k16, hs.n16, hs.k17, hs.n17, hs.rH, hs.kH, hs.rP, hs.kP, hs.rQ, hs.kQ, nI_1, nI_add, nI_clamp, nI_pin, nI_neg, nI_nonneg, nI_leE, nI_ltE, nI_eqE, Nat.not_le, Nat.not_lt, fq_10, fq_01, fq_rr, ix_aald, ix_aast, ix_abs, ix_alen, ix_aload, ix_aret, ix_astore, ix_bald, ix_bast, ix_call, ix_cpyI, ix_cpyJ, ix_dead, ix_dup2, ix_dup2L, ix_dupI, ix_dupR, ix_dupx1, ix_getI, ix_getJ, ix_getR, ix_gfm, ix_gtab, ix_i2b, ix_i2c, ix_i2l, ix_i2s, ix_iadd, ix_iald, ix_iand, ix_iast, ix_icall, ix_icmp_eq, ix_icmp_ge, ix_icmp_gt, ix_icmp_le, ix_icmp_lt, ix_icmp_ne, ix_idiv, ix_if_eq, ix_if_ge, ix_if_gt, ix_if_le, ix_if_lt, ix_if_ne, ix_iinc, ix_iload, ix_imul, ix_ineg, ix_ior, ix_irem, ix_iret, ix_ishl, ix_ishr, ix_istore, ix_isub, ix_iushr, ix_ixor, ix_l2i, ix_ladd, ix_lald, ix_land, ix_last, ix_lcmp, ix_ldcS, ix_ldiv, ix_lload, ix_lmul, ix_lor, ix_lrem, ix_lret, ix_lshl, ix_lstore, ix_lsub, ix_lsw, ix_max, ix_min, ix_new, ix_newa, ix_nret, ix_oinit, ix_pop2L, ix_popI, ix_pushI, ix_pushL, ix_putI, ix_putJ, ix_putR, ix_putZ, ix_sbald, ix_sgetC, ix_sgetV, ix_slen, ix_strc, ix_tald, ix_tsw, ix_vcall, ix_vret, ix_zret, stL, stL2, kilL, popN, fq_sw, fq_lsw, List.map_cons, List.map_nil, List.getElem?_cons_zero, List.getElem?_cons_succ, Option.toList_some, Option.toList_none, List.cons_append, List.nil_append, List.length_cons, List.length_nil, List.sum_cons, List.sum_nil, cat_i, cat_l, cat_r, true_and, and_true, Nat.zero_add, Nat.add_zero, Nat.le_refl, Nat.zero_le, Nat.reduceAdd, Nat.reduceLeDiff, exists_eq_left', Option.some.injEq, not_true_eq_false, not_false_eq_true, false_implies, true_implies, implies_true, and_self, or_true, true_or, or_false, false_or]
          refine ⟨X, T, n, tE T n (tE T n (tE T n e)), rfl, G3.q (hE.ct hx0 F3), fun g => ?_, fun g1 g => ?_, fun g1 g I4 J4 hF4 hH4 => ?_⟩
          · rw [if_pos g] at hR
            simp (disch := omega) only [B_X7_takeHouse_70, x1, x2, x3, s1, hs.k, hs.r0, hs.k1, hs.r1, hs.k2, hs.r2, hs.k3, hs.r3, hs.k4, hs.r4, hs.k12, hs.n1, hs.n2, hs.n3, hs.y0, hs.k5, hs.n5, hs.y1, hs.k6, hs.n6, hs.y2, hs.k7, hs.n7, hs.y3, hs.k8, hs.n8, hs.y4, hs.k9, hs.n9, hs.y5, hs.k10, hs.n10, hs.y6, hs.k11, hs.n11, hs.p0, hs.p1, hs.p2, hs.k13, hs.n13, hs.q0, hs.q1, hs.k14, hs.k15, hs.k16, hs.n16, hs.k17, hs.n17, hs.rH, hs.kH, hs.rP, hs.kP, hs.rQ, hs.kQ, nI_1, nI_add, nI_clamp, nI_pin, nI_neg, nI_nonneg, nI_leE, nI_ltE, nI_eqE, Nat.not_le, Nat.not_lt, fq_10, fq_01, fq_rr, ix_aald, ix_aast, ix_abs, ix_alen, ix_aload, ix_aret, ix_astore, ix_bald, ix_bast, ix_call, ix_cpyI, ix_cpyJ, ix_dead, ix_dup2, ix_dup2L, ix_dupI, ix_dupR, ix_dupx1, ix_getI, ix_getJ, ix_getR, ix_gfm, ix_gtab, ix_i2b, ix_i2c, ix_i2l, ix_i2s, ix_iadd, ix_iald, ix_iand, ix_iast, ix_icall, ix_icmp_eq, ix_icmp_ge, ix_icmp_gt, ix_icmp_le, ix_icmp_lt, ix_icmp_ne, ix_idiv, ix_if_eq, ix_if_ge, ix_if_gt, ix_if_le, ix_if_lt, ix_if_ne, ix_iinc, ix_iload, ix_imul, ix_ineg, ix_ior, ix_irem, ix_iret, ix_ishl, ix_ishr, ix_istore, ix_isub, ix_iushr, ix_ixor, ix_l2i, ix_ladd, ix_lald, ix_land, ix_last, ix_lcmp, ix_ldcS, ix_ldiv, ix_lload, ix_lmul, ix_lor, ix_lrem, ix_lret, ix_lshl, ix_lstore, ix_lsub, ix_lsw, ix_max, ix_min, ix_new, ix_newa, ix_nret, ix_oinit, ix_pop2L, ix_popI, ix_pushI, ix_pushL, ix_putI, ix_putJ, ix_putR, ix_putZ, ix_sbald, ix_sgetC, ix_sgetV, ix_slen, ix_strc, ix_tald, ix_tsw, ix_vcall, ix_vret, ix_zret, stL, stL2, kilL, popN, fq_sw, fq_lsw, List.map_cons, List.map_nil, List.getElem?_cons_zero, List.getElem?_cons_succ, Option.toList_some, Option.toList_none, List.cons_append, List.nil_append, List.length_cons, List.length_nil, List.sum_cons, List.sum_nil, cat_i, cat_l, cat_r, true_and, and_true, Nat.zero_add, Nat.add_zero, Nat.le_refl, Nat.zero_le, Nat.reduceAdd, Nat.reduceLeDiff, exists_eq_left', Option.some.injEq, not_true_eq_false, not_false_eq_true, false_implies, true_implies, implies_true, and_self, or_true, true_or, or_false, false_or]
            exact hR.fx (F3.tr csF.rj) rfl
          · rw [if_neg (fun r => r g1), if_pos g] at hR
            simp (disch := omega) only [B_X7_takeHouse_70, x1, x2, x3, s1, hs.k, hs.r0, hs.k1, hs.r1, hs.k2, hs.r2, hs.k3, hs.r3, hs.k4, hs.r4, hs.k12, hs.n1, hs.n2, hs.n3, hs.y0, hs.k5, hs.n5, hs.y1, hs.k6, hs.n6, hs.y2, hs.k7, hs.n7, hs.y3, hs.k8, hs.n8, hs.y4, hs.k9, hs.n9, hs.y5, hs.k10, hs.n10, hs.y6, hs.k11, hs.n11, hs.p0, hs.p1, hs.p2, hs.k13, hs.n13, hs.q0, hs.q1, hs.k14, hs.k15, hs.k16, hs.n16, hs.k17, hs.n17, hs.rH, hs.kH, hs.rP, hs.kP, hs.rQ, hs.kQ, nI_1, nI_add, nI_clamp, nI_pin, nI_neg, nI_nonneg, nI_leE, nI_ltE, nI_eqE, Nat.not_le, Nat.not_lt, fq_10, fq_01, fq_rr, ix_aald, ix_aast, ix_abs, ix_alen, ix_aload, ix_aret, ix_astore, ix_bald, ix_bast, ix_call, ix_cpyI, ix_cpyJ, ix_dead, ix_dup2, ix_dup2L, ix_dupI, ix_dupR, ix_dupx1, ix_getI, ix_getJ, ix_getR, ix_gfm, ix_gtab, ix_i2b, ix_i2c, ix_i2l, ix_i2s, ix_iadd, ix_iald, ix_iand, ix_iast, ix_icall, ix_icmp_eq, ix_icmp_ge, ix_icmp_gt, ix_icmp_le, ix_icmp_lt, ix_icmp_ne, ix_idiv, ix_if_eq, ix_if_ge, ix_if_gt, ix_if_le, ix_if_lt, ix_if_ne, ix_iinc, ix_iload, ix_imul, ix_ineg, ix_ior, ix_irem, ix_iret, ix_ishl, ix_ishr, ix_istore, ix_isub, ix_iushr, ix_ixor, ix_l2i, ix_ladd, ix_lald, ix_land, ix_last, ix_lcmp, ix_ldcS, ix_ldiv, ix_lload, ix_lmul, ix_lor, ix_lrem, ix_lret, ix_lshl, ix_lstore, ix_lsub, ix_lsw, ix_max, ix_min, ix_new, ix_newa, ix_nret, ix_oinit, ix_pop2L, ix_popI, ix_pushI, ix_pushL, ix_putI, ix_putJ, ix_putR, ix_putZ, ix_sbald, ix_sgetC, ix_sgetV, ix_slen, ix_strc, ix_tald, ix_tsw, ix_vcall, ix_vret, ix_zret, stL, stL2, kilL, popN, fq_sw, fq_lsw, List.map_cons, List.map_nil, List.getElem?_cons_zero, List.getElem?_cons_succ, Option.toList_some, Option.toList_none, List.cons_append, List.nil_append, List.length_cons, List.length_nil, List.sum_cons, List.sum_nil, cat_i, cat_l, cat_r, true_and, and_true, Nat.zero_add, Nat.add_zero, Nat.le_refl, Nat.zero_le, Nat.reduceAdd, Nat.reduceLeDiff, exists_eq_left', Option.some.injEq, not_true_eq_false, not_false_eq_true, false_implies, true_implies, implies_true, and_self, or_true, true_or, or_false, false_or]
            exact hR.fx (F3.tr csF.rj) rfl
          · rw [if_neg (fun r => r g1), if_neg (fun r => r g)] at hR
            dsimp only at hR
            have G4 : stH X s I4 J4 T n (A, N, tE T n (tE T n (tE T n (tE T n e)))) := G3.rd l1 hF4 hH4 e4
            have F4 := F3.tr (csF.rd (s := s) (t := t) hF4)
            have t4 : I4 t = I t := (hF4.1 t (by omega)).trans t3
            have nn := tV_nn g (by decide)
            have c54 : I4 s 5 = nI c := G4.c.2.2.1.trans hc
            generalize tV T n (tE T n (tE T n (tE T n e))) = v at nn hR
            simp (disch := omega) only [B_X7_takeHouse_70, B_X7_takeHouse_98, sp_X0_build, B_X0_build_0, nn, c54, u2_ca, x1, x2, x3, s1, hs.k, hs.r0, hs.k1, hs.r1, hs.k2, hs.r2, hs.k3, hs.r3, hs.k4, hs.r4, hs.k12, hs.n1, hs.n2, hs.n3, hs.y0, hs.k5, hs.n5, hs.y1, hs.k6, hs.n6, hs.y2, hs.k7, hs.n7, hs.y3, hs.k8, hs.n8, hs.y4, hs.k9, hs.n9, hs.y5, hs.k10, hs.n10, hs.y6, hs.k11, hs.n11, hs.p0, hs.p1, hs.p2, hs.k13, hs.n13, hs.q0, hs.q1, hs.k14, hs.k15, hs.k16, hs.n16, hs.k17, hs.n17, hs.rH, hs.kH, hs.rP, hs.kP, hs.rQ, hs.kQ, nI_1, nI_add, nI_clamp, nI_pin, nI_neg, nI_nonneg, nI_leE, nI_ltE, nI_eqE, Nat.not_le, Nat.not_lt, fq_10, fq_01, fq_rr, ix_aald, ix_aast, ix_abs, ix_alen, ix_aload, ix_aret, ix_astore, ix_bald, ix_bast, ix_call, ix_cpyI, ix_cpyJ, ix_dead, ix_dup2, ix_dup2L, ix_dupI, ix_dupR, ix_dupx1, ix_getI, ix_getJ, ix_getR, ix_gfm, ix_gtab, ix_i2b, ix_i2c, ix_i2l, ix_i2s, ix_iadd, ix_iald, ix_iand, ix_iast, ix_icall, ix_icmp_eq, ix_icmp_ge, ix_icmp_gt, ix_icmp_le, ix_icmp_lt, ix_icmp_ne, ix_idiv, ix_if_eq, ix_if_ge, ix_if_gt, ix_if_le, ix_if_lt, ix_if_ne, ix_iinc, ix_iload, ix_imul, ix_ineg, ix_ior, ix_irem, ix_iret, ix_ishl, ix_ishr, ix_istore, ix_isub, ix_iushr, ix_ixor, ix_l2i, ix_ladd, ix_lald, ix_land, ix_last, ix_lcmp, ix_ldcS, ix_ldiv, ix_lload, ix_lmul, ix_lor, ix_lrem, ix_lret, ix_lshl, ix_lstore, ix_lsub, ix_lsw, ix_max, ix_min, ix_new, ix_newa, ix_nret, ix_oinit, ix_pop2L, ix_popI, ix_pushI, ix_pushL, ix_putI, ix_putJ, ix_putR, ix_putZ, ix_sbald, ix_sgetC, ix_sgetV, ix_slen, ix_strc, ix_tald, ix_tsw, ix_vcall, ix_vret, ix_zret, stL, stL2, kilL, popN, fq_sw, fq_lsw, List.map_cons, List.map_nil, List.getElem?_cons_zero, List.getElem?_cons_succ, Option.toList_some, Option.toList_none, List.cons_append, List.nil_append, List.length_cons, List.length_nil, List.sum_cons, List.sum_nil, cat_i, cat_l, cat_r, true_and, and_true, Nat.zero_add, Nat.add_zero, Nat.le_refl, Nat.zero_le, Nat.reduceAdd, Nat.reduceLeDiff, exists_eq_left', Option.some.injEq, not_true_eq_false, not_false_eq_true, false_implies, true_implies, implies_true, and_self, or_true, true_or, or_false, false_or]
            rw [uA_e, uA_n _ _ _ _ (show 2376 ≠ 2388 + 3 * c by omega), hc, show nI c + 1 = nI (c + 1) from nI_add c 1] at hR
            refine (hR _ _ (F4.tr (csF.s (fun a ha => ?_) (fun a ha => ?_))) (G4.house hc (by omega) l1 (v := v) (w := nmH T n (tE T n e)) (fun a y1 y2 => ?_) ?_ (fun k hk => ?_) ?_ ?_ ?_ (fun a y1 => ?_) ?_ ?_ ?_ ?_ (fun k y1 y2 y3 => ?_) ?_ (fun k y1 => ?_)) ?_)
            · rw [u2_ne (by omega), u2_ne (by omega), u2_ne (by omega), u2_ne (by omega)]
            · rw [u2_ne (by omega)]
            · rw [u2_ne y1, u2_ne y2, u2_ne y2, u2_ne y2]
            · rw [u2_same]
            · rw [u2_ck _ _ _ _ _ _ hk, u2_ne (by omega), u2_ne (by omega), u2_ne (by omega)]
            · rw [u2_ne (by omega), u2_ck _ _ _ _ _ _ (by omega), u2_ck _ _ _ _ _ _ (by omega), u2_same]
            · rw [u2_ne (by omega), u2_ck _ _ _ _ _ _ (by omega), u2_same]
            · rw [u2_ne (by omega), u2_same]
            · rw [u2_ne y1]
            · rw [u2_same]
              exact nmr
            · exact uA_e _ _ _
            · rw [uA_n _ _ _ _ (by omega), uA_n _ _ _ _ (by omega), uA_e]
            · rw [uA_n _ _ _ _ (by omega), uA_e]
            · rw [uA_n _ _ _ _ y1, uA_n _ _ _ _ y3, uA_n _ _ _ _ y2]
            · rw [show 56 + c = 56 + 0 + c by omega, uA_e]
            · exact uA_n _ _ _ _ (by omega)
            · rw [u2_ne (by omega), u2_ne (by omega), u2_ne (by omega), u2_ne (by omega), t4]
  · exact h.elim
theorem stH.sp {X s n e : Nat} {I : IH} {J : JH} {T : Nat → Int32} {A A' : Nat → Int32} {N : Nat → Int64} (h : stH X s I J T n (A, N, e)) (ha : ∀ k, k < 2602 → A' k = A k) : stH X s I J T n (A', N, e) := by
  obtain ⟨h1, h2, ⟨⟨o1, o2, o3⟩, ⟨y1, y2, y3, y4, y5, y6, y7, y8, y9, y10, y11⟩, b, p, q, hq, q8, qk⟩, hm, ⟨z1, z2, z3, z4⟩, h6, h7, h8⟩ := h
  dsimp only at *
  have a0 := ha 2376 (by omega)
  have a1 := ha 2377 (by omega)
  have a2 := ha 2378 (by omega)
  have sk : ∀ j, j < 226 → A' (2376 + j) = A (2376 + j) := fun j hj => ha _ (by omega)
  have g6 : (A 2376).toNatClampNeg ≤ 6 := o1.2
  have g8 : (A 2377).toNatClampNeg ≤ 8 := o2.2
  have g20 : (A 2378).toNatClampNeg ≤ 20 := o3.2
  refine ⟨h1, h2, ⟨⟨?_, ?_, ?_⟩, ⟨y1.trans (sk 0 (by omega)).symm, y2.trans (sk 1 (by omega)).symm, y3.trans (sk 2 (by omega)).symm, y4.trans (sk 3 (by omega)).symm, y5.trans (sk 4 (by omega)).symm, y6.trans (sk 5 (by omega)).symm, y7.trans (sk 6 (by omega)).symm, y8.trans (sk 7 (by omega)).symm, y9.trans (sk 8 (by omega)).symm, y10.trans (sk 9 (by omega)).symm, y11.trans (sk 10 (by omega)).symm⟩, fun i hi => ?_, fun i hi j hj => ?_, q, hq, q8, fun k hk j hj => ?_⟩, ?_, ⟨?_, ?_, fun i hi hi6 => ?_, fun i hi hi8 => ?_⟩, h6, h7, h8⟩
  · show okN (A' 2376) 6
    rw [a0]; exact o1
  · show okN (A' 2377) 8
    rw [a1]; exact o2
  · show okN (A' 2378) 20
    rw [a2]; exact o3
  · have hi : i < (A' 2376).toNatClampNeg := hi
    rw [a0] at hi
    show I (s + 18 + i) 2 = A' (2376 + (12 + 3 * i)) ∧ I (s + 18 + i) 1 = A' (2376 + (12 + 3 * i + 1)) ∧ I (s + 18 + i) 3 = A' (2376 + (12 + 3 * i + 2))
    rw [sk _ (by omega), sk _ (by omega), sk _ (by omega)]
    exact b i hi
  · have hi : i < (A' 2377).toNatClampNeg := hi
    rw [a1] at hi
    show I (s + 24 + i) (j + 1) = A' (2376 + (30 + 7 * i + j))
    rw [sk _ (by omega)]
    exact p i hi j hj
  · have hk : k < (A' 2378).toNatClampNeg := hk
    rw [a2] at hk
    show I (s + 32 + qix q k) j = A' (2376 + (86 + 7 * k + j))
    rw [sk _ (by omega)]
    exact qk k hk j hj
  · dsimp only
    rw [a0, a1]
    exact hm
  · exact a2.trans z1
  · exact (ha _ (by omega)).trans z2
  · have hi : (A' 2376).toNatClampNeg ≤ i := hi
    rw [a0] at hi
    show A' (2388 + 3 * i + 2) = 0
    rw [ha _ (by omega)]
    exact z3 i hi hi6
  · have hi : (A' 2377).toNatClampNeg ≤ i := hi
    rw [a1] at hi
    show A' (2406 + 7 * i + 4) = 0 ∧ A' (2406 + 7 * i + 5) = 0 ∧ A' (2406 + 7 * i + 6) = 0
    rw [ha _ (by omega), ha _ (by omega), ha _ (by omega)]
    exact z4 i hi hi8
theorem ab_sw : ∀ a, a < 6 → ∀ b, b < 6 → ((if 0 ≤ nI a - nI b then nI a - nI b else 0 - (nI a - nI b)) = 1 ↔ abI (nI b - nI a) = 1) := by decide +kernel
def sp_X7_takePeace (G : GT) : Sp := fun as S I J z Q => match as with
  | [.ref a] => ∃ (X s t : Nat) (T : Nat → Int32) (n : Nat) (σ : PSt), t = a ∧ txS S X s t ∧ rdE S I J X T n ∧ stH X s I J T n σ ∧ ¬ tK T n σ.2.2 = 1 ∧ CES X s t I J T n (pPc T n σ) (fun I' J' => Q (some (.int 1)) S I' J' z) (fun I' J' => Q (some (.int 0)) S I' J' z)
  | _ => False
set_option maxHeartbeats 4000000 in
set_option maxRecDepth 20000 in
theorem c_X7_takePeace {l : Launch} {G : GT} {D : Nat} : ∀ as S I J z Q, sp_X7_takePeace G as S I J z Q → fqCall l G M_X7_takePeace (D + 4) 0 0 as S I J z Q := by
  intro as S I J z Q h
  unfold sp_X7_takePeace at h
  split at h
  · next a =>
    obtain ⟨X, s, t, T, n, ⟨A, N, e⟩, rfl, hx, hE, hH, hk, hR⟩ := h
    have hx0 := hx
    obtain ⟨x1, x2, x3, hs, l1, l2, l3⟩ := hx
    have s1 := hE.1.1
    obtain ⟨c, hc6, hc, hcc⟩ := hH.c.1.ex
    dsimp only at hc hcc hR hk
    have e1 := (tFE hH.2.1 (T := T)).2.2.2
    dsimp only at e1
    have e2 := (tFE e1 (T := T)).2.2.2
    have e3 := (tFE e2 (T := T)).2.2.2
    unfold pPc pFd at hR
    dsimp only at hR
    rw [hcc] at hR
    refine fq_enter [some (.ref t), none, none] (by decide +kernel) (Nat.le_of_ble_eq_true rfl) rfl (b_X7_takePeace_0 _ _ _ _ _ _ _ _ ?_)
    simp (disch := omega) only [B_X7_takePeace_0, x1, x2, x3, s1, hs.k, hs.r0, hs.k1, hs.r1, hs.k2, hs.r2, hs.k3, hs.r3, hs.k4, hs.r4, hs.k12, hs.n1, hs.n2, hs.n3, hs.y0, hs.k5, hs.n5, hs.y1, hs.k6, hs.n6, hs.y2, hs.k7, hs.n7, hs.y3, hs.k8, hs.n8, hs.y4, hs.k9, hs.n9, hs.y5, hs.k10, hs.n10, hs.y6, hs.k11, hs.n11, hs.p0, hs.p1, hs.p2, hs.k13, hs.n13, hs.q0, hs.q1, hs.k14, hs.k15, hs.k16, hs.n16, hs.k17, hs.n17, hs.rH, hs.kH, hs.rP, hs.kP, hs.rQ, hs.kQ, nI_1, nI_add, nI_clamp, nI_pin, nI_neg, nI_nonneg, nI_leE, nI_ltE, nI_eqE, Nat.not_le, Nat.not_lt, fq_10, fq_01, fq_rr, ix_aald, ix_aast, ix_abs, ix_alen, ix_aload, ix_aret, ix_astore, ix_bald, ix_bast, ix_call, ix_cpyI, ix_cpyJ, ix_dead, ix_dup2, ix_dup2L, ix_dupI, ix_dupR, ix_dupx1, ix_getI, ix_getJ, ix_getR, ix_gfm, ix_gtab, ix_i2b, ix_i2c, ix_i2l, ix_i2s, ix_iadd, ix_iald, ix_iand, ix_iast, ix_icall, ix_icmp_eq, ix_icmp_ge, ix_icmp_gt, ix_icmp_le, ix_icmp_lt, ix_icmp_ne, ix_idiv, ix_if_eq, ix_if_ge, ix_if_gt, ix_if_le, ix_if_lt, ix_if_ne, ix_iinc, ix_iload, ix_imul, ix_ineg, ix_ior, ix_irem, ix_iret, ix_ishl, ix_ishr, ix_istore, ix_isub, ix_iushr, ix_ixor, ix_l2i, ix_ladd, ix_lald, ix_land, ix_last, ix_lcmp, ix_ldcS, ix_ldiv, ix_lload, ix_lmul, ix_lor, ix_lrem, ix_lret, ix_lshl, ix_lstore, ix_lsub, ix_lsw, ix_max, ix_min, ix_new, ix_newa, ix_nret, ix_oinit, ix_pop2L, ix_popI, ix_pushI, ix_pushL, ix_putI, ix_putJ, ix_putR, ix_putZ, ix_sbald, ix_sgetC, ix_sgetV, ix_slen, ix_strc, ix_tald, ix_tsw, ix_vcall, ix_vret, ix_zret, stL, stL2, kilL, popN, fq_sw, fq_lsw, List.map_cons, List.map_nil, List.getElem?_cons_zero, List.getElem?_cons_succ, Option.toList_some, Option.toList_none, List.cons_append, List.nil_append, List.length_cons, List.length_nil, List.sum_cons, List.sum_nil, cat_i, cat_l, cat_r, true_and, and_true, Nat.zero_add, Nat.add_zero, Nat.le_refl, Nat.zero_le, Nat.reduceAdd, Nat.reduceLeDiff, exists_eq_left', Option.some.injEq, not_true_eq_false, not_false_eq_true, false_implies, true_implies, implies_true, and_self, or_true, true_or, or_false, false_or]
    refine adv_R (hH.q hE) hk (fun I1 J1 hF1 hH1 => ?_)
    have G1 : stH X s I1 J1 T n (A, N, tE T n e) := hH.rd l1 hF1 hH1 e1
    have F1 : csF X s t I I1 J J1 := csF.rd hF1
    have t1 : I1 t = I t := hF1.1 t (by omega)
    have c5 : I1 s 5 = nI c := G1.c.2.2.1.trans hc
    have nms := G1.2.2.2.1.1
    dsimp only at nms
    rw [hcc] at nms
    simp (disch := omega) only [B_X7_takePeace_7, x1, x2, x3, s1, hs.k, hs.r0, hs.k1, hs.r1, hs.k2, hs.r2, hs.k3, hs.r3, hs.k4, hs.r4, hs.k12, hs.n1, hs.n2, hs.n3, hs.y0, hs.k5, hs.n5, hs.y1, hs.k6, hs.n6, hs.y2, hs.k7, hs.n7, hs.y3, hs.k8, hs.n8, hs.y4, hs.k9, hs.n9, hs.y5, hs.k10, hs.n10, hs.y6, hs.k11, hs.n11, hs.p0, hs.p1, hs.p2, hs.k13, hs.n13, hs.q0, hs.q1, hs.k14, hs.k15, hs.k16, hs.n16, hs.k17, hs.n17, hs.rH, hs.kH, hs.rP, hs.kP, hs.rQ, hs.kQ, nI_1, nI_add, nI_clamp, nI_pin, nI_neg, nI_nonneg, nI_leE, nI_ltE, nI_eqE, Nat.not_le, Nat.not_lt, fq_10, fq_01, fq_rr, ix_aald, ix_aast, ix_abs, ix_alen, ix_aload, ix_aret, ix_astore, ix_bald, ix_bast, ix_call, ix_cpyI, ix_cpyJ, ix_dead, ix_dup2, ix_dup2L, ix_dupI, ix_dupR, ix_dupx1, ix_getI, ix_getJ, ix_getR, ix_gfm, ix_gtab, ix_i2b, ix_i2c, ix_i2l, ix_i2s, ix_iadd, ix_iald, ix_iand, ix_iast, ix_icall, ix_icmp_eq, ix_icmp_ge, ix_icmp_gt, ix_icmp_le, ix_icmp_lt, ix_icmp_ne, ix_idiv, ix_if_eq, ix_if_ge, ix_if_gt, ix_if_le, ix_if_lt, ix_if_ne, ix_iinc, ix_iload, ix_imul, ix_ineg, ix_ior, ix_irem, ix_iret, ix_ishl, ix_ishr, ix_istore, ix_isub, ix_iushr, ix_ixor, ix_l2i, ix_ladd, ix_lald, ix_land, ix_last, ix_lcmp, ix_ldcS, ix_ldiv, ix_lload, ix_lmul, ix_lor, ix_lrem, ix_lret, ix_lshl, ix_lstore, ix_lsub, ix_lsw, ix_max, ix_min, ix_new, ix_newa, ix_nret, ix_oinit, ix_pop2L, ix_popI, ix_pushI, ix_pushL, ix_putI, ix_putJ, ix_putR, ix_putZ, ix_sbald, ix_sgetC, ix_sgetV, ix_slen, ix_strc, ix_tald, ix_tsw, ix_vcall, ix_vret, ix_zret, stL, stL2, kilL, popN, fq_sw, fq_lsw, List.map_cons, List.map_nil, List.getElem?_cons_zero, List.getElem?_cons_succ, Option.toList_some, Option.toList_none, List.cons_append, List.nil_append, List.length_cons, List.length_nil, List.sum_cons, List.sum_nil, cat_i, cat_l, cat_r, true_and, and_true, Nat.zero_add, Nat.add_zero, Nat.le_refl, Nat.zero_le, Nat.reduceAdd, Nat.reduceLeDiff, exists_eq_left', Option.some.injEq, not_true_eq_false, not_false_eq_true, false_implies, true_implies, implies_true, and_self, or_true, true_or, or_false, false_or]
    refine ⟨X, T, n, tE T n e, N, 56, rfl, G1.q (hE.ct hx0 F1), hs, by rw [c5]; exact okN.nI hc6 (by omega), by rw [c5, nI_clamp (by omega)]; exact nms, fun g => ?_, fun g1 g => ?_, fun g1 g I2 J2 hF2 hH2 => ?_⟩
    · rw [if_pos g] at hR
      simp (disch := omega) only [B_X7_takePeace_18, x1, x2, x3, s1, hs.k, hs.r0, hs.k1, hs.r1, hs.k2, hs.r2, hs.k3, hs.r3, hs.k4, hs.r4, hs.k12, hs.n1, hs.n2, hs.n3, hs.y0, hs.k5, hs.n5, hs.y1, hs.k6, hs.n6, hs.y2, hs.k7, hs.n7, hs.y3, hs.k8, hs.n8, hs.y4, hs.k9, hs.n9, hs.y5, hs.k10, hs.n10, hs.y6, hs.k11, hs.n11, hs.p0, hs.p1, hs.p2, hs.k13, hs.n13, hs.q0, hs.q1, hs.k14, hs.k15, hs.k16, hs.n16, hs.k17, hs.n17, hs.rH, hs.kH, hs.rP, hs.kP, hs.rQ, hs.kQ, nI_1, nI_add, nI_clamp, nI_pin, nI_neg, nI_nonneg, nI_leE, nI_ltE, nI_eqE, Nat.not_le, Nat.not_lt, fq_10, fq_01, fq_rr, ix_aald, ix_aast, ix_abs, ix_alen, ix_aload, ix_aret, ix_astore, ix_bald, ix_bast, ix_call, ix_cpyI, ix_cpyJ, ix_dead, ix_dup2, ix_dup2L, ix_dupI, ix_dupR, ix_dupx1, ix_getI, ix_getJ, ix_getR, ix_gfm, ix_gtab, ix_i2b, ix_i2c, ix_i2l, ix_i2s, ix_iadd, ix_iald, ix_iand, ix_iast, ix_icall, ix_icmp_eq, ix_icmp_ge, ix_icmp_gt, ix_icmp_le, ix_icmp_lt, ix_icmp_ne, ix_idiv, ix_if_eq, ix_if_ge, ix_if_gt, ix_if_le, ix_if_lt, ix_if_ne, ix_iinc, ix_iload, ix_imul, ix_ineg, ix_ior, ix_irem, ix_iret, ix_ishl, ix_ishr, ix_istore, ix_isub, ix_iushr, ix_ixor, ix_l2i, ix_ladd, ix_lald, ix_land, ix_last, ix_lcmp, ix_ldcS, ix_ldiv, ix_lload, ix_lmul, ix_lor, ix_lrem, ix_lret, ix_lshl, ix_lstore, ix_lsub, ix_lsw, ix_max, ix_min, ix_new, ix_newa, ix_nret, ix_oinit, ix_pop2L, ix_popI, ix_pushI, ix_pushL, ix_putI, ix_putJ, ix_putR, ix_putZ, ix_sbald, ix_sgetC, ix_sgetV, ix_slen, ix_strc, ix_tald, ix_tsw, ix_vcall, ix_vret, ix_zret, stL, stL2, kilL, popN, fq_sw, fq_lsw, List.map_cons, List.map_nil, List.getElem?_cons_zero, List.getElem?_cons_succ, Option.toList_some, Option.toList_none, List.cons_append, List.nil_append, List.length_cons, List.length_nil, List.sum_cons, List.sum_nil, cat_i, cat_l, cat_r, true_and, and_true, Nat.zero_add, Nat.add_zero, Nat.le_refl, Nat.zero_le, Nat.reduceAdd, Nat.reduceLeDiff, exists_eq_left', Option.some.injEq, not_true_eq_false, not_false_eq_true, false_implies, true_implies, implies_true, and_self, or_true, true_or, or_false, false_or]
      exact hR.fx (F1.tr csF.rj) rfl
    · rw [c5, nI_clamp (by omega)] at g
      rw [if_neg (fun r => r g1), if_pos g] at hR
      simp (disch := omega) only [B_X7_takePeace_18, x1, x2, x3, s1, hs.k, hs.r0, hs.k1, hs.r1, hs.k2, hs.r2, hs.k3, hs.r3, hs.k4, hs.r4, hs.k12, hs.n1, hs.n2, hs.n3, hs.y0, hs.k5, hs.n5, hs.y1, hs.k6, hs.n6, hs.y2, hs.k7, hs.n7, hs.y3, hs.k8, hs.n8, hs.y4, hs.k9, hs.n9, hs.y5, hs.k10, hs.n10, hs.y6, hs.k11, hs.n11, hs.p0, hs.p1, hs.p2, hs.k13, hs.n13, hs.q0, hs.q1, hs.k14, hs.k15, hs.k16, hs.n16, hs.k17, hs.n17, hs.rH, hs.kH, hs.rP, hs.kP, hs.rQ, hs.kQ, nI_1, nI_add, nI_clamp, nI_pin, nI_neg, nI_nonneg, nI_leE, nI_ltE, nI_eqE, Nat.not_le, Nat.not_lt, fq_10, fq_01, fq_rr, ix_aald, ix_aast, ix_abs, ix_alen, ix_aload, ix_aret, ix_astore, ix_bald, ix_bast, ix_call, ix_cpyI, ix_cpyJ, ix_dead, ix_dup2, ix_dup2L, ix_dupI, ix_dupR, ix_dupx1, ix_getI, ix_getJ, ix_getR, ix_gfm, ix_gtab, ix_i2b, ix_i2c, ix_i2l, ix_i2s, ix_iadd, ix_iald, ix_iand, ix_iast, ix_icall, ix_icmp_eq, ix_icmp_ge, ix_icmp_gt, ix_icmp_le, ix_icmp_lt, ix_icmp_ne, ix_idiv, ix_if_eq, ix_if_ge, ix_if_gt, ix_if_le, ix_if_lt, ix_if_ne, ix_iinc, ix_iload, ix_imul, ix_ineg, ix_ior, ix_irem, ix_iret, ix_ishl, ix_ishr, ix_istore, ix_isub, ix_iushr, ix_ixor, ix_l2i, ix_ladd, ix_lald, ix_land, ix_last, ix_lcmp, ix_ldcS, ix_ldiv, ix_lload, ix_lmul, ix_lor, ix_lrem, ix_lret, ix_lshl, ix_lstore, ix_lsub, ix_lsw, ix_max, ix_min, ix_new, ix_newa, ix_nret, ix_oinit, ix_pop2L, ix_popI, ix_pushI, ix_pushL, ix_putI, ix_putJ, ix_putR, ix_putZ, ix_sbald, ix_sgetC, ix_sgetV, ix_slen, ix_strc, ix_tald, ix_tsw, ix_vcall, ix_vret, ix_zret, stL, stL2, kilL, popN, fq_sw, fq_lsw, List.map_cons, List.map_nil, List.getElem?_cons_zero, List.getElem?_cons_succ, Option.toList_some, Option.toList_none, List.cons_append, List.nil_append, List.length_cons, List.length_nil, List.sum_cons, List.sum_nil, cat_i, cat_l, cat_r, true_and, and_true, Nat.zero_add, Nat.add_zero, Nat.le_refl, Nat.zero_le, Nat.reduceAdd, Nat.reduceLeDiff, exists_eq_left', Option.some.injEq, not_true_eq_false, not_false_eq_true, false_implies, true_implies, implies_true, and_self, or_true, true_or, or_false, false_or]
      exact hR.fx (F1.tr csF.rj) rfl
    · rw [c5, nI_clamp (by omega)] at g ⊢
      rw [if_neg (fun r => r g1), if_neg g] at hR
      dsimp only [pB] at hR
      obtain ⟨f1, hf1, ef1⟩ := (fnH_ok (N := N) (b := 56) (c := c) (v := nmH T n (tE T n e))).resolve_left g
      rw [ef1] at hR ⊢
      have m1 : ¬ nI f1 = -1 := of_eq_false (nI_m1 (by omega))
      have G2 : stH X s I2 J2 T n (A, N, tE T n (tE T n e)) := G1.rd l1 hF2 hH2 e2
      have F2 := F1.tr (csF.rd (s := s) (t := t) hF2)
      have t2 : I2 t = I t := (hF2.1 t (by omega)).trans t1
      have c52 : I2 s 5 = nI c := G2.c.2.2.1.trans hc
      have nms2 := G2.2.2.2.1.1
      dsimp only at nms2
      rw [hcc] at nms2
      simp only [uA_e] at hR
      simp (disch := omega) only [B_X7_takePeace_18, m1, x1, x2, x3, s1, hs.k, hs.r0, hs.k1, hs.r1, hs.k2, hs.r2, hs.k3, hs.r3, hs.k4, hs.r4, hs.k12, hs.n1, hs.n2, hs.n3, hs.y0, hs.k5, hs.n5, hs.y1, hs.k6, hs.n6, hs.y2, hs.k7, hs.n7, hs.y3, hs.k8, hs.n8, hs.y4, hs.k9, hs.n9, hs.y5, hs.k10, hs.n10, hs.y6, hs.k11, hs.n11, hs.p0, hs.p1, hs.p2, hs.k13, hs.n13, hs.q0, hs.q1, hs.k14, hs.k15, hs.k16, hs.n16, hs.k17, hs.n17, hs.rH, hs.kH, hs.rP, hs.kP, hs.rQ, hs.kQ, nI_1, nI_add, nI_clamp, nI_pin, nI_neg, nI_nonneg, nI_leE, nI_ltE, nI_eqE, Nat.not_le, Nat.not_lt, fq_10, fq_01, fq_rr, ix_aald, ix_aast, ix_abs, ix_alen, ix_aload, ix_aret, ix_astore, ix_bald, ix_bast, ix_call, ix_cpyI, ix_cpyJ, ix_dead, ix_dup2, ix_dup2L, ix_dupI, ix_dupR, ix_dupx1, ix_getI, ix_getJ, ix_getR, ix_gfm, ix_gtab, ix_i2b, ix_i2c, ix_i2l, ix_i2s, ix_iadd, ix_iald, ix_iand, ix_iast, ix_icall, ix_icmp_eq, ix_icmp_ge, ix_icmp_gt, ix_icmp_le, ix_icmp_lt, ix_icmp_ne, ix_idiv, ix_if_eq, ix_if_ge, ix_if_gt, ix_if_le, ix_if_lt, ix_if_ne, ix_iinc, ix_iload, ix_imul, ix_ineg, ix_ior, ix_irem, ix_iret, ix_ishl, ix_ishr, ix_istore, ix_isub, ix_iushr, ix_ixor, ix_l2i, ix_ladd, ix_lald, ix_land, ix_last, ix_lcmp, ix_ldcS, ix_ldiv, ix_lload, ix_lmul, ix_lor, ix_lrem, ix_lret, ix_lshl, ix_lstore, ix_lsub, ix_lsw, ix_max, ix_min, ix_new, ix_newa, ix_nret, ix_oinit, ix_pop2L, ix_popI, ix_pushI, ix_pushL, ix_putI, ix_putJ, ix_putR, ix_putZ, ix_sbald, ix_sgetC, ix_sgetV, ix_slen, ix_strc, ix_tald, ix_tsw, ix_vcall, ix_vret, ix_zret, stL, stL2, kilL, popN, fq_sw, fq_lsw, List.map_cons, List.map_nil, List.getElem?_cons_zero, List.getElem?_cons_succ, Option.toList_some, Option.toList_none, List.cons_append, List.nil_append, List.length_cons, List.length_nil, List.sum_cons, List.sum_nil, cat_i, cat_l, cat_r, true_and, and_true, Nat.zero_add, Nat.add_zero, Nat.le_refl, Nat.zero_le, Nat.reduceAdd, Nat.reduceLeDiff, exists_eq_left', Option.some.injEq, not_true_eq_false, not_false_eq_true, false_implies, true_implies, implies_true, and_self, or_true, true_or, or_false, false_or]
      refine ⟨X, T, n, tE T n (tE T n e), N, 56, rfl, G2.q (hE.ct hx0 F2), hs, by rw [c52]; exact okN.nI hc6 (by omega), by rw [c52, nI_clamp (by omega)]; exact nms2, fun g => ?_, fun g1 g => ?_, fun g1 g => ?_⟩
      · rw [if_neg (fun r => g r.1), if_pos g] at hR
        simp (disch := omega) only [B_X7_takePeace_37, x1, x2, x3, s1, hs.k, hs.r0, hs.k1, hs.r1, hs.k2, hs.r2, hs.k3, hs.r3, hs.k4, hs.r4, hs.k12, hs.n1, hs.n2, hs.n3, hs.y0, hs.k5, hs.n5, hs.y1, hs.k6, hs.n6, hs.y2, hs.k7, hs.n7, hs.y3, hs.k8, hs.n8, hs.y4, hs.k9, hs.n9, hs.y5, hs.k10, hs.n10, hs.y6, hs.k11, hs.n11, hs.p0, hs.p1, hs.p2, hs.k13, hs.n13, hs.q0, hs.q1, hs.k14, hs.k15, hs.k16, hs.n16, hs.k17, hs.n17, hs.rH, hs.kH, hs.rP, hs.kP, hs.rQ, hs.kQ, nI_1, nI_add, nI_clamp, nI_pin, nI_neg, nI_nonneg, nI_leE, nI_ltE, nI_eqE, Nat.not_le, Nat.not_lt, fq_10, fq_01, fq_rr, ix_aald, ix_aast, ix_abs, ix_alen, ix_aload, ix_aret, ix_astore, ix_bald, ix_bast, ix_call, ix_cpyI, ix_cpyJ, ix_dead, ix_dup2, ix_dup2L, ix_dupI, ix_dupR, ix_dupx1, ix_getI, ix_getJ, ix_getR, ix_gfm, ix_gtab, ix_i2b, ix_i2c, ix_i2l, ix_i2s, ix_iadd, ix_iald, ix_iand, ix_iast, ix_icall, ix_icmp_eq, ix_icmp_ge, ix_icmp_gt, ix_icmp_le, ix_icmp_lt, ix_icmp_ne, ix_idiv, ix_if_eq, ix_if_ge, ix_if_gt, ix_if_le, ix_if_lt, ix_if_ne, ix_iinc, ix_iload, ix_imul, ix_ineg, ix_ior, ix_irem, ix_iret, ix_ishl, ix_ishr, ix_istore, ix_isub, ix_iushr, ix_ixor, ix_l2i, ix_ladd, ix_lald, ix_land, ix_last, ix_lcmp, ix_ldcS, ix_ldiv, ix_lload, ix_lmul, ix_lor, ix_lrem, ix_lret, ix_lshl, ix_lstore, ix_lsub, ix_lsw, ix_max, ix_min, ix_new, ix_newa, ix_nret, ix_oinit, ix_pop2L, ix_popI, ix_pushI, ix_pushL, ix_putI, ix_putJ, ix_putR, ix_putZ, ix_sbald, ix_sgetC, ix_sgetV, ix_slen, ix_strc, ix_tald, ix_tsw, ix_vcall, ix_vret, ix_zret, stL, stL2, kilL, popN, fq_sw, fq_lsw, List.map_cons, List.map_nil, List.getElem?_cons_zero, List.getElem?_cons_succ, Option.toList_some, Option.toList_none, List.cons_append, List.nil_append, List.length_cons, List.length_nil, List.sum_cons, List.sum_nil, cat_i, cat_l, cat_r, true_and, and_true, Nat.zero_add, Nat.add_zero, Nat.le_refl, Nat.zero_le, Nat.reduceAdd, Nat.reduceLeDiff, exists_eq_left', Option.some.injEq, not_true_eq_false, not_false_eq_true, false_implies, true_implies, implies_true, and_self, or_true, true_or, or_false, false_or]
        exact hR.fx (F2.tr csF.rj) rfl
      · rw [c52, nI_clamp (by omega)] at g
        rw [if_neg (fun r => r.2.1 g), if_neg (fun r => r g1), if_pos g] at hR
        simp (disch := omega) only [B_X7_takePeace_37, x1, x2, x3, s1, hs.k, hs.r0, hs.k1, hs.r1, hs.k2, hs.r2, hs.k3, hs.r3, hs.k4, hs.r4, hs.k12, hs.n1, hs.n2, hs.n3, hs.y0, hs.k5, hs.n5, hs.y1, hs.k6, hs.n6, hs.y2, hs.k7, hs.n7, hs.y3, hs.k8, hs.n8, hs.y4, hs.k9, hs.n9, hs.y5, hs.k10, hs.n10, hs.y6, hs.k11, hs.n11, hs.p0, hs.p1, hs.p2, hs.k13, hs.n13, hs.q0, hs.q1, hs.k14, hs.k15, hs.k16, hs.n16, hs.k17, hs.n17, hs.rH, hs.kH, hs.rP, hs.kP, hs.rQ, hs.kQ, nI_1, nI_add, nI_clamp, nI_pin, nI_neg, nI_nonneg, nI_leE, nI_ltE, nI_eqE, Nat.not_le, Nat.not_lt, fq_10, fq_01, fq_rr, ix_aald, ix_aast, ix_abs, ix_alen, ix_aload, ix_aret, ix_astore, ix_bald, ix_bast, ix_call, ix_cpyI, ix_cpyJ, ix_dead, ix_dup2, ix_dup2L, ix_dupI, ix_dupR, ix_dupx1, ix_getI, ix_getJ, ix_getR, ix_gfm, ix_gtab, ix_i2b, ix_i2c, ix_i2l, ix_i2s, ix_iadd, ix_iald, ix_iand, ix_iast, ix_icall, ix_icmp_eq, ix_icmp_ge, ix_icmp_gt, ix_icmp_le, ix_icmp_lt, ix_icmp_ne, ix_idiv, ix_if_eq, ix_if_ge, ix_if_gt, ix_if_le, ix_if_lt, ix_if_ne, ix_iinc, ix_iload, ix_imul, ix_ineg, ix_ior, ix_irem, ix_iret, ix_ishl, ix_ishr, ix_istore, ix_isub, ix_iushr, ix_ixor, ix_l2i, ix_ladd, ix_lald, ix_land, ix_last, ix_lcmp, ix_ldcS, ix_ldiv, ix_lload, ix_lmul, ix_lor, ix_lrem, ix_lret, ix_lshl, ix_lstore, ix_lsub, ix_lsw, ix_max, ix_min, ix_new, ix_newa, ix_nret, ix_oinit, ix_pop2L, ix_popI, ix_pushI, ix_pushL, ix_putI, ix_putJ, ix_putR, ix_putZ, ix_sbald, ix_sgetC, ix_sgetV, ix_slen, ix_strc, ix_tald, ix_tsw, ix_vcall, ix_vret, ix_zret, stL, stL2, kilL, popN, fq_sw, fq_lsw, List.map_cons, List.map_nil, List.getElem?_cons_zero, List.getElem?_cons_succ, Option.toList_some, Option.toList_none, List.cons_append, List.nil_append, List.length_cons, List.length_nil, List.sum_cons, List.sum_nil, cat_i, cat_l, cat_r, true_and, and_true, Nat.zero_add, Nat.add_zero, Nat.le_refl, Nat.zero_le, Nat.reduceAdd, Nat.reduceLeDiff, exists_eq_left', Option.some.injEq, not_true_eq_false, not_false_eq_true, false_implies, true_implies, implies_true, and_self, or_true, true_or, or_false, false_or]
        exact hR.fx (F2.tr csF.rj) rfl
      · rw [c52, nI_clamp (by omega)] at g ⊢
        obtain ⟨f2, hf2, ef2⟩ := (fnH_ok (N := N) (b := 56) (c := c) (v := nmH T n (tE T n (tE T n e)))).resolve_left g
        have sw := ab_sw f1 (by omega) f2 (by omega)
        simp only [ef2] at hR g ⊢
        simp (disch := omega) only [B_X7_takePeace_37, g, x1, x2, x3, s1, hs.k, hs.r0, hs.k1, hs.r1, hs.k2, hs.r2, hs.k3, hs.r3, hs.k4, hs.r4, hs.k12, hs.n1, hs.n2, hs.n3, hs.y0, hs.k5, hs.n5, hs.y1, hs.k6, hs.n6, hs.y2, hs.k7, hs.n7, hs.y3, hs.k8, hs.n8, hs.y4, hs.k9, hs.n9, hs.y5, hs.k10, hs.n10, hs.y6, hs.k11, hs.n11, hs.p0, hs.p1, hs.p2, hs.k13, hs.n13, hs.q0, hs.q1, hs.k14, hs.k15, hs.k16, hs.n16, hs.k17, hs.n17, hs.rH, hs.kH, hs.rP, hs.kP, hs.rQ, hs.kQ, nI_1, nI_add, nI_clamp, nI_pin, nI_neg, nI_nonneg, nI_leE, nI_ltE, nI_eqE, Nat.not_le, Nat.not_lt, fq_10, fq_01, fq_rr, ix_aald, ix_aast, ix_abs, ix_alen, ix_aload, ix_aret, ix_astore, ix_bald, ix_bast, ix_call, ix_cpyI, ix_cpyJ, ix_dead, ix_dup2, ix_dup2L, ix_dupI, ix_dupR, ix_dupx1, ix_getI, ix_getJ, ix_getR, ix_gfm, ix_gtab, ix_i2b, ix_i2c, ix_i2l, ix_i2s, ix_iadd, ix_iald, ix_iand, ix_iast, ix_icall, ix_icmp_eq, ix_icmp_ge, ix_icmp_gt, ix_icmp_le, ix_icmp_lt, ix_icmp_ne, ix_idiv, ix_if_eq, ix_if_ge, ix_if_gt, ix_if_le, ix_if_lt, ix_if_ne, ix_iinc, ix_iload, ix_imul, ix_ineg, ix_ior, ix_irem, ix_iret, ix_ishl, ix_ishr, ix_istore, ix_isub, ix_iushr, ix_ixor, ix_l2i, ix_ladd, ix_lald, ix_land, ix_last, ix_lcmp, ix_ldcS, ix_ldiv, ix_lload, ix_lmul, ix_lor, ix_lrem, ix_lret, ix_lshl, ix_lstore, ix_lsub, ix_lsw, ix_max, ix_min, ix_new, ix_newa, ix_nret, ix_oinit, ix_pop2L, ix_popI, ix_pushI, ix_pushL, ix_putI, ix_putJ, ix_putR, ix_putZ, ix_sbald, ix_sgetC, ix_sgetV, ix_slen, ix_strc, ix_tald, ix_tsw, ix_vcall, ix_vret, ix_zret, stL, stL2, kilL, popN, fq_sw, fq_lsw, List.map_cons, List.map_nil, List.getElem?_cons_zero, List.getElem?_cons_succ, Option.toList_some, Option.toList_none, List.cons_append, List.nil_append, List.length_cons, List.length_nil, List.sum_cons, List.sum_nil, cat_i, cat_l, cat_r, true_and, and_true, Nat.zero_add, Nat.add_zero, Nat.le_refl, Nat.zero_le, Nat.reduceAdd, Nat.reduceLeDiff, exists_eq_left', Option.some.injEq, not_true_eq_false, not_false_eq_true, false_implies, true_implies, implies_true, and_self, or_true, true_or, or_false, false_or]
        refine ⟨fun y => adv_R (G2.q (hE.ct hx0 F2)) (by rw [g1.1]; decide) (fun I3 J3 hF3 hH3 => ?_), fun y => rej_R (G2.q (hE.ct hx0 F2)) ?_⟩
        · rw [if_neg (fun r => r.2.2 (sw.mp y)), if_neg (fun r => r g1), if_neg g] at hR
          dsimp only [pB] at hR
          rw [uA_e, uA_n _ _ _ _ (show (2384 : Nat) ≠ 2963 by omega), uA_n _ _ _ _ (show (2384 : Nat) ≠ 2962 by omega), uA_n _ _ _ _ (show (2962 : Nat) ≠ 2963 by omega), uA_e] at hR
          have G3 : stH X s I3 J3 T n (A, N, tE T n (tE T n (tE T n e))) := G2.rd l1 hF3 hH3 e3
          have F3 := F2.tr (csF.rd (s := s) (t := t) hF3)
          have t3 : I3 t = I t := (hF3.1 t (by omega)).trans t2
          have y9 : I3 s 13 = A 2384 := G3.2.2.1.2.1.2.2.2.2.2.2.2.2.1
          have G4 : stH X s I3 J3 T n (uA (uA A 2962 (nI f1)) 2963 (nI f2), N, tE T n (tE T n (tE T n e))) := G3.sp (fun k hk => by rw [uA_n _ _ _ _ (by omega), uA_n _ _ _ _ (by omega)])
          simp (disch := omega) only [B_X7_takePeace_71, y9, x1, x2, x3, s1, hs.k, hs.r0, hs.k1, hs.r1, hs.k2, hs.r2, hs.k3, hs.r3, hs.k4, hs.r4, hs.k12, hs.n1, hs.n2, hs.n3, hs.y0, hs.k5, hs.n5, hs.y1, hs.k6, hs.n6, hs.y2, hs.k7, hs.n7, hs.y3, hs.k8, hs.n8, hs.y4, hs.k9, hs.n9, hs.y5, hs.k10, hs.n10, hs.y6, hs.k11, hs.n11, hs.p0, hs.p1, hs.p2, hs.k13, hs.n13, hs.q0, hs.q1, hs.k14, hs.k15, hs.k16, hs.n16, hs.k17, hs.n17, hs.rH, hs.kH, hs.rP, hs.kP, hs.rQ, hs.kQ, ix_aald, ix_aast, ix_abs, ix_alen, ix_aload, ix_aret, ix_astore, ix_bald, ix_bast, ix_call, ix_cpyI, ix_cpyJ, ix_dead, ix_dup2, ix_dup2L, ix_dupI, ix_dupR, ix_dupx1, ix_getI, ix_getJ, ix_getR, ix_gfm, ix_gtab, ix_i2b, ix_i2c, ix_i2l, ix_i2s, ix_iadd, ix_iald, ix_iand, ix_iast, ix_icall, ix_icmp_eq, ix_icmp_ge, ix_icmp_gt, ix_icmp_le, ix_icmp_lt, ix_icmp_ne, ix_idiv, ix_if_eq, ix_if_ge, ix_if_gt, ix_if_le, ix_if_lt, ix_if_ne, ix_iinc, ix_iload, ix_imul, ix_ineg, ix_ior, ix_irem, ix_iret, ix_ishl, ix_ishr, ix_istore, ix_isub, ix_iushr, ix_ixor, ix_l2i, ix_ladd, ix_lald, ix_land, ix_last, ix_lcmp, ix_ldcS, ix_ldiv, ix_lload, ix_lmul, ix_lor, ix_lrem, ix_lret, ix_lshl, ix_lstore, ix_lsub, ix_lsw, ix_max, ix_min, ix_new, ix_newa, ix_nret, ix_oinit, ix_pop2L, ix_popI, ix_pushI, ix_pushL, ix_putI, ix_putJ, ix_putR, ix_putZ, ix_sbald, ix_sgetC, ix_sgetV, ix_slen, ix_strc, ix_tald, ix_tsw, ix_vcall, ix_vret, ix_zret, stL, stL2, kilL, popN, fq_sw, fq_lsw, List.map_cons, List.map_nil, List.getElem?_cons_zero, List.getElem?_cons_succ, Option.toList_some, Option.toList_none, List.cons_append, List.nil_append, List.length_cons, List.length_nil, List.sum_cons, List.sum_nil, cat_i, cat_l, cat_r, true_and, and_true, Nat.zero_add, Nat.add_zero, Nat.le_refl, Nat.zero_le, Nat.reduceAdd, Nat.reduceLeDiff, exists_eq_left', Option.some.injEq, not_true_eq_false, not_false_eq_true, false_implies, true_implies, implies_true, and_self, or_true, true_or, or_false, false_or]
          refine (hR _ _ (F3.tr (csF.s (fun a ha => u2_ne (by omega)) (fun a ha => rfl))) (G4.num (k := 13) (j := 8) l1 (by omega)) ?_)
          rw [u2_ne (by omega), t3]
        · rw [if_pos ⟨g1, g, fun r => y (sw.mpr r)⟩] at hR
          simp (disch := omega) only [B_X7_takePeace_63, nI_1, nI_add, nI_clamp, nI_pin, nI_neg, nI_nonneg, nI_leE, nI_ltE, nI_eqE, Nat.not_le, Nat.not_lt, fq_10, fq_01, fq_rr, ix_aald, ix_aast, ix_abs, ix_alen, ix_aload, ix_aret, ix_astore, ix_bald, ix_bast, ix_call, ix_cpyI, ix_cpyJ, ix_dead, ix_dup2, ix_dup2L, ix_dupI, ix_dupR, ix_dupx1, ix_getI, ix_getJ, ix_getR, ix_gfm, ix_gtab, ix_i2b, ix_i2c, ix_i2l, ix_i2s, ix_iadd, ix_iald, ix_iand, ix_iast, ix_icall, ix_icmp_eq, ix_icmp_ge, ix_icmp_gt, ix_icmp_le, ix_icmp_lt, ix_icmp_ne, ix_idiv, ix_if_eq, ix_if_ge, ix_if_gt, ix_if_le, ix_if_lt, ix_if_ne, ix_iinc, ix_iload, ix_imul, ix_ineg, ix_ior, ix_irem, ix_iret, ix_ishl, ix_ishr, ix_istore, ix_isub, ix_iushr, ix_ixor, ix_l2i, ix_ladd, ix_lald, ix_land, ix_last, ix_lcmp, ix_ldcS, ix_ldiv, ix_lload, ix_lmul, ix_lor, ix_lrem, ix_lret, ix_lshl, ix_lstore, ix_lsub, ix_lsw, ix_max, ix_min, ix_new, ix_newa, ix_nret, ix_oinit, ix_pop2L, ix_popI, ix_pushI, ix_pushL, ix_putI, ix_putJ, ix_putR, ix_putZ, ix_sbald, ix_sgetC, ix_sgetV, ix_slen, ix_strc, ix_tald, ix_tsw, ix_vcall, ix_vret, ix_zret, stL, stL2, kilL, popN, fq_sw, fq_lsw, List.map_cons, List.map_nil, List.getElem?_cons_zero, List.getElem?_cons_succ, Option.toList_some, Option.toList_none, List.cons_append, List.nil_append, List.length_cons, List.length_nil, List.sum_cons, List.sum_nil, cat_i, cat_l, cat_r, true_and, and_true, Nat.zero_add, Nat.add_zero, Nat.le_refl, Nat.zero_le, Nat.reduceAdd, Nat.reduceLeDiff, exists_eq_left', Option.some.injEq, not_true_eq_false, not_false_eq_true, false_implies, true_implies, implies_true, and_self, or_true, true_or, or_false, false_or]
          exact hR.fx (F2.tr csF.rj) rfl
  · exact h.elim
