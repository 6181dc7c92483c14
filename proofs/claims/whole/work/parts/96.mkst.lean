/-! a street made -/
def fr0 (t z : Nat) (S S1 : Sh) (I I1 : IH) (J J1 : JH) : Prop := (∀ b, b < t → S1.1 b = S.1 b ∧ S1.2.1 b = S.2.1 b ∧ S1.2.2 b = S.2.2 b ∧ I1 b = I b ∧ J1 b = J b) ∧ ∀ b, t ≤ b → b < z → (∀ k, I1 b k = 0) ∧ ∀ k, J1 b k = 0
/-- one more object -/
theorem fr0.nw {t z ci : Nat} {S S1 : Sh} {I I1 : IH} {J J1 : JH} {R : Nat → Nat → Option Nat} (h : fr0 t z S S1 I I1 J J1) (hz : t < z) (hR : ∀ b, b < t → R b = S1.2.2 b) : fr0 t (z + 1) S (up1 S1.1 z ci, S1.2.1, R) I (up1 I1 z fun _ => 0) J (up1 J1 z fun _ => 0) := by
  refine ⟨fun b hb => ?_, fun b h1 h2 => ?_⟩
  · obtain ⟨x1, x2, x3, x4, x5⟩ := h.1 b hb
    exact ⟨(up1_ne (by omega)).trans x1, x2, (hR b hb).trans x3, by rw [up1_ne (by omega)]; exact x4, by rw [up1_ne (by omega)]; exact x5⟩
  · by_cases q : b = z
    · subst q
      rw [up1_eq, up1_eq]
      exact ⟨fun _ => rfl, fun _ => rfl⟩
    · rw [up1_ne q, up1_ne q]
      exact h.2 b h1 (by omega)
theorem fr0.mk {t a z z1 : Nat} {S S1 S2 : Sh} {I I1 I2 : IH} {J J1 J2 : JH} (h : fr0 t z S S1 I I1 J J1) (g : mkF a z z1 S1 S2 I1 I2 J1 J2) (ha : t ≤ a) (hz : t < z) : fr0 t z1 S S2 I I2 J J2 := by
  refine ⟨fun b hb => ?_, fun b h1 h2 => ?_⟩
  · obtain ⟨x1, x2, x3, x4, x5⟩ := h.1 b hb
    obtain ⟨y1, y2, y3, y4, y5⟩ := g.1 b (by omega)
    exact ⟨y1.trans x1, y2.trans x2, (y3 (by omega)).trans x3, y4.trans x4, y5.trans x5⟩
  · by_cases q : b < z
    · obtain ⟨-, -, -, y4, y5⟩ := g.1 b q
      rw [y4, y5]
      exact h.2 b h1 q
    · exact g.2 b (by omega) h2
theorem fr0.pr {t a k z : Nat} {v : Option Nat} {S S1 : Sh} {I I1 : IH} {J J1 : JH} (h : fr0 t z S S1 I I1 J J1) (ha : t ≤ a) : fr0 t z S (S1.1, S1.2.1, u2 S1.2.2 a k v) I I1 J J1 := by
  refine ⟨fun b hb => ?_, h.2⟩
  obtain ⟨x1, x2, x3, x4, x5⟩ := h.1 b hb
  exact ⟨x1, x2, (u2_ne (by omega)).trans x3, x4, x5⟩
/-- a new street's numbers -/
def stN (I : IH) (J : JH) (s : Nat) : Prop := (∀ b, s ≤ b → b < s + 52 → ∀ k, I b k = if b = s ∧ k = 9 then 1 else if b = s ∧ k = 10 then 2 else if b = s ∧ k = 11 then 4 else 0) ∧ ∀ b, s ≤ b → b < s + 52 → ∀ k, J b k = 0
theorem dX6_init_0 : decode cX6_init 0 = .ok (.aload_n 0, 1) := by decide +kernel
theorem dX6_init_1 : decode cX6_init 1 = .ok (.invokespecial 3, 3) := by decide +kernel
theorem dX6_init_4 : decode cX6_init 4 = .ok (.aload_n 0, 1) := by decide +kernel
theorem dX6_init_5 : decode cX6_init 5 = .ok (.bipush 6, 2) := by decide +kernel
theorem dX6_init_7 : decode cX6_init 7 = .ok (.anewarray 9, 3) := by decide +kernel
theorem dX6_init_10 : decode cX6_init 10 = .ok (.putfield 11, 3) := by decide +kernel
theorem dX6_init_13 : decode cX6_init 13 = .ok (.aload_n 0, 1) := by decide +kernel
theorem dX6_init_14 : decode cX6_init 14 = .ok (.bipush 8, 2) := by decide +kernel
theorem dX6_init_16 : decode cX6_init 16 = .ok (.anewarray 17, 3) := by decide +kernel
theorem dX6_init_19 : decode cX6_init 19 = .ok (.putfield 19, 3) := by decide +kernel
theorem dX6_init_22 : decode cX6_init 22 = .ok (.aload_n 0, 1) := by decide +kernel
theorem dX6_init_23 : decode cX6_init 23 = .ok (.bipush 20, 2) := by decide +kernel
theorem dX6_init_25 : decode cX6_init 25 = .ok (.anewarray 23, 3) := by decide +kernel
theorem dX6_init_28 : decode cX6_init 28 = .ok (.putfield 25, 3) := by decide +kernel
theorem dX6_init_31 : decode cX6_init 31 = .ok (.aload_n 0, 1) := by decide +kernel
theorem dX6_init_32 : decode cX6_init 32 = .ok (.new 29, 3) := by decide +kernel
theorem dX6_init_35 : decode cX6_init 35 = .ok (.dup, 1) := by decide +kernel
theorem dX6_init_36 : decode cX6_init 36 = .ok (.invokespecial 31, 3) := by decide +kernel
theorem dX6_init_39 : decode cX6_init 39 = .ok (.putfield 32, 3) := by decide +kernel
theorem dX6_init_42 : decode cX6_init 42 = .ok (.aload_n 0, 1) := by decide +kernel
theorem dX6_init_43 : decode cX6_init 43 = .ok (.new 36, 3) := by decide +kernel
theorem dX6_init_46 : decode cX6_init 46 = .ok (.dup, 1) := by decide +kernel
theorem dX6_init_47 : decode cX6_init 47 = .ok (.invokespecial 38, 3) := by decide +kernel
theorem dX6_init_50 : decode cX6_init 50 = .ok (.putfield 39, 3) := by decide +kernel
theorem dX6_init_53 : decode cX6_init 53 = .ok (.iconst 0, 1) := by decide +kernel
theorem dX6_init_54 : decode cX6_init 54 = .ok (.istore_n 1, 1) := by decide +kernel
theorem dX6_init_55 : decode cX6_init 55 = .ok (.iload_n 1, 1) := by decide +kernel
theorem dX6_init_56 : decode cX6_init 56 = .ok (.bipush 6, 2) := by decide +kernel
theorem dX6_init_58 : decode cX6_init 58 = .ok (.if_icmp .ge 22, 3) := by decide +kernel
theorem dX6_init_61 : decode cX6_init 61 = .ok (.aload_n 0, 1) := by decide +kernel
theorem dX6_init_62 : decode cX6_init 62 = .ok (.getfield 11, 3) := by decide +kernel
theorem dX6_init_65 : decode cX6_init 65 = .ok (.iload_n 1, 1) := by decide +kernel
theorem dX6_init_66 : decode cX6_init 66 = .ok (.new 9, 3) := by decide +kernel
theorem dX6_init_69 : decode cX6_init 69 = .ok (.dup, 1) := by decide +kernel
theorem dX6_init_70 : decode cX6_init 70 = .ok (.invokespecial 43, 3) := by decide +kernel
theorem dX6_init_73 : decode cX6_init 73 = .ok (.aastore, 1) := by decide +kernel
theorem dX6_init_74 : decode cX6_init 74 = .ok (.iinc 1 1, 3) := by decide +kernel
theorem dX6_init_77 : decode cX6_init 77 = .ok (.goto (-22), 3) := by decide +kernel
theorem dX6_init_80 : decode cX6_init 80 = .ok (.iconst 0, 1) := by decide +kernel
theorem dX6_init_81 : decode cX6_init 81 = .ok (.istore_n 1, 1) := by decide +kernel
theorem dX6_init_82 : decode cX6_init 82 = .ok (.iload_n 1, 1) := by decide +kernel
theorem dX6_init_83 : decode cX6_init 83 = .ok (.bipush 8, 2) := by decide +kernel
theorem dX6_init_85 : decode cX6_init 85 = .ok (.if_icmp .ge 22, 3) := by decide +kernel
theorem dX6_init_88 : decode cX6_init 88 = .ok (.aload_n 0, 1) := by decide +kernel
theorem dX6_init_89 : decode cX6_init 89 = .ok (.getfield 19, 3) := by decide +kernel
theorem dX6_init_92 : decode cX6_init 92 = .ok (.iload_n 1, 1) := by decide +kernel
theorem dX6_init_93 : decode cX6_init 93 = .ok (.new 17, 3) := by decide +kernel
theorem dX6_init_96 : decode cX6_init 96 = .ok (.dup, 1) := by decide +kernel
theorem dX6_init_97 : decode cX6_init 97 = .ok (.invokespecial 44, 3) := by decide +kernel
theorem dX6_init_100 : decode cX6_init 100 = .ok (.aastore, 1) := by decide +kernel
theorem dX6_init_101 : decode cX6_init 101 = .ok (.iinc 1 1, 3) := by decide +kernel
theorem dX6_init_104 : decode cX6_init 104 = .ok (.goto (-22), 3) := by decide +kernel
theorem dX6_init_107 : decode cX6_init 107 = .ok (.iconst 0, 1) := by decide +kernel
theorem dX6_init_108 : decode cX6_init 108 = .ok (.istore_n 1, 1) := by decide +kernel
theorem dX6_init_109 : decode cX6_init 109 = .ok (.iload_n 1, 1) := by decide +kernel
theorem dX6_init_110 : decode cX6_init 110 = .ok (.bipush 20, 2) := by decide +kernel
theorem dX6_init_112 : decode cX6_init 112 = .ok (.if_icmp .ge 22, 3) := by decide +kernel
theorem dX6_init_115 : decode cX6_init 115 = .ok (.aload_n 0, 1) := by decide +kernel
theorem dX6_init_116 : decode cX6_init 116 = .ok (.getfield 25, 3) := by decide +kernel
theorem dX6_init_119 : decode cX6_init 119 = .ok (.iload_n 1, 1) := by decide +kernel
theorem dX6_init_120 : decode cX6_init 120 = .ok (.new 23, 3) := by decide +kernel
theorem dX6_init_123 : decode cX6_init 123 = .ok (.dup, 1) := by decide +kernel
theorem dX6_init_124 : decode cX6_init 124 = .ok (.invokespecial 45, 3) := by decide +kernel
theorem dX6_init_127 : decode cX6_init 127 = .ok (.aastore, 1) := by decide +kernel
theorem dX6_init_128 : decode cX6_init 128 = .ok (.iinc 1 1, 3) := by decide +kernel
theorem dX6_init_131 : decode cX6_init 131 = .ok (.goto (-22), 3) := by decide +kernel
theorem dX6_init_134 : decode cX6_init 134 = .ok (.aload_n 0, 1) := by decide +kernel
theorem dX6_init_135 : decode cX6_init 135 = .ok (.invokevirtual 46, 3) := by decide +kernel
theorem dX6_init_138 : decode cX6_init 138 = .ok (.return_, 1) := by decide +kernel
abbrev M_X6_init : MT := (yX6_init, cX6_init, 2, none)
theorem cf_X6_init : fq_cf M_X6_init 0 := ⟨(mg_1 (List.mem_of_getElem? (i := 8) rfl) rfl), (mg_1 (List.mem_of_getElem? (i := 155) rfl) rfl), ⟨by decide, by decide, by decide +kernel⟩, by decide⟩
def B_X6_init_138 (l : Launch) (G : GT) (D mc ms : Nat) (Q : Post) : Cn := ix_vret mc ms Q
theorem b_X6_init_138 {l : Launch} {G : GT} {D mc ms : Nat} {Q : Post} : Imp l G M_X6_init (D + 3) mc ms Q (B_X6_init_138 l G D mc ms Q) 138 := sx_vret dX6_init_138 rfl
def B_X6_init_127 (l : Launch) (G : GT) (D mc ms : Nat) (Q : Post) : Cn := ix_aast 18 3 (ix_iinc 1 1 (fqAt l G M_X6_init (D + 3) mc ms Q 109))
theorem b_X6_init_127 {l : Launch} {G : GT} {D mc ms : Nat} {Q : Post} : Imp l G M_X6_init (D + 3) mc ms Q (B_X6_init_127 l G D mc ms Q) 127 := sx_aast dX6_init_127 rfl (by decide) (by decide) rfl (sx_iinc dX6_init_128 rfl (by decide) (sx_goto 109 dX6_init_131 (by decide) ((fun _ _ _ _ _ _ _ _ h => h))))
def B_X6_init_109 (l : Launch) (G : GT) (D mc ms : Nat) (Q : Post) : Cn := ix_iload 1 (ix_pushI 20 (ix_icmp_ge (ix_aload 0 (ix_vcall 6 1 0 0 mc ms (sp_X6_clear G) ((B_X6_init_138 l G D mc ms Q)))) (ix_aload 0 (ix_getR 6 2 (ix_iload 1 (ix_new 3 7 mc ms (ix_dupR (ix_icall 1 0 0 mc ms (sp_X3_init G) ((B_X6_init_127 l G D mc ms Q))))))))))
theorem b_X6_init_109 {l : Launch} {G : GT} {D mc ms : Nat} {Q : Post} : Imp l G M_X6_init (D + 3) mc ms Q (B_X6_init_109 l G D mc ms Q) 109 := sx_iload_n dX6_init_109 rfl (sx_bipush dX6_init_110 rfl (sx_icmp_ge 134 dX6_init_112 (by decide) (sx_aload_n dX6_init_134 rfl (sx_vcall dX6_init_135 cf_X6_clear (mg_2 (List.mem_of_getElem? (i := 124) rfl) rfl) (mg_2 (List.mem_of_getElem? (i := 125) rfl) rfl) (mg_2 (List.mem_of_getElem? (i := 126) rfl) rfl) rfl c_X6_clear (b_X6_init_138))) (sx_aload_n dX6_init_115 rfl (sx_getR dX6_init_116 fl_FootQuarrel_Street_25 (fun _ _ _ => rfl) (sx_iload_n dX6_init_119 rfl (sx_new dX6_init_120 ck_3 (mg_1 (List.mem_of_getElem? (i := 161) rfl) rfl) (mg_2 (List.mem_of_getElem? (i := 83) rfl) rfl) (mg_1 (List.mem_of_getElem? (i := 13) rfl) rfl) (by decide) (sx_dupR dX6_init_123 (sx_icallN dX6_init_124 cf_X3_init (by decide) (mg_2 (List.mem_of_getElem? (i := 85) rfl) rfl) rfl c_X3_init (b_X6_init_127)))))))))
def B_X6_init_100 (l : Launch) (G : GT) (D mc ms : Nat) (Q : Post) : Cn := ix_aast 17 2 (ix_iinc 1 1 (fqAt l G M_X6_init (D + 3) mc ms Q 82))
theorem b_X6_init_100 {l : Launch} {G : GT} {D mc ms : Nat} {Q : Post} : Imp l G M_X6_init (D + 3) mc ms Q (B_X6_init_100 l G D mc ms Q) 100 := sx_aast dX6_init_100 rfl (by decide) (by decide) rfl (sx_iinc dX6_init_101 rfl (by decide) (sx_goto 82 dX6_init_104 (by decide) ((fun _ _ _ _ _ _ _ _ h => h))))
def B_X6_init_82 (l : Launch) (G : GT) (D mc ms : Nat) (Q : Post) : Cn := ix_iload 1 (ix_pushI 8 (ix_icmp_ge (ix_pushI 0 (ix_istore 1 (fqAt l G M_X6_init (D + 3) mc ms Q 109))) (ix_aload 0 (ix_getR 6 1 (ix_iload 1 (ix_new 2 8 mc ms (ix_dupR (ix_icall 1 0 0 mc ms (sp_X2_init G) ((B_X6_init_100 l G D mc ms Q))))))))))
theorem b_X6_init_82 {l : Launch} {G : GT} {D mc ms : Nat} {Q : Post} : Imp l G M_X6_init (D + 3) mc ms Q (B_X6_init_82 l G D mc ms Q) 82 := sx_iload_n dX6_init_82 rfl (sx_bipush dX6_init_83 rfl (sx_icmp_ge 107 dX6_init_85 (by decide) (sx_iconst dX6_init_107 rfl (sx_istore_n dX6_init_108 rfl (by decide) ((fun _ _ _ _ _ _ _ _ h => h)))) (sx_aload_n dX6_init_88 rfl (sx_getR dX6_init_89 fl_FootQuarrel_Street_19 (fun _ _ _ => rfl) (sx_iload_n dX6_init_92 rfl (sx_new dX6_init_93 ck_2 (mg_1 (List.mem_of_getElem? (i := 159) rfl) rfl) (mg_1 (List.mem_of_getElem? (i := 228) rfl) rfl) (mg_1 (List.mem_of_getElem? (i := 11) rfl) rfl) (by decide) (sx_dupR dX6_init_96 (sx_icallN dX6_init_97 cf_X2_init (by decide) (mg_1 (List.mem_of_getElem? (i := 230) rfl) rfl) rfl c_X2_init (b_X6_init_100)))))))))
def B_X6_init_73 (l : Launch) (G : GT) (D mc ms : Nat) (Q : Post) : Cn := ix_aast 16 0 (ix_iinc 1 1 (fqAt l G M_X6_init (D + 3) mc ms Q 55))
theorem b_X6_init_73 {l : Launch} {G : GT} {D mc ms : Nat} {Q : Post} : Imp l G M_X6_init (D + 3) mc ms Q (B_X6_init_73 l G D mc ms Q) 73 := sx_aast dX6_init_73 rfl (by decide) (by decide) rfl (sx_iinc dX6_init_74 rfl (by decide) (sx_goto 55 dX6_init_77 (by decide) ((fun _ _ _ _ _ _ _ _ h => h))))
def B_X6_init_55 (l : Launch) (G : GT) (D mc ms : Nat) (Q : Post) : Cn := ix_iload 1 (ix_pushI 6 (ix_icmp_ge (ix_pushI 0 (ix_istore 1 (fqAt l G M_X6_init (D + 3) mc ms Q 82))) (ix_aload 0 (ix_getR 6 0 (ix_iload 1 (ix_new 0 4 mc ms (ix_dupR (ix_icall 1 0 0 mc ms (sp_X0_init G) ((B_X6_init_73 l G D mc ms Q))))))))))
theorem b_X6_init_55 {l : Launch} {G : GT} {D mc ms : Nat} {Q : Post} : Imp l G M_X6_init (D + 3) mc ms Q (B_X6_init_55 l G D mc ms Q) 55 := sx_iload_n dX6_init_55 rfl (sx_bipush dX6_init_56 rfl (sx_icmp_ge 80 dX6_init_58 (by decide) (sx_iconst dX6_init_80 rfl (sx_istore_n dX6_init_81 rfl (by decide) ((fun _ _ _ _ _ _ _ _ h => h)))) (sx_aload_n dX6_init_61 rfl (sx_getR dX6_init_62 fl_FootQuarrel_Street_11 (fun _ _ _ => rfl) (sx_iload_n dX6_init_65 rfl (sx_new dX6_init_66 ck_0 (mg_1 (List.mem_of_getElem? (i := 157) rfl) rfl) (mg_2 (List.mem_of_getElem? (i := 56) rfl) rfl) (mg_1 (List.mem_of_getElem? (i := 12) rfl) rfl) (by decide) (sx_dupR dX6_init_69 (sx_icallN dX6_init_70 cf_X0_init (by decide) (mg_2 (List.mem_of_getElem? (i := 58) rfl) rfl) rfl c_X0_init (b_X6_init_73)))))))))
def B_X6_init_50 (l : Launch) (G : GT) (D mc ms : Nat) (Q : Post) : Cn := ix_putR 6 4 (ix_pushI 0 (ix_istore 1 (fqAt l G M_X6_init (D + 3) mc ms Q 55)))
theorem b_X6_init_50 {l : Launch} {G : GT} {D mc ms : Nat} {Q : Post} : Imp l G M_X6_init (D + 3) mc ms Q (B_X6_init_50 l G D mc ms Q) 50 := sx_putR dX6_init_50 fl_FootQuarrel_Street_39 (fun _ => ⟨rfl, rfl⟩) (by decide) (fun _ _ _ => rfl) (fun _ => ⟨rfl, rfl⟩) (sx_iconst dX6_init_53 rfl (sx_istore_n dX6_init_54 rfl (by decide) ((fun _ _ _ _ _ _ _ _ h => h))))
def B_X6_init_39 (l : Launch) (G : GT) (D mc ms : Nat) (Q : Post) : Cn := ix_putR 6 3 (ix_aload 0 (ix_new 5 5 mc ms (ix_dupR (ix_icall 1 5 22 mc ms (sp_X5_init G) ((B_X6_init_50 l G D mc ms Q))))))
theorem b_X6_init_39 {l : Launch} {G : GT} {D mc ms : Nat} {Q : Post} : Imp l G M_X6_init (D + 3) mc ms Q (B_X6_init_39 l G D mc ms Q) 39 := sx_putR dX6_init_39 fl_FootQuarrel_Street_32 (fun _ => ⟨rfl, rfl⟩) (by decide) (fun _ _ _ => rfl) (fun _ => ⟨rfl, rfl⟩) (sx_aload_n dX6_init_42 rfl (sx_new dX6_init_43 ck_5 (mg_1 (List.mem_of_getElem? (i := 221) rfl) rfl) (mg_1 (List.mem_of_getElem? (i := 222) rfl) rfl) (mg_1 (List.mem_of_getElem? (i := 10) rfl) rfl) (by decide) (sx_dupR dX6_init_46 (sx_icallN dX6_init_47 cf_X5_init (by decide) (mg_1 (List.mem_of_getElem? (i := 224) rfl) rfl) rfl c_X5_init (b_X6_init_50)))))
def B_X6_init_0 (l : Launch) (G : GT) (D mc ms : Nat) (Q : Post) : Cn := ix_aload 0 (ix_oinit (ix_aload 0 (ix_pushI 6 (ix_newa 16 mc ms (ix_putR 6 0 (ix_aload 0 (ix_pushI 8 (ix_newa 17 mc ms (ix_putR 6 1 (ix_aload 0 (ix_pushI 20 (ix_newa 18 mc ms (ix_putR 6 2 (ix_aload 0 (ix_new 9 10 mc ms (ix_dupR (ix_icall 1 7 420 mc ms (sp_X9_init G) ((B_X6_init_39 l G D mc ms Q)))))))))))))))))))
theorem b_X6_init_0 {l : Launch} {G : GT} {D mc ms : Nat} {Q : Post} : Imp l G M_X6_init (D + 3) mc ms Q (B_X6_init_0 l G D mc ms Q) 0 := sx_aload_n dX6_init_0 rfl (sx_oinit dX6_init_1 (mg_1 (List.mem_of_getElem? (i := 156) rfl) rfl) (mg_1 (List.mem_of_getElem? (i := 27) rfl) rfl) (mg_1 (List.mem_of_getElem? (i := 28) rfl) rfl) (sx_aload_n dX6_init_4 rfl (sx_bipush dX6_init_5 rfl (sx_anewa dX6_init_7 rfl (by decide) (by decide) (mg_1 (List.mem_of_getElem? (i := 157) rfl) rfl) (by decide) (sx_putR dX6_init_10 fl_FootQuarrel_Street_11 (fun _ => ⟨rfl, rfl⟩) (by decide) (fun _ _ _ => rfl) (fun _ => ⟨rfl, rfl⟩) (sx_aload_n dX6_init_13 rfl (sx_bipush dX6_init_14 rfl (sx_anewa dX6_init_16 rfl (by decide) (by decide) (mg_1 (List.mem_of_getElem? (i := 159) rfl) rfl) (by decide) (sx_putR dX6_init_19 fl_FootQuarrel_Street_19 (fun _ => ⟨rfl, rfl⟩) (by decide) (fun _ _ _ => rfl) (fun _ => ⟨rfl, rfl⟩) (sx_aload_n dX6_init_22 rfl (sx_bipush dX6_init_23 rfl (sx_anewa dX6_init_25 rfl (by decide) (by decide) (mg_1 (List.mem_of_getElem? (i := 161) rfl) rfl) (by decide) (sx_putR dX6_init_28 fl_FootQuarrel_Street_25 (fun _ => ⟨rfl, rfl⟩) (by decide) (fun _ _ _ => rfl) (fun _ => ⟨rfl, rfl⟩) (sx_aload_n dX6_init_31 rfl (sx_new dX6_init_32 ck_9 (mg_1 (List.mem_of_getElem? (i := 163) rfl) rfl) (mg_1 (List.mem_of_getElem? (i := 164) rfl) rfl) (mg_1 (List.mem_of_getElem? (i := 9) rfl) rfl) (by decide) (sx_dupR dX6_init_35 (sx_icallN dX6_init_36 cf_X9_init (by decide) (mg_1 (List.mem_of_getElem? (i := 166) rfl) rfl) rfl c_X9_init (b_X6_init_39))))))))))))))))))
def sp_X6_init (G : GT) : Sp := fun as S I J z Q => match as with
  | [.ref a] => ∃ (t : Nat), t = a ∧ S.1 t = 6 ∧ t + 1 = z ∧ (∀ k, I t k = 0) ∧ (∀ k, J t k = 0) ∧ ∀ S' I' J', (∀ b, b < t → S'.1 b = S.1 b ∧ S'.2.1 b = S.2.1 b ∧ S'.2.2 b = S.2.2 b ∧ I' b = I b ∧ J' b = J b) → stS S' t → stN I' J' t → Q none S' I' J' (z + 51)
  | _ => False
set_option maxHeartbeats 4000000 in
set_option maxRecDepth 20000 in
theorem c_X6_init {l : Launch} {G : GT} {D : Nat} : ∀ as S I J z Q, sp_X6_init G as S I J z Q → fqCall l G M_X6_init (D + 3) 51 719 as S I J z Q := by
  intro as S I J z Q h
  unfold sp_X6_init at h
  split at h
  · next a =>
    obtain ⟨t, rfl, h1, rfl, hI, hJ, hQ⟩ := h
    have hQ' : ∀ S' I' J', (∀ b, b < t → S'.1 b = S.1 b ∧ S'.2.1 b = S.2.1 b ∧ S'.2.2 b = S.2.2 b ∧ I' b = I b ∧ J' b = J b) → stS S' t → stN I' J' t → Q none S' I' J' (t + 52) := hQ
    -- quarrels
    have c3 : ∀ (n i : Nat) (S1 : Sh) (I1 : IH) (J1 : JH), i + n = 20 → fr0 t (t + 32 + i) S S1 I I1 J J1 → sfS S1 t → (∀ i, i < 6 → S1.2.2 (t + 1) i = some (t + 18 + i) ∧ S1.1 (t + 18 + i) = 0) → (∀ i, i < 8 → S1.2.2 (t + 2) i = some (t + 24 + i) ∧ S1.1 (t + 24 + i) = 2) → (∀ j, j < i → S1.2.2 (t + 3) j = some (t + 32 + j) ∧ S1.1 (t + 32 + j) = 3) → fqAt l G M_X6_init (D + 3) 51 719 Q 109 [some (.ref t), some (.int (nI i))] [] S1 I1 J1 (t + 32 + i) (31 + i) (579 + 7 * i) := by
      intro n
      induction n with
      | zero =>
        intro i S1 I1 J1 hi hf hs w1 w2 w3
        have : i = 20 := by omega
        subst this
        have hS := stS_of hs w1 w2 w3
        refine b_X6_init_109 _ _ _ _ _ _ _ _ ?_
        simp (disch := omega) only [B_X6_init_109, B_X6_init_138, sp_X6_clear, B_X6_clear_0, sp_X9_clear, B_X9_clear_0, li_20, hS.k, hS.r0, hS.k1, hS.r1, hS.k2, hS.r2, hS.k3, hS.r3, hS.k4, hS.r4, hS.k12, hS.n1, hS.n2, hS.n3, hS.y0, hS.k5, hS.n5, hS.y1, hS.k6, hS.n6, hS.y2, hS.k7, hS.n7, hS.y3, hS.k8, hS.n8, hS.y4, hS.k9, hS.n9, hS.y5, hS.k10, hS.n10, hS.y6, hS.k11, hS.n11, hS.p0, hS.p1, hS.p2, hS.k13, hS.n13, hS.q0, hS.q1, hS.k14, hS.k15, hS.k16, hS.n16, hS.k17, hS.n17, hS.rH, hS.kH, hS.rP, hS.kP, hS.rQ, hS.kQ, nI_1, nI_add, nI_clamp, nI_pin, nI_neg, nI_nonneg, nI_leE, nI_ltE, nI_eqE, Nat.not_le, Nat.not_lt, fq_10, fq_01, fq_rr, ix_aald, ix_aast, ix_abs, ix_alen, ix_aload, ix_aret, ix_astore, ix_bald, ix_bast, ix_call, ix_cpyI, ix_cpyJ, ix_dead, ix_dup2, ix_dup2L, ix_dupI, ix_dupR, ix_dupx1, ix_getI, ix_getJ, ix_getR, ix_gfm, ix_gtab, ix_i2b, ix_i2c, ix_i2l, ix_i2s, ix_iadd, ix_iald, ix_iand, ix_iast, ix_icall, ix_icmp_eq, ix_icmp_ge, ix_icmp_gt, ix_icmp_le, ix_icmp_lt, ix_icmp_ne, ix_idiv, ix_if_eq, ix_if_ge, ix_if_gt, ix_if_le, ix_if_lt, ix_if_ne, ix_iinc, ix_iload, ix_imul, ix_ineg, ix_ior, ix_irem, ix_iret, ix_ishl, ix_ishr, ix_istore, ix_isub, ix_iushr, ix_ixor, ix_l2i, ix_ladd, ix_lald, ix_land, ix_last, ix_lcmp, ix_ldcS, ix_ldiv, ix_lload, ix_lmul, ix_lor, ix_lrem, ix_lret, ix_lshl, ix_lstore, ix_lsub, ix_lsw, ix_max, ix_min, ix_new, ix_newa, ix_nret, ix_oinit, ix_pop2L, ix_popI, ix_pushI, ix_pushL, ix_putI, ix_putJ, ix_putR, ix_putZ, ix_sbald, ix_sgetC, ix_sgetV, ix_slen, ix_strc, ix_tald, ix_tsw, ix_vcall, ix_vret, ix_zret, stL, stL2, kilL, popN, fq_sw, fq_lsw, List.map_cons, List.map_nil, List.getElem?_cons_zero, List.getElem?_cons_succ, Option.toList_some, Option.toList_none, List.cons_append, List.nil_append, List.length_cons, List.length_nil, List.sum_cons, List.sum_nil, cat_i, cat_l, cat_r, true_and, and_true, Nat.zero_add, Nat.add_zero, Nat.le_refl, Nat.zero_le, Nat.reduceAdd, Nat.reduceLeDiff, exists_eq_left', Option.some.injEq, not_true_eq_false, not_false_eq_true, false_implies, true_implies, implies_true, and_self, or_true, true_or, or_false, false_or]
        refine hQ' _ _ _ (fun b hb => ?_) hS ⟨fun b q1 q2 k => ?_, fun b q1 q2 k => (hf.2 b q1 (by omega)).2 k⟩
        · obtain ⟨x1, x2, x3, x4, x5⟩ := hf.1 b hb
          exact ⟨x1, x2, x3, by simp (disch := omega) only [u2_ne]; exact x4, x5⟩
        · have z0 := (hf.2 b q1 (by omega)).1 k
          by_cases g : b = t
          · subst g
            by_cases hk : k < 5 ∨ 16 < k
            · simp (disch := omega) only [u2_ck, u2_ca]
              rw [z0, if_neg (by omega), if_neg (by omega), if_neg (by omega)]
            · rcases (show k = 5 ∨ k = 6 ∨ k = 7 ∨ k = 8 ∨ k = 9 ∨ k = 10 ∨ k = 11 ∨ k = 12 ∨ k = 13 ∨ k = 14 ∨ k = 15 ∨ k = 16 by omega) with rfl | rfl | rfl | rfl | rfl | rfl | rfl | rfl | rfl | rfl | rfl | rfl <;> (simp (disch := omega) only [u2_same, u2_ck, u2_ca]; simp)
          · rw [if_neg (by omega), if_neg (by omega), if_neg (by omega)]
            by_cases g4 : b = t + 4
            · subst g4
              rcases (show k = 7 ∨ k = 8 ∨ k = 9 ∨ (k < 7 ∨ 9 < k) by omega) with rfl | rfl | rfl | hk
              · simp (disch := omega) only [u2_same, u2_ck]
              · simp (disch := omega) only [u2_same, u2_ck]
              · simp (disch := omega) only [u2_same, u2_ck]
              · simp (disch := omega) only [u2_ck, u2_ca]
                exact z0
            · simp (disch := omega) only [u2_ne]
              exact z0
      | succ n ih =>
        intro i S1 I1 J1 hi hf hs w1 w2 w3
        have hs0 := hs
        obtain ⟨k6, r0, k16, r1, k17, r2, k18, -, -, -, -, n6, n8, n20, -⟩ := hs
        refine b_X6_init_109 _ _ _ _ _ _ _ _ ?_
        simp (disch := omega) only [B_X6_init_109, B_X6_init_127, sp_X3_init, B_X3_init_0, k6, r2, k18, n20, up1_ne, up1_eq, li_20, nI_1, nI_add, nI_clamp, nI_pin, nI_neg, nI_nonneg, nI_leE, nI_ltE, nI_eqE, Nat.not_le, Nat.not_lt, fq_10, fq_01, fq_rr, ix_aald, ix_aast, ix_abs, ix_alen, ix_aload, ix_aret, ix_astore, ix_bald, ix_bast, ix_call, ix_cpyI, ix_cpyJ, ix_dead, ix_dup2, ix_dup2L, ix_dupI, ix_dupR, ix_dupx1, ix_getI, ix_getJ, ix_getR, ix_gfm, ix_gtab, ix_i2b, ix_i2c, ix_i2l, ix_i2s, ix_iadd, ix_iald, ix_iand, ix_iast, ix_icall, ix_icmp_eq, ix_icmp_ge, ix_icmp_gt, ix_icmp_le, ix_icmp_lt, ix_icmp_ne, ix_idiv, ix_if_eq, ix_if_ge, ix_if_gt, ix_if_le, ix_if_lt, ix_if_ne, ix_iinc, ix_iload, ix_imul, ix_ineg, ix_ior, ix_irem, ix_iret, ix_ishl, ix_ishr, ix_istore, ix_isub, ix_iushr, ix_ixor, ix_l2i, ix_ladd, ix_lald, ix_land, ix_last, ix_lcmp, ix_ldcS, ix_ldiv, ix_lload, ix_lmul, ix_lor, ix_lrem, ix_lret, ix_lshl, ix_lstore, ix_lsub, ix_lsw, ix_max, ix_min, ix_new, ix_newa, ix_nret, ix_oinit, ix_pop2L, ix_popI, ix_pushI, ix_pushL, ix_putI, ix_putJ, ix_putR, ix_putZ, ix_sbald, ix_sgetC, ix_sgetV, ix_slen, ix_strc, ix_tald, ix_tsw, ix_vcall, ix_vret, ix_zret, stL, stL2, kilL, popN, fq_sw, fq_lsw, List.map_cons, List.map_nil, List.getElem?_cons_zero, List.getElem?_cons_succ, Option.toList_some, Option.toList_none, List.cons_append, List.nil_append, List.length_cons, List.length_nil, List.sum_cons, List.sum_nil, cat_i, cat_l, cat_r, true_and, and_true, Nat.zero_add, Nat.add_zero, Nat.le_refl, Nat.zero_le, Nat.reduceAdd, Nat.reduceLeDiff, exists_eq_left', Option.some.injEq, not_true_eq_false, not_false_eq_true, false_implies, true_implies, implies_true, and_self, or_true, true_or, or_false, false_or]
        refine ⟨fun q => absurd q (by omega), fun _ => ?_⟩
        have e3 : ∀ b, b ≠ t + 32 + i → b ≠ t + 3 → u2 (up1 S1.2.2 (t + 32 + i) fun _ => none) (t + 3) i (some (t + 32 + i)) b = S1.2.2 b := fun b q1 q2 => by rw [u2_ne q2, up1_ne q1]
        have := ih (i + 1) (up1 S1.1 (t + 32 + i) 3, S1.2.1, u2 (up1 S1.2.2 (t + 32 + i) fun _ => none) (t + 3) i (some (t + 32 + i))) (up1 I1 (t + 32 + i) fun _ => 0) (up1 J1 (t + 32 + i) fun _ => 0) (by omega) (hf.nw (by omega) (fun b hb => e3 b (by omega) (by omega))) (hs0.mv (fun b q1 q2 => ⟨up1_ne (by omega), rfl⟩) (fun b q1 q2 q3 q4 q5 => e3 b (by omega) (by omega))) (fun j hj => ?_) (fun j hj => ?_) (fun j hj => ?_)
        · exact ⟨by omega, by omega, by omega, by omega, this⟩
        · dsimp only
          rw [e3 _ (by omega) (by omega), up1_ne (by omega)]
          exact w1 j hj
        · dsimp only
          rw [e3 _ (by omega) (by omega), up1_ne (by omega)]
          exact w2 j hj
        · dsimp only
          by_cases q : j = i
          · subst q
            rw [u2_same, up1_eq]
            exact ⟨rfl, rfl⟩
          · rw [u2_ck _ _ _ _ _ _ q, up1_ne (by omega), up1_ne (by omega)]
            exact w3 j (by omega)
    have c2 : ∀ (n i : Nat) (S1 : Sh) (I1 : IH) (J1 : JH), i + n = 8 → fr0 t (t + 24 + i) S S1 I I1 J J1 → sfS S1 t → (∀ i, i < 6 → S1.2.2 (t + 1) i = some (t + 18 + i) ∧ S1.1 (t + 18 + i) = 0) → (∀ j, j < i → S1.2.2 (t + 2) j = some (t + 24 + j) ∧ S1.1 (t + 24 + j) = 2) → fqAt l G M_X6_init (D + 3) 51 719 Q 82 [some (.ref t), some (.int (nI i))] [] S1 I1 J1 (t + 24 + i) (23 + i) (515 + 8 * i) := by
      intro n
      induction n with
      | zero =>
        intro i S1 I1 J1 hi hf hs w1 w2
        have : i = 8 := by omega
        subst this
        refine b_X6_init_82 _ _ _ _ _ _ _ _ ?_
        simp (disch := omega) only [B_X6_init_82, li_8, nI_1, nI_add, nI_clamp, nI_pin, nI_neg, nI_nonneg, nI_leE, nI_ltE, nI_eqE, Nat.not_le, Nat.not_lt, fq_10, fq_01, fq_rr, ix_aald, ix_aast, ix_abs, ix_alen, ix_aload, ix_aret, ix_astore, ix_bald, ix_bast, ix_call, ix_cpyI, ix_cpyJ, ix_dead, ix_dup2, ix_dup2L, ix_dupI, ix_dupR, ix_dupx1, ix_getI, ix_getJ, ix_getR, ix_gfm, ix_gtab, ix_i2b, ix_i2c, ix_i2l, ix_i2s, ix_iadd, ix_iald, ix_iand, ix_iast, ix_icall, ix_icmp_eq, ix_icmp_ge, ix_icmp_gt, ix_icmp_le, ix_icmp_lt, ix_icmp_ne, ix_idiv, ix_if_eq, ix_if_ge, ix_if_gt, ix_if_le, ix_if_lt, ix_if_ne, ix_iinc, ix_iload, ix_imul, ix_ineg, ix_ior, ix_irem, ix_iret, ix_ishl, ix_ishr, ix_istore, ix_isub, ix_iushr, ix_ixor, ix_l2i, ix_ladd, ix_lald, ix_land, ix_last, ix_lcmp, ix_ldcS, ix_ldiv, ix_lload, ix_lmul, ix_lor, ix_lrem, ix_lret, ix_lshl, ix_lstore, ix_lsub, ix_lsw, ix_max, ix_min, ix_new, ix_newa, ix_nret, ix_oinit, ix_pop2L, ix_popI, ix_pushI, ix_pushL, ix_putI, ix_putJ, ix_putR, ix_putZ, ix_sbald, ix_sgetC, ix_sgetV, ix_slen, ix_strc, ix_tald, ix_tsw, ix_vcall, ix_vret, ix_zret, stL, stL2, kilL, popN, fq_sw, fq_lsw, List.map_cons, List.map_nil, List.getElem?_cons_zero, List.getElem?_cons_succ, Option.toList_some, Option.toList_none, List.cons_append, List.nil_append, List.length_cons, List.length_nil, List.sum_cons, List.sum_nil, cat_i, cat_l, cat_r, true_and, and_true, Nat.zero_add, Nat.add_zero, Nat.le_refl, Nat.zero_le, Nat.reduceAdd, Nat.reduceLeDiff, exists_eq_left', Option.some.injEq, not_true_eq_false, not_false_eq_true, false_implies, true_implies, implies_true, and_self, or_true, true_or, or_false, false_or]
        exact c3 20 0 S1 I1 J1 rfl hf hs w1 w2 (fun j hj => absurd hj (Nat.not_lt_zero _))
      | succ n ih =>
        intro i S1 I1 J1 hi hf hs w1 w2
        have hs0 := hs
        obtain ⟨k6, r0, k16, r1, k17, r2, k18, -, -, -, -, n6, n8, n20, -⟩ := hs
        refine b_X6_init_82 _ _ _ _ _ _ _ _ ?_
        simp (disch := omega) only [B_X6_init_82, B_X6_init_100, sp_X2_init, B_X2_init_0, k6, r1, k17, n8, up1_ne, up1_eq, li_8, nI_1, nI_add, nI_clamp, nI_pin, nI_neg, nI_nonneg, nI_leE, nI_ltE, nI_eqE, Nat.not_le, Nat.not_lt, fq_10, fq_01, fq_rr, ix_aald, ix_aast, ix_abs, ix_alen, ix_aload, ix_aret, ix_astore, ix_bald, ix_bast, ix_call, ix_cpyI, ix_cpyJ, ix_dead, ix_dup2, ix_dup2L, ix_dupI, ix_dupR, ix_dupx1, ix_getI, ix_getJ, ix_getR, ix_gfm, ix_gtab, ix_i2b, ix_i2c, ix_i2l, ix_i2s, ix_iadd, ix_iald, ix_iand, ix_iast, ix_icall, ix_icmp_eq, ix_icmp_ge, ix_icmp_gt, ix_icmp_le, ix_icmp_lt, ix_icmp_ne, ix_idiv, ix_if_eq, ix_if_ge, ix_if_gt, ix_if_le, ix_if_lt, ix_if_ne, ix_iinc, ix_iload, ix_imul, ix_ineg, ix_ior, ix_irem, ix_iret, ix_ishl, ix_ishr, ix_istore, ix_isub, ix_iushr, ix_ixor, ix_l2i, ix_ladd, ix_lald, ix_land, ix_last, ix_lcmp, ix_ldcS, ix_ldiv, ix_lload, ix_lmul, ix_lor, ix_lrem, ix_lret, ix_lshl, ix_lstore, ix_lsub, ix_lsw, ix_max, ix_min, ix_new, ix_newa, ix_nret, ix_oinit, ix_pop2L, ix_popI, ix_pushI, ix_pushL, ix_putI, ix_putJ, ix_putR, ix_putZ, ix_sbald, ix_sgetC, ix_sgetV, ix_slen, ix_strc, ix_tald, ix_tsw, ix_vcall, ix_vret, ix_zret, stL, stL2, kilL, popN, fq_sw, fq_lsw, List.map_cons, List.map_nil, List.getElem?_cons_zero, List.getElem?_cons_succ, Option.toList_some, Option.toList_none, List.cons_append, List.nil_append, List.length_cons, List.length_nil, List.sum_cons, List.sum_nil, cat_i, cat_l, cat_r, true_and, and_true, Nat.zero_add, Nat.add_zero, Nat.le_refl, Nat.zero_le, Nat.reduceAdd, Nat.reduceLeDiff, exists_eq_left', Option.some.injEq, not_true_eq_false, not_false_eq_true, false_implies, true_implies, implies_true, and_self, or_true, true_or, or_false, false_or]
        refine ⟨fun q => absurd q (by omega), fun _ => ?_⟩
        have e3 : ∀ b, b ≠ t + 24 + i → b ≠ t + 2 → u2 (up1 S1.2.2 (t + 24 + i) fun _ => none) (t + 2) i (some (t + 24 + i)) b = S1.2.2 b := fun b q1 q2 => by rw [u2_ne q2, up1_ne q1]
        have := ih (i + 1) (up1 S1.1 (t + 24 + i) 2, S1.2.1, u2 (up1 S1.2.2 (t + 24 + i) fun _ => none) (t + 2) i (some (t + 24 + i))) (up1 I1 (t + 24 + i) fun _ => 0) (up1 J1 (t + 24 + i) fun _ => 0) (by omega) (hf.nw (by omega) (fun b hb => e3 b (by omega) (by omega))) (hs0.mv (fun b q1 q2 => ⟨up1_ne (by omega), rfl⟩) (fun b q1 q2 q3 q4 q5 => e3 b (by omega) (by omega))) (fun j hj => ?_) (fun j hj => ?_)
        · exact ⟨by omega, by omega, by omega, by omega, this⟩
        · dsimp only
          rw [e3 _ (by omega) (by omega), up1_ne (by omega)]
          exact w1 j hj
        · dsimp only
          by_cases q : j = i
          · subst q
            rw [u2_same, up1_eq]
            exact ⟨rfl, rfl⟩
          · rw [u2_ck _ _ _ _ _ _ q, up1_ne (by omega), up1_ne (by omega)]
            exact w2 j (by omega)
    have c1 : ∀ (n i : Nat) (S1 : Sh) (I1 : IH) (J1 : JH), i + n = 6 → fr0 t (t + 18 + i) S S1 I I1 J J1 → sfS S1 t → (∀ j, j < i → S1.2.2 (t + 1) j = some (t + 18 + j) ∧ S1.1 (t + 18 + j) = 0) → fqAt l G M_X6_init (D + 3) 51 719 Q 55 [some (.ref t), some (.int (nI i))] [] S1 I1 J1 (t + 18 + i) (17 + i) (491 + 4 * i) := by
      intro n
      induction n with
      | zero =>
        intro i S1 I1 J1 hi hf hs w1
        have : i = 6 := by omega
        subst this
        refine b_X6_init_55 _ _ _ _ _ _ _ _ ?_
        simp (disch := omega) only [B_X6_init_55, li_6, nI_1, nI_add, nI_clamp, nI_pin, nI_neg, nI_nonneg, nI_leE, nI_ltE, nI_eqE, Nat.not_le, Nat.not_lt, fq_10, fq_01, fq_rr, ix_aald, ix_aast, ix_abs, ix_alen, ix_aload, ix_aret, ix_astore, ix_bald, ix_bast, ix_call, ix_cpyI, ix_cpyJ, ix_dead, ix_dup2, ix_dup2L, ix_dupI, ix_dupR, ix_dupx1, ix_getI, ix_getJ, ix_getR, ix_gfm, ix_gtab, ix_i2b, ix_i2c, ix_i2l, ix_i2s, ix_iadd, ix_iald, ix_iand, ix_iast, ix_icall, ix_icmp_eq, ix_icmp_ge, ix_icmp_gt, ix_icmp_le, ix_icmp_lt, ix_icmp_ne, ix_idiv, ix_if_eq, ix_if_ge, ix_if_gt, ix_if_le, ix_if_lt, ix_if_ne, ix_iinc, ix_iload, ix_imul, ix_ineg, ix_ior, ix_irem, ix_iret, ix_ishl, ix_ishr, ix_istore, ix_isub, ix_iushr, ix_ixor, ix_l2i, ix_ladd, ix_lald, ix_land, ix_last, ix_lcmp, ix_ldcS, ix_ldiv, ix_lload, ix_lmul, ix_lor, ix_lrem, ix_lret, ix_lshl, ix_lstore, ix_lsub, ix_lsw, ix_max, ix_min, ix_new, ix_newa, ix_nret, ix_oinit, ix_pop2L, ix_popI, ix_pushI, ix_pushL, ix_putI, ix_putJ, ix_putR, ix_putZ, ix_sbald, ix_sgetC, ix_sgetV, ix_slen, ix_strc, ix_tald, ix_tsw, ix_vcall, ix_vret, ix_zret, stL, stL2, kilL, popN, fq_sw, fq_lsw, List.map_cons, List.map_nil, List.getElem?_cons_zero, List.getElem?_cons_succ, Option.toList_some, Option.toList_none, List.cons_append, List.nil_append, List.length_cons, List.length_nil, List.sum_cons, List.sum_nil, cat_i, cat_l, cat_r, true_and, and_true, Nat.zero_add, Nat.add_zero, Nat.le_refl, Nat.zero_le, Nat.reduceAdd, Nat.reduceLeDiff, exists_eq_left', Option.some.injEq, not_true_eq_false, not_false_eq_true, false_implies, true_implies, implies_true, and_self, or_true, true_or, or_false, false_or]
        exact c2 8 0 S1 I1 J1 rfl hf hs w1 (fun j hj => absurd hj (Nat.not_lt_zero _))
      | succ n ih =>
        intro i S1 I1 J1 hi hf hs w1
        have hs0 := hs
        obtain ⟨k6, r0, k16, r1, k17, r2, k18, -, -, -, -, n6, n8, n20, -⟩ := hs
        refine b_X6_init_55 _ _ _ _ _ _ _ _ ?_
        simp (disch := omega) only [B_X6_init_55, B_X6_init_73, sp_X0_init, B_X0_init_0, k6, r0, k16, n6, up1_ne, up1_eq, li_6, nI_1, nI_add, nI_clamp, nI_pin, nI_neg, nI_nonneg, nI_leE, nI_ltE, nI_eqE, Nat.not_le, Nat.not_lt, fq_10, fq_01, fq_rr, ix_aald, ix_aast, ix_abs, ix_alen, ix_aload, ix_aret, ix_astore, ix_bald, ix_bast, ix_call, ix_cpyI, ix_cpyJ, ix_dead, ix_dup2, ix_dup2L, ix_dupI, ix_dupR, ix_dupx1, ix_getI, ix_getJ, ix_getR, ix_gfm, ix_gtab, ix_i2b, ix_i2c, ix_i2l, ix_i2s, ix_iadd, ix_iald, ix_iand, ix_iast, ix_icall, ix_icmp_eq, ix_icmp_ge, ix_icmp_gt, ix_icmp_le, ix_icmp_lt, ix_icmp_ne, ix_idiv, ix_if_eq, ix_if_ge, ix_if_gt, ix_if_le, ix_if_lt, ix_if_ne, ix_iinc, ix_iload, ix_imul, ix_ineg, ix_ior, ix_irem, ix_iret, ix_ishl, ix_ishr, ix_istore, ix_isub, ix_iushr, ix_ixor, ix_l2i, ix_ladd, ix_lald, ix_land, ix_last, ix_lcmp, ix_ldcS, ix_ldiv, ix_lload, ix_lmul, ix_lor, ix_lrem, ix_lret, ix_lshl, ix_lstore, ix_lsub, ix_lsw, ix_max, ix_min, ix_new, ix_newa, ix_nret, ix_oinit, ix_pop2L, ix_popI, ix_pushI, ix_pushL, ix_putI, ix_putJ, ix_putR, ix_putZ, ix_sbald, ix_sgetC, ix_sgetV, ix_slen, ix_strc, ix_tald, ix_tsw, ix_vcall, ix_vret, ix_zret, stL, stL2, kilL, popN, fq_sw, fq_lsw, List.map_cons, List.map_nil, List.getElem?_cons_zero, List.getElem?_cons_succ, Option.toList_some, Option.toList_none, List.cons_append, List.nil_append, List.length_cons, List.length_nil, List.sum_cons, List.sum_nil, cat_i, cat_l, cat_r, true_and, and_true, Nat.zero_add, Nat.add_zero, Nat.le_refl, Nat.zero_le, Nat.reduceAdd, Nat.reduceLeDiff, exists_eq_left', Option.some.injEq, not_true_eq_false, not_false_eq_true, false_implies, true_implies, implies_true, and_self, or_true, true_or, or_false, false_or]
        refine ⟨fun q => absurd q (by omega), fun _ => ?_⟩
        have e3 : ∀ b, b ≠ t + 18 + i → b ≠ t + 1 → u2 (up1 S1.2.2 (t + 18 + i) fun _ => none) (t + 1) i (some (t + 18 + i)) b = S1.2.2 b := fun b q1 q2 => by rw [u2_ne q2, up1_ne q1]
        have := ih (i + 1) (up1 S1.1 (t + 18 + i) 0, S1.2.1, u2 (up1 S1.2.2 (t + 18 + i) fun _ => none) (t + 1) i (some (t + 18 + i))) (up1 I1 (t + 18 + i) fun _ => 0) (up1 J1 (t + 18 + i) fun _ => 0) (by omega) (hf.nw (by omega) (fun b hb => e3 b (by omega) (by omega))) (hs0.mv (fun b q1 q2 => ⟨up1_ne (by omega), rfl⟩) (fun b q1 q2 q3 q4 q5 => e3 b (by omega) (by omega))) (fun j hj => ?_)
        · exact ⟨by omega, by omega, by omega, by omega, this⟩
        · dsimp only
          by_cases q : j = i
          · subst q
            rw [u2_same, up1_eq]
            exact ⟨rfl, rfl⟩
          · rw [u2_ck _ _ _ _ _ _ q, up1_ne (by omega), up1_ne (by omega)]
            exact w1 j (by omega)
    refine fq_enter [some (.ref t), none] (by decide +kernel) (Nat.le_of_ble_eq_true rfl) rfl (b_X6_init_0 _ _ _ _ _ _ _ _ ?_)
    simp (disch := omega) only [B_X6_init_0, h1, up1_ne, up1_eq, li_6, li_8, li_20, nI_1, nI_add, nI_clamp, nI_pin, nI_neg, nI_nonneg, nI_leE, nI_ltE, nI_eqE, Nat.not_le, Nat.not_lt, fq_10, fq_01, fq_rr, ix_aald, ix_aast, ix_abs, ix_alen, ix_aload, ix_aret, ix_astore, ix_bald, ix_bast, ix_call, ix_cpyI, ix_cpyJ, ix_dead, ix_dup2, ix_dup2L, ix_dupI, ix_dupR, ix_dupx1, ix_getI, ix_getJ, ix_getR, ix_gfm, ix_gtab, ix_i2b, ix_i2c, ix_i2l, ix_i2s, ix_iadd, ix_iald, ix_iand, ix_iast, ix_icall, ix_icmp_eq, ix_icmp_ge, ix_icmp_gt, ix_icmp_le, ix_icmp_lt, ix_icmp_ne, ix_idiv, ix_if_eq, ix_if_ge, ix_if_gt, ix_if_le, ix_if_lt, ix_if_ne, ix_iinc, ix_iload, ix_imul, ix_ineg, ix_ior, ix_irem, ix_iret, ix_ishl, ix_ishr, ix_istore, ix_isub, ix_iushr, ix_ixor, ix_l2i, ix_ladd, ix_lald, ix_land, ix_last, ix_lcmp, ix_ldcS, ix_ldiv, ix_lload, ix_lmul, ix_lor, ix_lrem, ix_lret, ix_lshl, ix_lstore, ix_lsub, ix_lsw, ix_max, ix_min, ix_new, ix_newa, ix_nret, ix_oinit, ix_pop2L, ix_popI, ix_pushI, ix_pushL, ix_putI, ix_putJ, ix_putR, ix_putZ, ix_sbald, ix_sgetC, ix_sgetV, ix_slen, ix_strc, ix_tald, ix_tsw, ix_vcall, ix_vret, ix_zret, stL, stL2, kilL, popN, fq_sw, fq_lsw, List.map_cons, List.map_nil, List.getElem?_cons_zero, List.getElem?_cons_succ, Option.toList_some, Option.toList_none, List.cons_append, List.nil_append, List.length_cons, List.length_nil, List.sum_cons, List.sum_nil, cat_i, cat_l, cat_r, true_and, and_true, Nat.zero_add, Nat.add_zero, Nat.le_refl, Nat.zero_le, Nat.reduceAdd, Nat.reduceLeDiff, exists_eq_left', Option.some.injEq, not_true_eq_false, not_false_eq_true, false_implies, true_implies, implies_true, and_self, or_true, true_or, or_false, false_or]
    simp only [Nat.add_assoc, Nat.reduceAdd]
    generalize hS0 : ((up1 (up1 (up1 (up1 S.1 (t + 1) 16) (t + 2) 17) (t + 3) 18) (t + 4) 9, up1 (up1 (up1 S.2.1 (t + 1) 6) (t + 2) 8) (t + 3) 20, up1 (u2 (up1 (u2 (up1 (u2 (up1 S.2.2 (t + 1) fun x => none) t 0 (some (t + 1))) (t + 2) fun x => none) t 1 (some (t + 2))) (t + 3) fun x => none) t 2 (some (t + 3))) (t + 4) fun x => none) : Sh) = S0
    generalize hI0 : (up1 (up1 (up1 (up1 I (t + 1) fun x => 0) (t + 2) fun x => 0) (t + 3) fun x => 0) (t + 4) fun x => 0) = I0
    generalize hJ0 : (up1 (up1 (up1 (up1 J (t + 1) fun x => 0) (t + 2) fun x => 0) (t + 3) fun x => 0) (t + 4) fun x => 0) = J0
    have hf0 : fr0 t (t + 5) S S0 I I0 J J0 := by
      rw [← hS0, ← hI0, ← hJ0]
      refine ⟨fun b hb => ⟨?_, ?_, ?_, ?_, ?_⟩, fun b q1 q2 => ?_⟩
      · simp (disch := omega) only [up1_ne]
      · simp (disch := omega) only [up1_ne]
      · simp (disch := omega) only [up1_ne, u2_ne]
      · simp (disch := omega) only [up1_ne]
      · simp (disch := omega) only [up1_ne]
      · rcases (show b = t ∨ b = t + 1 ∨ b = t + 2 ∨ b = t + 3 ∨ b = t + 4 by omega) with rfl | rfl | rfl | rfl | rfl
        · simp (disch := omega) only [up1_ne]
          exact ⟨hI, hJ⟩
        all_goals simp (disch := omega) only [up1_ne, up1_eq, implies_true, and_self]
    have g0 : S0.1 t = 6 ∧ S0.1 (t + 1) = 16 ∧ S0.1 (t + 2) = 17 ∧ S0.1 (t + 3) = 18 ∧ S0.1 (t + 4) = 9 ∧ S0.2.1 (t + 1) = 6 ∧ S0.2.1 (t + 2) = 8 ∧ S0.2.1 (t + 3) = 20 ∧ S0.2.2 t 0 = some (t + 1) ∧ S0.2.2 t 1 = some (t + 2) ∧ S0.2.2 t 2 = some (t + 3) := by
      rw [← hS0]
      simp (disch := omega) only [up1_ne, up1_eq, u2_same, u2_ck, u2_ne, h1, and_self]
    clear hS0 hI0 hJ0
    obtain ⟨v0, v1, v2, v3, v4, v5, v6, v7, v8, v9, v10⟩ := g0
    refine ⟨t + 4, rfl, v4, rfl, fun S1 I1 J1 m1 r1 => ?_⟩
    have f1 := hf0.mk m1 (by omega) (by omega)
    have A0 : ∀ b, b < t + 5 → S1.1 b = S0.1 b := fun b hb => (m1.1 b hb).1
    have A1 : ∀ b, b < t + 5 → S1.2.1 b = S0.2.1 b := fun b hb => (m1.1 b hb).2.1
    have A2 : ∀ b, b < t + 4 → S1.2.2 b = S0.2.2 b := fun b hb => (m1.1 b (by omega)).2.2.1 (by omega)
    have e6 : S1.1 t = 6 := (A0 t (by omega)).trans v0
    have e9 : S1.1 (t + 4) = 9 := (A0 _ (by omega)).trans v4
    simp (disch := omega) only [B_X6_init_39, e6, e9, up1_ne, up1_eq, nI_1, nI_add, nI_clamp, nI_pin, nI_neg, nI_nonneg, nI_leE, nI_ltE, nI_eqE, Nat.not_le, Nat.not_lt, fq_10, fq_01, fq_rr, ix_aald, ix_aast, ix_abs, ix_alen, ix_aload, ix_aret, ix_astore, ix_bald, ix_bast, ix_call, ix_cpyI, ix_cpyJ, ix_dead, ix_dup2, ix_dup2L, ix_dupI, ix_dupR, ix_dupx1, ix_getI, ix_getJ, ix_getR, ix_gfm, ix_gtab, ix_i2b, ix_i2c, ix_i2l, ix_i2s, ix_iadd, ix_iald, ix_iand, ix_iast, ix_icall, ix_icmp_eq, ix_icmp_ge, ix_icmp_gt, ix_icmp_le, ix_icmp_lt, ix_icmp_ne, ix_idiv, ix_if_eq, ix_if_ge, ix_if_gt, ix_if_le, ix_if_lt, ix_if_ne, ix_iinc, ix_iload, ix_imul, ix_ineg, ix_ior, ix_irem, ix_iret, ix_ishl, ix_ishr, ix_istore, ix_isub, ix_iushr, ix_ixor, ix_l2i, ix_ladd, ix_lald, ix_land, ix_last, ix_lcmp, ix_ldcS, ix_ldiv, ix_lload, ix_lmul, ix_lor, ix_lrem, ix_lret, ix_lshl, ix_lstore, ix_lsub, ix_lsw, ix_max, ix_min, ix_new, ix_newa, ix_nret, ix_oinit, ix_pop2L, ix_popI, ix_pushI, ix_pushL, ix_putI, ix_putJ, ix_putR, ix_putZ, ix_sbald, ix_sgetC, ix_sgetV, ix_slen, ix_strc, ix_tald, ix_tsw, ix_vcall, ix_vret, ix_zret, stL, stL2, kilL, popN, fq_sw, fq_lsw, List.map_cons, List.map_nil, List.getElem?_cons_zero, List.getElem?_cons_succ, Option.toList_some, Option.toList_none, List.cons_append, List.nil_append, List.length_cons, List.length_nil, List.sum_cons, List.sum_nil, cat_i, cat_l, cat_r, true_and, and_true, Nat.zero_add, Nat.add_zero, Nat.le_refl, Nat.zero_le, Nat.reduceAdd, Nat.reduceLeDiff, exists_eq_left', Option.some.injEq, not_true_eq_false, not_false_eq_true, false_implies, true_implies, implies_true, and_self, or_true, true_or, or_false, false_or]
    refine ⟨t + 12, rfl, up1_eq, rfl, fun S2 I2 J2 m2 r2 s2 => ?_⟩
    have f2 := ((f1.pr (a := t) (k := 3) (v := some (t + 4)) (by omega)).nw (ci := 5) (R := up1 (u2 S1.2.2 t 3 (some (t + 4))) (t + 12) fun _ => none) (by omega) (fun b hb => up1_ne (by omega))).mk m2 (by omega) (by omega)
    have B0 : ∀ b, b < t + 12 → S2.1 b = S1.1 b := fun b hb => ((m2.1 b (by omega)).1).trans (up1_ne (by omega))
    have B1 : ∀ b, b < t + 12 → S2.2.1 b = S1.2.1 b := fun b hb => (m2.1 b (by omega)).2.1
    have B2 : ∀ b, b < t + 12 → b ≠ t → S2.2.2 b = S1.2.2 b := fun b hb q => by
      rw [(m2.1 b (by omega)).2.2.1 (by omega)]
      show up1 (u2 S1.2.2 t 3 (some (t + 4))) (t + 12) (fun _ => none) b = _
      rw [up1_ne (by omega), u2_ne q]
    have Bt : S2.2.2 t = u2 S1.2.2 t 3 (some (t + 4)) t := by
      rw [(m2.1 t (by omega)).2.2.1 (by omega)]
      show up1 (u2 S1.2.2 t 3 (some (t + 4))) (t + 12) (fun _ => none) t = _
      rw [up1_ne (by omega)]
    have B12 : S2.1 (t + 12) = 5 := ((m2.1 (t + 12) (by omega)).1).trans up1_eq
    have e62 : S2.1 t = 6 := (B0 t (by omega)).trans e6
    simp (disch := omega) only [B_X6_init_50, e62, B12, nI_1, nI_add, nI_clamp, nI_pin, nI_neg, nI_nonneg, nI_leE, nI_ltE, nI_eqE, Nat.not_le, Nat.not_lt, fq_10, fq_01, fq_rr, ix_aald, ix_aast, ix_abs, ix_alen, ix_aload, ix_aret, ix_astore, ix_bald, ix_bast, ix_call, ix_cpyI, ix_cpyJ, ix_dead, ix_dup2, ix_dup2L, ix_dupI, ix_dupR, ix_dupx1, ix_getI, ix_getJ, ix_getR, ix_gfm, ix_gtab, ix_i2b, ix_i2c, ix_i2l, ix_i2s, ix_iadd, ix_iald, ix_iand, ix_iast, ix_icall, ix_icmp_eq, ix_icmp_ge, ix_icmp_gt, ix_icmp_le, ix_icmp_lt, ix_icmp_ne, ix_idiv, ix_if_eq, ix_if_ge, ix_if_gt, ix_if_le, ix_if_lt, ix_if_ne, ix_iinc, ix_iload, ix_imul, ix_ineg, ix_ior, ix_irem, ix_iret, ix_ishl, ix_ishr, ix_istore, ix_isub, ix_iushr, ix_ixor, ix_l2i, ix_ladd, ix_lald, ix_land, ix_last, ix_lcmp, ix_ldcS, ix_ldiv, ix_lload, ix_lmul, ix_lor, ix_lrem, ix_lret, ix_lshl, ix_lstore, ix_lsub, ix_lsw, ix_max, ix_min, ix_new, ix_newa, ix_nret, ix_oinit, ix_pop2L, ix_popI, ix_pushI, ix_pushL, ix_putI, ix_putJ, ix_putR, ix_putZ, ix_sbald, ix_sgetC, ix_sgetV, ix_slen, ix_strc, ix_tald, ix_tsw, ix_vcall, ix_vret, ix_zret, stL, stL2, kilL, popN, fq_sw, fq_lsw, List.map_cons, List.map_nil, List.getElem?_cons_zero, List.getElem?_cons_succ, Option.toList_some, Option.toList_none, List.cons_append, List.nil_append, List.length_cons, List.length_nil, List.sum_cons, List.sum_nil, cat_i, cat_l, cat_r, true_and, and_true, Nat.zero_add, Nat.add_zero, Nat.le_refl, Nat.zero_le, Nat.reduceAdd, Nat.reduceLeDiff, exists_eq_left', Option.some.injEq, not_true_eq_false, not_false_eq_true, false_implies, true_implies, implies_true, and_self, or_true, true_or, or_false, false_or]
    obtain ⟨y00, y01, y02⟩ := r1 0 (by omega)
    obtain ⟨y10, y11, y12⟩ := r1 1 (by omega)
    obtain ⟨y20, y21, y22⟩ := r1 2 (by omega)
    obtain ⟨y30, y31, y32⟩ := r1 3 (by omega)
    obtain ⟨y40, y41, y42⟩ := r1 4 (by omega)
    obtain ⟨y50, y51, y52⟩ := r1 5 (by omega)
    obtain ⟨y60, y61, y62⟩ := r1 6 (by omega)
    obtain ⟨z0, z1, z2⟩ := r2
    obtain ⟨x0, x1, x2, x3, x4, x5, x6, x7, x8, x9⟩ := s2
    simp only [Nat.add_assoc, Nat.reduceAdd] at y00 y01 y02 y10 y11 y12 y20 y21 y22 y30 y31 y32 y40 y41 y42 y50 y51 y52 y60 y61 y62 z0 z1 z2 x0 x1 x2 x3 x4 x5 x6 x7 x8 x9
    refine c1 6 0 _ I2 J2 rfl (f2.pr (by omega)) ?_ (fun j hj => absurd hj (Nat.not_lt_zero _))
    unfold sfS
    simp (disch := omega) only [u2_ne, u2_same, u2_ck, Bt, B0, B1, B2, B12, A0, A1, A2, v0, v1, v2, v3, v4, v5, v6, v7, v8, v9, v10, y00, y01, y02, y10, y11, y12, y20, y21, y22, y30, y31, y32, y40, y41, y42, y50, y51, y52, y60, y61, y62, z0, z1, z2, x0, x1, x2, x3, x4, x5, x6, x7, x8, x9, and_self]
  · exact h.elim
