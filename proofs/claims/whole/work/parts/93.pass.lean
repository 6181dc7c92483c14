/-! a life of the class, against the row: all of it -/
theorem rowA.k {I : IH} {p i : Nat} {R : Nat → Int32} (h : rowA I p i R) : (I (p + 5) i = 22 ↔ R 0 = 20) ∧ (I (p + 5) i = 21 ↔ R 0 = 19) := by
  rcases h with ⟨kd, k1, k2, k3, e0, e5, -⟩ | ⟨e5, t, ht, e0, -⟩
  · rw [e5, e0]
    rcases (show kd = 12 ∨ kd = 13 ∨ kd = 14 ∨ kd = 15 ∨ kd = 16 ∨ kd = 17 ∨ kd = 19 ∨ kd = 20 ∨ kd = 21 by omega) with rfl | rfl | rfl | rfl | rfl | rfl | rfl | rfl | rfl <;> decide +kernel
  · rw [e5, e0]
    rcases ht with rfl | rfl | rfl <;> decide +kernel
/-- the rounds left of the loops around a place -/
def rdsR (A : Nat → Int32) (N k : Nat) (C L : Nat → Int32) : Prop := ∀ o p, o < N → A (226 + 6 * o) = 19 → A (226 + 6 * o + 4) = nI p → p < 60 → o < k → k ≤ p → C o = L o + 1
theorem rdsR.on {A : Nat → Int32} {N k k' : Nat} {C L : Nat → Int32} (h : rdsR A N k C L) (hk : ∀ o p, o < N → A (226 + 6 * o) = 19 → A (226 + 6 * o + 4) = nI p → p < 60 → o < k' → k' ≤ p → o < k ∧ k ≤ p) : rdsR A N k' C L := fun o p a b c d e f => h o p a b c d (hk o p a b c d e f).1 (hk o p a b c d e f).2
theorem opn_19 {A : Nat → Int32} {k : Nat} (h : A (226 + 6 * k) = 19) : opn A k := Or.inl h
/-- a life of the class stands where one of the reference does -/
def lvS (L s N : Nat) (I : IH) (x : LSt) (k : Nat) : Prop := svR I s x.1 N ∧ I L 1 = nI x.2.1 ∧ I L 4 = nI x.2.2.2.1 ∧ I L 5 = x.2.2.1 0 ∧ I L 6 = x.2.2.1 1 ∧ I L 7 = x.2.2.1 2 ∧ I L 8 = x.2.2.1 3 ∧ I L 9 = x.2.2.1 4 ∧ I L 10 = 1 ∧ rdsR x.1 N k (I (L + 1)) x.2.2.2.2
def lpQ (L s N : Nat) (I : IH) (x : LSt) : Prop := svR I s x.1 N ∧ I L 4 = nI x.2.2.2.1 ∧ I L 5 = x.2.2.1 0 ∧ I L 6 = x.2.2.1 1 ∧ I L 7 = x.2.2.1 2 ∧ I L 8 = x.2.2.1 3 ∧ I L 9 = x.2.2.1 4 ∧ I L 10 = 1
theorem lvS.q {L s N : Nat} {I : IH} {x : LSt} {k : Nat} (h : lvS L s N I x k) : lpQ L s N I x := ⟨h.1, h.2.2.1, h.2.2.2.1, h.2.2.2.2.1, h.2.2.2.2.2.1, h.2.2.2.2.2.2.1, h.2.2.2.2.2.2.2.1, h.2.2.2.2.2.2.2.2.1⟩
theorem svR.ou {I : IH} {s N a k : Nat} {v : Int32} {A : Nat → Int32} (h : svR I s A N) (ha : ¬ (s ≤ a ∧ a < s + 52)) : svR (u2 I a k v) s A N := h.nx (fun b h1 h2 => u2_ne (by omega)) (h.1.ou ha) (h.2.2.1.ou (by omega)) h.2.1 (fun _ _ => rfl)
theorem dX1_pass_0 : decode cX1_pass 0 = .ok (.aload_n 0, 1) := by decide +kernel
theorem dX1_pass_1 : decode cX1_pass 1 = .ok (.iload_n 2, 1) := by decide +kernel
theorem dX1_pass_2 : decode cX1_pass 2 = .ok (.putfield 17, 3) := by decide +kernel
theorem dX1_pass_5 : decode cX1_pass 5 = .ok (.aload_n 0, 1) := by decide +kernel
theorem dX1_pass_6 : decode cX1_pass 6 = .ok (.iconst 0, 1) := by decide +kernel
theorem dX1_pass_7 : decode cX1_pass 7 = .ok (.putfield 21, 3) := by decide +kernel
theorem dX1_pass_10 : decode cX1_pass 10 = .ok (.aload_n 0, 1) := by decide +kernel
theorem dX1_pass_11 : decode cX1_pass 11 = .ok (.iconst 0, 1) := by decide +kernel
theorem dX1_pass_12 : decode cX1_pass 12 = .ok (.putfield 24, 3) := by decide +kernel
theorem dX1_pass_15 : decode cX1_pass 15 = .ok (.aload_n 0, 1) := by decide +kernel
theorem dX1_pass_16 : decode cX1_pass 16 = .ok (.iconst 0, 1) := by decide +kernel
theorem dX1_pass_17 : decode cX1_pass 17 = .ok (.putfield 27, 3) := by decide +kernel
theorem dX1_pass_20 : decode cX1_pass 20 = .ok (.aload_n 0, 1) := by decide +kernel
theorem dX1_pass_21 : decode cX1_pass 21 = .ok (.iconst 0, 1) := by decide +kernel
theorem dX1_pass_22 : decode cX1_pass 22 = .ok (.putfield 30, 3) := by decide +kernel
theorem dX1_pass_25 : decode cX1_pass 25 = .ok (.aload_n 0, 1) := by decide +kernel
theorem dX1_pass_26 : decode cX1_pass 26 = .ok (.iconst 0, 1) := by decide +kernel
theorem dX1_pass_27 : decode cX1_pass 27 = .ok (.putfield 33, 3) := by decide +kernel
theorem dX1_pass_30 : decode cX1_pass 30 = .ok (.aload_n 0, 1) := by decide +kernel
theorem dX1_pass_31 : decode cX1_pass 31 = .ok (.iconst 0, 1) := by decide +kernel
theorem dX1_pass_32 : decode cX1_pass 32 = .ok (.putfield 36, 3) := by decide +kernel
theorem dX1_pass_35 : decode cX1_pass 35 = .ok (.aload_n 0, 1) := by decide +kernel
theorem dX1_pass_36 : decode cX1_pass 36 = .ok (.iconst 1, 1) := by decide +kernel
theorem dX1_pass_37 : decode cX1_pass 37 = .ok (.putfield 40, 3) := by decide +kernel
theorem dX1_pass_40 : decode cX1_pass 40 = .ok (.aload_n 1, 1) := by decide +kernel
theorem dX1_pass_41 : decode cX1_pass 41 = .ok (.getfield 43, 3) := by decide +kernel
theorem dX1_pass_44 : decode cX1_pass 44 = .ok (.astore_n 3, 1) := by decide +kernel
theorem dX1_pass_45 : decode cX1_pass 45 = .ok (.iconst 0, 1) := by decide +kernel
theorem dX1_pass_46 : decode cX1_pass 46 = .ok (.istore 4, 2) := by decide +kernel
theorem dX1_pass_48 : decode cX1_pass 48 = .ok (.iconst 0, 1) := by decide +kernel
theorem dX1_pass_49 : decode cX1_pass 49 = .ok (.istore 5, 2) := by decide +kernel
theorem dX1_pass_51 : decode cX1_pass 51 = .ok (.iload 5, 2) := by decide +kernel
theorem dX1_pass_53 : decode cX1_pass 53 = .ok (.ldc 49, 2) := by decide +kernel
theorem dX1_pass_55 : decode cX1_pass 55 = .ok (.if_icmp .ge 77, 3) := by decide +kernel
theorem dX1_pass_58 : decode cX1_pass 58 = .ok (.iload 4, 2) := by decide +kernel
theorem dX1_pass_60 : decode cX1_pass 60 = .ok (.aload_n 3, 1) := by decide +kernel
theorem dX1_pass_61 : decode cX1_pass 61 = .ok (.getfield 50, 3) := by decide +kernel
theorem dX1_pass_64 : decode cX1_pass 64 = .ok (.if_icmp .ge 68, 3) := by decide +kernel
theorem dX1_pass_67 : decode cX1_pass 67 = .ok (.aload_n 3, 1) := by decide +kernel
theorem dX1_pass_68 : decode cX1_pass 68 = .ok (.getfield 53, 3) := by decide +kernel
theorem dX1_pass_71 : decode cX1_pass 71 = .ok (.iload 4, 2) := by decide +kernel
theorem dX1_pass_73 : decode cX1_pass 73 = .ok (.iaload, 1) := by decide +kernel
theorem dX1_pass_74 : decode cX1_pass 74 = .ok (.bipush 22, 2) := by decide +kernel
theorem dX1_pass_76 : decode cX1_pass 76 = .ok (.if_icmp .ne 15, 3) := by decide +kernel
theorem dX1_pass_79 : decode cX1_pass 79 = .ok (.aload_n 0, 1) := by decide +kernel
theorem dX1_pass_80 : decode cX1_pass 80 = .ok (.aload_n 3, 1) := by decide +kernel
theorem dX1_pass_81 : decode cX1_pass 81 = .ok (.iload 4, 2) := by decide +kernel
theorem dX1_pass_83 : decode cX1_pass 83 = .ok (.invokevirtual 56, 3) := by decide +kernel
theorem dX1_pass_86 : decode cX1_pass 86 = .ok (.istore 4, 2) := by decide +kernel
theorem dX1_pass_88 : decode cX1_pass 88 = .ok (.goto 38, 3) := by decide +kernel
theorem dX1_pass_91 : decode cX1_pass 91 = .ok (.aload_n 0, 1) := by decide +kernel
theorem dX1_pass_92 : decode cX1_pass 92 = .ok (.getfield 21, 3) := by decide +kernel
theorem dX1_pass_95 : decode cX1_pass 95 = .ok (.sipush 300, 3) := by decide +kernel
theorem dX1_pass_98 : decode cX1_pass 98 = .ok (.if_icmp .ne 9, 3) := by decide +kernel
theorem dX1_pass_101 : decode cX1_pass 101 = .ok (.aload_n 0, 1) := by decide +kernel
theorem dX1_pass_102 : decode cX1_pass 102 = .ok (.iconst 1, 1) := by decide +kernel
theorem dX1_pass_103 : decode cX1_pass 103 = .ok (.putfield 36, 3) := by decide +kernel
theorem dX1_pass_106 : decode cX1_pass 106 = .ok (.return_, 1) := by decide +kernel
theorem dX1_pass_107 : decode cX1_pass 107 = .ok (.aload_n 0, 1) := by decide +kernel
theorem dX1_pass_108 : decode cX1_pass 108 = .ok (.dup, 1) := by decide +kernel
theorem dX1_pass_109 : decode cX1_pass 109 = .ok (.getfield 21, 3) := by decide +kernel
theorem dX1_pass_112 : decode cX1_pass 112 = .ok (.iconst 1, 1) := by decide +kernel
theorem dX1_pass_113 : decode cX1_pass 113 = .ok (.iadd, 1) := by decide +kernel
theorem dX1_pass_114 : decode cX1_pass 114 = .ok (.putfield 21, 3) := by decide +kernel
theorem dX1_pass_117 : decode cX1_pass 117 = .ok (.aload_n 0, 1) := by decide +kernel
theorem dX1_pass_118 : decode cX1_pass 118 = .ok (.aload_n 1, 1) := by decide +kernel
theorem dX1_pass_119 : decode cX1_pass 119 = .ok (.iload 4, 2) := by decide +kernel
theorem dX1_pass_121 : decode cX1_pass 121 = .ok (.invokevirtual 60, 3) := by decide +kernel
theorem dX1_pass_124 : decode cX1_pass 124 = .ok (.istore 4, 2) := by decide +kernel
theorem dX1_pass_126 : decode cX1_pass 126 = .ok (.iinc 5 1, 3) := by decide +kernel
theorem dX1_pass_129 : decode cX1_pass 129 = .ok (.goto (-78), 3) := by decide +kernel
theorem dX1_pass_132 : decode cX1_pass 132 = .ok (.return_, 1) := by decide +kernel
abbrev M_X1_pass : MT := (yX1_pass, cX1_pass, 6, none)
theorem cf_X1_pass : fq_cf M_X1_pass 2 := ⟨(mg_1 (List.mem_of_getElem? (i := 14) rfl) rfl), (mg_6 (List.mem_of_getElem? (i := 97) rfl) rfl), ⟨by decide, by decide, by decide +kernel⟩, by decide⟩
def B_X1_pass_132 (l : Launch) (G : GT) (D mc ms : Nat) (Q : Post) : Cn := ix_vret mc ms Q
theorem b_X1_pass_132 {l : Launch} {G : GT} {D mc ms : Nat} {Q : Post} : Imp l G M_X1_pass (D + 6) mc ms Q (B_X1_pass_132 l G D mc ms Q) 132 := sx_vret dX1_pass_132 rfl
def B_X1_pass_126 (l : Launch) (G : GT) (D mc ms : Nat) (Q : Post) : Cn := ix_iinc 5 1 (fqAt l G M_X1_pass (D + 6) mc ms Q 51)
theorem b_X1_pass_126 {l : Launch} {G : GT} {D mc ms : Nat} {Q : Post} : Imp l G M_X1_pass (D + 6) mc ms Q (B_X1_pass_126 l G D mc ms Q) 126 := sx_iinc dX1_pass_126 rfl (by decide) (sx_goto 51 dX1_pass_129 (by decide) ((fun _ _ _ _ _ _ _ _ h => h)))
def B_X1_pass_124 (l : Launch) (G : GT) (D mc ms : Nat) (Q : Post) : Cn := ix_istore 4 ((B_X1_pass_126 l G D mc ms Q))
theorem b_X1_pass_124 {l : Launch} {G : GT} {D mc ms : Nat} {Q : Post} : Imp l G M_X1_pass (D + 6) mc ms Q (B_X1_pass_124 l G D mc ms Q) 124 := sx_istore dX1_pass_124 (by decide) (b_X1_pass_126)
def B_X1_pass_86 (l : Launch) (G : GT) (D mc ms : Nat) (Q : Post) : Cn := ix_istore 4 ((B_X1_pass_126 l G D mc ms Q))
theorem b_X1_pass_86 {l : Launch} {G : GT} {D mc ms : Nat} {Q : Post} : Imp l G M_X1_pass (D + 6) mc ms Q (B_X1_pass_86 l G D mc ms Q) 86 := sx_istore dX1_pass_86 (by decide) (sx_goto 126 dX1_pass_88 (by decide) (b_X1_pass_126))
def B_X1_pass_51 (l : Launch) (G : GT) (D mc ms : Nat) (Q : Post) : Cn := ix_iload 5 (ix_pushI 1000000 (ix_icmp_ge ((B_X1_pass_132 l G D mc ms Q)) (ix_iload 4 (ix_aload 3 (ix_getI 9 7 (ix_icmp_ge ((B_X1_pass_132 l G D mc ms Q)) (ix_aload 3 (ix_getR 9 0 (ix_iload 4 (ix_iald (ix_pushI 22 (ix_icmp_ne (ix_aload 0 (ix_getI 1 4 (ix_pushI 300 (ix_icmp_ne (ix_aload 0 (ix_dupR (ix_getI 1 4 (ix_pushI 1 (ix_iadd (ix_putI 1 4 (ix_aload 0 (ix_aload 1 (ix_iload 4 (ix_vcall 1 3 0 0 mc ms (sp_X1_behindStep G) ((B_X1_pass_124 l G D mc ms Q)))))))))))) (ix_aload 0 (ix_pushI 1 (ix_putZ 1 9 (ix_vret mc ms Q)))))))) (ix_aload 0 (ix_aload 3 (ix_iload 4 (ix_vcall 1 3 0 0 mc ms (sp_X1_behindEnd G) ((B_X1_pass_86 l G D mc ms Q))))))))))))))))))
theorem b_X1_pass_51 {l : Launch} {G : GT} {D mc ms : Nat} {Q : Post} : Imp l G M_X1_pass (D + 6) mc ms Q (B_X1_pass_51 l G D mc ms Q) 51 := sx_iload dX1_pass_51 (sx_ldc dX1_pass_53 (mg_6 (List.mem_of_getElem? (i := 98) rfl) rfl) (sx_icmp_ge 132 dX1_pass_55 (by decide) (b_X1_pass_132) (sx_iload dX1_pass_58 (sx_aload_n dX1_pass_60 rfl (sx_getI dX1_pass_61 fl_FootQuarrel_Life_50 (fun _ _ _ => rfl) (sx_icmp_ge 132 dX1_pass_64 (by decide) (b_X1_pass_132) (sx_aload_n dX1_pass_67 rfl (sx_getR dX1_pass_68 fl_FootQuarrel_Life_53 (fun _ _ _ => rfl) (sx_iload dX1_pass_71 (sx_iald dX1_pass_73 (sx_bipush dX1_pass_74 rfl (sx_icmp_ne 91 dX1_pass_76 (by decide) (sx_aload_n dX1_pass_91 rfl (sx_getI dX1_pass_92 fl_FootQuarrel_Life_21 (fun _ _ _ => rfl) (sx_sipush dX1_pass_95 rfl (sx_icmp_ne 107 dX1_pass_98 (by decide) (sx_aload_n dX1_pass_107 rfl (sx_dupR dX1_pass_108 (sx_getI dX1_pass_109 fl_FootQuarrel_Life_21 (fun _ _ _ => rfl) (sx_iconst dX1_pass_112 rfl (sx_iadd dX1_pass_113 (sx_putI dX1_pass_114 fl_FootQuarrel_Life_21 (by decide) (fun _ _ _ => rfl) (fun _ => ⟨rfl, rfl⟩) (sx_aload_n dX1_pass_117 rfl (sx_aload_n dX1_pass_118 rfl (sx_iload dX1_pass_119 (sx_vcall dX1_pass_121 cf_X1_behindStep (mg_6 (List.mem_of_getElem? (i := 103) rfl) rfl) (mg_6 (List.mem_of_getElem? (i := 105) rfl) rfl) (mg_p (List.mem_of_getElem? (i := 39) rfl) rfl) rfl c_X1_behindStep (b_X1_pass_124))))))))))) (sx_aload_n dX1_pass_101 rfl (sx_iconst dX1_pass_102 rfl (sx_putZ dX1_pass_103 fl_FootQuarrel_Life_36 (by decide) (fun _ _ _ => rfl) (fun v h => by rcases h with h | h <;> subst h <;> exact ⟨rfl, rfl⟩) (sx_vret dX1_pass_106 rfl)))))))) (sx_aload_n dX1_pass_79 rfl (sx_aload_n dX1_pass_80 rfl (sx_iload dX1_pass_81 (sx_vcall dX1_pass_83 cf_X1_behindEnd (mg_6 (List.mem_of_getElem? (i := 99) rfl) rfl) (mg_6 (List.mem_of_getElem? (i := 101) rfl) rfl) (mg_p (List.mem_of_getElem? (i := 38) rfl) rfl) rfl c_X1_behindEnd (b_X1_pass_86)))))))))))))))))
def B_X1_pass_0 (l : Launch) (G : GT) (D mc ms : Nat) (Q : Post) : Cn := ix_aload 0 (ix_iload 2 (ix_putI 1 1 (ix_aload 0 (ix_pushI 0 (ix_putI 1 4 (ix_aload 0 (ix_pushI 0 (ix_putI 1 5 (ix_aload 0 (ix_pushI 0 (ix_putI 1 6 (ix_aload 0 (ix_pushI 0 (ix_putI 1 7 (ix_aload 0 (ix_pushI 0 (ix_putI 1 8 (ix_aload 0 (ix_pushI 0 (ix_putZ 1 9 (ix_aload 0 (ix_pushI 1 (ix_putZ 1 10 (ix_aload 1 (ix_getR 6 3 (ix_astore 3 (ix_pushI 0 (ix_istore 4 (ix_pushI 0 (ix_istore 5 (fqAt l G M_X1_pass (D + 6) mc ms Q 51)))))))))))))))))))))))))))))))
theorem b_X1_pass_0 {l : Launch} {G : GT} {D mc ms : Nat} {Q : Post} : Imp l G M_X1_pass (D + 6) mc ms Q (B_X1_pass_0 l G D mc ms Q) 0 := sx_aload_n dX1_pass_0 rfl (sx_iload_n dX1_pass_1 rfl (sx_putI dX1_pass_2 fl_FootQuarrel_Life_17 (by decide) (fun _ _ _ => rfl) (fun _ => ⟨rfl, rfl⟩) (sx_aload_n dX1_pass_5 rfl (sx_iconst dX1_pass_6 rfl (sx_putI dX1_pass_7 fl_FootQuarrel_Life_21 (by decide) (fun _ _ _ => rfl) (fun _ => ⟨rfl, rfl⟩) (sx_aload_n dX1_pass_10 rfl (sx_iconst dX1_pass_11 rfl (sx_putI dX1_pass_12 fl_FootQuarrel_Life_24 (by decide) (fun _ _ _ => rfl) (fun _ => ⟨rfl, rfl⟩) (sx_aload_n dX1_pass_15 rfl (sx_iconst dX1_pass_16 rfl (sx_putI dX1_pass_17 fl_FootQuarrel_Life_27 (by decide) (fun _ _ _ => rfl) (fun _ => ⟨rfl, rfl⟩) (sx_aload_n dX1_pass_20 rfl (sx_iconst dX1_pass_21 rfl (sx_putI dX1_pass_22 fl_FootQuarrel_Life_30 (by decide) (fun _ _ _ => rfl) (fun _ => ⟨rfl, rfl⟩) (sx_aload_n dX1_pass_25 rfl (sx_iconst dX1_pass_26 rfl (sx_putI dX1_pass_27 fl_FootQuarrel_Life_33 (by decide) (fun _ _ _ => rfl) (fun _ => ⟨rfl, rfl⟩) (sx_aload_n dX1_pass_30 rfl (sx_iconst dX1_pass_31 rfl (sx_putZ dX1_pass_32 fl_FootQuarrel_Life_36 (by decide) (fun _ _ _ => rfl) (fun v h => by rcases h with h | h <;> subst h <;> exact ⟨rfl, rfl⟩) (sx_aload_n dX1_pass_35 rfl (sx_iconst dX1_pass_36 rfl (sx_putZ dX1_pass_37 fl_FootQuarrel_Life_40 (by decide) (fun _ _ _ => rfl) (fun v h => by rcases h with h | h <;> subst h <;> exact ⟨rfl, rfl⟩) (sx_aload_n dX1_pass_40 rfl (sx_getR dX1_pass_41 fl_FootQuarrel_Life_43 (fun _ _ _ => rfl) (sx_astore_n dX1_pass_44 rfl (by decide) (sx_iconst dX1_pass_45 rfl (sx_istore dX1_pass_46 (by decide) (sx_iconst dX1_pass_48 rfl (sx_istore dX1_pass_49 (by decide) ((fun _ _ _ _ _ _ _ _ h => h))))))))))))))))))))))))))))))))
def sp_X1_pass (G : GT) : Sp := fun as S I J z Q => match as with
  | [.ref a, .ref b, .int c] => ∃ (L s : Nat) (A : Nat → Int32) (N d : Nat) (Lr : Nat → Int32), L = a ∧ s = b ∧ c = nI d ∧ d < 65536 ∧ lfS S L s ∧ svR I s A N ∧ okL Lr ∧ ∀ I' J', lyF L s I I' J J' → lpQ L s N I' (lvR N 302 (A, d, fun _ => 0, 0, Lr) 0) → Q none S I' J' z
  | _ => False
set_option maxHeartbeats 4000000 in
set_option maxRecDepth 20000 in
theorem c_X1_pass {l : Launch} {G : GT} {D : Nat} : ∀ as S I J z Q, sp_X1_pass G as S I J z Q → fqCall l G M_X1_pass (D + 6) 0 0 as S I J z Q := by
  intro as S I J z Q h
  unfold sp_X1_pass at h
  split at h
  · next a b c =>
    obtain ⟨L, s, A0, N, d0, Lr0, rfl, rfl, rfl, hd0, hl, hv0, hL0, hQ⟩ := h
    have hl0 := hl
    obtain ⟨l1, l2, l3, l4, hs, l5⟩ := hl
    have hN6 := hv0.2.2.2.1.1
    obtain ⟨X0, hX0⟩ : ∃ X0, X0 = lvR N 302 (A0, d0, fun _ => 0, 0, Lr0) 0 := ⟨_, rfl⟩
    rw [← hX0] at hQ
    -- the ends behind a step
    have ends : ∀ (f k i : Nat) (I1 : IH) (J1 : JH) (A : Nat → Int32) (d : Nat) (R : Nat → Int32) (n : Nat) (Lr : Nat → Int32), lyF L s I I1 J J1 → lvS L s N I1 (A, d, R, n, Lr) k → k ≤ N → i + f < 1000000 → (∀ (i2 : Nat) (I2 : IH), i2 ≤ i + f → lyF L s I I2 J J1 → lvS L s N I2 (A, d, R, n, (bhE A N f Lr k).1) (bhE A N f Lr k).2 → fqAt l G M_X1_pass (D + 6) 0 0 Q 51 [some (.ref L), some (.ref s), some (.int (nI d0)), some (.ref (s + 4)), some (.int (nI (bhE A N f Lr k).2)), some (.int (nI i2))] [] S I2 J1 z 0 0) → fqAt l G M_X1_pass (D + 6) 0 0 Q 51 [some (.ref L), some (.ref s), some (.int (nI d0)), some (.ref (s + 4)), some (.int (nI k)), some (.int (nI i))] [] S I1 J1 z 0 0 := by
      intro f
      induction f with
      | zero =>
        intro k i I1 J1 A d R n Lr hF hS hk hi hc
        exact hc i I1 (by omega) hF hS
      | succ f ih =>
        intro k i I1 J1 A d R n Lr hF hS hk hi hc
        rw [bhE_1] at hc
        by_cases g : k < N ∧ A (226 + 6 * k) = 20
        · simp only [if_pos g] at hc
          obtain ⟨hv, h1, h4, h5, h6, h7, h8, h9, h10, hr⟩ := hS
          have hv' := hv
          obtain ⟨hst, hw, hb, hy, y7, rows⟩ := hv
          dsimp only at hst hw hb hy y7 rows h1 h4 h5 h6 h7 h8 h9 hr hv'
          obtain ⟨o, eo, ok, oo, ep⟩ := (hy.2.1 k g.1).e g.2
          obtain ⟨ra, rp⟩ := rows k g.1
          obtain ⟨oa, op⟩ := rows o (by omega)
          have e5 : I1 (s + 5) k = 22 := ra.k.1.mpr g.2
          have e11 : I1 (s + 11) k = nI o := (rp (Or.inr (Or.inr e5))).trans eo
          have ko : I1 (s + 5) o = 21 ↔ A (226 + 6 * o) = 19 := oa.k.2
          rw [eo, nI_clamp (by omega)] at hc
          refine b_X1_pass_51 _ _ _ _ _ _ _ _ ?_
          simp (disch := omega) only [B_X1_pass_51, sp_X1_behindEnd, B_X1_behindEnd_0, B_X1_behindEnd_41, B_X1_pass_86, B_X1_pass_126, l1, l2, l3, l4, y7, e5, e11, u2_same, u2_ck, u2_ca, li_1000000, hs.k, hs.r0, hs.k1, hs.r1, hs.k2, hs.r2, hs.k3, hs.r3, hs.k4, hs.r4, hs.k12, hs.n1, hs.n2, hs.n3, hs.y0, hs.k5, hs.n5, hs.y1, hs.k6, hs.n6, hs.y2, hs.k7, hs.n7, hs.y3, hs.k8, hs.n8, hs.y4, hs.k9, hs.n9, hs.y5, hs.k10, hs.n10, hs.y6, hs.k11, hs.n11, hs.p0, hs.p1, hs.p2, hs.k13, hs.n13, hs.q0, hs.q1, hs.k14, hs.k15, hs.k16, hs.n16, hs.k17, hs.n17, hs.rH, hs.kH, hs.rP, hs.kP, hs.rQ, hs.kQ, nI_1, nI_add, nI_clamp, nI_pin, nI_neg, nI_nonneg, nI_leE, nI_ltE, nI_eqE, Nat.not_le, Nat.not_lt, fq_10, fq_01, fq_rr, ix_aald, ix_aast, ix_abs, ix_alen, ix_aload, ix_aret, ix_astore, ix_bald, ix_bast, ix_call, ix_cpyI, ix_cpyJ, ix_dead, ix_dup2, ix_dup2L, ix_dupI, ix_dupR, ix_dupx1, ix_getI, ix_getJ, ix_getR, ix_gfm, ix_gtab, ix_i2b, ix_i2c, ix_i2l, ix_i2s, ix_iadd, ix_iald, ix_iand, ix_iast, ix_icall, ix_icmp_eq, ix_icmp_ge, ix_icmp_gt, ix_icmp_le, ix_icmp_lt, ix_icmp_ne, ix_idiv, ix_if_eq, ix_if_ge, ix_if_gt, ix_if_le, ix_if_lt, ix_if_ne, ix_iinc, ix_iload, ix_imul, ix_ineg, ix_ior, ix_irem, ix_iret, ix_ishl, ix_ishr, ix_istore, ix_isub, ix_iushr, ix_ixor, ix_l2i, ix_ladd, ix_lald, ix_land, ix_last, ix_lcmp, ix_ldcS, ix_ldiv, ix_lload, ix_lmul, ix_lor, ix_lrem, ix_lret, ix_lshl, ix_lstore, ix_lsub, ix_lsw, ix_max, ix_min, ix_new, ix_newa, ix_nret, ix_oinit, ix_pop2L, ix_popI, ix_pushI, ix_pushL, ix_putI, ix_putJ, ix_putR, ix_putZ, ix_sbald, ix_sgetC, ix_sgetV, ix_slen, ix_strc, ix_tald, ix_tsw, ix_vcall, ix_vret, ix_zret, stL, stL2, kilL, popN, fq_sw, fq_lsw, List.map_cons, List.map_nil, List.getElem?_cons_zero, List.getElem?_cons_succ, Option.toList_some, Option.toList_none, List.cons_append, List.nil_append, List.length_cons, List.length_nil, List.sum_cons, List.sum_nil, cat_i, cat_l, cat_r, true_and, and_true, Nat.zero_add, Nat.add_zero, Nat.le_refl, Nat.zero_le, Nat.reduceAdd, Nat.reduceLeDiff, exists_eq_left', Option.some.injEq, not_true_eq_false, not_false_eq_true, false_implies, true_implies, implies_true, and_self, or_true, true_or, or_false, false_or]
          refine ⟨fun q => absurd q (by omega), fun _ => ⟨fun q => absurd q (by omega), fun _ => ⟨fun q => ?_, fun q => ?_⟩⟩⟩
          · have n19 : ¬ A (226 + 6 * o) = 19 := fun r => q (ko.mpr r)
            simp only [if_neg (fun (r : A (226 + 6 * o) = 19 ∧ 0 < Lr o) => n19 r.1)] at hc
            have eL : uA Lr o (Lr o - 0) = Lr := by
              funext j
              unfold uA
              split
              · next h => rw [h, Int32.sub_zero]
              · rfl
            rw [eL] at hc
            refine ih (k + 1) (i + 1) I1 J1 A d R n Lr hF ⟨hv', h1, h4, h5, h6, h7, h8, h9, h10, hr.on (fun o2 p2 a b c d2 e f2 => ⟨?_, by omega⟩)⟩ (by omega) (by omega) (fun i2 I2 hi2 => hc i2 I2 (by omega))
            rcases Nat.lt_or_ge o2 k with w | w
            · exact w
            · have : o2 = k := by omega
              rw [this, g.2] at b
              exact absurd b (by decide)
          · have y19 : A (226 + 6 * o) = 19 := ko.mp (by first | exact q | exact Decidable.not_not.mp q)
            have hC : I1 (L + 1) o = Lr o + 1 := hr o k (by omega) y19 ep (by omega) ok (Nat.le_refl _)
            have hC1 : I1 (L + 1) o - 1 = Lr o := by rw [hC]; grind
            have nst : ∀ o2 p2, o2 < N → A (226 + 6 * o2) = 19 → A (226 + 6 * o2 + 4) = nI p2 → p2 < 60 → o2 < o → o + 1 ≤ p2 → k ≤ p2 := fun o2 p2 a b c d2 e f2 => by
              have := hy.2.2 o2 o p2 k e (by omega) (by omega) (opn_19 b) oo c ep d2 (by omega)
              omega
            rw [hC1]
            refine ⟨fun w => ?_, fun w => ?_⟩
            · have w0 : ¬ 0 < Lr o := Int32.not_lt.mpr w
              simp only [if_neg (fun (r : A (226 + 6 * o) = 19 ∧ 0 < Lr o) => w0 r.2)] at hc
              refine ih (k + 1) (i + 1) _ J1 A d R n _ (hF.u l5 (Or.inr (Or.inl rfl))) ⟨hv'.ou (by omega), ?_, ?_, ?_, ?_, ?_, ?_, ?_, ?_, ?_⟩ (by omega) (by omega) (fun i2 I2 hi2 => hc i2 I2 (by omega))
              · rw [u2_ne (by omega)]; exact h1
              · rw [u2_ne (by omega)]; exact h4
              · rw [u2_ne (by omega)]; exact h5
              · rw [u2_ne (by omega)]; exact h6
              · rw [u2_ne (by omega)]; exact h7
              · rw [u2_ne (by omega)]; exact h8
              · rw [u2_ne (by omega)]; exact h9
              · rw [u2_ne (by omega)]; exact h10
              · intro o2 p2 a b c d2 e f2
                dsimp only at *
                have o2k : o2 ≠ k := by
                  rintro rfl
                  rw [g.2] at b
                  exact absurd b (by decide)
                have o2o : o2 ≠ o := by
                  rintro rfl
                  have := nIj d2 (by omega) (c.symm.trans ep)
                  omega
                rw [u2_ck _ _ _ _ _ _ o2o, uA_n _ _ _ _ o2o]
                exact hr o2 p2 a b c d2 (by omega) (by omega)
            · have w0 : 0 < Lr o := Int32.not_le.mp w
              simp only [if_pos (show A (226 + 6 * o) = 19 ∧ 0 < Lr o from ⟨y19, w0⟩)] at hc
              refine ih (o + 1) (i + 1) _ J1 A d R n _ (hF.u l5 (Or.inr (Or.inl rfl))) ⟨hv'.ou (by omega), ?_, ?_, ?_, ?_, ?_, ?_, ?_, ?_, ?_⟩ (by omega) (by omega) (fun i2 I2 hi2 => hc i2 I2 (by omega))
              · rw [u2_ne (by omega)]; exact h1
              · rw [u2_ne (by omega)]; exact h4
              · rw [u2_ne (by omega)]; exact h5
              · rw [u2_ne (by omega)]; exact h6
              · rw [u2_ne (by omega)]; exact h7
              · rw [u2_ne (by omega)]; exact h8
              · rw [u2_ne (by omega)]; exact h9
              · rw [u2_ne (by omega)]; exact h10
              · intro o2 p2 a b c d2 e f2
                dsimp only at *
                by_cases o2o : o2 = o
                · rw [o2o, u2_same, uA_e]
                  grind
                · rw [u2_ck _ _ _ _ _ _ o2o, uA_n _ _ _ _ o2o]
                  exact hr o2 p2 a b c d2 (by omega) (nst o2 p2 a b c d2 (by omega) f2)
        · simp only [if_neg g] at hc
          exact hc i I1 (by omega) hF hS
    -- all steps
    have steps : ∀ (f k i : Nat) (I1 : IH) (J1 : JH) (A : Nat → Int32) (d : Nat) (R : Nat → Int32) (n : Nat) (Lr : Nat → Int32), lyF L s I I1 J J1 → lvS L s N I1 (A, d, R, n, Lr) k → k ≤ N → noE A N k → okL Lr → d < 65536 → n ≤ 300 → 300 < n + f → i ≤ 201 * n → X0 = lvR N f (A, d, R, n, Lr) k → fqAt l G M_X1_pass (D + 6) 0 0 Q 51 [some (.ref L), some (.ref s), some (.int (nI d0)), some (.ref (s + 4)), some (.int (nI k)), some (.int (nI i))] [] S I1 J1 z 0 0 := by
      intro f
      induction f with
      | zero =>
        intro k i I1 J1 A d R n Lr _ _ _ _ _ _ h1 h2
        omega
      | succ f ih =>
        intro k i I1 J1 A d R n Lr hF hS hk hE hLr hd hn hf hi he
        rw [lvR_1] at he
        have hS0 := hS
        obtain ⟨hv, h1, h4, h5, h6, h7, h8, h9, h10, hr⟩ := hS
        have hv' := hv
        obtain ⟨hst, hw, hb, hy, y7, rows⟩ := hv
        dsimp only at hst hw hb hy y7 rows h1 h4 h5 h6 h7 h8 h9 hr hv'
        by_cases g : k < N
        · rw [if_neg (fun q => q g)] at he
          have n20 : ¬ A (226 + 6 * k) = 20 := fun q => hE ⟨g, q⟩
          obtain ⟨ra, rp⟩ := rows k g
          have e5 : ¬ I1 (s + 5) k = 22 := fun q => n20 (ra.k.1.mp q)
          have hK := hy.2.1 k g
          by_cases g3 : n = 300
          · rw [if_pos g3] at he
            subst g3
            refine b_X1_pass_51 _ _ _ _ _ _ _ _ ?_
            simp (disch := omega) only [B_X1_pass_51, l1, l2, l3, l4, y7, h4, e5, u2_same, u2_ck, u2_ca, li_1000000, li_300, hs.k, hs.r0, hs.k1, hs.r1, hs.k2, hs.r2, hs.k3, hs.r3, hs.k4, hs.r4, hs.k12, hs.n1, hs.n2, hs.n3, hs.y0, hs.k5, hs.n5, hs.y1, hs.k6, hs.n6, hs.y2, hs.k7, hs.n7, hs.y3, hs.k8, hs.n8, hs.y4, hs.k9, hs.n9, hs.y5, hs.k10, hs.n10, hs.y6, hs.k11, hs.n11, hs.p0, hs.p1, hs.p2, hs.k13, hs.n13, hs.q0, hs.q1, hs.k14, hs.k15, hs.k16, hs.n16, hs.k17, hs.n17, hs.rH, hs.kH, hs.rP, hs.kP, hs.rQ, hs.kQ, nI_1, nI_add, nI_clamp, nI_pin, nI_neg, nI_nonneg, nI_leE, nI_ltE, nI_eqE, Nat.not_le, Nat.not_lt, fq_10, fq_01, fq_rr, ix_aald, ix_aast, ix_abs, ix_alen, ix_aload, ix_aret, ix_astore, ix_bald, ix_bast, ix_call, ix_cpyI, ix_cpyJ, ix_dead, ix_dup2, ix_dup2L, ix_dupI, ix_dupR, ix_dupx1, ix_getI, ix_getJ, ix_getR, ix_gfm, ix_gtab, ix_i2b, ix_i2c, ix_i2l, ix_i2s, ix_iadd, ix_iald, ix_iand, ix_iast, ix_icall, ix_icmp_eq, ix_icmp_ge, ix_icmp_gt, ix_icmp_le, ix_icmp_lt, ix_icmp_ne, ix_idiv, ix_if_eq, ix_if_ge, ix_if_gt, ix_if_le, ix_if_lt, ix_if_ne, ix_iinc, ix_iload, ix_imul, ix_ineg, ix_ior, ix_irem, ix_iret, ix_ishl, ix_ishr, ix_istore, ix_isub, ix_iushr, ix_ixor, ix_l2i, ix_ladd, ix_lald, ix_land, ix_last, ix_lcmp, ix_ldcS, ix_ldiv, ix_lload, ix_lmul, ix_lor, ix_lrem, ix_lret, ix_lshl, ix_lstore, ix_lsub, ix_lsw, ix_max, ix_min, ix_new, ix_newa, ix_nret, ix_oinit, ix_pop2L, ix_popI, ix_pushI, ix_pushL, ix_putI, ix_putJ, ix_putR, ix_putZ, ix_sbald, ix_sgetC, ix_sgetV, ix_slen, ix_strc, ix_tald, ix_tsw, ix_vcall, ix_vret, ix_zret, stL, stL2, kilL, popN, fq_sw, fq_lsw, List.map_cons, List.map_nil, List.getElem?_cons_zero, List.getElem?_cons_succ, Option.toList_some, Option.toList_none, List.cons_append, List.nil_append, List.length_cons, List.length_nil, List.sum_cons, List.sum_nil, cat_i, cat_l, cat_r, true_and, and_true, Nat.zero_add, Nat.add_zero, Nat.le_refl, Nat.zero_le, Nat.reduceAdd, Nat.reduceLeDiff, exists_eq_left', Option.some.injEq, not_true_eq_false, not_false_eq_true, false_implies, true_implies, implies_true, and_self, or_true, true_or, or_false, false_or]
            refine ⟨fun q => absurd q (by omega), fun _ => ⟨fun q => absurd q (by omega), fun _ => ?_⟩⟩
            rw [he] at hQ
            refine hQ _ J1 (hF.u l5 (Or.inl rfl)) ⟨hv'.ou (by omega), ?_, ?_, ?_, ?_, ?_, ?_, ?_⟩
            · rw [u2_ck _ _ _ _ _ _ (by omega)]; exact h4
            · rw [u2_ck _ _ _ _ _ _ (by omega)]; rw [h5]; exact (uA_n R 4 1 _ (by decide)).symm
            · rw [u2_ck _ _ _ _ _ _ (by omega)]; rw [h6]; exact (uA_n R 4 1 _ (by decide)).symm
            · rw [u2_ck _ _ _ _ _ _ (by omega)]; rw [h7]; exact (uA_n R 4 1 _ (by decide)).symm
            · rw [u2_ck _ _ _ _ _ _ (by omega)]; rw [h8]; exact (uA_n R 4 1 _ (by decide)).symm
            · rw [u2_same]; exact (uA_e R 4 1).symm
            · rw [u2_ck _ _ _ _ _ _ (by omega)]; exact h10
          · rw [if_neg g3] at he
            refine b_X1_pass_51 _ _ _ _ _ _ _ _ ?_
            simp (disch := omega) only [B_X1_pass_51, l1, l2, l3, l4, y7, h4, e5, u2_same, u2_ck, u2_ca, li_1000000, li_300, hs.k, hs.r0, hs.k1, hs.r1, hs.k2, hs.r2, hs.k3, hs.r3, hs.k4, hs.r4, hs.k12, hs.n1, hs.n2, hs.n3, hs.y0, hs.k5, hs.n5, hs.y1, hs.k6, hs.n6, hs.y2, hs.k7, hs.n7, hs.y3, hs.k8, hs.n8, hs.y4, hs.k9, hs.n9, hs.y5, hs.k10, hs.n10, hs.y6, hs.k11, hs.n11, hs.p0, hs.p1, hs.p2, hs.k13, hs.n13, hs.q0, hs.q1, hs.k14, hs.k15, hs.k16, hs.n16, hs.k17, hs.n17, hs.rH, hs.kH, hs.rP, hs.kP, hs.rQ, hs.kQ, nI_1, nI_add, nI_clamp, nI_pin, nI_neg, nI_nonneg, nI_leE, nI_ltE, nI_eqE, Nat.not_le, Nat.not_lt, fq_10, fq_01, fq_rr, ix_aald, ix_aast, ix_abs, ix_alen, ix_aload, ix_aret, ix_astore, ix_bald, ix_bast, ix_call, ix_cpyI, ix_cpyJ, ix_dead, ix_dup2, ix_dup2L, ix_dupI, ix_dupR, ix_dupx1, ix_getI, ix_getJ, ix_getR, ix_gfm, ix_gtab, ix_i2b, ix_i2c, ix_i2l, ix_i2s, ix_iadd, ix_iald, ix_iand, ix_iast, ix_icall, ix_icmp_eq, ix_icmp_ge, ix_icmp_gt, ix_icmp_le, ix_icmp_lt, ix_icmp_ne, ix_idiv, ix_if_eq, ix_if_ge, ix_if_gt, ix_if_le, ix_if_lt, ix_if_ne, ix_iinc, ix_iload, ix_imul, ix_ineg, ix_ior, ix_irem, ix_iret, ix_ishl, ix_ishr, ix_istore, ix_isub, ix_iushr, ix_ixor, ix_l2i, ix_ladd, ix_lald, ix_land, ix_last, ix_lcmp, ix_ldcS, ix_ldiv, ix_lload, ix_lmul, ix_lor, ix_lrem, ix_lret, ix_lshl, ix_lstore, ix_lsub, ix_lsw, ix_max, ix_min, ix_new, ix_newa, ix_nret, ix_oinit, ix_pop2L, ix_popI, ix_pushI, ix_pushL, ix_putI, ix_putJ, ix_putR, ix_putZ, ix_sbald, ix_sgetC, ix_sgetV, ix_slen, ix_strc, ix_tald, ix_tsw, ix_vcall, ix_vret, ix_zret, stL, stL2, kilL, popN, fq_sw, fq_lsw, List.map_cons, List.map_nil, List.getElem?_cons_zero, List.getElem?_cons_succ, Option.toList_some, Option.toList_none, List.cons_append, List.nil_append, List.length_cons, List.length_nil, List.sum_cons, List.sum_nil, cat_i, cat_l, cat_r, true_and, and_true, Nat.zero_add, Nat.add_zero, Nat.le_refl, Nat.zero_le, Nat.reduceAdd, Nat.reduceLeDiff, exists_eq_left', Option.some.injEq, not_true_eq_false, not_false_eq_true, false_implies, true_implies, implies_true, and_self, or_true, true_or, or_false, false_or]
            refine ⟨fun q => absurd q (by omega), fun _ => ⟨fun q => absurd q (by omega), fun _ => ⟨fun _ => ?_, fun q => absurd q g3⟩⟩⟩
            refine ⟨L, s, A, N, k, d, rfl, rfl, rfl, hl0, hv'.ou (by omega), g, n20, ?_, hd, fun I2 J2 f1 f2 f3 f4 => ?_⟩
            · rw [u2_ck _ _ _ _ _ _ (by omega)]; exact h1
            have F2 := (hF.u (k := 4) (v := nI (n + 1)) l5 (Or.inl rfl)).tr f1
            obtain ⟨dw, dr, dd⟩ := doF_ok hw hK.o hd
            rw [show u2 I1 L 4 (nI (n + 1)) (L + 1) = I1 (L + 1) from u2_ne (by omega)] at f4
            obtain ⟨a1, a2, a3, a4, a5, a6, a7, a8⟩ := f3
            rw [u2_same] at a2
            rw [u2_ck _ _ _ _ _ _ (by omega)] at a3 a4 a5 a6 a7 a8
            rw [h5] at a3
            rw [h6] at a4
            rw [h7] at a5
            rw [h8] at a6
            rw [h9] at a7
            rw [h10] at a8
            by_cases g1 : A (226 + 6 * k) = 21
            · rw [if_pos g1] at he ⊢
              have ed : doF A d (226 + 6 * k) = (true, A, d, 0, 0, 0) := by
                unfold doF
                rw [g1]
                rfl
              rw [ed] at a3 a4 a5 a6 f2
              dsimp only at a3 a4 a5 a6 f2
              rw [if_pos rfl, i32_z] at a3
              rw [i32_z] at a4 a5 a6
              simp (disch := omega) only [B_X1_pass_124, B_X1_pass_126, nI_1, nI_add, nI_clamp, nI_pin, nI_neg, nI_nonneg, nI_leE, nI_ltE, nI_eqE, Nat.not_le, Nat.not_lt, fq_10, fq_01, fq_rr, ix_aald, ix_aast, ix_abs, ix_alen, ix_aload, ix_aret, ix_astore, ix_bald, ix_bast, ix_call, ix_cpyI, ix_cpyJ, ix_dead, ix_dup2, ix_dup2L, ix_dupI, ix_dupR, ix_dupx1, ix_getI, ix_getJ, ix_getR, ix_gfm, ix_gtab, ix_i2b, ix_i2c, ix_i2l, ix_i2s, ix_iadd, ix_iald, ix_iand, ix_iast, ix_icall, ix_icmp_eq, ix_icmp_ge, ix_icmp_gt, ix_icmp_le, ix_icmp_lt, ix_icmp_ne, ix_idiv, ix_if_eq, ix_if_ge, ix_if_gt, ix_if_le, ix_if_lt, ix_if_ne, ix_iinc, ix_iload, ix_imul, ix_ineg, ix_ior, ix_irem, ix_iret, ix_ishl, ix_ishr, ix_istore, ix_isub, ix_iushr, ix_ixor, ix_l2i, ix_ladd, ix_lald, ix_land, ix_last, ix_lcmp, ix_ldcS, ix_ldiv, ix_lload, ix_lmul, ix_lor, ix_lrem, ix_lret, ix_lshl, ix_lstore, ix_lsub, ix_lsw, ix_max, ix_min, ix_new, ix_newa, ix_nret, ix_oinit, ix_pop2L, ix_popI, ix_pushI, ix_pushL, ix_putI, ix_putJ, ix_putR, ix_putZ, ix_sbald, ix_sgetC, ix_sgetV, ix_slen, ix_strc, ix_tald, ix_tsw, ix_vcall, ix_vret, ix_zret, stL, stL2, kilL, popN, fq_sw, fq_lsw, List.map_cons, List.map_nil, List.getElem?_cons_zero, List.getElem?_cons_succ, Option.toList_some, Option.toList_none, List.cons_append, List.nil_append, List.length_cons, List.length_nil, List.sum_cons, List.sum_nil, cat_i, cat_l, cat_r, true_and, and_true, Nat.zero_add, Nat.add_zero, Nat.le_refl, Nat.zero_le, Nat.reduceAdd, Nat.reduceLeDiff, exists_eq_left', Option.some.injEq, not_true_eq_false, not_false_eq_true, false_implies, true_implies, implies_true, and_self, or_true, true_or, or_false, false_or]
              refine b_X1_pass_51 _ _ _ _ _ _ _ _ ?_
              have y72 : I2 (s + 4) 7 = nI N := f2.2.2.2.2.1
              simp (disch := omega) only [B_X1_pass_51, B_X1_pass_132, l1, l2, l3, l4, y72, li_1000000, li_300, hs.k, hs.r0, hs.k1, hs.r1, hs.k2, hs.r2, hs.k3, hs.r3, hs.k4, hs.r4, hs.k12, hs.n1, hs.n2, hs.n3, hs.y0, hs.k5, hs.n5, hs.y1, hs.k6, hs.n6, hs.y2, hs.k7, hs.n7, hs.y3, hs.k8, hs.n8, hs.y4, hs.k9, hs.n9, hs.y5, hs.k10, hs.n10, hs.y6, hs.k11, hs.n11, hs.p0, hs.p1, hs.p2, hs.k13, hs.n13, hs.q0, hs.q1, hs.k14, hs.k15, hs.k16, hs.n16, hs.k17, hs.n17, hs.rH, hs.kH, hs.rP, hs.kP, hs.rQ, hs.kQ, nI_1, nI_add, nI_clamp, nI_pin, nI_neg, nI_nonneg, nI_leE, nI_ltE, nI_eqE, Nat.not_le, Nat.not_lt, fq_10, fq_01, fq_rr, ix_aald, ix_aast, ix_abs, ix_alen, ix_aload, ix_aret, ix_astore, ix_bald, ix_bast, ix_call, ix_cpyI, ix_cpyJ, ix_dead, ix_dup2, ix_dup2L, ix_dupI, ix_dupR, ix_dupx1, ix_getI, ix_getJ, ix_getR, ix_gfm, ix_gtab, ix_i2b, ix_i2c, ix_i2l, ix_i2s, ix_iadd, ix_iald, ix_iand, ix_iast, ix_icall, ix_icmp_eq, ix_icmp_ge, ix_icmp_gt, ix_icmp_le, ix_icmp_lt, ix_icmp_ne, ix_idiv, ix_if_eq, ix_if_ge, ix_if_gt, ix_if_le, ix_if_lt, ix_if_ne, ix_iinc, ix_iload, ix_imul, ix_ineg, ix_ior, ix_irem, ix_iret, ix_ishl, ix_ishr, ix_istore, ix_isub, ix_iushr, ix_ixor, ix_l2i, ix_ladd, ix_lald, ix_land, ix_last, ix_lcmp, ix_ldcS, ix_ldiv, ix_lload, ix_lmul, ix_lor, ix_lrem, ix_lret, ix_lshl, ix_lstore, ix_lsub, ix_lsw, ix_max, ix_min, ix_new, ix_newa, ix_nret, ix_oinit, ix_pop2L, ix_popI, ix_pushI, ix_pushL, ix_putI, ix_putJ, ix_putR, ix_putZ, ix_sbald, ix_sgetC, ix_sgetV, ix_slen, ix_strc, ix_tald, ix_tsw, ix_vcall, ix_vret, ix_zret, stL, stL2, kilL, popN, fq_sw, fq_lsw, List.map_cons, List.map_nil, List.getElem?_cons_zero, List.getElem?_cons_succ, Option.toList_some, Option.toList_none, List.cons_append, List.nil_append, List.length_cons, List.length_nil, List.sum_cons, List.sum_nil, cat_i, cat_l, cat_r, true_and, and_true, Nat.zero_add, Nat.add_zero, Nat.le_refl, Nat.zero_le, Nat.reduceAdd, Nat.reduceLeDiff, exists_eq_left', Option.some.injEq, not_true_eq_false, not_false_eq_true, false_implies, true_implies, implies_true, and_self, or_true, true_or, or_false, false_or]
              rw [he] at hQ
              have hh := hQ I2 J2 F2 ⟨f2, a2, a3, a4, a5, a6, a7, a8⟩
              exact ⟨fun _ => hh, fun _ => hh⟩
            · rw [if_neg g1] at he ⊢
              have hLr2 := okL.lp hLr hK
              generalize hx : doF A d (226 + 6 * k) = x at *
              generalize hL2 : (if A (226 + 6 * k) = 19 then uA Lr k (A (226 + 6 * k + 1) - 1) else Lr) = Lr2 at *
              have hy2 : wfY x.2.1 N := f2.2.2.2.1
              obtain ⟨e1, e2⟩ := bhE_200 hy2 (k := nxK x.2.1 k) hLr2
              have kk : nxK x.2.1 k = k + 1 ∨ (¬ A (226 + 6 * k) = 19 ∧ ∃ p, A (226 + 6 * k + 4) = nI p ∧ k < p ∧ p < N ∧ opn A k ∧ A (226 + 6 * p) = 20 ∧ nxK x.2.1 k = p + 1) := by
                unfold nxK
                split
                · next q =>
                  have q1 := q.1
                  rw [dr _ (by omega)] at q1
                  rcases hK with ⟨r, -⟩ | ⟨r0, -, -, -, p, r1, r2, r3, r4, -⟩ | ⟨r, -⟩
                  · exact absurd r n20
                  · refine Or.inr ⟨fun w => ?_, p, r1, r2, r3, r0, r4, ?_⟩
                    · rw [w] at q1
                      exact absurd q1 (by decide)
                    · rw [dr _ (by omega), r1, nI_clamp (by omega)]
                  · rcases r with r | r | r | r | r | r | r <;> (rw [r] at q1; exact absurd q1 (by decide))
                · exact Or.inl rfl
              have k2N : nxK x.2.1 k ≤ N := by
                rcases kk with q | ⟨-, p, -, -, q, -, -, q2⟩ <;> omega
              have hR2 : rdsR x.2.1 N (nxK x.2.1 k) (I2 (L + 1)) Lr2 := by
                intro o p h1 h2 h3 h4 h5 h6
                rw [dr _ (by omega)] at h2 h3
                have ho : o ≠ k → o < k ∧ k ≤ p := fun ok => by
                  rcases kk with q | ⟨q0, p', q1, q2, q3, q4, q5, q6⟩
                  · omega
                  · have op' : o ≠ p' := by
                      rintro rfl
                      rw [q5] at h2
                      exact absurd h2 (by decide)
                    rcases Nat.lt_or_ge o k with w | w
                    · omega
                    · have := hy.2.2 k o p' p (by omega) (by omega) (by omega) q4 (opn_19 h2) q1 h3 (by omega) h4
                      omega
                rw [f4, ← hL2]
                by_cases ok : o = k
                · subst ok
                  rw [if_pos h2, if_pos h2, uA_e, uA_e]
                  grind
                · have w := hr o p h1 h2 h3 h4 (ho ok).1 (ho ok).2
                  split
                  · rw [uA_n _ _ _ _ ok, uA_n _ _ _ _ ok]
                    exact w
                  · exact w
              simp (disch := omega) only [B_X1_pass_124, B_X1_pass_126, nI_1, nI_add, nI_clamp, nI_pin, nI_neg, nI_nonneg, nI_leE, nI_ltE, nI_eqE, Nat.not_le, Nat.not_lt, fq_10, fq_01, fq_rr, ix_aald, ix_aast, ix_abs, ix_alen, ix_aload, ix_aret, ix_astore, ix_bald, ix_bast, ix_call, ix_cpyI, ix_cpyJ, ix_dead, ix_dup2, ix_dup2L, ix_dupI, ix_dupR, ix_dupx1, ix_getI, ix_getJ, ix_getR, ix_gfm, ix_gtab, ix_i2b, ix_i2c, ix_i2l, ix_i2s, ix_iadd, ix_iald, ix_iand, ix_iast, ix_icall, ix_icmp_eq, ix_icmp_ge, ix_icmp_gt, ix_icmp_le, ix_icmp_lt, ix_icmp_ne, ix_idiv, ix_if_eq, ix_if_ge, ix_if_gt, ix_if_le, ix_if_lt, ix_if_ne, ix_iinc, ix_iload, ix_imul, ix_ineg, ix_ior, ix_irem, ix_iret, ix_ishl, ix_ishr, ix_istore, ix_isub, ix_iushr, ix_ixor, ix_l2i, ix_ladd, ix_lald, ix_land, ix_last, ix_lcmp, ix_ldcS, ix_ldiv, ix_lload, ix_lmul, ix_lor, ix_lrem, ix_lret, ix_lshl, ix_lstore, ix_lsub, ix_lsw, ix_max, ix_min, ix_new, ix_newa, ix_nret, ix_oinit, ix_pop2L, ix_popI, ix_pushI, ix_pushL, ix_putI, ix_putJ, ix_putR, ix_putZ, ix_sbald, ix_sgetC, ix_sgetV, ix_slen, ix_strc, ix_tald, ix_tsw, ix_vcall, ix_vret, ix_zret, stL, stL2, kilL, popN, fq_sw, fq_lsw, List.map_cons, List.map_nil, List.getElem?_cons_zero, List.getElem?_cons_succ, Option.toList_some, Option.toList_none, List.cons_append, List.nil_append, List.length_cons, List.length_nil, List.sum_cons, List.sum_nil, cat_i, cat_l, cat_r, true_and, and_true, Nat.zero_add, Nat.add_zero, Nat.le_refl, Nat.zero_le, Nat.reduceAdd, Nat.reduceLeDiff, exists_eq_left', Option.some.injEq, not_true_eq_false, not_false_eq_true, false_implies, true_implies, implies_true, and_self, or_true, true_or, or_false, false_or]
              refine ends 200 (nxK x.2.1 k) (i + 1) I2 J2 x.2.1 x.2.2.1 (rnU R x) (n + 1) Lr2 F2 ⟨f2, a1, a2, a3, a4, a5, a6, a7, a8, hR2⟩ k2N (by omega) (fun i2 I3 hi2 hF3 hS3 => ?_)
              exact ih (bhE x.2.1 N 200 Lr2 (nxK x.2.1 k)).2 i2 I3 J2 x.2.1 x.2.2.1 (rnU R x) (n + 1) (bhE x.2.1 N 200 Lr2 (nxK x.2.1 k)).1 hF3 hS3 (bhE_le hy2 200 Lr2 _ k2N) e1 e2 dd (by omega) (by omega) (by omega) he
        · rw [if_pos g] at he
          refine b_X1_pass_51 _ _ _ _ _ _ _ _ ?_
          simp (disch := omega) only [B_X1_pass_51, B_X1_pass_132, l1, l2, l3, l4, y7, h4, u2_same, u2_ck, u2_ca, li_1000000, li_300, hs.k, hs.r0, hs.k1, hs.r1, hs.k2, hs.r2, hs.k3, hs.r3, hs.k4, hs.r4, hs.k12, hs.n1, hs.n2, hs.n3, hs.y0, hs.k5, hs.n5, hs.y1, hs.k6, hs.n6, hs.y2, hs.k7, hs.n7, hs.y3, hs.k8, hs.n8, hs.y4, hs.k9, hs.n9, hs.y5, hs.k10, hs.n10, hs.y6, hs.k11, hs.n11, hs.p0, hs.p1, hs.p2, hs.k13, hs.n13, hs.q0, hs.q1, hs.k14, hs.k15, hs.k16, hs.n16, hs.k17, hs.n17, hs.rH, hs.kH, hs.rP, hs.kP, hs.rQ, hs.kQ, nI_1, nI_add, nI_clamp, nI_pin, nI_neg, nI_nonneg, nI_leE, nI_ltE, nI_eqE, Nat.not_le, Nat.not_lt, fq_10, fq_01, fq_rr, ix_aald, ix_aast, ix_abs, ix_alen, ix_aload, ix_aret, ix_astore, ix_bald, ix_bast, ix_call, ix_cpyI, ix_cpyJ, ix_dead, ix_dup2, ix_dup2L, ix_dupI, ix_dupR, ix_dupx1, ix_getI, ix_getJ, ix_getR, ix_gfm, ix_gtab, ix_i2b, ix_i2c, ix_i2l, ix_i2s, ix_iadd, ix_iald, ix_iand, ix_iast, ix_icall, ix_icmp_eq, ix_icmp_ge, ix_icmp_gt, ix_icmp_le, ix_icmp_lt, ix_icmp_ne, ix_idiv, ix_if_eq, ix_if_ge, ix_if_gt, ix_if_le, ix_if_lt, ix_if_ne, ix_iinc, ix_iload, ix_imul, ix_ineg, ix_ior, ix_irem, ix_iret, ix_ishl, ix_ishr, ix_istore, ix_isub, ix_iushr, ix_ixor, ix_l2i, ix_ladd, ix_lald, ix_land, ix_last, ix_lcmp, ix_ldcS, ix_ldiv, ix_lload, ix_lmul, ix_lor, ix_lrem, ix_lret, ix_lshl, ix_lstore, ix_lsub, ix_lsw, ix_max, ix_min, ix_new, ix_newa, ix_nret, ix_oinit, ix_pop2L, ix_popI, ix_pushI, ix_pushL, ix_putI, ix_putJ, ix_putR, ix_putZ, ix_sbald, ix_sgetC, ix_sgetV, ix_slen, ix_strc, ix_tald, ix_tsw, ix_vcall, ix_vret, ix_zret, stL, stL2, kilL, popN, fq_sw, fq_lsw, List.map_cons, List.map_nil, List.getElem?_cons_zero, List.getElem?_cons_succ, Option.toList_some, Option.toList_none, List.cons_append, List.nil_append, List.length_cons, List.length_nil, List.sum_cons, List.sum_nil, cat_i, cat_l, cat_r, true_and, and_true, Nat.zero_add, Nat.add_zero, Nat.le_refl, Nat.zero_le, Nat.reduceAdd, Nat.reduceLeDiff, exists_eq_left', Option.some.injEq, not_true_eq_false, not_false_eq_true, false_implies, true_implies, implies_true, and_self, or_true, true_or, or_false, false_or]
          rw [he] at hQ
          have := hQ I1 J1 hF hS0.q
          exact ⟨fun q => this, fun _ => ⟨fun q => this, fun q => absurd q (by omega)⟩⟩
    refine fq_enter [some (.ref L), some (.ref s), some (.int (nI d0)), none, none, none] (by decide +kernel) (Nat.le_of_ble_eq_true rfl) rfl (b_X1_pass_0 _ _ _ _ _ _ _ _ ?_)
    simp (disch := omega) only [B_X1_pass_0, l1, l2, l3, l4, hs.k, hs.r0, hs.k1, hs.r1, hs.k2, hs.r2, hs.k3, hs.r3, hs.k4, hs.r4, hs.k12, hs.n1, hs.n2, hs.n3, hs.y0, hs.k5, hs.n5, hs.y1, hs.k6, hs.n6, hs.y2, hs.k7, hs.n7, hs.y3, hs.k8, hs.n8, hs.y4, hs.k9, hs.n9, hs.y5, hs.k10, hs.n10, hs.y6, hs.k11, hs.n11, hs.p0, hs.p1, hs.p2, hs.k13, hs.n13, hs.q0, hs.q1, hs.k14, hs.k15, hs.k16, hs.n16, hs.k17, hs.n17, hs.rH, hs.kH, hs.rP, hs.kP, hs.rQ, hs.kQ, nI_1, nI_add, nI_clamp, nI_pin, nI_neg, nI_nonneg, nI_leE, nI_ltE, nI_eqE, Nat.not_le, Nat.not_lt, fq_10, fq_01, fq_rr, ix_aald, ix_aast, ix_abs, ix_alen, ix_aload, ix_aret, ix_astore, ix_bald, ix_bast, ix_call, ix_cpyI, ix_cpyJ, ix_dead, ix_dup2, ix_dup2L, ix_dupI, ix_dupR, ix_dupx1, ix_getI, ix_getJ, ix_getR, ix_gfm, ix_gtab, ix_i2b, ix_i2c, ix_i2l, ix_i2s, ix_iadd, ix_iald, ix_iand, ix_iast, ix_icall, ix_icmp_eq, ix_icmp_ge, ix_icmp_gt, ix_icmp_le, ix_icmp_lt, ix_icmp_ne, ix_idiv, ix_if_eq, ix_if_ge, ix_if_gt, ix_if_le, ix_if_lt, ix_if_ne, ix_iinc, ix_iload, ix_imul, ix_ineg, ix_ior, ix_irem, ix_iret, ix_ishl, ix_ishr, ix_istore, ix_isub, ix_iushr, ix_ixor, ix_l2i, ix_ladd, ix_lald, ix_land, ix_last, ix_lcmp, ix_ldcS, ix_ldiv, ix_lload, ix_lmul, ix_lor, ix_lrem, ix_lret, ix_lshl, ix_lstore, ix_lsub, ix_lsw, ix_max, ix_min, ix_new, ix_newa, ix_nret, ix_oinit, ix_pop2L, ix_popI, ix_pushI, ix_pushL, ix_putI, ix_putJ, ix_putR, ix_putZ, ix_sbald, ix_sgetC, ix_sgetV, ix_slen, ix_strc, ix_tald, ix_tsw, ix_vcall, ix_vret, ix_zret, stL, stL2, kilL, popN, fq_sw, fq_lsw, List.map_cons, List.map_nil, List.getElem?_cons_zero, List.getElem?_cons_succ, Option.toList_some, Option.toList_none, List.cons_append, List.nil_append, List.length_cons, List.length_nil, List.sum_cons, List.sum_nil, cat_i, cat_l, cat_r, true_and, and_true, Nat.zero_add, Nat.add_zero, Nat.le_refl, Nat.zero_le, Nat.reduceAdd, Nat.reduceLeDiff, exists_eq_left', Option.some.injEq, not_true_eq_false, not_false_eq_true, false_implies, true_implies, implies_true, and_self, or_true, true_or, or_false, false_or]
    refine steps 302 0 0 _ J A0 d0 (fun _ => 0) 0 Lr0 ((((((((lyF.rf.u l5 (Or.inl rfl)).u l5 (Or.inl rfl)).u l5 (Or.inl rfl)).u l5 (Or.inl rfl)).u l5 (Or.inl rfl)).u l5 (Or.inl rfl)).u l5 (Or.inl rfl)).u l5 (Or.inl rfl)) ⟨(((((((hv0.ou (by omega)).ou (by omega)).ou (by omega)).ou (by omega)).ou (by omega)).ou (by omega)).ou (by omega)).ou (by omega), ?_, ?_, ?_, ?_, ?_, ?_, ?_, ?_, fun o p _ _ _ _ h _ => absurd h (Nat.not_lt_zero _)⟩ (Nat.zero_le _) (fun q => ?_) hL0 hd0 (by omega) (by omega) (by omega) hX0
    · simp (disch := omega) only [u2_same, u2_ck]
    · simp (disch := omega) only [u2_same, u2_ck]
      rfl
    · simp (disch := omega) only [u2_same, u2_ck]
    · simp (disch := omega) only [u2_same, u2_ck]
    · simp (disch := omega) only [u2_same, u2_ck]
    · simp (disch := omega) only [u2_same, u2_ck]
    · simp (disch := omega) only [u2_same, u2_ck]
    · simp (disch := omega) only [u2_same, u2_ck]
    · obtain ⟨o, -, ho, -⟩ := (hv0.2.2.2.1.2.1 0 q.1).e q.2
      omega
  · exact h.elim
