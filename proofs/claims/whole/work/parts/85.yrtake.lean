/-! a year's text of the class, whole -/
theorem ytH.rd {X s p t n e : Nat} {I I' : IH} {J J' : JH} {T : Nat → Int32} {y : YSt} (h : ytH X s p t I J T n y) (l1 : X + 13 ≤ s) (l2 : X + 13 ≤ p) (l3 : p + 52 ≤ t) (hF : rdF (X + 11) I I' J J') (hH : rdH (X + 11) I' J' T n e) (he : e ≤ n) : ytH X s p t I' J' T n ((y.1.1, y.1.2.1, e), y.2) := by
  obtain ⟨-, -, g3, g4, g5, g6, g7, g8, g9, g10, g11, g12, g13⟩ := h
  have f : ∀ a, a ≠ X + 11 → I' a = I a := hF.1
  refine ⟨hH, he, ?_, ?_, ?_, fun i hi => ?_, fun i hi => ⟨(g7 i hi).1.mv (fun a _ _ => by rw [f _ (by omega)]) (fun _ _ _ => rfl), fun k => ((g7 i hi).2 k).mv (by rw [f _ (by omega)]) (by rw [f _ (by omega)]) rfl⟩, ⟨?_, ?_⟩, ?_, ?_, g11, g12, g13.mv g11.2 g12.2 (fun a _ _ => by rw [hF.2.2 a (by omega)])⟩
  · rw [f _ (by omega)]; exact g3
  · rw [f _ (by omega)]; exact g4
  · rw [f _ (by omega)]; exact g5
  · rw [f _ (by omega)]; exact g6 i hi
  · exact (hF.2.1 10 (by omega) (by omega) (by omega) (by omega) (by omega) (by omega)).trans g8.1
  · exact (hF.2.1 11 (by omega) (by omega) (by omega) (by omega) (by omega) (by omega)).trans g8.2
  · rw [f _ (by omega)]; exact g9
  · rw [f _ (by omega)]; exact g10
theorem ytH.u9 {X s p t n : Nat} {I : IH} {J : JH} {T : Nat → Int32} {y : YSt} {v : Int32} (h : ytH X s p t I J T n y) (l1 : X + 13 ≤ s) (l2 : X + 13 ≤ p) (l3 : s + 52 ≤ p ∨ p + 52 ≤ s) (l5 : p + 52 ≤ t) : ytH X s p t (u2 I (p + 4) 9 v) J T n y := by
  obtain ⟨g1, g2, g3, g4, g5, g6, g7, g8, g9, g10, g11, g12, g13⟩ := h
  refine ⟨g1.fr (u2_ne (by omega)) rfl, g2, ?_, ?_, ?_, fun i hi => ?_, fun i hi => ⟨(g7 i hi).1.mv (fun a _ _ => u2_ca _ _ _ _ _ _ (by omega)) (fun _ _ _ => rfl), fun k => ((g7 i hi).2 k).mv (u2_ca _ _ _ _ _ _ (by omega)) (u2_ca _ _ _ _ _ _ (by omega)) rfl⟩, ⟨?_, ?_⟩, ?_, ?_, g11, g12, g13⟩
  · rw [u2_ck _ _ _ _ _ _ (by omega)]; exact g3
  · rw [u2_ck _ _ _ _ _ _ (by omega)]; exact g4
  · rw [u2_ne (by omega)]; exact g5
  · rw [u2_ne (by omega)]; exact g6 i hi
  · rw [u2_ne (by omega)]; exact g8.1
  · rw [u2_ne (by omega)]; exact g8.2
  · rw [u2_ne (by omega)]; exact g9
  · rw [u2_ne (by omega)]; exact g10
def CET (X s p t : Nat) (I : IH) (J : JH) (T : Nat → Int32) (n : Nat) (x : YR) (Q1 Q0 : IH → JH → Prop) : Prop := match x with
  | .inl f => ∀ I' J', yF X p t I I' J J' → I' (X + 11) 10 = f.1 → I' (X + 11) 11 = nI f.2 → Q0 I' J'
  | .inr y => ∀ I' J', yF X p t I I' J J' → ytH X s p t I' J' T n y → y.2.1 = 0 → I' (p + 4) 9 = 1 → Q1 I' J'
theorem CET.fx {X s p t : Nat} {I I1 I2 : IH} {J J2 : JH} {T : Nat → Int32} {n e : Nat} {k : Int32} {f : PSt → YR} {Q1 Q0 : IH → JH → Prop} (h : CET X s p t I J T n (yB (pE T n k e) f) Q1 Q0) (hF : yF X p t I I2 J J2) (e2 : I2 (X + 11) = rej I1 X T n e k (X + 11)) : Q0 I2 J2 := by
  refine h _ _ hF ?_ ?_
  · rw [e2]
    unfold rej
    rw [u2_ck _ _ _ _ _ _ (by omega), u2_same]
  · rw [e2]
    unfold rej
    rw [u2_same]
theorem yrX1_E {T : Nat → Int32} {n m e : Nat} {k : Int32} {f g : PSt → YR} : yrX1 T n (yB (pE T n k e) f) = yB (pE T n k e) g := rfl
theorem wk_22 : ∀ x, kwK x → (wk x = 22 ↔ x = 20) := by
  have h : ∀ j, j < 24 → (wk (nI j) = 22 ↔ nI j = 20) := by decide +kernel
  rintro x (rfl | ⟨j, hj, rfl⟩)
  · decide +kernel
  · exact h j hj
theorem rdE.y {S : Sh} {X s p t n : Nat} {I I' : IH} {J J' : JH} {T : Nat → Int32} (h : rdE S I J X T n) (hx : yxS S X s p t) (hF : yF X p t I I' J J') : rdE S I' J' X T n := by
  obtain ⟨-, -, -, -, -, -, -, -, -, l1, l2, l3, l4, l5⟩ := hx
  exact h.mv (hF.1 _ (by omega) (by omega) (by omega) (by omega)) (hF.2 _ (by omega))
theorem dX10_take_0 : decode cX10_take 0 = .ok (.aload_n 0, 1) := by decide +kernel
theorem dX10_take_1 : decode cX10_take 1 = .ok (.getfield 23, 3) := by decide +kernel
theorem dX10_take_4 : decode cX10_take 4 = .ok (.invokevirtual 27, 3) := by decide +kernel
theorem dX10_take_7 : decode cX10_take 7 = .ok (.aload_n 0, 1) := by decide +kernel
theorem dX10_take_8 : decode cX10_take 8 = .ok (.getfield 15, 3) := by decide +kernel
theorem dX10_take_11 : decode cX10_take 11 = .ok (.iload_n 1, 1) := by decide +kernel
theorem dX10_take_12 : decode cX10_take 12 = .ok (.invokevirtual 32, 3) := by decide +kernel
theorem dX10_take_15 : decode cX10_take 15 = .ok (.iconst 0, 1) := by decide +kernel
theorem dX10_take_16 : decode cX10_take 16 = .ok (.istore_n 2, 1) := by decide +kernel
theorem dX10_take_17 : decode cX10_take 17 = .ok (.iload_n 2, 1) := by decide +kernel
theorem dX10_take_18 : decode cX10_take 18 = .ok (.sipush 300, 3) := by decide +kernel
theorem dX10_take_21 : decode cX10_take 21 = .ok (.if_icmp .ge 88, 3) := by decide +kernel
theorem dX10_take_24 : decode cX10_take 24 = .ok (.aload_n 0, 1) := by decide +kernel
theorem dX10_take_25 : decode cX10_take 25 = .ok (.getfield 15, 3) := by decide +kernel
theorem dX10_take_28 : decode cX10_take 28 = .ok (.invokevirtual 38, 3) := by decide +kernel
theorem dX10_take_31 : decode cX10_take 31 = .ok (.ifCond .ne 78, 3) := by decide +kernel
theorem dX10_take_34 : decode cX10_take 34 = .ok (.aload_n 0, 1) := by decide +kernel
theorem dX10_take_35 : decode cX10_take 35 = .ok (.getfield 15, 3) := by decide +kernel
theorem dX10_take_38 : decode cX10_take 38 = .ok (.getfield 42, 3) := by decide +kernel
theorem dX10_take_41 : decode cX10_take 41 = .ok (.bipush 22, 2) := by decide +kernel
theorem dX10_take_43 : decode cX10_take 43 = .ok (.if_icmp .ne 10, 3) := by decide +kernel
theorem dX10_take_46 : decode cX10_take 46 = .ok (.aload_n 0, 1) := by decide +kernel
theorem dX10_take_47 : decode cX10_take 47 = .ok (.invokevirtual 46, 3) := by decide +kernel
theorem dX10_take_50 : decode cX10_take 50 = .ok (.goto 36, 3) := by decide +kernel
theorem dX10_take_53 : decode cX10_take 53 = .ok (.aload_n 0, 1) := by decide +kernel
theorem dX10_take_54 : decode cX10_take 54 = .ok (.aload_n 0, 1) := by decide +kernel
theorem dX10_take_55 : decode cX10_take 55 = .ok (.getfield 15, 3) := by decide +kernel
theorem dX10_take_58 : decode cX10_take 58 = .ok (.getfield 42, 3) := by decide +kernel
theorem dX10_take_61 : decode cX10_take 61 = .ok (.invokevirtual 49, 3) := by decide +kernel
theorem dX10_take_64 : decode cX10_take 64 = .ok (.ifCond .eq 21, 3) := by decide +kernel
theorem dX10_take_67 : decode cX10_take 67 = .ok (.aload_n 0, 1) := by decide +kernel
theorem dX10_take_68 : decode cX10_take 68 = .ok (.aload_n 0, 1) := by decide +kernel
theorem dX10_take_69 : decode cX10_take 69 = .ok (.getfield 15, 3) := by decide +kernel
theorem dX10_take_72 : decode cX10_take 72 = .ok (.getfield 42, 3) := by decide +kernel
theorem dX10_take_75 : decode cX10_take 75 = .ok (.invokevirtual 53, 3) := by decide +kernel
theorem dX10_take_78 : decode cX10_take 78 = .ok (.ifCond .eq 7, 3) := by decide +kernel
theorem dX10_take_81 : decode cX10_take 81 = .ok (.iconst 1, 1) := by decide +kernel
theorem dX10_take_82 : decode cX10_take 82 = .ok (.goto 4, 3) := by decide +kernel
theorem dX10_take_85 : decode cX10_take 85 = .ok (.iconst 0, 1) := by decide +kernel
theorem dX10_take_86 : decode cX10_take 86 = .ok (.istore_n 3, 1) := by decide +kernel
theorem dX10_take_87 : decode cX10_take 87 = .ok (.iload_n 3, 1) := by decide +kernel
theorem dX10_take_88 : decode cX10_take 88 = .ok (.ifCond .eq 13, 3) := by decide +kernel
theorem dX10_take_91 : decode cX10_take 91 = .ok (.aload_n 0, 1) := by decide +kernel
theorem dX10_take_92 : decode cX10_take 92 = .ok (.getfield 15, 3) := by decide +kernel
theorem dX10_take_95 : decode cX10_take 95 = .ok (.invokevirtual 56, 3) := by decide +kernel
theorem dX10_take_98 : decode cX10_take 98 = .ok (.ifCond .ne 5, 3) := by decide +kernel
theorem dX10_take_101 : decode cX10_take 101 = .ok (.iconst 0, 1) := by decide +kernel
theorem dX10_take_102 : decode cX10_take 102 = .ok (.ireturn, 1) := by decide +kernel
theorem dX10_take_103 : decode cX10_take 103 = .ok (.iinc 2 1, 3) := by decide +kernel
theorem dX10_take_106 : decode cX10_take 106 = .ok (.goto (-89), 3) := by decide +kernel
theorem dX10_take_109 : decode cX10_take 109 = .ok (.aload_n 0, 1) := by decide +kernel
theorem dX10_take_110 : decode cX10_take 110 = .ok (.getfield 59, 3) := by decide +kernel
theorem dX10_take_113 : decode cX10_take 113 = .ok (.ifCond .le 12, 3) := by decide +kernel
theorem dX10_take_116 : decode cX10_take 116 = .ok (.aload_n 0, 1) := by decide +kernel
theorem dX10_take_117 : decode cX10_take 117 = .ok (.getfield 15, 3) := by decide +kernel
theorem dX10_take_120 : decode cX10_take 120 = .ok (.iconst 2, 1) := by decide +kernel
theorem dX10_take_121 : decode cX10_take 121 = .ok (.invokevirtual 62, 3) := by decide +kernel
theorem dX10_take_124 : decode cX10_take 124 = .ok (.ireturn, 1) := by decide +kernel
theorem dX10_take_125 : decode cX10_take 125 = .ok (.aload_n 0, 1) := by decide +kernel
theorem dX10_take_126 : decode cX10_take 126 = .ok (.getfield 23, 3) := by decide +kernel
theorem dX10_take_129 : decode cX10_take 129 = .ok (.iconst 1, 1) := by decide +kernel
theorem dX10_take_130 : decode cX10_take 130 = .ok (.putfield 65, 3) := by decide +kernel
theorem dX10_take_133 : decode cX10_take 133 = .ok (.iconst 1, 1) := by decide +kernel
theorem dX10_take_134 : decode cX10_take 134 = .ok (.ireturn, 1) := by decide +kernel
abbrev M_X10_take : MT := (yX10_take, cX10_take, 4, (some .boolean))
theorem cf_X10_take : fq_cf M_X10_take 1 := ⟨(mg_1 (List.mem_of_getElem? (i := 19) rfl) rfl), (mg_4 (List.mem_of_getElem? (i := 105) rfl) rfl), ⟨by decide, by decide, by decide +kernel⟩, by decide⟩
def B_X10_take_124 (l : Launch) (G : GT) (D mc ms : Nat) (Q : Post) : Cn := ix_zret mc ms Q
theorem b_X10_take_124 {l : Launch} {G : GT} {D mc ms : Nat} {Q : Post} : Imp l G M_X10_take (D + 6) mc ms Q (B_X10_take_124 l G D mc ms Q) 124 := sx_zret dX10_take_124 rfl
def B_X10_take_109 (l : Launch) (G : GT) (D mc ms : Nat) (Q : Post) : Cn := ix_aload 0 (ix_getI 10 4 (ix_if_le (ix_aload 0 (ix_getR 10 2 (ix_pushI 1 (ix_putZ 9 9 (ix_pushI 1 (ix_zret mc ms Q)))))) (ix_aload 0 (ix_getR 10 0 (ix_pushI 2 (ix_vcall 4 2 0 0 mc ms (sp_X4_reject G) ((B_X10_take_124 l G D mc ms Q))))))))
theorem b_X10_take_109 {l : Launch} {G : GT} {D mc ms : Nat} {Q : Post} : Imp l G M_X10_take (D + 6) mc ms Q (B_X10_take_109 l G D mc ms Q) 109 := sx_aload_n dX10_take_109 rfl (sx_getI dX10_take_110 fl_FootQuarrel_YearsText_59 (fun _ _ _ => rfl) (sx_if_le 125 dX10_take_113 (by decide) (sx_aload_n dX10_take_125 rfl (sx_getR dX10_take_126 fl_FootQuarrel_YearsText_23 (fun _ _ _ => rfl) (sx_iconst dX10_take_129 rfl (sx_putZ dX10_take_130 fl_FootQuarrel_YearsText_65 (by decide) (fun _ _ _ => rfl) (fun v h => by rcases h with h | h <;> subst h <;> exact ⟨rfl, rfl⟩) (sx_iconst dX10_take_133 rfl (sx_zret dX10_take_134 rfl)))))) (sx_aload_n dX10_take_116 rfl (sx_getR dX10_take_117 fl_FootQuarrel_YearsText_15 (fun _ _ _ => rfl) (sx_iconst dX10_take_120 rfl (sx_vcall dX10_take_121 cf_X4_reject (mg_4 (List.mem_of_getElem? (i := 113) rfl) rfl) (mg_3 (List.mem_of_getElem? (i := 217) rfl) rfl) (mg_3 (List.mem_of_getElem? (i := 218) rfl) rfl) rfl c_X4_reject (b_X10_take_124)))))))
def B_X10_take_101 (l : Launch) (G : GT) (D mc ms : Nat) (Q : Post) : Cn := ix_pushI 0 (ix_zret mc ms Q)
theorem b_X10_take_101 {l : Launch} {G : GT} {D mc ms : Nat} {Q : Post} : Imp l G M_X10_take (D + 6) mc ms Q (B_X10_take_101 l G D mc ms Q) 101 := sx_iconst dX10_take_101 rfl (sx_zret dX10_take_102 rfl)
def B_X10_take_98 (l : Launch) (G : GT) (D mc ms : Nat) (Q : Post) : Cn := ix_if_ne (ix_iinc 2 1 (fqAt l G M_X10_take (D + 6) mc ms Q 17)) ((B_X10_take_101 l G D mc ms Q))
theorem b_X10_take_98 {l : Launch} {G : GT} {D mc ms : Nat} {Q : Post} : Imp l G M_X10_take (D + 6) mc ms Q (B_X10_take_98 l G D mc ms Q) 98 := sx_if_ne 103 dX10_take_98 (by decide) (sx_iinc dX10_take_103 rfl (by decide) (sx_goto 17 dX10_take_106 (by decide) ((fun _ _ _ _ _ _ _ _ h => h)))) (b_X10_take_101)
def B_X10_take_86 (l : Launch) (G : GT) (D mc ms : Nat) (Q : Post) : Cn := ix_istore 3 (ix_iload 3 (ix_if_eq ((B_X10_take_101 l G D mc ms Q)) (ix_aload 0 (ix_getR 10 0 (ix_vcall 4 1 0 0 mc ms (sp_X4_takeStop G) ((B_X10_take_98 l G D mc ms Q)))))))
theorem b_X10_take_86 {l : Launch} {G : GT} {D mc ms : Nat} {Q : Post} : Imp l G M_X10_take (D + 6) mc ms Q (B_X10_take_86 l G D mc ms Q) 86 := sx_istore_n dX10_take_86 rfl (by decide) (sx_iload_n dX10_take_87 rfl (sx_if_eq 101 dX10_take_88 (by decide) (b_X10_take_101) (sx_aload_n dX10_take_91 rfl (sx_getR dX10_take_92 fl_FootQuarrel_YearsText_15 (fun _ _ _ => rfl) (sx_vcall dX10_take_95 cf_X4_takeStop (mg_4 (List.mem_of_getElem? (i := 149) rfl) rfl) (mg_4 (List.mem_of_getElem? (i := 65) rfl) rfl) (mg_4 (List.mem_of_getElem? (i := 66) rfl) rfl) rfl c_X4_takeStop (b_X10_take_98))))))
def B_X10_take_85 (l : Launch) (G : GT) (D mc ms : Nat) (Q : Post) : Cn := ix_pushI 0 ((B_X10_take_86 l G D mc ms Q))
theorem b_X10_take_85 {l : Launch} {G : GT} {D mc ms : Nat} {Q : Post} : Imp l G M_X10_take (D + 6) mc ms Q (B_X10_take_85 l G D mc ms Q) 85 := sx_iconst dX10_take_85 rfl (b_X10_take_86)
def B_X10_take_78 (l : Launch) (G : GT) (D mc ms : Nat) (Q : Post) : Cn := ix_if_eq ((B_X10_take_85 l G D mc ms Q)) (ix_pushI 1 ((B_X10_take_86 l G D mc ms Q)))
theorem b_X10_take_78 {l : Launch} {G : GT} {D mc ms : Nat} {Q : Post} : Imp l G M_X10_take (D + 6) mc ms Q (B_X10_take_78 l G D mc ms Q) 78 := sx_if_eq 85 dX10_take_78 (by decide) (b_X10_take_85) (sx_iconst dX10_take_81 rfl (sx_goto 86 dX10_take_82 (by decide) (b_X10_take_86)))
def B_X10_take_64 (l : Launch) (G : GT) (D mc ms : Nat) (Q : Post) : Cn := ix_if_eq ((B_X10_take_85 l G D mc ms Q)) (ix_aload 0 (ix_aload 0 (ix_getR 10 0 (ix_getI 4 8 (ix_vcall 10 2 0 0 mc ms (sp_X10_takeStep G) ((B_X10_take_78 l G D mc ms Q)))))))
theorem b_X10_take_64 {l : Launch} {G : GT} {D mc ms : Nat} {Q : Post} : Imp l G M_X10_take (D + 6) mc ms Q (B_X10_take_64 l G D mc ms Q) 64 := sx_if_eq 85 dX10_take_64 (by decide) (b_X10_take_85) (sx_aload_n dX10_take_67 rfl (sx_aload_n dX10_take_68 rfl (sx_getR dX10_take_69 fl_FootQuarrel_YearsText_15 (fun _ _ _ => rfl) (sx_getI dX10_take_72 fl_FootQuarrel_YearsText_42 (fun _ _ _ => rfl) (sx_vcall dX10_take_75 cf_X10_takeStep (mg_4 (List.mem_of_getElem? (i := 119) rfl) rfl) (mg_4 (List.mem_of_getElem? (i := 121) rfl) rfl) (mg_p (List.mem_of_getElem? (i := 20) rfl) rfl) rfl c_X10_takeStep (b_X10_take_78))))))
def B_X10_take_50 (l : Launch) (G : GT) (D mc ms : Nat) (Q : Post) : Cn := (B_X10_take_86 l G D mc ms Q)
theorem b_X10_take_50 {l : Launch} {G : GT} {D mc ms : Nat} {Q : Post} : Imp l G M_X10_take (D + 6) mc ms Q (B_X10_take_50 l G D mc ms Q) 50 := sx_goto 86 dX10_take_50 (by decide) (b_X10_take_86)
def B_X10_take_31 (l : Launch) (G : GT) (D mc ms : Nat) (Q : Post) : Cn := ix_if_ne ((B_X10_take_109 l G D mc ms Q)) (ix_aload 0 (ix_getR 10 0 (ix_getI 4 8 (ix_pushI 22 (ix_icmp_ne (ix_aload 0 (ix_aload 0 (ix_getR 10 0 (ix_getI 4 8 (ix_vcall 10 2 0 0 mc ms (sp_X10_mayBegin G) ((B_X10_take_64 l G D mc ms Q))))))) (ix_aload 0 (ix_vcall 10 1 0 0 mc ms (sp_X10_takeEnd G) ((B_X10_take_50 l G D mc ms Q)))))))))
theorem b_X10_take_31 {l : Launch} {G : GT} {D mc ms : Nat} {Q : Post} : Imp l G M_X10_take (D + 6) mc ms Q (B_X10_take_31 l G D mc ms Q) 31 := sx_if_ne 109 dX10_take_31 (by decide) (b_X10_take_109) (sx_aload_n dX10_take_34 rfl (sx_getR dX10_take_35 fl_FootQuarrel_YearsText_15 (fun _ _ _ => rfl) (sx_getI dX10_take_38 fl_FootQuarrel_YearsText_42 (fun _ _ _ => rfl) (sx_bipush dX10_take_41 rfl (sx_icmp_ne 53 dX10_take_43 (by decide) (sx_aload_n dX10_take_53 rfl (sx_aload_n dX10_take_54 rfl (sx_getR dX10_take_55 fl_FootQuarrel_YearsText_15 (fun _ _ _ => rfl) (sx_getI dX10_take_58 fl_FootQuarrel_YearsText_42 (fun _ _ _ => rfl) (sx_vcall dX10_take_61 cf_X10_mayBegin (mg_4 (List.mem_of_getElem? (i := 115) rfl) rfl) (mg_4 (List.mem_of_getElem? (i := 117) rfl) rfl) (mg_p (List.mem_of_getElem? (i := 19) rfl) rfl) rfl c_X10_mayBegin (b_X10_take_64)))))) (sx_aload_n dX10_take_46 rfl (sx_vcall dX10_take_47 cf_X10_takeEnd (mg_4 (List.mem_of_getElem? (i := 109) rfl) rfl) (mg_4 (List.mem_of_getElem? (i := 111) rfl) rfl) (mg_p (List.mem_of_getElem? (i := 18) rfl) rfl) rfl c_X10_takeEnd (b_X10_take_50))))))))
def B_X10_take_17 (l : Launch) (G : GT) (D mc ms : Nat) (Q : Post) : Cn := ix_iload 2 (ix_pushI 300 (ix_icmp_ge ((B_X10_take_109 l G D mc ms Q)) (ix_aload 0 (ix_getR 10 0 (ix_vcall 4 1 0 0 mc ms (sp_X4_isAtEnd G) ((B_X10_take_31 l G D mc ms Q)))))))
theorem b_X10_take_17 {l : Launch} {G : GT} {D mc ms : Nat} {Q : Post} : Imp l G M_X10_take (D + 6) mc ms Q (B_X10_take_17 l G D mc ms Q) 17 := sx_iload_n dX10_take_17 rfl (sx_sipush dX10_take_18 rfl (sx_icmp_ge 109 dX10_take_21 (by decide) (b_X10_take_109) (sx_aload_n dX10_take_24 rfl (sx_getR dX10_take_25 fl_FootQuarrel_YearsText_15 (fun _ _ _ => rfl) (sx_vcall dX10_take_28 cf_X4_isAtEnd (mg_4 (List.mem_of_getElem? (i := 108) rfl) rfl) (mg_3 (List.mem_of_getElem? (i := 209) rfl) rfl) (mg_3 (List.mem_of_getElem? (i := 210) rfl) rfl) rfl c_X4_isAtEnd (b_X10_take_31))))))
def B_X10_take_15 (l : Launch) (G : GT) (D mc ms : Nat) (Q : Post) : Cn := ix_pushI 0 (ix_istore 2 (fqAt l G M_X10_take (D + 6) mc ms Q 17))
theorem b_X10_take_15 {l : Launch} {G : GT} {D mc ms : Nat} {Q : Post} : Imp l G M_X10_take (D + 6) mc ms Q (B_X10_take_15 l G D mc ms Q) 15 := sx_iconst dX10_take_15 rfl (sx_istore_n dX10_take_16 rfl (by decide) ((fun _ _ _ _ _ _ _ _ h => h)))
def B_X10_take_7 (l : Launch) (G : GT) (D mc ms : Nat) (Q : Post) : Cn := ix_aload 0 (ix_getR 10 0 (ix_iload 1 (ix_vcall 4 2 0 0 mc ms (sp_X4_begin G) ((B_X10_take_15 l G D mc ms Q)))))
theorem b_X10_take_7 {l : Launch} {G : GT} {D mc ms : Nat} {Q : Post} : Imp l G M_X10_take (D + 6) mc ms Q (B_X10_take_7 l G D mc ms Q) 7 := sx_aload_n dX10_take_7 rfl (sx_getR dX10_take_8 fl_FootQuarrel_YearsText_15 (fun _ _ _ => rfl) (sx_iload_n dX10_take_11 rfl (sx_vcall dX10_take_12 cf_X4_begin (mg_4 (List.mem_of_getElem? (i := 107) rfl) rfl) (mg_3 (List.mem_of_getElem? (i := 175) rfl) rfl) (mg_3 (List.mem_of_getElem? (i := 176) rfl) rfl) rfl c_X4_begin (b_X10_take_15))))
def B_X10_take_0 (l : Launch) (G : GT) (D mc ms : Nat) (Q : Post) : Cn := ix_aload 0 (ix_getR 10 2 (ix_vcall 9 1 0 0 mc ms (sp_X9_clear G) ((B_X10_take_7 l G D mc ms Q))))
theorem b_X10_take_0 {l : Launch} {G : GT} {D mc ms : Nat} {Q : Post} : Imp l G M_X10_take (D + 6) mc ms Q (B_X10_take_0 l G D mc ms Q) 0 := sx_aload_n dX10_take_0 rfl (sx_getR dX10_take_1 fl_FootQuarrel_YearsText_23 (fun _ _ _ => rfl) (sx_vcall dX10_take_4 cf_X9_clear (mg_4 (List.mem_of_getElem? (i := 106) rfl) rfl) (mg_2 (List.mem_of_getElem? (i := 129) rfl) rfl) (mg_2 (List.mem_of_getElem? (i := 130) rfl) rfl) rfl c_X9_clear (b_X10_take_7)))
def sp_X10_take (G : GT) : Sp := fun as S I J z Q => match as with
  | [.ref a, .int b] => ∃ (X s p t : Nat) (T : Nat → Int32) (n : Nat) (A : Nat → Int32) (N : Nat → Int64) (O : Nat → Int32), t = a ∧ b = nI n ∧ n ≤ 300 ∧ yxS S X s p t ∧ rdE S I J X T n ∧ I t 4 = 0 ∧ I s 5 = A 0 ∧ I s 6 = A 1 ∧ okN (A 0) 6 ∧ okN (A 1) 8 ∧ nmsR J s N 0 (A 0).toNatClampNeg (A 1).toNatClampNeg ∧ CET X s p t I J T n (yrX1 T n (yrX0 T A N O n)) (fun I' J' => Q (some (.int 1)) S I' J' z) (fun I' J' => Q (some (.int 0)) S I' J' z)
  | _ => False
set_option maxHeartbeats 4000000 in
set_option maxRecDepth 20000 in
theorem c_X10_take {l : Launch} {G : GT} {D : Nat} : ∀ as S I J z Q, sp_X10_take G as S I J z Q → fqCall l G M_X10_take (D + 6) 0 0 as S I J z Q := by
  intro as S I J z Q h
  unfold sp_X10_take at h
  split at h
  · next a b =>
    obtain ⟨X, s, p, t, T, n, A, N, O, rfl, rfl, n3, hx, hE, t4, a5, a6, o5, o6, hN, hR⟩ := h
    have hx0 := hx
    obtain ⟨x1, x2, x3, x4, x5, x6, x7, hs, hp, l1, l2, l3, l4, l5⟩ := hx
    have s1 := hE.1.1
    have n9 := hE.2.1
    have lp : ∀ (f k : Nat) (y : YSt) (I1 : IH) (J1 : JH) (o : Option Value), n - y.1.2.2 < f → k ≤ y.1.2.2 → yW y → ytH X s p t I1 J1 T n y → yF X p t I I1 J J1 → CET X s p t I J T n (yrX1 T n (pYt T n (A 0).toNatClampNeg (A 1).toNatClampNeg f y)) (fun I' J' => Q (some (.int 1)) S I' J' z) (fun I' J' => Q (some (.int 0)) S I' J' z) → fqAt l G M_X10_take (D + 6) 0 0 Q 17 [some (.ref t), some (.int (nI n)), some (.int (nI k)), o] [] S I1 J1 z 0 0 := by
      intro f
      induction f with
      | zero => exact fun k y I1 J1 o h => absurd h (by omega)
      | succ f ih =>
        intro k y I1 J1 o hf hk hW hH hF hR
        obtain ⟨⟨B, M, e⟩, d, c, P⟩ := y
        have hW0 := hW
        obtain ⟨m, hm, hmd, hc, hd, hP, -, -⟩ := hW
        dsimp only at hf hk hm hmd hc hd hP
        have hn := hH.2.1
        dsimp only at hn
        have hE1 := hE.y hx0 hF
        have hq := hH.q hE1
        dsimp only at hq
        have es : I1 s = I s := hF.1 s (by omega) (by omega) (by omega) (by omega)
        have B0 : B 0 = A 0 := by
          have := hH.2.2.2.2.2.2.2.2.1
          rw [es, a5] at this
          exact this.symm
        have B1 : B 1 = A 1 := by
          have := hH.2.2.2.2.2.2.2.2.2.1
          rw [es, a6] at this
          exact this.symm
        have g4 := hH.2.2.2.1
        have g5 := hH.2.2.2.2.1
        dsimp only at g4 g5
        have r8 := hq.2.1.2.2.2.2.1
        unfold pYt at hR
        dsimp only at hR
        have h0 : tK T n n = 0 := tK_end
        have b109 : tK T n e = 0 → B_X10_take_109 l G D 0 0 Q [some (.ref t), some (.int (nI n)), some (.int (nI k)), o] [] S I1 J1 z 0 0 := by
          intro q
          rw [if_pos q] at hR
          unfold yrX1 at hR
          dsimp only at hR
          simp (disch := omega) only [B_X10_take_109, x1, x2, x3, x4, s1, g5, hp.k, hp.r0, hp.k1, hp.r1, hp.k2, hp.r2, hp.k3, hp.r3, hp.k4, hp.r4, hp.k12, hp.n1, hp.n2, hp.n3, hp.y0, hp.k5, hp.n5, hp.y1, hp.k6, hp.n6, hp.y2, hp.k7, hp.n7, hp.y3, hp.k8, hp.n8, hp.y4, hp.k9, hp.n9, hp.y5, hp.k10, hp.n10, hp.y6, hp.k11, hp.n11, hp.p0, hp.p1, hp.p2, hp.k13, hp.n13, hp.q0, hp.q1, hp.k14, hp.k15, hp.k16, hp.n16, hp.k17, hp.n17, hp.rH, hp.kH, hp.rP, hp.kP, hp.rQ, hp.kQ, nI_1, nI_add, nI_clamp, nI_pin, nI_neg, nI_nonneg, nI_leE, nI_ltE, nI_eqE, Nat.not_le, Nat.not_lt, fq_10, fq_01, fq_rr, ix_aald, ix_aast, ix_abs, ix_alen, ix_aload, ix_aret, ix_astore, ix_bald, ix_bast, ix_call, ix_cpyI, ix_cpyJ, ix_dead, ix_dup2, ix_dup2L, ix_dupI, ix_dupR, ix_dupx1, ix_getI, ix_getJ, ix_getR, ix_gfm, ix_gtab, ix_i2b, ix_i2c, ix_i2l, ix_i2s, ix_iadd, ix_iald, ix_iand, ix_iast, ix_icall, ix_icmp_eq, ix_icmp_ge, ix_icmp_gt, ix_icmp_le, ix_icmp_lt, ix_icmp_ne, ix_idiv, ix_if_eq, ix_if_ge, ix_if_gt, ix_if_le, ix_if_lt, ix_if_ne, ix_iinc, ix_iload, ix_imul, ix_ineg, ix_ior, ix_irem, ix_iret, ix_ishl, ix_ishr, ix_istore, ix_isub, ix_iushr, ix_ixor, ix_l2i, ix_ladd, ix_lald, ix_land, ix_last, ix_lcmp, ix_ldcS, ix_ldiv, ix_lload, ix_lmul, ix_lor, ix_lrem, ix_lret, ix_lshl, ix_lstore, ix_lsub, ix_lsw, ix_max, ix_min, ix_new, ix_newa, ix_nret, ix_oinit, ix_pop2L, ix_popI, ix_pushI, ix_pushL, ix_putI, ix_putJ, ix_putR, ix_putZ, ix_sbald, ix_sgetC, ix_sgetV, ix_slen, ix_strc, ix_tald, ix_tsw, ix_vcall, ix_vret, ix_zret, stL, stL2, kilL, popN, fq_sw, fq_lsw, List.map_cons, List.map_nil, List.getElem?_cons_zero, List.getElem?_cons_succ, Option.toList_some, Option.toList_none, List.cons_append, List.nil_append, List.length_cons, List.length_nil, List.sum_cons, List.sum_nil, cat_i, cat_l, cat_r, true_and, and_true, Nat.zero_add, Nat.add_zero, Nat.le_refl, Nat.zero_le, Nat.reduceAdd, Nat.reduceLeDiff, exists_eq_left', Option.some.injEq, not_true_eq_false, not_false_eq_true, false_implies, true_implies, implies_true, and_self, or_true, true_or, or_false, false_or]
          by_cases q0 : d = 0
          · rw [if_pos q0] at hR
            refine ⟨fun _ => ?_, fun r => absurd r ?_⟩
            · refine hR _ _ (hF.u (by omega)) ?_ q0 (u2_same _ _ _ _)
              exact hH.u9 l1 l2 l3 l5
            · exact fun q => q (by rw [q0]; decide)
          · rw [if_neg q0] at hR
            refine ⟨fun r => absurd r ?_, fun _ => rej_R hq ?_⟩
            · exact fun r => q0 (by
                have := (nI_leI (a := d) (b := 0) (by omega) (by omega)).mp r
                omega)
            · simp (disch := omega) only [B_X10_take_124, nI_1, nI_add, nI_clamp, nI_pin, nI_neg, nI_nonneg, nI_leE, nI_ltE, nI_eqE, Nat.not_le, Nat.not_lt, fq_10, fq_01, fq_rr, ix_aald, ix_aast, ix_abs, ix_alen, ix_aload, ix_aret, ix_astore, ix_bald, ix_bast, ix_call, ix_cpyI, ix_cpyJ, ix_dead, ix_dup2, ix_dup2L, ix_dupI, ix_dupR, ix_dupx1, ix_getI, ix_getJ, ix_getR, ix_gfm, ix_gtab, ix_i2b, ix_i2c, ix_i2l, ix_i2s, ix_iadd, ix_iald, ix_iand, ix_iast, ix_icall, ix_icmp_eq, ix_icmp_ge, ix_icmp_gt, ix_icmp_le, ix_icmp_lt, ix_icmp_ne, ix_idiv, ix_if_eq, ix_if_ge, ix_if_gt, ix_if_le, ix_if_lt, ix_if_ne, ix_iinc, ix_iload, ix_imul, ix_ineg, ix_ior, ix_irem, ix_iret, ix_ishl, ix_ishr, ix_istore, ix_isub, ix_iushr, ix_ixor, ix_l2i, ix_ladd, ix_lald, ix_land, ix_last, ix_lcmp, ix_ldcS, ix_ldiv, ix_lload, ix_lmul, ix_lor, ix_lrem, ix_lret, ix_lshl, ix_lstore, ix_lsub, ix_lsw, ix_max, ix_min, ix_new, ix_newa, ix_nret, ix_oinit, ix_pop2L, ix_popI, ix_pushI, ix_pushL, ix_putI, ix_putJ, ix_putR, ix_putZ, ix_sbald, ix_sgetC, ix_sgetV, ix_slen, ix_strc, ix_tald, ix_tsw, ix_vcall, ix_vret, ix_zret, stL, stL2, kilL, popN, fq_sw, fq_lsw, List.map_cons, List.map_nil, List.getElem?_cons_zero, List.getElem?_cons_succ, Option.toList_some, Option.toList_none, List.cons_append, List.nil_append, List.length_cons, List.length_nil, List.sum_cons, List.sum_nil, cat_i, cat_l, cat_r, true_and, and_true, Nat.zero_add, Nat.add_zero, Nat.le_refl, Nat.zero_le, Nat.reduceAdd, Nat.reduceLeDiff, exists_eq_left', Option.some.injEq, not_true_eq_false, not_false_eq_true, false_implies, true_implies, implies_true, and_self, or_true, true_or, or_false, false_or]
              exact CET.fx hR (hF.tr yF.rj) rfl
        refine b_X10_take_17 _ _ _ _ _ _ _ _ ?_
        simp (disch := omega) only [B_X10_take_17, x1, x2, x3, x4, s1, li_300, hp.k, hp.r0, hp.k1, hp.r1, hp.k2, hp.r2, hp.k3, hp.r3, hp.k4, hp.r4, hp.k12, hp.n1, hp.n2, hp.n3, hp.y0, hp.k5, hp.n5, hp.y1, hp.k6, hp.n6, hp.y2, hp.k7, hp.n7, hp.y3, hp.k8, hp.n8, hp.y4, hp.k9, hp.n9, hp.y5, hp.k10, hp.n10, hp.y6, hp.k11, hp.n11, hp.p0, hp.p1, hp.p2, hp.k13, hp.n13, hp.q0, hp.q1, hp.k14, hp.k15, hp.k16, hp.n16, hp.k17, hp.n17, hp.rH, hp.kH, hp.rP, hp.kP, hp.rQ, hp.kQ, nI_1, nI_add, nI_clamp, nI_pin, nI_neg, nI_nonneg, nI_leE, nI_ltE, nI_eqE, Nat.not_le, Nat.not_lt, fq_10, fq_01, fq_rr, ix_aald, ix_aast, ix_abs, ix_alen, ix_aload, ix_aret, ix_astore, ix_bald, ix_bast, ix_call, ix_cpyI, ix_cpyJ, ix_dead, ix_dup2, ix_dup2L, ix_dupI, ix_dupR, ix_dupx1, ix_getI, ix_getJ, ix_getR, ix_gfm, ix_gtab, ix_i2b, ix_i2c, ix_i2l, ix_i2s, ix_iadd, ix_iald, ix_iand, ix_iast, ix_icall, ix_icmp_eq, ix_icmp_ge, ix_icmp_gt, ix_icmp_le, ix_icmp_lt, ix_icmp_ne, ix_idiv, ix_if_eq, ix_if_ge, ix_if_gt, ix_if_le, ix_if_lt, ix_if_ne, ix_iinc, ix_iload, ix_imul, ix_ineg, ix_ior, ix_irem, ix_iret, ix_ishl, ix_ishr, ix_istore, ix_isub, ix_iushr, ix_ixor, ix_l2i, ix_ladd, ix_lald, ix_land, ix_last, ix_lcmp, ix_ldcS, ix_ldiv, ix_lload, ix_lmul, ix_lor, ix_lrem, ix_lret, ix_lshl, ix_lstore, ix_lsub, ix_lsw, ix_max, ix_min, ix_new, ix_newa, ix_nret, ix_oinit, ix_pop2L, ix_popI, ix_pushI, ix_pushL, ix_putI, ix_putJ, ix_putR, ix_putZ, ix_sbald, ix_sgetC, ix_sgetV, ix_slen, ix_strc, ix_tald, ix_tsw, ix_vcall, ix_vret, ix_zret, stL, stL2, kilL, popN, fq_sw, fq_lsw, List.map_cons, List.map_nil, List.getElem?_cons_zero, List.getElem?_cons_succ, Option.toList_some, Option.toList_none, List.cons_append, List.nil_append, List.length_cons, List.length_nil, List.sum_cons, List.sum_nil, cat_i, cat_l, cat_r, true_and, and_true, Nat.zero_add, Nat.add_zero, Nat.le_refl, Nat.zero_le, Nat.reduceAdd, Nat.reduceLeDiff, exists_eq_left', Option.some.injEq, not_true_eq_false, not_false_eq_true, false_implies, true_implies, implies_true, and_self, or_true, true_or, or_false, false_or]
        refine ⟨fun q => b109 ?_, fun q => ⟨X, T, n, e, rfl, hq, ?_⟩⟩
        · rw [show e = n by omega]
          exact h0
        · by_cases q0 : tK T n e = 0
          · simp (disch := omega) only [B_X10_take_31, bI_t q0, nI_1, nI_add, nI_clamp, nI_pin, nI_neg, nI_nonneg, nI_leE, nI_ltE, nI_eqE, Nat.not_le, Nat.not_lt, fq_10, fq_01, fq_rr, ix_aald, ix_aast, ix_abs, ix_alen, ix_aload, ix_aret, ix_astore, ix_bald, ix_bast, ix_call, ix_cpyI, ix_cpyJ, ix_dead, ix_dup2, ix_dup2L, ix_dupI, ix_dupR, ix_dupx1, ix_getI, ix_getJ, ix_getR, ix_gfm, ix_gtab, ix_i2b, ix_i2c, ix_i2l, ix_i2s, ix_iadd, ix_iald, ix_iand, ix_iast, ix_icall, ix_icmp_eq, ix_icmp_ge, ix_icmp_gt, ix_icmp_le, ix_icmp_lt, ix_icmp_ne, ix_idiv, ix_if_eq, ix_if_ge, ix_if_gt, ix_if_le, ix_if_lt, ix_if_ne, ix_iinc, ix_iload, ix_imul, ix_ineg, ix_ior, ix_irem, ix_iret, ix_ishl, ix_ishr, ix_istore, ix_isub, ix_iushr, ix_ixor, ix_l2i, ix_ladd, ix_lald, ix_land, ix_last, ix_lcmp, ix_ldcS, ix_ldiv, ix_lload, ix_lmul, ix_lor, ix_lrem, ix_lret, ix_lshl, ix_lstore, ix_lsub, ix_lsw, ix_max, ix_min, ix_new, ix_newa, ix_nret, ix_oinit, ix_pop2L, ix_popI, ix_pushI, ix_pushL, ix_putI, ix_putJ, ix_putR, ix_putZ, ix_sbald, ix_sgetC, ix_sgetV, ix_slen, ix_strc, ix_tald, ix_tsw, ix_vcall, ix_vret, ix_zret, stL, stL2, kilL, popN, fq_sw, fq_lsw, List.map_cons, List.map_nil, List.getElem?_cons_zero, List.getElem?_cons_succ, Option.toList_some, Option.toList_none, List.cons_append, List.nil_append, List.length_cons, List.length_nil, List.sum_cons, List.sum_nil, cat_i, cat_l, cat_r, true_and, and_true, Nat.zero_add, Nat.add_zero, Nat.le_refl, Nat.zero_le, Nat.reduceAdd, Nat.reduceLeDiff, exists_eq_left', Option.some.injEq, not_true_eq_false, not_false_eq_true, false_implies, true_implies, implies_true, and_self, or_true, true_or, or_false, false_or]
            exact b109 q0
          · rw [if_neg q0] at hR
            have kr := kw_r T n e
            have w22 := wk_22 _ kr
            have e1 := (tFE hn (T := T)).2.2.2
            have ok := fun y' => pYs_ok (T := T) (hm := (A 0).toNatClampNeg) (pm := (A 1).toNatClampNeg) (y := ((B, M, e), d, c, P)) (y' := y') hn hW0
            have flt : ∀ I2 J2, Q (some (.int 0)) S I2 J2 z → B_X10_take_86 l G D 0 0 Q [some (.ref t), some (.int (nI n)), some (.int (nI k)), o] [.int 0] S I2 J2 z 0 0 := by
              intro I2 J2 h
              simp (disch := omega) only [B_X10_take_86, B_X10_take_101, nI_1, nI_add, nI_clamp, nI_pin, nI_neg, nI_nonneg, nI_leE, nI_ltE, nI_eqE, Nat.not_le, Nat.not_lt, fq_10, fq_01, fq_rr, ix_aald, ix_aast, ix_abs, ix_alen, ix_aload, ix_aret, ix_astore, ix_bald, ix_bast, ix_call, ix_cpyI, ix_cpyJ, ix_dead, ix_dup2, ix_dup2L, ix_dupI, ix_dupR, ix_dupx1, ix_getI, ix_getJ, ix_getR, ix_gfm, ix_gtab, ix_i2b, ix_i2c, ix_i2l, ix_i2s, ix_iadd, ix_iald, ix_iand, ix_iast, ix_icall, ix_icmp_eq, ix_icmp_ge, ix_icmp_gt, ix_icmp_le, ix_icmp_lt, ix_icmp_ne, ix_idiv, ix_if_eq, ix_if_ge, ix_if_gt, ix_if_le, ix_if_lt, ix_if_ne, ix_iinc, ix_iload, ix_imul, ix_ineg, ix_ior, ix_irem, ix_iret, ix_ishl, ix_ishr, ix_istore, ix_isub, ix_iushr, ix_ixor, ix_l2i, ix_ladd, ix_lald, ix_land, ix_last, ix_lcmp, ix_ldcS, ix_ldiv, ix_lload, ix_lmul, ix_lor, ix_lrem, ix_lret, ix_lshl, ix_lstore, ix_lsub, ix_lsw, ix_max, ix_min, ix_new, ix_newa, ix_nret, ix_oinit, ix_pop2L, ix_popI, ix_pushI, ix_pushL, ix_putI, ix_putJ, ix_putR, ix_putZ, ix_sbald, ix_sgetC, ix_sgetV, ix_slen, ix_strc, ix_tald, ix_tsw, ix_vcall, ix_vret, ix_zret, stL, stL2, kilL, popN, fq_sw, fq_lsw, List.map_cons, List.map_nil, List.getElem?_cons_zero, List.getElem?_cons_succ, Option.toList_some, Option.toList_none, List.cons_append, List.nil_append, List.length_cons, List.length_nil, List.sum_cons, List.sum_nil, cat_i, cat_l, cat_r, true_and, and_true, Nat.zero_add, Nat.add_zero, Nat.le_refl, Nat.zero_le, Nat.reduceAdd, Nat.reduceLeDiff, exists_eq_left', Option.some.injEq, not_true_eq_false, not_false_eq_true, false_implies, true_implies, implies_true, and_self, or_true, true_or, or_false, false_or]
              exact h
            have aft : ∀ (y1 : YSt) (I2 : IH) (J2 : JH), pYs T n (A 0).toNatClampNeg (A 1).toNatClampNeg ((B, M, e), d, c, P) = yB (pSg T n 59 y1.1) (fun s3 => .inr (s3, y1.2)) → yF X p t I I2 J J2 → ytH X s p t I2 J2 T n y1 → B_X10_take_86 l G D 0 0 Q [some (.ref t), some (.int (nI n)), some (.int (nI k)), o] [.int 1] S I2 J2 z 0 0 := by
              intro y1 I2 J2 hp1 hF2 hH2
              rw [hp1] at hR
              simp only [hp1] at ok
              have hE2 := hE.y hx0 hF2
              simp (disch := omega) only [B_X10_take_86, x1, x2, x3, x4, s1, hp.k, hp.r0, hp.k1, hp.r1, hp.k2, hp.r2, hp.k3, hp.r3, hp.k4, hp.r4, hp.k12, hp.n1, hp.n2, hp.n3, hp.y0, hp.k5, hp.n5, hp.y1, hp.k6, hp.n6, hp.y2, hp.k7, hp.n7, hp.y3, hp.k8, hp.n8, hp.y4, hp.k9, hp.n9, hp.y5, hp.k10, hp.n10, hp.y6, hp.k11, hp.n11, hp.p0, hp.p1, hp.p2, hp.k13, hp.n13, hp.q0, hp.q1, hp.k14, hp.k15, hp.k16, hp.n16, hp.k17, hp.n17, hp.rH, hp.kH, hp.rP, hp.kP, hp.rQ, hp.kQ, nI_1, nI_add, nI_clamp, nI_pin, nI_neg, nI_nonneg, nI_leE, nI_ltE, nI_eqE, Nat.not_le, Nat.not_lt, fq_10, fq_01, fq_rr, ix_aald, ix_aast, ix_abs, ix_alen, ix_aload, ix_aret, ix_astore, ix_bald, ix_bast, ix_call, ix_cpyI, ix_cpyJ, ix_dead, ix_dup2, ix_dup2L, ix_dupI, ix_dupR, ix_dupx1, ix_getI, ix_getJ, ix_getR, ix_gfm, ix_gtab, ix_i2b, ix_i2c, ix_i2l, ix_i2s, ix_iadd, ix_iald, ix_iand, ix_iast, ix_icall, ix_icmp_eq, ix_icmp_ge, ix_icmp_gt, ix_icmp_le, ix_icmp_lt, ix_icmp_ne, ix_idiv, ix_if_eq, ix_if_ge, ix_if_gt, ix_if_le, ix_if_lt, ix_if_ne, ix_iinc, ix_iload, ix_imul, ix_ineg, ix_ior, ix_irem, ix_iret, ix_ishl, ix_ishr, ix_istore, ix_isub, ix_iushr, ix_ixor, ix_l2i, ix_ladd, ix_lald, ix_land, ix_last, ix_lcmp, ix_ldcS, ix_ldiv, ix_lload, ix_lmul, ix_lor, ix_lrem, ix_lret, ix_lshl, ix_lstore, ix_lsub, ix_lsw, ix_max, ix_min, ix_new, ix_newa, ix_nret, ix_oinit, ix_pop2L, ix_popI, ix_pushI, ix_pushL, ix_putI, ix_putJ, ix_putR, ix_putZ, ix_sbald, ix_sgetC, ix_sgetV, ix_slen, ix_strc, ix_tald, ix_tsw, ix_vcall, ix_vret, ix_zret, stL, stL2, kilL, popN, fq_sw, fq_lsw, List.map_cons, List.map_nil, List.getElem?_cons_zero, List.getElem?_cons_succ, Option.toList_some, Option.toList_none, List.cons_append, List.nil_append, List.length_cons, List.length_nil, List.sum_cons, List.sum_nil, cat_i, cat_l, cat_r, true_and, and_true, Nat.zero_add, Nat.add_zero, Nat.le_refl, Nat.zero_le, Nat.reduceAdd, Nat.reduceLeDiff, exists_eq_left', Option.some.injEq, not_true_eq_false, not_false_eq_true, false_implies, true_implies, implies_true, and_self, or_true, true_or, or_false, false_or]
              have e2 := (tFE hH2.2.1 (T := T)).2.2.2
              unfold pSg at hR ok
              refine ⟨X, T, n, y1.1.2.2, rfl, hH2.q hE2, fun g => ?_, fun g I3 J3 hF3 hH3 => ?_⟩
              · rw [if_pos g] at hR
                simp (disch := omega) only [B_X10_take_98, B_X10_take_101, nI_1, nI_add, nI_clamp, nI_pin, nI_neg, nI_nonneg, nI_leE, nI_ltE, nI_eqE, Nat.not_le, Nat.not_lt, fq_10, fq_01, fq_rr, ix_aald, ix_aast, ix_abs, ix_alen, ix_aload, ix_aret, ix_astore, ix_bald, ix_bast, ix_call, ix_cpyI, ix_cpyJ, ix_dead, ix_dup2, ix_dup2L, ix_dupI, ix_dupR, ix_dupx1, ix_getI, ix_getJ, ix_getR, ix_gfm, ix_gtab, ix_i2b, ix_i2c, ix_i2l, ix_i2s, ix_iadd, ix_iald, ix_iand, ix_iast, ix_icall, ix_icmp_eq, ix_icmp_ge, ix_icmp_gt, ix_icmp_le, ix_icmp_lt, ix_icmp_ne, ix_idiv, ix_if_eq, ix_if_ge, ix_if_gt, ix_if_le, ix_if_lt, ix_if_ne, ix_iinc, ix_iload, ix_imul, ix_ineg, ix_ior, ix_irem, ix_iret, ix_ishl, ix_ishr, ix_istore, ix_isub, ix_iushr, ix_ixor, ix_l2i, ix_ladd, ix_lald, ix_land, ix_last, ix_lcmp, ix_ldcS, ix_ldiv, ix_lload, ix_lmul, ix_lor, ix_lrem, ix_lret, ix_lshl, ix_lstore, ix_lsub, ix_lsw, ix_max, ix_min, ix_new, ix_newa, ix_nret, ix_oinit, ix_pop2L, ix_popI, ix_pushI, ix_pushL, ix_putI, ix_putJ, ix_putR, ix_putZ, ix_sbald, ix_sgetC, ix_sgetV, ix_slen, ix_strc, ix_tald, ix_tsw, ix_vcall, ix_vret, ix_zret, stL, stL2, kilL, popN, fq_sw, fq_lsw, List.map_cons, List.map_nil, List.getElem?_cons_zero, List.getElem?_cons_succ, Option.toList_some, Option.toList_none, List.cons_append, List.nil_append, List.length_cons, List.length_nil, List.sum_cons, List.sum_nil, cat_i, cat_l, cat_r, true_and, and_true, Nat.zero_add, Nat.add_zero, Nat.le_refl, Nat.zero_le, Nat.reduceAdd, Nat.reduceLeDiff, exists_eq_left', Option.some.injEq, not_true_eq_false, not_false_eq_true, false_implies, true_implies, implies_true, and_self, or_true, true_or, or_false, false_or]
                exact CET.fx (f := fun s3 => .inr (s3, y1.2)) hR (hF2.tr yF.rj) rfl
              · rw [if_neg (fun r => r g)] at hR
                simp only [if_neg (fun r => r g : ¬ ¬ (tK T n y1.1.2.2 = 4 ∧ tV T n y1.1.2.2 = 59))] at ok
                dsimp only [yB] at hR ok
                obtain ⟨o1, o2, o3⟩ := ok _ rfl
                dsimp only at o1 o2
                simp (disch := omega) only [B_X10_take_98, nI_1, nI_add, nI_clamp, nI_pin, nI_neg, nI_nonneg, nI_leE, nI_ltE, nI_eqE, Nat.not_le, Nat.not_lt, fq_10, fq_01, fq_rr, ix_aald, ix_aast, ix_abs, ix_alen, ix_aload, ix_aret, ix_astore, ix_bald, ix_bast, ix_call, ix_cpyI, ix_cpyJ, ix_dead, ix_dup2, ix_dup2L, ix_dupI, ix_dupR, ix_dupx1, ix_getI, ix_getJ, ix_getR, ix_gfm, ix_gtab, ix_i2b, ix_i2c, ix_i2l, ix_i2s, ix_iadd, ix_iald, ix_iand, ix_iast, ix_icall, ix_icmp_eq, ix_icmp_ge, ix_icmp_gt, ix_icmp_le, ix_icmp_lt, ix_icmp_ne, ix_idiv, ix_if_eq, ix_if_ge, ix_if_gt, ix_if_le, ix_if_lt, ix_if_ne, ix_iinc, ix_iload, ix_imul, ix_ineg, ix_ior, ix_irem, ix_iret, ix_ishl, ix_ishr, ix_istore, ix_isub, ix_iushr, ix_ixor, ix_l2i, ix_ladd, ix_lald, ix_land, ix_last, ix_lcmp, ix_ldcS, ix_ldiv, ix_lload, ix_lmul, ix_lor, ix_lrem, ix_lret, ix_lshl, ix_lstore, ix_lsub, ix_lsw, ix_max, ix_min, ix_new, ix_newa, ix_nret, ix_oinit, ix_pop2L, ix_popI, ix_pushI, ix_pushL, ix_putI, ix_putJ, ix_putR, ix_putZ, ix_sbald, ix_sgetC, ix_sgetV, ix_slen, ix_strc, ix_tald, ix_tsw, ix_vcall, ix_vret, ix_zret, stL, stL2, kilL, popN, fq_sw, fq_lsw, List.map_cons, List.map_nil, List.getElem?_cons_zero, List.getElem?_cons_succ, Option.toList_some, Option.toList_none, List.cons_append, List.nil_append, List.length_cons, List.length_nil, List.sum_cons, List.sum_nil, cat_i, cat_l, cat_r, true_and, and_true, Nat.zero_add, Nat.add_zero, Nat.le_refl, Nat.zero_le, Nat.reduceAdd, Nat.reduceLeDiff, exists_eq_left', Option.some.injEq, not_true_eq_false, not_false_eq_true, false_implies, true_implies, implies_true, and_self, or_true, true_or, or_false, false_or]
                exact ih (k + 1) ((y1.1.1, y1.1.2.1, tE T n y1.1.2.2), y1.2) I3 J3 _ (by dsimp only; omega) (by dsimp only; omega) o3 (hH2.rd l1 l2 l5 hF3 hH3 e2) (hF2.tr (yF.rd hF3)) hR
            simp (disch := omega) only [B_X10_take_31, bI_f q0, r8, x1, x2, x3, x4, s1, hp.k, hp.r0, hp.k1, hp.r1, hp.k2, hp.r2, hp.k3, hp.r3, hp.k4, hp.r4, hp.k12, hp.n1, hp.n2, hp.n3, hp.y0, hp.k5, hp.n5, hp.y1, hp.k6, hp.n6, hp.y2, hp.k7, hp.n7, hp.y3, hp.k8, hp.n8, hp.y4, hp.k9, hp.n9, hp.y5, hp.k10, hp.n10, hp.y6, hp.k11, hp.n11, hp.p0, hp.p1, hp.p2, hp.k13, hp.n13, hp.q0, hp.q1, hp.k14, hp.k15, hp.k16, hp.n16, hp.k17, hp.n17, hp.rH, hp.kH, hp.rP, hp.kP, hp.rQ, hp.kQ, nI_1, nI_add, nI_clamp, nI_pin, nI_neg, nI_nonneg, nI_leE, nI_ltE, nI_eqE, Nat.not_le, Nat.not_lt, fq_10, fq_01, fq_rr, ix_aald, ix_aast, ix_abs, ix_alen, ix_aload, ix_aret, ix_astore, ix_bald, ix_bast, ix_call, ix_cpyI, ix_cpyJ, ix_dead, ix_dup2, ix_dup2L, ix_dupI, ix_dupR, ix_dupx1, ix_getI, ix_getJ, ix_getR, ix_gfm, ix_gtab, ix_i2b, ix_i2c, ix_i2l, ix_i2s, ix_iadd, ix_iald, ix_iand, ix_iast, ix_icall, ix_icmp_eq, ix_icmp_ge, ix_icmp_gt, ix_icmp_le, ix_icmp_lt, ix_icmp_ne, ix_idiv, ix_if_eq, ix_if_ge, ix_if_gt, ix_if_le, ix_if_lt, ix_if_ne, ix_iinc, ix_iload, ix_imul, ix_ineg, ix_ior, ix_irem, ix_iret, ix_ishl, ix_ishr, ix_istore, ix_isub, ix_iushr, ix_ixor, ix_l2i, ix_ladd, ix_lald, ix_land, ix_last, ix_lcmp, ix_ldcS, ix_ldiv, ix_lload, ix_lmul, ix_lor, ix_lrem, ix_lret, ix_lshl, ix_lstore, ix_lsub, ix_lsw, ix_max, ix_min, ix_new, ix_newa, ix_nret, ix_oinit, ix_pop2L, ix_popI, ix_pushI, ix_pushL, ix_putI, ix_putJ, ix_putR, ix_putZ, ix_sbald, ix_sgetC, ix_sgetV, ix_slen, ix_strc, ix_tald, ix_tsw, ix_vcall, ix_vret, ix_zret, stL, stL2, kilL, popN, fq_sw, fq_lsw, List.map_cons, List.map_nil, List.getElem?_cons_zero, List.getElem?_cons_succ, Option.toList_some, Option.toList_none, List.cons_append, List.nil_append, List.length_cons, List.length_nil, List.sum_cons, List.sum_nil, cat_i, cat_l, cat_r, true_and, and_true, Nat.zero_add, Nat.add_zero, Nat.le_refl, Nat.zero_le, Nat.reduceAdd, Nat.reduceLeDiff, exists_eq_left', Option.some.injEq, not_true_eq_false, not_false_eq_true, false_implies, true_implies, implies_true, and_self, or_true, true_or, or_false, false_or]
            refine ⟨fun g => ?_, fun g => ?_⟩
            · have k20 : ¬ kwI T n e = 20 := fun r => g (w22.mpr r)
              refine ⟨X, s, p, t, c, d, T, n, e, rfl, rfl, k20, hx0, hq, g4, hc, g5, hd, fun h2 => ?_, fun h2 h3 => ?_, fun h2 h3 h4 h5 => ?_, fun h2 h3 h4 => ?_⟩
              · have hp1 : pYs T n (A 0).toNatClampNeg (A 1).toNatClampNeg ((B, M, e), d, c, P) = yB (pE T n 2 e) (fun _ => .inr ((B, M, e), d, c, P)) := by
                  unfold pYs
                  exact if_pos (h2.elim Or.inl (fun r => Or.inr (Or.inl r)))
                rw [hp1] at hR
                simp (disch := omega) only [B_X10_take_64, B_X10_take_85, nI_1, nI_add, nI_clamp, nI_pin, nI_neg, nI_nonneg, nI_leE, nI_ltE, nI_eqE, Nat.not_le, Nat.not_lt, fq_10, fq_01, fq_rr, ix_aald, ix_aast, ix_abs, ix_alen, ix_aload, ix_aret, ix_astore, ix_bald, ix_bast, ix_call, ix_cpyI, ix_cpyJ, ix_dead, ix_dup2, ix_dup2L, ix_dupI, ix_dupR, ix_dupx1, ix_getI, ix_getJ, ix_getR, ix_gfm, ix_gtab, ix_i2b, ix_i2c, ix_i2l, ix_i2s, ix_iadd, ix_iald, ix_iand, ix_iast, ix_icall, ix_icmp_eq, ix_icmp_ge, ix_icmp_gt, ix_icmp_le, ix_icmp_lt, ix_icmp_ne, ix_idiv, ix_if_eq, ix_if_ge, ix_if_gt, ix_if_le, ix_if_lt, ix_if_ne, ix_iinc, ix_iload, ix_imul, ix_ineg, ix_ior, ix_irem, ix_iret, ix_ishl, ix_ishr, ix_istore, ix_isub, ix_iushr, ix_ixor, ix_l2i, ix_ladd, ix_lald, ix_land, ix_last, ix_lcmp, ix_ldcS, ix_ldiv, ix_lload, ix_lmul, ix_lor, ix_lrem, ix_lret, ix_lshl, ix_lstore, ix_lsub, ix_lsw, ix_max, ix_min, ix_new, ix_newa, ix_nret, ix_oinit, ix_pop2L, ix_popI, ix_pushI, ix_pushL, ix_putI, ix_putJ, ix_putR, ix_putZ, ix_sbald, ix_sgetC, ix_sgetV, ix_slen, ix_strc, ix_tald, ix_tsw, ix_vcall, ix_vret, ix_zret, stL, stL2, kilL, popN, fq_sw, fq_lsw, List.map_cons, List.map_nil, List.getElem?_cons_zero, List.getElem?_cons_succ, Option.toList_some, Option.toList_none, List.cons_append, List.nil_append, List.length_cons, List.length_nil, List.sum_cons, List.sum_nil, cat_i, cat_l, cat_r, true_and, and_true, Nat.zero_add, Nat.add_zero, Nat.le_refl, Nat.zero_le, Nat.reduceAdd, Nat.reduceLeDiff, exists_eq_left', Option.some.injEq, not_true_eq_false, not_false_eq_true, false_implies, true_implies, implies_true, and_self, or_true, true_or, or_false, false_or]
                exact flt _ _ (CET.fx (f := fun s => .inr (s, d, c, P)) hR (hF.tr yF.rj) rfl)
              · have hp1 : pYs T n (A 0).toNatClampNeg (A 1).toNatClampNeg ((B, M, e), d, c, P) = yB (pE T n 6 e) (fun _ => .inr ((B, M, e), d, c, P)) := by
                  unfold pYs
                  rw [if_neg (fun r => r.elim (fun v => h2 (Or.inl v)) (fun v => v.elim (fun u => h2 (Or.inr u)) (fun u => k20 u.1)))]
                  exact if_pos ⟨k20, h3⟩
                rw [hp1] at hR
                simp (disch := omega) only [B_X10_take_64, B_X10_take_85, nI_1, nI_add, nI_clamp, nI_pin, nI_neg, nI_nonneg, nI_leE, nI_ltE, nI_eqE, Nat.not_le, Nat.not_lt, fq_10, fq_01, fq_rr, ix_aald, ix_aast, ix_abs, ix_alen, ix_aload, ix_aret, ix_astore, ix_bald, ix_bast, ix_call, ix_cpyI, ix_cpyJ, ix_dead, ix_dup2, ix_dup2L, ix_dupI, ix_dupR, ix_dupx1, ix_getI, ix_getJ, ix_getR, ix_gfm, ix_gtab, ix_i2b, ix_i2c, ix_i2l, ix_i2s, ix_iadd, ix_iald, ix_iand, ix_iast, ix_icall, ix_icmp_eq, ix_icmp_ge, ix_icmp_gt, ix_icmp_le, ix_icmp_lt, ix_icmp_ne, ix_idiv, ix_if_eq, ix_if_ge, ix_if_gt, ix_if_le, ix_if_lt, ix_if_ne, ix_iinc, ix_iload, ix_imul, ix_ineg, ix_ior, ix_irem, ix_iret, ix_ishl, ix_ishr, ix_istore, ix_isub, ix_iushr, ix_ixor, ix_l2i, ix_ladd, ix_lald, ix_land, ix_last, ix_lcmp, ix_ldcS, ix_ldiv, ix_lload, ix_lmul, ix_lor, ix_lrem, ix_lret, ix_lshl, ix_lstore, ix_lsub, ix_lsw, ix_max, ix_min, ix_new, ix_newa, ix_nret, ix_oinit, ix_pop2L, ix_popI, ix_pushI, ix_pushL, ix_putI, ix_putJ, ix_putR, ix_putZ, ix_sbald, ix_sgetC, ix_sgetV, ix_slen, ix_strc, ix_tald, ix_tsw, ix_vcall, ix_vret, ix_zret, stL, stL2, kilL, popN, fq_sw, fq_lsw, List.map_cons, List.map_nil, List.getElem?_cons_zero, List.getElem?_cons_succ, Option.toList_some, Option.toList_none, List.cons_append, List.nil_append, List.length_cons, List.length_nil, List.sum_cons, List.sum_nil, cat_i, cat_l, cat_r, true_and, and_true, Nat.zero_add, Nat.add_zero, Nat.le_refl, Nat.zero_le, Nat.reduceAdd, Nat.reduceLeDiff, exists_eq_left', Option.some.injEq, not_true_eq_false, not_false_eq_true, false_implies, true_implies, implies_true, and_self, or_true, true_or, or_false, false_or]
                exact flt _ _ (CET.fx (f := fun s => .inr (s, d, c, P)) hR (hF.tr yF.rj) rfl)
              · have hp1 : pYs T n (A 0).toNatClampNeg (A 1).toNatClampNeg ((B, M, e), d, c, P) = yB (pE T n 7 e) (fun _ => .inr ((B, M, e), d, c, P)) := by
                  unfold pYs
                  rw [if_neg (fun r => r.elim (fun v => h2 (Or.inl v)) (fun v => v.elim (fun u => h2 (Or.inr u)) (fun u => k20 u.1))), if_neg (fun r => h3 r.2)]
                  exact if_pos ⟨h4, h5⟩
                rw [hp1] at hR
                simp (disch := omega) only [B_X10_take_64, B_X10_take_85, nI_1, nI_add, nI_clamp, nI_pin, nI_neg, nI_nonneg, nI_leE, nI_ltE, nI_eqE, Nat.not_le, Nat.not_lt, fq_10, fq_01, fq_rr, ix_aald, ix_aast, ix_abs, ix_alen, ix_aload, ix_aret, ix_astore, ix_bald, ix_bast, ix_call, ix_cpyI, ix_cpyJ, ix_dead, ix_dup2, ix_dup2L, ix_dupI, ix_dupR, ix_dupx1, ix_getI, ix_getJ, ix_getR, ix_gfm, ix_gtab, ix_i2b, ix_i2c, ix_i2l, ix_i2s, ix_iadd, ix_iald, ix_iand, ix_iast, ix_icall, ix_icmp_eq, ix_icmp_ge, ix_icmp_gt, ix_icmp_le, ix_icmp_lt, ix_icmp_ne, ix_idiv, ix_if_eq, ix_if_ge, ix_if_gt, ix_if_le, ix_if_lt, ix_if_ne, ix_iinc, ix_iload, ix_imul, ix_ineg, ix_ior, ix_irem, ix_iret, ix_ishl, ix_ishr, ix_istore, ix_isub, ix_iushr, ix_ixor, ix_l2i, ix_ladd, ix_lald, ix_land, ix_last, ix_lcmp, ix_ldcS, ix_ldiv, ix_lload, ix_lmul, ix_lor, ix_lrem, ix_lret, ix_lshl, ix_lstore, ix_lsub, ix_lsw, ix_max, ix_min, ix_new, ix_newa, ix_nret, ix_oinit, ix_pop2L, ix_popI, ix_pushI, ix_pushL, ix_putI, ix_putJ, ix_putR, ix_putZ, ix_sbald, ix_sgetC, ix_sgetV, ix_slen, ix_strc, ix_tald, ix_tsw, ix_vcall, ix_vret, ix_zret, stL, stL2, kilL, popN, fq_sw, fq_lsw, List.map_cons, List.map_nil, List.getElem?_cons_zero, List.getElem?_cons_succ, Option.toList_some, Option.toList_none, List.cons_append, List.nil_append, List.length_cons, List.length_nil, List.sum_cons, List.sum_nil, cat_i, cat_l, cat_r, true_and, and_true, Nat.zero_add, Nat.add_zero, Nat.le_refl, Nat.zero_le, Nat.reduceAdd, Nat.reduceLeDiff, exists_eq_left', Option.some.injEq, not_true_eq_false, not_false_eq_true, false_implies, true_implies, implies_true, and_self, or_true, true_or, or_false, false_or]
                exact flt _ _ (CET.fx (f := fun s => .inr (s, d, c, P)) hR (hF.tr yF.rj) rfl)
              · have hp1 : pYs T n (A 0).toNatClampNeg (A 1).toNatClampNeg ((B, M, e), d, c, P) = yB (pYo T n (kwI T n e) (2602 + 6 * m) (A 0).toNatClampNeg (A 1).toNatClampNeg (yrB B (kwI T n e), M, tE T n e)) (fun s2 => yB (pSg T n 59 (yrE (kwI T n e) m s2 d (c + 1) P).1) (fun s3 => .inr (s3, (yrE (kwI T n e) m s2 d (c + 1) P).2))) := by
                  unfold pYs
                  rw [if_neg (fun r => r.elim (fun v => h2 (Or.inl v)) (fun v => v.elim (fun u => h2 (Or.inr u)) (fun u => k20 u.1))), if_neg (fun r => h3 r.2), if_neg h4, if_neg k20]
                  dsimp only
                  rw [hm, nI_tn (by omega)]
                simp (disch := omega) only [B_X10_take_64, r8, x1, x2, x3, x4, s1, hp.k, hp.r0, hp.k1, hp.r1, hp.k2, hp.r2, hp.k3, hp.r3, hp.k4, hp.r4, hp.k12, hp.n1, hp.n2, hp.n3, hp.y0, hp.k5, hp.n5, hp.y1, hp.k6, hp.n6, hp.y2, hp.k7, hp.n7, hp.y3, hp.k8, hp.n8, hp.y4, hp.k9, hp.n9, hp.y5, hp.k10, hp.n10, hp.y6, hp.k11, hp.n11, hp.p0, hp.p1, hp.p2, hp.k13, hp.n13, hp.q0, hp.q1, hp.k14, hp.k15, hp.k16, hp.n16, hp.k17, hp.n17, hp.rH, hp.kH, hp.rP, hp.kP, hp.rQ, hp.kQ, nI_1, nI_add, nI_clamp, nI_pin, nI_neg, nI_nonneg, nI_leE, nI_ltE, nI_eqE, Nat.not_le, Nat.not_lt, fq_10, fq_01, fq_rr, ix_aald, ix_aast, ix_abs, ix_alen, ix_aload, ix_aret, ix_astore, ix_bald, ix_bast, ix_call, ix_cpyI, ix_cpyJ, ix_dead, ix_dup2, ix_dup2L, ix_dupI, ix_dupR, ix_dupx1, ix_getI, ix_getJ, ix_getR, ix_gfm, ix_gtab, ix_i2b, ix_i2c, ix_i2l, ix_i2s, ix_iadd, ix_iald, ix_iand, ix_iast, ix_icall, ix_icmp_eq, ix_icmp_ge, ix_icmp_gt, ix_icmp_le, ix_icmp_lt, ix_icmp_ne, ix_idiv, ix_if_eq, ix_if_ge, ix_if_gt, ix_if_le, ix_if_lt, ix_if_ne, ix_iinc, ix_iload, ix_imul, ix_ineg, ix_ior, ix_irem, ix_iret, ix_ishl, ix_ishr, ix_istore, ix_isub, ix_iushr, ix_ixor, ix_l2i, ix_ladd, ix_lald, ix_land, ix_last, ix_lcmp, ix_ldcS, ix_ldiv, ix_lload, ix_lmul, ix_lor, ix_lrem, ix_lret, ix_lshl, ix_lstore, ix_lsub, ix_lsw, ix_max, ix_min, ix_new, ix_newa, ix_nret, ix_oinit, ix_pop2L, ix_popI, ix_pushI, ix_pushL, ix_putI, ix_putJ, ix_putR, ix_putZ, ix_sbald, ix_sgetC, ix_sgetV, ix_slen, ix_strc, ix_tald, ix_tsw, ix_vcall, ix_vret, ix_zret, stL, stL2, kilL, popN, fq_sw, fq_lsw, List.map_cons, List.map_nil, List.getElem?_cons_zero, List.getElem?_cons_succ, Option.toList_some, Option.toList_none, List.cons_append, List.nil_append, List.length_cons, List.length_nil, List.sum_cons, List.sum_nil, cat_i, cat_l, cat_r, true_and, and_true, Nat.zero_add, Nat.add_zero, Nat.le_refl, Nat.zero_le, Nat.reduceAdd, Nat.reduceLeDiff, exists_eq_left', Option.some.injEq, not_true_eq_false, not_false_eq_true, false_implies, true_implies, implies_true, and_self, or_true, true_or, or_false, false_or]
                refine ⟨X, s, p, t, m, T, n, B, M, e, d, c, P, rfl, rfl, hx0, hE1, hH, hm, by omega, hd, by omega, h2, k20, fun r => ?_, ?_⟩
                · refine Classical.byContradiction fun v => h4 ⟨r, by omega⟩
                · rw [B0, B1]
                  cases hv : pYo T n (kwI T n e) (2602 + 6 * m) (A 0).toNatClampNeg (A 1).toNatClampNeg (yrB B (kwI T n e), M, tE T n e) with
                  | inl f =>
                    rw [hp1, hv] at hR
                    intro I2 J2 a b c
                    simp (disch := omega) only [B_X10_take_78, B_X10_take_85, nI_1, nI_add, nI_clamp, nI_pin, nI_neg, nI_nonneg, nI_leE, nI_ltE, nI_eqE, Nat.not_le, Nat.not_lt, fq_10, fq_01, fq_rr, ix_aald, ix_aast, ix_abs, ix_alen, ix_aload, ix_aret, ix_astore, ix_bald, ix_bast, ix_call, ix_cpyI, ix_cpyJ, ix_dead, ix_dup2, ix_dup2L, ix_dupI, ix_dupR, ix_dupx1, ix_getI, ix_getJ, ix_getR, ix_gfm, ix_gtab, ix_i2b, ix_i2c, ix_i2l, ix_i2s, ix_iadd, ix_iald, ix_iand, ix_iast, ix_icall, ix_icmp_eq, ix_icmp_ge, ix_icmp_gt, ix_icmp_le, ix_icmp_lt, ix_icmp_ne, ix_idiv, ix_if_eq, ix_if_ge, ix_if_gt, ix_if_le, ix_if_lt, ix_if_ne, ix_iinc, ix_iload, ix_imul, ix_ineg, ix_ior, ix_irem, ix_iret, ix_ishl, ix_ishr, ix_istore, ix_isub, ix_iushr, ix_ixor, ix_l2i, ix_ladd, ix_lald, ix_land, ix_last, ix_lcmp, ix_ldcS, ix_ldiv, ix_lload, ix_lmul, ix_lor, ix_lrem, ix_lret, ix_lshl, ix_lstore, ix_lsub, ix_lsw, ix_max, ix_min, ix_new, ix_newa, ix_nret, ix_oinit, ix_pop2L, ix_popI, ix_pushI, ix_pushL, ix_putI, ix_putJ, ix_putR, ix_putZ, ix_sbald, ix_sgetC, ix_sgetV, ix_slen, ix_strc, ix_tald, ix_tsw, ix_vcall, ix_vret, ix_zret, stL, stL2, kilL, popN, fq_sw, fq_lsw, List.map_cons, List.map_nil, List.getElem?_cons_zero, List.getElem?_cons_succ, Option.toList_some, Option.toList_none, List.cons_append, List.nil_append, List.length_cons, List.length_nil, List.sum_cons, List.sum_nil, cat_i, cat_l, cat_r, true_and, and_true, Nat.zero_add, Nat.add_zero, Nat.le_refl, Nat.zero_le, Nat.reduceAdd, Nat.reduceLeDiff, exists_eq_left', Option.some.injEq, not_true_eq_false, not_false_eq_true, false_implies, true_implies, implies_true, and_self, or_true, true_or, or_false, false_or]
                    exact flt _ _ (hR I2 J2 (hF.tr a) b c)
                  | inr s2 =>
                    rw [hv] at hp1
                    intro I2 J2 a b
                    simp (disch := omega) only [B_X10_take_78, nI_1, nI_add, nI_clamp, nI_pin, nI_neg, nI_nonneg, nI_leE, nI_ltE, nI_eqE, Nat.not_le, Nat.not_lt, fq_10, fq_01, fq_rr, ix_aald, ix_aast, ix_abs, ix_alen, ix_aload, ix_aret, ix_astore, ix_bald, ix_bast, ix_call, ix_cpyI, ix_cpyJ, ix_dead, ix_dup2, ix_dup2L, ix_dupI, ix_dupR, ix_dupx1, ix_getI, ix_getJ, ix_getR, ix_gfm, ix_gtab, ix_i2b, ix_i2c, ix_i2l, ix_i2s, ix_iadd, ix_iald, ix_iand, ix_iast, ix_icall, ix_icmp_eq, ix_icmp_ge, ix_icmp_gt, ix_icmp_le, ix_icmp_lt, ix_icmp_ne, ix_idiv, ix_if_eq, ix_if_ge, ix_if_gt, ix_if_le, ix_if_lt, ix_if_ne, ix_iinc, ix_iload, ix_imul, ix_ineg, ix_ior, ix_irem, ix_iret, ix_ishl, ix_ishr, ix_istore, ix_isub, ix_iushr, ix_ixor, ix_l2i, ix_ladd, ix_lald, ix_land, ix_last, ix_lcmp, ix_ldcS, ix_ldiv, ix_lload, ix_lmul, ix_lor, ix_lrem, ix_lret, ix_lshl, ix_lstore, ix_lsub, ix_lsw, ix_max, ix_min, ix_new, ix_newa, ix_nret, ix_oinit, ix_pop2L, ix_popI, ix_pushI, ix_pushL, ix_putI, ix_putJ, ix_putR, ix_putZ, ix_sbald, ix_sgetC, ix_sgetV, ix_slen, ix_strc, ix_tald, ix_tsw, ix_vcall, ix_vret, ix_zret, stL, stL2, kilL, popN, fq_sw, fq_lsw, List.map_cons, List.map_nil, List.getElem?_cons_zero, List.getElem?_cons_succ, Option.toList_some, Option.toList_none, List.cons_append, List.nil_append, List.length_cons, List.length_nil, List.sum_cons, List.sum_nil, cat_i, cat_l, cat_r, true_and, and_true, Nat.zero_add, Nat.add_zero, Nat.le_refl, Nat.zero_le, Nat.reduceAdd, Nat.reduceLeDiff, exists_eq_left', Option.some.injEq, not_true_eq_false, not_false_eq_true, false_implies, true_implies, implies_true, and_self, or_true, true_or, or_false, false_or]
                    exact aft _ I2 J2 hp1 (hF.tr a) b
            · have k20 : kwI T n e = 20 := w22.mp g
              refine ⟨X, s, p, t, m, T, n, B, M, e, d, c, P, rfl, hx0, hE1, hH, hm, fun _ => by omega, hd, k20, hP, fun q => ?_, fun q I2 J2 a b => ?_⟩
              · have hp1 : pYs T n (A 0).toNatClampNeg (A 1).toNatClampNeg ((B, M, e), d, c, P) = yB (pE T n 2 e) (fun _ => .inr ((B, M, e), d, c, P)) := by
                  unfold pYs
                  exact if_pos (Or.inr (Or.inr ⟨k20, q⟩))
                rw [hp1] at hR
                simp (disch := omega) only [B_X10_take_50, nI_1, nI_add, nI_clamp, nI_pin, nI_neg, nI_nonneg, nI_leE, nI_ltE, nI_eqE, Nat.not_le, Nat.not_lt, fq_10, fq_01, fq_rr, ix_aald, ix_aast, ix_abs, ix_alen, ix_aload, ix_aret, ix_astore, ix_bald, ix_bast, ix_call, ix_cpyI, ix_cpyJ, ix_dead, ix_dup2, ix_dup2L, ix_dupI, ix_dupR, ix_dupx1, ix_getI, ix_getJ, ix_getR, ix_gfm, ix_gtab, ix_i2b, ix_i2c, ix_i2l, ix_i2s, ix_iadd, ix_iald, ix_iand, ix_iast, ix_icall, ix_icmp_eq, ix_icmp_ge, ix_icmp_gt, ix_icmp_le, ix_icmp_lt, ix_icmp_ne, ix_idiv, ix_if_eq, ix_if_ge, ix_if_gt, ix_if_le, ix_if_lt, ix_if_ne, ix_iinc, ix_iload, ix_imul, ix_ineg, ix_ior, ix_irem, ix_iret, ix_ishl, ix_ishr, ix_istore, ix_isub, ix_iushr, ix_ixor, ix_l2i, ix_ladd, ix_lald, ix_land, ix_last, ix_lcmp, ix_ldcS, ix_ldiv, ix_lload, ix_lmul, ix_lor, ix_lrem, ix_lret, ix_lshl, ix_lstore, ix_lsub, ix_lsw, ix_max, ix_min, ix_new, ix_newa, ix_nret, ix_oinit, ix_pop2L, ix_popI, ix_pushI, ix_pushL, ix_putI, ix_putJ, ix_putR, ix_putZ, ix_sbald, ix_sgetC, ix_sgetV, ix_slen, ix_strc, ix_tald, ix_tsw, ix_vcall, ix_vret, ix_zret, stL, stL2, kilL, popN, fq_sw, fq_lsw, List.map_cons, List.map_nil, List.getElem?_cons_zero, List.getElem?_cons_succ, Option.toList_some, Option.toList_none, List.cons_append, List.nil_append, List.length_cons, List.length_nil, List.sum_cons, List.sum_nil, cat_i, cat_l, cat_r, true_and, and_true, Nat.zero_add, Nat.add_zero, Nat.le_refl, Nat.zero_le, Nat.reduceAdd, Nat.reduceLeDiff, exists_eq_left', Option.some.injEq, not_true_eq_false, not_false_eq_true, false_implies, true_implies, implies_true, and_self, or_true, true_or, or_false, false_or]
                exact flt _ _ (CET.fx (f := fun s => .inr (s, d, c, P)) hR (hF.tr yF.rj) rfl)
              · have hp1 : pYs T n (A 0).toNatClampNeg (A 1).toNatClampNeg ((B, M, e), d, c, P) = yB (pSg T n 59 (yrE 20 m (yrB B 20, M, tE T n e) d c P).1) (fun s3 => .inr (s3, (yrE 20 m (yrB B 20, M, tE T n e) d c P).2)) := by
                  unfold pYs
                  dsimp only
                  rw [k20, if_neg (by
                    rintro (h | h | h)
                    · exact absurd h (by decide)
                    · exact absurd h (by decide)
                    · omega), if_neg (fun r => r.1 rfl), if_neg (fun r => absurd r.1 (by decide)), if_pos rfl]
                  unfold pYo
                  rw [if_neg (by decide), if_neg (by decide), if_neg (by decide), if_neg (by decide), hm, nI_tn (by omega)]
                  rfl
                simp (disch := omega) only [B_X10_take_50, nI_1, nI_add, nI_clamp, nI_pin, nI_neg, nI_nonneg, nI_leE, nI_ltE, nI_eqE, Nat.not_le, Nat.not_lt, fq_10, fq_01, fq_rr, ix_aald, ix_aast, ix_abs, ix_alen, ix_aload, ix_aret, ix_astore, ix_bald, ix_bast, ix_call, ix_cpyI, ix_cpyJ, ix_dead, ix_dup2, ix_dup2L, ix_dupI, ix_dupR, ix_dupx1, ix_getI, ix_getJ, ix_getR, ix_gfm, ix_gtab, ix_i2b, ix_i2c, ix_i2l, ix_i2s, ix_iadd, ix_iald, ix_iand, ix_iast, ix_icall, ix_icmp_eq, ix_icmp_ge, ix_icmp_gt, ix_icmp_le, ix_icmp_lt, ix_icmp_ne, ix_idiv, ix_if_eq, ix_if_ge, ix_if_gt, ix_if_le, ix_if_lt, ix_if_ne, ix_iinc, ix_iload, ix_imul, ix_ineg, ix_ior, ix_irem, ix_iret, ix_ishl, ix_ishr, ix_istore, ix_isub, ix_iushr, ix_ixor, ix_l2i, ix_ladd, ix_lald, ix_land, ix_last, ix_lcmp, ix_ldcS, ix_ldiv, ix_lload, ix_lmul, ix_lor, ix_lrem, ix_lret, ix_lshl, ix_lstore, ix_lsub, ix_lsw, ix_max, ix_min, ix_new, ix_newa, ix_nret, ix_oinit, ix_pop2L, ix_popI, ix_pushI, ix_pushL, ix_putI, ix_putJ, ix_putR, ix_putZ, ix_sbald, ix_sgetC, ix_sgetV, ix_slen, ix_strc, ix_tald, ix_tsw, ix_vcall, ix_vret, ix_zret, stL, stL2, kilL, popN, fq_sw, fq_lsw, List.map_cons, List.map_nil, List.getElem?_cons_zero, List.getElem?_cons_succ, Option.toList_some, Option.toList_none, List.cons_append, List.nil_append, List.length_cons, List.length_nil, List.sum_cons, List.sum_nil, cat_i, cat_l, cat_r, true_and, and_true, Nat.zero_add, Nat.add_zero, Nat.le_refl, Nat.zero_le, Nat.reduceAdd, Nat.reduceLeDiff, exists_eq_left', Option.some.injEq, not_true_eq_false, not_false_eq_true, false_implies, true_implies, implies_true, and_self, or_true, true_or, or_false, false_or]
                exact aft _ I2 J2 hp1 (hF.tr a) b
    refine fq_enter [some (.ref t), some (.int (nI n)), none, none] (by decide +kernel) (Nat.le_of_ble_eq_true rfl) rfl (b_X10_take_0 _ _ _ _ _ _ _ _ ?_)
    have hmin : (if (900 : Nat) < n then nI 900 else nI n) = nI n := if_neg (by omega)
    obtain ⟨-, s2, s3, s4, s5, s6, s7⟩ := hE.1
    simp (disch := omega) only [B_X10_take_0, B_X10_take_7, sp_X9_clear, B_X9_clear_0, sp_X4_begin, B_X4_begin_0, s4, s5, s2, x1, x2, x3, x4, s1, hmin, hp.k, hp.r0, hp.k1, hp.r1, hp.k2, hp.r2, hp.k3, hp.r3, hp.k4, hp.r4, hp.k12, hp.n1, hp.n2, hp.n3, hp.y0, hp.k5, hp.n5, hp.y1, hp.k6, hp.n6, hp.y2, hp.k7, hp.n7, hp.y3, hp.k8, hp.n8, hp.y4, hp.k9, hp.n9, hp.y5, hp.k10, hp.n10, hp.y6, hp.k11, hp.n11, hp.p0, hp.p1, hp.p2, hp.k13, hp.n13, hp.q0, hp.q1, hp.k14, hp.k15, hp.k16, hp.n16, hp.k17, hp.n17, hp.rH, hp.kH, hp.rP, hp.kP, hp.rQ, hp.kQ, nI_1, nI_add, nI_clamp, nI_pin, nI_neg, nI_nonneg, nI_leE, nI_ltE, nI_eqE, Nat.not_le, Nat.not_lt, fq_10, fq_01, fq_rr, ix_aald, ix_aast, ix_abs, ix_alen, ix_aload, ix_aret, ix_astore, ix_bald, ix_bast, ix_call, ix_cpyI, ix_cpyJ, ix_dead, ix_dup2, ix_dup2L, ix_dupI, ix_dupR, ix_dupx1, ix_getI, ix_getJ, ix_getR, ix_gfm, ix_gtab, ix_i2b, ix_i2c, ix_i2l, ix_i2s, ix_iadd, ix_iald, ix_iand, ix_iast, ix_icall, ix_icmp_eq, ix_icmp_ge, ix_icmp_gt, ix_icmp_le, ix_icmp_lt, ix_icmp_ne, ix_idiv, ix_if_eq, ix_if_ge, ix_if_gt, ix_if_le, ix_if_lt, ix_if_ne, ix_iinc, ix_iload, ix_imul, ix_ineg, ix_ior, ix_irem, ix_iret, ix_ishl, ix_ishr, ix_istore, ix_isub, ix_iushr, ix_ixor, ix_l2i, ix_ladd, ix_lald, ix_land, ix_last, ix_lcmp, ix_ldcS, ix_ldiv, ix_lload, ix_lmul, ix_lor, ix_lrem, ix_lret, ix_lshl, ix_lstore, ix_lsub, ix_lsw, ix_max, ix_min, ix_new, ix_newa, ix_nret, ix_oinit, ix_pop2L, ix_popI, ix_pushI, ix_pushL, ix_putI, ix_putJ, ix_putR, ix_putZ, ix_sbald, ix_sgetC, ix_sgetV, ix_slen, ix_strc, ix_tald, ix_tsw, ix_vcall, ix_vret, ix_zret, stL, stL2, kilL, popN, fq_sw, fq_lsw, List.map_cons, List.map_nil, List.getElem?_cons_zero, List.getElem?_cons_succ, Option.toList_some, Option.toList_none, List.cons_append, List.nil_append, List.length_cons, List.length_nil, List.sum_cons, List.sum_nil, cat_i, cat_l, cat_r, true_and, and_true, Nat.zero_add, Nat.add_zero, Nat.le_refl, Nat.zero_le, Nat.reduceAdd, Nat.reduceLeDiff, exists_eq_left', Option.some.injEq, not_true_eq_false, not_false_eq_true, false_implies, true_implies, implies_true, and_self, or_true, true_or, or_false, false_or]
    refine ⟨X, T, n, 0, rfl, ?_, ?_, ?_, Nat.zero_le _, fun I2 J2 hF2 hH2 => ?_⟩
    · exact hE.mv (by simp (disch := omega) only [u2_ne]) rfl
    · simp (disch := omega) only [u2_same, u2_ck]
      exact if_neg (fun q => by
        have := (nI_ltI (a := 900) (b := n) (by omega) (by omega)).mp q
        omega)
    · simp (disch := omega) only [u2_same, u2_ck]
      rfl
    · have es : I2 s = I s := by
        rw [hF2.1 s (by omega)]
        simp (disch := omega) only [u2_ne]
      have y7 : I2 (p + 4) 7 = 0 := by
        rw [hF2.1 _ (by omega)]
        simp (disch := omega) only [u2_same, u2_ck, u2_ca]
      have y8 : I2 (p + 4) 8 = 0 := by
        rw [hF2.1 _ (by omega)]
        simp (disch := omega) only [u2_same, u2_ck, u2_ca]
      have r10 : I2 (X + 11) 10 = 0 := by
        rw [hF2.2.1 10 (by omega) (by omega) (by omega) (by omega) (by omega) (by omega)]
        simp (disch := omega) only [u2_same, u2_ck, u2_ca]
      have r11 : I2 (X + 11) 11 = -1 := by
        rw [hF2.2.1 11 (by omega) (by omega) (by omega) (by omega) (by omega) (by omega)]
        simp (disch := omega) only [u2_same, u2_ck, u2_ca]
      have it : I2 t = I t := by
        rw [hF2.1 _ (by omega)]
        simp (disch := omega) only [u2_ne]
      have u0 : uA A 2387 0 0 = A 0 := uA_n _ _ _ _ (by omega)
      have u1 : uA A 2387 0 1 = A 1 := uA_n _ _ _ _ (by omega)
      have um : uA A 2387 0 2387 = 0 := uA_e _ _ _
      simp (disch := omega) only [B_X10_take_15, nI_1, nI_add, nI_clamp, nI_pin, nI_neg, nI_nonneg, nI_leE, nI_ltE, nI_eqE, Nat.not_le, Nat.not_lt, fq_10, fq_01, fq_rr, ix_aald, ix_aast, ix_abs, ix_alen, ix_aload, ix_aret, ix_astore, ix_bald, ix_bast, ix_call, ix_cpyI, ix_cpyJ, ix_dead, ix_dup2, ix_dup2L, ix_dupI, ix_dupR, ix_dupx1, ix_getI, ix_getJ, ix_getR, ix_gfm, ix_gtab, ix_i2b, ix_i2c, ix_i2l, ix_i2s, ix_iadd, ix_iald, ix_iand, ix_iast, ix_icall, ix_icmp_eq, ix_icmp_ge, ix_icmp_gt, ix_icmp_le, ix_icmp_lt, ix_icmp_ne, ix_idiv, ix_if_eq, ix_if_ge, ix_if_gt, ix_if_le, ix_if_lt, ix_if_ne, ix_iinc, ix_iload, ix_imul, ix_ineg, ix_ior, ix_irem, ix_iret, ix_ishl, ix_ishr, ix_istore, ix_isub, ix_iushr, ix_ixor, ix_l2i, ix_ladd, ix_lald, ix_land, ix_last, ix_lcmp, ix_ldcS, ix_ldiv, ix_lload, ix_lmul, ix_lor, ix_lrem, ix_lret, ix_lshl, ix_lstore, ix_lsub, ix_lsw, ix_max, ix_min, ix_new, ix_newa, ix_nret, ix_oinit, ix_pop2L, ix_popI, ix_pushI, ix_pushL, ix_putI, ix_putJ, ix_putR, ix_putZ, ix_sbald, ix_sgetC, ix_sgetV, ix_slen, ix_strc, ix_tald, ix_tsw, ix_vcall, ix_vret, ix_zret, stL, stL2, kilL, popN, fq_sw, fq_lsw, List.map_cons, List.map_nil, List.getElem?_cons_zero, List.getElem?_cons_succ, Option.toList_some, Option.toList_none, List.cons_append, List.nil_append, List.length_cons, List.length_nil, List.sum_cons, List.sum_nil, cat_i, cat_l, cat_r, true_and, and_true, Nat.zero_add, Nat.add_zero, Nat.le_refl, Nat.zero_le, Nat.reduceAdd, Nat.reduceLeDiff, exists_eq_left', Option.some.injEq, not_true_eq_false, not_false_eq_true, false_implies, true_implies, implies_true, and_self, or_true, true_or, or_false, false_or]
      refine lp (n + 1) 0 ((uA A 2387 0, N, 0), 0, 0, O) I2 J2 none (by dsimp only; omega) (Nat.zero_le _) ⟨0, um, Nat.le_refl _, by dsimp only; omega, Nat.zero_le _, fun i hi => absurd hi (Nat.not_lt_zero _), ?_, ?_⟩ ⟨hH2, Nat.zero_le _, y7.trans um.symm, y8, ?_, fun i hi => absurd hi (Nat.not_lt_zero _), fun i hi => ?_, ⟨r10, r11⟩, ?_, ?_, ?_, ?_, ?_⟩ ⟨fun a h1 h2 h3 h4 => ?_, fun a h1 => hF2.2.2 a h1⟩ hR
      · dsimp only
        rw [u0]
        exact ⟨o5.1, by have := o5.2; omega⟩
      · dsimp only
        rw [u1]
        exact o6
      · rw [it]
        exact t4
      · dsimp only at hi
        rw [um] at hi
        exact absurd hi (Nat.not_lt_zero _)
      · dsimp only
        rw [u0, es]
        exact a5
      · dsimp only
        rw [u1, es]
        exact a6
      · dsimp only
        rw [u0]
        exact o5
      · dsimp only
        rw [u1]
        exact o6
      · dsimp only
        rw [u0, u1]
        exact hN.mv o5.2 o6.2 (fun a _ _ => by rw [hF2.2.2 a (by omega)])
      · rw [hF2.1 a h1]
        simp (disch := omega) only [u2_ne]
  · exact h.elim
