/-! a year's text of the class: its steps -/
/-- a row of the class's years against one of the reference, but for its partner -/
def rowA (I : IH) (p i : Nat) (R : Nat → Int32) : Prop := (∃ k, 12 ≤ k ∧ k ≤ 21 ∧ k ≠ 18 ∧ R 0 = nI k ∧ I (p + 5) i = wk (nI k) ∧ (k = 12 → I (p + 7) i = R 1 ∧ I (p + 8) i = R 2) ∧ (k = 14 ∨ k = 19 → I (p + 10) i = R 1)) ∨ (I (p + 5) i = 18 ∧ ∃ t, (t = 6 ∨ t = 22 ∨ t = 23) ∧ R 0 = nI (1800 + t) ∧ I (p + 6) i = wk (nI t) ∧ (t ≠ 23 → I (p + 7) i = R 1 ∧ I (p + 10) i = R 2 ∧ I (p + 9) i = R 5))
def prtR (I : IH) (p i : Nat) (R : Nat → Int32) : Prop := (I (p + 5) i = 18 ∨ I (p + 5) i = 21 ∨ I (p + 5) i = 22) → I (p + 11) i = R 4
theorem rowA.mv {I I' : IH} {p p' i : Nat} {R R' : Nat → Int32} (h : rowA I p i R) (hI : ∀ a, 5 ≤ a → a < 11 → I' (p' + a) i = I (p + a) i) (hR : ∀ j, j < 6 → j ≠ 4 → R' j = R j) : rowA I' p' i R' := by
  unfold rowA at h ⊢
  rw [hI 5 (by omega) (by omega), hI 6 (by omega) (by omega), hI 7 (by omega) (by omega), hI 8 (by omega) (by omega), hI 9 (by omega) (by omega), hI 10 (by omega) (by omega), hR 0 (by omega) (by omega), hR 1 (by omega) (by omega), hR 2 (by omega) (by omega), hR 5 (by omega) (by omega)]
  exact h
theorem prtR.mv {I I' : IH} {p p' i : Nat} {R R' : Nat → Int32} (h : prtR I p i R) (h5 : I' (p' + 5) i = I (p + 5) i) (h11 : I' (p' + 11) i = I (p + 11) i) (hR : R' 4 = R 4) : prtR I' p' i R' := by
  unfold prtR at h ⊢
  rw [h5, h11, hR]
  exact h
/-- a year's text stands behind y -/
def ytH (X s p t : Nat) (I : IH) (J : JH) (T : Nat → Int32) (n : Nat) (y : YSt) : Prop := rdH (X + 11) I J T n y.1.2.2 ∧ y.1.2.2 ≤ n ∧ I (p + 4) 7 = y.1.1 2387 ∧ I (p + 4) 8 = nI y.2.2.1 ∧ I t 4 = nI y.2.1 ∧ (∀ i, i < y.2.1 → I (t + 1) i = y.2.2.2 i) ∧ (∀ i, i < (y.1.1 2387).toNatClampNeg → rowA I p i (fun j => y.1.1 (2602 + 6 * i + j)) ∧ ((∀ j, j < y.2.1 → ¬ y.2.2.2 j = nI i) → prtR I p i (fun j => y.1.1 (2602 + 6 * i + j)))) ∧ (I (X + 11) 10 = 0 ∧ I (X + 11) 11 = -1) ∧ I s 5 = y.1.1 0 ∧ I s 6 = y.1.1 1 ∧ okN (y.1.1 0) 6 ∧ okN (y.1.1 1) 8 ∧ nmsR J s y.1.2.1 0 (y.1.1 0).toNatClampNeg (y.1.1 1).toNatClampNeg
def CEY (X s p t : Nat) (I : IH) (J : JH) (T : Nat → Int32) (n : Nat) (x : YR) (Q1 Q0 : IH → JH → Prop) : Prop := match x with
  | .inl f => ∀ I' J', yF X p t I I' J J' → I' (X + 11) 10 = f.1 → I' (X + 11) 11 = nI f.2 → Q0 I' J'
  | .inr y => ∀ I' J', yF X p t I I' J J' → ytH X s p t I' J' T n y → Q1 I' J'
theorem nI_tn {m : Nat} (h : m < 100) : (nI m).toNatClampNeg = m := nI_clamp (by omega)
theorem ytH.nx {X s p t m : Nat} {I I' : IH} {J J' : JH} {T : Nat → Int32} {n : Nat} {y : YSt} (h : ytH X s p t I J T n y) (hm : y.1.1 2387 = nI m) (hm6 : m < 60) (σ : PSt) (d c : Nat) (O : Nat → Int32) (hE : rdH (X + 11) I' J' T n σ.2.2) (he : σ.2.2 ≤ n) (hA : ∀ j, j < 2602 + 6 * m → j ≠ 2387 → σ.1 j = y.1.1 j) (hA2 : σ.1 2387 = nI (m + 1)) (hN : σ.2.1 = y.1.2.1) (h7 : I' (p + 4) 7 = nI (m + 1)) (h8 : I' (p + 4) 8 = nI c) (h4 : I' t 4 = nI d) (hO : ∀ i, i < d → I' (t + 1) i = O i) (ho : ∀ a, 5 ≤ a → a < 12 → ∀ i, i < m → I' (p + a) i = I (p + a) i) (hr : rowA I' p m (fun j => σ.1 (2602 + 6 * m + j))) (hp : (∀ j, j < d → ¬ O j = nI m) → prtR I' p m (fun j => σ.1 (2602 + 6 * m + j))) (hOO : ∀ i, i < m → (∀ j, j < d → ¬ O j = nI i) → ∀ j, j < y.2.1 → ¬ y.2.2.2 j = nI i) (h10 : I' (X + 11) 10 = I (X + 11) 10) (h11 : I' (X + 11) 11 = I (X + 11) 11) (hs : I' s = I s) (hX : X + 13 ≤ s) (hJ : ∀ a, a ≠ X + 11 → J' a = J a) : ytH X s p t I' J' T n (σ, d, c, O) := by
  obtain ⟨-, -, -, -, -, -, g7, g8, g9, g10, g11, g12, g13⟩ := h
  have e0 : σ.1 0 = y.1.1 0 := hA 0 (by omega) (by omega)
  have e1 : σ.1 1 = y.1.1 1 := hA 1 (by omega) (by omega)
  refine ⟨hE, he, h7.trans hA2.symm, h8, h4, hO, fun i hi => ?_, ⟨h10.trans g8.1, h11.trans g8.2⟩, ?_, ?_, ?_, ?_, ?_⟩
  · dsimp only at hi ⊢
    rw [hA2, nI_tn (by omega)] at hi
    rw [hm, nI_tn (by omega)] at g7
    by_cases q : i = m
    · subst q
      exact ⟨hr, hp⟩
    · have hi2 : i < m := by omega
      refine ⟨(g7 i hi2).1.mv (fun a b c => ho a b (by omega) i hi2) (fun j hj _ => hA _ (by omega) (by omega)), fun k => ((g7 i hi2).2 (hOO i hi2 k)).mv (ho 5 (by omega) (by omega) i hi2) (ho 11 (by omega) (by omega) i hi2) (hA _ (by omega) (by omega))⟩
  · dsimp only
    rw [hs, e0]
    exact g9
  · dsimp only
    rw [hs, e1]
    exact g10
  · dsimp only
    rw [e0]
    exact g11
  · dsimp only
    rw [e1]
    exact g12
  · dsimp only
    rw [e0, e1, hN]
    exact g13.mv g11.2 g12.2 (fun a _ _ => by rw [hJ a (by omega)])
theorem ytH.q {S : Sh} {X s p t n : Nat} {I : IH} {J : JH} {T : Nat → Int32} {y : YSt} (h : ytH X s p t I J T n y) (hE : rdE S I J X T n) : rdQ S I J X T n y.1.2.2 := ⟨hE, h.1, h.2.1⟩
theorem dX10_mayBegin_0 : decode cX10_mayBegin 0 = .ok (.iload_n 1, 1) := by decide +kernel
theorem dX10_mayBegin_1 : decode cX10_mayBegin 1 = .ok (.bipush 12, 2) := by decide +kernel
theorem dX10_mayBegin_3 : decode cX10_mayBegin 3 = .ok (.if_icmp .lt 15, 3) := by decide +kernel
theorem dX10_mayBegin_6 : decode cX10_mayBegin 6 = .ok (.iload_n 1, 1) := by decide +kernel
theorem dX10_mayBegin_7 : decode cX10_mayBegin 7 = .ok (.bipush 19, 2) := by decide +kernel
theorem dX10_mayBegin_9 : decode cX10_mayBegin 9 = .ok (.if_icmp .eq 9, 3) := by decide +kernel
theorem dX10_mayBegin_12 : decode cX10_mayBegin 12 = .ok (.iload_n 1, 1) := by decide +kernel
theorem dX10_mayBegin_13 : decode cX10_mayBegin 13 = .ok (.bipush 20, 2) := by decide +kernel
theorem dX10_mayBegin_15 : decode cX10_mayBegin 15 = .ok (.if_icmp .ne 12, 3) := by decide +kernel
theorem dX10_mayBegin_18 : decode cX10_mayBegin 18 = .ok (.aload_n 0, 1) := by decide +kernel
theorem dX10_mayBegin_19 : decode cX10_mayBegin 19 = .ok (.getfield 15, 3) := by decide +kernel
theorem dX10_mayBegin_22 : decode cX10_mayBegin 22 = .ok (.iconst 2, 1) := by decide +kernel
theorem dX10_mayBegin_23 : decode cX10_mayBegin 23 = .ok (.invokevirtual 62, 3) := by decide +kernel
theorem dX10_mayBegin_26 : decode cX10_mayBegin 26 = .ok (.ireturn, 1) := by decide +kernel
theorem dX10_mayBegin_27 : decode cX10_mayBegin 27 = .ok (.aload_n 0, 1) := by decide +kernel
theorem dX10_mayBegin_28 : decode cX10_mayBegin 28 = .ok (.getfield 23, 3) := by decide +kernel
theorem dX10_mayBegin_31 : decode cX10_mayBegin 31 = .ok (.getfield 81, 3) := by decide +kernel
theorem dX10_mayBegin_34 : decode cX10_mayBegin 34 = .ok (.bipush 30, 2) := by decide +kernel
theorem dX10_mayBegin_36 : decode cX10_mayBegin 36 = .ok (.if_icmp .lt 13, 3) := by decide +kernel
theorem dX10_mayBegin_39 : decode cX10_mayBegin 39 = .ok (.aload_n 0, 1) := by decide +kernel
theorem dX10_mayBegin_40 : decode cX10_mayBegin 40 = .ok (.getfield 15, 3) := by decide +kernel
theorem dX10_mayBegin_43 : decode cX10_mayBegin 43 = .ok (.bipush 6, 2) := by decide +kernel
theorem dX10_mayBegin_45 : decode cX10_mayBegin 45 = .ok (.invokevirtual 62, 3) := by decide +kernel
theorem dX10_mayBegin_48 : decode cX10_mayBegin 48 = .ok (.ireturn, 1) := by decide +kernel
theorem dX10_mayBegin_49 : decode cX10_mayBegin 49 = .ok (.iload_n 1, 1) := by decide +kernel
theorem dX10_mayBegin_50 : decode cX10_mayBegin 50 = .ok (.bipush 18, 2) := by decide +kernel
theorem dX10_mayBegin_52 : decode cX10_mayBegin 52 = .ok (.if_icmp .eq 9, 3) := by decide +kernel
theorem dX10_mayBegin_55 : decode cX10_mayBegin 55 = .ok (.iload_n 1, 1) := by decide +kernel
theorem dX10_mayBegin_56 : decode cX10_mayBegin 56 = .ok (.bipush 21, 2) := by decide +kernel
theorem dX10_mayBegin_58 : decode cX10_mayBegin 58 = .ok (.if_icmp .ne 21, 3) := by decide +kernel
theorem dX10_mayBegin_61 : decode cX10_mayBegin 61 = .ok (.aload_n 0, 1) := by decide +kernel
theorem dX10_mayBegin_62 : decode cX10_mayBegin 62 = .ok (.getfield 59, 3) := by decide +kernel
theorem dX10_mayBegin_65 : decode cX10_mayBegin 65 = .ok (.iconst 3, 1) := by decide +kernel
theorem dX10_mayBegin_66 : decode cX10_mayBegin 66 = .ok (.if_icmp .lt 13, 3) := by decide +kernel
theorem dX10_mayBegin_69 : decode cX10_mayBegin 69 = .ok (.aload_n 0, 1) := by decide +kernel
theorem dX10_mayBegin_70 : decode cX10_mayBegin 70 = .ok (.getfield 15, 3) := by decide +kernel
theorem dX10_mayBegin_73 : decode cX10_mayBegin 73 = .ok (.bipush 7, 2) := by decide +kernel
theorem dX10_mayBegin_75 : decode cX10_mayBegin 75 = .ok (.invokevirtual 62, 3) := by decide +kernel
theorem dX10_mayBegin_78 : decode cX10_mayBegin 78 = .ok (.ireturn, 1) := by decide +kernel
theorem dX10_mayBegin_79 : decode cX10_mayBegin 79 = .ok (.iconst 1, 1) := by decide +kernel
theorem dX10_mayBegin_80 : decode cX10_mayBegin 80 = .ok (.ireturn, 1) := by decide +kernel
abbrev M_X10_mayBegin : MT := (yX10_mayBegin, cX10_mayBegin, 2, (some .boolean))
theorem cf_X10_mayBegin : fq_cf M_X10_mayBegin 1 := ⟨(mg_1 (List.mem_of_getElem? (i := 19) rfl) rfl), (mg_4 (List.mem_of_getElem? (i := 118) rfl) rfl), ⟨by decide, by decide, by decide +kernel⟩, by decide⟩
def B_X10_mayBegin_79 (G : GT) (mc ms : Nat) (Q : Post) : Cn := ix_pushI 1 (ix_zret mc ms Q)
theorem b_X10_mayBegin_79 {l : Launch} {G : GT} {D mc ms : Nat} {Q : Post} : Imp l G M_X10_mayBegin (D + 1) mc ms Q (B_X10_mayBegin_79 G mc ms Q) 79 := sx_iconst dX10_mayBegin_79 rfl (sx_zret dX10_mayBegin_80 rfl)
def B_X10_mayBegin_78 (G : GT) (mc ms : Nat) (Q : Post) : Cn := ix_zret mc ms Q
theorem b_X10_mayBegin_78 {l : Launch} {G : GT} {D mc ms : Nat} {Q : Post} : Imp l G M_X10_mayBegin (D + 1) mc ms Q (B_X10_mayBegin_78 G mc ms Q) 78 := sx_zret dX10_mayBegin_78 rfl
def B_X10_mayBegin_61 (G : GT) (mc ms : Nat) (Q : Post) : Cn := ix_aload 0 (ix_getI 10 4 (ix_pushI 3 (ix_icmp_lt ((B_X10_mayBegin_79 G mc ms Q)) (ix_aload 0 (ix_getR 10 0 (ix_pushI 7 (ix_vcall 4 2 0 0 mc ms (sp_X4_reject G) ((B_X10_mayBegin_78 G mc ms Q)))))))))
theorem b_X10_mayBegin_61 {l : Launch} {G : GT} {D mc ms : Nat} {Q : Post} : Imp l G M_X10_mayBegin (D + 1) mc ms Q (B_X10_mayBegin_61 G mc ms Q) 61 := sx_aload_n dX10_mayBegin_61 rfl (sx_getI dX10_mayBegin_62 fl_FootQuarrel_YearsText_59 (fun _ _ _ => rfl) (sx_iconst dX10_mayBegin_65 rfl (sx_icmp_lt 79 dX10_mayBegin_66 (by decide) (b_X10_mayBegin_79) (sx_aload_n dX10_mayBegin_69 rfl (sx_getR dX10_mayBegin_70 fl_FootQuarrel_YearsText_15 (fun _ _ _ => rfl) (sx_bipush dX10_mayBegin_73 rfl (sx_vcall dX10_mayBegin_75 cf_X4_reject (mg_4 (List.mem_of_getElem? (i := 113) rfl) rfl) (mg_3 (List.mem_of_getElem? (i := 217) rfl) rfl) (mg_3 (List.mem_of_getElem? (i := 218) rfl) rfl) rfl c_X4_reject (b_X10_mayBegin_78))))))))
def B_X10_mayBegin_48 (G : GT) (mc ms : Nat) (Q : Post) : Cn := ix_zret mc ms Q
theorem b_X10_mayBegin_48 {l : Launch} {G : GT} {D mc ms : Nat} {Q : Post} : Imp l G M_X10_mayBegin (D + 1) mc ms Q (B_X10_mayBegin_48 G mc ms Q) 48 := sx_zret dX10_mayBegin_48 rfl
def B_X10_mayBegin_26 (G : GT) (mc ms : Nat) (Q : Post) : Cn := ix_zret mc ms Q
theorem b_X10_mayBegin_26 {l : Launch} {G : GT} {D mc ms : Nat} {Q : Post} : Imp l G M_X10_mayBegin (D + 1) mc ms Q (B_X10_mayBegin_26 G mc ms Q) 26 := sx_zret dX10_mayBegin_26 rfl
def B_X10_mayBegin_18 (G : GT) (mc ms : Nat) (Q : Post) : Cn := ix_aload 0 (ix_getR 10 0 (ix_pushI 2 (ix_vcall 4 2 0 0 mc ms (sp_X4_reject G) ((B_X10_mayBegin_26 G mc ms Q)))))
theorem b_X10_mayBegin_18 {l : Launch} {G : GT} {D mc ms : Nat} {Q : Post} : Imp l G M_X10_mayBegin (D + 1) mc ms Q (B_X10_mayBegin_18 G mc ms Q) 18 := sx_aload_n dX10_mayBegin_18 rfl (sx_getR dX10_mayBegin_19 fl_FootQuarrel_YearsText_15 (fun _ _ _ => rfl) (sx_iconst dX10_mayBegin_22 rfl (sx_vcall dX10_mayBegin_23 cf_X4_reject (mg_4 (List.mem_of_getElem? (i := 113) rfl) rfl) (mg_3 (List.mem_of_getElem? (i := 217) rfl) rfl) (mg_3 (List.mem_of_getElem? (i := 218) rfl) rfl) rfl c_X4_reject (b_X10_mayBegin_26))))
def B_X10_mayBegin_0 (G : GT) (mc ms : Nat) (Q : Post) : Cn := ix_iload 1 (ix_pushI 12 (ix_icmp_lt ((B_X10_mayBegin_18 G mc ms Q)) (ix_iload 1 (ix_pushI 19 (ix_icmp_eq ((B_X10_mayBegin_18 G mc ms Q)) (ix_iload 1 (ix_pushI 20 (ix_icmp_ne (ix_aload 0 (ix_getR 10 2 (ix_getI 9 8 (ix_pushI 30 (ix_icmp_lt (ix_iload 1 (ix_pushI 18 (ix_icmp_eq ((B_X10_mayBegin_61 G mc ms Q)) (ix_iload 1 (ix_pushI 21 (ix_icmp_ne ((B_X10_mayBegin_79 G mc ms Q)) ((B_X10_mayBegin_61 G mc ms Q)))))))) (ix_aload 0 (ix_getR 10 0 (ix_pushI 6 (ix_vcall 4 2 0 0 mc ms (sp_X4_reject G) ((B_X10_mayBegin_48 G mc ms Q))))))))))) ((B_X10_mayBegin_18 G mc ms Q))))))))))
theorem b_X10_mayBegin_0 {l : Launch} {G : GT} {D mc ms : Nat} {Q : Post} : Imp l G M_X10_mayBegin (D + 1) mc ms Q (B_X10_mayBegin_0 G mc ms Q) 0 := sx_iload_n dX10_mayBegin_0 rfl (sx_bipush dX10_mayBegin_1 rfl (sx_icmp_lt 18 dX10_mayBegin_3 (by decide) (b_X10_mayBegin_18) (sx_iload_n dX10_mayBegin_6 rfl (sx_bipush dX10_mayBegin_7 rfl (sx_icmp_eq 18 dX10_mayBegin_9 (by decide) (b_X10_mayBegin_18) (sx_iload_n dX10_mayBegin_12 rfl (sx_bipush dX10_mayBegin_13 rfl (sx_icmp_ne 27 dX10_mayBegin_15 (by decide) (sx_aload_n dX10_mayBegin_27 rfl (sx_getR dX10_mayBegin_28 fl_FootQuarrel_YearsText_23 (fun _ _ _ => rfl) (sx_getI dX10_mayBegin_31 fl_FootQuarrel_YearsText_81 (fun _ _ _ => rfl) (sx_bipush dX10_mayBegin_34 rfl (sx_icmp_lt 49 dX10_mayBegin_36 (by decide) (sx_iload_n dX10_mayBegin_49 rfl (sx_bipush dX10_mayBegin_50 rfl (sx_icmp_eq 61 dX10_mayBegin_52 (by decide) (b_X10_mayBegin_61) (sx_iload_n dX10_mayBegin_55 rfl (sx_bipush dX10_mayBegin_56 rfl (sx_icmp_ne 79 dX10_mayBegin_58 (by decide) (b_X10_mayBegin_79) (b_X10_mayBegin_61))))))) (sx_aload_n dX10_mayBegin_39 rfl (sx_getR dX10_mayBegin_40 fl_FootQuarrel_YearsText_15 (fun _ _ _ => rfl) (sx_bipush dX10_mayBegin_43 rfl (sx_vcall dX10_mayBegin_45 cf_X4_reject (mg_4 (List.mem_of_getElem? (i := 113) rfl) rfl) (mg_3 (List.mem_of_getElem? (i := 217) rfl) rfl) (mg_3 (List.mem_of_getElem? (i := 218) rfl) rfl) rfl c_X4_reject (b_X10_mayBegin_48)))))))))) (b_X10_mayBegin_18)))))))))
theorem dX10_takeEnd_0 : decode cX10_takeEnd 0 = .ok (.aload_n 0, 1) := by decide +kernel
theorem dX10_takeEnd_1 : decode cX10_takeEnd 1 = .ok (.getfield 59, 3) := by decide +kernel
theorem dX10_takeEnd_4 : decode cX10_takeEnd 4 = .ok (.ifCond .ne 12, 3) := by decide +kernel
theorem dX10_takeEnd_7 : decode cX10_takeEnd 7 = .ok (.aload_n 0, 1) := by decide +kernel
theorem dX10_takeEnd_8 : decode cX10_takeEnd 8 = .ok (.getfield 15, 3) := by decide +kernel
theorem dX10_takeEnd_11 : decode cX10_takeEnd 11 = .ok (.iconst 2, 1) := by decide +kernel
theorem dX10_takeEnd_12 : decode cX10_takeEnd 12 = .ok (.invokevirtual 62, 3) := by decide +kernel
theorem dX10_takeEnd_15 : decode cX10_takeEnd 15 = .ok (.ireturn, 1) := by decide +kernel
theorem dX10_takeEnd_16 : decode cX10_takeEnd 16 = .ok (.aload_n 0, 1) := by decide +kernel
theorem dX10_takeEnd_17 : decode cX10_takeEnd 17 = .ok (.getfield 15, 3) := by decide +kernel
theorem dX10_takeEnd_20 : decode cX10_takeEnd 20 = .ok (.invokevirtual 69, 3) := by decide +kernel
theorem dX10_takeEnd_23 : decode cX10_takeEnd 23 = .ok (.aload_n 0, 1) := by decide +kernel
theorem dX10_takeEnd_24 : decode cX10_takeEnd 24 = .ok (.dup, 1) := by decide +kernel
theorem dX10_takeEnd_25 : decode cX10_takeEnd 25 = .ok (.getfield 59, 3) := by decide +kernel
theorem dX10_takeEnd_28 : decode cX10_takeEnd 28 = .ok (.iconst 1, 1) := by decide +kernel
theorem dX10_takeEnd_29 : decode cX10_takeEnd 29 = .ok (.isub, 1) := by decide +kernel
theorem dX10_takeEnd_30 : decode cX10_takeEnd 30 = .ok (.putfield 59, 3) := by decide +kernel
theorem dX10_takeEnd_33 : decode cX10_takeEnd 33 = .ok (.aload_n 0, 1) := by decide +kernel
theorem dX10_takeEnd_34 : decode cX10_takeEnd 34 = .ok (.getfield 23, 3) := by decide +kernel
theorem dX10_takeEnd_37 : decode cX10_takeEnd 37 = .ok (.getfield 72, 3) := by decide +kernel
theorem dX10_takeEnd_40 : decode cX10_takeEnd 40 = .ok (.istore_n 1, 1) := by decide +kernel
theorem dX10_takeEnd_41 : decode cX10_takeEnd 41 = .ok (.aload_n 0, 1) := by decide +kernel
theorem dX10_takeEnd_42 : decode cX10_takeEnd 42 = .ok (.getfield 23, 3) := by decide +kernel
theorem dX10_takeEnd_45 : decode cX10_takeEnd 45 = .ok (.getfield 75, 3) := by decide +kernel
theorem dX10_takeEnd_48 : decode cX10_takeEnd 48 = .ok (.iload_n 1, 1) := by decide +kernel
theorem dX10_takeEnd_49 : decode cX10_takeEnd 49 = .ok (.bipush 22, 2) := by decide +kernel
theorem dX10_takeEnd_51 : decode cX10_takeEnd 51 = .ok (.iastore, 1) := by decide +kernel
theorem dX10_takeEnd_52 : decode cX10_takeEnd 52 = .ok (.aload_n 0, 1) := by decide +kernel
theorem dX10_takeEnd_53 : decode cX10_takeEnd 53 = .ok (.getfield 23, 3) := by decide +kernel
theorem dX10_takeEnd_56 : decode cX10_takeEnd 56 = .ok (.getfield 78, 3) := by decide +kernel
theorem dX10_takeEnd_59 : decode cX10_takeEnd 59 = .ok (.iload_n 1, 1) := by decide +kernel
theorem dX10_takeEnd_60 : decode cX10_takeEnd 60 = .ok (.aload_n 0, 1) := by decide +kernel
theorem dX10_takeEnd_61 : decode cX10_takeEnd 61 = .ok (.getfield 11, 3) := by decide +kernel
theorem dX10_takeEnd_64 : decode cX10_takeEnd 64 = .ok (.aload_n 0, 1) := by decide +kernel
theorem dX10_takeEnd_65 : decode cX10_takeEnd 65 = .ok (.getfield 59, 3) := by decide +kernel
theorem dX10_takeEnd_68 : decode cX10_takeEnd 68 = .ok (.iaload, 1) := by decide +kernel
theorem dX10_takeEnd_69 : decode cX10_takeEnd 69 = .ok (.iastore, 1) := by decide +kernel
theorem dX10_takeEnd_70 : decode cX10_takeEnd 70 = .ok (.aload_n 0, 1) := by decide +kernel
theorem dX10_takeEnd_71 : decode cX10_takeEnd 71 = .ok (.getfield 23, 3) := by decide +kernel
theorem dX10_takeEnd_74 : decode cX10_takeEnd 74 = .ok (.getfield 78, 3) := by decide +kernel
theorem dX10_takeEnd_77 : decode cX10_takeEnd 77 = .ok (.aload_n 0, 1) := by decide +kernel
theorem dX10_takeEnd_78 : decode cX10_takeEnd 78 = .ok (.getfield 11, 3) := by decide +kernel
theorem dX10_takeEnd_81 : decode cX10_takeEnd 81 = .ok (.aload_n 0, 1) := by decide +kernel
theorem dX10_takeEnd_82 : decode cX10_takeEnd 82 = .ok (.getfield 59, 3) := by decide +kernel
theorem dX10_takeEnd_85 : decode cX10_takeEnd 85 = .ok (.iaload, 1) := by decide +kernel
theorem dX10_takeEnd_86 : decode cX10_takeEnd 86 = .ok (.iload_n 1, 1) := by decide +kernel
theorem dX10_takeEnd_87 : decode cX10_takeEnd 87 = .ok (.iastore, 1) := by decide +kernel
theorem dX10_takeEnd_88 : decode cX10_takeEnd 88 = .ok (.aload_n 0, 1) := by decide +kernel
theorem dX10_takeEnd_89 : decode cX10_takeEnd 89 = .ok (.getfield 23, 3) := by decide +kernel
theorem dX10_takeEnd_92 : decode cX10_takeEnd 92 = .ok (.dup, 1) := by decide +kernel
theorem dX10_takeEnd_93 : decode cX10_takeEnd 93 = .ok (.getfield 72, 3) := by decide +kernel
theorem dX10_takeEnd_96 : decode cX10_takeEnd 96 = .ok (.iconst 1, 1) := by decide +kernel
theorem dX10_takeEnd_97 : decode cX10_takeEnd 97 = .ok (.iadd, 1) := by decide +kernel
theorem dX10_takeEnd_98 : decode cX10_takeEnd 98 = .ok (.putfield 72, 3) := by decide +kernel
theorem dX10_takeEnd_101 : decode cX10_takeEnd 101 = .ok (.iconst 1, 1) := by decide +kernel
theorem dX10_takeEnd_102 : decode cX10_takeEnd 102 = .ok (.ireturn, 1) := by decide +kernel
abbrev M_X10_takeEnd : MT := (yX10_takeEnd, cX10_takeEnd, 2, (some .boolean))
theorem cf_X10_takeEnd : fq_cf M_X10_takeEnd 0 := ⟨(mg_1 (List.mem_of_getElem? (i := 19) rfl) rfl), (mg_4 (List.mem_of_getElem? (i := 112) rfl) rfl), ⟨by decide, by decide, by decide +kernel⟩, by decide⟩
def B_X10_takeEnd_23 (G : GT) (mc ms : Nat) (Q : Post) : Cn := ix_aload 0 (ix_dupR (ix_getI 10 4 (ix_pushI 1 (ix_isub (ix_putI 10 4 (ix_aload 0 (ix_getR 10 2 (ix_getI 9 7 (ix_istore 1 (ix_aload 0 (ix_getR 10 2 (ix_getR 9 0 (ix_iload 1 (ix_pushI 22 (ix_iast (ix_aload 0 (ix_getR 10 2 (ix_getR 9 6 (ix_iload 1 (ix_aload 0 (ix_getR 10 3 (ix_aload 0 (ix_getI 10 4 (ix_iald (ix_iast (ix_aload 0 (ix_getR 10 2 (ix_getR 9 6 (ix_aload 0 (ix_getR 10 3 (ix_aload 0 (ix_getI 10 4 (ix_iald (ix_iload 1 (ix_iast (ix_aload 0 (ix_getR 10 2 (ix_dupR (ix_getI 9 7 (ix_pushI 1 (ix_iadd (ix_putI 9 7 (ix_pushI 1 (ix_zret mc ms Q))))))))))))))))))))))))))))))))))))))))))))
theorem b_X10_takeEnd_23 {l : Launch} {G : GT} {D mc ms : Nat} {Q : Post} : Imp l G M_X10_takeEnd (D + 3) mc ms Q (B_X10_takeEnd_23 G mc ms Q) 23 := sx_aload_n dX10_takeEnd_23 rfl (sx_dupR dX10_takeEnd_24 (sx_getI dX10_takeEnd_25 fl_FootQuarrel_YearsText_59 (fun _ _ _ => rfl) (sx_iconst dX10_takeEnd_28 rfl (sx_isub dX10_takeEnd_29 (sx_putI dX10_takeEnd_30 fl_FootQuarrel_YearsText_59 (by decide) (fun _ _ _ => rfl) (fun _ => ⟨rfl, rfl⟩) (sx_aload_n dX10_takeEnd_33 rfl (sx_getR dX10_takeEnd_34 fl_FootQuarrel_YearsText_23 (fun _ _ _ => rfl) (sx_getI dX10_takeEnd_37 fl_FootQuarrel_YearsText_72 (fun _ _ _ => rfl) (sx_istore_n dX10_takeEnd_40 rfl (by decide) (sx_aload_n dX10_takeEnd_41 rfl (sx_getR dX10_takeEnd_42 fl_FootQuarrel_YearsText_23 (fun _ _ _ => rfl) (sx_getR dX10_takeEnd_45 fl_FootQuarrel_YearsText_75 (fun _ _ _ => rfl) (sx_iload_n dX10_takeEnd_48 rfl (sx_bipush dX10_takeEnd_49 rfl (sx_iast dX10_takeEnd_51 (sx_aload_n dX10_takeEnd_52 rfl (sx_getR dX10_takeEnd_53 fl_FootQuarrel_YearsText_23 (fun _ _ _ => rfl) (sx_getR dX10_takeEnd_56 fl_FootQuarrel_YearsText_78 (fun _ _ _ => rfl) (sx_iload_n dX10_takeEnd_59 rfl (sx_aload_n dX10_takeEnd_60 rfl (sx_getR dX10_takeEnd_61 fl_FootQuarrel_YearsText_11 (fun _ _ _ => rfl) (sx_aload_n dX10_takeEnd_64 rfl (sx_getI dX10_takeEnd_65 fl_FootQuarrel_YearsText_59 (fun _ _ _ => rfl) (sx_iald dX10_takeEnd_68 (sx_iast dX10_takeEnd_69 (sx_aload_n dX10_takeEnd_70 rfl (sx_getR dX10_takeEnd_71 fl_FootQuarrel_YearsText_23 (fun _ _ _ => rfl) (sx_getR dX10_takeEnd_74 fl_FootQuarrel_YearsText_78 (fun _ _ _ => rfl) (sx_aload_n dX10_takeEnd_77 rfl (sx_getR dX10_takeEnd_78 fl_FootQuarrel_YearsText_11 (fun _ _ _ => rfl) (sx_aload_n dX10_takeEnd_81 rfl (sx_getI dX10_takeEnd_82 fl_FootQuarrel_YearsText_59 (fun _ _ _ => rfl) (sx_iald dX10_takeEnd_85 (sx_iload_n dX10_takeEnd_86 rfl (sx_iast dX10_takeEnd_87 (sx_aload_n dX10_takeEnd_88 rfl (sx_getR dX10_takeEnd_89 fl_FootQuarrel_YearsText_23 (fun _ _ _ => rfl) (sx_dupR dX10_takeEnd_92 (sx_getI dX10_takeEnd_93 fl_FootQuarrel_YearsText_72 (fun _ _ _ => rfl) (sx_iconst dX10_takeEnd_96 rfl (sx_iadd dX10_takeEnd_97 (sx_putI dX10_takeEnd_98 fl_FootQuarrel_YearsText_72 (by decide) (fun _ _ _ => rfl) (fun _ => ⟨rfl, rfl⟩) (sx_iconst dX10_takeEnd_101 rfl (sx_zret dX10_takeEnd_102 rfl))))))))))))))))))))))))))))))))))))))))))))
def B_X10_takeEnd_15 (G : GT) (mc ms : Nat) (Q : Post) : Cn := ix_zret mc ms Q
theorem b_X10_takeEnd_15 {l : Launch} {G : GT} {D mc ms : Nat} {Q : Post} : Imp l G M_X10_takeEnd (D + 3) mc ms Q (B_X10_takeEnd_15 G mc ms Q) 15 := sx_zret dX10_takeEnd_15 rfl
def B_X10_takeEnd_0 (G : GT) (mc ms : Nat) (Q : Post) : Cn := ix_aload 0 (ix_getI 10 4 (ix_if_ne (ix_aload 0 (ix_getR 10 0 (ix_vcall 4 1 0 0 mc ms (sp_X4_advance G) ((B_X10_takeEnd_23 G mc ms Q))))) (ix_aload 0 (ix_getR 10 0 (ix_pushI 2 (ix_vcall 4 2 0 0 mc ms (sp_X4_reject G) ((B_X10_takeEnd_15 G mc ms Q))))))))
theorem b_X10_takeEnd_0 {l : Launch} {G : GT} {D mc ms : Nat} {Q : Post} : Imp l G M_X10_takeEnd (D + 3) mc ms Q (B_X10_takeEnd_0 G mc ms Q) 0 := sx_aload_n dX10_takeEnd_0 rfl (sx_getI dX10_takeEnd_1 fl_FootQuarrel_YearsText_59 (fun _ _ _ => rfl) (sx_if_ne 16 dX10_takeEnd_4 (by decide) (sx_aload_n dX10_takeEnd_16 rfl (sx_getR dX10_takeEnd_17 fl_FootQuarrel_YearsText_15 (fun _ _ _ => rfl) (sx_vcall dX10_takeEnd_20 cf_X4_advance (mg_4 (List.mem_of_getElem? (i := 114) rfl) rfl) (mg_3 (List.mem_of_getElem? (i := 182) rfl) rfl) (mg_3 (List.mem_of_getElem? (i := 183) rfl) rfl) rfl c_X4_advance (b_X10_takeEnd_23)))) (sx_aload_n dX10_takeEnd_7 rfl (sx_getR dX10_takeEnd_8 fl_FootQuarrel_YearsText_15 (fun _ _ _ => rfl) (sx_iconst dX10_takeEnd_11 rfl (sx_vcall dX10_takeEnd_12 cf_X4_reject (mg_4 (List.mem_of_getElem? (i := 113) rfl) rfl) (mg_3 (List.mem_of_getElem? (i := 217) rfl) rfl) (mg_3 (List.mem_of_getElem? (i := 218) rfl) rfl) rfl c_X4_reject (b_X10_takeEnd_15)))))))
theorem dX10_takeStep_0 : decode cX10_takeStep 0 = .ok (.aload_n 0, 1) := by decide +kernel
theorem dX10_takeStep_1 : decode cX10_takeStep 1 = .ok (.getfield 15, 3) := by decide +kernel
theorem dX10_takeStep_4 : decode cX10_takeStep 4 = .ok (.invokevirtual 69, 3) := by decide +kernel
theorem dX10_takeStep_7 : decode cX10_takeStep 7 = .ok (.aload_n 0, 1) := by decide +kernel
theorem dX10_takeStep_8 : decode cX10_takeStep 8 = .ok (.getfield 23, 3) := by decide +kernel
theorem dX10_takeStep_11 : decode cX10_takeStep 11 = .ok (.getfield 72, 3) := by decide +kernel
theorem dX10_takeStep_14 : decode cX10_takeStep 14 = .ok (.istore_n 2, 1) := by decide +kernel
theorem dX10_takeStep_15 : decode cX10_takeStep 15 = .ok (.aload_n 0, 1) := by decide +kernel
theorem dX10_takeStep_16 : decode cX10_takeStep 16 = .ok (.getfield 23, 3) := by decide +kernel
theorem dX10_takeStep_19 : decode cX10_takeStep 19 = .ok (.getfield 75, 3) := by decide +kernel
theorem dX10_takeStep_22 : decode cX10_takeStep 22 = .ok (.iload_n 2, 1) := by decide +kernel
theorem dX10_takeStep_23 : decode cX10_takeStep 23 = .ok (.iload_n 1, 1) := by decide +kernel
theorem dX10_takeStep_24 : decode cX10_takeStep 24 = .ok (.iastore, 1) := by decide +kernel
theorem dX10_takeStep_25 : decode cX10_takeStep 25 = .ok (.aload_n 0, 1) := by decide +kernel
theorem dX10_takeStep_26 : decode cX10_takeStep 26 = .ok (.getfield 23, 3) := by decide +kernel
theorem dX10_takeStep_29 : decode cX10_takeStep 29 = .ok (.dup, 1) := by decide +kernel
theorem dX10_takeStep_30 : decode cX10_takeStep 30 = .ok (.getfield 72, 3) := by decide +kernel
theorem dX10_takeStep_33 : decode cX10_takeStep 33 = .ok (.iconst 1, 1) := by decide +kernel
theorem dX10_takeStep_34 : decode cX10_takeStep 34 = .ok (.iadd, 1) := by decide +kernel
theorem dX10_takeStep_35 : decode cX10_takeStep 35 = .ok (.putfield 72, 3) := by decide +kernel
theorem dX10_takeStep_38 : decode cX10_takeStep 38 = .ok (.aload_n 0, 1) := by decide +kernel
theorem dX10_takeStep_39 : decode cX10_takeStep 39 = .ok (.getfield 23, 3) := by decide +kernel
theorem dX10_takeStep_42 : decode cX10_takeStep 42 = .ok (.dup, 1) := by decide +kernel
theorem dX10_takeStep_43 : decode cX10_takeStep 43 = .ok (.getfield 81, 3) := by decide +kernel
theorem dX10_takeStep_46 : decode cX10_takeStep 46 = .ok (.iconst 1, 1) := by decide +kernel
theorem dX10_takeStep_47 : decode cX10_takeStep 47 = .ok (.iadd, 1) := by decide +kernel
theorem dX10_takeStep_48 : decode cX10_takeStep 48 = .ok (.putfield 81, 3) := by decide +kernel
theorem dX10_takeStep_51 : decode cX10_takeStep 51 = .ok (.iload_n 1, 1) := by decide +kernel
theorem dX10_takeStep_52 : decode cX10_takeStep 52 = .ok (.tableswitch 154 12 21 #[56, 154, 62, 154, 154, 154, 143, 154, 154, 100], 56) := by decide +kernel
theorem dX10_takeStep_108 : decode cX10_takeStep 108 = .ok (.aload_n 0, 1) := by decide +kernel
theorem dX10_takeStep_109 : decode cX10_takeStep 109 = .ok (.iload_n 2, 1) := by decide +kernel
theorem dX10_takeStep_110 : decode cX10_takeStep 110 = .ok (.invokevirtual 84, 3) := by decide +kernel
theorem dX10_takeStep_113 : decode cX10_takeStep 113 = .ok (.ireturn, 1) := by decide +kernel
theorem dX10_takeStep_114 : decode cX10_takeStep 114 = .ok (.aload_n 0, 1) := by decide +kernel
theorem dX10_takeStep_115 : decode cX10_takeStep 115 = .ok (.getfield 23, 3) := by decide +kernel
theorem dX10_takeStep_118 : decode cX10_takeStep 118 = .ok (.getfield 87, 3) := by decide +kernel
theorem dX10_takeStep_121 : decode cX10_takeStep 121 = .ok (.iload_n 2, 1) := by decide +kernel
theorem dX10_takeStep_122 : decode cX10_takeStep 122 = .ok (.aload_n 0, 1) := by decide +kernel
theorem dX10_takeStep_123 : decode cX10_takeStep 123 = .ok (.getfield 15, 3) := by decide +kernel
theorem dX10_takeStep_126 : decode cX10_takeStep 126 = .ok (.iconst 1, 1) := by decide +kernel
theorem dX10_takeStep_127 : decode cX10_takeStep 127 = .ok (.bipush 20, 2) := by decide +kernel
theorem dX10_takeStep_129 : decode cX10_takeStep 129 = .ok (.invokevirtual 90, 3) := by decide +kernel
theorem dX10_takeStep_132 : decode cX10_takeStep 132 = .ok (.iastore, 1) := by decide +kernel
theorem dX10_takeStep_133 : decode cX10_takeStep 133 = .ok (.aload_n 0, 1) := by decide +kernel
theorem dX10_takeStep_134 : decode cX10_takeStep 134 = .ok (.getfield 23, 3) := by decide +kernel
theorem dX10_takeStep_137 : decode cX10_takeStep 137 = .ok (.getfield 87, 3) := by decide +kernel
theorem dX10_takeStep_140 : decode cX10_takeStep 140 = .ok (.iload_n 2, 1) := by decide +kernel
theorem dX10_takeStep_141 : decode cX10_takeStep 141 = .ok (.iaload, 1) := by decide +kernel
theorem dX10_takeStep_142 : decode cX10_takeStep 142 = .ok (.iconst (-1), 1) := by decide +kernel
theorem dX10_takeStep_143 : decode cX10_takeStep 143 = .ok (.if_icmp .eq 7, 3) := by decide +kernel
theorem dX10_takeStep_146 : decode cX10_takeStep 146 = .ok (.iconst 1, 1) := by decide +kernel
theorem dX10_takeStep_147 : decode cX10_takeStep 147 = .ok (.goto 4, 3) := by decide +kernel
theorem dX10_takeStep_150 : decode cX10_takeStep 150 = .ok (.iconst 0, 1) := by decide +kernel
theorem dX10_takeStep_151 : decode cX10_takeStep 151 = .ok (.ireturn, 1) := by decide +kernel
theorem dX10_takeStep_152 : decode cX10_takeStep 152 = .ok (.aload_n 0, 1) := by decide +kernel
theorem dX10_takeStep_153 : decode cX10_takeStep 153 = .ok (.iload_n 2, 1) := by decide +kernel
theorem dX10_takeStep_154 : decode cX10_takeStep 154 = .ok (.invokevirtual 94, 3) := by decide +kernel
theorem dX10_takeStep_157 : decode cX10_takeStep 157 = .ok (.aload_n 0, 1) := by decide +kernel
theorem dX10_takeStep_158 : decode cX10_takeStep 158 = .ok (.getfield 23, 3) := by decide +kernel
theorem dX10_takeStep_161 : decode cX10_takeStep 161 = .ok (.getfield 87, 3) := by decide +kernel
theorem dX10_takeStep_164 : decode cX10_takeStep 164 = .ok (.iload_n 2, 1) := by decide +kernel
theorem dX10_takeStep_165 : decode cX10_takeStep 165 = .ok (.aload_n 0, 1) := by decide +kernel
theorem dX10_takeStep_166 : decode cX10_takeStep 166 = .ok (.getfield 15, 3) := by decide +kernel
theorem dX10_takeStep_169 : decode cX10_takeStep 169 = .ok (.iconst 1, 1) := by decide +kernel
theorem dX10_takeStep_170 : decode cX10_takeStep 170 = .ok (.bipush 99, 2) := by decide +kernel
theorem dX10_takeStep_172 : decode cX10_takeStep 172 = .ok (.invokevirtual 90, 3) := by decide +kernel
theorem dX10_takeStep_175 : decode cX10_takeStep 175 = .ok (.iastore, 1) := by decide +kernel
theorem dX10_takeStep_176 : decode cX10_takeStep 176 = .ok (.aload_n 0, 1) := by decide +kernel
theorem dX10_takeStep_177 : decode cX10_takeStep 177 = .ok (.getfield 23, 3) := by decide +kernel
theorem dX10_takeStep_180 : decode cX10_takeStep 180 = .ok (.getfield 87, 3) := by decide +kernel
theorem dX10_takeStep_183 : decode cX10_takeStep 183 = .ok (.iload_n 2, 1) := by decide +kernel
theorem dX10_takeStep_184 : decode cX10_takeStep 184 = .ok (.iaload, 1) := by decide +kernel
theorem dX10_takeStep_185 : decode cX10_takeStep 185 = .ok (.iconst (-1), 1) := by decide +kernel
theorem dX10_takeStep_186 : decode cX10_takeStep 186 = .ok (.if_icmp .eq 7, 3) := by decide +kernel
theorem dX10_takeStep_189 : decode cX10_takeStep 189 = .ok (.iconst 1, 1) := by decide +kernel
theorem dX10_takeStep_190 : decode cX10_takeStep 190 = .ok (.goto 4, 3) := by decide +kernel
theorem dX10_takeStep_193 : decode cX10_takeStep 193 = .ok (.iconst 0, 1) := by decide +kernel
theorem dX10_takeStep_194 : decode cX10_takeStep 194 = .ok (.ireturn, 1) := by decide +kernel
theorem dX10_takeStep_195 : decode cX10_takeStep 195 = .ok (.aload_n 0, 1) := by decide +kernel
theorem dX10_takeStep_196 : decode cX10_takeStep 196 = .ok (.iload_n 2, 1) := by decide +kernel
theorem dX10_takeStep_197 : decode cX10_takeStep 197 = .ok (.invokevirtual 94, 3) := by decide +kernel
theorem dX10_takeStep_200 : decode cX10_takeStep 200 = .ok (.aload_n 0, 1) := by decide +kernel
theorem dX10_takeStep_201 : decode cX10_takeStep 201 = .ok (.iload_n 2, 1) := by decide +kernel
theorem dX10_takeStep_202 : decode cX10_takeStep 202 = .ok (.invokevirtual 97, 3) := by decide +kernel
theorem dX10_takeStep_205 : decode cX10_takeStep 205 = .ok (.ireturn, 1) := by decide +kernel
theorem dX10_takeStep_206 : decode cX10_takeStep 206 = .ok (.iconst 1, 1) := by decide +kernel
theorem dX10_takeStep_207 : decode cX10_takeStep 207 = .ok (.ireturn, 1) := by decide +kernel
abbrev M_X10_takeStep : MT := (yX10_takeStep, cX10_takeStep, 3, (some .boolean))
theorem cf_X10_takeStep : fq_cf M_X10_takeStep 1 := ⟨(mg_1 (List.mem_of_getElem? (i := 19) rfl) rfl), (mg_4 (List.mem_of_getElem? (i := 122) rfl) rfl), ⟨by decide, by decide, by decide +kernel⟩, by decide⟩
def B_X10_takeStep_206 (G : GT) (mc ms : Nat) (Q : Post) : Cn := ix_pushI 1 (ix_zret mc ms Q)
theorem b_X10_takeStep_206 {l : Launch} {G : GT} {D mc ms : Nat} {Q : Post} : Imp l G M_X10_takeStep (D + 5) mc ms Q (B_X10_takeStep_206 G mc ms Q) 206 := sx_iconst dX10_takeStep_206 rfl (sx_zret dX10_takeStep_207 rfl)
def B_X10_takeStep_205 (G : GT) (mc ms : Nat) (Q : Post) : Cn := ix_zret mc ms Q
theorem b_X10_takeStep_205 {l : Launch} {G : GT} {D mc ms : Nat} {Q : Post} : Imp l G M_X10_takeStep (D + 5) mc ms Q (B_X10_takeStep_205 G mc ms Q) 205 := sx_zret dX10_takeStep_205 rfl
def B_X10_takeStep_200 (G : GT) (mc ms : Nat) (Q : Post) : Cn := ix_aload 0 (ix_iload 2 (ix_vcall 10 2 0 0 mc ms (sp_X10_takeTest G) ((B_X10_takeStep_205 G mc ms Q))))
theorem b_X10_takeStep_200 {l : Launch} {G : GT} {D mc ms : Nat} {Q : Post} : Imp l G M_X10_takeStep (D + 5) mc ms Q (B_X10_takeStep_200 G mc ms Q) 200 := sx_aload_n dX10_takeStep_200 rfl (sx_iload_n dX10_takeStep_201 rfl (sx_vcall dX10_takeStep_202 cf_X10_takeTest (mg_4 (List.mem_of_getElem? (i := 140) rfl) rfl) (mg_4 (List.mem_of_getElem? (i := 142) rfl) rfl) (mg_p (List.mem_of_getElem? (i := 23) rfl) rfl) rfl c_X10_takeTest (b_X10_takeStep_205)))
def B_X10_takeStep_194 (G : GT) (mc ms : Nat) (Q : Post) : Cn := ix_zret mc ms Q
theorem b_X10_takeStep_194 {l : Launch} {G : GT} {D mc ms : Nat} {Q : Post} : Imp l G M_X10_takeStep (D + 5) mc ms Q (B_X10_takeStep_194 G mc ms Q) 194 := sx_zret dX10_takeStep_194 rfl
def B_X10_takeStep_175 (G : GT) (mc ms : Nat) (Q : Post) : Cn := ix_iast (ix_aload 0 (ix_getR 10 2 (ix_getR 9 5 (ix_iload 2 (ix_iald (ix_pushI (-1) (ix_icmp_eq (ix_pushI 0 ((B_X10_takeStep_194 G mc ms Q))) (ix_pushI 1 ((B_X10_takeStep_194 G mc ms Q))))))))))
theorem b_X10_takeStep_175 {l : Launch} {G : GT} {D mc ms : Nat} {Q : Post} : Imp l G M_X10_takeStep (D + 5) mc ms Q (B_X10_takeStep_175 G mc ms Q) 175 := sx_iast dX10_takeStep_175 (sx_aload_n dX10_takeStep_176 rfl (sx_getR dX10_takeStep_177 fl_FootQuarrel_YearsText_23 (fun _ _ _ => rfl) (sx_getR dX10_takeStep_180 fl_FootQuarrel_YearsText_87 (fun _ _ _ => rfl) (sx_iload_n dX10_takeStep_183 rfl (sx_iald dX10_takeStep_184 (sx_iconst dX10_takeStep_185 rfl (sx_icmp_eq 193 dX10_takeStep_186 (by decide) (sx_iconst dX10_takeStep_193 rfl (b_X10_takeStep_194)) (sx_iconst dX10_takeStep_189 rfl (sx_goto 194 dX10_takeStep_190 (by decide) (b_X10_takeStep_194))))))))))
def B_X10_takeStep_157 (G : GT) (mc ms : Nat) (Q : Post) : Cn := ix_aload 0 (ix_getR 10 2 (ix_getR 9 5 (ix_iload 2 (ix_aload 0 (ix_getR 10 0 (ix_pushI 1 (ix_pushI 99 (ix_vcall 4 3 0 0 mc ms (sp_X4_takeNumber G) ((B_X10_takeStep_175 G mc ms Q))))))))))
theorem b_X10_takeStep_157 {l : Launch} {G : GT} {D mc ms : Nat} {Q : Post} : Imp l G M_X10_takeStep (D + 5) mc ms Q (B_X10_takeStep_157 G mc ms Q) 157 := sx_aload_n dX10_takeStep_157 rfl (sx_getR dX10_takeStep_158 fl_FootQuarrel_YearsText_23 (fun _ _ _ => rfl) (sx_getR dX10_takeStep_161 fl_FootQuarrel_YearsText_87 (fun _ _ _ => rfl) (sx_iload_n dX10_takeStep_164 rfl (sx_aload_n dX10_takeStep_165 rfl (sx_getR dX10_takeStep_166 fl_FootQuarrel_YearsText_15 (fun _ _ _ => rfl) (sx_iconst dX10_takeStep_169 rfl (sx_bipush dX10_takeStep_170 rfl (sx_vcall dX10_takeStep_172 cf_X4_takeNumber (mg_4 (List.mem_of_getElem? (i := 135) rfl) rfl) (mg_3 (List.mem_of_getElem? (i := 222) rfl) rfl) (mg_3 (List.mem_of_getElem? (i := 223) rfl) rfl) rfl c_X4_takeNumber (b_X10_takeStep_175)))))))))
def B_X10_takeStep_151 (G : GT) (mc ms : Nat) (Q : Post) : Cn := ix_zret mc ms Q
theorem b_X10_takeStep_151 {l : Launch} {G : GT} {D mc ms : Nat} {Q : Post} : Imp l G M_X10_takeStep (D + 5) mc ms Q (B_X10_takeStep_151 G mc ms Q) 151 := sx_zret dX10_takeStep_151 rfl
def B_X10_takeStep_132 (G : GT) (mc ms : Nat) (Q : Post) : Cn := ix_iast (ix_aload 0 (ix_getR 10 2 (ix_getR 9 5 (ix_iload 2 (ix_iald (ix_pushI (-1) (ix_icmp_eq (ix_pushI 0 ((B_X10_takeStep_151 G mc ms Q))) (ix_pushI 1 ((B_X10_takeStep_151 G mc ms Q))))))))))
theorem b_X10_takeStep_132 {l : Launch} {G : GT} {D mc ms : Nat} {Q : Post} : Imp l G M_X10_takeStep (D + 5) mc ms Q (B_X10_takeStep_132 G mc ms Q) 132 := sx_iast dX10_takeStep_132 (sx_aload_n dX10_takeStep_133 rfl (sx_getR dX10_takeStep_134 fl_FootQuarrel_YearsText_23 (fun _ _ _ => rfl) (sx_getR dX10_takeStep_137 fl_FootQuarrel_YearsText_87 (fun _ _ _ => rfl) (sx_iload_n dX10_takeStep_140 rfl (sx_iald dX10_takeStep_141 (sx_iconst dX10_takeStep_142 rfl (sx_icmp_eq 150 dX10_takeStep_143 (by decide) (sx_iconst dX10_takeStep_150 rfl (b_X10_takeStep_151)) (sx_iconst dX10_takeStep_146 rfl (sx_goto 151 dX10_takeStep_147 (by decide) (b_X10_takeStep_151))))))))))
def B_X10_takeStep_113 (G : GT) (mc ms : Nat) (Q : Post) : Cn := ix_zret mc ms Q
theorem b_X10_takeStep_113 {l : Launch} {G : GT} {D mc ms : Nat} {Q : Post} : Imp l G M_X10_takeStep (D + 5) mc ms Q (B_X10_takeStep_113 G mc ms Q) 113 := sx_zret dX10_takeStep_113 rfl
def B_X10_takeStep_7 (G : GT) (mc ms : Nat) (Q : Post) : Cn := ix_aload 0 (ix_getR 10 2 (ix_getI 9 7 (ix_istore 2 (ix_aload 0 (ix_getR 10 2 (ix_getR 9 0 (ix_iload 2 (ix_iload 1 (ix_iast (ix_aload 0 (ix_getR 10 2 (ix_dupR (ix_getI 9 7 (ix_pushI 1 (ix_iadd (ix_putI 9 7 (ix_aload 0 (ix_getR 10 2 (ix_dupR (ix_getI 9 8 (ix_pushI 1 (ix_iadd (ix_putI 9 8 (ix_iload 1 (ix_tsw 12 [ix_aload 0 (ix_iload 2 (ix_vcall 10 2 0 0 mc ms (sp_X10_takeSpeakers G) ((B_X10_takeStep_113 G mc ms Q)))), (B_X10_takeStep_206 G mc ms Q), ix_aload 0 (ix_getR 10 2 (ix_getR 9 5 (ix_iload 2 (ix_aload 0 (ix_getR 10 0 (ix_pushI 1 (ix_pushI 20 (ix_vcall 4 3 0 0 mc ms (sp_X4_takeNumber G) ((B_X10_takeStep_132 G mc ms Q)))))))))), (B_X10_takeStep_206 G mc ms Q), (B_X10_takeStep_206 G mc ms Q), (B_X10_takeStep_206 G mc ms Q), ix_aload 0 (ix_iload 2 (ix_vcall 10 2 0 0 mc ms (sp_X10_beginPart G) ((B_X10_takeStep_200 G mc ms Q)))), (B_X10_takeStep_206 G mc ms Q), (B_X10_takeStep_206 G mc ms Q), ix_aload 0 (ix_iload 2 (ix_vcall 10 2 0 0 mc ms (sp_X10_beginPart G) ((B_X10_takeStep_157 G mc ms Q))))] ((B_X10_takeStep_206 G mc ms Q)))))))))))))))))))))))))))
theorem b_X10_takeStep_7 {l : Launch} {G : GT} {D mc ms : Nat} {Q : Post} : Imp l G M_X10_takeStep (D + 5) mc ms Q (B_X10_takeStep_7 G mc ms Q) 7 := sx_aload_n dX10_takeStep_7 rfl (sx_getR dX10_takeStep_8 fl_FootQuarrel_YearsText_23 (fun _ _ _ => rfl) (sx_getI dX10_takeStep_11 fl_FootQuarrel_YearsText_72 (fun _ _ _ => rfl) (sx_istore_n dX10_takeStep_14 rfl (by decide) (sx_aload_n dX10_takeStep_15 rfl (sx_getR dX10_takeStep_16 fl_FootQuarrel_YearsText_23 (fun _ _ _ => rfl) (sx_getR dX10_takeStep_19 fl_FootQuarrel_YearsText_75 (fun _ _ _ => rfl) (sx_iload_n dX10_takeStep_22 rfl (sx_iload_n dX10_takeStep_23 rfl (sx_iast dX10_takeStep_24 (sx_aload_n dX10_takeStep_25 rfl (sx_getR dX10_takeStep_26 fl_FootQuarrel_YearsText_23 (fun _ _ _ => rfl) (sx_dupR dX10_takeStep_29 (sx_getI dX10_takeStep_30 fl_FootQuarrel_YearsText_72 (fun _ _ _ => rfl) (sx_iconst dX10_takeStep_33 rfl (sx_iadd dX10_takeStep_34 (sx_putI dX10_takeStep_35 fl_FootQuarrel_YearsText_72 (by decide) (fun _ _ _ => rfl) (fun _ => ⟨rfl, rfl⟩) (sx_aload_n dX10_takeStep_38 rfl (sx_getR dX10_takeStep_39 fl_FootQuarrel_YearsText_23 (fun _ _ _ => rfl) (sx_dupR dX10_takeStep_42 (sx_getI dX10_takeStep_43 fl_FootQuarrel_YearsText_81 (fun _ _ _ => rfl) (sx_iconst dX10_takeStep_46 rfl (sx_iadd dX10_takeStep_47 (sx_putI dX10_takeStep_48 fl_FootQuarrel_YearsText_81 (by decide) (fun _ _ _ => rfl) (fun _ => ⟨rfl, rfl⟩) (sx_iload_n dX10_takeStep_51 rfl (sx_tswA [108, 206, 114, 206, 206, 206, 195, 206, 206, 152] 206 dX10_takeStep_52 rfl (by decide) (by decide) (by decide) ⟨sx_aload_n dX10_takeStep_108 rfl (sx_iload_n dX10_takeStep_109 rfl (sx_vcall dX10_takeStep_110 cf_X10_takeSpeakers (mg_4 (List.mem_of_getElem? (i := 123) rfl) rfl) (mg_4 (List.mem_of_getElem? (i := 125) rfl) rfl) (mg_p (List.mem_of_getElem? (i := 21) rfl) rfl) rfl c_X10_takeSpeakers (b_X10_takeStep_113))), ⟨b_X10_takeStep_206, ⟨sx_aload_n dX10_takeStep_114 rfl (sx_getR dX10_takeStep_115 fl_FootQuarrel_YearsText_23 (fun _ _ _ => rfl) (sx_getR dX10_takeStep_118 fl_FootQuarrel_YearsText_87 (fun _ _ _ => rfl) (sx_iload_n dX10_takeStep_121 rfl (sx_aload_n dX10_takeStep_122 rfl (sx_getR dX10_takeStep_123 fl_FootQuarrel_YearsText_15 (fun _ _ _ => rfl) (sx_iconst dX10_takeStep_126 rfl (sx_bipush dX10_takeStep_127 rfl (sx_vcall dX10_takeStep_129 cf_X4_takeNumber (mg_4 (List.mem_of_getElem? (i := 135) rfl) rfl) (mg_3 (List.mem_of_getElem? (i := 222) rfl) rfl) (mg_3 (List.mem_of_getElem? (i := 223) rfl) rfl) rfl c_X4_takeNumber (b_X10_takeStep_132))))))))), ⟨b_X10_takeStep_206, ⟨b_X10_takeStep_206, ⟨b_X10_takeStep_206, ⟨sx_aload_n dX10_takeStep_195 rfl (sx_iload_n dX10_takeStep_196 rfl (sx_vcall dX10_takeStep_197 cf_X10_beginPart (mg_4 (List.mem_of_getElem? (i := 136) rfl) rfl) (mg_4 (List.mem_of_getElem? (i := 138) rfl) rfl) (mg_p (List.mem_of_getElem? (i := 22) rfl) rfl) rfl c_X10_beginPart (b_X10_takeStep_200))), ⟨b_X10_takeStep_206, ⟨b_X10_takeStep_206, ⟨sx_aload_n dX10_takeStep_152 rfl (sx_iload_n dX10_takeStep_153 rfl (sx_vcall dX10_takeStep_154 cf_X10_beginPart (mg_4 (List.mem_of_getElem? (i := 136) rfl) rfl) (mg_4 (List.mem_of_getElem? (i := 138) rfl) rfl) (mg_p (List.mem_of_getElem? (i := 22) rfl) rfl) rfl c_X10_beginPart (b_X10_takeStep_157))), trivial⟩⟩⟩⟩⟩⟩⟩⟩⟩⟩ (b_X10_takeStep_206))))))))))))))))))))))))))
def B_X10_takeStep_0 (G : GT) (mc ms : Nat) (Q : Post) : Cn := ix_aload 0 (ix_getR 10 0 (ix_vcall 4 1 0 0 mc ms (sp_X4_advance G) ((B_X10_takeStep_7 G mc ms Q))))
theorem b_X10_takeStep_0 {l : Launch} {G : GT} {D mc ms : Nat} {Q : Post} : Imp l G M_X10_takeStep (D + 5) mc ms Q (B_X10_takeStep_0 G mc ms Q) 0 := sx_aload_n dX10_takeStep_0 rfl (sx_getR dX10_takeStep_1 fl_FootQuarrel_YearsText_15 (fun _ _ _ => rfl) (sx_vcall dX10_takeStep_4 cf_X4_advance (mg_4 (List.mem_of_getElem? (i := 114) rfl) rfl) (mg_3 (List.mem_of_getElem? (i := 182) rfl) rfl) (mg_3 (List.mem_of_getElem? (i := 183) rfl) rfl) rfl c_X4_advance (b_X10_takeStep_7)))
theorem wk_b : ∀ x, kwK x → ¬ x = 20 → ((wk x < 12 ∨ wk x = 19 ∨ wk x = 20) ↔ (x < 12 ∨ 21 < x)) ∧ ((wk x = 18 ∨ wk x = 21) ↔ (x = 18 ∨ x = 19)) := by
  have h : ∀ j, j < 24 → ¬ nI j = 20 → ((wk (nI j) < 12 ∨ wk (nI j) = 19 ∨ wk (nI j) = 20) ↔ (nI j < 12 ∨ 21 < nI j)) ∧ ((wk (nI j) = 18 ∨ wk (nI j) = 21) ↔ (nI j = 18 ∨ nI j = 19)) := by decide +kernel
  rintro x (rfl | ⟨j, hj, rfl⟩)
  · decide +kernel
  · exact h j hj
def sp_X10_mayBegin (G : GT) : Sp := fun as S I J z Q => match as with
  | [.ref a, .int b] => ∃ (X s p t c d : Nat) (T : Nat → Int32) (n e : Nat), t = a ∧ b = wk (kwI T n e) ∧ ¬ kwI T n e = 20 ∧ yxS S X s p t ∧ rdQ S I J X T n e ∧ I (p + 4) 8 = nI c ∧ c ≤ 30 ∧ I t 4 = nI d ∧ d ≤ 3 ∧ (kwI T n e < 12 ∨ 21 < kwI T n e → Q (some (.int 0)) S (rej I X T n e 2) J z) ∧ (¬ (kwI T n e < 12 ∨ 21 < kwI T n e) → c = 30 → Q (some (.int 0)) S (rej I X T n e 6) J z) ∧ (¬ (kwI T n e < 12 ∨ 21 < kwI T n e) → ¬ c = 30 → (kwI T n e = 18 ∨ kwI T n e = 19) → d = 3 → Q (some (.int 0)) S (rej I X T n e 7) J z) ∧ (¬ (kwI T n e < 12 ∨ 21 < kwI T n e) → ¬ c = 30 → ¬ ((kwI T n e = 18 ∨ kwI T n e = 19) ∧ d = 3) → Q (some (.int 1)) S I J z)
  | _ => False
set_option maxHeartbeats 4000000 in
set_option maxRecDepth 20000 in
theorem c_X10_mayBegin {l : Launch} {G : GT} {D : Nat} : ∀ as S I J z Q, sp_X10_mayBegin G as S I J z Q → fqCall l G M_X10_mayBegin (D + 1) 0 0 as S I J z Q := by
  intro as S I J z Q h
  unfold sp_X10_mayBegin at h
  split at h
  · next a b =>
    obtain ⟨X, s, p, t, c, d, T, n, e, rfl, rfl, k20, hx, hq, hc, hc3, hd, hd3, h2, h6, h7, h1⟩ := h
    obtain ⟨x1, x2, x3, x4, x5, x6, x7, hs, hp, l1, l2, l3, l4, l5⟩ := hx
    have s1 := hq.1.1.1
    obtain ⟨w1, w2⟩ := wk_b _ (kw_r T n e) k20
    have b18 : (wk (kwI T n e) < 12 ∨ wk (kwI T n e) = 19 ∨ wk (kwI T n e) = 20) → B_X10_mayBegin_18 G 0 0 Q [some (.ref t), some (.int (wk (kwI T n e)))] [] S I J z 0 0 := by
      intro g
      simp (disch := omega) only [B_X10_mayBegin_18, x1, x2, x3, x4, s1, hp.k, hp.r0, hp.k1, hp.r1, hp.k2, hp.r2, hp.k3, hp.r3, hp.k4, hp.r4, hp.k12, hp.n1, hp.n2, hp.n3, hp.y0, hp.k5, hp.n5, hp.y1, hp.k6, hp.n6, hp.y2, hp.k7, hp.n7, hp.y3, hp.k8, hp.n8, hp.y4, hp.k9, hp.n9, hp.y5, hp.k10, hp.n10, hp.y6, hp.k11, hp.n11, hp.p0, hp.p1, hp.p2, hp.k13, hp.n13, hp.q0, hp.q1, hp.k14, hp.k15, hp.k16, hp.n16, hp.k17, hp.n17, hp.rH, hp.kH, hp.rP, hp.kP, hp.rQ, hp.kQ, nI_1, nI_add, nI_clamp, nI_pin, nI_neg, nI_nonneg, nI_leE, nI_ltE, nI_eqE, Nat.not_le, Nat.not_lt, fq_10, fq_01, fq_rr, ix_aald, ix_aast, ix_abs, ix_alen, ix_aload, ix_aret, ix_astore, ix_bald, ix_bast, ix_call, ix_cpyI, ix_cpyJ, ix_dead, ix_dup2, ix_dup2L, ix_dupI, ix_dupR, ix_dupx1, ix_getI, ix_getJ, ix_getR, ix_gfm, ix_gtab, ix_i2b, ix_i2c, ix_i2l, ix_i2s, ix_iadd, ix_iald, ix_iand, ix_iast, ix_icall, ix_icmp_eq, ix_icmp_ge, ix_icmp_gt, ix_icmp_le, ix_icmp_lt, ix_icmp_ne, ix_idiv, ix_if_eq, ix_if_ge, ix_if_gt, ix_if_le, ix_if_lt, ix_if_ne, ix_iinc, ix_iload, ix_imul, ix_ineg, ix_ior, ix_irem, ix_iret, ix_ishl, ix_ishr, ix_istore, ix_isub, ix_iushr, ix_ixor, ix_l2i, ix_ladd, ix_lald, ix_land, ix_last, ix_lcmp, ix_ldcS, ix_ldiv, ix_lload, ix_lmul, ix_lor, ix_lrem, ix_lret, ix_lshl, ix_lstore, ix_lsub, ix_lsw, ix_max, ix_min, ix_new, ix_newa, ix_nret, ix_oinit, ix_pop2L, ix_popI, ix_pushI, ix_pushL, ix_putI, ix_putJ, ix_putR, ix_putZ, ix_sbald, ix_sgetC, ix_sgetV, ix_slen, ix_strc, ix_tald, ix_tsw, ix_vcall, ix_vret, ix_zret, stL, stL2, kilL, popN, fq_sw, fq_lsw, List.map_cons, List.map_nil, List.getElem?_cons_zero, List.getElem?_cons_succ, Option.toList_some, Option.toList_none, List.cons_append, List.nil_append, List.length_cons, List.length_nil, List.sum_cons, List.sum_nil, cat_i, cat_l, cat_r, true_and, and_true, Nat.zero_add, Nat.add_zero, Nat.le_refl, Nat.zero_le, Nat.reduceAdd, Nat.reduceLeDiff, exists_eq_left', Option.some.injEq, not_true_eq_false, not_false_eq_true, false_implies, true_implies, implies_true, and_self, or_true, true_or, or_false, false_or]
      refine rej_R hq ?_
      simp (disch := omega) only [B_X10_mayBegin_26, nI_1, nI_add, nI_clamp, nI_pin, nI_neg, nI_nonneg, nI_leE, nI_ltE, nI_eqE, Nat.not_le, Nat.not_lt, fq_10, fq_01, fq_rr, ix_aald, ix_aast, ix_abs, ix_alen, ix_aload, ix_aret, ix_astore, ix_bald, ix_bast, ix_call, ix_cpyI, ix_cpyJ, ix_dead, ix_dup2, ix_dup2L, ix_dupI, ix_dupR, ix_dupx1, ix_getI, ix_getJ, ix_getR, ix_gfm, ix_gtab, ix_i2b, ix_i2c, ix_i2l, ix_i2s, ix_iadd, ix_iald, ix_iand, ix_iast, ix_icall, ix_icmp_eq, ix_icmp_ge, ix_icmp_gt, ix_icmp_le, ix_icmp_lt, ix_icmp_ne, ix_idiv, ix_if_eq, ix_if_ge, ix_if_gt, ix_if_le, ix_if_lt, ix_if_ne, ix_iinc, ix_iload, ix_imul, ix_ineg, ix_ior, ix_irem, ix_iret, ix_ishl, ix_ishr, ix_istore, ix_isub, ix_iushr, ix_ixor, ix_l2i, ix_ladd, ix_lald, ix_land, ix_last, ix_lcmp, ix_ldcS, ix_ldiv, ix_lload, ix_lmul, ix_lor, ix_lrem, ix_lret, ix_lshl, ix_lstore, ix_lsub, ix_lsw, ix_max, ix_min, ix_new, ix_newa, ix_nret, ix_oinit, ix_pop2L, ix_popI, ix_pushI, ix_pushL, ix_putI, ix_putJ, ix_putR, ix_putZ, ix_sbald, ix_sgetC, ix_sgetV, ix_slen, ix_strc, ix_tald, ix_tsw, ix_vcall, ix_vret, ix_zret, stL, stL2, kilL, popN, fq_sw, fq_lsw, List.map_cons, List.map_nil, List.getElem?_cons_zero, List.getElem?_cons_succ, Option.toList_some, Option.toList_none, List.cons_append, List.nil_append, List.length_cons, List.length_nil, List.sum_cons, List.sum_nil, cat_i, cat_l, cat_r, true_and, and_true, Nat.zero_add, Nat.add_zero, Nat.le_refl, Nat.zero_le, Nat.reduceAdd, Nat.reduceLeDiff, exists_eq_left', Option.some.injEq, not_true_eq_false, not_false_eq_true, false_implies, true_implies, implies_true, and_self, or_true, true_or, or_false, false_or]
      exact h2 (w1.mp g)
    have b79 : ¬ (wk (kwI T n e) < 12 ∨ wk (kwI T n e) = 19 ∨ wk (kwI T n e) = 20) → ¬ c = 30 → ¬ ((wk (kwI T n e) = 18 ∨ wk (kwI T n e) = 21) ∧ d = 3) → B_X10_mayBegin_79 G 0 0 Q [some (.ref t), some (.int (wk (kwI T n e)))] [] S I J z 0 0 := by
      intro g g1 g2
      simp (disch := omega) only [B_X10_mayBegin_79, nI_1, nI_add, nI_clamp, nI_pin, nI_neg, nI_nonneg, nI_leE, nI_ltE, nI_eqE, Nat.not_le, Nat.not_lt, fq_10, fq_01, fq_rr, ix_aald, ix_aast, ix_abs, ix_alen, ix_aload, ix_aret, ix_astore, ix_bald, ix_bast, ix_call, ix_cpyI, ix_cpyJ, ix_dead, ix_dup2, ix_dup2L, ix_dupI, ix_dupR, ix_dupx1, ix_getI, ix_getJ, ix_getR, ix_gfm, ix_gtab, ix_i2b, ix_i2c, ix_i2l, ix_i2s, ix_iadd, ix_iald, ix_iand, ix_iast, ix_icall, ix_icmp_eq, ix_icmp_ge, ix_icmp_gt, ix_icmp_le, ix_icmp_lt, ix_icmp_ne, ix_idiv, ix_if_eq, ix_if_ge, ix_if_gt, ix_if_le, ix_if_lt, ix_if_ne, ix_iinc, ix_iload, ix_imul, ix_ineg, ix_ior, ix_irem, ix_iret, ix_ishl, ix_ishr, ix_istore, ix_isub, ix_iushr, ix_ixor, ix_l2i, ix_ladd, ix_lald, ix_land, ix_last, ix_lcmp, ix_ldcS, ix_ldiv, ix_lload, ix_lmul, ix_lor, ix_lrem, ix_lret, ix_lshl, ix_lstore, ix_lsub, ix_lsw, ix_max, ix_min, ix_new, ix_newa, ix_nret, ix_oinit, ix_pop2L, ix_popI, ix_pushI, ix_pushL, ix_putI, ix_putJ, ix_putR, ix_putZ, ix_sbald, ix_sgetC, ix_sgetV, ix_slen, ix_strc, ix_tald, ix_tsw, ix_vcall, ix_vret, ix_zret, stL, stL2, kilL, popN, fq_sw, fq_lsw, List.map_cons, List.map_nil, List.getElem?_cons_zero, List.getElem?_cons_succ, Option.toList_some, Option.toList_none, List.cons_append, List.nil_append, List.length_cons, List.length_nil, List.sum_cons, List.sum_nil, cat_i, cat_l, cat_r, true_and, and_true, Nat.zero_add, Nat.add_zero, Nat.le_refl, Nat.zero_le, Nat.reduceAdd, Nat.reduceLeDiff, exists_eq_left', Option.some.injEq, not_true_eq_false, not_false_eq_true, false_implies, true_implies, implies_true, and_self, or_true, true_or, or_false, false_or]
      exact h1 (fun q => g (w1.mpr q)) g1 (fun q => g2 ⟨w2.mpr q.1, q.2⟩)
    have b61 : ¬ (wk (kwI T n e) < 12 ∨ wk (kwI T n e) = 19 ∨ wk (kwI T n e) = 20) → ¬ c = 30 → (wk (kwI T n e) = 18 ∨ wk (kwI T n e) = 21) → B_X10_mayBegin_61 G 0 0 Q [some (.ref t), some (.int (wk (kwI T n e)))] [] S I J z 0 0 := by
      intro g g1 g2
      simp (disch := omega) only [B_X10_mayBegin_61, x1, x2, x3, x4, s1, hd, li_3, hp.k, hp.r0, hp.k1, hp.r1, hp.k2, hp.r2, hp.k3, hp.r3, hp.k4, hp.r4, hp.k12, hp.n1, hp.n2, hp.n3, hp.y0, hp.k5, hp.n5, hp.y1, hp.k6, hp.n6, hp.y2, hp.k7, hp.n7, hp.y3, hp.k8, hp.n8, hp.y4, hp.k9, hp.n9, hp.y5, hp.k10, hp.n10, hp.y6, hp.k11, hp.n11, hp.p0, hp.p1, hp.p2, hp.k13, hp.n13, hp.q0, hp.q1, hp.k14, hp.k15, hp.k16, hp.n16, hp.k17, hp.n17, hp.rH, hp.kH, hp.rP, hp.kP, hp.rQ, hp.kQ, nI_1, nI_add, nI_clamp, nI_pin, nI_neg, nI_nonneg, nI_leE, nI_ltE, nI_eqE, Nat.not_le, Nat.not_lt, fq_10, fq_01, fq_rr, ix_aald, ix_aast, ix_abs, ix_alen, ix_aload, ix_aret, ix_astore, ix_bald, ix_bast, ix_call, ix_cpyI, ix_cpyJ, ix_dead, ix_dup2, ix_dup2L, ix_dupI, ix_dupR, ix_dupx1, ix_getI, ix_getJ, ix_getR, ix_gfm, ix_gtab, ix_i2b, ix_i2c, ix_i2l, ix_i2s, ix_iadd, ix_iald, ix_iand, ix_iast, ix_icall, ix_icmp_eq, ix_icmp_ge, ix_icmp_gt, ix_icmp_le, ix_icmp_lt, ix_icmp_ne, ix_idiv, ix_if_eq, ix_if_ge, ix_if_gt, ix_if_le, ix_if_lt, ix_if_ne, ix_iinc, ix_iload, ix_imul, ix_ineg, ix_ior, ix_irem, ix_iret, ix_ishl, ix_ishr, ix_istore, ix_isub, ix_iushr, ix_ixor, ix_l2i, ix_ladd, ix_lald, ix_land, ix_last, ix_lcmp, ix_ldcS, ix_ldiv, ix_lload, ix_lmul, ix_lor, ix_lrem, ix_lret, ix_lshl, ix_lstore, ix_lsub, ix_lsw, ix_max, ix_min, ix_new, ix_newa, ix_nret, ix_oinit, ix_pop2L, ix_popI, ix_pushI, ix_pushL, ix_putI, ix_putJ, ix_putR, ix_putZ, ix_sbald, ix_sgetC, ix_sgetV, ix_slen, ix_strc, ix_tald, ix_tsw, ix_vcall, ix_vret, ix_zret, stL, stL2, kilL, popN, fq_sw, fq_lsw, List.map_cons, List.map_nil, List.getElem?_cons_zero, List.getElem?_cons_succ, Option.toList_some, Option.toList_none, List.cons_append, List.nil_append, List.length_cons, List.length_nil, List.sum_cons, List.sum_nil, cat_i, cat_l, cat_r, true_and, and_true, Nat.zero_add, Nat.add_zero, Nat.le_refl, Nat.zero_le, Nat.reduceAdd, Nat.reduceLeDiff, exists_eq_left', Option.some.injEq, not_true_eq_false, not_false_eq_true, false_implies, true_implies, implies_true, and_self, or_true, true_or, or_false, false_or]
      refine ⟨fun q => b79 g g1 (fun r => by omega), fun q => rej_R hq ?_⟩
      simp (disch := omega) only [B_X10_mayBegin_78, nI_1, nI_add, nI_clamp, nI_pin, nI_neg, nI_nonneg, nI_leE, nI_ltE, nI_eqE, Nat.not_le, Nat.not_lt, fq_10, fq_01, fq_rr, ix_aald, ix_aast, ix_abs, ix_alen, ix_aload, ix_aret, ix_astore, ix_bald, ix_bast, ix_call, ix_cpyI, ix_cpyJ, ix_dead, ix_dup2, ix_dup2L, ix_dupI, ix_dupR, ix_dupx1, ix_getI, ix_getJ, ix_getR, ix_gfm, ix_gtab, ix_i2b, ix_i2c, ix_i2l, ix_i2s, ix_iadd, ix_iald, ix_iand, ix_iast, ix_icall, ix_icmp_eq, ix_icmp_ge, ix_icmp_gt, ix_icmp_le, ix_icmp_lt, ix_icmp_ne, ix_idiv, ix_if_eq, ix_if_ge, ix_if_gt, ix_if_le, ix_if_lt, ix_if_ne, ix_iinc, ix_iload, ix_imul, ix_ineg, ix_ior, ix_irem, ix_iret, ix_ishl, ix_ishr, ix_istore, ix_isub, ix_iushr, ix_ixor, ix_l2i, ix_ladd, ix_lald, ix_land, ix_last, ix_lcmp, ix_ldcS, ix_ldiv, ix_lload, ix_lmul, ix_lor, ix_lrem, ix_lret, ix_lshl, ix_lstore, ix_lsub, ix_lsw, ix_max, ix_min, ix_new, ix_newa, ix_nret, ix_oinit, ix_pop2L, ix_popI, ix_pushI, ix_pushL, ix_putI, ix_putJ, ix_putR, ix_putZ, ix_sbald, ix_sgetC, ix_sgetV, ix_slen, ix_strc, ix_tald, ix_tsw, ix_vcall, ix_vret, ix_zret, stL, stL2, kilL, popN, fq_sw, fq_lsw, List.map_cons, List.map_nil, List.getElem?_cons_zero, List.getElem?_cons_succ, Option.toList_some, Option.toList_none, List.cons_append, List.nil_append, List.length_cons, List.length_nil, List.sum_cons, List.sum_nil, cat_i, cat_l, cat_r, true_and, and_true, Nat.zero_add, Nat.add_zero, Nat.le_refl, Nat.zero_le, Nat.reduceAdd, Nat.reduceLeDiff, exists_eq_left', Option.some.injEq, not_true_eq_false, not_false_eq_true, false_implies, true_implies, implies_true, and_self, or_true, true_or, or_false, false_or]
      exact h7 (fun q => g (w1.mpr q)) g1 (w2.mp g2) (by omega)
    refine fq_enter [some (.ref t), some (.int (wk (kwI T n e)))] (by decide +kernel) (Nat.le_of_ble_eq_true rfl) rfl (b_X10_mayBegin_0 _ _ _ _ _ _ _ _ ?_)
    simp (disch := omega) only [B_X10_mayBegin_0, x1, x2, x3, x4, s1, hc, li_30, hp.k, hp.r0, hp.k1, hp.r1, hp.k2, hp.r2, hp.k3, hp.r3, hp.k4, hp.r4, hp.k12, hp.n1, hp.n2, hp.n3, hp.y0, hp.k5, hp.n5, hp.y1, hp.k6, hp.n6, hp.y2, hp.k7, hp.n7, hp.y3, hp.k8, hp.n8, hp.y4, hp.k9, hp.n9, hp.y5, hp.k10, hp.n10, hp.y6, hp.k11, hp.n11, hp.p0, hp.p1, hp.p2, hp.k13, hp.n13, hp.q0, hp.q1, hp.k14, hp.k15, hp.k16, hp.n16, hp.k17, hp.n17, hp.rH, hp.kH, hp.rP, hp.kP, hp.rQ, hp.kQ, nI_1, nI_add, nI_clamp, nI_pin, nI_neg, nI_nonneg, nI_leE, nI_ltE, nI_eqE, Nat.not_le, Nat.not_lt, fq_10, fq_01, fq_rr, ix_aald, ix_aast, ix_abs, ix_alen, ix_aload, ix_aret, ix_astore, ix_bald, ix_bast, ix_call, ix_cpyI, ix_cpyJ, ix_dead, ix_dup2, ix_dup2L, ix_dupI, ix_dupR, ix_dupx1, ix_getI, ix_getJ, ix_getR, ix_gfm, ix_gtab, ix_i2b, ix_i2c, ix_i2l, ix_i2s, ix_iadd, ix_iald, ix_iand, ix_iast, ix_icall, ix_icmp_eq, ix_icmp_ge, ix_icmp_gt, ix_icmp_le, ix_icmp_lt, ix_icmp_ne, ix_idiv, ix_if_eq, ix_if_ge, ix_if_gt, ix_if_le, ix_if_lt, ix_if_ne, ix_iinc, ix_iload, ix_imul, ix_ineg, ix_ior, ix_irem, ix_iret, ix_ishl, ix_ishr, ix_istore, ix_isub, ix_iushr, ix_ixor, ix_l2i, ix_ladd, ix_lald, ix_land, ix_last, ix_lcmp, ix_ldcS, ix_ldiv, ix_lload, ix_lmul, ix_lor, ix_lrem, ix_lret, ix_lshl, ix_lstore, ix_lsub, ix_lsw, ix_max, ix_min, ix_new, ix_newa, ix_nret, ix_oinit, ix_pop2L, ix_popI, ix_pushI, ix_pushL, ix_putI, ix_putJ, ix_putR, ix_putZ, ix_sbald, ix_sgetC, ix_sgetV, ix_slen, ix_strc, ix_tald, ix_tsw, ix_vcall, ix_vret, ix_zret, stL, stL2, kilL, popN, fq_sw, fq_lsw, List.map_cons, List.map_nil, List.getElem?_cons_zero, List.getElem?_cons_succ, Option.toList_some, Option.toList_none, List.cons_append, List.nil_append, List.length_cons, List.length_nil, List.sum_cons, List.sum_nil, cat_i, cat_l, cat_r, true_and, and_true, Nat.zero_add, Nat.add_zero, Nat.le_refl, Nat.zero_le, Nat.reduceAdd, Nat.reduceLeDiff, exists_eq_left', Option.some.injEq, not_true_eq_false, not_false_eq_true, false_implies, true_implies, implies_true, and_self, or_true, true_or, or_false, false_or]
    refine ⟨fun q => b18 (Or.inl q), fun q1 => ⟨fun q => b18 (Or.inr (Or.inl q)), fun q2 => ⟨fun q3 => ?_, fun q => b18 (Or.inr (Or.inr q))⟩⟩⟩
    have g : ¬ (wk (kwI T n e) < 12 ∨ wk (kwI T n e) = 19 ∨ wk (kwI T n e) = 20) := by
      rintro (h | h | h)
      · exact q1 h
      · exact q2 h
      · exact q3 h
    refine ⟨fun q => ⟨fun r => b61 g (by omega) (Or.inl r), fun r => ⟨fun r2 => b79 g (by omega) (fun v => v.1.elim r r2), fun r2 => b61 g (by omega) (Or.inr r2)⟩⟩, fun q => rej_R hq ?_⟩
    simp (disch := omega) only [B_X10_mayBegin_48, nI_1, nI_add, nI_clamp, nI_pin, nI_neg, nI_nonneg, nI_leE, nI_ltE, nI_eqE, Nat.not_le, Nat.not_lt, fq_10, fq_01, fq_rr, ix_aald, ix_aast, ix_abs, ix_alen, ix_aload, ix_aret, ix_astore, ix_bald, ix_bast, ix_call, ix_cpyI, ix_cpyJ, ix_dead, ix_dup2, ix_dup2L, ix_dupI, ix_dupR, ix_dupx1, ix_getI, ix_getJ, ix_getR, ix_gfm, ix_gtab, ix_i2b, ix_i2c, ix_i2l, ix_i2s, ix_iadd, ix_iald, ix_iand, ix_iast, ix_icall, ix_icmp_eq, ix_icmp_ge, ix_icmp_gt, ix_icmp_le, ix_icmp_lt, ix_icmp_ne, ix_idiv, ix_if_eq, ix_if_ge, ix_if_gt, ix_if_le, ix_if_lt, ix_if_ne, ix_iinc, ix_iload, ix_imul, ix_ineg, ix_ior, ix_irem, ix_iret, ix_ishl, ix_ishr, ix_istore, ix_isub, ix_iushr, ix_ixor, ix_l2i, ix_ladd, ix_lald, ix_land, ix_last, ix_lcmp, ix_ldcS, ix_ldiv, ix_lload, ix_lmul, ix_lor, ix_lrem, ix_lret, ix_lshl, ix_lstore, ix_lsub, ix_lsw, ix_max, ix_min, ix_new, ix_newa, ix_nret, ix_oinit, ix_pop2L, ix_popI, ix_pushI, ix_pushL, ix_putI, ix_putJ, ix_putR, ix_putZ, ix_sbald, ix_sgetC, ix_sgetV, ix_slen, ix_strc, ix_tald, ix_tsw, ix_vcall, ix_vret, ix_zret, stL, stL2, kilL, popN, fq_sw, fq_lsw, List.map_cons, List.map_nil, List.getElem?_cons_zero, List.getElem?_cons_succ, Option.toList_some, Option.toList_none, List.cons_append, List.nil_append, List.length_cons, List.length_nil, List.sum_cons, List.sum_nil, cat_i, cat_l, cat_r, true_and, and_true, Nat.zero_add, Nat.add_zero, Nat.le_refl, Nat.zero_le, Nat.reduceAdd, Nat.reduceLeDiff, exists_eq_left', Option.some.injEq, not_true_eq_false, not_false_eq_true, false_implies, true_implies, implies_true, and_self, or_true, true_or, or_false, false_or]
    exact h6 (fun q => g (w1.mpr q)) (by omega)
  · exact h.elim
