/-! the class's objects made -/
def sfS (S : Sh) (s : Nat) : Prop := (S.1 s = 6) ∧ (S.2.2 s 0 = some (s + 1)) ∧ (S.1 (s + 1) = 16) ∧ (S.2.2 s 1 = some (s + 2)) ∧ (S.1 (s + 2) = 17) ∧ (S.2.2 s 2 = some (s + 3)) ∧ (S.1 (s + 3) = 18) ∧ (S.2.2 s 3 = some (s + 4)) ∧ (S.1 (s + 4) = 9) ∧ (S.2.2 s 4 = some (s + 12)) ∧ (S.1 (s + 12) = 5) ∧ (S.2.1 (s + 1) = 6) ∧ (S.2.1 (s + 2) = 8) ∧ (S.2.1 (s + 3) = 20) ∧ (S.2.2 (s + 4) 0 = some (s + 5)) ∧ (S.1 (s + 5) = 14) ∧ (S.2.1 (s + 5) = 60) ∧ (S.2.2 (s + 4) 1 = some (s + 6)) ∧ (S.1 (s + 6) = 14) ∧ (S.2.1 (s + 6) = 60) ∧ (S.2.2 (s + 4) 2 = some (s + 7)) ∧ (S.1 (s + 7) = 14) ∧ (S.2.1 (s + 7) = 60) ∧ (S.2.2 (s + 4) 3 = some (s + 8)) ∧ (S.1 (s + 8) = 14) ∧ (S.2.1 (s + 8) = 60) ∧ (S.2.2 (s + 4) 4 = some (s + 9)) ∧ (S.1 (s + 9) = 14) ∧ (S.2.1 (s + 9) = 60) ∧ (S.2.2 (s + 4) 5 = some (s + 10)) ∧ (S.1 (s + 10) = 14) ∧ (S.2.1 (s + 10) = 60) ∧ (S.2.2 (s + 4) 6 = some (s + 11)) ∧ (S.1 (s + 11) = 14) ∧ (S.2.1 (s + 11) = 60) ∧ (S.2.2 (s + 12) 0 = some (s + 13)) ∧ (S.2.2 (s + 12) 1 = some (s + 16)) ∧ (S.2.2 (s + 12) 2 = some (s + 17)) ∧ (S.1 (s + 13) = 17) ∧ (S.2.1 (s + 13) = 2) ∧ (S.2.2 (s + 13) 0 = some (s + 14)) ∧ (S.2.2 (s + 13) 1 = some (s + 15)) ∧ (S.1 (s + 14) = 2) ∧ (S.1 (s + 15) = 2) ∧ (S.1 (s + 16) = 14) ∧ (S.2.1 (s + 16) = 2) ∧ (S.1 (s + 17) = 14) ∧ (S.2.1 (s + 17) = 2)
theorem stS_of {S : Sh} {s : Nat} (h : sfS S s) (h1 : ∀ i, i < 6 → S.2.2 (s + 1) i = some (s + 18 + i) ∧ S.1 (s + 18 + i) = 0) (h2 : ∀ i, i < 8 → S.2.2 (s + 2) i = some (s + 24 + i) ∧ S.1 (s + 24 + i) = 2) (h3 : ∀ i, i < 20 → S.2.2 (s + 3) i = some (s + 32 + i) ∧ S.1 (s + 32 + i) = 3) : stS S s := by
  obtain ⟨f0, f1, f2, f3, f4, f5, f6, f7, f8, f9, f10, f11, f12, f13, f14, f15, f16, f17, f18, f19, f20, f21, f22, f23, f24, f25, f26, f27, f28, f29, f30, f31, f32, f33, f34, f35, f36, f37, f38, f39, f40, f41, f42, f43, f44, f45, f46, f47⟩ := h
  exact ⟨f0, f1, f2, f3, f4, f5, f6, f7, f8, f9, f10, f11, f12, f13, f14, f15, f16, f17, f18, f19, f20, f21, f22, f23, f24, f25, f26, f27, f28, f29, f30, f31, f32, f33, f34, f35, f36, f37, f38, f39, f40, f41, f42, f43, f44, f45, f46, f47, h1, h2, h3⟩
theorem sfS.mv {S S' : Sh} {s : Nat} (h : sfS S s) (e1 : ∀ a, s ≤ a → a < s + 18 → S'.1 a = S.1 a ∧ S'.2.1 a = S.2.1 a) (e3 : ∀ a, s ≤ a → a < s + 18 → a ≠ s + 1 → a ≠ s + 2 → a ≠ s + 3 → S'.2.2 a = S.2.2 a) : sfS S' s := by
  have k1 : ∀ a, s ≤ a → a < s + 18 → S'.1 a = S.1 a := fun a x y => (e1 a x y).1
  have k2 : ∀ a, s ≤ a → a < s + 18 → S'.2.1 a = S.2.1 a := fun a x y => (e1 a x y).2
  unfold sfS at h ⊢
  simp (disch := omega) only [k1, k2, e3]
  exact h
/-- what a making leaves as it was, and what is new -/
def mkF (a z z' : Nat) (S S' : Sh) (I I' : IH) (J J' : JH) : Prop := (∀ b, b < z → S'.1 b = S.1 b ∧ S'.2.1 b = S.2.1 b ∧ (b ≠ a → S'.2.2 b = S.2.2 b) ∧ I' b = I b ∧ J' b = J b) ∧ ∀ b, z ≤ b → b < z' → (∀ k, I' b k = 0) ∧ ∀ k, J' b k = 0
theorem dX0_init_0 : decode cX0_init 0 = .ok (.aload_n 0, 1) := by decide +kernel
theorem dX0_init_1 : decode cX0_init 1 = .ok (.invokespecial 1, 3) := by decide +kernel
theorem dX0_init_4 : decode cX0_init 4 = .ok (.return_, 1) := by decide +kernel
abbrev M_X0_init : MT := (yX0_init, cX0_init, 1, none)
theorem cf_X0_init : fq_cf M_X0_init 0 := ⟨(mg_1 (List.mem_of_getElem? (i := 12) rfl) rfl), (mg_2 (List.mem_of_getElem? (i := 59) rfl) rfl), ⟨by decide, by decide, by decide +kernel⟩, by decide⟩
def B_X0_init_0 (G : GT) (mc ms : Nat) (Q : Post) : Cn := ix_aload 0 (ix_oinit (ix_vret mc ms Q))
theorem b_X0_init_0 {l : Launch} {G : GT} {D mc ms : Nat} {Q : Post} : Imp l G M_X0_init (D + 1) mc ms Q (B_X0_init_0 G mc ms Q) 0 := sx_aload_n dX0_init_0 rfl (sx_oinit dX0_init_1 (mg_2 (List.mem_of_getElem? (i := 60) rfl) rfl) (mg_1 (List.mem_of_getElem? (i := 27) rfl) rfl) (mg_1 (List.mem_of_getElem? (i := 28) rfl) rfl) (sx_vret dX0_init_4 rfl))
def sp_X0_init (G : GT) : Sp := fun as S I J z Q => match as with
  | [.ref a0] => B_X0_init_0 G 0 0 Q [some (.ref a0)] [] S I J z 0 0
  | _ => False
theorem c_X0_init {l : Launch} {G : GT} {D : Nat} : ∀ as S I J z Q, sp_X0_init G as S I J z Q → fqCall l G M_X0_init (D + 1) 0 0 as S I J z Q := by
  intro as S I J z Q h
  unfold sp_X0_init at h
  split at h
  · exact fq_enter _ (by decide +kernel) (Nat.le_of_ble_eq_true rfl) rfl (b_X0_init_0 _ _ _ _ _ _ _ _ h)
  · exact h.elim
theorem dX2_init_0 : decode cX2_init 0 = .ok (.aload_n 0, 1) := by decide +kernel
theorem dX2_init_1 : decode cX2_init 1 = .ok (.invokespecial 1, 3) := by decide +kernel
theorem dX2_init_4 : decode cX2_init 4 = .ok (.return_, 1) := by decide +kernel
abbrev M_X2_init : MT := (yX2_init, cX2_init, 1, none)
theorem cf_X2_init : fq_cf M_X2_init 0 := ⟨(mg_1 (List.mem_of_getElem? (i := 11) rfl) rfl), (mg_1 (List.mem_of_getElem? (i := 231) rfl) rfl), ⟨by decide, by decide, by decide +kernel⟩, by decide⟩
def B_X2_init_0 (G : GT) (mc ms : Nat) (Q : Post) : Cn := ix_aload 0 (ix_oinit (ix_vret mc ms Q))
theorem b_X2_init_0 {l : Launch} {G : GT} {D mc ms : Nat} {Q : Post} : Imp l G M_X2_init (D + 1) mc ms Q (B_X2_init_0 G mc ms Q) 0 := sx_aload_n dX2_init_0 rfl (sx_oinit dX2_init_1 (mg_1 (List.mem_of_getElem? (i := 232) rfl) rfl) (mg_1 (List.mem_of_getElem? (i := 27) rfl) rfl) (mg_1 (List.mem_of_getElem? (i := 28) rfl) rfl) (sx_vret dX2_init_4 rfl))
def sp_X2_init (G : GT) : Sp := fun as S I J z Q => match as with
  | [.ref a0] => B_X2_init_0 G 0 0 Q [some (.ref a0)] [] S I J z 0 0
  | _ => False
theorem c_X2_init {l : Launch} {G : GT} {D : Nat} : ∀ as S I J z Q, sp_X2_init G as S I J z Q → fqCall l G M_X2_init (D + 1) 0 0 as S I J z Q := by
  intro as S I J z Q h
  unfold sp_X2_init at h
  split at h
  · exact fq_enter _ (by decide +kernel) (Nat.le_of_ble_eq_true rfl) rfl (b_X2_init_0 _ _ _ _ _ _ _ _ h)
  · exact h.elim
theorem dX3_init_0 : decode cX3_init 0 = .ok (.aload_n 0, 1) := by decide +kernel
theorem dX3_init_1 : decode cX3_init 1 = .ok (.invokespecial 1, 3) := by decide +kernel
theorem dX3_init_4 : decode cX3_init 4 = .ok (.return_, 1) := by decide +kernel
abbrev M_X3_init : MT := (yX3_init, cX3_init, 1, none)
theorem cf_X3_init : fq_cf M_X3_init 0 := ⟨(mg_1 (List.mem_of_getElem? (i := 13) rfl) rfl), (mg_2 (List.mem_of_getElem? (i := 86) rfl) rfl), ⟨by decide, by decide, by decide +kernel⟩, by decide⟩
def B_X3_init_0 (G : GT) (mc ms : Nat) (Q : Post) : Cn := ix_aload 0 (ix_oinit (ix_vret mc ms Q))
theorem b_X3_init_0 {l : Launch} {G : GT} {D mc ms : Nat} {Q : Post} : Imp l G M_X3_init (D + 1) mc ms Q (B_X3_init_0 G mc ms Q) 0 := sx_aload_n dX3_init_0 rfl (sx_oinit dX3_init_1 (mg_2 (List.mem_of_getElem? (i := 87) rfl) rfl) (mg_1 (List.mem_of_getElem? (i := 27) rfl) rfl) (mg_1 (List.mem_of_getElem? (i := 28) rfl) rfl) (sx_vret dX3_init_4 rfl))
def sp_X3_init (G : GT) : Sp := fun as S I J z Q => match as with
  | [.ref a0] => B_X3_init_0 G 0 0 Q [some (.ref a0)] [] S I J z 0 0
  | _ => False
theorem c_X3_init {l : Launch} {G : GT} {D : Nat} : ∀ as S I J z Q, sp_X3_init G as S I J z Q → fqCall l G M_X3_init (D + 1) 0 0 as S I J z Q := by
  intro as S I J z Q h
  unfold sp_X3_init at h
  split at h
  · exact fq_enter _ (by decide +kernel) (Nat.le_of_ble_eq_true rfl) rfl (b_X3_init_0 _ _ _ _ _ _ _ _ h)
  · exact h.elim
theorem dX9_init_0 : decode cX9_init 0 = .ok (.aload_n 0, 1) := by decide +kernel
theorem dX9_init_1 : decode cX9_init 1 = .ok (.invokespecial 1, 3) := by decide +kernel
theorem dX9_init_4 : decode cX9_init 4 = .ok (.aload_n 0, 1) := by decide +kernel
theorem dX9_init_5 : decode cX9_init 5 = .ok (.bipush 60, 2) := by decide +kernel
theorem dX9_init_7 : decode cX9_init 7 = .ok (.newarray .int, 2) := by decide +kernel
theorem dX9_init_9 : decode cX9_init 9 = .ok (.putfield 9, 3) := by decide +kernel
theorem dX9_init_12 : decode cX9_init 12 = .ok (.aload_n 0, 1) := by decide +kernel
theorem dX9_init_13 : decode cX9_init 13 = .ok (.bipush 60, 2) := by decide +kernel
theorem dX9_init_15 : decode cX9_init 15 = .ok (.newarray .int, 2) := by decide +kernel
theorem dX9_init_17 : decode cX9_init 17 = .ok (.putfield 13, 3) := by decide +kernel
theorem dX9_init_20 : decode cX9_init 20 = .ok (.aload_n 0, 1) := by decide +kernel
theorem dX9_init_21 : decode cX9_init 21 = .ok (.bipush 60, 2) := by decide +kernel
theorem dX9_init_23 : decode cX9_init 23 = .ok (.newarray .int, 2) := by decide +kernel
theorem dX9_init_25 : decode cX9_init 25 = .ok (.putfield 16, 3) := by decide +kernel
theorem dX9_init_28 : decode cX9_init 28 = .ok (.aload_n 0, 1) := by decide +kernel
theorem dX9_init_29 : decode cX9_init 29 = .ok (.bipush 60, 2) := by decide +kernel
theorem dX9_init_31 : decode cX9_init 31 = .ok (.newarray .int, 2) := by decide +kernel
theorem dX9_init_33 : decode cX9_init 33 = .ok (.putfield 19, 3) := by decide +kernel
theorem dX9_init_36 : decode cX9_init 36 = .ok (.aload_n 0, 1) := by decide +kernel
theorem dX9_init_37 : decode cX9_init 37 = .ok (.bipush 60, 2) := by decide +kernel
theorem dX9_init_39 : decode cX9_init 39 = .ok (.newarray .int, 2) := by decide +kernel
theorem dX9_init_41 : decode cX9_init 41 = .ok (.putfield 22, 3) := by decide +kernel
theorem dX9_init_44 : decode cX9_init 44 = .ok (.aload_n 0, 1) := by decide +kernel
theorem dX9_init_45 : decode cX9_init 45 = .ok (.bipush 60, 2) := by decide +kernel
theorem dX9_init_47 : decode cX9_init 47 = .ok (.newarray .int, 2) := by decide +kernel
theorem dX9_init_49 : decode cX9_init 49 = .ok (.putfield 25, 3) := by decide +kernel
theorem dX9_init_52 : decode cX9_init 52 = .ok (.aload_n 0, 1) := by decide +kernel
theorem dX9_init_53 : decode cX9_init 53 = .ok (.bipush 60, 2) := by decide +kernel
theorem dX9_init_55 : decode cX9_init 55 = .ok (.newarray .int, 2) := by decide +kernel
theorem dX9_init_57 : decode cX9_init 57 = .ok (.putfield 28, 3) := by decide +kernel
theorem dX9_init_60 : decode cX9_init 60 = .ok (.return_, 1) := by decide +kernel
abbrev M_X9_init : MT := (yX9_init, cX9_init, 1, none)
theorem cf_X9_init : fq_cf M_X9_init 0 := ⟨(mg_1 (List.mem_of_getElem? (i := 9) rfl) rfl), (mg_1 (List.mem_of_getElem? (i := 167) rfl) rfl), ⟨by decide, by decide, by decide +kernel⟩, by decide⟩
def B_X9_init_0 (G : GT) (mc ms : Nat) (Q : Post) : Cn := ix_aload 0 (ix_oinit (ix_aload 0 (ix_pushI 60 (ix_newa 14 mc ms (ix_putR 9 0 (ix_aload 0 (ix_pushI 60 (ix_newa 14 mc ms (ix_putR 9 1 (ix_aload 0 (ix_pushI 60 (ix_newa 14 mc ms (ix_putR 9 2 (ix_aload 0 (ix_pushI 60 (ix_newa 14 mc ms (ix_putR 9 3 (ix_aload 0 (ix_pushI 60 (ix_newa 14 mc ms (ix_putR 9 4 (ix_aload 0 (ix_pushI 60 (ix_newa 14 mc ms (ix_putR 9 5 (ix_aload 0 (ix_pushI 60 (ix_newa 14 mc ms (ix_putR 9 6 (ix_vret mc ms Q))))))))))))))))))))))))))))))
theorem b_X9_init_0 {l : Launch} {G : GT} {D mc ms : Nat} {Q : Post} : Imp l G M_X9_init (D + 1) mc ms Q (B_X9_init_0 G mc ms Q) 0 := sx_aload_n dX9_init_0 rfl (sx_oinit dX9_init_1 (mg_1 (List.mem_of_getElem? (i := 168) rfl) rfl) (mg_1 (List.mem_of_getElem? (i := 27) rfl) rfl) (mg_1 (List.mem_of_getElem? (i := 28) rfl) rfl) (sx_aload_n dX9_init_4 rfl (sx_bipush dX9_init_5 rfl (sx_newa dX9_init_7 rfl (by decide) (by decide) (mg_1 (List.mem_of_getElem? (i := 220) rfl) rfl) (sx_putR dX9_init_9 fl_FootQuarrel_Years_9 (fun _ => ⟨rfl, rfl⟩) (by decide) (fun _ _ _ => rfl) (fun _ => ⟨rfl, rfl⟩) (sx_aload_n dX9_init_12 rfl (sx_bipush dX9_init_13 rfl (sx_newa dX9_init_15 rfl (by decide) (by decide) (mg_1 (List.mem_of_getElem? (i := 220) rfl) rfl) (sx_putR dX9_init_17 fl_FootQuarrel_Years_13 (fun _ => ⟨rfl, rfl⟩) (by decide) (fun _ _ _ => rfl) (fun _ => ⟨rfl, rfl⟩) (sx_aload_n dX9_init_20 rfl (sx_bipush dX9_init_21 rfl (sx_newa dX9_init_23 rfl (by decide) (by decide) (mg_1 (List.mem_of_getElem? (i := 220) rfl) rfl) (sx_putR dX9_init_25 fl_FootQuarrel_Years_16 (fun _ => ⟨rfl, rfl⟩) (by decide) (fun _ _ _ => rfl) (fun _ => ⟨rfl, rfl⟩) (sx_aload_n dX9_init_28 rfl (sx_bipush dX9_init_29 rfl (sx_newa dX9_init_31 rfl (by decide) (by decide) (mg_1 (List.mem_of_getElem? (i := 220) rfl) rfl) (sx_putR dX9_init_33 fl_FootQuarrel_Years_19 (fun _ => ⟨rfl, rfl⟩) (by decide) (fun _ _ _ => rfl) (fun _ => ⟨rfl, rfl⟩) (sx_aload_n dX9_init_36 rfl (sx_bipush dX9_init_37 rfl (sx_newa dX9_init_39 rfl (by decide) (by decide) (mg_1 (List.mem_of_getElem? (i := 220) rfl) rfl) (sx_putR dX9_init_41 fl_FootQuarrel_Years_22 (fun _ => ⟨rfl, rfl⟩) (by decide) (fun _ _ _ => rfl) (fun _ => ⟨rfl, rfl⟩) (sx_aload_n dX9_init_44 rfl (sx_bipush dX9_init_45 rfl (sx_newa dX9_init_47 rfl (by decide) (by decide) (mg_1 (List.mem_of_getElem? (i := 220) rfl) rfl) (sx_putR dX9_init_49 fl_FootQuarrel_Years_25 (fun _ => ⟨rfl, rfl⟩) (by decide) (fun _ _ _ => rfl) (fun _ => ⟨rfl, rfl⟩) (sx_aload_n dX9_init_52 rfl (sx_bipush dX9_init_53 rfl (sx_newa dX9_init_55 rfl (by decide) (by decide) (mg_1 (List.mem_of_getElem? (i := 220) rfl) rfl) (sx_putR dX9_init_57 fl_FootQuarrel_Years_28 (fun _ => ⟨rfl, rfl⟩) (by decide) (fun _ _ _ => rfl) (fun _ => ⟨rfl, rfl⟩) (sx_vret dX9_init_60 rfl))))))))))))))))))))))))))))))
theorem dX5_init_0 : decode cX5_init 0 = .ok (.aload_n 0, 1) := by decide +kernel
theorem dX5_init_1 : decode cX5_init 1 = .ok (.invokespecial 1, 3) := by decide +kernel
theorem dX5_init_4 : decode cX5_init 4 = .ok (.aload_n 0, 1) := by decide +kernel
theorem dX5_init_5 : decode cX5_init 5 = .ok (.iconst 2, 1) := by decide +kernel
theorem dX5_init_6 : decode cX5_init 6 = .ok (.anewarray 7, 3) := by decide +kernel
theorem dX5_init_9 : decode cX5_init 9 = .ok (.dup, 1) := by decide +kernel
theorem dX5_init_10 : decode cX5_init 10 = .ok (.iconst 0, 1) := by decide +kernel
theorem dX5_init_11 : decode cX5_init 11 = .ok (.new 7, 3) := by decide +kernel
theorem dX5_init_14 : decode cX5_init 14 = .ok (.dup, 1) := by decide +kernel
theorem dX5_init_15 : decode cX5_init 15 = .ok (.invokespecial 9, 3) := by decide +kernel
theorem dX5_init_18 : decode cX5_init 18 = .ok (.aastore, 1) := by decide +kernel
theorem dX5_init_19 : decode cX5_init 19 = .ok (.dup, 1) := by decide +kernel
theorem dX5_init_20 : decode cX5_init 20 = .ok (.iconst 1, 1) := by decide +kernel
theorem dX5_init_21 : decode cX5_init 21 = .ok (.new 7, 3) := by decide +kernel
theorem dX5_init_24 : decode cX5_init 24 = .ok (.dup, 1) := by decide +kernel
theorem dX5_init_25 : decode cX5_init 25 = .ok (.invokespecial 9, 3) := by decide +kernel
theorem dX5_init_28 : decode cX5_init 28 = .ok (.aastore, 1) := by decide +kernel
theorem dX5_init_29 : decode cX5_init 29 = .ok (.putfield 10, 3) := by decide +kernel
theorem dX5_init_32 : decode cX5_init 32 = .ok (.aload_n 0, 1) := by decide +kernel
theorem dX5_init_33 : decode cX5_init 33 = .ok (.iconst 2, 1) := by decide +kernel
theorem dX5_init_34 : decode cX5_init 34 = .ok (.newarray .int, 2) := by decide +kernel
theorem dX5_init_36 : decode cX5_init 36 = .ok (.putfield 16, 3) := by decide +kernel
theorem dX5_init_39 : decode cX5_init 39 = .ok (.aload_n 0, 1) := by decide +kernel
theorem dX5_init_40 : decode cX5_init 40 = .ok (.iconst 2, 1) := by decide +kernel
theorem dX5_init_41 : decode cX5_init 41 = .ok (.newarray .int, 2) := by decide +kernel
theorem dX5_init_43 : decode cX5_init 43 = .ok (.putfield 20, 3) := by decide +kernel
theorem dX5_init_46 : decode cX5_init 46 = .ok (.return_, 1) := by decide +kernel
abbrev M_X5_init : MT := (yX5_init, cX5_init, 1, none)
theorem cf_X5_init : fq_cf M_X5_init 0 := ⟨(mg_1 (List.mem_of_getElem? (i := 10) rfl) rfl), (mg_1 (List.mem_of_getElem? (i := 225) rfl) rfl), ⟨by decide, by decide, by decide +kernel⟩, by decide⟩
def B_X5_init_28 (G : GT) (mc ms : Nat) (Q : Post) : Cn := ix_aast 17 2 (ix_putR 5 0 (ix_aload 0 (ix_pushI 2 (ix_newa 14 mc ms (ix_putR 5 1 (ix_aload 0 (ix_pushI 2 (ix_newa 14 mc ms (ix_putR 5 2 (ix_vret mc ms Q))))))))))
theorem b_X5_init_28 {l : Launch} {G : GT} {D mc ms : Nat} {Q : Post} : Imp l G M_X5_init (D + 2) mc ms Q (B_X5_init_28 G mc ms Q) 28 := sx_aast dX5_init_28 rfl (by decide) (by decide) rfl (sx_putR dX5_init_29 fl_FootQuarrel_Spat_10 (fun _ => ⟨rfl, rfl⟩) (by decide) (fun _ _ _ => rfl) (fun _ => ⟨rfl, rfl⟩) (sx_aload_n dX5_init_32 rfl (sx_iconst dX5_init_33 rfl (sx_newa dX5_init_34 rfl (by decide) (by decide) (mg_1 (List.mem_of_getElem? (i := 220) rfl) rfl) (sx_putR dX5_init_36 fl_FootQuarrel_Spat_16 (fun _ => ⟨rfl, rfl⟩) (by decide) (fun _ _ _ => rfl) (fun _ => ⟨rfl, rfl⟩) (sx_aload_n dX5_init_39 rfl (sx_iconst dX5_init_40 rfl (sx_newa dX5_init_41 rfl (by decide) (by decide) (mg_1 (List.mem_of_getElem? (i := 220) rfl) rfl) (sx_putR dX5_init_43 fl_FootQuarrel_Spat_20 (fun _ => ⟨rfl, rfl⟩) (by decide) (fun _ _ _ => rfl) (fun _ => ⟨rfl, rfl⟩) (sx_vret dX5_init_46 rfl))))))))))
def B_X5_init_18 (G : GT) (mc ms : Nat) (Q : Post) : Cn := ix_aast 17 2 (ix_dupR (ix_pushI 1 (ix_new 2 8 mc ms (ix_dupR (ix_icall 1 0 0 mc ms (sp_X2_init G) ((B_X5_init_28 G mc ms Q)))))))
theorem b_X5_init_18 {l : Launch} {G : GT} {D mc ms : Nat} {Q : Post} : Imp l G M_X5_init (D + 2) mc ms Q (B_X5_init_18 G mc ms Q) 18 := sx_aast dX5_init_18 rfl (by decide) (by decide) rfl (sx_dupR dX5_init_19 (sx_iconst dX5_init_20 rfl (sx_new dX5_init_21 ck_2 (mg_1 (List.mem_of_getElem? (i := 227) rfl) rfl) (mg_1 (List.mem_of_getElem? (i := 228) rfl) rfl) (mg_1 (List.mem_of_getElem? (i := 11) rfl) rfl) (by decide) (sx_dupR dX5_init_24 (sx_icallN dX5_init_25 cf_X2_init (by decide) (mg_1 (List.mem_of_getElem? (i := 230) rfl) rfl) rfl c_X2_init (b_X5_init_28))))))
def B_X5_init_0 (G : GT) (mc ms : Nat) (Q : Post) : Cn := ix_aload 0 (ix_oinit (ix_aload 0 (ix_pushI 2 (ix_newa 17 mc ms (ix_dupR (ix_pushI 0 (ix_new 2 8 mc ms (ix_dupR (ix_icall 1 0 0 mc ms (sp_X2_init G) ((B_X5_init_18 G mc ms Q)))))))))))
theorem b_X5_init_0 {l : Launch} {G : GT} {D mc ms : Nat} {Q : Post} : Imp l G M_X5_init (D + 2) mc ms Q (B_X5_init_0 G mc ms Q) 0 := sx_aload_n dX5_init_0 rfl (sx_oinit dX5_init_1 (mg_1 (List.mem_of_getElem? (i := 226) rfl) rfl) (mg_1 (List.mem_of_getElem? (i := 27) rfl) rfl) (mg_1 (List.mem_of_getElem? (i := 28) rfl) rfl) (sx_aload_n dX5_init_4 rfl (sx_iconst dX5_init_5 rfl (sx_anewa dX5_init_6 rfl (by decide) (by decide) (mg_1 (List.mem_of_getElem? (i := 227) rfl) rfl) (by decide) (sx_dupR dX5_init_9 (sx_iconst dX5_init_10 rfl (sx_new dX5_init_11 ck_2 (mg_1 (List.mem_of_getElem? (i := 227) rfl) rfl) (mg_1 (List.mem_of_getElem? (i := 228) rfl) rfl) (mg_1 (List.mem_of_getElem? (i := 11) rfl) rfl) (by decide) (sx_dupR dX5_init_14 (sx_icallN dX5_init_15 cf_X2_init (by decide) (mg_1 (List.mem_of_getElem? (i := 230) rfl) rfl) rfl c_X2_init (b_X5_init_18))))))))))
theorem dX1_init_0 : decode cX1_init 0 = .ok (.aload_n 0, 1) := by decide +kernel
theorem dX1_init_1 : decode cX1_init 1 = .ok (.invokespecial 3, 3) := by decide +kernel
theorem dX1_init_4 : decode cX1_init 4 = .ok (.aload_n 0, 1) := by decide +kernel
theorem dX1_init_5 : decode cX1_init 5 = .ok (.bipush 60, 2) := by decide +kernel
theorem dX1_init_7 : decode cX1_init 7 = .ok (.newarray .int, 2) := by decide +kernel
theorem dX1_init_9 : decode cX1_init 9 = .ok (.putfield 11, 3) := by decide +kernel
theorem dX1_init_12 : decode cX1_init 12 = .ok (.return_, 1) := by decide +kernel
abbrev M_X1_init : MT := (yX1_init, cX1_init, 1, none)
theorem cf_X1_init : fq_cf M_X1_init 0 := ⟨(mg_1 (List.mem_of_getElem? (i := 14) rfl) rfl), (mg_2 (List.mem_of_getElem? (i := 217) rfl) rfl), ⟨by decide, by decide, by decide +kernel⟩, by decide⟩
def B_X1_init_0 (G : GT) (mc ms : Nat) (Q : Post) : Cn := ix_aload 0 (ix_oinit (ix_aload 0 (ix_pushI 60 (ix_newa 14 mc ms (ix_putR 1 0 (ix_vret mc ms Q))))))
theorem b_X1_init_0 {l : Launch} {G : GT} {D mc ms : Nat} {Q : Post} : Imp l G M_X1_init (D + 1) mc ms Q (B_X1_init_0 G mc ms Q) 0 := sx_aload_n dX1_init_0 rfl (sx_oinit dX1_init_1 (mg_2 (List.mem_of_getElem? (i := 218) rfl) rfl) (mg_1 (List.mem_of_getElem? (i := 27) rfl) rfl) (mg_1 (List.mem_of_getElem? (i := 28) rfl) rfl) (sx_aload_n dX1_init_4 rfl (sx_bipush dX1_init_5 rfl (sx_newa dX1_init_7 rfl (by decide) (by decide) (mg_1 (List.mem_of_getElem? (i := 220) rfl) rfl) (sx_putR dX1_init_9 fl_FootQuarrel_Life_11 (fun _ => ⟨rfl, rfl⟩) (by decide) (fun _ _ _ => rfl) (fun _ => ⟨rfl, rfl⟩) (sx_vret dX1_init_12 rfl))))))
def sp_X1_init (G : GT) : Sp := fun as S I J z Q => match as with
  | [.ref a0] => B_X1_init_0 G 1 60 Q [some (.ref a0)] [] S I J z 0 0
  | _ => False
theorem c_X1_init {l : Launch} {G : GT} {D : Nat} : ∀ as S I J z Q, sp_X1_init G as S I J z Q → fqCall l G M_X1_init (D + 1) 1 60 as S I J z Q := by
  intro as S I J z Q h
  unfold sp_X1_init at h
  split at h
  · exact fq_enter _ (by decide +kernel) (Nat.le_of_ble_eq_true rfl) rfl (b_X1_init_0 _ _ _ _ _ _ _ _ h)
  · exact h.elim
theorem dX8_init_0 : decode cX8_init 0 = .ok (.aload_n 0, 1) := by decide +kernel
theorem dX8_init_1 : decode cX8_init 1 = .ok (.invokespecial 3, 3) := by decide +kernel
theorem dX8_init_4 : decode cX8_init 4 = .ok (.aload_n 0, 1) := by decide +kernel
theorem dX8_init_5 : decode cX8_init 5 = .ok (.bipush 60, 2) := by decide +kernel
theorem dX8_init_7 : decode cX8_init 7 = .ok (.newarray .long, 2) := by decide +kernel
theorem dX8_init_9 : decode cX8_init 9 = .ok (.putfield 11, 3) := by decide +kernel
theorem dX8_init_12 : decode cX8_init 12 = .ok (.aload_n 0, 1) := by decide +kernel
theorem dX8_init_13 : decode cX8_init 13 = .ok (.iconst (-1), 1) := by decide +kernel
theorem dX8_init_14 : decode cX8_init 14 = .ok (.putfield 15, 3) := by decide +kernel
theorem dX8_init_17 : decode cX8_init 17 = .ok (.return_, 1) := by decide +kernel
abbrev M_X8_init : MT := (yX8_init, cX8_init, 1, none)
theorem cf_X8_init : fq_cf M_X8_init 0 := ⟨(mg_1 (List.mem_of_getElem? (i := 2) rfl) rfl), (mg_1 (List.mem_of_getElem? (i := 34) rfl) rfl), ⟨by decide, by decide, by decide +kernel⟩, by decide⟩
def B_X8_init_0 (G : GT) (mc ms : Nat) (Q : Post) : Cn := ix_aload 0 (ix_oinit (ix_aload 0 (ix_pushI 60 (ix_newa 15 mc ms (ix_putR 8 0 (ix_aload 0 (ix_pushI (-1) (ix_putI 8 1 (ix_vret mc ms Q)))))))))
theorem b_X8_init_0 {l : Launch} {G : GT} {D mc ms : Nat} {Q : Post} : Imp l G M_X8_init (D + 1) mc ms Q (B_X8_init_0 G mc ms Q) 0 := sx_aload_n dX8_init_0 rfl (sx_oinit dX8_init_1 (mg_1 (List.mem_of_getElem? (i := 35) rfl) rfl) (mg_1 (List.mem_of_getElem? (i := 27) rfl) rfl) (mg_1 (List.mem_of_getElem? (i := 28) rfl) rfl) (sx_aload_n dX8_init_4 rfl (sx_bipush dX8_init_5 rfl (sx_newa dX8_init_7 rfl (by decide) (by decide) (mg_1 (List.mem_of_getElem? (i := 49) rfl) rfl) (sx_putR dX8_init_9 fl_FootQuarrel_Tray_11 (fun _ => ⟨rfl, rfl⟩) (by decide) (fun _ _ _ => rfl) (fun _ => ⟨rfl, rfl⟩) (sx_aload_n dX8_init_12 rfl (sx_iconst dX8_init_13 rfl (sx_putI dX8_init_14 fl_FootQuarrel_Tray_15 (by decide) (fun _ _ _ => rfl) (fun _ => ⟨rfl, rfl⟩) (sx_vret dX8_init_17 rfl)))))))))
def sp_X8_init (G : GT) : Sp := fun as S I J z Q => match as with
  | [.ref a0] => B_X8_init_0 G 1 60 Q [some (.ref a0)] [] S I J z 0 0
  | _ => False
theorem c_X8_init {l : Launch} {G : GT} {D : Nat} : ∀ as S I J z Q, sp_X8_init G as S I J z Q → fqCall l G M_X8_init (D + 1) 1 60 as S I J z Q := by
  intro as S I J z Q h
  unfold sp_X8_init at h
  split at h
  · exact fq_enter _ (by decide +kernel) (Nat.le_of_ble_eq_true rfl) rfl (b_X8_init_0 _ _ _ _ _ _ _ _ h)
  · exact h.elim
def sp_X9_init (G : GT) : Sp := fun as S I J z Q => match as with
  | [.ref a] => ∃ (t : Nat), t = a ∧ S.1 t = 9 ∧ t + 1 = z ∧ ∀ S' I' J', mkF t z (z + 7) S S' I I' J J' → (∀ k, k < 7 → S'.2.2 t k = some (t + 1 + k) ∧ S'.1 (t + 1 + k) = 14 ∧ S'.2.1 (t + 1 + k) = 60) → Q none S' I' J' (z + 7)
  | _ => False
set_option maxHeartbeats 4000000 in
set_option maxRecDepth 20000 in
theorem c_X9_init {l : Launch} {G : GT} {D : Nat} : ∀ as S I J z Q, sp_X9_init G as S I J z Q → fqCall l G M_X9_init (D + 1) 7 420 as S I J z Q := by
  intro as S I J z Q h
  unfold sp_X9_init at h
  split at h
  · next a =>
    obtain ⟨t, rfl, h1, rfl, hQ⟩ := h
    refine fq_enter [some (.ref t)] (by decide +kernel) (Nat.le_of_ble_eq_true rfl) rfl (b_X9_init_0 _ _ _ _ _ _ _ _ ?_)
    simp (disch := omega) only [B_X9_init_0, h1, up1_ne, li_60, nI_1, nI_add, nI_clamp, nI_pin, nI_neg, nI_nonneg, nI_leE, nI_ltE, nI_eqE, Nat.not_le, Nat.not_lt, fq_10, fq_01, fq_rr, ix_aald, ix_aast, ix_abs, ix_alen, ix_aload, ix_aret, ix_astore, ix_bald, ix_bast, ix_call, ix_cpyI, ix_cpyJ, ix_dead, ix_dup2, ix_dup2L, ix_dupI, ix_dupR, ix_dupx1, ix_getI, ix_getJ, ix_getR, ix_gfm, ix_gtab, ix_i2b, ix_i2c, ix_i2l, ix_i2s, ix_iadd, ix_iald, ix_iand, ix_iast, ix_icall, ix_icmp_eq, ix_icmp_ge, ix_icmp_gt, ix_icmp_le, ix_icmp_lt, ix_icmp_ne, ix_idiv, ix_if_eq, ix_if_ge, ix_if_gt, ix_if_le, ix_if_lt, ix_if_ne, ix_iinc, ix_iload, ix_imul, ix_ineg, ix_ior, ix_irem, ix_iret, ix_ishl, ix_ishr, ix_istore, ix_isub, ix_iushr, ix_ixor, ix_l2i, ix_ladd, ix_lald, ix_land, ix_last, ix_lcmp, ix_ldcS, ix_ldiv, ix_lload, ix_lmul, ix_lor, ix_lrem, ix_lret, ix_lshl, ix_lstore, ix_lsub, ix_lsw, ix_max, ix_min, ix_new, ix_newa, ix_nret, ix_oinit, ix_pop2L, ix_popI, ix_pushI, ix_pushL, ix_putI, ix_putJ, ix_putR, ix_putZ, ix_sbald, ix_sgetC, ix_sgetV, ix_slen, ix_strc, ix_tald, ix_tsw, ix_vcall, ix_vret, ix_zret, stL, stL2, kilL, popN, fq_sw, fq_lsw, List.map_cons, List.map_nil, List.getElem?_cons_zero, List.getElem?_cons_succ, Option.toList_some, Option.toList_none, List.cons_append, List.nil_append, List.length_cons, List.length_nil, List.sum_cons, List.sum_nil, cat_i, cat_l, cat_r, true_and, and_true, Nat.zero_add, Nat.add_zero, Nat.le_refl, Nat.zero_le, Nat.reduceAdd, Nat.reduceLeDiff, exists_eq_left', Option.some.injEq, not_true_eq_false, not_false_eq_true, false_implies, true_implies, implies_true, and_self, or_true, true_or, or_false, false_or]
    simp only [Nat.add_assoc, Nat.reduceAdd] at hQ ⊢
    refine hQ _ _ _ ⟨fun b hb => ⟨?_, ?_, fun hb2 => ?_, ?_, ?_⟩, fun b q1 q2 => ?_⟩ (fun k hk => ?_)
    · simp (disch := omega) only [up1_ne]
    · simp (disch := omega) only [up1_ne]
    · simp (disch := omega) only [up1_ne, u2_ne]
    · simp (disch := omega) only [up1_ne]
    · simp (disch := omega) only [up1_ne]
    · rcases (show b = t + 1 ∨ b = t + 2 ∨ b = t + 3 ∨ b = t + 4 ∨ b = t + 5 ∨ b = t + 6 ∨ b = t + 7 by omega) with rfl | rfl | rfl | rfl | rfl | rfl | rfl <;> simp (disch := omega) only [up1_ne, up1_eq, implies_true, and_self]
    · rcases (show k = 0 ∨ k = 1 ∨ k = 2 ∨ k = 3 ∨ k = 4 ∨ k = 5 ∨ k = 6 by omega) with rfl | rfl | rfl | rfl | rfl | rfl | rfl <;> simp (disch := omega) only [Nat.add_assoc, Nat.reduceAdd, Nat.add_zero, up1_ne, up1_eq, u2_same, u2_ck, u2_ne, and_self]
  · exact h.elim
def sp_X5_init (G : GT) : Sp := fun as S I J z Q => match as with
  | [.ref a] => ∃ (t : Nat), t = a ∧ S.1 t = 5 ∧ t + 1 = z ∧ ∀ S' I' J', mkF t z (z + 5) S S' I I' J J' → (S'.2.2 t 0 = some (t + 1) ∧ S'.2.2 t 1 = some (t + 4) ∧ S'.2.2 t 2 = some (t + 5)) → (S'.1 (t + 1) = 17 ∧ S'.2.1 (t + 1) = 2 ∧ S'.2.2 (t + 1) 0 = some (t + 2) ∧ S'.2.2 (t + 1) 1 = some (t + 3) ∧ S'.1 (t + 2) = 2 ∧ S'.1 (t + 3) = 2 ∧ S'.1 (t + 4) = 14 ∧ S'.2.1 (t + 4) = 2 ∧ S'.1 (t + 5) = 14 ∧ S'.2.1 (t + 5) = 2) → Q none S' I' J' (z + 5)
  | _ => False
set_option maxHeartbeats 4000000 in
set_option maxRecDepth 20000 in
theorem c_X5_init {l : Launch} {G : GT} {D : Nat} : ∀ as S I J z Q, sp_X5_init G as S I J z Q → fqCall l G M_X5_init (D + 2) 5 22 as S I J z Q := by
  intro as S I J z Q h
  unfold sp_X5_init at h
  split at h
  · next a =>
    obtain ⟨t, rfl, h1, rfl, hQ⟩ := h
    refine fq_enter [some (.ref t)] (by decide +kernel) (Nat.le_of_ble_eq_true rfl) rfl (b_X5_init_0 _ _ _ _ _ _ _ _ ?_)
    simp (disch := omega) only [B_X5_init_0, B_X5_init_18, B_X5_init_28, sp_X2_init, B_X2_init_0, h1, up1_ne, up1_eq, u2_ne, tn0, tn1, vin02, vin12, li_2, nI_1, nI_add, nI_clamp, nI_pin, nI_neg, nI_nonneg, nI_leE, nI_ltE, nI_eqE, Nat.not_le, Nat.not_lt, fq_10, fq_01, fq_rr, ix_aald, ix_aast, ix_abs, ix_alen, ix_aload, ix_aret, ix_astore, ix_bald, ix_bast, ix_call, ix_cpyI, ix_cpyJ, ix_dead, ix_dup2, ix_dup2L, ix_dupI, ix_dupR, ix_dupx1, ix_getI, ix_getJ, ix_getR, ix_gfm, ix_gtab, ix_i2b, ix_i2c, ix_i2l, ix_i2s, ix_iadd, ix_iald, ix_iand, ix_iast, ix_icall, ix_icmp_eq, ix_icmp_ge, ix_icmp_gt, ix_icmp_le, ix_icmp_lt, ix_icmp_ne, ix_idiv, ix_if_eq, ix_if_ge, ix_if_gt, ix_if_le, ix_if_lt, ix_if_ne, ix_iinc, ix_iload, ix_imul, ix_ineg, ix_ior, ix_irem, ix_iret, ix_ishl, ix_ishr, ix_istore, ix_isub, ix_iushr, ix_ixor, ix_l2i, ix_ladd, ix_lald, ix_land, ix_last, ix_lcmp, ix_ldcS, ix_ldiv, ix_lload, ix_lmul, ix_lor, ix_lrem, ix_lret, ix_lshl, ix_lstore, ix_lsub, ix_lsw, ix_max, ix_min, ix_new, ix_newa, ix_nret, ix_oinit, ix_pop2L, ix_popI, ix_pushI, ix_pushL, ix_putI, ix_putJ, ix_putR, ix_putZ, ix_sbald, ix_sgetC, ix_sgetV, ix_slen, ix_strc, ix_tald, ix_tsw, ix_vcall, ix_vret, ix_zret, stL, stL2, kilL, popN, fq_sw, fq_lsw, List.map_cons, List.map_nil, List.getElem?_cons_zero, List.getElem?_cons_succ, Option.toList_some, Option.toList_none, List.cons_append, List.nil_append, List.length_cons, List.length_nil, List.sum_cons, List.sum_nil, cat_i, cat_l, cat_r, true_and, and_true, Nat.zero_add, Nat.add_zero, Nat.le_refl, Nat.zero_le, Nat.reduceAdd, Nat.reduceLeDiff, exists_eq_left', Option.some.injEq, not_true_eq_false, not_false_eq_true, false_implies, true_implies, implies_true, and_self, or_true, true_or, or_false, false_or]
    simp only [Nat.add_assoc, Nat.reduceAdd] at hQ ⊢
    refine hQ _ _ _ ⟨fun b hb => ⟨?_, ?_, fun hb2 => ?_, ?_, ?_⟩, fun b q1 q2 => ?_⟩ ⟨?_, ?_, ?_⟩ ⟨?_, ?_, ?_, ?_, ?_, ?_, ?_, ?_, ?_, ?_⟩
    · simp (disch := omega) only [up1_ne]
    · simp (disch := omega) only [up1_ne]
    · simp (disch := omega) only [up1_ne, u2_ne]
    · simp (disch := omega) only [up1_ne]
    · simp (disch := omega) only [up1_ne]
    · rcases (show b = t + 1 ∨ b = t + 2 ∨ b = t + 3 ∨ b = t + 4 ∨ b = t + 5 by omega) with rfl | rfl | rfl | rfl | rfl <;> simp (disch := omega) only [up1_ne, up1_eq, implies_true, and_self]
    all_goals simp (disch := omega) only [up1_ne, up1_eq, u2_same, u2_ck, u2_ne]
  · exact h.elim
theorem mkF.tr {a z z1 z2 : Nat} {S S1 S2 : Sh} {I I1 I2 : IH} {J J1 J2 : JH} (h : mkF a z z1 S S1 I I1 J J1) (g : mkF a z1 z2 S1 S2 I1 I2 J1 J2) (hz : z ≤ z1) : mkF a z z2 S S2 I I2 J J2 := by
  refine ⟨fun b hb => ?_, fun b h1 h2 => ?_⟩
  · obtain ⟨x1, x2, x3, x4, x5⟩ := h.1 b hb
    obtain ⟨y1, y2, y3, y4, y5⟩ := g.1 b (by omega)
    exact ⟨y1.trans x1, y2.trans x2, fun q => (y3 q).trans (x3 q), y4.trans x4, y5.trans x5⟩
  · by_cases q : b < z1
    · obtain ⟨-, -, -, y4, y5⟩ := g.1 b q
      rw [y4, y5]
      exact h.2 b h1 q
    · exact g.2 b (by omega) h2
