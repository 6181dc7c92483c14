/-! street() of the class -/
/-- the shape of the class's object: s is its street, p the spare one -/
def cpS (S : Sh) (X s p : Nat) : Prop := trS S X ∧ rdZ S X ∧ (S.2.2 X 1 = some (X + 10) ∧ S.2.2 X 2 = some (X + 11) ∧ S.2.2 X 3 = some (X + 13) ∧ S.2.2 X 4 = some (X + 170) ∧ S.2.2 X 5 = some (X + 172) ∧ S.2.2 X 6 = some s ∧ S.2.2 X 7 = some p) ∧ (S.1 (X + 13) = 19 ∧ S.2.1 (X + 13) = 3 ∧ S.1 (X + 170) = 1 ∧ S.2.2 (X + 170) 0 = some (X + 171) ∧ S.1 (X + 171) = 14 ∧ S.2.1 (X + 171) = 60 ∧ S.1 (X + 172) = 1 ∧ S.2.2 (X + 172) 0 = some (X + 173) ∧ S.1 (X + 173) = 14 ∧ S.2.1 (X + 173) = 60) ∧ (∀ i, i < 3 → S.2.2 (X + 13) i = some (X + 14 + 52 * i) ∧ stS S (X + 14 + 52 * i)) ∧ stS S s ∧ stS S p ∧ ((s = X + 174 ∧ p = X + 226) ∨ (s = X + 226 ∧ p = X + 174))
/-- the shape below z is kept, but for the two streets of the object at X -/
def shK (X z : Nat) (S S' : Sh) : Prop := (∀ a, a < z → S'.1 a = S.1 a ∧ S'.2.1 a = S.2.1 a ∧ (a ≠ X → S'.2.2 a = S.2.2 a)) ∧ ∀ k, k ≠ 6 → k ≠ 7 → S'.2.2 X k = S.2.2 X k
theorem shK.st {X z s : Nat} {S S' : Sh} (h : shK X z S S') (h1 : X < s) (h2 : s + 52 ≤ z) (hs : stS S s) : stS S' s := by
  have e1 : ∀ a, s ≤ a → a < s + 52 → S'.1 a = S.1 a := fun a x y => (h.1 a (by omega)).1
  have e2 : ∀ a, s ≤ a → a < s + 52 → S'.2.1 a = S.2.1 a := fun a x y => (h.1 a (by omega)).2.1
  have e3 : ∀ a, s ≤ a → a < s + 52 → S'.2.2 a = S.2.2 a := fun a x y => (h.1 a (by omega)).2.2 (by omega)
  unfold stS at hs ⊢
  simp +contextual (disch := omega) only [e1, e2, e3]
  exact hs
theorem shK.rd {X z : Nat} {S S' : Sh} (h : shK X z S S') (h2 : X + 13 ≤ z) (hs : rdZ S X) : rdZ S' X := by
  have e1 : ∀ a, X + 10 ≤ a → a < X + 13 → S'.1 a = S.1 a := fun a x y => (h.1 a (by omega)).1
  have e2 : ∀ a, X + 10 ≤ a → a < X + 13 → S'.2.1 a = S.2.1 a := fun a x y => (h.1 a (by omega)).2.1
  have e3 : ∀ a, X + 10 ≤ a → a < X + 13 → S'.2.2 a = S.2.2 a := fun a x y => (h.1 a (by omega)).2.2 (by omega)
  unfold rdZ at hs ⊢
  simp +contextual (disch := omega) only [e1, e2, e3]
  exact hs
theorem shK.tr {X z : Nat} {S S' : Sh} (h : shK X z S S') (h2 : X + 10 ≤ z) (hs : trS S X) : trS S' X := by
  have e1 : ∀ a, X ≤ a → a < X + 10 → S'.1 a = S.1 a := fun a x y => (h.1 a (by omega)).1
  have e2 : ∀ a, X ≤ a → a < X + 10 → S'.2.1 a = S.2.1 a := fun a x y => (h.1 a (by omega)).2.1
  have e3 : ∀ a, X < a → a < X + 10 → S'.2.2 a = S.2.2 a := fun a x y => (h.1 a (by omega)).2.2 (by omega)
  have e0 := h.2 0 (by omega) (by omega)
  unfold trS at hs ⊢
  simp +contextual (disch := omega) only [e1, e2, e3, e0]
  exact hs
theorem shK.rf {X z M : Nat} {S S' : Sh} (h : shK X z S S') (h1 : X < M) (h2 : M + 15 ≤ z) (hs : rfS S M) : rfS S' M := by
  have e1 : ∀ a, M ≤ a → a < M + 15 → S'.1 a = S.1 a := fun a x y => (h.1 a (by omega)).1
  have e2 : ∀ a, M ≤ a → a < M + 15 → S'.2.1 a = S.2.1 a := fun a x y => (h.1 a (by omega)).2.1
  have e3 : ∀ a, M ≤ a → a < M + 15 → S'.2.2 a = S.2.2 a := fun a x y => (h.1 a (by omega)).2.2 (by omega)
  unfold rfS at hs ⊢
  simp +contextual (disch := omega) only [e1, e2, e3]
  exact hs
theorem shK.cp {X z s p : Nat} {S S' : Sh} (h : shK X z S S') (h2 : X + 278 ≤ z) (hs : cpS S X s p) {s' p' : Nat} (h6 : S'.2.2 X 6 = some s') (h7 : S'.2.2 X 7 = some p') (hsp : (s' = s ∧ p' = p) ∨ (s' = p ∧ p' = s)) : cpS S' X s' p' := by
  obtain ⟨a1, a2, ⟨b1, b2, b3, b4, b5, b6, b7⟩, ⟨c1, c2, c3, c4, c5, c6, c7, c8, c9, c10⟩, d, f1, f2, g⟩ := hs
  have e1 : ∀ a, a < X + 278 → S'.1 a = S.1 a := fun a x => (h.1 a (by omega)).1
  have e2 : ∀ a, a < X + 278 → S'.2.1 a = S.2.1 a := fun a x => (h.1 a (by omega)).2.1
  have e3 : ∀ a, X < a → a < X + 278 → S'.2.2 a = S.2.2 a := fun a y x => (h.1 a (by omega)).2.2 (by omega)
  refine ⟨h.tr (by omega) a1, h.rd (by omega) a2, ⟨(h.2 1 (by omega) (by omega)).trans b1, (h.2 2 (by omega) (by omega)).trans b2, (h.2 3 (by omega) (by omega)).trans b3, (h.2 4 (by omega) (by omega)).trans b4, (h.2 5 (by omega) (by omega)).trans b5, h6, h7⟩, ?_, fun i hi => ?_, ?_, ?_, by omega⟩
  · simp (disch := omega) only [e1, e2, e3, c1, c2, c3, c4, c5, c6, c7, c8, c9, c10, and_self]
  · rw [e3 _ (by omega) (by omega)]
    exact ⟨(d i hi).1, h.st (by omega) (by omega) (d i hi).2⟩
  · rcases hsp with ⟨rfl, rfl⟩ | ⟨rfl, rfl⟩
    · exact h.st (by omega) (by omega) f1
    · exact h.st (by omega) (by omega) f2
  · rcases hsp with ⟨rfl, rfl⟩ | ⟨rfl, rfl⟩
    · exact h.st (by omega) (by omega) f2
    · exact h.st (by omega) (by omega) f1
/-- what a text may have changed of the class's object -/
def ctG (X p z : Nat) (I I' : IH) (J J' : JH) : Prop := (∀ a, a ≠ X → a ≠ X + 11 → a < z → ¬ (p ≤ a ∧ a < p + 32) → I' a = I a) ∧ (∀ k, k ≠ 8 → k ≠ 10 → k ≠ 11 → k ≠ 12 → I' X k = I X k) ∧ I' X 8 = 0 ∧ ∀ a, a ≠ X + 11 → a < z → ¬ (p ≤ a ∧ a < p + 32) → J' a = J a
def csQ (X s p z n : Nat) (S : Sh) (I : IH) (J : JH) (Q : Post) : PR → Prop
  | .inl f => ∀ S' I' J', shK X z S S' → cpS S' X s p → ctG X p z I I' J J' → I' X 11 = f.1 → I' X 12 = nI f.2 → I' X 10 = 9 → Q (some (.int (-1))) S' I' J' (z + 1)
  | .inr σ => ∀ S' I' J', shK X z S S' → cpS S' X p s → ctG X p z I I' J J' → I' X 11 = 0 → I' X 12 = -1 → I' X 10 = 0 → stR I' p (slN σ.1) → nmsR J' p σ.2.1 56 (σ.1 2376).toNatClampNeg (σ.1 2377).toNatClampNeg → (I' (p + 4) 9 = 0 ∧ I' (p + 4) 7 = 0) → Q (some (.int (σ.1 2377))) S' I' J' (z + 1)
theorem dX11_street_0 : decode cX11_street 0 = .ok (.iload_n 1, 1) := by decide +kernel
theorem dX11_street_1 : decode cX11_street 1 = .ok (.iconst 0, 1) := by decide +kernel
theorem dX11_street_2 : decode cX11_street 2 = .ok (.aload_n 0, 1) := by decide +kernel
theorem dX11_street_3 : decode cX11_street 3 = .ok (.getfield 121, 3) := by decide +kernel
theorem dX11_street_6 : decode cX11_street 6 = .ok (.invokestatic 74, 3) := by decide +kernel
theorem dX11_street_9 : decode cX11_street 9 = .ok (.ifCond .ne 9, 3) := by decide +kernel
theorem dX11_street_12 : decode cX11_street 12 = .ok (.aload_n 0, 1) := by decide +kernel
theorem dX11_street_13 : decode cX11_street 13 = .ok (.iconst 1, 1) := by decide +kernel
theorem dX11_street_14 : decode cX11_street 14 = .ok (.invokevirtual 97, 3) := by decide +kernel
theorem dX11_street_17 : decode cX11_street 17 = .ok (.ireturn, 1) := by decide +kernel
theorem dX11_street_18 : decode cX11_street 18 = .ok (.new 128, 3) := by decide +kernel
theorem dX11_street_21 : decode cX11_street 21 = .ok (.dup, 1) := by decide +kernel
theorem dX11_street_22 : decode cX11_street 22 = .ok (.aload_n 0, 1) := by decide +kernel
theorem dX11_street_23 : decode cX11_street 23 = .ok (.getfield 25, 3) := by decide +kernel
theorem dX11_street_26 : decode cX11_street 26 = .ok (.aload_n 0, 1) := by decide +kernel
theorem dX11_street_27 : decode cX11_street 27 = .ok (.getfield 50, 3) := by decide +kernel
theorem dX11_street_30 : decode cX11_street 30 = .ok (.invokespecial 130, 3) := by decide +kernel
theorem dX11_street_33 : decode cX11_street 33 = .ok (.astore_n 2, 1) := by decide +kernel
theorem dX11_street_34 : decode cX11_street 34 = .ok (.aload_n 2, 1) := by decide +kernel
theorem dX11_street_35 : decode cX11_street 35 = .ok (.iload_n 1, 1) := by decide +kernel
theorem dX11_street_36 : decode cX11_street 36 = .ok (.invokevirtual 133, 3) := by decide +kernel
theorem dX11_street_39 : decode cX11_street 39 = .ok (.istore_n 3, 1) := by decide +kernel
theorem dX11_street_40 : decode cX11_street 40 = .ok (.aload_n 0, 1) := by decide +kernel
theorem dX11_street_41 : decode cX11_street 41 = .ok (.invokevirtual 136, 3) := by decide +kernel
theorem dX11_street_44 : decode cX11_street 44 = .ok (.iload_n 3, 1) := by decide +kernel
theorem dX11_street_45 : decode cX11_street 45 = .ok (.ifCond .ne 10, 3) := by decide +kernel
theorem dX11_street_48 : decode cX11_street 48 = .ok (.aload_n 0, 1) := by decide +kernel
theorem dX11_street_49 : decode cX11_street 49 = .ok (.bipush 9, 2) := by decide +kernel
theorem dX11_street_51 : decode cX11_street 51 = .ok (.invokevirtual 97, 3) := by decide +kernel
theorem dX11_street_54 : decode cX11_street 54 = .ok (.ireturn, 1) := by decide +kernel
theorem dX11_street_55 : decode cX11_street 55 = .ok (.aload_n 0, 1) := by decide +kernel
theorem dX11_street_56 : decode cX11_street 56 = .ok (.getfield 46, 3) := by decide +kernel
theorem dX11_street_59 : decode cX11_street 59 = .ok (.astore 4, 2) := by decide +kernel
theorem dX11_street_61 : decode cX11_street 61 = .ok (.aload_n 0, 1) := by decide +kernel
theorem dX11_street_62 : decode cX11_street 62 = .ok (.aload_n 0, 1) := by decide +kernel
theorem dX11_street_63 : decode cX11_street 63 = .ok (.getfield 50, 3) := by decide +kernel
theorem dX11_street_66 : decode cX11_street 66 = .ok (.putfield 46, 3) := by decide +kernel
theorem dX11_street_69 : decode cX11_street 69 = .ok (.aload_n 0, 1) := by decide +kernel
theorem dX11_street_70 : decode cX11_street 70 = .ok (.aload 4, 2) := by decide +kernel
theorem dX11_street_72 : decode cX11_street 72 = .ok (.putfield 50, 3) := by decide +kernel
theorem dX11_street_75 : decode cX11_street 75 = .ok (.aload_n 0, 1) := by decide +kernel
theorem dX11_street_76 : decode cX11_street 76 = .ok (.aload_n 0, 1) := by decide +kernel
theorem dX11_street_77 : decode cX11_street 77 = .ok (.getfield 46, 3) := by decide +kernel
theorem dX11_street_80 : decode cX11_street 80 = .ok (.getfield 139, 3) := by decide +kernel
theorem dX11_street_83 : decode cX11_street 83 = .ok (.invokevirtual 142, 3) := by decide +kernel
theorem dX11_street_86 : decode cX11_street 86 = .ok (.ireturn, 1) := by decide +kernel
abbrev M_X11_street : MT := (yX11_street, cX11_street, 5, (some .int))
theorem cf_X11_street : fq_cf M_X11_street 1 := ⟨(mg_1 (List.mem_of_getElem? (i := 1) rfl) rfl), (mg_3 (List.mem_of_getElem? (i := 146) rfl) rfl), ⟨by decide, by decide, by decide +kernel⟩, by decide⟩
def B_X11_street_86 (G : GT) (mc ms : Nat) (Q : Post) : Cn := ix_iret mc ms Q
theorem b_X11_street_86 {l : Launch} {G : GT} {D mc ms : Nat} {Q : Post} : Imp l G M_X11_street (D + 7) mc ms Q (B_X11_street_86 G mc ms Q) 86 := sx_iret dX11_street_86 rfl
def B_X11_street_54 (G : GT) (mc ms : Nat) (Q : Post) : Cn := ix_iret mc ms Q
theorem b_X11_street_54 {l : Launch} {G : GT} {D mc ms : Nat} {Q : Post} : Imp l G M_X11_street (D + 7) mc ms Q (B_X11_street_54 G mc ms Q) 54 := sx_iret dX11_street_54 rfl
def B_X11_street_44 (G : GT) (mc ms : Nat) (Q : Post) : Cn := ix_iload 3 (ix_if_ne (ix_aload 0 (ix_getR 11 6 (ix_astore 4 (ix_aload 0 (ix_aload 0 (ix_getR 11 7 (ix_putR 11 6 (ix_aload 0 (ix_aload 4 (ix_putR 11 7 (ix_aload 0 (ix_aload 0 (ix_getR 11 6 (ix_getI 6 6 (ix_vcall 11 2 0 0 mc ms (sp_X11_answer G) ((B_X11_street_86 G mc ms Q))))))))))))))))) (ix_aload 0 (ix_pushI 9 (ix_vcall 11 2 0 0 mc ms (sp_X11_refuse G) ((B_X11_street_54 G mc ms Q))))))
theorem b_X11_street_44 {l : Launch} {G : GT} {D mc ms : Nat} {Q : Post} : Imp l G M_X11_street (D + 7) mc ms Q (B_X11_street_44 G mc ms Q) 44 := sx_iload_n dX11_street_44 rfl (sx_if_ne 55 dX11_street_45 (by decide) (sx_aload_n dX11_street_55 rfl (sx_getR dX11_street_56 fl_FootQuarrel_46 (fun _ _ _ => rfl) (sx_astore dX11_street_59 (by decide) (sx_aload_n dX11_street_61 rfl (sx_aload_n dX11_street_62 rfl (sx_getR dX11_street_63 fl_FootQuarrel_50 (fun _ _ _ => rfl) (sx_putR dX11_street_66 fl_FootQuarrel_46 (fun q => by cases q) (by decide) (fun _ _ _ => rfl) (fun _ => ⟨rfl, rfl⟩) (sx_aload_n dX11_street_69 rfl (sx_aload dX11_street_70 (sx_putR dX11_street_72 fl_FootQuarrel_50 (fun q => by cases q) (by decide) (fun _ _ _ => rfl) (fun _ => ⟨rfl, rfl⟩) (sx_aload_n dX11_street_75 rfl (sx_aload_n dX11_street_76 rfl (sx_getR dX11_street_77 fl_FootQuarrel_46 (fun _ _ _ => rfl) (sx_getI dX11_street_80 fl_FootQuarrel_139 (fun _ _ _ => rfl) (sx_vcall dX11_street_83 cf_X11_answer (mg_4 (List.mem_of_getElem? (i := 72) rfl) rfl) (mg_4 (List.mem_of_getElem? (i := 74) rfl) rfl) (mg_p (List.mem_of_getElem? (i := 17) rfl) rfl) rfl c_X11_answer (b_X11_street_86)))))))))))))))) (sx_aload_n dX11_street_48 rfl (sx_bipush dX11_street_49 rfl (sx_vcall dX11_street_51 cf_X11_refuse (mg_3 (List.mem_of_getElem? (i := 120) rfl) rfl) (mg_3 (List.mem_of_getElem? (i := 122) rfl) rfl) (mg_p (List.mem_of_getElem? (i := 3) rfl) rfl) rfl c_X11_refuse (b_X11_street_54)))))
def B_X11_street_39 (G : GT) (mc ms : Nat) (Q : Post) : Cn := ix_istore 3 (ix_aload 0 (ix_vcall 11 1 0 0 mc ms (sp_X11_endText G) ((B_X11_street_44 G mc ms Q))))
theorem b_X11_street_39 {l : Launch} {G : GT} {D mc ms : Nat} {Q : Post} : Imp l G M_X11_street (D + 7) mc ms Q (B_X11_street_39 G mc ms Q) 39 := sx_istore_n dX11_street_39 rfl (by decide) (sx_aload_n dX11_street_40 rfl (sx_vcall dX11_street_41 cf_X11_endText (mg_4 (List.mem_of_getElem? (i := 68) rfl) rfl) (mg_4 (List.mem_of_getElem? (i := 70) rfl) rfl) (mg_p (List.mem_of_getElem? (i := 16) rfl) rfl) rfl c_X11_endText (b_X11_street_44)))
def B_X11_street_33 (G : GT) (mc ms : Nat) (Q : Post) : Cn := ix_astore 2 (ix_aload 2 (ix_iload 1 (ix_vcall 7 2 0 0 mc ms (sp_X7_take G) ((B_X11_street_39 G mc ms Q)))))
theorem b_X11_street_33 {l : Launch} {G : GT} {D mc ms : Nat} {Q : Post} : Imp l G M_X11_street (D + 7) mc ms Q (B_X11_street_33 G mc ms Q) 33 := sx_astore_n dX11_street_33 rfl (by decide) (sx_aload_n dX11_street_34 rfl (sx_iload_n dX11_street_35 rfl (sx_vcall dX11_street_36 cf_X7_take (mg_3 (List.mem_of_getElem? (i := 169) rfl) rfl) (mg_3 (List.mem_of_getElem? (i := 170) rfl) rfl) (mg_3 (List.mem_of_getElem? (i := 171) rfl) rfl) rfl c_X7_take (b_X11_street_39))))
def B_X11_street_17 (G : GT) (mc ms : Nat) (Q : Post) : Cn := ix_iret mc ms Q
theorem b_X11_street_17 {l : Launch} {G : GT} {D mc ms : Nat} {Q : Post} : Imp l G M_X11_street (D + 7) mc ms Q (B_X11_street_17 G mc ms Q) 17 := sx_iret dX11_street_17 rfl
def B_X11_street_9 (G : GT) (mc ms : Nat) (Q : Post) : Cn := ix_if_ne (ix_new 7 5 mc ms (ix_dupR (ix_aload 0 (ix_getR 11 2 (ix_aload 0 (ix_getR 11 7 (ix_icall 3 0 0 mc ms (sp_X7_init G) ((B_X11_street_33 G mc ms Q))))))))) (ix_aload 0 (ix_pushI 1 (ix_vcall 11 2 0 0 mc ms (sp_X11_refuse G) ((B_X11_street_17 G mc ms Q)))))
theorem b_X11_street_9 {l : Launch} {G : GT} {D mc ms : Nat} {Q : Post} : Imp l G M_X11_street (D + 7) mc ms Q (B_X11_street_9 G mc ms Q) 9 := sx_if_ne 18 dX11_street_9 (by decide) (sx_new dX11_street_18 ck_7 (mg_3 (List.mem_of_getElem? (i := 147) rfl) rfl) (mg_3 (List.mem_of_getElem? (i := 148) rfl) rfl) (mg_1 (List.mem_of_getElem? (i := 17) rfl) rfl) (by decide) (sx_dupR dX11_street_21 (sx_aload_n dX11_street_22 rfl (sx_getR dX11_street_23 fl_FootQuarrel_25 (fun _ _ _ => rfl) (sx_aload_n dX11_street_26 rfl (sx_getR dX11_street_27 fl_FootQuarrel_50 (fun _ _ _ => rfl) (sx_icall dX11_street_30 cf_X7_init (mg_3 (List.mem_of_getElem? (i := 149) rfl) rfl) (mg_3 (List.mem_of_getElem? (i := 150) rfl) rfl) rfl c_X7_init (b_X11_street_33)))))))) (sx_aload_n dX11_street_12 rfl (sx_iconst dX11_street_13 rfl (sx_vcall dX11_street_14 cf_X11_refuse (mg_3 (List.mem_of_getElem? (i := 120) rfl) rfl) (mg_3 (List.mem_of_getElem? (i := 122) rfl) rfl) (mg_p (List.mem_of_getElem? (i := 3) rfl) rfl) rfl c_X11_refuse (b_X11_street_17))))
def B_X11_street_0 (G : GT) (mc ms : Nat) (Q : Post) : Cn := ix_iload 1 (ix_pushI 0 (ix_aload 0 (ix_getI 11 8 (ix_call 3 0 0 mc ms (sp_X11_isWithin G) ((B_X11_street_9 G mc ms Q))))))
theorem b_X11_street_0 {l : Launch} {G : GT} {D mc ms : Nat} {Q : Post} : Imp l G M_X11_street (D + 7) mc ms Q (B_X11_street_0 G mc ms Q) 0 := sx_iload_n dX11_street_0 rfl (sx_iconst dX11_street_1 rfl (sx_aload_n dX11_street_2 rfl (sx_getI dX11_street_3 fl_FootQuarrel_121 (fun _ _ _ => rfl) (sx_scall dX11_street_6 cf_X11_isWithin (mg_3 (List.mem_of_getElem? (i := 85) rfl) rfl) (mg_3 (List.mem_of_getElem? (i := 86) rfl) rfl) c_X11_isWithin (b_X11_street_9)))))
def sp_X11_street (G : GT) : Sp := fun as S I J z Q => match as with
  | [.ref a, .int b] => ∃ (X s p L : Nat), X = a ∧ cpS S X s p ∧ X + 278 ≤ z ∧ I X 8 = nI L ∧ L ≤ 900 ∧ (¬ (0 ≤ b ∧ b ≤ nI L) → Q (some (.int (-1))) S (u2 I X 10 1) J z) ∧ ∀ (n : Nat), b = nI n → n ≤ L → ∃ (T : Nat → Int32) (A : Nat → Int32) (N : Nat → Int64), rdE S I J X T n ∧ plN A ∧ csQ X s p z n S I J Q (pSt T n (n + 1) 0 (A, N, 0))
  | _ => False
theorem rng_n {b : Int32} {L : Nat} (hL : L ≤ 900) (h : 0 ≤ b ∧ b ≤ nI L) : ∃ n, b = nI n ∧ n ≤ L := by
  obtain ⟨h0, h1⟩ := h
  obtain ⟨j, hj, rfl⟩ := nI_of (Int32.not_lt.mpr h0)
  exact ⟨j, rfl, (nI_leI hj (by omega)).mp h1⟩
set_option maxHeartbeats 4000000 in
set_option maxRecDepth 20000 in
theorem c_X11_street {l : Launch} {G : GT} {D : Nat} : ∀ as S I J z Q, sp_X11_street G as S I J z Q → fqCall l G M_X11_street (D + 7) 1 5 as S I J z Q := by
  intro as S I J z Q h
  unfold sp_X11_street at h
  split at h
  · next a b =>
    obtain ⟨X, s, p, L, rfl, hc, hz, h8, hL, hQ1, hQ2⟩ := h
    have hc0 := hc
    obtain ⟨a1, a2, ⟨b1, b2, b3, b4, b5, b6, b7⟩, -, -, f1, f2, g⟩ := hc
    have k0 := a1.1
    refine fq_enter [some (.ref X), some (.int b), none, none, none] (by decide +kernel) (Nat.le_of_ble_eq_true rfl) rfl (b_X11_street_0 _ _ _ _ _ _ _ _ ?_)
    simp (disch := omega) only [B_X11_street_0, sp_X11_isWithin, k0, h8, ix_aald, ix_aast, ix_abs, ix_alen, ix_aload, ix_aret, ix_astore, ix_bald, ix_bast, ix_call, ix_cpyI, ix_cpyJ, ix_dead, ix_dup2, ix_dup2L, ix_dupI, ix_dupR, ix_dupx1, ix_getI, ix_getJ, ix_getR, ix_gfm, ix_gtab, ix_i2b, ix_i2c, ix_i2l, ix_i2s, ix_iadd, ix_iald, ix_iand, ix_iast, ix_icall, ix_icmp_eq, ix_icmp_ge, ix_icmp_gt, ix_icmp_le, ix_icmp_lt, ix_icmp_ne, ix_idiv, ix_if_eq, ix_if_ge, ix_if_gt, ix_if_le, ix_if_lt, ix_if_ne, ix_iinc, ix_iload, ix_imul, ix_ineg, ix_ior, ix_irem, ix_iret, ix_ishl, ix_ishr, ix_istore, ix_isub, ix_iushr, ix_ixor, ix_l2i, ix_ladd, ix_lald, ix_land, ix_last, ix_lcmp, ix_ldcS, ix_ldiv, ix_lload, ix_lmul, ix_lor, ix_lrem, ix_lret, ix_lshl, ix_lstore, ix_lsub, ix_lsw, ix_max, ix_min, ix_new, ix_newa, ix_nret, ix_oinit, ix_pop2L, ix_popI, ix_pushI, ix_pushL, ix_putI, ix_putJ, ix_putR, ix_putZ, ix_sbald, ix_sgetC, ix_sgetV, ix_slen, ix_strc, ix_tald, ix_tsw, ix_vcall, ix_vret, ix_zret, stL, stL2, kilL, popN, fq_sw, fq_lsw, List.map_cons, List.map_nil, List.getElem?_cons_zero, List.getElem?_cons_succ, Option.toList_some, Option.toList_none, List.cons_append, List.nil_append, List.length_cons, List.length_nil, List.sum_cons, List.sum_nil, cat_i, cat_l, cat_r, true_and, and_true, Nat.zero_add, Nat.add_zero, Nat.le_refl, Nat.zero_le, Nat.reduceAdd, Nat.reduceLeDiff, exists_eq_left', Option.some.injEq, not_true_eq_false, not_false_eq_true, false_implies, true_implies, implies_true, and_self, or_true, true_or, or_false, false_or]
    by_cases h0 : 0 ≤ b ∧ b ≤ nI L
    · obtain ⟨n, rfl, hn⟩ := rng_n hL h0
      obtain ⟨T, A, N, hE, hA, hR⟩ := hQ2 n rfl hn
      have hb : bI ((0 : Int32) ≤ nI n ∧ nI n ≤ nI L) = 1 := bI_t h0
      generalize bI ((0 : Int32) ≤ nI n ∧ nI n ≤ nI L) = w at hb
      subst hb
      simp (disch := omega) only [B_X11_street_9, k0, b2, b7, up1_ne, sp_X7_init, B_X7_init_0, up1_eq, B_X11_street_33, nI_1, nI_add, nI_clamp, nI_pin, nI_neg, nI_nonneg, nI_leE, nI_ltE, nI_eqE, Nat.not_le, Nat.not_lt, fq_10, fq_01, fq_rr, ix_aald, ix_aast, ix_abs, ix_alen, ix_aload, ix_aret, ix_astore, ix_bald, ix_bast, ix_call, ix_cpyI, ix_cpyJ, ix_dead, ix_dup2, ix_dup2L, ix_dupI, ix_dupR, ix_dupx1, ix_getI, ix_getJ, ix_getR, ix_gfm, ix_gtab, ix_i2b, ix_i2c, ix_i2l, ix_i2s, ix_iadd, ix_iald, ix_iand, ix_iast, ix_icall, ix_icmp_eq, ix_icmp_ge, ix_icmp_gt, ix_icmp_le, ix_icmp_lt, ix_icmp_ne, ix_idiv, ix_if_eq, ix_if_ge, ix_if_gt, ix_if_le, ix_if_lt, ix_if_ne, ix_iinc, ix_iload, ix_imul, ix_ineg, ix_ior, ix_irem, ix_iret, ix_ishl, ix_ishr, ix_istore, ix_isub, ix_iushr, ix_ixor, ix_l2i, ix_ladd, ix_lald, ix_land, ix_last, ix_lcmp, ix_ldcS, ix_ldiv, ix_lload, ix_lmul, ix_lor, ix_lrem, ix_lret, ix_lshl, ix_lstore, ix_lsub, ix_lsw, ix_max, ix_min, ix_new, ix_newa, ix_nret, ix_oinit, ix_pop2L, ix_popI, ix_pushI, ix_pushL, ix_putI, ix_putJ, ix_putR, ix_putZ, ix_sbald, ix_sgetC, ix_sgetV, ix_slen, ix_strc, ix_tald, ix_tsw, ix_vcall, ix_vret, ix_zret, stL, stL2, kilL, popN, fq_sw, fq_lsw, List.map_cons, List.map_nil, List.getElem?_cons_zero, List.getElem?_cons_succ, Option.toList_some, Option.toList_none, List.cons_append, List.nil_append, List.length_cons, List.length_nil, List.sum_cons, List.sum_nil, cat_i, cat_l, cat_r, true_and, and_true, Nat.zero_add, Nat.add_zero, Nat.le_refl, Nat.zero_le, Nat.reduceAdd, Nat.reduceLeDiff, exists_eq_left', Option.some.injEq, not_true_eq_false, not_false_eq_true, false_implies, true_implies, implies_true, and_self, or_true, true_or, or_false, false_or]
      generalize hS1 : ((up1 S.1 z 7, S.2.1, u2 (u2 (up1 S.2.2 z fun _ => none) z 0 (some (X + 11))) z 1 (some p)) : Sh) = S1
      have k1 : ∀ a, a ≠ z → S1.1 a = S.1 a := fun a q => by rw [← hS1]; exact up1_ne q
      have k2 : ∀ a, S1.2.1 a = S.2.1 a := fun a => by rw [← hS1]
      have k3 : ∀ a, a ≠ z → S1.2.2 a = S.2.2 a := fun a q => by
        rw [← hS1]
        show u2 (u2 (up1 S.2.2 z fun _ => none) z 0 (some (X + 11))) z 1 (some p) a = _
        rw [u2_ne q, u2_ne q, up1_ne q]
      have q1 : S1.1 z = 7 := by rw [← hS1]; exact up1_eq
      have q2 : S1.2.2 z 0 = some (X + 11) := by
        rw [← hS1]
        show u2 (u2 (up1 S.2.2 z fun _ => none) z 0 (some (X + 11))) z 1 (some p) z 0 = _
        rw [u2_ck _ _ _ _ _ _ (by omega), u2_same]
      have q3 : S1.2.2 z 1 = some p := by
        rw [← hS1]
        show u2 (u2 (up1 S.2.2 z fun _ => none) z 0 (some (X + 11))) z 1 (some p) z 1 = _
        rw [u2_same]
      have hK : shK X z S S1 := ⟨fun a ha => ⟨k1 a (by omega), k2 a, fun _ => k3 a (by omega)⟩, fun k _ _ => by rw [k3 X (by omega)]⟩
      have hc1 : cpS S1 X s p := hK.cp hz hc0 (by rw [k3 X (by omega)]; exact b6) (by rw [k3 X (by omega)]; exact b7) (Or.inl ⟨rfl, rfl⟩)
      generalize hI1 : (up1 I z fun _ => 0) = I1
      generalize hJ1 : (up1 J z fun _ => 0) = J1
      have i1 : ∀ a, a ≠ z → I1 a = I a := fun a q => by rw [← hI1, up1_ne q]
      have i2 : ∀ k, I1 z k = 0 := fun k => by rw [← hI1, up1_eq]
      have j1 : ∀ a, a ≠ z → J1 a = J a := fun a q => by rw [← hJ1, up1_ne q]
      clear hS1 hI1 hJ1
      have hE1 : rdE S1 I1 J1 X T n := ⟨hK.rd (by omega) hE.1, hE.2.1, by rw [i1 _ (by omega)]; exact hE.2.2.1, by rw [j1 _ (by omega)]; exact hE.2.2.2⟩
      have hx : txS S1 X p z := ⟨q1, q2, q3, hc1.2.2.2.2.2.2.1, by omega, by omega, by omega⟩
      refine ⟨X, p, z, T, n, A, N, rfl, rfl, hx, hE1, i2 2, i2 3, i2 4, hA, ?_⟩
      have hc1' := hc1
      obtain ⟨c1, -, ⟨-, d2, -, -, -, d6, d7⟩, -, -, g1, g2, -⟩ := hc1
      have k0' := c1.1
      have fr : ∀ I2 J2 v, csF X p z I1 I2 J1 J2 → ctG X p z I (u2 (u2 (u2 (u2 I2 X 8 0) X 11 (I2 (X + 11) 10)) X 12 (I2 (X + 11) 11)) X 10 v) J J2 := by
        intro I2 J2 v hF
        refine ⟨fun a x1 x2 x3 x4 => ?_, fun k x1 x2 x3 x4 => ?_, ?_, fun a x1 x2 x3 => ?_⟩
        · rw [u2_ne x1, u2_ne x1, u2_ne x1, u2_ne x1, hF.1 a x2 (by omega) x4, i1 a (by omega)]
        · rw [u2_ck _ _ _ _ _ _ x2, u2_ck _ _ _ _ _ _ x4, u2_ck _ _ _ _ _ _ x3, u2_ck _ _ _ _ _ _ x1, hF.1 X (by omega) (by omega) (by omega), i1 X (by omega)]
        · rw [u2_ck _ _ _ _ _ _ (by omega), u2_ck _ _ _ _ _ _ (by omega), u2_ck _ _ _ _ _ _ (by omega), u2_same]
        · rw [hF.2 a x1 x3, j1 a (by omega)]
      cases hp : pSt T n (n + 1) 0 (A, N, 0) with
      | inl f =>
        rw [hp] at hR
        intro I2 J2 hF r1 r2
        simp (disch := omega) only [B_X11_street_39, B_X11_street_44, B_X11_street_54, sp_X11_endText, B_X11_endText_0, sp_X11_refuse, B_X11_refuse_0, k0', d2, hE1.1.1, u2_ne, u2_ck, nI_1, nI_add, nI_clamp, nI_pin, nI_neg, nI_nonneg, nI_leE, nI_ltE, nI_eqE, Nat.not_le, Nat.not_lt, fq_10, fq_01, fq_rr, ix_aald, ix_aast, ix_abs, ix_alen, ix_aload, ix_aret, ix_astore, ix_bald, ix_bast, ix_call, ix_cpyI, ix_cpyJ, ix_dead, ix_dup2, ix_dup2L, ix_dupI, ix_dupR, ix_dupx1, ix_getI, ix_getJ, ix_getR, ix_gfm, ix_gtab, ix_i2b, ix_i2c, ix_i2l, ix_i2s, ix_iadd, ix_iald, ix_iand, ix_iast, ix_icall, ix_icmp_eq, ix_icmp_ge, ix_icmp_gt, ix_icmp_le, ix_icmp_lt, ix_icmp_ne, ix_idiv, ix_if_eq, ix_if_ge, ix_if_gt, ix_if_le, ix_if_lt, ix_if_ne, ix_iinc, ix_iload, ix_imul, ix_ineg, ix_ior, ix_irem, ix_iret, ix_ishl, ix_ishr, ix_istore, ix_isub, ix_iushr, ix_ixor, ix_l2i, ix_ladd, ix_lald, ix_land, ix_last, ix_lcmp, ix_ldcS, ix_ldiv, ix_lload, ix_lmul, ix_lor, ix_lrem, ix_lret, ix_lshl, ix_lstore, ix_lsub, ix_lsw, ix_max, ix_min, ix_new, ix_newa, ix_nret, ix_oinit, ix_pop2L, ix_popI, ix_pushI, ix_pushL, ix_putI, ix_putJ, ix_putR, ix_putZ, ix_sbald, ix_sgetC, ix_sgetV, ix_slen, ix_strc, ix_tald, ix_tsw, ix_vcall, ix_vret, ix_zret, stL, stL2, kilL, popN, fq_sw, fq_lsw, List.map_cons, List.map_nil, List.getElem?_cons_zero, List.getElem?_cons_succ, Option.toList_some, Option.toList_none, List.cons_append, List.nil_append, List.length_cons, List.length_nil, List.sum_cons, List.sum_nil, cat_i, cat_l, cat_r, true_and, and_true, Nat.zero_add, Nat.add_zero, Nat.le_refl, Nat.zero_le, Nat.reduceAdd, Nat.reduceLeDiff, exists_eq_left', Option.some.injEq, not_true_eq_false, not_false_eq_true, false_implies, true_implies, implies_true, and_self, or_true, true_or, or_false, false_or]
        refine hR _ _ _ hK hc1' (fr I2 J2 9 hF) ?_ ?_ ?_
        · rw [u2_ck _ _ _ _ _ _ (by omega), u2_ck _ _ _ _ _ _ (by omega), u2_same]
          exact r1
        · rw [u2_ck _ _ _ _ _ _ (by omega), u2_same]
          exact r2
        · rw [u2_same]
      | inr σ =>
        rw [hp] at hR
        intro I2 J2 hF hH
        simp (disch := omega) only [B_X11_street_39, B_X11_street_44, B_X11_street_86, sp_X11_endText, B_X11_endText_0, sp_X11_answer, B_X11_answer_0, k0', d2, d6, d7, g1.k, g2.k, hE1.1.1, u2_ne, u2_ck, u2_same, nI_1, nI_add, nI_clamp, nI_pin, nI_neg, nI_nonneg, nI_leE, nI_ltE, nI_eqE, Nat.not_le, Nat.not_lt, fq_10, fq_01, fq_rr, ix_aald, ix_aast, ix_abs, ix_alen, ix_aload, ix_aret, ix_astore, ix_bald, ix_bast, ix_call, ix_cpyI, ix_cpyJ, ix_dead, ix_dup2, ix_dup2L, ix_dupI, ix_dupR, ix_dupx1, ix_getI, ix_getJ, ix_getR, ix_gfm, ix_gtab, ix_i2b, ix_i2c, ix_i2l, ix_i2s, ix_iadd, ix_iald, ix_iand, ix_iast, ix_icall, ix_icmp_eq, ix_icmp_ge, ix_icmp_gt, ix_icmp_le, ix_icmp_lt, ix_icmp_ne, ix_idiv, ix_if_eq, ix_if_ge, ix_if_gt, ix_if_le, ix_if_lt, ix_if_ne, ix_iinc, ix_iload, ix_imul, ix_ineg, ix_ior, ix_irem, ix_iret, ix_ishl, ix_ishr, ix_istore, ix_isub, ix_iushr, ix_ixor, ix_l2i, ix_ladd, ix_lald, ix_land, ix_last, ix_lcmp, ix_ldcS, ix_ldiv, ix_lload, ix_lmul, ix_lor, ix_lrem, ix_lret, ix_lshl, ix_lstore, ix_lsub, ix_lsw, ix_max, ix_min, ix_new, ix_newa, ix_nret, ix_oinit, ix_pop2L, ix_popI, ix_pushI, ix_pushL, ix_putI, ix_putJ, ix_putR, ix_putZ, ix_sbald, ix_sgetC, ix_sgetV, ix_slen, ix_strc, ix_tald, ix_tsw, ix_vcall, ix_vret, ix_zret, stL, stL2, kilL, popN, fq_sw, fq_lsw, List.map_cons, List.map_nil, List.getElem?_cons_zero, List.getElem?_cons_succ, Option.toList_some, Option.toList_none, List.cons_append, List.nil_append, List.length_cons, List.length_nil, List.sum_cons, List.sum_nil, cat_i, cat_l, cat_r, true_and, and_true, Nat.zero_add, Nat.add_zero, Nat.le_refl, Nat.zero_le, Nat.reduceAdd, Nat.reduceLeDiff, exists_eq_left', Option.some.injEq, not_true_eq_false, not_false_eq_true, false_implies, true_implies, implies_true, and_self, or_true, true_or, or_false, false_or]
        have hK2 : shK X z S (S1.1, S1.2.1, u2 (u2 S1.2.2 X 6 (some p)) X 7 (some s)) := ⟨fun a ha => ⟨(hK.1 a ha).1, (hK.1 a ha).2.1, fun q => by
          show u2 (u2 S1.2.2 X 6 (some p)) X 7 (some s) a = _
          rw [u2_ne q, u2_ne q]
          exact (hK.1 a ha).2.2 q⟩, fun k x1 x2 => by
          show u2 (u2 S1.2.2 X 6 (some p)) X 7 (some s) X k = _
          rw [u2_ck _ _ _ _ _ _ x2, u2_ck _ _ _ _ _ _ x1]
          exact hK.2 k x1 x2⟩
        have hc2 : cpS (S1.1, S1.2.1, u2 (u2 S1.2.2 X 6 (some p)) X 7 (some s)) X p s := hK2.cp hz hc0 (by
          show u2 (u2 S1.2.2 X 6 (some p)) X 7 (some s) X 6 = _
          rw [u2_ck _ _ _ _ _ _ (by omega), u2_same]) (by
          show u2 (u2 S1.2.2 X 6 (some p)) X 7 (some s) X 7 = _
          rw [u2_same]) (Or.inr ⟨rfl, rfl⟩)
        rw [hH.c.2.2.2]
        have eo : ∀ a, a ≠ X → (u2 (u2 (u2 (u2 I2 X 8 0) X 11 (I2 (X + 11) 10)) X 12 (I2 (X + 11) 11)) X 10 0) a = I2 a := fun a q => by rw [u2_ne q, u2_ne q, u2_ne q, u2_ne q]
        obtain ⟨-, -, h3, h4, -, h6, h7, h8'⟩ := hH
        refine hR _ _ _ hK2 hc2 (fr I2 J2 0 hF) ?_ ?_ ?_ (h3.mv fun a x y _ => eo a (by omega)) h4 ?_
        · rw [u2_ck _ _ _ _ _ _ (by omega), u2_ck _ _ _ _ _ _ (by omega), u2_same]
          exact h7
        · rw [u2_ck _ _ _ _ _ _ (by omega), u2_same]
          exact h8'
        · rw [u2_same]
        · rw [eo _ (by omega)]
          exact h6
    · simp (disch := omega) only [B_X11_street_9, B_X11_street_17, bI_f h0, k0, sp_X11_refuse, B_X11_refuse_0, nI_1, nI_add, nI_clamp, nI_pin, nI_neg, nI_nonneg, nI_leE, nI_ltE, nI_eqE, Nat.not_le, Nat.not_lt, fq_10, fq_01, fq_rr, ix_aald, ix_aast, ix_abs, ix_alen, ix_aload, ix_aret, ix_astore, ix_bald, ix_bast, ix_call, ix_cpyI, ix_cpyJ, ix_dead, ix_dup2, ix_dup2L, ix_dupI, ix_dupR, ix_dupx1, ix_getI, ix_getJ, ix_getR, ix_gfm, ix_gtab, ix_i2b, ix_i2c, ix_i2l, ix_i2s, ix_iadd, ix_iald, ix_iand, ix_iast, ix_icall, ix_icmp_eq, ix_icmp_ge, ix_icmp_gt, ix_icmp_le, ix_icmp_lt, ix_icmp_ne, ix_idiv, ix_if_eq, ix_if_ge, ix_if_gt, ix_if_le, ix_if_lt, ix_if_ne, ix_iinc, ix_iload, ix_imul, ix_ineg, ix_ior, ix_irem, ix_iret, ix_ishl, ix_ishr, ix_istore, ix_isub, ix_iushr, ix_ixor, ix_l2i, ix_ladd, ix_lald, ix_land, ix_last, ix_lcmp, ix_ldcS, ix_ldiv, ix_lload, ix_lmul, ix_lor, ix_lrem, ix_lret, ix_lshl, ix_lstore, ix_lsub, ix_lsw, ix_max, ix_min, ix_new, ix_newa, ix_nret, ix_oinit, ix_pop2L, ix_popI, ix_pushI, ix_pushL, ix_putI, ix_putJ, ix_putR, ix_putZ, ix_sbald, ix_sgetC, ix_sgetV, ix_slen, ix_strc, ix_tald, ix_tsw, ix_vcall, ix_vret, ix_zret, stL, stL2, kilL, popN, fq_sw, fq_lsw, List.map_cons, List.map_nil, List.getElem?_cons_zero, List.getElem?_cons_succ, Option.toList_some, Option.toList_none, List.cons_append, List.nil_append, List.length_cons, List.length_nil, List.sum_cons, List.sum_nil, cat_i, cat_l, cat_r, true_and, and_true, Nat.zero_add, Nat.add_zero, Nat.le_refl, Nat.zero_le, Nat.reduceAdd, Nat.reduceLeDiff, exists_eq_left', Option.some.injEq, not_true_eq_false, not_false_eq_true, false_implies, true_implies, implies_true, and_self, or_true, true_or, or_false, false_or]
      exact hQ1 h0
  · exact h.elim
