/-! the reference: a text read, as a function of its bytes -/
abbrev PSt : Type := (Nat → Int32) × (Nat → Int64) × Nat
abbrev PR : Type := (Int32 × Nat) ⊕ PSt
def pE (T : Nat → Int32) (n : Nat) (k : Int32) (e : Nat) : PR := .inl (if tK T n e = 1 then 1 else k, tF T n e)
def pB (x : PR) (f : PSt → PR) : PR := match x with
  | .inl y => .inl y
  | .inr s => f s
/-- what a text that is read may have changed -/
def txF (M : Nat) (I I' : IH) (J J' : JH) : Prop := (∀ a, a ≠ M → a ≠ M + 1 → a ≠ M + 8 → I' a = I a) ∧ (∀ k, k ≠ 12 → k ≠ 13 → k ≠ 14 → k ≠ 15 → k ≠ 17 → k ≠ 18 → k ≠ 20 → k ≠ 22 → k ≠ 23 → I' M k = I M k) ∧ (∀ j, j < 2376 → I' (M + 1) j = I (M + 1) j) ∧ (∀ a, a ≠ M + 2 → J' a = J a) ∧ ∀ j, j < 56 → J' (M + 2) j = J (M + 2) j
theorem txF.tr {M : Nat} {I I1 I2 : IH} {J J1 J2 : JH} (h : txF M I I1 J J1) (g : txF M I1 I2 J1 J2) : txF M I I2 J J2 := ⟨fun a h1 h2 h3 => (g.1 a h1 h2 h3).trans (h.1 a h1 h2 h3), fun k a b c d e f i j l => (g.2.1 k a b c d e f i j l).trans (h.2.1 k a b c d e f i j l), fun j hj => (g.2.2.1 j hj).trans (h.2.2.1 j hj), fun a ha => (g.2.2.2.1 a ha).trans (h.2.2.2.1 a ha), fun j hj => (g.2.2.2.2 j hj).trans (h.2.2.2.2 j hj)⟩
theorem txF.rf {M : Nat} {I : IH} {J : JH} : txF M I I J J := ⟨fun _ _ _ _ => rfl, fun _ _ _ _ _ _ _ _ _ _ => rfl, fun _ _ => rfl, fun _ _ => rfl, fun _ _ => rfl⟩
/-- the pool holds a reader's place -/
def psH (M : Nat) (I : IH) (J : JH) (n : Nat) (s : PSt) : Prop := I (M + 1) = s.1 ∧ J (M + 2) = s.2.1 ∧ tkH M I n s.2.2 ∧ s.2.2 ≤ n ∧ n ≤ 900 ∧ I M 18 = 0 ∧ I M 17 = -1
/-- behind a piece of text: Q1 with the new place, Q0 with a fault; 20, 22, 23 kept -/
def RES (M : Nat) (I : IH) (J : JH) (n : Nat) (x : PR) (Q1 Q0 : IH → JH → Prop) : Prop := match x with
  | .inl f => ∀ I' J', txF M I I' J J' → I' M 18 = f.1 → I' M 17 = nI f.2 → Q0 I' J'
  | .inr s => ∀ I' J', txF M I I' J J' → psH M I' J' n s → I' M 20 = I M 20 → I' M 22 = I M 22 → I' M 23 = I M 23 → I' (M + 8) = I (M + 8) → Q1 I' J'
theorem RES.fl {M : Nat} {I : IH} {J : JH} {n : Nat} {s : PSt} {k : Int32} {Q1 Q0 : IH → JH → Prop} {A : Nat → Int32} (h : psH M I J n s) (hA : ∀ j, j < 2376 → A j = I (M + 1) j) (hr : RES M I J n (pE (I (M + 7)) n k s.2.2) Q1 Q0) : Q0 (flI (up1 I (M + 1) A) M k) J := by
  obtain ⟨h1, h2, ⟨t11, t12, t13, t14, t15⟩, h4, h5, h6, h17⟩ := h
  refine hr _ _ ⟨fun a a1 a2 a3 => ?_, fun j a b c d e f i l o => ?_, fun j hj => ?_, fun _ _ => rfl, fun _ _ => rfl⟩ ?_ ?_
  · unfold flI
    rw [u2_ne a1, u2_ne a1, up1_o _ _ _ _ a2]
  · unfold flI
    rw [u2_ck _ _ _ _ _ _ e, u2_ck _ _ _ _ _ _ f, up1_o _ _ _ _ (by omega)]
  · unfold flI
    rw [u2_ca _ _ _ _ _ _ (by omega), u2_ca _ _ _ _ _ _ (by omega), up1_at]
    exact hA j hj
  · unfold flI
    rw [u2_ck _ _ _ _ _ _ (by omega), u2_same, up1_o _ _ _ _ (by omega), t12]
  · unfold flI
    rw [u2_same, up1_o _ _ _ _ (by omega)]
    exact t13
theorem RES.f0 {M : Nat} {I : IH} {J : JH} {n : Nat} {s : PSt} {k : Int32} {Q1 Q0 : IH → JH → Prop} (h : psH M I J n s) (hr : RES M I J n (pE (I (M + 7)) n k s.2.2) Q1 Q0) : Q0 (flI I M k) J := by
  have := RES.fl (A := I (M + 1)) h (fun _ _ => rfl) hr
  rw [up1_id] at this
  exact this
theorem adV.ps {M : Nat} {I I' : IH} {J : JH} {n : Nat} {s : PSt} {A : Nat → Int32} (h : psH M I J n s) (hA : ∀ j, j < 2376 → A j = I (M + 1) j) (g : adV M I I' A n s.2.2) : txF M I I' J J ∧ psH M I' J n (A, s.2.1, tE (I (M + 7)) n s.2.2) ∧ I' M 20 = I M 20 ∧ I' M 22 = I M 22 ∧ I' M 23 = I M 23 ∧ I' (M + 8) = I (M + 8) := by
  obtain ⟨g1, g2, g3, g4⟩ := g
  obtain ⟨h1, h2, h3, h4, h5, h6, h17⟩ := h
  obtain ⟨b1, b2, b3, b4⟩ := tFE (T := I (M + 7)) h4
  exact ⟨⟨fun a a1 a2 a3 => g1 a a1 a2, fun k a b c d e f i j l => g2 k a b c d, fun j hj => by rw [g3]; exact hA j hj, fun _ _ => rfl, fun _ _ => rfl⟩, ⟨g3, h2, g4, b4, h5, (g2 18 (by omega) (by omega) (by omega) (by omega)).trans h6, (g2 17 (by omega) (by omega) (by omega) (by omega)).trans h17⟩, g2 20 (by omega) (by omega) (by omega) (by omega), g2 22 (by omega) (by omega) (by omega) (by omega), g2 23 (by omega) (by omega) (by omega) (by omega), g1 _ (by omega) (by omega)⟩
/-- a piece, and then another -/
theorem RES.bind {M : Nat} {I : IH} {J : JH} {n : Nat} {x : PR} {f : PSt → PR} {Q1 Q0 : IH → JH → Prop} (h : RES M I J n (pB x f) Q1 Q0) : RES M I J n x (fun I' J' => ∀ s, psH M I' J' n s → x = .inr s → RES M I' J' n (f s) Q1 Q0) Q0 := by
  cases x with
  | inl y => exact h
  | inr s =>
    intro I' J' hF hp k20 k22 k23 k8 s' hs' hx
    obtain rfl : s = s' := Sum.inr.inj hx
    have h : RES M I J n (f s) Q1 Q0 := h
    generalize f s = y at *
    cases y with
    | inl z => exact fun I2 J2 hF2 => h I2 J2 (hF.tr hF2)
    | inr z => exact fun I2 J2 hF2 hp2 a b c d => h I2 J2 (hF.tr hF2) hp2 (a.trans k20) (b.trans k22) (c.trans k23) (d.trans k8)
theorem dX12_houseTo_0 : decode cX12_houseTo 0 = .ok (.aload_n 0, 1) := by decide +kernel
theorem dX12_houseTo_1 : decode cX12_houseTo 1 = .ok (.ldc 168, 2) := by decide +kernel
theorem dX12_houseTo_3 : decode cX12_houseTo 3 = .ok (.invokevirtual 170, 3) := by decide +kernel
theorem dX12_houseTo_6 : decode cX12_houseTo 6 = .ok (.ifCond .ne 9, 3) := by decide +kernel
theorem dX12_houseTo_9 : decode cX12_houseTo 9 = .ok (.aload_n 0, 1) := by decide +kernel
theorem dX12_houseTo_10 : decode cX12_houseTo 10 = .ok (.iconst 2, 1) := by decide +kernel
theorem dX12_houseTo_11 : decode cX12_houseTo 11 = .ok (.invokevirtual 157, 3) := by decide +kernel
theorem dX12_houseTo_14 : decode cX12_houseTo 14 = .ok (.ireturn, 1) := by decide +kernel
theorem dX12_houseTo_15 : decode cX12_houseTo 15 = .ok (.aload_n 0, 1) := by decide +kernel
theorem dX12_houseTo_16 : decode cX12_houseTo 16 = .ok (.getfield 7, 3) := by decide +kernel
theorem dX12_houseTo_19 : decode cX12_houseTo 19 = .ok (.iload_n 1, 1) := by decide +kernel
theorem dX12_houseTo_20 : decode cX12_houseTo 20 = .ok (.aload_n 0, 1) := by decide +kernel
theorem dX12_houseTo_21 : decode cX12_houseTo 21 = .ok (.bipush 56, 2) := by decide +kernel
theorem dX12_houseTo_23 : decode cX12_houseTo 23 = .ok (.aload_n 0, 1) := by decide +kernel
theorem dX12_houseTo_24 : decode cX12_houseTo 24 = .ok (.getfield 7, 3) := by decide +kernel
theorem dX12_houseTo_27 : decode cX12_houseTo 27 = .ok (.sipush 2376, 3) := by decide +kernel
theorem dX12_houseTo_30 : decode cX12_houseTo 30 = .ok (.iaload, 1) := by decide +kernel
theorem dX12_houseTo_31 : decode cX12_houseTo 31 = .ok (.invokevirtual 174, 3) := by decide +kernel
theorem dX12_houseTo_34 : decode cX12_houseTo 34 = .ok (.iastore, 1) := by decide +kernel
theorem dX12_houseTo_35 : decode cX12_houseTo 35 = .ok (.aload_n 0, 1) := by decide +kernel
theorem dX12_houseTo_36 : decode cX12_houseTo 36 = .ok (.getfield 7, 3) := by decide +kernel
theorem dX12_houseTo_39 : decode cX12_houseTo 39 = .ok (.iload_n 1, 1) := by decide +kernel
theorem dX12_houseTo_40 : decode cX12_houseTo 40 = .ok (.iaload, 1) := by decide +kernel
theorem dX12_houseTo_41 : decode cX12_houseTo 41 = .ok (.iconst (-1), 1) := by decide +kernel
theorem dX12_houseTo_42 : decode cX12_houseTo 42 = .ok (.if_icmp .ne 9, 3) := by decide +kernel
theorem dX12_houseTo_45 : decode cX12_houseTo 45 = .ok (.aload_n 0, 1) := by decide +kernel
theorem dX12_houseTo_46 : decode cX12_houseTo 46 = .ok (.iconst 3, 1) := by decide +kernel
theorem dX12_houseTo_47 : decode cX12_houseTo 47 = .ok (.invokevirtual 157, 3) := by decide +kernel
theorem dX12_houseTo_50 : decode cX12_houseTo 50 = .ok (.ireturn, 1) := by decide +kernel
theorem dX12_houseTo_51 : decode cX12_houseTo 51 = .ok (.aload_n 0, 1) := by decide +kernel
theorem dX12_houseTo_52 : decode cX12_houseTo 52 = .ok (.invokevirtual 151, 3) := by decide +kernel
theorem dX12_houseTo_55 : decode cX12_houseTo 55 = .ok (.iconst 1, 1) := by decide +kernel
theorem dX12_houseTo_56 : decode cX12_houseTo 56 = .ok (.ireturn, 1) := by decide +kernel
abbrev M_X12_houseTo : MT := (yX12_houseTo, cX12_houseTo, 2, (some .boolean))
theorem cf_X12_houseTo : fq_cf M_X12_houseTo 1 := ⟨(mg_1 (List.mem_of_getElem? (i := 15) rfl) rfl), (mg_7 (List.mem_of_getElem? (i := 182) rfl) rfl), ⟨by decide, by decide, by decide +kernel⟩, by decide⟩
def B_X12_houseTo_0 (G : GT) (mc ms : Nat) (Q : Post) : Cn := ix_aload 0 (ix_ldcS G 1 (ix_vcall 12 2 0 0 mc ms (sp_X12_isName G) (ix_if_ne (ix_aload 0 (ix_getR 12 0 (ix_iload 1 (ix_aload 0 (ix_pushI 56 (ix_aload 0 (ix_getR 12 0 (ix_pushI 2376 (ix_iald (ix_vcall 12 3 0 0 mc ms (sp_X12_findHere G) (ix_iast (ix_aload 0 (ix_getR 12 0 (ix_iload 1 (ix_iald (ix_pushI (-1) (ix_icmp_ne (ix_aload 0 (ix_vcall 12 1 0 0 mc ms (sp_X12_ahead G) (ix_pushI 1 (ix_zret mc ms Q)))) (ix_aload 0 (ix_pushI 3 (ix_vcall 12 2 0 0 mc ms (sp_X12_fails G) (ix_zret mc ms Q))))))))))))))))))))) (ix_aload 0 (ix_pushI 2 (ix_vcall 12 2 0 0 mc ms (sp_X12_fails G) (ix_zret mc ms Q)))))))
theorem b_X12_houseTo_0 {l : Launch} {G : GT} {D mc ms : Nat} {Q : Post} : Imp l G M_X12_houseTo (D + 6) mc ms Q (B_X12_houseTo_0 G mc ms Q) 0 := sx_aload_n dX12_houseTo_0 rfl (sx_ldcS 168 dX12_houseTo_1 (Or.inr ⟨rfl, rfl, rfl⟩) (sx_vcall dX12_houseTo_3 cf_X12_isName (mg_7 (List.mem_of_getElem? (i := 159) rfl) rfl) (mg_7 (List.mem_of_getElem? (i := 161) rfl) rfl) (mg_p (List.mem_of_getElem? (i := 61) rfl) rfl) rfl c_X12_isName (sx_if_ne 15 dX12_houseTo_6 (by decide) (sx_aload_n dX12_houseTo_15 rfl (sx_getR dX12_houseTo_16 fl_FootQuarrelModel_7 (fun _ _ _ => rfl) (sx_iload_n dX12_houseTo_19 rfl (sx_aload_n dX12_houseTo_20 rfl (sx_bipush dX12_houseTo_21 rfl (sx_aload_n dX12_houseTo_23 rfl (sx_getR dX12_houseTo_24 fl_FootQuarrelModel_7 (fun _ _ _ => rfl) (sx_sipush dX12_houseTo_27 rfl (sx_iald dX12_houseTo_30 (sx_vcall dX12_houseTo_31 cf_X12_findHere (mg_7 (List.mem_of_getElem? (i := 163) rfl) rfl) (mg_7 (List.mem_of_getElem? (i := 165) rfl) rfl) (mg_p (List.mem_of_getElem? (i := 62) rfl) rfl) rfl c_X12_findHere (sx_iast dX12_houseTo_34 (sx_aload_n dX12_houseTo_35 rfl (sx_getR dX12_houseTo_36 fl_FootQuarrelModel_7 (fun _ _ _ => rfl) (sx_iload_n dX12_houseTo_39 rfl (sx_iald dX12_houseTo_40 (sx_iconst dX12_houseTo_41 rfl (sx_icmp_ne 51 dX12_houseTo_42 (by decide) (sx_aload_n dX12_houseTo_51 rfl (sx_vcall dX12_houseTo_52 cf_X12_ahead (mg_7 (List.mem_of_getElem? (i := 112) rfl) rfl) (mg_7 (List.mem_of_getElem? (i := 114) rfl) rfl) (mg_p (List.mem_of_getElem? (i := 52) rfl) rfl) rfl c_X12_ahead (sx_iconst dX12_houseTo_55 rfl (sx_zret dX12_houseTo_56 rfl)))) (sx_aload_n dX12_houseTo_45 rfl (sx_iconst dX12_houseTo_46 rfl (sx_vcall dX12_houseTo_47 cf_X12_fails (mg_7 (List.mem_of_getElem? (i := 143) rfl) rfl) (mg_7 (List.mem_of_getElem? (i := 145) rfl) rfl) (mg_p (List.mem_of_getElem? (i := 57) rfl) rfl) rfl c_X12_fails (sx_zret dX12_houseTo_50 rfl))))))))))))))))))))) (sx_aload_n dX12_houseTo_9 rfl (sx_iconst dX12_houseTo_10 rfl (sx_vcall dX12_houseTo_11 cf_X12_fails (mg_7 (List.mem_of_getElem? (i := 143) rfl) rfl) (mg_7 (List.mem_of_getElem? (i := 145) rfl) rfl) (mg_p (List.mem_of_getElem? (i := 57) rfl) rfl) rfl c_X12_fails (sx_zret dX12_houseTo_14 rfl)))))))
theorem dX12_oldOne_0 : decode cX12_oldOne 0 = .ok (.aload_n 0, 1) := by decide +kernel
theorem dX12_oldOne_1 : decode cX12_oldOne 1 = .ok (.ldc 168, 2) := by decide +kernel
theorem dX12_oldOne_3 : decode cX12_oldOne 3 = .ok (.invokevirtual 170, 3) := by decide +kernel
theorem dX12_oldOne_6 : decode cX12_oldOne 6 = .ok (.ifCond .ne 9, 3) := by decide +kernel
theorem dX12_oldOne_9 : decode cX12_oldOne 9 = .ok (.aload_n 0, 1) := by decide +kernel
theorem dX12_oldOne_10 : decode cX12_oldOne 10 = .ok (.iconst 2, 1) := by decide +kernel
theorem dX12_oldOne_11 : decode cX12_oldOne 11 = .ok (.invokevirtual 157, 3) := by decide +kernel
theorem dX12_oldOne_14 : decode cX12_oldOne 14 = .ok (.ireturn, 1) := by decide +kernel
theorem dX12_oldOne_15 : decode cX12_oldOne 15 = .ok (.aload_n 0, 1) := by decide +kernel
theorem dX12_oldOne_16 : decode cX12_oldOne 16 = .ok (.getfield 7, 3) := by decide +kernel
theorem dX12_oldOne_19 : decode cX12_oldOne 19 = .ok (.iload_n 3, 1) := by decide +kernel
theorem dX12_oldOne_20 : decode cX12_oldOne 20 = .ok (.aload_n 0, 1) := by decide +kernel
theorem dX12_oldOne_21 : decode cX12_oldOne 21 = .ok (.iload_n 1, 1) := by decide +kernel
theorem dX12_oldOne_22 : decode cX12_oldOne 22 = .ok (.iload_n 2, 1) := by decide +kernel
theorem dX12_oldOne_23 : decode cX12_oldOne 23 = .ok (.invokevirtual 174, 3) := by decide +kernel
theorem dX12_oldOne_26 : decode cX12_oldOne 26 = .ok (.iastore, 1) := by decide +kernel
theorem dX12_oldOne_27 : decode cX12_oldOne 27 = .ok (.aload_n 0, 1) := by decide +kernel
theorem dX12_oldOne_28 : decode cX12_oldOne 28 = .ok (.getfield 7, 3) := by decide +kernel
theorem dX12_oldOne_31 : decode cX12_oldOne 31 = .ok (.iload_n 3, 1) := by decide +kernel
theorem dX12_oldOne_32 : decode cX12_oldOne 32 = .ok (.iaload, 1) := by decide +kernel
theorem dX12_oldOne_33 : decode cX12_oldOne 33 = .ok (.iconst (-1), 1) := by decide +kernel
theorem dX12_oldOne_34 : decode cX12_oldOne 34 = .ok (.if_icmp .ne 9, 3) := by decide +kernel
theorem dX12_oldOne_37 : decode cX12_oldOne 37 = .ok (.aload_n 0, 1) := by decide +kernel
theorem dX12_oldOne_38 : decode cX12_oldOne 38 = .ok (.iconst 3, 1) := by decide +kernel
theorem dX12_oldOne_39 : decode cX12_oldOne 39 = .ok (.invokevirtual 157, 3) := by decide +kernel
theorem dX12_oldOne_42 : decode cX12_oldOne 42 = .ok (.ireturn, 1) := by decide +kernel
theorem dX12_oldOne_43 : decode cX12_oldOne 43 = .ok (.aload_n 0, 1) := by decide +kernel
theorem dX12_oldOne_44 : decode cX12_oldOne 44 = .ok (.invokevirtual 151, 3) := by decide +kernel
theorem dX12_oldOne_47 : decode cX12_oldOne 47 = .ok (.iconst 1, 1) := by decide +kernel
theorem dX12_oldOne_48 : decode cX12_oldOne 48 = .ok (.ireturn, 1) := by decide +kernel
abbrev M_X12_oldOne : MT := (yX12_oldOne, cX12_oldOne, 4, (some .boolean))
theorem cf_X12_oldOne : fq_cf M_X12_oldOne 3 := ⟨(mg_1 (List.mem_of_getElem? (i := 15) rfl) rfl), (mg_7 (List.mem_of_getElem? (i := 227) rfl) rfl), ⟨by decide, by decide, by decide +kernel⟩, by decide⟩
def B_X12_oldOne_0 (G : GT) (mc ms : Nat) (Q : Post) : Cn := ix_aload 0 (ix_ldcS G 1 (ix_vcall 12 2 0 0 mc ms (sp_X12_isName G) (ix_if_ne (ix_aload 0 (ix_getR 12 0 (ix_iload 3 (ix_aload 0 (ix_iload 1 (ix_iload 2 (ix_vcall 12 3 0 0 mc ms (sp_X12_findHere G) (ix_iast (ix_aload 0 (ix_getR 12 0 (ix_iload 3 (ix_iald (ix_pushI (-1) (ix_icmp_ne (ix_aload 0 (ix_vcall 12 1 0 0 mc ms (sp_X12_ahead G) (ix_pushI 1 (ix_zret mc ms Q)))) (ix_aload 0 (ix_pushI 3 (ix_vcall 12 2 0 0 mc ms (sp_X12_fails G) (ix_zret mc ms Q)))))))))))))))))) (ix_aload 0 (ix_pushI 2 (ix_vcall 12 2 0 0 mc ms (sp_X12_fails G) (ix_zret mc ms Q)))))))
theorem b_X12_oldOne_0 {l : Launch} {G : GT} {D mc ms : Nat} {Q : Post} : Imp l G M_X12_oldOne (D + 6) mc ms Q (B_X12_oldOne_0 G mc ms Q) 0 := sx_aload_n dX12_oldOne_0 rfl (sx_ldcS 168 dX12_oldOne_1 (Or.inr ⟨rfl, rfl, rfl⟩) (sx_vcall dX12_oldOne_3 cf_X12_isName (mg_7 (List.mem_of_getElem? (i := 159) rfl) rfl) (mg_7 (List.mem_of_getElem? (i := 161) rfl) rfl) (mg_p (List.mem_of_getElem? (i := 61) rfl) rfl) rfl c_X12_isName (sx_if_ne 15 dX12_oldOne_6 (by decide) (sx_aload_n dX12_oldOne_15 rfl (sx_getR dX12_oldOne_16 fl_FootQuarrelModel_7 (fun _ _ _ => rfl) (sx_iload_n dX12_oldOne_19 rfl (sx_aload_n dX12_oldOne_20 rfl (sx_iload_n dX12_oldOne_21 rfl (sx_iload_n dX12_oldOne_22 rfl (sx_vcall dX12_oldOne_23 cf_X12_findHere (mg_7 (List.mem_of_getElem? (i := 163) rfl) rfl) (mg_7 (List.mem_of_getElem? (i := 165) rfl) rfl) (mg_p (List.mem_of_getElem? (i := 62) rfl) rfl) rfl c_X12_findHere (sx_iast dX12_oldOne_26 (sx_aload_n dX12_oldOne_27 rfl (sx_getR dX12_oldOne_28 fl_FootQuarrelModel_7 (fun _ _ _ => rfl) (sx_iload_n dX12_oldOne_31 rfl (sx_iald dX12_oldOne_32 (sx_iconst dX12_oldOne_33 rfl (sx_icmp_ne 43 dX12_oldOne_34 (by decide) (sx_aload_n dX12_oldOne_43 rfl (sx_vcall dX12_oldOne_44 cf_X12_ahead (mg_7 (List.mem_of_getElem? (i := 112) rfl) rfl) (mg_7 (List.mem_of_getElem? (i := 114) rfl) rfl) (mg_p (List.mem_of_getElem? (i := 52) rfl) rfl) rfl c_X12_ahead (sx_iconst dX12_oldOne_47 rfl (sx_zret dX12_oldOne_48 rfl)))) (sx_aload_n dX12_oldOne_37 rfl (sx_iconst dX12_oldOne_38 rfl (sx_vcall dX12_oldOne_39 cf_X12_fails (mg_7 (List.mem_of_getElem? (i := 143) rfl) rfl) (mg_7 (List.mem_of_getElem? (i := 145) rfl) rfl) (mg_p (List.mem_of_getElem? (i := 57) rfl) rfl) rfl c_X12_fails (sx_zret dX12_oldOne_42 rfl)))))))))))))))))) (sx_aload_n dX12_oldOne_9 rfl (sx_iconst dX12_oldOne_10 rfl (sx_vcall dX12_oldOne_11 cf_X12_fails (mg_7 (List.mem_of_getElem? (i := 143) rfl) rfl) (mg_7 (List.mem_of_getElem? (i := 145) rfl) rfl) (mg_p (List.mem_of_getElem? (i := 57) rfl) rfl) rfl c_X12_fails (sx_zret dX12_oldOne_14 rfl)))))))
def pFd (T : Nat → Int32) (n b m t : Nat) (s : PSt) : PR := if ¬ isNm T n s.2.2 then pE T n 2 s.2.2 else if fnH s.2.1 b m (nmH T n s.2.2) = -1 then pE T n 3 s.2.2 else .inr (uA s.1 t (fnH s.2.1 b m (nmH T n s.2.2)), s.2.1, tE T n s.2.2)
def sp_X12_oldOne (G : GT) : Sp := fun as S I J z Q => match as with
  | [.ref M, .int b, .int m, .int t] => rfS S M ∧ okN b 70 ∧ okN m 8 ∧ ∃ n s k, t = nI k ∧ 2376 ≤ k ∧ k < 4694 ∧ psH M I J n s ∧ RES M I J n (pFd (I (M + 7)) n b.toNatClampNeg m.toNatClampNeg k s) (fun I' J' => Q (some (.int 1)) S I' J' z) (fun I' J' => Q (some (.int 0)) S I' J' z)
  | _ => False
theorem adV_u {M : Nat} {I I' : IH} {n e k : Nat} {v : Int32} (hF : ahF M (u2 I (M + 1) k v) I') (hT : tkH M I' n (tE (I (M + 7)) n e)) : adV M I I' (uA (I (M + 1)) k v) n e := ⟨fun a h1 h2 => by rw [hF.1 a h1, u2_ne h2], fun j h1 h2 h3 h4 => by rw [hF.2 j h1 h2 h3 h4, u2_ca _ _ _ _ _ _ (by omega)], by rw [hF.1 _ (by omega), u2_up0, up1_at], hT⟩
set_option maxHeartbeats 4000000 in
set_option maxRecDepth 20000 in
theorem c_X12_oldOne {l : Launch} {G : GT} {D : Nat} : ∀ as S I J z Q, sp_X12_oldOne G as S I J z Q → fqCall l G M_X12_oldOne (D + 6) 0 0 as S I J z Q := by
  intro as S I J z Q h
  unfold sp_X12_oldOne at h
  split at h
  · next M b m t =>
    obtain ⟨hm, hb, hmm, n, s, k, rfl, hk0, hk, hP, hR⟩ := h
    have hP' := hP
    obtain ⟨hA, hN, hT, he, hn, h0, h17⟩ := hP
    have hT' := hT
    obtain ⟨t11, t12, t13, t14, t15⟩ := hT
    obtain ⟨b1, b2, b3, b4⟩ := tFE (T := I (M + 7)) he
    have g5 : G.2.2.2 (4 + 1) = G.2.2.2 5 := rfl
    unfold pFd at hR
    refine fq_enter [some (.ref M), some (.int b), some (.int m), some (.int (nI k))] (by decide +kernel) (Nat.le_of_ble_eq_true rfl) rfl (b_X12_oldOne_0 _ _ _ _ _ _ _ _ ?_)
    simp (disch := omega) only [B_X12_oldOne_0, sp_X12_isName, sp_X12_fails, sp_X12_findHere, sp_X12_ahead, hm, hm.k, hm.k1, hm.n1, hm.r1, hm.k2, hm.n2, hm.r2, hm.k3, hm.n3, hm.r3, hm.k4, hm.n4, hm.r4, hm.k5, hm.n5, hm.r5, hm.k6, hm.n6, hm.r6, hm.k7, hm.n7, hm.r7, hm.k8, hm.n8, hm.r8, hm.k9, hm.n9, hm.r9, hm.k10, hm.n10, hm.r10, hm.k11, hm.n11, hm.r11, hm.k12, hm.n12, hm.r12, hm.k13, hm.n13, hm.r13, hm.k14, hm.n14, hm.r14, g5, h0, hb, hmm, bI_01, bI_01b, bI_0, u2_same, u2_ca, nI_1, nI_add, nI_clamp, nI_pin, nI_neg, nI_nonneg, nI_leE, nI_ltE, nI_eqE, Nat.not_le, Nat.not_lt, fq_10, fq_01, fq_rr, ix_aald, ix_aast, ix_abs, ix_alen, ix_aload, ix_aret, ix_astore, ix_bald, ix_bast, ix_call, ix_cpyI, ix_cpyJ, ix_dead, ix_dup2, ix_dup2L, ix_dupI, ix_dupR, ix_dupx1, ix_getI, ix_getJ, ix_getR, ix_gfm, ix_gtab, ix_i2b, ix_i2c, ix_i2l, ix_i2s, ix_iadd, ix_iald, ix_iand, ix_iast, ix_icall, ix_icmp_eq, ix_icmp_ge, ix_icmp_gt, ix_icmp_le, ix_icmp_lt, ix_icmp_ne, ix_idiv, ix_if_eq, ix_if_ge, ix_if_gt, ix_if_le, ix_if_lt, ix_if_ne, ix_iinc, ix_iload, ix_imul, ix_ineg, ix_ior, ix_irem, ix_iret, ix_ishl, ix_ishr, ix_istore, ix_isub, ix_iushr, ix_ixor, ix_l2i, ix_ladd, ix_lald, ix_land, ix_last, ix_lcmp, ix_ldcS, ix_ldiv, ix_lload, ix_lmul, ix_lor, ix_lrem, ix_lret, ix_lshl, ix_lstore, ix_lsub, ix_lsw, ix_max, ix_min, ix_new, ix_newa, ix_nret, ix_oinit, ix_pop2L, ix_popI, ix_pushI, ix_pushL, ix_putI, ix_putJ, ix_putR, ix_putZ, ix_sbald, ix_sgetC, ix_sgetV, ix_slen, ix_strc, ix_tald, ix_tsw, ix_vcall, ix_vret, ix_zret, stL, stL2, kilL, popN, fq_sw, fq_lsw, List.map_cons, List.map_nil, List.getElem?_cons_zero, List.getElem?_cons_succ, Option.toList_some, Option.toList_none, List.cons_append, List.nil_append, List.length_cons, List.length_nil, List.sum_cons, List.sum_nil, cat_i, cat_l, cat_r, true_and, and_true, Nat.zero_add, Nat.add_zero, Nat.le_refl, Nat.zero_le, Nat.reduceAdd, Nat.reduceLeDiff, exists_eq_left', Option.some.injEq, not_true_eq_false, not_false_eq_true, false_implies, true_implies, implies_true, and_self, or_true, true_or, or_false, false_or]
    refine ⟨n, s.2.2, hn, he, hT', fun h => ⟨n, s.2.2, hn, he, hT', fun h2 => ?_, fun h2 => ?_⟩, fun h => ?_⟩
    · rw [hN] at h2
      rw [if_neg h, if_neg h2] at hR
      rw [hN]
      refine ⟨n, _, t11, hn, t14, b4, fun I' hF hT2 => ?_⟩
      obtain ⟨x1, x2, x3, x4, x5, x6⟩ := (adV_u hF hT2).ps hP' (fun j hj => uA_n _ _ _ _ (by omega))
      rw [hA] at x2
      exact hR I' J x1 x2 x3 x4 x5 x6
    · rw [hN] at h2
      rw [if_neg h, if_pos h2] at hR
      have hz := RES.fl (A := uA (I (M + 1)) k (fnH s.2.1 b.toNatClampNeg m.toNatClampNeg (nmH (I (M + 7)) n s.2.2))) hP' (fun j hj => uA_n _ _ _ _ (by omega)) hR
      unfold flI at hz
      rw [← u2_up0, u2_ca _ _ _ _ _ _ (by omega), u2_ca _ _ _ _ _ _ (by omega)] at hz
      rw [hN]
      exact hz
    · rw [if_pos h] at hR
      exact RES.f0 hP' hR
  · exact h.elim
def sp_X12_houseTo (G : GT) : Sp := fun as S I J z Q => match as with
  | [.ref M, .int t] => rfS S M ∧ okN (I (M + 1) 2376) 6 ∧ ∃ n s k, t = nI k ∧ 2377 ≤ k ∧ k < 4694 ∧ psH M I J n s ∧ RES M I J n (pFd (I (M + 7)) n 56 (I (M + 1) 2376).toNatClampNeg k s) (fun I' J' => Q (some (.int 1)) S I' J' z) (fun I' J' => Q (some (.int 0)) S I' J' z)
  | _ => False
set_option maxHeartbeats 4000000 in
set_option maxRecDepth 20000 in
theorem c_X12_houseTo {l : Launch} {G : GT} {D : Nat} : ∀ as S I J z Q, sp_X12_houseTo G as S I J z Q → fqCall l G M_X12_houseTo (D + 6) 0 0 as S I J z Q := by
  intro as S I J z Q h
  unfold sp_X12_houseTo at h
  split at h
  · next M t =>
    obtain ⟨hm, ho, n, s, k, rfl, hk0, hk, hP, hR⟩ := h
    have hP' := hP
    obtain ⟨hA, hN, hT, he, hn, h0, h17⟩ := hP
    have hT' := hT
    obtain ⟨t11, t12, t13, t14, t15⟩ := hT
    obtain ⟨b1, b2, b3, b4⟩ := tFE (T := I (M + 7)) he
    obtain ⟨c, hc, hc1, hc2⟩ := ho.ex
    rw [hc2] at hR
    have g5 : G.2.2.2 (4 + 1) = G.2.2.2 5 := rfl
    unfold pFd at hR
    refine fq_enter [some (.ref M), some (.int (nI k))] (by decide +kernel) (Nat.le_of_ble_eq_true rfl) rfl (b_X12_houseTo_0 _ _ _ _ _ _ _ _ ?_)
    simp (disch := omega) only [B_X12_houseTo_0, sp_X12_isName, sp_X12_fails, sp_X12_findHere, sp_X12_ahead, hm, hm.k, hm.k1, hm.n1, hm.r1, hm.k2, hm.n2, hm.r2, hm.k3, hm.n3, hm.r3, hm.k4, hm.n4, hm.r4, hm.k5, hm.n5, hm.r5, hm.k6, hm.n6, hm.r6, hm.k7, hm.n7, hm.r7, hm.k8, hm.n8, hm.r8, hm.k9, hm.n9, hm.r9, hm.k10, hm.n10, hm.r10, hm.k11, hm.n11, hm.r11, hm.k12, hm.n12, hm.r12, hm.k13, hm.n13, hm.r13, hm.k14, hm.n14, hm.r14, g5, h0, okE, hc1, li_2, li_3, li_4, li_5, li_6, li_7, li_8, li_9, li_10, li_11, li_12, li_13, li_14, li_15, li_16, li_17, li_18, li_19, li_20, li_21, li_22, li_23, li_24, li_25, li_26, li_27, li_28, li_29, li_30, li_32, li_33, li_34, li_35, li_36, li_37, li_38, li_39, li_40, li_41, li_42, li_43, li_44, li_45, li_46, li_47, li_48, li_49, li_50, li_51, li_52, li_53, li_54, li_55, li_56, li_57, li_58, li_59, li_60, li_61, li_62, li_63, li_64, li_65, li_66, li_67, li_68, li_69, li_70, li_71, li_72, li_73, li_74, li_75, li_76, li_77, li_78, li_79, li_80, li_81, li_82, li_83, li_84, li_85, li_86, li_87, li_88, li_89, li_90, li_91, li_92, li_93, li_94, li_95, li_96, li_97, li_98, li_99, li_100, li_101, li_102, li_103, li_104, li_105, li_106, li_107, li_108, li_109, li_110, li_111, li_112, li_113, li_114, li_115, li_116, li_117, li_118, li_119, li_120, li_121, li_122, li_123, li_124, li_125, li_126, li_127, li_128, li_129, li_130, li_131, li_226, li_240, li_255, li_300, li_586, li_594, li_900, li_999, li_1000, li_1800, li_2376, li_2388, li_2406, li_2602, li_2970, li_3067, li_3564, li_9999, li_10000, li_11287, li_65536, li_100000, li_1000000, nI_mul, tn0, tn1, vin0, vin1, Int32.add_zero, Int32.or_zero, Int32.mul_one, Int32.mul_zero, Int32.zero_add, Nat.reduceEqDiff, Nat.reduceMul, Nat.reduceSub, bI_01, bI_01b, bI_0, u2_same, u2_ca, nI_1, nI_add, nI_clamp, nI_pin, nI_neg, nI_nonneg, nI_leE, nI_ltE, nI_eqE, Nat.not_le, Nat.not_lt, fq_10, fq_01, fq_rr, ix_aald, ix_aast, ix_abs, ix_alen, ix_aload, ix_aret, ix_astore, ix_bald, ix_bast, ix_call, ix_cpyI, ix_cpyJ, ix_dead, ix_dup2, ix_dup2L, ix_dupI, ix_dupR, ix_dupx1, ix_getI, ix_getJ, ix_getR, ix_gfm, ix_gtab, ix_i2b, ix_i2c, ix_i2l, ix_i2s, ix_iadd, ix_iald, ix_iand, ix_iast, ix_icall, ix_icmp_eq, ix_icmp_ge, ix_icmp_gt, ix_icmp_le, ix_icmp_lt, ix_icmp_ne, ix_idiv, ix_if_eq, ix_if_ge, ix_if_gt, ix_if_le, ix_if_lt, ix_if_ne, ix_iinc, ix_iload, ix_imul, ix_ineg, ix_ior, ix_irem, ix_iret, ix_ishl, ix_ishr, ix_istore, ix_isub, ix_iushr, ix_ixor, ix_l2i, ix_ladd, ix_lald, ix_land, ix_last, ix_lcmp, ix_ldcS, ix_ldiv, ix_lload, ix_lmul, ix_lor, ix_lrem, ix_lret, ix_lshl, ix_lstore, ix_lsub, ix_lsw, ix_max, ix_min, ix_new, ix_newa, ix_nret, ix_oinit, ix_pop2L, ix_popI, ix_pushI, ix_pushL, ix_putI, ix_putJ, ix_putR, ix_putZ, ix_sbald, ix_sgetC, ix_sgetV, ix_slen, ix_strc, ix_tald, ix_tsw, ix_vcall, ix_vret, ix_zret, stL, stL2, kilL, popN, fq_sw, fq_lsw, List.map_cons, List.map_nil, List.getElem?_cons_zero, List.getElem?_cons_succ, Option.toList_some, Option.toList_none, List.cons_append, List.nil_append, List.length_cons, List.length_nil, List.sum_cons, List.sum_nil, cat_i, cat_l, cat_r, true_and, and_true, Nat.zero_add, Nat.add_zero, Nat.le_refl, Nat.zero_le, Nat.reduceAdd, Nat.reduceLeDiff, exists_eq_left', Option.some.injEq, not_true_eq_false, not_false_eq_true, false_implies, true_implies, implies_true, and_self, or_true, true_or, or_false, false_or]
    refine ⟨n, s.2.2, hn, he, hT', fun h => ⟨n, s.2.2, hn, he, hT', fun h2 => ?_, fun h2 => ?_⟩, fun h => ?_⟩
    · rw [hN] at h2
      rw [if_neg h, if_neg h2] at hR
      rw [hN]
      refine ⟨n, _, t11, hn, t14, b4, fun I' hF hT2 => ?_⟩
      obtain ⟨x1, x2, x3, x4, x5, x6⟩ := (adV_u hF hT2).ps hP' (fun j hj => uA_n _ _ _ _ (by omega))
      rw [hA] at x2
      exact hR I' J x1 x2 x3 x4 x5 x6
    · rw [hN] at h2
      rw [if_neg h, if_pos h2] at hR
      have hz := RES.fl (A := uA (I (M + 1)) k (fnH s.2.1 56 c (nmH (I (M + 7)) n s.2.2))) hP' (fun j hj => uA_n _ _ _ _ (by omega)) hR
      unfold flI at hz
      rw [← u2_up0, u2_ca _ _ _ _ _ _ (by omega), u2_ca _ _ _ _ _ _ (by omega)] at hz
      rw [hN]
      exact hz
    · rw [if_pos h] at hR
      exact RES.f0 hP' hR
  · exact h.elim
