/-! what is lost on the mean, of the class -/
theorem le_p {x : Int32} {c : Nat} (hc : c ≤ 600) : (x ≤ nI c - 1) = (x < nI c) := by
  have e : nI c - 1 = Int32.ofInt ((c : Int) - (1 : Nat)) := ofI_sub (b := 1) hc (by omega)
  rw [e]
  refine propext ?_
  rw [Int32.le_iff_toInt_le, Int32.lt_iff_toInt_lt, ofI_t (by omega) (by omega), nI_oI, ofI_t (by omega) (by omega)]
  omega
theorem stR.cg {I : IH} {s : Nat} {A B : Nat → Int32} (h : stR I s A) (hB : ∀ k, k < 226 → B k = A k) : stR I s B := by
  obtain ⟨o, a, b, c, q, hq, h8, hk⟩ := h
  have o0 := o.1.2
  have o1 := o.2.1.2
  have o2 := o.2.2.2
  unfold stR cnK
  rw [hB 0 (by omega), hB 1 (by omega), hB 2 (by omega), hB 3 (by omega), hB 4 (by omega), hB 5 (by omega), hB 6 (by omega), hB 7 (by omega), hB 8 (by omega), hB 9 (by omega), hB 10 (by omega)]
  refine ⟨o, a, fun i hi => ?_, fun p hp j hj => ?_, q, hq, h8, fun k hk2 j hj => ?_⟩
  · rw [hB _ (by omega), hB _ (by omega), hB _ (by omega)]
    exact b i hi
  · rw [hB _ (by omega)]
    exact c p hp j hj
  · rw [hB _ (by omega)]
    exact hk k hk2 j hj
theorem svR.cg {I : IH} {s N : Nat} {A B : Nat → Int32} (h : svR I s A N) (hB : ∀ k, k < 594 → B k = A k) : svR I s B N := by
  obtain ⟨h1, h2, h3, h4, h5, h6⟩ := h
  have hN := h4.1
  refine ⟨h1.cg (fun k hk => hB k (by omega)), h2.cg (fun k hk => hB k (by omega)), h3, h4.cg2 hB, h5, fun i hi => ?_⟩
  obtain ⟨r1, r2⟩ := h6 i hi
  exact ⟨r1.mv (fun _ _ _ => rfl) (fun j hj _ => hB _ (by omega)), r2.mv rfl rfl (hB _ (by omega))⟩
theorem stR.cp {I I' : IH} {J J' : JH} {s p m : Nat} {A : Nat → Int32} (h : stR I p A) (hc : scR I I' J J' s p m) : stR I' s A := by
  obtain ⟨o, ⟨a1, a2, a3, a4, a5, a6, a7, a8, a9, a10, a11⟩, b, c, q, hq, h8, hk⟩ := h
  have o0 := o.1.2
  have o1 := o.2.1.2
  obtain ⟨-, c1, c2, c3, c4, -, -, -, -⟩ := hc
  refine ⟨o, ⟨by rw [c1 5 (by omega) (by omega)]; exact a1, by rw [c1 6 (by omega) (by omega)]; exact a2, by rw [c1 7 (by omega) (by omega)]; exact a3, by rw [c1 9 (by omega) (by omega)]; exact a4, by rw [c1 10 (by omega) (by omega)]; exact a5, by rw [c1 11 (by omega) (by omega)]; exact a6, by rw [c1 12 (by omega) (by omega)]; exact a7, by rw [c1 16 (by omega) (by omega)]; exact a8, by rw [c1 13 (by omega) (by omega)]; exact a9, by rw [c1 14 (by omega) (by omega)]; exact a10, by rw [c1 15 (by omega) (by omega)]; exact a11⟩, fun i hi => ?_, fun r hr j hj => ?_, q, hq, by rw [c1 8 (by omega) (by omega)]; exact h8, fun k hk2 j hj => ?_⟩
  · rw [c2 i (by omega) 2 (by omega) (by omega), c2 i (by omega) 1 (by omega) (by omega), c2 i (by omega) 3 (by omega) (by omega)]
    exact b i hi
  · rw [c3 r (by omega) (j + 1) (by omega) (by omega)]
    exact c r hr j hj
  · rw [c4 _ (qix_lt q k) j (by omega)]
    exact hk k hk2 j hj
theorem bqS.cp {I I' : IH} {J J' : JH} {s p m : Nat} (h : bqS I p) (hc : scR I I' J J' s p m) : bqS I' s := h.mv (fun i hi => hc.2.2.2.2.1 i hi 6 (by omega))
theorem svR.cp {I I' : IH} {J J' : JH} {s p N : Nat} {A : Nat → Int32} (h : svR I p A N) (hc : scR I I' J J' s p N) : svR I' s A N := by
  obtain ⟨h1, h2, h3, h4, h5, h6⟩ := h
  have c5 := hc.2.2.2.2.2.1
  have c6 := hc.2.2.2.2.2.2.1
  refine ⟨h1.cp hc, h2, h3.cp hc, h4, by rw [c5 7 (by omega) (by omega)]; exact h5, fun i hi => ?_⟩
  obtain ⟨r1, r2⟩ := h6 i hi
  exact ⟨r1.mv (fun a x1 x2 => c6 a x1 (by omega) i hi) (fun _ _ _ => rfl), r2.mv (c6 5 (by omega) (by omega) i hi) (c6 11 (by omega) (by omega) i hi) rfl⟩
/-- the widths behind lives by seeds, added up -/
def mnW (N : Nat) (A : Nat → Int32) (h : Nat) : Nat → Nat → (Nat → Int32) → Nat
  | 0, _, _ => 0
  | c + 1, d, L => ((lvR N 302 (A, d, fun _ => 0, 0, L) 0).1 (12 + 3 * h)).toNatClampNeg + mnW N A h c (d + 1) (lvR N 302 (A, d, fun _ => 0, 0, L) 0).2.2.2.2
theorem mnW_1 (N : Nat) (A : Nat → Int32) (h c d : Nat) (L : Nat → Int32) : mnW N A h (c + 1) d L = ((lvR N 302 (A, d, fun _ => 0, 0, L) 0).1 (12 + 3 * h)).toNatClampNeg + mnW N A h c (d + 1) (lvR N 302 (A, d, fun _ => 0, 0, L) 0).2.2.2.2 := rfl
theorem mnS_W {N : Nat} {A : Nat → Int32} {h : Nat} (hw : wfS A) (hy : wfY A N) (hh : h < (A 0).toNatClampNeg) : ∀ (c d : Nat) (L : Nat → Int32) (x : Nat), okL L → d + c ≤ 20000 → x + 600 * c < 100000 → mnS N A h c d L (lN x) = lN (x + mnW N A h c d L) ∧ mnW N A h c d L ≤ 600 * c := by
  intro c
  induction c with
  | zero =>
    intro d L x _ _ _
    exact ⟨rfl, Nat.le_refl _⟩
  | succ c ih =>
    intro d L x hL hd hx
    obtain ⟨v1, v2, v3, v4⟩ := lvR_ok (N := N) 302 (A, d, fun _ => 0, 0, L) 0 hw hy hL (by show d < 65536; omega) (by show 0 ≤ 300; omega)
    rw [mnS_1, mnW_1]
    generalize lvR N 302 (A, d, fun _ => 0, 0, L) 0 = X at *
    obtain ⟨y, hy6, ey, ey2⟩ := (v1.2.2.2.2.2.2.2.2.2.1 h (by rw [v2 0 (by omega)]; exact hh)).1.ex
    rw [ey, nI_clamp (by omega), nI_l (by omega), lN_add]
    obtain ⟨i1, i2⟩ := ih (d + 1) X.2.2.2.2 (x + y) v3 (by omega) (by omega)
    rw [i1]
    exact ⟨by rw [Nat.add_assoc], by omega⟩
def mtF (X p : Nat) (I I' : IH) (J J' : JH) : Prop := (∀ a, a ≠ X → a ≠ X + 172 → a ≠ X + 173 → ¬ (p ≤ a ∧ a < p + 52) → I' a = I a) ∧ (∀ k, k ≠ 10 → I' X k = I X k) ∧ (∀ a, a ≠ X → ¬ (p ≤ a ∧ a < p + 52) → J' a = J a) ∧ ∀ k, k ≠ 13 → k ≠ 14 → J' X k = J X k
theorem dX11_live_0 : decode cX11_live 0 = .ok (.iload_n 1, 1) := by decide +kernel
theorem dX11_live_1 : decode cX11_live 1 = .ok (.iconst 0, 1) := by decide +kernel
theorem dX11_live_2 : decode cX11_live 2 = .ok (.sipush 9999, 3) := by decide +kernel
theorem dX11_live_5 : decode cX11_live 5 = .ok (.invokestatic 74, 3) := by decide +kernel
theorem dX11_live_8 : decode cX11_live 8 = .ok (.ifCond .ne 9, 3) := by decide +kernel
theorem dX11_live_11 : decode cX11_live 11 = .ok (.aload_n 0, 1) := by decide +kernel
theorem dX11_live_12 : decode cX11_live 12 = .ok (.iconst 1, 1) := by decide +kernel
theorem dX11_live_13 : decode cX11_live 13 = .ok (.invokevirtual 97, 3) := by decide +kernel
theorem dX11_live_16 : decode cX11_live 16 = .ok (.ireturn, 1) := by decide +kernel
theorem dX11_live_17 : decode cX11_live 17 = .ok (.aload_n 0, 1) := by decide +kernel
theorem dX11_live_18 : decode cX11_live 18 = .ok (.getfield 46, 3) := by decide +kernel
theorem dX11_live_21 : decode cX11_live 21 = .ok (.getfield 147, 3) := by decide +kernel
theorem dX11_live_24 : decode cX11_live 24 = .ok (.getfield 406, 3) := by decide +kernel
theorem dX11_live_27 : decode cX11_live 27 = .ok (.ifCond .ne 10, 3) := by decide +kernel
theorem dX11_live_30 : decode cX11_live 30 = .ok (.aload_n 0, 1) := by decide +kernel
theorem dX11_live_31 : decode cX11_live 31 = .ok (.bipush 6, 2) := by decide +kernel
theorem dX11_live_33 : decode cX11_live 33 = .ok (.invokevirtual 97, 3) := by decide +kernel
theorem dX11_live_36 : decode cX11_live 36 = .ok (.ireturn, 1) := by decide +kernel
theorem dX11_live_37 : decode cX11_live 37 = .ok (.aload_n 0, 1) := by decide +kernel
theorem dX11_live_38 : decode cX11_live 38 = .ok (.getfield 39, 3) := by decide +kernel
theorem dX11_live_41 : decode cX11_live 41 = .ok (.aload_n 0, 1) := by decide +kernel
theorem dX11_live_42 : decode cX11_live 42 = .ok (.getfield 46, 3) := by decide +kernel
theorem dX11_live_45 : decode cX11_live 45 = .ok (.iload_n 1, 1) := by decide +kernel
theorem dX11_live_46 : decode cX11_live 46 = .ok (.invokevirtual 409, 3) := by decide +kernel
theorem dX11_live_49 : decode cX11_live 49 = .ok (.aload_n 0, 1) := by decide +kernel
theorem dX11_live_50 : decode cX11_live 50 = .ok (.aload_n 0, 1) := by decide +kernel
theorem dX11_live_51 : decode cX11_live 51 = .ok (.getfield 39, 3) := by decide +kernel
theorem dX11_live_54 : decode cX11_live 54 = .ok (.getfield 413, 3) := by decide +kernel
theorem dX11_live_57 : decode cX11_live 57 = .ok (.invokevirtual 142, 3) := by decide +kernel
theorem dX11_live_60 : decode cX11_live 60 = .ok (.ireturn, 1) := by decide +kernel
abbrev M_X11_live : MT := (yX11_live, cX11_live, 2, (some .int))
theorem cf_X11_live : fq_cf M_X11_live 1 := ⟨(mg_1 (List.mem_of_getElem? (i := 1) rfl) rfl), (mg_6 (List.mem_of_getElem? (i := 93) rfl) rfl), ⟨by decide, by decide, by decide +kernel⟩, by decide⟩
def B_X11_live_0 (G : GT) (mc ms : Nat) (Q : Post) : Cn := ix_iload 1 (ix_pushI 0 (ix_pushI 9999 (ix_call 3 0 0 mc ms (sp_X11_isWithin G) (ix_if_ne (ix_aload 0 (ix_getR 11 6 (ix_getR 6 3 (ix_getI 9 9 (ix_if_ne (ix_aload 0 (ix_getR 11 4 (ix_aload 0 (ix_getR 11 6 (ix_iload 1 (ix_vcall 1 3 0 0 mc ms (sp_X1_pass G) (ix_aload 0 (ix_aload 0 (ix_getR 11 4 (ix_getI 1 4 (ix_vcall 11 2 0 0 mc ms (sp_X11_answer G) (ix_iret mc ms Q)))))))))))) (ix_aload 0 (ix_pushI 6 (ix_vcall 11 2 0 0 mc ms (sp_X11_refuse G) (ix_iret mc ms Q))))))))) (ix_aload 0 (ix_pushI 1 (ix_vcall 11 2 0 0 mc ms (sp_X11_refuse G) (ix_iret mc ms Q))))))))
theorem b_X11_live_0 {l : Launch} {G : GT} {D mc ms : Nat} {Q : Post} : Imp l G M_X11_live (D + 7) mc ms Q (B_X11_live_0 G mc ms Q) 0 := sx_iload_n dX11_live_0 rfl (sx_iconst dX11_live_1 rfl (sx_sipush dX11_live_2 rfl (sx_scall dX11_live_5 cf_X11_isWithin (mg_3 (List.mem_of_getElem? (i := 85) rfl) rfl) (mg_3 (List.mem_of_getElem? (i := 86) rfl) rfl) c_X11_isWithin (sx_if_ne 17 dX11_live_8 (by decide) (sx_aload_n dX11_live_17 rfl (sx_getR dX11_live_18 fl_FootQuarrel_46 (fun _ _ _ => rfl) (sx_getR dX11_live_21 fl_FootQuarrel_147 (fun _ _ _ => rfl) (sx_getI dX11_live_24 fl_FootQuarrel_406 (fun _ _ _ => rfl) (sx_if_ne 37 dX11_live_27 (by decide) (sx_aload_n dX11_live_37 rfl (sx_getR dX11_live_38 fl_FootQuarrel_39 (fun _ _ _ => rfl) (sx_aload_n dX11_live_41 rfl (sx_getR dX11_live_42 fl_FootQuarrel_46 (fun _ _ _ => rfl) (sx_iload_n dX11_live_45 rfl (sx_vcall dX11_live_46 cf_X1_pass (mg_6 (List.mem_of_getElem? (i := 94) rfl) rfl) (mg_6 (List.mem_of_getElem? (i := 95) rfl) rfl) (mg_6 (List.mem_of_getElem? (i := 96) rfl) rfl) rfl c_X1_pass (sx_aload_n dX11_live_49 rfl (sx_aload_n dX11_live_50 rfl (sx_getR dX11_live_51 fl_FootQuarrel_39 (fun _ _ _ => rfl) (sx_getI dX11_live_54 fl_FootQuarrel_413 (fun _ _ _ => rfl) (sx_vcall dX11_live_57 cf_X11_answer (mg_4 (List.mem_of_getElem? (i := 72) rfl) rfl) (mg_4 (List.mem_of_getElem? (i := 74) rfl) rfl) (mg_p (List.mem_of_getElem? (i := 17) rfl) rfl) rfl c_X11_answer (sx_iret dX11_live_60 rfl)))))))))))) (sx_aload_n dX11_live_30 rfl (sx_bipush dX11_live_31 rfl (sx_vcall dX11_live_33 cf_X11_refuse (mg_3 (List.mem_of_getElem? (i := 120) rfl) rfl) (mg_3 (List.mem_of_getElem? (i := 122) rfl) rfl) (mg_p (List.mem_of_getElem? (i := 3) rfl) rfl) rfl c_X11_refuse (sx_iret dX11_live_36 rfl))))))))) (sx_aload_n dX11_live_11 rfl (sx_iconst dX11_live_12 rfl (sx_vcall dX11_live_13 cf_X11_refuse (mg_3 (List.mem_of_getElem? (i := 120) rfl) rfl) (mg_3 (List.mem_of_getElem? (i := 122) rfl) rfl) (mg_p (List.mem_of_getElem? (i := 3) rfl) rfl) rfl c_X11_refuse (sx_iret dX11_live_16 rfl))))))))
def sp_X11_live (G : GT) : Sp := fun as S I J z Q => match as with
  | [.ref a0, .int a1] => B_X11_live_0 G 0 0 Q [some (.ref a0), some (.int a1)] [] S I J z 0 0
  | _ => False
theorem c_X11_live {l : Launch} {G : GT} {D : Nat} : ∀ as S I J z Q, sp_X11_live G as S I J z Q → fqCall l G M_X11_live (D + 7) 0 0 as S I J z Q := by
  intro as S I J z Q h
  unfold sp_X11_live at h
  split at h
  · exact fq_enter _ (by decide +kernel) (Nat.le_of_ble_eq_true rfl) rfl (b_X11_live_0 _ _ _ _ _ _ _ _ h)
  · exact h.elim
theorem dX11_mean_0 : decode cX11_mean 0 = .ok (.aload_n 0, 1) := by decide +kernel
theorem dX11_mean_1 : decode cX11_mean 1 = .ok (.iload_n 1, 1) := by decide +kernel
theorem dX11_mean_2 : decode cX11_mean 2 = .ok (.invokevirtual 206, 3) := by decide +kernel
theorem dX11_mean_5 : decode cX11_mean 5 = .ok (.ifCond .eq 35, 3) := by decide +kernel
theorem dX11_mean_8 : decode cX11_mean 8 = .ok (.iload_n 2, 1) := by decide +kernel
theorem dX11_mean_9 : decode cX11_mean 9 = .ok (.iconst 0, 1) := by decide +kernel
theorem dX11_mean_10 : decode cX11_mean 10 = .ok (.sipush 9999, 3) := by decide +kernel
theorem dX11_mean_13 : decode cX11_mean 13 = .ok (.invokestatic 74, 3) := by decide +kernel
theorem dX11_mean_16 : decode cX11_mean 16 = .ok (.ifCond .eq 24, 3) := by decide +kernel
theorem dX11_mean_19 : decode cX11_mean 19 = .ok (.iload_n 3, 1) := by decide +kernel
theorem dX11_mean_20 : decode cX11_mean 20 = .ok (.iconst 1, 1) := by decide +kernel
theorem dX11_mean_21 : decode cX11_mean 21 = .ok (.bipush 20, 2) := by decide +kernel
theorem dX11_mean_23 : decode cX11_mean 23 = .ok (.invokestatic 74, 3) := by decide +kernel
theorem dX11_mean_26 : decode cX11_mean 26 = .ok (.ifCond .eq 14, 3) := by decide +kernel
theorem dX11_mean_29 : decode cX11_mean 29 = .ok (.iload_n 2, 1) := by decide +kernel
theorem dX11_mean_30 : decode cX11_mean 30 = .ok (.iload_n 3, 1) := by decide +kernel
theorem dX11_mean_31 : decode cX11_mean 31 = .ok (.iadd, 1) := by decide +kernel
theorem dX11_mean_32 : decode cX11_mean 32 = .ok (.iconst 1, 1) := by decide +kernel
theorem dX11_mean_33 : decode cX11_mean 33 = .ok (.isub, 1) := by decide +kernel
theorem dX11_mean_34 : decode cX11_mean 34 = .ok (.sipush 9999, 3) := by decide +kernel
theorem dX11_mean_37 : decode cX11_mean 37 = .ok (.if_icmp .le 9, 3) := by decide +kernel
theorem dX11_mean_40 : decode cX11_mean 40 = .ok (.aload_n 0, 1) := by decide +kernel
theorem dX11_mean_41 : decode cX11_mean 41 = .ok (.iconst 1, 1) := by decide +kernel
theorem dX11_mean_42 : decode cX11_mean 42 = .ok (.invokevirtual 78, 3) := by decide +kernel
theorem dX11_mean_45 : decode cX11_mean 45 = .ok (.ireturn, 1) := by decide +kernel
theorem dX11_mean_46 : decode cX11_mean 46 = .ok (.aload_n 0, 1) := by decide +kernel
theorem dX11_mean_47 : decode cX11_mean 47 = .ok (.getfield 46, 3) := by decide +kernel
theorem dX11_mean_50 : decode cX11_mean 50 = .ok (.getfield 147, 3) := by decide +kernel
theorem dX11_mean_53 : decode cX11_mean 53 = .ok (.getfield 406, 3) := by decide +kernel
theorem dX11_mean_56 : decode cX11_mean 56 = .ok (.ifCond .ne 10, 3) := by decide +kernel
theorem dX11_mean_59 : decode cX11_mean 59 = .ok (.aload_n 0, 1) := by decide +kernel
theorem dX11_mean_60 : decode cX11_mean 60 = .ok (.bipush 6, 2) := by decide +kernel
theorem dX11_mean_62 : decode cX11_mean 62 = .ok (.invokevirtual 78, 3) := by decide +kernel
theorem dX11_mean_65 : decode cX11_mean 65 = .ok (.ireturn, 1) := by decide +kernel
theorem dX11_mean_66 : decode cX11_mean 66 = .ok (.iconst 0, 1) := by decide +kernel
theorem dX11_mean_67 : decode cX11_mean 67 = .ok (.istore 4, 2) := by decide +kernel
theorem dX11_mean_69 : decode cX11_mean 69 = .ok (.iconst 0, 1) := by decide +kernel
theorem dX11_mean_70 : decode cX11_mean 70 = .ok (.istore 5, 2) := by decide +kernel
theorem dX11_mean_72 : decode cX11_mean 72 = .ok (.iload 5, 2) := by decide +kernel
theorem dX11_mean_74 : decode cX11_mean 74 = .ok (.iload_n 3, 1) := by decide +kernel
theorem dX11_mean_75 : decode cX11_mean 75 = .ok (.if_icmp .ge 52, 3) := by decide +kernel
theorem dX11_mean_78 : decode cX11_mean 78 = .ok (.aload_n 0, 1) := by decide +kernel
theorem dX11_mean_79 : decode cX11_mean 79 = .ok (.getfield 50, 3) := by decide +kernel
theorem dX11_mean_82 : decode cX11_mean 82 = .ok (.aload_n 0, 1) := by decide +kernel
theorem dX11_mean_83 : decode cX11_mean 83 = .ok (.getfield 46, 3) := by decide +kernel
theorem dX11_mean_86 : decode cX11_mean 86 = .ok (.invokevirtual 430, 3) := by decide +kernel
theorem dX11_mean_89 : decode cX11_mean 89 = .ok (.aload_n 0, 1) := by decide +kernel
theorem dX11_mean_90 : decode cX11_mean 90 = .ok (.getfield 43, 3) := by decide +kernel
theorem dX11_mean_93 : decode cX11_mean 93 = .ok (.aload_n 0, 1) := by decide +kernel
theorem dX11_mean_94 : decode cX11_mean 94 = .ok (.getfield 50, 3) := by decide +kernel
theorem dX11_mean_97 : decode cX11_mean 97 = .ok (.iload_n 2, 1) := by decide +kernel
theorem dX11_mean_98 : decode cX11_mean 98 = .ok (.iload 5, 2) := by decide +kernel
theorem dX11_mean_100 : decode cX11_mean 100 = .ok (.iadd, 1) := by decide +kernel
theorem dX11_mean_101 : decode cX11_mean 101 = .ok (.invokevirtual 409, 3) := by decide +kernel
theorem dX11_mean_104 : decode cX11_mean 104 = .ok (.iload 4, 2) := by decide +kernel
theorem dX11_mean_106 : decode cX11_mean 106 = .ok (.aload_n 0, 1) := by decide +kernel
theorem dX11_mean_107 : decode cX11_mean 107 = .ok (.getfield 50, 3) := by decide +kernel
theorem dX11_mean_110 : decode cX11_mean 110 = .ok (.getfield 209, 3) := by decide +kernel
theorem dX11_mean_113 : decode cX11_mean 113 = .ok (.iload_n 1, 1) := by decide +kernel
theorem dX11_mean_114 : decode cX11_mean 114 = .ok (.aaload, 1) := by decide +kernel
theorem dX11_mean_115 : decode cX11_mean 115 = .ok (.getfield 213, 3) := by decide +kernel
theorem dX11_mean_118 : decode cX11_mean 118 = .ok (.iadd, 1) := by decide +kernel
theorem dX11_mean_119 : decode cX11_mean 119 = .ok (.istore 4, 2) := by decide +kernel
theorem dX11_mean_121 : decode cX11_mean 121 = .ok (.iinc 5 1, 3) := by decide +kernel
theorem dX11_mean_124 : decode cX11_mean 124 = .ok (.goto (-52), 3) := by decide +kernel
theorem dX11_mean_127 : decode cX11_mean 127 = .ok (.aload_n 0, 1) := by decide +kernel
theorem dX11_mean_128 : decode cX11_mean 128 = .ok (.iload 4, 2) := by decide +kernel
theorem dX11_mean_130 : decode cX11_mean 130 = .ok (.i2l, 1) := by decide +kernel
theorem dX11_mean_131 : decode cX11_mean 131 = .ok (.iload_n 3, 1) := by decide +kernel
theorem dX11_mean_132 : decode cX11_mean 132 = .ok (.i2l, 1) := by decide +kernel
theorem dX11_mean_133 : decode cX11_mean 133 = .ok (.invokevirtual 376, 3) := by decide +kernel
theorem dX11_mean_136 : decode cX11_mean 136 = .ok (.aload_n 0, 1) := by decide +kernel
theorem dX11_mean_137 : decode cX11_mean 137 = .ok (.invokevirtual 85, 3) := by decide +kernel
theorem dX11_mean_140 : decode cX11_mean 140 = .ok (.ireturn, 1) := by decide +kernel
abbrev M_X11_mean : MT := (yX11_mean, cX11_mean, 6, (some .boolean))
theorem cf_X11_mean : fq_cf M_X11_mean 3 := ⟨(mg_1 (List.mem_of_getElem? (i := 1) rfl) rfl), (mg_6 (List.mem_of_getElem? (i := 148) rfl) rfl), ⟨by decide, by decide, by decide +kernel⟩, by decide⟩
def B_X11_mean_140 (l : Launch) (G : GT) (D mc ms : Nat) (Q : Post) : Cn := ix_zret mc ms Q
theorem b_X11_mean_140 {l : Launch} {G : GT} {D mc ms : Nat} {Q : Post} : Imp l G M_X11_mean (D + 7) mc ms Q (B_X11_mean_140 l G D mc ms Q) 140 := sx_zret dX11_mean_140 rfl
def B_X11_mean_136 (l : Launch) (G : GT) (D mc ms : Nat) (Q : Post) : Cn := ix_aload 0 (ix_vcall 11 1 0 0 mc ms (sp_X11_grant G) ((B_X11_mean_140 l G D mc ms Q)))
theorem b_X11_mean_136 {l : Launch} {G : GT} {D mc ms : Nat} {Q : Post} : Imp l G M_X11_mean (D + 7) mc ms Q (B_X11_mean_136 l G D mc ms Q) 136 := sx_aload_n dX11_mean_136 rfl (sx_vcall dX11_mean_137 cf_X11_grant (mg_3 (List.mem_of_getElem? (i := 96) rfl) rfl) (mg_3 (List.mem_of_getElem? (i := 98) rfl) rfl) (mg_p (List.mem_of_getElem? (i := 1) rfl) rfl) rfl c_X11_grant (b_X11_mean_140))
def B_X11_mean_104 (l : Launch) (G : GT) (D mc ms : Nat) (Q : Post) : Cn := ix_iload 4 (ix_aload 0 (ix_getR 11 7 (ix_getR 6 0 (ix_iload 1 (ix_aald 16 (ix_getI 0 2 (ix_iadd (ix_istore 4 (ix_iinc 5 1 (fqAt l G M_X11_mean (D + 7) mc ms Q 72))))))))))
theorem b_X11_mean_104 {l : Launch} {G : GT} {D mc ms : Nat} {Q : Post} : Imp l G M_X11_mean (D + 7) mc ms Q (B_X11_mean_104 l G D mc ms Q) 104 := sx_iload dX11_mean_104 (sx_aload_n dX11_mean_106 rfl (sx_getR dX11_mean_107 fl_FootQuarrel_50 (fun _ _ _ => rfl) (sx_getR dX11_mean_110 fl_FootQuarrel_209 (fun _ _ _ => rfl) (sx_iload_n dX11_mean_113 rfl (sx_aald dX11_mean_114 (by decide) (by decide) rfl (sx_getI dX11_mean_115 fl_FootQuarrel_213 (fun _ _ _ => rfl) (sx_iadd dX11_mean_118 (sx_istore dX11_mean_119 (by decide) (sx_iinc dX11_mean_121 rfl (by decide) (sx_goto 72 dX11_mean_124 (by decide) ((fun _ _ _ _ _ _ _ _ h => h))))))))))))
def B_X11_mean_89 (l : Launch) (G : GT) (D mc ms : Nat) (Q : Post) : Cn := ix_aload 0 (ix_getR 11 5 (ix_aload 0 (ix_getR 11 7 (ix_iload 2 (ix_iload 5 (ix_iadd (ix_vcall 1 3 0 0 mc ms (sp_X1_pass G) ((B_X11_mean_104 l G D mc ms Q)))))))))
theorem b_X11_mean_89 {l : Launch} {G : GT} {D mc ms : Nat} {Q : Post} : Imp l G M_X11_mean (D + 7) mc ms Q (B_X11_mean_89 l G D mc ms Q) 89 := sx_aload_n dX11_mean_89 rfl (sx_getR dX11_mean_90 fl_FootQuarrel_43 (fun _ _ _ => rfl) (sx_aload_n dX11_mean_93 rfl (sx_getR dX11_mean_94 fl_FootQuarrel_50 (fun _ _ _ => rfl) (sx_iload_n dX11_mean_97 rfl (sx_iload dX11_mean_98 (sx_iadd dX11_mean_100 (sx_vcall dX11_mean_101 cf_X1_pass (mg_6 (List.mem_of_getElem? (i := 94) rfl) rfl) (mg_6 (List.mem_of_getElem? (i := 95) rfl) rfl) (mg_6 (List.mem_of_getElem? (i := 96) rfl) rfl) rfl c_X1_pass (b_X11_mean_104))))))))
def B_X11_mean_72 (l : Launch) (G : GT) (D mc ms : Nat) (Q : Post) : Cn := ix_iload 5 (ix_iload 3 (ix_icmp_ge (ix_aload 0 (ix_iload 4 (ix_i2l (ix_iload 3 (ix_i2l (ix_vcall 11 3 0 0 mc ms (sp_X11_tellFraction G) ((B_X11_mean_136 l G D mc ms Q)))))))) (ix_aload 0 (ix_getR 11 7 (ix_aload 0 (ix_getR 11 6 (ix_vcall 6 2 0 0 mc ms (sp_X6_copyFrom G) ((B_X11_mean_89 l G D mc ms Q)))))))))
theorem b_X11_mean_72 {l : Launch} {G : GT} {D mc ms : Nat} {Q : Post} : Imp l G M_X11_mean (D + 7) mc ms Q (B_X11_mean_72 l G D mc ms Q) 72 := sx_iload dX11_mean_72 (sx_iload_n dX11_mean_74 rfl (sx_icmp_ge 127 dX11_mean_75 (by decide) (sx_aload_n dX11_mean_127 rfl (sx_iload dX11_mean_128 (sx_i2l dX11_mean_130 (sx_iload_n dX11_mean_131 rfl (sx_i2l dX11_mean_132 (sx_vcall dX11_mean_133 cf_X11_tellFraction (mg_6 (List.mem_of_getElem? (i := 33) rfl) rfl) (mg_6 (List.mem_of_getElem? (i := 35) rfl) rfl) (mg_p (List.mem_of_getElem? (i := 35) rfl) rfl) rfl c_X11_tellFraction (b_X11_mean_136))))))) (sx_aload_n dX11_mean_78 rfl (sx_getR dX11_mean_79 fl_FootQuarrel_50 (fun _ _ _ => rfl) (sx_aload_n dX11_mean_82 rfl (sx_getR dX11_mean_83 fl_FootQuarrel_46 (fun _ _ _ => rfl) (sx_vcall dX11_mean_86 cf_X6_copyFrom (mg_6 (List.mem_of_getElem? (i := 149) rfl) rfl) (mg_6 (List.mem_of_getElem? (i := 150) rfl) rfl) (mg_6 (List.mem_of_getElem? (i := 151) rfl) rfl) rfl c_X6_copyFrom (b_X11_mean_89))))))))
def B_X11_mean_65 (l : Launch) (G : GT) (D mc ms : Nat) (Q : Post) : Cn := ix_zret mc ms Q
theorem b_X11_mean_65 {l : Launch} {G : GT} {D mc ms : Nat} {Q : Post} : Imp l G M_X11_mean (D + 7) mc ms Q (B_X11_mean_65 l G D mc ms Q) 65 := sx_zret dX11_mean_65 rfl
def B_X11_mean_45 (l : Launch) (G : GT) (D mc ms : Nat) (Q : Post) : Cn := ix_zret mc ms Q
theorem b_X11_mean_45 {l : Launch} {G : GT} {D mc ms : Nat} {Q : Post} : Imp l G M_X11_mean (D + 7) mc ms Q (B_X11_mean_45 l G D mc ms Q) 45 := sx_zret dX11_mean_45 rfl
def B_X11_mean_40 (l : Launch) (G : GT) (D mc ms : Nat) (Q : Post) : Cn := ix_aload 0 (ix_pushI 1 (ix_vcall 11 2 0 0 mc ms (sp_X11_deny G) ((B_X11_mean_45 l G D mc ms Q))))
theorem b_X11_mean_40 {l : Launch} {G : GT} {D mc ms : Nat} {Q : Post} : Imp l G M_X11_mean (D + 7) mc ms Q (B_X11_mean_40 l G D mc ms Q) 40 := sx_aload_n dX11_mean_40 rfl (sx_iconst dX11_mean_41 rfl (sx_vcall dX11_mean_42 cf_X11_deny (mg_3 (List.mem_of_getElem? (i := 88) rfl) rfl) (mg_3 (List.mem_of_getElem? (i := 90) rfl) rfl) (mg_p (List.mem_of_getElem? (i := 0) rfl) rfl) rfl c_X11_deny (b_X11_mean_45)))
def B_X11_mean_26 (l : Launch) (G : GT) (D mc ms : Nat) (Q : Post) : Cn := ix_if_eq ((B_X11_mean_40 l G D mc ms Q)) (ix_iload 2 (ix_iload 3 (ix_iadd (ix_pushI 1 (ix_isub (ix_pushI 9999 (ix_icmp_le (ix_aload 0 (ix_getR 11 6 (ix_getR 6 3 (ix_getI 9 9 (ix_if_ne (ix_pushI 0 (ix_istore 4 (ix_pushI 0 (ix_istore 5 (fqAt l G M_X11_mean (D + 7) mc ms Q 72))))) (ix_aload 0 (ix_pushI 6 (ix_vcall 11 2 0 0 mc ms (sp_X11_deny G) ((B_X11_mean_65 l G D mc ms Q)))))))))) ((B_X11_mean_40 l G D mc ms Q)))))))))
theorem b_X11_mean_26 {l : Launch} {G : GT} {D mc ms : Nat} {Q : Post} : Imp l G M_X11_mean (D + 7) mc ms Q (B_X11_mean_26 l G D mc ms Q) 26 := sx_if_eq 40 dX11_mean_26 (by decide) (b_X11_mean_40) (sx_iload_n dX11_mean_29 rfl (sx_iload_n dX11_mean_30 rfl (sx_iadd dX11_mean_31 (sx_iconst dX11_mean_32 rfl (sx_isub dX11_mean_33 (sx_sipush dX11_mean_34 rfl (sx_icmp_le 46 dX11_mean_37 (by decide) (sx_aload_n dX11_mean_46 rfl (sx_getR dX11_mean_47 fl_FootQuarrel_46 (fun _ _ _ => rfl) (sx_getR dX11_mean_50 fl_FootQuarrel_147 (fun _ _ _ => rfl) (sx_getI dX11_mean_53 fl_FootQuarrel_406 (fun _ _ _ => rfl) (sx_if_ne 66 dX11_mean_56 (by decide) (sx_iconst dX11_mean_66 rfl (sx_istore dX11_mean_67 (by decide) (sx_iconst dX11_mean_69 rfl (sx_istore dX11_mean_70 (by decide) ((fun _ _ _ _ _ _ _ _ h => h)))))) (sx_aload_n dX11_mean_59 rfl (sx_bipush dX11_mean_60 rfl (sx_vcall dX11_mean_62 cf_X11_deny (mg_3 (List.mem_of_getElem? (i := 88) rfl) rfl) (mg_3 (List.mem_of_getElem? (i := 90) rfl) rfl) (mg_p (List.mem_of_getElem? (i := 0) rfl) rfl) rfl c_X11_deny (b_X11_mean_65))))))))) (b_X11_mean_40))))))))
def B_X11_mean_16 (l : Launch) (G : GT) (D mc ms : Nat) (Q : Post) : Cn := ix_if_eq ((B_X11_mean_40 l G D mc ms Q)) (ix_iload 3 (ix_pushI 1 (ix_pushI 20 (ix_call 3 0 0 mc ms (sp_X11_isWithin G) ((B_X11_mean_26 l G D mc ms Q))))))
theorem b_X11_mean_16 {l : Launch} {G : GT} {D mc ms : Nat} {Q : Post} : Imp l G M_X11_mean (D + 7) mc ms Q (B_X11_mean_16 l G D mc ms Q) 16 := sx_if_eq 40 dX11_mean_16 (by decide) (b_X11_mean_40) (sx_iload_n dX11_mean_19 rfl (sx_iconst dX11_mean_20 rfl (sx_bipush dX11_mean_21 rfl (sx_scall dX11_mean_23 cf_X11_isWithin (mg_3 (List.mem_of_getElem? (i := 85) rfl) rfl) (mg_3 (List.mem_of_getElem? (i := 86) rfl) rfl) c_X11_isWithin (b_X11_mean_26)))))
def B_X11_mean_5 (l : Launch) (G : GT) (D mc ms : Nat) (Q : Post) : Cn := ix_if_eq ((B_X11_mean_40 l G D mc ms Q)) (ix_iload 2 (ix_pushI 0 (ix_pushI 9999 (ix_call 3 0 0 mc ms (sp_X11_isWithin G) ((B_X11_mean_16 l G D mc ms Q))))))
theorem b_X11_mean_5 {l : Launch} {G : GT} {D mc ms : Nat} {Q : Post} : Imp l G M_X11_mean (D + 7) mc ms Q (B_X11_mean_5 l G D mc ms Q) 5 := sx_if_eq 40 dX11_mean_5 (by decide) (b_X11_mean_40) (sx_iload_n dX11_mean_8 rfl (sx_iconst dX11_mean_9 rfl (sx_sipush dX11_mean_10 rfl (sx_scall dX11_mean_13 cf_X11_isWithin (mg_3 (List.mem_of_getElem? (i := 85) rfl) rfl) (mg_3 (List.mem_of_getElem? (i := 86) rfl) rfl) c_X11_isWithin (b_X11_mean_16)))))
def B_X11_mean_0 (l : Launch) (G : GT) (D mc ms : Nat) (Q : Post) : Cn := ix_aload 0 (ix_iload 1 (ix_vcall 11 2 0 0 mc ms (sp_X11_isHouse G) ((B_X11_mean_5 l G D mc ms Q))))
theorem b_X11_mean_0 {l : Launch} {G : GT} {D mc ms : Nat} {Q : Post} : Imp l G M_X11_mean (D + 7) mc ms Q (B_X11_mean_0 l G D mc ms Q) 0 := sx_aload_n dX11_mean_0 rfl (sx_iload_n dX11_mean_1 rfl (sx_vcall dX11_mean_2 cf_X11_isHouse (mg_4 (List.mem_of_getElem? (i := 178) rfl) rfl) (mg_4 (List.mem_of_getElem? (i := 180) rfl) rfl) (mg_p (List.mem_of_getElem? (i := 24) rfl) rfl) rfl c_X11_isHouse (b_X11_mean_5)))
def sp_X11_mean (G : GT) : Sp := fun as S I J z Q => match as with
  | [.ref a, .int h, .int sd, .int m] => ∃ (X s p : Nat), X = a ∧ cpS S X s p ∧ okN (I s 5) 6 ∧ (¬ mnC (I s 5) h sd m → Q (some (.int 0)) S (u2 I X 10 1) J z) ∧ (mnC (I s 5) h sd m → (I (s + 4) 9 = 0 ∧ Q (some (.int 0)) S (u2 I X 10 6) J z) ∨ (I (s + 4) 9 = 1 ∧ ∀ j d c, h = nI j → sd = nI d → m = nI c → j < (I s 5).toNatClampNeg → d + c ≤ 10000 → 1 ≤ c → c ≤ 20 → ∃ (A : Nat → Int32) (N : Nat) (Lr : Nat → Int32), svR I s A N ∧ okL Lr ∧ ∀ w I' J', w = mnW N A j c d Lr → w ≤ 12000 → mtF X p I I' J J' → I' X 10 = 0 → bqS I' p → J' X 13 = lN w / cdv 100 (lN w) (lN c) → J' X 14 = lN c / cdv 100 (lN w) (lN c) → Q (some (.int 1)) S I' J' z))
  | _ => False
set_option maxHeartbeats 4000000 in
set_option maxRecDepth 20000 in
theorem c_X11_mean {l : Launch} {G : GT} {D : Nat} : ∀ as S I J z Q, sp_X11_mean G as S I J z Q → fqCall l G M_X11_mean (D + 7) 0 0 as S I J z Q := by
  intro as S I J z Q h
  unfold sp_X11_mean at h
  split at h
  · next a h sd m =>
    obtain ⟨X, s, p, rfl, hc, o5, hQ1, hQ2⟩ := h
    have hc0 := hc
    obtain ⟨a1, a2, ⟨b1, b2, b3, b4, b5, b6, b7⟩, ⟨-, -, -, -, -, -, t1, t2, t3, t4⟩, -, f1, f2, g⟩ := hc
    have k0 := a1.1
    obtain ⟨c0, hc6, ec, ec2⟩ := o5.ex
    have lp := le_p (x := h) (c := c0) (by omega)
    by_cases h0 : mnC (I s 5) h sd m
    · have hQ3 := hQ2 h0
      obtain ⟨h1, h2, h3, h4⟩ := h0
      rw [ec] at h1
      obtain ⟨j, rfl, hj⟩ := (in_c (by omega)).mp h1
      obtain ⟨d, hd9, rfl⟩ := nI_of (Int32.not_lt.mpr h2.1)
      have hd : d ≤ 9999 := (nI_leI (a := d) (b := 9999) hd9 (by decide)).mp h2.2
      have hm0 : ¬ m < 0 := Int32.not_lt.mpr (Int32.le_trans (by decide : (0 : Int32) ≤ 1) h3.1)
      obtain ⟨c, hc9, rfl⟩ := nI_of hm0
      have hc : c ≤ 20 := (nI_leI (a := c) (b := 20) hc9 (by decide)).mp h3.2
      have hc1 : 1 ≤ c := (nI_leI (a := 1) (b := c) (by decide) hc9).mp h3.1
      have h4' := h4
      rw [nI_add] at h4'
      obtain ⟨c', rfl⟩ : ∃ c', c = c' + 1 := ⟨c - 1, by omega⟩
      rw [← Nat.add_assoc, nI_pred] at h4'
      have hdc : d + c' ≤ 9999 := (nI_leI (a := d + c') (b := 9999) (by omega) (by decide)).mp h4'
      have d1 : ¬ bI ((0 : Int32) ≤ nI j ∧ nI j < nI c0) = 0 := by rw [bI_t h1]; decide
      have d2 : ¬ bI ((0 : Int32) ≤ nI d ∧ nI d ≤ 9999) = 0 := by rw [bI_t h2]; decide
      have d3 : ¬ bI ((1 : Int32) ≤ nI (c' + 1) ∧ nI (c' + 1) ≤ 20) = 0 := by rw [bI_t h3]; decide
      have hD : p + 52 ≤ s ∨ s + 52 ≤ p := by omega
      have ent : (I (s + 4) 9 = 0 → Q (some (.int 0)) S (u2 I X 10 6) J z) → (¬ I (s + 4) 9 = 0 → fqAt l G M_X11_mean (D + 7) 0 0 Q 72 [some (.ref X), some (.int (nI j)), some (.int (nI d)), some (.int (nI (c' + 1))), some (.int 0), some (.int 0)] [] S I J z 0 0) → B_X11_mean_0 l G D 0 0 Q [some (.ref X), some (.int (nI j)), some (.int (nI d)), some (.int (nI (c' + 1))), none, none] [] S I J z 0 0 := by
        intro e1 e2
        simp only [B_X11_mean_0, B_X11_mean_5, B_X11_mean_16, B_X11_mean_26, B_X11_mean_65, sp_X11_isHouse, B_X11_isHouse_0, sp_X11_isWithin, sp_X11_deny, B_X11_deny_0, k0, b6, f1.k, f1.r3, f1.k4, ec, lp, d1, d2, d3, h4, fq_10, fq_01, fq_rr, ix_aald, ix_aast, ix_abs, ix_alen, ix_aload, ix_aret, ix_astore, ix_bald, ix_bast, ix_call, ix_cpyI, ix_cpyJ, ix_dead, ix_dup2, ix_dup2L, ix_dupI, ix_dupR, ix_dupx1, ix_getI, ix_getJ, ix_getR, ix_gfm, ix_gtab, ix_i2b, ix_i2c, ix_i2l, ix_i2s, ix_iadd, ix_iald, ix_iand, ix_iast, ix_icall, ix_icmp_eq, ix_icmp_ge, ix_icmp_gt, ix_icmp_le, ix_icmp_lt, ix_icmp_ne, ix_idiv, ix_if_eq, ix_if_ge, ix_if_gt, ix_if_le, ix_if_lt, ix_if_ne, ix_iinc, ix_iload, ix_imul, ix_ineg, ix_ior, ix_irem, ix_iret, ix_ishl, ix_ishr, ix_istore, ix_isub, ix_iushr, ix_ixor, ix_l2i, ix_ladd, ix_lald, ix_land, ix_last, ix_lcmp, ix_ldcS, ix_ldiv, ix_lload, ix_lmul, ix_lor, ix_lrem, ix_lret, ix_lshl, ix_lstore, ix_lsub, ix_lsw, ix_max, ix_min, ix_new, ix_newa, ix_nret, ix_oinit, ix_pop2L, ix_popI, ix_pushI, ix_pushL, ix_putI, ix_putJ, ix_putR, ix_putZ, ix_sbald, ix_sgetC, ix_sgetV, ix_slen, ix_strc, ix_tald, ix_tsw, ix_vcall, ix_vret, ix_zret, stL, stL2, kilL, popN, fq_sw, fq_lsw, List.map_cons, List.map_nil, List.getElem?_cons_zero, List.getElem?_cons_succ, Option.toList_some, Option.toList_none, List.cons_append, List.nil_append, List.length_cons, List.length_nil, List.sum_cons, List.sum_nil, cat_i, cat_l, cat_r, true_and, and_true, Nat.zero_add, Nat.add_zero, Nat.le_refl, Nat.zero_le, Nat.reduceAdd, Nat.reduceLeDiff, exists_eq_left', Option.some.injEq, not_true_eq_false, not_false_eq_true, false_implies, true_implies, implies_true, and_self, or_true, true_or, or_false, false_or]
        exact ⟨bI_t h1, e2, e1⟩
      refine fq_enter [some (.ref X), some (.int (nI j)), some (.int (nI d)), some (.int (nI (c' + 1))), none, none] (by decide +kernel) (Nat.le_of_ble_eq_true rfl) rfl (b_X11_mean_0 _ _ _ _ _ _ _ _ ?_)
      rcases hQ3 with ⟨h9, hq⟩ | ⟨h9, hq⟩
      · exact ent (fun _ => hq) (fun q => absurd h9 q)
      · refine ent (fun q => absurd (q.symm.trans h9) (by decide)) (fun _ => ?_)
        obtain ⟨A, N, Lr, hv, hLr, hq⟩ := hq j d (c' + 1) rfl rfl rfl (by omega) (by omega) (by omega) hc
        have hw := hv.2.1
        have hy := hv.2.2.2.1
        have e0 : I s 5 = A 0 := hv.1.2.1.1
        have hjA : j < (A 0).toNatClampNeg := by rw [← e0, ec2]; exact hj
        have hN6 := hy.1
        have hW := mnS_W hw hy hjA (c' + 1) d Lr 0 hLr (by omega) (by omega)
        have lpp : ∀ (n i x : Nat) (I1 : IH) (J1 : JH) (L : Nat → Int32), i + n = c' + 1 → okL L → (∀ a, a ≠ X + 172 → a ≠ X + 173 → ¬ (p ≤ a ∧ a < p + 52) → I1 a = I a) → (∀ a, ¬ (p ≤ a ∧ a < p + 52) → J1 a = J a) → (1 ≤ i → bqS I1 p) → x + mnW N A j n (d + i) L = mnW N A j (c' + 1) d Lr → x ≤ 600 * i → fqAt l G M_X11_mean (D + 7) 0 0 Q 72 [some (.ref X), some (.int (nI j)), some (.int (nI d)), some (.int (nI (c' + 1))), some (.int (nI x)), some (.int (nI i))] [] S I1 J1 z 0 0 := by
          intro n
          induction n with
          | zero =>
            intro i x I1 J1 L hi hL f1 f2 hb hx hx6
            have hx : x = mnW N A j (c' + 1) d Lr := hx
            have gp : 0 < Nat.gcd x (c' + 1) := Nat.gcd_pos_of_pos_right _ (by omega)
            have gl : Nat.gcd x (c' + 1) ≤ c' + 1 := Nat.le_of_dvd (by omega) (Nat.gcd_dvd_right _ _)
            have cd := cdv_g (r := x) (d := c' + 1) (by omega) (by omega)
            have cn : ¬ cdv 100 (lN x) (lN (c' + 1)) = 0 := by
              rw [cd]
              intro q
              have := (pk_lEQ (a := Nat.gcd x (c' + 1)) (b := 0) (by omega) (by decide)).mp q
              omega
            have l1 : (nI x).toInt64 = lN x := nI_l (by omega)
            have l2 : (nI (c' + 1)).toInt64 = lN (c' + 1) := nI_l (by omega)
            refine b_X11_mean_72 _ _ _ _ _ _ _ _ ?_
            simp (disch := omega) only [B_X11_mean_72, B_X11_mean_136, B_X11_mean_140, sp_X11_tellFraction, sp_X11_grant, B_X11_grant_0, k0, l1, l2, cn, nI_1, nI_add, nI_clamp, nI_pin, nI_neg, nI_nonneg, nI_leE, nI_ltE, nI_eqE, Nat.not_le, Nat.not_lt, fq_10, fq_01, fq_rr, ix_aald, ix_aast, ix_abs, ix_alen, ix_aload, ix_aret, ix_astore, ix_bald, ix_bast, ix_call, ix_cpyI, ix_cpyJ, ix_dead, ix_dup2, ix_dup2L, ix_dupI, ix_dupR, ix_dupx1, ix_getI, ix_getJ, ix_getR, ix_gfm, ix_gtab, ix_i2b, ix_i2c, ix_i2l, ix_i2s, ix_iadd, ix_iald, ix_iand, ix_iast, ix_icall, ix_icmp_eq, ix_icmp_ge, ix_icmp_gt, ix_icmp_le, ix_icmp_lt, ix_icmp_ne, ix_idiv, ix_if_eq, ix_if_ge, ix_if_gt, ix_if_le, ix_if_lt, ix_if_ne, ix_iinc, ix_iload, ix_imul, ix_ineg, ix_ior, ix_irem, ix_iret, ix_ishl, ix_ishr, ix_istore, ix_isub, ix_iushr, ix_ixor, ix_l2i, ix_ladd, ix_lald, ix_land, ix_last, ix_lcmp, ix_ldcS, ix_ldiv, ix_lload, ix_lmul, ix_lor, ix_lrem, ix_lret, ix_lshl, ix_lstore, ix_lsub, ix_lsw, ix_max, ix_min, ix_new, ix_newa, ix_nret, ix_oinit, ix_pop2L, ix_popI, ix_pushI, ix_pushL, ix_putI, ix_putJ, ix_putR, ix_putZ, ix_sbald, ix_sgetC, ix_sgetV, ix_slen, ix_strc, ix_tald, ix_tsw, ix_vcall, ix_vret, ix_zret, stL, stL2, kilL, popN, fq_sw, fq_lsw, List.map_cons, List.map_nil, List.getElem?_cons_zero, List.getElem?_cons_succ, Option.toList_some, Option.toList_none, List.cons_append, List.nil_append, List.length_cons, List.length_nil, List.sum_cons, List.sum_nil, cat_i, cat_l, cat_r, true_and, and_true, Nat.zero_add, Nat.add_zero, Nat.le_refl, Nat.zero_le, Nat.reduceAdd, Nat.reduceLeDiff, exists_eq_left', Option.some.injEq, not_true_eq_false, not_false_eq_true, false_implies, true_implies, implies_true, and_self, or_true, true_or, or_false, false_or]
            refine ⟨fun _ => ?_, fun q => absurd q (by omega)⟩
            refine hq x _ _ hx (by omega) ⟨fun a q1 q2 q3 q4 => by rw [u2_ne q1]; exact f1 a q2 q3 q4, fun k q1 => by rw [u2_ck _ _ _ _ _ _ q1, f1 X (by omega) (by omega) (by omega)], fun a q1 q2 => by rw [u2_ne q1, u2_ne q1]; exact f2 a q2, fun k q1 q2 => by rw [u2_ck _ _ _ _ _ _ q2, u2_ck _ _ _ _ _ _ q1, f2 X (by omega)]⟩ (u2_same _ _ _ _) ((hb (by omega)).ou (by omega)) ?_ (u2_same _ _ _ _)
            rw [u2_ck _ _ _ _ _ _ (by omega), u2_same]
          | succ n ih =>
            intro i x I1 J1 L hi hL g1 g2 hb hx hx6
            rw [mnW_1] at hx
            obtain ⟨v1, v2, v3, v4⟩ := lvR_ok (N := N) 302 (A, d + i, fun _ => 0, 0, L) 0 hw hy hL (by show d + i < 65536; omega) (by show 0 ≤ 300; omega)
            have hv1 : svR I1 s A N := hv.nx (fun a q1 q2 => g1 a (by omega) (by omega) (by omega)) (hv.1.mv (fun a q1 q2 _ => g1 a (by omega) (by omega) (by omega))) (hv.2.2.1.mv (fun k hk => by rw [g1 _ (by omega) (by omega) (by omega)])) hw (fun _ _ => rfl)
            refine b_X11_mean_72 _ _ _ _ _ _ _ _ ?_
            simp (disch := omega) only [B_X11_mean_72, k0, b6, b7, f2.k, nI_1, nI_add, nI_clamp, nI_pin, nI_neg, nI_nonneg, nI_leE, nI_ltE, nI_eqE, Nat.not_le, Nat.not_lt, fq_10, fq_01, fq_rr, ix_aald, ix_aast, ix_abs, ix_alen, ix_aload, ix_aret, ix_astore, ix_bald, ix_bast, ix_call, ix_cpyI, ix_cpyJ, ix_dead, ix_dup2, ix_dup2L, ix_dupI, ix_dupR, ix_dupx1, ix_getI, ix_getJ, ix_getR, ix_gfm, ix_gtab, ix_i2b, ix_i2c, ix_i2l, ix_i2s, ix_iadd, ix_iald, ix_iand, ix_iast, ix_icall, ix_icmp_eq, ix_icmp_ge, ix_icmp_gt, ix_icmp_le, ix_icmp_lt, ix_icmp_ne, ix_idiv, ix_if_eq, ix_if_ge, ix_if_gt, ix_if_le, ix_if_lt, ix_if_ne, ix_iinc, ix_iload, ix_imul, ix_ineg, ix_ior, ix_irem, ix_iret, ix_ishl, ix_ishr, ix_istore, ix_isub, ix_iushr, ix_ixor, ix_l2i, ix_ladd, ix_lald, ix_land, ix_last, ix_lcmp, ix_ldcS, ix_ldiv, ix_lload, ix_lmul, ix_lor, ix_lrem, ix_lret, ix_lshl, ix_lstore, ix_lsub, ix_lsw, ix_max, ix_min, ix_new, ix_newa, ix_nret, ix_oinit, ix_pop2L, ix_popI, ix_pushI, ix_pushL, ix_putI, ix_putJ, ix_putR, ix_putZ, ix_sbald, ix_sgetC, ix_sgetV, ix_slen, ix_strc, ix_tald, ix_tsw, ix_vcall, ix_vret, ix_zret, stL, stL2, kilL, popN, fq_sw, fq_lsw, List.map_cons, List.map_nil, List.getElem?_cons_zero, List.getElem?_cons_succ, Option.toList_some, Option.toList_none, List.cons_append, List.nil_append, List.length_cons, List.length_nil, List.sum_cons, List.sum_nil, cat_i, cat_l, cat_r, true_and, and_true, Nat.zero_add, Nat.add_zero, Nat.le_refl, Nat.zero_le, Nat.reduceAdd, Nat.reduceLeDiff, exists_eq_left', Option.some.injEq, not_true_eq_false, not_false_eq_true, false_implies, true_implies, implies_true, and_self, or_true, true_or, or_false, false_or]
            refine ⟨fun q => absurd q (by omega), fun _ => ?_⟩
            refine ⟨p, s, N, rfl, rfl, f2, f1, hD, hv1.2.2.2.2.1, hN6, Or.inr ?_, ?_, hv1.2.2.1, fun I2 J2 hs2 => ?_⟩
            · rw [g1 _ (by omega) (by omega) (by omega)]
              exact h9
            · rw [hv1.1.2.1.2.2.2.2.2.2.2.1]
              exact hw.2.2.2.2.2.2.2.1
            simp (disch := omega) only [B_X11_mean_89, k0, b5, b7, t1, nI_1, nI_add, nI_clamp, nI_pin, nI_neg, nI_nonneg, nI_leE, nI_ltE, nI_eqE, Nat.not_le, Nat.not_lt, fq_10, fq_01, fq_rr, ix_aald, ix_aast, ix_abs, ix_alen, ix_aload, ix_aret, ix_astore, ix_bald, ix_bast, ix_call, ix_cpyI, ix_cpyJ, ix_dead, ix_dup2, ix_dup2L, ix_dupI, ix_dupR, ix_dupx1, ix_getI, ix_getJ, ix_getR, ix_gfm, ix_gtab, ix_i2b, ix_i2c, ix_i2l, ix_i2s, ix_iadd, ix_iald, ix_iand, ix_iast, ix_icall, ix_icmp_eq, ix_icmp_ge, ix_icmp_gt, ix_icmp_le, ix_icmp_lt, ix_icmp_ne, ix_idiv, ix_if_eq, ix_if_ge, ix_if_gt, ix_if_le, ix_if_lt, ix_if_ne, ix_iinc, ix_iload, ix_imul, ix_ineg, ix_ior, ix_irem, ix_iret, ix_ishl, ix_ishr, ix_istore, ix_isub, ix_iushr, ix_ixor, ix_l2i, ix_ladd, ix_lald, ix_land, ix_last, ix_lcmp, ix_ldcS, ix_ldiv, ix_lload, ix_lmul, ix_lor, ix_lrem, ix_lret, ix_lshl, ix_lstore, ix_lsub, ix_lsw, ix_max, ix_min, ix_new, ix_newa, ix_nret, ix_oinit, ix_pop2L, ix_popI, ix_pushI, ix_pushL, ix_putI, ix_putJ, ix_putR, ix_putZ, ix_sbald, ix_sgetC, ix_sgetV, ix_slen, ix_strc, ix_tald, ix_tsw, ix_vcall, ix_vret, ix_zret, stL, stL2, kilL, popN, fq_sw, fq_lsw, List.map_cons, List.map_nil, List.getElem?_cons_zero, List.getElem?_cons_succ, Option.toList_some, Option.toList_none, List.cons_append, List.nil_append, List.length_cons, List.length_nil, List.sum_cons, List.sum_nil, cat_i, cat_l, cat_r, true_and, and_true, Nat.zero_add, Nat.add_zero, Nat.le_refl, Nat.zero_le, Nat.reduceAdd, Nat.reduceLeDiff, exists_eq_left', Option.some.injEq, not_true_eq_false, not_false_eq_true, false_implies, true_implies, implies_true, and_self, or_true, true_or, or_false, false_or]
            refine ⟨X + 172, p, A, N, d + i, L, rfl, rfl, rfl, by omega, ⟨t1, t2, t3, t4, f2, by omega⟩, hv1.cp hs2, hL, fun I3 J3 hF3 hP3 => ?_⟩
            generalize hx3 : lvR N 302 (A, d + i, fun _ => 0, 0, L) 0 = x3 at *
            have hv3 := hP3.1
            have e30 : x3.1 0 = A 0 := v2 0 (by omega)
            have hw3 := (hv3.1.H (i := j) (by rw [e30]; exact hjA)).1
            obtain ⟨y, hy6, ey, ey2⟩ := (v1.2.2.2.2.2.2.2.2.2.1 j (by rw [e30]; exact hjA)).1.ex
            rw [ey] at hw3
            rw [ey2] at hx
            simp (disch := omega) only [B_X11_mean_104, k0, b7, hw3, f2.k, f2.r0, f2.k1, f2.r1, f2.k2, f2.r2, f2.k3, f2.r3, f2.k4, f2.r4, f2.k12, f2.n1, f2.n2, f2.n3, f2.y0, f2.k5, f2.n5, f2.y1, f2.k6, f2.n6, f2.y2, f2.k7, f2.n7, f2.y3, f2.k8, f2.n8, f2.y4, f2.k9, f2.n9, f2.y5, f2.k10, f2.n10, f2.y6, f2.k11, f2.n11, f2.p0, f2.p1, f2.p2, f2.k13, f2.n13, f2.q0, f2.q1, f2.k14, f2.k15, f2.k16, f2.n16, f2.k17, f2.n17, f2.rH, f2.kH, f2.rP, f2.kP, f2.rQ, f2.kQ, nI_1, nI_add, nI_clamp, nI_pin, nI_neg, nI_nonneg, nI_leE, nI_ltE, nI_eqE, Nat.not_le, Nat.not_lt, fq_10, fq_01, fq_rr, ix_aald, ix_aast, ix_abs, ix_alen, ix_aload, ix_aret, ix_astore, ix_bald, ix_bast, ix_call, ix_cpyI, ix_cpyJ, ix_dead, ix_dup2, ix_dup2L, ix_dupI, ix_dupR, ix_dupx1, ix_getI, ix_getJ, ix_getR, ix_gfm, ix_gtab, ix_i2b, ix_i2c, ix_i2l, ix_i2s, ix_iadd, ix_iald, ix_iand, ix_iast, ix_icall, ix_icmp_eq, ix_icmp_ge, ix_icmp_gt, ix_icmp_le, ix_icmp_lt, ix_icmp_ne, ix_idiv, ix_if_eq, ix_if_ge, ix_if_gt, ix_if_le, ix_if_lt, ix_if_ne, ix_iinc, ix_iload, ix_imul, ix_ineg, ix_ior, ix_irem, ix_iret, ix_ishl, ix_ishr, ix_istore, ix_isub, ix_iushr, ix_ixor, ix_l2i, ix_ladd, ix_lald, ix_land, ix_last, ix_lcmp, ix_ldcS, ix_ldiv, ix_lload, ix_lmul, ix_lor, ix_lrem, ix_lret, ix_lshl, ix_lstore, ix_lsub, ix_lsw, ix_max, ix_min, ix_new, ix_newa, ix_nret, ix_oinit, ix_pop2L, ix_popI, ix_pushI, ix_pushL, ix_putI, ix_putJ, ix_putR, ix_putZ, ix_sbald, ix_sgetC, ix_sgetV, ix_slen, ix_strc, ix_tald, ix_tsw, ix_vcall, ix_vret, ix_zret, stL, stL2, kilL, popN, fq_sw, fq_lsw, List.map_cons, List.map_nil, List.getElem?_cons_zero, List.getElem?_cons_succ, Option.toList_some, Option.toList_none, List.cons_append, List.nil_append, List.length_cons, List.length_nil, List.sum_cons, List.sum_nil, cat_i, cat_l, cat_r, true_and, and_true, Nat.zero_add, Nat.add_zero, Nat.le_refl, Nat.zero_le, Nat.reduceAdd, Nat.reduceLeDiff, exists_eq_left', Option.some.injEq, not_true_eq_false, not_false_eq_true, false_implies, true_implies, implies_true, and_self, or_true, true_or, or_false, false_or]
            refine ih (i + 1) (x + y) I3 J3 x3.2.2.2.2 (by omega) v3 (fun a q1 q2 q3 => ?_) (fun a q1 => ?_) (fun _ => hv3.2.2.1) (by rw [← hx, ← Nat.add_assoc d i 1]; omega) (by omega)
            · rw [hF3.1 a q1 q2 q3, hs2.1 a q3]
              exact g1 a q1 q2 q3
            · rw [hF3.2.2 a (by omega), hs2.2.2.2.2.2.2.2.1 a q1]
              exact g2 a q1
        have := lpp (c' + 1) 0 0 I J Lr (by omega) hLr (fun _ _ _ _ => rfl) (fun _ _ => rfl) (fun q => absurd q (by omega)) (by rw [Nat.zero_add]; rfl) (by omega)
        exact this
    · have hq := hQ1 h0
      refine fq_enter [some (.ref X), some (.int h), some (.int sd), some (.int m), none, none] (by decide +kernel) (Nat.le_of_ble_eq_true rfl) rfl (b_X11_mean_0 _ _ _ _ _ _ _ _ ?_)
      simp (disch := omega) only [B_X11_mean_0, B_X11_mean_5, B_X11_mean_16, B_X11_mean_26, B_X11_mean_40, B_X11_mean_45, sp_X11_isHouse, B_X11_isHouse_0, sp_X11_isWithin, sp_X11_deny, B_X11_deny_0, k0, b6, f1.k, ec, lp, bI_01, bI_01b, bI_0, nI_1, nI_add, nI_clamp, nI_pin, nI_neg, nI_nonneg, nI_leE, nI_ltE, nI_eqE, Nat.not_le, Nat.not_lt, fq_10, fq_01, fq_rr, ix_aald, ix_aast, ix_abs, ix_alen, ix_aload, ix_aret, ix_astore, ix_bald, ix_bast, ix_call, ix_cpyI, ix_cpyJ, ix_dead, ix_dup2, ix_dup2L, ix_dupI, ix_dupR, ix_dupx1, ix_getI, ix_getJ, ix_getR, ix_gfm, ix_gtab, ix_i2b, ix_i2c, ix_i2l, ix_i2s, ix_iadd, ix_iald, ix_iand, ix_iast, ix_icall, ix_icmp_eq, ix_icmp_ge, ix_icmp_gt, ix_icmp_le, ix_icmp_lt, ix_icmp_ne, ix_idiv, ix_if_eq, ix_if_ge, ix_if_gt, ix_if_le, ix_if_lt, ix_if_ne, ix_iinc, ix_iload, ix_imul, ix_ineg, ix_ior, ix_irem, ix_iret, ix_ishl, ix_ishr, ix_istore, ix_isub, ix_iushr, ix_ixor, ix_l2i, ix_ladd, ix_lald, ix_land, ix_last, ix_lcmp, ix_ldcS, ix_ldiv, ix_lload, ix_lmul, ix_lor, ix_lrem, ix_lret, ix_lshl, ix_lstore, ix_lsub, ix_lsw, ix_max, ix_min, ix_new, ix_newa, ix_nret, ix_oinit, ix_pop2L, ix_popI, ix_pushI, ix_pushL, ix_putI, ix_putJ, ix_putR, ix_putZ, ix_sbald, ix_sgetC, ix_sgetV, ix_slen, ix_strc, ix_tald, ix_tsw, ix_vcall, ix_vret, ix_zret, stL, stL2, kilL, popN, fq_sw, fq_lsw, List.map_cons, List.map_nil, List.getElem?_cons_zero, List.getElem?_cons_succ, Option.toList_some, Option.toList_none, List.cons_append, List.nil_append, List.length_cons, List.length_nil, List.sum_cons, List.sum_nil, cat_i, cat_l, cat_r, true_and, and_true, Nat.zero_add, Nat.add_zero, Nat.le_refl, Nat.zero_le, Nat.reduceAdd, Nat.reduceLeDiff, exists_eq_left', Option.some.injEq, not_true_eq_false, not_false_eq_true, false_implies, true_implies, implies_true, and_self, or_true, true_or, or_false, false_or]
      rw [ec] at h0
      exact ⟨fun _ => hq, fun a => ⟨fun _ => hq, fun b => ⟨fun _ => hq, fun c => ⟨fun e => absurd ⟨Decidable.not_not.mp a, Decidable.not_not.mp b, Decidable.not_not.mp c, e⟩ h0, fun _ => hq⟩⟩⟩⟩
  · exact h.elim
