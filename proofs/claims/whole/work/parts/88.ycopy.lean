/-! years copied -/
theorem dX9_copyFrom_0 : decode cX9_copyFrom 0 = .ok (.aload_n 0, 1) := by decide +kernel
theorem dX9_copyFrom_1 : decode cX9_copyFrom 1 = .ok (.aload_n 1, 1) := by decide +kernel
theorem dX9_copyFrom_2 : decode cX9_copyFrom 2 = .ok (.getfield 31, 3) := by decide +kernel
theorem dX9_copyFrom_5 : decode cX9_copyFrom 5 = .ok (.putfield 31, 3) := by decide +kernel
theorem dX9_copyFrom_8 : decode cX9_copyFrom 8 = .ok (.aload_n 0, 1) := by decide +kernel
theorem dX9_copyFrom_9 : decode cX9_copyFrom 9 = .ok (.aload_n 1, 1) := by decide +kernel
theorem dX9_copyFrom_10 : decode cX9_copyFrom 10 = .ok (.getfield 35, 3) := by decide +kernel
theorem dX9_copyFrom_13 : decode cX9_copyFrom 13 = .ok (.putfield 35, 3) := by decide +kernel
theorem dX9_copyFrom_16 : decode cX9_copyFrom 16 = .ok (.aload_n 0, 1) := by decide +kernel
theorem dX9_copyFrom_17 : decode cX9_copyFrom 17 = .ok (.aload_n 1, 1) := by decide +kernel
theorem dX9_copyFrom_18 : decode cX9_copyFrom 18 = .ok (.getfield 38, 3) := by decide +kernel
theorem dX9_copyFrom_21 : decode cX9_copyFrom 21 = .ok (.putfield 38, 3) := by decide +kernel
theorem dX9_copyFrom_24 : decode cX9_copyFrom 24 = .ok (.aload_n 1, 1) := by decide +kernel
theorem dX9_copyFrom_25 : decode cX9_copyFrom 25 = .ok (.getfield 9, 3) := by decide +kernel
theorem dX9_copyFrom_28 : decode cX9_copyFrom 28 = .ok (.iconst 0, 1) := by decide +kernel
theorem dX9_copyFrom_29 : decode cX9_copyFrom 29 = .ok (.aload_n 0, 1) := by decide +kernel
theorem dX9_copyFrom_30 : decode cX9_copyFrom 30 = .ok (.getfield 9, 3) := by decide +kernel
theorem dX9_copyFrom_33 : decode cX9_copyFrom 33 = .ok (.iconst 0, 1) := by decide +kernel
theorem dX9_copyFrom_34 : decode cX9_copyFrom 34 = .ok (.aload_n 0, 1) := by decide +kernel
theorem dX9_copyFrom_35 : decode cX9_copyFrom 35 = .ok (.getfield 31, 3) := by decide +kernel
theorem dX9_copyFrom_38 : decode cX9_copyFrom 38 = .ok (.invokestatic 42, 3) := by decide +kernel
theorem dX9_copyFrom_41 : decode cX9_copyFrom 41 = .ok (.aload_n 1, 1) := by decide +kernel
theorem dX9_copyFrom_42 : decode cX9_copyFrom 42 = .ok (.getfield 13, 3) := by decide +kernel
theorem dX9_copyFrom_45 : decode cX9_copyFrom 45 = .ok (.iconst 0, 1) := by decide +kernel
theorem dX9_copyFrom_46 : decode cX9_copyFrom 46 = .ok (.aload_n 0, 1) := by decide +kernel
theorem dX9_copyFrom_47 : decode cX9_copyFrom 47 = .ok (.getfield 13, 3) := by decide +kernel
theorem dX9_copyFrom_50 : decode cX9_copyFrom 50 = .ok (.iconst 0, 1) := by decide +kernel
theorem dX9_copyFrom_51 : decode cX9_copyFrom 51 = .ok (.aload_n 0, 1) := by decide +kernel
theorem dX9_copyFrom_52 : decode cX9_copyFrom 52 = .ok (.getfield 31, 3) := by decide +kernel
theorem dX9_copyFrom_55 : decode cX9_copyFrom 55 = .ok (.invokestatic 42, 3) := by decide +kernel
theorem dX9_copyFrom_58 : decode cX9_copyFrom 58 = .ok (.aload_n 1, 1) := by decide +kernel
theorem dX9_copyFrom_59 : decode cX9_copyFrom 59 = .ok (.getfield 16, 3) := by decide +kernel
theorem dX9_copyFrom_62 : decode cX9_copyFrom 62 = .ok (.iconst 0, 1) := by decide +kernel
theorem dX9_copyFrom_63 : decode cX9_copyFrom 63 = .ok (.aload_n 0, 1) := by decide +kernel
theorem dX9_copyFrom_64 : decode cX9_copyFrom 64 = .ok (.getfield 16, 3) := by decide +kernel
theorem dX9_copyFrom_67 : decode cX9_copyFrom 67 = .ok (.iconst 0, 1) := by decide +kernel
theorem dX9_copyFrom_68 : decode cX9_copyFrom 68 = .ok (.aload_n 0, 1) := by decide +kernel
theorem dX9_copyFrom_69 : decode cX9_copyFrom 69 = .ok (.getfield 31, 3) := by decide +kernel
theorem dX9_copyFrom_72 : decode cX9_copyFrom 72 = .ok (.invokestatic 42, 3) := by decide +kernel
theorem dX9_copyFrom_75 : decode cX9_copyFrom 75 = .ok (.aload_n 1, 1) := by decide +kernel
theorem dX9_copyFrom_76 : decode cX9_copyFrom 76 = .ok (.getfield 19, 3) := by decide +kernel
theorem dX9_copyFrom_79 : decode cX9_copyFrom 79 = .ok (.iconst 0, 1) := by decide +kernel
theorem dX9_copyFrom_80 : decode cX9_copyFrom 80 = .ok (.aload_n 0, 1) := by decide +kernel
theorem dX9_copyFrom_81 : decode cX9_copyFrom 81 = .ok (.getfield 19, 3) := by decide +kernel
theorem dX9_copyFrom_84 : decode cX9_copyFrom 84 = .ok (.iconst 0, 1) := by decide +kernel
theorem dX9_copyFrom_85 : decode cX9_copyFrom 85 = .ok (.aload_n 0, 1) := by decide +kernel
theorem dX9_copyFrom_86 : decode cX9_copyFrom 86 = .ok (.getfield 31, 3) := by decide +kernel
theorem dX9_copyFrom_89 : decode cX9_copyFrom 89 = .ok (.invokestatic 42, 3) := by decide +kernel
theorem dX9_copyFrom_92 : decode cX9_copyFrom 92 = .ok (.aload_n 1, 1) := by decide +kernel
theorem dX9_copyFrom_93 : decode cX9_copyFrom 93 = .ok (.getfield 22, 3) := by decide +kernel
theorem dX9_copyFrom_96 : decode cX9_copyFrom 96 = .ok (.iconst 0, 1) := by decide +kernel
theorem dX9_copyFrom_97 : decode cX9_copyFrom 97 = .ok (.aload_n 0, 1) := by decide +kernel
theorem dX9_copyFrom_98 : decode cX9_copyFrom 98 = .ok (.getfield 22, 3) := by decide +kernel
theorem dX9_copyFrom_101 : decode cX9_copyFrom 101 = .ok (.iconst 0, 1) := by decide +kernel
theorem dX9_copyFrom_102 : decode cX9_copyFrom 102 = .ok (.aload_n 0, 1) := by decide +kernel
theorem dX9_copyFrom_103 : decode cX9_copyFrom 103 = .ok (.getfield 31, 3) := by decide +kernel
theorem dX9_copyFrom_106 : decode cX9_copyFrom 106 = .ok (.invokestatic 42, 3) := by decide +kernel
theorem dX9_copyFrom_109 : decode cX9_copyFrom 109 = .ok (.aload_n 1, 1) := by decide +kernel
theorem dX9_copyFrom_110 : decode cX9_copyFrom 110 = .ok (.getfield 25, 3) := by decide +kernel
theorem dX9_copyFrom_113 : decode cX9_copyFrom 113 = .ok (.iconst 0, 1) := by decide +kernel
theorem dX9_copyFrom_114 : decode cX9_copyFrom 114 = .ok (.aload_n 0, 1) := by decide +kernel
theorem dX9_copyFrom_115 : decode cX9_copyFrom 115 = .ok (.getfield 25, 3) := by decide +kernel
theorem dX9_copyFrom_118 : decode cX9_copyFrom 118 = .ok (.iconst 0, 1) := by decide +kernel
theorem dX9_copyFrom_119 : decode cX9_copyFrom 119 = .ok (.aload_n 0, 1) := by decide +kernel
theorem dX9_copyFrom_120 : decode cX9_copyFrom 120 = .ok (.getfield 31, 3) := by decide +kernel
theorem dX9_copyFrom_123 : decode cX9_copyFrom 123 = .ok (.invokestatic 42, 3) := by decide +kernel
theorem dX9_copyFrom_126 : decode cX9_copyFrom 126 = .ok (.aload_n 1, 1) := by decide +kernel
theorem dX9_copyFrom_127 : decode cX9_copyFrom 127 = .ok (.getfield 28, 3) := by decide +kernel
theorem dX9_copyFrom_130 : decode cX9_copyFrom 130 = .ok (.iconst 0, 1) := by decide +kernel
theorem dX9_copyFrom_131 : decode cX9_copyFrom 131 = .ok (.aload_n 0, 1) := by decide +kernel
theorem dX9_copyFrom_132 : decode cX9_copyFrom 132 = .ok (.getfield 28, 3) := by decide +kernel
theorem dX9_copyFrom_135 : decode cX9_copyFrom 135 = .ok (.iconst 0, 1) := by decide +kernel
theorem dX9_copyFrom_136 : decode cX9_copyFrom 136 = .ok (.aload_n 0, 1) := by decide +kernel
theorem dX9_copyFrom_137 : decode cX9_copyFrom 137 = .ok (.getfield 31, 3) := by decide +kernel
theorem dX9_copyFrom_140 : decode cX9_copyFrom 140 = .ok (.invokestatic 42, 3) := by decide +kernel
theorem dX9_copyFrom_143 : decode cX9_copyFrom 143 = .ok (.return_, 1) := by decide +kernel
abbrev M_X9_copyFrom : MT := (yX9_copyFrom, cX9_copyFrom, 2, none)
theorem cf_X9_copyFrom : fq_cf M_X9_copyFrom 1 := ⟨(mg_1 (List.mem_of_getElem? (i := 9) rfl) rfl), (mg_4 (List.mem_of_getElem? (i := 153) rfl) rfl), ⟨by decide, by decide, by decide +kernel⟩, by decide⟩
def B_X9_copyFrom_0 (G : GT) (mc ms : Nat) (Q : Post) : Cn := ix_aload 0 (ix_aload 1 (ix_getI 9 7 (ix_putI 9 7 (ix_aload 0 (ix_aload 1 (ix_getI 9 8 (ix_putI 9 8 (ix_aload 0 (ix_aload 1 (ix_getI 9 9 (ix_putZ 9 9 (ix_aload 1 (ix_getR 9 0 (ix_pushI 0 (ix_aload 0 (ix_getR 9 0 (ix_pushI 0 (ix_aload 0 (ix_getI 9 7 (ix_cpyI (ix_aload 1 (ix_getR 9 1 (ix_pushI 0 (ix_aload 0 (ix_getR 9 1 (ix_pushI 0 (ix_aload 0 (ix_getI 9 7 (ix_cpyI (ix_aload 1 (ix_getR 9 2 (ix_pushI 0 (ix_aload 0 (ix_getR 9 2 (ix_pushI 0 (ix_aload 0 (ix_getI 9 7 (ix_cpyI (ix_aload 1 (ix_getR 9 3 (ix_pushI 0 (ix_aload 0 (ix_getR 9 3 (ix_pushI 0 (ix_aload 0 (ix_getI 9 7 (ix_cpyI (ix_aload 1 (ix_getR 9 4 (ix_pushI 0 (ix_aload 0 (ix_getR 9 4 (ix_pushI 0 (ix_aload 0 (ix_getI 9 7 (ix_cpyI (ix_aload 1 (ix_getR 9 5 (ix_pushI 0 (ix_aload 0 (ix_getR 9 5 (ix_pushI 0 (ix_aload 0 (ix_getI 9 7 (ix_cpyI (ix_aload 1 (ix_getR 9 6 (ix_pushI 0 (ix_aload 0 (ix_getR 9 6 (ix_pushI 0 (ix_aload 0 (ix_getI 9 7 (ix_cpyI (ix_vret mc ms Q)))))))))))))))))))))))))))))))))))))))))))))))))))))))))))))))))))))))))))
theorem b_X9_copyFrom_0 {l : Launch} {G : GT} {D mc ms : Nat} {Q : Post} : Imp l G M_X9_copyFrom (D + 1) mc ms Q (B_X9_copyFrom_0 G mc ms Q) 0 := sx_aload_n dX9_copyFrom_0 rfl (sx_aload_n dX9_copyFrom_1 rfl (sx_getI dX9_copyFrom_2 fl_FootQuarrel_Years_31 (fun _ _ _ => rfl) (sx_putI dX9_copyFrom_5 fl_FootQuarrel_Years_31 (by decide) (fun _ _ _ => rfl) (fun _ => ⟨rfl, rfl⟩) (sx_aload_n dX9_copyFrom_8 rfl (sx_aload_n dX9_copyFrom_9 rfl (sx_getI dX9_copyFrom_10 fl_FootQuarrel_Years_35 (fun _ _ _ => rfl) (sx_putI dX9_copyFrom_13 fl_FootQuarrel_Years_35 (by decide) (fun _ _ _ => rfl) (fun _ => ⟨rfl, rfl⟩) (sx_aload_n dX9_copyFrom_16 rfl (sx_aload_n dX9_copyFrom_17 rfl (sx_getI dX9_copyFrom_18 fl_FootQuarrel_Years_38 (fun _ _ _ => rfl) (sx_putZ dX9_copyFrom_21 fl_FootQuarrel_Years_38 (by decide) (fun _ _ _ => rfl) (fun v h => by rcases h with h | h <;> subst h <;> exact ⟨rfl, rfl⟩) (sx_aload_n dX9_copyFrom_24 rfl (sx_getR dX9_copyFrom_25 fl_FootQuarrel_Years_9 (fun _ _ _ => rfl) (sx_iconst dX9_copyFrom_28 rfl (sx_aload_n dX9_copyFrom_29 rfl (sx_getR dX9_copyFrom_30 fl_FootQuarrel_Years_9 (fun _ _ _ => rfl) (sx_iconst dX9_copyFrom_33 rfl (sx_aload_n dX9_copyFrom_34 rfl (sx_getI dX9_copyFrom_35 fl_FootQuarrel_Years_31 (fun _ _ _ => rfl) (sx_cpyI dX9_copyFrom_38 (mg_4 (List.mem_of_getElem? (i := 154) rfl) rfl) (mg_3 (List.mem_of_getElem? (i := 134) rfl) rfl) (mg_3 (List.mem_of_getElem? (i := 133) rfl) rfl) (mg_1 (List.mem_of_getElem? (i := 16) rfl) rfl) (sx_aload_n dX9_copyFrom_41 rfl (sx_getR dX9_copyFrom_42 fl_FootQuarrel_Years_13 (fun _ _ _ => rfl) (sx_iconst dX9_copyFrom_45 rfl (sx_aload_n dX9_copyFrom_46 rfl (sx_getR dX9_copyFrom_47 fl_FootQuarrel_Years_13 (fun _ _ _ => rfl) (sx_iconst dX9_copyFrom_50 rfl (sx_aload_n dX9_copyFrom_51 rfl (sx_getI dX9_copyFrom_52 fl_FootQuarrel_Years_31 (fun _ _ _ => rfl) (sx_cpyI dX9_copyFrom_55 (mg_4 (List.mem_of_getElem? (i := 154) rfl) rfl) (mg_3 (List.mem_of_getElem? (i := 134) rfl) rfl) (mg_3 (List.mem_of_getElem? (i := 133) rfl) rfl) (mg_1 (List.mem_of_getElem? (i := 16) rfl) rfl) (sx_aload_n dX9_copyFrom_58 rfl (sx_getR dX9_copyFrom_59 fl_FootQuarrel_Years_16 (fun _ _ _ => rfl) (sx_iconst dX9_copyFrom_62 rfl (sx_aload_n dX9_copyFrom_63 rfl (sx_getR dX9_copyFrom_64 fl_FootQuarrel_Years_16 (fun _ _ _ => rfl) (sx_iconst dX9_copyFrom_67 rfl (sx_aload_n dX9_copyFrom_68 rfl (sx_getI dX9_copyFrom_69 fl_FootQuarrel_Years_31 (fun _ _ _ => rfl) (sx_cpyI dX9_copyFrom_72 (mg_4 (List.mem_of_getElem? (i := 154) rfl) rfl) (mg_3 (List.mem_of_getElem? (i := 134) rfl) rfl) (mg_3 (List.mem_of_getElem? (i := 133) rfl) rfl) (mg_1 (List.mem_of_getElem? (i := 16) rfl) rfl) (sx_aload_n dX9_copyFrom_75 rfl (sx_getR dX9_copyFrom_76 fl_FootQuarrel_Years_19 (fun _ _ _ => rfl) (sx_iconst dX9_copyFrom_79 rfl (sx_aload_n dX9_copyFrom_80 rfl (sx_getR dX9_copyFrom_81 fl_FootQuarrel_Years_19 (fun _ _ _ => rfl) (sx_iconst dX9_copyFrom_84 rfl (sx_aload_n dX9_copyFrom_85 rfl (sx_getI dX9_copyFrom_86 fl_FootQuarrel_Years_31 (fun _ _ _ => rfl) (sx_cpyI dX9_copyFrom_89 (mg_4 (List.mem_of_getElem? (i := 154) rfl) rfl) (mg_3 (List.mem_of_getElem? (i := 134) rfl) rfl) (mg_3 (List.mem_of_getElem? (i := 133) rfl) rfl) (mg_1 (List.mem_of_getElem? (i := 16) rfl) rfl) (sx_aload_n dX9_copyFrom_92 rfl (sx_getR dX9_copyFrom_93 fl_FootQuarrel_Years_22 (fun _ _ _ => rfl) (sx_iconst dX9_copyFrom_96 rfl (sx_aload_n dX9_copyFrom_97 rfl (sx_getR dX9_copyFrom_98 fl_FootQuarrel_Years_22 (fun _ _ _ => rfl) (sx_iconst dX9_copyFrom_101 rfl (sx_aload_n dX9_copyFrom_102 rfl (sx_getI dX9_copyFrom_103 fl_FootQuarrel_Years_31 (fun _ _ _ => rfl) (sx_cpyI dX9_copyFrom_106 (mg_4 (List.mem_of_getElem? (i := 154) rfl) rfl) (mg_3 (List.mem_of_getElem? (i := 134) rfl) rfl) (mg_3 (List.mem_of_getElem? (i := 133) rfl) rfl) (mg_1 (List.mem_of_getElem? (i := 16) rfl) rfl) (sx_aload_n dX9_copyFrom_109 rfl (sx_getR dX9_copyFrom_110 fl_FootQuarrel_Years_25 (fun _ _ _ => rfl) (sx_iconst dX9_copyFrom_113 rfl (sx_aload_n dX9_copyFrom_114 rfl (sx_getR dX9_copyFrom_115 fl_FootQuarrel_Years_25 (fun _ _ _ => rfl) (sx_iconst dX9_copyFrom_118 rfl (sx_aload_n dX9_copyFrom_119 rfl (sx_getI dX9_copyFrom_120 fl_FootQuarrel_Years_31 (fun _ _ _ => rfl) (sx_cpyI dX9_copyFrom_123 (mg_4 (List.mem_of_getElem? (i := 154) rfl) rfl) (mg_3 (List.mem_of_getElem? (i := 134) rfl) rfl) (mg_3 (List.mem_of_getElem? (i := 133) rfl) rfl) (mg_1 (List.mem_of_getElem? (i := 16) rfl) rfl) (sx_aload_n dX9_copyFrom_126 rfl (sx_getR dX9_copyFrom_127 fl_FootQuarrel_Years_28 (fun _ _ _ => rfl) (sx_iconst dX9_copyFrom_130 rfl (sx_aload_n dX9_copyFrom_131 rfl (sx_getR dX9_copyFrom_132 fl_FootQuarrel_Years_28 (fun _ _ _ => rfl) (sx_iconst dX9_copyFrom_135 rfl (sx_aload_n dX9_copyFrom_136 rfl (sx_getI dX9_copyFrom_137 fl_FootQuarrel_Years_31 (fun _ _ _ => rfl) (sx_cpyI dX9_copyFrom_140 (mg_4 (List.mem_of_getElem? (i := 154) rfl) rfl) (mg_3 (List.mem_of_getElem? (i := 134) rfl) rfl) (mg_3 (List.mem_of_getElem? (i := 133) rfl) rfl) (mg_1 (List.mem_of_getElem? (i := 16) rfl) rfl) (sx_vret dX9_copyFrom_143 rfl)))))))))))))))))))))))))))))))))))))))))))))))))))))))))))))))))))))))))))
/-- years of the class at b copied to those at a -/
def yC (I : IH) (a b m : Nat) : IH := fun q k => if q = a ∧ 7 ≤ k ∧ k ≤ 9 then I b k else if a + 1 ≤ q ∧ q ≤ a + 7 ∧ k < m then I (b + (q - a)) k else I q k
def sp_X9_copyFrom (G : GT) : Sp := fun as S I J z Q => match as with
  | [.ref a, .ref b] => ∃ (s p m : Nat), s + 4 = a ∧ p + 4 = b ∧ stS S s ∧ stS S p ∧ (s + 52 ≤ p ∨ p + 52 ≤ s) ∧ I (p + 4) 7 = nI m ∧ m ≤ 60 ∧ (I (p + 4) 9 = 0 ∨ I (p + 4) 9 = 1) ∧ Q none S (yC I (s + 4) (p + 4) m) J z
  | _ => False
theorem yC_a {I : IH} {s p m j q : Nat} (h1 : 1 ≤ j) (h7 : j ≤ 7) (hq : q = s + 4 + j) : yC I (s + 4) (p + 4) m q = va_cpy (I (p + 4 + j)) (I q) 0 0 m := by
  funext k
  subst hq
  unfold yC va_cpy
  rw [if_neg (by omega)]
  by_cases hk : k < m
  · rw [if_pos (by omega), if_pos (by omega), show p + 4 + (s + 4 + j - (s + 4)) = p + 4 + j by omega, show 0 + (k - 0) = k by omega]
  · rw [if_neg (by omega), if_neg (by omega)]
theorem yC_o {I : IH} {a b m q : Nat} (h : q < a ∨ a + 7 < q) : yC I a b m q = I q := by
  funext k
  unfold yC
  rw [if_neg (by omega), if_neg (by omega)]
set_option maxHeartbeats 4000000 in
set_option maxRecDepth 20000 in
theorem c_X9_copyFrom {l : Launch} {G : GT} {D : Nat} : ∀ as S I J z Q, sp_X9_copyFrom G as S I J z Q → fqCall l G M_X9_copyFrom (D + 1) 0 0 as S I J z Q := by
  intro as S I J z Q h
  unfold sp_X9_copyFrom at h
  split at h
  · next a b =>
    obtain ⟨s, p, m, rfl, rfl, hs, hp, l1, hm, hm6, h9, hQ⟩ := h
    refine fq_enter [some (.ref (s + 4)), some (.ref (p + 4))] (by decide +kernel) (Nat.le_of_ble_eq_true rfl) rfl (b_X9_copyFrom_0 _ _ _ _ _ _ _ _ ?_)
    simp (disch := omega) only [B_X9_copyFrom_0, hm, h9, u2_same, u2_ck, u2_ca, u2_ne, up1_ne, up1_eq, tn0, vin0, Nat.not_lt_zero, hs.k, hs.r0, hs.k1, hs.r1, hs.k2, hs.r2, hs.k3, hs.r3, hs.k4, hs.r4, hs.k12, hs.n1, hs.n2, hs.n3, hs.y0, hs.k5, hs.n5, hs.y1, hs.k6, hs.n6, hs.y2, hs.k7, hs.n7, hs.y3, hs.k8, hs.n8, hs.y4, hs.k9, hs.n9, hs.y5, hs.k10, hs.n10, hs.y6, hs.k11, hs.n11, hs.p0, hs.p1, hs.p2, hs.k13, hs.n13, hs.q0, hs.q1, hs.k14, hs.k15, hs.k16, hs.n16, hs.k17, hs.n17, hs.rH, hs.kH, hs.rP, hs.kP, hs.rQ, hs.kQ, hp.k, hp.r0, hp.k1, hp.r1, hp.k2, hp.r2, hp.k3, hp.r3, hp.k4, hp.r4, hp.k12, hp.n1, hp.n2, hp.n3, hp.y0, hp.k5, hp.n5, hp.y1, hp.k6, hp.n6, hp.y2, hp.k7, hp.n7, hp.y3, hp.k8, hp.n8, hp.y4, hp.k9, hp.n9, hp.y5, hp.k10, hp.n10, hp.y6, hp.k11, hp.n11, hp.p0, hp.p1, hp.p2, hp.k13, hp.n13, hp.q0, hp.q1, hp.k14, hp.k15, hp.k16, hp.n16, hp.k17, hp.n17, hp.rH, hp.kH, hp.rP, hp.kP, hp.rQ, hp.kQ, nI_1, nI_add, nI_clamp, nI_pin, nI_neg, nI_nonneg, nI_leE, nI_ltE, nI_eqE, Nat.not_le, Nat.not_lt, fq_10, fq_01, fq_rr, ix_aald, ix_aast, ix_abs, ix_alen, ix_aload, ix_aret, ix_astore, ix_bald, ix_bast, ix_call, ix_cpyI, ix_cpyJ, ix_dead, ix_dup2, ix_dup2L, ix_dupI, ix_dupR, ix_dupx1, ix_getI, ix_getJ, ix_getR, ix_gfm, ix_gtab, ix_i2b, ix_i2c, ix_i2l, ix_i2s, ix_iadd, ix_iald, ix_iand, ix_iast, ix_icall, ix_icmp_eq, ix_icmp_ge, ix_icmp_gt, ix_icmp_le, ix_icmp_lt, ix_icmp_ne, ix_idiv, ix_if_eq, ix_if_ge, ix_if_gt, ix_if_le, ix_if_lt, ix_if_ne, ix_iinc, ix_iload, ix_imul, ix_ineg, ix_ior, ix_irem, ix_iret, ix_ishl, ix_ishr, ix_istore, ix_isub, ix_iushr, ix_ixor, ix_l2i, ix_ladd, ix_lald, ix_land, ix_last, ix_lcmp, ix_ldcS, ix_ldiv, ix_lload, ix_lmul, ix_lor, ix_lrem, ix_lret, ix_lshl, ix_lstore, ix_lsub, ix_lsw, ix_max, ix_min, ix_new, ix_newa, ix_nret, ix_oinit, ix_pop2L, ix_popI, ix_pushI, ix_pushL, ix_putI, ix_putJ, ix_putR, ix_putZ, ix_sbald, ix_sgetC, ix_sgetV, ix_slen, ix_strc, ix_tald, ix_tsw, ix_vcall, ix_vret, ix_zret, stL, stL2, kilL, popN, fq_sw, fq_lsw, List.map_cons, List.map_nil, List.getElem?_cons_zero, List.getElem?_cons_succ, Option.toList_some, Option.toList_none, List.cons_append, List.nil_append, List.length_cons, List.length_nil, List.sum_cons, List.sum_nil, cat_i, cat_l, cat_r, true_and, and_true, Nat.zero_add, Nat.add_zero, Nat.le_refl, Nat.zero_le, Nat.reduceAdd, Nat.reduceLeDiff, exists_eq_left', Option.some.injEq, not_true_eq_false, not_false_eq_true, false_implies, true_implies, implies_true, and_self, or_true, true_or, or_false, false_or]
    have z0 : ¬ (0 : Int32) < 0 := by decide
    simp only [z0, hm6, not_false_eq_true, true_and]
    refine Eq.mp (congrArg (fun W => Q none S W J z) ?_) hQ
    funext q
    rcases (show q = s + 4 ∨ q = s + 5 ∨ q = s + 6 ∨ q = s + 7 ∨ q = s + 8 ∨ q = s + 9 ∨ q = s + 10 ∨ q = s + 11 ∨ (q < s + 4 ∨ s + 4 + 7 < q) by omega) with rfl | rfl | rfl | rfl | rfl | rfl | rfl | rfl | hq
    · simp (disch := omega) only [up1_ne]
      funext k
      unfold yC u2
      rcases (show k = 7 ∨ k = 8 ∨ k = 9 ∨ (k < 7 ∨ 9 < k) by omega) with rfl | rfl | rfl | hk
      · simp [hm]
      · simp
      · simp
      · rw [if_neg (by omega), if_neg (by omega), if_neg (by omega), if_neg (by omega), if_neg (by omega)]
    · simp (disch := omega) only [up1_ne, up1_eq, yC_a (j := 1)]
    · simp (disch := omega) only [up1_ne, up1_eq, yC_a (j := 2)]
    · simp (disch := omega) only [up1_ne, up1_eq, yC_a (j := 3)]
    · simp (disch := omega) only [up1_ne, up1_eq, yC_a (j := 4)]
    · simp (disch := omega) only [up1_ne, up1_eq, yC_a (j := 5)]
    · simp (disch := omega) only [up1_ne, up1_eq, yC_a (j := 6)]
    · simp (disch := omega) only [up1_ne, up1_eq, yC_a (j := 7)]
    · rw [yC_o hq]
      simp (disch := omega) only [up1_ne, u2_ne]
  · exact h.elim
/-- the years of a street against a row of the reference -/
def yrR (I : IH) (s : Nat) (A : Nat → Int32) : Prop := (A 11 = -1 ∧ I (s + 4) 9 = 0 ∧ I (s + 4) 7 = 0) ∨ ∃ m, A 11 = nI m ∧ m ≤ 60 ∧ I (s + 4) 9 = 1 ∧ I (s + 4) 7 = nI m ∧ ∀ i, i < m → rowA I s i (fun j => A (226 + 6 * i + j)) ∧ prtR I s i (fun j => A (226 + 6 * i + j))
theorem dX10_init_0 : decode cX10_init 0 = .ok (.aload_n 0, 1) := by decide +kernel
theorem dX10_init_1 : decode cX10_init 1 = .ok (.invokespecial 3, 3) := by decide +kernel
theorem dX10_init_4 : decode cX10_init 4 = .ok (.aload_n 0, 1) := by decide +kernel
theorem dX10_init_5 : decode cX10_init 5 = .ok (.iconst 3, 1) := by decide +kernel
theorem dX10_init_6 : decode cX10_init 6 = .ok (.newarray .int, 2) := by decide +kernel
theorem dX10_init_8 : decode cX10_init 8 = .ok (.putfield 11, 3) := by decide +kernel
theorem dX10_init_11 : decode cX10_init 11 = .ok (.aload_n 0, 1) := by decide +kernel
theorem dX10_init_12 : decode cX10_init 12 = .ok (.aload_n 1, 1) := by decide +kernel
theorem dX10_init_13 : decode cX10_init 13 = .ok (.putfield 15, 3) := by decide +kernel
theorem dX10_init_16 : decode cX10_init 16 = .ok (.aload_n 0, 1) := by decide +kernel
theorem dX10_init_17 : decode cX10_init 17 = .ok (.aload_n 2, 1) := by decide +kernel
theorem dX10_init_18 : decode cX10_init 18 = .ok (.putfield 19, 3) := by decide +kernel
theorem dX10_init_21 : decode cX10_init 21 = .ok (.aload_n 0, 1) := by decide +kernel
theorem dX10_init_22 : decode cX10_init 22 = .ok (.aload_n 3, 1) := by decide +kernel
theorem dX10_init_23 : decode cX10_init 23 = .ok (.putfield 23, 3) := by decide +kernel
theorem dX10_init_26 : decode cX10_init 26 = .ok (.return_, 1) := by decide +kernel
abbrev M_X10_init : MT := (yX10_init, cX10_init, 4, none)
theorem cf_X10_init : fq_cf M_X10_init 3 := ⟨(mg_1 (List.mem_of_getElem? (i := 19) rfl) rfl), (mg_4 (List.mem_of_getElem? (i := 84) rfl) rfl), ⟨by decide, by decide, by decide +kernel⟩, by decide⟩
def B_X10_init_0 (G : GT) (mc ms : Nat) (Q : Post) : Cn := ix_aload 0 (ix_oinit (ix_aload 0 (ix_pushI 3 (ix_newa 14 mc ms (ix_putR 10 3 (ix_aload 0 (ix_aload 1 (ix_putR 10 0 (ix_aload 0 (ix_aload 2 (ix_putR 10 1 (ix_aload 0 (ix_aload 3 (ix_putR 10 2 (ix_vret mc ms Q)))))))))))))))
theorem b_X10_init_0 {l : Launch} {G : GT} {D mc ms : Nat} {Q : Post} : Imp l G M_X10_init (D + 1) mc ms Q (B_X10_init_0 G mc ms Q) 0 := sx_aload_n dX10_init_0 rfl (sx_oinit dX10_init_1 (mg_4 (List.mem_of_getElem? (i := 85) rfl) rfl) (mg_1 (List.mem_of_getElem? (i := 27) rfl) rfl) (mg_1 (List.mem_of_getElem? (i := 28) rfl) rfl) (sx_aload_n dX10_init_4 rfl (sx_iconst dX10_init_5 rfl (sx_newa dX10_init_6 rfl (by decide) (by decide) (mg_1 (List.mem_of_getElem? (i := 220) rfl) rfl) (sx_putR dX10_init_8 fl_FootQuarrel_YearsText_11 (fun _ => ⟨rfl, rfl⟩) (by decide) (fun _ _ _ => rfl) (fun _ => ⟨rfl, rfl⟩) (sx_aload_n dX10_init_11 rfl (sx_aload_n dX10_init_12 rfl (sx_putR dX10_init_13 fl_FootQuarrel_YearsText_15 (fun _ => ⟨rfl, rfl⟩) (by decide) (fun _ _ _ => rfl) (fun _ => ⟨rfl, rfl⟩) (sx_aload_n dX10_init_16 rfl (sx_aload_n dX10_init_17 rfl (sx_putR dX10_init_18 fl_FootQuarrel_YearsText_19 (fun _ => ⟨rfl, rfl⟩) (by decide) (fun _ _ _ => rfl) (fun _ => ⟨rfl, rfl⟩) (sx_aload_n dX10_init_21 rfl (sx_aload_n dX10_init_22 rfl (sx_putR dX10_init_23 fl_FootQuarrel_YearsText_23 (fun _ => ⟨rfl, rfl⟩) (by decide) (fun _ _ _ => rfl) (fun _ => ⟨rfl, rfl⟩) (sx_vret dX10_init_26 rfl)))))))))))))))
def sp_X10_init (G : GT) : Sp := fun as S I J z Q => match as with
  | [.ref a0, .ref a1, .ref a2, .ref a3] => B_X10_init_0 G 1 3 Q [some (.ref a0), some (.ref a1), some (.ref a2), some (.ref a3)] [] S I J z 0 0
  | _ => False
theorem c_X10_init {l : Launch} {G : GT} {D : Nat} : ∀ as S I J z Q, sp_X10_init G as S I J z Q → fqCall l G M_X10_init (D + 1) 1 3 as S I J z Q := by
  intro as S I J z Q h
  unfold sp_X10_init at h
  split at h
  · exact fq_enter _ (by decide +kernel) (Nat.le_of_ble_eq_true rfl) rfl (b_X10_init_0 _ _ _ _ _ _ _ _ h)
  · exact h.elim
theorem dX11_years_0 : decode cX11_years 0 = .ok (.iload_n 1, 1) := by decide +kernel
theorem dX11_years_1 : decode cX11_years 1 = .ok (.iconst 0, 1) := by decide +kernel
theorem dX11_years_2 : decode cX11_years 2 = .ok (.aload_n 0, 1) := by decide +kernel
theorem dX11_years_3 : decode cX11_years 3 = .ok (.getfield 121, 3) := by decide +kernel
theorem dX11_years_6 : decode cX11_years 6 = .ok (.invokestatic 74, 3) := by decide +kernel
theorem dX11_years_9 : decode cX11_years 9 = .ok (.ifCond .eq 10, 3) := by decide +kernel
theorem dX11_years_12 : decode cX11_years 12 = .ok (.iload_n 1, 1) := by decide +kernel
theorem dX11_years_13 : decode cX11_years 13 = .ok (.sipush 300, 3) := by decide +kernel
theorem dX11_years_16 : decode cX11_years 16 = .ok (.if_icmp .le 9, 3) := by decide +kernel
theorem dX11_years_19 : decode cX11_years 19 = .ok (.aload_n 0, 1) := by decide +kernel
theorem dX11_years_20 : decode cX11_years 20 = .ok (.iconst 1, 1) := by decide +kernel
theorem dX11_years_21 : decode cX11_years 21 = .ok (.invokevirtual 97, 3) := by decide +kernel
theorem dX11_years_24 : decode cX11_years 24 = .ok (.ireturn, 1) := by decide +kernel
theorem dX11_years_25 : decode cX11_years 25 = .ok (.new 145, 3) := by decide +kernel
theorem dX11_years_28 : decode cX11_years 28 = .ok (.dup, 1) := by decide +kernel
theorem dX11_years_29 : decode cX11_years 29 = .ok (.aload_n 0, 1) := by decide +kernel
theorem dX11_years_30 : decode cX11_years 30 = .ok (.getfield 25, 3) := by decide +kernel
theorem dX11_years_33 : decode cX11_years 33 = .ok (.aload_n 0, 1) := by decide +kernel
theorem dX11_years_34 : decode cX11_years 34 = .ok (.getfield 46, 3) := by decide +kernel
theorem dX11_years_37 : decode cX11_years 37 = .ok (.aload_n 0, 1) := by decide +kernel
theorem dX11_years_38 : decode cX11_years 38 = .ok (.getfield 50, 3) := by decide +kernel
theorem dX11_years_41 : decode cX11_years 41 = .ok (.getfield 147, 3) := by decide +kernel
theorem dX11_years_44 : decode cX11_years 44 = .ok (.invokespecial 151, 3) := by decide +kernel
theorem dX11_years_47 : decode cX11_years 47 = .ok (.astore_n 2, 1) := by decide +kernel
theorem dX11_years_48 : decode cX11_years 48 = .ok (.aload_n 2, 1) := by decide +kernel
theorem dX11_years_49 : decode cX11_years 49 = .ok (.iload_n 1, 1) := by decide +kernel
theorem dX11_years_50 : decode cX11_years 50 = .ok (.invokevirtual 154, 3) := by decide +kernel
theorem dX11_years_53 : decode cX11_years 53 = .ok (.istore_n 3, 1) := by decide +kernel
theorem dX11_years_54 : decode cX11_years 54 = .ok (.aload_n 0, 1) := by decide +kernel
theorem dX11_years_55 : decode cX11_years 55 = .ok (.invokevirtual 136, 3) := by decide +kernel
theorem dX11_years_58 : decode cX11_years 58 = .ok (.iload_n 3, 1) := by decide +kernel
theorem dX11_years_59 : decode cX11_years 59 = .ok (.ifCond .ne 10, 3) := by decide +kernel
theorem dX11_years_62 : decode cX11_years 62 = .ok (.aload_n 0, 1) := by decide +kernel
theorem dX11_years_63 : decode cX11_years 63 = .ok (.bipush 9, 2) := by decide +kernel
theorem dX11_years_65 : decode cX11_years 65 = .ok (.invokevirtual 97, 3) := by decide +kernel
theorem dX11_years_68 : decode cX11_years 68 = .ok (.ireturn, 1) := by decide +kernel
theorem dX11_years_69 : decode cX11_years 69 = .ok (.aload_n 0, 1) := by decide +kernel
theorem dX11_years_70 : decode cX11_years 70 = .ok (.getfield 46, 3) := by decide +kernel
theorem dX11_years_73 : decode cX11_years 73 = .ok (.getfield 147, 3) := by decide +kernel
theorem dX11_years_76 : decode cX11_years 76 = .ok (.aload_n 0, 1) := by decide +kernel
theorem dX11_years_77 : decode cX11_years 77 = .ok (.getfield 50, 3) := by decide +kernel
theorem dX11_years_80 : decode cX11_years 80 = .ok (.getfield 147, 3) := by decide +kernel
theorem dX11_years_83 : decode cX11_years 83 = .ok (.invokevirtual 155, 3) := by decide +kernel
theorem dX11_years_86 : decode cX11_years 86 = .ok (.aload_n 0, 1) := by decide +kernel
theorem dX11_years_87 : decode cX11_years 87 = .ok (.aload_n 0, 1) := by decide +kernel
theorem dX11_years_88 : decode cX11_years 88 = .ok (.getfield 46, 3) := by decide +kernel
theorem dX11_years_91 : decode cX11_years 91 = .ok (.getfield 147, 3) := by decide +kernel
theorem dX11_years_94 : decode cX11_years 94 = .ok (.getfield 161, 3) := by decide +kernel
theorem dX11_years_97 : decode cX11_years 97 = .ok (.invokevirtual 142, 3) := by decide +kernel
theorem dX11_years_100 : decode cX11_years 100 = .ok (.ireturn, 1) := by decide +kernel
abbrev M_X11_years : MT := (yX11_years, cX11_years, 4, (some .int))
theorem cf_X11_years : fq_cf M_X11_years 1 := ⟨(mg_1 (List.mem_of_getElem? (i := 1) rfl) rfl), (mg_4 (List.mem_of_getElem? (i := 79) rfl) rfl), ⟨by decide, by decide, by decide +kernel⟩, by decide⟩
def B_X11_years_100 (G : GT) (mc ms : Nat) (Q : Post) : Cn := ix_iret mc ms Q
theorem b_X11_years_100 {l : Launch} {G : GT} {D mc ms : Nat} {Q : Post} : Imp l G M_X11_years (D + 7) mc ms Q (B_X11_years_100 G mc ms Q) 100 := sx_iret dX11_years_100 rfl
def B_X11_years_86 (G : GT) (mc ms : Nat) (Q : Post) : Cn := ix_aload 0 (ix_aload 0 (ix_getR 11 6 (ix_getR 6 3 (ix_getI 9 8 (ix_vcall 11 2 0 0 mc ms (sp_X11_answer G) ((B_X11_years_100 G mc ms Q)))))))
theorem b_X11_years_86 {l : Launch} {G : GT} {D mc ms : Nat} {Q : Post} : Imp l G M_X11_years (D + 7) mc ms Q (B_X11_years_86 G mc ms Q) 86 := sx_aload_n dX11_years_86 rfl (sx_aload_n dX11_years_87 rfl (sx_getR dX11_years_88 fl_FootQuarrel_46 (fun _ _ _ => rfl) (sx_getR dX11_years_91 fl_FootQuarrel_147 (fun _ _ _ => rfl) (sx_getI dX11_years_94 fl_FootQuarrel_161 (fun _ _ _ => rfl) (sx_vcall dX11_years_97 cf_X11_answer (mg_4 (List.mem_of_getElem? (i := 72) rfl) rfl) (mg_4 (List.mem_of_getElem? (i := 74) rfl) rfl) (mg_p (List.mem_of_getElem? (i := 17) rfl) rfl) rfl c_X11_answer (b_X11_years_100))))))
def B_X11_years_68 (G : GT) (mc ms : Nat) (Q : Post) : Cn := ix_iret mc ms Q
theorem b_X11_years_68 {l : Launch} {G : GT} {D mc ms : Nat} {Q : Post} : Imp l G M_X11_years (D + 7) mc ms Q (B_X11_years_68 G mc ms Q) 68 := sx_iret dX11_years_68 rfl
def B_X11_years_58 (G : GT) (mc ms : Nat) (Q : Post) : Cn := ix_iload 3 (ix_if_ne (ix_aload 0 (ix_getR 11 6 (ix_getR 6 3 (ix_aload 0 (ix_getR 11 7 (ix_getR 6 3 (ix_vcall 9 2 0 0 mc ms (sp_X9_copyFrom G) ((B_X11_years_86 G mc ms Q))))))))) (ix_aload 0 (ix_pushI 9 (ix_vcall 11 2 0 0 mc ms (sp_X11_refuse G) ((B_X11_years_68 G mc ms Q))))))
theorem b_X11_years_58 {l : Launch} {G : GT} {D mc ms : Nat} {Q : Post} : Imp l G M_X11_years (D + 7) mc ms Q (B_X11_years_58 G mc ms Q) 58 := sx_iload_n dX11_years_58 rfl (sx_if_ne 69 dX11_years_59 (by decide) (sx_aload_n dX11_years_69 rfl (sx_getR dX11_years_70 fl_FootQuarrel_46 (fun _ _ _ => rfl) (sx_getR dX11_years_73 fl_FootQuarrel_147 (fun _ _ _ => rfl) (sx_aload_n dX11_years_76 rfl (sx_getR dX11_years_77 fl_FootQuarrel_50 (fun _ _ _ => rfl) (sx_getR dX11_years_80 fl_FootQuarrel_147 (fun _ _ _ => rfl) (sx_vcall dX11_years_83 cf_X9_copyFrom (mg_4 (List.mem_of_getElem? (i := 150) rfl) rfl) (mg_4 (List.mem_of_getElem? (i := 151) rfl) rfl) (mg_4 (List.mem_of_getElem? (i := 152) rfl) rfl) rfl c_X9_copyFrom (b_X11_years_86)))))))) (sx_aload_n dX11_years_62 rfl (sx_bipush dX11_years_63 rfl (sx_vcall dX11_years_65 cf_X11_refuse (mg_3 (List.mem_of_getElem? (i := 120) rfl) rfl) (mg_3 (List.mem_of_getElem? (i := 122) rfl) rfl) (mg_p (List.mem_of_getElem? (i := 3) rfl) rfl) rfl c_X11_refuse (b_X11_years_68)))))
def B_X11_years_53 (G : GT) (mc ms : Nat) (Q : Post) : Cn := ix_istore 3 (ix_aload 0 (ix_vcall 11 1 0 0 mc ms (sp_X11_endText G) ((B_X11_years_58 G mc ms Q))))
theorem b_X11_years_53 {l : Launch} {G : GT} {D mc ms : Nat} {Q : Post} : Imp l G M_X11_years (D + 7) mc ms Q (B_X11_years_53 G mc ms Q) 53 := sx_istore_n dX11_years_53 rfl (by decide) (sx_aload_n dX11_years_54 rfl (sx_vcall dX11_years_55 cf_X11_endText (mg_4 (List.mem_of_getElem? (i := 68) rfl) rfl) (mg_4 (List.mem_of_getElem? (i := 70) rfl) rfl) (mg_p (List.mem_of_getElem? (i := 16) rfl) rfl) rfl c_X11_endText (b_X11_years_58)))
def B_X11_years_47 (G : GT) (mc ms : Nat) (Q : Post) : Cn := ix_astore 2 (ix_aload 2 (ix_iload 1 (ix_vcall 10 2 0 0 mc ms (sp_X10_take G) ((B_X11_years_53 G mc ms Q)))))
theorem b_X11_years_47 {l : Launch} {G : GT} {D mc ms : Nat} {Q : Post} : Imp l G M_X11_years (D + 7) mc ms Q (B_X11_years_47 G mc ms Q) 47 := sx_astore_n dX11_years_47 rfl (by decide) (sx_aload_n dX11_years_48 rfl (sx_iload_n dX11_years_49 rfl (sx_vcall dX11_years_50 cf_X10_take (mg_4 (List.mem_of_getElem? (i := 102) rfl) rfl) (mg_4 (List.mem_of_getElem? (i := 103) rfl) rfl) (mg_4 (List.mem_of_getElem? (i := 104) rfl) rfl) rfl c_X10_take (b_X11_years_53))))
def B_X11_years_24 (G : GT) (mc ms : Nat) (Q : Post) : Cn := ix_iret mc ms Q
theorem b_X11_years_24 {l : Launch} {G : GT} {D mc ms : Nat} {Q : Post} : Imp l G M_X11_years (D + 7) mc ms Q (B_X11_years_24 G mc ms Q) 24 := sx_iret dX11_years_24 rfl
def B_X11_years_19 (G : GT) (mc ms : Nat) (Q : Post) : Cn := ix_aload 0 (ix_pushI 1 (ix_vcall 11 2 0 0 mc ms (sp_X11_refuse G) ((B_X11_years_24 G mc ms Q))))
theorem b_X11_years_19 {l : Launch} {G : GT} {D mc ms : Nat} {Q : Post} : Imp l G M_X11_years (D + 7) mc ms Q (B_X11_years_19 G mc ms Q) 19 := sx_aload_n dX11_years_19 rfl (sx_iconst dX11_years_20 rfl (sx_vcall dX11_years_21 cf_X11_refuse (mg_3 (List.mem_of_getElem? (i := 120) rfl) rfl) (mg_3 (List.mem_of_getElem? (i := 122) rfl) rfl) (mg_p (List.mem_of_getElem? (i := 3) rfl) rfl) rfl c_X11_refuse (b_X11_years_24)))
def B_X11_years_9 (G : GT) (mc ms : Nat) (Q : Post) : Cn := ix_if_eq ((B_X11_years_19 G mc ms Q)) (ix_iload 1 (ix_pushI 300 (ix_icmp_le (ix_new 10 5 mc ms (ix_dupR (ix_aload 0 (ix_getR 11 2 (ix_aload 0 (ix_getR 11 6 (ix_aload 0 (ix_getR 11 7 (ix_getR 6 3 (ix_icall 4 1 3 mc ms (sp_X10_init G) ((B_X11_years_47 G mc ms Q)))))))))))) ((B_X11_years_19 G mc ms Q)))))
theorem b_X11_years_9 {l : Launch} {G : GT} {D mc ms : Nat} {Q : Post} : Imp l G M_X11_years (D + 7) mc ms Q (B_X11_years_9 G mc ms Q) 9 := sx_if_eq 19 dX11_years_9 (by decide) (b_X11_years_19) (sx_iload_n dX11_years_12 rfl (sx_sipush dX11_years_13 rfl (sx_icmp_le 25 dX11_years_16 (by decide) (sx_new dX11_years_25 ck_10 (mg_4 (List.mem_of_getElem? (i := 80) rfl) rfl) (mg_4 (List.mem_of_getElem? (i := 81) rfl) rfl) (mg_1 (List.mem_of_getElem? (i := 19) rfl) rfl) (by decide) (sx_dupR dX11_years_28 (sx_aload_n dX11_years_29 rfl (sx_getR dX11_years_30 fl_FootQuarrel_25 (fun _ _ _ => rfl) (sx_aload_n dX11_years_33 rfl (sx_getR dX11_years_34 fl_FootQuarrel_46 (fun _ _ _ => rfl) (sx_aload_n dX11_years_37 rfl (sx_getR dX11_years_38 fl_FootQuarrel_50 (fun _ _ _ => rfl) (sx_getR dX11_years_41 fl_FootQuarrel_147 (fun _ _ _ => rfl) (sx_icall dX11_years_44 cf_X10_init (mg_4 (List.mem_of_getElem? (i := 82) rfl) rfl) (mg_4 (List.mem_of_getElem? (i := 83) rfl) rfl) rfl c_X10_init (b_X11_years_47))))))))))) (b_X11_years_19))))
def B_X11_years_0 (G : GT) (mc ms : Nat) (Q : Post) : Cn := ix_iload 1 (ix_pushI 0 (ix_aload 0 (ix_getI 11 8 (ix_call 3 0 0 mc ms (sp_X11_isWithin G) ((B_X11_years_9 G mc ms Q))))))
theorem b_X11_years_0 {l : Launch} {G : GT} {D mc ms : Nat} {Q : Post} : Imp l G M_X11_years (D + 7) mc ms Q (B_X11_years_0 G mc ms Q) 0 := sx_iload_n dX11_years_0 rfl (sx_iconst dX11_years_1 rfl (sx_aload_n dX11_years_2 rfl (sx_getI dX11_years_3 fl_FootQuarrel_121 (fun _ _ _ => rfl) (sx_scall dX11_years_6 cf_X11_isWithin (mg_3 (List.mem_of_getElem? (i := 85) rfl) rfl) (mg_3 (List.mem_of_getElem? (i := 86) rfl) rfl) c_X11_isWithin (b_X11_years_9)))))
def cyG (X s p z : Nat) (I I' : IH) (J J' : JH) : Prop := (∀ a, a ≠ X → a ≠ X + 11 → a < z → ¬ (p + 4 ≤ a ∧ a < p + 12) → ¬ (s + 4 ≤ a ∧ a < s + 12) → I' a = I a) ∧ (∀ k, k ≠ 8 → k ≠ 10 → k ≠ 11 → k ≠ 12 → I' X k = I X k) ∧ I' X 8 = 0 ∧ ∀ a, a ≠ X + 11 → a < z → J' a = J a
def cyQ (X s p z : Nat) (S : Sh) (I : IH) (J : JH) (Q : Post) : YR → Prop
  | .inl f => ∀ S' I' J', shK X z S S' → cpS S' X s p → ctG X p z I I' J J' → I' X 11 = f.1 → I' X 12 = nI f.2 → I' X 10 = 9 → Q (some (.int (-1))) S' I' J' (z + 2)
  | .inr y => ∀ S' I' J', shK X z S S' → cpS S' X s p → cyG X s p z I I' J J' → I' X 11 = 0 → I' X 12 = -1 → I' X 10 = 0 → yrR I' s (cpR (uA y.1.1 11 (y.1.1 2387)) 226 2602 360) → Q (some (.int (nI y.2.2.1))) S' I' J' (z + 2)
def sp_X11_years (G : GT) : Sp := fun as S I J z Q => match as with
  | [.ref a, .int b] => ∃ (X s p L : Nat), X = a ∧ cpS S X s p ∧ X + 278 ≤ z ∧ I X 8 = nI L ∧ L ≤ 900 ∧ (¬ (0 ≤ b ∧ b ≤ nI L ∧ b ≤ 300) → Q (some (.int (-1))) S (u2 I X 10 1) J z) ∧ ∀ (n : Nat), b = nI n → n ≤ L → n ≤ 300 → ∃ (T A : Nat → Int32) (N : Nat → Int64) (O : Nat → Int32), rdE S I J X T n ∧ I s 5 = A 0 ∧ I s 6 = A 1 ∧ okN (A 0) 6 ∧ okN (A 1) 8 ∧ nmsR J s N 0 (A 0).toNatClampNeg (A 1).toNatClampNeg ∧ cyQ X s p z S I J Q (yrX1 T n (yrX0 T A N O n))
  | _ => False
set_option maxHeartbeats 4000000 in
set_option maxRecDepth 20000 in
theorem c_X11_years {l : Launch} {G : GT} {D : Nat} : ∀ as S I J z Q, sp_X11_years G as S I J z Q → fqCall l G M_X11_years (D + 7) 2 8 as S I J z Q := by
  intro as S I J z Q h
  unfold sp_X11_years at h
  split at h
  · next a b =>
    obtain ⟨X, s, p, L, rfl, hc, hz, h8, hL, hQ1, hQ2⟩ := h
    have hc0 := hc
    obtain ⟨a1, a2, ⟨b1, b2, b3, b4, b5, b6, b7⟩, -, -, f1, f2, g⟩ := hc
    have k0 := a1.1
    refine fq_enter [some (.ref X), some (.int b), none, none] (by decide +kernel) (Nat.le_of_ble_eq_true rfl) rfl (b_X11_years_0 _ _ _ _ _ _ _ _ ?_)
    simp (disch := omega) only [B_X11_years_0, sp_X11_isWithin, k0, h8, ix_aald, ix_aast, ix_abs, ix_alen, ix_aload, ix_aret, ix_astore, ix_bald, ix_bast, ix_call, ix_cpyI, ix_cpyJ, ix_dead, ix_dup2, ix_dup2L, ix_dupI, ix_dupR, ix_dupx1, ix_getI, ix_getJ, ix_getR, ix_gfm, ix_gtab, ix_i2b, ix_i2c, ix_i2l, ix_i2s, ix_iadd, ix_iald, ix_iand, ix_iast, ix_icall, ix_icmp_eq, ix_icmp_ge, ix_icmp_gt, ix_icmp_le, ix_icmp_lt, ix_icmp_ne, ix_idiv, ix_if_eq, ix_if_ge, ix_if_gt, ix_if_le, ix_if_lt, ix_if_ne, ix_iinc, ix_iload, ix_imul, ix_ineg, ix_ior, ix_irem, ix_iret, ix_ishl, ix_ishr, ix_istore, ix_isub, ix_iushr, ix_ixor, ix_l2i, ix_ladd, ix_lald, ix_land, ix_last, ix_lcmp, ix_ldcS, ix_ldiv, ix_lload, ix_lmul, ix_lor, ix_lrem, ix_lret, ix_lshl, ix_lstore, ix_lsub, ix_lsw, ix_max, ix_min, ix_new, ix_newa, ix_nret, ix_oinit, ix_pop2L, ix_popI, ix_pushI, ix_pushL, ix_putI, ix_putJ, ix_putR, ix_putZ, ix_sbald, ix_sgetC, ix_sgetV, ix_slen, ix_strc, ix_tald, ix_tsw, ix_vcall, ix_vret, ix_zret, stL, stL2, kilL, popN, fq_sw, fq_lsw, List.map_cons, List.map_nil, List.getElem?_cons_zero, List.getElem?_cons_succ, Option.toList_some, Option.toList_none, List.cons_append, List.nil_append, List.length_cons, List.length_nil, List.sum_cons, List.sum_nil, cat_i, cat_l, cat_r, true_and, and_true, Nat.zero_add, Nat.add_zero, Nat.le_refl, Nat.zero_le, Nat.reduceAdd, Nat.reduceLeDiff, exists_eq_left', Option.some.injEq, not_true_eq_false, not_false_eq_true, false_implies, true_implies, implies_true, and_self, or_true, true_or, or_false, false_or]
    by_cases h0 : 0 ≤ b ∧ b ≤ nI L
    · obtain ⟨n, rfl, hn⟩ := rng_n hL h0
      have hb : bI ((0 : Int32) ≤ nI n ∧ nI n ≤ nI L) = 1 := bI_t h0
      generalize bI ((0 : Int32) ≤ nI n ∧ nI n ≤ nI L) = w at hb
      subst hb
      by_cases h3 : n ≤ 300
      · obtain ⟨T, A, N, O, hE, a5, a6, o5, o6, hN, hR⟩ := hQ2 n rfl hn h3
        simp (disch := omega) only [B_X11_years_9, k0, b2, b6, b7, f1.k, f2.k, f1.r3, f2.r3, up1_ne, sp_X10_init, B_X10_init_0, up1_eq, li_300, B_X11_years_47, f2.k, f2.r0, f2.k1, f2.r1, f2.k2, f2.r2, f2.k3, f2.r3, f2.k4, f2.r4, f2.k12, f2.n1, f2.n2, f2.n3, f2.y0, f2.k5, f2.n5, f2.y1, f2.k6, f2.n6, f2.y2, f2.k7, f2.n7, f2.y3, f2.k8, f2.n8, f2.y4, f2.k9, f2.n9, f2.y5, f2.k10, f2.n10, f2.y6, f2.k11, f2.n11, f2.p0, f2.p1, f2.p2, f2.k13, f2.n13, f2.q0, f2.q1, f2.k14, f2.k15, f2.k16, f2.n16, f2.k17, f2.n17, f2.rH, f2.kH, f2.rP, f2.kP, f2.rQ, f2.kQ, nI_1, nI_add, nI_clamp, nI_pin, nI_neg, nI_nonneg, nI_leE, nI_ltE, nI_eqE, Nat.not_le, Nat.not_lt, fq_10, fq_01, fq_rr, ix_aald, ix_aast, ix_abs, ix_alen, ix_aload, ix_aret, ix_astore, ix_bald, ix_bast, ix_call, ix_cpyI, ix_cpyJ, ix_dead, ix_dup2, ix_dup2L, ix_dupI, ix_dupR, ix_dupx1, ix_getI, ix_getJ, ix_getR, ix_gfm, ix_gtab, ix_i2b, ix_i2c, ix_i2l, ix_i2s, ix_iadd, ix_iald, ix_iand, ix_iast, ix_icall, ix_icmp_eq, ix_icmp_ge, ix_icmp_gt, ix_icmp_le, ix_icmp_lt, ix_icmp_ne, ix_idiv, ix_if_eq, ix_if_ge, ix_if_gt, ix_if_le, ix_if_lt, ix_if_ne, ix_iinc, ix_iload, ix_imul, ix_ineg, ix_ior, ix_irem, ix_iret, ix_ishl, ix_ishr, ix_istore, ix_isub, ix_iushr, ix_ixor, ix_l2i, ix_ladd, ix_lald, ix_land, ix_last, ix_lcmp, ix_ldcS, ix_ldiv, ix_lload, ix_lmul, ix_lor, ix_lrem, ix_lret, ix_lshl, ix_lstore, ix_lsub, ix_lsw, ix_max, ix_min, ix_new, ix_newa, ix_nret, ix_oinit, ix_pop2L, ix_popI, ix_pushI, ix_pushL, ix_putI, ix_putJ, ix_putR, ix_putZ, ix_sbald, ix_sgetC, ix_sgetV, ix_slen, ix_strc, ix_tald, ix_tsw, ix_vcall, ix_vret, ix_zret, stL, stL2, kilL, popN, fq_sw, fq_lsw, List.map_cons, List.map_nil, List.getElem?_cons_zero, List.getElem?_cons_succ, Option.toList_some, Option.toList_none, List.cons_append, List.nil_append, List.length_cons, List.length_nil, List.sum_cons, List.sum_nil, cat_i, cat_l, cat_r, true_and, and_true, Nat.zero_add, Nat.add_zero, Nat.le_refl, Nat.zero_le, Nat.reduceAdd, Nat.reduceLeDiff, exists_eq_left', Option.some.injEq, not_true_eq_false, not_false_eq_true, false_implies, true_implies, implies_true, and_self, or_true, true_or, or_false, false_or]
        refine ⟨fun _ => ⟨by decide, by decide, by decide, by decide, ?_⟩, fun q => absurd q (by omega)⟩
        generalize hS1 : ((up1 (up1 S.1 z 10) (z + 1) 14, up1 S.2.1 (z + 1) (Int32.toNatClampNeg 3), u2 (u2 (u2 (u2 (up1 (up1 S.2.2 z fun _ => none) (z + 1) fun _ => none) z 3 (some (z + 1))) z 0 (some (X + 11))) z 1 (some s)) z 2 (some (p + 4))) : Sh) = S1
        have k1 : ∀ a, a ≠ z → a ≠ z + 1 → S1.1 a = S.1 a := fun a q q' => by rw [← hS1]; exact (up1_ne q').trans (up1_ne q)
        have k2 : ∀ a, a ≠ z + 1 → S1.2.1 a = S.2.1 a := fun a q => by rw [← hS1]; exact up1_ne q
        have k3 : ∀ a, a ≠ z → a ≠ z + 1 → S1.2.2 a = S.2.2 a := fun a q q' => by
          rw [← hS1]
          show u2 (u2 (u2 (u2 (up1 (up1 S.2.2 z fun _ => none) (z + 1) fun _ => none) z 3 (some (z + 1))) z 0 (some (X + 11))) z 1 (some s)) z 2 (some (p + 4)) a = _
          rw [u2_ne q, u2_ne q, u2_ne q, u2_ne q, up1_ne q', up1_ne q]
        have q1 : S1.1 z = 10 := by rw [← hS1]; exact (up1_ne (by omega)).trans up1_eq
        have q1' : S1.1 (z + 1) = 14 := by rw [← hS1]; exact up1_eq
        have q1'' : S1.2.1 (z + 1) = 3 := by rw [← hS1]; exact up1_eq
        have qr : S1.2.2 z 0 = some (X + 11) ∧ S1.2.2 z 1 = some s ∧ S1.2.2 z 2 = some (p + 4) ∧ S1.2.2 z 3 = some (z + 1) := by
          rw [← hS1]
          refine ⟨?_, ?_, ?_, ?_⟩ <;> simp (disch := omega) only [u2_same, u2_ck]
        have hK : shK X z S S1 := ⟨fun a ha => ⟨k1 a (by omega) (by omega), k2 a (by omega), fun _ => k3 a (by omega) (by omega)⟩, fun k _ _ => by rw [k3 X (by omega) (by omega)]⟩
        have hc1 : cpS S1 X s p := hK.cp hz hc0 (by rw [k3 X (by omega) (by omega)]; exact b6) (by rw [k3 X (by omega) (by omega)]; exact b7) (Or.inl ⟨rfl, rfl⟩)
        generalize hI1 : (up1 (up1 I z fun _ => 0) (z + 1) fun _ => 0) = I1
        generalize hJ1 : (up1 (up1 J z fun _ => 0) (z + 1) fun _ => 0) = J1
        have i1 : ∀ a, a ≠ z → a ≠ z + 1 → I1 a = I a := fun a q q' => by rw [← hI1, up1_ne q', up1_ne q]
        have i2 : ∀ k, I1 z k = 0 := fun k => by rw [← hI1, up1_ne (by omega), up1_eq]
        have j1 : ∀ a, a ≠ z → a ≠ z + 1 → J1 a = J a := fun a q q' => by rw [← hJ1, up1_ne q', up1_ne q]
        clear hS1 hI1 hJ1
        have hE1 : rdE S1 I1 J1 X T n := ⟨hK.rd (by omega) hE.1, hE.2.1, by rw [i1 _ (by omega) (by omega)]; exact hE.2.2.1, by rw [j1 _ (by omega) (by omega)]; exact hE.2.2.2⟩
        have hx : yxS S1 X s p z := ⟨q1, qr.1, qr.2.1, qr.2.2.1, qr.2.2.2, q1', q1'', hc1.2.2.2.2.2.1, hc1.2.2.2.2.2.2.1, by omega, by omega, by omega, by omega, by omega⟩
        have es1 : I1 s = I s := i1 s (by omega) (by omega)
        refine ⟨X, s, p, z, T, n, A, N, O, rfl, rfl, h3, hx, hE1, i2 4, by rw [es1]; exact a5, by rw [es1]; exact a6, o5, o6, ?_, ?_⟩
        · exact hN.mv o5.2 o6.2 (fun a _ _ => by rw [j1 a (by omega) (by omega)])
        have hc1' := hc1
        obtain ⟨c1, -, ⟨-, d2, -, -, -, d6, d7⟩, -, -, g1, g2, -⟩ := hc1
        have k0' := c1.1
        cases hp : yrX1 T n (yrX0 T A N O n) with
        | inl f =>
          rw [hp] at hR
          intro I2 J2 hF r1 r2
          simp (disch := omega) only [B_X11_years_53, B_X11_years_58, B_X11_years_68, sp_X11_endText, B_X11_endText_0, sp_X11_refuse, B_X11_refuse_0, k0', d2, hE1.1.1, u2_ne, u2_ck, nI_1, nI_add, nI_clamp, nI_pin, nI_neg, nI_nonneg, nI_leE, nI_ltE, nI_eqE, Nat.not_le, Nat.not_lt, fq_10, fq_01, fq_rr, ix_aald, ix_aast, ix_abs, ix_alen, ix_aload, ix_aret, ix_astore, ix_bald, ix_bast, ix_call, ix_cpyI, ix_cpyJ, ix_dead, ix_dup2, ix_dup2L, ix_dupI, ix_dupR, ix_dupx1, ix_getI, ix_getJ, ix_getR, ix_gfm, ix_gtab, ix_i2b, ix_i2c, ix_i2l, ix_i2s, ix_iadd, ix_iald, ix_iand, ix_iast, ix_icall, ix_icmp_eq, ix_icmp_ge, ix_icmp_gt, ix_icmp_le, ix_icmp_lt, ix_icmp_ne, ix_idiv, ix_if_eq, ix_if_ge, ix_if_gt, ix_if_le, ix_if_lt, ix_if_ne, ix_iinc, ix_iload, ix_imul, ix_ineg, ix_ior, ix_irem, ix_iret, ix_ishl, ix_ishr, ix_istore, ix_isub, ix_iushr, ix_ixor, ix_l2i, ix_ladd, ix_lald, ix_land, ix_last, ix_lcmp, ix_ldcS, ix_ldiv, ix_lload, ix_lmul, ix_lor, ix_lrem, ix_lret, ix_lshl, ix_lstore, ix_lsub, ix_lsw, ix_max, ix_min, ix_new, ix_newa, ix_nret, ix_oinit, ix_pop2L, ix_popI, ix_pushI, ix_pushL, ix_putI, ix_putJ, ix_putR, ix_putZ, ix_sbald, ix_sgetC, ix_sgetV, ix_slen, ix_strc, ix_tald, ix_tsw, ix_vcall, ix_vret, ix_zret, stL, stL2, kilL, popN, fq_sw, fq_lsw, List.map_cons, List.map_nil, List.getElem?_cons_zero, List.getElem?_cons_succ, Option.toList_some, Option.toList_none, List.cons_append, List.nil_append, List.length_cons, List.length_nil, List.sum_cons, List.sum_nil, cat_i, cat_l, cat_r, true_and, and_true, Nat.zero_add, Nat.add_zero, Nat.le_refl, Nat.zero_le, Nat.reduceAdd, Nat.reduceLeDiff, exists_eq_left', Option.some.injEq, not_true_eq_false, not_false_eq_true, false_implies, true_implies, implies_true, and_self, or_true, true_or, or_false, false_or]
          refine hR _ _ _ hK hc1' ⟨fun a x1 x2 x3 x4 => ?_, fun k x1 x2 x3 x4 => ?_, ?_, fun a x1 x2 x3 => ?_⟩ ?_ ?_ ?_
          · rw [u2_ne x1, u2_ne x1, u2_ne x1, u2_ne x1, hF.1 a x2 (by omega) (by omega) (by omega), i1 a (by omega) (by omega)]
          · rw [u2_ck _ _ _ _ _ _ x2, u2_ck _ _ _ _ _ _ x4, u2_ck _ _ _ _ _ _ x3, u2_ck _ _ _ _ _ _ x1, hF.1 X (by omega) (by omega) (by omega) (by omega), i1 X (by omega) (by omega)]
          · rw [u2_ck _ _ _ _ _ _ (by omega), u2_ck _ _ _ _ _ _ (by omega), u2_ck _ _ _ _ _ _ (by omega), u2_same]
          · rw [hF.2 a x1, j1 a (by omega) (by omega)]
          · rw [u2_ck _ _ _ _ _ _ (by omega), u2_ck _ _ _ _ _ _ (by omega), u2_same]
            exact r1
          · rw [u2_ck _ _ _ _ _ _ (by omega), u2_same]
            exact r2
          · rw [u2_same]
        | inr y =>
          rw [hp] at hR
          intro I2 J2 hF hH hd h9
          obtain ⟨m, hm, -, hY⟩ := yrs_W o5 o6 hp
          have hm6 := hY.1
          obtain ⟨-, -, t7, t8, -, -, tr, ⟨t10, t11⟩, -, -, -, -, -⟩ := hH
          rw [hm] at t7
          rw [hm, nI_clamp (by omega)] at tr
          simp (disch := omega) only [B_X11_years_53, B_X11_years_58, sp_X11_endText, B_X11_endText_0, k0', d2, d6, d7, hE1.1.1, u2_ne, u2_ck, u2_same, g1.k, g1.r0, g1.k1, g1.r1, g1.k2, g1.r2, g1.k3, g1.r3, g1.k4, g1.r4, g1.k12, g1.n1, g1.n2, g1.n3, g1.y0, g1.k5, g1.n5, g1.y1, g1.k6, g1.n6, g1.y2, g1.k7, g1.n7, g1.y3, g1.k8, g1.n8, g1.y4, g1.k9, g1.n9, g1.y5, g1.k10, g1.n10, g1.y6, g1.k11, g1.n11, g1.p0, g1.p1, g1.p2, g1.k13, g1.n13, g1.q0, g1.q1, g1.k14, g1.k15, g1.k16, g1.n16, g1.k17, g1.n17, g1.rH, g1.kH, g1.rP, g1.kP, g1.rQ, g1.kQ, g2.k, g2.r0, g2.k1, g2.r1, g2.k2, g2.r2, g2.k3, g2.r3, g2.k4, g2.r4, g2.k12, g2.n1, g2.n2, g2.n3, g2.y0, g2.k5, g2.n5, g2.y1, g2.k6, g2.n6, g2.y2, g2.k7, g2.n7, g2.y3, g2.k8, g2.n8, g2.y4, g2.k9, g2.n9, g2.y5, g2.k10, g2.n10, g2.y6, g2.k11, g2.n11, g2.p0, g2.p1, g2.p2, g2.k13, g2.n13, g2.q0, g2.q1, g2.k14, g2.k15, g2.k16, g2.n16, g2.k17, g2.n17, g2.rH, g2.kH, g2.rP, g2.kP, g2.rQ, g2.kQ, nI_1, nI_add, nI_clamp, nI_pin, nI_neg, nI_nonneg, nI_leE, nI_ltE, nI_eqE, Nat.not_le, Nat.not_lt, fq_10, fq_01, fq_rr, ix_aald, ix_aast, ix_abs, ix_alen, ix_aload, ix_aret, ix_astore, ix_bald, ix_bast, ix_call, ix_cpyI, ix_cpyJ, ix_dead, ix_dup2, ix_dup2L, ix_dupI, ix_dupR, ix_dupx1, ix_getI, ix_getJ, ix_getR, ix_gfm, ix_gtab, ix_i2b, ix_i2c, ix_i2l, ix_i2s, ix_iadd, ix_iald, ix_iand, ix_iast, ix_icall, ix_icmp_eq, ix_icmp_ge, ix_icmp_gt, ix_icmp_le, ix_icmp_lt, ix_icmp_ne, ix_idiv, ix_if_eq, ix_if_ge, ix_if_gt, ix_if_le, ix_if_lt, ix_if_ne, ix_iinc, ix_iload, ix_imul, ix_ineg, ix_ior, ix_irem, ix_iret, ix_ishl, ix_ishr, ix_istore, ix_isub, ix_iushr, ix_ixor, ix_l2i, ix_ladd, ix_lald, ix_land, ix_last, ix_lcmp, ix_ldcS, ix_ldiv, ix_lload, ix_lmul, ix_lor, ix_lrem, ix_lret, ix_lshl, ix_lstore, ix_lsub, ix_lsw, ix_max, ix_min, ix_new, ix_newa, ix_nret, ix_oinit, ix_pop2L, ix_popI, ix_pushI, ix_pushL, ix_putI, ix_putJ, ix_putR, ix_putZ, ix_sbald, ix_sgetC, ix_sgetV, ix_slen, ix_strc, ix_tald, ix_tsw, ix_vcall, ix_vret, ix_zret, stL, stL2, kilL, popN, fq_sw, fq_lsw, List.map_cons, List.map_nil, List.getElem?_cons_zero, List.getElem?_cons_succ, Option.toList_some, Option.toList_none, List.cons_append, List.nil_append, List.length_cons, List.length_nil, List.sum_cons, List.sum_nil, cat_i, cat_l, cat_r, true_and, and_true, Nat.zero_add, Nat.add_zero, Nat.le_refl, Nat.zero_le, Nat.reduceAdd, Nat.reduceLeDiff, exists_eq_left', Option.some.injEq, not_true_eq_false, not_false_eq_true, false_implies, true_implies, implies_true, and_self, or_true, true_or, or_false, false_or]
          refine ⟨s, p, m, rfl, rfl, g1, g2, by omega, ?_, hm6, ?_, ?_⟩
          · simp (disch := omega) only [u2_ne]
            exact t7
          · right
            simp (disch := omega) only [u2_ne]
            exact h9
          generalize hW : (u2 (u2 (u2 I2 X 8 0) X 11 (I2 (X + 11) 10)) X 12 (I2 (X + 11) 11)) = W
          have wo : ∀ a, a ≠ X → W a = I2 a := fun a q => by rw [← hW, u2_ne q, u2_ne q, u2_ne q]
          have wX : ∀ k, k ≠ 8 → k ≠ 11 → k ≠ 12 → W X k = I2 X k := fun k x1 x2 x3 => by rw [← hW, u2_ck _ _ _ _ _ _ x3, u2_ck _ _ _ _ _ _ x2, u2_ck _ _ _ _ _ _ x1]
          have w8 : W X 8 = 0 := by rw [← hW, u2_ck _ _ _ _ _ _ (by omega), u2_ck _ _ _ _ _ _ (by omega), u2_same]
          have w11 : W X 11 = 0 := by rw [← hW, u2_ck _ _ _ _ _ _ (by omega), u2_same, t10]
          have w12 : W X 12 = -1 := by rw [← hW, u2_same, t11]
          clear hW
          generalize hV : yC W (s + 4) (p + 4) m = V
          have vo : ∀ a, (a < s + 4 ∨ s + 11 < a) → V a = W a := fun a q => by rw [← hV]; exact yC_o (by omega)
          have vk : ∀ k, 7 ≤ k → k ≤ 9 → V (s + 4) k = W (p + 4) k := fun k x1 x2 => by
            rw [← hV]
            unfold yC
            rw [if_pos ⟨rfl, x1, x2⟩]
          have vr : ∀ j, 5 ≤ j → j < 12 → ∀ i, i < m → V (s + j) i = I2 (p + j) i := fun j x1 x2 i hi => by
            rw [← hV, yC_a (j := j - 4) (by omega) (by omega) (by omega)]
            unfold va_cpy
            rw [if_pos (by omega), wo _ (by omega), show p + 4 + (j - 4) = p + j by omega, show 0 + (i - 0) = i by omega]
          clear hV
          have v8 : V (s + 4) 8 = nI y.2.2.1 := by rw [vk 8 (by omega) (by omega), wo _ (by omega), t8]
          simp (disch := omega) only [B_X11_years_86, B_X11_years_100, sp_X11_answer, B_X11_answer_0, k0', d6, v8, g1.k, g1.r0, g1.k1, g1.r1, g1.k2, g1.r2, g1.k3, g1.r3, g1.k4, g1.r4, g1.k12, g1.n1, g1.n2, g1.n3, g1.y0, g1.k5, g1.n5, g1.y1, g1.k6, g1.n6, g1.y2, g1.k7, g1.n7, g1.y3, g1.k8, g1.n8, g1.y4, g1.k9, g1.n9, g1.y5, g1.k10, g1.n10, g1.y6, g1.k11, g1.n11, g1.p0, g1.p1, g1.p2, g1.k13, g1.n13, g1.q0, g1.q1, g1.k14, g1.k15, g1.k16, g1.n16, g1.k17, g1.n17, g1.rH, g1.kH, g1.rP, g1.kP, g1.rQ, g1.kQ, nI_1, nI_add, nI_clamp, nI_pin, nI_neg, nI_nonneg, nI_leE, nI_ltE, nI_eqE, Nat.not_le, Nat.not_lt, fq_10, fq_01, fq_rr, ix_aald, ix_aast, ix_abs, ix_alen, ix_aload, ix_aret, ix_astore, ix_bald, ix_bast, ix_call, ix_cpyI, ix_cpyJ, ix_dead, ix_dup2, ix_dup2L, ix_dupI, ix_dupR, ix_dupx1, ix_getI, ix_getJ, ix_getR, ix_gfm, ix_gtab, ix_i2b, ix_i2c, ix_i2l, ix_i2s, ix_iadd, ix_iald, ix_iand, ix_iast, ix_icall, ix_icmp_eq, ix_icmp_ge, ix_icmp_gt, ix_icmp_le, ix_icmp_lt, ix_icmp_ne, ix_idiv, ix_if_eq, ix_if_ge, ix_if_gt, ix_if_le, ix_if_lt, ix_if_ne, ix_iinc, ix_iload, ix_imul, ix_ineg, ix_ior, ix_irem, ix_iret, ix_ishl, ix_ishr, ix_istore, ix_isub, ix_iushr, ix_ixor, ix_l2i, ix_ladd, ix_lald, ix_land, ix_last, ix_lcmp, ix_ldcS, ix_ldiv, ix_lload, ix_lmul, ix_lor, ix_lrem, ix_lret, ix_lshl, ix_lstore, ix_lsub, ix_lsw, ix_max, ix_min, ix_new, ix_newa, ix_nret, ix_oinit, ix_pop2L, ix_popI, ix_pushI, ix_pushL, ix_putI, ix_putJ, ix_putR, ix_putZ, ix_sbald, ix_sgetC, ix_sgetV, ix_slen, ix_strc, ix_tald, ix_tsw, ix_vcall, ix_vret, ix_zret, stL, stL2, kilL, popN, fq_sw, fq_lsw, List.map_cons, List.map_nil, List.getElem?_cons_zero, List.getElem?_cons_succ, Option.toList_some, Option.toList_none, List.cons_append, List.nil_append, List.length_cons, List.length_nil, List.sum_cons, List.sum_nil, cat_i, cat_l, cat_r, true_and, and_true, Nat.zero_add, Nat.add_zero, Nat.le_refl, Nat.zero_le, Nat.reduceAdd, Nat.reduceLeDiff, exists_eq_left', Option.some.injEq, not_true_eq_false, not_false_eq_true, false_implies, true_implies, implies_true, and_self, or_true, true_or, or_false, false_or]
          have eo : ∀ a, a ≠ X → u2 V X 10 0 a = V a := fun a q => u2_ne q
          have ex : ∀ k, k ≠ 10 → u2 V X 10 0 X k = W X k := fun k q => by rw [u2_ck _ _ _ _ _ _ q, vo X (by omega)]
          refine hR _ _ _ hK hc1' ⟨fun a x1 x2 x3 x4 x5 => ?_, fun k x1 x2 x3 x4 => ?_, ?_, fun a x1 x2 => ?_⟩ ?_ ?_ (u2_same _ _ _ _) (Or.inr ⟨m, ?_, hm6, ?_, ?_, fun i hi => ?_⟩)
          · rw [eo a x1, vo a (by omega), wo a x1, hF.1 a x2 (by omega) (by omega) (by omega), i1 a (by omega) (by omega)]
          · rw [ex k x2, wX k x1 x3 x4, hF.1 X (by omega) (by omega) (by omega) (by omega), i1 X (by omega) (by omega)]
          · rw [ex 8 (by omega)]
            exact w8
          · rw [hF.2 a x1, j1 a (by omega) (by omega)]
          · rw [ex 11 (by omega)]
            exact w11
          · rw [ex 12 (by omega)]
            exact w12
          · unfold cpR
            rw [if_neg (by omega), uA_e, hm]
          · rw [eo _ (by omega), vk 9 (by omega) (by omega), wo _ (by omega)]
            exact h9
          · rw [eo _ (by omega), vk 7 (by omega) (by omega), wo _ (by omega)]
            exact t7
          · have cr : ∀ j, j < 6 → cpR (uA y.1.1 11 (nI m)) 226 2602 360 (226 + 6 * i + j) = y.1.1 (2602 + 6 * i + j) := fun j hj => by
              unfold cpR
              rw [if_pos (by omega), uA_n _ _ _ _ (by omega), show 2602 + (226 + 6 * i + j - 226) = 2602 + 6 * i + j by omega]
            rw [hm]
            obtain ⟨r1, r2⟩ := tr i hi
            refine ⟨r1.mv (fun a x1 x2 => by rw [eo _ (by omega)]; exact vr a x1 (by omega) i hi) (fun j hj _ => cr j hj), (r2 (fun j hj => by omega)).mv ?_ ?_ (cr 4 (by omega))⟩
            · rw [eo _ (by omega)]
              exact vr 5 (by omega) (by omega) i hi
            · rw [eo _ (by omega)]
              exact vr 11 (by omega) (by omega) i hi
      · simp (disch := omega) only [B_X11_years_9, B_X11_years_19, B_X11_years_24, k0, sp_X11_refuse, B_X11_refuse_0, li_300, nI_1, nI_add, nI_clamp, nI_pin, nI_neg, nI_nonneg, nI_leE, nI_ltE, nI_eqE, Nat.not_le, Nat.not_lt, fq_10, fq_01, fq_rr, ix_aald, ix_aast, ix_abs, ix_alen, ix_aload, ix_aret, ix_astore, ix_bald, ix_bast, ix_call, ix_cpyI, ix_cpyJ, ix_dead, ix_dup2, ix_dup2L, ix_dupI, ix_dupR, ix_dupx1, ix_getI, ix_getJ, ix_getR, ix_gfm, ix_gtab, ix_i2b, ix_i2c, ix_i2l, ix_i2s, ix_iadd, ix_iald, ix_iand, ix_iast, ix_icall, ix_icmp_eq, ix_icmp_ge, ix_icmp_gt, ix_icmp_le, ix_icmp_lt, ix_icmp_ne, ix_idiv, ix_if_eq, ix_if_ge, ix_if_gt, ix_if_le, ix_if_lt, ix_if_ne, ix_iinc, ix_iload, ix_imul, ix_ineg, ix_ior, ix_irem, ix_iret, ix_ishl, ix_ishr, ix_istore, ix_isub, ix_iushr, ix_ixor, ix_l2i, ix_ladd, ix_lald, ix_land, ix_last, ix_lcmp, ix_ldcS, ix_ldiv, ix_lload, ix_lmul, ix_lor, ix_lrem, ix_lret, ix_lshl, ix_lstore, ix_lsub, ix_lsw, ix_max, ix_min, ix_new, ix_newa, ix_nret, ix_oinit, ix_pop2L, ix_popI, ix_pushI, ix_pushL, ix_putI, ix_putJ, ix_putR, ix_putZ, ix_sbald, ix_sgetC, ix_sgetV, ix_slen, ix_strc, ix_tald, ix_tsw, ix_vcall, ix_vret, ix_zret, stL, stL2, kilL, popN, fq_sw, fq_lsw, List.map_cons, List.map_nil, List.getElem?_cons_zero, List.getElem?_cons_succ, Option.toList_some, Option.toList_none, List.cons_append, List.nil_append, List.length_cons, List.length_nil, List.sum_cons, List.sum_nil, cat_i, cat_l, cat_r, true_and, and_true, Nat.zero_add, Nat.add_zero, Nat.le_refl, Nat.zero_le, Nat.reduceAdd, Nat.reduceLeDiff, exists_eq_left', Option.some.injEq, not_true_eq_false, not_false_eq_true, false_implies, true_implies, implies_true, and_self, or_true, true_or, or_false, false_or]
        exact ⟨fun q => absurd q h3, fun _ => hQ1 (fun q => h3 ((nI_leI (a := n) (b := 300) (by omega) (by omega)).mp q.2.2))⟩
    · simp (disch := omega) only [B_X11_years_9, B_X11_years_19, B_X11_years_24, bI_f h0, k0, sp_X11_refuse, B_X11_refuse_0, nI_1, nI_add, nI_clamp, nI_pin, nI_neg, nI_nonneg, nI_leE, nI_ltE, nI_eqE, Nat.not_le, Nat.not_lt, fq_10, fq_01, fq_rr, ix_aald, ix_aast, ix_abs, ix_alen, ix_aload, ix_aret, ix_astore, ix_bald, ix_bast, ix_call, ix_cpyI, ix_cpyJ, ix_dead, ix_dup2, ix_dup2L, ix_dupI, ix_dupR, ix_dupx1, ix_getI, ix_getJ, ix_getR, ix_gfm, ix_gtab, ix_i2b, ix_i2c, ix_i2l, ix_i2s, ix_iadd, ix_iald, ix_iand, ix_iast, ix_icall, ix_icmp_eq, ix_icmp_ge, ix_icmp_gt, ix_icmp_le, ix_icmp_lt, ix_icmp_ne, ix_idiv, ix_if_eq, ix_if_ge, ix_if_gt, ix_if_le, ix_if_lt, ix_if_ne, ix_iinc, ix_iload, ix_imul, ix_ineg, ix_ior, ix_irem, ix_iret, ix_ishl, ix_ishr, ix_istore, ix_isub, ix_iushr, ix_ixor, ix_l2i, ix_ladd, ix_lald, ix_land, ix_last, ix_lcmp, ix_ldcS, ix_ldiv, ix_lload, ix_lmul, ix_lor, ix_lrem, ix_lret, ix_lshl, ix_lstore, ix_lsub, ix_lsw, ix_max, ix_min, ix_new, ix_newa, ix_nret, ix_oinit, ix_pop2L, ix_popI, ix_pushI, ix_pushL, ix_putI, ix_putJ, ix_putR, ix_putZ, ix_sbald, ix_sgetC, ix_sgetV, ix_slen, ix_strc, ix_tald, ix_tsw, ix_vcall, ix_vret, ix_zret, stL, stL2, kilL, popN, fq_sw, fq_lsw, List.map_cons, List.map_nil, List.getElem?_cons_zero, List.getElem?_cons_succ, Option.toList_some, Option.toList_none, List.cons_append, List.nil_append, List.length_cons, List.length_nil, List.sum_cons, List.sum_nil, cat_i, cat_l, cat_r, true_and, and_true, Nat.zero_add, Nat.add_zero, Nat.le_refl, Nat.zero_le, Nat.reduceAdd, Nat.reduceLeDiff, exists_eq_left', Option.some.injEq, not_true_eq_false, not_false_eq_true, false_implies, true_implies, implies_true, and_self, or_true, true_or, or_false, false_or]
      exact hQ1 (fun q => h0 ⟨q.1, q.2.1⟩)
  · exact h.elim
