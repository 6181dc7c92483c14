theorem spk_le (t0 t1 e0 e1 ft r : Int32) : ∀ (n : Nat) (t : Bool) (v : Int32) (x : S8), (spk t0 t1 e0 e1 ft r n t v x).1 ≤ n
  | 0, _, _, _ => Nat.le_refl 0
  | n + 1, true, v, (a0, a1, h0, h1, w0, w1, l0, l1) => by
    unfold spk
    split
    · split
      · exact Nat.succ_le_succ (spk_le t0 t1 e0 e1 ft r n _ _ _)
      · exact Nat.zero_le _
    · exact Nat.zero_le _
  | n + 1, false, v, (a0, a1, h0, h1, w0, w1, l0, l1) => by
    unfold spk
    split
    · split
      · exact Nat.succ_le_succ (spk_le t0 t1 e0 e1 ft r n _ _ _)
      · exact Nat.zero_le _
    · exact Nat.zero_le _
theorem qrl_le (I : IH) (s a b : Nat) : (qrl I s a b).1 ≤ 6 := spk_le _ _ _ _ _ _ 6 _ _ _
theorem nI_le0 {c : Nat} (h : c < 2 ^ 31) : (nI c ≤ 0) = (c = 0) := by
  rw [show (0 : Int32) = nI 0 from rfl, nI_leE h (by decide)]
  exact propext (by omega)
theorem nI_gt0 {c : Nat} (h : c < 2 ^ 31) : (0 < nI c) = (0 < c) := by
  rw [show (0 : Int32) = nI 0 from rfl, nI_ltE (by decide) h]
theorem rem20 : ∀ n, n < 20 → nI (n + 1) - nI (n + 1) / 20 * 20 = nI ((n + 1) % 20) := by decide +kernel
theorem min20 : ∀ n, n < 21 → (if (20 : Int32) < nI (n + 1) then (20 : Int32) else nI (n + 1)) = nI (min (n + 1) 20) := by decide +kernel
/-- behind a say: tempers, shouts, land, what was said; no quarrel laid yet -/
def utP (I : IH) (s a b : Nat) : IH := fun q k => if q = s + 24 + a ∧ k = 6 then (qrl I s a b).2.1 else if q = s + 24 + a ∧ k = 7 then (qrl I s a b).2.2.2.1 else if q = s + 24 + b ∧ k = 6 then (qrl I s a b).2.2.1 else if q = s + 24 + b ∧ k = 7 then (qrl I s a b).2.2.2.2.1 else if q = s + 18 + (I (s + 24 + a) 1).toNatClampNeg ∧ k = 2 then (qrl I s a b).2.2.2.2.2.1 else if q = s + 18 + (I (s + 24 + a) 1).toNatClampNeg ∧ k = 3 then I q 3 + (qrl I s a b).2.2.2.2.2.2.2.1 else if q = s + 18 + (I (s + 24 + b) 1).toNatClampNeg ∧ k = 2 then (qrl I s a b).2.2.2.2.2.2.1 else if q = s + 18 + (I (s + 24 + b) 1).toNatClampNeg ∧ k = 3 then I q 3 + (qrl I s a b).2.2.2.2.2.2.2.2 else if q = s ∧ k = 14 then I s 14 + 1 else if q = s ∧ k = 15 then I s 15 + nI (qrl I s a b).1 else I q k
def utF (I : IH) (s a b w : Nat) : Int32 := foldU (fun i acc => acc + utP I s a b (s + 18 + i) 2) 0 (w + 1) 0 - foldU (fun i acc => acc + I (s + 18 + i) 2) 0 (w + 1) 0
def utQ (I : IH) (s a b w : Nat) : IH := fun q k => if q = s + 32 + ((I s 8).toNatClampNeg + 1) % 20 ∧ k ≤ 6 then (match k with | 0 => I s 12 | 1 => nI w | 2 => nI a | 3 => nI b | 4 => nI (qrl I s a b).1 | 5 => utF I s a b w | _ => 0) else if q = s ∧ k = 8 then nI (((I s 8).toNatClampNeg + 1) % 20) else if q = s ∧ k = 7 then nI (min ((I s 7).toNatClampNeg + 1) 20) else utP I s a b q k
def utI (I : IH) (s a b w : Nat) : IH := if (qrl I s a b).1 = 0 then utP I s a b else utQ I s a b w
/-- one side goes back into the street -/
def stl (I : IH) (s d p h : Nat) : IH := fun q k => if q = s + 24 + p ∧ 1 ≤ k ∧ k ≤ 7 then I (s + 14 + d) k else if q = s + 18 + h ∧ k = 2 then I (s + 16) d else if q = s + 18 + h ∧ k = 3 then I (s + 18 + h) 3 + I (s + 17) d else I q k
def kqI (I : IH) (s nw kp : Nat) (wl on ot mn ft : Int32) : IH := fun q k => if q = s + 32 + (nw + 1) % 20 ∧ k ≤ 6 then (match k with | 0 => I s 12 | 1 => wl | 2 => on | 3 => ot | 4 => mn | 5 => ft | _ => 0) else if q = s ∧ k = 8 then nI ((nw + 1) % 20) else if q = s ∧ k = 7 then nI (min (kp + 1) 20) else I q k
theorem dX6_settleSide_0 : decode cX6_settleSide 0 = .ok (.aload_n 0, 1) := by decide +kernel
theorem dX6_settleSide_1 : decode cX6_settleSide 1 = .ok (.getfield 19, 3) := by decide +kernel
theorem dX6_settleSide_4 : decode cX6_settleSide 4 = .ok (.iload_n 2, 1) := by decide +kernel
theorem dX6_settleSide_5 : decode cX6_settleSide 5 = .ok (.aaload, 1) := by decide +kernel
theorem dX6_settleSide_6 : decode cX6_settleSide 6 = .ok (.aload_n 0, 1) := by decide +kernel
theorem dX6_settleSide_7 : decode cX6_settleSide 7 = .ok (.getfield 39, 3) := by decide +kernel
theorem dX6_settleSide_10 : decode cX6_settleSide 10 = .ok (.getfield 156, 3) := by decide +kernel
theorem dX6_settleSide_13 : decode cX6_settleSide 13 = .ok (.iload_n 1, 1) := by decide +kernel
theorem dX6_settleSide_14 : decode cX6_settleSide 14 = .ok (.aaload, 1) := by decide +kernel
theorem dX6_settleSide_15 : decode cX6_settleSide 15 = .ok (.invokevirtual 92, 3) := by decide +kernel
theorem dX6_settleSide_18 : decode cX6_settleSide 18 = .ok (.aload_n 0, 1) := by decide +kernel
theorem dX6_settleSide_19 : decode cX6_settleSide 19 = .ok (.getfield 11, 3) := by decide +kernel
theorem dX6_settleSide_22 : decode cX6_settleSide 22 = .ok (.aload_n 0, 1) := by decide +kernel
theorem dX6_settleSide_23 : decode cX6_settleSide 23 = .ok (.getfield 19, 3) := by decide +kernel
theorem dX6_settleSide_26 : decode cX6_settleSide 26 = .ok (.iload_n 2, 1) := by decide +kernel
theorem dX6_settleSide_27 : decode cX6_settleSide 27 = .ok (.aaload, 1) := by decide +kernel
theorem dX6_settleSide_28 : decode cX6_settleSide 28 = .ok (.getfield 118, 3) := by decide +kernel
theorem dX6_settleSide_31 : decode cX6_settleSide 31 = .ok (.aaload, 1) := by decide +kernel
theorem dX6_settleSide_32 : decode cX6_settleSide 32 = .ok (.astore_n 3, 1) := by decide +kernel
theorem dX6_settleSide_33 : decode cX6_settleSide 33 = .ok (.aload_n 3, 1) := by decide +kernel
theorem dX6_settleSide_34 : decode cX6_settleSide 34 = .ok (.aload_n 0, 1) := by decide +kernel
theorem dX6_settleSide_35 : decode cX6_settleSide 35 = .ok (.getfield 39, 3) := by decide +kernel
theorem dX6_settleSide_38 : decode cX6_settleSide 38 = .ok (.getfield 159, 3) := by decide +kernel
theorem dX6_settleSide_41 : decode cX6_settleSide 41 = .ok (.iload_n 1, 1) := by decide +kernel
theorem dX6_settleSide_42 : decode cX6_settleSide 42 = .ok (.iaload, 1) := by decide +kernel
theorem dX6_settleSide_43 : decode cX6_settleSide 43 = .ok (.putfield 112, 3) := by decide +kernel
theorem dX6_settleSide_46 : decode cX6_settleSide 46 = .ok (.aload_n 3, 1) := by decide +kernel
theorem dX6_settleSide_47 : decode cX6_settleSide 47 = .ok (.dup, 1) := by decide +kernel
theorem dX6_settleSide_48 : decode cX6_settleSide 48 = .ok (.getfield 185, 3) := by decide +kernel
theorem dX6_settleSide_51 : decode cX6_settleSide 51 = .ok (.aload_n 0, 1) := by decide +kernel
theorem dX6_settleSide_52 : decode cX6_settleSide 52 = .ok (.getfield 39, 3) := by decide +kernel
theorem dX6_settleSide_55 : decode cX6_settleSide 55 = .ok (.getfield 162, 3) := by decide +kernel
theorem dX6_settleSide_58 : decode cX6_settleSide 58 = .ok (.iload_n 1, 1) := by decide +kernel
theorem dX6_settleSide_59 : decode cX6_settleSide 59 = .ok (.iaload, 1) := by decide +kernel
theorem dX6_settleSide_60 : decode cX6_settleSide 60 = .ok (.iadd, 1) := by decide +kernel
theorem dX6_settleSide_61 : decode cX6_settleSide 61 = .ok (.putfield 185, 3) := by decide +kernel
theorem dX6_settleSide_64 : decode cX6_settleSide 64 = .ok (.return_, 1) := by decide +kernel
abbrev M_X6_settleSide : MT := (yX6_settleSide, cX6_settleSide, 4, none)
theorem cf_X6_settleSide : fq_cf M_X6_settleSide 2 := ⟨(mg_1 (List.mem_of_getElem? (i := 8) rfl) rfl), (mg_5 (List.mem_of_getElem? (i := 56) rfl) rfl), ⟨by decide, by decide, by decide +kernel⟩, by decide⟩
def B_X6_settleSide_0 (G : GT) (mc ms : Nat) (Q : Post) : Cn := ix_aload 0 (ix_getR 6 1 (ix_iload 2 (ix_aald 17 (ix_aload 0 (ix_getR 6 4 (ix_getR 5 0 (ix_iload 1 (ix_aald 17 (ix_vcall 2 2 0 0 mc ms (sp_X2_copyFrom G) (ix_aload 0 (ix_getR 6 0 (ix_aload 0 (ix_getR 6 1 (ix_iload 2 (ix_aald 17 (ix_getI 2 1 (ix_aald 16 (ix_astore 3 (ix_aload 3 (ix_aload 0 (ix_getR 6 4 (ix_getR 5 1 (ix_iload 1 (ix_iald (ix_putI 0 2 (ix_aload 3 (ix_dupR (ix_getI 0 3 (ix_aload 0 (ix_getR 6 4 (ix_getR 5 2 (ix_iload 1 (ix_iald (ix_iadd (ix_putI 0 3 (ix_vret mc ms Q))))))))))))))))))))))))))))))))))))
theorem b_X6_settleSide_0 {l : Launch} {G : GT} {D mc ms : Nat} {Q : Post} : Imp l G M_X6_settleSide (D + 1) mc ms Q (B_X6_settleSide_0 G mc ms Q) 0 := sx_aload_n dX6_settleSide_0 rfl (sx_getR dX6_settleSide_1 fl_FootQuarrel_Street_19 (fun _ _ _ => rfl) (sx_iload_n dX6_settleSide_4 rfl (sx_aald dX6_settleSide_5 (by decide) (by decide) rfl (sx_aload_n dX6_settleSide_6 rfl (sx_getR dX6_settleSide_7 fl_FootQuarrel_Street_39 (fun _ _ _ => rfl) (sx_getR dX6_settleSide_10 fl_FootQuarrel_Street_156 (fun _ _ _ => rfl) (sx_iload_n dX6_settleSide_13 rfl (sx_aald dX6_settleSide_14 (by decide) (by decide) rfl (sx_vcall dX6_settleSide_15 cf_X2_copyFrom (mg_5 (List.mem_of_getElem? (i := 27) rfl) rfl) (mg_5 (List.mem_of_getElem? (i := 28) rfl) rfl) (mg_5 (List.mem_of_getElem? (i := 29) rfl) rfl) rfl c_X2_copyFrom (sx_aload_n dX6_settleSide_18 rfl (sx_getR dX6_settleSide_19 fl_FootQuarrel_Street_11 (fun _ _ _ => rfl) (sx_aload_n dX6_settleSide_22 rfl (sx_getR dX6_settleSide_23 fl_FootQuarrel_Street_19 (fun _ _ _ => rfl) (sx_iload_n dX6_settleSide_26 rfl (sx_aald dX6_settleSide_27 (by decide) (by decide) rfl (sx_getI dX6_settleSide_28 fl_FootQuarrel_Street_118 (fun _ _ _ => rfl) (sx_aald dX6_settleSide_31 (by decide) (by decide) rfl (sx_astore_n dX6_settleSide_32 rfl (by decide) (sx_aload_n dX6_settleSide_33 rfl (sx_aload_n dX6_settleSide_34 rfl (sx_getR dX6_settleSide_35 fl_FootQuarrel_Street_39 (fun _ _ _ => rfl) (sx_getR dX6_settleSide_38 fl_FootQuarrel_Street_159 (fun _ _ _ => rfl) (sx_iload_n dX6_settleSide_41 rfl (sx_iald dX6_settleSide_42 (sx_putI dX6_settleSide_43 fl_FootQuarrel_Street_112 (by decide) (fun _ _ _ => rfl) (fun _ => ⟨rfl, rfl⟩) (sx_aload_n dX6_settleSide_46 rfl (sx_dupR dX6_settleSide_47 (sx_getI dX6_settleSide_48 fl_FootQuarrel_Street_185 (fun _ _ _ => rfl) (sx_aload_n dX6_settleSide_51 rfl (sx_getR dX6_settleSide_52 fl_FootQuarrel_Street_39 (fun _ _ _ => rfl) (sx_getR dX6_settleSide_55 fl_FootQuarrel_Street_162 (fun _ _ _ => rfl) (sx_iload_n dX6_settleSide_58 rfl (sx_iald dX6_settleSide_59 (sx_iadd dX6_settleSide_60 (sx_putI dX6_settleSide_61 fl_FootQuarrel_Street_185 (by decide) (fun _ _ _ => rfl) (fun _ => ⟨rfl, rfl⟩) (sx_vret dX6_settleSide_64 rfl))))))))))))))))))))))))))))))))))))
theorem dX6_keepQuarrel_0 : decode cX6_keepQuarrel 0 = .ok (.aload_n 0, 1) := by decide +kernel
theorem dX6_keepQuarrel_1 : decode cX6_keepQuarrel 1 = .ok (.aload_n 0, 1) := by decide +kernel
theorem dX6_keepQuarrel_2 : decode cX6_keepQuarrel 2 = .ok (.getfield 59, 3) := by decide +kernel
theorem dX6_keepQuarrel_5 : decode cX6_keepQuarrel 5 = .ok (.iconst 1, 1) := by decide +kernel
theorem dX6_keepQuarrel_6 : decode cX6_keepQuarrel 6 = .ok (.iadd, 1) := by decide +kernel
theorem dX6_keepQuarrel_7 : decode cX6_keepQuarrel 7 = .ok (.bipush 20, 2) := by decide +kernel
theorem dX6_keepQuarrel_9 : decode cX6_keepQuarrel 9 = .ok (.irem, 1) := by decide +kernel
theorem dX6_keepQuarrel_10 : decode cX6_keepQuarrel 10 = .ok (.putfield 59, 3) := by decide +kernel
theorem dX6_keepQuarrel_13 : decode cX6_keepQuarrel 13 = .ok (.aload_n 0, 1) := by decide +kernel
theorem dX6_keepQuarrel_14 : decode cX6_keepQuarrel 14 = .ok (.aload_n 0, 1) := by decide +kernel
theorem dX6_keepQuarrel_15 : decode cX6_keepQuarrel 15 = .ok (.getfield 56, 3) := by decide +kernel
theorem dX6_keepQuarrel_18 : decode cX6_keepQuarrel 18 = .ok (.iconst 1, 1) := by decide +kernel
theorem dX6_keepQuarrel_19 : decode cX6_keepQuarrel 19 = .ok (.iadd, 1) := by decide +kernel
theorem dX6_keepQuarrel_20 : decode cX6_keepQuarrel 20 = .ok (.bipush 20, 2) := by decide +kernel
theorem dX6_keepQuarrel_22 : decode cX6_keepQuarrel 22 = .ok (.invokestatic 125, 3) := by decide +kernel
theorem dX6_keepQuarrel_25 : decode cX6_keepQuarrel 25 = .ok (.putfield 56, 3) := by decide +kernel
theorem dX6_keepQuarrel_28 : decode cX6_keepQuarrel 28 = .ok (.aload_n 0, 1) := by decide +kernel
theorem dX6_keepQuarrel_29 : decode cX6_keepQuarrel 29 = .ok (.getfield 25, 3) := by decide +kernel
theorem dX6_keepQuarrel_32 : decode cX6_keepQuarrel 32 = .ok (.aload_n 0, 1) := by decide +kernel
theorem dX6_keepQuarrel_33 : decode cX6_keepQuarrel 33 = .ok (.getfield 59, 3) := by decide +kernel
theorem dX6_keepQuarrel_36 : decode cX6_keepQuarrel 36 = .ok (.aaload, 1) := by decide +kernel
theorem dX6_keepQuarrel_37 : decode cX6_keepQuarrel 37 = .ok (.astore 6, 2) := by decide +kernel
theorem dX6_keepQuarrel_39 : decode cX6_keepQuarrel 39 = .ok (.aload 6, 2) := by decide +kernel
theorem dX6_keepQuarrel_41 : decode cX6_keepQuarrel 41 = .ok (.aload_n 0, 1) := by decide +kernel
theorem dX6_keepQuarrel_42 : decode cX6_keepQuarrel 42 = .ok (.getfield 71, 3) := by decide +kernel
theorem dX6_keepQuarrel_45 : decode cX6_keepQuarrel 45 = .ok (.putfield 187, 3) := by decide +kernel
theorem dX6_keepQuarrel_48 : decode cX6_keepQuarrel 48 = .ok (.aload 6, 2) := by decide +kernel
theorem dX6_keepQuarrel_50 : decode cX6_keepQuarrel 50 = .ok (.iload_n 1, 1) := by decide +kernel
theorem dX6_keepQuarrel_51 : decode cX6_keepQuarrel 51 = .ok (.putfield 188, 3) := by decide +kernel
theorem dX6_keepQuarrel_54 : decode cX6_keepQuarrel 54 = .ok (.aload 6, 2) := by decide +kernel
theorem dX6_keepQuarrel_56 : decode cX6_keepQuarrel 56 = .ok (.iload_n 2, 1) := by decide +kernel
theorem dX6_keepQuarrel_57 : decode cX6_keepQuarrel 57 = .ok (.putfield 191, 3) := by decide +kernel
theorem dX6_keepQuarrel_60 : decode cX6_keepQuarrel 60 = .ok (.aload 6, 2) := by decide +kernel
theorem dX6_keepQuarrel_62 : decode cX6_keepQuarrel 62 = .ok (.iload_n 3, 1) := by decide +kernel
theorem dX6_keepQuarrel_63 : decode cX6_keepQuarrel 63 = .ok (.putfield 194, 3) := by decide +kernel
theorem dX6_keepQuarrel_66 : decode cX6_keepQuarrel 66 = .ok (.aload 6, 2) := by decide +kernel
theorem dX6_keepQuarrel_68 : decode cX6_keepQuarrel 68 = .ok (.iload 4, 2) := by decide +kernel
theorem dX6_keepQuarrel_70 : decode cX6_keepQuarrel 70 = .ok (.putfield 197, 3) := by decide +kernel
theorem dX6_keepQuarrel_73 : decode cX6_keepQuarrel 73 = .ok (.aload 6, 2) := by decide +kernel
theorem dX6_keepQuarrel_75 : decode cX6_keepQuarrel 75 = .ok (.iload 5, 2) := by decide +kernel
theorem dX6_keepQuarrel_77 : decode cX6_keepQuarrel 77 = .ok (.putfield 198, 3) := by decide +kernel
theorem dX6_keepQuarrel_80 : decode cX6_keepQuarrel 80 = .ok (.aload 6, 2) := by decide +kernel
theorem dX6_keepQuarrel_82 : decode cX6_keepQuarrel 82 = .ok (.iconst 0, 1) := by decide +kernel
theorem dX6_keepQuarrel_83 : decode cX6_keepQuarrel 83 = .ok (.putfield 201, 3) := by decide +kernel
theorem dX6_keepQuarrel_86 : decode cX6_keepQuarrel 86 = .ok (.return_, 1) := by decide +kernel
abbrev M_X6_keepQuarrel : MT := (yX6_keepQuarrel, cX6_keepQuarrel, 7, none)
theorem cf_X6_keepQuarrel : fq_cf M_X6_keepQuarrel 5 := ⟨(mg_1 (List.mem_of_getElem? (i := 8) rfl) rfl), (mg_5 (List.mem_of_getElem? (i := 60) rfl) rfl), ⟨by decide, by decide, by decide +kernel⟩, by decide⟩
def B_X6_keepQuarrel_0 (G : GT) (mc ms : Nat) (Q : Post) : Cn := ix_aload 0 (ix_aload 0 (ix_getI 6 8 (ix_pushI 1 (ix_iadd (ix_pushI 20 (ix_irem (ix_putI 6 8 (ix_aload 0 (ix_aload 0 (ix_getI 6 7 (ix_pushI 1 (ix_iadd (ix_pushI 20 (ix_min mc ms (ix_putI 6 7 (ix_aload 0 (ix_getR 6 2 (ix_aload 0 (ix_getI 6 8 (ix_aald 18 (ix_astore 6 (ix_aload 6 (ix_aload 0 (ix_getI 6 12 (ix_putI 3 0 (ix_aload 6 (ix_iload 1 (ix_putI 3 1 (ix_aload 6 (ix_iload 2 (ix_putI 3 2 (ix_aload 6 (ix_iload 3 (ix_putI 3 3 (ix_aload 6 (ix_iload 4 (ix_putI 3 4 (ix_aload 6 (ix_iload 5 (ix_putI 3 5 (ix_aload 6 (ix_pushI 0 (ix_putZ 3 6 (ix_vret mc ms Q))))))))))))))))))))))))))))))))))))))))))))
theorem b_X6_keepQuarrel_0 {l : Launch} {G : GT} {D mc ms : Nat} {Q : Post} : Imp l G M_X6_keepQuarrel (D + 1) mc ms Q (B_X6_keepQuarrel_0 G mc ms Q) 0 := sx_aload_n dX6_keepQuarrel_0 rfl (sx_aload_n dX6_keepQuarrel_1 rfl (sx_getI dX6_keepQuarrel_2 fl_FootQuarrel_Street_59 (fun _ _ _ => rfl) (sx_iconst dX6_keepQuarrel_5 rfl (sx_iadd dX6_keepQuarrel_6 (sx_bipush dX6_keepQuarrel_7 rfl (sx_irem dX6_keepQuarrel_9 (sx_putI dX6_keepQuarrel_10 fl_FootQuarrel_Street_59 (by decide) (fun _ _ _ => rfl) (fun _ => ⟨rfl, rfl⟩) (sx_aload_n dX6_keepQuarrel_13 rfl (sx_aload_n dX6_keepQuarrel_14 rfl (sx_getI dX6_keepQuarrel_15 fl_FootQuarrel_Street_56 (fun _ _ _ => rfl) (sx_iconst dX6_keepQuarrel_18 rfl (sx_iadd dX6_keepQuarrel_19 (sx_bipush dX6_keepQuarrel_20 rfl (sx_min dX6_keepQuarrel_22 (mg_4 (List.mem_of_getElem? (i := 237) rfl) rfl) (mg_3 (List.mem_of_getElem? (i := 179) rfl) rfl) (mg_1 (List.mem_of_getElem? (i := 18) rfl) rfl) (mg_3 (List.mem_of_getElem? (i := 180) rfl) rfl) (sx_putI dX6_keepQuarrel_25 fl_FootQuarrel_Street_56 (by decide) (fun _ _ _ => rfl) (fun _ => ⟨rfl, rfl⟩) (sx_aload_n dX6_keepQuarrel_28 rfl (sx_getR dX6_keepQuarrel_29 fl_FootQuarrel_Street_25 (fun _ _ _ => rfl) (sx_aload_n dX6_keepQuarrel_32 rfl (sx_getI dX6_keepQuarrel_33 fl_FootQuarrel_Street_59 (fun _ _ _ => rfl) (sx_aald dX6_keepQuarrel_36 (by decide) (by decide) rfl (sx_astore dX6_keepQuarrel_37 (by decide) (sx_aload dX6_keepQuarrel_39 (sx_aload_n dX6_keepQuarrel_41 rfl (sx_getI dX6_keepQuarrel_42 fl_FootQuarrel_Street_71 (fun _ _ _ => rfl) (sx_putI dX6_keepQuarrel_45 fl_FootQuarrel_Street_187 (by decide) (fun _ _ _ => rfl) (fun _ => ⟨rfl, rfl⟩) (sx_aload dX6_keepQuarrel_48 (sx_iload_n dX6_keepQuarrel_50 rfl (sx_putI dX6_keepQuarrel_51 fl_FootQuarrel_Street_188 (by decide) (fun _ _ _ => rfl) (fun _ => ⟨rfl, rfl⟩) (sx_aload dX6_keepQuarrel_54 (sx_iload_n dX6_keepQuarrel_56 rfl (sx_putI dX6_keepQuarrel_57 fl_FootQuarrel_Street_191 (by decide) (fun _ _ _ => rfl) (fun _ => ⟨rfl, rfl⟩) (sx_aload dX6_keepQuarrel_60 (sx_iload_n dX6_keepQuarrel_62 rfl (sx_putI dX6_keepQuarrel_63 fl_FootQuarrel_Street_194 (by decide) (fun _ _ _ => rfl) (fun _ => ⟨rfl, rfl⟩) (sx_aload dX6_keepQuarrel_66 (sx_iload dX6_keepQuarrel_68 (sx_putI dX6_keepQuarrel_70 fl_FootQuarrel_Street_197 (by decide) (fun _ _ _ => rfl) (fun _ => ⟨rfl, rfl⟩) (sx_aload dX6_keepQuarrel_73 (sx_iload dX6_keepQuarrel_75 (sx_putI dX6_keepQuarrel_77 fl_FootQuarrel_Street_198 (by decide) (fun _ _ _ => rfl) (fun _ => ⟨rfl, rfl⟩) (sx_aload dX6_keepQuarrel_80 (sx_iconst dX6_keepQuarrel_82 rfl (sx_putZ dX6_keepQuarrel_83 fl_FootQuarrel_Street_201 (by decide) (fun _ _ _ => rfl) (fun v h => by rcases h with h | h <;> subst h <;> exact ⟨rfl, rfl⟩) (sx_vret dX6_keepQuarrel_86 rfl))))))))))))))))))))))))))))))))))))))))))))
theorem n_14_0 (s : Nat) : s + 14 + 0 = s + 14 := rfl
theorem n_14_1 (s : Nat) : s + 14 + 1 = s + 15 := rfl
theorem n_p14 (s p : Nat) : s + 24 + p ≠ s + 14 := by omega
theorem n_p15 (s p : Nat) : s + 24 + p ≠ s + 15 := by omega
theorem n_p16 (s p : Nat) : s + 24 + p ≠ s + 16 := by omega
theorem n_p17 (s p : Nat) : s + 24 + p ≠ s + 17 := by omega
theorem n_h16 (s p : Nat) : s + 18 + p ≠ s + 16 := by omega
theorem n_h17 (s p : Nat) : s + 18 + p ≠ s + 17 := by omega
theorem n_hp (s h p : Nat) (hh : h < 6) : s + 18 + h ≠ s + 24 + p := by omega
theorem n_ph (s h p : Nat) (hh : h < 6) : s + 24 + p ≠ s + 18 + h := by omega
theorem cpF_at {α : Type} (I : Nat → Nat → α) (a b lo hi k : Nat) (h1 : lo ≤ k) (h2 : k ≤ hi) : cpF I a b lo hi a k = I b k := by
  unfold cpF
  rw [if_pos ⟨rfl, h1, h2⟩]
def sp_X6_settleSide (G : GT) : Sp := fun as S I J z Q => match as with
  | [.ref s, .int d, .int p] => stS S s ∧ vp_in p 8 ∧ (d = 0 ∨ d = 1) ∧ vp_in (I (s + 14 + d.toNatClampNeg) 1) 6 ∧ Q none S (stl I s d.toNatClampNeg p.toNatClampNeg (I (s + 14 + d.toNatClampNeg) 1).toNatClampNeg) (u2 J (s + 24 + p.toNatClampNeg) 0 (J (s + 14 + d.toNatClampNeg) 0)) z
  | _ => False
set_option maxHeartbeats 4000000 in
set_option maxRecDepth 20000 in
theorem c_X6_settleSide {l : Launch} {G : GT} {D : Nat} : ∀ as S I J z Q, sp_X6_settleSide G as S I J z Q → fqCall l G M_X6_settleSide (D + 1) 0 0 as S I J z Q := by
  intro as S I J z Q h
  unfold sp_X6_settleSide at h
  split at h
  · next s d p =>
    obtain ⟨hs, hp, hd, hh, hQ⟩ := h
    obtain ⟨p, hp9, rfl⟩ := vp_in_of hp (by decide)
    rw [nI_clamp (by omega)] at hQ
    rcases hd with rfl | rfl
    · rw [tn0, n_14_0] at hh hQ
      obtain ⟨c, hc, he⟩ := vp_in_of hh (by decide)
      rw [he, nI_clamp (by omega)] at hQ
      refine fq_enter [some (.ref s), some (.int 0), some (.int (nI p)), none] (by decide +kernel) (Nat.le_of_ble_eq_true rfl) rfl (b_X6_settleSide_0 _ _ _ _ _ _ _ _ ?_)
      simp (disch := omega) only [B_X6_settleSide_0, sp_X2_copyFrom, hs.k, hs.r0, hs.k1, hs.r1, hs.k2, hs.r2, hs.k3, hs.r3, hs.k4, hs.r4, hs.k12, hs.n1, hs.n2, hs.n3, hs.y0, hs.k5, hs.n5, hs.y1, hs.k6, hs.n6, hs.y2, hs.k7, hs.n7, hs.y3, hs.k8, hs.n8, hs.y4, hs.k9, hs.n9, hs.y5, hs.k10, hs.n10, hs.y6, hs.k11, hs.n11, hs.p0, hs.p1, hs.p2, hs.k13, hs.n13, hs.q0, hs.q1, hs.k14, hs.k15, hs.k16, hs.n16, hs.k17, hs.n17, hs.rH, hs.kH, hs.rP, hs.kP, hs.rQ, hs.kQ, tn0, tn1, vin02, vin12, cpF_at, he, cpF_ca, u2_ca, u2_ck, nI_1, nI_add, nI_clamp, nI_pin, nI_neg, nI_nonneg, nI_leE, nI_ltE, nI_eqE, Nat.not_le, Nat.not_lt, fq_10, fq_01, fq_rr, ix_aald, ix_aast, ix_abs, ix_alen, ix_aload, ix_aret, ix_astore, ix_bald, ix_bast, ix_call, ix_cpyI, ix_cpyJ, ix_dead, ix_dup2, ix_dup2L, ix_dupI, ix_dupR, ix_dupx1, ix_getI, ix_getJ, ix_getR, ix_gfm, ix_gtab, ix_i2b, ix_i2c, ix_i2l, ix_i2s, ix_iadd, ix_iald, ix_iand, ix_iast, ix_icall, ix_icmp_eq, ix_icmp_ge, ix_icmp_gt, ix_icmp_le, ix_icmp_lt, ix_icmp_ne, ix_idiv, ix_if_eq, ix_if_ge, ix_if_gt, ix_if_le, ix_if_lt, ix_if_ne, ix_iinc, ix_iload, ix_imul, ix_ineg, ix_ior, ix_irem, ix_iret, ix_ishl, ix_ishr, ix_istore, ix_isub, ix_iushr, ix_ixor, ix_l2i, ix_ladd, ix_lald, ix_land, ix_last, ix_lcmp, ix_ldcS, ix_ldiv, ix_lload, ix_lmul, ix_lor, ix_lrem, ix_lret, ix_lshl, ix_lstore, ix_lsub, ix_lsw, ix_max, ix_min, ix_new, ix_newa, ix_nret, ix_oinit, ix_pop2L, ix_popI, ix_pushI, ix_pushL, ix_putI, ix_putJ, ix_putR, ix_putZ, ix_sbald, ix_sgetC, ix_sgetV, ix_slen, ix_strc, ix_tald, ix_tsw, ix_vcall, ix_vret, ix_zret, stL, stL2, kilL, popN, fq_sw, fq_lsw, List.map_cons, List.map_nil, List.getElem?_cons_zero, List.getElem?_cons_succ, Option.toList_some, Option.toList_none, List.cons_append, List.nil_append, List.length_cons, List.length_nil, List.sum_cons, List.sum_nil, cat_i, cat_l, cat_r, true_and, and_true, Nat.zero_add, Nat.add_zero, Nat.le_refl, Nat.zero_le, Nat.reduceAdd, Nat.reduceLeDiff, exists_eq_left', Option.some.injEq, not_true_eq_false, not_false_eq_true, false_implies, true_implies, implies_true, and_self, or_true, true_or, or_false, false_or]
      have e1 : u2 (u2 (cpF I (s + 24 + p) (s + 14) 1 7) (s + 18 + c) 2 (I (s + 16) 0)) (s + 18 + c) 3 (I (s + 18 + c) 3 + I (s + 17) 0) = stl I s 0 p c := by
        have n1 := n_hp s c p hc
        have n2 := n_ph s c p hc
        funext q k
        unfold u2 cpF stl
        by_cases h1 : q = s + 24 + p
        · subst h1
          simp [n2]
        · by_cases h2 : q = s + 18 + c
          · subst h2
            by_cases h3 : k = 3
            · subst h3
              simp [n1]
            · simp [n1, h3]
          · simp [h1, h2]
      rw [e1]
      exact hQ
    · rw [tn1, n_14_1] at hh hQ
      obtain ⟨c, hc, he⟩ := vp_in_of hh (by decide)
      rw [he, nI_clamp (by omega)] at hQ
      refine fq_enter [some (.ref s), some (.int 1), some (.int (nI p)), none] (by decide +kernel) (Nat.le_of_ble_eq_true rfl) rfl (b_X6_settleSide_0 _ _ _ _ _ _ _ _ ?_)
      simp (disch := omega) only [B_X6_settleSide_0, sp_X2_copyFrom, hs.k, hs.r0, hs.k1, hs.r1, hs.k2, hs.r2, hs.k3, hs.r3, hs.k4, hs.r4, hs.k12, hs.n1, hs.n2, hs.n3, hs.y0, hs.k5, hs.n5, hs.y1, hs.k6, hs.n6, hs.y2, hs.k7, hs.n7, hs.y3, hs.k8, hs.n8, hs.y4, hs.k9, hs.n9, hs.y5, hs.k10, hs.n10, hs.y6, hs.k11, hs.n11, hs.p0, hs.p1, hs.p2, hs.k13, hs.n13, hs.q0, hs.q1, hs.k14, hs.k15, hs.k16, hs.n16, hs.k17, hs.n17, hs.rH, hs.kH, hs.rP, hs.kP, hs.rQ, hs.kQ, tn0, tn1, vin02, vin12, cpF_at, he, cpF_ca, u2_ca, u2_ck, nI_1, nI_add, nI_clamp, nI_pin, nI_neg, nI_nonneg, nI_leE, nI_ltE, nI_eqE, Nat.not_le, Nat.not_lt, fq_10, fq_01, fq_rr, ix_aald, ix_aast, ix_abs, ix_alen, ix_aload, ix_aret, ix_astore, ix_bald, ix_bast, ix_call, ix_cpyI, ix_cpyJ, ix_dead, ix_dup2, ix_dup2L, ix_dupI, ix_dupR, ix_dupx1, ix_getI, ix_getJ, ix_getR, ix_gfm, ix_gtab, ix_i2b, ix_i2c, ix_i2l, ix_i2s, ix_iadd, ix_iald, ix_iand, ix_iast, ix_icall, ix_icmp_eq, ix_icmp_ge, ix_icmp_gt, ix_icmp_le, ix_icmp_lt, ix_icmp_ne, ix_idiv, ix_if_eq, ix_if_ge, ix_if_gt, ix_if_le, ix_if_lt, ix_if_ne, ix_iinc, ix_iload, ix_imul, ix_ineg, ix_ior, ix_irem, ix_iret, ix_ishl, ix_ishr, ix_istore, ix_isub, ix_iushr, ix_ixor, ix_l2i, ix_ladd, ix_lald, ix_land, ix_last, ix_lcmp, ix_ldcS, ix_ldiv, ix_lload, ix_lmul, ix_lor, ix_lrem, ix_lret, ix_lshl, ix_lstore, ix_lsub, ix_lsw, ix_max, ix_min, ix_new, ix_newa, ix_nret, ix_oinit, ix_pop2L, ix_popI, ix_pushI, ix_pushL, ix_putI, ix_putJ, ix_putR, ix_putZ, ix_sbald, ix_sgetC, ix_sgetV, ix_slen, ix_strc, ix_tald, ix_tsw, ix_vcall, ix_vret, ix_zret, stL, stL2, kilL, popN, fq_sw, fq_lsw, List.map_cons, List.map_nil, List.getElem?_cons_zero, List.getElem?_cons_succ, Option.toList_some, Option.toList_none, List.cons_append, List.nil_append, List.length_cons, List.length_nil, List.sum_cons, List.sum_nil, cat_i, cat_l, cat_r, true_and, and_true, Nat.zero_add, Nat.add_zero, Nat.le_refl, Nat.zero_le, Nat.reduceAdd, Nat.reduceLeDiff, exists_eq_left', Option.some.injEq, not_true_eq_false, not_false_eq_true, false_implies, true_implies, implies_true, and_self, or_true, true_or, or_false, false_or]
      have e1 : u2 (u2 (cpF I (s + 24 + p) (s + 15) 1 7) (s + 18 + c) 2 (I (s + 16) 1)) (s + 18 + c) 3 (I (s + 18 + c) 3 + I (s + 17) 1) = stl I s 1 p c := by
        have n1 := n_hp s c p hc
        have n2 := n_ph s c p hc
        funext q k
        unfold u2 cpF stl
        by_cases h1 : q = s + 24 + p
        · subst h1
          simp [n2]
        · by_cases h2 : q = s + 18 + c
          · subst h2
            by_cases h3 : k = 3
            · subst h3
              simp [n1]
            · simp [n1, h3]
          · simp [h1, h2]
      rw [e1]
      exact hQ
  · exact h.elim
theorem n_sq (s m : Nat) : ¬ s = s + 32 + m := by omega
theorem n_qs (s m : Nat) : ¬ s + 32 + m = s := by omega
def sp_X6_keepQuarrel (G : GT) : Sp := fun as S I J z Q => match as with
  | [.ref s, .int wl, .int on, .int ot, .int mn, .int ft] => stS S s ∧ okN (I s 7) 20 ∧ okN (I s 8) 19 ∧ Q none S (kqI I s (I s 8).toNatClampNeg (I s 7).toNatClampNeg wl on ot mn ft) J z
  | _ => False
set_option maxHeartbeats 4000000 in
set_option maxRecDepth 20000 in
theorem c_X6_keepQuarrel {l : Launch} {G : GT} {D : Nat} : ∀ as S I J z Q, sp_X6_keepQuarrel G as S I J z Q → fqCall l G M_X6_keepQuarrel (D + 1) 0 0 as S I J z Q := by
  intro as S I J z Q h
  unfold sp_X6_keepQuarrel at h
  split at h
  · next s wl on ot mn ft =>
    obtain ⟨hs, hkp, hnw, hQ⟩ := h
    obtain ⟨kp, hkp1, hkp2, hkp3⟩ := hkp.ex
    obtain ⟨nw, hnw1, hnw2, hnw3⟩ := hnw.ex
    rw [hkp3, hnw3] at hQ
    have r1 := rem20 nw (by omega)
    have r2 := min20 kp (by omega)
    have q1 : (nw + 1) % 20 < 20 := Nat.mod_lt _ (by decide)
    refine fq_enter [some (.ref s), some (.int wl), some (.int on), some (.int ot), some (.int mn), some (.int ft), none] (by decide +kernel) (Nat.le_of_ble_eq_true rfl) rfl (b_X6_keepQuarrel_0 _ _ _ _ _ _ _ _ ?_)
    simp (disch := omega) only [B_X6_keepQuarrel_0, hs.k, hs.r0, hs.k1, hs.r1, hs.k2, hs.r2, hs.k3, hs.r3, hs.k4, hs.r4, hs.k12, hs.n1, hs.n2, hs.n3, hs.y0, hs.k5, hs.n5, hs.y1, hs.k6, hs.n6, hs.y2, hs.k7, hs.n7, hs.y3, hs.k8, hs.n8, hs.y4, hs.k9, hs.n9, hs.y5, hs.k10, hs.n10, hs.y6, hs.k11, hs.n11, hs.p0, hs.p1, hs.p2, hs.k13, hs.n13, hs.q0, hs.q1, hs.k14, hs.k15, hs.k16, hs.n16, hs.k17, hs.n17, hs.rH, hs.kH, hs.rP, hs.kP, hs.rQ, hs.kQ, hkp2, hnw2, r1, r2, u2_ca, u2_ck, u2_same, nI_1, nI_add, nI_clamp, nI_pin, nI_neg, nI_nonneg, nI_leE, nI_ltE, nI_eqE, Nat.not_le, Nat.not_lt, fq_10, fq_01, fq_rr, ix_aald, ix_aast, ix_abs, ix_alen, ix_aload, ix_aret, ix_astore, ix_bald, ix_bast, ix_call, ix_cpyI, ix_cpyJ, ix_dead, ix_dup2, ix_dup2L, ix_dupI, ix_dupR, ix_dupx1, ix_getI, ix_getJ, ix_getR, ix_gfm, ix_gtab, ix_i2b, ix_i2c, ix_i2l, ix_i2s, ix_iadd, ix_iald, ix_iand, ix_iast, ix_icall, ix_icmp_eq, ix_icmp_ge, ix_icmp_gt, ix_icmp_le, ix_icmp_lt, ix_icmp_ne, ix_idiv, ix_if_eq, ix_if_ge, ix_if_gt, ix_if_le, ix_if_lt, ix_if_ne, ix_iinc, ix_iload, ix_imul, ix_ineg, ix_ior, ix_irem, ix_iret, ix_ishl, ix_ishr, ix_istore, ix_isub, ix_iushr, ix_ixor, ix_l2i, ix_ladd, ix_lald, ix_land, ix_last, ix_lcmp, ix_ldcS, ix_ldiv, ix_lload, ix_lmul, ix_lor, ix_lrem, ix_lret, ix_lshl, ix_lstore, ix_lsub, ix_lsw, ix_max, ix_min, ix_new, ix_newa, ix_nret, ix_oinit, ix_pop2L, ix_popI, ix_pushI, ix_pushL, ix_putI, ix_putJ, ix_putR, ix_putZ, ix_sbald, ix_sgetC, ix_sgetV, ix_slen, ix_strc, ix_tald, ix_tsw, ix_vcall, ix_vret, ix_zret, stL, stL2, kilL, popN, fq_sw, fq_lsw, List.map_cons, List.map_nil, List.getElem?_cons_zero, List.getElem?_cons_succ, Option.toList_some, Option.toList_none, List.cons_append, List.nil_append, List.length_cons, List.length_nil, List.sum_cons, List.sum_nil, cat_i, cat_l, cat_r, true_and, and_true, Nat.zero_add, Nat.add_zero, Nat.le_refl, Nat.zero_le, Nat.reduceAdd, Nat.reduceLeDiff, exists_eq_left', Option.some.injEq, not_true_eq_false, not_false_eq_true, false_implies, true_implies, implies_true, and_self, or_true, true_or, or_false, false_or]
    refine ⟨by decide, ?_⟩
    have e1 : u2 (u2 (u2 (u2 (u2 (u2 (u2 (u2 (u2 I s 8 (nI ((nw + 1) % 20))) s 7 (nI (min (kp + 1) 20))) (s + 32 + (nw + 1) % 20) 0 (I s 12)) (s + 32 + (nw + 1) % 20) 1 wl) (s + 32 + (nw + 1) % 20) 2 on) (s + 32 + (nw + 1) % 20) 3 ot) (s + 32 + (nw + 1) % 20) 4 mn) (s + 32 + (nw + 1) % 20) 5 ft) (s + 32 + (nw + 1) % 20) 6 0 = kqI I s nw kp wl on ot mn ft := by
      have n1 := n_sq s ((nw + 1) % 20)
      have n2 := n_qs s ((nw + 1) % 20)
      funext q k
      unfold u2 kqI
      generalize (nw + 1) % 20 = m at *
      by_cases h1 : q = s + 32 + m
      · subst h1
        rcases (show k = 0 ∨ k = 1 ∨ k = 2 ∨ k = 3 ∨ k = 4 ∨ k = 5 ∨ k = 6 ∨ 7 ≤ k by omega) with rfl | rfl | rfl | rfl | rfl | rfl | rfl | hk
        · simp
        · simp
        · simp
        · simp
        · simp
        · simp
        · simp
        · simp [n2, show ¬ k ≤ 6 by omega, show ¬ k = 0 by omega, show ¬ k = 1 by omega, show ¬ k = 2 by omega, show ¬ k = 3 by omega, show ¬ k = 4 by omega, show ¬ k = 5 by omega, show ¬ k = 6 by omega]
      · by_cases h2 : q = s
        · subst h2
          by_cases h3 : k = 7
          · subst h3
            simp [n1]
          · simp [n1, h3]
        · simp [h1, h2]
    rw [e1]
    exact hQ
  · exact h.elim
theorem dX6_utter_0 : decode cX6_utter 0 = .ok (.aload_n 0, 1) := by decide +kernel
theorem dX6_utter_1 : decode cX6_utter 1 = .ok (.iload_n 1, 1) := by decide +kernel
theorem dX6_utter_2 : decode cX6_utter 2 = .ok (.iload_n 2, 1) := by decide +kernel
theorem dX6_utter_3 : decode cX6_utter 3 = .ok (.invokevirtual 132, 3) := by decide +kernel
theorem dX6_utter_6 : decode cX6_utter 6 = .ok (.istore_n 3, 1) := by decide +kernel
theorem dX6_utter_7 : decode cX6_utter 7 = .ok (.iload_n 3, 1) := by decide +kernel
theorem dX6_utter_8 : decode cX6_utter 8 = .ok (.iconst (-1), 1) := by decide +kernel
theorem dX6_utter_9 : decode cX6_utter 9 = .ok (.if_icmp .ne 5, 3) := by decide +kernel
theorem dX6_utter_12 : decode cX6_utter 12 = .ok (.iconst 0, 1) := by decide +kernel
theorem dX6_utter_13 : decode cX6_utter 13 = .ok (.ireturn, 1) := by decide +kernel
theorem dX6_utter_14 : decode cX6_utter 14 = .ok (.aload_n 0, 1) := by decide +kernel
theorem dX6_utter_15 : decode cX6_utter 15 = .ok (.iload_n 1, 1) := by decide +kernel
theorem dX6_utter_16 : decode cX6_utter 16 = .ok (.iload_n 2, 1) := by decide +kernel
theorem dX6_utter_17 : decode cX6_utter 17 = .ok (.invokevirtual 167, 3) := by decide +kernel
theorem dX6_utter_20 : decode cX6_utter 20 = .ok (.iconst 0, 1) := by decide +kernel
theorem dX6_utter_21 : decode cX6_utter 21 = .ok (.invokevirtual 171, 3) := by decide +kernel
theorem dX6_utter_24 : decode cX6_utter 24 = .ok (.istore 4, 2) := by decide +kernel
theorem dX6_utter_26 : decode cX6_utter 26 = .ok (.aload_n 0, 1) := by decide +kernel
theorem dX6_utter_27 : decode cX6_utter 27 = .ok (.iload_n 3, 1) := by decide +kernel
theorem dX6_utter_28 : decode cX6_utter 28 = .ok (.invokevirtual 174, 3) := by decide +kernel
theorem dX6_utter_31 : decode cX6_utter 31 = .ok (.istore 5, 2) := by decide +kernel
theorem dX6_utter_33 : decode cX6_utter 33 = .ok (.aload_n 0, 1) := by decide +kernel
theorem dX6_utter_34 : decode cX6_utter 34 = .ok (.iconst 0, 1) := by decide +kernel
theorem dX6_utter_35 : decode cX6_utter 35 = .ok (.iload_n 1, 1) := by decide +kernel
theorem dX6_utter_36 : decode cX6_utter 36 = .ok (.invokevirtual 177, 3) := by decide +kernel
theorem dX6_utter_39 : decode cX6_utter 39 = .ok (.aload_n 0, 1) := by decide +kernel
theorem dX6_utter_40 : decode cX6_utter 40 = .ok (.iconst 1, 1) := by decide +kernel
theorem dX6_utter_41 : decode cX6_utter 41 = .ok (.iload_n 2, 1) := by decide +kernel
theorem dX6_utter_42 : decode cX6_utter 42 = .ok (.invokevirtual 177, 3) := by decide +kernel
theorem dX6_utter_45 : decode cX6_utter 45 = .ok (.aload_n 0, 1) := by decide +kernel
theorem dX6_utter_46 : decode cX6_utter 46 = .ok (.dup, 1) := by decide +kernel
theorem dX6_utter_47 : decode cX6_utter 47 = .ok (.getfield 77, 3) := by decide +kernel
theorem dX6_utter_50 : decode cX6_utter 50 = .ok (.iconst 1, 1) := by decide +kernel
theorem dX6_utter_51 : decode cX6_utter 51 = .ok (.iadd, 1) := by decide +kernel
theorem dX6_utter_52 : decode cX6_utter 52 = .ok (.putfield 77, 3) := by decide +kernel
theorem dX6_utter_55 : decode cX6_utter 55 = .ok (.aload_n 0, 1) := by decide +kernel
theorem dX6_utter_56 : decode cX6_utter 56 = .ok (.dup, 1) := by decide +kernel
theorem dX6_utter_57 : decode cX6_utter 57 = .ok (.getfield 80, 3) := by decide +kernel
theorem dX6_utter_60 : decode cX6_utter 60 = .ok (.iload 4, 2) := by decide +kernel
theorem dX6_utter_62 : decode cX6_utter 62 = .ok (.iadd, 1) := by decide +kernel
theorem dX6_utter_63 : decode cX6_utter 63 = .ok (.putfield 80, 3) := by decide +kernel
theorem dX6_utter_66 : decode cX6_utter 66 = .ok (.iload 4, 2) := by decide +kernel
theorem dX6_utter_68 : decode cX6_utter 68 = .ok (.ifCond .le 20, 3) := by decide +kernel
theorem dX6_utter_71 : decode cX6_utter 71 = .ok (.aload_n 0, 1) := by decide +kernel
theorem dX6_utter_72 : decode cX6_utter 72 = .ok (.iload_n 3, 1) := by decide +kernel
theorem dX6_utter_73 : decode cX6_utter 73 = .ok (.iload_n 1, 1) := by decide +kernel
theorem dX6_utter_74 : decode cX6_utter 74 = .ok (.iload_n 2, 1) := by decide +kernel
theorem dX6_utter_75 : decode cX6_utter 75 = .ok (.iload 4, 2) := by decide +kernel
theorem dX6_utter_77 : decode cX6_utter 77 = .ok (.aload_n 0, 1) := by decide +kernel
theorem dX6_utter_78 : decode cX6_utter 78 = .ok (.iload_n 3, 1) := by decide +kernel
theorem dX6_utter_79 : decode cX6_utter 79 = .ok (.invokevirtual 174, 3) := by decide +kernel
theorem dX6_utter_82 : decode cX6_utter 82 = .ok (.iload 5, 2) := by decide +kernel
theorem dX6_utter_84 : decode cX6_utter 84 = .ok (.isub, 1) := by decide +kernel
theorem dX6_utter_85 : decode cX6_utter 85 = .ok (.invokevirtual 181, 3) := by decide +kernel
theorem dX6_utter_88 : decode cX6_utter 88 = .ok (.iload 4, 2) := by decide +kernel
theorem dX6_utter_90 : decode cX6_utter 90 = .ok (.ireturn, 1) := by decide +kernel
abbrev M_X6_utter : MT := (yX6_utter, cX6_utter, 6, (some .int))
theorem cf_X6_utter : fq_cf M_X6_utter 2 := ⟨(mg_1 (List.mem_of_getElem? (i := 8) rfl) rfl), (mg_5 (List.mem_of_getElem? (i := 22) rfl) rfl), ⟨by decide, by decide, by decide +kernel⟩, by decide⟩
def B_X6_utter_88 (G : GT) (mc ms : Nat) (Q : Post) : Cn := ix_iload 4 (ix_iret mc ms Q)
theorem b_X6_utter_88 {l : Launch} {G : GT} {D mc ms : Nat} {Q : Post} : Imp l G M_X6_utter (D + 3) mc ms Q (B_X6_utter_88 G mc ms Q) 88 := sx_iload dX6_utter_88 (sx_iret dX6_utter_90 rfl)
def B_X6_utter_66 (G : GT) (mc ms : Nat) (Q : Post) : Cn := ix_iload 4 (ix_if_le ((B_X6_utter_88 G mc ms Q)) (ix_aload 0 (ix_iload 3 (ix_iload 1 (ix_iload 2 (ix_iload 4 (ix_aload 0 (ix_iload 3 (ix_vcall 6 2 0 0 mc ms (sp_X6_wallPlace G) (ix_iload 5 (ix_isub (ix_vcall 6 6 0 0 mc ms (sp_X6_keepQuarrel G) ((B_X6_utter_88 G mc ms Q))))))))))))))
theorem b_X6_utter_66 {l : Launch} {G : GT} {D mc ms : Nat} {Q : Post} : Imp l G M_X6_utter (D + 3) mc ms Q (B_X6_utter_66 G mc ms Q) 66 := sx_iload dX6_utter_66 (sx_if_le 88 dX6_utter_68 (by decide) (b_X6_utter_88) (sx_aload_n dX6_utter_71 rfl (sx_iload_n dX6_utter_72 rfl (sx_iload_n dX6_utter_73 rfl (sx_iload_n dX6_utter_74 rfl (sx_iload dX6_utter_75 (sx_aload_n dX6_utter_77 rfl (sx_iload_n dX6_utter_78 rfl (sx_vcall dX6_utter_79 cf_X6_wallPlace (mg_5 (List.mem_of_getElem? (i := 52) rfl) rfl) (mg_4 (List.mem_of_getElem? (i := 202) rfl) rfl) (mg_4 (List.mem_of_getElem? (i := 203) rfl) rfl) rfl c_X6_wallPlace (sx_iload dX6_utter_82 (sx_isub dX6_utter_84 (sx_vcall dX6_utter_85 cf_X6_keepQuarrel (mg_5 (List.mem_of_getElem? (i := 57) rfl) rfl) (mg_5 (List.mem_of_getElem? (i := 59) rfl) rfl) (mg_p (List.mem_of_getElem? (i := 31) rfl) rfl) rfl c_X6_keepQuarrel (b_X6_utter_88)))))))))))))
def B_X6_utter_45 (G : GT) (mc ms : Nat) (Q : Post) : Cn := ix_aload 0 (ix_dupR (ix_getI 6 14 (ix_pushI 1 (ix_iadd (ix_putI 6 14 (ix_aload 0 (ix_dupR (ix_getI 6 15 (ix_iload 4 (ix_iadd (ix_putI 6 15 ((B_X6_utter_66 G mc ms Q)))))))))))))
theorem b_X6_utter_45 {l : Launch} {G : GT} {D mc ms : Nat} {Q : Post} : Imp l G M_X6_utter (D + 3) mc ms Q (B_X6_utter_45 G mc ms Q) 45 := sx_aload_n dX6_utter_45 rfl (sx_dupR dX6_utter_46 (sx_getI dX6_utter_47 fl_FootQuarrel_Street_77 (fun _ _ _ => rfl) (sx_iconst dX6_utter_50 rfl (sx_iadd dX6_utter_51 (sx_putI dX6_utter_52 fl_FootQuarrel_Street_77 (by decide) (fun _ _ _ => rfl) (fun _ => ⟨rfl, rfl⟩) (sx_aload_n dX6_utter_55 rfl (sx_dupR dX6_utter_56 (sx_getI dX6_utter_57 fl_FootQuarrel_Street_80 (fun _ _ _ => rfl) (sx_iload dX6_utter_60 (sx_iadd dX6_utter_62 (sx_putI dX6_utter_63 fl_FootQuarrel_Street_80 (by decide) (fun _ _ _ => rfl) (fun _ => ⟨rfl, rfl⟩) (b_X6_utter_66))))))))))))
def B_X6_utter_26 (G : GT) (mc ms : Nat) (Q : Post) : Cn := ix_aload 0 (ix_iload 3 (ix_vcall 6 2 0 0 mc ms (sp_X6_wallPlace G) (ix_istore 5 (ix_aload 0 (ix_pushI 0 (ix_iload 1 (ix_vcall 6 3 0 0 mc ms (sp_X6_settleSide G) (ix_aload 0 (ix_pushI 1 (ix_iload 2 (ix_vcall 6 3 0 0 mc ms (sp_X6_settleSide G) ((B_X6_utter_45 G mc ms Q)))))))))))))
theorem b_X6_utter_26 {l : Launch} {G : GT} {D mc ms : Nat} {Q : Post} : Imp l G M_X6_utter (D + 3) mc ms Q (B_X6_utter_26 G mc ms Q) 26 := sx_aload_n dX6_utter_26 rfl (sx_iload_n dX6_utter_27 rfl (sx_vcall dX6_utter_28 cf_X6_wallPlace (mg_5 (List.mem_of_getElem? (i := 52) rfl) rfl) (mg_4 (List.mem_of_getElem? (i := 202) rfl) rfl) (mg_4 (List.mem_of_getElem? (i := 203) rfl) rfl) rfl c_X6_wallPlace (sx_istore dX6_utter_31 (by decide) (sx_aload_n dX6_utter_33 rfl (sx_iconst dX6_utter_34 rfl (sx_iload_n dX6_utter_35 rfl (sx_vcall dX6_utter_36 cf_X6_settleSide (mg_5 (List.mem_of_getElem? (i := 53) rfl) rfl) (mg_5 (List.mem_of_getElem? (i := 55) rfl) rfl) (mg_p (List.mem_of_getElem? (i := 30) rfl) rfl) rfl c_X6_settleSide (sx_aload_n dX6_utter_39 rfl (sx_iconst dX6_utter_40 rfl (sx_iload_n dX6_utter_41 rfl (sx_vcall dX6_utter_42 cf_X6_settleSide (mg_5 (List.mem_of_getElem? (i := 53) rfl) rfl) (mg_5 (List.mem_of_getElem? (i := 55) rfl) rfl) (mg_p (List.mem_of_getElem? (i := 30) rfl) rfl) rfl c_X6_settleSide (b_X6_utter_45))))))))))))
def B_X6_utter_0 (G : GT) (mc ms : Nat) (Q : Post) : Cn := ix_aload 0 (ix_iload 1 (ix_iload 2 (ix_vcall 6 3 0 0 mc ms (sp_X6_sharedWall G) (ix_istore 3 (ix_iload 3 (ix_pushI (-1) (ix_icmp_ne (ix_aload 0 (ix_iload 1 (ix_iload 2 (ix_vcall 6 3 0 0 mc ms (sp_X6_tryOut G) (ix_pushI 0 (ix_vcall 5 2 0 0 mc ms (sp_X5_speak G) (ix_istore 4 ((B_X6_utter_26 G mc ms Q))))))))) (ix_pushI 0 (ix_iret mc ms Q)))))))))
theorem b_X6_utter_0 {l : Launch} {G : GT} {D mc ms : Nat} {Q : Post} : Imp l G M_X6_utter (D + 3) mc ms Q (B_X6_utter_0 G mc ms Q) 0 := sx_aload_n dX6_utter_0 rfl (sx_iload_n dX6_utter_1 rfl (sx_iload_n dX6_utter_2 rfl (sx_vcall dX6_utter_3 cf_X6_sharedWall (mg_5 (List.mem_of_getElem? (i := 10) rfl) rfl) (mg_4 (List.mem_of_getElem? (i := 233) rfl) rfl) (mg_4 (List.mem_of_getElem? (i := 234) rfl) rfl) rfl c_X6_sharedWall (sx_istore_n dX6_utter_6 rfl (by decide) (sx_iload_n dX6_utter_7 rfl (sx_iconst dX6_utter_8 rfl (sx_icmp_ne 14 dX6_utter_9 (by decide) (sx_aload_n dX6_utter_14 rfl (sx_iload_n dX6_utter_15 rfl (sx_iload_n dX6_utter_16 rfl (sx_vcall dX6_utter_17 cf_X6_tryOut (mg_5 (List.mem_of_getElem? (i := 23) rfl) rfl) (mg_5 (List.mem_of_getElem? (i := 24) rfl) rfl) (mg_5 (List.mem_of_getElem? (i := 25) rfl) rfl) rfl c_X6_tryOut (sx_iconst dX6_utter_20 rfl (sx_vcall dX6_utter_21 cf_X5_speak (mg_5 (List.mem_of_getElem? (i := 31) rfl) rfl) (mg_5 (List.mem_of_getElem? (i := 32) rfl) rfl) (mg_5 (List.mem_of_getElem? (i := 33) rfl) rfl) rfl c_X5_speak (sx_istore dX6_utter_24 (by decide) (b_X6_utter_26)))))))) (sx_iconst dX6_utter_12 rfl (sx_iret dX6_utter_13 rfl)))))))))
def sp_X6_utter (G : GT) : Sp := fun as S I J z Q => match as with
  | [.ref s, .int a, .int b] => vp_in a 8 ∧ vp_in b 8 ∧ prS S I s a.toNatClampNeg b.toNatClampNeg ∧ ¬ a.toNatClampNeg = b.toNatClampNeg ∧ ¬ (I (s + 24 + a.toNatClampNeg) 1).toNatClampNeg = (I (s + 24 + b.toNatClampNeg) 1).toNatClampNeg ∧ okN (I s 7) 20 ∧ okN (I s 8) 19 ∧ ∃ w, w < 5 ∧ shW (I (s + 24 + a.toNatClampNeg) 1) (I (s + 24 + b.toNatClampNeg) 1) (I s 13) = nI w ∧ ∀ I' J', scr s (utI I s a.toNatClampNeg b.toNatClampNeg w) I' J J' → Q (some (.int (nI (qrl I s a.toNatClampNeg b.toNatClampNeg).1))) S I' J' z
  | _ => False
theorem nI_m1 {w : Nat} (h : w < 2 ^ 31) : (nI w = -1) = False := eq_false (fun q => by
  have h1 := nI_toInt h
  rw [q] at h1
  have : (-1 : Int32).toInt = -1 := by decide
  omega)
theorem stl_o (I : IH) (s d p h q k : Nat) (h1 : q ≠ s + 24 + p) (h2 : q ≠ s + 18 + h) : stl I s d p h q k = I q k := by
  unfold stl
  rw [if_neg (fun z => h1 z.1), if_neg (fun z => h2 z.1), if_neg (fun z => h2 z.1)]
theorem stl_s (I : IH) (s d p h k : Nat) : stl I s d p h s k = I s k := stl_o _ _ _ _ _ _ _ (by omega) (by omega)
theorem stl_w (I : IH) (s d p h : Nat) (hh : h < 6) : stl I s d p h (s + 18 + h) 2 = I (s + 16) d := by
  unfold stl
  rw [if_neg (by omega), if_pos ⟨rfl, rfl⟩]
theorem stl_l (I : IH) (s d p h : Nat) (hh : h < 6) : stl I s d p h (s + 18 + h) 3 = I (s + 18 + h) 3 + I (s + 17) d := by
  unfold stl
  rw [if_neg (by omega), if_neg (by omega), if_pos ⟨rfl, rfl⟩]
theorem stl_k (I : IH) (s d p h k : Nat) (hh : h < 6) (h2 : k ≠ 2) (h3 : k ≠ 3) : stl I s d p h (s + 18 + h) k = I (s + 18 + h) k := by
  unfold stl
  rw [if_neg (by omega), if_neg (by omega), if_neg (by omega)]
theorem wb_14 (I : IH) (s a b k : Nat) (x : S8) (h1 : 1 ≤ k) (h2 : k ≤ 5) : wbT (tro I s a b) s x (s + 14) k = I (s + 24 + a) k := by
  unfold wbT wbS tro
  rw [if_neg (by omega), if_neg (by omega), if_neg (by omega), if_neg (by omega), if_neg (by omega), if_neg (by omega), if_neg (by omega), if_neg (by omega), if_pos ⟨rfl, h1, by omega⟩]
theorem wb_15 (I : IH) (s a b k : Nat) (x : S8) (h1 : 1 ≤ k) (h2 : k ≤ 5) : wbT (tro I s a b) s x (s + 15) k = I (s + 24 + b) k := by
  unfold wbT wbS tro
  rw [if_neg (by omega), if_neg (by omega), if_neg (by omega), if_neg (by omega), if_neg (by omega), if_neg (by omega), if_neg (by omega), if_neg (by omega), if_neg (by omega), if_pos ⟨rfl, h1, by omega⟩]
/-- the heap behind a say, before the quarrel is laid -/
theorem ut_P {I I1 : IH} {J J1 : JH} {s a b ca cb : Nat} (hca : ca < 6) (hcb : cb < 6) (ha9 : a < 8) (hb9 : b < 8) (hab : ¬ a = b) (hc : ¬ ca = cb) (hea : I (s + 24 + a) 1 = nI ca) (heb : I (s + 24 + b) 1 = nI cb) (h1 : wbT (tro I s a b) s (qrl I s a b).2 = I1) (hJ : troJ J s a b = J1) (x y : Int32) (hx : x = I s 14 + 1) (hy : y = I s 15 + nI (qrl I s a b).1) : scr s (utP I s a b) (u2 (u2 (stl (stl I1 s 0 a ca) s 1 b cb) s 14 x) s 15 y) J (u2 (u2 J1 (s + 24 + a) 0 (J1 (s + 14) 0)) (s + 24 + b) 0 (J1 (s + 15) 0)) := by
  have t1 : ∀ q k, (q < s + 12 ∨ s + 18 ≤ q) → I1 q k = I q k := by
    rw [← h1]
    exact (scr.tr (tro_scr I J s a b) (wbT_scr _ _ s (qrl I s a b).2)).1
  have t2 : ∀ q k, (q < s + 12 ∨ s + 18 ≤ q) → J1 q k = J q k := by
    rw [← hJ]
    exact (tro_scr I J s a b).2
  have c14 : ∀ k, 1 ≤ k → k ≤ 5 → I1 (s + 14) k = I (s + 24 + a) k := fun k g1 g2 => by rw [← h1]; exact wb_14 I s a b k _ g1 g2
  have c15 : ∀ k, 1 ≤ k → k ≤ 5 → I1 (s + 15) k = I (s + 24 + b) k := fun k g1 g2 => by rw [← h1]; exact wb_15 I s a b k _ g1 g2
  have d1 : I1 (s + 14) 6 = (qrl I s a b).2.1 := by rw [← h1]; simp [wbT, wbS]
  have d2 : I1 (s + 15) 6 = (qrl I s a b).2.2.1 := by rw [← h1]; simp [wbT, wbS]
  have d3 : I1 (s + 14) 7 = (qrl I s a b).2.2.2.1 := by rw [← h1]; simp [wbT, wbS]
  have d4 : I1 (s + 15) 7 = (qrl I s a b).2.2.2.2.1 := by rw [← h1]; simp [wbT, wbS]
  have d5 : I1 (s + 16) 0 = (qrl I s a b).2.2.2.2.2.1 := by rw [← h1]; simp [wbT, wbS]
  have d6 : I1 (s + 16) 1 = (qrl I s a b).2.2.2.2.2.2.1 := by rw [← h1]; simp [wbT, wbS]
  have d7 : I1 (s + 17) 0 = (qrl I s a b).2.2.2.2.2.2.2.1 := by rw [← h1]; simp [wbT, wbS]
  have d8 : I1 (s + 17) 1 = (qrl I s a b).2.2.2.2.2.2.2.2 := by rw [← h1]; simp [wbT, wbS]
  have j14 : J1 (s + 14) 0 = J (s + 24 + a) 0 := by rw [← hJ]; simp [troJ, u2]
  have j15 : J1 (s + 15) 0 = J (s + 24 + b) 0 := by rw [← hJ]; simp [troJ, u2]
  have m1 : (I (s + 24 + a) 1).toNatClampNeg = ca := by rw [hea]; exact nI_clamp (by omega)
  have m2 : (I (s + 24 + b) 1).toNatClampNeg = cb := by rw [heb]; exact nI_clamp (by omega)
  refine ⟨fun q k hq => ?_, fun q k hq => ?_⟩
  · unfold utP
    rw [m1, m2]
    by_cases g1 : q = s
    · subst g1
      rw [if_neg (by omega), if_neg (by omega), if_neg (by omega), if_neg (by omega), if_neg (by omega), if_neg (by omega), if_neg (by omega), if_neg (by omega)]
      by_cases g2 : k = 14
      · subst g2
        rw [u2_ck _ _ _ _ _ _ (by decide), u2_same, if_pos ⟨rfl, rfl⟩, hx]
      · by_cases g3 : k = 15
        · subst g3
          rw [u2_same, if_neg (by omega), if_pos ⟨rfl, rfl⟩, hy]
        · rw [u2_ck _ _ _ _ _ _ g3, u2_ck _ _ _ _ _ _ g2, stl_s, stl_s, if_neg (by omega), if_neg (by omega)]
          exact t1 _ _ (by omega)
    · rw [u2_ca _ _ _ _ _ _ g1, u2_ca _ _ _ _ _ _ g1]
      by_cases g2 : q = s + 24 + b
      · subst g2
        have e1 : stl (stl I1 s 0 a ca) s 1 b cb (s + 24 + b) k = if 1 ≤ k ∧ k ≤ 7 then I1 (s + 15) k else I1 (s + 24 + b) k := by
          unfold stl
          by_cases g3 : 1 ≤ k ∧ k ≤ 7
          · rw [if_pos ⟨rfl, g3⟩, if_pos g3, if_neg (by omega), if_neg (by omega), if_neg (by omega)]
          · rw [if_neg (fun z => g3 z.2), if_neg g3, if_neg (by omega), if_neg (by omega), if_neg (by omega), if_neg (by omega), if_neg (by omega)]
        rw [e1]
        by_cases g3 : 1 ≤ k ∧ k ≤ 7
        · rw [if_pos g3]
          by_cases g4 : k = 6
          · subst g4
            rw [if_neg (by omega), if_neg (by omega), if_pos ⟨rfl, rfl⟩, d2]
          · by_cases g5 : k = 7
            · subst g5
              rw [if_neg (by omega), if_neg (by omega), if_neg (by omega), if_pos ⟨rfl, rfl⟩, d4]
            · rw [c15 k g3.1 (by omega), if_neg (by omega), if_neg (by omega), if_neg (by omega), if_neg (by omega), if_neg (by omega), if_neg (by omega), if_neg (by omega), if_neg (by omega), if_neg (by omega), if_neg (by omega)]
        · rw [if_neg g3, t1 _ _ (by omega), if_neg (by omega), if_neg (by omega), if_neg (by omega), if_neg (by omega), if_neg (by omega), if_neg (by omega), if_neg (by omega), if_neg (by omega), if_neg (by omega), if_neg (by omega)]
      · by_cases g6 : q = s + 24 + a
        · subst g6
          have e1 : stl (stl I1 s 0 a ca) s 1 b cb (s + 24 + a) k = if 1 ≤ k ∧ k ≤ 7 then I1 (s + 14) k else I1 (s + 24 + a) k := by
            rw [stl_o _ _ _ _ _ _ _ g2 (by omega)]
            unfold stl
            by_cases g3 : 1 ≤ k ∧ k ≤ 7
            · rw [if_pos ⟨rfl, g3⟩, if_pos g3]
            · rw [if_neg (fun z => g3 z.2), if_neg g3, if_neg (by omega), if_neg (by omega)]
          rw [e1]
          by_cases g3 : 1 ≤ k ∧ k ≤ 7
          · rw [if_pos g3]
            by_cases g4 : k = 6
            · subst g4
              rw [if_pos ⟨rfl, rfl⟩, d1]
            · by_cases g5 : k = 7
              · subst g5
                rw [if_neg (by omega), if_pos ⟨rfl, rfl⟩, d3]
              · rw [c14 k g3.1 (by omega), if_neg (by omega), if_neg (by omega), if_neg (by omega), if_neg (by omega), if_neg (by omega), if_neg (by omega), if_neg (by omega), if_neg (by omega), if_neg (by omega), if_neg (by omega)]
          · rw [if_neg g3, t1 _ _ (by omega), if_neg (by omega), if_neg (by omega), if_neg (by omega), if_neg (by omega), if_neg (by omega), if_neg (by omega), if_neg (by omega), if_neg (by omega), if_neg (by omega), if_neg (by omega)]
        · rw [if_neg (fun z => g6 z.1), if_neg (fun z => g6 z.1), if_neg (fun z => g2 z.1), if_neg (fun z => g2 z.1)]
          by_cases g7 : q = s + 18 + cb
          · subst g7
            have e0 : ∀ k, stl I1 s 0 a ca (s + 18 + cb) k = I (s + 18 + cb) k := fun k => by rw [stl_o _ _ _ _ _ _ _ (by omega) (by omega)]; exact t1 _ _ (by omega)
            have e6 : stl I1 s 0 a ca (s + 16) 1 = (qrl I s a b).2.2.2.2.2.2.1 := by rw [stl_o _ _ _ _ _ _ _ (by omega) (by omega)]; exact d6
            have e8 : stl I1 s 0 a ca (s + 17) 1 = (qrl I s a b).2.2.2.2.2.2.2.2 := by rw [stl_o _ _ _ _ _ _ _ (by omega) (by omega)]; exact d8
            rw [if_neg (by omega), if_neg (by omega)]
            by_cases g8 : k = 2
            · subst g8
              rw [if_pos ⟨rfl, rfl⟩, stl_w _ _ _ _ _ hcb]
              exact e6
            · by_cases g9 : k = 3
              · subst g9
                rw [if_neg (by omega), if_pos ⟨rfl, rfl⟩, stl_l _ _ _ _ _ hcb, e0 3, e8]
              · rw [if_neg (by omega), if_neg (by omega), if_neg (by omega), if_neg (by omega), stl_k _ _ _ _ _ _ hcb g8 g9]
                exact e0 k
          · rw [stl_o _ _ _ _ _ _ _ g2 g7]
            by_cases g8 : q = s + 18 + ca
            · subst g8
              unfold stl
              rw [if_neg (by omega)]
              by_cases g8 : k = 2
              · subst g8
                rw [if_pos ⟨rfl, rfl⟩, if_pos ⟨rfl, rfl⟩]
                exact d5
              · by_cases g9 : k = 3
                · subst g9
                  rw [if_neg (by omega), if_pos ⟨rfl, rfl⟩, if_neg (by omega), if_pos ⟨rfl, rfl⟩, t1 _ _ (by omega), d7]
                · rw [if_neg (by omega), if_neg (by omega), if_neg (by omega), if_neg (by omega), if_neg (by omega), if_neg (by omega), if_neg (by omega), if_neg (by omega)]
                  exact t1 _ _ (by omega)
            · rw [stl_o _ _ _ _ _ _ _ g6 g8, if_neg (fun z => g8 z.1), if_neg (fun z => g8 z.1), if_neg (fun z => g7 z.1), if_neg (fun z => g7 z.1), if_neg (fun z => g1 z.1), if_neg (fun z => g1 z.1)]
              exact t1 _ _ hq
  · by_cases g2 : q = s + 24 + b ∧ k = 0
    · obtain ⟨rfl, rfl⟩ := g2
      rw [u2_same]
      exact j15
    · have e1 : u2 (u2 J1 (s + 24 + a) 0 (J1 (s + 14) 0)) (s + 24 + b) 0 (J1 (s + 15) 0) q k = u2 J1 (s + 24 + a) 0 (J1 (s + 14) 0) q k := by
        unfold u2
        rw [if_neg g2]
      rw [e1]
      by_cases g3 : q = s + 24 + a ∧ k = 0
      · obtain ⟨rfl, rfl⟩ := g3
        rw [u2_same]
        exact j14
      · have e2 : u2 J1 (s + 24 + a) 0 (J1 (s + 14) 0) q k = J1 q k := by
          unfold u2
          rw [if_neg g3]
        rw [e2]
        exact t2 q k hq
theorem utP_s (I : IH) (s a b k : Nat) (h1 : k ≠ 14) (h2 : k ≠ 15) : utP I s a b s k = I s k := by
  unfold utP
  rw [if_neg (by omega), if_neg (by omega), if_neg (by omega), if_neg (by omega), if_neg (by omega), if_neg (by omega), if_neg (by omega), if_neg (by omega), if_neg (by omega), if_neg (by omega)]
theorem foldU_sc {I I' : IH} {s w : Nat} (h : ∀ q k, (q < s + 12 ∨ s + 18 ≤ q) → I' q k = I q k) (x : Int32) : foldU (fun i a => a + I' (s + 18 + i) 2) 0 (w + 1) x = foldU (fun i a => a + I (s + 18 + i) 2) 0 (w + 1) x := foldU_congr (fun j y _ _ => by rw [h _ _ (by omega)])
theorem ut_Q {I I4 : IH} {J J4 : JH} {s a b w nw kp : Nat} (hkp : (I s 7).toNatClampNeg = kp) (hnw : (I s 8).toNatClampNeg = nw) (hP : scr s (utP I s a b) I4 J J4) {f : Int32} (hf : f = foldU (fun i a => a + I4 (s + 18 + i) 2) 0 (w + 1) 0 - foldU (fun i a => a + I (s + 18 + i) 2) 0 (w + 1) 0) : scr s (utQ I s a b w) (kqI I4 s nw kp (nI w) (nI a) (nI b) (nI (qrl I s a b).1) f) J J4 := by
  refine ⟨fun q k hq => ?_, hP.2⟩
  have e12 : I4 s 12 = I s 12 := by rw [hP.1 _ _ (by omega), utP_s _ _ _ _ _ (by decide) (by decide)]
  have ef : f = utF I s a b w := by
    rw [hf]
    unfold utF
    rw [foldU_sc hP.1]
  unfold kqI utQ
  rw [hkp, hnw, e12, ef]
  by_cases g1 : q = s + 32 + (nw + 1) % 20 ∧ k ≤ 6
  · rw [if_pos g1, if_pos g1]
  · rw [if_neg g1, if_neg g1]
    by_cases g2 : q = s ∧ k = 8
    · rw [if_pos g2, if_pos g2]
    · rw [if_neg g2, if_neg g2]
      by_cases g3 : q = s ∧ k = 7
      · rw [if_pos g3, if_pos g3]
      · rw [if_neg g3, if_neg g3]
        exact hP.1 q k hq
set_option maxHeartbeats 4000000 in
set_option maxRecDepth 20000 in
theorem c_X6_utter {l : Launch} {G : GT} {D : Nat} : ∀ as S I J z Q, sp_X6_utter G as S I J z Q → fqCall l G M_X6_utter (D + 3) 0 0 as S I J z Q := by
  intro as S I J z Q h
  unfold sp_X6_utter at h
  split at h
  · next s a b =>
    obtain ⟨ha, hb, ⟨hs, hha, hhb, hr⟩, hab, hhab, hkp, hnw, w, hw, hsw, hQ⟩ := h
    obtain ⟨a, ha9, rfl⟩ := vp_in_of ha (by decide)
    obtain ⟨b, hb9, rfl⟩ := vp_in_of hb (by decide)
    rw [nI_clamp (by omega)] at hha hhb
    rw [nI_clamp (by omega), nI_clamp (by omega)] at hQ hab hhab hsw
    obtain ⟨ca, hca, hea⟩ := vp_in_of hha (by decide)
    obtain ⟨cb, hcb, heb⟩ := vp_in_of hhb (by decide)
    rw [hea, heb, nI_clamp (by omega), nI_clamp (by omega)] at hhab
    obtain ⟨kp, hkp1, hkp2, hkp3⟩ := hkp.ex
    obtain ⟨nw, hnw1, hnw2, hnw3⟩ := hnw.ex
    have hc6 := qrl_le I s a b
    refine fq_enter [some (.ref s), some (.int (nI a)), some (.int (nI b)), none, none, none] (by decide +kernel) (Nat.le_of_ble_eq_true rfl) rfl (b_X6_utter_0 _ _ _ _ _ _ _ _ ?_)
    simp (disch := omega) only [B_X6_utter_0, B_X6_utter_88, sp_X6_sharedWall, sp_X6_tryOut, sp_X5_speak, sp_X6_wallPlace, sp_X6_settleSide, sp_X6_keepQuarrel, hs.k, hs.r0, hs.k1, hs.r1, hs.k2, hs.r2, hs.k3, hs.r3, hs.k4, hs.r4, hs.k12, hs.n1, hs.n2, hs.n3, hs.y0, hs.k5, hs.n5, hs.y1, hs.k6, hs.n6, hs.y2, hs.k7, hs.n7, hs.y3, hs.k8, hs.n8, hs.y4, hs.k9, hs.n9, hs.y5, hs.k10, hs.n10, hs.y6, hs.k11, hs.n11, hs.p0, hs.p1, hs.p2, hs.k13, hs.n13, hs.q0, hs.q1, hs.k14, hs.k15, hs.k16, hs.n16, hs.k17, hs.n17, hs.rH, hs.kH, hs.rP, hs.kP, hs.rQ, hs.kQ, hs, hha, hhb, hr, hsw, nI_m1, qrl_eq, tn0, tn1, vin02, vin12, fq_10, Nat.add_right_cancel_iff, nI_1, nI_add, nI_clamp, nI_pin, nI_neg, nI_nonneg, nI_leE, nI_ltE, nI_eqE, Nat.not_le, Nat.not_lt, fq_10, fq_01, fq_rr, ix_aald, ix_aast, ix_abs, ix_alen, ix_aload, ix_aret, ix_astore, ix_bald, ix_bast, ix_call, ix_cpyI, ix_cpyJ, ix_dead, ix_dup2, ix_dup2L, ix_dupI, ix_dupR, ix_dupx1, ix_getI, ix_getJ, ix_getR, ix_gfm, ix_gtab, ix_i2b, ix_i2c, ix_i2l, ix_i2s, ix_iadd, ix_iald, ix_iand, ix_iast, ix_icall, ix_icmp_eq, ix_icmp_ge, ix_icmp_gt, ix_icmp_le, ix_icmp_lt, ix_icmp_ne, ix_idiv, ix_if_eq, ix_if_ge, ix_if_gt, ix_if_le, ix_if_lt, ix_if_ne, ix_iinc, ix_iload, ix_imul, ix_ineg, ix_ior, ix_irem, ix_iret, ix_ishl, ix_ishr, ix_istore, ix_isub, ix_iushr, ix_ixor, ix_l2i, ix_ladd, ix_lald, ix_land, ix_last, ix_lcmp, ix_ldcS, ix_ldiv, ix_lload, ix_lmul, ix_lor, ix_lrem, ix_lret, ix_lshl, ix_lstore, ix_lsub, ix_lsw, ix_max, ix_min, ix_new, ix_newa, ix_nret, ix_oinit, ix_pop2L, ix_popI, ix_pushI, ix_pushL, ix_putI, ix_putJ, ix_putR, ix_putZ, ix_sbald, ix_sgetC, ix_sgetV, ix_slen, ix_strc, ix_tald, ix_tsw, ix_vcall, ix_vret, ix_zret, stL, stL2, kilL, popN, fq_sw, fq_lsw, List.map_cons, List.map_nil, List.getElem?_cons_zero, List.getElem?_cons_succ, Option.toList_some, Option.toList_none, List.cons_append, List.nil_append, List.length_cons, List.length_nil, List.sum_cons, List.sum_nil, cat_i, cat_l, cat_r, true_and, and_true, Nat.zero_add, Nat.add_zero, Nat.le_refl, Nat.zero_le, Nat.reduceAdd, Nat.reduceLeDiff, exists_eq_left', Option.some.injEq, not_true_eq_false, not_false_eq_true, false_implies, true_implies, implies_true, and_self, or_true, true_or, or_false, false_or]
    have t1 := (scr.tr (tro_scr I J s a b) (wbT_scr _ _ s (qrl I s a b).2)).1
    have f14 := wb_14 I s a b 1 (qrl I s a b).2 (by decide) (by decide)
    have f15 := wb_15 I s a b 1 (qrl I s a b).2 (by decide) (by decide)
    rw [hea] at f14
    rw [heb] at f15
    have hP := fun x y => ut_P (I := I) (J := J) (s := s) hca hcb ha9 hb9 hab hhab hea heb rfl rfl x y
    generalize wbT (tro I s a b) s (qrl I s a b).2 = I1 at *
    generalize troJ J s a b = J1 at *
    simp (disch := omega) only [B_X6_utter_26, sp_X6_wallPlace, sp_X6_settleSide, hs.k, hs.r0, hs.k1, hs.r1, hs.k2, hs.r2, hs.k3, hs.r3, hs.k4, hs.r4, hs.k12, hs.n1, hs.n2, hs.n3, hs.y0, hs.k5, hs.n5, hs.y1, hs.k6, hs.n6, hs.y2, hs.k7, hs.n7, hs.y3, hs.k8, hs.n8, hs.y4, hs.k9, hs.n9, hs.y5, hs.k10, hs.n10, hs.y6, hs.k11, hs.n11, hs.p0, hs.p1, hs.p2, hs.k13, hs.n13, hs.q0, hs.q1, hs.k14, hs.k15, hs.k16, hs.n16, hs.k17, hs.n17, hs.rH, hs.kH, hs.rP, hs.kP, hs.rQ, hs.kQ, hs, n_14_0, n_14_1, f14, f15, tn0, tn1, stl_o, foldU_sc t1, u2_ca, nI_1, nI_add, nI_clamp, nI_pin, nI_neg, nI_nonneg, nI_leE, nI_ltE, nI_eqE, Nat.not_le, Nat.not_lt, fq_10, fq_01, fq_rr, ix_aald, ix_aast, ix_abs, ix_alen, ix_aload, ix_aret, ix_astore, ix_bald, ix_bast, ix_call, ix_cpyI, ix_cpyJ, ix_dead, ix_dup2, ix_dup2L, ix_dupI, ix_dupR, ix_dupx1, ix_getI, ix_getJ, ix_getR, ix_gfm, ix_gtab, ix_i2b, ix_i2c, ix_i2l, ix_i2s, ix_iadd, ix_iald, ix_iand, ix_iast, ix_icall, ix_icmp_eq, ix_icmp_ge, ix_icmp_gt, ix_icmp_le, ix_icmp_lt, ix_icmp_ne, ix_idiv, ix_if_eq, ix_if_ge, ix_if_gt, ix_if_le, ix_if_lt, ix_if_ne, ix_iinc, ix_iload, ix_imul, ix_ineg, ix_ior, ix_irem, ix_iret, ix_ishl, ix_ishr, ix_istore, ix_isub, ix_iushr, ix_ixor, ix_l2i, ix_ladd, ix_lald, ix_land, ix_last, ix_lcmp, ix_ldcS, ix_ldiv, ix_lload, ix_lmul, ix_lor, ix_lrem, ix_lret, ix_lshl, ix_lstore, ix_lsub, ix_lsw, ix_max, ix_min, ix_new, ix_newa, ix_nret, ix_oinit, ix_pop2L, ix_popI, ix_pushI, ix_pushL, ix_putI, ix_putJ, ix_putR, ix_putZ, ix_sbald, ix_sgetC, ix_sgetV, ix_slen, ix_strc, ix_tald, ix_tsw, ix_vcall, ix_vret, ix_zret, stL, stL2, kilL, popN, fq_sw, fq_lsw, List.map_cons, List.map_nil, List.getElem?_cons_zero, List.getElem?_cons_succ, Option.toList_some, Option.toList_none, List.cons_append, List.nil_append, List.length_cons, List.length_nil, List.sum_cons, List.sum_nil, cat_i, cat_l, cat_r, true_and, and_true, Nat.zero_add, Nat.add_zero, Nat.le_refl, Nat.zero_le, Nat.reduceAdd, Nat.reduceLeDiff, exists_eq_left', Option.some.injEq, not_true_eq_false, not_false_eq_true, false_implies, true_implies, implies_true, and_self, or_true, true_or, or_false, false_or]
    have s14 : stl (stl I1 s 0 a ca) s 1 b cb s 14 = I s 14 := by rw [stl_s, stl_s]; exact t1 _ _ (by omega)
    have s15 : stl (stl I1 s 0 a ca) s 1 b cb s 15 = I s 15 := by rw [stl_s, stl_s]; exact t1 _ _ (by omega)
    have hP2 := hP _ _ rfl rfl
    simp (disch := omega) only [B_X6_utter_45, hs.k, hs.r0, hs.k1, hs.r1, hs.k2, hs.r2, hs.k3, hs.r3, hs.k4, hs.r4, hs.k12, hs.n1, hs.n2, hs.n3, hs.y0, hs.k5, hs.n5, hs.y1, hs.k6, hs.n6, hs.y2, hs.k7, hs.n7, hs.y3, hs.k8, hs.n8, hs.y4, hs.k9, hs.n9, hs.y5, hs.k10, hs.n10, hs.y6, hs.k11, hs.n11, hs.p0, hs.p1, hs.p2, hs.k13, hs.n13, hs.q0, hs.q1, hs.k14, hs.k15, hs.k16, hs.n16, hs.k17, hs.n17, hs.rH, hs.kH, hs.rP, hs.kP, hs.rQ, hs.kQ, s14, s15, u2_ck, nI_1, nI_add, nI_clamp, nI_pin, nI_neg, nI_nonneg, nI_leE, nI_ltE, nI_eqE, Nat.not_le, Nat.not_lt, fq_10, fq_01, fq_rr, ix_aald, ix_aast, ix_abs, ix_alen, ix_aload, ix_aret, ix_astore, ix_bald, ix_bast, ix_call, ix_cpyI, ix_cpyJ, ix_dead, ix_dup2, ix_dup2L, ix_dupI, ix_dupR, ix_dupx1, ix_getI, ix_getJ, ix_getR, ix_gfm, ix_gtab, ix_i2b, ix_i2c, ix_i2l, ix_i2s, ix_iadd, ix_iald, ix_iand, ix_iast, ix_icall, ix_icmp_eq, ix_icmp_ge, ix_icmp_gt, ix_icmp_le, ix_icmp_lt, ix_icmp_ne, ix_idiv, ix_if_eq, ix_if_ge, ix_if_gt, ix_if_le, ix_if_lt, ix_if_ne, ix_iinc, ix_iload, ix_imul, ix_ineg, ix_ior, ix_irem, ix_iret, ix_ishl, ix_ishr, ix_istore, ix_isub, ix_iushr, ix_ixor, ix_l2i, ix_ladd, ix_lald, ix_land, ix_last, ix_lcmp, ix_ldcS, ix_ldiv, ix_lload, ix_lmul, ix_lor, ix_lrem, ix_lret, ix_lshl, ix_lstore, ix_lsub, ix_lsw, ix_max, ix_min, ix_new, ix_newa, ix_nret, ix_oinit, ix_pop2L, ix_popI, ix_pushI, ix_pushL, ix_putI, ix_putJ, ix_putR, ix_putZ, ix_sbald, ix_sgetC, ix_sgetV, ix_slen, ix_strc, ix_tald, ix_tsw, ix_vcall, ix_vret, ix_zret, stL, stL2, kilL, popN, fq_sw, fq_lsw, List.map_cons, List.map_nil, List.getElem?_cons_zero, List.getElem?_cons_succ, Option.toList_some, Option.toList_none, List.cons_append, List.nil_append, List.length_cons, List.length_nil, List.sum_cons, List.sum_nil, cat_i, cat_l, cat_r, true_and, and_true, Nat.zero_add, Nat.add_zero, Nat.le_refl, Nat.zero_le, Nat.reduceAdd, Nat.reduceLeDiff, exists_eq_left', Option.some.injEq, not_true_eq_false, not_false_eq_true, false_implies, true_implies, implies_true, and_self, or_true, true_or, or_false, false_or]
    generalize u2 (u2 (stl (stl I1 s 0 a ca) s 1 b cb) s 14 (I s 14 + 1)) s 15 (I s 15 + nI (qrl I s a b).1) = I4 at *
    generalize u2 (u2 J1 (s + 24 + a) 0 (J1 (s + 14) 0)) (s + 24 + b) 0 (J1 (s + 15) 0) = J4 at *
    have k7 : I4 s 7 = nI kp := by
      rw [hP2.1 s 7 (by omega), utP_s _ _ _ _ _ (by decide) (by decide)]
      exact hkp2
    have k8 : I4 s 8 = nI nw := by
      rw [hP2.1 s 8 (by omega), utP_s _ _ _ _ _ (by decide) (by decide)]
      exact hnw2
    have o7 : okN (I4 s 7) 20 := by rw [k7]; exact okN.nI hkp1 (by decide)
    have o8 : okN (I4 s 8) 19 := by rw [k8]; exact okN.nI hnw1 (by decide)
    simp (disch := omega) only [B_X6_utter_66, hs.k, hs.r0, hs.k1, hs.r1, hs.k2, hs.r2, hs.k3, hs.r3, hs.k4, hs.r4, hs.k12, hs.n1, hs.n2, hs.n3, hs.y0, hs.k5, hs.n5, hs.y1, hs.k6, hs.n6, hs.y2, hs.k7, hs.n7, hs.y3, hs.k8, hs.n8, hs.y4, hs.k9, hs.n9, hs.y5, hs.k10, hs.n10, hs.y6, hs.k11, hs.n11, hs.p0, hs.p1, hs.p2, hs.k13, hs.n13, hs.q0, hs.q1, hs.k14, hs.k15, hs.k16, hs.n16, hs.k17, hs.n17, hs.rH, hs.kH, hs.rP, hs.kP, hs.rQ, hs.kQ, hs, sp_X6_wallPlace, sp_X6_keepQuarrel, B_X6_utter_88, nI_le0, o7, o8, k7, k8, nI_1, nI_add, nI_clamp, nI_pin, nI_neg, nI_nonneg, nI_leE, nI_ltE, nI_eqE, Nat.not_le, Nat.not_lt, fq_10, fq_01, fq_rr, ix_aald, ix_aast, ix_abs, ix_alen, ix_aload, ix_aret, ix_astore, ix_bald, ix_bast, ix_call, ix_cpyI, ix_cpyJ, ix_dead, ix_dup2, ix_dup2L, ix_dupI, ix_dupR, ix_dupx1, ix_getI, ix_getJ, ix_getR, ix_gfm, ix_gtab, ix_i2b, ix_i2c, ix_i2l, ix_i2s, ix_iadd, ix_iald, ix_iand, ix_iast, ix_icall, ix_icmp_eq, ix_icmp_ge, ix_icmp_gt, ix_icmp_le, ix_icmp_lt, ix_icmp_ne, ix_idiv, ix_if_eq, ix_if_ge, ix_if_gt, ix_if_le, ix_if_lt, ix_if_ne, ix_iinc, ix_iload, ix_imul, ix_ineg, ix_ior, ix_irem, ix_iret, ix_ishl, ix_ishr, ix_istore, ix_isub, ix_iushr, ix_ixor, ix_l2i, ix_ladd, ix_lald, ix_land, ix_last, ix_lcmp, ix_ldcS, ix_ldiv, ix_lload, ix_lmul, ix_lor, ix_lrem, ix_lret, ix_lshl, ix_lstore, ix_lsub, ix_lsw, ix_max, ix_min, ix_new, ix_newa, ix_nret, ix_oinit, ix_pop2L, ix_popI, ix_pushI, ix_pushL, ix_putI, ix_putJ, ix_putR, ix_putZ, ix_sbald, ix_sgetC, ix_sgetV, ix_slen, ix_strc, ix_tald, ix_tsw, ix_vcall, ix_vret, ix_zret, stL, stL2, kilL, popN, fq_sw, fq_lsw, List.map_cons, List.map_nil, List.getElem?_cons_zero, List.getElem?_cons_succ, Option.toList_some, Option.toList_none, List.cons_append, List.nil_append, List.length_cons, List.length_nil, List.sum_cons, List.sum_nil, cat_i, cat_l, cat_r, true_and, and_true, Nat.zero_add, Nat.add_zero, Nat.le_refl, Nat.zero_le, Nat.reduceAdd, Nat.reduceLeDiff, exists_eq_left', Option.some.injEq, not_true_eq_false, not_false_eq_true, false_implies, true_implies, implies_true, and_self, or_true, true_or, or_false, false_or]
    refine ⟨fun hc0 => hQ _ _ ?_, fun hc0 => ⟨okN.nI hkp1 (by decide), okN.nI hnw1 (by decide), hQ _ _ ?_⟩⟩
    · unfold utI
      rw [if_pos hc0]
      exact hP2
    · unfold utI
      rw [if_neg hc0]
      exact ut_Q hkp3 hnw3 hP2 rfl
  · exact h.elim
