/-! leaves of the street -/
def bI (c : Prop) [Decidable c] : Int32 := if c then 1 else 0
theorem bI_01 (c : Prop) [Decidable c] : (bI c = 0 ∨ bI c = 1) = True := by
  unfold bI
  by_cases h : c <;> simp [h]
theorem bI_0 (c : Prop) [Decidable c] : (bI c = 0) = ¬ c := by
  unfold bI
  by_cases h : c <;> simp [h]
theorem bI_1 (c : Prop) [Decidable c] : (bI c = 1) = c := by
  unfold bI
  by_cases h : c <;> simp [h]
theorem bI_t {c : Prop} [Decidable c] (h : c) : bI c = 1 := if_pos h
theorem bI_f {c : Prop} [Decidable c] (h : ¬ c) : bI c = 0 := if_neg h
theorem bI_c {c d : Prop} [Decidable c] [Decidable d] (h : c ↔ d) : bI c = bI d := by
  unfold bI
  by_cases hc : c
  · rw [if_pos hc, if_pos (h.mp hc)]
  · rw [if_neg hc, if_neg (fun q => hc (h.mpr q))]
def okN (x : Int32) (n : Nat) : Prop := x = nI x.toNatClampNeg ∧ x.toNatClampNeg ≤ n
theorem okN.ex {x : Int32} {n : Nat} (h : okN x n) : ∃ c : Nat, c ≤ n ∧ x = nI c ∧ x.toNatClampNeg = c := ⟨_, h.2, h.1, rfl⟩
theorem okN.nI {c n : Nat} (h : c ≤ n) (hn : n < 2 ^ 31) : okN (nI c) n := ⟨by rw [nI_clamp (by omega)], by rw [nI_clamp (by omega)]; exact h⟩
def fndU (p : Nat → Bool) : Nat → Nat → Int32
  | _, 0 => -1
  | i, n + 1 => if p i then nI i else fndU p (i + 1) n
theorem fndU_0 (p : Nat → Bool) (i : Nat) : fndU p i 0 = -1 := rfl
theorem fndU_1 (p : Nat → Bool) (i n : Nat) : fndU p i (n + 1) = if p i then nI i else fndU p (i + 1) n := rfl
theorem dX6_wallPlace_0 : decode cX6_wallPlace 0 = .ok (.iconst 0, 1) := by decide +kernel
theorem dX6_wallPlace_1 : decode cX6_wallPlace 1 = .ok (.istore_n 2, 1) := by decide +kernel
theorem dX6_wallPlace_2 : decode cX6_wallPlace 2 = .ok (.iconst 0, 1) := by decide +kernel
theorem dX6_wallPlace_3 : decode cX6_wallPlace 3 = .ok (.istore_n 3, 1) := by decide +kernel
theorem dX6_wallPlace_4 : decode cX6_wallPlace 4 = .ok (.iload_n 3, 1) := by decide +kernel
theorem dX6_wallPlace_5 : decode cX6_wallPlace 5 = .ok (.iload_n 1, 1) := by decide +kernel
theorem dX6_wallPlace_6 : decode cX6_wallPlace 6 = .ok (.if_icmp .gt 21, 3) := by decide +kernel
theorem dX6_wallPlace_9 : decode cX6_wallPlace 9 = .ok (.iload_n 2, 1) := by decide +kernel
theorem dX6_wallPlace_10 : decode cX6_wallPlace 10 = .ok (.aload_n 0, 1) := by decide +kernel
theorem dX6_wallPlace_11 : decode cX6_wallPlace 11 = .ok (.getfield 11, 3) := by decide +kernel
theorem dX6_wallPlace_14 : decode cX6_wallPlace 14 = .ok (.iload_n 3, 1) := by decide +kernel
theorem dX6_wallPlace_15 : decode cX6_wallPlace 15 = .ok (.aaload, 1) := by decide +kernel
theorem dX6_wallPlace_16 : decode cX6_wallPlace 16 = .ok (.getfield 112, 3) := by decide +kernel
theorem dX6_wallPlace_19 : decode cX6_wallPlace 19 = .ok (.iadd, 1) := by decide +kernel
theorem dX6_wallPlace_20 : decode cX6_wallPlace 20 = .ok (.istore_n 2, 1) := by decide +kernel
theorem dX6_wallPlace_21 : decode cX6_wallPlace 21 = .ok (.iinc 3 1, 3) := by decide +kernel
theorem dX6_wallPlace_24 : decode cX6_wallPlace 24 = .ok (.goto (-20), 3) := by decide +kernel
theorem dX6_wallPlace_27 : decode cX6_wallPlace 27 = .ok (.iload_n 2, 1) := by decide +kernel
theorem dX6_wallPlace_28 : decode cX6_wallPlace 28 = .ok (.ireturn, 1) := by decide +kernel
abbrev M_X6_wallPlace : MT := (yX6_wallPlace, cX6_wallPlace, 4, (some .int))
theorem cf_X6_wallPlace : fq_cf M_X6_wallPlace 1 := ⟨(mg_1 (List.mem_of_getElem? (i := 8) rfl) rfl), (mg_4 (List.mem_of_getElem? (i := 204) rfl) rfl), ⟨by decide, by decide, by decide +kernel⟩, by decide⟩
def B_X6_wallPlace_4 (l : Launch) (G : GT) (D mc ms : Nat) (Q : Post) : Cn := ix_iload 3 (ix_iload 1 (ix_icmp_gt (ix_iload 2 (ix_iret mc ms Q)) (ix_iload 2 (ix_aload 0 (ix_getR 6 0 (ix_iload 3 (ix_aald 16 (ix_getI 0 2 (ix_iadd (ix_istore 2 (ix_iinc 3 1 (fqAt l G M_X6_wallPlace (D + 0) mc ms Q 4))))))))))))
theorem b_X6_wallPlace_4 {l : Launch} {G : GT} {D mc ms : Nat} {Q : Post} : Imp l G M_X6_wallPlace (D + 0) mc ms Q (B_X6_wallPlace_4 l G D mc ms Q) 4 := sx_iload_n dX6_wallPlace_4 rfl (sx_iload_n dX6_wallPlace_5 rfl (sx_icmp_gt 27 dX6_wallPlace_6 (by decide) (sx_iload_n dX6_wallPlace_27 rfl (sx_iret dX6_wallPlace_28 rfl)) (sx_iload_n dX6_wallPlace_9 rfl (sx_aload_n dX6_wallPlace_10 rfl (sx_getR dX6_wallPlace_11 fl_FootQuarrel_Street_11 (fun _ _ _ => rfl) (sx_iload_n dX6_wallPlace_14 rfl (sx_aald dX6_wallPlace_15 (by decide) (by decide) rfl (sx_getI dX6_wallPlace_16 fl_FootQuarrel_Street_112 (fun _ _ _ => rfl) (sx_iadd dX6_wallPlace_19 (sx_istore_n dX6_wallPlace_20 rfl (by decide) (sx_iinc dX6_wallPlace_21 rfl (by decide) (sx_goto 4 dX6_wallPlace_24 (by decide) ((fun _ _ _ _ _ _ _ _ h => h))))))))))))))
def B_X6_wallPlace_0 (l : Launch) (G : GT) (D mc ms : Nat) (Q : Post) : Cn := ix_pushI 0 (ix_istore 2 (ix_pushI 0 (ix_istore 3 (fqAt l G M_X6_wallPlace (D + 0) mc ms Q 4))))
theorem b_X6_wallPlace_0 {l : Launch} {G : GT} {D mc ms : Nat} {Q : Post} : Imp l G M_X6_wallPlace (D + 0) mc ms Q (B_X6_wallPlace_0 l G D mc ms Q) 0 := sx_iconst dX6_wallPlace_0 rfl (sx_istore_n dX6_wallPlace_1 rfl (by decide) (sx_iconst dX6_wallPlace_2 rfl (sx_istore_n dX6_wallPlace_3 rfl (by decide) ((fun _ _ _ _ _ _ _ _ h => h)))))
theorem dX6_toldPlace_0 : decode cX6_toldPlace 0 = .ok (.iconst 0, 1) := by decide +kernel
theorem dX6_toldPlace_1 : decode cX6_toldPlace 1 = .ok (.istore_n 2, 1) := by decide +kernel
theorem dX6_toldPlace_2 : decode cX6_toldPlace 2 = .ok (.iconst 0, 1) := by decide +kernel
theorem dX6_toldPlace_3 : decode cX6_toldPlace 3 = .ok (.istore_n 3, 1) := by decide +kernel
theorem dX6_toldPlace_4 : decode cX6_toldPlace 4 = .ok (.iload_n 3, 1) := by decide +kernel
theorem dX6_toldPlace_5 : decode cX6_toldPlace 5 = .ok (.iload_n 1, 1) := by decide +kernel
theorem dX6_toldPlace_6 : decode cX6_toldPlace 6 = .ok (.if_icmp .gt 21, 3) := by decide +kernel
theorem dX6_toldPlace_9 : decode cX6_toldPlace 9 = .ok (.iload_n 2, 1) := by decide +kernel
theorem dX6_toldPlace_10 : decode cX6_toldPlace 10 = .ok (.aload_n 0, 1) := by decide +kernel
theorem dX6_toldPlace_11 : decode cX6_toldPlace 11 = .ok (.getfield 11, 3) := by decide +kernel
theorem dX6_toldPlace_14 : decode cX6_toldPlace 14 = .ok (.iload_n 3, 1) := by decide +kernel
theorem dX6_toldPlace_15 : decode cX6_toldPlace 15 = .ok (.aaload, 1) := by decide +kernel
theorem dX6_toldPlace_16 : decode cX6_toldPlace 16 = .ok (.getfield 115, 3) := by decide +kernel
theorem dX6_toldPlace_19 : decode cX6_toldPlace 19 = .ok (.iadd, 1) := by decide +kernel
theorem dX6_toldPlace_20 : decode cX6_toldPlace 20 = .ok (.istore_n 2, 1) := by decide +kernel
theorem dX6_toldPlace_21 : decode cX6_toldPlace 21 = .ok (.iinc 3 1, 3) := by decide +kernel
theorem dX6_toldPlace_24 : decode cX6_toldPlace 24 = .ok (.goto (-20), 3) := by decide +kernel
theorem dX6_toldPlace_27 : decode cX6_toldPlace 27 = .ok (.iload_n 2, 1) := by decide +kernel
theorem dX6_toldPlace_28 : decode cX6_toldPlace 28 = .ok (.ireturn, 1) := by decide +kernel
abbrev M_X6_toldPlace : MT := (yX6_toldPlace, cX6_toldPlace, 4, (some .int))
theorem cf_X6_toldPlace : fq_cf M_X6_toldPlace 1 := ⟨(mg_1 (List.mem_of_getElem? (i := 8) rfl) rfl), (mg_5 (List.mem_of_getElem? (i := 121) rfl) rfl), ⟨by decide, by decide, by decide +kernel⟩, by decide⟩
def B_X6_toldPlace_4 (l : Launch) (G : GT) (D mc ms : Nat) (Q : Post) : Cn := ix_iload 3 (ix_iload 1 (ix_icmp_gt (ix_iload 2 (ix_iret mc ms Q)) (ix_iload 2 (ix_aload 0 (ix_getR 6 0 (ix_iload 3 (ix_aald 16 (ix_getI 0 1 (ix_iadd (ix_istore 2 (ix_iinc 3 1 (fqAt l G M_X6_toldPlace (D + 0) mc ms Q 4))))))))))))
theorem b_X6_toldPlace_4 {l : Launch} {G : GT} {D mc ms : Nat} {Q : Post} : Imp l G M_X6_toldPlace (D + 0) mc ms Q (B_X6_toldPlace_4 l G D mc ms Q) 4 := sx_iload_n dX6_toldPlace_4 rfl (sx_iload_n dX6_toldPlace_5 rfl (sx_icmp_gt 27 dX6_toldPlace_6 (by decide) (sx_iload_n dX6_toldPlace_27 rfl (sx_iret dX6_toldPlace_28 rfl)) (sx_iload_n dX6_toldPlace_9 rfl (sx_aload_n dX6_toldPlace_10 rfl (sx_getR dX6_toldPlace_11 fl_FootQuarrel_Street_11 (fun _ _ _ => rfl) (sx_iload_n dX6_toldPlace_14 rfl (sx_aald dX6_toldPlace_15 (by decide) (by decide) rfl (sx_getI dX6_toldPlace_16 fl_FootQuarrel_Street_115 (fun _ _ _ => rfl) (sx_iadd dX6_toldPlace_19 (sx_istore_n dX6_toldPlace_20 rfl (by decide) (sx_iinc dX6_toldPlace_21 rfl (by decide) (sx_goto 4 dX6_toldPlace_24 (by decide) ((fun _ _ _ _ _ _ _ _ h => h))))))))))))))
def B_X6_toldPlace_0 (l : Launch) (G : GT) (D mc ms : Nat) (Q : Post) : Cn := ix_pushI 0 (ix_istore 2 (ix_pushI 0 (ix_istore 3 (fqAt l G M_X6_toldPlace (D + 0) mc ms Q 4))))
theorem b_X6_toldPlace_0 {l : Launch} {G : GT} {D mc ms : Nat} {Q : Post} : Imp l G M_X6_toldPlace (D + 0) mc ms Q (B_X6_toldPlace_0 l G D mc ms Q) 0 := sx_iconst dX6_toldPlace_0 rfl (sx_istore_n dX6_toldPlace_1 rfl (by decide) (sx_iconst dX6_toldPlace_2 rfl (sx_istore_n dX6_toldPlace_3 rfl (by decide) ((fun _ _ _ _ _ _ _ _ h => h)))))
theorem dX6_houseNamed_0 : decode cX6_houseNamed 0 = .ok (.iconst 0, 1) := by decide +kernel
theorem dX6_houseNamed_1 : decode cX6_houseNamed 1 = .ok (.istore_n 3, 1) := by decide +kernel
theorem dX6_houseNamed_2 : decode cX6_houseNamed 2 = .ok (.iload_n 3, 1) := by decide +kernel
theorem dX6_houseNamed_3 : decode cX6_houseNamed 3 = .ok (.aload_n 0, 1) := by decide +kernel
theorem dX6_houseNamed_4 : decode cX6_houseNamed 4 = .ok (.getfield 49, 3) := by decide +kernel
theorem dX6_houseNamed_7 : decode cX6_houseNamed 7 = .ok (.if_icmp .ge 25, 3) := by decide +kernel
theorem dX6_houseNamed_10 : decode cX6_houseNamed 10 = .ok (.aload_n 0, 1) := by decide +kernel
theorem dX6_houseNamed_11 : decode cX6_houseNamed 11 = .ok (.getfield 11, 3) := by decide +kernel
theorem dX6_houseNamed_14 : decode cX6_houseNamed 14 = .ok (.iload_n 3, 1) := by decide +kernel
theorem dX6_houseNamed_15 : decode cX6_houseNamed 15 = .ok (.aaload, 1) := by decide +kernel
theorem dX6_houseNamed_16 : decode cX6_houseNamed 16 = .ok (.getfield 101, 3) := by decide +kernel
theorem dX6_houseNamed_19 : decode cX6_houseNamed 19 = .ok (.lload_n 1, 1) := by decide +kernel
theorem dX6_houseNamed_20 : decode cX6_houseNamed 20 = .ok (.lcmp, 1) := by decide +kernel
theorem dX6_houseNamed_21 : decode cX6_houseNamed 21 = .ok (.ifCond .ne 5, 3) := by decide +kernel
theorem dX6_houseNamed_24 : decode cX6_houseNamed 24 = .ok (.iload_n 3, 1) := by decide +kernel
theorem dX6_houseNamed_25 : decode cX6_houseNamed 25 = .ok (.ireturn, 1) := by decide +kernel
theorem dX6_houseNamed_26 : decode cX6_houseNamed 26 = .ok (.iinc 3 1, 3) := by decide +kernel
theorem dX6_houseNamed_29 : decode cX6_houseNamed 29 = .ok (.goto (-27), 3) := by decide +kernel
theorem dX6_houseNamed_32 : decode cX6_houseNamed 32 = .ok (.iconst (-1), 1) := by decide +kernel
theorem dX6_houseNamed_33 : decode cX6_houseNamed 33 = .ok (.ireturn, 1) := by decide +kernel
abbrev M_X6_houseNamed : MT := (yX6_houseNamed, cX6_houseNamed, 4, (some .int))
theorem cf_X6_houseNamed : fq_cf M_X6_houseNamed 1 := ⟨(mg_1 (List.mem_of_getElem? (i := 8) rfl) rfl), (mg_4 (List.mem_of_getElem? (i := 10) rfl) rfl), ⟨by decide, by decide, by decide +kernel⟩, by decide⟩
def B_X6_houseNamed_2 (l : Launch) (G : GT) (D mc ms : Nat) (Q : Post) : Cn := ix_iload 3 (ix_aload 0 (ix_getI 6 5 (ix_icmp_ge (ix_pushI (-1) (ix_iret mc ms Q)) (ix_aload 0 (ix_getR 6 0 (ix_iload 3 (ix_aald 16 (ix_getJ 0 0 (ix_lload 1 (ix_lcmp (ix_if_ne (ix_iinc 3 1 (fqAt l G M_X6_houseNamed (D + 0) mc ms Q 2)) (ix_iload 3 (ix_iret mc ms Q)))))))))))))
theorem b_X6_houseNamed_2 {l : Launch} {G : GT} {D mc ms : Nat} {Q : Post} : Imp l G M_X6_houseNamed (D + 0) mc ms Q (B_X6_houseNamed_2 l G D mc ms Q) 2 := sx_iload_n dX6_houseNamed_2 rfl (sx_aload_n dX6_houseNamed_3 rfl (sx_getI dX6_houseNamed_4 fl_FootQuarrel_Street_49 (fun _ _ _ => rfl) (sx_icmp_ge 32 dX6_houseNamed_7 (by decide) (sx_iconst dX6_houseNamed_32 rfl (sx_iret dX6_houseNamed_33 rfl)) (sx_aload_n dX6_houseNamed_10 rfl (sx_getR dX6_houseNamed_11 fl_FootQuarrel_Street_11 (fun _ _ _ => rfl) (sx_iload_n dX6_houseNamed_14 rfl (sx_aald dX6_houseNamed_15 (by decide) (by decide) rfl (sx_getJ dX6_houseNamed_16 fl_FootQuarrel_Street_101 (fun _ _ _ => rfl) (sx_lload_n dX6_houseNamed_19 rfl (sx_lcmp dX6_houseNamed_20 (sx_if_ne 26 dX6_houseNamed_21 (by decide) (sx_iinc dX6_houseNamed_26 rfl (by decide) (sx_goto 2 dX6_houseNamed_29 (by decide) ((fun _ _ _ _ _ _ _ _ h => h)))) (sx_iload_n dX6_houseNamed_24 rfl (sx_iret dX6_houseNamed_25 rfl)))))))))))))
def B_X6_houseNamed_0 (l : Launch) (G : GT) (D mc ms : Nat) (Q : Post) : Cn := ix_pushI 0 (ix_istore 3 (fqAt l G M_X6_houseNamed (D + 0) mc ms Q 2))
theorem b_X6_houseNamed_0 {l : Launch} {G : GT} {D mc ms : Nat} {Q : Post} : Imp l G M_X6_houseNamed (D + 0) mc ms Q (B_X6_houseNamed_0 l G D mc ms Q) 0 := sx_iconst dX6_houseNamed_0 rfl (sx_istore_n dX6_houseNamed_1 rfl (by decide) ((fun _ _ _ _ _ _ _ _ h => h)))
theorem dX6_personNamed_0 : decode cX6_personNamed 0 = .ok (.iconst 0, 1) := by decide +kernel
theorem dX6_personNamed_1 : decode cX6_personNamed 1 = .ok (.istore_n 3, 1) := by decide +kernel
theorem dX6_personNamed_2 : decode cX6_personNamed 2 = .ok (.iload_n 3, 1) := by decide +kernel
theorem dX6_personNamed_3 : decode cX6_personNamed 3 = .ok (.aload_n 0, 1) := by decide +kernel
theorem dX6_personNamed_4 : decode cX6_personNamed 4 = .ok (.getfield 53, 3) := by decide +kernel
theorem dX6_personNamed_7 : decode cX6_personNamed 7 = .ok (.if_icmp .ge 25, 3) := by decide +kernel
theorem dX6_personNamed_10 : decode cX6_personNamed 10 = .ok (.aload_n 0, 1) := by decide +kernel
theorem dX6_personNamed_11 : decode cX6_personNamed 11 = .ok (.getfield 19, 3) := by decide +kernel
theorem dX6_personNamed_14 : decode cX6_personNamed 14 = .ok (.iload_n 3, 1) := by decide +kernel
theorem dX6_personNamed_15 : decode cX6_personNamed 15 = .ok (.aaload, 1) := by decide +kernel
theorem dX6_personNamed_16 : decode cX6_personNamed 16 = .ok (.getfield 105, 3) := by decide +kernel
theorem dX6_personNamed_19 : decode cX6_personNamed 19 = .ok (.lload_n 1, 1) := by decide +kernel
theorem dX6_personNamed_20 : decode cX6_personNamed 20 = .ok (.lcmp, 1) := by decide +kernel
theorem dX6_personNamed_21 : decode cX6_personNamed 21 = .ok (.ifCond .ne 5, 3) := by decide +kernel
theorem dX6_personNamed_24 : decode cX6_personNamed 24 = .ok (.iload_n 3, 1) := by decide +kernel
theorem dX6_personNamed_25 : decode cX6_personNamed 25 = .ok (.ireturn, 1) := by decide +kernel
theorem dX6_personNamed_26 : decode cX6_personNamed 26 = .ok (.iinc 3 1, 3) := by decide +kernel
theorem dX6_personNamed_29 : decode cX6_personNamed 29 = .ok (.goto (-27), 3) := by decide +kernel
theorem dX6_personNamed_32 : decode cX6_personNamed 32 = .ok (.iconst (-1), 1) := by decide +kernel
theorem dX6_personNamed_33 : decode cX6_personNamed 33 = .ok (.ireturn, 1) := by decide +kernel
abbrev M_X6_personNamed : MT := (yX6_personNamed, cX6_personNamed, 4, (some .int))
theorem cf_X6_personNamed : fq_cf M_X6_personNamed 1 := ⟨(mg_1 (List.mem_of_getElem? (i := 8) rfl) rfl), (mg_4 (List.mem_of_getElem? (i := 14) rfl) rfl), ⟨by decide, by decide, by decide +kernel⟩, by decide⟩
def B_X6_personNamed_2 (l : Launch) (G : GT) (D mc ms : Nat) (Q : Post) : Cn := ix_iload 3 (ix_aload 0 (ix_getI 6 6 (ix_icmp_ge (ix_pushI (-1) (ix_iret mc ms Q)) (ix_aload 0 (ix_getR 6 1 (ix_iload 3 (ix_aald 17 (ix_getJ 2 0 (ix_lload 1 (ix_lcmp (ix_if_ne (ix_iinc 3 1 (fqAt l G M_X6_personNamed (D + 0) mc ms Q 2)) (ix_iload 3 (ix_iret mc ms Q)))))))))))))
theorem b_X6_personNamed_2 {l : Launch} {G : GT} {D mc ms : Nat} {Q : Post} : Imp l G M_X6_personNamed (D + 0) mc ms Q (B_X6_personNamed_2 l G D mc ms Q) 2 := sx_iload_n dX6_personNamed_2 rfl (sx_aload_n dX6_personNamed_3 rfl (sx_getI dX6_personNamed_4 fl_FootQuarrel_Street_53 (fun _ _ _ => rfl) (sx_icmp_ge 32 dX6_personNamed_7 (by decide) (sx_iconst dX6_personNamed_32 rfl (sx_iret dX6_personNamed_33 rfl)) (sx_aload_n dX6_personNamed_10 rfl (sx_getR dX6_personNamed_11 fl_FootQuarrel_Street_19 (fun _ _ _ => rfl) (sx_iload_n dX6_personNamed_14 rfl (sx_aald dX6_personNamed_15 (by decide) (by decide) rfl (sx_getJ dX6_personNamed_16 fl_FootQuarrel_Street_105 (fun _ _ _ => rfl) (sx_lload_n dX6_personNamed_19 rfl (sx_lcmp dX6_personNamed_20 (sx_if_ne 26 dX6_personNamed_21 (by decide) (sx_iinc dX6_personNamed_26 rfl (by decide) (sx_goto 2 dX6_personNamed_29 (by decide) ((fun _ _ _ _ _ _ _ _ h => h)))) (sx_iload_n dX6_personNamed_24 rfl (sx_iret dX6_personNamed_25 rfl)))))))))))))
def B_X6_personNamed_0 (l : Launch) (G : GT) (D mc ms : Nat) (Q : Post) : Cn := ix_pushI 0 (ix_istore 3 (fqAt l G M_X6_personNamed (D + 0) mc ms Q 2))
theorem b_X6_personNamed_0 {l : Launch} {G : GT} {D mc ms : Nat} {Q : Post} : Imp l G M_X6_personNamed (D + 0) mc ms Q (B_X6_personNamed_0 l G D mc ms Q) 0 := sx_iconst dX6_personNamed_0 rfl (sx_istore_n dX6_personNamed_1 rfl (by decide) ((fun _ _ _ _ _ _ _ _ h => h)))
theorem dX6_livingIn_0 : decode cX6_livingIn 0 = .ok (.iconst 0, 1) := by decide +kernel
theorem dX6_livingIn_1 : decode cX6_livingIn 1 = .ok (.istore_n 2, 1) := by decide +kernel
theorem dX6_livingIn_2 : decode cX6_livingIn 2 = .ok (.iconst 0, 1) := by decide +kernel
theorem dX6_livingIn_3 : decode cX6_livingIn 3 = .ok (.istore_n 3, 1) := by decide +kernel
theorem dX6_livingIn_4 : decode cX6_livingIn 4 = .ok (.iload_n 3, 1) := by decide +kernel
theorem dX6_livingIn_5 : decode cX6_livingIn 5 = .ok (.aload_n 0, 1) := by decide +kernel
theorem dX6_livingIn_6 : decode cX6_livingIn 6 = .ok (.getfield 53, 3) := by decide +kernel
theorem dX6_livingIn_9 : decode cX6_livingIn 9 = .ok (.if_icmp .ge 28, 3) := by decide +kernel
theorem dX6_livingIn_12 : decode cX6_livingIn 12 = .ok (.aload_n 0, 1) := by decide +kernel
theorem dX6_livingIn_13 : decode cX6_livingIn 13 = .ok (.getfield 19, 3) := by decide +kernel
theorem dX6_livingIn_16 : decode cX6_livingIn 16 = .ok (.iload_n 3, 1) := by decide +kernel
theorem dX6_livingIn_17 : decode cX6_livingIn 17 = .ok (.aaload, 1) := by decide +kernel
theorem dX6_livingIn_18 : decode cX6_livingIn 18 = .ok (.getfield 118, 3) := by decide +kernel
theorem dX6_livingIn_21 : decode cX6_livingIn 21 = .ok (.iload_n 1, 1) := by decide +kernel
theorem dX6_livingIn_22 : decode cX6_livingIn 22 = .ok (.if_icmp .ne 9, 3) := by decide +kernel
theorem dX6_livingIn_25 : decode cX6_livingIn 25 = .ok (.iload_n 2, 1) := by decide +kernel
theorem dX6_livingIn_26 : decode cX6_livingIn 26 = .ok (.iconst 1, 1) := by decide +kernel
theorem dX6_livingIn_27 : decode cX6_livingIn 27 = .ok (.iload_n 3, 1) := by decide +kernel
theorem dX6_livingIn_28 : decode cX6_livingIn 28 = .ok (.ishl, 1) := by decide +kernel
theorem dX6_livingIn_29 : decode cX6_livingIn 29 = .ok (.ior, 1) := by decide +kernel
theorem dX6_livingIn_30 : decode cX6_livingIn 30 = .ok (.istore_n 2, 1) := by decide +kernel
theorem dX6_livingIn_31 : decode cX6_livingIn 31 = .ok (.iinc 3 1, 3) := by decide +kernel
theorem dX6_livingIn_34 : decode cX6_livingIn 34 = .ok (.goto (-30), 3) := by decide +kernel
theorem dX6_livingIn_37 : decode cX6_livingIn 37 = .ok (.iload_n 2, 1) := by decide +kernel
theorem dX6_livingIn_38 : decode cX6_livingIn 38 = .ok (.ireturn, 1) := by decide +kernel
abbrev M_X6_livingIn : MT := (yX6_livingIn, cX6_livingIn, 4, (some .int))
theorem cf_X6_livingIn : fq_cf M_X6_livingIn 1 := ⟨(mg_1 (List.mem_of_getElem? (i := 8) rfl) rfl), (mg_4 (List.mem_of_getElem? (i := 185) rfl) rfl), ⟨by decide, by decide, by decide +kernel⟩, by decide⟩
def B_X6_livingIn_31 (l : Launch) (G : GT) (D mc ms : Nat) (Q : Post) : Cn := ix_iinc 3 1 (fqAt l G M_X6_livingIn (D + 0) mc ms Q 4)
theorem b_X6_livingIn_31 {l : Launch} {G : GT} {D mc ms : Nat} {Q : Post} : Imp l G M_X6_livingIn (D + 0) mc ms Q (B_X6_livingIn_31 l G D mc ms Q) 31 := sx_iinc dX6_livingIn_31 rfl (by decide) (sx_goto 4 dX6_livingIn_34 (by decide) ((fun _ _ _ _ _ _ _ _ h => h)))
def B_X6_livingIn_4 (l : Launch) (G : GT) (D mc ms : Nat) (Q : Post) : Cn := ix_iload 3 (ix_aload 0 (ix_getI 6 6 (ix_icmp_ge (ix_iload 2 (ix_iret mc ms Q)) (ix_aload 0 (ix_getR 6 1 (ix_iload 3 (ix_aald 17 (ix_getI 2 1 (ix_iload 1 (ix_icmp_ne ((B_X6_livingIn_31 l G D mc ms Q)) (ix_iload 2 (ix_pushI 1 (ix_iload 3 (ix_ishl (ix_ior (ix_istore 2 ((B_X6_livingIn_31 l G D mc ms Q))))))))))))))))))
theorem b_X6_livingIn_4 {l : Launch} {G : GT} {D mc ms : Nat} {Q : Post} : Imp l G M_X6_livingIn (D + 0) mc ms Q (B_X6_livingIn_4 l G D mc ms Q) 4 := sx_iload_n dX6_livingIn_4 rfl (sx_aload_n dX6_livingIn_5 rfl (sx_getI dX6_livingIn_6 fl_FootQuarrel_Street_53 (fun _ _ _ => rfl) (sx_icmp_ge 37 dX6_livingIn_9 (by decide) (sx_iload_n dX6_livingIn_37 rfl (sx_iret dX6_livingIn_38 rfl)) (sx_aload_n dX6_livingIn_12 rfl (sx_getR dX6_livingIn_13 fl_FootQuarrel_Street_19 (fun _ _ _ => rfl) (sx_iload_n dX6_livingIn_16 rfl (sx_aald dX6_livingIn_17 (by decide) (by decide) rfl (sx_getI dX6_livingIn_18 fl_FootQuarrel_Street_118 (fun _ _ _ => rfl) (sx_iload_n dX6_livingIn_21 rfl (sx_icmp_ne 31 dX6_livingIn_22 (by decide) (b_X6_livingIn_31) (sx_iload_n dX6_livingIn_25 rfl (sx_iconst dX6_livingIn_26 rfl (sx_iload_n dX6_livingIn_27 rfl (sx_ishl dX6_livingIn_28 (sx_ior dX6_livingIn_29 (sx_istore_n dX6_livingIn_30 rfl (by decide) (b_X6_livingIn_31)))))))))))))))))
def B_X6_livingIn_0 (l : Launch) (G : GT) (D mc ms : Nat) (Q : Post) : Cn := ix_pushI 0 (ix_istore 2 (ix_pushI 0 (ix_istore 3 (fqAt l G M_X6_livingIn (D + 0) mc ms Q 4))))
theorem b_X6_livingIn_0 {l : Launch} {G : GT} {D mc ms : Nat} {Q : Post} : Imp l G M_X6_livingIn (D + 0) mc ms Q (B_X6_livingIn_0 l G D mc ms Q) 0 := sx_iconst dX6_livingIn_0 rfl (sx_istore_n dX6_livingIn_1 rfl (by decide) (sx_iconst dX6_livingIn_2 rfl (sx_istore_n dX6_livingIn_3 rfl (by decide) ((fun _ _ _ _ _ _ _ _ h => h)))))
theorem dX6_angrySet_0 : decode cX6_angrySet 0 = .ok (.iconst 0, 1) := by decide +kernel
theorem dX6_angrySet_1 : decode cX6_angrySet 1 = .ok (.istore_n 1, 1) := by decide +kernel
theorem dX6_angrySet_2 : decode cX6_angrySet 2 = .ok (.iconst 0, 1) := by decide +kernel
theorem dX6_angrySet_3 : decode cX6_angrySet 3 = .ok (.istore_n 2, 1) := by decide +kernel
theorem dX6_angrySet_4 : decode cX6_angrySet 4 = .ok (.iload_n 2, 1) := by decide +kernel
theorem dX6_angrySet_5 : decode cX6_angrySet 5 = .ok (.aload_n 0, 1) := by decide +kernel
theorem dX6_angrySet_6 : decode cX6_angrySet 6 = .ok (.getfield 53, 3) := by decide +kernel
theorem dX6_angrySet_9 : decode cX6_angrySet 9 = .ok (.if_icmp .ge 27, 3) := by decide +kernel
theorem dX6_angrySet_12 : decode cX6_angrySet 12 = .ok (.aload_n 0, 1) := by decide +kernel
theorem dX6_angrySet_13 : decode cX6_angrySet 13 = .ok (.getfield 19, 3) := by decide +kernel
theorem dX6_angrySet_16 : decode cX6_angrySet 16 = .ok (.iload_n 2, 1) := by decide +kernel
theorem dX6_angrySet_17 : decode cX6_angrySet 17 = .ok (.aaload, 1) := by decide +kernel
theorem dX6_angrySet_18 : decode cX6_angrySet 18 = .ok (.getfield 141, 3) := by decide +kernel
theorem dX6_angrySet_21 : decode cX6_angrySet 21 = .ok (.ifCond .le 9, 3) := by decide +kernel
theorem dX6_angrySet_24 : decode cX6_angrySet 24 = .ok (.iload_n 1, 1) := by decide +kernel
theorem dX6_angrySet_25 : decode cX6_angrySet 25 = .ok (.iconst 1, 1) := by decide +kernel
theorem dX6_angrySet_26 : decode cX6_angrySet 26 = .ok (.iload_n 2, 1) := by decide +kernel
theorem dX6_angrySet_27 : decode cX6_angrySet 27 = .ok (.ishl, 1) := by decide +kernel
theorem dX6_angrySet_28 : decode cX6_angrySet 28 = .ok (.ior, 1) := by decide +kernel
theorem dX6_angrySet_29 : decode cX6_angrySet 29 = .ok (.istore_n 1, 1) := by decide +kernel
theorem dX6_angrySet_30 : decode cX6_angrySet 30 = .ok (.iinc 2 1, 3) := by decide +kernel
theorem dX6_angrySet_33 : decode cX6_angrySet 33 = .ok (.goto (-29), 3) := by decide +kernel
theorem dX6_angrySet_36 : decode cX6_angrySet 36 = .ok (.iload_n 1, 1) := by decide +kernel
theorem dX6_angrySet_37 : decode cX6_angrySet 37 = .ok (.ireturn, 1) := by decide +kernel
abbrev M_X6_angrySet : MT := (yX6_angrySet, cX6_angrySet, 3, (some .int))
theorem cf_X6_angrySet : fq_cf M_X6_angrySet 0 := ⟨(mg_1 (List.mem_of_getElem? (i := 8) rfl) rfl), (mg_4 (List.mem_of_getElem? (i := 169) rfl) rfl), ⟨by decide, by decide, by decide +kernel⟩, by decide⟩
def B_X6_angrySet_30 (l : Launch) (G : GT) (D mc ms : Nat) (Q : Post) : Cn := ix_iinc 2 1 (fqAt l G M_X6_angrySet (D + 0) mc ms Q 4)
theorem b_X6_angrySet_30 {l : Launch} {G : GT} {D mc ms : Nat} {Q : Post} : Imp l G M_X6_angrySet (D + 0) mc ms Q (B_X6_angrySet_30 l G D mc ms Q) 30 := sx_iinc dX6_angrySet_30 rfl (by decide) (sx_goto 4 dX6_angrySet_33 (by decide) ((fun _ _ _ _ _ _ _ _ h => h)))
def B_X6_angrySet_4 (l : Launch) (G : GT) (D mc ms : Nat) (Q : Post) : Cn := ix_iload 2 (ix_aload 0 (ix_getI 6 6 (ix_icmp_ge (ix_iload 1 (ix_iret mc ms Q)) (ix_aload 0 (ix_getR 6 1 (ix_iload 2 (ix_aald 17 (ix_getI 2 6 (ix_if_le ((B_X6_angrySet_30 l G D mc ms Q)) (ix_iload 1 (ix_pushI 1 (ix_iload 2 (ix_ishl (ix_ior (ix_istore 1 ((B_X6_angrySet_30 l G D mc ms Q)))))))))))))))))
theorem b_X6_angrySet_4 {l : Launch} {G : GT} {D mc ms : Nat} {Q : Post} : Imp l G M_X6_angrySet (D + 0) mc ms Q (B_X6_angrySet_4 l G D mc ms Q) 4 := sx_iload_n dX6_angrySet_4 rfl (sx_aload_n dX6_angrySet_5 rfl (sx_getI dX6_angrySet_6 fl_FootQuarrel_Street_53 (fun _ _ _ => rfl) (sx_icmp_ge 36 dX6_angrySet_9 (by decide) (sx_iload_n dX6_angrySet_36 rfl (sx_iret dX6_angrySet_37 rfl)) (sx_aload_n dX6_angrySet_12 rfl (sx_getR dX6_angrySet_13 fl_FootQuarrel_Street_19 (fun _ _ _ => rfl) (sx_iload_n dX6_angrySet_16 rfl (sx_aald dX6_angrySet_17 (by decide) (by decide) rfl (sx_getI dX6_angrySet_18 fl_FootQuarrel_Street_141 (fun _ _ _ => rfl) (sx_if_le 30 dX6_angrySet_21 (by decide) (b_X6_angrySet_30) (sx_iload_n dX6_angrySet_24 rfl (sx_iconst dX6_angrySet_25 rfl (sx_iload_n dX6_angrySet_26 rfl (sx_ishl dX6_angrySet_27 (sx_ior dX6_angrySet_28 (sx_istore_n dX6_angrySet_29 rfl (by decide) (b_X6_angrySet_30))))))))))))))))
def B_X6_angrySet_0 (l : Launch) (G : GT) (D mc ms : Nat) (Q : Post) : Cn := ix_pushI 0 (ix_istore 1 (ix_pushI 0 (ix_istore 2 (fqAt l G M_X6_angrySet (D + 0) mc ms Q 4))))
theorem b_X6_angrySet_0 {l : Launch} {G : GT} {D mc ms : Nat} {Q : Post} : Imp l G M_X6_angrySet (D + 0) mc ms Q (B_X6_angrySet_0 l G D mc ms Q) 0 := sx_iconst dX6_angrySet_0 rfl (sx_istore_n dX6_angrySet_1 rfl (by decide) (sx_iconst dX6_angrySet_2 rfl (sx_istore_n dX6_angrySet_3 rfl (by decide) ((fun _ _ _ _ _ _ _ _ h => h)))))
theorem dX6_landlessSet_0 : decode cX6_landlessSet 0 = .ok (.iconst 0, 1) := by decide +kernel
theorem dX6_landlessSet_1 : decode cX6_landlessSet 1 = .ok (.istore_n 1, 1) := by decide +kernel
theorem dX6_landlessSet_2 : decode cX6_landlessSet 2 = .ok (.iconst 0, 1) := by decide +kernel
theorem dX6_landlessSet_3 : decode cX6_landlessSet 3 = .ok (.istore_n 2, 1) := by decide +kernel
theorem dX6_landlessSet_4 : decode cX6_landlessSet 4 = .ok (.iload_n 2, 1) := by decide +kernel
theorem dX6_landlessSet_5 : decode cX6_landlessSet 5 = .ok (.aload_n 0, 1) := by decide +kernel
theorem dX6_landlessSet_6 : decode cX6_landlessSet 6 = .ok (.getfield 49, 3) := by decide +kernel
theorem dX6_landlessSet_9 : decode cX6_landlessSet 9 = .ok (.if_icmp .ge 27, 3) := by decide +kernel
theorem dX6_landlessSet_12 : decode cX6_landlessSet 12 = .ok (.aload_n 0, 1) := by decide +kernel
theorem dX6_landlessSet_13 : decode cX6_landlessSet 13 = .ok (.getfield 11, 3) := by decide +kernel
theorem dX6_landlessSet_16 : decode cX6_landlessSet 16 = .ok (.iload_n 2, 1) := by decide +kernel
theorem dX6_landlessSet_17 : decode cX6_landlessSet 17 = .ok (.aaload, 1) := by decide +kernel
theorem dX6_landlessSet_18 : decode cX6_landlessSet 18 = .ok (.getfield 112, 3) := by decide +kernel
theorem dX6_landlessSet_21 : decode cX6_landlessSet 21 = .ok (.ifCond .ne 9, 3) := by decide +kernel
theorem dX6_landlessSet_24 : decode cX6_landlessSet 24 = .ok (.iload_n 1, 1) := by decide +kernel
theorem dX6_landlessSet_25 : decode cX6_landlessSet 25 = .ok (.iconst 1, 1) := by decide +kernel
theorem dX6_landlessSet_26 : decode cX6_landlessSet 26 = .ok (.iload_n 2, 1) := by decide +kernel
theorem dX6_landlessSet_27 : decode cX6_landlessSet 27 = .ok (.ishl, 1) := by decide +kernel
theorem dX6_landlessSet_28 : decode cX6_landlessSet 28 = .ok (.ior, 1) := by decide +kernel
theorem dX6_landlessSet_29 : decode cX6_landlessSet 29 = .ok (.istore_n 1, 1) := by decide +kernel
theorem dX6_landlessSet_30 : decode cX6_landlessSet 30 = .ok (.iinc 2 1, 3) := by decide +kernel
theorem dX6_landlessSet_33 : decode cX6_landlessSet 33 = .ok (.goto (-29), 3) := by decide +kernel
theorem dX6_landlessSet_36 : decode cX6_landlessSet 36 = .ok (.iload_n 1, 1) := by decide +kernel
theorem dX6_landlessSet_37 : decode cX6_landlessSet 37 = .ok (.ireturn, 1) := by decide +kernel
abbrev M_X6_landlessSet : MT := (yX6_landlessSet, cX6_landlessSet, 3, (some .int))
theorem cf_X6_landlessSet : fq_cf M_X6_landlessSet 0 := ⟨(mg_1 (List.mem_of_getElem? (i := 8) rfl) rfl), (mg_4 (List.mem_of_getElem? (i := 173) rfl) rfl), ⟨by decide, by decide, by decide +kernel⟩, by decide⟩
def B_X6_landlessSet_30 (l : Launch) (G : GT) (D mc ms : Nat) (Q : Post) : Cn := ix_iinc 2 1 (fqAt l G M_X6_landlessSet (D + 0) mc ms Q 4)
theorem b_X6_landlessSet_30 {l : Launch} {G : GT} {D mc ms : Nat} {Q : Post} : Imp l G M_X6_landlessSet (D + 0) mc ms Q (B_X6_landlessSet_30 l G D mc ms Q) 30 := sx_iinc dX6_landlessSet_30 rfl (by decide) (sx_goto 4 dX6_landlessSet_33 (by decide) ((fun _ _ _ _ _ _ _ _ h => h)))
def B_X6_landlessSet_4 (l : Launch) (G : GT) (D mc ms : Nat) (Q : Post) : Cn := ix_iload 2 (ix_aload 0 (ix_getI 6 5 (ix_icmp_ge (ix_iload 1 (ix_iret mc ms Q)) (ix_aload 0 (ix_getR 6 0 (ix_iload 2 (ix_aald 16 (ix_getI 0 2 (ix_if_ne ((B_X6_landlessSet_30 l G D mc ms Q)) (ix_iload 1 (ix_pushI 1 (ix_iload 2 (ix_ishl (ix_ior (ix_istore 1 ((B_X6_landlessSet_30 l G D mc ms Q)))))))))))))))))
theorem b_X6_landlessSet_4 {l : Launch} {G : GT} {D mc ms : Nat} {Q : Post} : Imp l G M_X6_landlessSet (D + 0) mc ms Q (B_X6_landlessSet_4 l G D mc ms Q) 4 := sx_iload_n dX6_landlessSet_4 rfl (sx_aload_n dX6_landlessSet_5 rfl (sx_getI dX6_landlessSet_6 fl_FootQuarrel_Street_49 (fun _ _ _ => rfl) (sx_icmp_ge 36 dX6_landlessSet_9 (by decide) (sx_iload_n dX6_landlessSet_36 rfl (sx_iret dX6_landlessSet_37 rfl)) (sx_aload_n dX6_landlessSet_12 rfl (sx_getR dX6_landlessSet_13 fl_FootQuarrel_Street_11 (fun _ _ _ => rfl) (sx_iload_n dX6_landlessSet_16 rfl (sx_aald dX6_landlessSet_17 (by decide) (by decide) rfl (sx_getI dX6_landlessSet_18 fl_FootQuarrel_Street_112 (fun _ _ _ => rfl) (sx_if_ne 30 dX6_landlessSet_21 (by decide) (b_X6_landlessSet_30) (sx_iload_n dX6_landlessSet_24 rfl (sx_iconst dX6_landlessSet_25 rfl (sx_iload_n dX6_landlessSet_26 rfl (sx_ishl dX6_landlessSet_27 (sx_ior dX6_landlessSet_28 (sx_istore_n dX6_landlessSet_29 rfl (by decide) (b_X6_landlessSet_30))))))))))))))))
def B_X6_landlessSet_0 (l : Launch) (G : GT) (D mc ms : Nat) (Q : Post) : Cn := ix_pushI 0 (ix_istore 1 (ix_pushI 0 (ix_istore 2 (fqAt l G M_X6_landlessSet (D + 0) mc ms Q 4))))
theorem b_X6_landlessSet_0 {l : Launch} {G : GT} {D mc ms : Nat} {Q : Post} : Imp l G M_X6_landlessSet (D + 0) mc ms Q (B_X6_landlessSet_0 l G D mc ms Q) 0 := sx_iconst dX6_landlessSet_0 rfl (sx_istore_n dX6_landlessSet_1 rfl (by decide) (sx_iconst dX6_landlessSet_2 rfl (sx_istore_n dX6_landlessSet_3 rfl (by decide) ((fun _ _ _ _ _ _ _ _ h => h)))))
theorem dX6_payOf_0 : decode cX6_payOf 0 = .ok (.iconst 0, 1) := by decide +kernel
theorem dX6_payOf_1 : decode cX6_payOf 1 = .ok (.istore_n 2, 1) := by decide +kernel
theorem dX6_payOf_2 : decode cX6_payOf 2 = .ok (.iconst 0, 1) := by decide +kernel
theorem dX6_payOf_3 : decode cX6_payOf 3 = .ok (.istore_n 3, 1) := by decide +kernel
theorem dX6_payOf_4 : decode cX6_payOf 4 = .ok (.iload_n 3, 1) := by decide +kernel
theorem dX6_payOf_5 : decode cX6_payOf 5 = .ok (.aload_n 0, 1) := by decide +kernel
theorem dX6_payOf_6 : decode cX6_payOf 6 = .ok (.getfield 53, 3) := by decide +kernel
theorem dX6_payOf_9 : decode cX6_payOf 9 = .ok (.if_icmp .ge 30, 3) := by decide +kernel
theorem dX6_payOf_12 : decode cX6_payOf 12 = .ok (.iload_n 1, 1) := by decide +kernel
theorem dX6_payOf_13 : decode cX6_payOf 13 = .ok (.iload_n 3, 1) := by decide +kernel
theorem dX6_payOf_14 : decode cX6_payOf 14 = .ok (.ishr, 1) := by decide +kernel
theorem dX6_payOf_15 : decode cX6_payOf 15 = .ok (.iconst 1, 1) := by decide +kernel
theorem dX6_payOf_16 : decode cX6_payOf 16 = .ok (.iand, 1) := by decide +kernel
theorem dX6_payOf_17 : decode cX6_payOf 17 = .ok (.iconst 1, 1) := by decide +kernel
theorem dX6_payOf_18 : decode cX6_payOf 18 = .ok (.if_icmp .ne 15, 3) := by decide +kernel
theorem dX6_payOf_21 : decode cX6_payOf 21 = .ok (.iload_n 2, 1) := by decide +kernel
theorem dX6_payOf_22 : decode cX6_payOf 22 = .ok (.aload_n 0, 1) := by decide +kernel
theorem dX6_payOf_23 : decode cX6_payOf 23 = .ok (.getfield 19, 3) := by decide +kernel
theorem dX6_payOf_26 : decode cX6_payOf 26 = .ok (.iload_n 3, 1) := by decide +kernel
theorem dX6_payOf_27 : decode cX6_payOf 27 = .ok (.aaload, 1) := by decide +kernel
theorem dX6_payOf_28 : decode cX6_payOf 28 = .ok (.getfield 238, 3) := by decide +kernel
theorem dX6_payOf_31 : decode cX6_payOf 31 = .ok (.iadd, 1) := by decide +kernel
theorem dX6_payOf_32 : decode cX6_payOf 32 = .ok (.istore_n 2, 1) := by decide +kernel
theorem dX6_payOf_33 : decode cX6_payOf 33 = .ok (.iinc 3 1, 3) := by decide +kernel
theorem dX6_payOf_36 : decode cX6_payOf 36 = .ok (.goto (-32), 3) := by decide +kernel
theorem dX6_payOf_39 : decode cX6_payOf 39 = .ok (.iload_n 2, 1) := by decide +kernel
theorem dX6_payOf_40 : decode cX6_payOf 40 = .ok (.ireturn, 1) := by decide +kernel
abbrev M_X6_payOf : MT := (yX6_payOf, cX6_payOf, 4, (some .int))
theorem cf_X6_payOf : fq_cf M_X6_payOf 1 := ⟨(mg_1 (List.mem_of_getElem? (i := 8) rfl) rfl), (mg_5 (List.mem_of_getElem? (i := 228) rfl) rfl), ⟨by decide, by decide, by decide +kernel⟩, by decide⟩
def B_X6_payOf_33 (l : Launch) (G : GT) (D mc ms : Nat) (Q : Post) : Cn := ix_iinc 3 1 (fqAt l G M_X6_payOf (D + 0) mc ms Q 4)
theorem b_X6_payOf_33 {l : Launch} {G : GT} {D mc ms : Nat} {Q : Post} : Imp l G M_X6_payOf (D + 0) mc ms Q (B_X6_payOf_33 l G D mc ms Q) 33 := sx_iinc dX6_payOf_33 rfl (by decide) (sx_goto 4 dX6_payOf_36 (by decide) ((fun _ _ _ _ _ _ _ _ h => h)))
def B_X6_payOf_4 (l : Launch) (G : GT) (D mc ms : Nat) (Q : Post) : Cn := ix_iload 3 (ix_aload 0 (ix_getI 6 6 (ix_icmp_ge (ix_iload 2 (ix_iret mc ms Q)) (ix_iload 1 (ix_iload 3 (ix_ishr (ix_pushI 1 (ix_iand (ix_pushI 1 (ix_icmp_ne ((B_X6_payOf_33 l G D mc ms Q)) (ix_iload 2 (ix_aload 0 (ix_getR 6 1 (ix_iload 3 (ix_aald 17 (ix_getI 2 5 (ix_iadd (ix_istore 2 ((B_X6_payOf_33 l G D mc ms Q))))))))))))))))))))
theorem b_X6_payOf_4 {l : Launch} {G : GT} {D mc ms : Nat} {Q : Post} : Imp l G M_X6_payOf (D + 0) mc ms Q (B_X6_payOf_4 l G D mc ms Q) 4 := sx_iload_n dX6_payOf_4 rfl (sx_aload_n dX6_payOf_5 rfl (sx_getI dX6_payOf_6 fl_FootQuarrel_Street_53 (fun _ _ _ => rfl) (sx_icmp_ge 39 dX6_payOf_9 (by decide) (sx_iload_n dX6_payOf_39 rfl (sx_iret dX6_payOf_40 rfl)) (sx_iload_n dX6_payOf_12 rfl (sx_iload_n dX6_payOf_13 rfl (sx_ishr dX6_payOf_14 (sx_iconst dX6_payOf_15 rfl (sx_iand dX6_payOf_16 (sx_iconst dX6_payOf_17 rfl (sx_icmp_ne 33 dX6_payOf_18 (by decide) (b_X6_payOf_33) (sx_iload_n dX6_payOf_21 rfl (sx_aload_n dX6_payOf_22 rfl (sx_getR dX6_payOf_23 fl_FootQuarrel_Street_19 (fun _ _ _ => rfl) (sx_iload_n dX6_payOf_26 rfl (sx_aald dX6_payOf_27 (by decide) (by decide) rfl (sx_getI dX6_payOf_28 fl_FootQuarrel_Street_238 (fun _ _ _ => rfl) (sx_iadd dX6_payOf_31 (sx_istore_n dX6_payOf_32 rfl (by decide) (b_X6_payOf_33)))))))))))))))))))
def B_X6_payOf_0 (l : Launch) (G : GT) (D mc ms : Nat) (Q : Post) : Cn := ix_pushI 0 (ix_istore 2 (ix_pushI 0 (ix_istore 3 (fqAt l G M_X6_payOf (D + 0) mc ms Q 4))))
theorem b_X6_payOf_0 {l : Launch} {G : GT} {D mc ms : Nat} {Q : Post} : Imp l G M_X6_payOf (D + 0) mc ms Q (B_X6_payOf_0 l G D mc ms Q) 0 := sx_iconst dX6_payOf_0 rfl (sx_istore_n dX6_payOf_1 rfl (by decide) (sx_iconst dX6_payOf_2 rfl (sx_istore_n dX6_payOf_3 rfl (by decide) ((fun _ _ _ _ _ _ _ _ h => h)))))
def sp_X6_wallPlace (G : GT) : Sp := fun as S I J z Q => match as with
  | [.ref s, .int w] => stS S s ∧ vp_in w 6 ∧ Q (some (.int (foldU (fun i a => a + I (s + 18 + i) 2) 0 (w.toNatClampNeg + 1) 0))) S I J z
  | _ => False
set_option maxHeartbeats 4000000 in
set_option maxRecDepth 20000 in
theorem c_X6_wallPlace {l : Launch} {G : GT} {D : Nat} : ∀ as S I J z Q, sp_X6_wallPlace G as S I J z Q → fqCall l G M_X6_wallPlace (D + 0) 0 0 as S I J z Q := by
  intro as S I J z Q h
  unfold sp_X6_wallPlace at h
  split at h
  · next s w =>
    obtain ⟨hs, hw, hQ⟩ := h
    obtain ⟨w, hw, rfl⟩ := vp_in_of hw (by decide)
    rw [nI_clamp (by omega)] at hQ
    have lp : ∀ (n i : Nat) (acc : Int32), i + n = w + 1 → Q (some (.int (foldU (fun i a => a + I (s + 18 + i) 2) i n acc))) S I J z → fqAt l G M_X6_wallPlace (D + 0) 0 0 Q 4 [some (.ref s), some (.int (nI w)), some (.int acc), some (.int (nI i))] [] S I J z 0 0 := by
      intro n
      induction n with
      | zero =>
        intro i acc hi hq
        refine b_X6_wallPlace_4 _ _ _ _ _ _ _ _ ?_
        simp (disch := omega) only [B_X6_wallPlace_0, B_X6_wallPlace_4, hs.k, hs.r0, hs.k1, hs.r1, hs.k2, hs.r2, hs.k3, hs.r3, hs.k4, hs.r4, hs.k12, hs.n1, hs.n2, hs.n3, hs.y0, hs.k5, hs.n5, hs.y1, hs.k6, hs.n6, hs.y2, hs.k7, hs.n7, hs.y3, hs.k8, hs.n8, hs.y4, hs.k9, hs.n9, hs.y5, hs.k10, hs.n10, hs.y6, hs.k11, hs.n11, hs.p0, hs.p1, hs.p2, hs.k13, hs.n13, hs.q0, hs.q1, hs.k14, hs.k15, hs.k16, hs.n16, hs.k17, hs.n17, hs.rH, hs.kH, hs.rP, hs.kP, hs.rQ, hs.kQ, nI_1, nI_add, nI_clamp, nI_pin, nI_neg, nI_nonneg, nI_leE, nI_ltE, nI_eqE, Nat.not_le, Nat.not_lt, fq_10, fq_01, fq_rr, ix_aald, ix_aast, ix_abs, ix_alen, ix_aload, ix_aret, ix_astore, ix_bald, ix_bast, ix_call, ix_cpyI, ix_cpyJ, ix_dead, ix_dup2, ix_dup2L, ix_dupI, ix_dupR, ix_dupx1, ix_getI, ix_getJ, ix_getR, ix_gfm, ix_gtab, ix_i2b, ix_i2c, ix_i2l, ix_i2s, ix_iadd, ix_iald, ix_iand, ix_iast, ix_icall, ix_icmp_eq, ix_icmp_ge, ix_icmp_gt, ix_icmp_le, ix_icmp_lt, ix_icmp_ne, ix_idiv, ix_if_eq, ix_if_ge, ix_if_gt, ix_if_le, ix_if_lt, ix_if_ne, ix_iinc, ix_iload, ix_imul, ix_ineg, ix_ior, ix_irem, ix_iret, ix_ishl, ix_ishr, ix_istore, ix_isub, ix_iushr, ix_ixor, ix_l2i, ix_ladd, ix_lald, ix_land, ix_last, ix_lcmp, ix_ldcS, ix_ldiv, ix_lload, ix_lmul, ix_lor, ix_lrem, ix_lret, ix_lshl, ix_lstore, ix_lsub, ix_lsw, ix_max, ix_min, ix_new, ix_newa, ix_nret, ix_oinit, ix_pop2L, ix_popI, ix_pushI, ix_pushL, ix_putI, ix_putJ, ix_putR, ix_putZ, ix_sbald, ix_sgetC, ix_sgetV, ix_slen, ix_strc, ix_tald, ix_tsw, ix_vcall, ix_vret, ix_zret, stL, stL2, kilL, popN, fq_sw, fq_lsw, List.map_cons, List.map_nil, List.getElem?_cons_zero, List.getElem?_cons_succ, Option.toList_some, Option.toList_none, List.cons_append, List.nil_append, List.length_cons, List.length_nil, List.sum_cons, List.sum_nil, cat_i, cat_l, cat_r, true_and, and_true, Nat.zero_add, Nat.add_zero, Nat.le_refl, Nat.zero_le, Nat.reduceAdd, Nat.reduceLeDiff, exists_eq_left', Option.some.injEq, not_true_eq_false, not_false_eq_true, false_implies, true_implies, implies_true, and_self, or_true, true_or, or_false, false_or]
        exact ⟨fun _ => hq, fun h => absurd h (by omega)⟩
      | succ n ih =>
        intro i acc hi hq
        refine b_X6_wallPlace_4 _ _ _ _ _ _ _ _ ?_
        simp (disch := omega) only [B_X6_wallPlace_0, B_X6_wallPlace_4, hs.k, hs.r0, hs.k1, hs.r1, hs.k2, hs.r2, hs.k3, hs.r3, hs.k4, hs.r4, hs.k12, hs.n1, hs.n2, hs.n3, hs.y0, hs.k5, hs.n5, hs.y1, hs.k6, hs.n6, hs.y2, hs.k7, hs.n7, hs.y3, hs.k8, hs.n8, hs.y4, hs.k9, hs.n9, hs.y5, hs.k10, hs.n10, hs.y6, hs.k11, hs.n11, hs.p0, hs.p1, hs.p2, hs.k13, hs.n13, hs.q0, hs.q1, hs.k14, hs.k15, hs.k16, hs.n16, hs.k17, hs.n17, hs.rH, hs.kH, hs.rP, hs.kP, hs.rQ, hs.kQ, nI_1, nI_add, nI_clamp, nI_pin, nI_neg, nI_nonneg, nI_leE, nI_ltE, nI_eqE, Nat.not_le, Nat.not_lt, fq_10, fq_01, fq_rr, ix_aald, ix_aast, ix_abs, ix_alen, ix_aload, ix_aret, ix_astore, ix_bald, ix_bast, ix_call, ix_cpyI, ix_cpyJ, ix_dead, ix_dup2, ix_dup2L, ix_dupI, ix_dupR, ix_dupx1, ix_getI, ix_getJ, ix_getR, ix_gfm, ix_gtab, ix_i2b, ix_i2c, ix_i2l, ix_i2s, ix_iadd, ix_iald, ix_iand, ix_iast, ix_icall, ix_icmp_eq, ix_icmp_ge, ix_icmp_gt, ix_icmp_le, ix_icmp_lt, ix_icmp_ne, ix_idiv, ix_if_eq, ix_if_ge, ix_if_gt, ix_if_le, ix_if_lt, ix_if_ne, ix_iinc, ix_iload, ix_imul, ix_ineg, ix_ior, ix_irem, ix_iret, ix_ishl, ix_ishr, ix_istore, ix_isub, ix_iushr, ix_ixor, ix_l2i, ix_ladd, ix_lald, ix_land, ix_last, ix_lcmp, ix_ldcS, ix_ldiv, ix_lload, ix_lmul, ix_lor, ix_lrem, ix_lret, ix_lshl, ix_lstore, ix_lsub, ix_lsw, ix_max, ix_min, ix_new, ix_newa, ix_nret, ix_oinit, ix_pop2L, ix_popI, ix_pushI, ix_pushL, ix_putI, ix_putJ, ix_putR, ix_putZ, ix_sbald, ix_sgetC, ix_sgetV, ix_slen, ix_strc, ix_tald, ix_tsw, ix_vcall, ix_vret, ix_zret, stL, stL2, kilL, popN, fq_sw, fq_lsw, List.map_cons, List.map_nil, List.getElem?_cons_zero, List.getElem?_cons_succ, Option.toList_some, Option.toList_none, List.cons_append, List.nil_append, List.length_cons, List.length_nil, List.sum_cons, List.sum_nil, cat_i, cat_l, cat_r, true_and, and_true, Nat.zero_add, Nat.add_zero, Nat.le_refl, Nat.zero_le, Nat.reduceAdd, Nat.reduceLeDiff, exists_eq_left', Option.some.injEq, not_true_eq_false, not_false_eq_true, false_implies, true_implies, implies_true, and_self, or_true, true_or, or_false, false_or]
        exact ⟨fun h => absurd h (by omega), fun _ => ih (i + 1) _ (by omega) hq⟩
    refine fq_enter [some (.ref s), some (.int (nI w)), none, none] (by decide +kernel) (Nat.le_of_ble_eq_true rfl) rfl (b_X6_wallPlace_0 _ _ _ _ _ _ _ _ ?_)
    simp (disch := omega) only [B_X6_wallPlace_0, B_X6_wallPlace_4, hs.k, hs.r0, hs.k1, hs.r1, hs.k2, hs.r2, hs.k3, hs.r3, hs.k4, hs.r4, hs.k12, hs.n1, hs.n2, hs.n3, hs.y0, hs.k5, hs.n5, hs.y1, hs.k6, hs.n6, hs.y2, hs.k7, hs.n7, hs.y3, hs.k8, hs.n8, hs.y4, hs.k9, hs.n9, hs.y5, hs.k10, hs.n10, hs.y6, hs.k11, hs.n11, hs.p0, hs.p1, hs.p2, hs.k13, hs.n13, hs.q0, hs.q1, hs.k14, hs.k15, hs.k16, hs.n16, hs.k17, hs.n17, hs.rH, hs.kH, hs.rP, hs.kP, hs.rQ, hs.kQ, nI_1, nI_add, nI_clamp, nI_pin, nI_neg, nI_nonneg, nI_leE, nI_ltE, nI_eqE, Nat.not_le, Nat.not_lt, fq_10, fq_01, fq_rr, ix_aald, ix_aast, ix_abs, ix_alen, ix_aload, ix_aret, ix_astore, ix_bald, ix_bast, ix_call, ix_cpyI, ix_cpyJ, ix_dead, ix_dup2, ix_dup2L, ix_dupI, ix_dupR, ix_dupx1, ix_getI, ix_getJ, ix_getR, ix_gfm, ix_gtab, ix_i2b, ix_i2c, ix_i2l, ix_i2s, ix_iadd, ix_iald, ix_iand, ix_iast, ix_icall, ix_icmp_eq, ix_icmp_ge, ix_icmp_gt, ix_icmp_le, ix_icmp_lt, ix_icmp_ne, ix_idiv, ix_if_eq, ix_if_ge, ix_if_gt, ix_if_le, ix_if_lt, ix_if_ne, ix_iinc, ix_iload, ix_imul, ix_ineg, ix_ior, ix_irem, ix_iret, ix_ishl, ix_ishr, ix_istore, ix_isub, ix_iushr, ix_ixor, ix_l2i, ix_ladd, ix_lald, ix_land, ix_last, ix_lcmp, ix_ldcS, ix_ldiv, ix_lload, ix_lmul, ix_lor, ix_lrem, ix_lret, ix_lshl, ix_lstore, ix_lsub, ix_lsw, ix_max, ix_min, ix_new, ix_newa, ix_nret, ix_oinit, ix_pop2L, ix_popI, ix_pushI, ix_pushL, ix_putI, ix_putJ, ix_putR, ix_putZ, ix_sbald, ix_sgetC, ix_sgetV, ix_slen, ix_strc, ix_tald, ix_tsw, ix_vcall, ix_vret, ix_zret, stL, stL2, kilL, popN, fq_sw, fq_lsw, List.map_cons, List.map_nil, List.getElem?_cons_zero, List.getElem?_cons_succ, Option.toList_some, Option.toList_none, List.cons_append, List.nil_append, List.length_cons, List.length_nil, List.sum_cons, List.sum_nil, cat_i, cat_l, cat_r, true_and, and_true, Nat.zero_add, Nat.add_zero, Nat.le_refl, Nat.zero_le, Nat.reduceAdd, Nat.reduceLeDiff, exists_eq_left', Option.some.injEq, not_true_eq_false, not_false_eq_true, false_implies, true_implies, implies_true, and_self, or_true, true_or, or_false, false_or]
    exact lp (w + 1) 0 0 (by omega) hQ
  · exact h.elim
def sp_X6_toldPlace (G : GT) : Sp := fun as S I J z Q => match as with
  | [.ref s, .int w] => stS S s ∧ vp_in w 6 ∧ Q (some (.int (foldU (fun i a => a + I (s + 18 + i) 1) 0 (w.toNatClampNeg + 1) 0))) S I J z
  | _ => False
set_option maxHeartbeats 4000000 in
set_option maxRecDepth 20000 in
theorem c_X6_toldPlace {l : Launch} {G : GT} {D : Nat} : ∀ as S I J z Q, sp_X6_toldPlace G as S I J z Q → fqCall l G M_X6_toldPlace (D + 0) 0 0 as S I J z Q := by
  intro as S I J z Q h
  unfold sp_X6_toldPlace at h
  split at h
  · next s w =>
    obtain ⟨hs, hw, hQ⟩ := h
    obtain ⟨w, hw, rfl⟩ := vp_in_of hw (by decide)
    rw [nI_clamp (by omega)] at hQ
    have lp : ∀ (n i : Nat) (acc : Int32), i + n = w + 1 → Q (some (.int (foldU (fun i a => a + I (s + 18 + i) 1) i n acc))) S I J z → fqAt l G M_X6_toldPlace (D + 0) 0 0 Q 4 [some (.ref s), some (.int (nI w)), some (.int acc), some (.int (nI i))] [] S I J z 0 0 := by
      intro n
      induction n with
      | zero =>
        intro i acc hi hq
        refine b_X6_toldPlace_4 _ _ _ _ _ _ _ _ ?_
        simp (disch := omega) only [B_X6_toldPlace_0, B_X6_toldPlace_4, hs.k, hs.r0, hs.k1, hs.r1, hs.k2, hs.r2, hs.k3, hs.r3, hs.k4, hs.r4, hs.k12, hs.n1, hs.n2, hs.n3, hs.y0, hs.k5, hs.n5, hs.y1, hs.k6, hs.n6, hs.y2, hs.k7, hs.n7, hs.y3, hs.k8, hs.n8, hs.y4, hs.k9, hs.n9, hs.y5, hs.k10, hs.n10, hs.y6, hs.k11, hs.n11, hs.p0, hs.p1, hs.p2, hs.k13, hs.n13, hs.q0, hs.q1, hs.k14, hs.k15, hs.k16, hs.n16, hs.k17, hs.n17, hs.rH, hs.kH, hs.rP, hs.kP, hs.rQ, hs.kQ, nI_1, nI_add, nI_clamp, nI_pin, nI_neg, nI_nonneg, nI_leE, nI_ltE, nI_eqE, Nat.not_le, Nat.not_lt, fq_10, fq_01, fq_rr, ix_aald, ix_aast, ix_abs, ix_alen, ix_aload, ix_aret, ix_astore, ix_bald, ix_bast, ix_call, ix_cpyI, ix_cpyJ, ix_dead, ix_dup2, ix_dup2L, ix_dupI, ix_dupR, ix_dupx1, ix_getI, ix_getJ, ix_getR, ix_gfm, ix_gtab, ix_i2b, ix_i2c, ix_i2l, ix_i2s, ix_iadd, ix_iald, ix_iand, ix_iast, ix_icall, ix_icmp_eq, ix_icmp_ge, ix_icmp_gt, ix_icmp_le, ix_icmp_lt, ix_icmp_ne, ix_idiv, ix_if_eq, ix_if_ge, ix_if_gt, ix_if_le, ix_if_lt, ix_if_ne, ix_iinc, ix_iload, ix_imul, ix_ineg, ix_ior, ix_irem, ix_iret, ix_ishl, ix_ishr, ix_istore, ix_isub, ix_iushr, ix_ixor, ix_l2i, ix_ladd, ix_lald, ix_land, ix_last, ix_lcmp, ix_ldcS, ix_ldiv, ix_lload, ix_lmul, ix_lor, ix_lrem, ix_lret, ix_lshl, ix_lstore, ix_lsub, ix_lsw, ix_max, ix_min, ix_new, ix_newa, ix_nret, ix_oinit, ix_pop2L, ix_popI, ix_pushI, ix_pushL, ix_putI, ix_putJ, ix_putR, ix_putZ, ix_sbald, ix_sgetC, ix_sgetV, ix_slen, ix_strc, ix_tald, ix_tsw, ix_vcall, ix_vret, ix_zret, stL, stL2, kilL, popN, fq_sw, fq_lsw, List.map_cons, List.map_nil, List.getElem?_cons_zero, List.getElem?_cons_succ, Option.toList_some, Option.toList_none, List.cons_append, List.nil_append, List.length_cons, List.length_nil, List.sum_cons, List.sum_nil, cat_i, cat_l, cat_r, true_and, and_true, Nat.zero_add, Nat.add_zero, Nat.le_refl, Nat.zero_le, Nat.reduceAdd, Nat.reduceLeDiff, exists_eq_left', Option.some.injEq, not_true_eq_false, not_false_eq_true, false_implies, true_implies, implies_true, and_self, or_true, true_or, or_false, false_or]
        exact ⟨fun _ => hq, fun h => absurd h (by omega)⟩
      | succ n ih =>
        intro i acc hi hq
        refine b_X6_toldPlace_4 _ _ _ _ _ _ _ _ ?_
        simp (disch := omega) only [B_X6_toldPlace_0, B_X6_toldPlace_4, hs.k, hs.r0, hs.k1, hs.r1, hs.k2, hs.r2, hs.k3, hs.r3, hs.k4, hs.r4, hs.k12, hs.n1, hs.n2, hs.n3, hs.y0, hs.k5, hs.n5, hs.y1, hs.k6, hs.n6, hs.y2, hs.k7, hs.n7, hs.y3, hs.k8, hs.n8, hs.y4, hs.k9, hs.n9, hs.y5, hs.k10, hs.n10, hs.y6, hs.k11, hs.n11, hs.p0, hs.p1, hs.p2, hs.k13, hs.n13, hs.q0, hs.q1, hs.k14, hs.k15, hs.k16, hs.n16, hs.k17, hs.n17, hs.rH, hs.kH, hs.rP, hs.kP, hs.rQ, hs.kQ, nI_1, nI_add, nI_clamp, nI_pin, nI_neg, nI_nonneg, nI_leE, nI_ltE, nI_eqE, Nat.not_le, Nat.not_lt, fq_10, fq_01, fq_rr, ix_aald, ix_aast, ix_abs, ix_alen, ix_aload, ix_aret, ix_astore, ix_bald, ix_bast, ix_call, ix_cpyI, ix_cpyJ, ix_dead, ix_dup2, ix_dup2L, ix_dupI, ix_dupR, ix_dupx1, ix_getI, ix_getJ, ix_getR, ix_gfm, ix_gtab, ix_i2b, ix_i2c, ix_i2l, ix_i2s, ix_iadd, ix_iald, ix_iand, ix_iast, ix_icall, ix_icmp_eq, ix_icmp_ge, ix_icmp_gt, ix_icmp_le, ix_icmp_lt, ix_icmp_ne, ix_idiv, ix_if_eq, ix_if_ge, ix_if_gt, ix_if_le, ix_if_lt, ix_if_ne, ix_iinc, ix_iload, ix_imul, ix_ineg, ix_ior, ix_irem, ix_iret, ix_ishl, ix_ishr, ix_istore, ix_isub, ix_iushr, ix_ixor, ix_l2i, ix_ladd, ix_lald, ix_land, ix_last, ix_lcmp, ix_ldcS, ix_ldiv, ix_lload, ix_lmul, ix_lor, ix_lrem, ix_lret, ix_lshl, ix_lstore, ix_lsub, ix_lsw, ix_max, ix_min, ix_new, ix_newa, ix_nret, ix_oinit, ix_pop2L, ix_popI, ix_pushI, ix_pushL, ix_putI, ix_putJ, ix_putR, ix_putZ, ix_sbald, ix_sgetC, ix_sgetV, ix_slen, ix_strc, ix_tald, ix_tsw, ix_vcall, ix_vret, ix_zret, stL, stL2, kilL, popN, fq_sw, fq_lsw, List.map_cons, List.map_nil, List.getElem?_cons_zero, List.getElem?_cons_succ, Option.toList_some, Option.toList_none, List.cons_append, List.nil_append, List.length_cons, List.length_nil, List.sum_cons, List.sum_nil, cat_i, cat_l, cat_r, true_and, and_true, Nat.zero_add, Nat.add_zero, Nat.le_refl, Nat.zero_le, Nat.reduceAdd, Nat.reduceLeDiff, exists_eq_left', Option.some.injEq, not_true_eq_false, not_false_eq_true, false_implies, true_implies, implies_true, and_self, or_true, true_or, or_false, false_or]
        exact ⟨fun h => absurd h (by omega), fun _ => ih (i + 1) _ (by omega) hq⟩
    refine fq_enter [some (.ref s), some (.int (nI w)), none, none] (by decide +kernel) (Nat.le_of_ble_eq_true rfl) rfl (b_X6_toldPlace_0 _ _ _ _ _ _ _ _ ?_)
    simp (disch := omega) only [B_X6_toldPlace_0, B_X6_toldPlace_4, hs.k, hs.r0, hs.k1, hs.r1, hs.k2, hs.r2, hs.k3, hs.r3, hs.k4, hs.r4, hs.k12, hs.n1, hs.n2, hs.n3, hs.y0, hs.k5, hs.n5, hs.y1, hs.k6, hs.n6, hs.y2, hs.k7, hs.n7, hs.y3, hs.k8, hs.n8, hs.y4, hs.k9, hs.n9, hs.y5, hs.k10, hs.n10, hs.y6, hs.k11, hs.n11, hs.p0, hs.p1, hs.p2, hs.k13, hs.n13, hs.q0, hs.q1, hs.k14, hs.k15, hs.k16, hs.n16, hs.k17, hs.n17, hs.rH, hs.kH, hs.rP, hs.kP, hs.rQ, hs.kQ, nI_1, nI_add, nI_clamp, nI_pin, nI_neg, nI_nonneg, nI_leE, nI_ltE, nI_eqE, Nat.not_le, Nat.not_lt, fq_10, fq_01, fq_rr, ix_aald, ix_aast, ix_abs, ix_alen, ix_aload, ix_aret, ix_astore, ix_bald, ix_bast, ix_call, ix_cpyI, ix_cpyJ, ix_dead, ix_dup2, ix_dup2L, ix_dupI, ix_dupR, ix_dupx1, ix_getI, ix_getJ, ix_getR, ix_gfm, ix_gtab, ix_i2b, ix_i2c, ix_i2l, ix_i2s, ix_iadd, ix_iald, ix_iand, ix_iast, ix_icall, ix_icmp_eq, ix_icmp_ge, ix_icmp_gt, ix_icmp_le, ix_icmp_lt, ix_icmp_ne, ix_idiv, ix_if_eq, ix_if_ge, ix_if_gt, ix_if_le, ix_if_lt, ix_if_ne, ix_iinc, ix_iload, ix_imul, ix_ineg, ix_ior, ix_irem, ix_iret, ix_ishl, ix_ishr, ix_istore, ix_isub, ix_iushr, ix_ixor, ix_l2i, ix_ladd, ix_lald, ix_land, ix_last, ix_lcmp, ix_ldcS, ix_ldiv, ix_lload, ix_lmul, ix_lor, ix_lrem, ix_lret, ix_lshl, ix_lstore, ix_lsub, ix_lsw, ix_max, ix_min, ix_new, ix_newa, ix_nret, ix_oinit, ix_pop2L, ix_popI, ix_pushI, ix_pushL, ix_putI, ix_putJ, ix_putR, ix_putZ, ix_sbald, ix_sgetC, ix_sgetV, ix_slen, ix_strc, ix_tald, ix_tsw, ix_vcall, ix_vret, ix_zret, stL, stL2, kilL, popN, fq_sw, fq_lsw, List.map_cons, List.map_nil, List.getElem?_cons_zero, List.getElem?_cons_succ, Option.toList_some, Option.toList_none, List.cons_append, List.nil_append, List.length_cons, List.length_nil, List.sum_cons, List.sum_nil, cat_i, cat_l, cat_r, true_and, and_true, Nat.zero_add, Nat.add_zero, Nat.le_refl, Nat.zero_le, Nat.reduceAdd, Nat.reduceLeDiff, exists_eq_left', Option.some.injEq, not_true_eq_false, not_false_eq_true, false_implies, true_implies, implies_true, and_self, or_true, true_or, or_false, false_or]
    exact lp (w + 1) 0 0 (by omega) hQ
  · exact h.elim
def sp_X6_houseNamed (G : GT) : Sp := fun as S I J z Q => match as with
  | [.ref s, .long v] => stS S s ∧ okN (I s 5) 6 ∧ Q (some (.int (fndU (fun i => J (s + 18 + i) 0 == v) 0 (I s 5).toNatClampNeg))) S I J z
  | _ => False
set_option maxHeartbeats 4000000 in
set_option maxRecDepth 20000 in
theorem c_X6_houseNamed {l : Launch} {G : GT} {D : Nat} : ∀ as S I J z Q, sp_X6_houseNamed G as S I J z Q → fqCall l G M_X6_houseNamed (D + 0) 0 0 as S I J z Q := by
  intro as S I J z Q h
  unfold sp_X6_houseNamed at h
  split at h
  · next s v =>
    obtain ⟨hs, ho, hQ⟩ := h
    obtain ⟨c, hc, hc1, hc2⟩ := ho.ex
    rw [hc2] at hQ
    have lp : ∀ (n i : Nat), i + n = c → Q (some (.int (fndU (fun i => J (s + 18 + i) 0 == v) i n))) S I J z → fqAt l G M_X6_houseNamed (D + 0) 0 0 Q 2 [some (.ref s), some (.long v), none, some (.int (nI i))] [] S I J z 0 0 := by
      intro n
      induction n with
      | zero =>
        intro i hi hq
        refine b_X6_houseNamed_2 _ _ _ _ _ _ _ _ ?_
        simp (disch := omega) only [B_X6_houseNamed_0, B_X6_houseNamed_2, hs.k, hs.r0, hs.k1, hs.r1, hs.k2, hs.r2, hs.k3, hs.r3, hs.k4, hs.r4, hs.k12, hs.n1, hs.n2, hs.n3, hs.y0, hs.k5, hs.n5, hs.y1, hs.k6, hs.n6, hs.y2, hs.k7, hs.n7, hs.y3, hs.k8, hs.n8, hs.y4, hs.k9, hs.n9, hs.y5, hs.k10, hs.n10, hs.y6, hs.k11, hs.n11, hs.p0, hs.p1, hs.p2, hs.k13, hs.n13, hs.q0, hs.q1, hs.k14, hs.k15, hs.k16, hs.n16, hs.k17, hs.n17, hs.rH, hs.kH, hs.rP, hs.kP, hs.rQ, hs.kQ, hc1, nI_1, nI_add, nI_clamp, nI_pin, nI_neg, nI_nonneg, nI_leE, nI_ltE, nI_eqE, Nat.not_le, Nat.not_lt, fq_10, fq_01, fq_rr, ix_aald, ix_aast, ix_abs, ix_alen, ix_aload, ix_aret, ix_astore, ix_bald, ix_bast, ix_call, ix_cpyI, ix_cpyJ, ix_dead, ix_dup2, ix_dup2L, ix_dupI, ix_dupR, ix_dupx1, ix_getI, ix_getJ, ix_getR, ix_gfm, ix_gtab, ix_i2b, ix_i2c, ix_i2l, ix_i2s, ix_iadd, ix_iald, ix_iand, ix_iast, ix_icall, ix_icmp_eq, ix_icmp_ge, ix_icmp_gt, ix_icmp_le, ix_icmp_lt, ix_icmp_ne, ix_idiv, ix_if_eq, ix_if_ge, ix_if_gt, ix_if_le, ix_if_lt, ix_if_ne, ix_iinc, ix_iload, ix_imul, ix_ineg, ix_ior, ix_irem, ix_iret, ix_ishl, ix_ishr, ix_istore, ix_isub, ix_iushr, ix_ixor, ix_l2i, ix_ladd, ix_lald, ix_land, ix_last, ix_lcmp, ix_ldcS, ix_ldiv, ix_lload, ix_lmul, ix_lor, ix_lrem, ix_lret, ix_lshl, ix_lstore, ix_lsub, ix_lsw, ix_max, ix_min, ix_new, ix_newa, ix_nret, ix_oinit, ix_pop2L, ix_popI, ix_pushI, ix_pushL, ix_putI, ix_putJ, ix_putR, ix_putZ, ix_sbald, ix_sgetC, ix_sgetV, ix_slen, ix_strc, ix_tald, ix_tsw, ix_vcall, ix_vret, ix_zret, stL, stL2, kilL, popN, fq_sw, fq_lsw, List.map_cons, List.map_nil, List.getElem?_cons_zero, List.getElem?_cons_succ, Option.toList_some, Option.toList_none, List.cons_append, List.nil_append, List.length_cons, List.length_nil, List.sum_cons, List.sum_nil, cat_i, cat_l, cat_r, true_and, and_true, Nat.zero_add, Nat.add_zero, Nat.le_refl, Nat.zero_le, Nat.reduceAdd, Nat.reduceLeDiff, exists_eq_left', Option.some.injEq, not_true_eq_false, not_false_eq_true, false_implies, true_implies, implies_true, and_self, or_true, true_or, or_false, false_or]
        exact ⟨fun _ => hq, fun h => absurd h (by omega)⟩
      | succ n ih =>
        intro i hi hq
        refine b_X6_houseNamed_2 _ _ _ _ _ _ _ _ ?_
        simp (disch := omega) only [B_X6_houseNamed_0, B_X6_houseNamed_2, hs.k, hs.r0, hs.k1, hs.r1, hs.k2, hs.r2, hs.k3, hs.r3, hs.k4, hs.r4, hs.k12, hs.n1, hs.n2, hs.n3, hs.y0, hs.k5, hs.n5, hs.y1, hs.k6, hs.n6, hs.y2, hs.k7, hs.n7, hs.y3, hs.k8, hs.n8, hs.y4, hs.k9, hs.n9, hs.y5, hs.k10, hs.n10, hs.y6, hs.k11, hs.n11, hs.p0, hs.p1, hs.p2, hs.k13, hs.n13, hs.q0, hs.q1, hs.k14, hs.k15, hs.k16, hs.n16, hs.k17, hs.n17, hs.rH, hs.kH, hs.rP, hs.kP, hs.rQ, hs.kQ, hc1, lg_cmp_eq, nI_1, nI_add, nI_clamp, nI_pin, nI_neg, nI_nonneg, nI_leE, nI_ltE, nI_eqE, Nat.not_le, Nat.not_lt, fq_10, fq_01, fq_rr, ix_aald, ix_aast, ix_abs, ix_alen, ix_aload, ix_aret, ix_astore, ix_bald, ix_bast, ix_call, ix_cpyI, ix_cpyJ, ix_dead, ix_dup2, ix_dup2L, ix_dupI, ix_dupR, ix_dupx1, ix_getI, ix_getJ, ix_getR, ix_gfm, ix_gtab, ix_i2b, ix_i2c, ix_i2l, ix_i2s, ix_iadd, ix_iald, ix_iand, ix_iast, ix_icall, ix_icmp_eq, ix_icmp_ge, ix_icmp_gt, ix_icmp_le, ix_icmp_lt, ix_icmp_ne, ix_idiv, ix_if_eq, ix_if_ge, ix_if_gt, ix_if_le, ix_if_lt, ix_if_ne, ix_iinc, ix_iload, ix_imul, ix_ineg, ix_ior, ix_irem, ix_iret, ix_ishl, ix_ishr, ix_istore, ix_isub, ix_iushr, ix_ixor, ix_l2i, ix_ladd, ix_lald, ix_land, ix_last, ix_lcmp, ix_ldcS, ix_ldiv, ix_lload, ix_lmul, ix_lor, ix_lrem, ix_lret, ix_lshl, ix_lstore, ix_lsub, ix_lsw, ix_max, ix_min, ix_new, ix_newa, ix_nret, ix_oinit, ix_pop2L, ix_popI, ix_pushI, ix_pushL, ix_putI, ix_putJ, ix_putR, ix_putZ, ix_sbald, ix_sgetC, ix_sgetV, ix_slen, ix_strc, ix_tald, ix_tsw, ix_vcall, ix_vret, ix_zret, stL, stL2, kilL, popN, fq_sw, fq_lsw, List.map_cons, List.map_nil, List.getElem?_cons_zero, List.getElem?_cons_succ, Option.toList_some, Option.toList_none, List.cons_append, List.nil_append, List.length_cons, List.length_nil, List.sum_cons, List.sum_nil, cat_i, cat_l, cat_r, true_and, and_true, Nat.zero_add, Nat.add_zero, Nat.le_refl, Nat.zero_le, Nat.reduceAdd, Nat.reduceLeDiff, exists_eq_left', Option.some.injEq, not_true_eq_false, not_false_eq_true, false_implies, true_implies, implies_true, and_self, or_true, true_or, or_false, false_or]
        refine ⟨fun h => absurd h (by omega), fun _ => ⟨fun h => ih (i + 1) (by omega) ?_, fun h => ?_⟩⟩
        · rw [fndU_1, if_neg (by simpa using h)] at hq
          exact hq
        · rw [fndU_1, if_pos (by simpa using h)] at hq
          exact hq
    refine fq_enter [some (.ref s), some (.long v), none, none] (by decide +kernel) (Nat.le_of_ble_eq_true rfl) rfl (b_X6_houseNamed_0 _ _ _ _ _ _ _ _ ?_)
    simp (disch := omega) only [B_X6_houseNamed_0, B_X6_houseNamed_2, hs.k, hs.r0, hs.k1, hs.r1, hs.k2, hs.r2, hs.k3, hs.r3, hs.k4, hs.r4, hs.k12, hs.n1, hs.n2, hs.n3, hs.y0, hs.k5, hs.n5, hs.y1, hs.k6, hs.n6, hs.y2, hs.k7, hs.n7, hs.y3, hs.k8, hs.n8, hs.y4, hs.k9, hs.n9, hs.y5, hs.k10, hs.n10, hs.y6, hs.k11, hs.n11, hs.p0, hs.p1, hs.p2, hs.k13, hs.n13, hs.q0, hs.q1, hs.k14, hs.k15, hs.k16, hs.n16, hs.k17, hs.n17, hs.rH, hs.kH, hs.rP, hs.kP, hs.rQ, hs.kQ, nI_1, nI_add, nI_clamp, nI_pin, nI_neg, nI_nonneg, nI_leE, nI_ltE, nI_eqE, Nat.not_le, Nat.not_lt, fq_10, fq_01, fq_rr, ix_aald, ix_aast, ix_abs, ix_alen, ix_aload, ix_aret, ix_astore, ix_bald, ix_bast, ix_call, ix_cpyI, ix_cpyJ, ix_dead, ix_dup2, ix_dup2L, ix_dupI, ix_dupR, ix_dupx1, ix_getI, ix_getJ, ix_getR, ix_gfm, ix_gtab, ix_i2b, ix_i2c, ix_i2l, ix_i2s, ix_iadd, ix_iald, ix_iand, ix_iast, ix_icall, ix_icmp_eq, ix_icmp_ge, ix_icmp_gt, ix_icmp_le, ix_icmp_lt, ix_icmp_ne, ix_idiv, ix_if_eq, ix_if_ge, ix_if_gt, ix_if_le, ix_if_lt, ix_if_ne, ix_iinc, ix_iload, ix_imul, ix_ineg, ix_ior, ix_irem, ix_iret, ix_ishl, ix_ishr, ix_istore, ix_isub, ix_iushr, ix_ixor, ix_l2i, ix_ladd, ix_lald, ix_land, ix_last, ix_lcmp, ix_ldcS, ix_ldiv, ix_lload, ix_lmul, ix_lor, ix_lrem, ix_lret, ix_lshl, ix_lstore, ix_lsub, ix_lsw, ix_max, ix_min, ix_new, ix_newa, ix_nret, ix_oinit, ix_pop2L, ix_popI, ix_pushI, ix_pushL, ix_putI, ix_putJ, ix_putR, ix_putZ, ix_sbald, ix_sgetC, ix_sgetV, ix_slen, ix_strc, ix_tald, ix_tsw, ix_vcall, ix_vret, ix_zret, stL, stL2, kilL, popN, fq_sw, fq_lsw, List.map_cons, List.map_nil, List.getElem?_cons_zero, List.getElem?_cons_succ, Option.toList_some, Option.toList_none, List.cons_append, List.nil_append, List.length_cons, List.length_nil, List.sum_cons, List.sum_nil, cat_i, cat_l, cat_r, true_and, and_true, Nat.zero_add, Nat.add_zero, Nat.le_refl, Nat.zero_le, Nat.reduceAdd, Nat.reduceLeDiff, exists_eq_left', Option.some.injEq, not_true_eq_false, not_false_eq_true, false_implies, true_implies, implies_true, and_self, or_true, true_or, or_false, false_or]
    exact lp c 0 (by omega) hQ
  · exact h.elim
def sp_X6_personNamed (G : GT) : Sp := fun as S I J z Q => match as with
  | [.ref s, .long v] => stS S s ∧ okN (I s 6) 8 ∧ Q (some (.int (fndU (fun i => J (s + 24 + i) 0 == v) 0 (I s 6).toNatClampNeg))) S I J z
  | _ => False
set_option maxHeartbeats 4000000 in
set_option maxRecDepth 20000 in
theorem c_X6_personNamed {l : Launch} {G : GT} {D : Nat} : ∀ as S I J z Q, sp_X6_personNamed G as S I J z Q → fqCall l G M_X6_personNamed (D + 0) 0 0 as S I J z Q := by
  intro as S I J z Q h
  unfold sp_X6_personNamed at h
  split at h
  · next s v =>
    obtain ⟨hs, ho, hQ⟩ := h
    obtain ⟨c, hc, hc1, hc2⟩ := ho.ex
    rw [hc2] at hQ
    have lp : ∀ (n i : Nat), i + n = c → Q (some (.int (fndU (fun i => J (s + 24 + i) 0 == v) i n))) S I J z → fqAt l G M_X6_personNamed (D + 0) 0 0 Q 2 [some (.ref s), some (.long v), none, some (.int (nI i))] [] S I J z 0 0 := by
      intro n
      induction n with
      | zero =>
        intro i hi hq
        refine b_X6_personNamed_2 _ _ _ _ _ _ _ _ ?_
        simp (disch := omega) only [B_X6_personNamed_0, B_X6_personNamed_2, hs.k, hs.r0, hs.k1, hs.r1, hs.k2, hs.r2, hs.k3, hs.r3, hs.k4, hs.r4, hs.k12, hs.n1, hs.n2, hs.n3, hs.y0, hs.k5, hs.n5, hs.y1, hs.k6, hs.n6, hs.y2, hs.k7, hs.n7, hs.y3, hs.k8, hs.n8, hs.y4, hs.k9, hs.n9, hs.y5, hs.k10, hs.n10, hs.y6, hs.k11, hs.n11, hs.p0, hs.p1, hs.p2, hs.k13, hs.n13, hs.q0, hs.q1, hs.k14, hs.k15, hs.k16, hs.n16, hs.k17, hs.n17, hs.rH, hs.kH, hs.rP, hs.kP, hs.rQ, hs.kQ, hc1, nI_1, nI_add, nI_clamp, nI_pin, nI_neg, nI_nonneg, nI_leE, nI_ltE, nI_eqE, Nat.not_le, Nat.not_lt, fq_10, fq_01, fq_rr, ix_aald, ix_aast, ix_abs, ix_alen, ix_aload, ix_aret, ix_astore, ix_bald, ix_bast, ix_call, ix_cpyI, ix_cpyJ, ix_dead, ix_dup2, ix_dup2L, ix_dupI, ix_dupR, ix_dupx1, ix_getI, ix_getJ, ix_getR, ix_gfm, ix_gtab, ix_i2b, ix_i2c, ix_i2l, ix_i2s, ix_iadd, ix_iald, ix_iand, ix_iast, ix_icall, ix_icmp_eq, ix_icmp_ge, ix_icmp_gt, ix_icmp_le, ix_icmp_lt, ix_icmp_ne, ix_idiv, ix_if_eq, ix_if_ge, ix_if_gt, ix_if_le, ix_if_lt, ix_if_ne, ix_iinc, ix_iload, ix_imul, ix_ineg, ix_ior, ix_irem, ix_iret, ix_ishl, ix_ishr, ix_istore, ix_isub, ix_iushr, ix_ixor, ix_l2i, ix_ladd, ix_lald, ix_land, ix_last, ix_lcmp, ix_ldcS, ix_ldiv, ix_lload, ix_lmul, ix_lor, ix_lrem, ix_lret, ix_lshl, ix_lstore, ix_lsub, ix_lsw, ix_max, ix_min, ix_new, ix_newa, ix_nret, ix_oinit, ix_pop2L, ix_popI, ix_pushI, ix_pushL, ix_putI, ix_putJ, ix_putR, ix_putZ, ix_sbald, ix_sgetC, ix_sgetV, ix_slen, ix_strc, ix_tald, ix_tsw, ix_vcall, ix_vret, ix_zret, stL, stL2, kilL, popN, fq_sw, fq_lsw, List.map_cons, List.map_nil, List.getElem?_cons_zero, List.getElem?_cons_succ, Option.toList_some, Option.toList_none, List.cons_append, List.nil_append, List.length_cons, List.length_nil, List.sum_cons, List.sum_nil, cat_i, cat_l, cat_r, true_and, and_true, Nat.zero_add, Nat.add_zero, Nat.le_refl, Nat.zero_le, Nat.reduceAdd, Nat.reduceLeDiff, exists_eq_left', Option.some.injEq, not_true_eq_false, not_false_eq_true, false_implies, true_implies, implies_true, and_self, or_true, true_or, or_false, false_or]
        exact ⟨fun _ => hq, fun h => absurd h (by omega)⟩
      | succ n ih =>
        intro i hi hq
        refine b_X6_personNamed_2 _ _ _ _ _ _ _ _ ?_
        simp (disch := omega) only [B_X6_personNamed_0, B_X6_personNamed_2, hs.k, hs.r0, hs.k1, hs.r1, hs.k2, hs.r2, hs.k3, hs.r3, hs.k4, hs.r4, hs.k12, hs.n1, hs.n2, hs.n3, hs.y0, hs.k5, hs.n5, hs.y1, hs.k6, hs.n6, hs.y2, hs.k7, hs.n7, hs.y3, hs.k8, hs.n8, hs.y4, hs.k9, hs.n9, hs.y5, hs.k10, hs.n10, hs.y6, hs.k11, hs.n11, hs.p0, hs.p1, hs.p2, hs.k13, hs.n13, hs.q0, hs.q1, hs.k14, hs.k15, hs.k16, hs.n16, hs.k17, hs.n17, hs.rH, hs.kH, hs.rP, hs.kP, hs.rQ, hs.kQ, hc1, lg_cmp_eq, nI_1, nI_add, nI_clamp, nI_pin, nI_neg, nI_nonneg, nI_leE, nI_ltE, nI_eqE, Nat.not_le, Nat.not_lt, fq_10, fq_01, fq_rr, ix_aald, ix_aast, ix_abs, ix_alen, ix_aload, ix_aret, ix_astore, ix_bald, ix_bast, ix_call, ix_cpyI, ix_cpyJ, ix_dead, ix_dup2, ix_dup2L, ix_dupI, ix_dupR, ix_dupx1, ix_getI, ix_getJ, ix_getR, ix_gfm, ix_gtab, ix_i2b, ix_i2c, ix_i2l, ix_i2s, ix_iadd, ix_iald, ix_iand, ix_iast, ix_icall, ix_icmp_eq, ix_icmp_ge, ix_icmp_gt, ix_icmp_le, ix_icmp_lt, ix_icmp_ne, ix_idiv, ix_if_eq, ix_if_ge, ix_if_gt, ix_if_le, ix_if_lt, ix_if_ne, ix_iinc, ix_iload, ix_imul, ix_ineg, ix_ior, ix_irem, ix_iret, ix_ishl, ix_ishr, ix_istore, ix_isub, ix_iushr, ix_ixor, ix_l2i, ix_ladd, ix_lald, ix_land, ix_last, ix_lcmp, ix_ldcS, ix_ldiv, ix_lload, ix_lmul, ix_lor, ix_lrem, ix_lret, ix_lshl, ix_lstore, ix_lsub, ix_lsw, ix_max, ix_min, ix_new, ix_newa, ix_nret, ix_oinit, ix_pop2L, ix_popI, ix_pushI, ix_pushL, ix_putI, ix_putJ, ix_putR, ix_putZ, ix_sbald, ix_sgetC, ix_sgetV, ix_slen, ix_strc, ix_tald, ix_tsw, ix_vcall, ix_vret, ix_zret, stL, stL2, kilL, popN, fq_sw, fq_lsw, List.map_cons, List.map_nil, List.getElem?_cons_zero, List.getElem?_cons_succ, Option.toList_some, Option.toList_none, List.cons_append, List.nil_append, List.length_cons, List.length_nil, List.sum_cons, List.sum_nil, cat_i, cat_l, cat_r, true_and, and_true, Nat.zero_add, Nat.add_zero, Nat.le_refl, Nat.zero_le, Nat.reduceAdd, Nat.reduceLeDiff, exists_eq_left', Option.some.injEq, not_true_eq_false, not_false_eq_true, false_implies, true_implies, implies_true, and_self, or_true, true_or, or_false, false_or]
        refine ⟨fun h => absurd h (by omega), fun _ => ⟨fun h => ih (i + 1) (by omega) ?_, fun h => ?_⟩⟩
        · rw [fndU_1, if_neg (by simpa using h)] at hq
          exact hq
        · rw [fndU_1, if_pos (by simpa using h)] at hq
          exact hq
    refine fq_enter [some (.ref s), some (.long v), none, none] (by decide +kernel) (Nat.le_of_ble_eq_true rfl) rfl (b_X6_personNamed_0 _ _ _ _ _ _ _ _ ?_)
    simp (disch := omega) only [B_X6_personNamed_0, B_X6_personNamed_2, hs.k, hs.r0, hs.k1, hs.r1, hs.k2, hs.r2, hs.k3, hs.r3, hs.k4, hs.r4, hs.k12, hs.n1, hs.n2, hs.n3, hs.y0, hs.k5, hs.n5, hs.y1, hs.k6, hs.n6, hs.y2, hs.k7, hs.n7, hs.y3, hs.k8, hs.n8, hs.y4, hs.k9, hs.n9, hs.y5, hs.k10, hs.n10, hs.y6, hs.k11, hs.n11, hs.p0, hs.p1, hs.p2, hs.k13, hs.n13, hs.q0, hs.q1, hs.k14, hs.k15, hs.k16, hs.n16, hs.k17, hs.n17, hs.rH, hs.kH, hs.rP, hs.kP, hs.rQ, hs.kQ, nI_1, nI_add, nI_clamp, nI_pin, nI_neg, nI_nonneg, nI_leE, nI_ltE, nI_eqE, Nat.not_le, Nat.not_lt, fq_10, fq_01, fq_rr, ix_aald, ix_aast, ix_abs, ix_alen, ix_aload, ix_aret, ix_astore, ix_bald, ix_bast, ix_call, ix_cpyI, ix_cpyJ, ix_dead, ix_dup2, ix_dup2L, ix_dupI, ix_dupR, ix_dupx1, ix_getI, ix_getJ, ix_getR, ix_gfm, ix_gtab, ix_i2b, ix_i2c, ix_i2l, ix_i2s, ix_iadd, ix_iald, ix_iand, ix_iast, ix_icall, ix_icmp_eq, ix_icmp_ge, ix_icmp_gt, ix_icmp_le, ix_icmp_lt, ix_icmp_ne, ix_idiv, ix_if_eq, ix_if_ge, ix_if_gt, ix_if_le, ix_if_lt, ix_if_ne, ix_iinc, ix_iload, ix_imul, ix_ineg, ix_ior, ix_irem, ix_iret, ix_ishl, ix_ishr, ix_istore, ix_isub, ix_iushr, ix_ixor, ix_l2i, ix_ladd, ix_lald, ix_land, ix_last, ix_lcmp, ix_ldcS, ix_ldiv, ix_lload, ix_lmul, ix_lor, ix_lrem, ix_lret, ix_lshl, ix_lstore, ix_lsub, ix_lsw, ix_max, ix_min, ix_new, ix_newa, ix_nret, ix_oinit, ix_pop2L, ix_popI, ix_pushI, ix_pushL, ix_putI, ix_putJ, ix_putR, ix_putZ, ix_sbald, ix_sgetC, ix_sgetV, ix_slen, ix_strc, ix_tald, ix_tsw, ix_vcall, ix_vret, ix_zret, stL, stL2, kilL, popN, fq_sw, fq_lsw, List.map_cons, List.map_nil, List.getElem?_cons_zero, List.getElem?_cons_succ, Option.toList_some, Option.toList_none, List.cons_append, List.nil_append, List.length_cons, List.length_nil, List.sum_cons, List.sum_nil, cat_i, cat_l, cat_r, true_and, and_true, Nat.zero_add, Nat.add_zero, Nat.le_refl, Nat.zero_le, Nat.reduceAdd, Nat.reduceLeDiff, exists_eq_left', Option.some.injEq, not_true_eq_false, not_false_eq_true, false_implies, true_implies, implies_true, and_self, or_true, true_or, or_false, false_or]
    exact lp c 0 (by omega) hQ
  · exact h.elim
/-- sets of numbers, laid bit by bit -/
def setU (p : Nat → Prop) [DecidablePred p] (n : Nat) : Int32 := foldU (fun i a => if p i then a ||| 1 <<< (nI i &&& 31) else a) 0 n 0
def sp_X6_livingIn (G : GT) : Sp := fun as S I J z Q => match as with
  | [.ref s, .int v] => stS S s ∧ okN (I s 6) 8 ∧ Q (some (.int (setU (fun i => I (s + 24 + i) 1 = v) (I s 6).toNatClampNeg))) S I J z
  | _ => False
set_option maxHeartbeats 4000000 in
set_option maxRecDepth 20000 in
theorem c_X6_livingIn {l : Launch} {G : GT} {D : Nat} : ∀ as S I J z Q, sp_X6_livingIn G as S I J z Q → fqCall l G M_X6_livingIn (D + 0) 0 0 as S I J z Q := by
  intro as S I J z Q h
  unfold sp_X6_livingIn at h
  split at h
  · next s v =>
    obtain ⟨hs, ho, hQ⟩ := h
    obtain ⟨c, hc, hc1, hc2⟩ := ho.ex
    rw [hc2] at hQ
    have lp : ∀ (n i : Nat) (acc : Int32), i + n = c → Q (some (.int (foldU (fun i a => if I (s + 24 + i) 1 = v then a ||| 1 <<< (nI i &&& 31) else a) i n acc))) S I J z → fqAt l G M_X6_livingIn (D + 0) 0 0 Q 4 [some (.ref s), some (.int v), some (.int acc), some (.int (nI i))] [] S I J z 0 0 := by
      intro n
      induction n with
      | zero =>
        intro i acc hi hq
        refine b_X6_livingIn_4 _ _ _ _ _ _ _ _ ?_
        simp (disch := omega) only [B_X6_livingIn_0, B_X6_livingIn_4, B_X6_livingIn_31, hs.k, hs.r0, hs.k1, hs.r1, hs.k2, hs.r2, hs.k3, hs.r3, hs.k4, hs.r4, hs.k12, hs.n1, hs.n2, hs.n3, hs.y0, hs.k5, hs.n5, hs.y1, hs.k6, hs.n6, hs.y2, hs.k7, hs.n7, hs.y3, hs.k8, hs.n8, hs.y4, hs.k9, hs.n9, hs.y5, hs.k10, hs.n10, hs.y6, hs.k11, hs.n11, hs.p0, hs.p1, hs.p2, hs.k13, hs.n13, hs.q0, hs.q1, hs.k14, hs.k15, hs.k16, hs.n16, hs.k17, hs.n17, hs.rH, hs.kH, hs.rP, hs.kP, hs.rQ, hs.kQ, hc1, nI_1, nI_add, nI_clamp, nI_pin, nI_neg, nI_nonneg, nI_leE, nI_ltE, nI_eqE, Nat.not_le, Nat.not_lt, fq_10, fq_01, fq_rr, ix_aald, ix_aast, ix_abs, ix_alen, ix_aload, ix_aret, ix_astore, ix_bald, ix_bast, ix_call, ix_cpyI, ix_cpyJ, ix_dead, ix_dup2, ix_dup2L, ix_dupI, ix_dupR, ix_dupx1, ix_getI, ix_getJ, ix_getR, ix_gfm, ix_gtab, ix_i2b, ix_i2c, ix_i2l, ix_i2s, ix_iadd, ix_iald, ix_iand, ix_iast, ix_icall, ix_icmp_eq, ix_icmp_ge, ix_icmp_gt, ix_icmp_le, ix_icmp_lt, ix_icmp_ne, ix_idiv, ix_if_eq, ix_if_ge, ix_if_gt, ix_if_le, ix_if_lt, ix_if_ne, ix_iinc, ix_iload, ix_imul, ix_ineg, ix_ior, ix_irem, ix_iret, ix_ishl, ix_ishr, ix_istore, ix_isub, ix_iushr, ix_ixor, ix_l2i, ix_ladd, ix_lald, ix_land, ix_last, ix_lcmp, ix_ldcS, ix_ldiv, ix_lload, ix_lmul, ix_lor, ix_lrem, ix_lret, ix_lshl, ix_lstore, ix_lsub, ix_lsw, ix_max, ix_min, ix_new, ix_newa, ix_nret, ix_oinit, ix_pop2L, ix_popI, ix_pushI, ix_pushL, ix_putI, ix_putJ, ix_putR, ix_putZ, ix_sbald, ix_sgetC, ix_sgetV, ix_slen, ix_strc, ix_tald, ix_tsw, ix_vcall, ix_vret, ix_zret, stL, stL2, kilL, popN, fq_sw, fq_lsw, List.map_cons, List.map_nil, List.getElem?_cons_zero, List.getElem?_cons_succ, Option.toList_some, Option.toList_none, List.cons_append, List.nil_append, List.length_cons, List.length_nil, List.sum_cons, List.sum_nil, cat_i, cat_l, cat_r, true_and, and_true, Nat.zero_add, Nat.add_zero, Nat.le_refl, Nat.zero_le, Nat.reduceAdd, Nat.reduceLeDiff, exists_eq_left', Option.some.injEq, not_true_eq_false, not_false_eq_true, false_implies, true_implies, implies_true, and_self, or_true, true_or, or_false, false_or]
        exact ⟨fun _ => hq, fun h => absurd h (by omega)⟩
      | succ n ih =>
        intro i acc hi hq
        refine b_X6_livingIn_4 _ _ _ _ _ _ _ _ ?_
        simp (disch := omega) only [B_X6_livingIn_0, B_X6_livingIn_4, B_X6_livingIn_31, hs.k, hs.r0, hs.k1, hs.r1, hs.k2, hs.r2, hs.k3, hs.r3, hs.k4, hs.r4, hs.k12, hs.n1, hs.n2, hs.n3, hs.y0, hs.k5, hs.n5, hs.y1, hs.k6, hs.n6, hs.y2, hs.k7, hs.n7, hs.y3, hs.k8, hs.n8, hs.y4, hs.k9, hs.n9, hs.y5, hs.k10, hs.n10, hs.y6, hs.k11, hs.n11, hs.p0, hs.p1, hs.p2, hs.k13, hs.n13, hs.q0, hs.q1, hs.k14, hs.k15, hs.k16, hs.n16, hs.k17, hs.n17, hs.rH, hs.kH, hs.rP, hs.kP, hs.rQ, hs.kQ, hc1, nI_1, nI_add, nI_clamp, nI_pin, nI_neg, nI_nonneg, nI_leE, nI_ltE, nI_eqE, Nat.not_le, Nat.not_lt, fq_10, fq_01, fq_rr, ix_aald, ix_aast, ix_abs, ix_alen, ix_aload, ix_aret, ix_astore, ix_bald, ix_bast, ix_call, ix_cpyI, ix_cpyJ, ix_dead, ix_dup2, ix_dup2L, ix_dupI, ix_dupR, ix_dupx1, ix_getI, ix_getJ, ix_getR, ix_gfm, ix_gtab, ix_i2b, ix_i2c, ix_i2l, ix_i2s, ix_iadd, ix_iald, ix_iand, ix_iast, ix_icall, ix_icmp_eq, ix_icmp_ge, ix_icmp_gt, ix_icmp_le, ix_icmp_lt, ix_icmp_ne, ix_idiv, ix_if_eq, ix_if_ge, ix_if_gt, ix_if_le, ix_if_lt, ix_if_ne, ix_iinc, ix_iload, ix_imul, ix_ineg, ix_ior, ix_irem, ix_iret, ix_ishl, ix_ishr, ix_istore, ix_isub, ix_iushr, ix_ixor, ix_l2i, ix_ladd, ix_lald, ix_land, ix_last, ix_lcmp, ix_ldcS, ix_ldiv, ix_lload, ix_lmul, ix_lor, ix_lrem, ix_lret, ix_lshl, ix_lstore, ix_lsub, ix_lsw, ix_max, ix_min, ix_new, ix_newa, ix_nret, ix_oinit, ix_pop2L, ix_popI, ix_pushI, ix_pushL, ix_putI, ix_putJ, ix_putR, ix_putZ, ix_sbald, ix_sgetC, ix_sgetV, ix_slen, ix_strc, ix_tald, ix_tsw, ix_vcall, ix_vret, ix_zret, stL, stL2, kilL, popN, fq_sw, fq_lsw, List.map_cons, List.map_nil, List.getElem?_cons_zero, List.getElem?_cons_succ, Option.toList_some, Option.toList_none, List.cons_append, List.nil_append, List.length_cons, List.length_nil, List.sum_cons, List.sum_nil, cat_i, cat_l, cat_r, true_and, and_true, Nat.zero_add, Nat.add_zero, Nat.le_refl, Nat.zero_le, Nat.reduceAdd, Nat.reduceLeDiff, exists_eq_left', Option.some.injEq, not_true_eq_false, not_false_eq_true, false_implies, true_implies, implies_true, and_self, or_true, true_or, or_false, false_or]
        rw [foldU_1] at hq
        refine ⟨fun h => absurd h (by omega), fun _ => ⟨fun h => ih (i + 1) _ (by omega) ?_, fun h => ih (i + 1) _ (by omega) ?_⟩⟩
        · rw [if_neg h] at hq
          exact hq
        · rw [if_pos h] at hq
          exact hq
    refine fq_enter [some (.ref s), some (.int v), none, none] (by decide +kernel) (Nat.le_of_ble_eq_true rfl) rfl (b_X6_livingIn_0 _ _ _ _ _ _ _ _ ?_)
    simp (disch := omega) only [B_X6_livingIn_0, B_X6_livingIn_4, B_X6_livingIn_31, hs.k, hs.r0, hs.k1, hs.r1, hs.k2, hs.r2, hs.k3, hs.r3, hs.k4, hs.r4, hs.k12, hs.n1, hs.n2, hs.n3, hs.y0, hs.k5, hs.n5, hs.y1, hs.k6, hs.n6, hs.y2, hs.k7, hs.n7, hs.y3, hs.k8, hs.n8, hs.y4, hs.k9, hs.n9, hs.y5, hs.k10, hs.n10, hs.y6, hs.k11, hs.n11, hs.p0, hs.p1, hs.p2, hs.k13, hs.n13, hs.q0, hs.q1, hs.k14, hs.k15, hs.k16, hs.n16, hs.k17, hs.n17, hs.rH, hs.kH, hs.rP, hs.kP, hs.rQ, hs.kQ, nI_1, nI_add, nI_clamp, nI_pin, nI_neg, nI_nonneg, nI_leE, nI_ltE, nI_eqE, Nat.not_le, Nat.not_lt, fq_10, fq_01, fq_rr, ix_aald, ix_aast, ix_abs, ix_alen, ix_aload, ix_aret, ix_astore, ix_bald, ix_bast, ix_call, ix_cpyI, ix_cpyJ, ix_dead, ix_dup2, ix_dup2L, ix_dupI, ix_dupR, ix_dupx1, ix_getI, ix_getJ, ix_getR, ix_gfm, ix_gtab, ix_i2b, ix_i2c, ix_i2l, ix_i2s, ix_iadd, ix_iald, ix_iand, ix_iast, ix_icall, ix_icmp_eq, ix_icmp_ge, ix_icmp_gt, ix_icmp_le, ix_icmp_lt, ix_icmp_ne, ix_idiv, ix_if_eq, ix_if_ge, ix_if_gt, ix_if_le, ix_if_lt, ix_if_ne, ix_iinc, ix_iload, ix_imul, ix_ineg, ix_ior, ix_irem, ix_iret, ix_ishl, ix_ishr, ix_istore, ix_isub, ix_iushr, ix_ixor, ix_l2i, ix_ladd, ix_lald, ix_land, ix_last, ix_lcmp, ix_ldcS, ix_ldiv, ix_lload, ix_lmul, ix_lor, ix_lrem, ix_lret, ix_lshl, ix_lstore, ix_lsub, ix_lsw, ix_max, ix_min, ix_new, ix_newa, ix_nret, ix_oinit, ix_pop2L, ix_popI, ix_pushI, ix_pushL, ix_putI, ix_putJ, ix_putR, ix_putZ, ix_sbald, ix_sgetC, ix_sgetV, ix_slen, ix_strc, ix_tald, ix_tsw, ix_vcall, ix_vret, ix_zret, stL, stL2, kilL, popN, fq_sw, fq_lsw, List.map_cons, List.map_nil, List.getElem?_cons_zero, List.getElem?_cons_succ, Option.toList_some, Option.toList_none, List.cons_append, List.nil_append, List.length_cons, List.length_nil, List.sum_cons, List.sum_nil, cat_i, cat_l, cat_r, true_and, and_true, Nat.zero_add, Nat.add_zero, Nat.le_refl, Nat.zero_le, Nat.reduceAdd, Nat.reduceLeDiff, exists_eq_left', Option.some.injEq, not_true_eq_false, not_false_eq_true, false_implies, true_implies, implies_true, and_self, or_true, true_or, or_false, false_or]
    exact lp c 0 0 (by omega) hQ
  · exact h.elim
def sp_X6_angrySet (G : GT) : Sp := fun as S I J z Q => match as with
  | [.ref s] => stS S s ∧ okN (I s 6) 8 ∧ Q (some (.int (setU (fun i => 0 < I (s + 24 + i) 6) (I s 6).toNatClampNeg))) S I J z
  | _ => False
set_option maxHeartbeats 4000000 in
set_option maxRecDepth 20000 in
theorem c_X6_angrySet {l : Launch} {G : GT} {D : Nat} : ∀ as S I J z Q, sp_X6_angrySet G as S I J z Q → fqCall l G M_X6_angrySet (D + 0) 0 0 as S I J z Q := by
  intro as S I J z Q h
  unfold sp_X6_angrySet at h
  split at h
  · next s =>
    obtain ⟨hs, ho, hQ⟩ := h
    obtain ⟨c, hc, hc1, hc2⟩ := ho.ex
    rw [hc2] at hQ
    have lp : ∀ (n i : Nat) (acc : Int32), i + n = c → Q (some (.int (foldU (fun i a => if 0 < I (s + 24 + i) 6 then a ||| 1 <<< (nI i &&& 31) else a) i n acc))) S I J z → fqAt l G M_X6_angrySet (D + 0) 0 0 Q 4 [some (.ref s), some (.int acc), some (.int (nI i))] [] S I J z 0 0 := by
      intro n
      induction n with
      | zero =>
        intro i acc hi hq
        refine b_X6_angrySet_4 _ _ _ _ _ _ _ _ ?_
        simp (disch := omega) only [B_X6_angrySet_0, B_X6_angrySet_4, B_X6_angrySet_30, hs.k, hs.r0, hs.k1, hs.r1, hs.k2, hs.r2, hs.k3, hs.r3, hs.k4, hs.r4, hs.k12, hs.n1, hs.n2, hs.n3, hs.y0, hs.k5, hs.n5, hs.y1, hs.k6, hs.n6, hs.y2, hs.k7, hs.n7, hs.y3, hs.k8, hs.n8, hs.y4, hs.k9, hs.n9, hs.y5, hs.k10, hs.n10, hs.y6, hs.k11, hs.n11, hs.p0, hs.p1, hs.p2, hs.k13, hs.n13, hs.q0, hs.q1, hs.k14, hs.k15, hs.k16, hs.n16, hs.k17, hs.n17, hs.rH, hs.kH, hs.rP, hs.kP, hs.rQ, hs.kQ, hc1, nI_1, nI_add, nI_clamp, nI_pin, nI_neg, nI_nonneg, nI_leE, nI_ltE, nI_eqE, Nat.not_le, Nat.not_lt, fq_10, fq_01, fq_rr, ix_aald, ix_aast, ix_abs, ix_alen, ix_aload, ix_aret, ix_astore, ix_bald, ix_bast, ix_call, ix_cpyI, ix_cpyJ, ix_dead, ix_dup2, ix_dup2L, ix_dupI, ix_dupR, ix_dupx1, ix_getI, ix_getJ, ix_getR, ix_gfm, ix_gtab, ix_i2b, ix_i2c, ix_i2l, ix_i2s, ix_iadd, ix_iald, ix_iand, ix_iast, ix_icall, ix_icmp_eq, ix_icmp_ge, ix_icmp_gt, ix_icmp_le, ix_icmp_lt, ix_icmp_ne, ix_idiv, ix_if_eq, ix_if_ge, ix_if_gt, ix_if_le, ix_if_lt, ix_if_ne, ix_iinc, ix_iload, ix_imul, ix_ineg, ix_ior, ix_irem, ix_iret, ix_ishl, ix_ishr, ix_istore, ix_isub, ix_iushr, ix_ixor, ix_l2i, ix_ladd, ix_lald, ix_land, ix_last, ix_lcmp, ix_ldcS, ix_ldiv, ix_lload, ix_lmul, ix_lor, ix_lrem, ix_lret, ix_lshl, ix_lstore, ix_lsub, ix_lsw, ix_max, ix_min, ix_new, ix_newa, ix_nret, ix_oinit, ix_pop2L, ix_popI, ix_pushI, ix_pushL, ix_putI, ix_putJ, ix_putR, ix_putZ, ix_sbald, ix_sgetC, ix_sgetV, ix_slen, ix_strc, ix_tald, ix_tsw, ix_vcall, ix_vret, ix_zret, stL, stL2, kilL, popN, fq_sw, fq_lsw, List.map_cons, List.map_nil, List.getElem?_cons_zero, List.getElem?_cons_succ, Option.toList_some, Option.toList_none, List.cons_append, List.nil_append, List.length_cons, List.length_nil, List.sum_cons, List.sum_nil, cat_i, cat_l, cat_r, true_and, and_true, Nat.zero_add, Nat.add_zero, Nat.le_refl, Nat.zero_le, Nat.reduceAdd, Nat.reduceLeDiff, exists_eq_left', Option.some.injEq, not_true_eq_false, not_false_eq_true, false_implies, true_implies, implies_true, and_self, or_true, true_or, or_false, false_or]
        exact ⟨fun _ => hq, fun h => absurd h (by omega)⟩
      | succ n ih =>
        intro i acc hi hq
        refine b_X6_angrySet_4 _ _ _ _ _ _ _ _ ?_
        simp (disch := omega) only [B_X6_angrySet_0, B_X6_angrySet_4, B_X6_angrySet_30, hs.k, hs.r0, hs.k1, hs.r1, hs.k2, hs.r2, hs.k3, hs.r3, hs.k4, hs.r4, hs.k12, hs.n1, hs.n2, hs.n3, hs.y0, hs.k5, hs.n5, hs.y1, hs.k6, hs.n6, hs.y2, hs.k7, hs.n7, hs.y3, hs.k8, hs.n8, hs.y4, hs.k9, hs.n9, hs.y5, hs.k10, hs.n10, hs.y6, hs.k11, hs.n11, hs.p0, hs.p1, hs.p2, hs.k13, hs.n13, hs.q0, hs.q1, hs.k14, hs.k15, hs.k16, hs.n16, hs.k17, hs.n17, hs.rH, hs.kH, hs.rP, hs.kP, hs.rQ, hs.kQ, hc1, nI_1, nI_add, nI_clamp, nI_pin, nI_neg, nI_nonneg, nI_leE, nI_ltE, nI_eqE, Nat.not_le, Nat.not_lt, fq_10, fq_01, fq_rr, ix_aald, ix_aast, ix_abs, ix_alen, ix_aload, ix_aret, ix_astore, ix_bald, ix_bast, ix_call, ix_cpyI, ix_cpyJ, ix_dead, ix_dup2, ix_dup2L, ix_dupI, ix_dupR, ix_dupx1, ix_getI, ix_getJ, ix_getR, ix_gfm, ix_gtab, ix_i2b, ix_i2c, ix_i2l, ix_i2s, ix_iadd, ix_iald, ix_iand, ix_iast, ix_icall, ix_icmp_eq, ix_icmp_ge, ix_icmp_gt, ix_icmp_le, ix_icmp_lt, ix_icmp_ne, ix_idiv, ix_if_eq, ix_if_ge, ix_if_gt, ix_if_le, ix_if_lt, ix_if_ne, ix_iinc, ix_iload, ix_imul, ix_ineg, ix_ior, ix_irem, ix_iret, ix_ishl, ix_ishr, ix_istore, ix_isub, ix_iushr, ix_ixor, ix_l2i, ix_ladd, ix_lald, ix_land, ix_last, ix_lcmp, ix_ldcS, ix_ldiv, ix_lload, ix_lmul, ix_lor, ix_lrem, ix_lret, ix_lshl, ix_lstore, ix_lsub, ix_lsw, ix_max, ix_min, ix_new, ix_newa, ix_nret, ix_oinit, ix_pop2L, ix_popI, ix_pushI, ix_pushL, ix_putI, ix_putJ, ix_putR, ix_putZ, ix_sbald, ix_sgetC, ix_sgetV, ix_slen, ix_strc, ix_tald, ix_tsw, ix_vcall, ix_vret, ix_zret, stL, stL2, kilL, popN, fq_sw, fq_lsw, List.map_cons, List.map_nil, List.getElem?_cons_zero, List.getElem?_cons_succ, Option.toList_some, Option.toList_none, List.cons_append, List.nil_append, List.length_cons, List.length_nil, List.sum_cons, List.sum_nil, cat_i, cat_l, cat_r, true_and, and_true, Nat.zero_add, Nat.add_zero, Nat.le_refl, Nat.zero_le, Nat.reduceAdd, Nat.reduceLeDiff, exists_eq_left', Option.some.injEq, not_true_eq_false, not_false_eq_true, false_implies, true_implies, implies_true, and_self, or_true, true_or, or_false, false_or]
        rw [foldU_1] at hq
        refine ⟨fun h => absurd h (by omega), fun _ => ⟨fun h => ih (i + 1) _ (by omega) ?_, fun h => ih (i + 1) _ (by omega) ?_⟩⟩
        · rw [if_neg (Int32.not_lt.mpr h)] at hq
          exact hq
        · rw [if_pos (Int32.not_le.mp h)] at hq
          exact hq
    refine fq_enter [some (.ref s), none, none] (by decide +kernel) (Nat.le_of_ble_eq_true rfl) rfl (b_X6_angrySet_0 _ _ _ _ _ _ _ _ ?_)
    simp (disch := omega) only [B_X6_angrySet_0, B_X6_angrySet_4, B_X6_angrySet_30, hs.k, hs.r0, hs.k1, hs.r1, hs.k2, hs.r2, hs.k3, hs.r3, hs.k4, hs.r4, hs.k12, hs.n1, hs.n2, hs.n3, hs.y0, hs.k5, hs.n5, hs.y1, hs.k6, hs.n6, hs.y2, hs.k7, hs.n7, hs.y3, hs.k8, hs.n8, hs.y4, hs.k9, hs.n9, hs.y5, hs.k10, hs.n10, hs.y6, hs.k11, hs.n11, hs.p0, hs.p1, hs.p2, hs.k13, hs.n13, hs.q0, hs.q1, hs.k14, hs.k15, hs.k16, hs.n16, hs.k17, hs.n17, hs.rH, hs.kH, hs.rP, hs.kP, hs.rQ, hs.kQ, nI_1, nI_add, nI_clamp, nI_pin, nI_neg, nI_nonneg, nI_leE, nI_ltE, nI_eqE, Nat.not_le, Nat.not_lt, fq_10, fq_01, fq_rr, ix_aald, ix_aast, ix_abs, ix_alen, ix_aload, ix_aret, ix_astore, ix_bald, ix_bast, ix_call, ix_cpyI, ix_cpyJ, ix_dead, ix_dup2, ix_dup2L, ix_dupI, ix_dupR, ix_dupx1, ix_getI, ix_getJ, ix_getR, ix_gfm, ix_gtab, ix_i2b, ix_i2c, ix_i2l, ix_i2s, ix_iadd, ix_iald, ix_iand, ix_iast, ix_icall, ix_icmp_eq, ix_icmp_ge, ix_icmp_gt, ix_icmp_le, ix_icmp_lt, ix_icmp_ne, ix_idiv, ix_if_eq, ix_if_ge, ix_if_gt, ix_if_le, ix_if_lt, ix_if_ne, ix_iinc, ix_iload, ix_imul, ix_ineg, ix_ior, ix_irem, ix_iret, ix_ishl, ix_ishr, ix_istore, ix_isub, ix_iushr, ix_ixor, ix_l2i, ix_ladd, ix_lald, ix_land, ix_last, ix_lcmp, ix_ldcS, ix_ldiv, ix_lload, ix_lmul, ix_lor, ix_lrem, ix_lret, ix_lshl, ix_lstore, ix_lsub, ix_lsw, ix_max, ix_min, ix_new, ix_newa, ix_nret, ix_oinit, ix_pop2L, ix_popI, ix_pushI, ix_pushL, ix_putI, ix_putJ, ix_putR, ix_putZ, ix_sbald, ix_sgetC, ix_sgetV, ix_slen, ix_strc, ix_tald, ix_tsw, ix_vcall, ix_vret, ix_zret, stL, stL2, kilL, popN, fq_sw, fq_lsw, List.map_cons, List.map_nil, List.getElem?_cons_zero, List.getElem?_cons_succ, Option.toList_some, Option.toList_none, List.cons_append, List.nil_append, List.length_cons, List.length_nil, List.sum_cons, List.sum_nil, cat_i, cat_l, cat_r, true_and, and_true, Nat.zero_add, Nat.add_zero, Nat.le_refl, Nat.zero_le, Nat.reduceAdd, Nat.reduceLeDiff, exists_eq_left', Option.some.injEq, not_true_eq_false, not_false_eq_true, false_implies, true_implies, implies_true, and_self, or_true, true_or, or_false, false_or]
    exact lp c 0 0 (by omega) hQ
  · exact h.elim
def sp_X6_landlessSet (G : GT) : Sp := fun as S I J z Q => match as with
  | [.ref s] => stS S s ∧ okN (I s 5) 6 ∧ Q (some (.int (setU (fun i => I (s + 18 + i) 2 = 0) (I s 5).toNatClampNeg))) S I J z
  | _ => False
set_option maxHeartbeats 4000000 in
set_option maxRecDepth 20000 in
theorem c_X6_landlessSet {l : Launch} {G : GT} {D : Nat} : ∀ as S I J z Q, sp_X6_landlessSet G as S I J z Q → fqCall l G M_X6_landlessSet (D + 0) 0 0 as S I J z Q := by
  intro as S I J z Q h
  unfold sp_X6_landlessSet at h
  split at h
  · next s =>
    obtain ⟨hs, ho, hQ⟩ := h
    obtain ⟨c, hc, hc1, hc2⟩ := ho.ex
    rw [hc2] at hQ
    have lp : ∀ (n i : Nat) (acc : Int32), i + n = c → Q (some (.int (foldU (fun i a => if I (s + 18 + i) 2 = 0 then a ||| 1 <<< (nI i &&& 31) else a) i n acc))) S I J z → fqAt l G M_X6_landlessSet (D + 0) 0 0 Q 4 [some (.ref s), some (.int acc), some (.int (nI i))] [] S I J z 0 0 := by
      intro n
      induction n with
      | zero =>
        intro i acc hi hq
        refine b_X6_landlessSet_4 _ _ _ _ _ _ _ _ ?_
        simp (disch := omega) only [B_X6_landlessSet_0, B_X6_landlessSet_4, B_X6_landlessSet_30, hs.k, hs.r0, hs.k1, hs.r1, hs.k2, hs.r2, hs.k3, hs.r3, hs.k4, hs.r4, hs.k12, hs.n1, hs.n2, hs.n3, hs.y0, hs.k5, hs.n5, hs.y1, hs.k6, hs.n6, hs.y2, hs.k7, hs.n7, hs.y3, hs.k8, hs.n8, hs.y4, hs.k9, hs.n9, hs.y5, hs.k10, hs.n10, hs.y6, hs.k11, hs.n11, hs.p0, hs.p1, hs.p2, hs.k13, hs.n13, hs.q0, hs.q1, hs.k14, hs.k15, hs.k16, hs.n16, hs.k17, hs.n17, hs.rH, hs.kH, hs.rP, hs.kP, hs.rQ, hs.kQ, hc1, nI_1, nI_add, nI_clamp, nI_pin, nI_neg, nI_nonneg, nI_leE, nI_ltE, nI_eqE, Nat.not_le, Nat.not_lt, fq_10, fq_01, fq_rr, ix_aald, ix_aast, ix_abs, ix_alen, ix_aload, ix_aret, ix_astore, ix_bald, ix_bast, ix_call, ix_cpyI, ix_cpyJ, ix_dead, ix_dup2, ix_dup2L, ix_dupI, ix_dupR, ix_dupx1, ix_getI, ix_getJ, ix_getR, ix_gfm, ix_gtab, ix_i2b, ix_i2c, ix_i2l, ix_i2s, ix_iadd, ix_iald, ix_iand, ix_iast, ix_icall, ix_icmp_eq, ix_icmp_ge, ix_icmp_gt, ix_icmp_le, ix_icmp_lt, ix_icmp_ne, ix_idiv, ix_if_eq, ix_if_ge, ix_if_gt, ix_if_le, ix_if_lt, ix_if_ne, ix_iinc, ix_iload, ix_imul, ix_ineg, ix_ior, ix_irem, ix_iret, ix_ishl, ix_ishr, ix_istore, ix_isub, ix_iushr, ix_ixor, ix_l2i, ix_ladd, ix_lald, ix_land, ix_last, ix_lcmp, ix_ldcS, ix_ldiv, ix_lload, ix_lmul, ix_lor, ix_lrem, ix_lret, ix_lshl, ix_lstore, ix_lsub, ix_lsw, ix_max, ix_min, ix_new, ix_newa, ix_nret, ix_oinit, ix_pop2L, ix_popI, ix_pushI, ix_pushL, ix_putI, ix_putJ, ix_putR, ix_putZ, ix_sbald, ix_sgetC, ix_sgetV, ix_slen, ix_strc, ix_tald, ix_tsw, ix_vcall, ix_vret, ix_zret, stL, stL2, kilL, popN, fq_sw, fq_lsw, List.map_cons, List.map_nil, List.getElem?_cons_zero, List.getElem?_cons_succ, Option.toList_some, Option.toList_none, List.cons_append, List.nil_append, List.length_cons, List.length_nil, List.sum_cons, List.sum_nil, cat_i, cat_l, cat_r, true_and, and_true, Nat.zero_add, Nat.add_zero, Nat.le_refl, Nat.zero_le, Nat.reduceAdd, Nat.reduceLeDiff, exists_eq_left', Option.some.injEq, not_true_eq_false, not_false_eq_true, false_implies, true_implies, implies_true, and_self, or_true, true_or, or_false, false_or]
        exact ⟨fun _ => hq, fun h => absurd h (by omega)⟩
      | succ n ih =>
        intro i acc hi hq
        refine b_X6_landlessSet_4 _ _ _ _ _ _ _ _ ?_
        simp (disch := omega) only [B_X6_landlessSet_0, B_X6_landlessSet_4, B_X6_landlessSet_30, hs.k, hs.r0, hs.k1, hs.r1, hs.k2, hs.r2, hs.k3, hs.r3, hs.k4, hs.r4, hs.k12, hs.n1, hs.n2, hs.n3, hs.y0, hs.k5, hs.n5, hs.y1, hs.k6, hs.n6, hs.y2, hs.k7, hs.n7, hs.y3, hs.k8, hs.n8, hs.y4, hs.k9, hs.n9, hs.y5, hs.k10, hs.n10, hs.y6, hs.k11, hs.n11, hs.p0, hs.p1, hs.p2, hs.k13, hs.n13, hs.q0, hs.q1, hs.k14, hs.k15, hs.k16, hs.n16, hs.k17, hs.n17, hs.rH, hs.kH, hs.rP, hs.kP, hs.rQ, hs.kQ, hc1, nI_1, nI_add, nI_clamp, nI_pin, nI_neg, nI_nonneg, nI_leE, nI_ltE, nI_eqE, Nat.not_le, Nat.not_lt, fq_10, fq_01, fq_rr, ix_aald, ix_aast, ix_abs, ix_alen, ix_aload, ix_aret, ix_astore, ix_bald, ix_bast, ix_call, ix_cpyI, ix_cpyJ, ix_dead, ix_dup2, ix_dup2L, ix_dupI, ix_dupR, ix_dupx1, ix_getI, ix_getJ, ix_getR, ix_gfm, ix_gtab, ix_i2b, ix_i2c, ix_i2l, ix_i2s, ix_iadd, ix_iald, ix_iand, ix_iast, ix_icall, ix_icmp_eq, ix_icmp_ge, ix_icmp_gt, ix_icmp_le, ix_icmp_lt, ix_icmp_ne, ix_idiv, ix_if_eq, ix_if_ge, ix_if_gt, ix_if_le, ix_if_lt, ix_if_ne, ix_iinc, ix_iload, ix_imul, ix_ineg, ix_ior, ix_irem, ix_iret, ix_ishl, ix_ishr, ix_istore, ix_isub, ix_iushr, ix_ixor, ix_l2i, ix_ladd, ix_lald, ix_land, ix_last, ix_lcmp, ix_ldcS, ix_ldiv, ix_lload, ix_lmul, ix_lor, ix_lrem, ix_lret, ix_lshl, ix_lstore, ix_lsub, ix_lsw, ix_max, ix_min, ix_new, ix_newa, ix_nret, ix_oinit, ix_pop2L, ix_popI, ix_pushI, ix_pushL, ix_putI, ix_putJ, ix_putR, ix_putZ, ix_sbald, ix_sgetC, ix_sgetV, ix_slen, ix_strc, ix_tald, ix_tsw, ix_vcall, ix_vret, ix_zret, stL, stL2, kilL, popN, fq_sw, fq_lsw, List.map_cons, List.map_nil, List.getElem?_cons_zero, List.getElem?_cons_succ, Option.toList_some, Option.toList_none, List.cons_append, List.nil_append, List.length_cons, List.length_nil, List.sum_cons, List.sum_nil, cat_i, cat_l, cat_r, true_and, and_true, Nat.zero_add, Nat.add_zero, Nat.le_refl, Nat.zero_le, Nat.reduceAdd, Nat.reduceLeDiff, exists_eq_left', Option.some.injEq, not_true_eq_false, not_false_eq_true, false_implies, true_implies, implies_true, and_self, or_true, true_or, or_false, false_or]
        rw [foldU_1] at hq
        refine ⟨fun h => absurd h (by omega), fun _ => ⟨fun h => ih (i + 1) _ (by omega) ?_, fun h => ih (i + 1) _ (by omega) ?_⟩⟩
        · rw [if_neg h] at hq
          exact hq
        · rw [if_pos h] at hq
          exact hq
    refine fq_enter [some (.ref s), none, none] (by decide +kernel) (Nat.le_of_ble_eq_true rfl) rfl (b_X6_landlessSet_0 _ _ _ _ _ _ _ _ ?_)
    simp (disch := omega) only [B_X6_landlessSet_0, B_X6_landlessSet_4, B_X6_landlessSet_30, hs.k, hs.r0, hs.k1, hs.r1, hs.k2, hs.r2, hs.k3, hs.r3, hs.k4, hs.r4, hs.k12, hs.n1, hs.n2, hs.n3, hs.y0, hs.k5, hs.n5, hs.y1, hs.k6, hs.n6, hs.y2, hs.k7, hs.n7, hs.y3, hs.k8, hs.n8, hs.y4, hs.k9, hs.n9, hs.y5, hs.k10, hs.n10, hs.y6, hs.k11, hs.n11, hs.p0, hs.p1, hs.p2, hs.k13, hs.n13, hs.q0, hs.q1, hs.k14, hs.k15, hs.k16, hs.n16, hs.k17, hs.n17, hs.rH, hs.kH, hs.rP, hs.kP, hs.rQ, hs.kQ, nI_1, nI_add, nI_clamp, nI_pin, nI_neg, nI_nonneg, nI_leE, nI_ltE, nI_eqE, Nat.not_le, Nat.not_lt, fq_10, fq_01, fq_rr, ix_aald, ix_aast, ix_abs, ix_alen, ix_aload, ix_aret, ix_astore, ix_bald, ix_bast, ix_call, ix_cpyI, ix_cpyJ, ix_dead, ix_dup2, ix_dup2L, ix_dupI, ix_dupR, ix_dupx1, ix_getI, ix_getJ, ix_getR, ix_gfm, ix_gtab, ix_i2b, ix_i2c, ix_i2l, ix_i2s, ix_iadd, ix_iald, ix_iand, ix_iast, ix_icall, ix_icmp_eq, ix_icmp_ge, ix_icmp_gt, ix_icmp_le, ix_icmp_lt, ix_icmp_ne, ix_idiv, ix_if_eq, ix_if_ge, ix_if_gt, ix_if_le, ix_if_lt, ix_if_ne, ix_iinc, ix_iload, ix_imul, ix_ineg, ix_ior, ix_irem, ix_iret, ix_ishl, ix_ishr, ix_istore, ix_isub, ix_iushr, ix_ixor, ix_l2i, ix_ladd, ix_lald, ix_land, ix_last, ix_lcmp, ix_ldcS, ix_ldiv, ix_lload, ix_lmul, ix_lor, ix_lrem, ix_lret, ix_lshl, ix_lstore, ix_lsub, ix_lsw, ix_max, ix_min, ix_new, ix_newa, ix_nret, ix_oinit, ix_pop2L, ix_popI, ix_pushI, ix_pushL, ix_putI, ix_putJ, ix_putR, ix_putZ, ix_sbald, ix_sgetC, ix_sgetV, ix_slen, ix_strc, ix_tald, ix_tsw, ix_vcall, ix_vret, ix_zret, stL, stL2, kilL, popN, fq_sw, fq_lsw, List.map_cons, List.map_nil, List.getElem?_cons_zero, List.getElem?_cons_succ, Option.toList_some, Option.toList_none, List.cons_append, List.nil_append, List.length_cons, List.length_nil, List.sum_cons, List.sum_nil, cat_i, cat_l, cat_r, true_and, and_true, Nat.zero_add, Nat.add_zero, Nat.le_refl, Nat.zero_le, Nat.reduceAdd, Nat.reduceLeDiff, exists_eq_left', Option.some.injEq, not_true_eq_false, not_false_eq_true, false_implies, true_implies, implies_true, and_self, or_true, true_or, or_false, false_or]
    exact lp c 0 0 (by omega) hQ
  · exact h.elim
def sp_X6_payOf (G : GT) : Sp := fun as S I J z Q => match as with
  | [.ref s, .int v] => stS S s ∧ okN (I s 6) 8 ∧ Q (some (.int (foldU (fun i a => if v >>> (nI i &&& 31) &&& 1 = 1 then a + I (s + 24 + i) 5 else a) 0 (I s 6).toNatClampNeg 0))) S I J z
  | _ => False
set_option maxHeartbeats 4000000 in
set_option maxRecDepth 20000 in
theorem c_X6_payOf {l : Launch} {G : GT} {D : Nat} : ∀ as S I J z Q, sp_X6_payOf G as S I J z Q → fqCall l G M_X6_payOf (D + 0) 0 0 as S I J z Q := by
  intro as S I J z Q h
  unfold sp_X6_payOf at h
  split at h
  · next s v =>
    obtain ⟨hs, ho, hQ⟩ := h
    obtain ⟨c, hc, hc1, hc2⟩ := ho.ex
    rw [hc2] at hQ
    have lp : ∀ (n i : Nat) (acc : Int32), i + n = c → Q (some (.int (foldU (fun i a => if v >>> (nI i &&& 31) &&& 1 = 1 then a + I (s + 24 + i) 5 else a) i n acc))) S I J z → fqAt l G M_X6_payOf (D + 0) 0 0 Q 4 [some (.ref s), some (.int v), some (.int acc), some (.int (nI i))] [] S I J z 0 0 := by
      intro n
      induction n with
      | zero =>
        intro i acc hi hq
        refine b_X6_payOf_4 _ _ _ _ _ _ _ _ ?_
        simp (disch := omega) only [B_X6_payOf_0, B_X6_payOf_4, B_X6_payOf_33, hs.k, hs.r0, hs.k1, hs.r1, hs.k2, hs.r2, hs.k3, hs.r3, hs.k4, hs.r4, hs.k12, hs.n1, hs.n2, hs.n3, hs.y0, hs.k5, hs.n5, hs.y1, hs.k6, hs.n6, hs.y2, hs.k7, hs.n7, hs.y3, hs.k8, hs.n8, hs.y4, hs.k9, hs.n9, hs.y5, hs.k10, hs.n10, hs.y6, hs.k11, hs.n11, hs.p0, hs.p1, hs.p2, hs.k13, hs.n13, hs.q0, hs.q1, hs.k14, hs.k15, hs.k16, hs.n16, hs.k17, hs.n17, hs.rH, hs.kH, hs.rP, hs.kP, hs.rQ, hs.kQ, hc1, nI_1, nI_add, nI_clamp, nI_pin, nI_neg, nI_nonneg, nI_leE, nI_ltE, nI_eqE, Nat.not_le, Nat.not_lt, fq_10, fq_01, fq_rr, ix_aald, ix_aast, ix_abs, ix_alen, ix_aload, ix_aret, ix_astore, ix_bald, ix_bast, ix_call, ix_cpyI, ix_cpyJ, ix_dead, ix_dup2, ix_dup2L, ix_dupI, ix_dupR, ix_dupx1, ix_getI, ix_getJ, ix_getR, ix_gfm, ix_gtab, ix_i2b, ix_i2c, ix_i2l, ix_i2s, ix_iadd, ix_iald, ix_iand, ix_iast, ix_icall, ix_icmp_eq, ix_icmp_ge, ix_icmp_gt, ix_icmp_le, ix_icmp_lt, ix_icmp_ne, ix_idiv, ix_if_eq, ix_if_ge, ix_if_gt, ix_if_le, ix_if_lt, ix_if_ne, ix_iinc, ix_iload, ix_imul, ix_ineg, ix_ior, ix_irem, ix_iret, ix_ishl, ix_ishr, ix_istore, ix_isub, ix_iushr, ix_ixor, ix_l2i, ix_ladd, ix_lald, ix_land, ix_last, ix_lcmp, ix_ldcS, ix_ldiv, ix_lload, ix_lmul, ix_lor, ix_lrem, ix_lret, ix_lshl, ix_lstore, ix_lsub, ix_lsw, ix_max, ix_min, ix_new, ix_newa, ix_nret, ix_oinit, ix_pop2L, ix_popI, ix_pushI, ix_pushL, ix_putI, ix_putJ, ix_putR, ix_putZ, ix_sbald, ix_sgetC, ix_sgetV, ix_slen, ix_strc, ix_tald, ix_tsw, ix_vcall, ix_vret, ix_zret, stL, stL2, kilL, popN, fq_sw, fq_lsw, List.map_cons, List.map_nil, List.getElem?_cons_zero, List.getElem?_cons_succ, Option.toList_some, Option.toList_none, List.cons_append, List.nil_append, List.length_cons, List.length_nil, List.sum_cons, List.sum_nil, cat_i, cat_l, cat_r, true_and, and_true, Nat.zero_add, Nat.add_zero, Nat.le_refl, Nat.zero_le, Nat.reduceAdd, Nat.reduceLeDiff, exists_eq_left', Option.some.injEq, not_true_eq_false, not_false_eq_true, false_implies, true_implies, implies_true, and_self, or_true, true_or, or_false, false_or]
        exact ⟨fun _ => hq, fun h => absurd h (by omega)⟩
      | succ n ih =>
        intro i acc hi hq
        refine b_X6_payOf_4 _ _ _ _ _ _ _ _ ?_
        simp (disch := omega) only [B_X6_payOf_0, B_X6_payOf_4, B_X6_payOf_33, hs.k, hs.r0, hs.k1, hs.r1, hs.k2, hs.r2, hs.k3, hs.r3, hs.k4, hs.r4, hs.k12, hs.n1, hs.n2, hs.n3, hs.y0, hs.k5, hs.n5, hs.y1, hs.k6, hs.n6, hs.y2, hs.k7, hs.n7, hs.y3, hs.k8, hs.n8, hs.y4, hs.k9, hs.n9, hs.y5, hs.k10, hs.n10, hs.y6, hs.k11, hs.n11, hs.p0, hs.p1, hs.p2, hs.k13, hs.n13, hs.q0, hs.q1, hs.k14, hs.k15, hs.k16, hs.n16, hs.k17, hs.n17, hs.rH, hs.kH, hs.rP, hs.kP, hs.rQ, hs.kQ, hc1, nI_1, nI_add, nI_clamp, nI_pin, nI_neg, nI_nonneg, nI_leE, nI_ltE, nI_eqE, Nat.not_le, Nat.not_lt, fq_10, fq_01, fq_rr, ix_aald, ix_aast, ix_abs, ix_alen, ix_aload, ix_aret, ix_astore, ix_bald, ix_bast, ix_call, ix_cpyI, ix_cpyJ, ix_dead, ix_dup2, ix_dup2L, ix_dupI, ix_dupR, ix_dupx1, ix_getI, ix_getJ, ix_getR, ix_gfm, ix_gtab, ix_i2b, ix_i2c, ix_i2l, ix_i2s, ix_iadd, ix_iald, ix_iand, ix_iast, ix_icall, ix_icmp_eq, ix_icmp_ge, ix_icmp_gt, ix_icmp_le, ix_icmp_lt, ix_icmp_ne, ix_idiv, ix_if_eq, ix_if_ge, ix_if_gt, ix_if_le, ix_if_lt, ix_if_ne, ix_iinc, ix_iload, ix_imul, ix_ineg, ix_ior, ix_irem, ix_iret, ix_ishl, ix_ishr, ix_istore, ix_isub, ix_iushr, ix_ixor, ix_l2i, ix_ladd, ix_lald, ix_land, ix_last, ix_lcmp, ix_ldcS, ix_ldiv, ix_lload, ix_lmul, ix_lor, ix_lrem, ix_lret, ix_lshl, ix_lstore, ix_lsub, ix_lsw, ix_max, ix_min, ix_new, ix_newa, ix_nret, ix_oinit, ix_pop2L, ix_popI, ix_pushI, ix_pushL, ix_putI, ix_putJ, ix_putR, ix_putZ, ix_sbald, ix_sgetC, ix_sgetV, ix_slen, ix_strc, ix_tald, ix_tsw, ix_vcall, ix_vret, ix_zret, stL, stL2, kilL, popN, fq_sw, fq_lsw, List.map_cons, List.map_nil, List.getElem?_cons_zero, List.getElem?_cons_succ, Option.toList_some, Option.toList_none, List.cons_append, List.nil_append, List.length_cons, List.length_nil, List.sum_cons, List.sum_nil, cat_i, cat_l, cat_r, true_and, and_true, Nat.zero_add, Nat.add_zero, Nat.le_refl, Nat.zero_le, Nat.reduceAdd, Nat.reduceLeDiff, exists_eq_left', Option.some.injEq, not_true_eq_false, not_false_eq_true, false_implies, true_implies, implies_true, and_self, or_true, true_or, or_false, false_or]
        rw [foldU_1] at hq
        refine ⟨fun h => absurd h (by omega), fun _ => ⟨fun h => ih (i + 1) _ (by omega) ?_, fun h => ih (i + 1) _ (by omega) ?_⟩⟩
        · rw [if_neg h] at hq
          exact hq
        · rw [if_pos h] at hq
          exact hq
    refine fq_enter [some (.ref s), some (.int v), none, none] (by decide +kernel) (Nat.le_of_ble_eq_true rfl) rfl (b_X6_payOf_0 _ _ _ _ _ _ _ _ ?_)
    simp (disch := omega) only [B_X6_payOf_0, B_X6_payOf_4, B_X6_payOf_33, hs.k, hs.r0, hs.k1, hs.r1, hs.k2, hs.r2, hs.k3, hs.r3, hs.k4, hs.r4, hs.k12, hs.n1, hs.n2, hs.n3, hs.y0, hs.k5, hs.n5, hs.y1, hs.k6, hs.n6, hs.y2, hs.k7, hs.n7, hs.y3, hs.k8, hs.n8, hs.y4, hs.k9, hs.n9, hs.y5, hs.k10, hs.n10, hs.y6, hs.k11, hs.n11, hs.p0, hs.p1, hs.p2, hs.k13, hs.n13, hs.q0, hs.q1, hs.k14, hs.k15, hs.k16, hs.n16, hs.k17, hs.n17, hs.rH, hs.kH, hs.rP, hs.kP, hs.rQ, hs.kQ, nI_1, nI_add, nI_clamp, nI_pin, nI_neg, nI_nonneg, nI_leE, nI_ltE, nI_eqE, Nat.not_le, Nat.not_lt, fq_10, fq_01, fq_rr, ix_aald, ix_aast, ix_abs, ix_alen, ix_aload, ix_aret, ix_astore, ix_bald, ix_bast, ix_call, ix_cpyI, ix_cpyJ, ix_dead, ix_dup2, ix_dup2L, ix_dupI, ix_dupR, ix_dupx1, ix_getI, ix_getJ, ix_getR, ix_gfm, ix_gtab, ix_i2b, ix_i2c, ix_i2l, ix_i2s, ix_iadd, ix_iald, ix_iand, ix_iast, ix_icall, ix_icmp_eq, ix_icmp_ge, ix_icmp_gt, ix_icmp_le, ix_icmp_lt, ix_icmp_ne, ix_idiv, ix_if_eq, ix_if_ge, ix_if_gt, ix_if_le, ix_if_lt, ix_if_ne, ix_iinc, ix_iload, ix_imul, ix_ineg, ix_ior, ix_irem, ix_iret, ix_ishl, ix_ishr, ix_istore, ix_isub, ix_iushr, ix_ixor, ix_l2i, ix_ladd, ix_lald, ix_land, ix_last, ix_lcmp, ix_ldcS, ix_ldiv, ix_lload, ix_lmul, ix_lor, ix_lrem, ix_lret, ix_lshl, ix_lstore, ix_lsub, ix_lsw, ix_max, ix_min, ix_new, ix_newa, ix_nret, ix_oinit, ix_pop2L, ix_popI, ix_pushI, ix_pushL, ix_putI, ix_putJ, ix_putR, ix_putZ, ix_sbald, ix_sgetC, ix_sgetV, ix_slen, ix_strc, ix_tald, ix_tsw, ix_vcall, ix_vret, ix_zret, stL, stL2, kilL, popN, fq_sw, fq_lsw, List.map_cons, List.map_nil, List.getElem?_cons_zero, List.getElem?_cons_succ, Option.toList_some, Option.toList_none, List.cons_append, List.nil_append, List.length_cons, List.length_nil, List.sum_cons, List.sum_nil, cat_i, cat_l, cat_r, true_and, and_true, Nat.zero_add, Nat.add_zero, Nat.le_refl, Nat.zero_le, Nat.reduceAdd, Nat.reduceLeDiff, exists_eq_left', Option.some.injEq, not_true_eq_false, not_false_eq_true, false_implies, true_implies, implies_true, and_self, or_true, true_or, or_false, false_or]
    exact lp c 0 0 (by omega) hQ
  · exact h.elim
