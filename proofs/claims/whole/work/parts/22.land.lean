/-! land -/
/-- an object at X whose street is at s -/
def xsh (S : Sh) (X s : Nat) : Prop := S.1 X = 11 ∧ S.2.2 X 6 = some s ∧ stS S s
/-- the first of the greatest above m -/
def mxU (f : Nat → Int32) (n : Nat) (x : Int32 × Int32) : Int32 × Int32 := foldU (fun i x => if x.2 < f i then (nI i, f i) else x) 0 n x
theorem dX11_widest_0 : decode cX11_widest 0 = .ok (.iconst (-1), 1) := by decide +kernel
theorem dX11_widest_1 : decode cX11_widest 1 = .ok (.istore_n 1, 1) := by decide +kernel
theorem dX11_widest_2 : decode cX11_widest 2 = .ok (.iconst (-1), 1) := by decide +kernel
theorem dX11_widest_3 : decode cX11_widest 3 = .ok (.istore_n 2, 1) := by decide +kernel
theorem dX11_widest_4 : decode cX11_widest 4 = .ok (.iconst 0, 1) := by decide +kernel
theorem dX11_widest_5 : decode cX11_widest 5 = .ok (.istore_n 3, 1) := by decide +kernel
theorem dX11_widest_6 : decode cX11_widest 6 = .ok (.iload_n 3, 1) := by decide +kernel
theorem dX11_widest_7 : decode cX11_widest 7 = .ok (.aload_n 0, 1) := by decide +kernel
theorem dX11_widest_8 : decode cX11_widest 8 = .ok (.getfield 46, 3) := by decide +kernel
theorem dX11_widest_11 : decode cX11_widest 11 = .ok (.getfield 164, 3) := by decide +kernel
theorem dX11_widest_14 : decode cX11_widest 14 = .ok (.if_icmp .ge 40, 3) := by decide +kernel
theorem dX11_widest_17 : decode cX11_widest 17 = .ok (.aload_n 0, 1) := by decide +kernel
theorem dX11_widest_18 : decode cX11_widest 18 = .ok (.getfield 46, 3) := by decide +kernel
theorem dX11_widest_21 : decode cX11_widest 21 = .ok (.getfield 209, 3) := by decide +kernel
theorem dX11_widest_24 : decode cX11_widest 24 = .ok (.iload_n 3, 1) := by decide +kernel
theorem dX11_widest_25 : decode cX11_widest 25 = .ok (.aaload, 1) := by decide +kernel
theorem dX11_widest_26 : decode cX11_widest 26 = .ok (.getfield 213, 3) := by decide +kernel
theorem dX11_widest_29 : decode cX11_widest 29 = .ok (.iload_n 2, 1) := by decide +kernel
theorem dX11_widest_30 : decode cX11_widest 30 = .ok (.if_icmp .le 18, 3) := by decide +kernel
theorem dX11_widest_33 : decode cX11_widest 33 = .ok (.aload_n 0, 1) := by decide +kernel
theorem dX11_widest_34 : decode cX11_widest 34 = .ok (.getfield 46, 3) := by decide +kernel
theorem dX11_widest_37 : decode cX11_widest 37 = .ok (.getfield 209, 3) := by decide +kernel
theorem dX11_widest_40 : decode cX11_widest 40 = .ok (.iload_n 3, 1) := by decide +kernel
theorem dX11_widest_41 : decode cX11_widest 41 = .ok (.aaload, 1) := by decide +kernel
theorem dX11_widest_42 : decode cX11_widest 42 = .ok (.getfield 213, 3) := by decide +kernel
theorem dX11_widest_45 : decode cX11_widest 45 = .ok (.istore_n 2, 1) := by decide +kernel
theorem dX11_widest_46 : decode cX11_widest 46 = .ok (.iload_n 3, 1) := by decide +kernel
theorem dX11_widest_47 : decode cX11_widest 47 = .ok (.istore_n 1, 1) := by decide +kernel
theorem dX11_widest_48 : decode cX11_widest 48 = .ok (.iinc 3 1, 3) := by decide +kernel
theorem dX11_widest_51 : decode cX11_widest 51 = .ok (.goto (-45), 3) := by decide +kernel
theorem dX11_widest_54 : decode cX11_widest 54 = .ok (.iload_n 1, 1) := by decide +kernel
theorem dX11_widest_55 : decode cX11_widest 55 = .ok (.iconst (-1), 1) := by decide +kernel
theorem dX11_widest_56 : decode cX11_widest 56 = .ok (.if_icmp .ne 12, 3) := by decide +kernel
theorem dX11_widest_59 : decode cX11_widest 59 = .ok (.aload_n 0, 1) := by decide +kernel
theorem dX11_widest_60 : decode cX11_widest 60 = .ok (.bipush 6, 2) := by decide +kernel
theorem dX11_widest_62 : decode cX11_widest 62 = .ok (.invokevirtual 97, 3) := by decide +kernel
theorem dX11_widest_65 : decode cX11_widest 65 = .ok (.goto 8, 3) := by decide +kernel
theorem dX11_widest_68 : decode cX11_widest 68 = .ok (.aload_n 0, 1) := by decide +kernel
theorem dX11_widest_69 : decode cX11_widest 69 = .ok (.iload_n 1, 1) := by decide +kernel
theorem dX11_widest_70 : decode cX11_widest 70 = .ok (.invokevirtual 142, 3) := by decide +kernel
theorem dX11_widest_73 : decode cX11_widest 73 = .ok (.ireturn, 1) := by decide +kernel
abbrev M_X11_widest : MT := (yX11_widest, cX11_widest, 4, (some .int))
theorem cf_X11_widest : fq_cf M_X11_widest 0 := ⟨(mg_1 (List.mem_of_getElem? (i := 1) rfl) rfl), (mg_6 (List.mem_of_getElem? (i := 20) rfl) rfl), ⟨by decide, by decide, by decide +kernel⟩, by decide⟩
def B_X11_widest_73 (l : Launch) (G : GT) (D mc ms : Nat) (Q : Post) : Cn := ix_iret mc ms Q
theorem b_X11_widest_73 {l : Launch} {G : GT} {D mc ms : Nat} {Q : Post} : Imp l G M_X11_widest (D + 1) mc ms Q (B_X11_widest_73 l G D mc ms Q) 73 := sx_iret dX11_widest_73 rfl
def B_X11_widest_48 (l : Launch) (G : GT) (D mc ms : Nat) (Q : Post) : Cn := ix_iinc 3 1 (fqAt l G M_X11_widest (D + 1) mc ms Q 6)
theorem b_X11_widest_48 {l : Launch} {G : GT} {D mc ms : Nat} {Q : Post} : Imp l G M_X11_widest (D + 1) mc ms Q (B_X11_widest_48 l G D mc ms Q) 48 := sx_iinc dX11_widest_48 rfl (by decide) (sx_goto 6 dX11_widest_51 (by decide) ((fun _ _ _ _ _ _ _ _ h => h)))
def B_X11_widest_6 (l : Launch) (G : GT) (D mc ms : Nat) (Q : Post) : Cn := ix_iload 3 (ix_aload 0 (ix_getR 11 6 (ix_getI 6 5 (ix_icmp_ge (ix_iload 1 (ix_pushI (-1) (ix_icmp_ne (ix_aload 0 (ix_iload 1 (ix_vcall 11 2 0 0 mc ms (sp_X11_answer G) ((B_X11_widest_73 l G D mc ms Q))))) (ix_aload 0 (ix_pushI 6 (ix_vcall 11 2 0 0 mc ms (sp_X11_refuse G) ((B_X11_widest_73 l G D mc ms Q)))))))) (ix_aload 0 (ix_getR 11 6 (ix_getR 6 0 (ix_iload 3 (ix_aald 16 (ix_getI 0 2 (ix_iload 2 (ix_icmp_le ((B_X11_widest_48 l G D mc ms Q)) (ix_aload 0 (ix_getR 11 6 (ix_getR 6 0 (ix_iload 3 (ix_aald 16 (ix_getI 0 2 (ix_istore 2 (ix_iload 3 (ix_istore 1 ((B_X11_widest_48 l G D mc ms Q)))))))))))))))))))))))
theorem b_X11_widest_6 {l : Launch} {G : GT} {D mc ms : Nat} {Q : Post} : Imp l G M_X11_widest (D + 1) mc ms Q (B_X11_widest_6 l G D mc ms Q) 6 := sx_iload_n dX11_widest_6 rfl (sx_aload_n dX11_widest_7 rfl (sx_getR dX11_widest_8 fl_FootQuarrel_46 (fun _ _ _ => rfl) (sx_getI dX11_widest_11 fl_FootQuarrel_164 (fun _ _ _ => rfl) (sx_icmp_ge 54 dX11_widest_14 (by decide) (sx_iload_n dX11_widest_54 rfl (sx_iconst dX11_widest_55 rfl (sx_icmp_ne 68 dX11_widest_56 (by decide) (sx_aload_n dX11_widest_68 rfl (sx_iload_n dX11_widest_69 rfl (sx_vcall dX11_widest_70 cf_X11_answer (mg_4 (List.mem_of_getElem? (i := 72) rfl) rfl) (mg_4 (List.mem_of_getElem? (i := 74) rfl) rfl) (mg_p (List.mem_of_getElem? (i := 17) rfl) rfl) rfl c_X11_answer (b_X11_widest_73)))) (sx_aload_n dX11_widest_59 rfl (sx_bipush dX11_widest_60 rfl (sx_vcall dX11_widest_62 cf_X11_refuse (mg_3 (List.mem_of_getElem? (i := 120) rfl) rfl) (mg_3 (List.mem_of_getElem? (i := 122) rfl) rfl) (mg_p (List.mem_of_getElem? (i := 3) rfl) rfl) rfl c_X11_refuse (sx_goto 73 dX11_widest_65 (by decide) (b_X11_widest_73)))))))) (sx_aload_n dX11_widest_17 rfl (sx_getR dX11_widest_18 fl_FootQuarrel_46 (fun _ _ _ => rfl) (sx_getR dX11_widest_21 fl_FootQuarrel_209 (fun _ _ _ => rfl) (sx_iload_n dX11_widest_24 rfl (sx_aald dX11_widest_25 (by decide) (by decide) rfl (sx_getI dX11_widest_26 fl_FootQuarrel_213 (fun _ _ _ => rfl) (sx_iload_n dX11_widest_29 rfl (sx_icmp_le 48 dX11_widest_30 (by decide) (b_X11_widest_48) (sx_aload_n dX11_widest_33 rfl (sx_getR dX11_widest_34 fl_FootQuarrel_46 (fun _ _ _ => rfl) (sx_getR dX11_widest_37 fl_FootQuarrel_209 (fun _ _ _ => rfl) (sx_iload_n dX11_widest_40 rfl (sx_aald dX11_widest_41 (by decide) (by decide) rfl (sx_getI dX11_widest_42 fl_FootQuarrel_213 (fun _ _ _ => rfl) (sx_istore_n dX11_widest_45 rfl (by decide) (sx_iload_n dX11_widest_46 rfl (sx_istore_n dX11_widest_47 rfl (by decide) (b_X11_widest_48))))))))))))))))))))))
def B_X11_widest_0 (l : Launch) (G : GT) (D mc ms : Nat) (Q : Post) : Cn := ix_pushI (-1) (ix_istore 1 (ix_pushI (-1) (ix_istore 2 (ix_pushI 0 (ix_istore 3 (fqAt l G M_X11_widest (D + 1) mc ms Q 6))))))
theorem b_X11_widest_0 {l : Launch} {G : GT} {D mc ms : Nat} {Q : Post} : Imp l G M_X11_widest (D + 1) mc ms Q (B_X11_widest_0 l G D mc ms Q) 0 := sx_iconst dX11_widest_0 rfl (sx_istore_n dX11_widest_1 rfl (by decide) (sx_iconst dX11_widest_2 rfl (sx_istore_n dX11_widest_3 rfl (by decide) (sx_iconst dX11_widest_4 rfl (sx_istore_n dX11_widest_5 rfl (by decide) ((fun _ _ _ _ _ _ _ _ h => h)))))))
theorem dX11_loser_0 : decode cX11_loser 0 = .ok (.iconst (-1), 1) := by decide +kernel
theorem dX11_loser_1 : decode cX11_loser 1 = .ok (.istore_n 1, 1) := by decide +kernel
theorem dX11_loser_2 : decode cX11_loser 2 = .ok (.iconst 0, 1) := by decide +kernel
theorem dX11_loser_3 : decode cX11_loser 3 = .ok (.istore_n 2, 1) := by decide +kernel
theorem dX11_loser_4 : decode cX11_loser 4 = .ok (.iconst 0, 1) := by decide +kernel
theorem dX11_loser_5 : decode cX11_loser 5 = .ok (.istore_n 3, 1) := by decide +kernel
theorem dX11_loser_6 : decode cX11_loser 6 = .ok (.iload_n 3, 1) := by decide +kernel
theorem dX11_loser_7 : decode cX11_loser 7 = .ok (.aload_n 0, 1) := by decide +kernel
theorem dX11_loser_8 : decode cX11_loser 8 = .ok (.getfield 46, 3) := by decide +kernel
theorem dX11_loser_11 : decode cX11_loser 11 = .ok (.getfield 164, 3) := by decide +kernel
theorem dX11_loser_14 : decode cX11_loser 14 = .ok (.if_icmp .ge 40, 3) := by decide +kernel
theorem dX11_loser_17 : decode cX11_loser 17 = .ok (.aload_n 0, 1) := by decide +kernel
theorem dX11_loser_18 : decode cX11_loser 18 = .ok (.getfield 46, 3) := by decide +kernel
theorem dX11_loser_21 : decode cX11_loser 21 = .ok (.getfield 209, 3) := by decide +kernel
theorem dX11_loser_24 : decode cX11_loser 24 = .ok (.iload_n 3, 1) := by decide +kernel
theorem dX11_loser_25 : decode cX11_loser 25 = .ok (.aaload, 1) := by decide +kernel
theorem dX11_loser_26 : decode cX11_loser 26 = .ok (.getfield 224, 3) := by decide +kernel
theorem dX11_loser_29 : decode cX11_loser 29 = .ok (.iload_n 2, 1) := by decide +kernel
theorem dX11_loser_30 : decode cX11_loser 30 = .ok (.if_icmp .le 18, 3) := by decide +kernel
theorem dX11_loser_33 : decode cX11_loser 33 = .ok (.aload_n 0, 1) := by decide +kernel
theorem dX11_loser_34 : decode cX11_loser 34 = .ok (.getfield 46, 3) := by decide +kernel
theorem dX11_loser_37 : decode cX11_loser 37 = .ok (.getfield 209, 3) := by decide +kernel
theorem dX11_loser_40 : decode cX11_loser 40 = .ok (.iload_n 3, 1) := by decide +kernel
theorem dX11_loser_41 : decode cX11_loser 41 = .ok (.aaload, 1) := by decide +kernel
theorem dX11_loser_42 : decode cX11_loser 42 = .ok (.getfield 224, 3) := by decide +kernel
theorem dX11_loser_45 : decode cX11_loser 45 = .ok (.istore_n 2, 1) := by decide +kernel
theorem dX11_loser_46 : decode cX11_loser 46 = .ok (.iload_n 3, 1) := by decide +kernel
theorem dX11_loser_47 : decode cX11_loser 47 = .ok (.istore_n 1, 1) := by decide +kernel
theorem dX11_loser_48 : decode cX11_loser 48 = .ok (.iinc 3 1, 3) := by decide +kernel
theorem dX11_loser_51 : decode cX11_loser 51 = .ok (.goto (-45), 3) := by decide +kernel
theorem dX11_loser_54 : decode cX11_loser 54 = .ok (.iload_n 1, 1) := by decide +kernel
theorem dX11_loser_55 : decode cX11_loser 55 = .ok (.iconst (-1), 1) := by decide +kernel
theorem dX11_loser_56 : decode cX11_loser 56 = .ok (.if_icmp .ne 12, 3) := by decide +kernel
theorem dX11_loser_59 : decode cX11_loser 59 = .ok (.aload_n 0, 1) := by decide +kernel
theorem dX11_loser_60 : decode cX11_loser 60 = .ok (.bipush 6, 2) := by decide +kernel
theorem dX11_loser_62 : decode cX11_loser 62 = .ok (.invokevirtual 97, 3) := by decide +kernel
theorem dX11_loser_65 : decode cX11_loser 65 = .ok (.goto 8, 3) := by decide +kernel
theorem dX11_loser_68 : decode cX11_loser 68 = .ok (.aload_n 0, 1) := by decide +kernel
theorem dX11_loser_69 : decode cX11_loser 69 = .ok (.iload_n 1, 1) := by decide +kernel
theorem dX11_loser_70 : decode cX11_loser 70 = .ok (.invokevirtual 142, 3) := by decide +kernel
theorem dX11_loser_73 : decode cX11_loser 73 = .ok (.ireturn, 1) := by decide +kernel
abbrev M_X11_loser : MT := (yX11_loser, cX11_loser, 4, (some .int))
theorem cf_X11_loser : fq_cf M_X11_loser 0 := ⟨(mg_1 (List.mem_of_getElem? (i := 1) rfl) rfl), (mg_6 (List.mem_of_getElem? (i := 24) rfl) rfl), ⟨by decide, by decide, by decide +kernel⟩, by decide⟩
def B_X11_loser_73 (l : Launch) (G : GT) (D mc ms : Nat) (Q : Post) : Cn := ix_iret mc ms Q
theorem b_X11_loser_73 {l : Launch} {G : GT} {D mc ms : Nat} {Q : Post} : Imp l G M_X11_loser (D + 1) mc ms Q (B_X11_loser_73 l G D mc ms Q) 73 := sx_iret dX11_loser_73 rfl
def B_X11_loser_48 (l : Launch) (G : GT) (D mc ms : Nat) (Q : Post) : Cn := ix_iinc 3 1 (fqAt l G M_X11_loser (D + 1) mc ms Q 6)
theorem b_X11_loser_48 {l : Launch} {G : GT} {D mc ms : Nat} {Q : Post} : Imp l G M_X11_loser (D + 1) mc ms Q (B_X11_loser_48 l G D mc ms Q) 48 := sx_iinc dX11_loser_48 rfl (by decide) (sx_goto 6 dX11_loser_51 (by decide) ((fun _ _ _ _ _ _ _ _ h => h)))
def B_X11_loser_6 (l : Launch) (G : GT) (D mc ms : Nat) (Q : Post) : Cn := ix_iload 3 (ix_aload 0 (ix_getR 11 6 (ix_getI 6 5 (ix_icmp_ge (ix_iload 1 (ix_pushI (-1) (ix_icmp_ne (ix_aload 0 (ix_iload 1 (ix_vcall 11 2 0 0 mc ms (sp_X11_answer G) ((B_X11_loser_73 l G D mc ms Q))))) (ix_aload 0 (ix_pushI 6 (ix_vcall 11 2 0 0 mc ms (sp_X11_refuse G) ((B_X11_loser_73 l G D mc ms Q)))))))) (ix_aload 0 (ix_getR 11 6 (ix_getR 6 0 (ix_iload 3 (ix_aald 16 (ix_getI 0 3 (ix_iload 2 (ix_icmp_le ((B_X11_loser_48 l G D mc ms Q)) (ix_aload 0 (ix_getR 11 6 (ix_getR 6 0 (ix_iload 3 (ix_aald 16 (ix_getI 0 3 (ix_istore 2 (ix_iload 3 (ix_istore 1 ((B_X11_loser_48 l G D mc ms Q)))))))))))))))))))))))
theorem b_X11_loser_6 {l : Launch} {G : GT} {D mc ms : Nat} {Q : Post} : Imp l G M_X11_loser (D + 1) mc ms Q (B_X11_loser_6 l G D mc ms Q) 6 := sx_iload_n dX11_loser_6 rfl (sx_aload_n dX11_loser_7 rfl (sx_getR dX11_loser_8 fl_FootQuarrel_46 (fun _ _ _ => rfl) (sx_getI dX11_loser_11 fl_FootQuarrel_164 (fun _ _ _ => rfl) (sx_icmp_ge 54 dX11_loser_14 (by decide) (sx_iload_n dX11_loser_54 rfl (sx_iconst dX11_loser_55 rfl (sx_icmp_ne 68 dX11_loser_56 (by decide) (sx_aload_n dX11_loser_68 rfl (sx_iload_n dX11_loser_69 rfl (sx_vcall dX11_loser_70 cf_X11_answer (mg_4 (List.mem_of_getElem? (i := 72) rfl) rfl) (mg_4 (List.mem_of_getElem? (i := 74) rfl) rfl) (mg_p (List.mem_of_getElem? (i := 17) rfl) rfl) rfl c_X11_answer (b_X11_loser_73)))) (sx_aload_n dX11_loser_59 rfl (sx_bipush dX11_loser_60 rfl (sx_vcall dX11_loser_62 cf_X11_refuse (mg_3 (List.mem_of_getElem? (i := 120) rfl) rfl) (mg_3 (List.mem_of_getElem? (i := 122) rfl) rfl) (mg_p (List.mem_of_getElem? (i := 3) rfl) rfl) rfl c_X11_refuse (sx_goto 73 dX11_loser_65 (by decide) (b_X11_loser_73)))))))) (sx_aload_n dX11_loser_17 rfl (sx_getR dX11_loser_18 fl_FootQuarrel_46 (fun _ _ _ => rfl) (sx_getR dX11_loser_21 fl_FootQuarrel_209 (fun _ _ _ => rfl) (sx_iload_n dX11_loser_24 rfl (sx_aald dX11_loser_25 (by decide) (by decide) rfl (sx_getI dX11_loser_26 fl_FootQuarrel_224 (fun _ _ _ => rfl) (sx_iload_n dX11_loser_29 rfl (sx_icmp_le 48 dX11_loser_30 (by decide) (b_X11_loser_48) (sx_aload_n dX11_loser_33 rfl (sx_getR dX11_loser_34 fl_FootQuarrel_46 (fun _ _ _ => rfl) (sx_getR dX11_loser_37 fl_FootQuarrel_209 (fun _ _ _ => rfl) (sx_iload_n dX11_loser_40 rfl (sx_aald dX11_loser_41 (by decide) (by decide) rfl (sx_getI dX11_loser_42 fl_FootQuarrel_224 (fun _ _ _ => rfl) (sx_istore_n dX11_loser_45 rfl (by decide) (sx_iload_n dX11_loser_46 rfl (sx_istore_n dX11_loser_47 rfl (by decide) (b_X11_loser_48))))))))))))))))))))))
def B_X11_loser_0 (l : Launch) (G : GT) (D mc ms : Nat) (Q : Post) : Cn := ix_pushI (-1) (ix_istore 1 (ix_pushI 0 (ix_istore 2 (ix_pushI 0 (ix_istore 3 (fqAt l G M_X11_loser (D + 1) mc ms Q 6))))))
theorem b_X11_loser_0 {l : Launch} {G : GT} {D mc ms : Nat} {Q : Post} : Imp l G M_X11_loser (D + 1) mc ms Q (B_X11_loser_0 l G D mc ms Q) 0 := sx_iconst dX11_loser_0 rfl (sx_istore_n dX11_loser_1 rfl (by decide) (sx_iconst dX11_loser_2 rfl (sx_istore_n dX11_loser_3 rfl (by decide) (sx_iconst dX11_loser_4 rfl (sx_istore_n dX11_loser_5 rfl (by decide) ((fun _ _ _ _ _ _ _ _ h => h)))))))
theorem dX11_loudest_0 : decode cX11_loudest 0 = .ok (.iconst (-1), 1) := by decide +kernel
theorem dX11_loudest_1 : decode cX11_loudest 1 = .ok (.istore_n 1, 1) := by decide +kernel
theorem dX11_loudest_2 : decode cX11_loudest 2 = .ok (.iconst 0, 1) := by decide +kernel
theorem dX11_loudest_3 : decode cX11_loudest 3 = .ok (.istore_n 2, 1) := by decide +kernel
theorem dX11_loudest_4 : decode cX11_loudest 4 = .ok (.iconst 0, 1) := by decide +kernel
theorem dX11_loudest_5 : decode cX11_loudest 5 = .ok (.istore_n 3, 1) := by decide +kernel
theorem dX11_loudest_6 : decode cX11_loudest 6 = .ok (.iload_n 3, 1) := by decide +kernel
theorem dX11_loudest_7 : decode cX11_loudest 7 = .ok (.aload_n 0, 1) := by decide +kernel
theorem dX11_loudest_8 : decode cX11_loudest 8 = .ok (.getfield 46, 3) := by decide +kernel
theorem dX11_loudest_11 : decode cX11_loudest 11 = .ok (.getfield 139, 3) := by decide +kernel
theorem dX11_loudest_14 : decode cX11_loudest 14 = .ok (.if_icmp .ge 40, 3) := by decide +kernel
theorem dX11_loudest_17 : decode cX11_loudest 17 = .ok (.aload_n 0, 1) := by decide +kernel
theorem dX11_loudest_18 : decode cX11_loudest 18 = .ok (.getfield 46, 3) := by decide +kernel
theorem dX11_loudest_21 : decode cX11_loudest 21 = .ok (.getfield 236, 3) := by decide +kernel
theorem dX11_loudest_24 : decode cX11_loudest 24 = .ok (.iload_n 3, 1) := by decide +kernel
theorem dX11_loudest_25 : decode cX11_loudest 25 = .ok (.aaload, 1) := by decide +kernel
theorem dX11_loudest_26 : decode cX11_loudest 26 = .ok (.getfield 260, 3) := by decide +kernel
theorem dX11_loudest_29 : decode cX11_loudest 29 = .ok (.iload_n 2, 1) := by decide +kernel
theorem dX11_loudest_30 : decode cX11_loudest 30 = .ok (.if_icmp .le 18, 3) := by decide +kernel
theorem dX11_loudest_33 : decode cX11_loudest 33 = .ok (.aload_n 0, 1) := by decide +kernel
theorem dX11_loudest_34 : decode cX11_loudest 34 = .ok (.getfield 46, 3) := by decide +kernel
theorem dX11_loudest_37 : decode cX11_loudest 37 = .ok (.getfield 236, 3) := by decide +kernel
theorem dX11_loudest_40 : decode cX11_loudest 40 = .ok (.iload_n 3, 1) := by decide +kernel
theorem dX11_loudest_41 : decode cX11_loudest 41 = .ok (.aaload, 1) := by decide +kernel
theorem dX11_loudest_42 : decode cX11_loudest 42 = .ok (.getfield 260, 3) := by decide +kernel
theorem dX11_loudest_45 : decode cX11_loudest 45 = .ok (.istore_n 2, 1) := by decide +kernel
theorem dX11_loudest_46 : decode cX11_loudest 46 = .ok (.iload_n 3, 1) := by decide +kernel
theorem dX11_loudest_47 : decode cX11_loudest 47 = .ok (.istore_n 1, 1) := by decide +kernel
theorem dX11_loudest_48 : decode cX11_loudest 48 = .ok (.iinc 3 1, 3) := by decide +kernel
theorem dX11_loudest_51 : decode cX11_loudest 51 = .ok (.goto (-45), 3) := by decide +kernel
theorem dX11_loudest_54 : decode cX11_loudest 54 = .ok (.iload_n 1, 1) := by decide +kernel
theorem dX11_loudest_55 : decode cX11_loudest 55 = .ok (.iconst (-1), 1) := by decide +kernel
theorem dX11_loudest_56 : decode cX11_loudest 56 = .ok (.if_icmp .ne 12, 3) := by decide +kernel
theorem dX11_loudest_59 : decode cX11_loudest 59 = .ok (.aload_n 0, 1) := by decide +kernel
theorem dX11_loudest_60 : decode cX11_loudest 60 = .ok (.bipush 6, 2) := by decide +kernel
theorem dX11_loudest_62 : decode cX11_loudest 62 = .ok (.invokevirtual 97, 3) := by decide +kernel
theorem dX11_loudest_65 : decode cX11_loudest 65 = .ok (.goto 8, 3) := by decide +kernel
theorem dX11_loudest_68 : decode cX11_loudest 68 = .ok (.aload_n 0, 1) := by decide +kernel
theorem dX11_loudest_69 : decode cX11_loudest 69 = .ok (.iload_n 1, 1) := by decide +kernel
theorem dX11_loudest_70 : decode cX11_loudest 70 = .ok (.invokevirtual 142, 3) := by decide +kernel
theorem dX11_loudest_73 : decode cX11_loudest 73 = .ok (.ireturn, 1) := by decide +kernel
abbrev M_X11_loudest : MT := (yX11_loudest, cX11_loudest, 4, (some .int))
theorem cf_X11_loudest : fq_cf M_X11_loudest 0 := ⟨(mg_1 (List.mem_of_getElem? (i := 1) rfl) rfl), (mg_6 (List.mem_of_getElem? (i := 28) rfl) rfl), ⟨by decide, by decide, by decide +kernel⟩, by decide⟩
def B_X11_loudest_73 (l : Launch) (G : GT) (D mc ms : Nat) (Q : Post) : Cn := ix_iret mc ms Q
theorem b_X11_loudest_73 {l : Launch} {G : GT} {D mc ms : Nat} {Q : Post} : Imp l G M_X11_loudest (D + 1) mc ms Q (B_X11_loudest_73 l G D mc ms Q) 73 := sx_iret dX11_loudest_73 rfl
def B_X11_loudest_48 (l : Launch) (G : GT) (D mc ms : Nat) (Q : Post) : Cn := ix_iinc 3 1 (fqAt l G M_X11_loudest (D + 1) mc ms Q 6)
theorem b_X11_loudest_48 {l : Launch} {G : GT} {D mc ms : Nat} {Q : Post} : Imp l G M_X11_loudest (D + 1) mc ms Q (B_X11_loudest_48 l G D mc ms Q) 48 := sx_iinc dX11_loudest_48 rfl (by decide) (sx_goto 6 dX11_loudest_51 (by decide) ((fun _ _ _ _ _ _ _ _ h => h)))
def B_X11_loudest_6 (l : Launch) (G : GT) (D mc ms : Nat) (Q : Post) : Cn := ix_iload 3 (ix_aload 0 (ix_getR 11 6 (ix_getI 6 6 (ix_icmp_ge (ix_iload 1 (ix_pushI (-1) (ix_icmp_ne (ix_aload 0 (ix_iload 1 (ix_vcall 11 2 0 0 mc ms (sp_X11_answer G) ((B_X11_loudest_73 l G D mc ms Q))))) (ix_aload 0 (ix_pushI 6 (ix_vcall 11 2 0 0 mc ms (sp_X11_refuse G) ((B_X11_loudest_73 l G D mc ms Q)))))))) (ix_aload 0 (ix_getR 11 6 (ix_getR 6 1 (ix_iload 3 (ix_aald 17 (ix_getI 2 7 (ix_iload 2 (ix_icmp_le ((B_X11_loudest_48 l G D mc ms Q)) (ix_aload 0 (ix_getR 11 6 (ix_getR 6 1 (ix_iload 3 (ix_aald 17 (ix_getI 2 7 (ix_istore 2 (ix_iload 3 (ix_istore 1 ((B_X11_loudest_48 l G D mc ms Q)))))))))))))))))))))))
theorem b_X11_loudest_6 {l : Launch} {G : GT} {D mc ms : Nat} {Q : Post} : Imp l G M_X11_loudest (D + 1) mc ms Q (B_X11_loudest_6 l G D mc ms Q) 6 := sx_iload_n dX11_loudest_6 rfl (sx_aload_n dX11_loudest_7 rfl (sx_getR dX11_loudest_8 fl_FootQuarrel_46 (fun _ _ _ => rfl) (sx_getI dX11_loudest_11 fl_FootQuarrel_139 (fun _ _ _ => rfl) (sx_icmp_ge 54 dX11_loudest_14 (by decide) (sx_iload_n dX11_loudest_54 rfl (sx_iconst dX11_loudest_55 rfl (sx_icmp_ne 68 dX11_loudest_56 (by decide) (sx_aload_n dX11_loudest_68 rfl (sx_iload_n dX11_loudest_69 rfl (sx_vcall dX11_loudest_70 cf_X11_answer (mg_4 (List.mem_of_getElem? (i := 72) rfl) rfl) (mg_4 (List.mem_of_getElem? (i := 74) rfl) rfl) (mg_p (List.mem_of_getElem? (i := 17) rfl) rfl) rfl c_X11_answer (b_X11_loudest_73)))) (sx_aload_n dX11_loudest_59 rfl (sx_bipush dX11_loudest_60 rfl (sx_vcall dX11_loudest_62 cf_X11_refuse (mg_3 (List.mem_of_getElem? (i := 120) rfl) rfl) (mg_3 (List.mem_of_getElem? (i := 122) rfl) rfl) (mg_p (List.mem_of_getElem? (i := 3) rfl) rfl) rfl c_X11_refuse (sx_goto 73 dX11_loudest_65 (by decide) (b_X11_loudest_73)))))))) (sx_aload_n dX11_loudest_17 rfl (sx_getR dX11_loudest_18 fl_FootQuarrel_46 (fun _ _ _ => rfl) (sx_getR dX11_loudest_21 fl_FootQuarrel_236 (fun _ _ _ => rfl) (sx_iload_n dX11_loudest_24 rfl (sx_aald dX11_loudest_25 (by decide) (by decide) rfl (sx_getI dX11_loudest_26 fl_FootQuarrel_260 (fun _ _ _ => rfl) (sx_iload_n dX11_loudest_29 rfl (sx_icmp_le 48 dX11_loudest_30 (by decide) (b_X11_loudest_48) (sx_aload_n dX11_loudest_33 rfl (sx_getR dX11_loudest_34 fl_FootQuarrel_46 (fun _ _ _ => rfl) (sx_getR dX11_loudest_37 fl_FootQuarrel_236 (fun _ _ _ => rfl) (sx_iload_n dX11_loudest_40 rfl (sx_aald dX11_loudest_41 (by decide) (by decide) rfl (sx_getI dX11_loudest_42 fl_FootQuarrel_260 (fun _ _ _ => rfl) (sx_istore_n dX11_loudest_45 rfl (by decide) (sx_iload_n dX11_loudest_46 rfl (sx_istore_n dX11_loudest_47 rfl (by decide) (b_X11_loudest_48))))))))))))))))))))))
def B_X11_loudest_0 (l : Launch) (G : GT) (D mc ms : Nat) (Q : Post) : Cn := ix_pushI (-1) (ix_istore 1 (ix_pushI 0 (ix_istore 2 (ix_pushI 0 (ix_istore 3 (fqAt l G M_X11_loudest (D + 1) mc ms Q 6))))))
theorem b_X11_loudest_0 {l : Launch} {G : GT} {D mc ms : Nat} {Q : Post} : Imp l G M_X11_loudest (D + 1) mc ms Q (B_X11_loudest_0 l G D mc ms Q) 0 := sx_iconst dX11_loudest_0 rfl (sx_istore_n dX11_loudest_1 rfl (by decide) (sx_iconst dX11_loudest_2 rfl (sx_istore_n dX11_loudest_3 rfl (by decide) (sx_iconst dX11_loudest_4 rfl (sx_istore_n dX11_loudest_5 rfl (by decide) ((fun _ _ _ _ _ _ _ _ h => h)))))))
def sp_X11_widest (G : GT) : Sp := fun as S I J z Q => match as with
  | [.ref X] => ∃ s, xsh S X s ∧ okN (I s 5) 6 ∧ Q (some (.int (mxU (fun i => I (s + 18 + i) 2) (I s 5).toNatClampNeg (-1, -1)).1)) S (u2 I X 10 (if (mxU (fun i => I (s + 18 + i) 2) (I s 5).toNatClampNeg (-1, -1)).1 = -1 then 6 else 0)) J z
  | _ => False
set_option maxHeartbeats 4000000 in
set_option maxRecDepth 20000 in
theorem c_X11_widest {l : Launch} {G : GT} {D : Nat} : ∀ as S I J z Q, sp_X11_widest G as S I J z Q → fqCall l G M_X11_widest (D + 1) 0 0 as S I J z Q := by
  intro as S I J z Q h
  unfold sp_X11_widest at h
  split at h
  · next X =>
    obtain ⟨s, ⟨x1, x2, hs⟩, ho, hQ⟩ := h
    obtain ⟨c, hc, hc1, hc2⟩ := ho.ex
    rw [hc2] at hQ
    have lp : ∀ (n i : Nat) (b m : Int32), i + n = c → Q (some (.int (foldU (fun i x => if x.2 < I (s + 18 + i) 2 then (nI i, I (s + 18 + i) 2) else x) i n (b, m)).1)) S (u2 I X 10 (if (foldU (fun i x => if x.2 < I (s + 18 + i) 2 then (nI i, I (s + 18 + i) 2) else x) i n (b, m)).1 = -1 then 6 else 0)) J z → fqAt l G M_X11_widest (D + 1) 0 0 Q 6 [some (.ref X), some (.int b), some (.int m), some (.int (nI i))] [] S I J z 0 0 := by
      intro n
      induction n with
      | zero =>
        intro i b m hi hq
        rw [foldU_0] at hq
        refine b_X11_widest_6 _ _ _ _ _ _ _ _ ?_
        simp (disch := omega) only [B_X11_widest_0, B_X11_widest_6, B_X11_widest_48, B_X11_widest_73, sp_X11_refuse, B_X11_refuse_0, sp_X11_answer, B_X11_answer_0, hs.k, hs.r0, hs.k1, hs.r1, hs.k2, hs.r2, hs.k3, hs.r3, hs.k4, hs.r4, hs.k12, hs.n1, hs.n2, hs.n3, hs.y0, hs.k5, hs.n5, hs.y1, hs.k6, hs.n6, hs.y2, hs.k7, hs.n7, hs.y3, hs.k8, hs.n8, hs.y4, hs.k9, hs.n9, hs.y5, hs.k10, hs.n10, hs.y6, hs.k11, hs.n11, hs.p0, hs.p1, hs.p2, hs.k13, hs.n13, hs.q0, hs.q1, hs.k14, hs.k15, hs.k16, hs.n16, hs.k17, hs.n17, hs.rH, hs.kH, hs.rP, hs.kP, hs.rQ, hs.kQ, x1, x2, hc1, nI_1, nI_add, nI_clamp, nI_pin, nI_neg, nI_nonneg, nI_leE, nI_ltE, nI_eqE, Nat.not_le, Nat.not_lt, fq_10, fq_01, fq_rr, ix_aald, ix_aast, ix_abs, ix_alen, ix_aload, ix_aret, ix_astore, ix_bald, ix_bast, ix_call, ix_cpyI, ix_cpyJ, ix_dead, ix_dup2, ix_dup2L, ix_dupI, ix_dupR, ix_dupx1, ix_getI, ix_getJ, ix_getR, ix_gfm, ix_gtab, ix_i2b, ix_i2c, ix_i2l, ix_i2s, ix_iadd, ix_iald, ix_iand, ix_iast, ix_icall, ix_icmp_eq, ix_icmp_ge, ix_icmp_gt, ix_icmp_le, ix_icmp_lt, ix_icmp_ne, ix_idiv, ix_if_eq, ix_if_ge, ix_if_gt, ix_if_le, ix_if_lt, ix_if_ne, ix_iinc, ix_iload, ix_imul, ix_ineg, ix_ior, ix_irem, ix_iret, ix_ishl, ix_ishr, ix_istore, ix_isub, ix_iushr, ix_ixor, ix_l2i, ix_ladd, ix_lald, ix_land, ix_last, ix_lcmp, ix_ldcS, ix_ldiv, ix_lload, ix_lmul, ix_lor, ix_lrem, ix_lret, ix_lshl, ix_lstore, ix_lsub, ix_lsw, ix_max, ix_min, ix_new, ix_newa, ix_nret, ix_oinit, ix_pop2L, ix_popI, ix_pushI, ix_pushL, ix_putI, ix_putJ, ix_putR, ix_putZ, ix_sbald, ix_sgetC, ix_sgetV, ix_slen, ix_strc, ix_tald, ix_tsw, ix_vcall, ix_vret, ix_zret, stL, stL2, kilL, popN, fq_sw, fq_lsw, List.map_cons, List.map_nil, List.getElem?_cons_zero, List.getElem?_cons_succ, Option.toList_some, Option.toList_none, List.cons_append, List.nil_append, List.length_cons, List.length_nil, List.sum_cons, List.sum_nil, cat_i, cat_l, cat_r, true_and, and_true, Nat.zero_add, Nat.add_zero, Nat.le_refl, Nat.zero_le, Nat.reduceAdd, Nat.reduceLeDiff, exists_eq_left', Option.some.injEq, not_true_eq_false, not_false_eq_true, false_implies, true_implies, implies_true, and_self, or_true, true_or, or_false, false_or]
        refine ⟨fun _ => ⟨fun h => ?_, fun h => ?_⟩, fun h => absurd h (by omega)⟩
        · rw [if_neg h] at hq
          exact hq
        · rw [if_pos h] at hq
          rw [← show b = -1 from h]
          exact hq
      | succ n ih =>
        intro i b m hi hq
        rw [foldU_1] at hq
        refine b_X11_widest_6 _ _ _ _ _ _ _ _ ?_
        simp (disch := omega) only [B_X11_widest_0, B_X11_widest_6, B_X11_widest_48, B_X11_widest_73, sp_X11_refuse, B_X11_refuse_0, sp_X11_answer, B_X11_answer_0, hs.k, hs.r0, hs.k1, hs.r1, hs.k2, hs.r2, hs.k3, hs.r3, hs.k4, hs.r4, hs.k12, hs.n1, hs.n2, hs.n3, hs.y0, hs.k5, hs.n5, hs.y1, hs.k6, hs.n6, hs.y2, hs.k7, hs.n7, hs.y3, hs.k8, hs.n8, hs.y4, hs.k9, hs.n9, hs.y5, hs.k10, hs.n10, hs.y6, hs.k11, hs.n11, hs.p0, hs.p1, hs.p2, hs.k13, hs.n13, hs.q0, hs.q1, hs.k14, hs.k15, hs.k16, hs.n16, hs.k17, hs.n17, hs.rH, hs.kH, hs.rP, hs.kP, hs.rQ, hs.kQ, x1, x2, hc1, nI_1, nI_add, nI_clamp, nI_pin, nI_neg, nI_nonneg, nI_leE, nI_ltE, nI_eqE, Nat.not_le, Nat.not_lt, fq_10, fq_01, fq_rr, ix_aald, ix_aast, ix_abs, ix_alen, ix_aload, ix_aret, ix_astore, ix_bald, ix_bast, ix_call, ix_cpyI, ix_cpyJ, ix_dead, ix_dup2, ix_dup2L, ix_dupI, ix_dupR, ix_dupx1, ix_getI, ix_getJ, ix_getR, ix_gfm, ix_gtab, ix_i2b, ix_i2c, ix_i2l, ix_i2s, ix_iadd, ix_iald, ix_iand, ix_iast, ix_icall, ix_icmp_eq, ix_icmp_ge, ix_icmp_gt, ix_icmp_le, ix_icmp_lt, ix_icmp_ne, ix_idiv, ix_if_eq, ix_if_ge, ix_if_gt, ix_if_le, ix_if_lt, ix_if_ne, ix_iinc, ix_iload, ix_imul, ix_ineg, ix_ior, ix_irem, ix_iret, ix_ishl, ix_ishr, ix_istore, ix_isub, ix_iushr, ix_ixor, ix_l2i, ix_ladd, ix_lald, ix_land, ix_last, ix_lcmp, ix_ldcS, ix_ldiv, ix_lload, ix_lmul, ix_lor, ix_lrem, ix_lret, ix_lshl, ix_lstore, ix_lsub, ix_lsw, ix_max, ix_min, ix_new, ix_newa, ix_nret, ix_oinit, ix_pop2L, ix_popI, ix_pushI, ix_pushL, ix_putI, ix_putJ, ix_putR, ix_putZ, ix_sbald, ix_sgetC, ix_sgetV, ix_slen, ix_strc, ix_tald, ix_tsw, ix_vcall, ix_vret, ix_zret, stL, stL2, kilL, popN, fq_sw, fq_lsw, List.map_cons, List.map_nil, List.getElem?_cons_zero, List.getElem?_cons_succ, Option.toList_some, Option.toList_none, List.cons_append, List.nil_append, List.length_cons, List.length_nil, List.sum_cons, List.sum_nil, cat_i, cat_l, cat_r, true_and, and_true, Nat.zero_add, Nat.add_zero, Nat.le_refl, Nat.zero_le, Nat.reduceAdd, Nat.reduceLeDiff, exists_eq_left', Option.some.injEq, not_true_eq_false, not_false_eq_true, false_implies, true_implies, implies_true, and_self, or_true, true_or, or_false, false_or]
        refine ⟨fun h => absurd h (by omega), fun _ => ⟨fun h => ih (i + 1) _ _ (by omega) ?_, fun h => ih (i + 1) _ _ (by omega) ?_⟩⟩
        · rw [if_neg (Int32.not_lt.mpr h)] at hq
          exact hq
        · rw [if_pos (Int32.not_le.mp h)] at hq
          exact hq
    refine fq_enter [some (.ref X), none, none, none] (by decide +kernel) (Nat.le_of_ble_eq_true rfl) rfl (b_X11_widest_0 _ _ _ _ _ _ _ _ ?_)
    simp (disch := omega) only [B_X11_widest_0, B_X11_widest_6, B_X11_widest_48, B_X11_widest_73, sp_X11_refuse, B_X11_refuse_0, sp_X11_answer, B_X11_answer_0, x1, x2, nI_1, nI_add, nI_clamp, nI_pin, nI_neg, nI_nonneg, nI_leE, nI_ltE, nI_eqE, Nat.not_le, Nat.not_lt, fq_10, fq_01, fq_rr, ix_aald, ix_aast, ix_abs, ix_alen, ix_aload, ix_aret, ix_astore, ix_bald, ix_bast, ix_call, ix_cpyI, ix_cpyJ, ix_dead, ix_dup2, ix_dup2L, ix_dupI, ix_dupR, ix_dupx1, ix_getI, ix_getJ, ix_getR, ix_gfm, ix_gtab, ix_i2b, ix_i2c, ix_i2l, ix_i2s, ix_iadd, ix_iald, ix_iand, ix_iast, ix_icall, ix_icmp_eq, ix_icmp_ge, ix_icmp_gt, ix_icmp_le, ix_icmp_lt, ix_icmp_ne, ix_idiv, ix_if_eq, ix_if_ge, ix_if_gt, ix_if_le, ix_if_lt, ix_if_ne, ix_iinc, ix_iload, ix_imul, ix_ineg, ix_ior, ix_irem, ix_iret, ix_ishl, ix_ishr, ix_istore, ix_isub, ix_iushr, ix_ixor, ix_l2i, ix_ladd, ix_lald, ix_land, ix_last, ix_lcmp, ix_ldcS, ix_ldiv, ix_lload, ix_lmul, ix_lor, ix_lrem, ix_lret, ix_lshl, ix_lstore, ix_lsub, ix_lsw, ix_max, ix_min, ix_new, ix_newa, ix_nret, ix_oinit, ix_pop2L, ix_popI, ix_pushI, ix_pushL, ix_putI, ix_putJ, ix_putR, ix_putZ, ix_sbald, ix_sgetC, ix_sgetV, ix_slen, ix_strc, ix_tald, ix_tsw, ix_vcall, ix_vret, ix_zret, stL, stL2, kilL, popN, fq_sw, fq_lsw, List.map_cons, List.map_nil, List.getElem?_cons_zero, List.getElem?_cons_succ, Option.toList_some, Option.toList_none, List.cons_append, List.nil_append, List.length_cons, List.length_nil, List.sum_cons, List.sum_nil, cat_i, cat_l, cat_r, true_and, and_true, Nat.zero_add, Nat.add_zero, Nat.le_refl, Nat.zero_le, Nat.reduceAdd, Nat.reduceLeDiff, exists_eq_left', Option.some.injEq, not_true_eq_false, not_false_eq_true, false_implies, true_implies, implies_true, and_self, or_true, true_or, or_false, false_or]
    exact lp c 0 _ _ (by omega) hQ
  · exact h.elim
def sp_X11_loser (G : GT) : Sp := fun as S I J z Q => match as with
  | [.ref X] => ∃ s, xsh S X s ∧ okN (I s 5) 6 ∧ Q (some (.int (mxU (fun i => I (s + 18 + i) 3) (I s 5).toNatClampNeg (-1, 0)).1)) S (u2 I X 10 (if (mxU (fun i => I (s + 18 + i) 3) (I s 5).toNatClampNeg (-1, 0)).1 = -1 then 6 else 0)) J z
  | _ => False
set_option maxHeartbeats 4000000 in
set_option maxRecDepth 20000 in
theorem c_X11_loser {l : Launch} {G : GT} {D : Nat} : ∀ as S I J z Q, sp_X11_loser G as S I J z Q → fqCall l G M_X11_loser (D + 1) 0 0 as S I J z Q := by
  intro as S I J z Q h
  unfold sp_X11_loser at h
  split at h
  · next X =>
    obtain ⟨s, ⟨x1, x2, hs⟩, ho, hQ⟩ := h
    obtain ⟨c, hc, hc1, hc2⟩ := ho.ex
    rw [hc2] at hQ
    have lp : ∀ (n i : Nat) (b m : Int32), i + n = c → Q (some (.int (foldU (fun i x => if x.2 < I (s + 18 + i) 3 then (nI i, I (s + 18 + i) 3) else x) i n (b, m)).1)) S (u2 I X 10 (if (foldU (fun i x => if x.2 < I (s + 18 + i) 3 then (nI i, I (s + 18 + i) 3) else x) i n (b, m)).1 = -1 then 6 else 0)) J z → fqAt l G M_X11_loser (D + 1) 0 0 Q 6 [some (.ref X), some (.int b), some (.int m), some (.int (nI i))] [] S I J z 0 0 := by
      intro n
      induction n with
      | zero =>
        intro i b m hi hq
        rw [foldU_0] at hq
        refine b_X11_loser_6 _ _ _ _ _ _ _ _ ?_
        simp (disch := omega) only [B_X11_loser_0, B_X11_loser_6, B_X11_loser_48, B_X11_loser_73, sp_X11_refuse, B_X11_refuse_0, sp_X11_answer, B_X11_answer_0, hs.k, hs.r0, hs.k1, hs.r1, hs.k2, hs.r2, hs.k3, hs.r3, hs.k4, hs.r4, hs.k12, hs.n1, hs.n2, hs.n3, hs.y0, hs.k5, hs.n5, hs.y1, hs.k6, hs.n6, hs.y2, hs.k7, hs.n7, hs.y3, hs.k8, hs.n8, hs.y4, hs.k9, hs.n9, hs.y5, hs.k10, hs.n10, hs.y6, hs.k11, hs.n11, hs.p0, hs.p1, hs.p2, hs.k13, hs.n13, hs.q0, hs.q1, hs.k14, hs.k15, hs.k16, hs.n16, hs.k17, hs.n17, hs.rH, hs.kH, hs.rP, hs.kP, hs.rQ, hs.kQ, x1, x2, hc1, nI_1, nI_add, nI_clamp, nI_pin, nI_neg, nI_nonneg, nI_leE, nI_ltE, nI_eqE, Nat.not_le, Nat.not_lt, fq_10, fq_01, fq_rr, ix_aald, ix_aast, ix_abs, ix_alen, ix_aload, ix_aret, ix_astore, ix_bald, ix_bast, ix_call, ix_cpyI, ix_cpyJ, ix_dead, ix_dup2, ix_dup2L, ix_dupI, ix_dupR, ix_dupx1, ix_getI, ix_getJ, ix_getR, ix_gfm, ix_gtab, ix_i2b, ix_i2c, ix_i2l, ix_i2s, ix_iadd, ix_iald, ix_iand, ix_iast, ix_icall, ix_icmp_eq, ix_icmp_ge, ix_icmp_gt, ix_icmp_le, ix_icmp_lt, ix_icmp_ne, ix_idiv, ix_if_eq, ix_if_ge, ix_if_gt, ix_if_le, ix_if_lt, ix_if_ne, ix_iinc, ix_iload, ix_imul, ix_ineg, ix_ior, ix_irem, ix_iret, ix_ishl, ix_ishr, ix_istore, ix_isub, ix_iushr, ix_ixor, ix_l2i, ix_ladd, ix_lald, ix_land, ix_last, ix_lcmp, ix_ldcS, ix_ldiv, ix_lload, ix_lmul, ix_lor, ix_lrem, ix_lret, ix_lshl, ix_lstore, ix_lsub, ix_lsw, ix_max, ix_min, ix_new, ix_newa, ix_nret, ix_oinit, ix_pop2L, ix_popI, ix_pushI, ix_pushL, ix_putI, ix_putJ, ix_putR, ix_putZ, ix_sbald, ix_sgetC, ix_sgetV, ix_slen, ix_strc, ix_tald, ix_tsw, ix_vcall, ix_vret, ix_zret, stL, stL2, kilL, popN, fq_sw, fq_lsw, List.map_cons, List.map_nil, List.getElem?_cons_zero, List.getElem?_cons_succ, Option.toList_some, Option.toList_none, List.cons_append, List.nil_append, List.length_cons, List.length_nil, List.sum_cons, List.sum_nil, cat_i, cat_l, cat_r, true_and, and_true, Nat.zero_add, Nat.add_zero, Nat.le_refl, Nat.zero_le, Nat.reduceAdd, Nat.reduceLeDiff, exists_eq_left', Option.some.injEq, not_true_eq_false, not_false_eq_true, false_implies, true_implies, implies_true, and_self, or_true, true_or, or_false, false_or]
        refine ⟨fun _ => ⟨fun h => ?_, fun h => ?_⟩, fun h => absurd h (by omega)⟩
        · rw [if_neg h] at hq
          exact hq
        · rw [if_pos h] at hq
          rw [← show b = -1 from h]
          exact hq
      | succ n ih =>
        intro i b m hi hq
        rw [foldU_1] at hq
        refine b_X11_loser_6 _ _ _ _ _ _ _ _ ?_
        simp (disch := omega) only [B_X11_loser_0, B_X11_loser_6, B_X11_loser_48, B_X11_loser_73, sp_X11_refuse, B_X11_refuse_0, sp_X11_answer, B_X11_answer_0, hs.k, hs.r0, hs.k1, hs.r1, hs.k2, hs.r2, hs.k3, hs.r3, hs.k4, hs.r4, hs.k12, hs.n1, hs.n2, hs.n3, hs.y0, hs.k5, hs.n5, hs.y1, hs.k6, hs.n6, hs.y2, hs.k7, hs.n7, hs.y3, hs.k8, hs.n8, hs.y4, hs.k9, hs.n9, hs.y5, hs.k10, hs.n10, hs.y6, hs.k11, hs.n11, hs.p0, hs.p1, hs.p2, hs.k13, hs.n13, hs.q0, hs.q1, hs.k14, hs.k15, hs.k16, hs.n16, hs.k17, hs.n17, hs.rH, hs.kH, hs.rP, hs.kP, hs.rQ, hs.kQ, x1, x2, hc1, nI_1, nI_add, nI_clamp, nI_pin, nI_neg, nI_nonneg, nI_leE, nI_ltE, nI_eqE, Nat.not_le, Nat.not_lt, fq_10, fq_01, fq_rr, ix_aald, ix_aast, ix_abs, ix_alen, ix_aload, ix_aret, ix_astore, ix_bald, ix_bast, ix_call, ix_cpyI, ix_cpyJ, ix_dead, ix_dup2, ix_dup2L, ix_dupI, ix_dupR, ix_dupx1, ix_getI, ix_getJ, ix_getR, ix_gfm, ix_gtab, ix_i2b, ix_i2c, ix_i2l, ix_i2s, ix_iadd, ix_iald, ix_iand, ix_iast, ix_icall, ix_icmp_eq, ix_icmp_ge, ix_icmp_gt, ix_icmp_le, ix_icmp_lt, ix_icmp_ne, ix_idiv, ix_if_eq, ix_if_ge, ix_if_gt, ix_if_le, ix_if_lt, ix_if_ne, ix_iinc, ix_iload, ix_imul, ix_ineg, ix_ior, ix_irem, ix_iret, ix_ishl, ix_ishr, ix_istore, ix_isub, ix_iushr, ix_ixor, ix_l2i, ix_ladd, ix_lald, ix_land, ix_last, ix_lcmp, ix_ldcS, ix_ldiv, ix_lload, ix_lmul, ix_lor, ix_lrem, ix_lret, ix_lshl, ix_lstore, ix_lsub, ix_lsw, ix_max, ix_min, ix_new, ix_newa, ix_nret, ix_oinit, ix_pop2L, ix_popI, ix_pushI, ix_pushL, ix_putI, ix_putJ, ix_putR, ix_putZ, ix_sbald, ix_sgetC, ix_sgetV, ix_slen, ix_strc, ix_tald, ix_tsw, ix_vcall, ix_vret, ix_zret, stL, stL2, kilL, popN, fq_sw, fq_lsw, List.map_cons, List.map_nil, List.getElem?_cons_zero, List.getElem?_cons_succ, Option.toList_some, Option.toList_none, List.cons_append, List.nil_append, List.length_cons, List.length_nil, List.sum_cons, List.sum_nil, cat_i, cat_l, cat_r, true_and, and_true, Nat.zero_add, Nat.add_zero, Nat.le_refl, Nat.zero_le, Nat.reduceAdd, Nat.reduceLeDiff, exists_eq_left', Option.some.injEq, not_true_eq_false, not_false_eq_true, false_implies, true_implies, implies_true, and_self, or_true, true_or, or_false, false_or]
        refine ⟨fun h => absurd h (by omega), fun _ => ⟨fun h => ih (i + 1) _ _ (by omega) ?_, fun h => ih (i + 1) _ _ (by omega) ?_⟩⟩
        · rw [if_neg (Int32.not_lt.mpr h)] at hq
          exact hq
        · rw [if_pos (Int32.not_le.mp h)] at hq
          exact hq
    refine fq_enter [some (.ref X), none, none, none] (by decide +kernel) (Nat.le_of_ble_eq_true rfl) rfl (b_X11_loser_0 _ _ _ _ _ _ _ _ ?_)
    simp (disch := omega) only [B_X11_loser_0, B_X11_loser_6, B_X11_loser_48, B_X11_loser_73, sp_X11_refuse, B_X11_refuse_0, sp_X11_answer, B_X11_answer_0, x1, x2, nI_1, nI_add, nI_clamp, nI_pin, nI_neg, nI_nonneg, nI_leE, nI_ltE, nI_eqE, Nat.not_le, Nat.not_lt, fq_10, fq_01, fq_rr, ix_aald, ix_aast, ix_abs, ix_alen, ix_aload, ix_aret, ix_astore, ix_bald, ix_bast, ix_call, ix_cpyI, ix_cpyJ, ix_dead, ix_dup2, ix_dup2L, ix_dupI, ix_dupR, ix_dupx1, ix_getI, ix_getJ, ix_getR, ix_gfm, ix_gtab, ix_i2b, ix_i2c, ix_i2l, ix_i2s, ix_iadd, ix_iald, ix_iand, ix_iast, ix_icall, ix_icmp_eq, ix_icmp_ge, ix_icmp_gt, ix_icmp_le, ix_icmp_lt, ix_icmp_ne, ix_idiv, ix_if_eq, ix_if_ge, ix_if_gt, ix_if_le, ix_if_lt, ix_if_ne, ix_iinc, ix_iload, ix_imul, ix_ineg, ix_ior, ix_irem, ix_iret, ix_ishl, ix_ishr, ix_istore, ix_isub, ix_iushr, ix_ixor, ix_l2i, ix_ladd, ix_lald, ix_land, ix_last, ix_lcmp, ix_ldcS, ix_ldiv, ix_lload, ix_lmul, ix_lor, ix_lrem, ix_lret, ix_lshl, ix_lstore, ix_lsub, ix_lsw, ix_max, ix_min, ix_new, ix_newa, ix_nret, ix_oinit, ix_pop2L, ix_popI, ix_pushI, ix_pushL, ix_putI, ix_putJ, ix_putR, ix_putZ, ix_sbald, ix_sgetC, ix_sgetV, ix_slen, ix_strc, ix_tald, ix_tsw, ix_vcall, ix_vret, ix_zret, stL, stL2, kilL, popN, fq_sw, fq_lsw, List.map_cons, List.map_nil, List.getElem?_cons_zero, List.getElem?_cons_succ, Option.toList_some, Option.toList_none, List.cons_append, List.nil_append, List.length_cons, List.length_nil, List.sum_cons, List.sum_nil, cat_i, cat_l, cat_r, true_and, and_true, Nat.zero_add, Nat.add_zero, Nat.le_refl, Nat.zero_le, Nat.reduceAdd, Nat.reduceLeDiff, exists_eq_left', Option.some.injEq, not_true_eq_false, not_false_eq_true, false_implies, true_implies, implies_true, and_self, or_true, true_or, or_false, false_or]
    exact lp c 0 _ _ (by omega) hQ
  · exact h.elim
def sp_X11_loudest (G : GT) : Sp := fun as S I J z Q => match as with
  | [.ref X] => ∃ s, xsh S X s ∧ okN (I s 6) 8 ∧ Q (some (.int (mxU (fun i => I (s + 24 + i) 7) (I s 6).toNatClampNeg (-1, 0)).1)) S (u2 I X 10 (if (mxU (fun i => I (s + 24 + i) 7) (I s 6).toNatClampNeg (-1, 0)).1 = -1 then 6 else 0)) J z
  | _ => False
set_option maxHeartbeats 4000000 in
set_option maxRecDepth 20000 in
theorem c_X11_loudest {l : Launch} {G : GT} {D : Nat} : ∀ as S I J z Q, sp_X11_loudest G as S I J z Q → fqCall l G M_X11_loudest (D + 1) 0 0 as S I J z Q := by
  intro as S I J z Q h
  unfold sp_X11_loudest at h
  split at h
  · next X =>
    obtain ⟨s, ⟨x1, x2, hs⟩, ho, hQ⟩ := h
    obtain ⟨c, hc, hc1, hc2⟩ := ho.ex
    rw [hc2] at hQ
    have lp : ∀ (n i : Nat) (b m : Int32), i + n = c → Q (some (.int (foldU (fun i x => if x.2 < I (s + 24 + i) 7 then (nI i, I (s + 24 + i) 7) else x) i n (b, m)).1)) S (u2 I X 10 (if (foldU (fun i x => if x.2 < I (s + 24 + i) 7 then (nI i, I (s + 24 + i) 7) else x) i n (b, m)).1 = -1 then 6 else 0)) J z → fqAt l G M_X11_loudest (D + 1) 0 0 Q 6 [some (.ref X), some (.int b), some (.int m), some (.int (nI i))] [] S I J z 0 0 := by
      intro n
      induction n with
      | zero =>
        intro i b m hi hq
        rw [foldU_0] at hq
        refine b_X11_loudest_6 _ _ _ _ _ _ _ _ ?_
        simp (disch := omega) only [B_X11_loudest_0, B_X11_loudest_6, B_X11_loudest_48, B_X11_loudest_73, sp_X11_refuse, B_X11_refuse_0, sp_X11_answer, B_X11_answer_0, hs.k, hs.r0, hs.k1, hs.r1, hs.k2, hs.r2, hs.k3, hs.r3, hs.k4, hs.r4, hs.k12, hs.n1, hs.n2, hs.n3, hs.y0, hs.k5, hs.n5, hs.y1, hs.k6, hs.n6, hs.y2, hs.k7, hs.n7, hs.y3, hs.k8, hs.n8, hs.y4, hs.k9, hs.n9, hs.y5, hs.k10, hs.n10, hs.y6, hs.k11, hs.n11, hs.p0, hs.p1, hs.p2, hs.k13, hs.n13, hs.q0, hs.q1, hs.k14, hs.k15, hs.k16, hs.n16, hs.k17, hs.n17, hs.rH, hs.kH, hs.rP, hs.kP, hs.rQ, hs.kQ, x1, x2, hc1, nI_1, nI_add, nI_clamp, nI_pin, nI_neg, nI_nonneg, nI_leE, nI_ltE, nI_eqE, Nat.not_le, Nat.not_lt, fq_10, fq_01, fq_rr, ix_aald, ix_aast, ix_abs, ix_alen, ix_aload, ix_aret, ix_astore, ix_bald, ix_bast, ix_call, ix_cpyI, ix_cpyJ, ix_dead, ix_dup2, ix_dup2L, ix_dupI, ix_dupR, ix_dupx1, ix_getI, ix_getJ, ix_getR, ix_gfm, ix_gtab, ix_i2b, ix_i2c, ix_i2l, ix_i2s, ix_iadd, ix_iald, ix_iand, ix_iast, ix_icall, ix_icmp_eq, ix_icmp_ge, ix_icmp_gt, ix_icmp_le, ix_icmp_lt, ix_icmp_ne, ix_idiv, ix_if_eq, ix_if_ge, ix_if_gt, ix_if_le, ix_if_lt, ix_if_ne, ix_iinc, ix_iload, ix_imul, ix_ineg, ix_ior, ix_irem, ix_iret, ix_ishl, ix_ishr, ix_istore, ix_isub, ix_iushr, ix_ixor, ix_l2i, ix_ladd, ix_lald, ix_land, ix_last, ix_lcmp, ix_ldcS, ix_ldiv, ix_lload, ix_lmul, ix_lor, ix_lrem, ix_lret, ix_lshl, ix_lstore, ix_lsub, ix_lsw, ix_max, ix_min, ix_new, ix_newa, ix_nret, ix_oinit, ix_pop2L, ix_popI, ix_pushI, ix_pushL, ix_putI, ix_putJ, ix_putR, ix_putZ, ix_sbald, ix_sgetC, ix_sgetV, ix_slen, ix_strc, ix_tald, ix_tsw, ix_vcall, ix_vret, ix_zret, stL, stL2, kilL, popN, fq_sw, fq_lsw, List.map_cons, List.map_nil, List.getElem?_cons_zero, List.getElem?_cons_succ, Option.toList_some, Option.toList_none, List.cons_append, List.nil_append, List.length_cons, List.length_nil, List.sum_cons, List.sum_nil, cat_i, cat_l, cat_r, true_and, and_true, Nat.zero_add, Nat.add_zero, Nat.le_refl, Nat.zero_le, Nat.reduceAdd, Nat.reduceLeDiff, exists_eq_left', Option.some.injEq, not_true_eq_false, not_false_eq_true, false_implies, true_implies, implies_true, and_self, or_true, true_or, or_false, false_or]
        refine ⟨fun _ => ⟨fun h => ?_, fun h => ?_⟩, fun h => absurd h (by omega)⟩
        · rw [if_neg h] at hq
          exact hq
        · rw [if_pos h] at hq
          rw [← show b = -1 from h]
          exact hq
      | succ n ih =>
        intro i b m hi hq
        rw [foldU_1] at hq
        refine b_X11_loudest_6 _ _ _ _ _ _ _ _ ?_
        simp (disch := omega) only [B_X11_loudest_0, B_X11_loudest_6, B_X11_loudest_48, B_X11_loudest_73, sp_X11_refuse, B_X11_refuse_0, sp_X11_answer, B_X11_answer_0, hs.k, hs.r0, hs.k1, hs.r1, hs.k2, hs.r2, hs.k3, hs.r3, hs.k4, hs.r4, hs.k12, hs.n1, hs.n2, hs.n3, hs.y0, hs.k5, hs.n5, hs.y1, hs.k6, hs.n6, hs.y2, hs.k7, hs.n7, hs.y3, hs.k8, hs.n8, hs.y4, hs.k9, hs.n9, hs.y5, hs.k10, hs.n10, hs.y6, hs.k11, hs.n11, hs.p0, hs.p1, hs.p2, hs.k13, hs.n13, hs.q0, hs.q1, hs.k14, hs.k15, hs.k16, hs.n16, hs.k17, hs.n17, hs.rH, hs.kH, hs.rP, hs.kP, hs.rQ, hs.kQ, x1, x2, hc1, nI_1, nI_add, nI_clamp, nI_pin, nI_neg, nI_nonneg, nI_leE, nI_ltE, nI_eqE, Nat.not_le, Nat.not_lt, fq_10, fq_01, fq_rr, ix_aald, ix_aast, ix_abs, ix_alen, ix_aload, ix_aret, ix_astore, ix_bald, ix_bast, ix_call, ix_cpyI, ix_cpyJ, ix_dead, ix_dup2, ix_dup2L, ix_dupI, ix_dupR, ix_dupx1, ix_getI, ix_getJ, ix_getR, ix_gfm, ix_gtab, ix_i2b, ix_i2c, ix_i2l, ix_i2s, ix_iadd, ix_iald, ix_iand, ix_iast, ix_icall, ix_icmp_eq, ix_icmp_ge, ix_icmp_gt, ix_icmp_le, ix_icmp_lt, ix_icmp_ne, ix_idiv, ix_if_eq, ix_if_ge, ix_if_gt, ix_if_le, ix_if_lt, ix_if_ne, ix_iinc, ix_iload, ix_imul, ix_ineg, ix_ior, ix_irem, ix_iret, ix_ishl, ix_ishr, ix_istore, ix_isub, ix_iushr, ix_ixor, ix_l2i, ix_ladd, ix_lald, ix_land, ix_last, ix_lcmp, ix_ldcS, ix_ldiv, ix_lload, ix_lmul, ix_lor, ix_lrem, ix_lret, ix_lshl, ix_lstore, ix_lsub, ix_lsw, ix_max, ix_min, ix_new, ix_newa, ix_nret, ix_oinit, ix_pop2L, ix_popI, ix_pushI, ix_pushL, ix_putI, ix_putJ, ix_putR, ix_putZ, ix_sbald, ix_sgetC, ix_sgetV, ix_slen, ix_strc, ix_tald, ix_tsw, ix_vcall, ix_vret, ix_zret, stL, stL2, kilL, popN, fq_sw, fq_lsw, List.map_cons, List.map_nil, List.getElem?_cons_zero, List.getElem?_cons_succ, Option.toList_some, Option.toList_none, List.cons_append, List.nil_append, List.length_cons, List.length_nil, List.sum_cons, List.sum_nil, cat_i, cat_l, cat_r, true_and, and_true, Nat.zero_add, Nat.add_zero, Nat.le_refl, Nat.zero_le, Nat.reduceAdd, Nat.reduceLeDiff, exists_eq_left', Option.some.injEq, not_true_eq_false, not_false_eq_true, false_implies, true_implies, implies_true, and_self, or_true, true_or, or_false, false_or]
        refine ⟨fun h => absurd h (by omega), fun _ => ⟨fun h => ih (i + 1) _ _ (by omega) ?_, fun h => ih (i + 1) _ _ (by omega) ?_⟩⟩
        · rw [if_neg (Int32.not_lt.mpr h)] at hq
          exact hq
        · rw [if_pos (Int32.not_le.mp h)] at hq
          exact hq
    refine fq_enter [some (.ref X), none, none, none] (by decide +kernel) (Nat.le_of_ble_eq_true rfl) rfl (b_X11_loudest_0 _ _ _ _ _ _ _ _ ?_)
    simp (disch := omega) only [B_X11_loudest_0, B_X11_loudest_6, B_X11_loudest_48, B_X11_loudest_73, sp_X11_refuse, B_X11_refuse_0, sp_X11_answer, B_X11_answer_0, x1, x2, nI_1, nI_add, nI_clamp, nI_pin, nI_neg, nI_nonneg, nI_leE, nI_ltE, nI_eqE, Nat.not_le, Nat.not_lt, fq_10, fq_01, fq_rr, ix_aald, ix_aast, ix_abs, ix_alen, ix_aload, ix_aret, ix_astore, ix_bald, ix_bast, ix_call, ix_cpyI, ix_cpyJ, ix_dead, ix_dup2, ix_dup2L, ix_dupI, ix_dupR, ix_dupx1, ix_getI, ix_getJ, ix_getR, ix_gfm, ix_gtab, ix_i2b, ix_i2c, ix_i2l, ix_i2s, ix_iadd, ix_iald, ix_iand, ix_iast, ix_icall, ix_icmp_eq, ix_icmp_ge, ix_icmp_gt, ix_icmp_le, ix_icmp_lt, ix_icmp_ne, ix_idiv, ix_if_eq, ix_if_ge, ix_if_gt, ix_if_le, ix_if_lt, ix_if_ne, ix_iinc, ix_iload, ix_imul, ix_ineg, ix_ior, ix_irem, ix_iret, ix_ishl, ix_ishr, ix_istore, ix_isub, ix_iushr, ix_ixor, ix_l2i, ix_ladd, ix_lald, ix_land, ix_last, ix_lcmp, ix_ldcS, ix_ldiv, ix_lload, ix_lmul, ix_lor, ix_lrem, ix_lret, ix_lshl, ix_lstore, ix_lsub, ix_lsw, ix_max, ix_min, ix_new, ix_newa, ix_nret, ix_oinit, ix_pop2L, ix_popI, ix_pushI, ix_pushL, ix_putI, ix_putJ, ix_putR, ix_putZ, ix_sbald, ix_sgetC, ix_sgetV, ix_slen, ix_strc, ix_tald, ix_tsw, ix_vcall, ix_vret, ix_zret, stL, stL2, kilL, popN, fq_sw, fq_lsw, List.map_cons, List.map_nil, List.getElem?_cons_zero, List.getElem?_cons_succ, Option.toList_some, Option.toList_none, List.cons_append, List.nil_append, List.length_cons, List.length_nil, List.sum_cons, List.sum_nil, cat_i, cat_l, cat_r, true_and, and_true, Nat.zero_add, Nat.add_zero, Nat.le_refl, Nat.zero_le, Nat.reduceAdd, Nat.reduceLeDiff, exists_eq_left', Option.some.injEq, not_true_eq_false, not_false_eq_true, false_implies, true_implies, implies_true, and_self, or_true, true_or, or_false, false_or]
    exact lp c 0 _ _ (by omega) hQ
  · exact h.elim
/-! fractions -/
theorem dX11_commonDivisor_0 : decode cX11_commonDivisor 0 = .ok (.lload_n 0, 1) := by decide +kernel
theorem dX11_commonDivisor_1 : decode cX11_commonDivisor 1 = .ok (.lstore 4, 2) := by decide +kernel
theorem dX11_commonDivisor_3 : decode cX11_commonDivisor 3 = .ok (.lload_n 2, 1) := by decide +kernel
theorem dX11_commonDivisor_4 : decode cX11_commonDivisor 4 = .ok (.lstore 6, 2) := by decide +kernel
theorem dX11_commonDivisor_6 : decode cX11_commonDivisor 6 = .ok (.iconst 0, 1) := by decide +kernel
theorem dX11_commonDivisor_7 : decode cX11_commonDivisor 7 = .ok (.istore 8, 2) := by decide +kernel
theorem dX11_commonDivisor_9 : decode cX11_commonDivisor 9 = .ok (.iload 8, 2) := by decide +kernel
theorem dX11_commonDivisor_11 : decode cX11_commonDivisor 11 = .ok (.bipush 100, 2) := by decide +kernel
theorem dX11_commonDivisor_13 : decode cX11_commonDivisor 13 = .ok (.if_icmp .ge 31, 3) := by decide +kernel
theorem dX11_commonDivisor_16 : decode cX11_commonDivisor 16 = .ok (.lload 4, 2) := by decide +kernel
theorem dX11_commonDivisor_18 : decode cX11_commonDivisor 18 = .ok (.lconst 0, 1) := by decide +kernel
theorem dX11_commonDivisor_19 : decode cX11_commonDivisor 19 = .ok (.lcmp, 1) := by decide +kernel
theorem dX11_commonDivisor_20 : decode cX11_commonDivisor 20 = .ok (.ifCond .eq 24, 3) := by decide +kernel
theorem dX11_commonDivisor_23 : decode cX11_commonDivisor 23 = .ok (.lload 6, 2) := by decide +kernel
theorem dX11_commonDivisor_25 : decode cX11_commonDivisor 25 = .ok (.lload 4, 2) := by decide +kernel
theorem dX11_commonDivisor_27 : decode cX11_commonDivisor 27 = .ok (.lrem, 1) := by decide +kernel
theorem dX11_commonDivisor_28 : decode cX11_commonDivisor 28 = .ok (.lstore 9, 2) := by decide +kernel
theorem dX11_commonDivisor_30 : decode cX11_commonDivisor 30 = .ok (.lload 4, 2) := by decide +kernel
theorem dX11_commonDivisor_32 : decode cX11_commonDivisor 32 = .ok (.lstore 6, 2) := by decide +kernel
theorem dX11_commonDivisor_34 : decode cX11_commonDivisor 34 = .ok (.lload 9, 2) := by decide +kernel
theorem dX11_commonDivisor_36 : decode cX11_commonDivisor 36 = .ok (.lstore 4, 2) := by decide +kernel
theorem dX11_commonDivisor_38 : decode cX11_commonDivisor 38 = .ok (.iinc 8 1, 3) := by decide +kernel
theorem dX11_commonDivisor_41 : decode cX11_commonDivisor 41 = .ok (.goto (-32), 3) := by decide +kernel
theorem dX11_commonDivisor_44 : decode cX11_commonDivisor 44 = .ok (.lload 6, 2) := by decide +kernel
theorem dX11_commonDivisor_46 : decode cX11_commonDivisor 46 = .ok (.lreturn, 1) := by decide +kernel
abbrev M_X11_commonDivisor : MT := (yX11_commonDivisor, cX11_commonDivisor, 11, (some .long))
theorem cf_X11_commonDivisor : fq_cf M_X11_commonDivisor 2 := ⟨(mg_1 (List.mem_of_getElem? (i := 1) rfl) rfl), (mg_6 (List.mem_of_getElem? (i := 39) rfl) rfl), ⟨by decide, by decide, by decide +kernel⟩, by decide⟩
def B_X11_commonDivisor_44 (l : Launch) (G : GT) (D mc ms : Nat) (Q : Post) : Cn := ix_lload 6 (ix_lret mc ms Q)
theorem b_X11_commonDivisor_44 {l : Launch} {G : GT} {D mc ms : Nat} {Q : Post} : Imp l G M_X11_commonDivisor (D + 0) mc ms Q (B_X11_commonDivisor_44 l G D mc ms Q) 44 := sx_lload dX11_commonDivisor_44 (sx_lret dX11_commonDivisor_46 rfl)
def B_X11_commonDivisor_9 (l : Launch) (G : GT) (D mc ms : Nat) (Q : Post) : Cn := ix_iload 8 (ix_pushI 100 (ix_icmp_ge ((B_X11_commonDivisor_44 l G D mc ms Q)) (ix_lload 4 (ix_pushL 0 (ix_lcmp (ix_if_eq ((B_X11_commonDivisor_44 l G D mc ms Q)) (ix_lload 6 (ix_lload 4 (ix_lrem (ix_lstore 9 (ix_lload 4 (ix_lstore 6 (ix_lload 9 (ix_lstore 4 (ix_iinc 8 1 (fqAt l G M_X11_commonDivisor (D + 0) mc ms Q 9))))))))))))))))
theorem b_X11_commonDivisor_9 {l : Launch} {G : GT} {D mc ms : Nat} {Q : Post} : Imp l G M_X11_commonDivisor (D + 0) mc ms Q (B_X11_commonDivisor_9 l G D mc ms Q) 9 := sx_iload dX11_commonDivisor_9 (sx_bipush dX11_commonDivisor_11 rfl (sx_icmp_ge 44 dX11_commonDivisor_13 (by decide) (b_X11_commonDivisor_44) (sx_lload dX11_commonDivisor_16 (sx_lconst dX11_commonDivisor_18 rfl (sx_lcmp dX11_commonDivisor_19 (sx_if_eq 44 dX11_commonDivisor_20 (by decide) (b_X11_commonDivisor_44) (sx_lload dX11_commonDivisor_23 (sx_lload dX11_commonDivisor_25 (sx_lrem dX11_commonDivisor_27 (sx_lstore dX11_commonDivisor_28 (by decide) (sx_lload dX11_commonDivisor_30 (sx_lstore dX11_commonDivisor_32 (by decide) (sx_lload dX11_commonDivisor_34 (sx_lstore dX11_commonDivisor_36 (by decide) (sx_iinc dX11_commonDivisor_38 rfl (by decide) (sx_goto 9 dX11_commonDivisor_41 (by decide) ((fun _ _ _ _ _ _ _ _ h => h))))))))))))))))))
def B_X11_commonDivisor_0 (l : Launch) (G : GT) (D mc ms : Nat) (Q : Post) : Cn := ix_lload 0 (ix_lstore 4 (ix_lload 2 (ix_lstore 6 (ix_pushI 0 (ix_istore 8 (fqAt l G M_X11_commonDivisor (D + 0) mc ms Q 9))))))
theorem b_X11_commonDivisor_0 {l : Launch} {G : GT} {D mc ms : Nat} {Q : Post} : Imp l G M_X11_commonDivisor (D + 0) mc ms Q (B_X11_commonDivisor_0 l G D mc ms Q) 0 := sx_lload_n dX11_commonDivisor_0 rfl (sx_lstore dX11_commonDivisor_1 (by decide) (sx_lload_n dX11_commonDivisor_3 rfl (sx_lstore dX11_commonDivisor_4 (by decide) (sx_iconst dX11_commonDivisor_6 rfl (sx_istore dX11_commonDivisor_7 (by decide) ((fun _ _ _ _ _ _ _ _ h => h)))))))
theorem dX11_power_0 : decode cX11_power 0 = .ok (.lconst 1, 1) := by decide +kernel
theorem dX11_power_1 : decode cX11_power 1 = .ok (.lstore_n 2, 1) := by decide +kernel
theorem dX11_power_2 : decode cX11_power 2 = .ok (.iconst 0, 1) := by decide +kernel
theorem dX11_power_3 : decode cX11_power 3 = .ok (.istore 4, 2) := by decide +kernel
theorem dX11_power_5 : decode cX11_power 5 = .ok (.iload 4, 2) := by decide +kernel
theorem dX11_power_7 : decode cX11_power 7 = .ok (.iload_n 1, 1) := by decide +kernel
theorem dX11_power_8 : decode cX11_power 8 = .ok (.if_icmp .ge 14, 3) := by decide +kernel
theorem dX11_power_11 : decode cX11_power 11 = .ok (.lload_n 2, 1) := by decide +kernel
theorem dX11_power_12 : decode cX11_power 12 = .ok (.iload_n 0, 1) := by decide +kernel
theorem dX11_power_13 : decode cX11_power 13 = .ok (.i2l, 1) := by decide +kernel
theorem dX11_power_14 : decode cX11_power 14 = .ok (.lmul, 1) := by decide +kernel
theorem dX11_power_15 : decode cX11_power 15 = .ok (.lstore_n 2, 1) := by decide +kernel
theorem dX11_power_16 : decode cX11_power 16 = .ok (.iinc 4 1, 3) := by decide +kernel
theorem dX11_power_19 : decode cX11_power 19 = .ok (.goto (-14), 3) := by decide +kernel
theorem dX11_power_22 : decode cX11_power 22 = .ok (.lload_n 2, 1) := by decide +kernel
theorem dX11_power_23 : decode cX11_power 23 = .ok (.lreturn, 1) := by decide +kernel
abbrev M_X11_power : MT := (yX11_power, cX11_power, 5, (some .long))
theorem cf_X11_power : fq_cf M_X11_power 2 := ⟨(mg_1 (List.mem_of_getElem? (i := 1) rfl) rfl), (mg_6 (List.mem_of_getElem? (i := 89) rfl) rfl), ⟨by decide, by decide, by decide +kernel⟩, by decide⟩
def B_X11_power_5 (l : Launch) (G : GT) (D mc ms : Nat) (Q : Post) : Cn := ix_iload 4 (ix_iload 1 (ix_icmp_ge (ix_lload 2 (ix_lret mc ms Q)) (ix_lload 2 (ix_iload 0 (ix_i2l (ix_lmul (ix_lstore 2 (ix_iinc 4 1 (fqAt l G M_X11_power (D + 0) mc ms Q 5)))))))))
theorem b_X11_power_5 {l : Launch} {G : GT} {D mc ms : Nat} {Q : Post} : Imp l G M_X11_power (D + 0) mc ms Q (B_X11_power_5 l G D mc ms Q) 5 := sx_iload dX11_power_5 (sx_iload_n dX11_power_7 rfl (sx_icmp_ge 22 dX11_power_8 (by decide) (sx_lload_n dX11_power_22 rfl (sx_lret dX11_power_23 rfl)) (sx_lload_n dX11_power_11 rfl (sx_iload_n dX11_power_12 rfl (sx_i2l dX11_power_13 (sx_lmul dX11_power_14 (sx_lstore_n dX11_power_15 rfl (by decide) (sx_iinc dX11_power_16 rfl (by decide) (sx_goto 5 dX11_power_19 (by decide) ((fun _ _ _ _ _ _ _ _ h => h)))))))))))
def B_X11_power_0 (l : Launch) (G : GT) (D mc ms : Nat) (Q : Post) : Cn := ix_pushL 1 (ix_lstore 2 (ix_pushI 0 (ix_istore 4 (fqAt l G M_X11_power (D + 0) mc ms Q 5))))
theorem b_X11_power_0 {l : Launch} {G : GT} {D mc ms : Nat} {Q : Post} : Imp l G M_X11_power (D + 0) mc ms Q (B_X11_power_0 l G D mc ms Q) 0 := sx_lconst dX11_power_0 rfl (sx_lstore_n dX11_power_1 rfl (by decide) (sx_iconst dX11_power_2 rfl (sx_istore dX11_power_3 (by decide) ((fun _ _ _ _ _ _ _ _ h => h)))))
/-- the greatest common divisor's way -/
def cdv : Nat → Int64 → Int64 → Int64
  | 0, _, d => d
  | n + 1, r, d => if r = 0 then d else cdv n (d - d / r * r) r
theorem cdv_lN : ∀ (n k r d : Nat), 2 * k ≤ n → r < 2 ^ k → d < 2 ^ 62 → k ≤ 60 → r ≤ d → cdv n (lN r) (lN d) = lN (Nat.gcd r d)
  | n, 0, r, d, _, hr, _, _, _ => by
    obtain rfl : r = 0 := by simpa using hr
    rw [Nat.gcd_zero_left]
    cases n with
    | zero => rfl
    | succ n => unfold cdv; rw [if_pos (show lN 0 = 0 from rfl)]
  | n, k + 1, r, d, hn, hr, hd, hk, hrd => by
    obtain ⟨n, rfl⟩ : ∃ m, n = m + 2 := ⟨n - 2, by omega⟩
    have hp : 2 ^ (k + 1) ≤ 2 ^ 60 := Nat.pow_le_pow_right (by decide) hk
    by_cases h0 : r = 0
    · subst h0
      rw [Nat.gcd_zero_left]
      unfold cdv
      rw [if_pos (show lN 0 = 0 from rfl)]
    · have hr0 : 0 < r := by omega
      have e1 : ¬ lN r = 0 := fun q => h0 ((pk_lEQ (a := r) (b := 0) (by omega) (by decide)).mp q)
      unfold cdv
      rw [if_neg e1, pk_lRem (by omega) hr0 (by omega)]
      rw [Nat.gcd_rec r d]
      have hlt : d % r < r := Nat.mod_lt _ hr0
      by_cases h1 : d % r = 0
      · rw [h1, Nat.gcd_zero_left]
        unfold cdv
        rw [if_pos (show lN 0 = 0 from rfl)]
      · have e2 : ¬ lN (d % r) = 0 := fun q => h1 ((pk_lEQ (a := d % r) (b := 0) (by omega) (by decide)).mp q)
        unfold cdv
        rw [if_neg e2, pk_lRem (by omega) (by omega) (by omega), Nat.gcd_rec (d % r) r]
        refine cdv_lN n k _ _ (by omega) ?_ (by omega) (by omega) (Nat.le_of_lt (Nat.mod_lt _ (by omega)))
        have h2 : r % (d % r) + (d % r) ≤ r := by
          have hq : 1 ≤ r / (d % r) := Nat.div_pos (by omega) (by omega)
          have hm := Nat.div_add_mod r (d % r)
          have hmul : (d % r) * 1 ≤ (d % r) * (r / (d % r)) := Nat.mul_le_mul_left _ hq
          omega
        have h3 : r % (d % r) < d % r := Nat.mod_lt _ (by omega)
        have h4 : 2 ^ (k + 1) = 2 * 2 ^ k := by rw [Nat.pow_succ]; omega
        omega
theorem cdv_g {r d : Nat} (hr : r < 2 ^ 49) (hd : d < 2 ^ 49) : cdv 100 (lN r) (lN d) = lN (Nat.gcd r d) := by
  by_cases h : r ≤ d
  · exact cdv_lN 100 49 r d (by decide) hr (by omega) (by decide) h
  · have h0 : ¬ lN r = 0 := fun q => by
      have := (pk_lEQ (a := r) (b := 0) (by omega) (by decide)).mp q
      omega
    unfold cdv
    rw [if_neg h0, pk_lRem (by omega) (by omega) (by omega), Nat.mod_eq_of_lt (by omega), cdv_lN 99 49 d r (by decide) hd (by omega) (by decide) (by omega), Nat.gcd_comm]
def sp_X11_commonDivisor (G : GT) : Sp := fun as S I J z Q => match as with
  | [.long a, .long b] => Q (some (.long (cdv 100 a b))) S I J z
  | _ => False
set_option maxHeartbeats 4000000 in
set_option maxRecDepth 20000 in
theorem c_X11_commonDivisor {l : Launch} {G : GT} {D : Nat} : ∀ as S I J z Q, sp_X11_commonDivisor G as S I J z Q → fqCall l G M_X11_commonDivisor (D + 0) 0 0 as S I J z Q := by
  intro as S I J z Q h
  unfold sp_X11_commonDivisor at h
  split at h
  · next a b =>
    have lp : ∀ (n i : Nat) (r d : Int64) (o : Option Value), i + n = 100 → Q (some (.long (cdv n r d))) S I J z → fqAt l G M_X11_commonDivisor (D + 0) 0 0 Q 9 [some (.long a), none, some (.long b), none, some (.long r), none, some (.long d), none, some (.int (nI i)), o, none] [] S I J z 0 0 := by
      intro n
      induction n with
      | zero =>
        intro i r d o hi hq
        obtain rfl : i = 100 := by omega
        have h6 : (100 : Int32) ≤ nI 100 := by decide
        refine b_X11_commonDivisor_9 _ _ _ _ _ _ _ _ ?_
        simp (disch := omega) only [B_X11_commonDivisor_0, B_X11_commonDivisor_9, B_X11_commonDivisor_44, nI_1, nI_add, nI_clamp, nI_pin, nI_neg, nI_nonneg, nI_leE, nI_ltE, nI_eqE, Nat.not_le, Nat.not_lt, fq_10, fq_01, fq_rr, ix_aald, ix_aast, ix_abs, ix_alen, ix_aload, ix_aret, ix_astore, ix_bald, ix_bast, ix_call, ix_cpyI, ix_cpyJ, ix_dead, ix_dup2, ix_dup2L, ix_dupI, ix_dupR, ix_dupx1, ix_getI, ix_getJ, ix_getR, ix_gfm, ix_gtab, ix_i2b, ix_i2c, ix_i2l, ix_i2s, ix_iadd, ix_iald, ix_iand, ix_iast, ix_icall, ix_icmp_eq, ix_icmp_ge, ix_icmp_gt, ix_icmp_le, ix_icmp_lt, ix_icmp_ne, ix_idiv, ix_if_eq, ix_if_ge, ix_if_gt, ix_if_le, ix_if_lt, ix_if_ne, ix_iinc, ix_iload, ix_imul, ix_ineg, ix_ior, ix_irem, ix_iret, ix_ishl, ix_ishr, ix_istore, ix_isub, ix_iushr, ix_ixor, ix_l2i, ix_ladd, ix_lald, ix_land, ix_last, ix_lcmp, ix_ldcS, ix_ldiv, ix_lload, ix_lmul, ix_lor, ix_lrem, ix_lret, ix_lshl, ix_lstore, ix_lsub, ix_lsw, ix_max, ix_min, ix_new, ix_newa, ix_nret, ix_oinit, ix_pop2L, ix_popI, ix_pushI, ix_pushL, ix_putI, ix_putJ, ix_putR, ix_putZ, ix_sbald, ix_sgetC, ix_sgetV, ix_slen, ix_strc, ix_tald, ix_tsw, ix_vcall, ix_vret, ix_zret, stL, stL2, kilL, popN, fq_sw, fq_lsw, List.map_cons, List.map_nil, List.getElem?_cons_zero, List.getElem?_cons_succ, Option.toList_some, Option.toList_none, List.cons_append, List.nil_append, List.length_cons, List.length_nil, List.sum_cons, List.sum_nil, cat_i, cat_l, cat_r, true_and, and_true, Nat.zero_add, Nat.add_zero, Nat.le_refl, Nat.zero_le, Nat.reduceAdd, Nat.reduceLeDiff, exists_eq_left', Option.some.injEq, not_true_eq_false, not_false_eq_true, false_implies, true_implies, implies_true, and_self, or_true, true_or, or_false, false_or]
        exact ⟨fun _ => hq, fun h => absurd h6 h⟩
      | succ n ih =>
        intro i r d o hi hq
        refine b_X11_commonDivisor_9 _ _ _ _ _ _ _ _ ?_
        simp (disch := omega) only [B_X11_commonDivisor_0, B_X11_commonDivisor_9, B_X11_commonDivisor_44, lg_cmp_eq, nI_1, nI_add, nI_clamp, nI_pin, nI_neg, nI_nonneg, nI_leE, nI_ltE, nI_eqE, Nat.not_le, Nat.not_lt, fq_10, fq_01, fq_rr, ix_aald, ix_aast, ix_abs, ix_alen, ix_aload, ix_aret, ix_astore, ix_bald, ix_bast, ix_call, ix_cpyI, ix_cpyJ, ix_dead, ix_dup2, ix_dup2L, ix_dupI, ix_dupR, ix_dupx1, ix_getI, ix_getJ, ix_getR, ix_gfm, ix_gtab, ix_i2b, ix_i2c, ix_i2l, ix_i2s, ix_iadd, ix_iald, ix_iand, ix_iast, ix_icall, ix_icmp_eq, ix_icmp_ge, ix_icmp_gt, ix_icmp_le, ix_icmp_lt, ix_icmp_ne, ix_idiv, ix_if_eq, ix_if_ge, ix_if_gt, ix_if_le, ix_if_lt, ix_if_ne, ix_iinc, ix_iload, ix_imul, ix_ineg, ix_ior, ix_irem, ix_iret, ix_ishl, ix_ishr, ix_istore, ix_isub, ix_iushr, ix_ixor, ix_l2i, ix_ladd, ix_lald, ix_land, ix_last, ix_lcmp, ix_ldcS, ix_ldiv, ix_lload, ix_lmul, ix_lor, ix_lrem, ix_lret, ix_lshl, ix_lstore, ix_lsub, ix_lsw, ix_max, ix_min, ix_new, ix_newa, ix_nret, ix_oinit, ix_pop2L, ix_popI, ix_pushI, ix_pushL, ix_putI, ix_putJ, ix_putR, ix_putZ, ix_sbald, ix_sgetC, ix_sgetV, ix_slen, ix_strc, ix_tald, ix_tsw, ix_vcall, ix_vret, ix_zret, stL, stL2, kilL, popN, fq_sw, fq_lsw, List.map_cons, List.map_nil, List.getElem?_cons_zero, List.getElem?_cons_succ, Option.toList_some, Option.toList_none, List.cons_append, List.nil_append, List.length_cons, List.length_nil, List.sum_cons, List.sum_nil, cat_i, cat_l, cat_r, true_and, and_true, Nat.zero_add, Nat.add_zero, Nat.le_refl, Nat.zero_le, Nat.reduceAdd, Nat.reduceLeDiff, exists_eq_left', Option.some.injEq, not_true_eq_false, not_false_eq_true, false_implies, true_implies, implies_true, and_self, or_true, true_or, or_false, false_or]
        refine ⟨fun h => absurd h (nI_ge (a := i) (b := 100) (by omega) (by decide)), fun _ => ⟨fun h => ?_, fun h => ⟨h, ih (i + 1) _ _ _ (by omega) ?_⟩⟩⟩
        · unfold cdv at hq
          rw [if_pos h] at hq
          exact hq
        · unfold cdv at hq
          rw [if_neg h] at hq
          exact hq
    refine fq_enter [some (.long a), none, some (.long b), none, none, none, none, none, none, none, none] (by decide +kernel) (Nat.le_of_ble_eq_true rfl) rfl (b_X11_commonDivisor_0 _ _ _ _ _ _ _ _ ?_)
    simp (disch := omega) only [B_X11_commonDivisor_0, B_X11_commonDivisor_9, B_X11_commonDivisor_44, nI_1, nI_add, nI_clamp, nI_pin, nI_neg, nI_nonneg, nI_leE, nI_ltE, nI_eqE, Nat.not_le, Nat.not_lt, fq_10, fq_01, fq_rr, ix_aald, ix_aast, ix_abs, ix_alen, ix_aload, ix_aret, ix_astore, ix_bald, ix_bast, ix_call, ix_cpyI, ix_cpyJ, ix_dead, ix_dup2, ix_dup2L, ix_dupI, ix_dupR, ix_dupx1, ix_getI, ix_getJ, ix_getR, ix_gfm, ix_gtab, ix_i2b, ix_i2c, ix_i2l, ix_i2s, ix_iadd, ix_iald, ix_iand, ix_iast, ix_icall, ix_icmp_eq, ix_icmp_ge, ix_icmp_gt, ix_icmp_le, ix_icmp_lt, ix_icmp_ne, ix_idiv, ix_if_eq, ix_if_ge, ix_if_gt, ix_if_le, ix_if_lt, ix_if_ne, ix_iinc, ix_iload, ix_imul, ix_ineg, ix_ior, ix_irem, ix_iret, ix_ishl, ix_ishr, ix_istore, ix_isub, ix_iushr, ix_ixor, ix_l2i, ix_ladd, ix_lald, ix_land, ix_last, ix_lcmp, ix_ldcS, ix_ldiv, ix_lload, ix_lmul, ix_lor, ix_lrem, ix_lret, ix_lshl, ix_lstore, ix_lsub, ix_lsw, ix_max, ix_min, ix_new, ix_newa, ix_nret, ix_oinit, ix_pop2L, ix_popI, ix_pushI, ix_pushL, ix_putI, ix_putJ, ix_putR, ix_putZ, ix_sbald, ix_sgetC, ix_sgetV, ix_slen, ix_strc, ix_tald, ix_tsw, ix_vcall, ix_vret, ix_zret, stL, stL2, kilL, popN, fq_sw, fq_lsw, List.map_cons, List.map_nil, List.getElem?_cons_zero, List.getElem?_cons_succ, Option.toList_some, Option.toList_none, List.cons_append, List.nil_append, List.length_cons, List.length_nil, List.sum_cons, List.sum_nil, cat_i, cat_l, cat_r, true_and, and_true, Nat.zero_add, Nat.add_zero, Nat.le_refl, Nat.zero_le, Nat.reduceAdd, Nat.reduceLeDiff, exists_eq_left', Option.some.injEq, not_true_eq_false, not_false_eq_true, false_implies, true_implies, implies_true, and_self, or_true, true_or, or_false, false_or]
    exact lp 100 0 _ _ none (by omega) h
  · exact h.elim
/-- a power -/
def pwU (b : Int32) (n : Nat) : Int64 := foldU (fun _ a => a * b.toInt64) 0 n 1
def sp_X11_power (G : GT) : Sp := fun as S I J z Q => match as with
  | [.int b, .int n] => okN n 12 ∧ Q (some (.long (pwU b n.toNatClampNeg))) S I J z
  | _ => False
set_option maxHeartbeats 4000000 in
set_option maxRecDepth 20000 in
theorem c_X11_power {l : Launch} {G : GT} {D : Nat} : ∀ as S I J z Q, sp_X11_power G as S I J z Q → fqCall l G M_X11_power (D + 0) 0 0 as S I J z Q := by
  intro as S I J z Q h
  unfold sp_X11_power at h
  split at h
  · next b m =>
    obtain ⟨ho, hQ⟩ := h
    obtain ⟨c, hc, rfl, hc2⟩ := ho.ex
    rw [hc2] at hQ
    have lp : ∀ (n i : Nat) (a : Int64), i + n = c → Q (some (.long (foldU (fun _ a => a * b.toInt64) i n a))) S I J z → fqAt l G M_X11_power (D + 0) 0 0 Q 5 [some (.int b), some (.int (nI c)), some (.long a), none, some (.int (nI i))] [] S I J z 0 0 := by
      intro n
      induction n with
      | zero =>
        intro i a hi hq
        refine b_X11_power_5 _ _ _ _ _ _ _ _ ?_
        simp (disch := omega) only [B_X11_power_0, B_X11_power_5, nI_1, nI_add, nI_clamp, nI_pin, nI_neg, nI_nonneg, nI_leE, nI_ltE, nI_eqE, Nat.not_le, Nat.not_lt, fq_10, fq_01, fq_rr, ix_aald, ix_aast, ix_abs, ix_alen, ix_aload, ix_aret, ix_astore, ix_bald, ix_bast, ix_call, ix_cpyI, ix_cpyJ, ix_dead, ix_dup2, ix_dup2L, ix_dupI, ix_dupR, ix_dupx1, ix_getI, ix_getJ, ix_getR, ix_gfm, ix_gtab, ix_i2b, ix_i2c, ix_i2l, ix_i2s, ix_iadd, ix_iald, ix_iand, ix_iast, ix_icall, ix_icmp_eq, ix_icmp_ge, ix_icmp_gt, ix_icmp_le, ix_icmp_lt, ix_icmp_ne, ix_idiv, ix_if_eq, ix_if_ge, ix_if_gt, ix_if_le, ix_if_lt, ix_if_ne, ix_iinc, ix_iload, ix_imul, ix_ineg, ix_ior, ix_irem, ix_iret, ix_ishl, ix_ishr, ix_istore, ix_isub, ix_iushr, ix_ixor, ix_l2i, ix_ladd, ix_lald, ix_land, ix_last, ix_lcmp, ix_ldcS, ix_ldiv, ix_lload, ix_lmul, ix_lor, ix_lrem, ix_lret, ix_lshl, ix_lstore, ix_lsub, ix_lsw, ix_max, ix_min, ix_new, ix_newa, ix_nret, ix_oinit, ix_pop2L, ix_popI, ix_pushI, ix_pushL, ix_putI, ix_putJ, ix_putR, ix_putZ, ix_sbald, ix_sgetC, ix_sgetV, ix_slen, ix_strc, ix_tald, ix_tsw, ix_vcall, ix_vret, ix_zret, stL, stL2, kilL, popN, fq_sw, fq_lsw, List.map_cons, List.map_nil, List.getElem?_cons_zero, List.getElem?_cons_succ, Option.toList_some, Option.toList_none, List.cons_append, List.nil_append, List.length_cons, List.length_nil, List.sum_cons, List.sum_nil, cat_i, cat_l, cat_r, true_and, and_true, Nat.zero_add, Nat.add_zero, Nat.le_refl, Nat.zero_le, Nat.reduceAdd, Nat.reduceLeDiff, exists_eq_left', Option.some.injEq, not_true_eq_false, not_false_eq_true, false_implies, true_implies, implies_true, and_self, or_true, true_or, or_false, false_or]
        exact ⟨fun _ => hq, fun h => absurd h (by omega)⟩
      | succ n ih =>
        intro i a hi hq
        refine b_X11_power_5 _ _ _ _ _ _ _ _ ?_
        simp (disch := omega) only [B_X11_power_0, B_X11_power_5, nI_1, nI_add, nI_clamp, nI_pin, nI_neg, nI_nonneg, nI_leE, nI_ltE, nI_eqE, Nat.not_le, Nat.not_lt, fq_10, fq_01, fq_rr, ix_aald, ix_aast, ix_abs, ix_alen, ix_aload, ix_aret, ix_astore, ix_bald, ix_bast, ix_call, ix_cpyI, ix_cpyJ, ix_dead, ix_dup2, ix_dup2L, ix_dupI, ix_dupR, ix_dupx1, ix_getI, ix_getJ, ix_getR, ix_gfm, ix_gtab, ix_i2b, ix_i2c, ix_i2l, ix_i2s, ix_iadd, ix_iald, ix_iand, ix_iast, ix_icall, ix_icmp_eq, ix_icmp_ge, ix_icmp_gt, ix_icmp_le, ix_icmp_lt, ix_icmp_ne, ix_idiv, ix_if_eq, ix_if_ge, ix_if_gt, ix_if_le, ix_if_lt, ix_if_ne, ix_iinc, ix_iload, ix_imul, ix_ineg, ix_ior, ix_irem, ix_iret, ix_ishl, ix_ishr, ix_istore, ix_isub, ix_iushr, ix_ixor, ix_l2i, ix_ladd, ix_lald, ix_land, ix_last, ix_lcmp, ix_ldcS, ix_ldiv, ix_lload, ix_lmul, ix_lor, ix_lrem, ix_lret, ix_lshl, ix_lstore, ix_lsub, ix_lsw, ix_max, ix_min, ix_new, ix_newa, ix_nret, ix_oinit, ix_pop2L, ix_popI, ix_pushI, ix_pushL, ix_putI, ix_putJ, ix_putR, ix_putZ, ix_sbald, ix_sgetC, ix_sgetV, ix_slen, ix_strc, ix_tald, ix_tsw, ix_vcall, ix_vret, ix_zret, stL, stL2, kilL, popN, fq_sw, fq_lsw, List.map_cons, List.map_nil, List.getElem?_cons_zero, List.getElem?_cons_succ, Option.toList_some, Option.toList_none, List.cons_append, List.nil_append, List.length_cons, List.length_nil, List.sum_cons, List.sum_nil, cat_i, cat_l, cat_r, true_and, and_true, Nat.zero_add, Nat.add_zero, Nat.le_refl, Nat.zero_le, Nat.reduceAdd, Nat.reduceLeDiff, exists_eq_left', Option.some.injEq, not_true_eq_false, not_false_eq_true, false_implies, true_implies, implies_true, and_self, or_true, true_or, or_false, false_or]
        exact ⟨fun h => absurd h (by omega), fun _ => ih (i + 1) _ (by omega) hq⟩
    refine fq_enter [some (.int b), some (.int (nI c)), none, none, none] (by decide +kernel) (Nat.le_of_ble_eq_true rfl) rfl (b_X11_power_0 _ _ _ _ _ _ _ _ ?_)
    simp (disch := omega) only [B_X11_power_0, B_X11_power_5, nI_1, nI_add, nI_clamp, nI_pin, nI_neg, nI_nonneg, nI_leE, nI_ltE, nI_eqE, Nat.not_le, Nat.not_lt, fq_10, fq_01, fq_rr, ix_aald, ix_aast, ix_abs, ix_alen, ix_aload, ix_aret, ix_astore, ix_bald, ix_bast, ix_call, ix_cpyI, ix_cpyJ, ix_dead, ix_dup2, ix_dup2L, ix_dupI, ix_dupR, ix_dupx1, ix_getI, ix_getJ, ix_getR, ix_gfm, ix_gtab, ix_i2b, ix_i2c, ix_i2l, ix_i2s, ix_iadd, ix_iald, ix_iand, ix_iast, ix_icall, ix_icmp_eq, ix_icmp_ge, ix_icmp_gt, ix_icmp_le, ix_icmp_lt, ix_icmp_ne, ix_idiv, ix_if_eq, ix_if_ge, ix_if_gt, ix_if_le, ix_if_lt, ix_if_ne, ix_iinc, ix_iload, ix_imul, ix_ineg, ix_ior, ix_irem, ix_iret, ix_ishl, ix_ishr, ix_istore, ix_isub, ix_iushr, ix_ixor, ix_l2i, ix_ladd, ix_lald, ix_land, ix_last, ix_lcmp, ix_ldcS, ix_ldiv, ix_lload, ix_lmul, ix_lor, ix_lrem, ix_lret, ix_lshl, ix_lstore, ix_lsub, ix_lsw, ix_max, ix_min, ix_new, ix_newa, ix_nret, ix_oinit, ix_pop2L, ix_popI, ix_pushI, ix_pushL, ix_putI, ix_putJ, ix_putR, ix_putZ, ix_sbald, ix_sgetC, ix_sgetV, ix_slen, ix_strc, ix_tald, ix_tsw, ix_vcall, ix_vret, ix_zret, stL, stL2, kilL, popN, fq_sw, fq_lsw, List.map_cons, List.map_nil, List.getElem?_cons_zero, List.getElem?_cons_succ, Option.toList_some, Option.toList_none, List.cons_append, List.nil_append, List.length_cons, List.length_nil, List.sum_cons, List.sum_nil, cat_i, cat_l, cat_r, true_and, and_true, Nat.zero_add, Nat.add_zero, Nat.le_refl, Nat.zero_le, Nat.reduceAdd, Nat.reduceLeDiff, exists_eq_left', Option.some.injEq, not_true_eq_false, not_false_eq_true, false_implies, true_implies, implies_true, and_self, or_true, true_or, or_false, false_or]
    exact lp c 0 _ (by omega) hQ
  · exact h.elim
theorem dX11_tellFraction_0 : decode cX11_tellFraction 0 = .ok (.lload_n 1, 1) := by decide +kernel
theorem dX11_tellFraction_1 : decode cX11_tellFraction 1 = .ok (.lload_n 3, 1) := by decide +kernel
theorem dX11_tellFraction_2 : decode cX11_tellFraction 2 = .ok (.invokestatic 460, 3) := by decide +kernel
theorem dX11_tellFraction_5 : decode cX11_tellFraction 5 = .ok (.lstore 5, 2) := by decide +kernel
theorem dX11_tellFraction_7 : decode cX11_tellFraction 7 = .ok (.aload_n 0, 1) := by decide +kernel
theorem dX11_tellFraction_8 : decode cX11_tellFraction 8 = .ok (.lload_n 1, 1) := by decide +kernel
theorem dX11_tellFraction_9 : decode cX11_tellFraction 9 = .ok (.lload 5, 2) := by decide +kernel
theorem dX11_tellFraction_11 : decode cX11_tellFraction 11 = .ok (.ldiv, 1) := by decide +kernel
theorem dX11_tellFraction_12 : decode cX11_tellFraction 12 = .ok (.putfield 67, 3) := by decide +kernel
theorem dX11_tellFraction_15 : decode cX11_tellFraction 15 = .ok (.aload_n 0, 1) := by decide +kernel
theorem dX11_tellFraction_16 : decode cX11_tellFraction 16 = .ok (.lload_n 3, 1) := by decide +kernel
theorem dX11_tellFraction_17 : decode cX11_tellFraction 17 = .ok (.lload 5, 2) := by decide +kernel
theorem dX11_tellFraction_19 : decode cX11_tellFraction 19 = .ok (.ldiv, 1) := by decide +kernel
theorem dX11_tellFraction_20 : decode cX11_tellFraction 20 = .ok (.putfield 60, 3) := by decide +kernel
theorem dX11_tellFraction_23 : decode cX11_tellFraction 23 = .ok (.return_, 1) := by decide +kernel
abbrev M_X11_tellFraction : MT := (yX11_tellFraction, cX11_tellFraction, 7, none)
theorem cf_X11_tellFraction : fq_cf M_X11_tellFraction 2 := ⟨(mg_1 (List.mem_of_getElem? (i := 1) rfl) rfl), (mg_6 (List.mem_of_getElem? (i := 36) rfl) rfl), ⟨by decide, by decide, by decide +kernel⟩, by decide⟩
def B_X11_tellFraction_0 (G : GT) (mc ms : Nat) (Q : Post) : Cn := ix_lload 1 (ix_lload 3 (ix_call 2 0 0 mc ms (sp_X11_commonDivisor G) (ix_lstore 5 (ix_aload 0 (ix_lload 1 (ix_lload 5 (ix_ldiv (ix_putJ 11 13 (ix_aload 0 (ix_lload 3 (ix_lload 5 (ix_ldiv (ix_putJ 11 14 (ix_vret mc ms Q))))))))))))))
theorem b_X11_tellFraction_0 {l : Launch} {G : GT} {D mc ms : Nat} {Q : Post} : Imp l G M_X11_tellFraction (D + 1) mc ms Q (B_X11_tellFraction_0 G mc ms Q) 0 := sx_lload_n dX11_tellFraction_0 rfl (sx_lload_n dX11_tellFraction_1 rfl (sx_scall dX11_tellFraction_2 cf_X11_commonDivisor (mg_6 (List.mem_of_getElem? (i := 37) rfl) rfl) (mg_6 (List.mem_of_getElem? (i := 38) rfl) rfl) c_X11_commonDivisor (sx_lstore dX11_tellFraction_5 (by decide) (sx_aload_n dX11_tellFraction_7 rfl (sx_lload_n dX11_tellFraction_8 rfl (sx_lload dX11_tellFraction_9 (sx_ldiv dX11_tellFraction_11 (sx_putJ dX11_tellFraction_12 fl_FootQuarrel_67 (by decide) (fun _ _ _ => rfl) (fun _ => ⟨rfl, rfl⟩) (sx_aload_n dX11_tellFraction_15 rfl (sx_lload_n dX11_tellFraction_16 rfl (sx_lload dX11_tellFraction_17 (sx_ldiv dX11_tellFraction_19 (sx_putJ dX11_tellFraction_20 fl_FootQuarrel_60 (by decide) (fun _ _ _ => rfl) (fun _ => ⟨rfl, rfl⟩) (sx_vret dX11_tellFraction_23 rfl))))))))))))))
def sp_X11_tellFraction (G : GT) : Sp := fun as S I J z Q => match as with
  | [.ref X, .long a, .long b] => S.1 X = 11 ∧ ¬ cdv 100 a b = 0 ∧ Q none S I (u2 (u2 J X 13 (a / cdv 100 a b)) X 14 (b / cdv 100 a b)) z
  | _ => False
set_option maxHeartbeats 4000000 in
set_option maxRecDepth 20000 in
theorem c_X11_tellFraction {l : Launch} {G : GT} {D : Nat} : ∀ as S I J z Q, sp_X11_tellFraction G as S I J z Q → fqCall l G M_X11_tellFraction (D + 1) 0 0 as S I J z Q := by
  intro as S I J z Q h
  unfold sp_X11_tellFraction at h
  split at h
  · next X a b =>
    obtain ⟨h1, h2, hQ⟩ := h
    refine fq_enter [some (.ref X), some (.long a), none, some (.long b), none, none, none] (by decide +kernel) (Nat.le_of_ble_eq_true rfl) rfl (b_X11_tellFraction_0 _ _ _ _ _ _ _ _ ?_)
    simp (disch := omega) only [B_X11_tellFraction_0, sp_X11_commonDivisor, h1, h2, nI_1, nI_add, nI_clamp, nI_pin, nI_neg, nI_nonneg, nI_leE, nI_ltE, nI_eqE, Nat.not_le, Nat.not_lt, fq_10, fq_01, fq_rr, ix_aald, ix_aast, ix_abs, ix_alen, ix_aload, ix_aret, ix_astore, ix_bald, ix_bast, ix_call, ix_cpyI, ix_cpyJ, ix_dead, ix_dup2, ix_dup2L, ix_dupI, ix_dupR, ix_dupx1, ix_getI, ix_getJ, ix_getR, ix_gfm, ix_gtab, ix_i2b, ix_i2c, ix_i2l, ix_i2s, ix_iadd, ix_iald, ix_iand, ix_iast, ix_icall, ix_icmp_eq, ix_icmp_ge, ix_icmp_gt, ix_icmp_le, ix_icmp_lt, ix_icmp_ne, ix_idiv, ix_if_eq, ix_if_ge, ix_if_gt, ix_if_le, ix_if_lt, ix_if_ne, ix_iinc, ix_iload, ix_imul, ix_ineg, ix_ior, ix_irem, ix_iret, ix_ishl, ix_ishr, ix_istore, ix_isub, ix_iushr, ix_ixor, ix_l2i, ix_ladd, ix_lald, ix_land, ix_last, ix_lcmp, ix_ldcS, ix_ldiv, ix_lload, ix_lmul, ix_lor, ix_lrem, ix_lret, ix_lshl, ix_lstore, ix_lsub, ix_lsw, ix_max, ix_min, ix_new, ix_newa, ix_nret, ix_oinit, ix_pop2L, ix_popI, ix_pushI, ix_pushL, ix_putI, ix_putJ, ix_putR, ix_putZ, ix_sbald, ix_sgetC, ix_sgetV, ix_slen, ix_strc, ix_tald, ix_tsw, ix_vcall, ix_vret, ix_zret, stL, stL2, kilL, popN, fq_sw, fq_lsw, List.map_cons, List.map_nil, List.getElem?_cons_zero, List.getElem?_cons_succ, Option.toList_some, Option.toList_none, List.cons_append, List.nil_append, List.length_cons, List.length_nil, List.sum_cons, List.sum_nil, cat_i, cat_l, cat_r, true_and, and_true, Nat.zero_add, Nat.add_zero, Nat.le_refl, Nat.zero_le, Nat.reduceAdd, Nat.reduceLeDiff, exists_eq_left', Option.some.injEq, not_true_eq_false, not_false_eq_true, false_implies, true_implies, implies_true, and_self, or_true, true_or, or_false, false_or]
    exact hQ
  · exact h.elim
theorem dX11_share_0 : decode cX11_share 0 = .ok (.aload_n 0, 1) := by decide +kernel
theorem dX11_share_1 : decode cX11_share 1 = .ok (.iload_n 1, 1) := by decide +kernel
theorem dX11_share_2 : decode cX11_share 2 = .ok (.invokevirtual 206, 3) := by decide +kernel
theorem dX11_share_5 : decode cX11_share 5 = .ok (.ifCond .ne 9, 3) := by decide +kernel
theorem dX11_share_8 : decode cX11_share 8 = .ok (.aload_n 0, 1) := by decide +kernel
theorem dX11_share_9 : decode cX11_share 9 = .ok (.iconst 1, 1) := by decide +kernel
theorem dX11_share_10 : decode cX11_share 10 = .ok (.invokevirtual 78, 3) := by decide +kernel
theorem dX11_share_13 : decode cX11_share 13 = .ok (.ireturn, 1) := by decide +kernel
theorem dX11_share_14 : decode cX11_share 14 = .ok (.iconst 0, 1) := by decide +kernel
theorem dX11_share_15 : decode cX11_share 15 = .ok (.istore_n 2, 1) := by decide +kernel
theorem dX11_share_16 : decode cX11_share 16 = .ok (.iconst 0, 1) := by decide +kernel
theorem dX11_share_17 : decode cX11_share 17 = .ok (.istore_n 3, 1) := by decide +kernel
theorem dX11_share_18 : decode cX11_share 18 = .ok (.iload_n 3, 1) := by decide +kernel
theorem dX11_share_19 : decode cX11_share 19 = .ok (.aload_n 0, 1) := by decide +kernel
theorem dX11_share_20 : decode cX11_share 20 = .ok (.getfield 46, 3) := by decide +kernel
theorem dX11_share_23 : decode cX11_share 23 = .ok (.getfield 164, 3) := by decide +kernel
theorem dX11_share_26 : decode cX11_share 26 = .ok (.if_icmp .ge 24, 3) := by decide +kernel
theorem dX11_share_29 : decode cX11_share 29 = .ok (.iload_n 2, 1) := by decide +kernel
theorem dX11_share_30 : decode cX11_share 30 = .ok (.aload_n 0, 1) := by decide +kernel
theorem dX11_share_31 : decode cX11_share 31 = .ok (.getfield 46, 3) := by decide +kernel
theorem dX11_share_34 : decode cX11_share 34 = .ok (.getfield 209, 3) := by decide +kernel
theorem dX11_share_37 : decode cX11_share 37 = .ok (.iload_n 3, 1) := by decide +kernel
theorem dX11_share_38 : decode cX11_share 38 = .ok (.aaload, 1) := by decide +kernel
theorem dX11_share_39 : decode cX11_share 39 = .ok (.getfield 213, 3) := by decide +kernel
theorem dX11_share_42 : decode cX11_share 42 = .ok (.iadd, 1) := by decide +kernel
theorem dX11_share_43 : decode cX11_share 43 = .ok (.istore_n 2, 1) := by decide +kernel
theorem dX11_share_44 : decode cX11_share 44 = .ok (.iinc 3 1, 3) := by decide +kernel
theorem dX11_share_47 : decode cX11_share 47 = .ok (.goto (-29), 3) := by decide +kernel
theorem dX11_share_50 : decode cX11_share 50 = .ok (.iload_n 2, 1) := by decide +kernel
theorem dX11_share_51 : decode cX11_share 51 = .ok (.ifCond .ne 10, 3) := by decide +kernel
theorem dX11_share_54 : decode cX11_share 54 = .ok (.aload_n 0, 1) := by decide +kernel
theorem dX11_share_55 : decode cX11_share 55 = .ok (.bipush 6, 2) := by decide +kernel
theorem dX11_share_57 : decode cX11_share 57 = .ok (.invokevirtual 78, 3) := by decide +kernel
theorem dX11_share_60 : decode cX11_share 60 = .ok (.ireturn, 1) := by decide +kernel
theorem dX11_share_61 : decode cX11_share 61 = .ok (.aload_n 0, 1) := by decide +kernel
theorem dX11_share_62 : decode cX11_share 62 = .ok (.aload_n 0, 1) := by decide +kernel
theorem dX11_share_63 : decode cX11_share 63 = .ok (.getfield 46, 3) := by decide +kernel
theorem dX11_share_66 : decode cX11_share 66 = .ok (.getfield 209, 3) := by decide +kernel
theorem dX11_share_69 : decode cX11_share 69 = .ok (.iload_n 1, 1) := by decide +kernel
theorem dX11_share_70 : decode cX11_share 70 = .ok (.aaload, 1) := by decide +kernel
theorem dX11_share_71 : decode cX11_share 71 = .ok (.getfield 213, 3) := by decide +kernel
theorem dX11_share_74 : decode cX11_share 74 = .ok (.i2l, 1) := by decide +kernel
theorem dX11_share_75 : decode cX11_share 75 = .ok (.iload_n 2, 1) := by decide +kernel
theorem dX11_share_76 : decode cX11_share 76 = .ok (.i2l, 1) := by decide +kernel
theorem dX11_share_77 : decode cX11_share 77 = .ok (.invokevirtual 376, 3) := by decide +kernel
theorem dX11_share_80 : decode cX11_share 80 = .ok (.aload_n 0, 1) := by decide +kernel
theorem dX11_share_81 : decode cX11_share 81 = .ok (.invokevirtual 85, 3) := by decide +kernel
theorem dX11_share_84 : decode cX11_share 84 = .ok (.ireturn, 1) := by decide +kernel
abbrev M_X11_share : MT := (yX11_share, cX11_share, 4, (some .boolean))
theorem cf_X11_share : fq_cf M_X11_share 1 := ⟨(mg_1 (List.mem_of_getElem? (i := 1) rfl) rfl), (mg_6 (List.mem_of_getElem? (i := 32) rfl) rfl), ⟨by decide, by decide, by decide +kernel⟩, by decide⟩
def B_X11_share_18 (l : Launch) (G : GT) (D mc ms : Nat) (Q : Post) : Cn := ix_iload 3 (ix_aload 0 (ix_getR 11 6 (ix_getI 6 5 (ix_icmp_ge (ix_iload 2 (ix_if_ne (ix_aload 0 (ix_aload 0 (ix_getR 11 6 (ix_getR 6 0 (ix_iload 1 (ix_aald 16 (ix_getI 0 2 (ix_i2l (ix_iload 2 (ix_i2l (ix_vcall 11 3 0 0 mc ms (sp_X11_tellFraction G) (ix_aload 0 (ix_vcall 11 1 0 0 mc ms (sp_X11_grant G) (ix_zret mc ms Q)))))))))))))) (ix_aload 0 (ix_pushI 6 (ix_vcall 11 2 0 0 mc ms (sp_X11_deny G) (ix_zret mc ms Q)))))) (ix_iload 2 (ix_aload 0 (ix_getR 11 6 (ix_getR 6 0 (ix_iload 3 (ix_aald 16 (ix_getI 0 2 (ix_iadd (ix_istore 2 (ix_iinc 3 1 (fqAt l G M_X11_share (D + 2) mc ms Q 18)))))))))))))))
theorem b_X11_share_18 {l : Launch} {G : GT} {D mc ms : Nat} {Q : Post} : Imp l G M_X11_share (D + 2) mc ms Q (B_X11_share_18 l G D mc ms Q) 18 := sx_iload_n dX11_share_18 rfl (sx_aload_n dX11_share_19 rfl (sx_getR dX11_share_20 fl_FootQuarrel_46 (fun _ _ _ => rfl) (sx_getI dX11_share_23 fl_FootQuarrel_164 (fun _ _ _ => rfl) (sx_icmp_ge 50 dX11_share_26 (by decide) (sx_iload_n dX11_share_50 rfl (sx_if_ne 61 dX11_share_51 (by decide) (sx_aload_n dX11_share_61 rfl (sx_aload_n dX11_share_62 rfl (sx_getR dX11_share_63 fl_FootQuarrel_46 (fun _ _ _ => rfl) (sx_getR dX11_share_66 fl_FootQuarrel_209 (fun _ _ _ => rfl) (sx_iload_n dX11_share_69 rfl (sx_aald dX11_share_70 (by decide) (by decide) rfl (sx_getI dX11_share_71 fl_FootQuarrel_213 (fun _ _ _ => rfl) (sx_i2l dX11_share_74 (sx_iload_n dX11_share_75 rfl (sx_i2l dX11_share_76 (sx_vcall dX11_share_77 cf_X11_tellFraction (mg_6 (List.mem_of_getElem? (i := 33) rfl) rfl) (mg_6 (List.mem_of_getElem? (i := 35) rfl) rfl) (mg_p (List.mem_of_getElem? (i := 35) rfl) rfl) rfl c_X11_tellFraction (sx_aload_n dX11_share_80 rfl (sx_vcall dX11_share_81 cf_X11_grant (mg_3 (List.mem_of_getElem? (i := 96) rfl) rfl) (mg_3 (List.mem_of_getElem? (i := 98) rfl) rfl) (mg_p (List.mem_of_getElem? (i := 1) rfl) rfl) rfl c_X11_grant (sx_zret dX11_share_84 rfl)))))))))))))) (sx_aload_n dX11_share_54 rfl (sx_bipush dX11_share_55 rfl (sx_vcall dX11_share_57 cf_X11_deny (mg_3 (List.mem_of_getElem? (i := 88) rfl) rfl) (mg_3 (List.mem_of_getElem? (i := 90) rfl) rfl) (mg_p (List.mem_of_getElem? (i := 0) rfl) rfl) rfl c_X11_deny (sx_zret dX11_share_60 rfl)))))) (sx_iload_n dX11_share_29 rfl (sx_aload_n dX11_share_30 rfl (sx_getR dX11_share_31 fl_FootQuarrel_46 (fun _ _ _ => rfl) (sx_getR dX11_share_34 fl_FootQuarrel_209 (fun _ _ _ => rfl) (sx_iload_n dX11_share_37 rfl (sx_aald dX11_share_38 (by decide) (by decide) rfl (sx_getI dX11_share_39 fl_FootQuarrel_213 (fun _ _ _ => rfl) (sx_iadd dX11_share_42 (sx_istore_n dX11_share_43 rfl (by decide) (sx_iinc dX11_share_44 rfl (by decide) (sx_goto 18 dX11_share_47 (by decide) ((fun _ _ _ _ _ _ _ _ h => h)))))))))))))))))
def B_X11_share_0 (l : Launch) (G : GT) (D mc ms : Nat) (Q : Post) : Cn := ix_aload 0 (ix_iload 1 (ix_vcall 11 2 0 0 mc ms (sp_X11_isHouse G) (ix_if_ne (ix_pushI 0 (ix_istore 2 (ix_pushI 0 (ix_istore 3 (fqAt l G M_X11_share (D + 2) mc ms Q 18))))) (ix_aload 0 (ix_pushI 1 (ix_vcall 11 2 0 0 mc ms (sp_X11_deny G) (ix_zret mc ms Q)))))))
theorem b_X11_share_0 {l : Launch} {G : GT} {D mc ms : Nat} {Q : Post} : Imp l G M_X11_share (D + 2) mc ms Q (B_X11_share_0 l G D mc ms Q) 0 := sx_aload_n dX11_share_0 rfl (sx_iload_n dX11_share_1 rfl (sx_vcall dX11_share_2 cf_X11_isHouse (mg_4 (List.mem_of_getElem? (i := 178) rfl) rfl) (mg_4 (List.mem_of_getElem? (i := 180) rfl) rfl) (mg_p (List.mem_of_getElem? (i := 24) rfl) rfl) rfl c_X11_isHouse (sx_if_ne 14 dX11_share_5 (by decide) (sx_iconst dX11_share_14 rfl (sx_istore_n dX11_share_15 rfl (by decide) (sx_iconst dX11_share_16 rfl (sx_istore_n dX11_share_17 rfl (by decide) ((fun _ _ _ _ _ _ _ _ h => h)))))) (sx_aload_n dX11_share_8 rfl (sx_iconst dX11_share_9 rfl (sx_vcall dX11_share_10 cf_X11_deny (mg_3 (List.mem_of_getElem? (i := 88) rfl) rfl) (mg_3 (List.mem_of_getElem? (i := 90) rfl) rfl) (mg_p (List.mem_of_getElem? (i := 0) rfl) rfl) rfl c_X11_deny (sx_zret dX11_share_13 rfl)))))))
def smU (f : Nat → Int32) (n : Nat) : Int32 := foldU (fun i a => a + f i) 0 n 0
def sp_X11_share (G : GT) : Sp := fun as S I J z Q => match as with
  | [.ref X, .int h] => ∃ s, xsh S X s ∧ okN (I s 5) 6 ∧ (¬ (0 ≤ h ∧ h ≤ I s 5 - 1) → Q (some (.int 0)) S (u2 I X 10 1) J z) ∧ (∀ k, h = nI k → k < (I s 5).toNatClampNeg → (smU (fun i => I (s + 18 + i) 2) (I s 5).toNatClampNeg = 0 → Q (some (.int 0)) S (u2 I X 10 6) J z) ∧ (¬ smU (fun i => I (s + 18 + i) 2) (I s 5).toNatClampNeg = 0 → ¬ cdv 100 (I (s + 18 + k) 2).toInt64 (smU (fun i => I (s + 18 + i) 2) (I s 5).toNatClampNeg).toInt64 = 0 ∧ Q (some (.int 1)) S (u2 I X 10 0) (u2 (u2 J X 13 ((I (s + 18 + k) 2).toInt64 / cdv 100 (I (s + 18 + k) 2).toInt64 (smU (fun i => I (s + 18 + i) 2) (I s 5).toNatClampNeg).toInt64)) X 14 ((smU (fun i => I (s + 18 + i) 2) (I s 5).toNatClampNeg).toInt64 / cdv 100 (I (s + 18 + k) 2).toInt64 (smU (fun i => I (s + 18 + i) 2) (I s 5).toNatClampNeg).toInt64)) z))
  | _ => False
theorem in_pred {x : Int32} {c : Nat} (hc : c < 2 ^ 31) : (0 ≤ x ∧ x ≤ nI c - 1) ↔ ∃ k, x = nI k ∧ k < c := by
  constructor
  · rintro ⟨h1, h2⟩
    obtain ⟨k, hk, rfl⟩ := nI_of (Int32.not_lt.mpr h1)
    refine ⟨k, rfl, ?_⟩
    cases c with
    | zero =>
      exfalso
      have h3 := Int32.le_trans h1 h2
      exact absurd h3 (by decide)
    | succ c =>
      rw [nI_pred] at h2
      have := (nI_leI (a := k) (b := c) hk (by omega)).mp h2
      omega
  · rintro ⟨k, rfl, hk⟩
    refine ⟨nI_pos' (by omega), ?_⟩
    obtain ⟨c, rfl⟩ : ∃ d, c = d + 1 := ⟨c - 1, by omega⟩
    rw [nI_pred]
    exact nI_le (by omega) (by omega)
set_option maxHeartbeats 4000000 in
set_option maxRecDepth 20000 in
theorem c_X11_share {l : Launch} {G : GT} {D : Nat} : ∀ as S I J z Q, sp_X11_share G as S I J z Q → fqCall l G M_X11_share (D + 2) 0 0 as S I J z Q := by
  intro as S I J z Q h
  unfold sp_X11_share at h
  split at h
  · next X hn =>
    obtain ⟨s, ⟨x1, x2, hs⟩, ho, hQ1, hQ2⟩ := h
    obtain ⟨c, hc, hc1, hc2⟩ := ho.ex
    rw [hc2] at hQ2
    rw [hc1] at hQ1
    by_cases hin : 0 ≤ hn ∧ hn ≤ nI c - 1
    · obtain ⟨k, rfl, hk⟩ := (in_pred (by omega)).mp hin
      have hq := hQ2 k rfl hk
      have lp : ∀ (n i : Nat) (a : Int32), i + n = c → (foldU (fun i a => a + I (s + 18 + i) 2) i n a = smU (fun i => I (s + 18 + i) 2) c) → fqAt l G M_X11_share (D + 2) 0 0 Q 18 [some (.ref X), some (.int (nI k)), some (.int a), some (.int (nI i))] [] S I J z 0 0 := by
        intro n
        induction n with
        | zero =>
          intro i a hi he
          rw [foldU_0] at he
          refine b_X11_share_18 _ _ _ _ _ _ _ _ ?_
          simp (disch := omega) only [B_X11_share_0, B_X11_share_18, sp_X11_isHouse, B_X11_isHouse_0, sp_X11_isWithin, sp_X11_deny, B_X11_deny_0, sp_X11_tellFraction, sp_X11_grant, B_X11_grant_0, hs.k, hs.r0, hs.k1, hs.r1, hs.k2, hs.r2, hs.k3, hs.r3, hs.k4, hs.r4, hs.k12, hs.n1, hs.n2, hs.n3, hs.y0, hs.k5, hs.n5, hs.y1, hs.k6, hs.n6, hs.y2, hs.k7, hs.n7, hs.y3, hs.k8, hs.n8, hs.y4, hs.k9, hs.n9, hs.y5, hs.k10, hs.n10, hs.y6, hs.k11, hs.n11, hs.p0, hs.p1, hs.p2, hs.k13, hs.n13, hs.q0, hs.q1, hs.k14, hs.k15, hs.k16, hs.n16, hs.k17, hs.n17, hs.rH, hs.kH, hs.rP, hs.kP, hs.rQ, hs.kQ, x1, x2, hc1, he, nI_1, nI_add, nI_clamp, nI_pin, nI_neg, nI_nonneg, nI_leE, nI_ltE, nI_eqE, Nat.not_le, Nat.not_lt, fq_10, fq_01, fq_rr, ix_aald, ix_aast, ix_abs, ix_alen, ix_aload, ix_aret, ix_astore, ix_bald, ix_bast, ix_call, ix_cpyI, ix_cpyJ, ix_dead, ix_dup2, ix_dup2L, ix_dupI, ix_dupR, ix_dupx1, ix_getI, ix_getJ, ix_getR, ix_gfm, ix_gtab, ix_i2b, ix_i2c, ix_i2l, ix_i2s, ix_iadd, ix_iald, ix_iand, ix_iast, ix_icall, ix_icmp_eq, ix_icmp_ge, ix_icmp_gt, ix_icmp_le, ix_icmp_lt, ix_icmp_ne, ix_idiv, ix_if_eq, ix_if_ge, ix_if_gt, ix_if_le, ix_if_lt, ix_if_ne, ix_iinc, ix_iload, ix_imul, ix_ineg, ix_ior, ix_irem, ix_iret, ix_ishl, ix_ishr, ix_istore, ix_isub, ix_iushr, ix_ixor, ix_l2i, ix_ladd, ix_lald, ix_land, ix_last, ix_lcmp, ix_ldcS, ix_ldiv, ix_lload, ix_lmul, ix_lor, ix_lrem, ix_lret, ix_lshl, ix_lstore, ix_lsub, ix_lsw, ix_max, ix_min, ix_new, ix_newa, ix_nret, ix_oinit, ix_pop2L, ix_popI, ix_pushI, ix_pushL, ix_putI, ix_putJ, ix_putR, ix_putZ, ix_sbald, ix_sgetC, ix_sgetV, ix_slen, ix_strc, ix_tald, ix_tsw, ix_vcall, ix_vret, ix_zret, stL, stL2, kilL, popN, fq_sw, fq_lsw, List.map_cons, List.map_nil, List.getElem?_cons_zero, List.getElem?_cons_succ, Option.toList_some, Option.toList_none, List.cons_append, List.nil_append, List.length_cons, List.length_nil, List.sum_cons, List.sum_nil, cat_i, cat_l, cat_r, true_and, and_true, Nat.zero_add, Nat.add_zero, Nat.le_refl, Nat.zero_le, Nat.reduceAdd, Nat.reduceLeDiff, exists_eq_left', Option.some.injEq, not_true_eq_false, not_false_eq_true, false_implies, true_implies, implies_true, and_self, or_true, true_or, or_false, false_or]
          refine ⟨fun _ => ⟨fun h => (hq.2 h), fun h => hq.1 h⟩, fun h => absurd h (by omega)⟩
        | succ n ih =>
          intro i a hi he
          rw [foldU_1] at he
          refine b_X11_share_18 _ _ _ _ _ _ _ _ ?_
          simp (disch := omega) only [B_X11_share_0, B_X11_share_18, sp_X11_isHouse, B_X11_isHouse_0, sp_X11_isWithin, sp_X11_deny, B_X11_deny_0, sp_X11_tellFraction, sp_X11_grant, B_X11_grant_0, hs.k, hs.r0, hs.k1, hs.r1, hs.k2, hs.r2, hs.k3, hs.r3, hs.k4, hs.r4, hs.k12, hs.n1, hs.n2, hs.n3, hs.y0, hs.k5, hs.n5, hs.y1, hs.k6, hs.n6, hs.y2, hs.k7, hs.n7, hs.y3, hs.k8, hs.n8, hs.y4, hs.k9, hs.n9, hs.y5, hs.k10, hs.n10, hs.y6, hs.k11, hs.n11, hs.p0, hs.p1, hs.p2, hs.k13, hs.n13, hs.q0, hs.q1, hs.k14, hs.k15, hs.k16, hs.n16, hs.k17, hs.n17, hs.rH, hs.kH, hs.rP, hs.kP, hs.rQ, hs.kQ, x1, x2, hc1, nI_1, nI_add, nI_clamp, nI_pin, nI_neg, nI_nonneg, nI_leE, nI_ltE, nI_eqE, Nat.not_le, Nat.not_lt, fq_10, fq_01, fq_rr, ix_aald, ix_aast, ix_abs, ix_alen, ix_aload, ix_aret, ix_astore, ix_bald, ix_bast, ix_call, ix_cpyI, ix_cpyJ, ix_dead, ix_dup2, ix_dup2L, ix_dupI, ix_dupR, ix_dupx1, ix_getI, ix_getJ, ix_getR, ix_gfm, ix_gtab, ix_i2b, ix_i2c, ix_i2l, ix_i2s, ix_iadd, ix_iald, ix_iand, ix_iast, ix_icall, ix_icmp_eq, ix_icmp_ge, ix_icmp_gt, ix_icmp_le, ix_icmp_lt, ix_icmp_ne, ix_idiv, ix_if_eq, ix_if_ge, ix_if_gt, ix_if_le, ix_if_lt, ix_if_ne, ix_iinc, ix_iload, ix_imul, ix_ineg, ix_ior, ix_irem, ix_iret, ix_ishl, ix_ishr, ix_istore, ix_isub, ix_iushr, ix_ixor, ix_l2i, ix_ladd, ix_lald, ix_land, ix_last, ix_lcmp, ix_ldcS, ix_ldiv, ix_lload, ix_lmul, ix_lor, ix_lrem, ix_lret, ix_lshl, ix_lstore, ix_lsub, ix_lsw, ix_max, ix_min, ix_new, ix_newa, ix_nret, ix_oinit, ix_pop2L, ix_popI, ix_pushI, ix_pushL, ix_putI, ix_putJ, ix_putR, ix_putZ, ix_sbald, ix_sgetC, ix_sgetV, ix_slen, ix_strc, ix_tald, ix_tsw, ix_vcall, ix_vret, ix_zret, stL, stL2, kilL, popN, fq_sw, fq_lsw, List.map_cons, List.map_nil, List.getElem?_cons_zero, List.getElem?_cons_succ, Option.toList_some, Option.toList_none, List.cons_append, List.nil_append, List.length_cons, List.length_nil, List.sum_cons, List.sum_nil, cat_i, cat_l, cat_r, true_and, and_true, Nat.zero_add, Nat.add_zero, Nat.le_refl, Nat.zero_le, Nat.reduceAdd, Nat.reduceLeDiff, exists_eq_left', Option.some.injEq, not_true_eq_false, not_false_eq_true, false_implies, true_implies, implies_true, and_self, or_true, true_or, or_false, false_or]
          exact ⟨fun h => absurd h (by omega), fun _ => ih (i + 1) _ (by omega) he⟩
      refine fq_enter [some (.ref X), some (.int (nI k)), none, none] (by decide +kernel) (Nat.le_of_ble_eq_true rfl) rfl (b_X11_share_0 _ _ _ _ _ _ _ _ ?_)
      simp (disch := omega) only [B_X11_share_0, B_X11_share_18, sp_X11_isHouse, B_X11_isHouse_0, sp_X11_isWithin, sp_X11_deny, B_X11_deny_0, sp_X11_tellFraction, sp_X11_grant, B_X11_grant_0, hs.k, hs.r0, hs.k1, hs.r1, hs.k2, hs.r2, hs.k3, hs.r3, hs.k4, hs.r4, hs.k12, hs.n1, hs.n2, hs.n3, hs.y0, hs.k5, hs.n5, hs.y1, hs.k6, hs.n6, hs.y2, hs.k7, hs.n7, hs.y3, hs.k8, hs.n8, hs.y4, hs.k9, hs.n9, hs.y5, hs.k10, hs.n10, hs.y6, hs.k11, hs.n11, hs.p0, hs.p1, hs.p2, hs.k13, hs.n13, hs.q0, hs.q1, hs.k14, hs.k15, hs.k16, hs.n16, hs.k17, hs.n17, hs.rH, hs.kH, hs.rP, hs.kP, hs.rQ, hs.kQ, x1, x2, hc1, hin, bI_01, bI_01b, bI_0, nI_1, nI_add, nI_clamp, nI_pin, nI_neg, nI_nonneg, nI_leE, nI_ltE, nI_eqE, Nat.not_le, Nat.not_lt, fq_10, fq_01, fq_rr, ix_aald, ix_aast, ix_abs, ix_alen, ix_aload, ix_aret, ix_astore, ix_bald, ix_bast, ix_call, ix_cpyI, ix_cpyJ, ix_dead, ix_dup2, ix_dup2L, ix_dupI, ix_dupR, ix_dupx1, ix_getI, ix_getJ, ix_getR, ix_gfm, ix_gtab, ix_i2b, ix_i2c, ix_i2l, ix_i2s, ix_iadd, ix_iald, ix_iand, ix_iast, ix_icall, ix_icmp_eq, ix_icmp_ge, ix_icmp_gt, ix_icmp_le, ix_icmp_lt, ix_icmp_ne, ix_idiv, ix_if_eq, ix_if_ge, ix_if_gt, ix_if_le, ix_if_lt, ix_if_ne, ix_iinc, ix_iload, ix_imul, ix_ineg, ix_ior, ix_irem, ix_iret, ix_ishl, ix_ishr, ix_istore, ix_isub, ix_iushr, ix_ixor, ix_l2i, ix_ladd, ix_lald, ix_land, ix_last, ix_lcmp, ix_ldcS, ix_ldiv, ix_lload, ix_lmul, ix_lor, ix_lrem, ix_lret, ix_lshl, ix_lstore, ix_lsub, ix_lsw, ix_max, ix_min, ix_new, ix_newa, ix_nret, ix_oinit, ix_pop2L, ix_popI, ix_pushI, ix_pushL, ix_putI, ix_putJ, ix_putR, ix_putZ, ix_sbald, ix_sgetC, ix_sgetV, ix_slen, ix_strc, ix_tald, ix_tsw, ix_vcall, ix_vret, ix_zret, stL, stL2, kilL, popN, fq_sw, fq_lsw, List.map_cons, List.map_nil, List.getElem?_cons_zero, List.getElem?_cons_succ, Option.toList_some, Option.toList_none, List.cons_append, List.nil_append, List.length_cons, List.length_nil, List.sum_cons, List.sum_nil, cat_i, cat_l, cat_r, true_and, and_true, Nat.zero_add, Nat.add_zero, Nat.le_refl, Nat.zero_le, Nat.reduceAdd, Nat.reduceLeDiff, exists_eq_left', Option.some.injEq, not_true_eq_false, not_false_eq_true, false_implies, true_implies, implies_true, and_self, or_true, true_or, or_false, false_or]
      exact lp c 0 0 (by omega) rfl
    · refine fq_enter [some (.ref X), some (.int hn), none, none] (by decide +kernel) (Nat.le_of_ble_eq_true rfl) rfl (b_X11_share_0 _ _ _ _ _ _ _ _ ?_)
      simp (disch := omega) only [B_X11_share_0, B_X11_share_18, sp_X11_isHouse, B_X11_isHouse_0, sp_X11_isWithin, sp_X11_deny, B_X11_deny_0, sp_X11_tellFraction, sp_X11_grant, B_X11_grant_0, hs.k, hs.r0, hs.k1, hs.r1, hs.k2, hs.r2, hs.k3, hs.r3, hs.k4, hs.r4, hs.k12, hs.n1, hs.n2, hs.n3, hs.y0, hs.k5, hs.n5, hs.y1, hs.k6, hs.n6, hs.y2, hs.k7, hs.n7, hs.y3, hs.k8, hs.n8, hs.y4, hs.k9, hs.n9, hs.y5, hs.k10, hs.n10, hs.y6, hs.k11, hs.n11, hs.p0, hs.p1, hs.p2, hs.k13, hs.n13, hs.q0, hs.q1, hs.k14, hs.k15, hs.k16, hs.n16, hs.k17, hs.n17, hs.rH, hs.kH, hs.rP, hs.kP, hs.rQ, hs.kQ, x1, x2, hc1, hin, bI_01, bI_01b, bI_0, nI_1, nI_add, nI_clamp, nI_pin, nI_neg, nI_nonneg, nI_leE, nI_ltE, nI_eqE, Nat.not_le, Nat.not_lt, fq_10, fq_01, fq_rr, ix_aald, ix_aast, ix_abs, ix_alen, ix_aload, ix_aret, ix_astore, ix_bald, ix_bast, ix_call, ix_cpyI, ix_cpyJ, ix_dead, ix_dup2, ix_dup2L, ix_dupI, ix_dupR, ix_dupx1, ix_getI, ix_getJ, ix_getR, ix_gfm, ix_gtab, ix_i2b, ix_i2c, ix_i2l, ix_i2s, ix_iadd, ix_iald, ix_iand, ix_iast, ix_icall, ix_icmp_eq, ix_icmp_ge, ix_icmp_gt, ix_icmp_le, ix_icmp_lt, ix_icmp_ne, ix_idiv, ix_if_eq, ix_if_ge, ix_if_gt, ix_if_le, ix_if_lt, ix_if_ne, ix_iinc, ix_iload, ix_imul, ix_ineg, ix_ior, ix_irem, ix_iret, ix_ishl, ix_ishr, ix_istore, ix_isub, ix_iushr, ix_ixor, ix_l2i, ix_ladd, ix_lald, ix_land, ix_last, ix_lcmp, ix_ldcS, ix_ldiv, ix_lload, ix_lmul, ix_lor, ix_lrem, ix_lret, ix_lshl, ix_lstore, ix_lsub, ix_lsw, ix_max, ix_min, ix_new, ix_newa, ix_nret, ix_oinit, ix_pop2L, ix_popI, ix_pushI, ix_pushL, ix_putI, ix_putJ, ix_putR, ix_putZ, ix_sbald, ix_sgetC, ix_sgetV, ix_slen, ix_strc, ix_tald, ix_tsw, ix_vcall, ix_vret, ix_zret, stL, stL2, kilL, popN, fq_sw, fq_lsw, List.map_cons, List.map_nil, List.getElem?_cons_zero, List.getElem?_cons_succ, Option.toList_some, Option.toList_none, List.cons_append, List.nil_append, List.length_cons, List.length_nil, List.sum_cons, List.sum_nil, cat_i, cat_l, cat_r, true_and, and_true, Nat.zero_add, Nat.add_zero, Nat.le_refl, Nat.zero_le, Nat.reduceAdd, Nat.reduceLeDiff, exists_eq_left', Option.some.injEq, not_true_eq_false, not_false_eq_true, false_implies, true_implies, implies_true, and_self, or_true, true_or, or_false, false_or]
      exact hQ1 hin
  · exact h.elim
