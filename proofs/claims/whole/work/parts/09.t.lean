theorem dX11_answer_0 : decode cX11_answer 0 = .ok (.aload_n 0, 1) := by decide +kernel
theorem dX11_answer_1 : decode cX11_answer 1 = .ok (.iconst 0, 1) := by decide +kernel
theorem dX11_answer_2 : decode cX11_answer 2 = .ok (.putfield 64, 3) := by decide +kernel
theorem dX11_answer_5 : decode cX11_answer 5 = .ok (.iload_n 1, 1) := by decide +kernel
theorem dX11_answer_6 : decode cX11_answer 6 = .ok (.ireturn, 1) := by decide +kernel
abbrev M_X11_answer : MT := (yX11_answer, cX11_answer, 2, (some .int))
theorem cf_X11_answer : fq_cf M_X11_answer 1 := ⟨(mg_1 (List.mem_of_getElem? (i := 1) rfl) rfl), (mg_4 (List.mem_of_getElem? (i := 75) rfl) rfl), ⟨by decide, by decide, by decide +kernel⟩, by decide⟩
def B_X11_answer_0 (G : GT) (mc ms : Nat) (Q : Post) : Cn := ix_aload 0 (ix_pushI 0 (ix_putI 11 10 (ix_iload 1 (ix_iret mc ms Q))))
theorem b_X11_answer_0 {l : Launch} {G : GT} {D mc ms : Nat} {Q : Post} : Imp l G M_X11_answer (D + 0) mc ms Q (B_X11_answer_0 G mc ms Q) 0 := sx_aload_n dX11_answer_0 rfl (sx_iconst dX11_answer_1 rfl (sx_putI dX11_answer_2 fl_FootQuarrel_64 (by decide) (fun _ _ _ => rfl) (fun _ => ⟨rfl, rfl⟩) (sx_iload_n dX11_answer_5 rfl (sx_iret dX11_answer_6 rfl))))
def sp_X11_answer (G : GT) : Sp := fun as S I J z Q => match as with
  | [.ref a0, .int a1] => B_X11_answer_0 G 0 0 Q [some (.ref a0), some (.int a1)] [] S I J z 0 0
  | _ => False
theorem c_X11_answer {l : Launch} {G : GT} {D : Nat} : ∀ as S I J z Q, sp_X11_answer G as S I J z Q → fqCall l G M_X11_answer (D + 0) 0 0 as S I J z Q := by
  intro as S I J z Q h
  unfold sp_X11_answer at h
  split at h
  · exact fq_enter _ (by decide) (Nat.le_of_ble_eq_true rfl) rfl (b_X11_answer_0 _ _ _ _ _ _ _ _ h)
  · exact h.elim
theorem dX11_refuse_0 : decode cX11_refuse 0 = .ok (.aload_n 0, 1) := by decide +kernel
theorem dX11_refuse_1 : decode cX11_refuse 1 = .ok (.iload_n 1, 1) := by decide +kernel
theorem dX11_refuse_2 : decode cX11_refuse 2 = .ok (.putfield 64, 3) := by decide +kernel
theorem dX11_refuse_5 : decode cX11_refuse 5 = .ok (.iconst (-1), 1) := by decide +kernel
theorem dX11_refuse_6 : decode cX11_refuse 6 = .ok (.ireturn, 1) := by decide +kernel
abbrev M_X11_refuse : MT := (yX11_refuse, cX11_refuse, 2, (some .int))
theorem cf_X11_refuse : fq_cf M_X11_refuse 1 := ⟨(mg_1 (List.mem_of_getElem? (i := 1) rfl) rfl), (mg_3 (List.mem_of_getElem? (i := 123) rfl) rfl), ⟨by decide, by decide, by decide +kernel⟩, by decide⟩
def B_X11_refuse_0 (G : GT) (mc ms : Nat) (Q : Post) : Cn := ix_aload 0 (ix_iload 1 (ix_putI 11 10 (ix_pushI (-1) (ix_iret mc ms Q))))
theorem b_X11_refuse_0 {l : Launch} {G : GT} {D mc ms : Nat} {Q : Post} : Imp l G M_X11_refuse (D + 0) mc ms Q (B_X11_refuse_0 G mc ms Q) 0 := sx_aload_n dX11_refuse_0 rfl (sx_iload_n dX11_refuse_1 rfl (sx_putI dX11_refuse_2 fl_FootQuarrel_64 (by decide) (fun _ _ _ => rfl) (fun _ => ⟨rfl, rfl⟩) (sx_iconst dX11_refuse_5 rfl (sx_iret dX11_refuse_6 rfl))))
def sp_X11_refuse (G : GT) : Sp := fun as S I J z Q => match as with
  | [.ref a0, .int a1] => B_X11_refuse_0 G 0 0 Q [some (.ref a0), some (.int a1)] [] S I J z 0 0
  | _ => False
theorem c_X11_refuse {l : Launch} {G : GT} {D : Nat} : ∀ as S I J z Q, sp_X11_refuse G as S I J z Q → fqCall l G M_X11_refuse (D + 0) 0 0 as S I J z Q := by
  intro as S I J z Q h
  unfold sp_X11_refuse at h
  split at h
  · exact fq_enter _ (by decide) (Nat.le_of_ble_eq_true rfl) rfl (b_X11_refuse_0 _ _ _ _ _ _ _ _ h)
  · exact h.elim
theorem dX11_isWithin_0 : decode cX11_isWithin 0 = .ok (.iload_n 0, 1) := by decide +kernel
theorem dX11_isWithin_1 : decode cX11_isWithin 1 = .ok (.iload_n 1, 1) := by decide +kernel
theorem dX11_isWithin_2 : decode cX11_isWithin 2 = .ok (.if_icmp .lt 12, 3) := by decide +kernel
theorem dX11_isWithin_5 : decode cX11_isWithin 5 = .ok (.iload_n 0, 1) := by decide +kernel
theorem dX11_isWithin_6 : decode cX11_isWithin 6 = .ok (.iload_n 2, 1) := by decide +kernel
theorem dX11_isWithin_7 : decode cX11_isWithin 7 = .ok (.if_icmp .gt 7, 3) := by decide +kernel
theorem dX11_isWithin_10 : decode cX11_isWithin 10 = .ok (.iconst 1, 1) := by decide +kernel
theorem dX11_isWithin_11 : decode cX11_isWithin 11 = .ok (.goto 4, 3) := by decide +kernel
theorem dX11_isWithin_14 : decode cX11_isWithin 14 = .ok (.iconst 0, 1) := by decide +kernel
theorem dX11_isWithin_15 : decode cX11_isWithin 15 = .ok (.ireturn, 1) := by decide +kernel
abbrev M_X11_isWithin : MT := (yX11_isWithin, cX11_isWithin, 3, (some .boolean))
theorem cf_X11_isWithin : fq_cf M_X11_isWithin 3 := ⟨(mg_1 (List.mem_of_getElem? (i := 1) rfl) rfl), (mg_3 (List.mem_of_getElem? (i := 87) rfl) rfl), ⟨by decide, by decide, by decide +kernel⟩, by decide⟩
def B_X11_isWithin_15 (G : GT) (mc ms : Nat) (Q : Post) : Cn := ix_zret mc ms Q
theorem b_X11_isWithin_15 {l : Launch} {G : GT} {D mc ms : Nat} {Q : Post} : Imp l G M_X11_isWithin (D + 0) mc ms Q (B_X11_isWithin_15 G mc ms Q) 15 := sx_zret dX11_isWithin_15 rfl
def B_X11_isWithin_14 (G : GT) (mc ms : Nat) (Q : Post) : Cn := ix_pushI 0 ((B_X11_isWithin_15 G mc ms Q))
theorem b_X11_isWithin_14 {l : Launch} {G : GT} {D mc ms : Nat} {Q : Post} : Imp l G M_X11_isWithin (D + 0) mc ms Q (B_X11_isWithin_14 G mc ms Q) 14 := sx_iconst dX11_isWithin_14 rfl (b_X11_isWithin_15)
def B_X11_isWithin_0 (G : GT) (mc ms : Nat) (Q : Post) : Cn := ix_iload 0 (ix_iload 1 (ix_icmp_lt ((B_X11_isWithin_14 G mc ms Q)) (ix_iload 0 (ix_iload 2 (ix_icmp_gt ((B_X11_isWithin_14 G mc ms Q)) (ix_pushI 1 ((B_X11_isWithin_15 G mc ms Q))))))))
theorem b_X11_isWithin_0 {l : Launch} {G : GT} {D mc ms : Nat} {Q : Post} : Imp l G M_X11_isWithin (D + 0) mc ms Q (B_X11_isWithin_0 G mc ms Q) 0 := sx_iload_n dX11_isWithin_0 rfl (sx_iload_n dX11_isWithin_1 rfl (sx_icmp_lt 14 dX11_isWithin_2 (by decide) (b_X11_isWithin_14) (sx_iload_n dX11_isWithin_5 rfl (sx_iload_n dX11_isWithin_6 rfl (sx_icmp_gt 14 dX11_isWithin_7 (by decide) (b_X11_isWithin_14) (sx_iconst dX11_isWithin_10 rfl (sx_goto 15 dX11_isWithin_11 (by decide) (b_X11_isWithin_15))))))))
def sp_X11_isWithin (G : GT) : Sp := fun as S I J z Q => match as with
  | [.int a0, .int a1, .int a2] => B_X11_isWithin_0 G 0 0 Q [some (.int a0), some (.int a1), some (.int a2)] [] S I J z 0 0
  | _ => False
theorem c_X11_isWithin {l : Launch} {G : GT} {D : Nat} : ∀ as S I J z Q, sp_X11_isWithin G as S I J z Q → fqCall l G M_X11_isWithin (D + 0) 0 0 as S I J z Q := by
  intro as S I J z Q h
  unfold sp_X11_isWithin at h
  split at h
  · exact fq_enter _ (by decide) (Nat.le_of_ble_eq_true rfl) rfl (b_X11_isWithin_0 _ _ _ _ _ _ _ _ h)
  · exact h.elim
theorem dX11_isPerson_0 : decode cX11_isPerson 0 = .ok (.iload_n 1, 1) := by decide +kernel
theorem dX11_isPerson_1 : decode cX11_isPerson 1 = .ok (.iconst 0, 1) := by decide +kernel
theorem dX11_isPerson_2 : decode cX11_isPerson 2 = .ok (.aload_n 0, 1) := by decide +kernel
theorem dX11_isPerson_3 : decode cX11_isPerson 3 = .ok (.getfield 46, 3) := by decide +kernel
theorem dX11_isPerson_6 : decode cX11_isPerson 6 = .ok (.getfield 139, 3) := by decide +kernel
theorem dX11_isPerson_9 : decode cX11_isPerson 9 = .ok (.iconst 1, 1) := by decide +kernel
theorem dX11_isPerson_10 : decode cX11_isPerson 10 = .ok (.isub, 1) := by decide +kernel
theorem dX11_isPerson_11 : decode cX11_isPerson 11 = .ok (.invokestatic 74, 3) := by decide +kernel
theorem dX11_isPerson_14 : decode cX11_isPerson 14 = .ok (.ireturn, 1) := by decide +kernel
abbrev M_X11_isPerson : MT := (yX11_isPerson, cX11_isPerson, 2, (some .boolean))
theorem cf_X11_isPerson : fq_cf M_X11_isPerson 1 := ⟨(mg_1 (List.mem_of_getElem? (i := 1) rfl) rfl), (mg_4 (List.mem_of_getElem? (i := 212) rfl) rfl), ⟨by decide, by decide, by decide +kernel⟩, by decide⟩
def B_X11_isPerson_0 (G : GT) (mc ms : Nat) (Q : Post) : Cn := ix_iload 1 (ix_pushI 0 (ix_aload 0 (ix_getR 11 6 (ix_getI 6 6 (ix_pushI 1 (ix_isub (ix_call 3 0 0 mc ms (sp_X11_isWithin G) (ix_zret mc ms Q))))))))
theorem b_X11_isPerson_0 {l : Launch} {G : GT} {D mc ms : Nat} {Q : Post} : Imp l G M_X11_isPerson (D + 1) mc ms Q (B_X11_isPerson_0 G mc ms Q) 0 := sx_iload_n dX11_isPerson_0 rfl (sx_iconst dX11_isPerson_1 rfl (sx_aload_n dX11_isPerson_2 rfl (sx_getR dX11_isPerson_3 fl_FootQuarrel_46 (fun _ _ _ => rfl) (sx_getI dX11_isPerson_6 fl_FootQuarrel_139 (fun _ _ _ => rfl) (sx_iconst dX11_isPerson_9 rfl (sx_isub dX11_isPerson_10 (sx_scall dX11_isPerson_11 cf_X11_isWithin (mg_3 (List.mem_of_getElem? (i := 85) rfl) rfl) (mg_3 (List.mem_of_getElem? (i := 86) rfl) rfl) c_X11_isWithin (sx_zret dX11_isPerson_14 rfl))))))))
def sp_X11_isPerson (G : GT) : Sp := fun as S I J z Q => match as with
  | [.ref a0, .int a1] => B_X11_isPerson_0 G 0 0 Q [some (.ref a0), some (.int a1)] [] S I J z 0 0
  | _ => False
theorem c_X11_isPerson {l : Launch} {G : GT} {D : Nat} : ∀ as S I J z Q, sp_X11_isPerson G as S I J z Q → fqCall l G M_X11_isPerson (D + 1) 0 0 as S I J z Q := by
  intro as S I J z Q h
  unfold sp_X11_isPerson at h
  split at h
  · exact fq_enter _ (by decide) (Nat.le_of_ble_eq_true rfl) rfl (b_X11_isPerson_0 _ _ _ _ _ _ _ _ h)
  · exact h.elim
theorem dX11_person_0 : decode cX11_person 0 = .ok (.aload_n 0, 1) := by decide +kernel
theorem dX11_person_1 : decode cX11_person 1 = .ok (.iload_n 1, 1) := by decide +kernel
theorem dX11_person_2 : decode cX11_person 2 = .ok (.invokevirtual 233, 3) := by decide +kernel
theorem dX11_person_5 : decode cX11_person 5 = .ok (.ifCond .ne 9, 3) := by decide +kernel
theorem dX11_person_8 : decode cX11_person 8 = .ok (.aload_n 0, 1) := by decide +kernel
theorem dX11_person_9 : decode cX11_person 9 = .ok (.iconst 1, 1) := by decide +kernel
theorem dX11_person_10 : decode cX11_person 10 = .ok (.invokevirtual 97, 3) := by decide +kernel
theorem dX11_person_13 : decode cX11_person 13 = .ok (.ireturn, 1) := by decide +kernel
theorem dX11_person_14 : decode cX11_person 14 = .ok (.aload_n 0, 1) := by decide +kernel
theorem dX11_person_15 : decode cX11_person 15 = .ok (.getfield 46, 3) := by decide +kernel
theorem dX11_person_18 : decode cX11_person 18 = .ok (.getfield 236, 3) := by decide +kernel
theorem dX11_person_21 : decode cX11_person 21 = .ok (.iload_n 1, 1) := by decide +kernel
theorem dX11_person_22 : decode cX11_person 22 = .ok (.aaload, 1) := by decide +kernel
theorem dX11_person_23 : decode cX11_person 23 = .ok (.astore_n 3, 1) := by decide +kernel
theorem dX11_person_24 : decode cX11_person 24 = .ok (.iload_n 2, 1) := by decide +kernel
theorem dX11_person_25 : decode cX11_person 25 = .ok (.tableswitch 106 0 6 #[43, 52, 61, 70, 79, 88, 97], 43) := by decide +kernel
theorem dX11_person_68 : decode cX11_person 68 = .ok (.aload_n 0, 1) := by decide +kernel
theorem dX11_person_69 : decode cX11_person 69 = .ok (.aload_n 3, 1) := by decide +kernel
theorem dX11_person_70 : decode cX11_person 70 = .ok (.getfield 240, 3) := by decide +kernel
theorem dX11_person_73 : decode cX11_person 73 = .ok (.invokevirtual 142, 3) := by decide +kernel
theorem dX11_person_76 : decode cX11_person 76 = .ok (.ireturn, 1) := by decide +kernel
theorem dX11_person_77 : decode cX11_person 77 = .ok (.aload_n 0, 1) := by decide +kernel
theorem dX11_person_78 : decode cX11_person 78 = .ok (.aload_n 3, 1) := by decide +kernel
theorem dX11_person_79 : decode cX11_person 79 = .ok (.getfield 245, 3) := by decide +kernel
theorem dX11_person_82 : decode cX11_person 82 = .ok (.invokevirtual 142, 3) := by decide +kernel
theorem dX11_person_85 : decode cX11_person 85 = .ok (.ireturn, 1) := by decide +kernel
theorem dX11_person_86 : decode cX11_person 86 = .ok (.aload_n 0, 1) := by decide +kernel
theorem dX11_person_87 : decode cX11_person 87 = .ok (.aload_n 3, 1) := by decide +kernel
theorem dX11_person_88 : decode cX11_person 88 = .ok (.getfield 248, 3) := by decide +kernel
theorem dX11_person_91 : decode cX11_person 91 = .ok (.invokevirtual 142, 3) := by decide +kernel
theorem dX11_person_94 : decode cX11_person 94 = .ok (.ireturn, 1) := by decide +kernel
theorem dX11_person_95 : decode cX11_person 95 = .ok (.aload_n 0, 1) := by decide +kernel
theorem dX11_person_96 : decode cX11_person 96 = .ok (.aload_n 3, 1) := by decide +kernel
theorem dX11_person_97 : decode cX11_person 97 = .ok (.getfield 251, 3) := by decide +kernel
theorem dX11_person_100 : decode cX11_person 100 = .ok (.invokevirtual 142, 3) := by decide +kernel
theorem dX11_person_103 : decode cX11_person 103 = .ok (.ireturn, 1) := by decide +kernel
theorem dX11_person_104 : decode cX11_person 104 = .ok (.aload_n 0, 1) := by decide +kernel
theorem dX11_person_105 : decode cX11_person 105 = .ok (.aload_n 3, 1) := by decide +kernel
theorem dX11_person_106 : decode cX11_person 106 = .ok (.getfield 254, 3) := by decide +kernel
theorem dX11_person_109 : decode cX11_person 109 = .ok (.invokevirtual 142, 3) := by decide +kernel
theorem dX11_person_112 : decode cX11_person 112 = .ok (.ireturn, 1) := by decide +kernel
theorem dX11_person_113 : decode cX11_person 113 = .ok (.aload_n 0, 1) := by decide +kernel
theorem dX11_person_114 : decode cX11_person 114 = .ok (.aload_n 3, 1) := by decide +kernel
theorem dX11_person_115 : decode cX11_person 115 = .ok (.getfield 257, 3) := by decide +kernel
theorem dX11_person_118 : decode cX11_person 118 = .ok (.invokevirtual 142, 3) := by decide +kernel
theorem dX11_person_121 : decode cX11_person 121 = .ok (.ireturn, 1) := by decide +kernel
theorem dX11_person_122 : decode cX11_person 122 = .ok (.aload_n 0, 1) := by decide +kernel
theorem dX11_person_123 : decode cX11_person 123 = .ok (.aload_n 3, 1) := by decide +kernel
theorem dX11_person_124 : decode cX11_person 124 = .ok (.getfield 260, 3) := by decide +kernel
theorem dX11_person_127 : decode cX11_person 127 = .ok (.invokevirtual 142, 3) := by decide +kernel
theorem dX11_person_130 : decode cX11_person 130 = .ok (.ireturn, 1) := by decide +kernel
theorem dX11_person_131 : decode cX11_person 131 = .ok (.aload_n 0, 1) := by decide +kernel
theorem dX11_person_132 : decode cX11_person 132 = .ok (.iconst 1, 1) := by decide +kernel
theorem dX11_person_133 : decode cX11_person 133 = .ok (.invokevirtual 97, 3) := by decide +kernel
theorem dX11_person_136 : decode cX11_person 136 = .ok (.ireturn, 1) := by decide +kernel
abbrev M_X11_person : MT := (yX11_person, cX11_person, 4, (some .int))
theorem cf_X11_person : fq_cf M_X11_person 2 := ⟨(mg_1 (List.mem_of_getElem? (i := 1) rfl) rfl), (mg_4 (List.mem_of_getElem? (i := 208) rfl) rfl), ⟨by decide, by decide, by decide +kernel⟩, by decide⟩
def B_X11_person_0 (G : GT) (mc ms : Nat) (Q : Post) : Cn := ix_aload 0 (ix_iload 1 (ix_vcall 11 2 0 0 mc ms (sp_X11_isPerson G) (ix_if_ne (ix_aload 0 (ix_getR 11 6 (ix_getR 6 1 (ix_iload 1 (ix_aald 17 (ix_astore 3 (ix_iload 2 (ix_tsw 0 [ix_aload 0 (ix_aload 3 (ix_getI 2 1 (ix_vcall 11 2 0 0 mc ms (sp_X11_answer G) (ix_iret mc ms Q)))), ix_aload 0 (ix_aload 3 (ix_getI 2 2 (ix_vcall 11 2 0 0 mc ms (sp_X11_answer G) (ix_iret mc ms Q)))), ix_aload 0 (ix_aload 3 (ix_getI 2 3 (ix_vcall 11 2 0 0 mc ms (sp_X11_answer G) (ix_iret mc ms Q)))), ix_aload 0 (ix_aload 3 (ix_getI 2 4 (ix_vcall 11 2 0 0 mc ms (sp_X11_answer G) (ix_iret mc ms Q)))), ix_aload 0 (ix_aload 3 (ix_getI 2 5 (ix_vcall 11 2 0 0 mc ms (sp_X11_answer G) (ix_iret mc ms Q)))), ix_aload 0 (ix_aload 3 (ix_getI 2 6 (ix_vcall 11 2 0 0 mc ms (sp_X11_answer G) (ix_iret mc ms Q)))), ix_aload 0 (ix_aload 3 (ix_getI 2 7 (ix_vcall 11 2 0 0 mc ms (sp_X11_answer G) (ix_iret mc ms Q))))] (ix_aload 0 (ix_pushI 1 (ix_vcall 11 2 0 0 mc ms (sp_X11_refuse G) (ix_iret mc ms Q)))))))))))) (ix_aload 0 (ix_pushI 1 (ix_vcall 11 2 0 0 mc ms (sp_X11_refuse G) (ix_iret mc ms Q)))))))
theorem b_X11_person_0 {l : Launch} {G : GT} {D mc ms : Nat} {Q : Post} : Imp l G M_X11_person (D + 2) mc ms Q (B_X11_person_0 G mc ms Q) 0 := sx_aload_n dX11_person_0 rfl (sx_iload_n dX11_person_1 rfl (sx_vcall dX11_person_2 cf_X11_isPerson (mg_4 (List.mem_of_getElem? (i := 209) rfl) rfl) (mg_4 (List.mem_of_getElem? (i := 211) rfl) rfl) (mg_p (List.mem_of_getElem? (i := 26) rfl) rfl) rfl c_X11_isPerson (sx_if_ne 14 dX11_person_5 (by decide) (sx_aload_n dX11_person_14 rfl (sx_getR dX11_person_15 fl_FootQuarrel_46 (fun _ _ _ => rfl) (sx_getR dX11_person_18 fl_FootQuarrel_236 (fun _ _ _ => rfl) (sx_iload_n dX11_person_21 rfl (sx_aald dX11_person_22 (by decide) (by decide) rfl (sx_astore_n dX11_person_23 rfl (by decide) (sx_iload_n dX11_person_24 rfl (sx_tsw [68, 77, 86, 95, 104, 113, 122] 131 dX11_person_25 rfl (by decide) (by decide) (by decide) (fun i K t h1 h2 => match i, K, t, h1, h2 with | 0, _, _, h1, h2 => by cases h1; cases h2; exact sx_aload_n dX11_person_68 rfl (sx_aload_n dX11_person_69 rfl (sx_getI dX11_person_70 fl_FootQuarrel_240 (fun _ _ _ => rfl) (sx_vcall dX11_person_73 cf_X11_answer (mg_4 (List.mem_of_getElem? (i := 72) rfl) rfl) (mg_4 (List.mem_of_getElem? (i := 74) rfl) rfl) (mg_p (List.mem_of_getElem? (i := 17) rfl) rfl) rfl c_X11_answer (sx_iret dX11_person_76 rfl)))) | 1, _, _, h1, h2 => by cases h1; cases h2; exact sx_aload_n dX11_person_77 rfl (sx_aload_n dX11_person_78 rfl (sx_getI dX11_person_79 fl_FootQuarrel_245 (fun _ _ _ => rfl) (sx_vcall dX11_person_82 cf_X11_answer (mg_4 (List.mem_of_getElem? (i := 72) rfl) rfl) (mg_4 (List.mem_of_getElem? (i := 74) rfl) rfl) (mg_p (List.mem_of_getElem? (i := 17) rfl) rfl) rfl c_X11_answer (sx_iret dX11_person_85 rfl)))) | 2, _, _, h1, h2 => by cases h1; cases h2; exact sx_aload_n dX11_person_86 rfl (sx_aload_n dX11_person_87 rfl (sx_getI dX11_person_88 fl_FootQuarrel_248 (fun _ _ _ => rfl) (sx_vcall dX11_person_91 cf_X11_answer (mg_4 (List.mem_of_getElem? (i := 72) rfl) rfl) (mg_4 (List.mem_of_getElem? (i := 74) rfl) rfl) (mg_p (List.mem_of_getElem? (i := 17) rfl) rfl) rfl c_X11_answer (sx_iret dX11_person_94 rfl)))) | 3, _, _, h1, h2 => by cases h1; cases h2; exact sx_aload_n dX11_person_95 rfl (sx_aload_n dX11_person_96 rfl (sx_getI dX11_person_97 fl_FootQuarrel_251 (fun _ _ _ => rfl) (sx_vcall dX11_person_100 cf_X11_answer (mg_4 (List.mem_of_getElem? (i := 72) rfl) rfl) (mg_4 (List.mem_of_getElem? (i := 74) rfl) rfl) (mg_p (List.mem_of_getElem? (i := 17) rfl) rfl) rfl c_X11_answer (sx_iret dX11_person_103 rfl)))) | 4, _, _, h1, h2 => by cases h1; cases h2; exact sx_aload_n dX11_person_104 rfl (sx_aload_n dX11_person_105 rfl (sx_getI dX11_person_106 fl_FootQuarrel_254 (fun _ _ _ => rfl) (sx_vcall dX11_person_109 cf_X11_answer (mg_4 (List.mem_of_getElem? (i := 72) rfl) rfl) (mg_4 (List.mem_of_getElem? (i := 74) rfl) rfl) (mg_p (List.mem_of_getElem? (i := 17) rfl) rfl) rfl c_X11_answer (sx_iret dX11_person_112 rfl)))) | 5, _, _, h1, h2 => by cases h1; cases h2; exact sx_aload_n dX11_person_113 rfl (sx_aload_n dX11_person_114 rfl (sx_getI dX11_person_115 fl_FootQuarrel_257 (fun _ _ _ => rfl) (sx_vcall dX11_person_118 cf_X11_answer (mg_4 (List.mem_of_getElem? (i := 72) rfl) rfl) (mg_4 (List.mem_of_getElem? (i := 74) rfl) rfl) (mg_p (List.mem_of_getElem? (i := 17) rfl) rfl) rfl c_X11_answer (sx_iret dX11_person_121 rfl)))) | 6, _, _, h1, h2 => by cases h1; cases h2; exact sx_aload_n dX11_person_122 rfl (sx_aload_n dX11_person_123 rfl (sx_getI dX11_person_124 fl_FootQuarrel_260 (fun _ _ _ => rfl) (sx_vcall dX11_person_127 cf_X11_answer (mg_4 (List.mem_of_getElem? (i := 72) rfl) rfl) (mg_4 (List.mem_of_getElem? (i := 74) rfl) rfl) (mg_p (List.mem_of_getElem? (i := 17) rfl) rfl) rfl c_X11_answer (sx_iret dX11_person_130 rfl)))) | i + 7, _, _, h1, _ => by simp at h1) (sx_aload_n dX11_person_131 rfl (sx_iconst dX11_person_132 rfl (sx_vcall dX11_person_133 cf_X11_refuse (mg_3 (List.mem_of_getElem? (i := 120) rfl) rfl) (mg_3 (List.mem_of_getElem? (i := 122) rfl) rfl) (mg_p (List.mem_of_getElem? (i := 3) rfl) rfl) rfl c_X11_refuse (sx_iret dX11_person_136 rfl)))))))))))) (sx_aload_n dX11_person_8 rfl (sx_iconst dX11_person_9 rfl (sx_vcall dX11_person_10 cf_X11_refuse (mg_3 (List.mem_of_getElem? (i := 120) rfl) rfl) (mg_3 (List.mem_of_getElem? (i := 122) rfl) rfl) (mg_p (List.mem_of_getElem? (i := 3) rfl) rfl) rfl c_X11_refuse (sx_iret dX11_person_13 rfl)))))))
def sp_X11_person (G : GT) : Sp := fun as S I J z Q => match as with
  | [.ref a0, .int a1, .int a2] => B_X11_person_0 G 0 0 Q [some (.ref a0), some (.int a1), some (.int a2), none] [] S I J z 0 0
  | _ => False
theorem c_X11_person {l : Launch} {G : GT} {D : Nat} : ∀ as S I J z Q, sp_X11_person G as S I J z Q → fqCall l G M_X11_person (D + 2) 0 0 as S I J z Q := by
  intro as S I J z Q h
  unfold sp_X11_person at h
  split at h
  · exact fq_enter _ (by decide) (Nat.le_of_ble_eq_true rfl) rfl (b_X11_person_0 _ _ _ _ _ _ _ _ h)
  · exact h.elim
set_option maxHeartbeats 4000000 in
theorem t_person {G : GT} {S : Sh} {I : IH} {J : JH} {z X s pa : Nat} {pp : Nat → Nat} {a b : Int32} {Q : Post} (h1 : S.1 X = 11) (h2 : S.2.2 X 6 = some s) (h3 : S.1 s = 6) (h4 : S.2.2 s 1 = some pa) (h5 : S.1 pa = 17) (h6 : S.2.1 pa = 8) (h7 : ∀ i, i < 8 → S.2.2 pa i = some (pp i)) (h8 : ∀ i, i < 8 → S.1 (pp i) = 2) : sp_X11_person G [.ref X, .int a, .int b] S I J z Q := by
  simp only [sp_X11_person, B_X11_person_0, sp_X11_isPerson, B_X11_isPerson_0, sp_X11_isWithin, B_X11_isWithin_0, sp_X11_answer, B_X11_answer_0, sp_X11_refuse, B_X11_refuse_0, h1, h2, h3, h4, h5, h6, ix_aald, ix_aast, ix_abs, ix_alen, ix_aload, ix_aret, ix_astore, ix_bald, ix_bast, ix_call, ix_dup2, ix_dup2L, ix_dupI, ix_dupR, ix_dupx1, ix_getI, ix_getJ, ix_getR, ix_gtab, ix_i2b, ix_i2c, ix_i2l, ix_i2s, ix_iadd, ix_iald, ix_iand, ix_iast, ix_icall, ix_icmp_eq, ix_icmp_ge, ix_icmp_gt, ix_icmp_le, ix_icmp_lt, ix_icmp_ne, ix_idiv, ix_if_eq, ix_if_ge, ix_if_gt, ix_if_le, ix_if_lt, ix_if_ne, ix_iinc, ix_iload, ix_imul, ix_ineg, ix_ior, ix_irem, ix_iret, ix_ishl, ix_ishr, ix_istore, ix_isub, ix_iushr, ix_ixor, ix_l2i, ix_ladd, ix_lald, ix_land, ix_last, ix_lcmp, ix_ldiv, ix_lload, ix_lmul, ix_lor, ix_lrem, ix_lret, ix_lshl, ix_lstore, ix_lsub, ix_lsw, ix_max, ix_min, ix_new, ix_newa, ix_oinit, ix_pop2L, ix_popI, ix_pushI, ix_pushL, ix_putI, ix_putJ, ix_putR, ix_putZ, ix_tald, ix_tsw, ix_vcall, ix_vret, ix_zret, stL, stL2, kilL, popN, fq_sw, fq_lsw, List.map_cons, List.map_nil, List.getElem?_cons_zero, List.getElem?_cons_succ, Option.toList_some, Option.toList_none, List.cons_append, List.nil_append, List.length_cons, List.length_nil, true_and, and_true, Nat.zero_add, Nat.add_zero, Nat.le_refl, Nat.zero_le, Nat.reduceAdd, Nat.reduceLeDiff]
  trace_state
  sorry
