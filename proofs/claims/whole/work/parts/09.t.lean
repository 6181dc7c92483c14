theorem dX11_answer_0 : decode cX11_answer 0 = .ok (.aload_n 0, 1) := by decide +kernel
theorem dX11_answer_1 : decode cX11_answer 1 = .ok (.iconst 0, 1) := by decide +kernel
theorem dX11_answer_2 : decode cX11_answer 2 = .ok (.putfield 64, 3) := by decide +kernel
theorem dX11_answer_5 : decode cX11_answer 5 = .ok (.iload_n 1, 1) := by decide +kernel
theorem dX11_answer_6 : decode cX11_answer 6 = .ok (.ireturn, 1) := by decide +kernel
abbrev M_X11_answer : MT := (yX11_answer, cX11_answer, 2, (some .int))
theorem cf_X11_answer : fq_cf M_X11_answer 1 := ⟨(mg_1 (List.mem_of_getElem? (i := 1) rfl) rfl), (mg_4 (List.mem_of_getElem? (i := 75) rfl) rfl), ⟨by decide, by decide, by decide +kernel⟩, by decide⟩
theorem fl_FootQuarrel_64 : fq_fl "FootQuarrel" 64 11 10 false := ⟨_, _, _, ck_11, by decide, rfl, (mg_3 (List.mem_of_getElem? (i := 30) rfl) rfl), Or.inl rfl⟩
def B_X11_answer_0 (G : GT) (mc ms : Nat) (Q : Post) : Cn := ix_aload 0 (ix_pushI 0 (ix_putI 11 10 (ix_iload 1 (ix_iret mc ms Q))))
theorem b_X11_answer_0 {l : Launch} {G : GT} {D mc ms : Nat} {Q : Post} : Imp l G M_X11_answer (D + 0) mc ms Q (B_X11_answer_0 G mc ms Q) 0 := sx_aload_n dX11_answer_0 rfl (sx_iconst dX11_answer_1 rfl (sx_putI dX11_answer_2 fl_FootQuarrel_64 (by decide) (fun _ _ _ => rfl) (fun _ => ⟨rfl, rfl⟩) (sx_iload_n dX11_answer_5 rfl (sx_iret dX11_answer_6 rfl))))
def sp_X11_answer (G : GT) : Sp := fun as S I J z Q => match as with
  | [.ref a0, .int a1] => B_X11_answer_0 G 0 0 Q [some (.ref a0), some (.int a1)] [] S I J z 0 0
  | _ => False
theorem c_X11_answer {l : Launch} {G : GT} {D : Nat} : ∀ as S I J z Q, sp_X11_answer G as S I J z Q → fqCall l G M_X11_answer (D + 0) 0 0 as S I J z Q := by
  intro as S I J z Q h
  unfold sp_X11_answer at h
  split at h
  · exact fq_enter _ (by decide) (Nat.le_of_ble_eq_true rfl) rfl (b_X11_answer_0 _ _ _ _ _ _ _ _ h)
  · exact h.elim
theorem dX11_isWithin_0 : decode cX11_isWithin 0 = .ok (.iload_n 0, 1) := by decide +kernel
theorem dX11_isWithin_1 : decode cX11_isWithin 1 = .ok (.iload_n 1, 1) := by decide +kernel
theorem dX11_isWithin_2 : decode cX11_isWithin 2 = .ok (.if_icmp .lt 12, 3) := by decide +kernel
theorem dX11_isWithin_5 : decode cX11_isWithin 5 = .ok (.iload_n 0, 1) := by decide +kernel
theorem dX11_isWithin_6 : decode cX11_isWithin 6 = .ok (.iload_n 2, 1) := by decide +kernel
theorem dX11_isWithin_7 : decode cX11_isWithin 7 = .ok (.if_icmp .gt 7, 3) := by decide +kernel
theorem dX11_isWithin_10 : decode cX11_isWithin 10 = .ok (.iconst 1, 1) := by decide +kernel
theorem dX11_isWithin_11 : decode cX11_isWithin 11 = .ok (.goto 4, 3) := by decide +kernel
theorem dX11_isWithin_14 : decode cX11_isWithin 14 = .ok (.iconst 0, 1) := by decide +kernel
theorem dX11_isWithin_15 : decode cX11_isWithin 15 = .ok (.ireturn, 1) := by decide +kernel
abbrev M_X11_isWithin : MT := (yX11_isWithin, cX11_isWithin, 3, (some .boolean))
theorem cf_X11_isWithin : fq_cf M_X11_isWithin 3 := ⟨(mg_1 (List.mem_of_getElem? (i := 1) rfl) rfl), (mg_3 (List.mem_of_getElem? (i := 87) rfl) rfl), ⟨by decide, by decide, by decide +kernel⟩, by decide⟩
def B_X11_isWithin_15 (G : GT) (mc ms : Nat) (Q : Post) : Cn := ix_zret mc ms Q
theorem b_X11_isWithin_15 {l : Launch} {G : GT} {D mc ms : Nat} {Q : Post} : Imp l G M_X11_isWithin (D + 0) mc ms Q (B_X11_isWithin_15 G mc ms Q) 15 := sx_zret dX11_isWithin_15 rfl
def B_X11_isWithin_14 (G : GT) (mc ms : Nat) (Q : Post) : Cn := ix_pushI 0 ((B_X11_isWithin_15 G mc ms Q))
theorem b_X11_isWithin_14 {l : Launch} {G : GT} {D mc ms : Nat} {Q : Post} : Imp l G M_X11_isWithin (D + 0) mc ms Q (B_X11_isWithin_14 G mc ms Q) 14 := sx_iconst dX11_isWithin_14 rfl (b_X11_isWithin_15)
def B_X11_isWithin_0 (G : GT) (mc ms : Nat) (Q : Post) : Cn := ix_iload 0 (ix_iload 1 (ix_icmp_lt ((B_X11_isWithin_14 G mc ms Q)) (ix_iload 0 (ix_iload 2 (ix_icmp_gt ((B_X11_isWithin_14 G mc ms Q)) (ix_pushI 1 ((B_X11_isWithin_15 G mc ms Q))))))))
theorem b_X11_isWithin_0 {l : Launch} {G : GT} {D mc ms : Nat} {Q : Post} : Imp l G M_X11_isWithin (D + 0) mc ms Q (B_X11_isWithin_0 G mc ms Q) 0 := sx_iload_n dX11_isWithin_0 rfl (sx_iload_n dX11_isWithin_1 rfl (sx_icmp_lt 14 dX11_isWithin_2 (by decide) (b_X11_isWithin_14) (sx_iload_n dX11_isWithin_5 rfl (sx_iload_n dX11_isWithin_6 rfl (sx_icmp_gt 14 dX11_isWithin_7 (by decide) (b_X11_isWithin_14) (sx_iconst dX11_isWithin_10 rfl (sx_goto 15 dX11_isWithin_11 (by decide) (b_X11_isWithin_15))))))))
def sp_X11_isWithin (G : GT) : Sp := fun as S I J z Q => match as with
  | [.int a0, .int a1, .int a2] => B_X11_isWithin_0 G 0 0 Q [some (.int a0), some (.int a1), some (.int a2)] [] S I J z 0 0
  | _ => False
theorem c_X11_isWithin {l : Launch} {G : GT} {D : Nat} : ∀ as S I J z Q, sp_X11_isWithin G as S I J z Q → fqCall l G M_X11_isWithin (D + 0) 0 0 as S I J z Q := by
  intro as S I J z Q h
  unfold sp_X11_isWithin at h
  split at h
  · exact fq_enter _ (by decide) (Nat.le_of_ble_eq_true rfl) rfl (b_X11_isWithin_0 _ _ _ _ _ _ _ _ h)
  · exact h.elim
theorem dX11_isPerson_0 : decode cX11_isPerson 0 = .ok (.iload_n 1, 1) := by decide +kernel
theorem dX11_isPerson_1 : decode cX11_isPerson 1 = .ok (.iconst 0, 1) := by decide +kernel
theorem dX11_isPerson_2 : decode cX11_isPerson 2 = .ok (.aload_n 0, 1) := by decide +kernel
theorem dX11_isPerson_3 : decode cX11_isPerson 3 = .ok (.getfield 46, 3) := by decide +kernel
theorem dX11_isPerson_6 : decode cX11_isPerson 6 = .ok (.getfield 139, 3) := by decide +kernel
theorem dX11_isPerson_9 : decode cX11_isPerson 9 = .ok (.iconst 1, 1) := by decide +kernel
theorem dX11_isPerson_10 : decode cX11_isPerson 10 = .ok (.isub, 1) := by decide +kernel
theorem dX11_isPerson_11 : decode cX11_isPerson 11 = .ok (.invokestatic 74, 3) := by decide +kernel
theorem dX11_isPerson_14 : decode cX11_isPerson 14 = .ok (.ireturn, 1) := by decide +kernel
abbrev M_X11_isPerson : MT := (yX11_isPerson, cX11_isPerson, 2, (some .boolean))
theorem cf_X11_isPerson : fq_cf M_X11_isPerson 1 := ⟨(mg_1 (List.mem_of_getElem? (i := 1) rfl) rfl), (mg_4 (List.mem_of_getElem? (i := 212) rfl) rfl), ⟨by decide, by decide, by decide +kernel⟩, by decide⟩
theorem fl_FootQuarrel_46 : fq_fl "FootQuarrel" 46 11 6 false := ⟨_, _, _, ck_11, by decide, rfl, (mg_3 (List.mem_of_getElem? (i := 26) rfl) rfl), Or.inl rfl⟩
theorem fl_FootQuarrel_139 : fq_fl "FootQuarrel" 139 6 6 false := ⟨_, _, _, ck_6, by decide, rfl, (mg_2 (List.mem_of_getElem? (i := 151) rfl) rfl), Or.inr rfl⟩
def B_X11_isPerson_0 (G : GT) (mc ms : Nat) (Q : Post) : Cn := ix_iload 1 (ix_pushI 0 (ix_aload 0 (ix_getR 11 6 (ix_getI 6 6 (ix_pushI 1 (ix_isub (ix_call 3 0 0 mc ms (sp_X11_isWithin G) (ix_zret mc ms Q))))))))
theorem b_X11_isPerson_0 {l : Launch} {G : GT} {D mc ms : Nat} {Q : Post} : Imp l G M_X11_isPerson (D + 1) mc ms Q (B_X11_isPerson_0 G mc ms Q) 0 := sx_iload_n dX11_isPerson_0 rfl (sx_iconst dX11_isPerson_1 rfl (sx_aload_n dX11_isPerson_2 rfl (sx_getR dX11_isPerson_3 fl_FootQuarrel_46 (fun _ _ _ => rfl) (sx_getI dX11_isPerson_6 fl_FootQuarrel_139 (fun _ _ _ => rfl) (sx_iconst dX11_isPerson_9 rfl (sx_isub dX11_isPerson_10 (sx_scall dX11_isPerson_11 cf_X11_isWithin (mg_3 (List.mem_of_getElem? (i := 85) rfl) rfl) (mg_3 (List.mem_of_getElem? (i := 86) rfl) rfl) c_X11_isWithin (sx_zret dX11_isPerson_14 rfl))))))))
def sp_X11_isPerson (G : GT) : Sp := fun as S I J z Q => match as with
  | [.ref a0, .int a1] => B_X11_isPerson_0 G 0 0 Q [some (.ref a0), some (.int a1)] [] S I J z 0 0
  | _ => False
theorem c_X11_isPerson {l : Launch} {G : GT} {D : Nat} : ∀ as S I J z Q, sp_X11_isPerson G as S I J z Q → fqCall l G M_X11_isPerson (D + 1) 0 0 as S I J z Q := by
  intro as S I J z Q h
  unfold sp_X11_isPerson at h
  split at h
  · exact fq_enter _ (by decide) (Nat.le_of_ble_eq_true rfl) rfl (b_X11_isPerson_0 _ _ _ _ _ _ _ _ h)
  · exact h.elim
