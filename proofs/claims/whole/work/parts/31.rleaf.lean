/-! the reference: what it asks -/
theorem dX12_status_0 : decode cX12_status 0 = .ok (.aload_n 0, 1) := by decide +kernel
theorem dX12_status_1 : decode cX12_status 1 = .ok (.getfield 69, 3) := by decide +kernel
theorem dX12_status_4 : decode cX12_status 4 = .ok (.ireturn, 1) := by decide +kernel
abbrev M_X12_status : MT := (yX12_status, cX12_status, 1, (some .int))
theorem cf_X12_status : fq_cf M_X12_status 0 := ⟨(mg_1 (List.mem_of_getElem? (i := 15) rfl) rfl), (mg_7 (List.mem_of_getElem? (i := 52) rfl) rfl), ⟨by decide, by decide, by decide +kernel⟩, by decide⟩
def B_X12_status_0 (G : GT) (mc ms : Nat) (Q : Post) : Cn := ix_aload 0 (ix_getI 12 2 (ix_iret mc ms Q))
theorem b_X12_status_0 {l : Launch} {G : GT} {D mc ms : Nat} {Q : Post} : Imp l G M_X12_status (D + 0) mc ms Q (B_X12_status_0 G mc ms Q) 0 := sx_aload_n dX12_status_0 rfl (sx_getI dX12_status_1 fl_FootQuarrelModel_69 (fun _ _ _ => rfl) (sx_iret dX12_status_4 rfl))
def sp_X12_status (G : GT) : Sp := fun as S I J z Q => match as with
  | [.ref a0] => B_X12_status_0 G 0 0 Q [some (.ref a0)] [] S I J z 0 0
  | _ => False
theorem c_X12_status {l : Launch} {G : GT} {D : Nat} : ∀ as S I J z Q, sp_X12_status G as S I J z Q → fqCall l G M_X12_status (D + 0) 0 0 as S I J z Q := by
  intro as S I J z Q h
  unfold sp_X12_status at h
  split at h
  · exact fq_enter _ (by decide +kernel) (Nat.le_of_ble_eq_true rfl) rfl (b_X12_status_0 _ _ _ _ _ _ _ _ h)
  · exact h.elim
theorem dX12_top_0 : decode cX12_top 0 = .ok (.aload_n 0, 1) := by decide +kernel
theorem dX12_top_1 : decode cX12_top 1 = .ok (.getfield 72, 3) := by decide +kernel
theorem dX12_top_4 : decode cX12_top 4 = .ok (.lreturn, 1) := by decide +kernel
abbrev M_X12_top : MT := (yX12_top, cX12_top, 1, (some .long))
theorem cf_X12_top : fq_cf M_X12_top 0 := ⟨(mg_1 (List.mem_of_getElem? (i := 15) rfl) rfl), (mg_7 (List.mem_of_getElem? (i := 56) rfl) rfl), ⟨by decide, by decide, by decide +kernel⟩, by decide⟩
def B_X12_top_0 (G : GT) (mc ms : Nat) (Q : Post) : Cn := ix_aload 0 (ix_getJ 12 3 (ix_lret mc ms Q))
theorem b_X12_top_0 {l : Launch} {G : GT} {D mc ms : Nat} {Q : Post} : Imp l G M_X12_top (D + 0) mc ms Q (B_X12_top_0 G mc ms Q) 0 := sx_aload_n dX12_top_0 rfl (sx_getJ dX12_top_1 fl_FootQuarrelModel_72 (fun _ _ _ => rfl) (sx_lret dX12_top_4 rfl))
def sp_X12_top (G : GT) : Sp := fun as S I J z Q => match as with
  | [.ref a0] => B_X12_top_0 G 0 0 Q [some (.ref a0)] [] S I J z 0 0
  | _ => False
theorem c_X12_top {l : Launch} {G : GT} {D : Nat} : ∀ as S I J z Q, sp_X12_top G as S I J z Q → fqCall l G M_X12_top (D + 0) 0 0 as S I J z Q := by
  intro as S I J z Q h
  unfold sp_X12_top at h
  split at h
  · exact fq_enter _ (by decide +kernel) (Nat.le_of_ble_eq_true rfl) rfl (b_X12_top_0 _ _ _ _ _ _ _ _ h)
  · exact h.elim
theorem dX12_bottom_0 : decode cX12_bottom 0 = .ok (.aload_n 0, 1) := by decide +kernel
theorem dX12_bottom_1 : decode cX12_bottom 1 = .ok (.getfield 17, 3) := by decide +kernel
theorem dX12_bottom_4 : decode cX12_bottom 4 = .ok (.lreturn, 1) := by decide +kernel
abbrev M_X12_bottom : MT := (yX12_bottom, cX12_bottom, 1, (some .long))
theorem cf_X12_bottom : fq_cf M_X12_bottom 0 := ⟨(mg_1 (List.mem_of_getElem? (i := 15) rfl) rfl), (mg_7 (List.mem_of_getElem? (i := 60) rfl) rfl), ⟨by decide, by decide, by decide +kernel⟩, by decide⟩
def B_X12_bottom_0 (G : GT) (mc ms : Nat) (Q : Post) : Cn := ix_aload 0 (ix_getJ 12 4 (ix_lret mc ms Q))
theorem b_X12_bottom_0 {l : Launch} {G : GT} {D mc ms : Nat} {Q : Post} : Imp l G M_X12_bottom (D + 0) mc ms Q (B_X12_bottom_0 G mc ms Q) 0 := sx_aload_n dX12_bottom_0 rfl (sx_getJ dX12_bottom_1 fl_FootQuarrelModel_17 (fun _ _ _ => rfl) (sx_lret dX12_bottom_4 rfl))
def sp_X12_bottom (G : GT) : Sp := fun as S I J z Q => match as with
  | [.ref a0] => B_X12_bottom_0 G 0 0 Q [some (.ref a0)] [] S I J z 0 0
  | _ => False
theorem c_X12_bottom {l : Launch} {G : GT} {D : Nat} : ∀ as S I J z Q, sp_X12_bottom G as S I J z Q → fqCall l G M_X12_bottom (D + 0) 0 0 as S I J z Q := by
  intro as S I J z Q h
  unfold sp_X12_bottom at h
  split at h
  · exact fq_enter _ (by decide +kernel) (Nat.le_of_ble_eq_true rfl) rfl (b_X12_bottom_0 _ _ _ _ _ _ _ _ h)
  · exact h.elim
theorem dX12_refuse_0 : decode cX12_refuse 0 = .ok (.aload_n 0, 1) := by decide +kernel
theorem dX12_refuse_1 : decode cX12_refuse 1 = .ok (.iload_n 1, 1) := by decide +kernel
theorem dX12_refuse_2 : decode cX12_refuse 2 = .ok (.putfield 69, 3) := by decide +kernel
theorem dX12_refuse_5 : decode cX12_refuse 5 = .ok (.iconst (-1), 1) := by decide +kernel
theorem dX12_refuse_6 : decode cX12_refuse 6 = .ok (.ireturn, 1) := by decide +kernel
abbrev M_X12_refuse : MT := (yX12_refuse, cX12_refuse, 2, (some .int))
theorem cf_X12_refuse : fq_cf M_X12_refuse 1 := ⟨(mg_1 (List.mem_of_getElem? (i := 15) rfl) rfl), (mg_7 (List.mem_of_getElem? (i := 131) rfl) rfl), ⟨by decide, by decide, by decide +kernel⟩, by decide⟩
def B_X12_refuse_0 (G : GT) (mc ms : Nat) (Q : Post) : Cn := ix_aload 0 (ix_iload 1 (ix_putI 12 2 (ix_pushI (-1) (ix_iret mc ms Q))))
theorem b_X12_refuse_0 {l : Launch} {G : GT} {D mc ms : Nat} {Q : Post} : Imp l G M_X12_refuse (D + 0) mc ms Q (B_X12_refuse_0 G mc ms Q) 0 := sx_aload_n dX12_refuse_0 rfl (sx_iload_n dX12_refuse_1 rfl (sx_putI dX12_refuse_2 fl_FootQuarrelModel_69 (by decide) (fun _ _ _ => rfl) (fun _ => ⟨rfl, rfl⟩) (sx_iconst dX12_refuse_5 rfl (sx_iret dX12_refuse_6 rfl))))
def sp_X12_refuse (G : GT) : Sp := fun as S I J z Q => match as with
  | [.ref a0, .int a1] => B_X12_refuse_0 G 0 0 Q [some (.ref a0), some (.int a1)] [] S I J z 0 0
  | _ => False
theorem c_X12_refuse {l : Launch} {G : GT} {D : Nat} : ∀ as S I J z Q, sp_X12_refuse G as S I J z Q → fqCall l G M_X12_refuse (D + 0) 0 0 as S I J z Q := by
  intro as S I J z Q h
  unfold sp_X12_refuse at h
  split at h
  · exact fq_enter _ (by decide +kernel) (Nat.le_of_ble_eq_true rfl) rfl (b_X12_refuse_0 _ _ _ _ _ _ _ _ h)
  · exact h.elim
theorem dX12_gives_0 : decode cX12_gives 0 = .ok (.aload_n 0, 1) := by decide +kernel
theorem dX12_gives_1 : decode cX12_gives 1 = .ok (.iconst 0, 1) := by decide +kernel
theorem dX12_gives_2 : decode cX12_gives 2 = .ok (.putfield 69, 3) := by decide +kernel
theorem dX12_gives_5 : decode cX12_gives 5 = .ok (.iload_n 1, 1) := by decide +kernel
theorem dX12_gives_6 : decode cX12_gives 6 = .ok (.ireturn, 1) := by decide +kernel
abbrev M_X12_gives : MT := (yX12_gives, cX12_gives, 2, (some .int))
theorem cf_X12_gives : fq_cf M_X12_gives 1 := ⟨(mg_1 (List.mem_of_getElem? (i := 15) rfl) rfl), (mg_7 (List.mem_of_getElem? (i := 207) rfl) rfl), ⟨by decide, by decide, by decide +kernel⟩, by decide⟩
def B_X12_gives_0 (G : GT) (mc ms : Nat) (Q : Post) : Cn := ix_aload 0 (ix_pushI 0 (ix_putI 12 2 (ix_iload 1 (ix_iret mc ms Q))))
theorem b_X12_gives_0 {l : Launch} {G : GT} {D mc ms : Nat} {Q : Post} : Imp l G M_X12_gives (D + 0) mc ms Q (B_X12_gives_0 G mc ms Q) 0 := sx_aload_n dX12_gives_0 rfl (sx_iconst dX12_gives_1 rfl (sx_putI dX12_gives_2 fl_FootQuarrelModel_69 (by decide) (fun _ _ _ => rfl) (fun _ => ⟨rfl, rfl⟩) (sx_iload_n dX12_gives_5 rfl (sx_iret dX12_gives_6 rfl))))
def sp_X12_gives (G : GT) : Sp := fun as S I J z Q => match as with
  | [.ref a0, .int a1] => B_X12_gives_0 G 0 0 Q [some (.ref a0), some (.int a1)] [] S I J z 0 0
  | _ => False
theorem c_X12_gives {l : Launch} {G : GT} {D : Nat} : ∀ as S I J z Q, sp_X12_gives G as S I J z Q → fqCall l G M_X12_gives (D + 0) 0 0 as S I J z Q := by
  intro as S I J z Q h
  unfold sp_X12_gives at h
  split at h
  · exact fq_enter _ (by decide +kernel) (Nat.le_of_ble_eq_true rfl) rfl (b_X12_gives_0 _ _ _ _ _ _ _ _ h)
  · exact h.elim
theorem dX12_orNone_0 : decode cX12_orNone 0 = .ok (.iload_n 1, 1) := by decide +kernel
theorem dX12_orNone_1 : decode cX12_orNone 1 = .ok (.iconst (-1), 1) := by decide +kernel
theorem dX12_orNone_2 : decode cX12_orNone 2 = .ok (.if_icmp .ne 12, 3) := by decide +kernel
theorem dX12_orNone_5 : decode cX12_orNone 5 = .ok (.aload_n 0, 1) := by decide +kernel
theorem dX12_orNone_6 : decode cX12_orNone 6 = .ok (.bipush 6, 2) := by decide +kernel
theorem dX12_orNone_8 : decode cX12_orNone 8 = .ok (.invokevirtual 75, 3) := by decide +kernel
theorem dX12_orNone_11 : decode cX12_orNone 11 = .ok (.goto 8, 3) := by decide +kernel
theorem dX12_orNone_14 : decode cX12_orNone 14 = .ok (.aload_n 0, 1) := by decide +kernel
theorem dX12_orNone_15 : decode cX12_orNone 15 = .ok (.iload_n 1, 1) := by decide +kernel
theorem dX12_orNone_16 : decode cX12_orNone 16 = .ok (.invokevirtual 79, 3) := by decide +kernel
theorem dX12_orNone_19 : decode cX12_orNone 19 = .ok (.ireturn, 1) := by decide +kernel
abbrev M_X12_orNone : MT := (yX12_orNone, cX12_orNone, 2, (some .int))
theorem cf_X12_orNone : fq_cf M_X12_orNone 1 := ⟨(mg_1 (List.mem_of_getElem? (i := 15) rfl) rfl), (mg_8 (List.mem_of_getElem? (i := 222) rfl) rfl), ⟨by decide, by decide, by decide +kernel⟩, by decide⟩
def B_X12_orNone_19 (G : GT) (mc ms : Nat) (Q : Post) : Cn := ix_iret mc ms Q
theorem b_X12_orNone_19 {l : Launch} {G : GT} {D mc ms : Nat} {Q : Post} : Imp l G M_X12_orNone (D + 1) mc ms Q (B_X12_orNone_19 G mc ms Q) 19 := sx_iret dX12_orNone_19 rfl
def B_X12_orNone_0 (G : GT) (mc ms : Nat) (Q : Post) : Cn := ix_iload 1 (ix_pushI (-1) (ix_icmp_ne (ix_aload 0 (ix_iload 1 (ix_vcall 12 2 0 0 mc ms (sp_X12_gives G) ((B_X12_orNone_19 G mc ms Q))))) (ix_aload 0 (ix_pushI 6 (ix_vcall 12 2 0 0 mc ms (sp_X12_refuse G) ((B_X12_orNone_19 G mc ms Q)))))))
theorem b_X12_orNone_0 {l : Launch} {G : GT} {D mc ms : Nat} {Q : Post} : Imp l G M_X12_orNone (D + 1) mc ms Q (B_X12_orNone_0 G mc ms Q) 0 := sx_iload_n dX12_orNone_0 rfl (sx_iconst dX12_orNone_1 rfl (sx_icmp_ne 14 dX12_orNone_2 (by decide) (sx_aload_n dX12_orNone_14 rfl (sx_iload_n dX12_orNone_15 rfl (sx_vcall dX12_orNone_16 cf_X12_gives (mg_7 (List.mem_of_getElem? (i := 204) rfl) rfl) (mg_7 (List.mem_of_getElem? (i := 206) rfl) rfl) (mg_p (List.mem_of_getElem? (i := 72) rfl) rfl) rfl c_X12_gives (b_X12_orNone_19)))) (sx_aload_n dX12_orNone_5 rfl (sx_bipush dX12_orNone_6 rfl (sx_vcall dX12_orNone_8 cf_X12_refuse (mg_7 (List.mem_of_getElem? (i := 128) rfl) rfl) (mg_7 (List.mem_of_getElem? (i := 130) rfl) rfl) (mg_p (List.mem_of_getElem? (i := 54) rfl) rfl) rfl c_X12_refuse (sx_goto 19 dX12_orNone_11 (by decide) (b_X12_orNone_19)))))))
def sp_X12_orNone (G : GT) : Sp := fun as S I J z Q => match as with
  | [.ref a0, .int a1] => B_X12_orNone_0 G 0 0 Q [some (.ref a0), some (.int a1)] [] S I J z 0 0
  | _ => False
theorem c_X12_orNone {l : Launch} {G : GT} {D : Nat} : ∀ as S I J z Q, sp_X12_orNone G as S I J z Q → fqCall l G M_X12_orNone (D + 1) 0 0 as S I J z Q := by
  intro as S I J z Q h
  unfold sp_X12_orNone at h
  split at h
  · exact fq_enter _ (by decide +kernel) (Nat.le_of_ble_eq_true rfl) rfl (b_X12_orNone_0 _ _ _ _ _ _ _ _ h)
  · exact h.elim
theorem dX12_is_0 : decode cX12_is 0 = .ok (.aload_n 0, 1) := by decide +kernel
theorem dX12_is_1 : decode cX12_is 1 = .ok (.iload_n 1, 1) := by decide +kernel
theorem dX12_is_2 : decode cX12_is 2 = .ok (.putfield 69, 3) := by decide +kernel
theorem dX12_is_5 : decode cX12_is 5 = .ok (.iload_n 1, 1) := by decide +kernel
theorem dX12_is_6 : decode cX12_is 6 = .ok (.ifCond .ne 7, 3) := by decide +kernel
theorem dX12_is_9 : decode cX12_is 9 = .ok (.iconst 1, 1) := by decide +kernel
theorem dX12_is_10 : decode cX12_is 10 = .ok (.goto 4, 3) := by decide +kernel
theorem dX12_is_13 : decode cX12_is 13 = .ok (.iconst 0, 1) := by decide +kernel
theorem dX12_is_14 : decode cX12_is 14 = .ok (.ireturn, 1) := by decide +kernel
abbrev M_X12_is : MT := (yX12_is, cX12_is, 2, (some .boolean))
theorem cf_X12_is : fq_cf M_X12_is 1 := ⟨(mg_1 (List.mem_of_getElem? (i := 15) rfl) rfl), (mg_7 (List.mem_of_getElem? (i := 71) rfl) rfl), ⟨by decide, by decide, by decide +kernel⟩, by decide⟩
def B_X12_is_14 (G : GT) (mc ms : Nat) (Q : Post) : Cn := ix_zret mc ms Q
theorem b_X12_is_14 {l : Launch} {G : GT} {D mc ms : Nat} {Q : Post} : Imp l G M_X12_is (D + 0) mc ms Q (B_X12_is_14 G mc ms Q) 14 := sx_zret dX12_is_14 rfl
def B_X12_is_0 (G : GT) (mc ms : Nat) (Q : Post) : Cn := ix_aload 0 (ix_iload 1 (ix_putI 12 2 (ix_iload 1 (ix_if_ne (ix_pushI 0 ((B_X12_is_14 G mc ms Q))) (ix_pushI 1 ((B_X12_is_14 G mc ms Q)))))))
theorem b_X12_is_0 {l : Launch} {G : GT} {D mc ms : Nat} {Q : Post} : Imp l G M_X12_is (D + 0) mc ms Q (B_X12_is_0 G mc ms Q) 0 := sx_aload_n dX12_is_0 rfl (sx_iload_n dX12_is_1 rfl (sx_putI dX12_is_2 fl_FootQuarrelModel_69 (by decide) (fun _ _ _ => rfl) (fun _ => ⟨rfl, rfl⟩) (sx_iload_n dX12_is_5 rfl (sx_if_ne 13 dX12_is_6 (by decide) (sx_iconst dX12_is_13 rfl (b_X12_is_14)) (sx_iconst dX12_is_9 rfl (sx_goto 14 dX12_is_10 (by decide) (b_X12_is_14)))))))
def sp_X12_is (G : GT) : Sp := fun as S I J z Q => match as with
  | [.ref a0, .int a1] => B_X12_is_0 G 0 0 Q [some (.ref a0), some (.int a1)] [] S I J z 0 0
  | _ => False
theorem c_X12_is {l : Launch} {G : GT} {D : Nat} : ∀ as S I J z Q, sp_X12_is G as S I J z Q → fqCall l G M_X12_is (D + 0) 0 0 as S I J z Q := by
  intro as S I J z Q h
  unfold sp_X12_is at h
  split at h
  · exact fq_enter _ (by decide +kernel) (Nat.le_of_ble_eq_true rfl) rfl (b_X12_is_0 _ _ _ _ _ _ _ _ h)
  · exact h.elim
theorem dX12_houseRow_0 : decode cX12_houseRow 0 = .ok (.bipush 12, 2) := by decide +kernel
theorem dX12_houseRow_2 : decode cX12_houseRow 2 = .ok (.iconst 3, 1) := by decide +kernel
theorem dX12_houseRow_3 : decode cX12_houseRow 3 = .ok (.iload_n 0, 1) := by decide +kernel
theorem dX12_houseRow_4 : decode cX12_houseRow 4 = .ok (.imul, 1) := by decide +kernel
theorem dX12_houseRow_5 : decode cX12_houseRow 5 = .ok (.iadd, 1) := by decide +kernel
theorem dX12_houseRow_6 : decode cX12_houseRow 6 = .ok (.ireturn, 1) := by decide +kernel
abbrev M_X12_houseRow : MT := (yX12_houseRow, cX12_houseRow, 1, (some .int))
theorem cf_X12_houseRow : fq_cf M_X12_houseRow 1 := ⟨(mg_1 (List.mem_of_getElem? (i := 15) rfl) rfl), (mg_8 (List.mem_of_getElem? (i := 13) rfl) rfl), ⟨by decide, by decide, by decide +kernel⟩, by decide⟩
def B_X12_houseRow_0 (G : GT) (mc ms : Nat) (Q : Post) : Cn := ix_pushI 12 (ix_pushI 3 (ix_iload 0 (ix_imul (ix_iadd (ix_iret mc ms Q)))))
theorem b_X12_houseRow_0 {l : Launch} {G : GT} {D mc ms : Nat} {Q : Post} : Imp l G M_X12_houseRow (D + 0) mc ms Q (B_X12_houseRow_0 G mc ms Q) 0 := sx_bipush dX12_houseRow_0 rfl (sx_iconst dX12_houseRow_2 rfl (sx_iload_n dX12_houseRow_3 rfl (sx_imul dX12_houseRow_4 (sx_iadd dX12_houseRow_5 (sx_iret dX12_houseRow_6 rfl)))))
def sp_X12_houseRow (G : GT) : Sp := fun as S I J z Q => match as with
  | [.int a0] => B_X12_houseRow_0 G 0 0 Q [some (.int a0)] [] S I J z 0 0
  | _ => False
theorem c_X12_houseRow {l : Launch} {G : GT} {D : Nat} : ∀ as S I J z Q, sp_X12_houseRow G as S I J z Q → fqCall l G M_X12_houseRow (D + 0) 0 0 as S I J z Q := by
  intro as S I J z Q h
  unfold sp_X12_houseRow at h
  split at h
  · exact fq_enter _ (by decide +kernel) (Nat.le_of_ble_eq_true rfl) rfl (b_X12_houseRow_0 _ _ _ _ _ _ _ _ h)
  · exact h.elim
theorem dX12_personRow_0 : decode cX12_personRow 0 = .ok (.bipush 30, 2) := by decide +kernel
theorem dX12_personRow_2 : decode cX12_personRow 2 = .ok (.bipush 7, 2) := by decide +kernel
theorem dX12_personRow_4 : decode cX12_personRow 4 = .ok (.iload_n 0, 1) := by decide +kernel
theorem dX12_personRow_5 : decode cX12_personRow 5 = .ok (.imul, 1) := by decide +kernel
theorem dX12_personRow_6 : decode cX12_personRow 6 = .ok (.iadd, 1) := by decide +kernel
theorem dX12_personRow_7 : decode cX12_personRow 7 = .ok (.ireturn, 1) := by decide +kernel
abbrev M_X12_personRow : MT := (yX12_personRow, cX12_personRow, 1, (some .int))
theorem cf_X12_personRow : fq_cf M_X12_personRow 1 := ⟨(mg_1 (List.mem_of_getElem? (i := 15) rfl) rfl), (mg_8 (List.mem_of_getElem? (i := 6) rfl) rfl), ⟨by decide, by decide, by decide +kernel⟩, by decide⟩
def B_X12_personRow_0 (G : GT) (mc ms : Nat) (Q : Post) : Cn := ix_pushI 30 (ix_pushI 7 (ix_iload 0 (ix_imul (ix_iadd (ix_iret mc ms Q)))))
theorem b_X12_personRow_0 {l : Launch} {G : GT} {D mc ms : Nat} {Q : Post} : Imp l G M_X12_personRow (D + 0) mc ms Q (B_X12_personRow_0 G mc ms Q) 0 := sx_bipush dX12_personRow_0 rfl (sx_bipush dX12_personRow_2 rfl (sx_iload_n dX12_personRow_4 rfl (sx_imul dX12_personRow_5 (sx_iadd dX12_personRow_6 (sx_iret dX12_personRow_7 rfl)))))
def sp_X12_personRow (G : GT) : Sp := fun as S I J z Q => match as with
  | [.int a0] => B_X12_personRow_0 G 0 0 Q [some (.int a0)] [] S I J z 0 0
  | _ => False
theorem c_X12_personRow {l : Launch} {G : GT} {D : Nat} : ∀ as S I J z Q, sp_X12_personRow G as S I J z Q → fqCall l G M_X12_personRow (D + 0) 0 0 as S I J z Q := by
  intro as S I J z Q h
  unfold sp_X12_personRow at h
  split at h
  · exact fq_enter _ (by decide +kernel) (Nat.le_of_ble_eq_true rfl) rfl (b_X12_personRow_0 _ _ _ _ _ _ _ _ h)
  · exact h.elim
theorem dX12_quarrelRow_0 : decode cX12_quarrelRow 0 = .ok (.bipush 86, 2) := by decide +kernel
theorem dX12_quarrelRow_2 : decode cX12_quarrelRow 2 = .ok (.bipush 7, 2) := by decide +kernel
theorem dX12_quarrelRow_4 : decode cX12_quarrelRow 4 = .ok (.iload_n 0, 1) := by decide +kernel
theorem dX12_quarrelRow_5 : decode cX12_quarrelRow 5 = .ok (.imul, 1) := by decide +kernel
theorem dX12_quarrelRow_6 : decode cX12_quarrelRow 6 = .ok (.iadd, 1) := by decide +kernel
theorem dX12_quarrelRow_7 : decode cX12_quarrelRow 7 = .ok (.ireturn, 1) := by decide +kernel
abbrev M_X12_quarrelRow : MT := (yX12_quarrelRow, cX12_quarrelRow, 1, (some .int))
theorem cf_X12_quarrelRow : fq_cf M_X12_quarrelRow 1 := ⟨(mg_1 (List.mem_of_getElem? (i := 15) rfl) rfl), (mg_8 (List.mem_of_getElem? (i := 60) rfl) rfl), ⟨by decide, by decide, by decide +kernel⟩, by decide⟩
def B_X12_quarrelRow_0 (G : GT) (mc ms : Nat) (Q : Post) : Cn := ix_pushI 86 (ix_pushI 7 (ix_iload 0 (ix_imul (ix_iadd (ix_iret mc ms Q)))))
theorem b_X12_quarrelRow_0 {l : Launch} {G : GT} {D mc ms : Nat} {Q : Post} : Imp l G M_X12_quarrelRow (D + 0) mc ms Q (B_X12_quarrelRow_0 G mc ms Q) 0 := sx_bipush dX12_quarrelRow_0 rfl (sx_bipush dX12_quarrelRow_2 rfl (sx_iload_n dX12_quarrelRow_4 rfl (sx_imul dX12_quarrelRow_5 (sx_iadd dX12_quarrelRow_6 (sx_iret dX12_quarrelRow_7 rfl)))))
def sp_X12_quarrelRow (G : GT) : Sp := fun as S I J z Q => match as with
  | [.int a0] => B_X12_quarrelRow_0 G 0 0 Q [some (.int a0)] [] S I J z 0 0
  | _ => False
theorem c_X12_quarrelRow {l : Launch} {G : GT} {D : Nat} : ∀ as S I J z Q, sp_X12_quarrelRow G as S I J z Q → fqCall l G M_X12_quarrelRow (D + 0) 0 0 as S I J z Q := by
  intro as S I J z Q h
  unfold sp_X12_quarrelRow at h
  split at h
  · exact fq_enter _ (by decide +kernel) (Nat.le_of_ble_eq_true rfl) rfl (b_X12_quarrelRow_0 _ _ _ _ _ _ _ _ h)
  · exact h.elim
theorem dX12_levelAt_0 : decode cX12_levelAt 0 = .ok (.sipush 3564, 3) := by decide +kernel
theorem dX12_levelAt_3 : decode cX12_levelAt 3 = .ok (.sipush 226, 3) := by decide +kernel
theorem dX12_levelAt_6 : decode cX12_levelAt 6 = .ok (.iload_n 0, 1) := by decide +kernel
theorem dX12_levelAt_7 : decode cX12_levelAt 7 = .ok (.imul, 1) := by decide +kernel
theorem dX12_levelAt_8 : decode cX12_levelAt 8 = .ok (.iadd, 1) := by decide +kernel
theorem dX12_levelAt_9 : decode cX12_levelAt 9 = .ok (.ireturn, 1) := by decide +kernel
abbrev M_X12_levelAt : MT := (yX12_levelAt, cX12_levelAt, 1, (some .int))
theorem cf_X12_levelAt : fq_cf M_X12_levelAt 1 := ⟨(mg_1 (List.mem_of_getElem? (i := 15) rfl) rfl), (mg_9 (List.mem_of_getElem? (i := 46) rfl) rfl), ⟨by decide, by decide, by decide +kernel⟩, by decide⟩
def B_X12_levelAt_0 (G : GT) (mc ms : Nat) (Q : Post) : Cn := ix_pushI 3564 (ix_pushI 226 (ix_iload 0 (ix_imul (ix_iadd (ix_iret mc ms Q)))))
theorem b_X12_levelAt_0 {l : Launch} {G : GT} {D mc ms : Nat} {Q : Post} : Imp l G M_X12_levelAt (D + 0) mc ms Q (B_X12_levelAt_0 G mc ms Q) 0 := sx_sipush dX12_levelAt_0 rfl (sx_sipush dX12_levelAt_3 rfl (sx_iload_n dX12_levelAt_6 rfl (sx_imul dX12_levelAt_7 (sx_iadd dX12_levelAt_8 (sx_iret dX12_levelAt_9 rfl)))))
def sp_X12_levelAt (G : GT) : Sp := fun as S I J z Q => match as with
  | [.int a0] => B_X12_levelAt_0 G 0 0 Q [some (.int a0)] [] S I J z 0 0
  | _ => False
theorem c_X12_levelAt {l : Launch} {G : GT} {D : Nat} : ∀ as S I J z Q, sp_X12_levelAt G as S I J z Q → fqCall l G M_X12_levelAt (D + 0) 0 0 as S I J z Q := by
  intro as S I J z Q h
  unfold sp_X12_levelAt at h
  split at h
  · exact fq_enter _ (by decide +kernel) (Nat.le_of_ble_eq_true rfl) rfl (b_X12_levelAt_0 _ _ _ _ _ _ _ _ h)
  · exact h.elim
theorem dX12_wideOf_0 : decode cX12_wideOf 0 = .ok (.aload_n 0, 1) := by decide +kernel
theorem dX12_wideOf_1 : decode cX12_wideOf 1 = .ok (.getfield 7, 3) := by decide +kernel
theorem dX12_wideOf_4 : decode cX12_wideOf 4 = .ok (.iload_n 1, 1) := by decide +kernel
theorem dX12_wideOf_5 : decode cX12_wideOf 5 = .ok (.invokestatic 247, 3) := by decide +kernel
theorem dX12_wideOf_8 : decode cX12_wideOf 8 = .ok (.iaload, 1) := by decide +kernel
theorem dX12_wideOf_9 : decode cX12_wideOf 9 = .ok (.ireturn, 1) := by decide +kernel
abbrev M_X12_wideOf : MT := (yX12_wideOf, cX12_wideOf, 2, (some .int))
theorem cf_X12_wideOf : fq_cf M_X12_wideOf 1 := ⟨(mg_1 (List.mem_of_getElem? (i := 15) rfl) rfl), (mg_8 (List.mem_of_getElem? (i := 10) rfl) rfl), ⟨by decide, by decide, by decide +kernel⟩, by decide⟩
def B_X12_wideOf_0 (G : GT) (mc ms : Nat) (Q : Post) : Cn := ix_aload 0 (ix_getR 12 0 (ix_iload 1 (ix_call 1 0 0 mc ms (sp_X12_houseRow G) (ix_iald (ix_iret mc ms Q)))))
theorem b_X12_wideOf_0 {l : Launch} {G : GT} {D mc ms : Nat} {Q : Post} : Imp l G M_X12_wideOf (D + 1) mc ms Q (B_X12_wideOf_0 G mc ms Q) 0 := sx_aload_n dX12_wideOf_0 rfl (sx_getR dX12_wideOf_1 fl_FootQuarrelModel_7 (fun _ _ _ => rfl) (sx_iload_n dX12_wideOf_4 rfl (sx_scall dX12_wideOf_5 cf_X12_houseRow (mg_8 (List.mem_of_getElem? (i := 11) rfl) rfl) (mg_8 (List.mem_of_getElem? (i := 12) rfl) rfl) c_X12_houseRow (sx_iald dX12_wideOf_8 (sx_iret dX12_wideOf_9 rfl)))))
def sp_X12_wideOf (G : GT) : Sp := fun as S I J z Q => match as with
  | [.ref a0, .int a1] => B_X12_wideOf_0 G 0 0 Q [some (.ref a0), some (.int a1)] [] S I J z 0 0
  | _ => False
theorem c_X12_wideOf {l : Launch} {G : GT} {D : Nat} : ∀ as S I J z Q, sp_X12_wideOf G as S I J z Q → fqCall l G M_X12_wideOf (D + 1) 0 0 as S I J z Q := by
  intro as S I J z Q h
  unfold sp_X12_wideOf at h
  split at h
  · exact fq_enter _ (by decide +kernel) (Nat.le_of_ble_eq_true rfl) rfl (b_X12_wideOf_0 _ _ _ _ _ _ _ _ h)
  · exact h.elim
theorem dX12_personOf_0 : decode cX12_personOf 0 = .ok (.aload_n 0, 1) := by decide +kernel
theorem dX12_personOf_1 : decode cX12_personOf 1 = .ok (.getfield 7, 3) := by decide +kernel
theorem dX12_personOf_4 : decode cX12_personOf 4 = .ok (.iload_n 1, 1) := by decide +kernel
theorem dX12_personOf_5 : decode cX12_personOf 5 = .ok (.invokestatic 250, 3) := by decide +kernel
theorem dX12_personOf_8 : decode cX12_personOf 8 = .ok (.iload_n 2, 1) := by decide +kernel
theorem dX12_personOf_9 : decode cX12_personOf 9 = .ok (.iadd, 1) := by decide +kernel
theorem dX12_personOf_10 : decode cX12_personOf 10 = .ok (.iaload, 1) := by decide +kernel
theorem dX12_personOf_11 : decode cX12_personOf 11 = .ok (.ireturn, 1) := by decide +kernel
abbrev M_X12_personOf : MT := (yX12_personOf, cX12_personOf, 3, (some .int))
theorem cf_X12_personOf : fq_cf M_X12_personOf 2 := ⟨(mg_1 (List.mem_of_getElem? (i := 15) rfl) rfl), (mg_8 (List.mem_of_getElem? (i := 3) rfl) rfl), ⟨by decide, by decide, by decide +kernel⟩, by decide⟩
def B_X12_personOf_0 (G : GT) (mc ms : Nat) (Q : Post) : Cn := ix_aload 0 (ix_getR 12 0 (ix_iload 1 (ix_call 1 0 0 mc ms (sp_X12_personRow G) (ix_iload 2 (ix_iadd (ix_iald (ix_iret mc ms Q)))))))
theorem b_X12_personOf_0 {l : Launch} {G : GT} {D mc ms : Nat} {Q : Post} : Imp l G M_X12_personOf (D + 1) mc ms Q (B_X12_personOf_0 G mc ms Q) 0 := sx_aload_n dX12_personOf_0 rfl (sx_getR dX12_personOf_1 fl_FootQuarrelModel_7 (fun _ _ _ => rfl) (sx_iload_n dX12_personOf_4 rfl (sx_scall dX12_personOf_5 cf_X12_personRow (mg_8 (List.mem_of_getElem? (i := 4) rfl) rfl) (mg_8 (List.mem_of_getElem? (i := 5) rfl) rfl) c_X12_personRow (sx_iload_n dX12_personOf_8 rfl (sx_iadd dX12_personOf_9 (sx_iald dX12_personOf_10 (sx_iret dX12_personOf_11 rfl)))))))
def sp_X12_personOf (G : GT) : Sp := fun as S I J z Q => match as with
  | [.ref a0, .int a1, .int a2] => B_X12_personOf_0 G 0 0 Q [some (.ref a0), some (.int a1), some (.int a2)] [] S I J z 0 0
  | _ => False
theorem c_X12_personOf {l : Launch} {G : GT} {D : Nat} : ∀ as S I J z Q, sp_X12_personOf G as S I J z Q → fqCall l G M_X12_personOf (D + 1) 0 0 as S I J z Q := by
  intro as S I J z Q h
  unfold sp_X12_personOf at h
  split at h
  · exact fq_enter _ (by decide +kernel) (Nat.le_of_ble_eq_true rfl) rfl (b_X12_personOf_0 _ _ _ _ _ _ _ _ h)
  · exact h.elim
theorem dX12_homeOf_0 : decode cX12_homeOf 0 = .ok (.aload_n 0, 1) := by decide +kernel
theorem dX12_homeOf_1 : decode cX12_homeOf 1 = .ok (.iload_n 1, 1) := by decide +kernel
theorem dX12_homeOf_2 : decode cX12_homeOf 2 = .ok (.iconst 0, 1) := by decide +kernel
theorem dX12_homeOf_3 : decode cX12_homeOf 3 = .ok (.invokevirtual 253, 3) := by decide +kernel
theorem dX12_homeOf_6 : decode cX12_homeOf 6 = .ok (.ireturn, 1) := by decide +kernel
abbrev M_X12_homeOf : MT := (yX12_homeOf, cX12_homeOf, 2, (some .int))
theorem cf_X12_homeOf : fq_cf M_X12_homeOf 1 := ⟨(mg_1 (List.mem_of_getElem? (i := 15) rfl) rfl), (mg_8 (List.mem_of_getElem? (i := 29) rfl) rfl), ⟨by decide, by decide, by decide +kernel⟩, by decide⟩
def B_X12_homeOf_0 (G : GT) (mc ms : Nat) (Q : Post) : Cn := ix_aload 0 (ix_iload 1 (ix_pushI 0 (ix_vcall 12 3 0 0 mc ms (sp_X12_personOf G) (ix_iret mc ms Q))))
theorem b_X12_homeOf_0 {l : Launch} {G : GT} {D mc ms : Nat} {Q : Post} : Imp l G M_X12_homeOf (D + 2) mc ms Q (B_X12_homeOf_0 G mc ms Q) 0 := sx_aload_n dX12_homeOf_0 rfl (sx_iload_n dX12_homeOf_1 rfl (sx_iconst dX12_homeOf_2 rfl (sx_vcall dX12_homeOf_3 cf_X12_personOf (mg_8 (List.mem_of_getElem? (i := 0) rfl) rfl) (mg_8 (List.mem_of_getElem? (i := 2) rfl) rfl) (mg_p (List.mem_of_getElem? (i := 79) rfl) rfl) rfl c_X12_personOf (sx_iret dX12_homeOf_6 rfl))))
def sp_X12_homeOf (G : GT) : Sp := fun as S I J z Q => match as with
  | [.ref a0, .int a1] => B_X12_homeOf_0 G 0 0 Q [some (.ref a0), some (.int a1)] [] S I J z 0 0
  | _ => False
theorem c_X12_homeOf {l : Launch} {G : GT} {D : Nat} : ∀ as S I J z Q, sp_X12_homeOf G as S I J z Q → fqCall l G M_X12_homeOf (D + 2) 0 0 as S I J z Q := by
  intro as S I J z Q h
  unfold sp_X12_homeOf at h
  split at h
  · exact fq_enter _ (by decide +kernel) (Nat.le_of_ble_eq_true rfl) rfl (b_X12_homeOf_0 _ _ _ _ _ _ _ _ h)
  · exact h.elim
theorem dX12_loudBy_0 : decode cX12_loudBy 0 = .ok (.iconst 0, 1) := by decide +kernel
theorem dX12_loudBy_1 : decode cX12_loudBy 1 = .ok (.iload_n 1, 1) := by decide +kernel
theorem dX12_loudBy_2 : decode cX12_loudBy 2 = .ok (.iconst 2, 1) := by decide +kernel
theorem dX12_loudBy_3 : decode cX12_loudBy 3 = .ok (.aload_n 0, 1) := by decide +kernel
theorem dX12_loudBy_4 : decode cX12_loudBy 4 = .ok (.getfield 7, 3) := by decide +kernel
theorem dX12_loudBy_7 : decode cX12_loudBy 7 = .ok (.bipush 7, 2) := by decide +kernel
theorem dX12_loudBy_9 : decode cX12_loudBy 9 = .ok (.iaload, 1) := by decide +kernel
theorem dX12_loudBy_10 : decode cX12_loudBy 10 = .ok (.imul, 1) := by decide +kernel
theorem dX12_loudBy_11 : decode cX12_loudBy 11 = .ok (.isub, 1) := by decide +kernel
theorem dX12_loudBy_12 : decode cX12_loudBy 12 = .ok (.invokestatic 295, 3) := by decide +kernel
theorem dX12_loudBy_15 : decode cX12_loudBy 15 = .ok (.ireturn, 1) := by decide +kernel
abbrev M_X12_loudBy : MT := (yX12_loudBy, cX12_loudBy, 2, (some .int))
theorem cf_X12_loudBy : fq_cf M_X12_loudBy 1 := ⟨(mg_1 (List.mem_of_getElem? (i := 15) rfl) rfl), (mg_8 (List.mem_of_getElem? (i := 96) rfl) rfl), ⟨by decide, by decide, by decide +kernel⟩, by decide⟩
def B_X12_loudBy_0 (G : GT) (mc ms : Nat) (Q : Post) : Cn := ix_pushI 0 (ix_iload 1 (ix_pushI 2 (ix_aload 0 (ix_getR 12 0 (ix_pushI 7 (ix_iald (ix_imul (ix_isub (ix_max mc ms (ix_iret mc ms Q))))))))))
theorem b_X12_loudBy_0 {l : Launch} {G : GT} {D mc ms : Nat} {Q : Post} : Imp l G M_X12_loudBy (D + 1) mc ms Q (B_X12_loudBy_0 G mc ms Q) 0 := sx_iconst dX12_loudBy_0 rfl (sx_iload_n dX12_loudBy_1 rfl (sx_iconst dX12_loudBy_2 rfl (sx_aload_n dX12_loudBy_3 rfl (sx_getR dX12_loudBy_4 fl_FootQuarrelModel_7 (fun _ _ _ => rfl) (sx_bipush dX12_loudBy_7 rfl (sx_iald dX12_loudBy_9 (sx_imul dX12_loudBy_10 (sx_isub dX12_loudBy_11 (sx_max dX12_loudBy_12 (mg_8 (List.mem_of_getElem? (i := 97) rfl) rfl) (mg_4 (List.mem_of_getElem? (i := 199) rfl) rfl) (mg_1 (List.mem_of_getElem? (i := 18) rfl) rfl) (mg_4 (List.mem_of_getElem? (i := 200) rfl) rfl) (sx_iret dX12_loudBy_15 rfl))))))))))
theorem dX12_fault_0 : decode cX12_fault 0 = .ok (.iload_n 1, 1) := by decide +kernel
theorem dX12_fault_1 : decode cX12_fault 1 = .ok (.ifCond .ne 10, 3) := by decide +kernel
theorem dX12_fault_4 : decode cX12_fault 4 = .ok (.aload_n 0, 1) := by decide +kernel
theorem dX12_fault_5 : decode cX12_fault 5 = .ok (.getfield 37, 3) := by decide +kernel
theorem dX12_fault_8 : decode cX12_fault 8 = .ok (.goto 16, 3) := by decide +kernel
theorem dX12_fault_11 : decode cX12_fault 11 = .ok (.iload_n 1, 1) := by decide +kernel
theorem dX12_fault_12 : decode cX12_fault 12 = .ok (.iconst 1, 1) := by decide +kernel
theorem dX12_fault_13 : decode cX12_fault 13 = .ok (.if_icmp .ne 10, 3) := by decide +kernel
theorem dX12_fault_16 : decode cX12_fault 16 = .ok (.aload_n 0, 1) := by decide +kernel
theorem dX12_fault_17 : decode cX12_fault 17 = .ok (.getfield 41, 3) := by decide +kernel
theorem dX12_fault_20 : decode cX12_fault 20 = .ok (.goto 4, 3) := by decide +kernel
theorem dX12_fault_23 : decode cX12_fault 23 = .ok (.iconst (-1), 1) := by decide +kernel
theorem dX12_fault_24 : decode cX12_fault 24 = .ok (.ireturn, 1) := by decide +kernel
abbrev M_X12_fault : MT := (yX12_fault, cX12_fault, 2, (some .int))
theorem cf_X12_fault : fq_cf M_X12_fault 1 := ⟨(mg_1 (List.mem_of_getElem? (i := 15) rfl) rfl), (mg_7 (List.mem_of_getElem? (i := 103) rfl) rfl), ⟨by decide, by decide, by decide +kernel⟩, by decide⟩
def B_X12_fault_24 (G : GT) (mc ms : Nat) (Q : Post) : Cn := ix_iret mc ms Q
theorem b_X12_fault_24 {l : Launch} {G : GT} {D mc ms : Nat} {Q : Post} : Imp l G M_X12_fault (D + 0) mc ms Q (B_X12_fault_24 G mc ms Q) 24 := sx_iret dX12_fault_24 rfl
def B_X12_fault_0 (G : GT) (mc ms : Nat) (Q : Post) : Cn := ix_iload 1 (ix_if_ne (ix_iload 1 (ix_pushI 1 (ix_icmp_ne (ix_pushI (-1) ((B_X12_fault_24 G mc ms Q))) (ix_aload 0 (ix_getI 12 17 ((B_X12_fault_24 G mc ms Q))))))) (ix_aload 0 (ix_getI 12 16 ((B_X12_fault_24 G mc ms Q)))))
theorem b_X12_fault_0 {l : Launch} {G : GT} {D mc ms : Nat} {Q : Post} : Imp l G M_X12_fault (D + 0) mc ms Q (B_X12_fault_0 G mc ms Q) 0 := sx_iload_n dX12_fault_0 rfl (sx_if_ne 11 dX12_fault_1 (by decide) (sx_iload_n dX12_fault_11 rfl (sx_iconst dX12_fault_12 rfl (sx_icmp_ne 23 dX12_fault_13 (by decide) (sx_iconst dX12_fault_23 rfl (b_X12_fault_24)) (sx_aload_n dX12_fault_16 rfl (sx_getI dX12_fault_17 fl_FootQuarrelModel_41 (fun _ _ _ => rfl) (sx_goto 24 dX12_fault_20 (by decide) (b_X12_fault_24))))))) (sx_aload_n dX12_fault_4 rfl (sx_getI dX12_fault_5 fl_FootQuarrelModel_37 (fun _ _ _ => rfl) (sx_goto 24 dX12_fault_8 (by decide) (b_X12_fault_24)))))
def sp_X12_fault (G : GT) : Sp := fun as S I J z Q => match as with
  | [.ref a0, .int a1] => B_X12_fault_0 G 0 0 Q [some (.ref a0), some (.int a1)] [] S I J z 0 0
  | _ => False
theorem c_X12_fault {l : Launch} {G : GT} {D : Nat} : ∀ as S I J z Q, sp_X12_fault G as S I J z Q → fqCall l G M_X12_fault (D + 0) 0 0 as S I J z Q := by
  intro as S I J z Q h
  unfold sp_X12_fault at h
  split at h
  · exact fq_enter _ (by decide +kernel) (Nat.le_of_ble_eq_true rfl) rfl (b_X12_fault_0 _ _ _ _ _ _ _ _ h)
  · exact h.elim
def ldr (v r : Int32) : Int32 := if 0 < v - 2 * r then v - 2 * r else 0
theorem ldr_e {v r : Int32} (hr : r = 0 ∨ r = 1) (hv : 0 ≤ v) : ldr v r = ldn v r := by
  unfold ldr ldn
  rcases hr with rfl | rfl
  · rw [show (2 : Int32) * 0 = 0 by decide, Int32.sub_zero, if_pos rfl]
    grind
  · rw [show (2 : Int32) * 1 = 2 by decide, if_neg (show ¬ (1 : Int32) = 0 by decide)]
def sp_X12_loudBy (G : GT) : Sp := fun as S I J z Q => match as with
  | [.ref M, .int v] => rfS S M ∧ Q (some (.int (ldr v (I (M + 1) 7)))) S I J z
  | _ => False
set_option maxHeartbeats 4000000 in
set_option maxRecDepth 20000 in
theorem c_X12_loudBy {l : Launch} {G : GT} {D : Nat} : ∀ as S I J z Q, sp_X12_loudBy G as S I J z Q → fqCall l G M_X12_loudBy (D + 1) 0 0 as S I J z Q := by
  intro as S I J z Q h
  unfold sp_X12_loudBy at h
  split at h
  · next M v =>
    obtain ⟨hm, hQ⟩ := h
    refine fq_enter [some (.ref M), some (.int v)] (by decide +kernel) (Nat.le_of_ble_eq_true rfl) rfl (b_X12_loudBy_0 _ _ _ _ _ _ _ _ ?_)
    simp (disch := omega) only [B_X12_loudBy_0, hm.k, hm.k1, hm.n1, hm.r1, hm.k2, hm.n2, hm.r2, hm.k3, hm.n3, hm.r3, hm.k4, hm.n4, hm.r4, hm.k5, hm.n5, hm.r5, hm.k6, hm.n6, hm.r6, hm.k7, hm.n7, hm.r7, hm.k8, hm.n8, hm.r8, hm.k9, hm.n9, hm.r9, hm.k10, hm.n10, hm.r10, hm.k11, hm.n11, hm.r11, hm.k12, hm.n12, hm.r12, hm.k13, hm.n13, hm.r13, hm.k14, hm.n14, hm.r14, li_2, li_3, li_4, li_5, li_6, li_7, li_8, li_9, li_10, li_11, li_12, li_13, li_14, li_15, li_16, li_17, li_18, li_19, li_20, li_21, li_22, li_23, li_24, li_25, li_26, li_27, li_28, li_29, li_30, li_32, li_33, li_34, li_35, li_36, li_37, li_38, li_39, li_40, li_41, li_42, li_43, li_44, li_45, li_46, li_47, li_48, li_49, li_50, li_51, li_52, li_53, li_54, li_55, li_56, li_57, li_58, li_59, li_60, li_61, li_62, li_63, li_64, li_65, li_66, li_67, li_68, li_69, li_70, li_71, li_72, li_73, li_74, li_75, li_76, li_77, li_78, li_79, li_80, li_81, li_82, li_83, li_84, li_85, li_86, li_87, li_88, li_89, li_90, li_91, li_92, li_93, li_94, li_95, li_96, li_97, li_98, li_99, li_100, li_101, li_102, li_103, li_104, li_105, li_106, li_107, li_108, li_109, li_110, li_111, li_112, li_113, li_114, li_115, li_116, li_117, li_118, li_119, li_120, li_121, li_122, li_123, li_124, li_125, li_126, li_127, li_128, li_129, li_130, li_131, li_226, li_240, li_255, li_300, li_586, li_594, li_900, li_999, li_1000, li_1800, li_2376, li_2388, li_2406, li_2602, li_2970, li_3067, li_3564, li_9999, li_10000, li_11287, li_65536, li_100000, li_1000000, nI_mul, tn0, tn1, vin0, vin1, Int32.add_zero, Int32.or_zero, Nat.reduceEqDiff, nI_1, nI_add, nI_clamp, nI_pin, nI_neg, nI_nonneg, nI_leE, nI_ltE, nI_eqE, Nat.not_le, Nat.not_lt, fq_10, fq_01, fq_rr, ix_aald, ix_aast, ix_abs, ix_alen, ix_aload, ix_aret, ix_astore, ix_bald, ix_bast, ix_call, ix_cpyI, ix_cpyJ, ix_dead, ix_dup2, ix_dup2L, ix_dupI, ix_dupR, ix_dupx1, ix_getI, ix_getJ, ix_getR, ix_gfm, ix_gtab, ix_i2b, ix_i2c, ix_i2l, ix_i2s, ix_iadd, ix_iald, ix_iand, ix_iast, ix_icall, ix_icmp_eq, ix_icmp_ge, ix_icmp_gt, ix_icmp_le, ix_icmp_lt, ix_icmp_ne, ix_idiv, ix_if_eq, ix_if_ge, ix_if_gt, ix_if_le, ix_if_lt, ix_if_ne, ix_iinc, ix_iload, ix_imul, ix_ineg, ix_ior, ix_irem, ix_iret, ix_ishl, ix_ishr, ix_istore, ix_isub, ix_iushr, ix_ixor, ix_l2i, ix_ladd, ix_lald, ix_land, ix_last, ix_lcmp, ix_ldcS, ix_ldiv, ix_lload, ix_lmul, ix_lor, ix_lrem, ix_lret, ix_lshl, ix_lstore, ix_lsub, ix_lsw, ix_max, ix_min, ix_new, ix_newa, ix_nret, ix_oinit, ix_pop2L, ix_popI, ix_pushI, ix_pushL, ix_putI, ix_putJ, ix_putR, ix_putZ, ix_sbald, ix_sgetC, ix_sgetV, ix_slen, ix_strc, ix_tald, ix_tsw, ix_vcall, ix_vret, ix_zret, stL, stL2, kilL, popN, fq_sw, fq_lsw, List.map_cons, List.map_nil, List.getElem?_cons_zero, List.getElem?_cons_succ, Option.toList_some, Option.toList_none, List.cons_append, List.nil_append, List.length_cons, List.length_nil, List.sum_cons, List.sum_nil, cat_i, cat_l, cat_r, true_and, and_true, Nat.zero_add, Nat.add_zero, Nat.le_refl, Nat.zero_le, Nat.reduceAdd, Nat.reduceLeDiff, exists_eq_left', Option.some.injEq, not_true_eq_false, not_false_eq_true, false_implies, true_implies, implies_true, and_self, or_true, true_or, or_false, false_or]
    exact hQ
  · exact h.elim
theorem dX12_isFrom_0 : decode cX12_isFrom 0 = .ok (.lload_n 0, 1) := by decide +kernel
theorem dX12_isFrom_1 : decode cX12_isFrom 1 = .ok (.lload_n 2, 1) := by decide +kernel
theorem dX12_isFrom_2 : decode cX12_isFrom 2 = .ok (.lcmp, 1) := by decide +kernel
theorem dX12_isFrom_3 : decode cX12_isFrom 3 = .ok (.ifCond .lt 14, 3) := by decide +kernel
theorem dX12_isFrom_6 : decode cX12_isFrom 6 = .ok (.lload_n 0, 1) := by decide +kernel
theorem dX12_isFrom_7 : decode cX12_isFrom 7 = .ok (.lload 4, 2) := by decide +kernel
theorem dX12_isFrom_9 : decode cX12_isFrom 9 = .ok (.lcmp, 1) := by decide +kernel
theorem dX12_isFrom_10 : decode cX12_isFrom 10 = .ok (.ifCond .gt 7, 3) := by decide +kernel
theorem dX12_isFrom_13 : decode cX12_isFrom 13 = .ok (.iconst 1, 1) := by decide +kernel
theorem dX12_isFrom_14 : decode cX12_isFrom 14 = .ok (.goto 4, 3) := by decide +kernel
theorem dX12_isFrom_17 : decode cX12_isFrom 17 = .ok (.iconst 0, 1) := by decide +kernel
theorem dX12_isFrom_18 : decode cX12_isFrom 18 = .ok (.ireturn, 1) := by decide +kernel
abbrev M_X12_isFrom : MT := (yX12_isFrom, cX12_isFrom, 6, (some .boolean))
theorem cf_X12_isFrom : fq_cf M_X12_isFrom 3 := ⟨(mg_1 (List.mem_of_getElem? (i := 15) rfl) rfl), (mg_8 (List.mem_of_getElem? (i := 133) rfl) rfl), ⟨by decide, by decide, by decide +kernel⟩, by decide⟩
def B_X12_isFrom_18 (G : GT) (mc ms : Nat) (Q : Post) : Cn := ix_zret mc ms Q
theorem b_X12_isFrom_18 {l : Launch} {G : GT} {D mc ms : Nat} {Q : Post} : Imp l G M_X12_isFrom (D + 0) mc ms Q (B_X12_isFrom_18 G mc ms Q) 18 := sx_zret dX12_isFrom_18 rfl
def B_X12_isFrom_17 (G : GT) (mc ms : Nat) (Q : Post) : Cn := ix_pushI 0 ((B_X12_isFrom_18 G mc ms Q))
theorem b_X12_isFrom_17 {l : Launch} {G : GT} {D mc ms : Nat} {Q : Post} : Imp l G M_X12_isFrom (D + 0) mc ms Q (B_X12_isFrom_17 G mc ms Q) 17 := sx_iconst dX12_isFrom_17 rfl (b_X12_isFrom_18)
def B_X12_isFrom_0 (G : GT) (mc ms : Nat) (Q : Post) : Cn := ix_lload 0 (ix_lload 2 (ix_lcmp (ix_if_lt ((B_X12_isFrom_17 G mc ms Q)) (ix_lload 0 (ix_lload 4 (ix_lcmp (ix_if_gt ((B_X12_isFrom_17 G mc ms Q)) (ix_pushI 1 ((B_X12_isFrom_18 G mc ms Q))))))))))
theorem b_X12_isFrom_0 {l : Launch} {G : GT} {D mc ms : Nat} {Q : Post} : Imp l G M_X12_isFrom (D + 0) mc ms Q (B_X12_isFrom_0 G mc ms Q) 0 := sx_lload_n dX12_isFrom_0 rfl (sx_lload_n dX12_isFrom_1 rfl (sx_lcmp dX12_isFrom_2 (sx_if_lt 17 dX12_isFrom_3 (by decide) (b_X12_isFrom_17) (sx_lload_n dX12_isFrom_6 rfl (sx_lload dX12_isFrom_7 (sx_lcmp dX12_isFrom_9 (sx_if_gt 17 dX12_isFrom_10 (by decide) (b_X12_isFrom_17) (sx_iconst dX12_isFrom_13 rfl (sx_goto 18 dX12_isFrom_14 (by decide) (b_X12_isFrom_18))))))))))
theorem dX12_isTray_0 : decode cX12_isTray 0 = .ok (.iload_n 0, 1) := by decide +kernel
theorem dX12_isTray_1 : decode cX12_isTray 1 = .ok (.ifCond .lt 12, 3) := by decide +kernel
theorem dX12_isTray_4 : decode cX12_isTray 4 = .ok (.iload_n 0, 1) := by decide +kernel
theorem dX12_isTray_5 : decode cX12_isTray 5 = .ok (.iconst 4, 1) := by decide +kernel
theorem dX12_isTray_6 : decode cX12_isTray 6 = .ok (.if_icmp .ge 7, 3) := by decide +kernel
theorem dX12_isTray_9 : decode cX12_isTray 9 = .ok (.iconst 1, 1) := by decide +kernel
theorem dX12_isTray_10 : decode cX12_isTray 10 = .ok (.goto 4, 3) := by decide +kernel
theorem dX12_isTray_13 : decode cX12_isTray 13 = .ok (.iconst 0, 1) := by decide +kernel
theorem dX12_isTray_14 : decode cX12_isTray 14 = .ok (.ireturn, 1) := by decide +kernel
abbrev M_X12_isTray : MT := (yX12_isTray, cX12_isTray, 1, (some .boolean))
theorem cf_X12_isTray : fq_cf M_X12_isTray 1 := ⟨(mg_1 (List.mem_of_getElem? (i := 15) rfl) rfl), (mg_7 (List.mem_of_getElem? (i := 67) rfl) rfl), ⟨by decide, by decide, by decide +kernel⟩, by decide⟩
def B_X12_isTray_14 (G : GT) (mc ms : Nat) (Q : Post) : Cn := ix_zret mc ms Q
theorem b_X12_isTray_14 {l : Launch} {G : GT} {D mc ms : Nat} {Q : Post} : Imp l G M_X12_isTray (D + 0) mc ms Q (B_X12_isTray_14 G mc ms Q) 14 := sx_zret dX12_isTray_14 rfl
def B_X12_isTray_13 (G : GT) (mc ms : Nat) (Q : Post) : Cn := ix_pushI 0 ((B_X12_isTray_14 G mc ms Q))
theorem b_X12_isTray_13 {l : Launch} {G : GT} {D mc ms : Nat} {Q : Post} : Imp l G M_X12_isTray (D + 0) mc ms Q (B_X12_isTray_13 G mc ms Q) 13 := sx_iconst dX12_isTray_13 rfl (b_X12_isTray_14)
def B_X12_isTray_0 (G : GT) (mc ms : Nat) (Q : Post) : Cn := ix_iload 0 (ix_if_lt ((B_X12_isTray_13 G mc ms Q)) (ix_iload 0 (ix_pushI 4 (ix_icmp_ge ((B_X12_isTray_13 G mc ms Q)) (ix_pushI 1 ((B_X12_isTray_14 G mc ms Q)))))))
theorem b_X12_isTray_0 {l : Launch} {G : GT} {D mc ms : Nat} {Q : Post} : Imp l G M_X12_isTray (D + 0) mc ms Q (B_X12_isTray_0 G mc ms Q) 0 := sx_iload_n dX12_isTray_0 rfl (sx_if_lt 13 dX12_isTray_1 (by decide) (b_X12_isTray_13) (sx_iload_n dX12_isTray_4 rfl (sx_iconst dX12_isTray_5 rfl (sx_icmp_ge 13 dX12_isTray_6 (by decide) (b_X12_isTray_13) (sx_iconst dX12_isTray_9 rfl (sx_goto 14 dX12_isTray_10 (by decide) (b_X12_isTray_14)))))))
theorem dX12_isPerson_0 : decode cX12_isPerson 0 = .ok (.iload_n 1, 1) := by decide +kernel
theorem dX12_isPerson_1 : decode cX12_isPerson 1 = .ok (.ifCond .lt 17, 3) := by decide +kernel
theorem dX12_isPerson_4 : decode cX12_isPerson 4 = .ok (.iload_n 1, 1) := by decide +kernel
theorem dX12_isPerson_5 : decode cX12_isPerson 5 = .ok (.aload_n 0, 1) := by decide +kernel
theorem dX12_isPerson_6 : decode cX12_isPerson 6 = .ok (.getfield 7, 3) := by decide +kernel
theorem dX12_isPerson_9 : decode cX12_isPerson 9 = .ok (.iconst 1, 1) := by decide +kernel
theorem dX12_isPerson_10 : decode cX12_isPerson 10 = .ok (.iaload, 1) := by decide +kernel
theorem dX12_isPerson_11 : decode cX12_isPerson 11 = .ok (.if_icmp .ge 7, 3) := by decide +kernel
theorem dX12_isPerson_14 : decode cX12_isPerson 14 = .ok (.iconst 1, 1) := by decide +kernel
theorem dX12_isPerson_15 : decode cX12_isPerson 15 = .ok (.goto 4, 3) := by decide +kernel
theorem dX12_isPerson_18 : decode cX12_isPerson 18 = .ok (.iconst 0, 1) := by decide +kernel
theorem dX12_isPerson_19 : decode cX12_isPerson 19 = .ok (.ireturn, 1) := by decide +kernel
abbrev M_X12_isPerson : MT := (yX12_isPerson, cX12_isPerson, 2, (some .boolean))
theorem cf_X12_isPerson : fq_cf M_X12_isPerson 1 := ⟨(mg_1 (List.mem_of_getElem? (i := 15) rfl) rfl), (mg_8 (List.mem_of_getElem? (i := 49) rfl) rfl), ⟨by decide, by decide, by decide +kernel⟩, by decide⟩
def B_X12_isPerson_19 (G : GT) (mc ms : Nat) (Q : Post) : Cn := ix_zret mc ms Q
theorem b_X12_isPerson_19 {l : Launch} {G : GT} {D mc ms : Nat} {Q : Post} : Imp l G M_X12_isPerson (D + 0) mc ms Q (B_X12_isPerson_19 G mc ms Q) 19 := sx_zret dX12_isPerson_19 rfl
def B_X12_isPerson_18 (G : GT) (mc ms : Nat) (Q : Post) : Cn := ix_pushI 0 ((B_X12_isPerson_19 G mc ms Q))
theorem b_X12_isPerson_18 {l : Launch} {G : GT} {D mc ms : Nat} {Q : Post} : Imp l G M_X12_isPerson (D + 0) mc ms Q (B_X12_isPerson_18 G mc ms Q) 18 := sx_iconst dX12_isPerson_18 rfl (b_X12_isPerson_19)
def B_X12_isPerson_0 (G : GT) (mc ms : Nat) (Q : Post) : Cn := ix_iload 1 (ix_if_lt ((B_X12_isPerson_18 G mc ms Q)) (ix_iload 1 (ix_aload 0 (ix_getR 12 0 (ix_pushI 1 (ix_iald (ix_icmp_ge ((B_X12_isPerson_18 G mc ms Q)) (ix_pushI 1 ((B_X12_isPerson_19 G mc ms Q))))))))))
theorem b_X12_isPerson_0 {l : Launch} {G : GT} {D mc ms : Nat} {Q : Post} : Imp l G M_X12_isPerson (D + 0) mc ms Q (B_X12_isPerson_0 G mc ms Q) 0 := sx_iload_n dX12_isPerson_0 rfl (sx_if_lt 18 dX12_isPerson_1 (by decide) (b_X12_isPerson_18) (sx_iload_n dX12_isPerson_4 rfl (sx_aload_n dX12_isPerson_5 rfl (sx_getR dX12_isPerson_6 fl_FootQuarrelModel_7 (fun _ _ _ => rfl) (sx_iconst dX12_isPerson_9 rfl (sx_iald dX12_isPerson_10 (sx_icmp_ge 18 dX12_isPerson_11 (by decide) (b_X12_isPerson_18) (sx_iconst dX12_isPerson_14 rfl (sx_goto 19 dX12_isPerson_15 (by decide) (b_X12_isPerson_19))))))))))
theorem dX12_isHouse_0 : decode cX12_isHouse 0 = .ok (.iload_n 1, 1) := by decide +kernel
theorem dX12_isHouse_1 : decode cX12_isHouse 1 = .ok (.ifCond .lt 17, 3) := by decide +kernel
theorem dX12_isHouse_4 : decode cX12_isHouse 4 = .ok (.iload_n 1, 1) := by decide +kernel
theorem dX12_isHouse_5 : decode cX12_isHouse 5 = .ok (.aload_n 0, 1) := by decide +kernel
theorem dX12_isHouse_6 : decode cX12_isHouse 6 = .ok (.getfield 7, 3) := by decide +kernel
theorem dX12_isHouse_9 : decode cX12_isHouse 9 = .ok (.iconst 0, 1) := by decide +kernel
theorem dX12_isHouse_10 : decode cX12_isHouse 10 = .ok (.iaload, 1) := by decide +kernel
theorem dX12_isHouse_11 : decode cX12_isHouse 11 = .ok (.if_icmp .ge 7, 3) := by decide +kernel
theorem dX12_isHouse_14 : decode cX12_isHouse 14 = .ok (.iconst 1, 1) := by decide +kernel
theorem dX12_isHouse_15 : decode cX12_isHouse 15 = .ok (.goto 4, 3) := by decide +kernel
theorem dX12_isHouse_18 : decode cX12_isHouse 18 = .ok (.iconst 0, 1) := by decide +kernel
theorem dX12_isHouse_19 : decode cX12_isHouse 19 = .ok (.ireturn, 1) := by decide +kernel
abbrev M_X12_isHouse : MT := (yX12_isHouse, cX12_isHouse, 2, (some .boolean))
theorem cf_X12_isHouse : fq_cf M_X12_isHouse 1 := ⟨(mg_1 (List.mem_of_getElem? (i := 15) rfl) rfl), (mg_8 (List.mem_of_getElem? (i := 21) rfl) rfl), ⟨by decide, by decide, by decide +kernel⟩, by decide⟩
def B_X12_isHouse_19 (G : GT) (mc ms : Nat) (Q : Post) : Cn := ix_zret mc ms Q
theorem b_X12_isHouse_19 {l : Launch} {G : GT} {D mc ms : Nat} {Q : Post} : Imp l G M_X12_isHouse (D + 0) mc ms Q (B_X12_isHouse_19 G mc ms Q) 19 := sx_zret dX12_isHouse_19 rfl
def B_X12_isHouse_18 (G : GT) (mc ms : Nat) (Q : Post) : Cn := ix_pushI 0 ((B_X12_isHouse_19 G mc ms Q))
theorem b_X12_isHouse_18 {l : Launch} {G : GT} {D mc ms : Nat} {Q : Post} : Imp l G M_X12_isHouse (D + 0) mc ms Q (B_X12_isHouse_18 G mc ms Q) 18 := sx_iconst dX12_isHouse_18 rfl (b_X12_isHouse_19)
def B_X12_isHouse_0 (G : GT) (mc ms : Nat) (Q : Post) : Cn := ix_iload 1 (ix_if_lt ((B_X12_isHouse_18 G mc ms Q)) (ix_iload 1 (ix_aload 0 (ix_getR 12 0 (ix_pushI 0 (ix_iald (ix_icmp_ge ((B_X12_isHouse_18 G mc ms Q)) (ix_pushI 1 ((B_X12_isHouse_19 G mc ms Q))))))))))
theorem b_X12_isHouse_0 {l : Launch} {G : GT} {D mc ms : Nat} {Q : Post} : Imp l G M_X12_isHouse (D + 0) mc ms Q (B_X12_isHouse_0 G mc ms Q) 0 := sx_iload_n dX12_isHouse_0 rfl (sx_if_lt 18 dX12_isHouse_1 (by decide) (b_X12_isHouse_18) (sx_iload_n dX12_isHouse_4 rfl (sx_aload_n dX12_isHouse_5 rfl (sx_getR dX12_isHouse_6 fl_FootQuarrelModel_7 (fun _ _ _ => rfl) (sx_iconst dX12_isHouse_9 rfl (sx_iald dX12_isHouse_10 (sx_icmp_ge 18 dX12_isHouse_11 (by decide) (b_X12_isHouse_18) (sx_iconst dX12_isHouse_14 rfl (sx_goto 19 dX12_isHouse_15 (by decide) (b_X12_isHouse_19))))))))))
theorem dX12_isWall_0 : decode cX12_isWall 0 = .ok (.iload_n 1, 1) := by decide +kernel
theorem dX12_isWall_1 : decode cX12_isWall 1 = .ok (.ifCond .lt 19, 3) := by decide +kernel
theorem dX12_isWall_4 : decode cX12_isWall 4 = .ok (.iload_n 1, 1) := by decide +kernel
theorem dX12_isWall_5 : decode cX12_isWall 5 = .ok (.aload_n 0, 1) := by decide +kernel
theorem dX12_isWall_6 : decode cX12_isWall 6 = .ok (.getfield 7, 3) := by decide +kernel
theorem dX12_isWall_9 : decode cX12_isWall 9 = .ok (.iconst 0, 1) := by decide +kernel
theorem dX12_isWall_10 : decode cX12_isWall 10 = .ok (.iaload, 1) := by decide +kernel
theorem dX12_isWall_11 : decode cX12_isWall 11 = .ok (.iconst 1, 1) := by decide +kernel
theorem dX12_isWall_12 : decode cX12_isWall 12 = .ok (.isub, 1) := by decide +kernel
theorem dX12_isWall_13 : decode cX12_isWall 13 = .ok (.if_icmp .ge 7, 3) := by decide +kernel
theorem dX12_isWall_16 : decode cX12_isWall 16 = .ok (.iconst 1, 1) := by decide +kernel
theorem dX12_isWall_17 : decode cX12_isWall 17 = .ok (.goto 4, 3) := by decide +kernel
theorem dX12_isWall_20 : decode cX12_isWall 20 = .ok (.iconst 0, 1) := by decide +kernel
theorem dX12_isWall_21 : decode cX12_isWall 21 = .ok (.ireturn, 1) := by decide +kernel
abbrev M_X12_isWall : MT := (yX12_isWall, cX12_isWall, 2, (some .boolean))
theorem cf_X12_isWall : fq_cf M_X12_isWall 1 := ⟨(mg_1 (List.mem_of_getElem? (i := 15) rfl) rfl), (mg_8 (List.mem_of_getElem? (i := 37) rfl) rfl), ⟨by decide, by decide, by decide +kernel⟩, by decide⟩
def B_X12_isWall_21 (G : GT) (mc ms : Nat) (Q : Post) : Cn := ix_zret mc ms Q
theorem b_X12_isWall_21 {l : Launch} {G : GT} {D mc ms : Nat} {Q : Post} : Imp l G M_X12_isWall (D + 0) mc ms Q (B_X12_isWall_21 G mc ms Q) 21 := sx_zret dX12_isWall_21 rfl
def B_X12_isWall_20 (G : GT) (mc ms : Nat) (Q : Post) : Cn := ix_pushI 0 ((B_X12_isWall_21 G mc ms Q))
theorem b_X12_isWall_20 {l : Launch} {G : GT} {D mc ms : Nat} {Q : Post} : Imp l G M_X12_isWall (D + 0) mc ms Q (B_X12_isWall_20 G mc ms Q) 20 := sx_iconst dX12_isWall_20 rfl (b_X12_isWall_21)
def B_X12_isWall_0 (G : GT) (mc ms : Nat) (Q : Post) : Cn := ix_iload 1 (ix_if_lt ((B_X12_isWall_20 G mc ms Q)) (ix_iload 1 (ix_aload 0 (ix_getR 12 0 (ix_pushI 0 (ix_iald (ix_pushI 1 (ix_isub (ix_icmp_ge ((B_X12_isWall_20 G mc ms Q)) (ix_pushI 1 ((B_X12_isWall_21 G mc ms Q))))))))))))
theorem b_X12_isWall_0 {l : Launch} {G : GT} {D mc ms : Nat} {Q : Post} : Imp l G M_X12_isWall (D + 0) mc ms Q (B_X12_isWall_0 G mc ms Q) 0 := sx_iload_n dX12_isWall_0 rfl (sx_if_lt 20 dX12_isWall_1 (by decide) (b_X12_isWall_20) (sx_iload_n dX12_isWall_4 rfl (sx_aload_n dX12_isWall_5 rfl (sx_getR dX12_isWall_6 fl_FootQuarrelModel_7 (fun _ _ _ => rfl) (sx_iconst dX12_isWall_9 rfl (sx_iald dX12_isWall_10 (sx_iconst dX12_isWall_11 rfl (sx_isub dX12_isWall_12 (sx_icmp_ge 20 dX12_isWall_13 (by decide) (b_X12_isWall_20) (sx_iconst dX12_isWall_16 rfl (sx_goto 21 dX12_isWall_17 (by decide) (b_X12_isWall_21))))))))))))
theorem dX12_isIn_0 : decode cX12_isIn 0 = .ok (.iload_n 1, 1) := by decide +kernel
theorem dX12_isIn_1 : decode cX12_isIn 1 = .ok (.iload_n 2, 1) := by decide +kernel
theorem dX12_isIn_2 : decode cX12_isIn 2 = .ok (.ishr, 1) := by decide +kernel
theorem dX12_isIn_3 : decode cX12_isIn 3 = .ok (.iconst 1, 1) := by decide +kernel
theorem dX12_isIn_4 : decode cX12_isIn 4 = .ok (.iand, 1) := by decide +kernel
theorem dX12_isIn_5 : decode cX12_isIn 5 = .ok (.iconst 1, 1) := by decide +kernel
theorem dX12_isIn_6 : decode cX12_isIn 6 = .ok (.if_icmp .ne 7, 3) := by decide +kernel
theorem dX12_isIn_9 : decode cX12_isIn 9 = .ok (.iconst 1, 1) := by decide +kernel
theorem dX12_isIn_10 : decode cX12_isIn 10 = .ok (.goto 4, 3) := by decide +kernel
theorem dX12_isIn_13 : decode cX12_isIn 13 = .ok (.iconst 0, 1) := by decide +kernel
theorem dX12_isIn_14 : decode cX12_isIn 14 = .ok (.ireturn, 1) := by decide +kernel
abbrev M_X12_isIn : MT := (yX12_isIn, cX12_isIn, 3, (some .boolean))
theorem cf_X12_isIn : fq_cf M_X12_isIn 2 := ⟨(mg_1 (List.mem_of_getElem? (i := 15) rfl) rfl), (mg_8 (List.mem_of_getElem? (i := 76) rfl) rfl), ⟨by decide, by decide, by decide +kernel⟩, by decide⟩
def B_X12_isIn_14 (G : GT) (mc ms : Nat) (Q : Post) : Cn := ix_zret mc ms Q
theorem b_X12_isIn_14 {l : Launch} {G : GT} {D mc ms : Nat} {Q : Post} : Imp l G M_X12_isIn (D + 0) mc ms Q (B_X12_isIn_14 G mc ms Q) 14 := sx_zret dX12_isIn_14 rfl
def B_X12_isIn_0 (G : GT) (mc ms : Nat) (Q : Post) : Cn := ix_iload 1 (ix_iload 2 (ix_ishr (ix_pushI 1 (ix_iand (ix_pushI 1 (ix_icmp_ne (ix_pushI 0 ((B_X12_isIn_14 G mc ms Q))) (ix_pushI 1 ((B_X12_isIn_14 G mc ms Q)))))))))
theorem b_X12_isIn_0 {l : Launch} {G : GT} {D mc ms : Nat} {Q : Post} : Imp l G M_X12_isIn (D + 0) mc ms Q (B_X12_isIn_0 G mc ms Q) 0 := sx_iload_n dX12_isIn_0 rfl (sx_iload_n dX12_isIn_1 rfl (sx_ishr dX12_isIn_2 (sx_iconst dX12_isIn_3 rfl (sx_iand dX12_isIn_4 (sx_iconst dX12_isIn_5 rfl (sx_icmp_ne 13 dX12_isIn_6 (by decide) (sx_iconst dX12_isIn_13 rfl (b_X12_isIn_14)) (sx_iconst dX12_isIn_9 rfl (sx_goto 14 dX12_isIn_10 (by decide) (b_X12_isIn_14)))))))))
theorem dX12_isQuarrel_0 : decode cX12_isQuarrel 0 = .ok (.iload_n 1, 1) := by decide +kernel
theorem dX12_isQuarrel_1 : decode cX12_isQuarrel 1 = .ok (.ifCond .lt 17, 3) := by decide +kernel
theorem dX12_isQuarrel_4 : decode cX12_isQuarrel 4 = .ok (.iload_n 1, 1) := by decide +kernel
theorem dX12_isQuarrel_5 : decode cX12_isQuarrel 5 = .ok (.aload_n 0, 1) := by decide +kernel
theorem dX12_isQuarrel_6 : decode cX12_isQuarrel 6 = .ok (.getfield 7, 3) := by decide +kernel
theorem dX12_isQuarrel_9 : decode cX12_isQuarrel 9 = .ok (.iconst 2, 1) := by decide +kernel
theorem dX12_isQuarrel_10 : decode cX12_isQuarrel 10 = .ok (.iaload, 1) := by decide +kernel
theorem dX12_isQuarrel_11 : decode cX12_isQuarrel 11 = .ok (.if_icmp .ge 7, 3) := by decide +kernel
theorem dX12_isQuarrel_14 : decode cX12_isQuarrel 14 = .ok (.iconst 1, 1) := by decide +kernel
theorem dX12_isQuarrel_15 : decode cX12_isQuarrel 15 = .ok (.goto 4, 3) := by decide +kernel
theorem dX12_isQuarrel_18 : decode cX12_isQuarrel 18 = .ok (.iconst 0, 1) := by decide +kernel
theorem dX12_isQuarrel_19 : decode cX12_isQuarrel 19 = .ok (.ireturn, 1) := by decide +kernel
abbrev M_X12_isQuarrel : MT := (yX12_isQuarrel, cX12_isQuarrel, 2, (some .boolean))
theorem cf_X12_isQuarrel : fq_cf M_X12_isQuarrel 1 := ⟨(mg_1 (List.mem_of_getElem? (i := 15) rfl) rfl), (mg_8 (List.mem_of_getElem? (i := 57) rfl) rfl), ⟨by decide, by decide, by decide +kernel⟩, by decide⟩
def B_X12_isQuarrel_19 (G : GT) (mc ms : Nat) (Q : Post) : Cn := ix_zret mc ms Q
theorem b_X12_isQuarrel_19 {l : Launch} {G : GT} {D mc ms : Nat} {Q : Post} : Imp l G M_X12_isQuarrel (D + 0) mc ms Q (B_X12_isQuarrel_19 G mc ms Q) 19 := sx_zret dX12_isQuarrel_19 rfl
def B_X12_isQuarrel_18 (G : GT) (mc ms : Nat) (Q : Post) : Cn := ix_pushI 0 ((B_X12_isQuarrel_19 G mc ms Q))
theorem b_X12_isQuarrel_18 {l : Launch} {G : GT} {D mc ms : Nat} {Q : Post} : Imp l G M_X12_isQuarrel (D + 0) mc ms Q (B_X12_isQuarrel_18 G mc ms Q) 18 := sx_iconst dX12_isQuarrel_18 rfl (b_X12_isQuarrel_19)
def B_X12_isQuarrel_0 (G : GT) (mc ms : Nat) (Q : Post) : Cn := ix_iload 1 (ix_if_lt ((B_X12_isQuarrel_18 G mc ms Q)) (ix_iload 1 (ix_aload 0 (ix_getR 12 0 (ix_pushI 2 (ix_iald (ix_icmp_ge ((B_X12_isQuarrel_18 G mc ms Q)) (ix_pushI 1 ((B_X12_isQuarrel_19 G mc ms Q))))))))))
theorem b_X12_isQuarrel_0 {l : Launch} {G : GT} {D mc ms : Nat} {Q : Post} : Imp l G M_X12_isQuarrel (D + 0) mc ms Q (B_X12_isQuarrel_0 G mc ms Q) 0 := sx_iload_n dX12_isQuarrel_0 rfl (sx_if_lt 18 dX12_isQuarrel_1 (by decide) (b_X12_isQuarrel_18) (sx_iload_n dX12_isQuarrel_4 rfl (sx_aload_n dX12_isQuarrel_5 rfl (sx_getR dX12_isQuarrel_6 fl_FootQuarrelModel_7 (fun _ _ _ => rfl) (sx_iconst dX12_isQuarrel_9 rfl (sx_iald dX12_isQuarrel_10 (sx_icmp_ge 18 dX12_isQuarrel_11 (by decide) (b_X12_isQuarrel_18) (sx_iconst dX12_isQuarrel_14 rfl (sx_goto 19 dX12_isQuarrel_15 (by decide) (b_X12_isQuarrel_19))))))))))
theorem dX12_isSmall_0 : decode cX12_isSmall 0 = .ok (.iload_n 0, 1) := by decide +kernel
theorem dX12_isSmall_1 : decode cX12_isSmall 1 = .ok (.bipush 97, 2) := by decide +kernel
theorem dX12_isSmall_3 : decode cX12_isSmall 3 = .ok (.if_icmp .lt 13, 3) := by decide +kernel
theorem dX12_isSmall_6 : decode cX12_isSmall 6 = .ok (.iload_n 0, 1) := by decide +kernel
theorem dX12_isSmall_7 : decode cX12_isSmall 7 = .ok (.bipush 122, 2) := by decide +kernel
theorem dX12_isSmall_9 : decode cX12_isSmall 9 = .ok (.if_icmp .gt 7, 3) := by decide +kernel
theorem dX12_isSmall_12 : decode cX12_isSmall 12 = .ok (.iconst 1, 1) := by decide +kernel
theorem dX12_isSmall_13 : decode cX12_isSmall 13 = .ok (.goto 4, 3) := by decide +kernel
theorem dX12_isSmall_16 : decode cX12_isSmall 16 = .ok (.iconst 0, 1) := by decide +kernel
theorem dX12_isSmall_17 : decode cX12_isSmall 17 = .ok (.ireturn, 1) := by decide +kernel
abbrev M_X12_isSmall : MT := (yX12_isSmall, cX12_isSmall, 1, (some .boolean))
theorem cf_X12_isSmall : fq_cf M_X12_isSmall 1 := ⟨(mg_1 (List.mem_of_getElem? (i := 15) rfl) rfl), (mg_7 (List.mem_of_getElem? (i := 122) rfl) rfl), ⟨by decide, by decide, by decide +kernel⟩, by decide⟩
def B_X12_isSmall_17 (G : GT) (mc ms : Nat) (Q : Post) : Cn := ix_zret mc ms Q
theorem b_X12_isSmall_17 {l : Launch} {G : GT} {D mc ms : Nat} {Q : Post} : Imp l G M_X12_isSmall (D + 0) mc ms Q (B_X12_isSmall_17 G mc ms Q) 17 := sx_zret dX12_isSmall_17 rfl
def B_X12_isSmall_16 (G : GT) (mc ms : Nat) (Q : Post) : Cn := ix_pushI 0 ((B_X12_isSmall_17 G mc ms Q))
theorem b_X12_isSmall_16 {l : Launch} {G : GT} {D mc ms : Nat} {Q : Post} : Imp l G M_X12_isSmall (D + 0) mc ms Q (B_X12_isSmall_16 G mc ms Q) 16 := sx_iconst dX12_isSmall_16 rfl (b_X12_isSmall_17)
def B_X12_isSmall_0 (G : GT) (mc ms : Nat) (Q : Post) : Cn := ix_iload 0 (ix_pushI 97 (ix_icmp_lt ((B_X12_isSmall_16 G mc ms Q)) (ix_iload 0 (ix_pushI 122 (ix_icmp_gt ((B_X12_isSmall_16 G mc ms Q)) (ix_pushI 1 ((B_X12_isSmall_17 G mc ms Q))))))))
theorem b_X12_isSmall_0 {l : Launch} {G : GT} {D mc ms : Nat} {Q : Post} : Imp l G M_X12_isSmall (D + 0) mc ms Q (B_X12_isSmall_0 G mc ms Q) 0 := sx_iload_n dX12_isSmall_0 rfl (sx_bipush dX12_isSmall_1 rfl (sx_icmp_lt 16 dX12_isSmall_3 (by decide) (b_X12_isSmall_16) (sx_iload_n dX12_isSmall_6 rfl (sx_bipush dX12_isSmall_7 rfl (sx_icmp_gt 16 dX12_isSmall_9 (by decide) (b_X12_isSmall_16) (sx_iconst dX12_isSmall_12 rfl (sx_goto 17 dX12_isSmall_13 (by decide) (b_X12_isSmall_17))))))))
theorem dX12_isDigit_0 : decode cX12_isDigit 0 = .ok (.iload_n 0, 1) := by decide +kernel
theorem dX12_isDigit_1 : decode cX12_isDigit 1 = .ok (.bipush 48, 2) := by decide +kernel
theorem dX12_isDigit_3 : decode cX12_isDigit 3 = .ok (.if_icmp .lt 13, 3) := by decide +kernel
theorem dX12_isDigit_6 : decode cX12_isDigit 6 = .ok (.iload_n 0, 1) := by decide +kernel
theorem dX12_isDigit_7 : decode cX12_isDigit 7 = .ok (.bipush 57, 2) := by decide +kernel
theorem dX12_isDigit_9 : decode cX12_isDigit 9 = .ok (.if_icmp .gt 7, 3) := by decide +kernel
theorem dX12_isDigit_12 : decode cX12_isDigit 12 = .ok (.iconst 1, 1) := by decide +kernel
theorem dX12_isDigit_13 : decode cX12_isDigit 13 = .ok (.goto 4, 3) := by decide +kernel
theorem dX12_isDigit_16 : decode cX12_isDigit 16 = .ok (.iconst 0, 1) := by decide +kernel
theorem dX12_isDigit_17 : decode cX12_isDigit 17 = .ok (.ireturn, 1) := by decide +kernel
abbrev M_X12_isDigit : MT := (yX12_isDigit, cX12_isDigit, 1, (some .boolean))
theorem cf_X12_isDigit : fq_cf M_X12_isDigit 1 := ⟨(mg_1 (List.mem_of_getElem? (i := 15) rfl) rfl), (mg_7 (List.mem_of_getElem? (i := 125) rfl) rfl), ⟨by decide, by decide, by decide +kernel⟩, by decide⟩
def B_X12_isDigit_17 (G : GT) (mc ms : Nat) (Q : Post) : Cn := ix_zret mc ms Q
theorem b_X12_isDigit_17 {l : Launch} {G : GT} {D mc ms : Nat} {Q : Post} : Imp l G M_X12_isDigit (D + 0) mc ms Q (B_X12_isDigit_17 G mc ms Q) 17 := sx_zret dX12_isDigit_17 rfl
def B_X12_isDigit_16 (G : GT) (mc ms : Nat) (Q : Post) : Cn := ix_pushI 0 ((B_X12_isDigit_17 G mc ms Q))
theorem b_X12_isDigit_16 {l : Launch} {G : GT} {D mc ms : Nat} {Q : Post} : Imp l G M_X12_isDigit (D + 0) mc ms Q (B_X12_isDigit_16 G mc ms Q) 16 := sx_iconst dX12_isDigit_16 rfl (b_X12_isDigit_17)
def B_X12_isDigit_0 (G : GT) (mc ms : Nat) (Q : Post) : Cn := ix_iload 0 (ix_pushI 48 (ix_icmp_lt ((B_X12_isDigit_16 G mc ms Q)) (ix_iload 0 (ix_pushI 57 (ix_icmp_gt ((B_X12_isDigit_16 G mc ms Q)) (ix_pushI 1 ((B_X12_isDigit_17 G mc ms Q))))))))
theorem b_X12_isDigit_0 {l : Launch} {G : GT} {D mc ms : Nat} {Q : Post} : Imp l G M_X12_isDigit (D + 0) mc ms Q (B_X12_isDigit_0 G mc ms Q) 0 := sx_iload_n dX12_isDigit_0 rfl (sx_bipush dX12_isDigit_1 rfl (sx_icmp_lt 16 dX12_isDigit_3 (by decide) (b_X12_isDigit_16) (sx_iload_n dX12_isDigit_6 rfl (sx_bipush dX12_isDigit_7 rfl (sx_icmp_gt 16 dX12_isDigit_9 (by decide) (b_X12_isDigit_16) (sx_iconst dX12_isDigit_12 rfl (sx_goto 17 dX12_isDigit_13 (by decide) (b_X12_isDigit_17))))))))
def sp_X12_isFrom (G : GT) : Sp := fun as S I J z Q => match as with
  | [.long v, .long a, .long b] => Q (some (.int (bI (a ≤ v ∧ v ≤ b)))) S I J z
  | _ => False
set_option maxHeartbeats 4000000 in
set_option maxRecDepth 20000 in
theorem c_X12_isFrom {l : Launch} {G : GT} {D : Nat} : ∀ as S I J z Q, sp_X12_isFrom G as S I J z Q → fqCall l G M_X12_isFrom (D + 0) 0 0 as S I J z Q := by
  intro as S I J z Q h
  unfold sp_X12_isFrom at h
  split at h
  · next v a b =>
    refine fq_enter [some (.long v), none, some (.long a), none, some (.long b), none] (by decide +kernel) (Nat.le_of_ble_eq_true rfl) rfl (b_X12_isFrom_0 _ _ _ _ _ _ _ _ ?_)
    simp (disch := omega) only [B_X12_isFrom_0, B_X12_isFrom_17, B_X12_isFrom_18, lg_cmp_lt, lg_cmp_gt, lg_cmp_le, lg_cmp_ge, nI_1, nI_add, nI_clamp, nI_pin, nI_neg, nI_nonneg, nI_leE, nI_ltE, nI_eqE, Nat.not_le, Nat.not_lt, fq_10, fq_01, fq_rr, ix_aald, ix_aast, ix_abs, ix_alen, ix_aload, ix_aret, ix_astore, ix_bald, ix_bast, ix_call, ix_cpyI, ix_cpyJ, ix_dead, ix_dup2, ix_dup2L, ix_dupI, ix_dupR, ix_dupx1, ix_getI, ix_getJ, ix_getR, ix_gfm, ix_gtab, ix_i2b, ix_i2c, ix_i2l, ix_i2s, ix_iadd, ix_iald, ix_iand, ix_iast, ix_icall, ix_icmp_eq, ix_icmp_ge, ix_icmp_gt, ix_icmp_le, ix_icmp_lt, ix_icmp_ne, ix_idiv, ix_if_eq, ix_if_ge, ix_if_gt, ix_if_le, ix_if_lt, ix_if_ne, ix_iinc, ix_iload, ix_imul, ix_ineg, ix_ior, ix_irem, ix_iret, ix_ishl, ix_ishr, ix_istore, ix_isub, ix_iushr, ix_ixor, ix_l2i, ix_ladd, ix_lald, ix_land, ix_last, ix_lcmp, ix_ldcS, ix_ldiv, ix_lload, ix_lmul, ix_lor, ix_lrem, ix_lret, ix_lshl, ix_lstore, ix_lsub, ix_lsw, ix_max, ix_min, ix_new, ix_newa, ix_nret, ix_oinit, ix_pop2L, ix_popI, ix_pushI, ix_pushL, ix_putI, ix_putJ, ix_putR, ix_putZ, ix_sbald, ix_sgetC, ix_sgetV, ix_slen, ix_strc, ix_tald, ix_tsw, ix_vcall, ix_vret, ix_zret, stL, stL2, kilL, popN, fq_sw, fq_lsw, List.map_cons, List.map_nil, List.getElem?_cons_zero, List.getElem?_cons_succ, Option.toList_some, Option.toList_none, List.cons_append, List.nil_append, List.length_cons, List.length_nil, List.sum_cons, List.sum_nil, cat_i, cat_l, cat_r, true_and, and_true, Nat.zero_add, Nat.add_zero, Nat.le_refl, Nat.zero_le, Nat.reduceAdd, Nat.reduceLeDiff, exists_eq_left', Option.some.injEq, not_true_eq_false, not_false_eq_true, false_implies, true_implies, implies_true, and_self, or_true, true_or, or_false, false_or]
    grind [bI]
  · exact h.elim
def sp_X12_isTray (G : GT) : Sp := fun as S I J z Q => match as with
  | [.int a] => Q (some (.int (bI (0 ≤ a ∧ a < 4)))) S I J z
  | _ => False
set_option maxHeartbeats 4000000 in
set_option maxRecDepth 20000 in
theorem c_X12_isTray {l : Launch} {G : GT} {D : Nat} : ∀ as S I J z Q, sp_X12_isTray G as S I J z Q → fqCall l G M_X12_isTray (D + 0) 0 0 as S I J z Q := by
  intro as S I J z Q h
  unfold sp_X12_isTray at h
  split at h
  · next a =>
    refine fq_enter [some (.int a)] (by decide +kernel) (Nat.le_of_ble_eq_true rfl) rfl (b_X12_isTray_0 _ _ _ _ _ _ _ _ ?_)
    simp (disch := omega) only [B_X12_isTray_0, B_X12_isTray_13, B_X12_isTray_14, nI_1, nI_add, nI_clamp, nI_pin, nI_neg, nI_nonneg, nI_leE, nI_ltE, nI_eqE, Nat.not_le, Nat.not_lt, fq_10, fq_01, fq_rr, ix_aald, ix_aast, ix_abs, ix_alen, ix_aload, ix_aret, ix_astore, ix_bald, ix_bast, ix_call, ix_cpyI, ix_cpyJ, ix_dead, ix_dup2, ix_dup2L, ix_dupI, ix_dupR, ix_dupx1, ix_getI, ix_getJ, ix_getR, ix_gfm, ix_gtab, ix_i2b, ix_i2c, ix_i2l, ix_i2s, ix_iadd, ix_iald, ix_iand, ix_iast, ix_icall, ix_icmp_eq, ix_icmp_ge, ix_icmp_gt, ix_icmp_le, ix_icmp_lt, ix_icmp_ne, ix_idiv, ix_if_eq, ix_if_ge, ix_if_gt, ix_if_le, ix_if_lt, ix_if_ne, ix_iinc, ix_iload, ix_imul, ix_ineg, ix_ior, ix_irem, ix_iret, ix_ishl, ix_ishr, ix_istore, ix_isub, ix_iushr, ix_ixor, ix_l2i, ix_ladd, ix_lald, ix_land, ix_last, ix_lcmp, ix_ldcS, ix_ldiv, ix_lload, ix_lmul, ix_lor, ix_lrem, ix_lret, ix_lshl, ix_lstore, ix_lsub, ix_lsw, ix_max, ix_min, ix_new, ix_newa, ix_nret, ix_oinit, ix_pop2L, ix_popI, ix_pushI, ix_pushL, ix_putI, ix_putJ, ix_putR, ix_putZ, ix_sbald, ix_sgetC, ix_sgetV, ix_slen, ix_strc, ix_tald, ix_tsw, ix_vcall, ix_vret, ix_zret, stL, stL2, kilL, popN, fq_sw, fq_lsw, List.map_cons, List.map_nil, List.getElem?_cons_zero, List.getElem?_cons_succ, Option.toList_some, Option.toList_none, List.cons_append, List.nil_append, List.length_cons, List.length_nil, List.sum_cons, List.sum_nil, cat_i, cat_l, cat_r, true_and, and_true, Nat.zero_add, Nat.add_zero, Nat.le_refl, Nat.zero_le, Nat.reduceAdd, Nat.reduceLeDiff, exists_eq_left', Option.some.injEq, not_true_eq_false, not_false_eq_true, false_implies, true_implies, implies_true, and_self, or_true, true_or, or_false, false_or]
    grind [bI]
  · exact h.elim
def sp_X12_isPerson (G : GT) : Sp := fun as S I J z Q => match as with
  | [.ref M, .int a] => rfS S M ∧ Q (some (.int (bI (0 ≤ a ∧ a < I (M + 1) 1)))) S I J z
  | _ => False
set_option maxHeartbeats 4000000 in
set_option maxRecDepth 20000 in
theorem c_X12_isPerson {l : Launch} {G : GT} {D : Nat} : ∀ as S I J z Q, sp_X12_isPerson G as S I J z Q → fqCall l G M_X12_isPerson (D + 0) 0 0 as S I J z Q := by
  intro as S I J z Q h
  unfold sp_X12_isPerson at h
  split at h
  · next M a =>
    obtain ⟨hm, hQ⟩ := h
    refine fq_enter [some (.ref M), some (.int a)] (by decide +kernel) (Nat.le_of_ble_eq_true rfl) rfl (b_X12_isPerson_0 _ _ _ _ _ _ _ _ ?_)
    simp (disch := omega) only [B_X12_isPerson_0, B_X12_isPerson_18, B_X12_isPerson_19, hm.k, hm.k1, hm.n1, hm.r1, hm.k2, hm.n2, hm.r2, hm.k3, hm.n3, hm.r3, hm.k4, hm.n4, hm.r4, hm.k5, hm.n5, hm.r5, hm.k6, hm.n6, hm.r6, hm.k7, hm.n7, hm.r7, hm.k8, hm.n8, hm.r8, hm.k9, hm.n9, hm.r9, hm.k10, hm.n10, hm.r10, hm.k11, hm.n11, hm.r11, hm.k12, hm.n12, hm.r12, hm.k13, hm.n13, hm.r13, hm.k14, hm.n14, hm.r14, li_2, li_3, li_4, li_5, li_6, li_7, li_8, li_9, li_10, li_11, li_12, li_13, li_14, li_15, li_16, li_17, li_18, li_19, li_20, li_21, li_22, li_23, li_24, li_25, li_26, li_27, li_28, li_29, li_30, li_32, li_33, li_34, li_35, li_36, li_37, li_38, li_39, li_40, li_41, li_42, li_43, li_44, li_45, li_46, li_47, li_48, li_49, li_50, li_51, li_52, li_53, li_54, li_55, li_56, li_57, li_58, li_59, li_60, li_61, li_62, li_63, li_64, li_65, li_66, li_67, li_68, li_69, li_70, li_71, li_72, li_73, li_74, li_75, li_76, li_77, li_78, li_79, li_80, li_81, li_82, li_83, li_84, li_85, li_86, li_87, li_88, li_89, li_90, li_91, li_92, li_93, li_94, li_95, li_96, li_97, li_98, li_99, li_100, li_101, li_102, li_103, li_104, li_105, li_106, li_107, li_108, li_109, li_110, li_111, li_112, li_113, li_114, li_115, li_116, li_117, li_118, li_119, li_120, li_121, li_122, li_123, li_124, li_125, li_126, li_127, li_128, li_129, li_130, li_131, li_226, li_240, li_255, li_300, li_586, li_594, li_900, li_999, li_1000, li_1800, li_2376, li_2388, li_2406, li_2602, li_2970, li_3067, li_3564, li_9999, li_10000, li_11287, li_65536, li_100000, li_1000000, nI_mul, tn0, tn1, vin0, vin1, Int32.add_zero, Int32.or_zero, Nat.reduceEqDiff, nI_1, nI_add, nI_clamp, nI_pin, nI_neg, nI_nonneg, nI_leE, nI_ltE, nI_eqE, Nat.not_le, Nat.not_lt, fq_10, fq_01, fq_rr, ix_aald, ix_aast, ix_abs, ix_alen, ix_aload, ix_aret, ix_astore, ix_bald, ix_bast, ix_call, ix_cpyI, ix_cpyJ, ix_dead, ix_dup2, ix_dup2L, ix_dupI, ix_dupR, ix_dupx1, ix_getI, ix_getJ, ix_getR, ix_gfm, ix_gtab, ix_i2b, ix_i2c, ix_i2l, ix_i2s, ix_iadd, ix_iald, ix_iand, ix_iast, ix_icall, ix_icmp_eq, ix_icmp_ge, ix_icmp_gt, ix_icmp_le, ix_icmp_lt, ix_icmp_ne, ix_idiv, ix_if_eq, ix_if_ge, ix_if_gt, ix_if_le, ix_if_lt, ix_if_ne, ix_iinc, ix_iload, ix_imul, ix_ineg, ix_ior, ix_irem, ix_iret, ix_ishl, ix_ishr, ix_istore, ix_isub, ix_iushr, ix_ixor, ix_l2i, ix_ladd, ix_lald, ix_land, ix_last, ix_lcmp, ix_ldcS, ix_ldiv, ix_lload, ix_lmul, ix_lor, ix_lrem, ix_lret, ix_lshl, ix_lstore, ix_lsub, ix_lsw, ix_max, ix_min, ix_new, ix_newa, ix_nret, ix_oinit, ix_pop2L, ix_popI, ix_pushI, ix_pushL, ix_putI, ix_putJ, ix_putR, ix_putZ, ix_sbald, ix_sgetC, ix_sgetV, ix_slen, ix_strc, ix_tald, ix_tsw, ix_vcall, ix_vret, ix_zret, stL, stL2, kilL, popN, fq_sw, fq_lsw, List.map_cons, List.map_nil, List.getElem?_cons_zero, List.getElem?_cons_succ, Option.toList_some, Option.toList_none, List.cons_append, List.nil_append, List.length_cons, List.length_nil, List.sum_cons, List.sum_nil, cat_i, cat_l, cat_r, true_and, and_true, Nat.zero_add, Nat.add_zero, Nat.le_refl, Nat.zero_le, Nat.reduceAdd, Nat.reduceLeDiff, exists_eq_left', Option.some.injEq, not_true_eq_false, not_false_eq_true, false_implies, true_implies, implies_true, and_self, or_true, true_or, or_false, false_or]
    grind [bI]
  · exact h.elim
def sp_X12_isHouse (G : GT) : Sp := fun as S I J z Q => match as with
  | [.ref M, .int a] => rfS S M ∧ Q (some (.int (bI (0 ≤ a ∧ a < I (M + 1) 0)))) S I J z
  | _ => False
set_option maxHeartbeats 4000000 in
set_option maxRecDepth 20000 in
theorem c_X12_isHouse {l : Launch} {G : GT} {D : Nat} : ∀ as S I J z Q, sp_X12_isHouse G as S I J z Q → fqCall l G M_X12_isHouse (D + 0) 0 0 as S I J z Q := by
  intro as S I J z Q h
  unfold sp_X12_isHouse at h
  split at h
  · next M a =>
    obtain ⟨hm, hQ⟩ := h
    refine fq_enter [some (.ref M), some (.int a)] (by decide +kernel) (Nat.le_of_ble_eq_true rfl) rfl (b_X12_isHouse_0 _ _ _ _ _ _ _ _ ?_)
    simp (disch := omega) only [B_X12_isHouse_0, B_X12_isHouse_18, B_X12_isHouse_19, hm.k, hm.k1, hm.n1, hm.r1, hm.k2, hm.n2, hm.r2, hm.k3, hm.n3, hm.r3, hm.k4, hm.n4, hm.r4, hm.k5, hm.n5, hm.r5, hm.k6, hm.n6, hm.r6, hm.k7, hm.n7, hm.r7, hm.k8, hm.n8, hm.r8, hm.k9, hm.n9, hm.r9, hm.k10, hm.n10, hm.r10, hm.k11, hm.n11, hm.r11, hm.k12, hm.n12, hm.r12, hm.k13, hm.n13, hm.r13, hm.k14, hm.n14, hm.r14, li_2, li_3, li_4, li_5, li_6, li_7, li_8, li_9, li_10, li_11, li_12, li_13, li_14, li_15, li_16, li_17, li_18, li_19, li_20, li_21, li_22, li_23, li_24, li_25, li_26, li_27, li_28, li_29, li_30, li_32, li_33, li_34, li_35, li_36, li_37, li_38, li_39, li_40, li_41, li_42, li_43, li_44, li_45, li_46, li_47, li_48, li_49, li_50, li_51, li_52, li_53, li_54, li_55, li_56, li_57, li_58, li_59, li_60, li_61, li_62, li_63, li_64, li_65, li_66, li_67, li_68, li_69, li_70, li_71, li_72, li_73, li_74, li_75, li_76, li_77, li_78, li_79, li_80, li_81, li_82, li_83, li_84, li_85, li_86, li_87, li_88, li_89, li_90, li_91, li_92, li_93, li_94, li_95, li_96, li_97, li_98, li_99, li_100, li_101, li_102, li_103, li_104, li_105, li_106, li_107, li_108, li_109, li_110, li_111, li_112, li_113, li_114, li_115, li_116, li_117, li_118, li_119, li_120, li_121, li_122, li_123, li_124, li_125, li_126, li_127, li_128, li_129, li_130, li_131, li_226, li_240, li_255, li_300, li_586, li_594, li_900, li_999, li_1000, li_1800, li_2376, li_2388, li_2406, li_2602, li_2970, li_3067, li_3564, li_9999, li_10000, li_11287, li_65536, li_100000, li_1000000, nI_mul, tn0, tn1, vin0, vin1, Int32.add_zero, Int32.or_zero, Nat.reduceEqDiff, nI_1, nI_add, nI_clamp, nI_pin, nI_neg, nI_nonneg, nI_leE, nI_ltE, nI_eqE, Nat.not_le, Nat.not_lt, fq_10, fq_01, fq_rr, ix_aald, ix_aast, ix_abs, ix_alen, ix_aload, ix_aret, ix_astore, ix_bald, ix_bast, ix_call, ix_cpyI, ix_cpyJ, ix_dead, ix_dup2, ix_dup2L, ix_dupI, ix_dupR, ix_dupx1, ix_getI, ix_getJ, ix_getR, ix_gfm, ix_gtab, ix_i2b, ix_i2c, ix_i2l, ix_i2s, ix_iadd, ix_iald, ix_iand, ix_iast, ix_icall, ix_icmp_eq, ix_icmp_ge, ix_icmp_gt, ix_icmp_le, ix_icmp_lt, ix_icmp_ne, ix_idiv, ix_if_eq, ix_if_ge, ix_if_gt, ix_if_le, ix_if_lt, ix_if_ne, ix_iinc, ix_iload, ix_imul, ix_ineg, ix_ior, ix_irem, ix_iret, ix_ishl, ix_ishr, ix_istore, ix_isub, ix_iushr, ix_ixor, ix_l2i, ix_ladd, ix_lald, ix_land, ix_last, ix_lcmp, ix_ldcS, ix_ldiv, ix_lload, ix_lmul, ix_lor, ix_lrem, ix_lret, ix_lshl, ix_lstore, ix_lsub, ix_lsw, ix_max, ix_min, ix_new, ix_newa, ix_nret, ix_oinit, ix_pop2L, ix_popI, ix_pushI, ix_pushL, ix_putI, ix_putJ, ix_putR, ix_putZ, ix_sbald, ix_sgetC, ix_sgetV, ix_slen, ix_strc, ix_tald, ix_tsw, ix_vcall, ix_vret, ix_zret, stL, stL2, kilL, popN, fq_sw, fq_lsw, List.map_cons, List.map_nil, List.getElem?_cons_zero, List.getElem?_cons_succ, Option.toList_some, Option.toList_none, List.cons_append, List.nil_append, List.length_cons, List.length_nil, List.sum_cons, List.sum_nil, cat_i, cat_l, cat_r, true_and, and_true, Nat.zero_add, Nat.add_zero, Nat.le_refl, Nat.zero_le, Nat.reduceAdd, Nat.reduceLeDiff, exists_eq_left', Option.some.injEq, not_true_eq_false, not_false_eq_true, false_implies, true_implies, implies_true, and_self, or_true, true_or, or_false, false_or]
    grind [bI]
  · exact h.elim
def sp_X12_isWall (G : GT) : Sp := fun as S I J z Q => match as with
  | [.ref M, .int a] => rfS S M ∧ Q (some (.int (bI (0 ≤ a ∧ a < I (M + 1) 0 - 1)))) S I J z
  | _ => False
set_option maxHeartbeats 4000000 in
set_option maxRecDepth 20000 in
theorem c_X12_isWall {l : Launch} {G : GT} {D : Nat} : ∀ as S I J z Q, sp_X12_isWall G as S I J z Q → fqCall l G M_X12_isWall (D + 0) 0 0 as S I J z Q := by
  intro as S I J z Q h
  unfold sp_X12_isWall at h
  split at h
  · next M a =>
    obtain ⟨hm, hQ⟩ := h
    refine fq_enter [some (.ref M), some (.int a)] (by decide +kernel) (Nat.le_of_ble_eq_true rfl) rfl (b_X12_isWall_0 _ _ _ _ _ _ _ _ ?_)
    simp (disch := omega) only [B_X12_isWall_0, B_X12_isWall_20, B_X12_isWall_21, hm.k, hm.k1, hm.n1, hm.r1, hm.k2, hm.n2, hm.r2, hm.k3, hm.n3, hm.r3, hm.k4, hm.n4, hm.r4, hm.k5, hm.n5, hm.r5, hm.k6, hm.n6, hm.r6, hm.k7, hm.n7, hm.r7, hm.k8, hm.n8, hm.r8, hm.k9, hm.n9, hm.r9, hm.k10, hm.n10, hm.r10, hm.k11, hm.n11, hm.r11, hm.k12, hm.n12, hm.r12, hm.k13, hm.n13, hm.r13, hm.k14, hm.n14, hm.r14, li_2, li_3, li_4, li_5, li_6, li_7, li_8, li_9, li_10, li_11, li_12, li_13, li_14, li_15, li_16, li_17, li_18, li_19, li_20, li_21, li_22, li_23, li_24, li_25, li_26, li_27, li_28, li_29, li_30, li_32, li_33, li_34, li_35, li_36, li_37, li_38, li_39, li_40, li_41, li_42, li_43, li_44, li_45, li_46, li_47, li_48, li_49, li_50, li_51, li_52, li_53, li_54, li_55, li_56, li_57, li_58, li_59, li_60, li_61, li_62, li_63, li_64, li_65, li_66, li_67, li_68, li_69, li_70, li_71, li_72, li_73, li_74, li_75, li_76, li_77, li_78, li_79, li_80, li_81, li_82, li_83, li_84, li_85, li_86, li_87, li_88, li_89, li_90, li_91, li_92, li_93, li_94, li_95, li_96, li_97, li_98, li_99, li_100, li_101, li_102, li_103, li_104, li_105, li_106, li_107, li_108, li_109, li_110, li_111, li_112, li_113, li_114, li_115, li_116, li_117, li_118, li_119, li_120, li_121, li_122, li_123, li_124, li_125, li_126, li_127, li_128, li_129, li_130, li_131, li_226, li_240, li_255, li_300, li_586, li_594, li_900, li_999, li_1000, li_1800, li_2376, li_2388, li_2406, li_2602, li_2970, li_3067, li_3564, li_9999, li_10000, li_11287, li_65536, li_100000, li_1000000, nI_mul, tn0, tn1, vin0, vin1, Int32.add_zero, Int32.or_zero, Nat.reduceEqDiff, nI_1, nI_add, nI_clamp, nI_pin, nI_neg, nI_nonneg, nI_leE, nI_ltE, nI_eqE, Nat.not_le, Nat.not_lt, fq_10, fq_01, fq_rr, ix_aald, ix_aast, ix_abs, ix_alen, ix_aload, ix_aret, ix_astore, ix_bald, ix_bast, ix_call, ix_cpyI, ix_cpyJ, ix_dead, ix_dup2, ix_dup2L, ix_dupI, ix_dupR, ix_dupx1, ix_getI, ix_getJ, ix_getR, ix_gfm, ix_gtab, ix_i2b, ix_i2c, ix_i2l, ix_i2s, ix_iadd, ix_iald, ix_iand, ix_iast, ix_icall, ix_icmp_eq, ix_icmp_ge, ix_icmp_gt, ix_icmp_le, ix_icmp_lt, ix_icmp_ne, ix_idiv, ix_if_eq, ix_if_ge, ix_if_gt, ix_if_le, ix_if_lt, ix_if_ne, ix_iinc, ix_iload, ix_imul, ix_ineg, ix_ior, ix_irem, ix_iret, ix_ishl, ix_ishr, ix_istore, ix_isub, ix_iushr, ix_ixor, ix_l2i, ix_ladd, ix_lald, ix_land, ix_last, ix_lcmp, ix_ldcS, ix_ldiv, ix_lload, ix_lmul, ix_lor, ix_lrem, ix_lret, ix_lshl, ix_lstore, ix_lsub, ix_lsw, ix_max, ix_min, ix_new, ix_newa, ix_nret, ix_oinit, ix_pop2L, ix_popI, ix_pushI, ix_pushL, ix_putI, ix_putJ, ix_putR, ix_putZ, ix_sbald, ix_sgetC, ix_sgetV, ix_slen, ix_strc, ix_tald, ix_tsw, ix_vcall, ix_vret, ix_zret, stL, stL2, kilL, popN, fq_sw, fq_lsw, List.map_cons, List.map_nil, List.getElem?_cons_zero, List.getElem?_cons_succ, Option.toList_some, Option.toList_none, List.cons_append, List.nil_append, List.length_cons, List.length_nil, List.sum_cons, List.sum_nil, cat_i, cat_l, cat_r, true_and, and_true, Nat.zero_add, Nat.add_zero, Nat.le_refl, Nat.zero_le, Nat.reduceAdd, Nat.reduceLeDiff, exists_eq_left', Option.some.injEq, not_true_eq_false, not_false_eq_true, false_implies, true_implies, implies_true, and_self, or_true, true_or, or_false, false_or]
    grind [bI]
  · exact h.elim
def sp_X12_isIn (G : GT) : Sp := fun as S I J z Q => match as with
  | [.ref M, .int a, .int k] => rfS S M ∧ Q (some (.int (bI (a >>> (k &&& 31) &&& 1 = 1)))) S I J z
  | _ => False
set_option maxHeartbeats 4000000 in
set_option maxRecDepth 20000 in
theorem c_X12_isIn {l : Launch} {G : GT} {D : Nat} : ∀ as S I J z Q, sp_X12_isIn G as S I J z Q → fqCall l G M_X12_isIn (D + 0) 0 0 as S I J z Q := by
  intro as S I J z Q h
  unfold sp_X12_isIn at h
  split at h
  · next M a k =>
    obtain ⟨hm, hQ⟩ := h
    refine fq_enter [some (.ref M), some (.int a), some (.int k)] (by decide +kernel) (Nat.le_of_ble_eq_true rfl) rfl (b_X12_isIn_0 _ _ _ _ _ _ _ _ ?_)
    simp (disch := omega) only [B_X12_isIn_0, B_X12_isIn_14, hm.k, hm.k1, hm.n1, hm.r1, hm.k2, hm.n2, hm.r2, hm.k3, hm.n3, hm.r3, hm.k4, hm.n4, hm.r4, hm.k5, hm.n5, hm.r5, hm.k6, hm.n6, hm.r6, hm.k7, hm.n7, hm.r7, hm.k8, hm.n8, hm.r8, hm.k9, hm.n9, hm.r9, hm.k10, hm.n10, hm.r10, hm.k11, hm.n11, hm.r11, hm.k12, hm.n12, hm.r12, hm.k13, hm.n13, hm.r13, hm.k14, hm.n14, hm.r14, nI_1, nI_add, nI_clamp, nI_pin, nI_neg, nI_nonneg, nI_leE, nI_ltE, nI_eqE, Nat.not_le, Nat.not_lt, fq_10, fq_01, fq_rr, ix_aald, ix_aast, ix_abs, ix_alen, ix_aload, ix_aret, ix_astore, ix_bald, ix_bast, ix_call, ix_cpyI, ix_cpyJ, ix_dead, ix_dup2, ix_dup2L, ix_dupI, ix_dupR, ix_dupx1, ix_getI, ix_getJ, ix_getR, ix_gfm, ix_gtab, ix_i2b, ix_i2c, ix_i2l, ix_i2s, ix_iadd, ix_iald, ix_iand, ix_iast, ix_icall, ix_icmp_eq, ix_icmp_ge, ix_icmp_gt, ix_icmp_le, ix_icmp_lt, ix_icmp_ne, ix_idiv, ix_if_eq, ix_if_ge, ix_if_gt, ix_if_le, ix_if_lt, ix_if_ne, ix_iinc, ix_iload, ix_imul, ix_ineg, ix_ior, ix_irem, ix_iret, ix_ishl, ix_ishr, ix_istore, ix_isub, ix_iushr, ix_ixor, ix_l2i, ix_ladd, ix_lald, ix_land, ix_last, ix_lcmp, ix_ldcS, ix_ldiv, ix_lload, ix_lmul, ix_lor, ix_lrem, ix_lret, ix_lshl, ix_lstore, ix_lsub, ix_lsw, ix_max, ix_min, ix_new, ix_newa, ix_nret, ix_oinit, ix_pop2L, ix_popI, ix_pushI, ix_pushL, ix_putI, ix_putJ, ix_putR, ix_putZ, ix_sbald, ix_sgetC, ix_sgetV, ix_slen, ix_strc, ix_tald, ix_tsw, ix_vcall, ix_vret, ix_zret, stL, stL2, kilL, popN, fq_sw, fq_lsw, List.map_cons, List.map_nil, List.getElem?_cons_zero, List.getElem?_cons_succ, Option.toList_some, Option.toList_none, List.cons_append, List.nil_append, List.length_cons, List.length_nil, List.sum_cons, List.sum_nil, cat_i, cat_l, cat_r, true_and, and_true, Nat.zero_add, Nat.add_zero, Nat.le_refl, Nat.zero_le, Nat.reduceAdd, Nat.reduceLeDiff, exists_eq_left', Option.some.injEq, not_true_eq_false, not_false_eq_true, false_implies, true_implies, implies_true, and_self, or_true, true_or, or_false, false_or]
    grind [bI]
  · exact h.elim
def sp_X12_isQuarrel (G : GT) : Sp := fun as S I J z Q => match as with
  | [.ref M, .int a] => rfS S M ∧ Q (some (.int (bI (0 ≤ a ∧ a < I (M + 1) 2)))) S I J z
  | _ => False
set_option maxHeartbeats 4000000 in
set_option maxRecDepth 20000 in
theorem c_X12_isQuarrel {l : Launch} {G : GT} {D : Nat} : ∀ as S I J z Q, sp_X12_isQuarrel G as S I J z Q → fqCall l G M_X12_isQuarrel (D + 0) 0 0 as S I J z Q := by
  intro as S I J z Q h
  unfold sp_X12_isQuarrel at h
  split at h
  · next M a =>
    obtain ⟨hm, hQ⟩ := h
    refine fq_enter [some (.ref M), some (.int a)] (by decide +kernel) (Nat.le_of_ble_eq_true rfl) rfl (b_X12_isQuarrel_0 _ _ _ _ _ _ _ _ ?_)
    simp (disch := omega) only [B_X12_isQuarrel_0, B_X12_isQuarrel_18, B_X12_isQuarrel_19, hm.k, hm.k1, hm.n1, hm.r1, hm.k2, hm.n2, hm.r2, hm.k3, hm.n3, hm.r3, hm.k4, hm.n4, hm.r4, hm.k5, hm.n5, hm.r5, hm.k6, hm.n6, hm.r6, hm.k7, hm.n7, hm.r7, hm.k8, hm.n8, hm.r8, hm.k9, hm.n9, hm.r9, hm.k10, hm.n10, hm.r10, hm.k11, hm.n11, hm.r11, hm.k12, hm.n12, hm.r12, hm.k13, hm.n13, hm.r13, hm.k14, hm.n14, hm.r14, li_2, li_3, li_4, li_5, li_6, li_7, li_8, li_9, li_10, li_11, li_12, li_13, li_14, li_15, li_16, li_17, li_18, li_19, li_20, li_21, li_22, li_23, li_24, li_25, li_26, li_27, li_28, li_29, li_30, li_32, li_33, li_34, li_35, li_36, li_37, li_38, li_39, li_40, li_41, li_42, li_43, li_44, li_45, li_46, li_47, li_48, li_49, li_50, li_51, li_52, li_53, li_54, li_55, li_56, li_57, li_58, li_59, li_60, li_61, li_62, li_63, li_64, li_65, li_66, li_67, li_68, li_69, li_70, li_71, li_72, li_73, li_74, li_75, li_76, li_77, li_78, li_79, li_80, li_81, li_82, li_83, li_84, li_85, li_86, li_87, li_88, li_89, li_90, li_91, li_92, li_93, li_94, li_95, li_96, li_97, li_98, li_99, li_100, li_101, li_102, li_103, li_104, li_105, li_106, li_107, li_108, li_109, li_110, li_111, li_112, li_113, li_114, li_115, li_116, li_117, li_118, li_119, li_120, li_121, li_122, li_123, li_124, li_125, li_126, li_127, li_128, li_129, li_130, li_131, li_226, li_240, li_255, li_300, li_586, li_594, li_900, li_999, li_1000, li_1800, li_2376, li_2388, li_2406, li_2602, li_2970, li_3067, li_3564, li_9999, li_10000, li_11287, li_65536, li_100000, li_1000000, nI_mul, tn0, tn1, vin0, vin1, Int32.add_zero, Int32.or_zero, Nat.reduceEqDiff, nI_1, nI_add, nI_clamp, nI_pin, nI_neg, nI_nonneg, nI_leE, nI_ltE, nI_eqE, Nat.not_le, Nat.not_lt, fq_10, fq_01, fq_rr, ix_aald, ix_aast, ix_abs, ix_alen, ix_aload, ix_aret, ix_astore, ix_bald, ix_bast, ix_call, ix_cpyI, ix_cpyJ, ix_dead, ix_dup2, ix_dup2L, ix_dupI, ix_dupR, ix_dupx1, ix_getI, ix_getJ, ix_getR, ix_gfm, ix_gtab, ix_i2b, ix_i2c, ix_i2l, ix_i2s, ix_iadd, ix_iald, ix_iand, ix_iast, ix_icall, ix_icmp_eq, ix_icmp_ge, ix_icmp_gt, ix_icmp_le, ix_icmp_lt, ix_icmp_ne, ix_idiv, ix_if_eq, ix_if_ge, ix_if_gt, ix_if_le, ix_if_lt, ix_if_ne, ix_iinc, ix_iload, ix_imul, ix_ineg, ix_ior, ix_irem, ix_iret, ix_ishl, ix_ishr, ix_istore, ix_isub, ix_iushr, ix_ixor, ix_l2i, ix_ladd, ix_lald, ix_land, ix_last, ix_lcmp, ix_ldcS, ix_ldiv, ix_lload, ix_lmul, ix_lor, ix_lrem, ix_lret, ix_lshl, ix_lstore, ix_lsub, ix_lsw, ix_max, ix_min, ix_new, ix_newa, ix_nret, ix_oinit, ix_pop2L, ix_popI, ix_pushI, ix_pushL, ix_putI, ix_putJ, ix_putR, ix_putZ, ix_sbald, ix_sgetC, ix_sgetV, ix_slen, ix_strc, ix_tald, ix_tsw, ix_vcall, ix_vret, ix_zret, stL, stL2, kilL, popN, fq_sw, fq_lsw, List.map_cons, List.map_nil, List.getElem?_cons_zero, List.getElem?_cons_succ, Option.toList_some, Option.toList_none, List.cons_append, List.nil_append, List.length_cons, List.length_nil, List.sum_cons, List.sum_nil, cat_i, cat_l, cat_r, true_and, and_true, Nat.zero_add, Nat.add_zero, Nat.le_refl, Nat.zero_le, Nat.reduceAdd, Nat.reduceLeDiff, exists_eq_left', Option.some.injEq, not_true_eq_false, not_false_eq_true, false_implies, true_implies, implies_true, and_self, or_true, true_or, or_false, false_or]
    grind [bI]
  · exact h.elim
def sp_X12_isSmall (G : GT) : Sp := fun as S I J z Q => match as with
  | [.int a] => Q (some (.int (bI (97 ≤ a ∧ a ≤ 122)))) S I J z
  | _ => False
set_option maxHeartbeats 4000000 in
set_option maxRecDepth 20000 in
theorem c_X12_isSmall {l : Launch} {G : GT} {D : Nat} : ∀ as S I J z Q, sp_X12_isSmall G as S I J z Q → fqCall l G M_X12_isSmall (D + 0) 0 0 as S I J z Q := by
  intro as S I J z Q h
  unfold sp_X12_isSmall at h
  split at h
  · next a =>
    refine fq_enter [some (.int a)] (by decide +kernel) (Nat.le_of_ble_eq_true rfl) rfl (b_X12_isSmall_0 _ _ _ _ _ _ _ _ ?_)
    simp (disch := omega) only [B_X12_isSmall_0, B_X12_isSmall_16, B_X12_isSmall_17, nI_1, nI_add, nI_clamp, nI_pin, nI_neg, nI_nonneg, nI_leE, nI_ltE, nI_eqE, Nat.not_le, Nat.not_lt, fq_10, fq_01, fq_rr, ix_aald, ix_aast, ix_abs, ix_alen, ix_aload, ix_aret, ix_astore, ix_bald, ix_bast, ix_call, ix_cpyI, ix_cpyJ, ix_dead, ix_dup2, ix_dup2L, ix_dupI, ix_dupR, ix_dupx1, ix_getI, ix_getJ, ix_getR, ix_gfm, ix_gtab, ix_i2b, ix_i2c, ix_i2l, ix_i2s, ix_iadd, ix_iald, ix_iand, ix_iast, ix_icall, ix_icmp_eq, ix_icmp_ge, ix_icmp_gt, ix_icmp_le, ix_icmp_lt, ix_icmp_ne, ix_idiv, ix_if_eq, ix_if_ge, ix_if_gt, ix_if_le, ix_if_lt, ix_if_ne, ix_iinc, ix_iload, ix_imul, ix_ineg, ix_ior, ix_irem, ix_iret, ix_ishl, ix_ishr, ix_istore, ix_isub, ix_iushr, ix_ixor, ix_l2i, ix_ladd, ix_lald, ix_land, ix_last, ix_lcmp, ix_ldcS, ix_ldiv, ix_lload, ix_lmul, ix_lor, ix_lrem, ix_lret, ix_lshl, ix_lstore, ix_lsub, ix_lsw, ix_max, ix_min, ix_new, ix_newa, ix_nret, ix_oinit, ix_pop2L, ix_popI, ix_pushI, ix_pushL, ix_putI, ix_putJ, ix_putR, ix_putZ, ix_sbald, ix_sgetC, ix_sgetV, ix_slen, ix_strc, ix_tald, ix_tsw, ix_vcall, ix_vret, ix_zret, stL, stL2, kilL, popN, fq_sw, fq_lsw, List.map_cons, List.map_nil, List.getElem?_cons_zero, List.getElem?_cons_succ, Option.toList_some, Option.toList_none, List.cons_append, List.nil_append, List.length_cons, List.length_nil, List.sum_cons, List.sum_nil, cat_i, cat_l, cat_r, true_and, and_true, Nat.zero_add, Nat.add_zero, Nat.le_refl, Nat.zero_le, Nat.reduceAdd, Nat.reduceLeDiff, exists_eq_left', Option.some.injEq, not_true_eq_false, not_false_eq_true, false_implies, true_implies, implies_true, and_self, or_true, true_or, or_false, false_or]
    grind [bI]
  · exact h.elim
def sp_X12_isDigit (G : GT) : Sp := fun as S I J z Q => match as with
  | [.int a] => Q (some (.int (bI (48 ≤ a ∧ a ≤ 57)))) S I J z
  | _ => False
set_option maxHeartbeats 4000000 in
set_option maxRecDepth 20000 in
theorem c_X12_isDigit {l : Launch} {G : GT} {D : Nat} : ∀ as S I J z Q, sp_X12_isDigit G as S I J z Q → fqCall l G M_X12_isDigit (D + 0) 0 0 as S I J z Q := by
  intro as S I J z Q h
  unfold sp_X12_isDigit at h
  split at h
  · next a =>
    refine fq_enter [some (.int a)] (by decide +kernel) (Nat.le_of_ble_eq_true rfl) rfl (b_X12_isDigit_0 _ _ _ _ _ _ _ _ ?_)
    simp (disch := omega) only [B_X12_isDigit_0, B_X12_isDigit_16, B_X12_isDigit_17, nI_1, nI_add, nI_clamp, nI_pin, nI_neg, nI_nonneg, nI_leE, nI_ltE, nI_eqE, Nat.not_le, Nat.not_lt, fq_10, fq_01, fq_rr, ix_aald, ix_aast, ix_abs, ix_alen, ix_aload, ix_aret, ix_astore, ix_bald, ix_bast, ix_call, ix_cpyI, ix_cpyJ, ix_dead, ix_dup2, ix_dup2L, ix_dupI, ix_dupR, ix_dupx1, ix_getI, ix_getJ, ix_getR, ix_gfm, ix_gtab, ix_i2b, ix_i2c, ix_i2l, ix_i2s, ix_iadd, ix_iald, ix_iand, ix_iast, ix_icall, ix_icmp_eq, ix_icmp_ge, ix_icmp_gt, ix_icmp_le, ix_icmp_lt, ix_icmp_ne, ix_idiv, ix_if_eq, ix_if_ge, ix_if_gt, ix_if_le, ix_if_lt, ix_if_ne, ix_iinc, ix_iload, ix_imul, ix_ineg, ix_ior, ix_irem, ix_iret, ix_ishl, ix_ishr, ix_istore, ix_isub, ix_iushr, ix_ixor, ix_l2i, ix_ladd, ix_lald, ix_land, ix_last, ix_lcmp, ix_ldcS, ix_ldiv, ix_lload, ix_lmul, ix_lor, ix_lrem, ix_lret, ix_lshl, ix_lstore, ix_lsub, ix_lsw, ix_max, ix_min, ix_new, ix_newa, ix_nret, ix_oinit, ix_pop2L, ix_popI, ix_pushI, ix_pushL, ix_putI, ix_putJ, ix_putR, ix_putZ, ix_sbald, ix_sgetC, ix_sgetV, ix_slen, ix_strc, ix_tald, ix_tsw, ix_vcall, ix_vret, ix_zret, stL, stL2, kilL, popN, fq_sw, fq_lsw, List.map_cons, List.map_nil, List.getElem?_cons_zero, List.getElem?_cons_succ, Option.toList_some, Option.toList_none, List.cons_append, List.nil_append, List.length_cons, List.length_nil, List.sum_cons, List.sum_nil, cat_i, cat_l, cat_r, true_and, and_true, Nat.zero_add, Nat.add_zero, Nat.le_refl, Nat.zero_le, Nat.reduceAdd, Nat.reduceLeDiff, exists_eq_left', Option.some.injEq, not_true_eq_false, not_false_eq_true, false_implies, true_implies, implies_true, and_self, or_true, true_or, or_false, false_or]
    grind [bI]
  · exact h.elim
theorem dX12_areTwo_0 : decode cX12_areTwo 0 = .ok (.aload_n 0, 1) := by decide +kernel
theorem dX12_areTwo_1 : decode cX12_areTwo 1 = .ok (.iload_n 1, 1) := by decide +kernel
theorem dX12_areTwo_2 : decode cX12_areTwo 2 = .ok (.invokevirtual 244, 3) := by decide +kernel
theorem dX12_areTwo_5 : decode cX12_areTwo 5 = .ok (.ifCond .eq 20, 3) := by decide +kernel
theorem dX12_areTwo_8 : decode cX12_areTwo 8 = .ok (.aload_n 0, 1) := by decide +kernel
theorem dX12_areTwo_9 : decode cX12_areTwo 9 = .ok (.iload_n 2, 1) := by decide +kernel
theorem dX12_areTwo_10 : decode cX12_areTwo 10 = .ok (.invokevirtual 244, 3) := by decide +kernel
theorem dX12_areTwo_13 : decode cX12_areTwo 13 = .ok (.ifCond .eq 12, 3) := by decide +kernel
theorem dX12_areTwo_16 : decode cX12_areTwo 16 = .ok (.iload_n 1, 1) := by decide +kernel
theorem dX12_areTwo_17 : decode cX12_areTwo 17 = .ok (.iload_n 2, 1) := by decide +kernel
theorem dX12_areTwo_18 : decode cX12_areTwo 18 = .ok (.if_icmp .eq 7, 3) := by decide +kernel
theorem dX12_areTwo_21 : decode cX12_areTwo 21 = .ok (.iconst 1, 1) := by decide +kernel
theorem dX12_areTwo_22 : decode cX12_areTwo 22 = .ok (.goto 4, 3) := by decide +kernel
theorem dX12_areTwo_25 : decode cX12_areTwo 25 = .ok (.iconst 0, 1) := by decide +kernel
theorem dX12_areTwo_26 : decode cX12_areTwo 26 = .ok (.ireturn, 1) := by decide +kernel
abbrev M_X12_areTwo : MT := (yX12_areTwo, cX12_areTwo, 3, (some .boolean))
theorem cf_X12_areTwo : fq_cf M_X12_areTwo 2 := ⟨(mg_1 (List.mem_of_getElem? (i := 15) rfl) rfl), (mg_8 (List.mem_of_getElem? (i := 68) rfl) rfl), ⟨by decide, by decide, by decide +kernel⟩, by decide⟩
def B_X12_areTwo_26 (G : GT) (mc ms : Nat) (Q : Post) : Cn := ix_zret mc ms Q
theorem b_X12_areTwo_26 {l : Launch} {G : GT} {D mc ms : Nat} {Q : Post} : Imp l G M_X12_areTwo (D + 1) mc ms Q (B_X12_areTwo_26 G mc ms Q) 26 := sx_zret dX12_areTwo_26 rfl
def B_X12_areTwo_25 (G : GT) (mc ms : Nat) (Q : Post) : Cn := ix_pushI 0 ((B_X12_areTwo_26 G mc ms Q))
theorem b_X12_areTwo_25 {l : Launch} {G : GT} {D mc ms : Nat} {Q : Post} : Imp l G M_X12_areTwo (D + 1) mc ms Q (B_X12_areTwo_25 G mc ms Q) 25 := sx_iconst dX12_areTwo_25 rfl (b_X12_areTwo_26)
def B_X12_areTwo_0 (G : GT) (mc ms : Nat) (Q : Post) : Cn := ix_aload 0 (ix_iload 1 (ix_vcall 12 2 0 0 mc ms (sp_X12_isPerson G) (ix_if_eq ((B_X12_areTwo_25 G mc ms Q)) (ix_aload 0 (ix_iload 2 (ix_vcall 12 2 0 0 mc ms (sp_X12_isPerson G) (ix_if_eq ((B_X12_areTwo_25 G mc ms Q)) (ix_iload 1 (ix_iload 2 (ix_icmp_eq ((B_X12_areTwo_25 G mc ms Q)) (ix_pushI 1 ((B_X12_areTwo_26 G mc ms Q)))))))))))))
theorem b_X12_areTwo_0 {l : Launch} {G : GT} {D mc ms : Nat} {Q : Post} : Imp l G M_X12_areTwo (D + 1) mc ms Q (B_X12_areTwo_0 G mc ms Q) 0 := sx_aload_n dX12_areTwo_0 rfl (sx_iload_n dX12_areTwo_1 rfl (sx_vcall dX12_areTwo_2 cf_X12_isPerson (mg_8 (List.mem_of_getElem? (i := 46) rfl) rfl) (mg_8 (List.mem_of_getElem? (i := 48) rfl) rfl) (mg_p (List.mem_of_getElem? (i := 86) rfl) rfl) rfl c_X12_isPerson (sx_if_eq 25 dX12_areTwo_5 (by decide) (b_X12_areTwo_25) (sx_aload_n dX12_areTwo_8 rfl (sx_iload_n dX12_areTwo_9 rfl (sx_vcall dX12_areTwo_10 cf_X12_isPerson (mg_8 (List.mem_of_getElem? (i := 46) rfl) rfl) (mg_8 (List.mem_of_getElem? (i := 48) rfl) rfl) (mg_p (List.mem_of_getElem? (i := 86) rfl) rfl) rfl c_X12_isPerson (sx_if_eq 25 dX12_areTwo_13 (by decide) (b_X12_areTwo_25) (sx_iload_n dX12_areTwo_16 rfl (sx_iload_n dX12_areTwo_17 rfl (sx_icmp_eq 25 dX12_areTwo_18 (by decide) (b_X12_areTwo_25) (sx_iconst dX12_areTwo_21 rfl (sx_goto 26 dX12_areTwo_22 (by decide) (b_X12_areTwo_26)))))))))))))
theorem dX12_areNear_0 : decode cX12_areNear 0 = .ok (.iload_n 1, 1) := by decide +kernel
theorem dX12_areNear_1 : decode cX12_areNear 1 = .ok (.iload_n 2, 1) := by decide +kernel
theorem dX12_areNear_2 : decode cX12_areNear 2 = .ok (.if_icmp .eq 52, 3) := by decide +kernel
theorem dX12_areNear_5 : decode cX12_areNear 5 = .ok (.aload_n 0, 1) := by decide +kernel
theorem dX12_areNear_6 : decode cX12_areNear 6 = .ok (.iload_n 1, 1) := by decide +kernel
theorem dX12_areNear_7 : decode cX12_areNear 7 = .ok (.invokevirtual 256, 3) := by decide +kernel
theorem dX12_areNear_10 : decode cX12_areNear 10 = .ok (.aload_n 0, 1) := by decide +kernel
theorem dX12_areNear_11 : decode cX12_areNear 11 = .ok (.iload_n 2, 1) := by decide +kernel
theorem dX12_areNear_12 : decode cX12_areNear 12 = .ok (.invokevirtual 256, 3) := by decide +kernel
theorem dX12_areNear_15 : decode cX12_areNear 15 = .ok (.isub, 1) := by decide +kernel
theorem dX12_areNear_16 : decode cX12_areNear 16 = .ok (.invokestatic 194, 3) := by decide +kernel
theorem dX12_areNear_19 : decode cX12_areNear 19 = .ok (.iconst 1, 1) := by decide +kernel
theorem dX12_areNear_20 : decode cX12_areNear 20 = .ok (.if_icmp .ne 34, 3) := by decide +kernel
theorem dX12_areNear_23 : decode cX12_areNear 23 = .ok (.aload_n 0, 1) := by decide +kernel
theorem dX12_areNear_24 : decode cX12_areNear 24 = .ok (.aload_n 0, 1) := by decide +kernel
theorem dX12_areNear_25 : decode cX12_areNear 25 = .ok (.getfield 7, 3) := by decide +kernel
theorem dX12_areNear_28 : decode cX12_areNear 28 = .ok (.bipush 8, 2) := by decide +kernel
theorem dX12_areNear_30 : decode cX12_areNear 30 = .ok (.iaload, 1) := by decide +kernel
theorem dX12_areNear_31 : decode cX12_areNear 31 = .ok (.aload_n 0, 1) := by decide +kernel
theorem dX12_areNear_32 : decode cX12_areNear 32 = .ok (.iload_n 1, 1) := by decide +kernel
theorem dX12_areNear_33 : decode cX12_areNear 33 = .ok (.invokevirtual 256, 3) := by decide +kernel
theorem dX12_areNear_36 : decode cX12_areNear 36 = .ok (.aload_n 0, 1) := by decide +kernel
theorem dX12_areNear_37 : decode cX12_areNear 37 = .ok (.iload_n 2, 1) := by decide +kernel
theorem dX12_areNear_38 : decode cX12_areNear 38 = .ok (.invokevirtual 256, 3) := by decide +kernel
theorem dX12_areNear_41 : decode cX12_areNear 41 = .ok (.invokestatic 130, 3) := by decide +kernel
theorem dX12_areNear_44 : decode cX12_areNear 44 = .ok (.invokevirtual 259, 3) := by decide +kernel
theorem dX12_areNear_47 : decode cX12_areNear 47 = .ok (.ifCond .ne 7, 3) := by decide +kernel
theorem dX12_areNear_50 : decode cX12_areNear 50 = .ok (.iconst 1, 1) := by decide +kernel
theorem dX12_areNear_51 : decode cX12_areNear 51 = .ok (.goto 4, 3) := by decide +kernel
theorem dX12_areNear_54 : decode cX12_areNear 54 = .ok (.iconst 0, 1) := by decide +kernel
theorem dX12_areNear_55 : decode cX12_areNear 55 = .ok (.ireturn, 1) := by decide +kernel
abbrev M_X12_areNear : MT := (yX12_areNear, cX12_areNear, 3, (some .boolean))
theorem cf_X12_areNear : fq_cf M_X12_areNear 2 := ⟨(mg_1 (List.mem_of_getElem? (i := 15) rfl) rfl), (mg_8 (List.mem_of_getElem? (i := 72) rfl) rfl), ⟨by decide, by decide, by decide +kernel⟩, by decide⟩
def B_X12_areNear_55 (G : GT) (mc ms : Nat) (Q : Post) : Cn := ix_zret mc ms Q
theorem b_X12_areNear_55 {l : Launch} {G : GT} {D mc ms : Nat} {Q : Post} : Imp l G M_X12_areNear (D + 3) mc ms Q (B_X12_areNear_55 G mc ms Q) 55 := sx_zret dX12_areNear_55 rfl
def B_X12_areNear_54 (G : GT) (mc ms : Nat) (Q : Post) : Cn := ix_pushI 0 ((B_X12_areNear_55 G mc ms Q))
theorem b_X12_areNear_54 {l : Launch} {G : GT} {D mc ms : Nat} {Q : Post} : Imp l G M_X12_areNear (D + 3) mc ms Q (B_X12_areNear_54 G mc ms Q) 54 := sx_iconst dX12_areNear_54 rfl (b_X12_areNear_55)
def B_X12_areNear_0 (G : GT) (mc ms : Nat) (Q : Post) : Cn := ix_iload 1 (ix_iload 2 (ix_icmp_eq ((B_X12_areNear_54 G mc ms Q)) (ix_aload 0 (ix_iload 1 (ix_vcall 12 2 0 0 mc ms (sp_X12_homeOf G) (ix_aload 0 (ix_iload 2 (ix_vcall 12 2 0 0 mc ms (sp_X12_homeOf G) (ix_isub (ix_abs mc ms (ix_pushI 1 (ix_icmp_ne ((B_X12_areNear_54 G mc ms Q)) (ix_aload 0 (ix_aload 0 (ix_getR 12 0 (ix_pushI 8 (ix_iald (ix_aload 0 (ix_iload 1 (ix_vcall 12 2 0 0 mc ms (sp_X12_homeOf G) (ix_aload 0 (ix_iload 2 (ix_vcall 12 2 0 0 mc ms (sp_X12_homeOf G) (ix_min mc ms (ix_vcall 12 3 0 0 mc ms (sp_X12_isIn G) (ix_if_ne ((B_X12_areNear_54 G mc ms Q)) (ix_pushI 1 ((B_X12_areNear_55 G mc ms Q)))))))))))))))))))))))))))))
theorem b_X12_areNear_0 {l : Launch} {G : GT} {D mc ms : Nat} {Q : Post} : Imp l G M_X12_areNear (D + 3) mc ms Q (B_X12_areNear_0 G mc ms Q) 0 := sx_iload_n dX12_areNear_0 rfl (sx_iload_n dX12_areNear_1 rfl (sx_icmp_eq 54 dX12_areNear_2 (by decide) (b_X12_areNear_54) (sx_aload_n dX12_areNear_5 rfl (sx_iload_n dX12_areNear_6 rfl (sx_vcall dX12_areNear_7 cf_X12_homeOf (mg_8 (List.mem_of_getElem? (i := 26) rfl) rfl) (mg_8 (List.mem_of_getElem? (i := 28) rfl) rfl) (mg_p (List.mem_of_getElem? (i := 83) rfl) rfl) rfl c_X12_homeOf (sx_aload_n dX12_areNear_10 rfl (sx_iload_n dX12_areNear_11 rfl (sx_vcall dX12_areNear_12 cf_X12_homeOf (mg_8 (List.mem_of_getElem? (i := 26) rfl) rfl) (mg_8 (List.mem_of_getElem? (i := 28) rfl) rfl) (mg_p (List.mem_of_getElem? (i := 83) rfl) rfl) rfl c_X12_homeOf (sx_isub dX12_areNear_15 (sx_abs dX12_areNear_16 (mg_7 (List.mem_of_getElem? (i := 191) rfl) rfl) (mg_4 (List.mem_of_getElem? (i := 61) rfl) rfl) (mg_1 (List.mem_of_getElem? (i := 18) rfl) rfl) (mg_4 (List.mem_of_getElem? (i := 62) rfl) rfl) (sx_iconst dX12_areNear_19 rfl (sx_icmp_ne 54 dX12_areNear_20 (by decide) (b_X12_areNear_54) (sx_aload_n dX12_areNear_23 rfl (sx_aload_n dX12_areNear_24 rfl (sx_getR dX12_areNear_25 fl_FootQuarrelModel_7 (fun _ _ _ => rfl) (sx_bipush dX12_areNear_28 rfl (sx_iald dX12_areNear_30 (sx_aload_n dX12_areNear_31 rfl (sx_iload_n dX12_areNear_32 rfl (sx_vcall dX12_areNear_33 cf_X12_homeOf (mg_8 (List.mem_of_getElem? (i := 26) rfl) rfl) (mg_8 (List.mem_of_getElem? (i := 28) rfl) rfl) (mg_p (List.mem_of_getElem? (i := 83) rfl) rfl) rfl c_X12_homeOf (sx_aload_n dX12_areNear_36 rfl (sx_iload_n dX12_areNear_37 rfl (sx_vcall dX12_areNear_38 cf_X12_homeOf (mg_8 (List.mem_of_getElem? (i := 26) rfl) rfl) (mg_8 (List.mem_of_getElem? (i := 28) rfl) rfl) (mg_p (List.mem_of_getElem? (i := 83) rfl) rfl) rfl c_X12_homeOf (sx_min dX12_areNear_41 (mg_7 (List.mem_of_getElem? (i := 127) rfl) rfl) (mg_3 (List.mem_of_getElem? (i := 179) rfl) rfl) (mg_1 (List.mem_of_getElem? (i := 18) rfl) rfl) (mg_3 (List.mem_of_getElem? (i := 180) rfl) rfl) (sx_vcall dX12_areNear_44 cf_X12_isIn (mg_8 (List.mem_of_getElem? (i := 73) rfl) rfl) (mg_8 (List.mem_of_getElem? (i := 75) rfl) rfl) (mg_p (List.mem_of_getElem? (i := 90) rfl) rfl) rfl c_X12_isIn (sx_if_ne 54 dX12_areNear_47 (by decide) (b_X12_areNear_54) (sx_iconst dX12_areNear_50 rfl (sx_goto 55 dX12_areNear_51 (by decide) (b_X12_areNear_55)))))))))))))))))))))))))))))
theorem dX12_doesHear_0 : decode cX12_doesHear 0 = .ok (.iload_n 2, 1) := by decide +kernel
theorem dX12_doesHear_1 : decode cX12_doesHear 1 = .ok (.aload_n 0, 1) := by decide +kernel
theorem dX12_doesHear_2 : decode cX12_doesHear 2 = .ok (.iload_n 1, 1) := by decide +kernel
theorem dX12_doesHear_3 : decode cX12_doesHear 3 = .ok (.iconst 2, 1) := by decide +kernel
theorem dX12_doesHear_4 : decode cX12_doesHear 4 = .ok (.invokevirtual 253, 3) := by decide +kernel
theorem dX12_doesHear_7 : decode cX12_doesHear 7 = .ok (.iadd, 1) := by decide +kernel
theorem dX12_doesHear_8 : decode cX12_doesHear 8 = .ok (.bipush 10, 2) := by decide +kernel
theorem dX12_doesHear_10 : decode cX12_doesHear 10 = .ok (.if_icmp .lt 7, 3) := by decide +kernel
theorem dX12_doesHear_13 : decode cX12_doesHear 13 = .ok (.iconst 1, 1) := by decide +kernel
theorem dX12_doesHear_14 : decode cX12_doesHear 14 = .ok (.goto 4, 3) := by decide +kernel
theorem dX12_doesHear_17 : decode cX12_doesHear 17 = .ok (.iconst 0, 1) := by decide +kernel
theorem dX12_doesHear_18 : decode cX12_doesHear 18 = .ok (.ireturn, 1) := by decide +kernel
abbrev M_X12_doesHear : MT := (yX12_doesHear, cX12_doesHear, 3, (some .boolean))
theorem cf_X12_doesHear : fq_cf M_X12_doesHear 2 := ⟨(mg_1 (List.mem_of_getElem? (i := 15) rfl) rfl), (mg_8 (List.mem_of_getElem? (i := 105) rfl) rfl), ⟨by decide, by decide, by decide +kernel⟩, by decide⟩
def B_X12_doesHear_18 (G : GT) (mc ms : Nat) (Q : Post) : Cn := ix_zret mc ms Q
theorem b_X12_doesHear_18 {l : Launch} {G : GT} {D mc ms : Nat} {Q : Post} : Imp l G M_X12_doesHear (D + 2) mc ms Q (B_X12_doesHear_18 G mc ms Q) 18 := sx_zret dX12_doesHear_18 rfl
def B_X12_doesHear_0 (G : GT) (mc ms : Nat) (Q : Post) : Cn := ix_iload 2 (ix_aload 0 (ix_iload 1 (ix_pushI 2 (ix_vcall 12 3 0 0 mc ms (sp_X12_personOf G) (ix_iadd (ix_pushI 10 (ix_icmp_lt (ix_pushI 0 ((B_X12_doesHear_18 G mc ms Q))) (ix_pushI 1 ((B_X12_doesHear_18 G mc ms Q))))))))))
theorem b_X12_doesHear_0 {l : Launch} {G : GT} {D mc ms : Nat} {Q : Post} : Imp l G M_X12_doesHear (D + 2) mc ms Q (B_X12_doesHear_0 G mc ms Q) 0 := sx_iload_n dX12_doesHear_0 rfl (sx_aload_n dX12_doesHear_1 rfl (sx_iload_n dX12_doesHear_2 rfl (sx_iconst dX12_doesHear_3 rfl (sx_vcall dX12_doesHear_4 cf_X12_personOf (mg_8 (List.mem_of_getElem? (i := 0) rfl) rfl) (mg_8 (List.mem_of_getElem? (i := 2) rfl) rfl) (mg_p (List.mem_of_getElem? (i := 79) rfl) rfl) rfl c_X12_personOf (sx_iadd dX12_doesHear_7 (sx_bipush dX12_doesHear_8 rfl (sx_icmp_lt 17 dX12_doesHear_10 (by decide) (sx_iconst dX12_doesHear_17 rfl (b_X12_doesHear_18)) (sx_iconst dX12_doesHear_13 rfl (sx_goto 18 dX12_doesHear_14 (by decide) (b_X12_doesHear_18))))))))))
theorem dX12_canHalve_0 : decode cX12_canHalve 0 = .ok (.aload_n 0, 1) := by decide +kernel
theorem dX12_canHalve_1 : decode cX12_canHalve 1 = .ok (.getfield 7, 3) := by decide +kernel
theorem dX12_canHalve_4 : decode cX12_canHalve 4 = .ok (.iload_n 1, 1) := by decide +kernel
theorem dX12_canHalve_5 : decode cX12_canHalve 5 = .ok (.invokestatic 283, 3) := by decide +kernel
theorem dX12_canHalve_8 : decode cX12_canHalve 8 = .ok (.iaload, 1) := by decide +kernel
theorem dX12_canHalve_9 : decode cX12_canHalve 9 = .ok (.aload_n 0, 1) := by decide +kernel
theorem dX12_canHalve_10 : decode cX12_canHalve 10 = .ok (.getfield 7, 3) := by decide +kernel
theorem dX12_canHalve_13 : decode cX12_canHalve 13 = .ok (.bipush 6, 2) := by decide +kernel
theorem dX12_canHalve_15 : decode cX12_canHalve 15 = .ok (.iaload, 1) := by decide +kernel
theorem dX12_canHalve_16 : decode cX12_canHalve 16 = .ok (.if_icmp .ne 22, 3) := by decide +kernel
theorem dX12_canHalve_19 : decode cX12_canHalve 19 = .ok (.aload_n 0, 1) := by decide +kernel
theorem dX12_canHalve_20 : decode cX12_canHalve 20 = .ok (.getfield 7, 3) := by decide +kernel
theorem dX12_canHalve_23 : decode cX12_canHalve 23 = .ok (.iload_n 1, 1) := by decide +kernel
theorem dX12_canHalve_24 : decode cX12_canHalve 24 = .ok (.invokestatic 283, 3) := by decide +kernel
theorem dX12_canHalve_27 : decode cX12_canHalve 27 = .ok (.bipush 6, 2) := by decide +kernel
theorem dX12_canHalve_29 : decode cX12_canHalve 29 = .ok (.iadd, 1) := by decide +kernel
theorem dX12_canHalve_30 : decode cX12_canHalve 30 = .ok (.iaload, 1) := by decide +kernel
theorem dX12_canHalve_31 : decode cX12_canHalve 31 = .ok (.ifCond .ne 7, 3) := by decide +kernel
theorem dX12_canHalve_34 : decode cX12_canHalve 34 = .ok (.iconst 1, 1) := by decide +kernel
theorem dX12_canHalve_35 : decode cX12_canHalve 35 = .ok (.goto 4, 3) := by decide +kernel
theorem dX12_canHalve_38 : decode cX12_canHalve 38 = .ok (.iconst 0, 1) := by decide +kernel
theorem dX12_canHalve_39 : decode cX12_canHalve 39 = .ok (.ireturn, 1) := by decide +kernel
abbrev M_X12_canHalve : MT := (yX12_canHalve, cX12_canHalve, 2, (some .boolean))
theorem cf_X12_canHalve : fq_cf M_X12_canHalve 1 := ⟨(mg_1 (List.mem_of_getElem? (i := 15) rfl) rfl), (mg_8 (List.mem_of_getElem? (i := 121) rfl) rfl), ⟨by decide, by decide, by decide +kernel⟩, by decide⟩
def B_X12_canHalve_39 (G : GT) (mc ms : Nat) (Q : Post) : Cn := ix_zret mc ms Q
theorem b_X12_canHalve_39 {l : Launch} {G : GT} {D mc ms : Nat} {Q : Post} : Imp l G M_X12_canHalve (D + 1) mc ms Q (B_X12_canHalve_39 G mc ms Q) 39 := sx_zret dX12_canHalve_39 rfl
def B_X12_canHalve_38 (G : GT) (mc ms : Nat) (Q : Post) : Cn := ix_pushI 0 ((B_X12_canHalve_39 G mc ms Q))
theorem b_X12_canHalve_38 {l : Launch} {G : GT} {D mc ms : Nat} {Q : Post} : Imp l G M_X12_canHalve (D + 1) mc ms Q (B_X12_canHalve_38 G mc ms Q) 38 := sx_iconst dX12_canHalve_38 rfl (b_X12_canHalve_39)
def B_X12_canHalve_0 (G : GT) (mc ms : Nat) (Q : Post) : Cn := ix_aload 0 (ix_getR 12 0 (ix_iload 1 (ix_call 1 0 0 mc ms (sp_X12_quarrelRow G) (ix_iald (ix_aload 0 (ix_getR 12 0 (ix_pushI 6 (ix_iald (ix_icmp_ne ((B_X12_canHalve_38 G mc ms Q)) (ix_aload 0 (ix_getR 12 0 (ix_iload 1 (ix_call 1 0 0 mc ms (sp_X12_quarrelRow G) (ix_pushI 6 (ix_iadd (ix_iald (ix_if_ne ((B_X12_canHalve_38 G mc ms Q)) (ix_pushI 1 ((B_X12_canHalve_39 G mc ms Q))))))))))))))))))))
theorem b_X12_canHalve_0 {l : Launch} {G : GT} {D mc ms : Nat} {Q : Post} : Imp l G M_X12_canHalve (D + 1) mc ms Q (B_X12_canHalve_0 G mc ms Q) 0 := sx_aload_n dX12_canHalve_0 rfl (sx_getR dX12_canHalve_1 fl_FootQuarrelModel_7 (fun _ _ _ => rfl) (sx_iload_n dX12_canHalve_4 rfl (sx_scall dX12_canHalve_5 cf_X12_quarrelRow (mg_8 (List.mem_of_getElem? (i := 58) rfl) rfl) (mg_8 (List.mem_of_getElem? (i := 59) rfl) rfl) c_X12_quarrelRow (sx_iald dX12_canHalve_8 (sx_aload_n dX12_canHalve_9 rfl (sx_getR dX12_canHalve_10 fl_FootQuarrelModel_7 (fun _ _ _ => rfl) (sx_bipush dX12_canHalve_13 rfl (sx_iald dX12_canHalve_15 (sx_icmp_ne 38 dX12_canHalve_16 (by decide) (b_X12_canHalve_38) (sx_aload_n dX12_canHalve_19 rfl (sx_getR dX12_canHalve_20 fl_FootQuarrelModel_7 (fun _ _ _ => rfl) (sx_iload_n dX12_canHalve_23 rfl (sx_scall dX12_canHalve_24 cf_X12_quarrelRow (mg_8 (List.mem_of_getElem? (i := 58) rfl) rfl) (mg_8 (List.mem_of_getElem? (i := 59) rfl) rfl) c_X12_quarrelRow (sx_bipush dX12_canHalve_27 rfl (sx_iadd dX12_canHalve_29 (sx_iald dX12_canHalve_30 (sx_if_ne 38 dX12_canHalve_31 (by decide) (b_X12_canHalve_38) (sx_iconst dX12_canHalve_34 rfl (sx_goto 39 dX12_canHalve_35 (by decide) (b_X12_canHalve_39))))))))))))))))))))
def sp_X12_areTwo (G : GT) : Sp := fun as S I J z Q => match as with
  | [.ref M, .int a, .int b] => rfS S M ∧ Q (some (.int (bI ((0 ≤ a ∧ a < I (M + 1) 1) ∧ (0 ≤ b ∧ b < I (M + 1) 1) ∧ ¬ a = b)))) S I J z
  | _ => False
set_option maxHeartbeats 4000000 in
set_option maxRecDepth 20000 in
theorem c_X12_areTwo {l : Launch} {G : GT} {D : Nat} : ∀ as S I J z Q, sp_X12_areTwo G as S I J z Q → fqCall l G M_X12_areTwo (D + 1) 0 0 as S I J z Q := by
  intro as S I J z Q h
  unfold sp_X12_areTwo at h
  split at h
  · next M a b =>
    obtain ⟨hm, hQ⟩ := h
    refine fq_enter [some (.ref M), some (.int a), some (.int b)] (by decide +kernel) (Nat.le_of_ble_eq_true rfl) rfl (b_X12_areTwo_0 _ _ _ _ _ _ _ _ ?_)
    simp (disch := omega) only [B_X12_areTwo_0, B_X12_areTwo_25, B_X12_areTwo_26, sp_X12_isPerson, hm, hm.k, hm.k1, hm.n1, hm.r1, hm.k2, hm.n2, hm.r2, hm.k3, hm.n3, hm.r3, hm.k4, hm.n4, hm.r4, hm.k5, hm.n5, hm.r5, hm.k6, hm.n6, hm.r6, hm.k7, hm.n7, hm.r7, hm.k8, hm.n8, hm.r8, hm.k9, hm.n9, hm.r9, hm.k10, hm.n10, hm.r10, hm.k11, hm.n11, hm.r11, hm.k12, hm.n12, hm.r12, hm.k13, hm.n13, hm.r13, hm.k14, hm.n14, hm.r14, bI_01, bI_01b, bI_0, nI_1, nI_add, nI_clamp, nI_pin, nI_neg, nI_nonneg, nI_leE, nI_ltE, nI_eqE, Nat.not_le, Nat.not_lt, fq_10, fq_01, fq_rr, ix_aald, ix_aast, ix_abs, ix_alen, ix_aload, ix_aret, ix_astore, ix_bald, ix_bast, ix_call, ix_cpyI, ix_cpyJ, ix_dead, ix_dup2, ix_dup2L, ix_dupI, ix_dupR, ix_dupx1, ix_getI, ix_getJ, ix_getR, ix_gfm, ix_gtab, ix_i2b, ix_i2c, ix_i2l, ix_i2s, ix_iadd, ix_iald, ix_iand, ix_iast, ix_icall, ix_icmp_eq, ix_icmp_ge, ix_icmp_gt, ix_icmp_le, ix_icmp_lt, ix_icmp_ne, ix_idiv, ix_if_eq, ix_if_ge, ix_if_gt, ix_if_le, ix_if_lt, ix_if_ne, ix_iinc, ix_iload, ix_imul, ix_ineg, ix_ior, ix_irem, ix_iret, ix_ishl, ix_ishr, ix_istore, ix_isub, ix_iushr, ix_ixor, ix_l2i, ix_ladd, ix_lald, ix_land, ix_last, ix_lcmp, ix_ldcS, ix_ldiv, ix_lload, ix_lmul, ix_lor, ix_lrem, ix_lret, ix_lshl, ix_lstore, ix_lsub, ix_lsw, ix_max, ix_min, ix_new, ix_newa, ix_nret, ix_oinit, ix_pop2L, ix_popI, ix_pushI, ix_pushL, ix_putI, ix_putJ, ix_putR, ix_putZ, ix_sbald, ix_sgetC, ix_sgetV, ix_slen, ix_strc, ix_tald, ix_tsw, ix_vcall, ix_vret, ix_zret, stL, stL2, kilL, popN, fq_sw, fq_lsw, List.map_cons, List.map_nil, List.getElem?_cons_zero, List.getElem?_cons_succ, Option.toList_some, Option.toList_none, List.cons_append, List.nil_append, List.length_cons, List.length_nil, List.sum_cons, List.sum_nil, cat_i, cat_l, cat_r, true_and, and_true, Nat.zero_add, Nat.add_zero, Nat.le_refl, Nat.zero_le, Nat.reduceAdd, Nat.reduceLeDiff, exists_eq_left', Option.some.injEq, not_true_eq_false, not_false_eq_true, false_implies, true_implies, implies_true, and_self, or_true, true_or, or_false, false_or]
    grind [bI]
  · exact h.elim
/-- two houses are next to each other and not at peace, as the reference asks for it -/
abbrev nrP (a b pe : Int32) : Prop := (if 0 ≤ a - b then a - b else 0 - (a - b)) = 1 ∧ ¬ pe >>> ((if b < a then b else a) &&& 31) &&& 1 = 1
theorem nrP_sh {a b : Nat} (pe : Int32) (ha : a < 2 ^ 31) (hb : b < 2 ^ 31) : nrP (nI a) (nI b) pe ↔ ¬ shW (nI a) (nI b) pe = -1 := by
  have k1 : ¬ (if nI b < nI a then nI b else nI a) = -1 := by
    split
    · rw [nI_m1 hb]
      exact id
    · rw [nI_m1 ha]
      exact id
  unfold nrP shW
  generalize (if nI b < nI a then nI b else nI a) = w at *
  generalize (if 0 ≤ nI a - nI b then nI a - nI b else 0 - (nI a - nI b)) = d
  grind
def sp_X12_areNear (G : GT) : Sp := fun as S I J z Q => match as with
  | [.ref M, .int a, .int b] => rfS S M ∧ vp_in a 8 ∧ vp_in b 8 ∧ Q (some (.int (bI (¬ a = b ∧ nrP (I (M + 1) (30 + 7 * a.toNatClampNeg)) (I (M + 1) (30 + 7 * b.toNatClampNeg)) (I (M + 1) 8))))) S I J z
  | _ => False
set_option maxHeartbeats 4000000 in
set_option maxRecDepth 20000 in
theorem c_X12_areNear {l : Launch} {G : GT} {D : Nat} : ∀ as S I J z Q, sp_X12_areNear G as S I J z Q → fqCall l G M_X12_areNear (D + 3) 0 0 as S I J z Q := by
  intro as S I J z Q h
  unfold sp_X12_areNear at h
  split at h
  · next M a b =>
    obtain ⟨hm, ha, hb, hQ⟩ := h
    obtain ⟨a, ha9, rfl⟩ := vp_in_of ha (by decide)
    obtain ⟨b, hb9, rfl⟩ := vp_in_of hb (by decide)
    rw [nI_clamp (by omega), nI_clamp (by omega)] at hQ
    refine fq_enter [some (.ref M), some (.int (nI a)), some (.int (nI b))] (by decide +kernel) (Nat.le_of_ble_eq_true rfl) rfl (b_X12_areNear_0 _ _ _ _ _ _ _ _ ?_)
    simp (disch := omega) only [B_X12_areNear_0, B_X12_areNear_54, B_X12_areNear_55, sp_X12_homeOf, B_X12_homeOf_0, sp_X12_personOf, B_X12_personOf_0, sp_X12_personRow, B_X12_personRow_0, sp_X12_isIn, hm, hm.k, hm.k1, hm.n1, hm.r1, hm.k2, hm.n2, hm.r2, hm.k3, hm.n3, hm.r3, hm.k4, hm.n4, hm.r4, hm.k5, hm.n5, hm.r5, hm.k6, hm.n6, hm.r6, hm.k7, hm.n7, hm.r7, hm.k8, hm.n8, hm.r8, hm.k9, hm.n9, hm.r9, hm.k10, hm.n10, hm.r10, hm.k11, hm.n11, hm.r11, hm.k12, hm.n12, hm.r12, hm.k13, hm.n13, hm.r13, hm.k14, hm.n14, hm.r14, li_2, li_3, li_4, li_5, li_6, li_7, li_8, li_9, li_10, li_11, li_12, li_13, li_14, li_15, li_16, li_17, li_18, li_19, li_20, li_21, li_22, li_23, li_24, li_25, li_26, li_27, li_28, li_29, li_30, li_32, li_33, li_34, li_35, li_36, li_37, li_38, li_39, li_40, li_41, li_42, li_43, li_44, li_45, li_46, li_47, li_48, li_49, li_50, li_51, li_52, li_53, li_54, li_55, li_56, li_57, li_58, li_59, li_60, li_61, li_62, li_63, li_64, li_65, li_66, li_67, li_68, li_69, li_70, li_71, li_72, li_73, li_74, li_75, li_76, li_77, li_78, li_79, li_80, li_81, li_82, li_83, li_84, li_85, li_86, li_87, li_88, li_89, li_90, li_91, li_92, li_93, li_94, li_95, li_96, li_97, li_98, li_99, li_100, li_101, li_102, li_103, li_104, li_105, li_106, li_107, li_108, li_109, li_110, li_111, li_112, li_113, li_114, li_115, li_116, li_117, li_118, li_119, li_120, li_121, li_122, li_123, li_124, li_125, li_126, li_127, li_128, li_129, li_130, li_131, li_226, li_240, li_255, li_300, li_586, li_594, li_900, li_999, li_1000, li_1800, li_2376, li_2388, li_2406, li_2602, li_2970, li_3067, li_3564, li_9999, li_10000, li_11287, li_65536, li_100000, li_1000000, nI_mul, tn0, tn1, vin0, vin1, Int32.add_zero, Int32.or_zero, Nat.reduceEqDiff, bI_01, bI_01b, bI_0, nI_1, nI_add, nI_clamp, nI_pin, nI_neg, nI_nonneg, nI_leE, nI_ltE, nI_eqE, Nat.not_le, Nat.not_lt, fq_10, fq_01, fq_rr, ix_aald, ix_aast, ix_abs, ix_alen, ix_aload, ix_aret, ix_astore, ix_bald, ix_bast, ix_call, ix_cpyI, ix_cpyJ, ix_dead, ix_dup2, ix_dup2L, ix_dupI, ix_dupR, ix_dupx1, ix_getI, ix_getJ, ix_getR, ix_gfm, ix_gtab, ix_i2b, ix_i2c, ix_i2l, ix_i2s, ix_iadd, ix_iald, ix_iand, ix_iast, ix_icall, ix_icmp_eq, ix_icmp_ge, ix_icmp_gt, ix_icmp_le, ix_icmp_lt, ix_icmp_ne, ix_idiv, ix_if_eq, ix_if_ge, ix_if_gt, ix_if_le, ix_if_lt, ix_if_ne, ix_iinc, ix_iload, ix_imul, ix_ineg, ix_ior, ix_irem, ix_iret, ix_ishl, ix_ishr, ix_istore, ix_isub, ix_iushr, ix_ixor, ix_l2i, ix_ladd, ix_lald, ix_land, ix_last, ix_lcmp, ix_ldcS, ix_ldiv, ix_lload, ix_lmul, ix_lor, ix_lrem, ix_lret, ix_lshl, ix_lstore, ix_lsub, ix_lsw, ix_max, ix_min, ix_new, ix_newa, ix_nret, ix_oinit, ix_pop2L, ix_popI, ix_pushI, ix_pushL, ix_putI, ix_putJ, ix_putR, ix_putZ, ix_sbald, ix_sgetC, ix_sgetV, ix_slen, ix_strc, ix_tald, ix_tsw, ix_vcall, ix_vret, ix_zret, stL, stL2, kilL, popN, fq_sw, fq_lsw, List.map_cons, List.map_nil, List.getElem?_cons_zero, List.getElem?_cons_succ, Option.toList_some, Option.toList_none, List.cons_append, List.nil_append, List.length_cons, List.length_nil, List.sum_cons, List.sum_nil, cat_i, cat_l, cat_r, true_and, and_true, Nat.zero_add, Nat.add_zero, Nat.le_refl, Nat.zero_le, Nat.reduceAdd, Nat.reduceLeDiff, exists_eq_left', Option.some.injEq, not_true_eq_false, not_false_eq_true, false_implies, true_implies, implies_true, and_self, or_true, true_or, or_false, false_or]
    refine ⟨fun h1 => ?_, fun h1 => ⟨fun h2 => ?_, fun h2 => ⟨fun h3 => ?_, fun h3 => ?_⟩⟩⟩
    · rw [bI_f (fun q => q.1 (by rw [h1]))] at hQ
      exact hQ
    · rw [bI_f (fun q => h2 q.2.1)] at hQ
      exact hQ
    · rw [bI_f (fun q => q.2.2 (Decidable.not_not.mp h3))] at hQ
      exact hQ
    · rw [bI_t ⟨fun q => h1 ((nI_eq (by omega) (by omega)).mp q), h2, h3⟩] at hQ
      exact hQ
  · exact h.elim
def sp_X12_doesHear (G : GT) : Sp := fun as S I J z Q => match as with
  | [.ref M, .int a, .int v] => rfS S M ∧ vp_in a 8 ∧ Q (some (.int (bI (10 ≤ v + I (M + 1) (30 + 7 * a.toNatClampNeg + 2))))) S I J z
  | _ => False
set_option maxHeartbeats 4000000 in
set_option maxRecDepth 20000 in
theorem c_X12_doesHear {l : Launch} {G : GT} {D : Nat} : ∀ as S I J z Q, sp_X12_doesHear G as S I J z Q → fqCall l G M_X12_doesHear (D + 2) 0 0 as S I J z Q := by
  intro as S I J z Q h
  unfold sp_X12_doesHear at h
  split at h
  · next M a v =>
    obtain ⟨hm, ha, hQ⟩ := h
    obtain ⟨a, ha9, rfl⟩ := vp_in_of ha (by decide)
    rw [nI_clamp (by omega)] at hQ
    refine fq_enter [some (.ref M), some (.int (nI a)), some (.int v)] (by decide +kernel) (Nat.le_of_ble_eq_true rfl) rfl (b_X12_doesHear_0 _ _ _ _ _ _ _ _ ?_)
    simp (disch := omega) only [B_X12_doesHear_0, B_X12_doesHear_18, sp_X12_personOf, B_X12_personOf_0, sp_X12_personRow, B_X12_personRow_0, hm, hm.k, hm.k1, hm.n1, hm.r1, hm.k2, hm.n2, hm.r2, hm.k3, hm.n3, hm.r3, hm.k4, hm.n4, hm.r4, hm.k5, hm.n5, hm.r5, hm.k6, hm.n6, hm.r6, hm.k7, hm.n7, hm.r7, hm.k8, hm.n8, hm.r8, hm.k9, hm.n9, hm.r9, hm.k10, hm.n10, hm.r10, hm.k11, hm.n11, hm.r11, hm.k12, hm.n12, hm.r12, hm.k13, hm.n13, hm.r13, hm.k14, hm.n14, hm.r14, li_2, li_3, li_4, li_5, li_6, li_7, li_8, li_9, li_10, li_11, li_12, li_13, li_14, li_15, li_16, li_17, li_18, li_19, li_20, li_21, li_22, li_23, li_24, li_25, li_26, li_27, li_28, li_29, li_30, li_32, li_33, li_34, li_35, li_36, li_37, li_38, li_39, li_40, li_41, li_42, li_43, li_44, li_45, li_46, li_47, li_48, li_49, li_50, li_51, li_52, li_53, li_54, li_55, li_56, li_57, li_58, li_59, li_60, li_61, li_62, li_63, li_64, li_65, li_66, li_67, li_68, li_69, li_70, li_71, li_72, li_73, li_74, li_75, li_76, li_77, li_78, li_79, li_80, li_81, li_82, li_83, li_84, li_85, li_86, li_87, li_88, li_89, li_90, li_91, li_92, li_93, li_94, li_95, li_96, li_97, li_98, li_99, li_100, li_101, li_102, li_103, li_104, li_105, li_106, li_107, li_108, li_109, li_110, li_111, li_112, li_113, li_114, li_115, li_116, li_117, li_118, li_119, li_120, li_121, li_122, li_123, li_124, li_125, li_126, li_127, li_128, li_129, li_130, li_131, li_226, li_240, li_255, li_300, li_586, li_594, li_900, li_999, li_1000, li_1800, li_2376, li_2388, li_2406, li_2602, li_2970, li_3067, li_3564, li_9999, li_10000, li_11287, li_65536, li_100000, li_1000000, nI_mul, tn0, tn1, vin0, vin1, Int32.add_zero, Int32.or_zero, Nat.reduceEqDiff, nI_1, nI_add, nI_clamp, nI_pin, nI_neg, nI_nonneg, nI_leE, nI_ltE, nI_eqE, Nat.not_le, Nat.not_lt, fq_10, fq_01, fq_rr, ix_aald, ix_aast, ix_abs, ix_alen, ix_aload, ix_aret, ix_astore, ix_bald, ix_bast, ix_call, ix_cpyI, ix_cpyJ, ix_dead, ix_dup2, ix_dup2L, ix_dupI, ix_dupR, ix_dupx1, ix_getI, ix_getJ, ix_getR, ix_gfm, ix_gtab, ix_i2b, ix_i2c, ix_i2l, ix_i2s, ix_iadd, ix_iald, ix_iand, ix_iast, ix_icall, ix_icmp_eq, ix_icmp_ge, ix_icmp_gt, ix_icmp_le, ix_icmp_lt, ix_icmp_ne, ix_idiv, ix_if_eq, ix_if_ge, ix_if_gt, ix_if_le, ix_if_lt, ix_if_ne, ix_iinc, ix_iload, ix_imul, ix_ineg, ix_ior, ix_irem, ix_iret, ix_ishl, ix_ishr, ix_istore, ix_isub, ix_iushr, ix_ixor, ix_l2i, ix_ladd, ix_lald, ix_land, ix_last, ix_lcmp, ix_ldcS, ix_ldiv, ix_lload, ix_lmul, ix_lor, ix_lrem, ix_lret, ix_lshl, ix_lstore, ix_lsub, ix_lsw, ix_max, ix_min, ix_new, ix_newa, ix_nret, ix_oinit, ix_pop2L, ix_popI, ix_pushI, ix_pushL, ix_putI, ix_putJ, ix_putR, ix_putZ, ix_sbald, ix_sgetC, ix_sgetV, ix_slen, ix_strc, ix_tald, ix_tsw, ix_vcall, ix_vret, ix_zret, stL, stL2, kilL, popN, fq_sw, fq_lsw, List.map_cons, List.map_nil, List.getElem?_cons_zero, List.getElem?_cons_succ, Option.toList_some, Option.toList_none, List.cons_append, List.nil_append, List.length_cons, List.length_nil, List.sum_cons, List.sum_nil, cat_i, cat_l, cat_r, true_and, and_true, Nat.zero_add, Nat.add_zero, Nat.le_refl, Nat.zero_le, Nat.reduceAdd, Nat.reduceLeDiff, exists_eq_left', Option.some.injEq, not_true_eq_false, not_false_eq_true, false_implies, true_implies, implies_true, and_self, or_true, true_or, or_false, false_or]
    grind [bI, li_10]
  · exact h.elim
theorem dX12_hearsOf_0 : decode cX12_hearsOf 0 = .ok (.aload_n 0, 1) := by decide +kernel
theorem dX12_hearsOf_1 : decode cX12_hearsOf 1 = .ok (.iload_n 1, 1) := by decide +kernel
theorem dX12_hearsOf_2 : decode cX12_hearsOf 2 = .ok (.aload_n 0, 1) := by decide +kernel
theorem dX12_hearsOf_3 : decode cX12_hearsOf 3 = .ok (.aload_n 0, 1) := by decide +kernel
theorem dX12_hearsOf_4 : decode cX12_hearsOf 4 = .ok (.iload_n 2, 1) := by decide +kernel
theorem dX12_hearsOf_5 : decode cX12_hearsOf 5 = .ok (.iconst 3, 1) := by decide +kernel
theorem dX12_hearsOf_6 : decode cX12_hearsOf 6 = .ok (.invokevirtual 253, 3) := by decide +kernel
theorem dX12_hearsOf_9 : decode cX12_hearsOf 9 = .ok (.invokevirtual 301, 3) := by decide +kernel
theorem dX12_hearsOf_12 : decode cX12_hearsOf 12 = .ok (.invokevirtual 298, 3) := by decide +kernel
theorem dX12_hearsOf_15 : decode cX12_hearsOf 15 = .ok (.ireturn, 1) := by decide +kernel
abbrev M_X12_hearsOf : MT := (yX12_hearsOf, cX12_hearsOf, 3, (some .boolean))
theorem cf_X12_hearsOf : fq_cf M_X12_hearsOf 2 := ⟨(mg_1 (List.mem_of_getElem? (i := 15) rfl) rfl), (mg_8 (List.mem_of_getElem? (i := 190) rfl) rfl), ⟨by decide, by decide, by decide +kernel⟩, by decide⟩
def B_X12_hearsOf_0 (G : GT) (mc ms : Nat) (Q : Post) : Cn := ix_aload 0 (ix_iload 1 (ix_aload 0 (ix_aload 0 (ix_iload 2 (ix_pushI 3 (ix_vcall 12 3 0 0 mc ms (sp_X12_personOf G) (ix_vcall 12 2 0 0 mc ms (sp_X12_loudBy G) (ix_vcall 12 3 0 0 mc ms (sp_X12_doesHear G) (ix_zret mc ms Q)))))))))
theorem b_X12_hearsOf_0 {l : Launch} {G : GT} {D mc ms : Nat} {Q : Post} : Imp l G M_X12_hearsOf (D + 3) mc ms Q (B_X12_hearsOf_0 G mc ms Q) 0 := sx_aload_n dX12_hearsOf_0 rfl (sx_iload_n dX12_hearsOf_1 rfl (sx_aload_n dX12_hearsOf_2 rfl (sx_aload_n dX12_hearsOf_3 rfl (sx_iload_n dX12_hearsOf_4 rfl (sx_iconst dX12_hearsOf_5 rfl (sx_vcall dX12_hearsOf_6 cf_X12_personOf (mg_8 (List.mem_of_getElem? (i := 0) rfl) rfl) (mg_8 (List.mem_of_getElem? (i := 2) rfl) rfl) (mg_p (List.mem_of_getElem? (i := 79) rfl) rfl) rfl c_X12_personOf (sx_vcall dX12_hearsOf_9 cf_X12_loudBy (mg_8 (List.mem_of_getElem? (i := 93) rfl) rfl) (mg_8 (List.mem_of_getElem? (i := 95) rfl) rfl) (mg_p (List.mem_of_getElem? (i := 93) rfl) rfl) rfl c_X12_loudBy (sx_vcall dX12_hearsOf_12 cf_X12_doesHear (mg_8 (List.mem_of_getElem? (i := 102) rfl) rfl) (mg_8 (List.mem_of_getElem? (i := 104) rfl) rfl) (mg_p (List.mem_of_getElem? (i := 95) rfl) rfl) rfl c_X12_doesHear (sx_zret dX12_hearsOf_15 rfl)))))))))
def sp_X12_hearsOf (G : GT) : Sp := fun as S I J z Q => match as with
  | [.ref M, .int a, .int b] => rfS S M ∧ vp_in a 8 ∧ vp_in b 8 ∧ Q (some (.int (bI (10 ≤ ldr (I (M + 1) (30 + 7 * b.toNatClampNeg + 3)) (I (M + 1) 7) + I (M + 1) (30 + 7 * a.toNatClampNeg + 2))))) S I J z
  | _ => False
set_option maxHeartbeats 4000000 in
set_option maxRecDepth 20000 in
theorem c_X12_hearsOf {l : Launch} {G : GT} {D : Nat} : ∀ as S I J z Q, sp_X12_hearsOf G as S I J z Q → fqCall l G M_X12_hearsOf (D + 3) 0 0 as S I J z Q := by
  intro as S I J z Q h
  unfold sp_X12_hearsOf at h
  split at h
  · next M a b =>
    obtain ⟨hm, ha, hb, hQ⟩ := h
    obtain ⟨a, ha9, rfl⟩ := vp_in_of ha (by decide)
    obtain ⟨b, hb9, rfl⟩ := vp_in_of hb (by decide)
    rw [nI_clamp (by omega), nI_clamp (by omega)] at hQ
    refine fq_enter [some (.ref M), some (.int (nI a)), some (.int (nI b))] (by decide +kernel) (Nat.le_of_ble_eq_true rfl) rfl (b_X12_hearsOf_0 _ _ _ _ _ _ _ _ ?_)
    simp (disch := omega) only [B_X12_hearsOf_0, sp_X12_personOf, B_X12_personOf_0, sp_X12_personRow, B_X12_personRow_0, sp_X12_loudBy, sp_X12_doesHear, hm, hm.k, hm.k1, hm.n1, hm.r1, hm.k2, hm.n2, hm.r2, hm.k3, hm.n3, hm.r3, hm.k4, hm.n4, hm.r4, hm.k5, hm.n5, hm.r5, hm.k6, hm.n6, hm.r6, hm.k7, hm.n7, hm.r7, hm.k8, hm.n8, hm.r8, hm.k9, hm.n9, hm.r9, hm.k10, hm.n10, hm.r10, hm.k11, hm.n11, hm.r11, hm.k12, hm.n12, hm.r12, hm.k13, hm.n13, hm.r13, hm.k14, hm.n14, hm.r14, li_2, li_3, li_4, li_5, li_6, li_7, li_8, li_9, li_10, li_11, li_12, li_13, li_14, li_15, li_16, li_17, li_18, li_19, li_20, li_21, li_22, li_23, li_24, li_25, li_26, li_27, li_28, li_29, li_30, li_32, li_33, li_34, li_35, li_36, li_37, li_38, li_39, li_40, li_41, li_42, li_43, li_44, li_45, li_46, li_47, li_48, li_49, li_50, li_51, li_52, li_53, li_54, li_55, li_56, li_57, li_58, li_59, li_60, li_61, li_62, li_63, li_64, li_65, li_66, li_67, li_68, li_69, li_70, li_71, li_72, li_73, li_74, li_75, li_76, li_77, li_78, li_79, li_80, li_81, li_82, li_83, li_84, li_85, li_86, li_87, li_88, li_89, li_90, li_91, li_92, li_93, li_94, li_95, li_96, li_97, li_98, li_99, li_100, li_101, li_102, li_103, li_104, li_105, li_106, li_107, li_108, li_109, li_110, li_111, li_112, li_113, li_114, li_115, li_116, li_117, li_118, li_119, li_120, li_121, li_122, li_123, li_124, li_125, li_126, li_127, li_128, li_129, li_130, li_131, li_226, li_240, li_255, li_300, li_586, li_594, li_900, li_999, li_1000, li_1800, li_2376, li_2388, li_2406, li_2602, li_2970, li_3067, li_3564, li_9999, li_10000, li_11287, li_65536, li_100000, li_1000000, nI_mul, tn0, tn1, vin0, vin1, Int32.add_zero, Int32.or_zero, Nat.reduceEqDiff, bI_01, bI_01b, bI_0, nI_1, nI_add, nI_clamp, nI_pin, nI_neg, nI_nonneg, nI_leE, nI_ltE, nI_eqE, Nat.not_le, Nat.not_lt, fq_10, fq_01, fq_rr, ix_aald, ix_aast, ix_abs, ix_alen, ix_aload, ix_aret, ix_astore, ix_bald, ix_bast, ix_call, ix_cpyI, ix_cpyJ, ix_dead, ix_dup2, ix_dup2L, ix_dupI, ix_dupR, ix_dupx1, ix_getI, ix_getJ, ix_getR, ix_gfm, ix_gtab, ix_i2b, ix_i2c, ix_i2l, ix_i2s, ix_iadd, ix_iald, ix_iand, ix_iast, ix_icall, ix_icmp_eq, ix_icmp_ge, ix_icmp_gt, ix_icmp_le, ix_icmp_lt, ix_icmp_ne, ix_idiv, ix_if_eq, ix_if_ge, ix_if_gt, ix_if_le, ix_if_lt, ix_if_ne, ix_iinc, ix_iload, ix_imul, ix_ineg, ix_ior, ix_irem, ix_iret, ix_ishl, ix_ishr, ix_istore, ix_isub, ix_iushr, ix_ixor, ix_l2i, ix_ladd, ix_lald, ix_land, ix_last, ix_lcmp, ix_ldcS, ix_ldiv, ix_lload, ix_lmul, ix_lor, ix_lrem, ix_lret, ix_lshl, ix_lstore, ix_lsub, ix_lsw, ix_max, ix_min, ix_new, ix_newa, ix_nret, ix_oinit, ix_pop2L, ix_popI, ix_pushI, ix_pushL, ix_putI, ix_putJ, ix_putR, ix_putZ, ix_sbald, ix_sgetC, ix_sgetV, ix_slen, ix_strc, ix_tald, ix_tsw, ix_vcall, ix_vret, ix_zret, stL, stL2, kilL, popN, fq_sw, fq_lsw, List.map_cons, List.map_nil, List.getElem?_cons_zero, List.getElem?_cons_succ, Option.toList_some, Option.toList_none, List.cons_append, List.nil_append, List.length_cons, List.length_nil, List.sum_cons, List.sum_nil, cat_i, cat_l, cat_r, true_and, and_true, Nat.zero_add, Nat.add_zero, Nat.le_refl, Nat.zero_le, Nat.reduceAdd, Nat.reduceLeDiff, exists_eq_left', Option.some.injEq, not_true_eq_false, not_false_eq_true, false_implies, true_implies, implies_true, and_self, or_true, true_or, or_false, false_or]
    exact hQ
  · exact h.elim
def sp_X12_canHalve (G : GT) : Sp := fun as S I J z Q => match as with
  | [.ref M, .int k] => rfS S M ∧ vp_in k 20 ∧ Q (some (.int (bI (I (M + 1) (86 + 7 * k.toNatClampNeg) = I (M + 1) 6 ∧ I (M + 1) (86 + 7 * k.toNatClampNeg + 6) = 0)))) S I J z
  | _ => False
set_option maxHeartbeats 4000000 in
set_option maxRecDepth 20000 in
theorem c_X12_canHalve {l : Launch} {G : GT} {D : Nat} : ∀ as S I J z Q, sp_X12_canHalve G as S I J z Q → fqCall l G M_X12_canHalve (D + 1) 0 0 as S I J z Q := by
  intro as S I J z Q h
  unfold sp_X12_canHalve at h
  split at h
  · next M a =>
    obtain ⟨hm, ha, hQ⟩ := h
    obtain ⟨a, ha9, rfl⟩ := vp_in_of ha (by decide)
    rw [nI_clamp (by omega)] at hQ
    refine fq_enter [some (.ref M), some (.int (nI a))] (by decide +kernel) (Nat.le_of_ble_eq_true rfl) rfl (b_X12_canHalve_0 _ _ _ _ _ _ _ _ ?_)
    simp (disch := omega) only [B_X12_canHalve_0, B_X12_canHalve_38, B_X12_canHalve_39, sp_X12_quarrelRow, B_X12_quarrelRow_0, hm, hm.k, hm.k1, hm.n1, hm.r1, hm.k2, hm.n2, hm.r2, hm.k3, hm.n3, hm.r3, hm.k4, hm.n4, hm.r4, hm.k5, hm.n5, hm.r5, hm.k6, hm.n6, hm.r6, hm.k7, hm.n7, hm.r7, hm.k8, hm.n8, hm.r8, hm.k9, hm.n9, hm.r9, hm.k10, hm.n10, hm.r10, hm.k11, hm.n11, hm.r11, hm.k12, hm.n12, hm.r12, hm.k13, hm.n13, hm.r13, hm.k14, hm.n14, hm.r14, li_2, li_3, li_4, li_5, li_6, li_7, li_8, li_9, li_10, li_11, li_12, li_13, li_14, li_15, li_16, li_17, li_18, li_19, li_20, li_21, li_22, li_23, li_24, li_25, li_26, li_27, li_28, li_29, li_30, li_32, li_33, li_34, li_35, li_36, li_37, li_38, li_39, li_40, li_41, li_42, li_43, li_44, li_45, li_46, li_47, li_48, li_49, li_50, li_51, li_52, li_53, li_54, li_55, li_56, li_57, li_58, li_59, li_60, li_61, li_62, li_63, li_64, li_65, li_66, li_67, li_68, li_69, li_70, li_71, li_72, li_73, li_74, li_75, li_76, li_77, li_78, li_79, li_80, li_81, li_82, li_83, li_84, li_85, li_86, li_87, li_88, li_89, li_90, li_91, li_92, li_93, li_94, li_95, li_96, li_97, li_98, li_99, li_100, li_101, li_102, li_103, li_104, li_105, li_106, li_107, li_108, li_109, li_110, li_111, li_112, li_113, li_114, li_115, li_116, li_117, li_118, li_119, li_120, li_121, li_122, li_123, li_124, li_125, li_126, li_127, li_128, li_129, li_130, li_131, li_226, li_240, li_255, li_300, li_586, li_594, li_900, li_999, li_1000, li_1800, li_2376, li_2388, li_2406, li_2602, li_2970, li_3067, li_3564, li_9999, li_10000, li_11287, li_65536, li_100000, li_1000000, nI_mul, tn0, tn1, vin0, vin1, Int32.add_zero, Int32.or_zero, Nat.reduceEqDiff, nI_1, nI_add, nI_clamp, nI_pin, nI_neg, nI_nonneg, nI_leE, nI_ltE, nI_eqE, Nat.not_le, Nat.not_lt, fq_10, fq_01, fq_rr, ix_aald, ix_aast, ix_abs, ix_alen, ix_aload, ix_aret, ix_astore, ix_bald, ix_bast, ix_call, ix_cpyI, ix_cpyJ, ix_dead, ix_dup2, ix_dup2L, ix_dupI, ix_dupR, ix_dupx1, ix_getI, ix_getJ, ix_getR, ix_gfm, ix_gtab, ix_i2b, ix_i2c, ix_i2l, ix_i2s, ix_iadd, ix_iald, ix_iand, ix_iast, ix_icall, ix_icmp_eq, ix_icmp_ge, ix_icmp_gt, ix_icmp_le, ix_icmp_lt, ix_icmp_ne, ix_idiv, ix_if_eq, ix_if_ge, ix_if_gt, ix_if_le, ix_if_lt, ix_if_ne, ix_iinc, ix_iload, ix_imul, ix_ineg, ix_ior, ix_irem, ix_iret, ix_ishl, ix_ishr, ix_istore, ix_isub, ix_iushr, ix_ixor, ix_l2i, ix_ladd, ix_lald, ix_land, ix_last, ix_lcmp, ix_ldcS, ix_ldiv, ix_lload, ix_lmul, ix_lor, ix_lrem, ix_lret, ix_lshl, ix_lstore, ix_lsub, ix_lsw, ix_max, ix_min, ix_new, ix_newa, ix_nret, ix_oinit, ix_pop2L, ix_popI, ix_pushI, ix_pushL, ix_putI, ix_putJ, ix_putR, ix_putZ, ix_sbald, ix_sgetC, ix_sgetV, ix_slen, ix_strc, ix_tald, ix_tsw, ix_vcall, ix_vret, ix_zret, stL, stL2, kilL, popN, fq_sw, fq_lsw, List.map_cons, List.map_nil, List.getElem?_cons_zero, List.getElem?_cons_succ, Option.toList_some, Option.toList_none, List.cons_append, List.nil_append, List.length_cons, List.length_nil, List.sum_cons, List.sum_nil, cat_i, cat_l, cat_r, true_and, and_true, Nat.zero_add, Nat.add_zero, Nat.le_refl, Nat.zero_le, Nat.reduceAdd, Nat.reduceLeDiff, exists_eq_left', Option.some.injEq, not_true_eq_false, not_false_eq_true, false_implies, true_implies, implies_true, and_self, or_true, true_or, or_false, false_or]
    grind [bI]
  · exact h.elim
