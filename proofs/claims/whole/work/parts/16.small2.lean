/-! small methods, further -/
def qix (n k : Nat) : Nat := (n + 20 - k) % 20
theorem fm20 : ∀ n, n < 20 → ∀ k, k < 20 → (0 ≤ (nI n - nI k) ^^^ 20 → nI n - nI k - (nI n - nI k) / 20 * 20 = nI (qix n k)) ∧ (¬ 0 ≤ (nI n - nI k) ^^^ 20 → (nI n - nI k - (nI n - nI k) / 20 * 20 = 0 → nI n - nI k - (nI n - nI k) / 20 * 20 = nI (qix n k)) ∧ (¬ nI n - nI k - (nI n - nI k) / 20 * 20 = 0 → nI n - nI k - (nI n - nI k) / 20 * 20 + 20 = nI (qix n k))) := by decide +kernel
theorem qix_lt (n k : Nat) : qix n k < 20 := Nat.mod_lt _ (by decide)
theorem bI_01b (c : Prop) [Decidable c] : (¬ c ∨ bI c = 1) = True := by
  rw [bI_1]
  exact eq_true (by by_cases h : c <;> simp [h])
theorem dX6_latest_0 : decode cX6_latest 0 = .ok (.aload_n 0, 1) := by decide +kernel
theorem dX6_latest_1 : decode cX6_latest 1 = .ok (.getfield 25, 3) := by decide +kernel
theorem dX6_latest_4 : decode cX6_latest 4 = .ok (.aload_n 0, 1) := by decide +kernel
theorem dX6_latest_5 : decode cX6_latest 5 = .ok (.getfield 59, 3) := by decide +kernel
theorem dX6_latest_8 : decode cX6_latest 8 = .ok (.iload_n 1, 1) := by decide +kernel
theorem dX6_latest_9 : decode cX6_latest 9 = .ok (.isub, 1) := by decide +kernel
theorem dX6_latest_10 : decode cX6_latest 10 = .ok (.bipush 20, 2) := by decide +kernel
theorem dX6_latest_12 : decode cX6_latest 12 = .ok (.invokestatic 204, 3) := by decide +kernel
theorem dX6_latest_15 : decode cX6_latest 15 = .ok (.aaload, 1) := by decide +kernel
theorem dX6_latest_16 : decode cX6_latest 16 = .ok (.areturn, 1) := by decide +kernel
abbrev M_X6_latest : MT := (yX6_latest, cX6_latest, 2, (some (.object "FootQuarrel$Quarrel")))
theorem cf_X6_latest : fq_cf M_X6_latest 1 := ⟨(mg_1 (List.mem_of_getElem? (i := 8) rfl) rfl), (mg_4 (List.mem_of_getElem? (i := 220) rfl) rfl), ⟨by decide, by decide, by decide +kernel⟩, by decide⟩
def B_X6_latest_0 (G : GT) (mc ms : Nat) (Q : Post) : Cn := ix_aload 0 (ix_getR 6 2 (ix_aload 0 (ix_getI 6 8 (ix_iload 1 (ix_isub (ix_pushI 20 (ix_call 2 0 0 mc ms (sp_J9_floorMod_7cf53 G) (ix_aald 18 (ix_aret mc ms Q)))))))))
theorem b_X6_latest_0 {l : Launch} {G : GT} {D mc ms : Nat} {Q : Post} : Imp l G M_X6_latest (D + 1) mc ms Q (B_X6_latest_0 G mc ms Q) 0 := sx_aload_n dX6_latest_0 rfl (sx_getR dX6_latest_1 fl_FootQuarrel_Street_25 (fun _ _ _ => rfl) (sx_aload_n dX6_latest_4 rfl (sx_getI dX6_latest_5 fl_FootQuarrel_Street_59 (fun _ _ _ => rfl) (sx_iload_n dX6_latest_8 rfl (sx_isub dX6_latest_9 (sx_bipush dX6_latest_10 rfl (sx_scall dX6_latest_12 cf_J9_floorMod_7cf53 (mg_4 (List.mem_of_getElem? (i := 221) rfl) rfl) (mg_4 (List.mem_of_getElem? (i := 222) rfl) rfl) c_J9_floorMod_7cf53 (sx_aald dX6_latest_15 (by decide) (by decide) rfl (sx_aret dX6_latest_16 rfl)))))))))
theorem dX6_angerBehind_0 : decode cX6_angerBehind 0 = .ok (.iconst 0, 1) := by decide +kernel
theorem dX6_angerBehind_1 : decode cX6_angerBehind 1 = .ok (.aload_n 0, 1) := by decide +kernel
theorem dX6_angerBehind_2 : decode cX6_angerBehind 2 = .ok (.getfield 19, 3) := by decide +kernel
theorem dX6_angerBehind_5 : decode cX6_angerBehind 5 = .ok (.iload_n 1, 1) := by decide +kernel
theorem dX6_angerBehind_6 : decode cX6_angerBehind 6 = .ok (.aaload, 1) := by decide +kernel
theorem dX6_angerBehind_7 : decode cX6_angerBehind 7 = .ok (.getfield 141, 3) := by decide +kernel
theorem dX6_angerBehind_10 : decode cX6_angerBehind 10 = .ok (.iload_n 2, 1) := by decide +kernel
theorem dX6_angerBehind_11 : decode cX6_angerBehind 11 = .ok (.aload_n 0, 1) := by decide +kernel
theorem dX6_angerBehind_12 : decode cX6_angerBehind 12 = .ok (.getfield 65, 3) := by decide +kernel
theorem dX6_angerBehind_15 : decode cX6_angerBehind 15 = .ok (.imul, 1) := by decide +kernel
theorem dX6_angerBehind_16 : decode cX6_angerBehind 16 = .ok (.isub, 1) := by decide +kernel
theorem dX6_angerBehind_17 : decode cX6_angerBehind 17 = .ok (.invokestatic 106, 3) := by decide +kernel
theorem dX6_angerBehind_20 : decode cX6_angerBehind 20 = .ok (.ireturn, 1) := by decide +kernel
abbrev M_X6_angerBehind : MT := (yX6_angerBehind, cX6_angerBehind, 3, (some .int))
theorem cf_X6_angerBehind : fq_cf M_X6_angerBehind 2 := ⟨(mg_1 (List.mem_of_getElem? (i := 8) rfl) rfl), (mg_5 (List.mem_of_getElem? (i := 89) rfl) rfl), ⟨by decide, by decide, by decide +kernel⟩, by decide⟩
def B_X6_angerBehind_0 (G : GT) (mc ms : Nat) (Q : Post) : Cn := ix_pushI 0 (ix_aload 0 (ix_getR 6 1 (ix_iload 1 (ix_aald 17 (ix_getI 2 6 (ix_iload 2 (ix_aload 0 (ix_getI 6 10 (ix_imul (ix_isub (ix_max mc ms (ix_iret mc ms Q))))))))))))
theorem b_X6_angerBehind_0 {l : Launch} {G : GT} {D mc ms : Nat} {Q : Post} : Imp l G M_X6_angerBehind (D + 1) mc ms Q (B_X6_angerBehind_0 G mc ms Q) 0 := sx_iconst dX6_angerBehind_0 rfl (sx_aload_n dX6_angerBehind_1 rfl (sx_getR dX6_angerBehind_2 fl_FootQuarrel_Street_19 (fun _ _ _ => rfl) (sx_iload_n dX6_angerBehind_5 rfl (sx_aald dX6_angerBehind_6 (by decide) (by decide) rfl (sx_getI dX6_angerBehind_7 fl_FootQuarrel_Street_141 (fun _ _ _ => rfl) (sx_iload_n dX6_angerBehind_10 rfl (sx_aload_n dX6_angerBehind_11 rfl (sx_getI dX6_angerBehind_12 fl_FootQuarrel_Street_65 (fun _ _ _ => rfl) (sx_imul dX6_angerBehind_15 (sx_isub dX6_angerBehind_16 (sx_max dX6_angerBehind_17 (mg_4 (List.mem_of_getElem? (i := 198) rfl) rfl) (mg_4 (List.mem_of_getElem? (i := 199) rfl) rfl) (mg_1 (List.mem_of_getElem? (i := 18) rfl) rfl) (mg_4 (List.mem_of_getElem? (i := 200) rfl) rfl) (sx_iret dX6_angerBehind_20 rfl))))))))))))
theorem dX6_push_0 : decode cX6_push 0 = .ok (.aload_n 0, 1) := by decide +kernel
theorem dX6_push_1 : decode cX6_push 1 = .ok (.getfield 11, 3) := by decide +kernel
theorem dX6_push_4 : decode cX6_push 4 = .ok (.iload_n 1, 1) := by decide +kernel
theorem dX6_push_5 : decode cX6_push 5 = .ok (.aaload, 1) := by decide +kernel
theorem dX6_push_6 : decode cX6_push 6 = .ok (.astore_n 3, 1) := by decide +kernel
theorem dX6_push_7 : decode cX6_push 7 = .ok (.aload_n 0, 1) := by decide +kernel
theorem dX6_push_8 : decode cX6_push 8 = .ok (.getfield 11, 3) := by decide +kernel
theorem dX6_push_11 : decode cX6_push 11 = .ok (.iload_n 1, 1) := by decide +kernel
theorem dX6_push_12 : decode cX6_push 12 = .ok (.iconst 1, 1) := by decide +kernel
theorem dX6_push_13 : decode cX6_push 13 = .ok (.iadd, 1) := by decide +kernel
theorem dX6_push_14 : decode cX6_push 14 = .ok (.aaload, 1) := by decide +kernel
theorem dX6_push_15 : decode cX6_push 15 = .ok (.astore 4, 2) := by decide +kernel
theorem dX6_push_17 : decode cX6_push 17 = .ok (.aload_n 3, 1) := by decide +kernel
theorem dX6_push_18 : decode cX6_push 18 = .ok (.getfield 112, 3) := by decide +kernel
theorem dX6_push_21 : decode cX6_push 21 = .ok (.ineg, 1) := by decide +kernel
theorem dX6_push_22 : decode cX6_push 22 = .ok (.iload_n 2, 1) := by decide +kernel
theorem dX6_push_23 : decode cX6_push 23 = .ok (.aload 4, 2) := by decide +kernel
theorem dX6_push_25 : decode cX6_push 25 = .ok (.getfield 112, 3) := by decide +kernel
theorem dX6_push_28 : decode cX6_push 28 = .ok (.invokestatic 125, 3) := by decide +kernel
theorem dX6_push_31 : decode cX6_push 31 = .ok (.invokestatic 106, 3) := by decide +kernel
theorem dX6_push_34 : decode cX6_push 34 = .ok (.istore 5, 2) := by decide +kernel
theorem dX6_push_36 : decode cX6_push 36 = .ok (.aload_n 3, 1) := by decide +kernel
theorem dX6_push_37 : decode cX6_push 37 = .ok (.dup, 1) := by decide +kernel
theorem dX6_push_38 : decode cX6_push 38 = .ok (.getfield 112, 3) := by decide +kernel
theorem dX6_push_41 : decode cX6_push 41 = .ok (.iload 5, 2) := by decide +kernel
theorem dX6_push_43 : decode cX6_push 43 = .ok (.iadd, 1) := by decide +kernel
theorem dX6_push_44 : decode cX6_push 44 = .ok (.putfield 112, 3) := by decide +kernel
theorem dX6_push_47 : decode cX6_push 47 = .ok (.aload 4, 2) := by decide +kernel
theorem dX6_push_49 : decode cX6_push 49 = .ok (.dup, 1) := by decide +kernel
theorem dX6_push_50 : decode cX6_push 50 = .ok (.getfield 112, 3) := by decide +kernel
theorem dX6_push_53 : decode cX6_push 53 = .ok (.iload 5, 2) := by decide +kernel
theorem dX6_push_55 : decode cX6_push 55 = .ok (.isub, 1) := by decide +kernel
theorem dX6_push_56 : decode cX6_push 56 = .ok (.putfield 112, 3) := by decide +kernel
theorem dX6_push_59 : decode cX6_push 59 = .ok (.iload 5, 2) := by decide +kernel
theorem dX6_push_61 : decode cX6_push 61 = .ok (.ireturn, 1) := by decide +kernel
abbrev M_X6_push : MT := (yX6_push, cX6_push, 6, (some .int))
theorem cf_X6_push : fq_cf M_X6_push 2 := ⟨(mg_1 (List.mem_of_getElem? (i := 8) rfl) rfl), (mg_5 (List.mem_of_getElem? (i := 77) rfl) rfl), ⟨by decide, by decide, by decide +kernel⟩, by decide⟩
def B_X6_push_0 (G : GT) (mc ms : Nat) (Q : Post) : Cn := ix_aload 0 (ix_getR 6 0 (ix_iload 1 (ix_aald 16 (ix_astore 3 (ix_aload 0 (ix_getR 6 0 (ix_iload 1 (ix_pushI 1 (ix_iadd (ix_aald 16 (ix_astore 4 (ix_aload 3 (ix_getI 0 2 (ix_ineg (ix_iload 2 (ix_aload 4 (ix_getI 0 2 (ix_min mc ms (ix_max mc ms (ix_istore 5 (ix_aload 3 (ix_dupR (ix_getI 0 2 (ix_iload 5 (ix_iadd (ix_putI 0 2 (ix_aload 4 (ix_dupR (ix_getI 0 2 (ix_iload 5 (ix_isub (ix_putI 0 2 (ix_iload 5 (ix_iret mc ms Q))))))))))))))))))))))))))))))))))
theorem b_X6_push_0 {l : Launch} {G : GT} {D mc ms : Nat} {Q : Post} : Imp l G M_X6_push (D + 1) mc ms Q (B_X6_push_0 G mc ms Q) 0 := sx_aload_n dX6_push_0 rfl (sx_getR dX6_push_1 fl_FootQuarrel_Street_11 (fun _ _ _ => rfl) (sx_iload_n dX6_push_4 rfl (sx_aald dX6_push_5 (by decide) (by decide) rfl (sx_astore_n dX6_push_6 rfl (by decide) (sx_aload_n dX6_push_7 rfl (sx_getR dX6_push_8 fl_FootQuarrel_Street_11 (fun _ _ _ => rfl) (sx_iload_n dX6_push_11 rfl (sx_iconst dX6_push_12 rfl (sx_iadd dX6_push_13 (sx_aald dX6_push_14 (by decide) (by decide) rfl (sx_astore dX6_push_15 (by decide) (sx_aload_n dX6_push_17 rfl (sx_getI dX6_push_18 fl_FootQuarrel_Street_112 (fun _ _ _ => rfl) (sx_ineg dX6_push_21 (sx_iload_n dX6_push_22 rfl (sx_aload dX6_push_23 (sx_getI dX6_push_25 fl_FootQuarrel_Street_112 (fun _ _ _ => rfl) (sx_min dX6_push_28 (mg_4 (List.mem_of_getElem? (i := 237) rfl) rfl) (mg_3 (List.mem_of_getElem? (i := 179) rfl) rfl) (mg_1 (List.mem_of_getElem? (i := 18) rfl) rfl) (mg_3 (List.mem_of_getElem? (i := 180) rfl) rfl) (sx_max dX6_push_31 (mg_4 (List.mem_of_getElem? (i := 198) rfl) rfl) (mg_4 (List.mem_of_getElem? (i := 199) rfl) rfl) (mg_1 (List.mem_of_getElem? (i := 18) rfl) rfl) (mg_4 (List.mem_of_getElem? (i := 200) rfl) rfl) (sx_istore dX6_push_34 (by decide) (sx_aload_n dX6_push_36 rfl (sx_dupR dX6_push_37 (sx_getI dX6_push_38 fl_FootQuarrel_Street_112 (fun _ _ _ => rfl) (sx_iload dX6_push_41 (sx_iadd dX6_push_43 (sx_putI dX6_push_44 fl_FootQuarrel_Street_112 (by decide) (fun _ _ _ => rfl) (fun _ => ⟨rfl, rfl⟩) (sx_aload dX6_push_47 (sx_dupR dX6_push_49 (sx_getI dX6_push_50 fl_FootQuarrel_Street_112 (fun _ _ _ => rfl) (sx_iload dX6_push_53 (sx_isub dX6_push_55 (sx_putI dX6_push_56 fl_FootQuarrel_Street_112 (by decide) (fun _ _ _ => rfl) (fun _ => ⟨rfl, rfl⟩) (sx_iload dX6_push_59 (sx_iret dX6_push_61 rfl))))))))))))))))))))))))))))))))))
theorem dX11_isTray_0 : decode cX11_isTray 0 = .ok (.iload_n 0, 1) := by decide +kernel
theorem dX11_isTray_1 : decode cX11_isTray 1 = .ok (.iconst 0, 1) := by decide +kernel
theorem dX11_isTray_2 : decode cX11_isTray 2 = .ok (.iconst 3, 1) := by decide +kernel
theorem dX11_isTray_3 : decode cX11_isTray 3 = .ok (.invokestatic 74, 3) := by decide +kernel
theorem dX11_isTray_6 : decode cX11_isTray 6 = .ok (.ireturn, 1) := by decide +kernel
abbrev M_X11_isTray : MT := (yX11_isTray, cX11_isTray, 1, (some .boolean))
theorem cf_X11_isTray : fq_cf M_X11_isTray 1 := ⟨(mg_1 (List.mem_of_getElem? (i := 1) rfl) rfl), (mg_3 (List.mem_of_getElem? (i := 84) rfl) rfl), ⟨by decide, by decide, by decide +kernel⟩, by decide⟩
def B_X11_isTray_0 (G : GT) (mc ms : Nat) (Q : Post) : Cn := ix_iload 0 (ix_pushI 0 (ix_pushI 3 (ix_call 3 0 0 mc ms (sp_X11_isWithin G) (ix_zret mc ms Q))))
theorem b_X11_isTray_0 {l : Launch} {G : GT} {D mc ms : Nat} {Q : Post} : Imp l G M_X11_isTray (D + 1) mc ms Q (B_X11_isTray_0 G mc ms Q) 0 := sx_iload_n dX11_isTray_0 rfl (sx_iconst dX11_isTray_1 rfl (sx_iconst dX11_isTray_2 rfl (sx_scall dX11_isTray_3 cf_X11_isWithin (mg_3 (List.mem_of_getElem? (i := 85) rfl) rfl) (mg_3 (List.mem_of_getElem? (i := 86) rfl) rfl) c_X11_isWithin (sx_zret dX11_isTray_6 rfl))))
def sp_X11_isTray (G : GT) : Sp := fun as S I J z Q => match as with
  | [.int a0] => B_X11_isTray_0 G 0 0 Q [some (.int a0)] [] S I J z 0 0
  | _ => False
theorem c_X11_isTray {l : Launch} {G : GT} {D : Nat} : ∀ as S I J z Q, sp_X11_isTray G as S I J z Q → fqCall l G M_X11_isTray (D + 1) 0 0 as S I J z Q := by
  intro as S I J z Q h
  unfold sp_X11_isTray at h
  split at h
  · exact fq_enter _ (by decide +kernel) (Nat.le_of_ble_eq_true rfl) rfl (b_X11_isTray_0 _ _ _ _ _ _ _ _ h)
  · exact h.elim
theorem dX11_isHouse_0 : decode cX11_isHouse 0 = .ok (.iload_n 1, 1) := by decide +kernel
theorem dX11_isHouse_1 : decode cX11_isHouse 1 = .ok (.iconst 0, 1) := by decide +kernel
theorem dX11_isHouse_2 : decode cX11_isHouse 2 = .ok (.aload_n 0, 1) := by decide +kernel
theorem dX11_isHouse_3 : decode cX11_isHouse 3 = .ok (.getfield 46, 3) := by decide +kernel
theorem dX11_isHouse_6 : decode cX11_isHouse 6 = .ok (.getfield 164, 3) := by decide +kernel
theorem dX11_isHouse_9 : decode cX11_isHouse 9 = .ok (.iconst 1, 1) := by decide +kernel
theorem dX11_isHouse_10 : decode cX11_isHouse 10 = .ok (.isub, 1) := by decide +kernel
theorem dX11_isHouse_11 : decode cX11_isHouse 11 = .ok (.invokestatic 74, 3) := by decide +kernel
theorem dX11_isHouse_14 : decode cX11_isHouse 14 = .ok (.ireturn, 1) := by decide +kernel
abbrev M_X11_isHouse : MT := (yX11_isHouse, cX11_isHouse, 2, (some .boolean))
theorem cf_X11_isHouse : fq_cf M_X11_isHouse 1 := ⟨(mg_1 (List.mem_of_getElem? (i := 1) rfl) rfl), (mg_4 (List.mem_of_getElem? (i := 181) rfl) rfl), ⟨by decide, by decide, by decide +kernel⟩, by decide⟩
def B_X11_isHouse_0 (G : GT) (mc ms : Nat) (Q : Post) : Cn := ix_iload 1 (ix_pushI 0 (ix_aload 0 (ix_getR 11 6 (ix_getI 6 5 (ix_pushI 1 (ix_isub (ix_call 3 0 0 mc ms (sp_X11_isWithin G) (ix_zret mc ms Q))))))))
theorem b_X11_isHouse_0 {l : Launch} {G : GT} {D mc ms : Nat} {Q : Post} : Imp l G M_X11_isHouse (D + 1) mc ms Q (B_X11_isHouse_0 G mc ms Q) 0 := sx_iload_n dX11_isHouse_0 rfl (sx_iconst dX11_isHouse_1 rfl (sx_aload_n dX11_isHouse_2 rfl (sx_getR dX11_isHouse_3 fl_FootQuarrel_46 (fun _ _ _ => rfl) (sx_getI dX11_isHouse_6 fl_FootQuarrel_164 (fun _ _ _ => rfl) (sx_iconst dX11_isHouse_9 rfl (sx_isub dX11_isHouse_10 (sx_scall dX11_isHouse_11 cf_X11_isWithin (mg_3 (List.mem_of_getElem? (i := 85) rfl) rfl) (mg_3 (List.mem_of_getElem? (i := 86) rfl) rfl) c_X11_isWithin (sx_zret dX11_isHouse_14 rfl))))))))
def sp_X11_isHouse (G : GT) : Sp := fun as S I J z Q => match as with
  | [.ref a0, .int a1] => B_X11_isHouse_0 G 0 0 Q [some (.ref a0), some (.int a1)] [] S I J z 0 0
  | _ => False
theorem c_X11_isHouse {l : Launch} {G : GT} {D : Nat} : ∀ as S I J z Q, sp_X11_isHouse G as S I J z Q → fqCall l G M_X11_isHouse (D + 1) 0 0 as S I J z Q := by
  intro as S I J z Q h
  unfold sp_X11_isHouse at h
  split at h
  · exact fq_enter _ (by decide +kernel) (Nat.le_of_ble_eq_true rfl) rfl (b_X11_isHouse_0 _ _ _ _ _ _ _ _ h)
  · exact h.elim
theorem dX11_isPerson_0 : decode cX11_isPerson 0 = .ok (.iload_n 1, 1) := by decide +kernel
theorem dX11_isPerson_1 : decode cX11_isPerson 1 = .ok (.iconst 0, 1) := by decide +kernel
theorem dX11_isPerson_2 : decode cX11_isPerson 2 = .ok (.aload_n 0, 1) := by decide +kernel
theorem dX11_isPerson_3 : decode cX11_isPerson 3 = .ok (.getfield 46, 3) := by decide +kernel
theorem dX11_isPerson_6 : decode cX11_isPerson 6 = .ok (.getfield 139, 3) := by decide +kernel
theorem dX11_isPerson_9 : decode cX11_isPerson 9 = .ok (.iconst 1, 1) := by decide +kernel
theorem dX11_isPerson_10 : decode cX11_isPerson 10 = .ok (.isub, 1) := by decide +kernel
theorem dX11_isPerson_11 : decode cX11_isPerson 11 = .ok (.invokestatic 74, 3) := by decide +kernel
theorem dX11_isPerson_14 : decode cX11_isPerson 14 = .ok (.ireturn, 1) := by decide +kernel
abbrev M_X11_isPerson : MT := (yX11_isPerson, cX11_isPerson, 2, (some .boolean))
theorem cf_X11_isPerson : fq_cf M_X11_isPerson 1 := ⟨(mg_1 (List.mem_of_getElem? (i := 1) rfl) rfl), (mg_4 (List.mem_of_getElem? (i := 212) rfl) rfl), ⟨by decide, by decide, by decide +kernel⟩, by decide⟩
def B_X11_isPerson_0 (G : GT) (mc ms : Nat) (Q : Post) : Cn := ix_iload 1 (ix_pushI 0 (ix_aload 0 (ix_getR 11 6 (ix_getI 6 6 (ix_pushI 1 (ix_isub (ix_call 3 0 0 mc ms (sp_X11_isWithin G) (ix_zret mc ms Q))))))))
theorem b_X11_isPerson_0 {l : Launch} {G : GT} {D mc ms : Nat} {Q : Post} : Imp l G M_X11_isPerson (D + 1) mc ms Q (B_X11_isPerson_0 G mc ms Q) 0 := sx_iload_n dX11_isPerson_0 rfl (sx_iconst dX11_isPerson_1 rfl (sx_aload_n dX11_isPerson_2 rfl (sx_getR dX11_isPerson_3 fl_FootQuarrel_46 (fun _ _ _ => rfl) (sx_getI dX11_isPerson_6 fl_FootQuarrel_139 (fun _ _ _ => rfl) (sx_iconst dX11_isPerson_9 rfl (sx_isub dX11_isPerson_10 (sx_scall dX11_isPerson_11 cf_X11_isWithin (mg_3 (List.mem_of_getElem? (i := 85) rfl) rfl) (mg_3 (List.mem_of_getElem? (i := 86) rfl) rfl) c_X11_isWithin (sx_zret dX11_isPerson_14 rfl))))))))
def sp_X11_isPerson (G : GT) : Sp := fun as S I J z Q => match as with
  | [.ref a0, .int a1] => B_X11_isPerson_0 G 0 0 Q [some (.ref a0), some (.int a1)] [] S I J z 0 0
  | _ => False
theorem c_X11_isPerson {l : Launch} {G : GT} {D : Nat} : ∀ as S I J z Q, sp_X11_isPerson G as S I J z Q → fqCall l G M_X11_isPerson (D + 1) 0 0 as S I J z Q := by
  intro as S I J z Q h
  unfold sp_X11_isPerson at h
  split at h
  · exact fq_enter _ (by decide +kernel) (Nat.le_of_ble_eq_true rfl) rfl (b_X11_isPerson_0 _ _ _ _ _ _ _ _ h)
  · exact h.elim
theorem dX11_isWall_0 : decode cX11_isWall 0 = .ok (.iload_n 1, 1) := by decide +kernel
theorem dX11_isWall_1 : decode cX11_isWall 1 = .ok (.iconst 0, 1) := by decide +kernel
theorem dX11_isWall_2 : decode cX11_isWall 2 = .ok (.aload_n 0, 1) := by decide +kernel
theorem dX11_isWall_3 : decode cX11_isWall 3 = .ok (.getfield 46, 3) := by decide +kernel
theorem dX11_isWall_6 : decode cX11_isWall 6 = .ok (.invokevirtual 399, 3) := by decide +kernel
theorem dX11_isWall_9 : decode cX11_isWall 9 = .ok (.iconst 1, 1) := by decide +kernel
theorem dX11_isWall_10 : decode cX11_isWall 10 = .ok (.isub, 1) := by decide +kernel
theorem dX11_isWall_11 : decode cX11_isWall 11 = .ok (.invokestatic 74, 3) := by decide +kernel
theorem dX11_isWall_14 : decode cX11_isWall 14 = .ok (.ireturn, 1) := by decide +kernel
abbrev M_X11_isWall : MT := (yX11_isWall, cX11_isWall, 2, (some .boolean))
theorem cf_X11_isWall : fq_cf M_X11_isWall 1 := ⟨(mg_1 (List.mem_of_getElem? (i := 1) rfl) rfl), (mg_4 (List.mem_of_getElem? (i := 193) rfl) rfl), ⟨by decide, by decide, by decide +kernel⟩, by decide⟩
def B_X11_isWall_0 (G : GT) (mc ms : Nat) (Q : Post) : Cn := ix_iload 1 (ix_pushI 0 (ix_aload 0 (ix_getR 11 6 (ix_vcall 6 1 0 0 mc ms (sp_X6_wallCount G) (ix_pushI 1 (ix_isub (ix_call 3 0 0 mc ms (sp_X11_isWithin G) (ix_zret mc ms Q))))))))
theorem b_X11_isWall_0 {l : Launch} {G : GT} {D mc ms : Nat} {Q : Post} : Imp l G M_X11_isWall (D + 2) mc ms Q (B_X11_isWall_0 G mc ms Q) 0 := sx_iload_n dX11_isWall_0 rfl (sx_iconst dX11_isWall_1 rfl (sx_aload_n dX11_isWall_2 rfl (sx_getR dX11_isWall_3 fl_FootQuarrel_46 (fun _ _ _ => rfl) (sx_vcall dX11_isWall_6 cf_X6_wallCount (mg_4 (List.mem_of_getElem? (i := 194) rfl) rfl) (mg_4 (List.mem_of_getElem? (i := 195) rfl) rfl) (mg_4 (List.mem_of_getElem? (i := 196) rfl) rfl) rfl c_X6_wallCount (sx_iconst dX11_isWall_9 rfl (sx_isub dX11_isWall_10 (sx_scall dX11_isWall_11 cf_X11_isWithin (mg_3 (List.mem_of_getElem? (i := 85) rfl) rfl) (mg_3 (List.mem_of_getElem? (i := 86) rfl) rfl) c_X11_isWithin (sx_zret dX11_isWall_14 rfl))))))))
def sp_X11_isWall (G : GT) : Sp := fun as S I J z Q => match as with
  | [.ref a0, .int a1] => B_X11_isWall_0 G 0 0 Q [some (.ref a0), some (.int a1)] [] S I J z 0 0
  | _ => False
theorem c_X11_isWall {l : Launch} {G : GT} {D : Nat} : ∀ as S I J z Q, sp_X11_isWall G as S I J z Q → fqCall l G M_X11_isWall (D + 2) 0 0 as S I J z Q := by
  intro as S I J z Q h
  unfold sp_X11_isWall at h
  split at h
  · exact fq_enter _ (by decide +kernel) (Nat.le_of_ble_eq_true rfl) rfl (b_X11_isWall_0 _ _ _ _ _ _ _ _ h)
  · exact h.elim
theorem dX11_areTwo_0 : decode cX11_areTwo 0 = .ok (.aload_n 0, 1) := by decide +kernel
theorem dX11_areTwo_1 : decode cX11_areTwo 1 = .ok (.iload_n 1, 1) := by decide +kernel
theorem dX11_areTwo_2 : decode cX11_areTwo 2 = .ok (.invokevirtual 233, 3) := by decide +kernel
theorem dX11_areTwo_5 : decode cX11_areTwo 5 = .ok (.ifCond .eq 20, 3) := by decide +kernel
theorem dX11_areTwo_8 : decode cX11_areTwo 8 = .ok (.aload_n 0, 1) := by decide +kernel
theorem dX11_areTwo_9 : decode cX11_areTwo 9 = .ok (.iload_n 2, 1) := by decide +kernel
theorem dX11_areTwo_10 : decode cX11_areTwo 10 = .ok (.invokevirtual 233, 3) := by decide +kernel
theorem dX11_areTwo_13 : decode cX11_areTwo 13 = .ok (.ifCond .eq 12, 3) := by decide +kernel
theorem dX11_areTwo_16 : decode cX11_areTwo 16 = .ok (.iload_n 1, 1) := by decide +kernel
theorem dX11_areTwo_17 : decode cX11_areTwo 17 = .ok (.iload_n 2, 1) := by decide +kernel
theorem dX11_areTwo_18 : decode cX11_areTwo 18 = .ok (.if_icmp .eq 7, 3) := by decide +kernel
theorem dX11_areTwo_21 : decode cX11_areTwo 21 = .ok (.iconst 1, 1) := by decide +kernel
theorem dX11_areTwo_22 : decode cX11_areTwo 22 = .ok (.goto 4, 3) := by decide +kernel
theorem dX11_areTwo_25 : decode cX11_areTwo 25 = .ok (.iconst 0, 1) := by decide +kernel
theorem dX11_areTwo_26 : decode cX11_areTwo 26 = .ok (.ireturn, 1) := by decide +kernel
abbrev M_X11_areTwo : MT := (yX11_areTwo, cX11_areTwo, 3, (some .boolean))
theorem cf_X11_areTwo : fq_cf M_X11_areTwo 2 := ⟨(mg_1 (List.mem_of_getElem? (i := 1) rfl) rfl), (mg_4 (List.mem_of_getElem? (i := 231) rfl) rfl), ⟨by decide, by decide, by decide +kernel⟩, by decide⟩
def B_X11_areTwo_26 (G : GT) (mc ms : Nat) (Q : Post) : Cn := ix_zret mc ms Q
theorem b_X11_areTwo_26 {l : Launch} {G : GT} {D mc ms : Nat} {Q : Post} : Imp l G M_X11_areTwo (D + 2) mc ms Q (B_X11_areTwo_26 G mc ms Q) 26 := sx_zret dX11_areTwo_26 rfl
def B_X11_areTwo_25 (G : GT) (mc ms : Nat) (Q : Post) : Cn := ix_pushI 0 ((B_X11_areTwo_26 G mc ms Q))
theorem b_X11_areTwo_25 {l : Launch} {G : GT} {D mc ms : Nat} {Q : Post} : Imp l G M_X11_areTwo (D + 2) mc ms Q (B_X11_areTwo_25 G mc ms Q) 25 := sx_iconst dX11_areTwo_25 rfl (b_X11_areTwo_26)
def B_X11_areTwo_0 (G : GT) (mc ms : Nat) (Q : Post) : Cn := ix_aload 0 (ix_iload 1 (ix_vcall 11 2 0 0 mc ms (sp_X11_isPerson G) (ix_if_eq ((B_X11_areTwo_25 G mc ms Q)) (ix_aload 0 (ix_iload 2 (ix_vcall 11 2 0 0 mc ms (sp_X11_isPerson G) (ix_if_eq ((B_X11_areTwo_25 G mc ms Q)) (ix_iload 1 (ix_iload 2 (ix_icmp_eq ((B_X11_areTwo_25 G mc ms Q)) (ix_pushI 1 ((B_X11_areTwo_26 G mc ms Q)))))))))))))
theorem b_X11_areTwo_0 {l : Launch} {G : GT} {D mc ms : Nat} {Q : Post} : Imp l G M_X11_areTwo (D + 2) mc ms Q (B_X11_areTwo_0 G mc ms Q) 0 := sx_aload_n dX11_areTwo_0 rfl (sx_iload_n dX11_areTwo_1 rfl (sx_vcall dX11_areTwo_2 cf_X11_isPerson (mg_4 (List.mem_of_getElem? (i := 209) rfl) rfl) (mg_4 (List.mem_of_getElem? (i := 211) rfl) rfl) (mg_p (List.mem_of_getElem? (i := 26) rfl) rfl) rfl c_X11_isPerson (sx_if_eq 25 dX11_areTwo_5 (by decide) (b_X11_areTwo_25) (sx_aload_n dX11_areTwo_8 rfl (sx_iload_n dX11_areTwo_9 rfl (sx_vcall dX11_areTwo_10 cf_X11_isPerson (mg_4 (List.mem_of_getElem? (i := 209) rfl) rfl) (mg_4 (List.mem_of_getElem? (i := 211) rfl) rfl) (mg_p (List.mem_of_getElem? (i := 26) rfl) rfl) rfl c_X11_isPerson (sx_if_eq 25 dX11_areTwo_13 (by decide) (b_X11_areTwo_25) (sx_iload_n dX11_areTwo_16 rfl (sx_iload_n dX11_areTwo_17 rfl (sx_icmp_eq 25 dX11_areTwo_18 (by decide) (b_X11_areTwo_25) (sx_iconst dX11_areTwo_21 rfl (sx_goto 26 dX11_areTwo_22 (by decide) (b_X11_areTwo_26)))))))))))))
def sp_X6_latest (G : GT) : Sp := fun as S I J z Q => match as with
  | [.ref s, .int k] => stS S s ∧ okN (I s 8) 19 ∧ vp_in k 20 ∧ Q (some (.ref (s + 32 + qix (I s 8).toNatClampNeg k.toNatClampNeg))) S I J z
  | _ => False
set_option maxHeartbeats 4000000 in
set_option maxRecDepth 20000 in
theorem c_X6_latest {l : Launch} {G : GT} {D : Nat} : ∀ as S I J z Q, sp_X6_latest G as S I J z Q → fqCall l G M_X6_latest (D + 1) 0 0 as S I J z Q := by
  intro as S I J z Q h
  unfold sp_X6_latest at h
  split at h
  · next s k =>
    obtain ⟨hs, ho, hk, hQ⟩ := h
    obtain ⟨k, hk9, rfl⟩ := vp_in_of hk (by decide)
    obtain ⟨c, hc, hc1, hc2⟩ := ho.ex
    rw [nI_clamp (by omega), hc2] at hQ
    refine fq_enter [some (.ref s), some (.int (nI k))] (by decide +kernel) (Nat.le_of_ble_eq_true rfl) rfl (b_X6_latest_0 _ _ _ _ _ _ _ _ ?_)
    simp (disch := omega) only [B_X6_latest_0, sp_J9_floorMod_7cf53, B_J9_floorMod_7cf53_0, B_J9_floorMod_7cf53_18, hs.k, hs.r0, hs.k1, hs.r1, hs.k2, hs.r2, hs.k3, hs.r3, hs.k4, hs.r4, hs.k12, hs.n1, hs.n2, hs.n3, hs.y0, hs.k5, hs.n5, hs.y1, hs.k6, hs.n6, hs.y2, hs.k7, hs.n7, hs.y3, hs.k8, hs.n8, hs.y4, hs.k9, hs.n9, hs.y5, hs.k10, hs.n10, hs.y6, hs.k11, hs.n11, hs.p0, hs.p1, hs.p2, hs.k13, hs.n13, hs.q0, hs.q1, hs.k14, hs.k15, hs.k16, hs.n16, hs.k17, hs.n17, hs.rH, hs.kH, hs.rP, hs.kP, hs.rQ, hs.kQ, hc1, nI_1, nI_add, nI_clamp, nI_pin, nI_neg, nI_nonneg, nI_leE, nI_ltE, nI_eqE, Nat.not_le, Nat.not_lt, fq_10, fq_01, fq_rr, ix_aald, ix_aast, ix_abs, ix_alen, ix_aload, ix_aret, ix_astore, ix_bald, ix_bast, ix_call, ix_cpyI, ix_cpyJ, ix_dead, ix_dup2, ix_dup2L, ix_dupI, ix_dupR, ix_dupx1, ix_getI, ix_getJ, ix_getR, ix_gfm, ix_gtab, ix_i2b, ix_i2c, ix_i2l, ix_i2s, ix_iadd, ix_iald, ix_iand, ix_iast, ix_icall, ix_icmp_eq, ix_icmp_ge, ix_icmp_gt, ix_icmp_le, ix_icmp_lt, ix_icmp_ne, ix_idiv, ix_if_eq, ix_if_ge, ix_if_gt, ix_if_le, ix_if_lt, ix_if_ne, ix_iinc, ix_iload, ix_imul, ix_ineg, ix_ior, ix_irem, ix_iret, ix_ishl, ix_ishr, ix_istore, ix_isub, ix_iushr, ix_ixor, ix_l2i, ix_ladd, ix_lald, ix_land, ix_last, ix_lcmp, ix_ldcS, ix_ldiv, ix_lload, ix_lmul, ix_lor, ix_lrem, ix_lret, ix_lshl, ix_lstore, ix_lsub, ix_lsw, ix_max, ix_min, ix_new, ix_newa, ix_nret, ix_oinit, ix_pop2L, ix_popI, ix_pushI, ix_pushL, ix_putI, ix_putJ, ix_putR, ix_putZ, ix_sbald, ix_sgetC, ix_sgetV, ix_slen, ix_strc, ix_tald, ix_tsw, ix_vcall, ix_vret, ix_zret, stL, stL2, kilL, popN, fq_sw, fq_lsw, List.map_cons, List.map_nil, List.getElem?_cons_zero, List.getElem?_cons_succ, Option.toList_some, Option.toList_none, List.cons_append, List.nil_append, List.length_cons, List.length_nil, List.sum_cons, List.sum_nil, cat_i, cat_l, cat_r, true_and, and_true, Nat.zero_add, Nat.add_zero, Nat.le_refl, Nat.zero_le, Nat.reduceAdd, Nat.reduceLeDiff, exists_eq_left', Option.some.injEq, not_true_eq_false, not_false_eq_true, false_implies, true_implies, implies_true, and_self, or_true, true_or, or_false, false_or]
    obtain ⟨k1, k2⟩ := fm20 c (by omega) k hk9
    have ql := qix_lt c k
    have fin : vp_in (nI (qix c k)) 20 ∧ ∃ b, S.2.2 (s + 3) (nI (qix c k)).toNatClampNeg = some b ∧ Q (some (.ref b)) S I J z := by
      rw [nI_clamp (by omega)]
      exact ⟨vp_in_nI ql (by decide), _, hs.rQ _ ql, hQ⟩
    refine ⟨by decide, fun h1 => ?_, fun h1 => ⟨fun h2 => ?_, fun h2 => ?_⟩⟩
    · rw [k1 h1]
      exact fin
    · rw [(k2 h1).1 h2]
      exact fin
    · rw [(k2 h1).2 h2]
      exact fin
  · exact h.elim
def mx0 (x : Int32) : Int32 := if 0 < x then x else 0
def sp_X6_angerBehind (G : GT) : Sp := fun as S I J z Q => match as with
  | [.ref s, .int p, .int n] => stS S s ∧ vp_in p 8 ∧ Q (some (.int (mx0 (I (s + 24 + p.toNatClampNeg) 6 - n * I s 10)))) S I J z
  | _ => False
set_option maxHeartbeats 4000000 in
set_option maxRecDepth 20000 in
theorem c_X6_angerBehind {l : Launch} {G : GT} {D : Nat} : ∀ as S I J z Q, sp_X6_angerBehind G as S I J z Q → fqCall l G M_X6_angerBehind (D + 1) 0 0 as S I J z Q := by
  intro as S I J z Q h
  unfold sp_X6_angerBehind at h
  split at h
  · next s p n =>
    obtain ⟨hs, hp, hQ⟩ := h
    obtain ⟨p, hp, rfl⟩ := vp_in_of hp (by decide)
    rw [nI_clamp (by omega)] at hQ
    refine fq_enter [some (.ref s), some (.int (nI p)), some (.int n)] (by decide +kernel) (Nat.le_of_ble_eq_true rfl) rfl (b_X6_angerBehind_0 _ _ _ _ _ _ _ _ ?_)
    simp (disch := omega) only [B_X6_angerBehind_0, hs.k, hs.r0, hs.k1, hs.r1, hs.k2, hs.r2, hs.k3, hs.r3, hs.k4, hs.r4, hs.k12, hs.n1, hs.n2, hs.n3, hs.y0, hs.k5, hs.n5, hs.y1, hs.k6, hs.n6, hs.y2, hs.k7, hs.n7, hs.y3, hs.k8, hs.n8, hs.y4, hs.k9, hs.n9, hs.y5, hs.k10, hs.n10, hs.y6, hs.k11, hs.n11, hs.p0, hs.p1, hs.p2, hs.k13, hs.n13, hs.q0, hs.q1, hs.k14, hs.k15, hs.k16, hs.n16, hs.k17, hs.n17, hs.rH, hs.kH, hs.rP, hs.kP, hs.rQ, hs.kQ, nI_1, nI_add, nI_clamp, nI_pin, nI_neg, nI_nonneg, nI_leE, nI_ltE, nI_eqE, Nat.not_le, Nat.not_lt, fq_10, fq_01, fq_rr, ix_aald, ix_aast, ix_abs, ix_alen, ix_aload, ix_aret, ix_astore, ix_bald, ix_bast, ix_call, ix_cpyI, ix_cpyJ, ix_dead, ix_dup2, ix_dup2L, ix_dupI, ix_dupR, ix_dupx1, ix_getI, ix_getJ, ix_getR, ix_gfm, ix_gtab, ix_i2b, ix_i2c, ix_i2l, ix_i2s, ix_iadd, ix_iald, ix_iand, ix_iast, ix_icall, ix_icmp_eq, ix_icmp_ge, ix_icmp_gt, ix_icmp_le, ix_icmp_lt, ix_icmp_ne, ix_idiv, ix_if_eq, ix_if_ge, ix_if_gt, ix_if_le, ix_if_lt, ix_if_ne, ix_iinc, ix_iload, ix_imul, ix_ineg, ix_ior, ix_irem, ix_iret, ix_ishl, ix_ishr, ix_istore, ix_isub, ix_iushr, ix_ixor, ix_l2i, ix_ladd, ix_lald, ix_land, ix_last, ix_lcmp, ix_ldcS, ix_ldiv, ix_lload, ix_lmul, ix_lor, ix_lrem, ix_lret, ix_lshl, ix_lstore, ix_lsub, ix_lsw, ix_max, ix_min, ix_new, ix_newa, ix_nret, ix_oinit, ix_pop2L, ix_popI, ix_pushI, ix_pushL, ix_putI, ix_putJ, ix_putR, ix_putZ, ix_sbald, ix_sgetC, ix_sgetV, ix_slen, ix_strc, ix_tald, ix_tsw, ix_vcall, ix_vret, ix_zret, stL, stL2, kilL, popN, fq_sw, fq_lsw, List.map_cons, List.map_nil, List.getElem?_cons_zero, List.getElem?_cons_succ, Option.toList_some, Option.toList_none, List.cons_append, List.nil_append, List.length_cons, List.length_nil, List.sum_cons, List.sum_nil, cat_i, cat_l, cat_r, true_and, and_true, Nat.zero_add, Nat.add_zero, Nat.le_refl, Nat.zero_le, Nat.reduceAdd, Nat.reduceLeDiff, exists_eq_left', Option.some.injEq, not_true_eq_false, not_false_eq_true, false_implies, true_implies, implies_true, and_self, or_true, true_or, or_false, false_or]
    exact hQ
  · exact h.elim
/-- how far a wall goes: to the right, as far as there is land -/
def psh (l r f : Int32) : Int32 := if -l < (if r < f then r else f) then (if r < f then r else f) else -l
def sp_X6_push (G : GT) : Sp := fun as S I J z Q => match as with
  | [.ref s, .int w, .int f] => stS S s ∧ vp_in w 5 ∧ Q (some (.int (psh (I (s + 18 + w.toNatClampNeg) 2) (I (s + 18 + (w.toNatClampNeg + 1)) 2) f))) S (u2 (u2 I (s + 18 + w.toNatClampNeg) 2 (I (s + 18 + w.toNatClampNeg) 2 + psh (I (s + 18 + w.toNatClampNeg) 2) (I (s + 18 + (w.toNatClampNeg + 1)) 2) f)) (s + 18 + (w.toNatClampNeg + 1)) 2 (I (s + 18 + (w.toNatClampNeg + 1)) 2 - psh (I (s + 18 + w.toNatClampNeg) 2) (I (s + 18 + (w.toNatClampNeg + 1)) 2) f)) J z
  | _ => False
set_option maxHeartbeats 4000000 in
set_option maxRecDepth 20000 in
theorem c_X6_push {l : Launch} {G : GT} {D : Nat} : ∀ as S I J z Q, sp_X6_push G as S I J z Q → fqCall l G M_X6_push (D + 1) 0 0 as S I J z Q := by
  intro as S I J z Q h
  unfold sp_X6_push at h
  split at h
  · next s w f =>
    obtain ⟨hs, hw, hQ⟩ := h
    obtain ⟨w, hw, rfl⟩ := vp_in_of hw (by decide)
    rw [nI_clamp (by omega)] at hQ
    have e1 : u2 I (s + 18 + w) 2 (I (s + 18 + w) 2 + psh (I (s + 18 + w) 2) (I (s + 18 + (w + 1)) 2) f) (s + 18 + (w + 1)) 2 = I (s + 18 + (w + 1)) 2 := u2_ca _ _ _ _ _ _ (by omega)
    refine fq_enter [some (.ref s), some (.int (nI w)), some (.int f), none, none, none] (by decide +kernel) (Nat.le_of_ble_eq_true rfl) rfl (b_X6_push_0 _ _ _ _ _ _ _ _ ?_)
    simp (disch := omega) only [B_X6_push_0, hs.k, hs.r0, hs.k1, hs.r1, hs.k2, hs.r2, hs.k3, hs.r3, hs.k4, hs.r4, hs.k12, hs.n1, hs.n2, hs.n3, hs.y0, hs.k5, hs.n5, hs.y1, hs.k6, hs.n6, hs.y2, hs.k7, hs.n7, hs.y3, hs.k8, hs.n8, hs.y4, hs.k9, hs.n9, hs.y5, hs.k10, hs.n10, hs.y6, hs.k11, hs.n11, hs.p0, hs.p1, hs.p2, hs.k13, hs.n13, hs.q0, hs.q1, hs.k14, hs.k15, hs.k16, hs.n16, hs.k17, hs.n17, hs.rH, hs.kH, hs.rP, hs.kP, hs.rQ, hs.kQ, nI_1, nI_add, nI_clamp, nI_pin, nI_neg, nI_nonneg, nI_leE, nI_ltE, nI_eqE, Nat.not_le, Nat.not_lt, fq_10, fq_01, fq_rr, ix_aald, ix_aast, ix_abs, ix_alen, ix_aload, ix_aret, ix_astore, ix_bald, ix_bast, ix_call, ix_cpyI, ix_cpyJ, ix_dead, ix_dup2, ix_dup2L, ix_dupI, ix_dupR, ix_dupx1, ix_getI, ix_getJ, ix_getR, ix_gfm, ix_gtab, ix_i2b, ix_i2c, ix_i2l, ix_i2s, ix_iadd, ix_iald, ix_iand, ix_iast, ix_icall, ix_icmp_eq, ix_icmp_ge, ix_icmp_gt, ix_icmp_le, ix_icmp_lt, ix_icmp_ne, ix_idiv, ix_if_eq, ix_if_ge, ix_if_gt, ix_if_le, ix_if_lt, ix_if_ne, ix_iinc, ix_iload, ix_imul, ix_ineg, ix_ior, ix_irem, ix_iret, ix_ishl, ix_ishr, ix_istore, ix_isub, ix_iushr, ix_ixor, ix_l2i, ix_ladd, ix_lald, ix_land, ix_last, ix_lcmp, ix_ldcS, ix_ldiv, ix_lload, ix_lmul, ix_lor, ix_lrem, ix_lret, ix_lshl, ix_lstore, ix_lsub, ix_lsw, ix_max, ix_min, ix_new, ix_newa, ix_nret, ix_oinit, ix_pop2L, ix_popI, ix_pushI, ix_pushL, ix_putI, ix_putJ, ix_putR, ix_putZ, ix_sbald, ix_sgetC, ix_sgetV, ix_slen, ix_strc, ix_tald, ix_tsw, ix_vcall, ix_vret, ix_zret, stL, stL2, kilL, popN, fq_sw, fq_lsw, List.map_cons, List.map_nil, List.getElem?_cons_zero, List.getElem?_cons_succ, Option.toList_some, Option.toList_none, List.cons_append, List.nil_append, List.length_cons, List.length_nil, List.sum_cons, List.sum_nil, cat_i, cat_l, cat_r, true_and, and_true, Nat.zero_add, Nat.add_zero, Nat.le_refl, Nat.zero_le, Nat.reduceAdd, Nat.reduceLeDiff, exists_eq_left', Option.some.injEq, not_true_eq_false, not_false_eq_true, false_implies, true_implies, implies_true, and_self, or_true, true_or, or_false, false_or]
    unfold psh at hQ e1
    rw [e1]
    exact hQ
  · exact h.elim
def sp_X11_areTwo (G : GT) : Sp := fun as S I J z Q => match as with
  | [.ref X, .int a, .int b] => S.1 X = 11 ∧ ∃ s, S.2.2 X 6 = some s ∧ S.1 s = 6 ∧ Q (some (.int (bI ((0 ≤ a ∧ a ≤ I s 6 - 1) ∧ (0 ≤ b ∧ b ≤ I s 6 - 1) ∧ ¬ a = b)))) S I J z
  | _ => False
set_option maxHeartbeats 4000000 in
set_option maxRecDepth 20000 in
theorem c_X11_areTwo {l : Launch} {G : GT} {D : Nat} : ∀ as S I J z Q, sp_X11_areTwo G as S I J z Q → fqCall l G M_X11_areTwo (D + 2) 0 0 as S I J z Q := by
  intro as S I J z Q h
  unfold sp_X11_areTwo at h
  split at h
  · next X a b =>
    obtain ⟨h1, s, h2, h3, hQ⟩ := h
    refine fq_enter [some (.ref X), some (.int a), some (.int b)] (by decide +kernel) (Nat.le_of_ble_eq_true rfl) rfl (b_X11_areTwo_0 _ _ _ _ _ _ _ _ ?_)
    simp (disch := omega) only [B_X11_areTwo_0, B_X11_areTwo_25, B_X11_areTwo_26, sp_X11_isPerson, B_X11_isPerson_0, sp_X11_isWithin, h1, h2, h3, bI_01, bI_01b, bI_0, nI_1, nI_add, nI_clamp, nI_pin, nI_neg, nI_nonneg, nI_leE, nI_ltE, nI_eqE, Nat.not_le, Nat.not_lt, fq_10, fq_01, fq_rr, ix_aald, ix_aast, ix_abs, ix_alen, ix_aload, ix_aret, ix_astore, ix_bald, ix_bast, ix_call, ix_cpyI, ix_cpyJ, ix_dead, ix_dup2, ix_dup2L, ix_dupI, ix_dupR, ix_dupx1, ix_getI, ix_getJ, ix_getR, ix_gfm, ix_gtab, ix_i2b, ix_i2c, ix_i2l, ix_i2s, ix_iadd, ix_iald, ix_iand, ix_iast, ix_icall, ix_icmp_eq, ix_icmp_ge, ix_icmp_gt, ix_icmp_le, ix_icmp_lt, ix_icmp_ne, ix_idiv, ix_if_eq, ix_if_ge, ix_if_gt, ix_if_le, ix_if_lt, ix_if_ne, ix_iinc, ix_iload, ix_imul, ix_ineg, ix_ior, ix_irem, ix_iret, ix_ishl, ix_ishr, ix_istore, ix_isub, ix_iushr, ix_ixor, ix_l2i, ix_ladd, ix_lald, ix_land, ix_last, ix_lcmp, ix_ldcS, ix_ldiv, ix_lload, ix_lmul, ix_lor, ix_lrem, ix_lret, ix_lshl, ix_lstore, ix_lsub, ix_lsw, ix_max, ix_min, ix_new, ix_newa, ix_nret, ix_oinit, ix_pop2L, ix_popI, ix_pushI, ix_pushL, ix_putI, ix_putJ, ix_putR, ix_putZ, ix_sbald, ix_sgetC, ix_sgetV, ix_slen, ix_strc, ix_tald, ix_tsw, ix_vcall, ix_vret, ix_zret, stL, stL2, kilL, popN, fq_sw, fq_lsw, List.map_cons, List.map_nil, List.getElem?_cons_zero, List.getElem?_cons_succ, Option.toList_some, Option.toList_none, List.cons_append, List.nil_append, List.length_cons, List.length_nil, List.sum_cons, List.sum_nil, cat_i, cat_l, cat_r, true_and, and_true, Nat.zero_add, Nat.add_zero, Nat.le_refl, Nat.zero_le, Nat.reduceAdd, Nat.reduceLeDiff, exists_eq_left', Option.some.injEq, not_true_eq_false, not_false_eq_true, false_implies, true_implies, implies_true, and_self, or_true, true_or, or_false, false_or]
    refine ⟨fun g1 => ?_, fun g1 => ⟨fun g2 => ?_, fun g2 => ⟨fun g3 => ?_, fun g3 => ?_⟩⟩⟩
    · rw [bI_f (fun q => g1 q.1)] at hQ
      exact hQ
    · rw [bI_f (fun q => g2 q.2.1)] at hQ
      exact hQ
    · rw [bI_f (fun q => q.2.2 g3)] at hQ
      exact hQ
    · rw [bI_t ⟨Decidable.not_not.mp g1, Decidable.not_not.mp g2, g3⟩] at hQ
      exact hQ
  · exact h.elim
