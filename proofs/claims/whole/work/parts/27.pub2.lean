-- the tape is fed, trays, nights
theorem dX11_feed_0 : decode cX11_feed 0 = .ok (.aload_n 0, 1) := by decide +kernel
theorem dX11_feed_1 : decode cX11_feed 1 = .ok (.getfield 121, 3) := by decide +kernel
theorem dX11_feed_4 : decode cX11_feed 4 = .ok (.bipush 20, 2) := by decide +kernel
theorem dX11_feed_6 : decode cX11_feed 6 = .ok (.iadd, 1) := by decide +kernel
theorem dX11_feed_7 : decode cX11_feed 7 = .ok (.sipush 900, 3) := by decide +kernel
theorem dX11_feed_10 : decode cX11_feed 10 = .ok (.if_icmp .le 5, 3) := by decide +kernel
theorem dX11_feed_13 : decode cX11_feed 13 = .ok (.iconst (-1), 1) := by decide +kernel
theorem dX11_feed_14 : decode cX11_feed 14 = .ok (.ireturn, 1) := by decide +kernel
theorem dX11_feed_15 : decode cX11_feed 15 = .ok (.aload_n 0, 1) := by decide +kernel
theorem dX11_feed_16 : decode cX11_feed 16 = .ok (.iload_n 1, 1) := by decide +kernel
theorem dX11_feed_17 : decode cX11_feed 17 = .ok (.invokevirtual 124, 3) := by decide +kernel
theorem dX11_feed_20 : decode cX11_feed 20 = .ok (.aload_n 0, 1) := by decide +kernel
theorem dX11_feed_21 : decode cX11_feed 21 = .ok (.iload_n 2, 1) := by decide +kernel
theorem dX11_feed_22 : decode cX11_feed 22 = .ok (.invokevirtual 124, 3) := by decide +kernel
theorem dX11_feed_25 : decode cX11_feed 25 = .ok (.aload_n 0, 1) := by decide +kernel
theorem dX11_feed_26 : decode cX11_feed 26 = .ok (.iload_n 3, 1) := by decide +kernel
theorem dX11_feed_27 : decode cX11_feed 27 = .ok (.invokevirtual 124, 3) := by decide +kernel
theorem dX11_feed_30 : decode cX11_feed 30 = .ok (.aload_n 0, 1) := by decide +kernel
theorem dX11_feed_31 : decode cX11_feed 31 = .ok (.iload 4, 2) := by decide +kernel
theorem dX11_feed_33 : decode cX11_feed 33 = .ok (.invokevirtual 124, 3) := by decide +kernel
theorem dX11_feed_36 : decode cX11_feed 36 = .ok (.aload_n 0, 1) := by decide +kernel
theorem dX11_feed_37 : decode cX11_feed 37 = .ok (.iload 5, 2) := by decide +kernel
theorem dX11_feed_39 : decode cX11_feed 39 = .ok (.invokevirtual 124, 3) := by decide +kernel
theorem dX11_feed_42 : decode cX11_feed 42 = .ok (.aload_n 0, 1) := by decide +kernel
theorem dX11_feed_43 : decode cX11_feed 43 = .ok (.getfield 121, 3) := by decide +kernel
theorem dX11_feed_46 : decode cX11_feed 46 = .ok (.ireturn, 1) := by decide +kernel
abbrev M_X11_feed : MT := (yX11_feed, cX11_feed, 6, (some .int))
theorem cf_X11_feed : fq_cf M_X11_feed 5 := ⟨(mg_1 (List.mem_of_getElem? (i := 1) rfl) rfl), (mg_3 (List.mem_of_getElem? (i := 138) rfl) rfl), ⟨by decide, by decide, by decide +kernel⟩, by decide⟩
def B_X11_feed_0 (G : GT) (mc ms : Nat) (Q : Post) : Cn := ix_aload 0 (ix_getI 11 8 (ix_pushI 20 (ix_iadd (ix_pushI 900 (ix_icmp_le (ix_aload 0 (ix_iload 1 (ix_vcall 11 2 0 0 mc ms (sp_X11_feedOne G) (ix_aload 0 (ix_iload 2 (ix_vcall 11 2 0 0 mc ms (sp_X11_feedOne G) (ix_aload 0 (ix_iload 3 (ix_vcall 11 2 0 0 mc ms (sp_X11_feedOne G) (ix_aload 0 (ix_iload 4 (ix_vcall 11 2 0 0 mc ms (sp_X11_feedOne G) (ix_aload 0 (ix_iload 5 (ix_vcall 11 2 0 0 mc ms (sp_X11_feedOne G) (ix_aload 0 (ix_getI 11 8 (ix_iret mc ms Q)))))))))))))))))) (ix_pushI (-1) (ix_iret mc ms Q)))))))
theorem b_X11_feed_0 {l : Launch} {G : GT} {D mc ms : Nat} {Q : Post} : Imp l G M_X11_feed (D + 1) mc ms Q (B_X11_feed_0 G mc ms Q) 0 := sx_aload_n dX11_feed_0 rfl (sx_getI dX11_feed_1 fl_FootQuarrel_121 (fun _ _ _ => rfl) (sx_bipush dX11_feed_4 rfl (sx_iadd dX11_feed_6 (sx_sipush dX11_feed_7 rfl (sx_icmp_le 15 dX11_feed_10 (by decide) (sx_aload_n dX11_feed_15 rfl (sx_iload_n dX11_feed_16 rfl (sx_vcall dX11_feed_17 cf_X11_feedOne (mg_3 (List.mem_of_getElem? (i := 139) rfl) rfl) (mg_3 (List.mem_of_getElem? (i := 141) rfl) rfl) (mg_p (List.mem_of_getElem? (i := 4) rfl) rfl) rfl c_X11_feedOne (sx_aload_n dX11_feed_20 rfl (sx_iload_n dX11_feed_21 rfl (sx_vcall dX11_feed_22 cf_X11_feedOne (mg_3 (List.mem_of_getElem? (i := 139) rfl) rfl) (mg_3 (List.mem_of_getElem? (i := 141) rfl) rfl) (mg_p (List.mem_of_getElem? (i := 4) rfl) rfl) rfl c_X11_feedOne (sx_aload_n dX11_feed_25 rfl (sx_iload_n dX11_feed_26 rfl (sx_vcall dX11_feed_27 cf_X11_feedOne (mg_3 (List.mem_of_getElem? (i := 139) rfl) rfl) (mg_3 (List.mem_of_getElem? (i := 141) rfl) rfl) (mg_p (List.mem_of_getElem? (i := 4) rfl) rfl) rfl c_X11_feedOne (sx_aload_n dX11_feed_30 rfl (sx_iload dX11_feed_31 (sx_vcall dX11_feed_33 cf_X11_feedOne (mg_3 (List.mem_of_getElem? (i := 139) rfl) rfl) (mg_3 (List.mem_of_getElem? (i := 141) rfl) rfl) (mg_p (List.mem_of_getElem? (i := 4) rfl) rfl) rfl c_X11_feedOne (sx_aload_n dX11_feed_36 rfl (sx_iload dX11_feed_37 (sx_vcall dX11_feed_39 cf_X11_feedOne (mg_3 (List.mem_of_getElem? (i := 139) rfl) rfl) (mg_3 (List.mem_of_getElem? (i := 141) rfl) rfl) (mg_p (List.mem_of_getElem? (i := 4) rfl) rfl) rfl c_X11_feedOne (sx_aload_n dX11_feed_42 rfl (sx_getI dX11_feed_43 fl_FootQuarrel_121 (fun _ _ _ => rfl) (sx_iret dX11_feed_46 rfl)))))))))))))))))) (sx_iconst dX11_feed_13 rfl (sx_iret dX11_feed_14 rfl)))))))
def sp_X11_feed (G : GT) : Sp := fun as S I J z Q => match as with
  | [.ref a0, .int a1, .int a2, .int a3, .int a4, .int a5] => B_X11_feed_0 G 0 0 Q [some (.ref a0), some (.int a1), some (.int a2), some (.int a3), some (.int a4), some (.int a5)] [] S I J z 0 0
  | _ => False
theorem c_X11_feed {l : Launch} {G : GT} {D : Nat} : ∀ as S I J z Q, sp_X11_feed G as S I J z Q → fqCall l G M_X11_feed (D + 1) 0 0 as S I J z Q := by
  intro as S I J z Q h
  unfold sp_X11_feed at h
  split at h
  · exact fq_enter _ (by decide +kernel) (Nat.le_of_ble_eq_true rfl) rfl (b_X11_feed_0 _ _ _ _ _ _ _ _ h)
  · exact h.elim
theorem dX11_tray_0 : decode cX11_tray 0 = .ok (.iload_n 1, 1) := by decide +kernel
theorem dX11_tray_1 : decode cX11_tray 1 = .ok (.invokestatic 70, 3) := by decide +kernel
theorem dX11_tray_4 : decode cX11_tray 4 = .ok (.ifCond .eq 22, 3) := by decide +kernel
theorem dX11_tray_7 : decode cX11_tray 7 = .ok (.iload_n 2, 1) := by decide +kernel
theorem dX11_tray_8 : decode cX11_tray 8 = .ok (.iconst 0, 1) := by decide +kernel
theorem dX11_tray_9 : decode cX11_tray 9 = .ok (.iconst 3, 1) := by decide +kernel
theorem dX11_tray_10 : decode cX11_tray 10 = .ok (.invokestatic 74, 3) := by decide +kernel
theorem dX11_tray_13 : decode cX11_tray 13 = .ok (.ifCond .eq 13, 3) := by decide +kernel
theorem dX11_tray_16 : decode cX11_tray 16 = .ok (.iload_n 3, 1) := by decide +kernel
theorem dX11_tray_17 : decode cX11_tray 17 = .ok (.iconst 0, 1) := by decide +kernel
theorem dX11_tray_18 : decode cX11_tray 18 = .ok (.bipush 60, 2) := by decide +kernel
theorem dX11_tray_20 : decode cX11_tray 20 = .ok (.invokestatic 74, 3) := by decide +kernel
theorem dX11_tray_23 : decode cX11_tray 23 = .ok (.ifCond .ne 9, 3) := by decide +kernel
theorem dX11_tray_26 : decode cX11_tray 26 = .ok (.aload_n 0, 1) := by decide +kernel
theorem dX11_tray_27 : decode cX11_tray 27 = .ok (.iconst 1, 1) := by decide +kernel
theorem dX11_tray_28 : decode cX11_tray 28 = .ok (.invokevirtual 78, 3) := by decide +kernel
theorem dX11_tray_31 : decode cX11_tray 31 = .ok (.ireturn, 1) := by decide +kernel
theorem dX11_tray_32 : decode cX11_tray 32 = .ok (.aload_n 0, 1) := by decide +kernel
theorem dX11_tray_33 : decode cX11_tray 33 = .ok (.getfield 11, 3) := by decide +kernel
theorem dX11_tray_36 : decode cX11_tray 36 = .ok (.iload_n 1, 1) := by decide +kernel
theorem dX11_tray_37 : decode cX11_tray 37 = .ok (.aaload, 1) := by decide +kernel
theorem dX11_tray_38 : decode cX11_tray 38 = .ok (.iload_n 2, 1) := by decide +kernel
theorem dX11_tray_39 : decode cX11_tray 39 = .ok (.iload_n 3, 1) := by decide +kernel
theorem dX11_tray_40 : decode cX11_tray 40 = .ok (.invokevirtual 81, 3) := by decide +kernel
theorem dX11_tray_43 : decode cX11_tray 43 = .ok (.aload_n 0, 1) := by decide +kernel
theorem dX11_tray_44 : decode cX11_tray 44 = .ok (.invokevirtual 85, 3) := by decide +kernel
theorem dX11_tray_47 : decode cX11_tray 47 = .ok (.ireturn, 1) := by decide +kernel
abbrev M_X11_tray : MT := (yX11_tray, cX11_tray, 4, (some .boolean))
theorem cf_X11_tray : fq_cf M_X11_tray 3 := ⟨(mg_1 (List.mem_of_getElem? (i := 1) rfl) rfl), (mg_3 (List.mem_of_getElem? (i := 81) rfl) rfl), ⟨by decide, by decide, by decide +kernel⟩, by decide⟩
def B_X11_tray_26 (G : GT) (mc ms : Nat) (Q : Post) : Cn := ix_aload 0 (ix_pushI 1 (ix_vcall 11 2 0 0 mc ms (sp_X11_deny G) (ix_zret mc ms Q)))
theorem b_X11_tray_26 {l : Launch} {G : GT} {D mc ms : Nat} {Q : Post} : Imp l G M_X11_tray (D + 2) mc ms Q (B_X11_tray_26 G mc ms Q) 26 := sx_aload_n dX11_tray_26 rfl (sx_iconst dX11_tray_27 rfl (sx_vcall dX11_tray_28 cf_X11_deny (mg_3 (List.mem_of_getElem? (i := 88) rfl) rfl) (mg_3 (List.mem_of_getElem? (i := 90) rfl) rfl) (mg_p (List.mem_of_getElem? (i := 0) rfl) rfl) rfl c_X11_deny (sx_zret dX11_tray_31 rfl)))
def B_X11_tray_0 (G : GT) (mc ms : Nat) (Q : Post) : Cn := ix_iload 1 (ix_call 1 0 0 mc ms (sp_X11_isTray G) (ix_if_eq ((B_X11_tray_26 G mc ms Q)) (ix_iload 2 (ix_pushI 0 (ix_pushI 3 (ix_call 3 0 0 mc ms (sp_X11_isWithin G) (ix_if_eq ((B_X11_tray_26 G mc ms Q)) (ix_iload 3 (ix_pushI 0 (ix_pushI 60 (ix_call 3 0 0 mc ms (sp_X11_isWithin G) (ix_if_ne (ix_aload 0 (ix_getR 11 0 (ix_iload 1 (ix_aald 20 (ix_iload 2 (ix_iload 3 (ix_vcall 8 3 0 0 mc ms (sp_X8_renew G) (ix_aload 0 (ix_vcall 11 1 0 0 mc ms (sp_X11_grant G) (ix_zret mc ms Q)))))))))) ((B_X11_tray_26 G mc ms Q))))))))))))))
theorem b_X11_tray_0 {l : Launch} {G : GT} {D mc ms : Nat} {Q : Post} : Imp l G M_X11_tray (D + 2) mc ms Q (B_X11_tray_0 G mc ms Q) 0 := sx_iload_n dX11_tray_0 rfl (sx_scall dX11_tray_1 cf_X11_isTray (mg_3 (List.mem_of_getElem? (i := 82) rfl) rfl) (mg_3 (List.mem_of_getElem? (i := 83) rfl) rfl) c_X11_isTray (sx_if_eq 26 dX11_tray_4 (by decide) (b_X11_tray_26) (sx_iload_n dX11_tray_7 rfl (sx_iconst dX11_tray_8 rfl (sx_iconst dX11_tray_9 rfl (sx_scall dX11_tray_10 cf_X11_isWithin (mg_3 (List.mem_of_getElem? (i := 85) rfl) rfl) (mg_3 (List.mem_of_getElem? (i := 86) rfl) rfl) c_X11_isWithin (sx_if_eq 26 dX11_tray_13 (by decide) (b_X11_tray_26) (sx_iload_n dX11_tray_16 rfl (sx_iconst dX11_tray_17 rfl (sx_bipush dX11_tray_18 rfl (sx_scall dX11_tray_20 cf_X11_isWithin (mg_3 (List.mem_of_getElem? (i := 85) rfl) rfl) (mg_3 (List.mem_of_getElem? (i := 86) rfl) rfl) c_X11_isWithin (sx_if_ne 32 dX11_tray_23 (by decide) (sx_aload_n dX11_tray_32 rfl (sx_getR dX11_tray_33 fl_FootQuarrel_11 (fun _ _ _ => rfl) (sx_iload_n dX11_tray_36 rfl (sx_aald dX11_tray_37 (by decide) (by decide) rfl (sx_iload_n dX11_tray_38 rfl (sx_iload_n dX11_tray_39 rfl (sx_vcall dX11_tray_40 cf_X8_renew (mg_3 (List.mem_of_getElem? (i := 92) rfl) rfl) (mg_3 (List.mem_of_getElem? (i := 93) rfl) rfl) (mg_3 (List.mem_of_getElem? (i := 94) rfl) rfl) rfl c_X8_renew (sx_aload_n dX11_tray_43 rfl (sx_vcall dX11_tray_44 cf_X11_grant (mg_3 (List.mem_of_getElem? (i := 96) rfl) rfl) (mg_3 (List.mem_of_getElem? (i := 98) rfl) rfl) (mg_p (List.mem_of_getElem? (i := 1) rfl) rfl) rfl c_X11_grant (sx_zret dX11_tray_47 rfl)))))))))) (b_X11_tray_26)))))))))))))
def sp_X11_tray (G : GT) : Sp := fun as S I J z Q => match as with
  | [.ref a0, .int a1, .int a2, .int a3] => B_X11_tray_0 G 0 0 Q [some (.ref a0), some (.int a1), some (.int a2), some (.int a3)] [] S I J z 0 0
  | _ => False
theorem c_X11_tray {l : Launch} {G : GT} {D : Nat} : ∀ as S I J z Q, sp_X11_tray G as S I J z Q → fqCall l G M_X11_tray (D + 2) 0 0 as S I J z Q := by
  intro as S I J z Q h
  unfold sp_X11_tray at h
  split at h
  · exact fq_enter _ (by decide +kernel) (Nat.le_of_ble_eq_true rfl) rfl (b_X11_tray_0 _ _ _ _ _ _ _ _ h)
  · exact h.elim
theorem dX11_night_0 : decode cX11_night 0 = .ok (.iload_n 1, 1) := by decide +kernel
theorem dX11_night_1 : decode cX11_night 1 = .ok (.iconst 1, 1) := by decide +kernel
theorem dX11_night_2 : decode cX11_night 2 = .ok (.bipush 99, 2) := by decide +kernel
theorem dX11_night_4 : decode cX11_night 4 = .ok (.invokestatic 74, 3) := by decide +kernel
theorem dX11_night_7 : decode cX11_night 7 = .ok (.ifCond .ne 9, 3) := by decide +kernel
theorem dX11_night_10 : decode cX11_night 10 = .ok (.aload_n 0, 1) := by decide +kernel
theorem dX11_night_11 : decode cX11_night 11 = .ok (.iconst 1, 1) := by decide +kernel
theorem dX11_night_12 : decode cX11_night 12 = .ok (.invokevirtual 97, 3) := by decide +kernel
theorem dX11_night_15 : decode cX11_night 15 = .ok (.ireturn, 1) := by decide +kernel
theorem dX11_night_16 : decode cX11_night 16 = .ok (.aload_n 0, 1) := by decide +kernel
theorem dX11_night_17 : decode cX11_night 17 = .ok (.getfield 46, 3) := by decide +kernel
theorem dX11_night_20 : decode cX11_night 20 = .ok (.getfield 179, 3) := by decide +kernel
theorem dX11_night_23 : decode cX11_night 23 = .ok (.iload_n 1, 1) := by decide +kernel
theorem dX11_night_24 : decode cX11_night 24 = .ok (.iadd, 1) := by decide +kernel
theorem dX11_night_25 : decode cX11_night 25 = .ok (.sipush 9999, 3) := by decide +kernel
theorem dX11_night_28 : decode cX11_night 28 = .ok (.if_icmp .le 9, 3) := by decide +kernel
theorem dX11_night_31 : decode cX11_night 31 = .ok (.aload_n 0, 1) := by decide +kernel
theorem dX11_night_32 : decode cX11_night 32 = .ok (.iconst 4, 1) := by decide +kernel
theorem dX11_night_33 : decode cX11_night 33 = .ok (.invokevirtual 97, 3) := by decide +kernel
theorem dX11_night_36 : decode cX11_night 36 = .ok (.ireturn, 1) := by decide +kernel
theorem dX11_night_37 : decode cX11_night 37 = .ok (.aload_n 0, 1) := by decide +kernel
theorem dX11_night_38 : decode cX11_night 38 = .ok (.getfield 46, 3) := by decide +kernel
theorem dX11_night_41 : decode cX11_night 41 = .ok (.iload_n 1, 1) := by decide +kernel
theorem dX11_night_42 : decode cX11_night 42 = .ok (.invokevirtual 305, 3) := by decide +kernel
theorem dX11_night_45 : decode cX11_night 45 = .ok (.aload_n 0, 1) := by decide +kernel
theorem dX11_night_46 : decode cX11_night 46 = .ok (.aload_n 0, 1) := by decide +kernel
theorem dX11_night_47 : decode cX11_night 47 = .ok (.getfield 46, 3) := by decide +kernel
theorem dX11_night_50 : decode cX11_night 50 = .ok (.invokevirtual 190, 3) := by decide +kernel
theorem dX11_night_53 : decode cX11_night 53 = .ok (.invokevirtual 142, 3) := by decide +kernel
theorem dX11_night_56 : decode cX11_night 56 = .ok (.ireturn, 1) := by decide +kernel
abbrev M_X11_night : MT := (yX11_night, cX11_night, 2, (some .int))
theorem cf_X11_night : fq_cf M_X11_night 1 := ⟨(mg_1 (List.mem_of_getElem? (i := 1) rfl) rfl), (mg_5 (List.mem_of_getElem? (i := 81) rfl) rfl), ⟨by decide, by decide, by decide +kernel⟩, by decide⟩
def B_X11_night_0 (G : GT) (mc ms : Nat) (Q : Post) : Cn := ix_iload 1 (ix_pushI 1 (ix_pushI 99 (ix_call 3 0 0 mc ms (sp_X11_isWithin G) (ix_if_ne (ix_aload 0 (ix_getR 11 6 (ix_getI 6 12 (ix_iload 1 (ix_iadd (ix_pushI 9999 (ix_icmp_le (ix_aload 0 (ix_getR 11 6 (ix_iload 1 (ix_vcall 6 2 0 0 mc ms (sp_X6_sleep G) (ix_aload 0 (ix_aload 0 (ix_getR 11 6 (ix_vcall 6 1 0 0 mc ms (sp_X6_angrySet G) (ix_vcall 11 2 0 0 mc ms (sp_X11_answer G) (ix_iret mc ms Q)))))))))) (ix_aload 0 (ix_pushI 4 (ix_vcall 11 2 0 0 mc ms (sp_X11_refuse G) (ix_iret mc ms Q))))))))))) (ix_aload 0 (ix_pushI 1 (ix_vcall 11 2 0 0 mc ms (sp_X11_refuse G) (ix_iret mc ms Q))))))))
theorem b_X11_night_0 {l : Launch} {G : GT} {D mc ms : Nat} {Q : Post} : Imp l G M_X11_night (D + 3) mc ms Q (B_X11_night_0 G mc ms Q) 0 := sx_iload_n dX11_night_0 rfl (sx_iconst dX11_night_1 rfl (sx_bipush dX11_night_2 rfl (sx_scall dX11_night_4 cf_X11_isWithin (mg_3 (List.mem_of_getElem? (i := 85) rfl) rfl) (mg_3 (List.mem_of_getElem? (i := 86) rfl) rfl) c_X11_isWithin (sx_if_ne 16 dX11_night_7 (by decide) (sx_aload_n dX11_night_16 rfl (sx_getR dX11_night_17 fl_FootQuarrel_46 (fun _ _ _ => rfl) (sx_getI dX11_night_20 fl_FootQuarrel_179 (fun _ _ _ => rfl) (sx_iload_n dX11_night_23 rfl (sx_iadd dX11_night_24 (sx_sipush dX11_night_25 rfl (sx_icmp_le 37 dX11_night_28 (by decide) (sx_aload_n dX11_night_37 rfl (sx_getR dX11_night_38 fl_FootQuarrel_46 (fun _ _ _ => rfl) (sx_iload_n dX11_night_41 rfl (sx_vcall dX11_night_42 cf_X6_sleep (mg_5 (List.mem_of_getElem? (i := 82) rfl) rfl) (mg_5 (List.mem_of_getElem? (i := 83) rfl) rfl) (mg_5 (List.mem_of_getElem? (i := 84) rfl) rfl) rfl c_X6_sleep (sx_aload_n dX11_night_45 rfl (sx_aload_n dX11_night_46 rfl (sx_getR dX11_night_47 fl_FootQuarrel_46 (fun _ _ _ => rfl) (sx_vcall dX11_night_50 cf_X6_angrySet (mg_4 (List.mem_of_getElem? (i := 166) rfl) rfl) (mg_4 (List.mem_of_getElem? (i := 167) rfl) rfl) (mg_4 (List.mem_of_getElem? (i := 168) rfl) rfl) rfl c_X6_angrySet (sx_vcall dX11_night_53 cf_X11_answer (mg_4 (List.mem_of_getElem? (i := 72) rfl) rfl) (mg_4 (List.mem_of_getElem? (i := 74) rfl) rfl) (mg_p (List.mem_of_getElem? (i := 17) rfl) rfl) rfl c_X11_answer (sx_iret dX11_night_56 rfl)))))))))) (sx_aload_n dX11_night_31 rfl (sx_iconst dX11_night_32 rfl (sx_vcall dX11_night_33 cf_X11_refuse (mg_3 (List.mem_of_getElem? (i := 120) rfl) rfl) (mg_3 (List.mem_of_getElem? (i := 122) rfl) rfl) (mg_p (List.mem_of_getElem? (i := 3) rfl) rfl) rfl c_X11_refuse (sx_iret dX11_night_36 rfl))))))))))) (sx_aload_n dX11_night_10 rfl (sx_iconst dX11_night_11 rfl (sx_vcall dX11_night_12 cf_X11_refuse (mg_3 (List.mem_of_getElem? (i := 120) rfl) rfl) (mg_3 (List.mem_of_getElem? (i := 122) rfl) rfl) (mg_p (List.mem_of_getElem? (i := 3) rfl) rfl) rfl c_X11_refuse (sx_iret dX11_night_15 rfl))))))))
def sp_X11_night (G : GT) : Sp := fun as S I J z Q => match as with
  | [.ref a0, .int a1] => B_X11_night_0 G 0 0 Q [some (.ref a0), some (.int a1)] [] S I J z 0 0
  | _ => False
theorem c_X11_night {l : Launch} {G : GT} {D : Nat} : ∀ as S I J z Q, sp_X11_night G as S I J z Q → fqCall l G M_X11_night (D + 3) 0 0 as S I J z Q := by
  intro as S I J z Q h
  unfold sp_X11_night at h
  split at h
  · exact fq_enter _ (by decide +kernel) (Nat.le_of_ble_eq_true rfl) rfl (b_X11_night_0 _ _ _ _ _ _ _ _ h)
  · exact h.elim
