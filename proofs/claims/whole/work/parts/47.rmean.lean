/-! the reference: live, mean, games asked for -/
theorem dX12_wrongGame_0 : decode cX12_wrongGame 0 = .ok (.aload_n 0, 1) := by decide +kernel
theorem dX12_wrongGame_1 : decode cX12_wrongGame 1 = .ok (.iload_n 1, 1) := by decide +kernel
theorem dX12_wrongGame_2 : decode cX12_wrongGame 2 = .ok (.iload_n 2, 1) := by decide +kernel
theorem dX12_wrongGame_3 : decode cX12_wrongGame 3 = .ok (.invokevirtual 286, 3) := by decide +kernel
theorem dX12_wrongGame_6 : decode cX12_wrongGame 6 = .ok (.ifCond .eq 17, 3) := by decide +kernel
theorem dX12_wrongGame_9 : decode cX12_wrongGame 9 = .ok (.iload_n 3, 1) := by decide +kernel
theorem dX12_wrongGame_10 : decode cX12_wrongGame 10 = .ok (.i2l, 1) := by decide +kernel
theorem dX12_wrongGame_11 : decode cX12_wrongGame 11 = .ok (.iload 4, 2) := by decide +kernel
theorem dX12_wrongGame_13 : decode cX12_wrongGame 13 = .ok (.i2l, 1) := by decide +kernel
theorem dX12_wrongGame_14 : decode cX12_wrongGame 14 = .ok (.ldc2_w 387, 3) := by decide +kernel
theorem dX12_wrongGame_17 : decode cX12_wrongGame 17 = .ok (.invokestatic 329, 3) := by decide +kernel
theorem dX12_wrongGame_20 : decode cX12_wrongGame 20 = .ok (.ifCond .ne 7, 3) := by decide +kernel
theorem dX12_wrongGame_23 : decode cX12_wrongGame 23 = .ok (.iconst 1, 1) := by decide +kernel
theorem dX12_wrongGame_24 : decode cX12_wrongGame 24 = .ok (.goto 18, 3) := by decide +kernel
theorem dX12_wrongGame_27 : decode cX12_wrongGame 27 = .ok (.aload_n 0, 1) := by decide +kernel
theorem dX12_wrongGame_28 : decode cX12_wrongGame 28 = .ok (.iload_n 1, 1) := by decide +kernel
theorem dX12_wrongGame_29 : decode cX12_wrongGame 29 = .ok (.iload_n 2, 1) := by decide +kernel
theorem dX12_wrongGame_30 : decode cX12_wrongGame 30 = .ok (.invokevirtual 289, 3) := by decide +kernel
theorem dX12_wrongGame_33 : decode cX12_wrongGame 33 = .ok (.ifCond .eq 7, 3) := by decide +kernel
theorem dX12_wrongGame_36 : decode cX12_wrongGame 36 = .ok (.iconst 0, 1) := by decide +kernel
theorem dX12_wrongGame_37 : decode cX12_wrongGame 37 = .ok (.goto 5, 3) := by decide +kernel
theorem dX12_wrongGame_40 : decode cX12_wrongGame 40 = .ok (.bipush 7, 2) := by decide +kernel
theorem dX12_wrongGame_42 : decode cX12_wrongGame 42 = .ok (.ireturn, 1) := by decide +kernel
abbrev M_X12_wrongGame : MT := (yX12_wrongGame, cX12_wrongGame, 5, (some .int))
theorem cf_X12_wrongGame : fq_cf M_X12_wrongGame 4 := ⟨(mg_1 (List.mem_of_getElem? (i := 15) rfl) rfl), (mg_9 (List.mem_of_getElem? (i := 37) rfl) rfl), ⟨by decide, by decide, by decide +kernel⟩, by decide⟩
def B_X12_wrongGame_42 (G : GT) (mc ms : Nat) (Q : Post) : Cn := ix_iret mc ms Q
theorem b_X12_wrongGame_42 {l : Launch} {G : GT} {D mc ms : Nat} {Q : Post} : Imp l G M_X12_wrongGame (D + 4) mc ms Q (B_X12_wrongGame_42 G mc ms Q) 42 := sx_iret dX12_wrongGame_42 rfl
def B_X12_wrongGame_23 (G : GT) (mc ms : Nat) (Q : Post) : Cn := ix_pushI 1 ((B_X12_wrongGame_42 G mc ms Q))
theorem b_X12_wrongGame_23 {l : Launch} {G : GT} {D mc ms : Nat} {Q : Post} : Imp l G M_X12_wrongGame (D + 4) mc ms Q (B_X12_wrongGame_23 G mc ms Q) 23 := sx_iconst dX12_wrongGame_23 rfl (sx_goto 42 dX12_wrongGame_24 (by decide) (b_X12_wrongGame_42))
def B_X12_wrongGame_0 (G : GT) (mc ms : Nat) (Q : Post) : Cn := ix_aload 0 (ix_iload 1 (ix_iload 2 (ix_vcall 12 3 0 0 mc ms (sp_X12_areTwo G) (ix_if_eq ((B_X12_wrongGame_23 G mc ms Q)) (ix_iload 3 (ix_i2l (ix_iload 4 (ix_i2l (ix_pushL 4 (ix_call 3 0 0 mc ms (sp_X12_isFrom G) (ix_if_ne (ix_aload 0 (ix_iload 1 (ix_iload 2 (ix_vcall 12 3 0 0 mc ms (sp_X12_areNear G) (ix_if_eq (ix_pushI 7 ((B_X12_wrongGame_42 G mc ms Q))) (ix_pushI 0 ((B_X12_wrongGame_42 G mc ms Q)))))))) ((B_X12_wrongGame_23 G mc ms Q)))))))))))))
theorem b_X12_wrongGame_0 {l : Launch} {G : GT} {D mc ms : Nat} {Q : Post} : Imp l G M_X12_wrongGame (D + 4) mc ms Q (B_X12_wrongGame_0 G mc ms Q) 0 := sx_aload_n dX12_wrongGame_0 rfl (sx_iload_n dX12_wrongGame_1 rfl (sx_iload_n dX12_wrongGame_2 rfl (sx_vcall dX12_wrongGame_3 cf_X12_areTwo (mg_8 (List.mem_of_getElem? (i := 65) rfl) rfl) (mg_8 (List.mem_of_getElem? (i := 67) rfl) rfl) (mg_p (List.mem_of_getElem? (i := 88) rfl) rfl) rfl c_X12_areTwo (sx_if_eq 23 dX12_wrongGame_6 (by decide) (b_X12_wrongGame_23) (sx_iload_n dX12_wrongGame_9 rfl (sx_i2l dX12_wrongGame_10 (sx_iload dX12_wrongGame_11 (sx_i2l dX12_wrongGame_13 (sx_ldc2 dX12_wrongGame_14 (mg_9 (List.mem_of_getElem? (i := 38) rfl) rfl) (sx_scall dX12_wrongGame_17 cf_X12_isFrom (mg_8 (List.mem_of_getElem? (i := 131) rfl) rfl) (mg_8 (List.mem_of_getElem? (i := 132) rfl) rfl) c_X12_isFrom (sx_if_ne 27 dX12_wrongGame_20 (by decide) (sx_aload_n dX12_wrongGame_27 rfl (sx_iload_n dX12_wrongGame_28 rfl (sx_iload_n dX12_wrongGame_29 rfl (sx_vcall dX12_wrongGame_30 cf_X12_areNear (mg_8 (List.mem_of_getElem? (i := 69) rfl) rfl) (mg_8 (List.mem_of_getElem? (i := 71) rfl) rfl) (mg_p (List.mem_of_getElem? (i := 89) rfl) rfl) rfl c_X12_areNear (sx_if_eq 40 dX12_wrongGame_33 (by decide) (sx_bipush dX12_wrongGame_40 rfl (b_X12_wrongGame_42)) (sx_iconst dX12_wrongGame_36 rfl (sx_goto 42 dX12_wrongGame_37 (by decide) (b_X12_wrongGame_42)))))))) (b_X12_wrongGame_23))))))))))))
theorem lvR_1 (N f : Nat) (A : Nat → Int32) (d : Nat) (R : Nat → Int32) (n : Nat) (L : Nat → Int32) (k : Nat) : lvR N (f + 1) (A, d, R, n, L) k = if ¬ k < N then (A, d, R, n, L) else if n = 300 then (A, d, uA R 4 1, n, L) else if A (226 + 6 * k) = 21 then (A, d, R, n + 1, L) else lvR N f ((doF A d (226 + 6 * k)).2.1, (doF A d (226 + 6 * k)).2.2.1, rnU R (doF A d (226 + 6 * k)), n + 1, (bhE (doF A d (226 + 6 * k)).2.1 N 200 (if A (226 + 6 * k) = 19 then uA L k (A (226 + 6 * k + 1) - 1) else L) (nxK (doF A d (226 + 6 * k)).2.1 k)).1) (bhE (doF A d (226 + 6 * k)).2.1 N 200 (if A (226 + 6 * k) = 19 then uA L k (A (226 + 6 * k + 1) - 1) else L) (nxK (doF A d (226 + 6 * k)).2.1 k)).2 := rfl
theorem okL.lp {A L : Nat → Int32} {N k : Nat} (h : okL L) (hK : wfK A N k) : okL (if A (226 + 6 * k) = 19 then uA L k (A (226 + 6 * k + 1) - 1) else L) := by
  split
  · next h19 =>
    intro j hj
    by_cases e : j = k
    · rw [e, uA_e]
      rcases hK with q | q | q
      · rw [q.1] at h19
        exact absurd h19 (by decide)
      · obtain ⟨⟨c, hc, ec, ec2⟩, hc1⟩ := (⟨(q.2.1 h19).1.ex, (q.2.1 h19).2⟩ : _ ∧ _)
        obtain ⟨c', rfl⟩ : ∃ c', c = c' + 1 := ⟨c - 1, by omega⟩
        rw [ec, nI_pred]
        exact okN.nI (by omega) (by decide)
      · rcases q.1 with q | q | q | q | q | q | q <;> rw [h19] at q <;> exact absurd q (by decide)
    · rw [uA_n _ _ _ _ e]
      exact h j hj
  · exact h
/-- what a life keeps -/
theorem lvR_ok {N : Nat} : ∀ (f : Nat) (x : LSt) (k : Nat), wfS x.1 → wfY x.1 N → okL x.2.2.2.2 → x.2.1 < 65536 → x.2.2.2.1 ≤ 300 → wfS (lvR N f x k).1 ∧ (∀ j, (226 ≤ j ∨ j = 0 ∨ j = 1 ∨ j = 11) → (lvR N f x k).1 j = x.1 j) ∧ okL (lvR N f x k).2.2.2.2 ∧ (lvR N f x k).2.2.2.1 ≤ 300
  | 0, x, k, h1, h2, h3, h4, h5 => ⟨h1, fun _ _ => rfl, h3, h5⟩
  | f + 1, (A, d, R, n, L), k, h1, h2, h3, h4, h5 => by
    rw [lvR_1]
    split
    · exact ⟨h1, fun _ _ => rfl, h3, h5⟩
    · next hk =>
      have hk : k < N := Decidable.not_not.mp hk
      split
      · exact ⟨h1, fun _ _ => rfl, h3, h5⟩
      · next h300 =>
        split
        · exact ⟨h1, fun _ _ => rfl, h3, by show n + 1 ≤ 300; have h5 : n ≤ 300 := h5; omega⟩
        · obtain ⟨w1, w2, w3⟩ := doF_ok h1 (h2.2.1 k hk).o h4
          have wY := h2.cg w2
          have ok1 := okL.lp h3 (h2.2.1 k hk)
          obtain ⟨a, b, c, e⟩ := lvR_ok f ((doF A d (226 + 6 * k)).2.1, (doF A d (226 + 6 * k)).2.2.1, rnU R (doF A d (226 + 6 * k)), n + 1, (bhE (doF A d (226 + 6 * k)).2.1 N 200 (if A (226 + 6 * k) = 19 then uA L k (A (226 + 6 * k + 1) - 1) else L) (nxK (doF A d (226 + 6 * k)).2.1 k)).1) (bhE (doF A d (226 + 6 * k)).2.1 N 200 (if A (226 + 6 * k) = 19 then uA L k (A (226 + 6 * k + 1) - 1) else L) (nxK (doF A d (226 + 6 * k)).2.1 k)).2 w1 wY (bhE_200 wY ok1).2 w3 (by show n + 1 ≤ 300; have h5 : n ≤ 300 := h5; omega)
          exact ⟨a, fun j hj => (b j hj).trans (w2 j hj), c, e⟩
theorem dX12_live_0 : decode cX12_live 0 = .ok (.iload_n 1, 1) := by decide +kernel
theorem dX12_live_1 : decode cX12_live 1 = .ok (.i2l, 1) := by decide +kernel
theorem dX12_live_2 : decode cX12_live 2 = .ok (.lconst 0, 1) := by decide +kernel
theorem dX12_live_3 : decode cX12_live 3 = .ok (.ldc2_w 458, 3) := by decide +kernel
theorem dX12_live_6 : decode cX12_live 6 = .ok (.invokestatic 329, 3) := by decide +kernel
theorem dX12_live_9 : decode cX12_live 9 = .ok (.ifCond .ne 9, 3) := by decide +kernel
theorem dX12_live_12 : decode cX12_live 12 = .ok (.aload_n 0, 1) := by decide +kernel
theorem dX12_live_13 : decode cX12_live 13 = .ok (.iconst 1, 1) := by decide +kernel
theorem dX12_live_14 : decode cX12_live 14 = .ok (.invokevirtual 75, 3) := by decide +kernel
theorem dX12_live_17 : decode cX12_live 17 = .ok (.ireturn, 1) := by decide +kernel
theorem dX12_live_18 : decode cX12_live 18 = .ok (.aload_n 0, 1) := by decide +kernel
theorem dX12_live_19 : decode cX12_live 19 = .ok (.getfield 7, 3) := by decide +kernel
theorem dX12_live_22 : decode cX12_live 22 = .ok (.bipush 11, 2) := by decide +kernel
theorem dX12_live_24 : decode cX12_live 24 = .ok (.iaload, 1) := by decide +kernel
theorem dX12_live_25 : decode cX12_live 25 = .ok (.iconst (-1), 1) := by decide +kernel
theorem dX12_live_26 : decode cX12_live 26 = .ok (.if_icmp .ne 10, 3) := by decide +kernel
theorem dX12_live_29 : decode cX12_live 29 = .ok (.aload_n 0, 1) := by decide +kernel
theorem dX12_live_30 : decode cX12_live 30 = .ok (.bipush 6, 2) := by decide +kernel
theorem dX12_live_32 : decode cX12_live 32 = .ok (.invokevirtual 75, 3) := by decide +kernel
theorem dX12_live_35 : decode cX12_live 35 = .ok (.ireturn, 1) := by decide +kernel
theorem dX12_live_36 : decode cX12_live 36 = .ok (.aload_n 0, 1) := by decide +kernel
theorem dX12_live_37 : decode cX12_live 37 = .ok (.iload_n 1, 1) := by decide +kernel
theorem dX12_live_38 : decode cX12_live 38 = .ok (.invokevirtual 460, 3) := by decide +kernel
theorem dX12_live_41 : decode cX12_live 41 = .ok (.iconst 0, 1) := by decide +kernel
theorem dX12_live_42 : decode cX12_live 42 = .ok (.istore_n 2, 1) := by decide +kernel
theorem dX12_live_43 : decode cX12_live 43 = .ok (.iload_n 2, 1) := by decide +kernel
theorem dX12_live_44 : decode cX12_live 44 = .ok (.iconst 5, 1) := by decide +kernel
theorem dX12_live_45 : decode cX12_live 45 = .ok (.if_icmp .ge 21, 3) := by decide +kernel
theorem dX12_live_48 : decode cX12_live 48 = .ok (.aload_n 0, 1) := by decide +kernel
theorem dX12_live_49 : decode cX12_live 49 = .ok (.getfield 62, 3) := by decide +kernel
theorem dX12_live_52 : decode cX12_live 52 = .ok (.iload_n 2, 1) := by decide +kernel
theorem dX12_live_53 : decode cX12_live 53 = .ok (.aload_n 0, 1) := by decide +kernel
theorem dX12_live_54 : decode cX12_live 54 = .ok (.getfield 59, 3) := by decide +kernel
theorem dX12_live_57 : decode cX12_live 57 = .ok (.iload_n 2, 1) := by decide +kernel
theorem dX12_live_58 : decode cX12_live 58 = .ok (.iaload, 1) := by decide +kernel
theorem dX12_live_59 : decode cX12_live 59 = .ok (.iastore, 1) := by decide +kernel
theorem dX12_live_60 : decode cX12_live 60 = .ok (.iinc 2 1, 3) := by decide +kernel
theorem dX12_live_63 : decode cX12_live 63 = .ok (.goto (-20), 3) := by decide +kernel
theorem dX12_live_66 : decode cX12_live 66 = .ok (.aload_n 0, 1) := by decide +kernel
theorem dX12_live_67 : decode cX12_live 67 = .ok (.iconst 1, 1) := by decide +kernel
theorem dX12_live_68 : decode cX12_live 68 = .ok (.putfield 463, 3) := by decide +kernel
theorem dX12_live_71 : decode cX12_live 71 = .ok (.aload_n 0, 1) := by decide +kernel
theorem dX12_live_72 : decode cX12_live 72 = .ok (.aload_n 0, 1) := by decide +kernel
theorem dX12_live_73 : decode cX12_live 73 = .ok (.getfield 446, 3) := by decide +kernel
theorem dX12_live_76 : decode cX12_live 76 = .ok (.invokevirtual 79, 3) := by decide +kernel
theorem dX12_live_79 : decode cX12_live 79 = .ok (.ireturn, 1) := by decide +kernel
abbrev M_X12_live : MT := (yX12_live, cX12_live, 3, (some .int))
theorem cf_X12_live : fq_cf M_X12_live 1 := ⟨(mg_1 (List.mem_of_getElem? (i := 15) rfl) rfl), (mg_9 (List.mem_of_getElem? (i := 132) rfl) rfl), ⟨by decide, by decide, by decide +kernel⟩, by decide⟩
def B_X12_live_43 (l : Launch) (G : GT) (D mc ms : Nat) (Q : Post) : Cn := ix_iload 2 (ix_pushI 5 (ix_icmp_ge (ix_aload 0 (ix_pushI 1 (ix_putZ 12 34 (ix_aload 0 (ix_aload 0 (ix_getI 12 30 (ix_vcall 12 2 0 0 mc ms (sp_X12_gives G) (ix_iret mc ms Q)))))))) (ix_aload 0 (ix_getR 12 33 (ix_iload 2 (ix_aload 0 (ix_getR 12 32 (ix_iload 2 (ix_iald (ix_iast (ix_iinc 2 1 (fqAt l G M_X12_live (D + 9) mc ms Q 43))))))))))))
theorem b_X12_live_43 {l : Launch} {G : GT} {D mc ms : Nat} {Q : Post} : Imp l G M_X12_live (D + 9) mc ms Q (B_X12_live_43 l G D mc ms Q) 43 := sx_iload_n dX12_live_43 rfl (sx_iconst dX12_live_44 rfl (sx_icmp_ge 66 dX12_live_45 (by decide) (sx_aload_n dX12_live_66 rfl (sx_iconst dX12_live_67 rfl (sx_putZ dX12_live_68 fl_FootQuarrelModel_463 (by decide) (fun _ _ _ => rfl) (fun v h => by rcases h with h | h <;> subst h <;> exact ⟨rfl, rfl⟩) (sx_aload_n dX12_live_71 rfl (sx_aload_n dX12_live_72 rfl (sx_getI dX12_live_73 fl_FootQuarrelModel_446 (fun _ _ _ => rfl) (sx_vcall dX12_live_76 cf_X12_gives (mg_7 (List.mem_of_getElem? (i := 204) rfl) rfl) (mg_7 (List.mem_of_getElem? (i := 206) rfl) rfl) (mg_p (List.mem_of_getElem? (i := 72) rfl) rfl) rfl c_X12_gives (sx_iret dX12_live_79 rfl)))))))) (sx_aload_n dX12_live_48 rfl (sx_getR dX12_live_49 fl_FootQuarrelModel_62 (fun _ _ _ => rfl) (sx_iload_n dX12_live_52 rfl (sx_aload_n dX12_live_53 rfl (sx_getR dX12_live_54 fl_FootQuarrelModel_59 (fun _ _ _ => rfl) (sx_iload_n dX12_live_57 rfl (sx_iald dX12_live_58 (sx_iast dX12_live_59 (sx_iinc dX12_live_60 rfl (by decide) (sx_goto 43 dX12_live_63 (by decide) ((fun _ _ _ _ _ _ _ _ h => h))))))))))))))
def B_X12_live_0 (l : Launch) (G : GT) (D mc ms : Nat) (Q : Post) : Cn := ix_iload 1 (ix_i2l (ix_pushL 0 (ix_pushL 9999 (ix_call 3 0 0 mc ms (sp_X12_isFrom G) (ix_if_ne (ix_aload 0 (ix_getR 12 0 (ix_pushI 11 (ix_iald (ix_pushI (-1) (ix_icmp_ne (ix_aload 0 (ix_iload 1 (ix_vcall 12 2 0 0 mc ms (sp_X12_lives G) (ix_pushI 0 (ix_istore 2 (fqAt l G M_X12_live (D + 9) mc ms Q 43)))))) (ix_aload 0 (ix_pushI 6 (ix_vcall 12 2 0 0 mc ms (sp_X12_refuse G) (ix_iret mc ms Q)))))))))) (ix_aload 0 (ix_pushI 1 (ix_vcall 12 2 0 0 mc ms (sp_X12_refuse G) (ix_iret mc ms Q)))))))))
theorem b_X12_live_0 {l : Launch} {G : GT} {D mc ms : Nat} {Q : Post} : Imp l G M_X12_live (D + 9) mc ms Q (B_X12_live_0 l G D mc ms Q) 0 := sx_iload_n dX12_live_0 rfl (sx_i2l dX12_live_1 (sx_lconst dX12_live_2 rfl (sx_ldc2 dX12_live_3 (mg_9 (List.mem_of_getElem? (i := 133) rfl) rfl) (sx_scall dX12_live_6 cf_X12_isFrom (mg_8 (List.mem_of_getElem? (i := 131) rfl) rfl) (mg_8 (List.mem_of_getElem? (i := 132) rfl) rfl) c_X12_isFrom (sx_if_ne 18 dX12_live_9 (by decide) (sx_aload_n dX12_live_18 rfl (sx_getR dX12_live_19 fl_FootQuarrelModel_7 (fun _ _ _ => rfl) (sx_bipush dX12_live_22 rfl (sx_iald dX12_live_24 (sx_iconst dX12_live_25 rfl (sx_icmp_ne 36 dX12_live_26 (by decide) (sx_aload_n dX12_live_36 rfl (sx_iload_n dX12_live_37 rfl (sx_vcall dX12_live_38 cf_X12_lives (mg_9 (List.mem_of_getElem? (i := 134) rfl) rfl) (mg_9 (List.mem_of_getElem? (i := 136) rfl) rfl) (mg_p (List.mem_of_getElem? (i := 119) rfl) rfl) rfl c_X12_lives (sx_iconst dX12_live_41 rfl (sx_istore_n dX12_live_42 rfl (by decide) ((fun _ _ _ _ _ _ _ _ h => h))))))) (sx_aload_n dX12_live_29 rfl (sx_bipush dX12_live_30 rfl (sx_vcall dX12_live_32 cf_X12_refuse (mg_7 (List.mem_of_getElem? (i := 128) rfl) rfl) (mg_7 (List.mem_of_getElem? (i := 130) rfl) rfl) (mg_p (List.mem_of_getElem? (i := 54) rfl) rfl) rfl c_X12_refuse (sx_iret dX12_live_35 rfl)))))))))) (sx_aload_n dX12_live_12 rfl (sx_iconst dX12_live_13 rfl (sx_vcall dX12_live_14 cf_X12_refuse (mg_7 (List.mem_of_getElem? (i := 128) rfl) rfl) (mg_7 (List.mem_of_getElem? (i := 130) rfl) rfl) (mg_p (List.mem_of_getElem? (i := 54) rfl) rfl) rfl c_X12_refuse (sx_iret dX12_live_17 rfl)))))))))
theorem dX12_mean_0 : decode cX12_mean 0 = .ok (.aload_n 0, 1) := by decide +kernel
theorem dX12_mean_1 : decode cX12_mean 1 = .ok (.iload_n 1, 1) := by decide +kernel
theorem dX12_mean_2 : decode cX12_mean 2 = .ok (.invokevirtual 268, 3) := by decide +kernel
theorem dX12_mean_5 : decode cX12_mean 5 = .ok (.ifCond .eq 38, 3) := by decide +kernel
theorem dX12_mean_8 : decode cX12_mean 8 = .ok (.iload_n 2, 1) := by decide +kernel
theorem dX12_mean_9 : decode cX12_mean 9 = .ok (.i2l, 1) := by decide +kernel
theorem dX12_mean_10 : decode cX12_mean 10 = .ok (.lconst 0, 1) := by decide +kernel
theorem dX12_mean_11 : decode cX12_mean 11 = .ok (.ldc2_w 458, 3) := by decide +kernel
theorem dX12_mean_14 : decode cX12_mean 14 = .ok (.invokestatic 329, 3) := by decide +kernel
theorem dX12_mean_17 : decode cX12_mean 17 = .ok (.ifCond .eq 26, 3) := by decide +kernel
theorem dX12_mean_20 : decode cX12_mean 20 = .ok (.iload_n 3, 1) := by decide +kernel
theorem dX12_mean_21 : decode cX12_mean 21 = .ok (.i2l, 1) := by decide +kernel
theorem dX12_mean_22 : decode cX12_mean 22 = .ok (.lconst 1, 1) := by decide +kernel
theorem dX12_mean_23 : decode cX12_mean 23 = .ok (.ldc2_w 467, 3) := by decide +kernel
theorem dX12_mean_26 : decode cX12_mean 26 = .ok (.invokestatic 329, 3) := by decide +kernel
theorem dX12_mean_29 : decode cX12_mean 29 = .ok (.ifCond .eq 14, 3) := by decide +kernel
theorem dX12_mean_32 : decode cX12_mean 32 = .ok (.iload_n 2, 1) := by decide +kernel
theorem dX12_mean_33 : decode cX12_mean 33 = .ok (.iload_n 3, 1) := by decide +kernel
theorem dX12_mean_34 : decode cX12_mean 34 = .ok (.iadd, 1) := by decide +kernel
theorem dX12_mean_35 : decode cX12_mean 35 = .ok (.iconst 1, 1) := by decide +kernel
theorem dX12_mean_36 : decode cX12_mean 36 = .ok (.isub, 1) := by decide +kernel
theorem dX12_mean_37 : decode cX12_mean 37 = .ok (.sipush 9999, 3) := by decide +kernel
theorem dX12_mean_40 : decode cX12_mean 40 = .ok (.if_icmp .le 9, 3) := by decide +kernel
theorem dX12_mean_43 : decode cX12_mean 43 = .ok (.aload_n 0, 1) := by decide +kernel
theorem dX12_mean_44 : decode cX12_mean 44 = .ok (.iconst 1, 1) := by decide +kernel
theorem dX12_mean_45 : decode cX12_mean 45 = .ok (.invokevirtual 82, 3) := by decide +kernel
theorem dX12_mean_48 : decode cX12_mean 48 = .ok (.ireturn, 1) := by decide +kernel
theorem dX12_mean_49 : decode cX12_mean 49 = .ok (.aload_n 0, 1) := by decide +kernel
theorem dX12_mean_50 : decode cX12_mean 50 = .ok (.getfield 7, 3) := by decide +kernel
theorem dX12_mean_53 : decode cX12_mean 53 = .ok (.bipush 11, 2) := by decide +kernel
theorem dX12_mean_55 : decode cX12_mean 55 = .ok (.iaload, 1) := by decide +kernel
theorem dX12_mean_56 : decode cX12_mean 56 = .ok (.iconst (-1), 1) := by decide +kernel
theorem dX12_mean_57 : decode cX12_mean 57 = .ok (.if_icmp .ne 10, 3) := by decide +kernel
theorem dX12_mean_60 : decode cX12_mean 60 = .ok (.aload_n 0, 1) := by decide +kernel
theorem dX12_mean_61 : decode cX12_mean 61 = .ok (.bipush 6, 2) := by decide +kernel
theorem dX12_mean_63 : decode cX12_mean 63 = .ok (.invokevirtual 82, 3) := by decide +kernel
theorem dX12_mean_66 : decode cX12_mean 66 = .ok (.ireturn, 1) := by decide +kernel
theorem dX12_mean_67 : decode cX12_mean 67 = .ok (.aload_n 0, 1) := by decide +kernel
theorem dX12_mean_68 : decode cX12_mean 68 = .ok (.sipush 2970, 3) := by decide +kernel
theorem dX12_mean_71 : decode cX12_mean 71 = .ok (.invokevirtual 349, 3) := by decide +kernel
theorem dX12_mean_74 : decode cX12_mean 74 = .ok (.lconst 0, 1) := by decide +kernel
theorem dX12_mean_75 : decode cX12_mean 75 = .ok (.lstore 4, 2) := by decide +kernel
theorem dX12_mean_77 : decode cX12_mean 77 = .ok (.iconst 0, 1) := by decide +kernel
theorem dX12_mean_78 : decode cX12_mean 78 = .ok (.istore 6, 2) := by decide +kernel
theorem dX12_mean_80 : decode cX12_mean 80 = .ok (.iload 6, 2) := by decide +kernel
theorem dX12_mean_82 : decode cX12_mean 82 = .ok (.iload_n 3, 1) := by decide +kernel
theorem dX12_mean_83 : decode cX12_mean 83 = .ok (.if_icmp .ge 35, 3) := by decide +kernel
theorem dX12_mean_86 : decode cX12_mean 86 = .ok (.aload_n 0, 1) := by decide +kernel
theorem dX12_mean_87 : decode cX12_mean 87 = .ok (.iload_n 2, 1) := by decide +kernel
theorem dX12_mean_88 : decode cX12_mean 88 = .ok (.iload 6, 2) := by decide +kernel
theorem dX12_mean_90 : decode cX12_mean 90 = .ok (.iadd, 1) := by decide +kernel
theorem dX12_mean_91 : decode cX12_mean 91 = .ok (.invokevirtual 460, 3) := by decide +kernel
theorem dX12_mean_94 : decode cX12_mean 94 = .ok (.lload 4, 2) := by decide +kernel
theorem dX12_mean_96 : decode cX12_mean 96 = .ok (.aload_n 0, 1) := by decide +kernel
theorem dX12_mean_97 : decode cX12_mean 97 = .ok (.iload_n 1, 1) := by decide +kernel
theorem dX12_mean_98 : decode cX12_mean 98 = .ok (.invokevirtual 262, 3) := by decide +kernel
theorem dX12_mean_101 : decode cX12_mean 101 = .ok (.i2l, 1) := by decide +kernel
theorem dX12_mean_102 : decode cX12_mean 102 = .ok (.ladd, 1) := by decide +kernel
theorem dX12_mean_103 : decode cX12_mean 103 = .ok (.lstore 4, 2) := by decide +kernel
theorem dX12_mean_105 : decode cX12_mean 105 = .ok (.aload_n 0, 1) := by decide +kernel
theorem dX12_mean_106 : decode cX12_mean 106 = .ok (.sipush 2970, 3) := by decide +kernel
theorem dX12_mean_109 : decode cX12_mean 109 = .ok (.invokevirtual 355, 3) := by decide +kernel
theorem dX12_mean_112 : decode cX12_mean 112 = .ok (.iinc 6 1, 3) := by decide +kernel
theorem dX12_mean_115 : decode cX12_mean 115 = .ok (.goto (-35), 3) := by decide +kernel
theorem dX12_mean_118 : decode cX12_mean 118 = .ok (.aload_n 0, 1) := by decide +kernel
theorem dX12_mean_119 : decode cX12_mean 119 = .ok (.lload 4, 2) := by decide +kernel
theorem dX12_mean_121 : decode cX12_mean 121 = .ok (.iload_n 3, 1) := by decide +kernel
theorem dX12_mean_122 : decode cX12_mean 122 = .ok (.i2l, 1) := by decide +kernel
theorem dX12_mean_123 : decode cX12_mean 123 = .ok (.invokevirtual 399, 3) := by decide +kernel
theorem dX12_mean_126 : decode cX12_mean 126 = .ok (.ireturn, 1) := by decide +kernel
abbrev M_X12_mean : MT := (yX12_mean, cX12_mean, 7, (some .boolean))
theorem cf_X12_mean : fq_cf M_X12_mean 3 := ⟨(mg_1 (List.mem_of_getElem? (i := 15) rfl) rfl), (mg_9 (List.mem_of_getElem? (i := 178) rfl) rfl), ⟨by decide, by decide, by decide +kernel⟩, by decide⟩
def B_X12_mean_80 (l : Launch) (G : GT) (D mc ms : Nat) (Q : Post) : Cn := ix_iload 6 (ix_iload 3 (ix_icmp_ge (ix_aload 0 (ix_lload 4 (ix_iload 3 (ix_i2l (ix_vcall 12 3 0 0 mc ms (sp_X12_tellsBy G) (ix_zret mc ms Q)))))) (ix_aload 0 (ix_iload 2 (ix_iload 6 (ix_iadd (ix_vcall 12 2 0 0 mc ms (sp_X12_lives G) (ix_lload 4 (ix_aload 0 (ix_iload 1 (ix_vcall 12 2 0 0 mc ms (sp_X12_wideOf G) (ix_i2l (ix_ladd (ix_lstore 4 (ix_aload 0 (ix_pushI 2970 (ix_vcall 12 2 0 0 mc ms (sp_X12_restores G) (ix_iinc 6 1 (fqAt l G M_X12_mean (D + 9) mc ms Q 80)))))))))))))))))))
theorem b_X12_mean_80 {l : Launch} {G : GT} {D mc ms : Nat} {Q : Post} : Imp l G M_X12_mean (D + 9) mc ms Q (B_X12_mean_80 l G D mc ms Q) 80 := sx_iload dX12_mean_80 (sx_iload_n dX12_mean_82 rfl (sx_icmp_ge 118 dX12_mean_83 (by decide) (sx_aload_n dX12_mean_118 rfl (sx_lload dX12_mean_119 (sx_iload_n dX12_mean_121 rfl (sx_i2l dX12_mean_122 (sx_vcall dX12_mean_123 cf_X12_tellsBy (mg_9 (List.mem_of_getElem? (i := 75) rfl) rfl) (mg_9 (List.mem_of_getElem? (i := 77) rfl) rfl) (mg_p (List.mem_of_getElem? (i := 115) rfl) rfl) rfl c_X12_tellsBy (sx_zret dX12_mean_126 rfl)))))) (sx_aload_n dX12_mean_86 rfl (sx_iload_n dX12_mean_87 rfl (sx_iload dX12_mean_88 (sx_iadd dX12_mean_90 (sx_vcall dX12_mean_91 cf_X12_lives (mg_9 (List.mem_of_getElem? (i := 134) rfl) rfl) (mg_9 (List.mem_of_getElem? (i := 136) rfl) rfl) (mg_p (List.mem_of_getElem? (i := 119) rfl) rfl) rfl c_X12_lives (sx_lload dX12_mean_94 (sx_aload_n dX12_mean_96 rfl (sx_iload_n dX12_mean_97 rfl (sx_vcall dX12_mean_98 cf_X12_wideOf (mg_8 (List.mem_of_getElem? (i := 7) rfl) rfl) (mg_8 (List.mem_of_getElem? (i := 9) rfl) rfl) (mg_p (List.mem_of_getElem? (i := 80) rfl) rfl) rfl c_X12_wideOf (sx_i2l dX12_mean_101 (sx_ladd dX12_mean_102 (sx_lstore dX12_mean_103 (by decide) (sx_aload_n dX12_mean_105 rfl (sx_sipush dX12_mean_106 rfl (sx_vcall dX12_mean_109 cf_X12_restores (mg_8 (List.mem_of_getElem? (i := 207) rfl) rfl) (mg_8 (List.mem_of_getElem? (i := 209) rfl) rfl) (mg_p (List.mem_of_getElem? (i := 106) rfl) rfl) rfl c_X12_restores (sx_iinc dX12_mean_112 rfl (by decide) (sx_goto 80 dX12_mean_115 (by decide) ((fun _ _ _ _ _ _ _ _ h => h)))))))))))))))))))))
def B_X12_mean_43 (l : Launch) (G : GT) (D mc ms : Nat) (Q : Post) : Cn := ix_aload 0 (ix_pushI 1 (ix_vcall 12 2 0 0 mc ms (sp_X12_is G) (ix_zret mc ms Q)))
theorem b_X12_mean_43 {l : Launch} {G : GT} {D mc ms : Nat} {Q : Post} : Imp l G M_X12_mean (D + 9) mc ms Q (B_X12_mean_43 l G D mc ms Q) 43 := sx_aload_n dX12_mean_43 rfl (sx_iconst dX12_mean_44 rfl (sx_vcall dX12_mean_45 cf_X12_is (mg_7 (List.mem_of_getElem? (i := 68) rfl) rfl) (mg_7 (List.mem_of_getElem? (i := 70) rfl) rfl) (mg_p (List.mem_of_getElem? (i := 48) rfl) rfl) rfl c_X12_is (sx_zret dX12_mean_48 rfl)))
def B_X12_mean_0 (l : Launch) (G : GT) (D mc ms : Nat) (Q : Post) : Cn := ix_aload 0 (ix_iload 1 (ix_vcall 12 2 0 0 mc ms (sp_X12_isHouse G) (ix_if_eq ((B_X12_mean_43 l G D mc ms Q)) (ix_iload 2 (ix_i2l (ix_pushL 0 (ix_pushL 9999 (ix_call 3 0 0 mc ms (sp_X12_isFrom G) (ix_if_eq ((B_X12_mean_43 l G D mc ms Q)) (ix_iload 3 (ix_i2l (ix_pushL 1 (ix_pushL 20 (ix_call 3 0 0 mc ms (sp_X12_isFrom G) (ix_if_eq ((B_X12_mean_43 l G D mc ms Q)) (ix_iload 2 (ix_iload 3 (ix_iadd (ix_pushI 1 (ix_isub (ix_pushI 9999 (ix_icmp_le (ix_aload 0 (ix_getR 12 0 (ix_pushI 11 (ix_iald (ix_pushI (-1) (ix_icmp_ne (ix_aload 0 (ix_pushI 2970 (ix_vcall 12 2 0 0 mc ms (sp_X12_keeps G) (ix_pushL 0 (ix_lstore 4 (ix_pushI 0 (ix_istore 6 (fqAt l G M_X12_mean (D + 9) mc ms Q 80)))))))) (ix_aload 0 (ix_pushI 6 (ix_vcall 12 2 0 0 mc ms (sp_X12_is G) (ix_zret mc ms Q)))))))))) ((B_X12_mean_43 l G D mc ms Q))))))))))))))))))))))))
theorem b_X12_mean_0 {l : Launch} {G : GT} {D mc ms : Nat} {Q : Post} : Imp l G M_X12_mean (D + 9) mc ms Q (B_X12_mean_0 l G D mc ms Q) 0 := sx_aload_n dX12_mean_0 rfl (sx_iload_n dX12_mean_1 rfl (sx_vcall dX12_mean_2 cf_X12_isHouse (mg_8 (List.mem_of_getElem? (i := 18) rfl) rfl) (mg_8 (List.mem_of_getElem? (i := 20) rfl) rfl) (mg_p (List.mem_of_getElem? (i := 81) rfl) rfl) rfl c_X12_isHouse (sx_if_eq 43 dX12_mean_5 (by decide) (b_X12_mean_43) (sx_iload_n dX12_mean_8 rfl (sx_i2l dX12_mean_9 (sx_lconst dX12_mean_10 rfl (sx_ldc2 dX12_mean_11 (mg_9 (List.mem_of_getElem? (i := 133) rfl) rfl) (sx_scall dX12_mean_14 cf_X12_isFrom (mg_8 (List.mem_of_getElem? (i := 131) rfl) rfl) (mg_8 (List.mem_of_getElem? (i := 132) rfl) rfl) c_X12_isFrom (sx_if_eq 43 dX12_mean_17 (by decide) (b_X12_mean_43) (sx_iload_n dX12_mean_20 rfl (sx_i2l dX12_mean_21 (sx_lconst dX12_mean_22 rfl (sx_ldc2 dX12_mean_23 (mg_9 (List.mem_of_getElem? (i := 179) rfl) rfl) (sx_scall dX12_mean_26 cf_X12_isFrom (mg_8 (List.mem_of_getElem? (i := 131) rfl) rfl) (mg_8 (List.mem_of_getElem? (i := 132) rfl) rfl) c_X12_isFrom (sx_if_eq 43 dX12_mean_29 (by decide) (b_X12_mean_43) (sx_iload_n dX12_mean_32 rfl (sx_iload_n dX12_mean_33 rfl (sx_iadd dX12_mean_34 (sx_iconst dX12_mean_35 rfl (sx_isub dX12_mean_36 (sx_sipush dX12_mean_37 rfl (sx_icmp_le 49 dX12_mean_40 (by decide) (sx_aload_n dX12_mean_49 rfl (sx_getR dX12_mean_50 fl_FootQuarrelModel_7 (fun _ _ _ => rfl) (sx_bipush dX12_mean_53 rfl (sx_iald dX12_mean_55 (sx_iconst dX12_mean_56 rfl (sx_icmp_ne 67 dX12_mean_57 (by decide) (sx_aload_n dX12_mean_67 rfl (sx_sipush dX12_mean_68 rfl (sx_vcall dX12_mean_71 cf_X12_keeps (mg_8 (List.mem_of_getElem? (i := 203) rfl) rfl) (mg_8 (List.mem_of_getElem? (i := 205) rfl) rfl) (mg_p (List.mem_of_getElem? (i := 105) rfl) rfl) rfl c_X12_keeps (sx_lconst dX12_mean_74 rfl (sx_lstore dX12_mean_75 (by decide) (sx_iconst dX12_mean_77 rfl (sx_istore dX12_mean_78 (by decide) ((fun _ _ _ _ _ _ _ _ h => h))))))))) (sx_aload_n dX12_mean_60 rfl (sx_bipush dX12_mean_61 rfl (sx_vcall dX12_mean_63 cf_X12_is (mg_7 (List.mem_of_getElem? (i := 68) rfl) rfl) (mg_7 (List.mem_of_getElem? (i := 70) rfl) rfl) (mg_p (List.mem_of_getElem? (i := 48) rfl) rfl) rfl c_X12_is (sx_zret dX12_mean_66 rfl)))))))))) (b_X12_mean_43)))))))))))))))))))))))
/-- may years be lived: -1 none, or rows that are well made -/
def wfZ (A : Nat → Int32) : Prop := A 11 = -1 ∨ ∃ N, A 11 = nI N ∧ wfY A N
def ttF (M : Nat) (I I' : IH) : Prop := (∀ a, a ≠ M → a ≠ M + 1 → a ≠ M + 12 → a ≠ M + 13 → a ≠ M + 14 → I' a = I a) ∧ ∀ k, k ≠ 2 → k ≠ 29 → k ≠ 30 → k ≠ 34 → I' M k = I M k
def sp_X12_live (G : GT) : Sp := fun as S I J z Q => match as with
  | [.ref M, .int a] => rfS S M ∧ wfS (I (M + 1)) ∧ okL (I (M + 12)) ∧ wfZ (I (M + 1)) ∧ (¬ (0 ≤ a ∧ a ≤ 9999) → Q (some (.int (-1))) S (u2 I M 2 1) J z) ∧ (0 ≤ a ∧ a ≤ 9999 → (I (M + 1) 11 = -1 → Q (some (.int (-1))) S (u2 I M 2 6) J z) ∧ ∀ d N x, a = nI d → d ≤ 9999 → I (M + 1) 11 = nI N → wfY (I (M + 1)) N → x = lvR N 302 (I (M + 1), d, fun _ => 0, 0, I (M + 12)) 0 → ∀ I', ttF M I I' → I' (M + 1) = x.1 → I' (M + 12) = x.2.2.2.2 → (∀ j, j < 5 → I' (M + 14) j = x.2.2.1 j) → I' M 34 = 1 → I' M 2 = 0 → Q (some (.int (nI x.2.2.2.1))) S I' J z)
  | _ => False
set_option maxHeartbeats 4000000 in
set_option maxRecDepth 20000 in
theorem c_X12_live {l : Launch} {G : GT} {D : Nat} : ∀ as S I J z Q, sp_X12_live G as S I J z Q → fqCall l G M_X12_live (D + 9) 0 0 as S I J z Q := by
  intro as S I J z Q h
  unfold sp_X12_live at h
  split at h
  · next M a =>
    obtain ⟨hm, hw, hL, hZ, hQ1, hQ2⟩ := h
    by_cases h1 : 0 ≤ a ∧ a ≤ 9999
    · obtain ⟨q1, q2⟩ := hQ2 h1
      rcases hZ with h0 | ⟨N, hN, hy⟩
      · refine fq_enter [some (.ref M), some (.int a), none] (by decide +kernel) (Nat.le_of_ble_eq_true rfl) rfl (b_X12_live_0 _ _ _ _ _ _ _ _ ?_)
        simp (disch := omega) only [B_X12_live_0, B_X12_live_43, sp_X12_isFrom, sp_X12_refuse, B_X12_refuse_0, sp_X12_lives, sp_X12_gives, B_X12_gives_0, hm, hm.k, hm.k1, hm.n1, hm.r1, hm.k2, hm.n2, hm.r2, hm.k3, hm.n3, hm.r3, hm.k4, hm.n4, hm.r4, hm.k5, hm.n5, hm.r5, hm.k6, hm.n6, hm.r6, hm.k7, hm.n7, hm.r7, hm.k8, hm.n8, hm.r8, hm.k9, hm.n9, hm.r9, hm.k10, hm.n10, hm.r10, hm.k11, hm.n11, hm.r11, hm.k12, hm.n12, hm.r12, hm.k13, hm.n13, hm.r13, hm.k14, hm.n14, hm.r14, li_2, li_3, li_4, li_5, li_6, li_7, li_8, li_9, li_10, li_11, li_12, li_13, li_14, li_15, li_16, li_17, li_18, li_19, li_20, li_21, li_22, li_23, li_24, li_25, li_26, li_27, li_28, li_29, li_30, li_32, li_33, li_34, li_35, li_36, li_37, li_38, li_39, li_40, li_41, li_42, li_43, li_44, li_45, li_46, li_47, li_48, li_49, li_50, li_51, li_52, li_53, li_54, li_55, li_56, li_57, li_58, li_59, li_60, li_61, li_62, li_63, li_64, li_65, li_66, li_67, li_68, li_69, li_70, li_71, li_72, li_73, li_74, li_75, li_76, li_77, li_78, li_79, li_80, li_81, li_82, li_83, li_84, li_85, li_86, li_87, li_88, li_89, li_90, li_91, li_92, li_93, li_94, li_95, li_96, li_97, li_98, li_99, li_100, li_101, li_102, li_103, li_104, li_105, li_106, li_107, li_108, li_109, li_110, li_111, li_112, li_113, li_114, li_115, li_116, li_117, li_118, li_119, li_120, li_121, li_122, li_123, li_124, li_125, li_126, li_127, li_128, li_129, li_130, li_131, li_226, li_240, li_255, li_300, li_586, li_594, li_900, li_999, li_1000, li_1800, li_2376, li_2388, li_2406, li_2602, li_2970, li_3067, li_3564, li_9999, li_10000, li_11287, li_65536, li_100000, li_1000000, nI_mul, tn0, tn1, vin0, vin1, Int32.add_zero, Int32.or_zero, Int32.mul_one, Int32.mul_zero, Int32.zero_add, Nat.reduceEqDiff, Nat.reduceMul, Nat.reduceSub, i64_0, i64_9999, h0, nI_1, nI_add, nI_clamp, nI_pin, nI_neg, nI_nonneg, nI_leE, nI_ltE, nI_eqE, Nat.not_le, Nat.not_lt, fq_10, fq_01, fq_rr, ix_aald, ix_aast, ix_abs, ix_alen, ix_aload, ix_aret, ix_astore, ix_bald, ix_bast, ix_call, ix_cpyI, ix_cpyJ, ix_dead, ix_dup2, ix_dup2L, ix_dupI, ix_dupR, ix_dupx1, ix_getI, ix_getJ, ix_getR, ix_gfm, ix_gtab, ix_i2b, ix_i2c, ix_i2l, ix_i2s, ix_iadd, ix_iald, ix_iand, ix_iast, ix_icall, ix_icmp_eq, ix_icmp_ge, ix_icmp_gt, ix_icmp_le, ix_icmp_lt, ix_icmp_ne, ix_idiv, ix_if_eq, ix_if_ge, ix_if_gt, ix_if_le, ix_if_lt, ix_if_ne, ix_iinc, ix_iload, ix_imul, ix_ineg, ix_ior, ix_irem, ix_iret, ix_ishl, ix_ishr, ix_istore, ix_isub, ix_iushr, ix_ixor, ix_l2i, ix_ladd, ix_lald, ix_land, ix_last, ix_lcmp, ix_ldcS, ix_ldiv, ix_lload, ix_lmul, ix_lor, ix_lrem, ix_lret, ix_lshl, ix_lstore, ix_lsub, ix_lsw, ix_max, ix_min, ix_new, ix_newa, ix_nret, ix_oinit, ix_pop2L, ix_popI, ix_pushI, ix_pushL, ix_putI, ix_putJ, ix_putR, ix_putZ, ix_sbald, ix_sgetC, ix_sgetV, ix_slen, ix_strc, ix_tald, ix_tsw, ix_vcall, ix_vret, ix_zret, stL, stL2, kilL, popN, fq_sw, fq_lsw, List.map_cons, List.map_nil, List.getElem?_cons_zero, List.getElem?_cons_succ, Option.toList_some, Option.toList_none, List.cons_append, List.nil_append, List.length_cons, List.length_nil, List.sum_cons, List.sum_nil, cat_i, cat_l, cat_r, true_and, and_true, Nat.zero_add, Nat.add_zero, Nat.le_refl, Nat.zero_le, Nat.reduceAdd, Nat.reduceLeDiff, exists_eq_left', Option.some.injEq, not_true_eq_false, not_false_eq_true, false_implies, true_implies, implies_true, and_self, or_true, true_or, or_false, false_or]
        exact ⟨fun _ => q1 h0, fun h => by rw [bI_0] at h; exact absurd h1 h⟩
      · obtain ⟨d, hd9, rfl⟩ := nI_of (Int32.not_lt.mpr h1.1)
        have hd : d ≤ 9999 := (nI_leI (a := d) (b := 9999) hd9 (by decide)).mp h1.2
        have hz := q2 d N _ rfl hd hN hy rfl
        have hNm : ¬ nI N = -1 := by
          have := hy.1
          rw [nI_m1 (by omega)]
          exact id
        have b1 : bI (0 ≤ nI d ∧ nI d ≤ 9999) = 1 := bI_t h1
        refine fq_enter [some (.ref M), some (.int (nI d)), none] (by decide +kernel) (Nat.le_of_ble_eq_true rfl) rfl (b_X12_live_0 _ _ _ _ _ _ _ _ ?_)
        simp (disch := omega) only [B_X12_live_0, B_X12_live_43, sp_X12_isFrom, sp_X12_refuse, B_X12_refuse_0, sp_X12_lives, sp_X12_gives, B_X12_gives_0, hm, hm.k, hm.k1, hm.n1, hm.r1, hm.k2, hm.n2, hm.r2, hm.k3, hm.n3, hm.r3, hm.k4, hm.n4, hm.r4, hm.k5, hm.n5, hm.r5, hm.k6, hm.n6, hm.r6, hm.k7, hm.n7, hm.r7, hm.k8, hm.n8, hm.r8, hm.k9, hm.n9, hm.r9, hm.k10, hm.n10, hm.r10, hm.k11, hm.n11, hm.r11, hm.k12, hm.n12, hm.r12, hm.k13, hm.n13, hm.r13, hm.k14, hm.n14, hm.r14, li_2, li_3, li_4, li_5, li_6, li_7, li_8, li_9, li_10, li_11, li_12, li_13, li_14, li_15, li_16, li_17, li_18, li_19, li_20, li_21, li_22, li_23, li_24, li_25, li_26, li_27, li_28, li_29, li_30, li_32, li_33, li_34, li_35, li_36, li_37, li_38, li_39, li_40, li_41, li_42, li_43, li_44, li_45, li_46, li_47, li_48, li_49, li_50, li_51, li_52, li_53, li_54, li_55, li_56, li_57, li_58, li_59, li_60, li_61, li_62, li_63, li_64, li_65, li_66, li_67, li_68, li_69, li_70, li_71, li_72, li_73, li_74, li_75, li_76, li_77, li_78, li_79, li_80, li_81, li_82, li_83, li_84, li_85, li_86, li_87, li_88, li_89, li_90, li_91, li_92, li_93, li_94, li_95, li_96, li_97, li_98, li_99, li_100, li_101, li_102, li_103, li_104, li_105, li_106, li_107, li_108, li_109, li_110, li_111, li_112, li_113, li_114, li_115, li_116, li_117, li_118, li_119, li_120, li_121, li_122, li_123, li_124, li_125, li_126, li_127, li_128, li_129, li_130, li_131, li_226, li_240, li_255, li_300, li_586, li_594, li_900, li_999, li_1000, li_1800, li_2376, li_2388, li_2406, li_2602, li_2970, li_3067, li_3564, li_9999, li_10000, li_11287, li_65536, li_100000, li_1000000, nI_mul, tn0, tn1, vin0, vin1, Int32.add_zero, Int32.or_zero, Int32.mul_one, Int32.mul_zero, Int32.zero_add, Nat.reduceEqDiff, Nat.reduceMul, Nat.reduceSub, i64_0, i64_9999, hN, hw, hL, hNm, nI_1, nI_add, nI_clamp, nI_pin, nI_neg, nI_nonneg, nI_leE, nI_ltE, nI_eqE, Nat.not_le, Nat.not_lt, fq_10, fq_01, fq_rr, ix_aald, ix_aast, ix_abs, ix_alen, ix_aload, ix_aret, ix_astore, ix_bald, ix_bast, ix_call, ix_cpyI, ix_cpyJ, ix_dead, ix_dup2, ix_dup2L, ix_dupI, ix_dupR, ix_dupx1, ix_getI, ix_getJ, ix_getR, ix_gfm, ix_gtab, ix_i2b, ix_i2c, ix_i2l, ix_i2s, ix_iadd, ix_iald, ix_iand, ix_iast, ix_icall, ix_icmp_eq, ix_icmp_ge, ix_icmp_gt, ix_icmp_le, ix_icmp_lt, ix_icmp_ne, ix_idiv, ix_if_eq, ix_if_ge, ix_if_gt, ix_if_le, ix_if_lt, ix_if_ne, ix_iinc, ix_iload, ix_imul, ix_ineg, ix_ior, ix_irem, ix_iret, ix_ishl, ix_ishr, ix_istore, ix_isub, ix_iushr, ix_ixor, ix_l2i, ix_ladd, ix_lald, ix_land, ix_last, ix_lcmp, ix_ldcS, ix_ldiv, ix_lload, ix_lmul, ix_lor, ix_lrem, ix_lret, ix_lshl, ix_lstore, ix_lsub, ix_lsw, ix_max, ix_min, ix_new, ix_newa, ix_nret, ix_oinit, ix_pop2L, ix_popI, ix_pushI, ix_pushL, ix_putI, ix_putJ, ix_putR, ix_putZ, ix_sbald, ix_sgetC, ix_sgetV, ix_slen, ix_strc, ix_tald, ix_tsw, ix_vcall, ix_vret, ix_zret, stL, stL2, kilL, popN, fq_sw, fq_lsw, List.map_cons, List.map_nil, List.getElem?_cons_zero, List.getElem?_cons_succ, Option.toList_some, Option.toList_none, List.cons_append, List.nil_append, List.length_cons, List.length_nil, List.sum_cons, List.sum_nil, cat_i, cat_l, cat_r, true_and, and_true, Nat.zero_add, Nat.add_zero, Nat.le_refl, Nat.zero_le, Nat.reduceAdd, Nat.reduceLeDiff, exists_eq_left', Option.some.injEq, not_true_eq_false, not_false_eq_true, false_implies, true_implies, implies_true, and_self, or_true, true_or, or_false, false_or]
        refine ⟨fun _ => ⟨d, N, rfl, by omega, rfl, hy, fun I' hF hH => ?_⟩, fun h => by rw [bI_0] at h; exact absurd hd h⟩
        generalize lvR N 302 (I (M + 1), d, fun _ => 0, 0, I (M + 12)) 0 = x at *
        obtain ⟨g1, g2, g3, g4, g5⟩ := hH
        have z1 : ∀ i, uA (fun j => if j < i then I' (M + 13) j else I' (M + 14) j) i (I' (M + 13) i) = fun j => if j < i + 1 then I' (M + 13) j else I' (M + 14) j := by
          intro i
          funext j
          unfold uA
          by_cases e : j = i
          · rw [if_pos e, if_pos (by omega), e]
          · rw [if_neg e]
            by_cases e2 : j < i
            · show (if j < i then I' (M + 13) j else I' (M + 14) j) = if j < i + 1 then I' (M + 13) j else I' (M + 14) j
              rw [if_pos e2, if_pos (by omega)]
            · show (if j < i then I' (M + 13) j else I' (M + 14) j) = if j < i + 1 then I' (M + 13) j else I' (M + 14) j
              rw [if_neg e2, if_neg (by omega)]
        have lp1 := loopU (α := Unit) (N := 5) (f := fun _ u => u) (B := fun i _ => fqAt l G M_X12_live (D + 9) 0 0 Q 43 [some (.ref M), some (.int (nI d)), some (.int (nI i))] [] S (up1 I' (M + 14) (fun j => if j < i then I' (M + 13) j else I' (M + 14) j)) J z 0 0) (by
          intro i u hi hb
          have e1 := z1 i
          refine b_X12_live_43 _ _ _ _ _ _ _ _ ?_
          simp (disch := omega) only [B_X12_live_0, B_X12_live_43, sp_X12_isFrom, sp_X12_refuse, B_X12_refuse_0, sp_X12_lives, sp_X12_gives, B_X12_gives_0, hm, hm.k, hm.k1, hm.n1, hm.r1, hm.k2, hm.n2, hm.r2, hm.k3, hm.n3, hm.r3, hm.k4, hm.n4, hm.r4, hm.k5, hm.n5, hm.r5, hm.k6, hm.n6, hm.r6, hm.k7, hm.n7, hm.r7, hm.k8, hm.n8, hm.r8, hm.k9, hm.n9, hm.r9, hm.k10, hm.n10, hm.r10, hm.k11, hm.n11, hm.r11, hm.k12, hm.n12, hm.r12, hm.k13, hm.n13, hm.r13, hm.k14, hm.n14, hm.r14, li_2, li_3, li_4, li_5, li_6, li_7, li_8, li_9, li_10, li_11, li_12, li_13, li_14, li_15, li_16, li_17, li_18, li_19, li_20, li_21, li_22, li_23, li_24, li_25, li_26, li_27, li_28, li_29, li_30, li_32, li_33, li_34, li_35, li_36, li_37, li_38, li_39, li_40, li_41, li_42, li_43, li_44, li_45, li_46, li_47, li_48, li_49, li_50, li_51, li_52, li_53, li_54, li_55, li_56, li_57, li_58, li_59, li_60, li_61, li_62, li_63, li_64, li_65, li_66, li_67, li_68, li_69, li_70, li_71, li_72, li_73, li_74, li_75, li_76, li_77, li_78, li_79, li_80, li_81, li_82, li_83, li_84, li_85, li_86, li_87, li_88, li_89, li_90, li_91, li_92, li_93, li_94, li_95, li_96, li_97, li_98, li_99, li_100, li_101, li_102, li_103, li_104, li_105, li_106, li_107, li_108, li_109, li_110, li_111, li_112, li_113, li_114, li_115, li_116, li_117, li_118, li_119, li_120, li_121, li_122, li_123, li_124, li_125, li_126, li_127, li_128, li_129, li_130, li_131, li_226, li_240, li_255, li_300, li_586, li_594, li_900, li_999, li_1000, li_1800, li_2376, li_2388, li_2406, li_2602, li_2970, li_3067, li_3564, li_9999, li_10000, li_11287, li_65536, li_100000, li_1000000, nI_mul, tn0, tn1, vin0, vin1, Int32.add_zero, Int32.or_zero, Int32.mul_one, Int32.mul_zero, Int32.zero_add, Nat.reduceEqDiff, Nat.reduceMul, Nat.reduceSub, u2_up, up1_o, e1, nI_1, nI_add, nI_clamp, nI_pin, nI_neg, nI_nonneg, nI_leE, nI_ltE, nI_eqE, Nat.not_le, Nat.not_lt, fq_10, fq_01, fq_rr, ix_aald, ix_aast, ix_abs, ix_alen, ix_aload, ix_aret, ix_astore, ix_bald, ix_bast, ix_call, ix_cpyI, ix_cpyJ, ix_dead, ix_dup2, ix_dup2L, ix_dupI, ix_dupR, ix_dupx1, ix_getI, ix_getJ, ix_getR, ix_gfm, ix_gtab, ix_i2b, ix_i2c, ix_i2l, ix_i2s, ix_iadd, ix_iald, ix_iand, ix_iast, ix_icall, ix_icmp_eq, ix_icmp_ge, ix_icmp_gt, ix_icmp_le, ix_icmp_lt, ix_icmp_ne, ix_idiv, ix_if_eq, ix_if_ge, ix_if_gt, ix_if_le, ix_if_lt, ix_if_ne, ix_iinc, ix_iload, ix_imul, ix_ineg, ix_ior, ix_irem, ix_iret, ix_ishl, ix_ishr, ix_istore, ix_isub, ix_iushr, ix_ixor, ix_l2i, ix_ladd, ix_lald, ix_land, ix_last, ix_lcmp, ix_ldcS, ix_ldiv, ix_lload, ix_lmul, ix_lor, ix_lrem, ix_lret, ix_lshl, ix_lstore, ix_lsub, ix_lsw, ix_max, ix_min, ix_new, ix_newa, ix_nret, ix_oinit, ix_pop2L, ix_popI, ix_pushI, ix_pushL, ix_putI, ix_putJ, ix_putR, ix_putZ, ix_sbald, ix_sgetC, ix_sgetV, ix_slen, ix_strc, ix_tald, ix_tsw, ix_vcall, ix_vret, ix_zret, stL, stL2, kilL, popN, fq_sw, fq_lsw, List.map_cons, List.map_nil, List.getElem?_cons_zero, List.getElem?_cons_succ, Option.toList_some, Option.toList_none, List.cons_append, List.nil_append, List.length_cons, List.length_nil, List.sum_cons, List.sum_nil, cat_i, cat_l, cat_r, true_and, and_true, Nat.zero_add, Nat.add_zero, Nat.le_refl, Nat.zero_le, Nat.reduceAdd, Nat.reduceLeDiff, exists_eq_left', Option.some.injEq, not_true_eq_false, not_false_eq_true, false_implies, true_implies, implies_true, and_self, or_true, true_or, or_false, false_or]
          exact ⟨fun h => absurd h (by omega), fun _ => hb⟩) 5 0 () (by omega)
        have e0 : up1 I' (M + 14) (fun j => if j < 0 then I' (M + 13) j else I' (M + 14) j) = I' := by
          have : (fun j => if j < 0 then I' (M + 13) j else I' (M + 14) j) = I' (M + 14) := by
            funext j
            rw [if_neg (by omega)]
          rw [this, up1_id]
        rw [e0] at lp1
        refine lp1 ?_
        have e30 : u2 (up1 I' (M + 14) (fun j => if j < 5 then I' (M + 13) j else I' (M + 14) j)) M 34 1 M 30 = nI x.2.2.2.1 := by rw [u2_ck _ _ _ _ _ _ (by omega), up1_o _ _ _ _ (by omega)]; exact g4
        refine b_X12_live_43 _ _ _ _ _ _ _ _ ?_
        simp (disch := omega) only [B_X12_live_0, B_X12_live_43, sp_X12_isFrom, sp_X12_refuse, B_X12_refuse_0, sp_X12_lives, sp_X12_gives, B_X12_gives_0, hm, hm.k, hm.k1, hm.n1, hm.r1, hm.k2, hm.n2, hm.r2, hm.k3, hm.n3, hm.r3, hm.k4, hm.n4, hm.r4, hm.k5, hm.n5, hm.r5, hm.k6, hm.n6, hm.r6, hm.k7, hm.n7, hm.r7, hm.k8, hm.n8, hm.r8, hm.k9, hm.n9, hm.r9, hm.k10, hm.n10, hm.r10, hm.k11, hm.n11, hm.r11, hm.k12, hm.n12, hm.r12, hm.k13, hm.n13, hm.r13, hm.k14, hm.n14, hm.r14, li_2, li_3, li_4, li_5, li_6, li_7, li_8, li_9, li_10, li_11, li_12, li_13, li_14, li_15, li_16, li_17, li_18, li_19, li_20, li_21, li_22, li_23, li_24, li_25, li_26, li_27, li_28, li_29, li_30, li_32, li_33, li_34, li_35, li_36, li_37, li_38, li_39, li_40, li_41, li_42, li_43, li_44, li_45, li_46, li_47, li_48, li_49, li_50, li_51, li_52, li_53, li_54, li_55, li_56, li_57, li_58, li_59, li_60, li_61, li_62, li_63, li_64, li_65, li_66, li_67, li_68, li_69, li_70, li_71, li_72, li_73, li_74, li_75, li_76, li_77, li_78, li_79, li_80, li_81, li_82, li_83, li_84, li_85, li_86, li_87, li_88, li_89, li_90, li_91, li_92, li_93, li_94, li_95, li_96, li_97, li_98, li_99, li_100, li_101, li_102, li_103, li_104, li_105, li_106, li_107, li_108, li_109, li_110, li_111, li_112, li_113, li_114, li_115, li_116, li_117, li_118, li_119, li_120, li_121, li_122, li_123, li_124, li_125, li_126, li_127, li_128, li_129, li_130, li_131, li_226, li_240, li_255, li_300, li_586, li_594, li_900, li_999, li_1000, li_1800, li_2376, li_2388, li_2406, li_2602, li_2970, li_3067, li_3564, li_9999, li_10000, li_11287, li_65536, li_100000, li_1000000, nI_mul, tn0, tn1, vin0, vin1, Int32.add_zero, Int32.or_zero, Int32.mul_one, Int32.mul_zero, Int32.zero_add, Nat.reduceEqDiff, Nat.reduceMul, Nat.reduceSub, e30, nI_1, nI_add, nI_clamp, nI_pin, nI_neg, nI_nonneg, nI_leE, nI_ltE, nI_eqE, Nat.not_le, Nat.not_lt, fq_10, fq_01, fq_rr, ix_aald, ix_aast, ix_abs, ix_alen, ix_aload, ix_aret, ix_astore, ix_bald, ix_bast, ix_call, ix_cpyI, ix_cpyJ, ix_dead, ix_dup2, ix_dup2L, ix_dupI, ix_dupR, ix_dupx1, ix_getI, ix_getJ, ix_getR, ix_gfm, ix_gtab, ix_i2b, ix_i2c, ix_i2l, ix_i2s, ix_iadd, ix_iald, ix_iand, ix_iast, ix_icall, ix_icmp_eq, ix_icmp_ge, ix_icmp_gt, ix_icmp_le, ix_icmp_lt, ix_icmp_ne, ix_idiv, ix_if_eq, ix_if_ge, ix_if_gt, ix_if_le, ix_if_lt, ix_if_ne, ix_iinc, ix_iload, ix_imul, ix_ineg, ix_ior, ix_irem, ix_iret, ix_ishl, ix_ishr, ix_istore, ix_isub, ix_iushr, ix_ixor, ix_l2i, ix_ladd, ix_lald, ix_land, ix_last, ix_lcmp, ix_ldcS, ix_ldiv, ix_lload, ix_lmul, ix_lor, ix_lrem, ix_lret, ix_lshl, ix_lstore, ix_lsub, ix_lsw, ix_max, ix_min, ix_new, ix_newa, ix_nret, ix_oinit, ix_pop2L, ix_popI, ix_pushI, ix_pushL, ix_putI, ix_putJ, ix_putR, ix_putZ, ix_sbald, ix_sgetC, ix_sgetV, ix_slen, ix_strc, ix_tald, ix_tsw, ix_vcall, ix_vret, ix_zret, stL, stL2, kilL, popN, fq_sw, fq_lsw, List.map_cons, List.map_nil, List.getElem?_cons_zero, List.getElem?_cons_succ, Option.toList_some, Option.toList_none, List.cons_append, List.nil_append, List.length_cons, List.length_nil, List.sum_cons, List.sum_nil, cat_i, cat_l, cat_r, true_and, and_true, Nat.zero_add, Nat.add_zero, Nat.le_refl, Nat.zero_le, Nat.reduceAdd, Nat.reduceLeDiff, exists_eq_left', Option.some.injEq, not_true_eq_false, not_false_eq_true, false_implies, true_implies, implies_true, and_self, or_true, true_or, or_false, false_or]
        refine hz _ ⟨fun a h1 h2 h3 h4 h5 => ?_, fun k h1 h2 h3 h4 => ?_⟩ ?_ ?_ ?_ ?_ ?_
        · rw [u2_ne h1, u2_ne h1, up1_o _ _ _ _ h5]
          exact hF.1 a h1 h2 h3 h4
        · rw [u2_ck _ _ _ _ _ _ h1, u2_ck _ _ _ _ _ _ h4, up1_o _ _ _ _ (by omega)]
          exact hF.2 k h2 h3
        · rw [u2_ne (by omega), u2_ne (by omega), up1_o _ _ _ _ (by omega)]
          exact g1
        · rw [u2_ne (by omega), u2_ne (by omega), up1_o _ _ _ _ (by omega)]
          exact g5
        · intro j hj
          rw [u2_ca _ _ _ _ _ _ (by omega), u2_ca _ _ _ _ _ _ (by omega), up1_at, if_pos hj]
          exact g3 j hj
        · rw [u2_ck _ _ _ _ _ _ (by omega), u2_same]
        · rw [u2_same]
    · refine fq_enter [some (.ref M), some (.int a), none] (by decide +kernel) (Nat.le_of_ble_eq_true rfl) rfl (b_X12_live_0 _ _ _ _ _ _ _ _ ?_)
      simp (disch := omega) only [B_X12_live_0, B_X12_live_43, sp_X12_isFrom, sp_X12_refuse, B_X12_refuse_0, sp_X12_lives, sp_X12_gives, B_X12_gives_0, hm, hm.k, hm.k1, hm.n1, hm.r1, hm.k2, hm.n2, hm.r2, hm.k3, hm.n3, hm.r3, hm.k4, hm.n4, hm.r4, hm.k5, hm.n5, hm.r5, hm.k6, hm.n6, hm.r6, hm.k7, hm.n7, hm.r7, hm.k8, hm.n8, hm.r8, hm.k9, hm.n9, hm.r9, hm.k10, hm.n10, hm.r10, hm.k11, hm.n11, hm.r11, hm.k12, hm.n12, hm.r12, hm.k13, hm.n13, hm.r13, hm.k14, hm.n14, hm.r14, i64_0, i64_9999, h1, bI_01, bI_01b, bI_0, bI_tr, bI_fl, nI_1, nI_add, nI_clamp, nI_pin, nI_neg, nI_nonneg, nI_leE, nI_ltE, nI_eqE, Nat.not_le, Nat.not_lt, fq_10, fq_01, fq_rr, ix_aald, ix_aast, ix_abs, ix_alen, ix_aload, ix_aret, ix_astore, ix_bald, ix_bast, ix_call, ix_cpyI, ix_cpyJ, ix_dead, ix_dup2, ix_dup2L, ix_dupI, ix_dupR, ix_dupx1, ix_getI, ix_getJ, ix_getR, ix_gfm, ix_gtab, ix_i2b, ix_i2c, ix_i2l, ix_i2s, ix_iadd, ix_iald, ix_iand, ix_iast, ix_icall, ix_icmp_eq, ix_icmp_ge, ix_icmp_gt, ix_icmp_le, ix_icmp_lt, ix_icmp_ne, ix_idiv, ix_if_eq, ix_if_ge, ix_if_gt, ix_if_le, ix_if_lt, ix_if_ne, ix_iinc, ix_iload, ix_imul, ix_ineg, ix_ior, ix_irem, ix_iret, ix_ishl, ix_ishr, ix_istore, ix_isub, ix_iushr, ix_ixor, ix_l2i, ix_ladd, ix_lald, ix_land, ix_last, ix_lcmp, ix_ldcS, ix_ldiv, ix_lload, ix_lmul, ix_lor, ix_lrem, ix_lret, ix_lshl, ix_lstore, ix_lsub, ix_lsw, ix_max, ix_min, ix_new, ix_newa, ix_nret, ix_oinit, ix_pop2L, ix_popI, ix_pushI, ix_pushL, ix_putI, ix_putJ, ix_putR, ix_putZ, ix_sbald, ix_sgetC, ix_sgetV, ix_slen, ix_strc, ix_tald, ix_tsw, ix_vcall, ix_vret, ix_zret, stL, stL2, kilL, popN, fq_sw, fq_lsw, List.map_cons, List.map_nil, List.getElem?_cons_zero, List.getElem?_cons_succ, Option.toList_some, Option.toList_none, List.cons_append, List.nil_append, List.length_cons, List.length_nil, List.sum_cons, List.sum_nil, cat_i, cat_l, cat_r, true_and, and_true, Nat.zero_add, Nat.add_zero, Nat.le_refl, Nat.zero_le, Nat.reduceAdd, Nat.reduceLeDiff, exists_eq_left', Option.some.injEq, not_true_eq_false, not_false_eq_true, false_implies, true_implies, implies_true, and_self, or_true, true_or, or_false, false_or]
      exact hQ1 h1
  · exact h.elim
theorem wfS.cg {A B : Nat → Int32} (h : wfS A) (hb : ∀ k, k < 226 → B k = A k) : wfS B := by
  obtain ⟨h0, h1, h2, h3, h4, h5, h6, h7, hP, hH, hQ, hS⟩ := h
  have c0 := h0.2
  have c1 := h1.2
  have c2 := h2.2
  unfold wfS
  rw [hb 0 (by omega), hb 1 (by omega), hb 2 (by omega), hb 3 (by omega), hb 4 (by omega), hb 5 (by omega), hb 6 (by omega), hb 7 (by omega)]
  refine ⟨h0, h1, h2, h3, h4, h5, h6, h7, fun p hp => ?_, fun j hj => ?_, fun k hk => ?_, ?_⟩
  · unfold wfP
    rw [hb _ (by omega), hb _ (by omega), hb _ (by omega), hb _ (by omega), hb _ (by omega), hb _ (by omega)]
    exact hP p hp
  · unfold wfH
    rw [hb _ (by omega), hb _ (by omega)]
    exact hH j hj
  · unfold wfQ
    rw [hb _ (by omega), hb _ (by omega), hb _ (by omega)]
    exact hQ k hk
  · have e : sW B (A 0).toNatClampNeg = sW A (A 0).toNatClampNeg := sN_cg (fun j hj => by
      show (B (12 + 3 * j)).toNatClampNeg = _
      rw [hb _ (by omega)])
    rw [e]
    exact hS
theorem wfY.cg2 {A B : Nat → Int32} {N : Nat} (h : wfY A N) (hb : ∀ k, k < 594 → B k = A k) : wfY B N := by
  have hN := h.1
  have e0 := hb 0 (by omega)
  have e1 := hb 1 (by omega)
  have er : ∀ k j, k < 60 → j < 6 → B (226 + 6 * k + j) = A (226 + 6 * k + j) := fun k j hk hj => hb _ (by omega)
  have e : ∀ k, k < 60 → B (226 + 6 * k) = A (226 + 6 * k) := fun k hk => hb _ (by omega)
  have op : ∀ k, k < 60 → (opn B k ↔ opn A k) := fun k hk => by unfold opn; rw [e k hk]
  refine ⟨hN, fun k hk => ?_, fun a b p q h1 h2 h3 h4 h5 h6 h7 h8 h9 => ?_⟩
  · have hK := h.2.1 k hk
    unfold wfK at *
    rw [e k (by omega), er k 4 (by omega) (by omega), er k 1 (by omega) (by omega), e0, e1]
    rcases hK with q | q | q
    · obtain ⟨q1, o, q2, q3, q4, q5⟩ := q
      exact Or.inl ⟨q1, o, q2, q3, (op o (by omega)).mpr q4, by rw [er o 4 (by omega) (by omega)]; exact q5⟩
    · obtain ⟨q1, q2, q3, q4, p, q5, q6, q7, q8, q9⟩ := q
      exact Or.inr (Or.inl ⟨(op k (by omega)).mpr q1, q2, q3, q4, p, q5, q6, q7, by rw [e p (by omega)]; exact q8, by rw [er p 4 (by omega) (by omega)]; exact q9⟩)
    · refine Or.inr (Or.inr ⟨q.1, ?_⟩)
      unfold wfO at *
      rw [e k (by omega), er k 1 (by omega) (by omega), er k 2 (by omega) (by omega), e1]
      exact q.2
  · rw [er a 4 (by omega) (by omega)] at h6
    rw [er b 4 (by omega) (by omega)] at h7
    exact h.2.2 a b p q h1 h2 h3 ((op a (by omega)).mp h4) ((op b (by omega)).mp h5) h6 h7 h8 h9
/-- widths behind lives by seeds -/
def mnS (N : Nat) (A : Nat → Int32) (h : Nat) : Nat → Nat → (Nat → Int32) → Int64 → Int64
  | 0, _, _, x => x
  | c + 1, d, L, x => mnS N A h c (d + 1) (lvR N 302 (A, d, fun _ => 0, 0, L) 0).2.2.2.2 (x + ((lvR N 302 (A, d, fun _ => 0, 0, L) 0).1 (12 + 3 * h)).toInt64)
theorem mnS_1 (N : Nat) (A : Nat → Int32) (h c d : Nat) (L : Nat → Int32) (x : Int64) : mnS N A h (c + 1) d L x = mnS N A h c (d + 1) (lvR N 302 (A, d, fun _ => 0, 0, L) 0).2.2.2.2 (x + ((lvR N 302 (A, d, fun _ => 0, 0, L) 0).1 (12 + 3 * h)).toInt64) := rfl
abbrev mnC (c h s m : Int32) : Prop := (0 ≤ h ∧ h < c) ∧ (0 ≤ s ∧ s ≤ 9999) ∧ (1 ≤ m ∧ m ≤ 20) ∧ s + m - 1 ≤ 9999
def meF (M : Nat) (I I' : IH) : Prop := (∀ a, a ≠ M → a ≠ M + 1 → a ≠ M + 12 → a ≠ M + 13 → I' a = I a) ∧ (∀ k, k ≠ 2 → k ≠ 29 → k ≠ 30 → I' M k = I M k) ∧ ∀ k, k < 2376 → I' (M + 1) k = I (M + 1) k
def sp_X12_mean (G : GT) : Sp := fun as S I J z Q => match as with
  | [.ref M, .int h, .int s, .int m] => rfS S M ∧ wfS (I (M + 1)) ∧ okL (I (M + 12)) ∧ wfZ (I (M + 1)) ∧ (¬ mnC (I (M + 1) 0) h s m → Q (some (.int 0)) S (u2 I M 2 1) J z) ∧ (mnC (I (M + 1) 0) h s m → (I (M + 1) 11 = -1 → Q (some (.int 0)) S (u2 I M 2 6) J z) ∧ ∀ j d c N, h = nI j → s = nI d → m = nI c → j < (I (M + 1) 0).toNatClampNeg → d + c ≤ 10000 → 1 ≤ c → c ≤ 20 → I (M + 1) 11 = nI N → wfY (I (M + 1)) N → ∃ w, mnS N (cpR (I (M + 1)) 2970 0 226) j c d (I (M + 12)) 0 = lN w ∧ w < 2 ^ 49 ∧ ∀ I', meF M I I' → okL (I' (M + 12)) → I' M 2 = 0 → Q (some (.int 1)) S I' (u2 (u2 J M 3 (lN w / lN (Nat.gcd w c))) M 4 (lN c / lN (Nat.gcd w c))) z)
  | _ => False
set_option maxHeartbeats 4000000 in
set_option maxRecDepth 20000 in
theorem c_X12_mean {l : Launch} {G : GT} {D : Nat} : ∀ as S I J z Q, sp_X12_mean G as S I J z Q → fqCall l G M_X12_mean (D + 9) 0 0 as S I J z Q := by
  intro as S I J z Q h
  unfold sp_X12_mean at h
  split at h
  · next M h s m =>
    obtain ⟨hm, hw, hL, hZ, hQ1, hQ2⟩ := h
    by_cases h0 : mnC (I (M + 1) 0) h s m
    · obtain ⟨q1, q2⟩ := hQ2 h0
      obtain ⟨h1, h2, h3, h4⟩ := h0
      obtain ⟨c0, hc0, ec0, ec02⟩ := hw.1.ex
      have h1' := h1
      rw [ec0] at h1'
      obtain ⟨j, rfl, hj⟩ := (in_c (by omega)).mp h1'
      obtain ⟨d, hd9, rfl⟩ := nI_of (Int32.not_lt.mpr h2.1)
      have hd : d ≤ 9999 := (nI_leI (a := d) (b := 9999) hd9 (by decide)).mp h2.2
      have hm0 : ¬ m < 0 := fun q => by
        have h9 := h3.1
        rw [Int32.le_iff_toInt_le] at h9
        rw [Int32.lt_iff_toInt_lt] at q
        have e1 : (1 : Int32).toInt = 1 := by decide
        have e0 : (0 : Int32).toInt = 0 := by decide
        omega
      obtain ⟨c, hc9, rfl⟩ := nI_of hm0
      have hc : c ≤ 20 := (nI_leI (a := c) (b := 20) hc9 (by decide)).mp h3.2
      have hc1 : 1 ≤ c := (nI_leI (a := 1) (b := c) (by decide) hc9).mp h3.1
      have h4' := h4
      obtain ⟨c', rfl⟩ : ∃ c', c = c' + 1 := ⟨c - 1, by omega⟩
      rw [nI_add, ← Nat.add_assoc, nI_pred] at h4'
      have hdc : d + c' ≤ 9999 := (nI_leI (a := d + c') (b := 9999) (by omega) (by decide)).mp h4'
      have b1 : bI (j < c0) = 1 := bI_t hj
      have b2 : bI (d ≤ 9999) = 1 := bI_t hd
      have b3 : bI (1 ≤ nI (c' + 1) ∧ c' + 1 ≤ 20) = 1 := bI_t ⟨h3.1, hc⟩
      have n1 : nI (d + (c' + 1)) - 1 = nI (d + c') := nI_pred _
      rcases hZ with hz0 | ⟨N, hN, hy⟩
      · refine fq_enter [some (.ref M), some (.int (nI j)), some (.int (nI d)), some (.int (nI (c' + 1))), none, none, none] (by decide +kernel) (Nat.le_of_ble_eq_true rfl) rfl (b_X12_mean_0 _ _ _ _ _ _ _ _ ?_)
        simp (disch := omega) only [B_X12_mean_0, B_X12_mean_43, B_X12_mean_80, sp_X12_isHouse, sp_X12_isFrom, sp_X12_is, B_X12_is_0, B_X12_is_14, sp_X12_keeps, sp_X12_lives, sp_X12_wideOf, B_X12_wideOf_0, sp_X12_houseRow, B_X12_houseRow_0, sp_X12_restores, sp_X12_tellsBy, hm, hm.k, hm.k1, hm.n1, hm.r1, hm.k2, hm.n2, hm.r2, hm.k3, hm.n3, hm.r3, hm.k4, hm.n4, hm.r4, hm.k5, hm.n5, hm.r5, hm.k6, hm.n6, hm.r6, hm.k7, hm.n7, hm.r7, hm.k8, hm.n8, hm.r8, hm.k9, hm.n9, hm.r9, hm.k10, hm.n10, hm.r10, hm.k11, hm.n11, hm.r11, hm.k12, hm.n12, hm.r12, hm.k13, hm.n13, hm.r13, hm.k14, hm.n14, hm.r14, li_2, li_3, li_4, li_5, li_6, li_7, li_8, li_9, li_10, li_11, li_12, li_13, li_14, li_15, li_16, li_17, li_18, li_19, li_20, li_21, li_22, li_23, li_24, li_25, li_26, li_27, li_28, li_29, li_30, li_32, li_33, li_34, li_35, li_36, li_37, li_38, li_39, li_40, li_41, li_42, li_43, li_44, li_45, li_46, li_47, li_48, li_49, li_50, li_51, li_52, li_53, li_54, li_55, li_56, li_57, li_58, li_59, li_60, li_61, li_62, li_63, li_64, li_65, li_66, li_67, li_68, li_69, li_70, li_71, li_72, li_73, li_74, li_75, li_76, li_77, li_78, li_79, li_80, li_81, li_82, li_83, li_84, li_85, li_86, li_87, li_88, li_89, li_90, li_91, li_92, li_93, li_94, li_95, li_96, li_97, li_98, li_99, li_100, li_101, li_102, li_103, li_104, li_105, li_106, li_107, li_108, li_109, li_110, li_111, li_112, li_113, li_114, li_115, li_116, li_117, li_118, li_119, li_120, li_121, li_122, li_123, li_124, li_125, li_126, li_127, li_128, li_129, li_130, li_131, li_226, li_240, li_255, li_300, li_586, li_594, li_900, li_999, li_1000, li_1800, li_2376, li_2388, li_2406, li_2602, li_2970, li_3067, li_3564, li_9999, li_10000, li_11287, li_65536, li_100000, li_1000000, nI_mul, tn0, tn1, vin0, vin1, Int32.add_zero, Int32.or_zero, Int32.mul_one, Int32.mul_zero, Int32.zero_add, Nat.reduceEqDiff, Nat.reduceMul, Nat.reduceSub, i64_0, i64_9999, i64_1, i64_20, ec0, hz0, b1, b2, b3, n1, nI_1, nI_add, nI_clamp, nI_pin, nI_neg, nI_nonneg, nI_leE, nI_ltE, nI_eqE, Nat.not_le, Nat.not_lt, fq_10, fq_01, fq_rr, ix_aald, ix_aast, ix_abs, ix_alen, ix_aload, ix_aret, ix_astore, ix_bald, ix_bast, ix_call, ix_cpyI, ix_cpyJ, ix_dead, ix_dup2, ix_dup2L, ix_dupI, ix_dupR, ix_dupx1, ix_getI, ix_getJ, ix_getR, ix_gfm, ix_gtab, ix_i2b, ix_i2c, ix_i2l, ix_i2s, ix_iadd, ix_iald, ix_iand, ix_iast, ix_icall, ix_icmp_eq, ix_icmp_ge, ix_icmp_gt, ix_icmp_le, ix_icmp_lt, ix_icmp_ne, ix_idiv, ix_if_eq, ix_if_ge, ix_if_gt, ix_if_le, ix_if_lt, ix_if_ne, ix_iinc, ix_iload, ix_imul, ix_ineg, ix_ior, ix_irem, ix_iret, ix_ishl, ix_ishr, ix_istore, ix_isub, ix_iushr, ix_ixor, ix_l2i, ix_ladd, ix_lald, ix_land, ix_last, ix_lcmp, ix_ldcS, ix_ldiv, ix_lload, ix_lmul, ix_lor, ix_lrem, ix_lret, ix_lshl, ix_lstore, ix_lsub, ix_lsw, ix_max, ix_min, ix_new, ix_newa, ix_nret, ix_oinit, ix_pop2L, ix_popI, ix_pushI, ix_pushL, ix_putI, ix_putJ, ix_putR, ix_putZ, ix_sbald, ix_sgetC, ix_sgetV, ix_slen, ix_strc, ix_tald, ix_tsw, ix_vcall, ix_vret, ix_zret, stL, stL2, kilL, popN, fq_sw, fq_lsw, List.map_cons, List.map_nil, List.getElem?_cons_zero, List.getElem?_cons_succ, Option.toList_some, Option.toList_none, List.cons_append, List.nil_append, List.length_cons, List.length_nil, List.sum_cons, List.sum_nil, cat_i, cat_l, cat_r, true_and, and_true, Nat.zero_add, Nat.add_zero, Nat.le_refl, Nat.zero_le, Nat.reduceAdd, Nat.reduceLeDiff, exists_eq_left', Option.some.injEq, not_true_eq_false, not_false_eq_true, false_implies, true_implies, implies_true, and_self, or_true, true_or, or_false, false_or]
        have b4 : ¬ bI (1 ≤ nI (c' + 1) ∧ c' ≤ 19) = 0 := by
          rw [bI_0]
          exact fun q => q ⟨h3.1, by omega⟩
        exact ⟨fun h => absurd h b4, fun _ => ⟨fun _ => ⟨fun _ => q1 hz0, fun h => absurd h (by decide)⟩, fun h => absurd h (by omega)⟩⟩
      · obtain ⟨w, hw1, hw2, hq⟩ := q2 j d (c' + 1) N rfl rfl rfl (by omega) (by omega) hc1 hc hN hy
        have hNm : ¬ nI N = -1 := by
          have := hy.1
          rw [nI_m1 (by omega)]
          exact id
        have a1 : ∀ k, k < 594 → cpR (I (M + 1)) 2970 0 226 k = I (M + 1) k := fun k hk => cpR_r _ _ _ _ _ (by omega)
        have wS := hw.cg (B := cpR (I (M + 1)) 2970 0 226) (fun k hk => a1 k (by omega))
        have wY := hy.cg2 a1
        have aN : cpR (I (M + 1)) 2970 0 226 11 = nI N := by rw [a1 11 (by omega)]; exact hN
        generalize hAA : cpR (I (M + 1)) 2970 0 226 = B at *
        have rst : ∀ X : Nat → Int32, (∀ k, (226 ≤ k ∨ k = 0 ∨ k = 1 ∨ k = 11) → X k = B k) → cpR X 0 2970 226 = B := by
          intro X hX
          funext k
          by_cases hk : k < 226
          · rw [cpR_z _ _ _ _ hk, hX _ (by omega), ← hAA, cpR_i _ _ _ _ _ hk, Nat.zero_add, cpR_r _ _ _ _ _ (by omega)]
          · rw [cpR_r _ _ _ _ _ (by omega), hX _ (by omega)]
        have lp : ∀ (n i : Nat) (L : Nat → Int32) (x : Int64) (I1 : IH), i + n = c' + 1 → okL L → I1 (M + 1) = B → I1 (M + 12) = L → (∀ a, a ≠ M → a ≠ M + 1 → a ≠ M + 12 → a ≠ M + 13 → I1 a = I a) → (∀ k, k ≠ 29 → k ≠ 30 → I1 M k = I M k) → mnS N B j n (d + i) L x = lN w → fqAt l G M_X12_mean (D + 9) 0 0 Q 80 [some (.ref M), some (.int (nI j)), some (.int (nI d)), some (.int (nI (c' + 1))), some (.long x), none, some (.int (nI i))] [] S I1 J z 0 0 := by
          intro n
          induction n with
          | zero =>
            intro i L x I1 hi hL k1 k2 k3 k4 he
            have he : x = lN w := he
            refine b_X12_mean_80 _ _ _ _ _ _ _ _ ?_
            simp (disch := omega) only [B_X12_mean_0, B_X12_mean_43, B_X12_mean_80, sp_X12_isHouse, sp_X12_isFrom, sp_X12_is, B_X12_is_0, B_X12_is_14, sp_X12_keeps, sp_X12_lives, sp_X12_wideOf, B_X12_wideOf_0, sp_X12_houseRow, B_X12_houseRow_0, sp_X12_restores, sp_X12_tellsBy, hm, hm.k, hm.k1, hm.n1, hm.r1, hm.k2, hm.n2, hm.r2, hm.k3, hm.n3, hm.r3, hm.k4, hm.n4, hm.r4, hm.k5, hm.n5, hm.r5, hm.k6, hm.n6, hm.r6, hm.k7, hm.n7, hm.r7, hm.k8, hm.n8, hm.r8, hm.k9, hm.n9, hm.r9, hm.k10, hm.n10, hm.r10, hm.k11, hm.n11, hm.r11, hm.k12, hm.n12, hm.r12, hm.k13, hm.n13, hm.r13, hm.k14, hm.n14, hm.r14, li_2, li_3, li_4, li_5, li_6, li_7, li_8, li_9, li_10, li_11, li_12, li_13, li_14, li_15, li_16, li_17, li_18, li_19, li_20, li_21, li_22, li_23, li_24, li_25, li_26, li_27, li_28, li_29, li_30, li_32, li_33, li_34, li_35, li_36, li_37, li_38, li_39, li_40, li_41, li_42, li_43, li_44, li_45, li_46, li_47, li_48, li_49, li_50, li_51, li_52, li_53, li_54, li_55, li_56, li_57, li_58, li_59, li_60, li_61, li_62, li_63, li_64, li_65, li_66, li_67, li_68, li_69, li_70, li_71, li_72, li_73, li_74, li_75, li_76, li_77, li_78, li_79, li_80, li_81, li_82, li_83, li_84, li_85, li_86, li_87, li_88, li_89, li_90, li_91, li_92, li_93, li_94, li_95, li_96, li_97, li_98, li_99, li_100, li_101, li_102, li_103, li_104, li_105, li_106, li_107, li_108, li_109, li_110, li_111, li_112, li_113, li_114, li_115, li_116, li_117, li_118, li_119, li_120, li_121, li_122, li_123, li_124, li_125, li_126, li_127, li_128, li_129, li_130, li_131, li_226, li_240, li_255, li_300, li_586, li_594, li_900, li_999, li_1000, li_1800, li_2376, li_2388, li_2406, li_2602, li_2970, li_3067, li_3564, li_9999, li_10000, li_11287, li_65536, li_100000, li_1000000, nI_mul, tn0, tn1, vin0, vin1, Int32.add_zero, Int32.or_zero, Int32.mul_one, Int32.mul_zero, Int32.zero_add, Nat.reduceEqDiff, Nat.reduceMul, Nat.reduceSub, nI_1, nI_add, nI_clamp, nI_pin, nI_neg, nI_nonneg, nI_leE, nI_ltE, nI_eqE, Nat.not_le, Nat.not_lt, fq_10, fq_01, fq_rr, ix_aald, ix_aast, ix_abs, ix_alen, ix_aload, ix_aret, ix_astore, ix_bald, ix_bast, ix_call, ix_cpyI, ix_cpyJ, ix_dead, ix_dup2, ix_dup2L, ix_dupI, ix_dupR, ix_dupx1, ix_getI, ix_getJ, ix_getR, ix_gfm, ix_gtab, ix_i2b, ix_i2c, ix_i2l, ix_i2s, ix_iadd, ix_iald, ix_iand, ix_iast, ix_icall, ix_icmp_eq, ix_icmp_ge, ix_icmp_gt, ix_icmp_le, ix_icmp_lt, ix_icmp_ne, ix_idiv, ix_if_eq, ix_if_ge, ix_if_gt, ix_if_le, ix_if_lt, ix_if_ne, ix_iinc, ix_iload, ix_imul, ix_ineg, ix_ior, ix_irem, ix_iret, ix_ishl, ix_ishr, ix_istore, ix_isub, ix_iushr, ix_ixor, ix_l2i, ix_ladd, ix_lald, ix_land, ix_last, ix_lcmp, ix_ldcS, ix_ldiv, ix_lload, ix_lmul, ix_lor, ix_lrem, ix_lret, ix_lshl, ix_lstore, ix_lsub, ix_lsw, ix_max, ix_min, ix_new, ix_newa, ix_nret, ix_oinit, ix_pop2L, ix_popI, ix_pushI, ix_pushL, ix_putI, ix_putJ, ix_putR, ix_putZ, ix_sbald, ix_sgetC, ix_sgetV, ix_slen, ix_strc, ix_tald, ix_tsw, ix_vcall, ix_vret, ix_zret, stL, stL2, kilL, popN, fq_sw, fq_lsw, List.map_cons, List.map_nil, List.getElem?_cons_zero, List.getElem?_cons_succ, Option.toList_some, Option.toList_none, List.cons_append, List.nil_append, List.length_cons, List.length_nil, List.sum_cons, List.sum_nil, cat_i, cat_l, cat_r, true_and, and_true, Nat.zero_add, Nat.add_zero, Nat.le_refl, Nat.zero_le, Nat.reduceAdd, Nat.reduceLeDiff, exists_eq_left', Option.some.injEq, not_true_eq_false, not_false_eq_true, false_implies, true_implies, implies_true, and_self, or_true, true_or, or_false, false_or]
            refine ⟨fun _ => ⟨w, c' + 1, he, nI_l (by omega), hw2, by omega, by omega, ?_⟩, fun h => absurd h (by omega)⟩
            refine hq _ ⟨fun a h1 h2 h3 h4 => by rw [u2_ne h1]; exact k3 a h1 h2 h3 h4, fun k h1 h2 h3 => by rw [u2_ck _ _ _ _ _ _ h1]; exact k4 k h2 h3, fun k hk => by rw [u2_ca _ _ _ _ _ _ (by omega), k1, ← hAA, cpR_r _ _ _ _ _ (by omega)]⟩ (by rw [u2_ne (by omega), k2]; exact hL) u2_eq
          | succ n ih =>
            intro i L x I1 hi hL k1 k2 k3 k4 he
            rw [mnS_1] at he
            obtain ⟨v1, v2, v3, v4⟩ := lvR_ok (N := N) 302 (B, d + i, fun _ => 0, 0, L) 0 wS wY hL (by show d + i < 65536; omega) (by show 0 ≤ 300; omega)
            have e11 : I1 (M + 1) 11 = nI N := by rw [k1]; exact aN
            have wS1 : wfS (I1 (M + 1)) := by rw [k1]; exact wS
            have oL1 : okL (I1 (M + 12)) := by rw [k2]; exact hL
            refine b_X12_mean_80 _ _ _ _ _ _ _ _ ?_
            simp (disch := omega) only [B_X12_mean_0, B_X12_mean_43, B_X12_mean_80, sp_X12_isHouse, sp_X12_isFrom, sp_X12_is, B_X12_is_0, B_X12_is_14, sp_X12_keeps, sp_X12_lives, sp_X12_wideOf, B_X12_wideOf_0, sp_X12_houseRow, B_X12_houseRow_0, sp_X12_restores, sp_X12_tellsBy, hm, hm.k, hm.k1, hm.n1, hm.r1, hm.k2, hm.n2, hm.r2, hm.k3, hm.n3, hm.r3, hm.k4, hm.n4, hm.r4, hm.k5, hm.n5, hm.r5, hm.k6, hm.n6, hm.r6, hm.k7, hm.n7, hm.r7, hm.k8, hm.n8, hm.r8, hm.k9, hm.n9, hm.r9, hm.k10, hm.n10, hm.r10, hm.k11, hm.n11, hm.r11, hm.k12, hm.n12, hm.r12, hm.k13, hm.n13, hm.r13, hm.k14, hm.n14, hm.r14, li_2, li_3, li_4, li_5, li_6, li_7, li_8, li_9, li_10, li_11, li_12, li_13, li_14, li_15, li_16, li_17, li_18, li_19, li_20, li_21, li_22, li_23, li_24, li_25, li_26, li_27, li_28, li_29, li_30, li_32, li_33, li_34, li_35, li_36, li_37, li_38, li_39, li_40, li_41, li_42, li_43, li_44, li_45, li_46, li_47, li_48, li_49, li_50, li_51, li_52, li_53, li_54, li_55, li_56, li_57, li_58, li_59, li_60, li_61, li_62, li_63, li_64, li_65, li_66, li_67, li_68, li_69, li_70, li_71, li_72, li_73, li_74, li_75, li_76, li_77, li_78, li_79, li_80, li_81, li_82, li_83, li_84, li_85, li_86, li_87, li_88, li_89, li_90, li_91, li_92, li_93, li_94, li_95, li_96, li_97, li_98, li_99, li_100, li_101, li_102, li_103, li_104, li_105, li_106, li_107, li_108, li_109, li_110, li_111, li_112, li_113, li_114, li_115, li_116, li_117, li_118, li_119, li_120, li_121, li_122, li_123, li_124, li_125, li_126, li_127, li_128, li_129, li_130, li_131, li_226, li_240, li_255, li_300, li_586, li_594, li_900, li_999, li_1000, li_1800, li_2376, li_2388, li_2406, li_2602, li_2970, li_3067, li_3564, li_9999, li_10000, li_11287, li_65536, li_100000, li_1000000, nI_mul, tn0, tn1, vin0, vin1, Int32.add_zero, Int32.or_zero, Int32.mul_one, Int32.mul_zero, Int32.zero_add, Nat.reduceEqDiff, Nat.reduceMul, Nat.reduceSub, wS1, oL1, nI_1, nI_add, nI_clamp, nI_pin, nI_neg, nI_nonneg, nI_leE, nI_ltE, nI_eqE, Nat.not_le, Nat.not_lt, fq_10, fq_01, fq_rr, ix_aald, ix_aast, ix_abs, ix_alen, ix_aload, ix_aret, ix_astore, ix_bald, ix_bast, ix_call, ix_cpyI, ix_cpyJ, ix_dead, ix_dup2, ix_dup2L, ix_dupI, ix_dupR, ix_dupx1, ix_getI, ix_getJ, ix_getR, ix_gfm, ix_gtab, ix_i2b, ix_i2c, ix_i2l, ix_i2s, ix_iadd, ix_iald, ix_iand, ix_iast, ix_icall, ix_icmp_eq, ix_icmp_ge, ix_icmp_gt, ix_icmp_le, ix_icmp_lt, ix_icmp_ne, ix_idiv, ix_if_eq, ix_if_ge, ix_if_gt, ix_if_le, ix_if_lt, ix_if_ne, ix_iinc, ix_iload, ix_imul, ix_ineg, ix_ior, ix_irem, ix_iret, ix_ishl, ix_ishr, ix_istore, ix_isub, ix_iushr, ix_ixor, ix_l2i, ix_ladd, ix_lald, ix_land, ix_last, ix_lcmp, ix_ldcS, ix_ldiv, ix_lload, ix_lmul, ix_lor, ix_lrem, ix_lret, ix_lshl, ix_lstore, ix_lsub, ix_lsw, ix_max, ix_min, ix_new, ix_newa, ix_nret, ix_oinit, ix_pop2L, ix_popI, ix_pushI, ix_pushL, ix_putI, ix_putJ, ix_putR, ix_putZ, ix_sbald, ix_sgetC, ix_sgetV, ix_slen, ix_strc, ix_tald, ix_tsw, ix_vcall, ix_vret, ix_zret, stL, stL2, kilL, popN, fq_sw, fq_lsw, List.map_cons, List.map_nil, List.getElem?_cons_zero, List.getElem?_cons_succ, Option.toList_some, Option.toList_none, List.cons_append, List.nil_append, List.length_cons, List.length_nil, List.sum_cons, List.sum_nil, cat_i, cat_l, cat_r, true_and, and_true, Nat.zero_add, Nat.add_zero, Nat.le_refl, Nat.zero_le, Nat.reduceAdd, Nat.reduceLeDiff, exists_eq_left', Option.some.injEq, not_true_eq_false, not_false_eq_true, false_implies, true_implies, implies_true, and_self, or_true, true_or, or_false, false_or]
            refine ⟨fun h => absurd h (by omega), fun _ => ⟨d + i, N, rfl, by omega, e11, by rw [k1]; exact wY, fun I2 hF hH => ⟨2970, rfl, by omega, by omega, ?_⟩⟩⟩
            rw [k1, k2] at hH
            generalize lvR N 302 (B, d + i, fun _ => 0, 0, L) 0 = X at *
            obtain ⟨g1, g2, g3, g4, g5⟩ := hH
            rw [g1, rst X.1 v2]
            exact ih (i + 1) X.2.2.2.2 _ _ (by omega) v3 (up1_at _ _ _) (by rw [up1_o _ _ _ _ (by omega)]; exact g5) (fun a h1 h2 h3 h4 => by rw [up1_o _ _ _ _ h2, hF.1 a h1 h2 h3 h4]; exact k3 a h1 h2 h3 h4) (fun k h1 h2 => by rw [up1_o _ _ _ _ (by omega), hF.2 k h1 h2]; exact k4 k h1 h2) he
        refine fq_enter [some (.ref M), some (.int (nI j)), some (.int (nI d)), some (.int (nI (c' + 1))), none, none, none] (by decide +kernel) (Nat.le_of_ble_eq_true rfl) rfl (b_X12_mean_0 _ _ _ _ _ _ _ _ ?_)
        simp (disch := omega) only [B_X12_mean_0, B_X12_mean_43, B_X12_mean_80, sp_X12_isHouse, sp_X12_isFrom, sp_X12_is, B_X12_is_0, B_X12_is_14, sp_X12_keeps, sp_X12_lives, sp_X12_wideOf, B_X12_wideOf_0, sp_X12_houseRow, B_X12_houseRow_0, sp_X12_restores, sp_X12_tellsBy, hm, hm.k, hm.k1, hm.n1, hm.r1, hm.k2, hm.n2, hm.r2, hm.k3, hm.n3, hm.r3, hm.k4, hm.n4, hm.r4, hm.k5, hm.n5, hm.r5, hm.k6, hm.n6, hm.r6, hm.k7, hm.n7, hm.r7, hm.k8, hm.n8, hm.r8, hm.k9, hm.n9, hm.r9, hm.k10, hm.n10, hm.r10, hm.k11, hm.n11, hm.r11, hm.k12, hm.n12, hm.r12, hm.k13, hm.n13, hm.r13, hm.k14, hm.n14, hm.r14, li_2, li_3, li_4, li_5, li_6, li_7, li_8, li_9, li_10, li_11, li_12, li_13, li_14, li_15, li_16, li_17, li_18, li_19, li_20, li_21, li_22, li_23, li_24, li_25, li_26, li_27, li_28, li_29, li_30, li_32, li_33, li_34, li_35, li_36, li_37, li_38, li_39, li_40, li_41, li_42, li_43, li_44, li_45, li_46, li_47, li_48, li_49, li_50, li_51, li_52, li_53, li_54, li_55, li_56, li_57, li_58, li_59, li_60, li_61, li_62, li_63, li_64, li_65, li_66, li_67, li_68, li_69, li_70, li_71, li_72, li_73, li_74, li_75, li_76, li_77, li_78, li_79, li_80, li_81, li_82, li_83, li_84, li_85, li_86, li_87, li_88, li_89, li_90, li_91, li_92, li_93, li_94, li_95, li_96, li_97, li_98, li_99, li_100, li_101, li_102, li_103, li_104, li_105, li_106, li_107, li_108, li_109, li_110, li_111, li_112, li_113, li_114, li_115, li_116, li_117, li_118, li_119, li_120, li_121, li_122, li_123, li_124, li_125, li_126, li_127, li_128, li_129, li_130, li_131, li_226, li_240, li_255, li_300, li_586, li_594, li_900, li_999, li_1000, li_1800, li_2376, li_2388, li_2406, li_2602, li_2970, li_3067, li_3564, li_9999, li_10000, li_11287, li_65536, li_100000, li_1000000, nI_mul, tn0, tn1, vin0, vin1, Int32.add_zero, Int32.or_zero, Int32.mul_one, Int32.mul_zero, Int32.zero_add, Nat.reduceEqDiff, Nat.reduceMul, Nat.reduceSub, i64_0, i64_9999, i64_1, i64_20, ec0, hN, hNm, b1, b2, b3, n1, nI_1, nI_add, nI_clamp, nI_pin, nI_neg, nI_nonneg, nI_leE, nI_ltE, nI_eqE, Nat.not_le, Nat.not_lt, fq_10, fq_01, fq_rr, ix_aald, ix_aast, ix_abs, ix_alen, ix_aload, ix_aret, ix_astore, ix_bald, ix_bast, ix_call, ix_cpyI, ix_cpyJ, ix_dead, ix_dup2, ix_dup2L, ix_dupI, ix_dupR, ix_dupx1, ix_getI, ix_getJ, ix_getR, ix_gfm, ix_gtab, ix_i2b, ix_i2c, ix_i2l, ix_i2s, ix_iadd, ix_iald, ix_iand, ix_iast, ix_icall, ix_icmp_eq, ix_icmp_ge, ix_icmp_gt, ix_icmp_le, ix_icmp_lt, ix_icmp_ne, ix_idiv, ix_if_eq, ix_if_ge, ix_if_gt, ix_if_le, ix_if_lt, ix_if_ne, ix_iinc, ix_iload, ix_imul, ix_ineg, ix_ior, ix_irem, ix_iret, ix_ishl, ix_ishr, ix_istore, ix_isub, ix_iushr, ix_ixor, ix_l2i, ix_ladd, ix_lald, ix_land, ix_last, ix_lcmp, ix_ldcS, ix_ldiv, ix_lload, ix_lmul, ix_lor, ix_lrem, ix_lret, ix_lshl, ix_lstore, ix_lsub, ix_lsw, ix_max, ix_min, ix_new, ix_newa, ix_nret, ix_oinit, ix_pop2L, ix_popI, ix_pushI, ix_pushL, ix_putI, ix_putJ, ix_putR, ix_putZ, ix_sbald, ix_sgetC, ix_sgetV, ix_slen, ix_strc, ix_tald, ix_tsw, ix_vcall, ix_vret, ix_zret, stL, stL2, kilL, popN, fq_sw, fq_lsw, List.map_cons, List.map_nil, List.getElem?_cons_zero, List.getElem?_cons_succ, Option.toList_some, Option.toList_none, List.cons_append, List.nil_append, List.length_cons, List.length_nil, List.sum_cons, List.sum_nil, cat_i, cat_l, cat_r, true_and, and_true, Nat.zero_add, Nat.add_zero, Nat.le_refl, Nat.zero_le, Nat.reduceAdd, Nat.reduceLeDiff, exists_eq_left', Option.some.injEq, not_true_eq_false, not_false_eq_true, false_implies, true_implies, implies_true, and_self, or_true, true_or, or_false, false_or]
        have b4 : ¬ bI (1 ≤ nI (c' + 1) ∧ c' ≤ 19) = 0 := by
          rw [bI_0]
          exact fun q => q ⟨h3.1, by omega⟩
        refine ⟨fun h => absurd h b4, fun _ => ⟨fun _ => ⟨2970, rfl, by omega, by omega, ?_⟩, fun h => absurd h (by omega)⟩⟩
        rw [hAA]
        exact lp (c' + 1) 0 (I (M + 12)) 0 _ (by omega) hL (up1_at _ _ _) (up1_o _ _ _ _ (by omega)) (fun a h1 h2 h3 h4 => up1_o _ _ _ _ h2) (fun k h1 h2 => by rw [up1_o _ _ _ _ (by omega)]) hw1
    · have hq := hQ1 h0
      refine fq_enter [some (.ref M), some (.int h), some (.int s), some (.int m), none, none, none] (by decide +kernel) (Nat.le_of_ble_eq_true rfl) rfl (b_X12_mean_0 _ _ _ _ _ _ _ _ ?_)
      simp (disch := omega) only [B_X12_mean_0, B_X12_mean_43, B_X12_mean_80, sp_X12_isHouse, sp_X12_isFrom, sp_X12_is, B_X12_is_0, B_X12_is_14, sp_X12_keeps, sp_X12_lives, sp_X12_wideOf, B_X12_wideOf_0, sp_X12_houseRow, B_X12_houseRow_0, sp_X12_restores, sp_X12_tellsBy, hm, hm.k, hm.k1, hm.n1, hm.r1, hm.k2, hm.n2, hm.r2, hm.k3, hm.n3, hm.r3, hm.k4, hm.n4, hm.r4, hm.k5, hm.n5, hm.r5, hm.k6, hm.n6, hm.r6, hm.k7, hm.n7, hm.r7, hm.k8, hm.n8, hm.r8, hm.k9, hm.n9, hm.r9, hm.k10, hm.n10, hm.r10, hm.k11, hm.n11, hm.r11, hm.k12, hm.n12, hm.r12, hm.k13, hm.n13, hm.r13, hm.k14, hm.n14, hm.r14, i64_0, i64_9999, i64_1, i64_20, bI_01, bI_01b, bI_0, nI_1, nI_add, nI_clamp, nI_pin, nI_neg, nI_nonneg, nI_leE, nI_ltE, nI_eqE, Nat.not_le, Nat.not_lt, fq_10, fq_01, fq_rr, ix_aald, ix_aast, ix_abs, ix_alen, ix_aload, ix_aret, ix_astore, ix_bald, ix_bast, ix_call, ix_cpyI, ix_cpyJ, ix_dead, ix_dup2, ix_dup2L, ix_dupI, ix_dupR, ix_dupx1, ix_getI, ix_getJ, ix_getR, ix_gfm, ix_gtab, ix_i2b, ix_i2c, ix_i2l, ix_i2s, ix_iadd, ix_iald, ix_iand, ix_iast, ix_icall, ix_icmp_eq, ix_icmp_ge, ix_icmp_gt, ix_icmp_le, ix_icmp_lt, ix_icmp_ne, ix_idiv, ix_if_eq, ix_if_ge, ix_if_gt, ix_if_le, ix_if_lt, ix_if_ne, ix_iinc, ix_iload, ix_imul, ix_ineg, ix_ior, ix_irem, ix_iret, ix_ishl, ix_ishr, ix_istore, ix_isub, ix_iushr, ix_ixor, ix_l2i, ix_ladd, ix_lald, ix_land, ix_last, ix_lcmp, ix_ldcS, ix_ldiv, ix_lload, ix_lmul, ix_lor, ix_lrem, ix_lret, ix_lshl, ix_lstore, ix_lsub, ix_lsw, ix_max, ix_min, ix_new, ix_newa, ix_nret, ix_oinit, ix_pop2L, ix_popI, ix_pushI, ix_pushL, ix_putI, ix_putJ, ix_putR, ix_putZ, ix_sbald, ix_sgetC, ix_sgetV, ix_slen, ix_strc, ix_tald, ix_tsw, ix_vcall, ix_vret, ix_zret, stL, stL2, kilL, popN, fq_sw, fq_lsw, List.map_cons, List.map_nil, List.getElem?_cons_zero, List.getElem?_cons_succ, Option.toList_some, Option.toList_none, List.cons_append, List.nil_append, List.length_cons, List.length_nil, List.sum_cons, List.sum_nil, cat_i, cat_l, cat_r, true_and, and_true, Nat.zero_add, Nat.add_zero, Nat.le_refl, Nat.zero_le, Nat.reduceAdd, Nat.reduceLeDiff, exists_eq_left', Option.some.injEq, not_true_eq_false, not_false_eq_true, false_implies, true_implies, implies_true, and_self, or_true, true_or, or_false, false_or]
      exact ⟨fun _ => hq, fun a => ⟨fun _ => hq, fun b => ⟨fun _ => hq, fun c => ⟨fun e => absurd ⟨Decidable.not_not.mp a, Decidable.not_not.mp b, Decidable.not_not.mp c, e⟩ h0, fun _ => hq⟩⟩⟩⟩
  · exact h.elim
def rgs (A : Nat → Int32) (a b t f : Int32) : Int32 := if ¬ ((0 ≤ a ∧ a < A 1) ∧ (0 ≤ b ∧ b < A 1) ∧ ¬ a = b) ∨ ¬ (f ≤ t ∧ t ≤ 4) then 1 else if nrP (A (30 + 7 * a.toNatClampNeg)) (A (30 + 7 * b.toNatClampNeg)) (A 8) then 0 else 7
def sp_X12_wrongGame (G : GT) : Sp := fun as S I J z Q => match as with
  | [.ref M, .int a, .int b, .int t, .int f] => rfS S M ∧ okN (I (M + 1) 1) 8 ∧ Q (some (.int (rgs (I (M + 1)) a b t f))) S I J z
  | _ => False
theorem i64_l (a b : Int32) : (a.toInt64 ≤ b.toInt64) = (a ≤ b) := propext (i64_le a b)
set_option maxHeartbeats 4000000 in
set_option maxRecDepth 20000 in
theorem c_X12_wrongGame {l : Launch} {G : GT} {D : Nat} : ∀ as S I J z Q, sp_X12_wrongGame G as S I J z Q → fqCall l G M_X12_wrongGame (D + 4) 0 0 as S I J z Q := by
  intro as S I J z Q h
  unfold sp_X12_wrongGame at h
  split at h
  · next M a b t f =>
    obtain ⟨hm, ho, hQ⟩ := h
    obtain ⟨c, hc, hc1, hc2⟩ := ho.ex
    unfold rgs at hQ
    by_cases h2 : f ≤ t ∧ t ≤ 4
    · rcases rps_c hc hc1 a b with ⟨h1, e1⟩ | ⟨p, q, rfl, rfl, hp, hq, hpq, h1, hh⟩
      · rw [if_pos (Or.inl h1)] at hQ
        refine fq_enter [some (.ref M), some (.int a), some (.int b), some (.int t), some (.int f)] (by decide +kernel) (Nat.le_of_ble_eq_true rfl) rfl (b_X12_wrongGame_0 _ _ _ _ _ _ _ _ ?_)
        simp (disch := omega) only [B_X12_wrongGame_0, B_X12_wrongGame_23, B_X12_wrongGame_42, sp_X12_areTwo, sp_X12_isFrom, sp_X12_areNear, hm, hm.k, hm.k1, hm.n1, hm.r1, hm.k2, hm.n2, hm.r2, hm.k3, hm.n3, hm.r3, hm.k4, hm.n4, hm.r4, hm.k5, hm.n5, hm.r5, hm.k6, hm.n6, hm.r6, hm.k7, hm.n7, hm.r7, hm.k8, hm.n8, hm.r8, hm.k9, hm.n9, hm.r9, hm.k10, hm.n10, hm.r10, hm.k11, hm.n11, hm.r11, hm.k12, hm.n12, hm.r12, hm.k13, hm.n13, hm.r13, hm.k14, hm.n14, hm.r14, h1, bI_01, bI_01b, bI_0, bI_tr, bI_fl, nI_1, nI_add, nI_clamp, nI_pin, nI_neg, nI_nonneg, nI_leE, nI_ltE, nI_eqE, Nat.not_le, Nat.not_lt, fq_10, fq_01, fq_rr, ix_aald, ix_aast, ix_abs, ix_alen, ix_aload, ix_aret, ix_astore, ix_bald, ix_bast, ix_call, ix_cpyI, ix_cpyJ, ix_dead, ix_dup2, ix_dup2L, ix_dupI, ix_dupR, ix_dupx1, ix_getI, ix_getJ, ix_getR, ix_gfm, ix_gtab, ix_i2b, ix_i2c, ix_i2l, ix_i2s, ix_iadd, ix_iald, ix_iand, ix_iast, ix_icall, ix_icmp_eq, ix_icmp_ge, ix_icmp_gt, ix_icmp_le, ix_icmp_lt, ix_icmp_ne, ix_idiv, ix_if_eq, ix_if_ge, ix_if_gt, ix_if_le, ix_if_lt, ix_if_ne, ix_iinc, ix_iload, ix_imul, ix_ineg, ix_ior, ix_irem, ix_iret, ix_ishl, ix_ishr, ix_istore, ix_isub, ix_iushr, ix_ixor, ix_l2i, ix_ladd, ix_lald, ix_land, ix_last, ix_lcmp, ix_ldcS, ix_ldiv, ix_lload, ix_lmul, ix_lor, ix_lrem, ix_lret, ix_lshl, ix_lstore, ix_lsub, ix_lsw, ix_max, ix_min, ix_new, ix_newa, ix_nret, ix_oinit, ix_pop2L, ix_popI, ix_pushI, ix_pushL, ix_putI, ix_putJ, ix_putR, ix_putZ, ix_sbald, ix_sgetC, ix_sgetV, ix_slen, ix_strc, ix_tald, ix_tsw, ix_vcall, ix_vret, ix_zret, stL, stL2, kilL, popN, fq_sw, fq_lsw, List.map_cons, List.map_nil, List.getElem?_cons_zero, List.getElem?_cons_succ, Option.toList_some, Option.toList_none, List.cons_append, List.nil_append, List.length_cons, List.length_nil, List.sum_cons, List.sum_nil, cat_i, cat_l, cat_r, true_and, and_true, Nat.zero_add, Nat.add_zero, Nat.le_refl, Nat.zero_le, Nat.reduceAdd, Nat.reduceLeDiff, exists_eq_left', Option.some.injEq, not_true_eq_false, not_false_eq_true, false_implies, true_implies, implies_true, and_self, or_true, true_or, or_false, false_or]
        exact hQ
      · rw [if_neg (fun q => q.elim (fun q => q h1) (fun q => q h2)), nI_clamp (by omega), nI_clamp (by omega)] at hQ
        refine fq_enter [some (.ref M), some (.int (nI p)), some (.int (nI q)), some (.int t), some (.int f)] (by decide +kernel) (Nat.le_of_ble_eq_true rfl) rfl (b_X12_wrongGame_0 _ _ _ _ _ _ _ _ ?_)
        simp (disch := omega) only [B_X12_wrongGame_0, B_X12_wrongGame_23, B_X12_wrongGame_42, sp_X12_areTwo, sp_X12_isFrom, sp_X12_areNear, hm, hm.k, hm.k1, hm.n1, hm.r1, hm.k2, hm.n2, hm.r2, hm.k3, hm.n3, hm.r3, hm.k4, hm.n4, hm.r4, hm.k5, hm.n5, hm.r5, hm.k6, hm.n6, hm.r6, hm.k7, hm.n7, hm.r7, hm.k8, hm.n8, hm.r8, hm.k9, hm.n9, hm.r9, hm.k10, hm.n10, hm.r10, hm.k11, hm.n11, hm.r11, hm.k12, hm.n12, hm.r12, hm.k13, hm.n13, hm.r13, hm.k14, hm.n14, hm.r14, h1, hpq, h2, i64_l, i64_4, bI_01, bI_01b, bI_0, bI_tr, bI_fl, nI_clamp, nI_1, nI_add, nI_clamp, nI_pin, nI_neg, nI_nonneg, nI_leE, nI_ltE, nI_eqE, Nat.not_le, Nat.not_lt, fq_10, fq_01, fq_rr, ix_aald, ix_aast, ix_abs, ix_alen, ix_aload, ix_aret, ix_astore, ix_bald, ix_bast, ix_call, ix_cpyI, ix_cpyJ, ix_dead, ix_dup2, ix_dup2L, ix_dupI, ix_dupR, ix_dupx1, ix_getI, ix_getJ, ix_getR, ix_gfm, ix_gtab, ix_i2b, ix_i2c, ix_i2l, ix_i2s, ix_iadd, ix_iald, ix_iand, ix_iast, ix_icall, ix_icmp_eq, ix_icmp_ge, ix_icmp_gt, ix_icmp_le, ix_icmp_lt, ix_icmp_ne, ix_idiv, ix_if_eq, ix_if_ge, ix_if_gt, ix_if_le, ix_if_lt, ix_if_ne, ix_iinc, ix_iload, ix_imul, ix_ineg, ix_ior, ix_irem, ix_iret, ix_ishl, ix_ishr, ix_istore, ix_isub, ix_iushr, ix_ixor, ix_l2i, ix_ladd, ix_lald, ix_land, ix_last, ix_lcmp, ix_ldcS, ix_ldiv, ix_lload, ix_lmul, ix_lor, ix_lrem, ix_lret, ix_lshl, ix_lstore, ix_lsub, ix_lsw, ix_max, ix_min, ix_new, ix_newa, ix_nret, ix_oinit, ix_pop2L, ix_popI, ix_pushI, ix_pushL, ix_putI, ix_putJ, ix_putR, ix_putZ, ix_sbald, ix_sgetC, ix_sgetV, ix_slen, ix_strc, ix_tald, ix_tsw, ix_vcall, ix_vret, ix_zret, stL, stL2, kilL, popN, fq_sw, fq_lsw, List.map_cons, List.map_nil, List.getElem?_cons_zero, List.getElem?_cons_succ, Option.toList_some, Option.toList_none, List.cons_append, List.nil_append, List.length_cons, List.length_nil, List.sum_cons, List.sum_nil, cat_i, cat_l, cat_r, true_and, and_true, Nat.zero_add, Nat.add_zero, Nat.le_refl, Nat.zero_le, Nat.reduceAdd, Nat.reduceLeDiff, exists_eq_left', Option.some.injEq, not_true_eq_false, not_false_eq_true, false_implies, true_implies, implies_true, and_self, or_true, true_or, or_false, false_or]
        refine ⟨fun h => ?_, fun h => ?_⟩
        · rw [if_neg h] at hQ
          exact hQ
        · rw [if_pos (Decidable.not_not.mp h)] at hQ
          exact hQ
    · rw [if_pos (Or.inr h2)] at hQ
      by_cases h1 : (0 ≤ a ∧ a < I (M + 1) 1) ∧ (0 ≤ b ∧ b < I (M + 1) 1) ∧ ¬ a = b
      · refine fq_enter [some (.ref M), some (.int a), some (.int b), some (.int t), some (.int f)] (by decide +kernel) (Nat.le_of_ble_eq_true rfl) rfl (b_X12_wrongGame_0 _ _ _ _ _ _ _ _ ?_)
        simp (disch := omega) only [B_X12_wrongGame_0, B_X12_wrongGame_23, B_X12_wrongGame_42, sp_X12_areTwo, sp_X12_isFrom, sp_X12_areNear, hm, hm.k, hm.k1, hm.n1, hm.r1, hm.k2, hm.n2, hm.r2, hm.k3, hm.n3, hm.r3, hm.k4, hm.n4, hm.r4, hm.k5, hm.n5, hm.r5, hm.k6, hm.n6, hm.r6, hm.k7, hm.n7, hm.r7, hm.k8, hm.n8, hm.r8, hm.k9, hm.n9, hm.r9, hm.k10, hm.n10, hm.r10, hm.k11, hm.n11, hm.r11, hm.k12, hm.n12, hm.r12, hm.k13, hm.n13, hm.r13, hm.k14, hm.n14, hm.r14, h1, h2, i64_l, i64_4, bI_01, bI_01b, bI_0, bI_tr, bI_fl, nI_1, nI_add, nI_clamp, nI_pin, nI_neg, nI_nonneg, nI_leE, nI_ltE, nI_eqE, Nat.not_le, Nat.not_lt, fq_10, fq_01, fq_rr, ix_aald, ix_aast, ix_abs, ix_alen, ix_aload, ix_aret, ix_astore, ix_bald, ix_bast, ix_call, ix_cpyI, ix_cpyJ, ix_dead, ix_dup2, ix_dup2L, ix_dupI, ix_dupR, ix_dupx1, ix_getI, ix_getJ, ix_getR, ix_gfm, ix_gtab, ix_i2b, ix_i2c, ix_i2l, ix_i2s, ix_iadd, ix_iald, ix_iand, ix_iast, ix_icall, ix_icmp_eq, ix_icmp_ge, ix_icmp_gt, ix_icmp_le, ix_icmp_lt, ix_icmp_ne, ix_idiv, ix_if_eq, ix_if_ge, ix_if_gt, ix_if_le, ix_if_lt, ix_if_ne, ix_iinc, ix_iload, ix_imul, ix_ineg, ix_ior, ix_irem, ix_iret, ix_ishl, ix_ishr, ix_istore, ix_isub, ix_iushr, ix_ixor, ix_l2i, ix_ladd, ix_lald, ix_land, ix_last, ix_lcmp, ix_ldcS, ix_ldiv, ix_lload, ix_lmul, ix_lor, ix_lrem, ix_lret, ix_lshl, ix_lstore, ix_lsub, ix_lsw, ix_max, ix_min, ix_new, ix_newa, ix_nret, ix_oinit, ix_pop2L, ix_popI, ix_pushI, ix_pushL, ix_putI, ix_putJ, ix_putR, ix_putZ, ix_sbald, ix_sgetC, ix_sgetV, ix_slen, ix_strc, ix_tald, ix_tsw, ix_vcall, ix_vret, ix_zret, stL, stL2, kilL, popN, fq_sw, fq_lsw, List.map_cons, List.map_nil, List.getElem?_cons_zero, List.getElem?_cons_succ, Option.toList_some, Option.toList_none, List.cons_append, List.nil_append, List.length_cons, List.length_nil, List.sum_cons, List.sum_nil, cat_i, cat_l, cat_r, true_and, and_true, Nat.zero_add, Nat.add_zero, Nat.le_refl, Nat.zero_le, Nat.reduceAdd, Nat.reduceLeDiff, exists_eq_left', Option.some.injEq, not_true_eq_false, not_false_eq_true, false_implies, true_implies, implies_true, and_self, or_true, true_or, or_false, false_or]
        exact hQ
      · refine fq_enter [some (.ref M), some (.int a), some (.int b), some (.int t), some (.int f)] (by decide +kernel) (Nat.le_of_ble_eq_true rfl) rfl (b_X12_wrongGame_0 _ _ _ _ _ _ _ _ ?_)
        simp (disch := omega) only [B_X12_wrongGame_0, B_X12_wrongGame_23, B_X12_wrongGame_42, sp_X12_areTwo, sp_X12_isFrom, sp_X12_areNear, hm, hm.k, hm.k1, hm.n1, hm.r1, hm.k2, hm.n2, hm.r2, hm.k3, hm.n3, hm.r3, hm.k4, hm.n4, hm.r4, hm.k5, hm.n5, hm.r5, hm.k6, hm.n6, hm.r6, hm.k7, hm.n7, hm.r7, hm.k8, hm.n8, hm.r8, hm.k9, hm.n9, hm.r9, hm.k10, hm.n10, hm.r10, hm.k11, hm.n11, hm.r11, hm.k12, hm.n12, hm.r12, hm.k13, hm.n13, hm.r13, hm.k14, hm.n14, hm.r14, h1, bI_01, bI_01b, bI_0, bI_tr, bI_fl, nI_1, nI_add, nI_clamp, nI_pin, nI_neg, nI_nonneg, nI_leE, nI_ltE, nI_eqE, Nat.not_le, Nat.not_lt, fq_10, fq_01, fq_rr, ix_aald, ix_aast, ix_abs, ix_alen, ix_aload, ix_aret, ix_astore, ix_bald, ix_bast, ix_call, ix_cpyI, ix_cpyJ, ix_dead, ix_dup2, ix_dup2L, ix_dupI, ix_dupR, ix_dupx1, ix_getI, ix_getJ, ix_getR, ix_gfm, ix_gtab, ix_i2b, ix_i2c, ix_i2l, ix_i2s, ix_iadd, ix_iald, ix_iand, ix_iast, ix_icall, ix_icmp_eq, ix_icmp_ge, ix_icmp_gt, ix_icmp_le, ix_icmp_lt, ix_icmp_ne, ix_idiv, ix_if_eq, ix_if_ge, ix_if_gt, ix_if_le, ix_if_lt, ix_if_ne, ix_iinc, ix_iload, ix_imul, ix_ineg, ix_ior, ix_irem, ix_iret, ix_ishl, ix_ishr, ix_istore, ix_isub, ix_iushr, ix_ixor, ix_l2i, ix_ladd, ix_lald, ix_land, ix_last, ix_lcmp, ix_ldcS, ix_ldiv, ix_lload, ix_lmul, ix_lor, ix_lrem, ix_lret, ix_lshl, ix_lstore, ix_lsub, ix_lsw, ix_max, ix_min, ix_new, ix_newa, ix_nret, ix_oinit, ix_pop2L, ix_popI, ix_pushI, ix_pushL, ix_putI, ix_putJ, ix_putR, ix_putZ, ix_sbald, ix_sgetC, ix_sgetV, ix_slen, ix_strc, ix_tald, ix_tsw, ix_vcall, ix_vret, ix_zret, stL, stL2, kilL, popN, fq_sw, fq_lsw, List.map_cons, List.map_nil, List.getElem?_cons_zero, List.getElem?_cons_succ, Option.toList_some, Option.toList_none, List.cons_append, List.nil_append, List.length_cons, List.length_nil, List.sum_cons, List.sum_nil, cat_i, cat_l, cat_r, true_and, and_true, Nat.zero_add, Nat.add_zero, Nat.le_refl, Nat.zero_le, Nat.reduceAdd, Nat.reduceLeDiff, exists_eq_left', Option.some.injEq, not_true_eq_false, not_false_eq_true, false_implies, true_implies, implies_true, and_self, or_true, true_or, or_false, false_or]
        exact hQ
  · exact h.elim
theorem dX12_game_0 : decode cX12_game 0 = .ok (.aload_n 0, 1) := by decide +kernel
theorem dX12_game_1 : decode cX12_game 1 = .ok (.iload_n 1, 1) := by decide +kernel
theorem dX12_game_2 : decode cX12_game 2 = .ok (.iload_n 2, 1) := by decide +kernel
theorem dX12_game_3 : decode cX12_game 3 = .ok (.iload_n 3, 1) := by decide +kernel
theorem dX12_game_4 : decode cX12_game 4 = .ok (.iconst 0, 1) := by decide +kernel
theorem dX12_game_5 : decode cX12_game 5 = .ok (.invokevirtual 389, 3) := by decide +kernel
theorem dX12_game_8 : decode cX12_game 8 = .ok (.istore 4, 2) := by decide +kernel
theorem dX12_game_10 : decode cX12_game 10 = .ok (.iload 4, 2) := by decide +kernel
theorem dX12_game_12 : decode cX12_game 12 = .ok (.ifCond .le 12, 3) := by decide +kernel
theorem dX12_game_15 : decode cX12_game 15 = .ok (.aload_n 0, 1) := by decide +kernel
theorem dX12_game_16 : decode cX12_game 16 = .ok (.iload 4, 2) := by decide +kernel
theorem dX12_game_18 : decode cX12_game 18 = .ok (.invokevirtual 75, 3) := by decide +kernel
theorem dX12_game_21 : decode cX12_game 21 = .ok (.goto 14, 3) := by decide +kernel
theorem dX12_game_24 : decode cX12_game 24 = .ok (.aload_n 0, 1) := by decide +kernel
theorem dX12_game_25 : decode cX12_game 25 = .ok (.aload_n 0, 1) := by decide +kernel
theorem dX12_game_26 : decode cX12_game 26 = .ok (.iload_n 1, 1) := by decide +kernel
theorem dX12_game_27 : decode cX12_game 27 = .ok (.iload_n 2, 1) := by decide +kernel
theorem dX12_game_28 : decode cX12_game 28 = .ok (.iload_n 3, 1) := by decide +kernel
theorem dX12_game_29 : decode cX12_game 29 = .ok (.invokevirtual 393, 3) := by decide +kernel
theorem dX12_game_32 : decode cX12_game 32 = .ok (.invokevirtual 79, 3) := by decide +kernel
theorem dX12_game_35 : decode cX12_game 35 = .ok (.ireturn, 1) := by decide +kernel
abbrev M_X12_game : MT := (yX12_game, cX12_game, 5, (some .int))
theorem cf_X12_game : fq_cf M_X12_game 3 := ⟨(mg_1 (List.mem_of_getElem? (i := 15) rfl) rfl), (mg_9 (List.mem_of_getElem? (i := 33) rfl) rfl), ⟨by decide, by decide, by decide +kernel⟩, by decide⟩
def B_X12_game_35 (G : GT) (mc ms : Nat) (Q : Post) : Cn := ix_iret mc ms Q
theorem b_X12_game_35 {l : Launch} {G : GT} {D mc ms : Nat} {Q : Post} : Imp l G M_X12_game (D + 6) mc ms Q (B_X12_game_35 G mc ms Q) 35 := sx_iret dX12_game_35 rfl
def B_X12_game_0 (G : GT) (mc ms : Nat) (Q : Post) : Cn := ix_aload 0 (ix_iload 1 (ix_iload 2 (ix_iload 3 (ix_pushI 0 (ix_vcall 12 5 0 0 mc ms (sp_X12_wrongGame G) (ix_istore 4 (ix_iload 4 (ix_if_le (ix_aload 0 (ix_aload 0 (ix_iload 1 (ix_iload 2 (ix_iload 3 (ix_vcall 12 4 0 0 mc ms (sp_X12_playing G) (ix_vcall 12 2 0 0 mc ms (sp_X12_gives G) ((B_X12_game_35 G mc ms Q))))))))) (ix_aload 0 (ix_iload 4 (ix_vcall 12 2 0 0 mc ms (sp_X12_refuse G) ((B_X12_game_35 G mc ms Q)))))))))))))
theorem b_X12_game_0 {l : Launch} {G : GT} {D mc ms : Nat} {Q : Post} : Imp l G M_X12_game (D + 6) mc ms Q (B_X12_game_0 G mc ms Q) 0 := sx_aload_n dX12_game_0 rfl (sx_iload_n dX12_game_1 rfl (sx_iload_n dX12_game_2 rfl (sx_iload_n dX12_game_3 rfl (sx_iconst dX12_game_4 rfl (sx_vcall dX12_game_5 cf_X12_wrongGame (mg_9 (List.mem_of_getElem? (i := 34) rfl) rfl) (mg_9 (List.mem_of_getElem? (i := 36) rfl) rfl) (mg_p (List.mem_of_getElem? (i := 111) rfl) rfl) rfl c_X12_wrongGame (sx_istore dX12_game_8 (by decide) (sx_iload dX12_game_10 (sx_if_le 24 dX12_game_12 (by decide) (sx_aload_n dX12_game_24 rfl (sx_aload_n dX12_game_25 rfl (sx_iload_n dX12_game_26 rfl (sx_iload_n dX12_game_27 rfl (sx_iload_n dX12_game_28 rfl (sx_vcall dX12_game_29 cf_X12_playing (mg_9 (List.mem_of_getElem? (i := 39) rfl) rfl) (mg_9 (List.mem_of_getElem? (i := 41) rfl) rfl) (mg_p (List.mem_of_getElem? (i := 112) rfl) rfl) rfl c_X12_playing (sx_vcall dX12_game_32 cf_X12_gives (mg_7 (List.mem_of_getElem? (i := 204) rfl) rfl) (mg_7 (List.mem_of_getElem? (i := 206) rfl) rfl) (mg_p (List.mem_of_getElem? (i := 72) rfl) rfl) rfl c_X12_gives (b_X12_game_35)))))))) (sx_aload_n dX12_game_15 rfl (sx_iload dX12_game_16 (sx_vcall dX12_game_18 cf_X12_refuse (mg_7 (List.mem_of_getElem? (i := 128) rfl) rfl) (mg_7 (List.mem_of_getElem? (i := 130) rfl) rfl) (mg_p (List.mem_of_getElem? (i := 54) rfl) rfl) rfl c_X12_refuse (sx_goto 35 dX12_game_21 (by decide) (b_X12_game_35)))))))))))))
def sp_X12_game (G : GT) : Sp := fun as S I J z Q => match as with
  | [.ref a0, .int a1, .int a2, .int a3] => B_X12_game_0 G 0 0 Q [some (.ref a0), some (.int a1), some (.int a2), some (.int a3), none] [] S I J z 0 0
  | _ => False
theorem c_X12_game {l : Launch} {G : GT} {D : Nat} : ∀ as S I J z Q, sp_X12_game G as S I J z Q → fqCall l G M_X12_game (D + 6) 0 0 as S I J z Q := by
  intro as S I J z Q h
  unfold sp_X12_game at h
  split at h
  · exact fq_enter _ (by decide +kernel) (Nat.le_of_ble_eq_true rfl) rfl (b_X12_game_0 _ _ _ _ _ _ _ _ h)
  · exact h.elim
theorem dX12_moveOf_0 : decode cX12_moveOf 0 = .ok (.aload_n 0, 1) := by decide +kernel
theorem dX12_moveOf_1 : decode cX12_moveOf 1 = .ok (.iload_n 1, 1) := by decide +kernel
theorem dX12_moveOf_2 : decode cX12_moveOf 2 = .ok (.iload_n 2, 1) := by decide +kernel
theorem dX12_moveOf_3 : decode cX12_moveOf 3 = .ok (.iload_n 3, 1) := by decide +kernel
theorem dX12_moveOf_4 : decode cX12_moveOf 4 = .ok (.iconst 1, 1) := by decide +kernel
theorem dX12_moveOf_5 : decode cX12_moveOf 5 = .ok (.invokevirtual 389, 3) := by decide +kernel
theorem dX12_moveOf_8 : decode cX12_moveOf 8 = .ok (.istore 4, 2) := by decide +kernel
theorem dX12_moveOf_10 : decode cX12_moveOf 10 = .ok (.iload 4, 2) := by decide +kernel
theorem dX12_moveOf_12 : decode cX12_moveOf 12 = .ok (.ifCond .le 10, 3) := by decide +kernel
theorem dX12_moveOf_15 : decode cX12_moveOf 15 = .ok (.aload_n 0, 1) := by decide +kernel
theorem dX12_moveOf_16 : decode cX12_moveOf 16 = .ok (.iload 4, 2) := by decide +kernel
theorem dX12_moveOf_18 : decode cX12_moveOf 18 = .ok (.invokevirtual 75, 3) := by decide +kernel
theorem dX12_moveOf_21 : decode cX12_moveOf 21 = .ok (.ireturn, 1) := by decide +kernel
theorem dX12_moveOf_22 : decode cX12_moveOf 22 = .ok (.aload_n 0, 1) := by decide +kernel
theorem dX12_moveOf_23 : decode cX12_moveOf 23 = .ok (.iload_n 1, 1) := by decide +kernel
theorem dX12_moveOf_24 : decode cX12_moveOf 24 = .ok (.iload_n 2, 1) := by decide +kernel
theorem dX12_moveOf_25 : decode cX12_moveOf 25 = .ok (.iload_n 3, 1) := by decide +kernel
theorem dX12_moveOf_26 : decode cX12_moveOf 26 = .ok (.invokevirtual 393, 3) := by decide +kernel
theorem dX12_moveOf_29 : decode cX12_moveOf 29 = .ok (.pop, 1) := by decide +kernel
theorem dX12_moveOf_30 : decode cX12_moveOf 30 = .ok (.aload_n 0, 1) := by decide +kernel
theorem dX12_moveOf_31 : decode cX12_moveOf 31 = .ok (.iconst 1, 1) := by decide +kernel
theorem dX12_moveOf_32 : decode cX12_moveOf 32 = .ok (.aload_n 0, 1) := by decide +kernel
theorem dX12_moveOf_33 : decode cX12_moveOf 33 = .ok (.getfield 377, 3) := by decide +kernel
theorem dX12_moveOf_36 : decode cX12_moveOf 36 = .ok (.isub, 1) := by decide +kernel
theorem dX12_moveOf_37 : decode cX12_moveOf 37 = .ok (.invokevirtual 79, 3) := by decide +kernel
theorem dX12_moveOf_40 : decode cX12_moveOf 40 = .ok (.ireturn, 1) := by decide +kernel
abbrev M_X12_moveOf : MT := (yX12_moveOf, cX12_moveOf, 5, (some .int))
theorem cf_X12_moveOf : fq_cf M_X12_moveOf 3 := ⟨(mg_1 (List.mem_of_getElem? (i := 15) rfl) rfl), (mg_9 (List.mem_of_getElem? (i := 54) rfl) rfl), ⟨by decide, by decide, by decide +kernel⟩, by decide⟩
def B_X12_moveOf_0 (G : GT) (mc ms : Nat) (Q : Post) : Cn := ix_aload 0 (ix_iload 1 (ix_iload 2 (ix_iload 3 (ix_pushI 1 (ix_vcall 12 5 0 0 mc ms (sp_X12_wrongGame G) (ix_istore 4 (ix_iload 4 (ix_if_le (ix_aload 0 (ix_iload 1 (ix_iload 2 (ix_iload 3 (ix_vcall 12 4 0 0 mc ms (sp_X12_playing G) (ix_popI (ix_aload 0 (ix_pushI 1 (ix_aload 0 (ix_getI 12 27 (ix_isub (ix_vcall 12 2 0 0 mc ms (sp_X12_gives G) (ix_iret mc ms Q))))))))))))) (ix_aload 0 (ix_iload 4 (ix_vcall 12 2 0 0 mc ms (sp_X12_refuse G) (ix_iret mc ms Q))))))))))))
theorem b_X12_moveOf_0 {l : Launch} {G : GT} {D mc ms : Nat} {Q : Post} : Imp l G M_X12_moveOf (D + 6) mc ms Q (B_X12_moveOf_0 G mc ms Q) 0 := sx_aload_n dX12_moveOf_0 rfl (sx_iload_n dX12_moveOf_1 rfl (sx_iload_n dX12_moveOf_2 rfl (sx_iload_n dX12_moveOf_3 rfl (sx_iconst dX12_moveOf_4 rfl (sx_vcall dX12_moveOf_5 cf_X12_wrongGame (mg_9 (List.mem_of_getElem? (i := 34) rfl) rfl) (mg_9 (List.mem_of_getElem? (i := 36) rfl) rfl) (mg_p (List.mem_of_getElem? (i := 111) rfl) rfl) rfl c_X12_wrongGame (sx_istore dX12_moveOf_8 (by decide) (sx_iload dX12_moveOf_10 (sx_if_le 22 dX12_moveOf_12 (by decide) (sx_aload_n dX12_moveOf_22 rfl (sx_iload_n dX12_moveOf_23 rfl (sx_iload_n dX12_moveOf_24 rfl (sx_iload_n dX12_moveOf_25 rfl (sx_vcall dX12_moveOf_26 cf_X12_playing (mg_9 (List.mem_of_getElem? (i := 39) rfl) rfl) (mg_9 (List.mem_of_getElem? (i := 41) rfl) rfl) (mg_p (List.mem_of_getElem? (i := 112) rfl) rfl) rfl c_X12_playing (sx_popI dX12_moveOf_29 (sx_aload_n dX12_moveOf_30 rfl (sx_iconst dX12_moveOf_31 rfl (sx_aload_n dX12_moveOf_32 rfl (sx_getI dX12_moveOf_33 fl_FootQuarrelModel_377 (fun _ _ _ => rfl) (sx_isub dX12_moveOf_36 (sx_vcall dX12_moveOf_37 cf_X12_gives (mg_7 (List.mem_of_getElem? (i := 204) rfl) rfl) (mg_7 (List.mem_of_getElem? (i := 206) rfl) rfl) (mg_p (List.mem_of_getElem? (i := 72) rfl) rfl) rfl c_X12_gives (sx_iret dX12_moveOf_40 rfl))))))))))))) (sx_aload_n dX12_moveOf_15 rfl (sx_iload dX12_moveOf_16 (sx_vcall dX12_moveOf_18 cf_X12_refuse (mg_7 (List.mem_of_getElem? (i := 128) rfl) rfl) (mg_7 (List.mem_of_getElem? (i := 130) rfl) rfl) (mg_p (List.mem_of_getElem? (i := 54) rfl) rfl) rfl c_X12_refuse (sx_iret dX12_moveOf_21 rfl))))))))))))
def sp_X12_moveOf (G : GT) : Sp := fun as S I J z Q => match as with
  | [.ref a0, .int a1, .int a2, .int a3] => B_X12_moveOf_0 G 0 0 Q [some (.ref a0), some (.int a1), some (.int a2), some (.int a3), none] [] S I J z 0 0
  | _ => False
theorem c_X12_moveOf {l : Launch} {G : GT} {D : Nat} : ∀ as S I J z Q, sp_X12_moveOf G as S I J z Q → fqCall l G M_X12_moveOf (D + 6) 0 0 as S I J z Q := by
  intro as S I J z Q h
  unfold sp_X12_moveOf at h
  split at h
  · exact fq_enter _ (by decide +kernel) (Nat.le_of_ble_eq_true rfl) rfl (b_X12_moveOf_0 _ _ _ _ _ _ _ _ h)
  · exact h.elim
