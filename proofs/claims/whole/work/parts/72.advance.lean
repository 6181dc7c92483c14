/-! the component's reader: advance -/
def kdC (x : Int32) : Int32 := if x = 0 then 1 else if x = 1 then 0 else x
/-- what the reader may change -/
def rdF (R : Nat) (I I' : IH) (J J' : JH) : Prop := (∀ a, a ≠ R → I' a = I a) ∧ (∀ k, k ≠ 3 → k ≠ 4 → k ≠ 5 → k ≠ 7 → k ≠ 8 → k ≠ 9 → I' R k = I R k) ∧ ∀ a, a ≠ R → J' a = J a
/-- the reader stands at the token behind e -/
def rdH (R : Nat) (I : IH) (J : JH) (T : Nat → Int32) (n e : Nat) : Prop := I R 2 = nI n ∧ I R 4 = kdC (tK T n e) ∧ I R 7 = nI (tF T n e) ∧ (¬ tK T n e = 1 → I R 3 = nI (tE T n e)) ∧ I R 8 = wk (kwI T n e) ∧ I R 9 = (if tK T n e = 4 then tV T n e else 0) ∧ (tK T n e = 3 → I R 5 = tV T n e) ∧ (tK T n e = 2 → tE T n e - tF T n e ≤ 8 → nmP (J R 6) (nmH T n e) ∧ ¬ J R 6 = 0) ∧ ((¬ tK T n e = 2 ∨ 8 < tE T n e - tF T n e) → J R 6 = 0)
theorem rdF.rf {R : Nat} {I : IH} {J : JH} : rdF R I I J J := ⟨fun _ _ => rfl, fun _ _ _ _ _ _ _ => rfl, fun _ _ => rfl⟩
theorem rdF.tr {R : Nat} {I I1 I2 : IH} {J J1 J2 : JH} (h : rdF R I I1 J J1) (g : rdF R I1 I2 J1 J2) : rdF R I I2 J J2 := ⟨fun a h1 => (g.1 a h1).trans (h.1 a h1), fun k a b c d e f => (g.2.1 k a b c d e f).trans (h.2.1 k a b c d e f), fun a ha => (g.2.2 a ha).trans (h.2.2 a ha)⟩
theorem rdF.i {R : Nat} {I : IH} {J J' : JH} {a b c d e f : Int32} (h : ∀ a, a ≠ R → J' a = J a) : rdF R I (rdI I R a b c d e f) J J' := ⟨fun a h1 => rdI_o h1, fun k a b c d e f => rdI_k a b c d e f, h⟩
theorem rdE.mv {S : Sh} {I I' : IH} {J J' : JH} {X n : Nat} {T : Nat → Int32} (h : rdE S I J X T n) (h1 : I' (X + 10) = I (X + 10)) (h2 : J' (X + 12) = J (X + 12)) : rdE S I' J' X T n := ⟨h.1, h.2.1, by rw [h1]; exact h.2.2.1, by rw [h2]; exact h.2.2.2⟩
theorem rdE.f {S : Sh} {I I' : IH} {J J' : JH} {X n : Nat} {T : Nat → Int32} (h : rdE S I J X T n) (g : rdF (X + 11) I I' J J') : rdE S I' J' X T n := h.mv (g.1 _ (by omega)) (g.2.2 _ (by omega))
theorem wk_1 : wk (-1) = -1 := rfl
theorem kwI_n {T : Nat → Int32} {n e : Nat} (h : ¬ tK T n e = 2) : kwI T n e = -1 := by
  unfold kwI
  rw [if_neg h]
theorem dX4_advance_0 : decode cX4_advance 0 = .ok (.aload_n 0, 1) := by decide +kernel
theorem dX4_advance_1 : decode cX4_advance 1 = .ok (.getfield 44, 3) := by decide +kernel
theorem dX4_advance_4 : decode cX4_advance 4 = .ok (.istore_n 1, 1) := by decide +kernel
theorem dX4_advance_5 : decode cX4_advance 5 = .ok (.iload_n 1, 1) := by decide +kernel
theorem dX4_advance_6 : decode cX4_advance 6 = .ok (.aload_n 0, 1) := by decide +kernel
theorem dX4_advance_7 : decode cX4_advance 7 = .ok (.getfield 41, 3) := by decide +kernel
theorem dX4_advance_10 : decode cX4_advance 10 = .ok (.if_icmp .ge 31, 3) := by decide +kernel
theorem dX4_advance_13 : decode cX4_advance 13 = .ok (.aload_n 0, 1) := by decide +kernel
theorem dX4_advance_14 : decode cX4_advance 14 = .ok (.getfield 9, 3) := by decide +kernel
theorem dX4_advance_17 : decode cX4_advance 17 = .ok (.iload_n 1, 1) := by decide +kernel
theorem dX4_advance_18 : decode cX4_advance 18 = .ok (.baload, 1) := by decide +kernel
theorem dX4_advance_19 : decode cX4_advance 19 = .ok (.invokestatic 56, 3) := by decide +kernel
theorem dX4_advance_22 : decode cX4_advance 22 = .ok (.ifCond .eq 19, 3) := by decide +kernel
theorem dX4_advance_25 : decode cX4_advance 25 = .ok (.aload_n 0, 1) := by decide +kernel
theorem dX4_advance_26 : decode cX4_advance 26 = .ok (.dup, 1) := by decide +kernel
theorem dX4_advance_27 : decode cX4_advance 27 = .ok (.getfield 44, 3) := by decide +kernel
theorem dX4_advance_30 : decode cX4_advance 30 = .ok (.iconst 1, 1) := by decide +kernel
theorem dX4_advance_31 : decode cX4_advance 31 = .ok (.iadd, 1) := by decide +kernel
theorem dX4_advance_32 : decode cX4_advance 32 = .ok (.putfield 44, 3) := by decide +kernel
theorem dX4_advance_35 : decode cX4_advance 35 = .ok (.iinc 1 1, 3) := by decide +kernel
theorem dX4_advance_38 : decode cX4_advance 38 = .ok (.goto (-33), 3) := by decide +kernel
theorem dX4_advance_41 : decode cX4_advance 41 = .ok (.aload_n 0, 1) := by decide +kernel
theorem dX4_advance_42 : decode cX4_advance 42 = .ok (.aload_n 0, 1) := by decide +kernel
theorem dX4_advance_43 : decode cX4_advance 43 = .ok (.getfield 44, 3) := by decide +kernel
theorem dX4_advance_46 : decode cX4_advance 46 = .ok (.putfield 60, 3) := by decide +kernel
theorem dX4_advance_49 : decode cX4_advance 49 = .ok (.aload_n 0, 1) := by decide +kernel
theorem dX4_advance_50 : decode cX4_advance 50 = .ok (.iconst (-1), 1) := by decide +kernel
theorem dX4_advance_51 : decode cX4_advance 51 = .ok (.putfield 63, 3) := by decide +kernel
theorem dX4_advance_54 : decode cX4_advance 54 = .ok (.aload_n 0, 1) := by decide +kernel
theorem dX4_advance_55 : decode cX4_advance 55 = .ok (.iconst 0, 1) := by decide +kernel
theorem dX4_advance_56 : decode cX4_advance 56 = .ok (.putfield 66, 3) := by decide +kernel
theorem dX4_advance_59 : decode cX4_advance 59 = .ok (.aload_n 0, 1) := by decide +kernel
theorem dX4_advance_60 : decode cX4_advance 60 = .ok (.lconst 0, 1) := by decide +kernel
theorem dX4_advance_61 : decode cX4_advance 61 = .ok (.putfield 69, 3) := by decide +kernel
theorem dX4_advance_64 : decode cX4_advance 64 = .ok (.aload_n 0, 1) := by decide +kernel
theorem dX4_advance_65 : decode cX4_advance 65 = .ok (.iconst 0, 1) := by decide +kernel
theorem dX4_advance_66 : decode cX4_advance 66 = .ok (.putfield 73, 3) := by decide +kernel
theorem dX4_advance_69 : decode cX4_advance 69 = .ok (.aload_n 0, 1) := by decide +kernel
theorem dX4_advance_70 : decode cX4_advance 70 = .ok (.iconst 0, 1) := by decide +kernel
theorem dX4_advance_71 : decode cX4_advance 71 = .ok (.putfield 76, 3) := by decide +kernel
theorem dX4_advance_74 : decode cX4_advance 74 = .ok (.aload_n 0, 1) := by decide +kernel
theorem dX4_advance_75 : decode cX4_advance 75 = .ok (.getfield 60, 3) := by decide +kernel
theorem dX4_advance_78 : decode cX4_advance 78 = .ok (.aload_n 0, 1) := by decide +kernel
theorem dX4_advance_79 : decode cX4_advance 79 = .ok (.getfield 41, 3) := by decide +kernel
theorem dX4_advance_82 : decode cX4_advance 82 = .ok (.if_icmp .lt 11, 3) := by decide +kernel
theorem dX4_advance_85 : decode cX4_advance 85 = .ok (.aload_n 0, 1) := by decide +kernel
theorem dX4_advance_86 : decode cX4_advance 86 = .ok (.iconst 1, 1) := by decide +kernel
theorem dX4_advance_87 : decode cX4_advance 87 = .ok (.putfield 76, 3) := by decide +kernel
theorem dX4_advance_90 : decode cX4_advance 90 = .ok (.goto 90, 3) := by decide +kernel
theorem dX4_advance_93 : decode cX4_advance 93 = .ok (.aload_n 0, 1) := by decide +kernel
theorem dX4_advance_94 : decode cX4_advance 94 = .ok (.getfield 9, 3) := by decide +kernel
theorem dX4_advance_97 : decode cX4_advance 97 = .ok (.aload_n 0, 1) := by decide +kernel
theorem dX4_advance_98 : decode cX4_advance 98 = .ok (.getfield 60, 3) := by decide +kernel
theorem dX4_advance_101 : decode cX4_advance 101 = .ok (.baload, 1) := by decide +kernel
theorem dX4_advance_102 : decode cX4_advance 102 = .ok (.invokestatic 79, 3) := by decide +kernel
theorem dX4_advance_105 : decode cX4_advance 105 = .ok (.ifCond .eq 10, 3) := by decide +kernel
theorem dX4_advance_108 : decode cX4_advance 108 = .ok (.aload_n 0, 1) := by decide +kernel
theorem dX4_advance_109 : decode cX4_advance 109 = .ok (.invokevirtual 82, 3) := by decide +kernel
theorem dX4_advance_112 : decode cX4_advance 112 = .ok (.goto 68, 3) := by decide +kernel
theorem dX4_advance_115 : decode cX4_advance 115 = .ok (.aload_n 0, 1) := by decide +kernel
theorem dX4_advance_116 : decode cX4_advance 116 = .ok (.getfield 9, 3) := by decide +kernel
theorem dX4_advance_119 : decode cX4_advance 119 = .ok (.aload_n 0, 1) := by decide +kernel
theorem dX4_advance_120 : decode cX4_advance 120 = .ok (.getfield 60, 3) := by decide +kernel
theorem dX4_advance_123 : decode cX4_advance 123 = .ok (.baload, 1) := by decide +kernel
theorem dX4_advance_124 : decode cX4_advance 124 = .ok (.invokestatic 85, 3) := by decide +kernel
theorem dX4_advance_127 : decode cX4_advance 127 = .ok (.ifCond .eq 10, 3) := by decide +kernel
theorem dX4_advance_130 : decode cX4_advance 130 = .ok (.aload_n 0, 1) := by decide +kernel
theorem dX4_advance_131 : decode cX4_advance 131 = .ok (.invokevirtual 88, 3) := by decide +kernel
theorem dX4_advance_134 : decode cX4_advance 134 = .ok (.goto 46, 3) := by decide +kernel
theorem dX4_advance_137 : decode cX4_advance 137 = .ok (.aload_n 0, 1) := by decide +kernel
theorem dX4_advance_138 : decode cX4_advance 138 = .ok (.getfield 9, 3) := by decide +kernel
theorem dX4_advance_141 : decode cX4_advance 141 = .ok (.aload_n 0, 1) := by decide +kernel
theorem dX4_advance_142 : decode cX4_advance 142 = .ok (.getfield 60, 3) := by decide +kernel
theorem dX4_advance_145 : decode cX4_advance 145 = .ok (.baload, 1) := by decide +kernel
theorem dX4_advance_146 : decode cX4_advance 146 = .ok (.invokestatic 91, 3) := by decide +kernel
theorem dX4_advance_149 : decode cX4_advance 149 = .ok (.ifCond .eq 31, 3) := by decide +kernel
theorem dX4_advance_152 : decode cX4_advance 152 = .ok (.aload_n 0, 1) := by decide +kernel
theorem dX4_advance_153 : decode cX4_advance 153 = .ok (.iconst 4, 1) := by decide +kernel
theorem dX4_advance_154 : decode cX4_advance 154 = .ok (.putfield 76, 3) := by decide +kernel
theorem dX4_advance_157 : decode cX4_advance 157 = .ok (.aload_n 0, 1) := by decide +kernel
theorem dX4_advance_158 : decode cX4_advance 158 = .ok (.aload_n 0, 1) := by decide +kernel
theorem dX4_advance_159 : decode cX4_advance 159 = .ok (.getfield 9, 3) := by decide +kernel
theorem dX4_advance_162 : decode cX4_advance 162 = .ok (.aload_n 0, 1) := by decide +kernel
theorem dX4_advance_163 : decode cX4_advance 163 = .ok (.getfield 60, 3) := by decide +kernel
theorem dX4_advance_166 : decode cX4_advance 166 = .ok (.baload, 1) := by decide +kernel
theorem dX4_advance_167 : decode cX4_advance 167 = .ok (.putfield 66, 3) := by decide +kernel
theorem dX4_advance_170 : decode cX4_advance 170 = .ok (.aload_n 0, 1) := by decide +kernel
theorem dX4_advance_171 : decode cX4_advance 171 = .ok (.dup, 1) := by decide +kernel
theorem dX4_advance_172 : decode cX4_advance 172 = .ok (.getfield 44, 3) := by decide +kernel
theorem dX4_advance_175 : decode cX4_advance 175 = .ok (.iconst 1, 1) := by decide +kernel
theorem dX4_advance_176 : decode cX4_advance 176 = .ok (.iadd, 1) := by decide +kernel
theorem dX4_advance_177 : decode cX4_advance 177 = .ok (.putfield 44, 3) := by decide +kernel
theorem dX4_advance_180 : decode cX4_advance 180 = .ok (.return_, 1) := by decide +kernel
abbrev M_X4_advance : MT := (yX4_advance, cX4_advance, 2, none)
theorem cf_X4_advance : fq_cf M_X4_advance 0 := ⟨(mg_1 (List.mem_of_getElem? (i := 3) rfl) rfl), (mg_3 (List.mem_of_getElem? (i := 184) rfl) rfl), ⟨by decide, by decide, by decide +kernel⟩, by decide⟩
def B_X4_advance_180 (l : Launch) (G : GT) (D mc ms : Nat) (Q : Post) : Cn := ix_vret mc ms Q
theorem b_X4_advance_180 {l : Launch} {G : GT} {D mc ms : Nat} {Q : Post} : Imp l G M_X4_advance (D + 2) mc ms Q (B_X4_advance_180 l G D mc ms Q) 180 := sx_vret dX4_advance_180 rfl
def B_X4_advance_41 (l : Launch) (G : GT) (D mc ms : Nat) (Q : Post) : Cn := ix_aload 0 (ix_aload 0 (ix_getI 4 3 (ix_putI 4 7 (ix_aload 0 (ix_pushI (-1) (ix_putI 4 8 (ix_aload 0 (ix_pushI 0 (ix_putI 4 9 (ix_aload 0 (ix_pushL 0 (ix_putJ 4 6 (ix_aload 0 (ix_pushI 0 (ix_putI 4 5 (ix_aload 0 (ix_pushI 0 (ix_putI 4 4 (ix_aload 0 (ix_getI 4 7 (ix_aload 0 (ix_getI 4 2 (ix_icmp_lt (ix_aload 0 (ix_getR 4 0 (ix_aload 0 (ix_getI 4 7 (ix_bald (ix_call 1 0 0 mc ms (sp_X4_isLetter G) (ix_if_eq (ix_aload 0 (ix_getR 4 0 (ix_aload 0 (ix_getI 4 7 (ix_bald (ix_call 1 0 0 mc ms (sp_X4_isDigit G) (ix_if_eq (ix_aload 0 (ix_getR 4 0 (ix_aload 0 (ix_getI 4 7 (ix_bald (ix_call 1 0 0 mc ms (sp_X4_isSign G) (ix_if_eq ((B_X4_advance_180 l G D mc ms Q)) (ix_aload 0 (ix_pushI 4 (ix_putI 4 4 (ix_aload 0 (ix_aload 0 (ix_getR 4 0 (ix_aload 0 (ix_getI 4 7 (ix_bald (ix_putI 4 9 (ix_aload 0 (ix_dupR (ix_getI 4 3 (ix_pushI 1 (ix_iadd (ix_putI 4 3 ((B_X4_advance_180 l G D mc ms Q))))))))))))))))))))))))) (ix_aload 0 (ix_vcall 4 1 0 0 mc ms (sp_X4_readNumber G) ((B_X4_advance_180 l G D mc ms Q))))))))))) (ix_aload 0 (ix_vcall 4 1 0 0 mc ms (sp_X4_readWord G) ((B_X4_advance_180 l G D mc ms Q))))))))))) (ix_aload 0 (ix_pushI 1 (ix_putI 4 4 ((B_X4_advance_180 l G D mc ms Q))))))))))))))))))))))))))))
theorem b_X4_advance_41 {l : Launch} {G : GT} {D mc ms : Nat} {Q : Post} : Imp l G M_X4_advance (D + 2) mc ms Q (B_X4_advance_41 l G D mc ms Q) 41 := sx_aload_n dX4_advance_41 rfl (sx_aload_n dX4_advance_42 rfl (sx_getI dX4_advance_43 fl_FootQuarrel_Reader_44 (fun _ _ _ => rfl) (sx_putI dX4_advance_46 fl_FootQuarrel_Reader_60 (by decide) (fun _ _ _ => rfl) (fun _ => ⟨rfl, rfl⟩) (sx_aload_n dX4_advance_49 rfl (sx_iconst dX4_advance_50 rfl (sx_putI dX4_advance_51 fl_FootQuarrel_Reader_63 (by decide) (fun _ _ _ => rfl) (fun _ => ⟨rfl, rfl⟩) (sx_aload_n dX4_advance_54 rfl (sx_iconst dX4_advance_55 rfl (sx_putI dX4_advance_56 fl_FootQuarrel_Reader_66 (by decide) (fun _ _ _ => rfl) (fun _ => ⟨rfl, rfl⟩) (sx_aload_n dX4_advance_59 rfl (sx_lconst dX4_advance_60 rfl (sx_putJ dX4_advance_61 fl_FootQuarrel_Reader_69 (by decide) (fun _ _ _ => rfl) (fun _ => ⟨rfl, rfl⟩) (sx_aload_n dX4_advance_64 rfl (sx_iconst dX4_advance_65 rfl (sx_putI dX4_advance_66 fl_FootQuarrel_Reader_73 (by decide) (fun _ _ _ => rfl) (fun _ => ⟨rfl, rfl⟩) (sx_aload_n dX4_advance_69 rfl (sx_iconst dX4_advance_70 rfl (sx_putI dX4_advance_71 fl_FootQuarrel_Reader_76 (by decide) (fun _ _ _ => rfl) (fun _ => ⟨rfl, rfl⟩) (sx_aload_n dX4_advance_74 rfl (sx_getI dX4_advance_75 fl_FootQuarrel_Reader_60 (fun _ _ _ => rfl) (sx_aload_n dX4_advance_78 rfl (sx_getI dX4_advance_79 fl_FootQuarrel_Reader_41 (fun _ _ _ => rfl) (sx_icmp_lt 93 dX4_advance_82 (by decide) (sx_aload_n dX4_advance_93 rfl (sx_getR dX4_advance_94 fl_FootQuarrel_Reader_9 (fun _ _ _ => rfl) (sx_aload_n dX4_advance_97 rfl (sx_getI dX4_advance_98 fl_FootQuarrel_Reader_60 (fun _ _ _ => rfl) (sx_bald dX4_advance_101 (sx_scall dX4_advance_102 cf_X4_isLetter (mg_3 (List.mem_of_getElem? (i := 188) rfl) rfl) (mg_3 (List.mem_of_getElem? (i := 189) rfl) rfl) c_X4_isLetter (sx_if_eq 115 dX4_advance_105 (by decide) (sx_aload_n dX4_advance_115 rfl (sx_getR dX4_advance_116 fl_FootQuarrel_Reader_9 (fun _ _ _ => rfl) (sx_aload_n dX4_advance_119 rfl (sx_getI dX4_advance_120 fl_FootQuarrel_Reader_60 (fun _ _ _ => rfl) (sx_bald dX4_advance_123 (sx_scall dX4_advance_124 cf_X4_isDigit (mg_3 (List.mem_of_getElem? (i := 195) rfl) rfl) (mg_3 (List.mem_of_getElem? (i := 196) rfl) rfl) c_X4_isDigit (sx_if_eq 137 dX4_advance_127 (by decide) (sx_aload_n dX4_advance_137 rfl (sx_getR dX4_advance_138 fl_FootQuarrel_Reader_9 (fun _ _ _ => rfl) (sx_aload_n dX4_advance_141 rfl (sx_getI dX4_advance_142 fl_FootQuarrel_Reader_60 (fun _ _ _ => rfl) (sx_bald dX4_advance_145 (sx_scall dX4_advance_146 cf_X4_isSign (mg_3 (List.mem_of_getElem? (i := 202) rfl) rfl) (mg_3 (List.mem_of_getElem? (i := 203) rfl) rfl) c_X4_isSign (sx_if_eq 180 dX4_advance_149 (by decide) (b_X4_advance_180) (sx_aload_n dX4_advance_152 rfl (sx_iconst dX4_advance_153 rfl (sx_putI dX4_advance_154 fl_FootQuarrel_Reader_76 (by decide) (fun _ _ _ => rfl) (fun _ => ⟨rfl, rfl⟩) (sx_aload_n dX4_advance_157 rfl (sx_aload_n dX4_advance_158 rfl (sx_getR dX4_advance_159 fl_FootQuarrel_Reader_9 (fun _ _ _ => rfl) (sx_aload_n dX4_advance_162 rfl (sx_getI dX4_advance_163 fl_FootQuarrel_Reader_60 (fun _ _ _ => rfl) (sx_bald dX4_advance_166 (sx_putI dX4_advance_167 fl_FootQuarrel_Reader_66 (by decide) (fun _ _ _ => rfl) (fun _ => ⟨rfl, rfl⟩) (sx_aload_n dX4_advance_170 rfl (sx_dupR dX4_advance_171 (sx_getI dX4_advance_172 fl_FootQuarrel_Reader_44 (fun _ _ _ => rfl) (sx_iconst dX4_advance_175 rfl (sx_iadd dX4_advance_176 (sx_putI dX4_advance_177 fl_FootQuarrel_Reader_44 (by decide) (fun _ _ _ => rfl) (fun _ => ⟨rfl, rfl⟩) (b_X4_advance_180)))))))))))))))))))))))) (sx_aload_n dX4_advance_130 rfl (sx_vcall dX4_advance_131 cf_X4_readNumber (mg_3 (List.mem_of_getElem? (i := 198) rfl) rfl) (mg_3 (List.mem_of_getElem? (i := 200) rfl) rfl) (mg_p (List.mem_of_getElem? (i := 6) rfl) rfl) rfl c_X4_readNumber (sx_goto 180 dX4_advance_134 (by decide) (b_X4_advance_180))))))))))) (sx_aload_n dX4_advance_108 rfl (sx_vcall dX4_advance_109 cf_X4_readWord (mg_3 (List.mem_of_getElem? (i := 191) rfl) rfl) (mg_3 (List.mem_of_getElem? (i := 193) rfl) rfl) (mg_p (List.mem_of_getElem? (i := 5) rfl) rfl) rfl c_X4_readWord (sx_goto 180 dX4_advance_112 (by decide) (b_X4_advance_180))))))))))) (sx_aload_n dX4_advance_85 rfl (sx_iconst dX4_advance_86 rfl (sx_putI dX4_advance_87 fl_FootQuarrel_Reader_76 (by decide) (fun _ _ _ => rfl) (fun _ => ⟨rfl, rfl⟩) (sx_goto 180 dX4_advance_90 (by decide) (b_X4_advance_180))))))))))))))))))))))))))))
def B_X4_advance_5 (l : Launch) (G : GT) (D mc ms : Nat) (Q : Post) : Cn := ix_iload 1 (ix_aload 0 (ix_getI 4 2 (ix_icmp_ge ((B_X4_advance_41 l G D mc ms Q)) (ix_aload 0 (ix_getR 4 0 (ix_iload 1 (ix_bald (ix_call 1 0 0 mc ms (sp_X4_isBlank G) (ix_if_eq ((B_X4_advance_41 l G D mc ms Q)) (ix_aload 0 (ix_dupR (ix_getI 4 3 (ix_pushI 1 (ix_iadd (ix_putI 4 3 (ix_iinc 1 1 (fqAt l G M_X4_advance (D + 2) mc ms Q 5)))))))))))))))))
theorem b_X4_advance_5 {l : Launch} {G : GT} {D mc ms : Nat} {Q : Post} : Imp l G M_X4_advance (D + 2) mc ms Q (B_X4_advance_5 l G D mc ms Q) 5 := sx_iload_n dX4_advance_5 rfl (sx_aload_n dX4_advance_6 rfl (sx_getI dX4_advance_7 fl_FootQuarrel_Reader_41 (fun _ _ _ => rfl) (sx_icmp_ge 41 dX4_advance_10 (by decide) (b_X4_advance_41) (sx_aload_n dX4_advance_13 rfl (sx_getR dX4_advance_14 fl_FootQuarrel_Reader_9 (fun _ _ _ => rfl) (sx_iload_n dX4_advance_17 rfl (sx_bald dX4_advance_18 (sx_scall dX4_advance_19 cf_X4_isBlank (mg_3 (List.mem_of_getElem? (i := 185) rfl) rfl) (mg_3 (List.mem_of_getElem? (i := 186) rfl) rfl) c_X4_isBlank (sx_if_eq 41 dX4_advance_22 (by decide) (b_X4_advance_41) (sx_aload_n dX4_advance_25 rfl (sx_dupR dX4_advance_26 (sx_getI dX4_advance_27 fl_FootQuarrel_Reader_44 (fun _ _ _ => rfl) (sx_iconst dX4_advance_30 rfl (sx_iadd dX4_advance_31 (sx_putI dX4_advance_32 fl_FootQuarrel_Reader_44 (by decide) (fun _ _ _ => rfl) (fun _ => ⟨rfl, rfl⟩) (sx_iinc dX4_advance_35 rfl (by decide) (sx_goto 5 dX4_advance_38 (by decide) ((fun _ _ _ _ _ _ _ _ h => h)))))))))))))))))))
def B_X4_advance_0 (l : Launch) (G : GT) (D mc ms : Nat) (Q : Post) : Cn := ix_aload 0 (ix_getI 4 3 (ix_istore 1 (fqAt l G M_X4_advance (D + 2) mc ms Q 5)))
theorem b_X4_advance_0 {l : Launch} {G : GT} {D mc ms : Nat} {Q : Post} : Imp l G M_X4_advance (D + 2) mc ms Q (B_X4_advance_0 l G D mc ms Q) 0 := sx_aload_n dX4_advance_0 rfl (sx_getI dX4_advance_1 fl_FootQuarrel_Reader_44 (fun _ _ _ => rfl) (sx_istore_n dX4_advance_4 rfl (by decide) ((fun _ _ _ _ _ _ _ _ h => h))))
def sp_X4_advance (G : GT) : Sp := fun as S I J z Q => match as with
  | [.ref R] => ∃ X T n e, R = X + 11 ∧ rdE S I J X T n ∧ I R 2 = nI n ∧ I R 3 = nI e ∧ e ≤ n ∧ ∀ I' J', rdF R I I' J J' → rdH R I' J' T n e → Q none S I' J' z
  | _ => False
set_option maxHeartbeats 4000000 in
set_option maxRecDepth 20000 in
theorem c_X4_advance {l : Launch} {G : GT} {D : Nat} : ∀ as S I J z Q, sp_X4_advance G as S I J z Q → fqCall l G M_X4_advance (D + 2) 0 0 as S I J z Q := by
  intro as S I J z Q h
  unfold sp_X4_advance at h
  split at h
  · next R =>
    obtain ⟨X, T, n, e, rfl, hE, h2, h3, hen, hQ⟩ := h
    have hE0 := hE
    obtain ⟨⟨s1, s2, s3, s4, s5, s6, s7⟩, n9, hT, hJ⟩ := hE
    have le := scX_le (p := fun c => decide (isBl c)) (T := T) hen
    have hfr : tF T n e = scB T n e := rfl
    have fin : ∀ (fr : Nat) (o : Option Value), fr = scB T n e → B_X4_advance_41 l G D 0 0 Q [some (.ref (X + 11)), o] [] S (rdI I (X + 11) (nI fr) (I (X + 11) 4) (I (X + 11) 5) (I (X + 11) 7) (I (X + 11) 8) (I (X + 11) 9)) J z 0 0 := by
      intro fr o he
      have le : e ≤ fr ∧ fr ≤ n := by rw [he]; exact le
      rw [← he] at hfr
      have hC : tC T n e = byA T n fr := by unfold tC; rw [hfr]
      have jf : ∀ v a, a ≠ X + 11 → u2 J (X + 11) 6 v a = J a := fun v a ha => u2_ne ha
      have hq := fun (a b c d f g : Int32) (v : Int64) => hQ (rdI I (X + 11) a b c d f g) (u2 J (X + 11) 6 v) (rdF.i (jf v))
      have ro : ∀ (a b c d f g : Int32) k, rdI I (X + 11) a b c d f g (X + 10) k = I (X + 10) k := fun a b c d f g k => rdI_ok (by omega)
      by_cases hn : fr < n
      · obtain ⟨t1, t2⟩ := hT fr hn
        have bA : byA T n fr = T fr &&& 255 := if_pos hn
        obtain ⟨k1, k2, k3, k4, k5, k6⟩ := by_K t2
        rw [bA] at hC
        have nC : ¬ tC T n e = -1 := by rw [hC]; exact k6
        simp (disch := omega) only [B_X4_advance_41, B_X4_advance_180, sp_X4_isLetter, sp_X4_isDigit, sp_X4_isSign, s1, s2, s4, s5, h2, ro, t1, rdI_2, rdI_3, rdI_7, rdI_u3, rdI_u4, rdI_u5, rdI_u7, rdI_u8, rdI_u9, bI_01, bI_01b, bI_0, nI_1, nI_add, nI_clamp, nI_pin, nI_neg, nI_nonneg, nI_leE, nI_ltE, nI_eqE, Nat.not_le, Nat.not_lt, fq_10, fq_01, fq_rr, ix_aald, ix_aast, ix_abs, ix_alen, ix_aload, ix_aret, ix_astore, ix_bald, ix_bast, ix_call, ix_cpyI, ix_cpyJ, ix_dead, ix_dup2, ix_dup2L, ix_dupI, ix_dupR, ix_dupx1, ix_getI, ix_getJ, ix_getR, ix_gfm, ix_gtab, ix_i2b, ix_i2c, ix_i2l, ix_i2s, ix_iadd, ix_iald, ix_iand, ix_iast, ix_icall, ix_icmp_eq, ix_icmp_ge, ix_icmp_gt, ix_icmp_le, ix_icmp_lt, ix_icmp_ne, ix_idiv, ix_if_eq, ix_if_ge, ix_if_gt, ix_if_le, ix_if_lt, ix_if_ne, ix_iinc, ix_iload, ix_imul, ix_ineg, ix_ior, ix_irem, ix_iret, ix_ishl, ix_ishr, ix_istore, ix_isub, ix_iushr, ix_ixor, ix_l2i, ix_ladd, ix_lald, ix_land, ix_last, ix_lcmp, ix_ldcS, ix_ldiv, ix_lload, ix_lmul, ix_lor, ix_lrem, ix_lret, ix_lshl, ix_lstore, ix_lsub, ix_lsw, ix_max, ix_min, ix_new, ix_newa, ix_nret, ix_oinit, ix_pop2L, ix_popI, ix_pushI, ix_pushL, ix_putI, ix_putJ, ix_putR, ix_putZ, ix_sbald, ix_sgetC, ix_sgetV, ix_slen, ix_strc, ix_tald, ix_tsw, ix_vcall, ix_vret, ix_zret, stL, stL2, kilL, popN, fq_sw, fq_lsw, List.map_cons, List.map_nil, List.getElem?_cons_zero, List.getElem?_cons_succ, Option.toList_some, Option.toList_none, List.cons_append, List.nil_append, List.length_cons, List.length_nil, List.sum_cons, List.sum_nil, cat_i, cat_l, cat_r, true_and, and_true, Nat.zero_add, Nat.add_zero, Nat.le_refl, Nat.zero_le, Nat.reduceAdd, Nat.reduceLeDiff, exists_eq_left', Option.some.injEq, not_true_eq_false, not_false_eq_true, false_implies, true_implies, implies_true, and_self, or_true, true_or, or_false, false_or]
        refine ⟨fun _ => ⟨fun g1 => ⟨fun g2 => ⟨fun g3 => ?_, fun g3 => ?_⟩, fun g2 => ?_⟩, fun g1 => ?_⟩, fun q => absurd hn (by omega)⟩
        · have q1 : ¬ isSm (tC T n e) := by rw [hC]; exact fun r => g1 (k1.mpr r)
          have q2 : ¬ isDg (tC T n e) := by rw [hC]; exact fun r => g2 (k2.mpr r)
          have q3 : ¬ isSg (tC T n e) := by rw [hC]; exact fun r => g3 (k4.mpr r)
          have vK : tK T n e = 1 := by unfold tK; rw [if_neg nC, if_neg q1, if_neg q2, if_neg q3]
          refine hq _ _ _ _ _ _ _ ?_
          unfold rdH
          rw [rdI_2, rdI_3, rdI_4, rdI_5, rdI_7, rdI_8, rdI_9, u2_same, kwI_n (by rw [vK]; decide), vK, hfr]
          exact ⟨h2, rfl, rfl, fun q => absurd rfl q, rfl, rfl, fun q => absurd q (by decide), fun q => absurd q (by decide), fun _ => rfl⟩
        · have g3 := Decidable.not_not.mp g3
          have q1 : ¬ isSm (tC T n e) := by rw [hC]; exact fun r => g1 (k1.mpr r)
          have q2 : ¬ isDg (tC T n e) := by rw [hC]; exact fun r => g2 (k2.mpr r)
          have q3 : isSg (tC T n e) := by rw [hC]; exact k4.mp g3
          have vK : tK T n e = 4 := by unfold tK; rw [if_neg nC, if_neg q1, if_neg q2, if_pos q3]
          have vV : tV T n e = T fr := by
            unfold tV
            rw [if_neg nC, if_neg q1, if_neg q2, hC]
            refine k5 ?_
            rcases g3 with g | g | g | g <;> (rw [g]; decide)
          have vE : tE T n e = fr + 1 := by unfold tE; rw [if_neg nC, if_neg q1, if_neg q2, hfr]
          refine hq _ _ _ _ _ _ _ ?_
          unfold rdH
          rw [rdI_2, rdI_3, rdI_4, rdI_5, rdI_7, rdI_8, rdI_9, u2_same, kwI_n (by rw [vK]; decide), vK, hfr, vV, vE]
          exact ⟨h2, rfl, rfl, fun _ => rfl, rfl, rfl, fun q => absurd q (by decide), fun q => absurd q (by decide), fun _ => rfl⟩
        · have g2 := Decidable.not_not.mp g2
          have q1 : ¬ isSm (tC T n e) := by rw [hC]; exact fun r => g1 (k1.mpr r)
          have q2 : isDg (tC T n e) := by rw [hC]; exact k2.mp g2
          have vE : tE T n e = scD T n fr := by unfold tE; rw [if_neg nC, if_neg q1, if_pos q2, hfr]
          have vK : tK T n e = if 4 < scD T n fr - fr then 1 else 3 := by unfold tK; rw [if_neg nC, if_neg q1, if_pos q2, vE, hfr]
          have vV : tV T n e = dgV T n (n - fr) fr 0 := by unfold tV; rw [if_neg nC, if_neg q1, if_pos q2, hfr]
          refine ⟨X, T, n, fr, rfl, hE0.f (rdF.i (jf 0)), (rdI_2).trans h2, rdI_7, rdI_3, le.2, ?_⟩
          unfold rnI
          simp only [rdI_4, rdI_5, rdI_7, rdI_8, rdI_9]
          have er : ∀ a b c d f g a' b' c' d' f' g' : Int32, rdI (rdI I (X + 11) a b c d f g) (X + 11) a' b' c' d' f' g' = rdI I (X + 11) a' b' c' d' f' g' := by
            intros
            funext q k
            unfold rdI
            grind
          rw [er]
          refine hq _ _ _ _ _ _ _ ?_
          unfold rdH
          rw [rdI_2, rdI_3, rdI_4, rdI_5, rdI_7, rdI_8, rdI_9, u2_same, kwI_n (by rw [vK]; split <;> decide), hfr, vE, vK, vV]
          by_cases g4 : scD T n fr - fr ≤ 4
          · rw [if_pos g4, if_neg (by omega)]
            have hd := dg_e (T := T) (n := n) (fun k hk => (hT k hk).2) (n - fr) fr 0 0 (by decide) (by show 0 + (scD T n fr - fr) ≤ 4; omega)
            exact ⟨h2, rfl, rfl, fun _ => rfl, rfl, rfl, fun _ => hd, fun q => absurd q (by decide), fun _ => rfl⟩
          · rw [if_neg g4, if_pos (by omega)]
            exact ⟨h2, rfl, rfl, fun _ => rfl, rfl, rfl, fun q => absurd q (by decide), fun q => absurd q (by decide), fun _ => rfl⟩
        · have g1 := Decidable.not_not.mp g1
          have q1 : isSm (tC T n e) := by rw [hC]; exact k1.mp g1
          have vE : tE T n e = scS T n fr := by unfold tE; rw [if_neg nC, if_pos q1, hfr]
          have vK : tK T n e = 2 := by unfold tK; rw [if_neg nC, if_pos q1]
          have vM : nmH T n e = nmR T n fr (scS T n fr - fr) 0 := by unfold nmH; rw [hfr, vE]
          have ls := scX_le (p := fun c => decide (isSm c)) (T := T) le.2
          have hW := n5R_e (T := T) (n := n) (f := fr) (m := scS T n fr - fr) (fun t ht => ⟨(hT _ (by unfold scS at ht; omega)).2, by unfold scS at ht; omega, scS_sm ht⟩)
          have hpos : 0 < scS T n fr - fr := by
            have : scS T n fr = scS T n (fr + 1) := by
              unfold scS
              rw [show n - fr = (n - (fr + 1)) + 1 by omega, scn_1, bA, if_pos (decide_eq_true (k1.mp g1))]
            have l2 := scX_le (p := fun c => decide (isSm c)) (T := T) (n := n) (e := fr + 1) (by omega)
            have : fr + 1 ≤ scS T n fr := by rw [this]; exact l2.1
            omega
          have hkw := kw_w (T := T) (n := n) (e := e) vK (fun t ht => by
            rw [hfr, vE] at ht
            rw [hfr]
            have l1 : fr + t < n := by unfold scS at ht; omega
            have b := (hT _ l1).2
            have bA2 : byA T n (fr + t) = T (fr + t) &&& 255 := if_pos l1
            have sm := scS_sm ht
            rw [bA2] at sm
            have := by_L b ((by_K b).1.mpr sm)
            rw [bA2, this.2.2.2.2.2]
            exact this.2.2.2.2.1)
          refine ⟨X, T, n, fr, rfl, hE0.f (rdF.i (jf 0)), (rdI_2).trans h2, rdI_7, rdI_3, rdI_8, u2_same _ _ _ _, le.2, ?_⟩
          unfold rwI
          simp only [rdI_5, rdI_7, rdI_9, u2_u2]
          have er : ∀ a b c d f g a' b' c' d' f' g' : Int32, rdI (rdI I (X + 11) a b c d f g) (X + 11) a' b' c' d' f' g' = rdI I (X + 11) a' b' c' d' f' g' := by
            intros
            funext q k
            unfold rdI
            grind
          rw [er]
          refine hq _ _ _ _ _ _ _ ?_
          unfold rdH
          rw [rdI_2, rdI_3, rdI_4, rdI_5, rdI_7, rdI_8, rdI_9, u2_same, hkw, hfr, vE, vK, vM]
          refine ⟨h2, rfl, rfl, fun _ => rfl, rfl, rfl, fun q => absurd q (by decide), fun _ h8 => ?_, fun q => ?_⟩
          · unfold rwJ
            rw [if_neg (by omega), hW.1, hW.2.1]
            have hl : (wdR T n fr (scS T n fr - fr)).length = scS T n fr - fr := rvL_len (fun k => (byA T n k).toNatClampNeg) fr (scS T n fr - fr)
            refine ⟨⟨_, hW.2.2, by omega, rfl, rfl⟩, fun q => ?_⟩
            have h0 := i64_inj (b := 0) (eR_64 hW.2.2 (by omega)).1 (by decide) q
            have h0 := eR_5 (r' := []) hW.2.2 (fun c hc => by simp at hc) h0
            rw [h0] at hl
            simp at hl
            omega
          · rcases q with q | q
            · exact absurd rfl q
            · unfold rwJ
              rw [if_pos q]
      · have nC : tC T n e = -1 := by rw [hC]; exact byA_o (by omega)
        have vK : tK T n e = 0 := by unfold tK; rw [if_pos nC]
        have vE : tE T n e = fr := by unfold tE; rw [if_pos nC, hfr]
        simp (disch := omega) only [B_X4_advance_41, B_X4_advance_180, s1, s2, s4, s5, h2, rdI_2, rdI_3, rdI_7, rdI_u3, rdI_u4, rdI_u5, rdI_u7, rdI_u8, rdI_u9, bI_01, bI_01b, bI_0, nI_1, nI_add, nI_clamp, nI_pin, nI_neg, nI_nonneg, nI_leE, nI_ltE, nI_eqE, Nat.not_le, Nat.not_lt, fq_10, fq_01, fq_rr, ix_aald, ix_aast, ix_abs, ix_alen, ix_aload, ix_aret, ix_astore, ix_bald, ix_bast, ix_call, ix_cpyI, ix_cpyJ, ix_dead, ix_dup2, ix_dup2L, ix_dupI, ix_dupR, ix_dupx1, ix_getI, ix_getJ, ix_getR, ix_gfm, ix_gtab, ix_i2b, ix_i2c, ix_i2l, ix_i2s, ix_iadd, ix_iald, ix_iand, ix_iast, ix_icall, ix_icmp_eq, ix_icmp_ge, ix_icmp_gt, ix_icmp_le, ix_icmp_lt, ix_icmp_ne, ix_idiv, ix_if_eq, ix_if_ge, ix_if_gt, ix_if_le, ix_if_lt, ix_if_ne, ix_iinc, ix_iload, ix_imul, ix_ineg, ix_ior, ix_irem, ix_iret, ix_ishl, ix_ishr, ix_istore, ix_isub, ix_iushr, ix_ixor, ix_l2i, ix_ladd, ix_lald, ix_land, ix_last, ix_lcmp, ix_ldcS, ix_ldiv, ix_lload, ix_lmul, ix_lor, ix_lrem, ix_lret, ix_lshl, ix_lstore, ix_lsub, ix_lsw, ix_max, ix_min, ix_new, ix_newa, ix_nret, ix_oinit, ix_pop2L, ix_popI, ix_pushI, ix_pushL, ix_putI, ix_putJ, ix_putR, ix_putZ, ix_sbald, ix_sgetC, ix_sgetV, ix_slen, ix_strc, ix_tald, ix_tsw, ix_vcall, ix_vret, ix_zret, stL, stL2, kilL, popN, fq_sw, fq_lsw, List.map_cons, List.map_nil, List.getElem?_cons_zero, List.getElem?_cons_succ, Option.toList_some, Option.toList_none, List.cons_append, List.nil_append, List.length_cons, List.length_nil, List.sum_cons, List.sum_nil, cat_i, cat_l, cat_r, true_and, and_true, Nat.zero_add, Nat.add_zero, Nat.le_refl, Nat.zero_le, Nat.reduceAdd, Nat.reduceLeDiff, exists_eq_left', Option.some.injEq, not_true_eq_false, not_false_eq_true, false_implies, true_implies, implies_true, and_self, or_true, true_or, or_false, false_or]
        refine ⟨fun q => absurd q hn, fun _ => hq _ _ _ _ _ _ _ ?_⟩
        unfold rdH
        rw [rdI_2, rdI_3, rdI_4, rdI_5, rdI_7, rdI_8, rdI_9, u2_same, kwI_n (by rw [vK]; decide), vK, hfr, vE]
        exact ⟨h2, rfl, rfl, fun _ => rfl, rfl, rfl, fun q => absurd q (by decide), fun q => absurd q (by decide), fun _ => rfl⟩
    have lp : ∀ (f i : Nat), i + f = n → e ≤ i → scn (fun c => decide (isBl c)) T n f i = scB T n e → fqAt l G M_X4_advance (D + 2) 0 0 Q 5 [some (.ref (X + 11)), some (.int (nI i))] [] S (rdI I (X + 11) (nI i) (I (X + 11) 4) (I (X + 11) 5) (I (X + 11) 7) (I (X + 11) 8) (I (X + 11) 9)) J z 0 0 := by
      intro f
      induction f with
      | zero =>
        intro i hi hfe hs
        refine b_X4_advance_5 _ _ _ _ _ _ _ _ ?_
        simp (disch := omega) only [B_X4_advance_5, s1, s2, s4, s5, h2, rdI_2, rdI_3, rdI_ok, nI_1, nI_add, nI_clamp, nI_pin, nI_neg, nI_nonneg, nI_leE, nI_ltE, nI_eqE, Nat.not_le, Nat.not_lt, fq_10, fq_01, fq_rr, ix_aald, ix_aast, ix_abs, ix_alen, ix_aload, ix_aret, ix_astore, ix_bald, ix_bast, ix_call, ix_cpyI, ix_cpyJ, ix_dead, ix_dup2, ix_dup2L, ix_dupI, ix_dupR, ix_dupx1, ix_getI, ix_getJ, ix_getR, ix_gfm, ix_gtab, ix_i2b, ix_i2c, ix_i2l, ix_i2s, ix_iadd, ix_iald, ix_iand, ix_iast, ix_icall, ix_icmp_eq, ix_icmp_ge, ix_icmp_gt, ix_icmp_le, ix_icmp_lt, ix_icmp_ne, ix_idiv, ix_if_eq, ix_if_ge, ix_if_gt, ix_if_le, ix_if_lt, ix_if_ne, ix_iinc, ix_iload, ix_imul, ix_ineg, ix_ior, ix_irem, ix_iret, ix_ishl, ix_ishr, ix_istore, ix_isub, ix_iushr, ix_ixor, ix_l2i, ix_ladd, ix_lald, ix_land, ix_last, ix_lcmp, ix_ldcS, ix_ldiv, ix_lload, ix_lmul, ix_lor, ix_lrem, ix_lret, ix_lshl, ix_lstore, ix_lsub, ix_lsw, ix_max, ix_min, ix_new, ix_newa, ix_nret, ix_oinit, ix_pop2L, ix_popI, ix_pushI, ix_pushL, ix_putI, ix_putJ, ix_putR, ix_putZ, ix_sbald, ix_sgetC, ix_sgetV, ix_slen, ix_strc, ix_tald, ix_tsw, ix_vcall, ix_vret, ix_zret, stL, stL2, kilL, popN, fq_sw, fq_lsw, List.map_cons, List.map_nil, List.getElem?_cons_zero, List.getElem?_cons_succ, Option.toList_some, Option.toList_none, List.cons_append, List.nil_append, List.length_cons, List.length_nil, List.sum_cons, List.sum_nil, cat_i, cat_l, cat_r, true_and, and_true, Nat.zero_add, Nat.add_zero, Nat.le_refl, Nat.zero_le, Nat.reduceAdd, Nat.reduceLeDiff, exists_eq_left', Option.some.injEq, not_true_eq_false, not_false_eq_true, false_implies, true_implies, implies_true, and_self, or_true, true_or, or_false, false_or]
        exact ⟨fun _ => fin i _ hs, fun q => absurd q (by omega)⟩
      | succ f ih =>
        intro i hi hfe hs
        obtain ⟨t1, t2⟩ := hT i (by omega)
        have bA : byA T n i = T i &&& 255 := if_pos (by omega)
        have k1 := (by_K t2).2.2.1
        rw [scn_1, bA] at hs
        refine b_X4_advance_5 _ _ _ _ _ _ _ _ ?_
        simp (disch := omega) only [B_X4_advance_5, sp_X4_isBlank, s1, s2, s4, s5, h2, rdI_2, rdI_3, rdI_ok, rdI_u3, t1, bI_01, bI_01b, bI_0, nI_1, nI_add, nI_clamp, nI_pin, nI_neg, nI_nonneg, nI_leE, nI_ltE, nI_eqE, Nat.not_le, Nat.not_lt, fq_10, fq_01, fq_rr, ix_aald, ix_aast, ix_abs, ix_alen, ix_aload, ix_aret, ix_astore, ix_bald, ix_bast, ix_call, ix_cpyI, ix_cpyJ, ix_dead, ix_dup2, ix_dup2L, ix_dupI, ix_dupR, ix_dupx1, ix_getI, ix_getJ, ix_getR, ix_gfm, ix_gtab, ix_i2b, ix_i2c, ix_i2l, ix_i2s, ix_iadd, ix_iald, ix_iand, ix_iast, ix_icall, ix_icmp_eq, ix_icmp_ge, ix_icmp_gt, ix_icmp_le, ix_icmp_lt, ix_icmp_ne, ix_idiv, ix_if_eq, ix_if_ge, ix_if_gt, ix_if_le, ix_if_lt, ix_if_ne, ix_iinc, ix_iload, ix_imul, ix_ineg, ix_ior, ix_irem, ix_iret, ix_ishl, ix_ishr, ix_istore, ix_isub, ix_iushr, ix_ixor, ix_l2i, ix_ladd, ix_lald, ix_land, ix_last, ix_lcmp, ix_ldcS, ix_ldiv, ix_lload, ix_lmul, ix_lor, ix_lrem, ix_lret, ix_lshl, ix_lstore, ix_lsub, ix_lsw, ix_max, ix_min, ix_new, ix_newa, ix_nret, ix_oinit, ix_pop2L, ix_popI, ix_pushI, ix_pushL, ix_putI, ix_putJ, ix_putR, ix_putZ, ix_sbald, ix_sgetC, ix_sgetV, ix_slen, ix_strc, ix_tald, ix_tsw, ix_vcall, ix_vret, ix_zret, stL, stL2, kilL, popN, fq_sw, fq_lsw, List.map_cons, List.map_nil, List.getElem?_cons_zero, List.getElem?_cons_succ, Option.toList_some, Option.toList_none, List.cons_append, List.nil_append, List.length_cons, List.length_nil, List.sum_cons, List.sum_nil, cat_i, cat_l, cat_r, true_and, and_true, Nat.zero_add, Nat.add_zero, Nat.le_refl, Nat.zero_le, Nat.reduceAdd, Nat.reduceLeDiff, exists_eq_left', Option.some.injEq, not_true_eq_false, not_false_eq_true, false_implies, true_implies, implies_true, and_self, or_true, true_or, or_false, false_or]
        refine ⟨fun q => absurd q (by omega), fun _ => ⟨fun q => ?_, fun q => ?_⟩⟩
        · have q2 : ¬ isBl (T i &&& 255) := fun r => q (k1.mpr r)
          rw [if_neg (by simpa using q2)] at hs
          exact fin i _ hs
        · have q2 : isBl (T i &&& 255) := k1.mp (Decidable.not_not.mp q)
          rw [if_pos (decide_eq_true q2)] at hs
          exact ih (i + 1) (by omega) (by omega) hs
    refine fq_enter [some (.ref (X + 11)), none] (by decide +kernel) (Nat.le_of_ble_eq_true rfl) rfl (b_X4_advance_0 _ _ _ _ _ _ _ _ ?_)
    simp (disch := omega) only [B_X4_advance_0, s1, h3, nI_1, nI_add, nI_clamp, nI_pin, nI_neg, nI_nonneg, nI_leE, nI_ltE, nI_eqE, Nat.not_le, Nat.not_lt, fq_10, fq_01, fq_rr, ix_aald, ix_aast, ix_abs, ix_alen, ix_aload, ix_aret, ix_astore, ix_bald, ix_bast, ix_call, ix_cpyI, ix_cpyJ, ix_dead, ix_dup2, ix_dup2L, ix_dupI, ix_dupR, ix_dupx1, ix_getI, ix_getJ, ix_getR, ix_gfm, ix_gtab, ix_i2b, ix_i2c, ix_i2l, ix_i2s, ix_iadd, ix_iald, ix_iand, ix_iast, ix_icall, ix_icmp_eq, ix_icmp_ge, ix_icmp_gt, ix_icmp_le, ix_icmp_lt, ix_icmp_ne, ix_idiv, ix_if_eq, ix_if_ge, ix_if_gt, ix_if_le, ix_if_lt, ix_if_ne, ix_iinc, ix_iload, ix_imul, ix_ineg, ix_ior, ix_irem, ix_iret, ix_ishl, ix_ishr, ix_istore, ix_isub, ix_iushr, ix_ixor, ix_l2i, ix_ladd, ix_lald, ix_land, ix_last, ix_lcmp, ix_ldcS, ix_ldiv, ix_lload, ix_lmul, ix_lor, ix_lrem, ix_lret, ix_lshl, ix_lstore, ix_lsub, ix_lsw, ix_max, ix_min, ix_new, ix_newa, ix_nret, ix_oinit, ix_pop2L, ix_popI, ix_pushI, ix_pushL, ix_putI, ix_putJ, ix_putR, ix_putZ, ix_sbald, ix_sgetC, ix_sgetV, ix_slen, ix_strc, ix_tald, ix_tsw, ix_vcall, ix_vret, ix_zret, stL, stL2, kilL, popN, fq_sw, fq_lsw, List.map_cons, List.map_nil, List.getElem?_cons_zero, List.getElem?_cons_succ, Option.toList_some, Option.toList_none, List.cons_append, List.nil_append, List.length_cons, List.length_nil, List.sum_cons, List.sum_nil, cat_i, cat_l, cat_r, true_and, and_true, Nat.zero_add, Nat.add_zero, Nat.le_refl, Nat.zero_le, Nat.reduceAdd, Nat.reduceLeDiff, exists_eq_left', Option.some.injEq, not_true_eq_false, not_false_eq_true, false_implies, true_implies, implies_true, and_self, or_true, true_or, or_false, false_or]
    have := lp (n - e) e (by omega) (by omega) rfl
    rw [← h3, rdI_id, h3] at this
    exact this
  · exact h.elim
