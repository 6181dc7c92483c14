/-! a street's text of the class, whole -/
def CEX (X s t : Nat) (I : IH) (J : JH) (T : Nat → Int32) (n : Nat) (x : PR) (Q1 Q0 : IH → JH → Prop) : Prop := match x with
  | .inl f => ∀ I' J', csF X s t I I' J J' → I' (X + 11) 10 = f.1 → I' (X + 11) 11 = nI f.2 → Q0 I' J'
  | .inr σ => ∀ I' J', csF X s t I I' J J' → stH X s I' J' T n σ → Q1 I' J'
theorem CEX.fx {X s t : Nat} {I I1 I2 : IH} {J J2 : JH} {T : Nat → Int32} {n e : Nat} {k : Int32} {Q1 Q0 : IH → JH → Prop} (h : CEX X s t I J T n (pE T n k e) Q1 Q0) (hF : csF X s t I I2 J J2) (e2 : I2 (X + 11) = rej I1 X T n e k (X + 11)) : Q0 I2 J2 := by
  refine h _ _ hF ?_ ?_
  · rw [e2]
    unfold rej
    rw [u2_ck _ _ _ _ _ _ (by omega), u2_same]
  · rw [e2]
    unfold rej
    rw [u2_same]
theorem tp_u : ∀ m, m < 64 → ∀ j, j < 6 → (m ||| 1 <<< j) < 64 ∧ nI m ||| 1 <<< (nI j &&& 31) = nI (m ||| 1 <<< j) ∧ ∀ b, b < 3 → nI (m ||| 1 <<< j) >>> (nI b &&& 31) &&& 1 = if b = j then 1 else nI m >>> (nI b &&& 31) &&& 1 := by decide +kernel
theorem tp_b : ∀ m, m < 64 → ∀ b, b < 3 → (nI m >>> (nI b &&& 31) &&& 1 = 0 ∨ nI m >>> (nI b &&& 31) &&& 1 = 1) := by decide +kernel
/-- what is told, as the text holds it -/
def tpR (tp : Int32) (F : Nat → Int32) : Prop := ∃ m, m < 64 ∧ tp = nI m ∧ ∀ b, b < 3 → F (2 + b) = nI m >>> (nI b &&& 31) &&& 1
theorem wk_s0 : ∀ x, kwK x → ((wk x).toInt = 0 → x = 0) ∧ ((wk x).toInt = 0 + 1 → x = 1) ∧ ((wk x).toInt = 0 + 1 + 1 → x = 2) ∧ ((wk x).toInt = 0 + 1 + 1 + 1 → x = 3) := by
  have h : ∀ j, j < 24 → ((wk (nI j)).toInt = 0 → (nI j) = 0) ∧ ((wk (nI j)).toInt = 0 + 1 → (nI j) = 1) ∧ ((wk (nI j)).toInt = 0 + 1 + 1 → (nI j) = 2) ∧ ((wk (nI j)).toInt = 0 + 1 + 1 + 1 → (nI j) = 3) := by decide +kernel
  rintro x (rfl | ⟨j, hj, rfl⟩)
  · decide +kernel
  · exact h j hj
theorem wk_s1 : ∀ x, kwK x → ((wk x).toInt = 0 + 1 + 1 + 1 + 1 + 1 → x = 4) ∧ ((wk x).toInt = 0 + 1 + 1 + 1 + 1 + 1 + 1 + 1 + 1 + 1 + 1 + 1 → x = 5) := by
  have h : ∀ j, j < 24 → ((wk (nI j)).toInt = 0 + 1 + 1 + 1 + 1 + 1 → (nI j) = 4) ∧ ((wk (nI j)).toInt = 0 + 1 + 1 + 1 + 1 + 1 + 1 + 1 + 1 + 1 + 1 + 1 → (nI j) = 5) := by decide +kernel
  rintro x (rfl | ⟨j, hj, rfl⟩)
  · decide +kernel
  · exact h j hj
theorem wk_s2 : ∀ x, kwK x → (((wk x).toInt = 4 ∨ (wk x).toInt = 6 ∨ (wk x).toInt = 7 ∨ (wk x).toInt = 8 ∨ (wk x).toInt = 9 ∨ (wk x).toInt = 10) → (x < 0 ∨ 5 < x)) := by
  have h : ∀ j, j < 24 → (((wk (nI j)).toInt = 4 ∨ (wk (nI j)).toInt = 6 ∨ (wk (nI j)).toInt = 7 ∨ (wk (nI j)).toInt = 8 ∨ (wk (nI j)).toInt = 9 ∨ (wk (nI j)).toInt = 10) → ((nI j) < 0 ∨ 5 < (nI j))) := by decide +kernel
  rintro x (rfl | ⟨j, hj, rfl⟩)
  · decide +kernel
  · exact h j hj
theorem wk_s3 : ∀ x, kwK x → ((¬ (wk x).toInt = 0 ∧ ¬ (wk x).toInt = 1 ∧ ¬ (wk x).toInt = 2 ∧ ¬ (wk x).toInt = 3 ∧ ¬ (wk x).toInt = 5 ∧ ¬ (wk x).toInt = 11) → (x < 0 ∨ 5 < x)) := by
  have h : ∀ j, j < 24 → ((¬ (wk (nI j)).toInt = 0 ∧ ¬ (wk (nI j)).toInt = 1 ∧ ¬ (wk (nI j)).toInt = 2 ∧ ¬ (wk (nI j)).toInt = 3 ∧ ¬ (wk (nI j)).toInt = 5 ∧ ¬ (wk (nI j)).toInt = 11) → ((nI j) < 0 ∨ 5 < (nI j))) := by decide +kernel
  rintro x (rfl | ⟨j, hj, rfl⟩)
  · decide +kernel
  · exact h j hj
theorem dX7_take_0 : decode cX7_take 0 = .ok (.aload_n 0, 1) := by decide +kernel
theorem dX7_take_1 : decode cX7_take 1 = .ok (.getfield 15, 3) := by decide +kernel
theorem dX7_take_4 : decode cX7_take 4 = .ok (.invokevirtual 19, 3) := by decide +kernel
theorem dX7_take_7 : decode cX7_take 7 = .ok (.aload_n 0, 1) := by decide +kernel
theorem dX7_take_8 : decode cX7_take 8 = .ok (.getfield 9, 3) := by decide +kernel
theorem dX7_take_11 : decode cX7_take 11 = .ok (.iload_n 1, 1) := by decide +kernel
theorem dX7_take_12 : decode cX7_take 12 = .ok (.invokevirtual 24, 3) := by decide +kernel
theorem dX7_take_15 : decode cX7_take 15 = .ok (.iconst 0, 1) := by decide +kernel
theorem dX7_take_16 : decode cX7_take 16 = .ok (.istore_n 2, 1) := by decide +kernel
theorem dX7_take_17 : decode cX7_take 17 = .ok (.iload_n 2, 1) := by decide +kernel
theorem dX7_take_18 : decode cX7_take 18 = .ok (.sipush 900, 3) := by decide +kernel
theorem dX7_take_21 : decode cX7_take 21 = .ok (.if_icmp .ge 162, 3) := by decide +kernel
theorem dX7_take_24 : decode cX7_take 24 = .ok (.aload_n 0, 1) := by decide +kernel
theorem dX7_take_25 : decode cX7_take 25 = .ok (.getfield 9, 3) := by decide +kernel
theorem dX7_take_28 : decode cX7_take 28 = .ok (.invokevirtual 30, 3) := by decide +kernel
theorem dX7_take_31 : decode cX7_take 31 = .ok (.ifCond .ne 152, 3) := by decide +kernel
theorem dX7_take_34 : decode cX7_take 34 = .ok (.aload_n 0, 1) := by decide +kernel
theorem dX7_take_35 : decode cX7_take 35 = .ok (.getfield 9, 3) := by decide +kernel
theorem dX7_take_38 : decode cX7_take 38 = .ok (.getfield 34, 3) := by decide +kernel
theorem dX7_take_41 : decode cX7_take 41 = .ok (.tableswitch 111 0 11 #[63, 71, 79, 87, 111, 95, 111, 111, 111, 111, 111, 103], 63) := by decide +kernel
theorem dX7_take_104 : decode cX7_take 104 = .ok (.aload_n 0, 1) := by decide +kernel
theorem dX7_take_105 : decode cX7_take 105 = .ok (.invokevirtual 38, 3) := by decide +kernel
theorem dX7_take_108 : decode cX7_take 108 = .ok (.istore_n 3, 1) := by decide +kernel
theorem dX7_take_109 : decode cX7_take 109 = .ok (.goto 52, 3) := by decide +kernel
theorem dX7_take_112 : decode cX7_take 112 = .ok (.aload_n 0, 1) := by decide +kernel
theorem dX7_take_113 : decode cX7_take 113 = .ok (.invokevirtual 41, 3) := by decide +kernel
theorem dX7_take_116 : decode cX7_take 116 = .ok (.istore_n 3, 1) := by decide +kernel
theorem dX7_take_117 : decode cX7_take 117 = .ok (.goto 44, 3) := by decide +kernel
theorem dX7_take_120 : decode cX7_take 120 = .ok (.aload_n 0, 1) := by decide +kernel
theorem dX7_take_121 : decode cX7_take 121 = .ok (.invokevirtual 44, 3) := by decide +kernel
theorem dX7_take_124 : decode cX7_take 124 = .ok (.istore_n 3, 1) := by decide +kernel
theorem dX7_take_125 : decode cX7_take 125 = .ok (.goto 36, 3) := by decide +kernel
theorem dX7_take_128 : decode cX7_take 128 = .ok (.aload_n 0, 1) := by decide +kernel
theorem dX7_take_129 : decode cX7_take 129 = .ok (.invokevirtual 47, 3) := by decide +kernel
theorem dX7_take_132 : decode cX7_take 132 = .ok (.istore_n 3, 1) := by decide +kernel
theorem dX7_take_133 : decode cX7_take 133 = .ok (.goto 28, 3) := by decide +kernel
theorem dX7_take_136 : decode cX7_take 136 = .ok (.aload_n 0, 1) := by decide +kernel
theorem dX7_take_137 : decode cX7_take 137 = .ok (.invokevirtual 50, 3) := by decide +kernel
theorem dX7_take_140 : decode cX7_take 140 = .ok (.istore_n 3, 1) := by decide +kernel
theorem dX7_take_141 : decode cX7_take 141 = .ok (.goto 20, 3) := by decide +kernel
theorem dX7_take_144 : decode cX7_take 144 = .ok (.aload_n 0, 1) := by decide +kernel
theorem dX7_take_145 : decode cX7_take 145 = .ok (.invokevirtual 53, 3) := by decide +kernel
theorem dX7_take_148 : decode cX7_take 148 = .ok (.istore_n 3, 1) := by decide +kernel
theorem dX7_take_149 : decode cX7_take 149 = .ok (.goto 12, 3) := by decide +kernel
theorem dX7_take_152 : decode cX7_take 152 = .ok (.aload_n 0, 1) := by decide +kernel
theorem dX7_take_153 : decode cX7_take 153 = .ok (.getfield 9, 3) := by decide +kernel
theorem dX7_take_156 : decode cX7_take 156 = .ok (.iconst 2, 1) := by decide +kernel
theorem dX7_take_157 : decode cX7_take 157 = .ok (.invokevirtual 56, 3) := by decide +kernel
theorem dX7_take_160 : decode cX7_take 160 = .ok (.istore_n 3, 1) := by decide +kernel
theorem dX7_take_161 : decode cX7_take 161 = .ok (.iload_n 3, 1) := by decide +kernel
theorem dX7_take_162 : decode cX7_take 162 = .ok (.ifCond .eq 13, 3) := by decide +kernel
theorem dX7_take_165 : decode cX7_take 165 = .ok (.aload_n 0, 1) := by decide +kernel
theorem dX7_take_166 : decode cX7_take 166 = .ok (.getfield 9, 3) := by decide +kernel
theorem dX7_take_169 : decode cX7_take 169 = .ok (.invokevirtual 60, 3) := by decide +kernel
theorem dX7_take_172 : decode cX7_take 172 = .ok (.ifCond .ne 5, 3) := by decide +kernel
theorem dX7_take_175 : decode cX7_take 175 = .ok (.iconst 0, 1) := by decide +kernel
theorem dX7_take_176 : decode cX7_take 176 = .ok (.ireturn, 1) := by decide +kernel
theorem dX7_take_177 : decode cX7_take 177 = .ok (.iinc 2 1, 3) := by decide +kernel
theorem dX7_take_180 : decode cX7_take 180 = .ok (.goto (-163), 3) := by decide +kernel
theorem dX7_take_183 : decode cX7_take 183 = .ok (.iconst 1, 1) := by decide +kernel
theorem dX7_take_184 : decode cX7_take 184 = .ok (.ireturn, 1) := by decide +kernel
abbrev M_X7_take : MT := (yX7_take, cX7_take, 4, (some .boolean))
theorem cf_X7_take : fq_cf M_X7_take 1 := ⟨(mg_1 (List.mem_of_getElem? (i := 17) rfl) rfl), (mg_3 (List.mem_of_getElem? (i := 172) rfl) rfl), ⟨by decide, by decide, by decide +kernel⟩, by decide⟩
def B_X7_take_183 (l : Launch) (G : GT) (D mc ms : Nat) (Q : Post) : Cn := ix_pushI 1 (ix_zret mc ms Q)
theorem b_X7_take_183 {l : Launch} {G : GT} {D mc ms : Nat} {Q : Post} : Imp l G M_X7_take (D + 6) mc ms Q (B_X7_take_183 l G D mc ms Q) 183 := sx_iconst dX7_take_183 rfl (sx_zret dX7_take_184 rfl)
def B_X7_take_175 (l : Launch) (G : GT) (D mc ms : Nat) (Q : Post) : Cn := ix_pushI 0 (ix_zret mc ms Q)
theorem b_X7_take_175 {l : Launch} {G : GT} {D mc ms : Nat} {Q : Post} : Imp l G M_X7_take (D + 6) mc ms Q (B_X7_take_175 l G D mc ms Q) 175 := sx_iconst dX7_take_175 rfl (sx_zret dX7_take_176 rfl)
def B_X7_take_172 (l : Launch) (G : GT) (D mc ms : Nat) (Q : Post) : Cn := ix_if_ne (ix_iinc 2 1 (fqAt l G M_X7_take (D + 6) mc ms Q 17)) ((B_X7_take_175 l G D mc ms Q))
theorem b_X7_take_172 {l : Launch} {G : GT} {D mc ms : Nat} {Q : Post} : Imp l G M_X7_take (D + 6) mc ms Q (B_X7_take_172 l G D mc ms Q) 172 := sx_if_ne 177 dX7_take_172 (by decide) (sx_iinc dX7_take_177 rfl (by decide) (sx_goto 17 dX7_take_180 (by decide) ((fun _ _ _ _ _ _ _ _ h => h)))) (b_X7_take_175)
def B_X7_take_161 (l : Launch) (G : GT) (D mc ms : Nat) (Q : Post) : Cn := ix_iload 3 (ix_if_eq ((B_X7_take_175 l G D mc ms Q)) (ix_aload 0 (ix_getR 7 0 (ix_vcall 4 1 0 0 mc ms (sp_X4_takeStop G) ((B_X7_take_172 l G D mc ms Q))))))
theorem b_X7_take_161 {l : Launch} {G : GT} {D mc ms : Nat} {Q : Post} : Imp l G M_X7_take (D + 6) mc ms Q (B_X7_take_161 l G D mc ms Q) 161 := sx_iload_n dX7_take_161 rfl (sx_if_eq 175 dX7_take_162 (by decide) (b_X7_take_175) (sx_aload_n dX7_take_165 rfl (sx_getR dX7_take_166 fl_FootQuarrel_StreetText_9 (fun _ _ _ => rfl) (sx_vcall dX7_take_169 cf_X4_takeStop (mg_4 (List.mem_of_getElem? (i := 64) rfl) rfl) (mg_4 (List.mem_of_getElem? (i := 65) rfl) rfl) (mg_4 (List.mem_of_getElem? (i := 66) rfl) rfl) rfl c_X4_takeStop (b_X7_take_172)))))
def B_X7_take_160 (l : Launch) (G : GT) (D mc ms : Nat) (Q : Post) : Cn := ix_istore 3 ((B_X7_take_161 l G D mc ms Q))
theorem b_X7_take_160 {l : Launch} {G : GT} {D mc ms : Nat} {Q : Post} : Imp l G M_X7_take (D + 6) mc ms Q (B_X7_take_160 l G D mc ms Q) 160 := sx_istore_n dX7_take_160 rfl (by decide) (b_X7_take_161)
def B_X7_take_152 (l : Launch) (G : GT) (D mc ms : Nat) (Q : Post) : Cn := ix_aload 0 (ix_getR 7 0 (ix_pushI 2 (ix_vcall 4 2 0 0 mc ms (sp_X4_reject G) ((B_X7_take_160 l G D mc ms Q)))))
theorem b_X7_take_152 {l : Launch} {G : GT} {D mc ms : Nat} {Q : Post} : Imp l G M_X7_take (D + 6) mc ms Q (B_X7_take_152 l G D mc ms Q) 152 := sx_aload_n dX7_take_152 rfl (sx_getR dX7_take_153 fl_FootQuarrel_StreetText_9 (fun _ _ _ => rfl) (sx_iconst dX7_take_156 rfl (sx_vcall dX7_take_157 cf_X4_reject (mg_3 (List.mem_of_getElem? (i := 216) rfl) rfl) (mg_3 (List.mem_of_getElem? (i := 217) rfl) rfl) (mg_3 (List.mem_of_getElem? (i := 218) rfl) rfl) rfl c_X4_reject (b_X7_take_160))))
def B_X7_take_148 (l : Launch) (G : GT) (D mc ms : Nat) (Q : Post) : Cn := ix_istore 3 ((B_X7_take_161 l G D mc ms Q))
theorem b_X7_take_148 {l : Launch} {G : GT} {D mc ms : Nat} {Q : Post} : Imp l G M_X7_take (D + 6) mc ms Q (B_X7_take_148 l G D mc ms Q) 148 := sx_istore_n dX7_take_148 rfl (by decide) (sx_goto 161 dX7_take_149 (by decide) (b_X7_take_161))
def B_X7_take_140 (l : Launch) (G : GT) (D mc ms : Nat) (Q : Post) : Cn := ix_istore 3 ((B_X7_take_161 l G D mc ms Q))
theorem b_X7_take_140 {l : Launch} {G : GT} {D mc ms : Nat} {Q : Post} : Imp l G M_X7_take (D + 6) mc ms Q (B_X7_take_140 l G D mc ms Q) 140 := sx_istore_n dX7_take_140 rfl (by decide) (sx_goto 161 dX7_take_141 (by decide) (b_X7_take_161))
def B_X7_take_132 (l : Launch) (G : GT) (D mc ms : Nat) (Q : Post) : Cn := ix_istore 3 ((B_X7_take_161 l G D mc ms Q))
theorem b_X7_take_132 {l : Launch} {G : GT} {D mc ms : Nat} {Q : Post} : Imp l G M_X7_take (D + 6) mc ms Q (B_X7_take_132 l G D mc ms Q) 132 := sx_istore_n dX7_take_132 rfl (by decide) (sx_goto 161 dX7_take_133 (by decide) (b_X7_take_161))
def B_X7_take_124 (l : Launch) (G : GT) (D mc ms : Nat) (Q : Post) : Cn := ix_istore 3 ((B_X7_take_161 l G D mc ms Q))
theorem b_X7_take_124 {l : Launch} {G : GT} {D mc ms : Nat} {Q : Post} : Imp l G M_X7_take (D + 6) mc ms Q (B_X7_take_124 l G D mc ms Q) 124 := sx_istore_n dX7_take_124 rfl (by decide) (sx_goto 161 dX7_take_125 (by decide) (b_X7_take_161))
def B_X7_take_116 (l : Launch) (G : GT) (D mc ms : Nat) (Q : Post) : Cn := ix_istore 3 ((B_X7_take_161 l G D mc ms Q))
theorem b_X7_take_116 {l : Launch} {G : GT} {D mc ms : Nat} {Q : Post} : Imp l G M_X7_take (D + 6) mc ms Q (B_X7_take_116 l G D mc ms Q) 116 := sx_istore_n dX7_take_116 rfl (by decide) (sx_goto 161 dX7_take_117 (by decide) (b_X7_take_161))
def B_X7_take_108 (l : Launch) (G : GT) (D mc ms : Nat) (Q : Post) : Cn := ix_istore 3 ((B_X7_take_161 l G D mc ms Q))
theorem b_X7_take_108 {l : Launch} {G : GT} {D mc ms : Nat} {Q : Post} : Imp l G M_X7_take (D + 6) mc ms Q (B_X7_take_108 l G D mc ms Q) 108 := sx_istore_n dX7_take_108 rfl (by decide) (sx_goto 161 dX7_take_109 (by decide) (b_X7_take_161))
def B_X7_take_31 (l : Launch) (G : GT) (D mc ms : Nat) (Q : Post) : Cn := ix_if_ne ((B_X7_take_183 l G D mc ms Q)) (ix_aload 0 (ix_getR 7 0 (ix_getI 4 8 (ix_tsw 0 [ix_aload 0 (ix_vcall 7 1 0 0 mc ms (sp_X7_takeFoot G) ((B_X7_take_108 l G D mc ms Q))), ix_aload 0 (ix_vcall 7 1 0 0 mc ms (sp_X7_takeCalm G) ((B_X7_take_116 l G D mc ms Q))), ix_aload 0 (ix_vcall 7 1 0 0 mc ms (sp_X7_takeOdds G) ((B_X7_take_124 l G D mc ms Q))), ix_aload 0 (ix_vcall 7 1 0 0 mc ms (sp_X7_takeHouse G) ((B_X7_take_132 l G D mc ms Q))), (B_X7_take_152 l G D mc ms Q), ix_aload 0 (ix_vcall 7 1 0 0 mc ms (sp_X7_takePerson G) ((B_X7_take_140 l G D mc ms Q))), (B_X7_take_152 l G D mc ms Q), (B_X7_take_152 l G D mc ms Q), (B_X7_take_152 l G D mc ms Q), (B_X7_take_152 l G D mc ms Q), (B_X7_take_152 l G D mc ms Q), ix_aload 0 (ix_vcall 7 1 0 0 mc ms (sp_X7_takePeace G) ((B_X7_take_148 l G D mc ms Q)))] ((B_X7_take_152 l G D mc ms Q))))))
theorem b_X7_take_31 {l : Launch} {G : GT} {D mc ms : Nat} {Q : Post} : Imp l G M_X7_take (D + 6) mc ms Q (B_X7_take_31 l G D mc ms Q) 31 := sx_if_ne 183 dX7_take_31 (by decide) (b_X7_take_183) (sx_aload_n dX7_take_34 rfl (sx_getR dX7_take_35 fl_FootQuarrel_StreetText_9 (fun _ _ _ => rfl) (sx_getI dX7_take_38 fl_FootQuarrel_StreetText_34 (fun _ _ _ => rfl) (sx_tswA [104, 112, 120, 128, 152, 136, 152, 152, 152, 152, 152, 144] 152 dX7_take_41 rfl (by decide) (by decide) (by decide) ⟨sx_aload_n dX7_take_104 rfl (sx_vcall dX7_take_105 cf_X7_takeFoot (mg_3 (List.mem_of_getElem? (i := 212) rfl) rfl) (mg_3 (List.mem_of_getElem? (i := 214) rfl) rfl) (mg_p (List.mem_of_getElem? (i := 7) rfl) rfl) rfl c_X7_takeFoot (b_X7_take_108)), ⟨sx_aload_n dX7_take_112 rfl (sx_vcall dX7_take_113 cf_X7_takeCalm (mg_3 (List.mem_of_getElem? (i := 227) rfl) rfl) (mg_3 (List.mem_of_getElem? (i := 229) rfl) rfl) (mg_p (List.mem_of_getElem? (i := 8) rfl) rfl) rfl c_X7_takeCalm (b_X7_take_116)), ⟨sx_aload_n dX7_take_120 rfl (sx_vcall dX7_take_121 cf_X7_takeOdds (mg_3 (List.mem_of_getElem? (i := 231) rfl) rfl) (mg_3 (List.mem_of_getElem? (i := 233) rfl) rfl) (mg_p (List.mem_of_getElem? (i := 9) rfl) rfl) rfl c_X7_takeOdds (b_X7_take_124)), ⟨sx_aload_n dX7_take_128 rfl (sx_vcall dX7_take_129 cf_X7_takeHouse (mg_3 (List.mem_of_getElem? (i := 235) rfl) rfl) (mg_3 (List.mem_of_getElem? (i := 237) rfl) rfl) (mg_p (List.mem_of_getElem? (i := 10) rfl) rfl) rfl c_X7_takeHouse (b_X7_take_132)), ⟨b_X7_take_152, ⟨sx_aload_n dX7_take_136 rfl (sx_vcall dX7_take_137 cf_X7_takePerson (mg_4 (List.mem_of_getElem? (i := 23) rfl) rfl) (mg_4 (List.mem_of_getElem? (i := 25) rfl) rfl) (mg_p (List.mem_of_getElem? (i := 12) rfl) rfl) rfl c_X7_takePerson (b_X7_take_140)), ⟨b_X7_take_152, ⟨b_X7_take_152, ⟨b_X7_take_152, ⟨b_X7_take_152, ⟨b_X7_take_152, ⟨sx_aload_n dX7_take_144 rfl (sx_vcall dX7_take_145 cf_X7_takePeace (mg_4 (List.mem_of_getElem? (i := 55) rfl) rfl) (mg_4 (List.mem_of_getElem? (i := 57) rfl) rfl) (mg_p (List.mem_of_getElem? (i := 15) rfl) rfl) rfl c_X7_takePeace (b_X7_take_148)), trivial⟩⟩⟩⟩⟩⟩⟩⟩⟩⟩⟩⟩ (b_X7_take_152)))))
def B_X7_take_17 (l : Launch) (G : GT) (D mc ms : Nat) (Q : Post) : Cn := ix_iload 2 (ix_pushI 900 (ix_icmp_ge ((B_X7_take_183 l G D mc ms Q)) (ix_aload 0 (ix_getR 7 0 (ix_vcall 4 1 0 0 mc ms (sp_X4_isAtEnd G) ((B_X7_take_31 l G D mc ms Q)))))))
theorem b_X7_take_17 {l : Launch} {G : GT} {D mc ms : Nat} {Q : Post} : Imp l G M_X7_take (D + 6) mc ms Q (B_X7_take_17 l G D mc ms Q) 17 := sx_iload_n dX7_take_17 rfl (sx_sipush dX7_take_18 rfl (sx_icmp_ge 183 dX7_take_21 (by decide) (b_X7_take_183) (sx_aload_n dX7_take_24 rfl (sx_getR dX7_take_25 fl_FootQuarrel_StreetText_9 (fun _ _ _ => rfl) (sx_vcall dX7_take_28 cf_X4_isAtEnd (mg_3 (List.mem_of_getElem? (i := 208) rfl) rfl) (mg_3 (List.mem_of_getElem? (i := 209) rfl) rfl) (mg_3 (List.mem_of_getElem? (i := 210) rfl) rfl) rfl c_X4_isAtEnd (b_X7_take_31))))))
def B_X7_take_15 (l : Launch) (G : GT) (D mc ms : Nat) (Q : Post) : Cn := ix_pushI 0 (ix_istore 2 (fqAt l G M_X7_take (D + 6) mc ms Q 17))
theorem b_X7_take_15 {l : Launch} {G : GT} {D mc ms : Nat} {Q : Post} : Imp l G M_X7_take (D + 6) mc ms Q (B_X7_take_15 l G D mc ms Q) 15 := sx_iconst dX7_take_15 rfl (sx_istore_n dX7_take_16 rfl (by decide) ((fun _ _ _ _ _ _ _ _ h => h)))
def B_X7_take_7 (l : Launch) (G : GT) (D mc ms : Nat) (Q : Post) : Cn := ix_aload 0 (ix_getR 7 0 (ix_iload 1 (ix_vcall 4 2 0 0 mc ms (sp_X4_begin G) ((B_X7_take_15 l G D mc ms Q)))))
theorem b_X7_take_7 {l : Launch} {G : GT} {D mc ms : Nat} {Q : Post} : Imp l G M_X7_take (D + 6) mc ms Q (B_X7_take_7 l G D mc ms Q) 7 := sx_aload_n dX7_take_7 rfl (sx_getR dX7_take_8 fl_FootQuarrel_StreetText_9 (fun _ _ _ => rfl) (sx_iload_n dX7_take_11 rfl (sx_vcall dX7_take_12 cf_X4_begin (mg_3 (List.mem_of_getElem? (i := 174) rfl) rfl) (mg_3 (List.mem_of_getElem? (i := 175) rfl) rfl) (mg_3 (List.mem_of_getElem? (i := 176) rfl) rfl) rfl c_X4_begin (b_X7_take_15))))
def B_X7_take_0 (l : Launch) (G : GT) (D mc ms : Nat) (Q : Post) : Cn := ix_aload 0 (ix_getR 7 1 (ix_vcall 6 1 0 0 mc ms (sp_X6_clear G) ((B_X7_take_7 l G D mc ms Q))))
theorem b_X7_take_0 {l : Launch} {G : GT} {D mc ms : Nat} {Q : Post} : Imp l G M_X7_take (D + 6) mc ms Q (B_X7_take_0 l G D mc ms Q) 0 := sx_aload_n dX7_take_0 rfl (sx_getR dX7_take_1 fl_FootQuarrel_StreetText_15 (fun _ _ _ => rfl) (sx_vcall dX7_take_4 cf_X6_clear (mg_3 (List.mem_of_getElem? (i := 173) rfl) rfl) (mg_2 (List.mem_of_getElem? (i := 125) rfl) rfl) (mg_2 (List.mem_of_getElem? (i := 126) rfl) rfl) rfl c_X6_clear (b_X7_take_7)))
/-- the row as it is before a street is told -/
def plN (A : Nat → Int32) : Prop := A 2376 = 0 ∧ A 2377 = 0 ∧ A 2378 = 0 ∧ A 2379 = 1 ∧ A 2380 = 2 ∧ A 2381 = 4 ∧ A 2387 = -1 ∧ (∀ k, 2382 ≤ k → k < 2387 → A k = 0) ∧ ∀ k, 2388 ≤ k → k < 2602 → A k = 0
def sp_X7_take (G : GT) : Sp := fun as S I J z Q => match as with
  | [.ref a, .int b] => ∃ (X s t : Nat) (T : Nat → Int32) (n : Nat) (A : Nat → Int32) (N : Nat → Int64), t = a ∧ b = nI n ∧ txS S X s t ∧ rdE S I J X T n ∧ I t 2 = 0 ∧ I t 3 = 0 ∧ I t 4 = 0 ∧ plN A ∧ CEX X s t I J T n (pSt T n (n + 1) 0 (A, N, 0)) (fun I' J' => Q (some (.int 1)) S I' J' z) (fun I' J' => Q (some (.int 0)) S I' J' z)
  | _ => False
theorem tK_end {T : Nat → Int32} {n : Nat} : tK T n n = 0 := by
  have : tF T n n = n := by
    unfold tF scB
    rw [Nat.sub_self]
    rfl
  unfold tK tC
  rw [this, if_pos (byA_o (Nat.le_refl n))]
set_option maxHeartbeats 4000000 in
set_option maxRecDepth 20000 in
theorem c_X7_take {l : Launch} {G : GT} {D : Nat} : ∀ as S I J z Q, sp_X7_take G as S I J z Q → fqCall l G M_X7_take (D + 6) 0 0 as S I J z Q := by
  intro as S I J z Q h
  unfold sp_X7_take at h
  split at h
  · next a b =>
    obtain ⟨X, s, t, T, n, A, N, rfl, rfl, hx, hE, b2, b3, b4, hA, hR⟩ := h
    have hx0 := hx
    obtain ⟨x1, x2, x3, hs, l1, l2, l3⟩ := hx
    have s1 := hE.1.1
    have n9 := hE.2.1
    have lp : ∀ (f k : Nat) (tp : Int32) (σ : PSt) (I1 : IH) (J1 : JH) (o : Option Value), n - σ.2.2 < f → k ≤ σ.2.2 → stH X s I1 J1 T n σ → tpR tp (I1 t) → csF X s t I I1 J J1 → CEX X s t I J T n (pSt T n f tp σ) (fun I' J' => Q (some (.int 1)) S I' J' z) (fun I' J' => Q (some (.int 0)) S I' J' z) → fqAt l G M_X7_take (D + 6) 0 0 Q 17 [some (.ref t), some (.int (nI n)), some (.int (nI k)), o] [] S I1 J1 z 0 0 := by
      intro f
      induction f with
      | zero => exact fun k tp σ I1 J1 o h => absurd h (by omega)
      | succ f ih =>
        intro k tp σ I1 J1 o hf hk hH ht hF hR
        have hn := hH.2.1
        have hE1 := hE.ct hx0 hF
        have hq := hH.q hE1
        have hc : cnP σ := ⟨hH.c.1, hH.c.2.1⟩
        unfold pSt at hR
        have fin1 : tK T n σ.2.2 = 0 → Q (some (.int 1)) S I1 J1 z := fun q => by
          rw [if_pos q] at hR
          exact hR _ _ hF hH
        have h0 : tK T n n = 0 := tK_end
        refine b_X7_take_17 _ _ _ _ _ _ _ _ ?_
        simp (disch := omega) only [B_X7_take_17, B_X7_take_183, x1, x2, x3, s1, hs.k, hs.r0, hs.k1, hs.r1, hs.k2, hs.r2, hs.k3, hs.r3, hs.k4, hs.r4, hs.k12, hs.n1, hs.n2, hs.n3, hs.y0, hs.k5, hs.n5, hs.y1, hs.k6, hs.n6, hs.y2, hs.k7, hs.n7, hs.y3, hs.k8, hs.n8, hs.y4, hs.k9, hs.n9, hs.y5, hs.k10, hs.n10, hs.y6, hs.k11, hs.n11, hs.p0, hs.p1, hs.p2, hs.k13, hs.n13, hs.q0, hs.q1, hs.k14, hs.k15, hs.k16, hs.n16, hs.k17, hs.n17, hs.rH, hs.kH, hs.rP, hs.kP, hs.rQ, hs.kQ, li_2, li_3, li_4, li_5, li_6, li_7, li_8, li_9, li_10, li_11, li_12, li_13, li_14, li_15, li_16, li_17, li_18, li_19, li_20, li_21, li_22, li_23, li_24, li_25, li_26, li_27, li_28, li_29, li_30, li_32, li_33, li_34, li_35, li_36, li_37, li_38, li_39, li_40, li_41, li_42, li_43, li_44, li_45, li_46, li_47, li_48, li_49, li_50, li_51, li_52, li_53, li_54, li_55, li_56, li_57, li_58, li_59, li_60, li_61, li_62, li_63, li_64, li_65, li_66, li_67, li_68, li_69, li_70, li_71, li_72, li_73, li_74, li_75, li_76, li_77, li_78, li_79, li_80, li_81, li_82, li_83, li_84, li_85, li_86, li_87, li_88, li_89, li_90, li_91, li_92, li_93, li_94, li_95, li_96, li_97, li_98, li_99, li_100, li_101, li_102, li_103, li_104, li_105, li_106, li_107, li_108, li_109, li_110, li_111, li_112, li_113, li_114, li_115, li_116, li_117, li_118, li_119, li_120, li_121, li_122, li_123, li_124, li_125, li_126, li_127, li_128, li_129, li_130, li_131, li_226, li_240, li_255, li_300, li_586, li_594, li_900, li_999, li_1000, li_1800, li_2376, li_2388, li_2406, li_2602, li_2970, li_3067, li_3564, li_9999, li_10000, li_11287, li_65536, li_100000, li_1000000, nI_mul, tn0, tn1, vin0, vin1, Int32.add_zero, Int32.or_zero, Int32.mul_one, Int32.mul_zero, Int32.zero_add, Nat.reduceEqDiff, Nat.reduceMul, Nat.reduceSub, nI_1, nI_add, nI_clamp, nI_pin, nI_neg, nI_nonneg, nI_leE, nI_ltE, nI_eqE, Nat.not_le, Nat.not_lt, fq_10, fq_01, fq_rr, ix_aald, ix_aast, ix_abs, ix_alen, ix_aload, ix_aret, ix_astore, ix_bald, ix_bast, ix_call, ix_cpyI, ix_cpyJ, ix_dead, ix_dup2, ix_dup2L, ix_dupI, ix_dupR, ix_dupx1, ix_getI, ix_getJ, ix_getR, ix_gfm, ix_gtab, ix_i2b, ix_i2c, ix_i2l, ix_i2s, ix_iadd, ix_iald, ix_iand, ix_iast, ix_icall, ix_icmp_eq, ix_icmp_ge, ix_icmp_gt, ix_icmp_le, ix_icmp_lt, ix_icmp_ne, ix_idiv, ix_if_eq, ix_if_ge, ix_if_gt, ix_if_le, ix_if_lt, ix_if_ne, ix_iinc, ix_iload, ix_imul, ix_ineg, ix_ior, ix_irem, ix_iret, ix_ishl, ix_ishr, ix_istore, ix_isub, ix_iushr, ix_ixor, ix_l2i, ix_ladd, ix_lald, ix_land, ix_last, ix_lcmp, ix_ldcS, ix_ldiv, ix_lload, ix_lmul, ix_lor, ix_lrem, ix_lret, ix_lshl, ix_lstore, ix_lsub, ix_lsw, ix_max, ix_min, ix_new, ix_newa, ix_nret, ix_oinit, ix_pop2L, ix_popI, ix_pushI, ix_pushL, ix_putI, ix_putJ, ix_putR, ix_putZ, ix_sbald, ix_sgetC, ix_sgetV, ix_slen, ix_strc, ix_tald, ix_tsw, ix_vcall, ix_vret, ix_zret, stL, stL2, kilL, popN, fq_sw, fq_lsw, List.map_cons, List.map_nil, List.getElem?_cons_zero, List.getElem?_cons_succ, Option.toList_some, Option.toList_none, List.cons_append, List.nil_append, List.length_cons, List.length_nil, List.sum_cons, List.sum_nil, cat_i, cat_l, cat_r, true_and, and_true, Nat.zero_add, Nat.add_zero, Nat.le_refl, Nat.zero_le, Nat.reduceAdd, Nat.reduceLeDiff, exists_eq_left', Option.some.injEq, not_true_eq_false, not_false_eq_true, false_implies, true_implies, implies_true, and_self, or_true, true_or, or_false, false_or]
        refine ⟨fun q => fin1 ?_, fun q => ⟨X, T, n, σ.2.2, rfl, hq, ?_⟩⟩
        · rw [show σ.2.2 = n by omega]
          exact h0
        · by_cases q0 : tK T n σ.2.2 = 0
          · simp (disch := omega) only [B_X7_take_31, B_X7_take_183, bI_t q0, nI_1, nI_add, nI_clamp, nI_pin, nI_neg, nI_nonneg, nI_leE, nI_ltE, nI_eqE, Nat.not_le, Nat.not_lt, fq_10, fq_01, fq_rr, ix_aald, ix_aast, ix_abs, ix_alen, ix_aload, ix_aret, ix_astore, ix_bald, ix_bast, ix_call, ix_cpyI, ix_cpyJ, ix_dead, ix_dup2, ix_dup2L, ix_dupI, ix_dupR, ix_dupx1, ix_getI, ix_getJ, ix_getR, ix_gfm, ix_gtab, ix_i2b, ix_i2c, ix_i2l, ix_i2s, ix_iadd, ix_iald, ix_iand, ix_iast, ix_icall, ix_icmp_eq, ix_icmp_ge, ix_icmp_gt, ix_icmp_le, ix_icmp_lt, ix_icmp_ne, ix_idiv, ix_if_eq, ix_if_ge, ix_if_gt, ix_if_le, ix_if_lt, ix_if_ne, ix_iinc, ix_iload, ix_imul, ix_ineg, ix_ior, ix_irem, ix_iret, ix_ishl, ix_ishr, ix_istore, ix_isub, ix_iushr, ix_ixor, ix_l2i, ix_ladd, ix_lald, ix_land, ix_last, ix_lcmp, ix_ldcS, ix_ldiv, ix_lload, ix_lmul, ix_lor, ix_lrem, ix_lret, ix_lshl, ix_lstore, ix_lsub, ix_lsw, ix_max, ix_min, ix_new, ix_newa, ix_nret, ix_oinit, ix_pop2L, ix_popI, ix_pushI, ix_pushL, ix_putI, ix_putJ, ix_putR, ix_putZ, ix_sbald, ix_sgetC, ix_sgetV, ix_slen, ix_strc, ix_tald, ix_tsw, ix_vcall, ix_vret, ix_zret, stL, stL2, kilL, popN, fq_sw, fq_lsw, List.map_cons, List.map_nil, List.getElem?_cons_zero, List.getElem?_cons_succ, Option.toList_some, Option.toList_none, List.cons_append, List.nil_append, List.length_cons, List.length_nil, List.sum_cons, List.sum_nil, cat_i, cat_l, cat_r, true_and, and_true, Nat.zero_add, Nat.add_zero, Nat.le_refl, Nat.zero_le, Nat.reduceAdd, Nat.reduceLeDiff, exists_eq_left', Option.some.injEq, not_true_eq_false, not_false_eq_true, false_implies, true_implies, implies_true, and_self, or_true, true_or, or_false, false_or]
            exact fin1 q0
          · rw [if_neg q0] at hR
            have h8 := hH.1.2.2.2.2.1
            have kr := kw_r T n σ.2.2
            obtain ⟨w0, w1, w2, w3⟩ := wk_s0 _ kr
            obtain ⟨w5, w11⟩ := wk_s1 _ kr
            have wB := wk_s2 _ kr
            have wD := wk_s3 _ kr
            obtain ⟨m, hm, htp, hbt⟩ := ht
            -- behind a part
            have aft : ∀ (j : Nat) (σ1 : PSt) (I2 : IH) (J2 : JH) (o : Option Value), j < 6 → kwI T n σ.2.2 = nI j → pPt T n tp σ = pSg T n 59 σ1 → csF X s t I I2 J J2 → stH X s I2 J2 T n σ1 → (∀ b, b < 3 → I2 t (2 + b) = if b = j then 1 else I1 t (2 + b)) → B_X7_take_161 l G D 0 0 Q [some (.ref t), some (.int (nI n)), some (.int (nI k)), some (.int 1)] [] S I2 J2 z 0 0 := by
              intro j σ1 I2 J2 o hj hkw hpt hF2 hH2 hb2
              rw [hpt, htp, hkw] at hR
              have ok := fun σ2 => pPt_ok (T := T) (tp := tp) (s' := σ2) hn hc
              rw [hpt] at ok
              obtain ⟨u1, u2', u3⟩ := tp_u m hm j hj
              simp (disch := omega) only [B_X7_take_161, x1, x2, x3, s1, hs.k, hs.r0, hs.k1, hs.r1, hs.k2, hs.r2, hs.k3, hs.r3, hs.k4, hs.r4, hs.k12, hs.n1, hs.n2, hs.n3, hs.y0, hs.k5, hs.n5, hs.y1, hs.k6, hs.n6, hs.y2, hs.k7, hs.n7, hs.y3, hs.k8, hs.n8, hs.y4, hs.k9, hs.n9, hs.y5, hs.k10, hs.n10, hs.y6, hs.k11, hs.n11, hs.p0, hs.p1, hs.p2, hs.k13, hs.n13, hs.q0, hs.q1, hs.k14, hs.k15, hs.k16, hs.n16, hs.k17, hs.n17, hs.rH, hs.kH, hs.rP, hs.kP, hs.rQ, hs.kQ, nI_1, nI_add, nI_clamp, nI_pin, nI_neg, nI_nonneg, nI_leE, nI_ltE, nI_eqE, Nat.not_le, Nat.not_lt, fq_10, fq_01, fq_rr, ix_aald, ix_aast, ix_abs, ix_alen, ix_aload, ix_aret, ix_astore, ix_bald, ix_bast, ix_call, ix_cpyI, ix_cpyJ, ix_dead, ix_dup2, ix_dup2L, ix_dupI, ix_dupR, ix_dupx1, ix_getI, ix_getJ, ix_getR, ix_gfm, ix_gtab, ix_i2b, ix_i2c, ix_i2l, ix_i2s, ix_iadd, ix_iald, ix_iand, ix_iast, ix_icall, ix_icmp_eq, ix_icmp_ge, ix_icmp_gt, ix_icmp_le, ix_icmp_lt, ix_icmp_ne, ix_idiv, ix_if_eq, ix_if_ge, ix_if_gt, ix_if_le, ix_if_lt, ix_if_ne, ix_iinc, ix_iload, ix_imul, ix_ineg, ix_ior, ix_irem, ix_iret, ix_ishl, ix_ishr, ix_istore, ix_isub, ix_iushr, ix_ixor, ix_l2i, ix_ladd, ix_lald, ix_land, ix_last, ix_lcmp, ix_ldcS, ix_ldiv, ix_lload, ix_lmul, ix_lor, ix_lrem, ix_lret, ix_lshl, ix_lstore, ix_lsub, ix_lsw, ix_max, ix_min, ix_new, ix_newa, ix_nret, ix_oinit, ix_pop2L, ix_popI, ix_pushI, ix_pushL, ix_putI, ix_putJ, ix_putR, ix_putZ, ix_sbald, ix_sgetC, ix_sgetV, ix_slen, ix_strc, ix_tald, ix_tsw, ix_vcall, ix_vret, ix_zret, stL, stL2, kilL, popN, fq_sw, fq_lsw, List.map_cons, List.map_nil, List.getElem?_cons_zero, List.getElem?_cons_succ, Option.toList_some, Option.toList_none, List.cons_append, List.nil_append, List.length_cons, List.length_nil, List.sum_cons, List.sum_nil, cat_i, cat_l, cat_r, true_and, and_true, Nat.zero_add, Nat.add_zero, Nat.le_refl, Nat.zero_le, Nat.reduceAdd, Nat.reduceLeDiff, exists_eq_left', Option.some.injEq, not_true_eq_false, not_false_eq_true, false_implies, true_implies, implies_true, and_self, or_true, true_or, or_false, false_or]
              have e1 := (tFE hH2.2.1 (T := T)).2.2.2
              unfold pSg at hR ok
              refine ⟨X, T, n, σ1.2.2, rfl, hH2.q (hE.ct hx0 hF2), fun g => ?_, fun g I3 J3 hF3 hH3 => ?_⟩
              · rw [if_pos g] at hR
                simp (disch := omega) only [B_X7_take_172, B_X7_take_175, nI_1, nI_add, nI_clamp, nI_pin, nI_neg, nI_nonneg, nI_leE, nI_ltE, nI_eqE, Nat.not_le, Nat.not_lt, fq_10, fq_01, fq_rr, ix_aald, ix_aast, ix_abs, ix_alen, ix_aload, ix_aret, ix_astore, ix_bald, ix_bast, ix_call, ix_cpyI, ix_cpyJ, ix_dead, ix_dup2, ix_dup2L, ix_dupI, ix_dupR, ix_dupx1, ix_getI, ix_getJ, ix_getR, ix_gfm, ix_gtab, ix_i2b, ix_i2c, ix_i2l, ix_i2s, ix_iadd, ix_iald, ix_iand, ix_iast, ix_icall, ix_icmp_eq, ix_icmp_ge, ix_icmp_gt, ix_icmp_le, ix_icmp_lt, ix_icmp_ne, ix_idiv, ix_if_eq, ix_if_ge, ix_if_gt, ix_if_le, ix_if_lt, ix_if_ne, ix_iinc, ix_iload, ix_imul, ix_ineg, ix_ior, ix_irem, ix_iret, ix_ishl, ix_ishr, ix_istore, ix_isub, ix_iushr, ix_ixor, ix_l2i, ix_ladd, ix_lald, ix_land, ix_last, ix_lcmp, ix_ldcS, ix_ldiv, ix_lload, ix_lmul, ix_lor, ix_lrem, ix_lret, ix_lshl, ix_lstore, ix_lsub, ix_lsw, ix_max, ix_min, ix_new, ix_newa, ix_nret, ix_oinit, ix_pop2L, ix_popI, ix_pushI, ix_pushL, ix_putI, ix_putJ, ix_putR, ix_putZ, ix_sbald, ix_sgetC, ix_sgetV, ix_slen, ix_strc, ix_tald, ix_tsw, ix_vcall, ix_vret, ix_zret, stL, stL2, kilL, popN, fq_sw, fq_lsw, List.map_cons, List.map_nil, List.getElem?_cons_zero, List.getElem?_cons_succ, Option.toList_some, Option.toList_none, List.cons_append, List.nil_append, List.length_cons, List.length_nil, List.sum_cons, List.sum_nil, cat_i, cat_l, cat_r, true_and, and_true, Nat.zero_add, Nat.add_zero, Nat.le_refl, Nat.zero_le, Nat.reduceAdd, Nat.reduceLeDiff, exists_eq_left', Option.some.injEq, not_true_eq_false, not_false_eq_true, false_implies, true_implies, implies_true, and_self, or_true, true_or, or_false, false_or]
                exact CEX.fx hR (hF2.tr csF.rj) rfl
              · rw [if_neg (fun r => r g)] at hR
                rw [if_neg (fun r => r g)] at ok
                dsimp only [pB] at hR
                obtain ⟨o1, o2, o3⟩ := ok _ rfl
                dsimp only at o1 o2
                simp (disch := omega) only [B_X7_take_172, nI_1, nI_add, nI_clamp, nI_pin, nI_neg, nI_nonneg, nI_leE, nI_ltE, nI_eqE, Nat.not_le, Nat.not_lt, fq_10, fq_01, fq_rr, ix_aald, ix_aast, ix_abs, ix_alen, ix_aload, ix_aret, ix_astore, ix_bald, ix_bast, ix_call, ix_cpyI, ix_cpyJ, ix_dead, ix_dup2, ix_dup2L, ix_dupI, ix_dupR, ix_dupx1, ix_getI, ix_getJ, ix_getR, ix_gfm, ix_gtab, ix_i2b, ix_i2c, ix_i2l, ix_i2s, ix_iadd, ix_iald, ix_iand, ix_iast, ix_icall, ix_icmp_eq, ix_icmp_ge, ix_icmp_gt, ix_icmp_le, ix_icmp_lt, ix_icmp_ne, ix_idiv, ix_if_eq, ix_if_ge, ix_if_gt, ix_if_le, ix_if_lt, ix_if_ne, ix_iinc, ix_iload, ix_imul, ix_ineg, ix_ior, ix_irem, ix_iret, ix_ishl, ix_ishr, ix_istore, ix_isub, ix_iushr, ix_ixor, ix_l2i, ix_ladd, ix_lald, ix_land, ix_last, ix_lcmp, ix_ldcS, ix_ldiv, ix_lload, ix_lmul, ix_lor, ix_lrem, ix_lret, ix_lshl, ix_lstore, ix_lsub, ix_lsw, ix_max, ix_min, ix_new, ix_newa, ix_nret, ix_oinit, ix_pop2L, ix_popI, ix_pushI, ix_pushL, ix_putI, ix_putJ, ix_putR, ix_putZ, ix_sbald, ix_sgetC, ix_sgetV, ix_slen, ix_strc, ix_tald, ix_tsw, ix_vcall, ix_vret, ix_zret, stL, stL2, kilL, popN, fq_sw, fq_lsw, List.map_cons, List.map_nil, List.getElem?_cons_zero, List.getElem?_cons_succ, Option.toList_some, Option.toList_none, List.cons_append, List.nil_append, List.length_cons, List.length_nil, List.sum_cons, List.sum_nil, cat_i, cat_l, cat_r, true_and, and_true, Nat.zero_add, Nat.add_zero, Nat.le_refl, Nat.zero_le, Nat.reduceAdd, Nat.reduceLeDiff, exists_eq_left', Option.some.injEq, not_true_eq_false, not_false_eq_true, false_implies, true_implies, implies_true, and_self, or_true, true_or, or_false, false_or]
                refine ih (k + 1) _ (σ1.1, σ1.2.1, tE T n σ1.2.2) I3 J3 _ (by dsimp only; omega) (by dsimp only; omega) (hH2.rd l1 hF3 hH3 e1) ⟨m ||| 1 <<< j, u1, u2', fun b hb => ?_⟩ (hF2.tr (csF.rd hF3)) hR
                rw [hF3.1 t (by omega), hb2 b hb, hbt b hb, u3 b hb]
            have flt : ∀ I2 J2, Q (some (.int 0)) S I2 J2 z → B_X7_take_161 l G D 0 0 Q [some (.ref t), some (.int (nI n)), some (.int (nI k)), some (.int 0)] [] S I2 J2 z 0 0 := by
              intro I2 J2 h
              simp (disch := omega) only [B_X7_take_161, B_X7_take_175, nI_1, nI_add, nI_clamp, nI_pin, nI_neg, nI_nonneg, nI_leE, nI_ltE, nI_eqE, Nat.not_le, Nat.not_lt, fq_10, fq_01, fq_rr, ix_aald, ix_aast, ix_abs, ix_alen, ix_aload, ix_aret, ix_astore, ix_bald, ix_bast, ix_call, ix_cpyI, ix_cpyJ, ix_dead, ix_dup2, ix_dup2L, ix_dupI, ix_dupR, ix_dupx1, ix_getI, ix_getJ, ix_getR, ix_gfm, ix_gtab, ix_i2b, ix_i2c, ix_i2l, ix_i2s, ix_iadd, ix_iald, ix_iand, ix_iast, ix_icall, ix_icmp_eq, ix_icmp_ge, ix_icmp_gt, ix_icmp_le, ix_icmp_lt, ix_icmp_ne, ix_idiv, ix_if_eq, ix_if_ge, ix_if_gt, ix_if_le, ix_if_lt, ix_if_ne, ix_iinc, ix_iload, ix_imul, ix_ineg, ix_ior, ix_irem, ix_iret, ix_ishl, ix_ishr, ix_istore, ix_isub, ix_iushr, ix_ixor, ix_l2i, ix_ladd, ix_lald, ix_land, ix_last, ix_lcmp, ix_ldcS, ix_ldiv, ix_lload, ix_lmul, ix_lor, ix_lrem, ix_lret, ix_lshl, ix_lstore, ix_lsub, ix_lsw, ix_max, ix_min, ix_new, ix_newa, ix_nret, ix_oinit, ix_pop2L, ix_popI, ix_pushI, ix_pushL, ix_putI, ix_putJ, ix_putR, ix_putZ, ix_sbald, ix_sgetC, ix_sgetV, ix_slen, ix_strc, ix_tald, ix_tsw, ix_vcall, ix_vret, ix_zret, stL, stL2, kilL, popN, fq_sw, fq_lsw, List.map_cons, List.map_nil, List.getElem?_cons_zero, List.getElem?_cons_succ, Option.toList_some, Option.toList_none, List.cons_append, List.nil_append, List.length_cons, List.length_nil, List.sum_cons, List.sum_nil, cat_i, cat_l, cat_r, true_and, and_true, Nat.zero_add, Nat.add_zero, Nat.le_refl, Nat.zero_le, Nat.reduceAdd, Nat.reduceLeDiff, exists_eq_left', Option.some.injEq, not_true_eq_false, not_false_eq_true, false_implies, true_implies, implies_true, and_self, or_true, true_or, or_false, false_or]
              exact h
            have b152 : (kwI T n σ.2.2 < 0 ∨ 5 < kwI T n σ.2.2) → B_X7_take_152 l G D 0 0 Q [some (.ref t), some (.int (nI n)), some (.int (nI k)), o] [] S I1 J1 z 0 0 := by
              intro g
              have hp : pPt T n tp σ = pE T n 2 σ.2.2 := by
                unfold pPt
                rw [if_pos g]
              rw [hp] at hR
              simp (disch := omega) only [B_X7_take_152, x1, x2, x3, s1, hs.k, hs.r0, hs.k1, hs.r1, hs.k2, hs.r2, hs.k3, hs.r3, hs.k4, hs.r4, hs.k12, hs.n1, hs.n2, hs.n3, hs.y0, hs.k5, hs.n5, hs.y1, hs.k6, hs.n6, hs.y2, hs.k7, hs.n7, hs.y3, hs.k8, hs.n8, hs.y4, hs.k9, hs.n9, hs.y5, hs.k10, hs.n10, hs.y6, hs.k11, hs.n11, hs.p0, hs.p1, hs.p2, hs.k13, hs.n13, hs.q0, hs.q1, hs.k14, hs.k15, hs.k16, hs.n16, hs.k17, hs.n17, hs.rH, hs.kH, hs.rP, hs.kP, hs.rQ, hs.kQ, nI_1, nI_add, nI_clamp, nI_pin, nI_neg, nI_nonneg, nI_leE, nI_ltE, nI_eqE, Nat.not_le, Nat.not_lt, fq_10, fq_01, fq_rr, ix_aald, ix_aast, ix_abs, ix_alen, ix_aload, ix_aret, ix_astore, ix_bald, ix_bast, ix_call, ix_cpyI, ix_cpyJ, ix_dead, ix_dup2, ix_dup2L, ix_dupI, ix_dupR, ix_dupx1, ix_getI, ix_getJ, ix_getR, ix_gfm, ix_gtab, ix_i2b, ix_i2c, ix_i2l, ix_i2s, ix_iadd, ix_iald, ix_iand, ix_iast, ix_icall, ix_icmp_eq, ix_icmp_ge, ix_icmp_gt, ix_icmp_le, ix_icmp_lt, ix_icmp_ne, ix_idiv, ix_if_eq, ix_if_ge, ix_if_gt, ix_if_le, ix_if_lt, ix_if_ne, ix_iinc, ix_iload, ix_imul, ix_ineg, ix_ior, ix_irem, ix_iret, ix_ishl, ix_ishr, ix_istore, ix_isub, ix_iushr, ix_ixor, ix_l2i, ix_ladd, ix_lald, ix_land, ix_last, ix_lcmp, ix_ldcS, ix_ldiv, ix_lload, ix_lmul, ix_lor, ix_lrem, ix_lret, ix_lshl, ix_lstore, ix_lsub, ix_lsw, ix_max, ix_min, ix_new, ix_newa, ix_nret, ix_oinit, ix_pop2L, ix_popI, ix_pushI, ix_pushL, ix_putI, ix_putJ, ix_putR, ix_putZ, ix_sbald, ix_sgetC, ix_sgetV, ix_slen, ix_strc, ix_tald, ix_tsw, ix_vcall, ix_vret, ix_zret, stL, stL2, kilL, popN, fq_sw, fq_lsw, List.map_cons, List.map_nil, List.getElem?_cons_zero, List.getElem?_cons_succ, Option.toList_some, Option.toList_none, List.cons_append, List.nil_append, List.length_cons, List.length_nil, List.sum_cons, List.sum_nil, cat_i, cat_l, cat_r, true_and, and_true, Nat.zero_add, Nat.add_zero, Nat.le_refl, Nat.zero_le, Nat.reduceAdd, Nat.reduceLeDiff, exists_eq_left', Option.some.injEq, not_true_eq_false, not_false_eq_true, false_implies, true_implies, implies_true, and_self, or_true, true_or, or_false, false_or]
              refine rej_R hq ?_
              simp (disch := omega) only [B_X7_take_160, nI_1, nI_add, nI_clamp, nI_pin, nI_neg, nI_nonneg, nI_leE, nI_ltE, nI_eqE, Nat.not_le, Nat.not_lt, fq_10, fq_01, fq_rr, ix_aald, ix_aast, ix_abs, ix_alen, ix_aload, ix_aret, ix_astore, ix_bald, ix_bast, ix_call, ix_cpyI, ix_cpyJ, ix_dead, ix_dup2, ix_dup2L, ix_dupI, ix_dupR, ix_dupx1, ix_getI, ix_getJ, ix_getR, ix_gfm, ix_gtab, ix_i2b, ix_i2c, ix_i2l, ix_i2s, ix_iadd, ix_iald, ix_iand, ix_iast, ix_icall, ix_icmp_eq, ix_icmp_ge, ix_icmp_gt, ix_icmp_le, ix_icmp_lt, ix_icmp_ne, ix_idiv, ix_if_eq, ix_if_ge, ix_if_gt, ix_if_le, ix_if_lt, ix_if_ne, ix_iinc, ix_iload, ix_imul, ix_ineg, ix_ior, ix_irem, ix_iret, ix_ishl, ix_ishr, ix_istore, ix_isub, ix_iushr, ix_ixor, ix_l2i, ix_ladd, ix_lald, ix_land, ix_last, ix_lcmp, ix_ldcS, ix_ldiv, ix_lload, ix_lmul, ix_lor, ix_lrem, ix_lret, ix_lshl, ix_lstore, ix_lsub, ix_lsw, ix_max, ix_min, ix_new, ix_newa, ix_nret, ix_oinit, ix_pop2L, ix_popI, ix_pushI, ix_pushL, ix_putI, ix_putJ, ix_putR, ix_putZ, ix_sbald, ix_sgetC, ix_sgetV, ix_slen, ix_strc, ix_tald, ix_tsw, ix_vcall, ix_vret, ix_zret, stL, stL2, kilL, popN, fq_sw, fq_lsw, List.map_cons, List.map_nil, List.getElem?_cons_zero, List.getElem?_cons_succ, Option.toList_some, Option.toList_none, List.cons_append, List.nil_append, List.length_cons, List.length_nil, List.sum_cons, List.sum_nil, cat_i, cat_l, cat_r, true_and, and_true, Nat.zero_add, Nat.add_zero, Nat.le_refl, Nat.zero_le, Nat.reduceAdd, Nat.reduceLeDiff, exists_eq_left', Option.some.injEq, not_true_eq_false, not_false_eq_true, false_implies, true_implies, implies_true, and_self, or_true, true_or, or_false, false_or]
              exact flt _ _ (CEX.fx hR (hF.tr csF.rj) rfl)
            have cS : ∀ (x : PR) (j : Nat), j < 6 → 3 ≤ j → kwI T n σ.2.2 = nI j → pPt T n tp σ = pB x (pSg T n 59) → CES X s t I1 J1 T n x (fun I2 J2 => B_X7_take_161 l G D 0 0 Q [some (.ref t), some (.int (nI n)), some (.int (nI k)), some (.int 1)] [] S I2 J2 z 0 0) (fun I2 J2 => B_X7_take_161 l G D 0 0 Q [some (.ref t), some (.int (nI n)), some (.int (nI k)), some (.int 0)] [] S I2 J2 z 0 0) := by
              intro x j hj hj3 hkw hpt
              cases x with
              | inl y =>
                rw [hpt] at hR
                exact fun I2 J2 a b c => flt _ _ (hR I2 J2 (hF.tr a) b c)
              | inr σ1 =>
                exact fun I2 J2 a b c => aft j σ1 I2 J2 none hj hkw hpt (hF.tr a) b (fun d hd => by rw [if_neg (by omega), c])
            have cN : ∀ (x : PR) (j : Nat), j < 3 → kwI T n σ.2.2 = nI j → pPt T n tp σ = pB x (pSg T n 59) → CEN X s t (2 + j) I1 J1 T n x (fun I2 J2 => B_X7_take_161 l G D 0 0 Q [some (.ref t), some (.int (nI n)), some (.int (nI k)), some (.int 1)] [] S I2 J2 z 0 0) (fun I2 J2 => B_X7_take_161 l G D 0 0 Q [some (.ref t), some (.int (nI n)), some (.int (nI k)), some (.int 0)] [] S I2 J2 z 0 0) := by
              intro x j hj hkw hpt
              cases x with
              | inl y =>
                rw [hpt] at hR
                exact fun I2 J2 a b c => flt _ _ (hR I2 J2 (hF.tr a) b c)
              | inr σ1 =>
                refine fun I2 J2 a b c d => aft j σ1 I2 J2 none (by omega) hkw hpt (hF.tr a) b (fun i hi => ?_)
                by_cases q : i = j
                · rw [if_pos q, q]
                  exact c
                · rw [if_neg q]
                  exact d _ (by omega)
            have k1 : ∀ j, kwI T n σ.2.2 = nI j → j < 24 → ¬ tK T n σ.2.2 = 1 := by
              intro j hkw hj q
              rw [kwI_n (by rw [q]; decide)] at hkw
              exact absurd hkw.symm (of_eq_false (nI_m1 (by omega)))
            have nb : ∀ j, j < 3 → ¬ I1 t (2 + j) = 0 → nI m >>> (nI j &&& 31) &&& 1 = 1 := fun j hj h => by
              rw [hbt j hj] at h
              exact (tp_b m hm j hj).resolve_left h
            have zb : ∀ j, j < 3 → I1 t (2 + j) = 0 → ¬ nI m >>> (nI j &&& 31) &&& 1 = 1 := fun j hj h => by
              rw [hbt j hj] at h
              rw [h]
              decide
            simp (disch := omega) only [B_X7_take_31, bI_f q0, h8, x1, x2, x3, s1, hs.k, hs.r0, hs.k1, hs.r1, hs.k2, hs.r2, hs.k3, hs.r3, hs.k4, hs.r4, hs.k12, hs.n1, hs.n2, hs.n3, hs.y0, hs.k5, hs.n5, hs.y1, hs.k6, hs.n6, hs.y2, hs.k7, hs.n7, hs.y3, hs.k8, hs.n8, hs.y4, hs.k9, hs.n9, hs.y5, hs.k10, hs.n10, hs.y6, hs.k11, hs.n11, hs.p0, hs.p1, hs.p2, hs.k13, hs.n13, hs.q0, hs.q1, hs.k14, hs.k15, hs.k16, hs.n16, hs.k17, hs.n17, hs.rH, hs.kH, hs.rP, hs.kP, hs.rQ, hs.kQ, nI_1, nI_add, nI_clamp, nI_pin, nI_neg, nI_nonneg, nI_leE, nI_ltE, nI_eqE, Nat.not_le, Nat.not_lt, fq_10, fq_01, fq_rr, ix_aald, ix_aast, ix_abs, ix_alen, ix_aload, ix_aret, ix_astore, ix_bald, ix_bast, ix_call, ix_cpyI, ix_cpyJ, ix_dead, ix_dup2, ix_dup2L, ix_dupI, ix_dupR, ix_dupx1, ix_getI, ix_getJ, ix_getR, ix_gfm, ix_gtab, ix_i2b, ix_i2c, ix_i2l, ix_i2s, ix_iadd, ix_iald, ix_iand, ix_iast, ix_icall, ix_icmp_eq, ix_icmp_ge, ix_icmp_gt, ix_icmp_le, ix_icmp_lt, ix_icmp_ne, ix_idiv, ix_if_eq, ix_if_ge, ix_if_gt, ix_if_le, ix_if_lt, ix_if_ne, ix_iinc, ix_iload, ix_imul, ix_ineg, ix_ior, ix_irem, ix_iret, ix_ishl, ix_ishr, ix_istore, ix_isub, ix_iushr, ix_ixor, ix_l2i, ix_ladd, ix_lald, ix_land, ix_last, ix_lcmp, ix_ldcS, ix_ldiv, ix_lload, ix_lmul, ix_lor, ix_lrem, ix_lret, ix_lshl, ix_lstore, ix_lsub, ix_lsw, ix_max, ix_min, ix_new, ix_newa, ix_nret, ix_oinit, ix_pop2L, ix_popI, ix_pushI, ix_pushL, ix_putI, ix_putJ, ix_putR, ix_putZ, ix_sbald, ix_sgetC, ix_sgetV, ix_slen, ix_strc, ix_tald, ix_tsw, ix_vcall, ix_vret, ix_zret, stL, stL2, kilL, popN, fq_sw, fq_lsw, List.map_cons, List.map_nil, List.getElem?_cons_zero, List.getElem?_cons_succ, Option.toList_some, Option.toList_none, List.cons_append, List.nil_append, List.length_cons, List.length_nil, List.sum_cons, List.sum_nil, cat_i, cat_l, cat_r, true_and, and_true, Nat.zero_add, Nat.add_zero, Nat.le_refl, Nat.zero_le, Nat.reduceAdd, Nat.reduceLeDiff, exists_eq_left', Option.some.injEq, not_true_eq_false, not_false_eq_true, false_implies, true_implies, implies_true, and_self, or_true, true_or, or_false, false_or]
            refine ⟨fun q => ?_, fun n0 => ⟨fun q => ?_, fun n1 => ⟨fun q => ?_, fun n2 => ⟨fun q => ?_, fun n3 => ⟨fun q => ?_, fun n4 => ⟨fun q => ?_, fun n5 => ⟨fun q => ?_, fun n6 => ⟨fun q => ?_, fun n7 => ⟨fun q => ?_, fun n8 => ⟨fun q => ?_, fun n9 => ⟨fun q => ?_, fun n10 => ⟨fun q => ?_, fun n11 => ?_⟩⟩⟩⟩⟩⟩⟩⟩⟩⟩⟩⟩
            · have hk := w0 q
              refine ⟨X, s, t, T, n, σ, rfl, hx0, hE1, hH, k1 0 hk (by omega), fun g => ?_, fun g => ?_⟩
              · have hp : pPt T n tp σ = pE T n 5 σ.2.2 := by
                  unfold pPt
                  rw [hk, if_neg (by decide), if_pos ⟨by decide, by rw [htp]; exact nb 0 (by omega) g⟩]
                rw [hp] at hR
                simp (disch := omega) only [B_X7_take_108, nI_1, nI_add, nI_clamp, nI_pin, nI_neg, nI_nonneg, nI_leE, nI_ltE, nI_eqE, Nat.not_le, Nat.not_lt, fq_10, fq_01, fq_rr, ix_aald, ix_aast, ix_abs, ix_alen, ix_aload, ix_aret, ix_astore, ix_bald, ix_bast, ix_call, ix_cpyI, ix_cpyJ, ix_dead, ix_dup2, ix_dup2L, ix_dupI, ix_dupR, ix_dupx1, ix_getI, ix_getJ, ix_getR, ix_gfm, ix_gtab, ix_i2b, ix_i2c, ix_i2l, ix_i2s, ix_iadd, ix_iald, ix_iand, ix_iast, ix_icall, ix_icmp_eq, ix_icmp_ge, ix_icmp_gt, ix_icmp_le, ix_icmp_lt, ix_icmp_ne, ix_idiv, ix_if_eq, ix_if_ge, ix_if_gt, ix_if_le, ix_if_lt, ix_if_ne, ix_iinc, ix_iload, ix_imul, ix_ineg, ix_ior, ix_irem, ix_iret, ix_ishl, ix_ishr, ix_istore, ix_isub, ix_iushr, ix_ixor, ix_l2i, ix_ladd, ix_lald, ix_land, ix_last, ix_lcmp, ix_ldcS, ix_ldiv, ix_lload, ix_lmul, ix_lor, ix_lrem, ix_lret, ix_lshl, ix_lstore, ix_lsub, ix_lsw, ix_max, ix_min, ix_new, ix_newa, ix_nret, ix_oinit, ix_pop2L, ix_popI, ix_pushI, ix_pushL, ix_putI, ix_putJ, ix_putR, ix_putZ, ix_sbald, ix_sgetC, ix_sgetV, ix_slen, ix_strc, ix_tald, ix_tsw, ix_vcall, ix_vret, ix_zret, stL, stL2, kilL, popN, fq_sw, fq_lsw, List.map_cons, List.map_nil, List.getElem?_cons_zero, List.getElem?_cons_succ, Option.toList_some, Option.toList_none, List.cons_append, List.nil_append, List.length_cons, List.length_nil, List.sum_cons, List.sum_nil, cat_i, cat_l, cat_r, true_and, and_true, Nat.zero_add, Nat.add_zero, Nat.le_refl, Nat.zero_le, Nat.reduceAdd, Nat.reduceLeDiff, exists_eq_left', Option.some.injEq, not_true_eq_false, not_false_eq_true, false_implies, true_implies, implies_true, and_self, or_true, true_or, or_false, false_or]
                exact flt _ _ (CEX.fx hR (hF.tr csF.rj) rfl)
              · have hp : pPt T n tp σ = pB (pNum T n 2379 1 9 (σ.1, σ.2.1, tE T n σ.2.2)) (pSg T n 59) := by
                  unfold pPt
                  rw [hk, if_neg (by decide), if_neg (fun r => zb 0 (by omega) g (by rw [← htp]; exact r.2)), if_pos rfl]
                simp (disch := omega) only [B_X7_take_108, nI_1, nI_add, nI_clamp, nI_pin, nI_neg, nI_nonneg, nI_leE, nI_ltE, nI_eqE, Nat.not_le, Nat.not_lt, fq_10, fq_01, fq_rr, ix_aald, ix_aast, ix_abs, ix_alen, ix_aload, ix_aret, ix_astore, ix_bald, ix_bast, ix_call, ix_cpyI, ix_cpyJ, ix_dead, ix_dup2, ix_dup2L, ix_dupI, ix_dupR, ix_dupx1, ix_getI, ix_getJ, ix_getR, ix_gfm, ix_gtab, ix_i2b, ix_i2c, ix_i2l, ix_i2s, ix_iadd, ix_iald, ix_iand, ix_iast, ix_icall, ix_icmp_eq, ix_icmp_ge, ix_icmp_gt, ix_icmp_le, ix_icmp_lt, ix_icmp_ne, ix_idiv, ix_if_eq, ix_if_ge, ix_if_gt, ix_if_le, ix_if_lt, ix_if_ne, ix_iinc, ix_iload, ix_imul, ix_ineg, ix_ior, ix_irem, ix_iret, ix_ishl, ix_ishr, ix_istore, ix_isub, ix_iushr, ix_ixor, ix_l2i, ix_ladd, ix_lald, ix_land, ix_last, ix_lcmp, ix_ldcS, ix_ldiv, ix_lload, ix_lmul, ix_lor, ix_lrem, ix_lret, ix_lshl, ix_lstore, ix_lsub, ix_lsw, ix_max, ix_min, ix_new, ix_newa, ix_nret, ix_oinit, ix_pop2L, ix_popI, ix_pushI, ix_pushL, ix_putI, ix_putJ, ix_putR, ix_putZ, ix_sbald, ix_sgetC, ix_sgetV, ix_slen, ix_strc, ix_tald, ix_tsw, ix_vcall, ix_vret, ix_zret, stL, stL2, kilL, popN, fq_sw, fq_lsw, List.map_cons, List.map_nil, List.getElem?_cons_zero, List.getElem?_cons_succ, Option.toList_some, Option.toList_none, List.cons_append, List.nil_append, List.length_cons, List.length_nil, List.sum_cons, List.sum_nil, cat_i, cat_l, cat_r, true_and, and_true, Nat.zero_add, Nat.add_zero, Nat.le_refl, Nat.zero_le, Nat.reduceAdd, Nat.reduceLeDiff, exists_eq_left', Option.some.injEq, not_true_eq_false, not_false_eq_true, false_implies, true_implies, implies_true, and_self, or_true, true_or, or_false, false_or]
                exact cN _ 0 (by omega) hk hp
            · have hk := w1 q
              refine ⟨X, s, t, T, n, σ, rfl, hx0, hE1, hH, k1 1 hk (by omega), fun g => ?_, fun g => ?_⟩
              · have hp : pPt T n tp σ = pE T n 5 σ.2.2 := by
                  unfold pPt
                  rw [hk, if_neg (by decide), if_pos ⟨by decide, by rw [htp]; exact nb 1 (by omega) g⟩]
                rw [hp] at hR
                simp (disch := omega) only [B_X7_take_116, nI_1, nI_add, nI_clamp, nI_pin, nI_neg, nI_nonneg, nI_leE, nI_ltE, nI_eqE, Nat.not_le, Nat.not_lt, fq_10, fq_01, fq_rr, ix_aald, ix_aast, ix_abs, ix_alen, ix_aload, ix_aret, ix_astore, ix_bald, ix_bast, ix_call, ix_cpyI, ix_cpyJ, ix_dead, ix_dup2, ix_dup2L, ix_dupI, ix_dupR, ix_dupx1, ix_getI, ix_getJ, ix_getR, ix_gfm, ix_gtab, ix_i2b, ix_i2c, ix_i2l, ix_i2s, ix_iadd, ix_iald, ix_iand, ix_iast, ix_icall, ix_icmp_eq, ix_icmp_ge, ix_icmp_gt, ix_icmp_le, ix_icmp_lt, ix_icmp_ne, ix_idiv, ix_if_eq, ix_if_ge, ix_if_gt, ix_if_le, ix_if_lt, ix_if_ne, ix_iinc, ix_iload, ix_imul, ix_ineg, ix_ior, ix_irem, ix_iret, ix_ishl, ix_ishr, ix_istore, ix_isub, ix_iushr, ix_ixor, ix_l2i, ix_ladd, ix_lald, ix_land, ix_last, ix_lcmp, ix_ldcS, ix_ldiv, ix_lload, ix_lmul, ix_lor, ix_lrem, ix_lret, ix_lshl, ix_lstore, ix_lsub, ix_lsw, ix_max, ix_min, ix_new, ix_newa, ix_nret, ix_oinit, ix_pop2L, ix_popI, ix_pushI, ix_pushL, ix_putI, ix_putJ, ix_putR, ix_putZ, ix_sbald, ix_sgetC, ix_sgetV, ix_slen, ix_strc, ix_tald, ix_tsw, ix_vcall, ix_vret, ix_zret, stL, stL2, kilL, popN, fq_sw, fq_lsw, List.map_cons, List.map_nil, List.getElem?_cons_zero, List.getElem?_cons_succ, Option.toList_some, Option.toList_none, List.cons_append, List.nil_append, List.length_cons, List.length_nil, List.sum_cons, List.sum_nil, cat_i, cat_l, cat_r, true_and, and_true, Nat.zero_add, Nat.add_zero, Nat.le_refl, Nat.zero_le, Nat.reduceAdd, Nat.reduceLeDiff, exists_eq_left', Option.some.injEq, not_true_eq_false, not_false_eq_true, false_implies, true_implies, implies_true, and_self, or_true, true_or, or_false, false_or]
                exact flt _ _ (CEX.fx hR (hF.tr csF.rj) rfl)
              · have hp : pPt T n tp σ = pB (pNum T n 2380 0 9 (σ.1, σ.2.1, tE T n σ.2.2)) (pSg T n 59) := by
                  unfold pPt
                  rw [hk, if_neg (by decide), if_neg (fun r => zb 1 (by omega) g (by rw [← htp]; exact r.2)), if_neg (by decide), if_pos rfl]
                simp (disch := omega) only [B_X7_take_116, nI_1, nI_add, nI_clamp, nI_pin, nI_neg, nI_nonneg, nI_leE, nI_ltE, nI_eqE, Nat.not_le, Nat.not_lt, fq_10, fq_01, fq_rr, ix_aald, ix_aast, ix_abs, ix_alen, ix_aload, ix_aret, ix_astore, ix_bald, ix_bast, ix_call, ix_cpyI, ix_cpyJ, ix_dead, ix_dup2, ix_dup2L, ix_dupI, ix_dupR, ix_dupx1, ix_getI, ix_getJ, ix_getR, ix_gfm, ix_gtab, ix_i2b, ix_i2c, ix_i2l, ix_i2s, ix_iadd, ix_iald, ix_iand, ix_iast, ix_icall, ix_icmp_eq, ix_icmp_ge, ix_icmp_gt, ix_icmp_le, ix_icmp_lt, ix_icmp_ne, ix_idiv, ix_if_eq, ix_if_ge, ix_if_gt, ix_if_le, ix_if_lt, ix_if_ne, ix_iinc, ix_iload, ix_imul, ix_ineg, ix_ior, ix_irem, ix_iret, ix_ishl, ix_ishr, ix_istore, ix_isub, ix_iushr, ix_ixor, ix_l2i, ix_ladd, ix_lald, ix_land, ix_last, ix_lcmp, ix_ldcS, ix_ldiv, ix_lload, ix_lmul, ix_lor, ix_lrem, ix_lret, ix_lshl, ix_lstore, ix_lsub, ix_lsw, ix_max, ix_min, ix_new, ix_newa, ix_nret, ix_oinit, ix_pop2L, ix_popI, ix_pushI, ix_pushL, ix_putI, ix_putJ, ix_putR, ix_putZ, ix_sbald, ix_sgetC, ix_sgetV, ix_slen, ix_strc, ix_tald, ix_tsw, ix_vcall, ix_vret, ix_zret, stL, stL2, kilL, popN, fq_sw, fq_lsw, List.map_cons, List.map_nil, List.getElem?_cons_zero, List.getElem?_cons_succ, Option.toList_some, Option.toList_none, List.cons_append, List.nil_append, List.length_cons, List.length_nil, List.sum_cons, List.sum_nil, cat_i, cat_l, cat_r, true_and, and_true, Nat.zero_add, Nat.add_zero, Nat.le_refl, Nat.zero_le, Nat.reduceAdd, Nat.reduceLeDiff, exists_eq_left', Option.some.injEq, not_true_eq_false, not_false_eq_true, false_implies, true_implies, implies_true, and_self, or_true, true_or, or_false, false_or]
                exact cN _ 1 (by omega) hk hp
            · have hk := w2 q
              refine ⟨X, s, t, T, n, σ, rfl, hx0, hE1, hH, k1 2 hk (by omega), fun g => ?_, fun g => ?_⟩
              · have hp : pPt T n tp σ = pE T n 5 σ.2.2 := by
                  unfold pPt
                  rw [hk, if_neg (by decide), if_pos ⟨by decide, by rw [htp]; exact nb 2 (by omega) g⟩]
                rw [hp] at hR
                simp (disch := omega) only [B_X7_take_124, nI_1, nI_add, nI_clamp, nI_pin, nI_neg, nI_nonneg, nI_leE, nI_ltE, nI_eqE, Nat.not_le, Nat.not_lt, fq_10, fq_01, fq_rr, ix_aald, ix_aast, ix_abs, ix_alen, ix_aload, ix_aret, ix_astore, ix_bald, ix_bast, ix_call, ix_cpyI, ix_cpyJ, ix_dead, ix_dup2, ix_dup2L, ix_dupI, ix_dupR, ix_dupx1, ix_getI, ix_getJ, ix_getR, ix_gfm, ix_gtab, ix_i2b, ix_i2c, ix_i2l, ix_i2s, ix_iadd, ix_iald, ix_iand, ix_iast, ix_icall, ix_icmp_eq, ix_icmp_ge, ix_icmp_gt, ix_icmp_le, ix_icmp_lt, ix_icmp_ne, ix_idiv, ix_if_eq, ix_if_ge, ix_if_gt, ix_if_le, ix_if_lt, ix_if_ne, ix_iinc, ix_iload, ix_imul, ix_ineg, ix_ior, ix_irem, ix_iret, ix_ishl, ix_ishr, ix_istore, ix_isub, ix_iushr, ix_ixor, ix_l2i, ix_ladd, ix_lald, ix_land, ix_last, ix_lcmp, ix_ldcS, ix_ldiv, ix_lload, ix_lmul, ix_lor, ix_lrem, ix_lret, ix_lshl, ix_lstore, ix_lsub, ix_lsw, ix_max, ix_min, ix_new, ix_newa, ix_nret, ix_oinit, ix_pop2L, ix_popI, ix_pushI, ix_pushL, ix_putI, ix_putJ, ix_putR, ix_putZ, ix_sbald, ix_sgetC, ix_sgetV, ix_slen, ix_strc, ix_tald, ix_tsw, ix_vcall, ix_vret, ix_zret, stL, stL2, kilL, popN, fq_sw, fq_lsw, List.map_cons, List.map_nil, List.getElem?_cons_zero, List.getElem?_cons_succ, Option.toList_some, Option.toList_none, List.cons_append, List.nil_append, List.length_cons, List.length_nil, List.sum_cons, List.sum_nil, cat_i, cat_l, cat_r, true_and, and_true, Nat.zero_add, Nat.add_zero, Nat.le_refl, Nat.zero_le, Nat.reduceAdd, Nat.reduceLeDiff, exists_eq_left', Option.some.injEq, not_true_eq_false, not_false_eq_true, false_implies, true_implies, implies_true, and_self, or_true, true_or, or_false, false_or]
                exact flt _ _ (CEX.fx hR (hF.tr csF.rj) rfl)
              · have hp : pPt T n tp σ = pB (pNum T n 2381 0 16 (σ.1, σ.2.1, tE T n σ.2.2)) (pSg T n 59) := by
                  unfold pPt
                  rw [hk, if_neg (by decide), if_neg (fun r => zb 2 (by omega) g (by rw [← htp]; exact r.2)), if_neg (by decide), if_neg (by decide), if_pos rfl]
                simp (disch := omega) only [B_X7_take_124, nI_1, nI_add, nI_clamp, nI_pin, nI_neg, nI_nonneg, nI_leE, nI_ltE, nI_eqE, Nat.not_le, Nat.not_lt, fq_10, fq_01, fq_rr, ix_aald, ix_aast, ix_abs, ix_alen, ix_aload, ix_aret, ix_astore, ix_bald, ix_bast, ix_call, ix_cpyI, ix_cpyJ, ix_dead, ix_dup2, ix_dup2L, ix_dupI, ix_dupR, ix_dupx1, ix_getI, ix_getJ, ix_getR, ix_gfm, ix_gtab, ix_i2b, ix_i2c, ix_i2l, ix_i2s, ix_iadd, ix_iald, ix_iand, ix_iast, ix_icall, ix_icmp_eq, ix_icmp_ge, ix_icmp_gt, ix_icmp_le, ix_icmp_lt, ix_icmp_ne, ix_idiv, ix_if_eq, ix_if_ge, ix_if_gt, ix_if_le, ix_if_lt, ix_if_ne, ix_iinc, ix_iload, ix_imul, ix_ineg, ix_ior, ix_irem, ix_iret, ix_ishl, ix_ishr, ix_istore, ix_isub, ix_iushr, ix_ixor, ix_l2i, ix_ladd, ix_lald, ix_land, ix_last, ix_lcmp, ix_ldcS, ix_ldiv, ix_lload, ix_lmul, ix_lor, ix_lrem, ix_lret, ix_lshl, ix_lstore, ix_lsub, ix_lsw, ix_max, ix_min, ix_new, ix_newa, ix_nret, ix_oinit, ix_pop2L, ix_popI, ix_pushI, ix_pushL, ix_putI, ix_putJ, ix_putR, ix_putZ, ix_sbald, ix_sgetC, ix_sgetV, ix_slen, ix_strc, ix_tald, ix_tsw, ix_vcall, ix_vret, ix_zret, stL, stL2, kilL, popN, fq_sw, fq_lsw, List.map_cons, List.map_nil, List.getElem?_cons_zero, List.getElem?_cons_succ, Option.toList_some, Option.toList_none, List.cons_append, List.nil_append, List.length_cons, List.length_nil, List.sum_cons, List.sum_nil, cat_i, cat_l, cat_r, true_and, and_true, Nat.zero_add, Nat.add_zero, Nat.le_refl, Nat.zero_le, Nat.reduceAdd, Nat.reduceLeDiff, exists_eq_left', Option.some.injEq, not_true_eq_false, not_false_eq_true, false_implies, true_implies, implies_true, and_self, or_true, true_or, or_false, false_or]
                exact cN _ 2 (by omega) hk hp
            · have hk := w3 q
              have hp : pPt T n tp σ = pB (pHs T n σ) (pSg T n 59) := by
                unfold pPt
                rw [hk, if_neg (by decide), if_neg (fun r => absurd r.1 (by decide)), if_neg (by decide), if_neg (by decide), if_neg (by decide), if_pos rfl]
              refine ⟨X, s, t, T, n, σ, rfl, hx0, hE1, hH, k1 3 hk (by omega), ?_⟩
              simp (disch := omega) only [B_X7_take_132, nI_1, nI_add, nI_clamp, nI_pin, nI_neg, nI_nonneg, nI_leE, nI_ltE, nI_eqE, Nat.not_le, Nat.not_lt, fq_10, fq_01, fq_rr, ix_aald, ix_aast, ix_abs, ix_alen, ix_aload, ix_aret, ix_astore, ix_bald, ix_bast, ix_call, ix_cpyI, ix_cpyJ, ix_dead, ix_dup2, ix_dup2L, ix_dupI, ix_dupR, ix_dupx1, ix_getI, ix_getJ, ix_getR, ix_gfm, ix_gtab, ix_i2b, ix_i2c, ix_i2l, ix_i2s, ix_iadd, ix_iald, ix_iand, ix_iast, ix_icall, ix_icmp_eq, ix_icmp_ge, ix_icmp_gt, ix_icmp_le, ix_icmp_lt, ix_icmp_ne, ix_idiv, ix_if_eq, ix_if_ge, ix_if_gt, ix_if_le, ix_if_lt, ix_if_ne, ix_iinc, ix_iload, ix_imul, ix_ineg, ix_ior, ix_irem, ix_iret, ix_ishl, ix_ishr, ix_istore, ix_isub, ix_iushr, ix_ixor, ix_l2i, ix_ladd, ix_lald, ix_land, ix_last, ix_lcmp, ix_ldcS, ix_ldiv, ix_lload, ix_lmul, ix_lor, ix_lrem, ix_lret, ix_lshl, ix_lstore, ix_lsub, ix_lsw, ix_max, ix_min, ix_new, ix_newa, ix_nret, ix_oinit, ix_pop2L, ix_popI, ix_pushI, ix_pushL, ix_putI, ix_putJ, ix_putR, ix_putZ, ix_sbald, ix_sgetC, ix_sgetV, ix_slen, ix_strc, ix_tald, ix_tsw, ix_vcall, ix_vret, ix_zret, stL, stL2, kilL, popN, fq_sw, fq_lsw, List.map_cons, List.map_nil, List.getElem?_cons_zero, List.getElem?_cons_succ, Option.toList_some, Option.toList_none, List.cons_append, List.nil_append, List.length_cons, List.length_nil, List.sum_cons, List.sum_nil, cat_i, cat_l, cat_r, true_and, and_true, Nat.zero_add, Nat.add_zero, Nat.le_refl, Nat.zero_le, Nat.reduceAdd, Nat.reduceLeDiff, exists_eq_left', Option.some.injEq, not_true_eq_false, not_false_eq_true, false_implies, true_implies, implies_true, and_self, or_true, true_or, or_false, false_or]
              exact cS _ 3 (by omega) (by omega) hk hp
            · exact b152 (wB (Or.inl (q.trans (by decide))))
            · have hk := w5 q
              have hp : pPt T n tp σ = pB (pPn T n σ) (pSg T n 59) := by
                unfold pPt
                rw [hk, if_neg (by decide), if_neg (fun r => absurd r.1 (by decide)), if_neg (by decide), if_neg (by decide), if_neg (by decide), if_neg (by decide), if_pos rfl]
              refine ⟨X, s, t, T, n, σ, rfl, hx0, hE1, hH, k1 4 hk (by omega), ?_⟩
              simp (disch := omega) only [B_X7_take_140, nI_1, nI_add, nI_clamp, nI_pin, nI_neg, nI_nonneg, nI_leE, nI_ltE, nI_eqE, Nat.not_le, Nat.not_lt, fq_10, fq_01, fq_rr, ix_aald, ix_aast, ix_abs, ix_alen, ix_aload, ix_aret, ix_astore, ix_bald, ix_bast, ix_call, ix_cpyI, ix_cpyJ, ix_dead, ix_dup2, ix_dup2L, ix_dupI, ix_dupR, ix_dupx1, ix_getI, ix_getJ, ix_getR, ix_gfm, ix_gtab, ix_i2b, ix_i2c, ix_i2l, ix_i2s, ix_iadd, ix_iald, ix_iand, ix_iast, ix_icall, ix_icmp_eq, ix_icmp_ge, ix_icmp_gt, ix_icmp_le, ix_icmp_lt, ix_icmp_ne, ix_idiv, ix_if_eq, ix_if_ge, ix_if_gt, ix_if_le, ix_if_lt, ix_if_ne, ix_iinc, ix_iload, ix_imul, ix_ineg, ix_ior, ix_irem, ix_iret, ix_ishl, ix_ishr, ix_istore, ix_isub, ix_iushr, ix_ixor, ix_l2i, ix_ladd, ix_lald, ix_land, ix_last, ix_lcmp, ix_ldcS, ix_ldiv, ix_lload, ix_lmul, ix_lor, ix_lrem, ix_lret, ix_lshl, ix_lstore, ix_lsub, ix_lsw, ix_max, ix_min, ix_new, ix_newa, ix_nret, ix_oinit, ix_pop2L, ix_popI, ix_pushI, ix_pushL, ix_putI, ix_putJ, ix_putR, ix_putZ, ix_sbald, ix_sgetC, ix_sgetV, ix_slen, ix_strc, ix_tald, ix_tsw, ix_vcall, ix_vret, ix_zret, stL, stL2, kilL, popN, fq_sw, fq_lsw, List.map_cons, List.map_nil, List.getElem?_cons_zero, List.getElem?_cons_succ, Option.toList_some, Option.toList_none, List.cons_append, List.nil_append, List.length_cons, List.length_nil, List.sum_cons, List.sum_nil, cat_i, cat_l, cat_r, true_and, and_true, Nat.zero_add, Nat.add_zero, Nat.le_refl, Nat.zero_le, Nat.reduceAdd, Nat.reduceLeDiff, exists_eq_left', Option.some.injEq, not_true_eq_false, not_false_eq_true, false_implies, true_implies, implies_true, and_self, or_true, true_or, or_false, false_or]
              exact cS _ 4 (by omega) (by omega) hk hp
            · exact b152 (wB (Or.inr (Or.inl (q.trans (by decide)))))
            · exact b152 (wB (Or.inr (Or.inr (Or.inl (q.trans (by decide))))))
            · exact b152 (wB (Or.inr (Or.inr (Or.inr (Or.inl (q.trans (by decide)))))))
            · exact b152 (wB (Or.inr (Or.inr (Or.inr (Or.inr (Or.inl (q.trans (by decide))))))))
            · exact b152 (wB (Or.inr (Or.inr (Or.inr (Or.inr (Or.inr (q.trans (by decide))))))))
            · have hk := w11 q
              have hp : pPt T n tp σ = pB (pPc T n σ) (pSg T n 59) := by
                unfold pPt
                rw [hk, if_neg (by decide), if_neg (fun r => absurd r.1 (by decide)), if_neg (by decide), if_neg (by decide), if_neg (by decide), if_neg (by decide), if_neg (by decide)]
              refine ⟨X, s, t, T, n, σ, rfl, hx0, hE1, hH, k1 5 hk (by omega), ?_⟩
              simp (disch := omega) only [B_X7_take_148, nI_1, nI_add, nI_clamp, nI_pin, nI_neg, nI_nonneg, nI_leE, nI_ltE, nI_eqE, Nat.not_le, Nat.not_lt, fq_10, fq_01, fq_rr, ix_aald, ix_aast, ix_abs, ix_alen, ix_aload, ix_aret, ix_astore, ix_bald, ix_bast, ix_call, ix_cpyI, ix_cpyJ, ix_dead, ix_dup2, ix_dup2L, ix_dupI, ix_dupR, ix_dupx1, ix_getI, ix_getJ, ix_getR, ix_gfm, ix_gtab, ix_i2b, ix_i2c, ix_i2l, ix_i2s, ix_iadd, ix_iald, ix_iand, ix_iast, ix_icall, ix_icmp_eq, ix_icmp_ge, ix_icmp_gt, ix_icmp_le, ix_icmp_lt, ix_icmp_ne, ix_idiv, ix_if_eq, ix_if_ge, ix_if_gt, ix_if_le, ix_if_lt, ix_if_ne, ix_iinc, ix_iload, ix_imul, ix_ineg, ix_ior, ix_irem, ix_iret, ix_ishl, ix_ishr, ix_istore, ix_isub, ix_iushr, ix_ixor, ix_l2i, ix_ladd, ix_lald, ix_land, ix_last, ix_lcmp, ix_ldcS, ix_ldiv, ix_lload, ix_lmul, ix_lor, ix_lrem, ix_lret, ix_lshl, ix_lstore, ix_lsub, ix_lsw, ix_max, ix_min, ix_new, ix_newa, ix_nret, ix_oinit, ix_pop2L, ix_popI, ix_pushI, ix_pushL, ix_putI, ix_putJ, ix_putR, ix_putZ, ix_sbald, ix_sgetC, ix_sgetV, ix_slen, ix_strc, ix_tald, ix_tsw, ix_vcall, ix_vret, ix_zret, stL, stL2, kilL, popN, fq_sw, fq_lsw, List.map_cons, List.map_nil, List.getElem?_cons_zero, List.getElem?_cons_succ, Option.toList_some, Option.toList_none, List.cons_append, List.nil_append, List.length_cons, List.length_nil, List.sum_cons, List.sum_nil, cat_i, cat_l, cat_r, true_and, and_true, Nat.zero_add, Nat.add_zero, Nat.le_refl, Nat.zero_le, Nat.reduceAdd, Nat.reduceLeDiff, exists_eq_left', Option.some.injEq, not_true_eq_false, not_false_eq_true, false_implies, true_implies, implies_true, and_self, or_true, true_or, or_false, false_or]
              exact cS _ 5 (by omega) (by omega) hk hp
            · exact b152 (wD ⟨n0, fun r => n1 (r.trans (by decide)), fun r => n2 (r.trans (by decide)), fun r => n3 (r.trans (by decide)), fun r => n5 (r.trans (by decide)), fun r => n11 (r.trans (by decide))⟩)
    refine fq_enter [some (.ref t), some (.int (nI n)), none, none] (by decide +kernel) (Nat.le_of_ble_eq_true rfl) rfl (b_X7_take_0 _ _ _ _ _ _ _ _ ?_)
    have hmin : (if (900 : Nat) < n then nI 900 else nI n) = nI n := if_neg (by omega)
    obtain ⟨-, s2, s3, s4, s5, s6, s7⟩ := hE.1
    simp (disch := omega) only [B_X7_take_0, B_X7_take_7, sp_X6_clear, B_X6_clear_0, sp_X9_clear, B_X9_clear_0, sp_X4_begin, B_X4_begin_0, s4, s5, s2, x1, x2, x3, s1, hmin, hs.k, hs.r0, hs.k1, hs.r1, hs.k2, hs.r2, hs.k3, hs.r3, hs.k4, hs.r4, hs.k12, hs.n1, hs.n2, hs.n3, hs.y0, hs.k5, hs.n5, hs.y1, hs.k6, hs.n6, hs.y2, hs.k7, hs.n7, hs.y3, hs.k8, hs.n8, hs.y4, hs.k9, hs.n9, hs.y5, hs.k10, hs.n10, hs.y6, hs.k11, hs.n11, hs.p0, hs.p1, hs.p2, hs.k13, hs.n13, hs.q0, hs.q1, hs.k14, hs.k15, hs.k16, hs.n16, hs.k17, hs.n17, hs.rH, hs.kH, hs.rP, hs.kP, hs.rQ, hs.kQ, nI_1, nI_add, nI_clamp, nI_pin, nI_neg, nI_nonneg, nI_leE, nI_ltE, nI_eqE, Nat.not_le, Nat.not_lt, fq_10, fq_01, fq_rr, ix_aald, ix_aast, ix_abs, ix_alen, ix_aload, ix_aret, ix_astore, ix_bald, ix_bast, ix_call, ix_cpyI, ix_cpyJ, ix_dead, ix_dup2, ix_dup2L, ix_dupI, ix_dupR, ix_dupx1, ix_getI, ix_getJ, ix_getR, ix_gfm, ix_gtab, ix_i2b, ix_i2c, ix_i2l, ix_i2s, ix_iadd, ix_iald, ix_iand, ix_iast, ix_icall, ix_icmp_eq, ix_icmp_ge, ix_icmp_gt, ix_icmp_le, ix_icmp_lt, ix_icmp_ne, ix_idiv, ix_if_eq, ix_if_ge, ix_if_gt, ix_if_le, ix_if_lt, ix_if_ne, ix_iinc, ix_iload, ix_imul, ix_ineg, ix_ior, ix_irem, ix_iret, ix_ishl, ix_ishr, ix_istore, ix_isub, ix_iushr, ix_ixor, ix_l2i, ix_ladd, ix_lald, ix_land, ix_last, ix_lcmp, ix_ldcS, ix_ldiv, ix_lload, ix_lmul, ix_lor, ix_lrem, ix_lret, ix_lshl, ix_lstore, ix_lsub, ix_lsw, ix_max, ix_min, ix_new, ix_newa, ix_nret, ix_oinit, ix_pop2L, ix_popI, ix_pushI, ix_pushL, ix_putI, ix_putJ, ix_putR, ix_putZ, ix_sbald, ix_sgetC, ix_sgetV, ix_slen, ix_strc, ix_tald, ix_tsw, ix_vcall, ix_vret, ix_zret, stL, stL2, kilL, popN, fq_sw, fq_lsw, List.map_cons, List.map_nil, List.getElem?_cons_zero, List.getElem?_cons_succ, Option.toList_some, Option.toList_none, List.cons_append, List.nil_append, List.length_cons, List.length_nil, List.sum_cons, List.sum_nil, cat_i, cat_l, cat_r, true_and, and_true, Nat.zero_add, Nat.add_zero, Nat.le_refl, Nat.zero_le, Nat.reduceAdd, Nat.reduceLeDiff, exists_eq_left', Option.some.injEq, not_true_eq_false, not_false_eq_true, false_implies, true_implies, implies_true, and_self, or_true, true_or, or_false, false_or]
    refine ⟨X, T, n, 0, rfl, ?_, ?_, ?_, Nat.zero_le _, fun I2 J2 hF2 hH2 => ?_⟩
    · exact hE.mv (by simp (disch := omega) only [u2_ne]) rfl
    · simp (disch := omega) only [u2_same, u2_ck]
      exact if_neg (fun q => by
        have := (nI_ltI (a := 900) (b := n) (by omega) (by omega)).mp q
        omega)
    · simp (disch := omega) only [u2_same, u2_ck]
      rfl
    · obtain ⟨p0, p1, p2, p3, p4, p5, p11, pk, pz⟩ := hA
      have f5 : I2 s 5 = 0 := by
        rw [hF2.1 s (by omega)]
        simp (disch := omega) only [u2_same, u2_ck, u2_ca]
      have f6 : I2 s 6 = 0 := by
        rw [hF2.1 s (by omega)]
        simp (disch := omega) only [u2_same, u2_ck, u2_ca]
      have f7 : I2 s 7 = 0 := by
        rw [hF2.1 s (by omega)]
        simp (disch := omega) only [u2_same, u2_ck, u2_ca]
      have f8 : I2 s 8 = 0 := by
        rw [hF2.1 s (by omega)]
        simp (disch := omega) only [u2_same, u2_ck, u2_ca]
      have f9 : I2 s 9 = 1 := by
        rw [hF2.1 s (by omega)]
        simp (disch := omega) only [u2_same, u2_ck, u2_ca]
      have f10 : I2 s 10 = 2 := by
        rw [hF2.1 s (by omega)]
        simp (disch := omega) only [u2_same, u2_ck, u2_ca]
      have f11 : I2 s 11 = 4 := by
        rw [hF2.1 s (by omega)]
        simp (disch := omega) only [u2_same, u2_ck, u2_ca]
      have f12 : I2 s 12 = 0 := by
        rw [hF2.1 s (by omega)]
        simp (disch := omega) only [u2_same, u2_ck, u2_ca]
      have f13 : I2 s 13 = 0 := by
        rw [hF2.1 s (by omega)]
        simp (disch := omega) only [u2_same, u2_ck, u2_ca]
      have f14 : I2 s 14 = 0 := by
        rw [hF2.1 s (by omega)]
        simp (disch := omega) only [u2_same, u2_ck, u2_ca]
      have f15 : I2 s 15 = 0 := by
        rw [hF2.1 s (by omega)]
        simp (disch := omega) only [u2_same, u2_ck, u2_ca]
      have f16 : I2 s 16 = 0 := by
        rw [hF2.1 s (by omega)]
        simp (disch := omega) only [u2_same, u2_ck, u2_ca]
      have y9 : I2 (s + 4) 9 = 0 := by
        rw [hF2.1 _ (by omega)]
        simp (disch := omega) only [u2_same, u2_ck, u2_ca]
      have y7 : I2 (s + 4) 7 = 0 := by
        rw [hF2.1 _ (by omega)]
        simp (disch := omega) only [u2_same, u2_ck, u2_ca]
      have r10 : I2 (X + 11) 10 = 0 := by
        rw [hF2.2.1 10 (by omega) (by omega) (by omega) (by omega) (by omega) (by omega)]
        simp (disch := omega) only [u2_same, u2_ck, u2_ca]
      have r11 : I2 (X + 11) 11 = -1 := by
        rw [hF2.2.1 11 (by omega) (by omega) (by omega) (by omega) (by omega) (by omega)]
        simp (disch := omega) only [u2_same, u2_ck, u2_ca]
      have it : I2 t = I t := by
        rw [hF2.1 _ (by omega)]
        simp (disch := omega) only [u2_ne]
      have c0 : (A 2376).toNatClampNeg = 0 := by rw [p0]; rfl
      have c1 : (A 2377).toNatClampNeg = 0 := by rw [p1]; rfl
      have c2 : (A 2378).toNatClampNeg = 0 := by rw [p2]; rfl
      simp (disch := omega) only [B_X7_take_15, nI_1, nI_add, nI_clamp, nI_pin, nI_neg, nI_nonneg, nI_leE, nI_ltE, nI_eqE, Nat.not_le, Nat.not_lt, fq_10, fq_01, fq_rr, ix_aald, ix_aast, ix_abs, ix_alen, ix_aload, ix_aret, ix_astore, ix_bald, ix_bast, ix_call, ix_cpyI, ix_cpyJ, ix_dead, ix_dup2, ix_dup2L, ix_dupI, ix_dupR, ix_dupx1, ix_getI, ix_getJ, ix_getR, ix_gfm, ix_gtab, ix_i2b, ix_i2c, ix_i2l, ix_i2s, ix_iadd, ix_iald, ix_iand, ix_iast, ix_icall, ix_icmp_eq, ix_icmp_ge, ix_icmp_gt, ix_icmp_le, ix_icmp_lt, ix_icmp_ne, ix_idiv, ix_if_eq, ix_if_ge, ix_if_gt, ix_if_le, ix_if_lt, ix_if_ne, ix_iinc, ix_iload, ix_imul, ix_ineg, ix_ior, ix_irem, ix_iret, ix_ishl, ix_ishr, ix_istore, ix_isub, ix_iushr, ix_ixor, ix_l2i, ix_ladd, ix_lald, ix_land, ix_last, ix_lcmp, ix_ldcS, ix_ldiv, ix_lload, ix_lmul, ix_lor, ix_lrem, ix_lret, ix_lshl, ix_lstore, ix_lsub, ix_lsw, ix_max, ix_min, ix_new, ix_newa, ix_nret, ix_oinit, ix_pop2L, ix_popI, ix_pushI, ix_pushL, ix_putI, ix_putJ, ix_putR, ix_putZ, ix_sbald, ix_sgetC, ix_sgetV, ix_slen, ix_strc, ix_tald, ix_tsw, ix_vcall, ix_vret, ix_zret, stL, stL2, kilL, popN, fq_sw, fq_lsw, List.map_cons, List.map_nil, List.getElem?_cons_zero, List.getElem?_cons_succ, Option.toList_some, Option.toList_none, List.cons_append, List.nil_append, List.length_cons, List.length_nil, List.sum_cons, List.sum_nil, cat_i, cat_l, cat_r, true_and, and_true, Nat.zero_add, Nat.add_zero, Nat.le_refl, Nat.zero_le, Nat.reduceAdd, Nat.reduceLeDiff, exists_eq_left', Option.some.injEq, not_true_eq_false, not_false_eq_true, false_implies, true_implies, implies_true, and_self, or_true, true_or, or_false, false_or]
      refine lp (n + 1) 0 0 (A, N, 0) I2 J2 none (by dsimp only; omega) (Nat.zero_le _) ⟨hH2, Nat.zero_le _, ⟨⟨?_, ?_, ?_⟩, ⟨f5.trans p0.symm, f6.trans p1.symm, f7.trans p2.symm, f9.trans p3.symm, f10.trans p4.symm, f11.trans p5.symm, f12.trans (pk 2382 (by omega) (by omega)).symm, f16.trans (pk 2383 (by omega) (by omega)).symm, f13.trans (pk 2384 (by omega) (by omega)).symm, f14.trans (pk 2385 (by omega) (by omega)).symm, f15.trans (pk 2386 (by omega) (by omega)).symm⟩, fun i hi => ?_, fun i hi => ?_, 0, by omega, f8, fun i hi => ?_⟩, ⟨fun i hi => ?_, fun i hi => ?_⟩, ⟨p2, p11, fun h _ _ => pz _ (by omega) (by omega), fun p _ _ => ⟨pz _ (by omega) (by omega), pz _ (by omega) (by omega), pz _ (by omega) (by omega)⟩⟩, ⟨y9, y7⟩, r10, r11⟩ ⟨0, by omega, rfl, fun b hb => ?_⟩ ⟨fun a h1 h2 h3 => ?_, fun a h1 _ => hF2.2.2 a h1⟩ hR
      · show okN (A 2376) 6
        rw [p0]
        exact ⟨by decide, by decide⟩
      · show okN (A 2377) 8
        rw [p1]
        exact ⟨by decide, by decide⟩
      · show okN (A 2378) 20
        rw [p2]
        exact ⟨by decide, by decide⟩
      · have hi : i < (A 2376).toNatClampNeg := hi
        omega
      · have hi : i < (A 2377).toNatClampNeg := hi
        omega
      · have hi : i < (A 2378).toNatClampNeg := hi
        omega
      · have hi : i < (A 2376).toNatClampNeg := hi
        omega
      · have hi : i < (A 2377).toNatClampNeg := hi
        omega
      · rw [it]
        rcases (show b = 0 ∨ b = 1 ∨ b = 2 by omega) with rfl | rfl | rfl
        · exact b2
        · exact b3
        · exact b4
      · rw [hF2.1 a h1]
        simp (disch := omega) only [u2_ne]
  · exact h.elim
