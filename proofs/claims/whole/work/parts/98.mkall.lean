/-! the class's object made -/
theorem stS.mv {S S' : Sh} {s : Nat} (hs : stS S s) (e : ∀ a, s ≤ a → a < s + 52 → S'.1 a = S.1 a ∧ S'.2.1 a = S.2.1 a ∧ S'.2.2 a = S.2.2 a) : stS S' s := by
  have e1 : ∀ a, s ≤ a → a < s + 52 → S'.1 a = S.1 a := fun a x y => (e a x y).1
  have e2 : ∀ a, s ≤ a → a < s + 52 → S'.2.1 a = S.2.1 a := fun a x y => (e a x y).2.1
  have e3 : ∀ a, s ≤ a → a < s + 52 → S'.2.2 a = S.2.2 a := fun a x y => (e a x y).2.2
  unfold stS at hs ⊢
  simp +contextual (disch := omega) only [e1, e2, e3]
  exact hs
theorem rdZ.mv {S S' : Sh} {X : Nat} (hs : rdZ S X) (e : ∀ a, X + 10 ≤ a → a < X + 13 → S'.1 a = S.1 a ∧ S'.2.1 a = S.2.1 a ∧ S'.2.2 a = S.2.2 a) : rdZ S' X := by
  have e1 : ∀ a, X + 10 ≤ a → a < X + 13 → S'.1 a = S.1 a := fun a x y => (e a x y).1
  have e2 : ∀ a, X + 10 ≤ a → a < X + 13 → S'.2.1 a = S.2.1 a := fun a x y => (e a x y).2.1
  have e3 : ∀ a, X + 10 ≤ a → a < X + 13 → S'.2.2 a = S.2.2 a := fun a x y => (e a x y).2.2
  unfold rdZ at hs ⊢
  simp +contextual (disch := omega) only [e1, e2, e3]
  exact hs
theorem trS.mv {S S' : Sh} {X : Nat} (hs : trS S X) (e : ∀ a, X ≤ a → a < X + 10 → S'.1 a = S.1 a ∧ S'.2.1 a = S.2.1 a ∧ (a ≠ X → S'.2.2 a = S.2.2 a)) (e0 : S'.2.2 X 0 = S.2.2 X 0) : trS S' X := by
  have e1 : ∀ a, X ≤ a → a < X + 10 → S'.1 a = S.1 a := fun a x y => (e a x y).1
  have e2 : ∀ a, X ≤ a → a < X + 10 → S'.2.1 a = S.2.1 a := fun a x y => (e a x y).2.1
  have e3 : ∀ a, X < a → a < X + 10 → S'.2.2 a = S.2.2 a := fun a x y => (e a (by omega) y).2.2 (by omega)
  unfold trS at hs ⊢
  simp +contextual (disch := omega) only [e1, e2, e3, e0]
  exact hs
theorem stN.mv {I I' : IH} {J J' : JH} {s : Nat} (h : stN I J s) (e : ∀ a, s ≤ a → a < s + 52 → I' a = I a ∧ J' a = J a) : stN I' J' s := ⟨fun b q1 q2 k => by rw [(e b q1 q2).1]; exact h.1 b q1 q2 k, fun b q1 q2 k => by rw [(e b q1 q2).2]; exact h.2 b q1 q2 k⟩
/-- what is below z stays, but for the object's own references -/
def olF (X z : Nat) (S S' : Sh) (I I' : IH) (J J' : JH) : Prop := ∀ b, b < z → S'.1 b = S.1 b ∧ S'.2.1 b = S.2.1 b ∧ (b ≠ X → S'.2.2 b = S.2.2 b) ∧ I' b = I b ∧ J' b = J b
def cR (X k : Nat) : Nat := match k with
  | 1 => X + 10 | 2 => X + 11 | 3 => X + 13 | 4 => X + 170 | 5 => X + 172 | 6 => X + 174 | _ => X + 226
def trN (I : IH) (J : JH) (X : Nat) : Prop := ∀ i, i < 4 → (∀ k, I (X + 2 + 2 * i) k = if k = 1 then -1 else 0) ∧ ∀ k, J (X + 2 + 2 * i + 1) k = 0
def lfN (X : Nat) (S : Sh) (I : IH) : Prop := S.1 X = 1 ∧ S.2.2 X 0 = some (X + 1) ∧ S.1 (X + 1) = 14 ∧ S.2.1 (X + 1) = 60 ∧ ∀ k, I X k = 0
/-- the object as far as it is made -/
def cN (X kk i : Nat) (S0 S : Sh) (I0 I : IH) (J0 J : JH) : Prop := olF X X S0 S I0 I J0 J ∧ trS S X ∧ trN I J X ∧ rdZ S X ∧ (∀ k, 1 ≤ k → k < kk → S.2.2 X k = some (cR X k)) ∧ (S.1 (X + 13) = 19 ∧ S.2.1 (X + 13) = 3) ∧ (∀ i, i < 24 → J (X + 12) i = rsv i) ∧ (∀ k, I (X + 10) k = 0) ∧ (∀ k, I X k = 0 ∧ J X k = 0) ∧ ∀ j, j < i → S.2.2 (X + 13) j = some (X + 14 + 52 * j) ∧ stS S (X + 14 + 52 * j) ∧ stN I J (X + 14 + 52 * j)
theorem cN.mv {X kk i z : Nat} {S0 S S' : Sh} {I0 I I' : IH} {J0 J J' : JH} (h : cN X kk i S0 S I0 I J0 J) (hi : i ≤ 3) (hz : X + 14 + 52 * i ≤ z) (ho : olF X z S S' I I' J J') (hk : ∀ k, k < kk → S'.2.2 X k = S.2.2 X k) (h0 : S'.2.2 X 0 = S.2.2 X 0) : cN X kk i S0 S' I0 I' J0 J' := by
  obtain ⟨h1, h2, h3, h4, h5, h6, h7, h8, h9, h10⟩ := h
  refine ⟨fun b hb => ?_, h2.mv (fun a q1 q2 => ⟨(ho a (by omega)).1, (ho a (by omega)).2.1, (ho a (by omega)).2.2.1⟩) h0, fun i hi => ?_, h4.mv (fun a q1 q2 => ⟨(ho a (by omega)).1, (ho a (by omega)).2.1, (ho a (by omega)).2.2.1 (by omega)⟩), fun k q1 q2 => by rw [hk k q2]; exact h5 k q1 q2, ?_, fun i hi => by rw [(ho _ (by omega)).2.2.2.2]; exact h7 i hi, fun k => by rw [(ho _ (by omega)).2.2.2.1]; exact h8 k, fun k => by rw [(ho X (by omega)).2.2.2.1, (ho X (by omega)).2.2.2.2]; exact h9 k, fun j hj => ?_⟩
  · obtain ⟨x1, x2, x3, x4, x5⟩ := h1 b hb
    obtain ⟨y1, y2, y3, y4, y5⟩ := ho b (by omega)
    exact ⟨y1.trans x1, y2.trans x2, fun q => (y3 q).trans (x3 q), y4.trans x4, y5.trans x5⟩
  · rw [(ho _ (by omega)).2.2.2.1, (ho (X + 2 + 2 * i + 1) (by omega)).2.2.2.2]
    exact h3 i hi
  · rw [(ho _ (by omega)).1, (ho (X + 13) (by omega)).2.1]
    exact h6
  · obtain ⟨x1, x2, x3⟩ := h10 j hj
    refine ⟨by rw [(ho (X + 13) (by omega)).2.2.1 (by omega)]; exact x1, x2.mv (fun a q1 q2 => ⟨(ho a (by omega)).1, (ho a (by omega)).2.1, (ho a (by omega)).2.2.1 (by omega)⟩), x3.mv (fun a q1 q2 => ⟨(ho a (by omega)).2.2.2.1, (ho a (by omega)).2.2.2.2⟩)⟩
theorem cN.ar {X kk i : Nat} {S0 S : Sh} {I0 I : IH} {J0 J : JH} (h : cN X kk i S0 S I0 I J0 J) (hs : stS S (X + 14 + 52 * i)) (hn : stN I J (X + 14 + 52 * i)) : cN X kk (i + 1) S0 (S.1, S.2.1, u2 S.2.2 (X + 13) i (some (X + 14 + 52 * i))) I0 I J0 J := by
  obtain ⟨h1, h2, h3, h4, h5, h6, h7, h8, h9, h10⟩ := h
  have e : ∀ b, b ≠ X + 13 → u2 S.2.2 (X + 13) i (some (X + 14 + 52 * i)) b = S.2.2 b := fun b q => u2_ne q
  refine ⟨fun b hb => ?_, h2.mv (fun a q1 q2 => ⟨rfl, rfl, fun _ => e a (by omega)⟩) (by show u2 S.2.2 (X + 13) i _ X 0 = _; rw [e X (by omega)]), h3, h4.mv (fun a q1 q2 => ⟨rfl, rfl, e a (by omega)⟩), fun k q1 q2 => by show u2 S.2.2 (X + 13) i _ X k = _; rw [e X (by omega)]; exact h5 k q1 q2, h6, h7, h8, h9, fun j hj => ?_⟩
  · obtain ⟨x1, x2, x3, x4, x5⟩ := h1 b hb
    exact ⟨x1, x2, fun q => (e b (by omega)).trans (x3 q), x4, x5⟩
  · by_cases q : j = i
    · subst q
      exact ⟨u2_same _ _ _ _, hs.mv (fun a q1 q2 => ⟨rfl, rfl, e a (by omega)⟩), hn⟩
    · obtain ⟨x1, x2, x3⟩ := h10 j (by omega)
      refine ⟨?_, x2.mv (fun a q1 q2 => ⟨rfl, rfl, e a (by omega)⟩), x3⟩
      show u2 S.2.2 (X + 13) i _ (X + 13) j = _
      rw [u2_ck _ _ _ _ _ _ q]
      exact x1
theorem lfN.mv {X L z : Nat} {S S' : Sh} {I I' : IH} {J J' : JH} (h : lfN L S I) (ho : olF X z S S' I I' J J') (h1 : X < L) (h2 : L + 2 ≤ z) : lfN L S' I' := by
  obtain ⟨a1, a2, a3, a4, a5⟩ := h
  obtain ⟨x1, x2, x3, x4, x5⟩ := ho L (by omega)
  obtain ⟨y1, y2, y3, y4, y5⟩ := ho (L + 1) (by omega)
  exact ⟨x1.trans a1, by rw [x3 (by omega)]; exact a2, y1.trans a3, y2.trans a4, by rw [x4]; exact a5⟩
/-- a new object's numbers -/
def cpN (X : Nat) (I : IH) (J : JH) : Prop := (∀ k, I X k = if k = 11 ∨ k = 12 then -1 else 0) ∧ (∀ k, J X k = if k = 14 then 1 else 0) ∧ trN I J X ∧ (∀ i, i < 24 → J (X + 12) i = rsv i) ∧ (∀ k, I (X + 10) k = 0) ∧ (∀ j, j < 3 → stN I J (X + 14 + 52 * j)) ∧ (∀ k, I (X + 170) k = 0) ∧ stN I J (X + 174) ∧ stN I J (X + 226)
theorem dX11_init_0 : decode cX11_init 0 = .ok (.aload_n 0, 1) := by decide +kernel
theorem dX11_init_1 : decode cX11_init 1 = .ok (.invokespecial 1, 3) := by decide +kernel
theorem dX11_init_4 : decode cX11_init 4 = .ok (.aload_n 0, 1) := by decide +kernel
theorem dX11_init_5 : decode cX11_init 5 = .ok (.iconst 4, 1) := by decide +kernel
theorem dX11_init_6 : decode cX11_init 6 = .ok (.anewarray 9, 3) := by decide +kernel
theorem dX11_init_9 : decode cX11_init 9 = .ok (.putfield 11, 3) := by decide +kernel
theorem dX11_init_12 : decode cX11_init 12 = .ok (.iconst 0, 1) := by decide +kernel
theorem dX11_init_13 : decode cX11_init 13 = .ok (.istore_n 1, 1) := by decide +kernel
theorem dX11_init_14 : decode cX11_init 14 = .ok (.iload_n 1, 1) := by decide +kernel
theorem dX11_init_15 : decode cX11_init 15 = .ok (.iconst 4, 1) := by decide +kernel
theorem dX11_init_16 : decode cX11_init 16 = .ok (.if_icmp .ge 22, 3) := by decide +kernel
theorem dX11_init_19 : decode cX11_init 19 = .ok (.aload_n 0, 1) := by decide +kernel
theorem dX11_init_20 : decode cX11_init 20 = .ok (.getfield 11, 3) := by decide +kernel
theorem dX11_init_23 : decode cX11_init 23 = .ok (.iload_n 1, 1) := by decide +kernel
theorem dX11_init_24 : decode cX11_init 24 = .ok (.new 9, 3) := by decide +kernel
theorem dX11_init_27 : decode cX11_init 27 = .ok (.dup, 1) := by decide +kernel
theorem dX11_init_28 : decode cX11_init 28 = .ok (.invokespecial 15, 3) := by decide +kernel
theorem dX11_init_31 : decode cX11_init 31 = .ok (.aastore, 1) := by decide +kernel
theorem dX11_init_32 : decode cX11_init 32 = .ok (.iinc 1 1, 3) := by decide +kernel
theorem dX11_init_35 : decode cX11_init 35 = .ok (.goto (-21), 3) := by decide +kernel
theorem dX11_init_38 : decode cX11_init 38 = .ok (.aload_n 0, 1) := by decide +kernel
theorem dX11_init_39 : decode cX11_init 39 = .ok (.sipush 900, 3) := by decide +kernel
theorem dX11_init_42 : decode cX11_init 42 = .ok (.newarray .byte, 2) := by decide +kernel
theorem dX11_init_44 : decode cX11_init 44 = .ok (.putfield 16, 3) := by decide +kernel
theorem dX11_init_47 : decode cX11_init 47 = .ok (.aload_n 0, 1) := by decide +kernel
theorem dX11_init_48 : decode cX11_init 48 = .ok (.new 20, 3) := by decide +kernel
theorem dX11_init_51 : decode cX11_init 51 = .ok (.dup, 1) := by decide +kernel
theorem dX11_init_52 : decode cX11_init 52 = .ok (.aload_n 0, 1) := by decide +kernel
theorem dX11_init_53 : decode cX11_init 53 = .ok (.getfield 16, 3) := by decide +kernel
theorem dX11_init_56 : decode cX11_init 56 = .ok (.invokespecial 22, 3) := by decide +kernel
theorem dX11_init_59 : decode cX11_init 59 = .ok (.putfield 25, 3) := by decide +kernel
theorem dX11_init_62 : decode cX11_init 62 = .ok (.aload_n 0, 1) := by decide +kernel
theorem dX11_init_63 : decode cX11_init 63 = .ok (.iconst 3, 1) := by decide +kernel
theorem dX11_init_64 : decode cX11_init 64 = .ok (.anewarray 29, 3) := by decide +kernel
theorem dX11_init_67 : decode cX11_init 67 = .ok (.putfield 31, 3) := by decide +kernel
theorem dX11_init_70 : decode cX11_init 70 = .ok (.iconst 0, 1) := by decide +kernel
theorem dX11_init_71 : decode cX11_init 71 = .ok (.istore_n 1, 1) := by decide +kernel
theorem dX11_init_72 : decode cX11_init 72 = .ok (.iload_n 1, 1) := by decide +kernel
theorem dX11_init_73 : decode cX11_init 73 = .ok (.iconst 3, 1) := by decide +kernel
theorem dX11_init_74 : decode cX11_init 74 = .ok (.if_icmp .ge 22, 3) := by decide +kernel
theorem dX11_init_77 : decode cX11_init 77 = .ok (.aload_n 0, 1) := by decide +kernel
theorem dX11_init_78 : decode cX11_init 78 = .ok (.getfield 31, 3) := by decide +kernel
theorem dX11_init_81 : decode cX11_init 81 = .ok (.iload_n 1, 1) := by decide +kernel
theorem dX11_init_82 : decode cX11_init 82 = .ok (.new 29, 3) := by decide +kernel
theorem dX11_init_85 : decode cX11_init 85 = .ok (.dup, 1) := by decide +kernel
theorem dX11_init_86 : decode cX11_init 86 = .ok (.invokespecial 35, 3) := by decide +kernel
theorem dX11_init_89 : decode cX11_init 89 = .ok (.aastore, 1) := by decide +kernel
theorem dX11_init_90 : decode cX11_init 90 = .ok (.iinc 1 1, 3) := by decide +kernel
theorem dX11_init_93 : decode cX11_init 93 = .ok (.goto (-21), 3) := by decide +kernel
theorem dX11_init_96 : decode cX11_init 96 = .ok (.aload_n 0, 1) := by decide +kernel
theorem dX11_init_97 : decode cX11_init 97 = .ok (.new 36, 3) := by decide +kernel
theorem dX11_init_100 : decode cX11_init 100 = .ok (.dup, 1) := by decide +kernel
theorem dX11_init_101 : decode cX11_init 101 = .ok (.invokespecial 38, 3) := by decide +kernel
theorem dX11_init_104 : decode cX11_init 104 = .ok (.putfield 39, 3) := by decide +kernel
theorem dX11_init_107 : decode cX11_init 107 = .ok (.aload_n 0, 1) := by decide +kernel
theorem dX11_init_108 : decode cX11_init 108 = .ok (.new 36, 3) := by decide +kernel
theorem dX11_init_111 : decode cX11_init 111 = .ok (.dup, 1) := by decide +kernel
theorem dX11_init_112 : decode cX11_init 112 = .ok (.invokespecial 38, 3) := by decide +kernel
theorem dX11_init_115 : decode cX11_init 115 = .ok (.putfield 43, 3) := by decide +kernel
theorem dX11_init_118 : decode cX11_init 118 = .ok (.aload_n 0, 1) := by decide +kernel
theorem dX11_init_119 : decode cX11_init 119 = .ok (.new 29, 3) := by decide +kernel
theorem dX11_init_122 : decode cX11_init 122 = .ok (.dup, 1) := by decide +kernel
theorem dX11_init_123 : decode cX11_init 123 = .ok (.invokespecial 35, 3) := by decide +kernel
theorem dX11_init_126 : decode cX11_init 126 = .ok (.putfield 46, 3) := by decide +kernel
theorem dX11_init_129 : decode cX11_init 129 = .ok (.aload_n 0, 1) := by decide +kernel
theorem dX11_init_130 : decode cX11_init 130 = .ok (.new 29, 3) := by decide +kernel
theorem dX11_init_133 : decode cX11_init 133 = .ok (.dup, 1) := by decide +kernel
theorem dX11_init_134 : decode cX11_init 134 = .ok (.invokespecial 35, 3) := by decide +kernel
theorem dX11_init_137 : decode cX11_init 137 = .ok (.putfield 50, 3) := by decide +kernel
theorem dX11_init_140 : decode cX11_init 140 = .ok (.aload_n 0, 1) := by decide +kernel
theorem dX11_init_141 : decode cX11_init 141 = .ok (.iconst (-1), 1) := by decide +kernel
theorem dX11_init_142 : decode cX11_init 142 = .ok (.putfield 53, 3) := by decide +kernel
theorem dX11_init_145 : decode cX11_init 145 = .ok (.aload_n 0, 1) := by decide +kernel
theorem dX11_init_146 : decode cX11_init 146 = .ok (.iconst (-1), 1) := by decide +kernel
theorem dX11_init_147 : decode cX11_init 147 = .ok (.putfield 57, 3) := by decide +kernel
theorem dX11_init_150 : decode cX11_init 150 = .ok (.aload_n 0, 1) := by decide +kernel
theorem dX11_init_151 : decode cX11_init 151 = .ok (.lconst 1, 1) := by decide +kernel
theorem dX11_init_152 : decode cX11_init 152 = .ok (.putfield 60, 3) := by decide +kernel
theorem dX11_init_155 : decode cX11_init 155 = .ok (.return_, 1) := by decide +kernel
abbrev M_X11_init : MT := (yX11_init, cX11_init, 2, none)
theorem cf_X11_init : fq_cf M_X11_init 0 := ⟨(mg_1 (List.mem_of_getElem? (i := 1) rfl) rfl), (mg_1 (List.mem_of_getElem? (i := 25) rfl) rfl), ⟨by decide, by decide, by decide +kernel⟩, by decide⟩
def B_X11_init_137 (l : Launch) (G : GT) (D mc ms : Nat) (Q : Post) : Cn := ix_putR 11 7 (ix_aload 0 (ix_pushI (-1) (ix_putI 11 11 (ix_aload 0 (ix_pushI (-1) (ix_putI 11 12 (ix_aload 0 (ix_pushL 1 (ix_putJ 11 14 (ix_vret mc ms Q))))))))))
theorem b_X11_init_137 {l : Launch} {G : GT} {D mc ms : Nat} {Q : Post} : Imp l G M_X11_init (D + 5) mc ms Q (B_X11_init_137 l G D mc ms Q) 137 := sx_putR dX11_init_137 fl_FootQuarrel_50 (fun q => by cases q) (by decide) (fun _ _ _ => rfl) (fun _ => ⟨rfl, rfl⟩) (sx_aload_n dX11_init_140 rfl (sx_iconst dX11_init_141 rfl (sx_putI dX11_init_142 fl_FootQuarrel_53 (by decide) (fun _ _ _ => rfl) (fun _ => ⟨rfl, rfl⟩) (sx_aload_n dX11_init_145 rfl (sx_iconst dX11_init_146 rfl (sx_putI dX11_init_147 fl_FootQuarrel_57 (by decide) (fun _ _ _ => rfl) (fun _ => ⟨rfl, rfl⟩) (sx_aload_n dX11_init_150 rfl (sx_lconst dX11_init_151 rfl (sx_putJ dX11_init_152 fl_FootQuarrel_60 (by decide) (fun _ _ _ => rfl) (fun _ => ⟨rfl, rfl⟩) (sx_vret dX11_init_155 rfl))))))))))
def B_X11_init_126 (l : Launch) (G : GT) (D mc ms : Nat) (Q : Post) : Cn := ix_putR 11 6 (ix_aload 0 (ix_new 6 17 mc ms (ix_dupR (ix_icall 1 51 719 mc ms (sp_X6_init G) ((B_X11_init_137 l G D mc ms Q))))))
theorem b_X11_init_126 {l : Launch} {G : GT} {D mc ms : Nat} {Q : Post} : Imp l G M_X11_init (D + 5) mc ms Q (B_X11_init_126 l G D mc ms Q) 126 := sx_putR dX11_init_126 fl_FootQuarrel_46 (fun q => by cases q) (by decide) (fun _ _ _ => rfl) (fun _ => ⟨rfl, rfl⟩) (sx_aload_n dX11_init_129 rfl (sx_new dX11_init_130 ck_6 (mg_1 (List.mem_of_getElem? (i := 150) rfl) rfl) (mg_1 (List.mem_of_getElem? (i := 152) rfl) rfl) (mg_1 (List.mem_of_getElem? (i := 8) rfl) rfl) (by decide) (sx_dupR dX11_init_133 (sx_icall dX11_init_134 cf_X6_init (mg_1 (List.mem_of_getElem? (i := 153) rfl) rfl) (mg_1 (List.mem_of_getElem? (i := 154) rfl) rfl) rfl c_X6_init (b_X11_init_137)))))
def B_X11_init_115 (l : Launch) (G : GT) (D mc ms : Nat) (Q : Post) : Cn := ix_putR 11 5 (ix_aload 0 (ix_new 6 17 mc ms (ix_dupR (ix_icall 1 51 719 mc ms (sp_X6_init G) ((B_X11_init_126 l G D mc ms Q))))))
theorem b_X11_init_115 {l : Launch} {G : GT} {D mc ms : Nat} {Q : Post} : Imp l G M_X11_init (D + 5) mc ms Q (B_X11_init_115 l G D mc ms Q) 115 := sx_putR dX11_init_115 fl_FootQuarrel_43 (fun _ => ⟨rfl, rfl⟩) (by decide) (fun _ _ _ => rfl) (fun _ => ⟨rfl, rfl⟩) (sx_aload_n dX11_init_118 rfl (sx_new dX11_init_119 ck_6 (mg_1 (List.mem_of_getElem? (i := 150) rfl) rfl) (mg_1 (List.mem_of_getElem? (i := 152) rfl) rfl) (mg_1 (List.mem_of_getElem? (i := 8) rfl) rfl) (by decide) (sx_dupR dX11_init_122 (sx_icall dX11_init_123 cf_X6_init (mg_1 (List.mem_of_getElem? (i := 153) rfl) rfl) (mg_1 (List.mem_of_getElem? (i := 154) rfl) rfl) rfl c_X6_init (b_X11_init_126)))))
def B_X11_init_104 (l : Launch) (G : GT) (D mc ms : Nat) (Q : Post) : Cn := ix_putR 11 4 (ix_aload 0 (ix_new 1 11 mc ms (ix_dupR (ix_icall 1 1 60 mc ms (sp_X1_init G) ((B_X11_init_115 l G D mc ms Q))))))
theorem b_X11_init_104 {l : Launch} {G : GT} {D mc ms : Nat} {Q : Post} : Imp l G M_X11_init (D + 5) mc ms Q (B_X11_init_104 l G D mc ms Q) 104 := sx_putR dX11_init_104 fl_FootQuarrel_39 (fun _ => ⟨rfl, rfl⟩) (by decide) (fun _ _ _ => rfl) (fun _ => ⟨rfl, rfl⟩) (sx_aload_n dX11_init_107 rfl (sx_new dX11_init_108 ck_1 (mg_2 (List.mem_of_getElem? (i := 213) rfl) rfl) (mg_2 (List.mem_of_getElem? (i := 214) rfl) rfl) (mg_1 (List.mem_of_getElem? (i := 14) rfl) rfl) (by decide) (sx_dupR dX11_init_111 (sx_icallN dX11_init_112 cf_X1_init (by decide) (mg_2 (List.mem_of_getElem? (i := 216) rfl) rfl) rfl c_X1_init (b_X11_init_115)))))
def B_X11_init_89 (l : Launch) (G : GT) (D mc ms : Nat) (Q : Post) : Cn := ix_aast 19 6 (ix_iinc 1 1 (fqAt l G M_X11_init (D + 5) mc ms Q 72))
theorem b_X11_init_89 {l : Launch} {G : GT} {D mc ms : Nat} {Q : Post} : Imp l G M_X11_init (D + 5) mc ms Q (B_X11_init_89 l G D mc ms Q) 89 := sx_aast dX11_init_89 rfl (by decide) (by decide) rfl (sx_iinc dX11_init_90 rfl (by decide) (sx_goto 72 dX11_init_93 (by decide) ((fun _ _ _ _ _ _ _ _ h => h))))
def B_X11_init_72 (l : Launch) (G : GT) (D mc ms : Nat) (Q : Post) : Cn := ix_iload 1 (ix_pushI 3 (ix_icmp_ge (ix_aload 0 (ix_new 1 11 mc ms (ix_dupR (ix_icall 1 1 60 mc ms (sp_X1_init G) ((B_X11_init_104 l G D mc ms Q)))))) (ix_aload 0 (ix_getR 11 3 (ix_iload 1 (ix_new 6 17 mc ms (ix_dupR (ix_icall 1 51 719 mc ms (sp_X6_init G) ((B_X11_init_89 l G D mc ms Q))))))))))
theorem b_X11_init_72 {l : Launch} {G : GT} {D mc ms : Nat} {Q : Post} : Imp l G M_X11_init (D + 5) mc ms Q (B_X11_init_72 l G D mc ms Q) 72 := sx_iload_n dX11_init_72 rfl (sx_iconst dX11_init_73 rfl (sx_icmp_ge 96 dX11_init_74 (by decide) (sx_aload_n dX11_init_96 rfl (sx_new dX11_init_97 ck_1 (mg_2 (List.mem_of_getElem? (i := 213) rfl) rfl) (mg_2 (List.mem_of_getElem? (i := 214) rfl) rfl) (mg_1 (List.mem_of_getElem? (i := 14) rfl) rfl) (by decide) (sx_dupR dX11_init_100 (sx_icallN dX11_init_101 cf_X1_init (by decide) (mg_2 (List.mem_of_getElem? (i := 216) rfl) rfl) rfl c_X1_init (b_X11_init_104))))) (sx_aload_n dX11_init_77 rfl (sx_getR dX11_init_78 fl_FootQuarrel_31 (fun _ _ _ => rfl) (sx_iload_n dX11_init_81 rfl (sx_new dX11_init_82 ck_6 (mg_1 (List.mem_of_getElem? (i := 150) rfl) rfl) (mg_1 (List.mem_of_getElem? (i := 152) rfl) rfl) (mg_1 (List.mem_of_getElem? (i := 8) rfl) rfl) (by decide) (sx_dupR dX11_init_85 (sx_icall dX11_init_86 cf_X6_init (mg_1 (List.mem_of_getElem? (i := 153) rfl) rfl) (mg_1 (List.mem_of_getElem? (i := 154) rfl) rfl) rfl c_X6_init (b_X11_init_89)))))))))
def B_X11_init_59 (l : Launch) (G : GT) (D mc ms : Nat) (Q : Post) : Cn := ix_putR 11 2 (ix_aload 0 (ix_pushI 3 (ix_newa 19 mc ms (ix_putR 11 3 (ix_pushI 0 (ix_istore 1 (fqAt l G M_X11_init (D + 5) mc ms Q 72)))))))
theorem b_X11_init_59 {l : Launch} {G : GT} {D mc ms : Nat} {Q : Post} : Imp l G M_X11_init (D + 5) mc ms Q (B_X11_init_59 l G D mc ms Q) 59 := sx_putR dX11_init_59 fl_FootQuarrel_25 (fun _ => ⟨rfl, rfl⟩) (by decide) (fun _ _ _ => rfl) (fun _ => ⟨rfl, rfl⟩) (sx_aload_n dX11_init_62 rfl (sx_iconst dX11_init_63 rfl (sx_anewa dX11_init_64 rfl (by decide) (by decide) (mg_1 (List.mem_of_getElem? (i := 150) rfl) rfl) (by decide) (sx_putR dX11_init_67 fl_FootQuarrel_31 (fun _ => ⟨rfl, rfl⟩) (by decide) (fun _ _ _ => rfl) (fun _ => ⟨rfl, rfl⟩) (sx_iconst dX11_init_70 rfl (sx_istore_n dX11_init_71 rfl (by decide) ((fun _ _ _ _ _ _ _ _ h => h))))))))
def B_X11_init_31 (l : Launch) (G : GT) (D mc ms : Nat) (Q : Post) : Cn := ix_aast 20 8 (ix_iinc 1 1 (fqAt l G M_X11_init (D + 5) mc ms Q 14))
theorem b_X11_init_31 {l : Launch} {G : GT} {D mc ms : Nat} {Q : Post} : Imp l G M_X11_init (D + 5) mc ms Q (B_X11_init_31 l G D mc ms Q) 31 := sx_aast dX11_init_31 rfl (by decide) (by decide) rfl (sx_iinc dX11_init_32 rfl (by decide) (sx_goto 14 dX11_init_35 (by decide) ((fun _ _ _ _ _ _ _ _ h => h))))
def B_X11_init_14 (l : Launch) (G : GT) (D mc ms : Nat) (Q : Post) : Cn := ix_iload 1 (ix_pushI 4 (ix_icmp_ge (ix_aload 0 (ix_pushI 900 (ix_newa 13 mc ms (ix_putR 11 1 (ix_aload 0 (ix_new 4 12 mc ms (ix_dupR (ix_aload 0 (ix_getR 11 1 (ix_icall 2 1 24 mc ms (sp_X4_init G) ((B_X11_init_59 l G D mc ms Q)))))))))))) (ix_aload 0 (ix_getR 11 0 (ix_iload 1 (ix_new 8 3 mc ms (ix_dupR (ix_icall 1 1 60 mc ms (sp_X8_init G) ((B_X11_init_31 l G D mc ms Q))))))))))
theorem b_X11_init_14 {l : Launch} {G : GT} {D mc ms : Nat} {Q : Post} : Imp l G M_X11_init (D + 5) mc ms Q (B_X11_init_14 l G D mc ms Q) 14 := sx_iload_n dX11_init_14 rfl (sx_iconst dX11_init_15 rfl (sx_icmp_ge 38 dX11_init_16 (by decide) (sx_aload_n dX11_init_38 rfl (sx_sipush dX11_init_39 rfl (sx_newa dX11_init_42 rfl (by decide) (by decide) (mg_1 (List.mem_of_getElem? (i := 149) rfl) rfl) (sx_putR dX11_init_44 fl_FootQuarrel_16 (fun _ => ⟨rfl, rfl⟩) (by decide) (fun _ _ _ => rfl) (fun _ => ⟨rfl, rfl⟩) (sx_aload_n dX11_init_47 rfl (sx_new dX11_init_48 ck_4 (mg_1 (List.mem_of_getElem? (i := 50) rfl) rfl) (mg_1 (List.mem_of_getElem? (i := 51) rfl) rfl) (mg_1 (List.mem_of_getElem? (i := 3) rfl) rfl) (by decide) (sx_dupR dX11_init_51 (sx_aload_n dX11_init_52 rfl (sx_getR dX11_init_53 fl_FootQuarrel_16 (fun _ _ _ => rfl) (sx_icall dX11_init_56 cf_X4_init (mg_1 (List.mem_of_getElem? (i := 52) rfl) rfl) (mg_1 (List.mem_of_getElem? (i := 53) rfl) rfl) rfl c_X4_init (b_X11_init_59))))))))))) (sx_aload_n dX11_init_19 rfl (sx_getR dX11_init_20 fl_FootQuarrel_11 (fun _ _ _ => rfl) (sx_iload_n dX11_init_23 rfl (sx_new dX11_init_24 ck_8 (mg_1 (List.mem_of_getElem? (i := 29) rfl) rfl) (mg_1 (List.mem_of_getElem? (i := 31) rfl) rfl) (mg_1 (List.mem_of_getElem? (i := 2) rfl) rfl) (by decide) (sx_dupR dX11_init_27 (sx_icallN dX11_init_28 cf_X8_init (by decide) (mg_1 (List.mem_of_getElem? (i := 33) rfl) rfl) rfl c_X8_init (b_X11_init_31)))))))))
def B_X11_init_0 (l : Launch) (G : GT) (D mc ms : Nat) (Q : Post) : Cn := ix_aload 0 (ix_oinit (ix_aload 0 (ix_pushI 4 (ix_newa 20 mc ms (ix_putR 11 0 (ix_pushI 0 (ix_istore 1 (fqAt l G M_X11_init (D + 5) mc ms Q 14))))))))
theorem b_X11_init_0 {l : Launch} {G : GT} {D mc ms : Nat} {Q : Post} : Imp l G M_X11_init (D + 5) mc ms Q (B_X11_init_0 l G D mc ms Q) 0 := sx_aload_n dX11_init_0 rfl (sx_oinit dX11_init_1 (mg_1 (List.mem_of_getElem? (i := 26) rfl) rfl) (mg_1 (List.mem_of_getElem? (i := 27) rfl) rfl) (mg_1 (List.mem_of_getElem? (i := 28) rfl) rfl) (sx_aload_n dX11_init_4 rfl (sx_iconst dX11_init_5 rfl (sx_anewa dX11_init_6 rfl (by decide) (by decide) (mg_1 (List.mem_of_getElem? (i := 29) rfl) rfl) (by decide) (sx_putR dX11_init_9 fl_FootQuarrel_11 (fun _ => ⟨rfl, rfl⟩) (by decide) (fun _ _ _ => rfl) (fun _ => ⟨rfl, rfl⟩) (sx_iconst dX11_init_12 rfl (sx_istore_n dX11_init_13 rfl (by decide) ((fun _ _ _ _ _ _ _ _ h => h)))))))))
def sp_X11_init (G : GT) : Sp := fun as S I J z Q => match as with
  | [.ref a] => ∃ (X : Nat), X = a ∧ S.1 X = 11 ∧ X + 1 = z ∧ (∀ k, I X k = 0) ∧ (∀ k, J X k = 0) ∧ ∀ S' I' J', olF X X S S' I I' J J' → cpS S' X (X + 174) (X + 226) → cpN X I' J' → Q none S' I' J' (X + 278)
  | _ => False
set_option maxHeartbeats 4000000 in
set_option maxRecDepth 20000 in
theorem c_X11_init {l : Launch} {G : GT} {D : Nat} : ∀ as S I J z Q, sp_X11_init G as S I J z Q → fqCall l G M_X11_init (D + 5) 277 5017 as S I J z Q := by
  intro as S I J z Q h
  unfold sp_X11_init at h
  split at h
  · next a =>
    obtain ⟨X, rfl, h1, rfl, hI, hJ, hQ⟩ := h
    -- marks
    have c2 : ∀ (n i : Nat) (S1 : Sh) (I1 : IH) (J1 : JH), i + n = 3 → cN X 4 i S S1 I I1 J J1 → fqAt l G M_X11_init (D + 5) 277 5017 Q 72 [some (.ref X), some (.int (nI i))] [] S1 I1 J1 (X + 14 + 52 * i) (13 + 52 * i) (1195 + 736 * i) := by
      intro n
      induction n with
      | zero =>
        intro i S1 I1 J1 hi hc
        have : i = 3 := by omega
        subst this
        have k11 := hc.2.1.1
        refine b_X11_init_72 _ _ _ _ _ _ _ _ ?_
        simp (disch := omega) only [B_X11_init_72, B_X11_init_104, sp_X1_init, B_X1_init_0, k11, up1_ne, up1_eq, li_3, li_60, nI_1, nI_add, nI_clamp, nI_pin, nI_neg, nI_nonneg, nI_leE, nI_ltE, nI_eqE, Nat.not_le, Nat.not_lt, fq_10, fq_01, fq_rr, ix_aald, ix_aast, ix_abs, ix_alen, ix_aload, ix_aret, ix_astore, ix_bald, ix_bast, ix_call, ix_cpyI, ix_cpyJ, ix_dead, ix_dup2, ix_dup2L, ix_dupI, ix_dupR, ix_dupx1, ix_getI, ix_getJ, ix_getR, ix_gfm, ix_gtab, ix_i2b, ix_i2c, ix_i2l, ix_i2s, ix_iadd, ix_iald, ix_iand, ix_iast, ix_icall, ix_icmp_eq, ix_icmp_ge, ix_icmp_gt, ix_icmp_le, ix_icmp_lt, ix_icmp_ne, ix_idiv, ix_if_eq, ix_if_ge, ix_if_gt, ix_if_le, ix_if_lt, ix_if_ne, ix_iinc, ix_iload, ix_imul, ix_ineg, ix_ior, ix_irem, ix_iret, ix_ishl, ix_ishr, ix_istore, ix_isub, ix_iushr, ix_ixor, ix_l2i, ix_ladd, ix_lald, ix_land, ix_last, ix_lcmp, ix_ldcS, ix_ldiv, ix_lload, ix_lmul, ix_lor, ix_lrem, ix_lret, ix_lshl, ix_lstore, ix_lsub, ix_lsw, ix_max, ix_min, ix_new, ix_newa, ix_nret, ix_oinit, ix_pop2L, ix_popI, ix_pushI, ix_pushL, ix_putI, ix_putJ, ix_putR, ix_putZ, ix_sbald, ix_sgetC, ix_sgetV, ix_slen, ix_strc, ix_tald, ix_tsw, ix_vcall, ix_vret, ix_zret, stL, stL2, kilL, popN, fq_sw, fq_lsw, List.map_cons, List.map_nil, List.getElem?_cons_zero, List.getElem?_cons_succ, Option.toList_some, Option.toList_none, List.cons_append, List.nil_append, List.length_cons, List.length_nil, List.sum_cons, List.sum_nil, cat_i, cat_l, cat_r, true_and, and_true, Nat.zero_add, Nat.add_zero, Nat.le_refl, Nat.zero_le, Nat.reduceAdd, Nat.reduceLeDiff, exists_eq_left', Option.some.injEq, not_true_eq_false, not_false_eq_true, false_implies, true_implies, implies_true, and_self, or_true, true_or, or_false, false_or]
        simp only [Nat.add_assoc, Nat.reduceAdd, Nat.reduceMul]
        generalize hS3 : ((up1 (up1 (up1 (up1 S1.1 (X + 170) 1) (X + 171) 14) (X + 172) 1) (X + 173) 14, up1 (up1 S1.2.1 (X + 171) 60) (X + 173) 60, u2 (up1 (up1 (u2 (u2 (up1 (up1 S1.2.2 (X + 170) fun x => none) (X + 171) fun x => none) (X + 170) 0 (some (X + 171))) X 4 (some (X + 170))) (X + 172) fun x => none) (X + 173) fun x => none) (X + 172) 0 (some (X + 173))) : Sh) = S3
        generalize hI3 : (up1 (up1 (up1 (up1 I1 (X + 170) fun x => 0) (X + 171) fun x => 0) (X + 172) fun x => 0) (X + 173) fun x => 0) = I3
        generalize hJ3 : (up1 (up1 (up1 (up1 J1 (X + 170) fun x => 0) (X + 171) fun x => 0) (X + 172) fun x => 0) (X + 173) fun x => 0) = J3
        have o3 : olF X (X + 170) S1 S3 I1 I3 J1 J3 := by
          rw [← hS3, ← hI3, ← hJ3]
          intro b hb
          refine ⟨?_, ?_, fun q => ?_, ?_, ?_⟩ <;> simp (disch := omega) only [up1_ne, u2_ne]
        have x3 : ∀ k, k ≠ 4 → S3.2.2 X k = S1.2.2 X k := fun k q => by
          rw [← hS3]
          simp (disch := omega) only [up1_ne, u2_ne, u2_ck]
        have r4 : S3.2.2 X 4 = some (X + 170) := by
          rw [← hS3]
          simp (disch := omega) only [up1_ne, u2_ne, u2_same]
        have l3 : lfN (X + 170) S3 I3 := by
          rw [← hS3, ← hI3]
          refine ⟨?_, ?_, ?_, ?_, fun k => ?_⟩ <;> simp (disch := omega) only [Nat.add_assoc, Nat.reduceAdd, up1_ne, up1_eq, u2_ne, u2_same]
        have l3' : lfN (X + 172) S3 I3 := by
          rw [← hS3, ← hI3]
          refine ⟨?_, ?_, ?_, ?_, fun k => ?_⟩ <;> simp (disch := omega) only [Nat.add_assoc, Nat.reduceAdd, up1_ne, up1_eq, u2_ne, u2_same]
        clear hS3 hI3 hJ3
        have hc3 := hc.mv (by omega) (by omega) o3 (fun k hk => x3 k (by omega)) (x3 0 (by omega))
        have k3 := hc3.2.1.1
        have k172 := l3'.1
        simp (disch := omega) only [B_X11_init_115, k3, k172, up1_ne, up1_eq, nI_1, nI_add, nI_clamp, nI_pin, nI_neg, nI_nonneg, nI_leE, nI_ltE, nI_eqE, Nat.not_le, Nat.not_lt, fq_10, fq_01, fq_rr, ix_aald, ix_aast, ix_abs, ix_alen, ix_aload, ix_aret, ix_astore, ix_bald, ix_bast, ix_call, ix_cpyI, ix_cpyJ, ix_dead, ix_dup2, ix_dup2L, ix_dupI, ix_dupR, ix_dupx1, ix_getI, ix_getJ, ix_getR, ix_gfm, ix_gtab, ix_i2b, ix_i2c, ix_i2l, ix_i2s, ix_iadd, ix_iald, ix_iand, ix_iast, ix_icall, ix_icmp_eq, ix_icmp_ge, ix_icmp_gt, ix_icmp_le, ix_icmp_lt, ix_icmp_ne, ix_idiv, ix_if_eq, ix_if_ge, ix_if_gt, ix_if_le, ix_if_lt, ix_if_ne, ix_iinc, ix_iload, ix_imul, ix_ineg, ix_ior, ix_irem, ix_iret, ix_ishl, ix_ishr, ix_istore, ix_isub, ix_iushr, ix_ixor, ix_l2i, ix_ladd, ix_lald, ix_land, ix_last, ix_lcmp, ix_ldcS, ix_ldiv, ix_lload, ix_lmul, ix_lor, ix_lrem, ix_lret, ix_lshl, ix_lstore, ix_lsub, ix_lsw, ix_max, ix_min, ix_new, ix_newa, ix_nret, ix_oinit, ix_pop2L, ix_popI, ix_pushI, ix_pushL, ix_putI, ix_putJ, ix_putR, ix_putZ, ix_sbald, ix_sgetC, ix_sgetV, ix_slen, ix_strc, ix_tald, ix_tsw, ix_vcall, ix_vret, ix_zret, stL, stL2, kilL, popN, fq_sw, fq_lsw, List.map_cons, List.map_nil, List.getElem?_cons_zero, List.getElem?_cons_succ, Option.toList_some, Option.toList_none, List.cons_append, List.nil_append, List.length_cons, List.length_nil, List.sum_cons, List.sum_nil, cat_i, cat_l, cat_r, true_and, and_true, Nat.zero_add, Nat.add_zero, Nat.le_refl, Nat.zero_le, Nat.reduceAdd, Nat.reduceLeDiff, exists_eq_left', Option.some.injEq, not_true_eq_false, not_false_eq_true, false_implies, true_implies, implies_true, and_self, or_true, true_or, or_false, false_or]
        refine ⟨X + 174, rfl, up1_eq, rfl, fun k => by rw [up1_eq], fun k => by rw [up1_eq], fun S4 I4 J4 hF4 hs4 hn4 => ?_⟩
        have o4 : olF X (X + 174) S3 S4 I3 I4 J3 J4 := fun b hb => by
          obtain ⟨x1, x2, x3, x4, x5⟩ := hF4 b hb
          refine ⟨x1.trans (up1_ne (by omega)), x2, fun q => ?_, x4.trans (up1_ne (by omega)), x5.trans (up1_ne (by omega))⟩
          rw [x3]
          show up1 (u2 S3.2.2 X 5 (some (X + 172))) (X + 174) (fun _ => none) b = _
          rw [up1_ne (by omega), u2_ne q]
        have eX4 : S4.2.2 X = u2 S3.2.2 X 5 (some (X + 172)) X := by
          rw [(hF4 X (by omega)).2.2.1]
          show up1 (u2 S3.2.2 X 5 (some (X + 172))) (X + 174) (fun _ => none) X = _
          rw [up1_ne (by omega)]
        have x4 : ∀ k, k ≠ 5 → S4.2.2 X k = S3.2.2 X k := fun k q => by rw [eX4, u2_ck _ _ _ _ _ _ q]
        have r5 : S4.2.2 X 5 = some (X + 172) := by rw [eX4, u2_same]
        have hc4 := hc3.mv (by omega) (by omega) o4 (fun k hk => x4 k (by omega)) (x4 0 (by omega))
        have l4 := l3.mv o4 (by omega) (by omega)
        have l4' := l3'.mv o4 (by omega) (by omega)
        have k4 := hc4.2.1.1
        have k174 := hs4.k
        simp (disch := omega) only [B_X11_init_126, k4, k174, up1_ne, up1_eq, nI_1, nI_add, nI_clamp, nI_pin, nI_neg, nI_nonneg, nI_leE, nI_ltE, nI_eqE, Nat.not_le, Nat.not_lt, fq_10, fq_01, fq_rr, ix_aald, ix_aast, ix_abs, ix_alen, ix_aload, ix_aret, ix_astore, ix_bald, ix_bast, ix_call, ix_cpyI, ix_cpyJ, ix_dead, ix_dup2, ix_dup2L, ix_dupI, ix_dupR, ix_dupx1, ix_getI, ix_getJ, ix_getR, ix_gfm, ix_gtab, ix_i2b, ix_i2c, ix_i2l, ix_i2s, ix_iadd, ix_iald, ix_iand, ix_iast, ix_icall, ix_icmp_eq, ix_icmp_ge, ix_icmp_gt, ix_icmp_le, ix_icmp_lt, ix_icmp_ne, ix_idiv, ix_if_eq, ix_if_ge, ix_if_gt, ix_if_le, ix_if_lt, ix_if_ne, ix_iinc, ix_iload, ix_imul, ix_ineg, ix_ior, ix_irem, ix_iret, ix_ishl, ix_ishr, ix_istore, ix_isub, ix_iushr, ix_ixor, ix_l2i, ix_ladd, ix_lald, ix_land, ix_last, ix_lcmp, ix_ldcS, ix_ldiv, ix_lload, ix_lmul, ix_lor, ix_lrem, ix_lret, ix_lshl, ix_lstore, ix_lsub, ix_lsw, ix_max, ix_min, ix_new, ix_newa, ix_nret, ix_oinit, ix_pop2L, ix_popI, ix_pushI, ix_pushL, ix_putI, ix_putJ, ix_putR, ix_putZ, ix_sbald, ix_sgetC, ix_sgetV, ix_slen, ix_strc, ix_tald, ix_tsw, ix_vcall, ix_vret, ix_zret, stL, stL2, kilL, popN, fq_sw, fq_lsw, List.map_cons, List.map_nil, List.getElem?_cons_zero, List.getElem?_cons_succ, Option.toList_some, Option.toList_none, List.cons_append, List.nil_append, List.length_cons, List.length_nil, List.sum_cons, List.sum_nil, cat_i, cat_l, cat_r, true_and, and_true, Nat.zero_add, Nat.add_zero, Nat.le_refl, Nat.zero_le, Nat.reduceAdd, Nat.reduceLeDiff, exists_eq_left', Option.some.injEq, not_true_eq_false, not_false_eq_true, false_implies, true_implies, implies_true, and_self, or_true, true_or, or_false, false_or]
        refine ⟨X + 226, rfl, up1_eq, rfl, fun k => by rw [up1_eq], fun k => by rw [up1_eq], fun S5 I5 J5 hF5 hs5 hn5 => ?_⟩
        have o5 : olF X (X + 226) S4 S5 I4 I5 J4 J5 := fun b hb => by
          obtain ⟨x1, x2, x3, x4, x5⟩ := hF5 b hb
          refine ⟨x1.trans (up1_ne (by omega)), x2, fun q => ?_, x4.trans (up1_ne (by omega)), x5.trans (up1_ne (by omega))⟩
          rw [x3]
          show up1 (u2 S4.2.2 X 6 (some (X + 174))) (X + 226) (fun _ => none) b = _
          rw [up1_ne (by omega), u2_ne q]
        have eX5 : S5.2.2 X = u2 S4.2.2 X 6 (some (X + 174)) X := by
          rw [(hF5 X (by omega)).2.2.1]
          show up1 (u2 S4.2.2 X 6 (some (X + 174))) (X + 226) (fun _ => none) X = _
          rw [up1_ne (by omega)]
        have x5 : ∀ k, k ≠ 6 → S5.2.2 X k = S4.2.2 X k := fun k q => by rw [eX5, u2_ck _ _ _ _ _ _ q]
        have r6 : S5.2.2 X 6 = some (X + 174) := by rw [eX5, u2_same]
        have hc5 := hc4.mv (by omega) (by omega) o5 (fun k hk => x5 k (by omega)) (x5 0 (by omega))
        have l5 := l4.mv o5 (by omega) (by omega)
        have l5' := l4'.mv o5 (by omega) (by omega)
        have s5' : stS S5 (X + 174) := hs4.mv (fun a q1 q2 => ⟨(o5 a (by omega)).1, (o5 a (by omega)).2.1, (o5 a (by omega)).2.2.1 (by omega)⟩)
        have n5' : stN I5 J5 (X + 174) := hn4.mv (fun a q1 q2 => ⟨(o5 a (by omega)).2.2.2.1, (o5 a (by omega)).2.2.2.2⟩)
        have k5 := hc5.2.1.1
        have k226 := hs5.k
        simp (disch := omega) only [B_X11_init_137, k5, k226, up1_ne, up1_eq, nI_1, nI_add, nI_clamp, nI_pin, nI_neg, nI_nonneg, nI_leE, nI_ltE, nI_eqE, Nat.not_le, Nat.not_lt, fq_10, fq_01, fq_rr, ix_aald, ix_aast, ix_abs, ix_alen, ix_aload, ix_aret, ix_astore, ix_bald, ix_bast, ix_call, ix_cpyI, ix_cpyJ, ix_dead, ix_dup2, ix_dup2L, ix_dupI, ix_dupR, ix_dupx1, ix_getI, ix_getJ, ix_getR, ix_gfm, ix_gtab, ix_i2b, ix_i2c, ix_i2l, ix_i2s, ix_iadd, ix_iald, ix_iand, ix_iast, ix_icall, ix_icmp_eq, ix_icmp_ge, ix_icmp_gt, ix_icmp_le, ix_icmp_lt, ix_icmp_ne, ix_idiv, ix_if_eq, ix_if_ge, ix_if_gt, ix_if_le, ix_if_lt, ix_if_ne, ix_iinc, ix_iload, ix_imul, ix_ineg, ix_ior, ix_irem, ix_iret, ix_ishl, ix_ishr, ix_istore, ix_isub, ix_iushr, ix_ixor, ix_l2i, ix_ladd, ix_lald, ix_land, ix_last, ix_lcmp, ix_ldcS, ix_ldiv, ix_lload, ix_lmul, ix_lor, ix_lrem, ix_lret, ix_lshl, ix_lstore, ix_lsub, ix_lsw, ix_max, ix_min, ix_new, ix_newa, ix_nret, ix_oinit, ix_pop2L, ix_popI, ix_pushI, ix_pushL, ix_putI, ix_putJ, ix_putR, ix_putZ, ix_sbald, ix_sgetC, ix_sgetV, ix_slen, ix_strc, ix_tald, ix_tsw, ix_vcall, ix_vret, ix_zret, stL, stL2, kilL, popN, fq_sw, fq_lsw, List.map_cons, List.map_nil, List.getElem?_cons_zero, List.getElem?_cons_succ, Option.toList_some, Option.toList_none, List.cons_append, List.nil_append, List.length_cons, List.length_nil, List.sum_cons, List.sum_nil, cat_i, cat_l, cat_r, true_and, and_true, Nat.zero_add, Nat.add_zero, Nat.le_refl, Nat.zero_le, Nat.reduceAdd, Nat.reduceLeDiff, exists_eq_left', Option.some.injEq, not_true_eq_false, not_false_eq_true, false_implies, true_implies, implies_true, and_self, or_true, true_or, or_false, false_or]
        have e7 : ∀ b, b ≠ X → u2 S5.2.2 X 7 (some (X + 226)) b = S5.2.2 b := fun b q => u2_ne q
        have e7k : ∀ k, k ≠ 7 → u2 S5.2.2 X 7 (some (X + 226)) X k = S5.2.2 X k := fun k q => u2_ck _ _ _ _ _ _ q
        have hc6 : cN X 4 3 S (S5.1, S5.2.1, u2 S5.2.2 X 7 (some (X + 226))) I I5 J J5 := hc5.mv (by omega) (Nat.le_refl _) (fun b hb => ⟨rfl, rfl, fun q => e7 b q, rfl, rfl⟩) (fun k hk => e7k k (by omega)) (e7k 0 (by omega))
        obtain ⟨d1, d2, d3, d4, d5, d6, d7, d8, d9, d10⟩ := hc6
        have iX : ∀ b, b ≠ X → u2 (u2 I5 X 11 (-1)) X 12 (-1) b = I5 b := fun b q => by rw [u2_ne q, u2_ne q]
        have jX : ∀ b, b ≠ X → u2 J5 X 14 1 b = J5 b := fun b q => u2_ne q
        refine hQ _ _ _ (fun b hb => ?_) ⟨d2, d4, ⟨d5 1 (by omega) (by omega), d5 2 (by omega) (by omega), d5 3 (by omega) (by omega), ?_, ?_, ?_, u2_same _ _ _ _⟩, ⟨d6.1, d6.2, l5.1, ?_, l5.2.2.1, l5.2.2.2.1, l5'.1, ?_, l5'.2.2.1, l5'.2.2.2.1⟩, fun i hi => ⟨(d10 i hi).1, (d10 i hi).2.1⟩, s5'.mv (fun a q1 q2 => ⟨rfl, rfl, e7 a (by omega)⟩), hs5.mv (fun a q1 q2 => ⟨rfl, rfl, e7 a (by omega)⟩), Or.inl ⟨rfl, rfl⟩⟩ ⟨fun k => ?_, fun k => ?_, fun i hi => ?_, fun i hi => ?_, fun k => ?_, fun j hj => ?_, fun k => ?_, ?_, ?_⟩
        · obtain ⟨x1, x2, x3, x4, x5⟩ := d1 b hb
          exact ⟨x1, x2, x3, (iX b (by omega)).trans x4, (jX b (by omega)).trans x5⟩
        · show u2 S5.2.2 X 7 _ X 4 = _
          rw [e7k 4 (by omega), x5 4 (by omega), x4 4 (by omega)]
          exact r4
        · show u2 S5.2.2 X 7 _ X 5 = _
          rw [e7k 5 (by omega), x5 5 (by omega)]
          exact r5
        · show u2 S5.2.2 X 7 _ X 6 = _
          rw [e7k 6 (by omega)]
          exact r6
        · show u2 S5.2.2 X 7 _ (X + 170) 0 = _
          rw [e7 _ (by omega)]
          exact l5.2.1
        · show u2 S5.2.2 X 7 _ (X + 172) 0 = _
          rw [e7 _ (by omega)]
          exact l5'.2.1
        · by_cases q12 : k = 12
          · subst q12
            rw [u2_same, if_pos (Or.inr rfl)]
          · by_cases q11 : k = 11
            · subst q11
              rw [u2_ck _ _ _ _ _ _ (by omega), u2_same, if_pos (Or.inl rfl)]
            · rw [u2_ck _ _ _ _ _ _ q12, u2_ck _ _ _ _ _ _ q11, if_neg (by omega)]
              exact (d9 k).1
        · by_cases q14 : k = 14
          · subst q14
            rw [u2_same, if_pos rfl]
          · rw [u2_ck _ _ _ _ _ _ q14, if_neg q14]
            exact (d9 k).2
        · rw [iX _ (by omega), jX _ (by omega)]
          exact d3 i hi
        · rw [jX _ (by omega)]
          exact d7 i hi
        · rw [iX _ (by omega)]
          exact d8 k
        · exact (d10 j hj).2.2.mv (fun a q1 q2 => ⟨iX a (by omega), jX a (by omega)⟩)
        · rw [iX _ (by omega)]
          exact l5.2.2.2.2 k
        · exact n5'.mv (fun a q1 q2 => ⟨iX a (by omega), jX a (by omega)⟩)
        · exact hn5.mv (fun a q1 q2 => ⟨iX a (by omega), jX a (by omega)⟩)
      | succ n ih =>
        intro i S1 I1 J1 hi hc
        have k11 := hc.2.1.1
        have r3 : S1.2.2 X 3 = some (X + 13) := hc.2.2.2.2.1 3 (by omega) (by omega)
        refine b_X11_init_72 _ _ _ _ _ _ _ _ ?_
        simp (disch := omega) only [B_X11_init_72, k11, r3, up1_ne, up1_eq, li_3, nI_1, nI_add, nI_clamp, nI_pin, nI_neg, nI_nonneg, nI_leE, nI_ltE, nI_eqE, Nat.not_le, Nat.not_lt, fq_10, fq_01, fq_rr, ix_aald, ix_aast, ix_abs, ix_alen, ix_aload, ix_aret, ix_astore, ix_bald, ix_bast, ix_call, ix_cpyI, ix_cpyJ, ix_dead, ix_dup2, ix_dup2L, ix_dupI, ix_dupR, ix_dupx1, ix_getI, ix_getJ, ix_getR, ix_gfm, ix_gtab, ix_i2b, ix_i2c, ix_i2l, ix_i2s, ix_iadd, ix_iald, ix_iand, ix_iast, ix_icall, ix_icmp_eq, ix_icmp_ge, ix_icmp_gt, ix_icmp_le, ix_icmp_lt, ix_icmp_ne, ix_idiv, ix_if_eq, ix_if_ge, ix_if_gt, ix_if_le, ix_if_lt, ix_if_ne, ix_iinc, ix_iload, ix_imul, ix_ineg, ix_ior, ix_irem, ix_iret, ix_ishl, ix_ishr, ix_istore, ix_isub, ix_iushr, ix_ixor, ix_l2i, ix_ladd, ix_lald, ix_land, ix_last, ix_lcmp, ix_ldcS, ix_ldiv, ix_lload, ix_lmul, ix_lor, ix_lrem, ix_lret, ix_lshl, ix_lstore, ix_lsub, ix_lsw, ix_max, ix_min, ix_new, ix_newa, ix_nret, ix_oinit, ix_pop2L, ix_popI, ix_pushI, ix_pushL, ix_putI, ix_putJ, ix_putR, ix_putZ, ix_sbald, ix_sgetC, ix_sgetV, ix_slen, ix_strc, ix_tald, ix_tsw, ix_vcall, ix_vret, ix_zret, stL, stL2, kilL, popN, fq_sw, fq_lsw, List.map_cons, List.map_nil, List.getElem?_cons_zero, List.getElem?_cons_succ, Option.toList_some, Option.toList_none, List.cons_append, List.nil_append, List.length_cons, List.length_nil, List.sum_cons, List.sum_nil, cat_i, cat_l, cat_r, true_and, and_true, Nat.zero_add, Nat.add_zero, Nat.le_refl, Nat.zero_le, Nat.reduceAdd, Nat.reduceLeDiff, exists_eq_left', Option.some.injEq, not_true_eq_false, not_false_eq_true, false_implies, true_implies, implies_true, and_self, or_true, true_or, or_false, false_or]
        refine ⟨fun q => absurd q (by omega), fun _ => ⟨by omega, by omega, by omega, by omega, X + 14 + 52 * i, rfl, up1_eq, rfl, fun k => by rw [up1_eq], fun k => by rw [up1_eq], fun S2 I2 J2 hF hs hn => ?_⟩⟩
        have o2 : olF X (X + 14 + 52 * i) S1 S2 I1 I2 J1 J2 := fun b hb => by
          obtain ⟨x1, x2, x3, x4, x5⟩ := hF b hb
          refine ⟨x1.trans (up1_ne (by omega)), x2, fun q => ?_, x4.trans (up1_ne (by omega)), x5.trans (up1_ne (by omega))⟩
          rw [x3]
          show up1 S1.2.2 (X + 14 + 52 * i) (fun _ => none) b = _
          rw [up1_ne (by omega)]
        have eX : S2.2.2 X = S1.2.2 X := by
          rw [(hF X (by omega)).2.2.1]
          show up1 S1.2.2 (X + 14 + 52 * i) (fun _ => none) X = _
          rw [up1_ne (by omega)]
        have hc2 := hc.mv (by omega) (Nat.le_refl _) o2 (fun k _ => by rw [eX]) (by rw [eX])
        have k19 := hc2.2.2.2.2.2.1.1
        have n3 := hc2.2.2.2.2.2.1.2
        have k6 := hs.k
        simp (disch := omega) only [B_X11_init_89, k19, n3, k6, nI_1, nI_add, nI_clamp, nI_pin, nI_neg, nI_nonneg, nI_leE, nI_ltE, nI_eqE, Nat.not_le, Nat.not_lt, fq_10, fq_01, fq_rr, ix_aald, ix_aast, ix_abs, ix_alen, ix_aload, ix_aret, ix_astore, ix_bald, ix_bast, ix_call, ix_cpyI, ix_cpyJ, ix_dead, ix_dup2, ix_dup2L, ix_dupI, ix_dupR, ix_dupx1, ix_getI, ix_getJ, ix_getR, ix_gfm, ix_gtab, ix_i2b, ix_i2c, ix_i2l, ix_i2s, ix_iadd, ix_iald, ix_iand, ix_iast, ix_icall, ix_icmp_eq, ix_icmp_ge, ix_icmp_gt, ix_icmp_le, ix_icmp_lt, ix_icmp_ne, ix_idiv, ix_if_eq, ix_if_ge, ix_if_gt, ix_if_le, ix_if_lt, ix_if_ne, ix_iinc, ix_iload, ix_imul, ix_ineg, ix_ior, ix_irem, ix_iret, ix_ishl, ix_ishr, ix_istore, ix_isub, ix_iushr, ix_ixor, ix_l2i, ix_ladd, ix_lald, ix_land, ix_last, ix_lcmp, ix_ldcS, ix_ldiv, ix_lload, ix_lmul, ix_lor, ix_lrem, ix_lret, ix_lshl, ix_lstore, ix_lsub, ix_lsw, ix_max, ix_min, ix_new, ix_newa, ix_nret, ix_oinit, ix_pop2L, ix_popI, ix_pushI, ix_pushL, ix_putI, ix_putJ, ix_putR, ix_putZ, ix_sbald, ix_sgetC, ix_sgetV, ix_slen, ix_strc, ix_tald, ix_tsw, ix_vcall, ix_vret, ix_zret, stL, stL2, kilL, popN, fq_sw, fq_lsw, List.map_cons, List.map_nil, List.getElem?_cons_zero, List.getElem?_cons_succ, Option.toList_some, Option.toList_none, List.cons_append, List.nil_append, List.length_cons, List.length_nil, List.sum_cons, List.sum_nil, cat_i, cat_l, cat_r, true_and, and_true, Nat.zero_add, Nat.add_zero, Nat.le_refl, Nat.zero_le, Nat.reduceAdd, Nat.reduceLeDiff, exists_eq_left', Option.some.injEq, not_true_eq_false, not_false_eq_true, false_implies, true_implies, implies_true, and_self, or_true, true_or, or_false, false_or]
        exact ih (i + 1) _ I2 J2 (by omega) (hc2.ar hs hn)
    -- trays
    have c1 : ∀ (n i : Nat) (S1 : Sh) (I1 : IH) (J1 : JH), i + n = 4 → olF X X S S1 I I1 J J1 → S1.1 X = 11 → S1.2.2 X 0 = some (X + 1) → S1.1 (X + 1) = 20 → S1.2.1 (X + 1) = 4 → (∀ k, I1 X k = 0 ∧ J1 X k = 0) → (∀ j, j < i → S1.2.2 (X + 1) j = some (X + 2 + 2 * j) ∧ S1.1 (X + 2 + 2 * j) = 8 ∧ S1.2.2 (X + 2 + 2 * j) 0 = some (X + 2 + 2 * j + 1) ∧ S1.1 (X + 2 + 2 * j + 1) = 15 ∧ S1.2.1 (X + 2 + 2 * j + 1) = 60 ∧ (∀ k, I1 (X + 2 + 2 * j) k = if k = 1 then -1 else 0) ∧ ∀ k, J1 (X + 2 + 2 * j + 1) k = 0) → fqAt l G M_X11_init (D + 5) 277 5017 Q 14 [some (.ref X), some (.int (nI i))] [] S1 I1 J1 (X + 2 + 2 * i) (1 + 2 * i) (4 + 63 * i) := by
      intro n
      induction n with
      | zero =>
        intro i S1 I1 J1 hi ho k11 r0 k20 n4 hz ht
        have : i = 4 := by omega
        subst this
        refine b_X11_init_14 _ _ _ _ _ _ _ _ ?_
        simp (disch := omega) only [B_X11_init_14, k11, up1_ne, up1_eq, u2_ne, u2_same, li_4, li_900, nI_1, nI_add, nI_clamp, nI_pin, nI_neg, nI_nonneg, nI_leE, nI_ltE, nI_eqE, Nat.not_le, Nat.not_lt, fq_10, fq_01, fq_rr, ix_aald, ix_aast, ix_abs, ix_alen, ix_aload, ix_aret, ix_astore, ix_bald, ix_bast, ix_call, ix_cpyI, ix_cpyJ, ix_dead, ix_dup2, ix_dup2L, ix_dupI, ix_dupR, ix_dupx1, ix_getI, ix_getJ, ix_getR, ix_gfm, ix_gtab, ix_i2b, ix_i2c, ix_i2l, ix_i2s, ix_iadd, ix_iald, ix_iand, ix_iast, ix_icall, ix_icmp_eq, ix_icmp_ge, ix_icmp_gt, ix_icmp_le, ix_icmp_lt, ix_icmp_ne, ix_idiv, ix_if_eq, ix_if_ge, ix_if_gt, ix_if_le, ix_if_lt, ix_if_ne, ix_iinc, ix_iload, ix_imul, ix_ineg, ix_ior, ix_irem, ix_iret, ix_ishl, ix_ishr, ix_istore, ix_isub, ix_iushr, ix_ixor, ix_l2i, ix_ladd, ix_lald, ix_land, ix_last, ix_lcmp, ix_ldcS, ix_ldiv, ix_lload, ix_lmul, ix_lor, ix_lrem, ix_lret, ix_lshl, ix_lstore, ix_lsub, ix_lsw, ix_max, ix_min, ix_new, ix_newa, ix_nret, ix_oinit, ix_pop2L, ix_popI, ix_pushI, ix_pushL, ix_putI, ix_putJ, ix_putR, ix_putZ, ix_sbald, ix_sgetC, ix_sgetV, ix_slen, ix_strc, ix_tald, ix_tsw, ix_vcall, ix_vret, ix_zret, stL, stL2, kilL, popN, fq_sw, fq_lsw, List.map_cons, List.map_nil, List.getElem?_cons_zero, List.getElem?_cons_succ, Option.toList_some, Option.toList_none, List.cons_append, List.nil_append, List.length_cons, List.length_nil, List.sum_cons, List.sum_nil, cat_i, cat_l, cat_r, true_and, and_true, Nat.zero_add, Nat.add_zero, Nat.le_refl, Nat.zero_le, Nat.reduceAdd, Nat.reduceLeDiff, exists_eq_left', Option.some.injEq, not_true_eq_false, not_false_eq_true, false_implies, true_implies, implies_true, and_self, or_true, true_or, or_false, false_or]
        simp only [Nat.add_assoc, Nat.reduceAdd, Nat.reduceMul, Nat.reduceLeDiff, true_and]
        refine ⟨X + 11, rfl, up1_eq, rfl, fun S2 I2 J2 hF q0 q1 k15 n24 hr => ?_⟩
        have a1 : ∀ b, b < X + 10 → S2.1 b = S1.1 b ∧ S2.2.1 b = S1.2.1 b ∧ (b ≠ X → S2.2.2 b = S1.2.2 b) ∧ I2 b = I1 b ∧ J2 b = J1 b := fun b hb => by
          obtain ⟨x1, x2, x3, x4, x5⟩ := hF b (by omega)
          rw [x1, x2, x4, x5]
          refine ⟨?_, ?_, fun q => ?_, ?_, ?_⟩
          · simp (disch := omega) only [up1_ne]
          · simp (disch := omega) only [up1_ne]
          · rw [x3 (by omega)]
            simp (disch := omega) only [up1_ne, u2_ne]
          · simp (disch := omega) only [up1_ne]
          · simp (disch := omega) only [up1_ne]
        have eX : S2.2.2 X = u2 S1.2.2 X 1 (some (X + 10)) X := by
          rw [(hF X (by omega)).2.2.1 (by omega)]
          show up1 (u2 (up1 S1.2.2 (X + 10) fun x => none) X 1 (some (X + 10))) (X + 11) (fun x => none) X = _
          rw [up1_ne (by omega)]
          funext k
          unfold u2
          rw [up1_ne (by omega)]
        have t10 : S2.1 (X + 10) = 13 ∧ S2.2.1 (X + 10) = 900 ∧ (∀ k, I2 (X + 10) k = 0) ∧ S2.1 (X + 11) = 4 := by
          obtain ⟨x1, x2, x3, x4, x5⟩ := hF (X + 10) (by omega)
          obtain ⟨y1, y2, y3, y4, y5⟩ := hF (X + 11) (by omega)
          rw [x1, x2, x4, y1]
          refine ⟨?_, ?_, fun k => ?_, ?_⟩ <;> simp (disch := omega) only [up1_ne, up1_eq]
        have k2 : S2.1 X = 11 := (a1 X (by omega)).1.trans k11
        have k24 := t10.2.2.2
        simp (disch := omega) only [B_X11_init_59, k2, k24, up1_ne, up1_eq, li_3, nI_1, nI_add, nI_clamp, nI_pin, nI_neg, nI_nonneg, nI_leE, nI_ltE, nI_eqE, Nat.not_le, Nat.not_lt, fq_10, fq_01, fq_rr, ix_aald, ix_aast, ix_abs, ix_alen, ix_aload, ix_aret, ix_astore, ix_bald, ix_bast, ix_call, ix_cpyI, ix_cpyJ, ix_dead, ix_dup2, ix_dup2L, ix_dupI, ix_dupR, ix_dupx1, ix_getI, ix_getJ, ix_getR, ix_gfm, ix_gtab, ix_i2b, ix_i2c, ix_i2l, ix_i2s, ix_iadd, ix_iald, ix_iand, ix_iast, ix_icall, ix_icmp_eq, ix_icmp_ge, ix_icmp_gt, ix_icmp_le, ix_icmp_lt, ix_icmp_ne, ix_idiv, ix_if_eq, ix_if_ge, ix_if_gt, ix_if_le, ix_if_lt, ix_if_ne, ix_iinc, ix_iload, ix_imul, ix_ineg, ix_ior, ix_irem, ix_iret, ix_ishl, ix_ishr, ix_istore, ix_isub, ix_iushr, ix_ixor, ix_l2i, ix_ladd, ix_lald, ix_land, ix_last, ix_lcmp, ix_ldcS, ix_ldiv, ix_lload, ix_lmul, ix_lor, ix_lrem, ix_lret, ix_lshl, ix_lstore, ix_lsub, ix_lsw, ix_max, ix_min, ix_new, ix_newa, ix_nret, ix_oinit, ix_pop2L, ix_popI, ix_pushI, ix_pushL, ix_putI, ix_putJ, ix_putR, ix_putZ, ix_sbald, ix_sgetC, ix_sgetV, ix_slen, ix_strc, ix_tald, ix_tsw, ix_vcall, ix_vret, ix_zret, stL, stL2, kilL, popN, fq_sw, fq_lsw, List.map_cons, List.map_nil, List.getElem?_cons_zero, List.getElem?_cons_succ, Option.toList_some, Option.toList_none, List.cons_append, List.nil_append, List.length_cons, List.length_nil, List.sum_cons, List.sum_nil, cat_i, cat_l, cat_r, true_and, and_true, Nat.zero_add, Nat.add_zero, Nat.le_refl, Nat.zero_le, Nat.reduceAdd, Nat.reduceLeDiff, exists_eq_left', Option.some.injEq, not_true_eq_false, not_false_eq_true, false_implies, true_implies, implies_true, and_self, or_true, true_or, or_false, false_or]
        have e3 : ∀ b, b < X + 13 → b ≠ X → u2 (up1 (u2 S2.2.2 X 2 (some (X + 11))) (X + 13) fun x => none) X 3 (some (X + 13)) b = S2.2.2 b := fun b q1 q2 => by rw [u2_ne q2, up1_ne (by omega), u2_ne q2]
        have e3X : ∀ k, u2 (up1 (u2 S2.2.2 X 2 (some (X + 11))) (X + 13) fun x => none) X 3 (some (X + 13)) X k = if k = 3 then some (X + 13) else if k = 2 then some (X + 11) else if k = 1 then some (X + 10) else S1.2.2 X k := fun k => by
          by_cases g3 : k = 3
          · subst g3
            rw [u2_same, if_pos rfl]
          · rw [u2_ck _ _ _ _ _ _ g3, up1_ne (by omega), if_neg g3]
            by_cases g2 : k = 2
            · subst g2
              rw [u2_same, if_pos rfl]
            · rw [u2_ck _ _ _ _ _ _ g2, if_neg g2, eX]
              by_cases g1 : k = 1
              · subst g1
                rw [u2_same, if_pos rfl]
              · rw [u2_ck _ _ _ _ _ _ g1, if_neg g1]
        have ts1 : trS S1 X := ⟨k11, r0, k20, n4, fun j hj => ⟨(ht j hj).1, (ht j hj).2.1, (ht j hj).2.2.1, (ht j hj).2.2.2.1, (ht j hj).2.2.2.2.1⟩⟩
        refine c2 3 0 _ _ _ rfl ⟨fun b hb => ?_, ts1.mv (fun a q1 q2 => ⟨?_, ?_, fun q => ?_⟩) ?_, fun j hj => ?_, ⟨?_, ?_, ?_, ?_, ?_, ?_, ?_⟩, fun k q1 q2 => ?_, ⟨up1_eq, up1_eq⟩, fun j hj => ?_, fun k => ?_, fun k => ?_, fun j hj => absurd hj (Nat.not_lt_zero _)⟩
        · obtain ⟨x1, x2, x3, x4, x5⟩ := a1 b (by omega)
          obtain ⟨y1, y2, y3, y4, y5⟩ := ho b hb
          exact ⟨(up1_ne (by omega)).trans (x1.trans y1), (up1_ne (by omega)).trans (x2.trans y2), fun q => (e3 b (by omega) q).trans ((x3 q).trans (y3 q)), (up1_ne (by omega)).trans (x4.trans y4), (up1_ne (by omega)).trans (x5.trans y5)⟩
        · exact (up1_ne (by omega)).trans (a1 a (by omega)).1
        · exact (up1_ne (by omega)).trans (a1 a (by omega)).2.1
        · exact (e3 a (by omega) q).trans ((a1 a (by omega)).2.2.1 q)
        · exact e3X 0
        · rw [up1_ne (by omega), up1_ne (by omega), (a1 _ (by omega)).2.2.2.1, (a1 (X + 2 + 2 * j + 1) (by omega)).2.2.2.2]
          exact (ht j hj).2.2.2.2.2
        · exact (up1_ne (by omega)).trans k24
        · show u2 (up1 (u2 S2.2.2 X 2 (some (X + 11))) (X + 13) fun x => none) X 3 (some (X + 13)) (X + 11) 0 = _
          rw [e3 _ (by omega) (by omega)]
          exact q0
        · show u2 (up1 (u2 S2.2.2 X 2 (some (X + 11))) (X + 13) fun x => none) X 3 (some (X + 13)) (X + 11) 1 = _
          rw [e3 _ (by omega) (by omega)]
          exact q1
        · exact (up1_ne (by omega)).trans t10.1
        · exact (up1_ne (by omega)).trans t10.2.1
        · exact (up1_ne (by omega)).trans k15
        · exact (up1_ne (by omega)).trans n24
        · refine (e3X k).trans ?_
          rcases (show k = 1 ∨ k = 2 ∨ k = 3 by omega) with rfl | rfl | rfl <;> rfl
        · rw [up1_ne (by omega)]
          exact hr j hj
        · rw [up1_ne (by omega)]
          exact t10.2.2.1 k
        · rw [up1_ne (by omega), up1_ne (by omega), (a1 X (by omega)).2.2.2.1, (a1 X (by omega)).2.2.2.2]
          exact hz k
      | succ n ih =>
        intro i S1 I1 J1 hi ho k11 r0 k20 n4 hz ht
        refine b_X11_init_14 _ _ _ _ _ _ _ _ ?_
        simp (disch := omega) only [B_X11_init_14, B_X11_init_31, sp_X8_init, B_X8_init_0, k11, r0, k20, n4, up1_ne, up1_eq, u2_ne, u2_same, li_4, li_60, nI_1, nI_add, nI_clamp, nI_pin, nI_neg, nI_nonneg, nI_leE, nI_ltE, nI_eqE, Nat.not_le, Nat.not_lt, fq_10, fq_01, fq_rr, ix_aald, ix_aast, ix_abs, ix_alen, ix_aload, ix_aret, ix_astore, ix_bald, ix_bast, ix_call, ix_cpyI, ix_cpyJ, ix_dead, ix_dup2, ix_dup2L, ix_dupI, ix_dupR, ix_dupx1, ix_getI, ix_getJ, ix_getR, ix_gfm, ix_gtab, ix_i2b, ix_i2c, ix_i2l, ix_i2s, ix_iadd, ix_iald, ix_iand, ix_iast, ix_icall, ix_icmp_eq, ix_icmp_ge, ix_icmp_gt, ix_icmp_le, ix_icmp_lt, ix_icmp_ne, ix_idiv, ix_if_eq, ix_if_ge, ix_if_gt, ix_if_le, ix_if_lt, ix_if_ne, ix_iinc, ix_iload, ix_imul, ix_ineg, ix_ior, ix_irem, ix_iret, ix_ishl, ix_ishr, ix_istore, ix_isub, ix_iushr, ix_ixor, ix_l2i, ix_ladd, ix_lald, ix_land, ix_last, ix_lcmp, ix_ldcS, ix_ldiv, ix_lload, ix_lmul, ix_lor, ix_lrem, ix_lret, ix_lshl, ix_lstore, ix_lsub, ix_lsw, ix_max, ix_min, ix_new, ix_newa, ix_nret, ix_oinit, ix_pop2L, ix_popI, ix_pushI, ix_pushL, ix_putI, ix_putJ, ix_putR, ix_putZ, ix_sbald, ix_sgetC, ix_sgetV, ix_slen, ix_strc, ix_tald, ix_tsw, ix_vcall, ix_vret, ix_zret, stL, stL2, kilL, popN, fq_sw, fq_lsw, List.map_cons, List.map_nil, List.getElem?_cons_zero, List.getElem?_cons_succ, Option.toList_some, Option.toList_none, List.cons_append, List.nil_append, List.length_cons, List.length_nil, List.sum_cons, List.sum_nil, cat_i, cat_l, cat_r, true_and, and_true, Nat.zero_add, Nat.add_zero, Nat.le_refl, Nat.zero_le, Nat.reduceAdd, Nat.reduceLeDiff, exists_eq_left', Option.some.injEq, not_true_eq_false, not_false_eq_true, false_implies, true_implies, implies_true, and_self, or_true, true_or, or_false, false_or]
        refine ⟨fun q => absurd q (by omega), fun _ => ⟨by omega, by omega, by omega, by omega, ?_⟩⟩
        have e3 : ∀ b, b < X + 2 + 2 * i → b ≠ X + 1 → u2 (u2 (up1 (up1 S1.2.2 (X + 2 + 2 * i) fun x => none) (X + 2 + 2 * i + 1) fun x => none) (X + 2 + 2 * i) 0 (some (X + 2 + 2 * i + 1))) (X + 1) i (some (X + 2 + 2 * i)) b = S1.2.2 b := fun b q1 q2 => by rw [u2_ne q2, u2_ne (by omega), up1_ne (by omega), up1_ne (by omega)]
        refine ih (i + 1) _ _ _ (by omega) (fun b hb => ?_) ?_ ?_ ?_ ?_ (fun k => ?_) (fun j hj => ?_)
        · obtain ⟨y1, y2, y3, y4, y5⟩ := ho b hb
          refine ⟨?_, ?_, fun q => (e3 b (by omega) (by omega)).trans (y3 q), ?_, ?_⟩
          · simp (disch := omega) only [up1_ne]
            exact y1
          · simp (disch := omega) only [up1_ne]
            exact y2
          · simp (disch := omega) only [up1_ne, u2_ne]
            exact y4
          · simp (disch := omega) only [up1_ne]
            exact y5
        · simp (disch := omega) only [up1_ne]
          exact k11
        · show u2 (u2 (up1 (up1 S1.2.2 (X + 2 + 2 * i) fun x => none) (X + 2 + 2 * i + 1) fun x => none) (X + 2 + 2 * i) 0 (some (X + 2 + 2 * i + 1))) (X + 1) i (some (X + 2 + 2 * i)) X 0 = _
          rw [e3 X (by omega) (by omega)]
          exact r0
        · simp (disch := omega) only [up1_ne]
          exact k20
        · simp (disch := omega) only [up1_ne]
          exact n4
        · simp (disch := omega) only [up1_ne, u2_ne]
          exact hz k
        · by_cases q : j = i
          · subst q
            refine ⟨?_, ?_, ?_, ?_, ?_, fun k => ?_, fun k => ?_⟩
            · simp (disch := omega) only [u2_same]
            · simp (disch := omega) only [up1_ne, up1_eq]
            · simp (disch := omega) only [u2_ne, u2_same]
            · simp (disch := omega) only [up1_eq]
            · simp (disch := omega) only [up1_eq]
            · by_cases g : k = 1
              · subst g
                rw [u2_same, if_pos rfl]
              · rw [u2_ck _ _ _ _ _ _ g, up1_ne (by omega), up1_eq, if_neg g]
            · rw [up1_eq]
          · obtain ⟨y1, y2, y3, y4, y5, y6, y7⟩ := ht j (by omega)
            refine ⟨?_, ?_, ?_, ?_, ?_, fun k => ?_, fun k => ?_⟩
            · simp (disch := omega) only [u2_ck, u2_ne, up1_ne]
              exact y1
            · simp (disch := omega) only [up1_ne]
              exact y2
            · simp (disch := omega) only [u2_ne, up1_ne]
              exact y3
            · simp (disch := omega) only [up1_ne]
              exact y4
            · simp (disch := omega) only [up1_ne]
              exact y5
            · simp (disch := omega) only [up1_ne, u2_ne]
              exact y6 k
            · simp (disch := omega) only [up1_ne]
              exact y7 k
    refine fq_enter [some (.ref X), none] (by decide +kernel) (Nat.le_of_ble_eq_true rfl) rfl (b_X11_init_0 _ _ _ _ _ _ _ _ ?_)
    simp (disch := omega) only [B_X11_init_0, h1, up1_ne, up1_eq, li_4, nI_1, nI_add, nI_clamp, nI_pin, nI_neg, nI_nonneg, nI_leE, nI_ltE, nI_eqE, Nat.not_le, Nat.not_lt, fq_10, fq_01, fq_rr, ix_aald, ix_aast, ix_abs, ix_alen, ix_aload, ix_aret, ix_astore, ix_bald, ix_bast, ix_call, ix_cpyI, ix_cpyJ, ix_dead, ix_dup2, ix_dup2L, ix_dupI, ix_dupR, ix_dupx1, ix_getI, ix_getJ, ix_getR, ix_gfm, ix_gtab, ix_i2b, ix_i2c, ix_i2l, ix_i2s, ix_iadd, ix_iald, ix_iand, ix_iast, ix_icall, ix_icmp_eq, ix_icmp_ge, ix_icmp_gt, ix_icmp_le, ix_icmp_lt, ix_icmp_ne, ix_idiv, ix_if_eq, ix_if_ge, ix_if_gt, ix_if_le, ix_if_lt, ix_if_ne, ix_iinc, ix_iload, ix_imul, ix_ineg, ix_ior, ix_irem, ix_iret, ix_ishl, ix_ishr, ix_istore, ix_isub, ix_iushr, ix_ixor, ix_l2i, ix_ladd, ix_lald, ix_land, ix_last, ix_lcmp, ix_ldcS, ix_ldiv, ix_lload, ix_lmul, ix_lor, ix_lrem, ix_lret, ix_lshl, ix_lstore, ix_lsub, ix_lsw, ix_max, ix_min, ix_new, ix_newa, ix_nret, ix_oinit, ix_pop2L, ix_popI, ix_pushI, ix_pushL, ix_putI, ix_putJ, ix_putR, ix_putZ, ix_sbald, ix_sgetC, ix_sgetV, ix_slen, ix_strc, ix_tald, ix_tsw, ix_vcall, ix_vret, ix_zret, stL, stL2, kilL, popN, fq_sw, fq_lsw, List.map_cons, List.map_nil, List.getElem?_cons_zero, List.getElem?_cons_succ, Option.toList_some, Option.toList_none, List.cons_append, List.nil_append, List.length_cons, List.length_nil, List.sum_cons, List.sum_nil, cat_i, cat_l, cat_r, true_and, and_true, Nat.zero_add, Nat.add_zero, Nat.le_refl, Nat.zero_le, Nat.reduceAdd, Nat.reduceLeDiff, exists_eq_left', Option.some.injEq, not_true_eq_false, not_false_eq_true, false_implies, true_implies, implies_true, and_self, or_true, true_or, or_false, false_or]
    refine c1 4 0 _ _ _ rfl (fun b hb => ⟨up1_ne (by omega), up1_ne (by omega), fun q => ?_, up1_ne (by omega), up1_ne (by omega)⟩) ((up1_ne (by omega)).trans h1) ?_ up1_eq up1_eq (fun k => ?_) (fun j hj => absurd hj (Nat.not_lt_zero _))
    · simp (disch := omega) only [u2_ne, up1_ne]
    · simp (disch := omega) only [u2_same]
    · rw [up1_ne (by omega), up1_ne (by omega)]
      exact ⟨hI k, hJ k⟩
  · exact h.elim
