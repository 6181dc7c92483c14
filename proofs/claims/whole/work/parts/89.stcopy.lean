/-! a street copied -/
def cpP (I I1 : IH) (s p lo n klo khi : Nat) : Prop := (∀ a, ¬ (s + lo ≤ a ∧ a < s + lo + n) → I1 a = I a) ∧ ∀ j, j < n → ∀ k, klo ≤ k → k ≤ khi → I1 (s + lo + j) k = I (p + lo + j) k
theorem cpP.z {I : IH} {s p lo klo khi : Nat} : cpP I I s p lo 0 klo khi := ⟨fun _ _ => rfl, fun _ h => absurd h (Nat.not_lt_zero _)⟩
theorem cpP.n {I I1 : IH} {s p lo n klo khi : Nat} (h : cpP I I1 s p lo n klo khi) (hd : p + lo + n < s + lo ∨ s + lo + n ≤ p + lo + n) : cpP I (cpF I1 (s + lo + n) (p + lo + n) klo khi) s p lo (n + 1) klo khi := by
  refine ⟨fun a ha => ?_, fun j hj k h1 h2 => ?_⟩
  · rw [← h.1 a (by omega)]
    funext k
    unfold cpF
    rw [if_neg (by omega)]
  · unfold cpF
    by_cases q : j = n
    · subst q
      rw [if_pos ⟨rfl, h1, h2⟩, h.1 (p + lo + j) (by omega)]
    · rw [if_neg (by omega)]
      exact h.2 j (by omega) k h1 h2
def cjP (J J1 : JH) (s p lo n : Nat) : Prop := (∀ a, ¬ (s + lo ≤ a ∧ a < s + lo + n) → J1 a = J a) ∧ ∀ j, j < n → J1 (s + lo + j) 0 = J (p + lo + j) 0
theorem cjP.z {J : JH} {s p lo : Nat} : cjP J J s p lo 0 := ⟨fun _ _ => rfl, fun _ h => absurd h (Nat.not_lt_zero _)⟩
theorem cjP.n {J J1 : JH} {s p lo n : Nat} (h : cjP J J1 s p lo n) (hd : p + lo + n < s + lo ∨ s + lo + n ≤ p + lo + n) : cjP J (u2 J1 (s + lo + n) 0 (J1 (p + lo + n) 0)) s p lo (n + 1) := by
  refine ⟨fun a ha => ?_, fun j hj => ?_⟩
  · rw [u2_ne (by omega)]
    exact h.1 a (by omega)
  · by_cases q : j = n
    · subst q
      rw [u2_same, h.1 (p + lo + j) (by omega)]
    · rw [u2_ne (by omega)]
      exact h.2 j (by omega)
/-- the street at s is a copy of the one at p -/
def scR (I I' : IH) (J J' : JH) (s p m : Nat) : Prop := (∀ a, ¬ (s ≤ a ∧ a < s + 52) → I' a = I a) ∧ (∀ k, 5 ≤ k → k ≤ 16 → I' s k = I p k) ∧ (∀ i, i < 6 → ∀ k, 1 ≤ k → k ≤ 3 → I' (s + 18 + i) k = I (p + 18 + i) k) ∧ (∀ i, i < 8 → ∀ k, 1 ≤ k → k ≤ 7 → I' (s + 24 + i) k = I (p + 24 + i) k) ∧ (∀ i, i < 20 → ∀ k, k ≤ 6 → I' (s + 32 + i) k = I (p + 32 + i) k) ∧ (∀ k, 7 ≤ k → k ≤ 9 → I' (s + 4) k = I (p + 4) k) ∧ (∀ j, 5 ≤ j → j < 12 → ∀ i, i < m → I' (s + j) i = I (p + j) i) ∧ (∀ a, ¬ (s ≤ a ∧ a < s + 52) → J' a = J a) ∧ ∀ i, i < 14 → J' (s + 18 + i) 0 = J (p + 18 + i) 0
theorem dX6_copyFrom_0 : decode cX6_copyFrom 0 = .ok (.iconst 0, 1) := by decide +kernel
theorem dX6_copyFrom_1 : decode cX6_copyFrom 1 = .ok (.istore_n 2, 1) := by decide +kernel
theorem dX6_copyFrom_2 : decode cX6_copyFrom 2 = .ok (.iload_n 2, 1) := by decide +kernel
theorem dX6_copyFrom_3 : decode cX6_copyFrom 3 = .ok (.bipush 6, 2) := by decide +kernel
theorem dX6_copyFrom_5 : decode cX6_copyFrom 5 = .ok (.if_icmp .ge 24, 3) := by decide +kernel
theorem dX6_copyFrom_8 : decode cX6_copyFrom 8 = .ok (.aload_n 0, 1) := by decide +kernel
theorem dX6_copyFrom_9 : decode cX6_copyFrom 9 = .ok (.getfield 11, 3) := by decide +kernel
theorem dX6_copyFrom_12 : decode cX6_copyFrom 12 = .ok (.iload_n 2, 1) := by decide +kernel
theorem dX6_copyFrom_13 : decode cX6_copyFrom 13 = .ok (.aaload, 1) := by decide +kernel
theorem dX6_copyFrom_14 : decode cX6_copyFrom 14 = .ok (.aload_n 1, 1) := by decide +kernel
theorem dX6_copyFrom_15 : decode cX6_copyFrom 15 = .ok (.getfield 11, 3) := by decide +kernel
theorem dX6_copyFrom_18 : decode cX6_copyFrom 18 = .ok (.iload_n 2, 1) := by decide +kernel
theorem dX6_copyFrom_19 : decode cX6_copyFrom 19 = .ok (.aaload, 1) := by decide +kernel
theorem dX6_copyFrom_20 : decode cX6_copyFrom 20 = .ok (.invokevirtual 88, 3) := by decide +kernel
theorem dX6_copyFrom_23 : decode cX6_copyFrom 23 = .ok (.iinc 2 1, 3) := by decide +kernel
theorem dX6_copyFrom_26 : decode cX6_copyFrom 26 = .ok (.goto (-24), 3) := by decide +kernel
theorem dX6_copyFrom_29 : decode cX6_copyFrom 29 = .ok (.iconst 0, 1) := by decide +kernel
theorem dX6_copyFrom_30 : decode cX6_copyFrom 30 = .ok (.istore_n 2, 1) := by decide +kernel
theorem dX6_copyFrom_31 : decode cX6_copyFrom 31 = .ok (.iload_n 2, 1) := by decide +kernel
theorem dX6_copyFrom_32 : decode cX6_copyFrom 32 = .ok (.bipush 8, 2) := by decide +kernel
theorem dX6_copyFrom_34 : decode cX6_copyFrom 34 = .ok (.if_icmp .ge 24, 3) := by decide +kernel
theorem dX6_copyFrom_37 : decode cX6_copyFrom 37 = .ok (.aload_n 0, 1) := by decide +kernel
theorem dX6_copyFrom_38 : decode cX6_copyFrom 38 = .ok (.getfield 19, 3) := by decide +kernel
theorem dX6_copyFrom_41 : decode cX6_copyFrom 41 = .ok (.iload_n 2, 1) := by decide +kernel
theorem dX6_copyFrom_42 : decode cX6_copyFrom 42 = .ok (.aaload, 1) := by decide +kernel
theorem dX6_copyFrom_43 : decode cX6_copyFrom 43 = .ok (.aload_n 1, 1) := by decide +kernel
theorem dX6_copyFrom_44 : decode cX6_copyFrom 44 = .ok (.getfield 19, 3) := by decide +kernel
theorem dX6_copyFrom_47 : decode cX6_copyFrom 47 = .ok (.iload_n 2, 1) := by decide +kernel
theorem dX6_copyFrom_48 : decode cX6_copyFrom 48 = .ok (.aaload, 1) := by decide +kernel
theorem dX6_copyFrom_49 : decode cX6_copyFrom 49 = .ok (.invokevirtual 92, 3) := by decide +kernel
theorem dX6_copyFrom_52 : decode cX6_copyFrom 52 = .ok (.iinc 2 1, 3) := by decide +kernel
theorem dX6_copyFrom_55 : decode cX6_copyFrom 55 = .ok (.goto (-24), 3) := by decide +kernel
theorem dX6_copyFrom_58 : decode cX6_copyFrom 58 = .ok (.iconst 0, 1) := by decide +kernel
theorem dX6_copyFrom_59 : decode cX6_copyFrom 59 = .ok (.istore_n 2, 1) := by decide +kernel
theorem dX6_copyFrom_60 : decode cX6_copyFrom 60 = .ok (.iload_n 2, 1) := by decide +kernel
theorem dX6_copyFrom_61 : decode cX6_copyFrom 61 = .ok (.bipush 20, 2) := by decide +kernel
theorem dX6_copyFrom_63 : decode cX6_copyFrom 63 = .ok (.if_icmp .ge 24, 3) := by decide +kernel
theorem dX6_copyFrom_66 : decode cX6_copyFrom 66 = .ok (.aload_n 0, 1) := by decide +kernel
theorem dX6_copyFrom_67 : decode cX6_copyFrom 67 = .ok (.getfield 25, 3) := by decide +kernel
theorem dX6_copyFrom_70 : decode cX6_copyFrom 70 = .ok (.iload_n 2, 1) := by decide +kernel
theorem dX6_copyFrom_71 : decode cX6_copyFrom 71 = .ok (.aaload, 1) := by decide +kernel
theorem dX6_copyFrom_72 : decode cX6_copyFrom 72 = .ok (.aload_n 1, 1) := by decide +kernel
theorem dX6_copyFrom_73 : decode cX6_copyFrom 73 = .ok (.getfield 25, 3) := by decide +kernel
theorem dX6_copyFrom_76 : decode cX6_copyFrom 76 = .ok (.iload_n 2, 1) := by decide +kernel
theorem dX6_copyFrom_77 : decode cX6_copyFrom 77 = .ok (.aaload, 1) := by decide +kernel
theorem dX6_copyFrom_78 : decode cX6_copyFrom 78 = .ok (.invokevirtual 95, 3) := by decide +kernel
theorem dX6_copyFrom_81 : decode cX6_copyFrom 81 = .ok (.iinc 2 1, 3) := by decide +kernel
theorem dX6_copyFrom_84 : decode cX6_copyFrom 84 = .ok (.goto (-24), 3) := by decide +kernel
theorem dX6_copyFrom_87 : decode cX6_copyFrom 87 = .ok (.aload_n 0, 1) := by decide +kernel
theorem dX6_copyFrom_88 : decode cX6_copyFrom 88 = .ok (.aload_n 1, 1) := by decide +kernel
theorem dX6_copyFrom_89 : decode cX6_copyFrom 89 = .ok (.getfield 49, 3) := by decide +kernel
theorem dX6_copyFrom_92 : decode cX6_copyFrom 92 = .ok (.putfield 49, 3) := by decide +kernel
theorem dX6_copyFrom_95 : decode cX6_copyFrom 95 = .ok (.aload_n 0, 1) := by decide +kernel
theorem dX6_copyFrom_96 : decode cX6_copyFrom 96 = .ok (.aload_n 1, 1) := by decide +kernel
theorem dX6_copyFrom_97 : decode cX6_copyFrom 97 = .ok (.getfield 53, 3) := by decide +kernel
theorem dX6_copyFrom_100 : decode cX6_copyFrom 100 = .ok (.putfield 53, 3) := by decide +kernel
theorem dX6_copyFrom_103 : decode cX6_copyFrom 103 = .ok (.aload_n 0, 1) := by decide +kernel
theorem dX6_copyFrom_104 : decode cX6_copyFrom 104 = .ok (.aload_n 1, 1) := by decide +kernel
theorem dX6_copyFrom_105 : decode cX6_copyFrom 105 = .ok (.getfield 56, 3) := by decide +kernel
theorem dX6_copyFrom_108 : decode cX6_copyFrom 108 = .ok (.putfield 56, 3) := by decide +kernel
theorem dX6_copyFrom_111 : decode cX6_copyFrom 111 = .ok (.aload_n 0, 1) := by decide +kernel
theorem dX6_copyFrom_112 : decode cX6_copyFrom 112 = .ok (.aload_n 1, 1) := by decide +kernel
theorem dX6_copyFrom_113 : decode cX6_copyFrom 113 = .ok (.getfield 59, 3) := by decide +kernel
theorem dX6_copyFrom_116 : decode cX6_copyFrom 116 = .ok (.putfield 59, 3) := by decide +kernel
theorem dX6_copyFrom_119 : decode cX6_copyFrom 119 = .ok (.aload_n 0, 1) := by decide +kernel
theorem dX6_copyFrom_120 : decode cX6_copyFrom 120 = .ok (.aload_n 1, 1) := by decide +kernel
theorem dX6_copyFrom_121 : decode cX6_copyFrom 121 = .ok (.getfield 62, 3) := by decide +kernel
theorem dX6_copyFrom_124 : decode cX6_copyFrom 124 = .ok (.putfield 62, 3) := by decide +kernel
theorem dX6_copyFrom_127 : decode cX6_copyFrom 127 = .ok (.aload_n 0, 1) := by decide +kernel
theorem dX6_copyFrom_128 : decode cX6_copyFrom 128 = .ok (.aload_n 1, 1) := by decide +kernel
theorem dX6_copyFrom_129 : decode cX6_copyFrom 129 = .ok (.getfield 65, 3) := by decide +kernel
theorem dX6_copyFrom_132 : decode cX6_copyFrom 132 = .ok (.putfield 65, 3) := by decide +kernel
theorem dX6_copyFrom_135 : decode cX6_copyFrom 135 = .ok (.aload_n 0, 1) := by decide +kernel
theorem dX6_copyFrom_136 : decode cX6_copyFrom 136 = .ok (.aload_n 1, 1) := by decide +kernel
theorem dX6_copyFrom_137 : decode cX6_copyFrom 137 = .ok (.getfield 68, 3) := by decide +kernel
theorem dX6_copyFrom_140 : decode cX6_copyFrom 140 = .ok (.putfield 68, 3) := by decide +kernel
theorem dX6_copyFrom_143 : decode cX6_copyFrom 143 = .ok (.aload_n 0, 1) := by decide +kernel
theorem dX6_copyFrom_144 : decode cX6_copyFrom 144 = .ok (.aload_n 1, 1) := by decide +kernel
theorem dX6_copyFrom_145 : decode cX6_copyFrom 145 = .ok (.getfield 71, 3) := by decide +kernel
theorem dX6_copyFrom_148 : decode cX6_copyFrom 148 = .ok (.putfield 71, 3) := by decide +kernel
theorem dX6_copyFrom_151 : decode cX6_copyFrom 151 = .ok (.aload_n 0, 1) := by decide +kernel
theorem dX6_copyFrom_152 : decode cX6_copyFrom 152 = .ok (.aload_n 1, 1) := by decide +kernel
theorem dX6_copyFrom_153 : decode cX6_copyFrom 153 = .ok (.getfield 74, 3) := by decide +kernel
theorem dX6_copyFrom_156 : decode cX6_copyFrom 156 = .ok (.putfield 74, 3) := by decide +kernel
theorem dX6_copyFrom_159 : decode cX6_copyFrom 159 = .ok (.aload_n 0, 1) := by decide +kernel
theorem dX6_copyFrom_160 : decode cX6_copyFrom 160 = .ok (.aload_n 1, 1) := by decide +kernel
theorem dX6_copyFrom_161 : decode cX6_copyFrom 161 = .ok (.getfield 77, 3) := by decide +kernel
theorem dX6_copyFrom_164 : decode cX6_copyFrom 164 = .ok (.putfield 77, 3) := by decide +kernel
theorem dX6_copyFrom_167 : decode cX6_copyFrom 167 = .ok (.aload_n 0, 1) := by decide +kernel
theorem dX6_copyFrom_168 : decode cX6_copyFrom 168 = .ok (.aload_n 1, 1) := by decide +kernel
theorem dX6_copyFrom_169 : decode cX6_copyFrom 169 = .ok (.getfield 80, 3) := by decide +kernel
theorem dX6_copyFrom_172 : decode cX6_copyFrom 172 = .ok (.putfield 80, 3) := by decide +kernel
theorem dX6_copyFrom_175 : decode cX6_copyFrom 175 = .ok (.aload_n 0, 1) := by decide +kernel
theorem dX6_copyFrom_176 : decode cX6_copyFrom 176 = .ok (.aload_n 1, 1) := by decide +kernel
theorem dX6_copyFrom_177 : decode cX6_copyFrom 177 = .ok (.getfield 83, 3) := by decide +kernel
theorem dX6_copyFrom_180 : decode cX6_copyFrom 180 = .ok (.putfield 83, 3) := by decide +kernel
theorem dX6_copyFrom_183 : decode cX6_copyFrom 183 = .ok (.aload_n 0, 1) := by decide +kernel
theorem dX6_copyFrom_184 : decode cX6_copyFrom 184 = .ok (.getfield 32, 3) := by decide +kernel
theorem dX6_copyFrom_187 : decode cX6_copyFrom 187 = .ok (.aload_n 1, 1) := by decide +kernel
theorem dX6_copyFrom_188 : decode cX6_copyFrom 188 = .ok (.getfield 32, 3) := by decide +kernel
theorem dX6_copyFrom_191 : decode cX6_copyFrom 191 = .ok (.invokevirtual 98, 3) := by decide +kernel
theorem dX6_copyFrom_194 : decode cX6_copyFrom 194 = .ok (.return_, 1) := by decide +kernel
abbrev M_X6_copyFrom : MT := (yX6_copyFrom, cX6_copyFrom, 3, none)
theorem cf_X6_copyFrom : fq_cf M_X6_copyFrom 1 := ⟨(mg_1 (List.mem_of_getElem? (i := 8) rfl) rfl), (mg_6 (List.mem_of_getElem? (i := 152) rfl) rfl), ⟨by decide, by decide, by decide +kernel⟩, by decide⟩
def B_X6_copyFrom_194 (l : Launch) (G : GT) (D mc ms : Nat) (Q : Post) : Cn := ix_vret mc ms Q
theorem b_X6_copyFrom_194 {l : Launch} {G : GT} {D mc ms : Nat} {Q : Post} : Imp l G M_X6_copyFrom (D + 2) mc ms Q (B_X6_copyFrom_194 l G D mc ms Q) 194 := sx_vret dX6_copyFrom_194 rfl
def B_X6_copyFrom_81 (l : Launch) (G : GT) (D mc ms : Nat) (Q : Post) : Cn := ix_iinc 2 1 (fqAt l G M_X6_copyFrom (D + 2) mc ms Q 60)
theorem b_X6_copyFrom_81 {l : Launch} {G : GT} {D mc ms : Nat} {Q : Post} : Imp l G M_X6_copyFrom (D + 2) mc ms Q (B_X6_copyFrom_81 l G D mc ms Q) 81 := sx_iinc dX6_copyFrom_81 rfl (by decide) (sx_goto 60 dX6_copyFrom_84 (by decide) ((fun _ _ _ _ _ _ _ _ h => h)))
def B_X6_copyFrom_60 (l : Launch) (G : GT) (D mc ms : Nat) (Q : Post) : Cn := ix_iload 2 (ix_pushI 20 (ix_icmp_ge (ix_aload 0 (ix_aload 1 (ix_getI 6 5 (ix_putI 6 5 (ix_aload 0 (ix_aload 1 (ix_getI 6 6 (ix_putI 6 6 (ix_aload 0 (ix_aload 1 (ix_getI 6 7 (ix_putI 6 7 (ix_aload 0 (ix_aload 1 (ix_getI 6 8 (ix_putI 6 8 (ix_aload 0 (ix_aload 1 (ix_getI 6 9 (ix_putI 6 9 (ix_aload 0 (ix_aload 1 (ix_getI 6 10 (ix_putI 6 10 (ix_aload 0 (ix_aload 1 (ix_getI 6 11 (ix_putI 6 11 (ix_aload 0 (ix_aload 1 (ix_getI 6 12 (ix_putI 6 12 (ix_aload 0 (ix_aload 1 (ix_getI 6 13 (ix_putI 6 13 (ix_aload 0 (ix_aload 1 (ix_getI 6 14 (ix_putI 6 14 (ix_aload 0 (ix_aload 1 (ix_getI 6 15 (ix_putI 6 15 (ix_aload 0 (ix_aload 1 (ix_getI 6 16 (ix_putZ 6 16 (ix_aload 0 (ix_getR 6 3 (ix_aload 1 (ix_getR 6 3 (ix_vcall 9 2 0 0 mc ms (sp_X9_copyFrom G) ((B_X6_copyFrom_194 l G D mc ms Q))))))))))))))))))))))))))))))))))))))))))))))))))))))) (ix_aload 0 (ix_getR 6 2 (ix_iload 2 (ix_aald 18 (ix_aload 1 (ix_getR 6 2 (ix_iload 2 (ix_aald 18 (ix_vcall 3 2 0 0 mc ms (sp_X3_copyFrom G) ((B_X6_copyFrom_81 l G D mc ms Q)))))))))))))
theorem b_X6_copyFrom_60 {l : Launch} {G : GT} {D mc ms : Nat} {Q : Post} : Imp l G M_X6_copyFrom (D + 2) mc ms Q (B_X6_copyFrom_60 l G D mc ms Q) 60 := sx_iload_n dX6_copyFrom_60 rfl (sx_bipush dX6_copyFrom_61 rfl (sx_icmp_ge 87 dX6_copyFrom_63 (by decide) (sx_aload_n dX6_copyFrom_87 rfl (sx_aload_n dX6_copyFrom_88 rfl (sx_getI dX6_copyFrom_89 fl_FootQuarrel_Street_49 (fun _ _ _ => rfl) (sx_putI dX6_copyFrom_92 fl_FootQuarrel_Street_49 (by decide) (fun _ _ _ => rfl) (fun _ => ⟨rfl, rfl⟩) (sx_aload_n dX6_copyFrom_95 rfl (sx_aload_n dX6_copyFrom_96 rfl (sx_getI dX6_copyFrom_97 fl_FootQuarrel_Street_53 (fun _ _ _ => rfl) (sx_putI dX6_copyFrom_100 fl_FootQuarrel_Street_53 (by decide) (fun _ _ _ => rfl) (fun _ => ⟨rfl, rfl⟩) (sx_aload_n dX6_copyFrom_103 rfl (sx_aload_n dX6_copyFrom_104 rfl (sx_getI dX6_copyFrom_105 fl_FootQuarrel_Street_56 (fun _ _ _ => rfl) (sx_putI dX6_copyFrom_108 fl_FootQuarrel_Street_56 (by decide) (fun _ _ _ => rfl) (fun _ => ⟨rfl, rfl⟩) (sx_aload_n dX6_copyFrom_111 rfl (sx_aload_n dX6_copyFrom_112 rfl (sx_getI dX6_copyFrom_113 fl_FootQuarrel_Street_59 (fun _ _ _ => rfl) (sx_putI dX6_copyFrom_116 fl_FootQuarrel_Street_59 (by decide) (fun _ _ _ => rfl) (fun _ => ⟨rfl, rfl⟩) (sx_aload_n dX6_copyFrom_119 rfl (sx_aload_n dX6_copyFrom_120 rfl (sx_getI dX6_copyFrom_121 fl_FootQuarrel_Street_62 (fun _ _ _ => rfl) (sx_putI dX6_copyFrom_124 fl_FootQuarrel_Street_62 (by decide) (fun _ _ _ => rfl) (fun _ => ⟨rfl, rfl⟩) (sx_aload_n dX6_copyFrom_127 rfl (sx_aload_n dX6_copyFrom_128 rfl (sx_getI dX6_copyFrom_129 fl_FootQuarrel_Street_65 (fun _ _ _ => rfl) (sx_putI dX6_copyFrom_132 fl_FootQuarrel_Street_65 (by decide) (fun _ _ _ => rfl) (fun _ => ⟨rfl, rfl⟩) (sx_aload_n dX6_copyFrom_135 rfl (sx_aload_n dX6_copyFrom_136 rfl (sx_getI dX6_copyFrom_137 fl_FootQuarrel_Street_68 (fun _ _ _ => rfl) (sx_putI dX6_copyFrom_140 fl_FootQuarrel_Street_68 (by decide) (fun _ _ _ => rfl) (fun _ => ⟨rfl, rfl⟩) (sx_aload_n dX6_copyFrom_143 rfl (sx_aload_n dX6_copyFrom_144 rfl (sx_getI dX6_copyFrom_145 fl_FootQuarrel_Street_71 (fun _ _ _ => rfl) (sx_putI dX6_copyFrom_148 fl_FootQuarrel_Street_71 (by decide) (fun _ _ _ => rfl) (fun _ => ⟨rfl, rfl⟩) (sx_aload_n dX6_copyFrom_151 rfl (sx_aload_n dX6_copyFrom_152 rfl (sx_getI dX6_copyFrom_153 fl_FootQuarrel_Street_74 (fun _ _ _ => rfl) (sx_putI dX6_copyFrom_156 fl_FootQuarrel_Street_74 (by decide) (fun _ _ _ => rfl) (fun _ => ⟨rfl, rfl⟩) (sx_aload_n dX6_copyFrom_159 rfl (sx_aload_n dX6_copyFrom_160 rfl (sx_getI dX6_copyFrom_161 fl_FootQuarrel_Street_77 (fun _ _ _ => rfl) (sx_putI dX6_copyFrom_164 fl_FootQuarrel_Street_77 (by decide) (fun _ _ _ => rfl) (fun _ => ⟨rfl, rfl⟩) (sx_aload_n dX6_copyFrom_167 rfl (sx_aload_n dX6_copyFrom_168 rfl (sx_getI dX6_copyFrom_169 fl_FootQuarrel_Street_80 (fun _ _ _ => rfl) (sx_putI dX6_copyFrom_172 fl_FootQuarrel_Street_80 (by decide) (fun _ _ _ => rfl) (fun _ => ⟨rfl, rfl⟩) (sx_aload_n dX6_copyFrom_175 rfl (sx_aload_n dX6_copyFrom_176 rfl (sx_getI dX6_copyFrom_177 fl_FootQuarrel_Street_83 (fun _ _ _ => rfl) (sx_putZ dX6_copyFrom_180 fl_FootQuarrel_Street_83 (by decide) (fun _ _ _ => rfl) (fun v h => by rcases h with h | h <;> subst h <;> exact ⟨rfl, rfl⟩) (sx_aload_n dX6_copyFrom_183 rfl (sx_getR dX6_copyFrom_184 fl_FootQuarrel_Street_32 (fun _ _ _ => rfl) (sx_aload_n dX6_copyFrom_187 rfl (sx_getR dX6_copyFrom_188 fl_FootQuarrel_Street_32 (fun _ _ _ => rfl) (sx_vcall dX6_copyFrom_191 cf_X9_copyFrom (mg_6 (List.mem_of_getElem? (i := 161) rfl) rfl) (mg_4 (List.mem_of_getElem? (i := 151) rfl) rfl) (mg_4 (List.mem_of_getElem? (i := 152) rfl) rfl) rfl c_X9_copyFrom (b_X6_copyFrom_194)))))))))))))))))))))))))))))))))))))))))))))))))))))) (sx_aload_n dX6_copyFrom_66 rfl (sx_getR dX6_copyFrom_67 fl_FootQuarrel_Street_25 (fun _ _ _ => rfl) (sx_iload_n dX6_copyFrom_70 rfl (sx_aald dX6_copyFrom_71 (by decide) (by decide) rfl (sx_aload_n dX6_copyFrom_72 rfl (sx_getR dX6_copyFrom_73 fl_FootQuarrel_Street_25 (fun _ _ _ => rfl) (sx_iload_n dX6_copyFrom_76 rfl (sx_aald dX6_copyFrom_77 (by decide) (by decide) rfl (sx_vcall dX6_copyFrom_78 cf_X3_copyFrom (mg_6 (List.mem_of_getElem? (i := 157) rfl) rfl) (mg_6 (List.mem_of_getElem? (i := 158) rfl) rfl) (mg_6 (List.mem_of_getElem? (i := 159) rfl) rfl) rfl c_X3_copyFrom (b_X6_copyFrom_81))))))))))))
def B_X6_copyFrom_52 (l : Launch) (G : GT) (D mc ms : Nat) (Q : Post) : Cn := ix_iinc 2 1 (fqAt l G M_X6_copyFrom (D + 2) mc ms Q 31)
theorem b_X6_copyFrom_52 {l : Launch} {G : GT} {D mc ms : Nat} {Q : Post} : Imp l G M_X6_copyFrom (D + 2) mc ms Q (B_X6_copyFrom_52 l G D mc ms Q) 52 := sx_iinc dX6_copyFrom_52 rfl (by decide) (sx_goto 31 dX6_copyFrom_55 (by decide) ((fun _ _ _ _ _ _ _ _ h => h)))
def B_X6_copyFrom_31 (l : Launch) (G : GT) (D mc ms : Nat) (Q : Post) : Cn := ix_iload 2 (ix_pushI 8 (ix_icmp_ge (ix_pushI 0 (ix_istore 2 (fqAt l G M_X6_copyFrom (D + 2) mc ms Q 60))) (ix_aload 0 (ix_getR 6 1 (ix_iload 2 (ix_aald 17 (ix_aload 1 (ix_getR 6 1 (ix_iload 2 (ix_aald 17 (ix_vcall 2 2 0 0 mc ms (sp_X2_copyFrom G) ((B_X6_copyFrom_52 l G D mc ms Q)))))))))))))
theorem b_X6_copyFrom_31 {l : Launch} {G : GT} {D mc ms : Nat} {Q : Post} : Imp l G M_X6_copyFrom (D + 2) mc ms Q (B_X6_copyFrom_31 l G D mc ms Q) 31 := sx_iload_n dX6_copyFrom_31 rfl (sx_bipush dX6_copyFrom_32 rfl (sx_icmp_ge 58 dX6_copyFrom_34 (by decide) (sx_iconst dX6_copyFrom_58 rfl (sx_istore_n dX6_copyFrom_59 rfl (by decide) ((fun _ _ _ _ _ _ _ _ h => h)))) (sx_aload_n dX6_copyFrom_37 rfl (sx_getR dX6_copyFrom_38 fl_FootQuarrel_Street_19 (fun _ _ _ => rfl) (sx_iload_n dX6_copyFrom_41 rfl (sx_aald dX6_copyFrom_42 (by decide) (by decide) rfl (sx_aload_n dX6_copyFrom_43 rfl (sx_getR dX6_copyFrom_44 fl_FootQuarrel_Street_19 (fun _ _ _ => rfl) (sx_iload_n dX6_copyFrom_47 rfl (sx_aald dX6_copyFrom_48 (by decide) (by decide) rfl (sx_vcall dX6_copyFrom_49 cf_X2_copyFrom (mg_5 (List.mem_of_getElem? (i := 27) rfl) rfl) (mg_5 (List.mem_of_getElem? (i := 28) rfl) rfl) (mg_5 (List.mem_of_getElem? (i := 29) rfl) rfl) rfl c_X2_copyFrom (b_X6_copyFrom_52))))))))))))
def B_X6_copyFrom_23 (l : Launch) (G : GT) (D mc ms : Nat) (Q : Post) : Cn := ix_iinc 2 1 (fqAt l G M_X6_copyFrom (D + 2) mc ms Q 2)
theorem b_X6_copyFrom_23 {l : Launch} {G : GT} {D mc ms : Nat} {Q : Post} : Imp l G M_X6_copyFrom (D + 2) mc ms Q (B_X6_copyFrom_23 l G D mc ms Q) 23 := sx_iinc dX6_copyFrom_23 rfl (by decide) (sx_goto 2 dX6_copyFrom_26 (by decide) ((fun _ _ _ _ _ _ _ _ h => h)))
def B_X6_copyFrom_2 (l : Launch) (G : GT) (D mc ms : Nat) (Q : Post) : Cn := ix_iload 2 (ix_pushI 6 (ix_icmp_ge (ix_pushI 0 (ix_istore 2 (fqAt l G M_X6_copyFrom (D + 2) mc ms Q 31))) (ix_aload 0 (ix_getR 6 0 (ix_iload 2 (ix_aald 16 (ix_aload 1 (ix_getR 6 0 (ix_iload 2 (ix_aald 16 (ix_vcall 0 2 0 0 mc ms (sp_X0_copyFrom G) ((B_X6_copyFrom_23 l G D mc ms Q)))))))))))))
theorem b_X6_copyFrom_2 {l : Launch} {G : GT} {D mc ms : Nat} {Q : Post} : Imp l G M_X6_copyFrom (D + 2) mc ms Q (B_X6_copyFrom_2 l G D mc ms Q) 2 := sx_iload_n dX6_copyFrom_2 rfl (sx_bipush dX6_copyFrom_3 rfl (sx_icmp_ge 29 dX6_copyFrom_5 (by decide) (sx_iconst dX6_copyFrom_29 rfl (sx_istore_n dX6_copyFrom_30 rfl (by decide) ((fun _ _ _ _ _ _ _ _ h => h)))) (sx_aload_n dX6_copyFrom_8 rfl (sx_getR dX6_copyFrom_9 fl_FootQuarrel_Street_11 (fun _ _ _ => rfl) (sx_iload_n dX6_copyFrom_12 rfl (sx_aald dX6_copyFrom_13 (by decide) (by decide) rfl (sx_aload_n dX6_copyFrom_14 rfl (sx_getR dX6_copyFrom_15 fl_FootQuarrel_Street_11 (fun _ _ _ => rfl) (sx_iload_n dX6_copyFrom_18 rfl (sx_aald dX6_copyFrom_19 (by decide) (by decide) rfl (sx_vcall dX6_copyFrom_20 cf_X0_copyFrom (mg_6 (List.mem_of_getElem? (i := 153) rfl) rfl) (mg_6 (List.mem_of_getElem? (i := 154) rfl) rfl) (mg_6 (List.mem_of_getElem? (i := 155) rfl) rfl) rfl c_X0_copyFrom (b_X6_copyFrom_23))))))))))))
def B_X6_copyFrom_0 (l : Launch) (G : GT) (D mc ms : Nat) (Q : Post) : Cn := ix_pushI 0 (ix_istore 2 (fqAt l G M_X6_copyFrom (D + 2) mc ms Q 2))
theorem b_X6_copyFrom_0 {l : Launch} {G : GT} {D mc ms : Nat} {Q : Post} : Imp l G M_X6_copyFrom (D + 2) mc ms Q (B_X6_copyFrom_0 l G D mc ms Q) 0 := sx_iconst dX6_copyFrom_0 rfl (sx_istore_n dX6_copyFrom_1 rfl (by decide) ((fun _ _ _ _ _ _ _ _ h => h)))
def sp_X6_copyFrom (G : GT) : Sp := fun as S I J z Q => match as with
  | [.ref a, .ref b] => ∃ (s p m : Nat), s = a ∧ p = b ∧ stS S s ∧ stS S p ∧ (s + 52 ≤ p ∨ p + 52 ≤ s) ∧ I (p + 4) 7 = nI m ∧ m ≤ 60 ∧ (I (p + 4) 9 = 0 ∨ I (p + 4) 9 = 1) ∧ (I p 16 = 0 ∨ I p 16 = 1) ∧ (∀ i, i < 20 → I (p + 32 + i) 6 = 0 ∨ I (p + 32 + i) 6 = 1) ∧ ∀ I' J', scR I I' J J' s p m → Q none S I' J' z
  | _ => False
set_option maxHeartbeats 4000000 in
set_option maxRecDepth 20000 in
theorem c_X6_copyFrom {l : Launch} {G : GT} {D : Nat} : ∀ as S I J z Q, sp_X6_copyFrom G as S I J z Q → fqCall l G M_X6_copyFrom (D + 2) 0 0 as S I J z Q := by
  intro as S I J z Q h
  unfold sp_X6_copyFrom at h
  split at h
  · next a b =>
    obtain ⟨s, p, m, rfl, rfl, hs, hp, l1, hm, hm6, h9, h16, hb, hQ⟩ := h
    have l6 : 6 < 2 ^ 31 := by omega
    -- behind all loops
    have c0 : ∀ (Ia Ib Ic : IH) (Ja Jb : JH), cpP I Ia s p 18 6 1 3 → cjP J Ja s p 18 6 → cpP Ia Ib s p 24 8 1 7 → cjP Ja Jb s p 24 8 → cpP Ib Ic s p 32 20 0 6 → fqAt l G M_X6_copyFrom (D + 2) 0 0 Q 60 [some (.ref s), some (.ref p), some (.int (nI 20))] [] S Ic Jb z 0 0 := by
      intro Ia Ib Ic Ja Jb ha ja hb2 jb hc
      have f : ∀ x, ¬ (s + 18 ≤ x ∧ x < s + 52) → Ic x = I x := fun x hx => by rw [hc.1 x (by omega), hb2.1 x (by omega), ha.1 x (by omega)]
      have fp : Ic p = I p := f p (by omega)
      have f4 : Ic (p + 4) = I (p + 4) := f _ (by omega)
      refine b_X6_copyFrom_60 _ _ _ _ _ _ _ _ ?_
      simp (disch := omega) only [B_X6_copyFrom_60, u2_same, u2_ck, u2_ca, u2_ne, fp, h16, li_20, hs.k, hs.r0, hs.k1, hs.r1, hs.k2, hs.r2, hs.k3, hs.r3, hs.k4, hs.r4, hs.k12, hs.n1, hs.n2, hs.n3, hs.y0, hs.k5, hs.n5, hs.y1, hs.k6, hs.n6, hs.y2, hs.k7, hs.n7, hs.y3, hs.k8, hs.n8, hs.y4, hs.k9, hs.n9, hs.y5, hs.k10, hs.n10, hs.y6, hs.k11, hs.n11, hs.p0, hs.p1, hs.p2, hs.k13, hs.n13, hs.q0, hs.q1, hs.k14, hs.k15, hs.k16, hs.n16, hs.k17, hs.n17, hs.rH, hs.kH, hs.rP, hs.kP, hs.rQ, hs.kQ, hp.k, hp.r0, hp.k1, hp.r1, hp.k2, hp.r2, hp.k3, hp.r3, hp.k4, hp.r4, hp.k12, hp.n1, hp.n2, hp.n3, hp.y0, hp.k5, hp.n5, hp.y1, hp.k6, hp.n6, hp.y2, hp.k7, hp.n7, hp.y3, hp.k8, hp.n8, hp.y4, hp.k9, hp.n9, hp.y5, hp.k10, hp.n10, hp.y6, hp.k11, hp.n11, hp.p0, hp.p1, hp.p2, hp.k13, hp.n13, hp.q0, hp.q1, hp.k14, hp.k15, hp.k16, hp.n16, hp.k17, hp.n17, hp.rH, hp.kH, hp.rP, hp.kP, hp.rQ, hp.kQ, nI_1, nI_add, nI_clamp, nI_pin, nI_neg, nI_nonneg, nI_leE, nI_ltE, nI_eqE, Nat.not_le, Nat.not_lt, fq_10, fq_01, fq_rr, ix_aald, ix_aast, ix_abs, ix_alen, ix_aload, ix_aret, ix_astore, ix_bald, ix_bast, ix_call, ix_cpyI, ix_cpyJ, ix_dead, ix_dup2, ix_dup2L, ix_dupI, ix_dupR, ix_dupx1, ix_getI, ix_getJ, ix_getR, ix_gfm, ix_gtab, ix_i2b, ix_i2c, ix_i2l, ix_i2s, ix_iadd, ix_iald, ix_iand, ix_iast, ix_icall, ix_icmp_eq, ix_icmp_ge, ix_icmp_gt, ix_icmp_le, ix_icmp_lt, ix_icmp_ne, ix_idiv, ix_if_eq, ix_if_ge, ix_if_gt, ix_if_le, ix_if_lt, ix_if_ne, ix_iinc, ix_iload, ix_imul, ix_ineg, ix_ior, ix_irem, ix_iret, ix_ishl, ix_ishr, ix_istore, ix_isub, ix_iushr, ix_ixor, ix_l2i, ix_ladd, ix_lald, ix_land, ix_last, ix_lcmp, ix_ldcS, ix_ldiv, ix_lload, ix_lmul, ix_lor, ix_lrem, ix_lret, ix_lshl, ix_lstore, ix_lsub, ix_lsw, ix_max, ix_min, ix_new, ix_newa, ix_nret, ix_oinit, ix_pop2L, ix_popI, ix_pushI, ix_pushL, ix_putI, ix_putJ, ix_putR, ix_putZ, ix_sbald, ix_sgetC, ix_sgetV, ix_slen, ix_strc, ix_tald, ix_tsw, ix_vcall, ix_vret, ix_zret, stL, stL2, kilL, popN, fq_sw, fq_lsw, List.map_cons, List.map_nil, List.getElem?_cons_zero, List.getElem?_cons_succ, Option.toList_some, Option.toList_none, List.cons_append, List.nil_append, List.length_cons, List.length_nil, List.sum_cons, List.sum_nil, cat_i, cat_l, cat_r, true_and, and_true, Nat.zero_add, Nat.add_zero, Nat.le_refl, Nat.zero_le, Nat.reduceAdd, Nat.reduceLeDiff, exists_eq_left', Option.some.injEq, not_true_eq_false, not_false_eq_true, false_implies, true_implies, implies_true, and_self, or_true, true_or, or_false, false_or]
      refine ⟨s, p, m, rfl, rfl, hs, hp, l1, ?_, hm6, ?_, ?_⟩
      · simp (disch := omega) only [u2_ne, f4]
        exact hm
      · simp (disch := omega) only [u2_ne, f4]
        exact h9
      simp (disch := omega) only [B_X6_copyFrom_194, nI_1, nI_add, nI_clamp, nI_pin, nI_neg, nI_nonneg, nI_leE, nI_ltE, nI_eqE, Nat.not_le, Nat.not_lt, fq_10, fq_01, fq_rr, ix_aald, ix_aast, ix_abs, ix_alen, ix_aload, ix_aret, ix_astore, ix_bald, ix_bast, ix_call, ix_cpyI, ix_cpyJ, ix_dead, ix_dup2, ix_dup2L, ix_dupI, ix_dupR, ix_dupx1, ix_getI, ix_getJ, ix_getR, ix_gfm, ix_gtab, ix_i2b, ix_i2c, ix_i2l, ix_i2s, ix_iadd, ix_iald, ix_iand, ix_iast, ix_icall, ix_icmp_eq, ix_icmp_ge, ix_icmp_gt, ix_icmp_le, ix_icmp_lt, ix_icmp_ne, ix_idiv, ix_if_eq, ix_if_ge, ix_if_gt, ix_if_le, ix_if_lt, ix_if_ne, ix_iinc, ix_iload, ix_imul, ix_ineg, ix_ior, ix_irem, ix_iret, ix_ishl, ix_ishr, ix_istore, ix_isub, ix_iushr, ix_ixor, ix_l2i, ix_ladd, ix_lald, ix_land, ix_last, ix_lcmp, ix_ldcS, ix_ldiv, ix_lload, ix_lmul, ix_lor, ix_lrem, ix_lret, ix_lshl, ix_lstore, ix_lsub, ix_lsw, ix_max, ix_min, ix_new, ix_newa, ix_nret, ix_oinit, ix_pop2L, ix_popI, ix_pushI, ix_pushL, ix_putI, ix_putJ, ix_putR, ix_putZ, ix_sbald, ix_sgetC, ix_sgetV, ix_slen, ix_strc, ix_tald, ix_tsw, ix_vcall, ix_vret, ix_zret, stL, stL2, kilL, popN, fq_sw, fq_lsw, List.map_cons, List.map_nil, List.getElem?_cons_zero, List.getElem?_cons_succ, Option.toList_some, Option.toList_none, List.cons_append, List.nil_append, List.length_cons, List.length_nil, List.sum_cons, List.sum_nil, cat_i, cat_l, cat_r, true_and, and_true, Nat.zero_add, Nat.add_zero, Nat.le_refl, Nat.zero_le, Nat.reduceAdd, Nat.reduceLeDiff, exists_eq_left', Option.some.injEq, not_true_eq_false, not_false_eq_true, false_implies, true_implies, implies_true, and_self, or_true, true_or, or_false, false_or]
      generalize hW : (u2 (u2 (u2 (u2 (u2 (u2 (u2 (u2 (u2 (u2 (u2 (u2 Ic s 5 (I p 5)) s 6 (I p 6)) s 7 (I p 7)) s 8 (I p 8)) s 9 (I p 9)) s 10 (I p 10)) s 11 (I p 11)) s 12 (I p 12)) s 13 (I p 13)) s 14 (I p 14)) s 15 (I p 15)) s 16 (I p 16)) = W
      have w : ∀ x, x ≠ s → W x = Ic x := fun x hx => by
        rw [← hW]
        simp (disch := omega) only [u2_ne]
      have ws : ∀ k, 5 ≤ k → k ≤ 16 → W s k = I p k := fun k h1 h2 => by
        rw [← hW]
        rcases (show k = 5 ∨ k = 6 ∨ k = 7 ∨ k = 8 ∨ k = 9 ∨ k = 10 ∨ k = 11 ∨ k = 12 ∨ k = 13 ∨ k = 14 ∨ k = 15 ∨ k = 16 by omega) with rfl | rfl | rfl | rfl | rfl | rfl | rfl | rfl | rfl | rfl | rfl | rfl <;> simp (disch := omega) only [u2_same, u2_ck]
      clear hW
      refine hQ _ _ ⟨fun x hx => ?_, fun k h1 h2 => ?_, fun i hi k h1 h2 => ?_, fun i hi k h1 h2 => ?_, fun i hi k h2 => ?_, fun k h1 h2 => ?_, fun j h1 h2 i hi => ?_, fun x hx => ?_, fun i hi => ?_⟩
      · rw [yC_o (by omega), w x (by omega), f x (by omega)]
      · rw [yC_o (by omega), ws k h1 h2]
      · rw [yC_o (by omega), w _ (by omega), hc.1 _ (by omega), hb2.1 _ (by omega)]
        exact ha.2 i hi k h1 h2
      · rw [yC_o (by omega), w _ (by omega), hc.1 _ (by omega), hb2.2 i hi k h1 h2, ha.1 _ (by omega)]
      · rw [yC_o (by omega), w _ (by omega), hc.2 i hi k (Nat.zero_le _) h2, hb2.1 _ (by omega), ha.1 _ (by omega)]
      · unfold yC
        rw [if_pos ⟨rfl, h1, h2⟩, w _ (by omega), f4]
      · rw [yC_a (j := j - 4) (by omega) (by omega) (by omega)]
        unfold va_cpy
        rw [if_pos (by omega), w _ (by omega), show p + 4 + (j - 4) = p + j by omega, show 0 + (i - 0) = i by omega, f _ (by omega)]
      · rw [jb.1 x (by omega), ja.1 x (by omega)]
      · by_cases q : i < 6
        · rw [jb.1 _ (by omega)]
          exact ja.2 i q
        · have := jb.2 (i - 6) (by omega)
          rw [show s + 24 + (i - 6) = s + 18 + i by omega, show p + 24 + (i - 6) = p + 18 + i by omega, ja.1 _ (by omega)] at this
          exact this
    have c3 : ∀ (n i : Nat) (Ia Ib Ic : IH) (Ja Jb : JH), i + n = 20 → cpP I Ia s p 18 6 1 3 → cjP J Ja s p 18 6 → cpP Ia Ib s p 24 8 1 7 → cjP Ja Jb s p 24 8 → cpP Ib Ic s p 32 i 0 6 → fqAt l G M_X6_copyFrom (D + 2) 0 0 Q 60 [some (.ref s), some (.ref p), some (.int (nI i))] [] S Ic Jb z 0 0 := by
      intro n
      induction n with
      | zero =>
        intro i Ia Ib Ic Ja Jb hi ha ja hb2 jb hc
        have : i = 20 := by omega
        subst this
        exact c0 Ia Ib Ic Ja Jb ha ja hb2 jb hc
      | succ n ih =>
        intro i Ia Ib Ic Ja Jb hi ha ja hb2 jb hc
        have fp : Ic (p + 32 + i) = I (p + 32 + i) := by rw [hc.1 _ (by omega), hb2.1 _ (by omega), ha.1 _ (by omega)]
        have fs : Ic p = I p := by rw [hc.1 _ (by omega), hb2.1 _ (by omega), ha.1 _ (by omega)]
        refine b_X6_copyFrom_60 _ _ _ _ _ _ _ _ ?_
        simp (disch := omega) only [B_X6_copyFrom_60, sp_X3_copyFrom, B_X6_copyFrom_81, fp, fs, u2_same, u2_ck, u2_ca, u2_ne, li_20, hs.k, hs.r0, hs.k1, hs.r1, hs.k2, hs.r2, hs.k3, hs.r3, hs.k4, hs.r4, hs.k12, hs.n1, hs.n2, hs.n3, hs.y0, hs.k5, hs.n5, hs.y1, hs.k6, hs.n6, hs.y2, hs.k7, hs.n7, hs.y3, hs.k8, hs.n8, hs.y4, hs.k9, hs.n9, hs.y5, hs.k10, hs.n10, hs.y6, hs.k11, hs.n11, hs.p0, hs.p1, hs.p2, hs.k13, hs.n13, hs.q0, hs.q1, hs.k14, hs.k15, hs.k16, hs.n16, hs.k17, hs.n17, hs.rH, hs.kH, hs.rP, hs.kP, hs.rQ, hs.kQ, hp.k, hp.r0, hp.k1, hp.r1, hp.k2, hp.r2, hp.k3, hp.r3, hp.k4, hp.r4, hp.k12, hp.n1, hp.n2, hp.n3, hp.y0, hp.k5, hp.n5, hp.y1, hp.k6, hp.n6, hp.y2, hp.k7, hp.n7, hp.y3, hp.k8, hp.n8, hp.y4, hp.k9, hp.n9, hp.y5, hp.k10, hp.n10, hp.y6, hp.k11, hp.n11, hp.p0, hp.p1, hp.p2, hp.k13, hp.n13, hp.q0, hp.q1, hp.k14, hp.k15, hp.k16, hp.n16, hp.k17, hp.n17, hp.rH, hp.kH, hp.rP, hp.kP, hp.rQ, hp.kQ, nI_1, nI_add, nI_clamp, nI_pin, nI_neg, nI_nonneg, nI_leE, nI_ltE, nI_eqE, Nat.not_le, Nat.not_lt, fq_10, fq_01, fq_rr, ix_aald, ix_aast, ix_abs, ix_alen, ix_aload, ix_aret, ix_astore, ix_bald, ix_bast, ix_call, ix_cpyI, ix_cpyJ, ix_dead, ix_dup2, ix_dup2L, ix_dupI, ix_dupR, ix_dupx1, ix_getI, ix_getJ, ix_getR, ix_gfm, ix_gtab, ix_i2b, ix_i2c, ix_i2l, ix_i2s, ix_iadd, ix_iald, ix_iand, ix_iast, ix_icall, ix_icmp_eq, ix_icmp_ge, ix_icmp_gt, ix_icmp_le, ix_icmp_lt, ix_icmp_ne, ix_idiv, ix_if_eq, ix_if_ge, ix_if_gt, ix_if_le, ix_if_lt, ix_if_ne, ix_iinc, ix_iload, ix_imul, ix_ineg, ix_ior, ix_irem, ix_iret, ix_ishl, ix_ishr, ix_istore, ix_isub, ix_iushr, ix_ixor, ix_l2i, ix_ladd, ix_lald, ix_land, ix_last, ix_lcmp, ix_ldcS, ix_ldiv, ix_lload, ix_lmul, ix_lor, ix_lrem, ix_lret, ix_lshl, ix_lstore, ix_lsub, ix_lsw, ix_max, ix_min, ix_new, ix_newa, ix_nret, ix_oinit, ix_pop2L, ix_popI, ix_pushI, ix_pushL, ix_putI, ix_putJ, ix_putR, ix_putZ, ix_sbald, ix_sgetC, ix_sgetV, ix_slen, ix_strc, ix_tald, ix_tsw, ix_vcall, ix_vret, ix_zret, stL, stL2, kilL, popN, fq_sw, fq_lsw, List.map_cons, List.map_nil, List.getElem?_cons_zero, List.getElem?_cons_succ, Option.toList_some, Option.toList_none, List.cons_append, List.nil_append, List.length_cons, List.length_nil, List.sum_cons, List.sum_nil, cat_i, cat_l, cat_r, true_and, and_true, Nat.zero_add, Nat.add_zero, Nat.le_refl, Nat.zero_le, Nat.reduceAdd, Nat.reduceLeDiff, exists_eq_left', Option.some.injEq, not_true_eq_false, not_false_eq_true, false_implies, true_implies, implies_true, and_self, or_true, true_or, or_false, false_or]
        exact ⟨fun q => absurd q (by omega), fun _ => ⟨hb i (by omega), ih (i + 1) Ia Ib _ Ja Jb (by omega) ha ja hb2 jb (hc.n (by omega))⟩⟩
    have c2 : ∀ (n i : Nat) (Ia Ib : IH) (Ja Jb : JH), i + n = 8 → cpP I Ia s p 18 6 1 3 → cjP J Ja s p 18 6 → cpP Ia Ib s p 24 i 1 7 → cjP Ja Jb s p 24 i → fqAt l G M_X6_copyFrom (D + 2) 0 0 Q 31 [some (.ref s), some (.ref p), some (.int (nI i))] [] S Ib Jb z 0 0 := by
      intro n
      induction n with
      | zero =>
        intro i Ia Ib Ja Jb hi ha ja hb2 jb
        have : i = 8 := by omega
        subst this
        refine b_X6_copyFrom_31 _ _ _ _ _ _ _ _ ?_
        simp (disch := omega) only [B_X6_copyFrom_31, li_8, hs.k, hs.r0, hs.k1, hs.r1, hs.k2, hs.r2, hs.k3, hs.r3, hs.k4, hs.r4, hs.k12, hs.n1, hs.n2, hs.n3, hs.y0, hs.k5, hs.n5, hs.y1, hs.k6, hs.n6, hs.y2, hs.k7, hs.n7, hs.y3, hs.k8, hs.n8, hs.y4, hs.k9, hs.n9, hs.y5, hs.k10, hs.n10, hs.y6, hs.k11, hs.n11, hs.p0, hs.p1, hs.p2, hs.k13, hs.n13, hs.q0, hs.q1, hs.k14, hs.k15, hs.k16, hs.n16, hs.k17, hs.n17, hs.rH, hs.kH, hs.rP, hs.kP, hs.rQ, hs.kQ, hp.k, hp.r0, hp.k1, hp.r1, hp.k2, hp.r2, hp.k3, hp.r3, hp.k4, hp.r4, hp.k12, hp.n1, hp.n2, hp.n3, hp.y0, hp.k5, hp.n5, hp.y1, hp.k6, hp.n6, hp.y2, hp.k7, hp.n7, hp.y3, hp.k8, hp.n8, hp.y4, hp.k9, hp.n9, hp.y5, hp.k10, hp.n10, hp.y6, hp.k11, hp.n11, hp.p0, hp.p1, hp.p2, hp.k13, hp.n13, hp.q0, hp.q1, hp.k14, hp.k15, hp.k16, hp.n16, hp.k17, hp.n17, hp.rH, hp.kH, hp.rP, hp.kP, hp.rQ, hp.kQ, nI_1, nI_add, nI_clamp, nI_pin, nI_neg, nI_nonneg, nI_leE, nI_ltE, nI_eqE, Nat.not_le, Nat.not_lt, fq_10, fq_01, fq_rr, ix_aald, ix_aast, ix_abs, ix_alen, ix_aload, ix_aret, ix_astore, ix_bald, ix_bast, ix_call, ix_cpyI, ix_cpyJ, ix_dead, ix_dup2, ix_dup2L, ix_dupI, ix_dupR, ix_dupx1, ix_getI, ix_getJ, ix_getR, ix_gfm, ix_gtab, ix_i2b, ix_i2c, ix_i2l, ix_i2s, ix_iadd, ix_iald, ix_iand, ix_iast, ix_icall, ix_icmp_eq, ix_icmp_ge, ix_icmp_gt, ix_icmp_le, ix_icmp_lt, ix_icmp_ne, ix_idiv, ix_if_eq, ix_if_ge, ix_if_gt, ix_if_le, ix_if_lt, ix_if_ne, ix_iinc, ix_iload, ix_imul, ix_ineg, ix_ior, ix_irem, ix_iret, ix_ishl, ix_ishr, ix_istore, ix_isub, ix_iushr, ix_ixor, ix_l2i, ix_ladd, ix_lald, ix_land, ix_last, ix_lcmp, ix_ldcS, ix_ldiv, ix_lload, ix_lmul, ix_lor, ix_lrem, ix_lret, ix_lshl, ix_lstore, ix_lsub, ix_lsw, ix_max, ix_min, ix_new, ix_newa, ix_nret, ix_oinit, ix_pop2L, ix_popI, ix_pushI, ix_pushL, ix_putI, ix_putJ, ix_putR, ix_putZ, ix_sbald, ix_sgetC, ix_sgetV, ix_slen, ix_strc, ix_tald, ix_tsw, ix_vcall, ix_vret, ix_zret, stL, stL2, kilL, popN, fq_sw, fq_lsw, List.map_cons, List.map_nil, List.getElem?_cons_zero, List.getElem?_cons_succ, Option.toList_some, Option.toList_none, List.cons_append, List.nil_append, List.length_cons, List.length_nil, List.sum_cons, List.sum_nil, cat_i, cat_l, cat_r, true_and, and_true, Nat.zero_add, Nat.add_zero, Nat.le_refl, Nat.zero_le, Nat.reduceAdd, Nat.reduceLeDiff, exists_eq_left', Option.some.injEq, not_true_eq_false, not_false_eq_true, false_implies, true_implies, implies_true, and_self, or_true, true_or, or_false, false_or]
        exact c3 20 0 Ia Ib Ib Ja Jb rfl ha ja hb2 jb cpP.z
      | succ n ih =>
        intro i Ia Ib Ja Jb hi ha ja hb2 jb
        refine b_X6_copyFrom_31 _ _ _ _ _ _ _ _ ?_
        simp (disch := omega) only [B_X6_copyFrom_31, sp_X2_copyFrom, B_X6_copyFrom_52, li_8, hs.k, hs.r0, hs.k1, hs.r1, hs.k2, hs.r2, hs.k3, hs.r3, hs.k4, hs.r4, hs.k12, hs.n1, hs.n2, hs.n3, hs.y0, hs.k5, hs.n5, hs.y1, hs.k6, hs.n6, hs.y2, hs.k7, hs.n7, hs.y3, hs.k8, hs.n8, hs.y4, hs.k9, hs.n9, hs.y5, hs.k10, hs.n10, hs.y6, hs.k11, hs.n11, hs.p0, hs.p1, hs.p2, hs.k13, hs.n13, hs.q0, hs.q1, hs.k14, hs.k15, hs.k16, hs.n16, hs.k17, hs.n17, hs.rH, hs.kH, hs.rP, hs.kP, hs.rQ, hs.kQ, hp.k, hp.r0, hp.k1, hp.r1, hp.k2, hp.r2, hp.k3, hp.r3, hp.k4, hp.r4, hp.k12, hp.n1, hp.n2, hp.n3, hp.y0, hp.k5, hp.n5, hp.y1, hp.k6, hp.n6, hp.y2, hp.k7, hp.n7, hp.y3, hp.k8, hp.n8, hp.y4, hp.k9, hp.n9, hp.y5, hp.k10, hp.n10, hp.y6, hp.k11, hp.n11, hp.p0, hp.p1, hp.p2, hp.k13, hp.n13, hp.q0, hp.q1, hp.k14, hp.k15, hp.k16, hp.n16, hp.k17, hp.n17, hp.rH, hp.kH, hp.rP, hp.kP, hp.rQ, hp.kQ, nI_1, nI_add, nI_clamp, nI_pin, nI_neg, nI_nonneg, nI_leE, nI_ltE, nI_eqE, Nat.not_le, Nat.not_lt, fq_10, fq_01, fq_rr, ix_aald, ix_aast, ix_abs, ix_alen, ix_aload, ix_aret, ix_astore, ix_bald, ix_bast, ix_call, ix_cpyI, ix_cpyJ, ix_dead, ix_dup2, ix_dup2L, ix_dupI, ix_dupR, ix_dupx1, ix_getI, ix_getJ, ix_getR, ix_gfm, ix_gtab, ix_i2b, ix_i2c, ix_i2l, ix_i2s, ix_iadd, ix_iald, ix_iand, ix_iast, ix_icall, ix_icmp_eq, ix_icmp_ge, ix_icmp_gt, ix_icmp_le, ix_icmp_lt, ix_icmp_ne, ix_idiv, ix_if_eq, ix_if_ge, ix_if_gt, ix_if_le, ix_if_lt, ix_if_ne, ix_iinc, ix_iload, ix_imul, ix_ineg, ix_ior, ix_irem, ix_iret, ix_ishl, ix_ishr, ix_istore, ix_isub, ix_iushr, ix_ixor, ix_l2i, ix_ladd, ix_lald, ix_land, ix_last, ix_lcmp, ix_ldcS, ix_ldiv, ix_lload, ix_lmul, ix_lor, ix_lrem, ix_lret, ix_lshl, ix_lstore, ix_lsub, ix_lsw, ix_max, ix_min, ix_new, ix_newa, ix_nret, ix_oinit, ix_pop2L, ix_popI, ix_pushI, ix_pushL, ix_putI, ix_putJ, ix_putR, ix_putZ, ix_sbald, ix_sgetC, ix_sgetV, ix_slen, ix_strc, ix_tald, ix_tsw, ix_vcall, ix_vret, ix_zret, stL, stL2, kilL, popN, fq_sw, fq_lsw, List.map_cons, List.map_nil, List.getElem?_cons_zero, List.getElem?_cons_succ, Option.toList_some, Option.toList_none, List.cons_append, List.nil_append, List.length_cons, List.length_nil, List.sum_cons, List.sum_nil, cat_i, cat_l, cat_r, true_and, and_true, Nat.zero_add, Nat.add_zero, Nat.le_refl, Nat.zero_le, Nat.reduceAdd, Nat.reduceLeDiff, exists_eq_left', Option.some.injEq, not_true_eq_false, not_false_eq_true, false_implies, true_implies, implies_true, and_self, or_true, true_or, or_false, false_or]
        exact ⟨fun q => absurd q (by omega), fun _ => ih (i + 1) Ia _ Ja _ (by omega) ha ja (hb2.n (by omega)) (jb.n (by omega))⟩
    have c1 : ∀ (n i : Nat) (Ia : IH) (Ja : JH), i + n = 6 → cpP I Ia s p 18 i 1 3 → cjP J Ja s p 18 i → fqAt l G M_X6_copyFrom (D + 2) 0 0 Q 2 [some (.ref s), some (.ref p), some (.int (nI i))] [] S Ia Ja z 0 0 := by
      intro n
      induction n with
      | zero =>
        intro i Ia Ja hi ha ja
        have : i = 6 := by omega
        subst this
        refine b_X6_copyFrom_2 _ _ _ _ _ _ _ _ ?_
        simp (disch := omega) only [B_X6_copyFrom_2, li_6, hs.k, hs.r0, hs.k1, hs.r1, hs.k2, hs.r2, hs.k3, hs.r3, hs.k4, hs.r4, hs.k12, hs.n1, hs.n2, hs.n3, hs.y0, hs.k5, hs.n5, hs.y1, hs.k6, hs.n6, hs.y2, hs.k7, hs.n7, hs.y3, hs.k8, hs.n8, hs.y4, hs.k9, hs.n9, hs.y5, hs.k10, hs.n10, hs.y6, hs.k11, hs.n11, hs.p0, hs.p1, hs.p2, hs.k13, hs.n13, hs.q0, hs.q1, hs.k14, hs.k15, hs.k16, hs.n16, hs.k17, hs.n17, hs.rH, hs.kH, hs.rP, hs.kP, hs.rQ, hs.kQ, hp.k, hp.r0, hp.k1, hp.r1, hp.k2, hp.r2, hp.k3, hp.r3, hp.k4, hp.r4, hp.k12, hp.n1, hp.n2, hp.n3, hp.y0, hp.k5, hp.n5, hp.y1, hp.k6, hp.n6, hp.y2, hp.k7, hp.n7, hp.y3, hp.k8, hp.n8, hp.y4, hp.k9, hp.n9, hp.y5, hp.k10, hp.n10, hp.y6, hp.k11, hp.n11, hp.p0, hp.p1, hp.p2, hp.k13, hp.n13, hp.q0, hp.q1, hp.k14, hp.k15, hp.k16, hp.n16, hp.k17, hp.n17, hp.rH, hp.kH, hp.rP, hp.kP, hp.rQ, hp.kQ, nI_1, nI_add, nI_clamp, nI_pin, nI_neg, nI_nonneg, nI_leE, nI_ltE, nI_eqE, Nat.not_le, Nat.not_lt, fq_10, fq_01, fq_rr, ix_aald, ix_aast, ix_abs, ix_alen, ix_aload, ix_aret, ix_astore, ix_bald, ix_bast, ix_call, ix_cpyI, ix_cpyJ, ix_dead, ix_dup2, ix_dup2L, ix_dupI, ix_dupR, ix_dupx1, ix_getI, ix_getJ, ix_getR, ix_gfm, ix_gtab, ix_i2b, ix_i2c, ix_i2l, ix_i2s, ix_iadd, ix_iald, ix_iand, ix_iast, ix_icall, ix_icmp_eq, ix_icmp_ge, ix_icmp_gt, ix_icmp_le, ix_icmp_lt, ix_icmp_ne, ix_idiv, ix_if_eq, ix_if_ge, ix_if_gt, ix_if_le, ix_if_lt, ix_if_ne, ix_iinc, ix_iload, ix_imul, ix_ineg, ix_ior, ix_irem, ix_iret, ix_ishl, ix_ishr, ix_istore, ix_isub, ix_iushr, ix_ixor, ix_l2i, ix_ladd, ix_lald, ix_land, ix_last, ix_lcmp, ix_ldcS, ix_ldiv, ix_lload, ix_lmul, ix_lor, ix_lrem, ix_lret, ix_lshl, ix_lstore, ix_lsub, ix_lsw, ix_max, ix_min, ix_new, ix_newa, ix_nret, ix_oinit, ix_pop2L, ix_popI, ix_pushI, ix_pushL, ix_putI, ix_putJ, ix_putR, ix_putZ, ix_sbald, ix_sgetC, ix_sgetV, ix_slen, ix_strc, ix_tald, ix_tsw, ix_vcall, ix_vret, ix_zret, stL, stL2, kilL, popN, fq_sw, fq_lsw, List.map_cons, List.map_nil, List.getElem?_cons_zero, List.getElem?_cons_succ, Option.toList_some, Option.toList_none, List.cons_append, List.nil_append, List.length_cons, List.length_nil, List.sum_cons, List.sum_nil, cat_i, cat_l, cat_r, true_and, and_true, Nat.zero_add, Nat.add_zero, Nat.le_refl, Nat.zero_le, Nat.reduceAdd, Nat.reduceLeDiff, exists_eq_left', Option.some.injEq, not_true_eq_false, not_false_eq_true, false_implies, true_implies, implies_true, and_self, or_true, true_or, or_false, false_or]
        exact c2 8 0 Ia Ia Ja Ja rfl ha ja cpP.z cjP.z
      | succ n ih =>
        intro i Ia Ja hi ha ja
        refine b_X6_copyFrom_2 _ _ _ _ _ _ _ _ ?_
        simp (disch := omega) only [B_X6_copyFrom_2, sp_X0_copyFrom, B_X6_copyFrom_23, li_6, hs.k, hs.r0, hs.k1, hs.r1, hs.k2, hs.r2, hs.k3, hs.r3, hs.k4, hs.r4, hs.k12, hs.n1, hs.n2, hs.n3, hs.y0, hs.k5, hs.n5, hs.y1, hs.k6, hs.n6, hs.y2, hs.k7, hs.n7, hs.y3, hs.k8, hs.n8, hs.y4, hs.k9, hs.n9, hs.y5, hs.k10, hs.n10, hs.y6, hs.k11, hs.n11, hs.p0, hs.p1, hs.p2, hs.k13, hs.n13, hs.q0, hs.q1, hs.k14, hs.k15, hs.k16, hs.n16, hs.k17, hs.n17, hs.rH, hs.kH, hs.rP, hs.kP, hs.rQ, hs.kQ, hp.k, hp.r0, hp.k1, hp.r1, hp.k2, hp.r2, hp.k3, hp.r3, hp.k4, hp.r4, hp.k12, hp.n1, hp.n2, hp.n3, hp.y0, hp.k5, hp.n5, hp.y1, hp.k6, hp.n6, hp.y2, hp.k7, hp.n7, hp.y3, hp.k8, hp.n8, hp.y4, hp.k9, hp.n9, hp.y5, hp.k10, hp.n10, hp.y6, hp.k11, hp.n11, hp.p0, hp.p1, hp.p2, hp.k13, hp.n13, hp.q0, hp.q1, hp.k14, hp.k15, hp.k16, hp.n16, hp.k17, hp.n17, hp.rH, hp.kH, hp.rP, hp.kP, hp.rQ, hp.kQ, nI_1, nI_add, nI_clamp, nI_pin, nI_neg, nI_nonneg, nI_leE, nI_ltE, nI_eqE, Nat.not_le, Nat.not_lt, fq_10, fq_01, fq_rr, ix_aald, ix_aast, ix_abs, ix_alen, ix_aload, ix_aret, ix_astore, ix_bald, ix_bast, ix_call, ix_cpyI, ix_cpyJ, ix_dead, ix_dup2, ix_dup2L, ix_dupI, ix_dupR, ix_dupx1, ix_getI, ix_getJ, ix_getR, ix_gfm, ix_gtab, ix_i2b, ix_i2c, ix_i2l, ix_i2s, ix_iadd, ix_iald, ix_iand, ix_iast, ix_icall, ix_icmp_eq, ix_icmp_ge, ix_icmp_gt, ix_icmp_le, ix_icmp_lt, ix_icmp_ne, ix_idiv, ix_if_eq, ix_if_ge, ix_if_gt, ix_if_le, ix_if_lt, ix_if_ne, ix_iinc, ix_iload, ix_imul, ix_ineg, ix_ior, ix_irem, ix_iret, ix_ishl, ix_ishr, ix_istore, ix_isub, ix_iushr, ix_ixor, ix_l2i, ix_ladd, ix_lald, ix_land, ix_last, ix_lcmp, ix_ldcS, ix_ldiv, ix_lload, ix_lmul, ix_lor, ix_lrem, ix_lret, ix_lshl, ix_lstore, ix_lsub, ix_lsw, ix_max, ix_min, ix_new, ix_newa, ix_nret, ix_oinit, ix_pop2L, ix_popI, ix_pushI, ix_pushL, ix_putI, ix_putJ, ix_putR, ix_putZ, ix_sbald, ix_sgetC, ix_sgetV, ix_slen, ix_strc, ix_tald, ix_tsw, ix_vcall, ix_vret, ix_zret, stL, stL2, kilL, popN, fq_sw, fq_lsw, List.map_cons, List.map_nil, List.getElem?_cons_zero, List.getElem?_cons_succ, Option.toList_some, Option.toList_none, List.cons_append, List.nil_append, List.length_cons, List.length_nil, List.sum_cons, List.sum_nil, cat_i, cat_l, cat_r, true_and, and_true, Nat.zero_add, Nat.add_zero, Nat.le_refl, Nat.zero_le, Nat.reduceAdd, Nat.reduceLeDiff, exists_eq_left', Option.some.injEq, not_true_eq_false, not_false_eq_true, false_implies, true_implies, implies_true, and_self, or_true, true_or, or_false, false_or]
        exact ⟨fun q => absurd q (by omega), fun _ => ih (i + 1) _ _ (by omega) (ha.n (by omega)) (ja.n (by omega))⟩
    refine fq_enter [some (.ref s), some (.ref p), none] (by decide +kernel) (Nat.le_of_ble_eq_true rfl) rfl (b_X6_copyFrom_0 _ _ _ _ _ _ _ _ ?_)
    simp (disch := omega) only [B_X6_copyFrom_0, nI_1, nI_add, nI_clamp, nI_pin, nI_neg, nI_nonneg, nI_leE, nI_ltE, nI_eqE, Nat.not_le, Nat.not_lt, fq_10, fq_01, fq_rr, ix_aald, ix_aast, ix_abs, ix_alen, ix_aload, ix_aret, ix_astore, ix_bald, ix_bast, ix_call, ix_cpyI, ix_cpyJ, ix_dead, ix_dup2, ix_dup2L, ix_dupI, ix_dupR, ix_dupx1, ix_getI, ix_getJ, ix_getR, ix_gfm, ix_gtab, ix_i2b, ix_i2c, ix_i2l, ix_i2s, ix_iadd, ix_iald, ix_iand, ix_iast, ix_icall, ix_icmp_eq, ix_icmp_ge, ix_icmp_gt, ix_icmp_le, ix_icmp_lt, ix_icmp_ne, ix_idiv, ix_if_eq, ix_if_ge, ix_if_gt, ix_if_le, ix_if_lt, ix_if_ne, ix_iinc, ix_iload, ix_imul, ix_ineg, ix_ior, ix_irem, ix_iret, ix_ishl, ix_ishr, ix_istore, ix_isub, ix_iushr, ix_ixor, ix_l2i, ix_ladd, ix_lald, ix_land, ix_last, ix_lcmp, ix_ldcS, ix_ldiv, ix_lload, ix_lmul, ix_lor, ix_lrem, ix_lret, ix_lshl, ix_lstore, ix_lsub, ix_lsw, ix_max, ix_min, ix_new, ix_newa, ix_nret, ix_oinit, ix_pop2L, ix_popI, ix_pushI, ix_pushL, ix_putI, ix_putJ, ix_putR, ix_putZ, ix_sbald, ix_sgetC, ix_sgetV, ix_slen, ix_strc, ix_tald, ix_tsw, ix_vcall, ix_vret, ix_zret, stL, stL2, kilL, popN, fq_sw, fq_lsw, List.map_cons, List.map_nil, List.getElem?_cons_zero, List.getElem?_cons_succ, Option.toList_some, Option.toList_none, List.cons_append, List.nil_append, List.length_cons, List.length_nil, List.sum_cons, List.sum_nil, cat_i, cat_l, cat_r, true_and, and_true, Nat.zero_add, Nat.add_zero, Nat.le_refl, Nat.zero_le, Nat.reduceAdd, Nat.reduceLeDiff, exists_eq_left', Option.some.injEq, not_true_eq_false, not_false_eq_true, false_implies, true_implies, implies_true, and_self, or_true, true_or, or_false, false_or]
    exact c1 6 0 I J rfl cpP.z cjP.z
  · exact h.elim
theorem dX11_mark_0 : decode cX11_mark 0 = .ok (.aload_n 0, 1) := by decide +kernel
theorem dX11_mark_1 : decode cX11_mark 1 = .ok (.getfield 433, 3) := by decide +kernel
theorem dX11_mark_4 : decode cX11_mark 4 = .ok (.iconst 3, 1) := by decide +kernel
theorem dX11_mark_5 : decode cX11_mark 5 = .ok (.if_icmp .lt 9, 3) := by decide +kernel
theorem dX11_mark_8 : decode cX11_mark 8 = .ok (.aload_n 0, 1) := by decide +kernel
theorem dX11_mark_9 : decode cX11_mark 9 = .ok (.iconst 4, 1) := by decide +kernel
theorem dX11_mark_10 : decode cX11_mark 10 = .ok (.invokevirtual 97, 3) := by decide +kernel
theorem dX11_mark_13 : decode cX11_mark 13 = .ok (.ireturn, 1) := by decide +kernel
theorem dX11_mark_14 : decode cX11_mark 14 = .ok (.aload_n 0, 1) := by decide +kernel
theorem dX11_mark_15 : decode cX11_mark 15 = .ok (.getfield 31, 3) := by decide +kernel
theorem dX11_mark_18 : decode cX11_mark 18 = .ok (.aload_n 0, 1) := by decide +kernel
theorem dX11_mark_19 : decode cX11_mark 19 = .ok (.getfield 433, 3) := by decide +kernel
theorem dX11_mark_22 : decode cX11_mark 22 = .ok (.aaload, 1) := by decide +kernel
theorem dX11_mark_23 : decode cX11_mark 23 = .ok (.aload_n 0, 1) := by decide +kernel
theorem dX11_mark_24 : decode cX11_mark 24 = .ok (.getfield 46, 3) := by decide +kernel
theorem dX11_mark_27 : decode cX11_mark 27 = .ok (.invokevirtual 430, 3) := by decide +kernel
theorem dX11_mark_30 : decode cX11_mark 30 = .ok (.aload_n 0, 1) := by decide +kernel
theorem dX11_mark_31 : decode cX11_mark 31 = .ok (.dup, 1) := by decide +kernel
theorem dX11_mark_32 : decode cX11_mark 32 = .ok (.getfield 433, 3) := by decide +kernel
theorem dX11_mark_35 : decode cX11_mark 35 = .ok (.iconst 1, 1) := by decide +kernel
theorem dX11_mark_36 : decode cX11_mark 36 = .ok (.iadd, 1) := by decide +kernel
theorem dX11_mark_37 : decode cX11_mark 37 = .ok (.putfield 433, 3) := by decide +kernel
theorem dX11_mark_40 : decode cX11_mark 40 = .ok (.aload_n 0, 1) := by decide +kernel
theorem dX11_mark_41 : decode cX11_mark 41 = .ok (.aload_n 0, 1) := by decide +kernel
theorem dX11_mark_42 : decode cX11_mark 42 = .ok (.getfield 433, 3) := by decide +kernel
theorem dX11_mark_45 : decode cX11_mark 45 = .ok (.invokevirtual 142, 3) := by decide +kernel
theorem dX11_mark_48 : decode cX11_mark 48 = .ok (.ireturn, 1) := by decide +kernel
abbrev M_X11_mark : MT := (yX11_mark, cX11_mark, 1, (some .int))
theorem cf_X11_mark : fq_cf M_X11_mark 0 := ⟨(mg_1 (List.mem_of_getElem? (i := 1) rfl) rfl), (mg_6 (List.mem_of_getElem? (i := 165) rfl) rfl), ⟨by decide, by decide, by decide +kernel⟩, by decide⟩
def B_X11_mark_0 (G : GT) (mc ms : Nat) (Q : Post) : Cn := ix_aload 0 (ix_getI 11 9 (ix_pushI 3 (ix_icmp_lt (ix_aload 0 (ix_getR 11 3 (ix_aload 0 (ix_getI 11 9 (ix_aald 19 (ix_aload 0 (ix_getR 11 6 (ix_vcall 6 2 0 0 mc ms (sp_X6_copyFrom G) (ix_aload 0 (ix_dupR (ix_getI 11 9 (ix_pushI 1 (ix_iadd (ix_putI 11 9 (ix_aload 0 (ix_aload 0 (ix_getI 11 9 (ix_vcall 11 2 0 0 mc ms (sp_X11_answer G) (ix_iret mc ms Q))))))))))))))))))) (ix_aload 0 (ix_pushI 4 (ix_vcall 11 2 0 0 mc ms (sp_X11_refuse G) (ix_iret mc ms Q)))))))
theorem b_X11_mark_0 {l : Launch} {G : GT} {D mc ms : Nat} {Q : Post} : Imp l G M_X11_mark (D + 3) mc ms Q (B_X11_mark_0 G mc ms Q) 0 := sx_aload_n dX11_mark_0 rfl (sx_getI dX11_mark_1 fl_FootQuarrel_433 (fun _ _ _ => rfl) (sx_iconst dX11_mark_4 rfl (sx_icmp_lt 14 dX11_mark_5 (by decide) (sx_aload_n dX11_mark_14 rfl (sx_getR dX11_mark_15 fl_FootQuarrel_31 (fun _ _ _ => rfl) (sx_aload_n dX11_mark_18 rfl (sx_getI dX11_mark_19 fl_FootQuarrel_433 (fun _ _ _ => rfl) (sx_aald dX11_mark_22 (by decide) (by decide) rfl (sx_aload_n dX11_mark_23 rfl (sx_getR dX11_mark_24 fl_FootQuarrel_46 (fun _ _ _ => rfl) (sx_vcall dX11_mark_27 cf_X6_copyFrom (mg_6 (List.mem_of_getElem? (i := 149) rfl) rfl) (mg_6 (List.mem_of_getElem? (i := 150) rfl) rfl) (mg_6 (List.mem_of_getElem? (i := 151) rfl) rfl) rfl c_X6_copyFrom (sx_aload_n dX11_mark_30 rfl (sx_dupR dX11_mark_31 (sx_getI dX11_mark_32 fl_FootQuarrel_433 (fun _ _ _ => rfl) (sx_iconst dX11_mark_35 rfl (sx_iadd dX11_mark_36 (sx_putI dX11_mark_37 fl_FootQuarrel_433 (by decide) (fun _ _ _ => rfl) (fun _ => ⟨rfl, rfl⟩) (sx_aload_n dX11_mark_40 rfl (sx_aload_n dX11_mark_41 rfl (sx_getI dX11_mark_42 fl_FootQuarrel_433 (fun _ _ _ => rfl) (sx_vcall dX11_mark_45 cf_X11_answer (mg_4 (List.mem_of_getElem? (i := 72) rfl) rfl) (mg_4 (List.mem_of_getElem? (i := 74) rfl) rfl) (mg_p (List.mem_of_getElem? (i := 17) rfl) rfl) rfl c_X11_answer (sx_iret dX11_mark_48 rfl))))))))))))))))))) (sx_aload_n dX11_mark_8 rfl (sx_iconst dX11_mark_9 rfl (sx_vcall dX11_mark_10 cf_X11_refuse (mg_3 (List.mem_of_getElem? (i := 120) rfl) rfl) (mg_3 (List.mem_of_getElem? (i := 122) rfl) rfl) (mg_p (List.mem_of_getElem? (i := 3) rfl) rfl) rfl c_X11_refuse (sx_iret dX11_mark_13 rfl)))))))
def sp_X11_mark (G : GT) : Sp := fun as S I J z Q => match as with
  | [.ref a0] => B_X11_mark_0 G 0 0 Q [some (.ref a0)] [] S I J z 0 0
  | _ => False
theorem c_X11_mark {l : Launch} {G : GT} {D : Nat} : ∀ as S I J z Q, sp_X11_mark G as S I J z Q → fqCall l G M_X11_mark (D + 3) 0 0 as S I J z Q := by
  intro as S I J z Q h
  unfold sp_X11_mark at h
  split at h
  · exact fq_enter _ (by decide +kernel) (Nat.le_of_ble_eq_true rfl) rfl (b_X11_mark_0 _ _ _ _ _ _ _ _ h)
  · exact h.elim
theorem dX11_undo_0 : decode cX11_undo 0 = .ok (.aload_n 0, 1) := by decide +kernel
theorem dX11_undo_1 : decode cX11_undo 1 = .ok (.getfield 433, 3) := by decide +kernel
theorem dX11_undo_4 : decode cX11_undo 4 = .ok (.ifCond .ne 10, 3) := by decide +kernel
theorem dX11_undo_7 : decode cX11_undo 7 = .ok (.aload_n 0, 1) := by decide +kernel
theorem dX11_undo_8 : decode cX11_undo 8 = .ok (.bipush 6, 2) := by decide +kernel
theorem dX11_undo_10 : decode cX11_undo 10 = .ok (.invokevirtual 97, 3) := by decide +kernel
theorem dX11_undo_13 : decode cX11_undo 13 = .ok (.ireturn, 1) := by decide +kernel
theorem dX11_undo_14 : decode cX11_undo 14 = .ok (.aload_n 0, 1) := by decide +kernel
theorem dX11_undo_15 : decode cX11_undo 15 = .ok (.dup, 1) := by decide +kernel
theorem dX11_undo_16 : decode cX11_undo 16 = .ok (.getfield 433, 3) := by decide +kernel
theorem dX11_undo_19 : decode cX11_undo 19 = .ok (.iconst 1, 1) := by decide +kernel
theorem dX11_undo_20 : decode cX11_undo 20 = .ok (.isub, 1) := by decide +kernel
theorem dX11_undo_21 : decode cX11_undo 21 = .ok (.putfield 433, 3) := by decide +kernel
theorem dX11_undo_24 : decode cX11_undo 24 = .ok (.aload_n 0, 1) := by decide +kernel
theorem dX11_undo_25 : decode cX11_undo 25 = .ok (.getfield 46, 3) := by decide +kernel
theorem dX11_undo_28 : decode cX11_undo 28 = .ok (.aload_n 0, 1) := by decide +kernel
theorem dX11_undo_29 : decode cX11_undo 29 = .ok (.getfield 31, 3) := by decide +kernel
theorem dX11_undo_32 : decode cX11_undo 32 = .ok (.aload_n 0, 1) := by decide +kernel
theorem dX11_undo_33 : decode cX11_undo 33 = .ok (.getfield 433, 3) := by decide +kernel
theorem dX11_undo_36 : decode cX11_undo 36 = .ok (.aaload, 1) := by decide +kernel
theorem dX11_undo_37 : decode cX11_undo 37 = .ok (.invokevirtual 430, 3) := by decide +kernel
theorem dX11_undo_40 : decode cX11_undo 40 = .ok (.aload_n 0, 1) := by decide +kernel
theorem dX11_undo_41 : decode cX11_undo 41 = .ok (.aload_n 0, 1) := by decide +kernel
theorem dX11_undo_42 : decode cX11_undo 42 = .ok (.getfield 433, 3) := by decide +kernel
theorem dX11_undo_45 : decode cX11_undo 45 = .ok (.invokevirtual 142, 3) := by decide +kernel
theorem dX11_undo_48 : decode cX11_undo 48 = .ok (.ireturn, 1) := by decide +kernel
abbrev M_X11_undo : MT := (yX11_undo, cX11_undo, 1, (some .int))
theorem cf_X11_undo : fq_cf M_X11_undo 0 := ⟨(mg_1 (List.mem_of_getElem? (i := 1) rfl) rfl), (mg_6 (List.mem_of_getElem? (i := 169) rfl) rfl), ⟨by decide, by decide, by decide +kernel⟩, by decide⟩
def B_X11_undo_0 (G : GT) (mc ms : Nat) (Q : Post) : Cn := ix_aload 0 (ix_getI 11 9 (ix_if_ne (ix_aload 0 (ix_dupR (ix_getI 11 9 (ix_pushI 1 (ix_isub (ix_putI 11 9 (ix_aload 0 (ix_getR 11 6 (ix_aload 0 (ix_getR 11 3 (ix_aload 0 (ix_getI 11 9 (ix_aald 19 (ix_vcall 6 2 0 0 mc ms (sp_X6_copyFrom G) (ix_aload 0 (ix_aload 0 (ix_getI 11 9 (ix_vcall 11 2 0 0 mc ms (sp_X11_answer G) (ix_iret mc ms Q))))))))))))))))))) (ix_aload 0 (ix_pushI 6 (ix_vcall 11 2 0 0 mc ms (sp_X11_refuse G) (ix_iret mc ms Q))))))
theorem b_X11_undo_0 {l : Launch} {G : GT} {D mc ms : Nat} {Q : Post} : Imp l G M_X11_undo (D + 3) mc ms Q (B_X11_undo_0 G mc ms Q) 0 := sx_aload_n dX11_undo_0 rfl (sx_getI dX11_undo_1 fl_FootQuarrel_433 (fun _ _ _ => rfl) (sx_if_ne 14 dX11_undo_4 (by decide) (sx_aload_n dX11_undo_14 rfl (sx_dupR dX11_undo_15 (sx_getI dX11_undo_16 fl_FootQuarrel_433 (fun _ _ _ => rfl) (sx_iconst dX11_undo_19 rfl (sx_isub dX11_undo_20 (sx_putI dX11_undo_21 fl_FootQuarrel_433 (by decide) (fun _ _ _ => rfl) (fun _ => ⟨rfl, rfl⟩) (sx_aload_n dX11_undo_24 rfl (sx_getR dX11_undo_25 fl_FootQuarrel_46 (fun _ _ _ => rfl) (sx_aload_n dX11_undo_28 rfl (sx_getR dX11_undo_29 fl_FootQuarrel_31 (fun _ _ _ => rfl) (sx_aload_n dX11_undo_32 rfl (sx_getI dX11_undo_33 fl_FootQuarrel_433 (fun _ _ _ => rfl) (sx_aald dX11_undo_36 (by decide) (by decide) rfl (sx_vcall dX11_undo_37 cf_X6_copyFrom (mg_6 (List.mem_of_getElem? (i := 149) rfl) rfl) (mg_6 (List.mem_of_getElem? (i := 150) rfl) rfl) (mg_6 (List.mem_of_getElem? (i := 151) rfl) rfl) rfl c_X6_copyFrom (sx_aload_n dX11_undo_40 rfl (sx_aload_n dX11_undo_41 rfl (sx_getI dX11_undo_42 fl_FootQuarrel_433 (fun _ _ _ => rfl) (sx_vcall dX11_undo_45 cf_X11_answer (mg_4 (List.mem_of_getElem? (i := 72) rfl) rfl) (mg_4 (List.mem_of_getElem? (i := 74) rfl) rfl) (mg_p (List.mem_of_getElem? (i := 17) rfl) rfl) rfl c_X11_answer (sx_iret dX11_undo_48 rfl))))))))))))))))))) (sx_aload_n dX11_undo_7 rfl (sx_bipush dX11_undo_8 rfl (sx_vcall dX11_undo_10 cf_X11_refuse (mg_3 (List.mem_of_getElem? (i := 120) rfl) rfl) (mg_3 (List.mem_of_getElem? (i := 122) rfl) rfl) (mg_p (List.mem_of_getElem? (i := 3) rfl) rfl) rfl c_X11_refuse (sx_iret dX11_undo_13 rfl))))))
def sp_X11_undo (G : GT) : Sp := fun as S I J z Q => match as with
  | [.ref a0] => B_X11_undo_0 G 0 0 Q [some (.ref a0)] [] S I J z 0 0
  | _ => False
theorem c_X11_undo {l : Launch} {G : GT} {D : Nat} : ∀ as S I J z Q, sp_X11_undo G as S I J z Q → fqCall l G M_X11_undo (D + 3) 0 0 as S I J z Q := by
  intro as S I J z Q h
  unfold sp_X11_undo at h
  split at h
  · exact fq_enter _ (by decide +kernel) (Nat.le_of_ble_eq_true rfl) rfl (b_X11_undo_0 _ _ _ _ _ _ _ _ h)
  · exact h.elim
