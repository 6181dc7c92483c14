-- a game: the best play of two
theorem spk_hl (t0 t1 e0 e1 ft r : Int32) : ∀ (n : Nat) (t : Bool) (v a0 a1 w0 w1 h0 h1 l0 l1 g0 g1 m0 m1 : Int32), (spk t0 t1 e0 e1 ft r n t v (a0, a1, h0, h1, w0, w1, l0, l1)).2.1 = (spk t0 t1 e0 e1 ft r n t v (a0, a1, g0, g1, w0, w1, m0, m1)).2.1 ∧ (spk t0 t1 e0 e1 ft r n t v (a0, a1, h0, h1, w0, w1, l0, l1)).2.2.1 = (spk t0 t1 e0 e1 ft r n t v (a0, a1, g0, g1, w0, w1, m0, m1)).2.2.1 ∧ (spk t0 t1 e0 e1 ft r n t v (a0, a1, h0, h1, w0, w1, l0, l1)).2.2.2.2.2.1 = (spk t0 t1 e0 e1 ft r n t v (a0, a1, g0, g1, w0, w1, m0, m1)).2.2.2.2.2.1 ∧ (spk t0 t1 e0 e1 ft r n t v (a0, a1, h0, h1, w0, w1, l0, l1)).2.2.2.2.2.2.1 = (spk t0 t1 e0 e1 ft r n t v (a0, a1, g0, g1, w0, w1, m0, m1)).2.2.2.2.2.2.1
  | 0, _, _, _, _, _, _, _, _, _, _, _, _, _, _ => ⟨rfl, rfl, rfl, rfl⟩
  | n + 1, true, v, a0, a1, w0, w1, h0, h1, l0, l1, g0, g1, m0, m1 => by
    unfold spk
    by_cases q1 : 10 ≤ v + e1
    · rw [if_pos q1, if_pos q1]
      by_cases q2 : t1 < a1 + v
      · rw [if_pos q2, if_pos q2]
        exact spk_hl t0 t1 e0 e1 ft r n false _ _ _ _ _ _ _ _ _ _ _ _ _
      · rw [if_neg q2, if_neg q2]
        exact ⟨rfl, rfl, rfl, rfl⟩
    · rw [if_neg q1, if_neg q1]
      exact ⟨rfl, rfl, rfl, rfl⟩
  | n + 1, false, v, a0, a1, w0, w1, h0, h1, l0, l1, g0, g1, m0, m1 => by
    unfold spk
    by_cases q1 : 10 ≤ v + e0
    · rw [if_pos q1, if_pos q1]
      by_cases q2 : t0 < a0 + v
      · rw [if_pos q2, if_pos q2]
        exact spk_hl t0 t1 e0 e1 ft r n true _ _ _ _ _ _ _ _ _ _ _ _ _
      · rw [if_neg q2, if_neg q2]
        exact ⟨rfl, rfl, rfl, rfl⟩
    · rw [if_neg q1, if_neg q1]
      exact ⟨rfl, rfl, rfl, rfl⟩
/-- the say of the one whose turn it is -/
def bpY (I : IH) (s : Nat) (e : Bool) (a0 a1 w0 w1 : Int32) : S8 := (spkI I s 6 e (ldn (I (s + (if e then 14 else 15)) 4) (I (s + 12) 4)) (a0, a1, 0, 0, w0, w1, 0, 0)).2
/-- how wide the first one's house is at the end, f turns left of four -/
def bpW (I : IH) (s tn : Nat) : Nat → Nat → Int32 → Int32 → Int32 → Int32 → Int32
  | 0, _, _, _, w0, _ => w0
  | f + 1, t, a0, a1, w0, w1 => if tn ≤ t then w0 else if t % 2 = 0 then (if bpW I s tn f (t + 1) a0 a1 w0 w1 < bpW I s tn f (t + 1) (bpY I s true a0 a1 w0 w1).1 (bpY I s true a0 a1 w0 w1).2.1 (bpY I s true a0 a1 w0 w1).2.2.2.2.1 (bpY I s true a0 a1 w0 w1).2.2.2.2.2.1 then bpW I s tn f (t + 1) (bpY I s true a0 a1 w0 w1).1 (bpY I s true a0 a1 w0 w1).2.1 (bpY I s true a0 a1 w0 w1).2.2.2.2.1 (bpY I s true a0 a1 w0 w1).2.2.2.2.2.1 else bpW I s tn f (t + 1) a0 a1 w0 w1) else (if bpW I s tn f (t + 1) (bpY I s false a0 a1 w0 w1).1 (bpY I s false a0 a1 w0 w1).2.1 (bpY I s false a0 a1 w0 w1).2.2.2.2.1 (bpY I s false a0 a1 w0 w1).2.2.2.2.2.1 < bpW I s tn f (t + 1) a0 a1 w0 w1 then bpW I s tn f (t + 1) (bpY I s false a0 a1 w0 w1).1 (bpY I s false a0 a1 w0 w1).2.1 (bpY I s false a0 a1 w0 w1).2.2.2.2.1 (bpY I s false a0 a1 w0 w1).2.2.2.2.2.1 else bpW I s tn f (t + 1) a0 a1 w0 w1)
def spBP (f : Nat) : Sp := fun as S I J z Q => ∃ (s t tn : Nat) (I0 : IH) (a0 a1 h0 h1 w0 w1 l0 l1 : Int32), as = [.ref (s + 12), .int (nI t), .int (nI tn)] ∧ stS S s ∧ t + f = 4 ∧ tn ≤ 4 ∧ I = wbS I0 s a0 a1 h0 h1 w0 w1 l0 l1 ∧ ∀ g0 g1 m0 m1, Q (some (.int (bpW I0 s tn f t a0 a1 w0 w1))) S (wbS I0 s a0 a1 g0 g1 w0 w1 m0 m1) J z
theorem wbS_wb (I : IH) (s : Nat) (a0 a1 h0 h1 w0 w1 l0 l1 b0 b1 g0 g1 v0 v1 m0 m1 : Int32) : wbS (wbS I s a0 a1 h0 h1 w0 w1 l0 l1) s b0 b1 g0 g1 v0 v1 m0 m1 = wbS I s b0 b1 g0 g1 v0 v1 m0 m1 := by
  funext q k
  simp only [wbS]
  by_cases c0 : q = s + 14 ∧ k = 6
  · simp only [if_pos c0]
  simp only [if_neg c0]
  by_cases c1 : q = s + 15 ∧ k = 6
  · simp only [if_pos c1]
  simp only [if_neg c1]
  by_cases c2 : q = s + 14 ∧ k = 7
  · simp only [if_pos c2]
  simp only [if_neg c2]
  by_cases c3 : q = s + 15 ∧ k = 7
  · simp only [if_pos c3]
  simp only [if_neg c3]
  by_cases c4 : q = s + 16 ∧ k = 0
  · simp only [if_pos c4]
  simp only [if_neg c4]
  by_cases c5 : q = s + 16 ∧ k = 1
  · simp only [if_pos c5]
  simp only [if_neg c5]
  by_cases c6 : q = s + 17 ∧ k = 0
  · simp only [if_pos c6]
  simp only [if_neg c6]
  by_cases c7 : q = s + 17 ∧ k = 1
  · simp only [if_pos c7]
  simp only [if_neg c7]
theorem bp_true (I : IH) (s : Nat) (a0 a1 g0 g1 w0 w1 m0 m1 : Int32) : ∃ x0 x1 y0 y1, wbT (wbS I s a0 a1 g0 g1 w0 w1 m0 m1) s (spkI (wbS I s a0 a1 g0 g1 w0 w1 m0 m1) s 6 true (ldn ((wbS I s a0 a1 g0 g1 w0 w1 m0 m1) (s + 14) 4) ((wbS I s a0 a1 g0 g1 w0 w1 m0 m1) (s + 12) 4)) (rdS (wbS I s a0 a1 g0 g1 w0 w1 m0 m1) s)).2 = wbS I s (bpY I s true a0 a1 w0 w1).1 (bpY I s true a0 a1 w0 w1).2.1 x0 x1 (bpY I s true a0 a1 w0 w1).2.2.2.2.1 (bpY I s true a0 a1 w0 w1).2.2.2.2.2.1 y0 y1 := by
  have hl := spk_hl (I (s + 14) 2) (I (s + 15) 2) (I (s + 14) 3) (I (s + 15) 3) (I (s + 12) 3) (I (s + 12) 4) 6 true (ldn (I (s + 14) 4) (I (s + 12) 4)) a0 a1 w0 w1 g0 g1 m0 m1 0 0 0 0
  have k1 : _ = (bpY I s true a0 a1 w0 w1).1 := hl.1
  have k2 : _ = (bpY I s true a0 a1 w0 w1).2.1 := hl.2.1
  have k3 : _ = (bpY I s true a0 a1 w0 w1).2.2.2.2.1 := hl.2.2.1
  have k4 : _ = (bpY I s true a0 a1 w0 w1).2.2.2.2.2.1 := hl.2.2.2
  rw [← k1, ← k2, ← k3, ← k4]
  have e1 : spkI (wbS I s a0 a1 g0 g1 w0 w1 m0 m1) s = spkI I s := by
    unfold spkI
    rw [wbS_o14_2, wbS_o15_2, wbS_o14_3, wbS_o15_3, wbS_o12_3, wbS_o12_4]
  have e2 : rdS (wbS I s a0 a1 g0 g1 w0 w1 m0 m1) s = (a0, a1, g0, g1, w0, w1, m0, m1) := by
    unfold rdS
    rw [wbS_a0, wbS_a1, wbS_h0, wbS_h1, wbS_w0, wbS_w1, wbS_l0, wbS_l1]
  rw [e1, e2, wbS_o14_4, wbS_o12_4]
  unfold wbT
  rw [wbS_wb]
  exact ⟨_, _, _, _, rfl⟩
theorem bp_false (I : IH) (s : Nat) (a0 a1 g0 g1 w0 w1 m0 m1 : Int32) : ∃ x0 x1 y0 y1, wbT (wbS I s a0 a1 g0 g1 w0 w1 m0 m1) s (spkI (wbS I s a0 a1 g0 g1 w0 w1 m0 m1) s 6 false (ldn ((wbS I s a0 a1 g0 g1 w0 w1 m0 m1) (s + 15) 4) ((wbS I s a0 a1 g0 g1 w0 w1 m0 m1) (s + 12) 4)) (rdS (wbS I s a0 a1 g0 g1 w0 w1 m0 m1) s)).2 = wbS I s (bpY I s false a0 a1 w0 w1).1 (bpY I s false a0 a1 w0 w1).2.1 x0 x1 (bpY I s false a0 a1 w0 w1).2.2.2.2.1 (bpY I s false a0 a1 w0 w1).2.2.2.2.2.1 y0 y1 := by
  have hl := spk_hl (I (s + 14) 2) (I (s + 15) 2) (I (s + 14) 3) (I (s + 15) 3) (I (s + 12) 3) (I (s + 12) 4) 6 false (ldn (I (s + 15) 4) (I (s + 12) 4)) a0 a1 w0 w1 g0 g1 m0 m1 0 0 0 0
  have k1 : _ = (bpY I s false a0 a1 w0 w1).1 := hl.1
  have k2 : _ = (bpY I s false a0 a1 w0 w1).2.1 := hl.2.1
  have k3 : _ = (bpY I s false a0 a1 w0 w1).2.2.2.2.1 := hl.2.2.1
  have k4 : _ = (bpY I s false a0 a1 w0 w1).2.2.2.2.2.1 := hl.2.2.2
  rw [← k1, ← k2, ← k3, ← k4]
  have e1 : spkI (wbS I s a0 a1 g0 g1 w0 w1 m0 m1) s = spkI I s := by
    unfold spkI
    rw [wbS_o14_2, wbS_o15_2, wbS_o14_3, wbS_o15_3, wbS_o12_3, wbS_o12_4]
  have e2 : rdS (wbS I s a0 a1 g0 g1 w0 w1 m0 m1) s = (a0, a1, g0, g1, w0, w1, m0, m1) := by
    unfold rdS
    rw [wbS_a0, wbS_a1, wbS_h0, wbS_h1, wbS_w0, wbS_w1, wbS_l0, wbS_l1]
  rw [e1, e2, wbS_o15_4, wbS_o12_4]
  unfold wbT
  rw [wbS_wb]
  exact ⟨_, _, _, _, rfl⟩
theorem nz0 : (nI 0 = 0) = True := eq_true rfl
theorem nz1 : (nI 1 = 0) = False := eq_false (by decide)
theorem t4m : ∀ t, t < 4 → nI t - nI t / 2 * 2 = nI (t % 2) := by decide +kernel
theorem h4 : (4 : Int32) = nI 4 := rfl
theorem dX11_bestPlay_0 : decode cX11_bestPlay 0 = .ok (.iload_n 1, 1) := by decide +kernel
theorem dX11_bestPlay_1 : decode cX11_bestPlay 1 = .ok (.iload_n 2, 1) := by decide +kernel
theorem dX11_bestPlay_2 : decode cX11_bestPlay 2 = .ok (.if_icmp .ge 8, 3) := by decide +kernel
theorem dX11_bestPlay_5 : decode cX11_bestPlay 5 = .ok (.iload_n 1, 1) := by decide +kernel
theorem dX11_bestPlay_6 : decode cX11_bestPlay 6 = .ok (.iconst 4, 1) := by decide +kernel
theorem dX11_bestPlay_7 : decode cX11_bestPlay 7 = .ok (.if_icmp .lt 10, 3) := by decide +kernel
theorem dX11_bestPlay_10 : decode cX11_bestPlay 10 = .ok (.aload_n 0, 1) := by decide +kernel
theorem dX11_bestPlay_11 : decode cX11_bestPlay 11 = .ok (.getfield 370, 3) := by decide +kernel
theorem dX11_bestPlay_14 : decode cX11_bestPlay 14 = .ok (.iconst 0, 1) := by decide +kernel
theorem dX11_bestPlay_15 : decode cX11_bestPlay 15 = .ok (.iaload, 1) := by decide +kernel
theorem dX11_bestPlay_16 : decode cX11_bestPlay 16 = .ok (.ireturn, 1) := by decide +kernel
theorem dX11_bestPlay_17 : decode cX11_bestPlay 17 = .ok (.iload_n 1, 1) := by decide +kernel
theorem dX11_bestPlay_18 : decode cX11_bestPlay 18 = .ok (.iconst 2, 1) := by decide +kernel
theorem dX11_bestPlay_19 : decode cX11_bestPlay 19 = .ok (.irem, 1) := by decide +kernel
theorem dX11_bestPlay_20 : decode cX11_bestPlay 20 = .ok (.istore_n 3, 1) := by decide +kernel
theorem dX11_bestPlay_21 : decode cX11_bestPlay 21 = .ok (.aload_n 0, 1) := by decide +kernel
theorem dX11_bestPlay_22 : decode cX11_bestPlay 22 = .ok (.iload_n 1, 1) := by decide +kernel
theorem dX11_bestPlay_23 : decode cX11_bestPlay 23 = .ok (.iconst 1, 1) := by decide +kernel
theorem dX11_bestPlay_24 : decode cX11_bestPlay 24 = .ok (.iadd, 1) := by decide +kernel
theorem dX11_bestPlay_25 : decode cX11_bestPlay 25 = .ok (.iload_n 2, 1) := by decide +kernel
theorem dX11_bestPlay_26 : decode cX11_bestPlay 26 = .ok (.invokestatic 372, 3) := by decide +kernel
theorem dX11_bestPlay_29 : decode cX11_bestPlay 29 = .ok (.istore 4, 2) := by decide +kernel
theorem dX11_bestPlay_31 : decode cX11_bestPlay 31 = .ok (.aload_n 0, 1) := by decide +kernel
theorem dX11_bestPlay_32 : decode cX11_bestPlay 32 = .ok (.getfield 445, 3) := by decide +kernel
theorem dX11_bestPlay_35 : decode cX11_bestPlay 35 = .ok (.iconst 0, 1) := by decide +kernel
theorem dX11_bestPlay_36 : decode cX11_bestPlay 36 = .ok (.aaload, 1) := by decide +kernel
theorem dX11_bestPlay_37 : decode cX11_bestPlay 37 = .ok (.getfield 257, 3) := by decide +kernel
theorem dX11_bestPlay_40 : decode cX11_bestPlay 40 = .ok (.istore 5, 2) := by decide +kernel
theorem dX11_bestPlay_42 : decode cX11_bestPlay 42 = .ok (.aload_n 0, 1) := by decide +kernel
theorem dX11_bestPlay_43 : decode cX11_bestPlay 43 = .ok (.getfield 445, 3) := by decide +kernel
theorem dX11_bestPlay_46 : decode cX11_bestPlay 46 = .ok (.iconst 1, 1) := by decide +kernel
theorem dX11_bestPlay_47 : decode cX11_bestPlay 47 = .ok (.aaload, 1) := by decide +kernel
theorem dX11_bestPlay_48 : decode cX11_bestPlay 48 = .ok (.getfield 257, 3) := by decide +kernel
theorem dX11_bestPlay_51 : decode cX11_bestPlay 51 = .ok (.istore 6, 2) := by decide +kernel
theorem dX11_bestPlay_53 : decode cX11_bestPlay 53 = .ok (.aload_n 0, 1) := by decide +kernel
theorem dX11_bestPlay_54 : decode cX11_bestPlay 54 = .ok (.getfield 370, 3) := by decide +kernel
theorem dX11_bestPlay_57 : decode cX11_bestPlay 57 = .ok (.iconst 0, 1) := by decide +kernel
theorem dX11_bestPlay_58 : decode cX11_bestPlay 58 = .ok (.iaload, 1) := by decide +kernel
theorem dX11_bestPlay_59 : decode cX11_bestPlay 59 = .ok (.istore 7, 2) := by decide +kernel
theorem dX11_bestPlay_61 : decode cX11_bestPlay 61 = .ok (.aload_n 0, 1) := by decide +kernel
theorem dX11_bestPlay_62 : decode cX11_bestPlay 62 = .ok (.getfield 370, 3) := by decide +kernel
theorem dX11_bestPlay_65 : decode cX11_bestPlay 65 = .ok (.iconst 1, 1) := by decide +kernel
theorem dX11_bestPlay_66 : decode cX11_bestPlay 66 = .ok (.iaload, 1) := by decide +kernel
theorem dX11_bestPlay_67 : decode cX11_bestPlay 67 = .ok (.istore 8, 2) := by decide +kernel
theorem dX11_bestPlay_69 : decode cX11_bestPlay 69 = .ok (.aload_n 0, 1) := by decide +kernel
theorem dX11_bestPlay_70 : decode cX11_bestPlay 70 = .ok (.iload_n 3, 1) := by decide +kernel
theorem dX11_bestPlay_71 : decode cX11_bestPlay 71 = .ok (.invokevirtual 340, 3) := by decide +kernel
theorem dX11_bestPlay_74 : decode cX11_bestPlay 74 = .ok (.pop, 1) := by decide +kernel
theorem dX11_bestPlay_75 : decode cX11_bestPlay 75 = .ok (.aload_n 0, 1) := by decide +kernel
theorem dX11_bestPlay_76 : decode cX11_bestPlay 76 = .ok (.iload_n 1, 1) := by decide +kernel
theorem dX11_bestPlay_77 : decode cX11_bestPlay 77 = .ok (.iconst 1, 1) := by decide +kernel
theorem dX11_bestPlay_78 : decode cX11_bestPlay 78 = .ok (.iadd, 1) := by decide +kernel
theorem dX11_bestPlay_79 : decode cX11_bestPlay 79 = .ok (.iload_n 2, 1) := by decide +kernel
theorem dX11_bestPlay_80 : decode cX11_bestPlay 80 = .ok (.invokestatic 372, 3) := by decide +kernel
theorem dX11_bestPlay_83 : decode cX11_bestPlay 83 = .ok (.istore 9, 2) := by decide +kernel
theorem dX11_bestPlay_85 : decode cX11_bestPlay 85 = .ok (.aload_n 0, 1) := by decide +kernel
theorem dX11_bestPlay_86 : decode cX11_bestPlay 86 = .ok (.getfield 445, 3) := by decide +kernel
theorem dX11_bestPlay_89 : decode cX11_bestPlay 89 = .ok (.iconst 0, 1) := by decide +kernel
theorem dX11_bestPlay_90 : decode cX11_bestPlay 90 = .ok (.aaload, 1) := by decide +kernel
theorem dX11_bestPlay_91 : decode cX11_bestPlay 91 = .ok (.iload 5, 2) := by decide +kernel
theorem dX11_bestPlay_93 : decode cX11_bestPlay 93 = .ok (.putfield 257, 3) := by decide +kernel
theorem dX11_bestPlay_96 : decode cX11_bestPlay 96 = .ok (.aload_n 0, 1) := by decide +kernel
theorem dX11_bestPlay_97 : decode cX11_bestPlay 97 = .ok (.getfield 445, 3) := by decide +kernel
theorem dX11_bestPlay_100 : decode cX11_bestPlay 100 = .ok (.iconst 1, 1) := by decide +kernel
theorem dX11_bestPlay_101 : decode cX11_bestPlay 101 = .ok (.aaload, 1) := by decide +kernel
theorem dX11_bestPlay_102 : decode cX11_bestPlay 102 = .ok (.iload 6, 2) := by decide +kernel
theorem dX11_bestPlay_104 : decode cX11_bestPlay 104 = .ok (.putfield 257, 3) := by decide +kernel
theorem dX11_bestPlay_107 : decode cX11_bestPlay 107 = .ok (.aload_n 0, 1) := by decide +kernel
theorem dX11_bestPlay_108 : decode cX11_bestPlay 108 = .ok (.getfield 370, 3) := by decide +kernel
theorem dX11_bestPlay_111 : decode cX11_bestPlay 111 = .ok (.iconst 0, 1) := by decide +kernel
theorem dX11_bestPlay_112 : decode cX11_bestPlay 112 = .ok (.iload 7, 2) := by decide +kernel
theorem dX11_bestPlay_114 : decode cX11_bestPlay 114 = .ok (.iastore, 1) := by decide +kernel
theorem dX11_bestPlay_115 : decode cX11_bestPlay 115 = .ok (.aload_n 0, 1) := by decide +kernel
theorem dX11_bestPlay_116 : decode cX11_bestPlay 116 = .ok (.getfield 370, 3) := by decide +kernel
theorem dX11_bestPlay_119 : decode cX11_bestPlay 119 = .ok (.iconst 1, 1) := by decide +kernel
theorem dX11_bestPlay_120 : decode cX11_bestPlay 120 = .ok (.iload 8, 2) := by decide +kernel
theorem dX11_bestPlay_122 : decode cX11_bestPlay 122 = .ok (.iastore, 1) := by decide +kernel
theorem dX11_bestPlay_123 : decode cX11_bestPlay 123 = .ok (.iload_n 3, 1) := by decide +kernel
theorem dX11_bestPlay_124 : decode cX11_bestPlay 124 = .ok (.ifCond .ne 13, 3) := by decide +kernel
theorem dX11_bestPlay_127 : decode cX11_bestPlay 127 = .ok (.iload 4, 2) := by decide +kernel
theorem dX11_bestPlay_129 : decode cX11_bestPlay 129 = .ok (.iload 9, 2) := by decide +kernel
theorem dX11_bestPlay_131 : decode cX11_bestPlay 131 = .ok (.invokestatic 448, 3) := by decide +kernel
theorem dX11_bestPlay_134 : decode cX11_bestPlay 134 = .ok (.goto 10, 3) := by decide +kernel
theorem dX11_bestPlay_137 : decode cX11_bestPlay 137 = .ok (.iload 4, 2) := by decide +kernel
theorem dX11_bestPlay_139 : decode cX11_bestPlay 139 = .ok (.iload 9, 2) := by decide +kernel
theorem dX11_bestPlay_141 : decode cX11_bestPlay 141 = .ok (.invokestatic 451, 3) := by decide +kernel
theorem dX11_bestPlay_144 : decode cX11_bestPlay 144 = .ok (.ireturn, 1) := by decide +kernel
abbrev M_X11_bestPlay : MT := (yX11_bestPlay, cX11_bestPlay, 10, (some .int))
theorem cf_X11_bestPlay : fq_cf M_X11_bestPlay 3 := ⟨(mg_1 (List.mem_of_getElem? (i := 1) rfl) rfl), (mg_6 (List.mem_of_getElem? (i := 10) rfl) rfl), ⟨by decide, by decide, by decide +kernel⟩, by decide⟩
def B_X11_bestPlay_144 (G : GT) (mc ms : Nat) (Q : Post) (R : Sp) : Cn := ix_iret mc ms Q
theorem b_X11_bestPlay_144 {l : Launch} {G : GT} {D mc ms : Nat} {Q : Post} {R : Sp} (hR : ∀ as S I J z Q, R as S I J z Q → fqCall l G M_X11_bestPlay (D + 2) 0 0 as S I J z Q) : Imp l G M_X11_bestPlay (D + 3) mc ms Q (B_X11_bestPlay_144 G mc ms Q R) 144 := sx_iret dX11_bestPlay_144 rfl
def B_X11_bestPlay_83 (G : GT) (mc ms : Nat) (Q : Post) (R : Sp) : Cn := ix_istore 9 (ix_aload 0 (ix_getR 5 0 (ix_pushI 0 (ix_aald 17 (ix_iload 5 (ix_putI 2 6 (ix_aload 0 (ix_getR 5 0 (ix_pushI 1 (ix_aald 17 (ix_iload 6 (ix_putI 2 6 (ix_aload 0 (ix_getR 5 1 (ix_pushI 0 (ix_iload 7 (ix_iast (ix_aload 0 (ix_getR 5 1 (ix_pushI 1 (ix_iload 8 (ix_iast (ix_iload 3 (ix_if_ne (ix_iload 4 (ix_iload 9 (ix_min mc ms ((B_X11_bestPlay_144 G mc ms Q R))))) (ix_iload 4 (ix_iload 9 (ix_max mc ms ((B_X11_bestPlay_144 G mc ms Q R)))))))))))))))))))))))))))))
theorem b_X11_bestPlay_83 {l : Launch} {G : GT} {D mc ms : Nat} {Q : Post} {R : Sp} (hR : ∀ as S I J z Q, R as S I J z Q → fqCall l G M_X11_bestPlay (D + 2) 0 0 as S I J z Q) : Imp l G M_X11_bestPlay (D + 3) mc ms Q (B_X11_bestPlay_83 G mc ms Q R) 83 := sx_istore dX11_bestPlay_83 (by decide) (sx_aload_n dX11_bestPlay_85 rfl (sx_getR dX11_bestPlay_86 fl_FootQuarrel_445 (fun _ _ _ => rfl) (sx_iconst dX11_bestPlay_89 rfl (sx_aald dX11_bestPlay_90 (by decide) (by decide) rfl (sx_iload dX11_bestPlay_91 (sx_putI dX11_bestPlay_93 fl_FootQuarrel_257 (by decide) (fun _ _ _ => rfl) (fun _ => ⟨rfl, rfl⟩) (sx_aload_n dX11_bestPlay_96 rfl (sx_getR dX11_bestPlay_97 fl_FootQuarrel_445 (fun _ _ _ => rfl) (sx_iconst dX11_bestPlay_100 rfl (sx_aald dX11_bestPlay_101 (by decide) (by decide) rfl (sx_iload dX11_bestPlay_102 (sx_putI dX11_bestPlay_104 fl_FootQuarrel_257 (by decide) (fun _ _ _ => rfl) (fun _ => ⟨rfl, rfl⟩) (sx_aload_n dX11_bestPlay_107 rfl (sx_getR dX11_bestPlay_108 fl_FootQuarrel_370 (fun _ _ _ => rfl) (sx_iconst dX11_bestPlay_111 rfl (sx_iload dX11_bestPlay_112 (sx_iast dX11_bestPlay_114 (sx_aload_n dX11_bestPlay_115 rfl (sx_getR dX11_bestPlay_116 fl_FootQuarrel_370 (fun _ _ _ => rfl) (sx_iconst dX11_bestPlay_119 rfl (sx_iload dX11_bestPlay_120 (sx_iast dX11_bestPlay_122 (sx_iload_n dX11_bestPlay_123 rfl (sx_if_ne 137 dX11_bestPlay_124 (by decide) (sx_iload dX11_bestPlay_137 (sx_iload dX11_bestPlay_139 (sx_min dX11_bestPlay_141 (mg_6 (List.mem_of_getElem? (i := 12) rfl) rfl) (mg_3 (List.mem_of_getElem? (i := 179) rfl) rfl) (mg_1 (List.mem_of_getElem? (i := 18) rfl) rfl) (mg_3 (List.mem_of_getElem? (i := 180) rfl) rfl) (b_X11_bestPlay_144 hR)))) (sx_iload dX11_bestPlay_127 (sx_iload dX11_bestPlay_129 (sx_max dX11_bestPlay_131 (mg_6 (List.mem_of_getElem? (i := 11) rfl) rfl) (mg_4 (List.mem_of_getElem? (i := 199) rfl) rfl) (mg_1 (List.mem_of_getElem? (i := 18) rfl) rfl) (mg_4 (List.mem_of_getElem? (i := 200) rfl) rfl) (sx_goto 144 dX11_bestPlay_134 (by decide) (b_X11_bestPlay_144 hR)))))))))))))))))))))))))))))
def B_X11_bestPlay_29 (G : GT) (mc ms : Nat) (Q : Post) (R : Sp) : Cn := ix_istore 4 (ix_aload 0 (ix_getR 5 0 (ix_pushI 0 (ix_aald 17 (ix_getI 2 6 (ix_istore 5 (ix_aload 0 (ix_getR 5 0 (ix_pushI 1 (ix_aald 17 (ix_getI 2 6 (ix_istore 6 (ix_aload 0 (ix_getR 5 1 (ix_pushI 0 (ix_iald (ix_istore 7 (ix_aload 0 (ix_getR 5 1 (ix_pushI 1 (ix_iald (ix_istore 8 (ix_aload 0 (ix_iload 3 (ix_vcall 5 2 0 0 mc ms (sp_X5_speak G) (ix_popI (ix_aload 0 (ix_iload 1 (ix_pushI 1 (ix_iadd (ix_iload 2 (ix_call 3 0 0 mc ms (R) ((B_X11_bestPlay_83 G mc ms Q R))))))))))))))))))))))))))))))))))
theorem b_X11_bestPlay_29 {l : Launch} {G : GT} {D mc ms : Nat} {Q : Post} {R : Sp} (hR : ∀ as S I J z Q, R as S I J z Q → fqCall l G M_X11_bestPlay (D + 2) 0 0 as S I J z Q) : Imp l G M_X11_bestPlay (D + 3) mc ms Q (B_X11_bestPlay_29 G mc ms Q R) 29 := sx_istore dX11_bestPlay_29 (by decide) (sx_aload_n dX11_bestPlay_31 rfl (sx_getR dX11_bestPlay_32 fl_FootQuarrel_445 (fun _ _ _ => rfl) (sx_iconst dX11_bestPlay_35 rfl (sx_aald dX11_bestPlay_36 (by decide) (by decide) rfl (sx_getI dX11_bestPlay_37 fl_FootQuarrel_257 (fun _ _ _ => rfl) (sx_istore dX11_bestPlay_40 (by decide) (sx_aload_n dX11_bestPlay_42 rfl (sx_getR dX11_bestPlay_43 fl_FootQuarrel_445 (fun _ _ _ => rfl) (sx_iconst dX11_bestPlay_46 rfl (sx_aald dX11_bestPlay_47 (by decide) (by decide) rfl (sx_getI dX11_bestPlay_48 fl_FootQuarrel_257 (fun _ _ _ => rfl) (sx_istore dX11_bestPlay_51 (by decide) (sx_aload_n dX11_bestPlay_53 rfl (sx_getR dX11_bestPlay_54 fl_FootQuarrel_370 (fun _ _ _ => rfl) (sx_iconst dX11_bestPlay_57 rfl (sx_iald dX11_bestPlay_58 (sx_istore dX11_bestPlay_59 (by decide) (sx_aload_n dX11_bestPlay_61 rfl (sx_getR dX11_bestPlay_62 fl_FootQuarrel_370 (fun _ _ _ => rfl) (sx_iconst dX11_bestPlay_65 rfl (sx_iald dX11_bestPlay_66 (sx_istore dX11_bestPlay_67 (by decide) (sx_aload_n dX11_bestPlay_69 rfl (sx_iload_n dX11_bestPlay_70 rfl (sx_vcall dX11_bestPlay_71 cf_X5_speak (mg_5 (List.mem_of_getElem? (i := 160) rfl) rfl) (mg_5 (List.mem_of_getElem? (i := 32) rfl) rfl) (mg_5 (List.mem_of_getElem? (i := 33) rfl) rfl) rfl c_X5_speak (sx_popI dX11_bestPlay_74 (sx_aload_n dX11_bestPlay_75 rfl (sx_iload_n dX11_bestPlay_76 rfl (sx_iconst dX11_bestPlay_77 rfl (sx_iadd dX11_bestPlay_78 (sx_iload_n dX11_bestPlay_79 rfl (sx_scall dX11_bestPlay_80 cf_X11_bestPlay (mg_6 (List.mem_of_getElem? (i := 8) rfl) rfl) (mg_6 (List.mem_of_getElem? (i := 9) rfl) rfl) hR (b_X11_bestPlay_83 hR)))))))))))))))))))))))))))))))))
def B_X11_bestPlay_10 (G : GT) (mc ms : Nat) (Q : Post) (R : Sp) : Cn := ix_aload 0 (ix_getR 5 1 (ix_pushI 0 (ix_iald (ix_iret mc ms Q))))
theorem b_X11_bestPlay_10 {l : Launch} {G : GT} {D mc ms : Nat} {Q : Post} {R : Sp} (hR : ∀ as S I J z Q, R as S I J z Q → fqCall l G M_X11_bestPlay (D + 2) 0 0 as S I J z Q) : Imp l G M_X11_bestPlay (D + 3) mc ms Q (B_X11_bestPlay_10 G mc ms Q R) 10 := sx_aload_n dX11_bestPlay_10 rfl (sx_getR dX11_bestPlay_11 fl_FootQuarrel_370 (fun _ _ _ => rfl) (sx_iconst dX11_bestPlay_14 rfl (sx_iald dX11_bestPlay_15 (sx_iret dX11_bestPlay_16 rfl))))
def B_X11_bestPlay_0 (G : GT) (mc ms : Nat) (Q : Post) (R : Sp) : Cn := ix_iload 1 (ix_iload 2 (ix_icmp_ge ((B_X11_bestPlay_10 G mc ms Q R)) (ix_iload 1 (ix_pushI 4 (ix_icmp_lt (ix_iload 1 (ix_pushI 2 (ix_irem (ix_istore 3 (ix_aload 0 (ix_iload 1 (ix_pushI 1 (ix_iadd (ix_iload 2 (ix_call 3 0 0 mc ms (R) ((B_X11_bestPlay_29 G mc ms Q R)))))))))))) ((B_X11_bestPlay_10 G mc ms Q R)))))))
theorem b_X11_bestPlay_0 {l : Launch} {G : GT} {D mc ms : Nat} {Q : Post} {R : Sp} (hR : ∀ as S I J z Q, R as S I J z Q → fqCall l G M_X11_bestPlay (D + 2) 0 0 as S I J z Q) : Imp l G M_X11_bestPlay (D + 3) mc ms Q (B_X11_bestPlay_0 G mc ms Q R) 0 := sx_iload_n dX11_bestPlay_0 rfl (sx_iload_n dX11_bestPlay_1 rfl (sx_icmp_ge 10 dX11_bestPlay_2 (by decide) (b_X11_bestPlay_10 hR) (sx_iload_n dX11_bestPlay_5 rfl (sx_iconst dX11_bestPlay_6 rfl (sx_icmp_lt 17 dX11_bestPlay_7 (by decide) (sx_iload_n dX11_bestPlay_17 rfl (sx_iconst dX11_bestPlay_18 rfl (sx_irem dX11_bestPlay_19 (sx_istore_n dX11_bestPlay_20 rfl (by decide) (sx_aload_n dX11_bestPlay_21 rfl (sx_iload_n dX11_bestPlay_22 rfl (sx_iconst dX11_bestPlay_23 rfl (sx_iadd dX11_bestPlay_24 (sx_iload_n dX11_bestPlay_25 rfl (sx_scall dX11_bestPlay_26 cf_X11_bestPlay (mg_6 (List.mem_of_getElem? (i := 8) rfl) rfl) (mg_6 (List.mem_of_getElem? (i := 9) rfl) rfl) hR (b_X11_bestPlay_29 hR))))))))))) (b_X11_bestPlay_10 hR))))))
set_option maxHeartbeats 4000000 in
set_option maxRecDepth 20000 in
theorem rc_X11_bestPlay {l : Launch} {G : GT} {D : Nat} : ∀ f as S I J z Q, spBP f as S I J z Q → fqCall l G M_X11_bestPlay (D + f + 3) 0 0 as S I J z Q := by
  intro f
  induction f with
  | zero =>
    rintro as S I J z Q ⟨s, t, tn, I0, a0, a1, h0, h1, w0, w1, l0, l1, rfl, hs, ht, htn, rfl, hQ⟩
    have hq := hQ h0 h1 l0 l1
    refine fq_enter [some (.ref (s + 12)), some (.int (nI t)), some (.int (nI tn)), none, none, none, none, none, none, none] (by decide +kernel) (Nat.le_of_ble_eq_true rfl) rfl (b_X11_bestPlay_0 (R := fun _ _ _ _ _ _ => False) (fun _ _ _ _ _ _ h => h.elim) _ _ _ _ _ _ _ _ ?_)
    simp (disch := omega) only [B_X11_bestPlay_0, B_X11_bestPlay_10, B_X11_bestPlay_144, sp_X5_speak, hs.k, hs.r0, hs.k1, hs.r1, hs.k2, hs.r2, hs.k3, hs.r3, hs.k4, hs.r4, hs.k12, hs.n1, hs.n2, hs.n3, hs.y0, hs.k5, hs.n5, hs.y1, hs.k6, hs.n6, hs.y2, hs.k7, hs.n7, hs.y3, hs.k8, hs.n8, hs.y4, hs.k9, hs.n9, hs.y5, hs.k10, hs.n10, hs.y6, hs.k11, hs.n11, hs.p0, hs.p1, hs.p2, hs.k13, hs.n13, hs.q0, hs.q1, hs.k14, hs.k15, hs.k16, hs.n16, hs.k17, hs.n17, hs.rH, hs.kH, hs.rP, hs.kP, hs.rQ, hs.kQ, wbS_a0, wbS_a1, wbS_h0, wbS_h1, wbS_w0, wbS_w1, wbS_l0, wbS_l1, wbS_o14_2, wbS_o14_3, wbS_o14_4, wbS_o15_2, wbS_o15_3, wbS_o15_4, wbS_o12_3, wbS_o12_4, wbS_ua0, wbS_ua1, wbS_uh0, wbS_uh1, wbS_uw0, wbS_uw1, wbS_ul0, wbS_ul1, h4, vin02, vin12, tn0, tn1, nI_1, nI_add, nI_clamp, nI_pin, nI_neg, nI_nonneg, nI_leE, nI_ltE, nI_eqE, Nat.not_le, Nat.not_lt, fq_10, fq_01, fq_rr, ix_aald, ix_aast, ix_abs, ix_alen, ix_aload, ix_aret, ix_astore, ix_bald, ix_bast, ix_call, ix_cpyI, ix_cpyJ, ix_dead, ix_dup2, ix_dup2L, ix_dupI, ix_dupR, ix_dupx1, ix_getI, ix_getJ, ix_getR, ix_gfm, ix_gtab, ix_i2b, ix_i2c, ix_i2l, ix_i2s, ix_iadd, ix_iald, ix_iand, ix_iast, ix_icall, ix_icmp_eq, ix_icmp_ge, ix_icmp_gt, ix_icmp_le, ix_icmp_lt, ix_icmp_ne, ix_idiv, ix_if_eq, ix_if_ge, ix_if_gt, ix_if_le, ix_if_lt, ix_if_ne, ix_iinc, ix_iload, ix_imul, ix_ineg, ix_ior, ix_irem, ix_iret, ix_ishl, ix_ishr, ix_istore, ix_isub, ix_iushr, ix_ixor, ix_l2i, ix_ladd, ix_lald, ix_land, ix_last, ix_lcmp, ix_ldcS, ix_ldiv, ix_lload, ix_lmul, ix_lor, ix_lrem, ix_lret, ix_lshl, ix_lstore, ix_lsub, ix_lsw, ix_max, ix_min, ix_new, ix_newa, ix_nret, ix_oinit, ix_pop2L, ix_popI, ix_pushI, ix_pushL, ix_putI, ix_putJ, ix_putR, ix_putZ, ix_sbald, ix_sgetC, ix_sgetV, ix_slen, ix_strc, ix_tald, ix_tsw, ix_vcall, ix_vret, ix_zret, stL, stL2, kilL, popN, fq_sw, fq_lsw, List.map_cons, List.map_nil, List.getElem?_cons_zero, List.getElem?_cons_succ, Option.toList_some, Option.toList_none, List.cons_append, List.nil_append, List.length_cons, List.length_nil, List.sum_cons, List.sum_nil, cat_i, cat_l, cat_r, true_and, and_true, Nat.zero_add, Nat.add_zero, Nat.le_refl, Nat.zero_le, Nat.reduceAdd, Nat.reduceLeDiff, exists_eq_left', Option.some.injEq, not_true_eq_false, not_false_eq_true, false_implies, true_implies, implies_true, and_self, or_true, true_or, or_false, false_or]
    exact ⟨fun _ => hq, fun _ => ⟨fun h => absurd h (by omega), fun _ => hq⟩⟩
  | succ f ih =>
    rintro as S I J z Q ⟨s, t, tn, I0, a0, a1, h0, h1, w0, w1, l0, l1, rfl, hs, ht, htn, rfl, hQ⟩
    refine fq_enter [some (.ref (s + 12)), some (.int (nI t)), some (.int (nI tn)), none, none, none, none, none, none, none] (by decide +kernel) (Nat.le_of_ble_eq_true rfl) rfl (b_X11_bestPlay_0 (R := spBP f) ih _ _ _ _ _ _ _ _ ?_)
    have e4 := t4m t (by omega)
    simp (disch := omega) only [B_X11_bestPlay_0, B_X11_bestPlay_10, B_X11_bestPlay_144, sp_X5_speak, hs.k, hs.r0, hs.k1, hs.r1, hs.k2, hs.r2, hs.k3, hs.r3, hs.k4, hs.r4, hs.k12, hs.n1, hs.n2, hs.n3, hs.y0, hs.k5, hs.n5, hs.y1, hs.k6, hs.n6, hs.y2, hs.k7, hs.n7, hs.y3, hs.k8, hs.n8, hs.y4, hs.k9, hs.n9, hs.y5, hs.k10, hs.n10, hs.y6, hs.k11, hs.n11, hs.p0, hs.p1, hs.p2, hs.k13, hs.n13, hs.q0, hs.q1, hs.k14, hs.k15, hs.k16, hs.n16, hs.k17, hs.n17, hs.rH, hs.kH, hs.rP, hs.kP, hs.rQ, hs.kQ, wbS_a0, wbS_a1, wbS_h0, wbS_h1, wbS_w0, wbS_w1, wbS_l0, wbS_l1, wbS_o14_2, wbS_o14_3, wbS_o14_4, wbS_o15_2, wbS_o15_3, wbS_o15_4, wbS_o12_3, wbS_o12_4, wbS_ua0, wbS_ua1, wbS_uh0, wbS_uh1, wbS_uw0, wbS_uw1, wbS_ul0, wbS_ul1, h4, vin02, vin12, tn0, tn1, e4, nI_1, nI_add, nI_clamp, nI_pin, nI_neg, nI_nonneg, nI_leE, nI_ltE, nI_eqE, Nat.not_le, Nat.not_lt, fq_10, fq_01, fq_rr, ix_aald, ix_aast, ix_abs, ix_alen, ix_aload, ix_aret, ix_astore, ix_bald, ix_bast, ix_call, ix_cpyI, ix_cpyJ, ix_dead, ix_dup2, ix_dup2L, ix_dupI, ix_dupR, ix_dupx1, ix_getI, ix_getJ, ix_getR, ix_gfm, ix_gtab, ix_i2b, ix_i2c, ix_i2l, ix_i2s, ix_iadd, ix_iald, ix_iand, ix_iast, ix_icall, ix_icmp_eq, ix_icmp_ge, ix_icmp_gt, ix_icmp_le, ix_icmp_lt, ix_icmp_ne, ix_idiv, ix_if_eq, ix_if_ge, ix_if_gt, ix_if_le, ix_if_lt, ix_if_ne, ix_iinc, ix_iload, ix_imul, ix_ineg, ix_ior, ix_irem, ix_iret, ix_ishl, ix_ishr, ix_istore, ix_isub, ix_iushr, ix_ixor, ix_l2i, ix_ladd, ix_lald, ix_land, ix_last, ix_lcmp, ix_ldcS, ix_ldiv, ix_lload, ix_lmul, ix_lor, ix_lrem, ix_lret, ix_lshl, ix_lstore, ix_lsub, ix_lsw, ix_max, ix_min, ix_new, ix_newa, ix_nret, ix_oinit, ix_pop2L, ix_popI, ix_pushI, ix_pushL, ix_putI, ix_putJ, ix_putR, ix_putZ, ix_sbald, ix_sgetC, ix_sgetV, ix_slen, ix_strc, ix_tald, ix_tsw, ix_vcall, ix_vret, ix_zret, stL, stL2, kilL, popN, fq_sw, fq_lsw, List.map_cons, List.map_nil, List.getElem?_cons_zero, List.getElem?_cons_succ, Option.toList_some, Option.toList_none, List.cons_append, List.nil_append, List.length_cons, List.length_nil, List.sum_cons, List.sum_nil, cat_i, cat_l, cat_r, true_and, and_true, Nat.zero_add, Nat.add_zero, Nat.le_refl, Nat.zero_le, Nat.reduceAdd, Nat.reduceLeDiff, exists_eq_left', Option.some.injEq, not_true_eq_false, not_false_eq_true, false_implies, true_implies, implies_true, and_self, or_true, true_or, or_false, false_or]
    unfold bpW at hQ
    refine ⟨fun h => ?_, fun h => ⟨fun h4 => ⟨by decide, s, t + 1, tn, I0, a0, a1, h0, h1, w0, w1, l0, l1, rfl, hs, by omega, htn, rfl, fun g0 g1 m0 m1 => ?_⟩, fun h4 => absurd h4 (by omega)⟩⟩
    · have hq := hQ h0 h1 l0 l1
      rw [if_pos h] at hq
      exact hq
    · rcases Nat.mod_two_eq_zero_or_one t with e | e
      · rw [e]
        simp (disch := omega) only [B_X11_bestPlay_0, B_X11_bestPlay_10, B_X11_bestPlay_144, sp_X5_speak, B_X11_bestPlay_29, hs.k, hs.r0, hs.k1, hs.r1, hs.k2, hs.r2, hs.k3, hs.r3, hs.k4, hs.r4, hs.k12, hs.n1, hs.n2, hs.n3, hs.y0, hs.k5, hs.n5, hs.y1, hs.k6, hs.n6, hs.y2, hs.k7, hs.n7, hs.y3, hs.k8, hs.n8, hs.y4, hs.k9, hs.n9, hs.y5, hs.k10, hs.n10, hs.y6, hs.k11, hs.n11, hs.p0, hs.p1, hs.p2, hs.k13, hs.n13, hs.q0, hs.q1, hs.k14, hs.k15, hs.k16, hs.n16, hs.k17, hs.n17, hs.rH, hs.kH, hs.rP, hs.kP, hs.rQ, hs.kQ, wbS_a0, wbS_a1, wbS_h0, wbS_h1, wbS_w0, wbS_w1, wbS_l0, wbS_l1, wbS_o14_2, wbS_o14_3, wbS_o14_4, wbS_o15_2, wbS_o15_3, wbS_o15_4, wbS_o12_3, wbS_o12_4, wbS_ua0, wbS_ua1, wbS_uh0, wbS_uh1, wbS_uw0, wbS_uw1, wbS_ul0, wbS_ul1, vin02, vin12, tn0, tn1, nI_1, nI_add, nI_clamp, nI_pin, nI_neg, nI_nonneg, nI_leE, nI_ltE, nI_eqE, Nat.not_le, Nat.not_lt, fq_10, fq_01, fq_rr, ix_aald, ix_aast, ix_abs, ix_alen, ix_aload, ix_aret, ix_astore, ix_bald, ix_bast, ix_call, ix_cpyI, ix_cpyJ, ix_dead, ix_dup2, ix_dup2L, ix_dupI, ix_dupR, ix_dupx1, ix_getI, ix_getJ, ix_getR, ix_gfm, ix_gtab, ix_i2b, ix_i2c, ix_i2l, ix_i2s, ix_iadd, ix_iald, ix_iand, ix_iast, ix_icall, ix_icmp_eq, ix_icmp_ge, ix_icmp_gt, ix_icmp_le, ix_icmp_lt, ix_icmp_ne, ix_idiv, ix_if_eq, ix_if_ge, ix_if_gt, ix_if_le, ix_if_lt, ix_if_ne, ix_iinc, ix_iload, ix_imul, ix_ineg, ix_ior, ix_irem, ix_iret, ix_ishl, ix_ishr, ix_istore, ix_isub, ix_iushr, ix_ixor, ix_l2i, ix_ladd, ix_lald, ix_land, ix_last, ix_lcmp, ix_ldcS, ix_ldiv, ix_lload, ix_lmul, ix_lor, ix_lrem, ix_lret, ix_lshl, ix_lstore, ix_lsub, ix_lsw, ix_max, ix_min, ix_new, ix_newa, ix_nret, ix_oinit, ix_pop2L, ix_popI, ix_pushI, ix_pushL, ix_putI, ix_putJ, ix_putR, ix_putZ, ix_sbald, ix_sgetC, ix_sgetV, ix_slen, ix_strc, ix_tald, ix_tsw, ix_vcall, ix_vret, ix_zret, stL, stL2, kilL, popN, fq_sw, fq_lsw, List.map_cons, List.map_nil, List.getElem?_cons_zero, List.getElem?_cons_succ, Option.toList_some, Option.toList_none, List.cons_append, List.nil_append, List.length_cons, List.length_nil, List.sum_cons, List.sum_nil, cat_i, cat_l, cat_r, true_and, and_true, Nat.zero_add, Nat.add_zero, Nat.le_refl, Nat.zero_le, Nat.reduceAdd, Nat.reduceLeDiff, exists_eq_left', Option.some.injEq, not_true_eq_false, not_false_eq_true, false_implies, true_implies, implies_true, and_self, or_true, true_or, or_false, false_or]
        obtain ⟨x0, x1, y0, y1, hx⟩ := bp_true I0 s a0 a1 g0 g1 w0 w1 m0 m1
        refine ⟨s, rfl, hs, Or.inl rfl, fun _ => ?_, fun q => absurd q (by decide)⟩
        refine ⟨s, t + 1, tn, I0, _, _, _, _, _, _, _, _, rfl, hs, by omega, htn, hx, fun p0 p1 r0 r1 => ?_⟩
        have hq := hQ p0 p1 r0 r1
        rw [if_neg (by omega), if_pos e] at hq
        simp (disch := omega) only [B_X11_bestPlay_0, B_X11_bestPlay_10, B_X11_bestPlay_144, sp_X5_speak, B_X11_bestPlay_83, hs.k, hs.r0, hs.k1, hs.r1, hs.k2, hs.r2, hs.k3, hs.r3, hs.k4, hs.r4, hs.k12, hs.n1, hs.n2, hs.n3, hs.y0, hs.k5, hs.n5, hs.y1, hs.k6, hs.n6, hs.y2, hs.k7, hs.n7, hs.y3, hs.k8, hs.n8, hs.y4, hs.k9, hs.n9, hs.y5, hs.k10, hs.n10, hs.y6, hs.k11, hs.n11, hs.p0, hs.p1, hs.p2, hs.k13, hs.n13, hs.q0, hs.q1, hs.k14, hs.k15, hs.k16, hs.n16, hs.k17, hs.n17, hs.rH, hs.kH, hs.rP, hs.kP, hs.rQ, hs.kQ, wbS_a0, wbS_a1, wbS_h0, wbS_h1, wbS_w0, wbS_w1, wbS_l0, wbS_l1, wbS_o14_2, wbS_o14_3, wbS_o14_4, wbS_o15_2, wbS_o15_3, wbS_o15_4, wbS_o12_3, wbS_o12_4, wbS_ua0, wbS_ua1, wbS_uh0, wbS_uh1, wbS_uw0, wbS_uw1, wbS_ul0, wbS_ul1, vin02, vin12, tn0, tn1, nz0, nz1, nI_1, nI_add, nI_clamp, nI_pin, nI_neg, nI_nonneg, nI_leE, nI_ltE, nI_eqE, Nat.not_le, Nat.not_lt, fq_10, fq_01, fq_rr, ix_aald, ix_aast, ix_abs, ix_alen, ix_aload, ix_aret, ix_astore, ix_bald, ix_bast, ix_call, ix_cpyI, ix_cpyJ, ix_dead, ix_dup2, ix_dup2L, ix_dupI, ix_dupR, ix_dupx1, ix_getI, ix_getJ, ix_getR, ix_gfm, ix_gtab, ix_i2b, ix_i2c, ix_i2l, ix_i2s, ix_iadd, ix_iald, ix_iand, ix_iast, ix_icall, ix_icmp_eq, ix_icmp_ge, ix_icmp_gt, ix_icmp_le, ix_icmp_lt, ix_icmp_ne, ix_idiv, ix_if_eq, ix_if_ge, ix_if_gt, ix_if_le, ix_if_lt, ix_if_ne, ix_iinc, ix_iload, ix_imul, ix_ineg, ix_ior, ix_irem, ix_iret, ix_ishl, ix_ishr, ix_istore, ix_isub, ix_iushr, ix_ixor, ix_l2i, ix_ladd, ix_lald, ix_land, ix_last, ix_lcmp, ix_ldcS, ix_ldiv, ix_lload, ix_lmul, ix_lor, ix_lrem, ix_lret, ix_lshl, ix_lstore, ix_lsub, ix_lsw, ix_max, ix_min, ix_new, ix_newa, ix_nret, ix_oinit, ix_pop2L, ix_popI, ix_pushI, ix_pushL, ix_putI, ix_putJ, ix_putR, ix_putZ, ix_sbald, ix_sgetC, ix_sgetV, ix_slen, ix_strc, ix_tald, ix_tsw, ix_vcall, ix_vret, ix_zret, stL, stL2, kilL, popN, fq_sw, fq_lsw, List.map_cons, List.map_nil, List.getElem?_cons_zero, List.getElem?_cons_succ, Option.toList_some, Option.toList_none, List.cons_append, List.nil_append, List.length_cons, List.length_nil, List.sum_cons, List.sum_nil, cat_i, cat_l, cat_r, true_and, and_true, Nat.zero_add, Nat.add_zero, Nat.le_refl, Nat.zero_le, Nat.reduceAdd, Nat.reduceLeDiff, exists_eq_left', Option.some.injEq, not_true_eq_false, not_false_eq_true, false_implies, true_implies, implies_true, and_self, or_true, true_or, or_false, false_or]
        exact hq
      · rw [e]
        simp (disch := omega) only [B_X11_bestPlay_0, B_X11_bestPlay_10, B_X11_bestPlay_144, sp_X5_speak, B_X11_bestPlay_29, hs.k, hs.r0, hs.k1, hs.r1, hs.k2, hs.r2, hs.k3, hs.r3, hs.k4, hs.r4, hs.k12, hs.n1, hs.n2, hs.n3, hs.y0, hs.k5, hs.n5, hs.y1, hs.k6, hs.n6, hs.y2, hs.k7, hs.n7, hs.y3, hs.k8, hs.n8, hs.y4, hs.k9, hs.n9, hs.y5, hs.k10, hs.n10, hs.y6, hs.k11, hs.n11, hs.p0, hs.p1, hs.p2, hs.k13, hs.n13, hs.q0, hs.q1, hs.k14, hs.k15, hs.k16, hs.n16, hs.k17, hs.n17, hs.rH, hs.kH, hs.rP, hs.kP, hs.rQ, hs.kQ, wbS_a0, wbS_a1, wbS_h0, wbS_h1, wbS_w0, wbS_w1, wbS_l0, wbS_l1, wbS_o14_2, wbS_o14_3, wbS_o14_4, wbS_o15_2, wbS_o15_3, wbS_o15_4, wbS_o12_3, wbS_o12_4, wbS_ua0, wbS_ua1, wbS_uh0, wbS_uh1, wbS_uw0, wbS_uw1, wbS_ul0, wbS_ul1, vin02, vin12, tn0, tn1, nI_1, nI_add, nI_clamp, nI_pin, nI_neg, nI_nonneg, nI_leE, nI_ltE, nI_eqE, Nat.not_le, Nat.not_lt, fq_10, fq_01, fq_rr, ix_aald, ix_aast, ix_abs, ix_alen, ix_aload, ix_aret, ix_astore, ix_bald, ix_bast, ix_call, ix_cpyI, ix_cpyJ, ix_dead, ix_dup2, ix_dup2L, ix_dupI, ix_dupR, ix_dupx1, ix_getI, ix_getJ, ix_getR, ix_gfm, ix_gtab, ix_i2b, ix_i2c, ix_i2l, ix_i2s, ix_iadd, ix_iald, ix_iand, ix_iast, ix_icall, ix_icmp_eq, ix_icmp_ge, ix_icmp_gt, ix_icmp_le, ix_icmp_lt, ix_icmp_ne, ix_idiv, ix_if_eq, ix_if_ge, ix_if_gt, ix_if_le, ix_if_lt, ix_if_ne, ix_iinc, ix_iload, ix_imul, ix_ineg, ix_ior, ix_irem, ix_iret, ix_ishl, ix_ishr, ix_istore, ix_isub, ix_iushr, ix_ixor, ix_l2i, ix_ladd, ix_lald, ix_land, ix_last, ix_lcmp, ix_ldcS, ix_ldiv, ix_lload, ix_lmul, ix_lor, ix_lrem, ix_lret, ix_lshl, ix_lstore, ix_lsub, ix_lsw, ix_max, ix_min, ix_new, ix_newa, ix_nret, ix_oinit, ix_pop2L, ix_popI, ix_pushI, ix_pushL, ix_putI, ix_putJ, ix_putR, ix_putZ, ix_sbald, ix_sgetC, ix_sgetV, ix_slen, ix_strc, ix_tald, ix_tsw, ix_vcall, ix_vret, ix_zret, stL, stL2, kilL, popN, fq_sw, fq_lsw, List.map_cons, List.map_nil, List.getElem?_cons_zero, List.getElem?_cons_succ, Option.toList_some, Option.toList_none, List.cons_append, List.nil_append, List.length_cons, List.length_nil, List.sum_cons, List.sum_nil, cat_i, cat_l, cat_r, true_and, and_true, Nat.zero_add, Nat.add_zero, Nat.le_refl, Nat.zero_le, Nat.reduceAdd, Nat.reduceLeDiff, exists_eq_left', Option.some.injEq, not_true_eq_false, not_false_eq_true, false_implies, true_implies, implies_true, and_self, or_true, true_or, or_false, false_or]
        obtain ⟨x0, x1, y0, y1, hx⟩ := bp_false I0 s a0 a1 g0 g1 w0 w1 m0 m1
        refine ⟨s, rfl, hs, Or.inr rfl, fun q => absurd q (by decide), fun _ => ?_⟩
        refine ⟨s, t + 1, tn, I0, _, _, _, _, _, _, _, _, rfl, hs, by omega, htn, hx, fun p0 p1 r0 r1 => ?_⟩
        have hq := hQ p0 p1 r0 r1
        rw [if_neg (by omega), if_neg (by omega)] at hq
        simp (disch := omega) only [B_X11_bestPlay_0, B_X11_bestPlay_10, B_X11_bestPlay_144, sp_X5_speak, B_X11_bestPlay_83, hs.k, hs.r0, hs.k1, hs.r1, hs.k2, hs.r2, hs.k3, hs.r3, hs.k4, hs.r4, hs.k12, hs.n1, hs.n2, hs.n3, hs.y0, hs.k5, hs.n5, hs.y1, hs.k6, hs.n6, hs.y2, hs.k7, hs.n7, hs.y3, hs.k8, hs.n8, hs.y4, hs.k9, hs.n9, hs.y5, hs.k10, hs.n10, hs.y6, hs.k11, hs.n11, hs.p0, hs.p1, hs.p2, hs.k13, hs.n13, hs.q0, hs.q1, hs.k14, hs.k15, hs.k16, hs.n16, hs.k17, hs.n17, hs.rH, hs.kH, hs.rP, hs.kP, hs.rQ, hs.kQ, wbS_a0, wbS_a1, wbS_h0, wbS_h1, wbS_w0, wbS_w1, wbS_l0, wbS_l1, wbS_o14_2, wbS_o14_3, wbS_o14_4, wbS_o15_2, wbS_o15_3, wbS_o15_4, wbS_o12_3, wbS_o12_4, wbS_ua0, wbS_ua1, wbS_uh0, wbS_uh1, wbS_uw0, wbS_uw1, wbS_ul0, wbS_ul1, vin02, vin12, tn0, tn1, nz0, nz1, nI_1, nI_add, nI_clamp, nI_pin, nI_neg, nI_nonneg, nI_leE, nI_ltE, nI_eqE, Nat.not_le, Nat.not_lt, fq_10, fq_01, fq_rr, ix_aald, ix_aast, ix_abs, ix_alen, ix_aload, ix_aret, ix_astore, ix_bald, ix_bast, ix_call, ix_cpyI, ix_cpyJ, ix_dead, ix_dup2, ix_dup2L, ix_dupI, ix_dupR, ix_dupx1, ix_getI, ix_getJ, ix_getR, ix_gfm, ix_gtab, ix_i2b, ix_i2c, ix_i2l, ix_i2s, ix_iadd, ix_iald, ix_iand, ix_iast, ix_icall, ix_icmp_eq, ix_icmp_ge, ix_icmp_gt, ix_icmp_le, ix_icmp_lt, ix_icmp_ne, ix_idiv, ix_if_eq, ix_if_ge, ix_if_gt, ix_if_le, ix_if_lt, ix_if_ne, ix_iinc, ix_iload, ix_imul, ix_ineg, ix_ior, ix_irem, ix_iret, ix_ishl, ix_ishr, ix_istore, ix_isub, ix_iushr, ix_ixor, ix_l2i, ix_ladd, ix_lald, ix_land, ix_last, ix_lcmp, ix_ldcS, ix_ldiv, ix_lload, ix_lmul, ix_lor, ix_lrem, ix_lret, ix_lshl, ix_lstore, ix_lsub, ix_lsw, ix_max, ix_min, ix_new, ix_newa, ix_nret, ix_oinit, ix_pop2L, ix_popI, ix_pushI, ix_pushL, ix_putI, ix_putJ, ix_putR, ix_putZ, ix_sbald, ix_sgetC, ix_sgetV, ix_slen, ix_strc, ix_tald, ix_tsw, ix_vcall, ix_vret, ix_zret, stL, stL2, kilL, popN, fq_sw, fq_lsw, List.map_cons, List.map_nil, List.getElem?_cons_zero, List.getElem?_cons_succ, Option.toList_some, Option.toList_none, List.cons_append, List.nil_append, List.length_cons, List.length_nil, List.sum_cons, List.sum_nil, cat_i, cat_l, cat_r, true_and, and_true, Nat.zero_add, Nat.add_zero, Nat.le_refl, Nat.zero_le, Nat.reduceAdd, Nat.reduceLeDiff, exists_eq_left', Option.some.injEq, not_true_eq_false, not_false_eq_true, false_implies, true_implies, implies_true, and_self, or_true, true_or, or_false, false_or]
        exact hq
def sp_X11_bestPlay (G : GT) : Sp := fun as S I J z Q => ∃ f, spBP f as S I J z Q
theorem c_X11_bestPlay {l : Launch} {G : GT} {D : Nat} : ∀ as S I J z Q, sp_X11_bestPlay G as S I J z Q → fqCall l G M_X11_bestPlay (D + 7) 0 0 as S I J z Q := by
  rintro as S I J z Q ⟨f, h⟩
  have hf : f ≤ 4 := by
    obtain ⟨s, t, tn, I0, a0, a1, h0, h1, w0, w1, l0, l1, _, _, ht, _⟩ := h
    omega
  rw [show D + 7 = (D + (4 - f)) + f + 3 by omega]
  exact rc_X11_bestPlay f as S I J z Q h
