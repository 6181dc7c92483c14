/-! switches over scattered numbers, copying of rows, texts -/
theorem fq_lsw_at {x : Int32} {Kd : Prop} : ∀ {ps : List (Int × Prop)} {os : List (Int × Int)} {dflt : Int}, ps.map (fun q => q.1) = os.map (fun q => q.1) → fq_lsw x Kd ps → (∃ (i : Nat) (p : Int × Prop) (o : Int × Int), ps[i]? = some p ∧ os[i]? = some o ∧ Op.lookupswitch.offset os dflt x.toInt = o.2 ∧ p.2) ∨ (Op.lookupswitch.offset os dflt x.toInt = dflt ∧ Kd)
  | [], [], dflt, _, h => Or.inr ⟨rfl, h⟩
  | p :: ps, o :: os, dflt, he, h => by
    simp only [List.map_cons, List.cons.injEq] at he
    by_cases hx : x.toInt = p.1
    · exact Or.inl ⟨0, p, o, rfl, rfl, by simp [Op.lookupswitch.offset, ← he.1, hx], h.1 hx⟩
    · have e1 : Op.lookupswitch.offset (o :: os) dflt x.toInt = Op.lookupswitch.offset os dflt x.toInt := by
        simp [Op.lookupswitch.offset, ← he.1]
        intro q
        exact absurd q (by first | exact hx | exact fun z => hx z.symm)
      rcases fq_lsw_at (dflt := dflt) he.2 (h.2 hx) with ⟨i, p', o', h1, h2, h3, h4⟩ | ⟨h1, h2⟩
      · exact Or.inl ⟨i + 1, p', o', by simpa using h1, by simpa using h2, by rw [e1]; exact h3, h4⟩
      · exact Or.inr ⟨by rw [e1]; exact h1, h2⟩
  | [], _ :: _, _, he, _ => by simp at he
  | _ :: _, [], _, he, _ => by simp at he
theorem sx_lsw {l : Launch} {G : GT} {M : MT} {D mc ms : Nat} {Q : Post} {pc : Nat} {Ks : List (Int × Cn)} {Kd : Cn} {dflt : Int} {os : Array (Int × Int)} {len : Nat} (ts : List Nat) (td : Nat) (d : decode M.2.1 pc = .ok (.lookupswitch dflt os, len)) (hks : Ks.map (fun q => q.1) = os.toList.map (fun q => q.1)) (hlen : ts.length = os.toList.length) (hsort : (os.toList.zip (os.toList.drop 1)).all (fun (a, next) => a.1 < next.1) = true) (hts : os.toList.map (fun o => (pc : Int) + o.2) = ts.map (fun (t : Nat) => (t : Int))) (htd : (pc : Int) + dflt = (td : Int)) (h : ∀ (i : Nat) (K : Int × Cn) (t : Nat), Ks[i]? = some K → ts[i]? = some t → Imp l G M D mc ms Q K.2 t) (hd : Imp l G M D mc ms Q Kd td) : Imp l G M D mc ms Q (ix_lsw Ks Kd) pc := by
  intro ls st S I J z k n hk p e s m args below meth c H locs lsA A hC hW hA hS hL
  unfold ix_lsw at hk
  split at hk
  · next x st =>
    rcases fq_lsw_at (os := os.toList) (dflt := dflt) (by rw [List.map_map]; exact hks) hk with ⟨i, q, o, h1, h2, h3, h4⟩ | ⟨h1, h2⟩
    · rw [List.getElem?_map] at h1
      cases hKi : Ks[i]? with
      | none => rw [hKi] at h1; cases h1
      | some K =>
        rw [hKi] at h1
        have hq : (K.1, K.2 ls st S I J z k n) = q := Option.some.inj h1
        subst hq
        have hi : i < ts.length := by rw [hlen]; exact (List.getElem?_eq_some_iff.mp h2).1
        have ht : ts[i]? = some ts[i] := List.getElem?_eq_getElem hi
        have ho : (os.toList.map (fun o => (pc : Int) + o.2))[i]? = (ts.map (fun (t : Nat) => (t : Int)))[i]? := by rw [hts]
        rw [List.getElem?_map, List.getElem?_map, h2, ht] at ho
        exact lv_lookup hC.1 hC.2.1 d hsort h3 (Option.some.inj ho) (h i K _ hKi ht _ _ _ _ _ _ _ _ h4 p e s m args below meth c H locs lsA A hC hW hA hS hL)
    · exact lv_lookup hC.1 hC.2.1 d hsort h1 htd (hd _ _ _ _ _ _ _ _ h2 p e s m args below meth c H locs lsA A hC hW hA hS hL)
  · exact hk.elim
def ix_cpyI (K : Cn) : Cn := fun ls st S I J z k n => match st with
  | .int x :: .int dp :: .ref b :: .int sp :: .ref a :: st => st.length ≤ 4 ∧ S.1 a = 14 ∧ S.1 b = 14 ∧ ¬ sp < 0 ∧ ¬ dp < 0 ∧ ¬ x < 0 ∧ sp.toNatClampNeg + x.toNatClampNeg ≤ S.2.1 a ∧ dp.toNatClampNeg + x.toNatClampNeg ≤ S.2.1 b ∧ K ls st S (up1 I b (va_cpy (I a) (I b) sp.toNatClampNeg dp.toNatClampNeg x.toNatClampNeg)) J z k n
  | _ => False
def ix_cpyJ (K : Cn) : Cn := fun ls st S I J z k n => match st with
  | .int x :: .int dp :: .ref b :: .int sp :: .ref a :: st => st.length ≤ 4 ∧ S.1 a = 15 ∧ S.1 b = 15 ∧ ¬ sp < 0 ∧ ¬ dp < 0 ∧ ¬ x < 0 ∧ sp.toNatClampNeg + x.toNatClampNeg ≤ S.2.1 a ∧ dp.toNatClampNeg + x.toNatClampNeg ≤ S.2.1 b ∧ K ls st S I (up1 J b (va_cpy (J a) (J b) sp.toNatClampNeg dp.toNatClampNeg x.toNatClampNeg)) z k n
  | _ => False
theorem fq_nn (x : Int32) (h : ¬ x < 0) : x.toInt = (x.toNatClampNeg : Int) := by
  have h0 : (0 : Int) ≤ x.toInt := by
    have := Int32.not_lt.mp h
    simpa using Int32.le_iff_toInt_le.mp this
  show x.toInt = ((x.toInt.toNat : Nat) : Int)
  omega
theorem sx_cpyI {l : Launch} {G : GT} {M : MT} {D mc ms : Nat} {Q : Post} {pc : Nat} {K : Cn} {idx : Nat} (d : decode M.2.1 pc = .ok (.invokestatic idx, 3)) (hl : Cond.methodLink M.1.cls idx arraycopyName ∈ fq_all) (hnat : Cond.native arraycopyName ∈ fq_all) (hst : Cond.static arraycopyName ∈ fq_all) (hini : Cond.initialized "java/lang/System" ∈ fq_all) (h : Imp l G M (D + 1) mc ms Q K (pc + 3)) : Imp l G M (D + 1) mc ms Q (ix_cpyI K) pc := by
  intro ls st S I J z k n hk p e s m args below meth c H locs lsA A hC hW hA hS hL
  unfold ix_cpyI at hk
  split at hk
  · next x dp b sp a st =>
    obtain ⟨g0, g1, g2, g3, g4, g5, g6, g7, g8⟩ := hk
    have hts := hC.2.2.2.2.2.1
    have hK := hC.2.2.2.2.2.2.2.2.2.1
    have hc0 := hW.2 a (by omega)
    have hc1 := hW.2 b (by omega)
    rw [fq_ar_i g1 (by omega) (by omega)] at hc0
    rw [fq_ar_i g2 (by omega) (by omega)] at hc1
    intro T hT X
    obtain ⟨-, k0, hk0, cm0, hkk0⟩ := (hK.2 1 _ rfl).1 (S.2.1 a) (fun j => .int (I a j))
    obtain ⟨vm', X', step⟩ := X.arraycopy hC.1 hC.2.2.2.2.1 (hts _ hl) (hts _ hnat) (hts _ hst) (hts _ hini) (src := a) (dst := b) (cs := vp_cell (G.2.2.1 14) (S.2.1 a, .inl (I a))) (cd := vp_cell (G.2.2.1 14) (S.2.1 b, .inl (I b))) (srcPos := sp) (destPos := dp) (n := x) (by rw [hT]; exact hc0) (by rw [hT]; exact hc1)
      (fun _ h => by cases h) (fun _ h => by cases h) (fun h => by cases h) (fun h => by cases h) hk0 hk0 hkk0 hkk0 (by simp [fq_ty, refKind]) g3 g4 g5
      (by rw [fq_nn sp g3, fq_nn x g5]; show ¬ _ > ((arrV (G.2.2.1 14) (S.2.1 a) (fun j => .int (I a j))).slots.size : Int); rw [arrV_size]; omega)
      (by rw [fq_nn dp g4, fq_nn x g5]; show ¬ _ > ((arrV (G.2.2.1 14) (S.2.1 b) (fun j => .int (I b j))).slots.size : Int); rw [arrV_size]; omega)
      (fun vm₁ _ i hi => by
        have e1 : (vp_cell (G.2.2.1 14) (S.2.1 a, .inl (I a))).slots.getD (sp.toNatClampNeg + i) .null = .int (I a (sp.toNatClampNeg + i)) := by
          show (arrV (G.2.2.1 14) (S.2.1 a) (fun j => .int (I a j))).slots.getD _ _ = _
          rw [Array.getD_eq_getD_getElem?, arrV_read _ _ (by omega)]
          rfl
        refine ⟨?_, ?_⟩
        · rw [e1]
          rfl
        · rw [e1]
          exact trivial)
      (g := F0 m pc lsA (.int x :: .int dp :: .ref b :: .int sp :: .ref a :: st)) rfl (hL.1.trans hC.2.2.2.1.symm) (rest := st) rfl (by rw [hC.2.1]; exact d) (show 1 ≤ D + 1 by omega) (by
        show 2 * 0 + _ + _ ≤ 64 * (D + 1)
        have h1 := cat_le st
        have h2 : nativeFrameWords "java/lang/System" "arraycopy" 5 ≤ 40 := by decide
        omega)
    have e1 : copied (vp_cell (G.2.2.1 14) (S.2.1 a, .inl (I a))) (vp_cell (G.2.2.1 14) (S.2.1 b, .inl (I b))) sp dp x = vp_cell (G.2.2.1 14) (S.2.1 b, .inl (va_cpy (I a) (I b) sp.toNatClampNeg dp.toNatClampNeg x.toNatClampNeg)) := va_copied (fun z => .int z) (G.2.2.1 14) (G.2.2.1 14) (I a) (I b) g6
    rw [e1] at X' step
    have hlt : b < H.size := (Array.getElem?_eq_some_iff.mp hc1).1
    have hheap : ((T.setVm vm').setCell b (vp_cell (G.2.2.1 14) (S.2.1 b, .inl (va_cpy (I a) (I b) sp.toNatClampNeg dp.toNatClampNeg x.toNatClampNeg)))).heap = H.setIfInBounds b (vp_cell (G.2.2.1 14) (S.2.1 b, .inl (va_cpy (I a) (I b) sp.toNatClampNeg dp.toNatClampNeg x.toNatClampNeg))) := by rw [← hT]; rfl
    generalize hH1 : H.setIfInBounds b (vp_cell (G.2.2.1 14) (S.2.1 b, .inl (va_cpy (I a) (I b) sp.toNatClampNeg dp.toNatClampNeg x.toNatClampNeg))) = H1 at hheap
    have oq : ∀ q : Nat, q ≠ b → H1[q]? = H[q]? := fun q hq => by rw [← hH1]; simp [Array.getElem?_setIfInBounds, Ne.symm hq]
    have ob : H1[b]? = some (vp_cell (G.2.2.1 14) (S.2.1 b, .inl (va_cpy (I a) (I b) sp.toNatClampNeg dp.toNatClampNeg x.toNatClampNeg))) := by rw [← hH1]; simp [Array.getElem?_setIfInBounds, hlt]
    have oz : H1.size = H.size := by rw [← hH1]; simp
    have hb : A b := hA b (by omega)
    obtain ⟨t, a1, b1⟩ := h _ _ _ _ _ _ _ _ g8 p e s m args below meth c H1 _ lsA A hC ⟨oz.trans hW.1, fun q hq => (by
        by_cases hqb : q = b
        · subst hqb
          rw [fq_ar_i (I := up1 I q (va_cpy (I a) (I q) sp.toNatClampNeg dp.toNatClampNeg x.toNatClampNeg)) g2 (by omega) (by omega)]
          show H1[q]? = some (vp_cell _ _)
          rw [ob, up1_eq]
        · rw [fq_E_cong (S := S) (I := I) (J := J) rfl rfl rfl (up1_ne hqb) rfl]
          exact (hW.2 q hq).kept (oq q hqb))⟩ hA ⟨by rw [oz]; exact hS.1, fun q g1 g2 => by
          rw [oq q (fun e => g2 (by rw [e]; exact hb))]
          exact hS.2.1 q g1 g2, fun q hq => by
          rcases List.mem_append.mp hq with h | h
          · exact hS.2.2 q h
          · obtain ⟨z, -, hz⟩ := List.mem_map.mp h
            rw [← hz]
            exact hb⟩ hL _ hheap X'
    exact ⟨t, step t a1, b1⟩
  · exact hk.elim
theorem sx_cpyJ {l : Launch} {G : GT} {M : MT} {D mc ms : Nat} {Q : Post} {pc : Nat} {K : Cn} {idx : Nat} (d : decode M.2.1 pc = .ok (.invokestatic idx, 3)) (hl : Cond.methodLink M.1.cls idx arraycopyName ∈ fq_all) (hnat : Cond.native arraycopyName ∈ fq_all) (hst : Cond.static arraycopyName ∈ fq_all) (hini : Cond.initialized "java/lang/System" ∈ fq_all) (h : Imp l G M (D + 1) mc ms Q K (pc + 3)) : Imp l G M (D + 1) mc ms Q (ix_cpyJ K) pc := by
  intro ls st S I J z k n hk p e s m args below meth c H locs lsA A hC hW hA hS hL
  unfold ix_cpyJ at hk
  split at hk
  · next x dp b sp a st =>
    obtain ⟨g0, g1, g2, g3, g4, g5, g6, g7, g8⟩ := hk
    have hts := hC.2.2.2.2.2.1
    have hK := hC.2.2.2.2.2.2.2.2.2.1
    have hc0 := hW.2 a (by omega)
    have hc1 := hW.2 b (by omega)
    rw [fq_ar_j g1] at hc0
    rw [fq_ar_j g2] at hc1
    intro T hT X
    obtain ⟨-, k0, hk0, cm0, hkk0⟩ := (hK.2 2 _ rfl).1 (S.2.1 a) (fun j => .long (J a j))
    obtain ⟨vm', X', step⟩ := X.arraycopy hC.1 hC.2.2.2.2.1 (hts _ hl) (hts _ hnat) (hts _ hst) (hts _ hini) (src := a) (dst := b) (cs := vp_cell (G.2.2.1 15) (S.2.1 a, .inr (.inl (J a)))) (cd := vp_cell (G.2.2.1 15) (S.2.1 b, .inr (.inl (J b)))) (srcPos := sp) (destPos := dp) (n := x) (by rw [hT]; exact hc0) (by rw [hT]; exact hc1)
      (fun _ h => by cases h) (fun _ h => by cases h) (fun h => by cases h) (fun h => by cases h) hk0 hk0 hkk0 hkk0 (by simp [fq_ty, refKind]) g3 g4 g5
      (by rw [fq_nn sp g3, fq_nn x g5]; show ¬ _ > ((arrV (G.2.2.1 15) (S.2.1 a) (fun j => .long (J a j))).slots.size : Int); rw [arrV_size]; omega)
      (by rw [fq_nn dp g4, fq_nn x g5]; show ¬ _ > ((arrV (G.2.2.1 15) (S.2.1 b) (fun j => .long (J b j))).slots.size : Int); rw [arrV_size]; omega)
      (fun vm₁ _ i hi => by
        have e1 : (vp_cell (G.2.2.1 15) (S.2.1 a, .inr (.inl (J a)))).slots.getD (sp.toNatClampNeg + i) .null = .long (J a (sp.toNatClampNeg + i)) := by
          show (arrV (G.2.2.1 15) (S.2.1 a) (fun j => .long (J a j))).slots.getD _ _ = _
          rw [Array.getD_eq_getD_getElem?, arrV_read _ _ (by omega)]
          rfl
        refine ⟨?_, ?_⟩
        · rw [e1]
          rfl
        · rw [e1]
          exact trivial)
      (g := F0 m pc lsA (.int x :: .int dp :: .ref b :: .int sp :: .ref a :: st)) rfl (hL.1.trans hC.2.2.2.1.symm) (rest := st) rfl (by rw [hC.2.1]; exact d) (show 1 ≤ D + 1 by omega) (by
        show 2 * 0 + _ + _ ≤ 64 * (D + 1)
        have h1 := cat_le st
        have h2 : nativeFrameWords "java/lang/System" "arraycopy" 5 ≤ 40 := by decide
        omega)
    have e1 : copied (vp_cell (G.2.2.1 15) (S.2.1 a, .inr (.inl (J a)))) (vp_cell (G.2.2.1 15) (S.2.1 b, .inr (.inl (J b)))) sp dp x = vp_cell (G.2.2.1 15) (S.2.1 b, .inr (.inl (va_cpy (J a) (J b) sp.toNatClampNeg dp.toNatClampNeg x.toNatClampNeg))) := va_copied (fun z => .long z) (G.2.2.1 15) (G.2.2.1 15) (J a) (J b) g6
    rw [e1] at X' step
    have hlt : b < H.size := (Array.getElem?_eq_some_iff.mp hc1).1
    have hheap : ((T.setVm vm').setCell b (vp_cell (G.2.2.1 15) (S.2.1 b, .inr (.inl (va_cpy (J a) (J b) sp.toNatClampNeg dp.toNatClampNeg x.toNatClampNeg))))).heap = H.setIfInBounds b (vp_cell (G.2.2.1 15) (S.2.1 b, .inr (.inl (va_cpy (J a) (J b) sp.toNatClampNeg dp.toNatClampNeg x.toNatClampNeg)))) := by rw [← hT]; rfl
    generalize hH1 : H.setIfInBounds b (vp_cell (G.2.2.1 15) (S.2.1 b, .inr (.inl (va_cpy (J a) (J b) sp.toNatClampNeg dp.toNatClampNeg x.toNatClampNeg)))) = H1 at hheap
    have oq : ∀ q : Nat, q ≠ b → H1[q]? = H[q]? := fun q hq => by rw [← hH1]; simp [Array.getElem?_setIfInBounds, Ne.symm hq]
    have ob : H1[b]? = some (vp_cell (G.2.2.1 15) (S.2.1 b, .inr (.inl (va_cpy (J a) (J b) sp.toNatClampNeg dp.toNatClampNeg x.toNatClampNeg)))) := by rw [← hH1]; simp [Array.getElem?_setIfInBounds, hlt]
    have oz : H1.size = H.size := by rw [← hH1]; simp
    have hb : A b := hA b (by omega)
    obtain ⟨t, a1, b1⟩ := h _ _ _ _ _ _ _ _ g8 p e s m args below meth c H1 _ lsA A hC ⟨oz.trans hW.1, fun q hq => (by
        by_cases hqb : q = b
        · subst hqb
          rw [fq_ar_j (J := up1 J q (va_cpy (J a) (J q) sp.toNatClampNeg dp.toNatClampNeg x.toNatClampNeg)) g2]
          show H1[q]? = some (vp_cell _ _)
          rw [ob, up1_eq]
        · rw [fq_E_cong (S := S) (I := I) (J := J) rfl rfl rfl rfl (up1_ne hqb)]
          exact (hW.2 q hq).kept (oq q hqb))⟩ hA ⟨by rw [oz]; exact hS.1, fun q g1 g2 => by
          rw [oq q (fun e => g2 (by rw [e]; exact hb))]
          exact hS.2.1 q g1 g2, fun q hq => by
          rcases List.mem_append.mp hq with h | h
          · exact hS.2.2 q h
          · obtain ⟨z, -, hz⟩ := List.mem_map.mp h
            rw [← hz]
            exact hb⟩ hL _ hheap X'
    exact ⟨t, step t a1, b1⟩
  · exact hk.elim
