/-! the law: its world -/
theorem lt_1 {w : Cond} (h : w ∈ tables_1_1) : w ∈ lw_tbl := List.mem_append_right _ (List.mem_append_left _ h)
theorem lt_2 {w : Cond} (h : w ∈ tables_1_2) : w ∈ lw_tbl := List.mem_append_right _ (List.mem_append_right _ (List.mem_append_left _ h))
theorem lt_3 {w : Cond} (h : w ∈ tables_1_3) : w ∈ lw_tbl := List.mem_append_right _ (List.mem_append_right _ (List.mem_append_right _ (List.mem_append_left _ h)))
theorem lt_4 {w : Cond} (h : w ∈ tables_1_4) : w ∈ lw_tbl := List.mem_append_right _ (List.mem_append_right _ (List.mem_append_right _ (List.mem_append_right _ (List.mem_append_left _ h))))
theorem lt_5 {w : Cond} (h : w ∈ tables_1_5) : w ∈ lw_tbl := List.mem_append_right _ (List.mem_append_right _ (List.mem_append_right _ (List.mem_append_right _ (List.mem_append_right _ (List.mem_append_left _ h)))))
theorem lt_6 {w : Cond} (h : w ∈ tables_1_6) : w ∈ lw_tbl := List.mem_append_right _ (List.mem_append_right _ (List.mem_append_right _ (List.mem_append_right _ (List.mem_append_right _ (List.mem_append_right _ (List.mem_append_left _ h))))))
theorem lt_7 {w : Cond} (h : w ∈ tables_1_7) : w ∈ lw_tbl := List.mem_append_right _ (List.mem_append_right _ (List.mem_append_right _ (List.mem_append_right _ (List.mem_append_right _ (List.mem_append_right _ (List.mem_append_right _ (List.mem_append_left _ h)))))))
theorem lt_8 {w : Cond} (h : w ∈ tables_1_8) : w ∈ lw_tbl := List.mem_append_right _ (List.mem_append_right _ (List.mem_append_right _ (List.mem_append_right _ (List.mem_append_right _ (List.mem_append_right _ (List.mem_append_right _ (List.mem_append_right _ (List.mem_append_left _ h))))))))
theorem lt_9 {w : Cond} (h : w ∈ tables_1_9) : w ∈ lw_tbl := List.mem_append_right _ (List.mem_append_right _ (List.mem_append_right _ (List.mem_append_right _ (List.mem_append_right _ (List.mem_append_right _ (List.mem_append_right _ (List.mem_append_right _ (List.mem_append_right _ (h)))))))))
theorem lw_ap {s : State} {args : Array Value} {ty : FieldType} (h : (Cond.arrayClass ty).before args s = true) : ∃ cA : ClassId, ArrOfT s cA ty ∧ s.vm.findClass ("[" ++ ty.toString) = some cA := by
  obtain ⟨c, k, comp, h1, h2, h3⟩ := Cond.arrayClass_spec h
  exact ⟨c, fun N z => ⟨fun k h => (by cases h), k, h2, comp, h3⟩, h1⟩
theorem lw_ao {s : State} {args : Array Value} {C : String} (h : (Cond.arrayOver (.object C)).before args s = true) : ∃ cA : ClassId, ArrOfT s cA (.object C) ∧ va_RA s cA (.object C) := by
  obtain ⟨comp, c, k, h1, h2, h3, h4, h5⟩ := Cond.arrayOver_spec h
  exact ⟨c, fun N z => ⟨fun k h => (by cases h), k, h3, comp, h4⟩, k, comp, h3, h4, h1, h5⟩
theorem lw_classes {s : State} {args : Array Value} (hts : ∀ w ∈ lw_tbl, w.before args s = true) : ∃ D : va_G, ∀ (c : Nat) (q : vw_C), vwCl[c]? = some q → u_Kn s q.1 q.2.1 q.2.2 (D.1 c) (D.2 c) := by
  have ht : ∀ w ∈ fq_all, w.before args s = true := fun w hw => hts w (List.mem_filter.mp hw).1
  obtain ⟨d0, e0, h0⟩ := u_known ht iw_0 (hts _ (lt_2 (List.mem_of_getElem? (i := 56) rfl)))
  obtain ⟨d1, e1, h1⟩ := u_known ht iw_1 (hts _ (lt_2 (List.mem_of_getElem? (i := 214) rfl)))
  obtain ⟨d2, e2, h2⟩ := u_known ht iw_2 (hts _ (lt_1 (List.mem_of_getElem? (i := 228) rfl)))
  obtain ⟨d3, e3, h3⟩ := u_known ht iw_3 (hts _ (lt_2 (List.mem_of_getElem? (i := 83) rfl)))
  obtain ⟨d4, e4, h4⟩ := u_known ht iw_4 (hts _ (lt_1 (List.mem_of_getElem? (i := 51) rfl)))
  obtain ⟨d5, e5, h5⟩ := u_known ht iw_5 (hts _ (lt_1 (List.mem_of_getElem? (i := 222) rfl)))
  obtain ⟨d6, e6, h6⟩ := u_known ht iw_6 (hts _ (lt_1 (List.mem_of_getElem? (i := 152) rfl)))
  obtain ⟨d7, e7, h7⟩ := u_known ht iw_7 (hts _ (lt_3 (List.mem_of_getElem? (i := 148) rfl)))
  obtain ⟨d8, e8, h8⟩ := u_known ht iw_8 (hts _ (lt_1 (List.mem_of_getElem? (i := 31) rfl)))
  obtain ⟨d9, e9, h9⟩ := u_known ht iw_9 (hts _ (lt_1 (List.mem_of_getElem? (i := 164) rfl)))
  obtain ⟨d10, e10, h10⟩ := u_known ht iw_10 (hts _ (lt_4 (List.mem_of_getElem? (i := 81) rfl)))
  obtain ⟨d11, e11, h11⟩ := u_known ht iw_11 (hts _ (lt_1 (List.mem_of_getElem? (i := 22) rfl)))
  obtain ⟨d12, e12, h12⟩ := u_known ht iw_12 (hts _ (lt_6 (List.mem_of_getElem? (i := 171) rfl)))
  refine ⟨(fun c => match c with | 0 => d0 | 1 => d1 | 2 => d2 | 3 => d3 | 4 => d4 | 5 => d5 | 6 => d6 | 7 => d7 | 8 => d8 | 9 => d9 | 10 => d10 | 11 => d11 | _ => d12, fun c => match c with | 0 => e0 | 1 => e1 | 2 => e2 | 3 => e3 | 4 => e4 | 5 => e5 | 6 => e6 | 7 => e7 | 8 => e8 | 9 => e9 | 10 => e10 | 11 => e11 | _ => e12), fun c q hq => ?_⟩
  match c, hq with
  | 0, hq => cases hq; exact h0
  | 1, hq => cases hq; exact h1
  | 2, hq => cases hq; exact h2
  | 3, hq => cases hq; exact h3
  | 4, hq => cases hq; exact h4
  | 5, hq => cases hq; exact h5
  | 6, hq => cases hq; exact h6
  | 7, hq => cases hq; exact h7
  | 8, hq => cases hq; exact h8
  | 9, hq => cases hq; exact h9
  | 10, hq => cases hq; exact h10
  | 11, hq => cases hq; exact h11
  | 12, hq => cases hq; exact h12
  | n + 13, hq => simp [vwCl] at hq
theorem lw_arrays {s : State} {args : Array Value} (hts : ∀ w ∈ lw_tbl, w.before args s = true) : ∃ g : Nat → ClassId, ∀ k, 13 ≤ k → k < 21 → ArrOfT s (g k) (fq_ty k) ∧ va_RA s (g k) (fq_ty k) := by
  obtain ⟨a13, x13, y13⟩ := lw_ap (hts _ (lt_1 (List.mem_of_getElem? (i := 149) rfl)))
  obtain ⟨a14, x14, y14⟩ := lw_ap (hts _ (lt_1 (List.mem_of_getElem? (i := 220) rfl)))
  obtain ⟨a15, x15, y15⟩ := lw_ap (hts _ (lt_1 (List.mem_of_getElem? (i := 49) rfl)))
  obtain ⟨a16, x16⟩ := lw_ao (hts _ (lt_1 (List.mem_of_getElem? (i := 158) rfl)))
  obtain ⟨a17, x17⟩ := lw_ao (hts _ (lt_1 (List.mem_of_getElem? (i := 160) rfl)))
  obtain ⟨a18, x18⟩ := lw_ao (hts _ (lt_1 (List.mem_of_getElem? (i := 162) rfl)))
  obtain ⟨a19, x19⟩ := lw_ao (hts _ (lt_1 (List.mem_of_getElem? (i := 151) rfl)))
  obtain ⟨a20, x20⟩ := lw_ao (hts _ (lt_1 (List.mem_of_getElem? (i := 30) rfl)))
  refine ⟨fun k => match k with | 13 => a13 | 14 => a14 | 15 => a15 | 16 => a16 | 17 => a17 | 18 => a18 | 19 => a19 | _ => a20, fun k h1 h2 => ?_⟩
  rcases (show k = 13 ∨ k = 14 ∨ k = 15 ∨ k = 16 ∨ k = 17 ∨ k = 18 ∨ k = 19 ∨ k = 20 by omega) with rfl | rfl | rfl | rfl | rfl | rfl | rfl | rfl
  · exact ⟨x13, y13⟩
  · exact ⟨x14, y14⟩
  · exact ⟨x15, y15⟩
  · exact x16
  · exact x17
  · exact x18
  · exact x19
  · exact x20
def lw_flat : List Cond := flatC (Jvm.Cond.and given_1 narrow_1)
theorem lw_tab {s : State} {args : Array Value} (hf : ∀ w ∈ lw_flat, w.before args s = true) (hts : ∀ w ∈ lw_tbl, w.before args s = true) {A : Nat → Prop} (hA : ∀ a : Nat, a < s.heap.size → ¬ A a) : ∀ j, j < 4 → ∃ t : Nat, va_Z "FootQuarrel" (fq_tn j) "[I" (.ref t) A s s.heap ∧ va_T .int t (fq_tab j).length (fun i => .int ((fq_tab j).getD i 0)) A s s.heap := by
  intro j hj
  rcases (show j = 0 ∨ j = 1 ∨ j = 2 ∨ j = 3 by omega) with rfl | rfl | rfl | rfl
  · obtain ⟨t, h1, h2⟩ := va_Tof (args := args) (tm := (Term.static "FootQuarrel" "TRAIT_LEAST" "[I")) (ty := .int) (N := 5) (f := fun i => .int ((fq_tab 0).getD i 0)) (A := A) (by decide) (hf _ (by decide +kernel)) (va_eqt (hf _ (by decide +kernel))) (fun i hi => by
      rcases (show i = 0 ∨ i = 1 ∨ i = 2 ∨ i = 3 ∨ i = 4 by omega) with rfl | rfl | rfl | rfl | rfl
      · exact va_eqt (hf (.eq (.elem (Term.static "FootQuarrel" "TRAIT_LEAST" "[I") (.int 0)) (.int 0)) (by decide +kernel))
      · exact va_eqt (hf (.eq (.elem (Term.static "FootQuarrel" "TRAIT_LEAST" "[I") (.int 1)) (.int 0)) (by decide +kernel))
      · exact va_eqt (hf (.eq (.elem (Term.static "FootQuarrel" "TRAIT_LEAST" "[I") (.int 2)) (.int 0)) (by decide +kernel))
      · exact va_eqt (hf (.eq (.elem (Term.static "FootQuarrel" "TRAIT_LEAST" "[I") (.int 3)) (.int 1)) (by decide +kernel))
      · exact va_eqt (hf (.eq (.elem (Term.static "FootQuarrel" "TRAIT_LEAST" "[I") (.int 4)) (.int 0)) (by decide +kernel))) hA
    exact ⟨t, va_Zref (hts _ (lt_4 (List.mem_of_getElem? (i := 48) rfl))) (hts _ (lt_1 (List.mem_of_getElem? (i := 1) rfl))) h1 hA, h2⟩
  · obtain ⟨t, h1, h2⟩ := va_Tof (args := args) (tm := (Term.static "FootQuarrel" "TRAIT_MOST" "[I")) (ty := .int) (N := 5) (f := fun i => .int ((fq_tab 1).getD i 0)) (A := A) (by decide) (hf _ (by decide +kernel)) (va_eqt (hf _ (by decide +kernel))) (fun i hi => by
      rcases (show i = 0 ∨ i = 1 ∨ i = 2 ∨ i = 3 ∨ i = 4 by omega) with rfl | rfl | rfl | rfl | rfl
      · exact va_eqt (hf (.eq (.elem (Term.static "FootQuarrel" "TRAIT_MOST" "[I") (.int 0)) (.int 0)) (by decide +kernel))
      · exact va_eqt (hf (.eq (.elem (Term.static "FootQuarrel" "TRAIT_MOST" "[I") (.int 1)) (.int 30)) (by decide +kernel))
      · exact va_eqt (hf (.eq (.elem (Term.static "FootQuarrel" "TRAIT_MOST" "[I") (.int 2)) (.int 9)) (by decide +kernel))
      · exact va_eqt (hf (.eq (.elem (Term.static "FootQuarrel" "TRAIT_MOST" "[I") (.int 3)) (.int 9)) (by decide +kernel))
      · exact va_eqt (hf (.eq (.elem (Term.static "FootQuarrel" "TRAIT_MOST" "[I") (.int 4)) (.int 99)) (by decide +kernel))) hA
    exact ⟨t, va_Zref (hts _ (lt_4 (List.mem_of_getElem? (i := 50) rfl))) (hts _ (lt_1 (List.mem_of_getElem? (i := 1) rfl))) h1 hA, h2⟩
  · obtain ⟨t, h1, h2⟩ := va_Tof (args := args) (tm := (Term.static "FootQuarrel" "ROWS" "[I")) (ty := .int) (N := 4) (f := fun i => .int ((fq_tab 2).getD i 0)) (A := A) (by decide) (hf _ (by decide +kernel)) (va_eqt (hf _ (by decide +kernel))) (fun i hi => by
      rcases (show i = 0 ∨ i = 1 ∨ i = 2 ∨ i = 3 by omega) with rfl | rfl | rfl | rfl
      · exact va_eqt (hf (.eq (.elem (Term.static "FootQuarrel" "ROWS" "[I") (.int 0)) (.int 3)) (by decide +kernel))
      · exact va_eqt (hf (.eq (.elem (Term.static "FootQuarrel" "ROWS" "[I") (.int 1)) (.int 4)) (by decide +kernel))
      · exact va_eqt (hf (.eq (.elem (Term.static "FootQuarrel" "ROWS" "[I") (.int 2)) (.int 1)) (by decide +kernel))
      · exact va_eqt (hf (.eq (.elem (Term.static "FootQuarrel" "ROWS" "[I") (.int 3)) (.int 1)) (by decide +kernel))) hA
    exact ⟨t, va_Zref (hts _ (lt_6 (List.mem_of_getElem? (i := 64) rfl))) (hts _ (lt_1 (List.mem_of_getElem? (i := 1) rfl))) h1 hA, h2⟩
  · obtain ⟨t, h1, h2⟩ := va_Tof (args := args) (tm := (Term.static "FootQuarrel" "LEFT_FIRST" "[I")) (ty := .int) (N := 7) (f := fun i => .int ((fq_tab 3).getD i 0)) (A := A) (by decide) (hf _ (by decide +kernel)) (va_eqt (hf _ (by decide +kernel))) (fun i hi => by
      rcases (show i = 0 ∨ i = 1 ∨ i = 2 ∨ i = 3 ∨ i = 4 ∨ i = 5 ∨ i = 6 by omega) with rfl | rfl | rfl | rfl | rfl | rfl | rfl
      · exact va_eqt (hf (.eq (.elem (Term.static "FootQuarrel" "LEFT_FIRST" "[I") (.int 0)) (.int 1)) (by decide +kernel))
      · exact va_eqt (hf (.eq (.elem (Term.static "FootQuarrel" "LEFT_FIRST" "[I") (.int 1)) (.int 1)) (by decide +kernel))
      · exact va_eqt (hf (.eq (.elem (Term.static "FootQuarrel" "LEFT_FIRST" "[I") (.int 2)) (.int 3)) (by decide +kernel))
      · exact va_eqt (hf (.eq (.elem (Term.static "FootQuarrel" "LEFT_FIRST" "[I") (.int 3)) (.int 1)) (by decide +kernel))
      · exact va_eqt (hf (.eq (.elem (Term.static "FootQuarrel" "LEFT_FIRST" "[I") (.int 4)) (.int 1)) (by decide +kernel))
      · exact va_eqt (hf (.eq (.elem (Term.static "FootQuarrel" "LEFT_FIRST" "[I") (.int 5)) (.int 0)) (by decide +kernel))
      · exact va_eqt (hf (.eq (.elem (Term.static "FootQuarrel" "LEFT_FIRST" "[I") (.int 6)) (.int 0)) (by decide +kernel))) hA
    exact ⟨t, va_Zref (hts _ (lt_6 (List.mem_of_getElem? (i := 78) rfl))) (hts _ (lt_1 (List.mem_of_getElem? (i := 1) rfl))) h1 hA, h2⟩
def lw_tm : Nat → Term
  | 0 => .string "FootQuarrel$Reader" 19
  | _ => .string "FootQuarrelModel" 168
abbrev lw_val (i : Nat) : Term := .field (lw_tm i) "java/lang/String" "value" "[B"
theorem lw_row0 : (lw_flat.drop 111).take 127 = (List.range 127).map (fun j => Cond.eq (.elem (lw_val 0) (.int (Int32.ofNat j))) (.int (fq_wordsB.getD j 0))) := by decide +kernel
theorem lw_bytes0 : ∀ j : Nat, j < 127 → Cond.eq (.elem (lw_val 0) (.int (Int32.ofNat j))) (.int (fq_wordsB.getD j 0)) ∈ lw_flat := by
  intro j hj
  have hm : Cond.eq (.elem (lw_val 0) (.int (Int32.ofNat j))) (.int (fq_wordsB.getD j 0)) ∈ (List.range 127).map (fun j => Cond.eq (.elem (lw_val 0) (.int (Int32.ofNat j))) (.int (fq_wordsB.getD j 0))) := List.mem_map.mpr ⟨j, List.mem_range.mpr hj, rfl⟩
  rw [← lw_row0] at hm
  exact List.mem_of_mem_drop (List.mem_of_mem_take hm)
theorem lw_row1 : (lw_flat.drop 242).take 128 = (List.range 128).map (fun j => Cond.eq (.elem (lw_val 1) (.int (Int32.ofNat j))) (.int (fq_keysB.getD j 0))) := by decide +kernel
theorem lw_bytes1 : ∀ j : Nat, j < 128 → Cond.eq (.elem (lw_val 1) (.int (Int32.ofNat j))) (.int (fq_keysB.getD j 0)) ∈ lw_flat := by
  intro j hj
  have hm : Cond.eq (.elem (lw_val 1) (.int (Int32.ofNat j))) (.int (fq_keysB.getD j 0)) ∈ (List.range 128).map (fun j => Cond.eq (.elem (lw_val 1) (.int (Int32.ofNat j))) (.int (fq_keysB.getD j 0))) := List.mem_map.mpr ⟨j, List.mem_range.mpr hj, rfl⟩
  rw [← lw_row1] at hm
  exact List.mem_of_mem_drop (List.mem_of_mem_take hm)
theorem lw_strs {s : State} {args : Array Value} (hf : ∀ w ∈ lw_flat, w.before args s = true) {A : Nat → Prop} (hA : ∀ a : Nat, a < s.heap.size → ¬ A a) : ∃ adK adV : Nat → Nat, vk_S 2 fq_sl fq_sb adK adV A s s.heap ∧ ∀ i : Nat, i < 2 → (lw_tm i).eval args s none [] s = some (.ref (adK i)) := by
  refine vk_Sof (tm := lw_tm) (fun i hi => ?_) (fun i hi => ?_) (fun i hi => ?_) (fun i hi => ?_) (fun i hi => ?_) (fun i hi => ?_) (fun i j hi hj hij => ?_) hA
  · rcases (show i = 0 ∨ i = 1 by omega) with rfl | rfl <;> decide
  · rcases (show i = 0 ∨ i = 1 by omega) with rfl | rfl
    · exact hf (.exactly (lw_tm 0) "java/lang/String") (by decide +kernel)
    · exact hf (.exactly (lw_tm 1) "java/lang/String") (by decide +kernel)
  · rcases (show i = 0 ∨ i = 1 by omega) with rfl | rfl
    · exact hf (.eq (.field (lw_tm 0) "java/lang/String" "coder" "B") (.int 0)) (by decide +kernel)
    · exact hf (.eq (.field (lw_tm 1) "java/lang/String" "coder" "B") (.int 0)) (by decide +kernel)
  · rcases (show i = 0 ∨ i = 1 by omega) with rfl | rfl
    · exact hf (.arrayOf (lw_val 0) .byte) (by decide +kernel)
    · exact hf (.arrayOf (lw_val 1) .byte) (by decide +kernel)
  · rcases (show i = 0 ∨ i = 1 by omega) with rfl | rfl
    · exact hf (.eq (.length (lw_val 0)) (.int (Int32.ofNat 127))) (by decide +kernel)
    · exact hf (.eq (.length (lw_val 1)) (.int (Int32.ofNat 128))) (by decide +kernel)
  · rcases (show i = 0 ∨ i = 1 by omega) with rfl | rfl
    · exact fun j hj => hf _ (lw_bytes0 j hj)
    · exact fun j hj => hf _ (lw_bytes1 j hj)
  · rcases (show (i = 0 ∧ j = 1) ∨ (i = 1 ∧ j = 0) by omega) with ⟨rfl, rfl⟩ | ⟨rfl, rfl⟩
    · exact Or.inl (hf (.not (.eq (lw_tm 0) (lw_tm 1))) (by decide +kernel))
    · exact Or.inr (hf (.not (.eq (lw_tm 0) (lw_tm 1))) (by decide +kernel))
theorem lw_G {s : State} {args : Array Value} (hts : ∀ w ∈ lw_tbl, w.before args s = true) (hg : (Jvm.Cond.and given_1 narrow_1).before args s = true) : ∃ G : GT, fq_K G s ∧ fq_O G (fun q => s.heap.size ≤ q) s s.heap ∧ fq_R G s := by
  have hf : ∀ w ∈ lw_flat, w.before args s = true := flat_of_before _ hg
  have hA : ∀ a : Nat, a < s.heap.size → ¬ (s.heap.size ≤ a) := fun a h => Nat.not_le.mpr h
  obtain ⟨D, hD⟩ := lw_classes hts
  obtain ⟨g, hg⟩ := lw_arrays hts
  obtain ⟨t0, z0, w0⟩ := lw_tab hf hts (A := fun q => s.heap.size ≤ q) hA 0 (by omega)
  obtain ⟨t1, z1, w1⟩ := lw_tab hf hts (A := fun q => s.heap.size ≤ q) hA 1 (by omega)
  obtain ⟨t2, z2, w2⟩ := lw_tab hf hts (A := fun q => s.heap.size ≤ q) hA 2 (by omega)
  obtain ⟨t3, z3, w3⟩ := lw_tab hf hts (A := fun q => s.heap.size ≤ q) hA 3 (by omega)
  obtain ⟨adK, adV, hS, hE⟩ := lw_strs hf (A := fun q => s.heap.size ≤ q) hA
  refine ⟨(D.1, D.2, g, fun j => match j with | 0 => t0 | 1 => t1 | 2 => t2 | 3 => t3 | 4 => adK 0 | 5 => adK 1 | 6 => adV 0 | _ => adV 1), ⟨hD, fun k q hq => ?_⟩, ⟨fun j hj => ?_, ⟨fun i hi => ?_, fun i j hi hj e => ?_⟩, ?_, ?_⟩, ?_, ?_, ?_, ?_, ?_⟩
  · match k, hq with
    | 0, hq => cases hq; exact hg 13 (by omega) (by omega)
    | 1, hq => cases hq; exact hg 14 (by omega) (by omega)
    | 2, hq => cases hq; exact hg 15 (by omega) (by omega)
    | 3, hq => cases hq; exact hg 16 (by omega) (by omega)
    | 4, hq => cases hq; exact hg 17 (by omega) (by omega)
    | 5, hq => cases hq; exact hg 18 (by omega) (by omega)
    | 6, hq => cases hq; exact hg 19 (by omega) (by omega)
    | 7, hq => cases hq; exact hg 20 (by omega) (by omega)
    | n + 8, hq => simp [fq_tys] at hq
  · rcases (show j = 0 ∨ j = 1 ∨ j = 2 ∨ j = 3 by omega) with rfl | rfl | rfl | rfl
    · exact ⟨z0, w0⟩
    · exact ⟨z1, w1⟩
    · exact ⟨z2, w2⟩
    · exact ⟨z3, w3⟩
  · rcases (show i = 0 ∨ i = 1 by omega) with rfl | rfl
    · exact hS.1 0 (by omega)
    · exact hS.1 1 (by omega)
  · rcases (show i = 0 ∨ i = 1 by omega) with rfl | rfl <;> rcases (show j = 0 ∨ j = 1 by omega) with rfl | rfl
    · rfl
    · exact hS.2 0 1 (by omega) (by omega) e
    · exact hS.2 1 0 (by omega) (by omega) e
    · rfl
  · exact va_Zof (hts _ (lt_1 (List.mem_of_getElem? (i := 66) rfl))) (hts _ (lt_1 (List.mem_of_getElem? (i := 4) rfl))) (va_eqi (hf (.eq (.static "java/lang/String" "COMPACT_STRINGS" "Z") (.int 1)) (by decide +kernel))) hA
  · exact va_Zqof (hts _ (lt_1 (List.mem_of_getElem? (i := 82) rfl))) (hts _ (lt_1 (List.mem_of_getElem? (i := 6) rfl))) (hf (.isRef (.static "jdk/internal/util/Preconditions" "SIOOBE_FORMATTER" "Ljava/util/function/BiFunction;")) (by decide +kernel)) hA
  · exact vk_R.of (hts _ (lt_1 (List.mem_of_getElem? (i := 56) rfl))) (hE 0 (by omega))
  · exact vk_R.of (hts _ (lt_7 (List.mem_of_getElem? (i := 136) rfl))) (hE 1 (by omega))
  · exact List.forall_mem_cons.mpr ⟨va_Nw.of rfl (hts _ (lt_1 (List.mem_of_getElem? (i := 32) rfl))), List.forall_mem_cons.mpr ⟨va_Nw.of rfl (hts _ (lt_1 (List.mem_of_getElem? (i := 165) rfl))), List.forall_mem_cons.mpr ⟨va_Nw.of rfl (hts _ (lt_1 (List.mem_of_getElem? (i := 223) rfl))), List.forall_mem_cons.mpr ⟨va_Nw.of rfl (hts _ (lt_1 (List.mem_of_getElem? (i := 229) rfl))), List.forall_mem_cons.mpr ⟨va_Nw.of rfl (hts _ (lt_2 (List.mem_of_getElem? (i := 57) rfl))), List.forall_mem_cons.mpr ⟨va_Nw.of rfl (hts _ (lt_2 (List.mem_of_getElem? (i := 82) rfl))), List.forall_mem_cons.mpr ⟨va_Nw.of rfl (hts _ (lt_2 (List.mem_of_getElem? (i := 84) rfl))), List.forall_mem_cons.mpr ⟨va_Nw.of rfl (hts _ (lt_2 (List.mem_of_getElem? (i := 215) rfl))), List.forall_mem_cons.mpr ⟨va_Nw.of rfl (hts _ (lt_3 (List.mem_of_getElem? (i := 226) rfl))), fun _ h => absurd h List.not_mem_nil⟩⟩⟩⟩⟩⟩⟩⟩⟩
  · exact List.forall_mem_cons.mpr ⟨va_Nw.of rfl (hts _ (lt_4 (List.mem_of_getElem? (i := 47) rfl))), List.forall_mem_cons.mpr ⟨va_Nw.of rfl (hts _ (lt_4 (List.mem_of_getElem? (i := 49) rfl))), fun _ h => absurd h List.not_mem_nil⟩⟩
  · exact List.forall_mem_cons.mpr ⟨va_AO.of (hts _ (lt_1 (List.mem_of_getElem? (i := 30) rfl))), List.forall_mem_cons.mpr ⟨va_AO.of (hts _ (lt_1 (List.mem_of_getElem? (i := 151) rfl))), List.forall_mem_cons.mpr ⟨va_AO.of (hts _ (lt_1 (List.mem_of_getElem? (i := 158) rfl))), List.forall_mem_cons.mpr ⟨va_AO.of (hts _ (lt_1 (List.mem_of_getElem? (i := 160) rfl))), List.forall_mem_cons.mpr ⟨va_AO.of (hts _ (lt_1 (List.mem_of_getElem? (i := 162) rfl))), fun _ h => absurd h List.not_mem_nil⟩⟩⟩⟩⟩
/-- from the entry, for every script, the law comes to its end with true -/
theorem whole_start {p : Program} {e : Env} {s : State} {m : MethodId} {below : List Frame} {meth : Method} {c : Code} (l : Launch) {b L : Nat} {xs : Nat → Int32} (hL : L ≤ 3072) (C0 : lw_At p s m meth c b L xs) : W p l e room_1 s m #[Value.ref b] below meth c s.heap [] 0 0 (lw_Z below #[Value.ref b] s) (entryFrame m ([Value.ref b] : List Value).toArray 4) := by
  obtain ⟨hx, hcode, hret, hml, hown, hts, hX, hbl, hlocks, hg⟩ := C0
  obtain ⟨G, hK, hO, hR⟩ := lw_G hts hg
  have hl := lv_entry [Value.ref b] (n := 4) (Nat.le_of_ble_eq_true rfl)
  rw [lg_entry_eq]
  generalize (lg_sl [Value.ref b] ++ List.replicate (4 - (lg_sl [Value.ref b]).length) Slot.unset).toArray = lsA at hl ⊢
  refine lw_begin (l := l) (G := G) (nm := meth.name) (sb := b) (sL := L) (sx := xs) (z := s.heap.size) hL p e s m below meth c s.heap [] lsA (fun q => s.heap.size ≤ q) ⟨hx, hcode, hret, hml, hown, fun w hw => hts w (List.mem_filter.mp hw).1, hlocks, rfl, fun q h => h, hK, hO, hR⟩ ⟨hX, hbl, Nat.not_le.mpr hbl, fun q h => h⟩ ⟨rfl, fun a h => absurd (show (21 : Nat) < 21 from h) (by decide)⟩ (fun a h => absurd (show (21 : Nat) < 21 from h) (by decide)) va_S.rf ⟨hl.1, hl.2.1, fun i v hi => ?_⟩
  match i, hi with
  | 0, hi => cases hi; exact hl.2.2 (0, .ref b) (List.mem_cons_self ..)
  | 1, hi => cases hi
  | 2, hi => cases hi
  | 3, hi => cases hi
  | n + 4, hi => simp at hi
