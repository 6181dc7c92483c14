/-! texts that stand still -/
def ix_dead : Cn := fun _ _ _ _ _ _ _ _ => False
theorem sx_dead {l : Launch} {G : GT} {M : MT} {D mc ms : Nat} {Q : Post} {pc : Nat} : Imp l G M D mc ms Q ix_dead pc := fun _ _ _ _ _ _ _ _ h => h.elim
def ix_nret (ty : FieldType) (mc ms : Nat) (Q : Post) : Cn := fun _ st S I J z k n => match st with
  | [.int v] => narrow ty (.int v) = .int v ∧ k ≤ mc ∧ n ≤ ms ∧ Q (some (.int v)) S I J z
  | _ => False
theorem sx_nret {l : Launch} {G : GT} {M : MT} {D mc ms : Nat} {Q : Post} {pc : Nat} {ty : FieldType} (d : decode M.2.1 pc = .ok (.ireturn, 1)) (hr : M.2.2.2 = some ty) : Imp l G M D mc ms Q (ix_nret ty mc ms Q) pc := by
  intro ls st S I J z k n hk p e s m args below meth c H locs lsA A hC hW hA hS hL
  unfold ix_nret at hk
  split at hk
  · refine W.widen hk.2.1 hk.2.2.1 ?_
    exact W.zret hC.1 hC.2.1 (by rw [hC.2.2.1]; exact hr) hk.1 (fun t ht hWm => ⟨⟨_, S, I, J, z, rfl, hk.2.2.2, by rw [ht]; exact hW, hA⟩, hS.F ht⟩) hS.2.2 d hC.2.2.2.2.2.2.1
  · exact hk.elim
def ix_ldcS (G : GT) (j : Nat) (K : Cn) : Cn := fun ls st S I J z k n => K ls (.ref (G.2.2.2 (4 + j)) :: st) S I J z k n
theorem sx_ldcS {l : Launch} {G : GT} {M : MT} {D mc ms : Nat} {Q : Post} {pc : Nat} {K : Cn} {j : Nat} (a : Nat) (d : decode M.2.1 pc = .ok (.ldc a, 2)) (hj : (M.1.cls = "FootQuarrel$Reader" ∧ a = 19 ∧ j = 0) ∨ (M.1.cls = "FootQuarrelModel" ∧ a = 168 ∧ j = 1)) (h : Imp l G M D mc ms Q K (pc + 2)) : Imp l G M D mc ms Q (ix_ldcS G j K) pc := by
  intro ls st S I J z k n hk p e s m args below meth c H locs lsA A hC hW hA hS hL
  have hR := hC.2.2.2.2.2.2.2.2.2.2.2
  rcases hj with ⟨h1, rfl, rfl⟩ | ⟨h1, rfl, rfl⟩
  · exact va_ldcS hC.1 hC.2.1 hC.2.2.2.2.1 (by rw [h1]; exact hR.1) d (h _ _ _ _ _ _ _ _ hk p e s m args below meth c H locs lsA A hC hW hA hS hL)
  · exact va_ldcS hC.1 hC.2.1 hC.2.2.2.2.1 (by rw [h1]; exact hR.2.1) d (h _ _ _ _ _ _ _ _ hk p e s m args below meth c H locs lsA A hC hW hA hS hL)
def ix_sgetV (G : GT) (K : Cn) : Cn := fun ls st S I J z k n => match st with
  | .ref a :: st => ∃ j, j < 2 ∧ a = G.2.2.2 (4 + j) ∧ K ls (.ref (G.2.2.2 (6 + j)) :: st) S I J z k n
  | _ => False
theorem sx_sgetV {l : Launch} {G : GT} {M : MT} {D mc ms : Nat} {Q : Post} {pc : Nat} {K : Cn} {idx : Nat} (d : decode M.2.1 pc = .ok (.getfield idx, 3)) (hl : Cond.fieldLink M.1.cls idx "java/lang/String" "value" "[B" ∈ fq_all) (h : Imp l G M D mc ms Q K (pc + 3)) : Imp l G M D mc ms Q (ix_sgetV G K) pc := by
  intro ls st S I J z k n hk p e s m args below meth c H locs lsA A hC hW hA hS hL
  unfold ix_sgetV at hk
  split at hk
  · obtain ⟨j, hj, rfl, h3⟩ := hk
    have hO := hC.2.2.2.2.2.2.2.2.2.2.1.2.1
    exact vk_getf hC.1 hC.2.1 (hO.1 j hj).2.2.1 hS hC.2.2.2.2.1 (hC.2.2.2.2.2.1 _ hl) (fun _ h9 => h9) d (h _ _ _ _ _ _ _ _ h3 p e s m args below meth c H locs lsA A hC hW hA hS hL)
  · exact hk.elim
def ix_sgetC (G : GT) (K : Cn) : Cn := fun ls st S I J z k n => match st with
  | .ref a :: st => (∃ j, j < 2 ∧ a = G.2.2.2 (4 + j)) ∧ K ls (.int 0 :: st) S I J z k n
  | _ => False
theorem sx_sgetC {l : Launch} {G : GT} {M : MT} {D mc ms : Nat} {Q : Post} {pc : Nat} {K : Cn} {idx : Nat} (d : decode M.2.1 pc = .ok (.getfield idx, 3)) (hl : Cond.fieldLink M.1.cls idx "java/lang/String" "coder" "B" ∈ fq_all) (h : Imp l G M D mc ms Q K (pc + 3)) : Imp l G M D mc ms Q (ix_sgetC G K) pc := by
  intro ls st S I J z k n hk p e s m args below meth c H locs lsA A hC hW hA hS hL
  unfold ix_sgetC at hk
  split at hk
  · obtain ⟨⟨j, hj, rfl⟩, h3⟩ := hk
    have hO := hC.2.2.2.2.2.2.2.2.2.2.1.2.1
    exact vk_getf hC.1 hC.2.1 (hO.1 j hj).2.1 hS hC.2.2.2.2.1 (hC.2.2.2.2.2.1 _ hl) (fun _ h9 => h9) d (h _ _ _ _ _ _ _ _ h3 p e s m args below meth c H locs lsA A hC hW hA hS hL)
  · exact hk.elim
def ix_slen (G : GT) (K : Cn) : Cn := fun ls st S I J z k n => match st with
  | .ref a :: st => ∃ j, j < 2 ∧ a = G.2.2.2 (6 + j) ∧ K ls (.int (Int32.ofNat (fq_sl.getD j 0)) :: st) S I J z k n
  | _ => False
theorem sx_slen {l : Launch} {G : GT} {M : MT} {D mc ms : Nat} {Q : Post} {pc : Nat} {K : Cn} (d : decode M.2.1 pc = .ok (.arraylength, 1)) (h : Imp l G M D mc ms Q K (pc + 1)) : Imp l G M D mc ms Q (ix_slen G K) pc := by
  intro ls st S I J z k n hk p e s m args below meth c H locs lsA A hC hW hA hS hL
  unfold ix_slen at hk
  split at hk
  · obtain ⟨j, hj, rfl, h3⟩ := hk
    have hO := hC.2.2.2.2.2.2.2.2.2.2.1.2.1
    exact va_tlen hC.1 hC.2.1 (hO.1 j hj).2.2.2 hS rfl d (h _ _ _ _ _ _ _ _ h3 p e s m args below meth c H locs lsA A hC hW hA hS hL)
  · exact hk.elim
def ix_sbald (G : GT) (K : Cn) : Cn := fun ls st S I J z k n => match st with
  | .int i :: .ref a :: st => ∃ j, j < 2 ∧ a = G.2.2.2 (6 + j) ∧ vp_in i (fq_sl.getD j 0) ∧ K ls (.int ((fq_sb.getD j []).getD i.toNatClampNeg 0) :: st) S I J z k n
  | _ => False
theorem sx_sbald {l : Launch} {G : GT} {M : MT} {D mc ms : Nat} {Q : Post} {pc : Nat} {K : Cn} (d : decode M.2.1 pc = .ok (.baload, 1)) (h : Imp l G M D mc ms Q K (pc + 1)) : Imp l G M D mc ms Q (ix_sbald G K) pc := by
  intro ls st S I J z k n hk p e s m args below meth c H locs lsA A hC hW hA hS hL
  unfold ix_sbald at hk
  split at hk
  · obtain ⟨j, hj, rfl, h2, h3⟩ := hk
    have hO := hC.2.2.2.2.2.2.2.2.2.2.1.2.1
    exact va_tb hC.1 hC.2.1 (hO.1 j hj).2.2.2 hS h2 rfl d (h _ _ _ _ _ _ _ _ h3 p e s m args below meth c H locs lsA A hC hW hA hS hL)
  · exact hk.elim
theorem sx_gcs {l : Launch} {G : GT} {M : MT} {D mc ms : Nat} {Q : Post} {pc : Nat} {K : Cn} {idx : Nat} (d : decode M.2.1 pc = .ok (.getstatic idx, 3)) (hl : Cond.fieldLink M.1.cls idx "java/lang/String" "COMPACT_STRINGS" "Z" ∈ fq_all) (h : Imp l G M D mc ms Q K (pc + 3)) : Imp l G M D mc ms Q (ix_pushI 1 K) pc := by
  intro ls st S I J z k n hk p e s m args below meth c H locs lsA A hC hW hA hS hL
  exact va_gets hC.1 hC.2.1 hC.2.2.2.2.2.2.2.2.2.2.1.2.2.1 hS hC.2.2.2.2.1 (hC.2.2.2.2.2.1 _ hl) (fun _ h9 => h9) d (h _ _ _ _ _ _ _ _ hk p e s m args below meth c H locs lsA A hC hW hA hS hL)
def ix_gfm (K : Cn) : Cn := fun ls st S I J z k n => K ls (.null :: st) S I J z k n ∧ ∀ t, K ls (.ref t :: st) S I J z k n
theorem sx_gfm {l : Launch} {G : GT} {M : MT} {D mc ms : Nat} {Q : Post} {pc : Nat} {K : Cn} {idx : Nat} (d : decode M.2.1 pc = .ok (.getstatic idx, 3)) (hl : Cond.fieldLink M.1.cls idx "jdk/internal/util/Preconditions" "SIOOBE_FORMATTER" "Ljava/util/function/BiFunction;" ∈ fq_all) (h : Imp l G M D mc ms Q K (pc + 3)) : Imp l G M D mc ms Q (ix_gfm K) pc := by
  intro ls st S I J z k n hk p e s m args below meth c H locs lsA A hC hW hA hS hL
  rcases hC.2.2.2.2.2.2.2.2.2.2.1.2.2.2 with hz | ⟨t, hz⟩
  · exact va_gets hC.1 hC.2.1 hz hS hC.2.2.2.2.1 (hC.2.2.2.2.2.1 _ hl) (fun _ h9 => h9) d (h _ _ _ _ _ _ _ _ hk.1 p e s m args below meth c H locs lsA A hC hW hA hS hL)
  · exact va_gets hC.1 hC.2.1 hz hS hC.2.2.2.2.1 (hC.2.2.2.2.2.1 _ hl) (fun _ h9 => h9) d (h _ _ _ _ _ _ _ _ (hk.2 t) p e s m args below meth c H locs lsA A hC hW hA hS hL)
def ix_strc (G : GT) (na mc ms : Nat) (sp : Sp) (K : Cn) : Cn := fun ls st S I J z k n => match popN na [] st with
  | some (.ref b :: as, st') => (st'.map fun v => v.category).sum ≤ 8 ∧ (∃ j, j < 2 ∧ b = G.2.2.2 (4 + j)) ∧ k ≤ mc ∧ n ≤ ms ∧ sp (.ref b :: as) S I J z (fun r S1 I1 J1 z1 => K ls (r.toList ++ st') S1 I1 J1 z1 k n)
  | _ => False
theorem sx_strc {l : Launch} {G : GT} {M : MT} {D mc ms : Nat} {Q : Post} {pc : Nat} {K : Cn} {idx na : Nat} {M' : MT} {sp : Sp} (d : decode M.2.1 pc = .ok (.invokevirtual idx, 3)) (hcf : fq_cf M' na) (hl : Cond.methodLink M.1.cls idx M'.1 ∈ fq_all) (hi : Cond.instanceMethod M'.1 ∈ fq_all) (hs : Cond.selects "java/lang/String" M'.1 M'.1 ∈ fq_all) (hsp : ∀ as S I J z Q, sp as S I J z Q → fqCall l G M' D 0 0 as S I J z Q) (h : Imp l G M (D + 1) mc ms Q K (pc + 3)) : Imp l G M (D + 1) mc ms Q (ix_strc G (na + 1) mc ms sp K) pc := by
  intro ls st S I J z k n hk p e s m args below meth c H locs lsA A hC hW hA hS hL
  unfold ix_strc at hk
  split at hk
  · next b as st' hp =>
    obtain ⟨h1, ⟨j, hj, hb⟩, h3, h4, h5⟩ := hk
    obtain ⟨xs, g1, g2, g3⟩ := popN_spec hp
    have hst : st = as.reverse ++ .ref b :: st' := by
      have : xs = (Value.ref b :: as).reverse := by rw [g2]; simp
      rw [g3, this]; simp
    have hlen : as.length = na := by
      have : (Value.ref b :: as).length = na + 1 := by rw [g2]; simp [g1]
      simpa using this
    have hO := hC.2.2.2.2.2.2.2.2.2.2.1.2.1
    have hrc := vk_recv (i := j) hO hj hS
    rw [← hb] at hrc
    refine fq_behind (mc' := 0) (ms' := 0) hC hW hA hS (va_runV (As := as) (rest := st') ⟨hC.1, hC.2.1, hC.2.2.2.1, hC.2.2.2.2.1, hC.2.2.2.2.2.1⟩ (hsp _ _ _ _ _ _ h5) ⟨fq_cB hcf hC.2.2.2.2.2.1 hl, hC.2.2.2.2.2.1 _ hi, hC.2.2.2.2.2.1 _ hs⟩ ⟨fq_blind, hrc, (fq_preS hC hW hA hS).2⟩ rfl hlen hL.1 hst (lv_room h1) d ⟨h3, h4⟩) ?_
    intro r S1 I1 J1 z1 H1 locs1 q1 q2 q3 q4
    exact h _ _ _ _ _ _ _ _ q1 p e s m args below meth c H1 locs1 lsA A hC q2 q3 q4 hL
  · exact hk.elim
