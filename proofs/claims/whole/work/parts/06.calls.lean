/-! a method's entry, calls, makings -/
theorem fq_ofW {l : Launch} {y : MethodName} {ws ws' : List Cond} {rm : Room} {Pc : Array Value → State → Prop} {Qc : Array Value → State → Outcome → State → Prop} {mc ms : Nat} {free : Addr → Prop} {cc : ByteArray} {maxL : Nat} {ret : Option FieldType}
    (hy : plainFor y = true) (hw : ws = Cond.code y cc maxL ret :: ws')
    (body : ∀ p e s m args below meth c s₁, BodyLoose p l y (headSpec ws rm) cc maxL ret e s m args below meth c s₁ → c.maxLocals = maxL → Pc args s →
      W p l e (headSpec ws rm).room s m args below meth c s.heap [] 0 0 (MQ below Qc args s mc ms free) (entryFrame m args maxL)) : Met l y ws rm Pc Qc mc ms free := by
  refine MetFree.of_bodySF (code := cc) (maxLocals := maxL) (ret := ret) hy ?_ ?_
  · intro args s m h hn
    obtain ⟨meth, c, h1, h2, h3, h4, h5, h6, -, -⟩ := Cond.code_spec hn (atoms_spec (ws := ws) h _ (by rw [hw]; exact List.mem_cons_self))
    exact ⟨meth, c, h1, h2, h3, h4, h5, h6⟩
  · intro p e s m args below meth c s₁ B hml hP _
    have hh0 : s₁.heap = s.heap := by rw [B.state]; rfl
    obtain ⟨t, a1, o, b1, b2, b3⟩ := body p e s m args below meth c s₁ B hml hP s₁ hh0 (Stand.of_body B)
    exact ⟨t, o, a1, b1, b2, ⟨b3.1, b3.2⟩⟩
theorem fq_enter {l : Launch} {G : GT} {M : MT} {D mc ms : Nat} {Q : Post} {args : List Value} {S : Sh} {I : IH} {J : JH} {z : Nat} (ls : List (Option Value)) (hpl : plainFor M.1 = true) (hmx : (lg_sl args).length ≤ M.2.2.1) (hls : fq_pr ls = lv_args 0 args) (h : fqAt l G M D mc ms Q 0 ls [] S I J z 0 0) : fqCall l G M D mc ms args S I J z Q := by
  refine fq_ofW (cc := M.2.1) (maxL := M.2.2.1) (ret := M.2.2.2) hpl rfl ?_
  intro p e s m args' below meth c s₁ B hml hv
  obtain ⟨rfl, hW, hK, hO, hR⟩ := hv
  have hts := atoms_spec (ws := fq_ws M) B.pre
  have hown : s.vm.findClass M.1.cls = some m.cls := findClass_of_methodNamed B.named
  have hname : meth.name = M.1.name := (name_of_methodNamed B.named B.method).1
  have hl := lv_entry args (n := M.2.2.1) hmx
  rw [lg_entry_eq]
  generalize (lg_sl args ++ List.replicate (M.2.2.1 - (lg_sl args).length) Slot.unset).toArray = lsA at hl ⊢
  exact h p e s m _ below meth c s.heap [] lsA (fun q => S.1 q < 21 ∨ z ≤ q) ⟨B.exec, B.bytes, B.returns, hml, hown, fun w hw => hts w (List.mem_cons_of_mem _ hw), B.notSynchronized, hname, fun q hq => Or.inr (by have := hW.1; omega), hK, hO, hR⟩ hW (fun a ha => Or.inl ha) va_S.rf ⟨hl.1, hl.2.1, fun i v hi => hl.2.2 (i, v) (by rw [← hls]; exact fq_pr_mem.mpr hi)⟩
def popN : Nat → List Value → List Value → Option (List Value × List Value)
  | 0, acc, st => some (acc, st)
  | n + 1, acc, v :: st => popN n (v :: acc) st
  | _ + 1, _, [] => none
theorem popN_spec : ∀ {n : Nat} {acc st as st' : List Value}, popN n acc st = some (as, st') → ∃ xs : List Value, xs.length = n ∧ as = xs.reverse ++ acc ∧ st = xs ++ st'
  | 0, acc, st, as, st', h => by simp [popN] at h; exact ⟨[], rfl, by simp [h.1], by simp [h.2]⟩
  | n + 1, acc, v :: st, as, st', h => by
    obtain ⟨xs, h1, h2, h3⟩ := popN_spec (n := n) (acc := v :: acc) (by simpa [popN] using h)
    exact ⟨v :: xs, by simp [h1], by simp [h2], by simp [h3]⟩
  | n + 1, acc, [], as, st', h => by simp [popN] at h
theorem cat_le : ∀ (st : List Value), (st.map fun v => v.category).sum ≤ 2 * st.length
  | [] => by simp
  | v :: st => by
    have := cat_le st
    have h2 : v.category ≤ 2 := by rcases lv_cat v with h | h <;> omega
    simp
    omega
theorem cat_i (x : Int32) : (Value.int x).category = 1 := rfl
theorem cat_l (x : Int64) : (Value.long x).category = 2 := rfl
theorem cat_r (x : Nat) : (Value.ref x).category = 1 := rfl
/-- what the tables say of a method that is called -/
def fq_cf (M : MT) (na : Nat) : Prop := Cond.initialized M.1.cls ∈ fq_all ∧ Cond.code M.1 M.2.1 M.2.2.1 M.2.2.2 ∈ fq_all ∧ (M.1.cls ≠ "java/lang/invoke/MethodHandle" ∧ M.1.cls ≠ "java/lang/invoke/VarHandle" ∧ (parseMethodDescriptor M.1.desc).map (fun d => d.parameters.length) = some na) ∧ M.2.2.1 ≤ 45
section FQC
variable {l : Launch} {G : GT} {M : MT} {D mc ms mc' ms' : Nat} {Q Q' : Post} {pc : Nat} {p : Program} {e : Env} {s : State} {m : MethodId} {args : Array Value} {below : List Frame} {meth : Method} {c : Code} {H : Heap} {locs : List Loc} {lsA : Array Slot} {A : Nat → Prop} {S : Sh} {I : IH} {J : JH} {z k n : Nat} {st : List Value} {R : Room} {QQ : State → Prop}
theorem fq_AA (hC : fq_Cx G M p s m args meth c A) (hW : fq_W G S I J z H) (hA : ∀ a, S.1 a < 21 → A a) (hS : va_S A s.heap H locs) : ∀ q, (S.1 q < 21 ∨ z ≤ q) → A q := by
  intro q hq
  rcases hq with h | h
  · exact hA q h
  · exact hC.2.2.2.2.2.2.2.2.1 q (by have := hW.1; have := hS.1; omega)
theorem fq_behind {st0 rest : List Value} {As : Array Value} (hC : fq_Cx G M p s m args meth c A) (hW : fq_W G S I J z H) (hA : ∀ a, S.1 a < 21 → A a) (hS : va_S A s.heap H locs)
    (hr : va_Run p l e R s m args below meth c H locs k n mc' ms' (F0 m pc lsA st0) rest (fq_Qc G Q' (fun q => S.1 q < 21 ∨ z ≤ q) As) (fun q => S.1 q < 21 ∨ z ≤ q))
    (kk : ∀ (r : Option Value) (S1 : Sh) (I1 : IH) (J1 : JH) (z1 : Nat) (H1 : Heap) (locs1 : List Loc), Q' r S1 I1 J1 z1 → fq_W G S1 I1 J1 z1 H1 → (∀ a, S1.1 a < 21 → A a) → va_S A s.heap H1 locs1 → W p l e R s m args below meth c H1 locs1 (k + mc') (n + ms') QQ (F0 m (pc + 3) lsA (r.toList ++ rest))) : W p l e R s m args below meth c H locs k n QQ (F0 m pc lsA st0) := by
  have hAA := fq_AA hC hW hA hS
  intro T hT X
  obtain ⟨v, st₀, t, T', L, h0, X', hL, e1, e2, ⟨⟨r, S1, I1, J1, z1, hv, hq, hw, ha⟩, hz, hkp⟩, stt⟩ := hr T hT X
  cases hv
  rw [h0] at hz hkp
  obtain ⟨t2, a1, b1⟩ := kk v S1 I1 J1 z1 T'.heap (locs ++ L) hq (by rw [e1]; exact hw) (fun a h => hAA a (ha a h))
    ⟨Nat.le_trans hS.1 (by rw [e1]; exact hz), fun q h1 h2 => by rw [e1, hkp q (Nat.lt_of_lt_of_le h1 hS.1) (fun z => h2 (hAA q z))]; exact hS.2.1 q h1 h2, fun q hq => by
      rcases List.mem_append.mp hq with h | h
      · exact hS.2.2 q h
      · exact hAA _ (hL q h)⟩ T' rfl X'
  exact ⟨t2, stt t2 a1, b1⟩
theorem fq_blind {as : List Value} : FrameBlind (va_Pc as (fun U => fq_W G S I J z U.heap ∧ fq_K G U ∧ fq_O G (fun q => S.1 q < 21 ∨ z ≤ q) U U.heap ∧ fq_R G U)) := by
  intro a U g mk h
  obtain ⟨h1, h2, h3, h4, h5⟩ := h
  exact ⟨h1, h2, va_K.moved (u := U) (U := U.calling g mk a) (Vm.Alike.refl U.vm) h3, fq_O.moved (u := U) (U := U.calling g mk a) (Vm.Alike.refl U.vm) h4, fq_R.same (s := U) (U := U.calling g mk a) rfl h5⟩
theorem fq_preS {as : List Value} (hC : fq_Cx G M p s m args meth c A) (hW : fq_W G S I J z H) (hA : ∀ a, S.1 a < 21 → A a) (hS : va_S A s.heap H locs) : PreS s H (va_Pc as (fun U => fq_W G S I J z U.heap ∧ fq_K G U ∧ fq_O G (fun q => S.1 q < 21 ∨ z ≤ q) U U.heap ∧ fq_R G U)) as := by
  refine ⟨fq_blind, fun U hU hWm => ⟨rfl, by rw [hU]; exact hW, va_K.moved hWm.alike hC.2.2.2.2.2.2.2.2.2.1, ?_, fq_R.warm hWm hC.2.2.2.2.2.2.2.2.2.2.2⟩⟩
  rw [hU]
  exact fq_O.moved hWm.alike ((hC.2.2.2.2.2.2.2.2.2.2.1.kept hS.2.1).narrow (fq_AA hC hW hA hS))
theorem fq_cB {M' : MT} {own : String} {na idx : Nat} (hcf : fq_cf M' na) (hts : ∀ w ∈ fq_all, w.before args s = true) (hl : Cond.methodLink own idx M'.1 ∈ fq_all) : CallB (rmL (D + 1) mc ms) s args own idx M'.1 M'.2.1 M'.2.2.1 M'.2.2.2 (fq_ws M') (rmL D mc' ms') mc' ms' na := by
  refine callB_of (ws' := fq_all) (Ts := fq_all) na hts (fun w hw => ?_) rfl rfl rfl (hts _ hcf.1) (hts _ hl) hcf.2.2.1 ⟨Nat.le_refl _, ?_⟩
  · rcases List.mem_cons.mp hw with h | h
    · rw [h]; exact fq_all_good _ hcf.2.1
    · exact fq_all_good _ h
  · show 8 + (M'.2.2.1 + 11) + 64 * D ≤ 64 * (D + 1)
    have := hcf.2.2.2
    omega
end FQC
def ix_vcall (ci na mc' ms' mc ms : Nat) (sp : Sp) (K : Cn) : Cn := fun ls st S I J z k n => match popN na [] st with
  | some (.ref b :: as, st') => (st'.map fun v => v.category).sum ≤ 8 ∧ S.1 b = ci ∧ k + mc' ≤ mc ∧ n + ms' ≤ ms ∧ sp (.ref b :: as) S I J z (fun r S1 I1 J1 z1 => K ls (r.toList ++ st') S1 I1 J1 z1 (k + mc') (n + ms'))
  | _ => False
theorem sx_vcall {l : Launch} {G : GT} {M : MT} {D mc ms : Nat} {Q : Post} {pc : Nat} {K : Cn} {idx ci na mc' ms' : Nat} {M' : MT} {sp : Sp} (d : decode M.2.1 pc = .ok (.invokevirtual idx, 3)) (hcf : fq_cf M' na) (hl : Cond.methodLink M.1.cls idx M'.1 ∈ fq_all) (hi : Cond.instanceMethod M'.1 ∈ fq_all) (hs : Cond.selects M'.1.cls M'.1 M'.1 ∈ fq_all) {T : u_T} {N : Nat} (hcl : vwCl[ci]? = some (M'.1.cls, T, N)) (hsp : ∀ as S I J z Q, sp as S I J z Q → fqCall l G M' D mc' ms' as S I J z Q) (h : Imp l G M (D + 1) mc ms Q K (pc + 3)) : Imp l G M (D + 1) mc ms Q (ix_vcall ci (na + 1) mc' ms' mc ms sp K) pc := by
  intro ls st S I J z k n hk p e s m args below meth c H locs lsA A hC hW hA hS hL
  unfold ix_vcall at hk
  split at hk
  · next b as st' hp =>
    obtain ⟨h1, h2, h3, h4, h5⟩ := hk
    obtain ⟨xs, g1, g2, g3⟩ := popN_spec hp
    have hci : ci < 13 := by
      have := (List.getElem?_eq_some_iff.mp hcl).1
      simpa using this
    have hat := hW.2 b (by omega)
    rw [fq_E_obj h2 hci] at hat
    have hst : st = as.reverse ++ .ref b :: st' := by
      have : xs = (Value.ref b :: as).reverse := by rw [g2]; simp
      rw [g3, this]; simp
    have hlen : as.length = na := by
      have : (Value.ref b :: as).length = na + 1 := by rw [g2]; simp [g1]
      simpa using this
    have hK := hC.2.2.2.2.2.2.2.2.2.1
    refine fq_behind hC hW hA hS (va_runV (As := as) (rest := st') ⟨hC.1, hC.2.1, hC.2.2.2.1, hC.2.2.2.2.1, hC.2.2.2.2.2.1⟩ (hsp _ _ _ _ _ _ h5) ⟨fq_cB hcf hC.2.2.2.2.2.1 hl, hC.2.2.2.2.2.1 _ hi, hC.2.2.2.2.2.1 _ hs⟩ ⟨fq_blind, va_recv hK (va_P1 hat) (q0 := 0) hcl rfl, (fq_preS hC hW hA hS).2⟩ rfl hlen hL.1 hst (lv_room h1) d ⟨h3, h4⟩) ?_
    intro r S1 I1 J1 z1 H1 locs1 q1 q2 q3 q4
    exact h _ _ _ _ _ _ _ _ q1 p e s m args below meth c H1 locs1 lsA A hC q2 q3 q4 hL
  · exact hk.elim
def ix_call (na mc' ms' mc ms : Nat) (sp : Sp) (K : Cn) : Cn := fun ls st S I J z k n => match popN na [] st with
  | some (as, st') => (st'.map fun v => v.category).sum ≤ 8 ∧ k + mc' ≤ mc ∧ n + ms' ≤ ms ∧ sp as S I J z (fun r S1 I1 J1 z1 => K ls (r.toList ++ st') S1 I1 J1 z1 (k + mc') (n + ms'))
  | _ => False
theorem sx_scall {l : Launch} {G : GT} {M : MT} {D mc ms : Nat} {Q : Post} {pc : Nat} {K : Cn} {idx na mc' ms' : Nat} {M' : MT} {sp : Sp} (d : decode M.2.1 pc = .ok (.invokestatic idx, 3)) (hcf : fq_cf M' na) (hl : Cond.methodLink M.1.cls idx M'.1 ∈ fq_all) (hs : Cond.static M'.1 ∈ fq_all) (hsp : ∀ as S I J z Q, sp as S I J z Q → fqCall l G M' D mc' ms' as S I J z Q) (h : Imp l G M (D + 1) mc ms Q K (pc + 3)) : Imp l G M (D + 1) mc ms Q (ix_call na mc' ms' mc ms sp K) pc := by
  intro ls st S I J z k n hk p e s m args below meth c H locs lsA A hC hW hA hS hL
  unfold ix_call at hk
  split at hk
  · next as st' hp =>
    obtain ⟨h1, h3, h4, h5⟩ := hk
    obtain ⟨xs, g1, g2, g3⟩ := popN_spec hp
    have hst : st = as.reverse ++ st' := by rw [g3, g2]; simp
    have hlen : as.length = na := by rw [g2]; simp [g1]
    refine fq_behind hC hW hA hS (va_runS (As := as) (rest := st') ⟨hC.1, hC.2.1, hC.2.2.2.1, hC.2.2.2.2.1, hC.2.2.2.2.2.1⟩ (hsp _ _ _ _ _ _ h5) ⟨fq_cB hcf hC.2.2.2.2.2.1 hl, hC.2.2.2.2.2.1 _ hs⟩ (fq_preS hC hW hA hS) rfl hlen hL.1 hst (lv_room h1) d ⟨h3, h4⟩) ?_
    intro r S1 I1 J1 z1 H1 locs1 q1 q2 q3 q4
    exact h _ _ _ _ _ _ _ _ q1 p e s m args below meth c H1 locs1 lsA A hC q2 q3 q4 hL
  · exact hk.elim
def ix_icall (na mc' ms' mc ms : Nat) (sp : Sp) (K : Cn) : Cn := fun ls st S I J z k n => match popN na [] st with
  | some (.ref b :: as, st') => (st'.map fun v => v.category).sum ≤ 8 ∧ k + mc' ≤ mc ∧ n + ms' ≤ ms ∧ sp (.ref b :: as) S I J z (fun r S1 I1 J1 z1 => K ls (r.toList ++ st') S1 I1 J1 z1 (k + mc') (n + ms'))
  | _ => False
theorem sx_icall {l : Launch} {G : GT} {M : MT} {D mc ms : Nat} {Q : Post} {pc : Nat} {K : Cn} {idx na mc' ms' : Nat} {y : MethodName} {by' : ByteArray} {nl : Nat} {sp : Sp} (d : decode M.2.1 pc = .ok (.invokespecial idx, 3)) (hcf : fq_cf (y, by', nl, none) na) (hl : Cond.methodLink M.1.cls idx y ∈ fq_all) (hi : Cond.instanceMethod y ∈ fq_all) (hy : y.name = "<init>") (hsp : ∀ as S I J z Q, sp as S I J z Q → fqCall l G (y, by', nl, none) D mc' ms' as S I J z Q) (h : Imp l G M (D + 1) mc ms Q K (pc + 3)) : Imp l G M (D + 1) mc ms Q (ix_icall (na + 1) mc' ms' mc ms sp K) pc := by
  intro ls st S I J z k n hk p e s m args below meth c H locs lsA A hC hW hA hS hL
  unfold ix_icall at hk
  split at hk
  · next b as st' hp =>
    obtain ⟨h1, h3, h4, h5⟩ := hk
    obtain ⟨xs, g1, g2, g3⟩ := popN_spec hp
    have hst : st = as.reverse ++ .ref b :: st' := by
      have : xs = (Value.ref b :: as).reverse := by rw [g2]; simp
      rw [g3, this]; simp
    have hlen : as.length = na := by
      have : (Value.ref b :: as).length = na + 1 := by rw [g2]; simp [g1]
      simpa using this
    refine fq_behind hC hW hA hS (va_runI (As := as) (rest := st') ⟨hC.1, hC.2.1, hC.2.2.2.1, hC.2.2.2.2.1, hC.2.2.2.2.2.1⟩ (hsp _ _ _ _ _ _ h5) ⟨fq_cB hcf hC.2.2.2.2.2.1 hl, hy, hC.2.2.2.2.2.1 _ hi⟩ (fq_preS hC hW hA hS) rfl hlen hL.1 hst (lv_room h1) d ⟨h3, h4⟩) ?_
    intro r S1 I1 J1 z1 H1 locs1 q1 q2 q3 q4
    exact h _ _ _ _ _ _ _ _ q1 p e s m args below meth c H1 locs1 lsA A hC q2 q3 q4 hL
  · exact hk.elim
theorem fq_cN {M : MT} {G : GT} {D mc ms mc' ms' : Nat} {s : State} {args : Array Value} {M' : MT} {own : String} {na idx : Nat} (hcf : fq_cf M' na) (hts : ∀ w ∈ fq_all, w.before args s = true) (hR : fq_R G s) (hl : (own, idx, M'.1) ∈ fq_nm) : va_CN (rmL (D + 1) mc ms) s args own idx M'.1 "FootQuarrel" M'.2.1 M'.2.2.1 M'.2.2.2 (fq_ws M') (rmL D mc' ms') mc' ms' na := by
  refine va_cnB (ws' := fq_all) (Ts := fq_all) na hts (fun w hw => ?_) rfl rfl rfl (hR.2.2.1 _ hl) (hts _ hcf.1) hcf.2.2.1 ⟨Nat.le_refl _, ?_⟩
  · rcases List.mem_cons.mp hw with h | h
    · rw [h]; exact fq_all_good _ hcf.2.1
    · exact fq_all_good _ h
  · show 8 + (M'.2.2.1 + 11) + 64 * D ≤ 64 * (D + 1)
    have := hcf.2.2.2
    omega
theorem sx_icallN {l : Launch} {G : GT} {M : MT} {D mc ms : Nat} {Q : Post} {pc : Nat} {K : Cn} {idx na mc' ms' : Nat} {y : MethodName} {by' : ByteArray} {nl : Nat} {sp : Sp} (d : decode M.2.1 pc = .ok (.invokespecial idx, 3)) (hcf : fq_cf (y, by', nl, none) na) (hl : (M.1.cls, idx, y) ∈ fq_nm) (hi : Cond.instanceMethod y ∈ fq_all) (hy : y.name = "<init>") (hsp : ∀ as S I J z Q, sp as S I J z Q → fqCall l G (y, by', nl, none) D mc' ms' as S I J z Q) (h : Imp l G M (D + 1) mc ms Q K (pc + 3)) : Imp l G M (D + 1) mc ms Q (ix_icall (na + 1) mc' ms' mc ms sp K) pc := by
  intro ls st S I J z k n hk p e s m args below meth c H locs lsA A hC hW hA hS hL
  unfold ix_icall at hk
  split at hk
  · next b as st' hp =>
    obtain ⟨h1, h3, h4, h5⟩ := hk
    obtain ⟨xs, g1, g2, g3⟩ := popN_spec hp
    have hst : st = as.reverse ++ .ref b :: st' := by
      have : xs = (Value.ref b :: as).reverse := by rw [g2]; simp
      rw [g3, this]; simp
    have hlen : as.length = na := by
      have : (Value.ref b :: as).length = na + 1 := by rw [g2]; simp [g1]
      simpa using this
    refine fq_behind hC hW hA hS (va_runIN (As := as) (rest := st') ⟨hC.1, hC.2.1, hC.2.2.2.1, hC.2.2.2.2.1, hC.2.2.2.2.2.1⟩ (hsp _ _ _ _ _ _ h5) ⟨fq_cN (M := M) (G := G) hcf hC.2.2.2.2.2.1 hC.2.2.2.2.2.2.2.2.2.2.2 hl, hy, hC.2.2.2.2.2.1 _ hi⟩ (fq_preS hC hW hA hS) rfl hlen hL.1 hst (lv_room h1) d ⟨h3, h4⟩) ?_
    intro r S1 I1 J1 z1 H1 locs1 q1 q2 q3 q4
    exact h _ _ _ _ _ _ _ _ q1 p e s m args below meth c H1 locs1 lsA A hC q2 q3 q4 hL
  · exact hk.elim
theorem sx_scallN {l : Launch} {G : GT} {M : MT} {D mc ms : Nat} {Q : Post} {pc : Nat} {K : Cn} {idx na mc' ms' : Nat} {M' : MT} {sp : Sp} (d : decode M.2.1 pc = .ok (.invokestatic idx, 3)) (hcf : fq_cf M' na) (hl : (M.1.cls, idx, M'.1) ∈ fq_nm) (hs : Cond.static M'.1 ∈ fq_all) (hsp : ∀ as S I J z Q, sp as S I J z Q → fqCall l G M' D mc' ms' as S I J z Q) (h : Imp l G M (D + 1) mc ms Q K (pc + 3)) : Imp l G M (D + 1) mc ms Q (ix_call na mc' ms' mc ms sp K) pc := by
  intro ls st S I J z k n hk p e s m args below meth c H locs lsA A hC hW hA hS hL
  unfold ix_call at hk
  split at hk
  · next as st' hp =>
    obtain ⟨h1, h3, h4, h5⟩ := hk
    obtain ⟨xs, g1, g2, g3⟩ := popN_spec hp
    have hst : st = as.reverse ++ st' := by rw [g3, g2]; simp
    have hlen : as.length = na := by rw [g2]; simp [g1]
    refine fq_behind hC hW hA hS (va_runSN (As := as) (rest := st') ⟨hC.1, hC.2.1, hC.2.2.2.1, hC.2.2.2.2.1, hC.2.2.2.2.2.1⟩ (hsp _ _ _ _ _ _ h5) ⟨fq_cN (M := M) (G := G) hcf hC.2.2.2.2.2.1 hC.2.2.2.2.2.2.2.2.2.2.2 hl, hC.2.2.2.2.2.1 _ hs, trivial⟩ (fq_preS hC hW hA hS) rfl hlen hL.1 hst (lv_room h1) d ⟨h3, h4⟩) ?_
    intro r S1 I1 J1 z1 H1 locs1 q1 q2 q3 q4
    exact h _ _ _ _ _ _ _ _ q1 p e s m args below meth c H1 locs1 lsA A hC q2 q3 q4 hL
  · exact hk.elim
