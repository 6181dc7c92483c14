/-! makings, Math, tables -/
def ix_oinit (K : Cn) : Cn := fun ls st S I J z k n => match st with
  | .ref _ :: st => st.length ≤ 4 ∧ K ls st S I J z k n
  | _ => False
theorem sx_oinit {l : Launch} {G : GT} {M : MT} {D mc ms : Nat} {Q : Post} {pc : Nat} {K : Cn} {idx : Nat} (d : decode M.2.1 pc = .ok (.invokespecial idx, 3)) (hl : Cond.methodLink M.1.cls idx Lib.objectInit ∈ fq_all) (hi : Cond.instanceMethod Lib.objectInit ∈ fq_all) (hc : Cond.code Lib.objectInit ⟨#[0xb1]⟩ 1 none ∈ fq_all) (h : Imp l G M (D + 1) mc ms Q K (pc + 3)) : Imp l G M (D + 1) mc ms Q (ix_oinit K) pc := by
  intro ls st S I J z k n hk p e s m args below meth c H locs lsA A hC hW hA hS hL
  unfold ix_oinit at hk
  split at hk
  · next a st =>
    have hts := hC.2.2.2.2.2.1
    refine W.objInit hC.1 hC.2.1 hC.2.2.2.2.1 (hts _ hl) (hts _ hi) (hts _ hc) rfl (by rw [hC.2.2.2.1]; exact hL.1) rfl d (show 1 ≤ D + 1 by omega) ?_ (h _ _ _ _ _ _ _ _ hk.2 p e s m args below meth c H locs lsA A hC hW hA hS hL)
    have h1 := cat_le st
    have h2 : 2 * (F0 m pc lsA (Value.ref a :: st)).monitorRoom + (st.map fun v => v.category).sum ≤ 8 := lv_room (by omega)
    show _ ≤ 64 * (D + 1)
    omega
  · exact hk.elim
def up1 {α : Type} (f : Nat → α) (a : Nat) (v : α) : Nat → α := fun b => if b = a then v else f b
theorem up1_eq {α : Type} {f : Nat → α} {a : Nat} {v : α} : up1 f a v a = v := if_pos rfl
theorem up1_ne {α : Type} {f : Nat → α} {a b : Nat} {v : α} (h : b ≠ a) : up1 f a v b = f b := if_neg h
def ix_new (ci N mc ms : Nat) (K : Cn) : Cn := fun ls st S I J z k n => k + 1 ≤ mc ∧ n + N ≤ ms ∧ K ls (.ref z :: st) (up1 S.1 z ci, S.2.1, up1 S.2.2 z (fun _ => none)) (up1 I z (fun _ => 0)) (up1 J z (fun _ => 0)) (z + 1) (k + 1) (n + N)
theorem fq_fresh {G : GT} {S : Sh} {I : IH} {J : JH} {z a : Nat} {H : Heap} (hW : fq_W G S I J z H) (h : S.1 a < 21) : a < z := by
  have := (hW.2 a h).lt
  have := hW.1
  omega
theorem sx_new {l : Launch} {G : GT} {M : MT} {D mc ms : Nat} {Q : Post} {pc : Nat} {K : Cn} {idx ci N : Nat} {C : String} {T : u_T} (d : decode M.2.1 pc = .ok (.new idx, 3)) (hci : fq_ci ci C T N) (hl : Cond.classLink M.1.cls idx C ∈ fq_all) (hi : Cond.instantiable C N ∈ fq_all) (hini : Cond.initialized C ∈ fq_all) (hdv : ∀ j, j < N → defaultValue (tyF ci j) = fq_fv (tyF ci j) none 0 0) (h : Imp l G M D mc ms Q K (pc + 3)) : Imp l G M D mc ms Q (ix_new ci N mc ms K) pc := by
  intro ls st S I J z k n hk p e s m args below meth c H locs lsA A hC hW hA hS hL
  obtain ⟨hk1, hk2, hk3⟩ := hk
  obtain ⟨h1, h2, h3, h4, h5, h6⟩ := hci
  have hts := hC.2.2.2.2.2.1
  have hKn := hC.2.2.2.2.2.2.2.2.2.1.1 ci _ h1
  have hz := hW.1
  refine W.newcK hC.1 hC.2.1 hC.2.2.2.2.1 (hts _ hl) (hts _ hi) (hts _ hini) rfl d hk1 hk2 hKn.2.1 hz fun H1 kC hkC e1 z1 o1 => ?_
  refine h _ _ _ _ _ _ _ _ hk3 p e s m args below meth c H1 locs lsA A hC ⟨z1, fun b hb => ?_⟩ (fun a ha => ?_) ⟨Nat.le_trans hS.1 (by omega), fun x g1 g2 => (o1 x (by have := hS.1; omega)).trans (hS.2.1 x g1 g2), hS.2.2⟩ hL
  · by_cases hbz : b = z
    · subst hbz
      rw [fq_E_obj (ci := ci) up1_eq h6]
      refine ⟨_, h1, (u_born (tyF ci) hts h2 hKn hkC e1 h3).to (fun j hj => ?_)⟩
      have hg := fq_fs_get (S := (up1 S.1 b ci, S.2.1, up1 S.2.2 b (fun _ => none))) (I := up1 I b (fun _ => 0)) (J := up1 J b (fun _ => 0)) (a := b) (ci := ci) (k := j) up1_eq (by rw [h5]; exact hj)
      unfold vp_V
      rw [List.getD_eq_getElem?_getD, hg]
      show _ = fq_fv (tyF ci j) (up1 S.2.2 b (fun _ => none) b j) (up1 I b (fun _ => 0) b j) (up1 J b (fun _ => 0) b j)
      rw [up1_eq, up1_eq, up1_eq]
      exact hdv j hj
    · have hE : fq_E G (up1 S.1 z ci, S.2.1, up1 S.2.2 z (fun _ => none)) (up1 I z (fun _ => 0)) (up1 J z (fun _ => 0)) b = fq_E G S I J b := fq_E_cong (up1_ne hbz) rfl (up1_ne hbz) (up1_ne hbz) (up1_ne hbz)
      rw [hE]
      have hb' : S.1 b < 21 := by rw [show S.1 b = up1 S.1 z ci b from (up1_ne hbz).symm]; exact hb
      exact (hW.2 b hb').kept (o1 b (fq_fresh hW hb'))
  · by_cases haz : a = z
    · exact hC.2.2.2.2.2.2.2.2.1 a (by have := hS.1; omega)
    · exact hA a (by rw [show S.1 a = up1 S.1 z ci a from (up1_ne haz).symm]; exact ha)
def ix_newa (kd mc ms : Nat) (K : Cn) : Cn := fun ls st S I J z k n => match st with
  | .int x :: st => ¬ x < 0 ∧ x.toNatClampNeg ≤ 10000 ∧ k + 1 ≤ mc ∧ n + x.toNatClampNeg ≤ ms ∧ K ls (.ref z :: st) (up1 S.1 z kd, up1 S.2.1 z x.toNatClampNeg, up1 S.2.2 z (fun _ => none)) (up1 I z (fun _ => 0)) (up1 J z (fun _ => 0)) (z + 1) (k + 1) (n + x.toNatClampNeg)
  | _ => False
section FQN
variable {l : Launch} {G : GT} {M : MT} {D mc ms : Nat} {Q : Post} {pc : Nat} {p : Program} {e : Env} {s : State} {m : MethodId} {args : Array Value} {below : List Frame} {meth : Method} {c : Code} {H H1 : Heap} {locs : List Loc} {lsA : Array Slot} {A : Nat → Prop} {S : Sh} {I : IH} {J : JH} {z k n kd N : Nat}
theorem fq_pushW (hW : fq_W G S I J z H) (h13 : 13 ≤ kd) (h21 : kd < 21) (e1 : va_at (fq_D G) vwCl (z, .inl (G.2.2.1 kd, fq_ar (up1 S.1 z kd, up1 S.2.1 z N, up1 S.2.2 z (fun _ => none)) (up1 I z (fun _ => 0)) (up1 J z (fun _ => 0)) z)) H1) (z1 : H1.size = z + 1) (o1 : ∀ q, q < z → H1[q]? = H[q]?) : fq_W G (up1 S.1 z kd, up1 S.2.1 z N, up1 S.2.2 z (fun _ => none)) (up1 I z (fun _ => 0)) (up1 J z (fun _ => 0)) (z + 1) H1 := by
  refine ⟨z1, fun b hb => ?_⟩
  by_cases hbz : b = z
  · subst hbz
    rw [fq_E_arr (by show 13 ≤ up1 S.1 b kd b; rw [up1_eq]; exact h13)]
    have : (up1 S.1 b kd, up1 S.2.1 b N, up1 S.2.2 b (fun _ => none)).1 b = kd := up1_eq
    rw [this]
    exact e1
  · rw [fq_E_cong (S := S) (I := I) (J := J) (up1_ne hbz) (up1_ne hbz) (up1_ne hbz) (up1_ne hbz) (up1_ne hbz)]
    have hb' : S.1 b < 21 := by rw [show S.1 b = up1 S.1 z kd b from (up1_ne hbz).symm]; exact hb
    exact (hW.2 b hb').kept (o1 b (fq_fresh hW hb'))
theorem fq_pushA (hC : fq_Cx G M p s m args meth c A) (hW : fq_W G S I J z H) (hA : ∀ a, S.1 a < 21 → A a) (hS : va_S A s.heap H locs) (a : Nat) (ha : up1 S.1 z kd a < 21) : A a := by
  by_cases haz : a = z
  · exact hC.2.2.2.2.2.2.2.2.1 a (by have := hS.1; have := hW.1; omega)
  · exact hA a (by rw [show S.1 a = up1 S.1 z kd a from (up1_ne haz).symm]; exact ha)
theorem fq_pushS (hW : fq_W G S I J z H) (hS : va_S A s.heap H locs) (z1 : H1.size = z + 1) (o1 : ∀ q, q < z → H1[q]? = H[q]?) : va_S A s.heap H1 locs :=
  ⟨Nat.le_trans hS.1 (by have := hW.1; omega), fun x g1 g2 => (o1 x (by have := hS.1; have := hW.1; omega)).trans (hS.2.1 x g1 g2), hS.2.2⟩
end FQN
theorem sx_newa {l : Launch} {G : GT} {M : MT} {D mc ms : Nat} {Q : Post} {pc : Nat} {K : Cn} {at' : ArrayType} {kd : Nat} (d : decode M.2.1 pc = .ok (.newarray at', 2)) (hty : newarray.typeOf at' = fq_ty kd) (h13 : 13 ≤ kd) (h15 : kd ≤ 15) (hw : Cond.arrayClass (fq_ty kd) ∈ fq_all) (h : Imp l G M D mc ms Q K (pc + 2)) : Imp l G M D mc ms Q (ix_newa kd mc ms K) pc := by
  intro ls st S I J z k n hk p e s m args below meth c H locs lsA A hC hW hA hS hL
  unfold ix_newa at hk
  split at hk
  · next x st =>
    obtain ⟨g1, g2, g3, g4, g5⟩ := hk
    have hts := hC.2.2.2.2.2.1
    have hb8 : componentBytes (newarray.typeOf at') ≤ 8 := by cases at' <;> decide
    refine va_newaK hC.1 hC.2.1 (by rw [hty]; exact hts _ hw) rfl d rfl g1 rfl (Nat.le_trans (Nat.mul_le_mul g2 hb8) (by decide)) g3 g4 hW.1 fun H1 cA e1 z1 o1 hAr hNm => ?_
    have hcA : cA = G.2.2.1 kd := by
      have h2 := (hC.2.2.2.2.2.2.2.2.2.1.2 (kd - 13) _ (fq_tys_at G h13 (by omega))).2
      rw [hty] at hNm
      have h3 : s.vm.findClass ("[" ++ (fq_ty kd).toString) = some (G.2.2.1 kd) := by
        rcases (show kd = 13 ∨ kd = 14 ∨ kd = 15 by omega) with rfl | rfl | rfl <;> exact h2
      exact Option.some.inj (hNm.symm.trans h3)
    subst hcA
    refine h _ _ _ _ _ _ _ _ g5 p e s m args below meth c H1 locs lsA A hC (fq_pushW hW h13 (by omega) ?_ z1 o1) (fq_pushA hC hW hA hS) (fq_pushS hW hS z1 o1) hL
    show H1[z]? = some (vp_cell _ _)
    rw [e1, hty]
    unfold fq_ar
    rcases (show kd = 13 ∨ kd = 14 ∨ kd = 15 by omega) with rfl | rfl | rfl <;> simp [up1, fq_ty, vp_cell_i, vp_cell_l, defaultValue]
  · exact hk.elim
theorem sx_anewa {l : Launch} {G : GT} {M : MT} {D mc ms : Nat} {Q : Post} {pc : Nat} {K : Cn} {idx kd : Nat} {C : String} (d : decode M.2.1 pc = .ok (.anewarray idx, 3)) (hty : fq_ty kd = .object C) (h16 : 16 ≤ kd) (h21 : kd < 21) (hl : Cond.classLink M.1.cls idx C ∈ fq_all) (hao : C ∈ fq_ao) (h : Imp l G M D mc ms Q K (pc + 3)) : Imp l G M D mc ms Q (ix_newa kd mc ms K) pc := by
  intro ls st S I J z k n hk p e s m args below meth c H locs lsA A hC hW hA hS hL
  unfold ix_newa at hk
  split at hk
  · next x st =>
    obtain ⟨g1, g2, g3, g4, g5⟩ := hk
    have hts := hC.2.2.2.2.2.1
    refine W.anew hC.1 hC.2.1 hC.2.2.2.2.1 (hts _ hl) (va_AO.use (hC.2.2.2.2.2.2.2.2.2.2.2.2.2.2.2 C hao)) rfl d rfl g1 (by omega) g3 g4 fun cA kA comp f1 f2 f3 f4 => ?_
    generalize hH1 : H.push ({ cls := cA, slots := Array.replicate x.toNatClampNeg .null, vm := .none } : Cell) = H1
    have hz := hW.1
    have z1 : H1.size = z + 1 := by rw [← hH1, Array.size_push, hz]
    have e1 : H1[z]? = some (arrV cA x.toNatClampNeg (fun _ => .null)) := by rw [← hH1, ← hz, Array.getElem?_push_size, ← arrV_new]
    have o1 : ∀ q : Nat, q < z → H1[q]? = H[q]? := fun q hq => by rw [← hH1, Array.getElem?_push, if_neg (by omega)]
    have hcA : cA = G.2.2.1 kd := by
      have h2 := (hC.2.2.2.2.2.2.2.2.2.1.2 (kd - 13) _ (fq_tys_at G (by omega) h21)).2
      rw [hty] at h2
      obtain ⟨_, _, _, _, _, h3⟩ := h2
      exact Option.some.inj (f1.symm.trans h3)
    subst hcA
    rw [hz]
    refine h _ _ _ _ _ _ _ _ g5 p e s m args below meth c H1 locs lsA A hC (fq_pushW hW (by omega) h21 ?_ z1 o1) (fq_pushA hC hW hA hS) (fq_pushS hW hS z1 o1) hL
    show H1[z]? = some (vp_cell _ _)
    rw [e1]
    unfold fq_ar
    rw [if_neg (by show ¬ up1 S.1 z kd z ≤ 14; rw [up1_eq]; omega), if_neg (by show ¬ up1 S.1 z kd z = 15; rw [up1_eq]; omega)]
    simp only [up1_eq]
    rw [vp_cell_q]
    rfl
  · exact hk.elim
def ix_aast (kd ci : Nat) (K : Cn) : Cn := fun ls st S I J z k n => match st with
  | .ref v :: .int i :: .ref a :: st => S.1 a = kd ∧ S.1 v = ci ∧ vp_in i (S.2.1 a) ∧ K ls st (S.1, S.2.1, u2 S.2.2 a i.toNatClampNeg (some v)) I J z k n
  | _ => False
theorem sx_aast {l : Launch} {G : GT} {M : MT} {D mc ms : Nat} {Q : Post} {pc : Nat} {K : Cn} {kd ci N : Nat} {C : String} {T : u_T} (d : decode M.2.1 pc = .ok (.aastore, 1)) (hty : fq_ty kd = .object C) (h16 : 16 ≤ kd) (h21 : kd < 21) (hc : vwCl[ci]? = some (C, T, N)) (h : Imp l G M D mc ms Q K (pc + 1)) : Imp l G M D mc ms Q (ix_aast kd ci K) pc := by
  intro ls st S I J z k n hk p e s m args below meth c H locs lsA A hC hW hA hS hL
  unfold ix_aast at hk
  split at hk
  · next v i a st =>
    obtain ⟨g1, g2, g3, g4⟩ := hk
    have hci : ci < 13 := by
      have := (List.getElem?_eq_some_iff.mp hc).1
      simpa using this
    have hat := hW.2 a (by omega)
    rw [fq_ar_r g1 h16] at hat
    have hav := hW.2 v (by omega)
    rw [fq_E_obj g2 hci] at hav
    have hK := hC.2.2.2.2.2.2.2.2.2.1
    have hlt : i.toNatClampNeg < S.2.1 a := Nat.not_le.mp fun q => g3 (Or.inr q)
    have h0 : ¬ i < 0 := fun q => g3 (Or.inl q)
    obtain ⟨r', hr', cellV, f1, f2, f3, -⟩ := hav
    have hcls := (hK.1 ci _ hc).2
    have hra := (hK.2 (kd - 13) _ (fq_tys_at G (by omega) h21)).2
    rw [hty] at hra
    obtain ⟨kA, comp, k1, k2, k3, -⟩ := hra
    have hcomp : comp = (fq_D G).1 ci := Option.some.inj (k3.symm.trans hcls.1)
    subst hcomp
    obtain ⟨kC, hkC, -⟩ := hcls.2
    refine W.aast hC.1 hC.2.1 hat (fun q h => by cases h) (fun h => by cases h) k1 k2 rfl hkC ⟨h0, by show _ < (arrV _ _ _).slots.size; rw [arrV_size]; exact hlt⟩ f1 (fun q h => by rw [f3] at h; cases h) (by rw [f2]; exact hkC) (by rw [f2]; exact va_assign hcls) rfl rfl d fun H1 e1 e2 e3 => ?_
    refine h _ _ _ _ _ _ _ _ g4 p e s m args below meth c H1 _ lsA A hC ⟨e2.trans hW.1, fun b hb => ?_⟩ hA (hS.put e2 e3 (hA a (by omega))) hL
    by_cases hq : b = a
    · subst hq
      rw [fq_ar_r (S := (S.1, S.2.1, u2 S.2.2 b i.toNatClampNeg (some v))) g1 h16]
      show H1[b]? = some (vp_cell _ _)
      rw [e1]
      rw [vp_cell_q, vp_cell_q, arrV_store]
      congr 2
      funext q
      by_cases hq : q = i.toNatClampNeg
      · subst hq
        simp [updV, u2, va_rf]
      · simp [updV, u2, hq]
    · have hE : fq_E G (S.1, S.2.1, u2 S.2.2 a i.toNatClampNeg (some v)) I J b = fq_E G S I J b := fq_E_cong rfl rfl (u2_ne hq) rfl rfl
      rw [hE]
      exact (hW.2 b hb).kept (e3 b hq)
  · exact hk.elim
/-! Math -/
def ix_max (mc ms : Nat) (K : Cn) : Cn := fun ls st S I J z k n => match st with
  | .int y :: .int x :: st => st.length ≤ 4 ∧ k ≤ mc ∧ n ≤ ms ∧ K ls (.int (if x < y then y else x) :: st) S I J z k n
  | _ => False
def ix_min (mc ms : Nat) (K : Cn) : Cn := fun ls st S I J z k n => match st with
  | .int y :: .int x :: st => st.length ≤ 4 ∧ k ≤ mc ∧ n ≤ ms ∧ K ls (.int (if y < x then y else x) :: st) S I J z k n
  | _ => False
def ix_abs (mc ms : Nat) (K : Cn) : Cn := fun ls st S I J z k n => match st with
  | .int x :: st => st.length ≤ 4 ∧ k ≤ mc ∧ n ≤ ms ∧ K ls (.int (if 0 ≤ x then x else 0 - x) :: st) S I J z k n
  | _ => False
theorem sx_max {l : Launch} {G : GT} {M : MT} {D mc ms : Nat} {Q : Post} {pc : Nat} {K : Cn} {idx : Nat} (d : decode M.2.1 pc = .ok (.invokestatic idx, 3)) (hl : Cond.methodLink M.1.cls idx Lib.Math.max.name ∈ fq_all) (hs : Cond.static Lib.Math.max.name ∈ fq_all) (hi : Cond.initialized "java/lang/Math" ∈ fq_all) (hc : Cond.code Lib.Math.max.name Lib.Math.max.code 2 (some .int) ∈ fq_all) (h : Imp l G M (D + 1) mc ms Q K (pc + 3)) : Imp l G M (D + 1) mc ms Q (ix_max mc ms K) pc := by
  intro ls st S I J z k n hk p e s m args below meth c H locs lsA A hC hW hA hS hL
  unfold ix_max at hk
  split at hk
  · next y x st =>
    have hts := hC.2.2.2.2.2.1
    exact va_mmax hC.1 hC.2.1 (hC.2.2.2.1.trans hL.1.symm) hC.2.2.2.2.1 (hts _ hl) (hts _ hs) (hts _ hi) (hts _ hc) (show 1 ≤ D + 1 by omega) (by show _ ≤ 64 * (D + 1); have := cat_le st; omega) hk.2.1 hk.2.2.1 d (h _ _ _ _ _ _ _ _ hk.2.2.2 p e s m args below meth c H locs lsA A hC hW hA hS hL)
  · exact hk.elim
theorem sx_min {l : Launch} {G : GT} {M : MT} {D mc ms : Nat} {Q : Post} {pc : Nat} {K : Cn} {idx : Nat} (d : decode M.2.1 pc = .ok (.invokestatic idx, 3)) (hl : Cond.methodLink M.1.cls idx Lib.Math.min.name ∈ fq_all) (hs : Cond.static Lib.Math.min.name ∈ fq_all) (hi : Cond.initialized "java/lang/Math" ∈ fq_all) (hc : Cond.code Lib.Math.min.name Lib.Math.min.code 2 (some .int) ∈ fq_all) (h : Imp l G M (D + 1) mc ms Q K (pc + 3)) : Imp l G M (D + 1) mc ms Q (ix_min mc ms K) pc := by
  intro ls st S I J z k n hk p e s m args below meth c H locs lsA A hC hW hA hS hL
  unfold ix_min at hk
  split at hk
  · next y x st =>
    have hts := hC.2.2.2.2.2.1
    exact va_mmin hC.1 hC.2.1 (hC.2.2.2.1.trans hL.1.symm) hC.2.2.2.2.1 (hts _ hl) (hts _ hs) (hts _ hi) (hts _ hc) (show 1 ≤ D + 1 by omega) (by show _ ≤ 64 * (D + 1); have := cat_le st; omega) hk.2.1 hk.2.2.1 d (h _ _ _ _ _ _ _ _ hk.2.2.2 p e s m args below meth c H locs lsA A hC hW hA hS hL)
  · exact hk.elim
theorem sx_abs {l : Launch} {G : GT} {M : MT} {D mc ms : Nat} {Q : Post} {pc : Nat} {K : Cn} {idx : Nat} (d : decode M.2.1 pc = .ok (.invokestatic idx, 3)) (hl : Cond.methodLink M.1.cls idx Lib.Math.abs.name ∈ fq_all) (hs : Cond.static Lib.Math.abs.name ∈ fq_all) (hi : Cond.initialized "java/lang/Math" ∈ fq_all) (hc : Cond.code Lib.Math.abs.name Lib.Math.abs.code 1 (some .int) ∈ fq_all) (h : Imp l G M (D + 1) mc ms Q K (pc + 3)) : Imp l G M (D + 1) mc ms Q (ix_abs mc ms K) pc := by
  intro ls st S I J z k n hk p e s m args below meth c H locs lsA A hC hW hA hS hL
  unfold ix_abs at hk
  split at hk
  · next x st =>
    have hts := hC.2.2.2.2.2.1
    exact va_mabs hC.1 hC.2.1 (hC.2.2.2.1.trans hL.1.symm) hC.2.2.2.2.1 (hts _ hl) (hts _ hs) (hts _ hi) (hts _ hc) (show 1 ≤ D + 1 by omega) (by show _ ≤ 64 * (D + 1); have := cat_le st; omega) hk.2.1 hk.2.2.1 d (h _ _ _ _ _ _ _ _ hk.2.2.2 p e s m args below meth c H locs lsA A hC hW hA hS hL)
  · exact hk.elim
/-! tables -/
def ix_gtab (G : GT) (j : Nat) (K : Cn) : Cn := fun ls st S I J z k n => K ls (.ref (G.2.2.2 j) :: st) S I J z k n
theorem sx_gtab {l : Launch} {G : GT} {M : MT} {D mc ms : Nat} {Q : Post} {pc : Nat} {K : Cn} {idx j : Nat} (d : decode M.2.1 pc = .ok (.getstatic idx, 3)) (hj : j < 4) (hl : Cond.fieldLink M.1.cls idx "FootQuarrel" (fq_tn j) "[I" ∈ fq_all) (h : Imp l G M D mc ms Q K (pc + 3)) : Imp l G M D mc ms Q (ix_gtab G j K) pc := by
  intro ls st S I J z k n hk p e s m args below meth c H locs lsA A hC hW hA hS hL
  exact va_gets hC.1 hC.2.1 (hC.2.2.2.2.2.2.2.2.2.2.1.1 j hj).1 hS hC.2.2.2.2.1 (hC.2.2.2.2.2.1 _ hl) (fun _ h9 => h9) d (h _ _ _ _ _ _ _ _ hk p e s m args below meth c H locs lsA A hC hW hA hS hL)
theorem sx_gtabN {l : Launch} {G : GT} {M : MT} {D mc ms : Nat} {Q : Post} {pc : Nat} {K : Cn} {idx j : Nat} (d : decode M.2.1 pc = .ok (.getstatic idx, 3)) (hj : j < 4) (ho : M.1.cls = "FootQuarrel$StreetText") (hl : (idx, fq_tn j) ∈ fq_nf) (h : Imp l G M D mc ms Q K (pc + 3)) : Imp l G M D mc ms Q (ix_gtab G j K) pc := by
  intro ls st S I J z k n hk p e s m args below meth c H locs lsA A hC hW hA hS hL
  exact va_getsN hC.1 hC.2.1 (hC.2.2.2.2.2.2.2.2.2.2.1.1 j hj).1 hS hC.2.2.2.2.1 (by rw [ho]; exact va_Nw.use rfl (hC.2.2.2.2.2.2.2.2.2.2.2.2.2.2.1 _ hl)) (fun _ h9 => h9) d (h _ _ _ _ _ _ _ _ hk p e s m args below meth c H locs lsA A hC hW hA hS hL)
def ix_tald (G : GT) (j : Nat) (K : Cn) : Cn := fun ls st S I J z k n => match st with
  | .int i :: .ref a :: st => a = G.2.2.2 j ∧ vp_in i (fq_tab j).length ∧ K ls (.int ((fq_tab j).getD i.toNatClampNeg 0) :: st) S I J z k n
  | _ => False
theorem sx_tald {l : Launch} {G : GT} {M : MT} {D mc ms : Nat} {Q : Post} {pc : Nat} {K : Cn} {j : Nat} (d : decode M.2.1 pc = .ok (.iaload, 1)) (hj : j < 4) (h : Imp l G M D mc ms Q K (pc + 1)) : Imp l G M D mc ms Q (ix_tald G j K) pc := by
  intro ls st S I J z k n hk p e s m args below meth c H locs lsA A hC hW hA hS hL
  unfold ix_tald at hk
  split at hk
  · next i a st =>
    obtain ⟨rfl, g2, g3⟩ := hk
    exact va_ti hC.1 hC.2.1 (hC.2.2.2.2.2.2.2.2.2.2.1.1 j hj).2 hS g2 rfl d (h _ _ _ _ _ _ _ _ g3 p e s m args below meth c H locs lsA A hC hW hA hS hL)
  · exact hk.elim
