/-! fields and arrays of the pool -/
def fq_ci (ci : Nat) (C : String) (T : u_T) (N : Nat) : Prop := vwCl[ci]? = some (C, T, N) ∧ (∀ w ∈ u_ws C T N, w ∈ fq_all) ∧ (∀ k, k < N → parseFieldDescriptor (T k).2.2.1 = some (tyF ci k)) ∧ (∀ a, a < N → ∀ b, b < N → a ≠ b → (T a).2.1 ≠ (T b).2.1) ∧ nF ci = N ∧ ci < 13
def fq_fl (own : String) (idx ci k : Nat) (fin : Bool) : Prop := ∃ (C : String) (T : u_T) (N : Nat), fq_ci ci C T N ∧ k < N ∧ (T k).2.2.2 = fin ∧ Cond.fieldLink own idx (T k).1 (T k).2.1 (T k).2.2.1 ∈ fq_all ∧ (T k).1 = C
theorem va_P1 {D : va_G} {cl : List vw_C} {q : Nat × va_E} {H : Heap} (h : va_at D cl q H) : va_P D cl [q] H := fun k x hx => by
  cases k with
  | zero => cases hx; exact h
  | succ k => simp at hx
theorem fq_E_obj {G : GT} {S : Sh} {I : IH} {J : JH} {a ci : Nat} (h : S.1 a = ci) (hc : ci < 13) : fq_E G S I J a = .inr (ci, fq_fs S I J a) := by
  unfold fq_E
  rw [if_pos (by omega), h]
theorem fq_fs_get {S : Sh} {I : IH} {J : JH} {a ci k : Nat} (h : S.1 a = ci) (hk : k < nF ci) : (fq_fs S I J a)[k]? = some (fq_fv (tyF ci k) (S.2.2 a k) (I a k) (J a k)) := by
  unfold fq_fs
  rw [h, List.getElem?_map, List.getElem?_range hk]
  rfl
theorem fq_fs_set {S S' : Sh} {I I' : IH} {J J' : JH} {a ci k : Nat} {v : Value} (h : S.1 a = ci) (h' : S'.1 a = ci) (hk : k < nF ci) (hv : fq_fv (tyF ci k) (S'.2.2 a k) (I' a k) (J' a k) = v) (ho : ∀ i, i ≠ k → S'.2.2 a i = S.2.2 a i ∧ I' a i = I a i ∧ J' a i = J a i) : fq_fs S' I' J' a = (fq_fs S I J a).set k v := by
  apply List.ext_getElem?
  intro i
  by_cases hi : i < nF ci
  · rw [fq_fs_get h' hi, List.getElem?_set]
    by_cases hik : k = i
    · subst hik
      have hl : k < (fq_fs S I J a).length := by unfold fq_fs; rw [h]; simpa using hk
      rw [if_pos rfl, if_pos hl, hv]
    · rw [if_neg hik, fq_fs_get h hi]
      obtain ⟨e1, e2, e3⟩ := ho i (fun q => hik q.symm)
      rw [e1, e2, e3]
  · have l1 : (fq_fs S' I' J' a).length ≤ i := by unfold fq_fs; rw [h']; simp; omega
    have l2 : ((fq_fs S I J a).set k v).length ≤ i := by rw [List.length_set]; unfold fq_fs; rw [h]; simp; omega
    rw [List.getElem?_eq_none l1, List.getElem?_eq_none l2]
theorem fq_E_arr {G : GT} {S : Sh} {I : IH} {J : JH} {a : Nat} (h : 13 ≤ S.1 a) : fq_E G S I J a = .inl (G.2.2.1 (S.1 a), fq_ar S I J a) := by
  unfold fq_E
  rw [if_neg (by omega)]
theorem u2_ne {α : Type} {f : Nat → Nat → α} {a k b : Nat} {v : α} (h : b ≠ a) : u2 f a k v b = f b := by
  funext j
  unfold u2
  rw [if_neg (fun q => h q.1)]
theorem u2_ne2 {α : Type} {f : Nat → Nat → α} {a k j : Nat} {v : α} (h : j ≠ k) : u2 f a k v a j = f a j := by
  unfold u2
  rw [if_neg (fun q => h q.2)]
theorem u2_eq {α : Type} {f : Nat → Nat → α} {a k : Nat} {v : α} : u2 f a k v a k = v := by
  unfold u2
  rw [if_pos ⟨rfl, rfl⟩]
theorem fq_E_cong {G : GT} {S S' : Sh} {I I' : IH} {J J' : JH} {b : Nat} (h1 : S'.1 b = S.1 b) (h2 : S'.2.1 b = S.2.1 b) (h3 : S'.2.2 b = S.2.2 b) (h4 : I' b = I b) (h5 : J' b = J b) : fq_E G S' I' J' b = fq_E G S I J b := by
  unfold fq_E fq_fs fq_ar
  rw [h1, h2, h3, h4, h5]
section FQH
variable {l : Launch} {G : GT} {M : MT} {D mc ms : Nat} {Q : Post} {pc : Nat} {p : Program} {e : Env} {s : State} {m : MethodId} {args : Array Value} {below : List Frame} {meth : Method} {c : Code} {H : Heap} {locs : List Loc} {lsA : Array Slot} {A : Nat → Prop} {S : Sh} {I : IH} {J : JH} {z k n : Nat} {st : List Value} {R : Room} {QQ : State → Prop}
theorem fq_get {idx ci f a : Nat} {fin : Bool} (hC : fq_Cx G M p s m args meth c A) (hW : fq_W G S I J z H) (d : decode M.2.1 pc = .ok (.getfield idx, 3)) (hf : fq_fl M.1.cls idx ci f fin) (ha : S.1 a = ci)
    (kk : W p l e R s m args below meth c H locs k n QQ (F0 m (pc + 3) lsA (fq_fv (tyF ci f) (S.2.2 a f) (I a f) (J a f) :: st))) : W p l e R s m args below meth c H locs k n QQ (F0 m pc lsA (.ref a :: st)) := by
  obtain ⟨C, T, N, ⟨h1, h2, h3, h4, h5, h6⟩, hk, -, hl, -⟩ := hf
  have hat := hW.2 a (by omega)
  rw [fq_E_obj ha h6] at hat
  exact va_get hC.1 hC.2.1 hC.2.2.2.2.2.1 h2 hC.2.2.2.2.1 hC.2.2.2.2.2.2.2.2.2.1 (va_P1 hat) 0 rfl h1 f hk (hC.2.2.2.2.2.1 _ hl) (fun _ h9 => h9) (fq_fs_get ha (by rw [h5]; exact hk)) d kk
theorem fq_put {idx ci f a : Nat} {fin : Bool} {v : Value} (hC : fq_Cx G M p s m args meth c A) (hW : fq_W G S I J z H) (hA : ∀ a, S.1 a < 21 → A a) (hS : va_S A s.heap H locs) (d : decode M.2.1 pc = .ok (.putfield idx, 3)) (hf : fq_fl M.1.cls idx ci f fin) (hfi : fin = true → M.1.name = "<init>" ∧ (vwCl[ci]?).map (fun r => r.1) = some M.1.cls) (ha : S.1 a = ci) (hn : narrow (tyF ci f) v = v) (hfit : fits (tyF ci f) v = true)
    (S' : Sh) (I' : IH) (J' : JH) (hS1 : S'.1 = S.1) (heq : ∀ b, b ≠ a → fq_E G S' I' J' b = fq_E G S I J b) (hnew : fq_fs S' I' J' a = (fq_fs S I J a).set f v)
    (kk : ∀ (H' : Heap) (locs' : List Loc), fq_W G S' I' J' z H' → va_S A s.heap H' locs' → W p l e R s m args below meth c H' locs' k n QQ (F0 m (pc + 3) lsA st)) : W p l e R s m args below meth c H locs k n QQ (F0 m pc lsA (v :: .ref a :: st)) := by
  obtain ⟨C, T, N, ⟨hc, hin, hty, hnm, hnF, h13⟩, hk, hfin, hl, hdecl⟩ := hf
  have hts := hC.2.2.2.2.2.1
  have hown := hC.2.2.2.2.1
  have hK := hC.2.2.2.2.2.2.2.2.2.1
  have hat := hW.2 a (by omega)
  rw [fq_E_obj ha h13] at hat
  have hap := va_apart (own := M.1.cls) hts hin (tyF ci) hty hnm hK hc
  obtain ⟨r, h1, cell, q1, q2, q3, q4⟩ := hat
  have hr : r = (C, T, N) := Option.some.inj (h1.symm.trans hc)
  subst hr
  obtain ⟨hSl, hfc, kC, hkC, hkind⟩ := hK.1 ci _ hc
  obtain ⟨cf, kf, fi, fd, hi, hsl⟩ := hSl f hk
  have hlay := hts _ (hin _ (u_in_lay hk))
  unfold u_lay at hlay
  have hst := (u_facts hfc hkC (u_lays hts hin hk) hi).1
  have hlen : f < (fq_fs S I J a).length := by unfold fq_fs; rw [ha, hnF]; simpa using hk
  have fin_ : ∀ (H' : Heap), H'[a]? = some (cell.setSlot fd.slot v) → H'.size = H.size → (∀ q, q ≠ a → H'[q]? = H[q]?) → W p l e R s m args below meth c H' (locs ++ [⟨a, fd.slot⟩]) k n QQ (F0 m (pc + 3) lsA st) := by
    intro H' e1 e2 e3
    rw [hsl] at e1 ⊢
    refine kk H' _ ⟨e2.trans hW.1, fun b hb => ?_⟩ (hS.put e2 e3 (hA a (by omega)))
    by_cases hba : b = a
    · subst hba
      rw [fq_E_obj (by rw [hS1]; exact ha) h13, hnew]
      exact ⟨_, hc, t_OB.to (V := updV (vp_V (fq_fs S I J b)) f v) ⟨_, e1, q2, q3, t_set q4 hap hk v⟩ (fun j _ => vp_updV_set hlen v j)⟩
    · rw [heq b hba]
      exact (hW.2 b (by rw [← hS1]; exact hb)).kept (e3 b hba)
  cases hff : fin with
  | false =>
    rw [if_neg (by rw [hfin, hff]; decide)] at hlay
    have h6 := u_store hfc hkC hkind hlay hi (hty f hk) hn hfit
    exact W.putK hC.1 hC.2.1 (f := fd) ⟨hown, hts _ hl, ⟨_, _, _, hi⟩, hst⟩ (by rw [q2]; exact h6) q1 q3 (by rw [hsl]; exact k2_hasslot (q4 f hk)) rfl rfl d fin_
  | true =>
    rw [if_pos (by rw [hfin, hff])] at hlay
    have hd2 : (T f).1 = M.1.cls := by
      have h7 := (hfi hff).2
      rw [hc] at h7
      exact hdecl.trans (Option.some.inj h7)
    have hcf : m.cls = cf := by
      obtain ⟨_, _, c', _, _, _, -, -, hf', -, -, -, hown2, -⟩ := Cond.laysFinal_spec hlay
      have e1 : c' = cf := by have := hi.symm.trans hf'; simp at this; exact this.1.symm
      rw [hd2] at hown2
      rw [← e1]; exact Option.some.inj (hown.symm.trans hown2)
    have h6 := u_fits hfc hkC hkind (Or.inr hlay) hi (hty f hk) hn hfit
    exact W.putFinK hC.1 hC.2.1 hown (hts _ hl) hi hst hcf (hC.2.2.2.2.2.2.2.1.trans (hfi hff).1) (by rw [q2]; exact h6) q1 q3 (by rw [hsl]; exact k2_hasslot (q4 f hk)) rfl rfl d fin_
end FQH
