def ix_getI (ci f : Nat) (K : Cn) : Cn := fun ls st S I J z k n => match st with
  | .ref a :: st => S.1 a = ci ∧ K ls (.int (I a f) :: st) S I J z k n
  | _ => False
theorem sx_getI {l : Launch} {G : GT} {M : MT} {D mc ms : Nat} {Q : Post} {pc : Nat} {K : Cn} {idx ci f : Nat} {fin : Bool} (d : decode M.2.1 pc = .ok (.getfield idx, 3)) (hf : fq_fl M.1.cls idx ci f fin) (ht : ∀ r i j, fq_fv (tyF ci f) r i j = .int i) (h : Imp l G M D mc ms Q K (pc + 3)) : Imp l G M D mc ms Q (ix_getI ci f K) pc := by
  intro ls st S I J z k n hk p e s m args below meth c H locs lsA A hC hW hA hS hL
  unfold ix_getI at hk
  split at hk
  · refine fq_get hC hW d hf hk.1 ?_
    rw [ht]
    exact h _ _ _ _ _ _ _ _ hk.2 p e s m args below meth c H locs lsA A hC hW hA hS hL
  · exact hk.elim
def ix_getJ (ci f : Nat) (K : Cn) : Cn := fun ls st S I J z k n => match st with
  | .ref a :: st => S.1 a = ci ∧ K ls (.long (J a f) :: st) S I J z k n
  | _ => False
theorem sx_getJ {l : Launch} {G : GT} {M : MT} {D mc ms : Nat} {Q : Post} {pc : Nat} {K : Cn} {idx ci f : Nat} {fin : Bool} (d : decode M.2.1 pc = .ok (.getfield idx, 3)) (hf : fq_fl M.1.cls idx ci f fin) (ht : ∀ r i j, fq_fv (tyF ci f) r i j = .long j) (h : Imp l G M D mc ms Q K (pc + 3)) : Imp l G M D mc ms Q (ix_getJ ci f K) pc := by
  intro ls st S I J z k n hk p e s m args below meth c H locs lsA A hC hW hA hS hL
  unfold ix_getJ at hk
  split at hk
  · refine fq_get hC hW d hf hk.1 ?_
    rw [ht]
    exact h _ _ _ _ _ _ _ _ hk.2 p e s m args below meth c H locs lsA A hC hW hA hS hL
  · exact hk.elim
def ix_getR (ci f : Nat) (K : Cn) : Cn := fun ls st S I J z k n => match st with
  | .ref a :: st => S.1 a = ci ∧ ∃ b, S.2.2 a f = some b ∧ K ls (.ref b :: st) S I J z k n
  | _ => False
theorem sx_getR {l : Launch} {G : GT} {M : MT} {D mc ms : Nat} {Q : Post} {pc : Nat} {K : Cn} {idx ci f : Nat} {fin : Bool} (d : decode M.2.1 pc = .ok (.getfield idx, 3)) (hf : fq_fl M.1.cls idx ci f fin) (ht : ∀ r i j, fq_fv (tyF ci f) r i j = va_rf r) (h : Imp l G M D mc ms Q K (pc + 3)) : Imp l G M D mc ms Q (ix_getR ci f K) pc := by
  intro ls st S I J z k n hk p e s m args below meth c H locs lsA A hC hW hA hS hL
  unfold ix_getR at hk
  split at hk
  · obtain ⟨h1, b, h2, h3⟩ := hk
    refine fq_get hC hW d hf h1 ?_
    rw [ht, h2]
    exact h _ _ _ _ _ _ _ _ h3 p e s m args below meth c H locs lsA A hC hW hA hS hL
  · exact hk.elim
def ix_putI (ci f : Nat) (K : Cn) : Cn := fun ls st S I J z k n => match st with
  | .int v :: .ref a :: st => S.1 a = ci ∧ K ls st S (u2 I a f v) J z k n
  | _ => False
theorem sx_putI {l : Launch} {G : GT} {M : MT} {D mc ms : Nat} {Q : Post} {pc : Nat} {K : Cn} {idx ci f : Nat} (d : decode M.2.1 pc = .ok (.putfield idx, 3)) (hf : fq_fl M.1.cls idx ci f false) (hN : f < nF ci) (ht : ∀ r i j, fq_fv (tyF ci f) r i j = .int i) (hn : ∀ v, narrow (tyF ci f) (.int v) = .int v ∧ fits (tyF ci f) (.int v) = true) (h : Imp l G M D mc ms Q K (pc + 3)) : Imp l G M D mc ms Q (ix_putI ci f K) pc := by
  intro ls st S I J z k n hk p e s m args below meth c H locs lsA A hC hW hA hS hL
  unfold ix_putI at hk
  split at hk
  · next v a st =>
    exact fq_put hC hW hA hS d hf (fun q => by cases q) hk.1 (hn _).1 (hn _).2 S (u2 I a f v) J rfl (fun b hb => fq_E_cong rfl rfl rfl (u2_ne hb) rfl) (fq_fs_set hk.1 hk.1 hN (by rw [ht, u2_eq]) (fun i hi => ⟨rfl, u2_ne2 hi, rfl⟩)) (fun H' locs' hW' hS' => h _ _ _ _ _ _ _ _ hk.2 p e s m args below meth c H' locs' lsA A hC hW' hA hS' hL)
  · exact hk.elim
def ix_putZ (ci f : Nat) (K : Cn) : Cn := fun ls st S I J z k n => match st with
  | .int v :: .ref a :: st => S.1 a = ci ∧ (v = 0 ∨ v = 1) ∧ K ls st S (u2 I a f v) J z k n
  | _ => False
theorem sx_putZ {l : Launch} {G : GT} {M : MT} {D mc ms : Nat} {Q : Post} {pc : Nat} {K : Cn} {idx ci f : Nat} (d : decode M.2.1 pc = .ok (.putfield idx, 3)) (hf : fq_fl M.1.cls idx ci f false) (hN : f < nF ci) (ht : ∀ r i j, fq_fv (tyF ci f) r i j = .int i) (hn : ∀ v : Int32, (v = 0 ∨ v = 1) → narrow (tyF ci f) (.int v) = .int v ∧ fits (tyF ci f) (.int v) = true) (h : Imp l G M D mc ms Q K (pc + 3)) : Imp l G M D mc ms Q (ix_putZ ci f K) pc := by
  intro ls st S I J z k n hk p e s m args below meth c H locs lsA A hC hW hA hS hL
  unfold ix_putZ at hk
  split at hk
  · next v a st =>
    exact fq_put hC hW hA hS d hf (fun q => by cases q) hk.1 (hn _ hk.2.1).1 (hn _ hk.2.1).2 S (u2 I a f v) J rfl (fun b hb => fq_E_cong rfl rfl rfl (u2_ne hb) rfl) (fq_fs_set hk.1 hk.1 hN (by rw [ht, u2_eq]) (fun i hi => ⟨rfl, u2_ne2 hi, rfl⟩)) (fun H' locs' hW' hS' => h _ _ _ _ _ _ _ _ hk.2.2 p e s m args below meth c H' locs' lsA A hC hW' hA hS' hL)
  · exact hk.elim
def ix_putJ (ci f : Nat) (K : Cn) : Cn := fun ls st S I J z k n => match st with
  | .long v :: .ref a :: st => S.1 a = ci ∧ K ls st S I (u2 J a f v) z k n
  | _ => False
theorem sx_putJ {l : Launch} {G : GT} {M : MT} {D mc ms : Nat} {Q : Post} {pc : Nat} {K : Cn} {idx ci f : Nat} (d : decode M.2.1 pc = .ok (.putfield idx, 3)) (hf : fq_fl M.1.cls idx ci f false) (hN : f < nF ci) (ht : ∀ r i j, fq_fv (tyF ci f) r i j = .long j) (hn : ∀ v, narrow (tyF ci f) (.long v) = .long v ∧ fits (tyF ci f) (.long v) = true) (h : Imp l G M D mc ms Q K (pc + 3)) : Imp l G M D mc ms Q (ix_putJ ci f K) pc := by
  intro ls st S I J z k n hk p e s m args below meth c H locs lsA A hC hW hA hS hL
  unfold ix_putJ at hk
  split at hk
  · next v a st =>
    exact fq_put hC hW hA hS d hf (fun q => by cases q) hk.1 (hn _).1 (hn _).2 S I (u2 J a f v) rfl (fun b hb => fq_E_cong rfl rfl rfl rfl (u2_ne hb)) (fq_fs_set hk.1 hk.1 hN (by rw [ht, u2_eq]) (fun i hi => ⟨rfl, rfl, u2_ne2 hi⟩)) (fun H' locs' hW' hS' => h _ _ _ _ _ _ _ _ hk.2 p e s m args below meth c H' locs' lsA A hC hW' hA hS' hL)
  · exact hk.elim
def ix_putR (ci f : Nat) (K : Cn) : Cn := fun ls st S I J z k n => match st with
  | .ref v :: .ref a :: st => S.1 a = ci ∧ K ls st (S.1, S.2.1, u2 S.2.2 a f (some v)) I J z k n
  | _ => False
theorem sx_putR {l : Launch} {G : GT} {M : MT} {D mc ms : Nat} {Q : Post} {pc : Nat} {K : Cn} {idx ci f : Nat} {fin : Bool} (d : decode M.2.1 pc = .ok (.putfield idx, 3)) (hf : fq_fl M.1.cls idx ci f fin) (hfi : fin = true → M.1.name = "<init>" ∧ (vwCl[ci]?).map (fun r => r.1) = some M.1.cls) (hN : f < nF ci) (ht : ∀ r i j, fq_fv (tyF ci f) r i j = va_rf r) (hn : ∀ v, narrow (tyF ci f) (.ref v) = .ref v ∧ fits (tyF ci f) (.ref v) = true) (h : Imp l G M D mc ms Q K (pc + 3)) : Imp l G M D mc ms Q (ix_putR ci f K) pc := by
  intro ls st S I J z k n hk p e s m args below meth c H locs lsA A hC hW hA hS hL
  unfold ix_putR at hk
  split at hk
  · next v a st =>
    exact fq_put hC hW hA hS d hf hfi hk.1 (hn v).1 (hn v).2 (S.1, S.2.1, u2 S.2.2 a f (some v)) I J rfl (fun b hb => fq_E_cong rfl rfl (u2_ne hb) rfl rfl) (fq_fs_set hk.1 hk.1 hN (by rw [ht]; show va_rf (u2 S.2.2 a f (some v) a f) = _; rw [u2_eq]; rfl) (fun i hi => ⟨u2_ne2 hi, rfl, rfl⟩)) (fun H' locs' hW' hS' => h _ _ _ _ _ _ _ _ hk.2 p e s m args below meth c H' locs' lsA A hC hW' hA hS' hL)
  · exact hk.elim
theorem fq_ar_i {G : GT} {S : Sh} {I : IH} {J : JH} {a k : Nat} (h : S.1 a = k) (h1 : 13 ≤ k) (h2 : k ≤ 14) : fq_E G S I J a = .inl (G.2.2.1 k, S.2.1 a, .inl (I a)) := by
  rw [fq_E_arr (by omega)]
  unfold fq_ar
  rw [h, if_pos h2]
theorem fq_ar_j {G : GT} {S : Sh} {I : IH} {J : JH} {a : Nat} (h : S.1 a = 15) : fq_E G S I J a = .inl (G.2.2.1 15, S.2.1 a, .inr (.inl (J a))) := by
  rw [fq_E_arr (by omega)]
  unfold fq_ar
  rw [h]
  rfl
theorem fq_ar_r {G : GT} {S : Sh} {I : IH} {J : JH} {a k : Nat} (h : S.1 a = k) (h1 : 16 ≤ k) : fq_E G S I J a = .inl (G.2.2.1 k, S.2.1 a, .inr (.inr (.inr (.inr (S.2.2 a))))) := by
  rw [fq_E_arr (by omega)]
  unfold fq_ar
  rw [h, if_neg (by omega), if_neg (by omega)]
theorem fq_tys_at (G : GT) {k : Nat} (h1 : 13 ≤ k) (h2 : k < 21) : (fq_tys G)[k - 13]? = some (G.2.2.1 k, fq_ty k) := by
  rcases (show k = 13 ∨ k = 14 ∨ k = 15 ∨ k = 16 ∨ k = 17 ∨ k = 18 ∨ k = 19 ∨ k = 20 by omega) with rfl | rfl | rfl | rfl | rfl | rfl | rfl | rfl <;> rfl
def ix_iald (K : Cn) : Cn := fun ls st S I J z k n => match st with
  | .int i :: .ref a :: st => S.1 a = 14 ∧ vp_in i (S.2.1 a) ∧ K ls (.int (I a i.toNatClampNeg) :: st) S I J z k n
  | _ => False
theorem sx_iald {l : Launch} {G : GT} {M : MT} {D mc ms : Nat} {Q : Post} {pc : Nat} {K : Cn} (d : decode M.2.1 pc = .ok (.iaload, 1)) (h : Imp l G M D mc ms Q K (pc + 1)) : Imp l G M D mc ms Q (ix_iald K) pc := by
  intro ls st S I J z k n hk p e s m args below meth c H locs lsA A hC hW hA hS hL
  unfold ix_iald at hk
  split at hk
  · next i a st =>
    have hat := hW.2 a (by omega)
    rw [fq_ar_i hk.1 (by omega) (by omega)] at hat
    exact va_iald hC.1 hC.2.1 hC.2.2.2.2.2.2.2.2.2.1 (va_P1 hat) 0 1 rfl rfl hk.2.1 d (h _ _ _ _ _ _ _ _ hk.2.2 p e s m args below meth c H locs lsA A hC hW hA hS hL)
  · exact hk.elim
def ix_bald (K : Cn) : Cn := fun ls st S I J z k n => match st with
  | .int i :: .ref a :: st => S.1 a = 13 ∧ vp_in i (S.2.1 a) ∧ K ls (.int (I a i.toNatClampNeg) :: st) S I J z k n
  | _ => False
theorem sx_bald {l : Launch} {G : GT} {M : MT} {D mc ms : Nat} {Q : Post} {pc : Nat} {K : Cn} (d : decode M.2.1 pc = .ok (.baload, 1)) (h : Imp l G M D mc ms Q K (pc + 1)) : Imp l G M D mc ms Q (ix_bald K) pc := by
  intro ls st S I J z k n hk p e s m args below meth c H locs lsA A hC hW hA hS hL
  unfold ix_bald at hk
  split at hk
  · next i a st =>
    have hat := hW.2 a (by omega)
    rw [fq_ar_i hk.1 (by omega) (by omega)] at hat
    exact va_bald hC.1 hC.2.1 hC.2.2.2.2.2.2.2.2.2.1 (va_P1 hat) 0 0 rfl rfl hk.2.1 d (h _ _ _ _ _ _ _ _ hk.2.2 p e s m args below meth c H locs lsA A hC hW hA hS hL)
  · exact hk.elim
def ix_lald (K : Cn) : Cn := fun ls st S I J z k n => match st with
  | .int i :: .ref a :: st => S.1 a = 15 ∧ vp_in i (S.2.1 a) ∧ K ls (.long (J a i.toNatClampNeg) :: st) S I J z k n
  | _ => False
theorem sx_lald {l : Launch} {G : GT} {M : MT} {D mc ms : Nat} {Q : Post} {pc : Nat} {K : Cn} (d : decode M.2.1 pc = .ok (.laload, 1)) (h : Imp l G M D mc ms Q K (pc + 1)) : Imp l G M D mc ms Q (ix_lald K) pc := by
  intro ls st S I J z k n hk p e s m args below meth c H locs lsA A hC hW hA hS hL
  unfold ix_lald at hk
  split at hk
  · next i a st =>
    have hat := hW.2 a (by omega)
    rw [fq_ar_j hk.1] at hat
    exact va_lald hC.1 hC.2.1 hC.2.2.2.2.2.2.2.2.2.1 (va_P1 hat) 0 2 rfl rfl hk.2.1 d (h _ _ _ _ _ _ _ _ hk.2.2 p e s m args below meth c H locs lsA A hC hW hA hS hL)
  · exact hk.elim
def ix_aald (kd : Nat) (K : Cn) : Cn := fun ls st S I J z k n => match st with
  | .int i :: .ref a :: st => S.1 a = kd ∧ vp_in i (S.2.1 a) ∧ ∃ b, S.2.2 a i.toNatClampNeg = some b ∧ K ls (.ref b :: st) S I J z k n
  | _ => False
theorem sx_aald {l : Launch} {G : GT} {M : MT} {D mc ms : Nat} {Q : Post} {pc : Nat} {K : Cn} {kd : Nat} {C : String} (d : decode M.2.1 pc = .ok (.aaload, 1)) (h1 : 16 ≤ kd) (h2 : kd < 21) (hc : fq_ty kd = .object C) (h : Imp l G M D mc ms Q K (pc + 1)) : Imp l G M D mc ms Q (ix_aald kd K) pc := by
  intro ls st S I J z k n hk p e s m args below meth c H locs lsA A hC hW hA hS hL
  unfold ix_aald at hk
  split at hk
  · next i a st =>
    obtain ⟨g1, g2, b, g3, g4⟩ := hk
    have hat := hW.2 a (by omega)
    rw [fq_ar_r g1 h1] at hat
    refine va_aldq (C := C) hC.1 hC.2.1 hC.2.2.2.2.2.2.2.2.2.1 (va_P1 hat) 0 (kd - 13) rfl (by rw [fq_tys_at G (by omega) h2, hc]) g2 d ?_
    rw [g3]
    exact h _ _ _ _ _ _ _ _ g4 p e s m args below meth c H locs lsA A hC hW hA hS hL
  · exact hk.elim
def ix_alen (kd : Nat) (K : Cn) : Cn := fun ls st S I J z k n => match st with
  | .ref a :: st => S.1 a = kd ∧ K ls (.int (Int32.ofNat (S.2.1 a)) :: st) S I J z k n
  | _ => False
theorem sx_alen {l : Launch} {G : GT} {M : MT} {D mc ms : Nat} {Q : Post} {pc : Nat} {K : Cn} {kd : Nat} (d : decode M.2.1 pc = .ok (.arraylength, 1)) (h1 : 13 ≤ kd) (h2 : kd < 21) (h : Imp l G M D mc ms Q K (pc + 1)) : Imp l G M D mc ms Q (ix_alen kd K) pc := by
  intro ls st S I J z k n hk p e s m args below meth c H locs lsA A hC hW hA hS hL
  unfold ix_alen at hk
  split at hk
  · next a st =>
    have hat := hW.2 a (by omega)
    rw [fq_E_arr (by omega)] at hat
    exact va_alen hC.1 hC.2.1 hC.2.2.2.2.2.2.2.2.2.1 (va_P1 hat) 0 (S.1 a - 13) rfl (fq_tys_at G (by omega) (by omega)) rfl d (h _ _ _ _ _ _ _ _ hk.2 p e s m args below meth c H locs lsA A hC hW hA hS hL)
  · exact hk.elim
def ix_iast (K : Cn) : Cn := fun ls st S I J z k n => match st with
  | .int x :: .int i :: .ref a :: st => S.1 a = 14 ∧ vp_in i (S.2.1 a) ∧ K ls st S (u2 I a i.toNatClampNeg x) J z k n
  | _ => False
theorem sx_iast {l : Launch} {G : GT} {M : MT} {D mc ms : Nat} {Q : Post} {pc : Nat} {K : Cn} (d : decode M.2.1 pc = .ok (.iastore, 1)) (h : Imp l G M D mc ms Q K (pc + 1)) : Imp l G M D mc ms Q (ix_iast K) pc := by
  intro ls st S I J z k n hk p e s m args below meth c H locs lsA A hC hW hA hS hL
  unfold ix_iast at hk
  split at hk
  · next x i a st =>
    have hat := hW.2 a (by omega)
    rw [fq_ar_i hk.1 (by omega) (by omega)] at hat
    refine W.iast hC.1 hC.2.1 hat ((hC.2.2.2.2.2.2.2.2.2.1.2 1 _ rfl).1 (S.2.1 a) (fun j => .int (I a j))) (fun q => by cases q) (by show ¬ (i < 0 ∨ (arrV _ _ _).slots.size ≤ _); rw [arrV_size]; exact hk.2.1) rfl rfl d fun H1 e1 e2 e3 => ?_
    refine h _ _ _ _ _ _ _ _ hk.2.2 p e s m args below meth c H1 _ lsA A hC ⟨e2.trans hW.1, fun b hb => ?_⟩ hA (hS.put e2 e3 (hA a (by omega))) hL
    by_cases hq : b = a
    · subst hq
      rw [fq_ar_i hk.1 (by omega) (by omega)]
      show H1[b]? = some (vp_cell _ _)
      rw [e1]
      rw [vp_cell_i, vp_cell_i, arrV_store]
      congr 2
      funext q
      by_cases hq : q = i.toNatClampNeg
      · subst hq
        simp [updV, u2]
      · simp [updV, u2, hq]
    · rw [fq_E_cong (S := S) (I := I) (J := J) rfl rfl rfl (u2_ne hq) rfl]
      exact (hW.2 b hb).kept (e3 b hq)
  · exact hk.elim
def ix_bast (K : Cn) : Cn := fun ls st S I J z k n => match st with
  | .int x :: .int i :: .ref a :: st => S.1 a = 13 ∧ vp_in i (S.2.1 a) ∧ K ls st S (u2 I a i.toNatClampNeg (vp_nar .byte x)) J z k n
  | _ => False
theorem sx_bast {l : Launch} {G : GT} {M : MT} {D mc ms : Nat} {Q : Post} {pc : Nat} {K : Cn} (d : decode M.2.1 pc = .ok (.bastore, 1)) (h : Imp l G M D mc ms Q K (pc + 1)) : Imp l G M D mc ms Q (ix_bast K) pc := by
  intro ls st S I J z k n hk p e s m args below meth c H locs lsA A hC hW hA hS hL
  unfold ix_bast at hk
  split at hk
  · next x i a st =>
    have hat := hW.2 a (by omega)
    rw [fq_ar_i hk.1 (by omega) (by omega)] at hat
    refine W.bast hC.1 hC.2.1 hat ((hC.2.2.2.2.2.2.2.2.2.1.2 0 _ rfl).1 (S.2.1 a) (fun j => .int (I a j))) (fun q => by cases q) (by show ¬ (i < 0 ∨ (arrV _ _ _).slots.size ≤ _); rw [arrV_size]; exact hk.2.1) rfl rfl d fun H1 e1 e2 e3 => ?_
    refine h _ _ _ _ _ _ _ _ hk.2.2 p e s m args below meth c H1 _ lsA A hC ⟨e2.trans hW.1, fun b hb => ?_⟩ hA (hS.put e2 e3 (hA a (by omega))) hL
    by_cases hq : b = a
    · subst hq
      rw [fq_ar_i hk.1 (by omega) (by omega)]
      show H1[b]? = some (vp_cell _ _)
      rw [e1]
      rw [vp_cell_i, vp_cell_i, arrV_store]
      congr 2
      funext q
      by_cases hq : q = i.toNatClampNeg
      · subst hq
        simp [updV, u2, vp_nar, narrow]
      · simp [updV, u2, hq]
    · rw [fq_E_cong (S := S) (I := I) (J := J) rfl rfl rfl (u2_ne hq) rfl]
      exact (hW.2 b hb).kept (e3 b hq)
  · exact hk.elim
def ix_last (K : Cn) : Cn := fun ls st S I J z k n => match st with
  | .long x :: .int i :: .ref a :: st => S.1 a = 15 ∧ vp_in i (S.2.1 a) ∧ K ls st S I (u2 J a i.toNatClampNeg x) z k n
  | _ => False
theorem sx_last {l : Launch} {G : GT} {M : MT} {D mc ms : Nat} {Q : Post} {pc : Nat} {K : Cn} (d : decode M.2.1 pc = .ok (.lastore, 1)) (h : Imp l G M D mc ms Q K (pc + 1)) : Imp l G M D mc ms Q (ix_last K) pc := by
  intro ls st S I J z k n hk p e s m args below meth c H locs lsA A hC hW hA hS hL
  unfold ix_last at hk
  split at hk
  · next x i a st =>
    have hat := hW.2 a (by omega)
    rw [fq_ar_j hk.1] at hat
    refine W.last hC.1 hC.2.1 hat ((hC.2.2.2.2.2.2.2.2.2.1.2 2 _ rfl).1 (S.2.1 a) (fun j => .long (J a j))) (fun q => by cases q) (by show ¬ (i < 0 ∨ (arrV _ _ _).slots.size ≤ _); rw [arrV_size]; exact hk.2.1) rfl rfl d fun H1 e1 e2 e3 => ?_
    refine h _ _ _ _ _ _ _ _ hk.2.2 p e s m args below meth c H1 _ lsA A hC ⟨e2.trans hW.1, fun b hb => ?_⟩ hA (hS.put e2 e3 (hA a (by omega))) hL
    by_cases hq : b = a
    · subst hq
      rw [fq_ar_j hk.1]
      show H1[b]? = some (vp_cell _ _)
      rw [e1]
      rw [vp_cell_l, vp_cell_l, arrV_store]
      congr 2
      funext q
      by_cases hq : q = i.toNatClampNeg
      · subst hq
        simp [updV, u2]
      · simp [updV, u2, hq]
    · rw [fq_E_cong (S := S) (I := I) (J := J) rfl rfl rfl rfl (u2_ne hq)]
      exact (hW.2 b hb).kept (e3 b hq)
  · exact hk.elim
