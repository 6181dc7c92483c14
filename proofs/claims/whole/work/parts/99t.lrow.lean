/-! the law: its own judgement, its rows -/
abbrev M_law (nm : String) : MT := ((⟨"FootQuarrelLaw", nm, "([I)Z"⟩ : MethodName), code, 4, ret)
/-- the script, out of the pool -/
def lwX (sb sL : Nat) (sx : Nat → Int32) (s : State) (A : Nat → Prop) : Prop := va_X sb sL sx s s.heap ∧ sb < s.heap.size ∧ ¬ A sb ∧ ∀ q, A q → s.heap.size ≤ q
def lwAt (l : Launch) (G : GT) (nm : String) (sb sL : Nat) (sx : Nat → Int32) (pc : Nat) : Cn := fun ls st S I J z k n =>
  ∀ (p : Program) (e : Env) (s : State) (m : MethodId) (below : List Frame) (meth : Method) (c : Code) (H : Heap) (locs : List Loc) (lsA : Array Slot) (A : Nat → Prop),
    fq_Cx G (M_law nm) p s m #[.ref sb] meth c A → lwX sb sL sx s A → fq_W G S I J z H → (∀ a, S.1 a < 21 → A a) → va_S A s.heap H locs → fq_L lsA 4 ls →
    W p l e room_1 s m #[.ref sb] below meth c H locs k n (lw_Z below #[.ref sb] s) (F0 m pc lsA st)
abbrev ImpL (l : Launch) (G : GT) (nm : String) (sb sL : Nat) (sx : Nat → Int32) (K : Cn) (pc : Nat) : Prop := ∀ (ls : List (Option Value)) (st : List Value) (S : Sh) (I : IH) (J : JH) (z k n : Nat), K ls st S I J z k n → lwAt l G nm sb sL sx pc ls st S I J z k n
theorem lx_dead {l : Launch} {G : GT} {nm : String} {sb sL : Nat} {sx : Nat → Int32} {pc : Nat} : ImpL l G nm sb sL sx ix_dead pc := fun _ _ _ _ _ _ _ _ h => h.elim
theorem lx_dupR {l : Launch} {G : GT} {nm : String} {sb sL : Nat} {sx : Nat → Int32} {pc : Nat} {K : Cn} (d : decode code pc = .ok (.dup, 1)) (h : ImpL l G nm sb sL sx K (pc + 1)) : ImpL l G nm sb sL sx (ix_dupR K) pc := by
  intro ls st S I J z k n hk p e s m below meth c H locs lsA A hC hX hW hA hS hL
  unfold ix_dupR at hk
  split at hk
  · exact lv_dup hC.1 hC.2.1 d rfl (h _ _ _ _ _ _ _ _ hk p e s m below meth c H locs lsA A hC hX hW hA hS hL)
  · exact hk.elim
theorem lx_astore_n {l : Launch} {G : GT} {nm : String} {sb sL : Nat} {sx : Nat → Int32} {pc : Nat} {K : Cn} {i : Nat} {f : Fin 4} (d : decode code pc = .ok (.astore_n f, 1)) (hi : (f : Nat) = i) (hn : i < 4) (h : ImpL l G nm sb sL sx K (pc + 1)) : ImpL l G nm sb sL sx (ix_astore i K) pc := by
  intro ls st S I J z k n hk p e s m below meth c H locs lsA A hC hX hW hA hS hL
  unfold ix_astore at hk
  split at hk
  · exact lv_astore_n hC.1 hC.2.1 d hi hL.has hn rfl (fun ls' h' => h _ _ _ _ _ _ _ _ hk p e s m below meth c H locs ls' A hC hX hW hA hS (fq_L.st1 h'))
  · exact hk.elim
theorem lx_iconst {l : Launch} {G : GT} {nm : String} {sb sL : Nat} {sx : Nat → Int32} {pc : Nat} {K : Cn} {a : Int} {v : Int32} (d : decode code pc = .ok (.iconst a, 1)) (hv : Int32.ofInt a = v) (h : ImpL l G nm sb sL sx K (pc + 1)) : ImpL l G nm sb sL sx (ix_pushI v K) pc := by
  intro ls st S I J z k n hk p e s m below meth c H locs lsA A hC hX hW hA hS hL
  exact lv_iconst hC.1 hC.2.1 d hv (h _ _ _ _ _ _ _ _ hk p e s m below meth c H locs lsA A hC hX hW hA hS hL)
theorem lx_istore_n {l : Launch} {G : GT} {nm : String} {sb sL : Nat} {sx : Nat → Int32} {pc : Nat} {K : Cn} {i : Nat} {f : Fin 4} (d : decode code pc = .ok (.istore_n f, 1)) (hi : (f : Nat) = i) (hn : i < 4) (h : ImpL l G nm sb sL sx K (pc + 1)) : ImpL l G nm sb sL sx (ix_istore i K) pc := by
  intro ls st S I J z k n hk p e s m below meth c H locs lsA A hC hX hW hA hS hL
  unfold ix_istore at hk
  split at hk
  · exact lv_istore_n hC.1 hC.2.1 d hi hL.has hn rfl (fun ls' h' => h _ _ _ _ _ _ _ _ hk p e s m below meth c H locs ls' A hC hX hW hA hS (fq_L.st1 h'))
  · exact hk.elim
theorem lx_iload_n {l : Launch} {G : GT} {nm : String} {sb sL : Nat} {sx : Nat → Int32} {pc : Nat} {K : Cn} {i : Nat} {f : Fin 4} (d : decode code pc = .ok (.iload_n f, 1)) (hi : (f : Nat) = i) (h : ImpL l G nm sb sL sx K (pc + 1)) : ImpL l G nm sb sL sx (ix_iload i K) pc := by
  intro ls st S I J z k n hk p e s m below meth c H locs lsA A hC hX hW hA hS hL
  unfold ix_iload at hk
  split at hk
  · next x hx => exact lv_iload_n hC.1 hC.2.1 d hi (hL.2.2 _ _ hx) (h _ _ _ _ _ _ _ _ hk p e s m below meth c H locs lsA A hC hX hW hA hS hL)
  · exact hk.elim
theorem lx_aload_n {l : Launch} {G : GT} {nm : String} {sb sL : Nat} {sx : Nat → Int32} {pc : Nat} {K : Cn} {i : Nat} {f : Fin 4} (d : decode code pc = .ok (.aload_n f, 1)) (hi : (f : Nat) = i) (h : ImpL l G nm sb sL sx K (pc + 1)) : ImpL l G nm sb sL sx (ix_aload i K) pc := by
  intro ls st S I J z k n hk p e s m below meth c H locs lsA A hC hX hW hA hS hL
  unfold ix_aload at hk
  split at hk
  · next x hx => exact lv_aload_n hC.1 hC.2.1 d hi (hL.2.2 _ _ hx) (h _ _ _ _ _ _ _ _ hk p e s m below meth c H locs lsA A hC hX hW hA hS hL)
  · exact hk.elim
theorem lx_bipush {l : Launch} {G : GT} {nm : String} {sb sL : Nat} {sx : Nat → Int32} {pc : Nat} {K : Cn} {a : Int} {v : Int32} (d : decode code pc = .ok (.bipush a, 2)) (hv : (Int8.ofInt a).toInt32 = v) (h : ImpL l G nm sb sL sx K (pc + 2)) : ImpL l G nm sb sL sx (ix_pushI v K) pc := by
  intro ls st S I J z k n hk p e s m below meth c H locs lsA A hC hX hW hA hS hL
  exact lv_bipush hC.1 hC.2.1 d hv (h _ _ _ _ _ _ _ _ hk p e s m below meth c H locs lsA A hC hX hW hA hS hL)
theorem lx_isub {l : Launch} {G : GT} {nm : String} {sb sL : Nat} {sx : Nat → Int32} {pc : Nat} {K : Cn} (d : decode code pc = .ok (.isub, 1)) (h : ImpL l G nm sb sL sx K (pc + 1)) : ImpL l G nm sb sL sx (ix_isub K) pc := by
  intro ls st S I J z k n hk p e s m below meth c H locs lsA A hC hX hW hA hS hL
  unfold ix_isub at hk
  split at hk
  · exact lv_isub hC.1 hC.2.1 d  (h _ _ _ _ _ _ _ _ hk p e s m below meth c H locs lsA A hC hX hW hA hS hL)
  · exact hk.elim
theorem lx_icmp_gt {l : Launch} {G : GT} {nm : String} {sb sL : Nat} {sx : Nat → Int32} {pc : Nat} {Kt Kf : Cn} {off : Int} (t : Nat) (d : decode code pc = .ok (.if_icmp .gt off, 3)) (ht : (pc : Int) + off = (t : Int)) (h1 : ImpL l G nm sb sL sx Kt t) (h2 : ImpL l G nm sb sL sx Kf (pc + 3)) : ImpL l G nm sb sL sx (ix_icmp_gt Kt Kf) pc := by
  intro ls st S I J z k n hk p e s m below meth c H locs lsA A hC hX hW hA hS hL
  unfold ix_icmp_gt at hk
  split at hk
  · exact lv_icmp_gt hC.1 hC.2.1 d ht (fun q => h1 _ _ _ _ _ _ _ _ (hk.1 q) p e s m below meth c H locs lsA A hC hX hW hA hS hL) (fun q => h2 _ _ _ _ _ _ _ _ (hk.2 q) p e s m below meth c H locs lsA A hC hX hW hA hS hL)
  · exact hk.elim
theorem lx_iand {l : Launch} {G : GT} {nm : String} {sb sL : Nat} {sx : Nat → Int32} {pc : Nat} {K : Cn} (d : decode code pc = .ok (.iand, 1)) (h : ImpL l G nm sb sL sx K (pc + 1)) : ImpL l G nm sb sL sx (ix_iand K) pc := by
  intro ls st S I J z k n hk p e s m below meth c H locs lsA A hC hX hW hA hS hL
  unfold ix_iand at hk
  split at hk
  · exact lv_iand hC.1 hC.2.1 d  (h _ _ _ _ _ _ _ _ hk p e s m below meth c H locs lsA A hC hX hW hA hS hL)
  · exact hk.elim
theorem lx_icmp_eq {l : Launch} {G : GT} {nm : String} {sb sL : Nat} {sx : Nat → Int32} {pc : Nat} {Kt Kf : Cn} {off : Int} (t : Nat) (d : decode code pc = .ok (.if_icmp .eq off, 3)) (ht : (pc : Int) + off = (t : Int)) (h1 : ImpL l G nm sb sL sx Kt t) (h2 : ImpL l G nm sb sL sx Kf (pc + 3)) : ImpL l G nm sb sL sx (ix_icmp_eq Kt Kf) pc := by
  intro ls st S I J z k n hk p e s m below meth c H locs lsA A hC hX hW hA hS hL
  unfold ix_icmp_eq at hk
  split at hk
  · exact lv_icmp_eq hC.1 hC.2.1 d ht (fun q => h1 _ _ _ _ _ _ _ _ (hk.1 q) p e s m below meth c H locs lsA A hC hX hW hA hS hL) (fun q => h2 _ _ _ _ _ _ _ _ (hk.2 q) p e s m below meth c H locs lsA A hC hX hW hA hS hL)
  · exact hk.elim
theorem lx_lcmp {l : Launch} {G : GT} {nm : String} {sb sL : Nat} {sx : Nat → Int32} {pc : Nat} {K : Cn} (d : decode code pc = .ok (.lcmp, 1)) (h : ImpL l G nm sb sL sx K (pc + 1)) : ImpL l G nm sb sL sx (ix_lcmp K) pc := by
  intro ls st S I J z k n hk p e s m below meth c H locs lsA A hC hX hW hA hS hL
  unfold ix_lcmp at hk
  split at hk
  · exact W.lcmp hC.1 hC.2.1 d  (h _ _ _ _ _ _ _ _ hk p e s m below meth c H locs lsA A hC hX hW hA hS hL)
  · exact hk.elim
theorem lx_if_eq {l : Launch} {G : GT} {nm : String} {sb sL : Nat} {sx : Nat → Int32} {pc : Nat} {Kt Kf : Cn} {off : Int} (t : Nat) (d : decode code pc = .ok (.ifCond .eq off, 3)) (ht : (pc : Int) + off = (t : Int)) (h1 : ImpL l G nm sb sL sx Kt t) (h2 : ImpL l G nm sb sL sx Kf (pc + 3)) : ImpL l G nm sb sL sx (ix_if_eq Kt Kf) pc := by
  intro ls st S I J z k n hk p e s m below meth c H locs lsA A hC hX hW hA hS hL
  unfold ix_if_eq at hk
  split at hk
  · exact lv_if_eq hC.1 hC.2.1 d ht (fun q => h1 _ _ _ _ _ _ _ _ (hk.1 q) p e s m below meth c H locs lsA A hC hX hW hA hS hL) (fun q => h2 _ _ _ _ _ _ _ _ (hk.2 q) p e s m below meth c H locs lsA A hC hX hW hA hS hL)
  · exact hk.elim
theorem lx_iadd {l : Launch} {G : GT} {nm : String} {sb sL : Nat} {sx : Nat → Int32} {pc : Nat} {K : Cn} (d : decode code pc = .ok (.iadd, 1)) (h : ImpL l G nm sb sL sx K (pc + 1)) : ImpL l G nm sb sL sx (ix_iadd K) pc := by
  intro ls st S I J z k n hk p e s m below meth c H locs lsA A hC hX hW hA hS hL
  unfold ix_iadd at hk
  split at hk
  · exact lv_iadd hC.1 hC.2.1 d  (h _ _ _ _ _ _ _ _ hk p e s m below meth c H locs lsA A hC hX hW hA hS hL)
  · exact hk.elim
theorem lx_i2l {l : Launch} {G : GT} {nm : String} {sb sL : Nat} {sx : Nat → Int32} {pc : Nat} {K : Cn} (d : decode code pc = .ok (.i2l, 1)) (h : ImpL l G nm sb sL sx K (pc + 1)) : ImpL l G nm sb sL sx (ix_i2l K) pc := by
  intro ls st S I J z k n hk p e s m below meth c H locs lsA A hC hX hW hA hS hL
  unfold ix_i2l at hk
  split at hk
  · exact lv_i2l hC.1 hC.2.1 d rfl (h _ _ _ _ _ _ _ _ hk p e s m below meth c H locs lsA A hC hX hW hA hS hL)
  · exact hk.elim
theorem lx_lshl {l : Launch} {G : GT} {nm : String} {sb sL : Nat} {sx : Nat → Int32} {pc : Nat} {K : Cn} (d : decode code pc = .ok (.lshl, 1)) (h : ImpL l G nm sb sL sx K (pc + 1)) : ImpL l G nm sb sL sx (ix_lshl K) pc := by
  intro ls st S I J z k n hk p e s m below meth c H locs lsA A hC hX hW hA hS hL
  unfold ix_lshl at hk
  split at hk
  · exact lv_lshl hC.1 hC.2.1 d rfl (h _ _ _ _ _ _ _ _ hk p e s m below meth c H locs lsA A hC hX hW hA hS hL)
  · exact hk.elim
theorem lx_ldc2 {l : Launch} {G : GT} {nm : String} {sb sL : Nat} {sx : Nat → Int32} {pc : Nat} {K : Cn} {a : Nat} {v : Int64} (d : decode code pc = .ok (.ldc2_w a, 3)) (hw : Cond.constantLong "FootQuarrelLaw" a v ∈ fq_all) (h : ImpL l G nm sb sL sx K (pc + 3)) : ImpL l G nm sb sL sx (ix_pushL v K) pc := by
  intro ls st S I J z k n hk p e s m below meth c H locs lsA A hC hX hW hA hS hL
  exact lv_ldc2 hC.1 hC.2.1 hC.2.2.2.2.1 (hC.2.2.2.2.2.1 _ hw) d (h _ _ _ _ _ _ _ _ hk p e s m below meth c H locs lsA A hC hX hW hA hS hL)
theorem lx_land {l : Launch} {G : GT} {nm : String} {sb sL : Nat} {sx : Nat → Int32} {pc : Nat} {K : Cn} (d : decode code pc = .ok (.land, 1)) (h : ImpL l G nm sb sL sx K (pc + 1)) : ImpL l G nm sb sL sx (ix_land K) pc := by
  intro ls st S I J z k n hk p e s m below meth c H locs lsA A hC hX hW hA hS hL
  unfold ix_land at hk
  split at hk
  · exact lv_land hC.1 hC.2.1 d  (h _ _ _ _ _ _ _ _ hk p e s m below meth c H locs lsA A hC hX hW hA hS hL)
  · exact hk.elim
theorem lx_lor {l : Launch} {G : GT} {nm : String} {sb sL : Nat} {sx : Nat → Int32} {pc : Nat} {K : Cn} (d : decode code pc = .ok (.lor, 1)) (h : ImpL l G nm sb sL sx K (pc + 1)) : ImpL l G nm sb sL sx (ix_lor K) pc := by
  intro ls st S I J z k n hk p e s m below meth c H locs lsA A hC hX hW hA hS hL
  unfold ix_lor at hk
  split at hk
  · exact lv_lor hC.1 hC.2.1 d  (h _ _ _ _ _ _ _ _ hk p e s m below meth c H locs lsA A hC hX hW hA hS hL)
  · exact hk.elim
theorem lx_goto {l : Launch} {G : GT} {nm : String} {sb sL : Nat} {sx : Nat → Int32} {pc : Nat} {K : Cn} {off : Int} (t : Nat) (d : decode code pc = .ok (.goto off, 3)) (ht : (pc : Int) + off = (t : Int)) (h : ImpL l G nm sb sL sx K t) : ImpL l G nm sb sL sx K pc := by
  intro ls st S I J z k n hk p e s m below meth c H locs lsA A hC hX hW hA hS hL
  exact lv_goto hC.1 hC.2.1 d ht (h _ _ _ _ _ _ _ _ hk p e s m below meth c H locs lsA A hC hX hW hA hS hL)
theorem lx_iinc {l : Launch} {G : GT} {nm : String} {sb sL : Nat} {sx : Nat → Int32} {pc : Nat} {K : Cn} {i : Nat} {b : Int} {a : Int32} (d : decode code pc = .ok (.iinc i b, 3)) (ha : Int32.ofInt b = a) (hn : i < 4) (h : ImpL l G nm sb sL sx K (pc + 3)) : ImpL l G nm sb sL sx (ix_iinc i a K) pc := by
  intro ls st S I J z k n hk p e s m below meth c H locs lsA A hC hX hW hA hS hL
  unfold ix_iinc at hk
  split at hk
  · next x hx =>
    obtain ⟨q, hq⟩ := List.getElem?_of_mem (fq_pr_mem.mpr hx)
    exact lv_iinc hC.1 hC.2.1 d hL.has hq (by rw [ha]) hn rfl (fun ls' h' => h _ _ _ _ _ _ _ _ hk p e s m below meth c H locs ls' A hC hX hW hA hS (fq_L.st1 h'))
  · exact hk.elim
theorem lx_tsw {l : Launch} {G : GT} {nm : String} {sb sL : Nat} {sx : Nat → Int32} {pc : Nat} {Ks : List Cn} {Kd : Cn} {dflt lo hi : Int} {offs : Array Int} {len : Nat} (ts : List Nat) (td : Nat) (d : decode code pc = .ok (.tableswitch dflt lo hi offs, len)) (hlen : Ks.length = ts.length) (hhi : hi = lo + ts.length - 1) (hts : offs.toList.map (fun o => (pc : Int) + o) = ts.map (fun (t : Nat) => (t : Int))) (htd : (pc : Int) + dflt = (td : Int)) (h : ∀ (i : Nat) (K : Cn) (t : Nat), Ks[i]? = some K → ts[i]? = some t → ImpL l G nm sb sL sx K t) (hd : ImpL l G nm sb sL sx Kd td) : ImpL l G nm sb sL sx (ix_tsw lo Ks Kd) pc := by
  intro ls st S I J z k n hk p e s m below meth c H locs lsA A hC hX hW hA hS hL
  unfold ix_tsw at hk
  split at hk
  · next x st =>
    by_cases hx : x.toInt < lo ∨ hi < x.toInt
    · exact lv_tableOut hC.1 hC.2.1 d hx htd (hd _ _ _ _ _ _ _ _ (fq_sw_out hk (by simp [hlen]; omega)) p e s m below meth c H locs lsA A hC hX hW hA hS hL)
    · have hx1 : ¬ x.toInt < lo := fun q => hx (Or.inl q)
      have hx2 : ¬ hi < x.toInt := fun q => hx (Or.inr q)
      have hi1 : (x.toInt - lo).toNat < ts.length := by omega
      obtain ⟨t, ht⟩ : ∃ t, ts[(x.toInt - lo).toNat]? = some t := ⟨_, List.getElem?_eq_getElem hi1⟩
      obtain ⟨K, hK⟩ : ∃ K, Ks[(x.toInt - lo).toNat]? = some K := ⟨_, List.getElem?_eq_getElem (by omega)⟩
      have ho : (offs.toList.map (fun o => (pc : Int) + o))[(x.toInt - lo).toNat]? = some (t : Int) := by rw [hts, List.getElem?_map, ht]; rfl
      rw [List.getElem?_map] at ho
      cases ho2 : offs.toList[(x.toInt - lo).toNat]? with
      | none => rw [ho2] at ho; cases ho
      | some off =>
        rw [ho2] at ho
        have ho3 : (pc : Int) + off = (t : Int) := Option.some.inj ho
        exact lv_tableIn hC.1 hC.2.1 d hx1 hx2 (by rw [← Array.getElem?_toList]; exact ho2) ho3 (h _ K t hK ht _ _ _ _ _ _ _ _ (fq_sw_in hk (x.toInt - lo).toNat _ (by rw [List.getElem?_map, hK]; rfl) (by omega)) p e s m below meth c H locs lsA A hC hX hW hA hS hL)
  · exact hk.elim
theorem lx_new {l : Launch} {G : GT} {nm : String} {sb sL : Nat} {sx : Nat → Int32} {pc : Nat} {K : Cn} {idx ci N : Nat} {C : String} {T : u_T} (d : decode code pc = .ok (.new idx, 3)) (hci : fq_ci ci C T N) (hl : Cond.classLink "FootQuarrelLaw" idx C ∈ fq_all) (hi : Cond.instantiable C N ∈ fq_all) (hini : Cond.initialized C ∈ fq_all) (hdv : ∀ j, j < N → defaultValue (tyF ci j) = fq_fv (tyF ci j) none 0 0) (h : ImpL l G nm sb sL sx K (pc + 3)) : ImpL l G nm sb sL sx (ix_new ci N 600000 7302250 K) pc := by
  intro ls st S I J z k n hk p e s m below meth c H locs lsA A hC hX hW hA hS hL
  obtain ⟨hk1, hk2, hk3⟩ := hk
  obtain ⟨h1, h2, h3, h4, h5, h6⟩ := hci
  have hts := hC.2.2.2.2.2.1
  have hKn := hC.2.2.2.2.2.2.2.2.2.1.1 ci _ h1
  have hz := hW.1
  refine W.newcK hC.1 hC.2.1 hC.2.2.2.2.1 (hts _ hl) (hts _ hi) (hts _ hini) rfl d hk1 hk2 hKn.2.1 hz fun H1 kC hkC e1 z1 o1 => ?_
  refine h _ _ _ _ _ _ _ _ hk3 p e s m below meth c H1 locs lsA A hC hX ⟨z1, fun b hb => ?_⟩ (fun a ha => ?_) ⟨Nat.le_trans hS.1 (by omega), fun x g1 g2 => (o1 x (by have := hS.1; omega)).trans (hS.2.1 x g1 g2), hS.2.2⟩ hL
  · by_cases hbz : b = z
    · subst hbz
      rw [fq_E_obj (ci := ci) up1_eq h6]
      refine ⟨_, h1, (u_born (tyF ci) hts h2 hKn hkC e1 h3).to (fun j hj => ?_)⟩
      have hg := fq_fs_get (S := (up1 S.1 b ci, S.2.1, up1 S.2.2 b (fun _ => none))) (I := up1 I b (fun _ => 0)) (J := up1 J b (fun _ => 0)) (a := b) (ci := ci) (k := j) up1_eq (by rw [h5]; exact hj)
      unfold vp_V
      rw [List.getD_eq_getElem?_getD, hg]
      show _ = fq_fv (tyF ci j) (up1 S.2.2 b (fun _ => none) b j) (up1 I b (fun _ => 0) b j) (up1 J b (fun _ => 0) b j)
      rw [up1_eq, up1_eq, up1_eq]
      exact hdv j hj
    · have hE : fq_E G (up1 S.1 z ci, S.2.1, up1 S.2.2 z (fun _ => none)) (up1 I z (fun _ => 0)) (up1 J z (fun _ => 0)) b = fq_E G S I J b := fq_E_cong (up1_ne hbz) rfl (up1_ne hbz) (up1_ne hbz) (up1_ne hbz)
      rw [hE]
      have hb' : S.1 b < 21 := by rw [show S.1 b = up1 S.1 z ci b from (up1_ne hbz).symm]; exact hb
      exact (hW.2 b hb').kept (o1 b (fq_fresh hW hb'))
  · by_cases haz : a = z
    · exact hC.2.2.2.2.2.2.2.2.1 a (by have := hS.1; omega)
    · exact hA a (by rw [show S.1 a = up1 S.1 z ci a from (up1_ne haz).symm]; exact ha)
theorem lx_sld {l : Launch} {G : GT} {nm : String} {sb sL : Nat} {sx : Nat → Int32} {pc : Nat} {i : Int32} {ls : List (Option Value)} {st : List Value} {S : Sh} {I : IH} {J : JH} {z k n : Nat} (d : decode code pc = .ok (.iaload, 1)) (hin : vp_in i sL) (h : lwAt l G nm sb sL sx (pc + 1) ls (.int (sx i.toNatClampNeg) :: st) S I J z k n) : lwAt l G nm sb sL sx pc ls (.int i :: .ref sb :: st) S I J z k n := by
  intro p e s m below meth c H locs lsA A hC hX hW hA hS hL
  exact va_sld hC.1 hC.2.1 hX.1 hX.2.1 hX.2.2.1 hS hin d (h p e s m below meth c H locs lsA A hC hX hW hA hS hL)
def ix_scr (sb sL : Nat) (sx : Nat → Int32) (K : Cn) : Cn := fun ls st S I J z k n => match st with
  | .int i :: .ref a :: st => a = sb ∧ vp_in i sL ∧ K ls (.int (sx i.toNatClampNeg) :: st) S I J z k n
  | _ => False
theorem lx_scr {l : Launch} {G : GT} {nm : String} {sb sL : Nat} {sx : Nat → Int32} {pc : Nat} {K : Cn} (d : decode code pc = .ok (.iaload, 1)) (h : ImpL l G nm sb sL sx K (pc + 1)) : ImpL l G nm sb sL sx (ix_scr sb sL sx K) pc := by
  intro ls st S I J z k n hk
  unfold ix_scr at hk
  split at hk
  · obtain ⟨rfl, hin, hk⟩ := hk
    exact lx_sld d hin (h _ _ _ _ _ _ _ _ hk)
  · exact hk.elim
theorem lx_slen {l : Launch} {G : GT} {nm : String} {sb sL : Nat} {sx : Nat → Int32} {pc : Nat} {ls : List (Option Value)} {st : List Value} {S : Sh} {I : IH} {J : JH} {z k n : Nat} (d : decode code pc = .ok (.arraylength, 1)) (h : lwAt l G nm sb sL sx (pc + 1) ls (.int (Int32.ofNat sL) :: st) S I J z k n) : lwAt l G nm sb sL sx pc ls (.ref sb :: st) S I J z k n := by
  intro p e s m below meth c H locs lsA A hC hX hW hA hS hL
  exact va_slen hC.1 hC.2.1 hX.1 hX.2.1 hX.2.2.1 hS d (h p e s m below meth c H locs lsA A hC hX hW hA hS hL)
/-- the law's end, with true -/
theorem lx_end {l : Launch} {G : GT} {nm : String} {sb sL : Nat} {sx : Nat → Int32} {pc : Nat} {ls : List (Option Value)} {S : Sh} {I : IH} {J : JH} {z k n : Nat} (d : decode code pc = .ok (.ireturn, 1)) (hk : k ≤ 600000) (hn : n ≤ 7302250) : lwAt l G nm sb sL sx pc ls [.int 1] S I J z k n := by
  intro p e s m below meth c H locs lsA A hC hX hW hA hS hL
  refine va_forget (fun q hq => hX.2.2.2 _ (hS.2.2 q hq)) ?_
  refine W.widen (k := 600000) (n := 7302250) hk hn ?_
  exact lw_ret hC.1 hC.2.1 hC.2.2.1 hC.2.2.2.2.2.2.1 d
theorem lw_cB {D mc' ms' : Nat} {s : State} {args : Array Value} {M' : MT} {own : String} {na idx : Nat} (hD : D ≤ 1000) (hcf : fq_cf M' na) (hts : ∀ w ∈ fq_all, w.before args s = true) (hl : Cond.methodLink own idx M'.1 ∈ fq_all) : CallB room_1 s args own idx M'.1 M'.2.1 M'.2.2.1 M'.2.2.2 (fq_ws M') (rmL D mc' ms') mc' ms' na := by
  refine callB_of (ws' := fq_all) (Ts := fq_all) na hts (fun w hw => ?_) rfl rfl rfl (hts _ hcf.1) (hts _ hl) hcf.2.2.1 ⟨?_, ?_⟩
  · rcases List.mem_cons.mp hw with h | h
    · rw [h]; exact fq_all_good _ hcf.2.1
    · exact fq_all_good _ h
  · show D + 1 ≤ 2048
    omega
  · show 8 + (M'.2.2.1 + 11) + 64 * D ≤ 84000
    have := hcf.2.2.2
    omega
/-- a call of one of the two -/
theorem lw_call {l : Launch} {G : GT} {nm : String} {sb sL : Nat} {sx : Nat → Int32} {pc : Nat} {ls : List (Option Value)} {stk st' as : List Value} {S : Sh} {I : IH} {J : JH} {z k n b idx ci na mc' ms' D : Nat} {M' : MT} {Q' : Post} (d : decode code pc = .ok (.invokevirtual idx, 3)) (hcf : fq_cf M' na) (hl : Cond.methodLink "FootQuarrelLaw" idx M'.1 ∈ fq_all) (hi : Cond.instanceMethod M'.1 ∈ fq_all) (hs : Cond.selects M'.1.cls M'.1 M'.1 ∈ fq_all) {T : u_T} {N : Nat} (hcl : vwCl[ci]? = some (M'.1.cls, T, N)) (hp : popN (na + 1) [] stk = some (.ref b :: as, st')) (h1 : (st'.map fun v => v.category).sum ≤ 8) (h2 : S.1 b = ci) (h3 : k + mc' ≤ 600000) (h4 : n + ms' ≤ 7302250) (hD : D ≤ 1000) (hsp : fqCall l G M' D mc' ms' (.ref b :: as) S I J z Q') (kk : ∀ (r : Option Value) (S1 : Sh) (I1 : IH) (J1 : JH) (z1 : Nat), Q' r S1 I1 J1 z1 → lwAt l G nm sb sL sx (pc + 3) ls (r.toList ++ st') S1 I1 J1 z1 (k + mc') (n + ms')) : lwAt l G nm sb sL sx pc ls stk S I J z k n := by
  intro p e s m below meth c H locs lsA A hC hX hW hA hS hL
  obtain ⟨xs, g1, g2, g3⟩ := popN_spec hp
  have hci : ci < 13 := by
    have := (List.getElem?_eq_some_iff.mp hcl).1
    simpa using this
  have hat := hW.2 b (by omega)
  rw [fq_E_obj h2 hci] at hat
  have hst : stk = as.reverse ++ .ref b :: st' := by
    have : xs = (Value.ref b :: as).reverse := by rw [g2]; simp
    rw [g3, this]; simp
  have hlen : as.length = na := by
    have : (Value.ref b :: as).length = na + 1 := by rw [g2]; simp [g1]
    simpa using this
  have hK := hC.2.2.2.2.2.2.2.2.2.1
  refine fq_behind hC hW hA hS (va_runV (As := as) (rest := st') ⟨hC.1, hC.2.1, hC.2.2.2.1, hC.2.2.2.2.1, hC.2.2.2.2.2.1⟩ hsp ⟨lw_cB hD hcf hC.2.2.2.2.2.1 hl, hC.2.2.2.2.2.1 _ hi, hC.2.2.2.2.2.1 _ hs⟩ ⟨fq_blind, va_recv hK (va_P1 hat) (q0 := 0) hcl rfl, (fq_preS hC hW hA hS).2⟩ rfl hlen hL.1 hst (lv_room h1) d ⟨h3, h4⟩) ?_
  intro r S1 I1 J1 z1 H1 locs1 q1 q2 q3 q4
  exact kk r S1 I1 J1 z1 q1 p e s m below meth c H1 locs1 lsA A hC hX q2 q3 q4 hL
/-- a making of one of the two -/
theorem lw_make {l : Launch} {G : GT} {nm : String} {sb sL : Nat} {sx : Nat → Int32} {pc : Nat} {ls : List (Option Value)} {stk st' as : List Value} {S : Sh} {I : IH} {J : JH} {z k n b idx na mc' ms' D : Nat} {y : MethodName} {by' : ByteArray} {nl : Nat} {Q' : Post} (d : decode code pc = .ok (.invokespecial idx, 3)) (hcf : fq_cf (y, by', nl, none) na) (hl : Cond.methodLink "FootQuarrelLaw" idx y ∈ fq_all) (hi : Cond.instanceMethod y ∈ fq_all) (hy : y.name = "<init>") (hp : popN (na + 1) [] stk = some (.ref b :: as, st')) (h1 : (st'.map fun v => v.category).sum ≤ 8) (h3 : k + mc' ≤ 600000) (h4 : n + ms' ≤ 7302250) (hD : D ≤ 1000) (hsp : fqCall l G (y, by', nl, none) D mc' ms' (.ref b :: as) S I J z Q') (kk : ∀ (r : Option Value) (S1 : Sh) (I1 : IH) (J1 : JH) (z1 : Nat), Q' r S1 I1 J1 z1 → lwAt l G nm sb sL sx (pc + 3) ls (r.toList ++ st') S1 I1 J1 z1 (k + mc') (n + ms')) : lwAt l G nm sb sL sx pc ls stk S I J z k n := by
  intro p e s m below meth c H locs lsA A hC hX hW hA hS hL
  obtain ⟨xs, g1, g2, g3⟩ := popN_spec hp
  have hst : stk = as.reverse ++ .ref b :: st' := by
    have : xs = (Value.ref b :: as).reverse := by rw [g2]; simp
    rw [g3, this]; simp
  have hlen : as.length = na := by
    have : (Value.ref b :: as).length = na + 1 := by rw [g2]; simp [g1]
    simpa using this
  refine fq_behind hC hW hA hS (va_runI (As := as) (rest := st') ⟨hC.1, hC.2.1, hC.2.2.2.1, hC.2.2.2.2.1, hC.2.2.2.2.2.1⟩ hsp ⟨lw_cB (M' := (y, by', nl, none)) hD hcf hC.2.2.2.2.2.1 hl, hy, hC.2.2.2.2.2.1 _ hi⟩ (fq_preS hC hW hA hS) rfl hlen hL.1 hst (lv_room h1) d ⟨h3, h4⟩) ?_
  intro r S1 I1 J1 z1 H1 locs1 q1 q2 q3 q4
  exact kk r S1 I1 J1 z1 q1 p e s m below meth c H1 locs1 lsA A hC hX q2 q3 q4 hL
