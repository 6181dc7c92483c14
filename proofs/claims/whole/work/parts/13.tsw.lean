/-! switches, their targets in a row -/
def fq_all2 (l : Launch) (G : GT) (M : MT) (D mc ms : Nat) (Q : Post) : List Cn → List Nat → Prop
  | [], [] => True
  | K :: Ks, t :: ts => Imp l G M D mc ms Q K t ∧ fq_all2 l G M D mc ms Q Ks ts
  | _, _ => False
theorem fq_all2_at {l : Launch} {G : GT} {M : MT} {D mc ms : Nat} {Q : Post} : ∀ {Ks : List Cn} {ts : List Nat}, fq_all2 l G M D mc ms Q Ks ts → ∀ (i : Nat) (K : Cn) (t : Nat), Ks[i]? = some K → ts[i]? = some t → Imp l G M D mc ms Q K t
  | [], _, _, i, K, t, h1, _ => by simp at h1
  | _ :: _, [], h, _, _, _, _, _ => h.elim
  | K :: Ks, t :: ts, h, 0, K', t', h1, h2 => by
    simp at h1 h2
    subst h1
    subst h2
    exact h.1
  | K :: Ks, t :: ts, h, i + 1, K', t', h1, h2 => fq_all2_at h.2 i K' t' (by simpa using h1) (by simpa using h2)
theorem sx_tswA {l : Launch} {G : GT} {M : MT} {D mc ms : Nat} {Q : Post} {pc : Nat} {Ks : List Cn} {Kd : Cn} {dflt lo hi : Int} {offs : Array Int} {len : Nat} (ts : List Nat) (td : Nat) (d : decode M.2.1 pc = .ok (.tableswitch dflt lo hi offs, len)) (hlen : Ks.length = ts.length) (hhi : hi = lo + ts.length - 1) (hts : offs.toList.map (fun o => (pc : Int) + o) = ts.map (fun (t : Nat) => (t : Int))) (htd : (pc : Int) + dflt = (td : Int)) (h : fq_all2 l G M D mc ms Q Ks ts) (hd : Imp l G M D mc ms Q Kd td) : Imp l G M D mc ms Q (ix_tsw lo Ks Kd) pc := sx_tsw ts td d hlen hhi hts htd (fq_all2_at h) hd
theorem sx_lswA {l : Launch} {G : GT} {M : MT} {D mc ms : Nat} {Q : Post} {pc : Nat} {Ks : List (Int × Cn)} {Kd : Cn} {dflt : Int} {os : Array (Int × Int)} {len : Nat} (ts : List Nat) (td : Nat) (d : decode M.2.1 pc = .ok (.lookupswitch dflt os, len)) (hks : Ks.map (fun q => q.1) = os.toList.map (fun q => q.1)) (hlen : ts.length = os.toList.length) (hsort : (os.toList.zip (os.toList.drop 1)).all (fun (a, next) => a.1 < next.1) = true) (hts : os.toList.map (fun o => (pc : Int) + o.2) = ts.map (fun (t : Nat) => (t : Int))) (htd : (pc : Int) + dflt = (td : Int)) (h : fq_all2 l G M D mc ms Q (Ks.map fun q => q.2) ts) (hd : Imp l G M D mc ms Q Kd td) : Imp l G M D mc ms Q (ix_lsw Ks Kd) pc :=
  sx_lsw ts td d hks hlen hsort hts htd (fun i K t h1 h2 => fq_all2_at h i K.2 t (by rw [List.getElem?_map, h1]; rfl) h2) hd
