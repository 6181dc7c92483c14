def ix_iadd (K : Cn) : Cn := fun ls st S I J z k n => match st with
  | .int y :: .int x :: st => K ls (.int (x + y) :: st) S I J z k n
  | _ => False
theorem sx_iadd {l : Launch} {G : GT} {M : MT} {D mc ms : Nat} {Q : Post} {pc : Nat} {K : Cn} (d : decode M.2.1 pc = .ok (.iadd, 1)) (h : Imp l G M D mc ms Q K (pc + 1)) : Imp l G M D mc ms Q (ix_iadd K) pc := by
  intro ls st S I J z k n hk p e s m args below meth c H locs lsA A hC hW hA hS hL
  unfold ix_iadd at hk
  split at hk
  · exact lv_iadd hC.1 hC.2.1 d  (h _ _ _ _ _ _ _ _ hk p e s m args below meth c H locs lsA A hC hW hA hS hL)
  · exact hk.elim
def ix_isub (K : Cn) : Cn := fun ls st S I J z k n => match st with
  | .int y :: .int x :: st => K ls (.int (x - y) :: st) S I J z k n
  | _ => False
theorem sx_isub {l : Launch} {G : GT} {M : MT} {D mc ms : Nat} {Q : Post} {pc : Nat} {K : Cn} (d : decode M.2.1 pc = .ok (.isub, 1)) (h : Imp l G M D mc ms Q K (pc + 1)) : Imp l G M D mc ms Q (ix_isub K) pc := by
  intro ls st S I J z k n hk p e s m args below meth c H locs lsA A hC hW hA hS hL
  unfold ix_isub at hk
  split at hk
  · exact lv_isub hC.1 hC.2.1 d  (h _ _ _ _ _ _ _ _ hk p e s m args below meth c H locs lsA A hC hW hA hS hL)
  · exact hk.elim
def ix_imul (K : Cn) : Cn := fun ls st S I J z k n => match st with
  | .int y :: .int x :: st => K ls (.int (x * y) :: st) S I J z k n
  | _ => False
theorem sx_imul {l : Launch} {G : GT} {M : MT} {D mc ms : Nat} {Q : Post} {pc : Nat} {K : Cn} (d : decode M.2.1 pc = .ok (.imul, 1)) (h : Imp l G M D mc ms Q K (pc + 1)) : Imp l G M D mc ms Q (ix_imul K) pc := by
  intro ls st S I J z k n hk p e s m args below meth c H locs lsA A hC hW hA hS hL
  unfold ix_imul at hk
  split at hk
  · exact lv_imul hC.1 hC.2.1 d  (h _ _ _ _ _ _ _ _ hk p e s m args below meth c H locs lsA A hC hW hA hS hL)
  · exact hk.elim
def ix_iand (K : Cn) : Cn := fun ls st S I J z k n => match st with
  | .int y :: .int x :: st => K ls (.int (x &&& y) :: st) S I J z k n
  | _ => False
theorem sx_iand {l : Launch} {G : GT} {M : MT} {D mc ms : Nat} {Q : Post} {pc : Nat} {K : Cn} (d : decode M.2.1 pc = .ok (.iand, 1)) (h : Imp l G M D mc ms Q K (pc + 1)) : Imp l G M D mc ms Q (ix_iand K) pc := by
  intro ls st S I J z k n hk p e s m args below meth c H locs lsA A hC hW hA hS hL
  unfold ix_iand at hk
  split at hk
  · exact lv_iand hC.1 hC.2.1 d  (h _ _ _ _ _ _ _ _ hk p e s m args below meth c H locs lsA A hC hW hA hS hL)
  · exact hk.elim
def ix_ior (K : Cn) : Cn := fun ls st S I J z k n => match st with
  | .int y :: .int x :: st => K ls (.int (x ||| y) :: st) S I J z k n
  | _ => False
theorem sx_ior {l : Launch} {G : GT} {M : MT} {D mc ms : Nat} {Q : Post} {pc : Nat} {K : Cn} (d : decode M.2.1 pc = .ok (.ior, 1)) (h : Imp l G M D mc ms Q K (pc + 1)) : Imp l G M D mc ms Q (ix_ior K) pc := by
  intro ls st S I J z k n hk p e s m args below meth c H locs lsA A hC hW hA hS hL
  unfold ix_ior at hk
  split at hk
  · exact lv_ior hC.1 hC.2.1 d  (h _ _ _ _ _ _ _ _ hk p e s m args below meth c H locs lsA A hC hW hA hS hL)
  · exact hk.elim
def ix_ixor (K : Cn) : Cn := fun ls st S I J z k n => match st with
  | .int y :: .int x :: st => K ls (.int (x ^^^ y) :: st) S I J z k n
  | _ => False
theorem sx_ixor {l : Launch} {G : GT} {M : MT} {D mc ms : Nat} {Q : Post} {pc : Nat} {K : Cn} (d : decode M.2.1 pc = .ok (.ixor, 1)) (h : Imp l G M D mc ms Q K (pc + 1)) : Imp l G M D mc ms Q (ix_ixor K) pc := by
  intro ls st S I J z k n hk p e s m args below meth c H locs lsA A hC hW hA hS hL
  unfold ix_ixor at hk
  split at hk
  · exact lv_ixor hC.1 hC.2.1 d  (h _ _ _ _ _ _ _ _ hk p e s m args below meth c H locs lsA A hC hW hA hS hL)
  · exact hk.elim
def ix_ishl (K : Cn) : Cn := fun ls st S I J z k n => match st with
  | .int y :: .int x :: st => K ls (.int (x <<< (y &&& 31)) :: st) S I J z k n
  | _ => False
theorem sx_ishl {l : Launch} {G : GT} {M : MT} {D mc ms : Nat} {Q : Post} {pc : Nat} {K : Cn} (d : decode M.2.1 pc = .ok (.ishl, 1)) (h : Imp l G M D mc ms Q K (pc + 1)) : Imp l G M D mc ms Q (ix_ishl K) pc := by
  intro ls st S I J z k n hk p e s m args below meth c H locs lsA A hC hW hA hS hL
  unfold ix_ishl at hk
  split at hk
  · exact lv_ishl hC.1 hC.2.1 d  (h _ _ _ _ _ _ _ _ hk p e s m args below meth c H locs lsA A hC hW hA hS hL)
  · exact hk.elim
def ix_ishr (K : Cn) : Cn := fun ls st S I J z k n => match st with
  | .int y :: .int x :: st => K ls (.int (x >>> (y &&& 31)) :: st) S I J z k n
  | _ => False
theorem sx_ishr {l : Launch} {G : GT} {M : MT} {D mc ms : Nat} {Q : Post} {pc : Nat} {K : Cn} (d : decode M.2.1 pc = .ok (.ishr, 1)) (h : Imp l G M D mc ms Q K (pc + 1)) : Imp l G M D mc ms Q (ix_ishr K) pc := by
  intro ls st S I J z k n hk p e s m args below meth c H locs lsA A hC hW hA hS hL
  unfold ix_ishr at hk
  split at hk
  · exact lv_ishr hC.1 hC.2.1 d  (h _ _ _ _ _ _ _ _ hk p e s m args below meth c H locs lsA A hC hW hA hS hL)
  · exact hk.elim
def ix_iushr (K : Cn) : Cn := fun ls st S I J z k n => match st with
  | .int y :: .int x :: st => K ls (.int (x.toUInt32 >>> (y.toUInt32 &&& Int32.toUInt32 31)).toInt32 :: st) S I J z k n
  | _ => False
theorem sx_iushr {l : Launch} {G : GT} {M : MT} {D mc ms : Nat} {Q : Post} {pc : Nat} {K : Cn} (d : decode M.2.1 pc = .ok (.iushr, 1)) (h : Imp l G M D mc ms Q K (pc + 1)) : Imp l G M D mc ms Q (ix_iushr K) pc := by
  intro ls st S I J z k n hk p e s m args below meth c H locs lsA A hC hW hA hS hL
  unfold ix_iushr at hk
  split at hk
  · exact lv_iushr hC.1 hC.2.1 d rfl (h _ _ _ _ _ _ _ _ hk p e s m args below meth c H locs lsA A hC hW hA hS hL)
  · exact hk.elim
def ix_idiv (K : Cn) : Cn := fun ls st S I J z k n => match st with
  | .int y :: .int x :: st => ¬ y = 0 ∧ K ls (.int (x / y) :: st) S I J z k n
  | _ => False
theorem sx_idiv {l : Launch} {G : GT} {M : MT} {D mc ms : Nat} {Q : Post} {pc : Nat} {K : Cn} (d : decode M.2.1 pc = .ok (.idiv, 1)) (h : Imp l G M D mc ms Q K (pc + 1)) : Imp l G M D mc ms Q (ix_idiv K) pc := by
  intro ls st S I J z k n hk p e s m args below meth c H locs lsA A hC hW hA hS hL
  unfold ix_idiv at hk
  split at hk
  · exact lv_idiv hC.1 hC.2.1 d  hk.1 (h _ _ _ _ _ _ _ _ hk.2 p e s m args below meth c H locs lsA A hC hW hA hS hL)
  · exact hk.elim
def ix_irem (K : Cn) : Cn := fun ls st S I J z k n => match st with
  | .int y :: .int x :: st => ¬ y = 0 ∧ K ls (.int (x - x / y * y) :: st) S I J z k n
  | _ => False
theorem sx_irem {l : Launch} {G : GT} {M : MT} {D mc ms : Nat} {Q : Post} {pc : Nat} {K : Cn} (d : decode M.2.1 pc = .ok (.irem, 1)) (h : Imp l G M D mc ms Q K (pc + 1)) : Imp l G M D mc ms Q (ix_irem K) pc := by
  intro ls st S I J z k n hk p e s m args below meth c H locs lsA A hC hW hA hS hL
  unfold ix_irem at hk
  split at hk
  · exact lv_irem hC.1 hC.2.1 d  hk.1 (h _ _ _ _ _ _ _ _ hk.2 p e s m args below meth c H locs lsA A hC hW hA hS hL)
  · exact hk.elim
def ix_ineg (K : Cn) : Cn := fun ls st S I J z k n => match st with
  | .int x :: st => K ls (.int (-x) :: st) S I J z k n
  | _ => False
theorem sx_ineg {l : Launch} {G : GT} {M : MT} {D mc ms : Nat} {Q : Post} {pc : Nat} {K : Cn} (d : decode M.2.1 pc = .ok (.ineg, 1)) (h : Imp l G M D mc ms Q K (pc + 1)) : Imp l G M D mc ms Q (ix_ineg K) pc := by
  intro ls st S I J z k n hk p e s m args below meth c H locs lsA A hC hW hA hS hL
  unfold ix_ineg at hk
  split at hk
  · exact lv_ineg hC.1 hC.2.1 d  (h _ _ _ _ _ _ _ _ hk p e s m args below meth c H locs lsA A hC hW hA hS hL)
  · exact hk.elim
def ix_ladd (K : Cn) : Cn := fun ls st S I J z k n => match st with
  | .long y :: .long x :: st => K ls (.long (x + y) :: st) S I J z k n
  | _ => False
theorem sx_ladd {l : Launch} {G : GT} {M : MT} {D mc ms : Nat} {Q : Post} {pc : Nat} {K : Cn} (d : decode M.2.1 pc = .ok (.ladd, 1)) (h : Imp l G M D mc ms Q K (pc + 1)) : Imp l G M D mc ms Q (ix_ladd K) pc := by
  intro ls st S I J z k n hk p e s m args below meth c H locs lsA A hC hW hA hS hL
  unfold ix_ladd at hk
  split at hk
  · exact lv_ladd hC.1 hC.2.1 d  (h _ _ _ _ _ _ _ _ hk p e s m args below meth c H locs lsA A hC hW hA hS hL)
  · exact hk.elim
def ix_lsub (K : Cn) : Cn := fun ls st S I J z k n => match st with
  | .long y :: .long x :: st => K ls (.long (x - y) :: st) S I J z k n
  | _ => False
theorem sx_lsub {l : Launch} {G : GT} {M : MT} {D mc ms : Nat} {Q : Post} {pc : Nat} {K : Cn} (d : decode M.2.1 pc = .ok (.lsub, 1)) (h : Imp l G M D mc ms Q K (pc + 1)) : Imp l G M D mc ms Q (ix_lsub K) pc := by
  intro ls st S I J z k n hk p e s m args below meth c H locs lsA A hC hW hA hS hL
  unfold ix_lsub at hk
  split at hk
  · exact lv_lsub hC.1 hC.2.1 d  (h _ _ _ _ _ _ _ _ hk p e s m args below meth c H locs lsA A hC hW hA hS hL)
  · exact hk.elim
def ix_lmul (K : Cn) : Cn := fun ls st S I J z k n => match st with
  | .long y :: .long x :: st => K ls (.long (x * y) :: st) S I J z k n
  | _ => False
theorem sx_lmul {l : Launch} {G : GT} {M : MT} {D mc ms : Nat} {Q : Post} {pc : Nat} {K : Cn} (d : decode M.2.1 pc = .ok (.lmul, 1)) (h : Imp l G M D mc ms Q K (pc + 1)) : Imp l G M D mc ms Q (ix_lmul K) pc := by
  intro ls st S I J z k n hk p e s m args below meth c H locs lsA A hC hW hA hS hL
  unfold ix_lmul at hk
  split at hk
  · exact lv_lmul hC.1 hC.2.1 d  (h _ _ _ _ _ _ _ _ hk p e s m args below meth c H locs lsA A hC hW hA hS hL)
  · exact hk.elim
def ix_land (K : Cn) : Cn := fun ls st S I J z k n => match st with
  | .long y :: .long x :: st => K ls (.long (x &&& y) :: st) S I J z k n
  | _ => False
theorem sx_land {l : Launch} {G : GT} {M : MT} {D mc ms : Nat} {Q : Post} {pc : Nat} {K : Cn} (d : decode M.2.1 pc = .ok (.land, 1)) (h : Imp l G M D mc ms Q K (pc + 1)) : Imp l G M D mc ms Q (ix_land K) pc := by
  intro ls st S I J z k n hk p e s m args below meth c H locs lsA A hC hW hA hS hL
  unfold ix_land at hk
  split at hk
  · exact lv_land hC.1 hC.2.1 d  (h _ _ _ _ _ _ _ _ hk p e s m args below meth c H locs lsA A hC hW hA hS hL)
  · exact hk.elim
def ix_lor (K : Cn) : Cn := fun ls st S I J z k n => match st with
  | .long y :: .long x :: st => K ls (.long (x ||| y) :: st) S I J z k n
  | _ => False
theorem sx_lor {l : Launch} {G : GT} {M : MT} {D mc ms : Nat} {Q : Post} {pc : Nat} {K : Cn} (d : decode M.2.1 pc = .ok (.lor, 1)) (h : Imp l G M D mc ms Q K (pc + 1)) : Imp l G M D mc ms Q (ix_lor K) pc := by
  intro ls st S I J z k n hk p e s m args below meth c H locs lsA A hC hW hA hS hL
  unfold ix_lor at hk
  split at hk
  · exact lv_lor hC.1 hC.2.1 d  (h _ _ _ _ _ _ _ _ hk p e s m args below meth c H locs lsA A hC hW hA hS hL)
  · exact hk.elim
def ix_ldiv (K : Cn) : Cn := fun ls st S I J z k n => match st with
  | .long y :: .long x :: st => ¬ y = 0 ∧ K ls (.long (x / y) :: st) S I J z k n
  | _ => False
theorem sx_ldiv {l : Launch} {G : GT} {M : MT} {D mc ms : Nat} {Q : Post} {pc : Nat} {K : Cn} (d : decode M.2.1 pc = .ok (.ldiv, 1)) (h : Imp l G M D mc ms Q K (pc + 1)) : Imp l G M D mc ms Q (ix_ldiv K) pc := by
  intro ls st S I J z k n hk p e s m args below meth c H locs lsA A hC hW hA hS hL
  unfold ix_ldiv at hk
  split at hk
  · exact lv_ldiv hC.1 hC.2.1 d  hk.1 (h _ _ _ _ _ _ _ _ hk.2 p e s m args below meth c H locs lsA A hC hW hA hS hL)
  · exact hk.elim
def ix_lrem (K : Cn) : Cn := fun ls st S I J z k n => match st with
  | .long y :: .long x :: st => ¬ y = 0 ∧ K ls (.long (x - x / y * y) :: st) S I J z k n
  | _ => False
theorem sx_lrem {l : Launch} {G : GT} {M : MT} {D mc ms : Nat} {Q : Post} {pc : Nat} {K : Cn} (d : decode M.2.1 pc = .ok (.lrem, 1)) (h : Imp l G M D mc ms Q K (pc + 1)) : Imp l G M D mc ms Q (ix_lrem K) pc := by
  intro ls st S I J z k n hk p e s m args below meth c H locs lsA A hC hW hA hS hL
  unfold ix_lrem at hk
  split at hk
  · exact lv_lrem hC.1 hC.2.1 d  hk.1 (h _ _ _ _ _ _ _ _ hk.2 p e s m args below meth c H locs lsA A hC hW hA hS hL)
  · exact hk.elim
def ix_lshl (K : Cn) : Cn := fun ls st S I J z k n => match st with
  | .int y :: .long x :: st => K ls (.long (x <<< (y.toInt64 &&& 63)) :: st) S I J z k n
  | _ => False
theorem sx_lshl {l : Launch} {G : GT} {M : MT} {D mc ms : Nat} {Q : Post} {pc : Nat} {K : Cn} (d : decode M.2.1 pc = .ok (.lshl, 1)) (h : Imp l G M D mc ms Q K (pc + 1)) : Imp l G M D mc ms Q (ix_lshl K) pc := by
  intro ls st S I J z k n hk p e s m args below meth c H locs lsA A hC hW hA hS hL
  unfold ix_lshl at hk
  split at hk
  · exact lv_lshl hC.1 hC.2.1 d rfl (h _ _ _ _ _ _ _ _ hk p e s m args below meth c H locs lsA A hC hW hA hS hL)
  · exact hk.elim
def ix_lcmp (K : Cn) : Cn := fun ls st S I J z k n => match st with
  | .long y :: .long x :: st => K ls (.int (lg_cmp x y) :: st) S I J z k n
  | _ => False
theorem sx_lcmp {l : Launch} {G : GT} {M : MT} {D mc ms : Nat} {Q : Post} {pc : Nat} {K : Cn} (d : decode M.2.1 pc = .ok (.lcmp, 1)) (h : Imp l G M D mc ms Q K (pc + 1)) : Imp l G M D mc ms Q (ix_lcmp K) pc := by
  intro ls st S I J z k n hk p e s m args below meth c H locs lsA A hC hW hA hS hL
  unfold ix_lcmp at hk
  split at hk
  · exact W.lcmp hC.1 hC.2.1 d  (h _ _ _ _ _ _ _ _ hk p e s m args below meth c H locs lsA A hC hW hA hS hL)
  · exact hk.elim
def ix_i2l (K : Cn) : Cn := fun ls st S I J z k n => match st with
  | .int x :: st => K ls (.long x.toInt64 :: st) S I J z k n
  | _ => False
theorem sx_i2l {l : Launch} {G : GT} {M : MT} {D mc ms : Nat} {Q : Post} {pc : Nat} {K : Cn} (d : decode M.2.1 pc = .ok (.i2l, 1)) (h : Imp l G M D mc ms Q K (pc + 1)) : Imp l G M D mc ms Q (ix_i2l K) pc := by
  intro ls st S I J z k n hk p e s m args below meth c H locs lsA A hC hW hA hS hL
  unfold ix_i2l at hk
  split at hk
  · exact lv_i2l hC.1 hC.2.1 d rfl (h _ _ _ _ _ _ _ _ hk p e s m args below meth c H locs lsA A hC hW hA hS hL)
  · exact hk.elim
def ix_l2i (K : Cn) : Cn := fun ls st S I J z k n => match st with
  | .long x :: st => K ls (.int x.toInt32 :: st) S I J z k n
  | _ => False
theorem sx_l2i {l : Launch} {G : GT} {M : MT} {D mc ms : Nat} {Q : Post} {pc : Nat} {K : Cn} (d : decode M.2.1 pc = .ok (.l2i, 1)) (h : Imp l G M D mc ms Q K (pc + 1)) : Imp l G M D mc ms Q (ix_l2i K) pc := by
  intro ls st S I J z k n hk p e s m args below meth c H locs lsA A hC hW hA hS hL
  unfold ix_l2i at hk
  split at hk
  · exact lv_l2i hC.1 hC.2.1 d rfl (h _ _ _ _ _ _ _ _ hk p e s m args below meth c H locs lsA A hC hW hA hS hL)
  · exact hk.elim
def ix_i2b (K : Cn) : Cn := fun ls st S I J z k n => match st with
  | .int x :: st => K ls (.int x.toInt8.toInt32 :: st) S I J z k n
  | _ => False
theorem sx_i2b {l : Launch} {G : GT} {M : MT} {D mc ms : Nat} {Q : Post} {pc : Nat} {K : Cn} (d : decode M.2.1 pc = .ok (.i2b, 1)) (h : Imp l G M D mc ms Q K (pc + 1)) : Imp l G M D mc ms Q (ix_i2b K) pc := by
  intro ls st S I J z k n hk p e s m args below meth c H locs lsA A hC hW hA hS hL
  unfold ix_i2b at hk
  split at hk
  · exact lv_i2b hC.1 hC.2.1 d rfl (h _ _ _ _ _ _ _ _ hk p e s m args below meth c H locs lsA A hC hW hA hS hL)
  · exact hk.elim
def ix_i2s (K : Cn) : Cn := fun ls st S I J z k n => match st with
  | .int x :: st => K ls (.int x.toInt16.toInt32 :: st) S I J z k n
  | _ => False
theorem sx_i2s {l : Launch} {G : GT} {M : MT} {D mc ms : Nat} {Q : Post} {pc : Nat} {K : Cn} (d : decode M.2.1 pc = .ok (.i2s, 1)) (h : Imp l G M D mc ms Q K (pc + 1)) : Imp l G M D mc ms Q (ix_i2s K) pc := by
  intro ls st S I J z k n hk p e s m args below meth c H locs lsA A hC hW hA hS hL
  unfold ix_i2s at hk
  split at hk
  · exact lv_i2s hC.1 hC.2.1 d rfl (h _ _ _ _ _ _ _ _ hk p e s m args below meth c H locs lsA A hC hW hA hS hL)
  · exact hk.elim
def ix_i2c (K : Cn) : Cn := fun ls st S I J z k n => match st with
  | .int x :: st => K ls (.int (x.toUInt32 % 65536).toInt32 :: st) S I J z k n
  | _ => False
theorem sx_i2c {l : Launch} {G : GT} {M : MT} {D mc ms : Nat} {Q : Post} {pc : Nat} {K : Cn} (d : decode M.2.1 pc = .ok (.i2c, 1)) (h : Imp l G M D mc ms Q K (pc + 1)) : Imp l G M D mc ms Q (ix_i2c K) pc := by
  intro ls st S I J z k n hk p e s m args below meth c H locs lsA A hC hW hA hS hL
  unfold ix_i2c at hk
  split at hk
  · exact lv_i2c hC.1 hC.2.1 d rfl (h _ _ _ _ _ _ _ _ hk p e s m args below meth c H locs lsA A hC hW hA hS hL)
  · exact hk.elim
def ix_dupI (K : Cn) : Cn := fun ls st S I J z k n => match st with
  | .int x :: st => K ls (.int x :: .int x :: st) S I J z k n
  | _ => False
theorem sx_dupI {l : Launch} {G : GT} {M : MT} {D mc ms : Nat} {Q : Post} {pc : Nat} {K : Cn} (d : decode M.2.1 pc = .ok (.dup, 1)) (h : Imp l G M D mc ms Q K (pc + 1)) : Imp l G M D mc ms Q (ix_dupI K) pc := by
  intro ls st S I J z k n hk p e s m args below meth c H locs lsA A hC hW hA hS hL
  unfold ix_dupI at hk
  split at hk
  · exact lv_dup hC.1 hC.2.1 d rfl (h _ _ _ _ _ _ _ _ hk p e s m args below meth c H locs lsA A hC hW hA hS hL)
  · exact hk.elim
def ix_dupR (K : Cn) : Cn := fun ls st S I J z k n => match st with
  | .ref x :: st => K ls (.ref x :: .ref x :: st) S I J z k n
  | _ => False
theorem sx_dupR {l : Launch} {G : GT} {M : MT} {D mc ms : Nat} {Q : Post} {pc : Nat} {K : Cn} (d : decode M.2.1 pc = .ok (.dup, 1)) (h : Imp l G M D mc ms Q K (pc + 1)) : Imp l G M D mc ms Q (ix_dupR K) pc := by
  intro ls st S I J z k n hk p e s m args below meth c H locs lsA A hC hW hA hS hL
  unfold ix_dupR at hk
  split at hk
  · exact lv_dup hC.1 hC.2.1 d rfl (h _ _ _ _ _ _ _ _ hk p e s m args below meth c H locs lsA A hC hW hA hS hL)
  · exact hk.elim
def ix_dup2 (K : Cn) : Cn := fun ls st S I J z k n => match st with
  | .int x :: .ref y :: st => K ls (.int x :: .ref y :: .int x :: .ref y :: st) S I J z k n
  | _ => False
theorem sx_dup2 {l : Launch} {G : GT} {M : MT} {D mc ms : Nat} {Q : Post} {pc : Nat} {K : Cn} (d : decode M.2.1 pc = .ok (.dup2, 1)) (h : Imp l G M D mc ms Q K (pc + 1)) : Imp l G M D mc ms Q (ix_dup2 K) pc := by
  intro ls st S I J z k n hk p e s m args below meth c H locs lsA A hC hW hA hS hL
  unfold ix_dup2 at hk
  split at hk
  · exact lv_dup2_11 hC.1 hC.2.1 d rfl rfl (h _ _ _ _ _ _ _ _ hk p e s m args below meth c H locs lsA A hC hW hA hS hL)
  · exact hk.elim
def ix_dup2L (K : Cn) : Cn := fun ls st S I J z k n => match st with
  | .long x :: st => K ls (.long x :: .long x :: st) S I J z k n
  | _ => False
theorem sx_dup2L {l : Launch} {G : GT} {M : MT} {D mc ms : Nat} {Q : Post} {pc : Nat} {K : Cn} (d : decode M.2.1 pc = .ok (.dup2, 1)) (h : Imp l G M D mc ms Q K (pc + 1)) : Imp l G M D mc ms Q (ix_dup2L K) pc := by
  intro ls st S I J z k n hk p e s m args below meth c H locs lsA A hC hW hA hS hL
  unfold ix_dup2L at hk
  split at hk
  · exact lv_dup2_2 hC.1 hC.2.1 d rfl (h _ _ _ _ _ _ _ _ hk p e s m args below meth c H locs lsA A hC hW hA hS hL)
  · exact hk.elim
def ix_dupx1 (K : Cn) : Cn := fun ls st S I J z k n => match st with
  | .int x :: .ref y :: st => K ls (.int x :: .ref y :: .int x :: st) S I J z k n
  | _ => False
theorem sx_dupx1 {l : Launch} {G : GT} {M : MT} {D mc ms : Nat} {Q : Post} {pc : Nat} {K : Cn} (d : decode M.2.1 pc = .ok (.dup_x1, 1)) (h : Imp l G M D mc ms Q K (pc + 1)) : Imp l G M D mc ms Q (ix_dupx1 K) pc := by
  intro ls st S I J z k n hk p e s m args below meth c H locs lsA A hC hW hA hS hL
  unfold ix_dupx1 at hk
  split at hk
  · exact lv_dup_x1 hC.1 hC.2.1 d rfl rfl (h _ _ _ _ _ _ _ _ hk p e s m args below meth c H locs lsA A hC hW hA hS hL)
  · exact hk.elim
def ix_popI (K : Cn) : Cn := fun ls st S I J z k n => match st with
  | .int x :: st => K ls (st) S I J z k n
  | _ => False
theorem sx_popI {l : Launch} {G : GT} {M : MT} {D mc ms : Nat} {Q : Post} {pc : Nat} {K : Cn} (d : decode M.2.1 pc = .ok (.pop, 1)) (h : Imp l G M D mc ms Q K (pc + 1)) : Imp l G M D mc ms Q (ix_popI K) pc := by
  intro ls st S I J z k n hk p e s m args below meth c H locs lsA A hC hW hA hS hL
  unfold ix_popI at hk
  split at hk
  · exact lv_pop hC.1 hC.2.1 d rfl (h _ _ _ _ _ _ _ _ hk p e s m args below meth c H locs lsA A hC hW hA hS hL)
  · exact hk.elim
def ix_pop2L (K : Cn) : Cn := fun ls st S I J z k n => match st with
  | .long x :: st => K ls (st) S I J z k n
  | _ => False
theorem sx_pop2L {l : Launch} {G : GT} {M : MT} {D mc ms : Nat} {Q : Post} {pc : Nat} {K : Cn} (d : decode M.2.1 pc = .ok (.pop2, 1)) (h : Imp l G M D mc ms Q K (pc + 1)) : Imp l G M D mc ms Q (ix_pop2L K) pc := by
  intro ls st S I J z k n hk p e s m args below meth c H locs lsA A hC hW hA hS hL
  unfold ix_pop2L at hk
  split at hk
  · exact lv_pop2_2 hC.1 hC.2.1 d rfl (h _ _ _ _ _ _ _ _ hk p e s m args below meth c H locs lsA A hC hW hA hS hL)
  · exact hk.elim
def ix_pushI (v : Int32) (K : Cn) : Cn := fun ls st S I J z k n => K ls (.int v :: st) S I J z k n
def ix_pushL (v : Int64) (K : Cn) : Cn := fun ls st S I J z k n => K ls (.long v :: st) S I J z k n
theorem sx_iconst {l : Launch} {G : GT} {M : MT} {D mc ms : Nat} {Q : Post} {pc : Nat} {K : Cn} {a : Int} {v : Int32} (d : decode M.2.1 pc = .ok (.iconst a, 1)) (hv : Int32.ofInt a = v) (h : Imp l G M D mc ms Q K (pc + 1)) : Imp l G M D mc ms Q (ix_pushI v K) pc := by
  intro ls st S I J z k n hk p e s m args below meth c H locs lsA A hC hW hA hS hL
  exact lv_iconst hC.1 hC.2.1 d hv (h _ _ _ _ _ _ _ _ hk p e s m args below meth c H locs lsA A hC hW hA hS hL)
theorem sx_bipush {l : Launch} {G : GT} {M : MT} {D mc ms : Nat} {Q : Post} {pc : Nat} {K : Cn} {a : Int} {v : Int32} (d : decode M.2.1 pc = .ok (.bipush a, 2)) (hv : (Int8.ofInt a).toInt32 = v) (h : Imp l G M D mc ms Q K (pc + 2)) : Imp l G M D mc ms Q (ix_pushI v K) pc := by
  intro ls st S I J z k n hk p e s m args below meth c H locs lsA A hC hW hA hS hL
  exact lv_bipush hC.1 hC.2.1 d hv (h _ _ _ _ _ _ _ _ hk p e s m args below meth c H locs lsA A hC hW hA hS hL)
theorem sx_sipush {l : Launch} {G : GT} {M : MT} {D mc ms : Nat} {Q : Post} {pc : Nat} {K : Cn} {a : Int} {v : Int32} (d : decode M.2.1 pc = .ok (.sipush a, 3)) (hv : (Int16.ofInt a).toInt32 = v) (h : Imp l G M D mc ms Q K (pc + 3)) : Imp l G M D mc ms Q (ix_pushI v K) pc := by
  intro ls st S I J z k n hk p e s m args below meth c H locs lsA A hC hW hA hS hL
  exact lv_sipush hC.1 hC.2.1 d hv (h _ _ _ _ _ _ _ _ hk p e s m args below meth c H locs lsA A hC hW hA hS hL)
theorem sx_lconst {l : Launch} {G : GT} {M : MT} {D mc ms : Nat} {Q : Post} {pc : Nat} {K : Cn} {a : Fin 2} {v : Int64} (d : decode M.2.1 pc = .ok (.lconst a, 1)) (hv : Int64.ofNat (a : Nat) = v) (h : Imp l G M D mc ms Q K (pc + 1)) : Imp l G M D mc ms Q (ix_pushL v K) pc := by
  intro ls st S I J z k n hk p e s m args below meth c H locs lsA A hC hW hA hS hL
  exact lv_lconst hC.1 hC.2.1 d hv (h _ _ _ _ _ _ _ _ hk p e s m args below meth c H locs lsA A hC hW hA hS hL)
theorem sx_ldc {l : Launch} {G : GT} {M : MT} {D mc ms : Nat} {Q : Post} {pc : Nat} {K : Cn} {a : Nat} {v : Int32} (d : decode M.2.1 pc = .ok (.ldc a, 2)) (hw : Cond.constant M.1.cls a v ∈ fq_all) (h : Imp l G M D mc ms Q K (pc + 2)) : Imp l G M D mc ms Q (ix_pushI v K) pc := by
  intro ls st S I J z k n hk p e s m args below meth c H locs lsA A hC hW hA hS hL
  exact lv_ldc hC.1 hC.2.1 hC.2.2.2.2.1 (hC.2.2.2.2.2.1 _ hw) d (h _ _ _ _ _ _ _ _ hk p e s m args below meth c H locs lsA A hC hW hA hS hL)
theorem sx_ldcw {l : Launch} {G : GT} {M : MT} {D mc ms : Nat} {Q : Post} {pc : Nat} {K : Cn} {a : Nat} {v : Int32} (d : decode M.2.1 pc = .ok (.ldc_w a, 3)) (hw : Cond.constant M.1.cls a v ∈ fq_all) (h : Imp l G M D mc ms Q K (pc + 3)) : Imp l G M D mc ms Q (ix_pushI v K) pc := by
  intro ls st S I J z k n hk p e s m args below meth c H locs lsA A hC hW hA hS hL
  exact lv_ldcw hC.1 hC.2.1 hC.2.2.2.2.1 (hC.2.2.2.2.2.1 _ hw) d (h _ _ _ _ _ _ _ _ hk p e s m args below meth c H locs lsA A hC hW hA hS hL)
theorem sx_ldc2 {l : Launch} {G : GT} {M : MT} {D mc ms : Nat} {Q : Post} {pc : Nat} {K : Cn} {a : Nat} {v : Int64} (d : decode M.2.1 pc = .ok (.ldc2_w a, 3)) (hw : Cond.constantLong M.1.cls a v ∈ fq_all) (h : Imp l G M D mc ms Q K (pc + 3)) : Imp l G M D mc ms Q (ix_pushL v K) pc := by
  intro ls st S I J z k n hk p e s m args below meth c H locs lsA A hC hW hA hS hL
  exact lv_ldc2 hC.1 hC.2.1 hC.2.2.2.2.1 (hC.2.2.2.2.2.1 _ hw) d (h _ _ _ _ _ _ _ _ hk p e s m args below meth c H locs lsA A hC hW hA hS hL)
def ix_iload (i : Nat) (K : Cn) : Cn := fun ls st S I J z k n => match ls[i]? with
  | some (some (.int x)) => K ls (.int x :: st) S I J z k n
  | _ => False
theorem sx_iload {l : Launch} {G : GT} {M : MT} {D mc ms : Nat} {Q : Post} {pc : Nat} {K : Cn} {i : Nat} (d : decode M.2.1 pc = .ok (.iload i, 2)) (h : Imp l G M D mc ms Q K (pc + 2)) : Imp l G M D mc ms Q (ix_iload i K) pc := by
  intro ls st S I J z k n hk p e s m args below meth c H locs lsA A hC hW hA hS hL
  unfold ix_iload at hk
  split at hk
  · next x hx => exact lv_iload hC.1 hC.2.1 d (hL.2.2 _ _ hx) (h _ _ _ _ _ _ _ _ hk p e s m args below meth c H locs lsA A hC hW hA hS hL)
  · exact hk.elim
theorem sx_iload_n {l : Launch} {G : GT} {M : MT} {D mc ms : Nat} {Q : Post} {pc : Nat} {K : Cn} {i : Nat} {f : Fin 4} (d : decode M.2.1 pc = .ok (.iload_n f, 1)) (hi : (f : Nat) = i) (h : Imp l G M D mc ms Q K (pc + 1)) : Imp l G M D mc ms Q (ix_iload i K) pc := by
  intro ls st S I J z k n hk p e s m args below meth c H locs lsA A hC hW hA hS hL
  unfold ix_iload at hk
  split at hk
  · next x hx => exact lv_iload_n hC.1 hC.2.1 d hi (hL.2.2 _ _ hx) (h _ _ _ _ _ _ _ _ hk p e s m args below meth c H locs lsA A hC hW hA hS hL)
  · exact hk.elim
def ix_lload (i : Nat) (K : Cn) : Cn := fun ls st S I J z k n => match ls[i]? with
  | some (some (.long x)) => K ls (.long x :: st) S I J z k n
  | _ => False
theorem sx_lload {l : Launch} {G : GT} {M : MT} {D mc ms : Nat} {Q : Post} {pc : Nat} {K : Cn} {i : Nat} (d : decode M.2.1 pc = .ok (.lload i, 2)) (h : Imp l G M D mc ms Q K (pc + 2)) : Imp l G M D mc ms Q (ix_lload i K) pc := by
  intro ls st S I J z k n hk p e s m args below meth c H locs lsA A hC hW hA hS hL
  unfold ix_lload at hk
  split at hk
  · next x hx => exact lv_lload hC.1 hC.2.1 d (hL.2.2 _ _ hx) (h _ _ _ _ _ _ _ _ hk p e s m args below meth c H locs lsA A hC hW hA hS hL)
  · exact hk.elim
theorem sx_lload_n {l : Launch} {G : GT} {M : MT} {D mc ms : Nat} {Q : Post} {pc : Nat} {K : Cn} {i : Nat} {f : Fin 4} (d : decode M.2.1 pc = .ok (.lload_n f, 1)) (hi : (f : Nat) = i) (h : Imp l G M D mc ms Q K (pc + 1)) : Imp l G M D mc ms Q (ix_lload i K) pc := by
  intro ls st S I J z k n hk p e s m args below meth c H locs lsA A hC hW hA hS hL
  unfold ix_lload at hk
  split at hk
  · next x hx => exact lv_lload_n hC.1 hC.2.1 d hi (hL.2.2 _ _ hx) (h _ _ _ _ _ _ _ _ hk p e s m args below meth c H locs lsA A hC hW hA hS hL)
  · exact hk.elim
def ix_aload (i : Nat) (K : Cn) : Cn := fun ls st S I J z k n => match ls[i]? with
  | some (some (.ref x)) => K ls (.ref x :: st) S I J z k n
  | _ => False
theorem sx_aload {l : Launch} {G : GT} {M : MT} {D mc ms : Nat} {Q : Post} {pc : Nat} {K : Cn} {i : Nat} (d : decode M.2.1 pc = .ok (.aload i, 2)) (h : Imp l G M D mc ms Q K (pc + 2)) : Imp l G M D mc ms Q (ix_aload i K) pc := by
  intro ls st S I J z k n hk p e s m args below meth c H locs lsA A hC hW hA hS hL
  unfold ix_aload at hk
  split at hk
  · next x hx => exact lv_aload hC.1 hC.2.1 d (hL.2.2 _ _ hx) (h _ _ _ _ _ _ _ _ hk p e s m args below meth c H locs lsA A hC hW hA hS hL)
  · exact hk.elim
theorem sx_aload_n {l : Launch} {G : GT} {M : MT} {D mc ms : Nat} {Q : Post} {pc : Nat} {K : Cn} {i : Nat} {f : Fin 4} (d : decode M.2.1 pc = .ok (.aload_n f, 1)) (hi : (f : Nat) = i) (h : Imp l G M D mc ms Q K (pc + 1)) : Imp l G M D mc ms Q (ix_aload i K) pc := by
  intro ls st S I J z k n hk p e s m args below meth c H locs lsA A hC hW hA hS hL
  unfold ix_aload at hk
  split at hk
  · next x hx => exact lv_aload_n hC.1 hC.2.1 d hi (hL.2.2 _ _ hx) (h _ _ _ _ _ _ _ _ hk p e s m args below meth c H locs lsA A hC hW hA hS hL)
  · exact hk.elim
def kilL (x : Option Value) : Option Value := match x with
  | some (.long _) => none
  | some (.double _) => none
  | x => x
def stL (v : Value) : Nat → List (Option Value) → List (Option Value)
  | _, [] => []
  | 0, _ :: t => some v :: t
  | 1, x :: t => kilL x :: stL v 0 t
  | n + 2, x :: t => x :: stL v (n + 1) t
def stL2 (v : Value) : Nat → List (Option Value) → List (Option Value)
  | _, [] => []
  | 0, _ :: t => some v :: (match t with | [] => [] | _ :: t => none :: t)
  | 1, x :: t => kilL x :: stL2 v 0 t
  | n + 2, x :: t => x :: stL2 v (n + 1) t
theorem kilL_some {x : Option Value} {w : Value} (h : kilL x = some w) : x = some w ∧ ¬ w.category = 2 := by
  unfold kilL at h
  split at h
  · cases h
  · cases h
  · next hn1 hn2 =>
    subst h
    refine ⟨rfl, ?_⟩
    cases w <;> simp_all [Value.category]
theorem stL_get (v : Value) : ∀ (i : Nat) (ls : List (Option Value)) (j : Nat) (w : Value), (stL v i ls)[j]? = some (some w) → (j = i ∧ w = v) ∨ (j ≠ i ∧ ls[j]? = some (some w) ∧ ¬ (j + 1 = i ∧ w.category = 2)) := by
  intro i ls
  induction i, ls using stL.induct with
  | case1 i => intro j w h; simp [stL] at h
  | case2 x t =>
    intro j w h
    cases j with
    | zero => simp [stL] at h; exact Or.inl ⟨rfl, h.symm⟩
    | succ j => simp [stL] at h; exact Or.inr ⟨by omega, by simpa using h, by omega⟩
  | case3 x t ih =>
    intro j w h
    cases j with
    | zero =>
      simp [stL] at h
      obtain ⟨h1, h2⟩ := kilL_some h
      exact Or.inr ⟨by omega, by simp [h1], fun q => h2 q.2⟩
    | succ j =>
      simp only [stL, List.getElem?_cons_succ] at h
      rcases ih j w h with ⟨h1, h2⟩ | ⟨h1, h2, h3⟩
      · exact Or.inl ⟨congrArg Nat.succ h1, h2⟩
      · exact Or.inr ⟨fun q => h1 (Nat.succ.inj q), by simpa using h2, fun q => h3 ⟨Nat.succ.inj q.1, q.2⟩⟩
  | case4 n x t ih =>
    intro j w h
    cases j with
    | zero => simp [stL] at h; exact Or.inr ⟨by omega, by simp [h], by omega⟩
    | succ j =>
      simp only [stL, List.getElem?_cons_succ] at h
      rcases ih j w h with ⟨h1, h2⟩ | ⟨h1, h2, h3⟩
      · exact Or.inl ⟨by omega, h2⟩
      · exact Or.inr ⟨by omega, by simpa using h2, fun q => h3 ⟨by omega, q.2⟩⟩
theorem stL2_get (v : Value) : ∀ (i : Nat) (ls : List (Option Value)) (j : Nat) (w : Value), (stL2 v i ls)[j]? = some (some w) → (j = i ∧ w = v) ∨ (j ≠ i ∧ j ≠ i + 1 ∧ ls[j]? = some (some w) ∧ ¬ (j + 1 = i ∧ w.category = 2)) := by
  intro i ls
  induction i, ls using stL2.induct with
  | case1 i => intro j w h; simp [stL2] at h
  | case2 x t =>
    intro j w h
    cases j with
    | zero => simp [stL2] at h; exact Or.inl ⟨rfl, h.symm⟩
    | succ j =>
      cases t with
      | nil => simp [stL2] at h
      | cons y t =>
        cases j with
        | zero => simp [stL2] at h
        | succ j => simp [stL2] at h; exact Or.inr ⟨by omega, by omega, by simpa using h, by omega⟩
  | case3 x t ih =>
    intro j w h
    cases j with
    | zero =>
      simp [stL2] at h
      obtain ⟨h1, h2⟩ := kilL_some h
      exact Or.inr ⟨by omega, by omega, by simp [h1], fun q => h2 q.2⟩
    | succ j =>
      simp only [stL2, List.getElem?_cons_succ] at h
      rcases ih j w h with ⟨h1, h2⟩ | ⟨h1, h1', h2, h3⟩
      · exact Or.inl ⟨congrArg Nat.succ h1, h2⟩
      · exact Or.inr ⟨fun q => h1 (Nat.succ.inj q), fun q => h1' (Nat.succ.inj q), by simpa using h2, fun q => h3 ⟨Nat.succ.inj q.1, q.2⟩⟩
  | case4 n x t ih =>
    intro j w h
    cases j with
    | zero => simp [stL2] at h; exact Or.inr ⟨by omega, by omega, by simp [h], by omega⟩
    | succ j =>
      simp only [stL2, List.getElem?_cons_succ] at h
      rcases ih j w h with ⟨h1, h2⟩ | ⟨h1, h1', h2, h3⟩
      · exact Or.inl ⟨by omega, h2⟩
      · exact Or.inr ⟨by omega, by omega, by simpa using h2, fun q => h3 ⟨by omega, q.2⟩⟩
def fq_pr (ls : List (Option Value)) : List (Nat × Value) := (List.range ls.length).filterMap (fun i => match ls[i]? with
  | some (some v) => some (i, v)
  | _ => none)
theorem fq_pr_mem {ls : List (Option Value)} {i : Nat} {v : Value} : (i, v) ∈ fq_pr ls ↔ ls[i]? = some (some v) := by
  unfold fq_pr
  rw [List.mem_filterMap]
  constructor
  · rintro ⟨j, -, h⟩
    split at h
    · next w hw => cases h; exact hw
    · cases h
  · intro h
    have hl : i < ls.length := (List.getElem?_eq_some_iff.mp h).1
    exact ⟨i, List.mem_range.mpr hl, by rw [h]⟩
theorem fq_L.has {lsA : Array Slot} {nL : Nat} {ls : List (Option Value)} (h : fq_L lsA nL ls) : lv_has lsA nL (fq_pr ls) := ⟨h.1, h.2.1, fun q hq => h.2.2 q.1 q.2 (fq_pr_mem.mp hq)⟩
theorem fq_L.st1 {lsA : Array Slot} {nL i : Nat} {ls : List (Option Value)} {v : Value} (h : lv_has lsA nL ((i, v) :: (fq_pr ls).filter (fun q => !(q.1 == i) && !(q.1 + 1 == i && q.2.category == 2)))) : fq_L lsA nL (stL v i ls) := by
  refine ⟨h.1, h.2.1, fun j w hj => ?_⟩
  rcases stL_get v i ls j w hj with ⟨rfl, rfl⟩ | ⟨h1, h2, h3⟩
  · exact h.2.2 (j, w) List.mem_cons_self
  · refine h.2.2 (j, w) (List.mem_cons_of_mem _ (List.mem_filter.mpr ⟨fq_pr_mem.mpr h2, ?_⟩))
    simp only [Bool.and_eq_true, Bool.not_eq_true', beq_eq_false_iff_ne, Bool.and_eq_false_imp, beq_iff_eq]
    exact ⟨h1, fun q => by simpa using fun q2 => h3 ⟨q, q2⟩⟩
theorem fq_L.st2 {lsA : Array Slot} {nL i : Nat} {ls : List (Option Value)} {v : Value} (h : lv_has lsA nL ((i, v) :: (fq_pr ls).filter (fun q => !(q.1 == i) && (!(q.1 == i + 1) && !(q.1 + 1 == i && q.2.category == 2))))) : fq_L lsA nL (stL2 v i ls) := by
  refine ⟨h.1, h.2.1, fun j w hj => ?_⟩
  rcases stL2_get v i ls j w hj with ⟨rfl, rfl⟩ | ⟨h1, h1', h2, h3⟩
  · exact h.2.2 (j, w) List.mem_cons_self
  · refine h.2.2 (j, w) (List.mem_cons_of_mem _ (List.mem_filter.mpr ⟨fq_pr_mem.mpr h2, ?_⟩))
    simp only [Bool.and_eq_true, Bool.not_eq_true', beq_eq_false_iff_ne, Bool.and_eq_false_imp, beq_iff_eq]
    exact ⟨h1, h1', fun q => by simpa using fun q2 => h3 ⟨q, q2⟩⟩
def ix_istore (i : Nat) (K : Cn) : Cn := fun ls st S I J z k n => match st with
  | .int x :: st => K (stL (.int x) i ls) st S I J z k n
  | _ => False
theorem sx_istore {l : Launch} {G : GT} {M : MT} {D mc ms : Nat} {Q : Post} {pc : Nat} {K : Cn} {i : Nat} (d : decode M.2.1 pc = .ok (.istore i, 2)) (hn : i < M.2.2.1) (h : Imp l G M D mc ms Q K (pc + 2)) : Imp l G M D mc ms Q (ix_istore i K) pc := by
  intro ls st S I J z k n hk p e s m args below meth c H locs lsA A hC hW hA hS hL
  unfold ix_istore at hk
  split at hk
  · exact lv_istore hC.1 hC.2.1 d hL.has hn rfl (fun ls' h' => h _ _ _ _ _ _ _ _ hk p e s m args below meth c H locs ls' A hC hW hA hS (fq_L.st1 h'))
  · exact hk.elim
theorem sx_istore_n {l : Launch} {G : GT} {M : MT} {D mc ms : Nat} {Q : Post} {pc : Nat} {K : Cn} {i : Nat} {f : Fin 4} (d : decode M.2.1 pc = .ok (.istore_n f, 1)) (hi : (f : Nat) = i) (hn : i < M.2.2.1) (h : Imp l G M D mc ms Q K (pc + 1)) : Imp l G M D mc ms Q (ix_istore i K) pc := by
  intro ls st S I J z k n hk p e s m args below meth c H locs lsA A hC hW hA hS hL
  unfold ix_istore at hk
  split at hk
  · exact lv_istore_n hC.1 hC.2.1 d hi hL.has hn rfl (fun ls' h' => h _ _ _ _ _ _ _ _ hk p e s m args below meth c H locs ls' A hC hW hA hS (fq_L.st1 h'))
  · exact hk.elim
def ix_lstore (i : Nat) (K : Cn) : Cn := fun ls st S I J z k n => match st with
  | .long x :: st => K (stL2 (.long x) i ls) st S I J z k n
  | _ => False
theorem sx_lstore {l : Launch} {G : GT} {M : MT} {D mc ms : Nat} {Q : Post} {pc : Nat} {K : Cn} {i : Nat} (d : decode M.2.1 pc = .ok (.lstore i, 2)) (hn : i + 1 < M.2.2.1) (h : Imp l G M D mc ms Q K (pc + 2)) : Imp l G M D mc ms Q (ix_lstore i K) pc := by
  intro ls st S I J z k n hk p e s m args below meth c H locs lsA A hC hW hA hS hL
  unfold ix_lstore at hk
  split at hk
  · exact lv_lstore hC.1 hC.2.1 d hL.has hn rfl (fun ls' h' => h _ _ _ _ _ _ _ _ hk p e s m args below meth c H locs ls' A hC hW hA hS (fq_L.st2 h'))
  · exact hk.elim
theorem sx_lstore_n {l : Launch} {G : GT} {M : MT} {D mc ms : Nat} {Q : Post} {pc : Nat} {K : Cn} {i : Nat} {f : Fin 4} (d : decode M.2.1 pc = .ok (.lstore_n f, 1)) (hi : (f : Nat) = i) (hn : i + 1 < M.2.2.1) (h : Imp l G M D mc ms Q K (pc + 1)) : Imp l G M D mc ms Q (ix_lstore i K) pc := by
  intro ls st S I J z k n hk p e s m args below meth c H locs lsA A hC hW hA hS hL
  unfold ix_lstore at hk
  split at hk
  · exact lv_lstore_n hC.1 hC.2.1 d hi hL.has hn rfl (fun ls' h' => h _ _ _ _ _ _ _ _ hk p e s m args below meth c H locs ls' A hC hW hA hS (fq_L.st2 h'))
  · exact hk.elim
def ix_astore (i : Nat) (K : Cn) : Cn := fun ls st S I J z k n => match st with
  | .ref x :: st => K (stL (.ref x) i ls) st S I J z k n
  | _ => False
theorem sx_astore {l : Launch} {G : GT} {M : MT} {D mc ms : Nat} {Q : Post} {pc : Nat} {K : Cn} {i : Nat} (d : decode M.2.1 pc = .ok (.astore i, 2)) (hn : i < M.2.2.1) (h : Imp l G M D mc ms Q K (pc + 2)) : Imp l G M D mc ms Q (ix_astore i K) pc := by
  intro ls st S I J z k n hk p e s m args below meth c H locs lsA A hC hW hA hS hL
  unfold ix_astore at hk
  split at hk
  · exact lv_astore hC.1 hC.2.1 d hL.has hn rfl (fun ls' h' => h _ _ _ _ _ _ _ _ hk p e s m args below meth c H locs ls' A hC hW hA hS (fq_L.st1 h'))
  · exact hk.elim
theorem sx_astore_n {l : Launch} {G : GT} {M : MT} {D mc ms : Nat} {Q : Post} {pc : Nat} {K : Cn} {i : Nat} {f : Fin 4} (d : decode M.2.1 pc = .ok (.astore_n f, 1)) (hi : (f : Nat) = i) (hn : i < M.2.2.1) (h : Imp l G M D mc ms Q K (pc + 1)) : Imp l G M D mc ms Q (ix_astore i K) pc := by
  intro ls st S I J z k n hk p e s m args below meth c H locs lsA A hC hW hA hS hL
  unfold ix_astore at hk
  split at hk
  · exact lv_astore_n hC.1 hC.2.1 d hi hL.has hn rfl (fun ls' h' => h _ _ _ _ _ _ _ _ hk p e s m args below meth c H locs ls' A hC hW hA hS (fq_L.st1 h'))
  · exact hk.elim
def ix_iinc (i : Nat) (a : Int32) (K : Cn) : Cn := fun ls st S I J z k n => match ls[i]? with
  | some (some (.int x)) => K (stL (.int (x + a)) i ls) st S I J z k n
  | _ => False
theorem sx_iinc {l : Launch} {G : GT} {M : MT} {D mc ms : Nat} {Q : Post} {pc : Nat} {K : Cn} {i : Nat} {b : Int} {a : Int32} (d : decode M.2.1 pc = .ok (.iinc i b, 3)) (ha : Int32.ofInt b = a) (hn : i < M.2.2.1) (h : Imp l G M D mc ms Q K (pc + 3)) : Imp l G M D mc ms Q (ix_iinc i a K) pc := by
  intro ls st S I J z k n hk p e s m args below meth c H locs lsA A hC hW hA hS hL
  unfold ix_iinc at hk
  split at hk
  · next x hx =>
    obtain ⟨q, hq⟩ := List.getElem?_of_mem (fq_pr_mem.mpr hx)
    exact lv_iinc hC.1 hC.2.1 d hL.has hq (by rw [ha]) hn rfl (fun ls' h' => h _ _ _ _ _ _ _ _ hk p e s m args below meth c H locs ls' A hC hW hA hS (fq_L.st1 h'))
  · exact hk.elim
def ix_if_eq (Kt Kf : Cn) : Cn := fun ls st S I J z k n => match st with
  | .int x :: st => (x = 0 → Kt ls st S I J z k n) ∧ (¬ x = 0 → Kf ls st S I J z k n)
  | _ => False
theorem sx_if_eq {l : Launch} {G : GT} {M : MT} {D mc ms : Nat} {Q : Post} {pc : Nat} {Kt Kf : Cn} {off : Int} (t : Nat) (d : decode M.2.1 pc = .ok (.ifCond .eq off, 3)) (ht : (pc : Int) + off = (t : Int)) (h1 : Imp l G M D mc ms Q Kt t) (h2 : Imp l G M D mc ms Q Kf (pc + 3)) : Imp l G M D mc ms Q (ix_if_eq Kt Kf) pc := by
  intro ls st S I J z k n hk p e s m args below meth c H locs lsA A hC hW hA hS hL
  unfold ix_if_eq at hk
  split at hk
  · exact lv_if_eq hC.1 hC.2.1 d ht (fun q => h1 _ _ _ _ _ _ _ _ (hk.1 q) p e s m args below meth c H locs lsA A hC hW hA hS hL) (fun q => h2 _ _ _ _ _ _ _ _ (hk.2 q) p e s m args below meth c H locs lsA A hC hW hA hS hL)
  · exact hk.elim
def ix_icmp_eq (Kt Kf : Cn) : Cn := fun ls st S I J z k n => match st with
  | .int y :: .int x :: st => (x = y → Kt ls st S I J z k n) ∧ (¬ x = y → Kf ls st S I J z k n)
  | _ => False
theorem sx_icmp_eq {l : Launch} {G : GT} {M : MT} {D mc ms : Nat} {Q : Post} {pc : Nat} {Kt Kf : Cn} {off : Int} (t : Nat) (d : decode M.2.1 pc = .ok (.if_icmp .eq off, 3)) (ht : (pc : Int) + off = (t : Int)) (h1 : Imp l G M D mc ms Q Kt t) (h2 : Imp l G M D mc ms Q Kf (pc + 3)) : Imp l G M D mc ms Q (ix_icmp_eq Kt Kf) pc := by
  intro ls st S I J z k n hk p e s m args below meth c H locs lsA A hC hW hA hS hL
  unfold ix_icmp_eq at hk
  split at hk
  · exact lv_icmp_eq hC.1 hC.2.1 d ht (fun q => h1 _ _ _ _ _ _ _ _ (hk.1 q) p e s m args below meth c H locs lsA A hC hW hA hS hL) (fun q => h2 _ _ _ _ _ _ _ _ (hk.2 q) p e s m args below meth c H locs lsA A hC hW hA hS hL)
  · exact hk.elim
def ix_if_ne (Kt Kf : Cn) : Cn := fun ls st S I J z k n => match st with
  | .int x :: st => (¬ x = 0 → Kt ls st S I J z k n) ∧ (x = 0 → Kf ls st S I J z k n)
  | _ => False
theorem sx_if_ne {l : Launch} {G : GT} {M : MT} {D mc ms : Nat} {Q : Post} {pc : Nat} {Kt Kf : Cn} {off : Int} (t : Nat) (d : decode M.2.1 pc = .ok (.ifCond .ne off, 3)) (ht : (pc : Int) + off = (t : Int)) (h1 : Imp l G M D mc ms Q Kt t) (h2 : Imp l G M D mc ms Q Kf (pc + 3)) : Imp l G M D mc ms Q (ix_if_ne Kt Kf) pc := by
  intro ls st S I J z k n hk p e s m args below meth c H locs lsA A hC hW hA hS hL
  unfold ix_if_ne at hk
  split at hk
  · exact lv_if_ne hC.1 hC.2.1 d ht (fun q => h1 _ _ _ _ _ _ _ _ (hk.1 q) p e s m args below meth c H locs lsA A hC hW hA hS hL) (fun q => h2 _ _ _ _ _ _ _ _ (hk.2 q) p e s m args below meth c H locs lsA A hC hW hA hS hL)
  · exact hk.elim
def ix_icmp_ne (Kt Kf : Cn) : Cn := fun ls st S I J z k n => match st with
  | .int y :: .int x :: st => (¬ x = y → Kt ls st S I J z k n) ∧ (x = y → Kf ls st S I J z k n)
  | _ => False
theorem sx_icmp_ne {l : Launch} {G : GT} {M : MT} {D mc ms : Nat} {Q : Post} {pc : Nat} {Kt Kf : Cn} {off : Int} (t : Nat) (d : decode M.2.1 pc = .ok (.if_icmp .ne off, 3)) (ht : (pc : Int) + off = (t : Int)) (h1 : Imp l G M D mc ms Q Kt t) (h2 : Imp l G M D mc ms Q Kf (pc + 3)) : Imp l G M D mc ms Q (ix_icmp_ne Kt Kf) pc := by
  intro ls st S I J z k n hk p e s m args below meth c H locs lsA A hC hW hA hS hL
  unfold ix_icmp_ne at hk
  split at hk
  · exact lv_icmp_ne hC.1 hC.2.1 d ht (fun q => h1 _ _ _ _ _ _ _ _ (hk.1 q) p e s m args below meth c H locs lsA A hC hW hA hS hL) (fun q => h2 _ _ _ _ _ _ _ _ (hk.2 q) p e s m args below meth c H locs lsA A hC hW hA hS hL)
  · exact hk.elim
def ix_if_lt (Kt Kf : Cn) : Cn := fun ls st S I J z k n => match st with
  | .int x :: st => (x < 0 → Kt ls st S I J z k n) ∧ (¬ x < 0 → Kf ls st S I J z k n)
  | _ => False
theorem sx_if_lt {l : Launch} {G : GT} {M : MT} {D mc ms : Nat} {Q : Post} {pc : Nat} {Kt Kf : Cn} {off : Int} (t : Nat) (d : decode M.2.1 pc = .ok (.ifCond .lt off, 3)) (ht : (pc : Int) + off = (t : Int)) (h1 : Imp l G M D mc ms Q Kt t) (h2 : Imp l G M D mc ms Q Kf (pc + 3)) : Imp l G M D mc ms Q (ix_if_lt Kt Kf) pc := by
  intro ls st S I J z k n hk p e s m args below meth c H locs lsA A hC hW hA hS hL
  unfold ix_if_lt at hk
  split at hk
  · exact lv_if_lt hC.1 hC.2.1 d ht (fun q => h1 _ _ _ _ _ _ _ _ (hk.1 q) p e s m args below meth c H locs lsA A hC hW hA hS hL) (fun q => h2 _ _ _ _ _ _ _ _ (hk.2 q) p e s m args below meth c H locs lsA A hC hW hA hS hL)
  · exact hk.elim
def ix_icmp_lt (Kt Kf : Cn) : Cn := fun ls st S I J z k n => match st with
  | .int y :: .int x :: st => (x < y → Kt ls st S I J z k n) ∧ (¬ x < y → Kf ls st S I J z k n)
  | _ => False
theorem sx_icmp_lt {l : Launch} {G : GT} {M : MT} {D mc ms : Nat} {Q : Post} {pc : Nat} {Kt Kf : Cn} {off : Int} (t : Nat) (d : decode M.2.1 pc = .ok (.if_icmp .lt off, 3)) (ht : (pc : Int) + off = (t : Int)) (h1 : Imp l G M D mc ms Q Kt t) (h2 : Imp l G M D mc ms Q Kf (pc + 3)) : Imp l G M D mc ms Q (ix_icmp_lt Kt Kf) pc := by
  intro ls st S I J z k n hk p e s m args below meth c H locs lsA A hC hW hA hS hL
  unfold ix_icmp_lt at hk
  split at hk
  · exact lv_icmp_lt hC.1 hC.2.1 d ht (fun q => h1 _ _ _ _ _ _ _ _ (hk.1 q) p e s m args below meth c H locs lsA A hC hW hA hS hL) (fun q => h2 _ _ _ _ _ _ _ _ (hk.2 q) p e s m args below meth c H locs lsA A hC hW hA hS hL)
  · exact hk.elim
def ix_if_ge (Kt Kf : Cn) : Cn := fun ls st S I J z k n => match st with
  | .int x :: st => (0 ≤ x → Kt ls st S I J z k n) ∧ (¬ 0 ≤ x → Kf ls st S I J z k n)
  | _ => False
theorem sx_if_ge {l : Launch} {G : GT} {M : MT} {D mc ms : Nat} {Q : Post} {pc : Nat} {Kt Kf : Cn} {off : Int} (t : Nat) (d : decode M.2.1 pc = .ok (.ifCond .ge off, 3)) (ht : (pc : Int) + off = (t : Int)) (h1 : Imp l G M D mc ms Q Kt t) (h2 : Imp l G M D mc ms Q Kf (pc + 3)) : Imp l G M D mc ms Q (ix_if_ge Kt Kf) pc := by
  intro ls st S I J z k n hk p e s m args below meth c H locs lsA A hC hW hA hS hL
  unfold ix_if_ge at hk
  split at hk
  · exact lv_if_ge hC.1 hC.2.1 d ht (fun q => h1 _ _ _ _ _ _ _ _ (hk.1 q) p e s m args below meth c H locs lsA A hC hW hA hS hL) (fun q => h2 _ _ _ _ _ _ _ _ (hk.2 q) p e s m args below meth c H locs lsA A hC hW hA hS hL)
  · exact hk.elim
def ix_icmp_ge (Kt Kf : Cn) : Cn := fun ls st S I J z k n => match st with
  | .int y :: .int x :: st => (y ≤ x → Kt ls st S I J z k n) ∧ (¬ y ≤ x → Kf ls st S I J z k n)
  | _ => False
theorem sx_icmp_ge {l : Launch} {G : GT} {M : MT} {D mc ms : Nat} {Q : Post} {pc : Nat} {Kt Kf : Cn} {off : Int} (t : Nat) (d : decode M.2.1 pc = .ok (.if_icmp .ge off, 3)) (ht : (pc : Int) + off = (t : Int)) (h1 : Imp l G M D mc ms Q Kt t) (h2 : Imp l G M D mc ms Q Kf (pc + 3)) : Imp l G M D mc ms Q (ix_icmp_ge Kt Kf) pc := by
  intro ls st S I J z k n hk p e s m args below meth c H locs lsA A hC hW hA hS hL
  unfold ix_icmp_ge at hk
  split at hk
  · exact lv_icmp_ge hC.1 hC.2.1 d ht (fun q => h1 _ _ _ _ _ _ _ _ (hk.1 q) p e s m args below meth c H locs lsA A hC hW hA hS hL) (fun q => h2 _ _ _ _ _ _ _ _ (hk.2 q) p e s m args below meth c H locs lsA A hC hW hA hS hL)
  · exact hk.elim
def ix_if_gt (Kt Kf : Cn) : Cn := fun ls st S I J z k n => match st with
  | .int x :: st => (0 < x → Kt ls st S I J z k n) ∧ (¬ 0 < x → Kf ls st S I J z k n)
  | _ => False
theorem sx_if_gt {l : Launch} {G : GT} {M : MT} {D mc ms : Nat} {Q : Post} {pc : Nat} {Kt Kf : Cn} {off : Int} (t : Nat) (d : decode M.2.1 pc = .ok (.ifCond .gt off, 3)) (ht : (pc : Int) + off = (t : Int)) (h1 : Imp l G M D mc ms Q Kt t) (h2 : Imp l G M D mc ms Q Kf (pc + 3)) : Imp l G M D mc ms Q (ix_if_gt Kt Kf) pc := by
  intro ls st S I J z k n hk p e s m args below meth c H locs lsA A hC hW hA hS hL
  unfold ix_if_gt at hk
  split at hk
  · exact lv_if_gt hC.1 hC.2.1 d ht (fun q => h1 _ _ _ _ _ _ _ _ (hk.1 q) p e s m args below meth c H locs lsA A hC hW hA hS hL) (fun q => h2 _ _ _ _ _ _ _ _ (hk.2 q) p e s m args below meth c H locs lsA A hC hW hA hS hL)
  · exact hk.elim
def ix_icmp_gt (Kt Kf : Cn) : Cn := fun ls st S I J z k n => match st with
  | .int y :: .int x :: st => (y < x → Kt ls st S I J z k n) ∧ (¬ y < x → Kf ls st S I J z k n)
  | _ => False
theorem sx_icmp_gt {l : Launch} {G : GT} {M : MT} {D mc ms : Nat} {Q : Post} {pc : Nat} {Kt Kf : Cn} {off : Int} (t : Nat) (d : decode M.2.1 pc = .ok (.if_icmp .gt off, 3)) (ht : (pc : Int) + off = (t : Int)) (h1 : Imp l G M D mc ms Q Kt t) (h2 : Imp l G M D mc ms Q Kf (pc + 3)) : Imp l G M D mc ms Q (ix_icmp_gt Kt Kf) pc := by
  intro ls st S I J z k n hk p e s m args below meth c H locs lsA A hC hW hA hS hL
  unfold ix_icmp_gt at hk
  split at hk
  · exact lv_icmp_gt hC.1 hC.2.1 d ht (fun q => h1 _ _ _ _ _ _ _ _ (hk.1 q) p e s m args below meth c H locs lsA A hC hW hA hS hL) (fun q => h2 _ _ _ _ _ _ _ _ (hk.2 q) p e s m args below meth c H locs lsA A hC hW hA hS hL)
  · exact hk.elim
def ix_if_le (Kt Kf : Cn) : Cn := fun ls st S I J z k n => match st with
  | .int x :: st => (x ≤ 0 → Kt ls st S I J z k n) ∧ (¬ x ≤ 0 → Kf ls st S I J z k n)
  | _ => False
theorem sx_if_le {l : Launch} {G : GT} {M : MT} {D mc ms : Nat} {Q : Post} {pc : Nat} {Kt Kf : Cn} {off : Int} (t : Nat) (d : decode M.2.1 pc = .ok (.ifCond .le off, 3)) (ht : (pc : Int) + off = (t : Int)) (h1 : Imp l G M D mc ms Q Kt t) (h2 : Imp l G M D mc ms Q Kf (pc + 3)) : Imp l G M D mc ms Q (ix_if_le Kt Kf) pc := by
  intro ls st S I J z k n hk p e s m args below meth c H locs lsA A hC hW hA hS hL
  unfold ix_if_le at hk
  split at hk
  · exact lv_if_le hC.1 hC.2.1 d ht (fun q => h1 _ _ _ _ _ _ _ _ (hk.1 q) p e s m args below meth c H locs lsA A hC hW hA hS hL) (fun q => h2 _ _ _ _ _ _ _ _ (hk.2 q) p e s m args below meth c H locs lsA A hC hW hA hS hL)
  · exact hk.elim
def ix_icmp_le (Kt Kf : Cn) : Cn := fun ls st S I J z k n => match st with
  | .int y :: .int x :: st => (x ≤ y → Kt ls st S I J z k n) ∧ (¬ x ≤ y → Kf ls st S I J z k n)
  | _ => False
theorem sx_icmp_le {l : Launch} {G : GT} {M : MT} {D mc ms : Nat} {Q : Post} {pc : Nat} {Kt Kf : Cn} {off : Int} (t : Nat) (d : decode M.2.1 pc = .ok (.if_icmp .le off, 3)) (ht : (pc : Int) + off = (t : Int)) (h1 : Imp l G M D mc ms Q Kt t) (h2 : Imp l G M D mc ms Q Kf (pc + 3)) : Imp l G M D mc ms Q (ix_icmp_le Kt Kf) pc := by
  intro ls st S I J z k n hk p e s m args below meth c H locs lsA A hC hW hA hS hL
  unfold ix_icmp_le at hk
  split at hk
  · exact lv_icmp_le hC.1 hC.2.1 d ht (fun q => h1 _ _ _ _ _ _ _ _ (hk.1 q) p e s m args below meth c H locs lsA A hC hW hA hS hL) (fun q => h2 _ _ _ _ _ _ _ _ (hk.2 q) p e s m args below meth c H locs lsA A hC hW hA hS hL)
  · exact hk.elim
theorem sx_goto {l : Launch} {G : GT} {M : MT} {D mc ms : Nat} {Q : Post} {pc : Nat} {K : Cn} {off : Int} (t : Nat) (d : decode M.2.1 pc = .ok (.goto off, 3)) (ht : (pc : Int) + off = (t : Int)) (h : Imp l G M D mc ms Q K t) : Imp l G M D mc ms Q K pc := by
  intro ls st S I J z k n hk p e s m args below meth c H locs lsA A hC hW hA hS hL
  exact lv_goto hC.1 hC.2.1 d ht (h _ _ _ _ _ _ _ _ hk p e s m args below meth c H locs lsA A hC hW hA hS hL)
/-- a switch: the cases in a row, lo on; else -/
def fq_sw (x : Int32) (lo : Int) (Kd : Prop) : List Prop → Prop
  | [] => Kd
  | p :: ps => (x.toInt = lo → p) ∧ (¬ x.toInt = lo → fq_sw x (lo + 1) Kd ps)
def ix_tsw (lo : Int) (Ks : List Cn) (Kd : Cn) : Cn := fun ls st S I J z k n => match st with
  | .int x :: st => fq_sw x lo (Kd ls st S I J z k n) (Ks.map fun K => K ls st S I J z k n)
  | _ => False
theorem fq_sw_in {x : Int32} {Kd : Prop} : ∀ {ps : List Prop} {lo : Int}, fq_sw x lo Kd ps → ∀ (i : Nat) (p : Prop), ps[i]? = some p → x.toInt = lo + i → p
  | [], _, _, i, p, hp, _ => by simp at hp
  | q :: ps, lo, h, 0, p, hp, hx => by simp at hp; exact hp.mp (h.1 (by simpa using hx))
  | q :: ps, lo, h, i + 1, p, hp, hx => fq_sw_in (h.2 (by omega)) i p (by simpa using hp) (by omega)
theorem fq_sw_out {x : Int32} {Kd : Prop} : ∀ {ps : List Prop} {lo : Int}, fq_sw x lo Kd ps → (x.toInt < lo ∨ lo + ps.length ≤ x.toInt) → Kd
  | [], _, h, _ => h
  | q :: ps, lo, h, hx => fq_sw_out (h.2 (by simp at hx; omega)) (by simp at hx ⊢; omega)
theorem sx_tsw {l : Launch} {G : GT} {M : MT} {D mc ms : Nat} {Q : Post} {pc : Nat} {Ks : List Cn} {Kd : Cn} {dflt lo hi : Int} {offs : Array Int} {len : Nat} (ts : List Nat) (td : Nat) (d : decode M.2.1 pc = .ok (.tableswitch dflt lo hi offs, len)) (hlen : Ks.length = ts.length) (hhi : hi = lo + ts.length - 1) (hts : offs.toList.map (fun o => (pc : Int) + o) = ts.map (fun (t : Nat) => (t : Int))) (htd : (pc : Int) + dflt = (td : Int)) (h : ∀ (i : Nat) (K : Cn) (t : Nat), Ks[i]? = some K → ts[i]? = some t → Imp l G M D mc ms Q K t) (hd : Imp l G M D mc ms Q Kd td) : Imp l G M D mc ms Q (ix_tsw lo Ks Kd) pc := by
  intro ls st S I J z k n hk p e s m args below meth c H locs lsA A hC hW hA hS hL
  unfold ix_tsw at hk
  split at hk
  · next x st =>
    by_cases hx : x.toInt < lo ∨ hi < x.toInt
    · exact lv_tableOut hC.1 hC.2.1 d hx htd (hd _ _ _ _ _ _ _ _ (fq_sw_out hk (by simp [hlen]; omega)) p e s m args below meth c H locs lsA A hC hW hA hS hL)
    · have hx1 : ¬ x.toInt < lo := fun q => hx (Or.inl q)
      have hx2 : ¬ hi < x.toInt := fun q => hx (Or.inr q)
      have hi1 : (x.toInt - lo).toNat < ts.length := by omega
      obtain ⟨t, ht⟩ : ∃ t, ts[(x.toInt - lo).toNat]? = some t := ⟨_, List.getElem?_eq_getElem hi1⟩
      obtain ⟨K, hK⟩ : ∃ K, Ks[(x.toInt - lo).toNat]? = some K := ⟨_, List.getElem?_eq_getElem (by omega)⟩
      have ho : (offs.toList.map (fun o => (pc : Int) + o))[(x.toInt - lo).toNat]? = some (t : Int) := by rw [hts, List.getElem?_map, ht]; rfl
      rw [List.getElem?_map] at ho
      cases ho2 : offs.toList[(x.toInt - lo).toNat]? with
      | none => rw [ho2] at ho; cases ho
      | some off =>
        rw [ho2] at ho
        have ho3 : (pc : Int) + off = (t : Int) := Option.some.inj ho
        exact lv_tableIn hC.1 hC.2.1 d hx1 hx2 (by rw [← Array.getElem?_toList]; exact ho2) ho3 (h _ K t hK ht _ _ _ _ _ _ _ _ (fq_sw_in hk (x.toInt - lo).toNat _ (by rw [List.getElem?_map, hK]; rfl) (by omega)) p e s m args below meth c H locs lsA A hC hW hA hS hL)
  · exact hk.elim
/-- a switch over scattered numbers -/
def fq_lsw (x : Int32) (Kd : Prop) : List (Int × Prop) → Prop
  | [] => Kd
  | p :: ps => (x.toInt = p.1 → p.2) ∧ (¬ x.toInt = p.1 → fq_lsw x Kd ps)
def ix_lsw (Ks : List (Int × Cn)) (Kd : Cn) : Cn := fun ls st S I J z k n => match st with
  | .int x :: st => fq_lsw x (Kd ls st S I J z k n) (Ks.map fun K => (K.1, K.2 ls st S I J z k n))
  | _ => False
def ix_iret (mc ms : Nat) (Q : Post) : Cn := fun _ st S I J z k n => match st with
  | [.int v] => k ≤ mc ∧ n ≤ ms ∧ Q (some (.int v)) S I J z
  | _ => False
theorem sx_iret {l : Launch} {G : GT} {M : MT} {D mc ms : Nat} {Q : Post} {pc : Nat}  (d : decode M.2.1 pc = .ok (.ireturn, 1)) (hr : M.2.2.2 = some .int) : Imp l G M D mc ms Q (ix_iret mc ms Q) pc := by
  intro ls st S I J z k n hk p e s m args below meth c H locs lsA A hC hW hA hS hL
  unfold ix_iret at hk
  split at hk
  · refine W.widen hk.1 hk.2.1 ?_
    exact W.iret hC.1 hC.2.1 (by rw [hC.2.2.1]; exact hr) (fun t ht hWm => ⟨⟨_, S, I, J, z, rfl, hk.2.2, by rw [ht]; exact hW, hA⟩, hS.F ht⟩) hS.2.2 d hC.2.2.2.2.2.2.1
  · exact hk.elim
def ix_lret (mc ms : Nat) (Q : Post) : Cn := fun _ st S I J z k n => match st with
  | [.long v] => k ≤ mc ∧ n ≤ ms ∧ Q (some (.long v)) S I J z
  | _ => False
theorem sx_lret {l : Launch} {G : GT} {M : MT} {D mc ms : Nat} {Q : Post} {pc : Nat}  (d : decode M.2.1 pc = .ok (.lreturn, 1)) (hr : M.2.2.2 = some .long) : Imp l G M D mc ms Q (ix_lret mc ms Q) pc := by
  intro ls st S I J z k n hk p e s m args below meth c H locs lsA A hC hW hA hS hL
  unfold ix_lret at hk
  split at hk
  · refine W.widen hk.1 hk.2.1 ?_
    exact W.lret hC.1 hC.2.1 (by rw [hC.2.2.1]; exact hr) (fun t ht hWm => ⟨⟨_, S, I, J, z, rfl, hk.2.2, by rw [ht]; exact hW, hA⟩, hS.F ht⟩) hS.2.2 d hC.2.2.2.2.2.2.1
  · exact hk.elim
def ix_vret (mc ms : Nat) (Q : Post) : Cn := fun _ st S I J z k n => match st with
  | [] => k ≤ mc ∧ n ≤ ms ∧ Q (none) S I J z
  | _ => False
theorem sx_vret {l : Launch} {G : GT} {M : MT} {D mc ms : Nat} {Q : Post} {pc : Nat}  (d : decode M.2.1 pc = .ok (.return_, 1)) (hr : M.2.2.2 = none) : Imp l G M D mc ms Q (ix_vret mc ms Q) pc := by
  intro ls st S I J z k n hk p e s m args below meth c H locs lsA A hC hW hA hS hL
  unfold ix_vret at hk
  split at hk
  · refine W.widen hk.1 hk.2.1 ?_
    exact W.vret hC.1 hC.2.1 (by rw [hC.2.2.1]; exact hr) (fun t ht hWm => ⟨⟨_, S, I, J, z, rfl, hk.2.2, by rw [ht]; exact hW, hA⟩, hS.F ht⟩) hS.2.2 d hC.2.2.2.2.2.2.1
  · exact hk.elim
def ix_aret (mc ms : Nat) (Q : Post) : Cn := fun _ st S I J z k n => match st with
  | [.ref v] => k ≤ mc ∧ n ≤ ms ∧ Q (some (.ref v)) S I J z
  | _ => False
theorem sx_aret {l : Launch} {G : GT} {M : MT} {D mc ms : Nat} {Q : Post} {pc : Nat} {rt : String} (d : decode M.2.1 pc = .ok (.areturn, 1)) (hr : M.2.2.2 = some (.object rt)) : Imp l G M D mc ms Q (ix_aret mc ms Q) pc := by
  intro ls st S I J z k n hk p e s m args below meth c H locs lsA A hC hW hA hS hL
  unfold ix_aret at hk
  split at hk
  · refine W.widen hk.1 hk.2.1 ?_
    exact W.aret hC.1 hC.2.1 (by rw [hC.2.2.1]; exact hr) (Or.inl ⟨_, rfl⟩) (Or.inr ⟨_, rfl⟩) (fun t ht hWm => ⟨⟨_, S, I, J, z, rfl, hk.2.2, by rw [ht]; exact hW, hA⟩, hS.F ht⟩) hS.2.2 d hC.2.2.2.2.2.2.1
  · exact hk.elim
def ix_zret (mc ms : Nat) (Q : Post) : Cn := fun _ st S I J z k n => match st with
  | [.int v] => (v = 0 ∨ v = 1) ∧ k ≤ mc ∧ n ≤ ms ∧ Q (some (.int v)) S I J z
  | _ => False
theorem sx_zret {l : Launch} {G : GT} {M : MT} {D mc ms : Nat} {Q : Post} {pc : Nat}  (d : decode M.2.1 pc = .ok (.ireturn, 1)) (hr : M.2.2.2 = some .boolean) : Imp l G M D mc ms Q (ix_zret mc ms Q) pc := by
  intro ls st S I J z k n hk p e s m args below meth c H locs lsA A hC hW hA hS hL
  unfold ix_zret at hk
  split at hk
  · refine W.widen hk.2.1 hk.2.2.1 ?_
    exact W.zret hC.1 hC.2.1 (by rw [hC.2.2.1]; exact hr) (by rcases hk.1 with h | h <;> subst h <;> rfl) (fun t ht hWm => ⟨⟨_, S, I, J, z, rfl, hk.2.2.2, by rw [ht]; exact hW, hA⟩, hS.F ht⟩) hS.2.2 d hC.2.2.2.2.2.2.1
  · exact hk.elim
