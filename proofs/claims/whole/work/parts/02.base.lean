/-! the pool: kinds, lengths, references; numbers by address and place -/
abbrev Sh : Type := (Nat → Nat) × (Nat → Nat) × (Nat → Nat → Option Nat)
abbrev IH : Type := Nat → Nat → Int32
abbrev JH : Type := Nat → Nat → Int64
abbrev Post : Type := Option Value → Sh → IH → JH → Nat → Prop
abbrev Cn : Type := List (Option Value) → List Value → Sh → IH → JH → Nat → Nat → Nat → Prop
abbrev Sp : Type := List Value → Sh → IH → JH → Nat → Post → Prop
abbrev MT : Type := MethodName × ByteArray × Nat × Option FieldType
abbrev GT : Type := (Nat → ClassId) × (Nat → Nat → Nat) × (Nat → ClassId) × (Nat → Nat)
def nF (ci : Nat) : Nat := match ci with
  | 0 => 4 | 1 => 11 | 2 => 8 | 3 => 7 | 4 => 12 | 5 => 5 | 6 => 17 | 7 => 5 | 8 => 3 | 9 => 10 | 10 => 5 | 11 => 15 | _ => 36
def tyF (ci : Nat) (k : Nat) : FieldType := match ci with
  | 0 => tyX0 k | 1 => tyX1 k | 2 => tyX2 k | 3 => tyX3 k | 4 => tyX4 k | 5 => tyX5 k | 6 => tyX6 k | 7 => tyX7 k | 8 => tyX8 k | 9 => tyX9 k | 10 => tyX10 k | 11 => tyX11 k | _ => tyX12 k
def fq_fv (ty : FieldType) (r : Option Nat) (i : Int32) (j : Int64) : Value := match ty with
  | .long => .long j
  | .object _ => va_rf r
  | .array _ => va_rf r
  | _ => .int i
def fq_fs (S : Sh) (I : IH) (J : JH) (a : Nat) : List Value := (List.range (nF (S.1 a))).map (fun k => fq_fv (tyF (S.1 a) k) (S.2.2 a k) (I a k) (J a k))
def fq_ar (S : Sh) (I : IH) (J : JH) (a : Nat) : vp_A := (S.2.1 a, if S.1 a ≤ 14 then .inl (I a) else if S.1 a = 15 then .inr (.inl (J a)) else .inr (.inr (.inr (.inr (S.2.2 a)))))
def fq_E (G : GT) (S : Sh) (I : IH) (J : JH) (a : Nat) : va_E := if S.1 a < 13 then .inr (S.1 a, fq_fs S I J a) else .inl (G.2.2.1 (S.1 a), fq_ar S I J a)
def fq_ty (k : Nat) : FieldType := match k with
  | 13 => .byte | 14 => .int | 15 => .long | 16 => .object RX0 | 17 => .object RX2 | 18 => .object RX3 | 19 => .object RX6 | _ => .object RX8
def fq_tys (G : GT) : List (ClassId × FieldType) := [(G.2.2.1 13, fq_ty 13), (G.2.2.1 14, fq_ty 14), (G.2.2.1 15, fq_ty 15), (G.2.2.1 16, fq_ty 16), (G.2.2.1 17, fq_ty 17), (G.2.2.1 18, fq_ty 18), (G.2.2.1 19, fq_ty 19), (G.2.2.1 20, fq_ty 20)]
abbrev fq_D (G : GT) : va_G := (G.1, G.2.1)
def fq_W (G : GT) (S : Sh) (I : IH) (J : JH) (z : Nat) (H : Heap) : Prop := H.size = z ∧ ∀ a, S.1 a < 21 → va_at (fq_D G) vwCl (a, fq_E G S I J a) H
def rmL (D mc ms : Nat) : Room := { frames := D, cells := mc, slots := ms, locals := 64 * D }
abbrev fq_K (G : GT) (U : State) : Prop := va_K (fq_D G) vwCl (fq_tys G) U
def fq_tab (j : Nat) : List Int32 := match j with
  | 0 => [0, 0, 0, 1, 0] | 1 => [0, 30, 9, 9, 99] | 2 => [3, 4, 1, 1] | _ => [1, 1, 3, 1, 1, 0, 0]
def fq_tn (j : Nat) : String := match j with
  | 0 => "TRAIT_LEAST" | 1 => "TRAIT_MOST" | 2 => "ROWS" | _ => "LEFT_FIRST"
/-- the text of a row of the statement's own tables -/
def fq_txt : Cond → String
  | .stringRef _ _ t => t
  | _ => ""
def fq_words : String := fq_txt (tables_1_1.getD 56 (.initialized ""))
def fq_keys : String := fq_txt (tables_1_7.getD 136 (.initialized ""))
def fq_wordsB : List Int32 := [102, 111, 111, 116, 32, 99, 97, 108, 109, 32, 111, 100, 100, 115, 32, 104, 111, 117, 115, 101, 32, 119, 105, 100, 101, 32, 112, 101, 114, 115, 111, 110, 32, 105, 110, 32, 116, 101, 109, 112, 101, 114, 32, 104, 101, 97, 114, 115, 32, 118, 111, 105, 99, 101, 32, 112, 97, 121, 32, 112, 101, 97, 99, 101, 32, 115, 97, 121, 32, 115, 111, 114, 114, 121, 32, 110, 105, 103, 104, 116, 32, 114, 97, 105, 110, 32, 100, 114, 121, 32, 97, 110, 121, 32, 119, 104, 101, 110, 32, 97, 110, 103, 114, 121, 32, 114, 97, 105, 110, 105, 110, 103, 32, 108, 111, 111, 112, 32, 101, 110, 100, 32, 115, 116, 111, 112, 32]
def fq_keysB : List Int32 := [32, 102, 111, 111, 116, 32, 99, 97, 108, 109, 32, 111, 100, 100, 115, 32, 104, 111, 117, 115, 101, 32, 112, 101, 114, 115, 111, 110, 32, 112, 101, 97, 99, 101, 32, 119, 105, 100, 101, 32, 105, 110, 32, 116, 101, 109, 112, 101, 114, 32, 104, 101, 97, 114, 115, 32, 118, 111, 105, 99, 101, 32, 112, 97, 121, 32, 115, 97, 121, 32, 115, 111, 114, 114, 121, 32, 110, 105, 103, 104, 116, 32, 114, 97, 105, 110, 32, 100, 114, 121, 32, 97, 110, 121, 32, 119, 104, 101, 110, 32, 108, 111, 111, 112, 32, 101, 110, 100, 32, 115, 116, 111, 112, 32, 97, 110, 103, 114, 121, 32, 114, 97, 105, 110, 105, 110, 103, 32]
def fq_sl : List Nat := [127, 128]
def fq_sb : List (List Int32) := [fq_wordsB, fq_keysB]
def fq_all : List Cond := lw_tbl.filter goodWord
theorem fq_all_good : GoodIn fq_all fq_all := fun w h => ⟨h, good_of_word (List.mem_filter.mp h).2⟩
theorem mg_t {w : Cond} (h : w ∈ tables_1) (g : goodWord w = true) : w ∈ fq_all := List.mem_filter.mpr ⟨List.mem_append_right _ h, g⟩
theorem mg_1 {w : Cond} (h : w ∈ tables_1_1) (g : goodWord w = true) : w ∈ fq_all := mg_t (List.mem_append_left _ h) g
theorem mg_2 {w : Cond} (h : w ∈ tables_1_2) (g : goodWord w = true) : w ∈ fq_all := mg_t (List.mem_append_right _ (List.mem_append_left _ h)) g
theorem mg_3 {w : Cond} (h : w ∈ tables_1_3) (g : goodWord w = true) : w ∈ fq_all := mg_t (List.mem_append_right _ (List.mem_append_right _ (List.mem_append_left _ h))) g
theorem mg_4 {w : Cond} (h : w ∈ tables_1_4) (g : goodWord w = true) : w ∈ fq_all := mg_t (List.mem_append_right _ (List.mem_append_right _ (List.mem_append_right _ (List.mem_append_left _ h)))) g
theorem mg_5 {w : Cond} (h : w ∈ tables_1_5) (g : goodWord w = true) : w ∈ fq_all := mg_t (List.mem_append_right _ (List.mem_append_right _ (List.mem_append_right _ (List.mem_append_right _ (List.mem_append_left _ h))))) g
theorem mg_6 {w : Cond} (h : w ∈ tables_1_6) (g : goodWord w = true) : w ∈ fq_all := mg_t (List.mem_append_right _ (List.mem_append_right _ (List.mem_append_right _ (List.mem_append_right _ (List.mem_append_right _ (List.mem_append_left _ h)))))) g
theorem mg_7 {w : Cond} (h : w ∈ tables_1_7) (g : goodWord w = true) : w ∈ fq_all := mg_t (List.mem_append_right _ (List.mem_append_right _ (List.mem_append_right _ (List.mem_append_right _ (List.mem_append_right _ (List.mem_append_right _ (List.mem_append_left _ h))))))) g
theorem mg_8 {w : Cond} (h : w ∈ tables_1_8) (g : goodWord w = true) : w ∈ fq_all := mg_t (List.mem_append_right _ (List.mem_append_right _ (List.mem_append_right _ (List.mem_append_right _ (List.mem_append_right _ (List.mem_append_right _ (List.mem_append_right _ (List.mem_append_left _ h)))))))) g
theorem mg_9 {w : Cond} (h : w ∈ tables_1_9) (g : goodWord w = true) : w ∈ fq_all := mg_t (List.mem_append_right _ (List.mem_append_right _ (List.mem_append_right _ (List.mem_append_right _ (List.mem_append_right _ (List.mem_append_right _ (List.mem_append_right _ (List.mem_append_right _ h)))))))) g
theorem mg_p {w : Cond} (h : w ∈ k2_sels lw_privs) (g : goodWord w = true) : w ∈ fq_all := List.mem_filter.mpr ⟨List.mem_append_left _ h, g⟩
/-- what stands still: tables, texts -/
def fq_O (G : GT) (A : Nat → Prop) (U : State) (H : Heap) : Prop :=
  (∀ j, j < 4 → va_Z "FootQuarrel" (fq_tn j) "[I" (.ref (G.2.2.2 j)) A U H ∧ va_T .int (G.2.2.2 j) (fq_tab j).length (fun i => .int ((fq_tab j).getD i 0)) A U H) ∧
  vk_S 2 fq_sl fq_sb (fun i => G.2.2.2 (4 + i)) (fun i => G.2.2.2 (6 + i)) A U H ∧
  va_Z "java/lang/String" "COMPACT_STRINGS" "Z" (.int 1) A U H ∧
  va_Zq "jdk/internal/util/Preconditions" "SIOOBE_FORMATTER" "Ljava/util/function/BiFunction;" A U H
def fq_nm : List (String × Nat × MethodName) := [("FootQuarrel", 15, ⟨"FootQuarrel$Tray", "<init>", "()V"⟩), ("FootQuarrel$Street", 31, ⟨"FootQuarrel$Years", "<init>", "()V"⟩), ("FootQuarrel$Street", 38, ⟨"FootQuarrel$Spat", "<init>", "()V"⟩), ("FootQuarrel$Spat", 9, ⟨"FootQuarrel$Person", "<init>", "()V"⟩), ("FootQuarrel$Street", 43, ⟨"FootQuarrel$House", "<init>", "()V"⟩), ("FootQuarrel$Street", 44, ⟨"FootQuarrel$Person", "<init>", "()V"⟩), ("FootQuarrel$Street", 45, ⟨"FootQuarrel$Quarrel", "<init>", "()V"⟩), ("FootQuarrel", 38, ⟨"FootQuarrel$Life", "<init>", "()V"⟩), ("FootQuarrel$Reader", 100, ⟨"FootQuarrel", "isWithin", "(III)Z"⟩)]
def fq_nf : List (Nat × String) := [(128, "TRAIT_LEAST"), (132, "TRAIT_MOST")]
def fq_ao : List String := ["FootQuarrel$Tray", "FootQuarrel$Street", "FootQuarrel$House", "FootQuarrel$Person", "FootQuarrel$Quarrel"]
def fq_R (G : GT) (U : State) : Prop := vk_R "FootQuarrel$Reader" 19 fq_words (G.2.2.2 4) U ∧ vk_R "FootQuarrelModel" 168 fq_keys (G.2.2.2 5) U ∧ (∀ q ∈ fq_nm, va_Nw (.methodLinkNest q.1 q.2.1 q.2.2 "FootQuarrel") U) ∧ (∀ q ∈ fq_nf, va_Nw (.fieldLinkNest "FootQuarrel$StreetText" q.1 "FootQuarrel" q.2 "[I" "FootQuarrel") U) ∧ ∀ C ∈ fq_ao, va_AO C U
theorem fq_R.warm {G : GT} {s U : State} (hW : s.WarmedH U.vm) (h : fq_R G s) : fq_R G U :=
  ⟨h.1.warm hW, h.2.1.warm hW, fun q hq => (h.2.2.1 q hq).warmM hW, fun q hq => (h.2.2.2.1 q hq).warmF hW, fun C hC => (h.2.2.2.2 C hC).moved hW.alike⟩
theorem fq_R.same {G : GT} {s U : State} (hv : s.vm = U.vm) (h : fq_R G s) : fq_R G U :=
  ⟨h.1.same hv.symm, h.2.1.same hv.symm, fun q hq => (h.2.2.1 q hq).same rfl hv, fun q hq => (h.2.2.2.1 q hq).same rfl hv, fun C hC => (h.2.2.2.2 C hC).moved (by rw [← hv]; exact Vm.Alike.refl s.vm)⟩
theorem fq_O.moved {G : GT} {A : Nat → Prop} {u U : State} {H : Heap} (hvm : u.vm.Alike U.vm) (h : fq_O G A u H) : fq_O G A U H :=
  ⟨fun j hj => ⟨(h.1 j hj).1.moved hvm, (h.1 j hj).2.moved hvm⟩, vk_S.moved hvm h.2.1, va_Z.moved hvm h.2.2.1, va_Zq.moved hvm h.2.2.2⟩
theorem fq_O.kept {G : GT} {A : Nat → Prop} {U : State} {H H1 : Heap} (h : fq_O G A U H) (hq : ∀ a : Nat, a < H.size → ¬ A a → H1[a]? = H[a]?) : fq_O G A U H1 :=
  ⟨fun j hj => ⟨(h.1 j hj).1.kept hq, (h.1 j hj).2.kept hq⟩, vk_S.kept h.2.1 hq, va_Z.kept h.2.2.1 hq, va_Zq.kept h.2.2.2 hq⟩
theorem fq_O.narrow {G : GT} {A B : Nat → Prop} {U : State} {H : Heap} (h : fq_O G A U H) (hAB : ∀ q, B q → A q) : fq_O G B U H :=
  ⟨fun j hj => ⟨(h.1 j hj).1.narrow hAB, (h.1 j hj).2.narrow hAB⟩, vk_S.narrow h.2.1 hAB, va_Z.narrow h.2.2.1 hAB, va_Zq.narrow h.2.2.2 hAB⟩
/-- the machine's side of a method's body -/
def fq_Cx (G : GT) (M : MT) (p : Program) (s : State) (m : MethodId) (args : Array Value) (meth : Method) (c : Code) (A : Nat → Prop) : Prop :=
  p.tables.exec = Jvm.exec ∧ c.code = M.2.1 ∧ meth.sig.returnType = M.2.2.2 ∧ c.maxLocals = M.2.2.1 ∧ s.vm.findClass M.1.cls = some m.cls ∧ (∀ w ∈ fq_all, w.before args s = true) ∧ meth.locks = false ∧ meth.name = M.1.name ∧ (∀ q, s.heap.size ≤ q → A q) ∧ fq_K G s ∧ fq_O G A s s.heap ∧ fq_R G s
def fq_L (lsA : Array Slot) (nL : Nat) (ls : List (Option Value)) : Prop := lsA.size = nL ∧ lv_wf lsA ∧ ∀ (i : Nat) (v : Value), ls[i]? = some (some v) → lsA[i]? = some (.val v)
def fq_Qc (G : GT) (Q : Post) (A : Nat → Prop) : Array Value → State → Outcome → State → Prop := fun _ st o t =>
  (∃ (r : Option Value) (S : Sh) (I : IH) (J : JH) (z : Nat), o = .returned r ∧ Q r S I J z ∧ fq_W G S I J z t.heap ∧ (∀ a, S.1 a < 21 → A a)) ∧ va_F A st t
def fqAt (l : Launch) (G : GT) (M : MT) (D mc ms : Nat) (Q : Post) (pc : Nat) : Cn := fun ls st S I J z k n =>
  ∀ (p : Program) (e : Env) (s : State) (m : MethodId) (args : Array Value) (below : List Frame) (meth : Method) (c : Code) (H : Heap) (locs : List Loc) (lsA : Array Slot) (A : Nat → Prop),
    fq_Cx G M p s m args meth c A → fq_W G S I J z H → (∀ a, S.1 a < 21 → A a) → va_S A s.heap H locs → fq_L lsA M.2.2.1 ls →
    W p l e (rmL D mc ms) s m args below meth c H locs k n (MQ below (fq_Qc G Q A) args s mc ms A) (F0 m pc lsA st)
abbrev Imp (l : Launch) (G : GT) (M : MT) (D mc ms : Nat) (Q : Post) (K : Cn) (pc : Nat) : Prop := ∀ (ls : List (Option Value)) (st : List Value) (S : Sh) (I : IH) (J : JH) (z k n : Nat), K ls st S I J z k n → fqAt l G M D mc ms Q pc ls st S I J z k n
def fq_ws (M : MT) : List Cond := .code M.1 M.2.1 M.2.2.1 M.2.2.2 :: fq_all
/-- a call of a method: from any state that holds the pool, it returns, and Q holds of its answer and the new pool -/
def fqCall (l : Launch) (G : GT) (M : MT) (D mc ms : Nat) : Sp := fun args S I J z Q =>
  Met l M.1 (fq_ws M) (rmL D mc ms) (va_Pc args (fun U => fq_W G S I J z U.heap ∧ fq_K G U ∧ fq_O G (fun q => S.1 q < 21 ∨ z ≤ q) U U.heap ∧ fq_R G U)) (fq_Qc G Q (fun q => S.1 q < 21 ∨ z ≤ q)) mc ms (fun q => S.1 q < 21 ∨ z ≤ q)
/-- locals of a call -/
def fq_ls : List Value → List (Option Value)
  | [] => []
  | v :: vs => match v with
    | .long x => some (.long x) :: none :: fq_ls vs
    | .double x => some (.double x) :: none :: fq_ls vs
    | v => some v :: fq_ls vs
def u2 {α : Type} (f : Nat → Nat → α) (a k : Nat) (v : α) : Nat → Nat → α := fun b j => if b = a ∧ j = k then v else f b j
