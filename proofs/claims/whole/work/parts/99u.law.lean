/-! the law: help for its cases -/
def bz (v : Int32) : Int32 := if v = 0 then 0 else 1
theorem bz_0 {v : Int32} (h : v = 0) : bz v = 0 := if_pos h
theorem bz_1 {v : Int32} (h : ¬ v = 0) : bz v = 1 := if_neg h
theorem bz_01 (v : Int32) : bz v = 0 ∨ bz v = 1 := by
  by_cases h : v = 0
  · exact Or.inl (bz_0 h)
  · exact Or.inr (bz_1 h)
theorem cat_o (r : Option Value) : ((r.toList ++ ([] : List Value)).map fun (v : Value) => v.category).sum ≤ 8 := by
  have h := cat_le (r.toList ++ ([] : List Value))
  have h2 : (r.toList ++ ([] : List Value)).length ≤ 1 := by cases r <;> simp
  omega
theorem relR.kX {X M : Nat} {S : Sh} {I : IH} {J : JH} {z : Nat} (h : relR X M S I J z) : S.1 X = 11 := by
  obtain ⟨s, p, hc, -⟩ := h
  exact hc.1.1
