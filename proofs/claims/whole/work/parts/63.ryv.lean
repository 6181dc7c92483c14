/-! the reference: a year's faults -/
theorem pTs_v {T : Nat → Int32} {n r hm pm : Nat} {s : PSt} : psv (pTs T n r hm pm s) := by
  unfold pTs
  repeat' first | with_reducible exact psv_i | with_reducible exact pNum_v | with_reducible exact pFd_v | (with_reducible refine psv_E ?_; decide) | with_reducible refine psv_B ?_ (fun s => ?_) | split
theorem pYo_v {T : Nat → Int32} {n r hm pm : Nat} {k : Int32} {s : PSt} : psv (pYo T n k r hm pm s) := by
  unfold pYo
  repeat' first | with_reducible exact psv_i | with_reducible exact pNum_v | with_reducible exact pFd_v | with_reducible exact pTs_v | with_reducible refine psv_B ?_ (fun s => ?_) | split
def yv (x : YR) : Prop := match x with
  | .inl f => 0 < f.1
  | .inr _ => True
theorem yv_B {x : PR} {f : PSt → YR} (hx : psv x) (hf : ∀ s, yv (f s)) : yv (yB x f) := by
  cases x with
  | inl y => exact hx
  | inr s => exact hf s
theorem yv_i {y : YSt} : yv (.inr y) := trivial
theorem pYs_v {T : Nat → Int32} {n hm pm : Nat} {y : YSt} : yv (pYs T n hm pm y) := by
  unfold pYs
  repeat' first | with_reducible exact yv_i | with_reducible exact pYo_v | with_reducible exact pSg_v | (with_reducible refine psv_E ?_; decide) | with_reducible refine yv_B ?_ (fun s => ?_) | split
