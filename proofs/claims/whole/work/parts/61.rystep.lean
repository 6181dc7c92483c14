/-! the reference: yearStep -/
theorem RYS.im {M : Nat} {I : IH} {J : JH} {n : Nat} {x : PR} {f : PSt → YR} {Q1 Q0 P1 P0 : IH → JH → Prop} (h : RYS M I J n (yB x f) Q1 Q0) (h1 : ∀ s I' J', x = .inr s → txF M I I' J J' → psH M I' J' n s → I' M 22 = I M 22 → I' M 23 = I M 23 → I' (M + 8) = I (M + 8) → RYS M I' J' n (f s) Q1 Q0 → P1 I' J') (h0 : ∀ I' J', Q0 I' J' → P0 I' J') : RES M I J n x P1 P0 := by
  cases x with
  | inl y => exact fun I' J' a b c => h0 I' J' (h I' J' a b c)
  | inr s =>
    have h : RYS M I J n (f s) Q1 Q0 := h
    intro I' J' a b _ d e g
    refine h1 s I' J' rfl a b d e g ?_
    generalize f s = x at h
    cases x with
    | inl y => exact fun I2 J2 hF2 => h I2 J2 (a.tr hF2)
    | inr z => exact fun I2 J2 hF2 => h I2 J2 (a.tr hF2)
theorem RYS.on {M : Nat} {I I1 : IH} {J J1 : JH} {n : Nat} {x : YR} {Q1 Q0 : IH → JH → Prop} (hF : txF M I I1 J J1) (h : RYS M I J n x Q1 Q0) : RYS M I1 J1 n x Q1 Q0 := by
  cases x with
  | inl y => exact fun I2 J2 hF2 => h I2 J2 (hF.tr hF2)
  | inr z => exact fun I2 J2 hF2 => h I2 J2 (hF.tr hF2)
/-- fields 22, 23 and the row of what is open, written -/
theorem psH.dc {M : Nat} {I I' : IH} {J : JH} {n : Nat} {s : PSt} (hP : psH M I J n s) (ho : ∀ a, a ≠ M → a ≠ M + 8 → I' a = I a) (hk : ∀ k, k ≠ 22 → k ≠ 23 → I' M k = I M k) : txF M I I' J J ∧ psH M I' J n s := by
  have e7 : I' (M + 7) = I (M + 7) := ho _ (by omega) (by omega)
  have e1 : I' (M + 1) = I (M + 1) := ho _ (by omega) (by omega)
  obtain ⟨p1, p2, ⟨y1, y2, y3, y4, y5⟩, p4, p5, p6, p7⟩ := hP
  refine ⟨⟨fun a x1 _ x3 => ho a x1 x3, fun k _ _ _ _ _ _ _ x y => hk k x y, fun j _ => by rw [e1], fun _ _ => rfl, fun _ _ => rfl⟩, e1.trans p1, p2, ?_, p4, p5, (hk 18 (by omega) (by omega)).trans p6, (hk 17 (by omega) (by omega)).trans p7⟩
  unfold tkH
  rw [e7, hk _ (by omega) (by omega), hk _ (by omega) (by omega), hk _ (by omega) (by omega), hk _ (by omega) (by omega), hk _ (by omega) (by omega)]
  exact ⟨y1, y2, y3, y4, y5⟩
