/-! the law: from its entry to its loop -/
def LS0 (l : Launch) (G : GT) (nm : String) (sb sL : Nat) (sx : Nat → Int32) : Cn := ix_new 11 15 600000 7302250 (ix_dupR (lwAt l G nm sb sL sx 4))
theorem ls_0 {l : Launch} {G : GT} {nm : String} {sb sL : Nat} {sx : Nat → Int32} : ImpL l G nm sb sL sx (LS0 l G nm sb sL sx) 0 := lx_new dl_0 ck_11 (mg_1 (List.mem_of_getElem? (i := 21) rfl) rfl) (mg_1 (List.mem_of_getElem? (i := 22) rfl) rfl) (mg_1 (List.mem_of_getElem? (i := 1) rfl) rfl) (by decide) (lx_dupR dl_3 (fun _ _ _ _ _ _ _ _ h => h))
def LS1 (l : Launch) (G : GT) (nm : String) (sb sL : Nat) (sx : Nat → Int32) : Cn := ix_astore 1 (ix_new 12 36 600000 7302250 (ix_dupR (lwAt l G nm sb sL sx 12)))
theorem ls_7 {l : Launch} {G : GT} {nm : String} {sb sL : Nat} {sx : Nat → Int32} : ImpL l G nm sb sL sx (LS1 l G nm sb sL sx) 7 := lx_astore_n dl_7 rfl (by decide) (lx_new dl_8 ck_12 (mg_6 (List.mem_of_getElem? (i := 170) rfl) rfl) (mg_6 (List.mem_of_getElem? (i := 171) rfl) rfl) (mg_1 (List.mem_of_getElem? (i := 15) rfl) rfl) (by decide) (lx_dupR dl_11 (fun _ _ _ _ _ _ _ _ h => h)))
def LS2 (l : Launch) (G : GT) (nm : String) (sb sL : Nat) (sx : Nat → Int32) : Cn := ix_astore 2 (ix_pushI 0 (ix_istore 3 (lwAt l G nm sb sL sx 18)))
theorem ls_15 {l : Launch} {G : GT} {nm : String} {sb sL : Nat} {sx : Nat → Int32} : ImpL l G nm sb sL sx (LS2 l G nm sb sL sx) 15 := lx_astore_n dl_15 rfl (by decide) (lx_iconst dl_16 (by decide) (lx_istore_n dl_17 rfl (by decide) (fun _ _ _ _ _ _ _ _ h => h)))
theorem lw_begin {l : Launch} {G : GT} {nm : String} {sb sL : Nat} {sx : Nat → Int32} {z : Nat} (hL : sL ≤ 3072) : lwAt l G nm sb sL sx 0 [some (.ref sb), none, none, none] [] (fun _ => 21, fun _ => 0, fun _ _ => none) (fun _ _ => 0) (fun _ _ => 0) z 0 0 := by
  refine ls_0 _ _ _ _ _ _ _ _ ?_
  simp only [LS0, ix_new, ix_dupR, Nat.zero_add]
  refine ⟨by decide, by decide, ?_⟩
  refine lw_make (D := 5) (mc' := 277) (ms' := 5017) (Q' := fun r S' I' J' z' => r = none ∧ cpS S' z (z + 174) (z + 226) ∧ cpN z I' J' ∧ z' = z + 278) dl_4 cf_X11_init (mg_1 (List.mem_of_getElem? (i := 23) rfl) rfl) (mg_1 (List.mem_of_getElem? (i := 24) rfl) rfl) rfl rfl (Nat.le_of_ble_eq_true rfl) (by omega) (by omega) (by decide) (c_X11_init (D := 0) _ _ _ _ _ _ ⟨z, rfl, (by dsimp only; rw [up1_eq]), rfl, fun k => by rw [up1_eq], fun k => by rw [up1_eq], fun S' I' J' _ g1 g2 => ⟨rfl, g1, g2, rfl⟩⟩) (fun r S1 I1 J1 z1 hq => ?_)
  obtain ⟨rfl, hc, hn, rfl⟩ := hq
  refine ls_7 _ _ _ _ _ _ _ _ ?_
  simp only [LS1, ix_astore, ix_new, ix_dupR, Option.toList_none, List.nil_append, stL, kilL]
  refine ⟨by omega, by omega, ?_⟩
  refine lw_make (D := 1) (mc' := 14) (ms' := 6942) (Q' := fun r S' I' J' z' => r = none ∧ relR z (z + 278) S' I' J' z') dl_12 cf_X12_init (mg_6 (List.mem_of_getElem? (i := 172) rfl) rfl) (mg_6 (List.mem_of_getElem? (i := 173) rfl) rfl) rfl rfl (Nat.le_of_ble_eq_true rfl) (by omega) (by omega) (by decide) (c_X12_init (D := 0) _ _ _ _ _ _ (init_M (by dsimp only; rw [up1_eq]) (fun k => by rw [up1_eq]) (fun k => by rw [up1_eq]) (fun S' I' J' hF hr hm => ⟨rfl, rel_0 hc hn (fun b hb => ?_) hr hm⟩))) (fun r S2 I2 J2 z2 hq => ?_)
  · obtain ⟨x1, x2, x3, x4, x5⟩ := hF b hb
    exact ⟨x1.trans (up1_ne (by omega)), x2, x3.trans (up1_ne (by omega)), x4.trans (up1_ne (by omega)), x5.trans (up1_ne (by omega))⟩
  obtain ⟨rfl, hr⟩ := hq
  refine ls_15 _ _ _ _ _ _ _ _ ?_
  simp only [LS2, ix_astore, ix_istore, ix_pushI, Option.toList_none, List.nil_append, stL, kilL]
  exact lw_loop hL 512 0 _ _ _ _ _ _ hr (by omega) (by omega) (by omega) (by omega)
