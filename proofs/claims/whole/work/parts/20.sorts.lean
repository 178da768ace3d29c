section
def rmX11_within : Room := { frames := 0, cells := 0, slots := 0, locals := 0 }
def rmX7_has : Room := { frames := 0, cells := 0, slots := 0, locals := 0 }
theorem fX7_has_36 : zfl wsX7_has RX7 vwCl 36 7 0 := ⟨_, _, _, rfl, by decide +kernel, by decide, by decide +kernel⟩
def rmX7_isGood : Room := { frames := 1, cells := 0, slots := 0, locals := 25 }
theorem fX7_isGood_15 : zfl wsX7_isGood RX7 vwCl 15 7 2 := ⟨_, _, _, rfl, by decide +kernel, by decide, by decide +kernel⟩
theorem fX7_isGood_9 : zfl wsX7_isGood RX7 vwCl 9 7 1 := ⟨_, _, _, rfl, by decide +kernel, by decide, by decide +kernel⟩
theorem fX7_isGood_18 : zfl wsX7_isGood RX7 vwCl 18 7 3 := ⟨_, _, _, rfl, by decide +kernel, by decide, by decide +kernel⟩
theorem fX7_isGood_21 : zfl wsX7_isGood RX7 vwCl 21 7 4 := ⟨_, _, _, rfl, by decide +kernel, by decide, by decide +kernel⟩
theorem kX7_isGood_40 : ∀ (s9 : State) (a9 : Array Value), (∀ w ∈ wsX7_isGood, w.before a9 s9 = true) → CallW rmX7_isGood s9 a9 RX7 RX7 40 yX7_has cX7_has 2 (some .boolean) wsX7_has rmX7_has 0 0 1 := fun _ _ hts => cwV 1 hts gX7_isGood_X7_has rfl rfl rfl (by decide +kernel) ⟨Nat.le_of_ble_eq_true rfl, Nat.le_of_ble_eq_true rfl⟩
theorem kX7_isGood_44 : ∀ (s9 : State) (a9 : Array Value), (∀ w ∈ wsX7_isGood, w.before a9 s9 = true) → va_Nw (.methodLinkNest RX7 44 yX11_within RX11) s9 → va_CN rmX7_isGood s9 a9 RX7 44 yX11_within RX11 cX11_within 6 (some .boolean) wsX11_within rmX11_within 0 0 3 ∧ (Cond.static yX11_within).before a9 s9 = true ∧ True := fun _ _ hts hn => ⟨va_cnB 3 hts gX7_isGood_X11_within_n44 rfl rfl rfl hn (hts _ (by decide +kernel)) (by decide +kernel) ⟨Nat.le_of_ble_eq_true rfl, Nat.le_of_ble_eq_true rfl⟩, hts _ (by decide +kernel), trivial⟩
def rmX7_worth : Room := { frames := 2, cells := 0, slots := 0, locals := 46 }
theorem fX7_worth_15 : zfl wsX7_worth RX7 vwCl 15 7 2 := ⟨_, _, _, rfl, by decide +kernel, by decide, by decide +kernel⟩
theorem kX7_worth_48 : ∀ (s9 : State) (a9 : Array Value), (∀ w ∈ wsX7_worth, w.before a9 s9 = true) → CallW rmX7_worth s9 a9 RX7 RX7 48 yX7_isGood cX7_isGood 2 (some .boolean) wsX7_isGood rmX7_isGood 0 0 1 := fun _ _ hts => cwV 1 hts gX7_worth_X7_isGood rfl rfl rfl (by decide +kernel) ⟨Nat.le_of_ble_eq_true rfl, Nat.le_of_ble_eq_true rfl⟩
def rmX7_worn : Room := { frames := 0, cells := 0, slots := 0, locals := 0 }
theorem fX7_worn_30 : zfl wsX7_worn RX7 vwCl 30 7 7 := ⟨_, _, _, rfl, by decide +kernel, by decide, by decide +kernel⟩
theorem fX7_worn_9 : zfl wsX7_worn RX7 vwCl 9 7 1 := ⟨_, _, _, rfl, by decide +kernel, by decide, by decide +kernel⟩
def rmX7_lowOf : Room := { frames := 1, cells := 0, slots := 0, locals := 21 }
theorem fX7_lowOf_24 : zfl wsX7_lowOf RX7 vwCl 24 7 5 := ⟨_, _, _, rfl, by decide +kernel, by decide, by decide +kernel⟩
theorem kX7_lowOf_51 : ∀ (s9 : State) (a9 : Array Value), (∀ w ∈ wsX7_lowOf, w.before a9 s9 = true) → CallW rmX7_lowOf s9 a9 RX7 RX7 51 yX7_worn cX7_worn 2 (some .int) wsX7_worn rmX7_worn 0 0 1 := fun _ _ hts => cwV 1 hts gX7_lowOf_X7_worn rfl rfl rfl (by decide +kernel) ⟨Nat.le_of_ble_eq_true rfl, Nat.le_of_ble_eq_true rfl⟩
theorem kX7_lowOf_55 : zml_mmax wsX7_lowOf RX7 55 := ⟨by decide +kernel, by decide +kernel, by decide +kernel, by decide +kernel⟩
def rmX7_highOf : Room := { frames := 1, cells := 0, slots := 0, locals := 21 }
theorem fX7_highOf_27 : zfl wsX7_highOf RX7 vwCl 27 7 6 := ⟨_, _, _, rfl, by decide +kernel, by decide, by decide +kernel⟩
theorem kX7_highOf_51 : ∀ (s9 : State) (a9 : Array Value), (∀ w ∈ wsX7_highOf, w.before a9 s9 = true) → CallW rmX7_highOf s9 a9 RX7 RX7 51 yX7_worn cX7_worn 2 (some .int) wsX7_worn rmX7_worn 0 0 1 := fun _ _ hts => cwV 1 hts gX7_highOf_X7_worn rfl rfl rfl (by decide +kernel) ⟨Nat.le_of_ble_eq_true rfl, Nat.le_of_ble_eq_true rfl⟩
theorem kX7_highOf_55 : zml_mmax wsX7_highOf RX7 55 := ⟨by decide +kernel, by decide +kernel, by decide +kernel, by decide +kernel⟩
def sp_X11_within (as : List zV) (M : zM) (Q : Option zV → zM → Prop) : Prop := ∃ v a b : Int, as = [zL v, zL a, zL b] ∧ Q (some (zI (b01 (a ≤ v ∧ v ≤ b)))) M
theorem us_X11_within {v a b : Int} {M : zM} {Q : Option zV → zM → Prop} (h : Q (some (zI (b01 (a ≤ v ∧ v ≤ b)))) M) : sp_X11_within [zL v, zL a, zL b] M Q := ⟨v, a, b, rfl, h⟩
theorem m_X11_within (l : Launch) : zC l yX11_within wsX11_within rmX11_within sp_X11_within := by
  refine zMet.of RX11 (by decide +kernel) rfl rfl ?_
  intro E X as M Qp hX S hsp
  obtain ⟨v, a, b, rfl, hQ⟩ := hsp
  refine ⟨by decide, ?_⟩
  refine zr_lload_n (pc := 0) S dX11_within_0 rfl ?_
  refine zr_lload_n (pc := 1) S dX11_within_1 rfl ?_
  refine zr_lcmp_lt (pc := 2) (tgt := 17) S dX11_within_2 dX11_within_3 (by decide) (fun c2 => ?_) (fun c2 => ?_)
  · refine zr_iconst (pc := 17) S dX11_within_17 ?_
    exact zr_zret (pc := 18) S dX11_within_18 rfl (by omega) ⟨Nat.le_refl _, Nat.le_refl _⟩ (zqi hQ (by unfold b01; split <;> omega))
  · refine zr_lload_n (pc := 6) S dX11_within_6 rfl ?_
    refine zr_lload (pc := 7) S dX11_within_7 rfl ?_
    refine zr_lcmp_gt (pc := 9) (tgt := 17) S dX11_within_9 dX11_within_10 (by decide) (fun c9 => ?_) (fun c9 => ?_)
    · refine zr_iconst (pc := 17) S dX11_within_17 ?_
      exact zr_zret (pc := 18) S dX11_within_18 rfl (by omega) ⟨Nat.le_refl _, Nat.le_refl _⟩ (zqi hQ (by unfold b01; split <;> omega))
    · refine zr_iconst (pc := 13) S dX11_within_13 ?_
      refine zr_goto (pc := 14) (tgt := 18) S dX11_within_14 (by decide) ?_
      exact zr_zret (pc := 18) S dX11_within_18 rfl (by omega) ⟨Nat.le_refl _, Nat.le_refl _⟩ (zqi hQ (by unfold b01; split <;> omega))
def sp_X7_has (as : List zV) (M : zM) (Q : Option zV → zM → Prop) : Prop := ∃ k : Int, as = [zR 2, zI k] ∧ Q (some (zI (b01 (0 ≤ k ∧ k < M 2 0)))) M
theorem us_X7_has {k : Int} {M : zM} {Q : Option zV → zM → Prop} (h : Q (some (zI (b01 (0 ≤ k ∧ k < M 2 0)))) M) : sp_X7_has [zR 2, zI k] M Q := ⟨k, rfl, h⟩
theorem m_X7_has (l : Launch) : zC l yX7_has wsX7_has rmX7_has sp_X7_has := by
  refine zMet.of RX7 (by decide +kernel) rfl rfl ?_
  intro E X as M Qp hX S hsp
  obtain ⟨k, rfl, hQ⟩ := hsp
  refine ⟨by decide, ?_⟩
  refine zr_iload_n (pc := 0) S dX7_has_0 rfl ?_
  refine zr_if_lt (pc := 1) (tgt := 16) S dX7_has_1 (by decide) (fun c1 => ?_) (fun c1 => ?_)
  · refine zr_iconst (pc := 16) S dX7_has_16 ?_
    exact zr_zret (pc := 17) S dX7_has_17 rfl (by omega) ⟨Nat.le_refl _, Nat.le_refl _⟩ (zqi hQ (by unfold b01; split <;> omega))
  · refine zr_iload_n (pc := 4) S dX7_has_4 rfl ?_
    refine zr_aload_n (pc := 5) S dX7_has_5 rfl ?_
    refine zr_getI (pc := 6) S fX7_has_36 dX7_has_6 rfl (Nat.le_of_ble_eq_true rfl) rfl ?_
    refine zr_icmp_ge (pc := 9) (tgt := 16) S dX7_has_9 (by decide) (fun c9 => ?_) (fun c9 => ?_)
    · refine zr_iconst (pc := 16) S dX7_has_16 ?_
      exact zr_zret (pc := 17) S dX7_has_17 rfl (by omega) ⟨Nat.le_refl _, Nat.le_refl _⟩ (zqi hQ (by unfold b01; split <;> omega))
    · refine zr_iconst (pc := 12) S dX7_has_12 ?_
      refine zr_goto (pc := 13) (tgt := 17) S dX7_has_13 (by decide) ?_
      exact zr_zret (pc := 17) S dX7_has_17 rfl (by omega) ⟨Nat.le_refl _, Nat.le_refl _⟩ (zqi hQ (by unfold b01; split <;> omega))
/-- what SORTS are: how many, their value, days -/
def isGood (M : zM) (k : Int) : Prop := 0 ≤ k ∧ k < M 2 0 ∧ 0 < M 4 k.toNat ∧ M 5 k.toNat ≤ M 3 0 ∧ M 3 0 ≤ M 6 k.toNat
end
