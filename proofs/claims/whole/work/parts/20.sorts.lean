section
theorem zup_k {M : zM} {k j k' : Nat} {x : Int} (h : k' ≠ k) (j' : Nat) : zup M k j x k' j' = M k' j' := by rw [zup_o k' h]
theorem zup_e {M : zM} {k j : Nat} {x : Int} : zup M k j x k j = x := by simp [zup]
theorem zup_j {M : zM} {k j j' : Nat} {x : Int} (h : j' ≠ j) : zup M k j x k j' = M k j' := by simp [zup, h]
theorem zmulr {a b A B : Int} (ha : 0 ≤ a) (ha2 : a ≤ A) (hb : 0 ≤ b) (hb2 : b ≤ B) : 0 ≤ a * b ∧ a * b ≤ A * B := ⟨Int.mul_nonneg ha hb, Int.mul_le_mul ha2 hb2 hb (by omega)⟩
/-- bounds of what SORTS hold -/
def ICs (M : zM) : Prop := (0 ≤ M 2 0 ∧ M 2 0 ≤ 8) ∧ (0 ≤ M 3 0 ∧ M 3 0 ≤ 999 ∧ 0 ≤ M 3 1 ∧ M 3 1 ≤ 20 ∧ -10 ≤ M 3 2 ∧ M 3 2 ≤ 10 ∧ 0 ≤ M 3 3 ∧ M 3 3 ≤ 999) ∧ (∀ k : Nat, k < 8 → 0 ≤ M 4 k ∧ M 4 k ≤ 200 ∧ 0 ≤ M 9 k ∧ M 9 k ≤ 9 ∧ 0 ≤ M 10 k ∧ M 10 k ≤ 1000) ∧ (∀ j : Nat, j < 24 → 0 ≤ M 7 j ∧ M 7 j ≤ M 8 j ∧ M 8 j ≤ 99)
theorem ICs.v {M : zM} (h : ICs M) {k : Int} (h0 : 0 ≤ k) (h1 : k < 8) : 0 ≤ M 4 k.toNat ∧ M 4 k.toNat ≤ 200 ∧ 0 ≤ M 9 k.toNat ∧ M 9 k.toNat ≤ 9 ∧ 0 ≤ M 10 k.toNat ∧ M 10 k.toNat ≤ 1000 := h.2.2.1 k.toNat (by omega)
theorem ICs.s {M : zM} (h : ICs M) {j : Int} (h0 : 0 ≤ j) (h1 : j < 24) : 0 ≤ M 7 j.toNat ∧ M 7 j.toNat ≤ M 8 j.toNat ∧ M 8 j.toNat ≤ 99 := h.2.2.2 j.toNat (by omega)
abbrev isGood (M : zM) (k : Int) : Prop := (0 ≤ k ∧ k < M 2 0) ∧ 0 < M 4 k.toNat ∧ M 5 k.toNat ≤ M 3 0 ∧ M 3 0 ≤ M 6 k.toNat
def worth (M : zM) (k : Int) : Int := if isGood M k then M 4 k.toNat else 0
def worn (M : zM) (k : Int) : Int := M 9 k.toNat * M 3 1 / 10
def lowOf (M : zM) (k m : Int) : Int := if m = 0 then max 0 (M 7 (k * 3 + m).toNat - worn M k) else M 7 (k * 3 + m).toNat
def highOf (M : zM) (k m : Int) : Int := if m = 0 then max 0 (M 8 (k * 3 + m).toNat - worn M k) else M 8 (k * 3 + m).toNat
theorem worn_r {M : zM} (h : ICs M) {k : Int} (h0 : 0 ≤ k) (h1 : k < 8) : 0 ≤ worn M k ∧ worn M k ≤ 18 := by
  have a := h.v h0 h1
  have b := h.2.1
  have c := zmulr a.2.2.1 a.2.2.2.1 b.2.2.1 b.2.2.2.1
  unfold worn
  omega
theorem span_r {M : zM} (h : ICs M) {k m : Int} (h0 : 0 ≤ k) (h1 : k < 8) (h2 : 0 ≤ m) (h3 : m < 3) : 0 ≤ lowOf M k m ∧ lowOf M k m ≤ highOf M k m ∧ highOf M k m ≤ 99 := by
  have a := h.s (j := k * 3 + m) (by omega) (by omega)
  have b := worn_r h h0 h1
  unfold lowOf highOf
  by_cases e : m = 0
  · rw [if_pos e, if_pos e]; omega
  · rw [if_neg e, if_neg e]; omega
end
section
def rmX11_within : Room := { frames := 0, cells := 0, slots := 0, locals := 0 }
abbrev wzX11_within : List Cond := .code yX11_within cX11_within 6 (some .boolean) :: zW
def rmX7_has : Room := { frames := 0, cells := 0, slots := 0, locals := 0 }
abbrev wzX7_has : List Cond := .code yX7_has cX7_has 2 (some .boolean) :: zW
def rmX7_isGood : Room := { frames := 1, cells := 0, slots := 0, locals := 25 }
abbrev wzX7_isGood : List Cond := .code yX7_isGood cX7_isGood 2 (some .boolean) :: zW
def rmX7_worth : Room := { frames := 2, cells := 0, slots := 0, locals := 46 }
abbrev wzX7_worth : List Cond := .code yX7_worth cX7_worth 2 (some .int) :: zW
def rmX7_worn : Room := { frames := 0, cells := 0, slots := 0, locals := 0 }
abbrev wzX7_worn : List Cond := .code yX7_worn cX7_worn 2 (some .int) :: zW
def rmX7_lowOf : Room := { frames := 1, cells := 0, slots := 0, locals := 21 }
abbrev wzX7_lowOf : List Cond := .code yX7_lowOf cX7_lowOf 4 (some .int) :: zW
def rmX7_highOf : Room := { frames := 1, cells := 0, slots := 0, locals := 21 }
abbrev wzX7_highOf : List Cond := .code yX7_highOf cX7_highOf 4 (some .int) :: zW
def rmX7_size : Room := { frames := 2, cells := 0, slots := 0, locals := 44 }
abbrev wzX7_size : List Cond := .code yX7_size cX7_size 5 (some .long) :: zW
def rmX7_isCoin : Room := { frames := 2, cells := 0, slots := 0, locals := 44 }
abbrev wzX7_isCoin : List Cond := .code yX7_isCoin cX7_isCoin 5 (some .boolean) :: zW
def rmX7_add : Room := { frames := 0, cells := 0, slots := 0, locals := 0 }
abbrev wzX7_add : List Cond := .code yX7_add cX7_add 4 (some .int) :: zW
theorem fX7_has_36 : zfl wzX7_has RX7 vwCl 36 7 0 := ⟨_, _, _, rfl, (fun w h => List.mem_cons_of_mem _ (zWuX7 w h)), by decide, List.mem_cons_of_mem _ (zWi_11 _ (List.mem_of_getElem? (i := 19) rfl))⟩
theorem fX7_isGood_15 : zfl wzX7_isGood RX7 vwCl 15 7 2 := ⟨_, _, _, rfl, (fun w h => List.mem_cons_of_mem _ (zWuX7 w h)), by decide, List.mem_cons_of_mem _ (zWi_11 _ (List.mem_of_getElem? (i := 12) rfl))⟩
theorem fX7_isGood_9 : zfl wzX7_isGood RX7 vwCl 9 7 1 := ⟨_, _, _, rfl, (fun w h => List.mem_cons_of_mem _ (zWuX7 w h)), by decide, List.mem_cons_of_mem _ (zWi_11 _ (List.mem_of_getElem? (i := 20) rfl))⟩
theorem fX7_isGood_18 : zfl wzX7_isGood RX7 vwCl 18 7 3 := ⟨_, _, _, rfl, (fun w h => List.mem_cons_of_mem _ (zWuX7 w h)), by decide, List.mem_cons_of_mem _ (zWi_11 _ (List.mem_of_getElem? (i := 13) rfl))⟩
theorem fX7_isGood_21 : zfl wzX7_isGood RX7 vwCl 21 7 4 := ⟨_, _, _, rfl, (fun w h => List.mem_cons_of_mem _ (zWuX7 w h)), by decide, List.mem_cons_of_mem _ (zWi_11 _ (List.mem_of_getElem? (i := 14) rfl))⟩
theorem kX7_isGood_40 : ∀ (s9 : State) (a9 : Array Value), (∀ w ∈ wzX7_isGood, w.before a9 s9 = true) → CallW rmX7_isGood s9 a9 RX7 RX7 40 yX7_has cX7_has 2 (some .boolean) wzX7_has rmX7_has 0 0 1 := zcV (zWi_24 _ (List.mem_of_getElem? (i := 42) rfl)) (zWi_16 _ (List.mem_of_getElem? (i := 44) rfl)) (zWi_29 _ (List.mem_of_getElem? (i := 21) rfl)) (zWi_12 _ (List.mem_of_getElem? (i := 19) rfl)) (zWi_5 _ (List.mem_of_getElem? (i := 28) rfl)) (by decide +kernel) rfl rfl ⟨Nat.le_of_ble_eq_true rfl, Nat.le_of_ble_eq_true rfl⟩
theorem kX7_isGood_44 : ∀ (s9 : State) (a9 : Array Value), (∀ w ∈ wzX7_isGood, w.before a9 s9 = true) → va_Nw (.methodLinkNest RX7 44 yX11_within RX11) s9 → va_CN rmX7_isGood s9 a9 RX7 44 yX11_within RX11 cX11_within 6 (some .boolean) wzX11_within rmX11_within 0 0 3 ∧ (Cond.static yX11_within).before a9 s9 = true ∧ True := zcN (zWi_31 _ (List.mem_of_getElem? (i := 9) rfl)) (zWi_12 _ (List.mem_of_getElem? (i := 12) rfl)) (zWi_2 _ (List.mem_of_getElem? (i := 17) rfl)) (by decide +kernel) rfl rfl ⟨Nat.le_of_ble_eq_true rfl, Nat.le_of_ble_eq_true rfl⟩
theorem fX7_worth_15 : zfl wzX7_worth RX7 vwCl 15 7 2 := ⟨_, _, _, rfl, (fun w h => List.mem_cons_of_mem _ (zWuX7 w h)), by decide, List.mem_cons_of_mem _ (zWi_11 _ (List.mem_of_getElem? (i := 12) rfl))⟩
theorem kX7_worth_48 : ∀ (s9 : State) (a9 : Array Value), (∀ w ∈ wzX7_worth, w.before a9 s9 = true) → CallW rmX7_worth s9 a9 RX7 RX7 48 yX7_isGood cX7_isGood 2 (some .boolean) wzX7_isGood rmX7_isGood 0 0 1 := zcV (zWi_24 _ (List.mem_of_getElem? (i := 43) rfl)) (zWi_16 _ (List.mem_of_getElem? (i := 48) rfl)) (zWi_29 _ (List.mem_of_getElem? (i := 24) rfl)) (zWi_12 _ (List.mem_of_getElem? (i := 19) rfl)) (zWi_5 _ (List.mem_of_getElem? (i := 32) rfl)) (by decide +kernel) rfl rfl ⟨Nat.le_of_ble_eq_true rfl, Nat.le_of_ble_eq_true rfl⟩
theorem fX7_worn_30 : zfl wzX7_worn RX7 vwCl 30 7 7 := ⟨_, _, _, rfl, (fun w h => List.mem_cons_of_mem _ (zWuX7 w h)), by decide, List.mem_cons_of_mem _ (zWi_11 _ (List.mem_of_getElem? (i := 17) rfl))⟩
theorem fX7_worn_9 : zfl wzX7_worn RX7 vwCl 9 7 1 := ⟨_, _, _, rfl, (fun w h => List.mem_cons_of_mem _ (zWuX7 w h)), by decide, List.mem_cons_of_mem _ (zWi_11 _ (List.mem_of_getElem? (i := 20) rfl))⟩
theorem fX7_lowOf_24 : zfl wzX7_lowOf RX7 vwCl 24 7 5 := ⟨_, _, _, rfl, (fun w h => List.mem_cons_of_mem _ (zWuX7 w h)), by decide, List.mem_cons_of_mem _ (zWi_11 _ (List.mem_of_getElem? (i := 15) rfl))⟩
theorem kX7_lowOf_51 : ∀ (s9 : State) (a9 : Array Value), (∀ w ∈ wzX7_lowOf, w.before a9 s9 = true) → CallW rmX7_lowOf s9 a9 RX7 RX7 51 yX7_worn cX7_worn 2 (some .int) wzX7_worn rmX7_worn 0 0 1 := zcV (zWi_24 _ (List.mem_of_getElem? (i := 44) rfl)) (zWi_17 _ (List.mem_of_getElem? (i := 1) rfl)) (zWi_29 _ (List.mem_of_getElem? (i := 27) rfl)) (zWi_12 _ (List.mem_of_getElem? (i := 19) rfl)) (zWi_5 _ (List.mem_of_getElem? (i := 35) rfl)) (by decide +kernel) rfl rfl ⟨Nat.le_of_ble_eq_true rfl, Nat.le_of_ble_eq_true rfl⟩
theorem kX7_lowOf_55 : zml_mmax wzX7_lowOf RX7 55 := ⟨List.mem_cons_of_mem _ (zWi_24 _ (List.mem_of_getElem? (i := 45) rfl)), List.mem_cons_of_mem _ (zWi_30 _ (List.mem_of_getElem? (i := 2) rfl)), List.mem_cons_of_mem _ (zWi_12 _ (List.mem_of_getElem? (i := 0) rfl)), List.mem_cons_of_mem _ (zWi_0 _ (List.mem_of_getElem? (i := 27) rfl))⟩
theorem fX7_highOf_27 : zfl wzX7_highOf RX7 vwCl 27 7 6 := ⟨_, _, _, rfl, (fun w h => List.mem_cons_of_mem _ (zWuX7 w h)), by decide, List.mem_cons_of_mem _ (zWi_11 _ (List.mem_of_getElem? (i := 16) rfl))⟩
theorem kX7_highOf_51 : ∀ (s9 : State) (a9 : Array Value), (∀ w ∈ wzX7_highOf, w.before a9 s9 = true) → CallW rmX7_highOf s9 a9 RX7 RX7 51 yX7_worn cX7_worn 2 (some .int) wzX7_worn rmX7_worn 0 0 1 := zcV (zWi_24 _ (List.mem_of_getElem? (i := 44) rfl)) (zWi_17 _ (List.mem_of_getElem? (i := 1) rfl)) (zWi_29 _ (List.mem_of_getElem? (i := 27) rfl)) (zWi_12 _ (List.mem_of_getElem? (i := 19) rfl)) (zWi_5 _ (List.mem_of_getElem? (i := 35) rfl)) (by decide +kernel) rfl rfl ⟨Nat.le_of_ble_eq_true rfl, Nat.le_of_ble_eq_true rfl⟩
theorem kX7_highOf_55 : zml_mmax wzX7_highOf RX7 55 := ⟨List.mem_cons_of_mem _ (zWi_24 _ (List.mem_of_getElem? (i := 45) rfl)), List.mem_cons_of_mem _ (zWi_30 _ (List.mem_of_getElem? (i := 2) rfl)), List.mem_cons_of_mem _ (zWi_12 _ (List.mem_of_getElem? (i := 0) rfl)), List.mem_cons_of_mem _ (zWi_0 _ (List.mem_of_getElem? (i := 27) rfl))⟩
theorem kX7_size_61 : ∀ (s9 : State) (a9 : Array Value), (∀ w ∈ wzX7_size, w.before a9 s9 = true) → CallW rmX7_size s9 a9 RX7 RX7 61 yX7_highOf cX7_highOf 4 (some .int) wzX7_highOf rmX7_highOf 0 0 2 := zcV (zWi_24 _ (List.mem_of_getElem? (i := 46) rfl)) (zWi_16 _ (List.mem_of_getElem? (i := 45) rfl)) (zWi_29 _ (List.mem_of_getElem? (i := 22) rfl)) (zWi_12 _ (List.mem_of_getElem? (i := 19) rfl)) (zWi_5 _ (List.mem_of_getElem? (i := 29) rfl)) (by decide +kernel) rfl rfl ⟨Nat.le_of_ble_eq_true rfl, Nat.le_of_ble_eq_true rfl⟩
theorem kX7_size_64 : ∀ (s9 : State) (a9 : Array Value), (∀ w ∈ wzX7_size, w.before a9 s9 = true) → CallW rmX7_size s9 a9 RX7 RX7 64 yX7_lowOf cX7_lowOf 4 (some .int) wzX7_lowOf rmX7_lowOf 0 0 2 := zcV (zWi_24 _ (List.mem_of_getElem? (i := 47) rfl)) (zWi_16 _ (List.mem_of_getElem? (i := 49) rfl)) (zWi_29 _ (List.mem_of_getElem? (i := 25) rfl)) (zWi_12 _ (List.mem_of_getElem? (i := 19) rfl)) (zWi_5 _ (List.mem_of_getElem? (i := 33) rfl)) (by decide +kernel) rfl rfl ⟨Nat.le_of_ble_eq_true rfl, Nat.le_of_ble_eq_true rfl⟩
theorem kX7_isCoin_64 : ∀ (s9 : State) (a9 : Array Value), (∀ w ∈ wzX7_isCoin, w.before a9 s9 = true) → CallW rmX7_isCoin s9 a9 RX7 RX7 64 yX7_lowOf cX7_lowOf 4 (some .int) wzX7_lowOf rmX7_lowOf 0 0 2 := zcV (zWi_24 _ (List.mem_of_getElem? (i := 47) rfl)) (zWi_16 _ (List.mem_of_getElem? (i := 49) rfl)) (zWi_29 _ (List.mem_of_getElem? (i := 25) rfl)) (zWi_12 _ (List.mem_of_getElem? (i := 19) rfl)) (zWi_5 _ (List.mem_of_getElem? (i := 33) rfl)) (by decide +kernel) rfl rfl ⟨Nat.le_of_ble_eq_true rfl, Nat.le_of_ble_eq_true rfl⟩
theorem kX7_isCoin_61 : ∀ (s9 : State) (a9 : Array Value), (∀ w ∈ wzX7_isCoin, w.before a9 s9 = true) → CallW rmX7_isCoin s9 a9 RX7 RX7 61 yX7_highOf cX7_highOf 4 (some .int) wzX7_highOf rmX7_highOf 0 0 2 := zcV (zWi_24 _ (List.mem_of_getElem? (i := 46) rfl)) (zWi_16 _ (List.mem_of_getElem? (i := 45) rfl)) (zWi_29 _ (List.mem_of_getElem? (i := 22) rfl)) (zWi_12 _ (List.mem_of_getElem? (i := 19) rfl)) (zWi_5 _ (List.mem_of_getElem? (i := 29) rfl)) (by decide +kernel) rfl rfl ⟨Nat.le_of_ble_eq_true rfl, Nat.le_of_ble_eq_true rfl⟩
theorem kX7_isCoin_44 : ∀ (s9 : State) (a9 : Array Value), (∀ w ∈ wzX7_isCoin, w.before a9 s9 = true) → va_Nw (.methodLinkNest RX7 44 yX11_within RX11) s9 → va_CN rmX7_isCoin s9 a9 RX7 44 yX11_within RX11 cX11_within 6 (some .boolean) wzX11_within rmX11_within 0 0 3 ∧ (Cond.static yX11_within).before a9 s9 = true ∧ True := zcN (zWi_31 _ (List.mem_of_getElem? (i := 9) rfl)) (zWi_12 _ (List.mem_of_getElem? (i := 12) rfl)) (zWi_2 _ (List.mem_of_getElem? (i := 17) rfl)) (by decide +kernel) rfl rfl ⟨Nat.le_of_ble_eq_true rfl, Nat.le_of_ble_eq_true rfl⟩
theorem fX7_add_36 : zfl wzX7_add RX7 vwCl 36 7 0 := ⟨_, _, _, rfl, (fun w h => List.mem_cons_of_mem _ (zWuX7 w h)), by decide, List.mem_cons_of_mem _ (zWi_11 _ (List.mem_of_getElem? (i := 19) rfl))⟩
theorem fX7_add_15 : zfl wzX7_add RX7 vwCl 15 7 2 := ⟨_, _, _, rfl, (fun w h => List.mem_cons_of_mem _ (zWuX7 w h)), by decide, List.mem_cons_of_mem _ (zWi_11 _ (List.mem_of_getElem? (i := 12) rfl))⟩
theorem fX7_add_18 : zfl wzX7_add RX7 vwCl 18 7 3 := ⟨_, _, _, rfl, (fun w h => List.mem_cons_of_mem _ (zWuX7 w h)), by decide, List.mem_cons_of_mem _ (zWi_11 _ (List.mem_of_getElem? (i := 13) rfl))⟩
theorem fX7_add_21 : zfl wzX7_add RX7 vwCl 21 7 4 := ⟨_, _, _, rfl, (fun w h => List.mem_cons_of_mem _ (zWuX7 w h)), by decide, List.mem_cons_of_mem _ (zWi_11 _ (List.mem_of_getElem? (i := 14) rfl))⟩
theorem pX7_add_36 : zfp wzX7_add RX7 vwCl 36 7 0 := ⟨_, _, _, _, rfl, (fun w h => List.mem_cons_of_mem _ (zWuX7 w h)), by decide, List.mem_cons_of_mem _ (zWi_11 _ (List.mem_of_getElem? (i := 19) rfl)), tyX7_ok, nmX7, rfl, by decide +kernel⟩
def sp_X11_within (as : List zV) (M : zM) (Q : Option zV → zM → Prop) : Prop := ∃ v a b : Int, as = [zL v, zL a, zL b] ∧ Q (some (zI (b01 (a ≤ v ∧ v ≤ b)))) M
theorem us_X11_within {v a b : Int} {M : zM} {Q : Option zV → zM → Prop} (h : Q (some (zI (b01 (a ≤ v ∧ v ≤ b)))) M) : sp_X11_within [zL v, zL a, zL b] M Q := ⟨v, a, b, rfl, h⟩
theorem m_X11_within (l : Launch) : zC l yX11_within wzX11_within rmX11_within sp_X11_within := by
  refine zMet.of RX11 (by decide +kernel) rfl rfl ?_
  intro E X as M Qp hX S hsp
  obtain ⟨v, a, b, rfl, hQ⟩ := hsp
  refine ⟨Nat.le_of_ble_eq_true rfl, ?_⟩
  dsimp only [zpad, zargs]
  refine zr_lload_n (pc := 0) S dX11_within_0 rfl ?_
  refine zr_lload_n (pc := 1) S dX11_within_1 rfl ?_
  refine zr_lcmp_lt (pc := 2) (tgt := 17) S dX11_within_2 dX11_within_3 (by decide) (fun c2 => ?_) (fun c2 => ?_)
  · refine zr_iconst (pc := 17) S dX11_within_17 (by unfold zrI; omega) ?_
    exact zr_zret (pc := 18) S dX11_within_18 rfl (by first | omega | exact b01_r) ⟨Nat.le_refl _, Nat.le_refl _⟩ (zqi hQ (by unfold b01; split <;> omega))
  · refine zr_lload_n (pc := 6) S dX11_within_6 rfl ?_
    refine zr_lload (pc := 7) S dX11_within_7 rfl ?_
    refine zr_lcmp_gt (pc := 9) (tgt := 17) S dX11_within_9 dX11_within_10 (by decide) (fun c9 => ?_) (fun c9 => ?_)
    · refine zr_iconst (pc := 17) S dX11_within_17 (by unfold zrI; omega) ?_
      exact zr_zret (pc := 18) S dX11_within_18 rfl (by first | omega | exact b01_r) ⟨Nat.le_refl _, Nat.le_refl _⟩ (zqi hQ (by unfold b01; split <;> omega))
    · refine zr_iconst (pc := 13) S dX11_within_13 (by unfold zrI; omega) ?_
      refine zr_goto (pc := 14) (tgt := 18) S dX11_within_14 (by decide) ?_
      exact zr_zret (pc := 18) S dX11_within_18 rfl (by first | omega | exact b01_r) ⟨Nat.le_refl _, Nat.le_refl _⟩ (zqi hQ (by unfold b01; split <;> omega))
def sp_X7_has (as : List zV) (M : zM) (Q : Option zV → zM → Prop) : Prop := ∃ k : Int, as = [zR 2, zI k] ∧ Q (some (zI (b01 (0 ≤ k ∧ k < M 2 0)))) M
theorem us_X7_has {k : Int} {M : zM} {Q : Option zV → zM → Prop} (h : Q (some (zI (b01 (0 ≤ k ∧ k < M 2 0)))) M) : sp_X7_has [zR 2, zI k] M Q := ⟨k, rfl, h⟩
theorem m_X7_has (l : Launch) : zC l yX7_has wzX7_has rmX7_has sp_X7_has := by
  refine zMet.of RX7 (by decide +kernel) rfl rfl ?_
  intro E X as M Qp hX S hsp
  obtain ⟨k, rfl, hQ⟩ := hsp
  refine ⟨Nat.le_of_ble_eq_true rfl, ?_⟩
  dsimp only [zpad, zargs]
  refine zr_iload_n (pc := 0) S dX7_has_0 rfl ?_
  refine zr_if_lt (pc := 1) (tgt := 16) S dX7_has_1 (by decide) (fun c1 => ?_) (fun c1 => ?_)
  · refine zr_iconst (pc := 16) S dX7_has_16 (by unfold zrI; omega) ?_
    exact zr_zret (pc := 17) S dX7_has_17 rfl (by first | omega | exact b01_r) ⟨Nat.le_refl _, Nat.le_refl _⟩ (zqi hQ (by unfold b01; split <;> omega))
  · refine zr_iload_n (pc := 4) S dX7_has_4 rfl ?_
    refine zr_aload_n (pc := 5) S dX7_has_5 rfl ?_
    refine zr_getI (pc := 6) S fX7_has_36 dX7_has_6 rfl (Nat.le_of_ble_eq_true rfl) rfl ?_
    refine zr_icmp_ge (pc := 9) (tgt := 16) S dX7_has_9 (by decide) (fun c9 => ?_) (fun c9 => ?_)
    · refine zr_iconst (pc := 16) S dX7_has_16 (by unfold zrI; omega) ?_
      exact zr_zret (pc := 17) S dX7_has_17 rfl (by first | omega | exact b01_r) ⟨Nat.le_refl _, Nat.le_refl _⟩ (zqi hQ (by unfold b01; split <;> omega))
    · refine zr_iconst (pc := 12) S dX7_has_12 (by unfold zrI; omega) ?_
      refine zr_goto (pc := 13) (tgt := 17) S dX7_has_13 (by decide) ?_
      exact zr_zret (pc := 17) S dX7_has_17 rfl (by first | omega | exact b01_r) ⟨Nat.le_refl _, Nat.le_refl _⟩ (zqi hQ (by unfold b01; split <;> omega))
def sp_X7_isGood (as : List zV) (M : zM) (Q : Option zV → zM → Prop) : Prop := ∃ k : Int, as = [zR 2, zI k] ∧ ICs M ∧ Q (some (zI (b01 (isGood M k)))) M
theorem us_X7_isGood {k : Int} {M : zM} {Q : Option zV → zM → Prop} (hI : ICs M) (h : Q (some (zI (b01 (isGood M k)))) M) : sp_X7_isGood [zR 2, zI k] M Q := ⟨k, rfl, hI, h⟩
theorem m_X7_isGood (l : Launch) : zC l yX7_isGood wzX7_isGood rmX7_isGood sp_X7_isGood := by
  refine zMet.of RX7 (by decide +kernel) rfl rfl ?_
  intro E X as M Qp hX S hsp
  obtain ⟨k, rfl, hI, hQ⟩ := hsp
  have h8 := hI.1
  refine ⟨Nat.le_of_ble_eq_true rfl, ?_⟩
  dsimp only [zpad, zargs]
  refine zr_aload_n (pc := 0) S dX7_isGood_0 rfl ?_
  refine zr_iload_n (pc := 1) S dX7_isGood_1 rfl ?_
  refine zr_invV (pc := 2) S [zI _] (m_X7_has _) kX7_isGood_40 dX7_isGood_2 rfl (Nat.le_of_ble_eq_true rfl) rfl (Nat.le_of_ble_eq_true rfl) ⟨Nat.le_of_ble_eq_true rfl, Nat.le_of_ble_eq_true rfl⟩ (us_X7_has ?_)
  dsimp only [zaft, Option.toList, List.cons_append, List.nil_append, Nat.add_zero]
  refine zr_if_eq (pc := 5) (tgt := 48) S dX7_isGood_5 (by decide) (fun c5 => ?_) (fun c5 => ?_)
  · rw [b01_0] at c5
    refine zr_iconst (pc := 48) S dX7_isGood_48 (by unfold zrI; omega) ?_
    exact zr_zret (pc := 49) S dX7_isGood_49 rfl (by first | omega | exact b01_r) ⟨Nat.le_refl _, Nat.le_refl _⟩ (zqi hQ (by unfold b01; split <;> omega))
  · rw [b01_0, Classical.not_not] at c5
    refine zr_aload_n (pc := 8) S dX7_isGood_8 rfl ?_
    refine zr_getR (pc := 9) S fX7_isGood_15 dX7_isGood_9 rfl (Nat.le_of_ble_eq_true rfl) rfl ?_
    refine zr_iload_n (pc := 12) S dX7_isGood_12 rfl ?_
    refine zr_iaload (pc := 13) S dX7_isGood_13 rfl (Nat.le_of_ble_eq_true rfl) (by omega) (by omega) ?_
    refine zr_if_le (pc := 14) (tgt := 48) S dX7_isGood_14 (by decide) (fun c14 => ?_) (fun c14 => ?_)
    · refine zr_iconst (pc := 48) S dX7_isGood_48 (by unfold zrI; omega) ?_
      exact zr_zret (pc := 49) S dX7_isGood_49 rfl (by first | omega | exact b01_r) ⟨Nat.le_refl _, Nat.le_refl _⟩ (zqi hQ (by unfold b01; split <;> omega))
    · refine zr_aload_n (pc := 17) S dX7_isGood_17 rfl ?_
      refine zr_getR (pc := 18) S fX7_isGood_9 dX7_isGood_18 rfl (Nat.le_of_ble_eq_true rfl) rfl ?_
      refine zr_iconst (pc := 21) S dX7_isGood_21 (by unfold zrI; omega) ?_
      refine zr_iaload (pc := 22) S dX7_isGood_22 rfl (Nat.le_of_ble_eq_true rfl) (by omega) (by omega) ?_
      dsimp only [Int.reduceToNat]
      refine zr_i2l (pc := 23) S dX7_isGood_23 ?_
      refine zr_aload_n (pc := 24) S dX7_isGood_24 rfl ?_
      refine zr_getR (pc := 25) S fX7_isGood_18 dX7_isGood_25 rfl (Nat.le_of_ble_eq_true rfl) rfl ?_
      refine zr_iload_n (pc := 28) S dX7_isGood_28 rfl ?_
      refine zr_iaload (pc := 29) S dX7_isGood_29 rfl (Nat.le_of_ble_eq_true rfl) (by omega) (by omega) ?_
      refine zr_i2l (pc := 30) S dX7_isGood_30 ?_
      refine zr_aload_n (pc := 31) S dX7_isGood_31 rfl ?_
      refine zr_getR (pc := 32) S fX7_isGood_21 dX7_isGood_32 rfl (Nat.le_of_ble_eq_true rfl) rfl ?_
      refine zr_iload_n (pc := 35) S dX7_isGood_35 rfl ?_
      refine zr_iaload (pc := 36) S dX7_isGood_36 rfl (Nat.le_of_ble_eq_true rfl) (by omega) (by omega) ?_
      refine zr_i2l (pc := 37) S dX7_isGood_37 ?_
      refine zr_invN (pc := 38) S [zL _, zL _, zL _] (m_X11_within _) (List.mem_of_getElem? (i := 2) rfl) kX7_isGood_44 dX7_isGood_38 (Nat.le_of_ble_eq_true rfl) ⟨Nat.le_of_ble_eq_true rfl, Nat.le_of_ble_eq_true rfl⟩ (us_X11_within ?_)
      dsimp only [zaft, Option.toList, List.cons_append, List.nil_append, Nat.add_zero]
      refine zr_if_eq (pc := 41) (tgt := 48) S dX7_isGood_41 (by decide) (fun c41 => ?_) (fun c41 => ?_)
      · rw [b01_0] at c41
        refine zr_iconst (pc := 48) S dX7_isGood_48 (by unfold zrI; omega) ?_
        exact zr_zret (pc := 49) S dX7_isGood_49 rfl (by first | omega | exact b01_r) ⟨Nat.le_refl _, Nat.le_refl _⟩ (zqi hQ (by unfold b01; split <;> omega))
      · rw [b01_0, Classical.not_not] at c41
        refine zr_iconst (pc := 44) S dX7_isGood_44 (by unfold zrI; omega) ?_
        refine zr_goto (pc := 45) (tgt := 49) S dX7_isGood_45 (by decide) ?_
        exact zr_zret (pc := 49) S dX7_isGood_49 rfl (by first | omega | exact b01_r) ⟨Nat.le_refl _, Nat.le_refl _⟩ (zqi hQ (by unfold b01; split <;> omega))
def sp_X7_worth (as : List zV) (M : zM) (Q : Option zV → zM → Prop) : Prop := ∃ k : Int, as = [zR 2, zI k] ∧ ICs M ∧ Q (some (zI (worth M k))) M
theorem us_X7_worth {k : Int} {M : zM} {Q : Option zV → zM → Prop} (hI : ICs M) (h : Q (some (zI (worth M k))) M) : sp_X7_worth [zR 2, zI k] M Q := ⟨k, rfl, hI, h⟩
theorem m_X7_worth (l : Launch) : zC l yX7_worth wzX7_worth rmX7_worth sp_X7_worth := by
  refine zMet.of RX7 (by decide +kernel) rfl rfl ?_
  intro E X as M Qp hX S hsp
  obtain ⟨k, rfl, hI, hQ⟩ := hsp
  have h8 := hI.1
  refine ⟨Nat.le_of_ble_eq_true rfl, ?_⟩
  dsimp only [zpad, zargs]
  refine zr_aload_n (pc := 0) S dX7_worth_0 rfl ?_
  refine zr_iload_n (pc := 1) S dX7_worth_1 rfl ?_
  refine zr_invV (pc := 2) S [zI _] (m_X7_isGood _) kX7_worth_48 dX7_worth_2 rfl (Nat.le_of_ble_eq_true rfl) rfl (Nat.le_of_ble_eq_true rfl) ⟨Nat.le_of_ble_eq_true rfl, Nat.le_of_ble_eq_true rfl⟩ (us_X7_isGood hI ?_)
  dsimp only [zaft, Option.toList, List.cons_append, List.nil_append, Nat.add_zero]
  refine zr_if_eq (pc := 5) (tgt := 17) S dX7_worth_5 (by decide) (fun c5 => ?_) (fun c5 => ?_)
  · rw [b01_0] at c5
    refine zr_iconst (pc := 17) S dX7_worth_17 (by unfold zrI; omega) ?_
    exact zr_iret (pc := 18) S dX7_worth_18 rfl ⟨Nat.le_refl _, Nat.le_refl _⟩ (zqi hQ (by unfold worth; first | rw [if_pos c5] | rw [if_neg c5]))
  · rw [b01_0, Classical.not_not] at c5
    refine zr_aload_n (pc := 8) S dX7_worth_8 rfl ?_
    refine zr_getR (pc := 9) S fX7_worth_15 dX7_worth_9 rfl (Nat.le_of_ble_eq_true rfl) rfl ?_
    refine zr_iload_n (pc := 12) S dX7_worth_12 rfl ?_
    refine zr_iaload (pc := 13) S dX7_worth_13 rfl (Nat.le_of_ble_eq_true rfl) (by omega) (by omega) ?_
    refine zr_goto (pc := 14) (tgt := 18) S dX7_worth_14 (by decide) ?_
    exact zr_iret (pc := 18) S dX7_worth_18 rfl ⟨Nat.le_refl _, Nat.le_refl _⟩ (zqi hQ (by unfold worth; first | rw [if_pos c5] | rw [if_neg c5]))
def sp_X7_worn (as : List zV) (M : zM) (Q : Option zV → zM → Prop) : Prop := ∃ k : Int, as = [zR 2, zI k] ∧ ICs M ∧ 0 ≤ k ∧ k < 8 ∧ Q (some (zI (worn M k))) M
theorem us_X7_worn {k : Int} {M : zM} {Q : Option zV → zM → Prop} (hI : ICs M) (h0 : 0 ≤ k) (h1 : k < 8) (h : Q (some (zI (worn M k))) M) : sp_X7_worn [zR 2, zI k] M Q := ⟨k, rfl, hI, h0, h1, h⟩
theorem m_X7_worn (l : Launch) : zC l yX7_worn wzX7_worn rmX7_worn sp_X7_worn := by
  refine zMet.of RX7 (by decide +kernel) rfl rfl ?_
  intro E X as M Qp hX S hsp
  obtain ⟨k, rfl, hI, h0, h1, hQ⟩ := hsp
  have a := hI.v h0 h1
  have b := hI.2.1
  have c := zmulr a.2.2.1 a.2.2.2.1 b.2.2.1 b.2.2.2.1
  refine ⟨Nat.le_of_ble_eq_true rfl, ?_⟩
  dsimp only [zpad, zargs]
  refine zr_aload_n (pc := 0) S dX7_worn_0 rfl ?_
  refine zr_getR (pc := 1) S fX7_worn_30 dX7_worn_1 rfl (Nat.le_of_ble_eq_true rfl) rfl ?_
  refine zr_iload_n (pc := 4) S dX7_worn_4 rfl ?_
  refine zr_iaload (pc := 5) S dX7_worn_5 rfl (Nat.le_of_ble_eq_true rfl) (by omega) (by omega) ?_
  refine zr_aload_n (pc := 6) S dX7_worn_6 rfl ?_
  refine zr_getR (pc := 7) S fX7_worn_9 dX7_worn_7 rfl (Nat.le_of_ble_eq_true rfl) rfl ?_
  refine zr_iconst (pc := 10) S dX7_worn_10 (by unfold zrI; omega) ?_
  refine zr_iaload (pc := 11) S dX7_worn_11 rfl (Nat.le_of_ble_eq_true rfl) (by omega) (by omega) ?_
  dsimp only [Int.reduceToNat]
  refine zr_imul (pc := 12) S dX7_worn_12 (by show zrI (M 9 k.toNat * M 3 1); unfold zrI; omega) ?_
  refine zr_bipush (pc := 13) S dX7_worn_13 ⟨by unfold zrI; omega, by decide⟩ ?_
  refine zr_idiv (pc := 15) S dX7_worn_15 c.1 (by decide) ?_
  exact zr_iret (pc := 16) S dX7_worn_16 rfl ⟨Nat.le_refl _, Nat.le_refl _⟩ (hQ)
def sp_X7_lowOf (as : List zV) (M : zM) (Q : Option zV → zM → Prop) : Prop := ∃ k m : Int, as = [zR 2, zI k, zI m] ∧ ICs M ∧ 0 ≤ k ∧ k < 8 ∧ 0 ≤ m ∧ m < 3 ∧ Q (some (zI (lowOf M k m))) M
theorem us_X7_lowOf {k m : Int} {M : zM} {Q : Option zV → zM → Prop} (hI : ICs M) (h0 : 0 ≤ k) (h1 : k < 8) (h2 : 0 ≤ m) (h3 : m < 3) (h : Q (some (zI (lowOf M k m))) M) : sp_X7_lowOf [zR 2, zI k, zI m] M Q := ⟨k, m, rfl, hI, h0, h1, h2, h3, h⟩
theorem m_X7_lowOf (l : Launch) : zC l yX7_lowOf wzX7_lowOf rmX7_lowOf sp_X7_lowOf := by
  refine zMet.of RX7 (by decide +kernel) rfl rfl ?_
  intro E X as M Qp hX S hsp
  obtain ⟨k, m, rfl, hI, h0, h1, h2, h3, hQ⟩ := hsp
  have a := hI.s (j := k * 3 + m) (by omega) (by omega)
  have b := worn_r hI h0 h1
  refine ⟨Nat.le_of_ble_eq_true rfl, ?_⟩
  dsimp only [zpad, zargs]
  refine zr_aload_n (pc := 0) S dX7_lowOf_0 rfl ?_
  refine zr_getR (pc := 1) S fX7_lowOf_24 dX7_lowOf_1 rfl (Nat.le_of_ble_eq_true rfl) rfl ?_
  refine zr_iload_n (pc := 4) S dX7_lowOf_4 rfl ?_
  refine zr_iconst (pc := 5) S dX7_lowOf_5 (by unfold zrI; omega) ?_
  refine zr_imul (pc := 6) S dX7_lowOf_6 (by unfold zrI; omega) ?_
  refine zr_iload_n (pc := 7) S dX7_lowOf_7 rfl ?_
  refine zr_iadd (pc := 8) S dX7_lowOf_8 (by unfold zrI; omega) ?_
  refine zr_iaload (pc := 9) S dX7_lowOf_9 rfl (Nat.le_of_ble_eq_true rfl) (by omega) (by omega) ?_
  refine zr_istore_n (pc := 10) S 3 dX7_lowOf_10 rfl (by decide) ?_
  dsimp only [zst1, zst2, zset, zget, zlong]
  refine zr_iload_n (pc := 11) S dX7_lowOf_11 rfl ?_
  refine zr_if_ne (pc := 12) (tgt := 29) S dX7_lowOf_12 (by decide) (fun c12 => ?_) (fun c12 => ?_)
  · refine zr_iload_n (pc := 29) S dX7_lowOf_29 rfl ?_
    exact zr_iret (pc := 30) S dX7_lowOf_30 rfl ⟨Nat.le_refl _, Nat.le_refl _⟩ (zqi hQ (by unfold lowOf; first | rw [if_pos c12] | rw [if_neg c12]))
  · refine zr_iconst (pc := 15) S dX7_lowOf_15 (by unfold zrI; omega) ?_
    refine zr_iload_n (pc := 16) S dX7_lowOf_16 rfl ?_
    refine zr_aload_n (pc := 17) S dX7_lowOf_17 rfl ?_
    refine zr_iload_n (pc := 18) S dX7_lowOf_18 rfl ?_
    refine zr_invV (pc := 19) S [zI _] (m_X7_worn _) kX7_lowOf_51 dX7_lowOf_19 rfl (Nat.le_of_ble_eq_true rfl) rfl (Nat.le_of_ble_eq_true rfl) ⟨Nat.le_of_ble_eq_true rfl, Nat.le_of_ble_eq_true rfl⟩ (us_X7_worn hI h0 h1 ?_)
    dsimp only [zaft, Option.toList, List.cons_append, List.nil_append, Nat.add_zero]
    refine zr_isub (pc := 22) S dX7_lowOf_22 (by unfold zrI; omega) ?_
    refine zr_mmax (pc := 23) S kX7_lowOf_55 dX7_lowOf_23 (Nat.le_of_ble_eq_true rfl) (Nat.le_of_ble_eq_true rfl) ⟨Nat.le_of_ble_eq_true rfl, Nat.le_of_ble_eq_true rfl⟩ ?_
    refine zr_goto (pc := 26) (tgt := 30) S dX7_lowOf_26 (by decide) ?_
    exact zr_iret (pc := 30) S dX7_lowOf_30 rfl ⟨Nat.le_refl _, Nat.le_refl _⟩ (zqi hQ (by unfold lowOf; first | rw [if_pos c12] | rw [if_neg c12]))
def sp_X7_highOf (as : List zV) (M : zM) (Q : Option zV → zM → Prop) : Prop := ∃ k m : Int, as = [zR 2, zI k, zI m] ∧ ICs M ∧ 0 ≤ k ∧ k < 8 ∧ 0 ≤ m ∧ m < 3 ∧ Q (some (zI (highOf M k m))) M
theorem us_X7_highOf {k m : Int} {M : zM} {Q : Option zV → zM → Prop} (hI : ICs M) (h0 : 0 ≤ k) (h1 : k < 8) (h2 : 0 ≤ m) (h3 : m < 3) (h : Q (some (zI (highOf M k m))) M) : sp_X7_highOf [zR 2, zI k, zI m] M Q := ⟨k, m, rfl, hI, h0, h1, h2, h3, h⟩
theorem m_X7_highOf (l : Launch) : zC l yX7_highOf wzX7_highOf rmX7_highOf sp_X7_highOf := by
  refine zMet.of RX7 (by decide +kernel) rfl rfl ?_
  intro E X as M Qp hX S hsp
  obtain ⟨k, m, rfl, hI, h0, h1, h2, h3, hQ⟩ := hsp
  have a := hI.s (j := k * 3 + m) (by omega) (by omega)
  have b := worn_r hI h0 h1
  refine ⟨Nat.le_of_ble_eq_true rfl, ?_⟩
  dsimp only [zpad, zargs]
  refine zr_aload_n (pc := 0) S dX7_highOf_0 rfl ?_
  refine zr_getR (pc := 1) S fX7_highOf_27 dX7_highOf_1 rfl (Nat.le_of_ble_eq_true rfl) rfl ?_
  refine zr_iload_n (pc := 4) S dX7_highOf_4 rfl ?_
  refine zr_iconst (pc := 5) S dX7_highOf_5 (by unfold zrI; omega) ?_
  refine zr_imul (pc := 6) S dX7_highOf_6 (by unfold zrI; omega) ?_
  refine zr_iload_n (pc := 7) S dX7_highOf_7 rfl ?_
  refine zr_iadd (pc := 8) S dX7_highOf_8 (by unfold zrI; omega) ?_
  refine zr_iaload (pc := 9) S dX7_highOf_9 rfl (Nat.le_of_ble_eq_true rfl) (by omega) (by omega) ?_
  refine zr_istore_n (pc := 10) S 3 dX7_highOf_10 rfl (by decide) ?_
  dsimp only [zst1, zst2, zset, zget, zlong]
  refine zr_iload_n (pc := 11) S dX7_highOf_11 rfl ?_
  refine zr_if_ne (pc := 12) (tgt := 29) S dX7_highOf_12 (by decide) (fun c12 => ?_) (fun c12 => ?_)
  · refine zr_iload_n (pc := 29) S dX7_highOf_29 rfl ?_
    exact zr_iret (pc := 30) S dX7_highOf_30 rfl ⟨Nat.le_refl _, Nat.le_refl _⟩ (zqi hQ (by unfold highOf; first | rw [if_pos c12] | rw [if_neg c12]))
  · refine zr_iconst (pc := 15) S dX7_highOf_15 (by unfold zrI; omega) ?_
    refine zr_iload_n (pc := 16) S dX7_highOf_16 rfl ?_
    refine zr_aload_n (pc := 17) S dX7_highOf_17 rfl ?_
    refine zr_iload_n (pc := 18) S dX7_highOf_18 rfl ?_
    refine zr_invV (pc := 19) S [zI _] (m_X7_worn _) kX7_highOf_51 dX7_highOf_19 rfl (Nat.le_of_ble_eq_true rfl) rfl (Nat.le_of_ble_eq_true rfl) ⟨Nat.le_of_ble_eq_true rfl, Nat.le_of_ble_eq_true rfl⟩ (us_X7_worn hI h0 h1 ?_)
    dsimp only [zaft, Option.toList, List.cons_append, List.nil_append, Nat.add_zero]
    refine zr_isub (pc := 22) S dX7_highOf_22 (by unfold zrI; omega) ?_
    refine zr_mmax (pc := 23) S kX7_highOf_55 dX7_highOf_23 (Nat.le_of_ble_eq_true rfl) (Nat.le_of_ble_eq_true rfl) ⟨Nat.le_of_ble_eq_true rfl, Nat.le_of_ble_eq_true rfl⟩ ?_
    refine zr_goto (pc := 26) (tgt := 30) S dX7_highOf_26 (by decide) ?_
    exact zr_iret (pc := 30) S dX7_highOf_30 rfl ⟨Nat.le_refl _, Nat.le_refl _⟩ (zqi hQ (by unfold highOf; first | rw [if_pos c12] | rw [if_neg c12]))
end
