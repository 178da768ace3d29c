section
def rmX5_power : Room := { frames := 0, cells := 0, slots := 0, locals := 0 }
abbrev wzX5_power : List Cond := .code yX5_power cX5_power 6 (some .long) :: zW
def rmX5_paid : Room := { frames := 2, cells := 0, slots := 0, locals := 46 }
abbrev wzX5_paid : List Cond := .code yX5_paid cX5_paid 5 (some .int) :: zW
def rmX5_begin : Room := { frames := 3, cells := 0, slots := 0, locals := 70 }
abbrev wzX5_begin : List Cond := .code yX5_begin cX5_begin 2 none :: zW
def rmX5_keepServed : Room := { frames := 0, cells := 0, slots := 0, locals := 0 }
abbrev wzX5_keepServed : List Cond := .code yX5_keepServed cX5_keepServed 7 none :: zW
def rmX5_findChange : Room := { frames := 3, cells := 0, slots := 0, locals := 79 }
abbrev wzX5_findChange : List Cond := .code yX5_findChange cX5_findChange 4 none :: zW
def rmX5_sell : Room := { frames := 1, cells := 0, slots := 0, locals := 24 }
abbrev wzX5_sell : List Cond := .code yX5_sell cX5_sell 9 none :: zW
def rmX5_meanOf : Room := { frames := 1, cells := 0, slots := 0, locals := 25 }
abbrev wzX5_meanOf : List Cond := .code yX5_meanOf cX5_meanOf 13 (some .long) :: zW
theorem fX5_power_28 : zfl wzX5_power RX5 vwCl 28 5 0 := ⟨_, _, _, rfl, (fun w h => List.mem_cons_of_mem _ (zWuX5 w h)), by decide, List.mem_cons_of_mem _ (zWi_10 _ (List.mem_of_getElem? (i := 30) rfl))⟩
theorem fX5_power_70 : zfl wzX5_power RX5 vwCl 70 8 5 := ⟨_, _, _, rfl, (fun w h => List.mem_cons_of_mem _ (zWuX8 w h)), by decide, List.mem_cons_of_mem _ (zWi_10 _ (List.mem_of_getElem? (i := 36) rfl))⟩
theorem fX5_power_113 : zfl wzX5_power RX5 vwCl 113 8 9 := ⟨_, _, _, rfl, (fun w h => List.mem_cons_of_mem _ (zWuX8 w h)), by decide, List.mem_cons_of_mem _ (zWi_10 _ (List.mem_of_getElem? (i := 24) rfl))⟩
theorem fX5_paid_28 : zfl wzX5_paid RX5 vwCl 28 5 0 := ⟨_, _, _, rfl, (fun w h => List.mem_cons_of_mem _ (zWuX5 w h)), by decide, List.mem_cons_of_mem _ (zWi_10 _ (List.mem_of_getElem? (i := 30) rfl))⟩
theorem fX5_paid_84 : zfl wzX5_paid RX5 vwCl 84 8 8 := ⟨_, _, _, rfl, (fun w h => List.mem_cons_of_mem _ (zWuX8 w h)), by decide, List.mem_cons_of_mem _ (zWi_10 _ (List.mem_of_getElem? (i := 39) rfl))⟩
theorem fX5_paid_87 : zfl wzX5_paid RX5 vwCl 87 8 7 := ⟨_, _, _, rfl, (fun w h => List.mem_cons_of_mem _ (zWuX8 w h)), by decide, List.mem_cons_of_mem _ (zWi_10 _ (List.mem_of_getElem? (i := 40) rfl))⟩
theorem fX5_paid_38 : zfl wzX5_paid RX5 vwCl 38 5 1 := ⟨_, _, _, rfl, (fun w h => List.mem_cons_of_mem _ (zWuX5 w h)), by decide, List.mem_cons_of_mem _ (zWi_10 _ (List.mem_of_getElem? (i := 32) rfl))⟩
theorem fX5_paid_96 : zfl wzX5_paid RX5 vwCl 96 7 2 := ⟨_, _, _, rfl, (fun w h => List.mem_cons_of_mem _ (zWuX7 w h)), by decide, List.mem_cons_of_mem _ (zWi_10 _ (List.mem_of_getElem? (i := 42) rfl))⟩
theorem kX5_paid_90 : ∀ (s9 : State) (a9 : Array Value), (∀ w ∈ wzX5_paid, w.before a9 s9 = true) → CallW rmX5_paid s9 a9 RX5 RX7 90 yX7_isGood cX7_isGood 2 (some .boolean) wzX7_isGood rmX7_isGood 0 0 1 := zcV (zWi_24 _ (List.mem_of_getElem? (i := 19) rfl)) (zWi_16 _ (List.mem_of_getElem? (i := 48) rfl)) (zWi_29 _ (List.mem_of_getElem? (i := 24) rfl)) (zWi_12 _ (List.mem_of_getElem? (i := 19) rfl)) (zWi_5 _ (List.mem_of_getElem? (i := 32) rfl)) (by decide +kernel) rfl rfl ⟨Nat.le_of_ble_eq_true rfl, Nat.le_of_ble_eq_true rfl⟩
theorem fX5_begin_9 : zfl wzX5_begin RX5 vwCl 9 5 3 := ⟨_, _, _, rfl, (fun w h => List.mem_cons_of_mem _ (zWuX5 w h)), by decide, List.mem_cons_of_mem _ (zWi_10 _ (List.mem_of_getElem? (i := 41) rfl))⟩
theorem fX5_begin_28 : zfl wzX5_begin RX5 vwCl 28 5 0 := ⟨_, _, _, rfl, (fun w h => List.mem_cons_of_mem _ (zWuX5 w h)), by decide, List.mem_cons_of_mem _ (zWi_10 _ (List.mem_of_getElem? (i := 30) rfl))⟩
theorem fX5_begin_63 : zfl wzX5_begin RX5 vwCl 63 8 2 := ⟨_, _, _, rfl, (fun w h => List.mem_cons_of_mem _ (zWuX8 w h)), by decide, List.mem_cons_of_mem _ (zWi_10 _ (List.mem_of_getElem? (i := 34) rfl))⟩
theorem fX5_begin_67 : zfl wzX5_begin RX5 vwCl 67 9 1 := ⟨_, _, _, rfl, (fun w h => List.mem_cons_of_mem _ (zWuX9 w h)), by decide, List.mem_cons_of_mem _ (zWi_10 _ (List.mem_of_getElem? (i := 35) rfl))⟩
theorem fX5_begin_70 : zfl wzX5_begin RX5 vwCl 70 8 5 := ⟨_, _, _, rfl, (fun w h => List.mem_cons_of_mem _ (zWuX8 w h)), by decide, List.mem_cons_of_mem _ (zWi_10 _ (List.mem_of_getElem? (i := 36) rfl))⟩
theorem fX5_begin_15 : zfl wzX5_begin RX5 vwCl 15 5 4 := ⟨_, _, _, rfl, (fun w h => List.mem_cons_of_mem _ (zWuX5 w h)), by decide, List.mem_cons_of_mem _ (zWi_10 _ (List.mem_of_getElem? (i := 26) rfl))⟩
theorem fX5_begin_78 : zfl wzX5_begin RX5 vwCl 78 8 4 := ⟨_, _, _, rfl, (fun w h => List.mem_cons_of_mem _ (zWuX8 w h)), by decide, List.mem_cons_of_mem _ (zWi_10 _ (List.mem_of_getElem? (i := 37) rfl))⟩
theorem fX5_begin_81 : zfl wzX5_begin RX5 vwCl 81 8 6 := ⟨_, _, _, rfl, (fun w h => List.mem_cons_of_mem _ (zWuX8 w h)), by decide, List.mem_cons_of_mem _ (zWi_10 _ (List.mem_of_getElem? (i := 38) rfl))⟩
theorem kX5_begin_74 : ∀ (s9 : State) (a9 : Array Value), (∀ w ∈ wzX5_begin, w.before a9 s9 = true) → CallW rmX5_begin s9 a9 RX5 RX5 74 yX5_paid cX5_paid 5 (some .int) wzX5_paid rmX5_paid 0 0 1 := zcV (zWi_24 _ (List.mem_of_getElem? (i := 18) rfl)) (zWi_16 _ (List.mem_of_getElem? (i := 27) rfl)) (zWi_29 _ (List.mem_of_getElem? (i := 5) rfl)) (zWi_12 _ (List.mem_of_getElem? (i := 17) rfl)) (zWi_5 _ (List.mem_of_getElem? (i := 11) rfl)) (by decide +kernel) rfl rfl ⟨Nat.le_of_ble_eq_true rfl, Nat.le_of_ble_eq_true rfl⟩
theorem fX5_keepServed_25 : zfl wzX5_keepServed RX5 vwCl 25 5 7 := ⟨_, _, _, rfl, (fun w h => List.mem_cons_of_mem _ (zWuX5 w h)), by decide, List.mem_cons_of_mem _ (zWi_10 _ (List.mem_of_getElem? (i := 29) rfl))⟩
theorem fX5_keepServed_22 : zfl wzX5_keepServed RX5 vwCl 22 5 6 := ⟨_, _, _, rfl, (fun w h => List.mem_cons_of_mem _ (zWuX5 w h)), by decide, List.mem_cons_of_mem _ (zWi_10 _ (List.mem_of_getElem? (i := 28) rfl))⟩
theorem fX5_findChange_28 : zfl wzX5_findChange RX5 vwCl 28 5 0 := ⟨_, _, _, rfl, (fun w h => List.mem_cons_of_mem _ (zWuX5 w h)), by decide, List.mem_cons_of_mem _ (zWi_10 _ (List.mem_of_getElem? (i := 30) rfl))⟩
theorem fX5_findChange_70 : zfl wzX5_findChange RX5 vwCl 70 8 5 := ⟨_, _, _, rfl, (fun w h => List.mem_cons_of_mem _ (zWuX8 w h)), by decide, List.mem_cons_of_mem _ (zWi_10 _ (List.mem_of_getElem? (i := 36) rfl))⟩
theorem fX5_findChange_15 : zfl wzX5_findChange RX5 vwCl 15 5 4 := ⟨_, _, _, rfl, (fun w h => List.mem_cons_of_mem _ (zWuX5 w h)), by decide, List.mem_cons_of_mem _ (zWi_10 _ (List.mem_of_getElem? (i := 26) rfl))⟩
theorem fX5_findChange_39 : zfl wzX5_findChange RX5 vwCl 39 5 2 := ⟨_, _, _, rfl, (fun w h => List.mem_cons_of_mem _ (zWuX5 w h)), by decide, List.mem_cons_of_mem _ (zWi_10 _ (List.mem_of_getElem? (i := 33) rfl))⟩
theorem fX5_findChange_9 : zfl wzX5_findChange RX5 vwCl 9 5 3 := ⟨_, _, _, rfl, (fun w h => List.mem_cons_of_mem _ (zWuX5 w h)), by decide, List.mem_cons_of_mem _ (zWi_10 _ (List.mem_of_getElem? (i := 41) rfl))⟩
theorem fX5_findChange_18 : zfl wzX5_findChange RX5 vwCl 18 5 5 := ⟨_, _, _, rfl, (fun w h => List.mem_cons_of_mem _ (zWuX5 w h)), by decide, List.mem_cons_of_mem _ (zWi_10 _ (List.mem_of_getElem? (i := 27) rfl))⟩
theorem fX5_findChange_128 : zfl wzX5_findChange RX5 vwCl 128 0 1 := ⟨_, _, _, rfl, (fun w h => List.mem_cons_of_mem _ (zWuX0 w h)), by decide, List.mem_cons_of_mem _ (zWi_10 _ (List.mem_of_getElem? (i := 25) rfl))⟩
theorem kX5_findChange_116 : zml_mmax wzX5_findChange RX5 116 := ⟨List.mem_cons_of_mem _ (zWi_24 _ (List.mem_of_getElem? (i := 7) rfl)), List.mem_cons_of_mem _ (zWi_30 _ (List.mem_of_getElem? (i := 2) rfl)), List.mem_cons_of_mem _ (zWi_12 _ (List.mem_of_getElem? (i := 0) rfl)), List.mem_cons_of_mem _ (zWi_0 _ (List.mem_of_getElem? (i := 27) rfl))⟩
theorem kX5_findChange_119 : ∀ (s9 : State) (a9 : Array Value), (∀ w ∈ wzX5_findChange, w.before a9 s9 = true) → CallW rmX5_findChange s9 a9 RX5 RX0 119 yX0_spread cX0_spread 7 none wzX0_spread rmX0_spread 0 0 3 := zcV (zWi_24 _ (List.mem_of_getElem? (i := 8) rfl)) (zWi_12 _ (List.mem_of_getElem? (i := 35) rfl)) (zWi_25 _ (List.mem_of_getElem? (i := 21) rfl)) (zWi_12 _ (List.mem_of_getElem? (i := 9) rfl)) (zWi_1 _ (List.mem_of_getElem? (i := 9) rfl)) (by decide +kernel) rfl rfl ⟨Nat.le_of_ble_eq_true rfl, Nat.le_of_ble_eq_true rfl⟩
theorem kX5_findChange_125 : ∀ (s9 : State) (a9 : Array Value), (∀ w ∈ wzX5_findChange, w.before a9 s9 = true) → CallW rmX5_findChange s9 a9 RX5 RX0 125 yX0_hasFor cX0_hasFor 2 (some .boolean) wzX0_hasFor rmX0_hasFor 0 0 1 := zcV (zWi_24 _ (List.mem_of_getElem? (i := 9) rfl)) (zWi_12 _ (List.mem_of_getElem? (i := 27) rfl)) (zWi_25 _ (List.mem_of_getElem? (i := 14) rfl)) (zWi_12 _ (List.mem_of_getElem? (i := 9) rfl)) (zWi_1 _ (List.mem_of_getElem? (i := 0) rfl)) (by decide +kernel) rfl rfl ⟨Nat.le_of_ble_eq_true rfl, Nat.le_of_ble_eq_true rfl⟩
theorem fX5_sell_18 : zfl wzX5_sell RX5 vwCl 18 5 5 := ⟨_, _, _, rfl, (fun w h => List.mem_cons_of_mem _ (zWuX5 w h)), by decide, List.mem_cons_of_mem _ (zWi_10 _ (List.mem_of_getElem? (i := 27) rfl))⟩
theorem fX5_sell_9 : zfl wzX5_sell RX5 vwCl 9 5 3 := ⟨_, _, _, rfl, (fun w h => List.mem_cons_of_mem _ (zWuX5 w h)), by decide, List.mem_cons_of_mem _ (zWi_10 _ (List.mem_of_getElem? (i := 41) rfl))⟩
theorem fX5_sell_28 : zfl wzX5_sell RX5 vwCl 28 5 0 := ⟨_, _, _, rfl, (fun w h => List.mem_cons_of_mem _ (zWuX5 w h)), by decide, List.mem_cons_of_mem _ (zWi_10 _ (List.mem_of_getElem? (i := 30) rfl))⟩
theorem fX5_sell_84 : zfl wzX5_sell RX5 vwCl 84 8 8 := ⟨_, _, _, rfl, (fun w h => List.mem_cons_of_mem _ (zWuX8 w h)), by decide, List.mem_cons_of_mem _ (zWi_10 _ (List.mem_of_getElem? (i := 39) rfl))⟩
theorem fX5_sell_87 : zfl wzX5_sell RX5 vwCl 87 8 7 := ⟨_, _, _, rfl, (fun w h => List.mem_cons_of_mem _ (zWuX8 w h)), by decide, List.mem_cons_of_mem _ (zWi_10 _ (List.mem_of_getElem? (i := 40) rfl))⟩
theorem kX5_sell_131 : ∀ (s9 : State) (a9 : Array Value), (∀ w ∈ wzX5_sell, w.before a9 s9 = true) → CallB rmX5_sell s9 a9 RX5 131 yX0_shareOf cX0_shareOf 5 (some .int) wzX0_shareOf rmX0_shareOf 0 0 2 ∧ (Cond.static yX0_shareOf).before a9 s9 = true := zcS (zWi_24 _ (List.mem_of_getElem? (i := 10) rfl)) (zWi_31 _ (List.mem_of_getElem? (i := 4) rfl)) (zWi_12 _ (List.mem_of_getElem? (i := 9) rfl)) (zWi_1 _ (List.mem_of_getElem? (i := 8) rfl)) (by decide +kernel) rfl rfl ⟨Nat.le_of_ble_eq_true rfl, Nat.le_of_ble_eq_true rfl⟩
theorem kX5_sell_135 : zml_mmin wzX5_sell RX5 135 := ⟨List.mem_cons_of_mem _ (zWi_24 _ (List.mem_of_getElem? (i := 11) rfl)), List.mem_cons_of_mem _ (zWi_30 _ (List.mem_of_getElem? (i := 3) rfl)), List.mem_cons_of_mem _ (zWi_12 _ (List.mem_of_getElem? (i := 0) rfl)), List.mem_cons_of_mem _ (zWi_0 _ (List.mem_of_getElem? (i := 28) rfl))⟩
theorem fX5_meanOf_22 : zfl wzX5_meanOf RX5 vwCl 22 5 6 := ⟨_, _, _, rfl, (fun w h => List.mem_cons_of_mem _ (zWuX5 w h)), by decide, List.mem_cons_of_mem _ (zWi_10 _ (List.mem_of_getElem? (i := 28) rfl))⟩
theorem fX5_meanOf_28 : zfl wzX5_meanOf RX5 vwCl 28 5 0 := ⟨_, _, _, rfl, (fun w h => List.mem_cons_of_mem _ (zWuX5 w h)), by decide, List.mem_cons_of_mem _ (zWi_10 _ (List.mem_of_getElem? (i := 30) rfl))⟩
theorem fX5_meanOf_70 : zfl wzX5_meanOf RX5 vwCl 70 8 5 := ⟨_, _, _, rfl, (fun w h => List.mem_cons_of_mem _ (zWuX8 w h)), by decide, List.mem_cons_of_mem _ (zWi_10 _ (List.mem_of_getElem? (i := 36) rfl))⟩
theorem fX5_meanOf_18 : zfl wzX5_meanOf RX5 vwCl 18 5 5 := ⟨_, _, _, rfl, (fun w h => List.mem_cons_of_mem _ (zWuX5 w h)), by decide, List.mem_cons_of_mem _ (zWi_10 _ (List.mem_of_getElem? (i := 27) rfl))⟩
theorem fX5_meanOf_25 : zfl wzX5_meanOf RX5 vwCl 25 5 7 := ⟨_, _, _, rfl, (fun w h => List.mem_cons_of_mem _ (zWuX5 w h)), by decide, List.mem_cons_of_mem _ (zWi_10 _ (List.mem_of_getElem? (i := 29) rfl))⟩
theorem fX5_meanOf_113 : zfl wzX5_meanOf RX5 vwCl 113 8 9 := ⟨_, _, _, rfl, (fun w h => List.mem_cons_of_mem _ (zWuX8 w h)), by decide, List.mem_cons_of_mem _ (zWi_10 _ (List.mem_of_getElem? (i := 24) rfl))⟩
theorem kX5_meanOf_59 : ∀ (s9 : State) (a9 : Array Value), (∀ w ∈ wzX5_meanOf, w.before a9 s9 = true) → CallW rmX5_meanOf s9 a9 RX5 RX5 59 yX5_power cX5_power 6 (some .long) wzX5_power rmX5_power 0 0 1 := zcV (zWi_24 _ (List.mem_of_getElem? (i := 17) rfl)) (zWi_16 _ (List.mem_of_getElem? (i := 28) rfl)) (zWi_29 _ (List.mem_of_getElem? (i := 6) rfl)) (zWi_12 _ (List.mem_of_getElem? (i := 17) rfl)) (zWi_5 _ (List.mem_of_getElem? (i := 12) rfl)) (by decide +kernel) rfl rfl ⟨Nat.le_of_ble_eq_true rfl, Nat.le_of_ble_eq_true rfl⟩
theorem kX5_meanOf_107 : zml_mmaxL wzX5_meanOf RX5 107 := ⟨List.mem_cons_of_mem _ (zWi_24 _ (List.mem_of_getElem? (i := 6) rfl)), List.mem_cons_of_mem _ (zWi_30 _ (List.mem_of_getElem? (i := 4) rfl)), List.mem_cons_of_mem _ (zWi_12 _ (List.mem_of_getElem? (i := 0) rfl)), List.mem_cons_of_mem _ (zWi_0 _ (List.mem_of_getElem? (i := 29) rfl))⟩
/-- bounds of prices and buyers -/
def ICb (M : zM) : Prop := (0 ≤ M 1 5 ∧ M 1 5 ≤ 5) ∧ (∀ g : Nat, g < 6 → 0 ≤ M 29 g ∧ M 29 g ≤ 500) ∧ (∀ b : Nat, b < 5 → 0 ≤ M 30 b ∧ M 30 b ≤ 5 ∧ 0 ≤ M 32 b ∧ M 32 b ≤ 4 ∧ 0 ≤ M 33 b ∧ M 33 b ≤ 9 ∧ ∀ i : Nat, (i : Int) < M 32 b → 0 ≤ M 31 (b * 4 + i) ∧ M 31 (b * 4 + i) ≤ 7)
def allCh (M : zM) : Int := sumU (M 33) ((M 1 5).toNat)
def powM (M : zM) (n : Nat) : Int := allCh M ^ n
theorem allCh_r {M : zM} (h : ICb M) : ∀ n : Nat, n ≤ 5 → 0 ≤ sumU (M 33) n ∧ sumU (M 33) n ≤ 45 := fun n hn => by
  have a := sumU_r (f := M 33) (c := 9) (N := 5) (fun i hi => by have := h.2.2 i hi; omega) n hn
  omega
theorem powM_r {M : zM} (h : ICb M) : ∀ n, n ≤ 3 → 0 ≤ powM M n ∧ powM M n ≤ 91125 := by
  have a : 0 ≤ allCh M ∧ allCh M ≤ 45 := allCh_r h ((M 1 5).toNat) (by have := h.1; omega)
  have p2 := zmulr a.1 a.2 a.1 a.2
  have p3 := zmulr p2.1 p2.2 a.1 a.2
  intro n hn
  have : n = 0 ∨ n = 1 ∨ n = 2 ∨ n = 3 := by omega
  unfold powM
  rcases this with rfl | rfl | rfl | rfl
  · simp
  · rw [Int.pow_succ, Int.pow_zero, Int.one_mul]; omega
  · rw [show allCh M ^ 2 = allCh M * allCh M by rw [Int.pow_succ, Int.pow_succ, Int.pow_zero, Int.one_mul]]
    omega
  · rw [show allCh M ^ 3 = allCh M * allCh M * allCh M by rw [Int.pow_succ, Int.pow_succ, Int.pow_succ, Int.pow_zero, Int.one_mul]]
    omega
theorem lp_X5_power2 {E : zE} {X : zX} {Qp : Option zV → zM → Prop} {M : zM} {n : Nat} (S : zS (zg E) X cX5_power 6 wzX5_power RX5 (some .long)) (hb : ICb M) (hn : n ≤ 3) (hQ : Qp (some (zL (powM M n))) M) : ∀ (m i : Nat), m + i = n → zK (zg E) rmX5_power 6 (Qp, 0, 0) X (0, 0) 38 [some (zR 59), some (zI n), some (zI (allCh M)), some (zL (powM M i)), none, some (zI i)] [] M := by
  intro m
  induction m with
  | zero =>
    intro i hi
    have e : i = n := by omega
    subst e
    refine zr_iload (pc := 38) S dX5_power_38 rfl ?_
    refine zr_iload_n (pc := 40) S dX5_power_40 rfl ?_
    refine zr_icmp_ge (pc := 41) (tgt := 55) S dX5_power_41 (by decide) (fun c41 => ?_) (fun c41 => absurd c41 (by omega))
    refine zr_lload_n (pc := 55) S dX5_power_55 rfl ?_
    exact zr_lret (pc := 56) S dX5_power_56 rfl ⟨Nat.le_refl _, Nat.le_refl _⟩ (hQ)
  | succ m ih =>
    intro i hi
    have a := powM_r hb (i + 1) (by omega)
    have e : powM M i * allCh M = powM M (i + 1) := by unfold powM; rw [Int.pow_succ]
    have q := ih (i + 1) (by omega)
    refine zr_iload (pc := 38) S dX5_power_38 rfl ?_
    refine zr_iload_n (pc := 40) S dX5_power_40 rfl ?_
    refine zr_icmp_ge (pc := 41) (tgt := 55) S dX5_power_41 (by decide) (fun c41 => absurd c41 (by omega)) (fun c41 => ?_)
    refine zr_lload_n (pc := 44) S dX5_power_44 rfl ?_
    refine zr_iload_n (pc := 45) S dX5_power_45 rfl ?_
    refine zr_i2l (pc := 46) S dX5_power_46 ?_
    refine zr_lmul (pc := 47) S dX5_power_47 (by rw [e]; unfold zrL; omega) ?_
    rw [e]
    refine zr_lstore_n (pc := 48) S 3 dX5_power_48 rfl (by decide) ?_
    dsimp only [zst1, zst2, zset, zget, zlong]
    refine zr_iinc (pc := 49) S dX5_power_49 rfl (by unfold zrI; omega) (by decide) ?_
    dsimp only [zst1, zst2, zset, zget, zlong]
    refine zr_goto (pc := 52) (tgt := 38) S dX5_power_52 (by decide) ?_
    exact q
theorem lp_X5_power1 {E : zE} {X : zX} {Qp : Option zV → zM → Prop} {M : zM} {n : Nat} (S : zS (zg E) X cX5_power 6 wzX5_power RX5 (some .long)) (hb : ICb M) (hn : n ≤ 3) (hQ : Qp (some (zL (powM M n))) M) : ∀ (m i : Nat) (u4 u5 : Option zV), (m : Int) + i = M 1 5 → zK (zg E) rmX5_power 6 (Qp, 0, 0) X (0, 0) 4 [some (zR 59), some (zI n), some (zI (sumU (M 33) i)), some (zI i), u4, u5] [] M := by
  have h1 := hb.1
  intro m
  induction m with
  | zero =>
    intro i u4 u5 hi
    have e : i = (M 1 5).toNat := by omega
    have q := lp_X5_power2 S hb hn hQ n 0 (by omega)
    have e1 : powM M 0 = 1 := Int.pow_zero _
    rw [e1] at q
    have e2 : sumU (M 33) i = allCh M := by unfold allCh; rw [← e]
    rw [e2]
    refine zr_iload_n (pc := 4) S dX5_power_4 rfl ?_
    refine zr_aload_n (pc := 5) S dX5_power_5 rfl ?_
    refine zr_getR (pc := 6) S fX5_power_28 dX5_power_6 rfl (Nat.le_of_ble_eq_true rfl) rfl ?_
    refine zr_getI (pc := 9) S fX5_power_70 dX5_power_9 rfl (Nat.le_of_ble_eq_true rfl) rfl ?_
    refine zr_icmp_ge (pc := 12) (tgt := 33) S dX5_power_12 (by decide) (fun c12 => ?_) (fun c12 => absurd c12 (by omega))
    refine zr_lconst1 (pc := 33) S dX5_power_33 ?_
    refine zr_lstore_n (pc := 34) S 3 dX5_power_34 rfl (by decide) ?_
    dsimp only [zst1, zst2, zset, zget, zlong]
    refine zr_iconst (pc := 35) S dX5_power_35 (by unfold zrI; omega) ?_
    refine zr_istore (pc := 36) S dX5_power_36 (by decide) ?_
    dsimp only [zst1, zst2, zset, zget, zlong]
    exact q
  | succ m ih =>
    intro i u4 u5 hi
    have e : (i : Int).toNat = i := Int.toNat_natCast i
    have a := allCh_r hb i (by omega)
    have b := hb.2.2 i (by omega)
    have q := ih (i + 1) u4 u5 (by omega)
    simp only [sumU] at q
    refine zr_iload_n (pc := 4) S dX5_power_4 rfl ?_
    refine zr_aload_n (pc := 5) S dX5_power_5 rfl ?_
    refine zr_getR (pc := 6) S fX5_power_28 dX5_power_6 rfl (Nat.le_of_ble_eq_true rfl) rfl ?_
    refine zr_getI (pc := 9) S fX5_power_70 dX5_power_9 rfl (Nat.le_of_ble_eq_true rfl) rfl ?_
    refine zr_icmp_ge (pc := 12) (tgt := 33) S dX5_power_12 (by decide) (fun c12 => absurd c12 (by omega)) (fun c12 => ?_)
    refine zr_iload_n (pc := 15) S dX5_power_15 rfl ?_
    refine zr_aload_n (pc := 16) S dX5_power_16 rfl ?_
    refine zr_getR (pc := 17) S fX5_power_28 dX5_power_17 rfl (Nat.le_of_ble_eq_true rfl) rfl ?_
    refine zr_getR (pc := 20) S fX5_power_113 dX5_power_20 rfl (Nat.le_of_ble_eq_true rfl) rfl ?_
    refine zr_iload_n (pc := 23) S dX5_power_23 rfl ?_
    refine zr_iaload (pc := 24) S dX5_power_24 rfl (Nat.le_of_ble_eq_true rfl) (by omega) (by omega) ?_
    rw [e]
    refine zr_iadd (pc := 25) S dX5_power_25 (by unfold zrI; omega) ?_
    refine zr_istore_n (pc := 26) S 2 dX5_power_26 rfl (by decide) ?_
    dsimp only [zst1, zst2, zset, zget, zlong]
    refine zr_iinc (pc := 27) S dX5_power_27 rfl (by unfold zrI; omega) (by decide) ?_
    dsimp only [zst1, zst2, zset, zget, zlong]
    refine zr_goto (pc := 30) (tgt := 4) S dX5_power_30 (by decide) ?_
    exact q
def sp_X5_power (as : List zV) (M : zM) (Q : Option zV → zM → Prop) : Prop := ∃ (n : Nat), as = [zR 59, zI n] ∧ (ICb M) ∧ (n ≤ 3) ∧ Q (some (zL (powM M n))) (M)
theorem us_X5_power {n : Nat} {M : zM} {Q : Option zV → zM → Prop} (hb : ICb M) (hn : n ≤ 3) (h99 : Q (some (zL (powM M n))) (M)) : sp_X5_power [zR 59, zI n] M Q := ⟨n, rfl, hb, hn, h99⟩
set_option maxRecDepth 20000 in
set_option maxHeartbeats 4000000 in
theorem m_X5_power (l : Launch) : zC l yX5_power wzX5_power rmX5_power sp_X5_power := by
  refine zMet.of RX5 (by decide +kernel) rfl rfl ?_
  intro E X as M Qp hX S hsp
  obtain ⟨n, rfl, hb, hn, hQ⟩ := hsp
  refine ⟨Nat.le_of_ble_eq_true rfl, ?_⟩
  dsimp only [zpad, zargs]
  have q := fun u4 u5 => lp_X5_power1 S hb hn hQ ((M 1 5).toNat) 0 u4 u5 (by have := hb.1; omega)
  refine zr_iconst (pc := 0) S dX5_power_0 (by unfold zrI; omega) ?_
  refine zr_istore_n (pc := 1) S 2 dX5_power_1 rfl (by decide) ?_
  dsimp only [zst1, zst2, zset, zget, zlong]
  refine zr_iconst (pc := 2) S dX5_power_2 (by unfold zrI; omega) ?_
  refine zr_istore_n (pc := 3) S 3 dX5_power_3 rfl (by decide) ?_
  dsimp only [zst1, zst2, zset, zget, zlong]
  exact q _ _
/-- what a buyer pays, and what is above the price -/
def payU (M : zM) (b : Nat) : Nat → Int
  | 0 => 0
  | i + 1 => payU M b i + M 4 (M 31 (b * 4 + i)).toNat
def paid (M : zM) (b : Nat) : Int := if ∀ i, i < (M 32 b).toNat → isGood M (M 31 (b * 4 + i)) then payU M b (M 32 b).toNat else 0
def abv (M : zM) (b : Nat) : Int := paid M b - M 29 (M 30 b).toNat
theorem payU_r {M : zM} (hs : ICs M) (hb : ICb M) {b : Nat} (h : b < 5) : ∀ n : Nat, (n : Int) ≤ M 32 b → 0 ≤ payU M b n ∧ payU M b n ≤ 200 * n
  | 0, _ => by simp [payU]
  | n + 1, hn => by
    have a := payU_r hs hb h n (by omega)
    have c := (hb.2.2 b h).2.2.2.2.2.2 n (by omega)
    have v := hs.v c.1 (by omega)
    simp only [payU]
    omega
theorem paid_r {M : zM} (hs : ICs M) (hb : ICb M) {b : Nat} (h : b < 5) : 0 ≤ paid M b ∧ paid M b ≤ 800 := by
  have c := hb.2.2 b h
  have := payU_r hs hb h (M 32 b).toNat (by omega)
  unfold paid
  split <;> omega
theorem abv_r {M : zM} (hs : ICs M) (hb : ICb M) {b : Nat} (h : b < 5) : -500 ≤ abv M b ∧ abv M b ≤ 800 := by
  have a := paid_r hs hb h
  have c := hb.2.2 b h
  have d := hb.2.1 (M 30 b).toNat (by omega)
  unfold abv
  omega
theorem lp_X5_paid {E : zE} {X : zX} {Qp : Option zV → zM → Prop} {M : zM} {b : Nat} (S : zS (zg E) X cX5_paid 5 wzX5_paid RX5 (some .int)) (hs : ICs M) (hb : ICb M) (h5 : b < 5) (hQ : Qp (some (zI (paid M b))) M) : ∀ (m i : Nat) (u4 : Option zV), (m : Int) + i = M 32 b → (∀ j, j < i → isGood M (M 31 (b * 4 + j))) → zK (zg E) rmX5_paid 5 (Qp, 0, 0) X (0, 0) 4 [some (zR 59), some (zI b), some (zI (payU M b i)), some (zI i), u4] [] M := by
  have c := hb.2.2 b h5
  have eb : (b : Int).toNat = b := Int.toNat_natCast b
  intro m
  induction m with
  | zero =>
    intro i u4 hi hg
    have e : i = (M 32 b).toNat := by omega
    have e2 : payU M b i = paid M b := by
      unfold paid
      rw [← e, if_pos hg]
    rw [← e2] at hQ
    refine zr_iload_n (pc := 4) S dX5_paid_4 rfl ?_
    refine zr_aload_n (pc := 5) S dX5_paid_5 rfl ?_
    refine zr_getR (pc := 6) S fX5_paid_28 dX5_paid_6 rfl (Nat.le_of_ble_eq_true rfl) rfl ?_
    refine zr_getR (pc := 9) S fX5_paid_84 dX5_paid_9 rfl (Nat.le_of_ble_eq_true rfl) rfl ?_
    refine zr_iload_n (pc := 12) S dX5_paid_12 rfl ?_
    refine zr_iaload (pc := 13) S dX5_paid_13 rfl (Nat.le_of_ble_eq_true rfl) (by omega) (by omega) ?_
    rw [eb]
    refine zr_icmp_ge (pc := 14) (tgt := 65) S dX5_paid_14 (by decide) (fun c14 => ?_) (fun c14 => absurd c14 (by omega))
    refine zr_iload_n (pc := 65) S dX5_paid_65 rfl ?_
    exact zr_iret (pc := 66) S dX5_paid_66 rfl ⟨Nat.le_refl _, Nat.le_refl _⟩ (hQ)
  | succ m ih =>
    intro i u4 hi hg
    have ci := c.2.2.2.2.2.2 i (by omega)
    have v := hs.v ci.1 (by omega)
    have p := payU_r hs hb h5 i (by omega)
    have ej : ((b : Int) * 4 + i).toNat = b * 4 + i := by omega
    have q := ih (i + 1) (some (zI (M 31 (b * 4 + i)))) (by omega)
    simp only [payU] at q
    refine zr_iload_n (pc := 4) S dX5_paid_4 rfl ?_
    refine zr_aload_n (pc := 5) S dX5_paid_5 rfl ?_
    refine zr_getR (pc := 6) S fX5_paid_28 dX5_paid_6 rfl (Nat.le_of_ble_eq_true rfl) rfl ?_
    refine zr_getR (pc := 9) S fX5_paid_84 dX5_paid_9 rfl (Nat.le_of_ble_eq_true rfl) rfl ?_
    refine zr_iload_n (pc := 12) S dX5_paid_12 rfl ?_
    refine zr_iaload (pc := 13) S dX5_paid_13 rfl (Nat.le_of_ble_eq_true rfl) (by omega) (by omega) ?_
    rw [eb]
    refine zr_icmp_ge (pc := 14) (tgt := 65) S dX5_paid_14 (by decide) (fun c14 => absurd c14 (by omega)) (fun c14 => ?_)
    refine zr_aload_n (pc := 17) S dX5_paid_17 rfl ?_
    refine zr_getR (pc := 18) S fX5_paid_28 dX5_paid_18 rfl (Nat.le_of_ble_eq_true rfl) rfl ?_
    refine zr_getR (pc := 21) S fX5_paid_87 dX5_paid_21 rfl (Nat.le_of_ble_eq_true rfl) rfl ?_
    refine zr_iload_n (pc := 24) S dX5_paid_24 rfl ?_
    refine zr_iconst (pc := 25) S dX5_paid_25 (by unfold zrI; omega) ?_
    refine zr_imul (pc := 26) S dX5_paid_26 (by unfold zrI; omega) ?_
    refine zr_iload_n (pc := 27) S dX5_paid_27 rfl ?_
    refine zr_iadd (pc := 28) S dX5_paid_28 (by unfold zrI; omega) ?_
    refine zr_iaload (pc := 29) S dX5_paid_29 rfl (Nat.le_of_ble_eq_true rfl) (by omega) (by omega) ?_
    rw [ej]
    refine zr_istore (pc := 30) S dX5_paid_30 (by decide) ?_
    dsimp only [zst1, zst2, zset, zget, zlong]
    refine zr_aload_n (pc := 32) S dX5_paid_32 rfl ?_
    refine zr_getR (pc := 33) S fX5_paid_38 dX5_paid_33 rfl (Nat.le_of_ble_eq_true rfl) rfl ?_
    refine zr_iload (pc := 36) S dX5_paid_36 rfl ?_
    refine zr_invV (pc := 38) S [zI _] (m_X7_isGood _) kX5_paid_90 dX5_paid_38 rfl (Nat.le_of_ble_eq_true rfl) rfl (Nat.le_of_ble_eq_true rfl) ⟨Nat.le_of_ble_eq_true rfl, Nat.le_of_ble_eq_true rfl⟩ (us_X7_isGood hs ?_)
    dsimp only [zaft, Option.toList, List.cons_append, List.nil_append, Nat.add_zero]
    refine zr_if_ne (pc := 41) (tgt := 46) S dX5_paid_41 (by decide) (fun c41 => ?_) (fun c41 => ?_)
    · rw [b01_0, Classical.not_not] at c41
      have q0 := q (fun j hj => by
        by_cases hji : j = i
        · rw [hji]; exact c41
        · exact hg j (by omega))
      refine zr_iload_n (pc := 46) S dX5_paid_46 rfl ?_
      refine zr_aload_n (pc := 47) S dX5_paid_47 rfl ?_
      refine zr_getR (pc := 48) S fX5_paid_38 dX5_paid_48 rfl (Nat.le_of_ble_eq_true rfl) rfl ?_
      refine zr_getR (pc := 51) S fX5_paid_96 dX5_paid_51 rfl (Nat.le_of_ble_eq_true rfl) rfl ?_
      refine zr_iload (pc := 54) S dX5_paid_54 rfl ?_
      refine zr_iaload (pc := 56) S dX5_paid_56 rfl (Nat.le_of_ble_eq_true rfl) (by omega) (by omega) ?_
      refine zr_iadd (pc := 57) S dX5_paid_57 (by unfold zrI; omega) ?_
      refine zr_istore_n (pc := 58) S 2 dX5_paid_58 rfl (by decide) ?_
      dsimp only [zst1, zst2, zset, zget, zlong]
      refine zr_iinc (pc := 59) S dX5_paid_59 rfl (by unfold zrI; omega) (by decide) ?_
      dsimp only [zst1, zst2, zset, zget, zlong]
      refine zr_goto (pc := 62) (tgt := 4) S dX5_paid_62 (by decide) ?_
      exact q0
    · rw [b01_0] at c41
      have e0 : paid M b = 0 := by unfold paid; rw [if_neg (fun z => c41 (z i (by omega)))]
      rw [e0] at hQ
      refine zr_iconst (pc := 44) S dX5_paid_44 (by unfold zrI; omega) ?_
      exact zr_iret (pc := 45) S dX5_paid_45 rfl ⟨Nat.le_refl _, Nat.le_refl _⟩ (hQ)
def sp_X5_paid (as : List zV) (M : zM) (Q : Option zV → zM → Prop) : Prop := ∃ (b : Nat), as = [zR 59, zI b] ∧ (ICs M) ∧ (ICb M) ∧ (b < 5) ∧ Q (some (zI (paid M b))) (M)
theorem us_X5_paid {b : Nat} {M : zM} {Q : Option zV → zM → Prop} (hs : ICs M) (hb : ICb M) (h5 : b < 5) (h99 : Q (some (zI (paid M b))) (M)) : sp_X5_paid [zR 59, zI b] M Q := ⟨b, rfl, hs, hb, h5, h99⟩
set_option maxRecDepth 20000 in
set_option maxHeartbeats 4000000 in
theorem m_X5_paid (l : Launch) : zC l yX5_paid wzX5_paid rmX5_paid sp_X5_paid := by
  refine zMet.of RX5 (by decide +kernel) rfl rfl ?_
  intro E X as M Qp hX S hsp
  obtain ⟨b, rfl, hs, hb, h5, hQ⟩ := hsp
  refine ⟨Nat.le_of_ble_eq_true rfl, ?_⟩
  dsimp only [zpad, zargs]
  have q := fun u4 => lp_X5_paid S hs hb h5 hQ (M 32 b).toNat 0 u4 (by have := hb.2.2 b h5; omega) (fun j hj => by omega)
  refine zr_iconst (pc := 0) S dX5_paid_0 (by unfold zrI; omega) ?_
  refine zr_istore_n (pc := 1) S 2 dX5_paid_1 rfl (by decide) ?_
  dsimp only [zst1, zst2, zset, zget, zlong]
  refine zr_iconst (pc := 2) S dX5_paid_2 (by unfold zrI; omega) ?_
  refine zr_istore_n (pc := 3) S 3 dX5_paid_3 rfl (by decide) ?_
  dsimp only [zst1, zst2, zset, zget, zlong]
  exact q _
/-- what the season's rows begin with -/
def begM (M : zM) (a b : Nat) : zM := fun k j => if k = 60 ∧ j < a then M 19 j else if k = 61 ∧ j < b then abv M j else M k j
theorem begM_o {M : zM} {a b : Nat} (k : Nat) (h1 : k ≠ 60) (h2 : k ≠ 61) : begM M a b k = M k := by
  funext j
  simp [begM, h1, h2]
theorem begM_h (M : zM) (i : Nat) : zup (begM M i 0) 60 i (M 19 i) = begM M (i + 1) 0 := by
  funext k' j
  simp only [zup, begM]
  by_cases h : k' = 60
  · subst h
    by_cases h2 : j = i
    · subst h2; simp
    · by_cases h3 : j < i
      · have : j < i + 1 := by omega
        simp [h2, h3, this]
      · have : ¬ j < i + 1 := by omega
        simp [h2, h3, this]
  · simp [h]
theorem begM_a (M : zM) (i : Nat) : zup (begM M 8 i) 61 i (abv M i) = begM M 8 (i + 1) := by
  funext k' j
  simp only [zup, begM]
  by_cases h : k' = 61
  · subst h
    by_cases h2 : j = i
    · subst h2; simp
    · by_cases h3 : j < i
      · have : j < i + 1 := by omega
        simp [h2, h3, this]
      · have : ¬ j < i + 1 := by omega
        simp [h2, h3, this]
  · simp [h]
theorem AG.k {M N : zM} (h : AG M N) : ∀ k, k < 11 → N k = M k := fun k hk => h k (by omega)
theorem ag_payU {M N : zM} (h : AG M N) (b : Nat) : ∀ n, payU N b n = payU M b n
  | 0 => rfl
  | n + 1 => by
    simp only [payU]
    rw [ag_payU h b n, h 31 (by decide), h 4 (by decide)]
theorem ag_paid {M N : zM} (h : AG M N) (b : Nat) : paid N b = paid M b := by
  have g : ∀ k : Int, isGood N k = isGood M k := fun k => propext (ag_isGood h.k k)
  have e : (∀ i, i < (N 32 b).toNat → isGood N (N 31 (b * 4 + i))) ↔ (∀ i, i < (M 32 b).toNat → isGood M (M 31 (b * 4 + i))) := by
    rw [h 32 (by decide)]
    constructor
    · intro z i hi
      have := z i hi
      rw [h 31 (by decide), g] at this
      exact this
    · intro z i hi
      rw [h 31 (by decide), g]
      exact z i hi
  unfold paid
  by_cases c : ∀ i, i < (M 32 b).toNat → isGood M (M 31 (b * 4 + i))
  · rw [if_pos c, if_pos (e.mpr c), ag_payU h, h 32 (by decide)]
  · rw [if_neg c, if_neg (fun z => c (e.mp z))]
theorem ag_abv {M N : zM} (h : AG M N) (b : Nat) : abv N b = abv M b := by
  unfold abv
  rw [ag_paid h, h 29 (by decide), h 30 (by decide)]
theorem AG.b {M N : zM} (h : AG M N) (hb : ICb M) : ICb N := by
  unfold ICb at *
  rw [h 1 (by decide), h 29 (by decide), h 30 (by decide), h 32 (by decide), h 33 (by decide), h 31 (by decide)]
  exact hb
theorem ag_beg {M : zM} {a b : Nat} : AG M (begM M a b) := fun k hk => begM_o k (by omega) (by omega)
theorem lp_X5_begin2 {E : zE} {X : zX} {Qp : Option zV → zM → Prop} {M : zM} (S : zS (zg E) X cX5_begin 2 wzX5_begin RX5 none) (hs : ICs M) (hb : ICb M) (hQ : Qp none (begM M 8 ((M 1 5).toNat))) : ∀ (m i : Nat), (m : Int) + i = M 1 5 → zK (zg E) rmX5_begin 2 (Qp, 0, 0) X (0, 0) 34 [some (zR 59), some (zI i)] [] (begM M 8 i) := by
  have h1 := hb.1
  intro m
  induction m with
  | zero =>
    intro i hi
    have e : i = (M 1 5).toNat := by omega
    have e2 : begM M 8 i 1 = M 1 := begM_o _ (by decide) (by decide)
    rw [← e] at hQ
    refine zr_iload_n (pc := 34) S dX5_begin_34 rfl ?_
    refine zr_aload_n (pc := 35) S dX5_begin_35 rfl ?_
    refine zr_getR (pc := 36) S fX5_begin_28 dX5_begin_36 rfl (Nat.le_of_ble_eq_true rfl) rfl ?_
    refine zr_getI (pc := 39) S fX5_begin_70 dX5_begin_39 rfl (Nat.le_of_ble_eq_true rfl) rfl ?_
    rw [e2]
    refine zr_icmp_ge (pc := 42) (tgt := 80) S dX5_begin_42 (by decide) (fun c42 => ?_) (fun c42 => absurd c42 (by omega))
    exact zr_vret (pc := 80) S dX5_begin_80 rfl ⟨Nat.le_refl _, Nat.le_refl _⟩ (hQ)
  | succ m ih =>
    intro i hi
    have e2 : begM M 8 i 1 = M 1 := begM_o _ (by decide) (by decide)
    have e3 : begM M 8 i 30 = M 30 := begM_o _ (by decide) (by decide)
    have e4 : begM M 8 i 29 = M 29 := begM_o _ (by decide) (by decide)
    have e : (i : Int).toNat = i := Int.toNat_natCast i
    have c := hb.2.2 i (by omega)
    have p := paid_r hs hb (b := i) (by omega)
    have d := hb.2.1 (M 30 i).toNat (by omega)
    have ea : paid M i - M 29 (M 30 i).toNat = abv M i := rfl
    have q := ih (i + 1) (by omega)
    rw [← begM_a] at q
    refine zr_iload_n (pc := 34) S dX5_begin_34 rfl ?_
    refine zr_aload_n (pc := 35) S dX5_begin_35 rfl ?_
    refine zr_getR (pc := 36) S fX5_begin_28 dX5_begin_36 rfl (Nat.le_of_ble_eq_true rfl) rfl ?_
    refine zr_getI (pc := 39) S fX5_begin_70 dX5_begin_39 rfl (Nat.le_of_ble_eq_true rfl) rfl ?_
    rw [e2]
    refine zr_icmp_ge (pc := 42) (tgt := 80) S dX5_begin_42 (by decide) (fun c42 => absurd c42 (by omega)) (fun c42 => ?_)
    refine zr_aload_n (pc := 45) S dX5_begin_45 rfl ?_
    refine zr_getR (pc := 46) S fX5_begin_15 dX5_begin_46 rfl (Nat.le_of_ble_eq_true rfl) rfl ?_
    refine zr_iload_n (pc := 49) S dX5_begin_49 rfl ?_
    refine zr_aload_n (pc := 50) S dX5_begin_50 rfl ?_
    refine zr_iload_n (pc := 51) S dX5_begin_51 rfl ?_
    refine zr_invV (pc := 52) S [zI _] (m_X5_paid _) kX5_begin_74 dX5_begin_52 rfl (Nat.le_of_ble_eq_true rfl) rfl (Nat.le_of_ble_eq_true rfl) ⟨Nat.le_of_ble_eq_true rfl, Nat.le_of_ble_eq_true rfl⟩ (us_X5_paid (ag_beg.s hs) (ag_beg.b hb) (by omega) ?_)
    dsimp only [zaft, Option.toList, List.cons_append, List.nil_append, Nat.add_zero]
    rw [ag_paid ag_beg]
    refine zr_aload_n (pc := 55) S dX5_begin_55 rfl ?_
    refine zr_getR (pc := 56) S fX5_begin_28 dX5_begin_56 rfl (Nat.le_of_ble_eq_true rfl) rfl ?_
    refine zr_getR (pc := 59) S fX5_begin_78 dX5_begin_59 rfl (Nat.le_of_ble_eq_true rfl) rfl ?_
    refine zr_aload_n (pc := 62) S dX5_begin_62 rfl ?_
    refine zr_getR (pc := 63) S fX5_begin_28 dX5_begin_63 rfl (Nat.le_of_ble_eq_true rfl) rfl ?_
    refine zr_getR (pc := 66) S fX5_begin_81 dX5_begin_66 rfl (Nat.le_of_ble_eq_true rfl) rfl ?_
    refine zr_iload_n (pc := 69) S dX5_begin_69 rfl ?_
    refine zr_iaload (pc := 70) S dX5_begin_70 rfl (Nat.le_of_ble_eq_true rfl) (by omega) (by omega) ?_
    rw [e, e3]
    refine zr_iaload (pc := 71) S dX5_begin_71 rfl (Nat.le_of_ble_eq_true rfl) (by omega) (by omega) ?_
    rw [e4]
    refine zr_isub (pc := 72) S dX5_begin_72 (by unfold zrI; omega) ?_
    rw [ea]
    refine zr_iastore (pc := 73) S dX5_begin_73 rfl (Nat.le_of_ble_eq_true rfl) (by omega) (by omega) ?_
    rw [e]
    refine zr_iinc (pc := 74) S dX5_begin_74 rfl (by unfold zrI; omega) (by decide) ?_
    dsimp only [zst1, zst2, zset, zget, zlong]
    refine zr_goto (pc := 77) (tgt := 34) S dX5_begin_77 (by decide) ?_
    exact q
theorem lp_X5_begin1 {E : zE} {X : zX} {Qp : Option zV → zM → Prop} {M : zM} (S : zS (zg E) X cX5_begin 2 wzX5_begin RX5 none) (hs : ICs M) (hb : ICb M) (hQ : Qp none (begM M 8 ((M 1 5).toNat))) : ∀ (m i : Nat), m + i = 8 → zK (zg E) rmX5_begin 2 (Qp, 0, 0) X (0, 0) 2 [some (zR 59), some (zI i)] [] (begM M i 0) := by
  intro m
  induction m with
  | zero =>
    intro i hi
    have e : i = 8 := by omega
    subst e
    have q := lp_X5_begin2 S hs hb hQ ((M 1 5).toNat) 0 (by have := hb.1; omega)
    refine zr_iload_n (pc := 2) S dX5_begin_2 rfl ?_
    refine zr_bipush (pc := 3) S dX5_begin_3 ⟨by unfold zrI; omega, by decide⟩ ?_
    refine zr_icmp_ge (pc := 5) (tgt := 32) S dX5_begin_5 (by decide) (fun c5 => ?_) (fun c5 => absurd c5 (by omega))
    refine zr_iconst (pc := 32) S dX5_begin_32 (by unfold zrI; omega) ?_
    refine zr_istore_n (pc := 33) S 1 dX5_begin_33 rfl (by decide) ?_
    dsimp only [zst1, zst2, zset, zget, zlong]
    exact q
  | succ m ih =>
    intro i hi
    have e : (i : Int).toNat = i := Int.toNat_natCast i
    have e2 : begM M i 0 19 = M 19 := begM_o _ (by decide) (by decide)
    have q := ih (i + 1) (by omega)
    rw [← begM_h] at q
    refine zr_iload_n (pc := 2) S dX5_begin_2 rfl ?_
    refine zr_bipush (pc := 3) S dX5_begin_3 ⟨by unfold zrI; omega, by decide⟩ ?_
    refine zr_icmp_ge (pc := 5) (tgt := 32) S dX5_begin_5 (by decide) (fun c5 => absurd c5 (by omega)) (fun c5 => ?_)
    refine zr_aload_n (pc := 8) S dX5_begin_8 rfl ?_
    refine zr_getR (pc := 9) S fX5_begin_9 dX5_begin_9 rfl (Nat.le_of_ble_eq_true rfl) rfl ?_
    refine zr_iload_n (pc := 12) S dX5_begin_12 rfl ?_
    refine zr_aload_n (pc := 13) S dX5_begin_13 rfl ?_
    refine zr_getR (pc := 14) S fX5_begin_28 dX5_begin_14 rfl (Nat.le_of_ble_eq_true rfl) rfl ?_
    refine zr_getR (pc := 17) S fX5_begin_63 dX5_begin_17 rfl (Nat.le_of_ble_eq_true rfl) rfl ?_
    refine zr_getR (pc := 20) S fX5_begin_67 dX5_begin_20 rfl (Nat.le_of_ble_eq_true rfl) rfl ?_
    refine zr_iload_n (pc := 23) S dX5_begin_23 rfl ?_
    refine zr_iaload (pc := 24) S dX5_begin_24 rfl (Nat.le_of_ble_eq_true rfl) (by omega) (by omega) ?_
    rw [e, e2]
    refine zr_iastore (pc := 25) S dX5_begin_25 rfl (Nat.le_of_ble_eq_true rfl) (by omega) (by omega) ?_
    rw [e]
    refine zr_iinc (pc := 26) S dX5_begin_26 rfl (by unfold zrI; omega) (by decide) ?_
    dsimp only [zst1, zst2, zset, zget, zlong]
    refine zr_goto (pc := 29) (tgt := 2) S dX5_begin_29 (by decide) ?_
    exact q
def sp_X5_begin (as : List zV) (M : zM) (Q : Option zV → zM → Prop) : Prop := as = [zR 59] ∧ (ICs M) ∧ (ICb M) ∧ Q (none) (begM M 8 ((M 1 5).toNat))
theorem us_X5_begin  {M : zM} {Q : Option zV → zM → Prop} (hs : ICs M) (hb : ICb M) (h99 : Q (none) (begM M 8 ((M 1 5).toNat))) : sp_X5_begin [zR 59] M Q := ⟨rfl, hs, hb, h99⟩
set_option maxRecDepth 20000 in
set_option maxHeartbeats 4000000 in
theorem m_X5_begin (l : Launch) : zC l yX5_begin wzX5_begin rmX5_begin sp_X5_begin := by
  refine zMet.of RX5 (by decide +kernel) rfl rfl ?_
  intro E X as M Qp hX S hsp
  obtain ⟨rfl, hs, hb, hQ⟩ := hsp
  refine ⟨Nat.le_of_ble_eq_true rfl, ?_⟩
  dsimp only [zpad, zargs]
  have e0 : begM M 0 0 = M := by funext k j; simp [begM]
  have q := lp_X5_begin1 S hs hb hQ 8 0 (by omega)
  rw [e0] at q
  refine zr_iconst (pc := 0) S dX5_begin_0 (by unfold zrI; omega) ?_
  refine zr_istore_n (pc := 1) S 1 dX5_begin_1 rfl (by decide) ?_
  dsimp only [zst1, zst2, zset, zget, zlong]
  exact q
/-- what is kept of a sale -/
def ksM (M : zM) (t b n : Nat) : zM := fun k j => if k = 64 ∧ (t * 5 + b) * 3 ≤ j ∧ j < (t * 5 + b) * 3 + n then M 63 ((t + 1) * 4 + (j - (t * 5 + b) * 3)) else M k j
theorem ksM_o {M : zM} {t b n : Nat} (k : Nat) (h1 : k ≠ 64) : ksM M t b n k = M k := by
  funext j
  simp [ksM, h1]
theorem ksM_s (M : zM) (t b i : Nat) : zup (ksM M t b i) 64 ((t * 5 + b) * 3 + i) (M 63 ((t + 1) * 4 + i)) = ksM M t b (i + 1) := by
  funext k' j
  simp only [zup, ksM]
  by_cases h : k' = 64
  · subst h
    by_cases h2 : j = (t * 5 + b) * 3 + i
    · subst h2
      rw [if_pos rfl, if_pos rfl, if_pos ⟨rfl, by omega, by omega⟩, show (t * 5 + b) * 3 + i - (t * 5 + b) * 3 = i by omega]
    · rw [if_pos rfl, if_neg h2]
      by_cases h3 : (t * 5 + b) * 3 ≤ j ∧ j < (t * 5 + b) * 3 + i
      · rw [if_pos ⟨rfl, h3⟩, if_pos ⟨rfl, h3.1, by omega⟩]
      · rw [if_neg (fun z => h3 z.2), if_neg (fun z => h3 ⟨z.2.1, by omega⟩)]
  · simp [h]
theorem lp_X5_keep {E : zE} {X : zX} {Qp : Option zV → zM → Prop} {M : zM} {t b n : Nat} (S : zS (zg E) X cX5_keepServed 7 wzX5_keepServed RX5 none) (ht : t < 3) (hb : b < 5) (hn : n ≤ 3) (hQ : Qp none (ksM M t b n)) : ∀ (m i : Nat), m + i = n → zK (zg E) rmX5_keepServed 7 (Qp, 0, 0) X (0, 0) 19 [some (zR 59), some (zI t), some (zI b), some (zI n), some (zI (((t : Int) + 1) * 4)), some (zI (((t : Int) * 5 + b) * 3)), some (zI i)] [] (ksM M t b i) := by
  intro m
  induction m with
  | zero =>
    intro i hi
    have e : i = n := by omega
    subst e
    refine zr_iload (pc := 19) S dX5_keepServed_19 rfl ?_
    refine zr_iload_n (pc := 21) S dX5_keepServed_21 rfl ?_
    refine zr_icmp_ge (pc := 22) (tgt := 51) S dX5_keepServed_22 (by decide) (fun c22 => ?_) (fun c22 => absurd c22 (by omega))
    exact zr_vret (pc := 51) S dX5_keepServed_51 rfl ⟨Nat.le_refl _, Nat.le_refl _⟩ (hQ)
  | succ m ih =>
    intro i hi
    have e1 : (((t : Int) + 1) * 4 + i).toNat = (t + 1) * 4 + i := by omega
    have e2 : (((t : Int) * 5 + b) * 3 + i).toNat = (t * 5 + b) * 3 + i := by omega
    have e3 : ksM M t b i 63 = M 63 := ksM_o _ (by decide)
    have q := ih (i + 1) (by omega)
    rw [← ksM_s] at q
    refine zr_iload (pc := 19) S dX5_keepServed_19 rfl ?_
    refine zr_iload_n (pc := 21) S dX5_keepServed_21 rfl ?_
    refine zr_icmp_ge (pc := 22) (tgt := 51) S dX5_keepServed_22 (by decide) (fun c22 => absurd c22 (by omega)) (fun c22 => ?_)
    refine zr_aload_n (pc := 25) S dX5_keepServed_25 rfl ?_
    refine zr_getR (pc := 26) S fX5_keepServed_25 dX5_keepServed_26 rfl (Nat.le_of_ble_eq_true rfl) rfl ?_
    refine zr_iload (pc := 29) S dX5_keepServed_29 rfl ?_
    refine zr_iload (pc := 31) S dX5_keepServed_31 rfl ?_
    refine zr_iadd (pc := 33) S dX5_keepServed_33 (by unfold zrI; omega) ?_
    refine zr_aload_n (pc := 34) S dX5_keepServed_34 rfl ?_
    refine zr_getR (pc := 35) S fX5_keepServed_22 dX5_keepServed_35 rfl (Nat.le_of_ble_eq_true rfl) rfl ?_
    refine zr_iload (pc := 38) S dX5_keepServed_38 rfl ?_
    refine zr_iload (pc := 40) S dX5_keepServed_40 rfl ?_
    refine zr_iadd (pc := 42) S dX5_keepServed_42 (by unfold zrI; omega) ?_
    refine zr_laload (pc := 43) S dX5_keepServed_43 rfl (Nat.le_of_ble_eq_true rfl) (by omega) (by omega) ?_
    rw [e1, e3]
    refine zr_lastore (pc := 44) S dX5_keepServed_44 rfl (Nat.le_of_ble_eq_true rfl) (by omega) (by omega) ?_
    rw [e2]
    refine zr_iinc (pc := 45) S dX5_keepServed_45 rfl (by unfold zrI; omega) (by decide) ?_
    dsimp only [zst1, zst2, zset, zget, zlong]
    refine zr_goto (pc := 48) (tgt := 19) S dX5_keepServed_48 (by decide) ?_
    exact q
def sp_X5_keepServed (as : List zV) (M : zM) (Q : Option zV → zM → Prop) : Prop := ∃ (t b n : Nat), as = [zR 59, zI t, zI b, zI n] ∧ (t < 3) ∧ (b < 5) ∧ (n ≤ 3) ∧ Q (none) (ksM M t b n)
theorem us_X5_keepServed {t b n : Nat} {M : zM} {Q : Option zV → zM → Prop} (ht : t < 3) (hb : b < 5) (hn : n ≤ 3) (h99 : Q (none) (ksM M t b n)) : sp_X5_keepServed [zR 59, zI t, zI b, zI n] M Q := ⟨t, b, n, rfl, ht, hb, hn, h99⟩
set_option maxRecDepth 20000 in
set_option maxHeartbeats 4000000 in
theorem m_X5_keepServed (l : Launch) : zC l yX5_keepServed wzX5_keepServed rmX5_keepServed sp_X5_keepServed := by
  refine zMet.of RX5 (by decide +kernel) rfl rfl ?_
  intro E X as M Qp hX S hsp
  obtain ⟨t, b, n, rfl, ht, hb, hn, hQ⟩ := hsp
  refine ⟨Nat.le_of_ble_eq_true rfl, ?_⟩
  dsimp only [zpad, zargs]
  have e0 : ksM M t b 0 = M := by
    funext k j
    simp only [ksM]
    rw [if_neg (by omega)]
  have q := lp_X5_keep S ht hb hn hQ n 0 (by omega)
  rw [e0] at q
  refine zr_iload_n (pc := 0) S dX5_keepServed_0 rfl ?_
  refine zr_iconst (pc := 1) S dX5_keepServed_1 (by unfold zrI; omega) ?_
  refine zr_iadd (pc := 2) S dX5_keepServed_2 (by unfold zrI; omega) ?_
  refine zr_iconst (pc := 3) S dX5_keepServed_3 (by unfold zrI; omega) ?_
  refine zr_imul (pc := 4) S dX5_keepServed_4 (by unfold zrI; omega) ?_
  refine zr_istore (pc := 5) S dX5_keepServed_5 (by decide) ?_
  dsimp only [zst1, zst2, zset, zget, zlong]
  refine zr_iload_n (pc := 7) S dX5_keepServed_7 rfl ?_
  refine zr_iconst (pc := 8) S dX5_keepServed_8 (by unfold zrI; omega) ?_
  refine zr_imul (pc := 9) S dX5_keepServed_9 (by unfold zrI; omega) ?_
  refine zr_iload_n (pc := 10) S dX5_keepServed_10 rfl ?_
  refine zr_iadd (pc := 11) S dX5_keepServed_11 (by unfold zrI; omega) ?_
  refine zr_iconst (pc := 12) S dX5_keepServed_12 (by unfold zrI; omega) ?_
  refine zr_imul (pc := 13) S dX5_keepServed_13 (by unfold zrI; omega) ?_
  refine zr_istore (pc := 14) S dX5_keepServed_14 (by decide) ?_
  dsimp only [zst1, zst2, zset, zget, zlong]
  refine zr_iconst (pc := 16) S dX5_keepServed_16 (by unfold zrI; omega) ?_
  refine zr_istore (pc := 17) S dX5_keepServed_17 (by decide) ?_
  dsimp only [zst1, zst2, zset, zget, zlong]
  exact q
end
