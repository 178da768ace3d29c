section
/-- n places of the cell c, from a on, are 0 -/
def zfl0 (M : zM) (c a n : Nat) : zM := fun k j => if k = c ∧ a ≤ j ∧ j < a + n then 0 else M k j
theorem zfl0_0 {M : zM} {c a : Nat} : zfl0 M c a 0 = M := by
  funext k j
  unfold zfl0
  rw [if_neg (by omega)]
theorem zfl0_s {M : zM} {c a n : Nat} : zup (zfl0 M c a n) c (a + n) 0 = zfl0 M c a (n + 1) := by
  funext k j
  unfold zup zfl0
  by_cases h : k = c
  · rw [if_pos h]
    by_cases h2 : j = a + n
    · rw [if_pos h2, if_pos (by omega)]
    · rw [if_neg h2]
      by_cases h3 : a ≤ j ∧ j < a + n
      · rw [if_pos (by omega), if_pos (by omega)]
      · rw [if_neg (by omega), if_neg (by omega)]
  · rw [if_neg h, if_neg (by omega), if_neg (by omega)]
def rmX12_sort : Room := { frames := 1, cells := 0, slots := 0, locals := 25 }
abbrev wzX12_sort : List Cond := .code yX12_sort cX12_sort 6 (some .int) :: zW
def rmX12_span : Room := { frames := 3, cells := 0, slots := 0, locals := 68 }
abbrev wzX12_span : List Cond := .code yX12_span cX12_span 5 none :: zW
def rmX12_wear : Room := { frames := 3, cells := 0, slots := 0, locals := 68 }
abbrev wzX12_wear : List Cond := .code yX12_wear cX12_wear 3 (some .int) :: zW
def rmX12_flow : Room := { frames := 3, cells := 0, slots := 0, locals := 68 }
abbrev wzX12_flow : List Cond := .code yX12_flow cX12_flow 3 (some .int) :: zW
def rmX12_set : Room := { frames := 1, cells := 0, slots := 0, locals := 25 }
abbrev wzX12_set : List Cond := .code yX12_set cX12_set 5 (some .int) :: zW
def rmX12_good : Room := { frames := 4, cells := 0, slots := 0, locals := 89 }
abbrev wzX12_good : List Cond := .code yX12_good cX12_good 2 (some .boolean) :: zW
def rmX12_coins : Room := { frames := 3, cells := 0, slots := 0, locals := 70 }
abbrev wzX12_coins : List Cond := .code yX12_coins cX12_coins 2 (some .long) :: zW
def rmX12_isGate : Room := { frames := 2, cells := 0, slots := 0, locals := 47 }
abbrev wzX12_isGate : List Cond := .code yX12_isGate cX12_isGate 2 (some .boolean) :: zW
def rmX12_gate : Room := { frames := 3, cells := 0, slots := 0, locals := 68 }
abbrev wzX12_gate : List Cond := .code yX12_gate cX12_gate 3 (some .int) :: zW
def rmX12_isOffer : Room := { frames := 2, cells := 0, slots := 0, locals := 47 }
abbrev wzX12_isOffer : List Cond := .code yX12_isOffer cX12_isOffer 2 (some .boolean) :: zW
def rmX12_offer : Room := { frames := 1, cells := 0, slots := 0, locals := 25 }
abbrev wzX12_offer : List Cond := .code yX12_offer cX12_offer 2 (some .int) :: zW
def rmX12_price : Room := { frames := 3, cells := 0, slots := 0, locals := 68 }
abbrev wzX12_price : List Cond := .code yX12_price cX12_price 3 (some .int) :: zW
def rmX12_tubeAt : Room := { frames := 0, cells := 0, slots := 0, locals := 0 }
abbrev wzX12_tubeAt : List Cond := .code yX12_tubeAt cX12_tubeAt 2 (some .int) :: zW
def rmX12_bag : Room := { frames := 3, cells := 0, slots := 0, locals := 68 }
abbrev wzX12_bag : List Cond := .code yX12_bag cX12_bag 2 (some .int) :: zW
def rmX12_lies : Room := { frames := 0, cells := 0, slots := 0, locals := 0 }
abbrev wzX12_lies : List Cond := .code yX12_lies cX12_lies 3 (some .int) :: zW
def rmX12_creditOf : Room := { frames := 1, cells := 0, slots := 0, locals := 22 }
abbrev wzX12_creditOf : List Cond := .code yX12_creditOf cX12_creditOf 3 (some .int) :: zW
def rmX12_credit : Room := { frames := 2, cells := 0, slots := 0, locals := 44 }
abbrev wzX12_credit : List Cond := .code yX12_credit cX12_credit 1 (some .int) :: zW
def rmX12_given : Room := { frames := 2, cells := 0, slots := 0, locals := 47 }
abbrev wzX12_given : List Cond := .code yX12_given cX12_given 2 (some .int) :: zW
def rmX12_gives : Room := { frames := 0, cells := 0, slots := 0, locals := 0 }
abbrev wzX12_gives : List Cond := .code yX12_gives cX12_gives 2 none :: zW
def rmX12_cost : Room := { frames := 1, cells := 0, slots := 0, locals := 25 }
abbrev wzX12_cost : List Cond := .code yX12_cost cX12_cost 3 (some .int) :: zW
def rmX12_due : Room := { frames := 0, cells := 0, slots := 0, locals := 0 }
abbrev wzX12_due : List Cond := .code yX12_due cX12_due 2 (some .int) :: zW
def rmX12_machine : Room := { frames := 1, cells := 0, slots := 0, locals := 25 }
abbrev wzX12_machine : List Cond := .code yX12_machine cX12_machine 3 (some .int) :: zW
def rmX12_count : Room := { frames := 1, cells := 0, slots := 0, locals := 25 }
abbrev wzX12_count : List Cond := .code yX12_count cX12_count 2 (some .int) :: zW
def rmX12_fault : Room := { frames := 0, cells := 0, slots := 0, locals := 0 }
abbrev wzX12_fault : List Cond := .code yX12_fault cX12_fault 2 (some .int) :: zW
def rmX12_isTray : Room := { frames := 1, cells := 0, slots := 0, locals := 25 }
abbrev wzX12_isTray : List Cond := .code yX12_isTray cX12_isTray 1 (some .boolean) :: zW
theorem pX12_sort_80 : zfp wzX12_sort RX12 vwCl 80 12 3 := ⟨_, _, _, _, rfl, (fun w h => List.mem_cons_of_mem _ (zWuX12 w h)), by decide, List.mem_cons_of_mem _ (zWi_9 _ (List.mem_of_getElem? (i := 38) rfl)), tyX12_ok, nmX12, rfl, by decide +kernel⟩
theorem fX12_sort_9 : zfl wzX12_sort RX12 vwCl 9 12 0 := ⟨_, _, _, rfl, (fun w h => List.mem_cons_of_mem _ (zWuX12 w h)), by decide, List.mem_cons_of_mem _ (zWi_9 _ (List.mem_of_getElem? (i := 39) rfl))⟩
theorem kX12_sort_83 : ∀ (s9 : State) (a9 : Array Value), (∀ w ∈ wzX12_sort, w.before a9 s9 = true) → CallB rmX12_sort s9 a9 RX12 83 yX12_within cX12_within 6 (some .boolean) wzX12_within rmX12_within 0 0 3 ∧ (Cond.static yX12_within).before a9 s9 = true := zcS (zWi_23 _ (List.mem_of_getElem? (i := 24) rfl)) (zWi_31 _ (List.mem_of_getElem? (i := 13) rfl)) (zWi_12 _ (List.mem_of_getElem? (i := 13) rfl)) (zWi_4 _ (List.mem_of_getElem? (i := 16) rfl)) (by decide +kernel) rfl rfl ⟨Nat.le_of_ble_eq_true rfl, Nat.le_of_ble_eq_true rfl⟩
theorem kX12_sort_95 : ∀ (s9 : State) (a9 : Array Value), (∀ w ∈ wzX12_sort, w.before a9 s9 = true) → CallW rmX12_sort s9 a9 RX12 RX12 95 yX12_fails cX12_fails 2 (some .int) wzX12_fails rmX12_fails 0 0 1 := zcV (zWi_23 _ (List.mem_of_getElem? (i := 26) rfl)) (zWi_14 _ (List.mem_of_getElem? (i := 10) rfl)) (zWi_27 _ (List.mem_of_getElem? (i := 2) rfl)) (zWi_12 _ (List.mem_of_getElem? (i := 13) rfl)) (zWi_2 _ (List.mem_of_getElem? (i := 39) rfl)) (by decide +kernel) rfl rfl ⟨Nat.le_of_ble_eq_true rfl, Nat.le_of_ble_eq_true rfl⟩
theorem pX12_span_80 : zfp wzX12_span RX12 vwCl 80 12 3 := ⟨_, _, _, _, rfl, (fun w h => List.mem_cons_of_mem _ (zWuX12 w h)), by decide, List.mem_cons_of_mem _ (zWi_9 _ (List.mem_of_getElem? (i := 38) rfl)), tyX12_ok, nmX12, rfl, by decide +kernel⟩
theorem fX12_span_80 : zfl wzX12_span RX12 vwCl 80 12 3 := ⟨_, _, _, rfl, (fun w h => List.mem_cons_of_mem _ (zWuX12 w h)), by decide, List.mem_cons_of_mem _ (zWi_9 _ (List.mem_of_getElem? (i := 38) rfl))⟩
theorem fX12_span_9 : zfl wzX12_span RX12 vwCl 9 12 0 := ⟨_, _, _, rfl, (fun w h => List.mem_cons_of_mem _ (zWuX12 w h)), by decide, List.mem_cons_of_mem _ (zWi_9 _ (List.mem_of_getElem? (i := 39) rfl))⟩
theorem kX12_span_99 : ∀ (s9 : State) (a9 : Array Value), (∀ w ∈ wzX12_span, w.before a9 s9 = true) → CallW rmX12_span s9 a9 RX12 RX12 99 yX12_isSort cX12_isSort 2 (some .boolean) wzX12_isSort rmX12_isSort 0 0 1 := zcV (zWi_23 _ (List.mem_of_getElem? (i := 27) rfl)) (zWi_14 _ (List.mem_of_getElem? (i := 30) rfl)) (zWi_27 _ (List.mem_of_getElem? (i := 21) rfl)) (zWi_12 _ (List.mem_of_getElem? (i := 13) rfl)) (zWi_3 _ (List.mem_of_getElem? (i := 11) rfl)) (by decide +kernel) rfl rfl ⟨Nat.le_of_ble_eq_true rfl, Nat.le_of_ble_eq_true rfl⟩
theorem kX12_span_83 : ∀ (s9 : State) (a9 : Array Value), (∀ w ∈ wzX12_span, w.before a9 s9 = true) → CallB rmX12_span s9 a9 RX12 83 yX12_within cX12_within 6 (some .boolean) wzX12_within rmX12_within 0 0 3 ∧ (Cond.static yX12_within).before a9 s9 = true := zcS (zWi_23 _ (List.mem_of_getElem? (i := 24) rfl)) (zWi_31 _ (List.mem_of_getElem? (i := 13) rfl)) (zWi_12 _ (List.mem_of_getElem? (i := 13) rfl)) (zWi_4 _ (List.mem_of_getElem? (i := 16) rfl)) (by decide +kernel) rfl rfl ⟨Nat.le_of_ble_eq_true rfl, Nat.le_of_ble_eq_true rfl⟩
theorem pX12_wear_80 : zfp wzX12_wear RX12 vwCl 80 12 3 := ⟨_, _, _, _, rfl, (fun w h => List.mem_cons_of_mem _ (zWuX12 w h)), by decide, List.mem_cons_of_mem _ (zWi_9 _ (List.mem_of_getElem? (i := 38) rfl)), tyX12_ok, nmX12, rfl, by decide +kernel⟩
theorem kX12_wear_99 : ∀ (s9 : State) (a9 : Array Value), (∀ w ∈ wzX12_wear, w.before a9 s9 = true) → CallW rmX12_wear s9 a9 RX12 RX12 99 yX12_isSort cX12_isSort 2 (some .boolean) wzX12_isSort rmX12_isSort 0 0 1 := zcV (zWi_23 _ (List.mem_of_getElem? (i := 27) rfl)) (zWi_14 _ (List.mem_of_getElem? (i := 30) rfl)) (zWi_27 _ (List.mem_of_getElem? (i := 21) rfl)) (zWi_12 _ (List.mem_of_getElem? (i := 13) rfl)) (zWi_3 _ (List.mem_of_getElem? (i := 11) rfl)) (by decide +kernel) rfl rfl ⟨Nat.le_of_ble_eq_true rfl, Nat.le_of_ble_eq_true rfl⟩
theorem kX12_wear_95 : ∀ (s9 : State) (a9 : Array Value), (∀ w ∈ wzX12_wear, w.before a9 s9 = true) → CallW rmX12_wear s9 a9 RX12 RX12 95 yX12_fails cX12_fails 2 (some .int) wzX12_fails rmX12_fails 0 0 1 := zcV (zWi_23 _ (List.mem_of_getElem? (i := 26) rfl)) (zWi_14 _ (List.mem_of_getElem? (i := 10) rfl)) (zWi_27 _ (List.mem_of_getElem? (i := 2) rfl)) (zWi_12 _ (List.mem_of_getElem? (i := 13) rfl)) (zWi_2 _ (List.mem_of_getElem? (i := 39) rfl)) (by decide +kernel) rfl rfl ⟨Nat.le_of_ble_eq_true rfl, Nat.le_of_ble_eq_true rfl⟩
theorem kX12_wear_83 : ∀ (s9 : State) (a9 : Array Value), (∀ w ∈ wzX12_wear, w.before a9 s9 = true) → CallB rmX12_wear s9 a9 RX12 83 yX12_within cX12_within 6 (some .boolean) wzX12_within rmX12_within 0 0 3 ∧ (Cond.static yX12_within).before a9 s9 = true := zcS (zWi_23 _ (List.mem_of_getElem? (i := 24) rfl)) (zWi_31 _ (List.mem_of_getElem? (i := 13) rfl)) (zWi_12 _ (List.mem_of_getElem? (i := 13) rfl)) (zWi_4 _ (List.mem_of_getElem? (i := 16) rfl)) (by decide +kernel) rfl rfl ⟨Nat.le_of_ble_eq_true rfl, Nat.le_of_ble_eq_true rfl⟩
theorem kX12_wear_109 : ∀ (s9 : State) (a9 : Array Value), (∀ w ∈ wzX12_wear, w.before a9 s9 = true) → CallW rmX12_wear s9 a9 RX12 RX12 109 yX12_becomes cX12_becomes 4 (some .int) wzX12_becomes rmX12_becomes 0 0 2 := zcV (zWi_22 _ (List.mem_of_getElem? (i := 17) rfl)) (zWi_13 _ (List.mem_of_getElem? (i := 43) rfl)) (zWi_26 _ (List.mem_of_getElem? (i := 35) rfl)) (zWi_12 _ (List.mem_of_getElem? (i := 13) rfl)) (zWi_2 _ (List.mem_of_getElem? (i := 22) rfl)) (by decide +kernel) rfl rfl ⟨Nat.le_of_ble_eq_true rfl, Nat.le_of_ble_eq_true rfl⟩
theorem pX12_flow_80 : zfp wzX12_flow RX12 vwCl 80 12 3 := ⟨_, _, _, _, rfl, (fun w h => List.mem_cons_of_mem _ (zWuX12 w h)), by decide, List.mem_cons_of_mem _ (zWi_9 _ (List.mem_of_getElem? (i := 38) rfl)), tyX12_ok, nmX12, rfl, by decide +kernel⟩
theorem kX12_flow_99 : ∀ (s9 : State) (a9 : Array Value), (∀ w ∈ wzX12_flow, w.before a9 s9 = true) → CallW rmX12_flow s9 a9 RX12 RX12 99 yX12_isSort cX12_isSort 2 (some .boolean) wzX12_isSort rmX12_isSort 0 0 1 := zcV (zWi_23 _ (List.mem_of_getElem? (i := 27) rfl)) (zWi_14 _ (List.mem_of_getElem? (i := 30) rfl)) (zWi_27 _ (List.mem_of_getElem? (i := 21) rfl)) (zWi_12 _ (List.mem_of_getElem? (i := 13) rfl)) (zWi_3 _ (List.mem_of_getElem? (i := 11) rfl)) (by decide +kernel) rfl rfl ⟨Nat.le_of_ble_eq_true rfl, Nat.le_of_ble_eq_true rfl⟩
theorem kX12_flow_95 : ∀ (s9 : State) (a9 : Array Value), (∀ w ∈ wzX12_flow, w.before a9 s9 = true) → CallW rmX12_flow s9 a9 RX12 RX12 95 yX12_fails cX12_fails 2 (some .int) wzX12_fails rmX12_fails 0 0 1 := zcV (zWi_23 _ (List.mem_of_getElem? (i := 26) rfl)) (zWi_14 _ (List.mem_of_getElem? (i := 10) rfl)) (zWi_27 _ (List.mem_of_getElem? (i := 2) rfl)) (zWi_12 _ (List.mem_of_getElem? (i := 13) rfl)) (zWi_2 _ (List.mem_of_getElem? (i := 39) rfl)) (by decide +kernel) rfl rfl ⟨Nat.le_of_ble_eq_true rfl, Nat.le_of_ble_eq_true rfl⟩
theorem kX12_flow_83 : ∀ (s9 : State) (a9 : Array Value), (∀ w ∈ wzX12_flow, w.before a9 s9 = true) → CallB rmX12_flow s9 a9 RX12 83 yX12_within cX12_within 6 (some .boolean) wzX12_within rmX12_within 0 0 3 ∧ (Cond.static yX12_within).before a9 s9 = true := zcS (zWi_23 _ (List.mem_of_getElem? (i := 24) rfl)) (zWi_31 _ (List.mem_of_getElem? (i := 13) rfl)) (zWi_12 _ (List.mem_of_getElem? (i := 13) rfl)) (zWi_4 _ (List.mem_of_getElem? (i := 16) rfl)) (by decide +kernel) rfl rfl ⟨Nat.le_of_ble_eq_true rfl, Nat.le_of_ble_eq_true rfl⟩
theorem kX12_flow_109 : ∀ (s9 : State) (a9 : Array Value), (∀ w ∈ wzX12_flow, w.before a9 s9 = true) → CallW rmX12_flow s9 a9 RX12 RX12 109 yX12_becomes cX12_becomes 4 (some .int) wzX12_becomes rmX12_becomes 0 0 2 := zcV (zWi_22 _ (List.mem_of_getElem? (i := 17) rfl)) (zWi_13 _ (List.mem_of_getElem? (i := 43) rfl)) (zWi_26 _ (List.mem_of_getElem? (i := 35) rfl)) (zWi_12 _ (List.mem_of_getElem? (i := 13) rfl)) (zWi_2 _ (List.mem_of_getElem? (i := 22) rfl)) (by decide +kernel) rfl rfl ⟨Nat.le_of_ble_eq_true rfl, Nat.le_of_ble_eq_true rfl⟩
theorem pX12_set_80 : zfp wzX12_set RX12 vwCl 80 12 3 := ⟨_, _, _, _, rfl, (fun w h => List.mem_cons_of_mem _ (zWuX12 w h)), by decide, List.mem_cons_of_mem _ (zWi_9 _ (List.mem_of_getElem? (i := 38) rfl)), tyX12_ok, nmX12, rfl, by decide +kernel⟩
theorem kX12_set_83 : ∀ (s9 : State) (a9 : Array Value), (∀ w ∈ wzX12_set, w.before a9 s9 = true) → CallB rmX12_set s9 a9 RX12 83 yX12_within cX12_within 6 (some .boolean) wzX12_within rmX12_within 0 0 3 ∧ (Cond.static yX12_within).before a9 s9 = true := zcS (zWi_23 _ (List.mem_of_getElem? (i := 24) rfl)) (zWi_31 _ (List.mem_of_getElem? (i := 13) rfl)) (zWi_12 _ (List.mem_of_getElem? (i := 13) rfl)) (zWi_4 _ (List.mem_of_getElem? (i := 16) rfl)) (by decide +kernel) rfl rfl ⟨Nat.le_of_ble_eq_true rfl, Nat.le_of_ble_eq_true rfl⟩
theorem kX12_set_95 : ∀ (s9 : State) (a9 : Array Value), (∀ w ∈ wzX12_set, w.before a9 s9 = true) → CallW rmX12_set s9 a9 RX12 RX12 95 yX12_fails cX12_fails 2 (some .int) wzX12_fails rmX12_fails 0 0 1 := zcV (zWi_23 _ (List.mem_of_getElem? (i := 26) rfl)) (zWi_14 _ (List.mem_of_getElem? (i := 10) rfl)) (zWi_27 _ (List.mem_of_getElem? (i := 2) rfl)) (zWi_12 _ (List.mem_of_getElem? (i := 13) rfl)) (zWi_2 _ (List.mem_of_getElem? (i := 39) rfl)) (by decide +kernel) rfl rfl ⟨Nat.le_of_ble_eq_true rfl, Nat.le_of_ble_eq_true rfl⟩
theorem kX12_set_109 : ∀ (s9 : State) (a9 : Array Value), (∀ w ∈ wzX12_set, w.before a9 s9 = true) → CallW rmX12_set s9 a9 RX12 RX12 109 yX12_becomes cX12_becomes 4 (some .int) wzX12_becomes rmX12_becomes 0 0 2 := zcV (zWi_22 _ (List.mem_of_getElem? (i := 17) rfl)) (zWi_13 _ (List.mem_of_getElem? (i := 43) rfl)) (zWi_26 _ (List.mem_of_getElem? (i := 35) rfl)) (zWi_12 _ (List.mem_of_getElem? (i := 13) rfl)) (zWi_2 _ (List.mem_of_getElem? (i := 22) rfl)) (by decide +kernel) rfl rfl ⟨Nat.le_of_ble_eq_true rfl, Nat.le_of_ble_eq_true rfl⟩
theorem pX12_good_80 : zfp wzX12_good RX12 vwCl 80 12 3 := ⟨_, _, _, _, rfl, (fun w h => List.mem_cons_of_mem _ (zWuX12 w h)), by decide, List.mem_cons_of_mem _ (zWi_9 _ (List.mem_of_getElem? (i := 38) rfl)), tyX12_ok, nmX12, rfl, by decide +kernel⟩
theorem fX12_good_80 : zfl wzX12_good RX12 vwCl 80 12 3 := ⟨_, _, _, rfl, (fun w h => List.mem_cons_of_mem _ (zWuX12 w h)), by decide, List.mem_cons_of_mem _ (zWi_9 _ (List.mem_of_getElem? (i := 38) rfl))⟩
theorem kX12_good_99 : ∀ (s9 : State) (a9 : Array Value), (∀ w ∈ wzX12_good, w.before a9 s9 = true) → CallW rmX12_good s9 a9 RX12 RX12 99 yX12_isSort cX12_isSort 2 (some .boolean) wzX12_isSort rmX12_isSort 0 0 1 := zcV (zWi_23 _ (List.mem_of_getElem? (i := 27) rfl)) (zWi_14 _ (List.mem_of_getElem? (i := 30) rfl)) (zWi_27 _ (List.mem_of_getElem? (i := 21) rfl)) (zWi_12 _ (List.mem_of_getElem? (i := 13) rfl)) (zWi_3 _ (List.mem_of_getElem? (i := 11) rfl)) (by decide +kernel) rfl rfl ⟨Nat.le_of_ble_eq_true rfl, Nat.le_of_ble_eq_true rfl⟩
theorem kX12_good_120 : ∀ (s9 : State) (a9 : Array Value), (∀ w ∈ wzX12_good, w.before a9 s9 = true) → CallW rmX12_good s9 a9 RX12 RX12 120 yX12_isGood cX12_isGood 2 (some .boolean) wzX12_isGood rmX12_isGood 0 0 1 := zcV (zWi_22 _ (List.mem_of_getElem? (i := 19) rfl)) (zWi_14 _ (List.mem_of_getElem? (i := 28) rfl)) (zWi_27 _ (List.mem_of_getElem? (i := 19) rfl)) (zWi_12 _ (List.mem_of_getElem? (i := 13) rfl)) (zWi_3 _ (List.mem_of_getElem? (i := 8) rfl)) (by decide +kernel) rfl rfl ⟨Nat.le_of_ble_eq_true rfl, Nat.le_of_ble_eq_true rfl⟩
theorem pX12_coins_80 : zfp wzX12_coins RX12 vwCl 80 12 3 := ⟨_, _, _, _, rfl, (fun w h => List.mem_cons_of_mem _ (zWuX12 w h)), by decide, List.mem_cons_of_mem _ (zWi_9 _ (List.mem_of_getElem? (i := 38) rfl)), tyX12_ok, nmX12, rfl, by decide +kernel⟩
theorem kX12_coins_99 : ∀ (s9 : State) (a9 : Array Value), (∀ w ∈ wzX12_coins, w.before a9 s9 = true) → CallW rmX12_coins s9 a9 RX12 RX12 99 yX12_isSort cX12_isSort 2 (some .boolean) wzX12_isSort rmX12_isSort 0 0 1 := zcV (zWi_23 _ (List.mem_of_getElem? (i := 27) rfl)) (zWi_14 _ (List.mem_of_getElem? (i := 30) rfl)) (zWi_27 _ (List.mem_of_getElem? (i := 21) rfl)) (zWi_12 _ (List.mem_of_getElem? (i := 13) rfl)) (zWi_3 _ (List.mem_of_getElem? (i := 11) rfl)) (by decide +kernel) rfl rfl ⟨Nat.le_of_ble_eq_true rfl, Nat.le_of_ble_eq_true rfl⟩
theorem kX12_coins_132 : ∀ (s9 : State) (a9 : Array Value), (∀ w ∈ wzX12_coins, w.before a9 s9 = true) → CallW rmX12_coins s9 a9 RX12 RX12 132 yX12_many cX12_many 5 (some .long) wzX12_many rmX12_many 0 0 1 := zcV (zWi_22 _ (List.mem_of_getElem? (i := 22) rfl)) (zWi_14 _ (List.mem_of_getElem? (i := 41) rfl)) (zWi_27 _ (List.mem_of_getElem? (i := 32) rfl)) (zWi_12 _ (List.mem_of_getElem? (i := 13) rfl)) (zWi_3 _ (List.mem_of_getElem? (i := 23) rfl)) (by decide +kernel) rfl rfl ⟨Nat.le_of_ble_eq_true rfl, Nat.le_of_ble_eq_true rfl⟩
theorem kX12_coins_95 : ∀ (s9 : State) (a9 : Array Value), (∀ w ∈ wzX12_coins, w.before a9 s9 = true) → CallW rmX12_coins s9 a9 RX12 RX12 95 yX12_fails cX12_fails 2 (some .int) wzX12_fails rmX12_fails 0 0 1 := zcV (zWi_23 _ (List.mem_of_getElem? (i := 26) rfl)) (zWi_14 _ (List.mem_of_getElem? (i := 10) rfl)) (zWi_27 _ (List.mem_of_getElem? (i := 2) rfl)) (zWi_12 _ (List.mem_of_getElem? (i := 13) rfl)) (zWi_2 _ (List.mem_of_getElem? (i := 39) rfl)) (by decide +kernel) rfl rfl ⟨Nat.le_of_ble_eq_true rfl, Nat.le_of_ble_eq_true rfl⟩
theorem kX12_isGate_87 : ∀ (s9 : State) (a9 : Array Value), (∀ w ∈ wzX12_isGate, w.before a9 s9 = true) → CallW rmX12_isGate s9 a9 RX12 RX12 87 yX12_is cX12_is 3 (some .boolean) wzX12_is rmX12_is 0 0 2 := zcV (zWi_23 _ (List.mem_of_getElem? (i := 25) rfl)) (zWi_14 _ (List.mem_of_getElem? (i := 25) rfl)) (zWi_27 _ (List.mem_of_getElem? (i := 16) rfl)) (zWi_12 _ (List.mem_of_getElem? (i := 13) rfl)) (zWi_3 _ (List.mem_of_getElem? (i := 4) rfl)) (by decide +kernel) rfl rfl ⟨Nat.le_of_ble_eq_true rfl, Nat.le_of_ble_eq_true rfl⟩
theorem pX12_gate_80 : zfp wzX12_gate RX12 vwCl 80 12 3 := ⟨_, _, _, _, rfl, (fun w h => List.mem_cons_of_mem _ (zWuX12 w h)), by decide, List.mem_cons_of_mem _ (zWi_9 _ (List.mem_of_getElem? (i := 38) rfl)), tyX12_ok, nmX12, rfl, by decide +kernel⟩
theorem fX12_gate_9 : zfl wzX12_gate RX12 vwCl 9 12 0 := ⟨_, _, _, rfl, (fun w h => List.mem_cons_of_mem _ (zWuX12 w h)), by decide, List.mem_cons_of_mem _ (zWi_9 _ (List.mem_of_getElem? (i := 39) rfl))⟩
theorem kX12_gate_225 : ∀ (s9 : State) (a9 : Array Value), (∀ w ∈ wzX12_gate, w.before a9 s9 = true) → CallW rmX12_gate s9 a9 RX12 RX12 225 yX12_isGate cX12_isGate 2 (some .boolean) wzX12_isGate rmX12_isGate 0 0 1 := zcV (zWi_22 _ (List.mem_of_getElem? (i := 35) rfl)) (zWi_14 _ (List.mem_of_getElem? (i := 27) rfl)) (zWi_27 _ (List.mem_of_getElem? (i := 18) rfl)) (zWi_12 _ (List.mem_of_getElem? (i := 13) rfl)) (zWi_3 _ (List.mem_of_getElem? (i := 7) rfl)) (by decide +kernel) rfl rfl ⟨Nat.le_of_ble_eq_true rfl, Nat.le_of_ble_eq_true rfl⟩
theorem kX12_gate_95 : ∀ (s9 : State) (a9 : Array Value), (∀ w ∈ wzX12_gate, w.before a9 s9 = true) → CallW rmX12_gate s9 a9 RX12 RX12 95 yX12_fails cX12_fails 2 (some .int) wzX12_fails rmX12_fails 0 0 1 := zcV (zWi_23 _ (List.mem_of_getElem? (i := 26) rfl)) (zWi_14 _ (List.mem_of_getElem? (i := 10) rfl)) (zWi_27 _ (List.mem_of_getElem? (i := 2) rfl)) (zWi_12 _ (List.mem_of_getElem? (i := 13) rfl)) (zWi_2 _ (List.mem_of_getElem? (i := 39) rfl)) (by decide +kernel) rfl rfl ⟨Nat.le_of_ble_eq_true rfl, Nat.le_of_ble_eq_true rfl⟩
theorem kX12_gate_83 : ∀ (s9 : State) (a9 : Array Value), (∀ w ∈ wzX12_gate, w.before a9 s9 = true) → CallB rmX12_gate s9 a9 RX12 83 yX12_within cX12_within 6 (some .boolean) wzX12_within rmX12_within 0 0 3 ∧ (Cond.static yX12_within).before a9 s9 = true := zcS (zWi_23 _ (List.mem_of_getElem? (i := 24) rfl)) (zWi_31 _ (List.mem_of_getElem? (i := 13) rfl)) (zWi_12 _ (List.mem_of_getElem? (i := 13) rfl)) (zWi_4 _ (List.mem_of_getElem? (i := 16) rfl)) (by decide +kernel) rfl rfl ⟨Nat.le_of_ble_eq_true rfl, Nat.le_of_ble_eq_true rfl⟩
theorem kX12_isOffer_87 : ∀ (s9 : State) (a9 : Array Value), (∀ w ∈ wzX12_isOffer, w.before a9 s9 = true) → CallW rmX12_isOffer s9 a9 RX12 RX12 87 yX12_is cX12_is 3 (some .boolean) wzX12_is rmX12_is 0 0 2 := zcV (zWi_23 _ (List.mem_of_getElem? (i := 25) rfl)) (zWi_14 _ (List.mem_of_getElem? (i := 25) rfl)) (zWi_27 _ (List.mem_of_getElem? (i := 16) rfl)) (zWi_12 _ (List.mem_of_getElem? (i := 13) rfl)) (zWi_3 _ (List.mem_of_getElem? (i := 4) rfl)) (by decide +kernel) rfl rfl ⟨Nat.le_of_ble_eq_true rfl, Nat.le_of_ble_eq_true rfl⟩
theorem pX12_offer_80 : zfp wzX12_offer RX12 vwCl 80 12 3 := ⟨_, _, _, _, rfl, (fun w h => List.mem_cons_of_mem _ (zWuX12 w h)), by decide, List.mem_cons_of_mem _ (zWi_9 _ (List.mem_of_getElem? (i := 38) rfl)), tyX12_ok, nmX12, rfl, by decide +kernel⟩
theorem fX12_offer_9 : zfl wzX12_offer RX12 vwCl 9 12 0 := ⟨_, _, _, rfl, (fun w h => List.mem_cons_of_mem _ (zWuX12 w h)), by decide, List.mem_cons_of_mem _ (zWi_9 _ (List.mem_of_getElem? (i := 39) rfl))⟩
theorem kX12_offer_83 : ∀ (s9 : State) (a9 : Array Value), (∀ w ∈ wzX12_offer, w.before a9 s9 = true) → CallB rmX12_offer s9 a9 RX12 83 yX12_within cX12_within 6 (some .boolean) wzX12_within rmX12_within 0 0 3 ∧ (Cond.static yX12_within).before a9 s9 = true := zcS (zWi_23 _ (List.mem_of_getElem? (i := 24) rfl)) (zWi_31 _ (List.mem_of_getElem? (i := 13) rfl)) (zWi_12 _ (List.mem_of_getElem? (i := 13) rfl)) (zWi_4 _ (List.mem_of_getElem? (i := 16) rfl)) (by decide +kernel) rfl rfl ⟨Nat.le_of_ble_eq_true rfl, Nat.le_of_ble_eq_true rfl⟩
theorem kX12_offer_95 : ∀ (s9 : State) (a9 : Array Value), (∀ w ∈ wzX12_offer, w.before a9 s9 = true) → CallW rmX12_offer s9 a9 RX12 RX12 95 yX12_fails cX12_fails 2 (some .int) wzX12_fails rmX12_fails 0 0 1 := zcV (zWi_23 _ (List.mem_of_getElem? (i := 26) rfl)) (zWi_14 _ (List.mem_of_getElem? (i := 10) rfl)) (zWi_27 _ (List.mem_of_getElem? (i := 2) rfl)) (zWi_12 _ (List.mem_of_getElem? (i := 13) rfl)) (zWi_2 _ (List.mem_of_getElem? (i := 39) rfl)) (by decide +kernel) rfl rfl ⟨Nat.le_of_ble_eq_true rfl, Nat.le_of_ble_eq_true rfl⟩
theorem pX12_price_80 : zfp wzX12_price RX12 vwCl 80 12 3 := ⟨_, _, _, _, rfl, (fun w h => List.mem_cons_of_mem _ (zWuX12 w h)), by decide, List.mem_cons_of_mem _ (zWi_9 _ (List.mem_of_getElem? (i := 38) rfl)), tyX12_ok, nmX12, rfl, by decide +kernel⟩
theorem kX12_price_290 : ∀ (s9 : State) (a9 : Array Value), (∀ w ∈ wzX12_price, w.before a9 s9 = true) → CallW rmX12_price s9 a9 RX12 RX12 290 yX12_isOffer cX12_isOffer 2 (some .boolean) wzX12_isOffer rmX12_isOffer 0 0 1 := zcV (zWi_23 _ (List.mem_of_getElem? (i := 1) rfl)) (zWi_14 _ (List.mem_of_getElem? (i := 29) rfl)) (zWi_27 _ (List.mem_of_getElem? (i := 20) rfl)) (zWi_12 _ (List.mem_of_getElem? (i := 13) rfl)) (zWi_3 _ (List.mem_of_getElem? (i := 10) rfl)) (by decide +kernel) rfl rfl ⟨Nat.le_of_ble_eq_true rfl, Nat.le_of_ble_eq_true rfl⟩
theorem kX12_price_95 : ∀ (s9 : State) (a9 : Array Value), (∀ w ∈ wzX12_price, w.before a9 s9 = true) → CallW rmX12_price s9 a9 RX12 RX12 95 yX12_fails cX12_fails 2 (some .int) wzX12_fails rmX12_fails 0 0 1 := zcV (zWi_23 _ (List.mem_of_getElem? (i := 26) rfl)) (zWi_14 _ (List.mem_of_getElem? (i := 10) rfl)) (zWi_27 _ (List.mem_of_getElem? (i := 2) rfl)) (zWi_12 _ (List.mem_of_getElem? (i := 13) rfl)) (zWi_2 _ (List.mem_of_getElem? (i := 39) rfl)) (by decide +kernel) rfl rfl ⟨Nat.le_of_ble_eq_true rfl, Nat.le_of_ble_eq_true rfl⟩
theorem kX12_price_83 : ∀ (s9 : State) (a9 : Array Value), (∀ w ∈ wzX12_price, w.before a9 s9 = true) → CallB rmX12_price s9 a9 RX12 83 yX12_within cX12_within 6 (some .boolean) wzX12_within rmX12_within 0 0 3 ∧ (Cond.static yX12_within).before a9 s9 = true := zcS (zWi_23 _ (List.mem_of_getElem? (i := 24) rfl)) (zWi_31 _ (List.mem_of_getElem? (i := 13) rfl)) (zWi_12 _ (List.mem_of_getElem? (i := 13) rfl)) (zWi_4 _ (List.mem_of_getElem? (i := 16) rfl)) (by decide +kernel) rfl rfl ⟨Nat.le_of_ble_eq_true rfl, Nat.le_of_ble_eq_true rfl⟩
theorem kX12_price_109 : ∀ (s9 : State) (a9 : Array Value), (∀ w ∈ wzX12_price, w.before a9 s9 = true) → CallW rmX12_price s9 a9 RX12 RX12 109 yX12_becomes cX12_becomes 4 (some .int) wzX12_becomes rmX12_becomes 0 0 2 := zcV (zWi_22 _ (List.mem_of_getElem? (i := 17) rfl)) (zWi_13 _ (List.mem_of_getElem? (i := 43) rfl)) (zWi_26 _ (List.mem_of_getElem? (i := 35) rfl)) (zWi_12 _ (List.mem_of_getElem? (i := 13) rfl)) (zWi_2 _ (List.mem_of_getElem? (i := 22) rfl)) (by decide +kernel) rfl rfl ⟨Nat.le_of_ble_eq_true rfl, Nat.le_of_ble_eq_true rfl⟩
theorem pX12_bag_80 : zfp wzX12_bag RX12 vwCl 80 12 3 := ⟨_, _, _, _, rfl, (fun w h => List.mem_cons_of_mem _ (zWuX12 w h)), by decide, List.mem_cons_of_mem _ (zWi_9 _ (List.mem_of_getElem? (i := 38) rfl)), tyX12_ok, nmX12, rfl, by decide +kernel⟩
theorem fX12_bag_9 : zfl wzX12_bag RX12 vwCl 9 12 0 := ⟨_, _, _, rfl, (fun w h => List.mem_cons_of_mem _ (zWuX12 w h)), by decide, List.mem_cons_of_mem _ (zWi_9 _ (List.mem_of_getElem? (i := 39) rfl))⟩
theorem kX12_bag_99 : ∀ (s9 : State) (a9 : Array Value), (∀ w ∈ wzX12_bag, w.before a9 s9 = true) → CallW rmX12_bag s9 a9 RX12 RX12 99 yX12_isSort cX12_isSort 2 (some .boolean) wzX12_isSort rmX12_isSort 0 0 1 := zcV (zWi_23 _ (List.mem_of_getElem? (i := 27) rfl)) (zWi_14 _ (List.mem_of_getElem? (i := 30) rfl)) (zWi_27 _ (List.mem_of_getElem? (i := 21) rfl)) (zWi_12 _ (List.mem_of_getElem? (i := 13) rfl)) (zWi_3 _ (List.mem_of_getElem? (i := 11) rfl)) (by decide +kernel) rfl rfl ⟨Nat.le_of_ble_eq_true rfl, Nat.le_of_ble_eq_true rfl⟩
theorem kX12_bag_95 : ∀ (s9 : State) (a9 : Array Value), (∀ w ∈ wzX12_bag, w.before a9 s9 = true) → CallW rmX12_bag s9 a9 RX12 RX12 95 yX12_fails cX12_fails 2 (some .int) wzX12_fails rmX12_fails 0 0 1 := zcV (zWi_23 _ (List.mem_of_getElem? (i := 26) rfl)) (zWi_14 _ (List.mem_of_getElem? (i := 10) rfl)) (zWi_27 _ (List.mem_of_getElem? (i := 2) rfl)) (zWi_12 _ (List.mem_of_getElem? (i := 13) rfl)) (zWi_2 _ (List.mem_of_getElem? (i := 39) rfl)) (by decide +kernel) rfl rfl ⟨Nat.le_of_ble_eq_true rfl, Nat.le_of_ble_eq_true rfl⟩
theorem fX12_lies_9 : zfl wzX12_lies RX12 vwCl 9 12 0 := ⟨_, _, _, rfl, (fun w h => List.mem_cons_of_mem _ (zWuX12 w h)), by decide, List.mem_cons_of_mem _ (zWi_9 _ (List.mem_of_getElem? (i := 39) rfl))⟩
theorem fX12_creditOf_9 : zfl wzX12_creditOf RX12 vwCl 9 12 0 := ⟨_, _, _, rfl, (fun w h => List.mem_cons_of_mem _ (zWuX12 w h)), by decide, List.mem_cons_of_mem _ (zWi_9 _ (List.mem_of_getElem? (i := 39) rfl))⟩
theorem kX12_creditOf_312 : ∀ (s9 : State) (a9 : Array Value), (∀ w ∈ wzX12_creditOf, w.before a9 s9 = true) → CallW rmX12_creditOf s9 a9 RX12 RX12 312 yX12_lies cX12_lies 3 (some .int) wzX12_lies rmX12_lies 0 0 2 := zcV (zWi_23 _ (List.mem_of_getElem? (i := 7) rfl)) (zWi_14 _ (List.mem_of_getElem? (i := 34) rfl)) (zWi_27 _ (List.mem_of_getElem? (i := 25) rfl)) (zWi_12 _ (List.mem_of_getElem? (i := 13) rfl)) (zWi_3 _ (List.mem_of_getElem? (i := 16) rfl)) (by decide +kernel) rfl rfl ⟨Nat.le_of_ble_eq_true rfl, Nat.le_of_ble_eq_true rfl⟩
theorem pX12_credit_80 : zfp wzX12_credit RX12 vwCl 80 12 3 := ⟨_, _, _, _, rfl, (fun w h => List.mem_cons_of_mem _ (zWuX12 w h)), by decide, List.mem_cons_of_mem _ (zWi_9 _ (List.mem_of_getElem? (i := 38) rfl)), tyX12_ok, nmX12, rfl, by decide +kernel⟩
theorem kX12_credit_315 : ∀ (s9 : State) (a9 : Array Value), (∀ w ∈ wzX12_credit, w.before a9 s9 = true) → CallW rmX12_credit s9 a9 RX12 RX12 315 yX12_creditOf cX12_creditOf 3 (some .int) wzX12_creditOf rmX12_creditOf 0 0 0 := zcV (zWi_23 _ (List.mem_of_getElem? (i := 8) rfl)) (zWi_14 _ (List.mem_of_getElem? (i := 4) rfl)) (zWi_26 _ (List.mem_of_getElem? (i := 46) rfl)) (zWi_12 _ (List.mem_of_getElem? (i := 13) rfl)) (zWi_2 _ (List.mem_of_getElem? (i := 33) rfl)) (by decide +kernel) rfl rfl ⟨Nat.le_of_ble_eq_true rfl, Nat.le_of_ble_eq_true rfl⟩
theorem pX12_given_80 : zfp wzX12_given RX12 vwCl 80 12 3 := ⟨_, _, _, _, rfl, (fun w h => List.mem_cons_of_mem _ (zWuX12 w h)), by decide, List.mem_cons_of_mem _ (zWi_9 _ (List.mem_of_getElem? (i := 38) rfl)), tyX12_ok, nmX12, rfl, by decide +kernel⟩
theorem fX12_given_9 : zfl wzX12_given RX12 vwCl 9 12 0 := ⟨_, _, _, rfl, (fun w h => List.mem_cons_of_mem _ (zWuX12 w h)), by decide, List.mem_cons_of_mem _ (zWi_9 _ (List.mem_of_getElem? (i := 39) rfl))⟩
theorem kX12_given_87 : ∀ (s9 : State) (a9 : Array Value), (∀ w ∈ wzX12_given, w.before a9 s9 = true) → CallW rmX12_given s9 a9 RX12 RX12 87 yX12_is cX12_is 3 (some .boolean) wzX12_is rmX12_is 0 0 2 := zcV (zWi_23 _ (List.mem_of_getElem? (i := 25) rfl)) (zWi_14 _ (List.mem_of_getElem? (i := 25) rfl)) (zWi_27 _ (List.mem_of_getElem? (i := 16) rfl)) (zWi_12 _ (List.mem_of_getElem? (i := 13) rfl)) (zWi_3 _ (List.mem_of_getElem? (i := 4) rfl)) (by decide +kernel) rfl rfl ⟨Nat.le_of_ble_eq_true rfl, Nat.le_of_ble_eq_true rfl⟩
theorem fX12_gives_9 : zfl wzX12_gives RX12 vwCl 9 12 0 := ⟨_, _, _, rfl, (fun w h => List.mem_cons_of_mem _ (zWuX12 w h)), by decide, List.mem_cons_of_mem _ (zWi_9 _ (List.mem_of_getElem? (i := 39) rfl))⟩
theorem pX12_cost_80 : zfp wzX12_cost RX12 vwCl 80 12 3 := ⟨_, _, _, _, rfl, (fun w h => List.mem_cons_of_mem _ (zWuX12 w h)), by decide, List.mem_cons_of_mem _ (zWi_9 _ (List.mem_of_getElem? (i := 38) rfl)), tyX12_ok, nmX12, rfl, by decide +kernel⟩
theorem kX12_cost_83 : ∀ (s9 : State) (a9 : Array Value), (∀ w ∈ wzX12_cost, w.before a9 s9 = true) → CallB rmX12_cost s9 a9 RX12 83 yX12_within cX12_within 6 (some .boolean) wzX12_within rmX12_within 0 0 3 ∧ (Cond.static yX12_within).before a9 s9 = true := zcS (zWi_23 _ (List.mem_of_getElem? (i := 24) rfl)) (zWi_31 _ (List.mem_of_getElem? (i := 13) rfl)) (zWi_12 _ (List.mem_of_getElem? (i := 13) rfl)) (zWi_4 _ (List.mem_of_getElem? (i := 16) rfl)) (by decide +kernel) rfl rfl ⟨Nat.le_of_ble_eq_true rfl, Nat.le_of_ble_eq_true rfl⟩
theorem kX12_cost_95 : ∀ (s9 : State) (a9 : Array Value), (∀ w ∈ wzX12_cost, w.before a9 s9 = true) → CallW rmX12_cost s9 a9 RX12 RX12 95 yX12_fails cX12_fails 2 (some .int) wzX12_fails rmX12_fails 0 0 1 := zcV (zWi_23 _ (List.mem_of_getElem? (i := 26) rfl)) (zWi_14 _ (List.mem_of_getElem? (i := 10) rfl)) (zWi_27 _ (List.mem_of_getElem? (i := 2) rfl)) (zWi_12 _ (List.mem_of_getElem? (i := 13) rfl)) (zWi_2 _ (List.mem_of_getElem? (i := 39) rfl)) (by decide +kernel) rfl rfl ⟨Nat.le_of_ble_eq_true rfl, Nat.le_of_ble_eq_true rfl⟩
theorem kX12_cost_109 : ∀ (s9 : State) (a9 : Array Value), (∀ w ∈ wzX12_cost, w.before a9 s9 = true) → CallW rmX12_cost s9 a9 RX12 RX12 109 yX12_becomes cX12_becomes 4 (some .int) wzX12_becomes rmX12_becomes 0 0 2 := zcV (zWi_22 _ (List.mem_of_getElem? (i := 17) rfl)) (zWi_13 _ (List.mem_of_getElem? (i := 43) rfl)) (zWi_26 _ (List.mem_of_getElem? (i := 35) rfl)) (zWi_12 _ (List.mem_of_getElem? (i := 13) rfl)) (zWi_2 _ (List.mem_of_getElem? (i := 22) rfl)) (by decide +kernel) rfl rfl ⟨Nat.le_of_ble_eq_true rfl, Nat.le_of_ble_eq_true rfl⟩
theorem fX12_due_9 : zfl wzX12_due RX12 vwCl 9 12 0 := ⟨_, _, _, rfl, (fun w h => List.mem_cons_of_mem _ (zWuX12 w h)), by decide, List.mem_cons_of_mem _ (zWi_9 _ (List.mem_of_getElem? (i := 39) rfl))⟩
theorem pX12_machine_80 : zfp wzX12_machine RX12 vwCl 80 12 3 := ⟨_, _, _, _, rfl, (fun w h => List.mem_cons_of_mem _ (zWuX12 w h)), by decide, List.mem_cons_of_mem _ (zWi_9 _ (List.mem_of_getElem? (i := 38) rfl)), tyX12_ok, nmX12, rfl, by decide +kernel⟩
theorem fX12_machine_9 : zfl wzX12_machine RX12 vwCl 9 12 0 := ⟨_, _, _, rfl, (fun w h => List.mem_cons_of_mem _ (zWuX12 w h)), by decide, List.mem_cons_of_mem _ (zWi_9 _ (List.mem_of_getElem? (i := 39) rfl))⟩
theorem kX12_machine_83 : ∀ (s9 : State) (a9 : Array Value), (∀ w ∈ wzX12_machine, w.before a9 s9 = true) → CallB rmX12_machine s9 a9 RX12 83 yX12_within cX12_within 6 (some .boolean) wzX12_within rmX12_within 0 0 3 ∧ (Cond.static yX12_within).before a9 s9 = true := zcS (zWi_23 _ (List.mem_of_getElem? (i := 24) rfl)) (zWi_31 _ (List.mem_of_getElem? (i := 13) rfl)) (zWi_12 _ (List.mem_of_getElem? (i := 13) rfl)) (zWi_4 _ (List.mem_of_getElem? (i := 16) rfl)) (by decide +kernel) rfl rfl ⟨Nat.le_of_ble_eq_true rfl, Nat.le_of_ble_eq_true rfl⟩
theorem kX12_machine_95 : ∀ (s9 : State) (a9 : Array Value), (∀ w ∈ wzX12_machine, w.before a9 s9 = true) → CallW rmX12_machine s9 a9 RX12 RX12 95 yX12_fails cX12_fails 2 (some .int) wzX12_fails rmX12_fails 0 0 1 := zcV (zWi_23 _ (List.mem_of_getElem? (i := 26) rfl)) (zWi_14 _ (List.mem_of_getElem? (i := 10) rfl)) (zWi_27 _ (List.mem_of_getElem? (i := 2) rfl)) (zWi_12 _ (List.mem_of_getElem? (i := 13) rfl)) (zWi_2 _ (List.mem_of_getElem? (i := 39) rfl)) (by decide +kernel) rfl rfl ⟨Nat.le_of_ble_eq_true rfl, Nat.le_of_ble_eq_true rfl⟩
theorem pX12_count_80 : zfp wzX12_count RX12 vwCl 80 12 3 := ⟨_, _, _, _, rfl, (fun w h => List.mem_cons_of_mem _ (zWuX12 w h)), by decide, List.mem_cons_of_mem _ (zWi_9 _ (List.mem_of_getElem? (i := 38) rfl)), tyX12_ok, nmX12, rfl, by decide +kernel⟩
theorem fX12_count_136 : zfl wzX12_count RX12 vwCl 136 12 6 := ⟨_, _, _, rfl, (fun w h => List.mem_cons_of_mem _ (zWuX12 w h)), by decide, List.mem_cons_of_mem _ (zWi_9 _ (List.mem_of_getElem? (i := 6) rfl))⟩
theorem fX12_count_9 : zfl wzX12_count RX12 vwCl 9 12 0 := ⟨_, _, _, rfl, (fun w h => List.mem_cons_of_mem _ (zWuX12 w h)), by decide, List.mem_cons_of_mem _ (zWi_9 _ (List.mem_of_getElem? (i := 39) rfl))⟩
theorem kX12_count_83 : ∀ (s9 : State) (a9 : Array Value), (∀ w ∈ wzX12_count, w.before a9 s9 = true) → CallB rmX12_count s9 a9 RX12 83 yX12_within cX12_within 6 (some .boolean) wzX12_within rmX12_within 0 0 3 ∧ (Cond.static yX12_within).before a9 s9 = true := zcS (zWi_23 _ (List.mem_of_getElem? (i := 24) rfl)) (zWi_31 _ (List.mem_of_getElem? (i := 13) rfl)) (zWi_12 _ (List.mem_of_getElem? (i := 13) rfl)) (zWi_4 _ (List.mem_of_getElem? (i := 16) rfl)) (by decide +kernel) rfl rfl ⟨Nat.le_of_ble_eq_true rfl, Nat.le_of_ble_eq_true rfl⟩
theorem pX12_fault_80 : zfp wzX12_fault RX12 vwCl 80 12 3 := ⟨_, _, _, _, rfl, (fun w h => List.mem_cons_of_mem _ (zWuX12 w h)), by decide, List.mem_cons_of_mem _ (zWi_9 _ (List.mem_of_getElem? (i := 38) rfl)), tyX12_ok, nmX12, rfl, by decide +kernel⟩
theorem fX12_fault_222 : zfl wzX12_fault RX12 vwCl 222 12 14 := ⟨_, _, _, rfl, (fun w h => List.mem_cons_of_mem _ (zWuX12 w h)), by decide, List.mem_cons_of_mem _ (zWi_9 _ (List.mem_of_getElem? (i := 16) rfl))⟩
theorem fX12_fault_26 : zfl wzX12_fault RX12 vwCl 26 12 15 := ⟨_, _, _, rfl, (fun w h => List.mem_cons_of_mem _ (zWuX12 w h)), by decide, List.mem_cons_of_mem _ (zWi_9 _ (List.mem_of_getElem? (i := 20) rfl))⟩
theorem kX12_isTray_83 : ∀ (s9 : State) (a9 : Array Value), (∀ w ∈ wzX12_isTray, w.before a9 s9 = true) → CallB rmX12_isTray s9 a9 RX12 83 yX12_within cX12_within 6 (some .boolean) wzX12_within rmX12_within 0 0 3 ∧ (Cond.static yX12_within).before a9 s9 = true := zcS (zWi_23 _ (List.mem_of_getElem? (i := 24) rfl)) (zWi_31 _ (List.mem_of_getElem? (i := 13) rfl)) (zWi_12 _ (List.mem_of_getElem? (i := 13) rfl)) (zWi_4 _ (List.mem_of_getElem? (i := 16) rfl)) (by decide +kernel) rfl rfl ⟨Nat.le_of_ble_eq_true rfl, Nat.le_of_ble_eq_true rfl⟩
abbrev tz (M : zM) (k : Int) : zM := zup M 180 3 k
def sortM (M : zM) (s : Nat) (v a b : Int) : zM := zup (zup (zup (zfl0 (zup (tz M 0) 181 0 ((s : Int) + 1)) 181 (15 + 11 * s) 11) 181 (15 + 11 * s) v) 181 (16 + 11 * s) a) 181 (17 + 11 * s) b
set_option maxRecDepth 20000 in
set_option maxHeartbeats 4000000 in
theorem lp_X12_sort {E : zE} {X : zX} {Qp : Option zV → zM → Prop} {M : zM} {v a b : Int} {s : Nat} (S : zS (zg E) X cX12_sort 6 wzX12_sort RX12 (some .int)) (h8 : s < 8) (hQ : Qp (some (zI s)) (zup (zup (zup (zfl0 M 181 (15 + 11 * s) 11) 181 (15 + 11 * s) v) 181 (16 + 11 * s) a) 181 (17 + 11 * s) b)) : ∀ n i : Nat, i + n = 11 → zK (zg E) rmX12_sort 6 (Qp, 0, 0) X (0, 0) 82 [some (zR 180), some (zI v), some (zI a), some (zI b), some (zI s), some (zI i)] [] (zfl0 M 181 (15 + 11 * s) i)
  | 0, i, hn => by
    obtain rfl : i = 11 := by omega
    have e0 : ((15 : Int) + 11 * (s : Int)).toNat = 15 + 11 * s := by omega
    have e1 : ((15 : Int) + 11 * (s : Int) + 1).toNat = 16 + 11 * s := by omega
    have e2 : ((15 : Int) + 11 * (s : Int) + 2).toNat = 17 + 11 * s := by omega
    refine zr_iload (pc := 82) S dX12_sort_82 rfl ?_
    refine zr_bipush (pc := 84) S dX12_sort_84 ⟨by unfold zrI; omega, by decide⟩ ?_
    refine zr_icmp_ge (pc := 86) (tgt := 112) S dX12_sort_86 (by decide) (fun c86 => ?_) (fun c86 => absurd c86 (by omega))
    refine zr_aload_n (pc := 112) S dX12_sort_112 rfl ?_
    refine zr_getR (pc := 113) S fX12_sort_9 dX12_sort_113 rfl (Nat.le_of_ble_eq_true rfl) rfl ?_
    refine zr_bipush (pc := 116) S dX12_sort_116 ⟨by unfold zrI; omega, by decide⟩ ?_
    refine zr_bipush (pc := 118) S dX12_sort_118 ⟨by unfold zrI; omega, by decide⟩ ?_
    refine zr_iload (pc := 120) S dX12_sort_120 rfl ?_
    refine zr_imul (pc := 122) S dX12_sort_122 (by unfold zrI; omega) ?_
    refine zr_iadd (pc := 123) S dX12_sort_123 (by unfold zrI; omega) ?_
    refine zr_iload_n (pc := 124) S dX12_sort_124 rfl ?_
    refine zr_iastore (pc := 125) S dX12_sort_125 rfl (Nat.le_of_ble_eq_true rfl) (by omega) (by omega) ?_
    rw [e0]
    refine zr_aload_n (pc := 126) S dX12_sort_126 rfl ?_
    refine zr_getR (pc := 127) S fX12_sort_9 dX12_sort_127 rfl (Nat.le_of_ble_eq_true rfl) rfl ?_
    try simp only [zup_k, zup_e, ne_eq, Nat.reduceEqDiff, not_false_eq_true, zup_j]
    refine zr_bipush (pc := 130) S dX12_sort_130 ⟨by unfold zrI; omega, by decide⟩ ?_
    refine zr_bipush (pc := 132) S dX12_sort_132 ⟨by unfold zrI; omega, by decide⟩ ?_
    refine zr_iload (pc := 134) S dX12_sort_134 rfl ?_
    refine zr_imul (pc := 136) S dX12_sort_136 (by unfold zrI; omega) ?_
    refine zr_iadd (pc := 137) S dX12_sort_137 (by unfold zrI; omega) ?_
    refine zr_iconst (pc := 138) S dX12_sort_138 (by unfold zrI; omega) ?_
    refine zr_iadd (pc := 139) S dX12_sort_139 (by unfold zrI; omega) ?_
    refine zr_iload_n (pc := 140) S dX12_sort_140 rfl ?_
    refine zr_iastore (pc := 141) S dX12_sort_141 rfl (Nat.le_of_ble_eq_true rfl) (by omega) (by omega) ?_
    rw [e1]
    refine zr_aload_n (pc := 142) S dX12_sort_142 rfl ?_
    refine zr_getR (pc := 143) S fX12_sort_9 dX12_sort_143 rfl (Nat.le_of_ble_eq_true rfl) rfl ?_
    try simp only [zup_k, zup_e, ne_eq, Nat.reduceEqDiff, not_false_eq_true, zup_j]
    refine zr_bipush (pc := 146) S dX12_sort_146 ⟨by unfold zrI; omega, by decide⟩ ?_
    refine zr_bipush (pc := 148) S dX12_sort_148 ⟨by unfold zrI; omega, by decide⟩ ?_
    refine zr_iload (pc := 150) S dX12_sort_150 rfl ?_
    refine zr_imul (pc := 152) S dX12_sort_152 (by unfold zrI; omega) ?_
    refine zr_iadd (pc := 153) S dX12_sort_153 (by unfold zrI; omega) ?_
    refine zr_iconst (pc := 154) S dX12_sort_154 (by unfold zrI; omega) ?_
    refine zr_iadd (pc := 155) S dX12_sort_155 (by unfold zrI; omega) ?_
    refine zr_iload_n (pc := 156) S dX12_sort_156 rfl ?_
    refine zr_iastore (pc := 157) S dX12_sort_157 rfl (Nat.le_of_ble_eq_true rfl) (by omega) (by omega) ?_
    rw [e2]
    refine zr_iload (pc := 158) S dX12_sort_158 rfl ?_
    exact zr_iret (pc := 160) S dX12_sort_160 rfl ⟨Nat.le_refl _, Nat.le_refl _⟩ (hQ)
  | n + 1, i, hn => by
    have e0 : ((15 : Int) + 11 * (s : Int) + (i : Int)).toNat = 15 + 11 * s + i := by omega
    have nx := lp_X12_sort S h8 hQ n (i + 1) (by omega)
    rw [← zfl0_s, Int.natCast_add, Int.natCast_one] at nx
    refine zr_iload (pc := 82) S dX12_sort_82 rfl ?_
    refine zr_bipush (pc := 84) S dX12_sort_84 ⟨by unfold zrI; omega, by decide⟩ ?_
    refine zr_icmp_ge (pc := 86) (tgt := 112) S dX12_sort_86 (by decide) (fun c86 => absurd c86 (by omega)) (fun c86 => ?_)
    refine zr_aload_n (pc := 89) S dX12_sort_89 rfl ?_
    refine zr_getR (pc := 90) S fX12_sort_9 dX12_sort_90 rfl (Nat.le_of_ble_eq_true rfl) rfl ?_
    refine zr_bipush (pc := 93) S dX12_sort_93 ⟨by unfold zrI; omega, by decide⟩ ?_
    refine zr_bipush (pc := 95) S dX12_sort_95 ⟨by unfold zrI; omega, by decide⟩ ?_
    refine zr_iload (pc := 97) S dX12_sort_97 rfl ?_
    refine zr_imul (pc := 99) S dX12_sort_99 (by unfold zrI; omega) ?_
    refine zr_iadd (pc := 100) S dX12_sort_100 (by unfold zrI; omega) ?_
    refine zr_iload (pc := 101) S dX12_sort_101 rfl ?_
    refine zr_iadd (pc := 103) S dX12_sort_103 (by unfold zrI; omega) ?_
    refine zr_iconst (pc := 104) S dX12_sort_104 (by unfold zrI; omega) ?_
    refine zr_iastore (pc := 105) S dX12_sort_105 rfl (Nat.le_of_ble_eq_true rfl) (by omega) (by omega) ?_
    rw [e0]
    refine zr_iinc (pc := 106) S dX12_sort_106 rfl (by unfold zrI; omega) (by decide) ?_
    dsimp only [zst1, zst2, zset, zget, zlong]
    refine zr_goto (pc := 109) (tgt := 82) S dX12_sort_109 (by decide) ?_
    exact nx
def sp_X12_sort (as : List zV) (M : zM) (Q : Option zV → zM → Prop) : Prop := ∃ (v a b : Int), as = [zR 180, zI v, zI a, zI b] ∧ (0 ≤ M 181 0 ∧ M 181 0 ≤ 8) ∧ ((0 ≤ v ∧ v ≤ 200) → (0 ≤ a ∧ a ≤ 999) → (a ≤ b ∧ b ≤ 999) → ∀ s : Nat, M 181 0 = s → s < 8 → Q (some (zI s)) (sortM M s v a b)) ∧ ((0 ≤ v ∧ v ≤ 200) → (0 ≤ a ∧ a ≤ 999) → (a ≤ b ∧ b ≤ 999) → M 181 0 = 8 → Q (some (zI (-1))) (tz M 0)) ∧ (¬ ((0 ≤ v ∧ v ≤ 200) ∧ (0 ≤ a ∧ a ≤ 999) ∧ (a ≤ b ∧ b ≤ 999)) → Q (some (zI 0)) (tz (tz M 0) 1))
theorem us_X12_sort {v a b : Int} {M : zM} {Q : Option zV → zM → Prop} (h0 : 0 ≤ M 181 0 ∧ M 181 0 ≤ 8) (hQ : (0 ≤ v ∧ v ≤ 200) → (0 ≤ a ∧ a ≤ 999) → (a ≤ b ∧ b ≤ 999) → ∀ s : Nat, M 181 0 = s → s < 8 → Q (some (zI s)) (sortM M s v a b)) (hF : (0 ≤ v ∧ v ≤ 200) → (0 ≤ a ∧ a ≤ 999) → (a ≤ b ∧ b ≤ 999) → M 181 0 = 8 → Q (some (zI (-1))) (tz M 0)) (hT : ¬ ((0 ≤ v ∧ v ≤ 200) ∧ (0 ≤ a ∧ a ≤ 999) ∧ (a ≤ b ∧ b ≤ 999)) → Q (some (zI 0)) (tz (tz M 0) 1)) : sp_X12_sort [zR 180, zI v, zI a, zI b] M Q := ⟨v, a, b, rfl, h0, hQ, hF, hT⟩
set_option maxRecDepth 20000 in
set_option maxHeartbeats 4000000 in
theorem m_X12_sort (l : Launch) : zC l yX12_sort wzX12_sort rmX12_sort sp_X12_sort := by
  refine zMet.of RX12 (by decide +kernel) rfl rfl ?_
  intro E X as M Qp hX S hsp
  obtain ⟨v, a, b, rfl, h0, hQ, hF, hT⟩ := hsp
  refine ⟨Nat.le_of_ble_eq_true rfl, ?_⟩
  dsimp only [zpad, zargs]
  obtain ⟨s, hs⟩ : ∃ s : Nat, M 181 0 = s := ⟨(M 181 0).toNat, by omega⟩
  refine zr_aload_n (pc := 0) S dX12_sort_0 rfl ?_
  refine zr_iconst (pc := 1) S dX12_sort_1 (by unfold zrI; omega) ?_
  refine zr_putI (pc := 2) S pX12_sort_80 dX12_sort_2 rfl (Nat.le_of_ble_eq_true rfl) rfl ?_
  refine zr_iload_n (pc := 5) S dX12_sort_5 rfl ?_
  refine zr_i2l (pc := 6) S dX12_sort_6 ?_
  refine zr_lconst0 (pc := 7) S dX12_sort_7 ?_
  refine zr_ldc2 (pc := 8) S (200) dX12_sort_8 (List.mem_cons_of_mem _ (zWi_7 _ (List.mem_of_getElem? (i := 32) rfl))) (by unfold zrL; omega) ?_
  refine zr_invS (pc := 11) S [zL _, zL _, zL _] (m_X12_within _) kX12_sort_83 dX12_sort_11 (Nat.le_of_ble_eq_true rfl) ⟨Nat.le_of_ble_eq_true rfl, Nat.le_of_ble_eq_true rfl⟩ (us_X12_within ?_)
  dsimp only [zaft, Option.toList, List.cons_append, List.nil_append, Nat.add_zero]
  refine zr_if_eq (pc := 14) (tgt := 42) S dX12_sort_14 (by decide) (fun c14 => ?_) (fun c14 => ?_)
  · rw [b01_0] at c14
    have f := hT (fun z => c14 z.1)
    refine zr_aload_n (pc := 42) S dX12_sort_42 rfl ?_
    refine zr_iconst (pc := 43) S dX12_sort_43 (by unfold zrI; omega) ?_
    refine zr_invV (pc := 44) S [zI _] (m_X12_fails _) kX12_sort_95 dX12_sort_44 rfl (Nat.le_of_ble_eq_true rfl) rfl (Nat.le_of_ble_eq_true rfl) ⟨Nat.le_of_ble_eq_true rfl, Nat.le_of_ble_eq_true rfl⟩ (us_X12_fails ?_)
    dsimp only [zaft, Option.toList, List.cons_append, List.nil_append, Nat.add_zero]
    exact zr_iret (pc := 47) S dX12_sort_47 rfl ⟨Nat.le_refl _, Nat.le_refl _⟩ (f)
  · rw [b01_0, Classical.not_not] at c14
    refine zr_iload_n (pc := 17) S dX12_sort_17 rfl ?_
    refine zr_i2l (pc := 18) S dX12_sort_18 ?_
    refine zr_lconst0 (pc := 19) S dX12_sort_19 ?_
    refine zr_ldc2 (pc := 20) S (999) dX12_sort_20 (List.mem_cons_of_mem _ (zWi_7 _ (List.mem_of_getElem? (i := 33) rfl))) (by unfold zrL; omega) ?_
    refine zr_invS (pc := 23) S [zL _, zL _, zL _] (m_X12_within _) kX12_sort_83 dX12_sort_23 (Nat.le_of_ble_eq_true rfl) ⟨Nat.le_of_ble_eq_true rfl, Nat.le_of_ble_eq_true rfl⟩ (us_X12_within ?_)
    dsimp only [zaft, Option.toList, List.cons_append, List.nil_append, Nat.add_zero]
    refine zr_if_eq (pc := 26) (tgt := 42) S dX12_sort_26 (by decide) (fun c26 => ?_) (fun c26 => ?_)
    · rw [b01_0] at c26
      have f := hT (fun z => c26 z.2.1)
      refine zr_aload_n (pc := 42) S dX12_sort_42 rfl ?_
      refine zr_iconst (pc := 43) S dX12_sort_43 (by unfold zrI; omega) ?_
      refine zr_invV (pc := 44) S [zI _] (m_X12_fails _) kX12_sort_95 dX12_sort_44 rfl (Nat.le_of_ble_eq_true rfl) rfl (Nat.le_of_ble_eq_true rfl) ⟨Nat.le_of_ble_eq_true rfl, Nat.le_of_ble_eq_true rfl⟩ (us_X12_fails ?_)
      dsimp only [zaft, Option.toList, List.cons_append, List.nil_append, Nat.add_zero]
      exact zr_iret (pc := 47) S dX12_sort_47 rfl ⟨Nat.le_refl _, Nat.le_refl _⟩ (f)
    · rw [b01_0, Classical.not_not] at c26
      refine zr_iload_n (pc := 29) S dX12_sort_29 rfl ?_
      refine zr_i2l (pc := 30) S dX12_sort_30 ?_
      refine zr_iload_n (pc := 31) S dX12_sort_31 rfl ?_
      refine zr_i2l (pc := 32) S dX12_sort_32 ?_
      refine zr_ldc2 (pc := 33) S (999) dX12_sort_33 (List.mem_cons_of_mem _ (zWi_7 _ (List.mem_of_getElem? (i := 33) rfl))) (by unfold zrL; omega) ?_
      refine zr_invS (pc := 36) S [zL _, zL _, zL _] (m_X12_within _) kX12_sort_83 dX12_sort_36 (Nat.le_of_ble_eq_true rfl) ⟨Nat.le_of_ble_eq_true rfl, Nat.le_of_ble_eq_true rfl⟩ (us_X12_within ?_)
      dsimp only [zaft, Option.toList, List.cons_append, List.nil_append, Nat.add_zero]
      refine zr_if_ne (pc := 39) (tgt := 48) S dX12_sort_39 (by decide) (fun c39 => ?_) (fun c39 => ?_)
      · rw [b01_0, Classical.not_not] at c39
        refine zr_aload_n (pc := 48) S dX12_sort_48 rfl ?_
        refine zr_getR (pc := 49) S fX12_sort_9 dX12_sort_49 rfl (Nat.le_of_ble_eq_true rfl) rfl ?_
        try simp only [zup_k, zup_e, ne_eq, Nat.reduceEqDiff, not_false_eq_true, zup_j]
        refine zr_iconst (pc := 52) S dX12_sort_52 (by unfold zrI; omega) ?_
        refine zr_iaload (pc := 53) S dX12_sort_53 rfl (Nat.le_of_ble_eq_true rfl) (by omega) (by omega) ?_
        dsimp only [Int.reduceToNat]
        try simp only [zup_k, zup_e, ne_eq, Nat.reduceEqDiff, not_false_eq_true]
        rw [hs]
        refine zr_bipush (pc := 54) S dX12_sort_54 ⟨by unfold zrI; omega, by decide⟩ ?_
        refine zr_icmp_ne (pc := 56) (tgt := 61) S dX12_sort_56 (by decide) (fun c56 => ?_) (fun c56 => ?_)
        · have q := hQ c14 c26 c39 s hs (by omega)
          refine zr_aload_n (pc := 61) S dX12_sort_61 rfl ?_
          refine zr_getR (pc := 62) S fX12_sort_9 dX12_sort_62 rfl (Nat.le_of_ble_eq_true rfl) rfl ?_
          try simp only [zup_k, zup_e, ne_eq, Nat.reduceEqDiff, not_false_eq_true, zup_j]
          refine zr_iconst (pc := 65) S dX12_sort_65 (by unfold zrI; omega) ?_
          refine zr_iaload (pc := 66) S dX12_sort_66 rfl (Nat.le_of_ble_eq_true rfl) (by omega) (by omega) ?_
          dsimp only [Int.reduceToNat]
          try simp only [zup_k, zup_e, ne_eq, Nat.reduceEqDiff, not_false_eq_true]
          rw [hs]
          refine zr_istore (pc := 67) S dX12_sort_67 (by decide) ?_
          dsimp only [zst1, zst2, zset, zget, zlong]
          refine zr_aload_n (pc := 69) S dX12_sort_69 rfl ?_
          refine zr_getR (pc := 70) S fX12_sort_9 dX12_sort_70 rfl (Nat.le_of_ble_eq_true rfl) rfl ?_
          try simp only [zup_k, zup_e, ne_eq, Nat.reduceEqDiff, not_false_eq_true, zup_j]
          refine zr_iconst (pc := 73) S dX12_sort_73 (by unfold zrI; omega) ?_
          refine zr_dup2 (pc := 74) S dX12_sort_74 rfl rfl ?_
          refine zr_iaload (pc := 75) S dX12_sort_75 rfl (Nat.le_of_ble_eq_true rfl) (by omega) (by omega) ?_
          try simp only [zup_k, zup_e, ne_eq, Nat.reduceEqDiff, not_false_eq_true]
          rw [show M 181 (Int.toNat 0) = (s : Int) from hs]
          refine zr_iconst (pc := 76) S dX12_sort_76 (by unfold zrI; omega) ?_
          refine zr_iadd (pc := 77) S dX12_sort_77 (by unfold zrI; omega) ?_
          refine zr_iastore (pc := 78) S dX12_sort_78 rfl (Nat.le_of_ble_eq_true rfl) (by omega) (by omega) ?_
          refine zr_iconst (pc := 79) S dX12_sort_79 (by unfold zrI; omega) ?_
          refine zr_istore (pc := 80) S dX12_sort_80 (by decide) ?_
          dsimp only [zst1, zst2, zset, zget, zlong]
          have l := lp_X12_sort (E := E) (X := X) (Qp := Qp) S (by omega) q 11 0 (by omega)
          rw [zfl0_0] at l
          exact l
        · have f := hF c14 c26 c39 (by omega)
          refine zr_iconst (pc := 59) S dX12_sort_59 (by unfold zrI; omega) ?_
          exact zr_iret (pc := 60) S dX12_sort_60 rfl ⟨Nat.le_refl _, Nat.le_refl _⟩ (f)
      · rw [b01_0] at c39
        have f := hT (fun z => c39 z.2.2)
        refine zr_aload_n (pc := 42) S dX12_sort_42 rfl ?_
        refine zr_iconst (pc := 43) S dX12_sort_43 (by unfold zrI; omega) ?_
        refine zr_invV (pc := 44) S [zI _] (m_X12_fails _) kX12_sort_95 dX12_sort_44 rfl (Nat.le_of_ble_eq_true rfl) rfl (Nat.le_of_ble_eq_true rfl) ⟨Nat.le_of_ble_eq_true rfl, Nat.le_of_ble_eq_true rfl⟩ (us_X12_fails ?_)
        dsimp only [zaft, Option.toList, List.cons_append, List.nil_append, Nat.add_zero]
        exact zr_iret (pc := 47) S dX12_sort_47 rfl ⟨Nat.le_refl _, Nat.le_refl _⟩ (f)
def sp_X12_span (as : List zV) (M : zM) (Q : Option zV → zM → Prop) : Prop := ∃ (s m a b : Int), as = [zR 180, zI s, zI m, zI a, zI b] ∧ (0 ≤ M 181 0 ∧ M 181 0 ≤ 8) ∧ ((0 ≤ s ∧ s < M 181 0) → (0 ≤ m ∧ m ≤ 2) → (0 ≤ a ∧ a ≤ 99) → (a ≤ b ∧ b ≤ 99) → Q none (zup (zup (tz M 0) 181 (15 + 11 * s + 3 + 2 * m).toNat a) 181 (15 + 11 * s + 3 + 2 * m + 1).toNat b)) ∧ (¬ ((0 ≤ s ∧ s < M 181 0) ∧ (0 ≤ m ∧ m ≤ 2)) → Q none (tz M 1)) ∧ ((0 ≤ s ∧ s < M 181 0) → (0 ≤ m ∧ m ≤ 2) → ¬ ((0 ≤ a ∧ a ≤ 99) ∧ (a ≤ b ∧ b ≤ 99)) → Q none (tz M 2))
theorem us_X12_span {s m a b : Int} {M : zM} {Q : Option zV → zM → Prop} (h0 : 0 ≤ M 181 0 ∧ M 181 0 ≤ 8) (hQ : (0 ≤ s ∧ s < M 181 0) → (0 ≤ m ∧ m ≤ 2) → (0 ≤ a ∧ a ≤ 99) → (a ≤ b ∧ b ≤ 99) → Q none (zup (zup (tz M 0) 181 (15 + 11 * s + 3 + 2 * m).toNat a) 181 (15 + 11 * s + 3 + 2 * m + 1).toNat b)) (hT : ¬ ((0 ≤ s ∧ s < M 181 0) ∧ (0 ≤ m ∧ m ≤ 2)) → Q none (tz M 1)) (hU : (0 ≤ s ∧ s < M 181 0) → (0 ≤ m ∧ m ≤ 2) → ¬ ((0 ≤ a ∧ a ≤ 99) ∧ (a ≤ b ∧ b ≤ 99)) → Q none (tz M 2)) : sp_X12_span [zR 180, zI s, zI m, zI a, zI b] M Q := ⟨s, m, a, b, rfl, h0, hQ, hT, hU⟩
set_option maxRecDepth 20000 in
set_option maxHeartbeats 4000000 in
theorem m_X12_span (l : Launch) : zC l yX12_span wzX12_span rmX12_span sp_X12_span := by
  refine zMet.of RX12 (by decide +kernel) rfl rfl ?_
  intro E X as M Qp hX S hsp
  obtain ⟨s, m, a, b, rfl, h0, hQ, hT, hU⟩ := hsp
  refine ⟨Nat.le_of_ble_eq_true rfl, ?_⟩
  dsimp only [zpad, zargs]
  refine zr_aload_n (pc := 0) S dX12_span_0 rfl ?_
  refine zr_aload_n (pc := 1) S dX12_span_1 rfl ?_
  refine zr_iload_n (pc := 2) S dX12_span_2 rfl ?_
  refine zr_invV (pc := 3) S [zI _] (m_X12_isSort _) kX12_span_99 dX12_span_3 rfl (Nat.le_of_ble_eq_true rfl) rfl (Nat.le_of_ble_eq_true rfl) ⟨Nat.le_of_ble_eq_true rfl, Nat.le_of_ble_eq_true rfl⟩ (us_X12_isSort h0.1 ?_)
  dsimp only [zaft, Option.toList, List.cons_append, List.nil_append, Nat.add_zero]
  refine zr_if_eq (pc := 6) (tgt := 21) S dX12_span_6 (by decide) (fun c6 => ?_) (fun c6 => ?_)
  · rw [b01_0] at c6
    have f := hT (fun z => c6 (by omega))
    refine zr_iconst (pc := 21) S dX12_span_21 (by unfold zrI; omega) ?_
    refine zr_goto (pc := 22) (tgt := 56) S dX12_span_22 (by decide) ?_
    refine zr_putI (pc := 56) S pX12_span_80 dX12_span_56 rfl (Nat.le_of_ble_eq_true rfl) rfl ?_
    refine zr_aload_n (pc := 59) S dX12_span_59 rfl ?_
    refine zr_getI (pc := 60) S fX12_span_80 dX12_span_60 rfl (Nat.le_of_ble_eq_true rfl) rfl ?_
    try simp only [zup_k, zup_e, ne_eq, Nat.reduceEqDiff, not_false_eq_true, zup_j]
    refine zr_if_le (pc := 63) (tgt := 67) S dX12_span_63 (by decide) (fun c63 => ?_) (fun c63 => ?_)
    · refine zr_aload_n (pc := 67) S dX12_span_67 rfl ?_
      refine zr_getR (pc := 68) S fX12_span_9 dX12_span_68 rfl (Nat.le_of_ble_eq_true rfl) rfl ?_
      try simp only [zup_k, zup_e, ne_eq, Nat.reduceEqDiff, not_false_eq_true, zup_j]
      refine zr_bipush (pc := 71) S dX12_span_71 ⟨by unfold zrI; omega, by decide⟩ ?_
      refine zr_bipush (pc := 73) S dX12_span_73 ⟨by unfold zrI; omega, by decide⟩ ?_
      refine zr_iload_n (pc := 75) S dX12_span_75 rfl ?_
      refine zr_imul (pc := 76) S dX12_span_76 (by unfold zrI; omega) ?_
      refine zr_iadd (pc := 77) S dX12_span_77 (by unfold zrI; omega) ?_
      refine zr_iconst (pc := 78) S dX12_span_78 (by unfold zrI; omega) ?_
      refine zr_iadd (pc := 79) S dX12_span_79 (by unfold zrI; omega) ?_
      refine zr_iconst (pc := 80) S dX12_span_80 (by unfold zrI; omega) ?_
      refine zr_iload_n (pc := 81) S dX12_span_81 rfl ?_
      refine zr_imul (pc := 82) S dX12_span_82 (by unfold zrI; omega) ?_
      refine zr_iadd (pc := 83) S dX12_span_83 (by unfold zrI; omega) ?_
      refine zr_iload_n (pc := 84) S dX12_span_84 rfl ?_
      refine zr_iastore (pc := 85) S dX12_span_85 rfl (Nat.le_of_ble_eq_true rfl) (by omega) (by omega) ?_
      refine zr_aload_n (pc := 86) S dX12_span_86 rfl ?_
      refine zr_getR (pc := 87) S fX12_span_9 dX12_span_87 rfl (Nat.le_of_ble_eq_true rfl) rfl ?_
      try simp only [zup_k, zup_e, ne_eq, Nat.reduceEqDiff, not_false_eq_true, zup_j]
      refine zr_bipush (pc := 90) S dX12_span_90 ⟨by unfold zrI; omega, by decide⟩ ?_
      refine zr_bipush (pc := 92) S dX12_span_92 ⟨by unfold zrI; omega, by decide⟩ ?_
      refine zr_iload_n (pc := 94) S dX12_span_94 rfl ?_
      refine zr_imul (pc := 95) S dX12_span_95 (by unfold zrI; omega) ?_
      refine zr_iadd (pc := 96) S dX12_span_96 (by unfold zrI; omega) ?_
      refine zr_iconst (pc := 97) S dX12_span_97 (by unfold zrI; omega) ?_
      refine zr_iadd (pc := 98) S dX12_span_98 (by unfold zrI; omega) ?_
      refine zr_iconst (pc := 99) S dX12_span_99 (by unfold zrI; omega) ?_
      refine zr_iload_n (pc := 100) S dX12_span_100 rfl ?_
      refine zr_imul (pc := 101) S dX12_span_101 (by unfold zrI; omega) ?_
      refine zr_iadd (pc := 102) S dX12_span_102 (by unfold zrI; omega) ?_
      refine zr_iconst (pc := 103) S dX12_span_103 (by unfold zrI; omega) ?_
      refine zr_iadd (pc := 104) S dX12_span_104 (by unfold zrI; omega) ?_
      refine zr_iload (pc := 105) S dX12_span_105 rfl ?_
      refine zr_iastore (pc := 107) S dX12_span_107 rfl (Nat.le_of_ble_eq_true rfl) (by omega) (by omega) ?_
      exact zr_vret (pc := 108) S dX12_span_108 rfl ⟨Nat.le_refl _, Nat.le_refl _⟩ (by first | exact f | exact absurd c63 (by omega) | omega)
    · exact zr_vret (pc := 66) S dX12_span_66 rfl ⟨Nat.le_refl _, Nat.le_refl _⟩ (by first | exact f | exact absurd c63 (by omega) | omega)
  · rw [b01_0, Classical.not_not] at c6
    refine zr_iload_n (pc := 9) S dX12_span_9 rfl ?_
    refine zr_i2l (pc := 10) S dX12_span_10 ?_
    refine zr_lconst0 (pc := 11) S dX12_span_11 ?_
    refine zr_ldc2 (pc := 12) S (2) dX12_span_12 (List.mem_cons_of_mem _ (zWi_7 _ (List.mem_of_getElem? (i := 20) rfl))) (by unfold zrL; omega) ?_
    refine zr_invS (pc := 15) S [zL _, zL _, zL _] (m_X12_within _) kX12_span_83 dX12_span_15 (Nat.le_of_ble_eq_true rfl) ⟨Nat.le_of_ble_eq_true rfl, Nat.le_of_ble_eq_true rfl⟩ (us_X12_within ?_)
    dsimp only [zaft, Option.toList, List.cons_append, List.nil_append, Nat.add_zero]
    refine zr_if_ne (pc := 18) (tgt := 25) S dX12_span_18 (by decide) (fun c18 => ?_) (fun c18 => ?_)
    · rw [b01_0, Classical.not_not] at c18
      refine zr_iload_n (pc := 25) S dX12_span_25 rfl ?_
      refine zr_i2l (pc := 26) S dX12_span_26 ?_
      refine zr_lconst0 (pc := 27) S dX12_span_27 ?_
      refine zr_ldc2 (pc := 28) S (99) dX12_span_28 (List.mem_cons_of_mem _ (zWi_7 _ (List.mem_of_getElem? (i := 21) rfl))) (by unfold zrL; omega) ?_
      refine zr_invS (pc := 31) S [zL _, zL _, zL _] (m_X12_within _) kX12_span_83 dX12_span_31 (Nat.le_of_ble_eq_true rfl) ⟨Nat.le_of_ble_eq_true rfl, Nat.le_of_ble_eq_true rfl⟩ (us_X12_within ?_)
      dsimp only [zaft, Option.toList, List.cons_append, List.nil_append, Nat.add_zero]
      refine zr_if_eq (pc := 34) (tgt := 51) S dX12_span_34 (by decide) (fun c34 => ?_) (fun c34 => ?_)
      · rw [b01_0] at c34
        have f := hU (by omega) c18 (fun z => c34 z.1)
        refine zr_iconst (pc := 51) S dX12_span_51 (by unfold zrI; omega) ?_
        refine zr_goto (pc := 52) (tgt := 56) S dX12_span_52 (by decide) ?_
        refine zr_putI (pc := 56) S pX12_span_80 dX12_span_56 rfl (Nat.le_of_ble_eq_true rfl) rfl ?_
        refine zr_aload_n (pc := 59) S dX12_span_59 rfl ?_
        refine zr_getI (pc := 60) S fX12_span_80 dX12_span_60 rfl (Nat.le_of_ble_eq_true rfl) rfl ?_
        try simp only [zup_k, zup_e, ne_eq, Nat.reduceEqDiff, not_false_eq_true, zup_j]
        refine zr_if_le (pc := 63) (tgt := 67) S dX12_span_63 (by decide) (fun c63 => ?_) (fun c63 => ?_)
        · refine zr_aload_n (pc := 67) S dX12_span_67 rfl ?_
          refine zr_getR (pc := 68) S fX12_span_9 dX12_span_68 rfl (Nat.le_of_ble_eq_true rfl) rfl ?_
          try simp only [zup_k, zup_e, ne_eq, Nat.reduceEqDiff, not_false_eq_true, zup_j]
          refine zr_bipush (pc := 71) S dX12_span_71 ⟨by unfold zrI; omega, by decide⟩ ?_
          refine zr_bipush (pc := 73) S dX12_span_73 ⟨by unfold zrI; omega, by decide⟩ ?_
          refine zr_iload_n (pc := 75) S dX12_span_75 rfl ?_
          refine zr_imul (pc := 76) S dX12_span_76 (by unfold zrI; omega) ?_
          refine zr_iadd (pc := 77) S dX12_span_77 (by unfold zrI; omega) ?_
          refine zr_iconst (pc := 78) S dX12_span_78 (by unfold zrI; omega) ?_
          refine zr_iadd (pc := 79) S dX12_span_79 (by unfold zrI; omega) ?_
          refine zr_iconst (pc := 80) S dX12_span_80 (by unfold zrI; omega) ?_
          refine zr_iload_n (pc := 81) S dX12_span_81 rfl ?_
          refine zr_imul (pc := 82) S dX12_span_82 (by unfold zrI; omega) ?_
          refine zr_iadd (pc := 83) S dX12_span_83 (by unfold zrI; omega) ?_
          refine zr_iload_n (pc := 84) S dX12_span_84 rfl ?_
          refine zr_iastore (pc := 85) S dX12_span_85 rfl (Nat.le_of_ble_eq_true rfl) (by omega) (by omega) ?_
          refine zr_aload_n (pc := 86) S dX12_span_86 rfl ?_
          refine zr_getR (pc := 87) S fX12_span_9 dX12_span_87 rfl (Nat.le_of_ble_eq_true rfl) rfl ?_
          try simp only [zup_k, zup_e, ne_eq, Nat.reduceEqDiff, not_false_eq_true, zup_j]
          refine zr_bipush (pc := 90) S dX12_span_90 ⟨by unfold zrI; omega, by decide⟩ ?_
          refine zr_bipush (pc := 92) S dX12_span_92 ⟨by unfold zrI; omega, by decide⟩ ?_
          refine zr_iload_n (pc := 94) S dX12_span_94 rfl ?_
          refine zr_imul (pc := 95) S dX12_span_95 (by unfold zrI; omega) ?_
          refine zr_iadd (pc := 96) S dX12_span_96 (by unfold zrI; omega) ?_
          refine zr_iconst (pc := 97) S dX12_span_97 (by unfold zrI; omega) ?_
          refine zr_iadd (pc := 98) S dX12_span_98 (by unfold zrI; omega) ?_
          refine zr_iconst (pc := 99) S dX12_span_99 (by unfold zrI; omega) ?_
          refine zr_iload_n (pc := 100) S dX12_span_100 rfl ?_
          refine zr_imul (pc := 101) S dX12_span_101 (by unfold zrI; omega) ?_
          refine zr_iadd (pc := 102) S dX12_span_102 (by unfold zrI; omega) ?_
          refine zr_iconst (pc := 103) S dX12_span_103 (by unfold zrI; omega) ?_
          refine zr_iadd (pc := 104) S dX12_span_104 (by unfold zrI; omega) ?_
          refine zr_iload (pc := 105) S dX12_span_105 rfl ?_
          refine zr_iastore (pc := 107) S dX12_span_107 rfl (Nat.le_of_ble_eq_true rfl) (by omega) (by omega) ?_
          exact zr_vret (pc := 108) S dX12_span_108 rfl ⟨Nat.le_refl _, Nat.le_refl _⟩ (by first | exact f | exact absurd c63 (by omega) | omega)
        · exact zr_vret (pc := 66) S dX12_span_66 rfl ⟨Nat.le_refl _, Nat.le_refl _⟩ (by first | exact f | exact absurd c63 (by omega) | omega)
      · rw [b01_0, Classical.not_not] at c34
        refine zr_iload (pc := 37) S dX12_span_37 rfl ?_
        refine zr_i2l (pc := 39) S dX12_span_39 ?_
        refine zr_iload_n (pc := 40) S dX12_span_40 rfl ?_
        refine zr_i2l (pc := 41) S dX12_span_41 ?_
        refine zr_ldc2 (pc := 42) S (99) dX12_span_42 (List.mem_cons_of_mem _ (zWi_7 _ (List.mem_of_getElem? (i := 21) rfl))) (by unfold zrL; omega) ?_
        refine zr_invS (pc := 45) S [zL _, zL _, zL _] (m_X12_within _) kX12_span_83 dX12_span_45 (Nat.le_of_ble_eq_true rfl) ⟨Nat.le_of_ble_eq_true rfl, Nat.le_of_ble_eq_true rfl⟩ (us_X12_within ?_)
        dsimp only [zaft, Option.toList, List.cons_append, List.nil_append, Nat.add_zero]
        refine zr_if_ne (pc := 48) (tgt := 55) S dX12_span_48 (by decide) (fun c48 => ?_) (fun c48 => ?_)
        · rw [b01_0, Classical.not_not] at c48
          have f := hQ (by omega) c18 c34 c48
          refine zr_iconst (pc := 55) S dX12_span_55 (by unfold zrI; omega) ?_
          refine zr_putI (pc := 56) S pX12_span_80 dX12_span_56 rfl (Nat.le_of_ble_eq_true rfl) rfl ?_
          refine zr_aload_n (pc := 59) S dX12_span_59 rfl ?_
          refine zr_getI (pc := 60) S fX12_span_80 dX12_span_60 rfl (Nat.le_of_ble_eq_true rfl) rfl ?_
          try simp only [zup_k, zup_e, ne_eq, Nat.reduceEqDiff, not_false_eq_true, zup_j]
          refine zr_if_le (pc := 63) (tgt := 67) S dX12_span_63 (by decide) (fun c63 => ?_) (fun c63 => ?_)
          · refine zr_aload_n (pc := 67) S dX12_span_67 rfl ?_
            refine zr_getR (pc := 68) S fX12_span_9 dX12_span_68 rfl (Nat.le_of_ble_eq_true rfl) rfl ?_
            try simp only [zup_k, zup_e, ne_eq, Nat.reduceEqDiff, not_false_eq_true, zup_j]
            refine zr_bipush (pc := 71) S dX12_span_71 ⟨by unfold zrI; omega, by decide⟩ ?_
            refine zr_bipush (pc := 73) S dX12_span_73 ⟨by unfold zrI; omega, by decide⟩ ?_
            refine zr_iload_n (pc := 75) S dX12_span_75 rfl ?_
            refine zr_imul (pc := 76) S dX12_span_76 (by unfold zrI; omega) ?_
            refine zr_iadd (pc := 77) S dX12_span_77 (by unfold zrI; omega) ?_
            refine zr_iconst (pc := 78) S dX12_span_78 (by unfold zrI; omega) ?_
            refine zr_iadd (pc := 79) S dX12_span_79 (by unfold zrI; omega) ?_
            refine zr_iconst (pc := 80) S dX12_span_80 (by unfold zrI; omega) ?_
            refine zr_iload_n (pc := 81) S dX12_span_81 rfl ?_
            refine zr_imul (pc := 82) S dX12_span_82 (by unfold zrI; omega) ?_
            refine zr_iadd (pc := 83) S dX12_span_83 (by unfold zrI; omega) ?_
            refine zr_iload_n (pc := 84) S dX12_span_84 rfl ?_
            refine zr_iastore (pc := 85) S dX12_span_85 rfl (Nat.le_of_ble_eq_true rfl) (by omega) (by omega) ?_
            refine zr_aload_n (pc := 86) S dX12_span_86 rfl ?_
            refine zr_getR (pc := 87) S fX12_span_9 dX12_span_87 rfl (Nat.le_of_ble_eq_true rfl) rfl ?_
            try simp only [zup_k, zup_e, ne_eq, Nat.reduceEqDiff, not_false_eq_true, zup_j]
            refine zr_bipush (pc := 90) S dX12_span_90 ⟨by unfold zrI; omega, by decide⟩ ?_
            refine zr_bipush (pc := 92) S dX12_span_92 ⟨by unfold zrI; omega, by decide⟩ ?_
            refine zr_iload_n (pc := 94) S dX12_span_94 rfl ?_
            refine zr_imul (pc := 95) S dX12_span_95 (by unfold zrI; omega) ?_
            refine zr_iadd (pc := 96) S dX12_span_96 (by unfold zrI; omega) ?_
            refine zr_iconst (pc := 97) S dX12_span_97 (by unfold zrI; omega) ?_
            refine zr_iadd (pc := 98) S dX12_span_98 (by unfold zrI; omega) ?_
            refine zr_iconst (pc := 99) S dX12_span_99 (by unfold zrI; omega) ?_
            refine zr_iload_n (pc := 100) S dX12_span_100 rfl ?_
            refine zr_imul (pc := 101) S dX12_span_101 (by unfold zrI; omega) ?_
            refine zr_iadd (pc := 102) S dX12_span_102 (by unfold zrI; omega) ?_
            refine zr_iconst (pc := 103) S dX12_span_103 (by unfold zrI; omega) ?_
            refine zr_iadd (pc := 104) S dX12_span_104 (by unfold zrI; omega) ?_
            refine zr_iload (pc := 105) S dX12_span_105 rfl ?_
            refine zr_iastore (pc := 107) S dX12_span_107 rfl (Nat.le_of_ble_eq_true rfl) (by omega) (by omega) ?_
            exact zr_vret (pc := 108) S dX12_span_108 rfl ⟨Nat.le_refl _, Nat.le_refl _⟩ (by first | exact f | exact absurd c63 (by omega) | omega)
          · exact zr_vret (pc := 66) S dX12_span_66 rfl ⟨Nat.le_refl _, Nat.le_refl _⟩ (by first | exact f | exact absurd c63 (by omega) | omega)
        · rw [b01_0] at c48
          have f := hU (by omega) c18 (fun z => c48 z.2)
          refine zr_iconst (pc := 51) S dX12_span_51 (by unfold zrI; omega) ?_
          refine zr_goto (pc := 52) (tgt := 56) S dX12_span_52 (by decide) ?_
          refine zr_putI (pc := 56) S pX12_span_80 dX12_span_56 rfl (Nat.le_of_ble_eq_true rfl) rfl ?_
          refine zr_aload_n (pc := 59) S dX12_span_59 rfl ?_
          refine zr_getI (pc := 60) S fX12_span_80 dX12_span_60 rfl (Nat.le_of_ble_eq_true rfl) rfl ?_
          try simp only [zup_k, zup_e, ne_eq, Nat.reduceEqDiff, not_false_eq_true, zup_j]
          refine zr_if_le (pc := 63) (tgt := 67) S dX12_span_63 (by decide) (fun c63 => ?_) (fun c63 => ?_)
          · refine zr_aload_n (pc := 67) S dX12_span_67 rfl ?_
            refine zr_getR (pc := 68) S fX12_span_9 dX12_span_68 rfl (Nat.le_of_ble_eq_true rfl) rfl ?_
            try simp only [zup_k, zup_e, ne_eq, Nat.reduceEqDiff, not_false_eq_true, zup_j]
            refine zr_bipush (pc := 71) S dX12_span_71 ⟨by unfold zrI; omega, by decide⟩ ?_
            refine zr_bipush (pc := 73) S dX12_span_73 ⟨by unfold zrI; omega, by decide⟩ ?_
            refine zr_iload_n (pc := 75) S dX12_span_75 rfl ?_
            refine zr_imul (pc := 76) S dX12_span_76 (by unfold zrI; omega) ?_
            refine zr_iadd (pc := 77) S dX12_span_77 (by unfold zrI; omega) ?_
            refine zr_iconst (pc := 78) S dX12_span_78 (by unfold zrI; omega) ?_
            refine zr_iadd (pc := 79) S dX12_span_79 (by unfold zrI; omega) ?_
            refine zr_iconst (pc := 80) S dX12_span_80 (by unfold zrI; omega) ?_
            refine zr_iload_n (pc := 81) S dX12_span_81 rfl ?_
            refine zr_imul (pc := 82) S dX12_span_82 (by unfold zrI; omega) ?_
            refine zr_iadd (pc := 83) S dX12_span_83 (by unfold zrI; omega) ?_
            refine zr_iload_n (pc := 84) S dX12_span_84 rfl ?_
            refine zr_iastore (pc := 85) S dX12_span_85 rfl (Nat.le_of_ble_eq_true rfl) (by omega) (by omega) ?_
            refine zr_aload_n (pc := 86) S dX12_span_86 rfl ?_
            refine zr_getR (pc := 87) S fX12_span_9 dX12_span_87 rfl (Nat.le_of_ble_eq_true rfl) rfl ?_
            try simp only [zup_k, zup_e, ne_eq, Nat.reduceEqDiff, not_false_eq_true, zup_j]
            refine zr_bipush (pc := 90) S dX12_span_90 ⟨by unfold zrI; omega, by decide⟩ ?_
            refine zr_bipush (pc := 92) S dX12_span_92 ⟨by unfold zrI; omega, by decide⟩ ?_
            refine zr_iload_n (pc := 94) S dX12_span_94 rfl ?_
            refine zr_imul (pc := 95) S dX12_span_95 (by unfold zrI; omega) ?_
            refine zr_iadd (pc := 96) S dX12_span_96 (by unfold zrI; omega) ?_
            refine zr_iconst (pc := 97) S dX12_span_97 (by unfold zrI; omega) ?_
            refine zr_iadd (pc := 98) S dX12_span_98 (by unfold zrI; omega) ?_
            refine zr_iconst (pc := 99) S dX12_span_99 (by unfold zrI; omega) ?_
            refine zr_iload_n (pc := 100) S dX12_span_100 rfl ?_
            refine zr_imul (pc := 101) S dX12_span_101 (by unfold zrI; omega) ?_
            refine zr_iadd (pc := 102) S dX12_span_102 (by unfold zrI; omega) ?_
            refine zr_iconst (pc := 103) S dX12_span_103 (by unfold zrI; omega) ?_
            refine zr_iadd (pc := 104) S dX12_span_104 (by unfold zrI; omega) ?_
            refine zr_iload (pc := 105) S dX12_span_105 rfl ?_
            refine zr_iastore (pc := 107) S dX12_span_107 rfl (Nat.le_of_ble_eq_true rfl) (by omega) (by omega) ?_
            exact zr_vret (pc := 108) S dX12_span_108 rfl ⟨Nat.le_refl _, Nat.le_refl _⟩ (by first | exact f | exact absurd c63 (by omega) | omega)
          · exact zr_vret (pc := 66) S dX12_span_66 rfl ⟨Nat.le_refl _, Nat.le_refl _⟩ (by first | exact f | exact absurd c63 (by omega) | omega)
    · rw [b01_0] at c18
      have f := hT (fun z => c18 z.2)
      refine zr_iconst (pc := 21) S dX12_span_21 (by unfold zrI; omega) ?_
      refine zr_goto (pc := 22) (tgt := 56) S dX12_span_22 (by decide) ?_
      refine zr_putI (pc := 56) S pX12_span_80 dX12_span_56 rfl (Nat.le_of_ble_eq_true rfl) rfl ?_
      refine zr_aload_n (pc := 59) S dX12_span_59 rfl ?_
      refine zr_getI (pc := 60) S fX12_span_80 dX12_span_60 rfl (Nat.le_of_ble_eq_true rfl) rfl ?_
      try simp only [zup_k, zup_e, ne_eq, Nat.reduceEqDiff, not_false_eq_true, zup_j]
      refine zr_if_le (pc := 63) (tgt := 67) S dX12_span_63 (by decide) (fun c63 => ?_) (fun c63 => ?_)
      · refine zr_aload_n (pc := 67) S dX12_span_67 rfl ?_
        refine zr_getR (pc := 68) S fX12_span_9 dX12_span_68 rfl (Nat.le_of_ble_eq_true rfl) rfl ?_
        try simp only [zup_k, zup_e, ne_eq, Nat.reduceEqDiff, not_false_eq_true, zup_j]
        refine zr_bipush (pc := 71) S dX12_span_71 ⟨by unfold zrI; omega, by decide⟩ ?_
        refine zr_bipush (pc := 73) S dX12_span_73 ⟨by unfold zrI; omega, by decide⟩ ?_
        refine zr_iload_n (pc := 75) S dX12_span_75 rfl ?_
        refine zr_imul (pc := 76) S dX12_span_76 (by unfold zrI; omega) ?_
        refine zr_iadd (pc := 77) S dX12_span_77 (by unfold zrI; omega) ?_
        refine zr_iconst (pc := 78) S dX12_span_78 (by unfold zrI; omega) ?_
        refine zr_iadd (pc := 79) S dX12_span_79 (by unfold zrI; omega) ?_
        refine zr_iconst (pc := 80) S dX12_span_80 (by unfold zrI; omega) ?_
        refine zr_iload_n (pc := 81) S dX12_span_81 rfl ?_
        refine zr_imul (pc := 82) S dX12_span_82 (by unfold zrI; omega) ?_
        refine zr_iadd (pc := 83) S dX12_span_83 (by unfold zrI; omega) ?_
        refine zr_iload_n (pc := 84) S dX12_span_84 rfl ?_
        refine zr_iastore (pc := 85) S dX12_span_85 rfl (Nat.le_of_ble_eq_true rfl) (by omega) (by omega) ?_
        refine zr_aload_n (pc := 86) S dX12_span_86 rfl ?_
        refine zr_getR (pc := 87) S fX12_span_9 dX12_span_87 rfl (Nat.le_of_ble_eq_true rfl) rfl ?_
        try simp only [zup_k, zup_e, ne_eq, Nat.reduceEqDiff, not_false_eq_true, zup_j]
        refine zr_bipush (pc := 90) S dX12_span_90 ⟨by unfold zrI; omega, by decide⟩ ?_
        refine zr_bipush (pc := 92) S dX12_span_92 ⟨by unfold zrI; omega, by decide⟩ ?_
        refine zr_iload_n (pc := 94) S dX12_span_94 rfl ?_
        refine zr_imul (pc := 95) S dX12_span_95 (by unfold zrI; omega) ?_
        refine zr_iadd (pc := 96) S dX12_span_96 (by unfold zrI; omega) ?_
        refine zr_iconst (pc := 97) S dX12_span_97 (by unfold zrI; omega) ?_
        refine zr_iadd (pc := 98) S dX12_span_98 (by unfold zrI; omega) ?_
        refine zr_iconst (pc := 99) S dX12_span_99 (by unfold zrI; omega) ?_
        refine zr_iload_n (pc := 100) S dX12_span_100 rfl ?_
        refine zr_imul (pc := 101) S dX12_span_101 (by unfold zrI; omega) ?_
        refine zr_iadd (pc := 102) S dX12_span_102 (by unfold zrI; omega) ?_
        refine zr_iconst (pc := 103) S dX12_span_103 (by unfold zrI; omega) ?_
        refine zr_iadd (pc := 104) S dX12_span_104 (by unfold zrI; omega) ?_
        refine zr_iload (pc := 105) S dX12_span_105 rfl ?_
        refine zr_iastore (pc := 107) S dX12_span_107 rfl (Nat.le_of_ble_eq_true rfl) (by omega) (by omega) ?_
        exact zr_vret (pc := 108) S dX12_span_108 rfl ⟨Nat.le_refl _, Nat.le_refl _⟩ (by first | exact f | exact absurd c63 (by omega) | omega)
      · exact zr_vret (pc := 66) S dX12_span_66 rfl ⟨Nat.le_refl _, Nat.le_refl _⟩ (by first | exact f | exact absurd c63 (by omega) | omega)
def sp_X12_wear (as : List zV) (M : zM) (Q : Option zV → zM → Prop) : Prop := ∃ (s w : Int), as = [zR 180, zI s, zI w] ∧ (0 ≤ M 181 0 ∧ M 181 0 ≤ 8) ∧ ((0 ≤ s ∧ s < M 181 0) → (0 ≤ w ∧ w ≤ 9) → Q (some (zI (M 181 (15 + 11 * s + 9).toNat))) (zup (tz M 0) 181 (15 + 11 * s + 9).toNat w)) ∧ (¬ (0 ≤ s ∧ s < M 181 0) → Q (some (zI 0)) (tz (tz M 0) 1)) ∧ ((0 ≤ s ∧ s < M 181 0) → ¬ (0 ≤ w ∧ w ≤ 9) → Q (some (zI 0)) (tz (tz M 0) 2))
theorem us_X12_wear {s w : Int} {M : zM} {Q : Option zV → zM → Prop} (h0 : 0 ≤ M 181 0 ∧ M 181 0 ≤ 8) (hQ : (0 ≤ s ∧ s < M 181 0) → (0 ≤ w ∧ w ≤ 9) → Q (some (zI (M 181 (15 + 11 * s + 9).toNat))) (zup (tz M 0) 181 (15 + 11 * s + 9).toNat w)) (hT : ¬ (0 ≤ s ∧ s < M 181 0) → Q (some (zI 0)) (tz (tz M 0) 1)) (hU : (0 ≤ s ∧ s < M 181 0) → ¬ (0 ≤ w ∧ w ≤ 9) → Q (some (zI 0)) (tz (tz M 0) 2)) : sp_X12_wear [zR 180, zI s, zI w] M Q := ⟨s, w, rfl, h0, hQ, hT, hU⟩
set_option maxRecDepth 20000 in
set_option maxHeartbeats 4000000 in
theorem m_X12_wear (l : Launch) : zC l yX12_wear wzX12_wear rmX12_wear sp_X12_wear := by
  refine zMet.of RX12 (by decide +kernel) rfl rfl ?_
  intro E X as M Qp hX S hsp
  obtain ⟨s, w, rfl, h0, hQ, hT, hU⟩ := hsp
  refine ⟨Nat.le_of_ble_eq_true rfl, ?_⟩
  dsimp only [zpad, zargs]
  refine zr_aload_n (pc := 0) S dX12_wear_0 rfl ?_
  refine zr_iconst (pc := 1) S dX12_wear_1 (by unfold zrI; omega) ?_
  refine zr_putI (pc := 2) S pX12_wear_80 dX12_wear_2 rfl (Nat.le_of_ble_eq_true rfl) rfl ?_
  refine zr_aload_n (pc := 5) S dX12_wear_5 rfl ?_
  refine zr_iload_n (pc := 6) S dX12_wear_6 rfl ?_
  refine zr_invV (pc := 7) S [zI _] (m_X12_isSort _) kX12_wear_99 dX12_wear_7 rfl (Nat.le_of_ble_eq_true rfl) rfl (Nat.le_of_ble_eq_true rfl) ⟨Nat.le_of_ble_eq_true rfl, Nat.le_of_ble_eq_true rfl⟩ (us_X12_isSort h0.1 ?_)
  dsimp only [zaft, Option.toList, List.cons_append, List.nil_append, Nat.add_zero]
  refine zr_if_ne (pc := 10) (tgt := 19) S dX12_wear_10 (by decide) (fun c10 => ?_) (fun c10 => ?_)
  · rw [b01_0, Classical.not_not] at c10
    have c10' : 0 ≤ s ∧ s ≤ M 181 0 - 1 := c10
    refine zr_iload_n (pc := 19) S dX12_wear_19 rfl ?_
    refine zr_i2l (pc := 20) S dX12_wear_20 ?_
    refine zr_lconst0 (pc := 21) S dX12_wear_21 ?_
    refine zr_ldc2 (pc := 22) S (9) dX12_wear_22 (List.mem_cons_of_mem _ (zWi_7 _ (List.mem_of_getElem? (i := 22) rfl))) (by unfold zrL; omega) ?_
    refine zr_invS (pc := 25) S [zL _, zL _, zL _] (m_X12_within _) kX12_wear_83 dX12_wear_25 (Nat.le_of_ble_eq_true rfl) ⟨Nat.le_of_ble_eq_true rfl, Nat.le_of_ble_eq_true rfl⟩ (us_X12_within ?_)
    dsimp only [zaft, Option.toList, List.cons_append, List.nil_append, Nat.add_zero]
    refine zr_if_eq (pc := 28) (tgt := 49) S dX12_wear_28 (by decide) (fun c28 => ?_) (fun c28 => ?_)
    · rw [b01_0] at c28
      have f := hU (by omega) c28
      refine zr_aload_n (pc := 49) S dX12_wear_49 rfl ?_
      refine zr_iconst (pc := 50) S dX12_wear_50 (by unfold zrI; omega) ?_
      refine zr_invV (pc := 51) S [zI _] (m_X12_fails _) kX12_wear_95 dX12_wear_51 rfl (Nat.le_of_ble_eq_true rfl) rfl (Nat.le_of_ble_eq_true rfl) ⟨Nat.le_of_ble_eq_true rfl, Nat.le_of_ble_eq_true rfl⟩ (us_X12_fails ?_)
      dsimp only [zaft, Option.toList, List.cons_append, List.nil_append, Nat.add_zero]
      exact zr_iret (pc := 54) S dX12_wear_54 rfl ⟨Nat.le_refl _, Nat.le_refl _⟩ (f)
    · rw [b01_0, Classical.not_not] at c28
      have f := hQ (by omega) c28
      refine zr_aload_n (pc := 31) S dX12_wear_31 rfl ?_
      refine zr_bipush (pc := 32) S dX12_wear_32 ⟨by unfold zrI; omega, by decide⟩ ?_
      refine zr_bipush (pc := 34) S dX12_wear_34 ⟨by unfold zrI; omega, by decide⟩ ?_
      refine zr_iload_n (pc := 36) S dX12_wear_36 rfl ?_
      refine zr_imul (pc := 37) S dX12_wear_37 (by unfold zrI; omega) ?_
      refine zr_iadd (pc := 38) S dX12_wear_38 (by unfold zrI; omega) ?_
      refine zr_bipush (pc := 39) S dX12_wear_39 ⟨by unfold zrI; omega, by decide⟩ ?_
      refine zr_iadd (pc := 41) S dX12_wear_41 (by unfold zrI; omega) ?_
      refine zr_iload_n (pc := 42) S dX12_wear_42 rfl ?_
      refine zr_invV (pc := 43) S [zI _, zI _] (m_X12_becomes _) kX12_wear_109 dX12_wear_43 rfl (Nat.le_of_ble_eq_true rfl) rfl (Nat.le_of_ble_eq_true rfl) ⟨Nat.le_of_ble_eq_true rfl, Nat.le_of_ble_eq_true rfl⟩ (us_X12_becomes (by omega) (by omega) ?_)
      dsimp only [zaft, Option.toList, List.cons_append, List.nil_append, Nat.add_zero]
      refine zr_goto (pc := 46) (tgt := 54) S dX12_wear_46 (by decide) ?_
      exact zr_iret (pc := 54) S dX12_wear_54 rfl ⟨Nat.le_refl _, Nat.le_refl _⟩ (f)
  · rw [b01_0] at c10
    have f := hT (fun z => c10 (by show _ ∧ _ ≤ M 181 0 - 1; omega))
    refine zr_aload_n (pc := 13) S dX12_wear_13 rfl ?_
    refine zr_iconst (pc := 14) S dX12_wear_14 (by unfold zrI; omega) ?_
    refine zr_invV (pc := 15) S [zI _] (m_X12_fails _) kX12_wear_95 dX12_wear_15 rfl (Nat.le_of_ble_eq_true rfl) rfl (Nat.le_of_ble_eq_true rfl) ⟨Nat.le_of_ble_eq_true rfl, Nat.le_of_ble_eq_true rfl⟩ (us_X12_fails ?_)
    dsimp only [zaft, Option.toList, List.cons_append, List.nil_append, Nat.add_zero]
    exact zr_iret (pc := 18) S dX12_wear_18 rfl ⟨Nat.le_refl _, Nat.le_refl _⟩ (f)
def sp_X12_flow (as : List zV) (M : zM) (Q : Option zV → zM → Prop) : Prop := ∃ (s w : Int), as = [zR 180, zI s, zI w] ∧ (0 ≤ M 181 0 ∧ M 181 0 ≤ 8) ∧ ((0 ≤ s ∧ s < M 181 0) → (0 ≤ w ∧ w ≤ 1000) → Q (some (zI (M 181 (15 + 11 * s + 10).toNat))) (zup (tz M 0) 181 (15 + 11 * s + 10).toNat w)) ∧ (¬ (0 ≤ s ∧ s < M 181 0) → Q (some (zI 0)) (tz (tz M 0) 1)) ∧ ((0 ≤ s ∧ s < M 181 0) → ¬ (0 ≤ w ∧ w ≤ 1000) → Q (some (zI 0)) (tz (tz M 0) 2))
theorem us_X12_flow {s w : Int} {M : zM} {Q : Option zV → zM → Prop} (h0 : 0 ≤ M 181 0 ∧ M 181 0 ≤ 8) (hQ : (0 ≤ s ∧ s < M 181 0) → (0 ≤ w ∧ w ≤ 1000) → Q (some (zI (M 181 (15 + 11 * s + 10).toNat))) (zup (tz M 0) 181 (15 + 11 * s + 10).toNat w)) (hT : ¬ (0 ≤ s ∧ s < M 181 0) → Q (some (zI 0)) (tz (tz M 0) 1)) (hU : (0 ≤ s ∧ s < M 181 0) → ¬ (0 ≤ w ∧ w ≤ 1000) → Q (some (zI 0)) (tz (tz M 0) 2)) : sp_X12_flow [zR 180, zI s, zI w] M Q := ⟨s, w, rfl, h0, hQ, hT, hU⟩
set_option maxRecDepth 20000 in
set_option maxHeartbeats 4000000 in
theorem m_X12_flow (l : Launch) : zC l yX12_flow wzX12_flow rmX12_flow sp_X12_flow := by
  refine zMet.of RX12 (by decide +kernel) rfl rfl ?_
  intro E X as M Qp hX S hsp
  obtain ⟨s, w, rfl, h0, hQ, hT, hU⟩ := hsp
  refine ⟨Nat.le_of_ble_eq_true rfl, ?_⟩
  dsimp only [zpad, zargs]
  refine zr_aload_n (pc := 0) S dX12_flow_0 rfl ?_
  refine zr_iconst (pc := 1) S dX12_flow_1 (by unfold zrI; omega) ?_
  refine zr_putI (pc := 2) S pX12_flow_80 dX12_flow_2 rfl (Nat.le_of_ble_eq_true rfl) rfl ?_
  refine zr_aload_n (pc := 5) S dX12_flow_5 rfl ?_
  refine zr_iload_n (pc := 6) S dX12_flow_6 rfl ?_
  refine zr_invV (pc := 7) S [zI _] (m_X12_isSort _) kX12_flow_99 dX12_flow_7 rfl (Nat.le_of_ble_eq_true rfl) rfl (Nat.le_of_ble_eq_true rfl) ⟨Nat.le_of_ble_eq_true rfl, Nat.le_of_ble_eq_true rfl⟩ (us_X12_isSort h0.1 ?_)
  dsimp only [zaft, Option.toList, List.cons_append, List.nil_append, Nat.add_zero]
  refine zr_if_ne (pc := 10) (tgt := 19) S dX12_flow_10 (by decide) (fun c10 => ?_) (fun c10 => ?_)
  · rw [b01_0, Classical.not_not] at c10
    have c10' : 0 ≤ s ∧ s ≤ M 181 0 - 1 := c10
    refine zr_iload_n (pc := 19) S dX12_flow_19 rfl ?_
    refine zr_i2l (pc := 20) S dX12_flow_20 ?_
    refine zr_lconst0 (pc := 21) S dX12_flow_21 ?_
    refine zr_ldc2 (pc := 22) S (1000) dX12_flow_22 (List.mem_cons_of_mem _ (zWi_7 _ (List.mem_of_getElem? (i := 23) rfl))) (by unfold zrL; omega) ?_
    refine zr_invS (pc := 25) S [zL _, zL _, zL _] (m_X12_within _) kX12_flow_83 dX12_flow_25 (Nat.le_of_ble_eq_true rfl) ⟨Nat.le_of_ble_eq_true rfl, Nat.le_of_ble_eq_true rfl⟩ (us_X12_within ?_)
    dsimp only [zaft, Option.toList, List.cons_append, List.nil_append, Nat.add_zero]
    refine zr_if_eq (pc := 28) (tgt := 49) S dX12_flow_28 (by decide) (fun c28 => ?_) (fun c28 => ?_)
    · rw [b01_0] at c28
      have f := hU (by omega) c28
      refine zr_aload_n (pc := 49) S dX12_flow_49 rfl ?_
      refine zr_iconst (pc := 50) S dX12_flow_50 (by unfold zrI; omega) ?_
      refine zr_invV (pc := 51) S [zI _] (m_X12_fails _) kX12_flow_95 dX12_flow_51 rfl (Nat.le_of_ble_eq_true rfl) rfl (Nat.le_of_ble_eq_true rfl) ⟨Nat.le_of_ble_eq_true rfl, Nat.le_of_ble_eq_true rfl⟩ (us_X12_fails ?_)
      dsimp only [zaft, Option.toList, List.cons_append, List.nil_append, Nat.add_zero]
      exact zr_iret (pc := 54) S dX12_flow_54 rfl ⟨Nat.le_refl _, Nat.le_refl _⟩ (f)
    · rw [b01_0, Classical.not_not] at c28
      have f := hQ (by omega) c28
      refine zr_aload_n (pc := 31) S dX12_flow_31 rfl ?_
      refine zr_bipush (pc := 32) S dX12_flow_32 ⟨by unfold zrI; omega, by decide⟩ ?_
      refine zr_bipush (pc := 34) S dX12_flow_34 ⟨by unfold zrI; omega, by decide⟩ ?_
      refine zr_iload_n (pc := 36) S dX12_flow_36 rfl ?_
      refine zr_imul (pc := 37) S dX12_flow_37 (by unfold zrI; omega) ?_
      refine zr_iadd (pc := 38) S dX12_flow_38 (by unfold zrI; omega) ?_
      refine zr_bipush (pc := 39) S dX12_flow_39 ⟨by unfold zrI; omega, by decide⟩ ?_
      refine zr_iadd (pc := 41) S dX12_flow_41 (by unfold zrI; omega) ?_
      refine zr_iload_n (pc := 42) S dX12_flow_42 rfl ?_
      refine zr_invV (pc := 43) S [zI _, zI _] (m_X12_becomes _) kX12_flow_109 dX12_flow_43 rfl (Nat.le_of_ble_eq_true rfl) rfl (Nat.le_of_ble_eq_true rfl) ⟨Nat.le_of_ble_eq_true rfl, Nat.le_of_ble_eq_true rfl⟩ (us_X12_becomes (by omega) (by omega) ?_)
      dsimp only [zaft, Option.toList, List.cons_append, List.nil_append, Nat.add_zero]
      refine zr_goto (pc := 46) (tgt := 54) S dX12_flow_46 (by decide) ?_
      exact zr_iret (pc := 54) S dX12_flow_54 rfl ⟨Nat.le_refl _, Nat.le_refl _⟩ (f)
  · rw [b01_0] at c10
    have f := hT (fun z => c10 (by show _ ∧ _ ≤ M 181 0 - 1; omega))
    refine zr_aload_n (pc := 13) S dX12_flow_13 rfl ?_
    refine zr_iconst (pc := 14) S dX12_flow_14 (by unfold zrI; omega) ?_
    refine zr_invV (pc := 15) S [zI _] (m_X12_fails _) kX12_flow_95 dX12_flow_15 rfl (Nat.le_of_ble_eq_true rfl) rfl (Nat.le_of_ble_eq_true rfl) ⟨Nat.le_of_ble_eq_true rfl, Nat.le_of_ble_eq_true rfl⟩ (us_X12_fails ?_)
    dsimp only [zaft, Option.toList, List.cons_append, List.nil_append, Nat.add_zero]
    exact zr_iret (pc := 18) S dX12_flow_18 rfl ⟨Nat.le_refl _, Nat.le_refl _⟩ (f)
end
