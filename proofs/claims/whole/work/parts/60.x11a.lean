section
def rmX11_need : Room := { frames := 6, cells := 1, slots := 6, locals := 90 }
abbrev wzX11_need : List Cond := .code yX11_need cX11_need 1 none :: zW
def rmX11_needThere : Room := { frames := 6, cells := 1, slots := 6, locals := 90 }
abbrev wzX11_needThere : List Cond := .code yX11_needThere cX11_needThere 1 none :: zW
def rmX11_needSort : Room := { frames := 7, cells := 1, slots := 6, locals := 110 }
abbrev wzX11_needSort : List Cond := .code yX11_needSort cX11_needSort 2 none :: zW
def rmX11_needGate : Room := { frames := 7, cells := 1, slots := 6, locals := 110 }
abbrev wzX11_needGate : List Cond := .code yX11_needGate cX11_needGate 2 none :: zW
def rmX11_needGood : Room := { frames := 7, cells := 1, slots := 6, locals := 110 }
abbrev wzX11_needGood : List Cond := .code yX11_needGood cX11_needGood 2 none :: zW
def rmX11_needMove : Room := { frames := 8, cells := 3, slots := 18, locals := 131 }
abbrev wzX11_needMove : List Cond := .code yX11_needMove cX11_needMove 4 none :: zW
def rmX11_sort : Room := { frames := 7, cells := 2, slots := 12, locals := 110 }
abbrev wzX11_sort : List Cond := .code yX11_sort cX11_sort 4 (some .int) :: zW
def rmX11_span : Room := { frames := 8, cells := 3, slots := 18, locals := 131 }
abbrev wzX11_span : List Cond := .code yX11_span cX11_span 5 none :: zW
def rmX11_wear : Room := { frames := 8, cells := 2, slots := 12, locals := 131 }
abbrev wzX11_wear : List Cond := .code yX11_wear cX11_wear 3 (some .int) :: zW
def rmX11_flow : Room := { frames := 8, cells := 2, slots := 12, locals := 131 }
abbrev wzX11_flow : List Cond := .code yX11_flow cX11_flow 3 (some .int) :: zW
def rmX11_set : Room := { frames := 7, cells := 5, slots := 30, locals := 110 }
abbrev wzX11_set : List Cond := .code yX11_set cX11_set 3 (some .int) :: zW
def rmX11_good : Room := { frames := 8, cells := 1, slots := 6, locals := 131 }
abbrev wzX11_good : List Cond := .code yX11_good cX11_good 2 (some .boolean) :: zW
def rmX11_cost : Room := { frames := 7, cells := 2, slots := 12, locals := 110 }
abbrev wzX11_cost : List Cond := .code yX11_cost cX11_cost 3 (some .int) :: zW
def rmX11_bag : Room := { frames := 8, cells := 1, slots := 6, locals := 131 }
abbrev wzX11_bag : List Cond := .code yX11_bag cX11_bag 2 (some .int) :: zW
def rmX11_offer : Room := { frames := 7, cells := 1, slots := 6, locals := 110 }
abbrev wzX11_offer : List Cond := .code yX11_offer cX11_offer 2 (some .int) :: zW
def rmX11_price : Room := { frames := 8, cells := 2, slots := 12, locals := 131 }
abbrev wzX11_price : List Cond := .code yX11_price cX11_price 3 (some .int) :: zW
def rmX11_machine : Room := { frames := 7, cells := 2, slots := 12, locals := 110 }
abbrev wzX11_machine : List Cond := .code yX11_machine cX11_machine 3 (some .int) :: zW
def rmX11_coins : Room := { frames := 8, cells := 1, slots := 6, locals := 131 }
abbrev wzX11_coins : List Cond := .code yX11_coins cX11_coins 2 (some .long) :: zW
def rmX11_gate : Room := { frames := 8, cells := 2, slots := 12, locals := 131 }
abbrev wzX11_gate : List Cond := .code yX11_gate cX11_gate 3 (some .int) :: zW
def rmX11_fault : Room := { frames := 0, cells := 0, slots := 0, locals := 0 }
abbrev wzX11_fault : List Cond := .code yX11_fault cX11_fault 2 (some .int) :: zW
def rmX11_credit : Room := { frames := 1, cells := 0, slots := 0, locals := 22 }
abbrev wzX11_credit : List Cond := .code yX11_credit cX11_credit 1 (some .int) :: zW
def rmX11_given : Room := { frames := 1, cells := 0, slots := 0, locals := 25 }
abbrev wzX11_given : List Cond := .code yX11_given cX11_given 2 (some .int) :: zW
def rmX11_tube : Room := { frames := 8, cells := 2, slots := 12, locals := 131 }
abbrev wzX11_tube : List Cond := .code yX11_tube cX11_tube 3 (some .int) :: zW
def rmX11_wheel : Room := { frames := 8, cells := 2, slots := 12, locals := 131 }
abbrev wzX11_wheel : List Cond := .code yX11_wheel cX11_wheel 3 (some .int) :: zW
def rmX11_count : Room := { frames := 0, cells := 0, slots := 0, locals := 0 }
abbrev wzX11_count : List Cond := .code yX11_count cX11_count 2 (some .int) :: zW
def rmX11_taken : Room := { frames := 7, cells := 3, slots := 18, locals := 110 }
abbrev wzX11_taken : List Cond := .code yX11_taken cX11_taken 4 (some .int) :: zW
def rmX11_empty : Room := { frames := 8, cells := 1, slots := 6, locals := 131 }
abbrev wzX11_empty : List Cond := .code yX11_empty cX11_empty 3 (some .int) :: zW
def rmX11_refund : Room := { frames := 2, cells := 0, slots := 0, locals := 42 }
abbrev wzX11_refund : List Cond := .code yX11_refund cX11_refund 1 (some .int) :: zW
theorem fX11_needSort_10 : zfl wzX11_needSort RX11 vwCl 10 11 0 := ⟨_, _, _, rfl, (fun w h => List.mem_cons_of_mem _ (zWuX11 w h)), by decide, List.mem_cons_of_mem _ (zWi_8 _ (List.mem_of_getElem? (i := 6) rfl))⟩
theorem fX11_needSort_39 : zfl wzX11_needSort RX11 vwCl 39 8 0 := ⟨_, _, _, rfl, (fun w h => List.mem_cons_of_mem _ (zWuX8 w h)), by decide, List.mem_cons_of_mem _ (zWi_8 _ (List.mem_of_getElem? (i := 43) rfl))⟩
theorem kX11_needSort_203 : ∀ (s9 : State) (a9 : Array Value), (∀ w ∈ wzX11_needSort, w.before a9 s9 = true) → CallW rmX11_needSort s9 a9 RX11 RX7 203 yX7_has cX7_has 2 (some .boolean) wzX7_has rmX7_has 0 0 1 := zcV (zWi_21 _ (List.mem_of_getElem? (i := 13) rfl)) (zWi_16 _ (List.mem_of_getElem? (i := 44) rfl)) (zWi_29 _ (List.mem_of_getElem? (i := 21) rfl)) (zWi_12 _ (List.mem_of_getElem? (i := 19) rfl)) (zWi_5 _ (List.mem_of_getElem? (i := 28) rfl)) (by decide +kernel) rfl rfl ⟨Nat.le_of_ble_eq_true rfl, Nat.le_of_ble_eq_true rfl⟩
theorem kX11_needSort_115 : ∀ (s9 : State) (a9 : Array Value), (∀ w ∈ wzX11_needSort, w.before a9 s9 = true) → CallB rmX11_needSort s9 a9 RX11 115 yX11_needThere cX11_needThere 1 none wzX11_needThere rmX11_needThere 1 6 1 ∧ (Cond.static yX11_needThere).before a9 s9 = true := zcS (zWi_21 _ (List.mem_of_getElem? (i := 3) rfl)) (zWi_31 _ (List.mem_of_getElem? (i := 7) rfl)) (zWi_12 _ (List.mem_of_getElem? (i := 12) rfl)) (zWi_1 _ (List.mem_of_getElem? (i := 45) rfl)) (by decide +kernel) rfl rfl ⟨Nat.le_of_ble_eq_true rfl, Nat.le_of_ble_eq_true rfl⟩
theorem fX11_needGate_10 : zfl wzX11_needGate RX11 vwCl 10 11 0 := ⟨_, _, _, rfl, (fun w h => List.mem_cons_of_mem _ (zWuX11 w h)), by decide, List.mem_cons_of_mem _ (zWi_8 _ (List.mem_of_getElem? (i := 6) rfl))⟩
theorem fX11_needGate_43 : zfl wzX11_needGate RX11 vwCl 43 8 1 := ⟨_, _, _, rfl, (fun w h => List.mem_cons_of_mem _ (zWuX8 w h)), by decide, List.mem_cons_of_mem _ (zWi_8 _ (List.mem_of_getElem? (i := 47) rfl))⟩
theorem fX11_needGate_182 : zfl wzX11_needGate RX11 vwCl 182 2 0 := ⟨_, _, _, rfl, (fun w h => List.mem_cons_of_mem _ (zWuX2 w h)), by decide, List.mem_cons_of_mem _ (zWi_8 _ (List.mem_of_getElem? (i := 16) rfl))⟩
theorem kX11_needGate_93 : ∀ (s9 : State) (a9 : Array Value), (∀ w ∈ wzX11_needGate, w.before a9 s9 = true) → CallB rmX11_needGate s9 a9 RX11 93 yX11_within cX11_within 6 (some .boolean) wzX11_within rmX11_within 0 0 3 ∧ (Cond.static yX11_within).before a9 s9 = true := zcS (zWi_22 _ (List.mem_of_getElem? (i := 14) rfl)) (zWi_31 _ (List.mem_of_getElem? (i := 9) rfl)) (zWi_12 _ (List.mem_of_getElem? (i := 12) rfl)) (zWi_2 _ (List.mem_of_getElem? (i := 17) rfl)) (by decide +kernel) rfl rfl ⟨Nat.le_of_ble_eq_true rfl, Nat.le_of_ble_eq_true rfl⟩
theorem kX11_needGate_115 : ∀ (s9 : State) (a9 : Array Value), (∀ w ∈ wzX11_needGate, w.before a9 s9 = true) → CallB rmX11_needGate s9 a9 RX11 115 yX11_needThere cX11_needThere 1 none wzX11_needThere rmX11_needThere 1 6 1 ∧ (Cond.static yX11_needThere).before a9 s9 = true := zcS (zWi_21 _ (List.mem_of_getElem? (i := 3) rfl)) (zWi_31 _ (List.mem_of_getElem? (i := 7) rfl)) (zWi_12 _ (List.mem_of_getElem? (i := 12) rfl)) (zWi_1 _ (List.mem_of_getElem? (i := 45) rfl)) (by decide +kernel) rfl rfl ⟨Nat.le_of_ble_eq_true rfl, Nat.le_of_ble_eq_true rfl⟩
theorem fX11_needGood_10 : zfl wzX11_needGood RX11 vwCl 10 11 0 := ⟨_, _, _, rfl, (fun w h => List.mem_cons_of_mem _ (zWuX11 w h)), by decide, List.mem_cons_of_mem _ (zWi_8 _ (List.mem_of_getElem? (i := 6) rfl))⟩
theorem fX11_needGood_431 : zfl wzX11_needGood RX11 vwCl 431 8 3 := ⟨_, _, _, rfl, (fun w h => List.mem_cons_of_mem _ (zWuX8 w h)), by decide, List.mem_cons_of_mem _ (zWi_8 _ (List.mem_of_getElem? (i := 48) rfl))⟩
theorem kX11_needGood_93 : ∀ (s9 : State) (a9 : Array Value), (∀ w ∈ wzX11_needGood, w.before a9 s9 = true) → CallB rmX11_needGood s9 a9 RX11 93 yX11_within cX11_within 6 (some .boolean) wzX11_within rmX11_within 0 0 3 ∧ (Cond.static yX11_within).before a9 s9 = true := zcS (zWi_22 _ (List.mem_of_getElem? (i := 14) rfl)) (zWi_31 _ (List.mem_of_getElem? (i := 9) rfl)) (zWi_12 _ (List.mem_of_getElem? (i := 12) rfl)) (zWi_2 _ (List.mem_of_getElem? (i := 17) rfl)) (by decide +kernel) rfl rfl ⟨Nat.le_of_ble_eq_true rfl, Nat.le_of_ble_eq_true rfl⟩
theorem kX11_needGood_115 : ∀ (s9 : State) (a9 : Array Value), (∀ w ∈ wzX11_needGood, w.before a9 s9 = true) → CallB rmX11_needGood s9 a9 RX11 115 yX11_needThere cX11_needThere 1 none wzX11_needThere rmX11_needThere 1 6 1 ∧ (Cond.static yX11_needThere).before a9 s9 = true := zcS (zWi_21 _ (List.mem_of_getElem? (i := 3) rfl)) (zWi_31 _ (List.mem_of_getElem? (i := 7) rfl)) (zWi_12 _ (List.mem_of_getElem? (i := 12) rfl)) (zWi_1 _ (List.mem_of_getElem? (i := 45) rfl)) (by decide +kernel) rfl rfl ⟨Nat.le_of_ble_eq_true rfl, Nat.le_of_ble_eq_true rfl⟩
theorem kX11_needMove_188 : ∀ (s9 : State) (a9 : Array Value), (∀ w ∈ wzX11_needMove, w.before a9 s9 = true) → CallW rmX11_needMove s9 a9 RX11 RX11 188 yX11_needGate cX11_needGate 2 none wzX11_needGate rmX11_needGate 1 6 1 := zcV (zWi_21 _ (List.mem_of_getElem? (i := 10) rfl)) (zWi_13 _ (List.mem_of_getElem? (i := 15) rfl)) (zWi_26 _ (List.mem_of_getElem? (i := 7) rfl)) (zWi_12 _ (List.mem_of_getElem? (i := 12) rfl)) (zWi_1 _ (List.mem_of_getElem? (i := 41) rfl)) (by decide +kernel) rfl rfl ⟨Nat.le_of_ble_eq_true rfl, Nat.le_of_ble_eq_true rfl⟩
theorem kX11_needMove_93 : ∀ (s9 : State) (a9 : Array Value), (∀ w ∈ wzX11_needMove, w.before a9 s9 = true) → CallB rmX11_needMove s9 a9 RX11 93 yX11_within cX11_within 6 (some .boolean) wzX11_within rmX11_within 0 0 3 ∧ (Cond.static yX11_within).before a9 s9 = true := zcS (zWi_22 _ (List.mem_of_getElem? (i := 14) rfl)) (zWi_31 _ (List.mem_of_getElem? (i := 9) rfl)) (zWi_12 _ (List.mem_of_getElem? (i := 12) rfl)) (zWi_2 _ (List.mem_of_getElem? (i := 17) rfl)) (by decide +kernel) rfl rfl ⟨Nat.le_of_ble_eq_true rfl, Nat.le_of_ble_eq_true rfl⟩
theorem kX11_needMove_97 : ∀ (s9 : State) (a9 : Array Value), (∀ w ∈ wzX11_needMove, w.before a9 s9 = true) → CallB rmX11_needMove s9 a9 RX11 97 yX11_need cX11_need 1 none wzX11_need rmX11_need 1 6 1 ∧ (Cond.static yX11_need).before a9 s9 = true := zcS (zWi_22 _ (List.mem_of_getElem? (i := 15) rfl)) (zWi_31 _ (List.mem_of_getElem? (i := 6) rfl)) (zWi_12 _ (List.mem_of_getElem? (i := 12) rfl)) (zWi_1 _ (List.mem_of_getElem? (i := 40) rfl)) (by decide +kernel) rfl rfl ⟨Nat.le_of_ble_eq_true rfl, Nat.le_of_ble_eq_true rfl⟩
theorem fX11_sort_10 : zfl wzX11_sort RX11 vwCl 10 11 0 := ⟨_, _, _, rfl, (fun w h => List.mem_cons_of_mem _ (zWuX11 w h)), by decide, List.mem_cons_of_mem _ (zWi_8 _ (List.mem_of_getElem? (i := 6) rfl))⟩
theorem fX11_sort_39 : zfl wzX11_sort RX11 vwCl 39 8 0 := ⟨_, _, _, rfl, (fun w h => List.mem_cons_of_mem _ (zWuX8 w h)), by decide, List.mem_cons_of_mem _ (zWi_8 _ (List.mem_of_getElem? (i := 43) rfl))⟩
theorem kX11_sort_93 : ∀ (s9 : State) (a9 : Array Value), (∀ w ∈ wzX11_sort, w.before a9 s9 = true) → CallB rmX11_sort s9 a9 RX11 93 yX11_within cX11_within 6 (some .boolean) wzX11_within rmX11_within 0 0 3 ∧ (Cond.static yX11_within).before a9 s9 = true := zcS (zWi_22 _ (List.mem_of_getElem? (i := 14) rfl)) (zWi_31 _ (List.mem_of_getElem? (i := 9) rfl)) (zWi_12 _ (List.mem_of_getElem? (i := 12) rfl)) (zWi_2 _ (List.mem_of_getElem? (i := 17) rfl)) (by decide +kernel) rfl rfl ⟨Nat.le_of_ble_eq_true rfl, Nat.le_of_ble_eq_true rfl⟩
theorem kX11_sort_97 : ∀ (s9 : State) (a9 : Array Value), (∀ w ∈ wzX11_sort, w.before a9 s9 = true) → CallB rmX11_sort s9 a9 RX11 97 yX11_need cX11_need 1 none wzX11_need rmX11_need 1 6 1 ∧ (Cond.static yX11_need).before a9 s9 = true := zcS (zWi_22 _ (List.mem_of_getElem? (i := 15) rfl)) (zWi_31 _ (List.mem_of_getElem? (i := 6) rfl)) (zWi_12 _ (List.mem_of_getElem? (i := 12) rfl)) (zWi_1 _ (List.mem_of_getElem? (i := 40) rfl)) (by decide +kernel) rfl rfl ⟨Nat.le_of_ble_eq_true rfl, Nat.le_of_ble_eq_true rfl⟩
theorem kX11_sort_103 : ∀ (s9 : State) (a9 : Array Value), (∀ w ∈ wzX11_sort, w.before a9 s9 = true) → CallW rmX11_sort s9 a9 RX11 RX7 103 yX7_add cX7_add 4 (some .int) wzX7_add rmX7_add 0 0 3 := zcV (zWi_21 _ (List.mem_of_getElem? (i := 1) rfl)) (zWi_16 _ (List.mem_of_getElem? (i := 42) rfl)) (zWi_29 _ (List.mem_of_getElem? (i := 19) rfl)) (zWi_12 _ (List.mem_of_getElem? (i := 19) rfl)) (zWi_5 _ (List.mem_of_getElem? (i := 26) rfl)) (by decide +kernel) rfl rfl ⟨Nat.le_of_ble_eq_true rfl, Nat.le_of_ble_eq_true rfl⟩
theorem fX11_span_10 : zfl wzX11_span RX11 vwCl 10 11 0 := ⟨_, _, _, rfl, (fun w h => List.mem_cons_of_mem _ (zWuX11 w h)), by decide, List.mem_cons_of_mem _ (zWi_8 _ (List.mem_of_getElem? (i := 6) rfl))⟩
theorem fX11_span_39 : zfl wzX11_span RX11 vwCl 39 8 0 := ⟨_, _, _, rfl, (fun w h => List.mem_cons_of_mem _ (zWuX8 w h)), by decide, List.mem_cons_of_mem _ (zWi_8 _ (List.mem_of_getElem? (i := 43) rfl))⟩
theorem fX11_span_120 : zfl wzX11_span RX11 vwCl 120 7 5 := ⟨_, _, _, rfl, (fun w h => List.mem_cons_of_mem _ (zWuX7 w h)), by decide, List.mem_cons_of_mem _ (zWi_8 _ (List.mem_of_getElem? (i := 7) rfl))⟩
theorem fX11_span_124 : zfl wzX11_span RX11 vwCl 124 7 6 := ⟨_, _, _, rfl, (fun w h => List.mem_cons_of_mem _ (zWuX7 w h)), by decide, List.mem_cons_of_mem _ (zWi_8 _ (List.mem_of_getElem? (i := 8) rfl))⟩
theorem kX11_span_109 : ∀ (s9 : State) (a9 : Array Value), (∀ w ∈ wzX11_span, w.before a9 s9 = true) → CallW rmX11_span s9 a9 RX11 RX11 109 yX11_needSort cX11_needSort 2 none wzX11_needSort rmX11_needSort 1 6 1 := zcV (zWi_21 _ (List.mem_of_getElem? (i := 2) rfl)) (zWi_13 _ (List.mem_of_getElem? (i := 18) rfl)) (zWi_26 _ (List.mem_of_getElem? (i := 10) rfl)) (zWi_12 _ (List.mem_of_getElem? (i := 12) rfl)) (zWi_1 _ (List.mem_of_getElem? (i := 44) rfl)) (by decide +kernel) rfl rfl ⟨Nat.le_of_ble_eq_true rfl, Nat.le_of_ble_eq_true rfl⟩
theorem kX11_span_93 : ∀ (s9 : State) (a9 : Array Value), (∀ w ∈ wzX11_span, w.before a9 s9 = true) → CallB rmX11_span s9 a9 RX11 93 yX11_within cX11_within 6 (some .boolean) wzX11_within rmX11_within 0 0 3 ∧ (Cond.static yX11_within).before a9 s9 = true := zcS (zWi_22 _ (List.mem_of_getElem? (i := 14) rfl)) (zWi_31 _ (List.mem_of_getElem? (i := 9) rfl)) (zWi_12 _ (List.mem_of_getElem? (i := 12) rfl)) (zWi_2 _ (List.mem_of_getElem? (i := 17) rfl)) (by decide +kernel) rfl rfl ⟨Nat.le_of_ble_eq_true rfl, Nat.le_of_ble_eq_true rfl⟩
theorem kX11_span_115 : ∀ (s9 : State) (a9 : Array Value), (∀ w ∈ wzX11_span, w.before a9 s9 = true) → CallB rmX11_span s9 a9 RX11 115 yX11_needThere cX11_needThere 1 none wzX11_needThere rmX11_needThere 1 6 1 ∧ (Cond.static yX11_needThere).before a9 s9 = true := zcS (zWi_21 _ (List.mem_of_getElem? (i := 3) rfl)) (zWi_31 _ (List.mem_of_getElem? (i := 7) rfl)) (zWi_12 _ (List.mem_of_getElem? (i := 12) rfl)) (zWi_1 _ (List.mem_of_getElem? (i := 45) rfl)) (by decide +kernel) rfl rfl ⟨Nat.le_of_ble_eq_true rfl, Nat.le_of_ble_eq_true rfl⟩
theorem kX11_span_97 : ∀ (s9 : State) (a9 : Array Value), (∀ w ∈ wzX11_span, w.before a9 s9 = true) → CallB rmX11_span s9 a9 RX11 97 yX11_need cX11_need 1 none wzX11_need rmX11_need 1 6 1 ∧ (Cond.static yX11_need).before a9 s9 = true := zcS (zWi_22 _ (List.mem_of_getElem? (i := 15) rfl)) (zWi_31 _ (List.mem_of_getElem? (i := 6) rfl)) (zWi_12 _ (List.mem_of_getElem? (i := 12) rfl)) (zWi_1 _ (List.mem_of_getElem? (i := 40) rfl)) (by decide +kernel) rfl rfl ⟨Nat.le_of_ble_eq_true rfl, Nat.le_of_ble_eq_true rfl⟩
theorem fX11_wear_10 : zfl wzX11_wear RX11 vwCl 10 11 0 := ⟨_, _, _, rfl, (fun w h => List.mem_cons_of_mem _ (zWuX11 w h)), by decide, List.mem_cons_of_mem _ (zWi_8 _ (List.mem_of_getElem? (i := 6) rfl))⟩
theorem fX11_wear_39 : zfl wzX11_wear RX11 vwCl 39 8 0 := ⟨_, _, _, rfl, (fun w h => List.mem_cons_of_mem _ (zWuX8 w h)), by decide, List.mem_cons_of_mem _ (zWi_8 _ (List.mem_of_getElem? (i := 43) rfl))⟩
theorem fX11_wear_129 : zfl wzX11_wear RX11 vwCl 129 7 7 := ⟨_, _, _, rfl, (fun w h => List.mem_cons_of_mem _ (zWuX7 w h)), by decide, List.mem_cons_of_mem _ (zWi_8 _ (List.mem_of_getElem? (i := 9) rfl))⟩
theorem kX11_wear_109 : ∀ (s9 : State) (a9 : Array Value), (∀ w ∈ wzX11_wear, w.before a9 s9 = true) → CallW rmX11_wear s9 a9 RX11 RX11 109 yX11_needSort cX11_needSort 2 none wzX11_needSort rmX11_needSort 1 6 1 := zcV (zWi_21 _ (List.mem_of_getElem? (i := 2) rfl)) (zWi_13 _ (List.mem_of_getElem? (i := 18) rfl)) (zWi_26 _ (List.mem_of_getElem? (i := 10) rfl)) (zWi_12 _ (List.mem_of_getElem? (i := 12) rfl)) (zWi_1 _ (List.mem_of_getElem? (i := 44) rfl)) (by decide +kernel) rfl rfl ⟨Nat.le_of_ble_eq_true rfl, Nat.le_of_ble_eq_true rfl⟩
theorem kX11_wear_93 : ∀ (s9 : State) (a9 : Array Value), (∀ w ∈ wzX11_wear, w.before a9 s9 = true) → CallB rmX11_wear s9 a9 RX11 93 yX11_within cX11_within 6 (some .boolean) wzX11_within rmX11_within 0 0 3 ∧ (Cond.static yX11_within).before a9 s9 = true := zcS (zWi_22 _ (List.mem_of_getElem? (i := 14) rfl)) (zWi_31 _ (List.mem_of_getElem? (i := 9) rfl)) (zWi_12 _ (List.mem_of_getElem? (i := 12) rfl)) (zWi_2 _ (List.mem_of_getElem? (i := 17) rfl)) (by decide +kernel) rfl rfl ⟨Nat.le_of_ble_eq_true rfl, Nat.le_of_ble_eq_true rfl⟩
theorem kX11_wear_97 : ∀ (s9 : State) (a9 : Array Value), (∀ w ∈ wzX11_wear, w.before a9 s9 = true) → CallB rmX11_wear s9 a9 RX11 97 yX11_need cX11_need 1 none wzX11_need rmX11_need 1 6 1 ∧ (Cond.static yX11_need).before a9 s9 = true := zcS (zWi_22 _ (List.mem_of_getElem? (i := 15) rfl)) (zWi_31 _ (List.mem_of_getElem? (i := 6) rfl)) (zWi_12 _ (List.mem_of_getElem? (i := 12) rfl)) (zWi_1 _ (List.mem_of_getElem? (i := 40) rfl)) (by decide +kernel) rfl rfl ⟨Nat.le_of_ble_eq_true rfl, Nat.le_of_ble_eq_true rfl⟩
theorem kX11_wear_132 : ∀ (s9 : State) (a9 : Array Value), (∀ w ∈ wzX11_wear, w.before a9 s9 = true) → CallB rmX11_wear s9 a9 RX11 132 yX11_swap cX11_swap 4 (some .int) wzX11_swap rmX11_swap 0 0 3 ∧ (Cond.static yX11_swap).before a9 s9 = true := zcS (zWi_21 _ (List.mem_of_getElem? (i := 4) rfl)) (zWi_31 _ (List.mem_of_getElem? (i := 8) rfl)) (zWi_12 _ (List.mem_of_getElem? (i := 12) rfl)) (zWi_2 _ (List.mem_of_getElem? (i := 9) rfl)) (by decide +kernel) rfl rfl ⟨Nat.le_of_ble_eq_true rfl, Nat.le_of_ble_eq_true rfl⟩
theorem fX11_flow_10 : zfl wzX11_flow RX11 vwCl 10 11 0 := ⟨_, _, _, rfl, (fun w h => List.mem_cons_of_mem _ (zWuX11 w h)), by decide, List.mem_cons_of_mem _ (zWi_8 _ (List.mem_of_getElem? (i := 6) rfl))⟩
theorem fX11_flow_39 : zfl wzX11_flow RX11 vwCl 39 8 0 := ⟨_, _, _, rfl, (fun w h => List.mem_cons_of_mem _ (zWuX8 w h)), by decide, List.mem_cons_of_mem _ (zWi_8 _ (List.mem_of_getElem? (i := 43) rfl))⟩
theorem fX11_flow_138 : zfl wzX11_flow RX11 vwCl 138 7 8 := ⟨_, _, _, rfl, (fun w h => List.mem_cons_of_mem _ (zWuX7 w h)), by decide, List.mem_cons_of_mem _ (zWi_8 _ (List.mem_of_getElem? (i := 10) rfl))⟩
theorem kX11_flow_109 : ∀ (s9 : State) (a9 : Array Value), (∀ w ∈ wzX11_flow, w.before a9 s9 = true) → CallW rmX11_flow s9 a9 RX11 RX11 109 yX11_needSort cX11_needSort 2 none wzX11_needSort rmX11_needSort 1 6 1 := zcV (zWi_21 _ (List.mem_of_getElem? (i := 2) rfl)) (zWi_13 _ (List.mem_of_getElem? (i := 18) rfl)) (zWi_26 _ (List.mem_of_getElem? (i := 10) rfl)) (zWi_12 _ (List.mem_of_getElem? (i := 12) rfl)) (zWi_1 _ (List.mem_of_getElem? (i := 44) rfl)) (by decide +kernel) rfl rfl ⟨Nat.le_of_ble_eq_true rfl, Nat.le_of_ble_eq_true rfl⟩
theorem kX11_flow_93 : ∀ (s9 : State) (a9 : Array Value), (∀ w ∈ wzX11_flow, w.before a9 s9 = true) → CallB rmX11_flow s9 a9 RX11 93 yX11_within cX11_within 6 (some .boolean) wzX11_within rmX11_within 0 0 3 ∧ (Cond.static yX11_within).before a9 s9 = true := zcS (zWi_22 _ (List.mem_of_getElem? (i := 14) rfl)) (zWi_31 _ (List.mem_of_getElem? (i := 9) rfl)) (zWi_12 _ (List.mem_of_getElem? (i := 12) rfl)) (zWi_2 _ (List.mem_of_getElem? (i := 17) rfl)) (by decide +kernel) rfl rfl ⟨Nat.le_of_ble_eq_true rfl, Nat.le_of_ble_eq_true rfl⟩
theorem kX11_flow_97 : ∀ (s9 : State) (a9 : Array Value), (∀ w ∈ wzX11_flow, w.before a9 s9 = true) → CallB rmX11_flow s9 a9 RX11 97 yX11_need cX11_need 1 none wzX11_need rmX11_need 1 6 1 ∧ (Cond.static yX11_need).before a9 s9 = true := zcS (zWi_22 _ (List.mem_of_getElem? (i := 15) rfl)) (zWi_31 _ (List.mem_of_getElem? (i := 6) rfl)) (zWi_12 _ (List.mem_of_getElem? (i := 12) rfl)) (zWi_1 _ (List.mem_of_getElem? (i := 40) rfl)) (by decide +kernel) rfl rfl ⟨Nat.le_of_ble_eq_true rfl, Nat.le_of_ble_eq_true rfl⟩
theorem kX11_flow_132 : ∀ (s9 : State) (a9 : Array Value), (∀ w ∈ wzX11_flow, w.before a9 s9 = true) → CallB rmX11_flow s9 a9 RX11 132 yX11_swap cX11_swap 4 (some .int) wzX11_swap rmX11_swap 0 0 3 ∧ (Cond.static yX11_swap).before a9 s9 = true := zcS (zWi_21 _ (List.mem_of_getElem? (i := 4) rfl)) (zWi_31 _ (List.mem_of_getElem? (i := 8) rfl)) (zWi_12 _ (List.mem_of_getElem? (i := 12) rfl)) (zWi_2 _ (List.mem_of_getElem? (i := 9) rfl)) (by decide +kernel) rfl rfl ⟨Nat.le_of_ble_eq_true rfl, Nat.le_of_ble_eq_true rfl⟩
theorem fX11_set_10 : zfl wzX11_set RX11 vwCl 10 11 0 := ⟨_, _, _, rfl, (fun w h => List.mem_cons_of_mem _ (zWuX11 w h)), by decide, List.mem_cons_of_mem _ (zWi_8 _ (List.mem_of_getElem? (i := 6) rfl))⟩
theorem fX11_set_39 : zfl wzX11_set RX11 vwCl 39 8 0 := ⟨_, _, _, rfl, (fun w h => List.mem_cons_of_mem _ (zWuX8 w h)), by decide, List.mem_cons_of_mem _ (zWi_8 _ (List.mem_of_getElem? (i := 43) rfl))⟩
theorem fX11_set_149 : zfl wzX11_set RX11 vwCl 149 7 1 := ⟨_, _, _, rfl, (fun w h => List.mem_cons_of_mem _ (zWuX7 w h)), by decide, List.mem_cons_of_mem _ (zWi_8 _ (List.mem_of_getElem? (i := 11) rfl))⟩
theorem kX11_set_93 : ∀ (s9 : State) (a9 : Array Value), (∀ w ∈ wzX11_set, w.before a9 s9 = true) → CallB rmX11_set s9 a9 RX11 93 yX11_within cX11_within 6 (some .boolean) wzX11_within rmX11_within 0 0 3 ∧ (Cond.static yX11_within).before a9 s9 = true := zcS (zWi_22 _ (List.mem_of_getElem? (i := 14) rfl)) (zWi_31 _ (List.mem_of_getElem? (i := 9) rfl)) (zWi_12 _ (List.mem_of_getElem? (i := 12) rfl)) (zWi_2 _ (List.mem_of_getElem? (i := 17) rfl)) (by decide +kernel) rfl rfl ⟨Nat.le_of_ble_eq_true rfl, Nat.le_of_ble_eq_true rfl⟩
theorem kX11_set_115 : ∀ (s9 : State) (a9 : Array Value), (∀ w ∈ wzX11_set, w.before a9 s9 = true) → CallB rmX11_set s9 a9 RX11 115 yX11_needThere cX11_needThere 1 none wzX11_needThere rmX11_needThere 1 6 1 ∧ (Cond.static yX11_needThere).before a9 s9 = true := zcS (zWi_21 _ (List.mem_of_getElem? (i := 3) rfl)) (zWi_31 _ (List.mem_of_getElem? (i := 7) rfl)) (zWi_12 _ (List.mem_of_getElem? (i := 12) rfl)) (zWi_1 _ (List.mem_of_getElem? (i := 45) rfl)) (by decide +kernel) rfl rfl ⟨Nat.le_of_ble_eq_true rfl, Nat.le_of_ble_eq_true rfl⟩
theorem kX11_set_97 : ∀ (s9 : State) (a9 : Array Value), (∀ w ∈ wzX11_set, w.before a9 s9 = true) → CallB rmX11_set s9 a9 RX11 97 yX11_need cX11_need 1 none wzX11_need rmX11_need 1 6 1 ∧ (Cond.static yX11_need).before a9 s9 = true := zcS (zWi_22 _ (List.mem_of_getElem? (i := 15) rfl)) (zWi_31 _ (List.mem_of_getElem? (i := 6) rfl)) (zWi_12 _ (List.mem_of_getElem? (i := 12) rfl)) (zWi_1 _ (List.mem_of_getElem? (i := 40) rfl)) (by decide +kernel) rfl rfl ⟨Nat.le_of_ble_eq_true rfl, Nat.le_of_ble_eq_true rfl⟩
theorem kX11_set_132 : ∀ (s9 : State) (a9 : Array Value), (∀ w ∈ wzX11_set, w.before a9 s9 = true) → CallB rmX11_set s9 a9 RX11 132 yX11_swap cX11_swap 4 (some .int) wzX11_swap rmX11_swap 0 0 3 ∧ (Cond.static yX11_swap).before a9 s9 = true := zcS (zWi_21 _ (List.mem_of_getElem? (i := 4) rfl)) (zWi_31 _ (List.mem_of_getElem? (i := 8) rfl)) (zWi_12 _ (List.mem_of_getElem? (i := 12) rfl)) (zWi_2 _ (List.mem_of_getElem? (i := 9) rfl)) (by decide +kernel) rfl rfl ⟨Nat.le_of_ble_eq_true rfl, Nat.le_of_ble_eq_true rfl⟩
theorem fX11_good_10 : zfl wzX11_good RX11 vwCl 10 11 0 := ⟨_, _, _, rfl, (fun w h => List.mem_cons_of_mem _ (zWuX11 w h)), by decide, List.mem_cons_of_mem _ (zWi_8 _ (List.mem_of_getElem? (i := 6) rfl))⟩
theorem fX11_good_39 : zfl wzX11_good RX11 vwCl 39 8 0 := ⟨_, _, _, rfl, (fun w h => List.mem_cons_of_mem _ (zWuX8 w h)), by decide, List.mem_cons_of_mem _ (zWi_8 _ (List.mem_of_getElem? (i := 43) rfl))⟩
theorem kX11_good_109 : ∀ (s9 : State) (a9 : Array Value), (∀ w ∈ wzX11_good, w.before a9 s9 = true) → CallW rmX11_good s9 a9 RX11 RX11 109 yX11_needSort cX11_needSort 2 none wzX11_needSort rmX11_needSort 1 6 1 := zcV (zWi_21 _ (List.mem_of_getElem? (i := 2) rfl)) (zWi_13 _ (List.mem_of_getElem? (i := 18) rfl)) (zWi_26 _ (List.mem_of_getElem? (i := 10) rfl)) (zWi_12 _ (List.mem_of_getElem? (i := 12) rfl)) (zWi_1 _ (List.mem_of_getElem? (i := 44) rfl)) (by decide +kernel) rfl rfl ⟨Nat.le_of_ble_eq_true rfl, Nat.le_of_ble_eq_true rfl⟩
theorem kX11_good_152 : ∀ (s9 : State) (a9 : Array Value), (∀ w ∈ wzX11_good, w.before a9 s9 = true) → CallW rmX11_good s9 a9 RX11 RX7 152 yX7_isGood cX7_isGood 2 (some .boolean) wzX7_isGood rmX7_isGood 0 0 1 := zcV (zWi_21 _ (List.mem_of_getElem? (i := 5) rfl)) (zWi_16 _ (List.mem_of_getElem? (i := 48) rfl)) (zWi_29 _ (List.mem_of_getElem? (i := 24) rfl)) (zWi_12 _ (List.mem_of_getElem? (i := 19) rfl)) (zWi_5 _ (List.mem_of_getElem? (i := 32) rfl)) (by decide +kernel) rfl rfl ⟨Nat.le_of_ble_eq_true rfl, Nat.le_of_ble_eq_true rfl⟩
theorem fX11_cost_10 : zfl wzX11_cost RX11 vwCl 10 11 0 := ⟨_, _, _, rfl, (fun w h => List.mem_cons_of_mem _ (zWuX11 w h)), by decide, List.mem_cons_of_mem _ (zWi_8 _ (List.mem_of_getElem? (i := 6) rfl))⟩
theorem fX11_cost_255 : zfl wzX11_cost RX11 vwCl 255 8 2 := ⟨_, _, _, rfl, (fun w h => List.mem_cons_of_mem _ (zWuX8 w h)), by decide, List.mem_cons_of_mem _ (zWi_8 _ (List.mem_of_getElem? (i := 27) rfl))⟩
theorem fX11_cost_352 : zfl wzX11_cost RX11 vwCl 352 9 5 := ⟨_, _, _, rfl, (fun w h => List.mem_cons_of_mem _ (zWuX9 w h)), by decide, List.mem_cons_of_mem _ (zWi_8 _ (List.mem_of_getElem? (i := 38) rfl))⟩
theorem kX11_cost_93 : ∀ (s9 : State) (a9 : Array Value), (∀ w ∈ wzX11_cost, w.before a9 s9 = true) → CallB rmX11_cost s9 a9 RX11 93 yX11_within cX11_within 6 (some .boolean) wzX11_within rmX11_within 0 0 3 ∧ (Cond.static yX11_within).before a9 s9 = true := zcS (zWi_22 _ (List.mem_of_getElem? (i := 14) rfl)) (zWi_31 _ (List.mem_of_getElem? (i := 9) rfl)) (zWi_12 _ (List.mem_of_getElem? (i := 12) rfl)) (zWi_2 _ (List.mem_of_getElem? (i := 17) rfl)) (by decide +kernel) rfl rfl ⟨Nat.le_of_ble_eq_true rfl, Nat.le_of_ble_eq_true rfl⟩
theorem kX11_cost_115 : ∀ (s9 : State) (a9 : Array Value), (∀ w ∈ wzX11_cost, w.before a9 s9 = true) → CallB rmX11_cost s9 a9 RX11 115 yX11_needThere cX11_needThere 1 none wzX11_needThere rmX11_needThere 1 6 1 ∧ (Cond.static yX11_needThere).before a9 s9 = true := zcS (zWi_21 _ (List.mem_of_getElem? (i := 3) rfl)) (zWi_31 _ (List.mem_of_getElem? (i := 7) rfl)) (zWi_12 _ (List.mem_of_getElem? (i := 12) rfl)) (zWi_1 _ (List.mem_of_getElem? (i := 45) rfl)) (by decide +kernel) rfl rfl ⟨Nat.le_of_ble_eq_true rfl, Nat.le_of_ble_eq_true rfl⟩
theorem kX11_cost_97 : ∀ (s9 : State) (a9 : Array Value), (∀ w ∈ wzX11_cost, w.before a9 s9 = true) → CallB rmX11_cost s9 a9 RX11 97 yX11_need cX11_need 1 none wzX11_need rmX11_need 1 6 1 ∧ (Cond.static yX11_need).before a9 s9 = true := zcS (zWi_22 _ (List.mem_of_getElem? (i := 15) rfl)) (zWi_31 _ (List.mem_of_getElem? (i := 6) rfl)) (zWi_12 _ (List.mem_of_getElem? (i := 12) rfl)) (zWi_1 _ (List.mem_of_getElem? (i := 40) rfl)) (by decide +kernel) rfl rfl ⟨Nat.le_of_ble_eq_true rfl, Nat.le_of_ble_eq_true rfl⟩
theorem kX11_cost_132 : ∀ (s9 : State) (a9 : Array Value), (∀ w ∈ wzX11_cost, w.before a9 s9 = true) → CallB rmX11_cost s9 a9 RX11 132 yX11_swap cX11_swap 4 (some .int) wzX11_swap rmX11_swap 0 0 3 ∧ (Cond.static yX11_swap).before a9 s9 = true := zcS (zWi_21 _ (List.mem_of_getElem? (i := 4) rfl)) (zWi_31 _ (List.mem_of_getElem? (i := 8) rfl)) (zWi_12 _ (List.mem_of_getElem? (i := 12) rfl)) (zWi_2 _ (List.mem_of_getElem? (i := 9) rfl)) (by decide +kernel) rfl rfl ⟨Nat.le_of_ble_eq_true rfl, Nat.le_of_ble_eq_true rfl⟩
theorem fX11_bag_10 : zfl wzX11_bag RX11 vwCl 10 11 0 := ⟨_, _, _, rfl, (fun w h => List.mem_cons_of_mem _ (zWuX11 w h)), by decide, List.mem_cons_of_mem _ (zWi_8 _ (List.mem_of_getElem? (i := 6) rfl))⟩
theorem fX11_bag_255 : zfl wzX11_bag RX11 vwCl 255 8 2 := ⟨_, _, _, rfl, (fun w h => List.mem_cons_of_mem _ (zWuX8 w h)), by decide, List.mem_cons_of_mem _ (zWi_8 _ (List.mem_of_getElem? (i := 27) rfl))⟩
theorem fX11_bag_275 : zfl wzX11_bag RX11 vwCl 275 9 2 := ⟨_, _, _, rfl, (fun w h => List.mem_cons_of_mem _ (zWuX9 w h)), by decide, List.mem_cons_of_mem _ (zWi_8 _ (List.mem_of_getElem? (i := 30) rfl))⟩
theorem kX11_bag_109 : ∀ (s9 : State) (a9 : Array Value), (∀ w ∈ wzX11_bag, w.before a9 s9 = true) → CallW rmX11_bag s9 a9 RX11 RX11 109 yX11_needSort cX11_needSort 2 none wzX11_needSort rmX11_needSort 1 6 1 := zcV (zWi_21 _ (List.mem_of_getElem? (i := 2) rfl)) (zWi_13 _ (List.mem_of_getElem? (i := 18) rfl)) (zWi_26 _ (List.mem_of_getElem? (i := 10) rfl)) (zWi_12 _ (List.mem_of_getElem? (i := 12) rfl)) (zWi_1 _ (List.mem_of_getElem? (i := 44) rfl)) (by decide +kernel) rfl rfl ⟨Nat.le_of_ble_eq_true rfl, Nat.le_of_ble_eq_true rfl⟩
theorem fX11_offer_10 : zfl wzX11_offer RX11 vwCl 10 11 0 := ⟨_, _, _, rfl, (fun w h => List.mem_cons_of_mem _ (zWuX11 w h)), by decide, List.mem_cons_of_mem _ (zWi_8 _ (List.mem_of_getElem? (i := 6) rfl))⟩
theorem kX11_offer_93 : ∀ (s9 : State) (a9 : Array Value), (∀ w ∈ wzX11_offer, w.before a9 s9 = true) → CallB rmX11_offer s9 a9 RX11 93 yX11_within cX11_within 6 (some .boolean) wzX11_within rmX11_within 0 0 3 ∧ (Cond.static yX11_within).before a9 s9 = true := zcS (zWi_22 _ (List.mem_of_getElem? (i := 14) rfl)) (zWi_31 _ (List.mem_of_getElem? (i := 9) rfl)) (zWi_12 _ (List.mem_of_getElem? (i := 12) rfl)) (zWi_2 _ (List.mem_of_getElem? (i := 17) rfl)) (by decide +kernel) rfl rfl ⟨Nat.le_of_ble_eq_true rfl, Nat.le_of_ble_eq_true rfl⟩
theorem kX11_offer_97 : ∀ (s9 : State) (a9 : Array Value), (∀ w ∈ wzX11_offer, w.before a9 s9 = true) → CallB rmX11_offer s9 a9 RX11 97 yX11_need cX11_need 1 none wzX11_need rmX11_need 1 6 1 ∧ (Cond.static yX11_need).before a9 s9 = true := zcS (zWi_22 _ (List.mem_of_getElem? (i := 15) rfl)) (zWi_31 _ (List.mem_of_getElem? (i := 6) rfl)) (zWi_12 _ (List.mem_of_getElem? (i := 12) rfl)) (zWi_1 _ (List.mem_of_getElem? (i := 40) rfl)) (by decide +kernel) rfl rfl ⟨Nat.le_of_ble_eq_true rfl, Nat.le_of_ble_eq_true rfl⟩
theorem kX11_offer_246 : ∀ (s9 : State) (a9 : Array Value), (∀ w ∈ wzX11_offer, w.before a9 s9 = true) → CallW rmX11_offer s9 a9 RX11 RX8 246 yX8_addGood cX8_addGood 2 (some .int) wzX8_addGood rmX8_addGood 0 0 1 := zcV (zWi_21 _ (List.mem_of_getElem? (i := 21) rfl)) (zWi_17 _ (List.mem_of_getElem? (i := 4) rfl)) (zWi_29 _ (List.mem_of_getElem? (i := 30) rfl)) (zWi_12 _ (List.mem_of_getElem? (i := 20) rfl)) (zWi_5 _ (List.mem_of_getElem? (i := 38) rfl)) (by decide +kernel) rfl rfl ⟨Nat.le_of_ble_eq_true rfl, Nat.le_of_ble_eq_true rfl⟩
theorem fX11_price_10 : zfl wzX11_price RX11 vwCl 10 11 0 := ⟨_, _, _, rfl, (fun w h => List.mem_cons_of_mem _ (zWuX11 w h)), by decide, List.mem_cons_of_mem _ (zWi_8 _ (List.mem_of_getElem? (i := 6) rfl))⟩
theorem fX11_price_252 : zfl wzX11_price RX11 vwCl 252 8 4 := ⟨_, _, _, rfl, (fun w h => List.mem_cons_of_mem _ (zWuX8 w h)), by decide, List.mem_cons_of_mem _ (zWi_8 _ (List.mem_of_getElem? (i := 26) rfl))⟩
theorem kX11_price_249 : ∀ (s9 : State) (a9 : Array Value), (∀ w ∈ wzX11_price, w.before a9 s9 = true) → CallW rmX11_price s9 a9 RX11 RX11 249 yX11_needGood cX11_needGood 2 none wzX11_needGood rmX11_needGood 1 6 1 := zcV (zWi_21 _ (List.mem_of_getElem? (i := 22) rfl)) (zWi_13 _ (List.mem_of_getElem? (i := 16) rfl)) (zWi_26 _ (List.mem_of_getElem? (i := 8) rfl)) (zWi_12 _ (List.mem_of_getElem? (i := 12) rfl)) (zWi_1 _ (List.mem_of_getElem? (i := 42) rfl)) (by decide +kernel) rfl rfl ⟨Nat.le_of_ble_eq_true rfl, Nat.le_of_ble_eq_true rfl⟩
theorem kX11_price_93 : ∀ (s9 : State) (a9 : Array Value), (∀ w ∈ wzX11_price, w.before a9 s9 = true) → CallB rmX11_price s9 a9 RX11 93 yX11_within cX11_within 6 (some .boolean) wzX11_within rmX11_within 0 0 3 ∧ (Cond.static yX11_within).before a9 s9 = true := zcS (zWi_22 _ (List.mem_of_getElem? (i := 14) rfl)) (zWi_31 _ (List.mem_of_getElem? (i := 9) rfl)) (zWi_12 _ (List.mem_of_getElem? (i := 12) rfl)) (zWi_2 _ (List.mem_of_getElem? (i := 17) rfl)) (by decide +kernel) rfl rfl ⟨Nat.le_of_ble_eq_true rfl, Nat.le_of_ble_eq_true rfl⟩
theorem kX11_price_97 : ∀ (s9 : State) (a9 : Array Value), (∀ w ∈ wzX11_price, w.before a9 s9 = true) → CallB rmX11_price s9 a9 RX11 97 yX11_need cX11_need 1 none wzX11_need rmX11_need 1 6 1 ∧ (Cond.static yX11_need).before a9 s9 = true := zcS (zWi_22 _ (List.mem_of_getElem? (i := 15) rfl)) (zWi_31 _ (List.mem_of_getElem? (i := 6) rfl)) (zWi_12 _ (List.mem_of_getElem? (i := 12) rfl)) (zWi_1 _ (List.mem_of_getElem? (i := 40) rfl)) (by decide +kernel) rfl rfl ⟨Nat.le_of_ble_eq_true rfl, Nat.le_of_ble_eq_true rfl⟩
theorem kX11_price_132 : ∀ (s9 : State) (a9 : Array Value), (∀ w ∈ wzX11_price, w.before a9 s9 = true) → CallB rmX11_price s9 a9 RX11 132 yX11_swap cX11_swap 4 (some .int) wzX11_swap rmX11_swap 0 0 3 ∧ (Cond.static yX11_swap).before a9 s9 = true := zcS (zWi_21 _ (List.mem_of_getElem? (i := 4) rfl)) (zWi_31 _ (List.mem_of_getElem? (i := 8) rfl)) (zWi_12 _ (List.mem_of_getElem? (i := 12) rfl)) (zWi_2 _ (List.mem_of_getElem? (i := 9) rfl)) (by decide +kernel) rfl rfl ⟨Nat.le_of_ble_eq_true rfl, Nat.le_of_ble_eq_true rfl⟩
theorem fX11_machine_10 : zfl wzX11_machine RX11 vwCl 10 11 0 := ⟨_, _, _, rfl, (fun w h => List.mem_cons_of_mem _ (zWuX11 w h)), by decide, List.mem_cons_of_mem _ (zWi_8 _ (List.mem_of_getElem? (i := 6) rfl))⟩
theorem kX11_machine_93 : ∀ (s9 : State) (a9 : Array Value), (∀ w ∈ wzX11_machine, w.before a9 s9 = true) → CallB rmX11_machine s9 a9 RX11 93 yX11_within cX11_within 6 (some .boolean) wzX11_within rmX11_within 0 0 3 ∧ (Cond.static yX11_within).before a9 s9 = true := zcS (zWi_22 _ (List.mem_of_getElem? (i := 14) rfl)) (zWi_31 _ (List.mem_of_getElem? (i := 9) rfl)) (zWi_12 _ (List.mem_of_getElem? (i := 12) rfl)) (zWi_2 _ (List.mem_of_getElem? (i := 17) rfl)) (by decide +kernel) rfl rfl ⟨Nat.le_of_ble_eq_true rfl, Nat.le_of_ble_eq_true rfl⟩
theorem kX11_machine_97 : ∀ (s9 : State) (a9 : Array Value), (∀ w ∈ wzX11_machine, w.before a9 s9 = true) → CallB rmX11_machine s9 a9 RX11 97 yX11_need cX11_need 1 none wzX11_need rmX11_need 1 6 1 ∧ (Cond.static yX11_need).before a9 s9 = true := zcS (zWi_22 _ (List.mem_of_getElem? (i := 15) rfl)) (zWi_31 _ (List.mem_of_getElem? (i := 6) rfl)) (zWi_12 _ (List.mem_of_getElem? (i := 12) rfl)) (zWi_1 _ (List.mem_of_getElem? (i := 40) rfl)) (by decide +kernel) rfl rfl ⟨Nat.le_of_ble_eq_true rfl, Nat.le_of_ble_eq_true rfl⟩
theorem kX11_machine_385 : ∀ (s9 : State) (a9 : Array Value), (∀ w ∈ wzX11_machine, w.before a9 s9 = true) → CallW rmX11_machine s9 a9 RX11 RX8 385 yX8_addMachine cX8_addMachine 3 (some .int) wzX8_addMachine rmX8_addMachine 0 0 2 := zcV (zWi_21 _ (List.mem_of_getElem? (i := 49) rfl)) (zWi_17 _ (List.mem_of_getElem? (i := 5) rfl)) (zWi_29 _ (List.mem_of_getElem? (i := 31) rfl)) (zWi_12 _ (List.mem_of_getElem? (i := 20) rfl)) (zWi_5 _ (List.mem_of_getElem? (i := 39) rfl)) (by decide +kernel) rfl rfl ⟨Nat.le_of_ble_eq_true rfl, Nat.le_of_ble_eq_true rfl⟩
theorem fX11_coins_10 : zfl wzX11_coins RX11 vwCl 10 11 0 := ⟨_, _, _, rfl, (fun w h => List.mem_cons_of_mem _ (zWuX11 w h)), by decide, List.mem_cons_of_mem _ (zWi_8 _ (List.mem_of_getElem? (i := 6) rfl))⟩
theorem fX11_coins_39 : zfl wzX11_coins RX11 vwCl 39 8 0 := ⟨_, _, _, rfl, (fun w h => List.mem_cons_of_mem _ (zWuX8 w h)), by decide, List.mem_cons_of_mem _ (zWi_8 _ (List.mem_of_getElem? (i := 43) rfl))⟩
theorem kX11_coins_109 : ∀ (s9 : State) (a9 : Array Value), (∀ w ∈ wzX11_coins, w.before a9 s9 = true) → CallW rmX11_coins s9 a9 RX11 RX11 109 yX11_needSort cX11_needSort 2 none wzX11_needSort rmX11_needSort 1 6 1 := zcV (zWi_21 _ (List.mem_of_getElem? (i := 2) rfl)) (zWi_13 _ (List.mem_of_getElem? (i := 18) rfl)) (zWi_26 _ (List.mem_of_getElem? (i := 10) rfl)) (zWi_12 _ (List.mem_of_getElem? (i := 12) rfl)) (zWi_1 _ (List.mem_of_getElem? (i := 44) rfl)) (by decide +kernel) rfl rfl ⟨Nat.le_of_ble_eq_true rfl, Nat.le_of_ble_eq_true rfl⟩
theorem kX11_coins_199 : ∀ (s9 : State) (a9 : Array Value), (∀ w ∈ wzX11_coins, w.before a9 s9 = true) → CallW rmX11_coins s9 a9 RX11 RX7 199 yX7_size cX7_size 5 (some .long) wzX7_size rmX7_size 0 0 1 := zcV (zWi_21 _ (List.mem_of_getElem? (i := 12) rfl)) (zWi_17 _ (List.mem_of_getElem? (i := 0) rfl)) (zWi_29 _ (List.mem_of_getElem? (i := 26) rfl)) (zWi_12 _ (List.mem_of_getElem? (i := 19) rfl)) (zWi_5 _ (List.mem_of_getElem? (i := 34) rfl)) (by decide +kernel) rfl rfl ⟨Nat.le_of_ble_eq_true rfl, Nat.le_of_ble_eq_true rfl⟩
theorem fX11_gate_10 : zfl wzX11_gate RX11 vwCl 10 11 0 := ⟨_, _, _, rfl, (fun w h => List.mem_cons_of_mem _ (zWuX11 w h)), by decide, List.mem_cons_of_mem _ (zWi_8 _ (List.mem_of_getElem? (i := 6) rfl))⟩
theorem fX11_gate_43 : zfl wzX11_gate RX11 vwCl 43 8 1 := ⟨_, _, _, rfl, (fun w h => List.mem_cons_of_mem _ (zWuX8 w h)), by decide, List.mem_cons_of_mem _ (zWi_8 _ (List.mem_of_getElem? (i := 47) rfl))⟩
theorem fX11_gate_191 : zfl wzX11_gate RX11 vwCl 191 2 1 := ⟨_, _, _, rfl, (fun w h => List.mem_cons_of_mem _ (zWuX2 w h)), by decide, List.mem_cons_of_mem _ (zWi_8 _ (List.mem_of_getElem? (i := 18) rfl))⟩
theorem fX11_gate_194 : zfl wzX11_gate RX11 vwCl 194 2 2 := ⟨_, _, _, rfl, (fun w h => List.mem_cons_of_mem _ (zWuX2 w h)), by decide, List.mem_cons_of_mem _ (zWi_8 _ (List.mem_of_getElem? (i := 19) rfl))⟩
theorem fX11_gate_195 : zfl wzX11_gate RX11 vwCl 195 2 3 := ⟨_, _, _, rfl, (fun w h => List.mem_cons_of_mem _ (zWuX2 w h)), by decide, List.mem_cons_of_mem _ (zWi_8 _ (List.mem_of_getElem? (i := 20) rfl))⟩
theorem kX11_gate_188 : ∀ (s9 : State) (a9 : Array Value), (∀ w ∈ wzX11_gate, w.before a9 s9 = true) → CallW rmX11_gate s9 a9 RX11 RX11 188 yX11_needGate cX11_needGate 2 none wzX11_needGate rmX11_needGate 1 6 1 := zcV (zWi_21 _ (List.mem_of_getElem? (i := 10) rfl)) (zWi_13 _ (List.mem_of_getElem? (i := 15) rfl)) (zWi_26 _ (List.mem_of_getElem? (i := 7) rfl)) (zWi_12 _ (List.mem_of_getElem? (i := 12) rfl)) (zWi_1 _ (List.mem_of_getElem? (i := 41) rfl)) (by decide +kernel) rfl rfl ⟨Nat.le_of_ble_eq_true rfl, Nat.le_of_ble_eq_true rfl⟩
theorem kX11_gate_93 : ∀ (s9 : State) (a9 : Array Value), (∀ w ∈ wzX11_gate, w.before a9 s9 = true) → CallB rmX11_gate s9 a9 RX11 93 yX11_within cX11_within 6 (some .boolean) wzX11_within rmX11_within 0 0 3 ∧ (Cond.static yX11_within).before a9 s9 = true := zcS (zWi_22 _ (List.mem_of_getElem? (i := 14) rfl)) (zWi_31 _ (List.mem_of_getElem? (i := 9) rfl)) (zWi_12 _ (List.mem_of_getElem? (i := 12) rfl)) (zWi_2 _ (List.mem_of_getElem? (i := 17) rfl)) (by decide +kernel) rfl rfl ⟨Nat.le_of_ble_eq_true rfl, Nat.le_of_ble_eq_true rfl⟩
theorem kX11_gate_97 : ∀ (s9 : State) (a9 : Array Value), (∀ w ∈ wzX11_gate, w.before a9 s9 = true) → CallB rmX11_gate s9 a9 RX11 97 yX11_need cX11_need 1 none wzX11_need rmX11_need 1 6 1 ∧ (Cond.static yX11_need).before a9 s9 = true := zcS (zWi_22 _ (List.mem_of_getElem? (i := 15) rfl)) (zWi_31 _ (List.mem_of_getElem? (i := 6) rfl)) (zWi_12 _ (List.mem_of_getElem? (i := 12) rfl)) (zWi_1 _ (List.mem_of_getElem? (i := 40) rfl)) (by decide +kernel) rfl rfl ⟨Nat.le_of_ble_eq_true rfl, Nat.le_of_ble_eq_true rfl⟩
theorem fX11_fault_33 : zfl wzX11_fault RX11 vwCl 33 11 4 := ⟨_, _, _, rfl, (fun w h => List.mem_cons_of_mem _ (zWuX11 w h)), by decide, List.mem_cons_of_mem _ (zWi_8 _ (List.mem_of_getElem? (i := 36) rfl))⟩
theorem fX11_fault_170 : zfl wzX11_fault RX11 vwCl 170 4 2 := ⟨_, _, _, rfl, (fun w h => List.mem_cons_of_mem _ (zWuX4 w h)), by decide, List.mem_cons_of_mem _ (zWi_8 _ (List.mem_of_getElem? (i := 14) rfl))⟩
theorem fX11_fault_185 : zfl wzX11_fault RX11 vwCl 185 4 3 := ⟨_, _, _, rfl, (fun w h => List.mem_cons_of_mem _ (zWuX4 w h)), by decide, List.mem_cons_of_mem _ (zWi_8 _ (List.mem_of_getElem? (i := 17) rfl))⟩
theorem fX11_credit_10 : zfl wzX11_credit RX11 vwCl 10 11 0 := ⟨_, _, _, rfl, (fun w h => List.mem_cons_of_mem _ (zWuX11 w h)), by decide, List.mem_cons_of_mem _ (zWi_8 _ (List.mem_of_getElem? (i := 6) rfl))⟩
theorem fX11_credit_255 : zfl wzX11_credit RX11 vwCl 255 8 2 := ⟨_, _, _, rfl, (fun w h => List.mem_cons_of_mem _ (zWuX8 w h)), by decide, List.mem_cons_of_mem _ (zWi_8 _ (List.mem_of_getElem? (i := 27) rfl))⟩
theorem kX11_credit_288 : ∀ (s9 : State) (a9 : Array Value), (∀ w ∈ wzX11_credit, w.before a9 s9 = true) → CallW rmX11_credit s9 a9 RX11 RX9 288 yX9_allCredit cX9_allCredit 3 (some .int) wzX9_allCredit rmX9_allCredit 0 0 0 := zcV (zWi_21 _ (List.mem_of_getElem? (i := 27) rfl)) (zWi_17 _ (List.mem_of_getElem? (i := 9) rfl)) (zWi_29 _ (List.mem_of_getElem? (i := 34) rfl)) (zWi_12 _ (List.mem_of_getElem? (i := 21) rfl)) (zWi_5 _ (List.mem_of_getElem? (i := 43) rfl)) (by decide +kernel) rfl rfl ⟨Nat.le_of_ble_eq_true rfl, Nat.le_of_ble_eq_true rfl⟩
theorem fX11_given_10 : zfl wzX11_given RX11 vwCl 10 11 0 := ⟨_, _, _, rfl, (fun w h => List.mem_cons_of_mem _ (zWuX11 w h)), by decide, List.mem_cons_of_mem _ (zWi_8 _ (List.mem_of_getElem? (i := 6) rfl))⟩
theorem fX11_given_255 : zfl wzX11_given RX11 vwCl 255 8 2 := ⟨_, _, _, rfl, (fun w h => List.mem_cons_of_mem _ (zWuX8 w h)), by decide, List.mem_cons_of_mem _ (zWi_8 _ (List.mem_of_getElem? (i := 27) rfl))⟩
theorem fX11_given_299 : zfl wzX11_given RX11 vwCl 299 9 11 := ⟨_, _, _, rfl, (fun w h => List.mem_cons_of_mem _ (zWuX9 w h)), by decide, List.mem_cons_of_mem _ (zWi_8 _ (List.mem_of_getElem? (i := 33) rfl))⟩
theorem fX11_given_316 : zfl wzX11_given RX11 vwCl 316 9 12 := ⟨_, _, _, rfl, (fun w h => List.mem_cons_of_mem _ (zWuX9 w h)), by decide, List.mem_cons_of_mem _ (zWi_8 _ (List.mem_of_getElem? (i := 35) rfl))⟩
theorem kX11_given_93 : ∀ (s9 : State) (a9 : Array Value), (∀ w ∈ wzX11_given, w.before a9 s9 = true) → CallB rmX11_given s9 a9 RX11 93 yX11_within cX11_within 6 (some .boolean) wzX11_within rmX11_within 0 0 3 ∧ (Cond.static yX11_within).before a9 s9 = true := zcS (zWi_22 _ (List.mem_of_getElem? (i := 14) rfl)) (zWi_31 _ (List.mem_of_getElem? (i := 9) rfl)) (zWi_12 _ (List.mem_of_getElem? (i := 12) rfl)) (zWi_2 _ (List.mem_of_getElem? (i := 17) rfl)) (by decide +kernel) rfl rfl ⟨Nat.le_of_ble_eq_true rfl, Nat.le_of_ble_eq_true rfl⟩
theorem fX11_tube_10 : zfl wzX11_tube RX11 vwCl 10 11 0 := ⟨_, _, _, rfl, (fun w h => List.mem_cons_of_mem _ (zWuX11 w h)), by decide, List.mem_cons_of_mem _ (zWi_8 _ (List.mem_of_getElem? (i := 6) rfl))⟩
theorem fX11_tube_255 : zfl wzX11_tube RX11 vwCl 255 8 2 := ⟨_, _, _, rfl, (fun w h => List.mem_cons_of_mem _ (zWuX8 w h)), by decide, List.mem_cons_of_mem _ (zWi_8 _ (List.mem_of_getElem? (i := 27) rfl))⟩
theorem fX11_tube_268 : zfl wzX11_tube RX11 vwCl 268 9 1 := ⟨_, _, _, rfl, (fun w h => List.mem_cons_of_mem _ (zWuX9 w h)), by decide, List.mem_cons_of_mem _ (zWi_8 _ (List.mem_of_getElem? (i := 29) rfl))⟩
theorem kX11_tube_109 : ∀ (s9 : State) (a9 : Array Value), (∀ w ∈ wzX11_tube, w.before a9 s9 = true) → CallW rmX11_tube s9 a9 RX11 RX11 109 yX11_needSort cX11_needSort 2 none wzX11_needSort rmX11_needSort 1 6 1 := zcV (zWi_21 _ (List.mem_of_getElem? (i := 2) rfl)) (zWi_13 _ (List.mem_of_getElem? (i := 18) rfl)) (zWi_26 _ (List.mem_of_getElem? (i := 10) rfl)) (zWi_12 _ (List.mem_of_getElem? (i := 12) rfl)) (zWi_1 _ (List.mem_of_getElem? (i := 44) rfl)) (by decide +kernel) rfl rfl ⟨Nat.le_of_ble_eq_true rfl, Nat.le_of_ble_eq_true rfl⟩
theorem kX11_tube_93 : ∀ (s9 : State) (a9 : Array Value), (∀ w ∈ wzX11_tube, w.before a9 s9 = true) → CallB rmX11_tube s9 a9 RX11 93 yX11_within cX11_within 6 (some .boolean) wzX11_within rmX11_within 0 0 3 ∧ (Cond.static yX11_within).before a9 s9 = true := zcS (zWi_22 _ (List.mem_of_getElem? (i := 14) rfl)) (zWi_31 _ (List.mem_of_getElem? (i := 9) rfl)) (zWi_12 _ (List.mem_of_getElem? (i := 12) rfl)) (zWi_2 _ (List.mem_of_getElem? (i := 17) rfl)) (by decide +kernel) rfl rfl ⟨Nat.le_of_ble_eq_true rfl, Nat.le_of_ble_eq_true rfl⟩
theorem kX11_tube_97 : ∀ (s9 : State) (a9 : Array Value), (∀ w ∈ wzX11_tube, w.before a9 s9 = true) → CallB rmX11_tube s9 a9 RX11 97 yX11_need cX11_need 1 none wzX11_need rmX11_need 1 6 1 ∧ (Cond.static yX11_need).before a9 s9 = true := zcS (zWi_22 _ (List.mem_of_getElem? (i := 15) rfl)) (zWi_31 _ (List.mem_of_getElem? (i := 6) rfl)) (zWi_12 _ (List.mem_of_getElem? (i := 12) rfl)) (zWi_1 _ (List.mem_of_getElem? (i := 40) rfl)) (by decide +kernel) rfl rfl ⟨Nat.le_of_ble_eq_true rfl, Nat.le_of_ble_eq_true rfl⟩
theorem kX11_tube_319 : ∀ (s9 : State) (a9 : Array Value), (∀ w ∈ wzX11_tube, w.before a9 s9 = true) → CallW rmX11_tube s9 a9 RX11 RX9 319 yX9_strangers cX9_strangers 2 (some .int) wzX9_strangers rmX9_strangers 0 0 1 := zcV (zWi_21 _ (List.mem_of_getElem? (i := 34) rfl)) (zWi_17 _ (List.mem_of_getElem? (i := 23) rfl)) (zWi_29 _ (List.mem_of_getElem? (i := 47) rfl)) (zWi_12 _ (List.mem_of_getElem? (i := 21) rfl)) (zWi_6 _ (List.mem_of_getElem? (i := 7) rfl)) (by decide +kernel) rfl rfl ⟨Nat.le_of_ble_eq_true rfl, Nat.le_of_ble_eq_true rfl⟩
theorem kX11_tube_322 : ∀ (s9 : State) (a9 : Array Value), (∀ w ∈ wzX11_tube, w.before a9 s9 = true) → CallW rmX11_tube s9 a9 RX11 RX9 322 yX9_top cX9_top 2 (some .int) wzX9_top rmX9_top 0 0 1 := zcV (zWi_21 _ (List.mem_of_getElem? (i := 35) rfl)) (zWi_17 _ (List.mem_of_getElem? (i := 25) rfl)) (zWi_29 _ (List.mem_of_getElem? (i := 49) rfl)) (zWi_12 _ (List.mem_of_getElem? (i := 21) rfl)) (zWi_6 _ (List.mem_of_getElem? (i := 9) rfl)) (by decide +kernel) rfl rfl ⟨Nat.le_of_ble_eq_true rfl, Nat.le_of_ble_eq_true rfl⟩
theorem fX11_wheel_10 : zfl wzX11_wheel RX11 vwCl 10 11 0 := ⟨_, _, _, rfl, (fun w h => List.mem_cons_of_mem _ (zWuX11 w h)), by decide, List.mem_cons_of_mem _ (zWi_8 _ (List.mem_of_getElem? (i := 6) rfl))⟩
theorem fX11_wheel_255 : zfl wzX11_wheel RX11 vwCl 255 8 2 := ⟨_, _, _, rfl, (fun w h => List.mem_cons_of_mem _ (zWuX8 w h)), by decide, List.mem_cons_of_mem _ (zWi_8 _ (List.mem_of_getElem? (i := 27) rfl))⟩
theorem fX11_wheel_340 : zfl wzX11_wheel RX11 vwCl 340 9 4 := ⟨_, _, _, rfl, (fun w h => List.mem_cons_of_mem _ (zWuX9 w h)), by decide, List.mem_cons_of_mem _ (zWi_8 _ (List.mem_of_getElem? (i := 37) rfl))⟩
theorem kX11_wheel_109 : ∀ (s9 : State) (a9 : Array Value), (∀ w ∈ wzX11_wheel, w.before a9 s9 = true) → CallW rmX11_wheel s9 a9 RX11 RX11 109 yX11_needSort cX11_needSort 2 none wzX11_needSort rmX11_needSort 1 6 1 := zcV (zWi_21 _ (List.mem_of_getElem? (i := 2) rfl)) (zWi_13 _ (List.mem_of_getElem? (i := 18) rfl)) (zWi_26 _ (List.mem_of_getElem? (i := 10) rfl)) (zWi_12 _ (List.mem_of_getElem? (i := 12) rfl)) (zWi_1 _ (List.mem_of_getElem? (i := 44) rfl)) (by decide +kernel) rfl rfl ⟨Nat.le_of_ble_eq_true rfl, Nat.le_of_ble_eq_true rfl⟩
theorem kX11_wheel_93 : ∀ (s9 : State) (a9 : Array Value), (∀ w ∈ wzX11_wheel, w.before a9 s9 = true) → CallB rmX11_wheel s9 a9 RX11 93 yX11_within cX11_within 6 (some .boolean) wzX11_within rmX11_within 0 0 3 ∧ (Cond.static yX11_within).before a9 s9 = true := zcS (zWi_22 _ (List.mem_of_getElem? (i := 14) rfl)) (zWi_31 _ (List.mem_of_getElem? (i := 9) rfl)) (zWi_12 _ (List.mem_of_getElem? (i := 12) rfl)) (zWi_2 _ (List.mem_of_getElem? (i := 17) rfl)) (by decide +kernel) rfl rfl ⟨Nat.le_of_ble_eq_true rfl, Nat.le_of_ble_eq_true rfl⟩
theorem kX11_wheel_97 : ∀ (s9 : State) (a9 : Array Value), (∀ w ∈ wzX11_wheel, w.before a9 s9 = true) → CallB rmX11_wheel s9 a9 RX11 97 yX11_need cX11_need 1 none wzX11_need rmX11_need 1 6 1 ∧ (Cond.static yX11_need).before a9 s9 = true := zcS (zWi_22 _ (List.mem_of_getElem? (i := 15) rfl)) (zWi_31 _ (List.mem_of_getElem? (i := 6) rfl)) (zWi_12 _ (List.mem_of_getElem? (i := 12) rfl)) (zWi_1 _ (List.mem_of_getElem? (i := 40) rfl)) (by decide +kernel) rfl rfl ⟨Nat.le_of_ble_eq_true rfl, Nat.le_of_ble_eq_true rfl⟩
theorem kX11_wheel_343 : ∀ (s9 : State) (a9 : Array Value), (∀ w ∈ wzX11_wheel, w.before a9 s9 = true) → CallW rmX11_wheel s9 a9 RX11 RX9 343 yX9_due cX9_due 2 (some .int) wzX9_due rmX9_due 0 0 1 := zcV (zWi_21 _ (List.mem_of_getElem? (i := 41) rfl)) (zWi_17 _ (List.mem_of_getElem? (i := 12) rfl)) (zWi_29 _ (List.mem_of_getElem? (i := 37) rfl)) (zWi_12 _ (List.mem_of_getElem? (i := 21) rfl)) (zWi_5 _ (List.mem_of_getElem? (i := 46) rfl)) (by decide +kernel) rfl rfl ⟨Nat.le_of_ble_eq_true rfl, Nat.le_of_ble_eq_true rfl⟩
theorem kX11_wheel_346 : ∀ (s9 : State) (a9 : Array Value), (∀ w ∈ wzX11_wheel, w.before a9 s9 = true) → CallW rmX11_wheel s9 a9 RX11 RX9 346 yX9_there cX9_there 4 (some .int) wzX9_there rmX9_there 0 0 1 := zcV (zWi_21 _ (List.mem_of_getElem? (i := 42) rfl)) (zWi_17 _ (List.mem_of_getElem? (i := 24) rfl)) (zWi_29 _ (List.mem_of_getElem? (i := 48) rfl)) (zWi_12 _ (List.mem_of_getElem? (i := 21) rfl)) (zWi_6 _ (List.mem_of_getElem? (i := 8) rfl)) (by decide +kernel) rfl rfl ⟨Nat.le_of_ble_eq_true rfl, Nat.le_of_ble_eq_true rfl⟩
theorem kX11_wheel_349 : ∀ (s9 : State) (a9 : Array Value), (∀ w ∈ wzX11_wheel, w.before a9 s9 = true) → CallW rmX11_wheel s9 a9 RX11 RX9 349 yX9_odd cX9_odd 2 (some .int) wzX9_odd rmX9_odd 0 0 1 := zcV (zWi_21 _ (List.mem_of_getElem? (i := 43) rfl)) (zWi_17 _ (List.mem_of_getElem? (i := 19) rfl)) (zWi_29 _ (List.mem_of_getElem? (i := 43) rfl)) (zWi_12 _ (List.mem_of_getElem? (i := 21) rfl)) (zWi_6 _ (List.mem_of_getElem? (i := 3) rfl)) (by decide +kernel) rfl rfl ⟨Nat.le_of_ble_eq_true rfl, Nat.le_of_ble_eq_true rfl⟩
theorem fX11_count_10 : zfl wzX11_count RX11 vwCl 10 11 0 := ⟨_, _, _, rfl, (fun w h => List.mem_cons_of_mem _ (zWuX11 w h)), by decide, List.mem_cons_of_mem _ (zWi_8 _ (List.mem_of_getElem? (i := 6) rfl))⟩
theorem fX11_count_39 : zfl wzX11_count RX11 vwCl 39 8 0 := ⟨_, _, _, rfl, (fun w h => List.mem_cons_of_mem _ (zWuX8 w h)), by decide, List.mem_cons_of_mem _ (zWi_8 _ (List.mem_of_getElem? (i := 43) rfl))⟩
theorem fX11_count_302 : zfl wzX11_count RX11 vwCl 302 7 0 := ⟨_, _, _, rfl, (fun w h => List.mem_cons_of_mem _ (zWuX7 w h)), by decide, List.mem_cons_of_mem _ (zWi_8 _ (List.mem_of_getElem? (i := 34) rfl))⟩
theorem fX11_count_43 : zfl wzX11_count RX11 vwCl 43 8 1 := ⟨_, _, _, rfl, (fun w h => List.mem_cons_of_mem _ (zWuX8 w h)), by decide, List.mem_cons_of_mem _ (zWi_8 _ (List.mem_of_getElem? (i := 47) rfl))⟩
theorem fX11_count_182 : zfl wzX11_count RX11 vwCl 182 2 0 := ⟨_, _, _, rfl, (fun w h => List.mem_cons_of_mem _ (zWuX2 w h)), by decide, List.mem_cons_of_mem _ (zWi_8 _ (List.mem_of_getElem? (i := 16) rfl))⟩
theorem fX11_count_431 : zfl wzX11_count RX11 vwCl 431 8 3 := ⟨_, _, _, rfl, (fun w h => List.mem_cons_of_mem _ (zWuX8 w h)), by decide, List.mem_cons_of_mem _ (zWi_8 _ (List.mem_of_getElem? (i := 48) rfl))⟩
theorem fX11_count_255 : zfl wzX11_count RX11 vwCl 255 8 2 := ⟨_, _, _, rfl, (fun w h => List.mem_cons_of_mem _ (zWuX8 w h)), by decide, List.mem_cons_of_mem _ (zWi_8 _ (List.mem_of_getElem? (i := 27) rfl))⟩
theorem fX11_count_278 : zfl wzX11_count RX11 vwCl 278 9 6 := ⟨_, _, _, rfl, (fun w h => List.mem_cons_of_mem _ (zWuX9 w h)), by decide, List.mem_cons_of_mem _ (zWi_8 _ (List.mem_of_getElem? (i := 31) rfl))⟩
theorem fX11_count_377 : zfl wzX11_count RX11 vwCl 377 8 5 := ⟨_, _, _, rfl, (fun w h => List.mem_cons_of_mem _ (zWuX8 w h)), by decide, List.mem_cons_of_mem _ (zWi_8 _ (List.mem_of_getElem? (i := 42) rfl))⟩
theorem fX11_count_390 : zfl wzX11_count RX11 vwCl 390 8 10 := ⟨_, _, _, rfl, (fun w h => List.mem_cons_of_mem _ (zWuX8 w h)), by decide, List.mem_cons_of_mem _ (zWi_8 _ (List.mem_of_getElem? (i := 44) rfl))⟩
theorem fX11_count_33 : zfl wzX11_count RX11 vwCl 33 11 4 := ⟨_, _, _, rfl, (fun w h => List.mem_cons_of_mem _ (zWuX11 w h)), by decide, List.mem_cons_of_mem _ (zWi_8 _ (List.mem_of_getElem? (i := 36) rfl))⟩
theorem fX11_count_163 : zfl wzX11_count RX11 vwCl 163 4 1 := ⟨_, _, _, rfl, (fun w h => List.mem_cons_of_mem _ (zWuX4 w h)), by decide, List.mem_cons_of_mem _ (zWi_8 _ (List.mem_of_getElem? (i := 13) rfl))⟩
theorem fX11_count_299 : zfl wzX11_count RX11 vwCl 299 9 11 := ⟨_, _, _, rfl, (fun w h => List.mem_cons_of_mem _ (zWuX9 w h)), by decide, List.mem_cons_of_mem _ (zWi_8 _ (List.mem_of_getElem? (i := 33) rfl))⟩
theorem fX11_taken_50 : zfl wzX11_taken RX11 vwCl 50 11 5 := ⟨_, _, _, rfl, (fun w h => List.mem_cons_of_mem _ (zWuX11 w h)), by decide, List.mem_cons_of_mem _ (zWi_9 _ (List.mem_of_getElem? (i := 0) rfl))⟩
theorem kX11_taken_93 : ∀ (s9 : State) (a9 : Array Value), (∀ w ∈ wzX11_taken, w.before a9 s9 = true) → CallB rmX11_taken s9 a9 RX11 93 yX11_within cX11_within 6 (some .boolean) wzX11_within rmX11_within 0 0 3 ∧ (Cond.static yX11_within).before a9 s9 = true := zcS (zWi_22 _ (List.mem_of_getElem? (i := 14) rfl)) (zWi_31 _ (List.mem_of_getElem? (i := 9) rfl)) (zWi_12 _ (List.mem_of_getElem? (i := 12) rfl)) (zWi_2 _ (List.mem_of_getElem? (i := 17) rfl)) (by decide +kernel) rfl rfl ⟨Nat.le_of_ble_eq_true rfl, Nat.le_of_ble_eq_true rfl⟩
theorem kX11_taken_97 : ∀ (s9 : State) (a9 : Array Value), (∀ w ∈ wzX11_taken, w.before a9 s9 = true) → CallB rmX11_taken s9 a9 RX11 97 yX11_need cX11_need 1 none wzX11_need rmX11_need 1 6 1 ∧ (Cond.static yX11_need).before a9 s9 = true := zcS (zWi_22 _ (List.mem_of_getElem? (i := 15) rfl)) (zWi_31 _ (List.mem_of_getElem? (i := 6) rfl)) (zWi_12 _ (List.mem_of_getElem? (i := 12) rfl)) (zWi_1 _ (List.mem_of_getElem? (i := 40) rfl)) (by decide +kernel) rfl rfl ⟨Nat.le_of_ble_eq_true rfl, Nat.le_of_ble_eq_true rfl⟩
theorem kX11_taken_196 : ∀ (s9 : State) (a9 : Array Value), (∀ w ∈ wzX11_taken, w.before a9 s9 = true) → CallW rmX11_taken s9 a9 RX11 RX6 196 yX6_takes cX6_takes 8 (some .int) wzX6_takes rmX6_takes 0 0 3 := zcV (zWi_21 _ (List.mem_of_getElem? (i := 11) rfl)) (zWi_16 _ (List.mem_of_getElem? (i := 39) rfl)) (zWi_29 _ (List.mem_of_getElem? (i := 16) rfl)) (zWi_12 _ (List.mem_of_getElem? (i := 18) rfl)) (zWi_5 _ (List.mem_of_getElem? (i := 23) rfl)) (by decide +kernel) rfl rfl ⟨Nat.le_of_ble_eq_true rfl, Nat.le_of_ble_eq_true rfl⟩
theorem fX11_empty_10 : zfl wzX11_empty RX11 vwCl 10 11 0 := ⟨_, _, _, rfl, (fun w h => List.mem_cons_of_mem _ (zWuX11 w h)), by decide, List.mem_cons_of_mem _ (zWi_8 _ (List.mem_of_getElem? (i := 6) rfl))⟩
theorem fX11_empty_255 : zfl wzX11_empty RX11 vwCl 255 8 2 := ⟨_, _, _, rfl, (fun w h => List.mem_cons_of_mem _ (zWuX8 w h)), by decide, List.mem_cons_of_mem _ (zWi_8 _ (List.mem_of_getElem? (i := 27) rfl))⟩
theorem fX11_empty_268 : zfl wzX11_empty RX11 vwCl 268 9 1 := ⟨_, _, _, rfl, (fun w h => List.mem_cons_of_mem _ (zWuX9 w h)), by decide, List.mem_cons_of_mem _ (zWi_8 _ (List.mem_of_getElem? (i := 29) rfl))⟩
theorem kX11_empty_109 : ∀ (s9 : State) (a9 : Array Value), (∀ w ∈ wzX11_empty, w.before a9 s9 = true) → CallW rmX11_empty s9 a9 RX11 RX11 109 yX11_needSort cX11_needSort 2 none wzX11_needSort rmX11_needSort 1 6 1 := zcV (zWi_21 _ (List.mem_of_getElem? (i := 2) rfl)) (zWi_13 _ (List.mem_of_getElem? (i := 18) rfl)) (zWi_26 _ (List.mem_of_getElem? (i := 10) rfl)) (zWi_12 _ (List.mem_of_getElem? (i := 12) rfl)) (zWi_1 _ (List.mem_of_getElem? (i := 44) rfl)) (by decide +kernel) rfl rfl ⟨Nat.le_of_ble_eq_true rfl, Nat.le_of_ble_eq_true rfl⟩
theorem kX11_empty_325 : ∀ (s9 : State) (a9 : Array Value), (∀ w ∈ wzX11_empty, w.before a9 s9 = true) → CallW rmX11_empty s9 a9 RX11 RX9 325 yX9_tubeToBag cX9_tubeToBag 3 none wzX9_tubeToBag rmX9_tubeToBag 0 0 1 := zcV (zWi_21 _ (List.mem_of_getElem? (i := 36) rfl)) (zWi_17 _ (List.mem_of_getElem? (i := 26) rfl)) (zWi_30 _ (List.mem_of_getElem? (i := 0) rfl)) (zWi_12 _ (List.mem_of_getElem? (i := 21) rfl)) (zWi_6 _ (List.mem_of_getElem? (i := 10) rfl)) (by decide +kernel) rfl rfl ⟨Nat.le_of_ble_eq_true rfl, Nat.le_of_ble_eq_true rfl⟩
theorem fX11_refund_10 : zfl wzX11_refund RX11 vwCl 10 11 0 := ⟨_, _, _, rfl, (fun w h => List.mem_cons_of_mem _ (zWuX11 w h)), by decide, List.mem_cons_of_mem _ (zWi_8 _ (List.mem_of_getElem? (i := 6) rfl))⟩
theorem fX11_refund_255 : zfl wzX11_refund RX11 vwCl 255 8 2 := ⟨_, _, _, rfl, (fun w h => List.mem_cons_of_mem _ (zWuX8 w h)), by decide, List.mem_cons_of_mem _ (zWi_8 _ (List.mem_of_getElem? (i := 27) rfl))⟩
theorem fX11_refund_299 : zfl wzX11_refund RX11 vwCl 299 9 11 := ⟨_, _, _, rfl, (fun w h => List.mem_cons_of_mem _ (zWuX9 w h)), by decide, List.mem_cons_of_mem _ (zWi_8 _ (List.mem_of_getElem? (i := 33) rfl))⟩
theorem kX11_refund_313 : ∀ (s9 : State) (a9 : Array Value), (∀ w ∈ wzX11_refund, w.before a9 s9 = true) → CallW rmX11_refund s9 a9 RX11 RX9 313 yX9_slideBack cX9_slideBack 2 none wzX9_slideBack rmX9_slideBack 0 0 0 := zcV (zWi_21 _ (List.mem_of_getElem? (i := 33) rfl)) (zWi_17 _ (List.mem_of_getElem? (i := 20) rfl)) (zWi_29 _ (List.mem_of_getElem? (i := 44) rfl)) (zWi_12 _ (List.mem_of_getElem? (i := 21) rfl)) (zWi_6 _ (List.mem_of_getElem? (i := 4) rfl)) (by decide +kernel) rfl rfl ⟨Nat.le_of_ble_eq_true rfl, Nat.le_of_ble_eq_true rfl⟩
def sp_X11_need (as : List zV) (M : zM) (Q : Option zV → zM → Prop) : Prop := ∃ (x : Int), as = [zI x] ∧ (¬ x = 0 → Q none M) ∧ (x = 0 → Q (some (zR 3001)) M)
theorem us_X11_need {x : Int} {M : zM} {Q : Option zV → zM → Prop} (hQ : ¬ x = 0 → Q none M) (hT : x = 0 → Q (some (zR 3001)) M) : sp_X11_need [zI x] M Q := ⟨x, rfl, hQ, hT⟩
set_option maxRecDepth 20000 in
set_option maxHeartbeats 4000000 in
theorem m_X11_need (l : Launch) : zCx l yX11_need wzX11_need rmX11_need 1 sp_X11_need := by
  refine zMet.of RX11 (by decide +kernel) rfl rfl ?_
  intro E X as M Qp hX S hsp
  obtain ⟨x, rfl, hQ, hT⟩ := hsp
  refine ⟨Nat.le_of_ble_eq_true rfl, ?_⟩
  dsimp only [zpad, zargs]
  refine zr_iload_n (pc := 0) S dX11_need_0 rfl ?_
  refine zr_if_ne (pc := 1) (tgt := 15) S dX11_need_1 (by decide) (fun c1 => ?_) (fun c1 => ?_)
  · exact zr_vret (pc := 15) S dX11_need_15 rfl ⟨Nat.le_of_ble_eq_true rfl, Nat.le_of_ble_eq_true rfl⟩ (hQ c1)
  · exact zr_throw (pc := 4) S (zthw_1) (List.mem_of_getElem? (i := 21) rfl) dX11_need_4 dX11_need_7 dX11_need_8 dX11_need_11 dX11_need_14 ⟨(Nat.le_of_ble_eq_true rfl), (Nat.le_of_ble_eq_true rfl)⟩ ⟨Nat.le_of_ble_eq_true rfl, Nat.le_of_ble_eq_true rfl⟩ ⟨Nat.le_of_ble_eq_true rfl, Nat.le_of_ble_eq_true rfl⟩ (hT c1)
def sp_X11_needThere (as : List zV) (M : zM) (Q : Option zV → zM → Prop) : Prop := ∃ (x : Int), as = [zI x] ∧ (¬ x = 0 → Q none M) ∧ (x = 0 → Q (some (zR 3000)) M)
theorem us_X11_needThere {x : Int} {M : zM} {Q : Option zV → zM → Prop} (hQ : ¬ x = 0 → Q none M) (hT : x = 0 → Q (some (zR 3000)) M) : sp_X11_needThere [zI x] M Q := ⟨x, rfl, hQ, hT⟩
set_option maxRecDepth 20000 in
set_option maxHeartbeats 4000000 in
theorem m_X11_needThere (l : Launch) : zCx l yX11_needThere wzX11_needThere rmX11_needThere 1 sp_X11_needThere := by
  refine zMet.of RX11 (by decide +kernel) rfl rfl ?_
  intro E X as M Qp hX S hsp
  obtain ⟨x, rfl, hQ, hT⟩ := hsp
  refine ⟨Nat.le_of_ble_eq_true rfl, ?_⟩
  dsimp only [zpad, zargs]
  refine zr_iload_n (pc := 0) S dX11_needThere_0 rfl ?_
  refine zr_if_ne (pc := 1) (tgt := 15) S dX11_needThere_1 (by decide) (fun c1 => ?_) (fun c1 => ?_)
  · exact zr_vret (pc := 15) S dX11_needThere_15 rfl ⟨Nat.le_of_ble_eq_true rfl, Nat.le_of_ble_eq_true rfl⟩ (hQ c1)
  · exact zr_throw (pc := 4) S (zthw_0) (List.mem_of_getElem? (i := 20) rfl) dX11_needThere_4 dX11_needThere_7 dX11_needThere_8 dX11_needThere_11 dX11_needThere_14 ⟨(Nat.le_of_ble_eq_true rfl), (Nat.le_of_ble_eq_true rfl)⟩ ⟨Nat.le_of_ble_eq_true rfl, Nat.le_of_ble_eq_true rfl⟩ ⟨Nat.le_of_ble_eq_true rfl, Nat.le_of_ble_eq_true rfl⟩ (hT c1)
def sp_X11_needSort (as : List zV) (M : zM) (Q : Option zV → zM → Prop) : Prop := ∃ (s : Int), as = [zR 0, zI s] ∧ ((0 ≤ s ∧ s < M 2 0) → Q none M) ∧ (¬ (0 ≤ s ∧ s < M 2 0) → Q (some (zR 3000)) M)
theorem us_X11_needSort {s : Int} {M : zM} {Q : Option zV → zM → Prop} (hQ : (0 ≤ s ∧ s < M 2 0) → Q none M) (hT : ¬ (0 ≤ s ∧ s < M 2 0) → Q (some (zR 3000)) M) : sp_X11_needSort [zR 0, zI s] M Q := ⟨s, rfl, hQ, hT⟩
set_option maxRecDepth 20000 in
set_option maxHeartbeats 4000000 in
theorem m_X11_needSort (l : Launch) : zCx l yX11_needSort wzX11_needSort rmX11_needSort 1 sp_X11_needSort := by
  refine zMet.of RX11 (by decide +kernel) rfl rfl ?_
  intro E X as M Qp hX S hsp
  obtain ⟨s, rfl, hQ, hT⟩ := hsp
  refine ⟨Nat.le_of_ble_eq_true rfl, ?_⟩
  dsimp only [zpad, zargs]
  refine zr_aload_n (pc := 0) S dX11_needSort_0 rfl ?_
  refine zr_getR (pc := 1) S fX11_needSort_10 dX11_needSort_1 rfl (Nat.le_of_ble_eq_true rfl) rfl ?_
  refine zr_getR (pc := 4) S fX11_needSort_39 dX11_needSort_4 rfl (Nat.le_of_ble_eq_true rfl) rfl ?_
  refine zr_iload_n (pc := 7) S dX11_needSort_7 rfl ?_
  refine zr_invV (pc := 8) S [zI _] (m_X7_has _) kX11_needSort_203 dX11_needSort_8 rfl (Nat.le_of_ble_eq_true rfl) rfl (Nat.le_of_ble_eq_true rfl) ⟨Nat.le_of_ble_eq_true rfl, Nat.le_of_ble_eq_true rfl⟩ (us_X7_has ?_)
  dsimp only [zaft, Option.toList, List.cons_append, List.nil_append, Nat.add_zero]
  refine zr_invS (pc := 11) S [zI _] (m_X11_needThere _) kX11_needSort_115 dX11_needSort_11 (Nat.le_of_ble_eq_true rfl) ⟨Nat.le_of_ble_eq_true rfl, Nat.le_of_ble_eq_true rfl⟩ (us_X11_needThere (fun c11 => ?_) (fun c11 => zaft_thr (by omega) ⟨Nat.le_of_ble_eq_true rfl, Nat.le_of_ble_eq_true rfl⟩ (hT (b01_0.mp c11))))
  dsimp only [zaft, Option.toList, List.cons_append, List.nil_append, Nat.add_zero]
  rw [b01_0, Classical.not_not] at c11
  exact zr_vret (pc := 14) S dX11_needSort_14 rfl ⟨Nat.le_of_ble_eq_true rfl, Nat.le_of_ble_eq_true rfl⟩ (hQ c11)
def sp_X11_needGate (as : List zV) (M : zM) (Q : Option zV → zM → Prop) : Prop := ∃ (g : Int), as = [zR 0, zI g] ∧ (0 ≤ M 11 0) ∧ ((0 ≤ g ∧ g < M 11 0) → Q none M) ∧ (¬ (0 ≤ g ∧ g < M 11 0) → Q (some (zR 3000)) M)
theorem us_X11_needGate {g : Int} {M : zM} {Q : Option zV → zM → Prop} (h0 : 0 ≤ M 11 0) (hQ : (0 ≤ g ∧ g < M 11 0) → Q none M) (hT : ¬ (0 ≤ g ∧ g < M 11 0) → Q (some (zR 3000)) M) : sp_X11_needGate [zR 0, zI g] M Q := ⟨g, rfl, h0, hQ, hT⟩
set_option maxRecDepth 20000 in
set_option maxHeartbeats 4000000 in
theorem m_X11_needGate (l : Launch) : zCx l yX11_needGate wzX11_needGate rmX11_needGate 1 sp_X11_needGate := by
  refine zMet.of RX11 (by decide +kernel) rfl rfl ?_
  intro E X as M Qp hX S hsp
  obtain ⟨g, rfl, h0, hQ, hT⟩ := hsp
  refine ⟨Nat.le_of_ble_eq_true rfl, ?_⟩
  dsimp only [zpad, zargs]
  refine zr_iload_n (pc := 0) S dX11_needGate_0 rfl ?_
  refine zr_i2l (pc := 1) S dX11_needGate_1 ?_
  refine zr_lconst0 (pc := 2) S dX11_needGate_2 ?_
  refine zr_aload_n (pc := 3) S dX11_needGate_3 rfl ?_
  refine zr_getR (pc := 4) S fX11_needGate_10 dX11_needGate_4 rfl (Nat.le_of_ble_eq_true rfl) rfl ?_
  refine zr_getR (pc := 7) S fX11_needGate_43 dX11_needGate_7 rfl (Nat.le_of_ble_eq_true rfl) rfl ?_
  refine zr_getI (pc := 10) S fX11_needGate_182 dX11_needGate_10 rfl (Nat.le_of_ble_eq_true rfl) rfl ?_
  refine zr_iconst (pc := 13) S dX11_needGate_13 (by unfold zrI; omega) ?_
  refine zr_isub' (pc := 14) S dX11_needGate_14 (fun hx _ => by unfold zrI at *; omega) ?_
  refine zr_i2l (pc := 15) S dX11_needGate_15 ?_
  refine zr_invS (pc := 16) S [zL _, zL _, zL _] (m_X11_within _) kX11_needGate_93 dX11_needGate_16 (Nat.le_of_ble_eq_true rfl) ⟨Nat.le_of_ble_eq_true rfl, Nat.le_of_ble_eq_true rfl⟩ (us_X11_within ?_)
  dsimp only [zaft, Option.toList, List.cons_append, List.nil_append, Nat.add_zero]
  refine zr_invS (pc := 19) S [zI _] (m_X11_needThere _) kX11_needGate_115 dX11_needGate_19 (Nat.le_of_ble_eq_true rfl) ⟨Nat.le_of_ble_eq_true rfl, Nat.le_of_ble_eq_true rfl⟩ (us_X11_needThere (fun c19 => ?_) (fun c19 => zaft_thr (by omega) ⟨Nat.le_of_ble_eq_true rfl, Nat.le_of_ble_eq_true rfl⟩ (hT (fun z => b01_0.mp c19 (by omega)))))
  dsimp only [zaft, Option.toList, List.cons_append, List.nil_append, Nat.add_zero]
  rw [b01_0, Classical.not_not] at c19
  exact zr_vret (pc := 22) S dX11_needGate_22 rfl ⟨Nat.le_of_ble_eq_true rfl, Nat.le_of_ble_eq_true rfl⟩ (hQ (by omega))
def sp_X11_needGood (as : List zV) (M : zM) (Q : Option zV → zM → Prop) : Prop := ∃ (g : Int), as = [zR 0, zI g] ∧ (0 ≤ M 1 3) ∧ ((0 ≤ g ∧ g < M 1 3) → Q none M) ∧ (¬ (0 ≤ g ∧ g < M 1 3) → Q (some (zR 3000)) M)
theorem us_X11_needGood {g : Int} {M : zM} {Q : Option zV → zM → Prop} (h0 : 0 ≤ M 1 3) (hQ : (0 ≤ g ∧ g < M 1 3) → Q none M) (hT : ¬ (0 ≤ g ∧ g < M 1 3) → Q (some (zR 3000)) M) : sp_X11_needGood [zR 0, zI g] M Q := ⟨g, rfl, h0, hQ, hT⟩
set_option maxRecDepth 20000 in
set_option maxHeartbeats 4000000 in
theorem m_X11_needGood (l : Launch) : zCx l yX11_needGood wzX11_needGood rmX11_needGood 1 sp_X11_needGood := by
  refine zMet.of RX11 (by decide +kernel) rfl rfl ?_
  intro E X as M Qp hX S hsp
  obtain ⟨g, rfl, h0, hQ, hT⟩ := hsp
  refine ⟨Nat.le_of_ble_eq_true rfl, ?_⟩
  dsimp only [zpad, zargs]
  refine zr_iload_n (pc := 0) S dX11_needGood_0 rfl ?_
  refine zr_i2l (pc := 1) S dX11_needGood_1 ?_
  refine zr_lconst0 (pc := 2) S dX11_needGood_2 ?_
  refine zr_aload_n (pc := 3) S dX11_needGood_3 rfl ?_
  refine zr_getR (pc := 4) S fX11_needGood_10 dX11_needGood_4 rfl (Nat.le_of_ble_eq_true rfl) rfl ?_
  refine zr_getI (pc := 7) S fX11_needGood_431 dX11_needGood_7 rfl (Nat.le_of_ble_eq_true rfl) rfl ?_
  refine zr_iconst (pc := 10) S dX11_needGood_10 (by unfold zrI; omega) ?_
  refine zr_isub' (pc := 11) S dX11_needGood_11 (fun hx _ => by unfold zrI at *; omega) ?_
  refine zr_i2l (pc := 12) S dX11_needGood_12 ?_
  refine zr_invS (pc := 13) S [zL _, zL _, zL _] (m_X11_within _) kX11_needGood_93 dX11_needGood_13 (Nat.le_of_ble_eq_true rfl) ⟨Nat.le_of_ble_eq_true rfl, Nat.le_of_ble_eq_true rfl⟩ (us_X11_within ?_)
  dsimp only [zaft, Option.toList, List.cons_append, List.nil_append, Nat.add_zero]
  refine zr_invS (pc := 16) S [zI _] (m_X11_needThere _) kX11_needGood_115 dX11_needGood_16 (Nat.le_of_ble_eq_true rfl) ⟨Nat.le_of_ble_eq_true rfl, Nat.le_of_ble_eq_true rfl⟩ (us_X11_needThere (fun c16 => ?_) (fun c16 => zaft_thr (by omega) ⟨Nat.le_of_ble_eq_true rfl, Nat.le_of_ble_eq_true rfl⟩ (hT (fun z => b01_0.mp c16 (by omega)))))
  dsimp only [zaft, Option.toList, List.cons_append, List.nil_append, Nat.add_zero]
  rw [b01_0, Classical.not_not] at c16
  exact zr_vret (pc := 19) S dX11_needGood_19 rfl ⟨Nat.le_of_ble_eq_true rfl, Nat.le_of_ble_eq_true rfl⟩ (hQ (by omega))
def sp_X11_needMove (as : List zV) (M : zM) (Q : Option zV → zM → Prop) : Prop := ∃ (g d e : Int), as = [zR 0, zI g, zI d, zI e] ∧ (0 ≤ M 11 0) ∧ ((0 ≤ g ∧ g < M 11 0) → (-99 ≤ d ∧ d ≤ 99) → (-99 ≤ e ∧ e ≤ 99) → Q none M) ∧ (¬ (0 ≤ g ∧ g < M 11 0) → Q (some (zR 3000)) M) ∧ ((0 ≤ g ∧ g < M 11 0) → ¬ ((-99 ≤ d ∧ d ≤ 99) ∧ (-99 ≤ e ∧ e ≤ 99)) → Q (some (zR 3001)) M)
theorem us_X11_needMove {g d e : Int} {M : zM} {Q : Option zV → zM → Prop} (h0 : 0 ≤ M 11 0) (hQ : (0 ≤ g ∧ g < M 11 0) → (-99 ≤ d ∧ d ≤ 99) → (-99 ≤ e ∧ e ≤ 99) → Q none M) (hT : ¬ (0 ≤ g ∧ g < M 11 0) → Q (some (zR 3000)) M) (hU : (0 ≤ g ∧ g < M 11 0) → ¬ ((-99 ≤ d ∧ d ≤ 99) ∧ (-99 ≤ e ∧ e ≤ 99)) → Q (some (zR 3001)) M) : sp_X11_needMove [zR 0, zI g, zI d, zI e] M Q := ⟨g, d, e, rfl, h0, hQ, hT, hU⟩
set_option maxRecDepth 20000 in
set_option maxHeartbeats 4000000 in
theorem m_X11_needMove (l : Launch) : zCx l yX11_needMove wzX11_needMove rmX11_needMove 3 sp_X11_needMove := by
  refine zMet.of RX11 (by decide +kernel) rfl rfl ?_
  intro E X as M Qp hX S hsp
  obtain ⟨g, d, e, rfl, h0, hQ, hT, hU⟩ := hsp
  refine ⟨Nat.le_of_ble_eq_true rfl, ?_⟩
  dsimp only [zpad, zargs]
  refine zr_aload_n (pc := 0) S dX11_needMove_0 rfl ?_
  refine zr_iload_n (pc := 1) S dX11_needMove_1 rfl ?_
  refine zr_invV (pc := 2) S [zI _] (m_X11_needGate _) kX11_needMove_188 dX11_needMove_2 rfl (Nat.le_of_ble_eq_true rfl) rfl (Nat.le_of_ble_eq_true rfl) ⟨Nat.le_of_ble_eq_true rfl, Nat.le_of_ble_eq_true rfl⟩ (us_X11_needGate h0 (fun c2 => ?_) (fun c2 => zaft_thr (by omega) ⟨Nat.le_of_ble_eq_true rfl, Nat.le_of_ble_eq_true rfl⟩ (hT c2)))
  dsimp only [zaft, Option.toList, List.cons_append, List.nil_append, Nat.add_zero]
  refine zr_iload_n (pc := 5) S dX11_needMove_5 rfl ?_
  refine zr_i2l (pc := 6) S dX11_needMove_6 ?_
  refine zr_ldc2 (pc := 7) S (-99) dX11_needMove_7 (List.mem_cons_of_mem _ (zWi_7 _ (List.mem_of_getElem? (i := 18) rfl))) (by unfold zrL; omega) ?_
  refine zr_ldc2 (pc := 10) S (99) dX11_needMove_10 (List.mem_cons_of_mem _ (zWi_7 _ (List.mem_of_getElem? (i := 8) rfl))) (by unfold zrL; omega) ?_
  refine zr_invS (pc := 13) S [zL _, zL _, zL _] (m_X11_within _) kX11_needMove_93 dX11_needMove_13 (Nat.le_of_ble_eq_true rfl) ⟨Nat.le_of_ble_eq_true rfl, Nat.le_of_ble_eq_true rfl⟩ (us_X11_within ?_)
  dsimp only [zaft, Option.toList, List.cons_append, List.nil_append, Nat.add_zero]
  refine zr_invS (pc := 16) S [zI _] (m_X11_need _) kX11_needMove_97 dX11_needMove_16 (Nat.le_of_ble_eq_true rfl) ⟨Nat.le_of_ble_eq_true rfl, Nat.le_of_ble_eq_true rfl⟩ (us_X11_need (fun c16 => ?_) (fun c16 => zaft_thr (by omega) ⟨Nat.le_of_ble_eq_true rfl, Nat.le_of_ble_eq_true rfl⟩ (hU c2 (fun z => b01_0.mp c16 z.1))))
  dsimp only [zaft, Option.toList, List.cons_append, List.nil_append, Nat.add_zero]
  rw [b01_0, Classical.not_not] at c16
  refine zr_iload_n (pc := 19) S dX11_needMove_19 rfl ?_
  refine zr_i2l (pc := 20) S dX11_needMove_20 ?_
  refine zr_ldc2 (pc := 21) S (-99) dX11_needMove_21 (List.mem_cons_of_mem _ (zWi_7 _ (List.mem_of_getElem? (i := 18) rfl))) (by unfold zrL; omega) ?_
  refine zr_ldc2 (pc := 24) S (99) dX11_needMove_24 (List.mem_cons_of_mem _ (zWi_7 _ (List.mem_of_getElem? (i := 8) rfl))) (by unfold zrL; omega) ?_
  refine zr_invS (pc := 27) S [zL _, zL _, zL _] (m_X11_within _) kX11_needMove_93 dX11_needMove_27 (Nat.le_of_ble_eq_true rfl) ⟨Nat.le_of_ble_eq_true rfl, Nat.le_of_ble_eq_true rfl⟩ (us_X11_within ?_)
  dsimp only [zaft, Option.toList, List.cons_append, List.nil_append, Nat.add_zero]
  refine zr_invS (pc := 30) S [zI _] (m_X11_need _) kX11_needMove_97 dX11_needMove_30 (Nat.le_of_ble_eq_true rfl) ⟨Nat.le_of_ble_eq_true rfl, Nat.le_of_ble_eq_true rfl⟩ (us_X11_need (fun c30 => ?_) (fun c30 => zaft_thr (by omega) ⟨Nat.le_of_ble_eq_true rfl, Nat.le_of_ble_eq_true rfl⟩ (hU c2 (fun z => b01_0.mp c30 z.2))))
  dsimp only [zaft, Option.toList, List.cons_append, List.nil_append, Nat.add_zero]
  rw [b01_0, Classical.not_not] at c30
  exact zr_vret (pc := 33) S dX11_needMove_33 rfl ⟨Nat.le_of_ble_eq_true rfl, Nat.le_of_ble_eq_true rfl⟩ (hQ c2 c16 c30)
def sp_X11_sort (as : List zV) (M : zM) (Q : Option zV → zM → Prop) : Prop := ∃ (v a b : Int), as = [zR 0, zI v, zI a, zI b] ∧ (0 ≤ M 2 0 ∧ M 2 0 ≤ 8) ∧ ((0 ≤ v ∧ v ≤ 200) → (0 ≤ a ∧ a ≤ 999) → (a ≤ b ∧ b ≤ 999) → Q (some (zI (if 8 ≤ M 2 0 then -1 else M 2 0))) (if 8 ≤ M 2 0 then M else addSort M v a b)) ∧ (¬ ((0 ≤ v ∧ v ≤ 200) ∧ (0 ≤ a ∧ a ≤ 999) ∧ (a ≤ b ∧ b ≤ 999)) → Q (some (zR 3001)) M)
theorem us_X11_sort {v a b : Int} {M : zM} {Q : Option zV → zM → Prop} (hs : 0 ≤ M 2 0 ∧ M 2 0 ≤ 8) (hQ : (0 ≤ v ∧ v ≤ 200) → (0 ≤ a ∧ a ≤ 999) → (a ≤ b ∧ b ≤ 999) → Q (some (zI (if 8 ≤ M 2 0 then -1 else M 2 0))) (if 8 ≤ M 2 0 then M else addSort M v a b)) (hT : ¬ ((0 ≤ v ∧ v ≤ 200) ∧ (0 ≤ a ∧ a ≤ 999) ∧ (a ≤ b ∧ b ≤ 999)) → Q (some (zR 3001)) M) : sp_X11_sort [zR 0, zI v, zI a, zI b] M Q := ⟨v, a, b, rfl, hs, hQ, hT⟩
set_option maxRecDepth 20000 in
set_option maxHeartbeats 4000000 in
theorem m_X11_sort (l : Launch) : zCx l yX11_sort wzX11_sort rmX11_sort 2 sp_X11_sort := by
  refine zMet.of RX11 (by decide +kernel) rfl rfl ?_
  intro E X as M Qp hX S hsp
  obtain ⟨v, a, b, rfl, hs, hQ, hT⟩ := hsp
  refine ⟨Nat.le_of_ble_eq_true rfl, ?_⟩
  dsimp only [zpad, zargs]
  refine zr_iload_n (pc := 0) S dX11_sort_0 rfl ?_
  refine zr_i2l (pc := 1) S dX11_sort_1 ?_
  refine zr_lconst0 (pc := 2) S dX11_sort_2 ?_
  refine zr_ldc2 (pc := 3) S (200) dX11_sort_3 (List.mem_cons_of_mem _ (zWi_7 _ (List.mem_of_getElem? (i := 19) rfl))) (by unfold zrL; omega) ?_
  refine zr_invS (pc := 6) S [zL _, zL _, zL _] (m_X11_within _) kX11_sort_93 dX11_sort_6 (Nat.le_of_ble_eq_true rfl) ⟨Nat.le_of_ble_eq_true rfl, Nat.le_of_ble_eq_true rfl⟩ (us_X11_within ?_)
  dsimp only [zaft, Option.toList, List.cons_append, List.nil_append, Nat.add_zero]
  refine zr_invS (pc := 9) S [zI _] (m_X11_need _) kX11_sort_97 dX11_sort_9 (Nat.le_of_ble_eq_true rfl) ⟨Nat.le_of_ble_eq_true rfl, Nat.le_of_ble_eq_true rfl⟩ (us_X11_need (fun c9 => ?_) (fun c9 => zaft_thr (by omega) ⟨Nat.le_of_ble_eq_true rfl, Nat.le_of_ble_eq_true rfl⟩ (hT (fun z => b01_0.mp c9 z.1))))
  dsimp only [zaft, Option.toList, List.cons_append, List.nil_append, Nat.add_zero]
  rw [b01_0, Classical.not_not] at c9
  refine zr_iload_n (pc := 12) S dX11_sort_12 rfl ?_
  refine zr_i2l (pc := 13) S dX11_sort_13 ?_
  refine zr_lconst0 (pc := 14) S dX11_sort_14 ?_
  refine zr_ldc2 (pc := 15) S (999) dX11_sort_15 (List.mem_cons_of_mem _ (zWi_7 _ (List.mem_of_getElem? (i := 6) rfl))) (by unfold zrL; omega) ?_
  refine zr_invS (pc := 18) S [zL _, zL _, zL _] (m_X11_within _) kX11_sort_93 dX11_sort_18 (Nat.le_of_ble_eq_true rfl) ⟨Nat.le_of_ble_eq_true rfl, Nat.le_of_ble_eq_true rfl⟩ (us_X11_within ?_)
  dsimp only [zaft, Option.toList, List.cons_append, List.nil_append, Nat.add_zero]
  refine zr_if_eq (pc := 21) (tgt := 41) S dX11_sort_21 (by decide) (fun c21 => ?_) (fun c21 => ?_)
  · rw [b01_0] at c21
    refine zr_iconst (pc := 41) S dX11_sort_41 (by unfold zrI; omega) ?_
    refine zr_invS (pc := 42) S [zI _] (m_X11_need _) kX11_sort_97 dX11_sort_42 (Nat.le_of_ble_eq_true rfl) ⟨Nat.le_of_ble_eq_true rfl, Nat.le_of_ble_eq_true rfl⟩ (us_X11_need (fun c42 => ?_) (fun c42 => zaft_thr (by omega) ⟨Nat.le_of_ble_eq_true rfl, Nat.le_of_ble_eq_true rfl⟩ (by first | exact absurd c42 (by decide) | exact hT (fun z => by first | exact c21 z.2.1 | exact c34 z.2.2))))
    dsimp only [zaft, Option.toList, List.cons_append, List.nil_append, Nat.add_zero]
    refine zr_aload_n (pc := 45) S dX11_sort_45 rfl ?_
    refine zr_getR (pc := 46) S fX11_sort_10 dX11_sort_46 rfl (Nat.le_of_ble_eq_true rfl) rfl ?_
    refine zr_getR (pc := 49) S fX11_sort_39 dX11_sort_49 rfl (Nat.le_of_ble_eq_true rfl) rfl ?_
    refine zr_iload_n (pc := 52) S dX11_sort_52 rfl ?_
    refine zr_iload_n (pc := 53) S dX11_sort_53 rfl ?_
    refine zr_iload_n (pc := 54) S dX11_sort_54 rfl ?_
    refine zr_invV (pc := 55) S [zI _, zI _, zI _] (m_X7_add _) kX11_sort_103 dX11_sort_55 rfl (Nat.le_of_ble_eq_true rfl) rfl (Nat.le_of_ble_eq_true rfl) ⟨Nat.le_of_ble_eq_true rfl, Nat.le_of_ble_eq_true rfl⟩ (us_X7_add hs ?_)
    dsimp only [zaft, Option.toList, List.cons_append, List.nil_append, Nat.add_zero]
    exact zr_iret (pc := 58) S dX11_sort_58 rfl ⟨Nat.le_of_ble_eq_true rfl, Nat.le_of_ble_eq_true rfl⟩ (by first | exact hQ c9 c21 c34 | exact absurd rfl c42)
  · rw [b01_0, Classical.not_not] at c21
    refine zr_iload_n (pc := 24) S dX11_sort_24 rfl ?_
    refine zr_i2l (pc := 25) S dX11_sort_25 ?_
    refine zr_iload_n (pc := 26) S dX11_sort_26 rfl ?_
    refine zr_i2l (pc := 27) S dX11_sort_27 ?_
    refine zr_ldc2 (pc := 28) S (999) dX11_sort_28 (List.mem_cons_of_mem _ (zWi_7 _ (List.mem_of_getElem? (i := 6) rfl))) (by unfold zrL; omega) ?_
    refine zr_invS (pc := 31) S [zL _, zL _, zL _] (m_X11_within _) kX11_sort_93 dX11_sort_31 (Nat.le_of_ble_eq_true rfl) ⟨Nat.le_of_ble_eq_true rfl, Nat.le_of_ble_eq_true rfl⟩ (us_X11_within ?_)
    dsimp only [zaft, Option.toList, List.cons_append, List.nil_append, Nat.add_zero]
    refine zr_if_eq (pc := 34) (tgt := 41) S dX11_sort_34 (by decide) (fun c34 => ?_) (fun c34 => ?_)
    · rw [b01_0] at c34
      refine zr_iconst (pc := 41) S dX11_sort_41 (by unfold zrI; omega) ?_
      refine zr_invS (pc := 42) S [zI _] (m_X11_need _) kX11_sort_97 dX11_sort_42 (Nat.le_of_ble_eq_true rfl) ⟨Nat.le_of_ble_eq_true rfl, Nat.le_of_ble_eq_true rfl⟩ (us_X11_need (fun c42 => ?_) (fun c42 => zaft_thr (by omega) ⟨Nat.le_of_ble_eq_true rfl, Nat.le_of_ble_eq_true rfl⟩ (by first | exact absurd c42 (by decide) | exact hT (fun z => by first | exact c21 z.2.1 | exact c34 z.2.2))))
      dsimp only [zaft, Option.toList, List.cons_append, List.nil_append, Nat.add_zero]
      refine zr_aload_n (pc := 45) S dX11_sort_45 rfl ?_
      refine zr_getR (pc := 46) S fX11_sort_10 dX11_sort_46 rfl (Nat.le_of_ble_eq_true rfl) rfl ?_
      refine zr_getR (pc := 49) S fX11_sort_39 dX11_sort_49 rfl (Nat.le_of_ble_eq_true rfl) rfl ?_
      refine zr_iload_n (pc := 52) S dX11_sort_52 rfl ?_
      refine zr_iload_n (pc := 53) S dX11_sort_53 rfl ?_
      refine zr_iload_n (pc := 54) S dX11_sort_54 rfl ?_
      refine zr_invV (pc := 55) S [zI _, zI _, zI _] (m_X7_add _) kX11_sort_103 dX11_sort_55 rfl (Nat.le_of_ble_eq_true rfl) rfl (Nat.le_of_ble_eq_true rfl) ⟨Nat.le_of_ble_eq_true rfl, Nat.le_of_ble_eq_true rfl⟩ (us_X7_add hs ?_)
      dsimp only [zaft, Option.toList, List.cons_append, List.nil_append, Nat.add_zero]
      exact zr_iret (pc := 58) S dX11_sort_58 rfl ⟨Nat.le_of_ble_eq_true rfl, Nat.le_of_ble_eq_true rfl⟩ (by first | exact hQ c9 c21 c34 | exact absurd rfl c42)
    · rw [b01_0, Classical.not_not] at c34
      refine zr_iconst (pc := 37) S dX11_sort_37 (by unfold zrI; omega) ?_
      refine zr_goto (pc := 38) (tgt := 42) S dX11_sort_38 (by decide) ?_
      refine zr_invS (pc := 42) S [zI _] (m_X11_need _) kX11_sort_97 dX11_sort_42 (Nat.le_of_ble_eq_true rfl) ⟨Nat.le_of_ble_eq_true rfl, Nat.le_of_ble_eq_true rfl⟩ (us_X11_need (fun c42 => ?_) (fun c42 => zaft_thr (by omega) ⟨Nat.le_of_ble_eq_true rfl, Nat.le_of_ble_eq_true rfl⟩ (by first | exact absurd c42 (by decide) | exact hT (fun z => by first | exact c21 z.2.1 | exact c34 z.2.2))))
      dsimp only [zaft, Option.toList, List.cons_append, List.nil_append, Nat.add_zero]
      refine zr_aload_n (pc := 45) S dX11_sort_45 rfl ?_
      refine zr_getR (pc := 46) S fX11_sort_10 dX11_sort_46 rfl (Nat.le_of_ble_eq_true rfl) rfl ?_
      refine zr_getR (pc := 49) S fX11_sort_39 dX11_sort_49 rfl (Nat.le_of_ble_eq_true rfl) rfl ?_
      refine zr_iload_n (pc := 52) S dX11_sort_52 rfl ?_
      refine zr_iload_n (pc := 53) S dX11_sort_53 rfl ?_
      refine zr_iload_n (pc := 54) S dX11_sort_54 rfl ?_
      refine zr_invV (pc := 55) S [zI _, zI _, zI _] (m_X7_add _) kX11_sort_103 dX11_sort_55 rfl (Nat.le_of_ble_eq_true rfl) rfl (Nat.le_of_ble_eq_true rfl) ⟨Nat.le_of_ble_eq_true rfl, Nat.le_of_ble_eq_true rfl⟩ (us_X7_add hs ?_)
      dsimp only [zaft, Option.toList, List.cons_append, List.nil_append, Nat.add_zero]
      exact zr_iret (pc := 58) S dX11_sort_58 rfl ⟨Nat.le_of_ble_eq_true rfl, Nat.le_of_ble_eq_true rfl⟩ (by first | exact hQ c9 c21 c34 | exact absurd rfl c42)
def sp_X11_span (as : List zV) (M : zM) (Q : Option zV → zM → Prop) : Prop := ∃ (s m a b : Int), as = [zR 0, zI s, zI m, zI a, zI b] ∧ (M 2 0 ≤ 8) ∧ ((0 ≤ s ∧ s < M 2 0) → (0 ≤ m ∧ m ≤ 2) → (0 ≤ a ∧ a ≤ 99) → (a ≤ b ∧ b ≤ 99) → Q none (zup (zup M 7 (s * 3 + m).toNat a) 8 (s * 3 + m).toNat b)) ∧ (¬ ((0 ≤ s ∧ s < M 2 0) ∧ (0 ≤ m ∧ m ≤ 2)) → Q (some (zR 3000)) M) ∧ ((0 ≤ s ∧ s < M 2 0) → (0 ≤ m ∧ m ≤ 2) → ¬ ((0 ≤ a ∧ a ≤ 99) ∧ (a ≤ b ∧ b ≤ 99)) → Q (some (zR 3001)) M)
theorem us_X11_span {s m a b : Int} {M : zM} {Q : Option zV → zM → Prop} (hs : M 2 0 ≤ 8) (hQ : (0 ≤ s ∧ s < M 2 0) → (0 ≤ m ∧ m ≤ 2) → (0 ≤ a ∧ a ≤ 99) → (a ≤ b ∧ b ≤ 99) → Q none (zup (zup M 7 (s * 3 + m).toNat a) 8 (s * 3 + m).toNat b)) (hT : ¬ ((0 ≤ s ∧ s < M 2 0) ∧ (0 ≤ m ∧ m ≤ 2)) → Q (some (zR 3000)) M) (hU : (0 ≤ s ∧ s < M 2 0) → (0 ≤ m ∧ m ≤ 2) → ¬ ((0 ≤ a ∧ a ≤ 99) ∧ (a ≤ b ∧ b ≤ 99)) → Q (some (zR 3001)) M) : sp_X11_span [zR 0, zI s, zI m, zI a, zI b] M Q := ⟨s, m, a, b, rfl, hs, hQ, hT, hU⟩
set_option maxRecDepth 20000 in
set_option maxHeartbeats 4000000 in
theorem m_X11_span (l : Launch) : zCx l yX11_span wzX11_span rmX11_span 3 sp_X11_span := by
  refine zMet.of RX11 (by decide +kernel) rfl rfl ?_
  intro E X as M Qp hX S hsp
  obtain ⟨s, m, a, b, rfl, hs, hQ, hT, hU⟩ := hsp
  refine ⟨Nat.le_of_ble_eq_true rfl, ?_⟩
  dsimp only [zpad, zargs]
  refine zr_aload_n (pc := 0) S dX11_span_0 rfl ?_
  refine zr_iload_n (pc := 1) S dX11_span_1 rfl ?_
  refine zr_invV (pc := 2) S [zI _] (m_X11_needSort _) kX11_span_109 dX11_span_2 rfl (Nat.le_of_ble_eq_true rfl) rfl (Nat.le_of_ble_eq_true rfl) ⟨Nat.le_of_ble_eq_true rfl, Nat.le_of_ble_eq_true rfl⟩ (us_X11_needSort (fun c2 => ?_) (fun c2 => zaft_thr (by omega) ⟨Nat.le_of_ble_eq_true rfl, Nat.le_of_ble_eq_true rfl⟩ (hT (fun z => c2 z.1))))
  dsimp only [zaft, Option.toList, List.cons_append, List.nil_append, Nat.add_zero]
  refine zr_iload_n (pc := 5) S dX11_span_5 rfl ?_
  refine zr_i2l (pc := 6) S dX11_span_6 ?_
  refine zr_lconst0 (pc := 7) S dX11_span_7 ?_
  refine zr_ldc2 (pc := 8) S (2) dX11_span_8 (List.mem_cons_of_mem _ (zWi_7 _ (List.mem_of_getElem? (i := 7) rfl))) (by unfold zrL; omega) ?_
  refine zr_invS (pc := 11) S [zL _, zL _, zL _] (m_X11_within _) kX11_span_93 dX11_span_11 (Nat.le_of_ble_eq_true rfl) ⟨Nat.le_of_ble_eq_true rfl, Nat.le_of_ble_eq_true rfl⟩ (us_X11_within ?_)
  dsimp only [zaft, Option.toList, List.cons_append, List.nil_append, Nat.add_zero]
  refine zr_invS (pc := 14) S [zI _] (m_X11_needThere _) kX11_span_115 dX11_span_14 (Nat.le_of_ble_eq_true rfl) ⟨Nat.le_of_ble_eq_true rfl, Nat.le_of_ble_eq_true rfl⟩ (us_X11_needThere (fun c14 => ?_) (fun c14 => zaft_thr (by omega) ⟨Nat.le_of_ble_eq_true rfl, Nat.le_of_ble_eq_true rfl⟩ (hT (fun z => b01_0.mp c14 z.2))))
  dsimp only [zaft, Option.toList, List.cons_append, List.nil_append, Nat.add_zero]
  rw [b01_0, Classical.not_not] at c14
  refine zr_iload_n (pc := 17) S dX11_span_17 rfl ?_
  refine zr_i2l (pc := 18) S dX11_span_18 ?_
  refine zr_lconst0 (pc := 19) S dX11_span_19 ?_
  refine zr_ldc2 (pc := 20) S (99) dX11_span_20 (List.mem_cons_of_mem _ (zWi_7 _ (List.mem_of_getElem? (i := 8) rfl))) (by unfold zrL; omega) ?_
  refine zr_invS (pc := 23) S [zL _, zL _, zL _] (m_X11_within _) kX11_span_93 dX11_span_23 (Nat.le_of_ble_eq_true rfl) ⟨Nat.le_of_ble_eq_true rfl, Nat.le_of_ble_eq_true rfl⟩ (us_X11_within ?_)
  dsimp only [zaft, Option.toList, List.cons_append, List.nil_append, Nat.add_zero]
  refine zr_if_eq (pc := 26) (tgt := 47) S dX11_span_26 (by decide) (fun c26 => ?_) (fun c26 => ?_)
  · rw [b01_0] at c26
    refine zr_iconst (pc := 47) S dX11_span_47 (by unfold zrI; omega) ?_
    refine zr_invS (pc := 48) S [zI _] (m_X11_need _) kX11_span_97 dX11_span_48 (Nat.le_of_ble_eq_true rfl) ⟨Nat.le_of_ble_eq_true rfl, Nat.le_of_ble_eq_true rfl⟩ (us_X11_need (fun c48 => ?_) (fun c48 => zaft_thr (by omega) ⟨Nat.le_of_ble_eq_true rfl, Nat.le_of_ble_eq_true rfl⟩ (by first | exact absurd c48 (by decide) | exact hU c2 c14 (fun z => by first | exact c26 z.1 | exact c40 z.2))))
    dsimp only [zaft, Option.toList, List.cons_append, List.nil_append, Nat.add_zero]
    refine zr_aload_n (pc := 51) S dX11_span_51 rfl ?_
    refine zr_getR (pc := 52) S fX11_span_10 dX11_span_52 rfl (Nat.le_of_ble_eq_true rfl) rfl ?_
    refine zr_getR (pc := 55) S fX11_span_39 dX11_span_55 rfl (Nat.le_of_ble_eq_true rfl) rfl ?_
    refine zr_getR (pc := 58) S fX11_span_120 dX11_span_58 rfl (Nat.le_of_ble_eq_true rfl) rfl ?_
    refine zr_iload_n (pc := 61) S dX11_span_61 rfl ?_
    refine zr_iconst (pc := 62) S dX11_span_62 (by unfold zrI; omega) ?_
    refine zr_imul (pc := 63) S dX11_span_63 (by unfold zrI; omega) ?_
    refine zr_iload_n (pc := 64) S dX11_span_64 rfl ?_
    refine zr_iadd (pc := 65) S dX11_span_65 (by unfold zrI; omega) ?_
    refine zr_iload_n (pc := 66) S dX11_span_66 rfl ?_
    refine zr_iastore (pc := 67) S dX11_span_67 rfl (Nat.le_of_ble_eq_true rfl) (by omega) (by omega) ?_
    refine zr_aload_n (pc := 68) S dX11_span_68 rfl ?_
    refine zr_getR (pc := 69) S fX11_span_10 dX11_span_69 rfl (Nat.le_of_ble_eq_true rfl) rfl ?_
    try simp only [zup_k, zup_e, ne_eq, Nat.reduceEqDiff, not_false_eq_true, zup_j]
    refine zr_getR (pc := 72) S fX11_span_39 dX11_span_72 rfl (Nat.le_of_ble_eq_true rfl) rfl ?_
    try simp only [zup_k, zup_e, ne_eq, Nat.reduceEqDiff, not_false_eq_true, zup_j]
    refine zr_getR (pc := 75) S fX11_span_124 dX11_span_75 rfl (Nat.le_of_ble_eq_true rfl) rfl ?_
    try simp only [zup_k, zup_e, ne_eq, Nat.reduceEqDiff, not_false_eq_true, zup_j]
    refine zr_iload_n (pc := 78) S dX11_span_78 rfl ?_
    refine zr_iconst (pc := 79) S dX11_span_79 (by unfold zrI; omega) ?_
    refine zr_imul (pc := 80) S dX11_span_80 (by unfold zrI; omega) ?_
    refine zr_iload_n (pc := 81) S dX11_span_81 rfl ?_
    refine zr_iadd (pc := 82) S dX11_span_82 (by unfold zrI; omega) ?_
    refine zr_iload (pc := 83) S dX11_span_83 rfl ?_
    refine zr_iastore (pc := 85) S dX11_span_85 rfl (Nat.le_of_ble_eq_true rfl) (by omega) (by omega) ?_
    exact zr_vret (pc := 86) S dX11_span_86 rfl ⟨Nat.le_of_ble_eq_true rfl, Nat.le_of_ble_eq_true rfl⟩ (by first | exact hQ c2 c14 c26 c40 | exact absurd rfl c48)
  · rw [b01_0, Classical.not_not] at c26
    refine zr_iload (pc := 29) S dX11_span_29 rfl ?_
    refine zr_i2l (pc := 31) S dX11_span_31 ?_
    refine zr_iload_n (pc := 32) S dX11_span_32 rfl ?_
    refine zr_i2l (pc := 33) S dX11_span_33 ?_
    refine zr_ldc2 (pc := 34) S (99) dX11_span_34 (List.mem_cons_of_mem _ (zWi_7 _ (List.mem_of_getElem? (i := 8) rfl))) (by unfold zrL; omega) ?_
    refine zr_invS (pc := 37) S [zL _, zL _, zL _] (m_X11_within _) kX11_span_93 dX11_span_37 (Nat.le_of_ble_eq_true rfl) ⟨Nat.le_of_ble_eq_true rfl, Nat.le_of_ble_eq_true rfl⟩ (us_X11_within ?_)
    dsimp only [zaft, Option.toList, List.cons_append, List.nil_append, Nat.add_zero]
    refine zr_if_eq (pc := 40) (tgt := 47) S dX11_span_40 (by decide) (fun c40 => ?_) (fun c40 => ?_)
    · rw [b01_0] at c40
      refine zr_iconst (pc := 47) S dX11_span_47 (by unfold zrI; omega) ?_
      refine zr_invS (pc := 48) S [zI _] (m_X11_need _) kX11_span_97 dX11_span_48 (Nat.le_of_ble_eq_true rfl) ⟨Nat.le_of_ble_eq_true rfl, Nat.le_of_ble_eq_true rfl⟩ (us_X11_need (fun c48 => ?_) (fun c48 => zaft_thr (by omega) ⟨Nat.le_of_ble_eq_true rfl, Nat.le_of_ble_eq_true rfl⟩ (by first | exact absurd c48 (by decide) | exact hU c2 c14 (fun z => by first | exact c26 z.1 | exact c40 z.2))))
      dsimp only [zaft, Option.toList, List.cons_append, List.nil_append, Nat.add_zero]
      refine zr_aload_n (pc := 51) S dX11_span_51 rfl ?_
      refine zr_getR (pc := 52) S fX11_span_10 dX11_span_52 rfl (Nat.le_of_ble_eq_true rfl) rfl ?_
      refine zr_getR (pc := 55) S fX11_span_39 dX11_span_55 rfl (Nat.le_of_ble_eq_true rfl) rfl ?_
      refine zr_getR (pc := 58) S fX11_span_120 dX11_span_58 rfl (Nat.le_of_ble_eq_true rfl) rfl ?_
      refine zr_iload_n (pc := 61) S dX11_span_61 rfl ?_
      refine zr_iconst (pc := 62) S dX11_span_62 (by unfold zrI; omega) ?_
      refine zr_imul (pc := 63) S dX11_span_63 (by unfold zrI; omega) ?_
      refine zr_iload_n (pc := 64) S dX11_span_64 rfl ?_
      refine zr_iadd (pc := 65) S dX11_span_65 (by unfold zrI; omega) ?_
      refine zr_iload_n (pc := 66) S dX11_span_66 rfl ?_
      refine zr_iastore (pc := 67) S dX11_span_67 rfl (Nat.le_of_ble_eq_true rfl) (by omega) (by omega) ?_
      refine zr_aload_n (pc := 68) S dX11_span_68 rfl ?_
      refine zr_getR (pc := 69) S fX11_span_10 dX11_span_69 rfl (Nat.le_of_ble_eq_true rfl) rfl ?_
      try simp only [zup_k, zup_e, ne_eq, Nat.reduceEqDiff, not_false_eq_true, zup_j]
      refine zr_getR (pc := 72) S fX11_span_39 dX11_span_72 rfl (Nat.le_of_ble_eq_true rfl) rfl ?_
      try simp only [zup_k, zup_e, ne_eq, Nat.reduceEqDiff, not_false_eq_true, zup_j]
      refine zr_getR (pc := 75) S fX11_span_124 dX11_span_75 rfl (Nat.le_of_ble_eq_true rfl) rfl ?_
      try simp only [zup_k, zup_e, ne_eq, Nat.reduceEqDiff, not_false_eq_true, zup_j]
      refine zr_iload_n (pc := 78) S dX11_span_78 rfl ?_
      refine zr_iconst (pc := 79) S dX11_span_79 (by unfold zrI; omega) ?_
      refine zr_imul (pc := 80) S dX11_span_80 (by unfold zrI; omega) ?_
      refine zr_iload_n (pc := 81) S dX11_span_81 rfl ?_
      refine zr_iadd (pc := 82) S dX11_span_82 (by unfold zrI; omega) ?_
      refine zr_iload (pc := 83) S dX11_span_83 rfl ?_
      refine zr_iastore (pc := 85) S dX11_span_85 rfl (Nat.le_of_ble_eq_true rfl) (by omega) (by omega) ?_
      exact zr_vret (pc := 86) S dX11_span_86 rfl ⟨Nat.le_of_ble_eq_true rfl, Nat.le_of_ble_eq_true rfl⟩ (by first | exact hQ c2 c14 c26 c40 | exact absurd rfl c48)
    · rw [b01_0, Classical.not_not] at c40
      refine zr_iconst (pc := 43) S dX11_span_43 (by unfold zrI; omega) ?_
      refine zr_goto (pc := 44) (tgt := 48) S dX11_span_44 (by decide) ?_
      refine zr_invS (pc := 48) S [zI _] (m_X11_need _) kX11_span_97 dX11_span_48 (Nat.le_of_ble_eq_true rfl) ⟨Nat.le_of_ble_eq_true rfl, Nat.le_of_ble_eq_true rfl⟩ (us_X11_need (fun c48 => ?_) (fun c48 => zaft_thr (by omega) ⟨Nat.le_of_ble_eq_true rfl, Nat.le_of_ble_eq_true rfl⟩ (by first | exact absurd c48 (by decide) | exact hU c2 c14 (fun z => by first | exact c26 z.1 | exact c40 z.2))))
      dsimp only [zaft, Option.toList, List.cons_append, List.nil_append, Nat.add_zero]
      refine zr_aload_n (pc := 51) S dX11_span_51 rfl ?_
      refine zr_getR (pc := 52) S fX11_span_10 dX11_span_52 rfl (Nat.le_of_ble_eq_true rfl) rfl ?_
      refine zr_getR (pc := 55) S fX11_span_39 dX11_span_55 rfl (Nat.le_of_ble_eq_true rfl) rfl ?_
      refine zr_getR (pc := 58) S fX11_span_120 dX11_span_58 rfl (Nat.le_of_ble_eq_true rfl) rfl ?_
      refine zr_iload_n (pc := 61) S dX11_span_61 rfl ?_
      refine zr_iconst (pc := 62) S dX11_span_62 (by unfold zrI; omega) ?_
      refine zr_imul (pc := 63) S dX11_span_63 (by unfold zrI; omega) ?_
      refine zr_iload_n (pc := 64) S dX11_span_64 rfl ?_
      refine zr_iadd (pc := 65) S dX11_span_65 (by unfold zrI; omega) ?_
      refine zr_iload_n (pc := 66) S dX11_span_66 rfl ?_
      refine zr_iastore (pc := 67) S dX11_span_67 rfl (Nat.le_of_ble_eq_true rfl) (by omega) (by omega) ?_
      refine zr_aload_n (pc := 68) S dX11_span_68 rfl ?_
      refine zr_getR (pc := 69) S fX11_span_10 dX11_span_69 rfl (Nat.le_of_ble_eq_true rfl) rfl ?_
      try simp only [zup_k, zup_e, ne_eq, Nat.reduceEqDiff, not_false_eq_true, zup_j]
      refine zr_getR (pc := 72) S fX11_span_39 dX11_span_72 rfl (Nat.le_of_ble_eq_true rfl) rfl ?_
      try simp only [zup_k, zup_e, ne_eq, Nat.reduceEqDiff, not_false_eq_true, zup_j]
      refine zr_getR (pc := 75) S fX11_span_124 dX11_span_75 rfl (Nat.le_of_ble_eq_true rfl) rfl ?_
      try simp only [zup_k, zup_e, ne_eq, Nat.reduceEqDiff, not_false_eq_true, zup_j]
      refine zr_iload_n (pc := 78) S dX11_span_78 rfl ?_
      refine zr_iconst (pc := 79) S dX11_span_79 (by unfold zrI; omega) ?_
      refine zr_imul (pc := 80) S dX11_span_80 (by unfold zrI; omega) ?_
      refine zr_iload_n (pc := 81) S dX11_span_81 rfl ?_
      refine zr_iadd (pc := 82) S dX11_span_82 (by unfold zrI; omega) ?_
      refine zr_iload (pc := 83) S dX11_span_83 rfl ?_
      refine zr_iastore (pc := 85) S dX11_span_85 rfl (Nat.le_of_ble_eq_true rfl) (by omega) (by omega) ?_
      exact zr_vret (pc := 86) S dX11_span_86 rfl ⟨Nat.le_of_ble_eq_true rfl, Nat.le_of_ble_eq_true rfl⟩ (by first | exact hQ c2 c14 c26 c40 | exact absurd rfl c48)
def sp_X11_wear (as : List zV) (M : zM) (Q : Option zV → zM → Prop) : Prop := ∃ (s w : Int), as = [zR 0, zI s, zI w] ∧ (M 2 0 ≤ 8) ∧ ((0 ≤ s ∧ s < M 2 0) → (0 ≤ w ∧ w ≤ 9) → Q (some (zI (M 9 s.toNat))) (zup M 9 s.toNat w)) ∧ (¬ (0 ≤ s ∧ s < M 2 0) → Q (some (zR 3000)) M) ∧ ((0 ≤ s ∧ s < M 2 0) → ¬ (0 ≤ w ∧ w ≤ 9) → Q (some (zR 3001)) M)
theorem us_X11_wear {s w : Int} {M : zM} {Q : Option zV → zM → Prop} (hs : M 2 0 ≤ 8) (hQ : (0 ≤ s ∧ s < M 2 0) → (0 ≤ w ∧ w ≤ 9) → Q (some (zI (M 9 s.toNat))) (zup M 9 s.toNat w)) (hT : ¬ (0 ≤ s ∧ s < M 2 0) → Q (some (zR 3000)) M) (hU : (0 ≤ s ∧ s < M 2 0) → ¬ (0 ≤ w ∧ w ≤ 9) → Q (some (zR 3001)) M) : sp_X11_wear [zR 0, zI s, zI w] M Q := ⟨s, w, rfl, hs, hQ, hT, hU⟩
set_option maxRecDepth 20000 in
set_option maxHeartbeats 4000000 in
theorem m_X11_wear (l : Launch) : zCx l yX11_wear wzX11_wear rmX11_wear 2 sp_X11_wear := by
  refine zMet.of RX11 (by decide +kernel) rfl rfl ?_
  intro E X as M Qp hX S hsp
  obtain ⟨s, w, rfl, hs, hQ, hT, hU⟩ := hsp
  refine ⟨Nat.le_of_ble_eq_true rfl, ?_⟩
  dsimp only [zpad, zargs]
  refine zr_aload_n (pc := 0) S dX11_wear_0 rfl ?_
  refine zr_iload_n (pc := 1) S dX11_wear_1 rfl ?_
  refine zr_invV (pc := 2) S [zI _] (m_X11_needSort _) kX11_wear_109 dX11_wear_2 rfl (Nat.le_of_ble_eq_true rfl) rfl (Nat.le_of_ble_eq_true rfl) ⟨Nat.le_of_ble_eq_true rfl, Nat.le_of_ble_eq_true rfl⟩ (us_X11_needSort (fun c2 => ?_) (fun c2 => zaft_thr (by omega) ⟨Nat.le_of_ble_eq_true rfl, Nat.le_of_ble_eq_true rfl⟩ (hT c2)))
  dsimp only [zaft, Option.toList, List.cons_append, List.nil_append, Nat.add_zero]
  refine zr_iload_n (pc := 5) S dX11_wear_5 rfl ?_
  refine zr_i2l (pc := 6) S dX11_wear_6 ?_
  refine zr_lconst0 (pc := 7) S dX11_wear_7 ?_
  refine zr_ldc2 (pc := 8) S (9) dX11_wear_8 (List.mem_cons_of_mem _ (zWi_7 _ (List.mem_of_getElem? (i := 9) rfl))) (by unfold zrL; omega) ?_
  refine zr_invS (pc := 11) S [zL _, zL _, zL _] (m_X11_within _) kX11_wear_93 dX11_wear_11 (Nat.le_of_ble_eq_true rfl) ⟨Nat.le_of_ble_eq_true rfl, Nat.le_of_ble_eq_true rfl⟩ (us_X11_within ?_)
  dsimp only [zaft, Option.toList, List.cons_append, List.nil_append, Nat.add_zero]
  refine zr_invS (pc := 14) S [zI _] (m_X11_need _) kX11_wear_97 dX11_wear_14 (Nat.le_of_ble_eq_true rfl) ⟨Nat.le_of_ble_eq_true rfl, Nat.le_of_ble_eq_true rfl⟩ (us_X11_need (fun c14 => ?_) (fun c14 => zaft_thr (by omega) ⟨Nat.le_of_ble_eq_true rfl, Nat.le_of_ble_eq_true rfl⟩ (hU c2 (b01_0.mp c14))))
  dsimp only [zaft, Option.toList, List.cons_append, List.nil_append, Nat.add_zero]
  rw [b01_0, Classical.not_not] at c14
  refine zr_aload_n (pc := 17) S dX11_wear_17 rfl ?_
  refine zr_getR (pc := 18) S fX11_wear_10 dX11_wear_18 rfl (Nat.le_of_ble_eq_true rfl) rfl ?_
  refine zr_getR (pc := 21) S fX11_wear_39 dX11_wear_21 rfl (Nat.le_of_ble_eq_true rfl) rfl ?_
  refine zr_getR (pc := 24) S fX11_wear_129 dX11_wear_24 rfl (Nat.le_of_ble_eq_true rfl) rfl ?_
  refine zr_iload_n (pc := 27) S dX11_wear_27 rfl ?_
  refine zr_iload_n (pc := 28) S dX11_wear_28 rfl ?_
  refine zr_invS (pc := 29) S [zR _, zI _, zI _] (m_X11_swap _) kX11_wear_132 dX11_wear_29 (Nat.le_of_ble_eq_true rfl) ⟨Nat.le_of_ble_eq_true rfl, Nat.le_of_ble_eq_true rfl⟩ (us_X11_swap (n := 8) rfl (Nat.le_of_ble_eq_true rfl) (by omega) (by omega) ?_)
  dsimp only [zaft, Option.toList, List.cons_append, List.nil_append, Nat.add_zero]
  exact zr_iret (pc := 32) S dX11_wear_32 rfl ⟨Nat.le_of_ble_eq_true rfl, Nat.le_of_ble_eq_true rfl⟩ (hQ c2 c14)
def sp_X11_flow (as : List zV) (M : zM) (Q : Option zV → zM → Prop) : Prop := ∃ (s w : Int), as = [zR 0, zI s, zI w] ∧ (M 2 0 ≤ 8) ∧ ((0 ≤ s ∧ s < M 2 0) → (0 ≤ w ∧ w ≤ 1000) → Q (some (zI (M 10 s.toNat))) (zup M 10 s.toNat w)) ∧ (¬ (0 ≤ s ∧ s < M 2 0) → Q (some (zR 3000)) M) ∧ ((0 ≤ s ∧ s < M 2 0) → ¬ (0 ≤ w ∧ w ≤ 1000) → Q (some (zR 3001)) M)
theorem us_X11_flow {s w : Int} {M : zM} {Q : Option zV → zM → Prop} (hs : M 2 0 ≤ 8) (hQ : (0 ≤ s ∧ s < M 2 0) → (0 ≤ w ∧ w ≤ 1000) → Q (some (zI (M 10 s.toNat))) (zup M 10 s.toNat w)) (hT : ¬ (0 ≤ s ∧ s < M 2 0) → Q (some (zR 3000)) M) (hU : (0 ≤ s ∧ s < M 2 0) → ¬ (0 ≤ w ∧ w ≤ 1000) → Q (some (zR 3001)) M) : sp_X11_flow [zR 0, zI s, zI w] M Q := ⟨s, w, rfl, hs, hQ, hT, hU⟩
set_option maxRecDepth 20000 in
set_option maxHeartbeats 4000000 in
theorem m_X11_flow (l : Launch) : zCx l yX11_flow wzX11_flow rmX11_flow 2 sp_X11_flow := by
  refine zMet.of RX11 (by decide +kernel) rfl rfl ?_
  intro E X as M Qp hX S hsp
  obtain ⟨s, w, rfl, hs, hQ, hT, hU⟩ := hsp
  refine ⟨Nat.le_of_ble_eq_true rfl, ?_⟩
  dsimp only [zpad, zargs]
  refine zr_aload_n (pc := 0) S dX11_flow_0 rfl ?_
  refine zr_iload_n (pc := 1) S dX11_flow_1 rfl ?_
  refine zr_invV (pc := 2) S [zI _] (m_X11_needSort _) kX11_flow_109 dX11_flow_2 rfl (Nat.le_of_ble_eq_true rfl) rfl (Nat.le_of_ble_eq_true rfl) ⟨Nat.le_of_ble_eq_true rfl, Nat.le_of_ble_eq_true rfl⟩ (us_X11_needSort (fun c2 => ?_) (fun c2 => zaft_thr (by omega) ⟨Nat.le_of_ble_eq_true rfl, Nat.le_of_ble_eq_true rfl⟩ (hT c2)))
  dsimp only [zaft, Option.toList, List.cons_append, List.nil_append, Nat.add_zero]
  refine zr_iload_n (pc := 5) S dX11_flow_5 rfl ?_
  refine zr_i2l (pc := 6) S dX11_flow_6 ?_
  refine zr_lconst0 (pc := 7) S dX11_flow_7 ?_
  refine zr_ldc2 (pc := 8) S (1000) dX11_flow_8 (List.mem_cons_of_mem _ (zWi_7 _ (List.mem_of_getElem? (i := 10) rfl))) (by unfold zrL; omega) ?_
  refine zr_invS (pc := 11) S [zL _, zL _, zL _] (m_X11_within _) kX11_flow_93 dX11_flow_11 (Nat.le_of_ble_eq_true rfl) ⟨Nat.le_of_ble_eq_true rfl, Nat.le_of_ble_eq_true rfl⟩ (us_X11_within ?_)
  dsimp only [zaft, Option.toList, List.cons_append, List.nil_append, Nat.add_zero]
  refine zr_invS (pc := 14) S [zI _] (m_X11_need _) kX11_flow_97 dX11_flow_14 (Nat.le_of_ble_eq_true rfl) ⟨Nat.le_of_ble_eq_true rfl, Nat.le_of_ble_eq_true rfl⟩ (us_X11_need (fun c14 => ?_) (fun c14 => zaft_thr (by omega) ⟨Nat.le_of_ble_eq_true rfl, Nat.le_of_ble_eq_true rfl⟩ (hU c2 (b01_0.mp c14))))
  dsimp only [zaft, Option.toList, List.cons_append, List.nil_append, Nat.add_zero]
  rw [b01_0, Classical.not_not] at c14
  refine zr_aload_n (pc := 17) S dX11_flow_17 rfl ?_
  refine zr_getR (pc := 18) S fX11_flow_10 dX11_flow_18 rfl (Nat.le_of_ble_eq_true rfl) rfl ?_
  refine zr_getR (pc := 21) S fX11_flow_39 dX11_flow_21 rfl (Nat.le_of_ble_eq_true rfl) rfl ?_
  refine zr_getR (pc := 24) S fX11_flow_138 dX11_flow_24 rfl (Nat.le_of_ble_eq_true rfl) rfl ?_
  refine zr_iload_n (pc := 27) S dX11_flow_27 rfl ?_
  refine zr_iload_n (pc := 28) S dX11_flow_28 rfl ?_
  refine zr_invS (pc := 29) S [zR _, zI _, zI _] (m_X11_swap _) kX11_flow_132 dX11_flow_29 (Nat.le_of_ble_eq_true rfl) ⟨Nat.le_of_ble_eq_true rfl, Nat.le_of_ble_eq_true rfl⟩ (us_X11_swap (n := 8) rfl (Nat.le_of_ble_eq_true rfl) (by omega) (by omega) ?_)
  dsimp only [zaft, Option.toList, List.cons_append, List.nil_append, Nat.add_zero]
  exact zr_iret (pc := 32) S dX11_flow_32 rfl ⟨Nat.le_of_ble_eq_true rfl, Nat.le_of_ble_eq_true rfl⟩ (hQ c2 c14)
def sp_X11_set (as : List zV) (M : zM) (Q : Option zV → zM → Prop) : Prop := ∃ (w v : Int), as = [zR 0, zI w, zI v] ∧ ((0 ≤ w ∧ w ≤ 3) → (setLo w ≤ v ∧ v ≤ setHi w) → Q (some (zI (M 3 w.toNat))) (zup M 3 w.toNat v)) ∧ (¬ (0 ≤ w ∧ w ≤ 3) → Q (some (zR 3000)) M) ∧ ((0 ≤ w ∧ w ≤ 3) → ¬ (setLo w ≤ v ∧ v ≤ setHi w) → Q (some (zR 3001)) M)
theorem us_X11_set {w v : Int} {M : zM} {Q : Option zV → zM → Prop} (hQ : (0 ≤ w ∧ w ≤ 3) → (setLo w ≤ v ∧ v ≤ setHi w) → Q (some (zI (M 3 w.toNat))) (zup M 3 w.toNat v)) (hT : ¬ (0 ≤ w ∧ w ≤ 3) → Q (some (zR 3000)) M) (hU : (0 ≤ w ∧ w ≤ 3) → ¬ (setLo w ≤ v ∧ v ≤ setHi w) → Q (some (zR 3001)) M) : sp_X11_set [zR 0, zI w, zI v] M Q := ⟨w, v, rfl, hQ, hT, hU⟩
set_option maxRecDepth 20000 in
set_option maxHeartbeats 4000000 in
theorem m_X11_set (l : Launch) : zCx l yX11_set wzX11_set rmX11_set 5 sp_X11_set := by
  refine zMet.of RX11 (by decide +kernel) rfl rfl ?_
  intro E X as M Qp hX S hsp
  obtain ⟨w, v, rfl, hQ, hT, hU⟩ := hsp
  refine ⟨Nat.le_of_ble_eq_true rfl, ?_⟩
  dsimp only [zpad, zargs]
  refine zr_iload_n (pc := 0) S dX11_set_0 rfl ?_
  refine zr_i2l (pc := 1) S dX11_set_1 ?_
  refine zr_lconst0 (pc := 2) S dX11_set_2 ?_
  refine zr_ldc2 (pc := 3) S (3) dX11_set_3 (List.mem_cons_of_mem _ (zWi_7 _ (List.mem_of_getElem? (i := 11) rfl))) (by unfold zrL; omega) ?_
  refine zr_invS (pc := 6) S [zL _, zL _, zL _] (m_X11_within _) kX11_set_93 dX11_set_6 (Nat.le_of_ble_eq_true rfl) ⟨Nat.le_of_ble_eq_true rfl, Nat.le_of_ble_eq_true rfl⟩ (us_X11_within ?_)
  dsimp only [zaft, Option.toList, List.cons_append, List.nil_append, Nat.add_zero]
  refine zr_invS (pc := 9) S [zI _] (m_X11_needThere _) kX11_set_115 dX11_set_9 (Nat.le_of_ble_eq_true rfl) ⟨Nat.le_of_ble_eq_true rfl, Nat.le_of_ble_eq_true rfl⟩ (us_X11_needThere (fun c9 => ?_) (fun c9 => zaft_thr (by omega) ⟨Nat.le_of_ble_eq_true rfl, Nat.le_of_ble_eq_true rfl⟩ (hT (b01_0.mp c9))))
  dsimp only [zaft, Option.toList, List.cons_append, List.nil_append, Nat.add_zero]
  rw [b01_0, Classical.not_not] at c9
  refine zr_iload_n (pc := 12) S dX11_set_12 rfl ?_
  by_cases w13_0 : w = 0
  · refine zr_tswIn (pc := 13) (tgt := 40) (off := 27) S dX11_set_13 (by omega) (by omega) (by rw [w13_0]; rfl) (by decide) ?_
    refine zr_iload_n (pc := 40) S dX11_set_40 rfl ?_
    refine zr_i2l (pc := 41) S dX11_set_41 ?_
    refine zr_lconst0 (pc := 42) S dX11_set_42 ?_
    refine zr_ldc2 (pc := 43) S (999) dX11_set_43 (List.mem_cons_of_mem _ (zWi_7 _ (List.mem_of_getElem? (i := 6) rfl))) (by unfold zrL; omega) ?_
    refine zr_invS (pc := 46) S [zL _, zL _, zL _] (m_X11_within _) kX11_set_93 dX11_set_46 (Nat.le_of_ble_eq_true rfl) ⟨Nat.le_of_ble_eq_true rfl, Nat.le_of_ble_eq_true rfl⟩ (us_X11_within ?_)
    dsimp only [zaft, Option.toList, List.cons_append, List.nil_append, Nat.add_zero]
    refine zr_invS (pc := 49) S [zI _] (m_X11_need _) kX11_set_97 dX11_set_49 (Nat.le_of_ble_eq_true rfl) ⟨Nat.le_of_ble_eq_true rfl, Nat.le_of_ble_eq_true rfl⟩ (us_X11_need (fun c49 => ?_) (fun c49 => zaft_thr (by omega) ⟨Nat.le_of_ble_eq_true rfl, Nat.le_of_ble_eq_true rfl⟩ (hU c9 (fun z => b01_0.mp c49 (by subst w13_0; exact z)))))
    dsimp only [zaft, Option.toList, List.cons_append, List.nil_append, Nat.add_zero]
    rw [b01_0, Classical.not_not] at c49
    refine zr_goto (pc := 52) (tgt := 99) S dX11_set_52 (by decide) ?_
    refine zr_aload_n (pc := 99) S dX11_set_99 rfl ?_
    refine zr_getR (pc := 100) S fX11_set_10 dX11_set_100 rfl (Nat.le_of_ble_eq_true rfl) rfl ?_
    refine zr_getR (pc := 103) S fX11_set_39 dX11_set_103 rfl (Nat.le_of_ble_eq_true rfl) rfl ?_
    refine zr_getR (pc := 106) S fX11_set_149 dX11_set_106 rfl (Nat.le_of_ble_eq_true rfl) rfl ?_
    refine zr_iload_n (pc := 109) S dX11_set_109 rfl ?_
    refine zr_iload_n (pc := 110) S dX11_set_110 rfl ?_
    refine zr_invS (pc := 111) S [zR _, zI _, zI _] (m_X11_swap _) kX11_set_132 dX11_set_111 (Nat.le_of_ble_eq_true rfl) ⟨Nat.le_of_ble_eq_true rfl, Nat.le_of_ble_eq_true rfl⟩ (us_X11_swap (n := 4) rfl (Nat.le_of_ble_eq_true rfl) (by omega) (by omega) ?_)
    dsimp only [zaft, Option.toList, List.cons_append, List.nil_append, Nat.add_zero]
    exact zr_iret (pc := 114) S dX11_set_114 rfl ⟨Nat.le_of_ble_eq_true rfl, Nat.le_of_ble_eq_true rfl⟩ (hQ c9 (by first | (subst w13_0; exact c49) | (subst w13_1; exact c64) | (subst w13_2; exact c81) | exact c96'))
  by_cases w13_1 : w = 1
  · refine zr_tswIn (pc := 13) (tgt := 55) (off := 42) S dX11_set_13 (by omega) (by omega) (by rw [w13_1]; rfl) (by decide) ?_
    refine zr_iload_n (pc := 55) S dX11_set_55 rfl ?_
    refine zr_i2l (pc := 56) S dX11_set_56 ?_
    refine zr_lconst0 (pc := 57) S dX11_set_57 ?_
    refine zr_ldc2 (pc := 58) S (20) dX11_set_58 (List.mem_cons_of_mem _ (zWi_7 _ (List.mem_of_getElem? (i := 12) rfl))) (by unfold zrL; omega) ?_
    refine zr_invS (pc := 61) S [zL _, zL _, zL _] (m_X11_within _) kX11_set_93 dX11_set_61 (Nat.le_of_ble_eq_true rfl) ⟨Nat.le_of_ble_eq_true rfl, Nat.le_of_ble_eq_true rfl⟩ (us_X11_within ?_)
    dsimp only [zaft, Option.toList, List.cons_append, List.nil_append, Nat.add_zero]
    refine zr_invS (pc := 64) S [zI _] (m_X11_need _) kX11_set_97 dX11_set_64 (Nat.le_of_ble_eq_true rfl) ⟨Nat.le_of_ble_eq_true rfl, Nat.le_of_ble_eq_true rfl⟩ (us_X11_need (fun c64 => ?_) (fun c64 => zaft_thr (by omega) ⟨Nat.le_of_ble_eq_true rfl, Nat.le_of_ble_eq_true rfl⟩ (hU c9 (fun z => b01_0.mp c64 (by subst w13_1; exact z)))))
    dsimp only [zaft, Option.toList, List.cons_append, List.nil_append, Nat.add_zero]
    rw [b01_0, Classical.not_not] at c64
    refine zr_goto (pc := 67) (tgt := 99) S dX11_set_67 (by decide) ?_
    refine zr_aload_n (pc := 99) S dX11_set_99 rfl ?_
    refine zr_getR (pc := 100) S fX11_set_10 dX11_set_100 rfl (Nat.le_of_ble_eq_true rfl) rfl ?_
    refine zr_getR (pc := 103) S fX11_set_39 dX11_set_103 rfl (Nat.le_of_ble_eq_true rfl) rfl ?_
    refine zr_getR (pc := 106) S fX11_set_149 dX11_set_106 rfl (Nat.le_of_ble_eq_true rfl) rfl ?_
    refine zr_iload_n (pc := 109) S dX11_set_109 rfl ?_
    refine zr_iload_n (pc := 110) S dX11_set_110 rfl ?_
    refine zr_invS (pc := 111) S [zR _, zI _, zI _] (m_X11_swap _) kX11_set_132 dX11_set_111 (Nat.le_of_ble_eq_true rfl) ⟨Nat.le_of_ble_eq_true rfl, Nat.le_of_ble_eq_true rfl⟩ (us_X11_swap (n := 4) rfl (Nat.le_of_ble_eq_true rfl) (by omega) (by omega) ?_)
    dsimp only [zaft, Option.toList, List.cons_append, List.nil_append, Nat.add_zero]
    exact zr_iret (pc := 114) S dX11_set_114 rfl ⟨Nat.le_of_ble_eq_true rfl, Nat.le_of_ble_eq_true rfl⟩ (hQ c9 (by first | (subst w13_0; exact c49) | (subst w13_1; exact c64) | (subst w13_2; exact c81) | exact c96'))
  by_cases w13_2 : w = 2
  · refine zr_tswIn (pc := 13) (tgt := 70) (off := 57) S dX11_set_13 (by omega) (by omega) (by rw [w13_2]; rfl) (by decide) ?_
    refine zr_iload_n (pc := 70) S dX11_set_70 rfl ?_
    refine zr_i2l (pc := 71) S dX11_set_71 ?_
    refine zr_ldc2 (pc := 72) S (-10) dX11_set_72 (List.mem_cons_of_mem _ (zWi_7 _ (List.mem_of_getElem? (i := 13) rfl))) (by unfold zrL; omega) ?_
    refine zr_ldc2 (pc := 75) S (10) dX11_set_75 (List.mem_cons_of_mem _ (zWi_7 _ (List.mem_of_getElem? (i := 14) rfl))) (by unfold zrL; omega) ?_
    refine zr_invS (pc := 78) S [zL _, zL _, zL _] (m_X11_within _) kX11_set_93 dX11_set_78 (Nat.le_of_ble_eq_true rfl) ⟨Nat.le_of_ble_eq_true rfl, Nat.le_of_ble_eq_true rfl⟩ (us_X11_within ?_)
    dsimp only [zaft, Option.toList, List.cons_append, List.nil_append, Nat.add_zero]
    refine zr_invS (pc := 81) S [zI _] (m_X11_need _) kX11_set_97 dX11_set_81 (Nat.le_of_ble_eq_true rfl) ⟨Nat.le_of_ble_eq_true rfl, Nat.le_of_ble_eq_true rfl⟩ (us_X11_need (fun c81 => ?_) (fun c81 => zaft_thr (by omega) ⟨Nat.le_of_ble_eq_true rfl, Nat.le_of_ble_eq_true rfl⟩ (hU c9 (fun z => b01_0.mp c81 (by subst w13_2; exact z)))))
    dsimp only [zaft, Option.toList, List.cons_append, List.nil_append, Nat.add_zero]
    rw [b01_0, Classical.not_not] at c81
    refine zr_goto (pc := 84) (tgt := 99) S dX11_set_84 (by decide) ?_
    refine zr_aload_n (pc := 99) S dX11_set_99 rfl ?_
    refine zr_getR (pc := 100) S fX11_set_10 dX11_set_100 rfl (Nat.le_of_ble_eq_true rfl) rfl ?_
    refine zr_getR (pc := 103) S fX11_set_39 dX11_set_103 rfl (Nat.le_of_ble_eq_true rfl) rfl ?_
    refine zr_getR (pc := 106) S fX11_set_149 dX11_set_106 rfl (Nat.le_of_ble_eq_true rfl) rfl ?_
    refine zr_iload_n (pc := 109) S dX11_set_109 rfl ?_
    refine zr_iload_n (pc := 110) S dX11_set_110 rfl ?_
    refine zr_invS (pc := 111) S [zR _, zI _, zI _] (m_X11_swap _) kX11_set_132 dX11_set_111 (Nat.le_of_ble_eq_true rfl) ⟨Nat.le_of_ble_eq_true rfl, Nat.le_of_ble_eq_true rfl⟩ (us_X11_swap (n := 4) rfl (Nat.le_of_ble_eq_true rfl) (by omega) (by omega) ?_)
    dsimp only [zaft, Option.toList, List.cons_append, List.nil_append, Nat.add_zero]
    exact zr_iret (pc := 114) S dX11_set_114 rfl ⟨Nat.le_of_ble_eq_true rfl, Nat.le_of_ble_eq_true rfl⟩ (hQ c9 (by first | (subst w13_0; exact c49) | (subst w13_1; exact c64) | (subst w13_2; exact c81) | exact c96'))
  refine zr_tswOut (pc := 13) (tgt := 87) S dX11_set_13 (by omega) (by decide) ?_
  have w3 : w = 3 := by omega
  refine zr_iload_n (pc := 87) S dX11_set_87 rfl ?_
  refine zr_i2l (pc := 88) S dX11_set_88 ?_
  refine zr_lconst0 (pc := 89) S dX11_set_89 ?_
  refine zr_ldc2 (pc := 90) S (999) dX11_set_90 (List.mem_cons_of_mem _ (zWi_7 _ (List.mem_of_getElem? (i := 6) rfl))) (by unfold zrL; omega) ?_
  refine zr_invS (pc := 93) S [zL _, zL _, zL _] (m_X11_within _) kX11_set_93 dX11_set_93 (Nat.le_of_ble_eq_true rfl) ⟨Nat.le_of_ble_eq_true rfl, Nat.le_of_ble_eq_true rfl⟩ (us_X11_within ?_)
  dsimp only [zaft, Option.toList, List.cons_append, List.nil_append, Nat.add_zero]
  refine zr_invS (pc := 96) S [zI _] (m_X11_need _) kX11_set_97 dX11_set_96 (Nat.le_of_ble_eq_true rfl) ⟨Nat.le_of_ble_eq_true rfl, Nat.le_of_ble_eq_true rfl⟩ (us_X11_need (fun c96 => ?_) (fun c96 => zaft_thr (by omega) ⟨Nat.le_of_ble_eq_true rfl, Nat.le_of_ble_eq_true rfl⟩ (hU c9 (fun z => b01_0.mp c96 (by subst w3; exact z)))))
  dsimp only [zaft, Option.toList, List.cons_append, List.nil_append, Nat.add_zero]
  rw [b01_0, Classical.not_not] at c96
  have c96' : setLo w ≤ v ∧ v ≤ setHi w := by subst w3; exact c96
  refine zr_aload_n (pc := 99) S dX11_set_99 rfl ?_
  refine zr_getR (pc := 100) S fX11_set_10 dX11_set_100 rfl (Nat.le_of_ble_eq_true rfl) rfl ?_
  refine zr_getR (pc := 103) S fX11_set_39 dX11_set_103 rfl (Nat.le_of_ble_eq_true rfl) rfl ?_
  refine zr_getR (pc := 106) S fX11_set_149 dX11_set_106 rfl (Nat.le_of_ble_eq_true rfl) rfl ?_
  refine zr_iload_n (pc := 109) S dX11_set_109 rfl ?_
  refine zr_iload_n (pc := 110) S dX11_set_110 rfl ?_
  refine zr_invS (pc := 111) S [zR _, zI _, zI _] (m_X11_swap _) kX11_set_132 dX11_set_111 (Nat.le_of_ble_eq_true rfl) ⟨Nat.le_of_ble_eq_true rfl, Nat.le_of_ble_eq_true rfl⟩ (us_X11_swap (n := 4) rfl (Nat.le_of_ble_eq_true rfl) (by omega) (by omega) ?_)
  dsimp only [zaft, Option.toList, List.cons_append, List.nil_append, Nat.add_zero]
  exact zr_iret (pc := 114) S dX11_set_114 rfl ⟨Nat.le_of_ble_eq_true rfl, Nat.le_of_ble_eq_true rfl⟩ (hQ c9 (by first | (subst w13_0; exact c49) | (subst w13_1; exact c64) | (subst w13_2; exact c81) | exact c96'))
def sp_X11_good (as : List zV) (M : zM) (Q : Option zV → zM → Prop) : Prop := ∃ (s : Int), as = [zR 0, zI s] ∧ (ICs M) ∧ ((0 ≤ s ∧ s < M 2 0) → Q (some (zI (b01 (isGood M s)))) M) ∧ (¬ (0 ≤ s ∧ s < M 2 0) → Q (some (zR 3000)) M)
theorem us_X11_good {s : Int} {M : zM} {Q : Option zV → zM → Prop} (hs : ICs M) (hQ : (0 ≤ s ∧ s < M 2 0) → Q (some (zI (b01 (isGood M s)))) M) (hT : ¬ (0 ≤ s ∧ s < M 2 0) → Q (some (zR 3000)) M) : sp_X11_good [zR 0, zI s] M Q := ⟨s, rfl, hs, hQ, hT⟩
set_option maxRecDepth 20000 in
set_option maxHeartbeats 4000000 in
theorem m_X11_good (l : Launch) : zCx l yX11_good wzX11_good rmX11_good 1 sp_X11_good := by
  refine zMet.of RX11 (by decide +kernel) rfl rfl ?_
  intro E X as M Qp hX S hsp
  obtain ⟨s, rfl, hs, hQ, hT⟩ := hsp
  refine ⟨Nat.le_of_ble_eq_true rfl, ?_⟩
  dsimp only [zpad, zargs]
  refine zr_aload_n (pc := 0) S dX11_good_0 rfl ?_
  refine zr_iload_n (pc := 1) S dX11_good_1 rfl ?_
  refine zr_invV (pc := 2) S [zI _] (m_X11_needSort _) kX11_good_109 dX11_good_2 rfl (Nat.le_of_ble_eq_true rfl) rfl (Nat.le_of_ble_eq_true rfl) ⟨Nat.le_of_ble_eq_true rfl, Nat.le_of_ble_eq_true rfl⟩ (us_X11_needSort (fun c2 => ?_) (fun c2 => zaft_thr (by omega) ⟨Nat.le_of_ble_eq_true rfl, Nat.le_of_ble_eq_true rfl⟩ (hT c2)))
  dsimp only [zaft, Option.toList, List.cons_append, List.nil_append, Nat.add_zero]
  refine zr_aload_n (pc := 5) S dX11_good_5 rfl ?_
  refine zr_getR (pc := 6) S fX11_good_10 dX11_good_6 rfl (Nat.le_of_ble_eq_true rfl) rfl ?_
  refine zr_getR (pc := 9) S fX11_good_39 dX11_good_9 rfl (Nat.le_of_ble_eq_true rfl) rfl ?_
  refine zr_iload_n (pc := 12) S dX11_good_12 rfl ?_
  refine zr_invV (pc := 13) S [zI _] (m_X7_isGood _) kX11_good_152 dX11_good_13 rfl (Nat.le_of_ble_eq_true rfl) rfl (Nat.le_of_ble_eq_true rfl) ⟨Nat.le_of_ble_eq_true rfl, Nat.le_of_ble_eq_true rfl⟩ (us_X7_isGood hs ?_)
  dsimp only [zaft, Option.toList, List.cons_append, List.nil_append, Nat.add_zero]
  exact zr_zret (pc := 16) S dX11_good_16 rfl (by first | omega | exact b01_r) ⟨Nat.le_of_ble_eq_true rfl, Nat.le_of_ble_eq_true rfl⟩ (hQ c2)
def sp_X11_cost (as : List zV) (M : zM) (Q : Option zV → zM → Prop) : Prop := ∃ (k c : Int), as = [zR 0, zI k, zI c] ∧ ((0 ≤ k ∧ k ≤ 3) → (0 ≤ c ∧ c ≤ 999) → Q (some (zI (M 23 k.toNat))) (zup M 23 k.toNat c)) ∧ (¬ (0 ≤ k ∧ k ≤ 3) → Q (some (zR 3000)) M) ∧ ((0 ≤ k ∧ k ≤ 3) → ¬ (0 ≤ c ∧ c ≤ 999) → Q (some (zR 3001)) M)
theorem us_X11_cost {k c : Int} {M : zM} {Q : Option zV → zM → Prop} (hQ : (0 ≤ k ∧ k ≤ 3) → (0 ≤ c ∧ c ≤ 999) → Q (some (zI (M 23 k.toNat))) (zup M 23 k.toNat c)) (hT : ¬ (0 ≤ k ∧ k ≤ 3) → Q (some (zR 3000)) M) (hU : (0 ≤ k ∧ k ≤ 3) → ¬ (0 ≤ c ∧ c ≤ 999) → Q (some (zR 3001)) M) : sp_X11_cost [zR 0, zI k, zI c] M Q := ⟨k, c, rfl, hQ, hT, hU⟩
set_option maxRecDepth 20000 in
set_option maxHeartbeats 4000000 in
theorem m_X11_cost (l : Launch) : zCx l yX11_cost wzX11_cost rmX11_cost 2 sp_X11_cost := by
  refine zMet.of RX11 (by decide +kernel) rfl rfl ?_
  intro E X as M Qp hX S hsp
  obtain ⟨k, c, rfl, hQ, hT, hU⟩ := hsp
  refine ⟨Nat.le_of_ble_eq_true rfl, ?_⟩
  dsimp only [zpad, zargs]
  refine zr_iload_n (pc := 0) S dX11_cost_0 rfl ?_
  refine zr_i2l (pc := 1) S dX11_cost_1 ?_
  refine zr_lconst0 (pc := 2) S dX11_cost_2 ?_
  refine zr_ldc2 (pc := 3) S (3) dX11_cost_3 (List.mem_cons_of_mem _ (zWi_7 _ (List.mem_of_getElem? (i := 11) rfl))) (by unfold zrL; omega) ?_
  refine zr_invS (pc := 6) S [zL _, zL _, zL _] (m_X11_within _) kX11_cost_93 dX11_cost_6 (Nat.le_of_ble_eq_true rfl) ⟨Nat.le_of_ble_eq_true rfl, Nat.le_of_ble_eq_true rfl⟩ (us_X11_within ?_)
  dsimp only [zaft, Option.toList, List.cons_append, List.nil_append, Nat.add_zero]
  refine zr_invS (pc := 9) S [zI _] (m_X11_needThere _) kX11_cost_115 dX11_cost_9 (Nat.le_of_ble_eq_true rfl) ⟨Nat.le_of_ble_eq_true rfl, Nat.le_of_ble_eq_true rfl⟩ (us_X11_needThere (fun c9 => ?_) (fun c9 => zaft_thr (by omega) ⟨Nat.le_of_ble_eq_true rfl, Nat.le_of_ble_eq_true rfl⟩ (hT (b01_0.mp c9))))
  dsimp only [zaft, Option.toList, List.cons_append, List.nil_append, Nat.add_zero]
  rw [b01_0, Classical.not_not] at c9
  refine zr_iload_n (pc := 12) S dX11_cost_12 rfl ?_
  refine zr_i2l (pc := 13) S dX11_cost_13 ?_
  refine zr_lconst0 (pc := 14) S dX11_cost_14 ?_
  refine zr_ldc2 (pc := 15) S (999) dX11_cost_15 (List.mem_cons_of_mem _ (zWi_7 _ (List.mem_of_getElem? (i := 6) rfl))) (by unfold zrL; omega) ?_
  refine zr_invS (pc := 18) S [zL _, zL _, zL _] (m_X11_within _) kX11_cost_93 dX11_cost_18 (Nat.le_of_ble_eq_true rfl) ⟨Nat.le_of_ble_eq_true rfl, Nat.le_of_ble_eq_true rfl⟩ (us_X11_within ?_)
  dsimp only [zaft, Option.toList, List.cons_append, List.nil_append, Nat.add_zero]
  refine zr_invS (pc := 21) S [zI _] (m_X11_need _) kX11_cost_97 dX11_cost_21 (Nat.le_of_ble_eq_true rfl) ⟨Nat.le_of_ble_eq_true rfl, Nat.le_of_ble_eq_true rfl⟩ (us_X11_need (fun c21 => ?_) (fun c21 => zaft_thr (by omega) ⟨Nat.le_of_ble_eq_true rfl, Nat.le_of_ble_eq_true rfl⟩ (hU c9 (b01_0.mp c21))))
  dsimp only [zaft, Option.toList, List.cons_append, List.nil_append, Nat.add_zero]
  rw [b01_0, Classical.not_not] at c21
  refine zr_aload_n (pc := 24) S dX11_cost_24 rfl ?_
  refine zr_getR (pc := 25) S fX11_cost_10 dX11_cost_25 rfl (Nat.le_of_ble_eq_true rfl) rfl ?_
  refine zr_getR (pc := 28) S fX11_cost_255 dX11_cost_28 rfl (Nat.le_of_ble_eq_true rfl) rfl ?_
  refine zr_getR (pc := 31) S fX11_cost_352 dX11_cost_31 rfl (Nat.le_of_ble_eq_true rfl) rfl ?_
  refine zr_iload_n (pc := 34) S dX11_cost_34 rfl ?_
  refine zr_iload_n (pc := 35) S dX11_cost_35 rfl ?_
  refine zr_invS (pc := 36) S [zR _, zI _, zI _] (m_X11_swap _) kX11_cost_132 dX11_cost_36 (Nat.le_of_ble_eq_true rfl) ⟨Nat.le_of_ble_eq_true rfl, Nat.le_of_ble_eq_true rfl⟩ (us_X11_swap (n := 4) rfl (Nat.le_of_ble_eq_true rfl) (by omega) (by omega) ?_)
  dsimp only [zaft, Option.toList, List.cons_append, List.nil_append, Nat.add_zero]
  exact zr_iret (pc := 39) S dX11_cost_39 rfl ⟨Nat.le_of_ble_eq_true rfl, Nat.le_of_ble_eq_true rfl⟩ (hQ c9 c21)
def sp_X11_bag (as : List zV) (M : zM) (Q : Option zV → zM → Prop) : Prop := ∃ (s : Int), as = [zR 0, zI s] ∧ (M 2 0 ≤ 8) ∧ ((0 ≤ s ∧ s < M 2 0) → Q (some (zI (M 20 s.toNat))) M) ∧ (¬ (0 ≤ s ∧ s < M 2 0) → Q (some (zR 3000)) M)
theorem us_X11_bag {s : Int} {M : zM} {Q : Option zV → zM → Prop} (hs : M 2 0 ≤ 8) (hQ : (0 ≤ s ∧ s < M 2 0) → Q (some (zI (M 20 s.toNat))) M) (hT : ¬ (0 ≤ s ∧ s < M 2 0) → Q (some (zR 3000)) M) : sp_X11_bag [zR 0, zI s] M Q := ⟨s, rfl, hs, hQ, hT⟩
set_option maxRecDepth 20000 in
set_option maxHeartbeats 4000000 in
theorem m_X11_bag (l : Launch) : zCx l yX11_bag wzX11_bag rmX11_bag 1 sp_X11_bag := by
  refine zMet.of RX11 (by decide +kernel) rfl rfl ?_
  intro E X as M Qp hX S hsp
  obtain ⟨s, rfl, hs, hQ, hT⟩ := hsp
  refine ⟨Nat.le_of_ble_eq_true rfl, ?_⟩
  dsimp only [zpad, zargs]
  refine zr_aload_n (pc := 0) S dX11_bag_0 rfl ?_
  refine zr_iload_n (pc := 1) S dX11_bag_1 rfl ?_
  refine zr_invV (pc := 2) S [zI _] (m_X11_needSort _) kX11_bag_109 dX11_bag_2 rfl (Nat.le_of_ble_eq_true rfl) rfl (Nat.le_of_ble_eq_true rfl) ⟨Nat.le_of_ble_eq_true rfl, Nat.le_of_ble_eq_true rfl⟩ (us_X11_needSort (fun c2 => ?_) (fun c2 => zaft_thr (by omega) ⟨Nat.le_of_ble_eq_true rfl, Nat.le_of_ble_eq_true rfl⟩ (hT c2)))
  dsimp only [zaft, Option.toList, List.cons_append, List.nil_append, Nat.add_zero]
  refine zr_aload_n (pc := 5) S dX11_bag_5 rfl ?_
  refine zr_getR (pc := 6) S fX11_bag_10 dX11_bag_6 rfl (Nat.le_of_ble_eq_true rfl) rfl ?_
  refine zr_getR (pc := 9) S fX11_bag_255 dX11_bag_9 rfl (Nat.le_of_ble_eq_true rfl) rfl ?_
  refine zr_getR (pc := 12) S fX11_bag_275 dX11_bag_12 rfl (Nat.le_of_ble_eq_true rfl) rfl ?_
  refine zr_iload_n (pc := 15) S dX11_bag_15 rfl ?_
  refine zr_iaload (pc := 16) S dX11_bag_16 rfl (Nat.le_of_ble_eq_true rfl) (by omega) (by omega) ?_
  exact zr_iret (pc := 17) S dX11_bag_17 rfl ⟨Nat.le_of_ble_eq_true rfl, Nat.le_of_ble_eq_true rfl⟩ (hQ c2)
def sp_X11_offer (as : List zV) (M : zM) (Q : Option zV → zM → Prop) : Prop := ∃ (p : Int), as = [zR 0, zI p] ∧ (0 ≤ M 1 3 ∧ M 1 3 ≤ 6) ∧ ((1 ≤ p ∧ p ≤ 500) → Q (some (zI (if 6 ≤ M 1 3 then -1 else M 1 3))) (if 6 ≤ M 1 3 then M else zup (zup M 29 (M 1 3).toNat p) 1 3 (M 1 3 + 1))) ∧ (¬ (1 ≤ p ∧ p ≤ 500) → Q (some (zR 3001)) M)
theorem us_X11_offer {p : Int} {M : zM} {Q : Option zV → zM → Prop} (h0 : 0 ≤ M 1 3 ∧ M 1 3 ≤ 6) (hQ : (1 ≤ p ∧ p ≤ 500) → Q (some (zI (if 6 ≤ M 1 3 then -1 else M 1 3))) (if 6 ≤ M 1 3 then M else zup (zup M 29 (M 1 3).toNat p) 1 3 (M 1 3 + 1))) (hT : ¬ (1 ≤ p ∧ p ≤ 500) → Q (some (zR 3001)) M) : sp_X11_offer [zR 0, zI p] M Q := ⟨p, rfl, h0, hQ, hT⟩
set_option maxRecDepth 20000 in
set_option maxHeartbeats 4000000 in
theorem m_X11_offer (l : Launch) : zCx l yX11_offer wzX11_offer rmX11_offer 1 sp_X11_offer := by
  refine zMet.of RX11 (by decide +kernel) rfl rfl ?_
  intro E X as M Qp hX S hsp
  obtain ⟨p, rfl, h0, hQ, hT⟩ := hsp
  refine ⟨Nat.le_of_ble_eq_true rfl, ?_⟩
  dsimp only [zpad, zargs]
  refine zr_iload_n (pc := 0) S dX11_offer_0 rfl ?_
  refine zr_i2l (pc := 1) S dX11_offer_1 ?_
  refine zr_lconst1 (pc := 2) S dX11_offer_2 ?_
  refine zr_ldc2 (pc := 3) S (500) dX11_offer_3 (List.mem_cons_of_mem _ (zWi_7 _ (List.mem_of_getElem? (i := 15) rfl))) (by unfold zrL; omega) ?_
  refine zr_invS (pc := 6) S [zL _, zL _, zL _] (m_X11_within _) kX11_offer_93 dX11_offer_6 (Nat.le_of_ble_eq_true rfl) ⟨Nat.le_of_ble_eq_true rfl, Nat.le_of_ble_eq_true rfl⟩ (us_X11_within ?_)
  dsimp only [zaft, Option.toList, List.cons_append, List.nil_append, Nat.add_zero]
  refine zr_invS (pc := 9) S [zI _] (m_X11_need _) kX11_offer_97 dX11_offer_9 (Nat.le_of_ble_eq_true rfl) ⟨Nat.le_of_ble_eq_true rfl, Nat.le_of_ble_eq_true rfl⟩ (us_X11_need (fun c9 => ?_) (fun c9 => zaft_thr (by omega) ⟨Nat.le_of_ble_eq_true rfl, Nat.le_of_ble_eq_true rfl⟩ (hT (b01_0.mp c9))))
  dsimp only [zaft, Option.toList, List.cons_append, List.nil_append, Nat.add_zero]
  rw [b01_0, Classical.not_not] at c9
  refine zr_aload_n (pc := 12) S dX11_offer_12 rfl ?_
  refine zr_getR (pc := 13) S fX11_offer_10 dX11_offer_13 rfl (Nat.le_of_ble_eq_true rfl) rfl ?_
  refine zr_iload_n (pc := 16) S dX11_offer_16 rfl ?_
  refine zr_invV (pc := 17) S [zI _] (m_X8_addGood _) kX11_offer_246 dX11_offer_17 rfl (Nat.le_of_ble_eq_true rfl) rfl (Nat.le_of_ble_eq_true rfl) ⟨Nat.le_of_ble_eq_true rfl, Nat.le_of_ble_eq_true rfl⟩ (us_X8_addGood h0 ?_)
  dsimp only [zaft, Option.toList, List.cons_append, List.nil_append, Nat.add_zero]
  exact zr_iret (pc := 20) S dX11_offer_20 rfl ⟨Nat.le_of_ble_eq_true rfl, Nat.le_of_ble_eq_true rfl⟩ (hQ c9)
def sp_X11_price (as : List zV) (M : zM) (Q : Option zV → zM → Prop) : Prop := ∃ (g p : Int), as = [zR 0, zI g, zI p] ∧ (0 ≤ M 1 3 ∧ M 1 3 ≤ 6) ∧ ((0 ≤ g ∧ g < M 1 3) → (1 ≤ p ∧ p ≤ 500) → Q (some (zI (M 29 g.toNat))) (zup M 29 g.toNat p)) ∧ (¬ (0 ≤ g ∧ g < M 1 3) → Q (some (zR 3000)) M) ∧ ((0 ≤ g ∧ g < M 1 3) → ¬ (1 ≤ p ∧ p ≤ 500) → Q (some (zR 3001)) M)
theorem us_X11_price {g p : Int} {M : zM} {Q : Option zV → zM → Prop} (h0 : 0 ≤ M 1 3 ∧ M 1 3 ≤ 6) (hQ : (0 ≤ g ∧ g < M 1 3) → (1 ≤ p ∧ p ≤ 500) → Q (some (zI (M 29 g.toNat))) (zup M 29 g.toNat p)) (hT : ¬ (0 ≤ g ∧ g < M 1 3) → Q (some (zR 3000)) M) (hU : (0 ≤ g ∧ g < M 1 3) → ¬ (1 ≤ p ∧ p ≤ 500) → Q (some (zR 3001)) M) : sp_X11_price [zR 0, zI g, zI p] M Q := ⟨g, p, rfl, h0, hQ, hT, hU⟩
set_option maxRecDepth 20000 in
set_option maxHeartbeats 4000000 in
theorem m_X11_price (l : Launch) : zCx l yX11_price wzX11_price rmX11_price 2 sp_X11_price := by
  refine zMet.of RX11 (by decide +kernel) rfl rfl ?_
  intro E X as M Qp hX S hsp
  obtain ⟨g, p, rfl, h0, hQ, hT, hU⟩ := hsp
  refine ⟨Nat.le_of_ble_eq_true rfl, ?_⟩
  dsimp only [zpad, zargs]
  refine zr_aload_n (pc := 0) S dX11_price_0 rfl ?_
  refine zr_iload_n (pc := 1) S dX11_price_1 rfl ?_
  refine zr_invV (pc := 2) S [zI _] (m_X11_needGood _) kX11_price_249 dX11_price_2 rfl (Nat.le_of_ble_eq_true rfl) rfl (Nat.le_of_ble_eq_true rfl) ⟨Nat.le_of_ble_eq_true rfl, Nat.le_of_ble_eq_true rfl⟩ (us_X11_needGood h0.1 (fun c2 => ?_) (fun c2 => zaft_thr (by omega) ⟨Nat.le_of_ble_eq_true rfl, Nat.le_of_ble_eq_true rfl⟩ (hT c2)))
  dsimp only [zaft, Option.toList, List.cons_append, List.nil_append, Nat.add_zero]
  refine zr_iload_n (pc := 5) S dX11_price_5 rfl ?_
  refine zr_i2l (pc := 6) S dX11_price_6 ?_
  refine zr_lconst1 (pc := 7) S dX11_price_7 ?_
  refine zr_ldc2 (pc := 8) S (500) dX11_price_8 (List.mem_cons_of_mem _ (zWi_7 _ (List.mem_of_getElem? (i := 15) rfl))) (by unfold zrL; omega) ?_
  refine zr_invS (pc := 11) S [zL _, zL _, zL _] (m_X11_within _) kX11_price_93 dX11_price_11 (Nat.le_of_ble_eq_true rfl) ⟨Nat.le_of_ble_eq_true rfl, Nat.le_of_ble_eq_true rfl⟩ (us_X11_within ?_)
  dsimp only [zaft, Option.toList, List.cons_append, List.nil_append, Nat.add_zero]
  refine zr_invS (pc := 14) S [zI _] (m_X11_need _) kX11_price_97 dX11_price_14 (Nat.le_of_ble_eq_true rfl) ⟨Nat.le_of_ble_eq_true rfl, Nat.le_of_ble_eq_true rfl⟩ (us_X11_need (fun c14 => ?_) (fun c14 => zaft_thr (by omega) ⟨Nat.le_of_ble_eq_true rfl, Nat.le_of_ble_eq_true rfl⟩ (hU c2 (b01_0.mp c14))))
  dsimp only [zaft, Option.toList, List.cons_append, List.nil_append, Nat.add_zero]
  rw [b01_0, Classical.not_not] at c14
  refine zr_aload_n (pc := 17) S dX11_price_17 rfl ?_
  refine zr_getR (pc := 18) S fX11_price_10 dX11_price_18 rfl (Nat.le_of_ble_eq_true rfl) rfl ?_
  refine zr_getR (pc := 21) S fX11_price_252 dX11_price_21 rfl (Nat.le_of_ble_eq_true rfl) rfl ?_
  refine zr_iload_n (pc := 24) S dX11_price_24 rfl ?_
  refine zr_iload_n (pc := 25) S dX11_price_25 rfl ?_
  refine zr_invS (pc := 26) S [zR _, zI _, zI _] (m_X11_swap _) kX11_price_132 dX11_price_26 (Nat.le_of_ble_eq_true rfl) ⟨Nat.le_of_ble_eq_true rfl, Nat.le_of_ble_eq_true rfl⟩ (us_X11_swap (n := 6) rfl (Nat.le_of_ble_eq_true rfl) (by omega) (by omega) ?_)
  dsimp only [zaft, Option.toList, List.cons_append, List.nil_append, Nat.add_zero]
  exact zr_iret (pc := 29) S dX11_price_29 rfl ⟨Nat.le_of_ble_eq_true rfl, Nat.le_of_ble_eq_true rfl⟩ (hQ c2 c14)
def sp_X11_machine (as : List zV) (M : zM) (Q : Option zV → zM → Prop) : Prop := ∃ (a b : Int), as = [zR 0, zI a, zI b] ∧ (0 ≤ M 1 10 ∧ M 1 10 ≤ 4) ∧ ((0 ≤ a ∧ a ≤ 5) → (1 ≤ b ∧ b ≤ 5) → Q (some (zI (if 4 ≤ M 1 10 then -1 else M 1 10))) (if 4 ≤ M 1 10 then M else zup (zup (zup M 34 (M 1 10).toNat a) 35 (M 1 10).toNat b) 1 10 (M 1 10 + 1))) ∧ (¬ ((0 ≤ a ∧ a ≤ 5) ∧ (1 ≤ b ∧ b ≤ 5)) → Q (some (zR 3001)) M)
theorem us_X11_machine {a b : Int} {M : zM} {Q : Option zV → zM → Prop} (h0 : 0 ≤ M 1 10 ∧ M 1 10 ≤ 4) (hQ : (0 ≤ a ∧ a ≤ 5) → (1 ≤ b ∧ b ≤ 5) → Q (some (zI (if 4 ≤ M 1 10 then -1 else M 1 10))) (if 4 ≤ M 1 10 then M else zup (zup (zup M 34 (M 1 10).toNat a) 35 (M 1 10).toNat b) 1 10 (M 1 10 + 1))) (hT : ¬ ((0 ≤ a ∧ a ≤ 5) ∧ (1 ≤ b ∧ b ≤ 5)) → Q (some (zR 3001)) M) : sp_X11_machine [zR 0, zI a, zI b] M Q := ⟨a, b, rfl, h0, hQ, hT⟩
set_option maxRecDepth 20000 in
set_option maxHeartbeats 4000000 in
theorem m_X11_machine (l : Launch) : zCx l yX11_machine wzX11_machine rmX11_machine 2 sp_X11_machine := by
  refine zMet.of RX11 (by decide +kernel) rfl rfl ?_
  intro E X as M Qp hX S hsp
  obtain ⟨a, b, rfl, h0, hQ, hT⟩ := hsp
  refine ⟨Nat.le_of_ble_eq_true rfl, ?_⟩
  dsimp only [zpad, zargs]
  refine zr_iload_n (pc := 0) S dX11_machine_0 rfl ?_
  refine zr_i2l (pc := 1) S dX11_machine_1 ?_
  refine zr_lconst0 (pc := 2) S dX11_machine_2 ?_
  refine zr_ldc2 (pc := 3) S (5) dX11_machine_3 (List.mem_cons_of_mem _ (zWi_7 _ (List.mem_of_getElem? (i := 16) rfl))) (by unfold zrL; omega) ?_
  refine zr_invS (pc := 6) S [zL _, zL _, zL _] (m_X11_within _) kX11_machine_93 dX11_machine_6 (Nat.le_of_ble_eq_true rfl) ⟨Nat.le_of_ble_eq_true rfl, Nat.le_of_ble_eq_true rfl⟩ (us_X11_within ?_)
  dsimp only [zaft, Option.toList, List.cons_append, List.nil_append, Nat.add_zero]
  refine zr_invS (pc := 9) S [zI _] (m_X11_need _) kX11_machine_97 dX11_machine_9 (Nat.le_of_ble_eq_true rfl) ⟨Nat.le_of_ble_eq_true rfl, Nat.le_of_ble_eq_true rfl⟩ (us_X11_need (fun c9 => ?_) (fun c9 => zaft_thr (by omega) ⟨Nat.le_of_ble_eq_true rfl, Nat.le_of_ble_eq_true rfl⟩ (hT (fun z => b01_0.mp c9 z.1))))
  dsimp only [zaft, Option.toList, List.cons_append, List.nil_append, Nat.add_zero]
  rw [b01_0, Classical.not_not] at c9
  refine zr_iload_n (pc := 12) S dX11_machine_12 rfl ?_
  refine zr_i2l (pc := 13) S dX11_machine_13 ?_
  refine zr_lconst1 (pc := 14) S dX11_machine_14 ?_
  refine zr_ldc2 (pc := 15) S (5) dX11_machine_15 (List.mem_cons_of_mem _ (zWi_7 _ (List.mem_of_getElem? (i := 16) rfl))) (by unfold zrL; omega) ?_
  refine zr_invS (pc := 18) S [zL _, zL _, zL _] (m_X11_within _) kX11_machine_93 dX11_machine_18 (Nat.le_of_ble_eq_true rfl) ⟨Nat.le_of_ble_eq_true rfl, Nat.le_of_ble_eq_true rfl⟩ (us_X11_within ?_)
  dsimp only [zaft, Option.toList, List.cons_append, List.nil_append, Nat.add_zero]
  refine zr_invS (pc := 21) S [zI _] (m_X11_need _) kX11_machine_97 dX11_machine_21 (Nat.le_of_ble_eq_true rfl) ⟨Nat.le_of_ble_eq_true rfl, Nat.le_of_ble_eq_true rfl⟩ (us_X11_need (fun c21 => ?_) (fun c21 => zaft_thr (by omega) ⟨Nat.le_of_ble_eq_true rfl, Nat.le_of_ble_eq_true rfl⟩ (hT (fun z => b01_0.mp c21 z.2))))
  dsimp only [zaft, Option.toList, List.cons_append, List.nil_append, Nat.add_zero]
  rw [b01_0, Classical.not_not] at c21
  refine zr_aload_n (pc := 24) S dX11_machine_24 rfl ?_
  refine zr_getR (pc := 25) S fX11_machine_10 dX11_machine_25 rfl (Nat.le_of_ble_eq_true rfl) rfl ?_
  refine zr_iload_n (pc := 28) S dX11_machine_28 rfl ?_
  refine zr_iload_n (pc := 29) S dX11_machine_29 rfl ?_
  refine zr_invV (pc := 30) S [zI _, zI _] (m_X8_addMachine _) kX11_machine_385 dX11_machine_30 rfl (Nat.le_of_ble_eq_true rfl) rfl (Nat.le_of_ble_eq_true rfl) ⟨Nat.le_of_ble_eq_true rfl, Nat.le_of_ble_eq_true rfl⟩ (us_X8_addMachine h0 ?_)
  dsimp only [zaft, Option.toList, List.cons_append, List.nil_append, Nat.add_zero]
  exact zr_iret (pc := 33) S dX11_machine_33 rfl ⟨Nat.le_of_ble_eq_true rfl, Nat.le_of_ble_eq_true rfl⟩ (hQ c9 c21)
def sp_X11_coins (as : List zV) (M : zM) (Q : Option zV → zM → Prop) : Prop := ∃ (s : Int), as = [zR 0, zI s] ∧ (ICs M) ∧ ((0 ≤ s ∧ s < M 2 0) → Q (some (zL (size3 M s))) M) ∧ (¬ (0 ≤ s ∧ s < M 2 0) → Q (some (zR 3000)) M)
theorem us_X11_coins {s : Int} {M : zM} {Q : Option zV → zM → Prop} (hs : ICs M) (hQ : (0 ≤ s ∧ s < M 2 0) → Q (some (zL (size3 M s))) M) (hT : ¬ (0 ≤ s ∧ s < M 2 0) → Q (some (zR 3000)) M) : sp_X11_coins [zR 0, zI s] M Q := ⟨s, rfl, hs, hQ, hT⟩
set_option maxRecDepth 20000 in
set_option maxHeartbeats 4000000 in
theorem m_X11_coins (l : Launch) : zCx l yX11_coins wzX11_coins rmX11_coins 1 sp_X11_coins := by
  refine zMet.of RX11 (by decide +kernel) rfl rfl ?_
  intro E X as M Qp hX S hsp
  obtain ⟨s, rfl, hs, hQ, hT⟩ := hsp
  refine ⟨Nat.le_of_ble_eq_true rfl, ?_⟩
  dsimp only [zpad, zargs]
  have h8 := hs.1
  refine zr_aload_n (pc := 0) S dX11_coins_0 rfl ?_
  refine zr_iload_n (pc := 1) S dX11_coins_1 rfl ?_
  refine zr_invV (pc := 2) S [zI _] (m_X11_needSort _) kX11_coins_109 dX11_coins_2 rfl (Nat.le_of_ble_eq_true rfl) rfl (Nat.le_of_ble_eq_true rfl) ⟨Nat.le_of_ble_eq_true rfl, Nat.le_of_ble_eq_true rfl⟩ (us_X11_needSort (fun c2 => ?_) (fun c2 => zaft_thr (by omega) ⟨Nat.le_of_ble_eq_true rfl, Nat.le_of_ble_eq_true rfl⟩ (hT c2)))
  dsimp only [zaft, Option.toList, List.cons_append, List.nil_append, Nat.add_zero]
  refine zr_aload_n (pc := 5) S dX11_coins_5 rfl ?_
  refine zr_getR (pc := 6) S fX11_coins_10 dX11_coins_6 rfl (Nat.le_of_ble_eq_true rfl) rfl ?_
  refine zr_getR (pc := 9) S fX11_coins_39 dX11_coins_9 rfl (Nat.le_of_ble_eq_true rfl) rfl ?_
  refine zr_iload_n (pc := 12) S dX11_coins_12 rfl ?_
  refine zr_invV (pc := 13) S [zI _] (m_X7_size _) kX11_coins_199 dX11_coins_13 rfl (Nat.le_of_ble_eq_true rfl) rfl (Nat.le_of_ble_eq_true rfl) ⟨Nat.le_of_ble_eq_true rfl, Nat.le_of_ble_eq_true rfl⟩ (us_X7_size hs c2.1 (by omega) ?_)
  dsimp only [zaft, Option.toList, List.cons_append, List.nil_append, Nat.add_zero]
  exact zr_lret (pc := 16) S dX11_coins_16 rfl ⟨Nat.le_of_ble_eq_true rfl, Nat.le_of_ble_eq_true rfl⟩ (hQ c2)
def sp_X11_gate (as : List zV) (M : zM) (Q : Option zV → zM → Prop) : Prop := ∃ (g w : Int), as = [zR 0, zI g, zI w] ∧ (0 ≤ M 11 0 ∧ M 11 0 ≤ 8) ∧ ((0 ≤ g ∧ g < M 11 0) → (0 ≤ w ∧ w ≤ 2) → Q (some (zI (if w = 0 then M 12 g.toNat else if w = 1 then M 13 g.toNat else M 14 g.toNat))) M) ∧ (¬ (0 ≤ g ∧ g < M 11 0) → Q (some (zR 3000)) M) ∧ ((0 ≤ g ∧ g < M 11 0) → ¬ (0 ≤ w ∧ w ≤ 2) → Q (some (zR 3001)) M)
theorem us_X11_gate {g w : Int} {M : zM} {Q : Option zV → zM → Prop} (h0 : 0 ≤ M 11 0 ∧ M 11 0 ≤ 8) (hQ : (0 ≤ g ∧ g < M 11 0) → (0 ≤ w ∧ w ≤ 2) → Q (some (zI (if w = 0 then M 12 g.toNat else if w = 1 then M 13 g.toNat else M 14 g.toNat))) M) (hT : ¬ (0 ≤ g ∧ g < M 11 0) → Q (some (zR 3000)) M) (hU : (0 ≤ g ∧ g < M 11 0) → ¬ (0 ≤ w ∧ w ≤ 2) → Q (some (zR 3001)) M) : sp_X11_gate [zR 0, zI g, zI w] M Q := ⟨g, w, rfl, h0, hQ, hT, hU⟩
set_option maxRecDepth 20000 in
set_option maxHeartbeats 4000000 in
theorem m_X11_gate (l : Launch) : zCx l yX11_gate wzX11_gate rmX11_gate 2 sp_X11_gate := by
  refine zMet.of RX11 (by decide +kernel) rfl rfl ?_
  intro E X as M Qp hX S hsp
  obtain ⟨g, w, rfl, h0, hQ, hT, hU⟩ := hsp
  refine ⟨Nat.le_of_ble_eq_true rfl, ?_⟩
  dsimp only [zpad, zargs]
  refine zr_aload_n (pc := 0) S dX11_gate_0 rfl ?_
  refine zr_iload_n (pc := 1) S dX11_gate_1 rfl ?_
  refine zr_invV (pc := 2) S [zI _] (m_X11_needGate _) kX11_gate_188 dX11_gate_2 rfl (Nat.le_of_ble_eq_true rfl) rfl (Nat.le_of_ble_eq_true rfl) ⟨Nat.le_of_ble_eq_true rfl, Nat.le_of_ble_eq_true rfl⟩ (us_X11_needGate h0.1 (fun c2 => ?_) (fun c2 => zaft_thr (by omega) ⟨Nat.le_of_ble_eq_true rfl, Nat.le_of_ble_eq_true rfl⟩ (hT c2)))
  dsimp only [zaft, Option.toList, List.cons_append, List.nil_append, Nat.add_zero]
  refine zr_iload_n (pc := 5) S dX11_gate_5 rfl ?_
  refine zr_i2l (pc := 6) S dX11_gate_6 ?_
  refine zr_lconst0 (pc := 7) S dX11_gate_7 ?_
  refine zr_ldc2 (pc := 8) S (2) dX11_gate_8 (List.mem_cons_of_mem _ (zWi_7 _ (List.mem_of_getElem? (i := 7) rfl))) (by unfold zrL; omega) ?_
  refine zr_invS (pc := 11) S [zL _, zL _, zL _] (m_X11_within _) kX11_gate_93 dX11_gate_11 (Nat.le_of_ble_eq_true rfl) ⟨Nat.le_of_ble_eq_true rfl, Nat.le_of_ble_eq_true rfl⟩ (us_X11_within ?_)
  dsimp only [zaft, Option.toList, List.cons_append, List.nil_append, Nat.add_zero]
  refine zr_invS (pc := 14) S [zI _] (m_X11_need _) kX11_gate_97 dX11_gate_14 (Nat.le_of_ble_eq_true rfl) ⟨Nat.le_of_ble_eq_true rfl, Nat.le_of_ble_eq_true rfl⟩ (us_X11_need (fun c14 => ?_) (fun c14 => zaft_thr (by omega) ⟨Nat.le_of_ble_eq_true rfl, Nat.le_of_ble_eq_true rfl⟩ (hU c2 (b01_0.mp c14))))
  dsimp only [zaft, Option.toList, List.cons_append, List.nil_append, Nat.add_zero]
  rw [b01_0, Classical.not_not] at c14
  refine zr_iload_n (pc := 17) S dX11_gate_17 rfl ?_
  refine zr_if_ne (pc := 18) (tgt := 34) S dX11_gate_18 (by decide) (fun c18 => ?_) (fun c18 => ?_)
  · refine zr_iload_n (pc := 34) S dX11_gate_34 rfl ?_
    refine zr_iconst (pc := 35) S dX11_gate_35 (by unfold zrI; omega) ?_
    refine zr_icmp_ne (pc := 36) (tgt := 54) S dX11_gate_36 (by decide) (fun c36 => ?_) (fun c36 => ?_)
    · refine zr_aload_n (pc := 54) S dX11_gate_54 rfl ?_
      refine zr_getR (pc := 55) S fX11_gate_10 dX11_gate_55 rfl (Nat.le_of_ble_eq_true rfl) rfl ?_
      refine zr_getR (pc := 58) S fX11_gate_43 dX11_gate_58 rfl (Nat.le_of_ble_eq_true rfl) rfl ?_
      refine zr_getR (pc := 61) S fX11_gate_195 dX11_gate_61 rfl (Nat.le_of_ble_eq_true rfl) rfl ?_
      refine zr_iload_n (pc := 64) S dX11_gate_64 rfl ?_
      refine zr_iaload (pc := 65) S dX11_gate_65 rfl (Nat.le_of_ble_eq_true rfl) (by omega) (by omega) ?_
      exact zr_iret (pc := 66) S dX11_gate_66 rfl ⟨Nat.le_of_ble_eq_true rfl, Nat.le_of_ble_eq_true rfl⟩ (zqi (hQ c2 c14) (by first | rw [if_pos c18] | rw [if_neg c18, if_pos c36] | rw [if_neg c18, if_neg c36]))
    · refine zr_aload_n (pc := 39) S dX11_gate_39 rfl ?_
      refine zr_getR (pc := 40) S fX11_gate_10 dX11_gate_40 rfl (Nat.le_of_ble_eq_true rfl) rfl ?_
      refine zr_getR (pc := 43) S fX11_gate_43 dX11_gate_43 rfl (Nat.le_of_ble_eq_true rfl) rfl ?_
      refine zr_getR (pc := 46) S fX11_gate_194 dX11_gate_46 rfl (Nat.le_of_ble_eq_true rfl) rfl ?_
      refine zr_iload_n (pc := 49) S dX11_gate_49 rfl ?_
      refine zr_iaload (pc := 50) S dX11_gate_50 rfl (Nat.le_of_ble_eq_true rfl) (by omega) (by omega) ?_
      refine zr_goto (pc := 51) (tgt := 66) S dX11_gate_51 (by decide) ?_
      exact zr_iret (pc := 66) S dX11_gate_66 rfl ⟨Nat.le_of_ble_eq_true rfl, Nat.le_of_ble_eq_true rfl⟩ (zqi (hQ c2 c14) (by first | rw [if_pos c18] | rw [if_neg c18, if_pos c36] | rw [if_neg c18, if_neg c36]))
  · refine zr_aload_n (pc := 21) S dX11_gate_21 rfl ?_
    refine zr_getR (pc := 22) S fX11_gate_10 dX11_gate_22 rfl (Nat.le_of_ble_eq_true rfl) rfl ?_
    refine zr_getR (pc := 25) S fX11_gate_43 dX11_gate_25 rfl (Nat.le_of_ble_eq_true rfl) rfl ?_
    refine zr_getR (pc := 28) S fX11_gate_191 dX11_gate_28 rfl (Nat.le_of_ble_eq_true rfl) rfl ?_
    refine zr_iload_n (pc := 31) S dX11_gate_31 rfl ?_
    refine zr_iaload (pc := 32) S dX11_gate_32 rfl (Nat.le_of_ble_eq_true rfl) (by omega) (by omega) ?_
    exact zr_iret (pc := 33) S dX11_gate_33 rfl ⟨Nat.le_of_ble_eq_true rfl, Nat.le_of_ble_eq_true rfl⟩ (zqi (hQ c2 c14) (by first | rw [if_pos c18] | rw [if_neg c18, if_pos c36] | rw [if_neg c18, if_neg c36]))
def sp_X11_fault (as : List zV) (M : zM) (Q : Option zV → zM → Prop) : Prop := ∃ (w : Int), as = [zR 0, zI w] ∧ (Q (some (zI (if w = 0 then M 39 2 else if w = 1 then M 39 3 else -1))) M)
theorem us_X11_fault {w : Int} {M : zM} {Q : Option zV → zM → Prop} (hQ : Q (some (zI (if w = 0 then M 39 2 else if w = 1 then M 39 3 else -1))) M) : sp_X11_fault [zR 0, zI w] M Q := ⟨w, rfl, hQ⟩
set_option maxRecDepth 20000 in
set_option maxHeartbeats 4000000 in
theorem m_X11_fault (l : Launch) : zC l yX11_fault wzX11_fault rmX11_fault sp_X11_fault := by
  refine zMet.of RX11 (by decide +kernel) rfl rfl ?_
  intro E X as M Qp hX S hsp
  obtain ⟨w, rfl, hQ⟩ := hsp
  refine ⟨Nat.le_of_ble_eq_true rfl, ?_⟩
  dsimp only [zpad, zargs]
  refine zr_iload_n (pc := 0) S dX11_fault_0 rfl ?_
  refine zr_if_ne (pc := 1) (tgt := 12) S dX11_fault_1 (by decide) (fun c1 => ?_) (fun c1 => ?_)
  · refine zr_iload_n (pc := 12) S dX11_fault_12 rfl ?_
    refine zr_iconst (pc := 13) S dX11_fault_13 (by unfold zrI; omega) ?_
    refine zr_icmp_ne (pc := 14) (tgt := 27) S dX11_fault_14 (by decide) (fun c14 => ?_) (fun c14 => ?_)
    · refine zr_iconst (pc := 27) S dX11_fault_27 (by unfold zrI; omega) ?_
      exact zr_iret (pc := 28) S dX11_fault_28 rfl ⟨Nat.le_refl _, Nat.le_refl _⟩ (zqi hQ (by first | rw [if_pos c1] | rw [if_neg c1, if_pos c14] | rw [if_neg c1, if_neg c14]))
    · refine zr_aload_n (pc := 17) S dX11_fault_17 rfl ?_
      refine zr_getR (pc := 18) S fX11_fault_33 dX11_fault_18 rfl (Nat.le_of_ble_eq_true rfl) rfl ?_
      refine zr_getI (pc := 21) S fX11_fault_185 dX11_fault_21 rfl (Nat.le_of_ble_eq_true rfl) rfl ?_
      refine zr_goto (pc := 24) (tgt := 28) S dX11_fault_24 (by decide) ?_
      exact zr_iret (pc := 28) S dX11_fault_28 rfl ⟨Nat.le_refl _, Nat.le_refl _⟩ (zqi hQ (by first | rw [if_pos c1] | rw [if_neg c1, if_pos c14] | rw [if_neg c1, if_neg c14]))
  · refine zr_aload_n (pc := 4) S dX11_fault_4 rfl ?_
    refine zr_getR (pc := 5) S fX11_fault_33 dX11_fault_5 rfl (Nat.le_of_ble_eq_true rfl) rfl ?_
    refine zr_getI (pc := 8) S fX11_fault_170 dX11_fault_8 rfl (Nat.le_of_ble_eq_true rfl) rfl ?_
    exact zr_iret (pc := 11) S dX11_fault_11 rfl ⟨Nat.le_refl _, Nat.le_refl _⟩ (zqi hQ (by first | rw [if_pos c1] | rw [if_neg c1, if_pos c14] | rw [if_neg c1, if_neg c14]))
def sp_X11_credit (as : List zV) (M : zM) (Q : Option zV → zM → Prop) : Prop := ∃ (B : Int), as = [zR 0] ∧ (ICt B M) ∧ (Q (some (zI (credit M))) M)
theorem us_X11_credit {B : Int} {M : zM} {Q : Option zV → zM → Prop} (ht : ICt B M) (hQ : Q (some (zI (credit M))) M) : sp_X11_credit [zR 0] M Q := ⟨B, rfl, ht, hQ⟩
set_option maxRecDepth 20000 in
set_option maxHeartbeats 4000000 in
theorem m_X11_credit (l : Launch) : zC l yX11_credit wzX11_credit rmX11_credit sp_X11_credit := by
  refine zMet.of RX11 (by decide +kernel) rfl rfl ?_
  intro E X as M Qp hX S hsp
  obtain ⟨B, rfl, ht, hQ⟩ := hsp
  refine ⟨Nat.le_of_ble_eq_true rfl, ?_⟩
  dsimp only [zpad, zargs]
  refine zr_aload_n (pc := 0) S dX11_credit_0 rfl ?_
  refine zr_getR (pc := 1) S fX11_credit_10 dX11_credit_1 rfl (Nat.le_of_ble_eq_true rfl) rfl ?_
  refine zr_getR (pc := 4) S fX11_credit_255 dX11_credit_4 rfl (Nat.le_of_ble_eq_true rfl) rfl ?_
  refine zr_invV (pc := 7) S [] (m_X9_allCredit _) kX11_credit_288 dX11_credit_7 rfl (Nat.le_of_ble_eq_true rfl) rfl (Nat.le_of_ble_eq_true rfl) ⟨Nat.le_of_ble_eq_true rfl, Nat.le_of_ble_eq_true rfl⟩ (us_X9_allCredit ht ?_)
  dsimp only [zaft, Option.toList, List.cons_append, List.nil_append, Nat.add_zero]
  exact zr_iret (pc := 10) S dX11_credit_10 rfl ⟨Nat.le_refl _, Nat.le_refl _⟩ (hQ)
def sp_X11_given (as : List zV) (M : zM) (Q : Option zV → zM → Prop) : Prop := ∃ (i : Int), as = [zR 0, zI i] ∧ (0 ≤ M 17 11 ∧ M 17 11 ≤ 160) ∧ (Q (some (zI (if 0 ≤ i ∧ i < M 17 11 then M 28 i.toNat else -1))) M)
theorem us_X11_given {i : Int} {M : zM} {Q : Option zV → zM → Prop} (h0 : 0 ≤ M 17 11 ∧ M 17 11 ≤ 160) (hQ : Q (some (zI (if 0 ≤ i ∧ i < M 17 11 then M 28 i.toNat else -1))) M) : sp_X11_given [zR 0, zI i] M Q := ⟨i, rfl, h0, hQ⟩
set_option maxRecDepth 20000 in
set_option maxHeartbeats 4000000 in
theorem m_X11_given (l : Launch) : zC l yX11_given wzX11_given rmX11_given sp_X11_given := by
  refine zMet.of RX11 (by decide +kernel) rfl rfl ?_
  intro E X as M Qp hX S hsp
  obtain ⟨i, rfl, h0, hQ⟩ := hsp
  refine ⟨Nat.le_of_ble_eq_true rfl, ?_⟩
  dsimp only [zpad, zargs]
  refine zr_iload_n (pc := 0) S dX11_given_0 rfl ?_
  refine zr_i2l (pc := 1) S dX11_given_1 ?_
  refine zr_lconst0 (pc := 2) S dX11_given_2 ?_
  refine zr_aload_n (pc := 3) S dX11_given_3 rfl ?_
  refine zr_getR (pc := 4) S fX11_given_10 dX11_given_4 rfl (Nat.le_of_ble_eq_true rfl) rfl ?_
  refine zr_getR (pc := 7) S fX11_given_255 dX11_given_7 rfl (Nat.le_of_ble_eq_true rfl) rfl ?_
  refine zr_getI (pc := 10) S fX11_given_299 dX11_given_10 rfl (Nat.le_of_ble_eq_true rfl) rfl ?_
  refine zr_iconst (pc := 13) S dX11_given_13 (by unfold zrI; omega) ?_
  refine zr_isub' (pc := 14) S dX11_given_14 (fun hx _ => by unfold zrI at *; omega) ?_
  refine zr_i2l (pc := 15) S dX11_given_15 ?_
  refine zr_invS (pc := 16) S [zL _, zL _, zL _] (m_X11_within _) kX11_given_93 dX11_given_16 (Nat.le_of_ble_eq_true rfl) ⟨Nat.le_of_ble_eq_true rfl, Nat.le_of_ble_eq_true rfl⟩ (us_X11_within ?_)
  dsimp only [zaft, Option.toList, List.cons_append, List.nil_append, Nat.add_zero]
  refine zr_if_eq (pc := 19) (tgt := 37) S dX11_given_19 (by decide) (fun c19 => ?_) (fun c19 => ?_)
  · rw [b01_0] at c19
    refine zr_iconst (pc := 37) S dX11_given_37 (by unfold zrI; omega) ?_
    exact zr_iret (pc := 38) S dX11_given_38 rfl ⟨Nat.le_refl _, Nat.le_refl _⟩ (zqi hQ (by first | rw [if_pos (by omega)] | rw [if_neg (by omega)]))
  · rw [b01_0, Classical.not_not] at c19
    refine zr_aload_n (pc := 22) S dX11_given_22 rfl ?_
    refine zr_getR (pc := 23) S fX11_given_10 dX11_given_23 rfl (Nat.le_of_ble_eq_true rfl) rfl ?_
    refine zr_getR (pc := 26) S fX11_given_255 dX11_given_26 rfl (Nat.le_of_ble_eq_true rfl) rfl ?_
    refine zr_getR (pc := 29) S fX11_given_316 dX11_given_29 rfl (Nat.le_of_ble_eq_true rfl) rfl ?_
    refine zr_iload_n (pc := 32) S dX11_given_32 rfl ?_
    refine zr_iaload (pc := 33) S dX11_given_33 rfl (Nat.le_of_ble_eq_true rfl) (by omega) (by omega) ?_
    refine zr_goto (pc := 34) (tgt := 38) S dX11_given_34 (by decide) ?_
    exact zr_iret (pc := 38) S dX11_given_38 rfl ⟨Nat.le_refl _, Nat.le_refl _⟩ (zqi hQ (by first | rw [if_pos (by omega)] | rw [if_neg (by omega)]))
def sp_X11_tube (as : List zV) (M : zM) (Q : Option zV → zM → Prop) : Prop := ∃ (B t w : Int), as = [zR 0, zI t, zI w] ∧ (M 2 0 ≤ 8) ∧ (ICt B M) ∧ ((0 ≤ t ∧ t < M 2 0) → (0 ≤ w ∧ w ≤ 2) → Q (some (zI (if w = 0 then M 19 t.toNat else if w = 1 then M 19 t.toNat - coinsIn M t t else topOf M t))) M) ∧ (¬ (0 ≤ t ∧ t < M 2 0) → Q (some (zR 3000)) M) ∧ ((0 ≤ t ∧ t < M 2 0) → ¬ (0 ≤ w ∧ w ≤ 2) → Q (some (zR 3001)) M)
theorem us_X11_tube {B t w : Int} {M : zM} {Q : Option zV → zM → Prop} (hs : M 2 0 ≤ 8) (ht : ICt B M) (hQ : (0 ≤ t ∧ t < M 2 0) → (0 ≤ w ∧ w ≤ 2) → Q (some (zI (if w = 0 then M 19 t.toNat else if w = 1 then M 19 t.toNat - coinsIn M t t else topOf M t))) M) (hT : ¬ (0 ≤ t ∧ t < M 2 0) → Q (some (zR 3000)) M) (hU : (0 ≤ t ∧ t < M 2 0) → ¬ (0 ≤ w ∧ w ≤ 2) → Q (some (zR 3001)) M) : sp_X11_tube [zR 0, zI t, zI w] M Q := ⟨B, t, w, rfl, hs, ht, hQ, hT, hU⟩
set_option maxRecDepth 20000 in
set_option maxHeartbeats 4000000 in
theorem m_X11_tube (l : Launch) : zCx l yX11_tube wzX11_tube rmX11_tube 2 sp_X11_tube := by
  refine zMet.of RX11 (by decide +kernel) rfl rfl ?_
  intro E X as M Qp hX S hsp
  obtain ⟨B, t, w, rfl, hs, ht, hQ, hT, hU⟩ := hsp
  refine ⟨Nat.le_of_ble_eq_true rfl, ?_⟩
  dsimp only [zpad, zargs]
  refine zr_aload_n (pc := 0) S dX11_tube_0 rfl ?_
  refine zr_iload_n (pc := 1) S dX11_tube_1 rfl ?_
  refine zr_invV (pc := 2) S [zI _] (m_X11_needSort _) kX11_tube_109 dX11_tube_2 rfl (Nat.le_of_ble_eq_true rfl) rfl (Nat.le_of_ble_eq_true rfl) ⟨Nat.le_of_ble_eq_true rfl, Nat.le_of_ble_eq_true rfl⟩ (us_X11_needSort (fun c2 => ?_) (fun c2 => zaft_thr (by omega) ⟨Nat.le_of_ble_eq_true rfl, Nat.le_of_ble_eq_true rfl⟩ (hT c2)))
  dsimp only [zaft, Option.toList, List.cons_append, List.nil_append, Nat.add_zero]
  refine zr_iload_n (pc := 5) S dX11_tube_5 rfl ?_
  refine zr_i2l (pc := 6) S dX11_tube_6 ?_
  refine zr_lconst0 (pc := 7) S dX11_tube_7 ?_
  refine zr_ldc2 (pc := 8) S (2) dX11_tube_8 (List.mem_cons_of_mem _ (zWi_7 _ (List.mem_of_getElem? (i := 7) rfl))) (by unfold zrL; omega) ?_
  refine zr_invS (pc := 11) S [zL _, zL _, zL _] (m_X11_within _) kX11_tube_93 dX11_tube_11 (Nat.le_of_ble_eq_true rfl) ⟨Nat.le_of_ble_eq_true rfl, Nat.le_of_ble_eq_true rfl⟩ (us_X11_within ?_)
  dsimp only [zaft, Option.toList, List.cons_append, List.nil_append, Nat.add_zero]
  refine zr_invS (pc := 14) S [zI _] (m_X11_need _) kX11_tube_97 dX11_tube_14 (Nat.le_of_ble_eq_true rfl) ⟨Nat.le_of_ble_eq_true rfl, Nat.le_of_ble_eq_true rfl⟩ (us_X11_need (fun c14 => ?_) (fun c14 => zaft_thr (by omega) ⟨Nat.le_of_ble_eq_true rfl, Nat.le_of_ble_eq_true rfl⟩ (hU c2 (b01_0.mp c14))))
  dsimp only [zaft, Option.toList, List.cons_append, List.nil_append, Nat.add_zero]
  rw [b01_0, Classical.not_not] at c14
  refine zr_iload_n (pc := 17) S dX11_tube_17 rfl ?_
  refine zr_if_ne (pc := 18) (tgt := 34) S dX11_tube_18 (by decide) (fun c18 => ?_) (fun c18 => ?_)
  · refine zr_iload_n (pc := 34) S dX11_tube_34 rfl ?_
    refine zr_iconst (pc := 35) S dX11_tube_35 (by unfold zrI; omega) ?_
    refine zr_icmp_ne (pc := 36) (tgt := 53) S dX11_tube_36 (by decide) (fun c36 => ?_) (fun c36 => ?_)
    · refine zr_aload_n (pc := 53) S dX11_tube_53 rfl ?_
      refine zr_getR (pc := 54) S fX11_tube_10 dX11_tube_54 rfl (Nat.le_of_ble_eq_true rfl) rfl ?_
      refine zr_getR (pc := 57) S fX11_tube_255 dX11_tube_57 rfl (Nat.le_of_ble_eq_true rfl) rfl ?_
      refine zr_iload_n (pc := 60) S dX11_tube_60 rfl ?_
      refine zr_invV (pc := 61) S [zI _] (m_X9_top _) kX11_tube_322 dX11_tube_61 rfl (Nat.le_of_ble_eq_true rfl) rfl (Nat.le_of_ble_eq_true rfl) ⟨Nat.le_of_ble_eq_true rfl, Nat.le_of_ble_eq_true rfl⟩ (us_X9_top ht c2.1 (by omega) ?_)
      dsimp only [zaft, Option.toList, List.cons_append, List.nil_append, Nat.add_zero]
      exact zr_iret (pc := 64) S dX11_tube_64 rfl ⟨Nat.le_of_ble_eq_true rfl, Nat.le_of_ble_eq_true rfl⟩ (zqi (hQ c2 c14) (by first | rw [if_pos c18] | rw [if_neg c18, if_pos c36] | rw [if_neg c18, if_neg c36]))
    · refine zr_aload_n (pc := 39) S dX11_tube_39 rfl ?_
      refine zr_getR (pc := 40) S fX11_tube_10 dX11_tube_40 rfl (Nat.le_of_ble_eq_true rfl) rfl ?_
      refine zr_getR (pc := 43) S fX11_tube_255 dX11_tube_43 rfl (Nat.le_of_ble_eq_true rfl) rfl ?_
      refine zr_iload_n (pc := 46) S dX11_tube_46 rfl ?_
      refine zr_invV (pc := 47) S [zI _] (m_X9_strangers _) kX11_tube_319 dX11_tube_47 rfl (Nat.le_of_ble_eq_true rfl) rfl (Nat.le_of_ble_eq_true rfl) ⟨Nat.le_of_ble_eq_true rfl, Nat.le_of_ble_eq_true rfl⟩ (us_X9_strangers ht c2.1 (by omega) ?_)
      dsimp only [zaft, Option.toList, List.cons_append, List.nil_append, Nat.add_zero]
      refine zr_goto (pc := 50) (tgt := 64) S dX11_tube_50 (by decide) ?_
      exact zr_iret (pc := 64) S dX11_tube_64 rfl ⟨Nat.le_of_ble_eq_true rfl, Nat.le_of_ble_eq_true rfl⟩ (zqi (hQ c2 c14) (by first | rw [if_pos c18] | rw [if_neg c18, if_pos c36] | rw [if_neg c18, if_neg c36]))
  · refine zr_aload_n (pc := 21) S dX11_tube_21 rfl ?_
    refine zr_getR (pc := 22) S fX11_tube_10 dX11_tube_22 rfl (Nat.le_of_ble_eq_true rfl) rfl ?_
    refine zr_getR (pc := 25) S fX11_tube_255 dX11_tube_25 rfl (Nat.le_of_ble_eq_true rfl) rfl ?_
    refine zr_getR (pc := 28) S fX11_tube_268 dX11_tube_28 rfl (Nat.le_of_ble_eq_true rfl) rfl ?_
    refine zr_iload_n (pc := 31) S dX11_tube_31 rfl ?_
    refine zr_iaload (pc := 32) S dX11_tube_32 rfl (Nat.le_of_ble_eq_true rfl) (by omega) (by omega) ?_
    exact zr_iret (pc := 33) S dX11_tube_33 rfl ⟨Nat.le_of_ble_eq_true rfl, Nat.le_of_ble_eq_true rfl⟩ (zqi (hQ c2 c14) (by first | rw [if_pos c18] | rw [if_neg c18, if_pos c36] | rw [if_neg c18, if_neg c36]))
def sp_X11_wheel (as : List zV) (M : zM) (Q : Option zV → zM → Prop) : Prop := ∃ (B s w : Int), as = [zR 0, zI s, zI w] ∧ (M 2 0 ≤ 8) ∧ (ICt B M) ∧ (B ≤ 1000000) ∧ ((0 ≤ s ∧ s < M 2 0) → (0 ≤ w ∧ w ≤ 3) → Q (some (zI (if w = 0 then M 22 s.toNat else if w = 1 then M 21 s.toNat + M 22 s.toNat else if w = 2 then there M s else odd M s))) M) ∧ (¬ (0 ≤ s ∧ s < M 2 0) → Q (some (zR 3000)) M) ∧ ((0 ≤ s ∧ s < M 2 0) → ¬ (0 ≤ w ∧ w ≤ 3) → Q (some (zR 3001)) M)
theorem us_X11_wheel {B s w : Int} {M : zM} {Q : Option zV → zM → Prop} (hs : M 2 0 ≤ 8) (ht : ICt B M) (hB : B ≤ 1000000) (hQ : (0 ≤ s ∧ s < M 2 0) → (0 ≤ w ∧ w ≤ 3) → Q (some (zI (if w = 0 then M 22 s.toNat else if w = 1 then M 21 s.toNat + M 22 s.toNat else if w = 2 then there M s else odd M s))) M) (hT : ¬ (0 ≤ s ∧ s < M 2 0) → Q (some (zR 3000)) M) (hU : (0 ≤ s ∧ s < M 2 0) → ¬ (0 ≤ w ∧ w ≤ 3) → Q (some (zR 3001)) M) : sp_X11_wheel [zR 0, zI s, zI w] M Q := ⟨B, s, w, rfl, hs, ht, hB, hQ, hT, hU⟩
set_option maxRecDepth 20000 in
set_option maxHeartbeats 4000000 in
theorem m_X11_wheel (l : Launch) : zCx l yX11_wheel wzX11_wheel rmX11_wheel 2 sp_X11_wheel := by
  refine zMet.of RX11 (by decide +kernel) rfl rfl ?_
  intro E X as M Qp hX S hsp
  obtain ⟨B, s, w, rfl, hs, ht, hB, hQ, hT, hU⟩ := hsp
  refine ⟨Nat.le_of_ble_eq_true rfl, ?_⟩
  dsimp only [zpad, zargs]
  refine zr_aload_n (pc := 0) S dX11_wheel_0 rfl ?_
  refine zr_iload_n (pc := 1) S dX11_wheel_1 rfl ?_
  refine zr_invV (pc := 2) S [zI _] (m_X11_needSort _) kX11_wheel_109 dX11_wheel_2 rfl (Nat.le_of_ble_eq_true rfl) rfl (Nat.le_of_ble_eq_true rfl) ⟨Nat.le_of_ble_eq_true rfl, Nat.le_of_ble_eq_true rfl⟩ (us_X11_needSort (fun c2 => ?_) (fun c2 => zaft_thr (by omega) ⟨Nat.le_of_ble_eq_true rfl, Nat.le_of_ble_eq_true rfl⟩ (hT c2)))
  dsimp only [zaft, Option.toList, List.cons_append, List.nil_append, Nat.add_zero]
  refine zr_iload_n (pc := 5) S dX11_wheel_5 rfl ?_
  refine zr_i2l (pc := 6) S dX11_wheel_6 ?_
  refine zr_lconst0 (pc := 7) S dX11_wheel_7 ?_
  refine zr_ldc2 (pc := 8) S (3) dX11_wheel_8 (List.mem_cons_of_mem _ (zWi_7 _ (List.mem_of_getElem? (i := 11) rfl))) (by unfold zrL; omega) ?_
  refine zr_invS (pc := 11) S [zL _, zL _, zL _] (m_X11_within _) kX11_wheel_93 dX11_wheel_11 (Nat.le_of_ble_eq_true rfl) ⟨Nat.le_of_ble_eq_true rfl, Nat.le_of_ble_eq_true rfl⟩ (us_X11_within ?_)
  dsimp only [zaft, Option.toList, List.cons_append, List.nil_append, Nat.add_zero]
  refine zr_invS (pc := 14) S [zI _] (m_X11_need _) kX11_wheel_97 dX11_wheel_14 (Nat.le_of_ble_eq_true rfl) ⟨Nat.le_of_ble_eq_true rfl, Nat.le_of_ble_eq_true rfl⟩ (us_X11_need (fun c14 => ?_) (fun c14 => zaft_thr (by omega) ⟨Nat.le_of_ble_eq_true rfl, Nat.le_of_ble_eq_true rfl⟩ (hU c2 (b01_0.mp c14))))
  dsimp only [zaft, Option.toList, List.cons_append, List.nil_append, Nat.add_zero]
  rw [b01_0, Classical.not_not] at c14
  refine zr_iload_n (pc := 17) S dX11_wheel_17 rfl ?_
  by_cases w18_0 : w = 0
  · refine zr_tswIn (pc := 18) (tgt := 44) (off := 26) S dX11_wheel_18 (by omega) (by omega) (by rw [w18_0]; rfl) (by decide) ?_
    refine zr_aload_n (pc := 44) S dX11_wheel_44 rfl ?_
    refine zr_getR (pc := 45) S fX11_wheel_10 dX11_wheel_45 rfl (Nat.le_of_ble_eq_true rfl) rfl ?_
    refine zr_getR (pc := 48) S fX11_wheel_255 dX11_wheel_48 rfl (Nat.le_of_ble_eq_true rfl) rfl ?_
    refine zr_getR (pc := 51) S fX11_wheel_340 dX11_wheel_51 rfl (Nat.le_of_ble_eq_true rfl) rfl ?_
    refine zr_iload_n (pc := 54) S dX11_wheel_54 rfl ?_
    refine zr_iaload (pc := 55) S dX11_wheel_55 rfl (Nat.le_of_ble_eq_true rfl) (by omega) (by omega) ?_
    exact zr_iret (pc := 56) S dX11_wheel_56 rfl ⟨Nat.le_of_ble_eq_true rfl, Nat.le_of_ble_eq_true rfl⟩ (zqi (hQ c2 c14) (by first | rw [if_pos w18_0] | rw [if_neg w18_0, if_pos w18_1] | rw [if_neg w18_0, if_neg w18_1, if_pos w18_2] | rw [if_neg w18_0, if_neg w18_1, if_neg w18_2]))
  by_cases w18_1 : w = 1
  · refine zr_tswIn (pc := 18) (tgt := 57) (off := 39) S dX11_wheel_18 (by omega) (by omega) (by rw [w18_1]; rfl) (by decide) ?_
    refine zr_aload_n (pc := 57) S dX11_wheel_57 rfl ?_
    refine zr_getR (pc := 58) S fX11_wheel_10 dX11_wheel_58 rfl (Nat.le_of_ble_eq_true rfl) rfl ?_
    refine zr_getR (pc := 61) S fX11_wheel_255 dX11_wheel_61 rfl (Nat.le_of_ble_eq_true rfl) rfl ?_
    refine zr_iload_n (pc := 64) S dX11_wheel_64 rfl ?_
    refine zr_invV (pc := 65) S [zI _] (m_X9_due _) kX11_wheel_343 dX11_wheel_65 rfl (Nat.le_of_ble_eq_true rfl) rfl (Nat.le_of_ble_eq_true rfl) ⟨Nat.le_of_ble_eq_true rfl, Nat.le_of_ble_eq_true rfl⟩ (us_X9_due ht hB c2.1 (by omega) ?_)
    dsimp only [zaft, Option.toList, List.cons_append, List.nil_append, Nat.add_zero]
    exact zr_iret (pc := 68) S dX11_wheel_68 rfl ⟨Nat.le_of_ble_eq_true rfl, Nat.le_of_ble_eq_true rfl⟩ (zqi (hQ c2 c14) (by first | rw [if_pos w18_0] | rw [if_neg w18_0, if_pos w18_1] | rw [if_neg w18_0, if_neg w18_1, if_pos w18_2] | rw [if_neg w18_0, if_neg w18_1, if_neg w18_2]))
  by_cases w18_2 : w = 2
  · refine zr_tswIn (pc := 18) (tgt := 69) (off := 51) S dX11_wheel_18 (by omega) (by omega) (by rw [w18_2]; rfl) (by decide) ?_
    refine zr_aload_n (pc := 69) S dX11_wheel_69 rfl ?_
    refine zr_getR (pc := 70) S fX11_wheel_10 dX11_wheel_70 rfl (Nat.le_of_ble_eq_true rfl) rfl ?_
    refine zr_getR (pc := 73) S fX11_wheel_255 dX11_wheel_73 rfl (Nat.le_of_ble_eq_true rfl) rfl ?_
    refine zr_iload_n (pc := 76) S dX11_wheel_76 rfl ?_
    refine zr_invV (pc := 77) S [zI _] (m_X9_there _) kX11_wheel_346 dX11_wheel_77 rfl (Nat.le_of_ble_eq_true rfl) rfl (Nat.le_of_ble_eq_true rfl) ⟨Nat.le_of_ble_eq_true rfl, Nat.le_of_ble_eq_true rfl⟩ (us_X9_there ht hB c2.1 (by omega) ?_)
    dsimp only [zaft, Option.toList, List.cons_append, List.nil_append, Nat.add_zero]
    exact zr_iret (pc := 80) S dX11_wheel_80 rfl ⟨Nat.le_of_ble_eq_true rfl, Nat.le_of_ble_eq_true rfl⟩ (zqi (hQ c2 c14) (by first | rw [if_pos w18_0] | rw [if_neg w18_0, if_pos w18_1] | rw [if_neg w18_0, if_neg w18_1, if_pos w18_2] | rw [if_neg w18_0, if_neg w18_1, if_neg w18_2]))
  refine zr_tswOut (pc := 18) (tgt := 81) S dX11_wheel_18 (by omega) (by decide) ?_
  refine zr_aload_n (pc := 81) S dX11_wheel_81 rfl ?_
  refine zr_getR (pc := 82) S fX11_wheel_10 dX11_wheel_82 rfl (Nat.le_of_ble_eq_true rfl) rfl ?_
  refine zr_getR (pc := 85) S fX11_wheel_255 dX11_wheel_85 rfl (Nat.le_of_ble_eq_true rfl) rfl ?_
  refine zr_iload_n (pc := 88) S dX11_wheel_88 rfl ?_
  refine zr_invV (pc := 89) S [zI _] (m_X9_odd _) kX11_wheel_349 dX11_wheel_89 rfl (Nat.le_of_ble_eq_true rfl) rfl (Nat.le_of_ble_eq_true rfl) ⟨Nat.le_of_ble_eq_true rfl, Nat.le_of_ble_eq_true rfl⟩ (us_X9_odd ht hB c2.1 (by omega) ?_)
  dsimp only [zaft, Option.toList, List.cons_append, List.nil_append, Nat.add_zero]
  exact zr_iret (pc := 92) S dX11_wheel_92 rfl ⟨Nat.le_of_ble_eq_true rfl, Nat.le_of_ble_eq_true rfl⟩ (zqi (hQ c2 c14) (by first | rw [if_pos w18_0] | rw [if_neg w18_0, if_pos w18_1] | rw [if_neg w18_0, if_neg w18_1, if_pos w18_2] | rw [if_neg w18_0, if_neg w18_1, if_neg w18_2]))
/-- what count tells -/
def cntOf (M : zM) (w : Int) : Int := if w = 0 then M 2 0 else if w = 1 then M 11 0 else if w = 2 then M 1 3 else if w = 3 then M 17 6 else if w = 4 then M 1 5 else if w = 5 then M 1 10 else if w = 6 then M 39 1 else if w = 7 then M 17 11 else -1
def sp_X11_count (as : List zV) (M : zM) (Q : Option zV → zM → Prop) : Prop := ∃ (w : Int), as = [zR 0, zI w] ∧ (Q (some (zI (cntOf M w))) M)
theorem us_X11_count {w : Int} {M : zM} {Q : Option zV → zM → Prop} (hQ : Q (some (zI (cntOf M w))) M) : sp_X11_count [zR 0, zI w] M Q := ⟨w, rfl, hQ⟩
set_option maxRecDepth 20000 in
set_option maxHeartbeats 4000000 in
theorem m_X11_count (l : Launch) : zC l yX11_count wzX11_count rmX11_count sp_X11_count := by
  refine zMet.of RX11 (by decide +kernel) rfl rfl ?_
  intro E X as M Qp hX S hsp
  obtain ⟨w, rfl, hQ⟩ := hsp
  refine ⟨Nat.le_of_ble_eq_true rfl, ?_⟩
  dsimp only [zpad, zargs]
  refine zr_iload_n (pc := 0) S dX11_count_0 rfl ?_
  by_cases w1_0 : w = 0
  · refine zr_tswIn (pc := 1) (tgt := 48) (off := 47) S dX11_count_1 (by omega) (by omega) (by rw [w1_0]; rfl) (by decide) ?_
    refine zr_aload_n (pc := 48) S dX11_count_48 rfl ?_
    refine zr_getR (pc := 49) S fX11_count_10 dX11_count_49 rfl (Nat.le_of_ble_eq_true rfl) rfl ?_
    refine zr_getR (pc := 52) S fX11_count_39 dX11_count_52 rfl (Nat.le_of_ble_eq_true rfl) rfl ?_
    refine zr_getI (pc := 55) S fX11_count_302 dX11_count_55 rfl (Nat.le_of_ble_eq_true rfl) rfl ?_
    exact zr_iret (pc := 58) S dX11_count_58 rfl ⟨Nat.le_refl _, Nat.le_refl _⟩ (zqi hQ (by unfold cntOf; first | (subst w1_0; rfl) | (subst w1_1; rfl) | (subst w1_2; rfl) | (subst w1_3; rfl) | (subst w1_4; rfl) | (subst w1_5; rfl) | (subst w1_6; rfl) | (subst w1_7; rfl) | rw [if_neg w1_0, if_neg w1_1, if_neg w1_2, if_neg w1_3, if_neg w1_4, if_neg w1_5, if_neg w1_6, if_neg w1_7]))
  by_cases w1_1 : w = 1
  · refine zr_tswIn (pc := 1) (tgt := 59) (off := 58) S dX11_count_1 (by omega) (by omega) (by rw [w1_1]; rfl) (by decide) ?_
    refine zr_aload_n (pc := 59) S dX11_count_59 rfl ?_
    refine zr_getR (pc := 60) S fX11_count_10 dX11_count_60 rfl (Nat.le_of_ble_eq_true rfl) rfl ?_
    refine zr_getR (pc := 63) S fX11_count_43 dX11_count_63 rfl (Nat.le_of_ble_eq_true rfl) rfl ?_
    refine zr_getI (pc := 66) S fX11_count_182 dX11_count_66 rfl (Nat.le_of_ble_eq_true rfl) rfl ?_
    exact zr_iret (pc := 69) S dX11_count_69 rfl ⟨Nat.le_refl _, Nat.le_refl _⟩ (zqi hQ (by unfold cntOf; first | (subst w1_0; rfl) | (subst w1_1; rfl) | (subst w1_2; rfl) | (subst w1_3; rfl) | (subst w1_4; rfl) | (subst w1_5; rfl) | (subst w1_6; rfl) | (subst w1_7; rfl) | rw [if_neg w1_0, if_neg w1_1, if_neg w1_2, if_neg w1_3, if_neg w1_4, if_neg w1_5, if_neg w1_6, if_neg w1_7]))
  by_cases w1_2 : w = 2
  · refine zr_tswIn (pc := 1) (tgt := 70) (off := 69) S dX11_count_1 (by omega) (by omega) (by rw [w1_2]; rfl) (by decide) ?_
    refine zr_aload_n (pc := 70) S dX11_count_70 rfl ?_
    refine zr_getR (pc := 71) S fX11_count_10 dX11_count_71 rfl (Nat.le_of_ble_eq_true rfl) rfl ?_
    refine zr_getI (pc := 74) S fX11_count_431 dX11_count_74 rfl (Nat.le_of_ble_eq_true rfl) rfl ?_
    exact zr_iret (pc := 77) S dX11_count_77 rfl ⟨Nat.le_refl _, Nat.le_refl _⟩ (zqi hQ (by unfold cntOf; first | (subst w1_0; rfl) | (subst w1_1; rfl) | (subst w1_2; rfl) | (subst w1_3; rfl) | (subst w1_4; rfl) | (subst w1_5; rfl) | (subst w1_6; rfl) | (subst w1_7; rfl) | rw [if_neg w1_0, if_neg w1_1, if_neg w1_2, if_neg w1_3, if_neg w1_4, if_neg w1_5, if_neg w1_6, if_neg w1_7]))
  by_cases w1_3 : w = 3
  · refine zr_tswIn (pc := 1) (tgt := 78) (off := 77) S dX11_count_1 (by omega) (by omega) (by rw [w1_3]; rfl) (by decide) ?_
    refine zr_aload_n (pc := 78) S dX11_count_78 rfl ?_
    refine zr_getR (pc := 79) S fX11_count_10 dX11_count_79 rfl (Nat.le_of_ble_eq_true rfl) rfl ?_
    refine zr_getR (pc := 82) S fX11_count_255 dX11_count_82 rfl (Nat.le_of_ble_eq_true rfl) rfl ?_
    refine zr_getI (pc := 85) S fX11_count_278 dX11_count_85 rfl (Nat.le_of_ble_eq_true rfl) rfl ?_
    exact zr_iret (pc := 88) S dX11_count_88 rfl ⟨Nat.le_refl _, Nat.le_refl _⟩ (zqi hQ (by unfold cntOf; first | (subst w1_0; rfl) | (subst w1_1; rfl) | (subst w1_2; rfl) | (subst w1_3; rfl) | (subst w1_4; rfl) | (subst w1_5; rfl) | (subst w1_6; rfl) | (subst w1_7; rfl) | rw [if_neg w1_0, if_neg w1_1, if_neg w1_2, if_neg w1_3, if_neg w1_4, if_neg w1_5, if_neg w1_6, if_neg w1_7]))
  by_cases w1_4 : w = 4
  · refine zr_tswIn (pc := 1) (tgt := 89) (off := 88) S dX11_count_1 (by omega) (by omega) (by rw [w1_4]; rfl) (by decide) ?_
    refine zr_aload_n (pc := 89) S dX11_count_89 rfl ?_
    refine zr_getR (pc := 90) S fX11_count_10 dX11_count_90 rfl (Nat.le_of_ble_eq_true rfl) rfl ?_
    refine zr_getI (pc := 93) S fX11_count_377 dX11_count_93 rfl (Nat.le_of_ble_eq_true rfl) rfl ?_
    exact zr_iret (pc := 96) S dX11_count_96 rfl ⟨Nat.le_refl _, Nat.le_refl _⟩ (zqi hQ (by unfold cntOf; first | (subst w1_0; rfl) | (subst w1_1; rfl) | (subst w1_2; rfl) | (subst w1_3; rfl) | (subst w1_4; rfl) | (subst w1_5; rfl) | (subst w1_6; rfl) | (subst w1_7; rfl) | rw [if_neg w1_0, if_neg w1_1, if_neg w1_2, if_neg w1_3, if_neg w1_4, if_neg w1_5, if_neg w1_6, if_neg w1_7]))
  by_cases w1_5 : w = 5
  · refine zr_tswIn (pc := 1) (tgt := 97) (off := 96) S dX11_count_1 (by omega) (by omega) (by rw [w1_5]; rfl) (by decide) ?_
    refine zr_aload_n (pc := 97) S dX11_count_97 rfl ?_
    refine zr_getR (pc := 98) S fX11_count_10 dX11_count_98 rfl (Nat.le_of_ble_eq_true rfl) rfl ?_
    refine zr_getI (pc := 101) S fX11_count_390 dX11_count_101 rfl (Nat.le_of_ble_eq_true rfl) rfl ?_
    exact zr_iret (pc := 104) S dX11_count_104 rfl ⟨Nat.le_refl _, Nat.le_refl _⟩ (zqi hQ (by unfold cntOf; first | (subst w1_0; rfl) | (subst w1_1; rfl) | (subst w1_2; rfl) | (subst w1_3; rfl) | (subst w1_4; rfl) | (subst w1_5; rfl) | (subst w1_6; rfl) | (subst w1_7; rfl) | rw [if_neg w1_0, if_neg w1_1, if_neg w1_2, if_neg w1_3, if_neg w1_4, if_neg w1_5, if_neg w1_6, if_neg w1_7]))
  by_cases w1_6 : w = 6
  · refine zr_tswIn (pc := 1) (tgt := 105) (off := 104) S dX11_count_1 (by omega) (by omega) (by rw [w1_6]; rfl) (by decide) ?_
    refine zr_aload_n (pc := 105) S dX11_count_105 rfl ?_
    refine zr_getR (pc := 106) S fX11_count_33 dX11_count_106 rfl (Nat.le_of_ble_eq_true rfl) rfl ?_
    refine zr_getI (pc := 109) S fX11_count_163 dX11_count_109 rfl (Nat.le_of_ble_eq_true rfl) rfl ?_
    exact zr_iret (pc := 112) S dX11_count_112 rfl ⟨Nat.le_refl _, Nat.le_refl _⟩ (zqi hQ (by unfold cntOf; first | (subst w1_0; rfl) | (subst w1_1; rfl) | (subst w1_2; rfl) | (subst w1_3; rfl) | (subst w1_4; rfl) | (subst w1_5; rfl) | (subst w1_6; rfl) | (subst w1_7; rfl) | rw [if_neg w1_0, if_neg w1_1, if_neg w1_2, if_neg w1_3, if_neg w1_4, if_neg w1_5, if_neg w1_6, if_neg w1_7]))
  by_cases w1_7 : w = 7
  · refine zr_tswIn (pc := 1) (tgt := 113) (off := 112) S dX11_count_1 (by omega) (by omega) (by rw [w1_7]; rfl) (by decide) ?_
    refine zr_aload_n (pc := 113) S dX11_count_113 rfl ?_
    refine zr_getR (pc := 114) S fX11_count_10 dX11_count_114 rfl (Nat.le_of_ble_eq_true rfl) rfl ?_
    refine zr_getR (pc := 117) S fX11_count_255 dX11_count_117 rfl (Nat.le_of_ble_eq_true rfl) rfl ?_
    refine zr_getI (pc := 120) S fX11_count_299 dX11_count_120 rfl (Nat.le_of_ble_eq_true rfl) rfl ?_
    exact zr_iret (pc := 123) S dX11_count_123 rfl ⟨Nat.le_refl _, Nat.le_refl _⟩ (zqi hQ (by unfold cntOf; first | (subst w1_0; rfl) | (subst w1_1; rfl) | (subst w1_2; rfl) | (subst w1_3; rfl) | (subst w1_4; rfl) | (subst w1_5; rfl) | (subst w1_6; rfl) | (subst w1_7; rfl) | rw [if_neg w1_0, if_neg w1_1, if_neg w1_2, if_neg w1_3, if_neg w1_4, if_neg w1_5, if_neg w1_6, if_neg w1_7]))
  refine zr_tswOut (pc := 1) (tgt := 124) S dX11_count_1 (by omega) (by decide) ?_
  refine zr_iconst (pc := 124) S dX11_count_124 (by unfold zrI; omega) ?_
  exact zr_iret (pc := 125) S dX11_count_125 rfl ⟨Nat.le_refl _, Nat.le_refl _⟩ (zqi hQ (by unfold cntOf; first | (subst w1_0; rfl) | (subst w1_1; rfl) | (subst w1_2; rfl) | (subst w1_3; rfl) | (subst w1_4; rfl) | (subst w1_5; rfl) | (subst w1_6; rfl) | (subst w1_7; rfl) | rw [if_neg w1_0, if_neg w1_1, if_neg w1_2, if_neg w1_3, if_neg w1_4, if_neg w1_5, if_neg w1_6, if_neg w1_7]))
def sp_X11_taken (as : List zV) (M : zM) (Q : Option zV → zM → Prop) : Prop := ∃ (w b r : Int), as = [zR 0, zI w, zI b, zI r] ∧ (ICg M) ∧ (ICs M) ∧ ((0 ≤ w ∧ w ≤ 99) → (0 ≤ b ∧ b ≤ 99) → (0 ≤ r ∧ r ≤ 99) → Q (some (zI (takes M w b r))) M) ∧ (¬ ((0 ≤ w ∧ w ≤ 99) ∧ (0 ≤ b ∧ b ≤ 99) ∧ (0 ≤ r ∧ r ≤ 99)) → Q (some (zR 3001)) M)
theorem us_X11_taken {w b r : Int} {M : zM} {Q : Option zV → zM → Prop} (hg : ICg M) (hs : ICs M) (hQ : (0 ≤ w ∧ w ≤ 99) → (0 ≤ b ∧ b ≤ 99) → (0 ≤ r ∧ r ≤ 99) → Q (some (zI (takes M w b r))) M) (hT : ¬ ((0 ≤ w ∧ w ≤ 99) ∧ (0 ≤ b ∧ b ≤ 99) ∧ (0 ≤ r ∧ r ≤ 99)) → Q (some (zR 3001)) M) : sp_X11_taken [zR 0, zI w, zI b, zI r] M Q := ⟨w, b, r, rfl, hg, hs, hQ, hT⟩
set_option maxRecDepth 20000 in
set_option maxHeartbeats 4000000 in
theorem m_X11_taken (l : Launch) : zCx l yX11_taken wzX11_taken rmX11_taken 3 sp_X11_taken := by
  refine zMet.of RX11 (by decide +kernel) rfl rfl ?_
  intro E X as M Qp hX S hsp
  obtain ⟨w, b, r, rfl, hg, hs, hQ, hT⟩ := hsp
  refine ⟨Nat.le_of_ble_eq_true rfl, ?_⟩
  dsimp only [zpad, zargs]
  refine zr_iload_n (pc := 0) S dX11_taken_0 rfl ?_
  refine zr_i2l (pc := 1) S dX11_taken_1 ?_
  refine zr_lconst0 (pc := 2) S dX11_taken_2 ?_
  refine zr_ldc2 (pc := 3) S (99) dX11_taken_3 (List.mem_cons_of_mem _ (zWi_7 _ (List.mem_of_getElem? (i := 8) rfl))) (by unfold zrL; omega) ?_
  refine zr_invS (pc := 6) S [zL _, zL _, zL _] (m_X11_within _) kX11_taken_93 dX11_taken_6 (Nat.le_of_ble_eq_true rfl) ⟨Nat.le_of_ble_eq_true rfl, Nat.le_of_ble_eq_true rfl⟩ (us_X11_within ?_)
  dsimp only [zaft, Option.toList, List.cons_append, List.nil_append, Nat.add_zero]
  refine zr_invS (pc := 9) S [zI _] (m_X11_need _) kX11_taken_97 dX11_taken_9 (Nat.le_of_ble_eq_true rfl) ⟨Nat.le_of_ble_eq_true rfl, Nat.le_of_ble_eq_true rfl⟩ (us_X11_need (fun c9 => ?_) (fun c9 => zaft_thr (by omega) ⟨Nat.le_of_ble_eq_true rfl, Nat.le_of_ble_eq_true rfl⟩ (hT (fun z => b01_0.mp c9 z.1))))
  dsimp only [zaft, Option.toList, List.cons_append, List.nil_append, Nat.add_zero]
  rw [b01_0, Classical.not_not] at c9
  refine zr_iload_n (pc := 12) S dX11_taken_12 rfl ?_
  refine zr_i2l (pc := 13) S dX11_taken_13 ?_
  refine zr_lconst0 (pc := 14) S dX11_taken_14 ?_
  refine zr_ldc2 (pc := 15) S (99) dX11_taken_15 (List.mem_cons_of_mem _ (zWi_7 _ (List.mem_of_getElem? (i := 8) rfl))) (by unfold zrL; omega) ?_
  refine zr_invS (pc := 18) S [zL _, zL _, zL _] (m_X11_within _) kX11_taken_93 dX11_taken_18 (Nat.le_of_ble_eq_true rfl) ⟨Nat.le_of_ble_eq_true rfl, Nat.le_of_ble_eq_true rfl⟩ (us_X11_within ?_)
  dsimp only [zaft, Option.toList, List.cons_append, List.nil_append, Nat.add_zero]
  refine zr_invS (pc := 21) S [zI _] (m_X11_need _) kX11_taken_97 dX11_taken_21 (Nat.le_of_ble_eq_true rfl) ⟨Nat.le_of_ble_eq_true rfl, Nat.le_of_ble_eq_true rfl⟩ (us_X11_need (fun c21 => ?_) (fun c21 => zaft_thr (by omega) ⟨Nat.le_of_ble_eq_true rfl, Nat.le_of_ble_eq_true rfl⟩ (hT (fun z => b01_0.mp c21 z.2.1))))
  dsimp only [zaft, Option.toList, List.cons_append, List.nil_append, Nat.add_zero]
  rw [b01_0, Classical.not_not] at c21
  refine zr_iload_n (pc := 24) S dX11_taken_24 rfl ?_
  refine zr_i2l (pc := 25) S dX11_taken_25 ?_
  refine zr_lconst0 (pc := 26) S dX11_taken_26 ?_
  refine zr_ldc2 (pc := 27) S (99) dX11_taken_27 (List.mem_cons_of_mem _ (zWi_7 _ (List.mem_of_getElem? (i := 8) rfl))) (by unfold zrL; omega) ?_
  refine zr_invS (pc := 30) S [zL _, zL _, zL _] (m_X11_within _) kX11_taken_93 dX11_taken_30 (Nat.le_of_ble_eq_true rfl) ⟨Nat.le_of_ble_eq_true rfl, Nat.le_of_ble_eq_true rfl⟩ (us_X11_within ?_)
  dsimp only [zaft, Option.toList, List.cons_append, List.nil_append, Nat.add_zero]
  refine zr_invS (pc := 33) S [zI _] (m_X11_need _) kX11_taken_97 dX11_taken_33 (Nat.le_of_ble_eq_true rfl) ⟨Nat.le_of_ble_eq_true rfl, Nat.le_of_ble_eq_true rfl⟩ (us_X11_need (fun c33 => ?_) (fun c33 => zaft_thr (by omega) ⟨Nat.le_of_ble_eq_true rfl, Nat.le_of_ble_eq_true rfl⟩ (hT (fun z => b01_0.mp c33 z.2.2))))
  dsimp only [zaft, Option.toList, List.cons_append, List.nil_append, Nat.add_zero]
  rw [b01_0, Classical.not_not] at c33
  refine zr_aload_n (pc := 36) S dX11_taken_36 rfl ?_
  refine zr_getR (pc := 37) S fX11_taken_50 dX11_taken_37 rfl (Nat.le_of_ble_eq_true rfl) rfl ?_
  refine zr_iload_n (pc := 40) S dX11_taken_40 rfl ?_
  refine zr_iload_n (pc := 41) S dX11_taken_41 rfl ?_
  refine zr_iload_n (pc := 42) S dX11_taken_42 rfl ?_
  refine zr_invV (pc := 43) S [zI _, zI _, zI _] (m_X6_takes _) kX11_taken_196 dX11_taken_43 rfl (Nat.le_of_ble_eq_true rfl) rfl (Nat.le_of_ble_eq_true rfl) ⟨Nat.le_of_ble_eq_true rfl, Nat.le_of_ble_eq_true rfl⟩ (us_X6_takes hg hs ?_)
  dsimp only [zaft, Option.toList, List.cons_append, List.nil_append, Nat.add_zero]
  exact zr_iret (pc := 46) S dX11_taken_46 rfl ⟨Nat.le_of_ble_eq_true rfl, Nat.le_of_ble_eq_true rfl⟩ (hQ c9 c21 c33)
def sp_X11_empty (as : List zV) (M : zM) (Q : Option zV → zM → Prop) : Prop := ∃ (B t : Int), as = [zR 0, zI t] ∧ (M 2 0 ≤ 8) ∧ (ICt B M) ∧ (B ≤ 1000000) ∧ ((0 ≤ t ∧ t < M 2 0) → Q (some (zI (M 19 t.toNat))) (zup (bagU M t (M 19 t.toNat).toNat) 19 t.toNat 0)) ∧ (¬ (0 ≤ t ∧ t < M 2 0) → Q (some (zR 3000)) M)
theorem us_X11_empty {B t : Int} {M : zM} {Q : Option zV → zM → Prop} (hs : M 2 0 ≤ 8) (ht : ICt B M) (hB : B ≤ 1000000) (hQ : (0 ≤ t ∧ t < M 2 0) → Q (some (zI (M 19 t.toNat))) (zup (bagU M t (M 19 t.toNat).toNat) 19 t.toNat 0)) (hT : ¬ (0 ≤ t ∧ t < M 2 0) → Q (some (zR 3000)) M) : sp_X11_empty [zR 0, zI t] M Q := ⟨B, t, rfl, hs, ht, hB, hQ, hT⟩
set_option maxRecDepth 20000 in
set_option maxHeartbeats 4000000 in
theorem m_X11_empty (l : Launch) : zCx l yX11_empty wzX11_empty rmX11_empty 1 sp_X11_empty := by
  refine zMet.of RX11 (by decide +kernel) rfl rfl ?_
  intro E X as M Qp hX S hsp
  obtain ⟨B, t, rfl, hs, ht, hB, hQ, hT⟩ := hsp
  refine ⟨Nat.le_of_ble_eq_true rfl, ?_⟩
  dsimp only [zpad, zargs]
  refine zr_aload_n (pc := 0) S dX11_empty_0 rfl ?_
  refine zr_iload_n (pc := 1) S dX11_empty_1 rfl ?_
  refine zr_invV (pc := 2) S [zI _] (m_X11_needSort _) kX11_empty_109 dX11_empty_2 rfl (Nat.le_of_ble_eq_true rfl) rfl (Nat.le_of_ble_eq_true rfl) ⟨Nat.le_of_ble_eq_true rfl, Nat.le_of_ble_eq_true rfl⟩ (us_X11_needSort (fun c2 => ?_) (fun c2 => zaft_thr (by omega) ⟨Nat.le_of_ble_eq_true rfl, Nat.le_of_ble_eq_true rfl⟩ (hT c2)))
  dsimp only [zaft, Option.toList, List.cons_append, List.nil_append, Nat.add_zero]
  refine zr_aload_n (pc := 5) S dX11_empty_5 rfl ?_
  refine zr_getR (pc := 6) S fX11_empty_10 dX11_empty_6 rfl (Nat.le_of_ble_eq_true rfl) rfl ?_
  refine zr_getR (pc := 9) S fX11_empty_255 dX11_empty_9 rfl (Nat.le_of_ble_eq_true rfl) rfl ?_
  refine zr_getR (pc := 12) S fX11_empty_268 dX11_empty_12 rfl (Nat.le_of_ble_eq_true rfl) rfl ?_
  refine zr_iload_n (pc := 15) S dX11_empty_15 rfl ?_
  refine zr_iaload (pc := 16) S dX11_empty_16 rfl (Nat.le_of_ble_eq_true rfl) (by omega) (by omega) ?_
  refine zr_istore_n (pc := 17) S 2 dX11_empty_17 rfl (by decide) ?_
  dsimp only [zst1, zst2, zset, zget, zlong]
  refine zr_aload_n (pc := 18) S dX11_empty_18 rfl ?_
  refine zr_getR (pc := 19) S fX11_empty_10 dX11_empty_19 rfl (Nat.le_of_ble_eq_true rfl) rfl ?_
  refine zr_getR (pc := 22) S fX11_empty_255 dX11_empty_22 rfl (Nat.le_of_ble_eq_true rfl) rfl ?_
  refine zr_iload_n (pc := 25) S dX11_empty_25 rfl ?_
  refine zr_invV (pc := 26) S [zI _] (m_X9_tubeToBag _) kX11_empty_325 dX11_empty_26 rfl (Nat.le_of_ble_eq_true rfl) rfl (Nat.le_of_ble_eq_true rfl) ⟨Nat.le_of_ble_eq_true rfl, Nat.le_of_ble_eq_true rfl⟩ (us_X9_tubeToBag ht hB c2.1 (by omega) ?_)
  dsimp only [zaft, Option.toList, List.cons_append, List.nil_append, Nat.add_zero]
  refine zr_iload_n (pc := 29) S dX11_empty_29 rfl ?_
  exact zr_iret (pc := 30) S dX11_empty_30 rfl ⟨Nat.le_of_ble_eq_true rfl, Nat.le_of_ble_eq_true rfl⟩ (hQ c2)
def sp_X11_refund (as : List zV) (M : zM) (Q : Option zV → zM → Prop) : Prop := ∃ (B : Int), as = [zR 0] ∧ (ICt B M) ∧ (B ≤ 999000) ∧ (Q (some (zI (zup (sbU M (M 17 6).toNat) 17 6 0 17 11))) (zup (sbU M (M 17 6).toNat) 17 6 0))
theorem us_X11_refund {B : Int} {M : zM} {Q : Option zV → zM → Prop} (ht : ICt B M) (hB : B ≤ 999000) (hQ : Q (some (zI (zup (sbU M (M 17 6).toNat) 17 6 0 17 11))) (zup (sbU M (M 17 6).toNat) 17 6 0)) : sp_X11_refund [zR 0] M Q := ⟨B, rfl, ht, hB, hQ⟩
set_option maxRecDepth 20000 in
set_option maxHeartbeats 4000000 in
theorem m_X11_refund (l : Launch) : zC l yX11_refund wzX11_refund rmX11_refund sp_X11_refund := by
  refine zMet.of RX11 (by decide +kernel) rfl rfl ?_
  intro E X as M Qp hX S hsp
  obtain ⟨B, rfl, ht, hB, hQ⟩ := hsp
  refine ⟨Nat.le_of_ble_eq_true rfl, ?_⟩
  dsimp only [zpad, zargs]
  refine zr_aload_n (pc := 0) S dX11_refund_0 rfl ?_
  refine zr_getR (pc := 1) S fX11_refund_10 dX11_refund_1 rfl (Nat.le_of_ble_eq_true rfl) rfl ?_
  refine zr_getR (pc := 4) S fX11_refund_255 dX11_refund_4 rfl (Nat.le_of_ble_eq_true rfl) rfl ?_
  refine zr_invV (pc := 7) S [] (m_X9_slideBack _) kX11_refund_313 dX11_refund_7 rfl (Nat.le_of_ble_eq_true rfl) rfl (Nat.le_of_ble_eq_true rfl) ⟨Nat.le_of_ble_eq_true rfl, Nat.le_of_ble_eq_true rfl⟩ (us_X9_slideBack ht hB ?_)
  dsimp only [zaft, Option.toList, List.cons_append, List.nil_append, Nat.add_zero]
  refine zr_aload_n (pc := 10) S dX11_refund_10 rfl ?_
  refine zr_getR (pc := 11) S fX11_refund_10 dX11_refund_11 rfl (Nat.le_of_ble_eq_true rfl) rfl ?_
  refine zr_getR (pc := 14) S fX11_refund_255 dX11_refund_14 rfl (Nat.le_of_ble_eq_true rfl) rfl ?_
  refine zr_getI (pc := 17) S fX11_refund_299 dX11_refund_17 rfl (Nat.le_of_ble_eq_true rfl) rfl ?_
  exact zr_iret (pc := 20) S dX11_refund_20 rfl ⟨Nat.le_refl _, Nat.le_refl _⟩ (hQ)
end
