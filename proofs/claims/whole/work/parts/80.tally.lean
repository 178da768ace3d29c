section
def rmX12_tally : Room := { frames := 23, cells := 0, slots := 0, locals := 659 }
abbrev wzX12_tally : List Cond := .code yX12_tally cX12_tally 3 none :: zW
def rmX12_wrongOf : Room := { frames := 24, cells := 0, slots := 0, locals := 681 }
abbrev wzX12_wrongOf : List Cond := .code yX12_wrongOf cX12_wrongOf 5 (some .long) :: zW
def rmX12_wrong : Room := { frames := 25, cells := 0, slots := 0, locals := 705 }
abbrev wzX12_wrong : List Cond := .code yX12_wrong cX12_wrong 2 (some .long) :: zW
def rmX12_passes : Room := { frames := 24, cells := 0, slots := 0, locals := 681 }
abbrev wzX12_passes : List Cond := .code yX12_passes cX12_passes 3 (some .long) :: zW
def rmX12_lossOf : Room := { frames := 25, cells := 0, slots := 0, locals := 705 }
abbrev wzX12_lossOf : List Cond := .code yX12_lossOf cX12_lossOf 7 (some .long) :: zW
def rmX12_loss : Room := { frames := 26, cells := 0, slots := 0, locals := 731 }
abbrev wzX12_loss : List Cond := .code yX12_loss cX12_loss 4 (some .long) :: zW
def rmX12_best : Room := { frames := 26, cells := 0, slots := 0, locals := 731 }
abbrev wzX12_best : List Cond := .code yX12_best cX12_best 13 (some .long) :: zW
theorem fX12_tally_36 : zfl wzX12_tally RX12 vwCl 36 12 20 := ⟨_, _, _, rfl, (fun w h => List.mem_cons_of_mem _ (zWuX12 w h)), by decide, List.mem_cons_of_mem _ (zWi_9 _ (List.mem_of_getElem? (i := 23) rfl))⟩
theorem fX12_tally_33 : zfl wzX12_tally RX12 vwCl 33 12 19 := ⟨_, _, _, rfl, (fun w h => List.mem_cons_of_mem _ (zWuX12 w h)), by decide, List.mem_cons_of_mem _ (zWi_9 _ (List.mem_of_getElem? (i := 22) rfl))⟩
theorem kX12_tally_128 : ∀ (s9 : State) (a9 : Array Value), (∀ w ∈ wzX12_tally, w.before a9 s9 = true) → CallW rmX12_tally s9 a9 RX12 RX12 128 yX12_endOf cX12_endOf 5 (some .int) wzX12_endOf rmX12_endOf 0 0 3 := zcV (zWi_22 _ (List.mem_of_getElem? (i := 21) rfl)) (zWi_14 _ (List.mem_of_getElem? (i := 8) rfl)) (zWi_27 _ (List.mem_of_getElem? (i := 0) rfl)) (zWi_12 _ (List.mem_of_getElem? (i := 13) rfl)) (zWi_2 _ (List.mem_of_getElem? (i := 37) rfl)) (by decide +kernel) rfl rfl ⟨Nat.le_of_ble_eq_true rfl, Nat.le_of_ble_eq_true rfl⟩
theorem kX12_tally_237 : ∀ (s9 : State) (a9 : Array Value), (∀ w ∈ wzX12_tally, w.before a9 s9 = true) → CallW rmX12_tally s9 a9 RX12 RX12 237 yX12_heard cX12_heard 2 (some .int) wzX12_heard rmX12_heard 0 0 1 := zcV (zWi_22 _ (List.mem_of_getElem? (i := 37) rfl)) (zWi_14 _ (List.mem_of_getElem? (i := 21) rfl)) (zWi_27 _ (List.mem_of_getElem? (i := 13) rfl)) (zWi_12 _ (List.mem_of_getElem? (i := 13) rfl)) (zWi_3 _ (List.mem_of_getElem? (i := 0) rfl)) (by decide +kernel) rfl rfl ⟨Nat.le_of_ble_eq_true rfl, Nat.le_of_ble_eq_true rfl⟩
theorem kX12_tally_240 : ∀ (s9 : State) (a9 : Array Value), (∀ w ∈ wzX12_tally, w.before a9 s9 = true) → CallW rmX12_tally s9 a9 RX12 RX12 240 yX12_box cX12_box 11 none wzX12_box (rmX12_box 18) 0 0 7 := zcV (zWi_22 _ (List.mem_of_getElem? (i := 38) rfl)) (zWi_13 _ (List.mem_of_getElem? (i := 46) rfl)) (zWi_26 _ (List.mem_of_getElem? (i := 38) rfl)) (zWi_12 _ (List.mem_of_getElem? (i := 13) rfl)) (zWi_2 _ (List.mem_of_getElem? (i := 25) rfl)) (by decide +kernel) rfl rfl ⟨Nat.le_of_ble_eq_true rfl, Nat.le_of_ble_eq_true rfl⟩
theorem fX12_wrongOf_36 : zfl wzX12_wrongOf RX12 vwCl 36 12 20 := ⟨_, _, _, rfl, (fun w h => List.mem_cons_of_mem _ (zWuX12 w h)), by decide, List.mem_cons_of_mem _ (zWi_9 _ (List.mem_of_getElem? (i := 23) rfl))⟩
theorem fX12_wrongOf_9 : zfl wzX12_wrongOf RX12 vwCl 9 12 0 := ⟨_, _, _, rfl, (fun w h => List.mem_cons_of_mem _ (zWuX12 w h)), by decide, List.mem_cons_of_mem _ (zWi_9 _ (List.mem_of_getElem? (i := 39) rfl))⟩
theorem kX12_wrongOf_261 : ∀ (s9 : State) (a9 : Array Value), (∀ w ∈ wzX12_wrongOf, w.before a9 s9 = true) → CallW rmX12_wrongOf s9 a9 RX12 RX12 261 yX12_tally cX12_tally 3 none wzX12_tally rmX12_tally 0 0 1 := zcV (zWi_22 _ (List.mem_of_getElem? (i := 44) rfl)) (zWi_15 _ (List.mem_of_getElem? (i := 24) rfl)) (zWi_28 _ (List.mem_of_getElem? (i := 15) rfl)) (zWi_12 _ (List.mem_of_getElem? (i := 13) rfl)) (zWi_4 _ (List.mem_of_getElem? (i := 6) rfl)) (by decide +kernel) rfl rfl ⟨Nat.le_of_ble_eq_true rfl, Nat.le_of_ble_eq_true rfl⟩
theorem kX12_wrongOf_120 : ∀ (s9 : State) (a9 : Array Value), (∀ w ∈ wzX12_wrongOf, w.before a9 s9 = true) → CallW rmX12_wrongOf s9 a9 RX12 RX12 120 yX12_isGood cX12_isGood 2 (some .boolean) wzX12_isGood rmX12_isGood 0 0 1 := zcV (zWi_22 _ (List.mem_of_getElem? (i := 19) rfl)) (zWi_14 _ (List.mem_of_getElem? (i := 28) rfl)) (zWi_27 _ (List.mem_of_getElem? (i := 19) rfl)) (zWi_12 _ (List.mem_of_getElem? (i := 13) rfl)) (zWi_3 _ (List.mem_of_getElem? (i := 8) rfl)) (by decide +kernel) rfl rfl ⟨Nat.le_of_ble_eq_true rfl, Nat.le_of_ble_eq_true rfl⟩
theorem kX12_wrongOf_264 : ∀ (s9 : State) (a9 : Array Value), (∀ w ∈ wzX12_wrongOf, w.before a9 s9 = true) → CallW rmX12_wrongOf s9 a9 RX12 RX12 264 yX12_valueOf cX12_valueOf 2 (some .int) wzX12_valueOf rmX12_valueOf 0 0 1 := zcV (zWi_22 _ (List.mem_of_getElem? (i := 45) rfl)) (zWi_15 _ (List.mem_of_getElem? (i := 31) rfl)) (zWi_28 _ (List.mem_of_getElem? (i := 22) rfl)) (zWi_12 _ (List.mem_of_getElem? (i := 13) rfl)) (zWi_4 _ (List.mem_of_getElem? (i := 13) rfl)) (by decide +kernel) rfl rfl ⟨Nat.le_of_ble_eq_true rfl, Nat.le_of_ble_eq_true rfl⟩
theorem kX12_wrongOf_123 : zml_mmax wzX12_wrongOf RX12 123 := ⟨List.mem_cons_of_mem _ (zWi_22 _ (List.mem_of_getElem? (i := 20) rfl)), List.mem_cons_of_mem _ (zWi_30 _ (List.mem_of_getElem? (i := 2) rfl)), List.mem_cons_of_mem _ (zWi_12 _ (List.mem_of_getElem? (i := 0) rfl)), List.mem_cons_of_mem _ (zWi_0 _ (List.mem_of_getElem? (i := 27) rfl))⟩
theorem kX12_wrongOf_132 : ∀ (s9 : State) (a9 : Array Value), (∀ w ∈ wzX12_wrongOf, w.before a9 s9 = true) → CallW rmX12_wrongOf s9 a9 RX12 RX12 132 yX12_many cX12_many 5 (some .long) wzX12_many rmX12_many 0 0 1 := zcV (zWi_22 _ (List.mem_of_getElem? (i := 22) rfl)) (zWi_14 _ (List.mem_of_getElem? (i := 41) rfl)) (zWi_27 _ (List.mem_of_getElem? (i := 32) rfl)) (zWi_12 _ (List.mem_of_getElem? (i := 13) rfl)) (zWi_3 _ (List.mem_of_getElem? (i := 23) rfl)) (by decide +kernel) rfl rfl ⟨Nat.le_of_ble_eq_true rfl, Nat.le_of_ble_eq_true rfl⟩
theorem pX12_wrong_80 : zfp wzX12_wrong RX12 vwCl 80 12 3 := ⟨_, _, _, _, rfl, (fun w h => List.mem_cons_of_mem _ (zWuX12 w h)), by decide, List.mem_cons_of_mem _ (zWi_9 _ (List.mem_of_getElem? (i := 38) rfl)), tyX12_ok, nmX12, rfl, by decide +kernel⟩
theorem kX12_wrong_99 : ∀ (s9 : State) (a9 : Array Value), (∀ w ∈ wzX12_wrong, w.before a9 s9 = true) → CallW rmX12_wrong s9 a9 RX12 RX12 99 yX12_isSort cX12_isSort 2 (some .boolean) wzX12_isSort rmX12_isSort 0 0 1 := zcV (zWi_23 _ (List.mem_of_getElem? (i := 27) rfl)) (zWi_14 _ (List.mem_of_getElem? (i := 30) rfl)) (zWi_27 _ (List.mem_of_getElem? (i := 21) rfl)) (zWi_12 _ (List.mem_of_getElem? (i := 13) rfl)) (zWi_3 _ (List.mem_of_getElem? (i := 11) rfl)) (by decide +kernel) rfl rfl ⟨Nat.le_of_ble_eq_true rfl, Nat.le_of_ble_eq_true rfl⟩
theorem kX12_wrong_269 : ∀ (s9 : State) (a9 : Array Value), (∀ w ∈ wzX12_wrong, w.before a9 s9 = true) → CallW rmX12_wrong s9 a9 RX12 RX12 269 yX12_wrongOf cX12_wrongOf 5 (some .long) wzX12_wrongOf rmX12_wrongOf 0 0 1 := zcV (zWi_22 _ (List.mem_of_getElem? (i := 46) rfl)) (zWi_15 _ (List.mem_of_getElem? (i := 37) rfl)) (zWi_28 _ (List.mem_of_getElem? (i := 28) rfl)) (zWi_12 _ (List.mem_of_getElem? (i := 13) rfl)) (zWi_4 _ (List.mem_of_getElem? (i := 20) rfl)) (by decide +kernel) rfl rfl ⟨Nat.le_of_ble_eq_true rfl, Nat.le_of_ble_eq_true rfl⟩
theorem kX12_wrong_95 : ∀ (s9 : State) (a9 : Array Value), (∀ w ∈ wzX12_wrong, w.before a9 s9 = true) → CallW rmX12_wrong s9 a9 RX12 RX12 95 yX12_fails cX12_fails 2 (some .int) wzX12_fails rmX12_fails 0 0 1 := zcV (zWi_23 _ (List.mem_of_getElem? (i := 26) rfl)) (zWi_14 _ (List.mem_of_getElem? (i := 10) rfl)) (zWi_27 _ (List.mem_of_getElem? (i := 2) rfl)) (zWi_12 _ (List.mem_of_getElem? (i := 13) rfl)) (zWi_2 _ (List.mem_of_getElem? (i := 39) rfl)) (by decide +kernel) rfl rfl ⟨Nat.le_of_ble_eq_true rfl, Nat.le_of_ble_eq_true rfl⟩
theorem pX12_passes_80 : zfp wzX12_passes RX12 vwCl 80 12 3 := ⟨_, _, _, _, rfl, (fun w h => List.mem_cons_of_mem _ (zWuX12 w h)), by decide, List.mem_cons_of_mem _ (zWi_9 _ (List.mem_of_getElem? (i := 38) rfl)), tyX12_ok, nmX12, rfl, by decide +kernel⟩
theorem fX12_passes_36 : zfl wzX12_passes RX12 vwCl 36 12 20 := ⟨_, _, _, rfl, (fun w h => List.mem_cons_of_mem _ (zWuX12 w h)), by decide, List.mem_cons_of_mem _ (zWi_9 _ (List.mem_of_getElem? (i := 23) rfl))⟩
theorem kX12_passes_99 : ∀ (s9 : State) (a9 : Array Value), (∀ w ∈ wzX12_passes, w.before a9 s9 = true) → CallW rmX12_passes s9 a9 RX12 RX12 99 yX12_isSort cX12_isSort 2 (some .boolean) wzX12_isSort rmX12_isSort 0 0 1 := zcV (zWi_23 _ (List.mem_of_getElem? (i := 27) rfl)) (zWi_14 _ (List.mem_of_getElem? (i := 30) rfl)) (zWi_27 _ (List.mem_of_getElem? (i := 21) rfl)) (zWi_12 _ (List.mem_of_getElem? (i := 13) rfl)) (zWi_3 _ (List.mem_of_getElem? (i := 11) rfl)) (by decide +kernel) rfl rfl ⟨Nat.le_of_ble_eq_true rfl, Nat.le_of_ble_eq_true rfl⟩
theorem kX12_passes_95 : ∀ (s9 : State) (a9 : Array Value), (∀ w ∈ wzX12_passes, w.before a9 s9 = true) → CallW rmX12_passes s9 a9 RX12 RX12 95 yX12_fails cX12_fails 2 (some .int) wzX12_fails rmX12_fails 0 0 1 := zcV (zWi_23 _ (List.mem_of_getElem? (i := 26) rfl)) (zWi_14 _ (List.mem_of_getElem? (i := 10) rfl)) (zWi_27 _ (List.mem_of_getElem? (i := 2) rfl)) (zWi_12 _ (List.mem_of_getElem? (i := 13) rfl)) (zWi_2 _ (List.mem_of_getElem? (i := 39) rfl)) (by decide +kernel) rfl rfl ⟨Nat.le_of_ble_eq_true rfl, Nat.le_of_ble_eq_true rfl⟩
theorem kX12_passes_261 : ∀ (s9 : State) (a9 : Array Value), (∀ w ∈ wzX12_passes, w.before a9 s9 = true) → CallW rmX12_passes s9 a9 RX12 RX12 261 yX12_tally cX12_tally 3 none wzX12_tally rmX12_tally 0 0 1 := zcV (zWi_22 _ (List.mem_of_getElem? (i := 44) rfl)) (zWi_15 _ (List.mem_of_getElem? (i := 24) rfl)) (zWi_28 _ (List.mem_of_getElem? (i := 15) rfl)) (zWi_12 _ (List.mem_of_getElem? (i := 13) rfl)) (zWi_4 _ (List.mem_of_getElem? (i := 6) rfl)) (by decide +kernel) rfl rfl ⟨Nat.le_of_ble_eq_true rfl, Nat.le_of_ble_eq_true rfl⟩
theorem fX12_lossOf_9 : zfl wzX12_lossOf RX12 vwCl 9 12 0 := ⟨_, _, _, rfl, (fun w h => List.mem_cons_of_mem _ (zWuX12 w h)), by decide, List.mem_cons_of_mem _ (zWi_9 _ (List.mem_of_getElem? (i := 39) rfl))⟩
theorem pX12_lossOf_30 : zfp wzX12_lossOf RX12 vwCl 30 12 16 := ⟨_, _, _, _, rfl, (fun w h => List.mem_cons_of_mem _ (zWuX12 w h)), by decide, List.mem_cons_of_mem _ (zWi_9 _ (List.mem_of_getElem? (i := 21) rfl)), tyX12_ok, nmX12, rfl, by decide +kernel⟩
theorem kX12_lossOf_272 : ∀ (s9 : State) (a9 : Array Value), (∀ w ∈ wzX12_lossOf, w.before a9 s9 = true) → CallW rmX12_lossOf s9 a9 RX12 RX12 272 yX12_moves cX12_moves 4 none wzX12_moves rmX12_moves 0 0 3 := zcV (zWi_22 _ (List.mem_of_getElem? (i := 47) rfl)) (zWi_14 _ (List.mem_of_getElem? (i := 46) rfl)) (zWi_27 _ (List.mem_of_getElem? (i := 37) rfl)) (zWi_12 _ (List.mem_of_getElem? (i := 13) rfl)) (zWi_3 _ (List.mem_of_getElem? (i := 28) rfl)) (by decide +kernel) rfl rfl ⟨Nat.le_of_ble_eq_true rfl, Nat.le_of_ble_eq_true rfl⟩
theorem kX12_lossOf_117 : ∀ (s9 : State) (a9 : Array Value), (∀ w ∈ wzX12_lossOf, w.before a9 s9 = true) → CallW rmX12_lossOf s9 a9 RX12 RX12 117 yX12_of cX12_of 3 (some .int) wzX12_of rmX12_of 0 0 2 := zcV (zWi_22 _ (List.mem_of_getElem? (i := 18) rfl)) (zWi_15 _ (List.mem_of_getElem? (i := 0) rfl)) (zWi_27 _ (List.mem_of_getElem? (i := 41) rfl)) (zWi_12 _ (List.mem_of_getElem? (i := 13) rfl)) (zWi_3 _ (List.mem_of_getElem? (i := 32) rfl)) (by decide +kernel) rfl rfl ⟨Nat.le_of_ble_eq_true rfl, Nat.le_of_ble_eq_true rfl⟩
theorem kX12_lossOf_269 : ∀ (s9 : State) (a9 : Array Value), (∀ w ∈ wzX12_lossOf, w.before a9 s9 = true) → CallW rmX12_lossOf s9 a9 RX12 RX12 269 yX12_wrongOf cX12_wrongOf 5 (some .long) wzX12_wrongOf rmX12_wrongOf 0 0 1 := zcV (zWi_22 _ (List.mem_of_getElem? (i := 46) rfl)) (zWi_15 _ (List.mem_of_getElem? (i := 37) rfl)) (zWi_28 _ (List.mem_of_getElem? (i := 28) rfl)) (zWi_12 _ (List.mem_of_getElem? (i := 13) rfl)) (zWi_4 _ (List.mem_of_getElem? (i := 20) rfl)) (by decide +kernel) rfl rfl ⟨Nat.le_of_ble_eq_true rfl, Nat.le_of_ble_eq_true rfl⟩
theorem pX12_loss_80 : zfp wzX12_loss RX12 vwCl 80 12 3 := ⟨_, _, _, _, rfl, (fun w h => List.mem_cons_of_mem _ (zWuX12 w h)), by decide, List.mem_cons_of_mem _ (zWi_9 _ (List.mem_of_getElem? (i := 38) rfl)), tyX12_ok, nmX12, rfl, by decide +kernel⟩
theorem fX12_loss_80 : zfl wzX12_loss RX12 vwCl 80 12 3 := ⟨_, _, _, rfl, (fun w h => List.mem_cons_of_mem _ (zWuX12 w h)), by decide, List.mem_cons_of_mem _ (zWi_9 _ (List.mem_of_getElem? (i := 38) rfl))⟩
theorem kX12_loss_278 : ∀ (s9 : State) (a9 : Array Value), (∀ w ∈ wzX12_loss, w.before a9 s9 = true) → CallW rmX12_loss s9 a9 RX12 RX12 278 yX12_moveFault cX12_moveFault 4 (some .int) wzX12_moveFault rmX12_moveFault 0 0 3 := zcV (zWi_22 _ (List.mem_of_getElem? (i := 48) rfl)) (zWi_14 _ (List.mem_of_getElem? (i := 45) rfl)) (zWi_27 _ (List.mem_of_getElem? (i := 36) rfl)) (zWi_12 _ (List.mem_of_getElem? (i := 13) rfl)) (zWi_3 _ (List.mem_of_getElem? (i := 27) rfl)) (by decide +kernel) rfl rfl ⟨Nat.le_of_ble_eq_true rfl, Nat.le_of_ble_eq_true rfl⟩
theorem kX12_loss_281 : ∀ (s9 : State) (a9 : Array Value), (∀ w ∈ wzX12_loss, w.before a9 s9 = true) → CallW rmX12_loss s9 a9 RX12 RX12 281 yX12_lossOf cX12_lossOf 7 (some .long) wzX12_lossOf rmX12_lossOf 0 0 3 := zcV (zWi_22 _ (List.mem_of_getElem? (i := 49) rfl)) (zWi_14 _ (List.mem_of_getElem? (i := 37) rfl)) (zWi_27 _ (List.mem_of_getElem? (i := 28) rfl)) (zWi_12 _ (List.mem_of_getElem? (i := 13) rfl)) (zWi_3 _ (List.mem_of_getElem? (i := 19) rfl)) (by decide +kernel) rfl rfl ⟨Nat.le_of_ble_eq_true rfl, Nat.le_of_ble_eq_true rfl⟩
theorem pX12_best_80 : zfp wzX12_best RX12 vwCl 80 12 3 := ⟨_, _, _, _, rfl, (fun w h => List.mem_cons_of_mem _ (zWuX12 w h)), by decide, List.mem_cons_of_mem _ (zWi_9 _ (List.mem_of_getElem? (i := 38) rfl)), tyX12_ok, nmX12, rfl, by decide +kernel⟩
theorem fX12_best_80 : zfl wzX12_best RX12 vwCl 80 12 3 := ⟨_, _, _, rfl, (fun w h => List.mem_cons_of_mem _ (zWuX12 w h)), by decide, List.mem_cons_of_mem _ (zWi_9 _ (List.mem_of_getElem? (i := 38) rfl))⟩
theorem kX12_best_225 : ∀ (s9 : State) (a9 : Array Value), (∀ w ∈ wzX12_best, w.before a9 s9 = true) → CallW rmX12_best s9 a9 RX12 RX12 225 yX12_isGate cX12_isGate 2 (some .boolean) wzX12_isGate rmX12_isGate 0 0 1 := zcV (zWi_22 _ (List.mem_of_getElem? (i := 35) rfl)) (zWi_14 _ (List.mem_of_getElem? (i := 27) rfl)) (zWi_27 _ (List.mem_of_getElem? (i := 18) rfl)) (zWi_12 _ (List.mem_of_getElem? (i := 13) rfl)) (zWi_3 _ (List.mem_of_getElem? (i := 7) rfl)) (by decide +kernel) rfl rfl ⟨Nat.le_of_ble_eq_true rfl, Nat.le_of_ble_eq_true rfl⟩
theorem kX12_best_83 : ∀ (s9 : State) (a9 : Array Value), (∀ w ∈ wzX12_best, w.before a9 s9 = true) → CallB rmX12_best s9 a9 RX12 83 yX12_within cX12_within 6 (some .boolean) wzX12_within rmX12_within 0 0 3 ∧ (Cond.static yX12_within).before a9 s9 = true := zcS (zWi_23 _ (List.mem_of_getElem? (i := 24) rfl)) (zWi_31 _ (List.mem_of_getElem? (i := 13) rfl)) (zWi_12 _ (List.mem_of_getElem? (i := 13) rfl)) (zWi_4 _ (List.mem_of_getElem? (i := 16) rfl)) (by decide +kernel) rfl rfl ⟨Nat.le_of_ble_eq_true rfl, Nat.le_of_ble_eq_true rfl⟩
theorem kX12_best_285 : zml_mabs wzX12_best RX12 285 := ⟨List.mem_cons_of_mem _ (zWi_23 _ (List.mem_of_getElem? (i := 0) rfl)), List.mem_cons_of_mem _ (zWi_30 _ (List.mem_of_getElem? (i := 1) rfl)), List.mem_cons_of_mem _ (zWi_12 _ (List.mem_of_getElem? (i := 0) rfl)), List.mem_cons_of_mem _ (zWi_0 _ (List.mem_of_getElem? (i := 26) rfl))⟩
theorem kX12_best_281 : ∀ (s9 : State) (a9 : Array Value), (∀ w ∈ wzX12_best, w.before a9 s9 = true) → CallW rmX12_best s9 a9 RX12 RX12 281 yX12_lossOf cX12_lossOf 7 (some .long) wzX12_lossOf rmX12_lossOf 0 0 3 := zcV (zWi_22 _ (List.mem_of_getElem? (i := 49) rfl)) (zWi_14 _ (List.mem_of_getElem? (i := 37) rfl)) (zWi_27 _ (List.mem_of_getElem? (i := 28) rfl)) (zWi_12 _ (List.mem_of_getElem? (i := 13) rfl)) (zWi_3 _ (List.mem_of_getElem? (i := 19) rfl)) (by decide +kernel) rfl rfl ⟨Nat.le_of_ble_eq_true rfl, Nat.le_of_ble_eq_true rfl⟩
theorem sumU_shift (f : Nat → Int) (a n : Nat) : ∀ N, a + n ≤ N → sumU (fun w => if a ≤ w ∧ w < a + n then f w else 0) N = sumU (fun i => f (a + i)) n := by
  have h1 : ∀ N, N ≤ a → sumU (fun w => if a ≤ w ∧ w < a + n then f w else 0) N = 0 := by
    intro N
    induction N with
    | zero => intro _; rfl
    | succ N ih =>
      intro h
      simp only [sumU]
      rw [ih (by omega), if_neg (by omega)]
      rfl
  have h2 : ∀ m, m ≤ n → sumU (fun w => if a ≤ w ∧ w < a + n then f w else 0) (a + m) = sumU (fun i => f (a + i)) m := by
    intro m
    induction m with
    | zero => intro _; exact h1 a (Nat.le_refl _)
    | succ m ih =>
      intro h
      rw [← Nat.add_assoc]
      simp only [sumU]
      rw [ih (by omega), if_pos (by omega)]
  have h3 : ∀ d, sumU (fun w => if a ≤ w ∧ w < a + n then f w else 0) (a + n + d) = sumU (fun i => f (a + i)) n := by
    intro d
    induction d with
    | zero => exact h2 n (Nat.le_refl _)
    | succ d ih =>
      rw [← Nat.add_assoc]
      simp only [sumU]
      rw [ih, if_neg (by omega), Int.add_zero]
  intro N hN
  obtain ⟨d, rfl⟩ : ∃ d, N = a + n + d := ⟨N - (a + n), by omega⟩
  exact h3 d
theorem sumU_int (f : Int → Int) {a b : Int} (h0 : 0 ≤ a) (h1 : a ≤ b + 1) (h2 : b ≤ 99) : sumU (fun w => if a ≤ (w : Int) ∧ (w : Int) ≤ b then f w else 0) 100 = sumU (fun i => f (a + i)) (b + 1 - a).toNat := by
  obtain ⟨a, rfl⟩ : ∃ n : Nat, a = n := ⟨a.toNat, by omega⟩
  have := sumU_shift (fun w => f w) a (b + 1 - (a : Int)).toNat 100 (by omega)
  rw [show (fun i : Nat => f ((a + i : Nat) : Int)) = fun i : Nat => f ((a : Int) + (i : Int)) from by funext i; rw [Int.natCast_add]] at this
  rw [← this]
  refine sumU_c 100 (fun w hw => ?_)
  by_cases h : (a : Int) ≤ (w : Int) ∧ (w : Int) ≤ b
  · rw [if_pos h, if_pos (by omega)]
  · rw [if_neg h, if_neg (by omega)]
/-- outcomes by bits and by coins -/
theorem gl_takes {V : zM} (hg : ICg V) (w b r : Int) : gl V (bm V 0 w ||| bm V 1 b ||| bm V 2 r) = takes V w b r := by
  unfold gl takes
  refine gw_cong (fun g hgl => ?_) 9 0
  have h8 := hg.1
  have gv := hg.2 g (by omega)
  rw [Nat.testBit_or, Nat.testBit_or]
  unfold bm
  rw [bitsU_tb, bitsU_tb, bitsU_tb]
  unfold pmG inG vAt
  have hd : decide (g < (V 11 0).toNat) = true := by rw [decide_eq_true_eq]; omega
  rw [hd, Bool.true_and, Bool.true_and, Bool.true_and]
  have hm : V 12 g = 0 ∨ V 12 g = 1 ∨ V 12 g = 2 := by omega
  rcases hm with m | m | m <;> rw [m] <;> simp
def ocG (k : Nat) : Nat := if k = 8 then 0 else k + 1
theorem dG_dlt {V : zM} (hg : ICg V) {k : Nat} (hk : k < 9) (w b r : Int) : dG k (takes V w b r) = dlt V (ocG k) (bm V 0 w ||| bm V 1 b ||| bm V 2 r) := by
  have t := takes_r hg w b r
  unfold dlt
  rw [gl_takes hg]
  unfold dG ixG ocG
  by_cases h1 : takes V w b r = -1
  · rw [if_pos h1, h1]
    by_cases h8 : k = 8
    · rw [if_pos h8.symm, if_pos h8, if_pos (by decide)]
    · rw [if_neg (fun z => h8 z.symm), if_neg h8, if_neg (by show ¬ (0 : Nat) = k + 1; omega)]
  · rw [if_neg h1]
    by_cases h8 : k = 8
    · rw [if_pos h8, if_neg (by omega), if_neg (by omega)]
    · rw [if_neg h8]
      by_cases e : (takes V w b r).toNat = k
      · rw [if_pos e, if_pos (by omega)]
      · rw [if_neg e, if_neg (by omega)]
theorem bxS_cnt {V : zM} (hg : ICg V) (hs : ICs V) {s : Int} (h0 : 0 ≤ s) (h1 : s < 8) {k : Nat} (hk : k < 9) : bxS V (lowOf V s 2) (highOf V s 2) (fun w b r => takes V w b r) k (lowOf V s 0) (highOf V s 0) (lowOf V s 1) (highOf V s 1) 0 99 = cnt3 V s (ocG k) := by
  have s0 := span_r hs h0 h1 (m := 0) (by omega) (by omega)
  have s1 := span_r hs h0 h1 (m := 1) (by omega) (by omega)
  have s2 := span_r hs h0 h1 (m := 2) (by omega) (by omega)
  unfold bxS sum3 cnt3
  rw [← sumU_int (fun a => sumU (fun b => sumU (fun c => dlt V (ocG k) (bm V 0 a ||| bm V 1 (lowOf V s 1 + b) ||| bm V 2 (lowOf V s 2 + c))) (highOf V s 2 + 1 - lowOf V s 2).toNat) (highOf V s 1 + 1 - lowOf V s 1).toNat) (by omega) (by omega) (by omega)]
  refine sumU_c 100 (fun w hw => ?_)
  by_cases hA : lowOf V s 0 ≤ (w : Int) ∧ (w : Int) ≤ highOf V s 0
  · rw [if_pos hA, ← sumU_int (fun b => sumU (fun c => dlt V (ocG k) (bm V 0 w ||| bm V 1 b ||| bm V 2 (lowOf V s 2 + c))) (highOf V s 2 + 1 - lowOf V s 2).toNat) (by omega) (by omega) (by omega)]
    refine sumU_c 100 (fun b hb => ?_)
    by_cases hB : lowOf V s 1 ≤ (b : Int) ∧ (b : Int) ≤ highOf V s 1
    · rw [if_pos hB, ← sumU_int (fun c => dlt V (ocG k) (bm V 0 w ||| bm V 1 b ||| bm V 2 c)) (by omega) (by omega) (by omega)]
      refine sumU_c 100 (fun r hr => ?_)
      by_cases hC : lowOf V s 2 ≤ (r : Int) ∧ (r : Int) ≤ highOf V s 2
      · rw [if_pos hC]
        dsimp only
        rw [if_pos ⟨hA, hB, hC, by unfold heardR; omega, by unfold heardR; omega⟩, dG_dlt hg hk]
      · rw [if_neg hC]
        dsimp only
        rw [if_neg (fun z => hC z.2.2.1)]
    · rw [if_neg hB]
      refine (sumU_c 100 (fun r hr => ?_)).trans (sumU_0 100)
      dsimp only
      rw [if_neg (fun z => hB z.2.1)]
  · rw [if_neg hA]
    refine (sumU_c 100 (fun b hb => ?_)).trans (sumU_0 100)
    refine (sumU_c 100 (fun r hr => ?_)).trans (sumU_0 100)
    dsimp only
    rw [if_neg (fun z => hA z.1)]
/-- of n rings from lo on, how many are heard as x - 1, and how many below x -/
def hcN (V : zM) (lo x : Int) (n : Nat) : Int := sumU (fun i => if heardR V (lo + i) + 1 = x then 1 else 0) n
def hpN (V : zM) (lo x : Int) (n : Nat) : Int := sumU (fun i => if heardR V (lo + i) + 1 ≤ x then 1 else 0) n
theorem hp_s (V : zM) (lo x : Int) (n : Nat) : hpN V lo (x + 1) n = hcN V lo (x + 1) n + hpN V lo x n := by
  unfold hpN hcN
  rw [← sumU_add]
  refine sumU_c n (fun i _ => ?_)
  split <;> split <;> split <;> omega
theorem hp_0 (V : zM) (lo : Int) (n : Nat) : hpN V lo 0 n = 0 ∧ hcN V lo 0 n = 0 := by
  unfold hpN hcN
  refine ⟨?_, ?_⟩
  · refine (sumU_c n (fun i _ => ?_)).trans (sumU_0 n)
    exact if_neg (by unfold heardR; omega)
  · refine (sumU_c n (fun i _ => ?_)).trans (sumU_0 n)
    exact if_neg (by unfold heardR; omega)
theorem hp_r (V : zM) (lo x : Int) (n : Nat) : (0 ≤ hpN V lo x n ∧ hpN V lo x n ≤ n) ∧ (0 ≤ hcN V lo x n ∧ hcN V lo x n ≤ n) := by
  unfold hpN hcN
  have a := sumU_r (f := fun i => if heardR V (lo + i) + 1 ≤ x then (1 : Int) else 0) (c := 1) (N := n) (fun i _ => by split <;> omega) n (Nat.le_refl _)
  have b := sumU_r (f := fun i => if heardR V (lo + i) + 1 = x then (1 : Int) else 0) (c := 1) (N := n) (fun i _ => by split <;> omega) n (Nat.le_refl _)
  omega
theorem hp_rc {V : zM} {lo hi c0 c1 : Int} (h0 : 0 ≤ lo) (h1 : lo ≤ hi + 1) (h2 : hi ≤ 99) (hc : c0 ≤ c1) : hpN V lo (c1 + 1) (hi + 1 - lo).toNat - hpN V lo c0 (hi + 1 - lo).toNat = rcN V lo hi c0 c1 := by
  have e : rcN V lo hi c0 c1 = sumU (fun i => if c0 ≤ heardR V (lo + i) ∧ heardR V (lo + i) ≤ c1 then 1 else 0) (hi + 1 - lo).toNat := by
    unfold rcN
    rw [← sumU_int (fun r => if c0 ≤ heardR V r ∧ heardR V r ≤ c1 then 1 else 0) h0 h1 h2]
    refine sumU_c 100 (fun r _ => ?_)
    by_cases a : lo ≤ (r : Int) ∧ (r : Int) ≤ hi
    · rw [if_pos a]
      by_cases b : c0 ≤ heardR V r ∧ heardR V r ≤ c1
      · rw [if_pos ⟨a, b⟩, if_pos b]
      · rw [if_neg (fun z => b z.2), if_neg b]
    · rw [if_neg a, if_neg (fun z => a z.1)]
  have e2 : hpN V lo (c1 + 1) (hi + 1 - lo).toNat = rcN V lo hi c0 c1 + hpN V lo c0 (hi + 1 - lo).toNat := by
    rw [e]
    unfold hpN
    rw [← sumU_add]
    refine sumU_c _ (fun i _ => ?_)
    split <;> split <;> split <;> omega
  omega
end
