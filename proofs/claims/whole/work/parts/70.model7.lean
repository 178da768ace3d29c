section
def rmX12_refund : Room := { frames := 1, cells := 0, slots := 0, locals := 22 }
abbrev wzX12_refund : List Cond := .code yX12_refund cX12_refund 2 (some .int) :: zW
def rmX12_buyer : Room := { frames := 3, cells := 0, slots := 0, locals := 68 }
abbrev wzX12_buyer : List Cond := .code yX12_buyer cX12_buyer 10 (some .int) :: zW
def rmX12_tray : Room := { frames := 2, cells := 0, slots := 0, locals := 45 }
abbrev wzX12_tray : List Cond := .code yX12_tray cX12_tray 5 none :: zW
def rmX12_write : Room := { frames := 2, cells := 0, slots := 0, locals := 45 }
abbrev wzX12_write : List Cond := .code yX12_write cX12_write 6 (some .long) :: zW
def rmX12_pour : Room := { frames := 3, cells := 0, slots := 0, locals := 68 }
abbrev wzX12_pour : List Cond := .code yX12_pour cX12_pour 4 (some .int) :: zW
def rmX12_image : Room := { frames := 1, cells := 0, slots := 0, locals := 25 }
abbrev wzX12_image : List Cond := .code yX12_image cX12_image 3 none :: zW
def rmX12_restore : Room := { frames := 1, cells := 0, slots := 0, locals := 25 }
abbrev wzX12_restore : List Cond := .code yX12_restore cX12_restore 3 none :: zW
theorem pX12_refund_80 : zfp wzX12_refund RX12 vwCl 80 12 3 := ⟨_, _, _, _, rfl, (fun w h => List.mem_cons_of_mem _ (zWuX12 w h)), by decide, List.mem_cons_of_mem _ (zWi_9 _ (List.mem_of_getElem? (i := 38) rfl)), tyX12_ok, nmX12, rfl, by decide +kernel⟩
theorem fX12_refund_9 : zfl wzX12_refund RX12 vwCl 9 12 0 := ⟨_, _, _, rfl, (fun w h => List.mem_cons_of_mem _ (zWuX12 w h)), by decide, List.mem_cons_of_mem _ (zWi_9 _ (List.mem_of_getElem? (i := 39) rfl))⟩
theorem kX12_refund_312 : ∀ (s9 : State) (a9 : Array Value), (∀ w ∈ wzX12_refund, w.before a9 s9 = true) → CallW rmX12_refund s9 a9 RX12 RX12 312 yX12_lies cX12_lies 3 (some .int) wzX12_lies rmX12_lies 0 0 2 := zcV (zWi_23 _ (List.mem_of_getElem? (i := 7) rfl)) (zWi_14 _ (List.mem_of_getElem? (i := 34) rfl)) (zWi_27 _ (List.mem_of_getElem? (i := 25) rfl)) (zWi_12 _ (List.mem_of_getElem? (i := 13) rfl)) (zWi_3 _ (List.mem_of_getElem? (i := 16) rfl)) (by decide +kernel) rfl rfl ⟨Nat.le_of_ble_eq_true rfl, Nat.le_of_ble_eq_true rfl⟩
theorem kX12_refund_324 : ∀ (s9 : State) (a9 : Array Value), (∀ w ∈ wzX12_refund, w.before a9 s9 = true) → CallW rmX12_refund s9 a9 RX12 RX12 324 yX12_gives cX12_gives 2 none wzX12_gives rmX12_gives 0 0 1 := zcV (zWi_23 _ (List.mem_of_getElem? (i := 11) rfl)) (zWi_14 _ (List.mem_of_getElem? (i := 17) rfl)) (zWi_27 _ (List.mem_of_getElem? (i := 9) rfl)) (zWi_12 _ (List.mem_of_getElem? (i := 13) rfl)) (zWi_2 _ (List.mem_of_getElem? (i := 46) rfl)) (by decide +kernel) rfl rfl ⟨Nat.le_of_ble_eq_true rfl, Nat.le_of_ble_eq_true rfl⟩
theorem pX12_buyer_80 : zfp wzX12_buyer RX12 vwCl 80 12 3 := ⟨_, _, _, _, rfl, (fun w h => List.mem_cons_of_mem _ (zWuX12 w h)), by decide, List.mem_cons_of_mem _ (zWi_9 _ (List.mem_of_getElem? (i := 38) rfl)), tyX12_ok, nmX12, rfl, by decide +kernel⟩
theorem fX12_buyer_9 : zfl wzX12_buyer RX12 vwCl 9 12 0 := ⟨_, _, _, rfl, (fun w h => List.mem_cons_of_mem _ (zWuX12 w h)), by decide, List.mem_cons_of_mem _ (zWi_9 _ (List.mem_of_getElem? (i := 39) rfl))⟩
theorem kX12_buyer_290 : ∀ (s9 : State) (a9 : Array Value), (∀ w ∈ wzX12_buyer, w.before a9 s9 = true) → CallW rmX12_buyer s9 a9 RX12 RX12 290 yX12_isOffer cX12_isOffer 2 (some .boolean) wzX12_isOffer rmX12_isOffer 0 0 1 := zcV (zWi_23 _ (List.mem_of_getElem? (i := 1) rfl)) (zWi_14 _ (List.mem_of_getElem? (i := 29) rfl)) (zWi_27 _ (List.mem_of_getElem? (i := 20) rfl)) (zWi_12 _ (List.mem_of_getElem? (i := 13) rfl)) (zWi_3 _ (List.mem_of_getElem? (i := 10) rfl)) (by decide +kernel) rfl rfl ⟨Nat.le_of_ble_eq_true rfl, Nat.le_of_ble_eq_true rfl⟩
theorem kX12_buyer_99 : ∀ (s9 : State) (a9 : Array Value), (∀ w ∈ wzX12_buyer, w.before a9 s9 = true) → CallW rmX12_buyer s9 a9 RX12 RX12 99 yX12_isSort cX12_isSort 2 (some .boolean) wzX12_isSort rmX12_isSort 0 0 1 := zcV (zWi_23 _ (List.mem_of_getElem? (i := 27) rfl)) (zWi_14 _ (List.mem_of_getElem? (i := 30) rfl)) (zWi_27 _ (List.mem_of_getElem? (i := 21) rfl)) (zWi_12 _ (List.mem_of_getElem? (i := 13) rfl)) (zWi_3 _ (List.mem_of_getElem? (i := 11) rfl)) (by decide +kernel) rfl rfl ⟨Nat.le_of_ble_eq_true rfl, Nat.le_of_ble_eq_true rfl⟩
theorem kX12_buyer_95 : ∀ (s9 : State) (a9 : Array Value), (∀ w ∈ wzX12_buyer, w.before a9 s9 = true) → CallW rmX12_buyer s9 a9 RX12 RX12 95 yX12_fails cX12_fails 2 (some .int) wzX12_fails rmX12_fails 0 0 1 := zcV (zWi_23 _ (List.mem_of_getElem? (i := 26) rfl)) (zWi_14 _ (List.mem_of_getElem? (i := 10) rfl)) (zWi_27 _ (List.mem_of_getElem? (i := 2) rfl)) (zWi_12 _ (List.mem_of_getElem? (i := 13) rfl)) (zWi_2 _ (List.mem_of_getElem? (i := 39) rfl)) (by decide +kernel) rfl rfl ⟨Nat.le_of_ble_eq_true rfl, Nat.le_of_ble_eq_true rfl⟩
theorem kX12_buyer_83 : ∀ (s9 : State) (a9 : Array Value), (∀ w ∈ wzX12_buyer, w.before a9 s9 = true) → CallB rmX12_buyer s9 a9 RX12 83 yX12_within cX12_within 6 (some .boolean) wzX12_within rmX12_within 0 0 3 ∧ (Cond.static yX12_within).before a9 s9 = true := zcS (zWi_23 _ (List.mem_of_getElem? (i := 24) rfl)) (zWi_31 _ (List.mem_of_getElem? (i := 13) rfl)) (zWi_12 _ (List.mem_of_getElem? (i := 13) rfl)) (zWi_4 _ (List.mem_of_getElem? (i := 16) rfl)) (by decide +kernel) rfl rfl ⟨Nat.le_of_ble_eq_true rfl, Nat.le_of_ble_eq_true rfl⟩
theorem pX12_tray_80 : zfp wzX12_tray RX12 vwCl 80 12 3 := ⟨_, _, _, _, rfl, (fun w h => List.mem_cons_of_mem _ (zWuX12 w h)), by decide, List.mem_cons_of_mem _ (zWi_9 _ (List.mem_of_getElem? (i := 38) rfl)), tyX12_ok, nmX12, rfl, by decide +kernel⟩
theorem fX12_tray_80 : zfl wzX12_tray RX12 vwCl 80 12 3 := ⟨_, _, _, rfl, (fun w h => List.mem_cons_of_mem _ (zWuX12 w h)), by decide, List.mem_cons_of_mem _ (zWi_9 _ (List.mem_of_getElem? (i := 38) rfl))⟩
theorem fX12_tray_71 : zfl wzX12_tray RX12 vwCl 71 12 32 := ⟨_, _, _, rfl, (fun w h => List.mem_cons_of_mem _ (zWuX12 w h)), by decide, List.mem_cons_of_mem _ (zWi_9 _ (List.mem_of_getElem? (i := 35) rfl))⟩
theorem fX12_tray_74 : zfl wzX12_tray RX12 vwCl 74 12 33 := ⟨_, _, _, rfl, (fun w h => List.mem_cons_of_mem _ (zWuX12 w h)), by decide, List.mem_cons_of_mem _ (zWi_9 _ (List.mem_of_getElem? (i := 36) rfl))⟩
theorem fX12_tray_77 : zfl wzX12_tray RX12 vwCl 77 12 34 := ⟨_, _, _, rfl, (fun w h => List.mem_cons_of_mem _ (zWuX12 w h)), by decide, List.mem_cons_of_mem _ (zWi_9 _ (List.mem_of_getElem? (i := 37) rfl))⟩
theorem kX12_tray_370 : ∀ (s9 : State) (a9 : Array Value), (∀ w ∈ wzX12_tray, w.before a9 s9 = true) → CallB rmX12_tray s9 a9 RX12 370 yX12_isTray cX12_isTray 1 (some .boolean) wzX12_isTray rmX12_isTray 0 0 1 ∧ (Cond.static yX12_isTray).before a9 s9 = true := zcS (zWi_23 _ (List.mem_of_getElem? (i := 23) rfl)) (zWi_31 _ (List.mem_of_getElem? (i := 12) rfl)) (zWi_12 _ (List.mem_of_getElem? (i := 13) rfl)) (zWi_3 _ (List.mem_of_getElem? (i := 12) rfl)) (by decide +kernel) rfl rfl ⟨Nat.le_of_ble_eq_true rfl, Nat.le_of_ble_eq_true rfl⟩
theorem kX12_tray_83 : ∀ (s9 : State) (a9 : Array Value), (∀ w ∈ wzX12_tray, w.before a9 s9 = true) → CallB rmX12_tray s9 a9 RX12 83 yX12_within cX12_within 6 (some .boolean) wzX12_within rmX12_within 0 0 3 ∧ (Cond.static yX12_within).before a9 s9 = true := zcS (zWi_23 _ (List.mem_of_getElem? (i := 24) rfl)) (zWi_31 _ (List.mem_of_getElem? (i := 13) rfl)) (zWi_12 _ (List.mem_of_getElem? (i := 13) rfl)) (zWi_4 _ (List.mem_of_getElem? (i := 16) rfl)) (by decide +kernel) rfl rfl ⟨Nat.le_of_ble_eq_true rfl, Nat.le_of_ble_eq_true rfl⟩
theorem pX12_write_80 : zfp wzX12_write RX12 vwCl 80 12 3 := ⟨_, _, _, _, rfl, (fun w h => List.mem_cons_of_mem _ (zWuX12 w h)), by decide, List.mem_cons_of_mem _ (zWi_9 _ (List.mem_of_getElem? (i := 38) rfl)), tyX12_ok, nmX12, rfl, by decide +kernel⟩
theorem fX12_write_71 : zfl wzX12_write RX12 vwCl 71 12 32 := ⟨_, _, _, rfl, (fun w h => List.mem_cons_of_mem _ (zWuX12 w h)), by decide, List.mem_cons_of_mem _ (zWi_9 _ (List.mem_of_getElem? (i := 35) rfl))⟩
theorem fX12_write_74 : zfl wzX12_write RX12 vwCl 74 12 33 := ⟨_, _, _, rfl, (fun w h => List.mem_cons_of_mem _ (zWuX12 w h)), by decide, List.mem_cons_of_mem _ (zWi_9 _ (List.mem_of_getElem? (i := 36) rfl))⟩
theorem fX12_write_77 : zfl wzX12_write RX12 vwCl 77 12 34 := ⟨_, _, _, rfl, (fun w h => List.mem_cons_of_mem _ (zWuX12 w h)), by decide, List.mem_cons_of_mem _ (zWi_9 _ (List.mem_of_getElem? (i := 37) rfl))⟩
theorem kX12_write_370 : ∀ (s9 : State) (a9 : Array Value), (∀ w ∈ wzX12_write, w.before a9 s9 = true) → CallB rmX12_write s9 a9 RX12 370 yX12_isTray cX12_isTray 1 (some .boolean) wzX12_isTray rmX12_isTray 0 0 1 ∧ (Cond.static yX12_isTray).before a9 s9 = true := zcS (zWi_23 _ (List.mem_of_getElem? (i := 23) rfl)) (zWi_31 _ (List.mem_of_getElem? (i := 12) rfl)) (zWi_12 _ (List.mem_of_getElem? (i := 13) rfl)) (zWi_3 _ (List.mem_of_getElem? (i := 12) rfl)) (by decide +kernel) rfl rfl ⟨Nat.le_of_ble_eq_true rfl, Nat.le_of_ble_eq_true rfl⟩
theorem kX12_write_95 : ∀ (s9 : State) (a9 : Array Value), (∀ w ∈ wzX12_write, w.before a9 s9 = true) → CallW rmX12_write s9 a9 RX12 RX12 95 yX12_fails cX12_fails 2 (some .int) wzX12_fails rmX12_fails 0 0 1 := zcV (zWi_23 _ (List.mem_of_getElem? (i := 26) rfl)) (zWi_14 _ (List.mem_of_getElem? (i := 10) rfl)) (zWi_27 _ (List.mem_of_getElem? (i := 2) rfl)) (zWi_12 _ (List.mem_of_getElem? (i := 13) rfl)) (zWi_2 _ (List.mem_of_getElem? (i := 39) rfl)) (by decide +kernel) rfl rfl ⟨Nat.le_of_ble_eq_true rfl, Nat.le_of_ble_eq_true rfl⟩
theorem kX12_write_83 : ∀ (s9 : State) (a9 : Array Value), (∀ w ∈ wzX12_write, w.before a9 s9 = true) → CallB rmX12_write s9 a9 RX12 83 yX12_within cX12_within 6 (some .boolean) wzX12_within rmX12_within 0 0 3 ∧ (Cond.static yX12_within).before a9 s9 = true := zcS (zWi_23 _ (List.mem_of_getElem? (i := 24) rfl)) (zWi_31 _ (List.mem_of_getElem? (i := 13) rfl)) (zWi_12 _ (List.mem_of_getElem? (i := 13) rfl)) (zWi_4 _ (List.mem_of_getElem? (i := 16) rfl)) (by decide +kernel) rfl rfl ⟨Nat.le_of_ble_eq_true rfl, Nat.le_of_ble_eq_true rfl⟩
theorem pX12_pour_80 : zfp wzX12_pour RX12 vwCl 80 12 3 := ⟨_, _, _, _, rfl, (fun w h => List.mem_cons_of_mem _ (zWuX12 w h)), by decide, List.mem_cons_of_mem _ (zWi_9 _ (List.mem_of_getElem? (i := 38) rfl)), tyX12_ok, nmX12, rfl, by decide +kernel⟩
theorem fX12_pour_71 : zfl wzX12_pour RX12 vwCl 71 12 32 := ⟨_, _, _, rfl, (fun w h => List.mem_cons_of_mem _ (zWuX12 w h)), by decide, List.mem_cons_of_mem _ (zWi_9 _ (List.mem_of_getElem? (i := 35) rfl))⟩
theorem fX12_pour_74 : zfl wzX12_pour RX12 vwCl 74 12 33 := ⟨_, _, _, rfl, (fun w h => List.mem_cons_of_mem _ (zWuX12 w h)), by decide, List.mem_cons_of_mem _ (zWi_9 _ (List.mem_of_getElem? (i := 36) rfl))⟩
theorem fX12_pour_77 : zfl wzX12_pour RX12 vwCl 77 12 34 := ⟨_, _, _, rfl, (fun w h => List.mem_cons_of_mem _ (zWuX12 w h)), by decide, List.mem_cons_of_mem _ (zWi_9 _ (List.mem_of_getElem? (i := 37) rfl))⟩
theorem fX12_pour_9 : zfl wzX12_pour RX12 vwCl 9 12 0 := ⟨_, _, _, rfl, (fun w h => List.mem_cons_of_mem _ (zWuX12 w h)), by decide, List.mem_cons_of_mem _ (zWi_9 _ (List.mem_of_getElem? (i := 39) rfl))⟩
theorem kX12_pour_370 : ∀ (s9 : State) (a9 : Array Value), (∀ w ∈ wzX12_pour, w.before a9 s9 = true) → CallB rmX12_pour s9 a9 RX12 370 yX12_isTray cX12_isTray 1 (some .boolean) wzX12_isTray rmX12_isTray 0 0 1 ∧ (Cond.static yX12_isTray).before a9 s9 = true := zcS (zWi_23 _ (List.mem_of_getElem? (i := 23) rfl)) (zWi_31 _ (List.mem_of_getElem? (i := 12) rfl)) (zWi_12 _ (List.mem_of_getElem? (i := 13) rfl)) (zWi_3 _ (List.mem_of_getElem? (i := 12) rfl)) (by decide +kernel) rfl rfl ⟨Nat.le_of_ble_eq_true rfl, Nat.le_of_ble_eq_true rfl⟩
theorem kX12_pour_99 : ∀ (s9 : State) (a9 : Array Value), (∀ w ∈ wzX12_pour, w.before a9 s9 = true) → CallW rmX12_pour s9 a9 RX12 RX12 99 yX12_isSort cX12_isSort 2 (some .boolean) wzX12_isSort rmX12_isSort 0 0 1 := zcV (zWi_23 _ (List.mem_of_getElem? (i := 27) rfl)) (zWi_14 _ (List.mem_of_getElem? (i := 30) rfl)) (zWi_27 _ (List.mem_of_getElem? (i := 21) rfl)) (zWi_12 _ (List.mem_of_getElem? (i := 13) rfl)) (zWi_3 _ (List.mem_of_getElem? (i := 11) rfl)) (by decide +kernel) rfl rfl ⟨Nat.le_of_ble_eq_true rfl, Nat.le_of_ble_eq_true rfl⟩
theorem kX12_pour_95 : ∀ (s9 : State) (a9 : Array Value), (∀ w ∈ wzX12_pour, w.before a9 s9 = true) → CallW rmX12_pour s9 a9 RX12 RX12 95 yX12_fails cX12_fails 2 (some .int) wzX12_fails rmX12_fails 0 0 1 := zcV (zWi_23 _ (List.mem_of_getElem? (i := 26) rfl)) (zWi_14 _ (List.mem_of_getElem? (i := 10) rfl)) (zWi_27 _ (List.mem_of_getElem? (i := 2) rfl)) (zWi_12 _ (List.mem_of_getElem? (i := 13) rfl)) (zWi_2 _ (List.mem_of_getElem? (i := 39) rfl)) (by decide +kernel) rfl rfl ⟨Nat.le_of_ble_eq_true rfl, Nat.le_of_ble_eq_true rfl⟩
theorem kX12_pour_83 : ∀ (s9 : State) (a9 : Array Value), (∀ w ∈ wzX12_pour, w.before a9 s9 = true) → CallB rmX12_pour s9 a9 RX12 83 yX12_within cX12_within 6 (some .boolean) wzX12_within rmX12_within 0 0 3 ∧ (Cond.static yX12_within).before a9 s9 = true := zcS (zWi_23 _ (List.mem_of_getElem? (i := 24) rfl)) (zWi_31 _ (List.mem_of_getElem? (i := 13) rfl)) (zWi_12 _ (List.mem_of_getElem? (i := 13) rfl)) (zWi_4 _ (List.mem_of_getElem? (i := 16) rfl)) (by decide +kernel) rfl rfl ⟨Nat.le_of_ble_eq_true rfl, Nat.le_of_ble_eq_true rfl⟩
theorem kX12_pour_293 : ∀ (s9 : State) (a9 : Array Value), (∀ w ∈ wzX12_pour, w.before a9 s9 = true) → CallW rmX12_pour s9 a9 RX12 RX12 293 yX12_tubeAt cX12_tubeAt 2 (some .int) wzX12_tubeAt rmX12_tubeAt 0 0 1 := zcV (zWi_23 _ (List.mem_of_getElem? (i := 2) rfl)) (zWi_15 _ (List.mem_of_getElem? (i := 30) rfl)) (zWi_28 _ (List.mem_of_getElem? (i := 21) rfl)) (zWi_12 _ (List.mem_of_getElem? (i := 13) rfl)) (zWi_4 _ (List.mem_of_getElem? (i := 12) rfl)) (by decide +kernel) rfl rfl ⟨Nat.le_of_ble_eq_true rfl, Nat.le_of_ble_eq_true rfl⟩
theorem kX12_pour_298 : ∀ (s9 : State) (a9 : Array Value), (∀ w ∈ wzX12_pour, w.before a9 s9 = true) → CallW rmX12_pour s9 a9 RX12 RX12 298 yX12_drops cX12_drops 4 none wzX12_drops rmX12_drops 0 0 2 := zcV (zWi_23 _ (List.mem_of_getElem? (i := 3) rfl)) (zWi_14 _ (List.mem_of_getElem? (i := 5) rfl)) (zWi_26 _ (List.mem_of_getElem? (i := 47) rfl)) (zWi_12 _ (List.mem_of_getElem? (i := 13) rfl)) (zWi_2 _ (List.mem_of_getElem? (i := 34) rfl)) (by decide +kernel) rfl rfl ⟨Nat.le_of_ble_eq_true rfl, Nat.le_of_ble_eq_true rfl⟩
theorem pX12_image_80 : zfp wzX12_image RX12 vwCl 80 12 3 := ⟨_, _, _, _, rfl, (fun w h => List.mem_cons_of_mem _ (zWuX12 w h)), by decide, List.mem_cons_of_mem _ (zWi_9 _ (List.mem_of_getElem? (i := 38) rfl)), tyX12_ok, nmX12, rfl, by decide +kernel⟩
theorem fX12_image_80 : zfl wzX12_image RX12 vwCl 80 12 3 := ⟨_, _, _, rfl, (fun w h => List.mem_cons_of_mem _ (zWuX12 w h)), by decide, List.mem_cons_of_mem _ (zWi_9 _ (List.mem_of_getElem? (i := 38) rfl))⟩
theorem fX12_image_16 : zfl wzX12_image RX12 vwCl 16 12 2 := ⟨_, _, _, rfl, (fun w h => List.mem_cons_of_mem _ (zWuX12 w h)), by decide, List.mem_cons_of_mem _ (zWi_9 _ (List.mem_of_getElem? (i := 11) rfl))⟩
theorem fX12_image_13 : zfl wzX12_image RX12 vwCl 13 12 1 := ⟨_, _, _, rfl, (fun w h => List.mem_cons_of_mem _ (zWuX12 w h)), by decide, List.mem_cons_of_mem _ (zWi_9 _ (List.mem_of_getElem? (i := 5) rfl))⟩
theorem fX12_image_9 : zfl wzX12_image RX12 vwCl 9 12 0 := ⟨_, _, _, rfl, (fun w h => List.mem_cons_of_mem _ (zWuX12 w h)), by decide, List.mem_cons_of_mem _ (zWi_9 _ (List.mem_of_getElem? (i := 39) rfl))⟩
theorem kX12_image_83 : ∀ (s9 : State) (a9 : Array Value), (∀ w ∈ wzX12_image, w.before a9 s9 = true) → CallB rmX12_image s9 a9 RX12 83 yX12_within cX12_within 6 (some .boolean) wzX12_within rmX12_within 0 0 3 ∧ (Cond.static yX12_within).before a9 s9 = true := zcS (zWi_23 _ (List.mem_of_getElem? (i := 24) rfl)) (zWi_31 _ (List.mem_of_getElem? (i := 13) rfl)) (zWi_12 _ (List.mem_of_getElem? (i := 13) rfl)) (zWi_4 _ (List.mem_of_getElem? (i := 16) rfl)) (by decide +kernel) rfl rfl ⟨Nat.le_of_ble_eq_true rfl, Nat.le_of_ble_eq_true rfl⟩
theorem fX12_restore_16 : zfl wzX12_restore RX12 vwCl 16 12 2 := ⟨_, _, _, rfl, (fun w h => List.mem_cons_of_mem _ (zWuX12 w h)), by decide, List.mem_cons_of_mem _ (zWi_9 _ (List.mem_of_getElem? (i := 11) rfl))⟩
theorem pX12_restore_80 : zfp wzX12_restore RX12 vwCl 80 12 3 := ⟨_, _, _, _, rfl, (fun w h => List.mem_cons_of_mem _ (zWuX12 w h)), by decide, List.mem_cons_of_mem _ (zWi_9 _ (List.mem_of_getElem? (i := 38) rfl)), tyX12_ok, nmX12, rfl, by decide +kernel⟩
theorem fX12_restore_80 : zfl wzX12_restore RX12 vwCl 80 12 3 := ⟨_, _, _, rfl, (fun w h => List.mem_cons_of_mem _ (zWuX12 w h)), by decide, List.mem_cons_of_mem _ (zWi_9 _ (List.mem_of_getElem? (i := 38) rfl))⟩
theorem fX12_restore_9 : zfl wzX12_restore RX12 vwCl 9 12 0 := ⟨_, _, _, rfl, (fun w h => List.mem_cons_of_mem _ (zWuX12 w h)), by decide, List.mem_cons_of_mem _ (zWi_9 _ (List.mem_of_getElem? (i := 39) rfl))⟩
theorem fX12_restore_13 : zfl wzX12_restore RX12 vwCl 13 12 1 := ⟨_, _, _, rfl, (fun w h => List.mem_cons_of_mem _ (zWuX12 w h)), by decide, List.mem_cons_of_mem _ (zWi_9 _ (List.mem_of_getElem? (i := 5) rfl))⟩
theorem kX12_restore_83 : ∀ (s9 : State) (a9 : Array Value), (∀ w ∈ wzX12_restore, w.before a9 s9 = true) → CallB rmX12_restore s9 a9 RX12 83 yX12_within cX12_within 6 (some .boolean) wzX12_within rmX12_within 0 0 3 ∧ (Cond.static yX12_within).before a9 s9 = true := zcS (zWi_23 _ (List.mem_of_getElem? (i := 24) rfl)) (zWi_31 _ (List.mem_of_getElem? (i := 13) rfl)) (zWi_12 _ (List.mem_of_getElem? (i := 13) rfl)) (zWi_4 _ (List.mem_of_getElem? (i := 16) rfl)) (by decide +kernel) rfl rfl ⟨Nat.le_of_ble_eq_true rfl, Nat.le_of_ble_eq_true rfl⟩
/-- the told row when the first n coins of a tube have fallen into the bags -/
def bagT (t : Nat → Int) (u : Nat) : Nat → Nat → Int
  | 0 => t
  | n + 1 => rUp (bagT t u n) (327 + (t (160 + 21 * u + n)).toNat) (bagT t u n (327 + (t (160 + 21 * u + n)).toNat) + 1)
theorem bagT_o {t : Nat → Int} {u i : Nat} (hi : i < 327 ∨ 334 < i) (h : ∀ j, j < 20 → 0 ≤ t (160 + 21 * u + j) ∧ t (160 + 21 * u + j) < 8) : ∀ n, n ≤ 20 → bagT t u n i = t i
  | 0, _ => rfl
  | n + 1, hn => by
    have := h n (by omega)
    simp only [bagT]
    rw [rUp_o (by omega), bagT_o hi h n (by omega)]
theorem bagT_r {t : Nat → Int} {u : Nat} {B : Int} (hb : ∀ s, s < 8 → 0 ≤ t (327 + s) ∧ t (327 + s) ≤ B) : ∀ n s, s < 8 → 0 ≤ bagT t u n (327 + s) ∧ bagT t u n (327 + s) ≤ B + n
  | 0, s, hs => by have := hb s hs; simp only [bagT]; omega
  | n + 1, s, hs => by
    have a := bagT_r (u := u) hb n s hs
    simp only [bagT]
    unfold rUp
    split
    · rename_i e
      rw [← e]
      omega
    · omega
theorem lp_X12_empty {E : zE} {X : zX} {Qp : Option zV → zM → Prop} {M : zM} {u h : Nat} (S : zS (zg E) X cX12_empty 5 wzX12_empty RX12 (some .int)) (hu : u < 8) (h20 : h ≤ 20) (hc : ∀ j, j < 20 → 0 ≤ M 181 (160 + 21 * u + j) ∧ M 181 (160 + 21 * u + j) < 8) (hb : ∀ s, s < 8 → 0 ≤ M 181 (327 + s) ∧ M 181 (327 + s) ≤ 1000000) (hQ : Qp (some (zI h)) (zrow M 181 (rUp (bagT (M 181) u h) (159 + 21 * u) 0))) : ∀ n i : Nat, n + i = h → zK (zg E) rmX12_empty 5 (Qp, 0, 0) X (0, 0) 35 [some (zR 180), some (zI u), some (zI (159 + 21 * (u : Int))), some (zI h), some (zI ((i : Int) + 1))] [] (zrow M 181 (bagT (M 181) u i)) := by
  intro n
  have e0 : ((159 : Int) + 21 * (u : Int)).toNat = 159 + 21 * u := by omega
  induction n with
  | zero =>
    intro i hi
    obtain rfl : i = h := by omega
    refine zr_iload (pc := 35) S dX12_empty_35 rfl ?_
    refine zr_iload_n (pc := 37) S dX12_empty_37 rfl ?_
    refine zr_icmp_gt (pc := 38) (tgt := 69) S dX12_empty_38 (by decide) (fun c38 => ?_) (fun c38 => absurd c38 (by omega))
    refine zr_aload_n (pc := 69) S dX12_empty_69 rfl ?_
    refine zr_getR (pc := 70) S fX12_empty_9 dX12_empty_70 rfl (Nat.le_of_ble_eq_true rfl) rfl ?_
    refine zr_iload_n (pc := 73) S dX12_empty_73 rfl ?_
    refine zr_iconst (pc := 74) S dX12_empty_74 (by unfold zrI; omega) ?_
    refine zr_iastore (pc := 75) S dX12_empty_75 rfl (Nat.le_of_ble_eq_true rfl) (by omega) (by omega) ?_
    rw [e0, zrow_up]
    refine zr_iload_n (pc := 76) S dX12_empty_76 rfl ?_
    exact zr_iret (pc := 77) S dX12_empty_77 rfl ⟨Nat.le_refl _, Nat.le_refl _⟩ (hQ)
  | succ n ih =>
    intro i hi
    have c := hc i (by omega)
    have k := ih (i + 1) (by omega)
    rw [Int.natCast_add, Int.natCast_one] at k
    have e1 : zrow M 181 (bagT (M 181) u i) 181 ((159 : Int) + 21 * (u : Int) + ((i : Int) + 1)).toNat = M 181 (160 + 21 * u + i) := by
      rw [zrow_e, show ((159 : Int) + 21 * (u : Int) + ((i : Int) + 1)).toNat = 160 + 21 * u + i by omega, bagT_o (by omega) hc i (by omega)]
    have e2 : ((327 : Int) + M 181 (160 + 21 * u + i)).toNat = 327 + (M 181 (160 + 21 * u + i)).toNat := by omega
    have r := bagT_r (u := u) hb i (M 181 (160 + 21 * u + i)).toNat (by omega)
    have e3 : zrow M 181 (bagT (M 181) u i) 181 (327 + (M 181 (160 + 21 * u + i)).toNat) = bagT (M 181) u i (327 + (M 181 (160 + 21 * u + i)).toNat) := by rw [zrow_e]
    refine zr_iload (pc := 35) S dX12_empty_35 rfl ?_
    refine zr_iload_n (pc := 37) S dX12_empty_37 rfl ?_
    refine zr_icmp_gt (pc := 38) (tgt := 69) S dX12_empty_38 (by decide) (fun c38 => absurd c38 (by omega)) (fun c38 => ?_)
    refine zr_aload_n (pc := 41) S dX12_empty_41 rfl ?_
    refine zr_getR (pc := 42) S fX12_empty_9 dX12_empty_42 rfl (Nat.le_of_ble_eq_true rfl) rfl ?_
    refine zr_sipush (pc := 45) S dX12_empty_45 ⟨by unfold zrI; omega, by decide⟩ ?_
    refine zr_aload_n (pc := 48) S dX12_empty_48 rfl ?_
    refine zr_getR (pc := 49) S fX12_empty_9 dX12_empty_49 rfl (Nat.le_of_ble_eq_true rfl) rfl ?_
    refine zr_iload_n (pc := 52) S dX12_empty_52 rfl ?_
    refine zr_iload (pc := 53) S dX12_empty_53 rfl ?_
    refine zr_iadd (pc := 55) S dX12_empty_55 (by unfold zrI; omega) ?_
    refine zr_iaload (pc := 56) S dX12_empty_56 rfl (Nat.le_of_ble_eq_true rfl) (by omega) (by omega) ?_
    rw [e1]
    refine zr_iadd (pc := 57) S dX12_empty_57 (by unfold zrI; omega) ?_
    refine zr_dup2 (pc := 58) S dX12_empty_58 rfl rfl ?_
    refine zr_iaload (pc := 59) S dX12_empty_59 rfl (Nat.le_of_ble_eq_true rfl) (by omega) (by omega) ?_
    rw [e2, e3]
    refine zr_iconst (pc := 60) S dX12_empty_60 (by unfold zrI; omega) ?_
    refine zr_iadd (pc := 61) S dX12_empty_61 (by unfold zrI; omega) ?_
    refine zr_iastore (pc := 62) S dX12_empty_62 rfl (Nat.le_of_ble_eq_true rfl) (by omega) (by omega) ?_
    rw [e2, zrow_up]
    refine zr_iinc (pc := 63) S dX12_empty_63 rfl (by unfold zrI; omega) (by decide) ?_
    dsimp only [zst1, zst2, zset, zget, zlong]
    refine zr_goto (pc := 66) (tgt := 35) S dX12_empty_66 (by decide) ?_
    exact k
def sp_X12_empty (as : List zV) (M : zM) (Q : Option zV → zM → Prop) : Prop := ∃ (u : Int), as = [zR 180, zI u] ∧ (0 ≤ M 181 0 ∧ M 181 0 ≤ 8) ∧ (∀ i : Nat, i < 8 → (0 ≤ M 181 (159 + 21 * i) ∧ M 181 (159 + 21 * i) ≤ 20) ∧ (0 ≤ M 181 (327 + i) ∧ M 181 (327 + i) ≤ 1000000) ∧ ∀ j, j < 20 → 0 ≤ M 181 (160 + 21 * i + j) ∧ M 181 (160 + 21 * i + j) < 8) ∧ ((0 ≤ u ∧ u < M 181 0) → Q (some (zI (M 181 (159 + 21 * u.toNat)))) (zrow (tz M 0) 181 (rUp (bagT (M 181) u.toNat (M 181 (159 + 21 * u.toNat)).toNat) (159 + 21 * u.toNat) 0))) ∧ (¬ (0 ≤ u ∧ u < M 181 0) → Q (some (zI 0)) (tz (tz M 0) 1))
theorem us_X12_empty {u : Int} {M : zM} {Q : Option zV → zM → Prop} (h0 : 0 ≤ M 181 0 ∧ M 181 0 ≤ 8) (hh : ∀ i : Nat, i < 8 → (0 ≤ M 181 (159 + 21 * i) ∧ M 181 (159 + 21 * i) ≤ 20) ∧ (0 ≤ M 181 (327 + i) ∧ M 181 (327 + i) ≤ 1000000) ∧ ∀ j, j < 20 → 0 ≤ M 181 (160 + 21 * i + j) ∧ M 181 (160 + 21 * i + j) < 8) (hQ : (0 ≤ u ∧ u < M 181 0) → Q (some (zI (M 181 (159 + 21 * u.toNat)))) (zrow (tz M 0) 181 (rUp (bagT (M 181) u.toNat (M 181 (159 + 21 * u.toNat)).toNat) (159 + 21 * u.toNat) 0))) (hT : ¬ (0 ≤ u ∧ u < M 181 0) → Q (some (zI 0)) (tz (tz M 0) 1)) : sp_X12_empty [zR 180, zI u] M Q := ⟨u, rfl, h0, hh, hQ, hT⟩
set_option maxRecDepth 20000 in
set_option maxHeartbeats 4000000 in
theorem m_X12_empty (l : Launch) : zC l yX12_empty wzX12_empty rmX12_empty sp_X12_empty := by
  refine zMet.of RX12 (by decide +kernel) rfl rfl ?_
  intro E X as M Qp hX S hsp
  obtain ⟨u, rfl, h0, hh, hQ, hT⟩ := hsp
  refine ⟨Nat.le_of_ble_eq_true rfl, ?_⟩
  dsimp only [zpad, zargs]
  have et : tz M 0 181 = M 181 := zup_o _ (by decide)
  have key : (0 ≤ u ∧ u < M 181 0) → zK (zg E) rmX12_empty 5 (Qp, 0, 0) X (0, 0) 19 [some (zR 180), some (zI u), none, none, none] [] (tz M 0) := by
    intro c1
    have f := hQ c1
    obtain ⟨u, rfl⟩ : ∃ n : Nat, u = n := ⟨u.toNat, by omega⟩
    rw [Int.toNat_natCast] at f
    have e0 : ((159 : Int) + 21 * (u : Int)).toNat = 159 + 21 * u := by omega
    have au := hh u (by omega)
    have en : ((M 181 (159 + 21 * u)).toNat : Int) = M 181 (159 + 21 * u) := by omega
    have eT : tz M 0 181 (159 + 21 * u) = M 181 (159 + 21 * u) := by rw [et]
    refine zr_aload_n (pc := 19) S dX12_empty_19 rfl ?_
    refine zr_iload_n (pc := 20) S dX12_empty_20 rfl ?_
    refine zr_invV (pc := 21) S [zI _] (m_X12_tubeAt _) kX12_empty_293 dX12_empty_21 rfl (Nat.le_of_ble_eq_true rfl) rfl (Nat.le_of_ble_eq_true rfl) ⟨Nat.le_of_ble_eq_true rfl, Nat.le_of_ble_eq_true rfl⟩ (us_X12_tubeAt (by omega) (by omega) ?_)
    dsimp only [zaft, Option.toList, List.cons_append, List.nil_append, Nat.add_zero]
    refine zr_istore_n (pc := 24) S 2 dX12_empty_24 rfl (by decide) ?_
    dsimp only [zst1, zst2, zset, zget, zlong]
    refine zr_aload_n (pc := 25) S dX12_empty_25 rfl ?_
    refine zr_getR (pc := 26) S fX12_empty_9 dX12_empty_26 rfl (Nat.le_of_ble_eq_true rfl) rfl ?_
    refine zr_iload_n (pc := 29) S dX12_empty_29 rfl ?_
    refine zr_iaload (pc := 30) S dX12_empty_30 rfl (Nat.le_of_ble_eq_true rfl) (by omega) (by omega) ?_
    rw [e0, eT]
    refine zr_istore_n (pc := 31) S 3 dX12_empty_31 rfl (by decide) ?_
    dsimp only [zst1, zst2, zset, zget, zlong]
    refine zr_iconst (pc := 32) S dX12_empty_32 (by unfold zrI; omega) ?_
    refine zr_istore (pc := 33) S dX12_empty_33 (by decide) ?_
    dsimp only [zst1, zst2, zset, zget, zlong]
    have l := lp_X12_empty (E := E) (X := X) (Qp := Qp) (M := tz M 0) (u := u) (h := (M 181 (159 + 21 * u)).toNat) S (by omega) (by omega) (by rw [et]; exact au.2.2) (by rw [et]; exact fun s hs => (hh s hs).2.1) (by rw [et, en]; exact f) (M 181 (159 + 21 * u)).toNat 0 (by omega)
    have ez : zrow (tz M 0) 181 (bagT (tz M 0 181) u 0) = tz M 0 := zrow_s
    rw [ez, en] at l
    exact l
  refine zr_aload_n (pc := 0) S dX12_empty_0 rfl ?_
  refine zr_iconst (pc := 1) S dX12_empty_1 (by unfold zrI; omega) ?_
  refine zr_putI (pc := 2) S pX12_empty_80 dX12_empty_2 rfl (Nat.le_of_ble_eq_true rfl) rfl ?_
  refine zr_aload_n (pc := 5) S dX12_empty_5 rfl ?_
  refine zr_iload_n (pc := 6) S dX12_empty_6 rfl ?_
  refine zr_invV (pc := 7) S [zI _] (m_X12_isSort _) kX12_empty_99 dX12_empty_7 rfl (Nat.le_of_ble_eq_true rfl) rfl (Nat.le_of_ble_eq_true rfl) ⟨Nat.le_of_ble_eq_true rfl, Nat.le_of_ble_eq_true rfl⟩ (us_X12_isSort h0.1 ?_)
  dsimp only [zaft, Option.toList, List.cons_append, List.nil_append, Nat.add_zero]
  refine zr_if_ne (pc := 10) (tgt := 19) S dX12_empty_10 (by decide) (fun c10 => ?_) (fun c10 => ?_)
  · rw [b01_0, Classical.not_not] at c10
    have c10' : 0 ≤ u ∧ u ≤ M 181 0 - 1 := c10
    exact key (by omega)
  · rw [b01_0] at c10
    have f := hT (fun z => c10 (by show _ ∧ _ ≤ M 181 0 - 1; omega))
    refine zr_aload_n (pc := 13) S dX12_empty_13 rfl ?_
    refine zr_iconst (pc := 14) S dX12_empty_14 (by unfold zrI; omega) ?_
    refine zr_invV (pc := 15) S [zI _] (m_X12_fails _) kX12_empty_95 dX12_empty_15 rfl (Nat.le_of_ble_eq_true rfl) rfl (Nat.le_of_ble_eq_true rfl) ⟨Nat.le_of_ble_eq_true rfl, Nat.le_of_ble_eq_true rfl⟩ (us_X12_fails ?_)
    dsimp only [zaft, Option.toList, List.cons_append, List.nil_append, Nat.add_zero]
    exact zr_iret (pc := 18) S dX12_empty_18 rfl ⟨Nat.le_refl _, Nat.le_refl _⟩ (f)
theorem cp_in {M : zM} {B : Int} {n i : Nat} {s : Int} (hI : ICt B (vm M)) (hn : n < 8) (hi : (i : Int) < M 181 (159 + 21 * n)) : M 181 ((159 : Int) + 21 * (n : Int) + ((i : Int) + 1)).toNat = vm M 18 ((n : Int) * 20 + i).toNat := by
  have h20 := hI.2.2.1 n hn
  rw [vm_hgt hn] at h20
  rw [show ((n : Int) * 20 + (i : Int)).toNat = n * 20 + i by omega, vm_coin hn (by omega)]
  congr 1
  omega
theorem lp_X12_there1 {E : zE} {X : zX} {Qp : Option zV → zM → Prop} {M : zM} {B a : Int} {s u : Nat} (S : zS (zg E) X cX12_there 5 wzX12_there RX12 (some .int)) (hu : u < 8) (hI : ICt B (vm M)) (ha : 0 ≤ a ∧ a ≤ 2000000) (hk : ∀ l4, zK (zg E) rmX12_there 5 (Qp, 0, 0) X (0, 0) 72 [some (zR 180), some (zI s), some (zI (a + coinsIn (vm M) u s)), some (zI u), some (zI l4)] [] M) : ∀ (n i : Nat), (n : Int) + i = M 181 (159 + 21 * u) → zK (zg E) rmX12_there 5 (Qp, 0, 0) X (0, 0) 26 [some (zR 180), some (zI s), some (zI (a + cntE (fun i => vm M 18 ((u : Int) * 20 + i).toNat) s i)), some (zI u), some (zI ((i : Int) + 1))] [] M := by
  have e0 : ((159 : Int) + 21 * (u : Int)).toNat = 159 + 21 * u := by omega
  have h20 := hI.2.2.1 u hu
  rw [vm_hgt hu] at h20
  intro n
  induction n with
  | zero =>
    intro i hi
    have k := hk ((i : Int) + 1)
    have e : coinsIn (vm M) u s = cntE (fun i => vm M 18 ((u : Int) * 20 + i).toNat) s i := by unfold coinsIn; rw [Int.toNat_natCast, vm_hgt hu, ← hi, show ((0 : Nat) : Int) + (i : Int) = i by omega, Int.toNat_natCast]
    rw [e] at k
    refine zr_iload (pc := 26) S dX12_there_26 rfl ?_
    refine zr_aload_n (pc := 28) S dX12_there_28 rfl ?_
    refine zr_getR (pc := 29) S fX12_there_9 dX12_there_29 rfl (Nat.le_of_ble_eq_true rfl) rfl ?_
    refine zr_aload_n (pc := 32) S dX12_there_32 rfl ?_
    refine zr_iload_n (pc := 33) S dX12_there_33 rfl ?_
    refine zr_invV (pc := 34) S [zI _] (m_X12_tubeAt _) kX12_there_293 dX12_there_34 rfl (Nat.le_of_ble_eq_true rfl) rfl (Nat.le_of_ble_eq_true rfl) ⟨Nat.le_of_ble_eq_true rfl, Nat.le_of_ble_eq_true rfl⟩ (us_X12_tubeAt (by omega) (by omega) ?_)
    dsimp only [zaft, Option.toList, List.cons_append, List.nil_append, Nat.add_zero]
    refine zr_iaload (pc := 37) S dX12_there_37 rfl (Nat.le_of_ble_eq_true rfl) (by omega) (by omega) ?_
    rw [e0]
    refine zr_icmp_gt (pc := 38) (tgt := 72) S dX12_there_38 (by decide) (fun c38 => ?_) (fun c38 => absurd c38 (by omega))
    exact k
  | succ n ih =>
    intro i hi
    have b := cntE_r (fun i => vm M 18 ((u : Int) * 20 + i).toNat) s i
    have e1 := cp_in (s := s) hI hu (i := i) (by omega)
    have k := ih (i + 1) (by omega)
    have ec : cntE (fun i => vm M 18 ((u : Int) * 20 + i).toNat) s (i + 1) = cntE (fun i => vm M 18 ((u : Int) * 20 + i).toNat) s i + (if vm M 18 ((u : Int) * 20 + i).toNat = s then 1 else 0) := rfl
    rw [ec, Int.natCast_add, Int.natCast_one, ← Int.add_assoc] at k
    refine zr_iload (pc := 26) S dX12_there_26 rfl ?_
    refine zr_aload_n (pc := 28) S dX12_there_28 rfl ?_
    refine zr_getR (pc := 29) S fX12_there_9 dX12_there_29 rfl (Nat.le_of_ble_eq_true rfl) rfl ?_
    refine zr_aload_n (pc := 32) S dX12_there_32 rfl ?_
    refine zr_iload_n (pc := 33) S dX12_there_33 rfl ?_
    refine zr_invV (pc := 34) S [zI _] (m_X12_tubeAt _) kX12_there_293 dX12_there_34 rfl (Nat.le_of_ble_eq_true rfl) rfl (Nat.le_of_ble_eq_true rfl) ⟨Nat.le_of_ble_eq_true rfl, Nat.le_of_ble_eq_true rfl⟩ (us_X12_tubeAt (by omega) (by omega) ?_)
    dsimp only [zaft, Option.toList, List.cons_append, List.nil_append, Nat.add_zero]
    refine zr_iaload (pc := 37) S dX12_there_37 rfl (Nat.le_of_ble_eq_true rfl) (by omega) (by omega) ?_
    rw [e0]
    refine zr_icmp_gt (pc := 38) (tgt := 72) S dX12_there_38 (by decide) (fun c38 => absurd c38 (by omega)) (fun c38 => ?_)
    refine zr_iload_n (pc := 41) S dX12_there_41 rfl ?_
    refine zr_aload_n (pc := 42) S dX12_there_42 rfl ?_
    refine zr_getR (pc := 43) S fX12_there_9 dX12_there_43 rfl (Nat.le_of_ble_eq_true rfl) rfl ?_
    refine zr_aload_n (pc := 46) S dX12_there_46 rfl ?_
    refine zr_iload_n (pc := 47) S dX12_there_47 rfl ?_
    refine zr_invV (pc := 48) S [zI _] (m_X12_tubeAt _) kX12_there_293 dX12_there_48 rfl (Nat.le_of_ble_eq_true rfl) rfl (Nat.le_of_ble_eq_true rfl) ⟨Nat.le_of_ble_eq_true rfl, Nat.le_of_ble_eq_true rfl⟩ (us_X12_tubeAt (by omega) (by omega) ?_)
    dsimp only [zaft, Option.toList, List.cons_append, List.nil_append, Nat.add_zero]
    refine zr_iload (pc := 51) S dX12_there_51 rfl ?_
    refine zr_iadd (pc := 53) S dX12_there_53 (by unfold zrI; omega) ?_
    refine zr_iaload (pc := 54) S dX12_there_54 rfl (Nat.le_of_ble_eq_true rfl) (by omega) (by omega) ?_
    rw [e1]
    refine zr_iload_n (pc := 55) S dX12_there_55 rfl ?_
    refine zr_icmp_ne (pc := 56) (tgt := 63) S dX12_there_56 (by decide) (fun c56 => ?_) (fun c56 => ?_)
    · rw [if_neg c56] at k
      refine zr_iconst (pc := 63) S dX12_there_63 (by unfold zrI; omega) ?_
      refine zr_iadd (pc := 64) S dX12_there_64 (by unfold zrI; omega) ?_
      refine zr_istore_n (pc := 65) S 2 dX12_there_65 rfl (by decide) ?_
      dsimp only [zst1, zst2, zset, zget, zlong]
      refine zr_iinc (pc := 66) S dX12_there_66 rfl (by unfold zrI; omega) (by decide) ?_
      dsimp only [zst1, zst2, zset, zget, zlong]
      refine zr_goto (pc := 69) (tgt := 26) S dX12_there_69 (by decide) ?_
      exact k
    · rw [if_pos c56] at k
      refine zr_iconst (pc := 59) S dX12_there_59 (by unfold zrI; omega) ?_
      refine zr_goto (pc := 60) (tgt := 64) S dX12_there_60 (by decide) ?_
      refine zr_iadd (pc := 64) S dX12_there_64 (by unfold zrI; omega) ?_
      refine zr_istore_n (pc := 65) S 2 dX12_there_65 rfl (by decide) ?_
      dsimp only [zst1, zst2, zset, zget, zlong]
      refine zr_iinc (pc := 66) S dX12_there_66 rfl (by unfold zrI; omega) (by decide) ?_
      dsimp only [zst1, zst2, zset, zget, zlong]
      refine zr_goto (pc := 69) (tgt := 26) S dX12_there_69 (by decide) ?_
      exact k
/-- only the tubes of sorts hold coins -/
def ICe (M : zM) : Prop := ∀ u : Nat, u < 8 → M 2 0 ≤ u → M 19 u = 0
theorem thereU_e {M : zM} (h : ICe M) {s : Int} : ∀ n k : Nat, n + k ≤ 8 → M 2 0 ≤ n → thereU M s (n + k) = thereU M s n
  | n, 0, _, _ => rfl
  | n, k + 1, hk, hn => by
    have := thereU_e h (s := s) n k (by omega) hn
    show thereU M s (n + k) + coinsIn M (n + k : Nat) s = _
    rw [this]
    have e : coinsIn M ((n + k : Nat) : Int) s = 0 := by
      unfold coinsIn
      rw [Int.toNat_natCast, h (n + k) (by omega) (by omega)]
      rfl
    rw [e, Int.add_zero]
theorem lp_X12_there {E : zE} {X : zX} {Qp : Option zV → zM → Prop} {M : zM} {B : Int} {s : Nat} (S : zS (zg E) X cX12_there 5 wzX12_there RX12 (some .int)) (hs : s < 8) (hI : ICt B (vm M)) (hB : B ≤ 1000000) (he : ICe (vm M)) (h0 : 0 ≤ M 181 0 ∧ M 181 0 ≤ 8) (hQ : Qp (some (zI (there (vm M) s))) M) : ∀ (n i : Nat) (l4 : Option zV), (n : Int) + i = M 181 0 → zK (zg E) rmX12_there 5 (Qp, 0, 0) X (0, 0) 13 [some (zR 180), some (zI s), some (zI (thereU (vm M) s i)), some (zI i), l4] [] M := by
  intro n
  induction n with
  | zero =>
    intro i l4 hi
    have e : there (vm M) s = thereU (vm M) s i := by
      unfold there
      have := thereU_e he (s := s) i (8 - i) (by omega) (by rw [vm_many]; omega)
      rw [show i + (8 - i) = 8 by omega] at this
      exact this
    rw [e] at hQ
    refine zr_iload_n (pc := 13) S dX12_there_13 rfl ?_
    refine zr_aload_n (pc := 14) S dX12_there_14 rfl ?_
    refine zr_getR (pc := 15) S fX12_there_9 dX12_there_15 rfl (Nat.le_of_ble_eq_true rfl) rfl ?_
    refine zr_iconst (pc := 18) S dX12_there_18 (by unfold zrI; omega) ?_
    refine zr_iaload (pc := 19) S dX12_there_19 rfl (Nat.le_of_ble_eq_true rfl) (by omega) (by omega) ?_
    dsimp only [Int.reduceToNat]
    refine zr_icmp_ge (pc := 20) (tgt := 78) S dX12_there_20 (by decide) (fun c20 => ?_) (fun c20 => absurd c20 (by omega))
    refine zr_iload_n (pc := 78) S dX12_there_78 rfl ?_
    exact zr_iret (pc := 79) S dX12_there_79 rfl ⟨Nat.le_refl _, Nat.le_refl _⟩ (hQ)
  | succ n ih =>
    intro i l4 hi
    have a := thereU_r hI (s := s) (by omega) (by omega) i (by omega)
    have h20 := hI.2.2.1 i (by omega)
    rw [vm_hgt (by omega)] at h20
    have l := lp_X12_there1 (E := E) (X := X) (Qp := Qp) (a := thereU (vm M) s i) (s := s) (u := i) S (by omega) hI (by omega) (fun l4 => by
      have k := ih (i + 1) (some (zI l4)) (by omega)
      rw [Int.natCast_add, Int.natCast_one] at k
      refine zr_iinc (pc := 72) S dX12_there_72 rfl (by unfold zrI; omega) (by decide) ?_
      dsimp only [zst1, zst2, zset, zget, zlong]
      refine zr_goto (pc := 75) (tgt := 13) S dX12_there_75 (by decide) ?_
      exact k) (M 181 (159 + 21 * i)).toNat 0 (by omega)
    rw [show cntE (fun i_1 => vm M 18 ((i : Int) * 20 + i_1).toNat) s 0 = 0 from rfl, Int.add_zero] at l
    refine zr_iload_n (pc := 13) S dX12_there_13 rfl ?_
    refine zr_aload_n (pc := 14) S dX12_there_14 rfl ?_
    refine zr_getR (pc := 15) S fX12_there_9 dX12_there_15 rfl (Nat.le_of_ble_eq_true rfl) rfl ?_
    refine zr_iconst (pc := 18) S dX12_there_18 (by unfold zrI; omega) ?_
    refine zr_iaload (pc := 19) S dX12_there_19 rfl (Nat.le_of_ble_eq_true rfl) (by omega) (by omega) ?_
    dsimp only [Int.reduceToNat]
    refine zr_icmp_ge (pc := 20) (tgt := 78) S dX12_there_20 (by decide) (fun c20 => absurd c20 (by omega)) (fun c20 => ?_)
    refine zr_iconst (pc := 23) S dX12_there_23 (by unfold zrI; omega) ?_
    refine zr_istore (pc := 24) S dX12_there_24 (by decide) ?_
    dsimp only [zst1, zst2, zset, zget, zlong]
    exact l
def sp_X12_there (as : List zV) (M : zM) (Q : Option zV → zM → Prop) : Prop := ∃ (B s : Int), as = [zR 180, zI s] ∧ (0 ≤ s ∧ s < 8) ∧ (ICt B (vm M)) ∧ (B ≤ 1000000) ∧ (ICe (vm M)) ∧ (0 ≤ M 181 0 ∧ M 181 0 ≤ 8) ∧ (Q (some (zI (there (vm M) s))) M)
theorem us_X12_there {B s : Int} {M : zM} {Q : Option zV → zM → Prop} (hs : 0 ≤ s ∧ s < 8) (hI : ICt B (vm M)) (hB : B ≤ 1000000) (he : ICe (vm M)) (h0 : 0 ≤ M 181 0 ∧ M 181 0 ≤ 8) (hQ : Q (some (zI (there (vm M) s))) M) : sp_X12_there [zR 180, zI s] M Q := ⟨B, s, rfl, hs, hI, hB, he, h0, hQ⟩
set_option maxRecDepth 20000 in
set_option maxHeartbeats 4000000 in
theorem m_X12_there (l : Launch) : zC l yX12_there wzX12_there rmX12_there sp_X12_there := by
  refine zMet.of RX12 (by decide +kernel) rfl rfl ?_
  intro E X as M Qp hX S hsp
  obtain ⟨B, s, rfl, hs, hI, hB, he, h0, hQ⟩ := hsp
  refine ⟨Nat.le_of_ble_eq_true rfl, ?_⟩
  dsimp only [zpad, zargs]
  obtain ⟨s, rfl⟩ : ∃ n : Nat, s = n := ⟨s.toNat, by omega⟩
  have e : M 181 ((327 : Int) + (s : Int)).toNat = thereU (vm M) s 0 := by
    show _ = vm M 20 (s : Int).toNat
    rw [Int.toNat_natCast, vm_bag (by omega)]
    congr 1
  refine zr_aload_n (pc := 0) S dX12_there_0 rfl ?_
  refine zr_getR (pc := 1) S fX12_there_9 dX12_there_1 rfl (Nat.le_of_ble_eq_true rfl) rfl ?_
  refine zr_sipush (pc := 4) S dX12_there_4 ⟨by unfold zrI; omega, by decide⟩ ?_
  refine zr_iload_n (pc := 7) S dX12_there_7 rfl ?_
  refine zr_iadd (pc := 8) S dX12_there_8 (by unfold zrI; omega) ?_
  refine zr_iaload (pc := 9) S dX12_there_9 rfl (Nat.le_of_ble_eq_true rfl) (by omega) (by omega) ?_
  rw [e]
  refine zr_istore_n (pc := 10) S 2 dX12_there_10 rfl (by decide) ?_
  dsimp only [zst1, zst2, zset, zget, zlong]
  refine zr_iconst (pc := 11) S dX12_there_11 (by unfold zrI; omega) ?_
  refine zr_istore_n (pc := 12) S 3 dX12_there_12 rfl (by decide) ?_
  dsimp only [zst1, zst2, zset, zget, zlong]
  exact lp_X12_there S (by omega) hI hB he h0 hQ (M 181 0).toNat 0 none (by omega)
theorem AG.e {M N : zM} (h : AG M N) (he : ICe M) : ICe N := by
  unfold ICe at *
  rw [h 2 (by decide), h 19 (by decide)]
  exact he
theorem ag_there {M N : zM} (h : AG M N) (s : Int) : there N s = there M s := ag_thereU h s 8
def sp_X12_wheel (as : List zV) (M : zM) (Q : Option zV → zM → Prop) : Prop := ∃ (B s w : Int), as = [zR 180, zI s, zI w] ∧ (0 ≤ M 181 0 ∧ M 181 0 ≤ 8) ∧ (ICt B (vm M)) ∧ (B ≤ 1000000) ∧ (ICe (vm M)) ∧ ((0 ≤ s ∧ s < M 181 0) → (0 ≤ w ∧ w ≤ 3) → Q (some (zI (if w = 0 then vm M 22 s.toNat else if w = 1 then vm M 21 s.toNat + vm M 22 s.toNat else if w = 2 then there (vm M) s else odd (vm M) s))) (tz M 0)) ∧ (¬ (0 ≤ s ∧ s < M 181 0) → Q (some (zI 0)) (tz (tz M 0) 1)) ∧ ((0 ≤ s ∧ s < M 181 0) → ¬ (0 ≤ w ∧ w ≤ 3) → Q (some (zI 0)) (tz (tz M 0) 2))
theorem us_X12_wheel {B s w : Int} {M : zM} {Q : Option zV → zM → Prop} (h0 : 0 ≤ M 181 0 ∧ M 181 0 ≤ 8) (hI : ICt B (vm M)) (hB : B ≤ 1000000) (he : ICe (vm M)) (hQ : (0 ≤ s ∧ s < M 181 0) → (0 ≤ w ∧ w ≤ 3) → Q (some (zI (if w = 0 then vm M 22 s.toNat else if w = 1 then vm M 21 s.toNat + vm M 22 s.toNat else if w = 2 then there (vm M) s else odd (vm M) s))) (tz M 0)) (hT : ¬ (0 ≤ s ∧ s < M 181 0) → Q (some (zI 0)) (tz (tz M 0) 1)) (hU : (0 ≤ s ∧ s < M 181 0) → ¬ (0 ≤ w ∧ w ≤ 3) → Q (some (zI 0)) (tz (tz M 0) 2)) : sp_X12_wheel [zR 180, zI s, zI w] M Q := ⟨B, s, w, rfl, h0, hI, hB, he, hQ, hT, hU⟩
set_option maxRecDepth 20000 in
set_option maxHeartbeats 4000000 in
theorem m_X12_wheel (l : Launch) : zC l yX12_wheel wzX12_wheel rmX12_wheel sp_X12_wheel := by
  refine zMet.of RX12 (by decide +kernel) rfl rfl ?_
  intro E X as M Qp hX S hsp
  obtain ⟨B, s, w, rfl, h0, hI, hB, he, hQ, hT, hU⟩ := hsp
  refine ⟨Nat.le_of_ble_eq_true rfl, ?_⟩
  dsimp only [zpad, zargs]
  have key : (0 ≤ s ∧ s < M 181 0) → (0 ≤ w ∧ w ≤ 3) → zK (zg E) rmX12_wheel 3 (Qp, 0, 0) X (0, 0) 37 [some (zR 180), some (zI s), some (zI w)] [] (tz M 0) := by
    intro c1 c2
    have f := hQ c1 c2
    have a := hI.b c1.1 (by omega)
    have tr := thereU_r hI (s := s) c1.1 (by omega) 8 (by omega)
    have e1 : M 181 (343 + s).toNat = vm M 22 s.toNat := by rw [vm_whl (by omega)]; congr 1; omega
    have e2 : M 181 (335 + s).toNat = vm M 21 s.toNat := by rw [vm_ldd (by omega)]; congr 1; omega
    have et : tz M 0 181 = M 181 := zup_o _ (by decide)
    have ed : tz M 0 181 (335 + s).toNat + tz M 0 181 (343 + s).toNat = vm M 21 s.toNat + vm M 22 s.toNat := by rw [et, e1, e2]
    have er : zrI (tz M 0 181 (335 + s).toNat + tz M 0 181 (343 + s).toNat) := by rw [ed]; unfold zrI; omega
    have eth := ag_there (tz_ag M 0) s
    have eo : there (vm M) s - (vm M 21 s.toNat + vm M 22 s.toNat) = odd (vm M) s := rfl
    have or' := odd_r hI c1.1 (by omega)
    have T := (tz_ag M 0).t hI
    have Te := (tz_ag M 0).e he
    refine zr_iload_n (pc := 37) S dX12_wheel_37 rfl ?_
    refine zr_if_ne (pc := 38) (tgt := 54) S dX12_wheel_38 (by decide) (fun c38 => ?_) (fun c38 => ?_)
    · rw [if_neg c38] at f
      refine zr_iload_n (pc := 54) S dX12_wheel_54 rfl ?_
      refine zr_iconst (pc := 55) S dX12_wheel_55 (by unfold zrI; omega) ?_
      refine zr_icmp_ne (pc := 56) (tgt := 67) S dX12_wheel_56 (by decide) (fun c56 => ?_) (fun c56 => ?_)
      · rw [if_neg c56] at f
        refine zr_iload_n (pc := 67) S dX12_wheel_67 rfl ?_
        refine zr_iconst (pc := 68) S dX12_wheel_68 (by unfold zrI; omega) ?_
        refine zr_icmp_ne (pc := 69) (tgt := 80) S dX12_wheel_69 (by decide) (fun c69 => ?_) (fun c69 => ?_)
        · rw [if_neg c69] at f
          refine zr_aload_n (pc := 80) S dX12_wheel_80 rfl ?_
          refine zr_iload_n (pc := 81) S dX12_wheel_81 rfl ?_
          refine zr_invV (pc := 82) S [zI _] (m_X12_there _) kX12_wheel_329 dX12_wheel_82 rfl (Nat.le_of_ble_eq_true rfl) rfl (Nat.le_of_ble_eq_true rfl) ⟨Nat.le_of_ble_eq_true rfl, Nat.le_of_ble_eq_true rfl⟩ (us_X12_there ⟨c1.1, by omega⟩ T hB Te (by rw [et]; exact h0) ?_)
          dsimp only [zaft, Option.toList, List.cons_append, List.nil_append, Nat.add_zero]
          rw [eth]
          refine zr_aload_n (pc := 85) S dX12_wheel_85 rfl ?_
          refine zr_iload_n (pc := 86) S dX12_wheel_86 rfl ?_
          refine zr_invV (pc := 87) S [zI _] (m_X12_due _) kX12_wheel_326 dX12_wheel_87 rfl (Nat.le_of_ble_eq_true rfl) rfl (Nat.le_of_ble_eq_true rfl) ⟨Nat.le_of_ble_eq_true rfl, Nat.le_of_ble_eq_true rfl⟩ (us_X12_due c1.1 (by omega) er ?_)
          dsimp only [zaft, Option.toList, List.cons_append, List.nil_append, Nat.add_zero]
          rw [ed]
          refine zr_isub (pc := 90) S dX12_wheel_90 (by rw [eo]; unfold zrI; omega) ?_
          exact zr_iret (pc := 91) S dX12_wheel_91 rfl ⟨Nat.le_refl _, Nat.le_refl _⟩ (f)
        · rw [if_pos c69] at f
          refine zr_aload_n (pc := 72) S dX12_wheel_72 rfl ?_
          refine zr_iload_n (pc := 73) S dX12_wheel_73 rfl ?_
          refine zr_invV (pc := 74) S [zI _] (m_X12_there _) kX12_wheel_329 dX12_wheel_74 rfl (Nat.le_of_ble_eq_true rfl) rfl (Nat.le_of_ble_eq_true rfl) ⟨Nat.le_of_ble_eq_true rfl, Nat.le_of_ble_eq_true rfl⟩ (us_X12_there ⟨c1.1, by omega⟩ T hB Te (by rw [et]; exact h0) ?_)
          dsimp only [zaft, Option.toList, List.cons_append, List.nil_append, Nat.add_zero]
          rw [eth]
          refine zr_goto (pc := 77) (tgt := 91) S dX12_wheel_77 (by decide) ?_
          exact zr_iret (pc := 91) S dX12_wheel_91 rfl ⟨Nat.le_refl _, Nat.le_refl _⟩ (f)
      · rw [if_pos c56] at f
        refine zr_aload_n (pc := 59) S dX12_wheel_59 rfl ?_
        refine zr_iload_n (pc := 60) S dX12_wheel_60 rfl ?_
        refine zr_invV (pc := 61) S [zI _] (m_X12_due _) kX12_wheel_326 dX12_wheel_61 rfl (Nat.le_of_ble_eq_true rfl) rfl (Nat.le_of_ble_eq_true rfl) ⟨Nat.le_of_ble_eq_true rfl, Nat.le_of_ble_eq_true rfl⟩ (us_X12_due c1.1 (by omega) er ?_)
        dsimp only [zaft, Option.toList, List.cons_append, List.nil_append, Nat.add_zero]
        rw [ed]
        refine zr_goto (pc := 64) (tgt := 91) S dX12_wheel_64 (by decide) ?_
        exact zr_iret (pc := 91) S dX12_wheel_91 rfl ⟨Nat.le_refl _, Nat.le_refl _⟩ (f)
    · rw [if_pos c38] at f
      refine zr_aload_n (pc := 41) S dX12_wheel_41 rfl ?_
      refine zr_getR (pc := 42) S fX12_wheel_9 dX12_wheel_42 rfl (Nat.le_of_ble_eq_true rfl) rfl ?_
      refine zr_sipush (pc := 45) S dX12_wheel_45 ⟨by unfold zrI; omega, by decide⟩ ?_
      refine zr_iload_n (pc := 48) S dX12_wheel_48 rfl ?_
      refine zr_iadd (pc := 49) S dX12_wheel_49 (by unfold zrI; omega) ?_
      refine zr_iaload (pc := 50) S dX12_wheel_50 rfl (Nat.le_of_ble_eq_true rfl) (by omega) (by omega) ?_
      rw [et, e1]
      refine zr_goto (pc := 51) (tgt := 91) S dX12_wheel_51 (by decide) ?_
      exact zr_iret (pc := 91) S dX12_wheel_91 rfl ⟨Nat.le_refl _, Nat.le_refl _⟩ (f)
  refine zr_aload_n (pc := 0) S dX12_wheel_0 rfl ?_
  refine zr_iconst (pc := 1) S dX12_wheel_1 (by unfold zrI; omega) ?_
  refine zr_putI (pc := 2) S pX12_wheel_80 dX12_wheel_2 rfl (Nat.le_of_ble_eq_true rfl) rfl ?_
  refine zr_aload_n (pc := 5) S dX12_wheel_5 rfl ?_
  refine zr_iload_n (pc := 6) S dX12_wheel_6 rfl ?_
  refine zr_invV (pc := 7) S [zI _] (m_X12_isSort _) kX12_wheel_99 dX12_wheel_7 rfl (Nat.le_of_ble_eq_true rfl) rfl (Nat.le_of_ble_eq_true rfl) ⟨Nat.le_of_ble_eq_true rfl, Nat.le_of_ble_eq_true rfl⟩ (us_X12_isSort h0.1 ?_)
  dsimp only [zaft, Option.toList, List.cons_append, List.nil_append, Nat.add_zero]
  refine zr_if_ne (pc := 10) (tgt := 19) S dX12_wheel_10 (by decide) (fun c10 => ?_) (fun c10 => ?_)
  · rw [b01_0, Classical.not_not] at c10
    have c10' : 0 ≤ s ∧ s ≤ M 181 0 - 1 := c10
    refine zr_iload_n (pc := 19) S dX12_wheel_19 rfl ?_
    refine zr_i2l (pc := 20) S dX12_wheel_20 ?_
    refine zr_lconst0 (pc := 21) S dX12_wheel_21 ?_
    refine zr_ldc2 (pc := 22) S (3) dX12_wheel_22 (List.mem_cons_of_mem _ (zWi_7 _ (List.mem_of_getElem? (i := 24) rfl))) (by unfold zrL; omega) ?_
    refine zr_invS (pc := 25) S [zL _, zL _, zL _] (m_X12_within _) kX12_wheel_83 dX12_wheel_25 (Nat.le_of_ble_eq_true rfl) ⟨Nat.le_of_ble_eq_true rfl, Nat.le_of_ble_eq_true rfl⟩ (us_X12_within ?_)
    dsimp only [zaft, Option.toList, List.cons_append, List.nil_append, Nat.add_zero]
    refine zr_if_ne (pc := 28) (tgt := 37) S dX12_wheel_28 (by decide) (fun c28 => ?_) (fun c28 => ?_)
    · rw [b01_0, Classical.not_not] at c28
      exact key (by omega) c28
    · rw [b01_0] at c28
      have f := hU (by omega) c28
      refine zr_aload_n (pc := 31) S dX12_wheel_31 rfl ?_
      refine zr_iconst (pc := 32) S dX12_wheel_32 (by unfold zrI; omega) ?_
      refine zr_invV (pc := 33) S [zI _] (m_X12_fails _) kX12_wheel_95 dX12_wheel_33 rfl (Nat.le_of_ble_eq_true rfl) rfl (Nat.le_of_ble_eq_true rfl) ⟨Nat.le_of_ble_eq_true rfl, Nat.le_of_ble_eq_true rfl⟩ (us_X12_fails ?_)
      dsimp only [zaft, Option.toList, List.cons_append, List.nil_append, Nat.add_zero]
      exact zr_iret (pc := 36) S dX12_wheel_36 rfl ⟨Nat.le_refl _, Nat.le_refl _⟩ (f)
  · rw [b01_0] at c10
    have f := hT (fun z => c10 (by show _ ∧ _ ≤ M 181 0 - 1; omega))
    refine zr_aload_n (pc := 13) S dX12_wheel_13 rfl ?_
    refine zr_iconst (pc := 14) S dX12_wheel_14 (by unfold zrI; omega) ?_
    refine zr_invV (pc := 15) S [zI _] (m_X12_fails _) kX12_wheel_95 dX12_wheel_15 rfl (Nat.le_of_ble_eq_true rfl) rfl (Nat.le_of_ble_eq_true rfl) ⟨Nat.le_of_ble_eq_true rfl, Nat.le_of_ble_eq_true rfl⟩ (us_X12_fails ?_)
    dsimp only [zaft, Option.toList, List.cons_append, List.nil_append, Nat.add_zero]
    exact zr_iret (pc := 18) S dX12_wheel_18 rfl ⟨Nat.le_refl _, Nat.le_refl _⟩ (f)
end
