section
def rmX11_buyer : Room := { frames := 8, cells := 6, slots := 36, locals := 131 }
abbrev wzX11_buyer : List Cond := .code yX11_buyer cX11_buyer 9 (some .int) :: zW
def rmX11_tray : Room := { frames := 7, cells := 3, slots := 18, locals := 110 }
abbrev wzX11_tray : List Cond := .code yX11_tray cX11_tray 4 none :: zW
def rmX11_trayAt : Room := { frames := 7, cells := 2, slots := 12, locals := 110 }
abbrev wzX11_trayAt : List Cond := .code yX11_trayAt cX11_trayAt 2 (some (.object "SlotCoins$Tray")) :: zW
def rmX11_write : Room := { frames := 8, cells := 3, slots := 18, locals := 131 }
abbrev wzX11_write : List Cond := .code yX11_write cX11_write 6 (some .long) :: zW
def rmX11_pour : Room := { frames := 8, cells := 4, slots := 24, locals := 131 }
abbrev wzX11_pour : List Cond := .code yX11_pour cX11_pour 5 (some .int) :: zW
def rmX11_image : Room := { frames := 7, cells := 1, slots := 6, locals := 123 }
abbrev wzX11_image : List Cond := .code yX11_image cX11_image 2 none :: zW
def rmX11_restore : Room := { frames := 7, cells := 2, slots := 12, locals := 123 }
abbrev wzX11_restore : List Cond := .code yX11_restore cX11_restore 2 none :: zW
theorem fX11_buyer_10 : zfl wzX11_buyer RX11 vwCl 10 11 0 := ⟨_, _, _, rfl, (fun w h => List.mem_cons_of_mem _ (zWuX11 w h)), by decide, List.mem_cons_of_mem _ (zWi_8 _ (List.mem_of_getElem? (i := 6) rfl))⟩
theorem kX11_buyer_249 : ∀ (s9 : State) (a9 : Array Value), (∀ w ∈ wzX11_buyer, w.before a9 s9 = true) → CallW rmX11_buyer s9 a9 RX11 RX11 249 yX11_needGood cX11_needGood 2 none wzX11_needGood rmX11_needGood 1 6 1 := zcV (zWi_21 _ (List.mem_of_getElem? (i := 22) rfl)) (zWi_13 _ (List.mem_of_getElem? (i := 16) rfl)) (zWi_26 _ (List.mem_of_getElem? (i := 8) rfl)) (zWi_12 _ (List.mem_of_getElem? (i := 12) rfl)) (zWi_1 _ (List.mem_of_getElem? (i := 42) rfl)) (by decide +kernel) rfl rfl ⟨Nat.le_of_ble_eq_true rfl, Nat.le_of_ble_eq_true rfl⟩
theorem kX11_buyer_109 : ∀ (s9 : State) (a9 : Array Value), (∀ w ∈ wzX11_buyer, w.before a9 s9 = true) → CallW rmX11_buyer s9 a9 RX11 RX11 109 yX11_needSort cX11_needSort 2 none wzX11_needSort rmX11_needSort 1 6 1 := zcV (zWi_21 _ (List.mem_of_getElem? (i := 2) rfl)) (zWi_13 _ (List.mem_of_getElem? (i := 18) rfl)) (zWi_26 _ (List.mem_of_getElem? (i := 10) rfl)) (zWi_12 _ (List.mem_of_getElem? (i := 12) rfl)) (zWi_1 _ (List.mem_of_getElem? (i := 44) rfl)) (by decide +kernel) rfl rfl ⟨Nat.le_of_ble_eq_true rfl, Nat.le_of_ble_eq_true rfl⟩
theorem kX11_buyer_93 : ∀ (s9 : State) (a9 : Array Value), (∀ w ∈ wzX11_buyer, w.before a9 s9 = true) → CallB rmX11_buyer s9 a9 RX11 93 yX11_within cX11_within 6 (some .boolean) wzX11_within rmX11_within 0 0 3 ∧ (Cond.static yX11_within).before a9 s9 = true := zcS (zWi_22 _ (List.mem_of_getElem? (i := 14) rfl)) (zWi_31 _ (List.mem_of_getElem? (i := 9) rfl)) (zWi_12 _ (List.mem_of_getElem? (i := 12) rfl)) (zWi_2 _ (List.mem_of_getElem? (i := 17) rfl)) (by decide +kernel) rfl rfl ⟨Nat.le_of_ble_eq_true rfl, Nat.le_of_ble_eq_true rfl⟩
theorem kX11_buyer_97 : ∀ (s9 : State) (a9 : Array Value), (∀ w ∈ wzX11_buyer, w.before a9 s9 = true) → CallB rmX11_buyer s9 a9 RX11 97 yX11_need cX11_need 1 none wzX11_need rmX11_need 1 6 1 ∧ (Cond.static yX11_need).before a9 s9 = true := zcS (zWi_22 _ (List.mem_of_getElem? (i := 15) rfl)) (zWi_31 _ (List.mem_of_getElem? (i := 6) rfl)) (zWi_12 _ (List.mem_of_getElem? (i := 12) rfl)) (zWi_1 _ (List.mem_of_getElem? (i := 40) rfl)) (by decide +kernel) rfl rfl ⟨Nat.le_of_ble_eq_true rfl, Nat.le_of_ble_eq_true rfl⟩
theorem kX11_buyer_367 : ∀ (s9 : State) (a9 : Array Value), (∀ w ∈ wzX11_buyer, w.before a9 s9 = true) → CallW rmX11_buyer s9 a9 RX11 RX8 367 yX8_addBuyer cX8_addBuyer 4 (some .int) wzX8_addBuyer rmX8_addBuyer 0 0 3 := zcV (zWi_21 _ (List.mem_of_getElem? (i := 45) rfl)) (zWi_17 _ (List.mem_of_getElem? (i := 3) rfl)) (zWi_29 _ (List.mem_of_getElem? (i := 29) rfl)) (zWi_12 _ (List.mem_of_getElem? (i := 20) rfl)) (zWi_5 _ (List.mem_of_getElem? (i := 37) rfl)) (by decide +kernel) rfl rfl ⟨Nat.le_of_ble_eq_true rfl, Nat.le_of_ble_eq_true rfl⟩
theorem kX11_buyer_370 : ∀ (s9 : State) (a9 : Array Value), (∀ w ∈ wzX11_buyer, w.before a9 s9 = true) → CallW rmX11_buyer s9 a9 RX11 RX8 370 yX8_tellCoins cX8_tellCoins 7 none wzX8_tellCoins rmX8_tellCoins 0 0 5 := zcV (zWi_21 _ (List.mem_of_getElem? (i := 46) rfl)) (zWi_17 _ (List.mem_of_getElem? (i := 8) rfl)) (zWi_29 _ (List.mem_of_getElem? (i := 33) rfl)) (zWi_12 _ (List.mem_of_getElem? (i := 20) rfl)) (zWi_5 _ (List.mem_of_getElem? (i := 42) rfl)) (by decide +kernel) rfl rfl ⟨Nat.le_of_ble_eq_true rfl, Nat.le_of_ble_eq_true rfl⟩
theorem fX11_tray_26 : zfl wzX11_tray RX11 vwCl 26 11 3 := ⟨_, _, _, rfl, (fun w h => List.mem_cons_of_mem _ (zWuX11 w h)), by decide, List.mem_cons_of_mem _ (zWi_8 _ (List.mem_of_getElem? (i := 28) rfl))⟩
theorem kX11_tray_93 : ∀ (s9 : State) (a9 : Array Value), (∀ w ∈ wzX11_tray, w.before a9 s9 = true) → CallB rmX11_tray s9 a9 RX11 93 yX11_within cX11_within 6 (some .boolean) wzX11_within rmX11_within 0 0 3 ∧ (Cond.static yX11_within).before a9 s9 = true := zcS (zWi_22 _ (List.mem_of_getElem? (i := 14) rfl)) (zWi_31 _ (List.mem_of_getElem? (i := 9) rfl)) (zWi_12 _ (List.mem_of_getElem? (i := 12) rfl)) (zWi_2 _ (List.mem_of_getElem? (i := 17) rfl)) (by decide +kernel) rfl rfl ⟨Nat.le_of_ble_eq_true rfl, Nat.le_of_ble_eq_true rfl⟩
theorem kX11_tray_115 : ∀ (s9 : State) (a9 : Array Value), (∀ w ∈ wzX11_tray, w.before a9 s9 = true) → CallB rmX11_tray s9 a9 RX11 115 yX11_needThere cX11_needThere 1 none wzX11_needThere rmX11_needThere 1 6 1 ∧ (Cond.static yX11_needThere).before a9 s9 = true := zcS (zWi_21 _ (List.mem_of_getElem? (i := 3) rfl)) (zWi_31 _ (List.mem_of_getElem? (i := 7) rfl)) (zWi_12 _ (List.mem_of_getElem? (i := 12) rfl)) (zWi_1 _ (List.mem_of_getElem? (i := 45) rfl)) (by decide +kernel) rfl rfl ⟨Nat.le_of_ble_eq_true rfl, Nat.le_of_ble_eq_true rfl⟩
theorem kX11_tray_97 : ∀ (s9 : State) (a9 : Array Value), (∀ w ∈ wzX11_tray, w.before a9 s9 = true) → CallB rmX11_tray s9 a9 RX11 97 yX11_need cX11_need 1 none wzX11_need rmX11_need 1 6 1 ∧ (Cond.static yX11_need).before a9 s9 = true := zcS (zWi_22 _ (List.mem_of_getElem? (i := 15) rfl)) (zWi_31 _ (List.mem_of_getElem? (i := 6) rfl)) (zWi_12 _ (List.mem_of_getElem? (i := 12) rfl)) (zWi_1 _ (List.mem_of_getElem? (i := 40) rfl)) (by decide +kernel) rfl rfl ⟨Nat.le_of_ble_eq_true rfl, Nat.le_of_ble_eq_true rfl⟩
theorem kX11_tray_399 : ∀ (s9 : State) (a9 : Array Value), (∀ w ∈ wzX11_tray, w.before a9 s9 = true) → CallW rmX11_tray s9 a9 RX11 RX10 399 yX10_lay cX10_lay 3 none wzX10_lay rmX10_lay 0 0 2 := zcV (zWi_22 _ (List.mem_of_getElem? (i := 2) rfl)) (zWi_12 _ (List.mem_of_getElem? (i := 40) rfl)) (zWi_25 _ (List.mem_of_getElem? (i := 33) rfl)) (zWi_12 _ (List.mem_of_getElem? (i := 11) rfl)) (zWi_1 _ (List.mem_of_getElem? (i := 14) rfl)) (by decide +kernel) rfl rfl ⟨Nat.le_of_ble_eq_true rfl, Nat.le_of_ble_eq_true rfl⟩
theorem fX11_trayAt_26 : zfl wzX11_trayAt RX11 vwCl 26 11 3 := ⟨_, _, _, rfl, (fun w h => List.mem_cons_of_mem _ (zWuX11 w h)), by decide, List.mem_cons_of_mem _ (zWi_8 _ (List.mem_of_getElem? (i := 28) rfl))⟩
theorem fX11_trayAt_446 : zfl wzX11_trayAt RX11 vwCl 446 10 0 := ⟨_, _, _, rfl, (fun w h => List.mem_cons_of_mem _ (zWuX10 w h)), by decide, List.mem_cons_of_mem _ (zWi_8 _ (List.mem_of_getElem? (i := 49) rfl))⟩
theorem kX11_trayAt_93 : ∀ (s9 : State) (a9 : Array Value), (∀ w ∈ wzX11_trayAt, w.before a9 s9 = true) → CallB rmX11_trayAt s9 a9 RX11 93 yX11_within cX11_within 6 (some .boolean) wzX11_within rmX11_within 0 0 3 ∧ (Cond.static yX11_within).before a9 s9 = true := zcS (zWi_22 _ (List.mem_of_getElem? (i := 14) rfl)) (zWi_31 _ (List.mem_of_getElem? (i := 9) rfl)) (zWi_12 _ (List.mem_of_getElem? (i := 12) rfl)) (zWi_2 _ (List.mem_of_getElem? (i := 17) rfl)) (by decide +kernel) rfl rfl ⟨Nat.le_of_ble_eq_true rfl, Nat.le_of_ble_eq_true rfl⟩
theorem kX11_trayAt_115 : ∀ (s9 : State) (a9 : Array Value), (∀ w ∈ wzX11_trayAt, w.before a9 s9 = true) → CallB rmX11_trayAt s9 a9 RX11 115 yX11_needThere cX11_needThere 1 none wzX11_needThere rmX11_needThere 1 6 1 ∧ (Cond.static yX11_needThere).before a9 s9 = true := zcS (zWi_21 _ (List.mem_of_getElem? (i := 3) rfl)) (zWi_31 _ (List.mem_of_getElem? (i := 7) rfl)) (zWi_12 _ (List.mem_of_getElem? (i := 12) rfl)) (zWi_1 _ (List.mem_of_getElem? (i := 45) rfl)) (by decide +kernel) rfl rfl ⟨Nat.le_of_ble_eq_true rfl, Nat.le_of_ble_eq_true rfl⟩
theorem fX11_write_406 : zfl wzX11_write RX11 vwCl 406 10 1 := ⟨_, _, _, rfl, (fun w h => List.mem_cons_of_mem _ (zWuX10 w h)), by decide, List.mem_cons_of_mem _ (zWi_8 _ (List.mem_of_getElem? (i := 45) rfl))⟩
theorem fX11_write_414 : zfl wzX11_write RX11 vwCl 414 10 2 := ⟨_, _, _, rfl, (fun w h => List.mem_cons_of_mem _ (zWuX10 w h)), by decide, List.mem_cons_of_mem _ (zWi_8 _ (List.mem_of_getElem? (i := 46) rfl))⟩
theorem kX11_write_402 : ∀ (s9 : State) (a9 : Array Value), (∀ w ∈ wzX11_write, w.before a9 s9 = true) → CallW rmX11_write s9 a9 RX11 RX11 402 yX11_trayAt cX11_trayAt 2 (some (.object "SlotCoins$Tray")) wzX11_trayAt rmX11_trayAt 2 12 1 := zcV (zWi_22 _ (List.mem_of_getElem? (i := 3) rfl)) (zWi_13 _ (List.mem_of_getElem? (i := 35) rfl)) (zWi_26 _ (List.mem_of_getElem? (i := 27) rfl)) (zWi_12 _ (List.mem_of_getElem? (i := 12) rfl)) (zWi_2 _ (List.mem_of_getElem? (i := 13) rfl)) (by decide +kernel) rfl rfl ⟨Nat.le_of_ble_eq_true rfl, Nat.le_of_ble_eq_true rfl⟩
theorem kX11_write_93 : ∀ (s9 : State) (a9 : Array Value), (∀ w ∈ wzX11_write, w.before a9 s9 = true) → CallB rmX11_write s9 a9 RX11 93 yX11_within cX11_within 6 (some .boolean) wzX11_within rmX11_within 0 0 3 ∧ (Cond.static yX11_within).before a9 s9 = true := zcS (zWi_22 _ (List.mem_of_getElem? (i := 14) rfl)) (zWi_31 _ (List.mem_of_getElem? (i := 9) rfl)) (zWi_12 _ (List.mem_of_getElem? (i := 12) rfl)) (zWi_2 _ (List.mem_of_getElem? (i := 17) rfl)) (by decide +kernel) rfl rfl ⟨Nat.le_of_ble_eq_true rfl, Nat.le_of_ble_eq_true rfl⟩
theorem kX11_write_417 : ∀ (s9 : State) (a9 : Array Value), (∀ w ∈ wzX11_write, w.before a9 s9 = true) → CallW rmX11_write s9 a9 RX11 RX10 417 yX10_cut cX10_cut 3 (some .long) wzX10_cut rmX10_cut 0 0 1 := zcV (zWi_22 _ (List.mem_of_getElem? (i := 4) rfl)) (zWi_12 _ (List.mem_of_getElem? (i := 37) rfl)) (zWi_25 _ (List.mem_of_getElem? (i := 31) rfl)) (zWi_12 _ (List.mem_of_getElem? (i := 11) rfl)) (zWi_1 _ (List.mem_of_getElem? (i := 11) rfl)) (by decide +kernel) rfl rfl ⟨Nat.le_of_ble_eq_true rfl, Nat.le_of_ble_eq_true rfl⟩
theorem fX11_pour_10 : zfl wzX11_pour RX11 vwCl 10 11 0 := ⟨_, _, _, rfl, (fun w h => List.mem_cons_of_mem _ (zWuX11 w h)), by decide, List.mem_cons_of_mem _ (zWi_8 _ (List.mem_of_getElem? (i := 6) rfl))⟩
theorem fX11_pour_39 : zfl wzX11_pour RX11 vwCl 39 8 0 := ⟨_, _, _, rfl, (fun w h => List.mem_cons_of_mem _ (zWuX8 w h)), by decide, List.mem_cons_of_mem _ (zWi_8 _ (List.mem_of_getElem? (i := 43) rfl))⟩
theorem fX11_pour_302 : zfl wzX11_pour RX11 vwCl 302 7 0 := ⟨_, _, _, rfl, (fun w h => List.mem_cons_of_mem _ (zWuX7 w h)), by decide, List.mem_cons_of_mem _ (zWi_8 _ (List.mem_of_getElem? (i := 34) rfl))⟩
theorem fX11_pour_255 : zfl wzX11_pour RX11 vwCl 255 8 2 := ⟨_, _, _, rfl, (fun w h => List.mem_cons_of_mem _ (zWuX8 w h)), by decide, List.mem_cons_of_mem _ (zWi_8 _ (List.mem_of_getElem? (i := 27) rfl))⟩
theorem fX11_pour_406 : zfl wzX11_pour RX11 vwCl 406 10 1 := ⟨_, _, _, rfl, (fun w h => List.mem_cons_of_mem _ (zWuX10 w h)), by decide, List.mem_cons_of_mem _ (zWi_8 _ (List.mem_of_getElem? (i := 45) rfl))⟩
theorem fX11_pour_414 : zfl wzX11_pour RX11 vwCl 414 10 2 := ⟨_, _, _, rfl, (fun w h => List.mem_cons_of_mem _ (zWuX10 w h)), by decide, List.mem_cons_of_mem _ (zWi_8 _ (List.mem_of_getElem? (i := 46) rfl))⟩
theorem fX11_pour_268 : zfl wzX11_pour RX11 vwCl 268 9 1 := ⟨_, _, _, rfl, (fun w h => List.mem_cons_of_mem _ (zWuX9 w h)), by decide, List.mem_cons_of_mem _ (zWi_8 _ (List.mem_of_getElem? (i := 29) rfl))⟩
theorem kX11_pour_109 : ∀ (s9 : State) (a9 : Array Value), (∀ w ∈ wzX11_pour, w.before a9 s9 = true) → CallW rmX11_pour s9 a9 RX11 RX11 109 yX11_needSort cX11_needSort 2 none wzX11_needSort rmX11_needSort 1 6 1 := zcV (zWi_21 _ (List.mem_of_getElem? (i := 2) rfl)) (zWi_13 _ (List.mem_of_getElem? (i := 18) rfl)) (zWi_26 _ (List.mem_of_getElem? (i := 10) rfl)) (zWi_12 _ (List.mem_of_getElem? (i := 12) rfl)) (zWi_1 _ (List.mem_of_getElem? (i := 44) rfl)) (by decide +kernel) rfl rfl ⟨Nat.le_of_ble_eq_true rfl, Nat.le_of_ble_eq_true rfl⟩
theorem kX11_pour_402 : ∀ (s9 : State) (a9 : Array Value), (∀ w ∈ wzX11_pour, w.before a9 s9 = true) → CallW rmX11_pour s9 a9 RX11 RX11 402 yX11_trayAt cX11_trayAt 2 (some (.object "SlotCoins$Tray")) wzX11_trayAt rmX11_trayAt 2 12 1 := zcV (zWi_22 _ (List.mem_of_getElem? (i := 3) rfl)) (zWi_13 _ (List.mem_of_getElem? (i := 35) rfl)) (zWi_26 _ (List.mem_of_getElem? (i := 27) rfl)) (zWi_12 _ (List.mem_of_getElem? (i := 12) rfl)) (zWi_2 _ (List.mem_of_getElem? (i := 13) rfl)) (by decide +kernel) rfl rfl ⟨Nat.le_of_ble_eq_true rfl, Nat.le_of_ble_eq_true rfl⟩
theorem kX11_pour_421 : ∀ (s9 : State) (a9 : Array Value), (∀ w ∈ wzX11_pour, w.before a9 s9 = true) → CallW rmX11_pour s9 a9 RX11 RX10 421 yX10_holdsSorts cX10_holdsSorts 3 (some .boolean) wzX10_holdsSorts rmX10_holdsSorts 0 0 1 := zcV (zWi_22 _ (List.mem_of_getElem? (i := 5) rfl)) (zWi_12 _ (List.mem_of_getElem? (i := 38) rfl)) (zWi_25 _ (List.mem_of_getElem? (i := 32) rfl)) (zWi_12 _ (List.mem_of_getElem? (i := 11) rfl)) (zWi_1 _ (List.mem_of_getElem? (i := 12) rfl)) (by decide +kernel) rfl rfl ⟨Nat.le_of_ble_eq_true rfl, Nat.le_of_ble_eq_true rfl⟩
theorem kX11_pour_97 : ∀ (s9 : State) (a9 : Array Value), (∀ w ∈ wzX11_pour, w.before a9 s9 = true) → CallB rmX11_pour s9 a9 RX11 97 yX11_need cX11_need 1 none wzX11_need rmX11_need 1 6 1 ∧ (Cond.static yX11_need).before a9 s9 = true := zcS (zWi_22 _ (List.mem_of_getElem? (i := 15) rfl)) (zWi_31 _ (List.mem_of_getElem? (i := 6) rfl)) (zWi_12 _ (List.mem_of_getElem? (i := 12) rfl)) (zWi_1 _ (List.mem_of_getElem? (i := 40) rfl)) (by decide +kernel) rfl rfl ⟨Nat.le_of_ble_eq_true rfl, Nat.le_of_ble_eq_true rfl⟩
theorem kX11_pour_259 : ∀ (s9 : State) (a9 : Array Value), (∀ w ∈ wzX11_pour, w.before a9 s9 = true) → CallW rmX11_pour s9 a9 RX11 RX9 259 yX9_hasRoom cX9_hasRoom 3 (some .boolean) wzX9_hasRoom rmX9_hasRoom 0 0 2 := zcV (zWi_21 _ (List.mem_of_getElem? (i := 23) rfl)) (zWi_17 _ (List.mem_of_getElem? (i := 15) rfl)) (zWi_29 _ (List.mem_of_getElem? (i := 40) rfl)) (zWi_12 _ (List.mem_of_getElem? (i := 21) rfl)) (zWi_5 _ (List.mem_of_getElem? (i := 49) rfl)) (by decide +kernel) rfl rfl ⟨Nat.le_of_ble_eq_true rfl, Nat.le_of_ble_eq_true rfl⟩
theorem kX11_pour_264 : ∀ (s9 : State) (a9 : Array Value), (∀ w ∈ wzX11_pour, w.before a9 s9 = true) → CallW rmX11_pour s9 a9 RX11 RX9 264 yX9_loadOne cX9_loadOne 3 none wzX9_loadOne rmX9_loadOne 0 0 2 := zcV (zWi_21 _ (List.mem_of_getElem? (i := 24) rfl)) (zWi_17 _ (List.mem_of_getElem? (i := 18) rfl)) (zWi_29 _ (List.mem_of_getElem? (i := 42) rfl)) (zWi_12 _ (List.mem_of_getElem? (i := 21) rfl)) (zWi_6 _ (List.mem_of_getElem? (i := 2) rfl)) (by decide +kernel) rfl rfl ⟨Nat.le_of_ble_eq_true rfl, Nat.le_of_ble_eq_true rfl⟩
theorem fX11_image_16 : zfl wzX11_image RX11 vwCl 16 11 1 := ⟨_, _, _, rfl, (fun w h => List.mem_cons_of_mem _ (zWuX11 w h)), by decide, List.mem_cons_of_mem _ (zWi_8 _ (List.mem_of_getElem? (i := 12) rfl))⟩
theorem fX11_image_10 : zfl wzX11_image RX11 vwCl 10 11 0 := ⟨_, _, _, rfl, (fun w h => List.mem_cons_of_mem _ (zWuX11 w h)), by decide, List.mem_cons_of_mem _ (zWi_8 _ (List.mem_of_getElem? (i := 6) rfl))⟩
theorem fX11_image_20 : zfl wzX11_image RX11 vwCl 20 11 2 := ⟨_, _, _, rfl, (fun w h => List.mem_cons_of_mem _ (zWuX11 w h)), by decide, List.mem_cons_of_mem _ (zWi_8 _ (List.mem_of_getElem? (i := 21) rfl))⟩
theorem kX11_image_93 : ∀ (s9 : State) (a9 : Array Value), (∀ w ∈ wzX11_image, w.before a9 s9 = true) → CallB rmX11_image s9 a9 RX11 93 yX11_within cX11_within 6 (some .boolean) wzX11_within rmX11_within 0 0 3 ∧ (Cond.static yX11_within).before a9 s9 = true := zcS (zWi_22 _ (List.mem_of_getElem? (i := 14) rfl)) (zWi_31 _ (List.mem_of_getElem? (i := 9) rfl)) (zWi_12 _ (List.mem_of_getElem? (i := 12) rfl)) (zWi_2 _ (List.mem_of_getElem? (i := 17) rfl)) (by decide +kernel) rfl rfl ⟨Nat.le_of_ble_eq_true rfl, Nat.le_of_ble_eq_true rfl⟩
theorem kX11_image_115 : ∀ (s9 : State) (a9 : Array Value), (∀ w ∈ wzX11_image, w.before a9 s9 = true) → CallB rmX11_image s9 a9 RX11 115 yX11_needThere cX11_needThere 1 none wzX11_needThere rmX11_needThere 1 6 1 ∧ (Cond.static yX11_needThere).before a9 s9 = true := zcS (zWi_21 _ (List.mem_of_getElem? (i := 3) rfl)) (zWi_31 _ (List.mem_of_getElem? (i := 7) rfl)) (zWi_12 _ (List.mem_of_getElem? (i := 12) rfl)) (zWi_1 _ (List.mem_of_getElem? (i := 45) rfl)) (by decide +kernel) rfl rfl ⟨Nat.le_of_ble_eq_true rfl, Nat.le_of_ble_eq_true rfl⟩
theorem kX11_image_424 : ∀ (s9 : State) (a9 : Array Value), (∀ w ∈ wzX11_image, w.before a9 s9 = true) → CallW rmX11_image s9 a9 RX11 RX8 424 yX8_copyFrom cX8_copyFrom 2 none wzX8_copyFrom rmX8_copyFrom 0 0 1 := zcV (zWi_22 _ (List.mem_of_getElem? (i := 6) rfl)) (zWi_17 _ (List.mem_of_getElem? (i := 6) rfl)) (zWi_29 _ (List.mem_of_getElem? (i := 32) rfl)) (zWi_12 _ (List.mem_of_getElem? (i := 20) rfl)) (zWi_5 _ (List.mem_of_getElem? (i := 40) rfl)) (by decide +kernel) rfl rfl ⟨Nat.le_of_ble_eq_true rfl, Nat.le_of_ble_eq_true rfl⟩
theorem fX11_restore_20 : zfl wzX11_restore RX11 vwCl 20 11 2 := ⟨_, _, _, rfl, (fun w h => List.mem_cons_of_mem _ (zWuX11 w h)), by decide, List.mem_cons_of_mem _ (zWi_8 _ (List.mem_of_getElem? (i := 21) rfl))⟩
theorem fX11_restore_10 : zfl wzX11_restore RX11 vwCl 10 11 0 := ⟨_, _, _, rfl, (fun w h => List.mem_cons_of_mem _ (zWuX11 w h)), by decide, List.mem_cons_of_mem _ (zWi_8 _ (List.mem_of_getElem? (i := 6) rfl))⟩
theorem fX11_restore_16 : zfl wzX11_restore RX11 vwCl 16 11 1 := ⟨_, _, _, rfl, (fun w h => List.mem_cons_of_mem _ (zWuX11 w h)), by decide, List.mem_cons_of_mem _ (zWi_8 _ (List.mem_of_getElem? (i := 12) rfl))⟩
theorem kX11_restore_93 : ∀ (s9 : State) (a9 : Array Value), (∀ w ∈ wzX11_restore, w.before a9 s9 = true) → CallB rmX11_restore s9 a9 RX11 93 yX11_within cX11_within 6 (some .boolean) wzX11_within rmX11_within 0 0 3 ∧ (Cond.static yX11_within).before a9 s9 = true := zcS (zWi_22 _ (List.mem_of_getElem? (i := 14) rfl)) (zWi_31 _ (List.mem_of_getElem? (i := 9) rfl)) (zWi_12 _ (List.mem_of_getElem? (i := 12) rfl)) (zWi_2 _ (List.mem_of_getElem? (i := 17) rfl)) (by decide +kernel) rfl rfl ⟨Nat.le_of_ble_eq_true rfl, Nat.le_of_ble_eq_true rfl⟩
theorem kX11_restore_115 : ∀ (s9 : State) (a9 : Array Value), (∀ w ∈ wzX11_restore, w.before a9 s9 = true) → CallB rmX11_restore s9 a9 RX11 115 yX11_needThere cX11_needThere 1 none wzX11_needThere rmX11_needThere 1 6 1 ∧ (Cond.static yX11_needThere).before a9 s9 = true := zcS (zWi_21 _ (List.mem_of_getElem? (i := 3) rfl)) (zWi_31 _ (List.mem_of_getElem? (i := 7) rfl)) (zWi_12 _ (List.mem_of_getElem? (i := 12) rfl)) (zWi_1 _ (List.mem_of_getElem? (i := 45) rfl)) (by decide +kernel) rfl rfl ⟨Nat.le_of_ble_eq_true rfl, Nat.le_of_ble_eq_true rfl⟩
theorem kX11_restore_424 : ∀ (s9 : State) (a9 : Array Value), (∀ w ∈ wzX11_restore, w.before a9 s9 = true) → CallW rmX11_restore s9 a9 RX11 RX8 424 yX8_copyFrom cX8_copyFrom 2 none wzX8_copyFrom rmX8_copyFrom 0 0 1 := zcV (zWi_22 _ (List.mem_of_getElem? (i := 6) rfl)) (zWi_17 _ (List.mem_of_getElem? (i := 6) rfl)) (zWi_29 _ (List.mem_of_getElem? (i := 32) rfl)) (zWi_12 _ (List.mem_of_getElem? (i := 20) rfl)) (zWi_5 _ (List.mem_of_getElem? (i := 40) rfl)) (by decide +kernel) rfl rfl ⟨Nat.le_of_ble_eq_true rfl, Nat.le_of_ble_eq_true rfl⟩
/-- where images and trays lie -/
def ICx (M : zM) : Prop := (∀ i : Nat, i < 4 → M 38 i = 172 + 2 * i) ∧ (∀ i : Nat, i < 3 → M 36 i = 67 + 35 * i) ∧ ∀ i : Nat, i < 4 → 0 ≤ M (172 + 2 * i) 1 ∧ M (172 + 2 * i) 1 ≤ 20 ∧ -1 ≤ M (172 + 2 * i) 0 ∧ M (172 + 2 * i) 0 ≤ 3
def sp_X11_tray (as : List zV) (M : zM) (Q : Option zV → zM → Prop) : Prop := ∃ (t s m : Int), as = [zR 0, zI t, zI s, zI m] ∧ (ICx M) ∧ ((0 ≤ t ∧ t ≤ 3) → (0 ≤ s ∧ s ≤ 3) → (0 ≤ m ∧ m ≤ 20) → Q none (fillR (zup (zup M (172 + 2 * t.toNat) 0 s) (172 + 2 * t.toNat) 1 m) (173 + 2 * t.toNat) 20 0)) ∧ (¬ (0 ≤ t ∧ t ≤ 3) → Q (some (zR 3000)) M) ∧ ((0 ≤ t ∧ t ≤ 3) → ¬ ((0 ≤ s ∧ s ≤ 3) ∧ (0 ≤ m ∧ m ≤ 20)) → Q (some (zR 3001)) M)
theorem us_X11_tray {t s m : Int} {M : zM} {Q : Option zV → zM → Prop} (hx : ICx M) (hQ : (0 ≤ t ∧ t ≤ 3) → (0 ≤ s ∧ s ≤ 3) → (0 ≤ m ∧ m ≤ 20) → Q none (fillR (zup (zup M (172 + 2 * t.toNat) 0 s) (172 + 2 * t.toNat) 1 m) (173 + 2 * t.toNat) 20 0)) (hT : ¬ (0 ≤ t ∧ t ≤ 3) → Q (some (zR 3000)) M) (hU : (0 ≤ t ∧ t ≤ 3) → ¬ ((0 ≤ s ∧ s ≤ 3) ∧ (0 ≤ m ∧ m ≤ 20)) → Q (some (zR 3001)) M) : sp_X11_tray [zR 0, zI t, zI s, zI m] M Q := ⟨t, s, m, rfl, hx, hQ, hT, hU⟩
set_option maxRecDepth 20000 in
set_option maxHeartbeats 4000000 in
theorem m_X11_tray (l : Launch) : zCx l yX11_tray wzX11_tray rmX11_tray 3 sp_X11_tray := by
  refine zMet.of RX11 (by decide +kernel) rfl rfl ?_
  intro E X as M Qp hX S hsp
  obtain ⟨t, s, m, rfl, hx, hQ, hT, hU⟩ := hsp
  refine ⟨Nat.le_of_ble_eq_true rfl, ?_⟩
  dsimp only [zpad, zargs]
  have key : (0 ≤ t ∧ t ≤ 3) → (0 ≤ s ∧ s ≤ 3) → (0 ≤ m ∧ m ≤ 20) → zK (zg E) rmX11_tray 4 (Qp, 3, 6 * 3) X (0 + 1 + 1 + 1, 0 + 6 * 1 + 6 * 1 + 6 * 1) 36 [some (zR 0), some (zI t), some (zI s), some (zI m)] [] M := by
    intro c1 c2 c3
    have f := hQ c1 c2 c3
    rcases (show t = 0 ∨ t = 1 ∨ t = 2 ∨ t = 3 by omega) with rfl | rfl | rfl | rfl
    · have e : M 38 (Int.toNat 0) = 172 := hx.1 0 (by omega)
      refine zr_aload_n (pc := 36) S dX11_tray_36 rfl ?_
      refine zr_getR (pc := 37) S fX11_tray_26 dX11_tray_37 rfl (Nat.le_of_ble_eq_true rfl) rfl ?_
      refine zr_iload_n (pc := 40) S dX11_tray_40 rfl ?_
      refine zr_aaload (pc := 41) S dX11_tray_41 rfl (Nat.le_of_ble_eq_true rfl) rfl (by omega) (by omega) ?_
      rw [e]
      refine zr_iload_n (pc := 42) S dX11_tray_42 rfl ?_
      refine zr_iload_n (pc := 43) S dX11_tray_43 rfl ?_
      refine zr_invV (pc := 44) S [zI _, zI _] (m_X10_lay _) kX11_tray_399 dX11_tray_44 rfl (Nat.le_of_ble_eq_true rfl) rfl (Nat.le_of_ble_eq_true rfl) ⟨Nat.le_of_ble_eq_true rfl, Nat.le_of_ble_eq_true rfl⟩ (us_X10_lay (c := 172) (m := 173) rfl rfl (Nat.le_of_ble_eq_true rfl) (Nat.le_of_ble_eq_true rfl) ?_)
      dsimp only [zaft, Option.toList, List.cons_append, List.nil_append, Nat.add_zero]
      exact zr_vret (pc := 47) S dX11_tray_47 rfl ⟨Nat.le_of_ble_eq_true rfl, Nat.le_of_ble_eq_true rfl⟩ (f)
    · have e : M 38 (Int.toNat 1) = 174 := hx.1 1 (by omega)
      refine zr_aload_n (pc := 36) S dX11_tray_36 rfl ?_
      refine zr_getR (pc := 37) S fX11_tray_26 dX11_tray_37 rfl (Nat.le_of_ble_eq_true rfl) rfl ?_
      refine zr_iload_n (pc := 40) S dX11_tray_40 rfl ?_
      refine zr_aaload (pc := 41) S dX11_tray_41 rfl (Nat.le_of_ble_eq_true rfl) rfl (by omega) (by omega) ?_
      rw [e]
      refine zr_iload_n (pc := 42) S dX11_tray_42 rfl ?_
      refine zr_iload_n (pc := 43) S dX11_tray_43 rfl ?_
      refine zr_invV (pc := 44) S [zI _, zI _] (m_X10_lay _) kX11_tray_399 dX11_tray_44 rfl (Nat.le_of_ble_eq_true rfl) rfl (Nat.le_of_ble_eq_true rfl) ⟨Nat.le_of_ble_eq_true rfl, Nat.le_of_ble_eq_true rfl⟩ (us_X10_lay (c := 174) (m := 175) rfl rfl (Nat.le_of_ble_eq_true rfl) (Nat.le_of_ble_eq_true rfl) ?_)
      dsimp only [zaft, Option.toList, List.cons_append, List.nil_append, Nat.add_zero]
      exact zr_vret (pc := 47) S dX11_tray_47 rfl ⟨Nat.le_of_ble_eq_true rfl, Nat.le_of_ble_eq_true rfl⟩ (f)
    · have e : M 38 (Int.toNat 2) = 176 := hx.1 2 (by omega)
      refine zr_aload_n (pc := 36) S dX11_tray_36 rfl ?_
      refine zr_getR (pc := 37) S fX11_tray_26 dX11_tray_37 rfl (Nat.le_of_ble_eq_true rfl) rfl ?_
      refine zr_iload_n (pc := 40) S dX11_tray_40 rfl ?_
      refine zr_aaload (pc := 41) S dX11_tray_41 rfl (Nat.le_of_ble_eq_true rfl) rfl (by omega) (by omega) ?_
      rw [e]
      refine zr_iload_n (pc := 42) S dX11_tray_42 rfl ?_
      refine zr_iload_n (pc := 43) S dX11_tray_43 rfl ?_
      refine zr_invV (pc := 44) S [zI _, zI _] (m_X10_lay _) kX11_tray_399 dX11_tray_44 rfl (Nat.le_of_ble_eq_true rfl) rfl (Nat.le_of_ble_eq_true rfl) ⟨Nat.le_of_ble_eq_true rfl, Nat.le_of_ble_eq_true rfl⟩ (us_X10_lay (c := 176) (m := 177) rfl rfl (Nat.le_of_ble_eq_true rfl) (Nat.le_of_ble_eq_true rfl) ?_)
      dsimp only [zaft, Option.toList, List.cons_append, List.nil_append, Nat.add_zero]
      exact zr_vret (pc := 47) S dX11_tray_47 rfl ⟨Nat.le_of_ble_eq_true rfl, Nat.le_of_ble_eq_true rfl⟩ (f)
    · have e : M 38 (Int.toNat 3) = 178 := hx.1 3 (by omega)
      refine zr_aload_n (pc := 36) S dX11_tray_36 rfl ?_
      refine zr_getR (pc := 37) S fX11_tray_26 dX11_tray_37 rfl (Nat.le_of_ble_eq_true rfl) rfl ?_
      refine zr_iload_n (pc := 40) S dX11_tray_40 rfl ?_
      refine zr_aaload (pc := 41) S dX11_tray_41 rfl (Nat.le_of_ble_eq_true rfl) rfl (by omega) (by omega) ?_
      rw [e]
      refine zr_iload_n (pc := 42) S dX11_tray_42 rfl ?_
      refine zr_iload_n (pc := 43) S dX11_tray_43 rfl ?_
      refine zr_invV (pc := 44) S [zI _, zI _] (m_X10_lay _) kX11_tray_399 dX11_tray_44 rfl (Nat.le_of_ble_eq_true rfl) rfl (Nat.le_of_ble_eq_true rfl) ⟨Nat.le_of_ble_eq_true rfl, Nat.le_of_ble_eq_true rfl⟩ (us_X10_lay (c := 178) (m := 179) rfl rfl (Nat.le_of_ble_eq_true rfl) (Nat.le_of_ble_eq_true rfl) ?_)
      dsimp only [zaft, Option.toList, List.cons_append, List.nil_append, Nat.add_zero]
      exact zr_vret (pc := 47) S dX11_tray_47 rfl ⟨Nat.le_of_ble_eq_true rfl, Nat.le_of_ble_eq_true rfl⟩ (f)
  refine zr_iload_n (pc := 0) S dX11_tray_0 rfl ?_
  refine zr_i2l (pc := 1) S dX11_tray_1 ?_
  refine zr_lconst0 (pc := 2) S dX11_tray_2 ?_
  refine zr_ldc2 (pc := 3) S (3) dX11_tray_3 (List.mem_cons_of_mem _ (zWi_7 _ (List.mem_of_getElem? (i := 11) rfl))) (by unfold zrL; omega) ?_
  refine zr_invS (pc := 6) S [zL _, zL _, zL _] (m_X11_within _) kX11_tray_93 dX11_tray_6 (Nat.le_of_ble_eq_true rfl) ⟨Nat.le_of_ble_eq_true rfl, Nat.le_of_ble_eq_true rfl⟩ (us_X11_within ?_)
  dsimp only [zaft, Option.toList, List.cons_append, List.nil_append, Nat.add_zero]
  refine zr_invS (pc := 9) S [zI _] (m_X11_needThere _) kX11_tray_115 dX11_tray_9 (Nat.le_of_ble_eq_true rfl) ⟨Nat.le_of_ble_eq_true rfl, Nat.le_of_ble_eq_true rfl⟩ (us_X11_needThere (fun c9 => ?_) (fun c9 => zaft_thr (by omega) ⟨Nat.le_of_ble_eq_true rfl, Nat.le_of_ble_eq_true rfl⟩ (hT (b01_0.mp c9))))
  dsimp only [zaft, Option.toList, List.cons_append, List.nil_append, Nat.add_zero]
  rw [b01_0, Classical.not_not] at c9
  refine zr_iload_n (pc := 12) S dX11_tray_12 rfl ?_
  refine zr_i2l (pc := 13) S dX11_tray_13 ?_
  refine zr_lconst0 (pc := 14) S dX11_tray_14 ?_
  refine zr_ldc2 (pc := 15) S (3) dX11_tray_15 (List.mem_cons_of_mem _ (zWi_7 _ (List.mem_of_getElem? (i := 11) rfl))) (by unfold zrL; omega) ?_
  refine zr_invS (pc := 18) S [zL _, zL _, zL _] (m_X11_within _) kX11_tray_93 dX11_tray_18 (Nat.le_of_ble_eq_true rfl) ⟨Nat.le_of_ble_eq_true rfl, Nat.le_of_ble_eq_true rfl⟩ (us_X11_within ?_)
  dsimp only [zaft, Option.toList, List.cons_append, List.nil_append, Nat.add_zero]
  refine zr_invS (pc := 21) S [zI _] (m_X11_need _) kX11_tray_97 dX11_tray_21 (Nat.le_of_ble_eq_true rfl) ⟨Nat.le_of_ble_eq_true rfl, Nat.le_of_ble_eq_true rfl⟩ (us_X11_need (fun c21 => ?_) (fun c21 => zaft_thr (by omega) ⟨Nat.le_of_ble_eq_true rfl, Nat.le_of_ble_eq_true rfl⟩ (hU c9 (fun z => b01_0.mp c21 z.1))))
  dsimp only [zaft, Option.toList, List.cons_append, List.nil_append, Nat.add_zero]
  rw [b01_0, Classical.not_not] at c21
  refine zr_iload_n (pc := 24) S dX11_tray_24 rfl ?_
  refine zr_i2l (pc := 25) S dX11_tray_25 ?_
  refine zr_lconst0 (pc := 26) S dX11_tray_26 ?_
  refine zr_ldc2 (pc := 27) S (20) dX11_tray_27 (List.mem_cons_of_mem _ (zWi_7 _ (List.mem_of_getElem? (i := 12) rfl))) (by unfold zrL; omega) ?_
  refine zr_invS (pc := 30) S [zL _, zL _, zL _] (m_X11_within _) kX11_tray_93 dX11_tray_30 (Nat.le_of_ble_eq_true rfl) ⟨Nat.le_of_ble_eq_true rfl, Nat.le_of_ble_eq_true rfl⟩ (us_X11_within ?_)
  dsimp only [zaft, Option.toList, List.cons_append, List.nil_append, Nat.add_zero]
  refine zr_invS (pc := 33) S [zI _] (m_X11_need _) kX11_tray_97 dX11_tray_33 (Nat.le_of_ble_eq_true rfl) ⟨Nat.le_of_ble_eq_true rfl, Nat.le_of_ble_eq_true rfl⟩ (us_X11_need (fun c33 => ?_) (fun c33 => zaft_thr (by omega) ⟨Nat.le_of_ble_eq_true rfl, Nat.le_of_ble_eq_true rfl⟩ (hU c9 (fun z => b01_0.mp c33 z.2))))
  dsimp only [zaft, Option.toList, List.cons_append, List.nil_append, Nat.add_zero]
  rw [b01_0, Classical.not_not] at c33
  exact key c9 c21 c33
def sp_X11_trayAt (as : List zV) (M : zM) (Q : Option zV → zM → Prop) : Prop := ∃ (t : Int), as = [zR 0, zI t] ∧ (ICx M) ∧ ((0 ≤ t ∧ t ≤ 3) → ¬ M (172 + 2 * t.toNat) 0 = -1 → Q (some (zR (172 + 2 * t.toNat))) M) ∧ (¬ (0 ≤ t ∧ t ≤ 3) → Q (some (zR 3000)) M) ∧ ((0 ≤ t ∧ t ≤ 3) → M (172 + 2 * t.toNat) 0 = -1 → Q (some (zR 3002)) M)
theorem us_X11_trayAt {t : Int} {M : zM} {Q : Option zV → zM → Prop} (hx : ICx M) (hQ : (0 ≤ t ∧ t ≤ 3) → ¬ M (172 + 2 * t.toNat) 0 = -1 → Q (some (zR (172 + 2 * t.toNat))) M) (hT : ¬ (0 ≤ t ∧ t ≤ 3) → Q (some (zR 3000)) M) (hU : (0 ≤ t ∧ t ≤ 3) → M (172 + 2 * t.toNat) 0 = -1 → Q (some (zR 3002)) M) : sp_X11_trayAt [zR 0, zI t] M Q := ⟨t, rfl, hx, hQ, hT, hU⟩
set_option maxRecDepth 20000 in
set_option maxHeartbeats 4000000 in
theorem m_X11_trayAt (l : Launch) : zCx l yX11_trayAt wzX11_trayAt rmX11_trayAt 2 sp_X11_trayAt := by
  refine zMet.of RX11 (by decide +kernel) rfl rfl ?_
  intro E X as M Qp hX S hsp
  obtain ⟨t, rfl, hx, hQ, hT, hU⟩ := hsp
  refine ⟨Nat.le_of_ble_eq_true rfl, ?_⟩
  dsimp only [zpad, zargs]
  have key : (0 ≤ t ∧ t ≤ 3) → zK (zg E) rmX11_trayAt 2 (Qp, 2, 6 * 2) X (0 + 1, 0 + 6 * 1) 12 [some (zR 0), some (zI t)] [] M := by
    intro c1
    have f := hQ c1
    have g := hU c1
    rcases (show t = 0 ∨ t = 1 ∨ t = 2 ∨ t = 3 by omega) with rfl | rfl | rfl | rfl
    · have e : M 38 (Int.toNat 0) = 172 := hx.1 0 (by omega)
      refine zr_aload_n (pc := 12) S dX11_trayAt_12 rfl ?_
      refine zr_getR (pc := 13) S fX11_trayAt_26 dX11_trayAt_13 rfl (Nat.le_of_ble_eq_true rfl) rfl ?_
      refine zr_iload_n (pc := 16) S dX11_trayAt_16 rfl ?_
      refine zr_aaload (pc := 17) S dX11_trayAt_17 rfl (Nat.le_of_ble_eq_true rfl) rfl (by omega) (by omega) ?_
      rw [e]
      dsimp only [Int.reduceToNat]
      refine zr_getI (pc := 18) S fX11_trayAt_446 dX11_trayAt_18 rfl (Nat.le_of_ble_eq_true rfl) rfl ?_
      refine zr_iconst (pc := 21) S dX11_trayAt_21 (by unfold zrI; omega) ?_
      refine zr_icmp_ne (pc := 22) (tgt := 36) S dX11_trayAt_22 (by decide) (fun c22 => ?_) (fun c22 => ?_)
      · refine zr_aload_n (pc := 36) S dX11_trayAt_36 rfl ?_
        refine zr_getR (pc := 37) S fX11_trayAt_26 dX11_trayAt_37 rfl (Nat.le_of_ble_eq_true rfl) rfl ?_
        refine zr_iload_n (pc := 40) S dX11_trayAt_40 rfl ?_
        refine zr_aaload (pc := 41) S dX11_trayAt_41 rfl (Nat.le_of_ble_eq_true rfl) rfl (by omega) (by omega) ?_
        rw [e]
        dsimp only [Int.reduceToNat]
        exact zr_aret (pc := 42) S dX11_trayAt_42 rfl (by omega) ⟨Nat.le_of_ble_eq_true rfl, Nat.le_of_ble_eq_true rfl⟩ (f c22)
      · exact zr_throw (pc := 25) S (zthw_2) (List.mem_of_getElem? (i := 23) rfl) dX11_trayAt_25 dX11_trayAt_28 dX11_trayAt_29 dX11_trayAt_32 dX11_trayAt_35 ⟨(Nat.le_of_ble_eq_true rfl), (Nat.le_of_ble_eq_true rfl)⟩ ⟨Nat.le_of_ble_eq_true rfl, Nat.le_of_ble_eq_true rfl⟩ ⟨Nat.le_of_ble_eq_true rfl, Nat.le_of_ble_eq_true rfl⟩ (g c22)
    · have e : M 38 (Int.toNat 1) = 174 := hx.1 1 (by omega)
      refine zr_aload_n (pc := 12) S dX11_trayAt_12 rfl ?_
      refine zr_getR (pc := 13) S fX11_trayAt_26 dX11_trayAt_13 rfl (Nat.le_of_ble_eq_true rfl) rfl ?_
      refine zr_iload_n (pc := 16) S dX11_trayAt_16 rfl ?_
      refine zr_aaload (pc := 17) S dX11_trayAt_17 rfl (Nat.le_of_ble_eq_true rfl) rfl (by omega) (by omega) ?_
      rw [e]
      dsimp only [Int.reduceToNat]
      refine zr_getI (pc := 18) S fX11_trayAt_446 dX11_trayAt_18 rfl (Nat.le_of_ble_eq_true rfl) rfl ?_
      refine zr_iconst (pc := 21) S dX11_trayAt_21 (by unfold zrI; omega) ?_
      refine zr_icmp_ne (pc := 22) (tgt := 36) S dX11_trayAt_22 (by decide) (fun c22 => ?_) (fun c22 => ?_)
      · refine zr_aload_n (pc := 36) S dX11_trayAt_36 rfl ?_
        refine zr_getR (pc := 37) S fX11_trayAt_26 dX11_trayAt_37 rfl (Nat.le_of_ble_eq_true rfl) rfl ?_
        refine zr_iload_n (pc := 40) S dX11_trayAt_40 rfl ?_
        refine zr_aaload (pc := 41) S dX11_trayAt_41 rfl (Nat.le_of_ble_eq_true rfl) rfl (by omega) (by omega) ?_
        rw [e]
        dsimp only [Int.reduceToNat]
        exact zr_aret (pc := 42) S dX11_trayAt_42 rfl (by omega) ⟨Nat.le_of_ble_eq_true rfl, Nat.le_of_ble_eq_true rfl⟩ (f c22)
      · exact zr_throw (pc := 25) S (zthw_2) (List.mem_of_getElem? (i := 23) rfl) dX11_trayAt_25 dX11_trayAt_28 dX11_trayAt_29 dX11_trayAt_32 dX11_trayAt_35 ⟨(Nat.le_of_ble_eq_true rfl), (Nat.le_of_ble_eq_true rfl)⟩ ⟨Nat.le_of_ble_eq_true rfl, Nat.le_of_ble_eq_true rfl⟩ ⟨Nat.le_of_ble_eq_true rfl, Nat.le_of_ble_eq_true rfl⟩ (g c22)
    · have e : M 38 (Int.toNat 2) = 176 := hx.1 2 (by omega)
      refine zr_aload_n (pc := 12) S dX11_trayAt_12 rfl ?_
      refine zr_getR (pc := 13) S fX11_trayAt_26 dX11_trayAt_13 rfl (Nat.le_of_ble_eq_true rfl) rfl ?_
      refine zr_iload_n (pc := 16) S dX11_trayAt_16 rfl ?_
      refine zr_aaload (pc := 17) S dX11_trayAt_17 rfl (Nat.le_of_ble_eq_true rfl) rfl (by omega) (by omega) ?_
      rw [e]
      dsimp only [Int.reduceToNat]
      refine zr_getI (pc := 18) S fX11_trayAt_446 dX11_trayAt_18 rfl (Nat.le_of_ble_eq_true rfl) rfl ?_
      refine zr_iconst (pc := 21) S dX11_trayAt_21 (by unfold zrI; omega) ?_
      refine zr_icmp_ne (pc := 22) (tgt := 36) S dX11_trayAt_22 (by decide) (fun c22 => ?_) (fun c22 => ?_)
      · refine zr_aload_n (pc := 36) S dX11_trayAt_36 rfl ?_
        refine zr_getR (pc := 37) S fX11_trayAt_26 dX11_trayAt_37 rfl (Nat.le_of_ble_eq_true rfl) rfl ?_
        refine zr_iload_n (pc := 40) S dX11_trayAt_40 rfl ?_
        refine zr_aaload (pc := 41) S dX11_trayAt_41 rfl (Nat.le_of_ble_eq_true rfl) rfl (by omega) (by omega) ?_
        rw [e]
        dsimp only [Int.reduceToNat]
        exact zr_aret (pc := 42) S dX11_trayAt_42 rfl (by omega) ⟨Nat.le_of_ble_eq_true rfl, Nat.le_of_ble_eq_true rfl⟩ (f c22)
      · exact zr_throw (pc := 25) S (zthw_2) (List.mem_of_getElem? (i := 23) rfl) dX11_trayAt_25 dX11_trayAt_28 dX11_trayAt_29 dX11_trayAt_32 dX11_trayAt_35 ⟨(Nat.le_of_ble_eq_true rfl), (Nat.le_of_ble_eq_true rfl)⟩ ⟨Nat.le_of_ble_eq_true rfl, Nat.le_of_ble_eq_true rfl⟩ ⟨Nat.le_of_ble_eq_true rfl, Nat.le_of_ble_eq_true rfl⟩ (g c22)
    · have e : M 38 (Int.toNat 3) = 178 := hx.1 3 (by omega)
      refine zr_aload_n (pc := 12) S dX11_trayAt_12 rfl ?_
      refine zr_getR (pc := 13) S fX11_trayAt_26 dX11_trayAt_13 rfl (Nat.le_of_ble_eq_true rfl) rfl ?_
      refine zr_iload_n (pc := 16) S dX11_trayAt_16 rfl ?_
      refine zr_aaload (pc := 17) S dX11_trayAt_17 rfl (Nat.le_of_ble_eq_true rfl) rfl (by omega) (by omega) ?_
      rw [e]
      dsimp only [Int.reduceToNat]
      refine zr_getI (pc := 18) S fX11_trayAt_446 dX11_trayAt_18 rfl (Nat.le_of_ble_eq_true rfl) rfl ?_
      refine zr_iconst (pc := 21) S dX11_trayAt_21 (by unfold zrI; omega) ?_
      refine zr_icmp_ne (pc := 22) (tgt := 36) S dX11_trayAt_22 (by decide) (fun c22 => ?_) (fun c22 => ?_)
      · refine zr_aload_n (pc := 36) S dX11_trayAt_36 rfl ?_
        refine zr_getR (pc := 37) S fX11_trayAt_26 dX11_trayAt_37 rfl (Nat.le_of_ble_eq_true rfl) rfl ?_
        refine zr_iload_n (pc := 40) S dX11_trayAt_40 rfl ?_
        refine zr_aaload (pc := 41) S dX11_trayAt_41 rfl (Nat.le_of_ble_eq_true rfl) rfl (by omega) (by omega) ?_
        rw [e]
        dsimp only [Int.reduceToNat]
        exact zr_aret (pc := 42) S dX11_trayAt_42 rfl (by omega) ⟨Nat.le_of_ble_eq_true rfl, Nat.le_of_ble_eq_true rfl⟩ (f c22)
      · exact zr_throw (pc := 25) S (zthw_2) (List.mem_of_getElem? (i := 23) rfl) dX11_trayAt_25 dX11_trayAt_28 dX11_trayAt_29 dX11_trayAt_32 dX11_trayAt_35 ⟨(Nat.le_of_ble_eq_true rfl), (Nat.le_of_ble_eq_true rfl)⟩ ⟨Nat.le_of_ble_eq_true rfl, Nat.le_of_ble_eq_true rfl⟩ ⟨Nat.le_of_ble_eq_true rfl, Nat.le_of_ble_eq_true rfl⟩ (g c22)
  refine zr_iload_n (pc := 0) S dX11_trayAt_0 rfl ?_
  refine zr_i2l (pc := 1) S dX11_trayAt_1 ?_
  refine zr_lconst0 (pc := 2) S dX11_trayAt_2 ?_
  refine zr_ldc2 (pc := 3) S (3) dX11_trayAt_3 (List.mem_cons_of_mem _ (zWi_7 _ (List.mem_of_getElem? (i := 11) rfl))) (by unfold zrL; omega) ?_
  refine zr_invS (pc := 6) S [zL _, zL _, zL _] (m_X11_within _) kX11_trayAt_93 dX11_trayAt_6 (Nat.le_of_ble_eq_true rfl) ⟨Nat.le_of_ble_eq_true rfl, Nat.le_of_ble_eq_true rfl⟩ (us_X11_within ?_)
  dsimp only [zaft, Option.toList, List.cons_append, List.nil_append, Nat.add_zero]
  refine zr_invS (pc := 9) S [zI _] (m_X11_needThere _) kX11_trayAt_115 dX11_trayAt_9 (Nat.le_of_ble_eq_true rfl) ⟨Nat.le_of_ble_eq_true rfl, Nat.le_of_ble_eq_true rfl⟩ (us_X11_needThere (fun c9 => ?_) (fun c9 => zaft_thr (by omega) ⟨Nat.le_of_ble_eq_true rfl, Nat.le_of_ble_eq_true rfl⟩ (hT (b01_0.mp c9))))
  dsimp only [zaft, Option.toList, List.cons_append, List.nil_append, Nat.add_zero]
  rw [b01_0, Classical.not_not] at c9
  exact key c9
def sp_X11_write (as : List zV) (M : zM) (Q : Option zV → zM → Prop) : Prop := ∃ (t p v : Int), as = [zR 0, zI t, zI p, zL v] ∧ (ICx M) ∧ ((0 ≤ t ∧ t ≤ 3) → ¬ M (172 + 2 * t.toNat) 0 = -1 → (0 ≤ p ∧ p < M (172 + 2 * t.toNat) 1) → Q (some (zL (cutV (M (172 + 2 * t.toNat) 0) v))) (zup M (173 + 2 * t.toNat) p.toNat (cutV (M (172 + 2 * t.toNat) 0) v))) ∧ (¬ (0 ≤ t ∧ t ≤ 3) → Q (some (zR 3000)) M) ∧ ((0 ≤ t ∧ t ≤ 3) → M (172 + 2 * t.toNat) 0 = -1 → Q (some (zR 3002)) M) ∧ ((0 ≤ t ∧ t ≤ 3) → ¬ M (172 + 2 * t.toNat) 0 = -1 → ¬ (0 ≤ p ∧ p < M (172 + 2 * t.toNat) 1) → Q (some (zR 3003)) M)
theorem us_X11_write {t p v : Int} {M : zM} {Q : Option zV → zM → Prop} (hx : ICx M) (hQ : (0 ≤ t ∧ t ≤ 3) → ¬ M (172 + 2 * t.toNat) 0 = -1 → (0 ≤ p ∧ p < M (172 + 2 * t.toNat) 1) → Q (some (zL (cutV (M (172 + 2 * t.toNat) 0) v))) (zup M (173 + 2 * t.toNat) p.toNat (cutV (M (172 + 2 * t.toNat) 0) v))) (hT : ¬ (0 ≤ t ∧ t ≤ 3) → Q (some (zR 3000)) M) (hU : (0 ≤ t ∧ t ≤ 3) → M (172 + 2 * t.toNat) 0 = -1 → Q (some (zR 3002)) M) (hV : (0 ≤ t ∧ t ≤ 3) → ¬ M (172 + 2 * t.toNat) 0 = -1 → ¬ (0 ≤ p ∧ p < M (172 + 2 * t.toNat) 1) → Q (some (zR 3003)) M) : sp_X11_write [zR 0, zI t, zI p, zL v] M Q := ⟨t, p, v, rfl, hx, hQ, hT, hU, hV⟩
set_option maxRecDepth 20000 in
set_option maxHeartbeats 4000000 in
theorem m_X11_write (l : Launch) : zCx l yX11_write wzX11_write rmX11_write 3 sp_X11_write := by
  refine zMet.of RX11 (by decide +kernel) rfl rfl ?_
  intro E X as M Qp hX S hsp
  obtain ⟨t, p, v, rfl, hx, hQ, hT, hU, hV⟩ := hsp
  refine ⟨Nat.le_of_ble_eq_true rfl, ?_⟩
  dsimp only [zpad, zargs]
  have key : (0 ≤ t ∧ t ≤ 3) → ¬ M (172 + 2 * t.toNat) 0 = -1 → zK (zg E) rmX11_write 6 (Qp, 3, 6 * 3) X (0 + 2, 0 + 6 * 2) 5 [some (zR 0), some (zI t), some (zI p), some (zL v), none, none] [zR (172 + 2 * t.toNat)] M := by
    intro c1 c2
    have f := hQ c1 c2
    have g := hV c1 c2
    rcases (show t = 0 ∨ t = 1 ∨ t = 2 ∨ t = 3 by omega) with rfl | rfl | rfl | rfl
    · have r := hx.2.2 0 (by omega)
      have c2' : ¬ M 172 0 = -1 := c2
      have r' : 0 ≤ M 172 1 ∧ M 172 1 ≤ 20 ∧ -1 ≤ M 172 0 ∧ M 172 0 ≤ 3 := r
      have eu : ∀ x : Int, zup M 173 p.toNat x 173 p.toNat = x := fun x => by simp [zup]
      show zK _ _ _ _ _ _ _ _ [zR 172] _
      refine zr_astore (pc := 5) S dX11_write_5 (by decide) ?_
      dsimp only [zst1, zst2, zset, zget, zlong]
      refine zr_iload_n (pc := 7) S dX11_write_7 rfl ?_
      refine zr_i2l (pc := 8) S dX11_write_8 ?_
      refine zr_lconst0 (pc := 9) S dX11_write_9 ?_
      refine zr_aload (pc := 10) S dX11_write_10 rfl ?_
      refine zr_getI (pc := 12) S fX11_write_406 dX11_write_12 rfl (Nat.le_of_ble_eq_true rfl) rfl ?_
      refine zr_iconst (pc := 15) S dX11_write_15 (by unfold zrI; omega) ?_
      refine zr_isub' (pc := 16) S dX11_write_16 (fun hx _ => by unfold zrI at *; omega) ?_
      refine zr_i2l (pc := 17) S dX11_write_17 ?_
      refine zr_invS (pc := 18) S [zL _, zL _, zL _] (m_X11_within _) kX11_write_93 dX11_write_18 (Nat.le_of_ble_eq_true rfl) ⟨Nat.le_of_ble_eq_true rfl, Nat.le_of_ble_eq_true rfl⟩ (us_X11_within ?_)
      dsimp only [zaft, Option.toList, List.cons_append, List.nil_append, Nat.add_zero]
      refine zr_if_ne (pc := 21) (tgt := 35) S dX11_write_21 (by decide) (fun c21 => ?_) (fun c21 => ?_)
      · rw [b01_0, Classical.not_not] at c21
        have f' := f (by show _ ∧ p < M 172 1; omega)
        refine zr_aload (pc := 35) S dX11_write_35 rfl ?_
        refine zr_getR (pc := 37) S fX11_write_414 dX11_write_37 rfl (Nat.le_of_ble_eq_true rfl) rfl ?_
        refine zr_iload_n (pc := 40) S dX11_write_40 rfl ?_
        refine zr_aload (pc := 41) S dX11_write_41 rfl ?_
        refine zr_lload_n (pc := 43) S dX11_write_43 rfl ?_
        refine zr_invV (pc := 44) S [zL _] (m_X10_cut _) kX11_write_417 dX11_write_44 rfl (Nat.le_of_ble_eq_true rfl) rfl (Nat.le_of_ble_eq_true rfl) ⟨Nat.le_of_ble_eq_true rfl, Nat.le_of_ble_eq_true rfl⟩ (us_X10_cut (c := 172) (m := 173) rfl (Nat.le_of_ble_eq_true rfl) (by omega) ?_)
        dsimp only [zaft, Option.toList, List.cons_append, List.nil_append, Nat.add_zero]
        refine zr_lastore (pc := 47) S dX11_write_47 rfl (Nat.le_of_ble_eq_true rfl) (by omega) (by omega) ?_
        refine zr_aload (pc := 48) S dX11_write_48 rfl ?_
        refine zr_getR (pc := 50) S fX11_write_414 dX11_write_50 rfl (Nat.le_of_ble_eq_true rfl) rfl ?_
        try simp only [zup_k, zup_e, ne_eq, Nat.reduceEqDiff, not_false_eq_true, zup_j]
        refine zr_iload_n (pc := 53) S dX11_write_53 rfl ?_
        refine zr_laload (pc := 54) S dX11_write_54 rfl (Nat.le_of_ble_eq_true rfl) (by omega) (by omega) ?_
        try simp only [zup_k, zup_e, ne_eq, Nat.reduceEqDiff, not_false_eq_true]
        exact zr_lret (pc := 55) S dX11_write_55 rfl ⟨Nat.le_of_ble_eq_true rfl, Nat.le_of_ble_eq_true rfl⟩ (f')
      · rw [b01_0] at c21
        have g' := g (fun z => c21 (by have : p < M 172 1 := z.2; omega))
        exact zr_throw (pc := 24) S (zthw_3) (List.mem_of_getElem? (i := 24) rfl) dX11_write_24 dX11_write_27 dX11_write_28 dX11_write_31 dX11_write_34 ⟨(Nat.le_of_ble_eq_true rfl), (Nat.le_of_ble_eq_true rfl)⟩ ⟨Nat.le_of_ble_eq_true rfl, Nat.le_of_ble_eq_true rfl⟩ ⟨Nat.le_of_ble_eq_true rfl, Nat.le_of_ble_eq_true rfl⟩ (g')
    · have r := hx.2.2 1 (by omega)
      have c2' : ¬ M 174 0 = -1 := c2
      have r' : 0 ≤ M 174 1 ∧ M 174 1 ≤ 20 ∧ -1 ≤ M 174 0 ∧ M 174 0 ≤ 3 := r
      have eu : ∀ x : Int, zup M 175 p.toNat x 175 p.toNat = x := fun x => by simp [zup]
      show zK _ _ _ _ _ _ _ _ [zR 174] _
      refine zr_astore (pc := 5) S dX11_write_5 (by decide) ?_
      dsimp only [zst1, zst2, zset, zget, zlong]
      refine zr_iload_n (pc := 7) S dX11_write_7 rfl ?_
      refine zr_i2l (pc := 8) S dX11_write_8 ?_
      refine zr_lconst0 (pc := 9) S dX11_write_9 ?_
      refine zr_aload (pc := 10) S dX11_write_10 rfl ?_
      refine zr_getI (pc := 12) S fX11_write_406 dX11_write_12 rfl (Nat.le_of_ble_eq_true rfl) rfl ?_
      refine zr_iconst (pc := 15) S dX11_write_15 (by unfold zrI; omega) ?_
      refine zr_isub' (pc := 16) S dX11_write_16 (fun hx _ => by unfold zrI at *; omega) ?_
      refine zr_i2l (pc := 17) S dX11_write_17 ?_
      refine zr_invS (pc := 18) S [zL _, zL _, zL _] (m_X11_within _) kX11_write_93 dX11_write_18 (Nat.le_of_ble_eq_true rfl) ⟨Nat.le_of_ble_eq_true rfl, Nat.le_of_ble_eq_true rfl⟩ (us_X11_within ?_)
      dsimp only [zaft, Option.toList, List.cons_append, List.nil_append, Nat.add_zero]
      refine zr_if_ne (pc := 21) (tgt := 35) S dX11_write_21 (by decide) (fun c21 => ?_) (fun c21 => ?_)
      · rw [b01_0, Classical.not_not] at c21
        have f' := f (by show _ ∧ p < M 174 1; omega)
        refine zr_aload (pc := 35) S dX11_write_35 rfl ?_
        refine zr_getR (pc := 37) S fX11_write_414 dX11_write_37 rfl (Nat.le_of_ble_eq_true rfl) rfl ?_
        refine zr_iload_n (pc := 40) S dX11_write_40 rfl ?_
        refine zr_aload (pc := 41) S dX11_write_41 rfl ?_
        refine zr_lload_n (pc := 43) S dX11_write_43 rfl ?_
        refine zr_invV (pc := 44) S [zL _] (m_X10_cut _) kX11_write_417 dX11_write_44 rfl (Nat.le_of_ble_eq_true rfl) rfl (Nat.le_of_ble_eq_true rfl) ⟨Nat.le_of_ble_eq_true rfl, Nat.le_of_ble_eq_true rfl⟩ (us_X10_cut (c := 174) (m := 175) rfl (Nat.le_of_ble_eq_true rfl) (by omega) ?_)
        dsimp only [zaft, Option.toList, List.cons_append, List.nil_append, Nat.add_zero]
        refine zr_lastore (pc := 47) S dX11_write_47 rfl (Nat.le_of_ble_eq_true rfl) (by omega) (by omega) ?_
        refine zr_aload (pc := 48) S dX11_write_48 rfl ?_
        refine zr_getR (pc := 50) S fX11_write_414 dX11_write_50 rfl (Nat.le_of_ble_eq_true rfl) rfl ?_
        try simp only [zup_k, zup_e, ne_eq, Nat.reduceEqDiff, not_false_eq_true, zup_j]
        refine zr_iload_n (pc := 53) S dX11_write_53 rfl ?_
        refine zr_laload (pc := 54) S dX11_write_54 rfl (Nat.le_of_ble_eq_true rfl) (by omega) (by omega) ?_
        try simp only [zup_k, zup_e, ne_eq, Nat.reduceEqDiff, not_false_eq_true]
        exact zr_lret (pc := 55) S dX11_write_55 rfl ⟨Nat.le_of_ble_eq_true rfl, Nat.le_of_ble_eq_true rfl⟩ (f')
      · rw [b01_0] at c21
        have g' := g (fun z => c21 (by have : p < M 174 1 := z.2; omega))
        exact zr_throw (pc := 24) S (zthw_3) (List.mem_of_getElem? (i := 24) rfl) dX11_write_24 dX11_write_27 dX11_write_28 dX11_write_31 dX11_write_34 ⟨(Nat.le_of_ble_eq_true rfl), (Nat.le_of_ble_eq_true rfl)⟩ ⟨Nat.le_of_ble_eq_true rfl, Nat.le_of_ble_eq_true rfl⟩ ⟨Nat.le_of_ble_eq_true rfl, Nat.le_of_ble_eq_true rfl⟩ (g')
    · have r := hx.2.2 2 (by omega)
      have c2' : ¬ M 176 0 = -1 := c2
      have r' : 0 ≤ M 176 1 ∧ M 176 1 ≤ 20 ∧ -1 ≤ M 176 0 ∧ M 176 0 ≤ 3 := r
      have eu : ∀ x : Int, zup M 177 p.toNat x 177 p.toNat = x := fun x => by simp [zup]
      show zK _ _ _ _ _ _ _ _ [zR 176] _
      refine zr_astore (pc := 5) S dX11_write_5 (by decide) ?_
      dsimp only [zst1, zst2, zset, zget, zlong]
      refine zr_iload_n (pc := 7) S dX11_write_7 rfl ?_
      refine zr_i2l (pc := 8) S dX11_write_8 ?_
      refine zr_lconst0 (pc := 9) S dX11_write_9 ?_
      refine zr_aload (pc := 10) S dX11_write_10 rfl ?_
      refine zr_getI (pc := 12) S fX11_write_406 dX11_write_12 rfl (Nat.le_of_ble_eq_true rfl) rfl ?_
      refine zr_iconst (pc := 15) S dX11_write_15 (by unfold zrI; omega) ?_
      refine zr_isub' (pc := 16) S dX11_write_16 (fun hx _ => by unfold zrI at *; omega) ?_
      refine zr_i2l (pc := 17) S dX11_write_17 ?_
      refine zr_invS (pc := 18) S [zL _, zL _, zL _] (m_X11_within _) kX11_write_93 dX11_write_18 (Nat.le_of_ble_eq_true rfl) ⟨Nat.le_of_ble_eq_true rfl, Nat.le_of_ble_eq_true rfl⟩ (us_X11_within ?_)
      dsimp only [zaft, Option.toList, List.cons_append, List.nil_append, Nat.add_zero]
      refine zr_if_ne (pc := 21) (tgt := 35) S dX11_write_21 (by decide) (fun c21 => ?_) (fun c21 => ?_)
      · rw [b01_0, Classical.not_not] at c21
        have f' := f (by show _ ∧ p < M 176 1; omega)
        refine zr_aload (pc := 35) S dX11_write_35 rfl ?_
        refine zr_getR (pc := 37) S fX11_write_414 dX11_write_37 rfl (Nat.le_of_ble_eq_true rfl) rfl ?_
        refine zr_iload_n (pc := 40) S dX11_write_40 rfl ?_
        refine zr_aload (pc := 41) S dX11_write_41 rfl ?_
        refine zr_lload_n (pc := 43) S dX11_write_43 rfl ?_
        refine zr_invV (pc := 44) S [zL _] (m_X10_cut _) kX11_write_417 dX11_write_44 rfl (Nat.le_of_ble_eq_true rfl) rfl (Nat.le_of_ble_eq_true rfl) ⟨Nat.le_of_ble_eq_true rfl, Nat.le_of_ble_eq_true rfl⟩ (us_X10_cut (c := 176) (m := 177) rfl (Nat.le_of_ble_eq_true rfl) (by omega) ?_)
        dsimp only [zaft, Option.toList, List.cons_append, List.nil_append, Nat.add_zero]
        refine zr_lastore (pc := 47) S dX11_write_47 rfl (Nat.le_of_ble_eq_true rfl) (by omega) (by omega) ?_
        refine zr_aload (pc := 48) S dX11_write_48 rfl ?_
        refine zr_getR (pc := 50) S fX11_write_414 dX11_write_50 rfl (Nat.le_of_ble_eq_true rfl) rfl ?_
        try simp only [zup_k, zup_e, ne_eq, Nat.reduceEqDiff, not_false_eq_true, zup_j]
        refine zr_iload_n (pc := 53) S dX11_write_53 rfl ?_
        refine zr_laload (pc := 54) S dX11_write_54 rfl (Nat.le_of_ble_eq_true rfl) (by omega) (by omega) ?_
        try simp only [zup_k, zup_e, ne_eq, Nat.reduceEqDiff, not_false_eq_true]
        exact zr_lret (pc := 55) S dX11_write_55 rfl ⟨Nat.le_of_ble_eq_true rfl, Nat.le_of_ble_eq_true rfl⟩ (f')
      · rw [b01_0] at c21
        have g' := g (fun z => c21 (by have : p < M 176 1 := z.2; omega))
        exact zr_throw (pc := 24) S (zthw_3) (List.mem_of_getElem? (i := 24) rfl) dX11_write_24 dX11_write_27 dX11_write_28 dX11_write_31 dX11_write_34 ⟨(Nat.le_of_ble_eq_true rfl), (Nat.le_of_ble_eq_true rfl)⟩ ⟨Nat.le_of_ble_eq_true rfl, Nat.le_of_ble_eq_true rfl⟩ ⟨Nat.le_of_ble_eq_true rfl, Nat.le_of_ble_eq_true rfl⟩ (g')
    · have r := hx.2.2 3 (by omega)
      have c2' : ¬ M 178 0 = -1 := c2
      have r' : 0 ≤ M 178 1 ∧ M 178 1 ≤ 20 ∧ -1 ≤ M 178 0 ∧ M 178 0 ≤ 3 := r
      have eu : ∀ x : Int, zup M 179 p.toNat x 179 p.toNat = x := fun x => by simp [zup]
      show zK _ _ _ _ _ _ _ _ [zR 178] _
      refine zr_astore (pc := 5) S dX11_write_5 (by decide) ?_
      dsimp only [zst1, zst2, zset, zget, zlong]
      refine zr_iload_n (pc := 7) S dX11_write_7 rfl ?_
      refine zr_i2l (pc := 8) S dX11_write_8 ?_
      refine zr_lconst0 (pc := 9) S dX11_write_9 ?_
      refine zr_aload (pc := 10) S dX11_write_10 rfl ?_
      refine zr_getI (pc := 12) S fX11_write_406 dX11_write_12 rfl (Nat.le_of_ble_eq_true rfl) rfl ?_
      refine zr_iconst (pc := 15) S dX11_write_15 (by unfold zrI; omega) ?_
      refine zr_isub' (pc := 16) S dX11_write_16 (fun hx _ => by unfold zrI at *; omega) ?_
      refine zr_i2l (pc := 17) S dX11_write_17 ?_
      refine zr_invS (pc := 18) S [zL _, zL _, zL _] (m_X11_within _) kX11_write_93 dX11_write_18 (Nat.le_of_ble_eq_true rfl) ⟨Nat.le_of_ble_eq_true rfl, Nat.le_of_ble_eq_true rfl⟩ (us_X11_within ?_)
      dsimp only [zaft, Option.toList, List.cons_append, List.nil_append, Nat.add_zero]
      refine zr_if_ne (pc := 21) (tgt := 35) S dX11_write_21 (by decide) (fun c21 => ?_) (fun c21 => ?_)
      · rw [b01_0, Classical.not_not] at c21
        have f' := f (by show _ ∧ p < M 178 1; omega)
        refine zr_aload (pc := 35) S dX11_write_35 rfl ?_
        refine zr_getR (pc := 37) S fX11_write_414 dX11_write_37 rfl (Nat.le_of_ble_eq_true rfl) rfl ?_
        refine zr_iload_n (pc := 40) S dX11_write_40 rfl ?_
        refine zr_aload (pc := 41) S dX11_write_41 rfl ?_
        refine zr_lload_n (pc := 43) S dX11_write_43 rfl ?_
        refine zr_invV (pc := 44) S [zL _] (m_X10_cut _) kX11_write_417 dX11_write_44 rfl (Nat.le_of_ble_eq_true rfl) rfl (Nat.le_of_ble_eq_true rfl) ⟨Nat.le_of_ble_eq_true rfl, Nat.le_of_ble_eq_true rfl⟩ (us_X10_cut (c := 178) (m := 179) rfl (Nat.le_of_ble_eq_true rfl) (by omega) ?_)
        dsimp only [zaft, Option.toList, List.cons_append, List.nil_append, Nat.add_zero]
        refine zr_lastore (pc := 47) S dX11_write_47 rfl (Nat.le_of_ble_eq_true rfl) (by omega) (by omega) ?_
        refine zr_aload (pc := 48) S dX11_write_48 rfl ?_
        refine zr_getR (pc := 50) S fX11_write_414 dX11_write_50 rfl (Nat.le_of_ble_eq_true rfl) rfl ?_
        try simp only [zup_k, zup_e, ne_eq, Nat.reduceEqDiff, not_false_eq_true, zup_j]
        refine zr_iload_n (pc := 53) S dX11_write_53 rfl ?_
        refine zr_laload (pc := 54) S dX11_write_54 rfl (Nat.le_of_ble_eq_true rfl) (by omega) (by omega) ?_
        try simp only [zup_k, zup_e, ne_eq, Nat.reduceEqDiff, not_false_eq_true]
        exact zr_lret (pc := 55) S dX11_write_55 rfl ⟨Nat.le_of_ble_eq_true rfl, Nat.le_of_ble_eq_true rfl⟩ (f')
      · rw [b01_0] at c21
        have g' := g (fun z => c21 (by have : p < M 178 1 := z.2; omega))
        exact zr_throw (pc := 24) S (zthw_3) (List.mem_of_getElem? (i := 24) rfl) dX11_write_24 dX11_write_27 dX11_write_28 dX11_write_31 dX11_write_34 ⟨(Nat.le_of_ble_eq_true rfl), (Nat.le_of_ble_eq_true rfl)⟩ ⟨Nat.le_of_ble_eq_true rfl, Nat.le_of_ble_eq_true rfl⟩ ⟨Nat.le_of_ble_eq_true rfl, Nat.le_of_ble_eq_true rfl⟩ (g')
  refine zr_aload_n (pc := 0) S dX11_write_0 rfl ?_
  refine zr_iload_n (pc := 1) S dX11_write_1 rfl ?_
  refine zr_invV (pc := 2) S [zI _] (m_X11_trayAt _) kX11_write_402 dX11_write_2 rfl (Nat.le_of_ble_eq_true rfl) rfl (Nat.le_of_ble_eq_true rfl) ⟨Nat.le_of_ble_eq_true rfl, Nat.le_of_ble_eq_true rfl⟩ (us_X11_trayAt hx (fun c1 c2 => zaft_ref (by omega) (key c1 c2)) (fun c => zaft_thr (by omega) ⟨Nat.le_of_ble_eq_true rfl, Nat.le_of_ble_eq_true rfl⟩ (hT c)) (fun c c' => zaft_thr (by omega) ⟨Nat.le_of_ble_eq_true rfl, Nat.le_of_ble_eq_true rfl⟩ (hU c c')))
def sp_X11_image (as : List zV) (M : zM) (Q : Option zV → zM → Prop) : Prop := ∃ (i : Int), as = [zR 0, zI i] ∧ (ICx M) ∧ ((0 ≤ i ∧ i ≤ 2) → Q none (zup (cpS M (67 + 35 * i.toNat) 1 csA) 37 i.toNat 1)) ∧ (¬ (0 ≤ i ∧ i ≤ 2) → Q (some (zR 3000)) M)
theorem us_X11_image {i : Int} {M : zM} {Q : Option zV → zM → Prop} (hx : ICx M) (hQ : (0 ≤ i ∧ i ≤ 2) → Q none (zup (cpS M (67 + 35 * i.toNat) 1 csA) 37 i.toNat 1)) (hT : ¬ (0 ≤ i ∧ i ≤ 2) → Q (some (zR 3000)) M) : sp_X11_image [zR 0, zI i] M Q := ⟨i, rfl, hx, hQ, hT⟩
set_option maxRecDepth 20000 in
set_option maxHeartbeats 4000000 in
theorem m_X11_image (l : Launch) : zCx l yX11_image wzX11_image rmX11_image 1 sp_X11_image := by
  refine zMet.of RX11 (by decide +kernel) rfl rfl ?_
  intro E X as M Qp hX S hsp
  obtain ⟨i, rfl, hx, hQ, hT⟩ := hsp
  refine ⟨Nat.le_of_ble_eq_true rfl, ?_⟩
  dsimp only [zpad, zargs]
  have key : (0 ≤ i ∧ i ≤ 2) → zK (zg E) rmX11_image 2 (Qp, 1, 6 * 1) X (0 + 1, 0 + 6 * 1) 12 [some (zR 0), some (zI i)] [] M := by
    intro c1
    have f := hQ c1
    rcases (show i = 0 ∨ i = 1 ∨ i = 2 by omega) with rfl | rfl | rfl
    · have e : M 36 (Int.toNat 0) = 67 := hx.2.1 0 (by omega)
      refine zr_aload_n (pc := 12) S dX11_image_12 rfl ?_
      refine zr_getR (pc := 13) S fX11_image_16 dX11_image_13 rfl (Nat.le_of_ble_eq_true rfl) rfl ?_
      refine zr_iload_n (pc := 16) S dX11_image_16 rfl ?_
      refine zr_aaload (pc := 17) S dX11_image_17 rfl (Nat.le_of_ble_eq_true rfl) rfl (by omega) (by omega) ?_
      rw [e]
      dsimp only [Int.reduceToNat]
      refine zr_aload_n (pc := 18) S dX11_image_18 rfl ?_
      refine zr_getR (pc := 19) S fX11_image_10 dX11_image_19 rfl (Nat.le_of_ble_eq_true rfl) rfl ?_
      refine zr_invV (pc := 22) S [zR _] (m_X8_copyFrom _) kX11_image_424 dX11_image_22 rfl (Nat.le_of_ble_eq_true rfl) rfl (Nat.le_of_ble_eq_true rfl) ⟨Nat.le_of_ble_eq_true rfl, Nat.le_of_ble_eq_true rfl⟩ (us_X8_copyFrom (by omega) ?_)
      dsimp only [zaft, Option.toList, List.cons_append, List.nil_append, Nat.add_zero]
      refine zr_aload_n (pc := 25) S dX11_image_25 rfl ?_
      refine zr_getR (pc := 26) S fX11_image_20 dX11_image_26 rfl (Nat.le_of_ble_eq_true rfl) rfl ?_
      refine zr_iload_n (pc := 29) S dX11_image_29 rfl ?_
      refine zr_iconst (pc := 30) S dX11_image_30 (by unfold zrI; omega) ?_
      refine zr_zastore (pc := 31) S dX11_image_31 rfl (Nat.le_of_ble_eq_true rfl) (by omega) (by omega) (by omega) ?_
      exact zr_vret (pc := 32) S dX11_image_32 rfl ⟨Nat.le_of_ble_eq_true rfl, Nat.le_of_ble_eq_true rfl⟩ (f)
    · have e : M 36 (Int.toNat 1) = 102 := hx.2.1 1 (by omega)
      refine zr_aload_n (pc := 12) S dX11_image_12 rfl ?_
      refine zr_getR (pc := 13) S fX11_image_16 dX11_image_13 rfl (Nat.le_of_ble_eq_true rfl) rfl ?_
      refine zr_iload_n (pc := 16) S dX11_image_16 rfl ?_
      refine zr_aaload (pc := 17) S dX11_image_17 rfl (Nat.le_of_ble_eq_true rfl) rfl (by omega) (by omega) ?_
      rw [e]
      dsimp only [Int.reduceToNat]
      refine zr_aload_n (pc := 18) S dX11_image_18 rfl ?_
      refine zr_getR (pc := 19) S fX11_image_10 dX11_image_19 rfl (Nat.le_of_ble_eq_true rfl) rfl ?_
      refine zr_invV (pc := 22) S [zR _] (m_X8_copyFrom _) kX11_image_424 dX11_image_22 rfl (Nat.le_of_ble_eq_true rfl) rfl (Nat.le_of_ble_eq_true rfl) ⟨Nat.le_of_ble_eq_true rfl, Nat.le_of_ble_eq_true rfl⟩ (us_X8_copyFrom (by omega) ?_)
      dsimp only [zaft, Option.toList, List.cons_append, List.nil_append, Nat.add_zero]
      refine zr_aload_n (pc := 25) S dX11_image_25 rfl ?_
      refine zr_getR (pc := 26) S fX11_image_20 dX11_image_26 rfl (Nat.le_of_ble_eq_true rfl) rfl ?_
      refine zr_iload_n (pc := 29) S dX11_image_29 rfl ?_
      refine zr_iconst (pc := 30) S dX11_image_30 (by unfold zrI; omega) ?_
      refine zr_zastore (pc := 31) S dX11_image_31 rfl (Nat.le_of_ble_eq_true rfl) (by omega) (by omega) (by omega) ?_
      exact zr_vret (pc := 32) S dX11_image_32 rfl ⟨Nat.le_of_ble_eq_true rfl, Nat.le_of_ble_eq_true rfl⟩ (f)
    · have e : M 36 (Int.toNat 2) = 137 := hx.2.1 2 (by omega)
      refine zr_aload_n (pc := 12) S dX11_image_12 rfl ?_
      refine zr_getR (pc := 13) S fX11_image_16 dX11_image_13 rfl (Nat.le_of_ble_eq_true rfl) rfl ?_
      refine zr_iload_n (pc := 16) S dX11_image_16 rfl ?_
      refine zr_aaload (pc := 17) S dX11_image_17 rfl (Nat.le_of_ble_eq_true rfl) rfl (by omega) (by omega) ?_
      rw [e]
      dsimp only [Int.reduceToNat]
      refine zr_aload_n (pc := 18) S dX11_image_18 rfl ?_
      refine zr_getR (pc := 19) S fX11_image_10 dX11_image_19 rfl (Nat.le_of_ble_eq_true rfl) rfl ?_
      refine zr_invV (pc := 22) S [zR _] (m_X8_copyFrom _) kX11_image_424 dX11_image_22 rfl (Nat.le_of_ble_eq_true rfl) rfl (Nat.le_of_ble_eq_true rfl) ⟨Nat.le_of_ble_eq_true rfl, Nat.le_of_ble_eq_true rfl⟩ (us_X8_copyFrom (by omega) ?_)
      dsimp only [zaft, Option.toList, List.cons_append, List.nil_append, Nat.add_zero]
      refine zr_aload_n (pc := 25) S dX11_image_25 rfl ?_
      refine zr_getR (pc := 26) S fX11_image_20 dX11_image_26 rfl (Nat.le_of_ble_eq_true rfl) rfl ?_
      refine zr_iload_n (pc := 29) S dX11_image_29 rfl ?_
      refine zr_iconst (pc := 30) S dX11_image_30 (by unfold zrI; omega) ?_
      refine zr_zastore (pc := 31) S dX11_image_31 rfl (Nat.le_of_ble_eq_true rfl) (by omega) (by omega) (by omega) ?_
      exact zr_vret (pc := 32) S dX11_image_32 rfl ⟨Nat.le_of_ble_eq_true rfl, Nat.le_of_ble_eq_true rfl⟩ (f)
  refine zr_iload_n (pc := 0) S dX11_image_0 rfl ?_
  refine zr_i2l (pc := 1) S dX11_image_1 ?_
  refine zr_lconst0 (pc := 2) S dX11_image_2 ?_
  refine zr_ldc2 (pc := 3) S (2) dX11_image_3 (List.mem_cons_of_mem _ (zWi_7 _ (List.mem_of_getElem? (i := 7) rfl))) (by unfold zrL; omega) ?_
  refine zr_invS (pc := 6) S [zL _, zL _, zL _] (m_X11_within _) kX11_image_93 dX11_image_6 (Nat.le_of_ble_eq_true rfl) ⟨Nat.le_of_ble_eq_true rfl, Nat.le_of_ble_eq_true rfl⟩ (us_X11_within ?_)
  dsimp only [zaft, Option.toList, List.cons_append, List.nil_append, Nat.add_zero]
  refine zr_invS (pc := 9) S [zI _] (m_X11_needThere _) kX11_image_115 dX11_image_9 (Nat.le_of_ble_eq_true rfl) ⟨Nat.le_of_ble_eq_true rfl, Nat.le_of_ble_eq_true rfl⟩ (us_X11_needThere (fun c9 => ?_) (fun c9 => zaft_thr (by omega) ⟨Nat.le_of_ble_eq_true rfl, Nat.le_of_ble_eq_true rfl⟩ (hT (b01_0.mp c9))))
  dsimp only [zaft, Option.toList, List.cons_append, List.nil_append, Nat.add_zero]
  rw [b01_0, Classical.not_not] at c9
  exact key c9
def sp_X11_restore (as : List zV) (M : zM) (Q : Option zV → zM → Prop) : Prop := ∃ (i : Int), as = [zR 0, zI i] ∧ (ICx M) ∧ ((0 ≤ i ∧ i ≤ 2) → ¬ M 37 i.toNat = 0 → Q none (cpS M 1 (67 + 35 * i.toNat) csA)) ∧ (¬ (0 ≤ i ∧ i ≤ 2) → Q (some (zR 3000)) M) ∧ ((0 ≤ i ∧ i ≤ 2) → M 37 i.toNat = 0 → Q (some (zR 3002)) M)
theorem us_X11_restore {i : Int} {M : zM} {Q : Option zV → zM → Prop} (hx : ICx M) (hQ : (0 ≤ i ∧ i ≤ 2) → ¬ M 37 i.toNat = 0 → Q none (cpS M 1 (67 + 35 * i.toNat) csA)) (hT : ¬ (0 ≤ i ∧ i ≤ 2) → Q (some (zR 3000)) M) (hU : (0 ≤ i ∧ i ≤ 2) → M 37 i.toNat = 0 → Q (some (zR 3002)) M) : sp_X11_restore [zR 0, zI i] M Q := ⟨i, rfl, hx, hQ, hT, hU⟩
set_option maxRecDepth 20000 in
set_option maxHeartbeats 4000000 in
theorem m_X11_restore (l : Launch) : zCx l yX11_restore wzX11_restore rmX11_restore 2 sp_X11_restore := by
  refine zMet.of RX11 (by decide +kernel) rfl rfl ?_
  intro E X as M Qp hX S hsp
  obtain ⟨i, rfl, hx, hQ, hT, hU⟩ := hsp
  refine ⟨Nat.le_of_ble_eq_true rfl, ?_⟩
  dsimp only [zpad, zargs]
  have key : (0 ≤ i ∧ i ≤ 2) → ¬ M 37 i.toNat = 0 → zK (zg E) rmX11_restore 2 (Qp, 2, 6 * 2) X (0 + 1, 0 + 6 * 1) 32 [some (zR 0), some (zI i)] [] M := by
    intro c1 c2
    have f := hQ c1 c2
    rcases (show i = 0 ∨ i = 1 ∨ i = 2 by omega) with rfl | rfl | rfl
    · have e : M 36 (Int.toNat 0) = 67 := hx.2.1 0 (by omega)
      refine zr_aload_n (pc := 32) S dX11_restore_32 rfl ?_
      refine zr_getR (pc := 33) S fX11_restore_10 dX11_restore_33 rfl (Nat.le_of_ble_eq_true rfl) rfl ?_
      refine zr_aload_n (pc := 36) S dX11_restore_36 rfl ?_
      refine zr_getR (pc := 37) S fX11_restore_16 dX11_restore_37 rfl (Nat.le_of_ble_eq_true rfl) rfl ?_
      refine zr_iload_n (pc := 40) S dX11_restore_40 rfl ?_
      refine zr_aaload (pc := 41) S dX11_restore_41 rfl (Nat.le_of_ble_eq_true rfl) rfl (by omega) (by omega) ?_
      rw [e]
      dsimp only [Int.reduceToNat]
      refine zr_invV (pc := 42) S [zR _] (m_X8_copyFrom _) kX11_restore_424 dX11_restore_42 rfl (Nat.le_of_ble_eq_true rfl) rfl (Nat.le_of_ble_eq_true rfl) ⟨Nat.le_of_ble_eq_true rfl, Nat.le_of_ble_eq_true rfl⟩ (us_X8_copyFrom (by omega) ?_)
      dsimp only [zaft, Option.toList, List.cons_append, List.nil_append, Nat.add_zero]
      exact zr_vret (pc := 45) S dX11_restore_45 rfl ⟨Nat.le_of_ble_eq_true rfl, Nat.le_of_ble_eq_true rfl⟩ (f)
    · have e : M 36 (Int.toNat 1) = 102 := hx.2.1 1 (by omega)
      refine zr_aload_n (pc := 32) S dX11_restore_32 rfl ?_
      refine zr_getR (pc := 33) S fX11_restore_10 dX11_restore_33 rfl (Nat.le_of_ble_eq_true rfl) rfl ?_
      refine zr_aload_n (pc := 36) S dX11_restore_36 rfl ?_
      refine zr_getR (pc := 37) S fX11_restore_16 dX11_restore_37 rfl (Nat.le_of_ble_eq_true rfl) rfl ?_
      refine zr_iload_n (pc := 40) S dX11_restore_40 rfl ?_
      refine zr_aaload (pc := 41) S dX11_restore_41 rfl (Nat.le_of_ble_eq_true rfl) rfl (by omega) (by omega) ?_
      rw [e]
      dsimp only [Int.reduceToNat]
      refine zr_invV (pc := 42) S [zR _] (m_X8_copyFrom _) kX11_restore_424 dX11_restore_42 rfl (Nat.le_of_ble_eq_true rfl) rfl (Nat.le_of_ble_eq_true rfl) ⟨Nat.le_of_ble_eq_true rfl, Nat.le_of_ble_eq_true rfl⟩ (us_X8_copyFrom (by omega) ?_)
      dsimp only [zaft, Option.toList, List.cons_append, List.nil_append, Nat.add_zero]
      exact zr_vret (pc := 45) S dX11_restore_45 rfl ⟨Nat.le_of_ble_eq_true rfl, Nat.le_of_ble_eq_true rfl⟩ (f)
    · have e : M 36 (Int.toNat 2) = 137 := hx.2.1 2 (by omega)
      refine zr_aload_n (pc := 32) S dX11_restore_32 rfl ?_
      refine zr_getR (pc := 33) S fX11_restore_10 dX11_restore_33 rfl (Nat.le_of_ble_eq_true rfl) rfl ?_
      refine zr_aload_n (pc := 36) S dX11_restore_36 rfl ?_
      refine zr_getR (pc := 37) S fX11_restore_16 dX11_restore_37 rfl (Nat.le_of_ble_eq_true rfl) rfl ?_
      refine zr_iload_n (pc := 40) S dX11_restore_40 rfl ?_
      refine zr_aaload (pc := 41) S dX11_restore_41 rfl (Nat.le_of_ble_eq_true rfl) rfl (by omega) (by omega) ?_
      rw [e]
      dsimp only [Int.reduceToNat]
      refine zr_invV (pc := 42) S [zR _] (m_X8_copyFrom _) kX11_restore_424 dX11_restore_42 rfl (Nat.le_of_ble_eq_true rfl) rfl (Nat.le_of_ble_eq_true rfl) ⟨Nat.le_of_ble_eq_true rfl, Nat.le_of_ble_eq_true rfl⟩ (us_X8_copyFrom (by omega) ?_)
      dsimp only [zaft, Option.toList, List.cons_append, List.nil_append, Nat.add_zero]
      exact zr_vret (pc := 45) S dX11_restore_45 rfl ⟨Nat.le_of_ble_eq_true rfl, Nat.le_of_ble_eq_true rfl⟩ (f)
  refine zr_iload_n (pc := 0) S dX11_restore_0 rfl ?_
  refine zr_i2l (pc := 1) S dX11_restore_1 ?_
  refine zr_lconst0 (pc := 2) S dX11_restore_2 ?_
  refine zr_ldc2 (pc := 3) S (2) dX11_restore_3 (List.mem_cons_of_mem _ (zWi_7 _ (List.mem_of_getElem? (i := 7) rfl))) (by unfold zrL; omega) ?_
  refine zr_invS (pc := 6) S [zL _, zL _, zL _] (m_X11_within _) kX11_restore_93 dX11_restore_6 (Nat.le_of_ble_eq_true rfl) ⟨Nat.le_of_ble_eq_true rfl, Nat.le_of_ble_eq_true rfl⟩ (us_X11_within ?_)
  dsimp only [zaft, Option.toList, List.cons_append, List.nil_append, Nat.add_zero]
  refine zr_invS (pc := 9) S [zI _] (m_X11_needThere _) kX11_restore_115 dX11_restore_9 (Nat.le_of_ble_eq_true rfl) ⟨Nat.le_of_ble_eq_true rfl, Nat.le_of_ble_eq_true rfl⟩ (us_X11_needThere (fun c9 => ?_) (fun c9 => zaft_thr (by omega) ⟨Nat.le_of_ble_eq_true rfl, Nat.le_of_ble_eq_true rfl⟩ (hT (b01_0.mp c9))))
  dsimp only [zaft, Option.toList, List.cons_append, List.nil_append, Nat.add_zero]
  rw [b01_0, Classical.not_not] at c9
  refine zr_aload_n (pc := 12) S dX11_restore_12 rfl ?_
  refine zr_getR (pc := 13) S fX11_restore_20 dX11_restore_13 rfl (Nat.le_of_ble_eq_true rfl) rfl ?_
  refine zr_iload_n (pc := 16) S dX11_restore_16 rfl ?_
  refine zr_zaload (pc := 17) S dX11_restore_17 rfl (Nat.le_of_ble_eq_true rfl) (by omega) (by omega) ?_
  refine zr_if_ne (pc := 18) (tgt := 32) S dX11_restore_18 (by decide) (fun c18 => ?_) (fun c18 => ?_)
  · exact key c9 c18
  · exact zr_throw (pc := 21) S (zthw_2) (List.mem_of_getElem? (i := 22) rfl) dX11_restore_21 dX11_restore_24 dX11_restore_25 dX11_restore_28 dX11_restore_31 ⟨(Nat.le_of_ble_eq_true rfl), (Nat.le_of_ble_eq_true rfl)⟩ ⟨Nat.le_of_ble_eq_true rfl, Nat.le_of_ble_eq_true rfl⟩ ⟨Nat.le_of_ble_eq_true rfl, Nat.le_of_ble_eq_true rfl⟩ (hU c9 c18)
end
