section
/-- bounds of what the till holds; B bounds its counters -/
def ICt (B : Int) (M : zM) : Prop := (0 ≤ M 17 6 ∧ M 17 6 ≤ 12) ∧ (0 ≤ M 17 11 ∧ M 17 11 ≤ 160) ∧ (∀ t : Nat, t < 8 → 0 ≤ M 19 t ∧ M 19 t ≤ 20 ∧ 0 ≤ M 20 t ∧ M 20 t ≤ B ∧ 0 ≤ M 21 t ∧ M 21 t ≤ B ∧ -B ≤ M 22 t ∧ M 22 t ≤ B) ∧ (∀ j : Nat, j < 160 → 0 ≤ M 18 j ∧ M 18 j < 8) ∧ (∀ i : Nat, i < 12 → -1 ≤ M 24 i ∧ M 24 i < 8 ∧ 0 ≤ M 25 i ∧ M 25 i < 8 ∧ 0 ≤ M 26 i ∧ M 26 i ≤ 2 ∧ 0 ≤ M 27 i ∧ M 27 i ≤ 400)
theorem ICt.b {B : Int} {M : zM} (h : ICt B M) {t : Int} (h0 : 0 ≤ t) (h1 : t < 8) : 0 ≤ M 19 t.toNat ∧ M 19 t.toNat ≤ 20 ∧ 0 ≤ M 20 t.toNat ∧ M 20 t.toNat ≤ B ∧ 0 ≤ M 21 t.toNat ∧ M 21 t.toNat ≤ B ∧ -B ≤ M 22 t.toNat ∧ M 22 t.toNat ≤ B := h.2.2.1 t.toNat (by omega)
theorem ICt.c {B : Int} {M : zM} (h : ICt B M) {j : Int} (h0 : 0 ≤ j) (h1 : j < 160) : 0 ≤ M 18 j.toNat ∧ M 18 j.toNat < 8 := h.2.2.2.1 j.toNat (by omega)
theorem ICt.l {B : Int} {M : zM} (h : ICt B M) {i : Int} (h0 : 0 ≤ i) (h1 : i < 12) : -1 ≤ M 24 i.toNat ∧ M 24 i.toNat < 8 ∧ 0 ≤ M 25 i.toNat ∧ M 25 i.toNat < 8 ∧ 0 ≤ M 26 i.toNat ∧ M 26 i.toNat ≤ 2 ∧ 0 ≤ M 27 i.toNat ∧ M 27 i.toNat ≤ 400 := h.2.2.2.2 i.toNat (by omega)
def rmX9_hasRoom : Room := { frames := 0, cells := 0, slots := 0, locals := 0 }
abbrev wzX9_hasRoom : List Cond := .code yX9_hasRoom cX9_hasRoom 3 (some .boolean) :: zW
def rmX9_layOn : Room := { frames := 0, cells := 0, slots := 0, locals := 0 }
abbrev wzX9_layOn : List Cond := .code yX9_layOn cX9_layOn 3 none :: zW
def rmX9_loadOne : Room := { frames := 1, cells := 0, slots := 0, locals := 22 }
abbrev wzX9_loadOne : List Cond := .code yX9_loadOne cX9_loadOne 3 none :: zW
def rmX9_top : Room := { frames := 0, cells := 0, slots := 0, locals := 0 }
abbrev wzX9_top : List Cond := .code yX9_top cX9_top 2 (some .int) :: zW
def rmX9_coinsIn : Room := { frames := 0, cells := 0, slots := 0, locals := 0 }
abbrev wzX9_coinsIn : List Cond := .code yX9_coinsIn cX9_coinsIn 5 (some .int) :: zW
def rmX9_strangers : Room := { frames := 1, cells := 0, slots := 0, locals := 24 }
abbrev wzX9_strangers : List Cond := .code yX9_strangers cX9_strangers 2 (some .int) :: zW
def rmX9_tubeToBag : Room := { frames := 0, cells := 0, slots := 0, locals := 0 }
abbrev wzX9_tubeToBag : List Cond := .code yX9_tubeToBag cX9_tubeToBag 3 none :: zW
def rmX9_slideIn : Room := { frames := 0, cells := 0, slots := 0, locals := 0 }
abbrev wzX9_slideIn : List Cond := .code yX9_slideIn cX9_slideIn 5 none :: zW
def rmX9_allCredit : Room := { frames := 0, cells := 0, slots := 0, locals := 0 }
abbrev wzX9_allCredit : List Cond := .code yX9_allCredit cX9_allCredit 3 (some .int) :: zW
def rmX9_giveOut : Room := { frames := 0, cells := 0, slots := 0, locals := 0 }
abbrev wzX9_giveOut : List Cond := .code yX9_giveOut cX9_giveOut 2 none :: zW
def rmX9_giveFrom : Room := { frames := 1, cells := 0, slots := 0, locals := 21 }
abbrev wzX9_giveFrom : List Cond := .code yX9_giveFrom cX9_giveFrom 4 none :: zW
def rmX9_slideToTubes : Room := { frames := 1, cells := 0, slots := 0, locals := 22 }
abbrev wzX9_slideToTubes : List Cond := .code yX9_slideToTubes cX9_slideToTubes 2 none :: zW
def rmX9_slideBack : Room := { frames := 1, cells := 0, slots := 0, locals := 21 }
abbrev wzX9_slideBack : List Cond := .code yX9_slideBack cX9_slideBack 2 none :: zW
def rmX9_due : Room := { frames := 0, cells := 0, slots := 0, locals := 0 }
abbrev wzX9_due : List Cond := .code yX9_due cX9_due 2 (some .int) :: zW
def rmX9_there : Room := { frames := 1, cells := 0, slots := 0, locals := 24 }
abbrev wzX9_there : List Cond := .code yX9_there cX9_there 4 (some .int) :: zW
def rmX9_odd : Room := { frames := 2, cells := 0, slots := 0, locals := 47 }
abbrev wzX9_odd : List Cond := .code yX9_odd cX9_odd 2 (some .int) :: zW
theorem fX9_hasRoom_15 : zfl wzX9_hasRoom RX9 vwCl 15 9 1 := ⟨_, _, _, rfl, (fun w h => List.mem_cons_of_mem _ (zWuX9 w h)), by decide, List.mem_cons_of_mem _ (zWi_11 _ (List.mem_of_getElem? (i := 34) rfl))⟩
theorem fX9_layOn_15 : zfl wzX9_layOn RX9 vwCl 15 9 1 := ⟨_, _, _, rfl, (fun w h => List.mem_cons_of_mem _ (zWuX9 w h)), by decide, List.mem_cons_of_mem _ (zWi_11 _ (List.mem_of_getElem? (i := 34) rfl))⟩
theorem fX9_layOn_18 : zfl wzX9_layOn RX9 vwCl 18 9 2 := ⟨_, _, _, rfl, (fun w h => List.mem_cons_of_mem _ (zWuX9 w h)), by decide, List.mem_cons_of_mem _ (zWi_11 _ (List.mem_of_getElem? (i := 35) rfl))⟩
theorem fX9_layOn_9 : zfl wzX9_layOn RX9 vwCl 9 9 0 := ⟨_, _, _, rfl, (fun w h => List.mem_cons_of_mem _ (zWuX9 w h)), by decide, List.mem_cons_of_mem _ (zWi_11 _ (List.mem_of_getElem? (i := 46) rfl))⟩
theorem fX9_loadOne_21 : zfl wzX9_loadOne RX9 vwCl 21 9 3 := ⟨_, _, _, rfl, (fun w h => List.mem_cons_of_mem _ (zWuX9 w h)), by decide, List.mem_cons_of_mem _ (zWi_11 _ (List.mem_of_getElem? (i := 36) rfl))⟩
theorem kX9_loadOne_45 : ∀ (s9 : State) (a9 : Array Value), (∀ w ∈ wzX9_loadOne, w.before a9 s9 = true) → CallW rmX9_loadOne s9 a9 RX9 RX9 45 yX9_layOn cX9_layOn 3 none wzX9_layOn rmX9_layOn 0 0 2 := zcV (zWi_25 _ (List.mem_of_getElem? (i := 3) rfl)) (zWi_17 _ (List.mem_of_getElem? (i := 17) rfl)) (zWi_29 _ (List.mem_of_getElem? (i := 41) rfl)) (zWi_12 _ (List.mem_of_getElem? (i := 21) rfl)) (zWi_6 _ (List.mem_of_getElem? (i := 1) rfl)) (by decide +kernel) rfl rfl ⟨Nat.le_of_ble_eq_true rfl, Nat.le_of_ble_eq_true rfl⟩
theorem fX9_top_15 : zfl wzX9_top RX9 vwCl 15 9 1 := ⟨_, _, _, rfl, (fun w h => List.mem_cons_of_mem _ (zWuX9 w h)), by decide, List.mem_cons_of_mem _ (zWi_11 _ (List.mem_of_getElem? (i := 34) rfl))⟩
theorem fX9_top_9 : zfl wzX9_top RX9 vwCl 9 9 0 := ⟨_, _, _, rfl, (fun w h => List.mem_cons_of_mem _ (zWuX9 w h)), by decide, List.mem_cons_of_mem _ (zWi_11 _ (List.mem_of_getElem? (i := 46) rfl))⟩
theorem fX9_coinsIn_15 : zfl wzX9_coinsIn RX9 vwCl 15 9 1 := ⟨_, _, _, rfl, (fun w h => List.mem_cons_of_mem _ (zWuX9 w h)), by decide, List.mem_cons_of_mem _ (zWi_11 _ (List.mem_of_getElem? (i := 34) rfl))⟩
theorem fX9_coinsIn_9 : zfl wzX9_coinsIn RX9 vwCl 9 9 0 := ⟨_, _, _, rfl, (fun w h => List.mem_cons_of_mem _ (zWuX9 w h)), by decide, List.mem_cons_of_mem _ (zWi_11 _ (List.mem_of_getElem? (i := 46) rfl))⟩
theorem fX9_strangers_15 : zfl wzX9_strangers RX9 vwCl 15 9 1 := ⟨_, _, _, rfl, (fun w h => List.mem_cons_of_mem _ (zWuX9 w h)), by decide, List.mem_cons_of_mem _ (zWi_11 _ (List.mem_of_getElem? (i := 34) rfl))⟩
theorem kX9_strangers_49 : ∀ (s9 : State) (a9 : Array Value), (∀ w ∈ wzX9_strangers, w.before a9 s9 = true) → CallW rmX9_strangers s9 a9 RX9 RX9 49 yX9_coinsIn cX9_coinsIn 5 (some .int) wzX9_coinsIn rmX9_coinsIn 0 0 2 := zcV (zWi_25 _ (List.mem_of_getElem? (i := 4) rfl)) (zWi_17 _ (List.mem_of_getElem? (i := 10) rfl)) (zWi_29 _ (List.mem_of_getElem? (i := 35) rfl)) (zWi_12 _ (List.mem_of_getElem? (i := 21) rfl)) (zWi_5 _ (List.mem_of_getElem? (i := 44) rfl)) (by decide +kernel) rfl rfl ⟨Nat.le_of_ble_eq_true rfl, Nat.le_of_ble_eq_true rfl⟩
theorem fX9_tubeToBag_15 : zfl wzX9_tubeToBag RX9 vwCl 15 9 1 := ⟨_, _, _, rfl, (fun w h => List.mem_cons_of_mem _ (zWuX9 w h)), by decide, List.mem_cons_of_mem _ (zWi_11 _ (List.mem_of_getElem? (i := 34) rfl))⟩
theorem fX9_tubeToBag_18 : zfl wzX9_tubeToBag RX9 vwCl 18 9 2 := ⟨_, _, _, rfl, (fun w h => List.mem_cons_of_mem _ (zWuX9 w h)), by decide, List.mem_cons_of_mem _ (zWi_11 _ (List.mem_of_getElem? (i := 35) rfl))⟩
theorem fX9_tubeToBag_9 : zfl wzX9_tubeToBag RX9 vwCl 9 9 0 := ⟨_, _, _, rfl, (fun w h => List.mem_cons_of_mem _ (zWuX9 w h)), by decide, List.mem_cons_of_mem _ (zWi_11 _ (List.mem_of_getElem? (i := 46) rfl))⟩
theorem fX9_slideIn_30 : zfl wzX9_slideIn RX9 vwCl 30 9 7 := ⟨_, _, _, rfl, (fun w h => List.mem_cons_of_mem _ (zWuX9 w h)), by decide, List.mem_cons_of_mem _ (zWi_11 _ (List.mem_of_getElem? (i := 39) rfl))⟩
theorem fX9_slideIn_53 : zfl wzX9_slideIn RX9 vwCl 53 9 6 := ⟨_, _, _, rfl, (fun w h => List.mem_cons_of_mem _ (zWuX9 w h)), by decide, List.mem_cons_of_mem _ (zWi_11 _ (List.mem_of_getElem? (i := 44) rfl))⟩
theorem fX9_slideIn_33 : zfl wzX9_slideIn RX9 vwCl 33 9 8 := ⟨_, _, _, rfl, (fun w h => List.mem_cons_of_mem _ (zWuX9 w h)), by decide, List.mem_cons_of_mem _ (zWi_11 _ (List.mem_of_getElem? (i := 40) rfl))⟩
theorem fX9_slideIn_36 : zfl wzX9_slideIn RX9 vwCl 36 9 9 := ⟨_, _, _, rfl, (fun w h => List.mem_cons_of_mem _ (zWuX9 w h)), by decide, List.mem_cons_of_mem _ (zWi_11 _ (List.mem_of_getElem? (i := 41) rfl))⟩
theorem fX9_slideIn_39 : zfl wzX9_slideIn RX9 vwCl 39 9 10 := ⟨_, _, _, rfl, (fun w h => List.mem_cons_of_mem _ (zWuX9 w h)), by decide, List.mem_cons_of_mem _ (zWi_11 _ (List.mem_of_getElem? (i := 42) rfl))⟩
theorem pX9_slideIn_53 : zfp wzX9_slideIn RX9 vwCl 53 9 6 := ⟨_, _, _, _, rfl, (fun w h => List.mem_cons_of_mem _ (zWuX9 w h)), by decide, List.mem_cons_of_mem _ (zWi_11 _ (List.mem_of_getElem? (i := 44) rfl)), tyX9_ok, nmX9, rfl, by decide +kernel⟩
theorem fX9_slideIn_24 : zfl wzX9_slideIn RX9 vwCl 24 9 4 := ⟨_, _, _, rfl, (fun w h => List.mem_cons_of_mem _ (zWuX9 w h)), by decide, List.mem_cons_of_mem _ (zWi_11 _ (List.mem_of_getElem? (i := 37) rfl))⟩
theorem fX9_allCredit_53 : zfl wzX9_allCredit RX9 vwCl 53 9 6 := ⟨_, _, _, rfl, (fun w h => List.mem_cons_of_mem _ (zWuX9 w h)), by decide, List.mem_cons_of_mem _ (zWi_11 _ (List.mem_of_getElem? (i := 44) rfl))⟩
theorem fX9_allCredit_39 : zfl wzX9_allCredit RX9 vwCl 39 9 10 := ⟨_, _, _, rfl, (fun w h => List.mem_cons_of_mem _ (zWuX9 w h)), by decide, List.mem_cons_of_mem _ (zWi_11 _ (List.mem_of_getElem? (i := 42) rfl))⟩
theorem fX9_giveOut_65 : zfl wzX9_giveOut RX9 vwCl 65 9 11 := ⟨_, _, _, rfl, (fun w h => List.mem_cons_of_mem _ (zWuX9 w h)), by decide, List.mem_cons_of_mem _ (zWi_11 _ (List.mem_of_getElem? (i := 45) rfl))⟩
theorem fX9_giveOut_42 : zfl wzX9_giveOut RX9 vwCl 42 9 12 := ⟨_, _, _, rfl, (fun w h => List.mem_cons_of_mem _ (zWuX9 w h)), by decide, List.mem_cons_of_mem _ (zWi_11 _ (List.mem_of_getElem? (i := 43) rfl))⟩
theorem pX9_giveOut_65 : zfp wzX9_giveOut RX9 vwCl 65 9 11 := ⟨_, _, _, _, rfl, (fun w h => List.mem_cons_of_mem _ (zWuX9 w h)), by decide, List.mem_cons_of_mem _ (zWi_11 _ (List.mem_of_getElem? (i := 45) rfl)), tyX9_ok, nmX9, rfl, by decide +kernel⟩
theorem fX9_giveFrom_15 : zfl wzX9_giveFrom RX9 vwCl 15 9 1 := ⟨_, _, _, rfl, (fun w h => List.mem_cons_of_mem _ (zWuX9 w h)), by decide, List.mem_cons_of_mem _ (zWi_11 _ (List.mem_of_getElem? (i := 34) rfl))⟩
theorem fX9_giveFrom_24 : zfl wzX9_giveFrom RX9 vwCl 24 9 4 := ⟨_, _, _, rfl, (fun w h => List.mem_cons_of_mem _ (zWuX9 w h)), by decide, List.mem_cons_of_mem _ (zWi_11 _ (List.mem_of_getElem? (i := 37) rfl))⟩
theorem kX9_giveFrom_57 : ∀ (s9 : State) (a9 : Array Value), (∀ w ∈ wzX9_giveFrom, w.before a9 s9 = true) → CallW rmX9_giveFrom s9 a9 RX9 RX9 57 yX9_top cX9_top 2 (some .int) wzX9_top rmX9_top 0 0 1 := zcV (zWi_25 _ (List.mem_of_getElem? (i := 5) rfl)) (zWi_17 _ (List.mem_of_getElem? (i := 25) rfl)) (zWi_29 _ (List.mem_of_getElem? (i := 49) rfl)) (zWi_12 _ (List.mem_of_getElem? (i := 21) rfl)) (zWi_6 _ (List.mem_of_getElem? (i := 9) rfl)) (by decide +kernel) rfl rfl ⟨Nat.le_of_ble_eq_true rfl, Nat.le_of_ble_eq_true rfl⟩
theorem kX9_giveFrom_61 : ∀ (s9 : State) (a9 : Array Value), (∀ w ∈ wzX9_giveFrom, w.before a9 s9 = true) → CallW rmX9_giveFrom s9 a9 RX9 RX9 61 yX9_giveOut cX9_giveOut 2 none wzX9_giveOut rmX9_giveOut 0 0 1 := zcV (zWi_25 _ (List.mem_of_getElem? (i := 6) rfl)) (zWi_17 _ (List.mem_of_getElem? (i := 14) rfl)) (zWi_29 _ (List.mem_of_getElem? (i := 39) rfl)) (zWi_12 _ (List.mem_of_getElem? (i := 21) rfl)) (zWi_5 _ (List.mem_of_getElem? (i := 48) rfl)) (by decide +kernel) rfl rfl ⟨Nat.le_of_ble_eq_true rfl, Nat.le_of_ble_eq_true rfl⟩
theorem fX9_slideToTubes_53 : zfl wzX9_slideToTubes RX9 vwCl 53 9 6 := ⟨_, _, _, rfl, (fun w h => List.mem_cons_of_mem _ (zWuX9 w h)), by decide, List.mem_cons_of_mem _ (zWi_11 _ (List.mem_of_getElem? (i := 44) rfl))⟩
theorem fX9_slideToTubes_30 : zfl wzX9_slideToTubes RX9 vwCl 30 9 7 := ⟨_, _, _, rfl, (fun w h => List.mem_cons_of_mem _ (zWuX9 w h)), by decide, List.mem_cons_of_mem _ (zWi_11 _ (List.mem_of_getElem? (i := 39) rfl))⟩
theorem fX9_slideToTubes_33 : zfl wzX9_slideToTubes RX9 vwCl 33 9 8 := ⟨_, _, _, rfl, (fun w h => List.mem_cons_of_mem _ (zWuX9 w h)), by decide, List.mem_cons_of_mem _ (zWi_11 _ (List.mem_of_getElem? (i := 40) rfl))⟩
theorem pX9_slideToTubes_53 : zfp wzX9_slideToTubes RX9 vwCl 53 9 6 := ⟨_, _, _, _, rfl, (fun w h => List.mem_cons_of_mem _ (zWuX9 w h)), by decide, List.mem_cons_of_mem _ (zWi_11 _ (List.mem_of_getElem? (i := 44) rfl)), tyX9_ok, nmX9, rfl, by decide +kernel⟩
theorem kX9_slideToTubes_45 : ∀ (s9 : State) (a9 : Array Value), (∀ w ∈ wzX9_slideToTubes, w.before a9 s9 = true) → CallW rmX9_slideToTubes s9 a9 RX9 RX9 45 yX9_layOn cX9_layOn 3 none wzX9_layOn rmX9_layOn 0 0 2 := zcV (zWi_25 _ (List.mem_of_getElem? (i := 3) rfl)) (zWi_17 _ (List.mem_of_getElem? (i := 17) rfl)) (zWi_29 _ (List.mem_of_getElem? (i := 41) rfl)) (zWi_12 _ (List.mem_of_getElem? (i := 21) rfl)) (zWi_6 _ (List.mem_of_getElem? (i := 1) rfl)) (by decide +kernel) rfl rfl ⟨Nat.le_of_ble_eq_true rfl, Nat.le_of_ble_eq_true rfl⟩
theorem pX9_slideBack_65 : zfp wzX9_slideBack RX9 vwCl 65 9 11 := ⟨_, _, _, _, rfl, (fun w h => List.mem_cons_of_mem _ (zWuX9 w h)), by decide, List.mem_cons_of_mem _ (zWi_11 _ (List.mem_of_getElem? (i := 45) rfl)), tyX9_ok, nmX9, rfl, by decide +kernel⟩
theorem fX9_slideBack_53 : zfl wzX9_slideBack RX9 vwCl 53 9 6 := ⟨_, _, _, rfl, (fun w h => List.mem_cons_of_mem _ (zWuX9 w h)), by decide, List.mem_cons_of_mem _ (zWi_11 _ (List.mem_of_getElem? (i := 44) rfl))⟩
theorem fX9_slideBack_24 : zfl wzX9_slideBack RX9 vwCl 24 9 4 := ⟨_, _, _, rfl, (fun w h => List.mem_cons_of_mem _ (zWuX9 w h)), by decide, List.mem_cons_of_mem _ (zWi_11 _ (List.mem_of_getElem? (i := 37) rfl))⟩
theorem fX9_slideBack_33 : zfl wzX9_slideBack RX9 vwCl 33 9 8 := ⟨_, _, _, rfl, (fun w h => List.mem_cons_of_mem _ (zWuX9 w h)), by decide, List.mem_cons_of_mem _ (zWi_11 _ (List.mem_of_getElem? (i := 40) rfl))⟩
theorem fX9_slideBack_36 : zfl wzX9_slideBack RX9 vwCl 36 9 9 := ⟨_, _, _, rfl, (fun w h => List.mem_cons_of_mem _ (zWuX9 w h)), by decide, List.mem_cons_of_mem _ (zWi_11 _ (List.mem_of_getElem? (i := 41) rfl))⟩
theorem fX9_slideBack_30 : zfl wzX9_slideBack RX9 vwCl 30 9 7 := ⟨_, _, _, rfl, (fun w h => List.mem_cons_of_mem _ (zWuX9 w h)), by decide, List.mem_cons_of_mem _ (zWi_11 _ (List.mem_of_getElem? (i := 39) rfl))⟩
theorem pX9_slideBack_53 : zfp wzX9_slideBack RX9 vwCl 53 9 6 := ⟨_, _, _, _, rfl, (fun w h => List.mem_cons_of_mem _ (zWuX9 w h)), by decide, List.mem_cons_of_mem _ (zWi_11 _ (List.mem_of_getElem? (i := 44) rfl)), tyX9_ok, nmX9, rfl, by decide +kernel⟩
theorem kX9_slideBack_61 : ∀ (s9 : State) (a9 : Array Value), (∀ w ∈ wzX9_slideBack, w.before a9 s9 = true) → CallW rmX9_slideBack s9 a9 RX9 RX9 61 yX9_giveOut cX9_giveOut 2 none wzX9_giveOut rmX9_giveOut 0 0 1 := zcV (zWi_25 _ (List.mem_of_getElem? (i := 6) rfl)) (zWi_17 _ (List.mem_of_getElem? (i := 14) rfl)) (zWi_29 _ (List.mem_of_getElem? (i := 39) rfl)) (zWi_12 _ (List.mem_of_getElem? (i := 21) rfl)) (zWi_5 _ (List.mem_of_getElem? (i := 48) rfl)) (by decide +kernel) rfl rfl ⟨Nat.le_of_ble_eq_true rfl, Nat.le_of_ble_eq_true rfl⟩
theorem fX9_due_21 : zfl wzX9_due RX9 vwCl 21 9 3 := ⟨_, _, _, rfl, (fun w h => List.mem_cons_of_mem _ (zWuX9 w h)), by decide, List.mem_cons_of_mem _ (zWi_11 _ (List.mem_of_getElem? (i := 36) rfl))⟩
theorem fX9_due_24 : zfl wzX9_due RX9 vwCl 24 9 4 := ⟨_, _, _, rfl, (fun w h => List.mem_cons_of_mem _ (zWuX9 w h)), by decide, List.mem_cons_of_mem _ (zWi_11 _ (List.mem_of_getElem? (i := 37) rfl))⟩
theorem fX9_there_18 : zfl wzX9_there RX9 vwCl 18 9 2 := ⟨_, _, _, rfl, (fun w h => List.mem_cons_of_mem _ (zWuX9 w h)), by decide, List.mem_cons_of_mem _ (zWi_11 _ (List.mem_of_getElem? (i := 35) rfl))⟩
theorem kX9_there_49 : ∀ (s9 : State) (a9 : Array Value), (∀ w ∈ wzX9_there, w.before a9 s9 = true) → CallW rmX9_there s9 a9 RX9 RX9 49 yX9_coinsIn cX9_coinsIn 5 (some .int) wzX9_coinsIn rmX9_coinsIn 0 0 2 := zcV (zWi_25 _ (List.mem_of_getElem? (i := 4) rfl)) (zWi_17 _ (List.mem_of_getElem? (i := 10) rfl)) (zWi_29 _ (List.mem_of_getElem? (i := 35) rfl)) (zWi_12 _ (List.mem_of_getElem? (i := 21) rfl)) (zWi_5 _ (List.mem_of_getElem? (i := 44) rfl)) (by decide +kernel) rfl rfl ⟨Nat.le_of_ble_eq_true rfl, Nat.le_of_ble_eq_true rfl⟩
theorem kX9_odd_68 : ∀ (s9 : State) (a9 : Array Value), (∀ w ∈ wzX9_odd, w.before a9 s9 = true) → CallW rmX9_odd s9 a9 RX9 RX9 68 yX9_there cX9_there 4 (some .int) wzX9_there rmX9_there 0 0 1 := zcV (zWi_25 _ (List.mem_of_getElem? (i := 7) rfl)) (zWi_17 _ (List.mem_of_getElem? (i := 24) rfl)) (zWi_29 _ (List.mem_of_getElem? (i := 48) rfl)) (zWi_12 _ (List.mem_of_getElem? (i := 21) rfl)) (zWi_6 _ (List.mem_of_getElem? (i := 8) rfl)) (by decide +kernel) rfl rfl ⟨Nat.le_of_ble_eq_true rfl, Nat.le_of_ble_eq_true rfl⟩
theorem kX9_odd_71 : ∀ (s9 : State) (a9 : Array Value), (∀ w ∈ wzX9_odd, w.before a9 s9 = true) → CallW rmX9_odd s9 a9 RX9 RX9 71 yX9_due cX9_due 2 (some .int) wzX9_due rmX9_due 0 0 1 := zcV (zWi_25 _ (List.mem_of_getElem? (i := 8) rfl)) (zWi_17 _ (List.mem_of_getElem? (i := 12) rfl)) (zWi_29 _ (List.mem_of_getElem? (i := 37) rfl)) (zWi_12 _ (List.mem_of_getElem? (i := 21) rfl)) (zWi_5 _ (List.mem_of_getElem? (i := 46) rfl)) (by decide +kernel) rfl rfl ⟨Nat.le_of_ble_eq_true rfl, Nat.le_of_ble_eq_true rfl⟩
def sp_X9_hasRoom (as : List zV) (M : zM) (Q : Option zV → zM → Prop) : Prop := ∃ (B t n : Int), as = [zR 17, zI t, zI n] ∧ (ICt B M) ∧ (0 ≤ t) ∧ (t < 8) ∧ (0 ≤ n) ∧ (n ≤ 1000) ∧ Q (some (zI (b01 (M 19 t.toNat + n ≤ 20)))) (M)
theorem us_X9_hasRoom {B t n : Int} {M : zM} {Q : Option zV → zM → Prop} (hI : ICt B M) (h0 : 0 ≤ t) (h1 : t < 8) (h2 : 0 ≤ n) (h3 : n ≤ 1000) (h99 : Q (some (zI (b01 (M 19 t.toNat + n ≤ 20)))) (M)) : sp_X9_hasRoom [zR 17, zI t, zI n] M Q := ⟨B, t, n, rfl, hI, h0, h1, h2, h3, h99⟩
set_option maxRecDepth 20000 in
set_option maxHeartbeats 4000000 in
theorem m_X9_hasRoom (l : Launch) : zC l yX9_hasRoom wzX9_hasRoom rmX9_hasRoom sp_X9_hasRoom := by
  refine zMet.of RX9 (by decide +kernel) rfl rfl ?_
  intro E X as M Qp hX S hsp
  obtain ⟨B, t, n, rfl, hI, h0, h1, h2, h3, hQ⟩ := hsp
  refine ⟨Nat.le_of_ble_eq_true rfl, ?_⟩
  dsimp only [zpad, zargs]
  have a := hI.b h0 h1
  refine zr_aload_n (pc := 0) S dX9_hasRoom_0 rfl ?_
  refine zr_getR (pc := 1) S fX9_hasRoom_15 dX9_hasRoom_1 rfl (Nat.le_of_ble_eq_true rfl) rfl ?_
  refine zr_iload_n (pc := 4) S dX9_hasRoom_4 rfl ?_
  refine zr_iaload (pc := 5) S dX9_hasRoom_5 rfl (Nat.le_of_ble_eq_true rfl) (by omega) (by omega) ?_
  refine zr_iload_n (pc := 6) S dX9_hasRoom_6 rfl ?_
  refine zr_iadd (pc := 7) S dX9_hasRoom_7 (by unfold zrI; omega) ?_
  refine zr_bipush (pc := 8) S dX9_hasRoom_8 ⟨by unfold zrI; omega, by decide⟩ ?_
  refine zr_icmp_gt (pc := 10) (tgt := 17) S dX9_hasRoom_10 (by decide) (fun c10 => ?_) (fun c10 => ?_)
  · refine zr_iconst (pc := 17) S dX9_hasRoom_17 (by unfold zrI; omega) ?_
    exact zr_zret (pc := 18) S dX9_hasRoom_18 rfl (by first | omega | exact b01_r) ⟨Nat.le_refl _, Nat.le_refl _⟩ (zqi hQ (by unfold b01; split <;> omega))
  · refine zr_iconst (pc := 13) S dX9_hasRoom_13 (by unfold zrI; omega) ?_
    refine zr_goto (pc := 14) (tgt := 18) S dX9_hasRoom_14 (by decide) ?_
    exact zr_zret (pc := 18) S dX9_hasRoom_18 rfl (by first | omega | exact b01_r) ⟨Nat.le_refl _, Nat.le_refl _⟩ (zqi hQ (by unfold b01; split <;> omega))
def layOn (M : zM) (t s : Int) : zM := if M 19 t.toNat < 20 then zup (zup M 18 (t * 20 + M 19 t.toNat).toNat s) 19 t.toNat (M 19 t.toNat + 1) else zup M 20 s.toNat (M 20 s.toNat + 1)
theorem layOn_o {M : zM} {t s : Int} {k : Nat} (h : k ≠ 18 ∧ k ≠ 19 ∧ k ≠ 20) : layOn M t s k = M k := by
  unfold layOn
  split
  · rw [zup_o k h.2.1, zup_o k h.1]
  · rw [zup_o k h.2.2]
def sp_X9_layOn (as : List zV) (M : zM) (Q : Option zV → zM → Prop) : Prop := ∃ (B t s : Int), as = [zR 17, zI t, zI s] ∧ (ICt B M) ∧ (B ≤ 1000000) ∧ (0 ≤ t) ∧ (t < 8) ∧ (0 ≤ s) ∧ (s < 8) ∧ Q (none) (layOn M t s)
theorem us_X9_layOn {B t s : Int} {M : zM} {Q : Option zV → zM → Prop} (hI : ICt B M) (hB : B ≤ 1000000) (h0 : 0 ≤ t) (h1 : t < 8) (h2 : 0 ≤ s) (h3 : s < 8) (h99 : Q (none) (layOn M t s)) : sp_X9_layOn [zR 17, zI t, zI s] M Q := ⟨B, t, s, rfl, hI, hB, h0, h1, h2, h3, h99⟩
set_option maxRecDepth 20000 in
set_option maxHeartbeats 4000000 in
theorem m_X9_layOn (l : Launch) : zC l yX9_layOn wzX9_layOn rmX9_layOn sp_X9_layOn := by
  refine zMet.of RX9 (by decide +kernel) rfl rfl ?_
  intro E X as M Qp hX S hsp
  obtain ⟨B, t, s, rfl, hI, hB, h0, h1, h2, h3, hQ⟩ := hsp
  refine ⟨Nat.le_of_ble_eq_true rfl, ?_⟩
  dsimp only [zpad, zargs]
  have a := hI.b h0 h1
  have b := hI.b h2 h3
  unfold layOn at hQ
  refine zr_aload_n (pc := 0) S dX9_layOn_0 rfl ?_
  refine zr_getR (pc := 1) S fX9_layOn_15 dX9_layOn_1 rfl (Nat.le_of_ble_eq_true rfl) rfl ?_
  refine zr_iload_n (pc := 4) S dX9_layOn_4 rfl ?_
  refine zr_iaload (pc := 5) S dX9_layOn_5 rfl (Nat.le_of_ble_eq_true rfl) (by omega) (by omega) ?_
  refine zr_bipush (pc := 6) S dX9_layOn_6 ⟨by unfold zrI; omega, by decide⟩ ?_
  refine zr_icmp_lt (pc := 8) (tgt := 22) S dX9_layOn_8 (by decide) (fun c8 => ?_) (fun c8 => ?_)
  · rw [if_pos c8] at hQ
    refine zr_aload_n (pc := 22) S dX9_layOn_22 rfl ?_
    refine zr_getR (pc := 23) S fX9_layOn_9 dX9_layOn_23 rfl (Nat.le_of_ble_eq_true rfl) rfl ?_
    refine zr_iload_n (pc := 26) S dX9_layOn_26 rfl ?_
    refine zr_bipush (pc := 27) S dX9_layOn_27 ⟨by unfold zrI; omega, by decide⟩ ?_
    refine zr_imul (pc := 29) S dX9_layOn_29 (by unfold zrI; omega) ?_
    refine zr_aload_n (pc := 30) S dX9_layOn_30 rfl ?_
    refine zr_getR (pc := 31) S fX9_layOn_15 dX9_layOn_31 rfl (Nat.le_of_ble_eq_true rfl) rfl ?_
    refine zr_iload_n (pc := 34) S dX9_layOn_34 rfl ?_
    refine zr_iaload (pc := 35) S dX9_layOn_35 rfl (Nat.le_of_ble_eq_true rfl) (by omega) (by omega) ?_
    refine zr_iadd (pc := 36) S dX9_layOn_36 (by unfold zrI; omega) ?_
    refine zr_iload_n (pc := 37) S dX9_layOn_37 rfl ?_
    refine zr_iastore (pc := 38) S dX9_layOn_38 rfl (Nat.le_of_ble_eq_true rfl) (by omega) (by omega) ?_
    refine zr_aload_n (pc := 39) S dX9_layOn_39 rfl ?_
    refine zr_getR (pc := 40) S fX9_layOn_15 dX9_layOn_40 rfl (Nat.le_of_ble_eq_true rfl) rfl ?_
    try simp only [zup_k, zup_e, ne_eq, Nat.reduceEqDiff, not_false_eq_true, zup_j]
    refine zr_iload_n (pc := 43) S dX9_layOn_43 rfl ?_
    refine zr_dup2 (pc := 44) S dX9_layOn_44 rfl rfl ?_
    refine zr_iaload (pc := 45) S dX9_layOn_45 rfl (Nat.le_of_ble_eq_true rfl) (by omega) (by omega) ?_
    try simp only [zup_k, zup_e, ne_eq, Nat.reduceEqDiff, not_false_eq_true]
    refine zr_iconst (pc := 46) S dX9_layOn_46 (by unfold zrI; omega) ?_
    refine zr_iadd (pc := 47) S dX9_layOn_47 (by unfold zrI; omega) ?_
    refine zr_iastore (pc := 48) S dX9_layOn_48 rfl (Nat.le_of_ble_eq_true rfl) (by omega) (by omega) ?_
    exact zr_vret (pc := 49) S dX9_layOn_49 rfl ⟨Nat.le_refl _, Nat.le_refl _⟩ (hQ)
  · rw [if_neg (by omega)] at hQ
    refine zr_aload_n (pc := 11) S dX9_layOn_11 rfl ?_
    refine zr_getR (pc := 12) S fX9_layOn_18 dX9_layOn_12 rfl (Nat.le_of_ble_eq_true rfl) rfl ?_
    refine zr_iload_n (pc := 15) S dX9_layOn_15 rfl ?_
    refine zr_dup2 (pc := 16) S dX9_layOn_16 rfl rfl ?_
    refine zr_iaload (pc := 17) S dX9_layOn_17 rfl (Nat.le_of_ble_eq_true rfl) (by omega) (by omega) ?_
    refine zr_iconst (pc := 18) S dX9_layOn_18 (by unfold zrI; omega) ?_
    refine zr_iadd (pc := 19) S dX9_layOn_19 (by unfold zrI; omega) ?_
    refine zr_iastore (pc := 20) S dX9_layOn_20 rfl (Nat.le_of_ble_eq_true rfl) (by omega) (by omega) ?_
    exact zr_vret (pc := 21) S dX9_layOn_21 rfl ⟨Nat.le_refl _, Nat.le_refl _⟩ (hQ)
def sp_X9_loadOne (as : List zV) (M : zM) (Q : Option zV → zM → Prop) : Prop := ∃ (B t s : Int), as = [zR 17, zI t, zI s] ∧ (ICt B M) ∧ (B ≤ 1000000) ∧ (0 ≤ t) ∧ (t < 8) ∧ (0 ≤ s) ∧ (s < 8) ∧ Q (none) (zup (layOn M t s) 21 t.toNat (M 21 t.toNat + 1))
theorem us_X9_loadOne {B t s : Int} {M : zM} {Q : Option zV → zM → Prop} (hI : ICt B M) (hB : B ≤ 1000000) (h0 : 0 ≤ t) (h1 : t < 8) (h2 : 0 ≤ s) (h3 : s < 8) (h99 : Q (none) (zup (layOn M t s) 21 t.toNat (M 21 t.toNat + 1))) : sp_X9_loadOne [zR 17, zI t, zI s] M Q := ⟨B, t, s, rfl, hI, hB, h0, h1, h2, h3, h99⟩
set_option maxRecDepth 20000 in
set_option maxHeartbeats 4000000 in
theorem m_X9_loadOne (l : Launch) : zC l yX9_loadOne wzX9_loadOne rmX9_loadOne sp_X9_loadOne := by
  refine zMet.of RX9 (by decide +kernel) rfl rfl ?_
  intro E X as M Qp hX S hsp
  obtain ⟨B, t, s, rfl, hI, hB, h0, h1, h2, h3, hQ⟩ := hsp
  refine ⟨Nat.le_of_ble_eq_true rfl, ?_⟩
  dsimp only [zpad, zargs]
  have a := hI.b h0 h1
  have e : layOn M t s 21 = M 21 := layOn_o (by decide)
  refine zr_aload_n (pc := 0) S dX9_loadOne_0 rfl ?_
  refine zr_iload_n (pc := 1) S dX9_loadOne_1 rfl ?_
  refine zr_iload_n (pc := 2) S dX9_loadOne_2 rfl ?_
  refine zr_invV (pc := 3) S [zI _, zI _] (m_X9_layOn _) kX9_loadOne_45 dX9_loadOne_3 rfl (Nat.le_of_ble_eq_true rfl) rfl (Nat.le_of_ble_eq_true rfl) ⟨Nat.le_of_ble_eq_true rfl, Nat.le_of_ble_eq_true rfl⟩ (us_X9_layOn hI hB h0 h1 h2 h3 ?_)
  dsimp only [zaft, Option.toList, List.cons_append, List.nil_append, Nat.add_zero]
  refine zr_aload_n (pc := 6) S dX9_loadOne_6 rfl ?_
  refine zr_getR (pc := 7) S fX9_loadOne_21 dX9_loadOne_7 rfl (Nat.le_of_ble_eq_true rfl) rfl ?_
  refine zr_iload_n (pc := 10) S dX9_loadOne_10 rfl ?_
  refine zr_dup2 (pc := 11) S dX9_loadOne_11 rfl rfl ?_
  refine zr_iaload (pc := 12) S dX9_loadOne_12 rfl (Nat.le_of_ble_eq_true rfl) (by omega) (by omega) ?_
  rw [e]
  refine zr_iconst (pc := 13) S dX9_loadOne_13 (by unfold zrI; omega) ?_
  refine zr_iadd (pc := 14) S dX9_loadOne_14 (by unfold zrI; omega) ?_
  refine zr_iastore (pc := 15) S dX9_loadOne_15 rfl (Nat.le_of_ble_eq_true rfl) (by omega) (by omega) ?_
  exact zr_vret (pc := 16) S dX9_loadOne_16 rfl ⟨Nat.le_refl _, Nat.le_refl _⟩ (hQ)
def topOf (M : zM) (t : Int) : Int := if M 19 t.toNat = 0 then -1 else M 18 (t * 20 + M 19 t.toNat - 1).toNat
def sp_X9_top (as : List zV) (M : zM) (Q : Option zV → zM → Prop) : Prop := ∃ (B t : Int), as = [zR 17, zI t] ∧ (ICt B M) ∧ (0 ≤ t) ∧ (t < 8) ∧ Q (some (zI (topOf M t))) (M)
theorem us_X9_top {B t : Int} {M : zM} {Q : Option zV → zM → Prop} (hI : ICt B M) (h0 : 0 ≤ t) (h1 : t < 8) (h99 : Q (some (zI (topOf M t))) (M)) : sp_X9_top [zR 17, zI t] M Q := ⟨B, t, rfl, hI, h0, h1, h99⟩
set_option maxRecDepth 20000 in
set_option maxHeartbeats 4000000 in
theorem m_X9_top (l : Launch) : zC l yX9_top wzX9_top rmX9_top sp_X9_top := by
  refine zMet.of RX9 (by decide +kernel) rfl rfl ?_
  intro E X as M Qp hX S hsp
  obtain ⟨B, t, rfl, hI, h0, h1, hQ⟩ := hsp
  refine ⟨Nat.le_of_ble_eq_true rfl, ?_⟩
  dsimp only [zpad, zargs]
  have a := hI.b h0 h1
  unfold topOf at hQ
  refine zr_aload_n (pc := 0) S dX9_top_0 rfl ?_
  refine zr_getR (pc := 1) S fX9_top_15 dX9_top_1 rfl (Nat.le_of_ble_eq_true rfl) rfl ?_
  refine zr_iload_n (pc := 4) S dX9_top_4 rfl ?_
  refine zr_iaload (pc := 5) S dX9_top_5 rfl (Nat.le_of_ble_eq_true rfl) (by omega) (by omega) ?_
  refine zr_if_ne (pc := 6) (tgt := 13) S dX9_top_6 (by decide) (fun c6 => ?_) (fun c6 => ?_)
  · rw [if_neg c6] at hQ
    refine zr_aload_n (pc := 13) S dX9_top_13 rfl ?_
    refine zr_getR (pc := 14) S fX9_top_9 dX9_top_14 rfl (Nat.le_of_ble_eq_true rfl) rfl ?_
    refine zr_iload_n (pc := 17) S dX9_top_17 rfl ?_
    refine zr_bipush (pc := 18) S dX9_top_18 ⟨by unfold zrI; omega, by decide⟩ ?_
    refine zr_imul (pc := 20) S dX9_top_20 (by unfold zrI; omega) ?_
    refine zr_aload_n (pc := 21) S dX9_top_21 rfl ?_
    refine zr_getR (pc := 22) S fX9_top_15 dX9_top_22 rfl (Nat.le_of_ble_eq_true rfl) rfl ?_
    refine zr_iload_n (pc := 25) S dX9_top_25 rfl ?_
    refine zr_iaload (pc := 26) S dX9_top_26 rfl (Nat.le_of_ble_eq_true rfl) (by omega) (by omega) ?_
    refine zr_iadd (pc := 27) S dX9_top_27 (by unfold zrI; omega) ?_
    refine zr_iconst (pc := 28) S dX9_top_28 (by unfold zrI; omega) ?_
    refine zr_isub (pc := 29) S dX9_top_29 (by unfold zrI; omega) ?_
    refine zr_iaload (pc := 30) S dX9_top_30 rfl (Nat.le_of_ble_eq_true rfl) (by omega) (by omega) ?_
    exact zr_iret (pc := 31) S dX9_top_31 rfl ⟨Nat.le_refl _, Nat.le_refl _⟩ (hQ)
  · rw [if_pos c6] at hQ
    refine zr_iconst (pc := 9) S dX9_top_9 (by unfold zrI; omega) ?_
    refine zr_goto (pc := 10) (tgt := 31) S dX9_top_10 (by decide) ?_
    exact zr_iret (pc := 31) S dX9_top_31 rfl ⟨Nat.le_refl _, Nat.le_refl _⟩ (hQ)
/-- how many of the first n places of a row hold a number -/
def cntE (f : Nat → Int) (s : Int) : Nat → Int
  | 0 => 0
  | n + 1 => cntE f s n + (if f n = s then 1 else 0)
theorem cntE_r (f : Nat → Int) (s : Int) : ∀ n, 0 ≤ cntE f s n ∧ cntE f s n ≤ n
  | 0 => by simp [cntE]
  | n + 1 => by
    have := cntE_r f s n
    simp only [cntE]
    split <;> omega
def coinsIn (M : zM) (t s : Int) : Int := cntE (fun i => M 18 (t * 20 + i).toNat) s (M 19 t.toNat).toNat
theorem coinsIn_r {B : Int} {M : zM} (h : ICt B M) {t : Int} (s : Int) (h0 : 0 ≤ t) (h1 : t < 8) : 0 ≤ coinsIn M t s ∧ coinsIn M t s ≤ 20 := by
  have a := h.b h0 h1
  have b := cntE_r (fun i => M 18 (t * 20 + i).toNat) s (M 19 t.toNat).toNat
  unfold coinsIn
  omega
theorem lp_X9_coinsIn {E : zE} {X : zX} {Qp : Option zV → zM → Prop} {M : zM} {B t s : Int} (S : zS (zg E) X cX9_coinsIn 5 wzX9_coinsIn RX9 (some .int)) (hI : ICt B M) (h0 : 0 ≤ t) (h1 : t < 8) (hQ : Qp (some (zI (coinsIn M t s))) M) : ∀ (n i : Nat), (n : Int) + i = M 19 t.toNat → zK (zg E) rmX9_coinsIn 5 (Qp, 0, 0) X (0, 0) 5 [some (zR 17), some (zI t), some (zI s), some (zI (cntE (fun i => M 18 (t * 20 + i).toNat) s i)), some (zI i)] [] M := by
  have a := hI.b h0 h1
  intro n
  induction n with
  | zero =>
    intro i hi
    refine zr_iload (pc := 5) S dX9_coinsIn_5 rfl ?_
    refine zr_aload_n (pc := 7) S dX9_coinsIn_7 rfl ?_
    refine zr_getR (pc := 8) S fX9_coinsIn_15 dX9_coinsIn_8 rfl (Nat.le_of_ble_eq_true rfl) rfl ?_
    refine zr_iload_n (pc := 11) S dX9_coinsIn_11 rfl ?_
    refine zr_iaload (pc := 12) S dX9_coinsIn_12 rfl (Nat.le_of_ble_eq_true rfl) (by omega) (by omega) ?_
    refine zr_icmp_ge (pc := 13) (tgt := 41) S dX9_coinsIn_13 (by decide) (fun c13 => ?_) (fun c13 => absurd c13 (by omega))
    refine zr_iload_n (pc := 41) S dX9_coinsIn_41 rfl ?_
    exact zr_iret (pc := 42) S dX9_coinsIn_42 rfl ⟨Nat.le_refl _, Nat.le_refl _⟩ (zqi hQ (by unfold coinsIn; congr 1; omega))
  | succ n ih =>
    intro i hi
    have b := cntE_r (fun i => M 18 (t * 20 + i).toNat) s i
    have e : cntE (fun i => M 18 (t * 20 + i).toNat) s (i + 1) = cntE (fun i => M 18 (t * 20 + i).toNat) s i + (if M 18 (t * 20 + i).toNat = s then 1 else 0) := rfl
    refine zr_iload (pc := 5) S dX9_coinsIn_5 rfl ?_
    refine zr_aload_n (pc := 7) S dX9_coinsIn_7 rfl ?_
    refine zr_getR (pc := 8) S fX9_coinsIn_15 dX9_coinsIn_8 rfl (Nat.le_of_ble_eq_true rfl) rfl ?_
    refine zr_iload_n (pc := 11) S dX9_coinsIn_11 rfl ?_
    refine zr_iaload (pc := 12) S dX9_coinsIn_12 rfl (Nat.le_of_ble_eq_true rfl) (by omega) (by omega) ?_
    refine zr_icmp_ge (pc := 13) (tgt := 41) S dX9_coinsIn_13 (by decide) (fun c13 => absurd c13 (by omega)) (fun c13 => ?_)
    refine zr_aload_n (pc := 16) S dX9_coinsIn_16 rfl ?_
    refine zr_getR (pc := 17) S fX9_coinsIn_9 dX9_coinsIn_17 rfl (Nat.le_of_ble_eq_true rfl) rfl ?_
    refine zr_iload_n (pc := 20) S dX9_coinsIn_20 rfl ?_
    refine zr_bipush (pc := 21) S dX9_coinsIn_21 ⟨by unfold zrI; omega, by decide⟩ ?_
    refine zr_imul (pc := 23) S dX9_coinsIn_23 (by unfold zrI; omega) ?_
    refine zr_iload (pc := 24) S dX9_coinsIn_24 rfl ?_
    refine zr_iadd (pc := 26) S dX9_coinsIn_26 (by unfold zrI; omega) ?_
    refine zr_iaload (pc := 27) S dX9_coinsIn_27 rfl (Nat.le_of_ble_eq_true rfl) (by omega) (by omega) ?_
    refine zr_iload_n (pc := 28) S dX9_coinsIn_28 rfl ?_
    refine zr_icmp_ne (pc := 29) (tgt := 35) S dX9_coinsIn_29 (by decide) (fun c29 => ?_) (fun c29 => ?_)
    · rw [if_neg c29, Int.add_zero] at e
      refine zr_iinc (pc := 35) S dX9_coinsIn_35 rfl (by unfold zrI; omega) (by decide) ?_
      dsimp only [zst1, zst2, zset, zget, zlong]
      refine zr_goto (pc := 38) (tgt := 5) S dX9_coinsIn_38 (by decide) ?_
      have k := ih (i + 1) (by omega)
      rw [e] at k
      exact k
    · rw [if_pos c29] at e
      refine zr_iinc (pc := 32) S dX9_coinsIn_32 rfl (by unfold zrI; omega) (by decide) ?_
      dsimp only [zst1, zst2, zset, zget, zlong]
      refine zr_iinc (pc := 35) S dX9_coinsIn_35 rfl (by unfold zrI; omega) (by decide) ?_
      dsimp only [zst1, zst2, zset, zget, zlong]
      refine zr_goto (pc := 38) (tgt := 5) S dX9_coinsIn_38 (by decide) ?_
      have k := ih (i + 1) (by omega)
      rw [e] at k
      exact k
def sp_X9_coinsIn (as : List zV) (M : zM) (Q : Option zV → zM → Prop) : Prop := ∃ (B t s : Int), as = [zR 17, zI t, zI s] ∧ (ICt B M) ∧ (0 ≤ t) ∧ (t < 8) ∧ Q (some (zI (coinsIn M t s))) (M)
theorem us_X9_coinsIn {B t s : Int} {M : zM} {Q : Option zV → zM → Prop} (hI : ICt B M) (h0 : 0 ≤ t) (h1 : t < 8) (h99 : Q (some (zI (coinsIn M t s))) (M)) : sp_X9_coinsIn [zR 17, zI t, zI s] M Q := ⟨B, t, s, rfl, hI, h0, h1, h99⟩
set_option maxRecDepth 20000 in
set_option maxHeartbeats 4000000 in
theorem m_X9_coinsIn (l : Launch) : zC l yX9_coinsIn wzX9_coinsIn rmX9_coinsIn sp_X9_coinsIn := by
  refine zMet.of RX9 (by decide +kernel) rfl rfl ?_
  intro E X as M Qp hX S hsp
  obtain ⟨B, t, s, rfl, hI, h0, h1, hQ⟩ := hsp
  refine ⟨Nat.le_of_ble_eq_true rfl, ?_⟩
  dsimp only [zpad, zargs]
  have a := hI.b h0 h1
  refine zr_iconst (pc := 0) S dX9_coinsIn_0 (by unfold zrI; omega) ?_
  refine zr_istore_n (pc := 1) S 3 dX9_coinsIn_1 rfl (by decide) ?_
  dsimp only [zst1, zst2, zset, zget, zlong]
  refine zr_iconst (pc := 2) S dX9_coinsIn_2 (by unfold zrI; omega) ?_
  refine zr_istore (pc := 3) S dX9_coinsIn_3 (by decide) ?_
  dsimp only [zst1, zst2, zset, zget, zlong]
  exact lp_X9_coinsIn S hI h0 h1 hQ (M 19 t.toNat).toNat 0 (by omega)
def sp_X9_strangers (as : List zV) (M : zM) (Q : Option zV → zM → Prop) : Prop := ∃ (B t : Int), as = [zR 17, zI t] ∧ (ICt B M) ∧ (0 ≤ t) ∧ (t < 8) ∧ Q (some (zI (M 19 t.toNat - coinsIn M t t))) (M)
theorem us_X9_strangers {B t : Int} {M : zM} {Q : Option zV → zM → Prop} (hI : ICt B M) (h0 : 0 ≤ t) (h1 : t < 8) (h99 : Q (some (zI (M 19 t.toNat - coinsIn M t t))) (M)) : sp_X9_strangers [zR 17, zI t] M Q := ⟨B, t, rfl, hI, h0, h1, h99⟩
set_option maxRecDepth 20000 in
set_option maxHeartbeats 4000000 in
theorem m_X9_strangers (l : Launch) : zC l yX9_strangers wzX9_strangers rmX9_strangers sp_X9_strangers := by
  refine zMet.of RX9 (by decide +kernel) rfl rfl ?_
  intro E X as M Qp hX S hsp
  obtain ⟨B, t, rfl, hI, h0, h1, hQ⟩ := hsp
  refine ⟨Nat.le_of_ble_eq_true rfl, ?_⟩
  dsimp only [zpad, zargs]
  have a := hI.b h0 h1
  have b := coinsIn_r hI t h0 h1
  refine zr_aload_n (pc := 0) S dX9_strangers_0 rfl ?_
  refine zr_getR (pc := 1) S fX9_strangers_15 dX9_strangers_1 rfl (Nat.le_of_ble_eq_true rfl) rfl ?_
  refine zr_iload_n (pc := 4) S dX9_strangers_4 rfl ?_
  refine zr_iaload (pc := 5) S dX9_strangers_5 rfl (Nat.le_of_ble_eq_true rfl) (by omega) (by omega) ?_
  refine zr_aload_n (pc := 6) S dX9_strangers_6 rfl ?_
  refine zr_iload_n (pc := 7) S dX9_strangers_7 rfl ?_
  refine zr_iload_n (pc := 8) S dX9_strangers_8 rfl ?_
  refine zr_invV (pc := 9) S [zI _, zI _] (m_X9_coinsIn _) kX9_strangers_49 dX9_strangers_9 rfl (Nat.le_of_ble_eq_true rfl) rfl (Nat.le_of_ble_eq_true rfl) ⟨Nat.le_of_ble_eq_true rfl, Nat.le_of_ble_eq_true rfl⟩ (us_X9_coinsIn hI h0 h1 ?_)
  dsimp only [zaft, Option.toList, List.cons_append, List.nil_append, Nat.add_zero]
  refine zr_isub (pc := 12) S dX9_strangers_12 (by unfold zrI; omega) ?_
  exact zr_iret (pc := 13) S dX9_strangers_13 rfl ⟨Nat.le_refl _, Nat.le_refl _⟩ (hQ)
def sp_X9_due (as : List zV) (M : zM) (Q : Option zV → zM → Prop) : Prop := ∃ (B t : Int), as = [zR 17, zI t] ∧ (ICt B M) ∧ (B ≤ 1000000) ∧ (0 ≤ t) ∧ (t < 8) ∧ Q (some (zI (M 21 t.toNat + M 22 t.toNat))) (M)
theorem us_X9_due {B t : Int} {M : zM} {Q : Option zV → zM → Prop} (hI : ICt B M) (hB : B ≤ 1000000) (h0 : 0 ≤ t) (h1 : t < 8) (h99 : Q (some (zI (M 21 t.toNat + M 22 t.toNat))) (M)) : sp_X9_due [zR 17, zI t] M Q := ⟨B, t, rfl, hI, hB, h0, h1, h99⟩
set_option maxRecDepth 20000 in
set_option maxHeartbeats 4000000 in
theorem m_X9_due (l : Launch) : zC l yX9_due wzX9_due rmX9_due sp_X9_due := by
  refine zMet.of RX9 (by decide +kernel) rfl rfl ?_
  intro E X as M Qp hX S hsp
  obtain ⟨B, t, rfl, hI, hB, h0, h1, hQ⟩ := hsp
  refine ⟨Nat.le_of_ble_eq_true rfl, ?_⟩
  dsimp only [zpad, zargs]
  have a := hI.b h0 h1
  refine zr_aload_n (pc := 0) S dX9_due_0 rfl ?_
  refine zr_getR (pc := 1) S fX9_due_21 dX9_due_1 rfl (Nat.le_of_ble_eq_true rfl) rfl ?_
  refine zr_iload_n (pc := 4) S dX9_due_4 rfl ?_
  refine zr_iaload (pc := 5) S dX9_due_5 rfl (Nat.le_of_ble_eq_true rfl) (by omega) (by omega) ?_
  refine zr_aload_n (pc := 6) S dX9_due_6 rfl ?_
  refine zr_getR (pc := 7) S fX9_due_24 dX9_due_7 rfl (Nat.le_of_ble_eq_true rfl) rfl ?_
  refine zr_iload_n (pc := 10) S dX9_due_10 rfl ?_
  refine zr_iaload (pc := 11) S dX9_due_11 rfl (Nat.le_of_ble_eq_true rfl) (by omega) (by omega) ?_
  refine zr_iadd (pc := 12) S dX9_due_12 (by unfold zrI; omega) ?_
  exact zr_iret (pc := 13) S dX9_due_13 rfl ⟨Nat.le_refl _, Nat.le_refl _⟩ (hQ)
def thereU (M : zM) (s : Int) : Nat → Int
  | 0 => M 20 s.toNat
  | n + 1 => thereU M s n + coinsIn M n s
def there (M : zM) (s : Int) : Int := thereU M s 8
theorem thereU_r {B : Int} {M : zM} (h : ICt B M) {s : Int} (h0 : 0 ≤ s) (h1 : s < 8) : ∀ n : Nat, n ≤ 8 → 0 ≤ thereU M s n ∧ thereU M s n ≤ B + 20 * n
  | 0, _ => by
    have a := h.b h0 h1
    simp only [thereU]
    omega
  | n + 1, hn => by
    have a := thereU_r h h0 h1 n (by omega)
    have b := coinsIn_r h (t := n) s (by omega) (by omega)
    simp only [thereU]
    omega
theorem lp_X9_there {E : zE} {X : zX} {Qp : Option zV → zM → Prop} {M : zM} {B s : Int} (S : zS (zg E) X cX9_there 4 wzX9_there RX9 (some .int)) (hI : ICt B M) (hB : B ≤ 1000000) (h0 : 0 ≤ s) (h1 : s < 8) (hQ : Qp (some (zI (there M s))) M) : ∀ (n i : Nat), n + i = 8 → zK (zg E) rmX9_there 4 (Qp, 0, 0) X (0, 0) 9 [some (zR 17), some (zI s), some (zI (thereU M s i)), some (zI i)] [] M := by
  intro n
  induction n with
  | zero =>
    intro i hi
    have e : i = 8 := by omega
    subst e
    refine zr_iload_n (pc := 9) S dX9_there_9 rfl ?_
    refine zr_bipush (pc := 10) S dX9_there_10 ⟨by unfold zrI; omega, by decide⟩ ?_
    refine zr_icmp_ge (pc := 12) (tgt := 30) S dX9_there_12 (by decide) (fun c12 => ?_) (fun c12 => absurd c12 (by omega))
    refine zr_iload_n (pc := 30) S dX9_there_30 rfl ?_
    exact zr_iret (pc := 31) S dX9_there_31 rfl ⟨Nat.le_refl _, Nat.le_refl _⟩ (hQ)
  | succ n ih =>
    intro i hi
    have a := thereU_r hI h0 h1 i (by omega)
    have b := coinsIn_r hI (t := i) s (by omega) (by omega)
    refine zr_iload_n (pc := 9) S dX9_there_9 rfl ?_
    refine zr_bipush (pc := 10) S dX9_there_10 ⟨by unfold zrI; omega, by decide⟩ ?_
    refine zr_icmp_ge (pc := 12) (tgt := 30) S dX9_there_12 (by decide) (fun c12 => absurd c12 (by omega)) (fun c12 => ?_)
    refine zr_iload_n (pc := 15) S dX9_there_15 rfl ?_
    refine zr_aload_n (pc := 16) S dX9_there_16 rfl ?_
    refine zr_iload_n (pc := 17) S dX9_there_17 rfl ?_
    refine zr_iload_n (pc := 18) S dX9_there_18 rfl ?_
    refine zr_invV (pc := 19) S [zI _, zI _] (m_X9_coinsIn _) kX9_there_49 dX9_there_19 rfl (Nat.le_of_ble_eq_true rfl) rfl (Nat.le_of_ble_eq_true rfl) ⟨Nat.le_of_ble_eq_true rfl, Nat.le_of_ble_eq_true rfl⟩ (us_X9_coinsIn hI (by omega) (by omega) ?_)
    dsimp only [zaft, Option.toList, List.cons_append, List.nil_append, Nat.add_zero]
    refine zr_iadd (pc := 22) S dX9_there_22 (by unfold zrI; omega) ?_
    refine zr_istore_n (pc := 23) S 2 dX9_there_23 rfl (by decide) ?_
    dsimp only [zst1, zst2, zset, zget, zlong]
    refine zr_iinc (pc := 24) S dX9_there_24 rfl (by unfold zrI; omega) (by decide) ?_
    dsimp only [zst1, zst2, zset, zget, zlong]
    refine zr_goto (pc := 27) (tgt := 9) S dX9_there_27 (by decide) ?_
    exact ih (i + 1) (by omega)
def sp_X9_there (as : List zV) (M : zM) (Q : Option zV → zM → Prop) : Prop := ∃ (B s : Int), as = [zR 17, zI s] ∧ (ICt B M) ∧ (B ≤ 1000000) ∧ (0 ≤ s) ∧ (s < 8) ∧ Q (some (zI (there M s))) (M)
theorem us_X9_there {B s : Int} {M : zM} {Q : Option zV → zM → Prop} (hI : ICt B M) (hB : B ≤ 1000000) (h0 : 0 ≤ s) (h1 : s < 8) (h99 : Q (some (zI (there M s))) (M)) : sp_X9_there [zR 17, zI s] M Q := ⟨B, s, rfl, hI, hB, h0, h1, h99⟩
set_option maxRecDepth 20000 in
set_option maxHeartbeats 4000000 in
theorem m_X9_there (l : Launch) : zC l yX9_there wzX9_there rmX9_there sp_X9_there := by
  refine zMet.of RX9 (by decide +kernel) rfl rfl ?_
  intro E X as M Qp hX S hsp
  obtain ⟨B, s, rfl, hI, hB, h0, h1, hQ⟩ := hsp
  refine ⟨Nat.le_of_ble_eq_true rfl, ?_⟩
  dsimp only [zpad, zargs]
  refine zr_aload_n (pc := 0) S dX9_there_0 rfl ?_
  refine zr_getR (pc := 1) S fX9_there_18 dX9_there_1 rfl (Nat.le_of_ble_eq_true rfl) rfl ?_
  refine zr_iload_n (pc := 4) S dX9_there_4 rfl ?_
  refine zr_iaload (pc := 5) S dX9_there_5 rfl (Nat.le_of_ble_eq_true rfl) (by omega) (by omega) ?_
  refine zr_istore_n (pc := 6) S 2 dX9_there_6 rfl (by decide) ?_
  dsimp only [zst1, zst2, zset, zget, zlong]
  refine zr_iconst (pc := 7) S dX9_there_7 (by unfold zrI; omega) ?_
  refine zr_istore_n (pc := 8) S 3 dX9_there_8 rfl (by decide) ?_
  dsimp only [zst1, zst2, zset, zget, zlong]
  exact lp_X9_there S hI hB h0 h1 hQ 8 0 rfl
def odd (M : zM) (s : Int) : Int := there M s - (M 21 s.toNat + M 22 s.toNat)
theorem odd_r {B : Int} {M : zM} (h : ICt B M) {s : Int} (h0 : 0 ≤ s) (h1 : s < 8) : -(2 * B) ≤ odd M s ∧ odd M s ≤ 2 * B + 160 := by
  have a := h.b h0 h1
  have b := thereU_r h h0 h1 8 (by omega)
  unfold odd there
  omega
def sp_X9_odd (as : List zV) (M : zM) (Q : Option zV → zM → Prop) : Prop := ∃ (B s : Int), as = [zR 17, zI s] ∧ (ICt B M) ∧ (B ≤ 1000000) ∧ (0 ≤ s) ∧ (s < 8) ∧ Q (some (zI (odd M s))) (M)
theorem us_X9_odd {B s : Int} {M : zM} {Q : Option zV → zM → Prop} (hI : ICt B M) (hB : B ≤ 1000000) (h0 : 0 ≤ s) (h1 : s < 8) (h99 : Q (some (zI (odd M s))) (M)) : sp_X9_odd [zR 17, zI s] M Q := ⟨B, s, rfl, hI, hB, h0, h1, h99⟩
set_option maxRecDepth 20000 in
set_option maxHeartbeats 4000000 in
theorem m_X9_odd (l : Launch) : zC l yX9_odd wzX9_odd rmX9_odd sp_X9_odd := by
  refine zMet.of RX9 (by decide +kernel) rfl rfl ?_
  intro E X as M Qp hX S hsp
  obtain ⟨B, s, rfl, hI, hB, h0, h1, hQ⟩ := hsp
  refine ⟨Nat.le_of_ble_eq_true rfl, ?_⟩
  dsimp only [zpad, zargs]
  have a := hI.b h0 h1
  have b := thereU_r hI h0 h1 8 (by omega)
  refine zr_aload_n (pc := 0) S dX9_odd_0 rfl ?_
  refine zr_iload_n (pc := 1) S dX9_odd_1 rfl ?_
  refine zr_invV (pc := 2) S [zI _] (m_X9_there _) kX9_odd_68 dX9_odd_2 rfl (Nat.le_of_ble_eq_true rfl) rfl (Nat.le_of_ble_eq_true rfl) ⟨Nat.le_of_ble_eq_true rfl, Nat.le_of_ble_eq_true rfl⟩ (us_X9_there hI hB h0 h1 ?_)
  dsimp only [zaft, Option.toList, List.cons_append, List.nil_append, Nat.add_zero]
  refine zr_aload_n (pc := 5) S dX9_odd_5 rfl ?_
  refine zr_iload_n (pc := 6) S dX9_odd_6 rfl ?_
  refine zr_invV (pc := 7) S [zI _] (m_X9_due _) kX9_odd_71 dX9_odd_7 rfl (Nat.le_of_ble_eq_true rfl) rfl (Nat.le_of_ble_eq_true rfl) ⟨Nat.le_of_ble_eq_true rfl, Nat.le_of_ble_eq_true rfl⟩ (us_X9_due hI hB h0 h1 ?_)
  dsimp only [zaft, Option.toList, List.cons_append, List.nil_append, Nat.add_zero]
  refine zr_isub (pc := 10) S dX9_odd_10 (by unfold zrI there; omega) ?_
  exact zr_iret (pc := 11) S dX9_odd_11 rfl ⟨Nat.le_refl _, Nat.le_refl _⟩ (hQ)
end
