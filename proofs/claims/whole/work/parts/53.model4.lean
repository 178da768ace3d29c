section
def zrow (M : zM) (c : Nat) (f : Nat → Int) : zM := fun k => if k = c then f else M k
def rUp (t : Nat → Int) (o : Nat) (v : Int) : Nat → Int := fun i => if i = o then v else t i
theorem zrow_up {M : zM} {c o : Nat} {f : Nat → Int} {v : Int} : zup (zrow M c f) c o v = zrow M c (rUp f o v) := by
  funext k j
  unfold zup zrow rUp
  by_cases h : k = c
  · rw [if_pos h, if_pos h, if_pos h]
  · rw [if_neg h, if_neg h, if_neg h]
theorem up_zrow {M : zM} {c o : Nat} {v : Int} : zup M c o v = zrow M c (rUp (M c) o v) := by
  funext k j
  unfold zup zrow rUp
  by_cases h : k = c
  · rw [if_pos h, if_pos h, h]
  · rw [if_neg h, if_neg h]
theorem up2_zrow {M : zM} {c o o' : Nat} {v v' : Int} : zup (zup M c o v) c o' v' = zrow M c (rUp (rUp (M c) o v) o' v') := by rw [up_zrow (M := M), zrow_up]
theorem zrow_e {M : zM} {c : Nat} {f : Nat → Int} : zrow M c f c = f := if_pos rfl
theorem zrow_o {M : zM} {c k : Nat} {f : Nat → Int} (h : k ≠ c) : zrow M c f k = M k := if_neg h
theorem zrow_s {M : zM} {c : Nat} : zrow M c (M c) = M := by
  funext k
  unfold zrow
  by_cases h : k = c
  · rw [if_pos h, h]
  · rw [if_neg h]
theorem zrow_r {M : zM} {c : Nat} {f g : Nat → Int} : zrow (zrow M c f) c g = zrow M c g := by
  funext k
  unfold zrow
  by_cases h : k = c
  · rw [if_pos h, if_pos h]
  · rw [if_neg h, if_neg h, if_neg h]
theorem rUp_e {t : Nat → Int} {o : Nat} {v : Int} : rUp t o v o = v := if_pos rfl
theorem rUp_o {t : Nat → Int} {o i : Nat} {v : Int} (h : i ≠ o) : rUp t o v i = t i := if_neg h
def rmX12_isCoin : Room := { frames := 2, cells := 0, slots := 0, locals := 46 }
abbrev wzX12_isCoin : List Cond := .code yX12_isCoin cX12_isCoin 5 (some .boolean) :: zW
def rmX12_drops : Room := { frames := 1, cells := 0, slots := 0, locals := 21 }
abbrev wzX12_drops : List Cond := .code yX12_drops cX12_drops 4 none :: zW
def rmX12_load : Room := { frames := 3, cells := 0, slots := 0, locals := 68 }
abbrev wzX12_load : List Cond := .code yX12_load cX12_load 5 (some .int) :: zW
def rmX12_tube : Room := { frames := 3, cells := 0, slots := 0, locals := 68 }
abbrev wzX12_tube : List Cond := .code yX12_tube cX12_tube 6 (some .int) :: zW
def rmX12_empty : Room := { frames := 3, cells := 0, slots := 0, locals := 68 }
abbrev wzX12_empty : List Cond := .code yX12_empty cX12_empty 5 (some .int) :: zW
def rmX12_there : Room := { frames := 1, cells := 0, slots := 0, locals := 21 }
abbrev wzX12_there : List Cond := .code yX12_there cX12_there 5 (some .int) :: zW
def rmX12_wheel : Room := { frames := 3, cells := 0, slots := 0, locals := 68 }
abbrev wzX12_wheel : List Cond := .code yX12_wheel cX12_wheel 3 (some .int) :: zW
theorem kX12_isCoin_128 : ∀ (s9 : State) (a9 : Array Value), (∀ w ∈ wzX12_isCoin, w.before a9 s9 = true) → CallW rmX12_isCoin s9 a9 RX12 RX12 128 yX12_endOf cX12_endOf 5 (some .int) wzX12_endOf rmX12_endOf 0 0 3 := zcV (zWi_22 _ (List.mem_of_getElem? (i := 21) rfl)) (zWi_14 _ (List.mem_of_getElem? (i := 8) rfl)) (zWi_27 _ (List.mem_of_getElem? (i := 0) rfl)) (zWi_12 _ (List.mem_of_getElem? (i := 13) rfl)) (zWi_2 _ (List.mem_of_getElem? (i := 37) rfl)) (by decide +kernel) rfl rfl ⟨Nat.le_of_ble_eq_true rfl, Nat.le_of_ble_eq_true rfl⟩
theorem kX12_isCoin_83 : ∀ (s9 : State) (a9 : Array Value), (∀ w ∈ wzX12_isCoin, w.before a9 s9 = true) → CallB rmX12_isCoin s9 a9 RX12 83 yX12_within cX12_within 6 (some .boolean) wzX12_within rmX12_within 0 0 3 ∧ (Cond.static yX12_within).before a9 s9 = true := zcS (zWi_23 _ (List.mem_of_getElem? (i := 24) rfl)) (zWi_31 _ (List.mem_of_getElem? (i := 13) rfl)) (zWi_12 _ (List.mem_of_getElem? (i := 13) rfl)) (zWi_4 _ (List.mem_of_getElem? (i := 16) rfl)) (by decide +kernel) rfl rfl ⟨Nat.le_of_ble_eq_true rfl, Nat.le_of_ble_eq_true rfl⟩
theorem fX12_drops_9 : zfl wzX12_drops RX12 vwCl 9 12 0 := ⟨_, _, _, rfl, (fun w h => List.mem_cons_of_mem _ (zWuX12 w h)), by decide, List.mem_cons_of_mem _ (zWi_9 _ (List.mem_of_getElem? (i := 39) rfl))⟩
theorem kX12_drops_293 : ∀ (s9 : State) (a9 : Array Value), (∀ w ∈ wzX12_drops, w.before a9 s9 = true) → CallW rmX12_drops s9 a9 RX12 RX12 293 yX12_tubeAt cX12_tubeAt 2 (some .int) wzX12_tubeAt rmX12_tubeAt 0 0 1 := zcV (zWi_23 _ (List.mem_of_getElem? (i := 2) rfl)) (zWi_15 _ (List.mem_of_getElem? (i := 30) rfl)) (zWi_28 _ (List.mem_of_getElem? (i := 21) rfl)) (zWi_12 _ (List.mem_of_getElem? (i := 13) rfl)) (zWi_4 _ (List.mem_of_getElem? (i := 12) rfl)) (by decide +kernel) rfl rfl ⟨Nat.le_of_ble_eq_true rfl, Nat.le_of_ble_eq_true rfl⟩
theorem pX12_load_80 : zfp wzX12_load RX12 vwCl 80 12 3 := ⟨_, _, _, _, rfl, (fun w h => List.mem_cons_of_mem _ (zWuX12 w h)), by decide, List.mem_cons_of_mem _ (zWi_9 _ (List.mem_of_getElem? (i := 38) rfl)), tyX12_ok, nmX12, rfl, by decide +kernel⟩
theorem fX12_load_9 : zfl wzX12_load RX12 vwCl 9 12 0 := ⟨_, _, _, rfl, (fun w h => List.mem_cons_of_mem _ (zWuX12 w h)), by decide, List.mem_cons_of_mem _ (zWi_9 _ (List.mem_of_getElem? (i := 39) rfl))⟩
theorem kX12_load_99 : ∀ (s9 : State) (a9 : Array Value), (∀ w ∈ wzX12_load, w.before a9 s9 = true) → CallW rmX12_load s9 a9 RX12 RX12 99 yX12_isSort cX12_isSort 2 (some .boolean) wzX12_isSort rmX12_isSort 0 0 1 := zcV (zWi_23 _ (List.mem_of_getElem? (i := 27) rfl)) (zWi_14 _ (List.mem_of_getElem? (i := 30) rfl)) (zWi_27 _ (List.mem_of_getElem? (i := 21) rfl)) (zWi_12 _ (List.mem_of_getElem? (i := 13) rfl)) (zWi_3 _ (List.mem_of_getElem? (i := 11) rfl)) (by decide +kernel) rfl rfl ⟨Nat.le_of_ble_eq_true rfl, Nat.le_of_ble_eq_true rfl⟩
theorem kX12_load_95 : ∀ (s9 : State) (a9 : Array Value), (∀ w ∈ wzX12_load, w.before a9 s9 = true) → CallW rmX12_load s9 a9 RX12 RX12 95 yX12_fails cX12_fails 2 (some .int) wzX12_fails rmX12_fails 0 0 1 := zcV (zWi_23 _ (List.mem_of_getElem? (i := 26) rfl)) (zWi_14 _ (List.mem_of_getElem? (i := 10) rfl)) (zWi_27 _ (List.mem_of_getElem? (i := 2) rfl)) (zWi_12 _ (List.mem_of_getElem? (i := 13) rfl)) (zWi_2 _ (List.mem_of_getElem? (i := 39) rfl)) (by decide +kernel) rfl rfl ⟨Nat.le_of_ble_eq_true rfl, Nat.le_of_ble_eq_true rfl⟩
theorem kX12_load_83 : ∀ (s9 : State) (a9 : Array Value), (∀ w ∈ wzX12_load, w.before a9 s9 = true) → CallB rmX12_load s9 a9 RX12 83 yX12_within cX12_within 6 (some .boolean) wzX12_within rmX12_within 0 0 3 ∧ (Cond.static yX12_within).before a9 s9 = true := zcS (zWi_23 _ (List.mem_of_getElem? (i := 24) rfl)) (zWi_31 _ (List.mem_of_getElem? (i := 13) rfl)) (zWi_12 _ (List.mem_of_getElem? (i := 13) rfl)) (zWi_4 _ (List.mem_of_getElem? (i := 16) rfl)) (by decide +kernel) rfl rfl ⟨Nat.le_of_ble_eq_true rfl, Nat.le_of_ble_eq_true rfl⟩
theorem kX12_load_293 : ∀ (s9 : State) (a9 : Array Value), (∀ w ∈ wzX12_load, w.before a9 s9 = true) → CallW rmX12_load s9 a9 RX12 RX12 293 yX12_tubeAt cX12_tubeAt 2 (some .int) wzX12_tubeAt rmX12_tubeAt 0 0 1 := zcV (zWi_23 _ (List.mem_of_getElem? (i := 2) rfl)) (zWi_15 _ (List.mem_of_getElem? (i := 30) rfl)) (zWi_28 _ (List.mem_of_getElem? (i := 21) rfl)) (zWi_12 _ (List.mem_of_getElem? (i := 13) rfl)) (zWi_4 _ (List.mem_of_getElem? (i := 12) rfl)) (by decide +kernel) rfl rfl ⟨Nat.le_of_ble_eq_true rfl, Nat.le_of_ble_eq_true rfl⟩
theorem kX12_load_298 : ∀ (s9 : State) (a9 : Array Value), (∀ w ∈ wzX12_load, w.before a9 s9 = true) → CallW rmX12_load s9 a9 RX12 RX12 298 yX12_drops cX12_drops 4 none wzX12_drops rmX12_drops 0 0 2 := zcV (zWi_23 _ (List.mem_of_getElem? (i := 3) rfl)) (zWi_14 _ (List.mem_of_getElem? (i := 5) rfl)) (zWi_26 _ (List.mem_of_getElem? (i := 47) rfl)) (zWi_12 _ (List.mem_of_getElem? (i := 13) rfl)) (zWi_2 _ (List.mem_of_getElem? (i := 34) rfl)) (by decide +kernel) rfl rfl ⟨Nat.le_of_ble_eq_true rfl, Nat.le_of_ble_eq_true rfl⟩
theorem pX12_tube_80 : zfp wzX12_tube RX12 vwCl 80 12 3 := ⟨_, _, _, _, rfl, (fun w h => List.mem_cons_of_mem _ (zWuX12 w h)), by decide, List.mem_cons_of_mem _ (zWi_9 _ (List.mem_of_getElem? (i := 38) rfl)), tyX12_ok, nmX12, rfl, by decide +kernel⟩
theorem fX12_tube_9 : zfl wzX12_tube RX12 vwCl 9 12 0 := ⟨_, _, _, rfl, (fun w h => List.mem_cons_of_mem _ (zWuX12 w h)), by decide, List.mem_cons_of_mem _ (zWi_9 _ (List.mem_of_getElem? (i := 39) rfl))⟩
theorem kX12_tube_99 : ∀ (s9 : State) (a9 : Array Value), (∀ w ∈ wzX12_tube, w.before a9 s9 = true) → CallW rmX12_tube s9 a9 RX12 RX12 99 yX12_isSort cX12_isSort 2 (some .boolean) wzX12_isSort rmX12_isSort 0 0 1 := zcV (zWi_23 _ (List.mem_of_getElem? (i := 27) rfl)) (zWi_14 _ (List.mem_of_getElem? (i := 30) rfl)) (zWi_27 _ (List.mem_of_getElem? (i := 21) rfl)) (zWi_12 _ (List.mem_of_getElem? (i := 13) rfl)) (zWi_3 _ (List.mem_of_getElem? (i := 11) rfl)) (by decide +kernel) rfl rfl ⟨Nat.le_of_ble_eq_true rfl, Nat.le_of_ble_eq_true rfl⟩
theorem kX12_tube_95 : ∀ (s9 : State) (a9 : Array Value), (∀ w ∈ wzX12_tube, w.before a9 s9 = true) → CallW rmX12_tube s9 a9 RX12 RX12 95 yX12_fails cX12_fails 2 (some .int) wzX12_fails rmX12_fails 0 0 1 := zcV (zWi_23 _ (List.mem_of_getElem? (i := 26) rfl)) (zWi_14 _ (List.mem_of_getElem? (i := 10) rfl)) (zWi_27 _ (List.mem_of_getElem? (i := 2) rfl)) (zWi_12 _ (List.mem_of_getElem? (i := 13) rfl)) (zWi_2 _ (List.mem_of_getElem? (i := 39) rfl)) (by decide +kernel) rfl rfl ⟨Nat.le_of_ble_eq_true rfl, Nat.le_of_ble_eq_true rfl⟩
theorem kX12_tube_83 : ∀ (s9 : State) (a9 : Array Value), (∀ w ∈ wzX12_tube, w.before a9 s9 = true) → CallB rmX12_tube s9 a9 RX12 83 yX12_within cX12_within 6 (some .boolean) wzX12_within rmX12_within 0 0 3 ∧ (Cond.static yX12_within).before a9 s9 = true := zcS (zWi_23 _ (List.mem_of_getElem? (i := 24) rfl)) (zWi_31 _ (List.mem_of_getElem? (i := 13) rfl)) (zWi_12 _ (List.mem_of_getElem? (i := 13) rfl)) (zWi_4 _ (List.mem_of_getElem? (i := 16) rfl)) (by decide +kernel) rfl rfl ⟨Nat.le_of_ble_eq_true rfl, Nat.le_of_ble_eq_true rfl⟩
theorem kX12_tube_293 : ∀ (s9 : State) (a9 : Array Value), (∀ w ∈ wzX12_tube, w.before a9 s9 = true) → CallW rmX12_tube s9 a9 RX12 RX12 293 yX12_tubeAt cX12_tubeAt 2 (some .int) wzX12_tubeAt rmX12_tubeAt 0 0 1 := zcV (zWi_23 _ (List.mem_of_getElem? (i := 2) rfl)) (zWi_15 _ (List.mem_of_getElem? (i := 30) rfl)) (zWi_28 _ (List.mem_of_getElem? (i := 21) rfl)) (zWi_12 _ (List.mem_of_getElem? (i := 13) rfl)) (zWi_4 _ (List.mem_of_getElem? (i := 12) rfl)) (by decide +kernel) rfl rfl ⟨Nat.le_of_ble_eq_true rfl, Nat.le_of_ble_eq_true rfl⟩
theorem pX12_empty_80 : zfp wzX12_empty RX12 vwCl 80 12 3 := ⟨_, _, _, _, rfl, (fun w h => List.mem_cons_of_mem _ (zWuX12 w h)), by decide, List.mem_cons_of_mem _ (zWi_9 _ (List.mem_of_getElem? (i := 38) rfl)), tyX12_ok, nmX12, rfl, by decide +kernel⟩
theorem fX12_empty_9 : zfl wzX12_empty RX12 vwCl 9 12 0 := ⟨_, _, _, rfl, (fun w h => List.mem_cons_of_mem _ (zWuX12 w h)), by decide, List.mem_cons_of_mem _ (zWi_9 _ (List.mem_of_getElem? (i := 39) rfl))⟩
theorem kX12_empty_99 : ∀ (s9 : State) (a9 : Array Value), (∀ w ∈ wzX12_empty, w.before a9 s9 = true) → CallW rmX12_empty s9 a9 RX12 RX12 99 yX12_isSort cX12_isSort 2 (some .boolean) wzX12_isSort rmX12_isSort 0 0 1 := zcV (zWi_23 _ (List.mem_of_getElem? (i := 27) rfl)) (zWi_14 _ (List.mem_of_getElem? (i := 30) rfl)) (zWi_27 _ (List.mem_of_getElem? (i := 21) rfl)) (zWi_12 _ (List.mem_of_getElem? (i := 13) rfl)) (zWi_3 _ (List.mem_of_getElem? (i := 11) rfl)) (by decide +kernel) rfl rfl ⟨Nat.le_of_ble_eq_true rfl, Nat.le_of_ble_eq_true rfl⟩
theorem kX12_empty_95 : ∀ (s9 : State) (a9 : Array Value), (∀ w ∈ wzX12_empty, w.before a9 s9 = true) → CallW rmX12_empty s9 a9 RX12 RX12 95 yX12_fails cX12_fails 2 (some .int) wzX12_fails rmX12_fails 0 0 1 := zcV (zWi_23 _ (List.mem_of_getElem? (i := 26) rfl)) (zWi_14 _ (List.mem_of_getElem? (i := 10) rfl)) (zWi_27 _ (List.mem_of_getElem? (i := 2) rfl)) (zWi_12 _ (List.mem_of_getElem? (i := 13) rfl)) (zWi_2 _ (List.mem_of_getElem? (i := 39) rfl)) (by decide +kernel) rfl rfl ⟨Nat.le_of_ble_eq_true rfl, Nat.le_of_ble_eq_true rfl⟩
theorem kX12_empty_293 : ∀ (s9 : State) (a9 : Array Value), (∀ w ∈ wzX12_empty, w.before a9 s9 = true) → CallW rmX12_empty s9 a9 RX12 RX12 293 yX12_tubeAt cX12_tubeAt 2 (some .int) wzX12_tubeAt rmX12_tubeAt 0 0 1 := zcV (zWi_23 _ (List.mem_of_getElem? (i := 2) rfl)) (zWi_15 _ (List.mem_of_getElem? (i := 30) rfl)) (zWi_28 _ (List.mem_of_getElem? (i := 21) rfl)) (zWi_12 _ (List.mem_of_getElem? (i := 13) rfl)) (zWi_4 _ (List.mem_of_getElem? (i := 12) rfl)) (by decide +kernel) rfl rfl ⟨Nat.le_of_ble_eq_true rfl, Nat.le_of_ble_eq_true rfl⟩
theorem fX12_there_9 : zfl wzX12_there RX12 vwCl 9 12 0 := ⟨_, _, _, rfl, (fun w h => List.mem_cons_of_mem _ (zWuX12 w h)), by decide, List.mem_cons_of_mem _ (zWi_9 _ (List.mem_of_getElem? (i := 39) rfl))⟩
theorem kX12_there_293 : ∀ (s9 : State) (a9 : Array Value), (∀ w ∈ wzX12_there, w.before a9 s9 = true) → CallW rmX12_there s9 a9 RX12 RX12 293 yX12_tubeAt cX12_tubeAt 2 (some .int) wzX12_tubeAt rmX12_tubeAt 0 0 1 := zcV (zWi_23 _ (List.mem_of_getElem? (i := 2) rfl)) (zWi_15 _ (List.mem_of_getElem? (i := 30) rfl)) (zWi_28 _ (List.mem_of_getElem? (i := 21) rfl)) (zWi_12 _ (List.mem_of_getElem? (i := 13) rfl)) (zWi_4 _ (List.mem_of_getElem? (i := 12) rfl)) (by decide +kernel) rfl rfl ⟨Nat.le_of_ble_eq_true rfl, Nat.le_of_ble_eq_true rfl⟩
theorem pX12_wheel_80 : zfp wzX12_wheel RX12 vwCl 80 12 3 := ⟨_, _, _, _, rfl, (fun w h => List.mem_cons_of_mem _ (zWuX12 w h)), by decide, List.mem_cons_of_mem _ (zWi_9 _ (List.mem_of_getElem? (i := 38) rfl)), tyX12_ok, nmX12, rfl, by decide +kernel⟩
theorem fX12_wheel_9 : zfl wzX12_wheel RX12 vwCl 9 12 0 := ⟨_, _, _, rfl, (fun w h => List.mem_cons_of_mem _ (zWuX12 w h)), by decide, List.mem_cons_of_mem _ (zWi_9 _ (List.mem_of_getElem? (i := 39) rfl))⟩
theorem kX12_wheel_99 : ∀ (s9 : State) (a9 : Array Value), (∀ w ∈ wzX12_wheel, w.before a9 s9 = true) → CallW rmX12_wheel s9 a9 RX12 RX12 99 yX12_isSort cX12_isSort 2 (some .boolean) wzX12_isSort rmX12_isSort 0 0 1 := zcV (zWi_23 _ (List.mem_of_getElem? (i := 27) rfl)) (zWi_14 _ (List.mem_of_getElem? (i := 30) rfl)) (zWi_27 _ (List.mem_of_getElem? (i := 21) rfl)) (zWi_12 _ (List.mem_of_getElem? (i := 13) rfl)) (zWi_3 _ (List.mem_of_getElem? (i := 11) rfl)) (by decide +kernel) rfl rfl ⟨Nat.le_of_ble_eq_true rfl, Nat.le_of_ble_eq_true rfl⟩
theorem kX12_wheel_95 : ∀ (s9 : State) (a9 : Array Value), (∀ w ∈ wzX12_wheel, w.before a9 s9 = true) → CallW rmX12_wheel s9 a9 RX12 RX12 95 yX12_fails cX12_fails 2 (some .int) wzX12_fails rmX12_fails 0 0 1 := zcV (zWi_23 _ (List.mem_of_getElem? (i := 26) rfl)) (zWi_14 _ (List.mem_of_getElem? (i := 10) rfl)) (zWi_27 _ (List.mem_of_getElem? (i := 2) rfl)) (zWi_12 _ (List.mem_of_getElem? (i := 13) rfl)) (zWi_2 _ (List.mem_of_getElem? (i := 39) rfl)) (by decide +kernel) rfl rfl ⟨Nat.le_of_ble_eq_true rfl, Nat.le_of_ble_eq_true rfl⟩
theorem kX12_wheel_83 : ∀ (s9 : State) (a9 : Array Value), (∀ w ∈ wzX12_wheel, w.before a9 s9 = true) → CallB rmX12_wheel s9 a9 RX12 83 yX12_within cX12_within 6 (some .boolean) wzX12_within rmX12_within 0 0 3 ∧ (Cond.static yX12_within).before a9 s9 = true := zcS (zWi_23 _ (List.mem_of_getElem? (i := 24) rfl)) (zWi_31 _ (List.mem_of_getElem? (i := 13) rfl)) (zWi_12 _ (List.mem_of_getElem? (i := 13) rfl)) (zWi_4 _ (List.mem_of_getElem? (i := 16) rfl)) (by decide +kernel) rfl rfl ⟨Nat.le_of_ble_eq_true rfl, Nat.le_of_ble_eq_true rfl⟩
theorem kX12_wheel_326 : ∀ (s9 : State) (a9 : Array Value), (∀ w ∈ wzX12_wheel, w.before a9 s9 = true) → CallW rmX12_wheel s9 a9 RX12 RX12 326 yX12_due cX12_due 2 (some .int) wzX12_due rmX12_due 0 0 1 := zcV (zWi_23 _ (List.mem_of_getElem? (i := 12) rfl)) (zWi_14 _ (List.mem_of_getElem? (i := 6) rfl)) (zWi_26 _ (List.mem_of_getElem? (i := 48) rfl)) (zWi_12 _ (List.mem_of_getElem? (i := 13) rfl)) (zWi_2 _ (List.mem_of_getElem? (i := 35) rfl)) (by decide +kernel) rfl rfl ⟨Nat.le_of_ble_eq_true rfl, Nat.le_of_ble_eq_true rfl⟩
theorem kX12_wheel_329 : ∀ (s9 : State) (a9 : Array Value), (∀ w ∈ wzX12_wheel, w.before a9 s9 = true) → CallW rmX12_wheel s9 a9 RX12 RX12 329 yX12_there cX12_there 5 (some .int) wzX12_there rmX12_there 0 0 1 := zcV (zWi_23 _ (List.mem_of_getElem? (i := 13) rfl)) (zWi_15 _ (List.mem_of_getElem? (i := 26) rfl)) (zWi_28 _ (List.mem_of_getElem? (i := 17) rfl)) (zWi_12 _ (List.mem_of_getElem? (i := 13) rfl)) (zWi_4 _ (List.mem_of_getElem? (i := 8) rfl)) (by decide +kernel) rfl rfl ⟨Nat.le_of_ble_eq_true rfl, Nat.le_of_ble_eq_true rfl⟩
theorem lp_X12_many {E : zE} {X : zX} {Qp : Option zV → zM → Prop} {M : zM} {k : Int} (S : zS (zg E) X cX12_many 5 wzX12_many RX12 (some .long)) (hI : ICs (vm M)) (h0 : 0 ≤ k) (h1 : k < 8) (hQ : Qp (some (zL (size3 (vm M) k))) M) : ∀ (n : Nat) (i : Nat), n + i = 3 → zK (zg E) rmX12_many 5 (Qp, 0, 0) X (0, 0) 5 [some (zR 180), some (zI k), some (zL (size3u (vm M) k i)), none, some (zI i)] [] M := by
  intro n
  induction n with
  | zero =>
    intro i hi
    have e : i = 3 := by omega
    subst e
    refine zr_iload (pc := 5) S dX12_many_5 rfl ?_
    refine zr_iconst (pc := 7) S dX12_many_7 (by unfold zrI; omega) ?_
    refine zr_icmp_ge (pc := 8) (tgt := 40) S dX12_many_8 (by decide) (fun c8 => ?_) (fun c8 => absurd c8 (by omega))
    refine zr_lload_n (pc := 40) S dX12_many_40 rfl ?_
    exact zr_lret (pc := 41) S dX12_many_41 rfl ⟨Nat.le_refl _, Nat.le_refl _⟩ (zql hQ (size3_u (vm M) k))
  | succ n ih =>
    intro i hi
    have a := size3u_r hI h0 h1 i (by omega)
    have b := size3u_r hI h0 h1 (i + 1) (by omega)
    have c := span_r hI h0 h1 (m := i) (by omega) (by omega)
    have d : (100 : Int) ^ (i + 1) ≤ 1000000 := by
      have : i = 0 ∨ i = 1 ∨ i = 2 := by omega
      rcases this with rfl | rfl | rfl <;> decide
    have e1 : endM (vm M) k i 1 = highOf (vm M) k i := by unfold endM; rw [if_neg (by decide)]
    have e0 : endM (vm M) k i 0 = lowOf (vm M) k i := by unfold endM; rw [if_pos rfl]
    refine zr_iload (pc := 5) S dX12_many_5 rfl ?_
    refine zr_iconst (pc := 7) S dX12_many_7 (by unfold zrI; omega) ?_
    refine zr_icmp_ge (pc := 8) (tgt := 40) S dX12_many_8 (by decide) (fun c8 => absurd c8 (by omega)) (fun c8 => ?_)
    refine zr_lload_n (pc := 11) S dX12_many_11 rfl ?_
    refine zr_aload_n (pc := 12) S dX12_many_12 rfl ?_
    refine zr_iload_n (pc := 13) S dX12_many_13 rfl ?_
    refine zr_iload (pc := 14) S dX12_many_14 rfl ?_
    refine zr_iconst (pc := 16) S dX12_many_16 (by unfold zrI; omega) ?_
    refine zr_invV (pc := 17) S [zI _, zI _, zI _] (m_X12_endOf _) kX12_many_128 dX12_many_17 rfl (Nat.le_of_ble_eq_true rfl) rfl (Nat.le_of_ble_eq_true rfl) ⟨Nat.le_of_ble_eq_true rfl, Nat.le_of_ble_eq_true rfl⟩ (us_X12_endOf hI h0 h1 (by omega) (by omega) (Or.inr rfl) ?_)
    dsimp only [zaft, Option.toList, List.cons_append, List.nil_append, Nat.add_zero]
    rw [e1]
    refine zr_aload_n (pc := 20) S dX12_many_20 rfl ?_
    refine zr_iload_n (pc := 21) S dX12_many_21 rfl ?_
    refine zr_iload (pc := 22) S dX12_many_22 rfl ?_
    refine zr_iconst (pc := 24) S dX12_many_24 (by unfold zrI; omega) ?_
    refine zr_invV (pc := 25) S [zI _, zI _, zI _] (m_X12_endOf _) kX12_many_128 dX12_many_25 rfl (Nat.le_of_ble_eq_true rfl) rfl (Nat.le_of_ble_eq_true rfl) ⟨Nat.le_of_ble_eq_true rfl, Nat.le_of_ble_eq_true rfl⟩ (us_X12_endOf hI h0 h1 (by omega) (by omega) (Or.inl rfl) ?_)
    dsimp only [zaft, Option.toList, List.cons_append, List.nil_append, Nat.add_zero]
    rw [e0]
    refine zr_isub (pc := 28) S dX12_many_28 (by unfold zrI; omega) ?_
    refine zr_iconst (pc := 29) S dX12_many_29 (by unfold zrI; omega) ?_
    refine zr_iadd (pc := 30) S dX12_many_30 (by unfold zrI; omega) ?_
    refine zr_i2l (pc := 31) S dX12_many_31 ?_
    refine zr_lmul (pc := 32) S dX12_many_32 (by show zrL (size3u (vm M) k (i + 1)); unfold zrL; omega) ?_
    refine zr_lstore_n (pc := 33) S 2 dX12_many_33 rfl (by decide) ?_
    dsimp only [zst1, zst2, zset, zget, zlong]
    refine zr_iinc (pc := 34) S dX12_many_34 rfl (by unfold zrI; omega) (by decide) ?_
    dsimp only [zst1, zst2, zset, zget, zlong]
    refine zr_goto (pc := 37) (tgt := 5) S dX12_many_37 (by decide) ?_
    exact ih (i + 1) (by omega)
def sp_X12_many (as : List zV) (M : zM) (Q : Option zV → zM → Prop) : Prop := ∃ (k : Int), as = [zR 180, zI k] ∧ (ICs (vm M)) ∧ (0 ≤ k) ∧ (k < 8) ∧ (Q (some (zL (size3 (vm M) k))) M)
theorem us_X12_many {k : Int} {M : zM} {Q : Option zV → zM → Prop} (hI : ICs (vm M)) (h0 : 0 ≤ k) (h1 : k < 8) (hQ : Q (some (zL (size3 (vm M) k))) M) : sp_X12_many [zR 180, zI k] M Q := ⟨k, rfl, hI, h0, h1, hQ⟩
set_option maxRecDepth 20000 in
set_option maxHeartbeats 4000000 in
theorem m_X12_many (l : Launch) : zC l yX12_many wzX12_many rmX12_many sp_X12_many := by
  refine zMet.of RX12 (by decide +kernel) rfl rfl ?_
  intro E X as M Qp hX S hsp
  obtain ⟨k, rfl, hI, h0, h1, hQ⟩ := hsp
  refine ⟨Nat.le_of_ble_eq_true rfl, ?_⟩
  dsimp only [zpad, zargs]
  refine zr_lconst1 (pc := 0) S dX12_many_0 ?_
  refine zr_lstore_n (pc := 1) S 2 dX12_many_1 rfl (by decide) ?_
  dsimp only [zst1, zst2, zset, zget, zlong]
  refine zr_iconst (pc := 2) S dX12_many_2 (by unfold zrI; omega) ?_
  refine zr_istore (pc := 3) S dX12_many_3 (by decide) ?_
  dsimp only [zst1, zst2, zset, zget, zlong]
  exact lp_X12_many S hI h0 h1 hQ 3 0 rfl
theorem vm_tz (M : zM) (v : Int) : ∀ k, k < 36 → vm (tz M v) k = vm M k := fun k hk => by
  show vw (tz M v 181) (tz M v) k = vw (M 181) M k
  have e : ∀ c, c < 36 → tz M v c = M c := fun c hc => zup_o c (by omega)
  have et : tz M v 181 = M 181 := zup_o _ (by decide)
  rw [et]
  funext j
  unfold vw
  split <;> first | rfl | (rw [e _ (by omega)])
theorem tz_ag (M : zM) (v : Int) : AG (vm M) (vm (tz M v)) := vm_tz M v
def sp_X12_coins (as : List zV) (M : zM) (Q : Option zV → zM → Prop) : Prop := ∃ (s : Int), as = [zR 180, zI s] ∧ (ICs (vm M)) ∧ ((0 ≤ s ∧ s < M 181 0) → Q (some (zL (size3 (vm M) s))) (tz M 0)) ∧ (¬ (0 ≤ s ∧ s < M 181 0) → Q (some (zL 0)) (tz (tz M 0) 1))
theorem us_X12_coins {s : Int} {M : zM} {Q : Option zV → zM → Prop} (hI : ICs (vm M)) (hQ : (0 ≤ s ∧ s < M 181 0) → Q (some (zL (size3 (vm M) s))) (tz M 0)) (hT : ¬ (0 ≤ s ∧ s < M 181 0) → Q (some (zL 0)) (tz (tz M 0) 1)) : sp_X12_coins [zR 180, zI s] M Q := ⟨s, rfl, hI, hQ, hT⟩
set_option maxRecDepth 20000 in
set_option maxHeartbeats 4000000 in
theorem m_X12_coins (l : Launch) : zC l yX12_coins wzX12_coins rmX12_coins sp_X12_coins := by
  refine zMet.of RX12 (by decide +kernel) rfl rfl ?_
  intro E X as M Qp hX S hsp
  obtain ⟨s, rfl, hI, hQ, hT⟩ := hsp
  refine ⟨Nat.le_of_ble_eq_true rfl, ?_⟩
  dsimp only [zpad, zargs]
  have h0 : 0 ≤ M 181 0 ∧ M 181 0 ≤ 8 := hI.1
  refine zr_aload_n (pc := 0) S dX12_coins_0 rfl ?_
  refine zr_iconst (pc := 1) S dX12_coins_1 (by unfold zrI; omega) ?_
  refine zr_putI (pc := 2) S pX12_coins_80 dX12_coins_2 rfl (Nat.le_of_ble_eq_true rfl) rfl ?_
  refine zr_aload_n (pc := 5) S dX12_coins_5 rfl ?_
  refine zr_iload_n (pc := 6) S dX12_coins_6 rfl ?_
  refine zr_invV (pc := 7) S [zI _] (m_X12_isSort _) kX12_coins_99 dX12_coins_7 rfl (Nat.le_of_ble_eq_true rfl) rfl (Nat.le_of_ble_eq_true rfl) ⟨Nat.le_of_ble_eq_true rfl, Nat.le_of_ble_eq_true rfl⟩ (us_X12_isSort h0.1 ?_)
  dsimp only [zaft, Option.toList, List.cons_append, List.nil_append, Nat.add_zero]
  refine zr_if_eq (pc := 10) (tgt := 21) S dX12_coins_10 (by decide) (fun c10 => ?_) (fun c10 => ?_)
  · rw [b01_0] at c10
    have f := hT (fun z => c10 (by show _ ∧ _ ≤ M 181 0 - 1; omega))
    refine zr_aload_n (pc := 21) S dX12_coins_21 rfl ?_
    refine zr_iconst (pc := 22) S dX12_coins_22 (by unfold zrI; omega) ?_
    refine zr_invV (pc := 23) S [zI _] (m_X12_fails _) kX12_coins_95 dX12_coins_23 rfl (Nat.le_of_ble_eq_true rfl) rfl (Nat.le_of_ble_eq_true rfl) ⟨Nat.le_of_ble_eq_true rfl, Nat.le_of_ble_eq_true rfl⟩ (us_X12_fails ?_)
    dsimp only [zaft, Option.toList, List.cons_append, List.nil_append, Nat.add_zero]
    refine zr_i2l (pc := 26) S dX12_coins_26 ?_
    exact zr_lret (pc := 27) S dX12_coins_27 rfl ⟨Nat.le_refl _, Nat.le_refl _⟩ (f)
  · rw [b01_0, Classical.not_not] at c10
    have c10' : 0 ≤ s ∧ s ≤ M 181 0 - 1 := c10
    have f := hQ (by omega)
    refine zr_aload_n (pc := 13) S dX12_coins_13 rfl ?_
    refine zr_iload_n (pc := 14) S dX12_coins_14 rfl ?_
    refine zr_invV (pc := 15) S [zI _] (m_X12_many _) kX12_coins_132 dX12_coins_15 rfl (Nat.le_of_ble_eq_true rfl) rfl (Nat.le_of_ble_eq_true rfl) ⟨Nat.le_of_ble_eq_true rfl, Nat.le_of_ble_eq_true rfl⟩ (us_X12_many ((tz_ag M 0).s hI) (by omega) (by omega) ?_)
    dsimp only [zaft, Option.toList, List.cons_append, List.nil_append, Nat.add_zero]
    rw [ag_size3 (tz_ag M 0)]
    refine zr_goto (pc := 18) (tgt := 27) S dX12_coins_18 (by decide) ?_
    exact zr_lret (pc := 27) S dX12_coins_27 rfl ⟨Nat.le_refl _, Nat.le_refl _⟩ (f)
def sp_X12_isCoin (as : List zV) (M : zM) (Q : Option zV → zM → Prop) : Prop := ∃ (k w b r : Int), as = [zR 180, zI k, zI w, zI b, zI r] ∧ (ICs (vm M)) ∧ (0 ≤ k) ∧ (k < 8) ∧ (Q (some (zI (b01 (isCoin (vm M) k w b r)))) M)
theorem us_X12_isCoin {k w b r : Int} {M : zM} {Q : Option zV → zM → Prop} (hI : ICs (vm M)) (h0 : 0 ≤ k) (h1 : k < 8) (hQ : Q (some (zI (b01 (isCoin (vm M) k w b r)))) M) : sp_X12_isCoin [zR 180, zI k, zI w, zI b, zI r] M Q := ⟨k, w, b, r, rfl, hI, h0, h1, hQ⟩
set_option maxRecDepth 20000 in
set_option maxHeartbeats 4000000 in
theorem m_X12_isCoin (l : Launch) : zC l yX12_isCoin wzX12_isCoin rmX12_isCoin sp_X12_isCoin := by
  refine zMet.of RX12 (by decide +kernel) rfl rfl ?_
  intro E X as M Qp hX S hsp
  obtain ⟨k, w, b, r, rfl, hI, h0, h1, hQ⟩ := hsp
  refine ⟨Nat.le_of_ble_eq_true rfl, ?_⟩
  dsimp only [zpad, zargs]
  have e1 : ∀ i : Int, endM (vm M) k i 1 = highOf (vm M) k i := fun i => by unfold endM; rw [if_neg (by decide)]
  have e0 : ∀ i : Int, endM (vm M) k i 0 = lowOf (vm M) k i := fun i => by unfold endM; rw [if_pos rfl]
  refine zr_iload_n (pc := 0) S dX12_isCoin_0 rfl ?_
  refine zr_i2l (pc := 1) S dX12_isCoin_1 ?_
  refine zr_aload_n (pc := 2) S dX12_isCoin_2 rfl ?_
  refine zr_iload_n (pc := 3) S dX12_isCoin_3 rfl ?_
  refine zr_iconst (pc := 4) S dX12_isCoin_4 (by unfold zrI; omega) ?_
  refine zr_iconst (pc := 5) S dX12_isCoin_5 (by unfold zrI; omega) ?_
  refine zr_invV (pc := 6) S [zI _, zI _, zI _] (m_X12_endOf _) kX12_isCoin_128 dX12_isCoin_6 rfl (Nat.le_of_ble_eq_true rfl) rfl (Nat.le_of_ble_eq_true rfl) ⟨Nat.le_of_ble_eq_true rfl, Nat.le_of_ble_eq_true rfl⟩ (us_X12_endOf hI h0 h1 (by decide) (by decide) (Or.inl rfl) ?_)
  dsimp only [zaft, Option.toList, List.cons_append, List.nil_append, Nat.add_zero]
  rw [e0]
  refine zr_i2l (pc := 9) S dX12_isCoin_9 ?_
  refine zr_aload_n (pc := 10) S dX12_isCoin_10 rfl ?_
  refine zr_iload_n (pc := 11) S dX12_isCoin_11 rfl ?_
  refine zr_iconst (pc := 12) S dX12_isCoin_12 (by unfold zrI; omega) ?_
  refine zr_iconst (pc := 13) S dX12_isCoin_13 (by unfold zrI; omega) ?_
  refine zr_invV (pc := 14) S [zI _, zI _, zI _] (m_X12_endOf _) kX12_isCoin_128 dX12_isCoin_14 rfl (Nat.le_of_ble_eq_true rfl) rfl (Nat.le_of_ble_eq_true rfl) ⟨Nat.le_of_ble_eq_true rfl, Nat.le_of_ble_eq_true rfl⟩ (us_X12_endOf hI h0 h1 (by decide) (by decide) (Or.inr rfl) ?_)
  dsimp only [zaft, Option.toList, List.cons_append, List.nil_append, Nat.add_zero]
  rw [e1]
  refine zr_i2l (pc := 17) S dX12_isCoin_17 ?_
  refine zr_invS (pc := 18) S [zL _, zL _, zL _] (m_X12_within _) kX12_isCoin_83 dX12_isCoin_18 (Nat.le_of_ble_eq_true rfl) ⟨Nat.le_of_ble_eq_true rfl, Nat.le_of_ble_eq_true rfl⟩ (us_X12_within ?_)
  dsimp only [zaft, Option.toList, List.cons_append, List.nil_append, Nat.add_zero]
  refine zr_if_eq (pc := 21) (tgt := 77) S dX12_isCoin_21 (by decide) (fun c21 => ?_) (fun c21 => ?_)
  · rw [b01_0] at c21
    refine zr_iconst (pc := 77) S dX12_isCoin_77 (by unfold zrI; omega) ?_
    exact zr_zret (pc := 78) S dX12_isCoin_78 rfl (by first | omega | exact b01_r) ⟨Nat.le_refl _, Nat.le_refl _⟩ (zqi hQ (by unfold b01; split <;> omega))
  · rw [b01_0, Classical.not_not] at c21
    refine zr_iload_n (pc := 24) S dX12_isCoin_24 rfl ?_
    refine zr_i2l (pc := 25) S dX12_isCoin_25 ?_
    refine zr_aload_n (pc := 26) S dX12_isCoin_26 rfl ?_
    refine zr_iload_n (pc := 27) S dX12_isCoin_27 rfl ?_
    refine zr_iconst (pc := 28) S dX12_isCoin_28 (by unfold zrI; omega) ?_
    refine zr_iconst (pc := 29) S dX12_isCoin_29 (by unfold zrI; omega) ?_
    refine zr_invV (pc := 30) S [zI _, zI _, zI _] (m_X12_endOf _) kX12_isCoin_128 dX12_isCoin_30 rfl (Nat.le_of_ble_eq_true rfl) rfl (Nat.le_of_ble_eq_true rfl) ⟨Nat.le_of_ble_eq_true rfl, Nat.le_of_ble_eq_true rfl⟩ (us_X12_endOf hI h0 h1 (by decide) (by decide) (Or.inl rfl) ?_)
    dsimp only [zaft, Option.toList, List.cons_append, List.nil_append, Nat.add_zero]
    rw [e0]
    refine zr_i2l (pc := 33) S dX12_isCoin_33 ?_
    refine zr_aload_n (pc := 34) S dX12_isCoin_34 rfl ?_
    refine zr_iload_n (pc := 35) S dX12_isCoin_35 rfl ?_
    refine zr_iconst (pc := 36) S dX12_isCoin_36 (by unfold zrI; omega) ?_
    refine zr_iconst (pc := 37) S dX12_isCoin_37 (by unfold zrI; omega) ?_
    refine zr_invV (pc := 38) S [zI _, zI _, zI _] (m_X12_endOf _) kX12_isCoin_128 dX12_isCoin_38 rfl (Nat.le_of_ble_eq_true rfl) rfl (Nat.le_of_ble_eq_true rfl) ⟨Nat.le_of_ble_eq_true rfl, Nat.le_of_ble_eq_true rfl⟩ (us_X12_endOf hI h0 h1 (by decide) (by decide) (Or.inr rfl) ?_)
    dsimp only [zaft, Option.toList, List.cons_append, List.nil_append, Nat.add_zero]
    rw [e1]
    refine zr_i2l (pc := 41) S dX12_isCoin_41 ?_
    refine zr_invS (pc := 42) S [zL _, zL _, zL _] (m_X12_within _) kX12_isCoin_83 dX12_isCoin_42 (Nat.le_of_ble_eq_true rfl) ⟨Nat.le_of_ble_eq_true rfl, Nat.le_of_ble_eq_true rfl⟩ (us_X12_within ?_)
    dsimp only [zaft, Option.toList, List.cons_append, List.nil_append, Nat.add_zero]
    refine zr_if_eq (pc := 45) (tgt := 77) S dX12_isCoin_45 (by decide) (fun c45 => ?_) (fun c45 => ?_)
    · rw [b01_0] at c45
      refine zr_iconst (pc := 77) S dX12_isCoin_77 (by unfold zrI; omega) ?_
      exact zr_zret (pc := 78) S dX12_isCoin_78 rfl (by first | omega | exact b01_r) ⟨Nat.le_refl _, Nat.le_refl _⟩ (zqi hQ (by unfold b01; split <;> omega))
    · rw [b01_0, Classical.not_not] at c45
      refine zr_iload (pc := 48) S dX12_isCoin_48 rfl ?_
      refine zr_i2l (pc := 50) S dX12_isCoin_50 ?_
      refine zr_aload_n (pc := 51) S dX12_isCoin_51 rfl ?_
      refine zr_iload_n (pc := 52) S dX12_isCoin_52 rfl ?_
      refine zr_iconst (pc := 53) S dX12_isCoin_53 (by unfold zrI; omega) ?_
      refine zr_iconst (pc := 54) S dX12_isCoin_54 (by unfold zrI; omega) ?_
      refine zr_invV (pc := 55) S [zI _, zI _, zI _] (m_X12_endOf _) kX12_isCoin_128 dX12_isCoin_55 rfl (Nat.le_of_ble_eq_true rfl) rfl (Nat.le_of_ble_eq_true rfl) ⟨Nat.le_of_ble_eq_true rfl, Nat.le_of_ble_eq_true rfl⟩ (us_X12_endOf hI h0 h1 (by decide) (by decide) (Or.inl rfl) ?_)
      dsimp only [zaft, Option.toList, List.cons_append, List.nil_append, Nat.add_zero]
      rw [e0]
      refine zr_i2l (pc := 58) S dX12_isCoin_58 ?_
      refine zr_aload_n (pc := 59) S dX12_isCoin_59 rfl ?_
      refine zr_iload_n (pc := 60) S dX12_isCoin_60 rfl ?_
      refine zr_iconst (pc := 61) S dX12_isCoin_61 (by unfold zrI; omega) ?_
      refine zr_iconst (pc := 62) S dX12_isCoin_62 (by unfold zrI; omega) ?_
      refine zr_invV (pc := 63) S [zI _, zI _, zI _] (m_X12_endOf _) kX12_isCoin_128 dX12_isCoin_63 rfl (Nat.le_of_ble_eq_true rfl) rfl (Nat.le_of_ble_eq_true rfl) ⟨Nat.le_of_ble_eq_true rfl, Nat.le_of_ble_eq_true rfl⟩ (us_X12_endOf hI h0 h1 (by decide) (by decide) (Or.inr rfl) ?_)
      dsimp only [zaft, Option.toList, List.cons_append, List.nil_append, Nat.add_zero]
      rw [e1]
      refine zr_i2l (pc := 66) S dX12_isCoin_66 ?_
      refine zr_invS (pc := 67) S [zL _, zL _, zL _] (m_X12_within _) kX12_isCoin_83 dX12_isCoin_67 (Nat.le_of_ble_eq_true rfl) ⟨Nat.le_of_ble_eq_true rfl, Nat.le_of_ble_eq_true rfl⟩ (us_X12_within ?_)
      dsimp only [zaft, Option.toList, List.cons_append, List.nil_append, Nat.add_zero]
      refine zr_if_eq (pc := 70) (tgt := 77) S dX12_isCoin_70 (by decide) (fun c70 => ?_) (fun c70 => ?_)
      · rw [b01_0] at c70
        refine zr_iconst (pc := 77) S dX12_isCoin_77 (by unfold zrI; omega) ?_
        exact zr_zret (pc := 78) S dX12_isCoin_78 rfl (by first | omega | exact b01_r) ⟨Nat.le_refl _, Nat.le_refl _⟩ (zqi hQ (by unfold b01; split <;> omega))
      · rw [b01_0, Classical.not_not] at c70
        refine zr_iconst (pc := 73) S dX12_isCoin_73 (by unfold zrI; omega) ?_
        refine zr_goto (pc := 74) (tgt := 78) S dX12_isCoin_74 (by decide) ?_
        exact zr_zret (pc := 78) S dX12_isCoin_78 rfl (by first | omega | exact b01_r) ⟨Nat.le_refl _, Nat.le_refl _⟩ (zqi hQ (by unfold b01; split <;> omega))
/-- a coin falls into a tube of the told row -/
def dropT (t : Nat → Int) (u s : Nat) : Nat → Int := if t (159 + 21 * u) = 20 then rUp t (327 + s) (t (327 + s) + 1) else rUp (rUp t (159 + 21 * u) (t (159 + 21 * u) + 1)) (159 + 21 * u + (t (159 + 21 * u) + 1).toNat) s
def sp_X12_drops (as : List zV) (M : zM) (Q : Option zV → zM → Prop) : Prop := ∃ (u s : Nat), as = [zR 180, zI u, zI s] ∧ (u < 8) ∧ (s < 8) ∧ (0 ≤ M 181 (159 + 21 * u) ∧ M 181 (159 + 21 * u) ≤ 20) ∧ (0 ≤ M 181 (327 + s) ∧ M 181 (327 + s) ≤ 1000000) ∧ (Q none (zrow M 181 (dropT (M 181) u s)))
theorem us_X12_drops {u s : Nat} {M : zM} {Q : Option zV → zM → Prop} (h0 : u < 8) (h1 : s < 8) (h2 : 0 ≤ M 181 (159 + 21 * u) ∧ M 181 (159 + 21 * u) ≤ 20) (h3 : 0 ≤ M 181 (327 + s) ∧ M 181 (327 + s) ≤ 1000000) (hQ : Q none (zrow M 181 (dropT (M 181) u s))) : sp_X12_drops [zR 180, zI u, zI s] M Q := ⟨u, s, rfl, h0, h1, h2, h3, hQ⟩
set_option maxRecDepth 20000 in
set_option maxHeartbeats 4000000 in
theorem m_X12_drops (l : Launch) : zC l yX12_drops wzX12_drops rmX12_drops sp_X12_drops := by
  refine zMet.of RX12 (by decide +kernel) rfl rfl ?_
  intro E X as M Qp hX S hsp
  obtain ⟨u, s, rfl, h0, h1, h2, h3, hQ⟩ := hsp
  refine ⟨Nat.le_of_ble_eq_true rfl, ?_⟩
  dsimp only [zpad, zargs]
  have e0 : ((159 : Int) + 21 * (u : Int)).toNat = 159 + 21 * u := by omega
  have e1 : ((327 : Int) + (s : Int)).toNat = 327 + s := by omega
  have e2 : ((159 : Int) + 21 * (u : Int) + (M 181 (159 + 21 * u) + 1)).toNat = 159 + 21 * u + (M 181 (159 + 21 * u) + 1).toNat := by omega
  unfold dropT at hQ
  by_cases hc : M 181 (159 + 21 * u) = 20
  · rw [if_pos hc] at hQ
    refine zr_aload_n (pc := 0) S dX12_drops_0 rfl ?_
    refine zr_iload_n (pc := 1) S dX12_drops_1 rfl ?_
    refine zr_invV (pc := 2) S [zI _] (m_X12_tubeAt _) kX12_drops_293 dX12_drops_2 rfl (Nat.le_of_ble_eq_true rfl) rfl (Nat.le_of_ble_eq_true rfl) ⟨Nat.le_of_ble_eq_true rfl, Nat.le_of_ble_eq_true rfl⟩ (us_X12_tubeAt (by omega) (by omega) ?_)
    dsimp only [zaft, Option.toList, List.cons_append, List.nil_append, Nat.add_zero]
    refine zr_istore_n (pc := 5) S 3 dX12_drops_5 rfl (by decide) ?_
    dsimp only [zst1, zst2, zset, zget, zlong]
    refine zr_aload_n (pc := 6) S dX12_drops_6 rfl ?_
    refine zr_getR (pc := 7) S fX12_drops_9 dX12_drops_7 rfl (Nat.le_of_ble_eq_true rfl) rfl ?_
    refine zr_iload_n (pc := 10) S dX12_drops_10 rfl ?_
    refine zr_iaload (pc := 11) S dX12_drops_11 rfl (Nat.le_of_ble_eq_true rfl) (by omega) (by omega) ?_
    rw [e0]
    refine zr_bipush (pc := 12) S dX12_drops_12 ⟨by unfold zrI; omega, by decide⟩ ?_
    refine zr_icmp_ne (pc := 14) (tgt := 32) S dX12_drops_14 (by decide) (fun c14 => absurd c14 (by omega)) (fun c14 => ?_)
    refine zr_aload_n (pc := 17) S dX12_drops_17 rfl ?_
    refine zr_getR (pc := 18) S fX12_drops_9 dX12_drops_18 rfl (Nat.le_of_ble_eq_true rfl) rfl ?_
    refine zr_sipush (pc := 21) S dX12_drops_21 ⟨by unfold zrI; omega, by decide⟩ ?_
    refine zr_iload_n (pc := 24) S dX12_drops_24 rfl ?_
    refine zr_iadd (pc := 25) S dX12_drops_25 (by unfold zrI; omega) ?_
    refine zr_dup2 (pc := 26) S dX12_drops_26 rfl rfl ?_
    refine zr_iaload (pc := 27) S dX12_drops_27 rfl (Nat.le_of_ble_eq_true rfl) (by omega) (by omega) ?_
    rw [e1]
    refine zr_iconst (pc := 28) S dX12_drops_28 (by unfold zrI; omega) ?_
    refine zr_iadd (pc := 29) S dX12_drops_29 (by unfold zrI; omega) ?_
    refine zr_iastore (pc := 30) S dX12_drops_30 rfl (Nat.le_of_ble_eq_true rfl) (by omega) (by omega) ?_
    rw [e1]
    exact zr_vret (pc := 31) S dX12_drops_31 rfl ⟨Nat.le_refl _, Nat.le_refl _⟩ (zqm hQ up_zrow)
  · rw [if_neg hc] at hQ
    have ez : ∀ x : Int, zup M 181 (159 + 21 * u) x 181 (159 + 21 * u) = x := fun x => zup_e
    refine zr_aload_n (pc := 0) S dX12_drops_0 rfl ?_
    refine zr_iload_n (pc := 1) S dX12_drops_1 rfl ?_
    refine zr_invV (pc := 2) S [zI _] (m_X12_tubeAt _) kX12_drops_293 dX12_drops_2 rfl (Nat.le_of_ble_eq_true rfl) rfl (Nat.le_of_ble_eq_true rfl) ⟨Nat.le_of_ble_eq_true rfl, Nat.le_of_ble_eq_true rfl⟩ (us_X12_tubeAt (by omega) (by omega) ?_)
    dsimp only [zaft, Option.toList, List.cons_append, List.nil_append, Nat.add_zero]
    refine zr_istore_n (pc := 5) S 3 dX12_drops_5 rfl (by decide) ?_
    dsimp only [zst1, zst2, zset, zget, zlong]
    refine zr_aload_n (pc := 6) S dX12_drops_6 rfl ?_
    refine zr_getR (pc := 7) S fX12_drops_9 dX12_drops_7 rfl (Nat.le_of_ble_eq_true rfl) rfl ?_
    refine zr_iload_n (pc := 10) S dX12_drops_10 rfl ?_
    refine zr_iaload (pc := 11) S dX12_drops_11 rfl (Nat.le_of_ble_eq_true rfl) (by omega) (by omega) ?_
    rw [e0]
    refine zr_bipush (pc := 12) S dX12_drops_12 ⟨by unfold zrI; omega, by decide⟩ ?_
    refine zr_icmp_ne (pc := 14) (tgt := 32) S dX12_drops_14 (by decide) (fun c14 => ?_) (fun c14 => absurd c14 (by omega))
    refine zr_aload_n (pc := 32) S dX12_drops_32 rfl ?_
    refine zr_getR (pc := 33) S fX12_drops_9 dX12_drops_33 rfl (Nat.le_of_ble_eq_true rfl) rfl ?_
    refine zr_iload_n (pc := 36) S dX12_drops_36 rfl ?_
    refine zr_dup2 (pc := 37) S dX12_drops_37 rfl rfl ?_
    refine zr_iaload (pc := 38) S dX12_drops_38 rfl (Nat.le_of_ble_eq_true rfl) (by omega) (by omega) ?_
    rw [e0]
    refine zr_iconst (pc := 39) S dX12_drops_39 (by unfold zrI; omega) ?_
    refine zr_iadd (pc := 40) S dX12_drops_40 (by unfold zrI; omega) ?_
    refine zr_iastore (pc := 41) S dX12_drops_41 rfl (Nat.le_of_ble_eq_true rfl) (by omega) (by omega) ?_
    rw [e0]
    refine zr_aload_n (pc := 42) S dX12_drops_42 rfl ?_
    refine zr_getR (pc := 43) S fX12_drops_9 dX12_drops_43 rfl (Nat.le_of_ble_eq_true rfl) rfl ?_
    try simp only [zup_k, zup_e, ne_eq, Nat.reduceEqDiff, not_false_eq_true, zup_j]
    refine zr_iload_n (pc := 46) S dX12_drops_46 rfl ?_
    refine zr_aload_n (pc := 47) S dX12_drops_47 rfl ?_
    refine zr_getR (pc := 48) S fX12_drops_9 dX12_drops_48 rfl (Nat.le_of_ble_eq_true rfl) rfl ?_
    try simp only [zup_k, zup_e, ne_eq, Nat.reduceEqDiff, not_false_eq_true, zup_j]
    refine zr_iload_n (pc := 51) S dX12_drops_51 rfl ?_
    refine zr_iaload (pc := 52) S dX12_drops_52 rfl (Nat.le_of_ble_eq_true rfl) (by omega) (by omega) ?_
    try simp only [zup_k, zup_e, ne_eq, Nat.reduceEqDiff, not_false_eq_true]
    rw [e0]
    rw [ez]
    refine zr_iadd (pc := 53) S dX12_drops_53 (by unfold zrI; omega) ?_
    refine zr_iload_n (pc := 54) S dX12_drops_54 rfl ?_
    refine zr_iastore (pc := 55) S dX12_drops_55 rfl (Nat.le_of_ble_eq_true rfl) (by omega) (by omega) ?_
    rw [e2]
    exact zr_vret (pc := 56) S dX12_drops_56 rfl ⟨Nat.le_refl _, Nat.le_refl _⟩ (zqm hQ up2_zrow)
end
