section
variable {G : zG} {R : Room} {nL : Nat} {q : zq} {X : zX} {b : Nat × Nat} {cc : ByteArray} {Ts : List Cond} {own : String} {ret : Option FieldType} {pc : Nat} {ls : List (Option zV)} {st : List zV} {M : zM}
theorem zr_isub' (S : zS G X cc nL Ts own ret) {x y : Int} (hd : decode cc pc = .ok (.isub, 1)) (hr : zrI x → zrI y → zrI (x - y)) (k : zK G R nL q X b (pc + 1) ls (zI (x - y) :: st) M) : zK G R nL q X b pc ls (zI y :: zI x :: st) M :=
  fun ho hl hM H locs arr hP hS hh => zr_isub S hd (hr (zokh (zokt ho)) (zokh ho)) k ho hl hM H locs arr hP hS hh
end
section
/-- the reference's state, read as the class's cells -/
def gcode (k a : Int) : Int := if k = 0 then -2 else if k = 1 then -3 else if k = 2 then a else -1
/-- how many coins a buyer of the reference has -/
def cnB (t : Nat → Int) (b : Nat) : Int := if t (579 + 6 * b) = -1 then 1 else if t (580 + 6 * b) = -1 then 2 else if t (581 + 6 * b) = -1 then 3 else 4
/-- the told row t, read as the class's cells 1 to 35; what t doesn't tell is C's -/
def vw (t : Nat → Int) (C : zM) : zM := fun k j => match k with
  | 1 => if j = 3 then t 2 else if j = 5 then t 4 else if j = 10 then t 5 else C 1 j
  | 2 => if j = 0 then t 0 else C 2 j
  | 3 => if j < 4 then t (7 + j) else C 3 j
  | 4 => if j < 8 then t (15 + 11 * j) else C 4 j
  | 5 => if j < 8 then t (16 + 11 * j) else C 5 j
  | 6 => if j < 8 then t (17 + 11 * j) else C 6 j
  | 7 => if j < 24 then t (18 + 11 * (j / 3) + 2 * (j % 3)) else C 7 j
  | 8 => if j < 24 then t (19 + 11 * (j / 3) + 2 * (j % 3)) else C 8 j
  | 9 => if j < 8 then t (24 + 11 * j) else C 9 j
  | 10 => if j < 8 then t (25 + 11 * j) else C 10 j
  | 11 => if j = 0 then t 1 else C 11 j
  | 12 => if (j : Int) < t 1 then t (103 + 7 * j) else C 12 j
  | 13 => if (j : Int) < t 1 then t (104 + 7 * j) else C 13 j
  | 14 => if (j : Int) < t 1 then t (105 + 7 * j) else C 14 j
  | 15 => if (j : Int) < t 1 then gcode (t (106 + 7 * j)) (t (107 + 7 * j)) else C 15 j
  | 16 => if (j : Int) < t 1 then gcode (t (108 + 7 * j)) (t (109 + 7 * j)) else C 16 j
  | 17 => if j = 6 then t 3 else if j = 11 then t 6 else C 17 j
  | 18 => if j < 160 then t (160 + 21 * (j / 20) + j % 20) else C 18 j
  | 19 => if j < 8 then t (159 + 21 * j) else C 19 j
  | 20 => if j < 8 then t (327 + j) else C 20 j
  | 21 => if j < 8 then t (335 + j) else C 21 j
  | 22 => if j < 8 then t (343 + j) else C 22 j
  | 23 => if j < 4 then t (11 + j) else C 23 j
  | 24 => if j < 12 then t (358 + 4 * j) else C 24 j
  | 25 => if j < 12 then t (357 + 4 * j) else C 25 j
  | 26 => if j < 12 then t (360 + 4 * j) else C 26 j
  | 27 => if j < 12 then t (359 + 4 * j) else C 27 j
  | 28 => if j < 160 then t (405 + j) else C 28 j
  | 29 => if j < 6 then t (351 + j) else C 29 j
  | 30 => if (j : Int) < t 4 then t (577 + 6 * j) else C 30 j
  | 31 => if ((j / 4 : Nat) : Int) < t 4 ∧ ((j % 4 : Nat) : Int) < cnB t (j / 4) then t (578 + 6 * (j / 4) + j % 4) else C 31 j
  | 32 => if (j : Int) < t 4 then cnB t j else C 32 j
  | 33 => if (j : Int) < t 4 then t (582 + 6 * j) else C 33 j
  | 34 => if j < 4 then t (607 + 2 * j) else C 34 j
  | 35 => if j < 4 then t (608 + 2 * j) else C 35 j
  | k => C k j
/-- the reference's state, read as the class's cells -/
abbrev vm (M : zM) : zM := vw (M 181) M
theorem vm_many {M : zM} : vm M 2 0 = M 181 0 := rfl
theorem vm_set {M : zM} {j : Nat} (h : j < 4) : vm M 3 j = M 181 (7 + j) := if_pos h
theorem vm_val {M : zM} {j : Nat} (h : j < 8) : vm M 4 j = M 181 (15 + 11 * j) := if_pos h
theorem vm_fst {M : zM} {j : Nat} (h : j < 8) : vm M 5 j = M 181 (16 + 11 * j) := if_pos h
theorem vm_lst {M : zM} {j : Nat} (h : j < 8) : vm M 6 j = M 181 (17 + 11 * j) := if_pos h
theorem vm_wear {M : zM} {j : Nat} (h : j < 8) : vm M 9 j = M 181 (24 + 11 * j) := if_pos h
theorem vm_flow {M : zM} {j : Nat} (h : j < 8) : vm M 10 j = M 181 (25 + 11 * j) := if_pos h
def rmX12_thrown : Room := { frames := 0, cells := 0, slots := 0, locals := 0 }
abbrev wzX12_thrown : List Cond := .code yX12_thrown cX12_thrown 1 (some .int) :: zW
def rmX12_fails : Room := { frames := 0, cells := 0, slots := 0, locals := 0 }
abbrev wzX12_fails : List Cond := .code yX12_fails cX12_fails 2 (some .int) :: zW
def rmX12_within : Room := { frames := 0, cells := 0, slots := 0, locals := 0 }
abbrev wzX12_within : List Cond := .code yX12_within cX12_within 6 (some .boolean) :: zW
def rmX12_is : Room := { frames := 1, cells := 0, slots := 0, locals := 25 }
abbrev wzX12_is : List Cond := .code yX12_is cX12_is 3 (some .boolean) :: zW
def rmX12_isSort : Room := { frames := 2, cells := 0, slots := 0, locals := 47 }
abbrev wzX12_isSort : List Cond := .code yX12_isSort cX12_isSort 2 (some .boolean) :: zW
def rmX12_of : Room := { frames := 0, cells := 0, slots := 0, locals := 0 }
abbrev wzX12_of : List Cond := .code yX12_of cX12_of 3 (some .int) :: zW
def rmX12_becomes : Room := { frames := 0, cells := 0, slots := 0, locals := 0 }
abbrev wzX12_becomes : List Cond := .code yX12_becomes cX12_becomes 4 (some .int) :: zW
def rmX12_isGood : Room := { frames := 3, cells := 0, slots := 0, locals := 68 }
abbrev wzX12_isGood : List Cond := .code yX12_isGood cX12_isGood 2 (some .boolean) :: zW
def rmX12_valueOf : Room := { frames := 4, cells := 0, slots := 0, locals := 89 }
abbrev wzX12_valueOf : List Cond := .code yX12_valueOf cX12_valueOf 2 (some .int) :: zW
def rmX12_endOf : Room := { frames := 1, cells := 0, slots := 0, locals := 22 }
abbrev wzX12_endOf : List Cond := .code yX12_endOf cX12_endOf 5 (some .int) :: zW
def rmX12_many : Room := { frames := 2, cells := 0, slots := 0, locals := 46 }
abbrev wzX12_many : List Cond := .code yX12_many cX12_many 5 (some .long) :: zW
theorem fX12_thrown_80 : zfl wzX12_thrown RX12 vwCl 80 12 3 := ⟨_, _, _, rfl, (fun w h => List.mem_cons_of_mem _ (zWuX12 w h)), by decide, List.mem_cons_of_mem _ (zWi_9 _ (List.mem_of_getElem? (i := 38) rfl))⟩
theorem pX12_fails_80 : zfp wzX12_fails RX12 vwCl 80 12 3 := ⟨_, _, _, _, rfl, (fun w h => List.mem_cons_of_mem _ (zWuX12 w h)), by decide, List.mem_cons_of_mem _ (zWi_9 _ (List.mem_of_getElem? (i := 38) rfl)), tyX12_ok, nmX12, rfl, by decide +kernel⟩
theorem fX12_is_9 : zfl wzX12_is RX12 vwCl 9 12 0 := ⟨_, _, _, rfl, (fun w h => List.mem_cons_of_mem _ (zWuX12 w h)), by decide, List.mem_cons_of_mem _ (zWi_9 _ (List.mem_of_getElem? (i := 39) rfl))⟩
theorem kX12_is_83 : ∀ (s9 : State) (a9 : Array Value), (∀ w ∈ wzX12_is, w.before a9 s9 = true) → CallB rmX12_is s9 a9 RX12 83 yX12_within cX12_within 6 (some .boolean) wzX12_within rmX12_within 0 0 3 ∧ (Cond.static yX12_within).before a9 s9 = true := zcS (zWi_23 _ (List.mem_of_getElem? (i := 24) rfl)) (zWi_31 _ (List.mem_of_getElem? (i := 13) rfl)) (zWi_12 _ (List.mem_of_getElem? (i := 13) rfl)) (zWi_4 _ (List.mem_of_getElem? (i := 16) rfl)) (by decide +kernel) rfl rfl ⟨Nat.le_of_ble_eq_true rfl, Nat.le_of_ble_eq_true rfl⟩
theorem kX12_isSort_87 : ∀ (s9 : State) (a9 : Array Value), (∀ w ∈ wzX12_isSort, w.before a9 s9 = true) → CallW rmX12_isSort s9 a9 RX12 RX12 87 yX12_is cX12_is 3 (some .boolean) wzX12_is rmX12_is 0 0 2 := zcV (zWi_23 _ (List.mem_of_getElem? (i := 25) rfl)) (zWi_14 _ (List.mem_of_getElem? (i := 25) rfl)) (zWi_27 _ (List.mem_of_getElem? (i := 16) rfl)) (zWi_12 _ (List.mem_of_getElem? (i := 13) rfl)) (zWi_3 _ (List.mem_of_getElem? (i := 4) rfl)) (by decide +kernel) rfl rfl ⟨Nat.le_of_ble_eq_true rfl, Nat.le_of_ble_eq_true rfl⟩
theorem fX12_of_9 : zfl wzX12_of RX12 vwCl 9 12 0 := ⟨_, _, _, rfl, (fun w h => List.mem_cons_of_mem _ (zWuX12 w h)), by decide, List.mem_cons_of_mem _ (zWi_9 _ (List.mem_of_getElem? (i := 39) rfl))⟩
theorem fX12_becomes_9 : zfl wzX12_becomes RX12 vwCl 9 12 0 := ⟨_, _, _, rfl, (fun w h => List.mem_cons_of_mem _ (zWuX12 w h)), by decide, List.mem_cons_of_mem _ (zWi_9 _ (List.mem_of_getElem? (i := 39) rfl))⟩
theorem fX12_isGood_9 : zfl wzX12_isGood RX12 vwCl 9 12 0 := ⟨_, _, _, rfl, (fun w h => List.mem_cons_of_mem _ (zWuX12 w h)), by decide, List.mem_cons_of_mem _ (zWi_9 _ (List.mem_of_getElem? (i := 39) rfl))⟩
theorem kX12_isGood_99 : ∀ (s9 : State) (a9 : Array Value), (∀ w ∈ wzX12_isGood, w.before a9 s9 = true) → CallW rmX12_isGood s9 a9 RX12 RX12 99 yX12_isSort cX12_isSort 2 (some .boolean) wzX12_isSort rmX12_isSort 0 0 1 := zcV (zWi_23 _ (List.mem_of_getElem? (i := 27) rfl)) (zWi_14 _ (List.mem_of_getElem? (i := 30) rfl)) (zWi_27 _ (List.mem_of_getElem? (i := 21) rfl)) (zWi_12 _ (List.mem_of_getElem? (i := 13) rfl)) (zWi_3 _ (List.mem_of_getElem? (i := 11) rfl)) (by decide +kernel) rfl rfl ⟨Nat.le_of_ble_eq_true rfl, Nat.le_of_ble_eq_true rfl⟩
theorem kX12_isGood_117 : ∀ (s9 : State) (a9 : Array Value), (∀ w ∈ wzX12_isGood, w.before a9 s9 = true) → CallW rmX12_isGood s9 a9 RX12 RX12 117 yX12_of cX12_of 3 (some .int) wzX12_of rmX12_of 0 0 2 := zcV (zWi_22 _ (List.mem_of_getElem? (i := 18) rfl)) (zWi_15 _ (List.mem_of_getElem? (i := 0) rfl)) (zWi_27 _ (List.mem_of_getElem? (i := 41) rfl)) (zWi_12 _ (List.mem_of_getElem? (i := 13) rfl)) (zWi_3 _ (List.mem_of_getElem? (i := 32) rfl)) (by decide +kernel) rfl rfl ⟨Nat.le_of_ble_eq_true rfl, Nat.le_of_ble_eq_true rfl⟩
theorem kX12_isGood_83 : ∀ (s9 : State) (a9 : Array Value), (∀ w ∈ wzX12_isGood, w.before a9 s9 = true) → CallB rmX12_isGood s9 a9 RX12 83 yX12_within cX12_within 6 (some .boolean) wzX12_within rmX12_within 0 0 3 ∧ (Cond.static yX12_within).before a9 s9 = true := zcS (zWi_23 _ (List.mem_of_getElem? (i := 24) rfl)) (zWi_31 _ (List.mem_of_getElem? (i := 13) rfl)) (zWi_12 _ (List.mem_of_getElem? (i := 13) rfl)) (zWi_4 _ (List.mem_of_getElem? (i := 16) rfl)) (by decide +kernel) rfl rfl ⟨Nat.le_of_ble_eq_true rfl, Nat.le_of_ble_eq_true rfl⟩
theorem kX12_valueOf_120 : ∀ (s9 : State) (a9 : Array Value), (∀ w ∈ wzX12_valueOf, w.before a9 s9 = true) → CallW rmX12_valueOf s9 a9 RX12 RX12 120 yX12_isGood cX12_isGood 2 (some .boolean) wzX12_isGood rmX12_isGood 0 0 1 := zcV (zWi_22 _ (List.mem_of_getElem? (i := 19) rfl)) (zWi_14 _ (List.mem_of_getElem? (i := 28) rfl)) (zWi_27 _ (List.mem_of_getElem? (i := 19) rfl)) (zWi_12 _ (List.mem_of_getElem? (i := 13) rfl)) (zWi_3 _ (List.mem_of_getElem? (i := 8) rfl)) (by decide +kernel) rfl rfl ⟨Nat.le_of_ble_eq_true rfl, Nat.le_of_ble_eq_true rfl⟩
theorem kX12_valueOf_117 : ∀ (s9 : State) (a9 : Array Value), (∀ w ∈ wzX12_valueOf, w.before a9 s9 = true) → CallW rmX12_valueOf s9 a9 RX12 RX12 117 yX12_of cX12_of 3 (some .int) wzX12_of rmX12_of 0 0 2 := zcV (zWi_22 _ (List.mem_of_getElem? (i := 18) rfl)) (zWi_15 _ (List.mem_of_getElem? (i := 0) rfl)) (zWi_27 _ (List.mem_of_getElem? (i := 41) rfl)) (zWi_12 _ (List.mem_of_getElem? (i := 13) rfl)) (zWi_3 _ (List.mem_of_getElem? (i := 32) rfl)) (by decide +kernel) rfl rfl ⟨Nat.le_of_ble_eq_true rfl, Nat.le_of_ble_eq_true rfl⟩
theorem fX12_endOf_9 : zfl wzX12_endOf RX12 vwCl 9 12 0 := ⟨_, _, _, rfl, (fun w h => List.mem_cons_of_mem _ (zWuX12 w h)), by decide, List.mem_cons_of_mem _ (zWi_9 _ (List.mem_of_getElem? (i := 39) rfl))⟩
theorem kX12_endOf_117 : ∀ (s9 : State) (a9 : Array Value), (∀ w ∈ wzX12_endOf, w.before a9 s9 = true) → CallW rmX12_endOf s9 a9 RX12 RX12 117 yX12_of cX12_of 3 (some .int) wzX12_of rmX12_of 0 0 2 := zcV (zWi_22 _ (List.mem_of_getElem? (i := 18) rfl)) (zWi_15 _ (List.mem_of_getElem? (i := 0) rfl)) (zWi_27 _ (List.mem_of_getElem? (i := 41) rfl)) (zWi_12 _ (List.mem_of_getElem? (i := 13) rfl)) (zWi_3 _ (List.mem_of_getElem? (i := 32) rfl)) (by decide +kernel) rfl rfl ⟨Nat.le_of_ble_eq_true rfl, Nat.le_of_ble_eq_true rfl⟩
theorem kX12_endOf_123 : zml_mmax wzX12_endOf RX12 123 := ⟨List.mem_cons_of_mem _ (zWi_22 _ (List.mem_of_getElem? (i := 20) rfl)), List.mem_cons_of_mem _ (zWi_30 _ (List.mem_of_getElem? (i := 2) rfl)), List.mem_cons_of_mem _ (zWi_12 _ (List.mem_of_getElem? (i := 0) rfl)), List.mem_cons_of_mem _ (zWi_0 _ (List.mem_of_getElem? (i := 27) rfl))⟩
theorem kX12_many_128 : ∀ (s9 : State) (a9 : Array Value), (∀ w ∈ wzX12_many, w.before a9 s9 = true) → CallW rmX12_many s9 a9 RX12 RX12 128 yX12_endOf cX12_endOf 5 (some .int) wzX12_endOf rmX12_endOf 0 0 3 := zcV (zWi_22 _ (List.mem_of_getElem? (i := 21) rfl)) (zWi_14 _ (List.mem_of_getElem? (i := 8) rfl)) (zWi_27 _ (List.mem_of_getElem? (i := 0) rfl)) (zWi_12 _ (List.mem_of_getElem? (i := 13) rfl)) (zWi_2 _ (List.mem_of_getElem? (i := 37) rfl)) (by decide +kernel) rfl rfl ⟨Nat.le_of_ble_eq_true rfl, Nat.le_of_ble_eq_true rfl⟩
def sp_X12_thrown (as : List zV) (M : zM) (Q : Option zV → zM → Prop) : Prop := as = [zR 180] ∧ Q (some (zI (M 180 3))) (M)
theorem us_X12_thrown  {M : zM} {Q : Option zV → zM → Prop}  (h99 : Q (some (zI (M 180 3))) (M)) : sp_X12_thrown [zR 180] M Q := ⟨rfl, h99⟩
set_option maxRecDepth 20000 in
set_option maxHeartbeats 4000000 in
theorem m_X12_thrown (l : Launch) : zC l yX12_thrown wzX12_thrown rmX12_thrown sp_X12_thrown := by
  refine zMet.of RX12 (by decide +kernel) rfl rfl ?_
  intro E X as M Qp hX S hsp
  obtain ⟨rfl, hQ⟩ := hsp
  refine ⟨Nat.le_of_ble_eq_true rfl, ?_⟩
  dsimp only [zpad, zargs]
  refine zr_aload_n (pc := 0) S dX12_thrown_0 rfl ?_
  refine zr_getI (pc := 1) S fX12_thrown_80 dX12_thrown_1 rfl (Nat.le_of_ble_eq_true rfl) rfl ?_
  exact zr_iret (pc := 4) S dX12_thrown_4 rfl ⟨Nat.le_refl _, Nat.le_refl _⟩ (hQ)
def sp_X12_fails (as : List zV) (M : zM) (Q : Option zV → zM → Prop) : Prop := ∃ (k : Int), as = [zR 180, zI k] ∧ Q (some (zI 0)) (zup M 180 3 k)
theorem us_X12_fails {k : Int} {M : zM} {Q : Option zV → zM → Prop}  (h99 : Q (some (zI 0)) (zup M 180 3 k)) : sp_X12_fails [zR 180, zI k] M Q := ⟨k, rfl, h99⟩
set_option maxRecDepth 20000 in
set_option maxHeartbeats 4000000 in
theorem m_X12_fails (l : Launch) : zC l yX12_fails wzX12_fails rmX12_fails sp_X12_fails := by
  refine zMet.of RX12 (by decide +kernel) rfl rfl ?_
  intro E X as M Qp hX S hsp
  obtain ⟨k, rfl, hQ⟩ := hsp
  refine ⟨Nat.le_of_ble_eq_true rfl, ?_⟩
  dsimp only [zpad, zargs]
  refine zr_aload_n (pc := 0) S dX12_fails_0 rfl ?_
  refine zr_iload_n (pc := 1) S dX12_fails_1 rfl ?_
  refine zr_putI (pc := 2) S pX12_fails_80 dX12_fails_2 rfl (Nat.le_of_ble_eq_true rfl) rfl ?_
  refine zr_iconst (pc := 5) S dX12_fails_5 (by unfold zrI; omega) ?_
  exact zr_iret (pc := 6) S dX12_fails_6 rfl ⟨Nat.le_refl _, Nat.le_refl _⟩ (hQ)
def sp_X12_within (as : List zV) (M : zM) (Q : Option zV → zM → Prop) : Prop := ∃ (v a b : Int), as = [zL v, zL a, zL b] ∧ Q (some (zI (b01 (a ≤ v ∧ v ≤ b)))) (M)
theorem us_X12_within {v a b : Int} {M : zM} {Q : Option zV → zM → Prop}  (h99 : Q (some (zI (b01 (a ≤ v ∧ v ≤ b)))) (M)) : sp_X12_within [zL v, zL a, zL b] M Q := ⟨v, a, b, rfl, h99⟩
set_option maxRecDepth 20000 in
set_option maxHeartbeats 4000000 in
theorem m_X12_within (l : Launch) : zC l yX12_within wzX12_within rmX12_within sp_X12_within := by
  refine zMet.of RX12 (by decide +kernel) rfl rfl ?_
  intro E X as M Qp hX S hsp
  obtain ⟨v, a, b, rfl, hQ⟩ := hsp
  refine ⟨Nat.le_of_ble_eq_true rfl, ?_⟩
  dsimp only [zpad, zargs]
  refine zr_lload_n (pc := 0) S dX12_within_0 rfl ?_
  refine zr_lload_n (pc := 1) S dX12_within_1 rfl ?_
  refine zr_lcmp_lt (pc := 2) (tgt := 17) S dX12_within_2 dX12_within_3 (by decide) (fun c2 => ?_) (fun c2 => ?_)
  · refine zr_iconst (pc := 17) S dX12_within_17 (by unfold zrI; omega) ?_
    exact zr_zret (pc := 18) S dX12_within_18 rfl (by first | omega | exact b01_r) ⟨Nat.le_refl _, Nat.le_refl _⟩ (zqi hQ (by unfold b01; split <;> omega))
  · refine zr_lload_n (pc := 6) S dX12_within_6 rfl ?_
    refine zr_lload (pc := 7) S dX12_within_7 rfl ?_
    refine zr_lcmp_gt (pc := 9) (tgt := 17) S dX12_within_9 dX12_within_10 (by decide) (fun c9 => ?_) (fun c9 => ?_)
    · refine zr_iconst (pc := 17) S dX12_within_17 (by unfold zrI; omega) ?_
      exact zr_zret (pc := 18) S dX12_within_18 rfl (by first | omega | exact b01_r) ⟨Nat.le_refl _, Nat.le_refl _⟩ (zqi hQ (by unfold b01; split <;> omega))
    · refine zr_iconst (pc := 13) S dX12_within_13 (by unfold zrI; omega) ?_
      refine zr_goto (pc := 14) (tgt := 18) S dX12_within_14 (by decide) ?_
      exact zr_zret (pc := 18) S dX12_within_18 rfl (by first | omega | exact b01_r) ⟨Nat.le_refl _, Nat.le_refl _⟩ (zqi hQ (by unfold b01; split <;> omega))
def sp_X12_is (as : List zV) (M : zM) (Q : Option zV → zM → Prop) : Prop := ∃ (s k : Int), as = [zR 180, zI s, zI k] ∧ (0 ≤ s) ∧ (s < 615) ∧ (0 ≤ M 181 s.toNat) ∧ Q (some (zI (b01 (0 ≤ k ∧ k ≤ M 181 s.toNat - 1)))) (M)
theorem us_X12_is {s k : Int} {M : zM} {Q : Option zV → zM → Prop} (h0 : 0 ≤ s) (h1 : s < 615) (h2 : 0 ≤ M 181 s.toNat) (h99 : Q (some (zI (b01 (0 ≤ k ∧ k ≤ M 181 s.toNat - 1)))) (M)) : sp_X12_is [zR 180, zI s, zI k] M Q := ⟨s, k, rfl, h0, h1, h2, h99⟩
set_option maxRecDepth 20000 in
set_option maxHeartbeats 4000000 in
theorem m_X12_is (l : Launch) : zC l yX12_is wzX12_is rmX12_is sp_X12_is := by
  refine zMet.of RX12 (by decide +kernel) rfl rfl ?_
  intro E X as M Qp hX S hsp
  obtain ⟨s, k, rfl, h0, h1, h2, hQ⟩ := hsp
  refine ⟨Nat.le_of_ble_eq_true rfl, ?_⟩
  dsimp only [zpad, zargs]
  have hr : zrI (M 181 s.toNat - 1) ∨ True := Or.inr trivial
  refine zr_iload_n (pc := 0) S dX12_is_0 rfl ?_
  refine zr_i2l (pc := 1) S dX12_is_1 ?_
  refine zr_lconst0 (pc := 2) S dX12_is_2 ?_
  refine zr_aload_n (pc := 3) S dX12_is_3 rfl ?_
  refine zr_getR (pc := 4) S fX12_is_9 dX12_is_4 rfl (Nat.le_of_ble_eq_true rfl) rfl ?_
  refine zr_iload_n (pc := 7) S dX12_is_7 rfl ?_
  refine zr_iaload (pc := 8) S dX12_is_8 rfl (Nat.le_of_ble_eq_true rfl) (by omega) (by omega) ?_
  refine zr_iconst (pc := 9) S dX12_is_9 (by unfold zrI; omega) ?_
  refine zr_isub' (pc := 10) S dX12_is_10 (fun hx _ => by unfold zrI at *; omega) ?_
  refine zr_i2l (pc := 11) S dX12_is_11 ?_
  refine zr_invS (pc := 12) S [zL _, zL _, zL _] (m_X12_within _) kX12_is_83 dX12_is_12 (Nat.le_of_ble_eq_true rfl) ⟨Nat.le_of_ble_eq_true rfl, Nat.le_of_ble_eq_true rfl⟩ (us_X12_within ?_)
  dsimp only [zaft, Option.toList, List.cons_append, List.nil_append, Nat.add_zero]
  exact zr_zret (pc := 15) S dX12_is_15 rfl (by first | omega | exact b01_r) ⟨Nat.le_refl _, Nat.le_refl _⟩ (zqi hQ rfl)
def sp_X12_isSort (as : List zV) (M : zM) (Q : Option zV → zM → Prop) : Prop := ∃ (k : Int), as = [zR 180, zI k] ∧ (0 ≤ M 181 0) ∧ Q (some (zI (b01 (0 ≤ k ∧ k ≤ M 181 0 - 1)))) (M)
theorem us_X12_isSort {k : Int} {M : zM} {Q : Option zV → zM → Prop} (h2 : 0 ≤ M 181 0) (h99 : Q (some (zI (b01 (0 ≤ k ∧ k ≤ M 181 0 - 1)))) (M)) : sp_X12_isSort [zR 180, zI k] M Q := ⟨k, rfl, h2, h99⟩
set_option maxRecDepth 20000 in
set_option maxHeartbeats 4000000 in
theorem m_X12_isSort (l : Launch) : zC l yX12_isSort wzX12_isSort rmX12_isSort sp_X12_isSort := by
  refine zMet.of RX12 (by decide +kernel) rfl rfl ?_
  intro E X as M Qp hX S hsp
  obtain ⟨k, rfl, h2, hQ⟩ := hsp
  refine ⟨Nat.le_of_ble_eq_true rfl, ?_⟩
  dsimp only [zpad, zargs]
  refine zr_aload_n (pc := 0) S dX12_isSort_0 rfl ?_
  refine zr_iconst (pc := 1) S dX12_isSort_1 (by unfold zrI; omega) ?_
  refine zr_iload_n (pc := 2) S dX12_isSort_2 rfl ?_
  refine zr_invV (pc := 3) S [zI _, zI _] (m_X12_is _) kX12_isSort_87 dX12_isSort_3 rfl (Nat.le_of_ble_eq_true rfl) rfl (Nat.le_of_ble_eq_true rfl) ⟨Nat.le_of_ble_eq_true rfl, Nat.le_of_ble_eq_true rfl⟩ (us_X12_is (by decide) (by decide) h2 ?_)
  dsimp only [zaft, Option.toList, List.cons_append, List.nil_append, Nat.add_zero]
  exact zr_zret (pc := 6) S dX12_isSort_6 rfl (by first | omega | exact b01_r) ⟨Nat.le_refl _, Nat.le_refl _⟩ (zqi hQ rfl)
def sp_X12_of (as : List zV) (M : zM) (Q : Option zV → zM → Prop) : Prop := ∃ (s w : Int), as = [zR 180, zI s, zI w] ∧ (0 ≤ s) ∧ (s < 8) ∧ (0 ≤ w) ∧ (w < 11) ∧ Q (some (zI (M 181 (15 + 11 * s.toNat + w.toNat)))) (M)
theorem us_X12_of {s w : Int} {M : zM} {Q : Option zV → zM → Prop} (h0 : 0 ≤ s) (h1 : s < 8) (h2 : 0 ≤ w) (h3 : w < 11) (h99 : Q (some (zI (M 181 (15 + 11 * s.toNat + w.toNat)))) (M)) : sp_X12_of [zR 180, zI s, zI w] M Q := ⟨s, w, rfl, h0, h1, h2, h3, h99⟩
set_option maxRecDepth 20000 in
set_option maxHeartbeats 4000000 in
theorem m_X12_of (l : Launch) : zC l yX12_of wzX12_of rmX12_of sp_X12_of := by
  refine zMet.of RX12 (by decide +kernel) rfl rfl ?_
  intro E X as M Qp hX S hsp
  obtain ⟨s, w, rfl, h0, h1, h2, h3, hQ⟩ := hsp
  refine ⟨Nat.le_of_ble_eq_true rfl, ?_⟩
  dsimp only [zpad, zargs]
  have e : (15 + 11 * s + w).toNat = 15 + 11 * s.toNat + w.toNat := by omega
  refine zr_aload_n (pc := 0) S dX12_of_0 rfl ?_
  refine zr_getR (pc := 1) S fX12_of_9 dX12_of_1 rfl (Nat.le_of_ble_eq_true rfl) rfl ?_
  refine zr_bipush (pc := 4) S dX12_of_4 ⟨by unfold zrI; omega, by decide⟩ ?_
  refine zr_bipush (pc := 6) S dX12_of_6 ⟨by unfold zrI; omega, by decide⟩ ?_
  refine zr_iload_n (pc := 8) S dX12_of_8 rfl ?_
  refine zr_imul (pc := 9) S dX12_of_9 (by unfold zrI; omega) ?_
  refine zr_iadd (pc := 10) S dX12_of_10 (by unfold zrI; omega) ?_
  refine zr_iload_n (pc := 11) S dX12_of_11 rfl ?_
  refine zr_iadd (pc := 12) S dX12_of_12 (by unfold zrI; omega) ?_
  refine zr_iaload (pc := 13) S dX12_of_13 rfl (Nat.le_of_ble_eq_true rfl) (by omega) (by omega) ?_
  rw [e]
  exact zr_iret (pc := 14) S dX12_of_14 rfl ⟨Nat.le_refl _, Nat.le_refl _⟩ (hQ)
def sp_X12_becomes (as : List zV) (M : zM) (Q : Option zV → zM → Prop) : Prop := ∃ (i v : Int), as = [zR 180, zI i, zI v] ∧ (0 ≤ i) ∧ (i < 615) ∧ Q (some (zI (M 181 i.toNat))) (zup M 181 i.toNat v)
theorem us_X12_becomes {i v : Int} {M : zM} {Q : Option zV → zM → Prop} (h0 : 0 ≤ i) (h1 : i < 615) (h99 : Q (some (zI (M 181 i.toNat))) (zup M 181 i.toNat v)) : sp_X12_becomes [zR 180, zI i, zI v] M Q := ⟨i, v, rfl, h0, h1, h99⟩
set_option maxRecDepth 20000 in
set_option maxHeartbeats 4000000 in
theorem m_X12_becomes (l : Launch) : zC l yX12_becomes wzX12_becomes rmX12_becomes sp_X12_becomes := by
  refine zMet.of RX12 (by decide +kernel) rfl rfl ?_
  intro E X as M Qp hX S hsp
  obtain ⟨i, v, rfl, h0, h1, hQ⟩ := hsp
  refine ⟨Nat.le_of_ble_eq_true rfl, ?_⟩
  dsimp only [zpad, zargs]
  refine zr_aload_n (pc := 0) S dX12_becomes_0 rfl ?_
  refine zr_getR (pc := 1) S fX12_becomes_9 dX12_becomes_1 rfl (Nat.le_of_ble_eq_true rfl) rfl ?_
  refine zr_iload_n (pc := 4) S dX12_becomes_4 rfl ?_
  refine zr_iaload (pc := 5) S dX12_becomes_5 rfl (Nat.le_of_ble_eq_true rfl) (by omega) (by omega) ?_
  refine zr_istore_n (pc := 6) S 3 dX12_becomes_6 rfl (by decide) ?_
  dsimp only [zst1, zst2, zset, zget, zlong]
  refine zr_aload_n (pc := 7) S dX12_becomes_7 rfl ?_
  refine zr_getR (pc := 8) S fX12_becomes_9 dX12_becomes_8 rfl (Nat.le_of_ble_eq_true rfl) rfl ?_
  refine zr_iload_n (pc := 11) S dX12_becomes_11 rfl ?_
  refine zr_iload_n (pc := 12) S dX12_becomes_12 rfl ?_
  refine zr_iastore (pc := 13) S dX12_becomes_13 rfl (Nat.le_of_ble_eq_true rfl) (by omega) (by omega) ?_
  refine zr_iload_n (pc := 14) S dX12_becomes_14 rfl ?_
  exact zr_iret (pc := 15) S dX12_becomes_15 rfl ⟨Nat.le_refl _, Nat.le_refl _⟩ (hQ)
def sp_X12_isGood (as : List zV) (M : zM) (Q : Option zV → zM → Prop) : Prop := ∃ (s : Int), as = [zR 180, zI s] ∧ (0 ≤ M 181 0) ∧ (M 181 0 ≤ 8) ∧ Q (some (zI (b01 (isGood (vm M) s)))) (M)
theorem us_X12_isGood {s : Int} {M : zM} {Q : Option zV → zM → Prop} (h2 : 0 ≤ M 181 0) (h3 : M 181 0 ≤ 8) (h99 : Q (some (zI (b01 (isGood (vm M) s)))) (M)) : sp_X12_isGood [zR 180, zI s] M Q := ⟨s, rfl, h2, h3, h99⟩
set_option maxRecDepth 20000 in
set_option maxHeartbeats 4000000 in
theorem m_X12_isGood (l : Launch) : zC l yX12_isGood wzX12_isGood rmX12_isGood sp_X12_isGood := by
  refine zMet.of RX12 (by decide +kernel) rfl rfl ?_
  intro E X as M Qp hX S hsp
  obtain ⟨s, rfl, h2, h3, hQ⟩ := hsp
  refine ⟨Nat.le_of_ble_eq_true rfl, ?_⟩
  dsimp only [zpad, zargs]
  have i0 : 15 + 11 * s.toNat + Int.toNat 0 = 15 + 11 * s.toNat := rfl
  have i1 : 15 + 11 * s.toNat + Int.toNat 1 = 16 + 11 * s.toNat := by omega
  have i2 : 15 + 11 * s.toNat + Int.toNat 2 = 17 + 11 * s.toNat := by omega
  have key : 0 ≤ s → s < M 181 0 → (isGood (vm M) s ↔ 0 < M 181 (15 + 11 * s.toNat) ∧ M 181 (16 + 11 * s.toNat) ≤ M 181 7 ∧ M 181 7 ≤ M 181 (17 + 11 * s.toNat)) := fun a b => by
    unfold isGood
    rw [vm_val (by omega), vm_fst (by omega), vm_lst (by omega), vm_many, vm_set (j := 0) (by omega)]
    exact ⟨fun z => z.2, fun z => ⟨⟨a, b⟩, z⟩⟩
  have kno : ¬ (0 ≤ s ∧ s ≤ M 181 0 - 1) → ¬ isGood (vm M) s := fun a z => a ⟨z.1.1, by have := z.1.2; rw [vm_many] at this; omega⟩
  refine zr_aload_n (pc := 0) S dX12_isGood_0 rfl ?_
  refine zr_iload_n (pc := 1) S dX12_isGood_1 rfl ?_
  refine zr_invV (pc := 2) S [zI _] (m_X12_isSort _) kX12_isGood_99 dX12_isGood_2 rfl (Nat.le_of_ble_eq_true rfl) rfl (Nat.le_of_ble_eq_true rfl) ⟨Nat.le_of_ble_eq_true rfl, Nat.le_of_ble_eq_true rfl⟩ (us_X12_isSort h2 ?_)
  dsimp only [zaft, Option.toList, List.cons_append, List.nil_append, Nat.add_zero]
  refine zr_if_eq (pc := 5) (tgt := 49) S dX12_isGood_5 (by decide) (fun c5 => ?_) (fun c5 => ?_)
  · rw [b01_0] at c5
    refine zr_iconst (pc := 49) S dX12_isGood_49 (by unfold zrI; omega) ?_
    exact zr_zret (pc := 50) S dX12_isGood_50 rfl (by first | omega | exact b01_r) ⟨Nat.le_refl _, Nat.le_refl _⟩ (zqi hQ (by first | exact (b01_f (kno c5)).symm | exact (b01_f (fun z => by have := (key (by omega) (by omega)).mp z; omega)).symm | exact (b01_t ((key (by omega) (by omega)).mpr ⟨c14, c42⟩)).symm))
  · rw [b01_0, Classical.not_not] at c5
    refine zr_aload_n (pc := 8) S dX12_isGood_8 rfl ?_
    refine zr_iload_n (pc := 9) S dX12_isGood_9 rfl ?_
    refine zr_iconst (pc := 10) S dX12_isGood_10 (by unfold zrI; omega) ?_
    refine zr_invV (pc := 11) S [zI _, zI _] (m_X12_of _) kX12_isGood_117 dX12_isGood_11 rfl (Nat.le_of_ble_eq_true rfl) rfl (Nat.le_of_ble_eq_true rfl) ⟨Nat.le_of_ble_eq_true rfl, Nat.le_of_ble_eq_true rfl⟩ (us_X12_of (by omega) (by omega) (by decide) (by decide) ?_)
    dsimp only [zaft, Option.toList, List.cons_append, List.nil_append, Nat.add_zero]
    rw [i0]
    refine zr_if_le (pc := 14) (tgt := 49) S dX12_isGood_14 (by decide) (fun c14 => ?_) (fun c14 => ?_)
    · refine zr_iconst (pc := 49) S dX12_isGood_49 (by unfold zrI; omega) ?_
      exact zr_zret (pc := 50) S dX12_isGood_50 rfl (by first | omega | exact b01_r) ⟨Nat.le_refl _, Nat.le_refl _⟩ (zqi hQ (by first | exact (b01_f (kno c5)).symm | exact (b01_f (fun z => by have := (key (by omega) (by omega)).mp z; omega)).symm | exact (b01_t ((key (by omega) (by omega)).mpr ⟨c14, c42⟩)).symm))
    · refine zr_aload_n (pc := 17) S dX12_isGood_17 rfl ?_
      refine zr_getR (pc := 18) S fX12_isGood_9 dX12_isGood_18 rfl (Nat.le_of_ble_eq_true rfl) rfl ?_
      refine zr_bipush (pc := 21) S dX12_isGood_21 ⟨by unfold zrI; omega, by decide⟩ ?_
      refine zr_iaload (pc := 23) S dX12_isGood_23 rfl (Nat.le_of_ble_eq_true rfl) (by omega) (by omega) ?_
      dsimp only [Int.reduceToNat]
      refine zr_i2l (pc := 24) S dX12_isGood_24 ?_
      refine zr_aload_n (pc := 25) S dX12_isGood_25 rfl ?_
      refine zr_iload_n (pc := 26) S dX12_isGood_26 rfl ?_
      refine zr_iconst (pc := 27) S dX12_isGood_27 (by unfold zrI; omega) ?_
      refine zr_invV (pc := 28) S [zI _, zI _] (m_X12_of _) kX12_isGood_117 dX12_isGood_28 rfl (Nat.le_of_ble_eq_true rfl) rfl (Nat.le_of_ble_eq_true rfl) ⟨Nat.le_of_ble_eq_true rfl, Nat.le_of_ble_eq_true rfl⟩ (us_X12_of (by omega) (by omega) (by decide) (by decide) ?_)
      dsimp only [zaft, Option.toList, List.cons_append, List.nil_append, Nat.add_zero]
      rw [i1]
      refine zr_i2l (pc := 31) S dX12_isGood_31 ?_
      refine zr_aload_n (pc := 32) S dX12_isGood_32 rfl ?_
      refine zr_iload_n (pc := 33) S dX12_isGood_33 rfl ?_
      refine zr_iconst (pc := 34) S dX12_isGood_34 (by unfold zrI; omega) ?_
      refine zr_invV (pc := 35) S [zI _, zI _] (m_X12_of _) kX12_isGood_117 dX12_isGood_35 rfl (Nat.le_of_ble_eq_true rfl) rfl (Nat.le_of_ble_eq_true rfl) ⟨Nat.le_of_ble_eq_true rfl, Nat.le_of_ble_eq_true rfl⟩ (us_X12_of (by omega) (by omega) (by decide) (by decide) ?_)
      dsimp only [zaft, Option.toList, List.cons_append, List.nil_append, Nat.add_zero]
      rw [i2]
      refine zr_i2l (pc := 38) S dX12_isGood_38 ?_
      refine zr_invS (pc := 39) S [zL _, zL _, zL _] (m_X12_within _) kX12_isGood_83 dX12_isGood_39 (Nat.le_of_ble_eq_true rfl) ⟨Nat.le_of_ble_eq_true rfl, Nat.le_of_ble_eq_true rfl⟩ (us_X12_within ?_)
      dsimp only [zaft, Option.toList, List.cons_append, List.nil_append, Nat.add_zero]
      refine zr_if_eq (pc := 42) (tgt := 49) S dX12_isGood_42 (by decide) (fun c42 => ?_) (fun c42 => ?_)
      · rw [b01_0] at c42
        refine zr_iconst (pc := 49) S dX12_isGood_49 (by unfold zrI; omega) ?_
        exact zr_zret (pc := 50) S dX12_isGood_50 rfl (by first | omega | exact b01_r) ⟨Nat.le_refl _, Nat.le_refl _⟩ (zqi hQ (by first | exact (b01_f (kno c5)).symm | exact (b01_f (fun z => by have := (key (by omega) (by omega)).mp z; omega)).symm | exact (b01_t ((key (by omega) (by omega)).mpr ⟨c14, c42⟩)).symm))
      · rw [b01_0, Classical.not_not] at c42
        refine zr_iconst (pc := 45) S dX12_isGood_45 (by unfold zrI; omega) ?_
        refine zr_goto (pc := 46) (tgt := 50) S dX12_isGood_46 (by decide) ?_
        exact zr_zret (pc := 50) S dX12_isGood_50 rfl (by first | omega | exact b01_r) ⟨Nat.le_refl _, Nat.le_refl _⟩ (zqi hQ (by first | exact (b01_f (kno c5)).symm | exact (b01_f (fun z => by have := (key (by omega) (by omega)).mp z; omega)).symm | exact (b01_t ((key (by omega) (by omega)).mpr ⟨c14, c42⟩)).symm))
def sp_X12_valueOf (as : List zV) (M : zM) (Q : Option zV → zM → Prop) : Prop := ∃ (s : Int), as = [zR 180, zI s] ∧ (0 ≤ M 181 0) ∧ (M 181 0 ≤ 8) ∧ Q (some (zI (worth (vm M) s))) (M)
theorem us_X12_valueOf {s : Int} {M : zM} {Q : Option zV → zM → Prop} (h2 : 0 ≤ M 181 0) (h3 : M 181 0 ≤ 8) (h99 : Q (some (zI (worth (vm M) s))) (M)) : sp_X12_valueOf [zR 180, zI s] M Q := ⟨s, rfl, h2, h3, h99⟩
set_option maxRecDepth 20000 in
set_option maxHeartbeats 4000000 in
theorem m_X12_valueOf (l : Launch) : zC l yX12_valueOf wzX12_valueOf rmX12_valueOf sp_X12_valueOf := by
  refine zMet.of RX12 (by decide +kernel) rfl rfl ?_
  intro E X as M Qp hX S hsp
  obtain ⟨s, rfl, h2, h3, hQ⟩ := hsp
  refine ⟨Nat.le_of_ble_eq_true rfl, ?_⟩
  dsimp only [zpad, zargs]
  have i0 : 15 + 11 * s.toNat + Int.toNat 0 = 15 + 11 * s.toNat := rfl
  have w1 : isGood (vm M) s → worth (vm M) s = M 181 (15 + 11 * s.toNat) := fun h => by unfold worth; rw [if_pos h]; have := h.1; rw [vm_many] at this; rw [vm_val (by omega)]
  have w0 : ¬ isGood (vm M) s → worth (vm M) s = 0 := fun h => by unfold worth; rw [if_neg h]
  refine zr_aload_n (pc := 0) S dX12_valueOf_0 rfl ?_
  refine zr_iload_n (pc := 1) S dX12_valueOf_1 rfl ?_
  refine zr_invV (pc := 2) S [zI _] (m_X12_isGood _) kX12_valueOf_120 dX12_valueOf_2 rfl (Nat.le_of_ble_eq_true rfl) rfl (Nat.le_of_ble_eq_true rfl) ⟨Nat.le_of_ble_eq_true rfl, Nat.le_of_ble_eq_true rfl⟩ (us_X12_isGood h2 h3 ?_)
  dsimp only [zaft, Option.toList, List.cons_append, List.nil_append, Nat.add_zero]
  refine zr_if_eq (pc := 5) (tgt := 17) S dX12_valueOf_5 (by decide) (fun c5 => ?_) (fun c5 => ?_)
  · rw [b01_0] at c5
    rw [w0 c5] at hQ
    refine zr_iconst (pc := 17) S dX12_valueOf_17 (by unfold zrI; omega) ?_
    exact zr_iret (pc := 18) S dX12_valueOf_18 rfl ⟨Nat.le_refl _, Nat.le_refl _⟩ (hQ)
  · rw [b01_0, Classical.not_not] at c5
    rw [w1 c5] at hQ
    have gs : 0 ≤ s ∧ s < M 181 0 := by have := c5.1; rw [vm_many] at this; exact this
    refine zr_aload_n (pc := 8) S dX12_valueOf_8 rfl ?_
    refine zr_iload_n (pc := 9) S dX12_valueOf_9 rfl ?_
    refine zr_iconst (pc := 10) S dX12_valueOf_10 (by unfold zrI; omega) ?_
    refine zr_invV (pc := 11) S [zI _, zI _] (m_X12_of _) kX12_valueOf_117 dX12_valueOf_11 rfl (Nat.le_of_ble_eq_true rfl) rfl (Nat.le_of_ble_eq_true rfl) ⟨Nat.le_of_ble_eq_true rfl, Nat.le_of_ble_eq_true rfl⟩ (us_X12_of (by omega) (by omega) (by decide) (by decide) ?_)
    dsimp only [zaft, Option.toList, List.cons_append, List.nil_append, Nat.add_zero]
    rw [i0]
    refine zr_goto (pc := 14) (tgt := 18) S dX12_valueOf_14 (by decide) ?_
    exact zr_iret (pc := 18) S dX12_valueOf_18 rfl ⟨Nat.le_refl _, Nat.le_refl _⟩ (hQ)
def endM (M : zM) (s m e : Int) : Int := if e = 0 then lowOf M s m else highOf M s m
theorem vm_low {M : zM} {k m : Int} (h0 : 0 ≤ k) (h1 : k < 8) (h2 : 0 ≤ m) (h3 : m < 3) : vm M 7 (k * 3 + m).toNat = M 181 (18 + 11 * k.toNat + 2 * m.toNat) ∧ vm M 8 (k * 3 + m).toNat = M 181 (19 + 11 * k.toNat + 2 * m.toNat) := by
  have e1 : (k * 3 + m).toNat / 3 = k.toNat := by omega
  have e2 : (k * 3 + m).toNat % 3 = m.toNat := by omega
  refine ⟨?_, ?_⟩
  · show (if (k * 3 + m).toNat < 24 then M 181 (18 + 11 * ((k * 3 + m).toNat / 3) + 2 * ((k * 3 + m).toNat % 3)) else _) = _
    rw [if_pos (by omega), e1, e2]
  · show (if (k * 3 + m).toNat < 24 then M 181 (19 + 11 * ((k * 3 + m).toNat / 3) + 2 * ((k * 3 + m).toNat % 3)) else _) = _
    rw [if_pos (by omega), e1, e2]
def sp_X12_endOf (as : List zV) (M : zM) (Q : Option zV → zM → Prop) : Prop := ∃ (s m e : Int), as = [zR 180, zI s, zI m, zI e] ∧ (ICs (vm M)) ∧ (0 ≤ s) ∧ (s < 8) ∧ (0 ≤ m) ∧ (m < 3) ∧ (e = 0 ∨ e = 1) ∧ Q (some (zI (endM (vm M) s m e))) (M)
theorem us_X12_endOf {s m e : Int} {M : zM} {Q : Option zV → zM → Prop} (hI : ICs (vm M)) (h0 : 0 ≤ s) (h1 : s < 8) (h2 : 0 ≤ m) (h3 : m < 3) (h4 : e = 0 ∨ e = 1) (h99 : Q (some (zI (endM (vm M) s m e))) (M)) : sp_X12_endOf [zR 180, zI s, zI m, zI e] M Q := ⟨s, m, e, rfl, hI, h0, h1, h2, h3, h4, h99⟩
set_option maxRecDepth 20000 in
set_option maxHeartbeats 4000000 in
theorem m_X12_endOf (l : Launch) : zC l yX12_endOf wzX12_endOf rmX12_endOf sp_X12_endOf := by
  refine zMet.of RX12 (by decide +kernel) rfl rfl ?_
  intro E X as M Qp hX S hsp
  obtain ⟨s, m, e, rfl, hI, h0, h1, h2, h3, h4, hQ⟩ := hsp
  refine ⟨Nat.le_of_ble_eq_true rfl, ?_⟩
  dsimp only [zpad, zargs]
  have a := hI.s (j := s * 3 + m) (by omega) (by omega)
  have b := worn_r hI h0 h1
  have v := hI.v h0 h1
  have t := hI.2.1
  have p := zmulr v.2.2.1 v.2.2.2.1 t.2.2.1 t.2.2.2.1
  have vl := vm_low (M := M) h0 h1 h2 h3
  have ew : M 181 (15 + 11 * s.toNat + Int.toNat 9) = vm M 9 s.toNat := by
    rw [vm_wear (by omega)]
    congr 1
    omega
  have ea : M 181 8 = vm M 3 1 := rfl
  have ev : worn (vm M) s = vm M 9 s.toNat * vm M 3 1 / 10 := rfl
  rcases h4 with rfl | rfl
  · have e1 : M 181 (15 + 11 * s.toNat + (3 + 2 * m + 0).toNat) = vm M 7 (s * 3 + m).toNat := by
      rw [vl.1]
      congr 1
      omega
    have l0 : m = 0 → endM (vm M) s m 0 = max 0 (vm M 7 (s * 3 + m).toNat - worn (vm M) s) := fun h => by unfold endM lowOf; rw [if_pos rfl, if_pos h]
    have l1 : ¬ m = 0 → endM (vm M) s m 0 = vm M 7 (s * 3 + m).toNat := fun h => by unfold endM lowOf; rw [if_pos rfl, if_neg h]
    refine zr_aload_n (pc := 0) S dX12_endOf_0 rfl ?_
    refine zr_iload_n (pc := 1) S dX12_endOf_1 rfl ?_
    refine zr_iconst (pc := 2) S dX12_endOf_2 (by unfold zrI; omega) ?_
    refine zr_iconst (pc := 3) S dX12_endOf_3 (by unfold zrI; omega) ?_
    refine zr_iload_n (pc := 4) S dX12_endOf_4 rfl ?_
    refine zr_imul (pc := 5) S dX12_endOf_5 (by unfold zrI; omega) ?_
    refine zr_iadd (pc := 6) S dX12_endOf_6 (by unfold zrI; omega) ?_
    refine zr_iload_n (pc := 7) S dX12_endOf_7 rfl ?_
    refine zr_iadd (pc := 8) S dX12_endOf_8 (by unfold zrI; omega) ?_
    refine zr_invV (pc := 9) S [zI _, zI _] (m_X12_of _) kX12_endOf_117 dX12_endOf_9 rfl (Nat.le_of_ble_eq_true rfl) rfl (Nat.le_of_ble_eq_true rfl) ⟨Nat.le_of_ble_eq_true rfl, Nat.le_of_ble_eq_true rfl⟩ (us_X12_of h0 h1 (by omega) (by omega) ?_)
    dsimp only [zaft, Option.toList, List.cons_append, List.nil_append, Nat.add_zero]
    rw [e1]
    refine zr_istore (pc := 12) S dX12_endOf_12 (by decide) ?_
    dsimp only [zst1, zst2, zset, zget, zlong]
    refine zr_iload_n (pc := 14) S dX12_endOf_14 rfl ?_
    refine zr_if_le (pc := 15) (tgt := 23) S dX12_endOf_15 (by decide) (fun c15 => ?_) (fun c15 => ?_)
    · rw [l0 (by omega)] at hQ
      refine zr_iconst (pc := 23) S dX12_endOf_23 (by unfold zrI; omega) ?_
      refine zr_iload (pc := 24) S dX12_endOf_24 rfl ?_
      refine zr_aload_n (pc := 26) S dX12_endOf_26 rfl ?_
      refine zr_iload_n (pc := 27) S dX12_endOf_27 rfl ?_
      refine zr_bipush (pc := 28) S dX12_endOf_28 ⟨by unfold zrI; omega, by decide⟩ ?_
      refine zr_invV (pc := 30) S [zI _, zI _] (m_X12_of _) kX12_endOf_117 dX12_endOf_30 rfl (Nat.le_of_ble_eq_true rfl) rfl (Nat.le_of_ble_eq_true rfl) ⟨Nat.le_of_ble_eq_true rfl, Nat.le_of_ble_eq_true rfl⟩ (us_X12_of h0 h1 (by decide) (by decide) ?_)
      dsimp only [zaft, Option.toList, List.cons_append, List.nil_append, Nat.add_zero]
      rw [ew]
      refine zr_aload_n (pc := 33) S dX12_endOf_33 rfl ?_
      refine zr_getR (pc := 34) S fX12_endOf_9 dX12_endOf_34 rfl (Nat.le_of_ble_eq_true rfl) rfl ?_
      refine zr_bipush (pc := 37) S dX12_endOf_37 ⟨by unfold zrI; omega, by decide⟩ ?_
      refine zr_iaload (pc := 39) S dX12_endOf_39 rfl (Nat.le_of_ble_eq_true rfl) (by omega) (by omega) ?_
      dsimp only [Int.reduceToNat]
      rw [ea]
      refine zr_imul (pc := 40) S dX12_endOf_40 (by unfold zrI; omega) ?_
      refine zr_bipush (pc := 41) S dX12_endOf_41 ⟨by unfold zrI; omega, by decide⟩ ?_
      refine zr_idiv (pc := 43) S dX12_endOf_43 p.1 (by decide) ?_
      rw [← ev]
      refine zr_isub (pc := 44) S dX12_endOf_44 (by unfold zrI; omega) ?_
      refine zr_mmax (pc := 45) S kX12_endOf_123 dX12_endOf_45 (Nat.le_of_ble_eq_true rfl) (Nat.le_of_ble_eq_true rfl) ⟨Nat.le_of_ble_eq_true rfl, Nat.le_of_ble_eq_true rfl⟩ ?_
      exact zr_iret (pc := 48) S dX12_endOf_48 rfl ⟨Nat.le_refl _, Nat.le_refl _⟩ (hQ)
    · rw [l1 (by omega)] at hQ
      refine zr_iload (pc := 18) S dX12_endOf_18 rfl ?_
      refine zr_goto (pc := 20) (tgt := 48) S dX12_endOf_20 (by decide) ?_
      exact zr_iret (pc := 48) S dX12_endOf_48 rfl ⟨Nat.le_refl _, Nat.le_refl _⟩ (hQ)
  · have e1 : M 181 (15 + 11 * s.toNat + (3 + 2 * m + 1).toNat) = vm M 8 (s * 3 + m).toNat := by
      rw [vl.2]
      congr 1
      omega
    have l0 : m = 0 → endM (vm M) s m 1 = max 0 (vm M 8 (s * 3 + m).toNat - worn (vm M) s) := fun h => by unfold endM highOf; rw [if_neg (by decide), if_pos h]
    have l1 : ¬ m = 0 → endM (vm M) s m 1 = vm M 8 (s * 3 + m).toNat := fun h => by unfold endM highOf; rw [if_neg (by decide), if_neg h]
    refine zr_aload_n (pc := 0) S dX12_endOf_0 rfl ?_
    refine zr_iload_n (pc := 1) S dX12_endOf_1 rfl ?_
    refine zr_iconst (pc := 2) S dX12_endOf_2 (by unfold zrI; omega) ?_
    refine zr_iconst (pc := 3) S dX12_endOf_3 (by unfold zrI; omega) ?_
    refine zr_iload_n (pc := 4) S dX12_endOf_4 rfl ?_
    refine zr_imul (pc := 5) S dX12_endOf_5 (by unfold zrI; omega) ?_
    refine zr_iadd (pc := 6) S dX12_endOf_6 (by unfold zrI; omega) ?_
    refine zr_iload_n (pc := 7) S dX12_endOf_7 rfl ?_
    refine zr_iadd (pc := 8) S dX12_endOf_8 (by unfold zrI; omega) ?_
    refine zr_invV (pc := 9) S [zI _, zI _] (m_X12_of _) kX12_endOf_117 dX12_endOf_9 rfl (Nat.le_of_ble_eq_true rfl) rfl (Nat.le_of_ble_eq_true rfl) ⟨Nat.le_of_ble_eq_true rfl, Nat.le_of_ble_eq_true rfl⟩ (us_X12_of h0 h1 (by omega) (by omega) ?_)
    dsimp only [zaft, Option.toList, List.cons_append, List.nil_append, Nat.add_zero]
    rw [e1]
    refine zr_istore (pc := 12) S dX12_endOf_12 (by decide) ?_
    dsimp only [zst1, zst2, zset, zget, zlong]
    refine zr_iload_n (pc := 14) S dX12_endOf_14 rfl ?_
    refine zr_if_le (pc := 15) (tgt := 23) S dX12_endOf_15 (by decide) (fun c15 => ?_) (fun c15 => ?_)
    · rw [l0 (by omega)] at hQ
      refine zr_iconst (pc := 23) S dX12_endOf_23 (by unfold zrI; omega) ?_
      refine zr_iload (pc := 24) S dX12_endOf_24 rfl ?_
      refine zr_aload_n (pc := 26) S dX12_endOf_26 rfl ?_
      refine zr_iload_n (pc := 27) S dX12_endOf_27 rfl ?_
      refine zr_bipush (pc := 28) S dX12_endOf_28 ⟨by unfold zrI; omega, by decide⟩ ?_
      refine zr_invV (pc := 30) S [zI _, zI _] (m_X12_of _) kX12_endOf_117 dX12_endOf_30 rfl (Nat.le_of_ble_eq_true rfl) rfl (Nat.le_of_ble_eq_true rfl) ⟨Nat.le_of_ble_eq_true rfl, Nat.le_of_ble_eq_true rfl⟩ (us_X12_of h0 h1 (by decide) (by decide) ?_)
      dsimp only [zaft, Option.toList, List.cons_append, List.nil_append, Nat.add_zero]
      rw [ew]
      refine zr_aload_n (pc := 33) S dX12_endOf_33 rfl ?_
      refine zr_getR (pc := 34) S fX12_endOf_9 dX12_endOf_34 rfl (Nat.le_of_ble_eq_true rfl) rfl ?_
      refine zr_bipush (pc := 37) S dX12_endOf_37 ⟨by unfold zrI; omega, by decide⟩ ?_
      refine zr_iaload (pc := 39) S dX12_endOf_39 rfl (Nat.le_of_ble_eq_true rfl) (by omega) (by omega) ?_
      dsimp only [Int.reduceToNat]
      rw [ea]
      refine zr_imul (pc := 40) S dX12_endOf_40 (by unfold zrI; omega) ?_
      refine zr_bipush (pc := 41) S dX12_endOf_41 ⟨by unfold zrI; omega, by decide⟩ ?_
      refine zr_idiv (pc := 43) S dX12_endOf_43 p.1 (by decide) ?_
      rw [← ev]
      refine zr_isub (pc := 44) S dX12_endOf_44 (by unfold zrI; omega) ?_
      refine zr_mmax (pc := 45) S kX12_endOf_123 dX12_endOf_45 (Nat.le_of_ble_eq_true rfl) (Nat.le_of_ble_eq_true rfl) ⟨Nat.le_of_ble_eq_true rfl, Nat.le_of_ble_eq_true rfl⟩ ?_
      exact zr_iret (pc := 48) S dX12_endOf_48 rfl ⟨Nat.le_refl _, Nat.le_refl _⟩ (hQ)
    · rw [l1 (by omega)] at hQ
      refine zr_iload (pc := 18) S dX12_endOf_18 rfl ?_
      refine zr_goto (pc := 20) (tgt := 48) S dX12_endOf_20 (by decide) ?_
      exact zr_iret (pc := 48) S dX12_endOf_48 rfl ⟨Nat.le_refl _, Nat.le_refl _⟩ (hQ)
end
