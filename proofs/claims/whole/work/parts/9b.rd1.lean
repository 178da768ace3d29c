section
/-- the class's tape, read as the reference's -/
def cT (M : zM) : Nat → Int := fun p => M 40 p % 256
theorem byt {E : zE} {M : zM} (h : zokM (zg E).1 M) (p : Nat) : -128 ≤ M 40 p ∧ M 40 p < 128 := h 40 p
def rmX4_hasRoom : Room := { frames := 0, cells := 0, slots := 0, locals := 0 }
abbrev wzX4_hasRoom : List Cond := .code yX4_hasRoom cX4_hasRoom 1 (some .boolean) :: zW
def rmX4_append : Room := { frames := 0, cells := 0, slots := 0, locals := 0 }
abbrev wzX4_append : List Cond := .code yX4_append cX4_append 3 none :: zW
def rmX4_blame : Room := { frames := 0, cells := 0, slots := 0, locals := 0 }
abbrev wzX4_blame : List Cond := .code yX4_blame cX4_blame 2 (some .boolean) :: zW
def rmX4_isLetter : Room := { frames := 0, cells := 0, slots := 0, locals := 0 }
abbrev wzX4_isLetter : List Cond := .code yX4_isLetter cX4_isLetter 2 (some .boolean) :: zW
def rmX4_isDigit : Room := { frames := 0, cells := 0, slots := 0, locals := 0 }
abbrev wzX4_isDigit : List Cond := .code yX4_isDigit cX4_isDigit 2 (some .boolean) :: zW
def rmX4_readNumber : Room := { frames := 1, cells := 0, slots := 0, locals := 21 }
abbrev wzX4_readNumber : List Cond := .code yX4_readNumber cX4_readNumber 1 none :: zW
def rmX4_advance : Room := { frames := 2, cells := 0, slots := 0, locals := 41 }
abbrev wzX4_advance : List Cond := .code yX4_advance cX4_advance 1 none :: zW
def rmX4_isWord : Room := { frames := 4, cells := 0, slots := 0, locals := 85 }
abbrev wzX4_isWord : List Cond := .code yX4_isWord cX4_isWord 3 (some .boolean) :: zW
def rmX4_passWord : Room := { frames := 5, cells := 0, slots := 0, locals := 107 }
abbrev wzX4_passWord : List Cond := .code yX4_passWord cX4_passWord 2 (some .boolean) :: zW
theorem fX4_hasRoom_26 : zfl wzX4_hasRoom RX4 vwCl 26 4 1 := ⟨_, _, _, rfl, (fun w h => List.mem_cons_of_mem _ (zWuX4 w h)), by decide, List.mem_cons_of_mem _ (zWi_10 _ (List.mem_of_getElem? (i := 13) rfl))⟩
theorem fX4_append_26 : zfl wzX4_append RX4 vwCl 26 4 1 := ⟨_, _, _, rfl, (fun w h => List.mem_cons_of_mem _ (zWuX4 w h)), by decide, List.mem_cons_of_mem _ (zWi_10 _ (List.mem_of_getElem? (i := 13) rfl))⟩
theorem fX4_append_9 : zfl wzX4_append RX4 vwCl 9 4 0 := ⟨_, _, _, rfl, (fun w h => List.mem_cons_of_mem _ (zWuX4 w h)), by decide, List.mem_cons_of_mem _ (zWi_10 _ (List.mem_of_getElem? (i := 21) rfl))⟩
theorem pX4_append_26 : zfp wzX4_append RX4 vwCl 26 4 1 := ⟨_, _, _, _, rfl, (fun w h => List.mem_cons_of_mem _ (zWuX4 w h)), by decide, List.mem_cons_of_mem _ (zWi_10 _ (List.mem_of_getElem? (i := 13) rfl)), tyX4_ok, nmX4, rfl, by decide +kernel⟩
theorem fX4_blame_50 : zfl wzX4_blame RX4 vwCl 50 4 6 := ⟨_, _, _, rfl, (fun w h => List.mem_cons_of_mem _ (zWuX4 w h)), by decide, List.mem_cons_of_mem _ (zWi_10 _ (List.mem_of_getElem? (i := 18) rfl))⟩
theorem pX4_blame_41 : zfp wzX4_blame RX4 vwCl 41 4 2 := ⟨_, _, _, _, rfl, (fun w h => List.mem_cons_of_mem _ (zWuX4 w h)), by decide, List.mem_cons_of_mem _ (zWi_10 _ (List.mem_of_getElem? (i := 16) rfl)), tyX4_ok, nmX4, rfl, by decide +kernel⟩
theorem fX4_blame_115 : zfl wzX4_blame RX4 vwCl 115 4 7 := ⟨_, _, _, rfl, (fun w h => List.mem_cons_of_mem _ (zWuX4 w h)), by decide, List.mem_cons_of_mem _ (zWi_10 _ (List.mem_of_getElem? (i := 10) rfl))⟩
theorem pX4_blame_15 : zfp wzX4_blame RX4 vwCl 15 4 3 := ⟨_, _, _, _, rfl, (fun w h => List.mem_cons_of_mem _ (zWuX4 w h)), by decide, List.mem_cons_of_mem _ (zWi_10 _ (List.mem_of_getElem? (i := 11) rfl)), tyX4_ok, nmX4, rfl, by decide +kernel⟩
theorem fX4_isLetter_9 : zfl wzX4_isLetter RX4 vwCl 9 4 0 := ⟨_, _, _, rfl, (fun w h => List.mem_cons_of_mem _ (zWuX4 w h)), by decide, List.mem_cons_of_mem _ (zWi_10 _ (List.mem_of_getElem? (i := 21) rfl))⟩
theorem fX4_isDigit_9 : zfl wzX4_isDigit RX4 vwCl 9 4 0 := ⟨_, _, _, rfl, (fun w h => List.mem_cons_of_mem _ (zWuX4 w h)), by decide, List.mem_cons_of_mem _ (zWi_10 _ (List.mem_of_getElem? (i := 21) rfl))⟩
theorem pX4_readNumber_101 : zfp wzX4_readNumber RX4 vwCl 101 4 9 := ⟨_, _, _, _, rfl, (fun w h => List.mem_cons_of_mem _ (zWuX4 w h)), by decide, List.mem_cons_of_mem _ (zWi_10 _ (List.mem_of_getElem? (i := 8) rfl)), tyX4_ok, nmX4, rfl, by decide +kernel⟩
theorem fX4_readNumber_38 : zfl wzX4_readNumber RX4 vwCl 38 4 8 := ⟨_, _, _, rfl, (fun w h => List.mem_cons_of_mem _ (zWuX4 w h)), by decide, List.mem_cons_of_mem _ (zWi_10 _ (List.mem_of_getElem? (i := 15) rfl))⟩
theorem fX4_readNumber_35 : zfl wzX4_readNumber RX4 vwCl 35 4 5 := ⟨_, _, _, rfl, (fun w h => List.mem_cons_of_mem _ (zWuX4 w h)), by decide, List.mem_cons_of_mem _ (zWi_10 _ (List.mem_of_getElem? (i := 14) rfl))⟩
theorem fX4_readNumber_101 : zfl wzX4_readNumber RX4 vwCl 101 4 9 := ⟨_, _, _, rfl, (fun w h => List.mem_cons_of_mem _ (zWuX4 w h)), by decide, List.mem_cons_of_mem _ (zWi_10 _ (List.mem_of_getElem? (i := 8) rfl))⟩
theorem fX4_readNumber_9 : zfl wzX4_readNumber RX4 vwCl 9 4 0 := ⟨_, _, _, rfl, (fun w h => List.mem_cons_of_mem _ (zWuX4 w h)), by decide, List.mem_cons_of_mem _ (zWi_10 _ (List.mem_of_getElem? (i := 21) rfl))⟩
theorem pX4_readNumber_38 : zfp wzX4_readNumber RX4 vwCl 38 4 8 := ⟨_, _, _, _, rfl, (fun w h => List.mem_cons_of_mem _ (zWuX4 w h)), by decide, List.mem_cons_of_mem _ (zWi_10 _ (List.mem_of_getElem? (i := 15) rfl)), tyX4_ok, nmX4, rfl, by decide +kernel⟩
theorem fX4_readNumber_115 : zfl wzX4_readNumber RX4 vwCl 115 4 7 := ⟨_, _, _, rfl, (fun w h => List.mem_cons_of_mem _ (zWuX4 w h)), by decide, List.mem_cons_of_mem _ (zWi_10 _ (List.mem_of_getElem? (i := 10) rfl))⟩
theorem pX4_readNumber_50 : zfp wzX4_readNumber RX4 vwCl 50 4 6 := ⟨_, _, _, _, rfl, (fun w h => List.mem_cons_of_mem _ (zWuX4 w h)), by decide, List.mem_cons_of_mem _ (zWi_10 _ (List.mem_of_getElem? (i := 18) rfl)), tyX4_ok, nmX4, rfl, by decide +kernel⟩
theorem kX4_readNumber_130 : ∀ (s9 : State) (a9 : Array Value), (∀ w ∈ wzX4_readNumber, w.before a9 s9 = true) → CallW rmX4_readNumber s9 a9 RX4 RX4 130 yX4_isDigit cX4_isDigit 2 (some .boolean) wzX4_isDigit rmX4_isDigit 0 0 1 := zcV (zWi_23 _ (List.mem_of_getElem? (i := 43) rfl)) (zWi_16 _ (List.mem_of_getElem? (i := 9) rfl)) (zWi_28 _ (List.mem_of_getElem? (i := 38) rfl)) (zWi_12 _ (List.mem_of_getElem? (i := 16) rfl)) (zWi_4 _ (List.mem_of_getElem? (i := 43) rfl)) (by decide +kernel) rfl rfl ⟨Nat.le_of_ble_eq_true rfl, Nat.le_of_ble_eq_true rfl⟩
theorem fX4_advance_38 : zfl wzX4_advance RX4 vwCl 38 4 8 := ⟨_, _, _, rfl, (fun w h => List.mem_cons_of_mem _ (zWuX4 w h)), by decide, List.mem_cons_of_mem _ (zWi_10 _ (List.mem_of_getElem? (i := 15) rfl))⟩
theorem pX4_advance_115 : zfp wzX4_advance RX4 vwCl 115 4 7 := ⟨_, _, _, _, rfl, (fun w h => List.mem_cons_of_mem _ (zWuX4 w h)), by decide, List.mem_cons_of_mem _ (zWi_10 _ (List.mem_of_getElem? (i := 10) rfl)), tyX4_ok, nmX4, rfl, by decide +kernel⟩
theorem fX4_advance_115 : zfl wzX4_advance RX4 vwCl 115 4 7 := ⟨_, _, _, rfl, (fun w h => List.mem_cons_of_mem _ (zWuX4 w h)), by decide, List.mem_cons_of_mem _ (zWi_10 _ (List.mem_of_getElem? (i := 10) rfl))⟩
theorem fX4_advance_35 : zfl wzX4_advance RX4 vwCl 35 4 5 := ⟨_, _, _, rfl, (fun w h => List.mem_cons_of_mem _ (zWuX4 w h)), by decide, List.mem_cons_of_mem _ (zWi_10 _ (List.mem_of_getElem? (i := 14) rfl))⟩
theorem fX4_advance_9 : zfl wzX4_advance RX4 vwCl 9 4 0 := ⟨_, _, _, rfl, (fun w h => List.mem_cons_of_mem _ (zWuX4 w h)), by decide, List.mem_cons_of_mem _ (zWi_10 _ (List.mem_of_getElem? (i := 21) rfl))⟩
theorem pX4_advance_38 : zfp wzX4_advance RX4 vwCl 38 4 8 := ⟨_, _, _, _, rfl, (fun w h => List.mem_cons_of_mem _ (zWuX4 w h)), by decide, List.mem_cons_of_mem _ (zWi_10 _ (List.mem_of_getElem? (i := 15) rfl)), tyX4_ok, nmX4, rfl, by decide +kernel⟩
theorem pX4_advance_50 : zfp wzX4_advance RX4 vwCl 50 4 6 := ⟨_, _, _, _, rfl, (fun w h => List.mem_cons_of_mem _ (zWuX4 w h)), by decide, List.mem_cons_of_mem _ (zWi_10 _ (List.mem_of_getElem? (i := 18) rfl)), tyX4_ok, nmX4, rfl, by decide +kernel⟩
theorem kX4_advance_127 : ∀ (s9 : State) (a9 : Array Value), (∀ w ∈ wzX4_advance, w.before a9 s9 = true) → CallW rmX4_advance s9 a9 RX4 RX4 127 yX4_isLetter cX4_isLetter 2 (some .boolean) wzX4_isLetter rmX4_isLetter 0 0 1 := zcV (zWi_23 _ (List.mem_of_getElem? (i := 42) rfl)) (zWi_16 _ (List.mem_of_getElem? (i := 10) rfl)) (zWi_28 _ (List.mem_of_getElem? (i := 39) rfl)) (zWi_12 _ (List.mem_of_getElem? (i := 16) rfl)) (zWi_4 _ (List.mem_of_getElem? (i := 44) rfl)) (by decide +kernel) rfl rfl ⟨Nat.le_of_ble_eq_true rfl, Nat.le_of_ble_eq_true rfl⟩
theorem kX4_advance_130 : ∀ (s9 : State) (a9 : Array Value), (∀ w ∈ wzX4_advance, w.before a9 s9 = true) → CallW rmX4_advance s9 a9 RX4 RX4 130 yX4_isDigit cX4_isDigit 2 (some .boolean) wzX4_isDigit rmX4_isDigit 0 0 1 := zcV (zWi_23 _ (List.mem_of_getElem? (i := 43) rfl)) (zWi_16 _ (List.mem_of_getElem? (i := 9) rfl)) (zWi_28 _ (List.mem_of_getElem? (i := 38) rfl)) (zWi_12 _ (List.mem_of_getElem? (i := 16) rfl)) (zWi_4 _ (List.mem_of_getElem? (i := 43) rfl)) (by decide +kernel) rfl rfl ⟨Nat.le_of_ble_eq_true rfl, Nat.le_of_ble_eq_true rfl⟩
theorem kX4_advance_133 : ∀ (s9 : State) (a9 : Array Value), (∀ w ∈ wzX4_advance, w.before a9 s9 = true) → CallW rmX4_advance s9 a9 RX4 RX4 133 yX4_readNumber cX4_readNumber 1 none wzX4_readNumber rmX4_readNumber 0 0 0 := zcV (zWi_23 _ (List.mem_of_getElem? (i := 44) rfl)) (zWi_16 _ (List.mem_of_getElem? (i := 18) rfl)) (zWi_28 _ (List.mem_of_getElem? (i := 47) rfl)) (zWi_12 _ (List.mem_of_getElem? (i := 16) rfl)) (zWi_5 _ (List.mem_of_getElem? (i := 2) rfl)) (by decide +kernel) rfl rfl ⟨Nat.le_of_ble_eq_true rfl, Nat.le_of_ble_eq_true rfl⟩
theorem fX4_isWord_50 : zfl wzX4_isWord RX4 vwCl 50 4 6 := ⟨_, _, _, rfl, (fun w h => List.mem_cons_of_mem _ (zWuX4 w h)), by decide, List.mem_cons_of_mem _ (zWi_10 _ (List.mem_of_getElem? (i := 18) rfl))⟩
theorem fX4_isWord_38 : zfl wzX4_isWord RX4 vwCl 38 4 8 := ⟨_, _, _, rfl, (fun w h => List.mem_cons_of_mem _ (zWuX4 w h)), by decide, List.mem_cons_of_mem _ (zWi_10 _ (List.mem_of_getElem? (i := 15) rfl))⟩
theorem fX4_isWord_115 : zfl wzX4_isWord RX4 vwCl 115 4 7 := ⟨_, _, _, rfl, (fun w h => List.mem_cons_of_mem _ (zWuX4 w h)), by decide, List.mem_cons_of_mem _ (zWi_10 _ (List.mem_of_getElem? (i := 10) rfl))⟩
theorem fX4_isWord_9 : zfl wzX4_isWord RX4 vwCl 9 4 0 := ⟨_, _, _, rfl, (fun w h => List.mem_cons_of_mem _ (zWuX4 w h)), by decide, List.mem_cons_of_mem _ (zWi_10 _ (List.mem_of_getElem? (i := 21) rfl))⟩
theorem kX4_isWord_118 : ∀ (s9 : State) (a9 : Array Value), (∀ w ∈ wzX4_isWord, w.before a9 s9 = true) → CallW rmX4_isWord s9 a9 RX4 RJ0 118 yJ0_length_8abf5 cJ0_length_8abf5 1 (some .int) wzJ0_length_8abf5 rmJ0_length_8abf5 0 0 0 := zcV (zWi_23 _ (List.mem_of_getElem? (i := 40) rfl)) (zWi_12 _ (List.mem_of_getElem? (i := 26) rfl)) (zWi_25 _ (List.mem_of_getElem? (i := 13) rfl)) (zWi_12 _ (List.mem_of_getElem? (i := 3) rfl)) (zWi_0 _ (List.mem_of_getElem? (i := 36) rfl)) (by decide +kernel) rfl rfl ⟨Nat.le_of_ble_eq_true rfl, Nat.le_of_ble_eq_true rfl⟩
theorem kX4_isWord_123 : ∀ (s9 : State) (a9 : Array Value), (∀ w ∈ wzX4_isWord, w.before a9 s9 = true) → CallW rmX4_isWord s9 a9 RX4 RJ0 123 yJ0_charAt_5068e cJ0_charAt_5068e 2 (some .char) wzJ0_charAt_5068e rmJ0_charAt_5068e 0 0 1 := zcV (zWi_23 _ (List.mem_of_getElem? (i := 41) rfl)) (zWi_12 _ (List.mem_of_getElem? (i := 23) rfl)) (zWi_25 _ (List.mem_of_getElem? (i := 10) rfl)) (zWi_12 _ (List.mem_of_getElem? (i := 3) rfl)) (zWi_0 _ (List.mem_of_getElem? (i := 32) rfl)) (by decide +kernel) rfl rfl ⟨Nat.le_of_ble_eq_true rfl, Nat.le_of_ble_eq_true rfl⟩
theorem kX4_passWord_59 : ∀ (s9 : State) (a9 : Array Value), (∀ w ∈ wzX4_passWord, w.before a9 s9 = true) → CallW rmX4_passWord s9 a9 RX4 RX4 59 yX4_isWord cX4_isWord 3 (some .boolean) wzX4_isWord rmX4_isWord 0 0 1 := zcV (zWi_23 _ (List.mem_of_getElem? (i := 49) rfl)) (zWi_16 _ (List.mem_of_getElem? (i := 11) rfl)) (zWi_28 _ (List.mem_of_getElem? (i := 40) rfl)) (zWi_12 _ (List.mem_of_getElem? (i := 16) rfl)) (zWi_4 _ (List.mem_of_getElem? (i := 45) rfl)) (by decide +kernel) rfl rfl ⟨Nat.le_of_ble_eq_true rfl, Nat.le_of_ble_eq_true rfl⟩
theorem kX4_passWord_63 : ∀ (s9 : State) (a9 : Array Value), (∀ w ∈ wzX4_passWord, w.before a9 s9 = true) → CallW rmX4_passWord s9 a9 RX4 RX4 63 yX4_blame cX4_blame 2 (some .boolean) wzX4_blame rmX4_blame 0 0 1 := zcV (zWi_24 _ (List.mem_of_getElem? (i := 0) rfl)) (zWi_16 _ (List.mem_of_getElem? (i := 6) rfl)) (zWi_28 _ (List.mem_of_getElem? (i := 36) rfl)) (zWi_12 _ (List.mem_of_getElem? (i := 16) rfl)) (zWi_4 _ (List.mem_of_getElem? (i := 40) rfl)) (by decide +kernel) rfl rfl ⟨Nat.le_of_ble_eq_true rfl, Nat.le_of_ble_eq_true rfl⟩
theorem kX4_passWord_47 : ∀ (s9 : State) (a9 : Array Value), (∀ w ∈ wzX4_passWord, w.before a9 s9 = true) → CallW rmX4_passWord s9 a9 RX4 RX4 47 yX4_advance cX4_advance 1 none wzX4_advance rmX4_advance 0 0 0 := zcV (zWi_23 _ (List.mem_of_getElem? (i := 47) rfl)) (zWi_16 _ (List.mem_of_getElem? (i := 4) rfl)) (zWi_28 _ (List.mem_of_getElem? (i := 34) rfl)) (zWi_12 _ (List.mem_of_getElem? (i := 16) rfl)) (zWi_4 _ (List.mem_of_getElem? (i := 38) rfl)) (by decide +kernel) rfl rfl ⟨Nat.le_of_ble_eq_true rfl, Nat.le_of_ble_eq_true rfl⟩
def sp_X4_hasRoom (as : List zV) (M : zM) (Q : Option zV → zM → Prop) : Prop := as = [zR 39] ∧ (0 ≤ M 39 1 ∧ M 39 1 ≤ 400) ∧ (Q (some (zI (b01 (M 39 1 + 20 ≤ 400)))) M)
theorem us_X4_hasRoom  {M : zM} {Q : Option zV → zM → Prop} (h0 : 0 ≤ M 39 1 ∧ M 39 1 ≤ 400) (hQ : Q (some (zI (b01 (M 39 1 + 20 ≤ 400)))) M) : sp_X4_hasRoom [zR 39] M Q := ⟨rfl, h0, hQ⟩
set_option maxRecDepth 20000 in
set_option maxHeartbeats 4000000 in
theorem m_X4_hasRoom (l : Launch) : zC l yX4_hasRoom wzX4_hasRoom rmX4_hasRoom sp_X4_hasRoom := by
  refine zMet.of RX4 (by decide +kernel) rfl rfl ?_
  intro E X as M Qp hX S hsp
  obtain ⟨rfl, h0, hQ⟩ := hsp
  refine ⟨Nat.le_of_ble_eq_true rfl, ?_⟩
  dsimp only [zpad, zargs]
  refine zr_aload_n (pc := 0) S dX4_hasRoom_0 rfl ?_
  refine zr_getI (pc := 1) S fX4_hasRoom_26 dX4_hasRoom_1 rfl (Nat.le_of_ble_eq_true rfl) rfl ?_
  refine zr_bipush (pc := 4) S dX4_hasRoom_4 ⟨by unfold zrI; omega, by decide⟩ ?_
  refine zr_iadd (pc := 6) S dX4_hasRoom_6 (by unfold zrI; omega) ?_
  refine zr_sipush (pc := 7) S dX4_hasRoom_7 ⟨by unfold zrI; omega, by decide⟩ ?_
  refine zr_icmp_gt (pc := 10) (tgt := 17) S dX4_hasRoom_10 (by decide) (fun c10 => ?_) (fun c10 => ?_)
  · refine zr_iconst (pc := 17) S dX4_hasRoom_17 (by unfold zrI; omega) ?_
    exact zr_zret (pc := 18) S dX4_hasRoom_18 rfl (by first | omega | exact b01_r) ⟨Nat.le_refl _, Nat.le_refl _⟩ (zqi hQ (by unfold b01; split <;> omega))
  · refine zr_iconst (pc := 13) S dX4_hasRoom_13 (by unfold zrI; omega) ?_
    refine zr_goto (pc := 14) (tgt := 18) S dX4_hasRoom_14 (by decide) ?_
    exact zr_zret (pc := 18) S dX4_hasRoom_18 rfl (by first | omega | exact b01_r) ⟨Nat.le_refl _, Nat.le_refl _⟩ (zqi hQ (by unfold b01; split <;> omega))
/-- the class's tape with i bytes of a word behind T -/
def apT (t : Nat → Int) (T : Nat) (w : Int) (i : Nat) : Nat → Int := fun p => if T ≤ p ∧ p < T + i then (w / 2 ^ (24 - 8 * (p - T))).bmod 256 else t p
theorem apT_s {t : Nat → Int} {T : Nat} {w : Int} {i : Nat} : rUp (apT t T w i) (T + i) ((w / 2 ^ (24 - 8 * i)).bmod 256) = apT t T w (i + 1) := by
  funext j
  unfold rUp apT
  by_cases c : j = T + i
  · rw [if_pos c, if_pos (by omega), show j - T = i by omega]
  · rw [if_neg c]
    by_cases d : T ≤ j ∧ j < T + i
    · rw [if_pos d, if_pos (by omega)]
    · rw [if_neg d, if_neg (by omega)]
theorem apT_0 {t : Nat → Int} {T : Nat} {w : Int} : apT t T w 0 = t := by
  funext j
  unfold apT
  rw [if_neg (by omega)]
def apS (M : zM) (T : Nat) (w : Int) (i : Nat) : zM := zrow (zup M 39 1 ((T : Int) + i)) 40 (apT (M 40) T w i)
theorem apS_s {M : zM} {T : Nat} {w v : Int} {i : Nat} (hv : v = (w / 2 ^ (24 - 8 * i)).bmod 256) : zup (zup (apS M T w i) 40 (T + i) v) 39 1 ((T : Int) + i + 1) = apS M T w (i + 1) := by
  unfold apS
  rw [zrow_up, zrow_c (by decide), zup_w, hv, apT_s]
  rw [show ((T : Int) + i + 1) = (T : Int) + ((i + 1 : Nat) : Int) by omega]
theorem ap3 {E : zE} {X : zX} {Qp : Option zV → zM → Prop} {M : zM} {T : Nat} {w : Int} (S : zS (zg E) X cX4_append 3 wzX4_append RX4 none) (hT : T + 4 ≤ 400) (hQ : Qp none (apS M T w 4)) : ∀ (r i : Nat), r + i = 4 → zK (zg E) rmX4_append 3 (Qp, 0, 0) X (0, 0) 3 [some (zR 39), some (zI w), some (zI (24 - 8 * (i : Int)))] [] (apS M T w i) := by
  intro r
  induction r with
  | zero =>
    intro i hi
    obtain rfl : i = 4 := by omega
    refine zr_iload_n (pc := 3) S dX4_append_3 rfl ?_
    refine zr_if_lt (pc := 4) (tgt := 46) S dX4_append_4 (by decide) (fun c4 => ?_) (fun c4 => absurd c4 (by omega))
    exact zr_vret (pc := 46) S dX4_append_46 rfl ⟨Nat.le_refl _, Nat.le_refl _⟩ (hQ)
  | succ r ih =>
    intro i hi
    have et : apS M T w i 39 1 = (T : Int) + i := by
      unfold apS
      rw [zrow_o (by decide), zup_e]
    have ei : ((T : Int) + (i : Int)).toNat = T + i := by omega
    have k := ih (i + 1) (by omega)
    have e8 : (24 - 8 * (i : Int)).toNat = 24 - 8 * i := by omega
    have hb := zb_bmod (x := w / 2 ^ (24 - 8 * i)) (n := 256) (by decide)
    rw [← apS_s rfl, show (24 : Int) - 8 * ((i + 1 : Nat) : Int) = 24 - 8 * (i : Int) + -8 by omega] at k
    have et2 : ∀ v : Int, zup (apS M T w i) 40 (T + i) v 39 1 = (T : Int) + i := fun v => by rw [zup_o _ (by decide)]; exact et
    refine zr_iload_n (pc := 3) S dX4_append_3 rfl ?_
    refine zr_if_lt (pc := 4) (tgt := 46) S dX4_append_4 (by decide) (fun c4 => absurd c4 (by omega)) (fun c4 => ?_)
    refine zr_aload_n (pc := 7) S dX4_append_7 rfl ?_
    refine zr_getI (pc := 8) S fX4_append_26 dX4_append_8 rfl (Nat.le_of_ble_eq_true rfl) rfl ?_
    rw [et]
    refine zr_sipush (pc := 11) S dX4_append_11 ⟨by unfold zrI; omega, by decide⟩ ?_
    refine zr_icmp_ge (pc := 14) (tgt := 46) S dX4_append_14 (by decide) (fun c14 => absurd c14 (by omega)) (fun c14 => ?_)
    refine zr_aload_n (pc := 17) S dX4_append_17 rfl ?_
    refine zr_getR (pc := 18) S fX4_append_9 dX4_append_18 rfl (Nat.le_of_ble_eq_true rfl) rfl ?_
    refine zr_aload_n (pc := 21) S dX4_append_21 rfl ?_
    refine zr_getI (pc := 22) S fX4_append_26 dX4_append_22 rfl (Nat.le_of_ble_eq_true rfl) rfl ?_
    rw [et]
    refine zr_iload_n (pc := 25) S dX4_append_25 rfl ?_
    refine zr_iload_n (pc := 26) S dX4_append_26 rfl ?_
    refine zr_ishr (pc := 27) S dX4_append_27 (by omega) (by omega) ?_
    rw [e8]
    refine zr_i2b (pc := 28) S dX4_append_28 ?_
    refine zr_bastore (pc := 29) S dX4_append_29 rfl (Nat.le_of_ble_eq_true rfl) (by omega) (by omega) (by omega) ?_
    rw [ei]
    refine zr_aload_n (pc := 30) S dX4_append_30 rfl ?_
    refine zr_dup (pc := 31) S dX4_append_31 rfl ?_
    refine zr_getI (pc := 32) S fX4_append_26 dX4_append_32 rfl (Nat.le_of_ble_eq_true rfl) rfl ?_
    try simp only [zup_k, zup_e, ne_eq, Nat.reduceEqDiff, not_false_eq_true, zup_j]
    rw [et]
    refine zr_iconst (pc := 35) S dX4_append_35 (by unfold zrI; omega) ?_
    refine zr_iadd (pc := 36) S dX4_append_36 (by unfold zrI; omega) ?_
    refine zr_putI (pc := 37) S pX4_append_26 dX4_append_37 rfl (Nat.le_of_ble_eq_true rfl) rfl ?_
    refine zr_iinc (pc := 40) S dX4_append_40 rfl (by unfold zrI; omega) (by decide) ?_
    dsimp only [zst1, zst2, zset, zget, zlong]
    refine zr_goto (pc := 43) (tgt := 3) S dX4_append_43 (by decide) ?_
    exact k
def sp_X4_append (as : List zV) (M : zM) (Q : Option zV → zM → Prop) : Prop := ∃ (w : Int) (T : Nat), as = [zR 39, zI w] ∧ (M 39 1 = T) ∧ (T + 4 ≤ 400) ∧ (Q none (apS M T w 4))
theorem us_X4_append {w : Int} {T : Nat} {M : zM} {Q : Option zV → zM → Prop} (hT : M 39 1 = T) (hl : T + 4 ≤ 400) (hQ : Q none (apS M T w 4)) : sp_X4_append [zR 39, zI w] M Q := ⟨w, T, rfl, hT, hl, hQ⟩
set_option maxRecDepth 20000 in
set_option maxHeartbeats 4000000 in
theorem m_X4_append (l : Launch) : zC l yX4_append wzX4_append rmX4_append sp_X4_append := by
  refine zMet.of RX4 (by decide +kernel) rfl rfl ?_
  intro E X as M Qp hX S hsp
  obtain ⟨w, T, rfl, hT, hl, hQ⟩ := hsp
  refine ⟨Nat.le_of_ble_eq_true rfl, ?_⟩
  dsimp only [zpad, zargs]
  have e0 : apS M T w 0 = M := by
    unfold apS
    rw [apT_0]
    funext k' j'
    unfold zrow zup
    by_cases h1 : k' = 40
    · subst h1; simp
    · rw [if_neg h1]
      by_cases h2 : k' = 39
      · subst h2
        simp only [if_pos]
        by_cases h3 : j' = 1
        · subst h3; simp [hT]
        · rw [if_neg h3]
      · rw [if_neg h2]
  have l := ap3 (E := E) (X := X) (Qp := Qp) (M := M) (T := T) (w := w) S hl hQ 4 0 (by omega)
  rw [e0] at l
  refine zr_bipush (pc := 0) S dX4_append_0 ⟨by unfold zrI; omega, by decide⟩ ?_
  refine zr_istore_n (pc := 2) S 2 dX4_append_2 rfl (by decide) ?_
  dsimp only [zst1, zst2, zset, zget, zlong]
  exact l
def sp_X4_isLetter (as : List zV) (M : zM) (Q : Option zV → zM → Prop) : Prop := ∃ (p : Nat), as = [zR 39, zI p] ∧ (p < 400) ∧ (Q (some (zI (b01 (97 ≤ cT M p ∧ cT M p ≤ 122)))) M)
theorem us_X4_isLetter {p : Nat} {M : zM} {Q : Option zV → zM → Prop} (hp : p < 400) (hQ : Q (some (zI (b01 (97 ≤ cT M p ∧ cT M p ≤ 122)))) M) : sp_X4_isLetter [zR 39, zI p] M Q := ⟨p, rfl, hp, hQ⟩
set_option maxRecDepth 20000 in
set_option maxHeartbeats 4000000 in
theorem m_X4_isLetter (l : Launch) : zC l yX4_isLetter wzX4_isLetter rmX4_isLetter sp_X4_isLetter := by
  refine zMet.of RX4 (by decide +kernel) rfl rfl ?_
  intro E X as M Qp hX S hsp
  obtain ⟨p, rfl, hp, hQ⟩ := hsp
  refine ⟨Nat.le_of_ble_eq_true rfl, ?_⟩
  dsimp only [zpad, zargs]
  refine zr_rng (fun hM => ?_)
  have hb := byt hM p
  unfold cT at hQ
  have e : (p : Int).toNat = p := Int.toNat_natCast p
  refine zr_aload_n (pc := 0) S dX4_isLetter_0 rfl ?_
  refine zr_getR (pc := 1) S fX4_isLetter_9 dX4_isLetter_1 rfl (Nat.le_of_ble_eq_true rfl) rfl ?_
  refine zr_iload_n (pc := 4) S dX4_isLetter_4 rfl ?_
  refine zr_baload (pc := 5) S dX4_isLetter_5 rfl (Nat.le_of_ble_eq_true rfl) (by omega) (by omega) ?_
  rw [e]
  refine zr_bipush (pc := 6) S dX4_isLetter_6 ⟨by unfold zrI; omega, by decide⟩ ?_
  refine zr_icmp_lt (pc := 8) (tgt := 26) S dX4_isLetter_8 (by decide) (fun c8 => ?_) (fun c8 => ?_)
  · refine zr_iconst (pc := 26) S dX4_isLetter_26 (by unfold zrI; omega) ?_
    exact zr_zret (pc := 27) S dX4_isLetter_27 rfl (by first | omega | exact b01_r) ⟨Nat.le_refl _, Nat.le_refl _⟩ (zqi hQ (by unfold b01; split <;> omega))
  · refine zr_aload_n (pc := 11) S dX4_isLetter_11 rfl ?_
    refine zr_getR (pc := 12) S fX4_isLetter_9 dX4_isLetter_12 rfl (Nat.le_of_ble_eq_true rfl) rfl ?_
    refine zr_iload_n (pc := 15) S dX4_isLetter_15 rfl ?_
    refine zr_baload (pc := 16) S dX4_isLetter_16 rfl (Nat.le_of_ble_eq_true rfl) (by omega) (by omega) ?_
    rw [e]
    refine zr_bipush (pc := 17) S dX4_isLetter_17 ⟨by unfold zrI; omega, by decide⟩ ?_
    refine zr_icmp_gt (pc := 19) (tgt := 26) S dX4_isLetter_19 (by decide) (fun c19 => ?_) (fun c19 => ?_)
    · refine zr_iconst (pc := 26) S dX4_isLetter_26 (by unfold zrI; omega) ?_
      exact zr_zret (pc := 27) S dX4_isLetter_27 rfl (by first | omega | exact b01_r) ⟨Nat.le_refl _, Nat.le_refl _⟩ (zqi hQ (by unfold b01; split <;> omega))
    · refine zr_iconst (pc := 22) S dX4_isLetter_22 (by unfold zrI; omega) ?_
      refine zr_goto (pc := 23) (tgt := 27) S dX4_isLetter_23 (by decide) ?_
      exact zr_zret (pc := 27) S dX4_isLetter_27 rfl (by first | omega | exact b01_r) ⟨Nat.le_refl _, Nat.le_refl _⟩ (zqi hQ (by unfold b01; split <;> omega))
def sp_X4_isDigit (as : List zV) (M : zM) (Q : Option zV → zM → Prop) : Prop := ∃ (p : Nat), as = [zR 39, zI p] ∧ (p < 400) ∧ (Q (some (zI (b01 (48 ≤ cT M p ∧ cT M p ≤ 57)))) M)
theorem us_X4_isDigit {p : Nat} {M : zM} {Q : Option zV → zM → Prop} (hp : p < 400) (hQ : Q (some (zI (b01 (48 ≤ cT M p ∧ cT M p ≤ 57)))) M) : sp_X4_isDigit [zR 39, zI p] M Q := ⟨p, rfl, hp, hQ⟩
set_option maxRecDepth 20000 in
set_option maxHeartbeats 4000000 in
theorem m_X4_isDigit (l : Launch) : zC l yX4_isDigit wzX4_isDigit rmX4_isDigit sp_X4_isDigit := by
  refine zMet.of RX4 (by decide +kernel) rfl rfl ?_
  intro E X as M Qp hX S hsp
  obtain ⟨p, rfl, hp, hQ⟩ := hsp
  refine ⟨Nat.le_of_ble_eq_true rfl, ?_⟩
  dsimp only [zpad, zargs]
  refine zr_rng (fun hM => ?_)
  have hb := byt hM p
  unfold cT at hQ
  have e : (p : Int).toNat = p := Int.toNat_natCast p
  refine zr_aload_n (pc := 0) S dX4_isDigit_0 rfl ?_
  refine zr_getR (pc := 1) S fX4_isDigit_9 dX4_isDigit_1 rfl (Nat.le_of_ble_eq_true rfl) rfl ?_
  refine zr_iload_n (pc := 4) S dX4_isDigit_4 rfl ?_
  refine zr_baload (pc := 5) S dX4_isDigit_5 rfl (Nat.le_of_ble_eq_true rfl) (by omega) (by omega) ?_
  rw [e]
  refine zr_bipush (pc := 6) S dX4_isDigit_6 ⟨by unfold zrI; omega, by decide⟩ ?_
  refine zr_icmp_lt (pc := 8) (tgt := 26) S dX4_isDigit_8 (by decide) (fun c8 => ?_) (fun c8 => ?_)
  · refine zr_iconst (pc := 26) S dX4_isDigit_26 (by unfold zrI; omega) ?_
    exact zr_zret (pc := 27) S dX4_isDigit_27 rfl (by first | omega | exact b01_r) ⟨Nat.le_refl _, Nat.le_refl _⟩ (zqi hQ (by unfold b01; split <;> omega))
  · refine zr_aload_n (pc := 11) S dX4_isDigit_11 rfl ?_
    refine zr_getR (pc := 12) S fX4_isDigit_9 dX4_isDigit_12 rfl (Nat.le_of_ble_eq_true rfl) rfl ?_
    refine zr_iload_n (pc := 15) S dX4_isDigit_15 rfl ?_
    refine zr_baload (pc := 16) S dX4_isDigit_16 rfl (Nat.le_of_ble_eq_true rfl) (by omega) (by omega) ?_
    rw [e]
    refine zr_bipush (pc := 17) S dX4_isDigit_17 ⟨by unfold zrI; omega, by decide⟩ ?_
    refine zr_icmp_gt (pc := 19) (tgt := 26) S dX4_isDigit_19 (by decide) (fun c19 => ?_) (fun c19 => ?_)
    · refine zr_iconst (pc := 26) S dX4_isDigit_26 (by unfold zrI; omega) ?_
      exact zr_zret (pc := 27) S dX4_isDigit_27 rfl (by first | omega | exact b01_r) ⟨Nat.le_refl _, Nat.le_refl _⟩ (zqi hQ (by unfold b01; split <;> omega))
    · refine zr_iconst (pc := 22) S dX4_isDigit_22 (by unfold zrI; omega) ?_
      refine zr_goto (pc := 23) (tgt := 27) S dX4_isDigit_23 (by decide) ?_
      exact zr_zret (pc := 27) S dX4_isDigit_27 rfl (by first | omega | exact b01_r) ⟨Nat.le_refl _, Nat.le_refl _⟩ (zqi hQ (by unfold b01; split <;> omega))
/-- a fault told -/
def rblM (M : zM) (k : Int) : zM := zup (zup M 39 2 (if M 39 6 = 4 then 1 else k)) 39 3 (M 39 7)
def sp_X4_blame (as : List zV) (M : zM) (Q : Option zV → zM → Prop) : Prop := ∃ (k : Int), as = [zR 39, zI k] ∧ (Q (some (zI 0)) (rblM M k))
theorem us_X4_blame {k : Int} {M : zM} {Q : Option zV → zM → Prop} (hQ : Q (some (zI 0)) (rblM M k)) : sp_X4_blame [zR 39, zI k] M Q := ⟨k, rfl, hQ⟩
set_option maxRecDepth 20000 in
set_option maxHeartbeats 4000000 in
theorem m_X4_blame (l : Launch) : zC l yX4_blame wzX4_blame rmX4_blame sp_X4_blame := by
  refine zMet.of RX4 (by decide +kernel) rfl rfl ?_
  intro E X as M Qp hX S hsp
  obtain ⟨k, rfl, hQ⟩ := hsp
  refine ⟨Nat.le_of_ble_eq_true rfl, ?_⟩
  dsimp only [zpad, zargs]
  unfold rblM at hQ
  refine zr_aload_n (pc := 0) S dX4_blame_0 rfl ?_
  refine zr_aload_n (pc := 1) S dX4_blame_1 rfl ?_
  refine zr_getI (pc := 2) S fX4_blame_50 dX4_blame_2 rfl (Nat.le_of_ble_eq_true rfl) rfl ?_
  try simp only [zup_k, zup_e, ne_eq, Nat.reduceEqDiff, not_false_eq_true, zup_j]
  refine zr_iconst (pc := 5) S dX4_blame_5 (by unfold zrI; omega) ?_
  refine zr_icmp_ne (pc := 6) (tgt := 13) S dX4_blame_6 (by decide) (fun c6 => ?_) (fun c6 => ?_)
  · rw [if_neg c6] at hQ
    refine zr_iload_n (pc := 13) S dX4_blame_13 rfl ?_
    refine zr_putI (pc := 14) S pX4_blame_41 dX4_blame_14 rfl (Nat.le_of_ble_eq_true rfl) rfl ?_
    refine zr_aload_n (pc := 17) S dX4_blame_17 rfl ?_
    refine zr_aload_n (pc := 18) S dX4_blame_18 rfl ?_
    refine zr_getI (pc := 19) S fX4_blame_115 dX4_blame_19 rfl (Nat.le_of_ble_eq_true rfl) rfl ?_
    try simp only [zup_k, zup_e, ne_eq, Nat.reduceEqDiff, not_false_eq_true, zup_j]
    refine zr_putI (pc := 22) S pX4_blame_15 dX4_blame_22 rfl (Nat.le_of_ble_eq_true rfl) rfl ?_
    refine zr_iconst (pc := 25) S dX4_blame_25 (by unfold zrI; omega) ?_
    exact zr_zret (pc := 26) S dX4_blame_26 rfl (by first | omega | exact b01_r) ⟨Nat.le_refl _, Nat.le_refl _⟩ (hQ)
  · rw [if_pos c6] at hQ
    refine zr_iconst (pc := 9) S dX4_blame_9 (by unfold zrI; omega) ?_
    refine zr_goto (pc := 10) (tgt := 14) S dX4_blame_10 (by decide) ?_
    refine zr_putI (pc := 14) S pX4_blame_41 dX4_blame_14 rfl (Nat.le_of_ble_eq_true rfl) rfl ?_
    refine zr_aload_n (pc := 17) S dX4_blame_17 rfl ?_
    refine zr_aload_n (pc := 18) S dX4_blame_18 rfl ?_
    refine zr_getI (pc := 19) S fX4_blame_115 dX4_blame_19 rfl (Nat.le_of_ble_eq_true rfl) rfl ?_
    try simp only [zup_k, zup_e, ne_eq, Nat.reduceEqDiff, not_false_eq_true, zup_j]
    refine zr_putI (pc := 22) S pX4_blame_15 dX4_blame_22 rfl (Nat.le_of_ble_eq_true rfl) rfl ?_
    refine zr_iconst (pc := 25) S dX4_blame_25 (by unfold zrI; omega) ?_
    exact zr_zret (pc := 26) S dX4_blame_26 rfl (by first | omega | exact b01_r) ⟨Nat.le_refl _, Nat.le_refl _⟩ (hQ)
end
