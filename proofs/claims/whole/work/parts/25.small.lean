section
def rmX2_kept : Room := { frames := 1, cells := 0, slots := 0, locals := 21 }
abbrev wzX2_kept : List Cond := .code yX2_kept cX2_kept 1 (some .int) :: zW
def rmX8_addGood : Room := { frames := 0, cells := 0, slots := 0, locals := 0 }
abbrev wzX8_addGood : List Cond := .code yX8_addGood cX8_addGood 2 (some .int) :: zW
def rmX8_addBuyer : Room := { frames := 0, cells := 0, slots := 0, locals := 0 }
abbrev wzX8_addBuyer : List Cond := .code yX8_addBuyer cX8_addBuyer 4 (some .int) :: zW
def rmX8_tellCoins : Room := { frames := 0, cells := 0, slots := 0, locals := 0 }
abbrev wzX8_tellCoins : List Cond := .code yX8_tellCoins cX8_tellCoins 7 none :: zW
def rmX8_addMachine : Room := { frames := 0, cells := 0, slots := 0, locals := 0 }
abbrev wzX8_addMachine : List Cond := .code yX8_addMachine cX8_addMachine 3 (some .int) :: zW
def rmX10_holdsSorts : Room := { frames := 1, cells := 0, slots := 0, locals := 25 }
abbrev wzX10_holdsSorts : List Cond := .code yX10_holdsSorts cX10_holdsSorts 3 (some .boolean) :: zW
def rmX11_swap : Room := { frames := 0, cells := 0, slots := 0, locals := 0 }
abbrev wzX11_swap : List Cond := .code yX11_swap cX11_swap 4 (some .int) :: zW
theorem kX2_kept_27 : zml_mmin wzX2_kept RX2 27 := ⟨List.mem_cons_of_mem _ (zWi_23 _ (List.mem_of_getElem? (i := 28) rfl)), List.mem_cons_of_mem _ (zWi_30 _ (List.mem_of_getElem? (i := 3) rfl)), List.mem_cons_of_mem _ (zWi_12 _ (List.mem_of_getElem? (i := 0) rfl)), List.mem_cons_of_mem _ (zWi_0 _ (List.mem_of_getElem? (i := 28) rfl))⟩
theorem kX2_kept_33 : zml_mmax wzX2_kept RX2 33 := ⟨List.mem_cons_of_mem _ (zWi_23 _ (List.mem_of_getElem? (i := 30) rfl)), List.mem_cons_of_mem _ (zWi_30 _ (List.mem_of_getElem? (i := 2) rfl)), List.mem_cons_of_mem _ (zWi_12 _ (List.mem_of_getElem? (i := 0) rfl)), List.mem_cons_of_mem _ (zWi_0 _ (List.mem_of_getElem? (i := 27) rfl))⟩
theorem fX8_addGood_54 : zfl wzX8_addGood RX8 vwCl 54 8 3 := ⟨_, _, _, rfl, (fun w h => List.mem_cons_of_mem _ (zWuX8 w h)), by decide, List.mem_cons_of_mem _ (zWi_11 _ (List.mem_of_getElem? (i := 31) rfl))⟩
theorem fX8_addGood_32 : zfl wzX8_addGood RX8 vwCl 32 8 4 := ⟨_, _, _, rfl, (fun w h => List.mem_cons_of_mem _ (zWuX8 w h)), by decide, List.mem_cons_of_mem _ (zWi_11 _ (List.mem_of_getElem? (i := 24) rfl))⟩
theorem pX8_addGood_54 : zfp wzX8_addGood RX8 vwCl 54 8 3 := ⟨_, _, _, _, rfl, (fun w h => List.mem_cons_of_mem _ (zWuX8 w h)), by decide, List.mem_cons_of_mem _ (zWi_11 _ (List.mem_of_getElem? (i := 31) rfl)), tyX8_ok, nmX8, rfl, by decide +kernel⟩
theorem fX8_addBuyer_58 : zfl wzX8_addBuyer RX8 vwCl 58 8 5 := ⟨_, _, _, rfl, (fun w h => List.mem_cons_of_mem _ (zWuX8 w h)), by decide, List.mem_cons_of_mem _ (zWi_11 _ (List.mem_of_getElem? (i := 32) rfl))⟩
theorem fX8_addBuyer_36 : zfl wzX8_addBuyer RX8 vwCl 36 8 6 := ⟨_, _, _, rfl, (fun w h => List.mem_cons_of_mem _ (zWuX8 w h)), by decide, List.mem_cons_of_mem _ (zWi_11 _ (List.mem_of_getElem? (i := 25) rfl))⟩
theorem fX8_addBuyer_42 : zfl wzX8_addBuyer RX8 vwCl 42 8 8 := ⟨_, _, _, rfl, (fun w h => List.mem_cons_of_mem _ (zWuX8 w h)), by decide, List.mem_cons_of_mem _ (zWi_11 _ (List.mem_of_getElem? (i := 27) rfl))⟩
theorem fX8_addBuyer_45 : zfl wzX8_addBuyer RX8 vwCl 45 8 9 := ⟨_, _, _, rfl, (fun w h => List.mem_cons_of_mem _ (zWuX8 w h)), by decide, List.mem_cons_of_mem _ (zWi_11 _ (List.mem_of_getElem? (i := 28) rfl))⟩
theorem pX8_addBuyer_58 : zfp wzX8_addBuyer RX8 vwCl 58 8 5 := ⟨_, _, _, _, rfl, (fun w h => List.mem_cons_of_mem _ (zWuX8 w h)), by decide, List.mem_cons_of_mem _ (zWi_11 _ (List.mem_of_getElem? (i := 32) rfl)), tyX8_ok, nmX8, rfl, by decide +kernel⟩
theorem fX8_tellCoins_39 : zfl wzX8_tellCoins RX8 vwCl 39 8 7 := ⟨_, _, _, rfl, (fun w h => List.mem_cons_of_mem _ (zWuX8 w h)), by decide, List.mem_cons_of_mem _ (zWi_11 _ (List.mem_of_getElem? (i := 26) rfl))⟩
theorem fX8_addMachine_61 : zfl wzX8_addMachine RX8 vwCl 61 8 10 := ⟨_, _, _, rfl, (fun w h => List.mem_cons_of_mem _ (zWuX8 w h)), by decide, List.mem_cons_of_mem _ (zWi_11 _ (List.mem_of_getElem? (i := 33) rfl))⟩
theorem fX8_addMachine_48 : zfl wzX8_addMachine RX8 vwCl 48 8 11 := ⟨_, _, _, rfl, (fun w h => List.mem_cons_of_mem _ (zWuX8 w h)), by decide, List.mem_cons_of_mem _ (zWi_11 _ (List.mem_of_getElem? (i := 29) rfl))⟩
theorem fX8_addMachine_51 : zfl wzX8_addMachine RX8 vwCl 51 8 12 := ⟨_, _, _, rfl, (fun w h => List.mem_cons_of_mem _ (zWuX8 w h)), by decide, List.mem_cons_of_mem _ (zWi_11 _ (List.mem_of_getElem? (i := 30) rfl))⟩
theorem pX8_addMachine_61 : zfp wzX8_addMachine RX8 vwCl 61 8 10 := ⟨_, _, _, _, rfl, (fun w h => List.mem_cons_of_mem _ (zWuX8 w h)), by decide, List.mem_cons_of_mem _ (zWi_11 _ (List.mem_of_getElem? (i := 33) rfl)), tyX8_ok, nmX8, rfl, by decide +kernel⟩
theorem fX10_holdsSorts_19 : zfl wzX10_holdsSorts RX10 vwCl 19 10 1 := ⟨_, _, _, rfl, (fun w h => List.mem_cons_of_mem _ (zWuX10 w h)), by decide, List.mem_cons_of_mem _ (zWi_8 _ (List.mem_of_getElem? (i := 4) rfl))⟩
theorem fX10_holdsSorts_15 : zfl wzX10_holdsSorts RX10 vwCl 15 10 2 := ⟨_, _, _, rfl, (fun w h => List.mem_cons_of_mem _ (zWuX10 w h)), by decide, List.mem_cons_of_mem _ (zWi_8 _ (List.mem_of_getElem? (i := 3) rfl))⟩
theorem kX10_holdsSorts_28 : ∀ (s9 : State) (a9 : Array Value), (∀ w ∈ wzX10_holdsSorts, w.before a9 s9 = true) → va_Nw (.methodLinkNest RX10 28 yX11_within RX11) s9 → va_CN rmX10_holdsSorts s9 a9 RX10 28 yX11_within RX11 cX11_within 6 (some .boolean) wzX11_within rmX11_within 0 0 3 ∧ (Cond.static yX11_within).before a9 s9 = true ∧ True := zcN (zWi_31 _ (List.mem_of_getElem? (i := 9) rfl)) (zWi_12 _ (List.mem_of_getElem? (i := 12) rfl)) (zWi_2 _ (List.mem_of_getElem? (i := 17) rfl)) (by decide +kernel) rfl rfl ⟨Nat.le_of_ble_eq_true rfl, Nat.le_of_ble_eq_true rfl⟩
def kept (n : Int) : Int := max 0 (min 99 n)
def sp_X2_kept (as : List zV) (M : zM) (Q : Option zV → zM → Prop) : Prop := ∃ (n : Int), as = [zI n] ∧ (zrI n) ∧ Q (some (zI (kept n))) (M)
theorem us_X2_kept {n : Int} {M : zM} {Q : Option zV → zM → Prop} (h0 : zrI n) (h99 : Q (some (zI (kept n))) (M)) : sp_X2_kept [zI n] M Q := ⟨n, rfl, h0, h99⟩
set_option maxRecDepth 20000 in
set_option maxHeartbeats 4000000 in
theorem m_X2_kept (l : Launch) : zC l yX2_kept wzX2_kept rmX2_kept sp_X2_kept := by
  refine zMet.of RX2 (by decide +kernel) rfl rfl ?_
  intro E X as M Qp hX S hsp
  obtain ⟨n, rfl, h0, hQ⟩ := hsp
  refine ⟨Nat.le_of_ble_eq_true rfl, ?_⟩
  dsimp only [zpad, zargs]
  refine zr_iconst (pc := 0) S dX2_kept_0 (by unfold zrI; omega) ?_
  refine zr_bipush (pc := 1) S dX2_kept_1 ⟨by unfold zrI; omega, by decide⟩ ?_
  refine zr_iload_n (pc := 3) S dX2_kept_3 rfl ?_
  refine zr_mmin (pc := 4) S kX2_kept_27 dX2_kept_4 (Nat.le_of_ble_eq_true rfl) (Nat.le_of_ble_eq_true rfl) ⟨Nat.le_of_ble_eq_true rfl, Nat.le_of_ble_eq_true rfl⟩ ?_
  refine zr_mmax (pc := 7) S kX2_kept_33 dX2_kept_7 (Nat.le_of_ble_eq_true rfl) (Nat.le_of_ble_eq_true rfl) ⟨Nat.le_of_ble_eq_true rfl, Nat.le_of_ble_eq_true rfl⟩ ?_
  exact zr_iret (pc := 10) S dX2_kept_10 rfl ⟨Nat.le_refl _, Nat.le_refl _⟩ (hQ)
def sp_X8_addGood (as : List zV) (M : zM) (Q : Option zV → zM → Prop) : Prop := ∃ (p : Int), as = [zR 1, zI p] ∧ (0 ≤ M 1 3 ∧ M 1 3 ≤ 6) ∧ Q (some (zI (if 6 ≤ M 1 3 then -1 else M 1 3))) (if 6 ≤ M 1 3 then M else zup (zup M 29 (M 1 3).toNat p) 1 3 (M 1 3 + 1))
theorem us_X8_addGood {p : Int} {M : zM} {Q : Option zV → zM → Prop} (h0 : 0 ≤ M 1 3 ∧ M 1 3 ≤ 6) (h99 : Q (some (zI (if 6 ≤ M 1 3 then -1 else M 1 3))) (if 6 ≤ M 1 3 then M else zup (zup M 29 (M 1 3).toNat p) 1 3 (M 1 3 + 1))) : sp_X8_addGood [zR 1, zI p] M Q := ⟨p, rfl, h0, h99⟩
set_option maxRecDepth 20000 in
set_option maxHeartbeats 4000000 in
theorem m_X8_addGood (l : Launch) : zC l yX8_addGood wzX8_addGood rmX8_addGood sp_X8_addGood := by
  refine zMet.of RX8 (by decide +kernel) rfl rfl ?_
  intro E X as M Qp hX S hsp
  obtain ⟨p, rfl, h0, hQ⟩ := hsp
  refine ⟨Nat.le_of_ble_eq_true rfl, ?_⟩
  dsimp only [zpad, zargs]
  refine zr_aload_n (pc := 0) S dX8_addGood_0 rfl ?_
  refine zr_getI (pc := 1) S fX8_addGood_54 dX8_addGood_1 rfl (Nat.le_of_ble_eq_true rfl) rfl ?_
  refine zr_bipush (pc := 4) S dX8_addGood_4 ⟨by unfold zrI; omega, by decide⟩ ?_
  refine zr_icmp_lt (pc := 6) (tgt := 11) S dX8_addGood_6 (by decide) (fun c6 => ?_) (fun c6 => ?_)
  · rw [if_neg (by omega), if_neg (by omega)] at hQ
    refine zr_aload_n (pc := 11) S dX8_addGood_11 rfl ?_
    refine zr_getR (pc := 12) S fX8_addGood_32 dX8_addGood_12 rfl (Nat.le_of_ble_eq_true rfl) rfl ?_
    refine zr_aload_n (pc := 15) S dX8_addGood_15 rfl ?_
    refine zr_getI (pc := 16) S fX8_addGood_54 dX8_addGood_16 rfl (Nat.le_of_ble_eq_true rfl) rfl ?_
    refine zr_iload_n (pc := 19) S dX8_addGood_19 rfl ?_
    refine zr_iastore (pc := 20) S dX8_addGood_20 rfl (Nat.le_of_ble_eq_true rfl) (by omega) (by omega) ?_
    refine zr_aload_n (pc := 21) S dX8_addGood_21 rfl ?_
    refine zr_dup (pc := 22) S dX8_addGood_22 rfl ?_
    refine zr_getI (pc := 23) S fX8_addGood_54 dX8_addGood_23 rfl (Nat.le_of_ble_eq_true rfl) rfl ?_
    try simp only [zup_k, zup_e, ne_eq, Nat.reduceEqDiff, not_false_eq_true, zup_j]
    refine zr_iconst (pc := 26) S dX8_addGood_26 (by unfold zrI; omega) ?_
    refine zr_iadd (pc := 27) S dX8_addGood_27 (by unfold zrI; omega) ?_
    refine zr_putI (pc := 28) S pX8_addGood_54 dX8_addGood_28 rfl (Nat.le_of_ble_eq_true rfl) rfl ?_
    refine zr_aload_n (pc := 31) S dX8_addGood_31 rfl ?_
    refine zr_getI (pc := 32) S fX8_addGood_54 dX8_addGood_32 rfl (Nat.le_of_ble_eq_true rfl) rfl ?_
    try simp only [zup_k, zup_e, ne_eq, Nat.reduceEqDiff, not_false_eq_true, zup_j]
    refine zr_iconst (pc := 35) S dX8_addGood_35 (by unfold zrI; omega) ?_
    refine zr_isub (pc := 36) S dX8_addGood_36 (by unfold zrI; omega) ?_
    exact zr_iret (pc := 37) S dX8_addGood_37 rfl ⟨Nat.le_refl _, Nat.le_refl _⟩ (zqi hQ (by simp [zup]))
  · rw [if_pos c6, if_pos c6] at hQ
    refine zr_iconst (pc := 9) S dX8_addGood_9 (by unfold zrI; omega) ?_
    exact zr_iret (pc := 10) S dX8_addGood_10 rfl ⟨Nat.le_refl _, Nat.le_refl _⟩ (zqi hQ (by simp [zup]))
def sp_X8_addBuyer (as : List zV) (M : zM) (Q : Option zV → zM → Prop) : Prop := ∃ (g n c : Int), as = [zR 1, zI g, zI n, zI c] ∧ (0 ≤ M 1 5 ∧ M 1 5 ≤ 5) ∧ Q (some (zI (if 5 ≤ M 1 5 then -1 else M 1 5))) (if 5 ≤ M 1 5 then M else zup (zup (zup (zup M 30 (M 1 5).toNat g) 32 (M 1 5).toNat n) 33 (M 1 5).toNat c) 1 5 (M 1 5 + 1))
theorem us_X8_addBuyer {g n c : Int} {M : zM} {Q : Option zV → zM → Prop} (h0 : 0 ≤ M 1 5 ∧ M 1 5 ≤ 5) (h99 : Q (some (zI (if 5 ≤ M 1 5 then -1 else M 1 5))) (if 5 ≤ M 1 5 then M else zup (zup (zup (zup M 30 (M 1 5).toNat g) 32 (M 1 5).toNat n) 33 (M 1 5).toNat c) 1 5 (M 1 5 + 1))) : sp_X8_addBuyer [zR 1, zI g, zI n, zI c] M Q := ⟨g, n, c, rfl, h0, h99⟩
set_option maxRecDepth 20000 in
set_option maxHeartbeats 4000000 in
theorem m_X8_addBuyer (l : Launch) : zC l yX8_addBuyer wzX8_addBuyer rmX8_addBuyer sp_X8_addBuyer := by
  refine zMet.of RX8 (by decide +kernel) rfl rfl ?_
  intro E X as M Qp hX S hsp
  obtain ⟨g, n, c, rfl, h0, hQ⟩ := hsp
  refine ⟨Nat.le_of_ble_eq_true rfl, ?_⟩
  dsimp only [zpad, zargs]
  refine zr_aload_n (pc := 0) S dX8_addBuyer_0 rfl ?_
  refine zr_getI (pc := 1) S fX8_addBuyer_58 dX8_addBuyer_1 rfl (Nat.le_of_ble_eq_true rfl) rfl ?_
  refine zr_iconst (pc := 4) S dX8_addBuyer_4 (by unfold zrI; omega) ?_
  refine zr_icmp_lt (pc := 5) (tgt := 10) S dX8_addBuyer_5 (by decide) (fun c5 => ?_) (fun c5 => ?_)
  · rw [if_neg (by omega), if_neg (by omega)] at hQ
    refine zr_aload_n (pc := 10) S dX8_addBuyer_10 rfl ?_
    refine zr_getR (pc := 11) S fX8_addBuyer_36 dX8_addBuyer_11 rfl (Nat.le_of_ble_eq_true rfl) rfl ?_
    refine zr_aload_n (pc := 14) S dX8_addBuyer_14 rfl ?_
    refine zr_getI (pc := 15) S fX8_addBuyer_58 dX8_addBuyer_15 rfl (Nat.le_of_ble_eq_true rfl) rfl ?_
    refine zr_iload_n (pc := 18) S dX8_addBuyer_18 rfl ?_
    refine zr_iastore (pc := 19) S dX8_addBuyer_19 rfl (Nat.le_of_ble_eq_true rfl) (by omega) (by omega) ?_
    refine zr_aload_n (pc := 20) S dX8_addBuyer_20 rfl ?_
    refine zr_getR (pc := 21) S fX8_addBuyer_42 dX8_addBuyer_21 rfl (Nat.le_of_ble_eq_true rfl) rfl ?_
    try simp only [zup_k, zup_e, ne_eq, Nat.reduceEqDiff, not_false_eq_true, zup_j]
    refine zr_aload_n (pc := 24) S dX8_addBuyer_24 rfl ?_
    refine zr_getI (pc := 25) S fX8_addBuyer_58 dX8_addBuyer_25 rfl (Nat.le_of_ble_eq_true rfl) rfl ?_
    try simp only [zup_k, zup_e, ne_eq, Nat.reduceEqDiff, not_false_eq_true, zup_j]
    refine zr_iload_n (pc := 28) S dX8_addBuyer_28 rfl ?_
    refine zr_iastore (pc := 29) S dX8_addBuyer_29 rfl (Nat.le_of_ble_eq_true rfl) (by omega) (by omega) ?_
    refine zr_aload_n (pc := 30) S dX8_addBuyer_30 rfl ?_
    refine zr_getR (pc := 31) S fX8_addBuyer_45 dX8_addBuyer_31 rfl (Nat.le_of_ble_eq_true rfl) rfl ?_
    try simp only [zup_k, zup_e, ne_eq, Nat.reduceEqDiff, not_false_eq_true, zup_j]
    refine zr_aload_n (pc := 34) S dX8_addBuyer_34 rfl ?_
    refine zr_getI (pc := 35) S fX8_addBuyer_58 dX8_addBuyer_35 rfl (Nat.le_of_ble_eq_true rfl) rfl ?_
    try simp only [zup_k, zup_e, ne_eq, Nat.reduceEqDiff, not_false_eq_true, zup_j]
    refine zr_iload_n (pc := 38) S dX8_addBuyer_38 rfl ?_
    refine zr_iastore (pc := 39) S dX8_addBuyer_39 rfl (Nat.le_of_ble_eq_true rfl) (by omega) (by omega) ?_
    refine zr_aload_n (pc := 40) S dX8_addBuyer_40 rfl ?_
    refine zr_dup (pc := 41) S dX8_addBuyer_41 rfl ?_
    refine zr_getI (pc := 42) S fX8_addBuyer_58 dX8_addBuyer_42 rfl (Nat.le_of_ble_eq_true rfl) rfl ?_
    try simp only [zup_k, zup_e, ne_eq, Nat.reduceEqDiff, not_false_eq_true, zup_j]
    refine zr_iconst (pc := 45) S dX8_addBuyer_45 (by unfold zrI; omega) ?_
    refine zr_iadd (pc := 46) S dX8_addBuyer_46 (by unfold zrI; omega) ?_
    refine zr_putI (pc := 47) S pX8_addBuyer_58 dX8_addBuyer_47 rfl (Nat.le_of_ble_eq_true rfl) rfl ?_
    refine zr_aload_n (pc := 50) S dX8_addBuyer_50 rfl ?_
    refine zr_getI (pc := 51) S fX8_addBuyer_58 dX8_addBuyer_51 rfl (Nat.le_of_ble_eq_true rfl) rfl ?_
    try simp only [zup_k, zup_e, ne_eq, Nat.reduceEqDiff, not_false_eq_true, zup_j]
    refine zr_iconst (pc := 54) S dX8_addBuyer_54 (by unfold zrI; omega) ?_
    refine zr_isub (pc := 55) S dX8_addBuyer_55 (by unfold zrI; omega) ?_
    exact zr_iret (pc := 56) S dX8_addBuyer_56 rfl ⟨Nat.le_refl _, Nat.le_refl _⟩ (zqi hQ (by simp [zup]))
  · rw [if_pos c5, if_pos c5] at hQ
    refine zr_iconst (pc := 8) S dX8_addBuyer_8 (by unfold zrI; omega) ?_
    exact zr_iret (pc := 9) S dX8_addBuyer_9 rfl ⟨Nat.le_refl _, Nat.le_refl _⟩ (zqi hQ (by simp [zup]))
def sp_X8_tellCoins (as : List zV) (M : zM) (Q : Option zV → zM → Prop) : Prop := ∃ (k a b c d : Int), as = [zR 1, zI k, zI a, zI b, zI c, zI d] ∧ (0 ≤ k) ∧ (k < 5) ∧ Q (none) (zup (zup (zup (zup M 31 (k * 4).toNat a) 31 (k * 4 + 1).toNat b) 31 (k * 4 + 2).toNat c) 31 (k * 4 + 3).toNat d)
theorem us_X8_tellCoins {k a b c d : Int} {M : zM} {Q : Option zV → zM → Prop} (h0 : 0 ≤ k) (h1 : k < 5) (h99 : Q (none) (zup (zup (zup (zup M 31 (k * 4).toNat a) 31 (k * 4 + 1).toNat b) 31 (k * 4 + 2).toNat c) 31 (k * 4 + 3).toNat d)) : sp_X8_tellCoins [zR 1, zI k, zI a, zI b, zI c, zI d] M Q := ⟨k, a, b, c, d, rfl, h0, h1, h99⟩
set_option maxRecDepth 20000 in
set_option maxHeartbeats 4000000 in
theorem m_X8_tellCoins (l : Launch) : zC l yX8_tellCoins wzX8_tellCoins rmX8_tellCoins sp_X8_tellCoins := by
  refine zMet.of RX8 (by decide +kernel) rfl rfl ?_
  intro E X as M Qp hX S hsp
  obtain ⟨k, a, b, c, d, rfl, h0, h1, hQ⟩ := hsp
  refine ⟨Nat.le_of_ble_eq_true rfl, ?_⟩
  dsimp only [zpad, zargs]
  refine zr_iload_n (pc := 0) S dX8_tellCoins_0 rfl ?_
  refine zr_iconst (pc := 1) S dX8_tellCoins_1 (by unfold zrI; omega) ?_
  refine zr_imul (pc := 2) S dX8_tellCoins_2 (by unfold zrI; omega) ?_
  refine zr_istore (pc := 3) S dX8_tellCoins_3 (by decide) ?_
  dsimp only [zst1, zst2, zset, zget, zlong]
  refine zr_aload_n (pc := 5) S dX8_tellCoins_5 rfl ?_
  refine zr_getR (pc := 6) S fX8_tellCoins_39 dX8_tellCoins_6 rfl (Nat.le_of_ble_eq_true rfl) rfl ?_
  refine zr_iload (pc := 9) S dX8_tellCoins_9 rfl ?_
  refine zr_iload_n (pc := 11) S dX8_tellCoins_11 rfl ?_
  refine zr_iastore (pc := 12) S dX8_tellCoins_12 rfl (Nat.le_of_ble_eq_true rfl) (by omega) (by omega) ?_
  refine zr_aload_n (pc := 13) S dX8_tellCoins_13 rfl ?_
  refine zr_getR (pc := 14) S fX8_tellCoins_39 dX8_tellCoins_14 rfl (Nat.le_of_ble_eq_true rfl) rfl ?_
  try simp only [zup_k, zup_e, ne_eq, Nat.reduceEqDiff, not_false_eq_true, zup_j]
  refine zr_iload (pc := 17) S dX8_tellCoins_17 rfl ?_
  refine zr_iconst (pc := 19) S dX8_tellCoins_19 (by unfold zrI; omega) ?_
  refine zr_iadd (pc := 20) S dX8_tellCoins_20 (by unfold zrI; omega) ?_
  refine zr_iload_n (pc := 21) S dX8_tellCoins_21 rfl ?_
  refine zr_iastore (pc := 22) S dX8_tellCoins_22 rfl (Nat.le_of_ble_eq_true rfl) (by omega) (by omega) ?_
  refine zr_aload_n (pc := 23) S dX8_tellCoins_23 rfl ?_
  refine zr_getR (pc := 24) S fX8_tellCoins_39 dX8_tellCoins_24 rfl (Nat.le_of_ble_eq_true rfl) rfl ?_
  try simp only [zup_k, zup_e, ne_eq, Nat.reduceEqDiff, not_false_eq_true, zup_j]
  refine zr_iload (pc := 27) S dX8_tellCoins_27 rfl ?_
  refine zr_iconst (pc := 29) S dX8_tellCoins_29 (by unfold zrI; omega) ?_
  refine zr_iadd (pc := 30) S dX8_tellCoins_30 (by unfold zrI; omega) ?_
  refine zr_iload (pc := 31) S dX8_tellCoins_31 rfl ?_
  refine zr_iastore (pc := 33) S dX8_tellCoins_33 rfl (Nat.le_of_ble_eq_true rfl) (by omega) (by omega) ?_
  refine zr_aload_n (pc := 34) S dX8_tellCoins_34 rfl ?_
  refine zr_getR (pc := 35) S fX8_tellCoins_39 dX8_tellCoins_35 rfl (Nat.le_of_ble_eq_true rfl) rfl ?_
  try simp only [zup_k, zup_e, ne_eq, Nat.reduceEqDiff, not_false_eq_true, zup_j]
  refine zr_iload (pc := 38) S dX8_tellCoins_38 rfl ?_
  refine zr_iconst (pc := 40) S dX8_tellCoins_40 (by unfold zrI; omega) ?_
  refine zr_iadd (pc := 41) S dX8_tellCoins_41 (by unfold zrI; omega) ?_
  refine zr_iload (pc := 42) S dX8_tellCoins_42 rfl ?_
  refine zr_iastore (pc := 44) S dX8_tellCoins_44 rfl (Nat.le_of_ble_eq_true rfl) (by omega) (by omega) ?_
  exact zr_vret (pc := 45) S dX8_tellCoins_45 rfl ⟨Nat.le_refl _, Nat.le_refl _⟩ (hQ)
def sp_X8_addMachine (as : List zV) (M : zM) (Q : Option zV → zM → Prop) : Prop := ∃ (a b : Int), as = [zR 1, zI a, zI b] ∧ (0 ≤ M 1 10 ∧ M 1 10 ≤ 4) ∧ Q (some (zI (if 4 ≤ M 1 10 then -1 else M 1 10))) (if 4 ≤ M 1 10 then M else zup (zup (zup M 34 (M 1 10).toNat a) 35 (M 1 10).toNat b) 1 10 (M 1 10 + 1))
theorem us_X8_addMachine {a b : Int} {M : zM} {Q : Option zV → zM → Prop} (h0 : 0 ≤ M 1 10 ∧ M 1 10 ≤ 4) (h99 : Q (some (zI (if 4 ≤ M 1 10 then -1 else M 1 10))) (if 4 ≤ M 1 10 then M else zup (zup (zup M 34 (M 1 10).toNat a) 35 (M 1 10).toNat b) 1 10 (M 1 10 + 1))) : sp_X8_addMachine [zR 1, zI a, zI b] M Q := ⟨a, b, rfl, h0, h99⟩
set_option maxRecDepth 20000 in
set_option maxHeartbeats 4000000 in
theorem m_X8_addMachine (l : Launch) : zC l yX8_addMachine wzX8_addMachine rmX8_addMachine sp_X8_addMachine := by
  refine zMet.of RX8 (by decide +kernel) rfl rfl ?_
  intro E X as M Qp hX S hsp
  obtain ⟨a, b, rfl, h0, hQ⟩ := hsp
  refine ⟨Nat.le_of_ble_eq_true rfl, ?_⟩
  dsimp only [zpad, zargs]
  refine zr_aload_n (pc := 0) S dX8_addMachine_0 rfl ?_
  refine zr_getI (pc := 1) S fX8_addMachine_61 dX8_addMachine_1 rfl (Nat.le_of_ble_eq_true rfl) rfl ?_
  refine zr_iconst (pc := 4) S dX8_addMachine_4 (by unfold zrI; omega) ?_
  refine zr_icmp_lt (pc := 5) (tgt := 10) S dX8_addMachine_5 (by decide) (fun c5 => ?_) (fun c5 => ?_)
  · rw [if_neg (by omega), if_neg (by omega)] at hQ
    refine zr_aload_n (pc := 10) S dX8_addMachine_10 rfl ?_
    refine zr_getR (pc := 11) S fX8_addMachine_48 dX8_addMachine_11 rfl (Nat.le_of_ble_eq_true rfl) rfl ?_
    refine zr_aload_n (pc := 14) S dX8_addMachine_14 rfl ?_
    refine zr_getI (pc := 15) S fX8_addMachine_61 dX8_addMachine_15 rfl (Nat.le_of_ble_eq_true rfl) rfl ?_
    refine zr_iload_n (pc := 18) S dX8_addMachine_18 rfl ?_
    refine zr_iastore (pc := 19) S dX8_addMachine_19 rfl (Nat.le_of_ble_eq_true rfl) (by omega) (by omega) ?_
    refine zr_aload_n (pc := 20) S dX8_addMachine_20 rfl ?_
    refine zr_getR (pc := 21) S fX8_addMachine_51 dX8_addMachine_21 rfl (Nat.le_of_ble_eq_true rfl) rfl ?_
    try simp only [zup_k, zup_e, ne_eq, Nat.reduceEqDiff, not_false_eq_true, zup_j]
    refine zr_aload_n (pc := 24) S dX8_addMachine_24 rfl ?_
    refine zr_getI (pc := 25) S fX8_addMachine_61 dX8_addMachine_25 rfl (Nat.le_of_ble_eq_true rfl) rfl ?_
    try simp only [zup_k, zup_e, ne_eq, Nat.reduceEqDiff, not_false_eq_true, zup_j]
    refine zr_iload_n (pc := 28) S dX8_addMachine_28 rfl ?_
    refine zr_iastore (pc := 29) S dX8_addMachine_29 rfl (Nat.le_of_ble_eq_true rfl) (by omega) (by omega) ?_
    refine zr_aload_n (pc := 30) S dX8_addMachine_30 rfl ?_
    refine zr_dup (pc := 31) S dX8_addMachine_31 rfl ?_
    refine zr_getI (pc := 32) S fX8_addMachine_61 dX8_addMachine_32 rfl (Nat.le_of_ble_eq_true rfl) rfl ?_
    try simp only [zup_k, zup_e, ne_eq, Nat.reduceEqDiff, not_false_eq_true, zup_j]
    refine zr_iconst (pc := 35) S dX8_addMachine_35 (by unfold zrI; omega) ?_
    refine zr_iadd (pc := 36) S dX8_addMachine_36 (by unfold zrI; omega) ?_
    refine zr_putI (pc := 37) S pX8_addMachine_61 dX8_addMachine_37 rfl (Nat.le_of_ble_eq_true rfl) rfl ?_
    refine zr_aload_n (pc := 40) S dX8_addMachine_40 rfl ?_
    refine zr_getI (pc := 41) S fX8_addMachine_61 dX8_addMachine_41 rfl (Nat.le_of_ble_eq_true rfl) rfl ?_
    try simp only [zup_k, zup_e, ne_eq, Nat.reduceEqDiff, not_false_eq_true, zup_j]
    refine zr_iconst (pc := 44) S dX8_addMachine_44 (by unfold zrI; omega) ?_
    refine zr_isub (pc := 45) S dX8_addMachine_45 (by unfold zrI; omega) ?_
    exact zr_iret (pc := 46) S dX8_addMachine_46 rfl ⟨Nat.le_refl _, Nat.le_refl _⟩ (zqi hQ (by simp [zup]))
  · rw [if_pos c5, if_pos c5] at hQ
    refine zr_iconst (pc := 8) S dX8_addMachine_8 (by unfold zrI; omega) ?_
    exact zr_iret (pc := 9) S dX8_addMachine_9 rfl ⟨Nat.le_refl _, Nat.le_refl _⟩ (zqi hQ (by simp [zup]))
/-- a row of ints is any cell of that kind -/
def sp_X11_swap (as : List zV) (M : zM) (Q : Option zV → zM → Prop) : Prop := ∃ (k n : Nat) (i v : Int), as = [zR k, zI i, zI v] ∧ (zly k = .inl (0, n)) ∧ (k < zNC) ∧ (0 ≤ i) ∧ (i < n) ∧ Q (some (zI (M k i.toNat))) (zup M k i.toNat v)
theorem us_X11_swap {k n : Nat} {i v : Int} {M : zM} {Q : Option zV → zM → Prop} (hY : zly k = .inl (0, n)) (hk : k < zNC) (h0 : 0 ≤ i) (h1 : i < n) (h99 : Q (some (zI (M k i.toNat))) (zup M k i.toNat v)) : sp_X11_swap [zR k, zI i, zI v] M Q := ⟨k, n, i, v, rfl, hY, hk, h0, h1, h99⟩
set_option maxRecDepth 20000 in
set_option maxHeartbeats 4000000 in
theorem m_X11_swap (l : Launch) : zC l yX11_swap wzX11_swap rmX11_swap sp_X11_swap := by
  refine zMet.of RX11 (by decide +kernel) rfl rfl ?_
  intro E X as M Qp hX S hsp
  obtain ⟨k, n, i, v, rfl, hY, hk, h0, h1, hQ⟩ := hsp
  refine ⟨Nat.le_of_ble_eq_true rfl, ?_⟩
  dsimp only [zpad, zargs]
  refine zr_aload_n (pc := 0) S dX11_swap_0 rfl ?_
  refine zr_iload_n (pc := 1) S dX11_swap_1 rfl ?_
  refine zr_iaload (pc := 2) S dX11_swap_2 hY hk h0 h1 ?_
  refine zr_istore_n (pc := 3) S 3 dX11_swap_3 rfl (by decide) ?_
  dsimp only [zst1, zst2, zset, zget, zlong]
  refine zr_aload_n (pc := 4) S dX11_swap_4 rfl ?_
  refine zr_iload_n (pc := 5) S dX11_swap_5 rfl ?_
  refine zr_iload_n (pc := 6) S dX11_swap_6 rfl ?_
  refine zr_iastore (pc := 7) S dX11_swap_7 hY hk h0 h1 ?_
  refine zr_iload_n (pc := 8) S dX11_swap_8 rfl ?_
  exact zr_iret (pc := 9) S dX11_swap_9 rfl ⟨Nat.le_refl _, Nat.le_refl _⟩ hQ
/-- the cells of the trays -/
def trayOf (k : Nat) : Nat := 172 + 2 * k
def holds (f : Nat → Int) (s : Int) (n : Nat) : Prop := ∀ i, i < n → 0 ≤ f i ∧ f i ≤ s - 1
theorem lp_X10_holdsSorts {E : zE} {X : zX} {Qp : Option zV → zM → Prop} {M : zM} {c m : Nat} {s : Int} (S : zS (zg E) X cX10_holdsSorts 3 wzX10_holdsSorts RX10 (some .boolean)) (hYc : zly c = .inr (10, [0, 0, m + 3])) (hYm : zly m = .inl (1, 20)) (hc : c < zNC) (hm : m < zNC) (hs0 : 0 ≤ s) (hs : s ≤ 8) (h0 : 0 ≤ M c 1) (h1 : M c 1 ≤ 20) (hQ : ∀ r : Int, (r = 1 ↔ holds (M m) s (M c 1).toNat) → (r = 0 ∨ r = 1) → Qp (some (zI r)) M) : ∀ (n i : Nat), (n : Int) + i = M c 1 → (∀ j, j < i → 0 ≤ M m j ∧ M m j ≤ s - 1) → zK (zg E) rmX10_holdsSorts 3 (Qp, 0, 0) X (0, 0) 2 [some (zR c), some (zI s), some (zI i)] [] M := by
  intro n
  induction n with
  | zero =>
    intro i hi hj
    refine zr_iload_n (pc := 2) S dX10_holdsSorts_2 rfl ?_
    refine zr_aload_n (pc := 3) S dX10_holdsSorts_3 rfl ?_
    refine zr_getI (pc := 4) S fX10_holdsSorts_19 dX10_holdsSorts_4 hYc hc rfl ?_
    refine zr_icmp_ge (pc := 7) (tgt := 35) S dX10_holdsSorts_7 (by decide) (fun c7 => ?_) (fun c7 => absurd c7 (by omega))
    refine zr_iconst (pc := 35) S dX10_holdsSorts_35 (by unfold zrI; omega) ?_
    exact zr_zret (pc := 36) S dX10_holdsSorts_36 rfl (by omega) ⟨Nat.le_refl _, Nat.le_refl _⟩ (hQ 1 ⟨fun _ j h => hj j (by omega), fun _ => rfl⟩ (Or.inr rfl))
  | succ n ih =>
    intro i hi hj
    have e : (i : Int).toNat = i := Int.toNat_natCast i
    refine zr_iload_n (pc := 2) S dX10_holdsSorts_2 rfl ?_
    refine zr_aload_n (pc := 3) S dX10_holdsSorts_3 rfl ?_
    refine zr_getI (pc := 4) S fX10_holdsSorts_19 dX10_holdsSorts_4 hYc hc rfl ?_
    refine zr_icmp_ge (pc := 7) (tgt := 35) S dX10_holdsSorts_7 (by decide) (fun c7 => absurd c7 (by omega)) (fun c7 => ?_)
    refine zr_aload_n (pc := 10) S dX10_holdsSorts_10 rfl ?_
    refine zr_getR (pc := 11) S fX10_holdsSorts_15 dX10_holdsSorts_11 hYc hc rfl ?_
    refine zr_iload_n (pc := 14) S dX10_holdsSorts_14 rfl ?_
    refine zr_laload (pc := 15) S dX10_holdsSorts_15 hYm hm (by omega) (by omega) ?_
    rw [e]
    refine zr_lconst0 (pc := 16) S dX10_holdsSorts_16 ?_
    refine zr_iload_n (pc := 17) S dX10_holdsSorts_17 rfl ?_
    refine zr_iconst (pc := 18) S dX10_holdsSorts_18 (by unfold zrI; omega) ?_
    refine zr_isub (pc := 19) S dX10_holdsSorts_19 (by unfold zrI; omega) ?_
    refine zr_i2l (pc := 20) S dX10_holdsSorts_20 ?_
    refine zr_invN (pc := 21) S [zL _, zL _, zL _] (m_X11_within _) (List.mem_of_getElem? (i := 10) rfl) kX10_holdsSorts_28 dX10_holdsSorts_21 (Nat.le_of_ble_eq_true rfl) ⟨Nat.le_of_ble_eq_true rfl, Nat.le_of_ble_eq_true rfl⟩ (us_X11_within ?_)
    dsimp only [zaft, Option.toList, List.cons_append, List.nil_append, Nat.add_zero]
    refine zr_if_ne (pc := 24) (tgt := 29) S dX10_holdsSorts_24 (by decide) (fun c24 => ?_) (fun c24 => ?_)
    · rw [b01_0, Classical.not_not] at c24
      refine zr_iinc (pc := 29) S dX10_holdsSorts_29 rfl (by unfold zrI; omega) (by decide) ?_
      dsimp only [zst1, zst2, zset, zget, zlong]
      refine zr_goto (pc := 32) (tgt := 2) S dX10_holdsSorts_32 (by decide) ?_
      exact ih (i + 1) (by omega) (fun j h => if h2 : j < i then hj j h2 else by rw [show j = i by omega]; exact c24)
    · rw [b01_0] at c24
      refine zr_iconst (pc := 27) S dX10_holdsSorts_27 (by unfold zrI; omega) ?_
      exact zr_zret (pc := 28) S dX10_holdsSorts_28 rfl (by first | omega | exact b01_r) ⟨Nat.le_refl _, Nat.le_refl _⟩ (hQ 0 ⟨fun h => absurd h (by omega), fun h => absurd (h i (by omega)) c24⟩ (Or.inl rfl))
def sp_X10_holdsSorts (as : List zV) (M : zM) (Q : Option zV → zM → Prop) : Prop := ∃ (c m : Nat) (s : Int), as = [zR c, zI s] ∧ (zly c = .inr (10, [0, 0, m + 3])) ∧ (zly m = .inl (1, 20)) ∧ (c < zNC) ∧ (m < zNC) ∧ (0 ≤ s) ∧ (s ≤ 8) ∧ (0 ≤ M c 1) ∧ (M c 1 ≤ 20) ∧ (∀ (r : Option zV) (M' : zM), (∃ v : Int, r = some (zI v) ∧ M' = M ∧ (v = 1 ↔ holds (M m) s (M c 1).toNat) ∧ (v = 0 ∨ v = 1)) → Q r M')
theorem us_X10_holdsSorts {c m : Nat} {s : Int} {M : zM} {Q : Option zV → zM → Prop} (hYc : zly c = .inr (10, [0, 0, m + 3])) (hYm : zly m = .inl (1, 20)) (hc : c < zNC) (hm : m < zNC) (hs0 : 0 ≤ s) (hs : s ≤ 8) (h0 : 0 ≤ M c 1) (h1 : M c 1 ≤ 20) (h99 : (∀ (r : Option zV) (M' : zM), (∃ v : Int, r = some (zI v) ∧ M' = M ∧ (v = 1 ↔ holds (M m) s (M c 1).toNat) ∧ (v = 0 ∨ v = 1)) → Q r M')) : sp_X10_holdsSorts [zR c, zI s] M Q := ⟨c, m, s, rfl, hYc, hYm, hc, hm, hs0, hs, h0, h1, h99⟩
set_option maxRecDepth 20000 in
set_option maxHeartbeats 4000000 in
theorem m_X10_holdsSorts (l : Launch) : zC l yX10_holdsSorts wzX10_holdsSorts rmX10_holdsSorts sp_X10_holdsSorts := by
  refine zMet.of RX10 (by decide +kernel) rfl rfl ?_
  intro E X as M Qp hX S hsp
  obtain ⟨c, m, s, rfl, hYc, hYm, hc, hm, hs0, hs, h0, h1, hQ⟩ := hsp
  refine ⟨Nat.le_of_ble_eq_true rfl, ?_⟩
  dsimp only [zpad, zargs]
  refine zr_iconst (pc := 0) S dX10_holdsSorts_0 (by unfold zrI; omega) ?_
  refine zr_istore_n (pc := 1) S 2 dX10_holdsSorts_1 rfl (by decide) ?_
  dsimp only [zst1, zst2, zset, zget, zlong]
  exact lp_X10_holdsSorts S hYc hYm hc hm hs0 hs h0 h1 (fun r a b => hQ _ _ ⟨r, rfl, rfl, a, b⟩) (M c 1).toNat 0 (by omega) (fun j h => absurd h (by omega))
end
