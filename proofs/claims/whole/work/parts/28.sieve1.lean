section
/-- bounds of what gates hold -/
def ICg (M : zM) : Prop := (0 ≤ M 11 0 ∧ M 11 0 ≤ 8) ∧ ∀ g : Nat, g < 8 → 0 ≤ M 12 g ∧ M 12 g ≤ 2 ∧ 0 ≤ M 13 g ∧ M 13 g ≤ 99 ∧ 0 ≤ M 14 g ∧ M 14 g ≤ 99 ∧ -3 ≤ M 15 g ∧ M 15 g ≤ 7 ∧ -3 ≤ M 16 g ∧ M 16 g ≤ 7
theorem ICg.v {M : zM} (h : ICg M) {g : Int} (h0 : 0 ≤ g) (h1 : g < 8) : 0 ≤ M 12 g.toNat ∧ M 12 g.toNat ≤ 2 ∧ 0 ≤ M 13 g.toNat ∧ M 13 g.toNat ≤ 99 ∧ 0 ≤ M 14 g.toNat ∧ M 14 g.toNat ≤ 99 ∧ -3 ≤ M 15 g.toNat ∧ M 15 g.toNat ≤ 7 ∧ -3 ≤ M 16 g.toNat ∧ M 16 g.toNat ≤ 7 := h.2 g.toNat (by omega)
def lowAt (M : zM) (g : Nat) : Int := if M 12 g = 2 ∧ 0 < M 13 g then M 13 g - M 3 2 else M 13 g
def highAt (M : zM) (g : Nat) : Int := if M 12 g = 2 ∧ M 14 g < 99 then M 14 g - M 3 2 else M 14 g
theorem lowAt_r {M : zM} (h : ICg M) (hs : ICs M) {g : Nat} (hg : g < 8) : -10 ≤ lowAt M g ∧ lowAt M g ≤ 109 := by
  have a := h.2 g hg
  have b := hs.2.1
  unfold lowAt
  split <;> omega
theorem highAt_r {M : zM} (h : ICg M) (hs : ICs M) {g : Nat} (hg : g < 8) : -10 ≤ highAt M g ∧ highAt M g ≤ 109 := by
  have a := h.2 g hg
  have b := hs.2.1
  unfold highAt
  split <;> omega
def rmX6_lowAt : Room := { frames := 0, cells := 0, slots := 0, locals := 0 }
abbrev wzX6_lowAt : List Cond := .code yX6_lowAt cX6_lowAt 3 (some .int) :: zW
def rmX6_highAt : Room := { frames := 0, cells := 0, slots := 0, locals := 0 }
abbrev wzX6_highAt : List Cond := .code yX6_highAt cX6_highAt 3 (some .int) :: zW
def rmX6_goalOf : Room := { frames := 2, cells := 0, slots := 0, locals := 46 }
abbrev wzX6_goalOf : List Cond := .code yX6_goalOf cX6_goalOf 4 (some .int) :: zW
def rmX6_takes : Room := { frames := 3, cells := 0, slots := 0, locals := 69 }
abbrev wzX6_takes : List Cond := .code yX6_takes cX6_takes 8 (some .int) :: zW
def rmX6_learn : Room := { frames := 3, cells := 0, slots := 0, locals := 69 }
abbrev wzX6_learn : List Cond := .code yX6_learn cX6_learn 2 none :: zW
theorem fX6_lowAt_32 : zfl wzX6_lowAt RX6 vwCl 32 6 1 := ⟨_, _, _, rfl, (fun w h => List.mem_cons_of_mem _ (zWuX6 w h)), by decide, List.mem_cons_of_mem _ (zWi_11 _ (List.mem_of_getElem? (i := 3) rfl))⟩
theorem fX6_lowAt_67 : zfl wzX6_lowAt RX6 vwCl 67 2 2 := ⟨_, _, _, rfl, (fun w h => List.mem_cons_of_mem _ (zWuX2 w h)), by decide, List.mem_cons_of_mem _ (zWi_11 _ (List.mem_of_getElem? (i := 8) rfl))⟩
theorem fX6_lowAt_42 : zfl wzX6_lowAt RX6 vwCl 42 2 1 := ⟨_, _, _, rfl, (fun w h => List.mem_cons_of_mem _ (zWuX2 w h)), by decide, List.mem_cons_of_mem _ (zWi_11 _ (List.mem_of_getElem? (i := 5) rfl))⟩
theorem fX6_lowAt_28 : zfl wzX6_lowAt RX6 vwCl 28 6 0 := ⟨_, _, _, rfl, (fun w h => List.mem_cons_of_mem _ (zWuX6 w h)), by decide, List.mem_cons_of_mem _ (zWi_11 _ (List.mem_of_getElem? (i := 2) rfl))⟩
theorem fX6_lowAt_70 : zfl wzX6_lowAt RX6 vwCl 70 7 1 := ⟨_, _, _, rfl, (fun w h => List.mem_cons_of_mem _ (zWuX7 w h)), by decide, List.mem_cons_of_mem _ (zWi_11 _ (List.mem_of_getElem? (i := 9) rfl))⟩
theorem fX6_highAt_32 : zfl wzX6_highAt RX6 vwCl 32 6 1 := ⟨_, _, _, rfl, (fun w h => List.mem_cons_of_mem _ (zWuX6 w h)), by decide, List.mem_cons_of_mem _ (zWi_11 _ (List.mem_of_getElem? (i := 3) rfl))⟩
theorem fX6_highAt_73 : zfl wzX6_highAt RX6 vwCl 73 2 3 := ⟨_, _, _, rfl, (fun w h => List.mem_cons_of_mem _ (zWuX2 w h)), by decide, List.mem_cons_of_mem _ (zWi_11 _ (List.mem_of_getElem? (i := 10) rfl))⟩
theorem fX6_highAt_42 : zfl wzX6_highAt RX6 vwCl 42 2 1 := ⟨_, _, _, rfl, (fun w h => List.mem_cons_of_mem _ (zWuX2 w h)), by decide, List.mem_cons_of_mem _ (zWi_11 _ (List.mem_of_getElem? (i := 5) rfl))⟩
theorem fX6_highAt_28 : zfl wzX6_highAt RX6 vwCl 28 6 0 := ⟨_, _, _, rfl, (fun w h => List.mem_cons_of_mem _ (zWuX6 w h)), by decide, List.mem_cons_of_mem _ (zWi_11 _ (List.mem_of_getElem? (i := 2) rfl))⟩
theorem fX6_highAt_70 : zfl wzX6_highAt RX6 vwCl 70 7 1 := ⟨_, _, _, rfl, (fun w h => List.mem_cons_of_mem _ (zWuX7 w h)), by decide, List.mem_cons_of_mem _ (zWi_11 _ (List.mem_of_getElem? (i := 9) rfl))⟩
theorem fX6_goalOf_32 : zfl wzX6_goalOf RX6 vwCl 32 6 1 := ⟨_, _, _, rfl, (fun w h => List.mem_cons_of_mem _ (zWuX6 w h)), by decide, List.mem_cons_of_mem _ (zWi_11 _ (List.mem_of_getElem? (i := 3) rfl))⟩
theorem fX6_goalOf_36 : zfl wzX6_goalOf RX6 vwCl 36 2 0 := ⟨_, _, _, rfl, (fun w h => List.mem_cons_of_mem _ (zWuX2 w h)), by decide, List.mem_cons_of_mem _ (zWi_11 _ (List.mem_of_getElem? (i := 4) rfl))⟩
theorem fX6_goalOf_55 : zfl wzX6_goalOf RX6 vwCl 55 2 4 := ⟨_, _, _, rfl, (fun w h => List.mem_cons_of_mem _ (zWuX2 w h)), by decide, List.mem_cons_of_mem _ (zWi_11 _ (List.mem_of_getElem? (i := 6) rfl))⟩
theorem fX6_goalOf_58 : zfl wzX6_goalOf RX6 vwCl 58 2 5 := ⟨_, _, _, rfl, (fun w h => List.mem_cons_of_mem _ (zWuX2 w h)), by decide, List.mem_cons_of_mem _ (zWi_11 _ (List.mem_of_getElem? (i := 7) rfl))⟩
theorem fX6_goalOf_28 : zfl wzX6_goalOf RX6 vwCl 28 6 0 := ⟨_, _, _, rfl, (fun w h => List.mem_cons_of_mem _ (zWuX6 w h)), by decide, List.mem_cons_of_mem _ (zWi_11 _ (List.mem_of_getElem? (i := 2) rfl))⟩
theorem kX6_goalOf_61 : ∀ (s9 : State) (a9 : Array Value), (∀ w ∈ wzX6_goalOf, w.before a9 s9 = true) → CallW rmX6_goalOf s9 a9 RX6 RX7 61 yX7_isGood cX7_isGood 2 (some .boolean) wzX7_isGood rmX7_isGood 0 0 1 := zcV (zWi_24 _ (List.mem_of_getElem? (i := 34) rfl)) (zWi_16 _ (List.mem_of_getElem? (i := 48) rfl)) (zWi_29 _ (List.mem_of_getElem? (i := 24) rfl)) (zWi_12 _ (List.mem_of_getElem? (i := 19) rfl)) (zWi_5 _ (List.mem_of_getElem? (i := 32) rfl)) (by decide +kernel) rfl rfl ⟨Nat.le_of_ble_eq_true rfl, Nat.le_of_ble_eq_true rfl⟩
theorem fX6_takes_32 : zfl wzX6_takes RX6 vwCl 32 6 1 := ⟨_, _, _, rfl, (fun w h => List.mem_cons_of_mem _ (zWuX6 w h)), by decide, List.mem_cons_of_mem _ (zWi_11 _ (List.mem_of_getElem? (i := 3) rfl))⟩
theorem fX6_takes_36 : zfl wzX6_takes RX6 vwCl 36 2 0 := ⟨_, _, _, rfl, (fun w h => List.mem_cons_of_mem _ (zWuX2 w h)), by decide, List.mem_cons_of_mem _ (zWi_11 _ (List.mem_of_getElem? (i := 4) rfl))⟩
theorem fX6_takes_42 : zfl wzX6_takes RX6 vwCl 42 2 1 := ⟨_, _, _, rfl, (fun w h => List.mem_cons_of_mem _ (zWuX2 w h)), by decide, List.mem_cons_of_mem _ (zWi_11 _ (List.mem_of_getElem? (i := 5) rfl))⟩
theorem kX6_takes_45 : ∀ (s9 : State) (a9 : Array Value), (∀ w ∈ wzX6_takes, w.before a9 s9 = true) → CallW rmX6_takes s9 a9 RX6 RX6 45 yX6_lowAt cX6_lowAt 3 (some .int) wzX6_lowAt rmX6_lowAt 0 0 1 := zcV (zWi_24 _ (List.mem_of_getElem? (i := 31) rfl)) (zWi_16 _ (List.mem_of_getElem? (i := 37) rfl)) (zWi_29 _ (List.mem_of_getElem? (i := 14) rfl)) (zWi_12 _ (List.mem_of_getElem? (i := 18) rfl)) (zWi_5 _ (List.mem_of_getElem? (i := 21) rfl)) (by decide +kernel) rfl rfl ⟨Nat.le_of_ble_eq_true rfl, Nat.le_of_ble_eq_true rfl⟩
theorem kX6_takes_49 : ∀ (s9 : State) (a9 : Array Value), (∀ w ∈ wzX6_takes, w.before a9 s9 = true) → CallW rmX6_takes s9 a9 RX6 RX6 49 yX6_highAt cX6_highAt 3 (some .int) wzX6_highAt rmX6_highAt 0 0 1 := zcV (zWi_24 _ (List.mem_of_getElem? (i := 32) rfl)) (zWi_16 _ (List.mem_of_getElem? (i := 33) rfl)) (zWi_29 _ (List.mem_of_getElem? (i := 11) rfl)) (zWi_12 _ (List.mem_of_getElem? (i := 18) rfl)) (zWi_5 _ (List.mem_of_getElem? (i := 17) rfl)) (by decide +kernel) rfl rfl ⟨Nat.le_of_ble_eq_true rfl, Nat.le_of_ble_eq_true rfl⟩
theorem kX6_takes_52 : ∀ (s9 : State) (a9 : Array Value), (∀ w ∈ wzX6_takes, w.before a9 s9 = true) → CallW rmX6_takes s9 a9 RX6 RX6 52 yX6_goalOf cX6_goalOf 4 (some .int) wzX6_goalOf rmX6_goalOf 0 0 1 := zcV (zWi_24 _ (List.mem_of_getElem? (i := 33) rfl)) (zWi_16 _ (List.mem_of_getElem? (i := 32) rfl)) (zWi_29 _ (List.mem_of_getElem? (i := 10) rfl)) (zWi_12 _ (List.mem_of_getElem? (i := 18) rfl)) (zWi_5 _ (List.mem_of_getElem? (i := 16) rfl)) (by decide +kernel) rfl rfl ⟨Nat.le_of_ble_eq_true rfl, Nat.le_of_ble_eq_true rfl⟩
theorem fX6_learn_32 : zfl wzX6_learn RX6 vwCl 32 6 1 := ⟨_, _, _, rfl, (fun w h => List.mem_cons_of_mem _ (zWuX6 w h)), by decide, List.mem_cons_of_mem _ (zWi_11 _ (List.mem_of_getElem? (i := 3) rfl))⟩
theorem fX6_learn_36 : zfl wzX6_learn RX6 vwCl 36 2 0 := ⟨_, _, _, rfl, (fun w h => List.mem_cons_of_mem _ (zWuX2 w h)), by decide, List.mem_cons_of_mem _ (zWi_11 _ (List.mem_of_getElem? (i := 4) rfl))⟩
theorem fX6_learn_15 : zfl wzX6_learn RX6 vwCl 15 6 3 := ⟨_, _, _, rfl, (fun w h => List.mem_cons_of_mem _ (zWuX6 w h)), by decide, List.mem_cons_of_mem _ (zWi_10 _ (List.mem_of_getElem? (i := 48) rfl))⟩
theorem kX6_learn_52 : ∀ (s9 : State) (a9 : Array Value), (∀ w ∈ wzX6_learn, w.before a9 s9 = true) → CallW rmX6_learn s9 a9 RX6 RX6 52 yX6_goalOf cX6_goalOf 4 (some .int) wzX6_goalOf rmX6_goalOf 0 0 1 := zcV (zWi_24 _ (List.mem_of_getElem? (i := 33) rfl)) (zWi_16 _ (List.mem_of_getElem? (i := 32) rfl)) (zWi_29 _ (List.mem_of_getElem? (i := 10) rfl)) (zWi_12 _ (List.mem_of_getElem? (i := 18) rfl)) (zWi_5 _ (List.mem_of_getElem? (i := 16) rfl)) (by decide +kernel) rfl rfl ⟨Nat.le_of_ble_eq_true rfl, Nat.le_of_ble_eq_true rfl⟩
def sp_X6_lowAt (as : List zV) (M : zM) (Q : Option zV → zM → Prop) : Prop := ∃ (g : Int), as = [zR 47, zI g] ∧ (ICg M) ∧ (ICs M) ∧ (0 ≤ g) ∧ (g < 8) ∧ Q (some (zI (lowAt M g.toNat))) (M)
theorem us_X6_lowAt {g : Int} {M : zM} {Q : Option zV → zM → Prop} (hg : ICg M) (hs : ICs M) (h0 : 0 ≤ g) (h1 : g < 8) (h99 : Q (some (zI (lowAt M g.toNat))) (M)) : sp_X6_lowAt [zR 47, zI g] M Q := ⟨g, rfl, hg, hs, h0, h1, h99⟩
set_option maxRecDepth 20000 in
set_option maxHeartbeats 4000000 in
theorem m_X6_lowAt (l : Launch) : zC l yX6_lowAt wzX6_lowAt rmX6_lowAt sp_X6_lowAt := by
  refine zMet.of RX6 (by decide +kernel) rfl rfl ?_
  intro E X as M Qp hX S hsp
  obtain ⟨g, rfl, hg, hs, h0, h1, hQ⟩ := hsp
  refine ⟨Nat.le_of_ble_eq_true rfl, ?_⟩
  dsimp only [zpad, zargs]
  have a := hg.v h0 h1
  have b := hs.2.1
  unfold lowAt at hQ
  refine zr_aload_n (pc := 0) S dX6_lowAt_0 rfl ?_
  refine zr_getR (pc := 1) S fX6_lowAt_32 dX6_lowAt_1 rfl (Nat.le_of_ble_eq_true rfl) rfl ?_
  refine zr_getR (pc := 4) S fX6_lowAt_67 dX6_lowAt_4 rfl (Nat.le_of_ble_eq_true rfl) rfl ?_
  refine zr_iload_n (pc := 7) S dX6_lowAt_7 rfl ?_
  refine zr_iaload (pc := 8) S dX6_lowAt_8 rfl (Nat.le_of_ble_eq_true rfl) (by omega) (by omega) ?_
  refine zr_istore_n (pc := 9) S 2 dX6_lowAt_9 rfl (by decide) ?_
  dsimp only [zst1, zst2, zset, zget, zlong]
  refine zr_aload_n (pc := 10) S dX6_lowAt_10 rfl ?_
  refine zr_getR (pc := 11) S fX6_lowAt_32 dX6_lowAt_11 rfl (Nat.le_of_ble_eq_true rfl) rfl ?_
  refine zr_getR (pc := 14) S fX6_lowAt_42 dX6_lowAt_14 rfl (Nat.le_of_ble_eq_true rfl) rfl ?_
  refine zr_iload_n (pc := 17) S dX6_lowAt_17 rfl ?_
  refine zr_iaload (pc := 18) S dX6_lowAt_18 rfl (Nat.le_of_ble_eq_true rfl) (by omega) (by omega) ?_
  refine zr_iconst (pc := 19) S dX6_lowAt_19 (by unfold zrI; omega) ?_
  refine zr_icmp_ne (pc := 20) (tgt := 27) S dX6_lowAt_20 (by decide) (fun c20 => ?_) (fun c20 => ?_)
  · refine zr_iload_n (pc := 27) S dX6_lowAt_27 rfl ?_
    refine zr_goto (pc := 28) (tgt := 42) S dX6_lowAt_28 (by decide) ?_
    exact zr_iret (pc := 42) S dX6_lowAt_42 rfl ⟨Nat.le_refl _, Nat.le_refl _⟩ (zqi hQ (by first | rw [if_pos (by omega)] | rw [if_neg (by omega)]))
  · refine zr_iload_n (pc := 23) S dX6_lowAt_23 rfl ?_
    refine zr_if_gt (pc := 24) (tgt := 31) S dX6_lowAt_24 (by decide) (fun c24 => ?_) (fun c24 => ?_)
    · refine zr_iload_n (pc := 31) S dX6_lowAt_31 rfl ?_
      refine zr_aload_n (pc := 32) S dX6_lowAt_32 rfl ?_
      refine zr_getR (pc := 33) S fX6_lowAt_28 dX6_lowAt_33 rfl (Nat.le_of_ble_eq_true rfl) rfl ?_
      refine zr_getR (pc := 36) S fX6_lowAt_70 dX6_lowAt_36 rfl (Nat.le_of_ble_eq_true rfl) rfl ?_
      refine zr_iconst (pc := 39) S dX6_lowAt_39 (by unfold zrI; omega) ?_
      refine zr_iaload (pc := 40) S dX6_lowAt_40 rfl (Nat.le_of_ble_eq_true rfl) (by omega) (by omega) ?_
      dsimp only [Int.reduceToNat]
      refine zr_isub (pc := 41) S dX6_lowAt_41 (by unfold zrI; omega) ?_
      exact zr_iret (pc := 42) S dX6_lowAt_42 rfl ⟨Nat.le_refl _, Nat.le_refl _⟩ (zqi hQ (by first | rw [if_pos (by omega)] | rw [if_neg (by omega)]))
    · refine zr_iload_n (pc := 27) S dX6_lowAt_27 rfl ?_
      refine zr_goto (pc := 28) (tgt := 42) S dX6_lowAt_28 (by decide) ?_
      exact zr_iret (pc := 42) S dX6_lowAt_42 rfl ⟨Nat.le_refl _, Nat.le_refl _⟩ (zqi hQ (by first | rw [if_pos (by omega)] | rw [if_neg (by omega)]))
def sp_X6_highAt (as : List zV) (M : zM) (Q : Option zV → zM → Prop) : Prop := ∃ (g : Int), as = [zR 47, zI g] ∧ (ICg M) ∧ (ICs M) ∧ (0 ≤ g) ∧ (g < 8) ∧ Q (some (zI (highAt M g.toNat))) (M)
theorem us_X6_highAt {g : Int} {M : zM} {Q : Option zV → zM → Prop} (hg : ICg M) (hs : ICs M) (h0 : 0 ≤ g) (h1 : g < 8) (h99 : Q (some (zI (highAt M g.toNat))) (M)) : sp_X6_highAt [zR 47, zI g] M Q := ⟨g, rfl, hg, hs, h0, h1, h99⟩
set_option maxRecDepth 20000 in
set_option maxHeartbeats 4000000 in
theorem m_X6_highAt (l : Launch) : zC l yX6_highAt wzX6_highAt rmX6_highAt sp_X6_highAt := by
  refine zMet.of RX6 (by decide +kernel) rfl rfl ?_
  intro E X as M Qp hX S hsp
  obtain ⟨g, rfl, hg, hs, h0, h1, hQ⟩ := hsp
  refine ⟨Nat.le_of_ble_eq_true rfl, ?_⟩
  dsimp only [zpad, zargs]
  have a := hg.v h0 h1
  have b := hs.2.1
  unfold highAt at hQ
  refine zr_aload_n (pc := 0) S dX6_highAt_0 rfl ?_
  refine zr_getR (pc := 1) S fX6_highAt_32 dX6_highAt_1 rfl (Nat.le_of_ble_eq_true rfl) rfl ?_
  refine zr_getR (pc := 4) S fX6_highAt_73 dX6_highAt_4 rfl (Nat.le_of_ble_eq_true rfl) rfl ?_
  refine zr_iload_n (pc := 7) S dX6_highAt_7 rfl ?_
  refine zr_iaload (pc := 8) S dX6_highAt_8 rfl (Nat.le_of_ble_eq_true rfl) (by omega) (by omega) ?_
  refine zr_istore_n (pc := 9) S 2 dX6_highAt_9 rfl (by decide) ?_
  dsimp only [zst1, zst2, zset, zget, zlong]
  refine zr_aload_n (pc := 10) S dX6_highAt_10 rfl ?_
  refine zr_getR (pc := 11) S fX6_highAt_32 dX6_highAt_11 rfl (Nat.le_of_ble_eq_true rfl) rfl ?_
  refine zr_getR (pc := 14) S fX6_highAt_42 dX6_highAt_14 rfl (Nat.le_of_ble_eq_true rfl) rfl ?_
  refine zr_iload_n (pc := 17) S dX6_highAt_17 rfl ?_
  refine zr_iaload (pc := 18) S dX6_highAt_18 rfl (Nat.le_of_ble_eq_true rfl) (by omega) (by omega) ?_
  refine zr_iconst (pc := 19) S dX6_highAt_19 (by unfold zrI; omega) ?_
  refine zr_icmp_ne (pc := 20) (tgt := 29) S dX6_highAt_20 (by decide) (fun c20 => ?_) (fun c20 => ?_)
  · refine zr_iload_n (pc := 29) S dX6_highAt_29 rfl ?_
    refine zr_goto (pc := 30) (tgt := 44) S dX6_highAt_30 (by decide) ?_
    exact zr_iret (pc := 44) S dX6_highAt_44 rfl ⟨Nat.le_refl _, Nat.le_refl _⟩ (zqi hQ (by first | rw [if_pos (by omega)] | rw [if_neg (by omega)]))
  · refine zr_iload_n (pc := 23) S dX6_highAt_23 rfl ?_
    refine zr_bipush (pc := 24) S dX6_highAt_24 ⟨by unfold zrI; omega, by decide⟩ ?_
    refine zr_icmp_lt (pc := 26) (tgt := 33) S dX6_highAt_26 (by decide) (fun c26 => ?_) (fun c26 => ?_)
    · refine zr_iload_n (pc := 33) S dX6_highAt_33 rfl ?_
      refine zr_aload_n (pc := 34) S dX6_highAt_34 rfl ?_
      refine zr_getR (pc := 35) S fX6_highAt_28 dX6_highAt_35 rfl (Nat.le_of_ble_eq_true rfl) rfl ?_
      refine zr_getR (pc := 38) S fX6_highAt_70 dX6_highAt_38 rfl (Nat.le_of_ble_eq_true rfl) rfl ?_
      refine zr_iconst (pc := 41) S dX6_highAt_41 (by unfold zrI; omega) ?_
      refine zr_iaload (pc := 42) S dX6_highAt_42 rfl (Nat.le_of_ble_eq_true rfl) (by omega) (by omega) ?_
      dsimp only [Int.reduceToNat]
      refine zr_isub (pc := 43) S dX6_highAt_43 (by unfold zrI; omega) ?_
      exact zr_iret (pc := 44) S dX6_highAt_44 rfl ⟨Nat.le_refl _, Nat.le_refl _⟩ (zqi hQ (by first | rw [if_pos (by omega)] | rw [if_neg (by omega)]))
    · refine zr_iload_n (pc := 29) S dX6_highAt_29 rfl ?_
      refine zr_goto (pc := 30) (tgt := 44) S dX6_highAt_30 (by decide) ?_
      exact zr_iret (pc := 44) S dX6_highAt_44 rfl ⟨Nat.le_refl _, Nat.le_refl _⟩ (zqi hQ (by first | rw [if_pos (by omega)] | rw [if_neg (by omega)]))
/-- where a coin goes from gate g on, by what it is within -/
def gw (M : zM) (p : Nat → Bool) : Nat → Nat → Int
  | 0, _ => -1
  | f + 1, g => if (g : Int) < M 11 0 then
      (if (if p g = true then M 15 g else M 16 g) = -2 then gw M p f (g + 1)
       else if (if p g = true then M 15 g else M 16 g) = -3 then gw M p f (g + 2)
       else if isGood M (if p g = true then M 15 g else M 16 g) then (if p g = true then M 15 g else M 16 g) else -1)
    else -1
def gl (M : zM) (n : Nat) : Int := gw M (fun g => n.testBit g) 9 0
theorem gw_cong {M : zM} {p p' : Nat → Bool} (h : ∀ g : Nat, (g : Int) < M 11 0 → p g = p' g) : ∀ f g, gw M p f g = gw M p' f g
  | 0, _ => rfl
  | f + 1, g => by
    simp only [gw]
    by_cases c : (g : Int) < M 11 0
    · rw [if_pos c, if_pos c, h g c, gw_cong h f (g + 1), gw_cong h f (g + 2)]
    · rw [if_neg c, if_neg c]
theorem gw_r {M : zM} (h : ICg M) (p : Nat → Bool) : ∀ f g, -1 ≤ gw M p f g ∧ gw M p f g ≤ 7
  | 0, _ => by simp [gw]
  | f + 1, g => by
    have a := gw_r h p f (g + 1)
    have b := gw_r h p f (g + 2)
    have c0 := h.1
    simp only [gw]
    by_cases c : (g : Int) < M 11 0
    · have d := h.2 g (by omega)
      rw [if_pos c]
      by_cases hp : p g = true
      · simp only [hp, if_true]
        split
        · exact a
        · split
          · exact b
          · split
            · omega
            · omega
      · simp only [hp, if_false, Bool.false_eq_true]
        split
        · exact a
        · split
          · exact b
          · split
            · omega
            · omega
    · rw [if_neg c]; omega
theorem tb_mod (n g : Nat) : ((n : Int) / 2 ^ g % 2 ^ 1 = 1) ↔ n.testBit g = true := by
  rw [Nat.testBit_eq_decide_div_mod_eq, decide_eq_true_eq]
  have e : (n : Int) / 2 ^ g % 2 ^ 1 = ((n / 2 ^ g % 2 : Nat) : Int) := by simp
  rw [e]
  omega
theorem lp_X6_goalOf {E : zE} {X : zX} {Qp : Option zV → zM → Prop} {M : zM} {n : Nat} (S : zS (zg E) X cX6_goalOf 4 wzX6_goalOf RX6 (some .int)) (hg : ICg M) (hs : ICs M) (hn : n < 256) : ∀ (f g : Nat) (u : Option zV), 9 ≤ f + g → g ≤ 9 → Qp (some (zI (gw M (fun g => n.testBit g) f g))) M → zK (zg E) rmX6_goalOf 4 (Qp, 0, 0) X (0, 0) 2 [some (zR 47), some (zI n), some (zI g), u] [] M := by
  have h8 := hg.1
  intro f
  induction f with
  | zero =>
    intro g u h1 h2 hQ
    refine zr_iload_n (pc := 2) S dX6_goalOf_2 rfl ?_
    refine zr_aload_n (pc := 3) S dX6_goalOf_3 rfl ?_
    refine zr_getR (pc := 4) S fX6_goalOf_32 dX6_goalOf_4 rfl (Nat.le_of_ble_eq_true rfl) rfl ?_
    refine zr_getI (pc := 7) S fX6_goalOf_36 dX6_goalOf_7 rfl (Nat.le_of_ble_eq_true rfl) rfl ?_
    refine zr_icmp_ge (pc := 10) (tgt := 90) S dX6_goalOf_10 (by decide) (fun c10 => ?_) (fun c10 => absurd c10 (by omega))
    refine zr_iconst (pc := 90) S dX6_goalOf_90 (by unfold zrI; omega) ?_
    exact zr_iret (pc := 91) S dX6_goalOf_91 rfl ⟨Nat.le_refl _, Nat.le_refl _⟩ (hQ)
  | succ f ih =>
    intro g u h1 h2 hQ
    simp only [gw] at hQ
    have e : (g : Int).toNat = g := Int.toNat_natCast g
    by_cases c : (g : Int) < M 11 0
    · rw [if_pos c] at hQ
      have a := hg.2 g (by omega)
      have t := tb_mod n g
      refine zr_iload_n (pc := 2) S dX6_goalOf_2 rfl ?_
      refine zr_aload_n (pc := 3) S dX6_goalOf_3 rfl ?_
      refine zr_getR (pc := 4) S fX6_goalOf_32 dX6_goalOf_4 rfl (Nat.le_of_ble_eq_true rfl) rfl ?_
      refine zr_getI (pc := 7) S fX6_goalOf_36 dX6_goalOf_7 rfl (Nat.le_of_ble_eq_true rfl) rfl ?_
      refine zr_icmp_ge (pc := 10) (tgt := 90) S dX6_goalOf_10 (by decide) (fun c10 => absurd c10 (by omega)) (fun c10 => ?_)
      refine zr_iload_n (pc := 13) S dX6_goalOf_13 rfl ?_
      refine zr_iload_n (pc := 14) S dX6_goalOf_14 rfl ?_
      refine zr_ishr (pc := 15) S dX6_goalOf_15 (by omega) (by omega) ?_
      rw [e]
      refine zr_iconst (pc := 16) S dX6_goalOf_16 (by unfold zrI; omega) ?_
      refine zr_iandm (pc := 17) S 1 dX6_goalOf_17 (by decide) rfl ?_
      refine zr_iconst (pc := 18) S dX6_goalOf_18 (by unfold zrI; omega) ?_
      refine zr_icmp_ne (pc := 19) (tgt := 34) S dX6_goalOf_19 (by decide) (fun c19 => ?_) (fun c19 => ?_)
      · have hb : n.testBit g = false := by
          cases hq : n.testBit g
          · rfl
          · exact absurd (t.mpr hq) c19
        simp only [hb, Bool.false_eq_true, if_false] at hQ
        refine zr_aload_n (pc := 34) S dX6_goalOf_34 rfl ?_
        refine zr_getR (pc := 35) S fX6_goalOf_32 dX6_goalOf_35 rfl (Nat.le_of_ble_eq_true rfl) rfl ?_
        refine zr_getR (pc := 38) S fX6_goalOf_58 dX6_goalOf_38 rfl (Nat.le_of_ble_eq_true rfl) rfl ?_
        refine zr_iload_n (pc := 41) S dX6_goalOf_41 rfl ?_
        refine zr_iaload (pc := 42) S dX6_goalOf_42 rfl (Nat.le_of_ble_eq_true rfl) (by omega) (by omega) ?_
        rw [e]
        refine zr_istore_n (pc := 43) S 3 dX6_goalOf_43 rfl (by decide) ?_
        dsimp only [zst1, zst2, zset, zget, zlong]
        refine zr_iload_n (pc := 44) S dX6_goalOf_44 rfl ?_
        refine zr_bipush (pc := 45) S dX6_goalOf_45 ⟨by unfold zrI; omega, by decide⟩ ?_
        refine zr_icmp_eq (pc := 47) (tgt := 73) S dX6_goalOf_47 (by decide) (fun c47 => ?_) (fun c47 => ?_)
        · rw [if_pos c47] at hQ
          refine zr_iload_n (pc := 73) S dX6_goalOf_73 rfl ?_
          refine zr_iload_n (pc := 74) S dX6_goalOf_74 rfl ?_
          refine zr_bipush (pc := 75) S dX6_goalOf_75 ⟨by unfold zrI; omega, by decide⟩ ?_
          refine zr_icmp_ne (pc := 77) (tgt := 84) S dX6_goalOf_77 (by decide) (fun c77 => ?_) (fun c77 => ?_)
          · skip
            refine zr_iconst (pc := 84) S dX6_goalOf_84 (by unfold zrI; omega) ?_
            refine zr_iadd (pc := 85) S dX6_goalOf_85 (by unfold zrI; omega) ?_
            refine zr_istore_n (pc := 86) S 2 dX6_goalOf_86 rfl (by decide) ?_
            dsimp only [zst1, zst2, zset, zget, zlong]
            refine zr_goto (pc := 87) (tgt := 2) S dX6_goalOf_87 (by decide) ?_
            first
              | exact ih (g + 1) _ (by omega) (by omega) hQ
              | exact ih (g + 2) _ (by omega) (by omega) hQ
              | (exfalso; omega)
          · skip
            refine zr_iconst (pc := 80) S dX6_goalOf_80 (by unfold zrI; omega) ?_
            refine zr_goto (pc := 81) (tgt := 85) S dX6_goalOf_81 (by decide) ?_
            refine zr_iadd (pc := 85) S dX6_goalOf_85 (by unfold zrI; omega) ?_
            refine zr_istore_n (pc := 86) S 2 dX6_goalOf_86 rfl (by decide) ?_
            dsimp only [zst1, zst2, zset, zget, zlong]
            refine zr_goto (pc := 87) (tgt := 2) S dX6_goalOf_87 (by decide) ?_
            first
              | exact ih (g + 1) _ (by omega) (by omega) hQ
              | exact ih (g + 2) _ (by omega) (by omega) hQ
              | (exfalso; omega)
        · rw [if_neg c47] at hQ
          refine zr_iload_n (pc := 50) S dX6_goalOf_50 rfl ?_
          refine zr_bipush (pc := 51) S dX6_goalOf_51 ⟨by unfold zrI; omega, by decide⟩ ?_
          refine zr_icmp_eq (pc := 53) (tgt := 73) S dX6_goalOf_53 (by decide) (fun c53 => ?_) (fun c53 => ?_)
          · rw [if_pos c53] at hQ
            refine zr_iload_n (pc := 73) S dX6_goalOf_73 rfl ?_
            refine zr_iload_n (pc := 74) S dX6_goalOf_74 rfl ?_
            refine zr_bipush (pc := 75) S dX6_goalOf_75 ⟨by unfold zrI; omega, by decide⟩ ?_
            refine zr_icmp_ne (pc := 77) (tgt := 84) S dX6_goalOf_77 (by decide) (fun c77 => ?_) (fun c77 => ?_)
            · skip
              refine zr_iconst (pc := 84) S dX6_goalOf_84 (by unfold zrI; omega) ?_
              refine zr_iadd (pc := 85) S dX6_goalOf_85 (by unfold zrI; omega) ?_
              refine zr_istore_n (pc := 86) S 2 dX6_goalOf_86 rfl (by decide) ?_
              dsimp only [zst1, zst2, zset, zget, zlong]
              refine zr_goto (pc := 87) (tgt := 2) S dX6_goalOf_87 (by decide) ?_
              first
                | exact ih (g + 1) _ (by omega) (by omega) hQ
                | exact ih (g + 2) _ (by omega) (by omega) hQ
                | (exfalso; omega)
            · skip
              refine zr_iconst (pc := 80) S dX6_goalOf_80 (by unfold zrI; omega) ?_
              refine zr_goto (pc := 81) (tgt := 85) S dX6_goalOf_81 (by decide) ?_
              refine zr_iadd (pc := 85) S dX6_goalOf_85 (by unfold zrI; omega) ?_
              refine zr_istore_n (pc := 86) S 2 dX6_goalOf_86 rfl (by decide) ?_
              dsimp only [zst1, zst2, zset, zget, zlong]
              refine zr_goto (pc := 87) (tgt := 2) S dX6_goalOf_87 (by decide) ?_
              first
                | exact ih (g + 1) _ (by omega) (by omega) hQ
                | exact ih (g + 2) _ (by omega) (by omega) hQ
                | (exfalso; omega)
          · rw [if_neg c53] at hQ
            refine zr_aload_n (pc := 56) S dX6_goalOf_56 rfl ?_
            refine zr_getR (pc := 57) S fX6_goalOf_28 dX6_goalOf_57 rfl (Nat.le_of_ble_eq_true rfl) rfl ?_
            refine zr_iload_n (pc := 60) S dX6_goalOf_60 rfl ?_
            refine zr_invV (pc := 61) S [zI _] (m_X7_isGood _) kX6_goalOf_61 dX6_goalOf_61 rfl (Nat.le_of_ble_eq_true rfl) rfl (Nat.le_of_ble_eq_true rfl) ⟨Nat.le_of_ble_eq_true rfl, Nat.le_of_ble_eq_true rfl⟩ (us_X7_isGood hs ?_)
            dsimp only [zaft, Option.toList, List.cons_append, List.nil_append, Nat.add_zero]
            refine zr_if_eq (pc := 64) (tgt := 71) S dX6_goalOf_64 (by decide) (fun c64 => ?_) (fun c64 => ?_)
            · rw [b01_0] at c64
              rw [if_neg c64] at hQ
              refine zr_iconst (pc := 71) S dX6_goalOf_71 (by unfold zrI; omega) ?_
              exact zr_iret (pc := 72) S dX6_goalOf_72 rfl ⟨Nat.le_refl _, Nat.le_refl _⟩ (hQ)
            · rw [b01_0, Classical.not_not] at c64
              rw [if_pos c64] at hQ
              refine zr_iload_n (pc := 67) S dX6_goalOf_67 rfl ?_
              refine zr_goto (pc := 68) (tgt := 72) S dX6_goalOf_68 (by decide) ?_
              exact zr_iret (pc := 72) S dX6_goalOf_72 rfl ⟨Nat.le_refl _, Nat.le_refl _⟩ (hQ)
      · have hb : n.testBit g = true := t.mp c19
        simp only [hb, if_true] at hQ
        refine zr_aload_n (pc := 22) S dX6_goalOf_22 rfl ?_
        refine zr_getR (pc := 23) S fX6_goalOf_32 dX6_goalOf_23 rfl (Nat.le_of_ble_eq_true rfl) rfl ?_
        refine zr_getR (pc := 26) S fX6_goalOf_55 dX6_goalOf_26 rfl (Nat.le_of_ble_eq_true rfl) rfl ?_
        refine zr_iload_n (pc := 29) S dX6_goalOf_29 rfl ?_
        refine zr_iaload (pc := 30) S dX6_goalOf_30 rfl (Nat.le_of_ble_eq_true rfl) (by omega) (by omega) ?_
        rw [e]
        refine zr_goto (pc := 31) (tgt := 43) S dX6_goalOf_31 (by decide) ?_
        refine zr_istore_n (pc := 43) S 3 dX6_goalOf_43 rfl (by decide) ?_
        dsimp only [zst1, zst2, zset, zget, zlong]
        refine zr_iload_n (pc := 44) S dX6_goalOf_44 rfl ?_
        refine zr_bipush (pc := 45) S dX6_goalOf_45 ⟨by unfold zrI; omega, by decide⟩ ?_
        refine zr_icmp_eq (pc := 47) (tgt := 73) S dX6_goalOf_47 (by decide) (fun c47 => ?_) (fun c47 => ?_)
        · rw [if_pos c47] at hQ
          refine zr_iload_n (pc := 73) S dX6_goalOf_73 rfl ?_
          refine zr_iload_n (pc := 74) S dX6_goalOf_74 rfl ?_
          refine zr_bipush (pc := 75) S dX6_goalOf_75 ⟨by unfold zrI; omega, by decide⟩ ?_
          refine zr_icmp_ne (pc := 77) (tgt := 84) S dX6_goalOf_77 (by decide) (fun c77 => ?_) (fun c77 => ?_)
          · skip
            refine zr_iconst (pc := 84) S dX6_goalOf_84 (by unfold zrI; omega) ?_
            refine zr_iadd (pc := 85) S dX6_goalOf_85 (by unfold zrI; omega) ?_
            refine zr_istore_n (pc := 86) S 2 dX6_goalOf_86 rfl (by decide) ?_
            dsimp only [zst1, zst2, zset, zget, zlong]
            refine zr_goto (pc := 87) (tgt := 2) S dX6_goalOf_87 (by decide) ?_
            first
              | exact ih (g + 1) _ (by omega) (by omega) hQ
              | exact ih (g + 2) _ (by omega) (by omega) hQ
              | (exfalso; omega)
          · skip
            refine zr_iconst (pc := 80) S dX6_goalOf_80 (by unfold zrI; omega) ?_
            refine zr_goto (pc := 81) (tgt := 85) S dX6_goalOf_81 (by decide) ?_
            refine zr_iadd (pc := 85) S dX6_goalOf_85 (by unfold zrI; omega) ?_
            refine zr_istore_n (pc := 86) S 2 dX6_goalOf_86 rfl (by decide) ?_
            dsimp only [zst1, zst2, zset, zget, zlong]
            refine zr_goto (pc := 87) (tgt := 2) S dX6_goalOf_87 (by decide) ?_
            first
              | exact ih (g + 1) _ (by omega) (by omega) hQ
              | exact ih (g + 2) _ (by omega) (by omega) hQ
              | (exfalso; omega)
        · rw [if_neg c47] at hQ
          refine zr_iload_n (pc := 50) S dX6_goalOf_50 rfl ?_
          refine zr_bipush (pc := 51) S dX6_goalOf_51 ⟨by unfold zrI; omega, by decide⟩ ?_
          refine zr_icmp_eq (pc := 53) (tgt := 73) S dX6_goalOf_53 (by decide) (fun c53 => ?_) (fun c53 => ?_)
          · rw [if_pos c53] at hQ
            refine zr_iload_n (pc := 73) S dX6_goalOf_73 rfl ?_
            refine zr_iload_n (pc := 74) S dX6_goalOf_74 rfl ?_
            refine zr_bipush (pc := 75) S dX6_goalOf_75 ⟨by unfold zrI; omega, by decide⟩ ?_
            refine zr_icmp_ne (pc := 77) (tgt := 84) S dX6_goalOf_77 (by decide) (fun c77 => ?_) (fun c77 => ?_)
            · skip
              refine zr_iconst (pc := 84) S dX6_goalOf_84 (by unfold zrI; omega) ?_
              refine zr_iadd (pc := 85) S dX6_goalOf_85 (by unfold zrI; omega) ?_
              refine zr_istore_n (pc := 86) S 2 dX6_goalOf_86 rfl (by decide) ?_
              dsimp only [zst1, zst2, zset, zget, zlong]
              refine zr_goto (pc := 87) (tgt := 2) S dX6_goalOf_87 (by decide) ?_
              first
                | exact ih (g + 1) _ (by omega) (by omega) hQ
                | exact ih (g + 2) _ (by omega) (by omega) hQ
                | (exfalso; omega)
            · skip
              refine zr_iconst (pc := 80) S dX6_goalOf_80 (by unfold zrI; omega) ?_
              refine zr_goto (pc := 81) (tgt := 85) S dX6_goalOf_81 (by decide) ?_
              refine zr_iadd (pc := 85) S dX6_goalOf_85 (by unfold zrI; omega) ?_
              refine zr_istore_n (pc := 86) S 2 dX6_goalOf_86 rfl (by decide) ?_
              dsimp only [zst1, zst2, zset, zget, zlong]
              refine zr_goto (pc := 87) (tgt := 2) S dX6_goalOf_87 (by decide) ?_
              first
                | exact ih (g + 1) _ (by omega) (by omega) hQ
                | exact ih (g + 2) _ (by omega) (by omega) hQ
                | (exfalso; omega)
          · rw [if_neg c53] at hQ
            refine zr_aload_n (pc := 56) S dX6_goalOf_56 rfl ?_
            refine zr_getR (pc := 57) S fX6_goalOf_28 dX6_goalOf_57 rfl (Nat.le_of_ble_eq_true rfl) rfl ?_
            refine zr_iload_n (pc := 60) S dX6_goalOf_60 rfl ?_
            refine zr_invV (pc := 61) S [zI _] (m_X7_isGood _) kX6_goalOf_61 dX6_goalOf_61 rfl (Nat.le_of_ble_eq_true rfl) rfl (Nat.le_of_ble_eq_true rfl) ⟨Nat.le_of_ble_eq_true rfl, Nat.le_of_ble_eq_true rfl⟩ (us_X7_isGood hs ?_)
            dsimp only [zaft, Option.toList, List.cons_append, List.nil_append, Nat.add_zero]
            refine zr_if_eq (pc := 64) (tgt := 71) S dX6_goalOf_64 (by decide) (fun c64 => ?_) (fun c64 => ?_)
            · rw [b01_0] at c64
              rw [if_neg c64] at hQ
              refine zr_iconst (pc := 71) S dX6_goalOf_71 (by unfold zrI; omega) ?_
              exact zr_iret (pc := 72) S dX6_goalOf_72 rfl ⟨Nat.le_refl _, Nat.le_refl _⟩ (hQ)
            · rw [b01_0, Classical.not_not] at c64
              rw [if_pos c64] at hQ
              refine zr_iload_n (pc := 67) S dX6_goalOf_67 rfl ?_
              refine zr_goto (pc := 68) (tgt := 72) S dX6_goalOf_68 (by decide) ?_
              exact zr_iret (pc := 72) S dX6_goalOf_72 rfl ⟨Nat.le_refl _, Nat.le_refl _⟩ (hQ)
    · rw [if_neg c] at hQ
      refine zr_iload_n (pc := 2) S dX6_goalOf_2 rfl ?_
      refine zr_aload_n (pc := 3) S dX6_goalOf_3 rfl ?_
      refine zr_getR (pc := 4) S fX6_goalOf_32 dX6_goalOf_4 rfl (Nat.le_of_ble_eq_true rfl) rfl ?_
      refine zr_getI (pc := 7) S fX6_goalOf_36 dX6_goalOf_7 rfl (Nat.le_of_ble_eq_true rfl) rfl ?_
      refine zr_icmp_ge (pc := 10) (tgt := 90) S dX6_goalOf_10 (by decide) (fun c10 => ?_) (fun c10 => absurd c10 (by omega))
      refine zr_iconst (pc := 90) S dX6_goalOf_90 (by unfold zrI; omega) ?_
      exact zr_iret (pc := 91) S dX6_goalOf_91 rfl ⟨Nat.le_refl _, Nat.le_refl _⟩ (hQ)
def sp_X6_goalOf (as : List zV) (M : zM) (Q : Option zV → zM → Prop) : Prop := ∃ (n : Nat), as = [zR 47, zI n] ∧ (ICg M) ∧ (ICs M) ∧ (n < 256) ∧ Q (some (zI (gl M n))) (M)
theorem us_X6_goalOf {n : Nat} {M : zM} {Q : Option zV → zM → Prop} (hg : ICg M) (hs : ICs M) (hn : n < 256) (h99 : Q (some (zI (gl M n))) (M)) : sp_X6_goalOf [zR 47, zI n] M Q := ⟨n, rfl, hg, hs, hn, h99⟩
set_option maxRecDepth 20000 in
set_option maxHeartbeats 4000000 in
theorem m_X6_goalOf (l : Launch) : zC l yX6_goalOf wzX6_goalOf rmX6_goalOf sp_X6_goalOf := by
  refine zMet.of RX6 (by decide +kernel) rfl rfl ?_
  intro E X as M Qp hX S hsp
  obtain ⟨n, rfl, hg, hs, hn, hQ⟩ := hsp
  refine ⟨Nat.le_of_ble_eq_true rfl, ?_⟩
  dsimp only [zpad, zargs]
  refine zr_iconst (pc := 0) S dX6_goalOf_0 (by unfold zrI; omega) ?_
  refine zr_istore_n (pc := 1) S 2 dX6_goalOf_1 rfl (by decide) ?_
  dsimp only [zst1, zst2, zset, zget, zlong]
  exact lp_X6_goalOf S hg hs hn 9 0 _ (by omega) (by omega) hQ
end
