section
def rmX12_served : Room := { frames := 7, cells := 0, slots := 0, locals := 161 }
abbrev wzX12_served : List Cond := .code yX12_served cX12_served 8 (some .boolean) :: zW
def rmX12_chances : Room := { frames := 0, cells := 0, slots := 0, locals := 0 }
abbrev wzX12_chances : List Cond := .code yX12_chances cX12_chances 4 (some .long) :: zW
def rmX12_power : Room := { frames := 1, cells := 0, slots := 0, locals := 23 }
abbrev wzX12_power : List Cond := .code yX12_power cX12_power 5 (some .long) :: zW
def rmX12_stocks : Room := { frames := 1, cells := 0, slots := 0, locals := 21 }
abbrev wzX12_stocks : List Cond := .code yX12_stocks cX12_stocks 3 none :: zW
theorem fX12_served_9 : zfl wzX12_served RX12 vwCl 9 12 0 := ⟨_, _, _, rfl, (fun w h => List.mem_cons_of_mem _ (zWuX12 w h)), by decide, List.mem_cons_of_mem _ (zWi_9 _ (List.mem_of_getElem? (i := 39) rfl))⟩
theorem fX12_served_44 : zfl wzX12_served RX12 vwCl 44 12 22 := ⟨_, _, _, rfl, (fun w h => List.mem_cons_of_mem _ (zWuX12 w h)), by decide, List.mem_cons_of_mem _ (zWi_9 _ (List.mem_of_getElem? (i := 26) rfl))⟩
theorem fX12_served_59 : zfl wzX12_served RX12 vwCl 59 12 27 := ⟨_, _, _, rfl, (fun w h => List.mem_cons_of_mem _ (zWuX12 w h)), by decide, List.mem_cons_of_mem _ (zWi_9 _ (List.mem_of_getElem? (i := 31) rfl))⟩
theorem fX12_served_47 : zfl wzX12_served RX12 vwCl 47 12 23 := ⟨_, _, _, rfl, (fun w h => List.mem_cons_of_mem _ (zWuX12 w h)), by decide, List.mem_cons_of_mem _ (zWi_9 _ (List.mem_of_getElem? (i := 27) rfl))⟩
theorem kX12_served_120 : ∀ (s9 : State) (a9 : Array Value), (∀ w ∈ wzX12_served, w.before a9 s9 = true) → CallW rmX12_served s9 a9 RX12 RX12 120 yX12_isGood cX12_isGood 2 (some .boolean) wzX12_isGood rmX12_isGood 0 0 1 := zcV (zWi_22 _ (List.mem_of_getElem? (i := 19) rfl)) (zWi_14 _ (List.mem_of_getElem? (i := 28) rfl)) (zWi_27 _ (List.mem_of_getElem? (i := 19) rfl)) (zWi_12 _ (List.mem_of_getElem? (i := 13) rfl)) (zWi_3 _ (List.mem_of_getElem? (i := 8) rfl)) (by decide +kernel) rfl rfl ⟨Nat.le_of_ble_eq_true rfl, Nat.le_of_ble_eq_true rfl⟩
theorem kX12_served_264 : ∀ (s9 : State) (a9 : Array Value), (∀ w ∈ wzX12_served, w.before a9 s9 = true) → CallW rmX12_served s9 a9 RX12 RX12 264 yX12_valueOf cX12_valueOf 2 (some .int) wzX12_valueOf rmX12_valueOf 0 0 1 := zcV (zWi_22 _ (List.mem_of_getElem? (i := 45) rfl)) (zWi_15 _ (List.mem_of_getElem? (i := 31) rfl)) (zWi_28 _ (List.mem_of_getElem? (i := 22) rfl)) (zWi_12 _ (List.mem_of_getElem? (i := 13) rfl)) (zWi_4 _ (List.mem_of_getElem? (i := 13) rfl)) (by decide +kernel) rfl rfl ⟨Nat.le_of_ble_eq_true rfl, Nat.le_of_ble_eq_true rfl⟩
theorem kX12_served_321 : ∀ (s9 : State) (a9 : Array Value), (∀ w ∈ wzX12_served, w.before a9 s9 = true) → CallW rmX12_served s9 a9 RX12 RX12 321 yX12_changes cX12_changes 6 (some .int) wzX12_changes rmX12_changes 0 0 1 := zcV (zWi_23 _ (List.mem_of_getElem? (i := 10) rfl)) (zWi_13 _ (List.mem_of_getElem? (i := 49) rfl)) (zWi_26 _ (List.mem_of_getElem? (i := 41) rfl)) (zWi_12 _ (List.mem_of_getElem? (i := 13) rfl)) (zWi_2 _ (List.mem_of_getElem? (i := 28) rfl)) (by decide +kernel) rfl rfl ⟨Nat.le_of_ble_eq_true rfl, Nat.le_of_ble_eq_true rfl⟩
theorem kX12_served_228 : zml_mmin wzX12_served RX12 228 := ⟨List.mem_cons_of_mem _ (zWi_22 _ (List.mem_of_getElem? (i := 36) rfl)), List.mem_cons_of_mem _ (zWi_30 _ (List.mem_of_getElem? (i := 3) rfl)), List.mem_cons_of_mem _ (zWi_12 _ (List.mem_of_getElem? (i := 0) rfl)), List.mem_cons_of_mem _ (zWi_0 _ (List.mem_of_getElem? (i := 28) rfl))⟩
theorem fX12_chances_9 : zfl wzX12_chances RX12 vwCl 9 12 0 := ⟨_, _, _, rfl, (fun w h => List.mem_cons_of_mem _ (zWuX12 w h)), by decide, List.mem_cons_of_mem _ (zWi_9 _ (List.mem_of_getElem? (i := 39) rfl))⟩
theorem kX12_power_335 : ∀ (s9 : State) (a9 : Array Value), (∀ w ∈ wzX12_power, w.before a9 s9 = true) → CallW rmX12_power s9 a9 RX12 RX12 335 yX12_chances cX12_chances 4 (some .long) wzX12_chances rmX12_chances 0 0 0 := zcV (zWi_23 _ (List.mem_of_getElem? (i := 15) rfl)) (zWi_13 _ (List.mem_of_getElem? (i := 48) rfl)) (zWi_26 _ (List.mem_of_getElem? (i := 40) rfl)) (zWi_12 _ (List.mem_of_getElem? (i := 13) rfl)) (zWi_2 _ (List.mem_of_getElem? (i := 27) rfl)) (by decide +kernel) rfl rfl ⟨Nat.le_of_ble_eq_true rfl, Nat.le_of_ble_eq_true rfl⟩
theorem fX12_stocks_59 : zfl wzX12_stocks RX12 vwCl 59 12 27 := ⟨_, _, _, rfl, (fun w h => List.mem_cons_of_mem _ (zWuX12 w h)), by decide, List.mem_cons_of_mem _ (zWi_9 _ (List.mem_of_getElem? (i := 31) rfl))⟩
theorem fX12_stocks_9 : zfl wzX12_stocks RX12 vwCl 9 12 0 := ⟨_, _, _, rfl, (fun w h => List.mem_cons_of_mem _ (zWuX12 w h)), by decide, List.mem_cons_of_mem _ (zWi_9 _ (List.mem_of_getElem? (i := 39) rfl))⟩
theorem kX12_stocks_293 : ∀ (s9 : State) (a9 : Array Value), (∀ w ∈ wzX12_stocks, w.before a9 s9 = true) → CallW rmX12_stocks s9 a9 RX12 RX12 293 yX12_tubeAt cX12_tubeAt 2 (some .int) wzX12_tubeAt rmX12_tubeAt 0 0 1 := zcV (zWi_23 _ (List.mem_of_getElem? (i := 2) rfl)) (zWi_15 _ (List.mem_of_getElem? (i := 30) rfl)) (zWi_28 _ (List.mem_of_getElem? (i := 21) rfl)) (zWi_12 _ (List.mem_of_getElem? (i := 13) rfl)) (zWi_4 _ (List.mem_of_getElem? (i := 12) rfl)) (by decide +kernel) rfl rfl ⟨Nat.le_of_ble_eq_true rfl, Nat.le_of_ble_eq_true rfl⟩
theorem vm_buy {M : zM} : vm M 1 5 = M 181 4 := rfl
theorem vm_chc {M : zM} {b : Nat} (h : (b : Int) < M 181 4) : vm M 33 b = M 181 (582 + 6 * b) := if_pos h
theorem vm_wsh {M : zM} {b : Nat} (h : (b : Int) < M 181 4) : vm M 30 b = M 181 (577 + 6 * b) := if_pos h
theorem vm_cns {M : zM} {b : Nat} (h : (b : Int) < M 181 4) : vm M 32 b = cnB (M 181) b := if_pos h
theorem vm_cn {M : zM} {b i : Nat} (h : (b : Int) < M 181 4) (hi : i < 4) (hc : (i : Int) < cnB (M 181) b) : vm M 31 (b * 4 + i) = M 181 (578 + 6 * b + i) := by
  show (if (((b * 4 + i) / 4 : Nat) : Int) < M 181 4 ∧ (((b * 4 + i) % 4 : Nat) : Int) < cnB (M 181) ((b * 4 + i) / 4) then M 181 (578 + 6 * ((b * 4 + i) / 4) + (b * 4 + i) % 4) else _) = _
  rw [show (b * 4 + i) / 4 = b by omega, show (b * 4 + i) % 4 = i by omega, if_pos ⟨h, hc⟩]
theorem lp_X12_chances {E : zE} {X : zX} {Qp : Option zV → zM → Prop} {M : zM} (S : zS (zg E) X cX12_chances 4 wzX12_chances RX12 (some .long)) (hb : ICb (vm M)) (hQ : Qp (some (zL (allCh (vm M)))) M) : ∀ (r i : Nat), (r : Int) + i = M 181 4 → zK (zg E) rmX12_chances 4 (Qp, 0, 0) X (0, 0) 4 [some (zR 180), some (zL (sumU (vm M 33) i)), none, some (zI i)] [] M := by
  have h1 := hb.1
  rw [vm_buy] at h1
  intro r
  induction r with
  | zero =>
    intro i hi
    have e2 : sumU (vm M 33) i = allCh (vm M) := by unfold allCh; rw [vm_buy]; congr 1; omega
    refine zr_iload_n (pc := 4) S dX12_chances_4 rfl ?_
    refine zr_aload_n (pc := 5) S dX12_chances_5 rfl ?_
    refine zr_getR (pc := 6) S fX12_chances_9 dX12_chances_6 rfl (Nat.le_of_ble_eq_true rfl) rfl ?_
    refine zr_iconst (pc := 9) S dX12_chances_9 (by unfold zrI; omega) ?_
    refine zr_iaload (pc := 10) S dX12_chances_10 rfl (Nat.le_of_ble_eq_true rfl) (by omega) (by omega) ?_
    dsimp only [Int.reduceToNat]
    refine zr_icmp_ge (pc := 11) (tgt := 39) S dX12_chances_11 (by decide) (fun c11 => ?_) (fun c11 => absurd c11 (by omega))
    refine zr_lload_n (pc := 39) S dX12_chances_39 rfl ?_
    exact zr_lret (pc := 40) S dX12_chances_40 rfl ⟨Nat.le_refl _, Nat.le_refl _⟩ (zql hQ e2)
  | succ r ih =>
    intro i hi
    have a := allCh_r hb i (by omega)
    have b := hb.2.2 i (by omega)
    have q := ih (i + 1) (by omega)
    simp only [sumU] at q
    rw [Int.natCast_add, Int.natCast_one] at q
    have e : M 181 ((577 : Int) + 6 * (i : Int) + 5).toNat = vm M 33 i := by rw [vm_chc (by omega), show ((577 : Int) + 6 * (i : Int) + 5).toNat = 582 + 6 * i by omega]
    refine zr_iload_n (pc := 4) S dX12_chances_4 rfl ?_
    refine zr_aload_n (pc := 5) S dX12_chances_5 rfl ?_
    refine zr_getR (pc := 6) S fX12_chances_9 dX12_chances_6 rfl (Nat.le_of_ble_eq_true rfl) rfl ?_
    refine zr_iconst (pc := 9) S dX12_chances_9 (by unfold zrI; omega) ?_
    refine zr_iaload (pc := 10) S dX12_chances_10 rfl (Nat.le_of_ble_eq_true rfl) (by omega) (by omega) ?_
    dsimp only [Int.reduceToNat]
    refine zr_icmp_ge (pc := 11) (tgt := 39) S dX12_chances_11 (by decide) (fun c11 => absurd c11 (by omega)) (fun c11 => ?_)
    refine zr_lload_n (pc := 14) S dX12_chances_14 rfl ?_
    refine zr_aload_n (pc := 15) S dX12_chances_15 rfl ?_
    refine zr_getR (pc := 16) S fX12_chances_9 dX12_chances_16 rfl (Nat.le_of_ble_eq_true rfl) rfl ?_
    refine zr_sipush (pc := 19) S dX12_chances_19 ⟨by unfold zrI; omega, by decide⟩ ?_
    refine zr_bipush (pc := 22) S dX12_chances_22 ⟨by unfold zrI; omega, by decide⟩ ?_
    refine zr_iload_n (pc := 24) S dX12_chances_24 rfl ?_
    refine zr_imul (pc := 25) S dX12_chances_25 (by unfold zrI; omega) ?_
    refine zr_iadd (pc := 26) S dX12_chances_26 (by unfold zrI; omega) ?_
    refine zr_iconst (pc := 27) S dX12_chances_27 (by unfold zrI; omega) ?_
    refine zr_iadd (pc := 28) S dX12_chances_28 (by unfold zrI; omega) ?_
    refine zr_iaload (pc := 29) S dX12_chances_29 rfl (Nat.le_of_ble_eq_true rfl) (by omega) (by omega) ?_
    rw [e]
    refine zr_i2l (pc := 30) S dX12_chances_30 ?_
    refine zr_ladd (pc := 31) S dX12_chances_31 (by unfold zrL; omega) ?_
    refine zr_lstore_n (pc := 32) S 1 dX12_chances_32 rfl (by decide) ?_
    dsimp only [zst1, zst2, zset, zget, zlong]
    refine zr_iinc (pc := 33) S dX12_chances_33 rfl (by unfold zrI; omega) (by decide) ?_
    dsimp only [zst1, zst2, zset, zget, zlong]
    refine zr_goto (pc := 36) (tgt := 4) S dX12_chances_36 (by decide) ?_
    exact q
def sp_X12_chances (as : List zV) (M : zM) (Q : Option zV → zM → Prop) : Prop := as = [zR 180] ∧ (ICb (vm M)) ∧ (Q (some (zL (allCh (vm M)))) M)
theorem us_X12_chances  {M : zM} {Q : Option zV → zM → Prop} (hb : ICb (vm M)) (hQ : Q (some (zL (allCh (vm M)))) M) : sp_X12_chances [zR 180] M Q := ⟨rfl, hb, hQ⟩
set_option maxRecDepth 20000 in
set_option maxHeartbeats 4000000 in
theorem m_X12_chances (l : Launch) : zC l yX12_chances wzX12_chances rmX12_chances sp_X12_chances := by
  refine zMet.of RX12 (by decide +kernel) rfl rfl ?_
  intro E X as M Qp hX S hsp
  obtain ⟨rfl, hb, hQ⟩ := hsp
  refine ⟨Nat.le_of_ble_eq_true rfl, ?_⟩
  dsimp only [zpad, zargs]
  have h1 := hb.1
  rw [vm_buy] at h1
  refine zr_lconst0 (pc := 0) S dX12_chances_0 ?_
  refine zr_lstore_n (pc := 1) S 1 dX12_chances_1 rfl (by decide) ?_
  dsimp only [zst1, zst2, zset, zget, zlong]
  refine zr_iconst (pc := 2) S dX12_chances_2 (by unfold zrI; omega) ?_
  refine zr_istore_n (pc := 3) S 3 dX12_chances_3 rfl (by decide) ?_
  dsimp only [zst1, zst2, zset, zget, zlong]
  exact lp_X12_chances S hb hQ (M 181 4).toNat 0 (by omega)
theorem lp_X12_power {E : zE} {X : zX} {Qp : Option zV → zM → Prop} {M : zM} {n : Nat} (S : zS (zg E) X cX12_power 5 wzX12_power RX12 (some .long)) (hb : ICb (vm M)) (hn : n ≤ 3) (hQ : Qp (some (zL (powM (vm M) n))) M) : ∀ (m i : Nat), m + i = n → zK (zg E) rmX12_power 5 (Qp, 0, 0) X (0, 0) 5 [some (zR 180), some (zI n), some (zL (powM (vm M) i)), none, some (zI i)] [] M := by
  intro m
  induction m with
  | zero =>
    intro i hi
    obtain rfl : i = n := by omega
    refine zr_iload (pc := 5) S dX12_power_5 rfl ?_
    refine zr_iload_n (pc := 7) S dX12_power_7 rfl ?_
    refine zr_icmp_ge (pc := 8) (tgt := 24) S dX12_power_8 (by decide) (fun c8 => ?_) (fun c8 => absurd c8 (by omega))
    refine zr_lload_n (pc := 24) S dX12_power_24 rfl ?_
    exact zr_lret (pc := 25) S dX12_power_25 rfl ⟨Nat.le_refl _, Nat.le_refl _⟩ (hQ)
  | succ m ih =>
    intro i hi
    have a := powM_r hb (i + 1) (by omega)
    have e : powM (vm M) i * allCh (vm M) = powM (vm M) (i + 1) := by unfold powM; rw [Int.pow_succ]
    have q := ih (i + 1) (by omega)
    rw [Int.natCast_add, Int.natCast_one] at q
    refine zr_iload (pc := 5) S dX12_power_5 rfl ?_
    refine zr_iload_n (pc := 7) S dX12_power_7 rfl ?_
    refine zr_icmp_ge (pc := 8) (tgt := 24) S dX12_power_8 (by decide) (fun c8 => absurd c8 (by omega)) (fun c8 => ?_)
    refine zr_lload_n (pc := 11) S dX12_power_11 rfl ?_
    refine zr_aload_n (pc := 12) S dX12_power_12 rfl ?_
    refine zr_invV (pc := 13) S [] (m_X12_chances _) kX12_power_335 dX12_power_13 rfl (Nat.le_of_ble_eq_true rfl) rfl (Nat.le_of_ble_eq_true rfl) ⟨Nat.le_of_ble_eq_true rfl, Nat.le_of_ble_eq_true rfl⟩ (us_X12_chances hb ?_)
    dsimp only [zaft, Option.toList, List.cons_append, List.nil_append, Nat.add_zero]
    refine zr_lmul (pc := 16) S dX12_power_16 (by rw [e]; unfold zrL; omega) ?_
    rw [e]
    refine zr_lstore_n (pc := 17) S 2 dX12_power_17 rfl (by decide) ?_
    dsimp only [zst1, zst2, zset, zget, zlong]
    refine zr_iinc (pc := 18) S dX12_power_18 rfl (by unfold zrI; omega) (by decide) ?_
    dsimp only [zst1, zst2, zset, zget, zlong]
    refine zr_goto (pc := 21) (tgt := 5) S dX12_power_21 (by decide) ?_
    exact q
def sp_X12_power (as : List zV) (M : zM) (Q : Option zV → zM → Prop) : Prop := ∃ (n : Nat), as = [zR 180, zI n] ∧ (ICb (vm M)) ∧ (n ≤ 3) ∧ (Q (some (zL (powM (vm M) n))) M)
theorem us_X12_power {n : Nat} {M : zM} {Q : Option zV → zM → Prop} (hb : ICb (vm M)) (hn : n ≤ 3) (hQ : Q (some (zL (powM (vm M) n))) M) : sp_X12_power [zR 180, zI n] M Q := ⟨n, rfl, hb, hn, hQ⟩
set_option maxRecDepth 20000 in
set_option maxHeartbeats 4000000 in
theorem m_X12_power (l : Launch) : zC l yX12_power wzX12_power rmX12_power sp_X12_power := by
  refine zMet.of RX12 (by decide +kernel) rfl rfl ?_
  intro E X as M Qp hX S hsp
  obtain ⟨n, rfl, hb, hn, hQ⟩ := hsp
  refine ⟨Nat.le_of_ble_eq_true rfl, ?_⟩
  dsimp only [zpad, zargs]
  have q := lp_X12_power S hb hn hQ n 0 (by omega)
  have e1 : powM (vm M) 0 = 1 := Int.pow_zero _
  rw [e1] at q
  refine zr_lconst1 (pc := 0) S dX12_power_0 ?_
  refine zr_lstore_n (pc := 1) S 2 dX12_power_1 rfl (by decide) ?_
  dsimp only [zst1, zst2, zset, zget, zlong]
  refine zr_iconst (pc := 2) S dX12_power_2 (by unfold zrI; omega) ?_
  refine zr_istore (pc := 3) S dX12_power_3 (by decide) ?_
  dsimp only [zst1, zst2, zset, zget, zlong]
  exact q
theorem lp_X12_stocks {E : zE} {X : zX} {Qp : Option zV → zM → Prop} {M : zM} {n : Nat} (S : zS (zg E) X cX12_stocks 3 wzX12_stocks RX12 none) (hn : n ≤ 3) (he : ICe (vm M)) (t8 : 0 ≤ M 181 0 ∧ M 181 0 ≤ 8)
    (hQ : ∀ H : Nat → Int, (∀ k, k < 8 → H (8 * n + k) = vm M 19 k) → Qp none (zrow M 194 H)) : ∀ (r i : Nat) (H : Nat → Int), r + i = 8 → (∀ k, k < i → H (8 * n + k) = vm M 19 k) → zK (zg E) rmX12_stocks 3 (Qp, 0, 0) X (0, 0) 2 [some (zR 180), some (zI n), some (zI i)] [] (zrow M 194 H) := by
  intro r
  induction r with
  | zero =>
    intro i H hi hH
    obtain rfl : i = 8 := by omega
    refine zr_iload_n (pc := 2) S dX12_stocks_2 rfl ?_
    refine zr_bipush (pc := 3) S dX12_stocks_3 ⟨by unfold zrI; omega, by decide⟩ ?_
    refine zr_icmp_ge (pc := 5) (tgt := 49) S dX12_stocks_5 (by decide) (fun c5 => ?_) (fun c5 => absurd c5 (by omega))
    exact zr_vret (pc := 49) S dX12_stocks_49 rfl ⟨Nat.le_refl _, Nat.le_refl _⟩ (hQ H hH)
  | succ r ih =>
    intro i H hi hH
    have l := ih (i + 1) (rUp H (8 * n + i) (vm M 19 i)) (by omega) (fun k hk => by
      by_cases e : k = i
      · subst e; rw [rUp_e]
      · rw [rUp_o (by omega)]; exact hH k (by omega))
    rw [Int.natCast_add, Int.natCast_one] at l
    have et : zrow M 194 H 181 = M 181 := zrow_o (by decide)
    have et0 : zrow M 194 H 181 0 = M 181 0 := by rw [et]
    have eh := vm_hgt (M := M) (j := i) (by omega)
    have e1 : zrow M 194 H 181 ((159 : Int) + 21 * (i : Int)).toNat = vm M 19 i := by rw [et, eh, show ((159 : Int) + 21 * (i : Int)).toNat = 159 + 21 * i by omega]
    have e2 : M 181 0 ≤ (i : Int) → vm M 19 i = 0 := fun z => he i (by omega) (by rw [vm_many]; exact z)
    have ei : ((8 : Int) * (n : Int) + (i : Int)).toNat = 8 * n + i := by omega
    refine zr_iload_n (pc := 2) S dX12_stocks_2 rfl ?_
    refine zr_bipush (pc := 3) S dX12_stocks_3 ⟨by unfold zrI; omega, by decide⟩ ?_
    refine zr_icmp_ge (pc := 5) (tgt := 49) S dX12_stocks_5 (by decide) (fun c5 => absurd c5 (by omega)) (fun c5 => ?_)
    refine zr_aload_n (pc := 8) S dX12_stocks_8 rfl ?_
    refine zr_getR (pc := 9) S fX12_stocks_59 dX12_stocks_9 rfl (Nat.le_of_ble_eq_true rfl) rfl ?_
    refine zr_bipush (pc := 12) S dX12_stocks_12 ⟨by unfold zrI; omega, by decide⟩ ?_
    refine zr_iload_n (pc := 14) S dX12_stocks_14 rfl ?_
    refine zr_imul (pc := 15) S dX12_stocks_15 (by unfold zrI; omega) ?_
    refine zr_iload_n (pc := 16) S dX12_stocks_16 rfl ?_
    refine zr_iadd (pc := 17) S dX12_stocks_17 (by unfold zrI; omega) ?_
    refine zr_iload_n (pc := 18) S dX12_stocks_18 rfl ?_
    refine zr_aload_n (pc := 19) S dX12_stocks_19 rfl ?_
    refine zr_getR (pc := 20) S fX12_stocks_9 dX12_stocks_20 rfl (Nat.le_of_ble_eq_true rfl) rfl ?_
    refine zr_iconst (pc := 23) S dX12_stocks_23 (by unfold zrI; omega) ?_
    refine zr_iaload (pc := 24) S dX12_stocks_24 rfl (Nat.le_of_ble_eq_true rfl) (by omega) (by omega) ?_
    dsimp only [Int.reduceToNat]
    rw [et0]
    refine zr_icmp_ge (pc := 25) (tgt := 41) S dX12_stocks_25 (by decide) (fun c25 => ?_) (fun c25 => ?_)
    · rw [e2 c25] at l
      refine zr_iconst (pc := 41) S dX12_stocks_41 (by unfold zrI; omega) ?_
      refine zr_iastore (pc := 42) S dX12_stocks_42 rfl (Nat.le_of_ble_eq_true rfl) (by omega) (by omega) ?_
      rw [ei, zrow_up]
      refine zr_iinc (pc := 43) S dX12_stocks_43 rfl (by unfold zrI; omega) (by decide) ?_
      dsimp only [zst1, zst2, zset, zget, zlong]
      refine zr_goto (pc := 46) (tgt := 2) S dX12_stocks_46 (by decide) ?_
      exact l
    · refine zr_aload_n (pc := 28) S dX12_stocks_28 rfl ?_
      refine zr_getR (pc := 29) S fX12_stocks_9 dX12_stocks_29 rfl (Nat.le_of_ble_eq_true rfl) rfl ?_
      refine zr_aload_n (pc := 32) S dX12_stocks_32 rfl ?_
      refine zr_iload_n (pc := 33) S dX12_stocks_33 rfl ?_
      refine zr_invV (pc := 34) S [zI _] (m_X12_tubeAt _) kX12_stocks_293 dX12_stocks_34 rfl (Nat.le_of_ble_eq_true rfl) rfl (Nat.le_of_ble_eq_true rfl) ⟨Nat.le_of_ble_eq_true rfl, Nat.le_of_ble_eq_true rfl⟩ (us_X12_tubeAt (by omega) (by omega) ?_)
      dsimp only [zaft, Option.toList, List.cons_append, List.nil_append, Nat.add_zero]
      refine zr_iaload (pc := 37) S dX12_stocks_37 rfl (Nat.le_of_ble_eq_true rfl) (by omega) (by omega) ?_
      rw [e1]
      refine zr_goto (pc := 38) (tgt := 42) S dX12_stocks_38 (by decide) ?_
      refine zr_iastore (pc := 42) S dX12_stocks_42 rfl (Nat.le_of_ble_eq_true rfl) (by omega) (by omega) ?_
      rw [ei, zrow_up]
      refine zr_iinc (pc := 43) S dX12_stocks_43 rfl (by unfold zrI; omega) (by decide) ?_
      dsimp only [zst1, zst2, zset, zget, zlong]
      refine zr_goto (pc := 46) (tgt := 2) S dX12_stocks_46 (by decide) ?_
      exact l
def sp_X12_stocks (as : List zV) (M : zM) (Q : Option zV → zM → Prop) : Prop := ∃ (n : Nat), as = [zR 180, zI n] ∧ (n ≤ 3) ∧ (ICe (vm M)) ∧ (0 ≤ M 181 0 ∧ M 181 0 ≤ 8) ∧ (∀ H : Nat → Int, (∀ k, k < 8 → H (8 * n + k) = vm M 19 k) → Q none (zrow M 194 H))
theorem us_X12_stocks {n : Nat} {M : zM} {Q : Option zV → zM → Prop} (hn : n ≤ 3) (he : ICe (vm M)) (t8 : 0 ≤ M 181 0 ∧ M 181 0 ≤ 8) (hQ : ∀ H : Nat → Int, (∀ k, k < 8 → H (8 * n + k) = vm M 19 k) → Q none (zrow M 194 H)) : sp_X12_stocks [zR 180, zI n] M Q := ⟨n, rfl, hn, he, t8, hQ⟩
set_option maxRecDepth 20000 in
set_option maxHeartbeats 4000000 in
theorem m_X12_stocks (l : Launch) : zC l yX12_stocks wzX12_stocks rmX12_stocks sp_X12_stocks := by
  refine zMet.of RX12 (by decide +kernel) rfl rfl ?_
  intro E X as M Qp hX S hsp
  obtain ⟨n, rfl, hn, he, t8, hQ⟩ := hsp
  refine ⟨Nat.le_of_ble_eq_true rfl, ?_⟩
  dsimp only [zpad, zargs]
  have l := lp_X12_stocks (E := E) (X := X) (Qp := Qp) (M := M) (n := n) S hn he t8 hQ 8 0 (M 194) (by omega) (fun k hk => absurd hk (by omega))
  rw [zrow_s] at l
  refine zr_iconst (pc := 0) S dX12_stocks_0 (by unfold zrI; omega) ?_
  refine zr_istore_n (pc := 1) S 2 dX12_stocks_1 rfl (by decide) ?_
  dsimp only [zst1, zst2, zset, zget, zlong]
  exact l
end
