section
theorem st_X12_mostOf (l : Launch) (e : Nat) (IH : zC l yX12_mostOf wzX12_mostOf (rmX12_mostOf e) (sp_X12_mostOf e)) (IW : zC l yX12_without wzX12_without (rmX12_without e) (sp_X12_without e)) : zC l yX12_mostOf wzX12_mostOf (rmX12_mostOf (e + 1)) (sp_X12_mostOf (e + 1)) := by
  refine zMet.of RX12 (by decide +kernel) rfl rfl ?_
  intro E X as M Qp hX S hsp
  obtain ⟨n, V, rfl, h1, h2, hS, hr, hQ⟩ := hsp
  refine ⟨Nat.le_of_ble_eq_true rfl, ?_⟩
  dsimp only [zpad, zargs]
  have IH2 : zC X.2.1 yX12_mostOf wzX12_mostOf (rmX12_mostOf e) (sp_X12_mostOf e) := by rw [hX]; exact IH
  have IW2 : zC X.2.1 yX12_without wzX12_without (rmX12_without e) (sp_X12_without e) := by rw [hX]; exact IW
  cases n with
  | zero =>
    have q := hQ M (sts.rf M 0)
    refine zr_iload_n (pc := 0) S dX12_mostOf_0 rfl ?_
    refine zr_if_ne (pc := 1) (tgt := 6) S dX12_mostOf_1 (by decide) (fun c1 => absurd c1 (by omega)) (fun c1 => ?_)
    refine zr_lconst0 (pc := 4) S dX12_mostOf_4 ?_
    exact zr_lret (pc := 5) S dX12_mostOf_5 rfl ⟨Nat.le_refl _, Nat.le_refl _⟩ (q)
  | succ n =>
    have hb := hS.2.2.1.1
    rw [Int.natCast_add, Int.natCast_one]
    have l := fun u5 u6 => mo1 (E := E) (X := X) (Qp := Qp) (M := M) (V := V) (n := n) (e := e) S IH2 IW2 (by omega) (by omega) hS hr hQ (V 1 5).toNat 0 M u5 u6 (by omega) (sts.rf M _)
    refine zr_iload_n (pc := 0) S dX12_mostOf_0 rfl ?_
    refine zr_if_ne (pc := 1) (tgt := 6) S dX12_mostOf_1 (by decide) (fun c1 => ?_) (fun c1 => absurd c1 (by omega))
    refine zr_lconst0 (pc := 6) S dX12_mostOf_6 ?_
    refine zr_lstore_n (pc := 7) S 2 dX12_mostOf_7 rfl (by decide) ?_
    dsimp only [zst1, zst2, zset, zget, zlong]
    refine zr_iconst (pc := 8) S dX12_mostOf_8 (by unfold zrI; omega) ?_
    refine zr_istore (pc := 9) S dX12_mostOf_9 (by decide) ?_
    dsimp only [zst1, zst2, zset, zget, zlong]
    exact l _ _
theorem m_X12_mw (l : Launch) : ∀ e, zC l yX12_mostOf wzX12_mostOf (rmX12_mostOf e) (sp_X12_mostOf e) ∧ zC l yX12_without wzX12_without (rmX12_without e) (sp_X12_without e) := by
  intro e
  induction e with
  | zero =>
    constructor
    · refine zMet.of RX12 (by decide +kernel) rfl rfl ?_
      intro E X as M Qp hX S hsp
      obtain ⟨n, V, rfl, h1, h2, hS, hr, hQ⟩ := hsp
      refine ⟨Nat.le_of_ble_eq_true rfl, ?_⟩
      dsimp only [zpad, zargs]
      obtain rfl : n = 0 := by omega
      have q := hQ M (sts.rf M 0)
      refine zr_iload_n (pc := 0) S dX12_mostOf_0 rfl ?_
      refine zr_if_ne (pc := 1) (tgt := 6) S dX12_mostOf_1 (by decide) (fun c1 => absurd c1 (by omega)) (fun c1 => ?_)
      refine zr_lconst0 (pc := 4) S dX12_mostOf_4 ?_
      exact zr_lret (pc := 5) S dX12_mostOf_5 rfl ⟨Nat.le_refl _, Nat.le_refl _⟩ (q)
    · refine zMet.of RX12 (by decide +kernel) rfl rfl ?_
      intro E X as M Qp hX S hsp
      obtain ⟨n, V, rfl, h1, h2, hS, hr, hQ⟩ := hsp
      omega
  | succ e ih => exact ⟨st_X12_mostOf l e ih.1 ih.2, st_X12_without l e ih.1⟩
theorem m_X12_mostOf (l : Launch) (e : Nat) : zC l yX12_mostOf wzX12_mostOf (rmX12_mostOf e) (sp_X12_mostOf e) := (m_X12_mw l e).1
theorem m_X12_without (l : Launch) (e : Nat) : zC l yX12_without wzX12_without (rmX12_without e) (sp_X12_without e) := (m_X12_mw l e).2
def rmX12_most : Room := { frames := 15, cells := 0, slots := 0, locals := 370 }
abbrev wzX12_most : List Cond := .code yX12_most cX12_most 2 (some .long) :: zW
def rmX12_serve : Room := { frames := 15, cells := 0, slots := 0, locals := 370 }
abbrev wzX12_serve : List Cond := .code yX12_serve cX12_serve 5 (some .int) :: zW
theorem pX12_most_80 : zfp wzX12_most RX12 vwCl 80 12 3 := ⟨_, _, _, _, rfl, (fun w h => List.mem_cons_of_mem _ (zWuX12 w h)), by decide, List.mem_cons_of_mem _ (zWi_9 _ (List.mem_of_getElem? (i := 38) rfl)), tyX12_ok, nmX12, rfl, by decide +kernel⟩
theorem kX12_most_83 : ∀ (s9 : State) (a9 : Array Value), (∀ w ∈ wzX12_most, w.before a9 s9 = true) → CallB rmX12_most s9 a9 RX12 83 yX12_within cX12_within 6 (some .boolean) wzX12_within rmX12_within 0 0 3 ∧ (Cond.static yX12_within).before a9 s9 = true := zcS (zWi_23 _ (List.mem_of_getElem? (i := 24) rfl)) (zWi_31 _ (List.mem_of_getElem? (i := 13) rfl)) (zWi_12 _ (List.mem_of_getElem? (i := 13) rfl)) (zWi_4 _ (List.mem_of_getElem? (i := 16) rfl)) (by decide +kernel) rfl rfl ⟨Nat.le_of_ble_eq_true rfl, Nat.le_of_ble_eq_true rfl⟩
theorem kX12_most_95 : ∀ (s9 : State) (a9 : Array Value), (∀ w ∈ wzX12_most, w.before a9 s9 = true) → CallW rmX12_most s9 a9 RX12 RX12 95 yX12_fails cX12_fails 2 (some .int) wzX12_fails rmX12_fails 0 0 1 := zcV (zWi_23 _ (List.mem_of_getElem? (i := 26) rfl)) (zWi_14 _ (List.mem_of_getElem? (i := 10) rfl)) (zWi_27 _ (List.mem_of_getElem? (i := 2) rfl)) (zWi_12 _ (List.mem_of_getElem? (i := 13) rfl)) (zWi_2 _ (List.mem_of_getElem? (i := 39) rfl)) (by decide +kernel) rfl rfl ⟨Nat.le_of_ble_eq_true rfl, Nat.le_of_ble_eq_true rfl⟩
theorem kX12_most_357 : ∀ (s9 : State) (a9 : Array Value), (∀ w ∈ wzX12_most, w.before a9 s9 = true) → CallW rmX12_most s9 a9 RX12 RX12 357 yX12_stocks cX12_stocks 3 none wzX12_stocks rmX12_stocks 0 0 1 := zcV (zWi_23 _ (List.mem_of_getElem? (i := 21) rfl)) (zWi_15 _ (List.mem_of_getElem? (i := 21) rfl)) (zWi_28 _ (List.mem_of_getElem? (i := 12) rfl)) (zWi_12 _ (List.mem_of_getElem? (i := 13) rfl)) (zWi_4 _ (List.mem_of_getElem? (i := 3) rfl)) (by decide +kernel) rfl rfl ⟨Nat.le_of_ble_eq_true rfl, Nat.le_of_ble_eq_true rfl⟩
theorem kX12_most_346 : ∀ (s9 : State) (a9 : Array Value), (∀ w ∈ wzX12_most, w.before a9 s9 = true) → CallW rmX12_most s9 a9 RX12 RX12 346 yX12_mostOf cX12_mostOf 7 (some .long) wzX12_mostOf (rmX12_mostOf 6) 0 0 1 := zcV (zWi_23 _ (List.mem_of_getElem? (i := 18) rfl)) (zWi_14 _ (List.mem_of_getElem? (i := 43) rfl)) (zWi_27 _ (List.mem_of_getElem? (i := 34) rfl)) (zWi_12 _ (List.mem_of_getElem? (i := 13) rfl)) (zWi_3 _ (List.mem_of_getElem? (i := 25) rfl)) (by decide +kernel) rfl rfl ⟨Nat.le_of_ble_eq_true rfl, Nat.le_of_ble_eq_true rfl⟩
theorem pX12_serve_80 : zfp wzX12_serve RX12 vwCl 80 12 3 := ⟨_, _, _, _, rfl, (fun w h => List.mem_cons_of_mem _ (zWuX12 w h)), by decide, List.mem_cons_of_mem _ (zWi_9 _ (List.mem_of_getElem? (i := 38) rfl)), tyX12_ok, nmX12, rfl, by decide +kernel⟩
theorem kX12_serve_87 : ∀ (s9 : State) (a9 : Array Value), (∀ w ∈ wzX12_serve, w.before a9 s9 = true) → CallW rmX12_serve s9 a9 RX12 RX12 87 yX12_is cX12_is 3 (some .boolean) wzX12_is rmX12_is 0 0 2 := zcV (zWi_23 _ (List.mem_of_getElem? (i := 25) rfl)) (zWi_14 _ (List.mem_of_getElem? (i := 25) rfl)) (zWi_27 _ (List.mem_of_getElem? (i := 16) rfl)) (zWi_12 _ (List.mem_of_getElem? (i := 13) rfl)) (zWi_3 _ (List.mem_of_getElem? (i := 4) rfl)) (by decide +kernel) rfl rfl ⟨Nat.le_of_ble_eq_true rfl, Nat.le_of_ble_eq_true rfl⟩
theorem kX12_serve_95 : ∀ (s9 : State) (a9 : Array Value), (∀ w ∈ wzX12_serve, w.before a9 s9 = true) → CallW rmX12_serve s9 a9 RX12 RX12 95 yX12_fails cX12_fails 2 (some .int) wzX12_fails rmX12_fails 0 0 1 := zcV (zWi_23 _ (List.mem_of_getElem? (i := 26) rfl)) (zWi_14 _ (List.mem_of_getElem? (i := 10) rfl)) (zWi_27 _ (List.mem_of_getElem? (i := 2) rfl)) (zWi_12 _ (List.mem_of_getElem? (i := 13) rfl)) (zWi_2 _ (List.mem_of_getElem? (i := 39) rfl)) (by decide +kernel) rfl rfl ⟨Nat.le_of_ble_eq_true rfl, Nat.le_of_ble_eq_true rfl⟩
theorem kX12_serve_83 : ∀ (s9 : State) (a9 : Array Value), (∀ w ∈ wzX12_serve, w.before a9 s9 = true) → CallB rmX12_serve s9 a9 RX12 83 yX12_within cX12_within 6 (some .boolean) wzX12_within rmX12_within 0 0 3 ∧ (Cond.static yX12_within).before a9 s9 = true := zcS (zWi_23 _ (List.mem_of_getElem? (i := 24) rfl)) (zWi_31 _ (List.mem_of_getElem? (i := 13) rfl)) (zWi_12 _ (List.mem_of_getElem? (i := 13) rfl)) (zWi_4 _ (List.mem_of_getElem? (i := 16) rfl)) (by decide +kernel) rfl rfl ⟨Nat.le_of_ble_eq_true rfl, Nat.le_of_ble_eq_true rfl⟩
theorem kX12_serve_357 : ∀ (s9 : State) (a9 : Array Value), (∀ w ∈ wzX12_serve, w.before a9 s9 = true) → CallW rmX12_serve s9 a9 RX12 RX12 357 yX12_stocks cX12_stocks 3 none wzX12_stocks rmX12_stocks 0 0 1 := zcV (zWi_23 _ (List.mem_of_getElem? (i := 21) rfl)) (zWi_15 _ (List.mem_of_getElem? (i := 21) rfl)) (zWi_28 _ (List.mem_of_getElem? (i := 12) rfl)) (zWi_12 _ (List.mem_of_getElem? (i := 13) rfl)) (zWi_4 _ (List.mem_of_getElem? (i := 3) rfl)) (by decide +kernel) rfl rfl ⟨Nat.le_of_ble_eq_true rfl, Nat.le_of_ble_eq_true rfl⟩
theorem kX12_serve_339 : ∀ (s9 : State) (a9 : Array Value), (∀ w ∈ wzX12_serve, w.before a9 s9 = true) → CallW rmX12_serve s9 a9 RX12 RX12 339 yX12_served cX12_served 8 (some .boolean) wzX12_served rmX12_served 0 0 3 := zcV (zWi_23 _ (List.mem_of_getElem? (i := 16) rfl)) (zWi_15 _ (List.mem_of_getElem? (i := 15) rfl)) (zWi_28 _ (List.mem_of_getElem? (i := 6) rfl)) (zWi_12 _ (List.mem_of_getElem? (i := 13) rfl)) (zWi_3 _ (List.mem_of_getElem? (i := 47) rfl)) (by decide +kernel) rfl rfl ⟨Nat.le_of_ble_eq_true rfl, Nat.le_of_ble_eq_true rfl⟩
theorem kX12_serve_343 : ∀ (s9 : State) (a9 : Array Value), (∀ w ∈ wzX12_serve, w.before a9 s9 = true) → CallW rmX12_serve s9 a9 RX12 RX12 343 yX12_power cX12_power 5 (some .long) wzX12_power rmX12_power 0 0 1 := zcV (zWi_23 _ (List.mem_of_getElem? (i := 17) rfl)) (zWi_15 _ (List.mem_of_getElem? (i := 4) rfl)) (zWi_27 _ (List.mem_of_getElem? (i := 45) rfl)) (zWi_12 _ (List.mem_of_getElem? (i := 13) rfl)) (zWi_3 _ (List.mem_of_getElem? (i := 36) rfl)) (by decide +kernel) rfl rfl ⟨Nat.le_of_ble_eq_true rfl, Nat.le_of_ble_eq_true rfl⟩
theorem kX12_serve_346 : ∀ (s9 : State) (a9 : Array Value), (∀ w ∈ wzX12_serve, w.before a9 s9 = true) → CallW rmX12_serve s9 a9 RX12 RX12 346 yX12_mostOf cX12_mostOf 7 (some .long) wzX12_mostOf (rmX12_mostOf 6) 0 0 1 := zcV (zWi_23 _ (List.mem_of_getElem? (i := 18) rfl)) (zWi_14 _ (List.mem_of_getElem? (i := 43) rfl)) (zWi_27 _ (List.mem_of_getElem? (i := 34) rfl)) (zWi_12 _ (List.mem_of_getElem? (i := 13) rfl)) (zWi_3 _ (List.mem_of_getElem? (i := 25) rfl)) (by decide +kernel) rfl rfl ⟨Nat.le_of_ble_eq_true rfl, Nat.le_of_ble_eq_true rfl⟩
theorem kX12_serve_351 : ∀ (s9 : State) (a9 : Array Value), (∀ w ∈ wzX12_serve, w.before a9 s9 = true) → CallW rmX12_serve s9 a9 RX12 RX12 351 yX12_without cX12_without 3 (some .long) wzX12_without (rmX12_without 5) 0 0 1 := zcV (zWi_23 _ (List.mem_of_getElem? (i := 19) rfl)) (zWi_15 _ (List.mem_of_getElem? (i := 34) rfl)) (zWi_28 _ (List.mem_of_getElem? (i := 25) rfl)) (zWi_12 _ (List.mem_of_getElem? (i := 13) rfl)) (zWi_4 _ (List.mem_of_getElem? (i := 17) rfl)) (by decide +kernel) rfl rfl ⟨Nat.le_of_ble_eq_true rfl, Nat.le_of_ble_eq_true rfl⟩
theorem SPm_0 {M : zM} (hs : ICs (vm M)) (hb : ICb (vm M)) (hT : ∀ b : Nat, (b : Int) < M 181 4 → bqT (M 181) b ∧ 1 ≤ vm M 29 (vm M 30 b).toNat) {H : Nat → Int} : SPm (vm M) (zrow (tz M 0) 194 H) := by
  have oy : offY (tz M 0) (zrow (tz M 0) 194 H) := (offY.rf _).scr H (by decide)
  have et : zrow (tz M 0) 194 H 181 = M 181 := by rw [zrow_o (by decide)]; exact zup_o _ (by decide)
  refine ⟨fun k hk => (oy.ag k hk).trans (tz_ag M 0 k hk), hs, hb, by rw [et]; rfl, ?_⟩
  rw [et]
  exact hT
def sp_X12_most (as : List zV) (M : zM) (Q : Option zV → zM → Prop) : Prop := ∃ (B n : Int), as = [zR 180, zI n] ∧ (ICs (vm M)) ∧ (ICb (vm M)) ∧ (ICt B (vm M)) ∧ (ICe (vm M)) ∧ (∀ b : Nat, (b : Int) < M 181 4 → bqT (M 181) b ∧ 1 ≤ vm M 29 (vm M 30 b).toNat) ∧ ((1 ≤ n ∧ n ≤ 3) → ∀ M', offY (tz M 0) M' → Q (some (zL (mostR (vm M) n.toNat (nh (vm M 19) 0)))) M') ∧ (¬ (1 ≤ n ∧ n ≤ 3) → Q (some (zL 0)) (tz (tz M 0) 1))
theorem us_X12_most {B n : Int} {M : zM} {Q : Option zV → zM → Prop} (hs : ICs (vm M)) (hb : ICb (vm M)) (ht : ICt B (vm M)) (he : ICe (vm M)) (hT : ∀ b : Nat, (b : Int) < M 181 4 → bqT (M 181) b ∧ 1 ≤ vm M 29 (vm M 30 b).toNat) (hQ : (1 ≤ n ∧ n ≤ 3) → ∀ M', offY (tz M 0) M' → Q (some (zL (mostR (vm M) n.toNat (nh (vm M 19) 0)))) M') (hF : ¬ (1 ≤ n ∧ n ≤ 3) → Q (some (zL 0)) (tz (tz M 0) 1)) : sp_X12_most [zR 180, zI n] M Q := ⟨B, n, rfl, hs, hb, ht, he, hT, hQ, hF⟩
set_option maxRecDepth 20000 in
set_option maxHeartbeats 4000000 in
theorem m_X12_most (l : Launch) : zC l yX12_most wzX12_most rmX12_most sp_X12_most := by
  refine zMet.of RX12 (by decide +kernel) rfl rfl ?_
  intro E X as M Qp hX S hsp
  obtain ⟨B, n, rfl, hs, hb, ht, he, hT, hQ, hF⟩ := hsp
  refine ⟨Nat.le_of_ble_eq_true rfl, ?_⟩
  dsimp only [zpad, zargs]
  have t8 : 0 ≤ M 181 0 ∧ M 181 0 ≤ 8 := hs.1
  have az := tz_ag M 0
  have key : (1 ≤ n ∧ n ≤ 3) → zK (zg E) rmX12_most 2 (Qp, 0, 0) X (0, 0) 24 [some (zR 180), some (zI n)] [] (tz M 0) := by
    intro c1
    have f := hQ c1
    obtain ⟨n, rfl⟩ : ∃ k : Nat, n = k := ⟨n.toNat, by omega⟩
    rw [Int.toNat_natCast] at f
    have en : ∀ H : Nat → Int, (∀ k, k < 8 → H (8 * n + k) = vm (tz M 0) 19 k) → nh (zrow (tz M 0) 194 H 194) (8 * n) = nh (vm M 19) 0 := fun H hH => by
      funext k
      unfold nh
      split
      · rename_i hk
        rw [zrow_e, hH k hk, az 19 (by decide), Nat.zero_add]
      · rfl
    have rk : ∀ H : Nat → Int, (∀ k, k < 8 → H (8 * n + k) = vm (tz M 0) 19 k) → rwk (zrow (tz M 0) 194 H) n := fun H hH k hk => by
      rw [zrow_e, hH k hk, az 19 (by decide)]
      have := ht.2.2.1 k hk
      omega
    have oy : ∀ H : Nat → Int, offY (tz M 0) (zrow (tz M 0) 194 H) := fun H => (offY.rf _).scr H (by decide)
    refine zr_aload_n (pc := 24) S dX12_most_24 rfl ?_
    refine zr_iload_n (pc := 25) S dX12_most_25 rfl ?_
    refine zr_invV (pc := 26) S [zI _] (m_X12_stocks _) kX12_most_357 dX12_most_26 rfl (Nat.le_of_ble_eq_true rfl) rfl (Nat.le_of_ble_eq_true rfl) ⟨Nat.le_of_ble_eq_true rfl, Nat.le_of_ble_eq_true rfl⟩ (us_X12_stocks (n := n) (by omega) (az.e he) t8 ?_)
    dsimp only [zaft, Option.toList, List.cons_append, List.nil_append, Nat.add_zero]
    intro H hH
    refine zr_aload_n (pc := 29) S dX12_most_29 rfl ?_
    refine zr_iload_n (pc := 30) S dX12_most_30 rfl ?_
    refine zr_invV (pc := 31) S [zI _] (m_X12_mostOf _ 6) kX12_most_346 dX12_most_31 rfl (Nat.le_of_ble_eq_true rfl) rfl (Nat.le_of_ble_eq_true rfl) ⟨Nat.le_of_ble_eq_true rfl, Nat.le_of_ble_eq_true rfl⟩ (us_X12_mostOf (n := n) (V := vm M) (by omega) (by omega) (SPm_0 hs hb hT) (rk H hH) ?_)
    dsimp only [zaft, Option.toList, List.cons_append, List.nil_append, Nat.add_zero]
    intro M' hM'
    rw [en H hH]
    exact zr_lret (pc := 34) S dX12_most_34 rfl ⟨Nat.le_refl _, Nat.le_refl _⟩ (f M' ((oy H).tr hM'.y))
  refine zr_aload_n (pc := 0) S dX12_most_0 rfl ?_
  refine zr_iconst (pc := 1) S dX12_most_1 (by unfold zrI; omega) ?_
  refine zr_putI (pc := 2) S pX12_most_80 dX12_most_2 rfl (Nat.le_of_ble_eq_true rfl) rfl ?_
  refine zr_iload_n (pc := 5) S dX12_most_5 rfl ?_
  refine zr_i2l (pc := 6) S dX12_most_6 ?_
  refine zr_lconst1 (pc := 7) S dX12_most_7 ?_
  refine zr_ldc2 (pc := 8) S (3) dX12_most_8 (List.mem_cons_of_mem _ (zWi_7 _ (List.mem_of_getElem? (i := 24) rfl))) (by unfold zrL; omega) ?_
  refine zr_invS (pc := 11) S [zL _, zL _, zL _] (m_X12_within _) kX12_most_83 dX12_most_11 (Nat.le_of_ble_eq_true rfl) ⟨Nat.le_of_ble_eq_true rfl, Nat.le_of_ble_eq_true rfl⟩ (us_X12_within ?_)
  dsimp only [zaft, Option.toList, List.cons_append, List.nil_append, Nat.add_zero]
  refine zr_if_ne (pc := 14) (tgt := 24) S dX12_most_14 (by decide) (fun c14 => ?_) (fun c14 => ?_)
  · rw [b01_0, Classical.not_not] at c14
    exact key c14
  · rw [b01_0] at c14
    have f := hF c14
    refine zr_aload_n (pc := 17) S dX12_most_17 rfl ?_
    refine zr_iconst (pc := 18) S dX12_most_18 (by unfold zrI; omega) ?_
    refine zr_invV (pc := 19) S [zI _] (m_X12_fails _) kX12_most_95 dX12_most_19 rfl (Nat.le_of_ble_eq_true rfl) rfl (Nat.le_of_ble_eq_true rfl) ⟨Nat.le_of_ble_eq_true rfl, Nat.le_of_ble_eq_true rfl⟩ (us_X12_fails ?_)
    dsimp only [zaft, Option.toList, List.cons_append, List.nil_append, Nat.add_zero]
    refine zr_i2l (pc := 22) S dX12_most_22 ?_
    exact zr_lret (pc := 23) S dX12_most_23 rfl ⟨Nat.le_refl _, Nat.le_refl _⟩ (f)
end
