section
/-- bundles of 1, 2, 4 .. coins make every number of coins -/
def Bst (f g : Nat → Int) (v : Nat) (W : Int) (t top : Nat) : Prop := ∀ s, s ≤ top → (∀ n, n ≤ t → n * v ≤ s → g s ≤ f (s - n * v) + n * W) ∧ ∃ n, n ≤ t ∧ n * v ≤ s ∧ g s = f (s - n * v) + n * W
theorem Bst_0 (f : Nat → Int) (v : Nat) (W : Int) (top : Nat) : Bst f f v W 0 top := fun s _ => ⟨fun n hn _ => by
  have : n = 0 := by omega
  subst this
  simp, 0, Nat.le_refl _, by simp, by simp⟩
theorem Bst_step {f g g' : Nat → Int} {v t b top : Nat} {W : Int} (h : Bst f g v W t top) (hb : b ≤ t + 1) (hg : ∀ s, s ≤ top → g' s = if b * v ≤ s then min (g s) (g (s - b * v) + b * W) else g s) : Bst f g' v W (t + b) top := fun s hs => by
  have e := hg s hs
  refine ⟨fun n hn hv => ?_, ?_⟩
  · by_cases h1 : n ≤ t
    · have u := (h s hs).1 n h1 hv
      rw [e]
      split
      · omega
      · exact u
    · obtain ⟨m, rfl⟩ : ∃ m, n = b + m := ⟨n - b, by omega⟩
      rw [Nat.add_mul] at hv ⊢
      rw [e, if_pos (by omega)]
      have u := (h (s - b * v) (by omega)).1 m (by omega) (by omega)
      rw [show s - b * v - m * v = s - (b * v + m * v) by omega] at u
      rw [Int.natCast_add, Int.add_mul]
      omega
  · rw [e]
    split
    · rename_i hc
      obtain ⟨n1, a1, a2, a3⟩ := (h s hs).2
      obtain ⟨n2, b1, b2, b3⟩ := (h (s - b * v) (by omega)).2
      by_cases hm : g s ≤ g (s - b * v) + b * W
      · exact ⟨n1, by omega, a2, by rw [← a3]; omega⟩
      · refine ⟨b + n2, by omega, by rw [Nat.add_mul]; omega, ?_⟩
        rw [Nat.add_mul, ← show s - b * v - n2 * v = s - (b * v + n2 * v) by omega, Int.natCast_add, Int.add_mul]
        omega
    · obtain ⟨n1, a1, a2, a3⟩ := (h s hs).2
      exact ⟨n1, by omega, a2, a3⟩
def dgt (k : Nat) : Int := 2 ^ (5 * (7 - k))
def wgt (k : Nat) : Int := 1099511627776 - dgt k
theorem dgt_r : ∀ k, k < 8 → 1 ≤ dgt k ∧ dgt k ≤ 34359738368 := by decide
theorem wgt_r (k : Nat) (h : k < 8) : 1 ≤ wgt k ∧ wgt k ≤ 1099511627776 := by
  have := dgt_r k h
  unfold wgt
  omega
/-- the inner pass: sums above x are done -/
def knG (M : zM) (v : Nat) (w : Int) (x rc : Nat) : zM := fun k j => if k = 54 ∧ x < j ∧ v ≤ j ∧ j ≤ rc then min (M 54 j) (M 54 (j - v) + w) else M k j
theorem knG_o {M : zM} {v x rc : Nat} {w : Int} (k : Nat) (h : k ≠ 54) : knG M v w x rc k = M k := by
  funext j
  simp [knG, h]
theorem knG_0 (M : zM) (v : Nat) (w : Int) (rc : Nat) : knG M v w rc rc = M := by
  funext k j
  simp only [knG]
  rw [if_neg (by omega)]
theorem knG_l {M : zM} {v x rc j : Nat} {w : Int} (h : j ≤ x) : knG M v w x rc 54 j = M 54 j := by
  simp only [knG]
  rw [if_neg (by omega)]
theorem knG_s {M : zM} {v x rc : Nat} {w : Int} (h1 : v ≤ x + 1) (h2 : x + 1 ≤ rc) : zup (knG M v w (x + 1) rc) 54 (x + 1) (min (M 54 (x + 1)) (M 54 (x + 1 - v) + w)) = knG M v w x rc := by
  funext k j
  simp only [zup, knG]
  by_cases hk : k = 54
  · subst hk
    by_cases hj : j = x + 1
    · subst hj
      rw [if_pos rfl, if_pos rfl, if_pos ⟨rfl, by omega, by omega, by omega⟩]
    · rw [if_pos rfl, if_neg hj]
      by_cases hc : x < j ∧ v ≤ j ∧ j ≤ rc
      · rw [if_pos ⟨rfl, by omega, hc.2.1, hc.2.2⟩, if_pos ⟨rfl, hc⟩]
      · rw [if_neg (fun z => hc ⟨by omega, z.2.2.1, z.2.2.2⟩), if_neg (fun z => hc z.2)]
  · rw [if_neg hk, if_neg (fun z => hk z.1), if_neg (fun z => hk z.1)]
theorem knG_end {M : zM} {v x rc j : Nat} {w : Int} (h : x < v) : knG M v w x rc 54 j = if v ≤ j ∧ j ≤ rc then min (M 54 j) (M 54 (j - v) + w) else M 54 j := by
  simp only [knG]
  by_cases hc : v ≤ j ∧ j ≤ rc
  · rw [if_pos ⟨trivial, by omega, hc.1, hc.2⟩, if_pos hc]
  · rw [if_neg (fun z => hc ⟨z.2.2.1, z.2.2.2⟩), if_neg hc]
def rmX0_digit : Room := { frames := 0, cells := 0, slots := 0, locals := 0 }
abbrev wzX0_digit : List Cond := .code yX0_digit cX0_digit 1 (some .long) :: zW
def rmX0_hasFor : Room := { frames := 0, cells := 0, slots := 0, locals := 0 }
abbrev wzX0_hasFor : List Cond := .code yX0_hasFor cX0_hasFor 2 (some .boolean) :: zW
def rmX0_shareOf : Room := { frames := 0, cells := 0, slots := 0, locals := 0 }
abbrev wzX0_shareOf : List Cond := .code yX0_shareOf cX0_shareOf 5 (some .int) :: zW
def rmX0_share : Room := { frames := 1, cells := 0, slots := 0, locals := 24 }
abbrev wzX0_share : List Cond := .code yX0_share cX0_share 3 (some .int) :: zW
def rmX0_spreadSort : Room := { frames := 1, cells := 0, slots := 0, locals := 21 }
abbrev wzX0_spreadSort : List Cond := .code yX0_spreadSort cX0_spreadSort 13 (some .int) :: zW
theorem fX0_hasFor_11 : zfl wzX0_hasFor RX0 vwCl 11 0 1 := ⟨_, _, _, rfl, (fun w h => List.mem_cons_of_mem _ (zWuX0 w h)), by decide, List.mem_cons_of_mem _ (zWi_7 _ (List.mem_of_getElem? (i := 43) rfl))⟩
theorem fX0_share_11 : zfl wzX0_share RX0 vwCl 11 0 1 := ⟨_, _, _, rfl, (fun w h => List.mem_cons_of_mem _ (zWuX0 w h)), by decide, List.mem_cons_of_mem _ (zWi_7 _ (List.mem_of_getElem? (i := 43) rfl))⟩
theorem kX0_share_61 : ∀ (s9 : State) (a9 : Array Value), (∀ w ∈ wzX0_share, w.before a9 s9 = true) → CallW rmX0_share s9 a9 RX0 RX0 61 yX0_hasFor cX0_hasFor 2 (some .boolean) wzX0_hasFor rmX0_hasFor 0 0 1 := zcV (zWi_20 _ (List.mem_of_getElem? (i := 36) rfl)) (zWi_12 _ (List.mem_of_getElem? (i := 27) rfl)) (zWi_25 _ (List.mem_of_getElem? (i := 14) rfl)) (zWi_12 _ (List.mem_of_getElem? (i := 9) rfl)) (zWi_1 _ (List.mem_of_getElem? (i := 0) rfl)) (by decide +kernel) rfl rfl ⟨Nat.le_of_ble_eq_true rfl, Nat.le_of_ble_eq_true rfl⟩
theorem kX0_share_64 : ∀ (s9 : State) (a9 : Array Value), (∀ w ∈ wzX0_share, w.before a9 s9 = true) → CallB rmX0_share s9 a9 RX0 64 yX0_shareOf cX0_shareOf 5 (some .int) wzX0_shareOf rmX0_shareOf 0 0 2 ∧ (Cond.static yX0_shareOf).before a9 s9 = true := zcS (zWi_20 _ (List.mem_of_getElem? (i := 37) rfl)) (zWi_31 _ (List.mem_of_getElem? (i := 4) rfl)) (zWi_12 _ (List.mem_of_getElem? (i := 9) rfl)) (zWi_1 _ (List.mem_of_getElem? (i := 8) rfl)) (by decide +kernel) rfl rfl ⟨Nat.le_of_ble_eq_true rfl, Nat.le_of_ble_eq_true rfl⟩
theorem fX0_spreadSort_19 : zfl wzX0_spreadSort RX0 vwCl 19 0 0 := ⟨_, _, _, rfl, (fun w h => List.mem_cons_of_mem _ (zWuX0 w h)), by decide, List.mem_cons_of_mem _ (zWi_7 _ (List.mem_of_getElem? (i := 45) rfl))⟩
theorem fX0_spreadSort_48 : zfl wzX0_spreadSort RX0 vwCl 48 7 2 := ⟨_, _, _, rfl, (fun w h => List.mem_cons_of_mem _ (zWuX7 w h)), by decide, List.mem_cons_of_mem _ (zWi_7 _ (List.mem_of_getElem? (i := 47) rfl))⟩
theorem fX0_spreadSort_11 : zfl wzX0_spreadSort RX0 vwCl 11 0 1 := ⟨_, _, _, rfl, (fun w h => List.mem_cons_of_mem _ (zWuX0 w h)), by decide, List.mem_cons_of_mem _ (zWi_7 _ (List.mem_of_getElem? (i := 43) rfl))⟩
theorem kX0_spreadSort_23 : zml_mmin wzX0_spreadSort RX0 23 := ⟨List.mem_cons_of_mem _ (zWi_20 _ (List.mem_of_getElem? (i := 29) rfl)), List.mem_cons_of_mem _ (zWi_30 _ (List.mem_of_getElem? (i := 3) rfl)), List.mem_cons_of_mem _ (zWi_12 _ (List.mem_of_getElem? (i := 0) rfl)), List.mem_cons_of_mem _ (zWi_0 _ (List.mem_of_getElem? (i := 28) rfl))⟩
theorem kX0_spreadSort_54 : ∀ (s9 : State) (a9 : Array Value), (∀ w ∈ wzX0_spreadSort, w.before a9 s9 = true) → CallB rmX0_spreadSort s9 a9 RX0 54 yX0_digit cX0_digit 1 (some .long) wzX0_digit rmX0_digit 0 0 1 ∧ (Cond.static yX0_digit).before a9 s9 = true := zcS (zWi_20 _ (List.mem_of_getElem? (i := 34) rfl)) (zWi_31 _ (List.mem_of_getElem? (i := 3) rfl)) (zWi_12 _ (List.mem_of_getElem? (i := 9) rfl)) (zWi_0 _ (List.mem_of_getElem? (i := 49) rfl)) (by decide +kernel) rfl rfl ⟨Nat.le_of_ble_eq_true rfl, Nat.le_of_ble_eq_true rfl⟩
theorem kX0_spreadSort_58 : zml_mminL wzX0_spreadSort RX0 58 := ⟨List.mem_cons_of_mem _ (zWi_20 _ (List.mem_of_getElem? (i := 35) rfl)), List.mem_cons_of_mem _ (zWi_30 _ (List.mem_of_getElem? (i := 5) rfl)), List.mem_cons_of_mem _ (zWi_12 _ (List.mem_of_getElem? (i := 0) rfl)), List.mem_cons_of_mem _ (zWi_0 _ (List.mem_of_getElem? (i := 30) rfl))⟩
theorem pow_i (k : Nat) (h : k < 8) : (5 * (7 - (k : Int))).toNat = 5 * (7 - k) := by omega
def sp_X0_digit (as : List zV) (M : zM) (Q : Option zV → zM → Prop) : Prop := ∃ (k : Nat), as = [zI k] ∧ (k < 8) ∧ Q (some (zL (dgt k))) (M)
theorem us_X0_digit {k : Nat} {M : zM} {Q : Option zV → zM → Prop} (h8 : k < 8) (h99 : Q (some (zL (dgt k))) (M)) : sp_X0_digit [zI k] M Q := ⟨k, rfl, h8, h99⟩
set_option maxRecDepth 20000 in
set_option maxHeartbeats 4000000 in
theorem m_X0_digit (l : Launch) : zC l yX0_digit wzX0_digit rmX0_digit sp_X0_digit := by
  refine zMet.of RX0 (by decide +kernel) rfl rfl ?_
  intro E X as M Qp hX S hsp
  obtain ⟨k, rfl, h8, hQ⟩ := hsp
  refine ⟨Nat.le_of_ble_eq_true rfl, ?_⟩
  dsimp only [zpad, zargs]
  have e := pow_i k h8
  have d := dgt_r k h8
  have e2 : (1 : Int) * 2 ^ (5 * (7 - k)) = dgt k := by unfold dgt; omega
  refine zr_lconst1 (pc := 0) S dX0_digit_0 ?_
  refine zr_iconst (pc := 1) S dX0_digit_1 (by unfold zrI; omega) ?_
  refine zr_bipush (pc := 2) S dX0_digit_2 ⟨by unfold zrI; omega, by decide⟩ ?_
  refine zr_iload_n (pc := 4) S dX0_digit_4 rfl ?_
  refine zr_isub (pc := 5) S dX0_digit_5 (by unfold zrI; omega) ?_
  refine zr_imul (pc := 6) S dX0_digit_6 (by unfold zrI; omega) ?_
  refine zr_lshl (pc := 7) S dX0_digit_7 (by omega) (by omega) (by rw [e, e2]; unfold zrL; omega) ?_
  rw [e, e2]
  exact zr_lret (pc := 8) S dX0_digit_8 rfl ⟨Nat.le_refl _, Nat.le_refl _⟩ (hQ)
def sp_X0_hasFor (as : List zV) (M : zM) (Q : Option zV → zM → Prop) : Prop := ∃ (s : Int), as = [zR 53, zI s] ∧ Q (some (zI (b01 (0 ≤ s ∧ s ≤ 4800 ∧ M 54 s.toNat < 1152921504606846976)))) (M)
theorem us_X0_hasFor {s : Int} {M : zM} {Q : Option zV → zM → Prop}  (h99 : Q (some (zI (b01 (0 ≤ s ∧ s ≤ 4800 ∧ M 54 s.toNat < 1152921504606846976)))) (M)) : sp_X0_hasFor [zR 53, zI s] M Q := ⟨s, rfl, h99⟩
set_option maxRecDepth 20000 in
set_option maxHeartbeats 4000000 in
theorem m_X0_hasFor (l : Launch) : zC l yX0_hasFor wzX0_hasFor rmX0_hasFor sp_X0_hasFor := by
  refine zMet.of RX0 (by decide +kernel) rfl rfl ?_
  intro E X as M Qp hX S hsp
  obtain ⟨s, rfl, hQ⟩ := hsp
  refine ⟨Nat.le_of_ble_eq_true rfl, ?_⟩
  dsimp only [zpad, zargs]
  refine zr_iload_n (pc := 0) S dX0_hasFor_0 rfl ?_
  refine zr_if_lt (pc := 1) (tgt := 28) S dX0_hasFor_1 (by decide) (fun c1 => ?_) (fun c1 => ?_)
  · refine zr_iconst (pc := 28) S dX0_hasFor_28 (by unfold zrI; omega) ?_
    exact zr_zret (pc := 29) S dX0_hasFor_29 rfl (by first | omega | exact b01_r) ⟨Nat.le_refl _, Nat.le_refl _⟩ (zqi hQ (by unfold b01; split <;> omega))
  · refine zr_iload_n (pc := 4) S dX0_hasFor_4 rfl ?_
    refine zr_sipush (pc := 5) S dX0_hasFor_5 ⟨by unfold zrI; omega, by decide⟩ ?_
    refine zr_icmp_gt (pc := 8) (tgt := 28) S dX0_hasFor_8 (by decide) (fun c8 => ?_) (fun c8 => ?_)
    · refine zr_iconst (pc := 28) S dX0_hasFor_28 (by unfold zrI; omega) ?_
      exact zr_zret (pc := 29) S dX0_hasFor_29 rfl (by first | omega | exact b01_r) ⟨Nat.le_refl _, Nat.le_refl _⟩ (zqi hQ (by unfold b01; split <;> omega))
    · refine zr_aload_n (pc := 11) S dX0_hasFor_11 rfl ?_
      refine zr_getR (pc := 12) S fX0_hasFor_11 dX0_hasFor_12 rfl (Nat.le_of_ble_eq_true rfl) rfl ?_
      refine zr_iload_n (pc := 15) S dX0_hasFor_15 rfl ?_
      refine zr_laload (pc := 16) S dX0_hasFor_16 rfl (Nat.le_of_ble_eq_true rfl) (by omega) (by omega) ?_
      refine zr_ldc2 (pc := 17) S (1152921504606846976) dX0_hasFor_17 (List.mem_cons_of_mem _ (zWi_7 _ (List.mem_of_getElem? (i := 2) rfl))) (by unfold zrL; omega) ?_
      refine zr_lcmp_ge (pc := 20) (tgt := 28) S dX0_hasFor_20 dX0_hasFor_21 (by decide) (fun c20 => ?_) (fun c20 => ?_)
      · refine zr_iconst (pc := 28) S dX0_hasFor_28 (by unfold zrI; omega) ?_
        exact zr_zret (pc := 29) S dX0_hasFor_29 rfl (by first | omega | exact b01_r) ⟨Nat.le_refl _, Nat.le_refl _⟩ (zqi hQ (by unfold b01; split <;> omega))
      · refine zr_iconst (pc := 24) S dX0_hasFor_24 (by unfold zrI; omega) ?_
        refine zr_goto (pc := 25) (tgt := 29) S dX0_hasFor_25 (by decide) ?_
        exact zr_zret (pc := 29) S dX0_hasFor_29 rfl (by first | omega | exact b01_r) ⟨Nat.le_refl _, Nat.le_refl _⟩ (zqi hQ (by unfold b01; split <;> omega))
/-- one pass of a bundle -/
theorem lp_X0_pass {E : zE} {X : zX} {Qp : Option zV → zM → Prop} {M : zM} {k top many : Int} {v rc : Nat} {w : Int} {l3 l6 l7 l8 : Option zV} (S : zS (zg E) X cX0_spreadSort 13 wzX0_spreadSort RX0 (some .int)) (hv : 1 ≤ v) (hrc : rc ≤ 4800) (hw : 0 ≤ w ∧ w ≤ 35184372088832) (hf : ∀ j, j ≤ rc → 0 ≤ M 54 j ∧ M 54 j ≤ 1152921504606846976) (hk : ∀ (x : Nat) (u12 : Option zV), x < v → zK (zg E) rmX0_spreadSort 13 (Qp, 0, 0) X (0, 0) 124 [some (zR 53), some (zI k), some (zI many), l3, some (zI top), some (zI rc), l6, l7, l8, some (zI v), some (zL w), none, u12] [] (knG M v w x rc)) : ∀ (x : Nat), x ≤ rc → zK (zg E) rmX0_spreadSort 13 (Qp, 0, 0) X (0, 0) 81 [some (zR 53), some (zI k), some (zI many), l3, some (zI top), some (zI rc), l6, l7, l8, some (zI v), some (zL w), none, some (zI x)] [] (knG M v w x rc) := by
  intro x
  induction x with
  | zero =>
    intro hx
    have q := hk 0
    refine zr_iload (pc := 81) S dX0_spreadSort_81 rfl ?_
    refine zr_iload (pc := 83) S dX0_spreadSort_83 rfl ?_
    refine zr_icmp_lt (pc := 85) (tgt := 124) S dX0_spreadSort_85 (by decide) (fun c85 => ?_) (fun c85 => absurd c85 (by omega))
    exact q _ (by omega)
  | succ x ih =>
    intro hx
    have q := ih (by omega)
    have q2 := hk (x + 1)
    have e : ((x + 1 : Nat) : Int).toNat = x + 1 := Int.toNat_natCast _
    have e3 : ((x + 1 : Nat) : Int) + -1 = x := by omega
    have l1 : knG M v w (x + 1) rc 54 (x + 1) = M 54 (x + 1) := knG_l (Nat.le_refl _)
    have l2 : knG M v w (x + 1) rc 54 (x + 1 - v) = M 54 (x + 1 - v) := knG_l (by omega)
    refine zr_iload (pc := 81) S dX0_spreadSort_81 rfl ?_
    refine zr_iload (pc := 83) S dX0_spreadSort_83 rfl ?_
    refine zr_icmp_lt (pc := 85) (tgt := 124) S dX0_spreadSort_85 (by decide) (fun c85 => ?_) (fun c85 => ?_)
    · skip
      exact q2 _ (by omega)
    · have e2 : (((x + 1 : Nat) : Int) - v).toNat = x + 1 - v := by omega
      have b1 := hf (x + 1 - v) (by omega)
      rw [← knG_s (by omega) (by omega)] at q
      refine zr_aload_n (pc := 88) S dX0_spreadSort_88 rfl ?_
      refine zr_getR (pc := 89) S fX0_spreadSort_11 dX0_spreadSort_89 rfl (Nat.le_of_ble_eq_true rfl) rfl ?_
      refine zr_iload (pc := 92) S dX0_spreadSort_92 rfl ?_
      refine zr_aload_n (pc := 94) S dX0_spreadSort_94 rfl ?_
      refine zr_getR (pc := 95) S fX0_spreadSort_11 dX0_spreadSort_95 rfl (Nat.le_of_ble_eq_true rfl) rfl ?_
      refine zr_iload (pc := 98) S dX0_spreadSort_98 rfl ?_
      refine zr_laload (pc := 100) S dX0_spreadSort_100 rfl (Nat.le_of_ble_eq_true rfl) (by omega) (by omega) ?_
      rw [e, l1]
      refine zr_aload_n (pc := 101) S dX0_spreadSort_101 rfl ?_
      refine zr_getR (pc := 102) S fX0_spreadSort_11 dX0_spreadSort_102 rfl (Nat.le_of_ble_eq_true rfl) rfl ?_
      refine zr_iload (pc := 105) S dX0_spreadSort_105 rfl ?_
      refine zr_iload (pc := 107) S dX0_spreadSort_107 rfl ?_
      refine zr_isub (pc := 109) S dX0_spreadSort_109 (by unfold zrI; omega) ?_
      refine zr_laload (pc := 110) S dX0_spreadSort_110 rfl (Nat.le_of_ble_eq_true rfl) (by omega) (by omega) ?_
      rw [e2, l2]
      refine zr_lload (pc := 111) S dX0_spreadSort_111 rfl ?_
      refine zr_ladd (pc := 113) S dX0_spreadSort_113 (by unfold zrL; omega) ?_
      refine zr_mminL (pc := 114) S kX0_spreadSort_58 dX0_spreadSort_114 (Nat.le_of_ble_eq_true rfl) (Nat.le_of_ble_eq_true rfl) ⟨Nat.le_of_ble_eq_true rfl, Nat.le_of_ble_eq_true rfl⟩ ?_
      refine zr_lastore (pc := 117) S dX0_spreadSort_117 rfl (Nat.le_of_ble_eq_true rfl) (by omega) (by omega) ?_
      rw [e]
      refine zr_iinc (pc := 118) S dX0_spreadSort_118 rfl (by unfold zrI; omega) (by decide) ?_
      dsimp only [zst1, zst2, zset, zget, zlong]
      rw [e3]
      refine zr_goto (pc := 121) (tgt := 81) S dX0_spreadSort_121 (by decide) ?_
      exact q
end
