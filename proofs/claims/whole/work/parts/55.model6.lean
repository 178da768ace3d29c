section
theorem vm_hgt {M : zM} {j : Nat} (h : j < 8) : vm M 19 j = M 181 (159 + 21 * j) := if_pos h
theorem vm_bag {M : zM} {j : Nat} (h : j < 8) : vm M 20 j = M 181 (327 + j) := if_pos h
theorem vm_ldd {M : zM} {j : Nat} (h : j < 8) : vm M 21 j = M 181 (335 + j) := if_pos h
theorem vm_whl {M : zM} {j : Nat} (h : j < 8) : vm M 22 j = M 181 (343 + j) := if_pos h
theorem vm_crd {M : zM} {j : Nat} (h : j < 12) : vm M 27 j = M 181 (359 + 4 * j) := if_pos h
theorem vm_scn {M : zM} {j : Nat} (h : j < 12) : vm M 24 j = M 181 (358 + 4 * j) := if_pos h
theorem vm_sas {M : zM} {j : Nat} (h : j < 12) : vm M 25 j = M 181 (357 + 4 * j) := if_pos h
theorem vm_srs {M : zM} {j : Nat} (h : j < 12) : vm M 26 j = M 181 (360 + 4 * j) := if_pos h
theorem vm_sld {M : zM} : vm M 17 6 = M 181 3 := rfl
theorem vm_gvn {M : zM} : vm M 17 11 = M 181 6 := rfl
theorem vm_coin {M : zM} {u i : Nat} (hu : u < 8) (hi : i < 20) : vm M 18 (u * 20 + i) = M 181 (160 + 21 * u + i) := by
  show (if u * 20 + i < 160 then M 181 (160 + 21 * ((u * 20 + i) / 20) + (u * 20 + i) % 20) else _) = _
  rw [if_pos (by omega), show (u * 20 + i) / 20 = u by omega, show (u * 20 + i) % 20 = i by omega]
theorem lp_X12_creditOf {E : zE} {X : zX} {Qp : Option zV → zM → Prop} {M : zM} {B : Int} (S : zS (zg E) X cX12_creditOf 3 wzX12_creditOf RX12 (some .int)) (hI : ICt B (vm M)) (hQ : Qp (some (zI (credit (vm M)))) M) : ∀ (n i : Nat), (n : Int) + i = M 181 3 → zK (zg E) rmX12_creditOf 3 (Qp, 0, 0) X (0, 0) 4 [some (zR 180), some (zI (sumU (vm M 27) i)), some (zI i)] [] M := by
  have h12 : 0 ≤ M 181 3 ∧ M 181 3 ≤ 12 := hI.1
  have sr := sumU_r (f := vm M 27) (c := 400) (N := 12) (fun i hi => ⟨(hI.2.2.2.2 i hi).2.2.2.2.2.2.1, (hI.2.2.2.2 i hi).2.2.2.2.2.2.2⟩)
  intro n
  induction n with
  | zero =>
    intro i hi
    refine zr_iload_n (pc := 4) S dX12_creditOf_4 rfl ?_
    refine zr_aload_n (pc := 5) S dX12_creditOf_5 rfl ?_
    refine zr_getR (pc := 6) S fX12_creditOf_9 dX12_creditOf_6 rfl (Nat.le_of_ble_eq_true rfl) rfl ?_
    refine zr_iconst (pc := 9) S dX12_creditOf_9 (by unfold zrI; omega) ?_
    refine zr_iaload (pc := 10) S dX12_creditOf_10 rfl (Nat.le_of_ble_eq_true rfl) (by omega) (by omega) ?_
    dsimp only [Int.reduceToNat]
    refine zr_icmp_ge (pc := 11) (tgt := 29) S dX12_creditOf_11 (by decide) (fun c11 => ?_) (fun c11 => absurd c11 (by omega))
    refine zr_iload_n (pc := 29) S dX12_creditOf_29 rfl ?_
    exact zr_iret (pc := 30) S dX12_creditOf_30 rfl ⟨Nat.le_refl _, Nat.le_refl _⟩ (zqi hQ (by unfold credit; rw [vm_sld]; congr 1; omega))
  | succ n ih =>
    intro i hi
    have a := sr i (by omega)
    have b := hI.l (i := i) (by omega) (by omega)
    rw [Int.toNat_natCast] at b
    have e : M 181 ((357 : Int) + 4 * (i : Int) + 2).toNat = vm M 27 i := by
      rw [vm_crd (by omega)]
      congr 1
      omega
    have k := ih (i + 1) (by omega)
    rw [Int.natCast_add, Int.natCast_one] at k
    refine zr_iload_n (pc := 4) S dX12_creditOf_4 rfl ?_
    refine zr_aload_n (pc := 5) S dX12_creditOf_5 rfl ?_
    refine zr_getR (pc := 6) S fX12_creditOf_9 dX12_creditOf_6 rfl (Nat.le_of_ble_eq_true rfl) rfl ?_
    refine zr_iconst (pc := 9) S dX12_creditOf_9 (by unfold zrI; omega) ?_
    refine zr_iaload (pc := 10) S dX12_creditOf_10 rfl (Nat.le_of_ble_eq_true rfl) (by omega) (by omega) ?_
    dsimp only [Int.reduceToNat]
    refine zr_icmp_ge (pc := 11) (tgt := 29) S dX12_creditOf_11 (by decide) (fun c11 => absurd c11 (by omega)) (fun c11 => ?_)
    refine zr_iload_n (pc := 14) S dX12_creditOf_14 rfl ?_
    refine zr_aload_n (pc := 15) S dX12_creditOf_15 rfl ?_
    refine zr_iload_n (pc := 16) S dX12_creditOf_16 rfl ?_
    refine zr_iconst (pc := 17) S dX12_creditOf_17 (by unfold zrI; omega) ?_
    refine zr_invV (pc := 18) S [zI _, zI _] (m_X12_lies _) kX12_creditOf_312 dX12_creditOf_18 rfl (Nat.le_of_ble_eq_true rfl) rfl (Nat.le_of_ble_eq_true rfl) ⟨Nat.le_of_ble_eq_true rfl, Nat.le_of_ble_eq_true rfl⟩ (us_X12_lies (by omega) (by omega) (by omega) (by omega) ?_)
    dsimp only [zaft, Option.toList, List.cons_append, List.nil_append, Nat.add_zero]
    rw [e]
    refine zr_iadd (pc := 21) S dX12_creditOf_21 (by unfold zrI; omega) ?_
    refine zr_istore_n (pc := 22) S 1 dX12_creditOf_22 rfl (by decide) ?_
    dsimp only [zst1, zst2, zset, zget, zlong]
    refine zr_iinc (pc := 23) S dX12_creditOf_23 rfl (by unfold zrI; omega) (by decide) ?_
    dsimp only [zst1, zst2, zset, zget, zlong]
    refine zr_goto (pc := 26) (tgt := 4) S dX12_creditOf_26 (by decide) ?_
    exact k
def sp_X12_creditOf (as : List zV) (M : zM) (Q : Option zV → zM → Prop) : Prop := ∃ (B : Int), as = [zR 180] ∧ (ICt B (vm M)) ∧ (Q (some (zI (credit (vm M)))) M)
theorem us_X12_creditOf {B : Int} {M : zM} {Q : Option zV → zM → Prop} (hI : ICt B (vm M)) (hQ : Q (some (zI (credit (vm M)))) M) : sp_X12_creditOf [zR 180] M Q := ⟨B, rfl, hI, hQ⟩
set_option maxRecDepth 20000 in
set_option maxHeartbeats 4000000 in
theorem m_X12_creditOf (l : Launch) : zC l yX12_creditOf wzX12_creditOf rmX12_creditOf sp_X12_creditOf := by
  refine zMet.of RX12 (by decide +kernel) rfl rfl ?_
  intro E X as M Qp hX S hsp
  obtain ⟨B, rfl, hI, hQ⟩ := hsp
  refine ⟨Nat.le_of_ble_eq_true rfl, ?_⟩
  dsimp only [zpad, zargs]
  have h12 : 0 ≤ M 181 3 ∧ M 181 3 ≤ 12 := hI.1
  refine zr_iconst (pc := 0) S dX12_creditOf_0 (by unfold zrI; omega) ?_
  refine zr_istore_n (pc := 1) S 1 dX12_creditOf_1 rfl (by decide) ?_
  dsimp only [zst1, zst2, zset, zget, zlong]
  refine zr_iconst (pc := 2) S dX12_creditOf_2 (by unfold zrI; omega) ?_
  refine zr_istore_n (pc := 3) S 2 dX12_creditOf_3 rfl (by decide) ?_
  dsimp only [zst1, zst2, zset, zget, zlong]
  exact lp_X12_creditOf S hI hQ (M 181 3).toNat 0 (by omega)
theorem ag_credit {M N : zM} (h : AG M N) : credit N = credit M := by unfold credit; rw [h 27 (by decide), h 17 (by decide)]
def sp_X12_credit (as : List zV) (M : zM) (Q : Option zV → zM → Prop) : Prop := ∃ (B : Int), as = [zR 180] ∧ (ICt B (vm M)) ∧ (Q (some (zI (credit (vm M)))) (tz M 0))
theorem us_X12_credit {B : Int} {M : zM} {Q : Option zV → zM → Prop} (hI : ICt B (vm M)) (hQ : Q (some (zI (credit (vm M)))) (tz M 0)) : sp_X12_credit [zR 180] M Q := ⟨B, rfl, hI, hQ⟩
set_option maxRecDepth 20000 in
set_option maxHeartbeats 4000000 in
theorem m_X12_credit (l : Launch) : zC l yX12_credit wzX12_credit rmX12_credit sp_X12_credit := by
  refine zMet.of RX12 (by decide +kernel) rfl rfl ?_
  intro E X as M Qp hX S hsp
  obtain ⟨B, rfl, hI, hQ⟩ := hsp
  refine ⟨Nat.le_of_ble_eq_true rfl, ?_⟩
  dsimp only [zpad, zargs]
  refine zr_aload_n (pc := 0) S dX12_credit_0 rfl ?_
  refine zr_iconst (pc := 1) S dX12_credit_1 (by unfold zrI; omega) ?_
  refine zr_putI (pc := 2) S pX12_credit_80 dX12_credit_2 rfl (Nat.le_of_ble_eq_true rfl) rfl ?_
  refine zr_aload_n (pc := 5) S dX12_credit_5 rfl ?_
  refine zr_invV (pc := 6) S [] (m_X12_creditOf _) kX12_credit_315 dX12_credit_6 rfl (Nat.le_of_ble_eq_true rfl) rfl (Nat.le_of_ble_eq_true rfl) ⟨Nat.le_of_ble_eq_true rfl, Nat.le_of_ble_eq_true rfl⟩ (us_X12_creditOf ((tz_ag M 0).t hI) ?_)
  dsimp only [zaft, Option.toList, List.cons_append, List.nil_append, Nat.add_zero]
  rw [ag_credit (tz_ag M 0)]
  exact zr_iret (pc := 9) S dX12_credit_9 rfl ⟨Nat.le_refl _, Nat.le_refl _⟩ (hQ)
theorem lp_X12_tube {E : zE} {X : zX} {Qp : Option zV → zM → Prop} {M : zM} {B w : Int} {u : Nat} (S : zS (zg E) X cX12_tube 6 wzX12_tube RX12 (some .int)) (hu : u < 8) (hI : ICt B (vm M)) (hQ : Qp (some (zI (vm M 19 u - coinsIn (vm M) u u))) M) : ∀ (n i : Nat), (n : Int) + i = M 181 (159 + 21 * u) → zK (zg E) rmX12_tube 6 (Qp, 0, 0) X (0, 0) 92 [some (zR 180), some (zI u), some (zI w), some (zI (159 + 21 * (u : Int))), some (zI ((i : Int) - cntE (fun i => vm M 18 ((u : Int) * 20 + i).toNat) u i)), some (zI ((i : Int) + 1))] [] M := by
  have e0 : ((159 : Int) + 21 * (u : Int)).toNat = 159 + 21 * u := by omega
  have h20 := hI.2.2.1 u hu
  rw [vm_hgt hu] at h20
  intro n
  induction n with
  | zero =>
    intro i hi
    refine zr_iload (pc := 92) S dX12_tube_92 rfl ?_
    refine zr_aload_n (pc := 94) S dX12_tube_94 rfl ?_
    refine zr_getR (pc := 95) S fX12_tube_9 dX12_tube_95 rfl (Nat.le_of_ble_eq_true rfl) rfl ?_
    refine zr_iload_n (pc := 98) S dX12_tube_98 rfl ?_
    refine zr_iaload (pc := 99) S dX12_tube_99 rfl (Nat.le_of_ble_eq_true rfl) (by omega) (by omega) ?_
    rw [e0]
    refine zr_icmp_gt (pc := 100) (tgt := 132) S dX12_tube_100 (by decide) (fun c100 => ?_) (fun c100 => absurd c100 (by omega))
    refine zr_iload (pc := 132) S dX12_tube_132 rfl ?_
    exact zr_iret (pc := 134) S dX12_tube_134 rfl ⟨Nat.le_refl _, Nat.le_refl _⟩ (zqi hQ (by unfold coinsIn; rw [Int.toNat_natCast, vm_hgt hu, ← hi, show ((0 : Nat) : Int) + (i : Int) = i by omega, Int.toNat_natCast]))
  | succ n ih =>
    intro i hi
    have b := cntE_r (fun i => vm M 18 ((u : Int) * 20 + i).toNat) u i
    have e1 : M 181 ((159 : Int) + 21 * (u : Int) + ((i : Int) + 1)).toNat = vm M 18 ((u : Int) * 20 + i).toNat := by
      rw [show ((u : Int) * 20 + (i : Int)).toNat = u * 20 + i by omega, vm_coin hu (by omega)]
      congr 1
      omega
    have k := ih (i + 1) (by omega)
    have ec : cntE (fun i => vm M 18 ((u : Int) * 20 + i).toNat) u (i + 1) = cntE (fun i => vm M 18 ((u : Int) * 20 + i).toNat) u i + (if vm M 18 ((u : Int) * 20 + i).toNat = u then 1 else 0) := rfl
    rw [ec, Int.natCast_add, Int.natCast_one] at k
    refine zr_iload (pc := 92) S dX12_tube_92 rfl ?_
    refine zr_aload_n (pc := 94) S dX12_tube_94 rfl ?_
    refine zr_getR (pc := 95) S fX12_tube_9 dX12_tube_95 rfl (Nat.le_of_ble_eq_true rfl) rfl ?_
    refine zr_iload_n (pc := 98) S dX12_tube_98 rfl ?_
    refine zr_iaload (pc := 99) S dX12_tube_99 rfl (Nat.le_of_ble_eq_true rfl) (by omega) (by omega) ?_
    rw [e0]
    refine zr_icmp_gt (pc := 100) (tgt := 132) S dX12_tube_100 (by decide) (fun c100 => absurd c100 (by omega)) (fun c100 => ?_)
    refine zr_iload (pc := 103) S dX12_tube_103 rfl ?_
    refine zr_aload_n (pc := 105) S dX12_tube_105 rfl ?_
    refine zr_getR (pc := 106) S fX12_tube_9 dX12_tube_106 rfl (Nat.le_of_ble_eq_true rfl) rfl ?_
    refine zr_iload_n (pc := 109) S dX12_tube_109 rfl ?_
    refine zr_iload (pc := 110) S dX12_tube_110 rfl ?_
    refine zr_iadd (pc := 112) S dX12_tube_112 (by unfold zrI; omega) ?_
    refine zr_iaload (pc := 113) S dX12_tube_113 rfl (Nat.le_of_ble_eq_true rfl) (by omega) (by omega) ?_
    rw [e1]
    refine zr_iload_n (pc := 114) S dX12_tube_114 rfl ?_
    refine zr_icmp_ne (pc := 115) (tgt := 122) S dX12_tube_115 (by decide) (fun c115 => ?_) (fun c115 => ?_)
    · rw [if_neg c115, show (i : Int) + 1 - (cntE (fun i => vm M 18 ((u : Int) * 20 + i).toNat) u i + 0) = (i : Int) - cntE (fun i => vm M 18 ((u : Int) * 20 + i).toNat) u i + 1 by omega] at k
      refine zr_iconst (pc := 122) S dX12_tube_122 (by unfold zrI; omega) ?_
      refine zr_iadd (pc := 123) S dX12_tube_123 (by unfold zrI; omega) ?_
      refine zr_istore (pc := 124) S dX12_tube_124 (by decide) ?_
      dsimp only [zst1, zst2, zset, zget, zlong]
      refine zr_iinc (pc := 126) S dX12_tube_126 rfl (by unfold zrI; omega) (by decide) ?_
      dsimp only [zst1, zst2, zset, zget, zlong]
      refine zr_goto (pc := 129) (tgt := 92) S dX12_tube_129 (by decide) ?_
      exact k
    · rw [if_pos c115, show (i : Int) + 1 - (cntE (fun i => vm M 18 ((u : Int) * 20 + i).toNat) u i + 1) = (i : Int) - cntE (fun i => vm M 18 ((u : Int) * 20 + i).toNat) u i + 0 by omega] at k
      refine zr_iconst (pc := 118) S dX12_tube_118 (by unfold zrI; omega) ?_
      refine zr_goto (pc := 119) (tgt := 123) S dX12_tube_119 (by decide) ?_
      refine zr_iadd (pc := 123) S dX12_tube_123 (by unfold zrI; omega) ?_
      refine zr_istore (pc := 124) S dX12_tube_124 (by decide) ?_
      dsimp only [zst1, zst2, zset, zget, zlong]
      refine zr_iinc (pc := 126) S dX12_tube_126 rfl (by unfold zrI; omega) (by decide) ?_
      dsimp only [zst1, zst2, zset, zget, zlong]
      refine zr_goto (pc := 129) (tgt := 92) S dX12_tube_129 (by decide) ?_
      exact k
theorem ag_topOf {M N : zM} (h : AG M N) (t : Int) : topOf N t = topOf M t := by unfold topOf; rw [h 19 (by decide), h 18 (by decide)]
def sp_X12_tube (as : List zV) (M : zM) (Q : Option zV → zM → Prop) : Prop := ∃ (B t w : Int), as = [zR 180, zI t, zI w] ∧ (0 ≤ M 181 0 ∧ M 181 0 ≤ 8) ∧ (ICt B (vm M)) ∧ ((0 ≤ t ∧ t < M 181 0) → (0 ≤ w ∧ w ≤ 2) → Q (some (zI (if w = 0 then vm M 19 t.toNat else if w = 1 then vm M 19 t.toNat - coinsIn (vm M) t t else topOf (vm M) t))) (tz M 0)) ∧ (¬ (0 ≤ t ∧ t < M 181 0) → Q (some (zI 0)) (tz (tz M 0) 1)) ∧ ((0 ≤ t ∧ t < M 181 0) → ¬ (0 ≤ w ∧ w ≤ 2) → Q (some (zI 0)) (tz (tz M 0) 2))
theorem us_X12_tube {B t w : Int} {M : zM} {Q : Option zV → zM → Prop} (h0 : 0 ≤ M 181 0 ∧ M 181 0 ≤ 8) (hI : ICt B (vm M)) (hQ : (0 ≤ t ∧ t < M 181 0) → (0 ≤ w ∧ w ≤ 2) → Q (some (zI (if w = 0 then vm M 19 t.toNat else if w = 1 then vm M 19 t.toNat - coinsIn (vm M) t t else topOf (vm M) t))) (tz M 0)) (hT : ¬ (0 ≤ t ∧ t < M 181 0) → Q (some (zI 0)) (tz (tz M 0) 1)) (hU : (0 ≤ t ∧ t < M 181 0) → ¬ (0 ≤ w ∧ w ≤ 2) → Q (some (zI 0)) (tz (tz M 0) 2)) : sp_X12_tube [zR 180, zI t, zI w] M Q := ⟨B, t, w, rfl, h0, hI, hQ, hT, hU⟩
set_option maxRecDepth 20000 in
set_option maxHeartbeats 4000000 in
theorem m_X12_tube (l : Launch) : zC l yX12_tube wzX12_tube rmX12_tube sp_X12_tube := by
  refine zMet.of RX12 (by decide +kernel) rfl rfl ?_
  intro E X as M Qp hX S hsp
  obtain ⟨B, t, w, rfl, h0, hI, hQ, hT, hU⟩ := hsp
  refine ⟨Nat.le_of_ble_eq_true rfl, ?_⟩
  dsimp only [zpad, zargs]
  have key : (0 ≤ t ∧ t < M 181 0) → (0 ≤ w ∧ w ≤ 2) → zK (zg E) rmX12_tube 6 (Qp, 0, 0) X (0, 0) 37 [some (zR 180), some (zI t), some (zI w), none, none, none] [] (tz M 0) := by
    intro c1 c2
    have f := hQ c1 c2
    obtain ⟨u, rfl⟩ : ∃ n : Nat, t = n := ⟨t.toNat, by omega⟩
    have hu : u < 8 := by omega
    have e0 : ((159 : Int) + 21 * (u : Int)).toNat = 159 + 21 * u := by omega
    have h20 := hI.2.2.1 u hu
    rw [vm_hgt hu] at h20
    have eh := vm_hgt (M := M) hu
    have et : tz M 0 181 = M 181 := zup_o _ (by decide)
    have eT : tz M 0 181 (159 + 21 * u) = M 181 (159 + 21 * u) := by rw [et]
    rw [Int.toNat_natCast] at f
    have etop : ¬ M 181 (159 + 21 * u) = 0 → topOf (vm M) u = M 181 ((159 : Int) + 21 * (u : Int) + M 181 (159 + 21 * u)).toNat := fun z => by
      unfold topOf
      rw [Int.toNat_natCast, eh, if_neg z, show ((u : Int) * 20 + M 181 (159 + 21 * u) - 1).toNat = u * 20 + (M 181 (159 + 21 * u) - 1).toNat by omega, vm_coin hu (by omega)]
      congr 1
      omega
    have etop0 : M 181 (159 + 21 * u) = 0 → topOf (vm M) u = -1 := fun z => by
      unfold topOf
      rw [Int.toNat_natCast, eh, if_pos z]
    by_cases w0 : w = 0
    · rw [if_pos w0, eh] at f
      refine zr_aload_n (pc := 37) S dX12_tube_37 rfl ?_
      refine zr_iload_n (pc := 38) S dX12_tube_38 rfl ?_
      refine zr_invV (pc := 39) S [zI _] (m_X12_tubeAt _) kX12_tube_293 dX12_tube_39 rfl (Nat.le_of_ble_eq_true rfl) rfl (Nat.le_of_ble_eq_true rfl) ⟨Nat.le_of_ble_eq_true rfl, Nat.le_of_ble_eq_true rfl⟩ (us_X12_tubeAt (by omega) (by omega) ?_)
      dsimp only [zaft, Option.toList, List.cons_append, List.nil_append, Nat.add_zero]
      refine zr_istore_n (pc := 42) S 3 dX12_tube_42 rfl (by decide) ?_
      dsimp only [zst1, zst2, zset, zget, zlong]
      refine zr_iload_n (pc := 43) S dX12_tube_43 rfl ?_
      refine zr_if_ne (pc := 44) (tgt := 54) S dX12_tube_44 (by decide) (fun c44 => absurd c44 (by omega)) (fun c44 => ?_)
      refine zr_aload_n (pc := 47) S dX12_tube_47 rfl ?_
      refine zr_getR (pc := 48) S fX12_tube_9 dX12_tube_48 rfl (Nat.le_of_ble_eq_true rfl) rfl ?_
      refine zr_iload_n (pc := 51) S dX12_tube_51 rfl ?_
      refine zr_iaload (pc := 52) S dX12_tube_52 rfl (Nat.le_of_ble_eq_true rfl) (by omega) (by omega) ?_
      rw [e0, eT]
      exact zr_iret (pc := 53) S dX12_tube_53 rfl ⟨Nat.le_refl _, Nat.le_refl _⟩ (f)
    · rw [if_neg w0] at f
      by_cases w1 : w = 1
      · rw [if_pos w1] at f
        refine zr_aload_n (pc := 37) S dX12_tube_37 rfl ?_
        refine zr_iload_n (pc := 38) S dX12_tube_38 rfl ?_
        refine zr_invV (pc := 39) S [zI _] (m_X12_tubeAt _) kX12_tube_293 dX12_tube_39 rfl (Nat.le_of_ble_eq_true rfl) rfl (Nat.le_of_ble_eq_true rfl) ⟨Nat.le_of_ble_eq_true rfl, Nat.le_of_ble_eq_true rfl⟩ (us_X12_tubeAt (by omega) (by omega) ?_)
        dsimp only [zaft, Option.toList, List.cons_append, List.nil_append, Nat.add_zero]
        refine zr_istore_n (pc := 42) S 3 dX12_tube_42 rfl (by decide) ?_
        dsimp only [zst1, zst2, zset, zget, zlong]
        refine zr_iload_n (pc := 43) S dX12_tube_43 rfl ?_
        refine zr_if_ne (pc := 44) (tgt := 54) S dX12_tube_44 (by decide) (fun c44 => ?_) (fun c44 => absurd c44 (by omega))
        refine zr_iload_n (pc := 54) S dX12_tube_54 rfl ?_
        refine zr_iconst (pc := 55) S dX12_tube_55 (by unfold zrI; omega) ?_
        refine zr_icmp_ne (pc := 56) (tgt := 86) S dX12_tube_56 (by decide) (fun c56 => ?_) (fun c56 => absurd c56 (by omega))
        refine zr_iconst (pc := 86) S dX12_tube_86 (by unfold zrI; omega) ?_
        refine zr_istore (pc := 87) S dX12_tube_87 (by decide) ?_
        dsimp only [zst1, zst2, zset, zget, zlong]
        refine zr_iconst (pc := 89) S dX12_tube_89 (by unfold zrI; omega) ?_
        refine zr_istore (pc := 90) S dX12_tube_90 (by decide) ?_
        dsimp only [zst1, zst2, zset, zget, zlong]
        have l := lp_X12_tube (E := E) (X := X) (Qp := Qp) (w := w) S hu ((tz_ag M 0).t hI) (by rw [ag_coinsIn (tz_ag M 0), tz_ag M 0 19 (by decide)]; exact f) (M 181 (159 + 21 * u)).toNat 0 (by rw [eT]; omega)
        exact l
      · rw [if_neg w1] at f
        by_cases hz : M 181 (159 + 21 * u) = 0
        · rw [etop0 hz] at f
          refine zr_aload_n (pc := 37) S dX12_tube_37 rfl ?_
          refine zr_iload_n (pc := 38) S dX12_tube_38 rfl ?_
          refine zr_invV (pc := 39) S [zI _] (m_X12_tubeAt _) kX12_tube_293 dX12_tube_39 rfl (Nat.le_of_ble_eq_true rfl) rfl (Nat.le_of_ble_eq_true rfl) ⟨Nat.le_of_ble_eq_true rfl, Nat.le_of_ble_eq_true rfl⟩ (us_X12_tubeAt (by omega) (by omega) ?_)
          dsimp only [zaft, Option.toList, List.cons_append, List.nil_append, Nat.add_zero]
          refine zr_istore_n (pc := 42) S 3 dX12_tube_42 rfl (by decide) ?_
          dsimp only [zst1, zst2, zset, zget, zlong]
          refine zr_iload_n (pc := 43) S dX12_tube_43 rfl ?_
          refine zr_if_ne (pc := 44) (tgt := 54) S dX12_tube_44 (by decide) (fun c44 => ?_) (fun c44 => absurd c44 (by omega))
          refine zr_iload_n (pc := 54) S dX12_tube_54 rfl ?_
          refine zr_iconst (pc := 55) S dX12_tube_55 (by unfold zrI; omega) ?_
          refine zr_icmp_ne (pc := 56) (tgt := 86) S dX12_tube_56 (by decide) (fun c56 => absurd c56 (by omega)) (fun c56 => ?_)
          refine zr_aload_n (pc := 59) S dX12_tube_59 rfl ?_
          refine zr_getR (pc := 60) S fX12_tube_9 dX12_tube_60 rfl (Nat.le_of_ble_eq_true rfl) rfl ?_
          refine zr_iload_n (pc := 63) S dX12_tube_63 rfl ?_
          refine zr_iaload (pc := 64) S dX12_tube_64 rfl (Nat.le_of_ble_eq_true rfl) (by omega) (by omega) ?_
          rw [e0, eT]
          refine zr_if_ne (pc := 65) (tgt := 72) S dX12_tube_65 (by decide) (fun c65 => absurd c65 (by omega)) (fun c65 => ?_)
          refine zr_iconst (pc := 68) S dX12_tube_68 (by unfold zrI; omega) ?_
          refine zr_goto (pc := 69) (tgt := 85) S dX12_tube_69 (by decide) ?_
          exact zr_iret (pc := 85) S dX12_tube_85 rfl ⟨Nat.le_refl _, Nat.le_refl _⟩ (f)
        · rw [etop hz] at f
          refine zr_aload_n (pc := 37) S dX12_tube_37 rfl ?_
          refine zr_iload_n (pc := 38) S dX12_tube_38 rfl ?_
          refine zr_invV (pc := 39) S [zI _] (m_X12_tubeAt _) kX12_tube_293 dX12_tube_39 rfl (Nat.le_of_ble_eq_true rfl) rfl (Nat.le_of_ble_eq_true rfl) ⟨Nat.le_of_ble_eq_true rfl, Nat.le_of_ble_eq_true rfl⟩ (us_X12_tubeAt (by omega) (by omega) ?_)
          dsimp only [zaft, Option.toList, List.cons_append, List.nil_append, Nat.add_zero]
          refine zr_istore_n (pc := 42) S 3 dX12_tube_42 rfl (by decide) ?_
          dsimp only [zst1, zst2, zset, zget, zlong]
          refine zr_iload_n (pc := 43) S dX12_tube_43 rfl ?_
          refine zr_if_ne (pc := 44) (tgt := 54) S dX12_tube_44 (by decide) (fun c44 => ?_) (fun c44 => absurd c44 (by omega))
          refine zr_iload_n (pc := 54) S dX12_tube_54 rfl ?_
          refine zr_iconst (pc := 55) S dX12_tube_55 (by unfold zrI; omega) ?_
          refine zr_icmp_ne (pc := 56) (tgt := 86) S dX12_tube_56 (by decide) (fun c56 => absurd c56 (by omega)) (fun c56 => ?_)
          refine zr_aload_n (pc := 59) S dX12_tube_59 rfl ?_
          refine zr_getR (pc := 60) S fX12_tube_9 dX12_tube_60 rfl (Nat.le_of_ble_eq_true rfl) rfl ?_
          refine zr_iload_n (pc := 63) S dX12_tube_63 rfl ?_
          refine zr_iaload (pc := 64) S dX12_tube_64 rfl (Nat.le_of_ble_eq_true rfl) (by omega) (by omega) ?_
          rw [e0, eT]
          refine zr_if_ne (pc := 65) (tgt := 72) S dX12_tube_65 (by decide) (fun c65 => ?_) (fun c65 => absurd c65 (by omega))
          refine zr_aload_n (pc := 72) S dX12_tube_72 rfl ?_
          refine zr_getR (pc := 73) S fX12_tube_9 dX12_tube_73 rfl (Nat.le_of_ble_eq_true rfl) rfl ?_
          refine zr_iload_n (pc := 76) S dX12_tube_76 rfl ?_
          refine zr_aload_n (pc := 77) S dX12_tube_77 rfl ?_
          refine zr_getR (pc := 78) S fX12_tube_9 dX12_tube_78 rfl (Nat.le_of_ble_eq_true rfl) rfl ?_
          refine zr_iload_n (pc := 81) S dX12_tube_81 rfl ?_
          refine zr_iaload (pc := 82) S dX12_tube_82 rfl (Nat.le_of_ble_eq_true rfl) (by omega) (by omega) ?_
          rw [e0, eT]
          refine zr_iadd (pc := 83) S dX12_tube_83 (by unfold zrI; omega) ?_
          refine zr_iaload (pc := 84) S dX12_tube_84 rfl (Nat.le_of_ble_eq_true rfl) (by omega) (by omega) ?_
          rw [et]
          exact zr_iret (pc := 85) S dX12_tube_85 rfl ⟨Nat.le_refl _, Nat.le_refl _⟩ (f)
  refine zr_aload_n (pc := 0) S dX12_tube_0 rfl ?_
  refine zr_iconst (pc := 1) S dX12_tube_1 (by unfold zrI; omega) ?_
  refine zr_putI (pc := 2) S pX12_tube_80 dX12_tube_2 rfl (Nat.le_of_ble_eq_true rfl) rfl ?_
  refine zr_aload_n (pc := 5) S dX12_tube_5 rfl ?_
  refine zr_iload_n (pc := 6) S dX12_tube_6 rfl ?_
  refine zr_invV (pc := 7) S [zI _] (m_X12_isSort _) kX12_tube_99 dX12_tube_7 rfl (Nat.le_of_ble_eq_true rfl) rfl (Nat.le_of_ble_eq_true rfl) ⟨Nat.le_of_ble_eq_true rfl, Nat.le_of_ble_eq_true rfl⟩ (us_X12_isSort h0.1 ?_)
  dsimp only [zaft, Option.toList, List.cons_append, List.nil_append, Nat.add_zero]
  refine zr_if_ne (pc := 10) (tgt := 19) S dX12_tube_10 (by decide) (fun c10 => ?_) (fun c10 => ?_)
  · rw [b01_0, Classical.not_not] at c10
    have c10' : 0 ≤ t ∧ t ≤ M 181 0 - 1 := c10
    refine zr_iload_n (pc := 19) S dX12_tube_19 rfl ?_
    refine zr_i2l (pc := 20) S dX12_tube_20 ?_
    refine zr_lconst0 (pc := 21) S dX12_tube_21 ?_
    refine zr_ldc2 (pc := 22) S (2) dX12_tube_22 (List.mem_cons_of_mem _ (zWi_7 _ (List.mem_of_getElem? (i := 20) rfl))) (by unfold zrL; omega) ?_
    refine zr_invS (pc := 25) S [zL _, zL _, zL _] (m_X12_within _) kX12_tube_83 dX12_tube_25 (Nat.le_of_ble_eq_true rfl) ⟨Nat.le_of_ble_eq_true rfl, Nat.le_of_ble_eq_true rfl⟩ (us_X12_within ?_)
    dsimp only [zaft, Option.toList, List.cons_append, List.nil_append, Nat.add_zero]
    refine zr_if_ne (pc := 28) (tgt := 37) S dX12_tube_28 (by decide) (fun c28 => ?_) (fun c28 => ?_)
    · rw [b01_0, Classical.not_not] at c28
      exact key (by omega) c28
    · rw [b01_0] at c28
      have f := hU (by omega) c28
      refine zr_aload_n (pc := 31) S dX12_tube_31 rfl ?_
      refine zr_iconst (pc := 32) S dX12_tube_32 (by unfold zrI; omega) ?_
      refine zr_invV (pc := 33) S [zI _] (m_X12_fails _) kX12_tube_95 dX12_tube_33 rfl (Nat.le_of_ble_eq_true rfl) rfl (Nat.le_of_ble_eq_true rfl) ⟨Nat.le_of_ble_eq_true rfl, Nat.le_of_ble_eq_true rfl⟩ (us_X12_fails ?_)
      dsimp only [zaft, Option.toList, List.cons_append, List.nil_append, Nat.add_zero]
      exact zr_iret (pc := 36) S dX12_tube_36 rfl ⟨Nat.le_refl _, Nat.le_refl _⟩ (f)
  · rw [b01_0] at c10
    have f := hT (fun z => c10 (by show _ ∧ _ ≤ M 181 0 - 1; omega))
    refine zr_aload_n (pc := 13) S dX12_tube_13 rfl ?_
    refine zr_iconst (pc := 14) S dX12_tube_14 (by unfold zrI; omega) ?_
    refine zr_invV (pc := 15) S [zI _] (m_X12_fails _) kX12_tube_95 dX12_tube_15 rfl (Nat.le_of_ble_eq_true rfl) rfl (Nat.le_of_ble_eq_true rfl) ⟨Nat.le_of_ble_eq_true rfl, Nat.le_of_ble_eq_true rfl⟩ (us_X12_fails ?_)
    dsimp only [zaft, Option.toList, List.cons_append, List.nil_append, Nat.add_zero]
    exact zr_iret (pc := 18) S dX12_tube_18 rfl ⟨Nat.le_refl _, Nat.le_refl _⟩ (f)
end
