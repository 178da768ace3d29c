section
theorem ag_inG {M N : zM} (h : AG M N) (w b r : Int) : inG N w b r = inG M w b r := by
  funext g
  unfold inG vAt
  rw [ag_low h, ag_high h, h 12 (by decide)]
theorem ag_takes {M N : zM} (h : AG M N) (w b r : Int) : takes N w b r = takes M w b r := by
  unfold takes
  rw [ag_inG h, ag_gw h]
theorem vv_0 {M : zM} (h : M 180 16 = -1) : vv M = vm M := by unfold vv; rw [if_pos h]
theorem tz_vv {M : zM} {v : Int} (h : M 180 16 = -1) : vv (tz M v) = vm (tz M v) := vv_0 (by show zup M 180 3 v 180 16 = -1; rw [zup_j (by decide)]; exact h)
def sp_X12_taken (as : List zV) (M : zM) (Q : Option zV → zM → Prop) : Prop := ∃ (w b r : Int), as = [zR 180, zI w, zI b, zI r] ∧ (ICg (vm M)) ∧ (ICs (vm M)) ∧ (ICk (M 181)) ∧ (M 180 16 = -1) ∧ ((0 ≤ w ∧ w ≤ 99) → (0 ≤ b ∧ b ≤ 99) → (0 ≤ r ∧ r ≤ 99) → Q (some (zI (takes (vm M) w b r))) (tz M 0)) ∧ (¬ ((0 ≤ w ∧ w ≤ 99) ∧ (0 ≤ b ∧ b ≤ 99) ∧ (0 ≤ r ∧ r ≤ 99)) → Q (some (zI 0)) (tz (tz M 0) 1))
theorem us_X12_taken {w b r : Int} {M : zM} {Q : Option zV → zM → Prop} (hg : ICg (vm M)) (hs : ICs (vm M)) (hk : ICk (M 181)) (hm : M 180 16 = -1) (hQ : (0 ≤ w ∧ w ≤ 99) → (0 ≤ b ∧ b ≤ 99) → (0 ≤ r ∧ r ≤ 99) → Q (some (zI (takes (vm M) w b r))) (tz M 0)) (hT : ¬ ((0 ≤ w ∧ w ≤ 99) ∧ (0 ≤ b ∧ b ≤ 99) ∧ (0 ≤ r ∧ r ≤ 99)) → Q (some (zI 0)) (tz (tz M 0) 1)) : sp_X12_taken [zR 180, zI w, zI b, zI r] M Q := ⟨w, b, r, rfl, hg, hs, hk, hm, hQ, hT⟩
set_option maxRecDepth 20000 in
set_option maxHeartbeats 4000000 in
theorem m_X12_taken (l : Launch) : zC l yX12_taken wzX12_taken rmX12_taken sp_X12_taken := by
  refine zMet.of RX12 (by decide +kernel) rfl rfl ?_
  intro E X as M Qp hX S hsp
  obtain ⟨w, b, r, rfl, hg, hs, hk, hm, hQ, hT⟩ := hsp
  refine ⟨Nat.le_of_ble_eq_true rfl, ?_⟩
  dsimp only [zpad, zargs]
  have e : takes (vv (tz M 0)) w b r = takes (vm M) w b r := by rw [tz_vv hm]; exact ag_takes (tz_ag M 0) w b r
  refine zr_aload_n (pc := 0) S dX12_taken_0 rfl ?_
  refine zr_iconst (pc := 1) S dX12_taken_1 (by unfold zrI; omega) ?_
  refine zr_putI (pc := 2) S pX12_taken_80 dX12_taken_2 rfl (Nat.le_of_ble_eq_true rfl) rfl ?_
  refine zr_iload_n (pc := 5) S dX12_taken_5 rfl ?_
  refine zr_i2l (pc := 6) S dX12_taken_6 ?_
  refine zr_lconst0 (pc := 7) S dX12_taken_7 ?_
  refine zr_ldc2 (pc := 8) S (99) dX12_taken_8 (List.mem_cons_of_mem _ (zWi_7 _ (List.mem_of_getElem? (i := 21) rfl))) (by unfold zrL; omega) ?_
  refine zr_invS (pc := 11) S [zL _, zL _, zL _] (m_X12_within _) kX12_taken_83 dX12_taken_11 (Nat.le_of_ble_eq_true rfl) ⟨Nat.le_of_ble_eq_true rfl, Nat.le_of_ble_eq_true rfl⟩ (us_X12_within ?_)
  dsimp only [zaft, Option.toList, List.cons_append, List.nil_append, Nat.add_zero]
  refine zr_if_eq (pc := 14) (tgt := 51) S dX12_taken_14 (by decide) (fun c14 => ?_) (fun c14 => ?_)
  · rw [b01_0] at c14
    have f := hT (fun z => c14 z.1)
    refine zr_aload_n (pc := 51) S dX12_taken_51 rfl ?_
    refine zr_iconst (pc := 52) S dX12_taken_52 (by unfold zrI; omega) ?_
    refine zr_invV (pc := 53) S [zI _] (m_X12_fails _) kX12_taken_95 dX12_taken_53 rfl (Nat.le_of_ble_eq_true rfl) rfl (Nat.le_of_ble_eq_true rfl) ⟨Nat.le_of_ble_eq_true rfl, Nat.le_of_ble_eq_true rfl⟩ (us_X12_fails ?_)
    dsimp only [zaft, Option.toList, List.cons_append, List.nil_append, Nat.add_zero]
    exact zr_iret (pc := 56) S dX12_taken_56 rfl ⟨Nat.le_refl _, Nat.le_refl _⟩ (f)
  · rw [b01_0, Classical.not_not] at c14
    refine zr_iload_n (pc := 17) S dX12_taken_17 rfl ?_
    refine zr_i2l (pc := 18) S dX12_taken_18 ?_
    refine zr_lconst0 (pc := 19) S dX12_taken_19 ?_
    refine zr_ldc2 (pc := 20) S (99) dX12_taken_20 (List.mem_cons_of_mem _ (zWi_7 _ (List.mem_of_getElem? (i := 21) rfl))) (by unfold zrL; omega) ?_
    refine zr_invS (pc := 23) S [zL _, zL _, zL _] (m_X12_within _) kX12_taken_83 dX12_taken_23 (Nat.le_of_ble_eq_true rfl) ⟨Nat.le_of_ble_eq_true rfl, Nat.le_of_ble_eq_true rfl⟩ (us_X12_within ?_)
    dsimp only [zaft, Option.toList, List.cons_append, List.nil_append, Nat.add_zero]
    refine zr_if_eq (pc := 26) (tgt := 51) S dX12_taken_26 (by decide) (fun c26 => ?_) (fun c26 => ?_)
    · rw [b01_0] at c26
      have f := hT (fun z => c26 z.2.1)
      refine zr_aload_n (pc := 51) S dX12_taken_51 rfl ?_
      refine zr_iconst (pc := 52) S dX12_taken_52 (by unfold zrI; omega) ?_
      refine zr_invV (pc := 53) S [zI _] (m_X12_fails _) kX12_taken_95 dX12_taken_53 rfl (Nat.le_of_ble_eq_true rfl) rfl (Nat.le_of_ble_eq_true rfl) ⟨Nat.le_of_ble_eq_true rfl, Nat.le_of_ble_eq_true rfl⟩ (us_X12_fails ?_)
      dsimp only [zaft, Option.toList, List.cons_append, List.nil_append, Nat.add_zero]
      exact zr_iret (pc := 56) S dX12_taken_56 rfl ⟨Nat.le_refl _, Nat.le_refl _⟩ (f)
    · rw [b01_0, Classical.not_not] at c26
      refine zr_iload_n (pc := 29) S dX12_taken_29 rfl ?_
      refine zr_i2l (pc := 30) S dX12_taken_30 ?_
      refine zr_lconst0 (pc := 31) S dX12_taken_31 ?_
      refine zr_ldc2 (pc := 32) S (99) dX12_taken_32 (List.mem_cons_of_mem _ (zWi_7 _ (List.mem_of_getElem? (i := 21) rfl))) (by unfold zrL; omega) ?_
      refine zr_invS (pc := 35) S [zL _, zL _, zL _] (m_X12_within _) kX12_taken_83 dX12_taken_35 (Nat.le_of_ble_eq_true rfl) ⟨Nat.le_of_ble_eq_true rfl, Nat.le_of_ble_eq_true rfl⟩ (us_X12_within ?_)
      dsimp only [zaft, Option.toList, List.cons_append, List.nil_append, Nat.add_zero]
      refine zr_if_eq (pc := 38) (tgt := 51) S dX12_taken_38 (by decide) (fun c38 => ?_) (fun c38 => ?_)
      · rw [b01_0] at c38
        have f := hT (fun z => c38 z.2.2)
        refine zr_aload_n (pc := 51) S dX12_taken_51 rfl ?_
        refine zr_iconst (pc := 52) S dX12_taken_52 (by unfold zrI; omega) ?_
        refine zr_invV (pc := 53) S [zI _] (m_X12_fails _) kX12_taken_95 dX12_taken_53 rfl (Nat.le_of_ble_eq_true rfl) rfl (Nat.le_of_ble_eq_true rfl) ⟨Nat.le_of_ble_eq_true rfl, Nat.le_of_ble_eq_true rfl⟩ (us_X12_fails ?_)
        dsimp only [zaft, Option.toList, List.cons_append, List.nil_append, Nat.add_zero]
        exact zr_iret (pc := 56) S dX12_taken_56 rfl ⟨Nat.le_refl _, Nat.le_refl _⟩ (f)
      · rw [b01_0, Classical.not_not] at c38
        have f := hQ c14 c26 c38
        refine zr_aload_n (pc := 41) S dX12_taken_41 rfl ?_
        refine zr_iload_n (pc := 42) S dX12_taken_42 rfl ?_
        refine zr_iload_n (pc := 43) S dX12_taken_43 rfl ?_
        refine zr_iload_n (pc := 44) S dX12_taken_44 rfl ?_
        refine zr_invV (pc := 45) S [zI _, zI _, zI _] (m_X12_takenOf _) kX12_taken_258 dX12_taken_45 rfl (Nat.le_of_ble_eq_true rfl) rfl (Nat.le_of_ble_eq_true rfl) ⟨Nat.le_of_ble_eq_true rfl, Nat.le_of_ble_eq_true rfl⟩ (us_X12_takenOf (by rw [tz_vv hm]; exact (tz_ag M 0).g hg) ((tz_ag M 0).s hs) (by rw [zup_o _ (by decide)]; exact hk) (by show -1 ≤ zup M 180 3 0 180 16; rw [zup_j (by decide)]; omega) c38 ?_)
        dsimp only [zaft, Option.toList, List.cons_append, List.nil_append, Nat.add_zero]
        rw [e]
        refine zr_goto (pc := 48) (tgt := 56) S dX12_taken_48 (by decide) ?_
        exact zr_iret (pc := 56) S dX12_taken_56 rfl ⟨Nat.le_refl _, Nat.le_refl _⟩ (f)
def movesM (M : zM) (g : Nat) (d e : Int) : zM := zup (zup (zup M 180 16 g) 180 17 (kept (M 181 (104 + 7 * g) + d))) 180 18 (kept (M 181 (105 + 7 * g) + e))
def sp_X12_moves (as : List zV) (M : zM) (Q : Option zV → zM → Prop) : Prop := ∃ (g : Nat) (d e : Int), as = [zR 180, zI g, zI d, zI e] ∧ (g < 8) ∧ (-99 ≤ d ∧ d ≤ 99) ∧ (-99 ≤ e ∧ e ≤ 99) ∧ (0 ≤ M 181 (104 + 7 * g) ∧ M 181 (104 + 7 * g) ≤ 99) ∧ (0 ≤ M 181 (105 + 7 * g) ∧ M 181 (105 + 7 * g) ≤ 99) ∧ (Q none (movesM M g d e))
theorem us_X12_moves {g : Nat} {d e : Int} {M : zM} {Q : Option zV → zM → Prop} (h8 : g < 8) (hd : -99 ≤ d ∧ d ≤ 99) (he : -99 ≤ e ∧ e ≤ 99) (hl : 0 ≤ M 181 (104 + 7 * g) ∧ M 181 (104 + 7 * g) ≤ 99) (hh : 0 ≤ M 181 (105 + 7 * g) ∧ M 181 (105 + 7 * g) ≤ 99) (hQ : Q none (movesM M g d e)) : sp_X12_moves [zR 180, zI g, zI d, zI e] M Q := ⟨g, d, e, rfl, h8, hd, he, hl, hh, hQ⟩
set_option maxRecDepth 20000 in
set_option maxHeartbeats 4000000 in
theorem m_X12_moves (l : Launch) : zC l yX12_moves wzX12_moves rmX12_moves sp_X12_moves := by
  refine zMet.of RX12 (by decide +kernel) rfl rfl ?_
  intro E X as M Qp hX S hsp
  obtain ⟨g, d, e, rfl, h8, hd, he, hl, hh, hQ⟩ := hsp
  refine ⟨Nat.le_of_ble_eq_true rfl, ?_⟩
  dsimp only [zpad, zargs]
  have e1 : ((103 : Int) + 7 * (g : Int) + 1).toNat = 104 + 7 * g := by omega
  have e2 : ((103 : Int) + 7 * (g : Int) + 2).toNat = 105 + 7 * g := by omega
  unfold movesM kept at hQ
  refine zr_aload_n (pc := 0) S dX12_moves_0 rfl ?_
  refine zr_iload_n (pc := 1) S dX12_moves_1 rfl ?_
  refine zr_putI (pc := 2) S pX12_moves_30 dX12_moves_2 rfl (Nat.le_of_ble_eq_true rfl) rfl ?_
  refine zr_aload_n (pc := 5) S dX12_moves_5 rfl ?_
  refine zr_iconst (pc := 6) S dX12_moves_6 (by unfold zrI; omega) ?_
  refine zr_bipush (pc := 7) S dX12_moves_7 ⟨by unfold zrI; omega, by decide⟩ ?_
  refine zr_aload_n (pc := 9) S dX12_moves_9 rfl ?_
  refine zr_getR (pc := 10) S fX12_moves_9 dX12_moves_10 rfl (Nat.le_of_ble_eq_true rfl) rfl ?_
  try simp only [zup_k, zup_e, ne_eq, Nat.reduceEqDiff, not_false_eq_true, zup_j]
  refine zr_bipush (pc := 13) S dX12_moves_13 ⟨by unfold zrI; omega, by decide⟩ ?_
  refine zr_bipush (pc := 15) S dX12_moves_15 ⟨by unfold zrI; omega, by decide⟩ ?_
  refine zr_iload_n (pc := 17) S dX12_moves_17 rfl ?_
  refine zr_imul (pc := 18) S dX12_moves_18 (by unfold zrI; omega) ?_
  refine zr_iadd (pc := 19) S dX12_moves_19 (by unfold zrI; omega) ?_
  refine zr_iconst (pc := 20) S dX12_moves_20 (by unfold zrI; omega) ?_
  refine zr_iadd (pc := 21) S dX12_moves_21 (by unfold zrI; omega) ?_
  refine zr_iaload (pc := 22) S dX12_moves_22 rfl (Nat.le_of_ble_eq_true rfl) (by omega) (by omega) ?_
  try simp only [zup_k, zup_e, ne_eq, Nat.reduceEqDiff, not_false_eq_true]
  rw [e1]
  refine zr_iload_n (pc := 23) S dX12_moves_23 rfl ?_
  refine zr_iadd (pc := 24) S dX12_moves_24 (by unfold zrI; omega) ?_
  refine zr_mmin (pc := 25) S kX12_moves_228 dX12_moves_25 (Nat.le_of_ble_eq_true rfl) (Nat.le_of_ble_eq_true rfl) ⟨Nat.le_of_ble_eq_true rfl, Nat.le_of_ble_eq_true rfl⟩ ?_
  refine zr_mmax (pc := 28) S kX12_moves_123 dX12_moves_28 (Nat.le_of_ble_eq_true rfl) (Nat.le_of_ble_eq_true rfl) ⟨Nat.le_of_ble_eq_true rfl, Nat.le_of_ble_eq_true rfl⟩ ?_
  refine zr_putI (pc := 31) S pX12_moves_231 dX12_moves_31 rfl (Nat.le_of_ble_eq_true rfl) rfl ?_
  refine zr_aload_n (pc := 34) S dX12_moves_34 rfl ?_
  refine zr_iconst (pc := 35) S dX12_moves_35 (by unfold zrI; omega) ?_
  refine zr_bipush (pc := 36) S dX12_moves_36 ⟨by unfold zrI; omega, by decide⟩ ?_
  refine zr_aload_n (pc := 38) S dX12_moves_38 rfl ?_
  refine zr_getR (pc := 39) S fX12_moves_9 dX12_moves_39 rfl (Nat.le_of_ble_eq_true rfl) rfl ?_
  try simp only [zup_k, zup_e, ne_eq, Nat.reduceEqDiff, not_false_eq_true, zup_j]
  refine zr_bipush (pc := 42) S dX12_moves_42 ⟨by unfold zrI; omega, by decide⟩ ?_
  refine zr_bipush (pc := 44) S dX12_moves_44 ⟨by unfold zrI; omega, by decide⟩ ?_
  refine zr_iload_n (pc := 46) S dX12_moves_46 rfl ?_
  refine zr_imul (pc := 47) S dX12_moves_47 (by unfold zrI; omega) ?_
  refine zr_iadd (pc := 48) S dX12_moves_48 (by unfold zrI; omega) ?_
  refine zr_iconst (pc := 49) S dX12_moves_49 (by unfold zrI; omega) ?_
  refine zr_iadd (pc := 50) S dX12_moves_50 (by unfold zrI; omega) ?_
  refine zr_iaload (pc := 51) S dX12_moves_51 rfl (Nat.le_of_ble_eq_true rfl) (by omega) (by omega) ?_
  try simp only [zup_k, zup_e, ne_eq, Nat.reduceEqDiff, not_false_eq_true]
  rw [e2]
  refine zr_iload_n (pc := 52) S dX12_moves_52 rfl ?_
  refine zr_iadd (pc := 53) S dX12_moves_53 (by unfold zrI; omega) ?_
  refine zr_mmin (pc := 54) S kX12_moves_228 dX12_moves_54 (Nat.le_of_ble_eq_true rfl) (Nat.le_of_ble_eq_true rfl) ⟨Nat.le_of_ble_eq_true rfl, Nat.le_of_ble_eq_true rfl⟩ ?_
  refine zr_mmax (pc := 57) S kX12_moves_123 dX12_moves_57 (Nat.le_of_ble_eq_true rfl) (Nat.le_of_ble_eq_true rfl) ⟨Nat.le_of_ble_eq_true rfl, Nat.le_of_ble_eq_true rfl⟩ ?_
  refine zr_putI (pc := 60) S pX12_moves_234 dX12_moves_60 rfl (Nat.le_of_ble_eq_true rfl) rfl ?_
  exact zr_vret (pc := 63) S dX12_moves_63 rfl ⟨Nat.le_refl _, Nat.le_refl _⟩ (hQ)
def sp_X12_moveFault (as : List zV) (M : zM) (Q : Option zV → zM → Prop) : Prop := ∃ (g d e : Int), as = [zR 180, zI g, zI d, zI e] ∧ (0 ≤ M 181 1) ∧ ((0 ≤ g ∧ g < M 181 1) → (-99 ≤ d ∧ d ≤ 99) → (-99 ≤ e ∧ e ≤ 99) → Q (some (zI 0)) M) ∧ (¬ (0 ≤ g ∧ g < M 181 1) → Q (some (zI 1)) M) ∧ ((0 ≤ g ∧ g < M 181 1) → ¬ ((-99 ≤ d ∧ d ≤ 99) ∧ (-99 ≤ e ∧ e ≤ 99)) → Q (some (zI 2)) M)
theorem us_X12_moveFault {g d e : Int} {M : zM} {Q : Option zV → zM → Prop} (h0 : 0 ≤ M 181 1) (hQ : (0 ≤ g ∧ g < M 181 1) → (-99 ≤ d ∧ d ≤ 99) → (-99 ≤ e ∧ e ≤ 99) → Q (some (zI 0)) M) (hT : ¬ (0 ≤ g ∧ g < M 181 1) → Q (some (zI 1)) M) (hU : (0 ≤ g ∧ g < M 181 1) → ¬ ((-99 ≤ d ∧ d ≤ 99) ∧ (-99 ≤ e ∧ e ≤ 99)) → Q (some (zI 2)) M) : sp_X12_moveFault [zR 180, zI g, zI d, zI e] M Q := ⟨g, d, e, rfl, h0, hQ, hT, hU⟩
set_option maxRecDepth 20000 in
set_option maxHeartbeats 4000000 in
theorem m_X12_moveFault (l : Launch) : zC l yX12_moveFault wzX12_moveFault rmX12_moveFault sp_X12_moveFault := by
  refine zMet.of RX12 (by decide +kernel) rfl rfl ?_
  intro E X as M Qp hX S hsp
  obtain ⟨g, d, e, rfl, h0, hQ, hT, hU⟩ := hsp
  refine ⟨Nat.le_of_ble_eq_true rfl, ?_⟩
  dsimp only [zpad, zargs]
  refine zr_aload_n (pc := 0) S dX12_moveFault_0 rfl ?_
  refine zr_iload_n (pc := 1) S dX12_moveFault_1 rfl ?_
  refine zr_invV (pc := 2) S [zI _] (m_X12_isGate _) kX12_moveFault_225 dX12_moveFault_2 rfl (Nat.le_of_ble_eq_true rfl) rfl (Nat.le_of_ble_eq_true rfl) ⟨Nat.le_of_ble_eq_true rfl, Nat.le_of_ble_eq_true rfl⟩ (us_X12_isGate h0 ?_)
  dsimp only [zaft, Option.toList, List.cons_append, List.nil_append, Nat.add_zero]
  refine zr_if_ne (pc := 5) (tgt := 12) S dX12_moveFault_5 (by decide) (fun c5 => ?_) (fun c5 => ?_)
  · rw [b01_0, Classical.not_not] at c5
    refine zr_iload_n (pc := 12) S dX12_moveFault_12 rfl ?_
    refine zr_i2l (pc := 13) S dX12_moveFault_13 ?_
    refine zr_ldc2 (pc := 14) S (-99) dX12_moveFault_14 (List.mem_cons_of_mem _ (zWi_7 _ (List.mem_of_getElem? (i := 26) rfl))) (by unfold zrL; omega) ?_
    refine zr_ldc2 (pc := 17) S (99) dX12_moveFault_17 (List.mem_cons_of_mem _ (zWi_7 _ (List.mem_of_getElem? (i := 21) rfl))) (by unfold zrL; omega) ?_
    refine zr_invS (pc := 20) S [zL _, zL _, zL _] (m_X12_within _) kX12_moveFault_83 dX12_moveFault_20 (Nat.le_of_ble_eq_true rfl) ⟨Nat.le_of_ble_eq_true rfl, Nat.le_of_ble_eq_true rfl⟩ (us_X12_within ?_)
    dsimp only [zaft, Option.toList, List.cons_append, List.nil_append, Nat.add_zero]
    refine zr_if_eq (pc := 23) (tgt := 44) S dX12_moveFault_23 (by decide) (fun c23 => ?_) (fun c23 => ?_)
    · rw [b01_0] at c23
      have f := hU (by omega) (fun z => c23 z.1)
      refine zr_iconst (pc := 44) S dX12_moveFault_44 (by unfold zrI; omega) ?_
      exact zr_iret (pc := 45) S dX12_moveFault_45 rfl ⟨Nat.le_refl _, Nat.le_refl _⟩ (f)
    · rw [b01_0, Classical.not_not] at c23
      refine zr_iload_n (pc := 26) S dX12_moveFault_26 rfl ?_
      refine zr_i2l (pc := 27) S dX12_moveFault_27 ?_
      refine zr_ldc2 (pc := 28) S (-99) dX12_moveFault_28 (List.mem_cons_of_mem _ (zWi_7 _ (List.mem_of_getElem? (i := 26) rfl))) (by unfold zrL; omega) ?_
      refine zr_ldc2 (pc := 31) S (99) dX12_moveFault_31 (List.mem_cons_of_mem _ (zWi_7 _ (List.mem_of_getElem? (i := 21) rfl))) (by unfold zrL; omega) ?_
      refine zr_invS (pc := 34) S [zL _, zL _, zL _] (m_X12_within _) kX12_moveFault_83 dX12_moveFault_34 (Nat.le_of_ble_eq_true rfl) ⟨Nat.le_of_ble_eq_true rfl, Nat.le_of_ble_eq_true rfl⟩ (us_X12_within ?_)
      dsimp only [zaft, Option.toList, List.cons_append, List.nil_append, Nat.add_zero]
      refine zr_if_eq (pc := 37) (tgt := 44) S dX12_moveFault_37 (by decide) (fun c37 => ?_) (fun c37 => ?_)
      · rw [b01_0] at c37
        have f := hU (by omega) (fun z => c37 z.2)
        refine zr_iconst (pc := 44) S dX12_moveFault_44 (by unfold zrI; omega) ?_
        exact zr_iret (pc := 45) S dX12_moveFault_45 rfl ⟨Nat.le_refl _, Nat.le_refl _⟩ (f)
      · rw [b01_0, Classical.not_not] at c37
        have f := hQ (by omega) c23 c37
        refine zr_iconst (pc := 40) S dX12_moveFault_40 (by unfold zrI; omega) ?_
        refine zr_goto (pc := 41) (tgt := 45) S dX12_moveFault_41 (by decide) ?_
        exact zr_iret (pc := 45) S dX12_moveFault_45 rfl ⟨Nat.le_refl _, Nat.le_refl _⟩ (f)
  · rw [b01_0] at c5
    have f := hT (fun z => c5 (by omega))
    refine zr_iconst (pc := 8) S dX12_moveFault_8 (by unfold zrI; omega) ?_
    refine zr_goto (pc := 9) (tgt := 45) S dX12_moveFault_9 (by decide) ?_
    exact zr_iret (pc := 45) S dX12_moveFault_45 rfl ⟨Nat.le_refl _, Nat.le_refl _⟩ (f)
def sp_X12_move (as : List zV) (M : zM) (Q : Option zV → zM → Prop) : Prop := ∃ (g d e : Int), as = [zR 180, zI g, zI d, zI e] ∧ (ICg (vm M)) ∧ ((0 ≤ g ∧ g < M 181 1) → (-99 ≤ d ∧ d ≤ 99) → (-99 ≤ e ∧ e ≤ 99) → kept (M 181 (104 + 7 * g.toNat) + d) ≤ kept (M 181 (105 + 7 * g.toNat) + e) → ∀ a b : Int, Q (some (zI 1)) (zup (zup (zup (zup (zup (tz M 0) 180 16 (-1)) 180 17 a) 180 18 b) 181 (104 + 7 * g.toNat) (kept (M 181 (104 + 7 * g.toNat) + d))) 181 (105 + 7 * g.toNat) (kept (M 181 (105 + 7 * g.toNat) + e)))) ∧ ((0 ≤ g ∧ g < M 181 1) → (-99 ≤ d ∧ d ≤ 99) → (-99 ≤ e ∧ e ≤ 99) → ¬ kept (M 181 (104 + 7 * g.toNat) + d) ≤ kept (M 181 (105 + 7 * g.toNat) + e) → ∀ a b : Int, Q (some (zI 0)) (zup (zup (zup (tz M 0) 180 16 (-1)) 180 17 a) 180 18 b)) ∧ (¬ (0 ≤ g ∧ g < M 181 1) → Q (some (zI 0)) (tz M 1)) ∧ ((0 ≤ g ∧ g < M 181 1) → ¬ ((-99 ≤ d ∧ d ≤ 99) ∧ (-99 ≤ e ∧ e ≤ 99)) → Q (some (zI 0)) (tz M 2))
theorem us_X12_move {g d e : Int} {M : zM} {Q : Option zV → zM → Prop} (hg : ICg (vm M)) (hQ : (0 ≤ g ∧ g < M 181 1) → (-99 ≤ d ∧ d ≤ 99) → (-99 ≤ e ∧ e ≤ 99) → kept (M 181 (104 + 7 * g.toNat) + d) ≤ kept (M 181 (105 + 7 * g.toNat) + e) → ∀ a b : Int, Q (some (zI 1)) (zup (zup (zup (zup (zup (tz M 0) 180 16 (-1)) 180 17 a) 180 18 b) 181 (104 + 7 * g.toNat) (kept (M 181 (104 + 7 * g.toNat) + d))) 181 (105 + 7 * g.toNat) (kept (M 181 (105 + 7 * g.toNat) + e)))) (hF : (0 ≤ g ∧ g < M 181 1) → (-99 ≤ d ∧ d ≤ 99) → (-99 ≤ e ∧ e ≤ 99) → ¬ kept (M 181 (104 + 7 * g.toNat) + d) ≤ kept (M 181 (105 + 7 * g.toNat) + e) → ∀ a b : Int, Q (some (zI 0)) (zup (zup (zup (tz M 0) 180 16 (-1)) 180 17 a) 180 18 b)) (hT : ¬ (0 ≤ g ∧ g < M 181 1) → Q (some (zI 0)) (tz M 1)) (hU : (0 ≤ g ∧ g < M 181 1) → ¬ ((-99 ≤ d ∧ d ≤ 99) ∧ (-99 ≤ e ∧ e ≤ 99)) → Q (some (zI 0)) (tz M 2)) : sp_X12_move [zR 180, zI g, zI d, zI e] M Q := ⟨g, d, e, rfl, hg, hQ, hF, hT, hU⟩
set_option maxRecDepth 20000 in
set_option maxHeartbeats 4000000 in
theorem m_X12_move (l : Launch) : zC l yX12_move wzX12_move rmX12_move sp_X12_move := by
  refine zMet.of RX12 (by decide +kernel) rfl rfl ?_
  intro E X as M Qp hX S hsp
  obtain ⟨g, d, e, rfl, hg, hQ, hF, hT, hU⟩ := hsp
  refine ⟨Nat.le_of_ble_eq_true rfl, ?_⟩
  dsimp only [zpad, zargs]
  have h8 : 0 ≤ M 181 1 ∧ M 181 1 ≤ 8 := hg.1
  refine zr_aload_n (pc := 0) S dX12_move_0 rfl ?_
  refine zr_aload_n (pc := 1) S dX12_move_1 rfl ?_
  refine zr_iload_n (pc := 2) S dX12_move_2 rfl ?_
  refine zr_iload_n (pc := 3) S dX12_move_3 rfl ?_
  refine zr_iload_n (pc := 4) S dX12_move_4 rfl ?_
  refine zr_invV (pc := 5) S [zI _, zI _, zI _] (m_X12_moveFault _) kX12_move_278 dX12_move_5 rfl (Nat.le_of_ble_eq_true rfl) rfl (Nat.le_of_ble_eq_true rfl) ⟨Nat.le_of_ble_eq_true rfl, Nat.le_of_ble_eq_true rfl⟩ (us_X12_moveFault h8.1 (fun c1 c2 c3 => ?_) (fun c => ?_) (fun c c' => ?_))
  · dsimp only [zaft, Nat.add_zero]
    have f1 := hQ c1 c2 c3
    have f2 := hF c1 c2 c3
    obtain ⟨n, rfl⟩ : ∃ n : Nat, g = n := ⟨g.toNat, by omega⟩
    rw [Int.toNat_natCast] at f1 f2
    have gv := vm_gate (M := M) (g := n) c1.2
    have gr := hg.2 n (by omega)
    rw [gv.2.1, gv.2.2.1] at gr
    have et : tz M 0 181 = M 181 := zup_o _ (by decide)
    have e1 : ((103 : Int) + 7 * (n : Int) + 1).toNat = 104 + 7 * n := by omega
    have e2 : ((103 : Int) + 7 * (n : Int) + 2).toNat = 105 + 7 * n := by omega
    have em : zup (movesM (tz M 0) n d e) 180 16 (-1) = zup (zup (zup (tz M 0) 180 16 (-1)) 180 17 (kept (M 181 (104 + 7 * n) + d))) 180 18 (kept (M 181 (105 + 7 * n) + e)) := by
      unfold movesM
      rw [et]
      funext k j
      unfold zup
      by_cases hk : k = 180
      · simp only [if_pos hk]
        by_cases j1 : j = 16
        · subst j1; rfl
        · simp only [if_neg j1]
      · simp only [if_neg hk]
    have eL : zup (zup (zup (tz M 0) 180 16 (-1)) 180 17 (kept (M 181 (104 + 7 * n) + d))) 180 18 (kept (M 181 (105 + 7 * n) + e)) 180 17 = kept (M 181 (104 + 7 * n) + d) := by rw [zup_j (by decide), zup_e]
    have eH : zup (zup (zup (tz M 0) 180 16 (-1)) 180 17 (kept (M 181 (104 + 7 * n) + d))) 180 18 (kept (M 181 (105 + 7 * n) + e)) 180 18 = kept (M 181 (105 + 7 * n) + e) := zup_e
    refine zr_putI (pc := 8) S pX12_move_80 dX12_move_8 rfl (Nat.le_of_ble_eq_true rfl) rfl ?_
    refine zr_aload_n (pc := 11) S dX12_move_11 rfl ?_
    refine zr_getI (pc := 12) S fX12_move_80 dX12_move_12 rfl (Nat.le_of_ble_eq_true rfl) rfl ?_
    rw [show zup M 180 3 0 180 3 = 0 from zup_e]
    refine zr_if_le (pc := 15) (tgt := 20) S dX12_move_15 (by decide) (fun _ => ?_) (fun c => absurd c (by omega))
    refine zr_aload_n (pc := 20) S dX12_move_20 rfl ?_
    refine zr_iload_n (pc := 21) S dX12_move_21 rfl ?_
    refine zr_iload_n (pc := 22) S dX12_move_22 rfl ?_
    refine zr_iload_n (pc := 23) S dX12_move_23 rfl ?_
    refine zr_invV (pc := 24) S [zI _, zI _, zI _] (m_X12_moves _) kX12_move_272 dX12_move_24 rfl (Nat.le_of_ble_eq_true rfl) rfl (Nat.le_of_ble_eq_true rfl) ⟨Nat.le_of_ble_eq_true rfl, Nat.le_of_ble_eq_true rfl⟩ (us_X12_moves (g := n) (by omega) c2 c3 (by show 0 ≤ tz M 0 181 _ ∧ tz M 0 181 _ ≤ 99; rw [et]; omega) (by show 0 ≤ tz M 0 181 _ ∧ tz M 0 181 _ ≤ 99; rw [et]; omega) ?_)
    dsimp only [zaft, Nat.add_zero]
    refine zr_aload_n (pc := 27) S dX12_move_27 rfl ?_
    refine zr_iconst (pc := 28) S dX12_move_28 (by unfold zrI; omega) ?_
    refine zr_putI (pc := 29) S pX12_move_30 dX12_move_29 rfl (Nat.le_of_ble_eq_true rfl) rfl ?_
    rw [show zup (movesM (zup M 180 3 0) n d e) 180 16 (-1) = _ from em]
    refine zr_aload_n (pc := 32) S dX12_move_32 rfl ?_
    refine zr_getI (pc := 33) S fX12_move_231 dX12_move_33 rfl (Nat.le_of_ble_eq_true rfl) rfl ?_
    rw [eL]
    refine zr_aload_n (pc := 36) S dX12_move_36 rfl ?_
    refine zr_getI (pc := 37) S fX12_move_234 dX12_move_37 rfl (Nat.le_of_ble_eq_true rfl) rfl ?_
    rw [eH]
    have eH2 : ∀ v : Int, zup (zup (zup (zup (tz M 0) 180 16 (-1)) 180 17 (kept (M 181 (104 + 7 * n) + d))) 180 18 (kept (M 181 (105 + 7 * n) + e))) 181 (104 + 7 * n) v 180 18 = kept (M 181 (105 + 7 * n) + e) := fun v => by rw [zup_k (by decide), eH]
    refine zr_icmp_le (pc := 40) (tgt := 45) S dX12_move_40 (by decide) (fun c40 => ?_) (fun c40 => ?_)
    · have f := f1 c40
      refine zr_aload_n (pc := 45) S dX12_move_45 rfl ?_
      refine zr_getR (pc := 46) S fX12_move_9 dX12_move_46 rfl (Nat.le_of_ble_eq_true rfl) rfl ?_
      refine zr_bipush (pc := 49) S dX12_move_49 ⟨by unfold zrI; omega, by decide⟩ ?_
      refine zr_bipush (pc := 51) S dX12_move_51 ⟨by unfold zrI; omega, by decide⟩ ?_
      refine zr_iload_n (pc := 53) S dX12_move_53 rfl ?_
      refine zr_imul (pc := 54) S dX12_move_54 (by unfold zrI; omega) ?_
      refine zr_iadd (pc := 55) S dX12_move_55 (by unfold zrI; omega) ?_
      refine zr_iconst (pc := 56) S dX12_move_56 (by unfold zrI; omega) ?_
      refine zr_iadd (pc := 57) S dX12_move_57 (by unfold zrI; omega) ?_
      refine zr_aload_n (pc := 58) S dX12_move_58 rfl ?_
      refine zr_getI (pc := 59) S fX12_move_231 dX12_move_59 rfl (Nat.le_of_ble_eq_true rfl) rfl ?_
      rw [eL]
      refine zr_iastore (pc := 62) S dX12_move_62 rfl (Nat.le_of_ble_eq_true rfl) (by omega) (by omega) ?_
      rw [e1]
      refine zr_aload_n (pc := 63) S dX12_move_63 rfl ?_
      refine zr_getR (pc := 64) S fX12_move_9 dX12_move_64 rfl (Nat.le_of_ble_eq_true rfl) rfl ?_
      try simp only [zup_k, zup_e, ne_eq, Nat.reduceEqDiff, not_false_eq_true, zup_j]
      refine zr_bipush (pc := 67) S dX12_move_67 ⟨by unfold zrI; omega, by decide⟩ ?_
      refine zr_bipush (pc := 69) S dX12_move_69 ⟨by unfold zrI; omega, by decide⟩ ?_
      refine zr_iload_n (pc := 71) S dX12_move_71 rfl ?_
      refine zr_imul (pc := 72) S dX12_move_72 (by unfold zrI; omega) ?_
      refine zr_iadd (pc := 73) S dX12_move_73 (by unfold zrI; omega) ?_
      refine zr_iconst (pc := 74) S dX12_move_74 (by unfold zrI; omega) ?_
      refine zr_iadd (pc := 75) S dX12_move_75 (by unfold zrI; omega) ?_
      refine zr_aload_n (pc := 76) S dX12_move_76 rfl ?_
      skip
      refine zr_getI (pc := 77) S fX12_move_234 dX12_move_77 rfl (Nat.le_of_ble_eq_true rfl) rfl ?_
      try simp only [zup_k, zup_e, ne_eq, Nat.reduceEqDiff, not_false_eq_true, zup_j]
      refine zr_iastore (pc := 80) S dX12_move_80 rfl (Nat.le_of_ble_eq_true rfl) (by omega) (by omega) ?_
      rw [e2]
      refine zr_iconst (pc := 81) S dX12_move_81 (by unfold zrI; omega) ?_
      exact zr_zret (pc := 82) S dX12_move_82 rfl (by first | omega | exact b01_r) ⟨Nat.le_refl _, Nat.le_refl _⟩ (f _ _)
    · have f := f2 (by omega)
      refine zr_iconst (pc := 43) S dX12_move_43 (by unfold zrI; omega) ?_
      exact zr_zret (pc := 44) S dX12_move_44 rfl (by first | omega | exact b01_r) ⟨Nat.le_refl _, Nat.le_refl _⟩ (f _ _)
  · dsimp only [zaft, Nat.add_zero]
    have f := hT c
    refine zr_putI (pc := 8) S pX12_move_80 dX12_move_8 rfl (Nat.le_of_ble_eq_true rfl) rfl ?_
    refine zr_aload_n (pc := 11) S dX12_move_11 rfl ?_
    refine zr_getI (pc := 12) S fX12_move_80 dX12_move_12 rfl (Nat.le_of_ble_eq_true rfl) rfl ?_
    try simp only [zup_k, zup_e, ne_eq, Nat.reduceEqDiff, not_false_eq_true, zup_j]
    refine zr_if_le (pc := 15) (tgt := 20) S dX12_move_15 (by decide) (fun c15 => absurd c15 (by omega)) (fun c15 => ?_)
    refine zr_iconst (pc := 18) S dX12_move_18 (by unfold zrI; omega) ?_
    exact zr_zret (pc := 19) S dX12_move_19 rfl (by first | omega | exact b01_r) ⟨Nat.le_refl _, Nat.le_refl _⟩ (by first | exact f | (exfalso; omega))
  · dsimp only [zaft, Nat.add_zero]
    have f := hU c c'
    refine zr_putI (pc := 8) S pX12_move_80 dX12_move_8 rfl (Nat.le_of_ble_eq_true rfl) rfl ?_
    refine zr_aload_n (pc := 11) S dX12_move_11 rfl ?_
    refine zr_getI (pc := 12) S fX12_move_80 dX12_move_12 rfl (Nat.le_of_ble_eq_true rfl) rfl ?_
    try simp only [zup_k, zup_e, ne_eq, Nat.reduceEqDiff, not_false_eq_true, zup_j]
    refine zr_if_le (pc := 15) (tgt := 20) S dX12_move_15 (by decide) (fun c15 => absurd c15 (by omega)) (fun c15 => ?_)
    refine zr_iconst (pc := 18) S dX12_move_18 (by unfold zrI; omega) ?_
    exact zr_zret (pc := 19) S dX12_move_19 rfl (by first | omega | exact b01_r) ⟨Nat.le_refl _, Nat.le_refl _⟩ (by first | exact f | (exfalso; omega))
end
