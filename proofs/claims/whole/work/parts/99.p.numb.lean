section
def sp_X12_number (as : List zV) (M : zM) (Q : Option zV → zM → Prop) : Prop := ∃ (lo hi kd : Int) (e n : Nat), as = [zR 180, zI lo, zI hi, zI kd] ∧ (kd ≠ 0) ∧ (M 180 8 = e) ∧ (e ≤ n) ∧ (M 180 7 = n) ∧ (n ≤ 400) ∧ (¬ M 180 12 = 0 → Q (some (zI (M 180 11))) M) ∧ (M 180 12 = 0 → ¬ M 180 10 = 2 → Q (some (zI (M 180 11))) (blM M 2)) ∧ (M 180 12 = 0 → M 180 10 = 2 → ¬ (lo ≤ M 180 11 ∧ M 180 11 ≤ hi) → Q (some (zI (M 180 11))) (blM M kd)) ∧ (M 180 12 = 0 → M 180 10 = 2 → (lo ≤ M 180 11 ∧ M 180 11 ≤ hi) → ∀ M', nxM M M' n e → Q (some (zI (M 180 11))) M')
theorem us_X12_number {lo hi kd : Int} {e n : Nat} {M : zM} {Q : Option zV → zM → Prop} (hkd : kd ≠ 0) (ha : M 180 8 = e) (hse : e ≤ n) (hn : M 180 7 = n) (n4 : n ≤ 400) (hB : ¬ M 180 12 = 0 → Q (some (zI (M 180 11))) M) (hN : M 180 12 = 0 → ¬ M 180 10 = 2 → Q (some (zI (M 180 11))) (blM M 2)) (hR : M 180 12 = 0 → M 180 10 = 2 → ¬ (lo ≤ M 180 11 ∧ M 180 11 ≤ hi) → Q (some (zI (M 180 11))) (blM M kd)) (hY : M 180 12 = 0 → M 180 10 = 2 → (lo ≤ M 180 11 ∧ M 180 11 ≤ hi) → ∀ M', nxM M M' n e → Q (some (zI (M 180 11))) M') : sp_X12_number [zR 180, zI lo, zI hi, zI kd] M Q := ⟨lo, hi, kd, e, n, rfl, hkd, ha, hse, hn, n4, hB, hN, hR, hY⟩
set_option maxRecDepth 20000 in
set_option maxHeartbeats 4000000 in
theorem m_X12_number (l : Launch) : zC l yX12_number wzX12_number rmX12_number sp_X12_number := by
  refine zMet.of RX12 (by decide +kernel) rfl rfl ?_
  intro E X as M Qp hX S hsp
  obtain ⟨lo, hi, kd, e, n, rfl, hkd, ha, hse, hn, n4, hB, hN, hR, hY⟩ := hsp
  refine ⟨Nat.le_of_ble_eq_true rfl, ?_⟩
  dsimp only [zpad, zargs]
  have bm : ∀ k, ¬ M 180 12 = 0 → blM M k = M := fun k z => by unfold blM; rw [if_neg z]
  have b2 := blM_b (M := M) (k := 2) (by decide)
  have bk := blM_b (M := M) hkd
  have v2 : ∀ k, blM M k 180 11 = M 180 11 := fun k => blM_j (by decide)
  by_cases ct : M 180 10 = 2
  · by_cases cr : lo ≤ M 180 11 ∧ M 180 11 ≤ hi
    · by_cases cb : M 180 12 = 0
      · have q := hY cb ct cr
        refine zr_aload_n (pc := 0) S dX12_number_0 rfl ?_
        refine zr_getI (pc := 1) S fX12_number_148 dX12_number_1 rfl (Nat.le_of_ble_eq_true rfl) rfl ?_
        refine zr_iconst (pc := 4) S dX12_number_4 (by unfold zrI; omega) ?_
        refine zr_icmp_eq (pc := 5) (tgt := 16) S dX12_number_5 (by decide) (fun c5 => ?_) (fun c5 => absurd c5 (by omega))
        refine zr_aload_n (pc := 16) S dX12_number_16 rfl ?_
        refine zr_getI (pc := 17) S fX12_number_160 dX12_number_17 rfl (Nat.le_of_ble_eq_true rfl) rfl ?_
        refine zr_i2l (pc := 20) S dX12_number_20 ?_
        refine zr_iload_n (pc := 21) S dX12_number_21 rfl ?_
        refine zr_i2l (pc := 22) S dX12_number_22 ?_
        refine zr_iload_n (pc := 23) S dX12_number_23 rfl ?_
        refine zr_i2l (pc := 24) S dX12_number_24 ?_
        refine zr_invS (pc := 25) S [zL _, zL _, zL _] (m_X12_within _) kX12_number_83 dX12_number_25 (Nat.le_of_ble_eq_true rfl) ⟨Nat.le_of_ble_eq_true rfl, Nat.le_of_ble_eq_true rfl⟩ (us_X12_within ?_)
        dsimp only [zaft, Option.toList, List.cons_append, List.nil_append, Nat.add_zero]
        rw [b01_t cr]
        refine zr_if_ne (pc := 28) (tgt := 36) S dX12_number_28 (by decide) (fun c28 => ?_) (fun c28 => absurd c28 (by omega))
        refine zr_aload_n (pc := 36) S dX12_number_36 rfl ?_
        refine zr_getI (pc := 37) S fX12_number_160 dX12_number_37 rfl (Nat.le_of_ble_eq_true rfl) rfl ?_
        refine zr_istore (pc := 40) S dX12_number_40 (by decide) ?_
        dsimp only [zst1, zst2, zset, zget, zlong]
        refine zr_aload_n (pc := 42) S dX12_number_42 rfl ?_
        refine zr_getI (pc := 43) S fX12_number_163 dX12_number_43 rfl (Nat.le_of_ble_eq_true rfl) rfl ?_
        refine zr_if_ne (pc := 46) (tgt := 53) S dX12_number_46 (by decide) (fun c46 => absurd c46 (by omega)) (fun c46 => ?_)
        refine zr_aload_n (pc := 49) S dX12_number_49 rfl ?_
        refine zr_invV (pc := 50) S [] (m_X12_next _) kX12_number_187 dX12_number_50 rfl (Nat.le_of_ble_eq_true rfl) rfl (Nat.le_of_ble_eq_true rfl) ⟨Nat.le_of_ble_eq_true rfl, Nat.le_of_ble_eq_true rfl⟩ (us_X12_next hn n4 ha hse ?_)
        dsimp only [zaft, Option.toList, List.cons_append, List.nil_append, Nat.add_zero]
        intro M' hM'
        refine zr_iload (pc := 53) S dX12_number_53 rfl ?_
        exact zr_iret (pc := 55) S dX12_number_55 rfl ⟨Nat.le_refl _, Nat.le_refl _⟩ (q M' hM')
      · have q := hB cb
        refine zr_aload_n (pc := 0) S dX12_number_0 rfl ?_
        refine zr_getI (pc := 1) S fX12_number_148 dX12_number_1 rfl (Nat.le_of_ble_eq_true rfl) rfl ?_
        refine zr_iconst (pc := 4) S dX12_number_4 (by unfold zrI; omega) ?_
        refine zr_icmp_eq (pc := 5) (tgt := 16) S dX12_number_5 (by decide) (fun c5 => ?_) (fun c5 => absurd c5 (by omega))
        refine zr_aload_n (pc := 16) S dX12_number_16 rfl ?_
        refine zr_getI (pc := 17) S fX12_number_160 dX12_number_17 rfl (Nat.le_of_ble_eq_true rfl) rfl ?_
        refine zr_i2l (pc := 20) S dX12_number_20 ?_
        refine zr_iload_n (pc := 21) S dX12_number_21 rfl ?_
        refine zr_i2l (pc := 22) S dX12_number_22 ?_
        refine zr_iload_n (pc := 23) S dX12_number_23 rfl ?_
        refine zr_i2l (pc := 24) S dX12_number_24 ?_
        refine zr_invS (pc := 25) S [zL _, zL _, zL _] (m_X12_within _) kX12_number_83 dX12_number_25 (Nat.le_of_ble_eq_true rfl) ⟨Nat.le_of_ble_eq_true rfl, Nat.le_of_ble_eq_true rfl⟩ (us_X12_within ?_)
        dsimp only [zaft, Option.toList, List.cons_append, List.nil_append, Nat.add_zero]
        rw [b01_t cr]
        refine zr_if_ne (pc := 28) (tgt := 36) S dX12_number_28 (by decide) (fun c28 => ?_) (fun c28 => absurd c28 (by omega))
        refine zr_aload_n (pc := 36) S dX12_number_36 rfl ?_
        refine zr_getI (pc := 37) S fX12_number_160 dX12_number_37 rfl (Nat.le_of_ble_eq_true rfl) rfl ?_
        refine zr_istore (pc := 40) S dX12_number_40 (by decide) ?_
        dsimp only [zst1, zst2, zset, zget, zlong]
        refine zr_aload_n (pc := 42) S dX12_number_42 rfl ?_
        refine zr_getI (pc := 43) S fX12_number_163 dX12_number_43 rfl (Nat.le_of_ble_eq_true rfl) rfl ?_
        refine zr_if_ne (pc := 46) (tgt := 53) S dX12_number_46 (by decide) (fun c46 => ?_) (fun c46 => absurd c46 (by omega))
        refine zr_iload (pc := 53) S dX12_number_53 rfl ?_
        exact zr_iret (pc := 55) S dX12_number_55 rfl ⟨Nat.le_refl _, Nat.le_refl _⟩ (q)
    · have q : Qp (some (zI (M 180 11))) (blM M kd) := by
        by_cases cb : M 180 12 = 0
        · exact hR cb ct cr
        · rw [bm kd cb]; exact hB cb
      refine zr_aload_n (pc := 0) S dX12_number_0 rfl ?_
      refine zr_getI (pc := 1) S fX12_number_148 dX12_number_1 rfl (Nat.le_of_ble_eq_true rfl) rfl ?_
      refine zr_iconst (pc := 4) S dX12_number_4 (by unfold zrI; omega) ?_
      refine zr_icmp_eq (pc := 5) (tgt := 16) S dX12_number_5 (by decide) (fun c5 => ?_) (fun c5 => absurd c5 (by omega))
      refine zr_aload_n (pc := 16) S dX12_number_16 rfl ?_
      refine zr_getI (pc := 17) S fX12_number_160 dX12_number_17 rfl (Nat.le_of_ble_eq_true rfl) rfl ?_
      refine zr_i2l (pc := 20) S dX12_number_20 ?_
      refine zr_iload_n (pc := 21) S dX12_number_21 rfl ?_
      refine zr_i2l (pc := 22) S dX12_number_22 ?_
      refine zr_iload_n (pc := 23) S dX12_number_23 rfl ?_
      refine zr_i2l (pc := 24) S dX12_number_24 ?_
      refine zr_invS (pc := 25) S [zL _, zL _, zL _] (m_X12_within _) kX12_number_83 dX12_number_25 (Nat.le_of_ble_eq_true rfl) ⟨Nat.le_of_ble_eq_true rfl, Nat.le_of_ble_eq_true rfl⟩ (us_X12_within ?_)
      dsimp only [zaft, Option.toList, List.cons_append, List.nil_append, Nat.add_zero]
      rw [b01_f cr]
      refine zr_if_ne (pc := 28) (tgt := 36) S dX12_number_28 (by decide) (fun c28 => absurd c28 (by omega)) (fun c28 => ?_)
      refine zr_aload_n (pc := 31) S dX12_number_31 rfl ?_
      refine zr_iload_n (pc := 32) S dX12_number_32 rfl ?_
      refine zr_invV (pc := 33) S [zI _] (m_X12_blames _) kX12_number_183 dX12_number_33 rfl (Nat.le_of_ble_eq_true rfl) rfl (Nat.le_of_ble_eq_true rfl) ⟨Nat.le_of_ble_eq_true rfl, Nat.le_of_ble_eq_true rfl⟩ (us_X12_blames ?_)
      dsimp only [zaft, Option.toList, List.cons_append, List.nil_append, Nat.add_zero]
      refine zr_aload_n (pc := 36) S dX12_number_36 rfl ?_
      refine zr_getI (pc := 37) S fX12_number_160 dX12_number_37 rfl (Nat.le_of_ble_eq_true rfl) rfl ?_
      rw [v2]
      refine zr_istore (pc := 40) S dX12_number_40 (by decide) ?_
      dsimp only [zst1, zst2, zset, zget, zlong]
      refine zr_aload_n (pc := 42) S dX12_number_42 rfl ?_
      refine zr_getI (pc := 43) S fX12_number_163 dX12_number_43 rfl (Nat.le_of_ble_eq_true rfl) rfl ?_
      refine zr_if_ne (pc := 46) (tgt := 53) S dX12_number_46 (by decide) (fun c46 => ?_) (fun c46 => absurd c46 (by omega))
      refine zr_iload (pc := 53) S dX12_number_53 rfl ?_
      exact zr_iret (pc := 55) S dX12_number_55 rfl ⟨Nat.le_refl _, Nat.le_refl _⟩ (q)
  · have q : Qp (some (zI (M 180 11))) (blM M 2) := by
      by_cases cb : M 180 12 = 0
      · exact hN cb ct
      · rw [bm 2 cb]; exact hB cb
    refine zr_aload_n (pc := 0) S dX12_number_0 rfl ?_
    refine zr_getI (pc := 1) S fX12_number_148 dX12_number_1 rfl (Nat.le_of_ble_eq_true rfl) rfl ?_
    refine zr_iconst (pc := 4) S dX12_number_4 (by unfold zrI; omega) ?_
    refine zr_icmp_eq (pc := 5) (tgt := 16) S dX12_number_5 (by decide) (fun c5 => absurd c5 (by omega)) (fun c5 => ?_)
    refine zr_aload_n (pc := 8) S dX12_number_8 rfl ?_
    refine zr_iconst (pc := 9) S dX12_number_9 (by unfold zrI; omega) ?_
    refine zr_invV (pc := 10) S [zI _] (m_X12_blames _) kX12_number_183 dX12_number_10 rfl (Nat.le_of_ble_eq_true rfl) rfl (Nat.le_of_ble_eq_true rfl) ⟨Nat.le_of_ble_eq_true rfl, Nat.le_of_ble_eq_true rfl⟩ (us_X12_blames ?_)
    dsimp only [zaft, Option.toList, List.cons_append, List.nil_append, Nat.add_zero]
    refine zr_goto (pc := 13) (tgt := 36) S dX12_number_13 (by decide) ?_
    refine zr_aload_n (pc := 36) S dX12_number_36 rfl ?_
    refine zr_getI (pc := 37) S fX12_number_160 dX12_number_37 rfl (Nat.le_of_ble_eq_true rfl) rfl ?_
    rw [v2]
    refine zr_istore (pc := 40) S dX12_number_40 (by decide) ?_
    dsimp only [zst1, zst2, zset, zget, zlong]
    refine zr_aload_n (pc := 42) S dX12_number_42 rfl ?_
    refine zr_getI (pc := 43) S fX12_number_163 dX12_number_43 rfl (Nat.le_of_ble_eq_true rfl) rfl ?_
    refine zr_if_ne (pc := 46) (tgt := 53) S dX12_number_46 (by decide) (fun c46 => ?_) (fun c46 => absurd c46 (by omega))
    refine zr_iload (pc := 53) S dX12_number_53 rfl ?_
    exact zr_iret (pc := 55) S dX12_number_55 rfl ⟨Nat.le_refl _, Nat.le_refl _⟩ (q)
end
