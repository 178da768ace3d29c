section
/-- the bounds of a setting -/
def setLo (w : Int) : Int := if w = 2 then -10 else 0
def setHi (w : Int) : Int := if w = 0 ∨ w = 3 then 999 else if w = 1 then 20 else 10
def sp_X12_set (as : List zV) (M : zM) (Q : Option zV → zM → Prop) : Prop := ∃ (w v : Int), as = [zR 180, zI w, zI v] ∧ ((0 ≤ w ∧ w ≤ 3) → (setLo w ≤ v ∧ v ≤ setHi w) → Q (some (zI (M 181 (7 + w).toNat))) (zup (tz M 0) 181 (7 + w).toNat v)) ∧ (¬ (0 ≤ w ∧ w ≤ 3) → Q (some (zI 0)) (tz (tz M 0) 1)) ∧ ((0 ≤ w ∧ w ≤ 3) → ¬ (setLo w ≤ v ∧ v ≤ setHi w) → Q (some (zI 0)) (tz (tz M 0) 2))
theorem us_X12_set {w v : Int} {M : zM} {Q : Option zV → zM → Prop} (hQ : (0 ≤ w ∧ w ≤ 3) → (setLo w ≤ v ∧ v ≤ setHi w) → Q (some (zI (M 181 (7 + w).toNat))) (zup (tz M 0) 181 (7 + w).toNat v)) (hT : ¬ (0 ≤ w ∧ w ≤ 3) → Q (some (zI 0)) (tz (tz M 0) 1)) (hU : (0 ≤ w ∧ w ≤ 3) → ¬ (setLo w ≤ v ∧ v ≤ setHi w) → Q (some (zI 0)) (tz (tz M 0) 2)) : sp_X12_set [zR 180, zI w, zI v] M Q := ⟨w, v, rfl, hQ, hT, hU⟩
set_option maxRecDepth 20000 in
set_option maxHeartbeats 4000000 in
theorem m_X12_set (l : Launch) : zC l yX12_set wzX12_set rmX12_set sp_X12_set := by
  refine zMet.of RX12 (by decide +kernel) rfl rfl ?_
  intro E X as M Qp hX S hsp
  obtain ⟨w, v, rfl, hQ, hT, hU⟩ := hsp
  refine ⟨Nat.le_of_ble_eq_true rfl, ?_⟩
  dsimp only [zpad, zargs]
  have key : ∀ lo hi : Int, lo = setLo w → hi = setHi w → (0 ≤ w ∧ w ≤ 3) → zrI lo → zrI hi → zK (zg E) rmX12_set 5 (Qp, 0, 0) X (0, 0) 64 [some (zR 180), some (zI w), some (zI v), some (zI lo), some (zI hi)] [] (tz M 0) := by
    intro lo hi hl hh hw _ _
    refine zr_iload_n (pc := 64) S dX12_set_64 rfl ?_
    refine zr_i2l (pc := 65) S dX12_set_65 ?_
    refine zr_iload_n (pc := 66) S dX12_set_66 rfl ?_
    refine zr_i2l (pc := 67) S dX12_set_67 ?_
    refine zr_iload (pc := 68) S dX12_set_68 rfl ?_
    refine zr_i2l (pc := 70) S dX12_set_70 ?_
    refine zr_invS (pc := 71) S [zL _, zL _, zL _] (m_X12_within _) kX12_set_83 dX12_set_71 (Nat.le_of_ble_eq_true rfl) ⟨Nat.le_of_ble_eq_true rfl, Nat.le_of_ble_eq_true rfl⟩ (us_X12_within ?_)
    dsimp only [zaft, Option.toList, List.cons_append, List.nil_append, Nat.add_zero]
    refine zr_if_eq (pc := 74) (tgt := 89) S dX12_set_74 (by decide) (fun c74 => ?_) (fun c74 => ?_)
    · rw [b01_0] at c74
      have f := hU hw (by rw [← hl, ← hh]; exact c74)
      refine zr_aload_n (pc := 89) S dX12_set_89 rfl ?_
      refine zr_iconst (pc := 90) S dX12_set_90 (by unfold zrI; omega) ?_
      refine zr_invV (pc := 91) S [zI _] (m_X12_fails _) kX12_set_95 dX12_set_91 rfl (Nat.le_of_ble_eq_true rfl) rfl (Nat.le_of_ble_eq_true rfl) ⟨Nat.le_of_ble_eq_true rfl, Nat.le_of_ble_eq_true rfl⟩ (us_X12_fails ?_)
      dsimp only [zaft, Option.toList, List.cons_append, List.nil_append, Nat.add_zero]
      exact zr_iret (pc := 94) S dX12_set_94 rfl ⟨Nat.le_refl _, Nat.le_refl _⟩ (f)
    · rw [b01_0, Classical.not_not] at c74
      have f := hQ hw (by rw [← hl, ← hh]; exact c74)
      refine zr_aload_n (pc := 77) S dX12_set_77 rfl ?_
      refine zr_bipush (pc := 78) S dX12_set_78 ⟨by unfold zrI; omega, by decide⟩ ?_
      refine zr_iload_n (pc := 80) S dX12_set_80 rfl ?_
      refine zr_iadd (pc := 81) S dX12_set_81 (by unfold zrI; omega) ?_
      refine zr_iload_n (pc := 82) S dX12_set_82 rfl ?_
      refine zr_invV (pc := 83) S [zI _, zI _] (m_X12_becomes _) kX12_set_109 dX12_set_83 rfl (Nat.le_of_ble_eq_true rfl) rfl (Nat.le_of_ble_eq_true rfl) ⟨Nat.le_of_ble_eq_true rfl, Nat.le_of_ble_eq_true rfl⟩ (us_X12_becomes (by omega) (by omega) ?_)
      dsimp only [zaft, Option.toList, List.cons_append, List.nil_append, Nat.add_zero]
      refine zr_goto (pc := 86) (tgt := 94) S dX12_set_86 (by decide) ?_
      exact zr_iret (pc := 94) S dX12_set_94 rfl ⟨Nat.le_refl _, Nat.le_refl _⟩ (f)
  refine zr_aload_n (pc := 0) S dX12_set_0 rfl ?_
  refine zr_iconst (pc := 1) S dX12_set_1 (by unfold zrI; omega) ?_
  refine zr_putI (pc := 2) S pX12_set_80 dX12_set_2 rfl (Nat.le_of_ble_eq_true rfl) rfl ?_
  refine zr_iload_n (pc := 5) S dX12_set_5 rfl ?_
  refine zr_i2l (pc := 6) S dX12_set_6 ?_
  refine zr_lconst0 (pc := 7) S dX12_set_7 ?_
  refine zr_ldc2 (pc := 8) S (3) dX12_set_8 (List.mem_cons_of_mem _ (zWi_7 _ (List.mem_of_getElem? (i := 24) rfl))) (by unfold zrL; omega) ?_
  refine zr_invS (pc := 11) S [zL _, zL _, zL _] (m_X12_within _) kX12_set_83 dX12_set_11 (Nat.le_of_ble_eq_true rfl) ⟨Nat.le_of_ble_eq_true rfl, Nat.le_of_ble_eq_true rfl⟩ (us_X12_within ?_)
  dsimp only [zaft, Option.toList, List.cons_append, List.nil_append, Nat.add_zero]
  refine zr_if_ne (pc := 14) (tgt := 23) S dX12_set_14 (by decide) (fun c14 => ?_) (fun c14 => ?_)
  · rw [b01_0, Classical.not_not] at c14
    refine zr_iload_n (pc := 23) S dX12_set_23 rfl ?_
    refine zr_iconst (pc := 24) S dX12_set_24 (by unfold zrI; omega) ?_
    refine zr_icmp_ne (pc := 25) (tgt := 33) S dX12_set_25 (by decide) (fun c25 => ?_) (fun c25 => ?_)
    · refine zr_iconst (pc := 33) S dX12_set_33 (by unfold zrI; omega) ?_
      refine zr_istore_n (pc := 34) S 3 dX12_set_34 rfl (by decide) ?_
      dsimp only [zst1, zst2, zset, zget, zlong]
      refine zr_iload_n (pc := 35) S dX12_set_35 rfl ?_
      refine zr_if_eq (pc := 36) (tgt := 44) S dX12_set_36 (by decide) (fun c36 => ?_) (fun c36 => ?_)
      · refine zr_sipush (pc := 44) S dX12_set_44 ⟨by unfold zrI; omega, by decide⟩ ?_
        refine zr_goto (pc := 47) (tgt := 62) S dX12_set_47 (by decide) ?_
        refine zr_istore (pc := 62) S dX12_set_62 (by decide) ?_
        dsimp only [zst1, zst2, zset, zget, zlong]
        exact key _ _ (by unfold setLo; split <;> omega) (by unfold setHi; (repeat' split) <;> omega) c14 (by unfold zrI; omega) (by unfold zrI; omega)
      · refine zr_iload_n (pc := 39) S dX12_set_39 rfl ?_
        refine zr_iconst (pc := 40) S dX12_set_40 (by unfold zrI; omega) ?_
        refine zr_icmp_ne (pc := 41) (tgt := 50) S dX12_set_41 (by decide) (fun c41 => ?_) (fun c41 => ?_)
        · refine zr_iload_n (pc := 50) S dX12_set_50 rfl ?_
          refine zr_iconst (pc := 51) S dX12_set_51 (by unfold zrI; omega) ?_
          refine zr_icmp_ne (pc := 52) (tgt := 60) S dX12_set_52 (by decide) (fun c52 => ?_) (fun c52 => ?_)
          · refine zr_bipush (pc := 60) S dX12_set_60 ⟨by unfold zrI; omega, by decide⟩ ?_
            refine zr_istore (pc := 62) S dX12_set_62 (by decide) ?_
            dsimp only [zst1, zst2, zset, zget, zlong]
            exact key _ _ (by unfold setLo; split <;> omega) (by unfold setHi; (repeat' split) <;> omega) c14 (by unfold zrI; omega) (by unfold zrI; omega)
          · refine zr_bipush (pc := 55) S dX12_set_55 ⟨by unfold zrI; omega, by decide⟩ ?_
            refine zr_goto (pc := 57) (tgt := 62) S dX12_set_57 (by decide) ?_
            refine zr_istore (pc := 62) S dX12_set_62 (by decide) ?_
            dsimp only [zst1, zst2, zset, zget, zlong]
            exact key _ _ (by unfold setLo; split <;> omega) (by unfold setHi; (repeat' split) <;> omega) c14 (by unfold zrI; omega) (by unfold zrI; omega)
        · refine zr_sipush (pc := 44) S dX12_set_44 ⟨by unfold zrI; omega, by decide⟩ ?_
          refine zr_goto (pc := 47) (tgt := 62) S dX12_set_47 (by decide) ?_
          refine zr_istore (pc := 62) S dX12_set_62 (by decide) ?_
          dsimp only [zst1, zst2, zset, zget, zlong]
          exact key _ _ (by unfold setLo; split <;> omega) (by unfold setHi; (repeat' split) <;> omega) c14 (by unfold zrI; omega) (by unfold zrI; omega)
    · refine zr_bipush (pc := 28) S dX12_set_28 ⟨by unfold zrI; omega, by decide⟩ ?_
      refine zr_goto (pc := 30) (tgt := 34) S dX12_set_30 (by decide) ?_
      refine zr_istore_n (pc := 34) S 3 dX12_set_34 rfl (by decide) ?_
      dsimp only [zst1, zst2, zset, zget, zlong]
      refine zr_iload_n (pc := 35) S dX12_set_35 rfl ?_
      refine zr_if_eq (pc := 36) (tgt := 44) S dX12_set_36 (by decide) (fun c36 => ?_) (fun c36 => ?_)
      · refine zr_sipush (pc := 44) S dX12_set_44 ⟨by unfold zrI; omega, by decide⟩ ?_
        refine zr_goto (pc := 47) (tgt := 62) S dX12_set_47 (by decide) ?_
        refine zr_istore (pc := 62) S dX12_set_62 (by decide) ?_
        dsimp only [zst1, zst2, zset, zget, zlong]
        exact key _ _ (by unfold setLo; split <;> omega) (by unfold setHi; (repeat' split) <;> omega) c14 (by unfold zrI; omega) (by unfold zrI; omega)
      · refine zr_iload_n (pc := 39) S dX12_set_39 rfl ?_
        refine zr_iconst (pc := 40) S dX12_set_40 (by unfold zrI; omega) ?_
        refine zr_icmp_ne (pc := 41) (tgt := 50) S dX12_set_41 (by decide) (fun c41 => ?_) (fun c41 => ?_)
        · refine zr_iload_n (pc := 50) S dX12_set_50 rfl ?_
          refine zr_iconst (pc := 51) S dX12_set_51 (by unfold zrI; omega) ?_
          refine zr_icmp_ne (pc := 52) (tgt := 60) S dX12_set_52 (by decide) (fun c52 => ?_) (fun c52 => ?_)
          · refine zr_bipush (pc := 60) S dX12_set_60 ⟨by unfold zrI; omega, by decide⟩ ?_
            refine zr_istore (pc := 62) S dX12_set_62 (by decide) ?_
            dsimp only [zst1, zst2, zset, zget, zlong]
            exact key _ _ (by unfold setLo; split <;> omega) (by unfold setHi; (repeat' split) <;> omega) c14 (by unfold zrI; omega) (by unfold zrI; omega)
          · refine zr_bipush (pc := 55) S dX12_set_55 ⟨by unfold zrI; omega, by decide⟩ ?_
            refine zr_goto (pc := 57) (tgt := 62) S dX12_set_57 (by decide) ?_
            refine zr_istore (pc := 62) S dX12_set_62 (by decide) ?_
            dsimp only [zst1, zst2, zset, zget, zlong]
            exact key _ _ (by unfold setLo; split <;> omega) (by unfold setHi; (repeat' split) <;> omega) c14 (by unfold zrI; omega) (by unfold zrI; omega)
        · refine zr_sipush (pc := 44) S dX12_set_44 ⟨by unfold zrI; omega, by decide⟩ ?_
          refine zr_goto (pc := 47) (tgt := 62) S dX12_set_47 (by decide) ?_
          refine zr_istore (pc := 62) S dX12_set_62 (by decide) ?_
          dsimp only [zst1, zst2, zset, zget, zlong]
          exact key _ _ (by unfold setLo; split <;> omega) (by unfold setHi; (repeat' split) <;> omega) c14 (by unfold zrI; omega) (by unfold zrI; omega)
  · rw [b01_0] at c14
    have f := hT c14
    refine zr_aload_n (pc := 17) S dX12_set_17 rfl ?_
    refine zr_iconst (pc := 18) S dX12_set_18 (by unfold zrI; omega) ?_
    refine zr_invV (pc := 19) S [zI _] (m_X12_fails _) kX12_set_95 dX12_set_19 rfl (Nat.le_of_ble_eq_true rfl) rfl (Nat.le_of_ble_eq_true rfl) ⟨Nat.le_of_ble_eq_true rfl, Nat.le_of_ble_eq_true rfl⟩ (us_X12_fails ?_)
    dsimp only [zaft, Option.toList, List.cons_append, List.nil_append, Nat.add_zero]
    exact zr_iret (pc := 22) S dX12_set_22 rfl ⟨Nat.le_refl _, Nat.le_refl _⟩ (f)
def sp_X12_good (as : List zV) (M : zM) (Q : Option zV → zM → Prop) : Prop := ∃ (s : Int), as = [zR 180, zI s] ∧ (0 ≤ M 181 0 ∧ M 181 0 ≤ 8) ∧ ((0 ≤ s ∧ s < M 181 0) → Q (some (zI (b01 (isGood (vm M) s)))) (tz M 0)) ∧ (¬ (0 ≤ s ∧ s < M 181 0) → Q (some (zI 0)) (tz M 1))
theorem us_X12_good {s : Int} {M : zM} {Q : Option zV → zM → Prop} (h0 : 0 ≤ M 181 0 ∧ M 181 0 ≤ 8) (hQ : (0 ≤ s ∧ s < M 181 0) → Q (some (zI (b01 (isGood (vm M) s)))) (tz M 0)) (hT : ¬ (0 ≤ s ∧ s < M 181 0) → Q (some (zI 0)) (tz M 1)) : sp_X12_good [zR 180, zI s] M Q := ⟨s, rfl, h0, hQ, hT⟩
set_option maxRecDepth 20000 in
set_option maxHeartbeats 4000000 in
theorem m_X12_good (l : Launch) : zC l yX12_good wzX12_good rmX12_good sp_X12_good := by
  refine zMet.of RX12 (by decide +kernel) rfl rfl ?_
  intro E X as M Qp hX S hsp
  obtain ⟨s, rfl, h0, hQ, hT⟩ := hsp
  refine ⟨Nat.le_of_ble_eq_true rfl, ?_⟩
  dsimp only [zpad, zargs]
  have q := @b01_t
  refine zr_aload_n (pc := 0) S dX12_good_0 rfl ?_
  refine zr_aload_n (pc := 1) S dX12_good_1 rfl ?_
  refine zr_iload_n (pc := 2) S dX12_good_2 rfl ?_
  refine zr_invV (pc := 3) S [zI _] (m_X12_isSort _) kX12_good_99 dX12_good_3 rfl (Nat.le_of_ble_eq_true rfl) rfl (Nat.le_of_ble_eq_true rfl) ⟨Nat.le_of_ble_eq_true rfl, Nat.le_of_ble_eq_true rfl⟩ (us_X12_isSort h0.1 ?_)
  dsimp only [zaft, Option.toList, List.cons_append, List.nil_append, Nat.add_zero]
  refine zr_if_eq (pc := 6) (tgt := 13) S dX12_good_6 (by decide) (fun c6 => ?_) (fun c6 => ?_)
  · rw [b01_0] at c6
    have f := hT (fun z => c6 (by omega))
    refine zr_iconst (pc := 13) S dX12_good_13 (by unfold zrI; omega) ?_
    refine zr_putI (pc := 14) S pX12_good_80 dX12_good_14 rfl (Nat.le_of_ble_eq_true rfl) rfl ?_
    refine zr_aload_n (pc := 17) S dX12_good_17 rfl ?_
    refine zr_getI (pc := 18) S fX12_good_80 dX12_good_18 rfl (Nat.le_of_ble_eq_true rfl) rfl ?_
    try simp only [zup_k, zup_e, ne_eq, Nat.reduceEqDiff, not_false_eq_true, zup_j]
    refine zr_if_ne (pc := 21) (tgt := 36) S dX12_good_21 (by decide) (fun c21 => ?_) (fun c21 => ?_)
    · refine zr_iconst (pc := 36) S dX12_good_36 (by unfold zrI; omega) ?_
      exact zr_zret (pc := 37) S dX12_good_37 rfl (by first | omega | exact b01_r) ⟨Nat.le_refl _, Nat.le_refl _⟩ (by first | exact f | exact absurd c21 (by decide) | exact absurd rfl c21)
    · refine zr_aload_n (pc := 24) S dX12_good_24 rfl ?_
      refine zr_iload_n (pc := 25) S dX12_good_25 rfl ?_
      refine zr_invV (pc := 26) S [zI _] (m_X12_isGood _) kX12_good_120 dX12_good_26 rfl (Nat.le_of_ble_eq_true rfl) rfl (Nat.le_of_ble_eq_true rfl) ⟨Nat.le_of_ble_eq_true rfl, Nat.le_of_ble_eq_true rfl⟩ (us_X12_isGood h0.1 h0.2 ?_)
      dsimp only [zaft, Option.toList, List.cons_append, List.nil_append, Nat.add_zero]
      refine zr_if_eq (pc := 29) (tgt := 36) S dX12_good_29 (by decide) (fun c29 => ?_) (fun c29 => ?_)
      · rw [b01_0] at c29
        try rw [b01_f (show ¬ isGood (vm M) s from c29)] at f
        refine zr_iconst (pc := 36) S dX12_good_36 (by unfold zrI; omega) ?_
        exact zr_zret (pc := 37) S dX12_good_37 rfl (by first | omega | exact b01_r) ⟨Nat.le_refl _, Nat.le_refl _⟩ (by first | exact f | exact absurd c21 (by decide) | exact absurd rfl c21)
      · rw [b01_0, Classical.not_not] at c29
        try rw [b01_t (show isGood (vm M) s from c29)] at f
        refine zr_iconst (pc := 32) S dX12_good_32 (by unfold zrI; omega) ?_
        refine zr_goto (pc := 33) (tgt := 37) S dX12_good_33 (by decide) ?_
        exact zr_zret (pc := 37) S dX12_good_37 rfl (by first | omega | exact b01_r) ⟨Nat.le_refl _, Nat.le_refl _⟩ (by first | exact f | exact absurd c21 (by decide) | exact absurd rfl c21)
  · rw [b01_0, Classical.not_not] at c6
    have f := hQ (by omega)
    refine zr_iconst (pc := 9) S dX12_good_9 (by unfold zrI; omega) ?_
    refine zr_goto (pc := 10) (tgt := 14) S dX12_good_10 (by decide) ?_
    refine zr_putI (pc := 14) S pX12_good_80 dX12_good_14 rfl (Nat.le_of_ble_eq_true rfl) rfl ?_
    refine zr_aload_n (pc := 17) S dX12_good_17 rfl ?_
    refine zr_getI (pc := 18) S fX12_good_80 dX12_good_18 rfl (Nat.le_of_ble_eq_true rfl) rfl ?_
    try simp only [zup_k, zup_e, ne_eq, Nat.reduceEqDiff, not_false_eq_true, zup_j]
    refine zr_if_ne (pc := 21) (tgt := 36) S dX12_good_21 (by decide) (fun c21 => ?_) (fun c21 => ?_)
    · refine zr_iconst (pc := 36) S dX12_good_36 (by unfold zrI; omega) ?_
      exact zr_zret (pc := 37) S dX12_good_37 rfl (by first | omega | exact b01_r) ⟨Nat.le_refl _, Nat.le_refl _⟩ (by first | exact f | exact absurd c21 (by decide) | exact absurd rfl c21)
    · refine zr_aload_n (pc := 24) S dX12_good_24 rfl ?_
      refine zr_iload_n (pc := 25) S dX12_good_25 rfl ?_
      refine zr_invV (pc := 26) S [zI _] (m_X12_isGood _) kX12_good_120 dX12_good_26 rfl (Nat.le_of_ble_eq_true rfl) rfl (Nat.le_of_ble_eq_true rfl) ⟨Nat.le_of_ble_eq_true rfl, Nat.le_of_ble_eq_true rfl⟩ (us_X12_isGood h0.1 h0.2 ?_)
      dsimp only [zaft, Option.toList, List.cons_append, List.nil_append, Nat.add_zero]
      refine zr_if_eq (pc := 29) (tgt := 36) S dX12_good_29 (by decide) (fun c29 => ?_) (fun c29 => ?_)
      · rw [b01_0] at c29
        try rw [b01_f (show ¬ isGood (vm M) s from c29)] at f
        refine zr_iconst (pc := 36) S dX12_good_36 (by unfold zrI; omega) ?_
        exact zr_zret (pc := 37) S dX12_good_37 rfl (by first | omega | exact b01_r) ⟨Nat.le_refl _, Nat.le_refl _⟩ (by first | exact f | exact absurd c21 (by decide) | exact absurd rfl c21)
      · rw [b01_0, Classical.not_not] at c29
        try rw [b01_t (show isGood (vm M) s from c29)] at f
        refine zr_iconst (pc := 32) S dX12_good_32 (by unfold zrI; omega) ?_
        refine zr_goto (pc := 33) (tgt := 37) S dX12_good_33 (by decide) ?_
        exact zr_zret (pc := 37) S dX12_good_37 rfl (by first | omega | exact b01_r) ⟨Nat.le_refl _, Nat.le_refl _⟩ (by first | exact f | exact absurd c21 (by decide) | exact absurd rfl c21)
def sp_X12_isGate (as : List zV) (M : zM) (Q : Option zV → zM → Prop) : Prop := ∃ (k : Int), as = [zR 180, zI k] ∧ (0 ≤ M 181 1) ∧ (Q (some (zI (b01 (0 ≤ k ∧ k ≤ M 181 1 - 1)))) M)
theorem us_X12_isGate {k : Int} {M : zM} {Q : Option zV → zM → Prop} (h2 : 0 ≤ M 181 1) (hQ : Q (some (zI (b01 (0 ≤ k ∧ k ≤ M 181 1 - 1)))) M) : sp_X12_isGate [zR 180, zI k] M Q := ⟨k, rfl, h2, hQ⟩
set_option maxRecDepth 20000 in
set_option maxHeartbeats 4000000 in
theorem m_X12_isGate (l : Launch) : zC l yX12_isGate wzX12_isGate rmX12_isGate sp_X12_isGate := by
  refine zMet.of RX12 (by decide +kernel) rfl rfl ?_
  intro E X as M Qp hX S hsp
  obtain ⟨k, rfl, h2, hQ⟩ := hsp
  refine ⟨Nat.le_of_ble_eq_true rfl, ?_⟩
  dsimp only [zpad, zargs]
  refine zr_aload_n (pc := 0) S dX12_isGate_0 rfl ?_
  refine zr_iconst (pc := 1) S dX12_isGate_1 (by unfold zrI; omega) ?_
  refine zr_iload_n (pc := 2) S dX12_isGate_2 rfl ?_
  refine zr_invV (pc := 3) S [zI _, zI _] (m_X12_is _) kX12_isGate_87 dX12_isGate_3 rfl (Nat.le_of_ble_eq_true rfl) rfl (Nat.le_of_ble_eq_true rfl) ⟨Nat.le_of_ble_eq_true rfl, Nat.le_of_ble_eq_true rfl⟩ (us_X12_is (by decide) (by decide) h2 ?_)
  dsimp only [zaft, Option.toList, List.cons_append, List.nil_append, Nat.add_zero]
  exact zr_zret (pc := 6) S dX12_isGate_6 rfl (by first | omega | exact b01_r) ⟨Nat.le_refl _, Nat.le_refl _⟩ (hQ)
def sp_X12_isOffer (as : List zV) (M : zM) (Q : Option zV → zM → Prop) : Prop := ∃ (k : Int), as = [zR 180, zI k] ∧ (0 ≤ M 181 2) ∧ (Q (some (zI (b01 (0 ≤ k ∧ k ≤ M 181 2 - 1)))) M)
theorem us_X12_isOffer {k : Int} {M : zM} {Q : Option zV → zM → Prop} (h2 : 0 ≤ M 181 2) (hQ : Q (some (zI (b01 (0 ≤ k ∧ k ≤ M 181 2 - 1)))) M) : sp_X12_isOffer [zR 180, zI k] M Q := ⟨k, rfl, h2, hQ⟩
set_option maxRecDepth 20000 in
set_option maxHeartbeats 4000000 in
theorem m_X12_isOffer (l : Launch) : zC l yX12_isOffer wzX12_isOffer rmX12_isOffer sp_X12_isOffer := by
  refine zMet.of RX12 (by decide +kernel) rfl rfl ?_
  intro E X as M Qp hX S hsp
  obtain ⟨k, rfl, h2, hQ⟩ := hsp
  refine ⟨Nat.le_of_ble_eq_true rfl, ?_⟩
  dsimp only [zpad, zargs]
  refine zr_aload_n (pc := 0) S dX12_isOffer_0 rfl ?_
  refine zr_iconst (pc := 1) S dX12_isOffer_1 (by unfold zrI; omega) ?_
  refine zr_iload_n (pc := 2) S dX12_isOffer_2 rfl ?_
  refine zr_invV (pc := 3) S [zI _, zI _] (m_X12_is _) kX12_isOffer_87 dX12_isOffer_3 rfl (Nat.le_of_ble_eq_true rfl) rfl (Nat.le_of_ble_eq_true rfl) ⟨Nat.le_of_ble_eq_true rfl, Nat.le_of_ble_eq_true rfl⟩ (us_X12_is (by decide) (by decide) h2 ?_)
  dsimp only [zaft, Option.toList, List.cons_append, List.nil_append, Nat.add_zero]
  exact zr_zret (pc := 6) S dX12_isOffer_6 rfl (by first | omega | exact b01_r) ⟨Nat.le_refl _, Nat.le_refl _⟩ (hQ)
def sp_X12_gate (as : List zV) (M : zM) (Q : Option zV → zM → Prop) : Prop := ∃ (g w : Int), as = [zR 180, zI g, zI w] ∧ (0 ≤ M 181 1 ∧ M 181 1 ≤ 8) ∧ ((0 ≤ g ∧ g < M 181 1) → (0 ≤ w ∧ w ≤ 2) → Q (some (zI (M 181 (103 + 7 * g + w).toNat))) (tz M 0)) ∧ (¬ (0 ≤ g ∧ g < M 181 1) → Q (some (zI 0)) (tz (tz M 0) 1)) ∧ ((0 ≤ g ∧ g < M 181 1) → ¬ (0 ≤ w ∧ w ≤ 2) → Q (some (zI 0)) (tz (tz M 0) 2))
theorem us_X12_gate {g w : Int} {M : zM} {Q : Option zV → zM → Prop} (h0 : 0 ≤ M 181 1 ∧ M 181 1 ≤ 8) (hQ : (0 ≤ g ∧ g < M 181 1) → (0 ≤ w ∧ w ≤ 2) → Q (some (zI (M 181 (103 + 7 * g + w).toNat))) (tz M 0)) (hT : ¬ (0 ≤ g ∧ g < M 181 1) → Q (some (zI 0)) (tz (tz M 0) 1)) (hU : (0 ≤ g ∧ g < M 181 1) → ¬ (0 ≤ w ∧ w ≤ 2) → Q (some (zI 0)) (tz (tz M 0) 2)) : sp_X12_gate [zR 180, zI g, zI w] M Q := ⟨g, w, rfl, h0, hQ, hT, hU⟩
set_option maxRecDepth 20000 in
set_option maxHeartbeats 4000000 in
theorem m_X12_gate (l : Launch) : zC l yX12_gate wzX12_gate rmX12_gate sp_X12_gate := by
  refine zMet.of RX12 (by decide +kernel) rfl rfl ?_
  intro E X as M Qp hX S hsp
  obtain ⟨g, w, rfl, h0, hQ, hT, hU⟩ := hsp
  refine ⟨Nat.le_of_ble_eq_true rfl, ?_⟩
  dsimp only [zpad, zargs]
  refine zr_aload_n (pc := 0) S dX12_gate_0 rfl ?_
  refine zr_iconst (pc := 1) S dX12_gate_1 (by unfold zrI; omega) ?_
  refine zr_putI (pc := 2) S pX12_gate_80 dX12_gate_2 rfl (Nat.le_of_ble_eq_true rfl) rfl ?_
  refine zr_aload_n (pc := 5) S dX12_gate_5 rfl ?_
  refine zr_iload_n (pc := 6) S dX12_gate_6 rfl ?_
  refine zr_invV (pc := 7) S [zI _] (m_X12_isGate _) kX12_gate_225 dX12_gate_7 rfl (Nat.le_of_ble_eq_true rfl) rfl (Nat.le_of_ble_eq_true rfl) ⟨Nat.le_of_ble_eq_true rfl, Nat.le_of_ble_eq_true rfl⟩ (us_X12_isGate h0.1 ?_)
  dsimp only [zaft, Option.toList, List.cons_append, List.nil_append, Nat.add_zero]
  refine zr_if_ne (pc := 10) (tgt := 19) S dX12_gate_10 (by decide) (fun c10 => ?_) (fun c10 => ?_)
  · rw [b01_0, Classical.not_not] at c10
    have c10' : 0 ≤ g ∧ g ≤ M 181 1 - 1 := c10
    refine zr_iload_n (pc := 19) S dX12_gate_19 rfl ?_
    refine zr_i2l (pc := 20) S dX12_gate_20 ?_
    refine zr_lconst0 (pc := 21) S dX12_gate_21 ?_
    refine zr_ldc2 (pc := 22) S (2) dX12_gate_22 (List.mem_cons_of_mem _ (zWi_7 _ (List.mem_of_getElem? (i := 20) rfl))) (by unfold zrL; omega) ?_
    refine zr_invS (pc := 25) S [zL _, zL _, zL _] (m_X12_within _) kX12_gate_83 dX12_gate_25 (Nat.le_of_ble_eq_true rfl) ⟨Nat.le_of_ble_eq_true rfl, Nat.le_of_ble_eq_true rfl⟩ (us_X12_within ?_)
    dsimp only [zaft, Option.toList, List.cons_append, List.nil_append, Nat.add_zero]
    refine zr_if_eq (pc := 28) (tgt := 48) S dX12_gate_28 (by decide) (fun c28 => ?_) (fun c28 => ?_)
    · rw [b01_0] at c28
      have f := hU (by omega) c28
      refine zr_aload_n (pc := 48) S dX12_gate_48 rfl ?_
      refine zr_iconst (pc := 49) S dX12_gate_49 (by unfold zrI; omega) ?_
      refine zr_invV (pc := 50) S [zI _] (m_X12_fails _) kX12_gate_95 dX12_gate_50 rfl (Nat.le_of_ble_eq_true rfl) rfl (Nat.le_of_ble_eq_true rfl) ⟨Nat.le_of_ble_eq_true rfl, Nat.le_of_ble_eq_true rfl⟩ (us_X12_fails ?_)
      dsimp only [zaft, Option.toList, List.cons_append, List.nil_append, Nat.add_zero]
      exact zr_iret (pc := 53) S dX12_gate_53 rfl ⟨Nat.le_refl _, Nat.le_refl _⟩ (f)
    · rw [b01_0, Classical.not_not] at c28
      have f := hQ (by omega) c28
      refine zr_aload_n (pc := 31) S dX12_gate_31 rfl ?_
      refine zr_getR (pc := 32) S fX12_gate_9 dX12_gate_32 rfl (Nat.le_of_ble_eq_true rfl) rfl ?_
      try simp only [zup_k, zup_e, ne_eq, Nat.reduceEqDiff, not_false_eq_true, zup_j]
      refine zr_bipush (pc := 35) S dX12_gate_35 ⟨by unfold zrI; omega, by decide⟩ ?_
      refine zr_bipush (pc := 37) S dX12_gate_37 ⟨by unfold zrI; omega, by decide⟩ ?_
      refine zr_iload_n (pc := 39) S dX12_gate_39 rfl ?_
      refine zr_imul (pc := 40) S dX12_gate_40 (by unfold zrI; omega) ?_
      refine zr_iadd (pc := 41) S dX12_gate_41 (by unfold zrI; omega) ?_
      refine zr_iload_n (pc := 42) S dX12_gate_42 rfl ?_
      refine zr_iadd (pc := 43) S dX12_gate_43 (by unfold zrI; omega) ?_
      refine zr_iaload (pc := 44) S dX12_gate_44 rfl (Nat.le_of_ble_eq_true rfl) (by omega) (by omega) ?_
      try simp only [zup_k, zup_e, ne_eq, Nat.reduceEqDiff, not_false_eq_true]
      refine zr_goto (pc := 45) (tgt := 53) S dX12_gate_45 (by decide) ?_
      exact zr_iret (pc := 53) S dX12_gate_53 rfl ⟨Nat.le_refl _, Nat.le_refl _⟩ (f)
  · rw [b01_0] at c10
    have f := hT (fun z => c10 (by show _ ∧ _ ≤ M 181 1 - 1; omega))
    refine zr_aload_n (pc := 13) S dX12_gate_13 rfl ?_
    refine zr_iconst (pc := 14) S dX12_gate_14 (by unfold zrI; omega) ?_
    refine zr_invV (pc := 15) S [zI _] (m_X12_fails _) kX12_gate_95 dX12_gate_15 rfl (Nat.le_of_ble_eq_true rfl) rfl (Nat.le_of_ble_eq_true rfl) ⟨Nat.le_of_ble_eq_true rfl, Nat.le_of_ble_eq_true rfl⟩ (us_X12_fails ?_)
    dsimp only [zaft, Option.toList, List.cons_append, List.nil_append, Nat.add_zero]
    exact zr_iret (pc := 18) S dX12_gate_18 rfl ⟨Nat.le_refl _, Nat.le_refl _⟩ (f)
def sp_X12_offer (as : List zV) (M : zM) (Q : Option zV → zM → Prop) : Prop := ∃ (p : Int), as = [zR 180, zI p] ∧ (0 ≤ M 181 2 ∧ M 181 2 ≤ 6) ∧ ((1 ≤ p ∧ p ≤ 500) → ¬ M 181 2 = 6 → Q (some (zI (M 181 2))) (zup (zup (tz M 0) 181 (351 + M 181 2).toNat p) 181 2 (M 181 2 + 1))) ∧ ((1 ≤ p ∧ p ≤ 500) → M 181 2 = 6 → Q (some (zI (-1))) (tz M 0)) ∧ (¬ (1 ≤ p ∧ p ≤ 500) → Q (some (zI 0)) (tz (tz M 0) 1))
theorem us_X12_offer {p : Int} {M : zM} {Q : Option zV → zM → Prop} (h0 : 0 ≤ M 181 2 ∧ M 181 2 ≤ 6) (hQ : (1 ≤ p ∧ p ≤ 500) → ¬ M 181 2 = 6 → Q (some (zI (M 181 2))) (zup (zup (tz M 0) 181 (351 + M 181 2).toNat p) 181 2 (M 181 2 + 1))) (hF : (1 ≤ p ∧ p ≤ 500) → M 181 2 = 6 → Q (some (zI (-1))) (tz M 0)) (hT : ¬ (1 ≤ p ∧ p ≤ 500) → Q (some (zI 0)) (tz (tz M 0) 1)) : sp_X12_offer [zR 180, zI p] M Q := ⟨p, rfl, h0, hQ, hF, hT⟩
set_option maxRecDepth 20000 in
set_option maxHeartbeats 4000000 in
theorem m_X12_offer (l : Launch) : zC l yX12_offer wzX12_offer rmX12_offer sp_X12_offer := by
  refine zMet.of RX12 (by decide +kernel) rfl rfl ?_
  intro E X as M Qp hX S hsp
  obtain ⟨p, rfl, h0, hQ, hF, hT⟩ := hsp
  refine ⟨Nat.le_of_ble_eq_true rfl, ?_⟩
  dsimp only [zpad, zargs]
  have e : ∀ (N : zM) (x : Int), zup N 181 (351 + M 181 2).toNat x 181 2 = N 181 2 := fun N x => by unfold zup; rw [if_pos rfl, if_neg (by omega)]
  refine zr_aload_n (pc := 0) S dX12_offer_0 rfl ?_
  refine zr_iconst (pc := 1) S dX12_offer_1 (by unfold zrI; omega) ?_
  refine zr_putI (pc := 2) S pX12_offer_80 dX12_offer_2 rfl (Nat.le_of_ble_eq_true rfl) rfl ?_
  refine zr_iload_n (pc := 5) S dX12_offer_5 rfl ?_
  refine zr_i2l (pc := 6) S dX12_offer_6 ?_
  refine zr_lconst1 (pc := 7) S dX12_offer_7 ?_
  refine zr_ldc2 (pc := 8) S (500) dX12_offer_8 (List.mem_cons_of_mem _ (zWi_7 _ (List.mem_of_getElem? (i := 27) rfl))) (by unfold zrL; omega) ?_
  refine zr_invS (pc := 11) S [zL _, zL _, zL _] (m_X12_within _) kX12_offer_83 dX12_offer_11 (Nat.le_of_ble_eq_true rfl) ⟨Nat.le_of_ble_eq_true rfl, Nat.le_of_ble_eq_true rfl⟩ (us_X12_within ?_)
  dsimp only [zaft, Option.toList, List.cons_append, List.nil_append, Nat.add_zero]
  refine zr_if_ne (pc := 14) (tgt := 23) S dX12_offer_14 (by decide) (fun c14 => ?_) (fun c14 => ?_)
  · rw [b01_0, Classical.not_not] at c14
    refine zr_aload_n (pc := 23) S dX12_offer_23 rfl ?_
    refine zr_getR (pc := 24) S fX12_offer_9 dX12_offer_24 rfl (Nat.le_of_ble_eq_true rfl) rfl ?_
    try simp only [zup_k, zup_e, ne_eq, Nat.reduceEqDiff, not_false_eq_true, zup_j]
    refine zr_iconst (pc := 27) S dX12_offer_27 (by unfold zrI; omega) ?_
    refine zr_iaload (pc := 28) S dX12_offer_28 rfl (Nat.le_of_ble_eq_true rfl) (by omega) (by omega) ?_
    dsimp only [Int.reduceToNat]
    try simp only [zup_k, zup_e, ne_eq, Nat.reduceEqDiff, not_false_eq_true]
    refine zr_bipush (pc := 29) S dX12_offer_29 ⟨by unfold zrI; omega, by decide⟩ ?_
    refine zr_icmp_ne (pc := 31) (tgt := 36) S dX12_offer_31 (by decide) (fun c31 => ?_) (fun c31 => ?_)
    · have f := hQ c14 c31
      refine zr_aload_n (pc := 36) S dX12_offer_36 rfl ?_
      refine zr_getR (pc := 37) S fX12_offer_9 dX12_offer_37 rfl (Nat.le_of_ble_eq_true rfl) rfl ?_
      try simp only [zup_k, zup_e, ne_eq, Nat.reduceEqDiff, not_false_eq_true, zup_j]
      refine zr_sipush (pc := 40) S dX12_offer_40 ⟨by unfold zrI; omega, by decide⟩ ?_
      refine zr_aload_n (pc := 43) S dX12_offer_43 rfl ?_
      refine zr_getR (pc := 44) S fX12_offer_9 dX12_offer_44 rfl (Nat.le_of_ble_eq_true rfl) rfl ?_
      try simp only [zup_k, zup_e, ne_eq, Nat.reduceEqDiff, not_false_eq_true, zup_j]
      refine zr_iconst (pc := 47) S dX12_offer_47 (by unfold zrI; omega) ?_
      refine zr_iaload (pc := 48) S dX12_offer_48 rfl (Nat.le_of_ble_eq_true rfl) (by omega) (by omega) ?_
      dsimp only [Int.reduceToNat]
      try simp only [zup_k, zup_e, ne_eq, Nat.reduceEqDiff, not_false_eq_true]
      refine zr_iadd (pc := 49) S dX12_offer_49 (by unfold zrI; omega) ?_
      refine zr_iload_n (pc := 50) S dX12_offer_50 rfl ?_
      refine zr_iastore (pc := 51) S dX12_offer_51 rfl (Nat.le_of_ble_eq_true rfl) (by omega) (by omega) ?_
      refine zr_aload_n (pc := 52) S dX12_offer_52 rfl ?_
      refine zr_getR (pc := 53) S fX12_offer_9 dX12_offer_53 rfl (Nat.le_of_ble_eq_true rfl) rfl ?_
      try simp only [zup_k, zup_e, ne_eq, Nat.reduceEqDiff, not_false_eq_true, zup_j]
      refine zr_iconst (pc := 56) S dX12_offer_56 (by unfold zrI; omega) ?_
      refine zr_dup2 (pc := 57) S dX12_offer_57 rfl rfl ?_
      refine zr_iaload (pc := 58) S dX12_offer_58 rfl (Nat.le_of_ble_eq_true rfl) (by omega) (by omega) ?_
      dsimp only [Int.reduceToNat]
      try simp only [zup_k, zup_e, ne_eq, Nat.reduceEqDiff, not_false_eq_true]
      rw [e]
      try simp only [zup_k, zup_e, ne_eq, Nat.reduceEqDiff, not_false_eq_true]
      refine zr_iconst (pc := 59) S dX12_offer_59 (by unfold zrI; omega) ?_
      refine zr_iadd (pc := 60) S dX12_offer_60 (by unfold zrI; omega) ?_
      refine zr_iastore (pc := 61) S dX12_offer_61 rfl (Nat.le_of_ble_eq_true rfl) (by omega) (by omega) ?_
      refine zr_aload_n (pc := 62) S dX12_offer_62 rfl ?_
      refine zr_getR (pc := 63) S fX12_offer_9 dX12_offer_63 rfl (Nat.le_of_ble_eq_true rfl) rfl ?_
      try simp only [zup_k, zup_e, ne_eq, Nat.reduceEqDiff, not_false_eq_true, zup_j]
      refine zr_iconst (pc := 66) S dX12_offer_66 (by unfold zrI; omega) ?_
      refine zr_iaload (pc := 67) S dX12_offer_67 rfl (Nat.le_of_ble_eq_true rfl) (by omega) (by omega) ?_
      dsimp only [Int.reduceToNat]
      try simp only [zup_k, zup_e, ne_eq, Nat.reduceEqDiff, not_false_eq_true]
      try simp only [zup_k, zup_e, zup_j]
      refine zr_iconst (pc := 68) S dX12_offer_68 (by unfold zrI; omega) ?_
      refine zr_isub (pc := 69) S dX12_offer_69 (by unfold zrI; omega) ?_
      exact zr_iret (pc := 70) S dX12_offer_70 rfl ⟨Nat.le_refl _, Nat.le_refl _⟩ (by first | exact f | exact zqi f (by omega))
    · have f := hF c14 c31
      refine zr_iconst (pc := 34) S dX12_offer_34 (by unfold zrI; omega) ?_
      exact zr_iret (pc := 35) S dX12_offer_35 rfl ⟨Nat.le_refl _, Nat.le_refl _⟩ (by first | exact f | exact zqi f (by omega))
  · rw [b01_0] at c14
    have f := hT c14
    refine zr_aload_n (pc := 17) S dX12_offer_17 rfl ?_
    refine zr_iconst (pc := 18) S dX12_offer_18 (by unfold zrI; omega) ?_
    refine zr_invV (pc := 19) S [zI _] (m_X12_fails _) kX12_offer_95 dX12_offer_19 rfl (Nat.le_of_ble_eq_true rfl) rfl (Nat.le_of_ble_eq_true rfl) ⟨Nat.le_of_ble_eq_true rfl, Nat.le_of_ble_eq_true rfl⟩ (us_X12_fails ?_)
    dsimp only [zaft, Option.toList, List.cons_append, List.nil_append, Nat.add_zero]
    exact zr_iret (pc := 22) S dX12_offer_22 rfl ⟨Nat.le_refl _, Nat.le_refl _⟩ (by first | exact f | exact zqi f (by omega))
def sp_X12_price (as : List zV) (M : zM) (Q : Option zV → zM → Prop) : Prop := ∃ (g p : Int), as = [zR 180, zI g, zI p] ∧ (0 ≤ M 181 2 ∧ M 181 2 ≤ 6) ∧ ((0 ≤ g ∧ g < M 181 2) → (1 ≤ p ∧ p ≤ 500) → Q (some (zI (M 181 (351 + g).toNat))) (zup (tz M 0) 181 (351 + g).toNat p)) ∧ (¬ (0 ≤ g ∧ g < M 181 2) → Q (some (zI 0)) (tz (tz M 0) 1)) ∧ ((0 ≤ g ∧ g < M 181 2) → ¬ (1 ≤ p ∧ p ≤ 500) → Q (some (zI 0)) (tz (tz M 0) 2))
theorem us_X12_price {g p : Int} {M : zM} {Q : Option zV → zM → Prop} (h0 : 0 ≤ M 181 2 ∧ M 181 2 ≤ 6) (hQ : (0 ≤ g ∧ g < M 181 2) → (1 ≤ p ∧ p ≤ 500) → Q (some (zI (M 181 (351 + g).toNat))) (zup (tz M 0) 181 (351 + g).toNat p)) (hT : ¬ (0 ≤ g ∧ g < M 181 2) → Q (some (zI 0)) (tz (tz M 0) 1)) (hU : (0 ≤ g ∧ g < M 181 2) → ¬ (1 ≤ p ∧ p ≤ 500) → Q (some (zI 0)) (tz (tz M 0) 2)) : sp_X12_price [zR 180, zI g, zI p] M Q := ⟨g, p, rfl, h0, hQ, hT, hU⟩
set_option maxRecDepth 20000 in
set_option maxHeartbeats 4000000 in
theorem m_X12_price (l : Launch) : zC l yX12_price wzX12_price rmX12_price sp_X12_price := by
  refine zMet.of RX12 (by decide +kernel) rfl rfl ?_
  intro E X as M Qp hX S hsp
  obtain ⟨g, p, rfl, h0, hQ, hT, hU⟩ := hsp
  refine ⟨Nat.le_of_ble_eq_true rfl, ?_⟩
  dsimp only [zpad, zargs]
  refine zr_aload_n (pc := 0) S dX12_price_0 rfl ?_
  refine zr_iconst (pc := 1) S dX12_price_1 (by unfold zrI; omega) ?_
  refine zr_putI (pc := 2) S pX12_price_80 dX12_price_2 rfl (Nat.le_of_ble_eq_true rfl) rfl ?_
  refine zr_aload_n (pc := 5) S dX12_price_5 rfl ?_
  refine zr_iload_n (pc := 6) S dX12_price_6 rfl ?_
  refine zr_invV (pc := 7) S [zI _] (m_X12_isOffer _) kX12_price_290 dX12_price_7 rfl (Nat.le_of_ble_eq_true rfl) rfl (Nat.le_of_ble_eq_true rfl) ⟨Nat.le_of_ble_eq_true rfl, Nat.le_of_ble_eq_true rfl⟩ (us_X12_isOffer h0.1 ?_)
  dsimp only [zaft, Option.toList, List.cons_append, List.nil_append, Nat.add_zero]
  refine zr_if_ne (pc := 10) (tgt := 19) S dX12_price_10 (by decide) (fun c10 => ?_) (fun c10 => ?_)
  · rw [b01_0, Classical.not_not] at c10
    have c10' : 0 ≤ g ∧ g ≤ M 181 2 - 1 := c10
    refine zr_iload_n (pc := 19) S dX12_price_19 rfl ?_
    refine zr_i2l (pc := 20) S dX12_price_20 ?_
    refine zr_lconst1 (pc := 21) S dX12_price_21 ?_
    refine zr_ldc2 (pc := 22) S (500) dX12_price_22 (List.mem_cons_of_mem _ (zWi_7 _ (List.mem_of_getElem? (i := 27) rfl))) (by unfold zrL; omega) ?_
    refine zr_invS (pc := 25) S [zL _, zL _, zL _] (m_X12_within _) kX12_price_83 dX12_price_25 (Nat.le_of_ble_eq_true rfl) ⟨Nat.le_of_ble_eq_true rfl, Nat.le_of_ble_eq_true rfl⟩ (us_X12_within ?_)
    dsimp only [zaft, Option.toList, List.cons_append, List.nil_append, Nat.add_zero]
    refine zr_if_eq (pc := 28) (tgt := 44) S dX12_price_28 (by decide) (fun c28 => ?_) (fun c28 => ?_)
    · rw [b01_0] at c28
      have f := hU (by omega) c28
      refine zr_aload_n (pc := 44) S dX12_price_44 rfl ?_
      refine zr_iconst (pc := 45) S dX12_price_45 (by unfold zrI; omega) ?_
      refine zr_invV (pc := 46) S [zI _] (m_X12_fails _) kX12_price_95 dX12_price_46 rfl (Nat.le_of_ble_eq_true rfl) rfl (Nat.le_of_ble_eq_true rfl) ⟨Nat.le_of_ble_eq_true rfl, Nat.le_of_ble_eq_true rfl⟩ (us_X12_fails ?_)
      dsimp only [zaft, Option.toList, List.cons_append, List.nil_append, Nat.add_zero]
      exact zr_iret (pc := 49) S dX12_price_49 rfl ⟨Nat.le_refl _, Nat.le_refl _⟩ (f)
    · rw [b01_0, Classical.not_not] at c28
      have f := hQ (by omega) c28
      refine zr_aload_n (pc := 31) S dX12_price_31 rfl ?_
      refine zr_sipush (pc := 32) S dX12_price_32 ⟨by unfold zrI; omega, by decide⟩ ?_
      refine zr_iload_n (pc := 35) S dX12_price_35 rfl ?_
      refine zr_iadd (pc := 36) S dX12_price_36 (by unfold zrI; omega) ?_
      refine zr_iload_n (pc := 37) S dX12_price_37 rfl ?_
      refine zr_invV (pc := 38) S [zI _, zI _] (m_X12_becomes _) kX12_price_109 dX12_price_38 rfl (Nat.le_of_ble_eq_true rfl) rfl (Nat.le_of_ble_eq_true rfl) ⟨Nat.le_of_ble_eq_true rfl, Nat.le_of_ble_eq_true rfl⟩ (us_X12_becomes (by omega) (by omega) ?_)
      dsimp only [zaft, Option.toList, List.cons_append, List.nil_append, Nat.add_zero]
      refine zr_goto (pc := 41) (tgt := 49) S dX12_price_41 (by decide) ?_
      exact zr_iret (pc := 49) S dX12_price_49 rfl ⟨Nat.le_refl _, Nat.le_refl _⟩ (f)
  · rw [b01_0] at c10
    have f := hT (fun z => c10 (by show _ ∧ _ ≤ M 181 2 - 1; omega))
    refine zr_aload_n (pc := 13) S dX12_price_13 rfl ?_
    refine zr_iconst (pc := 14) S dX12_price_14 (by unfold zrI; omega) ?_
    refine zr_invV (pc := 15) S [zI _] (m_X12_fails _) kX12_price_95 dX12_price_15 rfl (Nat.le_of_ble_eq_true rfl) rfl (Nat.le_of_ble_eq_true rfl) ⟨Nat.le_of_ble_eq_true rfl, Nat.le_of_ble_eq_true rfl⟩ (us_X12_fails ?_)
    dsimp only [zaft, Option.toList, List.cons_append, List.nil_append, Nat.add_zero]
    exact zr_iret (pc := 18) S dX12_price_18 rfl ⟨Nat.le_refl _, Nat.le_refl _⟩ (f)
def sp_X12_tubeAt (as : List zV) (M : zM) (Q : Option zV → zM → Prop) : Prop := ∃ (t : Int), as = [zR 180, zI t] ∧ (0 ≤ t) ∧ (t < 8) ∧ (Q (some (zI (159 + 21 * t))) M)
theorem us_X12_tubeAt {t : Int} {M : zM} {Q : Option zV → zM → Prop} (h0 : 0 ≤ t) (h1 : t < 8) (hQ : Q (some (zI (159 + 21 * t))) M) : sp_X12_tubeAt [zR 180, zI t] M Q := ⟨t, rfl, h0, h1, hQ⟩
set_option maxRecDepth 20000 in
set_option maxHeartbeats 4000000 in
theorem m_X12_tubeAt (l : Launch) : zC l yX12_tubeAt wzX12_tubeAt rmX12_tubeAt sp_X12_tubeAt := by
  refine zMet.of RX12 (by decide +kernel) rfl rfl ?_
  intro E X as M Qp hX S hsp
  obtain ⟨t, rfl, h0, h1, hQ⟩ := hsp
  refine ⟨Nat.le_of_ble_eq_true rfl, ?_⟩
  dsimp only [zpad, zargs]
  refine zr_sipush (pc := 0) S dX12_tubeAt_0 ⟨by unfold zrI; omega, by decide⟩ ?_
  refine zr_bipush (pc := 3) S dX12_tubeAt_3 ⟨by unfold zrI; omega, by decide⟩ ?_
  refine zr_iload_n (pc := 5) S dX12_tubeAt_5 rfl ?_
  refine zr_imul (pc := 6) S dX12_tubeAt_6 (by unfold zrI; omega) ?_
  refine zr_iadd (pc := 7) S dX12_tubeAt_7 (by unfold zrI; omega) ?_
  exact zr_iret (pc := 8) S dX12_tubeAt_8 rfl ⟨Nat.le_refl _, Nat.le_refl _⟩ (hQ)
def sp_X12_bag (as : List zV) (M : zM) (Q : Option zV → zM → Prop) : Prop := ∃ (s : Int), as = [zR 180, zI s] ∧ (0 ≤ M 181 0 ∧ M 181 0 ≤ 8) ∧ ((0 ≤ s ∧ s < M 181 0) → Q (some (zI (M 181 (327 + s).toNat))) (tz M 0)) ∧ (¬ (0 ≤ s ∧ s < M 181 0) → Q (some (zI 0)) (tz (tz M 0) 1))
theorem us_X12_bag {s : Int} {M : zM} {Q : Option zV → zM → Prop} (h0 : 0 ≤ M 181 0 ∧ M 181 0 ≤ 8) (hQ : (0 ≤ s ∧ s < M 181 0) → Q (some (zI (M 181 (327 + s).toNat))) (tz M 0)) (hT : ¬ (0 ≤ s ∧ s < M 181 0) → Q (some (zI 0)) (tz (tz M 0) 1)) : sp_X12_bag [zR 180, zI s] M Q := ⟨s, rfl, h0, hQ, hT⟩
set_option maxRecDepth 20000 in
set_option maxHeartbeats 4000000 in
theorem m_X12_bag (l : Launch) : zC l yX12_bag wzX12_bag rmX12_bag sp_X12_bag := by
  refine zMet.of RX12 (by decide +kernel) rfl rfl ?_
  intro E X as M Qp hX S hsp
  obtain ⟨s, rfl, h0, hQ, hT⟩ := hsp
  refine ⟨Nat.le_of_ble_eq_true rfl, ?_⟩
  dsimp only [zpad, zargs]
  refine zr_aload_n (pc := 0) S dX12_bag_0 rfl ?_
  refine zr_iconst (pc := 1) S dX12_bag_1 (by unfold zrI; omega) ?_
  refine zr_putI (pc := 2) S pX12_bag_80 dX12_bag_2 rfl (Nat.le_of_ble_eq_true rfl) rfl ?_
  refine zr_aload_n (pc := 5) S dX12_bag_5 rfl ?_
  refine zr_iload_n (pc := 6) S dX12_bag_6 rfl ?_
  refine zr_invV (pc := 7) S [zI _] (m_X12_isSort _) kX12_bag_99 dX12_bag_7 rfl (Nat.le_of_ble_eq_true rfl) rfl (Nat.le_of_ble_eq_true rfl) ⟨Nat.le_of_ble_eq_true rfl, Nat.le_of_ble_eq_true rfl⟩ (us_X12_isSort h0.1 ?_)
  dsimp only [zaft, Option.toList, List.cons_append, List.nil_append, Nat.add_zero]
  refine zr_if_eq (pc := 10) (tgt := 26) S dX12_bag_10 (by decide) (fun c10 => ?_) (fun c10 => ?_)
  · rw [b01_0] at c10
    have f := hT (fun z => c10 (by show _ ∧ _ ≤ M 181 0 - 1; omega))
    refine zr_aload_n (pc := 26) S dX12_bag_26 rfl ?_
    refine zr_iconst (pc := 27) S dX12_bag_27 (by unfold zrI; omega) ?_
    refine zr_invV (pc := 28) S [zI _] (m_X12_fails _) kX12_bag_95 dX12_bag_28 rfl (Nat.le_of_ble_eq_true rfl) rfl (Nat.le_of_ble_eq_true rfl) ⟨Nat.le_of_ble_eq_true rfl, Nat.le_of_ble_eq_true rfl⟩ (us_X12_fails ?_)
    dsimp only [zaft, Option.toList, List.cons_append, List.nil_append, Nat.add_zero]
    exact zr_iret (pc := 31) S dX12_bag_31 rfl ⟨Nat.le_refl _, Nat.le_refl _⟩ (f)
  · rw [b01_0, Classical.not_not] at c10
    have c10' : 0 ≤ s ∧ s ≤ M 181 0 - 1 := c10
    have f := hQ (by omega)
    refine zr_aload_n (pc := 13) S dX12_bag_13 rfl ?_
    refine zr_getR (pc := 14) S fX12_bag_9 dX12_bag_14 rfl (Nat.le_of_ble_eq_true rfl) rfl ?_
    try simp only [zup_k, zup_e, ne_eq, Nat.reduceEqDiff, not_false_eq_true, zup_j]
    refine zr_sipush (pc := 17) S dX12_bag_17 ⟨by unfold zrI; omega, by decide⟩ ?_
    refine zr_iload_n (pc := 20) S dX12_bag_20 rfl ?_
    refine zr_iadd (pc := 21) S dX12_bag_21 (by unfold zrI; omega) ?_
    refine zr_iaload (pc := 22) S dX12_bag_22 rfl (Nat.le_of_ble_eq_true rfl) (by omega) (by omega) ?_
    try simp only [zup_k, zup_e, ne_eq, Nat.reduceEqDiff, not_false_eq_true]
    refine zr_goto (pc := 23) (tgt := 31) S dX12_bag_23 (by decide) ?_
    exact zr_iret (pc := 31) S dX12_bag_31 rfl ⟨Nat.le_refl _, Nat.le_refl _⟩ (f)
def sp_X12_lies (as : List zV) (M : zM) (Q : Option zV → zM → Prop) : Prop := ∃ (k w : Int), as = [zR 180, zI k, zI w] ∧ (0 ≤ k) ∧ (k < 12) ∧ (0 ≤ w) ∧ (w < 4) ∧ (Q (some (zI (M 181 (357 + 4 * k + w).toNat))) M)
theorem us_X12_lies {k w : Int} {M : zM} {Q : Option zV → zM → Prop} (h0 : 0 ≤ k) (h1 : k < 12) (h2 : 0 ≤ w) (h3 : w < 4) (hQ : Q (some (zI (M 181 (357 + 4 * k + w).toNat))) M) : sp_X12_lies [zR 180, zI k, zI w] M Q := ⟨k, w, rfl, h0, h1, h2, h3, hQ⟩
set_option maxRecDepth 20000 in
set_option maxHeartbeats 4000000 in
theorem m_X12_lies (l : Launch) : zC l yX12_lies wzX12_lies rmX12_lies sp_X12_lies := by
  refine zMet.of RX12 (by decide +kernel) rfl rfl ?_
  intro E X as M Qp hX S hsp
  obtain ⟨k, w, rfl, h0, h1, h2, h3, hQ⟩ := hsp
  refine ⟨Nat.le_of_ble_eq_true rfl, ?_⟩
  dsimp only [zpad, zargs]
  refine zr_aload_n (pc := 0) S dX12_lies_0 rfl ?_
  refine zr_getR (pc := 1) S fX12_lies_9 dX12_lies_1 rfl (Nat.le_of_ble_eq_true rfl) rfl ?_
  refine zr_sipush (pc := 4) S dX12_lies_4 ⟨by unfold zrI; omega, by decide⟩ ?_
  refine zr_iconst (pc := 7) S dX12_lies_7 (by unfold zrI; omega) ?_
  refine zr_iload_n (pc := 8) S dX12_lies_8 rfl ?_
  refine zr_imul (pc := 9) S dX12_lies_9 (by unfold zrI; omega) ?_
  refine zr_iadd (pc := 10) S dX12_lies_10 (by unfold zrI; omega) ?_
  refine zr_iload_n (pc := 11) S dX12_lies_11 rfl ?_
  refine zr_iadd (pc := 12) S dX12_lies_12 (by unfold zrI; omega) ?_
  refine zr_iaload (pc := 13) S dX12_lies_13 rfl (Nat.le_of_ble_eq_true rfl) (by omega) (by omega) ?_
  exact zr_iret (pc := 14) S dX12_lies_14 rfl ⟨Nat.le_refl _, Nat.le_refl _⟩ (hQ)
def sp_X12_given (as : List zV) (M : zM) (Q : Option zV → zM → Prop) : Prop := ∃ (i : Int), as = [zR 180, zI i] ∧ (0 ≤ M 181 6 ∧ M 181 6 ≤ 172) ∧ (Q (some (zI (if 0 ≤ i ∧ i < M 181 6 then M 181 (405 + i).toNat else -1))) (tz M 0))
theorem us_X12_given {i : Int} {M : zM} {Q : Option zV → zM → Prop} (h0 : 0 ≤ M 181 6 ∧ M 181 6 ≤ 172) (hQ : Q (some (zI (if 0 ≤ i ∧ i < M 181 6 then M 181 (405 + i).toNat else -1))) (tz M 0)) : sp_X12_given [zR 180, zI i] M Q := ⟨i, rfl, h0, hQ⟩
set_option maxRecDepth 20000 in
set_option maxHeartbeats 4000000 in
theorem m_X12_given (l : Launch) : zC l yX12_given wzX12_given rmX12_given sp_X12_given := by
  refine zMet.of RX12 (by decide +kernel) rfl rfl ?_
  intro E X as M Qp hX S hsp
  obtain ⟨i, rfl, h0, hQ⟩ := hsp
  refine ⟨Nat.le_of_ble_eq_true rfl, ?_⟩
  dsimp only [zpad, zargs]
  refine zr_aload_n (pc := 0) S dX12_given_0 rfl ?_
  refine zr_iconst (pc := 1) S dX12_given_1 (by unfold zrI; omega) ?_
  refine zr_putI (pc := 2) S pX12_given_80 dX12_given_2 rfl (Nat.le_of_ble_eq_true rfl) rfl ?_
  refine zr_aload_n (pc := 5) S dX12_given_5 rfl ?_
  refine zr_bipush (pc := 6) S dX12_given_6 ⟨by unfold zrI; omega, by decide⟩ ?_
  refine zr_iload_n (pc := 8) S dX12_given_8 rfl ?_
  refine zr_invV (pc := 9) S [zI _, zI _] (m_X12_is _) kX12_given_87 dX12_given_9 rfl (Nat.le_of_ble_eq_true rfl) rfl (Nat.le_of_ble_eq_true rfl) ⟨Nat.le_of_ble_eq_true rfl, Nat.le_of_ble_eq_true rfl⟩ (us_X12_is (by decide) (by decide) h0.1 ?_)
  dsimp only [zaft, Option.toList, List.cons_append, List.nil_append, Nat.add_zero]
  refine zr_if_eq (pc := 12) (tgt := 28) S dX12_given_12 (by decide) (fun c12 => ?_) (fun c12 => ?_)
  · rw [b01_0] at c12
    rw [if_neg (fun z => c12 (by show _ ∧ _ ≤ M 181 6 - 1; omega))] at hQ
    refine zr_iconst (pc := 28) S dX12_given_28 (by unfold zrI; omega) ?_
    exact zr_iret (pc := 29) S dX12_given_29 rfl ⟨Nat.le_refl _, Nat.le_refl _⟩ (hQ)
  · rw [b01_0, Classical.not_not] at c12
    have c12' : 0 ≤ i ∧ i ≤ M 181 6 - 1 := c12
    rw [if_pos (by omega)] at hQ
    refine zr_aload_n (pc := 15) S dX12_given_15 rfl ?_
    refine zr_getR (pc := 16) S fX12_given_9 dX12_given_16 rfl (Nat.le_of_ble_eq_true rfl) rfl ?_
    try simp only [zup_k, zup_e, ne_eq, Nat.reduceEqDiff, not_false_eq_true, zup_j]
    refine zr_sipush (pc := 19) S dX12_given_19 ⟨by unfold zrI; omega, by decide⟩ ?_
    refine zr_iload_n (pc := 22) S dX12_given_22 rfl ?_
    refine zr_iadd (pc := 23) S dX12_given_23 (by unfold zrI; omega) ?_
    refine zr_iaload (pc := 24) S dX12_given_24 rfl (Nat.le_of_ble_eq_true rfl) (by omega) (by omega) ?_
    try simp only [zup_k, zup_e, ne_eq, Nat.reduceEqDiff, not_false_eq_true]
    refine zr_goto (pc := 25) (tgt := 29) S dX12_given_25 (by decide) ?_
    exact zr_iret (pc := 29) S dX12_given_29 rfl ⟨Nat.le_refl _, Nat.le_refl _⟩ (hQ)
def sp_X12_gives (as : List zV) (M : zM) (Q : Option zV → zM → Prop) : Prop := ∃ (s : Int), as = [zR 180, zI s] ∧ (0 ≤ M 181 6 ∧ M 181 6 < 172) ∧ (Q none (zup (zup M 181 (405 + M 181 6).toNat s) 181 6 (M 181 6 + 1)))
theorem us_X12_gives {s : Int} {M : zM} {Q : Option zV → zM → Prop} (h0 : 0 ≤ M 181 6 ∧ M 181 6 < 172) (hQ : Q none (zup (zup M 181 (405 + M 181 6).toNat s) 181 6 (M 181 6 + 1))) : sp_X12_gives [zR 180, zI s] M Q := ⟨s, rfl, h0, hQ⟩
set_option maxRecDepth 20000 in
set_option maxHeartbeats 4000000 in
theorem m_X12_gives (l : Launch) : zC l yX12_gives wzX12_gives rmX12_gives sp_X12_gives := by
  refine zMet.of RX12 (by decide +kernel) rfl rfl ?_
  intro E X as M Qp hX S hsp
  obtain ⟨s, rfl, h0, hQ⟩ := hsp
  refine ⟨Nat.le_of_ble_eq_true rfl, ?_⟩
  dsimp only [zpad, zargs]
  have e : ∀ (N : zM) (x : Int), zup N 181 (405 + M 181 6).toNat x 181 6 = N 181 6 := fun N x => by unfold zup; rw [if_pos rfl, if_neg (by omega)]
  refine zr_aload_n (pc := 0) S dX12_gives_0 rfl ?_
  refine zr_getR (pc := 1) S fX12_gives_9 dX12_gives_1 rfl (Nat.le_of_ble_eq_true rfl) rfl ?_
  refine zr_sipush (pc := 4) S dX12_gives_4 ⟨by unfold zrI; omega, by decide⟩ ?_
  refine zr_aload_n (pc := 7) S dX12_gives_7 rfl ?_
  refine zr_getR (pc := 8) S fX12_gives_9 dX12_gives_8 rfl (Nat.le_of_ble_eq_true rfl) rfl ?_
  refine zr_bipush (pc := 11) S dX12_gives_11 ⟨by unfold zrI; omega, by decide⟩ ?_
  refine zr_iaload (pc := 13) S dX12_gives_13 rfl (Nat.le_of_ble_eq_true rfl) (by omega) (by omega) ?_
  dsimp only [Int.reduceToNat]
  refine zr_iadd (pc := 14) S dX12_gives_14 (by unfold zrI; omega) ?_
  refine zr_iload_n (pc := 15) S dX12_gives_15 rfl ?_
  refine zr_iastore (pc := 16) S dX12_gives_16 rfl (Nat.le_of_ble_eq_true rfl) (by omega) (by omega) ?_
  refine zr_aload_n (pc := 17) S dX12_gives_17 rfl ?_
  refine zr_getR (pc := 18) S fX12_gives_9 dX12_gives_18 rfl (Nat.le_of_ble_eq_true rfl) rfl ?_
  try simp only [zup_k, zup_e, ne_eq, Nat.reduceEqDiff, not_false_eq_true, zup_j]
  refine zr_bipush (pc := 21) S dX12_gives_21 ⟨by unfold zrI; omega, by decide⟩ ?_
  refine zr_dup2 (pc := 23) S dX12_gives_23 rfl rfl ?_
  refine zr_iaload (pc := 24) S dX12_gives_24 rfl (Nat.le_of_ble_eq_true rfl) (by omega) (by omega) ?_
  dsimp only [Int.reduceToNat]
  try simp only [zup_k, zup_e, ne_eq, Nat.reduceEqDiff, not_false_eq_true]
  rw [e]
  refine zr_iconst (pc := 25) S dX12_gives_25 (by unfold zrI; omega) ?_
  refine zr_iadd (pc := 26) S dX12_gives_26 (by unfold zrI; omega) ?_
  refine zr_iastore (pc := 27) S dX12_gives_27 rfl (Nat.le_of_ble_eq_true rfl) (by omega) (by omega) ?_
  exact zr_vret (pc := 28) S dX12_gives_28 rfl ⟨Nat.le_refl _, Nat.le_refl _⟩ (hQ)
def sp_X12_cost (as : List zV) (M : zM) (Q : Option zV → zM → Prop) : Prop := ∃ (k c : Int), as = [zR 180, zI k, zI c] ∧ ((0 ≤ k ∧ k ≤ 3) → (0 ≤ c ∧ c ≤ 999) → Q (some (zI (M 181 (11 + k).toNat))) (zup (tz M 0) 181 (11 + k).toNat c)) ∧ (¬ (0 ≤ k ∧ k ≤ 3) → Q (some (zI 0)) (tz (tz M 0) 1)) ∧ ((0 ≤ k ∧ k ≤ 3) → ¬ (0 ≤ c ∧ c ≤ 999) → Q (some (zI 0)) (tz (tz M 0) 2))
theorem us_X12_cost {k c : Int} {M : zM} {Q : Option zV → zM → Prop} (hQ : (0 ≤ k ∧ k ≤ 3) → (0 ≤ c ∧ c ≤ 999) → Q (some (zI (M 181 (11 + k).toNat))) (zup (tz M 0) 181 (11 + k).toNat c)) (hT : ¬ (0 ≤ k ∧ k ≤ 3) → Q (some (zI 0)) (tz (tz M 0) 1)) (hU : (0 ≤ k ∧ k ≤ 3) → ¬ (0 ≤ c ∧ c ≤ 999) → Q (some (zI 0)) (tz (tz M 0) 2)) : sp_X12_cost [zR 180, zI k, zI c] M Q := ⟨k, c, rfl, hQ, hT, hU⟩
set_option maxRecDepth 20000 in
set_option maxHeartbeats 4000000 in
theorem m_X12_cost (l : Launch) : zC l yX12_cost wzX12_cost rmX12_cost sp_X12_cost := by
  refine zMet.of RX12 (by decide +kernel) rfl rfl ?_
  intro E X as M Qp hX S hsp
  obtain ⟨k, c, rfl, hQ, hT, hU⟩ := hsp
  refine ⟨Nat.le_of_ble_eq_true rfl, ?_⟩
  dsimp only [zpad, zargs]
  refine zr_aload_n (pc := 0) S dX12_cost_0 rfl ?_
  refine zr_iconst (pc := 1) S dX12_cost_1 (by unfold zrI; omega) ?_
  refine zr_putI (pc := 2) S pX12_cost_80 dX12_cost_2 rfl (Nat.le_of_ble_eq_true rfl) rfl ?_
  refine zr_iload_n (pc := 5) S dX12_cost_5 rfl ?_
  refine zr_i2l (pc := 6) S dX12_cost_6 ?_
  refine zr_lconst0 (pc := 7) S dX12_cost_7 ?_
  refine zr_ldc2 (pc := 8) S (3) dX12_cost_8 (List.mem_cons_of_mem _ (zWi_7 _ (List.mem_of_getElem? (i := 24) rfl))) (by unfold zrL; omega) ?_
  refine zr_invS (pc := 11) S [zL _, zL _, zL _] (m_X12_within _) kX12_cost_83 dX12_cost_11 (Nat.le_of_ble_eq_true rfl) ⟨Nat.le_of_ble_eq_true rfl, Nat.le_of_ble_eq_true rfl⟩ (us_X12_within ?_)
  dsimp only [zaft, Option.toList, List.cons_append, List.nil_append, Nat.add_zero]
  refine zr_if_ne (pc := 14) (tgt := 23) S dX12_cost_14 (by decide) (fun c14 => ?_) (fun c14 => ?_)
  · rw [b01_0, Classical.not_not] at c14
    refine zr_iload_n (pc := 23) S dX12_cost_23 rfl ?_
    refine zr_i2l (pc := 24) S dX12_cost_24 ?_
    refine zr_lconst0 (pc := 25) S dX12_cost_25 ?_
    refine zr_ldc2 (pc := 26) S (999) dX12_cost_26 (List.mem_cons_of_mem _ (zWi_7 _ (List.mem_of_getElem? (i := 33) rfl))) (by unfold zrL; omega) ?_
    refine zr_invS (pc := 29) S [zL _, zL _, zL _] (m_X12_within _) kX12_cost_83 dX12_cost_29 (Nat.le_of_ble_eq_true rfl) ⟨Nat.le_of_ble_eq_true rfl, Nat.le_of_ble_eq_true rfl⟩ (us_X12_within ?_)
    dsimp only [zaft, Option.toList, List.cons_append, List.nil_append, Nat.add_zero]
    refine zr_if_eq (pc := 32) (tgt := 47) S dX12_cost_32 (by decide) (fun c32 => ?_) (fun c32 => ?_)
    · rw [b01_0] at c32
      have f := hU c14 c32
      refine zr_aload_n (pc := 47) S dX12_cost_47 rfl ?_
      refine zr_iconst (pc := 48) S dX12_cost_48 (by unfold zrI; omega) ?_
      refine zr_invV (pc := 49) S [zI _] (m_X12_fails _) kX12_cost_95 dX12_cost_49 rfl (Nat.le_of_ble_eq_true rfl) rfl (Nat.le_of_ble_eq_true rfl) ⟨Nat.le_of_ble_eq_true rfl, Nat.le_of_ble_eq_true rfl⟩ (us_X12_fails ?_)
      dsimp only [zaft, Option.toList, List.cons_append, List.nil_append, Nat.add_zero]
      exact zr_iret (pc := 52) S dX12_cost_52 rfl ⟨Nat.le_refl _, Nat.le_refl _⟩ (f)
    · rw [b01_0, Classical.not_not] at c32
      have f := hQ c14 c32
      refine zr_aload_n (pc := 35) S dX12_cost_35 rfl ?_
      refine zr_bipush (pc := 36) S dX12_cost_36 ⟨by unfold zrI; omega, by decide⟩ ?_
      refine zr_iload_n (pc := 38) S dX12_cost_38 rfl ?_
      refine zr_iadd (pc := 39) S dX12_cost_39 (by unfold zrI; omega) ?_
      refine zr_iload_n (pc := 40) S dX12_cost_40 rfl ?_
      refine zr_invV (pc := 41) S [zI _, zI _] (m_X12_becomes _) kX12_cost_109 dX12_cost_41 rfl (Nat.le_of_ble_eq_true rfl) rfl (Nat.le_of_ble_eq_true rfl) ⟨Nat.le_of_ble_eq_true rfl, Nat.le_of_ble_eq_true rfl⟩ (us_X12_becomes (by omega) (by omega) ?_)
      dsimp only [zaft, Option.toList, List.cons_append, List.nil_append, Nat.add_zero]
      refine zr_goto (pc := 44) (tgt := 52) S dX12_cost_44 (by decide) ?_
      exact zr_iret (pc := 52) S dX12_cost_52 rfl ⟨Nat.le_refl _, Nat.le_refl _⟩ (f)
  · rw [b01_0] at c14
    have f := hT c14
    refine zr_aload_n (pc := 17) S dX12_cost_17 rfl ?_
    refine zr_iconst (pc := 18) S dX12_cost_18 (by unfold zrI; omega) ?_
    refine zr_invV (pc := 19) S [zI _] (m_X12_fails _) kX12_cost_95 dX12_cost_19 rfl (Nat.le_of_ble_eq_true rfl) rfl (Nat.le_of_ble_eq_true rfl) ⟨Nat.le_of_ble_eq_true rfl, Nat.le_of_ble_eq_true rfl⟩ (us_X12_fails ?_)
    dsimp only [zaft, Option.toList, List.cons_append, List.nil_append, Nat.add_zero]
    exact zr_iret (pc := 22) S dX12_cost_22 rfl ⟨Nat.le_refl _, Nat.le_refl _⟩ (f)
def sp_X12_due (as : List zV) (M : zM) (Q : Option zV → zM → Prop) : Prop := ∃ (s : Int), as = [zR 180, zI s] ∧ (0 ≤ s) ∧ (s < 8) ∧ (zrI (M 181 (335 + s).toNat + M 181 (343 + s).toNat)) ∧ (Q (some (zI (M 181 (335 + s).toNat + M 181 (343 + s).toNat))) M)
theorem us_X12_due {s : Int} {M : zM} {Q : Option zV → zM → Prop} (h0 : 0 ≤ s) (h1 : s < 8) (h2 : zrI (M 181 (335 + s).toNat + M 181 (343 + s).toNat)) (hQ : Q (some (zI (M 181 (335 + s).toNat + M 181 (343 + s).toNat))) M) : sp_X12_due [zR 180, zI s] M Q := ⟨s, rfl, h0, h1, h2, hQ⟩
set_option maxRecDepth 20000 in
set_option maxHeartbeats 4000000 in
theorem m_X12_due (l : Launch) : zC l yX12_due wzX12_due rmX12_due sp_X12_due := by
  refine zMet.of RX12 (by decide +kernel) rfl rfl ?_
  intro E X as M Qp hX S hsp
  obtain ⟨s, rfl, h0, h1, h2, hQ⟩ := hsp
  refine ⟨Nat.le_of_ble_eq_true rfl, ?_⟩
  dsimp only [zpad, zargs]
  refine zr_aload_n (pc := 0) S dX12_due_0 rfl ?_
  refine zr_getR (pc := 1) S fX12_due_9 dX12_due_1 rfl (Nat.le_of_ble_eq_true rfl) rfl ?_
  refine zr_sipush (pc := 4) S dX12_due_4 ⟨by unfold zrI; omega, by decide⟩ ?_
  refine zr_iload_n (pc := 7) S dX12_due_7 rfl ?_
  refine zr_iadd (pc := 8) S dX12_due_8 (by unfold zrI; omega) ?_
  refine zr_iaload (pc := 9) S dX12_due_9 rfl (Nat.le_of_ble_eq_true rfl) (by omega) (by omega) ?_
  refine zr_aload_n (pc := 10) S dX12_due_10 rfl ?_
  refine zr_getR (pc := 11) S fX12_due_9 dX12_due_11 rfl (Nat.le_of_ble_eq_true rfl) rfl ?_
  refine zr_sipush (pc := 14) S dX12_due_14 ⟨by unfold zrI; omega, by decide⟩ ?_
  refine zr_iload_n (pc := 17) S dX12_due_17 rfl ?_
  refine zr_iadd (pc := 18) S dX12_due_18 (by unfold zrI; omega) ?_
  refine zr_iaload (pc := 19) S dX12_due_19 rfl (Nat.le_of_ble_eq_true rfl) (by omega) (by omega) ?_
  refine zr_iadd (pc := 20) S dX12_due_20 h2 ?_
  exact zr_iret (pc := 21) S dX12_due_21 rfl ⟨Nat.le_refl _, Nat.le_refl _⟩ (hQ)
def sp_X12_machine (as : List zV) (M : zM) (Q : Option zV → zM → Prop) : Prop := ∃ (a b : Int), as = [zR 180, zI a, zI b] ∧ (0 ≤ M 181 5 ∧ M 181 5 ≤ 4) ∧ ((0 ≤ a ∧ a ≤ 5) → (1 ≤ b ∧ b ≤ 5) → ¬ M 181 5 = 4 → Q (some (zI (M 181 5))) (zup (zup (zup (tz M 0) 181 (607 + 2 * M 181 5).toNat a) 181 (607 + 2 * M 181 5 + 1).toNat b) 181 5 (M 181 5 + 1))) ∧ ((0 ≤ a ∧ a ≤ 5) → (1 ≤ b ∧ b ≤ 5) → M 181 5 = 4 → Q (some (zI (-1))) (tz M 0)) ∧ (¬ ((0 ≤ a ∧ a ≤ 5) ∧ (1 ≤ b ∧ b ≤ 5)) → Q (some (zI 0)) (tz (tz M 0) 1))
theorem us_X12_machine {a b : Int} {M : zM} {Q : Option zV → zM → Prop} (h0 : 0 ≤ M 181 5 ∧ M 181 5 ≤ 4) (hQ : (0 ≤ a ∧ a ≤ 5) → (1 ≤ b ∧ b ≤ 5) → ¬ M 181 5 = 4 → Q (some (zI (M 181 5))) (zup (zup (zup (tz M 0) 181 (607 + 2 * M 181 5).toNat a) 181 (607 + 2 * M 181 5 + 1).toNat b) 181 5 (M 181 5 + 1))) (hF : (0 ≤ a ∧ a ≤ 5) → (1 ≤ b ∧ b ≤ 5) → M 181 5 = 4 → Q (some (zI (-1))) (tz M 0)) (hT : ¬ ((0 ≤ a ∧ a ≤ 5) ∧ (1 ≤ b ∧ b ≤ 5)) → Q (some (zI 0)) (tz (tz M 0) 1)) : sp_X12_machine [zR 180, zI a, zI b] M Q := ⟨a, b, rfl, h0, hQ, hF, hT⟩
set_option maxRecDepth 20000 in
set_option maxHeartbeats 4000000 in
theorem m_X12_machine (l : Launch) : zC l yX12_machine wzX12_machine rmX12_machine sp_X12_machine := by
  refine zMet.of RX12 (by decide +kernel) rfl rfl ?_
  intro E X as M Qp hX S hsp
  obtain ⟨a, b, rfl, h0, hQ, hF, hT⟩ := hsp
  refine ⟨Nat.le_of_ble_eq_true rfl, ?_⟩
  dsimp only [zpad, zargs]
  have e : ∀ (N : zM) (x : Int), zup N 181 (607 + 2 * M 181 5).toNat x 181 5 = N 181 5 := fun N x => by unfold zup; rw [if_pos rfl, if_neg (by omega)]
  have e2 : ∀ (N : zM) (x : Int), zup N 181 (607 + 2 * M 181 5 + 1).toNat x 181 5 = N 181 5 := fun N x => by unfold zup; rw [if_pos rfl, if_neg (by omega)]
  refine zr_aload_n (pc := 0) S dX12_machine_0 rfl ?_
  refine zr_iconst (pc := 1) S dX12_machine_1 (by unfold zrI; omega) ?_
  refine zr_putI (pc := 2) S pX12_machine_80 dX12_machine_2 rfl (Nat.le_of_ble_eq_true rfl) rfl ?_
  refine zr_iload_n (pc := 5) S dX12_machine_5 rfl ?_
  refine zr_i2l (pc := 6) S dX12_machine_6 ?_
  refine zr_lconst0 (pc := 7) S dX12_machine_7 ?_
  refine zr_ldc2 (pc := 8) S (5) dX12_machine_8 (List.mem_cons_of_mem _ (zWi_7 _ (List.mem_of_getElem? (i := 30) rfl))) (by unfold zrL; omega) ?_
  refine zr_invS (pc := 11) S [zL _, zL _, zL _] (m_X12_within _) kX12_machine_83 dX12_machine_11 (Nat.le_of_ble_eq_true rfl) ⟨Nat.le_of_ble_eq_true rfl, Nat.le_of_ble_eq_true rfl⟩ (us_X12_within ?_)
  dsimp only [zaft, Option.toList, List.cons_append, List.nil_append, Nat.add_zero]
  refine zr_if_eq (pc := 14) (tgt := 29) S dX12_machine_14 (by decide) (fun c14 => ?_) (fun c14 => ?_)
  · rw [b01_0] at c14
    have f := hT (fun z => c14 z.1)
    refine zr_aload_n (pc := 29) S dX12_machine_29 rfl ?_
    refine zr_iconst (pc := 30) S dX12_machine_30 (by unfold zrI; omega) ?_
    refine zr_invV (pc := 31) S [zI _] (m_X12_fails _) kX12_machine_95 dX12_machine_31 rfl (Nat.le_of_ble_eq_true rfl) rfl (Nat.le_of_ble_eq_true rfl) ⟨Nat.le_of_ble_eq_true rfl, Nat.le_of_ble_eq_true rfl⟩ (us_X12_fails ?_)
    dsimp only [zaft, Option.toList, List.cons_append, List.nil_append, Nat.add_zero]
    exact zr_iret (pc := 34) S dX12_machine_34 rfl ⟨Nat.le_refl _, Nat.le_refl _⟩ (by first | exact f | exact zqi f (by omega))
  · rw [b01_0, Classical.not_not] at c14
    refine zr_iload_n (pc := 17) S dX12_machine_17 rfl ?_
    refine zr_i2l (pc := 18) S dX12_machine_18 ?_
    refine zr_lconst1 (pc := 19) S dX12_machine_19 ?_
    refine zr_ldc2 (pc := 20) S (5) dX12_machine_20 (List.mem_cons_of_mem _ (zWi_7 _ (List.mem_of_getElem? (i := 30) rfl))) (by unfold zrL; omega) ?_
    refine zr_invS (pc := 23) S [zL _, zL _, zL _] (m_X12_within _) kX12_machine_83 dX12_machine_23 (Nat.le_of_ble_eq_true rfl) ⟨Nat.le_of_ble_eq_true rfl, Nat.le_of_ble_eq_true rfl⟩ (us_X12_within ?_)
    dsimp only [zaft, Option.toList, List.cons_append, List.nil_append, Nat.add_zero]
    refine zr_if_ne (pc := 26) (tgt := 35) S dX12_machine_26 (by decide) (fun c26 => ?_) (fun c26 => ?_)
    · rw [b01_0, Classical.not_not] at c26
      refine zr_aload_n (pc := 35) S dX12_machine_35 rfl ?_
      refine zr_getR (pc := 36) S fX12_machine_9 dX12_machine_36 rfl (Nat.le_of_ble_eq_true rfl) rfl ?_
      try simp only [zup_k, zup_e, ne_eq, Nat.reduceEqDiff, not_false_eq_true, zup_j]
      refine zr_iconst (pc := 39) S dX12_machine_39 (by unfold zrI; omega) ?_
      refine zr_iaload (pc := 40) S dX12_machine_40 rfl (Nat.le_of_ble_eq_true rfl) (by omega) (by omega) ?_
      dsimp only [Int.reduceToNat]
      try simp only [zup_k, zup_e, ne_eq, Nat.reduceEqDiff, not_false_eq_true]
      refine zr_iconst (pc := 41) S dX12_machine_41 (by unfold zrI; omega) ?_
      refine zr_icmp_ne (pc := 42) (tgt := 47) S dX12_machine_42 (by decide) (fun c42 => ?_) (fun c42 => ?_)
      · have f := hQ c14 c26 c42
        refine zr_aload_n (pc := 47) S dX12_machine_47 rfl ?_
        refine zr_getR (pc := 48) S fX12_machine_9 dX12_machine_48 rfl (Nat.le_of_ble_eq_true rfl) rfl ?_
        try simp only [zup_k, zup_e, ne_eq, Nat.reduceEqDiff, not_false_eq_true, zup_j]
        refine zr_sipush (pc := 51) S dX12_machine_51 ⟨by unfold zrI; omega, by decide⟩ ?_
        refine zr_iconst (pc := 54) S dX12_machine_54 (by unfold zrI; omega) ?_
        refine zr_aload_n (pc := 55) S dX12_machine_55 rfl ?_
        refine zr_getR (pc := 56) S fX12_machine_9 dX12_machine_56 rfl (Nat.le_of_ble_eq_true rfl) rfl ?_
        try simp only [zup_k, zup_e, ne_eq, Nat.reduceEqDiff, not_false_eq_true, zup_j]
        refine zr_iconst (pc := 59) S dX12_machine_59 (by unfold zrI; omega) ?_
        refine zr_iaload (pc := 60) S dX12_machine_60 rfl (Nat.le_of_ble_eq_true rfl) (by omega) (by omega) ?_
        dsimp only [Int.reduceToNat]
        try simp only [zup_k, zup_e, ne_eq, Nat.reduceEqDiff, not_false_eq_true]
        refine zr_imul (pc := 61) S dX12_machine_61 (by unfold zrI; omega) ?_
        refine zr_iadd (pc := 62) S dX12_machine_62 (by unfold zrI; omega) ?_
        refine zr_iload_n (pc := 63) S dX12_machine_63 rfl ?_
        refine zr_iastore (pc := 64) S dX12_machine_64 rfl (Nat.le_of_ble_eq_true rfl) (by omega) (by omega) ?_
        refine zr_aload_n (pc := 65) S dX12_machine_65 rfl ?_
        refine zr_getR (pc := 66) S fX12_machine_9 dX12_machine_66 rfl (Nat.le_of_ble_eq_true rfl) rfl ?_
        try simp only [zup_k, zup_e, ne_eq, Nat.reduceEqDiff, not_false_eq_true, zup_j]
        refine zr_sipush (pc := 69) S dX12_machine_69 ⟨by unfold zrI; omega, by decide⟩ ?_
        refine zr_iconst (pc := 72) S dX12_machine_72 (by unfold zrI; omega) ?_
        refine zr_aload_n (pc := 73) S dX12_machine_73 rfl ?_
        refine zr_getR (pc := 74) S fX12_machine_9 dX12_machine_74 rfl (Nat.le_of_ble_eq_true rfl) rfl ?_
        try simp only [zup_k, zup_e, ne_eq, Nat.reduceEqDiff, not_false_eq_true, zup_j]
        refine zr_iconst (pc := 77) S dX12_machine_77 (by unfold zrI; omega) ?_
        refine zr_iaload (pc := 78) S dX12_machine_78 rfl (Nat.le_of_ble_eq_true rfl) (by omega) (by omega) ?_
        dsimp only [Int.reduceToNat]
        try simp only [zup_k, zup_e, ne_eq, Nat.reduceEqDiff, not_false_eq_true]
        rw [e]
        try simp only [zup_k, zup_e, ne_eq, Nat.reduceEqDiff, not_false_eq_true]
        refine zr_imul (pc := 79) S dX12_machine_79 (by unfold zrI; omega) ?_
        refine zr_iadd (pc := 80) S dX12_machine_80 (by unfold zrI; omega) ?_
        refine zr_iconst (pc := 81) S dX12_machine_81 (by unfold zrI; omega) ?_
        refine zr_iadd (pc := 82) S dX12_machine_82 (by unfold zrI; omega) ?_
        refine zr_iload_n (pc := 83) S dX12_machine_83 rfl ?_
        refine zr_iastore (pc := 84) S dX12_machine_84 rfl (Nat.le_of_ble_eq_true rfl) (by omega) (by omega) ?_
        refine zr_aload_n (pc := 85) S dX12_machine_85 rfl ?_
        refine zr_getR (pc := 86) S fX12_machine_9 dX12_machine_86 rfl (Nat.le_of_ble_eq_true rfl) rfl ?_
        try simp only [zup_k, zup_e, ne_eq, Nat.reduceEqDiff, not_false_eq_true, zup_j]
        refine zr_iconst (pc := 89) S dX12_machine_89 (by unfold zrI; omega) ?_
        refine zr_dup2 (pc := 90) S dX12_machine_90 rfl rfl ?_
        refine zr_iaload (pc := 91) S dX12_machine_91 rfl (Nat.le_of_ble_eq_true rfl) (by omega) (by omega) ?_
        dsimp only [Int.reduceToNat]
        try simp only [zup_k, zup_e, ne_eq, Nat.reduceEqDiff, not_false_eq_true]
        rw [e2, e]
        try simp only [zup_k, zup_e, ne_eq, Nat.reduceEqDiff, not_false_eq_true]
        refine zr_iconst (pc := 92) S dX12_machine_92 (by unfold zrI; omega) ?_
        refine zr_iadd (pc := 93) S dX12_machine_93 (by unfold zrI; omega) ?_
        refine zr_iastore (pc := 94) S dX12_machine_94 rfl (Nat.le_of_ble_eq_true rfl) (by omega) (by omega) ?_
        refine zr_aload_n (pc := 95) S dX12_machine_95 rfl ?_
        refine zr_getR (pc := 96) S fX12_machine_9 dX12_machine_96 rfl (Nat.le_of_ble_eq_true rfl) rfl ?_
        try simp only [zup_k, zup_e, ne_eq, Nat.reduceEqDiff, not_false_eq_true, zup_j]
        refine zr_iconst (pc := 99) S dX12_machine_99 (by unfold zrI; omega) ?_
        refine zr_iaload (pc := 100) S dX12_machine_100 rfl (Nat.le_of_ble_eq_true rfl) (by omega) (by omega) ?_
        dsimp only [Int.reduceToNat]
        try simp only [zup_k, zup_e, ne_eq, Nat.reduceEqDiff, not_false_eq_true]
        try simp only [zup_k, zup_e, zup_j]
        refine zr_iconst (pc := 101) S dX12_machine_101 (by unfold zrI; omega) ?_
        refine zr_isub (pc := 102) S dX12_machine_102 (by unfold zrI; omega) ?_
        exact zr_iret (pc := 103) S dX12_machine_103 rfl ⟨Nat.le_refl _, Nat.le_refl _⟩ (by first | exact f | exact zqi f (by omega))
      · have f := hF c14 c26 c42
        refine zr_iconst (pc := 45) S dX12_machine_45 (by unfold zrI; omega) ?_
        exact zr_iret (pc := 46) S dX12_machine_46 rfl ⟨Nat.le_refl _, Nat.le_refl _⟩ (by first | exact f | exact zqi f (by omega))
    · rw [b01_0] at c26
      have f := hT (fun z => c26 z.2)
      refine zr_aload_n (pc := 29) S dX12_machine_29 rfl ?_
      refine zr_iconst (pc := 30) S dX12_machine_30 (by unfold zrI; omega) ?_
      refine zr_invV (pc := 31) S [zI _] (m_X12_fails _) kX12_machine_95 dX12_machine_31 rfl (Nat.le_of_ble_eq_true rfl) rfl (Nat.le_of_ble_eq_true rfl) ⟨Nat.le_of_ble_eq_true rfl, Nat.le_of_ble_eq_true rfl⟩ (us_X12_fails ?_)
      dsimp only [zaft, Option.toList, List.cons_append, List.nil_append, Nat.add_zero]
      exact zr_iret (pc := 34) S dX12_machine_34 rfl ⟨Nat.le_refl _, Nat.le_refl _⟩ (by first | exact f | exact zqi f (by omega))
/-- what the reference counts -/
def cntM (M : zM) (w : Int) : Int := if w = 6 then M 180 6 else if w = 7 then M 181 6 else if 0 ≤ w ∧ w ≤ 5 then M 181 w.toNat else -1
def sp_X12_count (as : List zV) (M : zM) (Q : Option zV → zM → Prop) : Prop := ∃ (w : Int), as = [zR 180, zI w] ∧ (Q (some (zI (cntM M w))) (tz M 0))
theorem us_X12_count {w : Int} {M : zM} {Q : Option zV → zM → Prop} (hQ : Q (some (zI (cntM M w))) (tz M 0)) : sp_X12_count [zR 180, zI w] M Q := ⟨w, rfl, hQ⟩
set_option maxRecDepth 20000 in
set_option maxHeartbeats 4000000 in
theorem m_X12_count (l : Launch) : zC l yX12_count wzX12_count rmX12_count sp_X12_count := by
  refine zMet.of RX12 (by decide +kernel) rfl rfl ?_
  intro E X as M Qp hX S hsp
  obtain ⟨w, rfl, hQ⟩ := hsp
  refine ⟨Nat.le_of_ble_eq_true rfl, ?_⟩
  dsimp only [zpad, zargs]
  refine zr_aload_n (pc := 0) S dX12_count_0 rfl ?_
  refine zr_iconst (pc := 1) S dX12_count_1 (by unfold zrI; omega) ?_
  refine zr_putI (pc := 2) S pX12_count_80 dX12_count_2 rfl (Nat.le_of_ble_eq_true rfl) rfl ?_
  refine zr_iload_n (pc := 5) S dX12_count_5 rfl ?_
  refine zr_bipush (pc := 6) S dX12_count_6 ⟨by unfold zrI; omega, by decide⟩ ?_
  refine zr_icmp_ne (pc := 8) (tgt := 16) S dX12_count_8 (by decide) (fun c8 => ?_) (fun c8 => ?_)
  · refine zr_iload_n (pc := 16) S dX12_count_16 rfl ?_
    refine zr_bipush (pc := 17) S dX12_count_17 ⟨by unfold zrI; omega, by decide⟩ ?_
    refine zr_icmp_ne (pc := 19) (tgt := 30) S dX12_count_19 (by decide) (fun c19 => ?_) (fun c19 => ?_)
    · refine zr_iload_n (pc := 30) S dX12_count_30 rfl ?_
      refine zr_i2l (pc := 31) S dX12_count_31 ?_
      refine zr_lconst0 (pc := 32) S dX12_count_32 ?_
      refine zr_ldc2 (pc := 33) S (5) dX12_count_33 (List.mem_cons_of_mem _ (zWi_7 _ (List.mem_of_getElem? (i := 30) rfl))) (by unfold zrL; omega) ?_
      refine zr_invS (pc := 36) S [zL _, zL _, zL _] (m_X12_within _) kX12_count_83 dX12_count_36 (Nat.le_of_ble_eq_true rfl) ⟨Nat.le_of_ble_eq_true rfl, Nat.le_of_ble_eq_true rfl⟩ (us_X12_within ?_)
      dsimp only [zaft, Option.toList, List.cons_append, List.nil_append, Nat.add_zero]
      refine zr_if_eq (pc := 39) (tgt := 51) S dX12_count_39 (by decide) (fun c39 => ?_) (fun c39 => ?_)
      · rw [b01_0] at c39
        refine zr_iconst (pc := 51) S dX12_count_51 (by unfold zrI; omega) ?_
        exact zr_iret (pc := 52) S dX12_count_52 rfl ⟨Nat.le_refl _, Nat.le_refl _⟩ (zqi hQ (by unfold cntM; first | rw [if_pos c8] | rw [if_neg c8, if_pos c19] | rw [if_neg c8, if_neg c19, if_pos c39] | rw [if_neg c8, if_neg c19, if_neg c39]))
      · rw [b01_0, Classical.not_not] at c39
        refine zr_aload_n (pc := 42) S dX12_count_42 rfl ?_
        refine zr_getR (pc := 43) S fX12_count_9 dX12_count_43 rfl (Nat.le_of_ble_eq_true rfl) rfl ?_
        try simp only [zup_k, zup_e, ne_eq, Nat.reduceEqDiff, not_false_eq_true, zup_j]
        refine zr_iload_n (pc := 46) S dX12_count_46 rfl ?_
        refine zr_iaload (pc := 47) S dX12_count_47 rfl (Nat.le_of_ble_eq_true rfl) (by omega) (by omega) ?_
        try simp only [zup_k, zup_e, ne_eq, Nat.reduceEqDiff, not_false_eq_true]
        refine zr_goto (pc := 48) (tgt := 52) S dX12_count_48 (by decide) ?_
        exact zr_iret (pc := 52) S dX12_count_52 rfl ⟨Nat.le_refl _, Nat.le_refl _⟩ (zqi hQ (by unfold cntM; first | rw [if_pos c8] | rw [if_neg c8, if_pos c19] | rw [if_neg c8, if_neg c19, if_pos c39] | rw [if_neg c8, if_neg c19, if_neg c39]))
    · refine zr_aload_n (pc := 22) S dX12_count_22 rfl ?_
      refine zr_getR (pc := 23) S fX12_count_9 dX12_count_23 rfl (Nat.le_of_ble_eq_true rfl) rfl ?_
      try simp only [zup_k, zup_e, ne_eq, Nat.reduceEqDiff, not_false_eq_true, zup_j]
      refine zr_bipush (pc := 26) S dX12_count_26 ⟨by unfold zrI; omega, by decide⟩ ?_
      refine zr_iaload (pc := 28) S dX12_count_28 rfl (Nat.le_of_ble_eq_true rfl) (by omega) (by omega) ?_
      dsimp only [Int.reduceToNat]
      try simp only [zup_k, zup_e, ne_eq, Nat.reduceEqDiff, not_false_eq_true]
      exact zr_iret (pc := 29) S dX12_count_29 rfl ⟨Nat.le_refl _, Nat.le_refl _⟩ (zqi hQ (by unfold cntM; first | rw [if_pos c8] | rw [if_neg c8, if_pos c19] | rw [if_neg c8, if_neg c19, if_pos c39] | rw [if_neg c8, if_neg c19, if_neg c39]))
  · refine zr_aload_n (pc := 11) S dX12_count_11 rfl ?_
    refine zr_getI (pc := 12) S fX12_count_136 dX12_count_12 rfl (Nat.le_of_ble_eq_true rfl) rfl ?_
    try simp only [zup_k, zup_e, ne_eq, Nat.reduceEqDiff, not_false_eq_true, zup_j]
    exact zr_iret (pc := 15) S dX12_count_15 rfl ⟨Nat.le_refl _, Nat.le_refl _⟩ (zqi hQ (by unfold cntM; first | rw [if_pos c8] | rw [if_neg c8, if_pos c19] | rw [if_neg c8, if_neg c19, if_pos c39] | rw [if_neg c8, if_neg c19, if_neg c39]))
def sp_X12_fault (as : List zV) (M : zM) (Q : Option zV → zM → Prop) : Prop := ∃ (w : Int), as = [zR 180, zI w] ∧ (Q (some (zI (if w = 0 then M 180 14 else if w = 1 then M 180 15 else -1))) (tz M 0))
theorem us_X12_fault {w : Int} {M : zM} {Q : Option zV → zM → Prop} (hQ : Q (some (zI (if w = 0 then M 180 14 else if w = 1 then M 180 15 else -1))) (tz M 0)) : sp_X12_fault [zR 180, zI w] M Q := ⟨w, rfl, hQ⟩
set_option maxRecDepth 20000 in
set_option maxHeartbeats 4000000 in
theorem m_X12_fault (l : Launch) : zC l yX12_fault wzX12_fault rmX12_fault sp_X12_fault := by
  refine zMet.of RX12 (by decide +kernel) rfl rfl ?_
  intro E X as M Qp hX S hsp
  obtain ⟨w, rfl, hQ⟩ := hsp
  refine ⟨Nat.le_of_ble_eq_true rfl, ?_⟩
  dsimp only [zpad, zargs]
  refine zr_aload_n (pc := 0) S dX12_fault_0 rfl ?_
  refine zr_iconst (pc := 1) S dX12_fault_1 (by unfold zrI; omega) ?_
  refine zr_putI (pc := 2) S pX12_fault_80 dX12_fault_2 rfl (Nat.le_of_ble_eq_true rfl) rfl ?_
  refine zr_iload_n (pc := 5) S dX12_fault_5 rfl ?_
  refine zr_if_ne (pc := 6) (tgt := 16) S dX12_fault_6 (by decide) (fun c6 => ?_) (fun c6 => ?_)
  · refine zr_iload_n (pc := 16) S dX12_fault_16 rfl ?_
    refine zr_iconst (pc := 17) S dX12_fault_17 (by unfold zrI; omega) ?_
    refine zr_icmp_ne (pc := 18) (tgt := 28) S dX12_fault_18 (by decide) (fun c18 => ?_) (fun c18 => ?_)
    · refine zr_iconst (pc := 28) S dX12_fault_28 (by unfold zrI; omega) ?_
      exact zr_iret (pc := 29) S dX12_fault_29 rfl ⟨Nat.le_refl _, Nat.le_refl _⟩ (zqi hQ (by first | rw [if_pos c6] | rw [if_neg c6, if_pos c18] | rw [if_neg c6, if_neg c18]))
    · refine zr_aload_n (pc := 21) S dX12_fault_21 rfl ?_
      refine zr_getI (pc := 22) S fX12_fault_26 dX12_fault_22 rfl (Nat.le_of_ble_eq_true rfl) rfl ?_
      try simp only [zup_k, zup_e, ne_eq, Nat.reduceEqDiff, not_false_eq_true, zup_j]
      refine zr_goto (pc := 25) (tgt := 29) S dX12_fault_25 (by decide) ?_
      exact zr_iret (pc := 29) S dX12_fault_29 rfl ⟨Nat.le_refl _, Nat.le_refl _⟩ (zqi hQ (by first | rw [if_pos c6] | rw [if_neg c6, if_pos c18] | rw [if_neg c6, if_neg c18]))
  · refine zr_aload_n (pc := 9) S dX12_fault_9 rfl ?_
    refine zr_getI (pc := 10) S fX12_fault_222 dX12_fault_10 rfl (Nat.le_of_ble_eq_true rfl) rfl ?_
    try simp only [zup_k, zup_e, ne_eq, Nat.reduceEqDiff, not_false_eq_true, zup_j]
    refine zr_goto (pc := 13) (tgt := 29) S dX12_fault_13 (by decide) ?_
    exact zr_iret (pc := 29) S dX12_fault_29 rfl ⟨Nat.le_refl _, Nat.le_refl _⟩ (zqi hQ (by first | rw [if_pos c6] | rw [if_neg c6, if_pos c18] | rw [if_neg c6, if_neg c18]))
def sp_X12_isTray (as : List zV) (M : zM) (Q : Option zV → zM → Prop) : Prop := ∃ (t : Int), as = [zI t] ∧ (Q (some (zI (b01 (0 ≤ t ∧ t ≤ 3)))) M)
theorem us_X12_isTray {t : Int} {M : zM} {Q : Option zV → zM → Prop} (hQ : Q (some (zI (b01 (0 ≤ t ∧ t ≤ 3)))) M) : sp_X12_isTray [zI t] M Q := ⟨t, rfl, hQ⟩
set_option maxRecDepth 20000 in
set_option maxHeartbeats 4000000 in
theorem m_X12_isTray (l : Launch) : zC l yX12_isTray wzX12_isTray rmX12_isTray sp_X12_isTray := by
  refine zMet.of RX12 (by decide +kernel) rfl rfl ?_
  intro E X as M Qp hX S hsp
  obtain ⟨t, rfl, hQ⟩ := hsp
  refine ⟨Nat.le_of_ble_eq_true rfl, ?_⟩
  dsimp only [zpad, zargs]
  refine zr_iload_n (pc := 0) S dX12_isTray_0 rfl ?_
  refine zr_i2l (pc := 1) S dX12_isTray_1 ?_
  refine zr_lconst0 (pc := 2) S dX12_isTray_2 ?_
  refine zr_ldc2 (pc := 3) S (3) dX12_isTray_3 (List.mem_cons_of_mem _ (zWi_7 _ (List.mem_of_getElem? (i := 24) rfl))) (by unfold zrL; omega) ?_
  refine zr_invS (pc := 6) S [zL _, zL _, zL _] (m_X12_within _) kX12_isTray_83 dX12_isTray_6 (Nat.le_of_ble_eq_true rfl) ⟨Nat.le_of_ble_eq_true rfl, Nat.le_of_ble_eq_true rfl⟩ (us_X12_within ?_)
  dsimp only [zaft, Option.toList, List.cons_append, List.nil_append, Nat.add_zero]
  exact zr_zret (pc := 9) S dX12_isTray_9 rfl (by first | omega | exact b01_r) ⟨Nat.le_refl _, Nat.le_refl _⟩ (hQ)
end
