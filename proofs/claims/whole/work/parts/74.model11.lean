section
def sp_X12_pour (as : List zV) (M : zM) (Q : Option zV → zM → Prop) : Prop := ∃ (t u : Int), as = [zR 180, zI t, zI u] ∧ (0 ≤ M 181 0 ∧ M 181 0 ≤ 8) ∧ (∀ i : Nat, i < 4 → (-1 ≤ M 198 i ∧ M 198 i ≤ 3) ∧ (0 ≤ M 199 i ∧ M 199 i ≤ 20)) ∧ (∀ i : Nat, i < 8 → (0 ≤ M 181 (159 + 21 * i) ∧ M 181 (159 + 21 * i) ≤ 20) ∧ (0 ≤ M 181 (327 + i) ∧ M 181 (327 + i) ≤ 1000000) ∧ (0 ≤ M 181 (335 + i) ∧ M 181 (335 + i) ≤ 1000000)) ∧ ((0 ≤ t ∧ t ≤ 3) → (0 ≤ u ∧ u < M 181 0) → ¬ M 198 t.toNat = -1 → holds (fun i => M 200 (20 * t.toNat + i)) (M 181 0) (M 199 t.toNat).toNat → M 181 (159 + 21 * u.toNat) + M 199 t.toNat ≤ 20 → Q (some (zI (M 181 (159 + 21 * u.toNat) + M 199 t.toNat))) (zrow (tz M 0) 181 (rUp (ptT (M 181) u.toNat (fun i => M 200 (20 * t.toNat + i)) (M 199 t.toNat).toNat) (335 + u.toNat) (M 181 (335 + u.toNat) + M 199 t.toNat)))) ∧ ((0 ≤ t ∧ t ≤ 3) → (0 ≤ u ∧ u < M 181 0) → ¬ M 198 t.toNat = -1 → holds (fun i => M 200 (20 * t.toNat + i)) (M 181 0) (M 199 t.toNat).toNat → ¬ M 181 (159 + 21 * u.toNat) + M 199 t.toNat ≤ 20 → Q (some (zI (-1))) (tz M 0)) ∧ (¬ ((0 ≤ t ∧ t ≤ 3) ∧ (0 ≤ u ∧ u < M 181 0)) → Q (some (zI 0)) (tz (tz M 0) 1)) ∧ ((0 ≤ t ∧ t ≤ 3) → (0 ≤ u ∧ u < M 181 0) → M 198 t.toNat = -1 → Q (some (zI 0)) (tz (tz M 0) 2)) ∧ ((0 ≤ t ∧ t ≤ 3) → (0 ≤ u ∧ u < M 181 0) → ¬ M 198 t.toNat = -1 → ¬ holds (fun i => M 200 (20 * t.toNat + i)) (M 181 0) (M 199 t.toNat).toNat → Q (some (zI 0)) (tz (tz M 0) 3))
theorem us_X12_pour {t u : Int} {M : zM} {Q : Option zV → zM → Prop} (h0 : 0 ≤ M 181 0 ∧ M 181 0 ≤ 8) (hx : ∀ i : Nat, i < 4 → (-1 ≤ M 198 i ∧ M 198 i ≤ 3) ∧ (0 ≤ M 199 i ∧ M 199 i ≤ 20)) (hh : ∀ i : Nat, i < 8 → (0 ≤ M 181 (159 + 21 * i) ∧ M 181 (159 + 21 * i) ≤ 20) ∧ (0 ≤ M 181 (327 + i) ∧ M 181 (327 + i) ≤ 1000000) ∧ (0 ≤ M 181 (335 + i) ∧ M 181 (335 + i) ≤ 1000000)) (hQ : (0 ≤ t ∧ t ≤ 3) → (0 ≤ u ∧ u < M 181 0) → ¬ M 198 t.toNat = -1 → holds (fun i => M 200 (20 * t.toNat + i)) (M 181 0) (M 199 t.toNat).toNat → M 181 (159 + 21 * u.toNat) + M 199 t.toNat ≤ 20 → Q (some (zI (M 181 (159 + 21 * u.toNat) + M 199 t.toNat))) (zrow (tz M 0) 181 (rUp (ptT (M 181) u.toNat (fun i => M 200 (20 * t.toNat + i)) (M 199 t.toNat).toNat) (335 + u.toNat) (M 181 (335 + u.toNat) + M 199 t.toNat)))) (hF : (0 ≤ t ∧ t ≤ 3) → (0 ≤ u ∧ u < M 181 0) → ¬ M 198 t.toNat = -1 → holds (fun i => M 200 (20 * t.toNat + i)) (M 181 0) (M 199 t.toNat).toNat → ¬ M 181 (159 + 21 * u.toNat) + M 199 t.toNat ≤ 20 → Q (some (zI (-1))) (tz M 0)) (hT : ¬ ((0 ≤ t ∧ t ≤ 3) ∧ (0 ≤ u ∧ u < M 181 0)) → Q (some (zI 0)) (tz (tz M 0) 1)) (hU : (0 ≤ t ∧ t ≤ 3) → (0 ≤ u ∧ u < M 181 0) → M 198 t.toNat = -1 → Q (some (zI 0)) (tz (tz M 0) 2)) (hV : (0 ≤ t ∧ t ≤ 3) → (0 ≤ u ∧ u < M 181 0) → ¬ M 198 t.toNat = -1 → ¬ holds (fun i => M 200 (20 * t.toNat + i)) (M 181 0) (M 199 t.toNat).toNat → Q (some (zI 0)) (tz (tz M 0) 3)) : sp_X12_pour [zR 180, zI t, zI u] M Q := ⟨t, u, rfl, h0, hx, hh, hQ, hF, hT, hU, hV⟩
set_option maxRecDepth 20000 in
set_option maxHeartbeats 4000000 in
theorem m_X12_pour (l : Launch) : zC l yX12_pour wzX12_pour rmX12_pour sp_X12_pour := by
  refine zMet.of RX12 (by decide +kernel) rfl rfl ?_
  intro E X as M Qp hX S hsp
  obtain ⟨t, u, rfl, h0, hx, hh, hQ, hF, hT, hU, hV⟩ := hsp
  refine ⟨Nat.le_of_ble_eq_true rfl, ?_⟩
  dsimp only [zpad, zargs]
  have et : tz M 0 181 = M 181 := zup_o _ (by decide)
  have em : tz M 0 199 = M 199 := zup_o _ (by decide)
  have en : tz M 0 200 = M 200 := zup_o _ (by decide)
  have key : (0 ≤ t ∧ t ≤ 3) → (0 ≤ u ∧ u < M 181 0) → ¬ M 198 t.toNat = -1 → zK (zg E) rmX12_pour 4 (Qp, 0, 0) X (0, 0) 44 [some (zR 180), some (zI t), some (zI u), some (zI 0)] [] (tz M 0) := by
    intro c1 c2 c3
    have f1 := hQ c1 c2 c3
    have f2 := hF c1 c2 c3
    have f3 := hV c1 c2 c3
    have ax := hx t.toNat (by omega)
    obtain ⟨t, rfl⟩ : ∃ n : Nat, t = n := ⟨t.toNat, by omega⟩
    obtain ⟨u, rfl⟩ : ∃ n : Nat, u = n := ⟨u.toNat, by omega⟩
    simp only [Int.toNat_natCast] at f1 f2 f3 ax
    obtain ⟨m, hm⟩ : ∃ n : Nat, M 199 t = n := ⟨(M 199 t).toNat, by omega⟩
    rw [hm, Int.toNat_natCast] at f1 f2 f3
    have emT : tz M 0 199 (t : Int).toNat = m := by rw [em, Int.toNat_natCast, hm]
    have e0 : ((159 : Int) + 21 * (u : Int)).toNat = 159 + 21 * u := by omega
    have au := hh u (by omega)
    have eT : tz M 0 181 (159 + 21 * u) = M 181 (159 + 21 * u) := by rw [et]
    have eT0 : tz M 0 181 0 = M 181 0 := by rw [et]
    have lp : ∀ n i : Nat, n + i = m → holds (fun i => M 200 (20 * t + i)) (M 181 0) i → zK (zg E) rmX12_pour 4 (Qp, 0, 0) X (0, 0) 44 [some (zR 180), some (zI t), some (zI u), some (zI i)] [] (tz M 0) := by
      intro n
      induction n with
      | zero =>
        intro i hi ho
        obtain rfl : i = m := by omega
        have f1 := f1 ho
        have f2 := f2 ho
        have hf : ∀ j, j < i → 0 ≤ M 200 (20 * t + j) ∧ M 200 (20 * t + j) < 8 := fun j hj => by have := ho j hj; dsimp only at this; omega
        refine zr_iload_n (pc := 44) S dX12_pour_44 rfl ?_
        refine zr_aload_n (pc := 45) S dX12_pour_45 rfl ?_
        refine zr_getR (pc := 46) S fX12_pour_74 dX12_pour_46 rfl (Nat.le_of_ble_eq_true rfl) rfl ?_
        refine zr_iload_n (pc := 49) S dX12_pour_49 rfl ?_
        refine zr_iaload (pc := 50) S dX12_pour_50 rfl (Nat.le_of_ble_eq_true rfl) (by omega) (by omega) ?_
        rw [emT]
        refine zr_icmp_ge (pc := 51) (tgt := 93) S dX12_pour_51 (by decide) (fun c51 => ?_) (fun c51 => absurd c51 (by omega))
        refine zr_aload_n (pc := 93) S dX12_pour_93 rfl ?_
        refine zr_getR (pc := 94) S fX12_pour_9 dX12_pour_94 rfl (Nat.le_of_ble_eq_true rfl) rfl ?_
        refine zr_aload_n (pc := 97) S dX12_pour_97 rfl ?_
        refine zr_iload_n (pc := 98) S dX12_pour_98 rfl ?_
        refine zr_invV (pc := 99) S [zI _] (m_X12_tubeAt _) kX12_pour_293 dX12_pour_99 rfl (Nat.le_of_ble_eq_true rfl) rfl (Nat.le_of_ble_eq_true rfl) ⟨Nat.le_of_ble_eq_true rfl, Nat.le_of_ble_eq_true rfl⟩ (us_X12_tubeAt (by omega) (by omega) ?_)
        dsimp only [zaft, Option.toList, List.cons_append, List.nil_append, Nat.add_zero]
        refine zr_iaload (pc := 102) S dX12_pour_102 rfl (Nat.le_of_ble_eq_true rfl) (by omega) (by omega) ?_
        rw [e0, eT]
        refine zr_aload_n (pc := 103) S dX12_pour_103 rfl ?_
        refine zr_getR (pc := 104) S fX12_pour_74 dX12_pour_104 rfl (Nat.le_of_ble_eq_true rfl) rfl ?_
        refine zr_iload_n (pc := 107) S dX12_pour_107 rfl ?_
        refine zr_iaload (pc := 108) S dX12_pour_108 rfl (Nat.le_of_ble_eq_true rfl) (by omega) (by omega) ?_
        rw [emT]
        refine zr_iadd (pc := 109) S dX12_pour_109 (by unfold zrI; omega) ?_
        refine zr_bipush (pc := 110) S dX12_pour_110 ⟨by unfold zrI; omega, by decide⟩ ?_
        refine zr_icmp_le (pc := 112) (tgt := 117) S dX12_pour_112 (by decide) (fun c112 => ?_) (fun c112 => ?_)
        · have g := f1 c112
          refine zr_iconst (pc := 117) S dX12_pour_117 (by unfold zrI; omega) ?_
          refine zr_istore_n (pc := 118) S 3 dX12_pour_118 rfl (by decide) ?_
          dsimp only [zst1, zst2, zset, zget, zlong]
          have l := lp_X12_pour2 (E := E) (X := X) (Qp := Qp) (M := tz M 0) (u := u) (t := t) (m := i) S (by omega) (by omega) (by rw [em]; exact hm) (by omega) (by rw [en]; exact hf) (by rw [et]; omega) (by rw [et]; exact fun s hs => (hh s hs).2.1) (by rw [et]; exact au.2.2) (by rw [et, en]; exact g) i 0 (by omega)
          have ez : zrow (tz M 0) 181 (ptT (tz M 0 181) u (fun i => tz M 0 200 (20 * t + i)) 0) = tz M 0 := zrow_s
          rw [ez] at l
          exact l
        · have g := f2 (by omega)
          refine zr_iconst (pc := 115) S dX12_pour_115 (by unfold zrI; omega) ?_
          exact zr_iret (pc := 116) S dX12_pour_116 rfl ⟨Nat.le_refl _, Nat.le_refl _⟩ (g)
      | succ n ih =>
        intro i hi ho
        have e1 : tz M 0 200 ((20 : Int) * (t : Int) + (i : Int)).toNat = M 200 (20 * t + i) := by rw [en, show ((20 : Int) * (t : Int) + (i : Int)).toNat = 20 * t + i by omega]
        have k := ih (i + 1) (by omega)
        rw [Int.natCast_add, Int.natCast_one] at k
        refine zr_iload_n (pc := 44) S dX12_pour_44 rfl ?_
        refine zr_aload_n (pc := 45) S dX12_pour_45 rfl ?_
        refine zr_getR (pc := 46) S fX12_pour_74 dX12_pour_46 rfl (Nat.le_of_ble_eq_true rfl) rfl ?_
        refine zr_iload_n (pc := 49) S dX12_pour_49 rfl ?_
        refine zr_iaload (pc := 50) S dX12_pour_50 rfl (Nat.le_of_ble_eq_true rfl) (by omega) (by omega) ?_
        rw [emT]
        refine zr_icmp_ge (pc := 51) (tgt := 93) S dX12_pour_51 (by decide) (fun c51 => absurd c51 (by omega)) (fun c51 => ?_)
        refine zr_aload_n (pc := 54) S dX12_pour_54 rfl ?_
        refine zr_getR (pc := 55) S fX12_pour_77 dX12_pour_55 rfl (Nat.le_of_ble_eq_true rfl) rfl ?_
        refine zr_bipush (pc := 58) S dX12_pour_58 ⟨by unfold zrI; omega, by decide⟩ ?_
        refine zr_iload_n (pc := 60) S dX12_pour_60 rfl ?_
        refine zr_imul (pc := 61) S dX12_pour_61 (by unfold zrI; omega) ?_
        refine zr_iload_n (pc := 62) S dX12_pour_62 rfl ?_
        refine zr_iadd (pc := 63) S dX12_pour_63 (by unfold zrI; omega) ?_
        refine zr_laload (pc := 64) S dX12_pour_64 rfl (Nat.le_of_ble_eq_true rfl) (by omega) (by omega) ?_
        rw [e1]
        refine zr_lconst0 (pc := 65) S dX12_pour_65 ?_
        refine zr_aload_n (pc := 66) S dX12_pour_66 rfl ?_
        refine zr_getR (pc := 67) S fX12_pour_9 dX12_pour_67 rfl (Nat.le_of_ble_eq_true rfl) rfl ?_
        refine zr_iconst (pc := 70) S dX12_pour_70 (by unfold zrI; omega) ?_
        refine zr_iaload (pc := 71) S dX12_pour_71 rfl (Nat.le_of_ble_eq_true rfl) (by omega) (by omega) ?_
        dsimp only [Int.reduceToNat]
        rw [eT0]
        refine zr_iconst (pc := 72) S dX12_pour_72 (by unfold zrI; omega) ?_
        refine zr_isub (pc := 73) S dX12_pour_73 (by unfold zrI; omega) ?_
        refine zr_i2l (pc := 74) S dX12_pour_74 ?_
        refine zr_invS (pc := 75) S [zL _, zL _, zL _] (m_X12_within _) kX12_pour_83 dX12_pour_75 (Nat.le_of_ble_eq_true rfl) ⟨Nat.le_of_ble_eq_true rfl, Nat.le_of_ble_eq_true rfl⟩ (us_X12_within ?_)
        dsimp only [zaft, Option.toList, List.cons_append, List.nil_append, Nat.add_zero]
        refine zr_if_ne (pc := 78) (tgt := 87) S dX12_pour_78 (by decide) (fun c78 => ?_) (fun c78 => ?_)
        · rw [b01_0, Classical.not_not] at c78
          have k := k (fun j hj => (Decidable.em (j = i)).elim (fun e => by subst e; dsimp only; omega) (fun e => ho j (by omega)))
          refine zr_iinc (pc := 87) S dX12_pour_87 rfl (by unfold zrI; omega) (by decide) ?_
          dsimp only [zst1, zst2, zset, zget, zlong]
          refine zr_goto (pc := 90) (tgt := 44) S dX12_pour_90 (by decide) ?_
          exact k
        · rw [b01_0] at c78
          have g := f3 (fun z => c78 (by have := z i (by omega); dsimp only at this; omega))
          refine zr_aload_n (pc := 81) S dX12_pour_81 rfl ?_
          refine zr_iconst (pc := 82) S dX12_pour_82 (by unfold zrI; omega) ?_
          refine zr_invV (pc := 83) S [zI _] (m_X12_fails _) kX12_pour_95 dX12_pour_83 rfl (Nat.le_of_ble_eq_true rfl) rfl (Nat.le_of_ble_eq_true rfl) ⟨Nat.le_of_ble_eq_true rfl, Nat.le_of_ble_eq_true rfl⟩ (us_X12_fails ?_)
          dsimp only [zaft, Option.toList, List.cons_append, List.nil_append, Nat.add_zero]
          exact zr_iret (pc := 86) S dX12_pour_86 rfl ⟨Nat.le_refl _, Nat.le_refl _⟩ (g)
    exact lp m 0 (by omega) (fun j hj => absurd hj (by omega))
  refine zr_aload_n (pc := 0) S dX12_pour_0 rfl ?_
  refine zr_iconst (pc := 1) S dX12_pour_1 (by unfold zrI; omega) ?_
  refine zr_putI (pc := 2) S pX12_pour_80 dX12_pour_2 rfl (Nat.le_of_ble_eq_true rfl) rfl ?_
  refine zr_iload_n (pc := 5) S dX12_pour_5 rfl ?_
  refine zr_invS (pc := 6) S [zI _] (m_X12_isTray _) kX12_pour_370 dX12_pour_6 (Nat.le_of_ble_eq_true rfl) ⟨Nat.le_of_ble_eq_true rfl, Nat.le_of_ble_eq_true rfl⟩ (us_X12_isTray ?_)
  dsimp only [zaft, Option.toList, List.cons_append, List.nil_append, Nat.add_zero]
  refine zr_if_eq (pc := 9) (tgt := 20) S dX12_pour_9 (by decide) (fun c9 => ?_) (fun c9 => ?_)
  · rw [b01_0] at c9
    have f := hT (fun z => c9 z.1)
    refine zr_aload_n (pc := 20) S dX12_pour_20 rfl ?_
    refine zr_iconst (pc := 21) S dX12_pour_21 (by unfold zrI; omega) ?_
    refine zr_invV (pc := 22) S [zI _] (m_X12_fails _) kX12_pour_95 dX12_pour_22 rfl (Nat.le_of_ble_eq_true rfl) rfl (Nat.le_of_ble_eq_true rfl) ⟨Nat.le_of_ble_eq_true rfl, Nat.le_of_ble_eq_true rfl⟩ (us_X12_fails ?_)
    dsimp only [zaft, Option.toList, List.cons_append, List.nil_append, Nat.add_zero]
    exact zr_iret (pc := 25) S dX12_pour_25 rfl ⟨Nat.le_refl _, Nat.le_refl _⟩ (f)
  · rw [b01_0, Classical.not_not] at c9
    refine zr_aload_n (pc := 12) S dX12_pour_12 rfl ?_
    refine zr_iload_n (pc := 13) S dX12_pour_13 rfl ?_
    refine zr_invV (pc := 14) S [zI _] (m_X12_isSort _) kX12_pour_99 dX12_pour_14 rfl (Nat.le_of_ble_eq_true rfl) rfl (Nat.le_of_ble_eq_true rfl) ⟨Nat.le_of_ble_eq_true rfl, Nat.le_of_ble_eq_true rfl⟩ (us_X12_isSort h0.1 ?_)
    dsimp only [zaft, Option.toList, List.cons_append, List.nil_append, Nat.add_zero]
    refine zr_if_ne (pc := 17) (tgt := 26) S dX12_pour_17 (by decide) (fun c17 => ?_) (fun c17 => ?_)
    · rw [b01_0, Classical.not_not] at c17
      have c17' : 0 ≤ u ∧ u ≤ M 181 0 - 1 := c17
      refine zr_aload_n (pc := 26) S dX12_pour_26 rfl ?_
      refine zr_getR (pc := 27) S fX12_pour_71 dX12_pour_27 rfl (Nat.le_of_ble_eq_true rfl) rfl ?_
      try simp only [zup_k, zup_e, ne_eq, Nat.reduceEqDiff, not_false_eq_true, zup_j]
      refine zr_iload_n (pc := 30) S dX12_pour_30 rfl ?_
      refine zr_iaload (pc := 31) S dX12_pour_31 rfl (Nat.le_of_ble_eq_true rfl) (by omega) (by omega) ?_
      try simp only [zup_k, zup_e, ne_eq, Nat.reduceEqDiff, not_false_eq_true]
      refine zr_iconst (pc := 32) S dX12_pour_32 (by unfold zrI; omega) ?_
      refine zr_icmp_ne (pc := 33) (tgt := 42) S dX12_pour_33 (by decide) (fun c33 => ?_) (fun c33 => ?_)
      · refine zr_iconst (pc := 42) S dX12_pour_42 (by unfold zrI; omega) ?_
        refine zr_istore_n (pc := 43) S 3 dX12_pour_43 rfl (by decide) ?_
        dsimp only [zst1, zst2, zset, zget, zlong]
        exact key c9 (by omega) c33
      · have f := hU c9 (by omega) c33
        refine zr_aload_n (pc := 36) S dX12_pour_36 rfl ?_
        refine zr_iconst (pc := 37) S dX12_pour_37 (by unfold zrI; omega) ?_
        refine zr_invV (pc := 38) S [zI _] (m_X12_fails _) kX12_pour_95 dX12_pour_38 rfl (Nat.le_of_ble_eq_true rfl) rfl (Nat.le_of_ble_eq_true rfl) ⟨Nat.le_of_ble_eq_true rfl, Nat.le_of_ble_eq_true rfl⟩ (us_X12_fails ?_)
        dsimp only [zaft, Option.toList, List.cons_append, List.nil_append, Nat.add_zero]
        exact zr_iret (pc := 41) S dX12_pour_41 rfl ⟨Nat.le_refl _, Nat.le_refl _⟩ (f)
    · rw [b01_0] at c17
      have f := hT (fun z => c17 (by show _ ∧ _ ≤ M 181 0 - 1; omega))
      refine zr_aload_n (pc := 20) S dX12_pour_20 rfl ?_
      refine zr_iconst (pc := 21) S dX12_pour_21 (by unfold zrI; omega) ?_
      refine zr_invV (pc := 22) S [zI _] (m_X12_fails _) kX12_pour_95 dX12_pour_22 rfl (Nat.le_of_ble_eq_true rfl) rfl (Nat.le_of_ble_eq_true rfl) ⟨Nat.le_of_ble_eq_true rfl, Nat.le_of_ble_eq_true rfl⟩ (us_X12_fails ?_)
      dsimp only [zaft, Option.toList, List.cons_append, List.nil_append, Nat.add_zero]
      exact zr_iret (pc := 25) S dX12_pour_25 rfl ⟨Nat.le_refl _, Nat.le_refl _⟩ (f)
def rmX12_heard : Room := { frames := 1, cells := 0, slots := 0, locals := 21 }
abbrev wzX12_heard : List Cond := .code yX12_heard cX12_heard 2 (some .int) :: zW
def rmX12_lowOf : Room := { frames := 0, cells := 0, slots := 0, locals := 0 }
abbrev wzX12_lowOf : List Cond := .code yX12_lowOf cX12_lowOf 2 (some .int) :: zW
def rmX12_highOf : Room := { frames := 0, cells := 0, slots := 0, locals := 0 }
abbrev wzX12_highOf : List Cond := .code yX12_highOf cX12_highOf 2 (some .int) :: zW
def rmX12_takenOf : Room := { frames := 4, cells := 0, slots := 0, locals := 89 }
abbrev wzX12_takenOf : List Cond := .code yX12_takenOf cX12_takenOf 8 (some .int) :: zW
def rmX12_taken : Room := { frames := 5, cells := 0, slots := 0, locals := 116 }
abbrev wzX12_taken : List Cond := .code yX12_taken cX12_taken 4 (some .int) :: zW
def rmX12_moves : Room := { frames := 1, cells := 0, slots := 0, locals := 21 }
abbrev wzX12_moves : List Cond := .code yX12_moves cX12_moves 4 none :: zW
def rmX12_moveFault : Room := { frames := 3, cells := 0, slots := 0, locals := 68 }
abbrev wzX12_moveFault : List Cond := .code yX12_moveFault cX12_moveFault 4 (some .int) :: zW
def rmX12_move : Room := { frames := 4, cells := 0, slots := 0, locals := 91 }
abbrev wzX12_move : List Cond := .code yX12_move cX12_move 4 (some .boolean) :: zW
def rmX12_put : Room := { frames := 5, cells := 0, slots := 0, locals := 116 }
abbrev wzX12_put : List Cond := .code yX12_put cX12_put 8 (some .int) :: zW
theorem fX12_heard_9 : zfl wzX12_heard RX12 vwCl 9 12 0 := ⟨_, _, _, rfl, (fun w h => List.mem_cons_of_mem _ (zWuX12 w h)), by decide, List.mem_cons_of_mem _ (zWi_9 _ (List.mem_of_getElem? (i := 39) rfl))⟩
theorem kX12_heard_228 : zml_mmin wzX12_heard RX12 228 := ⟨List.mem_cons_of_mem _ (zWi_22 _ (List.mem_of_getElem? (i := 36) rfl)), List.mem_cons_of_mem _ (zWi_30 _ (List.mem_of_getElem? (i := 3) rfl)), List.mem_cons_of_mem _ (zWi_12 _ (List.mem_of_getElem? (i := 0) rfl)), List.mem_cons_of_mem _ (zWi_0 _ (List.mem_of_getElem? (i := 28) rfl))⟩
theorem kX12_heard_123 : zml_mmax wzX12_heard RX12 123 := ⟨List.mem_cons_of_mem _ (zWi_22 _ (List.mem_of_getElem? (i := 20) rfl)), List.mem_cons_of_mem _ (zWi_30 _ (List.mem_of_getElem? (i := 2) rfl)), List.mem_cons_of_mem _ (zWi_12 _ (List.mem_of_getElem? (i := 0) rfl)), List.mem_cons_of_mem _ (zWi_0 _ (List.mem_of_getElem? (i := 27) rfl))⟩
theorem fX12_lowOf_30 : zfl wzX12_lowOf RX12 vwCl 30 12 16 := ⟨_, _, _, rfl, (fun w h => List.mem_cons_of_mem _ (zWuX12 w h)), by decide, List.mem_cons_of_mem _ (zWi_9 _ (List.mem_of_getElem? (i := 21) rfl))⟩
theorem fX12_lowOf_231 : zfl wzX12_lowOf RX12 vwCl 231 12 17 := ⟨_, _, _, rfl, (fun w h => List.mem_cons_of_mem _ (zWuX12 w h)), by decide, List.mem_cons_of_mem _ (zWi_9 _ (List.mem_of_getElem? (i := 18) rfl))⟩
theorem fX12_lowOf_9 : zfl wzX12_lowOf RX12 vwCl 9 12 0 := ⟨_, _, _, rfl, (fun w h => List.mem_cons_of_mem _ (zWuX12 w h)), by decide, List.mem_cons_of_mem _ (zWi_9 _ (List.mem_of_getElem? (i := 39) rfl))⟩
theorem fX12_highOf_30 : zfl wzX12_highOf RX12 vwCl 30 12 16 := ⟨_, _, _, rfl, (fun w h => List.mem_cons_of_mem _ (zWuX12 w h)), by decide, List.mem_cons_of_mem _ (zWi_9 _ (List.mem_of_getElem? (i := 21) rfl))⟩
theorem fX12_highOf_234 : zfl wzX12_highOf RX12 vwCl 234 12 18 := ⟨_, _, _, rfl, (fun w h => List.mem_cons_of_mem _ (zWuX12 w h)), by decide, List.mem_cons_of_mem _ (zWi_9 _ (List.mem_of_getElem? (i := 19) rfl))⟩
theorem fX12_highOf_9 : zfl wzX12_highOf RX12 vwCl 9 12 0 := ⟨_, _, _, rfl, (fun w h => List.mem_cons_of_mem _ (zWuX12 w h)), by decide, List.mem_cons_of_mem _ (zWi_9 _ (List.mem_of_getElem? (i := 39) rfl))⟩
theorem fX12_takenOf_9 : zfl wzX12_takenOf RX12 vwCl 9 12 0 := ⟨_, _, _, rfl, (fun w h => List.mem_cons_of_mem _ (zWuX12 w h)), by decide, List.mem_cons_of_mem _ (zWi_9 _ (List.mem_of_getElem? (i := 39) rfl))⟩
theorem kX12_takenOf_237 : ∀ (s9 : State) (a9 : Array Value), (∀ w ∈ wzX12_takenOf, w.before a9 s9 = true) → CallW rmX12_takenOf s9 a9 RX12 RX12 237 yX12_heard cX12_heard 2 (some .int) wzX12_heard rmX12_heard 0 0 1 := zcV (zWi_22 _ (List.mem_of_getElem? (i := 37) rfl)) (zWi_14 _ (List.mem_of_getElem? (i := 21) rfl)) (zWi_27 _ (List.mem_of_getElem? (i := 13) rfl)) (zWi_12 _ (List.mem_of_getElem? (i := 13) rfl)) (zWi_3 _ (List.mem_of_getElem? (i := 0) rfl)) (by decide +kernel) rfl rfl ⟨Nat.le_of_ble_eq_true rfl, Nat.le_of_ble_eq_true rfl⟩
theorem kX12_takenOf_248 : ∀ (s9 : State) (a9 : Array Value), (∀ w ∈ wzX12_takenOf, w.before a9 s9 = true) → CallW rmX12_takenOf s9 a9 RX12 RX12 248 yX12_lowOf cX12_lowOf 2 (some .int) wzX12_lowOf rmX12_lowOf 0 0 1 := zcV (zWi_22 _ (List.mem_of_getElem? (i := 40) rfl)) (zWi_14 _ (List.mem_of_getElem? (i := 38) rfl)) (zWi_27 _ (List.mem_of_getElem? (i := 29) rfl)) (zWi_12 _ (List.mem_of_getElem? (i := 13) rfl)) (zWi_3 _ (List.mem_of_getElem? (i := 20) rfl)) (by decide +kernel) rfl rfl ⟨Nat.le_of_ble_eq_true rfl, Nat.le_of_ble_eq_true rfl⟩
theorem kX12_takenOf_251 : ∀ (s9 : State) (a9 : Array Value), (∀ w ∈ wzX12_takenOf, w.before a9 s9 = true) → CallW rmX12_takenOf s9 a9 RX12 RX12 251 yX12_highOf cX12_highOf 2 (some .int) wzX12_highOf rmX12_highOf 0 0 1 := zcV (zWi_22 _ (List.mem_of_getElem? (i := 41) rfl)) (zWi_14 _ (List.mem_of_getElem? (i := 22) rfl)) (zWi_27 _ (List.mem_of_getElem? (i := 14) rfl)) (zWi_12 _ (List.mem_of_getElem? (i := 13) rfl)) (zWi_3 _ (List.mem_of_getElem? (i := 1) rfl)) (by decide +kernel) rfl rfl ⟨Nat.le_of_ble_eq_true rfl, Nat.le_of_ble_eq_true rfl⟩
theorem kX12_takenOf_83 : ∀ (s9 : State) (a9 : Array Value), (∀ w ∈ wzX12_takenOf, w.before a9 s9 = true) → CallB rmX12_takenOf s9 a9 RX12 83 yX12_within cX12_within 6 (some .boolean) wzX12_within rmX12_within 0 0 3 ∧ (Cond.static yX12_within).before a9 s9 = true := zcS (zWi_23 _ (List.mem_of_getElem? (i := 24) rfl)) (zWi_31 _ (List.mem_of_getElem? (i := 13) rfl)) (zWi_12 _ (List.mem_of_getElem? (i := 13) rfl)) (zWi_4 _ (List.mem_of_getElem? (i := 16) rfl)) (by decide +kernel) rfl rfl ⟨Nat.le_of_ble_eq_true rfl, Nat.le_of_ble_eq_true rfl⟩
theorem kX12_takenOf_120 : ∀ (s9 : State) (a9 : Array Value), (∀ w ∈ wzX12_takenOf, w.before a9 s9 = true) → CallW rmX12_takenOf s9 a9 RX12 RX12 120 yX12_isGood cX12_isGood 2 (some .boolean) wzX12_isGood rmX12_isGood 0 0 1 := zcV (zWi_22 _ (List.mem_of_getElem? (i := 19) rfl)) (zWi_14 _ (List.mem_of_getElem? (i := 28) rfl)) (zWi_27 _ (List.mem_of_getElem? (i := 19) rfl)) (zWi_12 _ (List.mem_of_getElem? (i := 13) rfl)) (zWi_3 _ (List.mem_of_getElem? (i := 8) rfl)) (by decide +kernel) rfl rfl ⟨Nat.le_of_ble_eq_true rfl, Nat.le_of_ble_eq_true rfl⟩
theorem pX12_taken_80 : zfp wzX12_taken RX12 vwCl 80 12 3 := ⟨_, _, _, _, rfl, (fun w h => List.mem_cons_of_mem _ (zWuX12 w h)), by decide, List.mem_cons_of_mem _ (zWi_9 _ (List.mem_of_getElem? (i := 38) rfl)), tyX12_ok, nmX12, rfl, by decide +kernel⟩
theorem kX12_taken_83 : ∀ (s9 : State) (a9 : Array Value), (∀ w ∈ wzX12_taken, w.before a9 s9 = true) → CallB rmX12_taken s9 a9 RX12 83 yX12_within cX12_within 6 (some .boolean) wzX12_within rmX12_within 0 0 3 ∧ (Cond.static yX12_within).before a9 s9 = true := zcS (zWi_23 _ (List.mem_of_getElem? (i := 24) rfl)) (zWi_31 _ (List.mem_of_getElem? (i := 13) rfl)) (zWi_12 _ (List.mem_of_getElem? (i := 13) rfl)) (zWi_4 _ (List.mem_of_getElem? (i := 16) rfl)) (by decide +kernel) rfl rfl ⟨Nat.le_of_ble_eq_true rfl, Nat.le_of_ble_eq_true rfl⟩
theorem kX12_taken_258 : ∀ (s9 : State) (a9 : Array Value), (∀ w ∈ wzX12_taken, w.before a9 s9 = true) → CallW rmX12_taken s9 a9 RX12 RX12 258 yX12_takenOf cX12_takenOf 8 (some .int) wzX12_takenOf rmX12_takenOf 0 0 3 := zcV (zWi_22 _ (List.mem_of_getElem? (i := 43) rfl)) (zWi_15 _ (List.mem_of_getElem? (i := 23) rfl)) (zWi_28 _ (List.mem_of_getElem? (i := 14) rfl)) (zWi_12 _ (List.mem_of_getElem? (i := 13) rfl)) (zWi_4 _ (List.mem_of_getElem? (i := 5) rfl)) (by decide +kernel) rfl rfl ⟨Nat.le_of_ble_eq_true rfl, Nat.le_of_ble_eq_true rfl⟩
theorem kX12_taken_95 : ∀ (s9 : State) (a9 : Array Value), (∀ w ∈ wzX12_taken, w.before a9 s9 = true) → CallW rmX12_taken s9 a9 RX12 RX12 95 yX12_fails cX12_fails 2 (some .int) wzX12_fails rmX12_fails 0 0 1 := zcV (zWi_23 _ (List.mem_of_getElem? (i := 26) rfl)) (zWi_14 _ (List.mem_of_getElem? (i := 10) rfl)) (zWi_27 _ (List.mem_of_getElem? (i := 2) rfl)) (zWi_12 _ (List.mem_of_getElem? (i := 13) rfl)) (zWi_2 _ (List.mem_of_getElem? (i := 39) rfl)) (by decide +kernel) rfl rfl ⟨Nat.le_of_ble_eq_true rfl, Nat.le_of_ble_eq_true rfl⟩
theorem pX12_moves_30 : zfp wzX12_moves RX12 vwCl 30 12 16 := ⟨_, _, _, _, rfl, (fun w h => List.mem_cons_of_mem _ (zWuX12 w h)), by decide, List.mem_cons_of_mem _ (zWi_9 _ (List.mem_of_getElem? (i := 21) rfl)), tyX12_ok, nmX12, rfl, by decide +kernel⟩
theorem fX12_moves_9 : zfl wzX12_moves RX12 vwCl 9 12 0 := ⟨_, _, _, rfl, (fun w h => List.mem_cons_of_mem _ (zWuX12 w h)), by decide, List.mem_cons_of_mem _ (zWi_9 _ (List.mem_of_getElem? (i := 39) rfl))⟩
theorem pX12_moves_231 : zfp wzX12_moves RX12 vwCl 231 12 17 := ⟨_, _, _, _, rfl, (fun w h => List.mem_cons_of_mem _ (zWuX12 w h)), by decide, List.mem_cons_of_mem _ (zWi_9 _ (List.mem_of_getElem? (i := 18) rfl)), tyX12_ok, nmX12, rfl, by decide +kernel⟩
theorem pX12_moves_234 : zfp wzX12_moves RX12 vwCl 234 12 18 := ⟨_, _, _, _, rfl, (fun w h => List.mem_cons_of_mem _ (zWuX12 w h)), by decide, List.mem_cons_of_mem _ (zWi_9 _ (List.mem_of_getElem? (i := 19) rfl)), tyX12_ok, nmX12, rfl, by decide +kernel⟩
theorem kX12_moves_228 : zml_mmin wzX12_moves RX12 228 := ⟨List.mem_cons_of_mem _ (zWi_22 _ (List.mem_of_getElem? (i := 36) rfl)), List.mem_cons_of_mem _ (zWi_30 _ (List.mem_of_getElem? (i := 3) rfl)), List.mem_cons_of_mem _ (zWi_12 _ (List.mem_of_getElem? (i := 0) rfl)), List.mem_cons_of_mem _ (zWi_0 _ (List.mem_of_getElem? (i := 28) rfl))⟩
theorem kX12_moves_123 : zml_mmax wzX12_moves RX12 123 := ⟨List.mem_cons_of_mem _ (zWi_22 _ (List.mem_of_getElem? (i := 20) rfl)), List.mem_cons_of_mem _ (zWi_30 _ (List.mem_of_getElem? (i := 2) rfl)), List.mem_cons_of_mem _ (zWi_12 _ (List.mem_of_getElem? (i := 0) rfl)), List.mem_cons_of_mem _ (zWi_0 _ (List.mem_of_getElem? (i := 27) rfl))⟩
theorem kX12_moveFault_225 : ∀ (s9 : State) (a9 : Array Value), (∀ w ∈ wzX12_moveFault, w.before a9 s9 = true) → CallW rmX12_moveFault s9 a9 RX12 RX12 225 yX12_isGate cX12_isGate 2 (some .boolean) wzX12_isGate rmX12_isGate 0 0 1 := zcV (zWi_22 _ (List.mem_of_getElem? (i := 35) rfl)) (zWi_14 _ (List.mem_of_getElem? (i := 27) rfl)) (zWi_27 _ (List.mem_of_getElem? (i := 18) rfl)) (zWi_12 _ (List.mem_of_getElem? (i := 13) rfl)) (zWi_3 _ (List.mem_of_getElem? (i := 7) rfl)) (by decide +kernel) rfl rfl ⟨Nat.le_of_ble_eq_true rfl, Nat.le_of_ble_eq_true rfl⟩
theorem kX12_moveFault_83 : ∀ (s9 : State) (a9 : Array Value), (∀ w ∈ wzX12_moveFault, w.before a9 s9 = true) → CallB rmX12_moveFault s9 a9 RX12 83 yX12_within cX12_within 6 (some .boolean) wzX12_within rmX12_within 0 0 3 ∧ (Cond.static yX12_within).before a9 s9 = true := zcS (zWi_23 _ (List.mem_of_getElem? (i := 24) rfl)) (zWi_31 _ (List.mem_of_getElem? (i := 13) rfl)) (zWi_12 _ (List.mem_of_getElem? (i := 13) rfl)) (zWi_4 _ (List.mem_of_getElem? (i := 16) rfl)) (by decide +kernel) rfl rfl ⟨Nat.le_of_ble_eq_true rfl, Nat.le_of_ble_eq_true rfl⟩
theorem pX12_move_80 : zfp wzX12_move RX12 vwCl 80 12 3 := ⟨_, _, _, _, rfl, (fun w h => List.mem_cons_of_mem _ (zWuX12 w h)), by decide, List.mem_cons_of_mem _ (zWi_9 _ (List.mem_of_getElem? (i := 38) rfl)), tyX12_ok, nmX12, rfl, by decide +kernel⟩
theorem fX12_move_80 : zfl wzX12_move RX12 vwCl 80 12 3 := ⟨_, _, _, rfl, (fun w h => List.mem_cons_of_mem _ (zWuX12 w h)), by decide, List.mem_cons_of_mem _ (zWi_9 _ (List.mem_of_getElem? (i := 38) rfl))⟩
theorem pX12_move_30 : zfp wzX12_move RX12 vwCl 30 12 16 := ⟨_, _, _, _, rfl, (fun w h => List.mem_cons_of_mem _ (zWuX12 w h)), by decide, List.mem_cons_of_mem _ (zWi_9 _ (List.mem_of_getElem? (i := 21) rfl)), tyX12_ok, nmX12, rfl, by decide +kernel⟩
theorem fX12_move_231 : zfl wzX12_move RX12 vwCl 231 12 17 := ⟨_, _, _, rfl, (fun w h => List.mem_cons_of_mem _ (zWuX12 w h)), by decide, List.mem_cons_of_mem _ (zWi_9 _ (List.mem_of_getElem? (i := 18) rfl))⟩
theorem fX12_move_234 : zfl wzX12_move RX12 vwCl 234 12 18 := ⟨_, _, _, rfl, (fun w h => List.mem_cons_of_mem _ (zWuX12 w h)), by decide, List.mem_cons_of_mem _ (zWi_9 _ (List.mem_of_getElem? (i := 19) rfl))⟩
theorem fX12_move_9 : zfl wzX12_move RX12 vwCl 9 12 0 := ⟨_, _, _, rfl, (fun w h => List.mem_cons_of_mem _ (zWuX12 w h)), by decide, List.mem_cons_of_mem _ (zWi_9 _ (List.mem_of_getElem? (i := 39) rfl))⟩
theorem kX12_move_278 : ∀ (s9 : State) (a9 : Array Value), (∀ w ∈ wzX12_move, w.before a9 s9 = true) → CallW rmX12_move s9 a9 RX12 RX12 278 yX12_moveFault cX12_moveFault 4 (some .int) wzX12_moveFault rmX12_moveFault 0 0 3 := zcV (zWi_22 _ (List.mem_of_getElem? (i := 48) rfl)) (zWi_14 _ (List.mem_of_getElem? (i := 45) rfl)) (zWi_27 _ (List.mem_of_getElem? (i := 36) rfl)) (zWi_12 _ (List.mem_of_getElem? (i := 13) rfl)) (zWi_3 _ (List.mem_of_getElem? (i := 27) rfl)) (by decide +kernel) rfl rfl ⟨Nat.le_of_ble_eq_true rfl, Nat.le_of_ble_eq_true rfl⟩
theorem kX12_move_272 : ∀ (s9 : State) (a9 : Array Value), (∀ w ∈ wzX12_move, w.before a9 s9 = true) → CallW rmX12_move s9 a9 RX12 RX12 272 yX12_moves cX12_moves 4 none wzX12_moves rmX12_moves 0 0 3 := zcV (zWi_22 _ (List.mem_of_getElem? (i := 47) rfl)) (zWi_14 _ (List.mem_of_getElem? (i := 46) rfl)) (zWi_27 _ (List.mem_of_getElem? (i := 37) rfl)) (zWi_12 _ (List.mem_of_getElem? (i := 13) rfl)) (zWi_3 _ (List.mem_of_getElem? (i := 28) rfl)) (by decide +kernel) rfl rfl ⟨Nat.le_of_ble_eq_true rfl, Nat.le_of_ble_eq_true rfl⟩
theorem pX12_put_80 : zfp wzX12_put RX12 vwCl 80 12 3 := ⟨_, _, _, _, rfl, (fun w h => List.mem_cons_of_mem _ (zWuX12 w h)), by decide, List.mem_cons_of_mem _ (zWi_9 _ (List.mem_of_getElem? (i := 38) rfl)), tyX12_ok, nmX12, rfl, by decide +kernel⟩
theorem fX12_put_9 : zfl wzX12_put RX12 vwCl 9 12 0 := ⟨_, _, _, rfl, (fun w h => List.mem_cons_of_mem _ (zWuX12 w h)), by decide, List.mem_cons_of_mem _ (zWi_9 _ (List.mem_of_getElem? (i := 39) rfl))⟩
theorem kX12_put_99 : ∀ (s9 : State) (a9 : Array Value), (∀ w ∈ wzX12_put, w.before a9 s9 = true) → CallW rmX12_put s9 a9 RX12 RX12 99 yX12_isSort cX12_isSort 2 (some .boolean) wzX12_isSort rmX12_isSort 0 0 1 := zcV (zWi_23 _ (List.mem_of_getElem? (i := 27) rfl)) (zWi_14 _ (List.mem_of_getElem? (i := 30) rfl)) (zWi_27 _ (List.mem_of_getElem? (i := 21) rfl)) (zWi_12 _ (List.mem_of_getElem? (i := 13) rfl)) (zWi_3 _ (List.mem_of_getElem? (i := 11) rfl)) (by decide +kernel) rfl rfl ⟨Nat.le_of_ble_eq_true rfl, Nat.le_of_ble_eq_true rfl⟩
theorem kX12_put_95 : ∀ (s9 : State) (a9 : Array Value), (∀ w ∈ wzX12_put, w.before a9 s9 = true) → CallW rmX12_put s9 a9 RX12 RX12 95 yX12_fails cX12_fails 2 (some .int) wzX12_fails rmX12_fails 0 0 1 := zcV (zWi_23 _ (List.mem_of_getElem? (i := 26) rfl)) (zWi_14 _ (List.mem_of_getElem? (i := 10) rfl)) (zWi_27 _ (List.mem_of_getElem? (i := 2) rfl)) (zWi_12 _ (List.mem_of_getElem? (i := 13) rfl)) (zWi_2 _ (List.mem_of_getElem? (i := 39) rfl)) (by decide +kernel) rfl rfl ⟨Nat.le_of_ble_eq_true rfl, Nat.le_of_ble_eq_true rfl⟩
theorem kX12_put_83 : ∀ (s9 : State) (a9 : Array Value), (∀ w ∈ wzX12_put, w.before a9 s9 = true) → CallB rmX12_put s9 a9 RX12 83 yX12_within cX12_within 6 (some .boolean) wzX12_within rmX12_within 0 0 3 ∧ (Cond.static yX12_within).before a9 s9 = true := zcS (zWi_23 _ (List.mem_of_getElem? (i := 24) rfl)) (zWi_31 _ (List.mem_of_getElem? (i := 13) rfl)) (zWi_12 _ (List.mem_of_getElem? (i := 13) rfl)) (zWi_4 _ (List.mem_of_getElem? (i := 16) rfl)) (by decide +kernel) rfl rfl ⟨Nat.le_of_ble_eq_true rfl, Nat.le_of_ble_eq_true rfl⟩
theorem kX12_put_308 : ∀ (s9 : State) (a9 : Array Value), (∀ w ∈ wzX12_put, w.before a9 s9 = true) → CallW rmX12_put s9 a9 RX12 RX12 308 yX12_isCoin cX12_isCoin 5 (some .boolean) wzX12_isCoin rmX12_isCoin 0 0 4 := zcV (zWi_23 _ (List.mem_of_getElem? (i := 6) rfl)) (zWi_14 _ (List.mem_of_getElem? (i := 26) rfl)) (zWi_27 _ (List.mem_of_getElem? (i := 17) rfl)) (zWi_12 _ (List.mem_of_getElem? (i := 13) rfl)) (zWi_3 _ (List.mem_of_getElem? (i := 5) rfl)) (by decide +kernel) rfl rfl ⟨Nat.le_of_ble_eq_true rfl, Nat.le_of_ble_eq_true rfl⟩
theorem kX12_put_258 : ∀ (s9 : State) (a9 : Array Value), (∀ w ∈ wzX12_put, w.before a9 s9 = true) → CallW rmX12_put s9 a9 RX12 RX12 258 yX12_takenOf cX12_takenOf 8 (some .int) wzX12_takenOf rmX12_takenOf 0 0 3 := zcV (zWi_22 _ (List.mem_of_getElem? (i := 43) rfl)) (zWi_15 _ (List.mem_of_getElem? (i := 23) rfl)) (zWi_28 _ (List.mem_of_getElem? (i := 14) rfl)) (zWi_12 _ (List.mem_of_getElem? (i := 13) rfl)) (zWi_4 _ (List.mem_of_getElem? (i := 5) rfl)) (by decide +kernel) rfl rfl ⟨Nat.le_of_ble_eq_true rfl, Nat.le_of_ble_eq_true rfl⟩
theorem kX12_put_117 : ∀ (s9 : State) (a9 : Array Value), (∀ w ∈ wzX12_put, w.before a9 s9 = true) → CallW rmX12_put s9 a9 RX12 RX12 117 yX12_of cX12_of 3 (some .int) wzX12_of rmX12_of 0 0 2 := zcV (zWi_22 _ (List.mem_of_getElem? (i := 18) rfl)) (zWi_15 _ (List.mem_of_getElem? (i := 0) rfl)) (zWi_27 _ (List.mem_of_getElem? (i := 41) rfl)) (zWi_12 _ (List.mem_of_getElem? (i := 13) rfl)) (zWi_3 _ (List.mem_of_getElem? (i := 32) rfl)) (by decide +kernel) rfl rfl ⟨Nat.le_of_ble_eq_true rfl, Nat.le_of_ble_eq_true rfl⟩
/-- the reference's state with its moved gate -/
def vv (M : zM) : zM := if M 180 16 = -1 then vm M else zup (zup (vm M) 13 (M 180 16).toNat (M 180 17)) 14 (M 180 16).toNat (M 180 18)
theorem vv_o {M : zM} {k : Nat} (h : k ≠ 13 ∧ k ≠ 14) : vv M k = vm M k := by
  unfold vv
  split
  · rfl
  · rw [zup_o k h.2, zup_o k h.1]
def heardR (M : zM) (r : Int) : Int := max 0 (min 99 (r + M 3 2))
def sp_X12_heard (as : List zV) (M : zM) (Q : Option zV → zM → Prop) : Prop := ∃ (r : Int), as = [zR 180, zI r] ∧ (-1000 ≤ r ∧ r ≤ 1000) ∧ (ICs (vm M)) ∧ (Q (some (zI (heardR (vm M) r))) M)
theorem us_X12_heard {r : Int} {M : zM} {Q : Option zV → zM → Prop} (hr : -1000 ≤ r ∧ r ≤ 1000) (hs : ICs (vm M)) (hQ : Q (some (zI (heardR (vm M) r))) M) : sp_X12_heard [zR 180, zI r] M Q := ⟨r, rfl, hr, hs, hQ⟩
set_option maxRecDepth 20000 in
set_option maxHeartbeats 4000000 in
theorem m_X12_heard (l : Launch) : zC l yX12_heard wzX12_heard rmX12_heard sp_X12_heard := by
  refine zMet.of RX12 (by decide +kernel) rfl rfl ?_
  intro E X as M Qp hX S hsp
  obtain ⟨r, rfl, hr, hs, hQ⟩ := hsp
  refine ⟨Nat.le_of_ble_eq_true rfl, ?_⟩
  dsimp only [zpad, zargs]
  have w := hs.2.1
  have e : M 181 9 = vm M 3 2 := rfl
  refine zr_iconst (pc := 0) S dX12_heard_0 (by unfold zrI; omega) ?_
  refine zr_bipush (pc := 1) S dX12_heard_1 ⟨by unfold zrI; omega, by decide⟩ ?_
  refine zr_iload_n (pc := 3) S dX12_heard_3 rfl ?_
  refine zr_aload_n (pc := 4) S dX12_heard_4 rfl ?_
  refine zr_getR (pc := 5) S fX12_heard_9 dX12_heard_5 rfl (Nat.le_of_ble_eq_true rfl) rfl ?_
  refine zr_bipush (pc := 8) S dX12_heard_8 ⟨by unfold zrI; omega, by decide⟩ ?_
  refine zr_iaload (pc := 10) S dX12_heard_10 rfl (Nat.le_of_ble_eq_true rfl) (by omega) (by omega) ?_
  dsimp only [Int.reduceToNat]
  rw [e]
  refine zr_iadd (pc := 11) S dX12_heard_11 (by unfold zrI; omega) ?_
  refine zr_mmin (pc := 12) S kX12_heard_228 dX12_heard_12 (Nat.le_of_ble_eq_true rfl) (Nat.le_of_ble_eq_true rfl) ⟨Nat.le_of_ble_eq_true rfl, Nat.le_of_ble_eq_true rfl⟩ ?_
  refine zr_mmax (pc := 15) S kX12_heard_123 dX12_heard_15 (Nat.le_of_ble_eq_true rfl) (Nat.le_of_ble_eq_true rfl) ⟨Nat.le_of_ble_eq_true rfl, Nat.le_of_ble_eq_true rfl⟩ ?_
  exact zr_iret (pc := 18) S dX12_heard_18 rfl ⟨Nat.le_refl _, Nat.le_refl _⟩ (hQ)
theorem vm_gate {M : zM} {g : Nat} (h : (g : Int) < M 181 1) : vm M 12 g = M 181 (103 + 7 * g) ∧ vm M 13 g = M 181 (104 + 7 * g) ∧ vm M 14 g = M 181 (105 + 7 * g) ∧ vm M 15 g = gcode (M 181 (106 + 7 * g)) (M 181 (107 + 7 * g)) ∧ vm M 16 g = gcode (M 181 (108 + 7 * g)) (M 181 (109 + 7 * g)) := ⟨if_pos h, if_pos h, if_pos h, if_pos h, if_pos h⟩
def sp_X12_lowOf (as : List zV) (M : zM) (Q : Option zV → zM → Prop) : Prop := ∃ (g : Nat), as = [zR 180, zI g] ∧ (g < 8) ∧ ((g : Int) < M 181 1) ∧ (-1 ≤ M 180 16) ∧ (Q (some (zI (vv M 13 g))) M)
theorem us_X12_lowOf {g : Nat} {M : zM} {Q : Option zV → zM → Prop} (h8 : g < 8) (hg : (g : Int) < M 181 1) (hm : -1 ≤ M 180 16) (hQ : Q (some (zI (vv M 13 g))) M) : sp_X12_lowOf [zR 180, zI g] M Q := ⟨g, rfl, h8, hg, hm, hQ⟩
set_option maxRecDepth 20000 in
set_option maxHeartbeats 4000000 in
theorem m_X12_lowOf (l : Launch) : zC l yX12_lowOf wzX12_lowOf rmX12_lowOf sp_X12_lowOf := by
  refine zMet.of RX12 (by decide +kernel) rfl rfl ?_
  intro E X as M Qp hX S hsp
  obtain ⟨g, rfl, h8, hg, hm, hQ⟩ := hsp
  refine ⟨Nat.le_of_ble_eq_true rfl, ?_⟩
  dsimp only [zpad, zargs]
  have e : ((103 : Int) + 7 * (g : Int) + 1).toNat = 104 + 7 * g := by omega
  have e1 : (g : Int) = M 180 16 → vv M 13 g = M 180 17 := fun z => by
    unfold vv
    rw [if_neg (by omega), zup_k (by decide), ← z, Int.toNat_natCast, zup_e]
  have e2 : ¬ (g : Int) = M 180 16 → vv M 13 g = M 181 (104 + 7 * g) := fun z => by
    unfold vv
    split
    · exact (vm_gate hg).2.1
    · rw [zup_k (by decide), zup_j (by omega)]
      exact (vm_gate hg).2.1
  refine zr_iload_n (pc := 0) S dX12_lowOf_0 rfl ?_
  refine zr_aload_n (pc := 1) S dX12_lowOf_1 rfl ?_
  refine zr_getI (pc := 2) S fX12_lowOf_30 dX12_lowOf_2 rfl (Nat.le_of_ble_eq_true rfl) rfl ?_
  refine zr_icmp_ne (pc := 5) (tgt := 15) S dX12_lowOf_5 (by decide) (fun c5 => ?_) (fun c5 => ?_)
  · rw [e2 c5] at hQ
    refine zr_aload_n (pc := 15) S dX12_lowOf_15 rfl ?_
    refine zr_getR (pc := 16) S fX12_lowOf_9 dX12_lowOf_16 rfl (Nat.le_of_ble_eq_true rfl) rfl ?_
    refine zr_bipush (pc := 19) S dX12_lowOf_19 ⟨by unfold zrI; omega, by decide⟩ ?_
    refine zr_bipush (pc := 21) S dX12_lowOf_21 ⟨by unfold zrI; omega, by decide⟩ ?_
    refine zr_iload_n (pc := 23) S dX12_lowOf_23 rfl ?_
    refine zr_imul (pc := 24) S dX12_lowOf_24 (by unfold zrI; omega) ?_
    refine zr_iadd (pc := 25) S dX12_lowOf_25 (by unfold zrI; omega) ?_
    refine zr_iconst (pc := 26) S dX12_lowOf_26 (by unfold zrI; omega) ?_
    refine zr_iadd (pc := 27) S dX12_lowOf_27 (by unfold zrI; omega) ?_
    refine zr_iaload (pc := 28) S dX12_lowOf_28 rfl (Nat.le_of_ble_eq_true rfl) (by omega) (by omega) ?_
    rw [e]
    exact zr_iret (pc := 29) S dX12_lowOf_29 rfl ⟨Nat.le_refl _, Nat.le_refl _⟩ (hQ)
  · rw [e1 c5] at hQ
    refine zr_aload_n (pc := 8) S dX12_lowOf_8 rfl ?_
    refine zr_getI (pc := 9) S fX12_lowOf_231 dX12_lowOf_9 rfl (Nat.le_of_ble_eq_true rfl) rfl ?_
    refine zr_goto (pc := 12) (tgt := 29) S dX12_lowOf_12 (by decide) ?_
    exact zr_iret (pc := 29) S dX12_lowOf_29 rfl ⟨Nat.le_refl _, Nat.le_refl _⟩ (hQ)
def sp_X12_highOf (as : List zV) (M : zM) (Q : Option zV → zM → Prop) : Prop := ∃ (g : Nat), as = [zR 180, zI g] ∧ (g < 8) ∧ ((g : Int) < M 181 1) ∧ (-1 ≤ M 180 16) ∧ (Q (some (zI (vv M 14 g))) M)
theorem us_X12_highOf {g : Nat} {M : zM} {Q : Option zV → zM → Prop} (h8 : g < 8) (hg : (g : Int) < M 181 1) (hm : -1 ≤ M 180 16) (hQ : Q (some (zI (vv M 14 g))) M) : sp_X12_highOf [zR 180, zI g] M Q := ⟨g, rfl, h8, hg, hm, hQ⟩
set_option maxRecDepth 20000 in
set_option maxHeartbeats 4000000 in
theorem m_X12_highOf (l : Launch) : zC l yX12_highOf wzX12_highOf rmX12_highOf sp_X12_highOf := by
  refine zMet.of RX12 (by decide +kernel) rfl rfl ?_
  intro E X as M Qp hX S hsp
  obtain ⟨g, rfl, h8, hg, hm, hQ⟩ := hsp
  refine ⟨Nat.le_of_ble_eq_true rfl, ?_⟩
  dsimp only [zpad, zargs]
  have e : ((103 : Int) + 7 * (g : Int) + 2).toNat = 105 + 7 * g := by omega
  have e1 : (g : Int) = M 180 16 → vv M 14 g = M 180 18 := fun z => by
    unfold vv
    rw [if_neg (by omega), ← z, Int.toNat_natCast, zup_e]
  have e2 : ¬ (g : Int) = M 180 16 → vv M 14 g = M 181 (105 + 7 * g) := fun z => by
    unfold vv
    split
    · exact (vm_gate hg).2.2.1
    · rw [zup_j (by omega), zup_k (by decide)]
      exact (vm_gate hg).2.2.1
  refine zr_iload_n (pc := 0) S dX12_highOf_0 rfl ?_
  refine zr_aload_n (pc := 1) S dX12_highOf_1 rfl ?_
  refine zr_getI (pc := 2) S fX12_highOf_30 dX12_highOf_2 rfl (Nat.le_of_ble_eq_true rfl) rfl ?_
  refine zr_icmp_ne (pc := 5) (tgt := 15) S dX12_highOf_5 (by decide) (fun c5 => ?_) (fun c5 => ?_)
  · rw [e2 c5] at hQ
    refine zr_aload_n (pc := 15) S dX12_highOf_15 rfl ?_
    refine zr_getR (pc := 16) S fX12_highOf_9 dX12_highOf_16 rfl (Nat.le_of_ble_eq_true rfl) rfl ?_
    refine zr_bipush (pc := 19) S dX12_highOf_19 ⟨by unfold zrI; omega, by decide⟩ ?_
    refine zr_bipush (pc := 21) S dX12_highOf_21 ⟨by unfold zrI; omega, by decide⟩ ?_
    refine zr_iload_n (pc := 23) S dX12_highOf_23 rfl ?_
    refine zr_imul (pc := 24) S dX12_highOf_24 (by unfold zrI; omega) ?_
    refine zr_iadd (pc := 25) S dX12_highOf_25 (by unfold zrI; omega) ?_
    refine zr_iconst (pc := 26) S dX12_highOf_26 (by unfold zrI; omega) ?_
    refine zr_iadd (pc := 27) S dX12_highOf_27 (by unfold zrI; omega) ?_
    refine zr_iaload (pc := 28) S dX12_highOf_28 rfl (Nat.le_of_ble_eq_true rfl) (by omega) (by omega) ?_
    rw [e]
    exact zr_iret (pc := 29) S dX12_highOf_29 rfl ⟨Nat.le_refl _, Nat.le_refl _⟩ (hQ)
  · rw [e1 c5] at hQ
    refine zr_aload_n (pc := 8) S dX12_highOf_8 rfl ?_
    refine zr_getI (pc := 9) S fX12_highOf_234 dX12_highOf_9 rfl (Nat.le_of_ble_eq_true rfl) rfl ?_
    refine zr_goto (pc := 12) (tgt := 29) S dX12_highOf_12 (by decide) ?_
    exact zr_iret (pc := 29) S dX12_highOf_29 rfl ⟨Nat.le_refl _, Nat.le_refl _⟩ (hQ)
end
