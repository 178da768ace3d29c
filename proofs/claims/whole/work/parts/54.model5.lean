section
def ldT (t : Nat → Int) (u s : Nat) : Nat → Nat → Int
  | 0 => t
  | n + 1 => dropT (ldT t u s n) u s
theorem dropT_h {t : Nat → Int} {u s : Nat} (hu : u < 8) (hs : s < 8) (h : 0 ≤ t (159 + 21 * u)) (h2 : t (159 + 21 * u) < 20) : dropT t u s (159 + 21 * u) = t (159 + 21 * u) + 1 ∧ ∀ i, i < 159 ∨ 326 < i → dropT t u s i = t i := by
  unfold dropT
  rw [if_neg (by omega)]
  refine ⟨?_, fun i hi => ?_⟩
  · rw [rUp_o (by omega), rUp_e]
  · rw [rUp_o (by omega), rUp_o (by omega)]
theorem ldT_h {t : Nat → Int} {u s : Nat} (hu : u < 8) (hs : s < 8) (h : 0 ≤ t (159 + 21 * u)) : ∀ n : Nat, t (159 + 21 * u) + n ≤ 20 → ldT t u s n (159 + 21 * u) = t (159 + 21 * u) + n ∧ ∀ i, i < 159 ∨ 326 < i → ldT t u s n i = t i
  | 0, _ => ⟨by simp [ldT], fun i _ => rfl⟩
  | n + 1, hn => by
    have a := ldT_h hu hs h n (by omega)
    have b := dropT_h (t := ldT t u s n) hu hs (by omega) (by omega)
    simp only [ldT]
    exact ⟨by rw [b.1, a.1]; omega, fun i hi => by rw [b.2 i hi, a.2 i hi]⟩
theorem lp_X12_load {E : zE} {X : zX} {Qp : Option zV → zM → Prop} {M : zM} {u s m : Nat} (S : zS (zg E) X cX12_load 5 wzX12_load RX12 (some .int)) (hu : u < 8) (hs : s < 8) (hm : 1 ≤ m ∧ m ≤ 20) (h2 : 0 ≤ M 181 (159 + 21 * u) ∧ M 181 (159 + 21 * u) + m ≤ 20) (h3 : 0 ≤ M 181 (327 + s) ∧ M 181 (327 + s) ≤ 1000000) (h4 : 0 ≤ M 181 (335 + u) ∧ M 181 (335 + u) ≤ 1000000) (hQ : Qp (some (zI (M 181 (159 + 21 * u) + m))) (zrow M 181 (rUp (ldT (M 181) u s m) (335 + u) (M 181 (335 + u) + m)))) : ∀ n i : Nat, n + i = m → zK (zg E) rmX12_load 5 (Qp, 0, 0) X (0, 0) 67 [some (zR 180), some (zI u), some (zI s), some (zI m), some (zI i)] [] (zrow M 181 (ldT (M 181) u s i)) := by
  intro n
  have e0 : ((159 : Int) + 21 * (u : Int)).toNat = 159 + 21 * u := by omega
  have e1 : ((335 : Int) + (u : Int)).toNat = 335 + u := by omega
  induction n with
  | zero =>
    intro i hi
    obtain rfl : i = m := by omega
    have a := ldT_h (t := M 181) (s := s) hu hs h2.1 i h2.2
    have a5 : zrow M 181 (ldT (M 181) u s i) 181 (335 + u) = M 181 (335 + u) := by rw [zrow_e, a.2 _ (by omega)]
    have a6 : rUp (ldT (M 181) u s i) (335 + u) (M 181 (335 + u) + i) (159 + 21 * u) = M 181 (159 + 21 * u) + i := by rw [rUp_o (by omega), a.1]
    refine zr_iload (pc := 67) S dX12_load_67 rfl ?_
    refine zr_iload_n (pc := 69) S dX12_load_69 rfl ?_
    refine zr_icmp_ge (pc := 70) (tgt := 85) S dX12_load_70 (by decide) (fun c70 => ?_) (fun c70 => absurd c70 (by omega))
    refine zr_aload_n (pc := 85) S dX12_load_85 rfl ?_
    refine zr_getR (pc := 86) S fX12_load_9 dX12_load_86 rfl (Nat.le_of_ble_eq_true rfl) rfl ?_
    refine zr_sipush (pc := 89) S dX12_load_89 ⟨by unfold zrI; omega, by decide⟩ ?_
    refine zr_iload_n (pc := 92) S dX12_load_92 rfl ?_
    refine zr_iadd (pc := 93) S dX12_load_93 (by unfold zrI; omega) ?_
    refine zr_dup2 (pc := 94) S dX12_load_94 rfl rfl ?_
    refine zr_iaload (pc := 95) S dX12_load_95 rfl (Nat.le_of_ble_eq_true rfl) (by omega) (by omega) ?_
    rw [e1, a5]
    refine zr_iload_n (pc := 96) S dX12_load_96 rfl ?_
    refine zr_iadd (pc := 97) S dX12_load_97 (by unfold zrI; omega) ?_
    refine zr_iastore (pc := 98) S dX12_load_98 rfl (Nat.le_of_ble_eq_true rfl) (by omega) (by omega) ?_
    rw [e1, zrow_up]
    refine zr_aload_n (pc := 99) S dX12_load_99 rfl ?_
    refine zr_getR (pc := 100) S fX12_load_9 dX12_load_100 rfl (Nat.le_of_ble_eq_true rfl) rfl ?_
    try simp only [zup_k, zup_e, ne_eq, Nat.reduceEqDiff, not_false_eq_true, zup_j]
    refine zr_aload_n (pc := 103) S dX12_load_103 rfl ?_
    refine zr_iload_n (pc := 104) S dX12_load_104 rfl ?_
    refine zr_invV (pc := 105) S [zI _] (m_X12_tubeAt _) kX12_load_293 dX12_load_105 rfl (Nat.le_of_ble_eq_true rfl) rfl (Nat.le_of_ble_eq_true rfl) ⟨Nat.le_of_ble_eq_true rfl, Nat.le_of_ble_eq_true rfl⟩ (us_X12_tubeAt (by omega) (by omega) ?_)
    dsimp only [zaft, Option.toList, List.cons_append, List.nil_append, Nat.add_zero]
    refine zr_iaload (pc := 108) S dX12_load_108 rfl (Nat.le_of_ble_eq_true rfl) (by omega) (by omega) ?_
    try simp only [zup_k, zup_e, ne_eq, Nat.reduceEqDiff, not_false_eq_true]
    rw [e0, zrow_e, a6]
    exact zr_iret (pc := 109) S dX12_load_109 rfl ⟨Nat.le_refl _, Nat.le_refl _⟩ (hQ)
  | succ n ih =>
    intro i hi
    have a := ldT_h (t := M 181) (s := s) hu hs h2.1 i (by omega)
    have k := ih (i + 1) (by omega)
    rw [Int.natCast_add, Int.natCast_one] at k
    have b1 : zrow M 181 (ldT (M 181) u s i) 181 (159 + 21 * u) = M 181 (159 + 21 * u) + i := by rw [zrow_e, a.1]
    have b2 : zrow M 181 (ldT (M 181) u s i) 181 (327 + s) = M 181 (327 + s) := by rw [zrow_e, a.2 _ (by omega)]
    refine zr_iload (pc := 67) S dX12_load_67 rfl ?_
    refine zr_iload_n (pc := 69) S dX12_load_69 rfl ?_
    refine zr_icmp_ge (pc := 70) (tgt := 85) S dX12_load_70 (by decide) (fun c70 => absurd c70 (by omega)) (fun c70 => ?_)
    refine zr_aload_n (pc := 73) S dX12_load_73 rfl ?_
    refine zr_iload_n (pc := 74) S dX12_load_74 rfl ?_
    refine zr_iload_n (pc := 75) S dX12_load_75 rfl ?_
    refine zr_invV (pc := 76) S [zI _, zI _] (m_X12_drops _) kX12_load_298 dX12_load_76 rfl (Nat.le_of_ble_eq_true rfl) rfl (Nat.le_of_ble_eq_true rfl) ⟨Nat.le_of_ble_eq_true rfl, Nat.le_of_ble_eq_true rfl⟩ (us_X12_drops (u := u) (s := s) hu hs (by rw [b1]; omega) (by rw [b2]; omega) ?_)
    dsimp only [zaft, Option.toList, List.cons_append, List.nil_append, Nat.add_zero]
    rw [zrow_e, zrow_r]
    refine zr_iinc (pc := 79) S dX12_load_79 rfl (by unfold zrI; omega) (by decide) ?_
    dsimp only [zst1, zst2, zset, zget, zlong]
    refine zr_goto (pc := 82) (tgt := 67) S dX12_load_82 (by decide) ?_
    exact k
def sp_X12_load (as : List zV) (M : zM) (Q : Option zV → zM → Prop) : Prop := ∃ (u s m : Int), as = [zR 180, zI u, zI s, zI m] ∧ (0 ≤ M 181 0 ∧ M 181 0 ≤ 8) ∧ (∀ i : Nat, i < 8 → (0 ≤ M 181 (159 + 21 * i) ∧ M 181 (159 + 21 * i) ≤ 20) ∧ (0 ≤ M 181 (327 + i) ∧ M 181 (327 + i) ≤ 1000000) ∧ (0 ≤ M 181 (335 + i) ∧ M 181 (335 + i) ≤ 1000000)) ∧ ((0 ≤ u ∧ u < M 181 0) → (0 ≤ s ∧ s < M 181 0) → (1 ≤ m ∧ m ≤ 20) → M 181 (159 + 21 * u.toNat) + m ≤ 20 → Q (some (zI (M 181 (159 + 21 * u.toNat) + m))) (zrow (tz M 0) 181 (rUp (ldT (M 181) u.toNat s.toNat m.toNat) (335 + u.toNat) (M 181 (335 + u.toNat) + m)))) ∧ ((0 ≤ u ∧ u < M 181 0) → (0 ≤ s ∧ s < M 181 0) → (1 ≤ m ∧ m ≤ 20) → ¬ M 181 (159 + 21 * u.toNat) + m ≤ 20 → Q (some (zI (-1))) (tz M 0)) ∧ (¬ ((0 ≤ u ∧ u < M 181 0) ∧ (0 ≤ s ∧ s < M 181 0)) → Q (some (zI 0)) (tz (tz M 0) 1)) ∧ ((0 ≤ u ∧ u < M 181 0) → (0 ≤ s ∧ s < M 181 0) → ¬ (1 ≤ m ∧ m ≤ 20) → Q (some (zI 0)) (tz (tz M 0) 2))
theorem us_X12_load {u s m : Int} {M : zM} {Q : Option zV → zM → Prop} (h0 : 0 ≤ M 181 0 ∧ M 181 0 ≤ 8) (ht : ∀ i : Nat, i < 8 → (0 ≤ M 181 (159 + 21 * i) ∧ M 181 (159 + 21 * i) ≤ 20) ∧ (0 ≤ M 181 (327 + i) ∧ M 181 (327 + i) ≤ 1000000) ∧ (0 ≤ M 181 (335 + i) ∧ M 181 (335 + i) ≤ 1000000)) (hQ : (0 ≤ u ∧ u < M 181 0) → (0 ≤ s ∧ s < M 181 0) → (1 ≤ m ∧ m ≤ 20) → M 181 (159 + 21 * u.toNat) + m ≤ 20 → Q (some (zI (M 181 (159 + 21 * u.toNat) + m))) (zrow (tz M 0) 181 (rUp (ldT (M 181) u.toNat s.toNat m.toNat) (335 + u.toNat) (M 181 (335 + u.toNat) + m)))) (hF : (0 ≤ u ∧ u < M 181 0) → (0 ≤ s ∧ s < M 181 0) → (1 ≤ m ∧ m ≤ 20) → ¬ M 181 (159 + 21 * u.toNat) + m ≤ 20 → Q (some (zI (-1))) (tz M 0)) (hT : ¬ ((0 ≤ u ∧ u < M 181 0) ∧ (0 ≤ s ∧ s < M 181 0)) → Q (some (zI 0)) (tz (tz M 0) 1)) (hU : (0 ≤ u ∧ u < M 181 0) → (0 ≤ s ∧ s < M 181 0) → ¬ (1 ≤ m ∧ m ≤ 20) → Q (some (zI 0)) (tz (tz M 0) 2)) : sp_X12_load [zR 180, zI u, zI s, zI m] M Q := ⟨u, s, m, rfl, h0, ht, hQ, hF, hT, hU⟩
set_option maxRecDepth 20000 in
set_option maxHeartbeats 4000000 in
theorem m_X12_load (l : Launch) : zC l yX12_load wzX12_load rmX12_load sp_X12_load := by
  refine zMet.of RX12 (by decide +kernel) rfl rfl ?_
  intro E X as M Qp hX S hsp
  obtain ⟨u, s, m, rfl, h0, ht, hQ, hF, hT, hU⟩ := hsp
  refine ⟨Nat.le_of_ble_eq_true rfl, ?_⟩
  dsimp only [zpad, zargs]
  have et : tz M 0 181 = M 181 := zup_o _ (by decide)
  have key : (0 ≤ u ∧ u < M 181 0) → (0 ≤ s ∧ s < M 181 0) → (1 ≤ m ∧ m ≤ 20) → zK (zg E) rmX12_load 5 (Qp, 0, 0) X (0, 0) 45 [some (zR 180), some (zI u), some (zI s), some (zI m), none] [] (tz M 0) := by
    intro c1 c2 c3
    have f1 := hQ c1 c2 c3
    have f2 := hF c1 c2 c3
    obtain ⟨u, rfl⟩ : ∃ n : Nat, u = n := ⟨u.toNat, by omega⟩
    obtain ⟨s, rfl⟩ : ∃ n : Nat, s = n := ⟨s.toNat, by omega⟩
    obtain ⟨m, rfl⟩ : ∃ n : Nat, m = n := ⟨m.toNat, by omega⟩
    rw [Int.toNat_natCast, Int.toNat_natCast, Int.toNat_natCast] at f1
    rw [Int.toNat_natCast] at f2
    have e0 : ((159 : Int) + 21 * (u : Int)).toNat = 159 + 21 * u := by omega
    have au := ht u (by omega)
    have as := ht s (by omega)
    refine zr_aload_n (pc := 45) S dX12_load_45 rfl ?_
    refine zr_getR (pc := 46) S fX12_load_9 dX12_load_46 rfl (Nat.le_of_ble_eq_true rfl) rfl ?_
    refine zr_aload_n (pc := 49) S dX12_load_49 rfl ?_
    refine zr_iload_n (pc := 50) S dX12_load_50 rfl ?_
    refine zr_invV (pc := 51) S [zI _] (m_X12_tubeAt _) kX12_load_293 dX12_load_51 rfl (Nat.le_of_ble_eq_true rfl) rfl (Nat.le_of_ble_eq_true rfl) ⟨Nat.le_of_ble_eq_true rfl, Nat.le_of_ble_eq_true rfl⟩ (us_X12_tubeAt (by omega) (by omega) ?_)
    dsimp only [zaft, Option.toList, List.cons_append, List.nil_append, Nat.add_zero]
    refine zr_iaload (pc := 54) S dX12_load_54 rfl (Nat.le_of_ble_eq_true rfl) (by omega) (by omega) ?_
    rw [e0]
    try simp only [zup_k, ne_eq, Nat.reduceEqDiff, not_false_eq_true]
    refine zr_iload_n (pc := 55) S dX12_load_55 rfl ?_
    refine zr_iadd (pc := 56) S dX12_load_56 (by unfold zrI; omega) ?_
    refine zr_bipush (pc := 57) S dX12_load_57 ⟨by unfold zrI; omega, by decide⟩ ?_
    refine zr_icmp_le (pc := 59) (tgt := 64) S dX12_load_59 (by decide) (fun c59 => ?_) (fun c59 => ?_)
    · have g := f1 c59
      refine zr_iconst (pc := 64) S dX12_load_64 (by unfold zrI; omega) ?_
      refine zr_istore (pc := 65) S dX12_load_65 (by decide) ?_
      dsimp only [zst1, zst2, zset, zget, zlong]
      have l := lp_X12_load (E := E) (X := X) (Qp := Qp) (M := tz M 0) (u := u) (s := s) (m := m) S (by omega) (by omega) (by omega) (by rw [et]; omega) (by rw [et]; omega) (by rw [et]; omega) (by rw [et]; exact g) m 0 (by omega)
      have ez : zrow (tz M 0) 181 (ldT (tz M 0 181) u s 0) = tz M 0 := zrow_s
      rw [ez] at l
      exact l
    · have g := f2 (by omega)
      refine zr_iconst (pc := 62) S dX12_load_62 (by unfold zrI; omega) ?_
      exact zr_iret (pc := 63) S dX12_load_63 rfl ⟨Nat.le_refl _, Nat.le_refl _⟩ (g)
  refine zr_aload_n (pc := 0) S dX12_load_0 rfl ?_
  refine zr_iconst (pc := 1) S dX12_load_1 (by unfold zrI; omega) ?_
  refine zr_putI (pc := 2) S pX12_load_80 dX12_load_2 rfl (Nat.le_of_ble_eq_true rfl) rfl ?_
  refine zr_aload_n (pc := 5) S dX12_load_5 rfl ?_
  refine zr_iload_n (pc := 6) S dX12_load_6 rfl ?_
  refine zr_invV (pc := 7) S [zI _] (m_X12_isSort _) kX12_load_99 dX12_load_7 rfl (Nat.le_of_ble_eq_true rfl) rfl (Nat.le_of_ble_eq_true rfl) ⟨Nat.le_of_ble_eq_true rfl, Nat.le_of_ble_eq_true rfl⟩ (us_X12_isSort h0.1 ?_)
  dsimp only [zaft, Option.toList, List.cons_append, List.nil_append, Nat.add_zero]
  refine zr_if_eq (pc := 10) (tgt := 21) S dX12_load_10 (by decide) (fun c10 => ?_) (fun c10 => ?_)
  · rw [b01_0] at c10
    have f := hT (fun z => c10 (by show _ ∧ _ ≤ M 181 0 - 1; omega))
    refine zr_aload_n (pc := 21) S dX12_load_21 rfl ?_
    refine zr_iconst (pc := 22) S dX12_load_22 (by unfold zrI; omega) ?_
    refine zr_invV (pc := 23) S [zI _] (m_X12_fails _) kX12_load_95 dX12_load_23 rfl (Nat.le_of_ble_eq_true rfl) rfl (Nat.le_of_ble_eq_true rfl) ⟨Nat.le_of_ble_eq_true rfl, Nat.le_of_ble_eq_true rfl⟩ (us_X12_fails ?_)
    dsimp only [zaft, Option.toList, List.cons_append, List.nil_append, Nat.add_zero]
    exact zr_iret (pc := 26) S dX12_load_26 rfl ⟨Nat.le_refl _, Nat.le_refl _⟩ (f)
  · rw [b01_0, Classical.not_not] at c10
    have c10' : 0 ≤ u ∧ u ≤ M 181 0 - 1 := c10
    refine zr_aload_n (pc := 13) S dX12_load_13 rfl ?_
    refine zr_iload_n (pc := 14) S dX12_load_14 rfl ?_
    refine zr_invV (pc := 15) S [zI _] (m_X12_isSort _) kX12_load_99 dX12_load_15 rfl (Nat.le_of_ble_eq_true rfl) rfl (Nat.le_of_ble_eq_true rfl) ⟨Nat.le_of_ble_eq_true rfl, Nat.le_of_ble_eq_true rfl⟩ (us_X12_isSort h0.1 ?_)
    dsimp only [zaft, Option.toList, List.cons_append, List.nil_append, Nat.add_zero]
    refine zr_if_ne (pc := 18) (tgt := 27) S dX12_load_18 (by decide) (fun c18 => ?_) (fun c18 => ?_)
    · rw [b01_0, Classical.not_not] at c18
      have c18' : 0 ≤ s ∧ s ≤ M 181 0 - 1 := c18
      refine zr_iload_n (pc := 27) S dX12_load_27 rfl ?_
      refine zr_i2l (pc := 28) S dX12_load_28 ?_
      refine zr_lconst1 (pc := 29) S dX12_load_29 ?_
      refine zr_ldc2 (pc := 30) S (20) dX12_load_30 (List.mem_cons_of_mem _ (zWi_7 _ (List.mem_of_getElem? (i := 28) rfl))) (by unfold zrL; omega) ?_
      refine zr_invS (pc := 33) S [zL _, zL _, zL _] (m_X12_within _) kX12_load_83 dX12_load_33 (Nat.le_of_ble_eq_true rfl) ⟨Nat.le_of_ble_eq_true rfl, Nat.le_of_ble_eq_true rfl⟩ (us_X12_within ?_)
      dsimp only [zaft, Option.toList, List.cons_append, List.nil_append, Nat.add_zero]
      refine zr_if_ne (pc := 36) (tgt := 45) S dX12_load_36 (by decide) (fun c36 => ?_) (fun c36 => ?_)
      · rw [b01_0, Classical.not_not] at c36
        exact key (by omega) (by omega) c36
      · rw [b01_0] at c36
        have f := hU (by omega) (by omega) c36
        refine zr_aload_n (pc := 39) S dX12_load_39 rfl ?_
        refine zr_iconst (pc := 40) S dX12_load_40 (by unfold zrI; omega) ?_
        refine zr_invV (pc := 41) S [zI _] (m_X12_fails _) kX12_load_95 dX12_load_41 rfl (Nat.le_of_ble_eq_true rfl) rfl (Nat.le_of_ble_eq_true rfl) ⟨Nat.le_of_ble_eq_true rfl, Nat.le_of_ble_eq_true rfl⟩ (us_X12_fails ?_)
        dsimp only [zaft, Option.toList, List.cons_append, List.nil_append, Nat.add_zero]
        exact zr_iret (pc := 44) S dX12_load_44 rfl ⟨Nat.le_refl _, Nat.le_refl _⟩ (f)
    · rw [b01_0] at c18
      have f := hT (fun z => c18 (by show _ ∧ _ ≤ M 181 0 - 1; omega))
      refine zr_aload_n (pc := 21) S dX12_load_21 rfl ?_
      refine zr_iconst (pc := 22) S dX12_load_22 (by unfold zrI; omega) ?_
      refine zr_invV (pc := 23) S [zI _] (m_X12_fails _) kX12_load_95 dX12_load_23 rfl (Nat.le_of_ble_eq_true rfl) rfl (Nat.le_of_ble_eq_true rfl) ⟨Nat.le_of_ble_eq_true rfl, Nat.le_of_ble_eq_true rfl⟩ (us_X12_fails ?_)
      dsimp only [zaft, Option.toList, List.cons_append, List.nil_append, Nat.add_zero]
      exact zr_iret (pc := 26) S dX12_load_26 rfl ⟨Nat.le_refl _, Nat.le_refl _⟩ (f)
end
