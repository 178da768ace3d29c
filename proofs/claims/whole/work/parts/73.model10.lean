section
/-- n places of f from a on come from g -/
def cpI (f g : Nat → Int) (a n : Nat) : Nat → Int := fun j => if a ≤ j ∧ j < a + n then g (j - a) else f j
theorem cpI_0 {f g : Nat → Int} {a : Nat} : cpI f g a 0 = f := by
  funext j
  unfold cpI
  rw [if_neg (by omega)]
theorem cpI_s {f g : Nat → Int} {a n : Nat} : rUp (cpI f g a n) (a + n) (g n) = cpI f g a (n + 1) := by
  funext j
  unfold rUp cpI
  by_cases h : j = a + n
  · rw [if_pos h, if_pos (by omega), show j - a = n by omega]
  · rw [if_neg h]
    by_cases h2 : a ≤ j ∧ j < a + n
    · rw [if_pos h2, if_pos (by omega)]
    · rw [if_neg h2, if_neg (by omega)]
theorem lp_X12_image {E : zE} {X : zX} {Qp : Option zV → zM → Prop} {M : zM} {i : Nat} (S : zS (zg E) X cX12_image 3 wzX12_image RX12 none) (hi : i < 3) (hQ : Qp none (zrow M 182 (cpI (M 182) (M 181) (615 * i) 615))) : ∀ n k : Nat, n + k = 615 → zK (zg E) rmX12_image 3 (Qp, 0, 0) X (0, 0) 38 [some (zR 180), some (zI i), some (zI k)] [] (zrow M 182 (cpI (M 182) (M 181) (615 * i) k)) := by
  intro n
  induction n with
  | zero =>
    intro k hk
    obtain rfl : k = 615 := by omega
    refine zr_iload_n (pc := 38) S dX12_image_38 rfl ?_
    refine zr_sipush (pc := 39) S dX12_image_39 ⟨by unfold zrI; omega, by decide⟩ ?_
    refine zr_icmp_ge (pc := 42) (tgt := 69) S dX12_image_42 (by decide) (fun c42 => ?_) (fun c42 => absurd c42 (by omega))
    exact zr_vret (pc := 69) S dX12_image_69 rfl ⟨Nat.le_refl _, Nat.le_refl _⟩ (hQ)
  | succ n ih =>
    intro k hk
    have l := ih (k + 1) (by omega)
    rw [← cpI_s, Int.natCast_add, Int.natCast_one] at l
    have e : ((615 : Int) * (i : Int) + (k : Int)).toNat = 615 * i + k := by omega
    have e2 : zrow M 182 (cpI (M 182) (M 181) (615 * i) k) 181 (k : Int).toNat = M 181 k := by rw [zrow_o (by decide), Int.toNat_natCast]
    refine zr_iload_n (pc := 38) S dX12_image_38 rfl ?_
    refine zr_sipush (pc := 39) S dX12_image_39 ⟨by unfold zrI; omega, by decide⟩ ?_
    refine zr_icmp_ge (pc := 42) (tgt := 69) S dX12_image_42 (by decide) (fun c42 => absurd c42 (by omega)) (fun c42 => ?_)
    refine zr_aload_n (pc := 45) S dX12_image_45 rfl ?_
    refine zr_getR (pc := 46) S fX12_image_13 dX12_image_46 rfl (Nat.le_of_ble_eq_true rfl) rfl ?_
    refine zr_sipush (pc := 49) S dX12_image_49 ⟨by unfold zrI; omega, by decide⟩ ?_
    refine zr_iload_n (pc := 52) S dX12_image_52 rfl ?_
    refine zr_imul (pc := 53) S dX12_image_53 (by unfold zrI; omega) ?_
    refine zr_iload_n (pc := 54) S dX12_image_54 rfl ?_
    refine zr_iadd (pc := 55) S dX12_image_55 (by unfold zrI; omega) ?_
    refine zr_aload_n (pc := 56) S dX12_image_56 rfl ?_
    refine zr_getR (pc := 57) S fX12_image_9 dX12_image_57 rfl (Nat.le_of_ble_eq_true rfl) rfl ?_
    refine zr_iload_n (pc := 60) S dX12_image_60 rfl ?_
    refine zr_iaload (pc := 61) S dX12_image_61 rfl (Nat.le_of_ble_eq_true rfl) (by omega) (by omega) ?_
    rw [e2]
    refine zr_iastore (pc := 62) S dX12_image_62 rfl (Nat.le_of_ble_eq_true rfl) (by omega) (by omega) ?_
    rw [e, zrow_up]
    refine zr_iinc (pc := 63) S dX12_image_63 rfl (by unfold zrI; omega) (by decide) ?_
    dsimp only [zst1, zst2, zset, zget, zlong]
    refine zr_goto (pc := 66) (tgt := 38) S dX12_image_66 (by decide) ?_
    exact l
def sp_X12_image (as : List zV) (M : zM) (Q : Option zV → zM → Prop) : Prop := ∃ (i : Int), as = [zR 180, zI i] ∧ ((0 ≤ i ∧ i ≤ 2) → Q none (zrow (zup (tz M 0) 183 i.toNat 1) 182 (cpI (M 182) (M 181) (615 * i.toNat) 615))) ∧ (¬ (0 ≤ i ∧ i ≤ 2) → Q none (tz M 1))
theorem us_X12_image {i : Int} {M : zM} {Q : Option zV → zM → Prop} (hQ : (0 ≤ i ∧ i ≤ 2) → Q none (zrow (zup (tz M 0) 183 i.toNat 1) 182 (cpI (M 182) (M 181) (615 * i.toNat) 615))) (hT : ¬ (0 ≤ i ∧ i ≤ 2) → Q none (tz M 1)) : sp_X12_image [zR 180, zI i] M Q := ⟨i, rfl, hQ, hT⟩
set_option maxRecDepth 20000 in
set_option maxHeartbeats 4000000 in
theorem m_X12_image (l : Launch) : zC l yX12_image wzX12_image rmX12_image sp_X12_image := by
  refine zMet.of RX12 (by decide +kernel) rfl rfl ?_
  intro E X as M Qp hX S hsp
  obtain ⟨i, rfl, hQ, hT⟩ := hsp
  refine ⟨Nat.le_of_ble_eq_true rfl, ?_⟩
  dsimp only [zpad, zargs]
  have lp0 : (0 ≤ i ∧ i ≤ 2) → zK (zg E) rmX12_image 3 (Qp, 0, 0) X (0, 0) 38 [some (zR 180), some (zI i), some (zI 0)] [] (zup (tz M 0) 183 i.toNat 1) := by
    intro c
    have f := hQ c
    obtain ⟨i, rfl⟩ : ∃ n : Nat, i = n := ⟨i.toNat, by omega⟩
    rw [Int.toNat_natCast] at f ⊢
    have e1 : zup (tz M 0) 183 i 1 182 = M 182 := by rw [zup_o _ (by decide)]; exact zup_o _ (by decide)
    have e2 : zup (tz M 0) 183 i 1 181 = M 181 := by rw [zup_o _ (by decide)]; exact zup_o _ (by decide)
    rw [← e1, ← e2] at f
    have l := lp_X12_image (E := E) (X := X) (Qp := Qp) (M := zup (tz M 0) 183 i 1) (i := i) S (by omega) f 615 0 (by omega)
    rw [cpI_0, zrow_s] at l
    exact l
  refine zr_aload_n (pc := 0) S dX12_image_0 rfl ?_
  refine zr_iload_n (pc := 1) S dX12_image_1 rfl ?_
  refine zr_i2l (pc := 2) S dX12_image_2 ?_
  refine zr_lconst0 (pc := 3) S dX12_image_3 ?_
  refine zr_ldc2 (pc := 4) S (2) dX12_image_4 (List.mem_cons_of_mem _ (zWi_7 _ (List.mem_of_getElem? (i := 20) rfl))) (by unfold zrL; omega) ?_
  refine zr_invS (pc := 7) S [zL _, zL _, zL _] (m_X12_within _) kX12_image_83 dX12_image_7 (Nat.le_of_ble_eq_true rfl) ⟨Nat.le_of_ble_eq_true rfl, Nat.le_of_ble_eq_true rfl⟩ (us_X12_within ?_)
  dsimp only [zaft, Option.toList, List.cons_append, List.nil_append, Nat.add_zero]
  refine zr_if_eq (pc := 10) (tgt := 17) S dX12_image_10 (by decide) (fun c10 => ?_) (fun c10 => ?_)
  · rw [b01_0] at c10
    have f := hT c10
    refine zr_iconst (pc := 17) S dX12_image_17 (by unfold zrI; omega) ?_
    refine zr_putI (pc := 18) S pX12_image_80 dX12_image_18 rfl (Nat.le_of_ble_eq_true rfl) rfl ?_
    refine zr_aload_n (pc := 21) S dX12_image_21 rfl ?_
    refine zr_getI (pc := 22) S fX12_image_80 dX12_image_22 rfl (Nat.le_of_ble_eq_true rfl) rfl ?_
    try simp only [zup_k, zup_e, ne_eq, Nat.reduceEqDiff, not_false_eq_true, zup_j]
    refine zr_if_le (pc := 25) (tgt := 29) S dX12_image_25 (by decide) (fun c25 => ?_) (fun c25 => ?_)
    · refine zr_aload_n (pc := 29) S dX12_image_29 rfl ?_
      refine zr_getR (pc := 30) S fX12_image_16 dX12_image_30 rfl (Nat.le_of_ble_eq_true rfl) rfl ?_
      try simp only [zup_k, zup_e, ne_eq, Nat.reduceEqDiff, not_false_eq_true, zup_j]
      refine zr_iload_n (pc := 33) S dX12_image_33 rfl ?_
      refine zr_iconst (pc := 34) S dX12_image_34 (by unfold zrI; omega) ?_
      refine zr_zastore (pc := 35) S dX12_image_35 rfl (Nat.le_of_ble_eq_true rfl) (by omega) (by omega) (by omega) ?_
      refine zr_iconst (pc := 36) S dX12_image_36 (by unfold zrI; omega) ?_
      refine zr_istore_n (pc := 37) S 2 dX12_image_37 rfl (by decide) ?_
      dsimp only [zst1, zst2, zset, zget, zlong]
      first | exact absurd c25 (by omega) | exact lp0 c10
    · exact zr_vret (pc := 28) S dX12_image_28 rfl ⟨Nat.le_refl _, Nat.le_refl _⟩ (by first | exact f | (exfalso; omega))
  · rw [b01_0, Classical.not_not] at c10
    refine zr_iconst (pc := 13) S dX12_image_13 (by unfold zrI; omega) ?_
    refine zr_goto (pc := 14) (tgt := 18) S dX12_image_14 (by decide) ?_
    refine zr_putI (pc := 18) S pX12_image_80 dX12_image_18 rfl (Nat.le_of_ble_eq_true rfl) rfl ?_
    refine zr_aload_n (pc := 21) S dX12_image_21 rfl ?_
    refine zr_getI (pc := 22) S fX12_image_80 dX12_image_22 rfl (Nat.le_of_ble_eq_true rfl) rfl ?_
    try simp only [zup_k, zup_e, ne_eq, Nat.reduceEqDiff, not_false_eq_true, zup_j]
    refine zr_if_le (pc := 25) (tgt := 29) S dX12_image_25 (by decide) (fun c25 => ?_) (fun c25 => ?_)
    · refine zr_aload_n (pc := 29) S dX12_image_29 rfl ?_
      refine zr_getR (pc := 30) S fX12_image_16 dX12_image_30 rfl (Nat.le_of_ble_eq_true rfl) rfl ?_
      try simp only [zup_k, zup_e, ne_eq, Nat.reduceEqDiff, not_false_eq_true, zup_j]
      refine zr_iload_n (pc := 33) S dX12_image_33 rfl ?_
      refine zr_iconst (pc := 34) S dX12_image_34 (by unfold zrI; omega) ?_
      refine zr_zastore (pc := 35) S dX12_image_35 rfl (Nat.le_of_ble_eq_true rfl) (by omega) (by omega) (by omega) ?_
      refine zr_iconst (pc := 36) S dX12_image_36 (by unfold zrI; omega) ?_
      refine zr_istore_n (pc := 37) S 2 dX12_image_37 rfl (by decide) ?_
      dsimp only [zst1, zst2, zset, zget, zlong]
      first | exact absurd c25 (by omega) | exact lp0 c10
    · exact zr_vret (pc := 28) S dX12_image_28 rfl ⟨Nat.le_refl _, Nat.le_refl _⟩ (by first | exact f | (exfalso; omega))
theorem lp_X12_restore {E : zE} {X : zX} {Qp : Option zV → zM → Prop} {M : zM} {i : Nat} (S : zS (zg E) X cX12_restore 3 wzX12_restore RX12 none) (hi : i < 3) (hQ : Qp none (zrow M 181 (cpI (M 181) (fun j => M 182 (615 * i + j)) 0 615))) : ∀ n k : Nat, n + k = 615 → zK (zg E) rmX12_restore 3 (Qp, 0, 0) X (0, 0) 44 [some (zR 180), some (zI i), some (zI k)] [] (zrow M 181 (cpI (M 181) (fun j => M 182 (615 * i + j)) 0 k)) := by
  intro n
  induction n with
  | zero =>
    intro k hk
    obtain rfl : k = 615 := by omega
    refine zr_iload_n (pc := 44) S dX12_restore_44 rfl ?_
    refine zr_sipush (pc := 45) S dX12_restore_45 ⟨by unfold zrI; omega, by decide⟩ ?_
    refine zr_icmp_ge (pc := 48) (tgt := 75) S dX12_restore_48 (by decide) (fun c48 => ?_) (fun c48 => absurd c48 (by omega))
    exact zr_vret (pc := 75) S dX12_restore_75 rfl ⟨Nat.le_refl _, Nat.le_refl _⟩ (hQ)
  | succ n ih =>
    intro k hk
    have l := ih (k + 1) (by omega)
    rw [← cpI_s, Int.natCast_add, Int.natCast_one, Nat.zero_add] at l
    have e : ((615 : Int) * (i : Int) + (k : Int)).toNat = 615 * i + k := by omega
    have e2 : zrow M 181 (cpI (M 181) (fun j => M 182 (615 * i + j)) 0 k) 182 ((615 : Int) * (i : Int) + (k : Int)).toNat = M 182 (615 * i + k) := by rw [zrow_o (by decide), e]
    refine zr_iload_n (pc := 44) S dX12_restore_44 rfl ?_
    refine zr_sipush (pc := 45) S dX12_restore_45 ⟨by unfold zrI; omega, by decide⟩ ?_
    refine zr_icmp_ge (pc := 48) (tgt := 75) S dX12_restore_48 (by decide) (fun c48 => absurd c48 (by omega)) (fun c48 => ?_)
    refine zr_aload_n (pc := 51) S dX12_restore_51 rfl ?_
    refine zr_getR (pc := 52) S fX12_restore_9 dX12_restore_52 rfl (Nat.le_of_ble_eq_true rfl) rfl ?_
    refine zr_iload_n (pc := 55) S dX12_restore_55 rfl ?_
    refine zr_aload_n (pc := 56) S dX12_restore_56 rfl ?_
    refine zr_getR (pc := 57) S fX12_restore_13 dX12_restore_57 rfl (Nat.le_of_ble_eq_true rfl) rfl ?_
    refine zr_sipush (pc := 60) S dX12_restore_60 ⟨by unfold zrI; omega, by decide⟩ ?_
    refine zr_iload_n (pc := 63) S dX12_restore_63 rfl ?_
    refine zr_imul (pc := 64) S dX12_restore_64 (by unfold zrI; omega) ?_
    refine zr_iload_n (pc := 65) S dX12_restore_65 rfl ?_
    refine zr_iadd (pc := 66) S dX12_restore_66 (by unfold zrI; omega) ?_
    refine zr_iaload (pc := 67) S dX12_restore_67 rfl (Nat.le_of_ble_eq_true rfl) (by omega) (by omega) ?_
    rw [e2]
    refine zr_iastore (pc := 68) S dX12_restore_68 rfl (Nat.le_of_ble_eq_true rfl) (by omega) (by omega) ?_
    rw [Int.toNat_natCast, zrow_up]
    refine zr_iinc (pc := 69) S dX12_restore_69 rfl (by unfold zrI; omega) (by decide) ?_
    dsimp only [zst1, zst2, zset, zget, zlong]
    refine zr_goto (pc := 72) (tgt := 44) S dX12_restore_72 (by decide) ?_
    exact l
def sp_X12_restore (as : List zV) (M : zM) (Q : Option zV → zM → Prop) : Prop := ∃ (i : Int), as = [zR 180, zI i] ∧ ((0 ≤ i ∧ i ≤ 2) → ¬ M 183 i.toNat = 0 → Q none (zrow (tz M 0) 181 (cpI (M 181) (fun j => M 182 (615 * i.toNat + j)) 0 615))) ∧ (¬ (0 ≤ i ∧ i ≤ 2) → Q none (tz M 1)) ∧ ((0 ≤ i ∧ i ≤ 2) → M 183 i.toNat = 0 → Q none (tz M 2))
theorem us_X12_restore {i : Int} {M : zM} {Q : Option zV → zM → Prop} (hQ : (0 ≤ i ∧ i ≤ 2) → ¬ M 183 i.toNat = 0 → Q none (zrow (tz M 0) 181 (cpI (M 181) (fun j => M 182 (615 * i.toNat + j)) 0 615))) (hT : ¬ (0 ≤ i ∧ i ≤ 2) → Q none (tz M 1)) (hU : (0 ≤ i ∧ i ≤ 2) → M 183 i.toNat = 0 → Q none (tz M 2)) : sp_X12_restore [zR 180, zI i] M Q := ⟨i, rfl, hQ, hT, hU⟩
set_option maxRecDepth 20000 in
set_option maxHeartbeats 4000000 in
theorem m_X12_restore (l : Launch) : zC l yX12_restore wzX12_restore rmX12_restore sp_X12_restore := by
  refine zMet.of RX12 (by decide +kernel) rfl rfl ?_
  intro E X as M Qp hX S hsp
  obtain ⟨i, rfl, hQ, hT, hU⟩ := hsp
  refine ⟨Nat.le_of_ble_eq_true rfl, ?_⟩
  dsimp only [zpad, zargs]
  have lp0 : (0 ≤ i ∧ i ≤ 2) → ¬ M 183 i.toNat = 0 → zK (zg E) rmX12_restore 3 (Qp, 0, 0) X (0, 0) 44 [some (zR 180), some (zI i), some (zI 0)] [] (tz M 0) := by
    intro c c2
    have f := hQ c c2
    obtain ⟨i, rfl⟩ : ∃ n : Nat, i = n := ⟨i.toNat, by omega⟩
    rw [Int.toNat_natCast] at f
    have e1 : tz M 0 182 = M 182 := zup_o _ (by decide)
    have e2 : tz M 0 181 = M 181 := zup_o _ (by decide)
    rw [← e1, ← e2] at f
    have l := lp_X12_restore (E := E) (X := X) (Qp := Qp) (M := tz M 0) (i := i) S (by omega) f 615 0 (by omega)
    rw [cpI_0, zrow_s] at l
    exact l
  refine zr_aload_n (pc := 0) S dX12_restore_0 rfl ?_
  refine zr_iload_n (pc := 1) S dX12_restore_1 rfl ?_
  refine zr_i2l (pc := 2) S dX12_restore_2 ?_
  refine zr_lconst0 (pc := 3) S dX12_restore_3 ?_
  refine zr_ldc2 (pc := 4) S (2) dX12_restore_4 (List.mem_cons_of_mem _ (zWi_7 _ (List.mem_of_getElem? (i := 20) rfl))) (by unfold zrL; omega) ?_
  refine zr_invS (pc := 7) S [zL _, zL _, zL _] (m_X12_within _) kX12_restore_83 dX12_restore_7 (Nat.le_of_ble_eq_true rfl) ⟨Nat.le_of_ble_eq_true rfl, Nat.le_of_ble_eq_true rfl⟩ (us_X12_within ?_)
  dsimp only [zaft, Option.toList, List.cons_append, List.nil_append, Nat.add_zero]
  refine zr_if_ne (pc := 10) (tgt := 17) S dX12_restore_10 (by decide) (fun c10 => ?_) (fun c10 => ?_)
  · rw [b01_0, Classical.not_not] at c10
    refine zr_aload_n (pc := 17) S dX12_restore_17 rfl ?_
    refine zr_getR (pc := 18) S fX12_restore_16 dX12_restore_18 rfl (Nat.le_of_ble_eq_true rfl) rfl ?_
    refine zr_iload_n (pc := 21) S dX12_restore_21 rfl ?_
    refine zr_zaload (pc := 22) S dX12_restore_22 rfl (Nat.le_of_ble_eq_true rfl) (by omega) (by omega) ?_
    refine zr_if_ne (pc := 23) (tgt := 30) S dX12_restore_23 (by decide) (fun c23 => ?_) (fun c23 => ?_)
    · refine zr_iconst (pc := 30) S dX12_restore_30 (by unfold zrI; omega) ?_
      refine zr_putI (pc := 31) S pX12_restore_80 dX12_restore_31 rfl (Nat.le_of_ble_eq_true rfl) rfl ?_
      refine zr_aload_n (pc := 34) S dX12_restore_34 rfl ?_
      refine zr_getI (pc := 35) S fX12_restore_80 dX12_restore_35 rfl (Nat.le_of_ble_eq_true rfl) rfl ?_
      try simp only [zup_k, zup_e, ne_eq, Nat.reduceEqDiff, not_false_eq_true, zup_j]
      refine zr_if_le (pc := 38) (tgt := 42) S dX12_restore_38 (by decide) (fun c38 => ?_) (fun c38 => ?_)
      · refine zr_iconst (pc := 42) S dX12_restore_42 (by unfold zrI; omega) ?_
        refine zr_istore_n (pc := 43) S 2 dX12_restore_43 rfl (by decide) ?_
        dsimp only [zst1, zst2, zset, zget, zlong]
        first | exact absurd c38 (by omega) | exact lp0 c10 c23
      · exact zr_vret (pc := 41) S dX12_restore_41 rfl ⟨Nat.le_refl _, Nat.le_refl _⟩ (by first | exact f | (exfalso; omega))
    · have f := hU c10 c23
      refine zr_iconst (pc := 26) S dX12_restore_26 (by unfold zrI; omega) ?_
      refine zr_goto (pc := 27) (tgt := 31) S dX12_restore_27 (by decide) ?_
      refine zr_putI (pc := 31) S pX12_restore_80 dX12_restore_31 rfl (Nat.le_of_ble_eq_true rfl) rfl ?_
      refine zr_aload_n (pc := 34) S dX12_restore_34 rfl ?_
      refine zr_getI (pc := 35) S fX12_restore_80 dX12_restore_35 rfl (Nat.le_of_ble_eq_true rfl) rfl ?_
      try simp only [zup_k, zup_e, ne_eq, Nat.reduceEqDiff, not_false_eq_true, zup_j]
      refine zr_if_le (pc := 38) (tgt := 42) S dX12_restore_38 (by decide) (fun c38 => ?_) (fun c38 => ?_)
      · refine zr_iconst (pc := 42) S dX12_restore_42 (by unfold zrI; omega) ?_
        refine zr_istore_n (pc := 43) S 2 dX12_restore_43 rfl (by decide) ?_
        dsimp only [zst1, zst2, zset, zget, zlong]
        first | exact absurd c38 (by omega) | exact lp0 c10 c23
      · exact zr_vret (pc := 41) S dX12_restore_41 rfl ⟨Nat.le_refl _, Nat.le_refl _⟩ (by first | exact f | (exfalso; omega))
  · rw [b01_0] at c10
    have f := hT c10
    refine zr_iconst (pc := 13) S dX12_restore_13 (by unfold zrI; omega) ?_
    refine zr_goto (pc := 14) (tgt := 31) S dX12_restore_14 (by decide) ?_
    refine zr_putI (pc := 31) S pX12_restore_80 dX12_restore_31 rfl (Nat.le_of_ble_eq_true rfl) rfl ?_
    refine zr_aload_n (pc := 34) S dX12_restore_34 rfl ?_
    refine zr_getI (pc := 35) S fX12_restore_80 dX12_restore_35 rfl (Nat.le_of_ble_eq_true rfl) rfl ?_
    try simp only [zup_k, zup_e, ne_eq, Nat.reduceEqDiff, not_false_eq_true, zup_j]
    refine zr_if_le (pc := 38) (tgt := 42) S dX12_restore_38 (by decide) (fun c38 => ?_) (fun c38 => ?_)
    · refine zr_iconst (pc := 42) S dX12_restore_42 (by unfold zrI; omega) ?_
      refine zr_istore_n (pc := 43) S 2 dX12_restore_43 rfl (by decide) ?_
      dsimp only [zst1, zst2, zset, zget, zlong]
      first | exact absurd c38 (by omega) | exact lp0 c10 c23
    · exact zr_vret (pc := 41) S dX12_restore_41 rfl ⟨Nat.le_refl _, Nat.le_refl _⟩ (by first | exact f | (exfalso; omega))
/-- the told row when n numbers of a tray have been loaded -/
def ptT (t : Nat → Int) (u : Nat) (f : Nat → Int) : Nat → Nat → Int
  | 0 => t
  | n + 1 => dropT (ptT t u f n) u (f n).toNat
theorem ptT_h {t : Nat → Int} {u N : Nat} {f : Nat → Int} (hu : u < 8) (hf : ∀ i, i < N → 0 ≤ f i ∧ f i < 8) (h : 0 ≤ t (159 + 21 * u)) : ∀ n : Nat, n ≤ N → t (159 + 21 * u) + n ≤ 20 → ptT t u f n (159 + 21 * u) = t (159 + 21 * u) + n ∧ ∀ i, i < 159 ∨ 326 < i → ptT t u f n i = t i
  | 0, _, _ => ⟨by simp [ptT], fun i _ => rfl⟩
  | n + 1, hN, hn => by
    have a := ptT_h hu hf h n (by omega) (by omega)
    have c := hf n (by omega)
    have b := dropT_h (t := ptT t u f n) (s := (f n).toNat) hu (by omega) (by omega) (by omega)
    simp only [ptT]
    exact ⟨by rw [b.1, a.1]; omega, fun i hi => by rw [b.2 i hi, a.2 i hi]⟩
theorem lp_X12_pour2 {E : zE} {X : zX} {Qp : Option zV → zM → Prop} {M : zM} {u t m : Nat} (S : zS (zg E) X cX12_pour 4 wzX12_pour RX12 (some .int)) (hu : u < 8) (ht : t < 4) (hm : M 199 t = m) (hm2 : m ≤ 20) (hf : ∀ i, i < m → 0 ≤ M 200 (20 * t + i) ∧ M 200 (20 * t + i) < 8) (h2 : 0 ≤ M 181 (159 + 21 * u) ∧ M 181 (159 + 21 * u) + m ≤ 20) (h3 : ∀ s, s < 8 → 0 ≤ M 181 (327 + s) ∧ M 181 (327 + s) ≤ 1000000) (h4 : 0 ≤ M 181 (335 + u) ∧ M 181 (335 + u) ≤ 1000000) (hQ : Qp (some (zI (M 181 (159 + 21 * u) + m))) (zrow M 181 (rUp (ptT (M 181) u (fun i => M 200 (20 * t + i)) m) (335 + u) (M 181 (335 + u) + m)))) : ∀ n i : Nat, n + i = m → zK (zg E) rmX12_pour 4 (Qp, 0, 0) X (0, 0) 119 [some (zR 180), some (zI t), some (zI u), some (zI i)] [] (zrow M 181 (ptT (M 181) u (fun i => M 200 (20 * t + i)) i)) := by
  intro n
  have e0 : ((159 : Int) + 21 * (u : Int)).toNat = 159 + 21 * u := by omega
  have e1 : ((335 : Int) + (u : Int)).toNat = 335 + u := by omega
  have em : ∀ f : Nat → Int, zrow M 181 f 199 (t : Int).toNat = m := fun f => by rw [zrow_o (by decide), Int.toNat_natCast, hm]
  induction n with
  | zero =>
    intro i hi
    obtain rfl : i = m := by omega
    have a := ptT_h (t := M 181) hu hf h2.1 i (Nat.le_refl _) h2.2
    have a5 : zrow M 181 (ptT (M 181) u (fun i => M 200 (20 * t + i)) i) 181 (335 + u) = M 181 (335 + u) := by rw [zrow_e, a.2 _ (by omega)]
    have a6 : rUp (ptT (M 181) u (fun i => M 200 (20 * t + i)) i) (335 + u) (M 181 (335 + u) + i) (159 + 21 * u) = M 181 (159 + 21 * u) + i := by rw [rUp_o (by omega), a.1]
    refine zr_iload_n (pc := 119) S dX12_pour_119 rfl ?_
    refine zr_aload_n (pc := 120) S dX12_pour_120 rfl ?_
    refine zr_getR (pc := 121) S fX12_pour_74 dX12_pour_121 rfl (Nat.le_of_ble_eq_true rfl) rfl ?_
    refine zr_iload_n (pc := 124) S dX12_pour_124 rfl ?_
    refine zr_iaload (pc := 125) S dX12_pour_125 rfl (Nat.le_of_ble_eq_true rfl) (by omega) (by omega) ?_
    rw [em]
    refine zr_icmp_ge (pc := 126) (tgt := 152) S dX12_pour_126 (by decide) (fun c126 => ?_) (fun c126 => absurd c126 (by omega))
    refine zr_aload_n (pc := 152) S dX12_pour_152 rfl ?_
    refine zr_getR (pc := 153) S fX12_pour_9 dX12_pour_153 rfl (Nat.le_of_ble_eq_true rfl) rfl ?_
    refine zr_sipush (pc := 156) S dX12_pour_156 ⟨by unfold zrI; omega, by decide⟩ ?_
    refine zr_iload_n (pc := 159) S dX12_pour_159 rfl ?_
    refine zr_iadd (pc := 160) S dX12_pour_160 (by unfold zrI; omega) ?_
    refine zr_dup2 (pc := 161) S dX12_pour_161 rfl rfl ?_
    refine zr_iaload (pc := 162) S dX12_pour_162 rfl (Nat.le_of_ble_eq_true rfl) (by omega) (by omega) ?_
    rw [e1, a5]
    refine zr_aload_n (pc := 163) S dX12_pour_163 rfl ?_
    refine zr_getR (pc := 164) S fX12_pour_74 dX12_pour_164 rfl (Nat.le_of_ble_eq_true rfl) rfl ?_
    refine zr_iload_n (pc := 167) S dX12_pour_167 rfl ?_
    refine zr_iaload (pc := 168) S dX12_pour_168 rfl (Nat.le_of_ble_eq_true rfl) (by omega) (by omega) ?_
    rw [em]
    refine zr_iadd (pc := 169) S dX12_pour_169 (by unfold zrI; omega) ?_
    refine zr_iastore (pc := 170) S dX12_pour_170 rfl (Nat.le_of_ble_eq_true rfl) (by omega) (by omega) ?_
    rw [e1, zrow_up]
    refine zr_aload_n (pc := 171) S dX12_pour_171 rfl ?_
    refine zr_getR (pc := 172) S fX12_pour_9 dX12_pour_172 rfl (Nat.le_of_ble_eq_true rfl) rfl ?_
    try simp only [zup_k, zup_e, ne_eq, Nat.reduceEqDiff, not_false_eq_true, zup_j]
    refine zr_aload_n (pc := 175) S dX12_pour_175 rfl ?_
    refine zr_iload_n (pc := 176) S dX12_pour_176 rfl ?_
    refine zr_invV (pc := 177) S [zI _] (m_X12_tubeAt _) kX12_pour_293 dX12_pour_177 rfl (Nat.le_of_ble_eq_true rfl) rfl (Nat.le_of_ble_eq_true rfl) ⟨Nat.le_of_ble_eq_true rfl, Nat.le_of_ble_eq_true rfl⟩ (us_X12_tubeAt (by omega) (by omega) ?_)
    dsimp only [zaft, Option.toList, List.cons_append, List.nil_append, Nat.add_zero]
    refine zr_iaload (pc := 180) S dX12_pour_180 rfl (Nat.le_of_ble_eq_true rfl) (by omega) (by omega) ?_
    try simp only [zup_k, zup_e, ne_eq, Nat.reduceEqDiff, not_false_eq_true]
    rw [e0, zrow_e, a6]
    exact zr_iret (pc := 181) S dX12_pour_181 rfl ⟨Nat.le_refl _, Nat.le_refl _⟩ (hQ)
  | succ n ih =>
    intro i hi
    have a := ptT_h (t := M 181) hu hf h2.1 i (by omega) (by omega)
    have k := ih (i + 1) (by omega)
    rw [Int.natCast_add, Int.natCast_one] at k
    have c := hf i (by omega)
    have b1 : zrow M 181 (ptT (M 181) u (fun i => M 200 (20 * t + i)) i) 181 (159 + 21 * u) = M 181 (159 + 21 * u) + i := by rw [zrow_e, a.1]
    have b2 : ∀ s, s < 8 → zrow M 181 (ptT (M 181) u (fun i => M 200 (20 * t + i)) i) 181 (327 + s) = M 181 (327 + s) := fun s hs => by rw [zrow_e, a.2 _ (by omega)]
    have en : zrow M 181 (ptT (M 181) u (fun i => M 200 (20 * t + i)) i) 200 ((20 : Int) * (t : Int) + (i : Int)).toNat = ((M 200 (20 * t + i)).toNat : Int) := by
      rw [zrow_o (by decide), show ((20 : Int) * (t : Int) + (i : Int)).toNat = 20 * t + i by omega]
      omega
    refine zr_iload_n (pc := 119) S dX12_pour_119 rfl ?_
    refine zr_aload_n (pc := 120) S dX12_pour_120 rfl ?_
    refine zr_getR (pc := 121) S fX12_pour_74 dX12_pour_121 rfl (Nat.le_of_ble_eq_true rfl) rfl ?_
    refine zr_iload_n (pc := 124) S dX12_pour_124 rfl ?_
    refine zr_iaload (pc := 125) S dX12_pour_125 rfl (Nat.le_of_ble_eq_true rfl) (by omega) (by omega) ?_
    rw [em]
    refine zr_icmp_ge (pc := 126) (tgt := 152) S dX12_pour_126 (by decide) (fun c126 => absurd c126 (by omega)) (fun c126 => ?_)
    refine zr_aload_n (pc := 129) S dX12_pour_129 rfl ?_
    refine zr_iload_n (pc := 130) S dX12_pour_130 rfl ?_
    refine zr_aload_n (pc := 131) S dX12_pour_131 rfl ?_
    refine zr_getR (pc := 132) S fX12_pour_77 dX12_pour_132 rfl (Nat.le_of_ble_eq_true rfl) rfl ?_
    refine zr_bipush (pc := 135) S dX12_pour_135 ⟨by unfold zrI; omega, by decide⟩ ?_
    refine zr_iload_n (pc := 137) S dX12_pour_137 rfl ?_
    refine zr_imul (pc := 138) S dX12_pour_138 (by unfold zrI; omega) ?_
    refine zr_iload_n (pc := 139) S dX12_pour_139 rfl ?_
    refine zr_iadd (pc := 140) S dX12_pour_140 (by unfold zrI; omega) ?_
    refine zr_laload (pc := 141) S dX12_pour_141 rfl (Nat.le_of_ble_eq_true rfl) (by omega) (by omega) ?_
    rw [en]
    refine zr_l2i (pc := 142) S dX12_pour_142 (by unfold zrI; omega) ?_
    refine zr_invV (pc := 143) S [zI _, zI _] (m_X12_drops _) kX12_pour_298 dX12_pour_143 rfl (Nat.le_of_ble_eq_true rfl) rfl (Nat.le_of_ble_eq_true rfl) ⟨Nat.le_of_ble_eq_true rfl, Nat.le_of_ble_eq_true rfl⟩ (us_X12_drops (u := u) (s := (M 200 (20 * t + i)).toNat) hu (by omega) (by rw [b1]; omega) (by rw [b2 _ (by omega)]; exact h3 _ (by omega)) ?_)
    dsimp only [zaft, Option.toList, List.cons_append, List.nil_append, Nat.add_zero]
    rw [zrow_e, zrow_r]
    refine zr_iinc (pc := 146) S dX12_pour_146 rfl (by unfold zrI; omega) (by decide) ?_
    dsimp only [zst1, zst2, zset, zget, zlong]
    refine zr_goto (pc := 149) (tgt := 119) S dX12_pour_149 (by decide) ?_
    exact k
end
