section
/-- the told row when the first n coins of the slide have been given back -/
def sbT (t : Nat → Int) : Nat → Nat → Int
  | 0 => rUp t 6 0
  | n + 1 => if t (358 + 4 * n) = -1 then rUp (sbT t n) (343 + (t (357 + 4 * n)).toNat) (sbT t n (343 + (t (357 + 4 * n)).toNat) - t (360 + 4 * n))
      else rUp (rUp (rUp (sbT t n) (405 + (sbT t n 6).toNat) (t (358 + 4 * n))) 6 (sbT t n 6 + 1)) (343 + (t (357 + 4 * n)).toNat) (sbT t n (343 + (t (357 + 4 * n)).toNat) - t (360 + 4 * n))
theorem sbT_r {t : Nat → Int} (ha : ∀ j, j < 12 → 0 ≤ t (357 + 4 * j) ∧ t (357 + 4 * j) < 8) : ∀ n, n ≤ 12 → (0 ≤ sbT t n 6 ∧ sbT t n 6 ≤ n) ∧ ∀ i, 357 ≤ i ∧ i < 405 ∨ i = 3 → sbT t n i = t i
  | 0, _ => ⟨by simp [sbT, rUp], fun i hi => by simp only [sbT]; rw [rUp_o (by omega)]⟩
  | n + 1, hn => by
    obtain ⟨a, b⟩ := sbT_r ha n (by omega)
    have c := ha n (by omega)
    simp only [sbT]
    split
    · refine ⟨?_, fun i hi => ?_⟩
      · rw [rUp_o (by omega)]; omega
      · rw [rUp_o (by omega), b i hi]
    · refine ⟨?_, fun i hi => ?_⟩
      · rw [rUp_o (by omega), rUp_e]; omega
      · rw [rUp_o (by omega), rUp_o (by omega), rUp_o (by omega), b i hi]
theorem sbT_w {t : Nat → Int} {B : Int} (ha : ∀ j, j < 12 → (0 ≤ t (357 + 4 * j) ∧ t (357 + 4 * j) < 8) ∧ (0 ≤ t (360 + 4 * j) ∧ t (360 + 4 * j) ≤ 2)) (hw : ∀ s, s < 8 → -B ≤ t (343 + s) ∧ t (343 + s) ≤ B) : ∀ n, n ≤ 12 → ∀ s, s < 8 → -B - 2 * n ≤ sbT t n (343 + s) ∧ sbT t n (343 + s) ≤ B
  | 0, _, s, hs => by
    have := hw s hs
    simp only [sbT]
    rw [rUp_o (by omega)]
    omega
  | n + 1, hn, s, hs => by
    have a := sbT_w ha hw n (by omega)
    have r := (sbT_r (fun j hj => (ha j hj).1) n (by omega)).1
    have c := ha n (by omega)
    have a1 := a s hs
    have a2 := a (t (357 + 4 * n)).toNat (by omega)
    simp only [sbT]
    split
    · by_cases e : 343 + s = 343 + (t (357 + 4 * n)).toNat
      · rw [e, rUp_e]; omega
      · rw [rUp_o e]; omega
    · by_cases e : 343 + s = 343 + (t (357 + 4 * n)).toNat
      · rw [e, rUp_e]; omega
      · rw [rUp_o e, rUp_o (by omega), rUp_o (by omega)]; omega
theorem lp_X12_refund {E : zE} {X : zX} {Qp : Option zV → zM → Prop} {M : zM} (S : zS (zg E) X cX12_refund 2 wzX12_refund RX12 (some .int)) (h3 : 0 ≤ M 181 3 ∧ M 181 3 ≤ 12) (ha : ∀ j, j < 12 → (0 ≤ M 181 (357 + 4 * j) ∧ M 181 (357 + 4 * j) < 8) ∧ (0 ≤ M 181 (360 + 4 * j) ∧ M 181 (360 + 4 * j) ≤ 2)) (hw : ∀ s, s < 8 → -1000000 ≤ M 181 (343 + s) ∧ M 181 (343 + s) ≤ 1000000) (hQ : Qp (some (zI (sbT (M 181) (M 181 3).toNat 6))) (zrow M 181 (rUp (sbT (M 181) (M 181 3).toNat) 3 0))) : ∀ n i : Nat, (n : Int) + i = M 181 3 → zK (zg E) rmX12_refund 2 (Qp, 0, 0) X (0, 0) 15 [some (zR 180), some (zI i)] [] (zrow M 181 (sbT (M 181) i)) := by
  have ha1 := fun j hj => (ha j hj).1
  intro n
  induction n with
  | zero =>
    intro i hi
    obtain rfl : i = (M 181 3).toNat := by omega
    have r := sbT_r ha1 (M 181 3).toNat (by omega)
    have e3 : zrow M 181 (sbT (M 181) (M 181 3).toNat) 181 3 = M 181 3 := by rw [zrow_e, r.2 3 (by omega)]
    have e6 : rUp (sbT (M 181) (M 181 3).toNat) 3 0 6 = sbT (M 181) (M 181 3).toNat 6 := rUp_o (by decide)
    refine zr_iload_n (pc := 15) S dX12_refund_15 rfl ?_
    refine zr_aload_n (pc := 16) S dX12_refund_16 rfl ?_
    refine zr_getR (pc := 17) S fX12_refund_9 dX12_refund_17 rfl (Nat.le_of_ble_eq_true rfl) rfl ?_
    refine zr_iconst (pc := 20) S dX12_refund_20 (by unfold zrI; omega) ?_
    refine zr_iaload (pc := 21) S dX12_refund_21 rfl (Nat.le_of_ble_eq_true rfl) (by omega) (by omega) ?_
    dsimp only [Int.reduceToNat]
    rw [e3]
    refine zr_icmp_ge (pc := 22) (tgt := 75) S dX12_refund_22 (by decide) (fun c22 => ?_) (fun c22 => absurd c22 (by omega))
    refine zr_aload_n (pc := 75) S dX12_refund_75 rfl ?_
    refine zr_getR (pc := 76) S fX12_refund_9 dX12_refund_76 rfl (Nat.le_of_ble_eq_true rfl) rfl ?_
    refine zr_iconst (pc := 79) S dX12_refund_79 (by unfold zrI; omega) ?_
    refine zr_iconst (pc := 80) S dX12_refund_80 (by unfold zrI; omega) ?_
    refine zr_iastore (pc := 81) S dX12_refund_81 rfl (Nat.le_of_ble_eq_true rfl) (by omega) (by omega) ?_
    rw [show Int.toNat 3 = 3 from rfl, zrow_up]
    refine zr_aload_n (pc := 82) S dX12_refund_82 rfl ?_
    refine zr_getR (pc := 83) S fX12_refund_9 dX12_refund_83 rfl (Nat.le_of_ble_eq_true rfl) rfl ?_
    try simp only [zup_k, zup_e, ne_eq, Nat.reduceEqDiff, not_false_eq_true, zup_j]
    refine zr_bipush (pc := 86) S dX12_refund_86 ⟨by unfold zrI; omega, by decide⟩ ?_
    refine zr_iaload (pc := 88) S dX12_refund_88 rfl (Nat.le_of_ble_eq_true rfl) (by omega) (by omega) ?_
    dsimp only [Int.reduceToNat]
    try simp only [zup_k, zup_e, ne_eq, Nat.reduceEqDiff, not_false_eq_true]
    rw [zrow_e, e6]
    exact zr_iret (pc := 89) S dX12_refund_89 rfl ⟨Nat.le_refl _, Nat.le_refl _⟩ (hQ)
  | succ n ih =>
    intro i hi
    have r := sbT_r ha1 i (by omega)
    have c := ha i (by omega)
    have w := sbT_w ha hw i (by omega) (M 181 (357 + 4 * i)).toNat (by omega)
    have k := ih (i + 1) (by omega)
    rw [Int.natCast_add, Int.natCast_one] at k
    have e3 : zrow M 181 (sbT (M 181) i) 181 3 = M 181 3 := by rw [zrow_e, r.2 3 (by omega)]
    have q1 : ((357 : Int) + 4 * (i : Int) + 1).toNat = 358 + 4 * i := by omega
    have q0 : ((357 : Int) + 4 * (i : Int) + 0).toNat = 357 + 4 * i := by omega
    have q3 : ((357 : Int) + 4 * (i : Int) + 3).toNat = 360 + 4 * i := by omega
    have x1 : zrow M 181 (sbT (M 181) i) 181 (358 + 4 * i) = M 181 (358 + 4 * i) := by rw [zrow_e, r.2 _ (by omega)]
    have qa : ((343 : Int) + M 181 (357 + 4 * i)).toNat = 343 + (M 181 (357 + 4 * i)).toNat := by omega
    by_cases hc : M 181 (358 + 4 * i) = -1
    · simp only [sbT] at k
      rw [if_pos hc] at k
      have x0 : zrow M 181 (sbT (M 181) i) 181 (357 + 4 * i) = M 181 (357 + 4 * i) := by rw [zrow_e, r.2 _ (by omega)]
      have x3 : zrow M 181 (sbT (M 181) i) 181 (360 + 4 * i) = M 181 (360 + 4 * i) := by rw [zrow_e, r.2 _ (by omega)]
      have xw : zrow M 181 (sbT (M 181) i) 181 (343 + (M 181 (357 + 4 * i)).toNat) = sbT (M 181) i (343 + (M 181 (357 + 4 * i)).toNat) := by rw [zrow_e]
      refine zr_iload_n (pc := 15) S dX12_refund_15 rfl ?_
      refine zr_aload_n (pc := 16) S dX12_refund_16 rfl ?_
      refine zr_getR (pc := 17) S fX12_refund_9 dX12_refund_17 rfl (Nat.le_of_ble_eq_true rfl) rfl ?_
      refine zr_iconst (pc := 20) S dX12_refund_20 (by unfold zrI; omega) ?_
      refine zr_iaload (pc := 21) S dX12_refund_21 rfl (Nat.le_of_ble_eq_true rfl) (by omega) (by omega) ?_
      dsimp only [Int.reduceToNat]
      rw [e3]
      refine zr_icmp_ge (pc := 22) (tgt := 75) S dX12_refund_22 (by decide) (fun c22 => absurd c22 (by omega)) (fun c22 => ?_)
      refine zr_aload_n (pc := 25) S dX12_refund_25 rfl ?_
      refine zr_iload_n (pc := 26) S dX12_refund_26 rfl ?_
      refine zr_iconst (pc := 27) S dX12_refund_27 (by unfold zrI; omega) ?_
      refine zr_invV (pc := 28) S [zI _, zI _] (m_X12_lies _) kX12_refund_312 dX12_refund_28 rfl (Nat.le_of_ble_eq_true rfl) rfl (Nat.le_of_ble_eq_true rfl) ⟨Nat.le_of_ble_eq_true rfl, Nat.le_of_ble_eq_true rfl⟩ (us_X12_lies (by omega) (by omega) (by omega) (by omega) ?_)
      dsimp only [zaft, Option.toList, List.cons_append, List.nil_append, Nat.add_zero]
      rw [q1, x1]
      refine zr_iconst (pc := 31) S dX12_refund_31 (by unfold zrI; omega) ?_
      refine zr_icmp_eq (pc := 32) (tgt := 45) S dX12_refund_32 (by decide) (fun c32 => ?_) (fun c32 => absurd c32 (by omega))
      refine zr_aload_n (pc := 45) S dX12_refund_45 rfl ?_
      refine zr_getR (pc := 46) S fX12_refund_9 dX12_refund_46 rfl (Nat.le_of_ble_eq_true rfl) rfl ?_
      refine zr_sipush (pc := 49) S dX12_refund_49 ⟨by unfold zrI; omega, by decide⟩ ?_
      refine zr_aload_n (pc := 52) S dX12_refund_52 rfl ?_
      refine zr_iload_n (pc := 53) S dX12_refund_53 rfl ?_
      refine zr_iconst (pc := 54) S dX12_refund_54 (by unfold zrI; omega) ?_
      refine zr_invV (pc := 55) S [zI _, zI _] (m_X12_lies _) kX12_refund_312 dX12_refund_55 rfl (Nat.le_of_ble_eq_true rfl) rfl (Nat.le_of_ble_eq_true rfl) ⟨Nat.le_of_ble_eq_true rfl, Nat.le_of_ble_eq_true rfl⟩ (us_X12_lies (by omega) (by omega) (by omega) (by omega) ?_)
      dsimp only [zaft, Option.toList, List.cons_append, List.nil_append, Nat.add_zero]
      rw [q0, x0]
      refine zr_iadd (pc := 58) S dX12_refund_58 (by unfold zrI; omega) ?_
      refine zr_dup2 (pc := 59) S dX12_refund_59 rfl rfl ?_
      refine zr_iaload (pc := 60) S dX12_refund_60 rfl (Nat.le_of_ble_eq_true rfl) (by omega) (by omega) ?_
      rw [qa, xw]
      refine zr_aload_n (pc := 61) S dX12_refund_61 rfl ?_
      refine zr_iload_n (pc := 62) S dX12_refund_62 rfl ?_
      refine zr_iconst (pc := 63) S dX12_refund_63 (by unfold zrI; omega) ?_
      refine zr_invV (pc := 64) S [zI _, zI _] (m_X12_lies _) kX12_refund_312 dX12_refund_64 rfl (Nat.le_of_ble_eq_true rfl) rfl (Nat.le_of_ble_eq_true rfl) ⟨Nat.le_of_ble_eq_true rfl, Nat.le_of_ble_eq_true rfl⟩ (us_X12_lies (by omega) (by omega) (by omega) (by omega) ?_)
      dsimp only [zaft, Option.toList, List.cons_append, List.nil_append, Nat.add_zero]
      rw [q3, x3]
      refine zr_isub (pc := 67) S dX12_refund_67 (by unfold zrI; omega) ?_
      refine zr_iastore (pc := 68) S dX12_refund_68 rfl (Nat.le_of_ble_eq_true rfl) (by omega) (by omega) ?_
      rw [qa, zrow_up]
      refine zr_iinc (pc := 69) S dX12_refund_69 rfl (by unfold zrI; omega) (by decide) ?_
      dsimp only [zst1, zst2, zset, zget, zlong]
      refine zr_goto (pc := 72) (tgt := 15) S dX12_refund_72 (by decide) ?_
      exact k
    · simp only [sbT] at k
      rw [if_neg hc] at k
      have g6 : zrow M 181 (sbT (M 181) i) 181 6 = sbT (M 181) i 6 := by rw [zrow_e]
      have q5 : ((405 : Int) + sbT (M 181) i 6).toNat = 405 + (sbT (M 181) i 6).toNat := by omega
      have em : zup (zup (zrow M 181 (sbT (M 181) i)) 181 (405 + (sbT (M 181) i 6).toNat) (M 181 (358 + 4 * i))) 181 6 (sbT (M 181) i 6 + 1) = zrow M 181 (rUp (rUp (sbT (M 181) i) (405 + (sbT (M 181) i 6).toNat) (M 181 (358 + 4 * i))) 6 (sbT (M 181) i 6 + 1)) := by rw [zrow_up, zrow_up]
      have y : ∀ j, 357 ≤ j ∧ j < 405 → rUp (rUp (sbT (M 181) i) (405 + (sbT (M 181) i 6).toNat) (M 181 (358 + 4 * i))) 6 (sbT (M 181) i 6 + 1) j = M 181 j := fun j hj => by rw [rUp_o (by omega), rUp_o (by omega), r.2 j (by omega)]
      have yw : ∀ j, 343 ≤ j ∧ j < 351 → rUp (rUp (sbT (M 181) i) (405 + (sbT (M 181) i 6).toNat) (M 181 (358 + 4 * i))) 6 (sbT (M 181) i 6 + 1) j = sbT (M 181) i j := fun j hj => by rw [rUp_o (by omega), rUp_o (by omega)]
      have ya := y (357 + 4 * i) (by omega)
      have yb := y (360 + 4 * i) (by omega)
      have yc := yw (343 + (M 181 (357 + 4 * i)).toNat) (by omega)
      refine zr_iload_n (pc := 15) S dX12_refund_15 rfl ?_
      refine zr_aload_n (pc := 16) S dX12_refund_16 rfl ?_
      refine zr_getR (pc := 17) S fX12_refund_9 dX12_refund_17 rfl (Nat.le_of_ble_eq_true rfl) rfl ?_
      refine zr_iconst (pc := 20) S dX12_refund_20 (by unfold zrI; omega) ?_
      refine zr_iaload (pc := 21) S dX12_refund_21 rfl (Nat.le_of_ble_eq_true rfl) (by omega) (by omega) ?_
      dsimp only [Int.reduceToNat]
      rw [e3]
      refine zr_icmp_ge (pc := 22) (tgt := 75) S dX12_refund_22 (by decide) (fun c22 => absurd c22 (by omega)) (fun c22 => ?_)
      refine zr_aload_n (pc := 25) S dX12_refund_25 rfl ?_
      refine zr_iload_n (pc := 26) S dX12_refund_26 rfl ?_
      refine zr_iconst (pc := 27) S dX12_refund_27 (by unfold zrI; omega) ?_
      refine zr_invV (pc := 28) S [zI _, zI _] (m_X12_lies _) kX12_refund_312 dX12_refund_28 rfl (Nat.le_of_ble_eq_true rfl) rfl (Nat.le_of_ble_eq_true rfl) ⟨Nat.le_of_ble_eq_true rfl, Nat.le_of_ble_eq_true rfl⟩ (us_X12_lies (by omega) (by omega) (by omega) (by omega) ?_)
      dsimp only [zaft, Option.toList, List.cons_append, List.nil_append, Nat.add_zero]
      rw [q1, x1]
      refine zr_iconst (pc := 31) S dX12_refund_31 (by unfold zrI; omega) ?_
      refine zr_icmp_eq (pc := 32) (tgt := 45) S dX12_refund_32 (by decide) (fun c32 => absurd c32 (by omega)) (fun c32 => ?_)
      refine zr_aload_n (pc := 35) S dX12_refund_35 rfl ?_
      refine zr_aload_n (pc := 36) S dX12_refund_36 rfl ?_
      refine zr_iload_n (pc := 37) S dX12_refund_37 rfl ?_
      refine zr_iconst (pc := 38) S dX12_refund_38 (by unfold zrI; omega) ?_
      refine zr_invV (pc := 39) S [zI _, zI _] (m_X12_lies _) kX12_refund_312 dX12_refund_39 rfl (Nat.le_of_ble_eq_true rfl) rfl (Nat.le_of_ble_eq_true rfl) ⟨Nat.le_of_ble_eq_true rfl, Nat.le_of_ble_eq_true rfl⟩ (us_X12_lies (by omega) (by omega) (by omega) (by omega) ?_)
      dsimp only [zaft, Option.toList, List.cons_append, List.nil_append, Nat.add_zero]
      rw [q1, x1]
      refine zr_invV (pc := 42) S [zI _] (m_X12_gives _) kX12_refund_324 dX12_refund_42 rfl (Nat.le_of_ble_eq_true rfl) rfl (Nat.le_of_ble_eq_true rfl) ⟨Nat.le_of_ble_eq_true rfl, Nat.le_of_ble_eq_true rfl⟩ (us_X12_gives (by rw [g6]; omega) ?_)
      dsimp only [zaft, Option.toList, List.cons_append, List.nil_append, Nat.add_zero]
      rw [g6, q5, em]
      refine zr_aload_n (pc := 45) S dX12_refund_45 rfl ?_
      refine zr_getR (pc := 46) S fX12_refund_9 dX12_refund_46 rfl (Nat.le_of_ble_eq_true rfl) rfl ?_
      refine zr_sipush (pc := 49) S dX12_refund_49 ⟨by unfold zrI; omega, by decide⟩ ?_
      refine zr_aload_n (pc := 52) S dX12_refund_52 rfl ?_
      refine zr_iload_n (pc := 53) S dX12_refund_53 rfl ?_
      refine zr_iconst (pc := 54) S dX12_refund_54 (by unfold zrI; omega) ?_
      refine zr_invV (pc := 55) S [zI _, zI _] (m_X12_lies _) kX12_refund_312 dX12_refund_55 rfl (Nat.le_of_ble_eq_true rfl) rfl (Nat.le_of_ble_eq_true rfl) ⟨Nat.le_of_ble_eq_true rfl, Nat.le_of_ble_eq_true rfl⟩ (us_X12_lies (by omega) (by omega) (by omega) (by omega) ?_)
      dsimp only [zaft, Option.toList, List.cons_append, List.nil_append, Nat.add_zero]
      rw [q0, zrow_e, ya]
      refine zr_iadd (pc := 58) S dX12_refund_58 (by unfold zrI; omega) ?_
      refine zr_dup2 (pc := 59) S dX12_refund_59 rfl rfl ?_
      refine zr_iaload (pc := 60) S dX12_refund_60 rfl (Nat.le_of_ble_eq_true rfl) (by omega) (by omega) ?_
      rw [qa, zrow_e, yc]
      refine zr_aload_n (pc := 61) S dX12_refund_61 rfl ?_
      refine zr_iload_n (pc := 62) S dX12_refund_62 rfl ?_
      refine zr_iconst (pc := 63) S dX12_refund_63 (by unfold zrI; omega) ?_
      refine zr_invV (pc := 64) S [zI _, zI _] (m_X12_lies _) kX12_refund_312 dX12_refund_64 rfl (Nat.le_of_ble_eq_true rfl) rfl (Nat.le_of_ble_eq_true rfl) ⟨Nat.le_of_ble_eq_true rfl, Nat.le_of_ble_eq_true rfl⟩ (us_X12_lies (by omega) (by omega) (by omega) (by omega) ?_)
      dsimp only [zaft, Option.toList, List.cons_append, List.nil_append, Nat.add_zero]
      rw [q3, zrow_e, yb]
      refine zr_isub (pc := 67) S dX12_refund_67 (by unfold zrI; omega) ?_
      refine zr_iastore (pc := 68) S dX12_refund_68 rfl (Nat.le_of_ble_eq_true rfl) (by omega) (by omega) ?_
      rw [qa, zrow_up]
      refine zr_iinc (pc := 69) S dX12_refund_69 rfl (by unfold zrI; omega) (by decide) ?_
      dsimp only [zst1, zst2, zset, zget, zlong]
      refine zr_goto (pc := 72) (tgt := 15) S dX12_refund_72 (by decide) ?_
      exact k
def sp_X12_refund (as : List zV) (M : zM) (Q : Option zV → zM → Prop) : Prop := as = [zR 180] ∧ (0 ≤ M 181 3 ∧ M 181 3 ≤ 12) ∧ (∀ j, j < 12 → (0 ≤ M 181 (357 + 4 * j) ∧ M 181 (357 + 4 * j) < 8) ∧ (0 ≤ M 181 (360 + 4 * j) ∧ M 181 (360 + 4 * j) ≤ 2)) ∧ (∀ s, s < 8 → -1000000 ≤ M 181 (343 + s) ∧ M 181 (343 + s) ≤ 1000000) ∧ (Q (some (zI (sbT (M 181) (M 181 3).toNat 6))) (zrow (tz M 0) 181 (rUp (sbT (M 181) (M 181 3).toNat) 3 0)))
theorem us_X12_refund  {M : zM} {Q : Option zV → zM → Prop} (h3 : 0 ≤ M 181 3 ∧ M 181 3 ≤ 12) (ha : ∀ j, j < 12 → (0 ≤ M 181 (357 + 4 * j) ∧ M 181 (357 + 4 * j) < 8) ∧ (0 ≤ M 181 (360 + 4 * j) ∧ M 181 (360 + 4 * j) ≤ 2)) (hw : ∀ s, s < 8 → -1000000 ≤ M 181 (343 + s) ∧ M 181 (343 + s) ≤ 1000000) (hQ : Q (some (zI (sbT (M 181) (M 181 3).toNat 6))) (zrow (tz M 0) 181 (rUp (sbT (M 181) (M 181 3).toNat) 3 0))) : sp_X12_refund [zR 180] M Q := ⟨rfl, h3, ha, hw, hQ⟩
set_option maxRecDepth 20000 in
set_option maxHeartbeats 4000000 in
theorem m_X12_refund (l : Launch) : zC l yX12_refund wzX12_refund rmX12_refund sp_X12_refund := by
  refine zMet.of RX12 (by decide +kernel) rfl rfl ?_
  intro E X as M Qp hX S hsp
  obtain ⟨rfl, h3, ha, hw, hQ⟩ := hsp
  refine ⟨Nat.le_of_ble_eq_true rfl, ?_⟩
  dsimp only [zpad, zargs]
  have et : tz M 0 181 = M 181 := zup_o _ (by decide)
  refine zr_aload_n (pc := 0) S dX12_refund_0 rfl ?_
  refine zr_iconst (pc := 1) S dX12_refund_1 (by unfold zrI; omega) ?_
  refine zr_putI (pc := 2) S pX12_refund_80 dX12_refund_2 rfl (Nat.le_of_ble_eq_true rfl) rfl ?_
  refine zr_aload_n (pc := 5) S dX12_refund_5 rfl ?_
  refine zr_getR (pc := 6) S fX12_refund_9 dX12_refund_6 rfl (Nat.le_of_ble_eq_true rfl) rfl ?_
  try simp only [zup_k, zup_e, ne_eq, Nat.reduceEqDiff, not_false_eq_true, zup_j]
  refine zr_bipush (pc := 9) S dX12_refund_9 ⟨by unfold zrI; omega, by decide⟩ ?_
  refine zr_iconst (pc := 11) S dX12_refund_11 (by unfold zrI; omega) ?_
  refine zr_iastore (pc := 12) S dX12_refund_12 rfl (Nat.le_of_ble_eq_true rfl) (by omega) (by omega) ?_
  refine zr_iconst (pc := 13) S dX12_refund_13 (by unfold zrI; omega) ?_
  refine zr_istore_n (pc := 14) S 1 dX12_refund_14 rfl (by decide) ?_
  dsimp only [zst1, zst2, zset, zget, zlong]
  have l := lp_X12_refund (E := E) (X := X) (Qp := Qp) (M := tz M 0) S (by rw [et]; exact h3) (by rw [et]; exact ha) (by rw [et]; exact hw) (by rw [et]; exact hQ) (M 181 3).toNat 0 (by rw [et]; omega)
  exact (up_zrow (M := tz M 0) (c := 181) (o := 6) (v := 0)) ▸ l
end
