section
def size3 (M : zM) (k : Int) : Int := (highOf M k 0 - lowOf M k 0 + 1) * (highOf M k 1 - lowOf M k 1 + 1) * (highOf M k 2 - lowOf M k 2 + 1)
def size3u (M : zM) (k : Int) : Nat → Int
  | 0 => 1
  | n + 1 => size3u M k n * (highOf M k n - lowOf M k n + 1)
theorem size3u_r {M : zM} (h : ICs M) {k : Int} (h0 : 0 ≤ k) (h1 : k < 8) : ∀ n, n ≤ 3 → 1 ≤ size3u M k n ∧ size3u M k n ≤ 100 ^ n
  | 0, _ => by simp [size3u]
  | n + 1, hn => by
    have a := size3u_r h h0 h1 n (by omega)
    have b := span_r h h0 h1 (m := n) (by omega) (by omega)
    have c := zmulr (a := size3u M k n) (b := highOf M k n - lowOf M k n + 1) (A := 100 ^ n) (B := 100) (by omega) a.2 (by omega) (by omega)
    have d : 1 * 1 ≤ size3u M k n * (highOf M k n - lowOf M k n + 1) := Int.mul_le_mul a.1 (by omega) (by omega) (by omega)
    refine ⟨by simp only [size3u]; omega, ?_⟩
    have e : (100 : Int) ^ (n + 1) = 100 ^ n * 100 := Int.pow_succ _ _
    simp only [size3u]
    omega
theorem size3_u (M : zM) (k : Int) : size3u M k 3 = size3 M k := by
  simp [size3u, size3]
abbrev isCoin (M : zM) (k w b r : Int) : Prop := (lowOf M k 0 ≤ w ∧ w ≤ highOf M k 0) ∧ (lowOf M k 1 ≤ b ∧ b ≤ highOf M k 1) ∧ (lowOf M k 2 ≤ r ∧ r ≤ highOf M k 2)
def sp_X7_isCoin (as : List zV) (M : zM) (Q : Option zV → zM → Prop) : Prop := ∃ (k w b r : Int), as = [zR 2, zI k, zI w, zI b, zI r] ∧ (ICs M) ∧ (0 ≤ k) ∧ (k < 8) ∧ Q (some (zI (b01 (isCoin M k w b r)))) (M)
theorem us_X7_isCoin {k w b r : Int} {M : zM} {Q : Option zV → zM → Prop} (hI : ICs M) (h0 : 0 ≤ k) (h1 : k < 8) (h99 : Q (some (zI (b01 (isCoin M k w b r)))) (M)) : sp_X7_isCoin [zR 2, zI k, zI w, zI b, zI r] M Q := ⟨k, w, b, r, rfl, hI, h0, h1, h99⟩
set_option maxRecDepth 20000 in
set_option maxHeartbeats 4000000 in
theorem m_X7_isCoin (l : Launch) : zC l yX7_isCoin wzX7_isCoin rmX7_isCoin sp_X7_isCoin := by
  refine zMet.of RX7 (by decide +kernel) rfl rfl ?_
  intro E X as M Qp hX S hsp
  obtain ⟨k, w, b, r, rfl, hI, h0, h1, hQ⟩ := hsp
  refine ⟨Nat.le_of_ble_eq_true rfl, ?_⟩
  dsimp only [zpad, zargs]
  refine zr_iload_n (pc := 0) S dX7_isCoin_0 rfl ?_
  refine zr_i2l (pc := 1) S dX7_isCoin_1 ?_
  refine zr_aload_n (pc := 2) S dX7_isCoin_2 rfl ?_
  refine zr_iload_n (pc := 3) S dX7_isCoin_3 rfl ?_
  refine zr_iconst (pc := 4) S dX7_isCoin_4 (by unfold zrI; omega) ?_
  refine zr_invV (pc := 5) S [zI _, zI _] (m_X7_lowOf _) kX7_isCoin_64 dX7_isCoin_5 rfl (Nat.le_of_ble_eq_true rfl) rfl (Nat.le_of_ble_eq_true rfl) ⟨Nat.le_of_ble_eq_true rfl, Nat.le_of_ble_eq_true rfl⟩ (us_X7_lowOf hI h0 h1 (by decide) (by decide) ?_)
  dsimp only [zaft, Option.toList, List.cons_append, List.nil_append, Nat.add_zero]
  refine zr_i2l (pc := 8) S dX7_isCoin_8 ?_
  refine zr_aload_n (pc := 9) S dX7_isCoin_9 rfl ?_
  refine zr_iload_n (pc := 10) S dX7_isCoin_10 rfl ?_
  refine zr_iconst (pc := 11) S dX7_isCoin_11 (by unfold zrI; omega) ?_
  refine zr_invV (pc := 12) S [zI _, zI _] (m_X7_highOf _) kX7_isCoin_61 dX7_isCoin_12 rfl (Nat.le_of_ble_eq_true rfl) rfl (Nat.le_of_ble_eq_true rfl) ⟨Nat.le_of_ble_eq_true rfl, Nat.le_of_ble_eq_true rfl⟩ (us_X7_highOf hI h0 h1 (by decide) (by decide) ?_)
  dsimp only [zaft, Option.toList, List.cons_append, List.nil_append, Nat.add_zero]
  refine zr_i2l (pc := 15) S dX7_isCoin_15 ?_
  refine zr_invN (pc := 16) S [zL _, zL _, zL _] (m_X11_within _) (List.mem_of_getElem? (i := 2) rfl) kX7_isCoin_44 dX7_isCoin_16 (Nat.le_of_ble_eq_true rfl) ⟨Nat.le_of_ble_eq_true rfl, Nat.le_of_ble_eq_true rfl⟩ (us_X11_within ?_)
  dsimp only [zaft, Option.toList, List.cons_append, List.nil_append, Nat.add_zero]
  refine zr_if_eq (pc := 19) (tgt := 71) S dX7_isCoin_19 (by decide) (fun c19 => ?_) (fun c19 => ?_)
  · rw [b01_0] at c19
    refine zr_iconst (pc := 71) S dX7_isCoin_71 (by unfold zrI; omega) ?_
    exact zr_zret (pc := 72) S dX7_isCoin_72 rfl (by first | omega | exact b01_r) ⟨Nat.le_refl _, Nat.le_refl _⟩ (zqi hQ (by unfold b01; split <;> omega))
  · rw [b01_0, Classical.not_not] at c19
    refine zr_iload_n (pc := 22) S dX7_isCoin_22 rfl ?_
    refine zr_i2l (pc := 23) S dX7_isCoin_23 ?_
    refine zr_aload_n (pc := 24) S dX7_isCoin_24 rfl ?_
    refine zr_iload_n (pc := 25) S dX7_isCoin_25 rfl ?_
    refine zr_iconst (pc := 26) S dX7_isCoin_26 (by unfold zrI; omega) ?_
    refine zr_invV (pc := 27) S [zI _, zI _] (m_X7_lowOf _) kX7_isCoin_64 dX7_isCoin_27 rfl (Nat.le_of_ble_eq_true rfl) rfl (Nat.le_of_ble_eq_true rfl) ⟨Nat.le_of_ble_eq_true rfl, Nat.le_of_ble_eq_true rfl⟩ (us_X7_lowOf hI h0 h1 (by decide) (by decide) ?_)
    dsimp only [zaft, Option.toList, List.cons_append, List.nil_append, Nat.add_zero]
    refine zr_i2l (pc := 30) S dX7_isCoin_30 ?_
    refine zr_aload_n (pc := 31) S dX7_isCoin_31 rfl ?_
    refine zr_iload_n (pc := 32) S dX7_isCoin_32 rfl ?_
    refine zr_iconst (pc := 33) S dX7_isCoin_33 (by unfold zrI; omega) ?_
    refine zr_invV (pc := 34) S [zI _, zI _] (m_X7_highOf _) kX7_isCoin_61 dX7_isCoin_34 rfl (Nat.le_of_ble_eq_true rfl) rfl (Nat.le_of_ble_eq_true rfl) ⟨Nat.le_of_ble_eq_true rfl, Nat.le_of_ble_eq_true rfl⟩ (us_X7_highOf hI h0 h1 (by decide) (by decide) ?_)
    dsimp only [zaft, Option.toList, List.cons_append, List.nil_append, Nat.add_zero]
    refine zr_i2l (pc := 37) S dX7_isCoin_37 ?_
    refine zr_invN (pc := 38) S [zL _, zL _, zL _] (m_X11_within _) (List.mem_of_getElem? (i := 2) rfl) kX7_isCoin_44 dX7_isCoin_38 (Nat.le_of_ble_eq_true rfl) ⟨Nat.le_of_ble_eq_true rfl, Nat.le_of_ble_eq_true rfl⟩ (us_X11_within ?_)
    dsimp only [zaft, Option.toList, List.cons_append, List.nil_append, Nat.add_zero]
    refine zr_if_eq (pc := 41) (tgt := 71) S dX7_isCoin_41 (by decide) (fun c41 => ?_) (fun c41 => ?_)
    · rw [b01_0] at c41
      refine zr_iconst (pc := 71) S dX7_isCoin_71 (by unfold zrI; omega) ?_
      exact zr_zret (pc := 72) S dX7_isCoin_72 rfl (by first | omega | exact b01_r) ⟨Nat.le_refl _, Nat.le_refl _⟩ (zqi hQ (by unfold b01; split <;> omega))
    · rw [b01_0, Classical.not_not] at c41
      refine zr_iload (pc := 44) S dX7_isCoin_44 rfl ?_
      refine zr_i2l (pc := 46) S dX7_isCoin_46 ?_
      refine zr_aload_n (pc := 47) S dX7_isCoin_47 rfl ?_
      refine zr_iload_n (pc := 48) S dX7_isCoin_48 rfl ?_
      refine zr_iconst (pc := 49) S dX7_isCoin_49 (by unfold zrI; omega) ?_
      refine zr_invV (pc := 50) S [zI _, zI _] (m_X7_lowOf _) kX7_isCoin_64 dX7_isCoin_50 rfl (Nat.le_of_ble_eq_true rfl) rfl (Nat.le_of_ble_eq_true rfl) ⟨Nat.le_of_ble_eq_true rfl, Nat.le_of_ble_eq_true rfl⟩ (us_X7_lowOf hI h0 h1 (by decide) (by decide) ?_)
      dsimp only [zaft, Option.toList, List.cons_append, List.nil_append, Nat.add_zero]
      refine zr_i2l (pc := 53) S dX7_isCoin_53 ?_
      refine zr_aload_n (pc := 54) S dX7_isCoin_54 rfl ?_
      refine zr_iload_n (pc := 55) S dX7_isCoin_55 rfl ?_
      refine zr_iconst (pc := 56) S dX7_isCoin_56 (by unfold zrI; omega) ?_
      refine zr_invV (pc := 57) S [zI _, zI _] (m_X7_highOf _) kX7_isCoin_61 dX7_isCoin_57 rfl (Nat.le_of_ble_eq_true rfl) rfl (Nat.le_of_ble_eq_true rfl) ⟨Nat.le_of_ble_eq_true rfl, Nat.le_of_ble_eq_true rfl⟩ (us_X7_highOf hI h0 h1 (by decide) (by decide) ?_)
      dsimp only [zaft, Option.toList, List.cons_append, List.nil_append, Nat.add_zero]
      refine zr_i2l (pc := 60) S dX7_isCoin_60 ?_
      refine zr_invN (pc := 61) S [zL _, zL _, zL _] (m_X11_within _) (List.mem_of_getElem? (i := 2) rfl) kX7_isCoin_44 dX7_isCoin_61 (Nat.le_of_ble_eq_true rfl) ⟨Nat.le_of_ble_eq_true rfl, Nat.le_of_ble_eq_true rfl⟩ (us_X11_within ?_)
      dsimp only [zaft, Option.toList, List.cons_append, List.nil_append, Nat.add_zero]
      refine zr_if_eq (pc := 64) (tgt := 71) S dX7_isCoin_64 (by decide) (fun c64 => ?_) (fun c64 => ?_)
      · rw [b01_0] at c64
        refine zr_iconst (pc := 71) S dX7_isCoin_71 (by unfold zrI; omega) ?_
        exact zr_zret (pc := 72) S dX7_isCoin_72 rfl (by first | omega | exact b01_r) ⟨Nat.le_refl _, Nat.le_refl _⟩ (zqi hQ (by unfold b01; split <;> omega))
      · rw [b01_0, Classical.not_not] at c64
        refine zr_iconst (pc := 67) S dX7_isCoin_67 (by unfold zrI; omega) ?_
        refine zr_goto (pc := 68) (tgt := 72) S dX7_isCoin_68 (by decide) ?_
        exact zr_zret (pc := 72) S dX7_isCoin_72 rfl (by first | omega | exact b01_r) ⟨Nat.le_refl _, Nat.le_refl _⟩ (zqi hQ (by unfold b01; split <;> omega))
theorem lp_X7_size {E : zE} {X : zX} {Qp : Option zV → zM → Prop} {M : zM} {k : Int} (S : zS (zg E) X cX7_size 5 wzX7_size RX7 (some .long)) (hI : ICs M) (h0 : 0 ≤ k) (h1 : k < 8) (hQ : Qp (some (zL (size3 M k))) M) : ∀ (n : Nat) (i : Nat), n + i = 3 → zK (zg E) rmX7_size 5 (Qp, 0, 0) X (0, 0) 5 [some (zR 2), some (zI k), some (zL (size3u M k i)), none, some (zI i)] [] M := by
  intro n
  induction n with
  | zero =>
    intro i hi
    have e : i = 3 := by omega
    subst e
    refine zr_iload (pc := 5) S dX7_size_5 rfl ?_
    refine zr_iconst (pc := 7) S dX7_size_7 (by unfold zrI; omega) ?_
    refine zr_icmp_ge (pc := 8) (tgt := 38) S dX7_size_8 (by decide) (fun c8 => ?_) (fun c8 => absurd c8 (by omega))
    refine zr_lload_n (pc := 38) S dX7_size_38 rfl ?_
    exact zr_lret (pc := 39) S dX7_size_39 rfl ⟨Nat.le_refl _, Nat.le_refl _⟩ (zql hQ (size3_u M k))
  | succ n ih =>
    intro i hi
    have a := size3u_r hI h0 h1 i (by omega)
    have b := size3u_r hI h0 h1 (i + 1) (by omega)
    have c := span_r hI h0 h1 (m := i) (by omega) (by omega)
    have d : (100 : Int) ^ (i + 1) ≤ 1000000 := by
      have : i = 0 ∨ i = 1 ∨ i = 2 := by omega
      rcases this with rfl | rfl | rfl <;> decide
    refine zr_iload (pc := 5) S dX7_size_5 rfl ?_
    refine zr_iconst (pc := 7) S dX7_size_7 (by unfold zrI; omega) ?_
    refine zr_icmp_ge (pc := 8) (tgt := 38) S dX7_size_8 (by decide) (fun c8 => absurd c8 (by omega)) (fun c8 => ?_)
    refine zr_lload_n (pc := 11) S dX7_size_11 rfl ?_
    refine zr_aload_n (pc := 12) S dX7_size_12 rfl ?_
    refine zr_iload_n (pc := 13) S dX7_size_13 rfl ?_
    refine zr_iload (pc := 14) S dX7_size_14 rfl ?_
    refine zr_invV (pc := 16) S [zI _, zI _] (m_X7_highOf _) kX7_size_61 dX7_size_16 rfl (Nat.le_of_ble_eq_true rfl) rfl (Nat.le_of_ble_eq_true rfl) ⟨Nat.le_of_ble_eq_true rfl, Nat.le_of_ble_eq_true rfl⟩ (us_X7_highOf hI h0 h1 (by omega) (by omega) ?_)
    dsimp only [zaft, Option.toList, List.cons_append, List.nil_append, Nat.add_zero]
    refine zr_aload_n (pc := 19) S dX7_size_19 rfl ?_
    refine zr_iload_n (pc := 20) S dX7_size_20 rfl ?_
    refine zr_iload (pc := 21) S dX7_size_21 rfl ?_
    refine zr_invV (pc := 23) S [zI _, zI _] (m_X7_lowOf _) kX7_size_64 dX7_size_23 rfl (Nat.le_of_ble_eq_true rfl) rfl (Nat.le_of_ble_eq_true rfl) ⟨Nat.le_of_ble_eq_true rfl, Nat.le_of_ble_eq_true rfl⟩ (us_X7_lowOf hI h0 h1 (by omega) (by omega) ?_)
    dsimp only [zaft, Option.toList, List.cons_append, List.nil_append, Nat.add_zero]
    refine zr_isub (pc := 26) S dX7_size_26 (by unfold zrI; omega) ?_
    refine zr_iconst (pc := 27) S dX7_size_27 (by unfold zrI; omega) ?_
    refine zr_iadd (pc := 28) S dX7_size_28 (by unfold zrI; omega) ?_
    refine zr_i2l (pc := 29) S dX7_size_29 ?_
    refine zr_lmul (pc := 30) S dX7_size_30 (by show zrL (size3u M k (i + 1)); unfold zrL; omega) ?_
    refine zr_lstore_n (pc := 31) S 2 dX7_size_31 rfl (by decide) ?_
    dsimp only [zst1, zst2, zset, zget, zlong]
    refine zr_iinc (pc := 32) S dX7_size_32 rfl (by unfold zrI; omega) (by decide) ?_
    dsimp only [zst1, zst2, zset, zget, zlong]
    refine zr_goto (pc := 35) (tgt := 5) S dX7_size_35 (by decide) ?_
    exact ih (i + 1) (by omega)
def sp_X7_size (as : List zV) (M : zM) (Q : Option zV → zM → Prop) : Prop := ∃ (k : Int), as = [zR 2, zI k] ∧ (ICs M) ∧ (0 ≤ k) ∧ (k < 8) ∧ Q (some (zL (size3 M k))) (M)
theorem us_X7_size {k : Int} {M : zM} {Q : Option zV → zM → Prop} (hI : ICs M) (h0 : 0 ≤ k) (h1 : k < 8) (h99 : Q (some (zL (size3 M k))) (M)) : sp_X7_size [zR 2, zI k] M Q := ⟨k, rfl, hI, h0, h1, h99⟩
set_option maxRecDepth 20000 in
set_option maxHeartbeats 4000000 in
theorem m_X7_size (l : Launch) : zC l yX7_size wzX7_size rmX7_size sp_X7_size := by
  refine zMet.of RX7 (by decide +kernel) rfl rfl ?_
  intro E X as M Qp hX S hsp
  obtain ⟨k, rfl, hI, h0, h1, hQ⟩ := hsp
  refine ⟨Nat.le_of_ble_eq_true rfl, ?_⟩
  dsimp only [zpad, zargs]
  refine zr_lconst1 (pc := 0) S dX7_size_0 ?_
  refine zr_lstore_n (pc := 1) S 2 dX7_size_1 rfl (by decide) ?_
  dsimp only [zst1, zst2, zset, zget, zlong]
  refine zr_iconst (pc := 2) S dX7_size_2 (by unfold zrI; omega) ?_
  refine zr_istore (pc := 3) S dX7_size_3 (by decide) ?_
  dsimp only [zst1, zst2, zset, zget, zlong]
  exact lp_X7_size S hI h0 h1 hQ 3 0 rfl
def addSort (M : zM) (v a b : Int) : zM := zup (zup (zup (zup M 4 (M 2 0).toNat v) 5 (M 2 0).toNat a) 6 (M 2 0).toNat b) 2 0 (M 2 0 + 1)
def sp_X7_add (as : List zV) (M : zM) (Q : Option zV → zM → Prop) : Prop := ∃ (v a b : Int), as = [zR 2, zI v, zI a, zI b] ∧ (0 ≤ M 2 0 ∧ M 2 0 ≤ 8) ∧ Q (some (zI (if 8 ≤ M 2 0 then -1 else M 2 0))) (if 8 ≤ M 2 0 then M else addSort M v a b)
theorem us_X7_add {v a b : Int} {M : zM} {Q : Option zV → zM → Prop} (h0 : 0 ≤ M 2 0 ∧ M 2 0 ≤ 8) (h99 : Q (some (zI (if 8 ≤ M 2 0 then -1 else M 2 0))) (if 8 ≤ M 2 0 then M else addSort M v a b)) : sp_X7_add [zR 2, zI v, zI a, zI b] M Q := ⟨v, a, b, rfl, h0, h99⟩
set_option maxRecDepth 20000 in
set_option maxHeartbeats 4000000 in
theorem m_X7_add (l : Launch) : zC l yX7_add wzX7_add rmX7_add sp_X7_add := by
  refine zMet.of RX7 (by decide +kernel) rfl rfl ?_
  intro E X as M Qp hX S hsp
  obtain ⟨v, a, b, rfl, h0, hQ⟩ := hsp
  refine ⟨Nat.le_of_ble_eq_true rfl, ?_⟩
  dsimp only [zpad, zargs]
  refine zr_aload_n (pc := 0) S dX7_add_0 rfl ?_
  refine zr_getI (pc := 1) S fX7_add_36 dX7_add_1 rfl (Nat.le_of_ble_eq_true rfl) rfl ?_
  refine zr_bipush (pc := 4) S dX7_add_4 ⟨by unfold zrI; omega, by decide⟩ ?_
  refine zr_icmp_lt (pc := 6) (tgt := 11) S dX7_add_6 (by decide) (fun c6 => ?_) (fun c6 => ?_)
  · rw [if_neg (by omega), if_neg (by omega)] at hQ
    refine zr_aload_n (pc := 11) S dX7_add_11 rfl ?_
    refine zr_getR (pc := 12) S fX7_add_15 dX7_add_12 rfl (Nat.le_of_ble_eq_true rfl) rfl ?_
    refine zr_aload_n (pc := 15) S dX7_add_15 rfl ?_
    refine zr_getI (pc := 16) S fX7_add_36 dX7_add_16 rfl (Nat.le_of_ble_eq_true rfl) rfl ?_
    refine zr_iload_n (pc := 19) S dX7_add_19 rfl ?_
    refine zr_iastore (pc := 20) S dX7_add_20 rfl (Nat.le_of_ble_eq_true rfl) (by omega) (by omega) ?_
    refine zr_aload_n (pc := 21) S dX7_add_21 rfl ?_
    refine zr_getR (pc := 22) S fX7_add_18 dX7_add_22 rfl (Nat.le_of_ble_eq_true rfl) rfl ?_
    try simp only [zup_k, zup_e, ne_eq, Nat.reduceEqDiff, not_false_eq_true, zup_j]
    refine zr_aload_n (pc := 25) S dX7_add_25 rfl ?_
    refine zr_getI (pc := 26) S fX7_add_36 dX7_add_26 rfl (Nat.le_of_ble_eq_true rfl) rfl ?_
    try simp only [zup_k, zup_e, ne_eq, Nat.reduceEqDiff, not_false_eq_true, zup_j]
    refine zr_iload_n (pc := 29) S dX7_add_29 rfl ?_
    refine zr_iastore (pc := 30) S dX7_add_30 rfl (Nat.le_of_ble_eq_true rfl) (by omega) (by omega) ?_
    refine zr_aload_n (pc := 31) S dX7_add_31 rfl ?_
    refine zr_getR (pc := 32) S fX7_add_21 dX7_add_32 rfl (Nat.le_of_ble_eq_true rfl) rfl ?_
    try simp only [zup_k, zup_e, ne_eq, Nat.reduceEqDiff, not_false_eq_true, zup_j]
    refine zr_aload_n (pc := 35) S dX7_add_35 rfl ?_
    refine zr_getI (pc := 36) S fX7_add_36 dX7_add_36 rfl (Nat.le_of_ble_eq_true rfl) rfl ?_
    try simp only [zup_k, zup_e, ne_eq, Nat.reduceEqDiff, not_false_eq_true, zup_j]
    refine zr_iload_n (pc := 39) S dX7_add_39 rfl ?_
    refine zr_iastore (pc := 40) S dX7_add_40 rfl (Nat.le_of_ble_eq_true rfl) (by omega) (by omega) ?_
    refine zr_aload_n (pc := 41) S dX7_add_41 rfl ?_
    refine zr_dup (pc := 42) S dX7_add_42 rfl ?_
    refine zr_getI (pc := 43) S fX7_add_36 dX7_add_43 rfl (Nat.le_of_ble_eq_true rfl) rfl ?_
    try simp only [zup_k, zup_e, ne_eq, Nat.reduceEqDiff, not_false_eq_true, zup_j]
    refine zr_iconst (pc := 46) S dX7_add_46 (by unfold zrI; omega) ?_
    refine zr_iadd (pc := 47) S dX7_add_47 (by unfold zrI; omega) ?_
    refine zr_putI (pc := 48) S pX7_add_36 dX7_add_48 rfl (Nat.le_of_ble_eq_true rfl) rfl ?_
    refine zr_aload_n (pc := 51) S dX7_add_51 rfl ?_
    refine zr_getI (pc := 52) S fX7_add_36 dX7_add_52 rfl (Nat.le_of_ble_eq_true rfl) rfl ?_
    try simp only [zup_k, zup_e, ne_eq, Nat.reduceEqDiff, not_false_eq_true, zup_j]
    refine zr_iconst (pc := 55) S dX7_add_55 (by unfold zrI; omega) ?_
    refine zr_isub (pc := 56) S dX7_add_56 (by unfold zrI; omega) ?_
    exact zr_iret (pc := 57) S dX7_add_57 rfl ⟨Nat.le_refl _, Nat.le_refl _⟩ (zqi hQ (by simp [zup]))
  · rw [if_pos c6, if_pos c6] at hQ
    refine zr_iconst (pc := 9) S dX7_add_9 (by unfold zrI; omega) ?_
    exact zr_iret (pc := 10) S dX7_add_10 rfl ⟨Nat.le_refl _, Nat.le_refl _⟩ (zqi hQ (by simp [zup]))
end
