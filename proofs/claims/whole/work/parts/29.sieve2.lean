section
/-- whether a coin is within gate g -/
def vAt (M : zM) (w b r : Int) (g : Nat) : Int := if M 12 g = 0 then w else if M 12 g = 1 then b else r
def inG (M : zM) (w b r : Int) (g : Nat) : Bool := decide (lowAt M g ≤ vAt M w b r g ∧ vAt M w b r g ≤ highAt M g)
def bitsU (p : Nat → Bool) : Nat → Nat
  | 0 => 0
  | i + 1 => if p i = true then bitsU p i ||| 2 ^ i else bitsU p i
theorem bitsU_tb (p : Nat → Bool) : ∀ i g, (bitsU p i).testBit g = (decide (g < i) && p g)
  | 0, g => by simp [bitsU]
  | i + 1, g => by
    have a := bitsU_tb p i g
    simp only [bitsU]
    by_cases hp : p i = true
    · rw [if_pos hp, Nat.testBit_or, a, Nat.testBit_two_pow]
      by_cases hg : g = i
      · subst hg; simp [hp]
      · have e : decide (i = g) = false := by simp; omega
        have e2 : decide (g < i + 1) = decide (g < i) := by
          by_cases h : g < i
          · simp [h]; omega
          · simp [h]; omega
        rw [e, e2, Bool.or_false]
    · rw [if_neg hp, a]
      by_cases hg : g = i
      · subst hg; simp [hp]
      · have e2 : decide (g < i + 1) = decide (g < i) := by
          by_cases h : g < i
          · simp [h]; omega
          · simp [h]; omega
        rw [e2]
theorem bitsU_lt (p : Nat → Bool) : ∀ i, bitsU p i < 2 ^ i
  | 0 => by simp [bitsU]
  | i + 1 => by
    have a := bitsU_lt p i
    have e : 2 ^ (i + 1) = 2 * 2 ^ i := by rw [Nat.pow_succ]; omega
    simp only [bitsU]
    split
    · exact Nat.or_lt_two_pow (by omega) (by omega)
    · omega
def takes (M : zM) (w b r : Int) : Int := gw M (inG M w b r) 9 0
theorem takes_bits {M : zM} {w b r : Int} (h : 0 ≤ M 11 0) : gl M (bitsU (inG M w b r) (M 11 0).toNat) = takes M w b r := by
  unfold gl takes
  refine gw_cong (fun g hg => ?_) 9 0
  rw [bitsU_tb]
  have : g < (M 11 0).toNat := by omega
  simp [this]
theorem lp_X6_takes {E : zE} {X : zX} {Qp : Option zV → zM → Prop} {M : zM} {w b r : Int} (S : zS (zg E) X cX6_takes 8 wzX6_takes RX6 (some .int)) (hg : ICg M) (hs : ICs M) (hQ : Qp (some (zI (takes M w b r))) M) : ∀ (n i : Nat) (u v : Option zV), (n : Int) + i = M 11 0 → zK (zg E) rmX6_takes 8 (Qp, 0, 0) X (0, 0) 6 [some (zR 47), some (zI w), some (zI b), some (zI r), some (zI (bitsU (inG M w b r) i : Nat)), some (zI i), u, v] [] M := by
  have h8 := hg.1
  intro n
  induction n with
  | zero =>
    intro i u v hi
    have e : i = (M 11 0).toNat := by omega
    have hl := bitsU_lt (inG M w b r) i
    have hl2 : 2 ^ i ≤ 2 ^ 8 := Nat.pow_le_pow_right (by omega) (by omega)
    have q := takes_bits (w := w) (b := b) (r := r) h8.1
    rw [← e] at q
    refine zr_iload (pc := 6) S dX6_takes_6 rfl ?_
    refine zr_aload_n (pc := 8) S dX6_takes_8 rfl ?_
    refine zr_getR (pc := 9) S fX6_takes_32 dX6_takes_9 rfl (Nat.le_of_ble_eq_true rfl) rfl ?_
    refine zr_getI (pc := 12) S fX6_takes_36 dX6_takes_12 rfl (Nat.le_of_ble_eq_true rfl) rfl ?_
    refine zr_icmp_ge (pc := 15) (tgt := 89) S dX6_takes_15 (by decide) (fun c15 => ?_) (fun c15 => absurd c15 (by omega))
    refine zr_aload_n (pc := 89) S dX6_takes_89 rfl ?_
    refine zr_iload (pc := 90) S dX6_takes_90 rfl ?_
    refine zr_invV (pc := 92) S [zI _] (m_X6_goalOf _) kX6_takes_52 dX6_takes_92 rfl (Nat.le_of_ble_eq_true rfl) rfl (Nat.le_of_ble_eq_true rfl) ⟨Nat.le_of_ble_eq_true rfl, Nat.le_of_ble_eq_true rfl⟩ (us_X6_goalOf hg hs (by omega) ?_)
    dsimp only [zaft, Option.toList, List.cons_append, List.nil_append, Nat.add_zero]
    exact zr_iret (pc := 95) S dX6_takes_95 rfl ⟨Nat.le_refl _, Nat.le_refl _⟩ (zqi hQ q)
  | succ n ih =>
    intro i u v hi
    have a := hg.2 i (by omega)
    have e : (i : Int).toNat = i := Int.toNat_natCast i
    have hl2 : (2 : Int) ^ i ≤ 128 := by
      have : 2 ^ i ≤ 2 ^ 7 := Nat.pow_le_pow_right (by omega) (by omega)
      have e2 : ((2 ^ i : Nat) : Int) = (2 : Int) ^ i := by simp
      omega
    have hl3 : (0 : Int) < 2 ^ i := Int.pow_pos (by omega)
    have e5 : (1 * (2 : Int) ^ i).toNat = 2 ^ i := by
      have e2 : ((2 ^ i : Nat) : Int) = (2 : Int) ^ i := by simp
      omega
    have k := fun u v => ih (i + 1) u v (by omega)
    simp only [bitsU] at k
    have y1 : lowAt M i ≤ vAt M w b r i → vAt M w b r i ≤ highAt M i → inG M w b r i = true := fun h1 h2 => by unfold inG; simp [h1, h2]
    have y2 : vAt M w b r i < lowAt M i ∨ highAt M i < vAt M w b r i → inG M w b r i = false := fun h => by unfold inG; simp; omega
    refine zr_iload (pc := 6) S dX6_takes_6 rfl ?_
    refine zr_aload_n (pc := 8) S dX6_takes_8 rfl ?_
    refine zr_getR (pc := 9) S fX6_takes_32 dX6_takes_9 rfl (Nat.le_of_ble_eq_true rfl) rfl ?_
    refine zr_getI (pc := 12) S fX6_takes_36 dX6_takes_12 rfl (Nat.le_of_ble_eq_true rfl) rfl ?_
    refine zr_icmp_ge (pc := 15) (tgt := 89) S dX6_takes_15 (by decide) (fun c15 => absurd c15 (by omega)) (fun c15 => ?_)
    refine zr_aload_n (pc := 18) S dX6_takes_18 rfl ?_
    refine zr_getR (pc := 19) S fX6_takes_32 dX6_takes_19 rfl (Nat.le_of_ble_eq_true rfl) rfl ?_
    refine zr_getR (pc := 22) S fX6_takes_42 dX6_takes_22 rfl (Nat.le_of_ble_eq_true rfl) rfl ?_
    refine zr_iload (pc := 25) S dX6_takes_25 rfl ?_
    refine zr_iaload (pc := 27) S dX6_takes_27 rfl (Nat.le_of_ble_eq_true rfl) (by omega) (by omega) ?_
    rw [e]
    refine zr_istore (pc := 28) S dX6_takes_28 (by decide) ?_
    dsimp only [zst1, zst2, zset, zget, zlong]
    refine zr_iload (pc := 30) S dX6_takes_30 rfl ?_
    refine zr_if_ne (pc := 32) (tgt := 39) S dX6_takes_32 (by decide) (fun c32 => ?_) (fun c32 => ?_)
    · skip
      refine zr_iload (pc := 39) S dX6_takes_39 rfl ?_
      refine zr_iconst (pc := 41) S dX6_takes_41 (by unfold zrI; omega) ?_
      refine zr_icmp_ne (pc := 42) (tgt := 49) S dX6_takes_42 (by decide) (fun c42 => ?_) (fun c42 => ?_)
      · have hv : vAt M w b r i = r := by unfold vAt; rw [if_neg c32, if_neg c42]
        rw [hv] at y1 y2
        refine zr_iload_n (pc := 49) S dX6_takes_49 rfl ?_
        refine zr_istore (pc := 50) S dX6_takes_50 (by decide) ?_
        dsimp only [zst1, zst2, zset, zget, zlong]
        refine zr_iload (pc := 52) S dX6_takes_52 rfl ?_
        refine zr_aload_n (pc := 54) S dX6_takes_54 rfl ?_
        refine zr_iload (pc := 55) S dX6_takes_55 rfl ?_
        refine zr_invV (pc := 57) S [zI _] (m_X6_lowAt _) kX6_takes_45 dX6_takes_57 rfl (Nat.le_of_ble_eq_true rfl) rfl (Nat.le_of_ble_eq_true rfl) ⟨Nat.le_of_ble_eq_true rfl, Nat.le_of_ble_eq_true rfl⟩ (us_X6_lowAt hg hs (by omega) (by omega) ?_)
        dsimp only [zaft, Option.toList, List.cons_append, List.nil_append, Nat.add_zero]
        rw [e]
        refine zr_icmp_lt (pc := 60) (tgt := 83) S dX6_takes_60 (by decide) (fun c60 => ?_) (fun c60 => ?_)
        · have y3 := y2 (Or.inl c60)
          simp only [y3, Bool.false_eq_true, if_false] at k
          refine zr_iinc (pc := 83) S dX6_takes_83 rfl (by unfold zrI; omega) (by decide) ?_
          dsimp only [zst1, zst2, zset, zget, zlong]
          refine zr_goto (pc := 86) (tgt := 6) S dX6_takes_86 (by decide) ?_
          exact k _ _
        · skip
          refine zr_iload (pc := 63) S dX6_takes_63 rfl ?_
          refine zr_aload_n (pc := 65) S dX6_takes_65 rfl ?_
          refine zr_iload (pc := 66) S dX6_takes_66 rfl ?_
          refine zr_invV (pc := 68) S [zI _] (m_X6_highAt _) kX6_takes_49 dX6_takes_68 rfl (Nat.le_of_ble_eq_true rfl) rfl (Nat.le_of_ble_eq_true rfl) ⟨Nat.le_of_ble_eq_true rfl, Nat.le_of_ble_eq_true rfl⟩ (us_X6_highAt hg hs (by omega) (by omega) ?_)
          dsimp only [zaft, Option.toList, List.cons_append, List.nil_append, Nat.add_zero]
          rw [e]
          refine zr_icmp_gt (pc := 71) (tgt := 83) S dX6_takes_71 (by decide) (fun c71 => ?_) (fun c71 => ?_)
          · have y3 := y2 (Or.inr c71)
            simp only [y3, Bool.false_eq_true, if_false] at k
            refine zr_iinc (pc := 83) S dX6_takes_83 rfl (by unfold zrI; omega) (by decide) ?_
            dsimp only [zst1, zst2, zset, zget, zlong]
            refine zr_goto (pc := 86) (tgt := 6) S dX6_takes_86 (by decide) ?_
            exact k _ _
          · have y3 := y1 c60 c71
            simp only [y3, if_true] at k
            refine zr_iload (pc := 74) S dX6_takes_74 rfl ?_
            refine zr_iconst (pc := 76) S dX6_takes_76 (by unfold zrI; omega) ?_
            refine zr_iload (pc := 77) S dX6_takes_77 rfl ?_
            refine zr_ishl (pc := 79) S dX6_takes_79 (by decide) (by omega) (by omega) (by rw [e]; omega) ?_
            rw [e]
            refine zr_ior (pc := 80) S dX6_takes_80 (by omega) (by omega) ?_
            rw [e5, Int.toNat_natCast]
            refine zr_istore (pc := 81) S dX6_takes_81 (by decide) ?_
            dsimp only [zst1, zst2, zset, zget, zlong]
            refine zr_iinc (pc := 83) S dX6_takes_83 rfl (by unfold zrI; omega) (by decide) ?_
            dsimp only [zst1, zst2, zset, zget, zlong]
            refine zr_goto (pc := 86) (tgt := 6) S dX6_takes_86 (by decide) ?_
            exact k _ _
      · have hv : vAt M w b r i = b := by unfold vAt; rw [if_neg c32, if_pos c42]
        rw [hv] at y1 y2
        refine zr_iload_n (pc := 45) S dX6_takes_45 rfl ?_
        refine zr_goto (pc := 46) (tgt := 50) S dX6_takes_46 (by decide) ?_
        refine zr_istore (pc := 50) S dX6_takes_50 (by decide) ?_
        dsimp only [zst1, zst2, zset, zget, zlong]
        refine zr_iload (pc := 52) S dX6_takes_52 rfl ?_
        refine zr_aload_n (pc := 54) S dX6_takes_54 rfl ?_
        refine zr_iload (pc := 55) S dX6_takes_55 rfl ?_
        refine zr_invV (pc := 57) S [zI _] (m_X6_lowAt _) kX6_takes_45 dX6_takes_57 rfl (Nat.le_of_ble_eq_true rfl) rfl (Nat.le_of_ble_eq_true rfl) ⟨Nat.le_of_ble_eq_true rfl, Nat.le_of_ble_eq_true rfl⟩ (us_X6_lowAt hg hs (by omega) (by omega) ?_)
        dsimp only [zaft, Option.toList, List.cons_append, List.nil_append, Nat.add_zero]
        rw [e]
        refine zr_icmp_lt (pc := 60) (tgt := 83) S dX6_takes_60 (by decide) (fun c60 => ?_) (fun c60 => ?_)
        · have y3 := y2 (Or.inl c60)
          simp only [y3, Bool.false_eq_true, if_false] at k
          refine zr_iinc (pc := 83) S dX6_takes_83 rfl (by unfold zrI; omega) (by decide) ?_
          dsimp only [zst1, zst2, zset, zget, zlong]
          refine zr_goto (pc := 86) (tgt := 6) S dX6_takes_86 (by decide) ?_
          exact k _ _
        · skip
          refine zr_iload (pc := 63) S dX6_takes_63 rfl ?_
          refine zr_aload_n (pc := 65) S dX6_takes_65 rfl ?_
          refine zr_iload (pc := 66) S dX6_takes_66 rfl ?_
          refine zr_invV (pc := 68) S [zI _] (m_X6_highAt _) kX6_takes_49 dX6_takes_68 rfl (Nat.le_of_ble_eq_true rfl) rfl (Nat.le_of_ble_eq_true rfl) ⟨Nat.le_of_ble_eq_true rfl, Nat.le_of_ble_eq_true rfl⟩ (us_X6_highAt hg hs (by omega) (by omega) ?_)
          dsimp only [zaft, Option.toList, List.cons_append, List.nil_append, Nat.add_zero]
          rw [e]
          refine zr_icmp_gt (pc := 71) (tgt := 83) S dX6_takes_71 (by decide) (fun c71 => ?_) (fun c71 => ?_)
          · have y3 := y2 (Or.inr c71)
            simp only [y3, Bool.false_eq_true, if_false] at k
            refine zr_iinc (pc := 83) S dX6_takes_83 rfl (by unfold zrI; omega) (by decide) ?_
            dsimp only [zst1, zst2, zset, zget, zlong]
            refine zr_goto (pc := 86) (tgt := 6) S dX6_takes_86 (by decide) ?_
            exact k _ _
          · have y3 := y1 c60 c71
            simp only [y3, if_true] at k
            refine zr_iload (pc := 74) S dX6_takes_74 rfl ?_
            refine zr_iconst (pc := 76) S dX6_takes_76 (by unfold zrI; omega) ?_
            refine zr_iload (pc := 77) S dX6_takes_77 rfl ?_
            refine zr_ishl (pc := 79) S dX6_takes_79 (by decide) (by omega) (by omega) (by rw [e]; omega) ?_
            rw [e]
            refine zr_ior (pc := 80) S dX6_takes_80 (by omega) (by omega) ?_
            rw [e5, Int.toNat_natCast]
            refine zr_istore (pc := 81) S dX6_takes_81 (by decide) ?_
            dsimp only [zst1, zst2, zset, zget, zlong]
            refine zr_iinc (pc := 83) S dX6_takes_83 rfl (by unfold zrI; omega) (by decide) ?_
            dsimp only [zst1, zst2, zset, zget, zlong]
            refine zr_goto (pc := 86) (tgt := 6) S dX6_takes_86 (by decide) ?_
            exact k _ _
    · have hv : vAt M w b r i = w := by unfold vAt; rw [if_pos c32]
      rw [hv] at y1 y2
      refine zr_iload_n (pc := 35) S dX6_takes_35 rfl ?_
      refine zr_goto (pc := 36) (tgt := 50) S dX6_takes_36 (by decide) ?_
      refine zr_istore (pc := 50) S dX6_takes_50 (by decide) ?_
      dsimp only [zst1, zst2, zset, zget, zlong]
      refine zr_iload (pc := 52) S dX6_takes_52 rfl ?_
      refine zr_aload_n (pc := 54) S dX6_takes_54 rfl ?_
      refine zr_iload (pc := 55) S dX6_takes_55 rfl ?_
      refine zr_invV (pc := 57) S [zI _] (m_X6_lowAt _) kX6_takes_45 dX6_takes_57 rfl (Nat.le_of_ble_eq_true rfl) rfl (Nat.le_of_ble_eq_true rfl) ⟨Nat.le_of_ble_eq_true rfl, Nat.le_of_ble_eq_true rfl⟩ (us_X6_lowAt hg hs (by omega) (by omega) ?_)
      dsimp only [zaft, Option.toList, List.cons_append, List.nil_append, Nat.add_zero]
      rw [e]
      refine zr_icmp_lt (pc := 60) (tgt := 83) S dX6_takes_60 (by decide) (fun c60 => ?_) (fun c60 => ?_)
      · have y3 := y2 (Or.inl c60)
        simp only [y3, Bool.false_eq_true, if_false] at k
        refine zr_iinc (pc := 83) S dX6_takes_83 rfl (by unfold zrI; omega) (by decide) ?_
        dsimp only [zst1, zst2, zset, zget, zlong]
        refine zr_goto (pc := 86) (tgt := 6) S dX6_takes_86 (by decide) ?_
        exact k _ _
      · skip
        refine zr_iload (pc := 63) S dX6_takes_63 rfl ?_
        refine zr_aload_n (pc := 65) S dX6_takes_65 rfl ?_
        refine zr_iload (pc := 66) S dX6_takes_66 rfl ?_
        refine zr_invV (pc := 68) S [zI _] (m_X6_highAt _) kX6_takes_49 dX6_takes_68 rfl (Nat.le_of_ble_eq_true rfl) rfl (Nat.le_of_ble_eq_true rfl) ⟨Nat.le_of_ble_eq_true rfl, Nat.le_of_ble_eq_true rfl⟩ (us_X6_highAt hg hs (by omega) (by omega) ?_)
        dsimp only [zaft, Option.toList, List.cons_append, List.nil_append, Nat.add_zero]
        rw [e]
        refine zr_icmp_gt (pc := 71) (tgt := 83) S dX6_takes_71 (by decide) (fun c71 => ?_) (fun c71 => ?_)
        · have y3 := y2 (Or.inr c71)
          simp only [y3, Bool.false_eq_true, if_false] at k
          refine zr_iinc (pc := 83) S dX6_takes_83 rfl (by unfold zrI; omega) (by decide) ?_
          dsimp only [zst1, zst2, zset, zget, zlong]
          refine zr_goto (pc := 86) (tgt := 6) S dX6_takes_86 (by decide) ?_
          exact k _ _
        · have y3 := y1 c60 c71
          simp only [y3, if_true] at k
          refine zr_iload (pc := 74) S dX6_takes_74 rfl ?_
          refine zr_iconst (pc := 76) S dX6_takes_76 (by unfold zrI; omega) ?_
          refine zr_iload (pc := 77) S dX6_takes_77 rfl ?_
          refine zr_ishl (pc := 79) S dX6_takes_79 (by decide) (by omega) (by omega) (by rw [e]; omega) ?_
          rw [e]
          refine zr_ior (pc := 80) S dX6_takes_80 (by omega) (by omega) ?_
          rw [e5, Int.toNat_natCast]
          refine zr_istore (pc := 81) S dX6_takes_81 (by decide) ?_
          dsimp only [zst1, zst2, zset, zget, zlong]
          refine zr_iinc (pc := 83) S dX6_takes_83 rfl (by unfold zrI; omega) (by decide) ?_
          dsimp only [zst1, zst2, zset, zget, zlong]
          refine zr_goto (pc := 86) (tgt := 6) S dX6_takes_86 (by decide) ?_
          exact k _ _
def sp_X6_takes (as : List zV) (M : zM) (Q : Option zV → zM → Prop) : Prop := ∃ (w b r : Int), as = [zR 47, zI w, zI b, zI r] ∧ (ICg M) ∧ (ICs M) ∧ Q (some (zI (takes M w b r))) (M)
theorem us_X6_takes {w b r : Int} {M : zM} {Q : Option zV → zM → Prop} (hg : ICg M) (hs : ICs M) (h99 : Q (some (zI (takes M w b r))) (M)) : sp_X6_takes [zR 47, zI w, zI b, zI r] M Q := ⟨w, b, r, rfl, hg, hs, h99⟩
set_option maxRecDepth 20000 in
set_option maxHeartbeats 4000000 in
theorem m_X6_takes (l : Launch) : zC l yX6_takes wzX6_takes rmX6_takes sp_X6_takes := by
  refine zMet.of RX6 (by decide +kernel) rfl rfl ?_
  intro E X as M Qp hX S hsp
  obtain ⟨w, b, r, rfl, hg, hs, hQ⟩ := hsp
  refine ⟨Nat.le_of_ble_eq_true rfl, ?_⟩
  dsimp only [zpad, zargs]
  have h8 := hg.1
  refine zr_iconst (pc := 0) S dX6_takes_0 (by unfold zrI; omega) ?_
  refine zr_istore (pc := 1) S dX6_takes_1 (by decide) ?_
  dsimp only [zst1, zst2, zset, zget, zlong]
  refine zr_iconst (pc := 3) S dX6_takes_3 (by unfold zrI; omega) ?_
  refine zr_istore (pc := 4) S dX6_takes_4 (by decide) ?_
  dsimp only [zst1, zst2, zset, zget, zlong]
  exact lp_X6_takes S hg hs hQ (M 11 0).toNat 0 _ _ (by omega)
/-- nothing of the machine's state (its cells below 36) differs -/
def AG (M M' : zM) : Prop := ∀ k : Nat, k < 36 → M' k = M k
theorem AG.g {M M' : zM} (h : AG M M') (hg : ICg M) : ICg M' := by
  unfold ICg at *
  rw [h 11 (by decide), h 12 (by decide), h 13 (by decide), h 14 (by decide), h 15 (by decide), h 16 (by decide)]
  exact hg
theorem AG.s {M M' : zM} (h : AG M M') (hs : ICs M) : ICs M' := by
  unfold ICs at *
  rw [h 2 (by decide), h 3 (by decide), h 4 (by decide), h 9 (by decide), h 10 (by decide), h 7 (by decide), h 8 (by decide)]
  exact hs
theorem AG.good {M M' : zM} (h : AG M M') (k : Int) : isGood M' k ↔ isGood M k := by
  unfold isGood
  rw [h 2 (by decide), h 4 (by decide), h 5 (by decide), h 6 (by decide), h 3 (by decide)]
theorem ag_gw {M M' : zM} (h : AG M M') (p : Nat → Bool) : ∀ f g, gw M' p f g = gw M p f g
  | 0, _ => rfl
  | f + 1, g => by
    have a := ag_gw h p f (g + 1)
    have b := ag_gw h p f (g + 2)
    simp only [gw]
    rw [h 11 (by decide), h 15 (by decide), h 16 (by decide), a, b]
    simp only [AG.good h]
end
