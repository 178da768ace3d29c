section
/-- of the reader only its place (start) has changed -/
def rsM (M U : zM) (p : Nat) : Prop := (∀ k, k ≠ 39 → U k = M k) ∧ (∀ j, j ≠ 7 → U 39 j = M 39 j) ∧ U 39 7 = p
theorem rsM.up {M U : zM} {p : Nat} (h : rsM M U p) : rsM M (zup U 39 7 ((p : Int) + 1)) (p + 1) := ⟨fun k hk => by rw [zup_o k hk]; exact h.1 k hk, fun j hj => by rw [zup_j hj]; exact h.2.1 j hj, by rw [zup_e]; omega⟩
def reM (M U : zM) (p : Nat) : Prop := (∀ k, k ≠ 39 → U k = M k) ∧ (∀ j, j ≠ 8 → U 39 j = M 39 j) ∧ U 39 8 = p
theorem reM.up {M U : zM} {p : Nat} (h : reM M U p) : reM M (zup U 39 8 ((p : Int) + 1)) (p + 1) := ⟨fun k hk => by rw [zup_o k hk]; exact h.1 k hk, fun j hj => by rw [zup_j hj]; exact h.2.1 j hj, by rw [zup_e]; omega⟩
theorem cT_o {M U : zM} (h : U 40 = M 40) : cT U = cT M := by unfold cT; rw [h]
theorem ad1 {E : zE} {X : zX} {Qp : Option zV → zM → Prop} {M : zM} {n s : Nat} (S : zS (zg E) X cX4_advance 1 wzX4_advance RX4 none) (hn : M 39 5 = n) (n4 : n ≤ 400) (hb : ∀ p, -128 ≤ M 40 p ∧ M 40 p < 128) (k : ∀ U, rsM M U s → zK (zg E) rmX4_advance 1 (Qp, 0, 0) X (0, 0) 60 [some (zR 39)] [] U) : ∀ (r p : Nat) (U : zM), r + p = n → run (isBl (cT M) n) n p = s → rsM M U p → zK (zg E) rmX4_advance 1 (Qp, 0, 0) X (0, 0) 8 [some (zR 39)] [] U := by
  intro r
  induction r with
  | zero =>
    intro p U hp hs hU
    have ea := hU.2.2
    have es : U 39 5 = n := by rw [hU.2.1 _ (by decide)]; exact hn
    rw [run_f (fun z => by have := z.1; omega)] at hs
    subst hs
    have l := k U hU
    refine zr_aload_n (pc := 8) S dX4_advance_8 rfl ?_
    refine zr_getI (pc := 9) S fX4_advance_115 dX4_advance_9 rfl (Nat.le_of_ble_eq_true rfl) rfl ?_
    rw [ea]
    refine zr_aload_n (pc := 12) S dX4_advance_12 rfl ?_
    refine zr_getI (pc := 13) S fX4_advance_35 dX4_advance_13 rfl (Nat.le_of_ble_eq_true rfl) rfl ?_
    rw [es]
    refine zr_icmp_ge (pc := 16) (tgt := 60) S dX4_advance_16 (by decide) (fun c16 => ?_) (fun c16 => absurd c16 (by omega))
    exact l
  | succ r ih =>
    intro p U hp hs hU
    have ea := hU.2.2
    have es : U 39 5 = n := by rw [hU.2.1 _ (by decide)]; exact hn
    have et : U 40 = M 40 := hU.1 _ (by decide)
    have ep : (p : Int).toNat = p := Int.toNat_natCast p
    have hbp := hb p
    by_cases c : isBl (cT M) n p
    · rw [run_t c (by omega)] at hs
      have l := ih (p + 1) _ (by omega) hs hU.up
      have c2 := c.2
      unfold cT at c2
      refine zr_aload_n (pc := 8) S dX4_advance_8 rfl ?_
      refine zr_getI (pc := 9) S fX4_advance_115 dX4_advance_9 rfl (Nat.le_of_ble_eq_true rfl) rfl ?_
      rw [ea]
      refine zr_aload_n (pc := 12) S dX4_advance_12 rfl ?_
      refine zr_getI (pc := 13) S fX4_advance_35 dX4_advance_13 rfl (Nat.le_of_ble_eq_true rfl) rfl ?_
      rw [es]
      refine zr_icmp_ge (pc := 16) (tgt := 60) S dX4_advance_16 (by decide) (fun c16 => absurd c16 (by omega)) (fun c16 => ?_)
      refine zr_aload_n (pc := 19) S dX4_advance_19 rfl ?_
      refine zr_getR (pc := 20) S fX4_advance_9 dX4_advance_20 rfl (Nat.le_of_ble_eq_true rfl) rfl ?_
      refine zr_aload_n (pc := 23) S dX4_advance_23 rfl ?_
      refine zr_getI (pc := 24) S fX4_advance_115 dX4_advance_24 rfl (Nat.le_of_ble_eq_true rfl) rfl ?_
      rw [ea]
      refine zr_baload (pc := 27) S dX4_advance_27 rfl (Nat.le_of_ble_eq_true rfl) (by omega) (by omega) ?_
      rw [et, ep]
      refine zr_bipush (pc := 28) S dX4_advance_28 ⟨by unfold zrI; omega, by decide⟩ ?_
      refine zr_icmp_eq (pc := 30) (tgt := 47) S dX4_advance_30 (by decide) (fun c30 => ?_) (fun c30 => ?_)
      · refine zr_aload_n (pc := 47) S dX4_advance_47 rfl ?_
        refine zr_dup (pc := 48) S dX4_advance_48 rfl ?_
        refine zr_getI (pc := 49) S fX4_advance_115 dX4_advance_49 rfl (Nat.le_of_ble_eq_true rfl) rfl ?_
        rw [ea]
        refine zr_iconst (pc := 52) S dX4_advance_52 (by unfold zrI; omega) ?_
        refine zr_iadd (pc := 53) S dX4_advance_53 (by unfold zrI; omega) ?_
        refine zr_putI (pc := 54) S pX4_advance_115 dX4_advance_54 rfl (Nat.le_of_ble_eq_true rfl) rfl ?_
        refine zr_goto (pc := 57) (tgt := 8) S dX4_advance_57 (by decide) ?_
        exact l
      · refine zr_aload_n (pc := 33) S dX4_advance_33 rfl ?_
        refine zr_getR (pc := 34) S fX4_advance_9 dX4_advance_34 rfl (Nat.le_of_ble_eq_true rfl) rfl ?_
        refine zr_aload_n (pc := 37) S dX4_advance_37 rfl ?_
        refine zr_getI (pc := 38) S fX4_advance_115 dX4_advance_38 rfl (Nat.le_of_ble_eq_true rfl) rfl ?_
        rw [ea]
        refine zr_baload (pc := 41) S dX4_advance_41 rfl (Nat.le_of_ble_eq_true rfl) (by omega) (by omega) ?_
        rw [et, ep]
        refine zr_bipush (pc := 42) S dX4_advance_42 ⟨by unfold zrI; omega, by decide⟩ ?_
        refine zr_icmp_ne (pc := 44) (tgt := 60) S dX4_advance_44 (by decide) (fun c44 => absurd c44 (by omega)) (fun c44 => ?_)
        refine zr_aload_n (pc := 47) S dX4_advance_47 rfl ?_
        refine zr_dup (pc := 48) S dX4_advance_48 rfl ?_
        refine zr_getI (pc := 49) S fX4_advance_115 dX4_advance_49 rfl (Nat.le_of_ble_eq_true rfl) rfl ?_
        rw [ea]
        refine zr_iconst (pc := 52) S dX4_advance_52 (by unfold zrI; omega) ?_
        refine zr_iadd (pc := 53) S dX4_advance_53 (by unfold zrI; omega) ?_
        refine zr_putI (pc := 54) S pX4_advance_115 dX4_advance_54 rfl (Nat.le_of_ble_eq_true rfl) rfl ?_
        refine zr_goto (pc := 57) (tgt := 8) S dX4_advance_57 (by decide) ?_
        exact l
    · rw [run_f c] at hs
      subst hs
      have l := k U hU
      have c2 : ¬ (cT M p = 32 ∨ cT M p = 10) := fun z => c ⟨by omega, z⟩
      unfold cT at c2
      refine zr_aload_n (pc := 8) S dX4_advance_8 rfl ?_
      refine zr_getI (pc := 9) S fX4_advance_115 dX4_advance_9 rfl (Nat.le_of_ble_eq_true rfl) rfl ?_
      rw [ea]
      refine zr_aload_n (pc := 12) S dX4_advance_12 rfl ?_
      refine zr_getI (pc := 13) S fX4_advance_35 dX4_advance_13 rfl (Nat.le_of_ble_eq_true rfl) rfl ?_
      rw [es]
      refine zr_icmp_ge (pc := 16) (tgt := 60) S dX4_advance_16 (by decide) (fun c16 => absurd c16 (by omega)) (fun c16 => ?_)
      refine zr_aload_n (pc := 19) S dX4_advance_19 rfl ?_
      refine zr_getR (pc := 20) S fX4_advance_9 dX4_advance_20 rfl (Nat.le_of_ble_eq_true rfl) rfl ?_
      refine zr_aload_n (pc := 23) S dX4_advance_23 rfl ?_
      refine zr_getI (pc := 24) S fX4_advance_115 dX4_advance_24 rfl (Nat.le_of_ble_eq_true rfl) rfl ?_
      rw [ea]
      refine zr_baload (pc := 27) S dX4_advance_27 rfl (Nat.le_of_ble_eq_true rfl) (by omega) (by omega) ?_
      rw [et, ep]
      refine zr_bipush (pc := 28) S dX4_advance_28 ⟨by unfold zrI; omega, by decide⟩ ?_
      refine zr_icmp_eq (pc := 30) (tgt := 47) S dX4_advance_30 (by decide) (fun c30 => absurd c30 (by omega)) (fun c30 => ?_)
      refine zr_aload_n (pc := 33) S dX4_advance_33 rfl ?_
      refine zr_getR (pc := 34) S fX4_advance_9 dX4_advance_34 rfl (Nat.le_of_ble_eq_true rfl) rfl ?_
      refine zr_aload_n (pc := 37) S dX4_advance_37 rfl ?_
      refine zr_getI (pc := 38) S fX4_advance_115 dX4_advance_38 rfl (Nat.le_of_ble_eq_true rfl) rfl ?_
      rw [ea]
      refine zr_baload (pc := 41) S dX4_advance_41 rfl (Nat.le_of_ble_eq_true rfl) (by omega) (by omega) ?_
      rw [et, ep]
      refine zr_bipush (pc := 42) S dX4_advance_42 ⟨by unfold zrI; omega, by decide⟩ ?_
      refine zr_icmp_ne (pc := 44) (tgt := 60) S dX4_advance_44 (by decide) (fun c44 => ?_) (fun c44 => absurd c44 (by omega))
      exact l
theorem ad2 {E : zE} {X : zX} {Qp : Option zV → zM → Prop} {M : zM} {n s : Nat} (S : zS (zg E) X cX4_advance 1 wzX4_advance RX4 none) (hn : M 39 5 = n) (n4 : n ≤ 400) (k : ∀ U, reM M U s → Qp none U) : ∀ (r p : Nat) (U : zM), r + p = n → run (isLe (cT M) n) n p = s → reM M U p → zK (zg E) rmX4_advance 1 (Qp, 0, 0) X (0, 0) 103 [some (zR 39)] [] U := by
  intro r
  induction r with
  | zero =>
    intro p U hp hs hU
    have ea := hU.2.2
    have es : U 39 5 = n := by rw [hU.2.1 _ (by decide)]; exact hn
    rw [run_f (fun z => by have := z.1; omega)] at hs
    subst hs
    have l := k U hU
    refine zr_aload_n (pc := 103) S dX4_advance_103 rfl ?_
    refine zr_getI (pc := 104) S fX4_advance_38 dX4_advance_104 rfl (Nat.le_of_ble_eq_true rfl) rfl ?_
    rw [ea]
    refine zr_aload_n (pc := 107) S dX4_advance_107 rfl ?_
    refine zr_getI (pc := 108) S fX4_advance_35 dX4_advance_108 rfl (Nat.le_of_ble_eq_true rfl) rfl ?_
    rw [es]
    refine zr_icmp_ge (pc := 111) (tgt := 189) S dX4_advance_111 (by decide) (fun c111 => ?_) (fun c111 => absurd c111 (by omega))
    exact zr_vret (pc := 189) S dX4_advance_189 rfl ⟨Nat.le_refl _, Nat.le_refl _⟩ (l)
  | succ r ih =>
    intro p U hp hs hU
    have ea := hU.2.2
    have es : U 39 5 = n := by rw [hU.2.1 _ (by decide)]; exact hn
    have et : cT U = cT M := cT_o (hU.1 _ (by decide))
    by_cases c : isLe (cT M) n p
    · rw [run_t c (by omega)] at hs
      have l := ih (p + 1) _ (by omega) hs hU.up
      have c2 := c.2
      refine zr_aload_n (pc := 103) S dX4_advance_103 rfl ?_
      refine zr_getI (pc := 104) S fX4_advance_38 dX4_advance_104 rfl (Nat.le_of_ble_eq_true rfl) rfl ?_
      rw [ea]
      refine zr_aload_n (pc := 107) S dX4_advance_107 rfl ?_
      refine zr_getI (pc := 108) S fX4_advance_35 dX4_advance_108 rfl (Nat.le_of_ble_eq_true rfl) rfl ?_
      rw [es]
      refine zr_icmp_ge (pc := 111) (tgt := 189) S dX4_advance_111 (by decide) (fun c111 => absurd c111 (by omega)) (fun c111 => ?_)
      refine zr_aload_n (pc := 114) S dX4_advance_114 rfl ?_
      refine zr_aload_n (pc := 115) S dX4_advance_115 rfl ?_
      refine zr_getI (pc := 116) S fX4_advance_38 dX4_advance_116 rfl (Nat.le_of_ble_eq_true rfl) rfl ?_
      rw [ea]
      refine zr_invV (pc := 119) S [zI _] (m_X4_isLetter _) kX4_advance_127 dX4_advance_119 rfl (Nat.le_of_ble_eq_true rfl) rfl (Nat.le_of_ble_eq_true rfl) ⟨Nat.le_of_ble_eq_true rfl, Nat.le_of_ble_eq_true rfl⟩ (us_X4_isLetter (p := p) (by omega) ?_)
      dsimp only [zaft, Option.toList, List.cons_append, List.nil_append, Nat.add_zero]
      rw [et, b01_t c2]
      refine zr_if_eq (pc := 122) (tgt := 189) S dX4_advance_122 (by decide) (fun c122 => absurd c122 (by omega)) (fun c122 => ?_)
      refine zr_aload_n (pc := 125) S dX4_advance_125 rfl ?_
      refine zr_dup (pc := 126) S dX4_advance_126 rfl ?_
      refine zr_getI (pc := 127) S fX4_advance_38 dX4_advance_127 rfl (Nat.le_of_ble_eq_true rfl) rfl ?_
      rw [ea]
      refine zr_iconst (pc := 130) S dX4_advance_130 (by unfold zrI; omega) ?_
      refine zr_iadd (pc := 131) S dX4_advance_131 (by unfold zrI; omega) ?_
      refine zr_putI (pc := 132) S pX4_advance_38 dX4_advance_132 rfl (Nat.le_of_ble_eq_true rfl) rfl ?_
      refine zr_goto (pc := 135) (tgt := 103) S dX4_advance_135 (by decide) ?_
      exact l
    · rw [run_f c] at hs
      subst hs
      have l := k U hU
      have c2 : ¬ (97 ≤ cT M p ∧ cT M p ≤ 122) := fun z => c ⟨by omega, z⟩
      refine zr_aload_n (pc := 103) S dX4_advance_103 rfl ?_
      refine zr_getI (pc := 104) S fX4_advance_38 dX4_advance_104 rfl (Nat.le_of_ble_eq_true rfl) rfl ?_
      rw [ea]
      refine zr_aload_n (pc := 107) S dX4_advance_107 rfl ?_
      refine zr_getI (pc := 108) S fX4_advance_35 dX4_advance_108 rfl (Nat.le_of_ble_eq_true rfl) rfl ?_
      rw [es]
      refine zr_icmp_ge (pc := 111) (tgt := 189) S dX4_advance_111 (by decide) (fun c111 => absurd c111 (by omega)) (fun c111 => ?_)
      refine zr_aload_n (pc := 114) S dX4_advance_114 rfl ?_
      refine zr_aload_n (pc := 115) S dX4_advance_115 rfl ?_
      refine zr_getI (pc := 116) S fX4_advance_38 dX4_advance_116 rfl (Nat.le_of_ble_eq_true rfl) rfl ?_
      rw [ea]
      refine zr_invV (pc := 119) S [zI _] (m_X4_isLetter _) kX4_advance_127 dX4_advance_119 rfl (Nat.le_of_ble_eq_true rfl) rfl (Nat.le_of_ble_eq_true rfl) ⟨Nat.le_of_ble_eq_true rfl, Nat.le_of_ble_eq_true rfl⟩ (us_X4_isLetter (p := p) (by omega) ?_)
      dsimp only [zaft, Option.toList, List.cons_append, List.nil_append, Nat.add_zero]
      rw [et, b01_f c2]
      refine zr_if_eq (pc := 122) (tgt := 189) S dX4_advance_122 (by decide) (fun c122 => ?_) (fun c122 => absurd c122 (by omega))
      exact zr_vret (pc := 189) S dX4_advance_189 rfl ⟨Nat.le_refl _, Nat.le_refl _⟩ (l)
/-- of the reader only end and number have changed -/
def rnM (M U : zM) (p : Nat) (v : Int) : Prop := (∀ k, k ≠ 39 → U k = M k) ∧ (∀ j, j ≠ 8 → j ≠ 9 → U 39 j = M 39 j) ∧ U 39 8 = p ∧ U 39 9 = v
theorem rnM.up {M U : zM} {p : Nat} {v w : Int} (h : rnM M U p v) : rnM M (zup (zup U 39 9 w) 39 8 ((p : Int) + 1)) (p + 1) w := ⟨fun k hk => by rw [zup_o k hk, zup_o k hk]; exact h.1 k hk, fun j hj h2 => by rw [zup_j hj, zup_j h2]; exact h.2.1 j hj h2, by rw [zup_e]; omega, by rw [zup_j (by decide), zup_e]⟩
theorem rn5 {E : zE} {X : zX} {Qp : Option zV → zM → Prop} {M : zM} {n s e : Nat} (S : zS (zg E) X cX4_readNumber 1 wzX4_readNumber RX4 none) (hn : M 39 5 = n) (n4 : n ≤ 400) (hb : ∀ p, -128 ≤ M 40 p ∧ M 40 p < 128) (hD : ∀ q, s ≤ q → q < e → isDi (cT M) n q) (k : ∀ U v, rnM M U e v → (e - s ≤ 2 → v = tV (cT M) s e) → zK (zg E) rmX4_readNumber 1 (Qp, 0, 0) X (0, 0) 68 [some (zR 39)] [] U) : ∀ (r p : Nat) (U : zM) (v : Int), r + p = n → s ≤ p → run (isDi (cT M) n) n p = e → rnM M U p v → (0 ≤ v ∧ v ≤ 1008) → (p - s ≤ 2 → v = tV (cT M) s p) → zK (zg E) rmX4_readNumber 1 (Qp, 0, 0) X (0, 0) 5 [some (zR 39)] [] U := by
  intro r
  induction r with
  | zero =>
    intro p U v hp hsp hs hU hv h2
    have ea := hU.2.2.1
    have es : U 39 5 = n := by rw [hU.2.1 _ (by decide) (by decide)]; exact hn
    rw [run_f (fun z => by have := z.1; omega)] at hs
    subst hs
    have l := k U v hU h2
    refine zr_aload_n (pc := 5) S dX4_readNumber_5 rfl ?_
    refine zr_getI (pc := 6) S fX4_readNumber_38 dX4_readNumber_6 rfl (Nat.le_of_ble_eq_true rfl) rfl ?_
    rw [ea]
    refine zr_aload_n (pc := 9) S dX4_readNumber_9 rfl ?_
    refine zr_getI (pc := 10) S fX4_readNumber_35 dX4_readNumber_10 rfl (Nat.le_of_ble_eq_true rfl) rfl ?_
    rw [es]
    refine zr_icmp_ge (pc := 13) (tgt := 68) S dX4_readNumber_13 (by decide) (fun c13 => ?_) (fun c13 => absurd c13 (by omega))
    exact l
  | succ r ih =>
    intro p U v hp hsp hs hU hv h2
    have ea := hU.2.2.1
    have evl := hU.2.2.2
    have es : U 39 5 = n := by rw [hU.2.1 _ (by decide) (by decide)]; exact hn
    have et : U 40 = M 40 := hU.1 _ (by decide)
    have ec : cT U = cT M := cT_o et
    have ep : (p : Int).toNat = p := Int.toNat_natCast p
    have hbp := hb p
    by_cases c : isDi (cT M) n p
    · rw [run_t c (by omega)] at hs
      have pe : p < e := by have := (run_r (P := isDi (cT M) n) (n := n) (p := p + 1) (by omega)).1; omega
      have c2 := c.2
      have c3 := c2
      unfold cT at c3
      have cv : cT M p = M 40 p := by unfold cT; omega
      have l := ih (p + 1) _ (v * 10 % 1000 + M 40 p - 48) (by omega) (by omega) hs hU.up (by omega) (fun h3 => by
        have h4 := h2 (by omega)
        by_cases c4 : p = s
        · subst c4
          unfold tV at h4 ⊢
          rw [if_pos (by omega)] at h4
          rw [if_neg (by omega), if_pos (by omega), cv]
          omega
        · have c5 : p = s + 1 := by omega
          subst c5
          have ds := (hD s (by omega) (by omega)).2
          unfold tV at h4 ⊢
          rw [if_neg (by omega), if_pos (by omega)] at h4
          rw [if_neg (by omega), if_neg (by omega), cv]
          omega)
      refine zr_aload_n (pc := 5) S dX4_readNumber_5 rfl ?_
      refine zr_getI (pc := 6) S fX4_readNumber_38 dX4_readNumber_6 rfl (Nat.le_of_ble_eq_true rfl) rfl ?_
      rw [ea]
      refine zr_aload_n (pc := 9) S dX4_readNumber_9 rfl ?_
      refine zr_getI (pc := 10) S fX4_readNumber_35 dX4_readNumber_10 rfl (Nat.le_of_ble_eq_true rfl) rfl ?_
      rw [es]
      refine zr_icmp_ge (pc := 13) (tgt := 68) S dX4_readNumber_13 (by decide) (fun c13 => absurd c13 (by omega)) (fun c13 => ?_)
      refine zr_aload_n (pc := 16) S dX4_readNumber_16 rfl ?_
      refine zr_aload_n (pc := 17) S dX4_readNumber_17 rfl ?_
      refine zr_getI (pc := 18) S fX4_readNumber_38 dX4_readNumber_18 rfl (Nat.le_of_ble_eq_true rfl) rfl ?_
      rw [ea]
      refine zr_invV (pc := 21) S [zI _] (m_X4_isDigit _) kX4_readNumber_130 dX4_readNumber_21 rfl (Nat.le_of_ble_eq_true rfl) rfl (Nat.le_of_ble_eq_true rfl) ⟨Nat.le_of_ble_eq_true rfl, Nat.le_of_ble_eq_true rfl⟩ (us_X4_isDigit (p := p) (by omega) ?_)
      dsimp only [zaft, Option.toList, List.cons_append, List.nil_append, Nat.add_zero]
      rw [ec, b01_t c2]
      refine zr_if_eq (pc := 24) (tgt := 68) S dX4_readNumber_24 (by decide) (fun c24 => absurd c24 (by omega)) (fun c24 => ?_)
      refine zr_aload_n (pc := 27) S dX4_readNumber_27 rfl ?_
      refine zr_aload_n (pc := 28) S dX4_readNumber_28 rfl ?_
      refine zr_getI (pc := 29) S fX4_readNumber_101 dX4_readNumber_29 rfl (Nat.le_of_ble_eq_true rfl) rfl ?_
      rw [evl]
      refine zr_bipush (pc := 32) S dX4_readNumber_32 ⟨by unfold zrI; omega, by decide⟩ ?_
      refine zr_imul (pc := 34) S dX4_readNumber_34 (by unfold zrI; omega) ?_
      refine zr_sipush (pc := 35) S dX4_readNumber_35 ⟨by unfold zrI; omega, by decide⟩ ?_
      refine zr_irem (pc := 38) S dX4_readNumber_38 (by omega) (by omega) ?_
      refine zr_aload_n (pc := 39) S dX4_readNumber_39 rfl ?_
      refine zr_getR (pc := 40) S fX4_readNumber_9 dX4_readNumber_40 rfl (Nat.le_of_ble_eq_true rfl) rfl ?_
      refine zr_aload_n (pc := 43) S dX4_readNumber_43 rfl ?_
      refine zr_getI (pc := 44) S fX4_readNumber_38 dX4_readNumber_44 rfl (Nat.le_of_ble_eq_true rfl) rfl ?_
      rw [ea]
      refine zr_baload (pc := 47) S dX4_readNumber_47 rfl (Nat.le_of_ble_eq_true rfl) (by omega) (by omega) ?_
      rw [et, ep]
      refine zr_iadd (pc := 48) S dX4_readNumber_48 (by unfold zrI; omega) ?_
      refine zr_bipush (pc := 49) S dX4_readNumber_49 ⟨by unfold zrI; omega, by decide⟩ ?_
      refine zr_isub (pc := 51) S dX4_readNumber_51 (by unfold zrI; omega) ?_
      refine zr_putI (pc := 52) S pX4_readNumber_101 dX4_readNumber_52 rfl (Nat.le_of_ble_eq_true rfl) rfl ?_
      refine zr_aload_n (pc := 55) S dX4_readNumber_55 rfl ?_
      refine zr_dup (pc := 56) S dX4_readNumber_56 rfl ?_
      refine zr_getI (pc := 57) S fX4_readNumber_38 dX4_readNumber_57 rfl (Nat.le_of_ble_eq_true rfl) rfl ?_
      try simp only [zup_k, zup_e, ne_eq, Nat.reduceEqDiff, not_false_eq_true, zup_j]
      rw [ea]
      refine zr_iconst (pc := 60) S dX4_readNumber_60 (by unfold zrI; omega) ?_
      refine zr_iadd (pc := 61) S dX4_readNumber_61 (by unfold zrI; omega) ?_
      refine zr_putI (pc := 62) S pX4_readNumber_38 dX4_readNumber_62 rfl (Nat.le_of_ble_eq_true rfl) rfl ?_
      refine zr_goto (pc := 65) (tgt := 5) S dX4_readNumber_65 (by decide) ?_
      exact l
    · rw [run_f c] at hs
      subst hs
      have l := k U v hU h2
      have c2 : ¬ (48 ≤ cT M p ∧ cT M p ≤ 57) := fun z => c ⟨by omega, z⟩
      refine zr_aload_n (pc := 5) S dX4_readNumber_5 rfl ?_
      refine zr_getI (pc := 6) S fX4_readNumber_38 dX4_readNumber_6 rfl (Nat.le_of_ble_eq_true rfl) rfl ?_
      rw [ea]
      refine zr_aload_n (pc := 9) S dX4_readNumber_9 rfl ?_
      refine zr_getI (pc := 10) S fX4_readNumber_35 dX4_readNumber_10 rfl (Nat.le_of_ble_eq_true rfl) rfl ?_
      rw [es]
      refine zr_icmp_ge (pc := 13) (tgt := 68) S dX4_readNumber_13 (by decide) (fun c13 => absurd c13 (by omega)) (fun c13 => ?_)
      refine zr_aload_n (pc := 16) S dX4_readNumber_16 rfl ?_
      refine zr_aload_n (pc := 17) S dX4_readNumber_17 rfl ?_
      refine zr_getI (pc := 18) S fX4_readNumber_38 dX4_readNumber_18 rfl (Nat.le_of_ble_eq_true rfl) rfl ?_
      rw [ea]
      refine zr_invV (pc := 21) S [zI _] (m_X4_isDigit _) kX4_readNumber_130 dX4_readNumber_21 rfl (Nat.le_of_ble_eq_true rfl) rfl (Nat.le_of_ble_eq_true rfl) ⟨Nat.le_of_ble_eq_true rfl, Nat.le_of_ble_eq_true rfl⟩ (us_X4_isDigit (p := p) (by omega) ?_)
      dsimp only [zaft, Option.toList, List.cons_append, List.nil_append, Nat.add_zero]
      rw [ec, b01_f c2]
      refine zr_if_eq (pc := 24) (tgt := 68) S dX4_readNumber_24 (by decide) (fun c24 => ?_) (fun c24 => absurd c24 (by omega))
      exact l
/-- a number has been read -/
def rkM (M M' : zM) (n s : Nat) : Prop := (∀ k, k ≠ 39 → M' k = M k) ∧ (∀ j, j ≠ 8 → j ≠ 9 → j ≠ 6 → M' 39 j = M 39 j) ∧ M' 39 8 = (run (isDi (cT M) n) n s : Nat) ∧ M' 39 6 = (if 2 < run (isDi (cT M) n) n s - s then 4 else 2) ∧ (run (isDi (cT M) n) n s - s ≤ 2 → M' 39 9 = tV (cT M) s (run (isDi (cT M) n) n s))
def sp_X4_readNumber (as : List zV) (M : zM) (Q : Option zV → zM → Prop) : Prop := ∃ (n s : Nat), as = [zR 39] ∧ (M 39 5 = n) ∧ (n ≤ 400) ∧ (M 39 7 = s) ∧ (M 39 8 = s) ∧ (s ≤ n) ∧ (∀ M', rkM M M' n s → Q none M')
theorem us_X4_readNumber {n s : Nat} {M : zM} {Q : Option zV → zM → Prop} (hn : M 39 5 = n) (n4 : n ≤ 400) (hs : M 39 7 = s) (he : M 39 8 = s) (sn : s ≤ n) (hQ : ∀ M', rkM M M' n s → Q none M') : sp_X4_readNumber [zR 39] M Q := ⟨n, s, rfl, hn, n4, hs, he, sn, hQ⟩
set_option maxRecDepth 20000 in
set_option maxHeartbeats 4000000 in
theorem m_X4_readNumber (l : Launch) : zC l yX4_readNumber wzX4_readNumber rmX4_readNumber sp_X4_readNumber := by
  refine zMet.of RX4 (by decide +kernel) rfl rfl ?_
  intro E X as M Qp hX S hsp
  obtain ⟨n, s, rfl, hn, n4, hs, he, sn, hQ⟩ := hsp
  refine ⟨Nat.le_of_ble_eq_true rfl, ?_⟩
  dsimp only [zpad, zargs]
  refine zr_rng (fun hM => ?_)
  have hb := byt hM
  have c0 : cT (zup M 39 9 0) = cT M := cT_o (zup_o _ (by decide))
  have rr := run_r (P := isDi (cT M) n) (n := n) (p := s) sn
  have l := rn5 (E := E) (X := X) (Qp := Qp) (M := zup M 39 9 0) (n := n) (s := s) (e := run (isDi (cT M) n) n s) S (by rw [zup_j (by decide)]; exact hn) n4 (fun p => by rw [zup_o _ (by decide)]; exact hb p) (fun q h1 h2 => by rw [c0]; exact runP_all (n - s) s q h1 h2) (fun W v hW hv => by
    rw [c0] at hv
    have wa := hW.2.2.1
    have wb : W 39 7 = s := by rw [hW.2.1 _ (by decide) (by decide), zup_j (by decide)]; exact hs
    have q := fun (tk : Int) (h : tk = if 2 < run (isDi (cT M) n) n s - s then 4 else 2) => hQ (zup W 39 6 tk) ⟨fun k hk => by rw [zup_o k hk, hW.1 k hk, zup_o k hk], fun j h1 h2 h3 => by rw [zup_j h3, hW.2.1 j h1 h2, zup_j h2], by rw [zup_j (by decide)]; exact wa, by rw [zup_e]; exact h, fun z => by rw [zup_j (by decide), hW.2.2.2]; exact hv z⟩
    refine zr_aload_n (pc := 68) S dX4_readNumber_68 rfl ?_
    refine zr_aload_n (pc := 69) S dX4_readNumber_69 rfl ?_
    refine zr_getI (pc := 70) S fX4_readNumber_38 dX4_readNumber_70 rfl (Nat.le_of_ble_eq_true rfl) rfl ?_
    rw [wa]
    refine zr_aload_n (pc := 73) S dX4_readNumber_73 rfl ?_
    refine zr_getI (pc := 74) S fX4_readNumber_115 dX4_readNumber_74 rfl (Nat.le_of_ble_eq_true rfl) rfl ?_
    rw [wb]
    refine zr_isub (pc := 77) S dX4_readNumber_77 (by unfold zrI; omega) ?_
    refine zr_iconst (pc := 78) S dX4_readNumber_78 (by unfold zrI; omega) ?_
    refine zr_icmp_le (pc := 79) (tgt := 86) S dX4_readNumber_79 (by decide) (fun c79 => ?_) (fun c79 => ?_)
    · refine zr_iconst (pc := 86) S dX4_readNumber_86 (by unfold zrI; omega) ?_
      refine zr_putI (pc := 87) S pX4_readNumber_50 dX4_readNumber_87 rfl (Nat.le_of_ble_eq_true rfl) rfl ?_
      exact zr_vret (pc := 90) S dX4_readNumber_90 rfl ⟨Nat.le_refl _, Nat.le_refl _⟩ (q _ (by first | rw [if_pos (by omega)] | rw [if_neg (by omega)]))
    · refine zr_iconst (pc := 82) S dX4_readNumber_82 (by unfold zrI; omega) ?_
      refine zr_goto (pc := 83) (tgt := 87) S dX4_readNumber_83 (by decide) ?_
      refine zr_putI (pc := 87) S pX4_readNumber_50 dX4_readNumber_87 rfl (Nat.le_of_ble_eq_true rfl) rfl ?_
      exact zr_vret (pc := 90) S dX4_readNumber_90 rfl ⟨Nat.le_refl _, Nat.le_refl _⟩ (q _ (by first | rw [if_pos (by omega)] | rw [if_neg (by omega)]))) (n - s) s (zup M 39 9 0) 0 (by omega) (by omega) (by rw [c0]) ⟨fun _ _ => rfl, fun _ _ _ => rfl, by rw [zup_j (by decide)]; exact he, zup_e⟩ (by omega) (fun _ => by unfold tV; rw [if_pos (by omega)])
  refine zr_aload_n (pc := 0) S dX4_readNumber_0 rfl ?_
  refine zr_iconst (pc := 1) S dX4_readNumber_1 (by unfold zrI; omega) ?_
  refine zr_putI (pc := 2) S pX4_readNumber_101 dX4_readNumber_2 rfl (Nat.le_of_ble_eq_true rfl) rfl ?_
  exact l
/-- the class's reader has read the next token -/
def axM (M M' : zM) (n p : Nat) : Prop := (∀ k, k ≠ 39 → M' k = M k) ∧ (∀ j, j ≠ 7 → j ≠ 8 → j ≠ 6 → j ≠ 9 → M' 39 j = M 39 j) ∧ M' 39 7 = (tS (cT M) n p : Nat) ∧ M' 39 8 = (tE (cT M) n p : Nat) ∧ M' 39 6 = tK (cT M) n p ∧ (tK (cT M) n p = 2 → M' 39 9 = tV (cT M) (tS (cT M) n p) (tE (cT M) n p))
end
