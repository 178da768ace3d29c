section
/-- the goals of the told gates -/
def ICk (t : Nat → Int) : Prop := ∀ g : Nat, (g : Int) < t 1 → (0 ≤ t (106 + 7 * g) ∧ t (106 + 7 * g) ≤ 3) ∧ (0 ≤ t (107 + 7 * g) ∧ t (107 + 7 * g) ≤ 7) ∧ (0 ≤ t (108 + 7 * g) ∧ t (108 + 7 * g) ≤ 3) ∧ (0 ≤ t (109 + 7 * g) ∧ t (109 + 7 * g) ≤ 7)
/-- what is measured of a coin at a gate -/
def mAt (M : zM) (w b r : Int) (g : Nat) : Int := if M 12 g = 0 then w else if M 12 g = 1 then b else heardR M r
theorem inG_m {M : zM} (hg : ICg M) (hs : ICs M) {w b r : Int} (hr : 0 ≤ r ∧ r ≤ 99) {g : Nat} (h8 : g < 8) : (inG M w b r g = true) ↔ (M 13 g ≤ mAt M w b r g ∧ mAt M w b r g ≤ M 14 g) := by
  have a := hg.2 g h8
  have t := hs.2.1
  unfold inG
  rw [decide_eq_true_eq]
  unfold mAt vAt lowAt highAt heardR
  by_cases m0 : M 12 g = 0
  · rw [if_pos m0, if_pos m0, if_neg (by omega), if_neg (by omega)]
  · rw [if_neg m0, if_neg m0]
    by_cases m1 : M 12 g = 1
    · rw [if_pos m1, if_pos m1, if_neg (by omega), if_neg (by omega)]
    · rw [if_neg m1, if_neg m1]
      have m2 : M 12 g = 2 := by omega
      by_cases l0 : 0 < M 13 g
      · rw [if_pos ⟨m2, l0⟩]
        by_cases h9 : M 14 g < 99
        · rw [if_pos ⟨m2, h9⟩]; omega
        · rw [if_neg (by omega)]; omega
      · rw [if_neg (by omega)]
        by_cases h9 : M 14 g < 99
        · rw [if_pos ⟨m2, h9⟩]; omega
        · rw [if_neg (by omega)]; omega
theorem tk_C {E : zE} {X : zX} {Qp : Option zV → zM → Prop} {M : zM} {w b r : Int} {g y y1 : Nat} {l5 l6 : Option zV} (S : zS (zg E) X cX12_takenOf 8 wzX12_takenOf RX12 (some .int)) (h0 : 0 ≤ M 181 0 ∧ M 181 0 ≤ 8) (g8 : g < 8) (hy : y < 600) (hy1 : y1 = y + 1) (hk : 0 ≤ M 181 y ∧ M 181 y ≤ 3) (hk2 : 0 ≤ M 181 y1 ∧ M 181 y1 ≤ 7)
    (hN : gcode (M 181 y) (M 181 y1) = -2 → zK (zg E) rmX12_takenOf 8 (Qp, 0, 0) X (0, 0) 3 [some (zR 180), some (zI w), some (zI b), some (zI r), some (zI ((g : Int) + 1)), l5, l6, some (zI y)] [] M)
    (hS : gcode (M 181 y) (M 181 y1) = -3 → zK (zg E) rmX12_takenOf 8 (Qp, 0, 0) X (0, 0) 3 [some (zR 180), some (zI w), some (zI b), some (zI r), some (zI ((g : Int) + 2)), l5, l6, some (zI y)] [] M)
    (hE : ¬ gcode (M 181 y) (M 181 y1) = -2 → ¬ gcode (M 181 y) (M 181 y1) = -3 → Qp (some (zI (if isGood (vm M) (gcode (M 181 y) (M 181 y1)) then gcode (M 181 y) (M 181 y1) else -1))) M) :
    zK (zg E) rmX12_takenOf 8 (Qp, 0, 0) X (0, 0) 94 [some (zR 180), some (zI w), some (zI b), some (zI r), some (zI g), l5, l6, some (zI y)] [] M := by
  have ey : ((y : Int) + 1).toNat = y1 := by omega
  have c0 : M 181 y = 0 → gcode (M 181 y) (M 181 y1) = -2 := fun z => by unfold gcode; rw [if_pos z]
  have c1 : M 181 y = 1 → gcode (M 181 y) (M 181 y1) = -3 := fun z => by unfold gcode; rw [if_neg (by omega), if_pos z]
  have c2 : M 181 y = 2 → gcode (M 181 y) (M 181 y1) = M 181 y1 := fun z => by unfold gcode; rw [if_neg (by omega), if_neg (by omega), if_pos z]
  have c3 : M 181 y = 3 → gcode (M 181 y) (M 181 y1) = -1 := fun z => by unfold gcode; rw [if_neg (by omega), if_neg (by omega), if_neg (by omega)]
  refine zr_aload_n (pc := 94) S dX12_takenOf_94 rfl ?_
  refine zr_getR (pc := 95) S fX12_takenOf_9 dX12_takenOf_95 rfl (Nat.le_of_ble_eq_true rfl) rfl ?_
  refine zr_iload (pc := 98) S dX12_takenOf_98 rfl ?_
  refine zr_iaload (pc := 100) S dX12_takenOf_100 rfl (Nat.le_of_ble_eq_true rfl) (by omega) (by omega) ?_
  rw [Int.toNat_natCast]
  refine zr_iconst (pc := 101) S dX12_takenOf_101 (by unfold zrI; omega) ?_
  refine zr_icmp_ne (pc := 102) (tgt := 107) S dX12_takenOf_102 (by decide) (fun c102 => ?_) (fun c102 => ?_)
  · refine zr_aload_n (pc := 107) S dX12_takenOf_107 rfl ?_
    refine zr_getR (pc := 108) S fX12_takenOf_9 dX12_takenOf_108 rfl (Nat.le_of_ble_eq_true rfl) rfl ?_
    refine zr_iload (pc := 111) S dX12_takenOf_111 rfl ?_
    refine zr_iaload (pc := 113) S dX12_takenOf_113 rfl (Nat.le_of_ble_eq_true rfl) (by omega) (by omega) ?_
    rw [Int.toNat_natCast]
    refine zr_iconst (pc := 114) S dX12_takenOf_114 (by unfold zrI; omega) ?_
    refine zr_icmp_ne (pc := 115) (tgt := 148) S dX12_takenOf_115 (by decide) (fun c115 => ?_) (fun c115 => ?_)
    · refine zr_iload (pc := 148) S dX12_takenOf_148 rfl ?_
      refine zr_aload_n (pc := 150) S dX12_takenOf_150 rfl ?_
      refine zr_getR (pc := 151) S fX12_takenOf_9 dX12_takenOf_151 rfl (Nat.le_of_ble_eq_true rfl) rfl ?_
      refine zr_iload (pc := 154) S dX12_takenOf_154 rfl ?_
      refine zr_iaload (pc := 156) S dX12_takenOf_156 rfl (Nat.le_of_ble_eq_true rfl) (by omega) (by omega) ?_
      rw [Int.toNat_natCast]
      refine zr_if_ne (pc := 157) (tgt := 164) S dX12_takenOf_157 (by decide) (fun c157 => ?_) (fun c157 => ?_)
      · have n1 := hS (c1 (by omega))
        refine zr_iconst (pc := 164) S dX12_takenOf_164 (by unfold zrI; omega) ?_
        refine zr_iadd (pc := 165) S dX12_takenOf_165 (by unfold zrI; omega) ?_
        refine zr_istore (pc := 166) S dX12_takenOf_166 (by decide) ?_
        dsimp only [zst1, zst2, zset, zget, zlong]
        refine zr_goto (pc := 168) (tgt := 3) S dX12_takenOf_168 (by decide) ?_
        exact n1
      · have n1 := hN (c0 c157)
        refine zr_iconst (pc := 160) S dX12_takenOf_160 (by unfold zrI; omega) ?_
        refine zr_goto (pc := 161) (tgt := 165) S dX12_takenOf_161 (by decide) ?_
        refine zr_iadd (pc := 165) S dX12_takenOf_165 (by unfold zrI; omega) ?_
        refine zr_istore (pc := 166) S dX12_takenOf_166 (by decide) ?_
        dsimp only [zst1, zst2, zset, zget, zlong]
        refine zr_goto (pc := 168) (tgt := 3) S dX12_takenOf_168 (by decide) ?_
        exact n1
    · have f := hE (by rw [c2 c115]; omega) (by rw [c2 c115]; omega)
      rw [c2 c115] at f
      refine zr_aload_n (pc := 118) S dX12_takenOf_118 rfl ?_
      refine zr_aload_n (pc := 119) S dX12_takenOf_119 rfl ?_
      refine zr_getR (pc := 120) S fX12_takenOf_9 dX12_takenOf_120 rfl (Nat.le_of_ble_eq_true rfl) rfl ?_
      refine zr_iload (pc := 123) S dX12_takenOf_123 rfl ?_
      refine zr_iconst (pc := 125) S dX12_takenOf_125 (by unfold zrI; omega) ?_
      refine zr_iadd (pc := 126) S dX12_takenOf_126 (by unfold zrI; omega) ?_
      refine zr_iaload (pc := 127) S dX12_takenOf_127 rfl (Nat.le_of_ble_eq_true rfl) (by omega) (by omega) ?_
      rw [ey]
      refine zr_invV (pc := 128) S [zI _] (m_X12_isGood _) kX12_takenOf_120 dX12_takenOf_128 rfl (Nat.le_of_ble_eq_true rfl) rfl (Nat.le_of_ble_eq_true rfl) ⟨Nat.le_of_ble_eq_true rfl, Nat.le_of_ble_eq_true rfl⟩ (us_X12_isGood h0.1 h0.2 ?_)
      dsimp only [zaft, Option.toList, List.cons_append, List.nil_append, Nat.add_zero]
      refine zr_if_eq (pc := 131) (tgt := 146) S dX12_takenOf_131 (by decide) (fun c131 => ?_) (fun c131 => ?_)
      · rw [b01_0] at c131
        rw [if_neg c131] at f
        refine zr_iconst (pc := 146) S dX12_takenOf_146 (by unfold zrI; omega) ?_
        exact zr_iret (pc := 147) S dX12_takenOf_147 rfl ⟨Nat.le_refl _, Nat.le_refl _⟩ (f)
      · rw [b01_0, Classical.not_not] at c131
        rw [if_pos c131] at f
        refine zr_aload_n (pc := 134) S dX12_takenOf_134 rfl ?_
        refine zr_getR (pc := 135) S fX12_takenOf_9 dX12_takenOf_135 rfl (Nat.le_of_ble_eq_true rfl) rfl ?_
        refine zr_iload (pc := 138) S dX12_takenOf_138 rfl ?_
        refine zr_iconst (pc := 140) S dX12_takenOf_140 (by unfold zrI; omega) ?_
        refine zr_iadd (pc := 141) S dX12_takenOf_141 (by unfold zrI; omega) ?_
        refine zr_iaload (pc := 142) S dX12_takenOf_142 rfl (Nat.le_of_ble_eq_true rfl) (by omega) (by omega) ?_
        rw [ey]
        refine zr_goto (pc := 143) (tgt := 147) S dX12_takenOf_143 (by decide) ?_
        exact zr_iret (pc := 147) S dX12_takenOf_147 rfl ⟨Nat.le_refl _, Nat.le_refl _⟩ (f)
  · have f := hE (by rw [c3 c102]; decide) (by rw [c3 c102]; decide)
    rw [c3 c102, if_neg (fun z => by have := z.1.1; omega)] at f
    refine zr_iconst (pc := 105) S dX12_takenOf_105 (by unfold zrI; omega) ?_
    exact zr_iret (pc := 106) S dX12_takenOf_106 rfl ⟨Nat.le_refl _, Nat.le_refl _⟩ (f)
theorem lp_X12_takenOf {E : zE} {X : zX} {Qp : Option zV → zM → Prop} {M : zM} {w b r : Int} (S : zS (zg E) X cX12_takenOf 8 wzX12_takenOf RX12 (some .int)) (hg : ICg (vv M)) (hs : ICs (vm M)) (hk : ICk (M 181)) (hm : -1 ≤ M 180 16) (hr : 0 ≤ r ∧ r ≤ 99) : ∀ (f g : Nat) (l5 l6 l7 : Option zV), 8 < f + g → g ≤ 10 → Qp (some (zI (gw (vv M) (inG (vv M) w b r) f g))) M → zK (zg E) rmX12_takenOf 8 (Qp, 0, 0) X (0, 0) 3 [some (zR 180), some (zI w), some (zI b), some (zI r), some (zI g), l5, l6, l7] [] M := by
  have hsv : ICs (vv M) := by
    unfold ICs at *
    rw [vv_o (by decide), vv_o (by decide), vv_o (by decide), vv_o (by decide), vv_o (by decide), vv_o (by decide), vv_o (by decide)]
    exact hs
  have g8 : 0 ≤ M 181 1 ∧ M 181 1 ≤ 8 := by
    have := hg.1
    rw [vv_o (by decide)] at this
    exact this
  have em : vv M 11 0 = M 181 1 := by rw [vv_o (by decide)]; rfl
  intro f
  induction f with
  | zero =>
    intro g l5 l6 l7 h1 h2 hQ
    refine zr_iload (pc := 3) S dX12_takenOf_3 rfl ?_
    refine zr_aload_n (pc := 5) S dX12_takenOf_5 rfl ?_
    refine zr_getR (pc := 6) S fX12_takenOf_9 dX12_takenOf_6 rfl (Nat.le_of_ble_eq_true rfl) rfl ?_
    refine zr_iconst (pc := 9) S dX12_takenOf_9 (by unfold zrI; omega) ?_
    refine zr_iaload (pc := 10) S dX12_takenOf_10 rfl (Nat.le_of_ble_eq_true rfl) (by omega) (by omega) ?_
    dsimp only [Int.reduceToNat]
    refine zr_icmp_ge (pc := 11) (tgt := 171) S dX12_takenOf_11 (by decide) (fun c11 => ?_) (fun c11 => absurd c11 (by omega))
    refine zr_iconst (pc := 171) S dX12_takenOf_171 (by unfold zrI; omega) ?_
    exact zr_iret (pc := 172) S dX12_takenOf_172 rfl ⟨Nat.le_refl _, Nat.le_refl _⟩ (hQ)
  | succ f ih =>
    intro g l5 l6 l7 h1 h2 hQ
    by_cases hc : (g : Int) < M 181 1
    · have gv := vm_gate hc
      have kk := hk g hc
      have ig := inG_m (w := w) (b := b) hg hsv hr (g := g) (by omega)
      have vmm : vv M 12 g = M 181 (103 + 7 * g) := by rw [vv_o (by decide), gv.1]
      have vy : vv M 15 g = gcode (M 181 (106 + 7 * g)) (M 181 (107 + 7 * g)) := by rw [vv_o (by decide), gv.2.2.2.1]
      have vn : vv M 16 g = gcode (M 181 (108 + 7 * g)) (M 181 (109 + 7 * g)) := by rw [vv_o (by decide), gv.2.2.2.2]
      have iG : ∀ c, isGood (vv M) c ↔ isGood (vm M) c := fun c => by
        unfold isGood
        rw [vv_o (by decide), vv_o (by decide), vv_o (by decide), vv_o (by decide), vv_o (by decide)]
      have e0 : ((103 : Int) + 7 * (g : Int)).toNat = 103 + 7 * g := by omega
      have gr := hg.2 g (by omega)
      have key : ∀ (v : Int) (l5 l7 : Option zV), v = mAt (vv M) w b r g → zK (zg E) rmX12_takenOf 8 (Qp, 0, 0) X (0, 0) 55 [some (zR 180), some (zI w), some (zI b), some (zI r), some (zI g), l5, some (zI v), l7] [] M := by
        intro v l5 l7 hv
        simp only [gw] at hQ
        rw [em, if_pos hc] at hQ
        have y3 : (103 : Int) + 7 * (g : Int) + 3 = ((106 + 7 * g : Nat) : Int) := by omega
        have y5 : (103 : Int) + 7 * (g : Int) + 5 = ((108 + 7 * g : Nat) : Int) := by omega
        by_cases hb : inG (vv M) w b r g = true
        · simp only [if_pos hb] at hQ
          rw [vy] at hQ
          have hb2 := ig.mp hb
          rw [← hv] at hb2
          refine zr_bipush (pc := 55) S dX12_takenOf_55 ⟨by unfold zrI; omega, by decide⟩ ?_
          refine zr_bipush (pc := 57) S dX12_takenOf_57 ⟨by unfold zrI; omega, by decide⟩ ?_
          refine zr_iload (pc := 59) S dX12_takenOf_59 rfl ?_
          refine zr_imul (pc := 61) S dX12_takenOf_61 (by unfold zrI; omega) ?_
          refine zr_iadd (pc := 62) S dX12_takenOf_62 (by unfold zrI; omega) ?_
          refine zr_iload (pc := 63) S dX12_takenOf_63 rfl ?_
          refine zr_i2l (pc := 65) S dX12_takenOf_65 ?_
          refine zr_aload_n (pc := 66) S dX12_takenOf_66 rfl ?_
          refine zr_iload (pc := 67) S dX12_takenOf_67 rfl ?_
          refine zr_invV (pc := 69) S [zI _] (m_X12_lowOf _) kX12_takenOf_248 dX12_takenOf_69 rfl (Nat.le_of_ble_eq_true rfl) rfl (Nat.le_of_ble_eq_true rfl) ⟨Nat.le_of_ble_eq_true rfl, Nat.le_of_ble_eq_true rfl⟩ (us_X12_lowOf (by omega) hc hm ?_)
          dsimp only [zaft, Option.toList, List.cons_append, List.nil_append, Nat.add_zero]
          refine zr_i2l (pc := 72) S dX12_takenOf_72 ?_
          refine zr_aload_n (pc := 73) S dX12_takenOf_73 rfl ?_
          refine zr_iload (pc := 74) S dX12_takenOf_74 rfl ?_
          refine zr_invV (pc := 76) S [zI _] (m_X12_highOf _) kX12_takenOf_251 dX12_takenOf_76 rfl (Nat.le_of_ble_eq_true rfl) rfl (Nat.le_of_ble_eq_true rfl) ⟨Nat.le_of_ble_eq_true rfl, Nat.le_of_ble_eq_true rfl⟩ (us_X12_highOf (by omega) hc hm ?_)
          dsimp only [zaft, Option.toList, List.cons_append, List.nil_append, Nat.add_zero]
          refine zr_i2l (pc := 79) S dX12_takenOf_79 ?_
          refine zr_invS (pc := 80) S [zL _, zL _, zL _] (m_X12_within _) kX12_takenOf_83 dX12_takenOf_80 (Nat.le_of_ble_eq_true rfl) ⟨Nat.le_of_ble_eq_true rfl, Nat.le_of_ble_eq_true rfl⟩ (us_X12_within ?_)
          dsimp only [zaft, Option.toList, List.cons_append, List.nil_append, Nat.add_zero]
          refine zr_if_eq (pc := 83) (tgt := 90) S dX12_takenOf_83 (by decide) (fun c83 => ?_) (fun c83 => ?_)
          · rw [b01_0] at c83
            exact absurd hb2 c83
          · rw [b01_0, Classical.not_not] at c83
            refine zr_iconst (pc := 86) S dX12_takenOf_86 (by unfold zrI; omega) ?_
            refine zr_goto (pc := 87) (tgt := 91) S dX12_takenOf_87 (by decide) ?_
            refine zr_iadd (pc := 91) S dX12_takenOf_91 (by unfold zrI; omega) ?_
            rw [y3]
            refine zr_istore (pc := 92) S dX12_takenOf_92 (by decide) ?_
            dsimp only [zst1, zst2, zset, zget, zlong]
            exact tk_C S hs.1 (by omega) (by omega) (by omega) kk.1 kk.2.1 (fun z => by rw [if_pos z] at hQ; exact ih (g + 1) _ _ _ (by omega) (by omega) hQ) (fun z => by rw [if_neg (by omega), if_pos z] at hQ; exact ih (g + 2) _ _ _ (by omega) (by omega) hQ) (fun z z2 => by rw [if_neg z, if_neg z2] at hQ; simp only [iG] at hQ; exact hQ)
        · simp only [if_neg hb] at hQ
          rw [vn] at hQ
          have hb2 : ¬ (vv M 13 g ≤ v ∧ v ≤ vv M 14 g) := fun z => hb (ig.mpr (by rw [← hv]; exact z))
          refine zr_bipush (pc := 55) S dX12_takenOf_55 ⟨by unfold zrI; omega, by decide⟩ ?_
          refine zr_bipush (pc := 57) S dX12_takenOf_57 ⟨by unfold zrI; omega, by decide⟩ ?_
          refine zr_iload (pc := 59) S dX12_takenOf_59 rfl ?_
          refine zr_imul (pc := 61) S dX12_takenOf_61 (by unfold zrI; omega) ?_
          refine zr_iadd (pc := 62) S dX12_takenOf_62 (by unfold zrI; omega) ?_
          refine zr_iload (pc := 63) S dX12_takenOf_63 rfl ?_
          refine zr_i2l (pc := 65) S dX12_takenOf_65 ?_
          refine zr_aload_n (pc := 66) S dX12_takenOf_66 rfl ?_
          refine zr_iload (pc := 67) S dX12_takenOf_67 rfl ?_
          refine zr_invV (pc := 69) S [zI _] (m_X12_lowOf _) kX12_takenOf_248 dX12_takenOf_69 rfl (Nat.le_of_ble_eq_true rfl) rfl (Nat.le_of_ble_eq_true rfl) ⟨Nat.le_of_ble_eq_true rfl, Nat.le_of_ble_eq_true rfl⟩ (us_X12_lowOf (by omega) hc hm ?_)
          dsimp only [zaft, Option.toList, List.cons_append, List.nil_append, Nat.add_zero]
          refine zr_i2l (pc := 72) S dX12_takenOf_72 ?_
          refine zr_aload_n (pc := 73) S dX12_takenOf_73 rfl ?_
          refine zr_iload (pc := 74) S dX12_takenOf_74 rfl ?_
          refine zr_invV (pc := 76) S [zI _] (m_X12_highOf _) kX12_takenOf_251 dX12_takenOf_76 rfl (Nat.le_of_ble_eq_true rfl) rfl (Nat.le_of_ble_eq_true rfl) ⟨Nat.le_of_ble_eq_true rfl, Nat.le_of_ble_eq_true rfl⟩ (us_X12_highOf (by omega) hc hm ?_)
          dsimp only [zaft, Option.toList, List.cons_append, List.nil_append, Nat.add_zero]
          refine zr_i2l (pc := 79) S dX12_takenOf_79 ?_
          refine zr_invS (pc := 80) S [zL _, zL _, zL _] (m_X12_within _) kX12_takenOf_83 dX12_takenOf_80 (Nat.le_of_ble_eq_true rfl) ⟨Nat.le_of_ble_eq_true rfl, Nat.le_of_ble_eq_true rfl⟩ (us_X12_within ?_)
          dsimp only [zaft, Option.toList, List.cons_append, List.nil_append, Nat.add_zero]
          refine zr_if_eq (pc := 83) (tgt := 90) S dX12_takenOf_83 (by decide) (fun c83 => ?_) (fun c83 => ?_)
          · rw [b01_0] at c83
            refine zr_iconst (pc := 90) S dX12_takenOf_90 (by unfold zrI; omega) ?_
            refine zr_iadd (pc := 91) S dX12_takenOf_91 (by unfold zrI; omega) ?_
            rw [y5]
            refine zr_istore (pc := 92) S dX12_takenOf_92 (by decide) ?_
            dsimp only [zst1, zst2, zset, zget, zlong]
            exact tk_C S hs.1 (by omega) (by omega) (by omega) kk.2.2.1 kk.2.2.2 (fun z => by rw [if_pos z] at hQ; exact ih (g + 1) _ _ _ (by omega) (by omega) hQ) (fun z => by rw [if_neg (by omega), if_pos z] at hQ; exact ih (g + 2) _ _ _ (by omega) (by omega) hQ) (fun z z2 => by rw [if_neg z, if_neg z2] at hQ; simp only [iG] at hQ; exact hQ)
          · rw [b01_0, Classical.not_not] at c83
            exact absurd c83 hb2
      have eh : heardR (vv M) r = heardR (vm M) r := by unfold heardR; rw [vv_o (by decide)]
      refine zr_iload (pc := 3) S dX12_takenOf_3 rfl ?_
      refine zr_aload_n (pc := 5) S dX12_takenOf_5 rfl ?_
      refine zr_getR (pc := 6) S fX12_takenOf_9 dX12_takenOf_6 rfl (Nat.le_of_ble_eq_true rfl) rfl ?_
      refine zr_iconst (pc := 9) S dX12_takenOf_9 (by unfold zrI; omega) ?_
      refine zr_iaload (pc := 10) S dX12_takenOf_10 rfl (Nat.le_of_ble_eq_true rfl) (by omega) (by omega) ?_
      dsimp only [Int.reduceToNat]
      refine zr_icmp_ge (pc := 11) (tgt := 171) S dX12_takenOf_11 (by decide) (fun c11 => absurd c11 (by omega)) (fun c11 => ?_)
      refine zr_aload_n (pc := 14) S dX12_takenOf_14 rfl ?_
      refine zr_getR (pc := 15) S fX12_takenOf_9 dX12_takenOf_15 rfl (Nat.le_of_ble_eq_true rfl) rfl ?_
      refine zr_bipush (pc := 18) S dX12_takenOf_18 ⟨by unfold zrI; omega, by decide⟩ ?_
      refine zr_bipush (pc := 20) S dX12_takenOf_20 ⟨by unfold zrI; omega, by decide⟩ ?_
      refine zr_iload (pc := 22) S dX12_takenOf_22 rfl ?_
      refine zr_imul (pc := 24) S dX12_takenOf_24 (by unfold zrI; omega) ?_
      refine zr_iadd (pc := 25) S dX12_takenOf_25 (by unfold zrI; omega) ?_
      refine zr_iaload (pc := 26) S dX12_takenOf_26 rfl (Nat.le_of_ble_eq_true rfl) (by omega) (by omega) ?_
      rw [e0]
      refine zr_istore (pc := 27) S dX12_takenOf_27 (by decide) ?_
      dsimp only [zst1, zst2, zset, zget, zlong]
      refine zr_iload (pc := 29) S dX12_takenOf_29 rfl ?_
      refine zr_if_ne (pc := 31) (tgt := 38) S dX12_takenOf_31 (by decide) (fun c31 => ?_) (fun c31 => ?_)
      · refine zr_iload (pc := 38) S dX12_takenOf_38 rfl ?_
        refine zr_iconst (pc := 40) S dX12_takenOf_40 (by unfold zrI; omega) ?_
        refine zr_icmp_ne (pc := 41) (tgt := 48) S dX12_takenOf_41 (by decide) (fun c41 => ?_) (fun c41 => ?_)
        · refine zr_aload_n (pc := 48) S dX12_takenOf_48 rfl ?_
          refine zr_iload_n (pc := 49) S dX12_takenOf_49 rfl ?_
          refine zr_invV (pc := 50) S [zI _] (m_X12_heard _) kX12_takenOf_237 dX12_takenOf_50 rfl (Nat.le_of_ble_eq_true rfl) rfl (Nat.le_of_ble_eq_true rfl) ⟨Nat.le_of_ble_eq_true rfl, Nat.le_of_ble_eq_true rfl⟩ (us_X12_heard (by omega) hs ?_)
          dsimp only [zaft, Option.toList, List.cons_append, List.nil_append, Nat.add_zero]
          rw [← eh]
          refine zr_istore (pc := 53) S dX12_takenOf_53 (by decide) ?_
          dsimp only [zst1, zst2, zset, zget, zlong]
          exact key _ _ _ (by unfold mAt; rw [vmm]; first | rw [if_pos c31] | rw [if_neg c31, if_pos c41] | rw [if_neg c31, if_neg c41])
        · refine zr_iload_n (pc := 44) S dX12_takenOf_44 rfl ?_
          refine zr_goto (pc := 45) (tgt := 53) S dX12_takenOf_45 (by decide) ?_
          refine zr_istore (pc := 53) S dX12_takenOf_53 (by decide) ?_
          dsimp only [zst1, zst2, zset, zget, zlong]
          exact key _ _ _ (by unfold mAt; rw [vmm]; first | rw [if_pos c31] | rw [if_neg c31, if_pos c41] | rw [if_neg c31, if_neg c41])
      · refine zr_iload_n (pc := 34) S dX12_takenOf_34 rfl ?_
        refine zr_goto (pc := 35) (tgt := 53) S dX12_takenOf_35 (by decide) ?_
        refine zr_istore (pc := 53) S dX12_takenOf_53 (by decide) ?_
        dsimp only [zst1, zst2, zset, zget, zlong]
        exact key _ _ _ (by unfold mAt; rw [vmm]; first | rw [if_pos c31] | rw [if_neg c31, if_pos c41] | rw [if_neg c31, if_neg c41])
    · have e : gw (vv M) (inG (vv M) w b r) (f + 1) g = -1 := by simp only [gw]; rw [em, if_neg hc]
      rw [e] at hQ
      refine zr_iload (pc := 3) S dX12_takenOf_3 rfl ?_
      refine zr_aload_n (pc := 5) S dX12_takenOf_5 rfl ?_
      refine zr_getR (pc := 6) S fX12_takenOf_9 dX12_takenOf_6 rfl (Nat.le_of_ble_eq_true rfl) rfl ?_
      refine zr_iconst (pc := 9) S dX12_takenOf_9 (by unfold zrI; omega) ?_
      refine zr_iaload (pc := 10) S dX12_takenOf_10 rfl (Nat.le_of_ble_eq_true rfl) (by omega) (by omega) ?_
      dsimp only [Int.reduceToNat]
      refine zr_icmp_ge (pc := 11) (tgt := 171) S dX12_takenOf_11 (by decide) (fun c11 => ?_) (fun c11 => absurd c11 (by omega))
      refine zr_iconst (pc := 171) S dX12_takenOf_171 (by unfold zrI; omega) ?_
      exact zr_iret (pc := 172) S dX12_takenOf_172 rfl ⟨Nat.le_refl _, Nat.le_refl _⟩ (hQ)
def sp_X12_takenOf (as : List zV) (M : zM) (Q : Option zV → zM → Prop) : Prop := ∃ (w b r : Int), as = [zR 180, zI w, zI b, zI r] ∧ (ICg (vv M)) ∧ (ICs (vm M)) ∧ (ICk (M 181)) ∧ (-1 ≤ M 180 16) ∧ (0 ≤ r ∧ r ≤ 99) ∧ (Q (some (zI (takes (vv M) w b r))) M)
theorem us_X12_takenOf {w b r : Int} {M : zM} {Q : Option zV → zM → Prop} (hg : ICg (vv M)) (hs : ICs (vm M)) (hk : ICk (M 181)) (hm : -1 ≤ M 180 16) (hr : 0 ≤ r ∧ r ≤ 99) (hQ : Q (some (zI (takes (vv M) w b r))) M) : sp_X12_takenOf [zR 180, zI w, zI b, zI r] M Q := ⟨w, b, r, rfl, hg, hs, hk, hm, hr, hQ⟩
set_option maxRecDepth 20000 in
set_option maxHeartbeats 4000000 in
theorem m_X12_takenOf (l : Launch) : zC l yX12_takenOf wzX12_takenOf rmX12_takenOf sp_X12_takenOf := by
  refine zMet.of RX12 (by decide +kernel) rfl rfl ?_
  intro E X as M Qp hX S hsp
  obtain ⟨w, b, r, rfl, hg, hs, hk, hm, hr, hQ⟩ := hsp
  refine ⟨Nat.le_of_ble_eq_true rfl, ?_⟩
  dsimp only [zpad, zargs]
  refine zr_iconst (pc := 0) S dX12_takenOf_0 (by unfold zrI; omega) ?_
  refine zr_istore (pc := 1) S dX12_takenOf_1 (by decide) ?_
  dsimp only [zst1, zst2, zset, zget, zlong]
  exact lp_X12_takenOf S hg hs hk hm hr 9 0 none none none (by omega) (by omega) hQ
end
