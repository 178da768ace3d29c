section
/-- a text has been read: what may have changed, and the fault that is kept -/
def txO (M M' : zM) (fk fp : Int) : Prop := (∀ c, c ≠ 180 → c ≠ 185 → c ≠ 181 → M' c = M c) ∧ (∀ j, j ≠ 3 → (j < 6 ∨ 15 < j) → M' 180 j = M 180 j) ∧ M' 180 3 = 0 ∧ M' 180 6 = 0 ∧ M' 180 14 = fk ∧ M' 180 15 = fp
/-- the told row with the gates of L -/
def txT (t : Nat → Int) (L : List Int) (i : Nat) : Nat → Int := fun j => if 103 ≤ j ∧ j < 103 + i then L.getD (j - 103) 0 else if j = 1 then ((L.length / 7 : Nat) : Int) else t j
theorem txT_s {t : Nat → Int} {L : List Int} {i : Nat} : rUp (txT t L i) (103 + i) (L.getD i 0) = txT t L (i + 1) := by
  funext j
  unfold rUp txT
  by_cases c : j = 103 + i
  · rw [if_pos c, if_pos (by omega), show j - 103 = i by omega]
  · rw [if_neg c]
    by_cases d : 103 ≤ j ∧ j < 103 + i
    · rw [if_pos d, if_pos (by omega)]
    · rw [if_neg d, if_neg (show ¬ (103 ≤ j ∧ j < 103 + (i + 1)) by omega)]
theorem txT_0 {t : Nat → Int} {L : List Int} : rUp t 1 ((L.length / 7 : Nat) : Int) = txT t L 0 := by
  funext j
  unfold rUp txT
  rw [if_neg (show ¬ (103 ≤ j ∧ j < 103 + 0) by omega)]
def sp_X12_text (as : List zV) (M : zM) (Q : Option zV → zM → Prop) : Prop := ∃ (nn : Int), as = [zR 180, zI nn] ∧ (0 ≤ M 180 6 ∧ M 180 6 ≤ 400) ∧ (¬ (0 ≤ nn ∧ nn ≤ M 180 6) → Q (some (zI 0)) (tz (tz M 0) 1)) ∧ ((0 ≤ nn ∧ nn ≤ M 180 6) → ∀ f, pText (M 184) nn.toNat 8 [] 0 = .inl f → ∀ M', txO M M' f.1 f.2 → M' 181 = M 181 → Q (some (zI (-10 - f.1))) M') ∧ ((0 ≤ nn ∧ nn ≤ M 180 6) → ∀ L, pText (M 184) nn.toNat 8 [] 0 = .inr L → L.length ≤ 56 → ∀ M', txO M M' 0 (-1) → M' 181 = txT (M 181) L L.length → Q (some (zI ((L.length / 7 : Nat) : Int))) M')
theorem us_X12_text {nn : Int} {M : zM} {Q : Option zV → zM → Prop} (ht : 0 ≤ M 180 6 ∧ M 180 6 ≤ 400) (hT : ¬ (0 ≤ nn ∧ nn ≤ M 180 6) → Q (some (zI 0)) (tz (tz M 0) 1)) (hF : (0 ≤ nn ∧ nn ≤ M 180 6) → ∀ f, pText (M 184) nn.toNat 8 [] 0 = .inl f → ∀ M', txO M M' f.1 f.2 → M' 181 = M 181 → Q (some (zI (-10 - f.1))) M') (hY : (0 ≤ nn ∧ nn ≤ M 180 6) → ∀ L, pText (M 184) nn.toNat 8 [] 0 = .inr L → L.length ≤ 56 → ∀ M', txO M M' 0 (-1) → M' 181 = txT (M 181) L L.length → Q (some (zI ((L.length / 7 : Nat) : Int))) M') : sp_X12_text [zR 180, zI nn] M Q := ⟨nn, rfl, ht, hT, hF, hY⟩
set_option maxRecDepth 20000 in
set_option maxHeartbeats 4000000 in
theorem m_X12_text (l : Launch) : zC l yX12_text wzX12_text rmX12_text sp_X12_text := by
  refine zMet.of RX12 (by decide +kernel) rfl rfl ?_
  intro E X as M Qp hX S hsp
  obtain ⟨nn, rfl, ht, hT, hF, hY⟩ := hsp
  refine ⟨Nat.le_of_ble_eq_true rfl, ?_⟩
  dsimp only [zpad, zargs]
  have key : (0 ≤ nn ∧ nn ≤ M 180 6) → ∀ N, N = zup (zup (zup (zup (zup M 180 3 0) 180 7 nn) 180 6 0) 180 8 0) 180 12 0 → ∀ N', nxM N N' nn.toNat 0 → zK (zg E) rmX12_text 4 (Qp, 0, 0) X (0, 0) 51 [some (zR 180), some (zI nn), some (zI 0), none] [] N' := by
    intro c N hN N' hx
    have eo : ∀ k, k ≠ 180 → N k = M k := fun k hk => by rw [hN, zup_o k hk, zup_o k hk, zup_o k hk, zup_o k hk, zup_o k hk]
    have ej : ∀ j, j ≠ 3 → (j < 6 ∨ 15 < j) → N 180 j = M 180 j := fun j h3 hj => by rw [hN, zup_j (by omega), zup_j (by omega), zup_j (by omega), zup_j (by omega), zup_j h3]
    have e3 : N 180 3 = 0 := by rw [hN, zup_j (by omega), zup_j (by omega), zup_j (by omega), zup_j (by omega), zup_e]
    have e6 : N 180 6 = 0 := by rw [hN, zup_j (by omega), zup_j (by omega), zup_e]
    have e7 : N 180 7 = nn.toNat := by rw [hN, zup_j (by omega), zup_j (by omega), zup_j (by omega), zup_e]; omega
    have e12 : N 180 12 = 0 := by rw [hN, zup_e]
    have tN : N 184 = M 184 := eo _ (by decide)
    have tN' : N' 184 = M 184 := by rw [hx.1 _ (by decide)]; exact tN
    have cN : curT N' nn.toNat 0 := by
      unfold curT
      rw [tN', ← tN]
      exact ⟨by rw [hx.2.1 _ (by decide) (by decide) (by decide) (by decide)]; exact e7, by omega, by omega, hx.2.2.1, hx.2.2.2.1, hx.2.2.2.2.1, hx.2.2.2.2.2, by rw [hx.2.1 _ (by decide) (by decide) (by decide) (by decide)]; exact e12⟩
    have base : ∀ U W, rdO N' U → ∀ fk fp : Int, W = zup (zup U 180 14 fk) 180 15 fp → ∀ V, (∀ c, c ≠ 181 → V c = W c) → txO M V fk fp := fun U W oU fk fp hW V hV => by
      refine ⟨fun c c1 c2 c3 => by rw [hV c c3, hW, zup_o c c1, zup_o c c1, oU.1 c c1 c2, hx.1 c c1]; exact eo c c1, fun j j3 hj => by rw [hV _ (by decide), hW, zup_j (by omega), zup_j (by omega), oU.2 j (by omega) (by omega) (by omega) (by omega) (by omega) (by omega), hx.2.1 j (by omega) (by omega) (by omega) (by omega)]; exact ej j j3 hj, ?_, ?_, ?_, ?_⟩
      · rw [hV _ (by decide), hW, zup_j (by decide), zup_j (by decide), oU.2 _ (by decide) (by decide) (by decide) (by decide) (by decide) (by decide), hx.2.1 _ (by decide) (by decide) (by decide) (by decide)]; exact e3
      · rw [hV _ (by decide), hW, zup_j (by decide), zup_j (by decide), oU.2 _ (by decide) (by decide) (by decide) (by decide) (by decide) (by decide), hx.2.1 _ (by decide) (by decide) (by decide) (by decide)]; exact e6
      · rw [hV _ (by decide), hW, zup_j (by decide), zup_e]
      · rw [hV _ (by decide), hW, zup_e]
    have tolU : ∀ U, rdO N' U → U 181 = M 181 := fun U oU => by rw [oU.1 _ (by decide) (by decide), hx.1 _ (by decide)]; exact eo _ (by decide)
    refine tx51 (M := N') (n := nn.toNat) (r := pText (M 184) nn.toNat 8 [] 0) S (fun f U g hr oU fU f0 => ?_) (fun L U k hr oU hb h8 hL hf => ?_) 8 0 [] 0 N' (by omega) rfl ⟨fun _ _ _ => rfl, fun _ _ _ _ _ _ _ => rfl⟩ cN (fun j hj => absurd hj (by simp)) (by rw [tN'])
    · have q := hF c f hr _ (base U _ oU f.1 f.2 rfl _ (fun _ _ => rfl)) (by rw [zup_o _ (by decide), zup_o _ (by decide)]; exact tolU U oU)
      have b1 := fU.1
      have b2 := fU.2
      have b0 : ¬ U 180 12 = 0 := by rw [b1]; omega
      refine zr_aload_n (pc := 103) S dX12_text_103 rfl ?_
      refine zr_aload_n (pc := 104) S dX12_text_104 rfl ?_
      refine zr_getI (pc := 105) S fX12_text_163 dX12_text_105 rfl (Nat.le_of_ble_eq_true rfl) rfl ?_
      try simp only [zup_k, zup_e, ne_eq, Nat.reduceEqDiff, not_false_eq_true, zup_j]
      rw [b1]
      refine zr_putI (pc := 108) S pX12_text_222 dX12_text_108 rfl (Nat.le_of_ble_eq_true rfl) rfl ?_
      refine zr_aload_n (pc := 111) S dX12_text_111 rfl ?_
      refine zr_aload_n (pc := 112) S dX12_text_112 rfl ?_
      refine zr_getI (pc := 113) S fX12_text_163 dX12_text_113 rfl (Nat.le_of_ble_eq_true rfl) rfl ?_
      try simp only [zup_k, zup_e, ne_eq, Nat.reduceEqDiff, not_false_eq_true, zup_j]
      rw [b1]
      refine zr_if_ne (pc := 116) (tgt := 123) S dX12_text_116 (by decide) (fun c116 => ?_) (fun c116 => absurd c116 (by omega))
      refine zr_aload_n (pc := 123) S dX12_text_123 rfl ?_
      refine zr_getI (pc := 124) S fX12_text_166 dX12_text_124 rfl (Nat.le_of_ble_eq_true rfl) rfl ?_
      try simp only [zup_k, zup_e, ne_eq, Nat.reduceEqDiff, not_false_eq_true, zup_j]
      rw [b2]
      refine zr_putI (pc := 127) S pX12_text_26 dX12_text_127 rfl (Nat.le_of_ble_eq_true rfl) rfl ?_
      refine zr_aload_n (pc := 130) S dX12_text_130 rfl ?_
      refine zr_getI (pc := 131) S fX12_text_163 dX12_text_131 rfl (Nat.le_of_ble_eq_true rfl) rfl ?_
      try simp only [zup_k, zup_e, ne_eq, Nat.reduceEqDiff, not_false_eq_true, zup_j]
      rw [b1]
      refine zr_if_eq (pc := 134) (tgt := 145) S dX12_text_134 (by decide) (fun c134 => absurd c134 (by omega)) (fun c134 => ?_)
      refine zr_bipush (pc := 137) S dX12_text_137 ⟨by unfold zrI; omega, by decide⟩ ?_
      refine zr_aload_n (pc := 139) S dX12_text_139 rfl ?_
      refine zr_getI (pc := 140) S fX12_text_163 dX12_text_140 rfl (Nat.le_of_ble_eq_true rfl) rfl ?_
      try simp only [zup_k, zup_e, ne_eq, Nat.reduceEqDiff, not_false_eq_true, zup_j]
      rw [b1]
      refine zr_isub (pc := 143) S dX12_text_143 (by unfold zrI; omega) ?_
      exact zr_iret (pc := 144) S dX12_text_144 rfl ⟨Nat.le_refl _, Nat.le_refl _⟩ (q)
    · have q := fun V (hV : ∀ c, c ≠ 181 → V c = zup (zup U 180 14 0) 180 15 (-1) c) (hv : V 181 = txT (M 181) L L.length) => hY c L hr (by omega) V (base U _ oU 0 (-1) rfl V hV) hv
      obtain rfl : k = L.length / 7 := by omega
      have lp : ∀ r i : Nat, r + i = L.length → zK (zg E) rmX12_text 4 (Qp, 0, 0) X (0, 0) 154 [some (zR 180), some (zI nn), some (zI ((L.length / 7 : Nat) : Int)), some (zI i)] [] (zrow (zup (zup U 180 14 0) 180 15 (-1)) 181 (txT (M 181) L i)) := by
        intro r
        induction r with
        | zero =>
          intro i hi
          obtain rfl : i = L.length := by omega
          have qq := q _ (fun c hc => zrow_o hc) zrow_e
          refine zr_iload_n (pc := 154) S dX12_text_154 rfl ?_
          refine zr_bipush (pc := 155) S dX12_text_155 ⟨by unfold zrI; omega, by decide⟩ ?_
          refine zr_iload_n (pc := 157) S dX12_text_157 rfl ?_
          refine zr_imul (pc := 158) S dX12_text_158 (by unfold zrI; omega) ?_
          refine zr_icmp_ge (pc := 159) (tgt := 183) S dX12_text_159 (by decide) (fun c159 => ?_) (fun c159 => absurd c159 (by omega))
          refine zr_iload_n (pc := 183) S dX12_text_183 rfl ?_
          exact zr_iret (pc := 184) S dX12_text_184 rfl ⟨Nat.le_refl _, Nat.le_refl _⟩ (qq)
        | succ r ih =>
          intro i hi
          have k := ih (i + 1) (by omega)
          have ei : (i : Int).toNat = i := Int.toNat_natCast i
          have e1 : ((103 : Int) + (i : Int)).toNat = 103 + i := by omega
          have ef : zrow (zup (zup U 180 14 0) 180 15 (-1)) 181 (txT (M 181) L i) 185 i = L.getD i 0 := by
            rw [zrow_o (by decide), zup_o _ (by decide), zup_o _ (by decide)]
            exact hf i (by omega)
          rw [← txT_s, ← zrow_up, Int.natCast_add, Int.natCast_one] at k
          refine zr_iload_n (pc := 154) S dX12_text_154 rfl ?_
          refine zr_bipush (pc := 155) S dX12_text_155 ⟨by unfold zrI; omega, by decide⟩ ?_
          refine zr_iload_n (pc := 157) S dX12_text_157 rfl ?_
          refine zr_imul (pc := 158) S dX12_text_158 (by unfold zrI; omega) ?_
          refine zr_icmp_ge (pc := 159) (tgt := 183) S dX12_text_159 (by decide) (fun c159 => absurd c159 (by omega)) (fun c159 => ?_)
          refine zr_aload_n (pc := 162) S dX12_text_162 rfl ?_
          refine zr_getR (pc := 163) S fX12_text_9 dX12_text_163 rfl (Nat.le_of_ble_eq_true rfl) rfl ?_
          refine zr_bipush (pc := 166) S dX12_text_166 ⟨by unfold zrI; omega, by decide⟩ ?_
          refine zr_iload_n (pc := 168) S dX12_text_168 rfl ?_
          refine zr_iadd (pc := 169) S dX12_text_169 (by unfold zrI; omega) ?_
          refine zr_aload_n (pc := 170) S dX12_text_170 rfl ?_
          refine zr_getR (pc := 171) S fX12_text_23 dX12_text_171 rfl (Nat.le_of_ble_eq_true rfl) rfl ?_
          refine zr_iload_n (pc := 174) S dX12_text_174 rfl ?_
          refine zr_iaload (pc := 175) S dX12_text_175 rfl (Nat.le_of_ble_eq_true rfl) (by omega) (by omega) ?_
          rw [ei, ef]
          refine zr_iastore (pc := 176) S dX12_text_176 rfl (Nat.le_of_ble_eq_true rfl) (by omega) (by omega) ?_
          rw [e1]
          refine zr_iinc (pc := 177) S dX12_text_177 rfl (by unfold zrI; omega) (by decide) ?_
          dsimp only [zst1, zst2, zset, zget, zlong]
          refine zr_goto (pc := 180) (tgt := 154) S dX12_text_180 (by decide) ?_
          exact k
      have l0 := lp L.length 0 (by omega)
      have tl : zup (zup U 180 14 0) 180 15 (-1) 181 = M 181 := by rw [zup_o _ (by decide), zup_o _ (by decide)]; exact tolU U oU
      rw [← txT_0, ← zrow_up, ← tl, zrow_s] at l0
      refine zr_aload_n (pc := 103) S dX12_text_103 rfl ?_
      refine zr_aload_n (pc := 104) S dX12_text_104 rfl ?_
      refine zr_getI (pc := 105) S fX12_text_163 dX12_text_105 rfl (Nat.le_of_ble_eq_true rfl) rfl ?_
      try simp only [zup_k, zup_e, ne_eq, Nat.reduceEqDiff, not_false_eq_true, zup_j]
      rw [hb]
      refine zr_putI (pc := 108) S pX12_text_222 dX12_text_108 rfl (Nat.le_of_ble_eq_true rfl) rfl ?_
      refine zr_aload_n (pc := 111) S dX12_text_111 rfl ?_
      refine zr_aload_n (pc := 112) S dX12_text_112 rfl ?_
      refine zr_getI (pc := 113) S fX12_text_163 dX12_text_113 rfl (Nat.le_of_ble_eq_true rfl) rfl ?_
      try simp only [zup_k, zup_e, ne_eq, Nat.reduceEqDiff, not_false_eq_true, zup_j]
      rw [hb]
      refine zr_if_ne (pc := 116) (tgt := 123) S dX12_text_116 (by decide) (fun c116 => absurd c116 (by omega)) (fun c116 => ?_)
      refine zr_iconst (pc := 119) S dX12_text_119 (by unfold zrI; omega) ?_
      refine zr_goto (pc := 120) (tgt := 127) S dX12_text_120 (by decide) ?_
      refine zr_putI (pc := 127) S pX12_text_26 dX12_text_127 rfl (Nat.le_of_ble_eq_true rfl) rfl ?_
      refine zr_aload_n (pc := 130) S dX12_text_130 rfl ?_
      refine zr_getI (pc := 131) S fX12_text_163 dX12_text_131 rfl (Nat.le_of_ble_eq_true rfl) rfl ?_
      try simp only [zup_k, zup_e, ne_eq, Nat.reduceEqDiff, not_false_eq_true, zup_j]
      rw [hb]
      refine zr_if_eq (pc := 134) (tgt := 145) S dX12_text_134 (by decide) (fun c134 => ?_) (fun c134 => absurd c134 (by omega))
      refine zr_aload_n (pc := 145) S dX12_text_145 rfl ?_
      refine zr_getR (pc := 146) S fX12_text_9 dX12_text_146 rfl (Nat.le_of_ble_eq_true rfl) rfl ?_
      try simp only [zup_k, zup_e, ne_eq, Nat.reduceEqDiff, not_false_eq_true, zup_j]
      refine zr_iconst (pc := 149) S dX12_text_149 (by unfold zrI; omega) ?_
      refine zr_iload_n (pc := 150) S dX12_text_150 rfl ?_
      refine zr_iastore (pc := 151) S dX12_text_151 rfl (Nat.le_of_ble_eq_true rfl) (by omega) (by omega) ?_
      dsimp only [Int.reduceToNat]
      refine zr_iconst (pc := 152) S dX12_text_152 (by unfold zrI; omega) ?_
      refine zr_istore_n (pc := 153) S 3 dX12_text_153 rfl (by decide) ?_
      dsimp only [zst1, zst2, zset, zget, zlong]
      exact l0
  have k0 := fun c => key c _ rfl
  refine zr_aload_n (pc := 0) S dX12_text_0 rfl ?_
  refine zr_iconst (pc := 1) S dX12_text_1 (by unfold zrI; omega) ?_
  refine zr_putI (pc := 2) S pX12_text_80 dX12_text_2 rfl (Nat.le_of_ble_eq_true rfl) rfl ?_
  refine zr_iload_n (pc := 5) S dX12_text_5 rfl ?_
  refine zr_i2l (pc := 6) S dX12_text_6 ?_
  refine zr_lconst0 (pc := 7) S dX12_text_7 ?_
  refine zr_aload_n (pc := 8) S dX12_text_8 rfl ?_
  refine zr_getI (pc := 9) S fX12_text_136 dX12_text_9 rfl (Nat.le_of_ble_eq_true rfl) rfl ?_
  try simp only [zup_k, zup_e, ne_eq, Nat.reduceEqDiff, not_false_eq_true, zup_j]
  refine zr_i2l (pc := 12) S dX12_text_12 ?_
  refine zr_invS (pc := 13) S [zL _, zL _, zL _] (m_X12_within _) kX12_text_83 dX12_text_13 (Nat.le_of_ble_eq_true rfl) ⟨Nat.le_of_ble_eq_true rfl, Nat.le_of_ble_eq_true rfl⟩ (us_X12_within ?_)
  dsimp only [zaft, Option.toList, List.cons_append, List.nil_append, Nat.add_zero]
  refine zr_if_ne (pc := 16) (tgt := 25) S dX12_text_16 (by decide) (fun c16 => ?_) (fun c16 => ?_)
  · rw [b01_0, Classical.not_not] at c16
    have kk := k0 (by first | exact c16 | (simp only [zup_j, ne_eq, Nat.reduceEqDiff, not_false_eq_true] at c16; exact c16))
    refine zr_aload_n (pc := 25) S dX12_text_25 rfl ?_
    refine zr_iload_n (pc := 26) S dX12_text_26 rfl ?_
    refine zr_putI (pc := 27) S pX12_text_139 dX12_text_27 rfl (Nat.le_of_ble_eq_true rfl) rfl ?_
    refine zr_aload_n (pc := 30) S dX12_text_30 rfl ?_
    refine zr_iconst (pc := 31) S dX12_text_31 (by unfold zrI; omega) ?_
    refine zr_putI (pc := 32) S pX12_text_136 dX12_text_32 rfl (Nat.le_of_ble_eq_true rfl) rfl ?_
    refine zr_aload_n (pc := 35) S dX12_text_35 rfl ?_
    refine zr_iconst (pc := 36) S dX12_text_36 (by unfold zrI; omega) ?_
    refine zr_putI (pc := 37) S pX12_text_142 dX12_text_37 rfl (Nat.le_of_ble_eq_true rfl) rfl ?_
    refine zr_aload_n (pc := 40) S dX12_text_40 rfl ?_
    refine zr_iconst (pc := 41) S dX12_text_41 (by unfold zrI; omega) ?_
    refine zr_putI (pc := 42) S pX12_text_163 dX12_text_42 rfl (Nat.le_of_ble_eq_true rfl) rfl ?_
    refine zr_iconst (pc := 45) S dX12_text_45 (by unfold zrI; omega) ?_
    refine zr_istore_n (pc := 46) S 2 dX12_text_46 rfl (by decide) ?_
    dsimp only [zst1, zst2, zset, zget, zlong]
    refine zr_aload_n (pc := 47) S dX12_text_47 rfl ?_
    refine zr_invV (pc := 48) S [] (m_X12_next _) kX12_text_187 dX12_text_48 rfl (Nat.le_of_ble_eq_true rfl) rfl (Nat.le_of_ble_eq_true rfl) ⟨Nat.le_of_ble_eq_true rfl, Nat.le_of_ble_eq_true rfl⟩ (us_X12_next (n := nn.toNat) (p := 0) (by rw [zup_j (by decide), zup_j (by decide), zup_j (by decide), zup_e]; omega) (by omega) (by rw [zup_j (by decide), zup_e]; rfl) (by omega) (fun N' hN' => ?_))
    dsimp only [zaft, Option.toList, List.cons_append, List.nil_append, Nat.add_zero]
    exact kk N' hN'
  · rw [b01_0] at c16
    have f := hT (fun z => c16 (by first | exact z | (simp only [zup_j, ne_eq, Nat.reduceEqDiff, not_false_eq_true]; exact z)))
    refine zr_aload_n (pc := 19) S dX12_text_19 rfl ?_
    refine zr_iconst (pc := 20) S dX12_text_20 (by unfold zrI; omega) ?_
    refine zr_invV (pc := 21) S [zI _] (m_X12_fails _) kX12_text_95 dX12_text_21 rfl (Nat.le_of_ble_eq_true rfl) rfl (Nat.le_of_ble_eq_true rfl) ⟨Nat.le_of_ble_eq_true rfl, Nat.le_of_ble_eq_true rfl⟩ (us_X12_fails ?_)
    dsimp only [zaft, Option.toList, List.cons_append, List.nil_append, Nat.add_zero]
    exact zr_iret (pc := 24) S dX12_text_24 rfl ⟨Nat.le_refl _, Nat.le_refl _⟩ (f)
end
