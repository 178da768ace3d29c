section
/-- only the reader's place and value have changed -/
def avM (M U : zM) (p : Nat) (v : Int) : Prop := (∀ k, k ≠ 180 → U k = M k) ∧ (∀ j, j ≠ 8 → j ≠ 11 → U 180 j = M 180 j) ∧ U 180 8 = p ∧ U 180 11 = v
theorem avM.up {M U : zM} {p : Nat} {v w : Int} (h : avM M U p v) : avM M (zup (zup U 180 11 w) 180 8 ((p : Int) + 1)) (p + 1) w := ⟨fun k hk => by rw [zup_o k hk, zup_o k hk]; exact h.1 k hk, fun j hj h2 => by rw [zup_j hj, zup_j h2]; exact h.2.1 j hj h2, by rw [zup_e]; omega, by rw [zup_j (by decide), zup_e]⟩
theorem nx3 {E : zE} {X : zX} {Qp : Option zV → zM → Prop} {M : zM} {n s e : Nat} {u1 : Option zV} (S : zS (zg E) X cX12_next 2 wzX12_next RX12 none) (hn : M 180 7 = n) (n4 : n ≤ 400) (hb : M 180 9 = s) (hD : ∀ q, s ≤ q → q < e → isDi (M 184) n q) (k : ∀ U, avM M U e (tV (M 184) s e) → zK (zg E) rmX12_next 2 (Qp, 0, 0) X (0, 0) 212 [some (zR 180), u1] [] U) : ∀ (r p : Nat) (U : zM), r + p = n → s ≤ p → run (isDi (M 184) n) n p = e → avM M U p (tV (M 184) s p) → zK (zg E) rmX12_next 2 (Qp, 0, 0) X (0, 0) 141 [some (zR 180), u1] [] U := by
  intro r
  induction r with
  | zero =>
    intro p U hp hsp hs hU
    have ea := hU.2.2.1
    have es : U 180 7 = n := by rw [hU.2.1 _ (by decide) (by decide)]; exact hn
    rw [run_f (fun z => by have := z.1; omega)] at hs
    subst hs
    have l := k U hU
    have ev : (if (p : Int) < U 180 7 then U 184 p else 0) = 0 := if_neg (by omega)
    have c2 : ¬ ((48 : Int) ≤ 0 ∧ (0 : Int) ≤ 57) := by omega
    refine zr_aload_n (pc := 141) S dX12_next_141 rfl ?_
    refine zr_aload_n (pc := 142) S dX12_next_142 rfl ?_
    refine zr_getI (pc := 143) S fX12_next_142 dX12_next_143 rfl (Nat.le_of_ble_eq_true rfl) rfl ?_
    rw [ea]
    refine zr_invV (pc := 146) S [zI _] (m_X12_see _) kX12_next_154 dX12_next_146 rfl (Nat.le_of_ble_eq_true rfl) rfl (Nat.le_of_ble_eq_true rfl) ⟨Nat.le_of_ble_eq_true rfl, Nat.le_of_ble_eq_true rfl⟩ (us_X12_see (k := p) (by omega) (by omega) ?_)
    dsimp only [zaft, Option.toList, List.cons_append, List.nil_append, Nat.add_zero]
    rw [ev]
    refine zr_invS (pc := 149) S [zI _] (m_X12_isDigit _) kX12_next_157 dX12_next_149 (Nat.le_of_ble_eq_true rfl) ⟨Nat.le_of_ble_eq_true rfl, Nat.le_of_ble_eq_true rfl⟩ (us_X12_isDigit ?_)
    dsimp only [zaft, Option.toList, List.cons_append, List.nil_append, Nat.add_zero]
    rw [b01_f c2]
    refine zr_if_eq (pc := 152) (tgt := 212) S dX12_next_152 (by decide) (fun c152 => ?_) (fun c152 => absurd c152 (by omega))
    exact l
  | succ r ih =>
    intro p U hp hsp hs hU
    have ea := hU.2.2.1
    have evl := hU.2.2.2
    have es : U 180 7 = n := by rw [hU.2.1 _ (by decide) (by decide)]; exact hn
    have eb : U 180 9 = s := by rw [hU.2.1 _ (by decide) (by decide)]; exact hb
    have et : U 184 = M 184 := hU.1 _ (by decide)
    have ep : (p : Int).toNat = p := Int.toNat_natCast p
    have ev : (if (p : Int) < U 180 7 then U 184 p else 0) = M 184 p := by rw [if_pos (by omega), et]
    by_cases c : isDi (M 184) n p
    · rw [run_t c (by omega)] at hs
      have pe : p < e := by have := (run_r (P := isDi (M 184) n) (n := n) (p := p + 1) (by omega)).1; omega
      have c2 := c.2
      by_cases c3 : p - s < 2
      · have en : 10 * tV (M 184) s p + M 184 p - 48 = tV (M 184) s (p + 1) := by
          unfold tV
          by_cases c4 : p = s
          · subst c4
            rw [if_pos (by omega), if_neg (by omega), if_pos (by omega)]
            omega
          · have c5 : p = s + 1 := by omega
            subst c5
            rw [if_neg (by omega), if_pos (by omega), if_neg (by omega), if_neg (by omega)]
            omega
        have vr : 0 ≤ tV (M 184) s p ∧ tV (M 184) s p ≤ 99 := by
          unfold tV
          by_cases c4 : p = s
          · rw [if_pos (by omega)]; omega
          · have := (hD s (by omega) (by omega)).2
            rw [if_neg (by omega), if_pos (by omega)]
            omega
        have l := ih (p + 1) _ (by omega) (by omega) hs (hU.up (w := tV (M 184) s (p + 1)))
        refine zr_aload_n (pc := 141) S dX12_next_141 rfl ?_
        refine zr_aload_n (pc := 142) S dX12_next_142 rfl ?_
        refine zr_getI (pc := 143) S fX12_next_142 dX12_next_143 rfl (Nat.le_of_ble_eq_true rfl) rfl ?_
        rw [ea]
        refine zr_invV (pc := 146) S [zI _] (m_X12_see _) kX12_next_154 dX12_next_146 rfl (Nat.le_of_ble_eq_true rfl) rfl (Nat.le_of_ble_eq_true rfl) ⟨Nat.le_of_ble_eq_true rfl, Nat.le_of_ble_eq_true rfl⟩ (us_X12_see (k := p) (by omega) (by omega) ?_)
        dsimp only [zaft, Option.toList, List.cons_append, List.nil_append, Nat.add_zero]
        rw [ev]
        refine zr_invS (pc := 149) S [zI _] (m_X12_isDigit _) kX12_next_157 dX12_next_149 (Nat.le_of_ble_eq_true rfl) ⟨Nat.le_of_ble_eq_true rfl, Nat.le_of_ble_eq_true rfl⟩ (us_X12_isDigit ?_)
        dsimp only [zaft, Option.toList, List.cons_append, List.nil_append, Nat.add_zero]
        rw [b01_t c2]
        refine zr_if_eq (pc := 152) (tgt := 212) S dX12_next_152 (by decide) (fun c152 => absurd c152 (by omega)) (fun c152 => ?_)
        refine zr_aload_n (pc := 155) S dX12_next_155 rfl ?_
        refine zr_aload_n (pc := 156) S dX12_next_156 rfl ?_
        refine zr_getI (pc := 157) S fX12_next_142 dX12_next_157 rfl (Nat.le_of_ble_eq_true rfl) rfl ?_
        rw [ea]
        refine zr_aload_n (pc := 160) S dX12_next_160 rfl ?_
        refine zr_getI (pc := 161) S fX12_next_145 dX12_next_161 rfl (Nat.le_of_ble_eq_true rfl) rfl ?_
        rw [eb]
        refine zr_isub (pc := 164) S dX12_next_164 (by unfold zrI; omega) ?_
        refine zr_iconst (pc := 165) S dX12_next_165 (by unfold zrI; omega) ?_
        refine zr_icmp_ge (pc := 166) (tgt := 192) S dX12_next_166 (by decide) (fun c166 => absurd c166 (by omega)) (fun c166 => ?_)
        refine zr_bipush (pc := 169) S dX12_next_169 ⟨by unfold zrI; omega, by decide⟩ ?_
        refine zr_aload_n (pc := 171) S dX12_next_171 rfl ?_
        refine zr_getI (pc := 172) S fX12_next_160 dX12_next_172 rfl (Nat.le_of_ble_eq_true rfl) rfl ?_
        rw [evl]
        refine zr_imul (pc := 175) S dX12_next_175 (by unfold zrI; omega) ?_
        refine zr_aload_n (pc := 176) S dX12_next_176 rfl ?_
        refine zr_getR (pc := 177) S fX12_next_20 dX12_next_177 rfl (Nat.le_of_ble_eq_true rfl) rfl ?_
        refine zr_aload_n (pc := 180) S dX12_next_180 rfl ?_
        refine zr_getI (pc := 181) S fX12_next_142 dX12_next_181 rfl (Nat.le_of_ble_eq_true rfl) rfl ?_
        rw [ea]
        refine zr_iaload (pc := 184) S dX12_next_184 rfl (Nat.le_of_ble_eq_true rfl) (by omega) (by omega) ?_
        rw [et, ep]
        refine zr_iadd (pc := 185) S dX12_next_185 (by unfold zrI; omega) ?_
        refine zr_bipush (pc := 186) S dX12_next_186 ⟨by unfold zrI; omega, by decide⟩ ?_
        refine zr_isub (pc := 188) S dX12_next_188 (by unfold zrI; omega) ?_
        rw [en]
        refine zr_goto (pc := 189) (tgt := 196) S dX12_next_189 (by decide) ?_
        refine zr_putI (pc := 196) S pX12_next_160 dX12_next_196 rfl (Nat.le_of_ble_eq_true rfl) rfl ?_
        refine zr_aload_n (pc := 199) S dX12_next_199 rfl ?_
        refine zr_dup (pc := 200) S dX12_next_200 rfl ?_
        refine zr_getI (pc := 201) S fX12_next_142 dX12_next_201 rfl (Nat.le_of_ble_eq_true rfl) rfl ?_
        try simp only [zup_k, zup_e, ne_eq, Nat.reduceEqDiff, not_false_eq_true, zup_j]
        rw [ea]
        refine zr_iconst (pc := 204) S dX12_next_204 (by unfold zrI; omega) ?_
        refine zr_iadd (pc := 205) S dX12_next_205 (by unfold zrI; omega) ?_
        refine zr_putI (pc := 206) S pX12_next_142 dX12_next_206 rfl (Nat.le_of_ble_eq_true rfl) rfl ?_
        refine zr_goto (pc := 209) (tgt := 141) S dX12_next_209 (by decide) ?_
        exact l
      · have en : tV (M 184) s p = tV (M 184) s (p + 1) := by
          unfold tV
          rw [if_neg (by omega), if_neg (by omega), if_neg (by omega), if_neg (by omega)]
        have l := ih (p + 1) _ (by omega) (by omega) hs (hU.up (w := tV (M 184) s (p + 1)))
        refine zr_aload_n (pc := 141) S dX12_next_141 rfl ?_
        refine zr_aload_n (pc := 142) S dX12_next_142 rfl ?_
        refine zr_getI (pc := 143) S fX12_next_142 dX12_next_143 rfl (Nat.le_of_ble_eq_true rfl) rfl ?_
        rw [ea]
        refine zr_invV (pc := 146) S [zI _] (m_X12_see _) kX12_next_154 dX12_next_146 rfl (Nat.le_of_ble_eq_true rfl) rfl (Nat.le_of_ble_eq_true rfl) ⟨Nat.le_of_ble_eq_true rfl, Nat.le_of_ble_eq_true rfl⟩ (us_X12_see (k := p) (by omega) (by omega) ?_)
        dsimp only [zaft, Option.toList, List.cons_append, List.nil_append, Nat.add_zero]
        rw [ev]
        refine zr_invS (pc := 149) S [zI _] (m_X12_isDigit _) kX12_next_157 dX12_next_149 (Nat.le_of_ble_eq_true rfl) ⟨Nat.le_of_ble_eq_true rfl, Nat.le_of_ble_eq_true rfl⟩ (us_X12_isDigit ?_)
        dsimp only [zaft, Option.toList, List.cons_append, List.nil_append, Nat.add_zero]
        rw [b01_t c2]
        refine zr_if_eq (pc := 152) (tgt := 212) S dX12_next_152 (by decide) (fun c152 => absurd c152 (by omega)) (fun c152 => ?_)
        refine zr_aload_n (pc := 155) S dX12_next_155 rfl ?_
        refine zr_aload_n (pc := 156) S dX12_next_156 rfl ?_
        refine zr_getI (pc := 157) S fX12_next_142 dX12_next_157 rfl (Nat.le_of_ble_eq_true rfl) rfl ?_
        rw [ea]
        refine zr_aload_n (pc := 160) S dX12_next_160 rfl ?_
        refine zr_getI (pc := 161) S fX12_next_145 dX12_next_161 rfl (Nat.le_of_ble_eq_true rfl) rfl ?_
        rw [eb]
        refine zr_isub (pc := 164) S dX12_next_164 (by unfold zrI; omega) ?_
        refine zr_iconst (pc := 165) S dX12_next_165 (by unfold zrI; omega) ?_
        refine zr_icmp_ge (pc := 166) (tgt := 192) S dX12_next_166 (by decide) (fun c166 => ?_) (fun c166 => absurd c166 (by omega))
        refine zr_aload_n (pc := 192) S dX12_next_192 rfl ?_
        refine zr_getI (pc := 193) S fX12_next_160 dX12_next_193 rfl (Nat.le_of_ble_eq_true rfl) rfl ?_
        rw [evl, en]
        refine zr_putI (pc := 196) S pX12_next_160 dX12_next_196 rfl (Nat.le_of_ble_eq_true rfl) rfl ?_
        refine zr_aload_n (pc := 199) S dX12_next_199 rfl ?_
        refine zr_dup (pc := 200) S dX12_next_200 rfl ?_
        refine zr_getI (pc := 201) S fX12_next_142 dX12_next_201 rfl (Nat.le_of_ble_eq_true rfl) rfl ?_
        try simp only [zup_k, zup_e, ne_eq, Nat.reduceEqDiff, not_false_eq_true, zup_j]
        rw [ea]
        refine zr_iconst (pc := 204) S dX12_next_204 (by unfold zrI; omega) ?_
        refine zr_iadd (pc := 205) S dX12_next_205 (by unfold zrI; omega) ?_
        refine zr_putI (pc := 206) S pX12_next_142 dX12_next_206 rfl (Nat.le_of_ble_eq_true rfl) rfl ?_
        refine zr_goto (pc := 209) (tgt := 141) S dX12_next_209 (by decide) ?_
        exact l
    · rw [run_f c] at hs
      subst hs
      have l := k U hU
      have c2 : ¬ (48 ≤ M 184 p ∧ M 184 p ≤ 57) := fun z => c ⟨by omega, z⟩
      refine zr_aload_n (pc := 141) S dX12_next_141 rfl ?_
      refine zr_aload_n (pc := 142) S dX12_next_142 rfl ?_
      refine zr_getI (pc := 143) S fX12_next_142 dX12_next_143 rfl (Nat.le_of_ble_eq_true rfl) rfl ?_
      rw [ea]
      refine zr_invV (pc := 146) S [zI _] (m_X12_see _) kX12_next_154 dX12_next_146 rfl (Nat.le_of_ble_eq_true rfl) rfl (Nat.le_of_ble_eq_true rfl) ⟨Nat.le_of_ble_eq_true rfl, Nat.le_of_ble_eq_true rfl⟩ (us_X12_see (k := p) (by omega) (by omega) ?_)
      dsimp only [zaft, Option.toList, List.cons_append, List.nil_append, Nat.add_zero]
      rw [ev]
      refine zr_invS (pc := 149) S [zI _] (m_X12_isDigit _) kX12_next_157 dX12_next_149 (Nat.le_of_ble_eq_true rfl) ⟨Nat.le_of_ble_eq_true rfl, Nat.le_of_ble_eq_true rfl⟩ (us_X12_isDigit ?_)
      dsimp only [zaft, Option.toList, List.cons_append, List.nil_append, Nat.add_zero]
      rw [b01_f c2]
      refine zr_if_eq (pc := 152) (tgt := 212) S dX12_next_152 (by decide) (fun c152 => ?_) (fun c152 => absurd c152 (by omega))
      exact l
theorem runP_all {P : Nat → Prop} [DecidablePred P] : ∀ f p q, p ≤ q → q < runP P f p → P q
  | 0, p, q, h1, h2 => by simp only [runP] at h2; omega
  | f + 1, p, q, h1, h2 => by
    simp only [runP] at h2
    split at h2
    · rename_i c
      by_cases e : q = p
      · rw [e]; exact c
      · exact runP_all f (p + 1) q (by omega) h2
    · omega
end
