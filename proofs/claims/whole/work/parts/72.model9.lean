section
/-- a buyer's third and fourth coin, as the reference keeps them -/
def by3 (b c : Int) : Int := if b = -1 then -1 else c
def by4 (b c d : Int) : Int := if by3 b c = -1 then -1 else d
abbrev byT (t : Nat → Int) (g a b c d : Int) : Prop := (0 ≤ g ∧ g < t 2) ∧ (0 ≤ a ∧ a < t 0) ∧ (b = -1 ∨ ((0 ≤ b ∧ b < t 0) ∧ (c = -1 ∨ ((0 ≤ c ∧ c < t 0) ∧ (d = -1 ∨ (0 ≤ d ∧ d < t 0))))))
def buyT (t : Nat → Int) (k : Nat) (g a b c d h : Int) : Nat → Int := rUp (rUp (rUp (rUp (rUp (rUp (rUp t (577 + 6 * k) g) (578 + 6 * k) a) (579 + 6 * k) b) (580 + 6 * k) (by3 b c)) (581 + 6 * k) (by4 b c d)) (582 + 6 * k) h) 4 ((k : Int) + 1)
def sp_X12_buyer (as : List zV) (M : zM) (Q : Option zV → zM → Prop) : Prop := ∃ (g a b c d h : Int), as = [zR 180, zI g, zI a, zI b, zI c, zI d, zI h] ∧ (0 ≤ M 181 0 ∧ M 181 0 ≤ 8) ∧ (0 ≤ M 181 2) ∧ (0 ≤ M 181 4 ∧ M 181 4 ≤ 5) ∧ (byT (M 181) g a b c d → (1 ≤ h ∧ h ≤ 9) → ¬ M 181 4 = 5 → Q (some (zI (M 181 4))) (zrow (tz M 0) 181 (buyT (M 181) (M 181 4).toNat g a b c d h))) ∧ (byT (M 181) g a b c d → (1 ≤ h ∧ h ≤ 9) → M 181 4 = 5 → Q (some (zI (-1))) (tz M 0)) ∧ (¬ byT (M 181) g a b c d → Q (some (zI 0)) (tz (tz M 0) 1)) ∧ (byT (M 181) g a b c d → ¬ (1 ≤ h ∧ h ≤ 9) → Q (some (zI 0)) (tz (tz M 0) 2))
theorem us_X12_buyer {g a b c d h : Int} {M : zM} {Q : Option zV → zM → Prop} (h0 : 0 ≤ M 181 0 ∧ M 181 0 ≤ 8) (h2 : 0 ≤ M 181 2) (h4 : 0 ≤ M 181 4 ∧ M 181 4 ≤ 5) (hQ : byT (M 181) g a b c d → (1 ≤ h ∧ h ≤ 9) → ¬ M 181 4 = 5 → Q (some (zI (M 181 4))) (zrow (tz M 0) 181 (buyT (M 181) (M 181 4).toNat g a b c d h))) (hF : byT (M 181) g a b c d → (1 ≤ h ∧ h ≤ 9) → M 181 4 = 5 → Q (some (zI (-1))) (tz M 0)) (hT : ¬ byT (M 181) g a b c d → Q (some (zI 0)) (tz (tz M 0) 1)) (hU : byT (M 181) g a b c d → ¬ (1 ≤ h ∧ h ≤ 9) → Q (some (zI 0)) (tz (tz M 0) 2)) : sp_X12_buyer [zR 180, zI g, zI a, zI b, zI c, zI d, zI h] M Q := ⟨g, a, b, c, d, h, rfl, h0, h2, h4, hQ, hF, hT, hU⟩
set_option maxRecDepth 20000 in
set_option maxHeartbeats 4000000 in
theorem m_X12_buyer (l : Launch) : zC l yX12_buyer wzX12_buyer rmX12_buyer sp_X12_buyer := by
  refine zMet.of RX12 (by decide +kernel) rfl rfl ?_
  intro E X as M Qp hX S hsp
  obtain ⟨g, a, b, c, d, h, rfl, h0, h2, h4, hQ, hF, hT, hU⟩ := hsp
  refine ⟨Nat.le_of_ble_eq_true rfl, ?_⟩
  dsimp only [zpad, zargs]
  have et : tz M 0 181 = M 181 := zup_o _ (by decide)
  obtain ⟨n, hn⟩ : ∃ n : Nat, M 181 4 = n := ⟨(M 181 4).toNat, by omega⟩
  have key : ∀ e f : Int, e = by3 b c → f = by4 b c d → byT (M 181) g a b c d → zK (zg E) rmX12_buyer 10 (Qp, 0, 0) X (0, 0) 97 [some (zR 180), some (zI g), some (zI a), some (zI b), some (zI c), some (zI d), some (zI h), some (zI e), some (zI f), none] [] (tz M 0) := by
    intro e f he hf ok
    have q0 : ((577 : Int) + 6 * (n : Int)).toNat = 577 + 6 * n := by omega
    have q1 : ((577 : Int) + 6 * (n : Int) + 1).toNat = 578 + 6 * n := by omega
    have q2 : ((577 : Int) + 6 * (n : Int) + 2).toNat = 579 + 6 * n := by omega
    have q3 : ((577 : Int) + 6 * (n : Int) + 3).toNat = 580 + 6 * n := by omega
    have q4 : ((577 : Int) + 6 * (n : Int) + 4).toNat = 581 + 6 * n := by omega
    have q5 : ((577 : Int) + 6 * (n : Int) + 5).toNat = 582 + 6 * n := by omega
    have z4 : ∀ (N : zM) (o : Nat) (v : Int), 577 ≤ o → zup N 181 o v 181 4 = N 181 4 := fun N o v ho => zup_j (by omega)
    have f1 := hQ ok
    unfold buyT at f1
    rw [← he, ← hf, hn, Int.toNat_natCast, ← et] at f1
    rw [← zrow_up, ← zrow_up, ← zrow_up, ← zrow_up, ← zrow_up, ← zrow_up, ← zrow_up, zrow_s] at f1
    have hn' : tz M 0 181 4 = n := by rw [et]; exact hn
    refine zr_iload (pc := 97) S dX12_buyer_97 rfl ?_
    refine zr_i2l (pc := 99) S dX12_buyer_99 ?_
    refine zr_lconst1 (pc := 100) S dX12_buyer_100 ?_
    refine zr_ldc2 (pc := 101) S (9) dX12_buyer_101 (List.mem_cons_of_mem _ (zWi_7 _ (List.mem_of_getElem? (i := 22) rfl))) (by unfold zrL; omega) ?_
    refine zr_invS (pc := 104) S [zL _, zL _, zL _] (m_X12_within _) kX12_buyer_83 dX12_buyer_104 (Nat.le_of_ble_eq_true rfl) ⟨Nat.le_of_ble_eq_true rfl, Nat.le_of_ble_eq_true rfl⟩ (us_X12_within ?_)
    dsimp only [zaft, Option.toList, List.cons_append, List.nil_append, Nat.add_zero]
    refine zr_if_ne (pc := 107) (tgt := 116) S dX12_buyer_107 (by decide) (fun c107 => ?_) (fun c107 => ?_)
    · rw [b01_0, Classical.not_not] at c107
      refine zr_aload_n (pc := 116) S dX12_buyer_116 rfl ?_
      refine zr_getR (pc := 117) S fX12_buyer_9 dX12_buyer_117 rfl (Nat.le_of_ble_eq_true rfl) rfl ?_
      refine zr_iconst (pc := 120) S dX12_buyer_120 (by unfold zrI; omega) ?_
      refine zr_iaload (pc := 121) S dX12_buyer_121 rfl (Nat.le_of_ble_eq_true rfl) (by omega) (by omega) ?_
      dsimp only [Int.reduceToNat]
      rw [hn']
      refine zr_iconst (pc := 122) S dX12_buyer_122 (by unfold zrI; omega) ?_
      refine zr_icmp_ne (pc := 123) (tgt := 128) S dX12_buyer_123 (by decide) (fun c123 => ?_) (fun c123 => ?_)
      · have g1 := f1 c107 (by omega)
        refine zr_sipush (pc := 128) S dX12_buyer_128 ⟨by unfold zrI; omega, by decide⟩ ?_
        refine zr_bipush (pc := 131) S dX12_buyer_131 ⟨by unfold zrI; omega, by decide⟩ ?_
        refine zr_aload_n (pc := 133) S dX12_buyer_133 rfl ?_
        refine zr_getR (pc := 134) S fX12_buyer_9 dX12_buyer_134 rfl (Nat.le_of_ble_eq_true rfl) rfl ?_
        refine zr_iconst (pc := 137) S dX12_buyer_137 (by unfold zrI; omega) ?_
        refine zr_iaload (pc := 138) S dX12_buyer_138 rfl (Nat.le_of_ble_eq_true rfl) (by omega) (by omega) ?_
        dsimp only [Int.reduceToNat]
        rw [hn']
        refine zr_imul (pc := 139) S dX12_buyer_139 (by unfold zrI; omega) ?_
        refine zr_iadd (pc := 140) S dX12_buyer_140 (by unfold zrI; omega) ?_
        refine zr_istore (pc := 141) S dX12_buyer_141 (by decide) ?_
        dsimp only [zst1, zst2, zset, zget, zlong]
        refine zr_aload_n (pc := 143) S dX12_buyer_143 rfl ?_
        refine zr_getR (pc := 144) S fX12_buyer_9 dX12_buyer_144 rfl (Nat.le_of_ble_eq_true rfl) rfl ?_
        refine zr_iload (pc := 147) S dX12_buyer_147 rfl ?_
        refine zr_iload_n (pc := 149) S dX12_buyer_149 rfl ?_
        refine zr_iastore (pc := 150) S dX12_buyer_150 rfl (Nat.le_of_ble_eq_true rfl) (by omega) (by omega) ?_
        rw [q0]
        refine zr_aload_n (pc := 151) S dX12_buyer_151 rfl ?_
        refine zr_getR (pc := 152) S fX12_buyer_9 dX12_buyer_152 rfl (Nat.le_of_ble_eq_true rfl) rfl ?_
        try simp only [zup_k, zup_e, ne_eq, Nat.reduceEqDiff, not_false_eq_true, zup_j]
        refine zr_iload (pc := 155) S dX12_buyer_155 rfl ?_
        refine zr_iconst (pc := 157) S dX12_buyer_157 (by unfold zrI; omega) ?_
        refine zr_iadd (pc := 158) S dX12_buyer_158 (by unfold zrI; omega) ?_
        refine zr_iload_n (pc := 159) S dX12_buyer_159 rfl ?_
        refine zr_iastore (pc := 160) S dX12_buyer_160 rfl (Nat.le_of_ble_eq_true rfl) (by omega) (by omega) ?_
        rw [q1]
        refine zr_aload_n (pc := 161) S dX12_buyer_161 rfl ?_
        refine zr_getR (pc := 162) S fX12_buyer_9 dX12_buyer_162 rfl (Nat.le_of_ble_eq_true rfl) rfl ?_
        try simp only [zup_k, zup_e, ne_eq, Nat.reduceEqDiff, not_false_eq_true, zup_j]
        refine zr_iload (pc := 165) S dX12_buyer_165 rfl ?_
        refine zr_iconst (pc := 167) S dX12_buyer_167 (by unfold zrI; omega) ?_
        refine zr_iadd (pc := 168) S dX12_buyer_168 (by unfold zrI; omega) ?_
        refine zr_iload_n (pc := 169) S dX12_buyer_169 rfl ?_
        refine zr_iastore (pc := 170) S dX12_buyer_170 rfl (Nat.le_of_ble_eq_true rfl) (by omega) (by omega) ?_
        rw [q2]
        refine zr_aload_n (pc := 171) S dX12_buyer_171 rfl ?_
        refine zr_getR (pc := 172) S fX12_buyer_9 dX12_buyer_172 rfl (Nat.le_of_ble_eq_true rfl) rfl ?_
        try simp only [zup_k, zup_e, ne_eq, Nat.reduceEqDiff, not_false_eq_true, zup_j]
        refine zr_iload (pc := 175) S dX12_buyer_175 rfl ?_
        refine zr_iconst (pc := 177) S dX12_buyer_177 (by unfold zrI; omega) ?_
        refine zr_iadd (pc := 178) S dX12_buyer_178 (by unfold zrI; omega) ?_
        refine zr_iload (pc := 179) S dX12_buyer_179 rfl ?_
        refine zr_iastore (pc := 181) S dX12_buyer_181 rfl (Nat.le_of_ble_eq_true rfl) (by omega) (by omega) ?_
        rw [q3]
        refine zr_aload_n (pc := 182) S dX12_buyer_182 rfl ?_
        refine zr_getR (pc := 183) S fX12_buyer_9 dX12_buyer_183 rfl (Nat.le_of_ble_eq_true rfl) rfl ?_
        try simp only [zup_k, zup_e, ne_eq, Nat.reduceEqDiff, not_false_eq_true, zup_j]
        refine zr_iload (pc := 186) S dX12_buyer_186 rfl ?_
        refine zr_iconst (pc := 188) S dX12_buyer_188 (by unfold zrI; omega) ?_
        refine zr_iadd (pc := 189) S dX12_buyer_189 (by unfold zrI; omega) ?_
        refine zr_iload (pc := 190) S dX12_buyer_190 rfl ?_
        refine zr_iastore (pc := 192) S dX12_buyer_192 rfl (Nat.le_of_ble_eq_true rfl) (by omega) (by omega) ?_
        rw [q4]
        refine zr_aload_n (pc := 193) S dX12_buyer_193 rfl ?_
        refine zr_getR (pc := 194) S fX12_buyer_9 dX12_buyer_194 rfl (Nat.le_of_ble_eq_true rfl) rfl ?_
        try simp only [zup_k, zup_e, ne_eq, Nat.reduceEqDiff, not_false_eq_true, zup_j]
        refine zr_iload (pc := 197) S dX12_buyer_197 rfl ?_
        refine zr_iconst (pc := 199) S dX12_buyer_199 (by unfold zrI; omega) ?_
        refine zr_iadd (pc := 200) S dX12_buyer_200 (by unfold zrI; omega) ?_
        refine zr_iload (pc := 201) S dX12_buyer_201 rfl ?_
        refine zr_iastore (pc := 203) S dX12_buyer_203 rfl (Nat.le_of_ble_eq_true rfl) (by omega) (by omega) ?_
        rw [q5]
        refine zr_aload_n (pc := 204) S dX12_buyer_204 rfl ?_
        refine zr_getR (pc := 205) S fX12_buyer_9 dX12_buyer_205 rfl (Nat.le_of_ble_eq_true rfl) rfl ?_
        try simp only [zup_k, zup_e, ne_eq, Nat.reduceEqDiff, not_false_eq_true, zup_j]
        refine zr_iconst (pc := 208) S dX12_buyer_208 (by unfold zrI; omega) ?_
        refine zr_dup2 (pc := 209) S dX12_buyer_209 rfl rfl ?_
        refine zr_iaload (pc := 210) S dX12_buyer_210 rfl (Nat.le_of_ble_eq_true rfl) (by omega) (by omega) ?_
        dsimp only [Int.reduceToNat]
        try simp only [zup_k, zup_e, ne_eq, Nat.reduceEqDiff, not_false_eq_true]
        rw [z4 _ _ _ (by omega), z4 _ _ _ (by omega), z4 _ _ _ (by omega), z4 _ _ _ (by omega), z4 _ _ _ (by omega), z4 _ _ _ (by omega), hn']
        refine zr_iconst (pc := 211) S dX12_buyer_211 (by unfold zrI; omega) ?_
        refine zr_iadd (pc := 212) S dX12_buyer_212 (by unfold zrI; omega) ?_
        refine zr_iastore (pc := 213) S dX12_buyer_213 rfl (Nat.le_of_ble_eq_true rfl) (by omega) (by omega) ?_
        refine zr_aload_n (pc := 214) S dX12_buyer_214 rfl ?_
        refine zr_getR (pc := 215) S fX12_buyer_9 dX12_buyer_215 rfl (Nat.le_of_ble_eq_true rfl) rfl ?_
        try simp only [zup_k, zup_e, ne_eq, Nat.reduceEqDiff, not_false_eq_true, zup_j]
        refine zr_iconst (pc := 218) S dX12_buyer_218 (by unfold zrI; omega) ?_
        refine zr_iaload (pc := 219) S dX12_buyer_219 rfl (Nat.le_of_ble_eq_true rfl) (by omega) (by omega) ?_
        dsimp only [Int.reduceToNat]
        try simp only [zup_k, zup_e, ne_eq, Nat.reduceEqDiff, not_false_eq_true]
        try simp only [zup_e]
        refine zr_iconst (pc := 220) S dX12_buyer_220 (by unfold zrI; omega) ?_
        refine zr_isub (pc := 221) S dX12_buyer_221 (by unfold zrI; omega) ?_
        exact zr_iret (pc := 222) S dX12_buyer_222 rfl ⟨Nat.le_refl _, Nat.le_refl _⟩ (by first | exact g1 | exact zqi g1 (by omega))
      · have g1 := hF ok c107 (by omega)
        refine zr_iconst (pc := 126) S dX12_buyer_126 (by unfold zrI; omega) ?_
        exact zr_iret (pc := 127) S dX12_buyer_127 rfl ⟨Nat.le_refl _, Nat.le_refl _⟩ (by first | exact g1 | exact zqi g1 (by omega))
    · rw [b01_0] at c107
      have g1 := hU ok c107
      refine zr_aload_n (pc := 110) S dX12_buyer_110 rfl ?_
      refine zr_iconst (pc := 111) S dX12_buyer_111 (by unfold zrI; omega) ?_
      refine zr_invV (pc := 112) S [zI _] (m_X12_fails _) kX12_buyer_95 dX12_buyer_112 rfl (Nat.le_of_ble_eq_true rfl) rfl (Nat.le_of_ble_eq_true rfl) ⟨Nat.le_of_ble_eq_true rfl, Nat.le_of_ble_eq_true rfl⟩ (us_X12_fails ?_)
      dsimp only [zaft, Option.toList, List.cons_append, List.nil_append, Nat.add_zero]
      exact zr_iret (pc := 115) S dX12_buyer_115 rfl ⟨Nat.le_refl _, Nat.le_refl _⟩ (by first | exact g1 | exact zqi g1 (by omega))
  refine zr_aload_n (pc := 0) S dX12_buyer_0 rfl ?_
  refine zr_iconst (pc := 1) S dX12_buyer_1 (by unfold zrI; omega) ?_
  refine zr_putI (pc := 2) S pX12_buyer_80 dX12_buyer_2 rfl (Nat.le_of_ble_eq_true rfl) rfl ?_
  refine zr_iload_n (pc := 5) S dX12_buyer_5 rfl ?_
  refine zr_iconst (pc := 6) S dX12_buyer_6 (by unfold zrI; omega) ?_
  refine zr_icmp_ne (pc := 7) (tgt := 14) S dX12_buyer_7 (by decide) (fun c7 => ?_) (fun c7 => ?_)
  · refine zr_iload (pc := 14) S dX12_buyer_14 rfl ?_
    refine zr_istore (pc := 16) S dX12_buyer_16 (by decide) ?_
    dsimp only [zst1, zst2, zset, zget, zlong]
    refine zr_iload (pc := 18) S dX12_buyer_18 rfl ?_
    refine zr_iconst (pc := 20) S dX12_buyer_20 (by unfold zrI; omega) ?_
    refine zr_icmp_ne (pc := 21) (tgt := 28) S dX12_buyer_21 (by decide) (fun c21 => ?_) (fun c21 => ?_)
    · refine zr_iload (pc := 28) S dX12_buyer_28 rfl ?_
      refine zr_istore (pc := 30) S dX12_buyer_30 (by decide) ?_
      dsimp only [zst1, zst2, zset, zget, zlong]
      refine zr_aload_n (pc := 32) S dX12_buyer_32 rfl ?_
      refine zr_iload_n (pc := 33) S dX12_buyer_33 rfl ?_
      refine zr_invV (pc := 34) S [zI _] (m_X12_isOffer _) kX12_buyer_290 dX12_buyer_34 rfl (Nat.le_of_ble_eq_true rfl) rfl (Nat.le_of_ble_eq_true rfl) ⟨Nat.le_of_ble_eq_true rfl, Nat.le_of_ble_eq_true rfl⟩ (us_X12_isOffer h2 ?_)
      dsimp only [zaft, Option.toList, List.cons_append, List.nil_append, Nat.add_zero]
      refine zr_if_eq (pc := 37) (tgt := 91) S dX12_buyer_37 (by decide) (fun c37 => ?_) (fun c37 => ?_)
      · rw [b01_0] at c37
        have g1 := hT (fun z => c37 (by have := z.1; show _ ∧ _ ≤ M 181 2 - 1; omega))
        refine zr_aload_n (pc := 91) S dX12_buyer_91 rfl ?_
        refine zr_iconst (pc := 92) S dX12_buyer_92 (by unfold zrI; omega) ?_
        refine zr_invV (pc := 93) S [zI _] (m_X12_fails _) kX12_buyer_95 dX12_buyer_93 rfl (Nat.le_of_ble_eq_true rfl) rfl (Nat.le_of_ble_eq_true rfl) ⟨Nat.le_of_ble_eq_true rfl, Nat.le_of_ble_eq_true rfl⟩ (us_X12_fails ?_)
        dsimp only [zaft, Option.toList, List.cons_append, List.nil_append, Nat.add_zero]
        exact zr_iret (pc := 96) S dX12_buyer_96 rfl ⟨Nat.le_refl _, Nat.le_refl _⟩ (g1)
      · rw [b01_0, Classical.not_not] at c37
        refine zr_aload_n (pc := 40) S dX12_buyer_40 rfl ?_
        refine zr_iload_n (pc := 41) S dX12_buyer_41 rfl ?_
        refine zr_invV (pc := 42) S [zI _] (m_X12_isSort _) kX12_buyer_99 dX12_buyer_42 rfl (Nat.le_of_ble_eq_true rfl) rfl (Nat.le_of_ble_eq_true rfl) ⟨Nat.le_of_ble_eq_true rfl, Nat.le_of_ble_eq_true rfl⟩ (us_X12_isSort h0.1 ?_)
        dsimp only [zaft, Option.toList, List.cons_append, List.nil_append, Nat.add_zero]
        refine zr_if_eq (pc := 45) (tgt := 91) S dX12_buyer_45 (by decide) (fun c45 => ?_) (fun c45 => ?_)
        · rw [b01_0] at c45
          have g1 := hT (fun z => c45 (by have := z.2.1; show _ ∧ _ ≤ M 181 0 - 1; omega))
          refine zr_aload_n (pc := 91) S dX12_buyer_91 rfl ?_
          refine zr_iconst (pc := 92) S dX12_buyer_92 (by unfold zrI; omega) ?_
          refine zr_invV (pc := 93) S [zI _] (m_X12_fails _) kX12_buyer_95 dX12_buyer_93 rfl (Nat.le_of_ble_eq_true rfl) rfl (Nat.le_of_ble_eq_true rfl) ⟨Nat.le_of_ble_eq_true rfl, Nat.le_of_ble_eq_true rfl⟩ (us_X12_fails ?_)
          dsimp only [zaft, Option.toList, List.cons_append, List.nil_append, Nat.add_zero]
          exact zr_iret (pc := 96) S dX12_buyer_96 rfl ⟨Nat.le_refl _, Nat.le_refl _⟩ (g1)
        · rw [b01_0, Classical.not_not] at c45
          refine zr_iload_n (pc := 48) S dX12_buyer_48 rfl ?_
          refine zr_iconst (pc := 49) S dX12_buyer_49 (by unfold zrI; omega) ?_
          refine zr_icmp_eq (pc := 50) (tgt := 61) S dX12_buyer_50 (by decide) (fun c50 => ?_) (fun c50 => ?_)
          · refine zr_iload (pc := 61) S dX12_buyer_61 rfl ?_
            refine zr_iconst (pc := 63) S dX12_buyer_63 (by unfold zrI; omega) ?_
            refine zr_icmp_eq (pc := 64) (tgt := 76) S dX12_buyer_64 (by decide) (fun c64 => ?_) (fun c64 => ?_)
            · refine zr_iload (pc := 76) S dX12_buyer_76 rfl ?_
              refine zr_iconst (pc := 78) S dX12_buyer_78 (by unfold zrI; omega) ?_
              refine zr_icmp_eq (pc := 79) (tgt := 97) S dX12_buyer_79 (by decide) (fun c79 => ?_) (fun c79 => ?_)
              · exact key _ _ (by unfold by3; split <;> omega) (by unfold by4 by3; (repeat' split) <;> omega) (by unfold byT; simp only [show tz M 0 181 = M 181 from et] at *; omega)
              · refine zr_aload_n (pc := 82) S dX12_buyer_82 rfl ?_
                refine zr_iload (pc := 83) S dX12_buyer_83 rfl ?_
                refine zr_invV (pc := 85) S [zI _] (m_X12_isSort _) kX12_buyer_99 dX12_buyer_85 rfl (Nat.le_of_ble_eq_true rfl) rfl (Nat.le_of_ble_eq_true rfl) ⟨Nat.le_of_ble_eq_true rfl, Nat.le_of_ble_eq_true rfl⟩ (us_X12_isSort h0.1 ?_)
                dsimp only [zaft, Option.toList, List.cons_append, List.nil_append, Nat.add_zero]
                refine zr_if_ne (pc := 88) (tgt := 97) S dX12_buyer_88 (by decide) (fun c88 => ?_) (fun c88 => ?_)
                · rw [b01_0, Classical.not_not] at c88
                  exact key _ _ (by unfold by3; split <;> omega) (by unfold by4 by3; (repeat' split) <;> omega) (by unfold byT; simp only [show tz M 0 181 = M 181 from et] at *; omega)
                · rw [b01_0] at c88
                  have g1 := hT (fun z => c88 (by have := z.2.2; show _ ∧ _ ≤ M 181 0 - 1; omega))
                  refine zr_aload_n (pc := 91) S dX12_buyer_91 rfl ?_
                  refine zr_iconst (pc := 92) S dX12_buyer_92 (by unfold zrI; omega) ?_
                  refine zr_invV (pc := 93) S [zI _] (m_X12_fails _) kX12_buyer_95 dX12_buyer_93 rfl (Nat.le_of_ble_eq_true rfl) rfl (Nat.le_of_ble_eq_true rfl) ⟨Nat.le_of_ble_eq_true rfl, Nat.le_of_ble_eq_true rfl⟩ (us_X12_fails ?_)
                  dsimp only [zaft, Option.toList, List.cons_append, List.nil_append, Nat.add_zero]
                  exact zr_iret (pc := 96) S dX12_buyer_96 rfl ⟨Nat.le_refl _, Nat.le_refl _⟩ (g1)
            · refine zr_aload_n (pc := 67) S dX12_buyer_67 rfl ?_
              refine zr_iload (pc := 68) S dX12_buyer_68 rfl ?_
              refine zr_invV (pc := 70) S [zI _] (m_X12_isSort _) kX12_buyer_99 dX12_buyer_70 rfl (Nat.le_of_ble_eq_true rfl) rfl (Nat.le_of_ble_eq_true rfl) ⟨Nat.le_of_ble_eq_true rfl, Nat.le_of_ble_eq_true rfl⟩ (us_X12_isSort h0.1 ?_)
              dsimp only [zaft, Option.toList, List.cons_append, List.nil_append, Nat.add_zero]
              refine zr_if_eq (pc := 73) (tgt := 91) S dX12_buyer_73 (by decide) (fun c73 => ?_) (fun c73 => ?_)
              · rw [b01_0] at c73
                have g1 := hT (fun z => c73 (by have := z.2.2; show _ ∧ _ ≤ M 181 0 - 1; omega))
                refine zr_aload_n (pc := 91) S dX12_buyer_91 rfl ?_
                refine zr_iconst (pc := 92) S dX12_buyer_92 (by unfold zrI; omega) ?_
                refine zr_invV (pc := 93) S [zI _] (m_X12_fails _) kX12_buyer_95 dX12_buyer_93 rfl (Nat.le_of_ble_eq_true rfl) rfl (Nat.le_of_ble_eq_true rfl) ⟨Nat.le_of_ble_eq_true rfl, Nat.le_of_ble_eq_true rfl⟩ (us_X12_fails ?_)
                dsimp only [zaft, Option.toList, List.cons_append, List.nil_append, Nat.add_zero]
                exact zr_iret (pc := 96) S dX12_buyer_96 rfl ⟨Nat.le_refl _, Nat.le_refl _⟩ (g1)
              · rw [b01_0, Classical.not_not] at c73
                refine zr_iload (pc := 76) S dX12_buyer_76 rfl ?_
                refine zr_iconst (pc := 78) S dX12_buyer_78 (by unfold zrI; omega) ?_
                refine zr_icmp_eq (pc := 79) (tgt := 97) S dX12_buyer_79 (by decide) (fun c79 => ?_) (fun c79 => ?_)
                · exact key _ _ (by unfold by3; split <;> omega) (by unfold by4 by3; (repeat' split) <;> omega) (by unfold byT; simp only [show tz M 0 181 = M 181 from et] at *; omega)
                · refine zr_aload_n (pc := 82) S dX12_buyer_82 rfl ?_
                  refine zr_iload (pc := 83) S dX12_buyer_83 rfl ?_
                  refine zr_invV (pc := 85) S [zI _] (m_X12_isSort _) kX12_buyer_99 dX12_buyer_85 rfl (Nat.le_of_ble_eq_true rfl) rfl (Nat.le_of_ble_eq_true rfl) ⟨Nat.le_of_ble_eq_true rfl, Nat.le_of_ble_eq_true rfl⟩ (us_X12_isSort h0.1 ?_)
                  dsimp only [zaft, Option.toList, List.cons_append, List.nil_append, Nat.add_zero]
                  refine zr_if_ne (pc := 88) (tgt := 97) S dX12_buyer_88 (by decide) (fun c88 => ?_) (fun c88 => ?_)
                  · rw [b01_0, Classical.not_not] at c88
                    exact key _ _ (by unfold by3; split <;> omega) (by unfold by4 by3; (repeat' split) <;> omega) (by unfold byT; simp only [show tz M 0 181 = M 181 from et] at *; omega)
                  · rw [b01_0] at c88
                    have g1 := hT (fun z => c88 (by have := z.2.2; show _ ∧ _ ≤ M 181 0 - 1; omega))
                    refine zr_aload_n (pc := 91) S dX12_buyer_91 rfl ?_
                    refine zr_iconst (pc := 92) S dX12_buyer_92 (by unfold zrI; omega) ?_
                    refine zr_invV (pc := 93) S [zI _] (m_X12_fails _) kX12_buyer_95 dX12_buyer_93 rfl (Nat.le_of_ble_eq_true rfl) rfl (Nat.le_of_ble_eq_true rfl) ⟨Nat.le_of_ble_eq_true rfl, Nat.le_of_ble_eq_true rfl⟩ (us_X12_fails ?_)
                    dsimp only [zaft, Option.toList, List.cons_append, List.nil_append, Nat.add_zero]
                    exact zr_iret (pc := 96) S dX12_buyer_96 rfl ⟨Nat.le_refl _, Nat.le_refl _⟩ (g1)
          · refine zr_aload_n (pc := 53) S dX12_buyer_53 rfl ?_
            refine zr_iload_n (pc := 54) S dX12_buyer_54 rfl ?_
            refine zr_invV (pc := 55) S [zI _] (m_X12_isSort _) kX12_buyer_99 dX12_buyer_55 rfl (Nat.le_of_ble_eq_true rfl) rfl (Nat.le_of_ble_eq_true rfl) ⟨Nat.le_of_ble_eq_true rfl, Nat.le_of_ble_eq_true rfl⟩ (us_X12_isSort h0.1 ?_)
            dsimp only [zaft, Option.toList, List.cons_append, List.nil_append, Nat.add_zero]
            refine zr_if_eq (pc := 58) (tgt := 91) S dX12_buyer_58 (by decide) (fun c58 => ?_) (fun c58 => ?_)
            · rw [b01_0] at c58
              have g1 := hT (fun z => c58 (by have := z.2.2; show _ ∧ _ ≤ M 181 0 - 1; omega))
              refine zr_aload_n (pc := 91) S dX12_buyer_91 rfl ?_
              refine zr_iconst (pc := 92) S dX12_buyer_92 (by unfold zrI; omega) ?_
              refine zr_invV (pc := 93) S [zI _] (m_X12_fails _) kX12_buyer_95 dX12_buyer_93 rfl (Nat.le_of_ble_eq_true rfl) rfl (Nat.le_of_ble_eq_true rfl) ⟨Nat.le_of_ble_eq_true rfl, Nat.le_of_ble_eq_true rfl⟩ (us_X12_fails ?_)
              dsimp only [zaft, Option.toList, List.cons_append, List.nil_append, Nat.add_zero]
              exact zr_iret (pc := 96) S dX12_buyer_96 rfl ⟨Nat.le_refl _, Nat.le_refl _⟩ (g1)
            · rw [b01_0, Classical.not_not] at c58
              refine zr_iload (pc := 61) S dX12_buyer_61 rfl ?_
              refine zr_iconst (pc := 63) S dX12_buyer_63 (by unfold zrI; omega) ?_
              refine zr_icmp_eq (pc := 64) (tgt := 76) S dX12_buyer_64 (by decide) (fun c64 => ?_) (fun c64 => ?_)
              · refine zr_iload (pc := 76) S dX12_buyer_76 rfl ?_
                refine zr_iconst (pc := 78) S dX12_buyer_78 (by unfold zrI; omega) ?_
                refine zr_icmp_eq (pc := 79) (tgt := 97) S dX12_buyer_79 (by decide) (fun c79 => ?_) (fun c79 => ?_)
                · exact key _ _ (by unfold by3; split <;> omega) (by unfold by4 by3; (repeat' split) <;> omega) (by unfold byT; simp only [show tz M 0 181 = M 181 from et] at *; omega)
                · refine zr_aload_n (pc := 82) S dX12_buyer_82 rfl ?_
                  refine zr_iload (pc := 83) S dX12_buyer_83 rfl ?_
                  refine zr_invV (pc := 85) S [zI _] (m_X12_isSort _) kX12_buyer_99 dX12_buyer_85 rfl (Nat.le_of_ble_eq_true rfl) rfl (Nat.le_of_ble_eq_true rfl) ⟨Nat.le_of_ble_eq_true rfl, Nat.le_of_ble_eq_true rfl⟩ (us_X12_isSort h0.1 ?_)
                  dsimp only [zaft, Option.toList, List.cons_append, List.nil_append, Nat.add_zero]
                  refine zr_if_ne (pc := 88) (tgt := 97) S dX12_buyer_88 (by decide) (fun c88 => ?_) (fun c88 => ?_)
                  · rw [b01_0, Classical.not_not] at c88
                    exact key _ _ (by unfold by3; split <;> omega) (by unfold by4 by3; (repeat' split) <;> omega) (by unfold byT; simp only [show tz M 0 181 = M 181 from et] at *; omega)
                  · rw [b01_0] at c88
                    have g1 := hT (fun z => c88 (by have := z.2.2; show _ ∧ _ ≤ M 181 0 - 1; omega))
                    refine zr_aload_n (pc := 91) S dX12_buyer_91 rfl ?_
                    refine zr_iconst (pc := 92) S dX12_buyer_92 (by unfold zrI; omega) ?_
                    refine zr_invV (pc := 93) S [zI _] (m_X12_fails _) kX12_buyer_95 dX12_buyer_93 rfl (Nat.le_of_ble_eq_true rfl) rfl (Nat.le_of_ble_eq_true rfl) ⟨Nat.le_of_ble_eq_true rfl, Nat.le_of_ble_eq_true rfl⟩ (us_X12_fails ?_)
                    dsimp only [zaft, Option.toList, List.cons_append, List.nil_append, Nat.add_zero]
                    exact zr_iret (pc := 96) S dX12_buyer_96 rfl ⟨Nat.le_refl _, Nat.le_refl _⟩ (g1)
              · refine zr_aload_n (pc := 67) S dX12_buyer_67 rfl ?_
                refine zr_iload (pc := 68) S dX12_buyer_68 rfl ?_
                refine zr_invV (pc := 70) S [zI _] (m_X12_isSort _) kX12_buyer_99 dX12_buyer_70 rfl (Nat.le_of_ble_eq_true rfl) rfl (Nat.le_of_ble_eq_true rfl) ⟨Nat.le_of_ble_eq_true rfl, Nat.le_of_ble_eq_true rfl⟩ (us_X12_isSort h0.1 ?_)
                dsimp only [zaft, Option.toList, List.cons_append, List.nil_append, Nat.add_zero]
                refine zr_if_eq (pc := 73) (tgt := 91) S dX12_buyer_73 (by decide) (fun c73 => ?_) (fun c73 => ?_)
                · rw [b01_0] at c73
                  have g1 := hT (fun z => c73 (by have := z.2.2; show _ ∧ _ ≤ M 181 0 - 1; omega))
                  refine zr_aload_n (pc := 91) S dX12_buyer_91 rfl ?_
                  refine zr_iconst (pc := 92) S dX12_buyer_92 (by unfold zrI; omega) ?_
                  refine zr_invV (pc := 93) S [zI _] (m_X12_fails _) kX12_buyer_95 dX12_buyer_93 rfl (Nat.le_of_ble_eq_true rfl) rfl (Nat.le_of_ble_eq_true rfl) ⟨Nat.le_of_ble_eq_true rfl, Nat.le_of_ble_eq_true rfl⟩ (us_X12_fails ?_)
                  dsimp only [zaft, Option.toList, List.cons_append, List.nil_append, Nat.add_zero]
                  exact zr_iret (pc := 96) S dX12_buyer_96 rfl ⟨Nat.le_refl _, Nat.le_refl _⟩ (g1)
                · rw [b01_0, Classical.not_not] at c73
                  refine zr_iload (pc := 76) S dX12_buyer_76 rfl ?_
                  refine zr_iconst (pc := 78) S dX12_buyer_78 (by unfold zrI; omega) ?_
                  refine zr_icmp_eq (pc := 79) (tgt := 97) S dX12_buyer_79 (by decide) (fun c79 => ?_) (fun c79 => ?_)
                  · exact key _ _ (by unfold by3; split <;> omega) (by unfold by4 by3; (repeat' split) <;> omega) (by unfold byT; simp only [show tz M 0 181 = M 181 from et] at *; omega)
                  · refine zr_aload_n (pc := 82) S dX12_buyer_82 rfl ?_
                    refine zr_iload (pc := 83) S dX12_buyer_83 rfl ?_
                    refine zr_invV (pc := 85) S [zI _] (m_X12_isSort _) kX12_buyer_99 dX12_buyer_85 rfl (Nat.le_of_ble_eq_true rfl) rfl (Nat.le_of_ble_eq_true rfl) ⟨Nat.le_of_ble_eq_true rfl, Nat.le_of_ble_eq_true rfl⟩ (us_X12_isSort h0.1 ?_)
                    dsimp only [zaft, Option.toList, List.cons_append, List.nil_append, Nat.add_zero]
                    refine zr_if_ne (pc := 88) (tgt := 97) S dX12_buyer_88 (by decide) (fun c88 => ?_) (fun c88 => ?_)
                    · rw [b01_0, Classical.not_not] at c88
                      exact key _ _ (by unfold by3; split <;> omega) (by unfold by4 by3; (repeat' split) <;> omega) (by unfold byT; simp only [show tz M 0 181 = M 181 from et] at *; omega)
                    · rw [b01_0] at c88
                      have g1 := hT (fun z => c88 (by have := z.2.2; show _ ∧ _ ≤ M 181 0 - 1; omega))
                      refine zr_aload_n (pc := 91) S dX12_buyer_91 rfl ?_
                      refine zr_iconst (pc := 92) S dX12_buyer_92 (by unfold zrI; omega) ?_
                      refine zr_invV (pc := 93) S [zI _] (m_X12_fails _) kX12_buyer_95 dX12_buyer_93 rfl (Nat.le_of_ble_eq_true rfl) rfl (Nat.le_of_ble_eq_true rfl) ⟨Nat.le_of_ble_eq_true rfl, Nat.le_of_ble_eq_true rfl⟩ (us_X12_fails ?_)
                      dsimp only [zaft, Option.toList, List.cons_append, List.nil_append, Nat.add_zero]
                      exact zr_iret (pc := 96) S dX12_buyer_96 rfl ⟨Nat.le_refl _, Nat.le_refl _⟩ (g1)
    · refine zr_iconst (pc := 24) S dX12_buyer_24 (by unfold zrI; omega) ?_
      refine zr_goto (pc := 25) (tgt := 30) S dX12_buyer_25 (by decide) ?_
      refine zr_istore (pc := 30) S dX12_buyer_30 (by decide) ?_
      dsimp only [zst1, zst2, zset, zget, zlong]
      refine zr_aload_n (pc := 32) S dX12_buyer_32 rfl ?_
      refine zr_iload_n (pc := 33) S dX12_buyer_33 rfl ?_
      refine zr_invV (pc := 34) S [zI _] (m_X12_isOffer _) kX12_buyer_290 dX12_buyer_34 rfl (Nat.le_of_ble_eq_true rfl) rfl (Nat.le_of_ble_eq_true rfl) ⟨Nat.le_of_ble_eq_true rfl, Nat.le_of_ble_eq_true rfl⟩ (us_X12_isOffer h2 ?_)
      dsimp only [zaft, Option.toList, List.cons_append, List.nil_append, Nat.add_zero]
      refine zr_if_eq (pc := 37) (tgt := 91) S dX12_buyer_37 (by decide) (fun c37 => ?_) (fun c37 => ?_)
      · rw [b01_0] at c37
        have g1 := hT (fun z => c37 (by have := z.1; show _ ∧ _ ≤ M 181 2 - 1; omega))
        refine zr_aload_n (pc := 91) S dX12_buyer_91 rfl ?_
        refine zr_iconst (pc := 92) S dX12_buyer_92 (by unfold zrI; omega) ?_
        refine zr_invV (pc := 93) S [zI _] (m_X12_fails _) kX12_buyer_95 dX12_buyer_93 rfl (Nat.le_of_ble_eq_true rfl) rfl (Nat.le_of_ble_eq_true rfl) ⟨Nat.le_of_ble_eq_true rfl, Nat.le_of_ble_eq_true rfl⟩ (us_X12_fails ?_)
        dsimp only [zaft, Option.toList, List.cons_append, List.nil_append, Nat.add_zero]
        exact zr_iret (pc := 96) S dX12_buyer_96 rfl ⟨Nat.le_refl _, Nat.le_refl _⟩ (g1)
      · rw [b01_0, Classical.not_not] at c37
        refine zr_aload_n (pc := 40) S dX12_buyer_40 rfl ?_
        refine zr_iload_n (pc := 41) S dX12_buyer_41 rfl ?_
        refine zr_invV (pc := 42) S [zI _] (m_X12_isSort _) kX12_buyer_99 dX12_buyer_42 rfl (Nat.le_of_ble_eq_true rfl) rfl (Nat.le_of_ble_eq_true rfl) ⟨Nat.le_of_ble_eq_true rfl, Nat.le_of_ble_eq_true rfl⟩ (us_X12_isSort h0.1 ?_)
        dsimp only [zaft, Option.toList, List.cons_append, List.nil_append, Nat.add_zero]
        refine zr_if_eq (pc := 45) (tgt := 91) S dX12_buyer_45 (by decide) (fun c45 => ?_) (fun c45 => ?_)
        · rw [b01_0] at c45
          have g1 := hT (fun z => c45 (by have := z.2.1; show _ ∧ _ ≤ M 181 0 - 1; omega))
          refine zr_aload_n (pc := 91) S dX12_buyer_91 rfl ?_
          refine zr_iconst (pc := 92) S dX12_buyer_92 (by unfold zrI; omega) ?_
          refine zr_invV (pc := 93) S [zI _] (m_X12_fails _) kX12_buyer_95 dX12_buyer_93 rfl (Nat.le_of_ble_eq_true rfl) rfl (Nat.le_of_ble_eq_true rfl) ⟨Nat.le_of_ble_eq_true rfl, Nat.le_of_ble_eq_true rfl⟩ (us_X12_fails ?_)
          dsimp only [zaft, Option.toList, List.cons_append, List.nil_append, Nat.add_zero]
          exact zr_iret (pc := 96) S dX12_buyer_96 rfl ⟨Nat.le_refl _, Nat.le_refl _⟩ (g1)
        · rw [b01_0, Classical.not_not] at c45
          refine zr_iload_n (pc := 48) S dX12_buyer_48 rfl ?_
          refine zr_iconst (pc := 49) S dX12_buyer_49 (by unfold zrI; omega) ?_
          refine zr_icmp_eq (pc := 50) (tgt := 61) S dX12_buyer_50 (by decide) (fun c50 => ?_) (fun c50 => ?_)
          · refine zr_iload (pc := 61) S dX12_buyer_61 rfl ?_
            refine zr_iconst (pc := 63) S dX12_buyer_63 (by unfold zrI; omega) ?_
            refine zr_icmp_eq (pc := 64) (tgt := 76) S dX12_buyer_64 (by decide) (fun c64 => ?_) (fun c64 => ?_)
            · refine zr_iload (pc := 76) S dX12_buyer_76 rfl ?_
              refine zr_iconst (pc := 78) S dX12_buyer_78 (by unfold zrI; omega) ?_
              refine zr_icmp_eq (pc := 79) (tgt := 97) S dX12_buyer_79 (by decide) (fun c79 => ?_) (fun c79 => ?_)
              · exact key _ _ (by unfold by3; split <;> omega) (by unfold by4 by3; (repeat' split) <;> omega) (by unfold byT; simp only [show tz M 0 181 = M 181 from et] at *; omega)
              · refine zr_aload_n (pc := 82) S dX12_buyer_82 rfl ?_
                refine zr_iload (pc := 83) S dX12_buyer_83 rfl ?_
                refine zr_invV (pc := 85) S [zI _] (m_X12_isSort _) kX12_buyer_99 dX12_buyer_85 rfl (Nat.le_of_ble_eq_true rfl) rfl (Nat.le_of_ble_eq_true rfl) ⟨Nat.le_of_ble_eq_true rfl, Nat.le_of_ble_eq_true rfl⟩ (us_X12_isSort h0.1 ?_)
                dsimp only [zaft, Option.toList, List.cons_append, List.nil_append, Nat.add_zero]
                refine zr_if_ne (pc := 88) (tgt := 97) S dX12_buyer_88 (by decide) (fun c88 => ?_) (fun c88 => ?_)
                · rw [b01_0, Classical.not_not] at c88
                  exact key _ _ (by unfold by3; split <;> omega) (by unfold by4 by3; (repeat' split) <;> omega) (by unfold byT; simp only [show tz M 0 181 = M 181 from et] at *; omega)
                · rw [b01_0] at c88
                  have g1 := hT (fun z => c88 (by have := z.2.2; show _ ∧ _ ≤ M 181 0 - 1; omega))
                  refine zr_aload_n (pc := 91) S dX12_buyer_91 rfl ?_
                  refine zr_iconst (pc := 92) S dX12_buyer_92 (by unfold zrI; omega) ?_
                  refine zr_invV (pc := 93) S [zI _] (m_X12_fails _) kX12_buyer_95 dX12_buyer_93 rfl (Nat.le_of_ble_eq_true rfl) rfl (Nat.le_of_ble_eq_true rfl) ⟨Nat.le_of_ble_eq_true rfl, Nat.le_of_ble_eq_true rfl⟩ (us_X12_fails ?_)
                  dsimp only [zaft, Option.toList, List.cons_append, List.nil_append, Nat.add_zero]
                  exact zr_iret (pc := 96) S dX12_buyer_96 rfl ⟨Nat.le_refl _, Nat.le_refl _⟩ (g1)
            · refine zr_aload_n (pc := 67) S dX12_buyer_67 rfl ?_
              refine zr_iload (pc := 68) S dX12_buyer_68 rfl ?_
              refine zr_invV (pc := 70) S [zI _] (m_X12_isSort _) kX12_buyer_99 dX12_buyer_70 rfl (Nat.le_of_ble_eq_true rfl) rfl (Nat.le_of_ble_eq_true rfl) ⟨Nat.le_of_ble_eq_true rfl, Nat.le_of_ble_eq_true rfl⟩ (us_X12_isSort h0.1 ?_)
              dsimp only [zaft, Option.toList, List.cons_append, List.nil_append, Nat.add_zero]
              refine zr_if_eq (pc := 73) (tgt := 91) S dX12_buyer_73 (by decide) (fun c73 => ?_) (fun c73 => ?_)
              · rw [b01_0] at c73
                have g1 := hT (fun z => c73 (by have := z.2.2; show _ ∧ _ ≤ M 181 0 - 1; omega))
                refine zr_aload_n (pc := 91) S dX12_buyer_91 rfl ?_
                refine zr_iconst (pc := 92) S dX12_buyer_92 (by unfold zrI; omega) ?_
                refine zr_invV (pc := 93) S [zI _] (m_X12_fails _) kX12_buyer_95 dX12_buyer_93 rfl (Nat.le_of_ble_eq_true rfl) rfl (Nat.le_of_ble_eq_true rfl) ⟨Nat.le_of_ble_eq_true rfl, Nat.le_of_ble_eq_true rfl⟩ (us_X12_fails ?_)
                dsimp only [zaft, Option.toList, List.cons_append, List.nil_append, Nat.add_zero]
                exact zr_iret (pc := 96) S dX12_buyer_96 rfl ⟨Nat.le_refl _, Nat.le_refl _⟩ (g1)
              · rw [b01_0, Classical.not_not] at c73
                refine zr_iload (pc := 76) S dX12_buyer_76 rfl ?_
                refine zr_iconst (pc := 78) S dX12_buyer_78 (by unfold zrI; omega) ?_
                refine zr_icmp_eq (pc := 79) (tgt := 97) S dX12_buyer_79 (by decide) (fun c79 => ?_) (fun c79 => ?_)
                · exact key _ _ (by unfold by3; split <;> omega) (by unfold by4 by3; (repeat' split) <;> omega) (by unfold byT; simp only [show tz M 0 181 = M 181 from et] at *; omega)
                · refine zr_aload_n (pc := 82) S dX12_buyer_82 rfl ?_
                  refine zr_iload (pc := 83) S dX12_buyer_83 rfl ?_
                  refine zr_invV (pc := 85) S [zI _] (m_X12_isSort _) kX12_buyer_99 dX12_buyer_85 rfl (Nat.le_of_ble_eq_true rfl) rfl (Nat.le_of_ble_eq_true rfl) ⟨Nat.le_of_ble_eq_true rfl, Nat.le_of_ble_eq_true rfl⟩ (us_X12_isSort h0.1 ?_)
                  dsimp only [zaft, Option.toList, List.cons_append, List.nil_append, Nat.add_zero]
                  refine zr_if_ne (pc := 88) (tgt := 97) S dX12_buyer_88 (by decide) (fun c88 => ?_) (fun c88 => ?_)
                  · rw [b01_0, Classical.not_not] at c88
                    exact key _ _ (by unfold by3; split <;> omega) (by unfold by4 by3; (repeat' split) <;> omega) (by unfold byT; simp only [show tz M 0 181 = M 181 from et] at *; omega)
                  · rw [b01_0] at c88
                    have g1 := hT (fun z => c88 (by have := z.2.2; show _ ∧ _ ≤ M 181 0 - 1; omega))
                    refine zr_aload_n (pc := 91) S dX12_buyer_91 rfl ?_
                    refine zr_iconst (pc := 92) S dX12_buyer_92 (by unfold zrI; omega) ?_
                    refine zr_invV (pc := 93) S [zI _] (m_X12_fails _) kX12_buyer_95 dX12_buyer_93 rfl (Nat.le_of_ble_eq_true rfl) rfl (Nat.le_of_ble_eq_true rfl) ⟨Nat.le_of_ble_eq_true rfl, Nat.le_of_ble_eq_true rfl⟩ (us_X12_fails ?_)
                    dsimp only [zaft, Option.toList, List.cons_append, List.nil_append, Nat.add_zero]
                    exact zr_iret (pc := 96) S dX12_buyer_96 rfl ⟨Nat.le_refl _, Nat.le_refl _⟩ (g1)
          · refine zr_aload_n (pc := 53) S dX12_buyer_53 rfl ?_
            refine zr_iload_n (pc := 54) S dX12_buyer_54 rfl ?_
            refine zr_invV (pc := 55) S [zI _] (m_X12_isSort _) kX12_buyer_99 dX12_buyer_55 rfl (Nat.le_of_ble_eq_true rfl) rfl (Nat.le_of_ble_eq_true rfl) ⟨Nat.le_of_ble_eq_true rfl, Nat.le_of_ble_eq_true rfl⟩ (us_X12_isSort h0.1 ?_)
            dsimp only [zaft, Option.toList, List.cons_append, List.nil_append, Nat.add_zero]
            refine zr_if_eq (pc := 58) (tgt := 91) S dX12_buyer_58 (by decide) (fun c58 => ?_) (fun c58 => ?_)
            · rw [b01_0] at c58
              have g1 := hT (fun z => c58 (by have := z.2.2; show _ ∧ _ ≤ M 181 0 - 1; omega))
              refine zr_aload_n (pc := 91) S dX12_buyer_91 rfl ?_
              refine zr_iconst (pc := 92) S dX12_buyer_92 (by unfold zrI; omega) ?_
              refine zr_invV (pc := 93) S [zI _] (m_X12_fails _) kX12_buyer_95 dX12_buyer_93 rfl (Nat.le_of_ble_eq_true rfl) rfl (Nat.le_of_ble_eq_true rfl) ⟨Nat.le_of_ble_eq_true rfl, Nat.le_of_ble_eq_true rfl⟩ (us_X12_fails ?_)
              dsimp only [zaft, Option.toList, List.cons_append, List.nil_append, Nat.add_zero]
              exact zr_iret (pc := 96) S dX12_buyer_96 rfl ⟨Nat.le_refl _, Nat.le_refl _⟩ (g1)
            · rw [b01_0, Classical.not_not] at c58
              refine zr_iload (pc := 61) S dX12_buyer_61 rfl ?_
              refine zr_iconst (pc := 63) S dX12_buyer_63 (by unfold zrI; omega) ?_
              refine zr_icmp_eq (pc := 64) (tgt := 76) S dX12_buyer_64 (by decide) (fun c64 => ?_) (fun c64 => ?_)
              · refine zr_iload (pc := 76) S dX12_buyer_76 rfl ?_
                refine zr_iconst (pc := 78) S dX12_buyer_78 (by unfold zrI; omega) ?_
                refine zr_icmp_eq (pc := 79) (tgt := 97) S dX12_buyer_79 (by decide) (fun c79 => ?_) (fun c79 => ?_)
                · exact key _ _ (by unfold by3; split <;> omega) (by unfold by4 by3; (repeat' split) <;> omega) (by unfold byT; simp only [show tz M 0 181 = M 181 from et] at *; omega)
                · refine zr_aload_n (pc := 82) S dX12_buyer_82 rfl ?_
                  refine zr_iload (pc := 83) S dX12_buyer_83 rfl ?_
                  refine zr_invV (pc := 85) S [zI _] (m_X12_isSort _) kX12_buyer_99 dX12_buyer_85 rfl (Nat.le_of_ble_eq_true rfl) rfl (Nat.le_of_ble_eq_true rfl) ⟨Nat.le_of_ble_eq_true rfl, Nat.le_of_ble_eq_true rfl⟩ (us_X12_isSort h0.1 ?_)
                  dsimp only [zaft, Option.toList, List.cons_append, List.nil_append, Nat.add_zero]
                  refine zr_if_ne (pc := 88) (tgt := 97) S dX12_buyer_88 (by decide) (fun c88 => ?_) (fun c88 => ?_)
                  · rw [b01_0, Classical.not_not] at c88
                    exact key _ _ (by unfold by3; split <;> omega) (by unfold by4 by3; (repeat' split) <;> omega) (by unfold byT; simp only [show tz M 0 181 = M 181 from et] at *; omega)
                  · rw [b01_0] at c88
                    have g1 := hT (fun z => c88 (by have := z.2.2; show _ ∧ _ ≤ M 181 0 - 1; omega))
                    refine zr_aload_n (pc := 91) S dX12_buyer_91 rfl ?_
                    refine zr_iconst (pc := 92) S dX12_buyer_92 (by unfold zrI; omega) ?_
                    refine zr_invV (pc := 93) S [zI _] (m_X12_fails _) kX12_buyer_95 dX12_buyer_93 rfl (Nat.le_of_ble_eq_true rfl) rfl (Nat.le_of_ble_eq_true rfl) ⟨Nat.le_of_ble_eq_true rfl, Nat.le_of_ble_eq_true rfl⟩ (us_X12_fails ?_)
                    dsimp only [zaft, Option.toList, List.cons_append, List.nil_append, Nat.add_zero]
                    exact zr_iret (pc := 96) S dX12_buyer_96 rfl ⟨Nat.le_refl _, Nat.le_refl _⟩ (g1)
              · refine zr_aload_n (pc := 67) S dX12_buyer_67 rfl ?_
                refine zr_iload (pc := 68) S dX12_buyer_68 rfl ?_
                refine zr_invV (pc := 70) S [zI _] (m_X12_isSort _) kX12_buyer_99 dX12_buyer_70 rfl (Nat.le_of_ble_eq_true rfl) rfl (Nat.le_of_ble_eq_true rfl) ⟨Nat.le_of_ble_eq_true rfl, Nat.le_of_ble_eq_true rfl⟩ (us_X12_isSort h0.1 ?_)
                dsimp only [zaft, Option.toList, List.cons_append, List.nil_append, Nat.add_zero]
                refine zr_if_eq (pc := 73) (tgt := 91) S dX12_buyer_73 (by decide) (fun c73 => ?_) (fun c73 => ?_)
                · rw [b01_0] at c73
                  have g1 := hT (fun z => c73 (by have := z.2.2; show _ ∧ _ ≤ M 181 0 - 1; omega))
                  refine zr_aload_n (pc := 91) S dX12_buyer_91 rfl ?_
                  refine zr_iconst (pc := 92) S dX12_buyer_92 (by unfold zrI; omega) ?_
                  refine zr_invV (pc := 93) S [zI _] (m_X12_fails _) kX12_buyer_95 dX12_buyer_93 rfl (Nat.le_of_ble_eq_true rfl) rfl (Nat.le_of_ble_eq_true rfl) ⟨Nat.le_of_ble_eq_true rfl, Nat.le_of_ble_eq_true rfl⟩ (us_X12_fails ?_)
                  dsimp only [zaft, Option.toList, List.cons_append, List.nil_append, Nat.add_zero]
                  exact zr_iret (pc := 96) S dX12_buyer_96 rfl ⟨Nat.le_refl _, Nat.le_refl _⟩ (g1)
                · rw [b01_0, Classical.not_not] at c73
                  refine zr_iload (pc := 76) S dX12_buyer_76 rfl ?_
                  refine zr_iconst (pc := 78) S dX12_buyer_78 (by unfold zrI; omega) ?_
                  refine zr_icmp_eq (pc := 79) (tgt := 97) S dX12_buyer_79 (by decide) (fun c79 => ?_) (fun c79 => ?_)
                  · exact key _ _ (by unfold by3; split <;> omega) (by unfold by4 by3; (repeat' split) <;> omega) (by unfold byT; simp only [show tz M 0 181 = M 181 from et] at *; omega)
                  · refine zr_aload_n (pc := 82) S dX12_buyer_82 rfl ?_
                    refine zr_iload (pc := 83) S dX12_buyer_83 rfl ?_
                    refine zr_invV (pc := 85) S [zI _] (m_X12_isSort _) kX12_buyer_99 dX12_buyer_85 rfl (Nat.le_of_ble_eq_true rfl) rfl (Nat.le_of_ble_eq_true rfl) ⟨Nat.le_of_ble_eq_true rfl, Nat.le_of_ble_eq_true rfl⟩ (us_X12_isSort h0.1 ?_)
                    dsimp only [zaft, Option.toList, List.cons_append, List.nil_append, Nat.add_zero]
                    refine zr_if_ne (pc := 88) (tgt := 97) S dX12_buyer_88 (by decide) (fun c88 => ?_) (fun c88 => ?_)
                    · rw [b01_0, Classical.not_not] at c88
                      exact key _ _ (by unfold by3; split <;> omega) (by unfold by4 by3; (repeat' split) <;> omega) (by unfold byT; simp only [show tz M 0 181 = M 181 from et] at *; omega)
                    · rw [b01_0] at c88
                      have g1 := hT (fun z => c88 (by have := z.2.2; show _ ∧ _ ≤ M 181 0 - 1; omega))
                      refine zr_aload_n (pc := 91) S dX12_buyer_91 rfl ?_
                      refine zr_iconst (pc := 92) S dX12_buyer_92 (by unfold zrI; omega) ?_
                      refine zr_invV (pc := 93) S [zI _] (m_X12_fails _) kX12_buyer_95 dX12_buyer_93 rfl (Nat.le_of_ble_eq_true rfl) rfl (Nat.le_of_ble_eq_true rfl) ⟨Nat.le_of_ble_eq_true rfl, Nat.le_of_ble_eq_true rfl⟩ (us_X12_fails ?_)
                      dsimp only [zaft, Option.toList, List.cons_append, List.nil_append, Nat.add_zero]
                      exact zr_iret (pc := 96) S dX12_buyer_96 rfl ⟨Nat.le_refl _, Nat.le_refl _⟩ (g1)
  · refine zr_iconst (pc := 10) S dX12_buyer_10 (by unfold zrI; omega) ?_
    refine zr_goto (pc := 11) (tgt := 16) S dX12_buyer_11 (by decide) ?_
    refine zr_istore (pc := 16) S dX12_buyer_16 (by decide) ?_
    dsimp only [zst1, zst2, zset, zget, zlong]
    refine zr_iload (pc := 18) S dX12_buyer_18 rfl ?_
    refine zr_iconst (pc := 20) S dX12_buyer_20 (by unfold zrI; omega) ?_
    refine zr_icmp_ne (pc := 21) (tgt := 28) S dX12_buyer_21 (by decide) (fun c21 => ?_) (fun c21 => ?_)
    · refine zr_iload (pc := 28) S dX12_buyer_28 rfl ?_
      refine zr_istore (pc := 30) S dX12_buyer_30 (by decide) ?_
      dsimp only [zst1, zst2, zset, zget, zlong]
      refine zr_aload_n (pc := 32) S dX12_buyer_32 rfl ?_
      refine zr_iload_n (pc := 33) S dX12_buyer_33 rfl ?_
      refine zr_invV (pc := 34) S [zI _] (m_X12_isOffer _) kX12_buyer_290 dX12_buyer_34 rfl (Nat.le_of_ble_eq_true rfl) rfl (Nat.le_of_ble_eq_true rfl) ⟨Nat.le_of_ble_eq_true rfl, Nat.le_of_ble_eq_true rfl⟩ (us_X12_isOffer h2 ?_)
      dsimp only [zaft, Option.toList, List.cons_append, List.nil_append, Nat.add_zero]
      refine zr_if_eq (pc := 37) (tgt := 91) S dX12_buyer_37 (by decide) (fun c37 => ?_) (fun c37 => ?_)
      · rw [b01_0] at c37
        have g1 := hT (fun z => c37 (by have := z.1; show _ ∧ _ ≤ M 181 2 - 1; omega))
        refine zr_aload_n (pc := 91) S dX12_buyer_91 rfl ?_
        refine zr_iconst (pc := 92) S dX12_buyer_92 (by unfold zrI; omega) ?_
        refine zr_invV (pc := 93) S [zI _] (m_X12_fails _) kX12_buyer_95 dX12_buyer_93 rfl (Nat.le_of_ble_eq_true rfl) rfl (Nat.le_of_ble_eq_true rfl) ⟨Nat.le_of_ble_eq_true rfl, Nat.le_of_ble_eq_true rfl⟩ (us_X12_fails ?_)
        dsimp only [zaft, Option.toList, List.cons_append, List.nil_append, Nat.add_zero]
        exact zr_iret (pc := 96) S dX12_buyer_96 rfl ⟨Nat.le_refl _, Nat.le_refl _⟩ (g1)
      · rw [b01_0, Classical.not_not] at c37
        refine zr_aload_n (pc := 40) S dX12_buyer_40 rfl ?_
        refine zr_iload_n (pc := 41) S dX12_buyer_41 rfl ?_
        refine zr_invV (pc := 42) S [zI _] (m_X12_isSort _) kX12_buyer_99 dX12_buyer_42 rfl (Nat.le_of_ble_eq_true rfl) rfl (Nat.le_of_ble_eq_true rfl) ⟨Nat.le_of_ble_eq_true rfl, Nat.le_of_ble_eq_true rfl⟩ (us_X12_isSort h0.1 ?_)
        dsimp only [zaft, Option.toList, List.cons_append, List.nil_append, Nat.add_zero]
        refine zr_if_eq (pc := 45) (tgt := 91) S dX12_buyer_45 (by decide) (fun c45 => ?_) (fun c45 => ?_)
        · rw [b01_0] at c45
          have g1 := hT (fun z => c45 (by have := z.2.1; show _ ∧ _ ≤ M 181 0 - 1; omega))
          refine zr_aload_n (pc := 91) S dX12_buyer_91 rfl ?_
          refine zr_iconst (pc := 92) S dX12_buyer_92 (by unfold zrI; omega) ?_
          refine zr_invV (pc := 93) S [zI _] (m_X12_fails _) kX12_buyer_95 dX12_buyer_93 rfl (Nat.le_of_ble_eq_true rfl) rfl (Nat.le_of_ble_eq_true rfl) ⟨Nat.le_of_ble_eq_true rfl, Nat.le_of_ble_eq_true rfl⟩ (us_X12_fails ?_)
          dsimp only [zaft, Option.toList, List.cons_append, List.nil_append, Nat.add_zero]
          exact zr_iret (pc := 96) S dX12_buyer_96 rfl ⟨Nat.le_refl _, Nat.le_refl _⟩ (g1)
        · rw [b01_0, Classical.not_not] at c45
          refine zr_iload_n (pc := 48) S dX12_buyer_48 rfl ?_
          refine zr_iconst (pc := 49) S dX12_buyer_49 (by unfold zrI; omega) ?_
          refine zr_icmp_eq (pc := 50) (tgt := 61) S dX12_buyer_50 (by decide) (fun c50 => ?_) (fun c50 => ?_)
          · refine zr_iload (pc := 61) S dX12_buyer_61 rfl ?_
            refine zr_iconst (pc := 63) S dX12_buyer_63 (by unfold zrI; omega) ?_
            refine zr_icmp_eq (pc := 64) (tgt := 76) S dX12_buyer_64 (by decide) (fun c64 => ?_) (fun c64 => ?_)
            · refine zr_iload (pc := 76) S dX12_buyer_76 rfl ?_
              refine zr_iconst (pc := 78) S dX12_buyer_78 (by unfold zrI; omega) ?_
              refine zr_icmp_eq (pc := 79) (tgt := 97) S dX12_buyer_79 (by decide) (fun c79 => ?_) (fun c79 => ?_)
              · exact key _ _ (by unfold by3; split <;> omega) (by unfold by4 by3; (repeat' split) <;> omega) (by unfold byT; simp only [show tz M 0 181 = M 181 from et] at *; omega)
              · refine zr_aload_n (pc := 82) S dX12_buyer_82 rfl ?_
                refine zr_iload (pc := 83) S dX12_buyer_83 rfl ?_
                refine zr_invV (pc := 85) S [zI _] (m_X12_isSort _) kX12_buyer_99 dX12_buyer_85 rfl (Nat.le_of_ble_eq_true rfl) rfl (Nat.le_of_ble_eq_true rfl) ⟨Nat.le_of_ble_eq_true rfl, Nat.le_of_ble_eq_true rfl⟩ (us_X12_isSort h0.1 ?_)
                dsimp only [zaft, Option.toList, List.cons_append, List.nil_append, Nat.add_zero]
                refine zr_if_ne (pc := 88) (tgt := 97) S dX12_buyer_88 (by decide) (fun c88 => ?_) (fun c88 => ?_)
                · rw [b01_0, Classical.not_not] at c88
                  exact key _ _ (by unfold by3; split <;> omega) (by unfold by4 by3; (repeat' split) <;> omega) (by unfold byT; simp only [show tz M 0 181 = M 181 from et] at *; omega)
                · rw [b01_0] at c88
                  have g1 := hT (fun z => c88 (by have := z.2.2; show _ ∧ _ ≤ M 181 0 - 1; omega))
                  refine zr_aload_n (pc := 91) S dX12_buyer_91 rfl ?_
                  refine zr_iconst (pc := 92) S dX12_buyer_92 (by unfold zrI; omega) ?_
                  refine zr_invV (pc := 93) S [zI _] (m_X12_fails _) kX12_buyer_95 dX12_buyer_93 rfl (Nat.le_of_ble_eq_true rfl) rfl (Nat.le_of_ble_eq_true rfl) ⟨Nat.le_of_ble_eq_true rfl, Nat.le_of_ble_eq_true rfl⟩ (us_X12_fails ?_)
                  dsimp only [zaft, Option.toList, List.cons_append, List.nil_append, Nat.add_zero]
                  exact zr_iret (pc := 96) S dX12_buyer_96 rfl ⟨Nat.le_refl _, Nat.le_refl _⟩ (g1)
            · refine zr_aload_n (pc := 67) S dX12_buyer_67 rfl ?_
              refine zr_iload (pc := 68) S dX12_buyer_68 rfl ?_
              refine zr_invV (pc := 70) S [zI _] (m_X12_isSort _) kX12_buyer_99 dX12_buyer_70 rfl (Nat.le_of_ble_eq_true rfl) rfl (Nat.le_of_ble_eq_true rfl) ⟨Nat.le_of_ble_eq_true rfl, Nat.le_of_ble_eq_true rfl⟩ (us_X12_isSort h0.1 ?_)
              dsimp only [zaft, Option.toList, List.cons_append, List.nil_append, Nat.add_zero]
              refine zr_if_eq (pc := 73) (tgt := 91) S dX12_buyer_73 (by decide) (fun c73 => ?_) (fun c73 => ?_)
              · rw [b01_0] at c73
                have g1 := hT (fun z => c73 (by have := z.2.2; show _ ∧ _ ≤ M 181 0 - 1; omega))
                refine zr_aload_n (pc := 91) S dX12_buyer_91 rfl ?_
                refine zr_iconst (pc := 92) S dX12_buyer_92 (by unfold zrI; omega) ?_
                refine zr_invV (pc := 93) S [zI _] (m_X12_fails _) kX12_buyer_95 dX12_buyer_93 rfl (Nat.le_of_ble_eq_true rfl) rfl (Nat.le_of_ble_eq_true rfl) ⟨Nat.le_of_ble_eq_true rfl, Nat.le_of_ble_eq_true rfl⟩ (us_X12_fails ?_)
                dsimp only [zaft, Option.toList, List.cons_append, List.nil_append, Nat.add_zero]
                exact zr_iret (pc := 96) S dX12_buyer_96 rfl ⟨Nat.le_refl _, Nat.le_refl _⟩ (g1)
              · rw [b01_0, Classical.not_not] at c73
                refine zr_iload (pc := 76) S dX12_buyer_76 rfl ?_
                refine zr_iconst (pc := 78) S dX12_buyer_78 (by unfold zrI; omega) ?_
                refine zr_icmp_eq (pc := 79) (tgt := 97) S dX12_buyer_79 (by decide) (fun c79 => ?_) (fun c79 => ?_)
                · exact key _ _ (by unfold by3; split <;> omega) (by unfold by4 by3; (repeat' split) <;> omega) (by unfold byT; simp only [show tz M 0 181 = M 181 from et] at *; omega)
                · refine zr_aload_n (pc := 82) S dX12_buyer_82 rfl ?_
                  refine zr_iload (pc := 83) S dX12_buyer_83 rfl ?_
                  refine zr_invV (pc := 85) S [zI _] (m_X12_isSort _) kX12_buyer_99 dX12_buyer_85 rfl (Nat.le_of_ble_eq_true rfl) rfl (Nat.le_of_ble_eq_true rfl) ⟨Nat.le_of_ble_eq_true rfl, Nat.le_of_ble_eq_true rfl⟩ (us_X12_isSort h0.1 ?_)
                  dsimp only [zaft, Option.toList, List.cons_append, List.nil_append, Nat.add_zero]
                  refine zr_if_ne (pc := 88) (tgt := 97) S dX12_buyer_88 (by decide) (fun c88 => ?_) (fun c88 => ?_)
                  · rw [b01_0, Classical.not_not] at c88
                    exact key _ _ (by unfold by3; split <;> omega) (by unfold by4 by3; (repeat' split) <;> omega) (by unfold byT; simp only [show tz M 0 181 = M 181 from et] at *; omega)
                  · rw [b01_0] at c88
                    have g1 := hT (fun z => c88 (by have := z.2.2; show _ ∧ _ ≤ M 181 0 - 1; omega))
                    refine zr_aload_n (pc := 91) S dX12_buyer_91 rfl ?_
                    refine zr_iconst (pc := 92) S dX12_buyer_92 (by unfold zrI; omega) ?_
                    refine zr_invV (pc := 93) S [zI _] (m_X12_fails _) kX12_buyer_95 dX12_buyer_93 rfl (Nat.le_of_ble_eq_true rfl) rfl (Nat.le_of_ble_eq_true rfl) ⟨Nat.le_of_ble_eq_true rfl, Nat.le_of_ble_eq_true rfl⟩ (us_X12_fails ?_)
                    dsimp only [zaft, Option.toList, List.cons_append, List.nil_append, Nat.add_zero]
                    exact zr_iret (pc := 96) S dX12_buyer_96 rfl ⟨Nat.le_refl _, Nat.le_refl _⟩ (g1)
          · refine zr_aload_n (pc := 53) S dX12_buyer_53 rfl ?_
            refine zr_iload_n (pc := 54) S dX12_buyer_54 rfl ?_
            refine zr_invV (pc := 55) S [zI _] (m_X12_isSort _) kX12_buyer_99 dX12_buyer_55 rfl (Nat.le_of_ble_eq_true rfl) rfl (Nat.le_of_ble_eq_true rfl) ⟨Nat.le_of_ble_eq_true rfl, Nat.le_of_ble_eq_true rfl⟩ (us_X12_isSort h0.1 ?_)
            dsimp only [zaft, Option.toList, List.cons_append, List.nil_append, Nat.add_zero]
            refine zr_if_eq (pc := 58) (tgt := 91) S dX12_buyer_58 (by decide) (fun c58 => ?_) (fun c58 => ?_)
            · rw [b01_0] at c58
              have g1 := hT (fun z => c58 (by have := z.2.2; show _ ∧ _ ≤ M 181 0 - 1; omega))
              refine zr_aload_n (pc := 91) S dX12_buyer_91 rfl ?_
              refine zr_iconst (pc := 92) S dX12_buyer_92 (by unfold zrI; omega) ?_
              refine zr_invV (pc := 93) S [zI _] (m_X12_fails _) kX12_buyer_95 dX12_buyer_93 rfl (Nat.le_of_ble_eq_true rfl) rfl (Nat.le_of_ble_eq_true rfl) ⟨Nat.le_of_ble_eq_true rfl, Nat.le_of_ble_eq_true rfl⟩ (us_X12_fails ?_)
              dsimp only [zaft, Option.toList, List.cons_append, List.nil_append, Nat.add_zero]
              exact zr_iret (pc := 96) S dX12_buyer_96 rfl ⟨Nat.le_refl _, Nat.le_refl _⟩ (g1)
            · rw [b01_0, Classical.not_not] at c58
              refine zr_iload (pc := 61) S dX12_buyer_61 rfl ?_
              refine zr_iconst (pc := 63) S dX12_buyer_63 (by unfold zrI; omega) ?_
              refine zr_icmp_eq (pc := 64) (tgt := 76) S dX12_buyer_64 (by decide) (fun c64 => ?_) (fun c64 => ?_)
              · refine zr_iload (pc := 76) S dX12_buyer_76 rfl ?_
                refine zr_iconst (pc := 78) S dX12_buyer_78 (by unfold zrI; omega) ?_
                refine zr_icmp_eq (pc := 79) (tgt := 97) S dX12_buyer_79 (by decide) (fun c79 => ?_) (fun c79 => ?_)
                · exact key _ _ (by unfold by3; split <;> omega) (by unfold by4 by3; (repeat' split) <;> omega) (by unfold byT; simp only [show tz M 0 181 = M 181 from et] at *; omega)
                · refine zr_aload_n (pc := 82) S dX12_buyer_82 rfl ?_
                  refine zr_iload (pc := 83) S dX12_buyer_83 rfl ?_
                  refine zr_invV (pc := 85) S [zI _] (m_X12_isSort _) kX12_buyer_99 dX12_buyer_85 rfl (Nat.le_of_ble_eq_true rfl) rfl (Nat.le_of_ble_eq_true rfl) ⟨Nat.le_of_ble_eq_true rfl, Nat.le_of_ble_eq_true rfl⟩ (us_X12_isSort h0.1 ?_)
                  dsimp only [zaft, Option.toList, List.cons_append, List.nil_append, Nat.add_zero]
                  refine zr_if_ne (pc := 88) (tgt := 97) S dX12_buyer_88 (by decide) (fun c88 => ?_) (fun c88 => ?_)
                  · rw [b01_0, Classical.not_not] at c88
                    exact key _ _ (by unfold by3; split <;> omega) (by unfold by4 by3; (repeat' split) <;> omega) (by unfold byT; simp only [show tz M 0 181 = M 181 from et] at *; omega)
                  · rw [b01_0] at c88
                    have g1 := hT (fun z => c88 (by have := z.2.2; show _ ∧ _ ≤ M 181 0 - 1; omega))
                    refine zr_aload_n (pc := 91) S dX12_buyer_91 rfl ?_
                    refine zr_iconst (pc := 92) S dX12_buyer_92 (by unfold zrI; omega) ?_
                    refine zr_invV (pc := 93) S [zI _] (m_X12_fails _) kX12_buyer_95 dX12_buyer_93 rfl (Nat.le_of_ble_eq_true rfl) rfl (Nat.le_of_ble_eq_true rfl) ⟨Nat.le_of_ble_eq_true rfl, Nat.le_of_ble_eq_true rfl⟩ (us_X12_fails ?_)
                    dsimp only [zaft, Option.toList, List.cons_append, List.nil_append, Nat.add_zero]
                    exact zr_iret (pc := 96) S dX12_buyer_96 rfl ⟨Nat.le_refl _, Nat.le_refl _⟩ (g1)
              · refine zr_aload_n (pc := 67) S dX12_buyer_67 rfl ?_
                refine zr_iload (pc := 68) S dX12_buyer_68 rfl ?_
                refine zr_invV (pc := 70) S [zI _] (m_X12_isSort _) kX12_buyer_99 dX12_buyer_70 rfl (Nat.le_of_ble_eq_true rfl) rfl (Nat.le_of_ble_eq_true rfl) ⟨Nat.le_of_ble_eq_true rfl, Nat.le_of_ble_eq_true rfl⟩ (us_X12_isSort h0.1 ?_)
                dsimp only [zaft, Option.toList, List.cons_append, List.nil_append, Nat.add_zero]
                refine zr_if_eq (pc := 73) (tgt := 91) S dX12_buyer_73 (by decide) (fun c73 => ?_) (fun c73 => ?_)
                · rw [b01_0] at c73
                  have g1 := hT (fun z => c73 (by have := z.2.2; show _ ∧ _ ≤ M 181 0 - 1; omega))
                  refine zr_aload_n (pc := 91) S dX12_buyer_91 rfl ?_
                  refine zr_iconst (pc := 92) S dX12_buyer_92 (by unfold zrI; omega) ?_
                  refine zr_invV (pc := 93) S [zI _] (m_X12_fails _) kX12_buyer_95 dX12_buyer_93 rfl (Nat.le_of_ble_eq_true rfl) rfl (Nat.le_of_ble_eq_true rfl) ⟨Nat.le_of_ble_eq_true rfl, Nat.le_of_ble_eq_true rfl⟩ (us_X12_fails ?_)
                  dsimp only [zaft, Option.toList, List.cons_append, List.nil_append, Nat.add_zero]
                  exact zr_iret (pc := 96) S dX12_buyer_96 rfl ⟨Nat.le_refl _, Nat.le_refl _⟩ (g1)
                · rw [b01_0, Classical.not_not] at c73
                  refine zr_iload (pc := 76) S dX12_buyer_76 rfl ?_
                  refine zr_iconst (pc := 78) S dX12_buyer_78 (by unfold zrI; omega) ?_
                  refine zr_icmp_eq (pc := 79) (tgt := 97) S dX12_buyer_79 (by decide) (fun c79 => ?_) (fun c79 => ?_)
                  · exact key _ _ (by unfold by3; split <;> omega) (by unfold by4 by3; (repeat' split) <;> omega) (by unfold byT; simp only [show tz M 0 181 = M 181 from et] at *; omega)
                  · refine zr_aload_n (pc := 82) S dX12_buyer_82 rfl ?_
                    refine zr_iload (pc := 83) S dX12_buyer_83 rfl ?_
                    refine zr_invV (pc := 85) S [zI _] (m_X12_isSort _) kX12_buyer_99 dX12_buyer_85 rfl (Nat.le_of_ble_eq_true rfl) rfl (Nat.le_of_ble_eq_true rfl) ⟨Nat.le_of_ble_eq_true rfl, Nat.le_of_ble_eq_true rfl⟩ (us_X12_isSort h0.1 ?_)
                    dsimp only [zaft, Option.toList, List.cons_append, List.nil_append, Nat.add_zero]
                    refine zr_if_ne (pc := 88) (tgt := 97) S dX12_buyer_88 (by decide) (fun c88 => ?_) (fun c88 => ?_)
                    · rw [b01_0, Classical.not_not] at c88
                      exact key _ _ (by unfold by3; split <;> omega) (by unfold by4 by3; (repeat' split) <;> omega) (by unfold byT; simp only [show tz M 0 181 = M 181 from et] at *; omega)
                    · rw [b01_0] at c88
                      have g1 := hT (fun z => c88 (by have := z.2.2; show _ ∧ _ ≤ M 181 0 - 1; omega))
                      refine zr_aload_n (pc := 91) S dX12_buyer_91 rfl ?_
                      refine zr_iconst (pc := 92) S dX12_buyer_92 (by unfold zrI; omega) ?_
                      refine zr_invV (pc := 93) S [zI _] (m_X12_fails _) kX12_buyer_95 dX12_buyer_93 rfl (Nat.le_of_ble_eq_true rfl) rfl (Nat.le_of_ble_eq_true rfl) ⟨Nat.le_of_ble_eq_true rfl, Nat.le_of_ble_eq_true rfl⟩ (us_X12_fails ?_)
                      dsimp only [zaft, Option.toList, List.cons_append, List.nil_append, Nat.add_zero]
                      exact zr_iret (pc := 96) S dX12_buyer_96 rfl ⟨Nat.le_refl _, Nat.le_refl _⟩ (g1)
    · refine zr_iconst (pc := 24) S dX12_buyer_24 (by unfold zrI; omega) ?_
      refine zr_goto (pc := 25) (tgt := 30) S dX12_buyer_25 (by decide) ?_
      refine zr_istore (pc := 30) S dX12_buyer_30 (by decide) ?_
      dsimp only [zst1, zst2, zset, zget, zlong]
      refine zr_aload_n (pc := 32) S dX12_buyer_32 rfl ?_
      refine zr_iload_n (pc := 33) S dX12_buyer_33 rfl ?_
      refine zr_invV (pc := 34) S [zI _] (m_X12_isOffer _) kX12_buyer_290 dX12_buyer_34 rfl (Nat.le_of_ble_eq_true rfl) rfl (Nat.le_of_ble_eq_true rfl) ⟨Nat.le_of_ble_eq_true rfl, Nat.le_of_ble_eq_true rfl⟩ (us_X12_isOffer h2 ?_)
      dsimp only [zaft, Option.toList, List.cons_append, List.nil_append, Nat.add_zero]
      refine zr_if_eq (pc := 37) (tgt := 91) S dX12_buyer_37 (by decide) (fun c37 => ?_) (fun c37 => ?_)
      · rw [b01_0] at c37
        have g1 := hT (fun z => c37 (by have := z.1; show _ ∧ _ ≤ M 181 2 - 1; omega))
        refine zr_aload_n (pc := 91) S dX12_buyer_91 rfl ?_
        refine zr_iconst (pc := 92) S dX12_buyer_92 (by unfold zrI; omega) ?_
        refine zr_invV (pc := 93) S [zI _] (m_X12_fails _) kX12_buyer_95 dX12_buyer_93 rfl (Nat.le_of_ble_eq_true rfl) rfl (Nat.le_of_ble_eq_true rfl) ⟨Nat.le_of_ble_eq_true rfl, Nat.le_of_ble_eq_true rfl⟩ (us_X12_fails ?_)
        dsimp only [zaft, Option.toList, List.cons_append, List.nil_append, Nat.add_zero]
        exact zr_iret (pc := 96) S dX12_buyer_96 rfl ⟨Nat.le_refl _, Nat.le_refl _⟩ (g1)
      · rw [b01_0, Classical.not_not] at c37
        refine zr_aload_n (pc := 40) S dX12_buyer_40 rfl ?_
        refine zr_iload_n (pc := 41) S dX12_buyer_41 rfl ?_
        refine zr_invV (pc := 42) S [zI _] (m_X12_isSort _) kX12_buyer_99 dX12_buyer_42 rfl (Nat.le_of_ble_eq_true rfl) rfl (Nat.le_of_ble_eq_true rfl) ⟨Nat.le_of_ble_eq_true rfl, Nat.le_of_ble_eq_true rfl⟩ (us_X12_isSort h0.1 ?_)
        dsimp only [zaft, Option.toList, List.cons_append, List.nil_append, Nat.add_zero]
        refine zr_if_eq (pc := 45) (tgt := 91) S dX12_buyer_45 (by decide) (fun c45 => ?_) (fun c45 => ?_)
        · rw [b01_0] at c45
          have g1 := hT (fun z => c45 (by have := z.2.1; show _ ∧ _ ≤ M 181 0 - 1; omega))
          refine zr_aload_n (pc := 91) S dX12_buyer_91 rfl ?_
          refine zr_iconst (pc := 92) S dX12_buyer_92 (by unfold zrI; omega) ?_
          refine zr_invV (pc := 93) S [zI _] (m_X12_fails _) kX12_buyer_95 dX12_buyer_93 rfl (Nat.le_of_ble_eq_true rfl) rfl (Nat.le_of_ble_eq_true rfl) ⟨Nat.le_of_ble_eq_true rfl, Nat.le_of_ble_eq_true rfl⟩ (us_X12_fails ?_)
          dsimp only [zaft, Option.toList, List.cons_append, List.nil_append, Nat.add_zero]
          exact zr_iret (pc := 96) S dX12_buyer_96 rfl ⟨Nat.le_refl _, Nat.le_refl _⟩ (g1)
        · rw [b01_0, Classical.not_not] at c45
          refine zr_iload_n (pc := 48) S dX12_buyer_48 rfl ?_
          refine zr_iconst (pc := 49) S dX12_buyer_49 (by unfold zrI; omega) ?_
          refine zr_icmp_eq (pc := 50) (tgt := 61) S dX12_buyer_50 (by decide) (fun c50 => ?_) (fun c50 => ?_)
          · refine zr_iload (pc := 61) S dX12_buyer_61 rfl ?_
            refine zr_iconst (pc := 63) S dX12_buyer_63 (by unfold zrI; omega) ?_
            refine zr_icmp_eq (pc := 64) (tgt := 76) S dX12_buyer_64 (by decide) (fun c64 => ?_) (fun c64 => ?_)
            · refine zr_iload (pc := 76) S dX12_buyer_76 rfl ?_
              refine zr_iconst (pc := 78) S dX12_buyer_78 (by unfold zrI; omega) ?_
              refine zr_icmp_eq (pc := 79) (tgt := 97) S dX12_buyer_79 (by decide) (fun c79 => ?_) (fun c79 => ?_)
              · exact key _ _ (by unfold by3; split <;> omega) (by unfold by4 by3; (repeat' split) <;> omega) (by unfold byT; simp only [show tz M 0 181 = M 181 from et] at *; omega)
              · refine zr_aload_n (pc := 82) S dX12_buyer_82 rfl ?_
                refine zr_iload (pc := 83) S dX12_buyer_83 rfl ?_
                refine zr_invV (pc := 85) S [zI _] (m_X12_isSort _) kX12_buyer_99 dX12_buyer_85 rfl (Nat.le_of_ble_eq_true rfl) rfl (Nat.le_of_ble_eq_true rfl) ⟨Nat.le_of_ble_eq_true rfl, Nat.le_of_ble_eq_true rfl⟩ (us_X12_isSort h0.1 ?_)
                dsimp only [zaft, Option.toList, List.cons_append, List.nil_append, Nat.add_zero]
                refine zr_if_ne (pc := 88) (tgt := 97) S dX12_buyer_88 (by decide) (fun c88 => ?_) (fun c88 => ?_)
                · rw [b01_0, Classical.not_not] at c88
                  exact key _ _ (by unfold by3; split <;> omega) (by unfold by4 by3; (repeat' split) <;> omega) (by unfold byT; simp only [show tz M 0 181 = M 181 from et] at *; omega)
                · rw [b01_0] at c88
                  have g1 := hT (fun z => c88 (by have := z.2.2; show _ ∧ _ ≤ M 181 0 - 1; omega))
                  refine zr_aload_n (pc := 91) S dX12_buyer_91 rfl ?_
                  refine zr_iconst (pc := 92) S dX12_buyer_92 (by unfold zrI; omega) ?_
                  refine zr_invV (pc := 93) S [zI _] (m_X12_fails _) kX12_buyer_95 dX12_buyer_93 rfl (Nat.le_of_ble_eq_true rfl) rfl (Nat.le_of_ble_eq_true rfl) ⟨Nat.le_of_ble_eq_true rfl, Nat.le_of_ble_eq_true rfl⟩ (us_X12_fails ?_)
                  dsimp only [zaft, Option.toList, List.cons_append, List.nil_append, Nat.add_zero]
                  exact zr_iret (pc := 96) S dX12_buyer_96 rfl ⟨Nat.le_refl _, Nat.le_refl _⟩ (g1)
            · refine zr_aload_n (pc := 67) S dX12_buyer_67 rfl ?_
              refine zr_iload (pc := 68) S dX12_buyer_68 rfl ?_
              refine zr_invV (pc := 70) S [zI _] (m_X12_isSort _) kX12_buyer_99 dX12_buyer_70 rfl (Nat.le_of_ble_eq_true rfl) rfl (Nat.le_of_ble_eq_true rfl) ⟨Nat.le_of_ble_eq_true rfl, Nat.le_of_ble_eq_true rfl⟩ (us_X12_isSort h0.1 ?_)
              dsimp only [zaft, Option.toList, List.cons_append, List.nil_append, Nat.add_zero]
              refine zr_if_eq (pc := 73) (tgt := 91) S dX12_buyer_73 (by decide) (fun c73 => ?_) (fun c73 => ?_)
              · rw [b01_0] at c73
                have g1 := hT (fun z => c73 (by have := z.2.2; show _ ∧ _ ≤ M 181 0 - 1; omega))
                refine zr_aload_n (pc := 91) S dX12_buyer_91 rfl ?_
                refine zr_iconst (pc := 92) S dX12_buyer_92 (by unfold zrI; omega) ?_
                refine zr_invV (pc := 93) S [zI _] (m_X12_fails _) kX12_buyer_95 dX12_buyer_93 rfl (Nat.le_of_ble_eq_true rfl) rfl (Nat.le_of_ble_eq_true rfl) ⟨Nat.le_of_ble_eq_true rfl, Nat.le_of_ble_eq_true rfl⟩ (us_X12_fails ?_)
                dsimp only [zaft, Option.toList, List.cons_append, List.nil_append, Nat.add_zero]
                exact zr_iret (pc := 96) S dX12_buyer_96 rfl ⟨Nat.le_refl _, Nat.le_refl _⟩ (g1)
              · rw [b01_0, Classical.not_not] at c73
                refine zr_iload (pc := 76) S dX12_buyer_76 rfl ?_
                refine zr_iconst (pc := 78) S dX12_buyer_78 (by unfold zrI; omega) ?_
                refine zr_icmp_eq (pc := 79) (tgt := 97) S dX12_buyer_79 (by decide) (fun c79 => ?_) (fun c79 => ?_)
                · exact key _ _ (by unfold by3; split <;> omega) (by unfold by4 by3; (repeat' split) <;> omega) (by unfold byT; simp only [show tz M 0 181 = M 181 from et] at *; omega)
                · refine zr_aload_n (pc := 82) S dX12_buyer_82 rfl ?_
                  refine zr_iload (pc := 83) S dX12_buyer_83 rfl ?_
                  refine zr_invV (pc := 85) S [zI _] (m_X12_isSort _) kX12_buyer_99 dX12_buyer_85 rfl (Nat.le_of_ble_eq_true rfl) rfl (Nat.le_of_ble_eq_true rfl) ⟨Nat.le_of_ble_eq_true rfl, Nat.le_of_ble_eq_true rfl⟩ (us_X12_isSort h0.1 ?_)
                  dsimp only [zaft, Option.toList, List.cons_append, List.nil_append, Nat.add_zero]
                  refine zr_if_ne (pc := 88) (tgt := 97) S dX12_buyer_88 (by decide) (fun c88 => ?_) (fun c88 => ?_)
                  · rw [b01_0, Classical.not_not] at c88
                    exact key _ _ (by unfold by3; split <;> omega) (by unfold by4 by3; (repeat' split) <;> omega) (by unfold byT; simp only [show tz M 0 181 = M 181 from et] at *; omega)
                  · rw [b01_0] at c88
                    have g1 := hT (fun z => c88 (by have := z.2.2; show _ ∧ _ ≤ M 181 0 - 1; omega))
                    refine zr_aload_n (pc := 91) S dX12_buyer_91 rfl ?_
                    refine zr_iconst (pc := 92) S dX12_buyer_92 (by unfold zrI; omega) ?_
                    refine zr_invV (pc := 93) S [zI _] (m_X12_fails _) kX12_buyer_95 dX12_buyer_93 rfl (Nat.le_of_ble_eq_true rfl) rfl (Nat.le_of_ble_eq_true rfl) ⟨Nat.le_of_ble_eq_true rfl, Nat.le_of_ble_eq_true rfl⟩ (us_X12_fails ?_)
                    dsimp only [zaft, Option.toList, List.cons_append, List.nil_append, Nat.add_zero]
                    exact zr_iret (pc := 96) S dX12_buyer_96 rfl ⟨Nat.le_refl _, Nat.le_refl _⟩ (g1)
          · refine zr_aload_n (pc := 53) S dX12_buyer_53 rfl ?_
            refine zr_iload_n (pc := 54) S dX12_buyer_54 rfl ?_
            refine zr_invV (pc := 55) S [zI _] (m_X12_isSort _) kX12_buyer_99 dX12_buyer_55 rfl (Nat.le_of_ble_eq_true rfl) rfl (Nat.le_of_ble_eq_true rfl) ⟨Nat.le_of_ble_eq_true rfl, Nat.le_of_ble_eq_true rfl⟩ (us_X12_isSort h0.1 ?_)
            dsimp only [zaft, Option.toList, List.cons_append, List.nil_append, Nat.add_zero]
            refine zr_if_eq (pc := 58) (tgt := 91) S dX12_buyer_58 (by decide) (fun c58 => ?_) (fun c58 => ?_)
            · rw [b01_0] at c58
              have g1 := hT (fun z => c58 (by have := z.2.2; show _ ∧ _ ≤ M 181 0 - 1; omega))
              refine zr_aload_n (pc := 91) S dX12_buyer_91 rfl ?_
              refine zr_iconst (pc := 92) S dX12_buyer_92 (by unfold zrI; omega) ?_
              refine zr_invV (pc := 93) S [zI _] (m_X12_fails _) kX12_buyer_95 dX12_buyer_93 rfl (Nat.le_of_ble_eq_true rfl) rfl (Nat.le_of_ble_eq_true rfl) ⟨Nat.le_of_ble_eq_true rfl, Nat.le_of_ble_eq_true rfl⟩ (us_X12_fails ?_)
              dsimp only [zaft, Option.toList, List.cons_append, List.nil_append, Nat.add_zero]
              exact zr_iret (pc := 96) S dX12_buyer_96 rfl ⟨Nat.le_refl _, Nat.le_refl _⟩ (g1)
            · rw [b01_0, Classical.not_not] at c58
              refine zr_iload (pc := 61) S dX12_buyer_61 rfl ?_
              refine zr_iconst (pc := 63) S dX12_buyer_63 (by unfold zrI; omega) ?_
              refine zr_icmp_eq (pc := 64) (tgt := 76) S dX12_buyer_64 (by decide) (fun c64 => ?_) (fun c64 => ?_)
              · refine zr_iload (pc := 76) S dX12_buyer_76 rfl ?_
                refine zr_iconst (pc := 78) S dX12_buyer_78 (by unfold zrI; omega) ?_
                refine zr_icmp_eq (pc := 79) (tgt := 97) S dX12_buyer_79 (by decide) (fun c79 => ?_) (fun c79 => ?_)
                · exact key _ _ (by unfold by3; split <;> omega) (by unfold by4 by3; (repeat' split) <;> omega) (by unfold byT; simp only [show tz M 0 181 = M 181 from et] at *; omega)
                · refine zr_aload_n (pc := 82) S dX12_buyer_82 rfl ?_
                  refine zr_iload (pc := 83) S dX12_buyer_83 rfl ?_
                  refine zr_invV (pc := 85) S [zI _] (m_X12_isSort _) kX12_buyer_99 dX12_buyer_85 rfl (Nat.le_of_ble_eq_true rfl) rfl (Nat.le_of_ble_eq_true rfl) ⟨Nat.le_of_ble_eq_true rfl, Nat.le_of_ble_eq_true rfl⟩ (us_X12_isSort h0.1 ?_)
                  dsimp only [zaft, Option.toList, List.cons_append, List.nil_append, Nat.add_zero]
                  refine zr_if_ne (pc := 88) (tgt := 97) S dX12_buyer_88 (by decide) (fun c88 => ?_) (fun c88 => ?_)
                  · rw [b01_0, Classical.not_not] at c88
                    exact key _ _ (by unfold by3; split <;> omega) (by unfold by4 by3; (repeat' split) <;> omega) (by unfold byT; simp only [show tz M 0 181 = M 181 from et] at *; omega)
                  · rw [b01_0] at c88
                    have g1 := hT (fun z => c88 (by have := z.2.2; show _ ∧ _ ≤ M 181 0 - 1; omega))
                    refine zr_aload_n (pc := 91) S dX12_buyer_91 rfl ?_
                    refine zr_iconst (pc := 92) S dX12_buyer_92 (by unfold zrI; omega) ?_
                    refine zr_invV (pc := 93) S [zI _] (m_X12_fails _) kX12_buyer_95 dX12_buyer_93 rfl (Nat.le_of_ble_eq_true rfl) rfl (Nat.le_of_ble_eq_true rfl) ⟨Nat.le_of_ble_eq_true rfl, Nat.le_of_ble_eq_true rfl⟩ (us_X12_fails ?_)
                    dsimp only [zaft, Option.toList, List.cons_append, List.nil_append, Nat.add_zero]
                    exact zr_iret (pc := 96) S dX12_buyer_96 rfl ⟨Nat.le_refl _, Nat.le_refl _⟩ (g1)
              · refine zr_aload_n (pc := 67) S dX12_buyer_67 rfl ?_
                refine zr_iload (pc := 68) S dX12_buyer_68 rfl ?_
                refine zr_invV (pc := 70) S [zI _] (m_X12_isSort _) kX12_buyer_99 dX12_buyer_70 rfl (Nat.le_of_ble_eq_true rfl) rfl (Nat.le_of_ble_eq_true rfl) ⟨Nat.le_of_ble_eq_true rfl, Nat.le_of_ble_eq_true rfl⟩ (us_X12_isSort h0.1 ?_)
                dsimp only [zaft, Option.toList, List.cons_append, List.nil_append, Nat.add_zero]
                refine zr_if_eq (pc := 73) (tgt := 91) S dX12_buyer_73 (by decide) (fun c73 => ?_) (fun c73 => ?_)
                · rw [b01_0] at c73
                  have g1 := hT (fun z => c73 (by have := z.2.2; show _ ∧ _ ≤ M 181 0 - 1; omega))
                  refine zr_aload_n (pc := 91) S dX12_buyer_91 rfl ?_
                  refine zr_iconst (pc := 92) S dX12_buyer_92 (by unfold zrI; omega) ?_
                  refine zr_invV (pc := 93) S [zI _] (m_X12_fails _) kX12_buyer_95 dX12_buyer_93 rfl (Nat.le_of_ble_eq_true rfl) rfl (Nat.le_of_ble_eq_true rfl) ⟨Nat.le_of_ble_eq_true rfl, Nat.le_of_ble_eq_true rfl⟩ (us_X12_fails ?_)
                  dsimp only [zaft, Option.toList, List.cons_append, List.nil_append, Nat.add_zero]
                  exact zr_iret (pc := 96) S dX12_buyer_96 rfl ⟨Nat.le_refl _, Nat.le_refl _⟩ (g1)
                · rw [b01_0, Classical.not_not] at c73
                  refine zr_iload (pc := 76) S dX12_buyer_76 rfl ?_
                  refine zr_iconst (pc := 78) S dX12_buyer_78 (by unfold zrI; omega) ?_
                  refine zr_icmp_eq (pc := 79) (tgt := 97) S dX12_buyer_79 (by decide) (fun c79 => ?_) (fun c79 => ?_)
                  · exact key _ _ (by unfold by3; split <;> omega) (by unfold by4 by3; (repeat' split) <;> omega) (by unfold byT; simp only [show tz M 0 181 = M 181 from et] at *; omega)
                  · refine zr_aload_n (pc := 82) S dX12_buyer_82 rfl ?_
                    refine zr_iload (pc := 83) S dX12_buyer_83 rfl ?_
                    refine zr_invV (pc := 85) S [zI _] (m_X12_isSort _) kX12_buyer_99 dX12_buyer_85 rfl (Nat.le_of_ble_eq_true rfl) rfl (Nat.le_of_ble_eq_true rfl) ⟨Nat.le_of_ble_eq_true rfl, Nat.le_of_ble_eq_true rfl⟩ (us_X12_isSort h0.1 ?_)
                    dsimp only [zaft, Option.toList, List.cons_append, List.nil_append, Nat.add_zero]
                    refine zr_if_ne (pc := 88) (tgt := 97) S dX12_buyer_88 (by decide) (fun c88 => ?_) (fun c88 => ?_)
                    · rw [b01_0, Classical.not_not] at c88
                      exact key _ _ (by unfold by3; split <;> omega) (by unfold by4 by3; (repeat' split) <;> omega) (by unfold byT; simp only [show tz M 0 181 = M 181 from et] at *; omega)
                    · rw [b01_0] at c88
                      have g1 := hT (fun z => c88 (by have := z.2.2; show _ ∧ _ ≤ M 181 0 - 1; omega))
                      refine zr_aload_n (pc := 91) S dX12_buyer_91 rfl ?_
                      refine zr_iconst (pc := 92) S dX12_buyer_92 (by unfold zrI; omega) ?_
                      refine zr_invV (pc := 93) S [zI _] (m_X12_fails _) kX12_buyer_95 dX12_buyer_93 rfl (Nat.le_of_ble_eq_true rfl) rfl (Nat.le_of_ble_eq_true rfl) ⟨Nat.le_of_ble_eq_true rfl, Nat.le_of_ble_eq_true rfl⟩ (us_X12_fails ?_)
                      dsimp only [zaft, Option.toList, List.cons_append, List.nil_append, Nat.add_zero]
                      exact zr_iret (pc := 96) S dX12_buyer_96 rfl ⟨Nat.le_refl _, Nat.le_refl _⟩ (g1)
/-- a tray is laid -/
def sp_X12_tray (as : List zV) (M : zM) (Q : Option zV → zM → Prop) : Prop := ∃ (t s m : Int), as = [zR 180, zI t, zI s, zI m] ∧ ((0 ≤ t ∧ t ≤ 3) → (0 ≤ s ∧ s ≤ 3) → (0 ≤ m ∧ m ≤ 20) → Q none (zfl0 (zup (zup (tz M 0) 198 t.toNat s) 199 t.toNat m) 200 (20 * t.toNat) 20)) ∧ (¬ (0 ≤ t ∧ t ≤ 3) → Q none (tz M 1)) ∧ ((0 ≤ t ∧ t ≤ 3) → ¬ ((0 ≤ s ∧ s ≤ 3) ∧ (0 ≤ m ∧ m ≤ 20)) → Q none (tz M 2))
theorem us_X12_tray {t s m : Int} {M : zM} {Q : Option zV → zM → Prop} (hQ : (0 ≤ t ∧ t ≤ 3) → (0 ≤ s ∧ s ≤ 3) → (0 ≤ m ∧ m ≤ 20) → Q none (zfl0 (zup (zup (tz M 0) 198 t.toNat s) 199 t.toNat m) 200 (20 * t.toNat) 20)) (hT : ¬ (0 ≤ t ∧ t ≤ 3) → Q none (tz M 1)) (hU : (0 ≤ t ∧ t ≤ 3) → ¬ ((0 ≤ s ∧ s ≤ 3) ∧ (0 ≤ m ∧ m ≤ 20)) → Q none (tz M 2)) : sp_X12_tray [zR 180, zI t, zI s, zI m] M Q := ⟨t, s, m, rfl, hQ, hT, hU⟩
set_option maxRecDepth 20000 in
set_option maxHeartbeats 4000000 in
theorem m_X12_tray (l : Launch) : zC l yX12_tray wzX12_tray rmX12_tray sp_X12_tray := by
  refine zMet.of RX12 (by decide +kernel) rfl rfl ?_
  intro E X as M Qp hX S hsp
  obtain ⟨t, s, m, rfl, hQ, hT, hU⟩ := hsp
  refine ⟨Nat.le_of_ble_eq_true rfl, ?_⟩
  dsimp only [zpad, zargs]
  have lp : (0 ≤ t ∧ t ≤ 3) → ∀ (N : zM), Qp none (zfl0 N 200 (20 * t.toNat) 20) → ∀ n i : Nat, n + i = 20 → zK (zg E) rmX12_tray 5 (Qp, 0, 0) X (0, 0) 69 [some (zR 180), some (zI t), some (zI s), some (zI m), some (zI i)] [] (zfl0 N 200 (20 * t.toNat) i) := by
    intro c N f n
    induction n with
    | zero =>
      intro i hi
      obtain rfl : i = 20 := by omega
      refine zr_iload (pc := 69) S dX12_tray_69 rfl ?_
      refine zr_bipush (pc := 71) S dX12_tray_71 ⟨by unfold zrI; omega, by decide⟩ ?_
      refine zr_icmp_ge (pc := 73) (tgt := 95) S dX12_tray_73 (by decide) (fun c73 => ?_) (fun c73 => absurd c73 (by omega))
      exact zr_vret (pc := 95) S dX12_tray_95 rfl ⟨Nat.le_refl _, Nat.le_refl _⟩ (f)
    | succ n ih =>
      intro i hi
      have k := ih (i + 1) (by omega)
      rw [← zfl0_s, Int.natCast_add, Int.natCast_one] at k
      have e : ((20 : Int) * t + (i : Int)).toNat = 20 * t.toNat + i := by omega
      refine zr_iload (pc := 69) S dX12_tray_69 rfl ?_
      refine zr_bipush (pc := 71) S dX12_tray_71 ⟨by unfold zrI; omega, by decide⟩ ?_
      refine zr_icmp_ge (pc := 73) (tgt := 95) S dX12_tray_73 (by decide) (fun c73 => absurd c73 (by omega)) (fun c73 => ?_)
      refine zr_aload_n (pc := 76) S dX12_tray_76 rfl ?_
      refine zr_getR (pc := 77) S fX12_tray_77 dX12_tray_77 rfl (Nat.le_of_ble_eq_true rfl) rfl ?_
      refine zr_bipush (pc := 80) S dX12_tray_80 ⟨by unfold zrI; omega, by decide⟩ ?_
      refine zr_iload_n (pc := 82) S dX12_tray_82 rfl ?_
      refine zr_imul (pc := 83) S dX12_tray_83 (by unfold zrI; omega) ?_
      refine zr_iload (pc := 84) S dX12_tray_84 rfl ?_
      refine zr_iadd (pc := 86) S dX12_tray_86 (by unfold zrI; omega) ?_
      refine zr_lconst0 (pc := 87) S dX12_tray_87 ?_
      refine zr_lastore (pc := 88) S dX12_tray_88 rfl (Nat.le_of_ble_eq_true rfl) (by omega) (by omega) ?_
      rw [e]
      refine zr_iinc (pc := 89) S dX12_tray_89 rfl (by unfold zrI; omega) (by decide) ?_
      dsimp only [zst1, zst2, zset, zget, zlong]
      refine zr_goto (pc := 92) (tgt := 69) S dX12_tray_92 (by decide) ?_
      exact k
  have lp0 : (0 ≤ t ∧ t ≤ 3) → ∀ (N : zM), Qp none (zfl0 N 200 (20 * t.toNat) 20) → zK (zg E) rmX12_tray 5 (Qp, 0, 0) X (0, 0) 69 [some (zR 180), some (zI t), some (zI s), some (zI m), some (zI 0)] [] N := fun c N f => by
    have l := lp c N f 20 0 (by omega)
    rw [zfl0_0] at l
    exact l
  refine zr_aload_n (pc := 0) S dX12_tray_0 rfl ?_
  refine zr_iload_n (pc := 1) S dX12_tray_1 rfl ?_
  refine zr_invS (pc := 2) S [zI _] (m_X12_isTray _) kX12_tray_370 dX12_tray_2 (Nat.le_of_ble_eq_true rfl) ⟨Nat.le_of_ble_eq_true rfl, Nat.le_of_ble_eq_true rfl⟩ (us_X12_isTray ?_)
  dsimp only [zaft, Option.toList, List.cons_append, List.nil_append, Nat.add_zero]
  refine zr_if_ne (pc := 5) (tgt := 12) S dX12_tray_5 (by decide) (fun c5 => ?_) (fun c5 => ?_)
  · rw [b01_0, Classical.not_not] at c5
    refine zr_iload_n (pc := 12) S dX12_tray_12 rfl ?_
    refine zr_i2l (pc := 13) S dX12_tray_13 ?_
    refine zr_lconst0 (pc := 14) S dX12_tray_14 ?_
    refine zr_ldc2 (pc := 15) S (3) dX12_tray_15 (List.mem_cons_of_mem _ (zWi_7 _ (List.mem_of_getElem? (i := 24) rfl))) (by unfold zrL; omega) ?_
    refine zr_invS (pc := 18) S [zL _, zL _, zL _] (m_X12_within _) kX12_tray_83 dX12_tray_18 (Nat.le_of_ble_eq_true rfl) ⟨Nat.le_of_ble_eq_true rfl, Nat.le_of_ble_eq_true rfl⟩ (us_X12_within ?_)
    dsimp only [zaft, Option.toList, List.cons_append, List.nil_append, Nat.add_zero]
    refine zr_if_eq (pc := 21) (tgt := 36) S dX12_tray_21 (by decide) (fun c21 => ?_) (fun c21 => ?_)
    · rw [b01_0] at c21
      have f := hU c5 (fun z => c21 z.1)
      refine zr_iconst (pc := 36) S dX12_tray_36 (by unfold zrI; omega) ?_
      refine zr_goto (pc := 37) (tgt := 41) S dX12_tray_37 (by decide) ?_
      refine zr_putI (pc := 41) S pX12_tray_80 dX12_tray_41 rfl (Nat.le_of_ble_eq_true rfl) rfl ?_
      refine zr_aload_n (pc := 44) S dX12_tray_44 rfl ?_
      refine zr_getI (pc := 45) S fX12_tray_80 dX12_tray_45 rfl (Nat.le_of_ble_eq_true rfl) rfl ?_
      try simp only [zup_k, zup_e, ne_eq, Nat.reduceEqDiff, not_false_eq_true, zup_j]
      refine zr_if_le (pc := 48) (tgt := 52) S dX12_tray_48 (by decide) (fun c48 => ?_) (fun c48 => ?_)
      · refine zr_aload_n (pc := 52) S dX12_tray_52 rfl ?_
        refine zr_getR (pc := 53) S fX12_tray_71 dX12_tray_53 rfl (Nat.le_of_ble_eq_true rfl) rfl ?_
        try simp only [zup_k, zup_e, ne_eq, Nat.reduceEqDiff, not_false_eq_true, zup_j]
        refine zr_iload_n (pc := 56) S dX12_tray_56 rfl ?_
        refine zr_iload_n (pc := 57) S dX12_tray_57 rfl ?_
        refine zr_iastore (pc := 58) S dX12_tray_58 rfl (Nat.le_of_ble_eq_true rfl) (by omega) (by omega) ?_
        refine zr_aload_n (pc := 59) S dX12_tray_59 rfl ?_
        refine zr_getR (pc := 60) S fX12_tray_74 dX12_tray_60 rfl (Nat.le_of_ble_eq_true rfl) rfl ?_
        try simp only [zup_k, zup_e, ne_eq, Nat.reduceEqDiff, not_false_eq_true, zup_j]
        refine zr_iload_n (pc := 63) S dX12_tray_63 rfl ?_
        refine zr_iload_n (pc := 64) S dX12_tray_64 rfl ?_
        refine zr_iastore (pc := 65) S dX12_tray_65 rfl (Nat.le_of_ble_eq_true rfl) (by omega) (by omega) ?_
        refine zr_iconst (pc := 66) S dX12_tray_66 (by unfold zrI; omega) ?_
        refine zr_istore (pc := 67) S dX12_tray_67 (by decide) ?_
        dsimp only [zst1, zst2, zset, zget, zlong]
        first | exact absurd c48 (by omega) | exact lp0 c5 _ f
      · exact zr_vret (pc := 51) S dX12_tray_51 rfl ⟨Nat.le_refl _, Nat.le_refl _⟩ (by first | exact f | (exfalso; omega))
    · rw [b01_0, Classical.not_not] at c21
      refine zr_iload_n (pc := 24) S dX12_tray_24 rfl ?_
      refine zr_i2l (pc := 25) S dX12_tray_25 ?_
      refine zr_lconst0 (pc := 26) S dX12_tray_26 ?_
      refine zr_ldc2 (pc := 27) S (20) dX12_tray_27 (List.mem_cons_of_mem _ (zWi_7 _ (List.mem_of_getElem? (i := 28) rfl))) (by unfold zrL; omega) ?_
      refine zr_invS (pc := 30) S [zL _, zL _, zL _] (m_X12_within _) kX12_tray_83 dX12_tray_30 (Nat.le_of_ble_eq_true rfl) ⟨Nat.le_of_ble_eq_true rfl, Nat.le_of_ble_eq_true rfl⟩ (us_X12_within ?_)
      dsimp only [zaft, Option.toList, List.cons_append, List.nil_append, Nat.add_zero]
      refine zr_if_ne (pc := 33) (tgt := 40) S dX12_tray_33 (by decide) (fun c33 => ?_) (fun c33 => ?_)
      · rw [b01_0, Classical.not_not] at c33
        have f := hQ c5 c21 c33
        refine zr_iconst (pc := 40) S dX12_tray_40 (by unfold zrI; omega) ?_
        refine zr_putI (pc := 41) S pX12_tray_80 dX12_tray_41 rfl (Nat.le_of_ble_eq_true rfl) rfl ?_
        refine zr_aload_n (pc := 44) S dX12_tray_44 rfl ?_
        refine zr_getI (pc := 45) S fX12_tray_80 dX12_tray_45 rfl (Nat.le_of_ble_eq_true rfl) rfl ?_
        try simp only [zup_k, zup_e, ne_eq, Nat.reduceEqDiff, not_false_eq_true, zup_j]
        refine zr_if_le (pc := 48) (tgt := 52) S dX12_tray_48 (by decide) (fun c48 => ?_) (fun c48 => ?_)
        · refine zr_aload_n (pc := 52) S dX12_tray_52 rfl ?_
          refine zr_getR (pc := 53) S fX12_tray_71 dX12_tray_53 rfl (Nat.le_of_ble_eq_true rfl) rfl ?_
          try simp only [zup_k, zup_e, ne_eq, Nat.reduceEqDiff, not_false_eq_true, zup_j]
          refine zr_iload_n (pc := 56) S dX12_tray_56 rfl ?_
          refine zr_iload_n (pc := 57) S dX12_tray_57 rfl ?_
          refine zr_iastore (pc := 58) S dX12_tray_58 rfl (Nat.le_of_ble_eq_true rfl) (by omega) (by omega) ?_
          refine zr_aload_n (pc := 59) S dX12_tray_59 rfl ?_
          refine zr_getR (pc := 60) S fX12_tray_74 dX12_tray_60 rfl (Nat.le_of_ble_eq_true rfl) rfl ?_
          try simp only [zup_k, zup_e, ne_eq, Nat.reduceEqDiff, not_false_eq_true, zup_j]
          refine zr_iload_n (pc := 63) S dX12_tray_63 rfl ?_
          refine zr_iload_n (pc := 64) S dX12_tray_64 rfl ?_
          refine zr_iastore (pc := 65) S dX12_tray_65 rfl (Nat.le_of_ble_eq_true rfl) (by omega) (by omega) ?_
          refine zr_iconst (pc := 66) S dX12_tray_66 (by unfold zrI; omega) ?_
          refine zr_istore (pc := 67) S dX12_tray_67 (by decide) ?_
          dsimp only [zst1, zst2, zset, zget, zlong]
          first | exact absurd c48 (by omega) | exact lp0 c5 _ f
        · exact zr_vret (pc := 51) S dX12_tray_51 rfl ⟨Nat.le_refl _, Nat.le_refl _⟩ (by first | exact f | (exfalso; omega))
      · rw [b01_0] at c33
        have f := hU c5 (fun z => c33 z.2)
        refine zr_iconst (pc := 36) S dX12_tray_36 (by unfold zrI; omega) ?_
        refine zr_goto (pc := 37) (tgt := 41) S dX12_tray_37 (by decide) ?_
        refine zr_putI (pc := 41) S pX12_tray_80 dX12_tray_41 rfl (Nat.le_of_ble_eq_true rfl) rfl ?_
        refine zr_aload_n (pc := 44) S dX12_tray_44 rfl ?_
        refine zr_getI (pc := 45) S fX12_tray_80 dX12_tray_45 rfl (Nat.le_of_ble_eq_true rfl) rfl ?_
        try simp only [zup_k, zup_e, ne_eq, Nat.reduceEqDiff, not_false_eq_true, zup_j]
        refine zr_if_le (pc := 48) (tgt := 52) S dX12_tray_48 (by decide) (fun c48 => ?_) (fun c48 => ?_)
        · refine zr_aload_n (pc := 52) S dX12_tray_52 rfl ?_
          refine zr_getR (pc := 53) S fX12_tray_71 dX12_tray_53 rfl (Nat.le_of_ble_eq_true rfl) rfl ?_
          try simp only [zup_k, zup_e, ne_eq, Nat.reduceEqDiff, not_false_eq_true, zup_j]
          refine zr_iload_n (pc := 56) S dX12_tray_56 rfl ?_
          refine zr_iload_n (pc := 57) S dX12_tray_57 rfl ?_
          refine zr_iastore (pc := 58) S dX12_tray_58 rfl (Nat.le_of_ble_eq_true rfl) (by omega) (by omega) ?_
          refine zr_aload_n (pc := 59) S dX12_tray_59 rfl ?_
          refine zr_getR (pc := 60) S fX12_tray_74 dX12_tray_60 rfl (Nat.le_of_ble_eq_true rfl) rfl ?_
          try simp only [zup_k, zup_e, ne_eq, Nat.reduceEqDiff, not_false_eq_true, zup_j]
          refine zr_iload_n (pc := 63) S dX12_tray_63 rfl ?_
          refine zr_iload_n (pc := 64) S dX12_tray_64 rfl ?_
          refine zr_iastore (pc := 65) S dX12_tray_65 rfl (Nat.le_of_ble_eq_true rfl) (by omega) (by omega) ?_
          refine zr_iconst (pc := 66) S dX12_tray_66 (by unfold zrI; omega) ?_
          refine zr_istore (pc := 67) S dX12_tray_67 (by decide) ?_
          dsimp only [zst1, zst2, zset, zget, zlong]
          first | exact absurd c48 (by omega) | exact lp0 c5 _ f
        · exact zr_vret (pc := 51) S dX12_tray_51 rfl ⟨Nat.le_refl _, Nat.le_refl _⟩ (by first | exact f | (exfalso; omega))
  · rw [b01_0] at c5
    have f := hT c5
    refine zr_iconst (pc := 8) S dX12_tray_8 (by unfold zrI; omega) ?_
    refine zr_goto (pc := 9) (tgt := 41) S dX12_tray_9 (by decide) ?_
    refine zr_putI (pc := 41) S pX12_tray_80 dX12_tray_41 rfl (Nat.le_of_ble_eq_true rfl) rfl ?_
    refine zr_aload_n (pc := 44) S dX12_tray_44 rfl ?_
    refine zr_getI (pc := 45) S fX12_tray_80 dX12_tray_45 rfl (Nat.le_of_ble_eq_true rfl) rfl ?_
    try simp only [zup_k, zup_e, ne_eq, Nat.reduceEqDiff, not_false_eq_true, zup_j]
    refine zr_if_le (pc := 48) (tgt := 52) S dX12_tray_48 (by decide) (fun c48 => ?_) (fun c48 => ?_)
    · refine zr_aload_n (pc := 52) S dX12_tray_52 rfl ?_
      refine zr_getR (pc := 53) S fX12_tray_71 dX12_tray_53 rfl (Nat.le_of_ble_eq_true rfl) rfl ?_
      try simp only [zup_k, zup_e, ne_eq, Nat.reduceEqDiff, not_false_eq_true, zup_j]
      refine zr_iload_n (pc := 56) S dX12_tray_56 rfl ?_
      refine zr_iload_n (pc := 57) S dX12_tray_57 rfl ?_
      refine zr_iastore (pc := 58) S dX12_tray_58 rfl (Nat.le_of_ble_eq_true rfl) (by omega) (by omega) ?_
      refine zr_aload_n (pc := 59) S dX12_tray_59 rfl ?_
      refine zr_getR (pc := 60) S fX12_tray_74 dX12_tray_60 rfl (Nat.le_of_ble_eq_true rfl) rfl ?_
      try simp only [zup_k, zup_e, ne_eq, Nat.reduceEqDiff, not_false_eq_true, zup_j]
      refine zr_iload_n (pc := 63) S dX12_tray_63 rfl ?_
      refine zr_iload_n (pc := 64) S dX12_tray_64 rfl ?_
      refine zr_iastore (pc := 65) S dX12_tray_65 rfl (Nat.le_of_ble_eq_true rfl) (by omega) (by omega) ?_
      refine zr_iconst (pc := 66) S dX12_tray_66 (by unfold zrI; omega) ?_
      refine zr_istore (pc := 67) S dX12_tray_67 (by decide) ?_
      dsimp only [zst1, zst2, zset, zget, zlong]
      first | exact absurd c48 (by omega) | exact lp0 c5 _ f
    · exact zr_vret (pc := 51) S dX12_tray_51 rfl ⟨Nat.le_refl _, Nat.le_refl _⟩ (by first | exact f | (exfalso; omega))
theorem cut_sh {v : Int} {k : Int} (h : zrL v) (h0 : 0 ≤ k) (h3 : k ≤ 3) : (v * 2 ^ (64 - 8 * 2 ^ k.toNat : Int).toNat).bmod 18446744073709551616 / 2 ^ (64 - 8 * 2 ^ k.toNat : Int).toNat = cutV k v := by
  have hk : k = 0 ∨ k = 1 ∨ k = 2 ∨ k = 3 := by omega
  unfold zrL at h
  rcases hk with rfl | rfl | rfl | rfl
  · show (v * 2 ^ 56).bmod 18446744073709551616 / 2 ^ 56 = v.bmod 256
    unfold Int.bmod
    rw [show (2 : Int) ^ 56 = 72057594037927936 by decide]
    dsimp only
    split <;> split <;> omega
  · show (v * 2 ^ 48).bmod 18446744073709551616 / 2 ^ 48 = v.bmod 65536
    unfold Int.bmod
    rw [show (2 : Int) ^ 48 = 281474976710656 by decide]
    dsimp only
    split <;> split <;> omega
  · show (v * 2 ^ 32).bmod 18446744073709551616 / 2 ^ 32 = v.bmod 4294967296
    unfold Int.bmod
    rw [show (2 : Int) ^ 32 = 4294967296 by decide]
    dsimp only
    split <;> split <;> omega
  · show (v * 2 ^ 0).bmod 18446744073709551616 / 2 ^ 0 = v
    unfold Int.bmod
    rw [show (2 : Int) ^ 0 = 1 by decide]
    dsimp only
    split <;> omega
def sp_X12_write (as : List zV) (M : zM) (Q : Option zV → zM → Prop) : Prop := ∃ (t p v : Int), as = [zR 180, zI t, zI p, zL v] ∧ (∀ i : Nat, i < 4 → (-1 ≤ M 198 i ∧ M 198 i ≤ 3) ∧ (0 ≤ M 199 i ∧ M 199 i ≤ 20)) ∧ (zrL v) ∧ ((0 ≤ t ∧ t ≤ 3) → ¬ M 198 t.toNat = -1 → (0 ≤ p ∧ p < M 199 t.toNat) → Q (some (zL (cutV (M 198 t.toNat) v))) (zup (tz M 0) 200 (20 * t + p).toNat (cutV (M 198 t.toNat) v))) ∧ (¬ (0 ≤ t ∧ t ≤ 3) → Q (some (zL 0)) (tz (tz M 0) 1)) ∧ ((0 ≤ t ∧ t ≤ 3) → M 198 t.toNat = -1 → Q (some (zL 0)) (tz (tz M 0) 2)) ∧ ((0 ≤ t ∧ t ≤ 3) → ¬ M 198 t.toNat = -1 → ¬ (0 ≤ p ∧ p < M 199 t.toNat) → Q (some (zL 0)) (tz (tz M 0) 3))
theorem us_X12_write {t p v : Int} {M : zM} {Q : Option zV → zM → Prop} (hx : ∀ i : Nat, i < 4 → (-1 ≤ M 198 i ∧ M 198 i ≤ 3) ∧ (0 ≤ M 199 i ∧ M 199 i ≤ 20)) (hv : zrL v) (hQ : (0 ≤ t ∧ t ≤ 3) → ¬ M 198 t.toNat = -1 → (0 ≤ p ∧ p < M 199 t.toNat) → Q (some (zL (cutV (M 198 t.toNat) v))) (zup (tz M 0) 200 (20 * t + p).toNat (cutV (M 198 t.toNat) v))) (hT : ¬ (0 ≤ t ∧ t ≤ 3) → Q (some (zL 0)) (tz (tz M 0) 1)) (hU : (0 ≤ t ∧ t ≤ 3) → M 198 t.toNat = -1 → Q (some (zL 0)) (tz (tz M 0) 2)) (hV : (0 ≤ t ∧ t ≤ 3) → ¬ M 198 t.toNat = -1 → ¬ (0 ≤ p ∧ p < M 199 t.toNat) → Q (some (zL 0)) (tz (tz M 0) 3)) : sp_X12_write [zR 180, zI t, zI p, zL v] M Q := ⟨t, p, v, rfl, hx, hv, hQ, hT, hU, hV⟩
set_option maxRecDepth 20000 in
set_option maxHeartbeats 4000000 in
theorem m_X12_write (l : Launch) : zC l yX12_write wzX12_write rmX12_write sp_X12_write := by
  refine zMet.of RX12 (by decide +kernel) rfl rfl ?_
  intro E X as M Qp hX S hsp
  obtain ⟨t, p, v, rfl, hx, hv, hQ, hT, hU, hV⟩ := hsp
  refine ⟨Nat.le_of_ble_eq_true rfl, ?_⟩
  dsimp only [zpad, zargs]
  have key : (0 ≤ t ∧ t ≤ 3) → ¬ M 198 t.toNat = -1 → (0 ≤ p ∧ p < M 199 t.toNat) → zK (zg E) rmX12_write 6 (Qp, 0, 0) X (0, 0) 61 [some (zR 180), some (zI t), some (zI p), some (zL v), none, none] [] (tz M 0) := by
    intro c1 c2 c3
    have f := hQ c1 c2 c3
    have a := hx t.toNat (by omega)
    have cs := cut_sh (k := M 198 t.toNat) hv (by omega) (by omega)
    have pw : 1 ≤ (2 : Int) ^ (M 198 t.toNat).toNat ∧ (2 : Int) ^ (M 198 t.toNat).toNat ≤ 8 := by
      have : M 198 t.toNat = 0 ∨ M 198 t.toNat = 1 ∨ M 198 t.toNat = 2 ∨ M 198 t.toNat = 3 := by omega
      rcases this with h | h | h | h <;> rw [h] <;> decide
    have ee : zup (tz M 0) 200 (20 * t + p).toNat (cutV (M 198 t.toNat) v) 200 (20 * t + p).toNat = cutV (M 198 t.toNat) v := zup_e
    refine zr_bipush (pc := 61) S dX12_write_61 ⟨by unfold zrI; omega, by decide⟩ ?_
    refine zr_bipush (pc := 63) S dX12_write_63 ⟨by unfold zrI; omega, by decide⟩ ?_
    refine zr_aload_n (pc := 65) S dX12_write_65 rfl ?_
    refine zr_getR (pc := 66) S fX12_write_71 dX12_write_66 rfl (Nat.le_of_ble_eq_true rfl) rfl ?_
    try simp only [zup_k, zup_e, ne_eq, Nat.reduceEqDiff, not_false_eq_true, zup_j]
    refine zr_iload_n (pc := 69) S dX12_write_69 rfl ?_
    refine zr_iaload (pc := 70) S dX12_write_70 rfl (Nat.le_of_ble_eq_true rfl) (by omega) (by omega) ?_
    try simp only [zup_k, zup_e, ne_eq, Nat.reduceEqDiff, not_false_eq_true]
    refine zr_ishl (pc := 71) S dX12_write_71 (by omega) (by omega) (by omega) (by omega) ?_
    refine zr_isub (pc := 72) S dX12_write_72 (by unfold zrI; omega) ?_
    refine zr_istore (pc := 73) S dX12_write_73 (by decide) ?_
    dsimp only [zst1, zst2, zset, zget, zlong]
    refine zr_aload_n (pc := 75) S dX12_write_75 rfl ?_
    refine zr_getR (pc := 76) S fX12_write_77 dX12_write_76 rfl (Nat.le_of_ble_eq_true rfl) rfl ?_
    try simp only [zup_k, zup_e, ne_eq, Nat.reduceEqDiff, not_false_eq_true, zup_j]
    refine zr_bipush (pc := 79) S dX12_write_79 ⟨by unfold zrI; omega, by decide⟩ ?_
    refine zr_iload_n (pc := 81) S dX12_write_81 rfl ?_
    refine zr_imul (pc := 82) S dX12_write_82 (by unfold zrI; omega) ?_
    refine zr_iload_n (pc := 83) S dX12_write_83 rfl ?_
    refine zr_iadd (pc := 84) S dX12_write_84 (by unfold zrI; omega) ?_
    refine zr_lload_n (pc := 85) S dX12_write_85 rfl ?_
    refine zr_iload (pc := 86) S dX12_write_86 rfl ?_
    refine zr_lshlw (pc := 88) S dX12_write_88 (by omega) (by omega) ?_
    refine zr_iload (pc := 89) S dX12_write_89 rfl ?_
    refine zr_lshr (pc := 91) S dX12_write_91 (by omega) (by omega) ?_
    rw [cs]
    refine zr_lastore (pc := 92) S dX12_write_92 rfl (Nat.le_of_ble_eq_true rfl) (by omega) (by omega) ?_
    refine zr_aload_n (pc := 93) S dX12_write_93 rfl ?_
    refine zr_getR (pc := 94) S fX12_write_77 dX12_write_94 rfl (Nat.le_of_ble_eq_true rfl) rfl ?_
    try simp only [zup_k, zup_e, ne_eq, Nat.reduceEqDiff, not_false_eq_true, zup_j]
    refine zr_bipush (pc := 97) S dX12_write_97 ⟨by unfold zrI; omega, by decide⟩ ?_
    refine zr_iload_n (pc := 99) S dX12_write_99 rfl ?_
    refine zr_imul (pc := 100) S dX12_write_100 (by unfold zrI; omega) ?_
    refine zr_iload_n (pc := 101) S dX12_write_101 rfl ?_
    refine zr_iadd (pc := 102) S dX12_write_102 (by unfold zrI; omega) ?_
    refine zr_laload (pc := 103) S dX12_write_103 rfl (Nat.le_of_ble_eq_true rfl) (by omega) (by omega) ?_
    try simp only [zup_k, zup_e, ne_eq, Nat.reduceEqDiff, not_false_eq_true]
    exact zr_lret (pc := 104) S dX12_write_104 rfl ⟨Nat.le_refl _, Nat.le_refl _⟩ (f)
  have a := fun c : 0 ≤ t ∧ t ≤ 3 => hx t.toNat (by omega)
  refine zr_aload_n (pc := 0) S dX12_write_0 rfl ?_
  refine zr_iconst (pc := 1) S dX12_write_1 (by unfold zrI; omega) ?_
  refine zr_putI (pc := 2) S pX12_write_80 dX12_write_2 rfl (Nat.le_of_ble_eq_true rfl) rfl ?_
  refine zr_iload_n (pc := 5) S dX12_write_5 rfl ?_
  refine zr_invS (pc := 6) S [zI _] (m_X12_isTray _) kX12_write_370 dX12_write_6 (Nat.le_of_ble_eq_true rfl) ⟨Nat.le_of_ble_eq_true rfl, Nat.le_of_ble_eq_true rfl⟩ (us_X12_isTray ?_)
  dsimp only [zaft, Option.toList, List.cons_append, List.nil_append, Nat.add_zero]
  refine zr_if_ne (pc := 9) (tgt := 19) S dX12_write_9 (by decide) (fun c9 => ?_) (fun c9 => ?_)
  · rw [b01_0, Classical.not_not] at c9
    have a9 := a c9
    refine zr_aload_n (pc := 19) S dX12_write_19 rfl ?_
    refine zr_getR (pc := 20) S fX12_write_71 dX12_write_20 rfl (Nat.le_of_ble_eq_true rfl) rfl ?_
    try simp only [zup_k, zup_e, ne_eq, Nat.reduceEqDiff, not_false_eq_true, zup_j]
    refine zr_iload_n (pc := 23) S dX12_write_23 rfl ?_
    refine zr_iaload (pc := 24) S dX12_write_24 rfl (Nat.le_of_ble_eq_true rfl) (by omega) (by omega) ?_
    try simp only [zup_k, zup_e, ne_eq, Nat.reduceEqDiff, not_false_eq_true]
    refine zr_iconst (pc := 25) S dX12_write_25 (by unfold zrI; omega) ?_
    refine zr_icmp_ne (pc := 26) (tgt := 36) S dX12_write_26 (by decide) (fun c26 => ?_) (fun c26 => ?_)
    · refine zr_iload_n (pc := 36) S dX12_write_36 rfl ?_
      refine zr_i2l (pc := 37) S dX12_write_37 ?_
      refine zr_lconst0 (pc := 38) S dX12_write_38 ?_
      refine zr_aload_n (pc := 39) S dX12_write_39 rfl ?_
      refine zr_getR (pc := 40) S fX12_write_74 dX12_write_40 rfl (Nat.le_of_ble_eq_true rfl) rfl ?_
      try simp only [zup_k, zup_e, ne_eq, Nat.reduceEqDiff, not_false_eq_true, zup_j]
      refine zr_iload_n (pc := 43) S dX12_write_43 rfl ?_
      refine zr_iaload (pc := 44) S dX12_write_44 rfl (Nat.le_of_ble_eq_true rfl) (by omega) (by omega) ?_
      try simp only [zup_k, zup_e, ne_eq, Nat.reduceEqDiff, not_false_eq_true]
      refine zr_iconst (pc := 45) S dX12_write_45 (by unfold zrI; omega) ?_
      refine zr_isub (pc := 46) S dX12_write_46 (by unfold zrI; omega) ?_
      refine zr_i2l (pc := 47) S dX12_write_47 ?_
      refine zr_invS (pc := 48) S [zL _, zL _, zL _] (m_X12_within _) kX12_write_83 dX12_write_48 (Nat.le_of_ble_eq_true rfl) ⟨Nat.le_of_ble_eq_true rfl, Nat.le_of_ble_eq_true rfl⟩ (us_X12_within ?_)
      dsimp only [zaft, Option.toList, List.cons_append, List.nil_append, Nat.add_zero]
      refine zr_if_ne (pc := 51) (tgt := 61) S dX12_write_51 (by decide) (fun c51 => ?_) (fun c51 => ?_)
      · rw [b01_0, Classical.not_not] at c51
        have c51' : 0 ≤ p ∧ p ≤ M 199 t.toNat - 1 := c51
        exact key c9 c26 (by omega)
      · rw [b01_0] at c51
        have f := hV c9 c26 (fun z => c51 (by show _ ∧ _ ≤ M 199 t.toNat - 1; omega))
        refine zr_aload_n (pc := 54) S dX12_write_54 rfl ?_
        refine zr_iconst (pc := 55) S dX12_write_55 (by unfold zrI; omega) ?_
        refine zr_invV (pc := 56) S [zI _] (m_X12_fails _) kX12_write_95 dX12_write_56 rfl (Nat.le_of_ble_eq_true rfl) rfl (Nat.le_of_ble_eq_true rfl) ⟨Nat.le_of_ble_eq_true rfl, Nat.le_of_ble_eq_true rfl⟩ (us_X12_fails ?_)
        dsimp only [zaft, Option.toList, List.cons_append, List.nil_append, Nat.add_zero]
        refine zr_i2l (pc := 59) S dX12_write_59 ?_
        exact zr_lret (pc := 60) S dX12_write_60 rfl ⟨Nat.le_refl _, Nat.le_refl _⟩ (f)
    · have f := hU c9 c26
      refine zr_aload_n (pc := 29) S dX12_write_29 rfl ?_
      refine zr_iconst (pc := 30) S dX12_write_30 (by unfold zrI; omega) ?_
      refine zr_invV (pc := 31) S [zI _] (m_X12_fails _) kX12_write_95 dX12_write_31 rfl (Nat.le_of_ble_eq_true rfl) rfl (Nat.le_of_ble_eq_true rfl) ⟨Nat.le_of_ble_eq_true rfl, Nat.le_of_ble_eq_true rfl⟩ (us_X12_fails ?_)
      dsimp only [zaft, Option.toList, List.cons_append, List.nil_append, Nat.add_zero]
      refine zr_i2l (pc := 34) S dX12_write_34 ?_
      exact zr_lret (pc := 35) S dX12_write_35 rfl ⟨Nat.le_refl _, Nat.le_refl _⟩ (f)
  · rw [b01_0] at c9
    have f := hT c9
    refine zr_aload_n (pc := 12) S dX12_write_12 rfl ?_
    refine zr_iconst (pc := 13) S dX12_write_13 (by unfold zrI; omega) ?_
    refine zr_invV (pc := 14) S [zI _] (m_X12_fails _) kX12_write_95 dX12_write_14 rfl (Nat.le_of_ble_eq_true rfl) rfl (Nat.le_of_ble_eq_true rfl) ⟨Nat.le_of_ble_eq_true rfl, Nat.le_of_ble_eq_true rfl⟩ (us_X12_fails ?_)
    dsimp only [zaft, Option.toList, List.cons_append, List.nil_append, Nat.add_zero]
    refine zr_i2l (pc := 17) S dX12_write_17 ?_
    exact zr_lret (pc := 18) S dX12_write_18 rfl ⟨Nat.le_refl _, Nat.le_refl _⟩ (f)
end
