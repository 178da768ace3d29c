section
/-- the next token has been read -/
def nxM (M M' : zM) (n p : Nat) : Prop := (∀ k, k ≠ 180 → M' k = M k) ∧ (∀ j, j ≠ 8 → j ≠ 9 → j ≠ 10 → j ≠ 11 → M' 180 j = M 180 j) ∧ M' 180 9 = (tS (M 184) n p : Nat) ∧ M' 180 8 = (tE (M 184) n p : Nat) ∧ M' 180 10 = tK (M 184) n p ∧ (tK (M 184) n p = 2 → M' 180 11 = tV (M 184) (tS (M 184) n p) (tE (M 184) n p))
def sp_X12_next (as : List zV) (M : zM) (Q : Option zV → zM → Prop) : Prop := ∃ (n p : Nat), as = [zR 180] ∧ (M 180 7 = n) ∧ (n ≤ 400) ∧ (M 180 8 = p) ∧ (p ≤ n) ∧ (∀ M', nxM M M' n p → Q none M')
theorem us_X12_next {n p : Nat} {M : zM} {Q : Option zV → zM → Prop} (hn : M 180 7 = n) (n4 : n ≤ 400) (hp : M 180 8 = p) (pn : p ≤ n) (hQ : ∀ M', nxM M M' n p → Q none M') : sp_X12_next [zR 180] M Q := ⟨n, p, rfl, hn, n4, hp, pn, hQ⟩
set_option maxRecDepth 20000 in
set_option maxHeartbeats 4000000 in
theorem m_X12_next (l : Launch) : zC l yX12_next wzX12_next rmX12_next sp_X12_next := by
  refine zMet.of RX12 (by decide +kernel) rfl rfl ?_
  intro E X as M Qp hX S hsp
  obtain ⟨n, p, rfl, hn, n4, hp, pn, hQ⟩ := hsp
  refine ⟨Nat.le_of_ble_eq_true rfl, ?_⟩
  dsimp only [zpad, zargs]
  have sr := run_r (P := isBl (M 184) n) pn
  have esS : run (isBl (M 184) n) n p = tS (M 184) n p := rfl
  rw [esS] at sr
  have k52 : ∀ U, atM M U (tS (M 184) n p) → zK (zg E) rmX12_next 2 (Qp, 0, 0) X (0, 0) 52 [some (zR 180), none] [] U := by
    intro U hU
    have ea := hU.2.2
    unfold nxM at hQ
    unfold tE tK at hQ
    generalize hS : tS (M 184) n p = s at *
    have a1 : atM (zup M 180 9 s) (zup U 180 9 s) s := ⟨fun k hk => by rw [zup_o k hk, zup_o k hk]; exact hU.1 k hk, fun j hj => by
      by_cases e : j = 9
      · rw [e, zup_e, zup_e]
      · rw [zup_j e, zup_j e]; exact hU.2.1 j hj, by rw [zup_j (by decide)]; exact ea⟩
    generalize hN : zup U 180 9 s = N at *
    have o1 : ∀ k, k ≠ 180 → N k = M k := fun k hk => by rw [a1.1 k hk, zup_o k hk]
    have o2 : ∀ j, j ≠ 8 → j ≠ 9 → N 180 j = M 180 j := fun j h1 h2 => by rw [a1.2.1 j h1, zup_j h2]
    have ba : N 180 8 = s := a1.2.2
    have bb : N 180 9 = s := by rw [a1.2.1 _ (by decide), zup_e]
    have bs : N 180 7 = n := by rw [o2 _ (by decide) (by decide)]; exact hn
    have bt : N 184 = M 184 := o1 _ (by decide)
    have e1 : (s : Int).toNat = s := Int.toNat_natCast s
    have k60 : zK (zg E) rmX12_next 2 (Qp, 0, 0) X (0, 0) 60 [some (zR 180), none] [] N := by
      by_cases c0 : s < n
      · simp only [if_pos c0] at hQ
        by_cases c1 : isLe (M 184) n s
        · simp only [if_pos c1] at hQ
          have l := fun u1 => nx2 (E := E) (X := X) (Qp := Qp) (M := N) (n := n) (s := run (isLe (M 184) n) n s) (u1 := u1) S bs n4 (fun W hW => by
            have q := hQ (zup W 180 10 1) ⟨fun k hk => by rw [zup_o k hk, hW.1 k hk]; exact o1 k hk, fun j h1 h2 h3 h4 => by rw [zup_j h3, hW.2.1 j h1]; exact o2 j h1 h2, by rw [zup_j (by decide), hW.2.1 _ (by decide)]; exact bb, by rw [zup_j (by decide)]; exact hW.2.2, zup_e, fun z => absurd z (by decide)⟩
            refine zr_aload_n (pc := 121) S dX12_next_121 rfl ?_
            refine zr_iconst (pc := 122) S dX12_next_122 (by unfold zrI; omega) ?_
            refine zr_putI (pc := 123) S pX12_next_148 dX12_next_123 rfl (Nat.le_of_ble_eq_true rfl) rfl ?_
            refine zr_goto (pc := 126) (tgt := 262) S dX12_next_126 (by decide) ?_
            exact zr_vret (pc := 262) S dX12_next_262 rfl ⟨Nat.le_refl _, Nat.le_refl _⟩ (q)) (n - s) s N (by omega) (by rw [bt]) ⟨fun _ _ => rfl, fun _ _ => rfl, ba⟩
          have c2 := c1.2
          refine zr_aload_n (pc := 60) S dX12_next_60 rfl ?_
          refine zr_getI (pc := 61) S fX12_next_142 dX12_next_61 rfl (Nat.le_of_ble_eq_true rfl) rfl ?_
          rw [ba]
          refine zr_aload_n (pc := 64) S dX12_next_64 rfl ?_
          refine zr_getI (pc := 65) S fX12_next_139 dX12_next_65 rfl (Nat.le_of_ble_eq_true rfl) rfl ?_
          rw [bs]
          refine zr_icmp_lt (pc := 68) (tgt := 77) S dX12_next_68 (by decide) (fun c68 => ?_) (fun c68 => absurd c68 (by omega))
          refine zr_aload_n (pc := 77) S dX12_next_77 rfl ?_
          refine zr_getR (pc := 78) S fX12_next_20 dX12_next_78 rfl (Nat.le_of_ble_eq_true rfl) rfl ?_
          refine zr_aload_n (pc := 81) S dX12_next_81 rfl ?_
          refine zr_getI (pc := 82) S fX12_next_142 dX12_next_82 rfl (Nat.le_of_ble_eq_true rfl) rfl ?_
          rw [ba]
          refine zr_iaload (pc := 85) S dX12_next_85 rfl (Nat.le_of_ble_eq_true rfl) (by omega) (by omega) ?_
          rw [bt, e1]
          refine zr_istore_n (pc := 86) S 1 dX12_next_86 rfl (by decide) ?_
          dsimp only [zst1, zst2, zset, zget, zlong]
          refine zr_iload_n (pc := 87) S dX12_next_87 rfl ?_
          refine zr_invS (pc := 88) S [zI _] (m_X12_isLetter _) kX12_next_151 dX12_next_88 (Nat.le_of_ble_eq_true rfl) ⟨Nat.le_of_ble_eq_true rfl, Nat.le_of_ble_eq_true rfl⟩ (us_X12_isLetter ?_)
          dsimp only [zaft, Option.toList, List.cons_append, List.nil_append, Nat.add_zero]
          rw [b01_t c2]
          refine zr_if_eq (pc := 91) (tgt := 129) S dX12_next_91 (by decide) (fun c91 => absurd c91 (by omega)) (fun c91 => ?_)
          exact l _
        · simp only [if_neg c1] at hQ
          have c1' : ¬ (97 ≤ M 184 s ∧ M 184 s ≤ 122) := fun z => c1 ⟨c0, z⟩
          by_cases c2 : isDi (M 184) n s
          · simp only [if_pos c2] at hQ
            have bt2 : zup N 180 11 0 184 = M 184 := by rw [zup_o _ (by decide)]; exact bt
            have rr := run_r (P := isDi (M 184) n) (n := n) (p := s) (by omega)
            have l := fun u1 => nx3 (E := E) (X := X) (Qp := Qp) (M := zup N 180 11 0) (n := n) (s := s) (e := run (isDi (M 184) n) n s) (u1 := u1) S (by rw [zup_j (by decide)]; exact bs) n4 (by rw [zup_j (by decide)]; exact bb) (fun q h1 h2 => by rw [bt2]; exact runP_all (n - s) s q h1 h2) (fun W hW => by
              rw [bt2] at hW
              have wa := hW.2.2.1
              have wb : W 180 9 = s := by rw [hW.2.1 _ (by decide) (by decide), zup_j (by decide)]; exact bb
              have q := fun (tk : Int) (h : tk = if 2 < run (isDi (M 184) n) n s - s then 4 else 2) => hQ (zup W 180 10 tk) ⟨fun k hk => by rw [zup_o k hk, hW.1 k hk, zup_o k hk]; exact o1 k hk, fun j h1 h2 h3 h4 => by rw [zup_j h3, hW.2.1 j h1 h4, zup_j h4]; exact o2 j h1 h2, by rw [zup_j (by decide)]; exact wb, by rw [zup_j (by decide)]; exact wa, by rw [zup_e]; exact h, fun _ => by rw [zup_j (by decide)]; exact hW.2.2.2⟩
              refine zr_aload_n (pc := 212) S dX12_next_212 rfl ?_
              refine zr_aload_n (pc := 213) S dX12_next_213 rfl ?_
              refine zr_getI (pc := 214) S fX12_next_142 dX12_next_214 rfl (Nat.le_of_ble_eq_true rfl) rfl ?_
              rw [wa]
              refine zr_aload_n (pc := 217) S dX12_next_217 rfl ?_
              refine zr_getI (pc := 218) S fX12_next_145 dX12_next_218 rfl (Nat.le_of_ble_eq_true rfl) rfl ?_
              rw [wb]
              refine zr_isub (pc := 221) S dX12_next_221 (by unfold zrI; omega) ?_
              refine zr_iconst (pc := 222) S dX12_next_222 (by unfold zrI; omega) ?_
              refine zr_icmp_le (pc := 223) (tgt := 230) S dX12_next_223 (by decide) (fun c223 => ?_) (fun c223 => ?_)
              · refine zr_iconst (pc := 230) S dX12_next_230 (by unfold zrI; omega) ?_
                refine zr_putI (pc := 231) S pX12_next_148 dX12_next_231 rfl (Nat.le_of_ble_eq_true rfl) rfl ?_
                refine zr_goto (pc := 234) (tgt := 262) S dX12_next_234 (by decide) ?_
                exact zr_vret (pc := 262) S dX12_next_262 rfl ⟨Nat.le_refl _, Nat.le_refl _⟩ (q _ (by first | rw [if_pos (by omega)] | rw [if_neg (by omega)]))
              · refine zr_iconst (pc := 226) S dX12_next_226 (by unfold zrI; omega) ?_
                refine zr_goto (pc := 227) (tgt := 231) S dX12_next_227 (by decide) ?_
                refine zr_putI (pc := 231) S pX12_next_148 dX12_next_231 rfl (Nat.le_of_ble_eq_true rfl) rfl ?_
                refine zr_goto (pc := 234) (tgt := 262) S dX12_next_234 (by decide) ?_
                exact zr_vret (pc := 262) S dX12_next_262 rfl ⟨Nat.le_refl _, Nat.le_refl _⟩ (q _ (by first | rw [if_pos (by omega)] | rw [if_neg (by omega)]))) (n - s) s (zup N 180 11 0) (by omega) (by omega) (by rw [bt2]) ⟨fun _ _ => rfl, fun _ _ _ => rfl, by rw [zup_j (by decide)]; exact ba, by rw [zup_e]; unfold tV; rw [if_pos (by omega)]⟩
            have c3 := c2.2
            refine zr_aload_n (pc := 60) S dX12_next_60 rfl ?_
            refine zr_getI (pc := 61) S fX12_next_142 dX12_next_61 rfl (Nat.le_of_ble_eq_true rfl) rfl ?_
            rw [ba]
            refine zr_aload_n (pc := 64) S dX12_next_64 rfl ?_
            refine zr_getI (pc := 65) S fX12_next_139 dX12_next_65 rfl (Nat.le_of_ble_eq_true rfl) rfl ?_
            rw [bs]
            refine zr_icmp_lt (pc := 68) (tgt := 77) S dX12_next_68 (by decide) (fun c68 => ?_) (fun c68 => absurd c68 (by omega))
            refine zr_aload_n (pc := 77) S dX12_next_77 rfl ?_
            refine zr_getR (pc := 78) S fX12_next_20 dX12_next_78 rfl (Nat.le_of_ble_eq_true rfl) rfl ?_
            refine zr_aload_n (pc := 81) S dX12_next_81 rfl ?_
            refine zr_getI (pc := 82) S fX12_next_142 dX12_next_82 rfl (Nat.le_of_ble_eq_true rfl) rfl ?_
            rw [ba]
            refine zr_iaload (pc := 85) S dX12_next_85 rfl (Nat.le_of_ble_eq_true rfl) (by omega) (by omega) ?_
            rw [bt, e1]
            refine zr_istore_n (pc := 86) S 1 dX12_next_86 rfl (by decide) ?_
            dsimp only [zst1, zst2, zset, zget, zlong]
            refine zr_iload_n (pc := 87) S dX12_next_87 rfl ?_
            refine zr_invS (pc := 88) S [zI _] (m_X12_isLetter _) kX12_next_151 dX12_next_88 (Nat.le_of_ble_eq_true rfl) ⟨Nat.le_of_ble_eq_true rfl, Nat.le_of_ble_eq_true rfl⟩ (us_X12_isLetter ?_)
            dsimp only [zaft, Option.toList, List.cons_append, List.nil_append, Nat.add_zero]
            rw [b01_f c1']
            refine zr_if_eq (pc := 91) (tgt := 129) S dX12_next_91 (by decide) (fun c91 => ?_) (fun c91 => absurd c91 (by omega))
            refine zr_iload_n (pc := 129) S dX12_next_129 rfl ?_
            refine zr_invS (pc := 130) S [zI _] (m_X12_isDigit _) kX12_next_157 dX12_next_130 (Nat.le_of_ble_eq_true rfl) ⟨Nat.le_of_ble_eq_true rfl, Nat.le_of_ble_eq_true rfl⟩ (us_X12_isDigit ?_)
            dsimp only [zaft, Option.toList, List.cons_append, List.nil_append, Nat.add_zero]
            rw [b01_t c3]
            refine zr_if_eq (pc := 133) (tgt := 237) S dX12_next_133 (by decide) (fun c133 => absurd c133 (by omega)) (fun c133 => ?_)
            refine zr_aload_n (pc := 136) S dX12_next_136 rfl ?_
            refine zr_iconst (pc := 137) S dX12_next_137 (by unfold zrI; omega) ?_
            refine zr_putI (pc := 138) S pX12_next_160 dX12_next_138 rfl (Nat.le_of_ble_eq_true rfl) rfl ?_
            exact l _
          · simp only [if_neg c2] at hQ
            have c2' : ¬ (48 ≤ M 184 s ∧ M 184 s ≤ 57) := fun z => c2 ⟨c0, z⟩
            have q := fun (tk : Int) (h : tk = if M 184 s = 59 then 3 else 4) => hQ (zup (zup N 180 10 tk) 180 8 ((s : Int) + 1)) ⟨fun k hk => by rw [zup_o k hk, zup_o k hk]; exact o1 k hk, fun j h1 h2 h3 h4 => by rw [zup_j h1, zup_j h3]; exact o2 j h1 h2, by rw [zup_j (by decide), zup_j (by decide)]; exact bb, by rw [zup_e]; omega, by rw [zup_j (by decide), zup_e]; exact h, fun z => by split at z <;> omega⟩
            have ba2 : ∀ tk : Int, zup N 180 10 tk 180 8 = s := fun tk => by rw [zup_j (by decide)]; exact ba
            refine zr_aload_n (pc := 60) S dX12_next_60 rfl ?_
            refine zr_getI (pc := 61) S fX12_next_142 dX12_next_61 rfl (Nat.le_of_ble_eq_true rfl) rfl ?_
            rw [ba]
            refine zr_aload_n (pc := 64) S dX12_next_64 rfl ?_
            refine zr_getI (pc := 65) S fX12_next_139 dX12_next_65 rfl (Nat.le_of_ble_eq_true rfl) rfl ?_
            rw [bs]
            refine zr_icmp_lt (pc := 68) (tgt := 77) S dX12_next_68 (by decide) (fun c68 => ?_) (fun c68 => absurd c68 (by omega))
            refine zr_aload_n (pc := 77) S dX12_next_77 rfl ?_
            refine zr_getR (pc := 78) S fX12_next_20 dX12_next_78 rfl (Nat.le_of_ble_eq_true rfl) rfl ?_
            refine zr_aload_n (pc := 81) S dX12_next_81 rfl ?_
            refine zr_getI (pc := 82) S fX12_next_142 dX12_next_82 rfl (Nat.le_of_ble_eq_true rfl) rfl ?_
            rw [ba]
            refine zr_iaload (pc := 85) S dX12_next_85 rfl (Nat.le_of_ble_eq_true rfl) (by omega) (by omega) ?_
            rw [bt, e1]
            refine zr_istore_n (pc := 86) S 1 dX12_next_86 rfl (by decide) ?_
            dsimp only [zst1, zst2, zset, zget, zlong]
            refine zr_iload_n (pc := 87) S dX12_next_87 rfl ?_
            refine zr_invS (pc := 88) S [zI _] (m_X12_isLetter _) kX12_next_151 dX12_next_88 (Nat.le_of_ble_eq_true rfl) ⟨Nat.le_of_ble_eq_true rfl, Nat.le_of_ble_eq_true rfl⟩ (us_X12_isLetter ?_)
            dsimp only [zaft, Option.toList, List.cons_append, List.nil_append, Nat.add_zero]
            rw [b01_f c1']
            refine zr_if_eq (pc := 91) (tgt := 129) S dX12_next_91 (by decide) (fun c91 => ?_) (fun c91 => absurd c91 (by omega))
            refine zr_iload_n (pc := 129) S dX12_next_129 rfl ?_
            refine zr_invS (pc := 130) S [zI _] (m_X12_isDigit _) kX12_next_157 dX12_next_130 (Nat.le_of_ble_eq_true rfl) ⟨Nat.le_of_ble_eq_true rfl, Nat.le_of_ble_eq_true rfl⟩ (us_X12_isDigit ?_)
            dsimp only [zaft, Option.toList, List.cons_append, List.nil_append, Nat.add_zero]
            rw [b01_f c2']
            refine zr_if_eq (pc := 133) (tgt := 237) S dX12_next_133 (by decide) (fun c133 => ?_) (fun c133 => absurd c133 (by omega))
            refine zr_aload_n (pc := 237) S dX12_next_237 rfl ?_
            refine zr_iload_n (pc := 238) S dX12_next_238 rfl ?_
            refine zr_bipush (pc := 239) S dX12_next_239 ⟨by unfold zrI; omega, by decide⟩ ?_
            refine zr_icmp_ne (pc := 241) (tgt := 248) S dX12_next_241 (by decide) (fun c241 => ?_) (fun c241 => ?_)
            · refine zr_iconst (pc := 248) S dX12_next_248 (by unfold zrI; omega) ?_
              refine zr_putI (pc := 249) S pX12_next_148 dX12_next_249 rfl (Nat.le_of_ble_eq_true rfl) rfl ?_
              refine zr_aload_n (pc := 252) S dX12_next_252 rfl ?_
              refine zr_dup (pc := 253) S dX12_next_253 rfl ?_
              refine zr_getI (pc := 254) S fX12_next_142 dX12_next_254 rfl (Nat.le_of_ble_eq_true rfl) rfl ?_
              try simp only [zup_k, zup_e, ne_eq, Nat.reduceEqDiff, not_false_eq_true, zup_j]
              first | rw [ba2] | rw [ba]
              refine zr_iconst (pc := 257) S dX12_next_257 (by unfold zrI; omega) ?_
              refine zr_iadd (pc := 258) S dX12_next_258 (by unfold zrI; omega) ?_
              refine zr_putI (pc := 259) S pX12_next_142 dX12_next_259 rfl (Nat.le_of_ble_eq_true rfl) rfl ?_
              exact zr_vret (pc := 262) S dX12_next_262 rfl ⟨Nat.le_refl _, Nat.le_refl _⟩ (q _ (by first | rw [if_pos (by omega)] | rw [if_neg (by omega)]))
            · refine zr_iconst (pc := 244) S dX12_next_244 (by unfold zrI; omega) ?_
              refine zr_goto (pc := 245) (tgt := 249) S dX12_next_245 (by decide) ?_
              refine zr_putI (pc := 249) S pX12_next_148 dX12_next_249 rfl (Nat.le_of_ble_eq_true rfl) rfl ?_
              refine zr_aload_n (pc := 252) S dX12_next_252 rfl ?_
              refine zr_dup (pc := 253) S dX12_next_253 rfl ?_
              refine zr_getI (pc := 254) S fX12_next_142 dX12_next_254 rfl (Nat.le_of_ble_eq_true rfl) rfl ?_
              try simp only [zup_k, zup_e, ne_eq, Nat.reduceEqDiff, not_false_eq_true, zup_j]
              first | rw [ba2] | rw [ba]
              refine zr_iconst (pc := 257) S dX12_next_257 (by unfold zrI; omega) ?_
              refine zr_iadd (pc := 258) S dX12_next_258 (by unfold zrI; omega) ?_
              refine zr_putI (pc := 259) S pX12_next_142 dX12_next_259 rfl (Nat.le_of_ble_eq_true rfl) rfl ?_
              exact zr_vret (pc := 262) S dX12_next_262 rfl ⟨Nat.le_refl _, Nat.le_refl _⟩ (q _ (by first | rw [if_pos (by omega)] | rw [if_neg (by omega)]))
      · simp only [if_neg c0] at hQ
        have q := hQ (zup N 180 10 0) ⟨fun k hk => by rw [zup_o k hk]; exact o1 k hk, fun j h1 h2 h3 h4 => by rw [zup_j h3]; exact o2 j h1 h2, by rw [zup_j (by decide)]; exact bb, by rw [zup_j (by decide)]; exact ba, zup_e, fun z => absurd z (by decide)⟩
        refine zr_aload_n (pc := 60) S dX12_next_60 rfl ?_
        refine zr_getI (pc := 61) S fX12_next_142 dX12_next_61 rfl (Nat.le_of_ble_eq_true rfl) rfl ?_
        rw [ba]
        refine zr_aload_n (pc := 64) S dX12_next_64 rfl ?_
        refine zr_getI (pc := 65) S fX12_next_139 dX12_next_65 rfl (Nat.le_of_ble_eq_true rfl) rfl ?_
        rw [bs]
        refine zr_icmp_lt (pc := 68) (tgt := 77) S dX12_next_68 (by decide) (fun c68 => absurd c68 (by omega)) (fun c68 => ?_)
        refine zr_aload_n (pc := 71) S dX12_next_71 rfl ?_
        refine zr_iconst (pc := 72) S dX12_next_72 (by unfold zrI; omega) ?_
        refine zr_putI (pc := 73) S pX12_next_148 dX12_next_73 rfl (Nat.le_of_ble_eq_true rfl) rfl ?_
        exact zr_vret (pc := 76) S dX12_next_76 rfl ⟨Nat.le_refl _, Nat.le_refl _⟩ (q)
    refine zr_aload_n (pc := 52) S dX12_next_52 rfl ?_
    refine zr_aload_n (pc := 53) S dX12_next_53 rfl ?_
    refine zr_getI (pc := 54) S fX12_next_142 dX12_next_54 rfl (Nat.le_of_ble_eq_true rfl) rfl ?_
    rw [ea]
    refine zr_putI (pc := 57) S pX12_next_145 dX12_next_57 rfl (Nat.le_of_ble_eq_true rfl) rfl ?_
    rw [hN]
    exact k60
  exact nx1 (E := E) (X := X) (Qp := Qp) (M := M) (n := n) (s := tS (M 184) n p) (u1 := none) S hn n4 k52 (n - p) p M (by omega) rfl ⟨fun _ _ => rfl, fun _ _ => rfl, hp⟩
end
