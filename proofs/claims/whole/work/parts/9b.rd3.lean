section
def sp_X4_advance (as : List zV) (M : zM) (Q : Option zV → zM → Prop) : Prop := ∃ (n p : Nat), as = [zR 39] ∧ (M 39 5 = n) ∧ (n ≤ 400) ∧ (M 39 8 = p) ∧ (p ≤ n) ∧ (∀ M', axM M M' n p → Q none M')
theorem us_X4_advance {n p : Nat} {M : zM} {Q : Option zV → zM → Prop} (hn : M 39 5 = n) (n4 : n ≤ 400) (hp : M 39 8 = p) (pn : p ≤ n) (hQ : ∀ M', axM M M' n p → Q none M') : sp_X4_advance [zR 39] M Q := ⟨n, p, rfl, hn, n4, hp, pn, hQ⟩
set_option maxRecDepth 20000 in
set_option maxHeartbeats 4000000 in
theorem m_X4_advance (l : Launch) : zC l yX4_advance wzX4_advance rmX4_advance sp_X4_advance := by
  refine zMet.of RX4 (by decide +kernel) rfl rfl ?_
  intro E X as M Qp hX S hsp
  obtain ⟨n, p, rfl, hn, n4, hp, pn, hQ⟩ := hsp
  refine ⟨Nat.le_of_ble_eq_true rfl, ?_⟩
  dsimp only [zpad, zargs]
  refine zr_rng (fun hM => ?_)
  have hb := byt hM
  have sr := run_r (P := isBl (cT M) n) pn
  have esS : run (isBl (cT M) n) n p = tS (cT M) n p := rfl
  rw [esS] at sr
  have k60 : ∀ U, rsM M U (tS (cT M) n p) → zK (zg E) rmX4_advance 1 (Qp, 0, 0) X (0, 0) 60 [some (zR 39)] [] U := by
    intro U hU
    have ea := hU.2.2
    unfold axM at hQ
    unfold tE tK at hQ
    generalize hS : tS (cT M) n p = s at *
    have o1 : ∀ k, k ≠ 39 → zup U 39 8 s k = M k := fun k hk => by rw [zup_o k hk]; exact hU.1 k hk
    have o2 : ∀ j, j ≠ 7 → j ≠ 8 → zup U 39 8 s 39 j = M 39 j := fun j h1 h2 => by rw [zup_j h2]; exact hU.2.1 j h1
    have bb : zup U 39 8 s 39 7 = s := by rw [zup_j (by decide)]; exact ea
    have ba : zup U 39 8 s 39 8 = s := zup_e
    generalize hN : zup U 39 8 s = N at *
    have bs : N 39 5 = n := by rw [o2 _ (by decide) (by decide)]; exact hn
    have bt : N 40 = M 40 := o1 _ (by decide)
    have bc : cT N = cT M := cT_o bt
    have e1 : (s : Int).toNat = s := Int.toNat_natCast s
    have k68 : zK (zg E) rmX4_advance 1 (Qp, 0, 0) X (0, 0) 68 [some (zR 39)] [] N := by
      by_cases c0 : s < n
      · simp only [if_pos c0] at hQ
        by_cases c1 : isLe (cT M) n s
        · simp only [if_pos c1] at hQ
          have bc1 : cT (zup N 39 6 1) = cT M := by rw [cT_o (zup_o _ (by decide))]; exact bc
          have l := ad2 (E := E) (X := X) (Qp := Qp) (M := zup N 39 6 1) (n := n) (s := run (isLe (cT M) n) n s) S (by rw [zup_j (by decide)]; exact bs) n4 (fun W hW => hQ W ⟨fun k hk => by rw [hW.1 k hk, zup_o k hk]; exact o1 k hk, fun j h1 h2 h3 h4 => by rw [hW.2.1 j h2, zup_j h3]; exact o2 j h1 h2, by rw [hW.2.1 _ (by decide), zup_j (by decide)]; exact bb, hW.2.2, by rw [hW.2.1 _ (by decide), zup_e], fun z => absurd z (by decide)⟩) (n - s) s (zup N 39 6 1) (by omega) (by rw [bc1]) ⟨fun _ _ => rfl, fun _ _ => rfl, by rw [zup_j (by decide)]; exact ba⟩
          have c2 := c1.2
          refine zr_aload_n (pc := 68) S dX4_advance_68 rfl ?_
          refine zr_getI (pc := 69) S fX4_advance_115 dX4_advance_69 rfl (Nat.le_of_ble_eq_true rfl) rfl ?_
          rw [bb]
          refine zr_aload_n (pc := 72) S dX4_advance_72 rfl ?_
          refine zr_getI (pc := 73) S fX4_advance_35 dX4_advance_73 rfl (Nat.le_of_ble_eq_true rfl) rfl ?_
          rw [bs]
          refine zr_icmp_lt (pc := 76) (tgt := 87) S dX4_advance_76 (by decide) (fun c76 => ?_) (fun c76 => absurd c76 (by omega))
          refine zr_aload_n (pc := 87) S dX4_advance_87 rfl ?_
          refine zr_aload_n (pc := 88) S dX4_advance_88 rfl ?_
          refine zr_getI (pc := 89) S fX4_advance_115 dX4_advance_89 rfl (Nat.le_of_ble_eq_true rfl) rfl ?_
          rw [bb]
          refine zr_invV (pc := 92) S [zI _] (m_X4_isLetter _) kX4_advance_127 dX4_advance_92 rfl (Nat.le_of_ble_eq_true rfl) rfl (Nat.le_of_ble_eq_true rfl) ⟨Nat.le_of_ble_eq_true rfl, Nat.le_of_ble_eq_true rfl⟩ (us_X4_isLetter (p := s) (by omega) ?_)
          dsimp only [zaft, Option.toList, List.cons_append, List.nil_append, Nat.add_zero]
          rw [bc, b01_t c2]
          refine zr_if_eq (pc := 95) (tgt := 138) S dX4_advance_95 (by decide) (fun c95 => absurd c95 (by omega)) (fun c95 => ?_)
          refine zr_aload_n (pc := 98) S dX4_advance_98 rfl ?_
          refine zr_iconst (pc := 99) S dX4_advance_99 (by unfold zrI; omega) ?_
          refine zr_putI (pc := 100) S pX4_advance_50 dX4_advance_100 rfl (Nat.le_of_ble_eq_true rfl) rfl ?_
          exact l
        · simp only [if_neg c1] at hQ
          have c1' : ¬ (97 ≤ cT M s ∧ cT M s ≤ 122) := fun z => c1 ⟨c0, z⟩
          by_cases c2 : isDi (cT M) n s
          · simp only [if_pos c2] at hQ
            have q := fun W (h : rkM N W n s) => hQ W ⟨fun k hk => by rw [h.1 k hk]; exact o1 k hk, fun j h1 h2 h3 h4 => by rw [h.2.1 j h2 h4 h3]; exact o2 j h1 h2, by rw [h.2.1 _ (by decide) (by decide) (by decide)]; exact bb, by rw [h.2.2.1, bc], by rw [h.2.2.2.1, bc], fun z => by
              have h5 := h.2.2.2.2
              rw [bc] at h5
              exact h5 (by split at z <;> omega)⟩
            have c3 := c2.2
            refine zr_aload_n (pc := 68) S dX4_advance_68 rfl ?_
            refine zr_getI (pc := 69) S fX4_advance_115 dX4_advance_69 rfl (Nat.le_of_ble_eq_true rfl) rfl ?_
            rw [bb]
            refine zr_aload_n (pc := 72) S dX4_advance_72 rfl ?_
            refine zr_getI (pc := 73) S fX4_advance_35 dX4_advance_73 rfl (Nat.le_of_ble_eq_true rfl) rfl ?_
            rw [bs]
            refine zr_icmp_lt (pc := 76) (tgt := 87) S dX4_advance_76 (by decide) (fun c76 => ?_) (fun c76 => absurd c76 (by omega))
            refine zr_aload_n (pc := 87) S dX4_advance_87 rfl ?_
            refine zr_aload_n (pc := 88) S dX4_advance_88 rfl ?_
            refine zr_getI (pc := 89) S fX4_advance_115 dX4_advance_89 rfl (Nat.le_of_ble_eq_true rfl) rfl ?_
            rw [bb]
            refine zr_invV (pc := 92) S [zI _] (m_X4_isLetter _) kX4_advance_127 dX4_advance_92 rfl (Nat.le_of_ble_eq_true rfl) rfl (Nat.le_of_ble_eq_true rfl) ⟨Nat.le_of_ble_eq_true rfl, Nat.le_of_ble_eq_true rfl⟩ (us_X4_isLetter (p := s) (by omega) ?_)
            dsimp only [zaft, Option.toList, List.cons_append, List.nil_append, Nat.add_zero]
            rw [bc, b01_f c1']
            refine zr_if_eq (pc := 95) (tgt := 138) S dX4_advance_95 (by decide) (fun c95 => ?_) (fun c95 => absurd c95 (by omega))
            refine zr_aload_n (pc := 138) S dX4_advance_138 rfl ?_
            refine zr_aload_n (pc := 139) S dX4_advance_139 rfl ?_
            refine zr_getI (pc := 140) S fX4_advance_115 dX4_advance_140 rfl (Nat.le_of_ble_eq_true rfl) rfl ?_
            rw [bb]
            refine zr_invV (pc := 143) S [zI _] (m_X4_isDigit _) kX4_advance_130 dX4_advance_143 rfl (Nat.le_of_ble_eq_true rfl) rfl (Nat.le_of_ble_eq_true rfl) ⟨Nat.le_of_ble_eq_true rfl, Nat.le_of_ble_eq_true rfl⟩ (us_X4_isDigit (p := s) (by omega) ?_)
            dsimp only [zaft, Option.toList, List.cons_append, List.nil_append, Nat.add_zero]
            rw [bc, b01_t c3]
            refine zr_if_eq (pc := 146) (tgt := 156) S dX4_advance_146 (by decide) (fun c146 => absurd c146 (by omega)) (fun c146 => ?_)
            refine zr_aload_n (pc := 149) S dX4_advance_149 rfl ?_
            refine zr_invV (pc := 150) S [] (m_X4_readNumber _) kX4_advance_133 dX4_advance_150 rfl (Nat.le_of_ble_eq_true rfl) rfl (Nat.le_of_ble_eq_true rfl) ⟨Nat.le_of_ble_eq_true rfl, Nat.le_of_ble_eq_true rfl⟩ (us_X4_readNumber bs n4 bb ba (by omega) ?_)
            dsimp only [zaft, Option.toList, List.cons_append, List.nil_append, Nat.add_zero]
            intro W hW
            refine zr_goto (pc := 153) (tgt := 189) S dX4_advance_153 (by decide) ?_
            exact zr_vret (pc := 189) S dX4_advance_189 rfl ⟨Nat.le_refl _, Nat.le_refl _⟩ (q W hW)
          · simp only [if_neg c2] at hQ
            have c2' : ¬ (48 ≤ cT M s ∧ cT M s ≤ 57) := fun z => c2 ⟨c0, z⟩
            have hbs := hb s
            have cs : (cT M s = 59) ↔ (M 40 s = 59) := by unfold cT; omega
            have q := fun (tk : Int) (h : tk = if cT M s = 59 then 3 else 4) => hQ (zup (zup N 39 6 tk) 39 8 ((s : Int) + 1)) ⟨fun k hk => by rw [zup_o k hk, zup_o k hk]; exact o1 k hk, fun j h1 h2 h3 h4 => by rw [zup_j h2, zup_j h3]; exact o2 j h1 h2, by rw [zup_j (by decide), zup_j (by decide)]; exact bb, by rw [zup_e]; omega, by rw [zup_j (by decide), zup_e]; exact h, fun z => by split at z <;> omega⟩
            have ba2 : ∀ tk : Int, zup N 39 6 tk 39 8 = s := fun tk => by rw [zup_j (by decide)]; exact ba
            refine zr_aload_n (pc := 68) S dX4_advance_68 rfl ?_
            refine zr_getI (pc := 69) S fX4_advance_115 dX4_advance_69 rfl (Nat.le_of_ble_eq_true rfl) rfl ?_
            rw [bb]
            refine zr_aload_n (pc := 72) S dX4_advance_72 rfl ?_
            refine zr_getI (pc := 73) S fX4_advance_35 dX4_advance_73 rfl (Nat.le_of_ble_eq_true rfl) rfl ?_
            rw [bs]
            refine zr_icmp_lt (pc := 76) (tgt := 87) S dX4_advance_76 (by decide) (fun c76 => ?_) (fun c76 => absurd c76 (by omega))
            refine zr_aload_n (pc := 87) S dX4_advance_87 rfl ?_
            refine zr_aload_n (pc := 88) S dX4_advance_88 rfl ?_
            refine zr_getI (pc := 89) S fX4_advance_115 dX4_advance_89 rfl (Nat.le_of_ble_eq_true rfl) rfl ?_
            rw [bb]
            refine zr_invV (pc := 92) S [zI _] (m_X4_isLetter _) kX4_advance_127 dX4_advance_92 rfl (Nat.le_of_ble_eq_true rfl) rfl (Nat.le_of_ble_eq_true rfl) ⟨Nat.le_of_ble_eq_true rfl, Nat.le_of_ble_eq_true rfl⟩ (us_X4_isLetter (p := s) (by omega) ?_)
            dsimp only [zaft, Option.toList, List.cons_append, List.nil_append, Nat.add_zero]
            rw [bc, b01_f c1']
            refine zr_if_eq (pc := 95) (tgt := 138) S dX4_advance_95 (by decide) (fun c95 => ?_) (fun c95 => absurd c95 (by omega))
            refine zr_aload_n (pc := 138) S dX4_advance_138 rfl ?_
            refine zr_aload_n (pc := 139) S dX4_advance_139 rfl ?_
            refine zr_getI (pc := 140) S fX4_advance_115 dX4_advance_140 rfl (Nat.le_of_ble_eq_true rfl) rfl ?_
            rw [bb]
            refine zr_invV (pc := 143) S [zI _] (m_X4_isDigit _) kX4_advance_130 dX4_advance_143 rfl (Nat.le_of_ble_eq_true rfl) rfl (Nat.le_of_ble_eq_true rfl) ⟨Nat.le_of_ble_eq_true rfl, Nat.le_of_ble_eq_true rfl⟩ (us_X4_isDigit (p := s) (by omega) ?_)
            dsimp only [zaft, Option.toList, List.cons_append, List.nil_append, Nat.add_zero]
            rw [bc, b01_f c2']
            refine zr_if_eq (pc := 146) (tgt := 156) S dX4_advance_146 (by decide) (fun c146 => ?_) (fun c146 => absurd c146 (by omega))
            refine zr_aload_n (pc := 156) S dX4_advance_156 rfl ?_
            refine zr_aload_n (pc := 157) S dX4_advance_157 rfl ?_
            refine zr_getR (pc := 158) S fX4_advance_9 dX4_advance_158 rfl (Nat.le_of_ble_eq_true rfl) rfl ?_
            refine zr_aload_n (pc := 161) S dX4_advance_161 rfl ?_
            refine zr_getI (pc := 162) S fX4_advance_115 dX4_advance_162 rfl (Nat.le_of_ble_eq_true rfl) rfl ?_
            rw [bb]
            refine zr_baload (pc := 165) S dX4_advance_165 rfl (Nat.le_of_ble_eq_true rfl) (by omega) (by omega) ?_
            rw [bt, e1]
            refine zr_bipush (pc := 166) S dX4_advance_166 ⟨by unfold zrI; omega, by decide⟩ ?_
            refine zr_icmp_ne (pc := 168) (tgt := 175) S dX4_advance_168 (by decide) (fun c168 => ?_) (fun c168 => ?_)
            · refine zr_iconst (pc := 175) S dX4_advance_175 (by unfold zrI; omega) ?_
              refine zr_putI (pc := 176) S pX4_advance_50 dX4_advance_176 rfl (Nat.le_of_ble_eq_true rfl) rfl ?_
              refine zr_aload_n (pc := 179) S dX4_advance_179 rfl ?_
              refine zr_dup (pc := 180) S dX4_advance_180 rfl ?_
              refine zr_getI (pc := 181) S fX4_advance_38 dX4_advance_181 rfl (Nat.le_of_ble_eq_true rfl) rfl ?_
              try simp only [zup_k, zup_e, ne_eq, Nat.reduceEqDiff, not_false_eq_true, zup_j]
              first | rw [ba2] | rw [ba]
              refine zr_iconst (pc := 184) S dX4_advance_184 (by unfold zrI; omega) ?_
              refine zr_iadd (pc := 185) S dX4_advance_185 (by unfold zrI; omega) ?_
              refine zr_putI (pc := 186) S pX4_advance_38 dX4_advance_186 rfl (Nat.le_of_ble_eq_true rfl) rfl ?_
              exact zr_vret (pc := 189) S dX4_advance_189 rfl ⟨Nat.le_refl _, Nat.le_refl _⟩ (q _ (by first | rw [if_pos (cs.mpr (by omega))] | rw [if_neg (fun z => absurd (cs.mp z) (by omega))]))
            · refine zr_iconst (pc := 171) S dX4_advance_171 (by unfold zrI; omega) ?_
              refine zr_goto (pc := 172) (tgt := 176) S dX4_advance_172 (by decide) ?_
              refine zr_putI (pc := 176) S pX4_advance_50 dX4_advance_176 rfl (Nat.le_of_ble_eq_true rfl) rfl ?_
              refine zr_aload_n (pc := 179) S dX4_advance_179 rfl ?_
              refine zr_dup (pc := 180) S dX4_advance_180 rfl ?_
              refine zr_getI (pc := 181) S fX4_advance_38 dX4_advance_181 rfl (Nat.le_of_ble_eq_true rfl) rfl ?_
              try simp only [zup_k, zup_e, ne_eq, Nat.reduceEqDiff, not_false_eq_true, zup_j]
              first | rw [ba2] | rw [ba]
              refine zr_iconst (pc := 184) S dX4_advance_184 (by unfold zrI; omega) ?_
              refine zr_iadd (pc := 185) S dX4_advance_185 (by unfold zrI; omega) ?_
              refine zr_putI (pc := 186) S pX4_advance_38 dX4_advance_186 rfl (Nat.le_of_ble_eq_true rfl) rfl ?_
              exact zr_vret (pc := 189) S dX4_advance_189 rfl ⟨Nat.le_refl _, Nat.le_refl _⟩ (q _ (by first | rw [if_pos (cs.mpr (by omega))] | rw [if_neg (fun z => absurd (cs.mp z) (by omega))]))
      · simp only [if_neg c0] at hQ
        have q := hQ (zup N 39 6 0) ⟨fun k hk => by rw [zup_o k hk]; exact o1 k hk, fun j h1 h2 h3 h4 => by rw [zup_j h3]; exact o2 j h1 h2, by rw [zup_j (by decide)]; exact bb, by rw [zup_j (by decide)]; exact ba, zup_e, fun z => absurd z (by decide)⟩
        refine zr_aload_n (pc := 68) S dX4_advance_68 rfl ?_
        refine zr_getI (pc := 69) S fX4_advance_115 dX4_advance_69 rfl (Nat.le_of_ble_eq_true rfl) rfl ?_
        rw [bb]
        refine zr_aload_n (pc := 72) S dX4_advance_72 rfl ?_
        refine zr_getI (pc := 73) S fX4_advance_35 dX4_advance_73 rfl (Nat.le_of_ble_eq_true rfl) rfl ?_
        rw [bs]
        refine zr_icmp_lt (pc := 76) (tgt := 87) S dX4_advance_76 (by decide) (fun c76 => absurd c76 (by omega)) (fun c76 => ?_)
        refine zr_aload_n (pc := 79) S dX4_advance_79 rfl ?_
        refine zr_iconst (pc := 80) S dX4_advance_80 (by unfold zrI; omega) ?_
        refine zr_putI (pc := 81) S pX4_advance_50 dX4_advance_81 rfl (Nat.le_of_ble_eq_true rfl) rfl ?_
        refine zr_goto (pc := 84) (tgt := 189) S dX4_advance_84 (by decide) ?_
        exact zr_vret (pc := 189) S dX4_advance_189 rfl ⟨Nat.le_refl _, Nat.le_refl _⟩ (q)
    refine zr_aload_n (pc := 60) S dX4_advance_60 rfl ?_
    refine zr_aload_n (pc := 61) S dX4_advance_61 rfl ?_
    refine zr_getI (pc := 62) S fX4_advance_115 dX4_advance_62 rfl (Nat.le_of_ble_eq_true rfl) rfl ?_
    rw [ea]
    refine zr_putI (pc := 65) S pX4_advance_38 dX4_advance_65 rfl (Nat.le_of_ble_eq_true rfl) rfl ?_
    rw [hN]
    exact k68
  have c0 : cT (zup M 39 7 p) = cT M := cT_o (zup_o _ (by decide))
  have e2 : ∀ U, rsM (zup M 39 7 p) U (tS (cT M) n p) → rsM M U (tS (cT M) n p) := fun U h => ⟨fun k hk => by rw [h.1 k hk, zup_o k hk], fun j hj => by rw [h.2.1 j hj, zup_j hj], h.2.2⟩
  have l := ad1 (E := E) (X := X) (Qp := Qp) (M := zup M 39 7 p) (n := n) (s := tS (cT M) n p) S (by rw [zup_j (by decide)]; exact hn) n4 (fun q => by rw [zup_o _ (by decide)]; exact hb q) (fun U hU => k60 U (e2 U hU)) (n - p) p (zup M 39 7 p) (by omega) (by rw [c0]; rfl) ⟨fun _ _ => rfl, fun _ _ => rfl, zup_e⟩
  refine zr_aload_n (pc := 0) S dX4_advance_0 rfl ?_
  refine zr_aload_n (pc := 1) S dX4_advance_1 rfl ?_
  refine zr_getI (pc := 2) S fX4_advance_38 dX4_advance_2 rfl (Nat.le_of_ble_eq_true rfl) rfl ?_
  rw [hp]
  refine zr_putI (pc := 5) S pX4_advance_115 dX4_advance_5 rfl (Nat.le_of_ble_eq_true rfl) rfl ?_
  exact l
theorem rw1 {E : zE} {X : zX} {Qp : Option zV → zM → Prop} {M : zM} {i s : Nat} (S : zS (zg E) X cX4_isWord 3 wzX4_isWord RX4 (some .boolean)) (hk : i < 10) (hb : ∀ p, -128 ≤ M 40 p ∧ M 40 p < 128) (hs : M 39 7 = s) (h4 : s + zSl.getD i 0 ≤ 400) (hQ : ∀ v : Int, ((v = 0 ∧ ¬ ∀ k, k < zSl.getD i 0 → cT M (s + k) = zch i k) ∨ (v = 1 ∧ ∀ k, k < zSl.getD i 0 → cT M (s + k) = zch i k)) → Qp (some (zI v)) M) : ∀ (r j : Nat), r + j = zSl.getD i 0 → (∀ k, k < j → cT M (s + k) = zch i k) → zK (zg E) rmX4_isWord 3 (Qp, 0, 0) X (0, 0) 28 [some (zR 39), some (zR (1000 + i)), some (zI j)] [] M := by
  have z6 := zSl_r i
  intro r
  induction r with
  | zero =>
    intro j hj hy
    have q := hQ 1 (Or.inr ⟨rfl, by rw [← hj, Nat.zero_add]; exact hy⟩)
    refine zr_iload_n (pc := 28) S dX4_isWord_28 rfl ?_
    refine zr_aload_n (pc := 29) S dX4_isWord_29 rfl ?_
    refine zr_invStr (pc := 30) S [] hk (m_J0_length_8abf5 _) kX4_isWord_118 dX4_isWord_30 (Nat.le_of_ble_eq_true rfl) ⟨Nat.le_of_ble_eq_true rfl, Nat.le_of_ble_eq_true rfl⟩ (⟨_, rfl, hk, ?_⟩)
    dsimp only [zaft, Option.toList, List.cons_append, List.nil_append, Nat.add_zero]
    refine zr_icmp_ge (pc := 33) (tgt := 63) S dX4_isWord_33 (by decide) (fun c33 => ?_) (fun c33 => absurd c33 (by omega))
    refine zr_iconst (pc := 63) S dX4_isWord_63 (by unfold zrI; omega) ?_
    exact zr_zret (pc := 64) S dX4_isWord_64 rfl (by first | omega | exact b01_r) ⟨Nat.le_refl _, Nat.le_refl _⟩ (q)
  | succ r ih =>
    intro j hj hy
    have ix : ((s : Int) + (j : Int)).toNat = s + j := by omega
    have zr := zch_r i j
    have hbp := hb (s + j)
    have ce : cT M (s + j) = M 40 (s + j) % 256 := rfl
    by_cases c : cT M (s + j) = zch i j
    · have l := ih (j + 1) (by omega) (fun k hk => by
        by_cases e : k = j
        · rw [e]; exact c
        · exact hy k (by omega))
      rw [Int.natCast_add, Int.natCast_one] at l
      refine zr_iload_n (pc := 28) S dX4_isWord_28 rfl ?_
      refine zr_aload_n (pc := 29) S dX4_isWord_29 rfl ?_
      refine zr_invStr (pc := 30) S [] hk (m_J0_length_8abf5 _) kX4_isWord_118 dX4_isWord_30 (Nat.le_of_ble_eq_true rfl) ⟨Nat.le_of_ble_eq_true rfl, Nat.le_of_ble_eq_true rfl⟩ (⟨_, rfl, hk, ?_⟩)
      dsimp only [zaft, Option.toList, List.cons_append, List.nil_append, Nat.add_zero]
      refine zr_icmp_ge (pc := 33) (tgt := 63) S dX4_isWord_33 (by decide) (fun c33 => absurd c33 (by omega)) (fun c33 => ?_)
      refine zr_aload_n (pc := 36) S dX4_isWord_36 rfl ?_
      refine zr_getR (pc := 37) S fX4_isWord_9 dX4_isWord_37 rfl (Nat.le_of_ble_eq_true rfl) rfl ?_
      refine zr_aload_n (pc := 40) S dX4_isWord_40 rfl ?_
      refine zr_getI (pc := 41) S fX4_isWord_115 dX4_isWord_41 rfl (Nat.le_of_ble_eq_true rfl) rfl ?_
      rw [hs]
      refine zr_iload_n (pc := 44) S dX4_isWord_44 rfl ?_
      refine zr_iadd (pc := 45) S dX4_isWord_45 (by unfold zrI; omega) ?_
      refine zr_baload (pc := 46) S dX4_isWord_46 rfl (Nat.le_of_ble_eq_true rfl) (by omega) (by omega) ?_
      rw [ix]
      refine zr_aload_n (pc := 47) S dX4_isWord_47 rfl ?_
      refine zr_iload_n (pc := 48) S dX4_isWord_48 rfl ?_
      refine zr_invStr (pc := 49) S [zI _] hk (m_J0_charAt_5068e _) kX4_isWord_123 dX4_isWord_49 (Nat.le_of_ble_eq_true rfl) ⟨Nat.le_of_ble_eq_true rfl, Nat.le_of_ble_eq_true rfl⟩ (⟨_, _, rfl, hk, by omega, by omega, ?_⟩)
      dsimp only [zaft, Option.toList, List.cons_append, List.nil_append, Nat.add_zero]
      refine zr_icmp_eq (pc := 52) (tgt := 57) S dX4_isWord_52 (by decide) (fun c52 => ?_) (fun c52 => absurd c52 (by omega))
      refine zr_iinc (pc := 57) S dX4_isWord_57 rfl (by unfold zrI; omega) (by decide) ?_
      dsimp only [zst1, zst2, zset, zget, zlong]
      refine zr_goto (pc := 60) (tgt := 28) S dX4_isWord_60 (by decide) ?_
      exact l
    · have q := hQ 0 (Or.inl ⟨rfl, fun z => c (z j (by omega))⟩)
      refine zr_iload_n (pc := 28) S dX4_isWord_28 rfl ?_
      refine zr_aload_n (pc := 29) S dX4_isWord_29 rfl ?_
      refine zr_invStr (pc := 30) S [] hk (m_J0_length_8abf5 _) kX4_isWord_118 dX4_isWord_30 (Nat.le_of_ble_eq_true rfl) ⟨Nat.le_of_ble_eq_true rfl, Nat.le_of_ble_eq_true rfl⟩ (⟨_, rfl, hk, ?_⟩)
      dsimp only [zaft, Option.toList, List.cons_append, List.nil_append, Nat.add_zero]
      refine zr_icmp_ge (pc := 33) (tgt := 63) S dX4_isWord_33 (by decide) (fun c33 => absurd c33 (by omega)) (fun c33 => ?_)
      refine zr_aload_n (pc := 36) S dX4_isWord_36 rfl ?_
      refine zr_getR (pc := 37) S fX4_isWord_9 dX4_isWord_37 rfl (Nat.le_of_ble_eq_true rfl) rfl ?_
      refine zr_aload_n (pc := 40) S dX4_isWord_40 rfl ?_
      refine zr_getI (pc := 41) S fX4_isWord_115 dX4_isWord_41 rfl (Nat.le_of_ble_eq_true rfl) rfl ?_
      rw [hs]
      refine zr_iload_n (pc := 44) S dX4_isWord_44 rfl ?_
      refine zr_iadd (pc := 45) S dX4_isWord_45 (by unfold zrI; omega) ?_
      refine zr_baload (pc := 46) S dX4_isWord_46 rfl (Nat.le_of_ble_eq_true rfl) (by omega) (by omega) ?_
      rw [ix]
      refine zr_aload_n (pc := 47) S dX4_isWord_47 rfl ?_
      refine zr_iload_n (pc := 48) S dX4_isWord_48 rfl ?_
      refine zr_invStr (pc := 49) S [zI _] hk (m_J0_charAt_5068e _) kX4_isWord_123 dX4_isWord_49 (Nat.le_of_ble_eq_true rfl) ⟨Nat.le_of_ble_eq_true rfl, Nat.le_of_ble_eq_true rfl⟩ (⟨_, _, rfl, hk, by omega, by omega, ?_⟩)
      dsimp only [zaft, Option.toList, List.cons_append, List.nil_append, Nat.add_zero]
      refine zr_icmp_eq (pc := 52) (tgt := 57) S dX4_isWord_52 (by decide) (fun c52 => absurd c52 (by omega)) (fun c52 => ?_)
      refine zr_iconst (pc := 55) S dX4_isWord_55 (by unfold zrI; omega) ?_
      exact zr_zret (pc := 56) S dX4_isWord_56 rfl (by first | omega | exact b01_r) ⟨Nat.le_refl _, Nat.le_refl _⟩ (q)
def sp_X4_isWord (as : List zV) (M : zM) (Q : Option zV → zM → Prop) : Prop := ∃ (i s e : Nat), as = [zR 39, zR (1000 + i)] ∧ (i < 10) ∧ (M 39 7 = s) ∧ (M 39 8 = e) ∧ (s ≤ e ∧ e ≤ 400) ∧ (Q (some (zI (b01 (M 39 6 = 1 ∧ isW (cT M) s e i)))) M)
theorem us_X4_isWord {i s e : Nat} {M : zM} {Q : Option zV → zM → Prop} (hk : i < 10) (hs : M 39 7 = s) (he : M 39 8 = e) (hse : s ≤ e ∧ e ≤ 400) (hQ : Q (some (zI (b01 (M 39 6 = 1 ∧ isW (cT M) s e i)))) M) : sp_X4_isWord [zR 39, zR (1000 + i)] M Q := ⟨i, s, e, rfl, hk, hs, he, hse, hQ⟩
set_option maxRecDepth 20000 in
set_option maxHeartbeats 4000000 in
theorem m_X4_isWord (l : Launch) : zC l yX4_isWord wzX4_isWord rmX4_isWord sp_X4_isWord := by
  refine zMet.of RX4 (by decide +kernel) rfl rfl ?_
  intro E X as M Qp hX S hsp
  obtain ⟨i, s, e, rfl, hk, hs, he, hse, hQ⟩ := hsp
  refine ⟨Nat.le_of_ble_eq_true rfl, ?_⟩
  dsimp only [zpad, zargs]
  refine zr_rng (fun hM => ?_)
  have z6 := zSl_r i
  have l : (M 39 6 = 1 ∧ e - s = zSl.getD i 0) → zK (zg E) rmX4_isWord 3 (Qp, 0, 0) X (0, 0) 28 [some (zR 39), some (zR (1000 + i)), some (zI 0)] [] M := by
    intro z
    exact rw1 S hk (byt hM) hs (by omega) (fun v hv => by
      rcases hv with ⟨rfl, h⟩ | ⟨rfl, h⟩
      · rw [b01_f (fun y => h y.2.2)] at hQ; exact hQ
      · rw [b01_t ⟨z.1, z.2, h⟩] at hQ; exact hQ) (zSl.getD i 0) 0 (by omega) (fun k hk => absurd hk (by omega))
  have q0 : ¬ (M 39 6 = 1 ∧ e - s = zSl.getD i 0) → Qp (some (zI 0)) M := fun z => by
    rw [b01_f (fun y => z ⟨y.1, y.2.1⟩)] at hQ; exact hQ
  refine zr_aload_n (pc := 0) S dX4_isWord_0 rfl ?_
  refine zr_getI (pc := 1) S fX4_isWord_50 dX4_isWord_1 rfl (Nat.le_of_ble_eq_true rfl) rfl ?_
  refine zr_iconst (pc := 4) S dX4_isWord_4 (by unfold zrI; omega) ?_
  refine zr_icmp_ne (pc := 5) (tgt := 24) S dX4_isWord_5 (by decide) (fun c5 => ?_) (fun c5 => ?_)
  · refine zr_iconst (pc := 24) S dX4_isWord_24 (by unfold zrI; omega) ?_
    exact zr_zret (pc := 25) S dX4_isWord_25 rfl (by first | omega | exact b01_r) ⟨Nat.le_refl _, Nat.le_refl _⟩ (q0 (by omega))
  · refine zr_aload_n (pc := 8) S dX4_isWord_8 rfl ?_
    refine zr_getI (pc := 9) S fX4_isWord_38 dX4_isWord_9 rfl (Nat.le_of_ble_eq_true rfl) rfl ?_
    rw [he]
    refine zr_aload_n (pc := 12) S dX4_isWord_12 rfl ?_
    refine zr_getI (pc := 13) S fX4_isWord_115 dX4_isWord_13 rfl (Nat.le_of_ble_eq_true rfl) rfl ?_
    rw [hs]
    refine zr_isub (pc := 16) S dX4_isWord_16 (by unfold zrI; omega) ?_
    refine zr_aload_n (pc := 17) S dX4_isWord_17 rfl ?_
    refine zr_invStr (pc := 18) S [] hk (m_J0_length_8abf5 _) kX4_isWord_118 dX4_isWord_18 (Nat.le_of_ble_eq_true rfl) ⟨Nat.le_of_ble_eq_true rfl, Nat.le_of_ble_eq_true rfl⟩ (⟨_, rfl, hk, ?_⟩)
    dsimp only [zaft, Option.toList, List.cons_append, List.nil_append, Nat.add_zero]
    refine zr_icmp_eq (pc := 21) (tgt := 26) S dX4_isWord_21 (by decide) (fun c21 => ?_) (fun c21 => ?_)
    · refine zr_iconst (pc := 26) S dX4_isWord_26 (by unfold zrI; omega) ?_
      refine zr_istore_n (pc := 27) S 2 dX4_isWord_27 rfl (by decide) ?_
      dsimp only [zst1, zst2, zset, zget, zlong]
      exact l (by omega)
    · refine zr_iconst (pc := 24) S dX4_isWord_24 (by unfold zrI; omega) ?_
      exact zr_zret (pc := 25) S dX4_isWord_25 rfl (by first | omega | exact b01_r) ⟨Nat.le_refl _, Nat.le_refl _⟩ (q0 (by omega))
end
