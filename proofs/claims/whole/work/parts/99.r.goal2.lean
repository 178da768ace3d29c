section
theorem tV_r {t : Nat → Int} {n p : Nat} (h : tK t n p = 2) : 0 ≤ tV t (tS t n p) (tE t n p) ∧ tV t (tS t n p) (tE t n p) ≤ 99 := by
  unfold tK at h
  unfold tE
  split at h
  · rename_i c0
    rw [if_pos c0]
    split at h
    · exact absurd h (by decide)
    · rename_i c1
      rw [if_neg c1]
      split at h
      · rename_i c2
        rw [if_pos c2]
        split at h
        · exact absurd h (by decide)
        · have a := run_r (P := isDi t n) (n := n) (p := tS t n p + 1) (by omega)
          have e := run_t (P := isDi t n) c2 c0
          have d0 := c2.2
          unfold tV
          rw [if_neg (by omega)]
          by_cases c4 : run (isDi t n) n (tS t n p) - tS t n p = 1
          · rw [if_pos c4]; omega
          · rw [if_neg c4]
            have d1 := (runP_all (P := isDi t n) (n - tS t n p) (tS t n p) (tS t n p + 1) (by omega) (show tS t n p + 1 < run (isDi t n) n (tS t n p) by omega)).2
            omega
      · split at h <;> exact absurd h (by decide)
  · exact absurd h (by decide)
def sp_X12_readGoal (as : List zV) (M : zM) (Q : Option zV → zM → Prop) : Prop := ∃ (w n p : Nat), as = [zR 180, zI w] ∧ (curT M n p) ∧ (w + 1 < 56) ∧ (∀ f, pGoal (M 184) n p = .inl f → ∀ M', rdO M M' → flt M' f → rdS M' n → Q none M') ∧ (∀ g v p', pGoal (M 184) n p = .inr ((g, v), p') → ∀ M', rdO M M' → curT M' n p' → M' 185 w = g → M' 185 (w + 1) = v → (∀ j, j ≠ w → j ≠ w + 1 → M' 185 j = M 185 j) → Q none M')
theorem us_X12_readGoal {w n p : Nat} {M : zM} {Q : Option zV → zM → Prop} (hc : curT M n p) (hw : w + 1 < 56) (hF : ∀ f, pGoal (M 184) n p = .inl f → ∀ M', rdO M M' → flt M' f → rdS M' n → Q none M') (hY : ∀ g v p', pGoal (M 184) n p = .inr ((g, v), p') → ∀ M', rdO M M' → curT M' n p' → M' 185 w = g → M' 185 (w + 1) = v → (∀ j, j ≠ w → j ≠ w + 1 → M' 185 j = M 185 j) → Q none M') : sp_X12_readGoal [zR 180, zI w] M Q := ⟨w, n, p, rfl, hc, hw, hF, hY⟩
set_option maxRecDepth 20000 in
set_option maxHeartbeats 4000000 in
theorem m_X12_readGoal (l : Launch) : zC l yX12_readGoal wzX12_readGoal rmX12_readGoal sp_X12_readGoal := by
  refine zMet.of RX12 (by decide +kernel) rfl rfl ?_
  intro E X as M Qp hX S hsp
  obtain ⟨w, n, p, rfl, hc, hw, hF, hY⟩ := hsp
  refine ⟨Nat.le_of_ble_eq_true rfl, ?_⟩
  dsimp only [zpad, zargs]
  have hc0 := hc
  obtain ⟨h1, h2, h3, h4, h5, h6, h7, h8⟩ := hc0
  have r := tE_r (t := M 184) h3
  have ew : (w : Int).toNat = w := Int.toNat_natCast w
  have ew1 : ((w : Int) + 1).toNat = w + 1 := by omega
  have up : ∀ (N : zM) (c d : Int), rdO N (zup (zup N 185 w c) 185 (w + 1) d) := fun N c d => ⟨fun k _ k2 => by rw [zup_o k k2, zup_o k k2], fun j _ _ _ _ _ _ => by rw [zup_o _ (by decide), zup_o _ (by decide)]⟩
  have cu : ∀ (N : zM) (q : Nat) (c d : Int), curT N n q → curT (zup (zup N 185 w c) 185 (w + 1) d) n q := fun N q c d h => by
    unfold curT
    rw [zup_o 180 (by decide), zup_o 180 (by decide), zup_o 184 (by decide), zup_o 184 (by decide)]
    exact h
  -- after a goal without a number
  have k65 : ∀ c : Int, ¬ c = 2 → pGoal (M 184) n p = .inr ((c, 0), tE (M 184) n p) → zK (zg E) rmX12_readGoal 3 (Qp, 0, 0) X (0, 0) 65 [some (zR 180), some (zI w), some (zI c)] [] M := by
    intro c c2 hp
    have q := fun N (h : nxM M N n (tE (M 184) n p)) => hY c 0 _ hp (zup (zup N 185 w c) 185 (w + 1) 0) (h.o.tr (up N c 0)) (cu N _ c 0 (hc.nx h)) (by rw [zup_j (by omega), zup_e]) zup_e (fun j j1 j2 => by rw [zup_j j2, zup_j j1, h.1 _ (by decide)])
    refine zr_aload_n (pc := 65) S dX12_readGoal_65 rfl ?_
    refine zr_invV (pc := 66) S [] (m_X12_next _) kX12_readGoal_187 dX12_readGoal_66 rfl (Nat.le_of_ble_eq_true rfl) rfl (Nat.le_of_ble_eq_true rfl) ⟨Nat.le_of_ble_eq_true rfl, Nat.le_of_ble_eq_true rfl⟩ (us_X12_next h1 h2 h5 r.2.1 ?_)
    dsimp only [zaft, Option.toList, List.cons_append, List.nil_append, Nat.add_zero]
    intro N hN
    refine zr_aload_n (pc := 69) S dX12_readGoal_69 rfl ?_
    refine zr_getR (pc := 70) S fX12_readGoal_23 dX12_readGoal_70 rfl (Nat.le_of_ble_eq_true rfl) rfl ?_
    refine zr_iload_n (pc := 73) S dX12_readGoal_73 rfl ?_
    refine zr_iload_n (pc := 74) S dX12_readGoal_74 rfl ?_
    refine zr_iastore (pc := 75) S dX12_readGoal_75 rfl (Nat.le_of_ble_eq_true rfl) (by omega) (by omega) ?_
    rw [ew]
    refine zr_aload_n (pc := 76) S dX12_readGoal_76 rfl ?_
    refine zr_getR (pc := 77) S fX12_readGoal_23 dX12_readGoal_77 rfl (Nat.le_of_ble_eq_true rfl) rfl ?_
    try simp only [zup_k, zup_e, ne_eq, Nat.reduceEqDiff, not_false_eq_true, zup_j]
    refine zr_iload_n (pc := 80) S dX12_readGoal_80 rfl ?_
    refine zr_iconst (pc := 81) S dX12_readGoal_81 (by unfold zrI; omega) ?_
    refine zr_iadd (pc := 82) S dX12_readGoal_82 (by unfold zrI; omega) ?_
    refine zr_iload_n (pc := 83) S dX12_readGoal_83 rfl ?_
    refine zr_iconst (pc := 84) S dX12_readGoal_84 (by unfold zrI; omega) ?_
    refine zr_icmp_ne (pc := 85) (tgt := 99) S dX12_readGoal_85 (by decide) (fun c85 => ?_) (fun c85 => absurd c85 (by omega))
    refine zr_iconst (pc := 99) S dX12_readGoal_99 (by unfold zrI; omega) ?_
    refine zr_iastore (pc := 100) S dX12_readGoal_100 rfl (Nat.le_of_ble_eq_true rfl) (by omega) (by omega) ?_
    rw [ew1]
    exact zr_vret (pc := 101) S dX12_readGoal_101 rfl ⟨Nat.le_refl _, Nat.le_refl _⟩ (q N hN)
  -- take
  have kT : (pGoal (M 184) n p = (if tK (M 184) n (tE (M 184) n p) = 2 then (if tV (M 184) (tS (M 184) n (tE (M 184) n p)) (tE (M 184) n (tE (M 184) n p)) ≤ 7 then .inr ((2, tV (M 184) (tS (M 184) n (tE (M 184) n p)) (tE (M 184) n (tE (M 184) n p))), tE (M 184) n (tE (M 184) n p)) else .inl (blP (M 184) n (tE (M 184) n p) 3)) else .inl (blP (M 184) n (tE (M 184) n p) 2))) → zK (zg E) rmX12_readGoal 3 (Qp, 0, 0) X (0, 0) 65 [some (zR 180), some (zI w), some (zI 2)] [] M := by
    intro hp
    have kk : ∀ N, nxM M N n (tE (M 184) n p) → zK (zg E) rmX12_readGoal 3 (Qp, 0, 0) X (0, 0) 69 [some (zR 180), some (zI w), some (zI 2)] [] N := by
      intro N hN
      have cN := hc.nx hN
      have tN : N 184 = M 184 := hN.1 _ (by decide)
      have fN : N 185 = M 185 := hN.1 _ (by decide)
      have o1 : rdO N (zup N 185 w 2) := ⟨fun k _ k2 => zup_o k k2, fun j _ _ _ _ _ _ => by rw [zup_o _ (by decide)]⟩
      have c1 : curT (zup N 185 w 2) n (tE (M 184) n p) := by
        unfold curT
        rw [zup_o 180 (by decide), zup_o 184 (by decide)]
        exact cN
      have t1 : zup N 185 w 2 184 = M 184 := by rw [zup_o _ (by decide)]; exact tN
      have f1 : ∀ j, j ≠ w → zup N 185 w 2 185 j = M 185 j := fun j hj => by rw [zup_j hj, fN]
      have fw : zup N 185 w 2 185 w = 2 := zup_e
      generalize hU : zup N 185 w 2 = U at *
      have cU := c1
      obtain ⟨u1, u2, u3, u4, u5, u6, u7, u8⟩ := c1
      rw [t1] at u4 u5 u6 u7
      have r2 := tE_r (t := M 184) u3
      have oU : rdO M U := hN.o.tr o1
      have oV : ∀ (W : zM) (v : Int), rdO U W → rdO M (zup W 185 (w + 1) v) := fun W v h => oU.tr (h.tr ⟨fun k _ k2 => zup_o k k2, fun j _ _ _ _ _ _ => by rw [zup_o _ (by decide)]⟩)
      have fV : ∀ (W : zM) (v : Int) f, flt W f → flt (zup W 185 (w + 1) v) f := fun W v f h => by
        unfold flt
        rw [zup_o 180 (by decide)]
        exact h
      have rV : ∀ (W : zM) (v : Int), rdS W n → rdS (zup W 185 (w + 1) v) n := fun W v h => by
        unfold rdS
        rw [zup_o 180 (by decide)]
        exact h
      have hbl := fun k => cU.bl k
      rw [t1] at hbl
      by_cases tk : tK (M 184) n (tE (M 184) n p) = 2
      · have vr := tV_r tk
        have ev := u7 tk
        rw [tk] at u6
        rw [if_pos tk] at hp
        by_cases v7 : tV (M 184) (tS (M 184) n (tE (M 184) n p)) (tE (M 184) n (tE (M 184) n p)) ≤ 7
        · rw [if_pos v7] at hp
          have q := fun W (h : nxM U W n (tE (M 184) n (tE (M 184) n p))) => hY 2 _ _ hp (zup W 185 (w + 1) (U 180 11)) (oV W _ h.o) (by
            have := cU.nx (by rw [t1]; exact h)
            rw [t1] at this
            unfold curT
            rw [zup_o 180 (by decide), zup_o 184 (by decide)]
            exact this) (by rw [zup_j (by omega), h.1 _ (by decide)]; exact fw) (by rw [zup_e]; exact ev) (fun j j1 j2 => by rw [zup_j j2, h.1 _ (by decide)]; exact f1 j j1)
          refine zr_aload_n (pc := 69) S dX12_readGoal_69 rfl ?_
          refine zr_getR (pc := 70) S fX12_readGoal_23 dX12_readGoal_70 rfl (Nat.le_of_ble_eq_true rfl) rfl ?_
          refine zr_iload_n (pc := 73) S dX12_readGoal_73 rfl ?_
          refine zr_iload_n (pc := 74) S dX12_readGoal_74 rfl ?_
          refine zr_iastore (pc := 75) S dX12_readGoal_75 rfl (Nat.le_of_ble_eq_true rfl) (by omega) (by omega) ?_
          rw [ew, hU]
          refine zr_aload_n (pc := 76) S dX12_readGoal_76 rfl ?_
          refine zr_getR (pc := 77) S fX12_readGoal_23 dX12_readGoal_77 rfl (Nat.le_of_ble_eq_true rfl) rfl ?_
          try simp only [zup_k, zup_e, ne_eq, Nat.reduceEqDiff, not_false_eq_true, zup_j]
          refine zr_iload_n (pc := 80) S dX12_readGoal_80 rfl ?_
          refine zr_iconst (pc := 81) S dX12_readGoal_81 (by unfold zrI; omega) ?_
          refine zr_iadd (pc := 82) S dX12_readGoal_82 (by unfold zrI; omega) ?_
          refine zr_iload_n (pc := 83) S dX12_readGoal_83 rfl ?_
          refine zr_iconst (pc := 84) S dX12_readGoal_84 (by unfold zrI; omega) ?_
          refine zr_icmp_ne (pc := 85) (tgt := 99) S dX12_readGoal_85 (by decide) (fun c85 => absurd c85 (by omega)) (fun c85 => ?_)
          refine zr_aload_n (pc := 88) S dX12_readGoal_88 rfl ?_
          refine zr_iconst (pc := 89) S dX12_readGoal_89 (by unfold zrI; omega) ?_
          refine zr_bipush (pc := 90) S dX12_readGoal_90 ⟨by unfold zrI; omega, by decide⟩ ?_
          refine zr_iconst (pc := 92) S dX12_readGoal_92 (by unfold zrI; omega) ?_
          refine zr_invV (pc := 93) S [zI _, zI _, zI _] (m_X12_number _) kX12_readGoal_197 dX12_readGoal_93 rfl (Nat.le_of_ble_eq_true rfl) rfl (Nat.le_of_ble_eq_true rfl) ⟨Nat.le_of_ble_eq_true rfl, Nat.le_of_ble_eq_true rfl⟩ (us_X12_number (e := tE (M 184) n (tE (M 184) n p)) (n := n) (by decide) u5 r2.2.1 u1 u2 (fun z => absurd u8 z) (fun _ z => absurd u6 z) (fun _ _ z => absurd ⟨by omega, by omega⟩ z) (fun _ _ _ W hW => ?_))
          dsimp only [zaft, Option.toList, List.cons_append, List.nil_append, Nat.add_zero]
          refine zr_goto (pc := 96) (tgt := 100) S dX12_readGoal_96 (by decide) ?_
          refine zr_iastore (pc := 100) S dX12_readGoal_100 rfl (Nat.le_of_ble_eq_true rfl) (by omega) (by omega) ?_
          rw [ew1]
          exact zr_vret (pc := 101) S dX12_readGoal_101 rfl ⟨Nat.le_refl _, Nat.le_refl _⟩ (q W hW)
        · rw [if_neg v7] at hp
          have q := hF _ hp (zup (blM U 3) 185 (w + 1) (U 180 11)) (oV _ _ (blM.o U 3)) (fV _ _ _ (hbl 3)) (rV _ _ (cU.rd.bl 3))
          refine zr_aload_n (pc := 69) S dX12_readGoal_69 rfl ?_
          refine zr_getR (pc := 70) S fX12_readGoal_23 dX12_readGoal_70 rfl (Nat.le_of_ble_eq_true rfl) rfl ?_
          refine zr_iload_n (pc := 73) S dX12_readGoal_73 rfl ?_
          refine zr_iload_n (pc := 74) S dX12_readGoal_74 rfl ?_
          refine zr_iastore (pc := 75) S dX12_readGoal_75 rfl (Nat.le_of_ble_eq_true rfl) (by omega) (by omega) ?_
          rw [ew, hU]
          refine zr_aload_n (pc := 76) S dX12_readGoal_76 rfl ?_
          refine zr_getR (pc := 77) S fX12_readGoal_23 dX12_readGoal_77 rfl (Nat.le_of_ble_eq_true rfl) rfl ?_
          try simp only [zup_k, zup_e, ne_eq, Nat.reduceEqDiff, not_false_eq_true, zup_j]
          refine zr_iload_n (pc := 80) S dX12_readGoal_80 rfl ?_
          refine zr_iconst (pc := 81) S dX12_readGoal_81 (by unfold zrI; omega) ?_
          refine zr_iadd (pc := 82) S dX12_readGoal_82 (by unfold zrI; omega) ?_
          refine zr_iload_n (pc := 83) S dX12_readGoal_83 rfl ?_
          refine zr_iconst (pc := 84) S dX12_readGoal_84 (by unfold zrI; omega) ?_
          refine zr_icmp_ne (pc := 85) (tgt := 99) S dX12_readGoal_85 (by decide) (fun c85 => absurd c85 (by omega)) (fun c85 => ?_)
          refine zr_aload_n (pc := 88) S dX12_readGoal_88 rfl ?_
          refine zr_iconst (pc := 89) S dX12_readGoal_89 (by unfold zrI; omega) ?_
          refine zr_bipush (pc := 90) S dX12_readGoal_90 ⟨by unfold zrI; omega, by decide⟩ ?_
          refine zr_iconst (pc := 92) S dX12_readGoal_92 (by unfold zrI; omega) ?_
          refine zr_invV (pc := 93) S [zI _, zI _, zI _] (m_X12_number _) kX12_readGoal_197 dX12_readGoal_93 rfl (Nat.le_of_ble_eq_true rfl) rfl (Nat.le_of_ble_eq_true rfl) ⟨Nat.le_of_ble_eq_true rfl, Nat.le_of_ble_eq_true rfl⟩ (us_X12_number (e := tE (M 184) n (tE (M 184) n p)) (n := n) (by decide) u5 r2.2.1 u1 u2 (fun z => absurd u8 z) (fun _ z => absurd u6 z) (fun _ _ _ => ?_) (fun _ _ z => absurd z (by omega)))
          dsimp only [zaft, Option.toList, List.cons_append, List.nil_append, Nat.add_zero]
          refine zr_goto (pc := 96) (tgt := 100) S dX12_readGoal_96 (by decide) ?_
          refine zr_iastore (pc := 100) S dX12_readGoal_100 rfl (Nat.le_of_ble_eq_true rfl) (by omega) (by omega) ?_
          rw [ew1]
          exact zr_vret (pc := 101) S dX12_readGoal_101 rfl ⟨Nat.le_refl _, Nat.le_refl _⟩ (q)
      · rw [if_neg tk] at hp
        rw [← u6] at tk
        have q := hF _ hp (zup (blM U 2) 185 (w + 1) (U 180 11)) (oV _ _ (blM.o U 2)) (fV _ _ _ (hbl 2)) (rV _ _ (cU.rd.bl 2))
        refine zr_aload_n (pc := 69) S dX12_readGoal_69 rfl ?_
        refine zr_getR (pc := 70) S fX12_readGoal_23 dX12_readGoal_70 rfl (Nat.le_of_ble_eq_true rfl) rfl ?_
        refine zr_iload_n (pc := 73) S dX12_readGoal_73 rfl ?_
        refine zr_iload_n (pc := 74) S dX12_readGoal_74 rfl ?_
        refine zr_iastore (pc := 75) S dX12_readGoal_75 rfl (Nat.le_of_ble_eq_true rfl) (by omega) (by omega) ?_
        rw [ew, hU]
        refine zr_aload_n (pc := 76) S dX12_readGoal_76 rfl ?_
        refine zr_getR (pc := 77) S fX12_readGoal_23 dX12_readGoal_77 rfl (Nat.le_of_ble_eq_true rfl) rfl ?_
        try simp only [zup_k, zup_e, ne_eq, Nat.reduceEqDiff, not_false_eq_true, zup_j]
        refine zr_iload_n (pc := 80) S dX12_readGoal_80 rfl ?_
        refine zr_iconst (pc := 81) S dX12_readGoal_81 (by unfold zrI; omega) ?_
        refine zr_iadd (pc := 82) S dX12_readGoal_82 (by unfold zrI; omega) ?_
        refine zr_iload_n (pc := 83) S dX12_readGoal_83 rfl ?_
        refine zr_iconst (pc := 84) S dX12_readGoal_84 (by unfold zrI; omega) ?_
        refine zr_icmp_ne (pc := 85) (tgt := 99) S dX12_readGoal_85 (by decide) (fun c85 => absurd c85 (by omega)) (fun c85 => ?_)
        refine zr_aload_n (pc := 88) S dX12_readGoal_88 rfl ?_
        refine zr_iconst (pc := 89) S dX12_readGoal_89 (by unfold zrI; omega) ?_
        refine zr_bipush (pc := 90) S dX12_readGoal_90 ⟨by unfold zrI; omega, by decide⟩ ?_
        refine zr_iconst (pc := 92) S dX12_readGoal_92 (by unfold zrI; omega) ?_
        refine zr_invV (pc := 93) S [zI _, zI _, zI _] (m_X12_number _) kX12_readGoal_197 dX12_readGoal_93 rfl (Nat.le_of_ble_eq_true rfl) rfl (Nat.le_of_ble_eq_true rfl) ⟨Nat.le_of_ble_eq_true rfl, Nat.le_of_ble_eq_true rfl⟩ (us_X12_number (e := tE (M 184) n (tE (M 184) n p)) (n := n) (by decide) u5 r2.2.1 u1 u2 (fun z => absurd u8 z) (fun _ _ => ?_) (fun _ z => absurd z tk) (fun _ z => absurd z tk))
        dsimp only [zaft, Option.toList, List.cons_append, List.nil_append, Nat.add_zero]
        refine zr_goto (pc := 96) (tgt := 100) S dX12_readGoal_96 (by decide) ?_
        refine zr_iastore (pc := 100) S dX12_readGoal_100 rfl (Nat.le_of_ble_eq_true rfl) (by omega) (by omega) ?_
        rw [ew1]
        exact zr_vret (pc := 101) S dX12_readGoal_101 rfl ⟨Nat.le_refl _, Nat.le_refl _⟩ (q)
    refine zr_aload_n (pc := 65) S dX12_readGoal_65 rfl ?_
    refine zr_invV (pc := 66) S [] (m_X12_next _) kX12_readGoal_187 dX12_readGoal_66 rfl (Nat.le_of_ble_eq_true rfl) rfl (Nat.le_of_ble_eq_true rfl) ⟨Nat.le_of_ble_eq_true rfl, Nat.le_of_ble_eq_true rfl⟩ (us_X12_next h1 h2 h5 r.2.1 ?_)
    dsimp only [zaft, Option.toList, List.cons_append, List.nil_append, Nat.add_zero]
    intro N hN
    exact kk N hN
  have kN : pGoal (M 184) n p = .inl (blP (M 184) n p 2) → zK (zg E) rmX12_readGoal 3 (Qp, 0, 0) X (0, 0) 53 [some (zR 180), some (zI w), none] [zI (-1)] M := by
    intro hp
    have q := hF _ hp (blM M 2) (blM.o M 2) (hc.bl 2) (hc.rd.bl 2)
    refine zr_istore_n (pc := 53) S 2 dX12_readGoal_53 rfl (by decide) ?_
    dsimp only [zst1, zst2, zset, zget, zlong]
    refine zr_iload_n (pc := 54) S dX12_readGoal_54 rfl ?_
    refine zr_iconst (pc := 55) S dX12_readGoal_55 (by unfold zrI; omega) ?_
    refine zr_icmp_ne (pc := 56) (tgt := 65) S dX12_readGoal_56 (by decide) (fun c56 => absurd c56 (by omega)) (fun c56 => ?_)
    refine zr_aload_n (pc := 59) S dX12_readGoal_59 rfl ?_
    refine zr_iconst (pc := 60) S dX12_readGoal_60 (by unfold zrI; omega) ?_
    refine zr_invV (pc := 61) S [zI _] (m_X12_blames _) kX12_readGoal_183 dX12_readGoal_61 rfl (Nat.le_of_ble_eq_true rfl) rfl (Nat.le_of_ble_eq_true rfl) ⟨Nat.le_of_ble_eq_true rfl, Nat.le_of_ble_eq_true rfl⟩ (us_X12_blames ?_)
    dsimp only [zaft, Option.toList, List.cons_append, List.nil_append, Nat.add_zero]
    exact zr_vret (pc := 64) S dX12_readGoal_64 rfl ⟨Nat.le_refl _, Nat.le_refl _⟩ (q)
  unfold pGoal at k65 kT kN
  by_cases c2 : wrd (M 184) n p 2
  · have l := k65 0 (by decide) (by rw [if_pos c2])
    refine zr_aload_n (pc := 0) S dX12_readGoal_0 rfl ?_
    refine zr_ldcS (pc := 1) (k9 := 2) S (List.mem_of_getElem? (i := 12) rfl) dX12_readGoal_1 ?_
    refine zr_invV (pc := 3) S [zR _] (m_X12_isWord _) kX12_readGoal_179 dX12_readGoal_3 rfl (Nat.le_of_ble_eq_true rfl) rfl (Nat.le_of_ble_eq_true rfl) ⟨Nat.le_of_ble_eq_true rfl, Nat.le_of_ble_eq_true rfl⟩ (us_word (i := 2) (by decide) hc ?_)
    dsimp only [zaft, Option.toList, List.cons_append, List.nil_append, Nat.add_zero]
    rw [b01_t c2]
    refine zr_if_eq (pc := 6) (tgt := 13) S dX12_readGoal_6 (by decide) (fun c6 => absurd c6 (by omega)) (fun c6 => ?_)
    refine zr_iconst (pc := 9) S dX12_readGoal_9 (by unfold zrI; omega) ?_
    refine zr_goto (pc := 10) (tgt := 53) S dX12_readGoal_10 (by decide) ?_
    refine zr_istore_n (pc := 53) S 2 dX12_readGoal_53 rfl (by decide) ?_
    dsimp only [zst1, zst2, zset, zget, zlong]
    refine zr_iload_n (pc := 54) S dX12_readGoal_54 rfl ?_
    refine zr_iconst (pc := 55) S dX12_readGoal_55 (by unfold zrI; omega) ?_
    refine zr_icmp_ne (pc := 56) (tgt := 65) S dX12_readGoal_56 (by decide) (fun c56 => ?_) (fun c56 => absurd c56 (by omega))
    exact l
  · by_cases c3 : wrd (M 184) n p 3
    · have l := k65 1 (by decide) (by rw [if_neg c2, if_pos c3])
      refine zr_aload_n (pc := 0) S dX12_readGoal_0 rfl ?_
      refine zr_ldcS (pc := 1) (k9 := 2) S (List.mem_of_getElem? (i := 12) rfl) dX12_readGoal_1 ?_
      refine zr_invV (pc := 3) S [zR _] (m_X12_isWord _) kX12_readGoal_179 dX12_readGoal_3 rfl (Nat.le_of_ble_eq_true rfl) rfl (Nat.le_of_ble_eq_true rfl) ⟨Nat.le_of_ble_eq_true rfl, Nat.le_of_ble_eq_true rfl⟩ (us_word (i := 2) (by decide) hc ?_)
      dsimp only [zaft, Option.toList, List.cons_append, List.nil_append, Nat.add_zero]
      rw [b01_f c2]
      refine zr_if_eq (pc := 6) (tgt := 13) S dX12_readGoal_6 (by decide) (fun c6 => ?_) (fun c6 => absurd c6 (by omega))
      refine zr_aload_n (pc := 13) S dX12_readGoal_13 rfl ?_
      refine zr_ldcS (pc := 14) (k9 := 3) S (List.mem_of_getElem? (i := 13) rfl) dX12_readGoal_14 ?_
      refine zr_invV (pc := 16) S [zR _] (m_X12_isWord _) kX12_readGoal_179 dX12_readGoal_16 rfl (Nat.le_of_ble_eq_true rfl) rfl (Nat.le_of_ble_eq_true rfl) ⟨Nat.le_of_ble_eq_true rfl, Nat.le_of_ble_eq_true rfl⟩ (us_word (i := 3) (by decide) hc ?_)
      dsimp only [zaft, Option.toList, List.cons_append, List.nil_append, Nat.add_zero]
      rw [b01_t c3]
      refine zr_if_eq (pc := 19) (tgt := 26) S dX12_readGoal_19 (by decide) (fun c19 => absurd c19 (by omega)) (fun c19 => ?_)
      refine zr_iconst (pc := 22) S dX12_readGoal_22 (by unfold zrI; omega) ?_
      refine zr_goto (pc := 23) (tgt := 53) S dX12_readGoal_23 (by decide) ?_
      refine zr_istore_n (pc := 53) S 2 dX12_readGoal_53 rfl (by decide) ?_
      dsimp only [zst1, zst2, zset, zget, zlong]
      refine zr_iload_n (pc := 54) S dX12_readGoal_54 rfl ?_
      refine zr_iconst (pc := 55) S dX12_readGoal_55 (by unfold zrI; omega) ?_
      refine zr_icmp_ne (pc := 56) (tgt := 65) S dX12_readGoal_56 (by decide) (fun c56 => ?_) (fun c56 => absurd c56 (by omega))
      exact l
    · by_cases c1 : wrd (M 184) n p 1
      · have l := kT (by rw [if_neg c2, if_neg c3, if_pos c1])
        refine zr_aload_n (pc := 0) S dX12_readGoal_0 rfl ?_
        refine zr_ldcS (pc := 1) (k9 := 2) S (List.mem_of_getElem? (i := 12) rfl) dX12_readGoal_1 ?_
        refine zr_invV (pc := 3) S [zR _] (m_X12_isWord _) kX12_readGoal_179 dX12_readGoal_3 rfl (Nat.le_of_ble_eq_true rfl) rfl (Nat.le_of_ble_eq_true rfl) ⟨Nat.le_of_ble_eq_true rfl, Nat.le_of_ble_eq_true rfl⟩ (us_word (i := 2) (by decide) hc ?_)
        dsimp only [zaft, Option.toList, List.cons_append, List.nil_append, Nat.add_zero]
        rw [b01_f c2]
        refine zr_if_eq (pc := 6) (tgt := 13) S dX12_readGoal_6 (by decide) (fun c6 => ?_) (fun c6 => absurd c6 (by omega))
        refine zr_aload_n (pc := 13) S dX12_readGoal_13 rfl ?_
        refine zr_ldcS (pc := 14) (k9 := 3) S (List.mem_of_getElem? (i := 13) rfl) dX12_readGoal_14 ?_
        refine zr_invV (pc := 16) S [zR _] (m_X12_isWord _) kX12_readGoal_179 dX12_readGoal_16 rfl (Nat.le_of_ble_eq_true rfl) rfl (Nat.le_of_ble_eq_true rfl) ⟨Nat.le_of_ble_eq_true rfl, Nat.le_of_ble_eq_true rfl⟩ (us_word (i := 3) (by decide) hc ?_)
        dsimp only [zaft, Option.toList, List.cons_append, List.nil_append, Nat.add_zero]
        rw [b01_f c3]
        refine zr_if_eq (pc := 19) (tgt := 26) S dX12_readGoal_19 (by decide) (fun c19 => ?_) (fun c19 => absurd c19 (by omega))
        refine zr_aload_n (pc := 26) S dX12_readGoal_26 rfl ?_
        refine zr_ldcS (pc := 27) (k9 := 1) S (List.mem_of_getElem? (i := 11) rfl) dX12_readGoal_27 ?_
        refine zr_invV (pc := 29) S [zR _] (m_X12_isWord _) kX12_readGoal_179 dX12_readGoal_29 rfl (Nat.le_of_ble_eq_true rfl) rfl (Nat.le_of_ble_eq_true rfl) ⟨Nat.le_of_ble_eq_true rfl, Nat.le_of_ble_eq_true rfl⟩ (us_word (i := 1) (by decide) hc ?_)
        dsimp only [zaft, Option.toList, List.cons_append, List.nil_append, Nat.add_zero]
        rw [b01_t c1]
        refine zr_if_eq (pc := 32) (tgt := 39) S dX12_readGoal_32 (by decide) (fun c32 => absurd c32 (by omega)) (fun c32 => ?_)
        refine zr_iconst (pc := 35) S dX12_readGoal_35 (by unfold zrI; omega) ?_
        refine zr_goto (pc := 36) (tgt := 53) S dX12_readGoal_36 (by decide) ?_
        refine zr_istore_n (pc := 53) S 2 dX12_readGoal_53 rfl (by decide) ?_
        dsimp only [zst1, zst2, zset, zget, zlong]
        refine zr_iload_n (pc := 54) S dX12_readGoal_54 rfl ?_
        refine zr_iconst (pc := 55) S dX12_readGoal_55 (by unfold zrI; omega) ?_
        refine zr_icmp_ne (pc := 56) (tgt := 65) S dX12_readGoal_56 (by decide) (fun c56 => ?_) (fun c56 => absurd c56 (by omega))
        exact l
      · by_cases c4 : wrd (M 184) n p 4
        · have l := k65 3 (by decide) (by rw [if_neg c2, if_neg c3, if_neg c1, if_pos c4])
          refine zr_aload_n (pc := 0) S dX12_readGoal_0 rfl ?_
          refine zr_ldcS (pc := 1) (k9 := 2) S (List.mem_of_getElem? (i := 12) rfl) dX12_readGoal_1 ?_
          refine zr_invV (pc := 3) S [zR _] (m_X12_isWord _) kX12_readGoal_179 dX12_readGoal_3 rfl (Nat.le_of_ble_eq_true rfl) rfl (Nat.le_of_ble_eq_true rfl) ⟨Nat.le_of_ble_eq_true rfl, Nat.le_of_ble_eq_true rfl⟩ (us_word (i := 2) (by decide) hc ?_)
          dsimp only [zaft, Option.toList, List.cons_append, List.nil_append, Nat.add_zero]
          rw [b01_f c2]
          refine zr_if_eq (pc := 6) (tgt := 13) S dX12_readGoal_6 (by decide) (fun c6 => ?_) (fun c6 => absurd c6 (by omega))
          refine zr_aload_n (pc := 13) S dX12_readGoal_13 rfl ?_
          refine zr_ldcS (pc := 14) (k9 := 3) S (List.mem_of_getElem? (i := 13) rfl) dX12_readGoal_14 ?_
          refine zr_invV (pc := 16) S [zR _] (m_X12_isWord _) kX12_readGoal_179 dX12_readGoal_16 rfl (Nat.le_of_ble_eq_true rfl) rfl (Nat.le_of_ble_eq_true rfl) ⟨Nat.le_of_ble_eq_true rfl, Nat.le_of_ble_eq_true rfl⟩ (us_word (i := 3) (by decide) hc ?_)
          dsimp only [zaft, Option.toList, List.cons_append, List.nil_append, Nat.add_zero]
          rw [b01_f c3]
          refine zr_if_eq (pc := 19) (tgt := 26) S dX12_readGoal_19 (by decide) (fun c19 => ?_) (fun c19 => absurd c19 (by omega))
          refine zr_aload_n (pc := 26) S dX12_readGoal_26 rfl ?_
          refine zr_ldcS (pc := 27) (k9 := 1) S (List.mem_of_getElem? (i := 11) rfl) dX12_readGoal_27 ?_
          refine zr_invV (pc := 29) S [zR _] (m_X12_isWord _) kX12_readGoal_179 dX12_readGoal_29 rfl (Nat.le_of_ble_eq_true rfl) rfl (Nat.le_of_ble_eq_true rfl) ⟨Nat.le_of_ble_eq_true rfl, Nat.le_of_ble_eq_true rfl⟩ (us_word (i := 1) (by decide) hc ?_)
          dsimp only [zaft, Option.toList, List.cons_append, List.nil_append, Nat.add_zero]
          rw [b01_f c1]
          refine zr_if_eq (pc := 32) (tgt := 39) S dX12_readGoal_32 (by decide) (fun c32 => ?_) (fun c32 => absurd c32 (by omega))
          refine zr_aload_n (pc := 39) S dX12_readGoal_39 rfl ?_
          refine zr_ldcS (pc := 40) (k9 := 4) S (List.mem_of_getElem? (i := 14) rfl) dX12_readGoal_40 ?_
          refine zr_invV (pc := 42) S [zR _] (m_X12_isWord _) kX12_readGoal_179 dX12_readGoal_42 rfl (Nat.le_of_ble_eq_true rfl) rfl (Nat.le_of_ble_eq_true rfl) ⟨Nat.le_of_ble_eq_true rfl, Nat.le_of_ble_eq_true rfl⟩ (us_word (i := 4) (by decide) hc ?_)
          dsimp only [zaft, Option.toList, List.cons_append, List.nil_append, Nat.add_zero]
          rw [b01_t c4]
          refine zr_if_eq (pc := 45) (tgt := 52) S dX12_readGoal_45 (by decide) (fun c45 => absurd c45 (by omega)) (fun c45 => ?_)
          refine zr_iconst (pc := 48) S dX12_readGoal_48 (by unfold zrI; omega) ?_
          refine zr_goto (pc := 49) (tgt := 53) S dX12_readGoal_49 (by decide) ?_
          refine zr_istore_n (pc := 53) S 2 dX12_readGoal_53 rfl (by decide) ?_
          dsimp only [zst1, zst2, zset, zget, zlong]
          refine zr_iload_n (pc := 54) S dX12_readGoal_54 rfl ?_
          refine zr_iconst (pc := 55) S dX12_readGoal_55 (by unfold zrI; omega) ?_
          refine zr_icmp_ne (pc := 56) (tgt := 65) S dX12_readGoal_56 (by decide) (fun c56 => ?_) (fun c56 => absurd c56 (by omega))
          exact l
        · have l := kN (by rw [if_neg c2, if_neg c3, if_neg c1, if_neg c4])
          refine zr_aload_n (pc := 0) S dX12_readGoal_0 rfl ?_
          refine zr_ldcS (pc := 1) (k9 := 2) S (List.mem_of_getElem? (i := 12) rfl) dX12_readGoal_1 ?_
          refine zr_invV (pc := 3) S [zR _] (m_X12_isWord _) kX12_readGoal_179 dX12_readGoal_3 rfl (Nat.le_of_ble_eq_true rfl) rfl (Nat.le_of_ble_eq_true rfl) ⟨Nat.le_of_ble_eq_true rfl, Nat.le_of_ble_eq_true rfl⟩ (us_word (i := 2) (by decide) hc ?_)
          dsimp only [zaft, Option.toList, List.cons_append, List.nil_append, Nat.add_zero]
          rw [b01_f c2]
          refine zr_if_eq (pc := 6) (tgt := 13) S dX12_readGoal_6 (by decide) (fun c6 => ?_) (fun c6 => absurd c6 (by omega))
          refine zr_aload_n (pc := 13) S dX12_readGoal_13 rfl ?_
          refine zr_ldcS (pc := 14) (k9 := 3) S (List.mem_of_getElem? (i := 13) rfl) dX12_readGoal_14 ?_
          refine zr_invV (pc := 16) S [zR _] (m_X12_isWord _) kX12_readGoal_179 dX12_readGoal_16 rfl (Nat.le_of_ble_eq_true rfl) rfl (Nat.le_of_ble_eq_true rfl) ⟨Nat.le_of_ble_eq_true rfl, Nat.le_of_ble_eq_true rfl⟩ (us_word (i := 3) (by decide) hc ?_)
          dsimp only [zaft, Option.toList, List.cons_append, List.nil_append, Nat.add_zero]
          rw [b01_f c3]
          refine zr_if_eq (pc := 19) (tgt := 26) S dX12_readGoal_19 (by decide) (fun c19 => ?_) (fun c19 => absurd c19 (by omega))
          refine zr_aload_n (pc := 26) S dX12_readGoal_26 rfl ?_
          refine zr_ldcS (pc := 27) (k9 := 1) S (List.mem_of_getElem? (i := 11) rfl) dX12_readGoal_27 ?_
          refine zr_invV (pc := 29) S [zR _] (m_X12_isWord _) kX12_readGoal_179 dX12_readGoal_29 rfl (Nat.le_of_ble_eq_true rfl) rfl (Nat.le_of_ble_eq_true rfl) ⟨Nat.le_of_ble_eq_true rfl, Nat.le_of_ble_eq_true rfl⟩ (us_word (i := 1) (by decide) hc ?_)
          dsimp only [zaft, Option.toList, List.cons_append, List.nil_append, Nat.add_zero]
          rw [b01_f c1]
          refine zr_if_eq (pc := 32) (tgt := 39) S dX12_readGoal_32 (by decide) (fun c32 => ?_) (fun c32 => absurd c32 (by omega))
          refine zr_aload_n (pc := 39) S dX12_readGoal_39 rfl ?_
          refine zr_ldcS (pc := 40) (k9 := 4) S (List.mem_of_getElem? (i := 14) rfl) dX12_readGoal_40 ?_
          refine zr_invV (pc := 42) S [zR _] (m_X12_isWord _) kX12_readGoal_179 dX12_readGoal_42 rfl (Nat.le_of_ble_eq_true rfl) rfl (Nat.le_of_ble_eq_true rfl) ⟨Nat.le_of_ble_eq_true rfl, Nat.le_of_ble_eq_true rfl⟩ (us_word (i := 4) (by decide) hc ?_)
          dsimp only [zaft, Option.toList, List.cons_append, List.nil_append, Nat.add_zero]
          rw [b01_f c4]
          refine zr_if_eq (pc := 45) (tgt := 52) S dX12_readGoal_45 (by decide) (fun c45 => ?_) (fun c45 => absurd c45 (by omega))
          refine zr_iconst (pc := 52) S dX12_readGoal_52 (by unfold zrI; omega) ?_
          exact l
end
