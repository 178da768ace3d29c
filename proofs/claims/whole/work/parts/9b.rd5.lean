section
def sp_X4_readMeasure (as : List zV) (M : zM) (Q : Option zV → zM → Prop) : Prop := ∃ (g n p : Nat), as = [zR 39, zI g] ∧ (g < 8) ∧ (curR M n p) ∧ (msr (cT M) n p = -1 → Q (some (zI 0)) (rblM M 2)) ∧ (¬ msr (cT M) n p = -1 → ∀ M', axM (zup M 42 g (msr (cT M) n p)) M' n (tE (cT M) n p) → Q (some (zI 1)) M')
theorem us_X4_readMeasure {g n p : Nat} {M : zM} {Q : Option zV → zM → Prop} (hg : g < 8) (hc : curR M n p) (hF : msr (cT M) n p = -1 → Q (some (zI 0)) (rblM M 2)) (hY : ¬ msr (cT M) n p = -1 → ∀ M', axM (zup M 42 g (msr (cT M) n p)) M' n (tE (cT M) n p) → Q (some (zI 1)) M') : sp_X4_readMeasure [zR 39, zI g] M Q := ⟨g, n, p, rfl, hg, hc, hF, hY⟩
set_option maxRecDepth 20000 in
set_option maxHeartbeats 4000000 in
theorem m_X4_readMeasure (l : Launch) : zC l yX4_readMeasure wzX4_readMeasure rmX4_readMeasure sp_X4_readMeasure := by
  refine zMet.of RX4 (by decide +kernel) rfl rfl ?_
  intro E X as M Qp hX S hsp
  obtain ⟨g, n, p, rfl, hg, hc, hF, hY⟩ := hsp
  refine ⟨Nat.le_of_ble_eq_true rfl, ?_⟩
  dsimp only [zpad, zargs]
  have eg : (g : Int).toNat = g := Int.toNat_natCast g
  have r := tE_r (t := cT M) hc.2.2.1
  have k72 : ∀ v : Int, ¬ v = -1 → msr (cT M) n p = v → zK (zg E) rmX4_readMeasure 2 (Qp, 0, 0) X (0, 0) 72 [some (zR 39), some (zI g)] [] (zup M 42 g v) := by
    intro v hv he
    rw [he] at hY
    have q := hY hv
    have cV := hc.dr g v (c := 42) (by decide)
    have tV9 : cT (zup M 42 g v) = cT M := cT_o (zup_o _ (by decide))
    have v5 := cV.2.2.2.2.1
    rw [tV9] at v5
    refine zr_aload_n (pc := 72) S dX4_readMeasure_72 rfl ?_
    refine zr_invV (pc := 73) S [] (m_X4_advance _) kX4_readMeasure_47 dX4_readMeasure_73 rfl (Nat.le_of_ble_eq_true rfl) rfl (Nat.le_of_ble_eq_true rfl) ⟨Nat.le_of_ble_eq_true rfl, Nat.le_of_ble_eq_true rfl⟩ (us_X4_advance cV.1 cV.2.1 v5 r.2.1 ?_)
    dsimp only [zaft, Option.toList, List.cons_append, List.nil_append, Nat.add_zero]
    intro W hW
    refine zr_iconst (pc := 76) S dX4_readMeasure_76 (by unfold zrI; omega) ?_
    exact zr_zret (pc := 77) S dX4_readMeasure_77 rfl (by first | omega | exact b01_r) ⟨Nat.le_refl _, Nat.le_refl _⟩ (q W hW)
  unfold msr at k72 hF
  by_cases c7 : wrd (cT M) n p 7
  · have l := k72 0 (by decide) (if_pos c7)
    refine zr_aload_n (pc := 0) S dX4_readMeasure_0 rfl ?_
    refine zr_ldcS (pc := 1) (k9 := 7) S (List.mem_of_getElem? (i := 7) rfl) dX4_readMeasure_1 ?_
    refine zr_invV (pc := 3) S [zR _] (m_X4_isWord _) kX4_readMeasure_59 dX4_readMeasure_3 rfl (Nat.le_of_ble_eq_true rfl) rfl (Nat.le_of_ble_eq_true rfl) ⟨Nat.le_of_ble_eq_true rfl, Nat.le_of_ble_eq_true rfl⟩ (us_rword (i := 7) (by decide) hc ?_)
    dsimp only [zaft, Option.toList, List.cons_append, List.nil_append, Nat.add_zero]
    rw [b01_t c7]
    refine zr_if_eq (pc := 6) (tgt := 22) S dX4_readMeasure_6 (by decide) (fun c6 => absurd c6 (by omega)) (fun c6 => ?_)
    refine zr_aload_n (pc := 9) S dX4_readMeasure_9 rfl ?_
    refine zr_getR (pc := 10) S fX4_readMeasure_22 dX4_readMeasure_10 rfl (Nat.le_of_ble_eq_true rfl) rfl ?_
    refine zr_getR (pc := 13) S fX4_readMeasure_91 dX4_readMeasure_13 rfl (Nat.le_of_ble_eq_true rfl) rfl ?_
    refine zr_iload_n (pc := 16) S dX4_readMeasure_16 rfl ?_
    refine zr_iconst (pc := 17) S dX4_readMeasure_17 (by unfold zrI; omega) ?_
    refine zr_iastore (pc := 18) S dX4_readMeasure_18 rfl (Nat.le_of_ble_eq_true rfl) (by omega) (by omega) ?_
    rw [eg]
    refine zr_goto (pc := 19) (tgt := 72) S dX4_readMeasure_19 (by decide) ?_
    exact l
  · by_cases c8 : wrd (cT M) n p 8
    · have l := k72 1 (by decide) (by rw [if_neg c7, if_pos c8])
      refine zr_aload_n (pc := 0) S dX4_readMeasure_0 rfl ?_
      refine zr_ldcS (pc := 1) (k9 := 7) S (List.mem_of_getElem? (i := 7) rfl) dX4_readMeasure_1 ?_
      refine zr_invV (pc := 3) S [zR _] (m_X4_isWord _) kX4_readMeasure_59 dX4_readMeasure_3 rfl (Nat.le_of_ble_eq_true rfl) rfl (Nat.le_of_ble_eq_true rfl) ⟨Nat.le_of_ble_eq_true rfl, Nat.le_of_ble_eq_true rfl⟩ (us_rword (i := 7) (by decide) hc ?_)
      dsimp only [zaft, Option.toList, List.cons_append, List.nil_append, Nat.add_zero]
      rw [b01_f c7]
      refine zr_if_eq (pc := 6) (tgt := 22) S dX4_readMeasure_6 (by decide) (fun c6 => ?_) (fun c6 => absurd c6 (by omega))
      refine zr_aload_n (pc := 22) S dX4_readMeasure_22 rfl ?_
      refine zr_ldcS (pc := 23) (k9 := 8) S (List.mem_of_getElem? (i := 8) rfl) dX4_readMeasure_23 ?_
      refine zr_invV (pc := 25) S [zR _] (m_X4_isWord _) kX4_readMeasure_59 dX4_readMeasure_25 rfl (Nat.le_of_ble_eq_true rfl) rfl (Nat.le_of_ble_eq_true rfl) ⟨Nat.le_of_ble_eq_true rfl, Nat.le_of_ble_eq_true rfl⟩ (us_rword (i := 8) (by decide) hc ?_)
      dsimp only [zaft, Option.toList, List.cons_append, List.nil_append, Nat.add_zero]
      rw [b01_t c8]
      refine zr_if_eq (pc := 28) (tgt := 44) S dX4_readMeasure_28 (by decide) (fun c28 => absurd c28 (by omega)) (fun c28 => ?_)
      refine zr_aload_n (pc := 31) S dX4_readMeasure_31 rfl ?_
      refine zr_getR (pc := 32) S fX4_readMeasure_22 dX4_readMeasure_32 rfl (Nat.le_of_ble_eq_true rfl) rfl ?_
      refine zr_getR (pc := 35) S fX4_readMeasure_91 dX4_readMeasure_35 rfl (Nat.le_of_ble_eq_true rfl) rfl ?_
      refine zr_iload_n (pc := 38) S dX4_readMeasure_38 rfl ?_
      refine zr_iconst (pc := 39) S dX4_readMeasure_39 (by unfold zrI; omega) ?_
      refine zr_iastore (pc := 40) S dX4_readMeasure_40 rfl (Nat.le_of_ble_eq_true rfl) (by omega) (by omega) ?_
      rw [eg]
      refine zr_goto (pc := 41) (tgt := 72) S dX4_readMeasure_41 (by decide) ?_
      exact l
    · by_cases c9 : wrd (cT M) n p 9
      · have l := k72 2 (by decide) (by rw [if_neg c7, if_neg c8, if_pos c9])
        refine zr_aload_n (pc := 0) S dX4_readMeasure_0 rfl ?_
        refine zr_ldcS (pc := 1) (k9 := 7) S (List.mem_of_getElem? (i := 7) rfl) dX4_readMeasure_1 ?_
        refine zr_invV (pc := 3) S [zR _] (m_X4_isWord _) kX4_readMeasure_59 dX4_readMeasure_3 rfl (Nat.le_of_ble_eq_true rfl) rfl (Nat.le_of_ble_eq_true rfl) ⟨Nat.le_of_ble_eq_true rfl, Nat.le_of_ble_eq_true rfl⟩ (us_rword (i := 7) (by decide) hc ?_)
        dsimp only [zaft, Option.toList, List.cons_append, List.nil_append, Nat.add_zero]
        rw [b01_f c7]
        refine zr_if_eq (pc := 6) (tgt := 22) S dX4_readMeasure_6 (by decide) (fun c6 => ?_) (fun c6 => absurd c6 (by omega))
        refine zr_aload_n (pc := 22) S dX4_readMeasure_22 rfl ?_
        refine zr_ldcS (pc := 23) (k9 := 8) S (List.mem_of_getElem? (i := 8) rfl) dX4_readMeasure_23 ?_
        refine zr_invV (pc := 25) S [zR _] (m_X4_isWord _) kX4_readMeasure_59 dX4_readMeasure_25 rfl (Nat.le_of_ble_eq_true rfl) rfl (Nat.le_of_ble_eq_true rfl) ⟨Nat.le_of_ble_eq_true rfl, Nat.le_of_ble_eq_true rfl⟩ (us_rword (i := 8) (by decide) hc ?_)
        dsimp only [zaft, Option.toList, List.cons_append, List.nil_append, Nat.add_zero]
        rw [b01_f c8]
        refine zr_if_eq (pc := 28) (tgt := 44) S dX4_readMeasure_28 (by decide) (fun c28 => ?_) (fun c28 => absurd c28 (by omega))
        refine zr_aload_n (pc := 44) S dX4_readMeasure_44 rfl ?_
        refine zr_ldcS (pc := 45) (k9 := 9) S (List.mem_of_getElem? (i := 9) rfl) dX4_readMeasure_45 ?_
        refine zr_invV (pc := 47) S [zR _] (m_X4_isWord _) kX4_readMeasure_59 dX4_readMeasure_47 rfl (Nat.le_of_ble_eq_true rfl) rfl (Nat.le_of_ble_eq_true rfl) ⟨Nat.le_of_ble_eq_true rfl, Nat.le_of_ble_eq_true rfl⟩ (us_rword (i := 9) (by decide) hc ?_)
        dsimp only [zaft, Option.toList, List.cons_append, List.nil_append, Nat.add_zero]
        rw [b01_t c9]
        refine zr_if_eq (pc := 50) (tgt := 66) S dX4_readMeasure_50 (by decide) (fun c50 => absurd c50 (by omega)) (fun c50 => ?_)
        refine zr_aload_n (pc := 53) S dX4_readMeasure_53 rfl ?_
        refine zr_getR (pc := 54) S fX4_readMeasure_22 dX4_readMeasure_54 rfl (Nat.le_of_ble_eq_true rfl) rfl ?_
        refine zr_getR (pc := 57) S fX4_readMeasure_91 dX4_readMeasure_57 rfl (Nat.le_of_ble_eq_true rfl) rfl ?_
        refine zr_iload_n (pc := 60) S dX4_readMeasure_60 rfl ?_
        refine zr_iconst (pc := 61) S dX4_readMeasure_61 (by unfold zrI; omega) ?_
        refine zr_iastore (pc := 62) S dX4_readMeasure_62 rfl (Nat.le_of_ble_eq_true rfl) (by omega) (by omega) ?_
        rw [eg]
        refine zr_goto (pc := 63) (tgt := 72) S dX4_readMeasure_63 (by decide) ?_
        exact l
      · have q := hF (by rw [if_neg c7, if_neg c8, if_neg c9])
        refine zr_aload_n (pc := 0) S dX4_readMeasure_0 rfl ?_
        refine zr_ldcS (pc := 1) (k9 := 7) S (List.mem_of_getElem? (i := 7) rfl) dX4_readMeasure_1 ?_
        refine zr_invV (pc := 3) S [zR _] (m_X4_isWord _) kX4_readMeasure_59 dX4_readMeasure_3 rfl (Nat.le_of_ble_eq_true rfl) rfl (Nat.le_of_ble_eq_true rfl) ⟨Nat.le_of_ble_eq_true rfl, Nat.le_of_ble_eq_true rfl⟩ (us_rword (i := 7) (by decide) hc ?_)
        dsimp only [zaft, Option.toList, List.cons_append, List.nil_append, Nat.add_zero]
        rw [b01_f c7]
        refine zr_if_eq (pc := 6) (tgt := 22) S dX4_readMeasure_6 (by decide) (fun c6 => ?_) (fun c6 => absurd c6 (by omega))
        refine zr_aload_n (pc := 22) S dX4_readMeasure_22 rfl ?_
        refine zr_ldcS (pc := 23) (k9 := 8) S (List.mem_of_getElem? (i := 8) rfl) dX4_readMeasure_23 ?_
        refine zr_invV (pc := 25) S [zR _] (m_X4_isWord _) kX4_readMeasure_59 dX4_readMeasure_25 rfl (Nat.le_of_ble_eq_true rfl) rfl (Nat.le_of_ble_eq_true rfl) ⟨Nat.le_of_ble_eq_true rfl, Nat.le_of_ble_eq_true rfl⟩ (us_rword (i := 8) (by decide) hc ?_)
        dsimp only [zaft, Option.toList, List.cons_append, List.nil_append, Nat.add_zero]
        rw [b01_f c8]
        refine zr_if_eq (pc := 28) (tgt := 44) S dX4_readMeasure_28 (by decide) (fun c28 => ?_) (fun c28 => absurd c28 (by omega))
        refine zr_aload_n (pc := 44) S dX4_readMeasure_44 rfl ?_
        refine zr_ldcS (pc := 45) (k9 := 9) S (List.mem_of_getElem? (i := 9) rfl) dX4_readMeasure_45 ?_
        refine zr_invV (pc := 47) S [zR _] (m_X4_isWord _) kX4_readMeasure_59 dX4_readMeasure_47 rfl (Nat.le_of_ble_eq_true rfl) rfl (Nat.le_of_ble_eq_true rfl) ⟨Nat.le_of_ble_eq_true rfl, Nat.le_of_ble_eq_true rfl⟩ (us_rword (i := 9) (by decide) hc ?_)
        dsimp only [zaft, Option.toList, List.cons_append, List.nil_append, Nat.add_zero]
        rw [b01_f c9]
        refine zr_if_eq (pc := 50) (tgt := 66) S dX4_readMeasure_50 (by decide) (fun c50 => ?_) (fun c50 => absurd c50 (by omega))
        refine zr_aload_n (pc := 66) S dX4_readMeasure_66 rfl ?_
        refine zr_iconst (pc := 67) S dX4_readMeasure_67 (by unfold zrI; omega) ?_
        refine zr_invV (pc := 68) S [zI _] (m_X4_blame _) kX4_readMeasure_63 dX4_readMeasure_68 rfl (Nat.le_of_ble_eq_true rfl) rfl (Nat.le_of_ble_eq_true rfl) ⟨Nat.le_of_ble_eq_true rfl, Nat.le_of_ble_eq_true rfl⟩ (us_X4_blame ?_)
        dsimp only [zaft, Option.toList, List.cons_append, List.nil_append, Nat.add_zero]
        exact zr_zret (pc := 71) S dX4_readMeasure_71 rfl (by first | omega | exact b01_r) ⟨Nat.le_refl _, Nat.le_refl _⟩ (q)
/-- a gate's two bounds -/
def pBd (t : Nat → Int) (n p : Nat) : (Int × Int) ⊕ ((Int × Int) × Nat) := if tK t n p = 2 then (if tK t n (tE t n p) = 2 then (if tV t (tS t n p) (tE t n p) ≤ tV t (tS t n (tE t n p)) (tE t n (tE t n p)) then .inr ((tV t (tS t n p) (tE t n p), tV t (tS t n (tE t n p)) (tE t n (tE t n p))), tE t n (tE t n p)) else .inl (blP t n (tE t n p) 4)) else .inl (blP t n (tE t n p) 2)) else .inl (blP t n p 2)
theorem pLo_bd (t : Nat → Int) (n : Nat) (ms : Int) (p : Nat) : pLo t n ms p = match pBd t n p with
    | .inl f => .inl f
    | .inr (g, q) => pYes t n [ms, g.1, g.2] q := by
  unfold pLo pHi pBd
  split
  · split
    · split <;> rfl
    · rfl
  · rfl
def sp_X4_readBounds (as : List zV) (M : zM) (Q : Option zV → zM → Prop) : Prop := ∃ (g n p : Nat), as = [zR 39, zI g] ∧ (g < 8) ∧ (curR M n p) ∧ (∀ f, pBd (cT M) n p = .inl f → ∀ M', rO M M' → flR M' f → Q (some (zI 0)) M') ∧ (∀ a b q, pBd (cT M) n p = .inr ((a, b), q) → ∀ M', rO M M' → curR M' n q → M' 43 g = a → M' 44 g = b → (∀ k j, 41 ≤ k → k ≤ 46 → ((k ≠ 43 ∧ k ≠ 44) ∨ j ≠ g) → M' k j = M k j) → Q (some (zI 1)) M')
theorem us_X4_readBounds {g n p : Nat} {M : zM} {Q : Option zV → zM → Prop} (hg : g < 8) (hc : curR M n p) (hF : ∀ f, pBd (cT M) n p = .inl f → ∀ M', rO M M' → flR M' f → Q (some (zI 0)) M') (hY : ∀ a b q, pBd (cT M) n p = .inr ((a, b), q) → ∀ M', rO M M' → curR M' n q → M' 43 g = a → M' 44 g = b → (∀ k j, 41 ≤ k → k ≤ 46 → ((k ≠ 43 ∧ k ≠ 44) ∨ j ≠ g) → M' k j = M k j) → Q (some (zI 1)) M') : sp_X4_readBounds [zR 39, zI g] M Q := ⟨g, n, p, rfl, hg, hc, hF, hY⟩
set_option maxRecDepth 20000 in
set_option maxHeartbeats 4000000 in
theorem m_X4_readBounds (l : Launch) : zC l yX4_readBounds wzX4_readBounds rmX4_readBounds sp_X4_readBounds := by
  refine zMet.of RX4 (by decide +kernel) rfl rfl ?_
  intro E X as M Qp hX S hsp
  obtain ⟨g, n, p, rfl, hg, hc, hF, hY⟩ := hsp
  refine ⟨Nat.le_of_ble_eq_true rfl, ?_⟩
  dsimp only [zpad, zargs]
  have eg : (g : Int).toNat = g := Int.toNat_natCast g
  have r := tE_r (t := cT M) hc.2.2.1
  have hc0 := hc
  obtain ⟨h1, h2, h3, h4, h5, h6, h7, h8, h9⟩ := hc0
  unfold pBd at hF hY
  by_cases tk : tK (cT M) n p = 2
  · have ev := h7 tk
    have vr := tV_r tk
    rw [tk] at h6
    simp only [if_pos tk] at hF hY
    have cV := hc.dr g (M 39 9) (c := 43) (by decide)
    have tV9 : cT (zup M 43 g (M 39 9)) = cT M := cT_o (zup_o _ (by decide))
    have oV := rO.dr M (c := 43) g (M 39 9) (by decide) ⟨fun z => absurd z (by decide), fun _ => by omega, fun z => absurd z (by decide), fun z => absurd z (by decide), fun z => absurd z (by decide)⟩
    have fV : ∀ k j, 41 ≤ k → k ≤ 46 → ((k ≠ 43 ∧ k ≠ 44) ∨ j ≠ g) → zup M 43 g (M 39 9) k j = M k j := fun k j _ _ hj => by
      by_cases e : k = 43
      · rw [e, zup_j (by omega)]
      · rw [zup_o _ e]
    have lV : zup M 43 g (M 39 9) 43 g = tV (cT M) (tS (cT M) n p) (tE (cT M) n p) := by rw [zup_e]; exact ev
    generalize hU : zup M 43 g (M 39 9) = V at *
    have k31 : ∀ N, axM V N n (tE (cT M) n p) → zK (zg E) rmX4_readBounds 2 (Qp, 0, 0) X (0, 0) 31 [some (zR 39), some (zI g)] [] N := by
      intro N hN
      have cN := cV.nx (by rw [tV9]; exact hN)
      rw [tV9] at cN
      have tN : cT N = cT M := hN.c.trans tV9
      have cN0 := cN
      obtain ⟨u1, u2, u3, u4, u5, u6, u7, u8, u9⟩ := cN0
      rw [tN] at u4 u5 u6 u7
      have oN := oV.tr hN.o
      have hbl := fun k => cN.bl k
      rw [tN] at hbl
      have lN : N 43 g = tV (cT M) (tS (cT M) n p) (tE (cT M) n p) := by rw [hN.1 _ (by decide)]; exact lV
      by_cases t2 : tK (cT M) n (tE (cT M) n p) = 2
      · have e2 := u7 t2
        have r2 := tE_r (t := cT M) u3
        rw [t2] at u6
        simp only [if_pos t2] at hF hY
        by_cases c : tV (cT M) (tS (cT M) n p) (tE (cT M) n p) ≤ tV (cT M) (tS (cT M) n (tE (cT M) n p)) (tE (cT M) n (tE (cT M) n p))
        · simp only [if_pos c] at hY
          have cW := cN.dr g (N 39 9) (c := 44) (by decide)
          have tW9 : cT (zup N 44 g (N 39 9)) = cT M := (cT_o (zup_o _ (by decide))).trans tN
          have vr2 := tV_r t2
          have oW := rO.dr N (c := 44) g (N 39 9) (by decide) ⟨fun z => absurd z (by decide), fun z => absurd z (by decide), fun _ => by omega, fun z => absurd z (by decide), fun z => absurd z (by decide)⟩
          have w5 := cW.2.2.2.2.1
          rw [tW9] at w5
          have q := fun W (h : axM (zup N 44 g (N 39 9)) W n (tE (cT M) n (tE (cT M) n p))) => hY _ _ _ rfl W ((oN.tr oW).tr h.o) (by
            have := cW.nx (by rw [tW9]; exact h)
            rw [tW9] at this
            exact this) (by rw [h.1 _ (by decide), zup_o _ (by decide)]; exact lN) (by rw [h.1 _ (by decide), zup_e]; exact e2) (fun k j k1 k2 hj => by
            rw [h.1 _ (by omega)]
            by_cases e : k = 44
            · rw [e, zup_j (by omega), hN.1 _ (by decide), fV 44 j (by decide) (by decide) (by omega)]
            · rw [zup_o _ e, hN.1 _ (by omega), fV k j k1 k2 hj])
          refine zr_aload_n (pc := 31) S dX4_readBounds_31 rfl ?_
          refine zr_getI (pc := 32) S fX4_readBounds_50 dX4_readBounds_32 rfl (Nat.le_of_ble_eq_true rfl) rfl ?_
          refine zr_iconst (pc := 35) S dX4_readBounds_35 (by unfold zrI; omega) ?_
          refine zr_icmp_eq (pc := 36) (tgt := 45) S dX4_readBounds_36 (by decide) (fun c36 => ?_) (fun c36 => absurd c36 (by omega))
          refine zr_aload_n (pc := 45) S dX4_readBounds_45 rfl ?_
          refine zr_getI (pc := 46) S fX4_readBounds_101 dX4_readBounds_46 rfl (Nat.le_of_ble_eq_true rfl) rfl ?_
          refine zr_aload_n (pc := 49) S dX4_readBounds_49 rfl ?_
          refine zr_getR (pc := 50) S fX4_readBounds_22 dX4_readBounds_50 rfl (Nat.le_of_ble_eq_true rfl) rfl ?_
          refine zr_getR (pc := 53) S fX4_readBounds_98 dX4_readBounds_53 rfl (Nat.le_of_ble_eq_true rfl) rfl ?_
          refine zr_iload_n (pc := 56) S dX4_readBounds_56 rfl ?_
          refine zr_iaload (pc := 57) S dX4_readBounds_57 rfl (Nat.le_of_ble_eq_true rfl) (by omega) (by omega) ?_
          rw [eg]
          refine zr_icmp_ge (pc := 58) (tgt := 67) S dX4_readBounds_58 (by decide) (fun c58 => ?_) (fun c58 => absurd c58 (by omega))
          refine zr_aload_n (pc := 67) S dX4_readBounds_67 rfl ?_
          refine zr_getR (pc := 68) S fX4_readBounds_22 dX4_readBounds_68 rfl (Nat.le_of_ble_eq_true rfl) rfl ?_
          refine zr_getR (pc := 71) S fX4_readBounds_104 dX4_readBounds_71 rfl (Nat.le_of_ble_eq_true rfl) rfl ?_
          refine zr_iload_n (pc := 74) S dX4_readBounds_74 rfl ?_
          refine zr_aload_n (pc := 75) S dX4_readBounds_75 rfl ?_
          refine zr_getI (pc := 76) S fX4_readBounds_101 dX4_readBounds_76 rfl (Nat.le_of_ble_eq_true rfl) rfl ?_
          refine zr_iastore (pc := 79) S dX4_readBounds_79 rfl (Nat.le_of_ble_eq_true rfl) (by omega) (by omega) ?_
          rw [eg]
          refine zr_aload_n (pc := 80) S dX4_readBounds_80 rfl ?_
          refine zr_invV (pc := 81) S [] (m_X4_advance _) kX4_readBounds_47 dX4_readBounds_81 rfl (Nat.le_of_ble_eq_true rfl) rfl (Nat.le_of_ble_eq_true rfl) ⟨Nat.le_of_ble_eq_true rfl, Nat.le_of_ble_eq_true rfl⟩ (us_X4_advance cW.1 cW.2.1 w5 r2.2.1 ?_)
          dsimp only [zaft, Option.toList, List.cons_append, List.nil_append, Nat.add_zero]
          intro W hW
          refine zr_iconst (pc := 84) S dX4_readBounds_84 (by unfold zrI; omega) ?_
          exact zr_zret (pc := 85) S dX4_readBounds_85 rfl (by first | omega | exact b01_r) ⟨Nat.le_refl _, Nat.le_refl _⟩ (q W hW)
        · simp only [if_neg c] at hF
          have q := hF _ rfl (rblM N 4) (oN.tr (rblM.o N 4)) (hbl 4)
          refine zr_aload_n (pc := 31) S dX4_readBounds_31 rfl ?_
          refine zr_getI (pc := 32) S fX4_readBounds_50 dX4_readBounds_32 rfl (Nat.le_of_ble_eq_true rfl) rfl ?_
          refine zr_iconst (pc := 35) S dX4_readBounds_35 (by unfold zrI; omega) ?_
          refine zr_icmp_eq (pc := 36) (tgt := 45) S dX4_readBounds_36 (by decide) (fun c36 => ?_) (fun c36 => absurd c36 (by omega))
          refine zr_aload_n (pc := 45) S dX4_readBounds_45 rfl ?_
          refine zr_getI (pc := 46) S fX4_readBounds_101 dX4_readBounds_46 rfl (Nat.le_of_ble_eq_true rfl) rfl ?_
          refine zr_aload_n (pc := 49) S dX4_readBounds_49 rfl ?_
          refine zr_getR (pc := 50) S fX4_readBounds_22 dX4_readBounds_50 rfl (Nat.le_of_ble_eq_true rfl) rfl ?_
          refine zr_getR (pc := 53) S fX4_readBounds_98 dX4_readBounds_53 rfl (Nat.le_of_ble_eq_true rfl) rfl ?_
          refine zr_iload_n (pc := 56) S dX4_readBounds_56 rfl ?_
          refine zr_iaload (pc := 57) S dX4_readBounds_57 rfl (Nat.le_of_ble_eq_true rfl) (by omega) (by omega) ?_
          rw [eg]
          refine zr_icmp_ge (pc := 58) (tgt := 67) S dX4_readBounds_58 (by decide) (fun c58 => absurd c58 (by omega)) (fun c58 => ?_)
          refine zr_aload_n (pc := 61) S dX4_readBounds_61 rfl ?_
          refine zr_iconst (pc := 62) S dX4_readBounds_62 (by unfold zrI; omega) ?_
          refine zr_invV (pc := 63) S [zI _] (m_X4_blame _) kX4_readBounds_63 dX4_readBounds_63 rfl (Nat.le_of_ble_eq_true rfl) rfl (Nat.le_of_ble_eq_true rfl) ⟨Nat.le_of_ble_eq_true rfl, Nat.le_of_ble_eq_true rfl⟩ (us_X4_blame ?_)
          dsimp only [zaft, Option.toList, List.cons_append, List.nil_append, Nat.add_zero]
          exact zr_zret (pc := 66) S dX4_readBounds_66 rfl (by first | omega | exact b01_r) ⟨Nat.le_refl _, Nat.le_refl _⟩ (q)
      · simp only [if_neg t2] at hF
        rw [← u6] at t2
        have q := hF _ rfl (rblM N 2) (oN.tr (rblM.o N 2)) (hbl 2)
        refine zr_aload_n (pc := 31) S dX4_readBounds_31 rfl ?_
        refine zr_getI (pc := 32) S fX4_readBounds_50 dX4_readBounds_32 rfl (Nat.le_of_ble_eq_true rfl) rfl ?_
        refine zr_iconst (pc := 35) S dX4_readBounds_35 (by unfold zrI; omega) ?_
        refine zr_icmp_eq (pc := 36) (tgt := 45) S dX4_readBounds_36 (by decide) (fun c36 => absurd c36 (by omega)) (fun c36 => ?_)
        refine zr_aload_n (pc := 39) S dX4_readBounds_39 rfl ?_
        refine zr_iconst (pc := 40) S dX4_readBounds_40 (by unfold zrI; omega) ?_
        refine zr_invV (pc := 41) S [zI _] (m_X4_blame _) kX4_readBounds_63 dX4_readBounds_41 rfl (Nat.le_of_ble_eq_true rfl) rfl (Nat.le_of_ble_eq_true rfl) ⟨Nat.le_of_ble_eq_true rfl, Nat.le_of_ble_eq_true rfl⟩ (us_X4_blame ?_)
        dsimp only [zaft, Option.toList, List.cons_append, List.nil_append, Nat.add_zero]
        exact zr_zret (pc := 44) S dX4_readBounds_44 rfl (by first | omega | exact b01_r) ⟨Nat.le_refl _, Nat.le_refl _⟩ (q)
    have v5 := cV.2.2.2.2.1
    rw [tV9] at v5
    refine zr_aload_n (pc := 0) S dX4_readBounds_0 rfl ?_
    refine zr_getI (pc := 1) S fX4_readBounds_50 dX4_readBounds_1 rfl (Nat.le_of_ble_eq_true rfl) rfl ?_
    refine zr_iconst (pc := 4) S dX4_readBounds_4 (by unfold zrI; omega) ?_
    refine zr_icmp_eq (pc := 5) (tgt := 14) S dX4_readBounds_5 (by decide) (fun c5 => ?_) (fun c5 => absurd c5 (by omega))
    refine zr_aload_n (pc := 14) S dX4_readBounds_14 rfl ?_
    refine zr_getR (pc := 15) S fX4_readBounds_22 dX4_readBounds_15 rfl (Nat.le_of_ble_eq_true rfl) rfl ?_
    refine zr_getR (pc := 18) S fX4_readBounds_98 dX4_readBounds_18 rfl (Nat.le_of_ble_eq_true rfl) rfl ?_
    refine zr_iload_n (pc := 21) S dX4_readBounds_21 rfl ?_
    refine zr_aload_n (pc := 22) S dX4_readBounds_22 rfl ?_
    refine zr_getI (pc := 23) S fX4_readBounds_101 dX4_readBounds_23 rfl (Nat.le_of_ble_eq_true rfl) rfl ?_
    refine zr_iastore (pc := 26) S dX4_readBounds_26 rfl (Nat.le_of_ble_eq_true rfl) (by omega) (by omega) ?_
    rw [eg, hU]
    refine zr_aload_n (pc := 27) S dX4_readBounds_27 rfl ?_
    refine zr_invV (pc := 28) S [] (m_X4_advance _) kX4_readBounds_47 dX4_readBounds_28 rfl (Nat.le_of_ble_eq_true rfl) rfl (Nat.le_of_ble_eq_true rfl) ⟨Nat.le_of_ble_eq_true rfl, Nat.le_of_ble_eq_true rfl⟩ (us_X4_advance cV.1 cV.2.1 v5 r.2.1 ?_)
    dsimp only [zaft, Option.toList, List.cons_append, List.nil_append, Nat.add_zero]
    intro N hN
    exact k31 N hN
  · simp only [if_neg tk] at hF
    rw [← h6] at tk
    have q := hF _ rfl (rblM M 2) (rblM.o M 2) (hc.bl 2)
    refine zr_aload_n (pc := 0) S dX4_readBounds_0 rfl ?_
    refine zr_getI (pc := 1) S fX4_readBounds_50 dX4_readBounds_1 rfl (Nat.le_of_ble_eq_true rfl) rfl ?_
    refine zr_iconst (pc := 4) S dX4_readBounds_4 (by unfold zrI; omega) ?_
    refine zr_icmp_eq (pc := 5) (tgt := 14) S dX4_readBounds_5 (by decide) (fun c5 => absurd c5 (by omega)) (fun c5 => ?_)
    refine zr_aload_n (pc := 8) S dX4_readBounds_8 rfl ?_
    refine zr_iconst (pc := 9) S dX4_readBounds_9 (by unfold zrI; omega) ?_
    refine zr_invV (pc := 10) S [zI _] (m_X4_blame _) kX4_readBounds_63 dX4_readBounds_10 rfl (Nat.le_of_ble_eq_true rfl) rfl (Nat.le_of_ble_eq_true rfl) ⟨Nat.le_of_ble_eq_true rfl, Nat.le_of_ble_eq_true rfl⟩ (us_X4_blame ?_)
    dsimp only [zaft, Option.toList, List.cons_append, List.nil_append, Nat.add_zero]
    exact zr_zret (pc := 13) S dX4_readBounds_13 rfl (by first | omega | exact b01_r) ⟨Nat.le_refl _, Nat.le_refl _⟩ (q)
end
