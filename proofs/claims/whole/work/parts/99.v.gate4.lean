section
theorem rg120 {E : zE} {X : zX} {Qp : Option zV → zM → Prop} {M U : zM} {n p gg : Nat} {L : List Int} {g ms : Int} (S : zS (zg E) X cX12_readGate 4 wzX12_readGate RX12 none) (hg : gg < 8) (oU : rdO M U) (hc : curT U n p) (hf : frs M U (7 * gg) L) (hL : L.length = 3) (hQ : gPost M n (7 * gg) (pYes (U 184) n L p) (Qp none)) : zK (zg E) rmX12_readGate 4 (Qp, 0, 0) X (0, 0) 120 [some (zR 180), some (zI g), some (zI (7 * (gg : Int))), some (zI ms)] [] U := by
  have hc0 := hc
  obtain ⟨h1, h2, h3, h4, h5, h6, h7, h8⟩ := hc0
  have r := tE_r (t := U 184) h3
  unfold pYes at hQ
  by_cases c : wrd (U 184) n p 5
  · rw [if_pos c] at hQ
    have kk : ∀ N, nxM U N n (tE (U 184) n p) → zK (zg E) rmX12_readGate 4 (Qp, 0, 0) X (0, 0) 126 [some (zR 180), some (zI g), some (zI (7 * (gg : Int))), some (zI ms)] [] N := by
      intro N hN
      have cN := hc.nx hN
      have tN : N 184 = U 184 := hN.1 _ (by decide)
      have fN : N 185 = U 185 := hN.1 _ (by decide)
      have oN := oU.tr hN.o
      have bN := cN.2.2.2.2.2.2.2
      unfold pThen at hQ
      rw [← tN] at hQ
      have ek : (7 * (gg : Int)) + 3 = ((7 * gg + 3 : Nat) : Int) := by omega
      have k140f : ∀ f, pGoal (N 184) n (tE (U 184) n p) = .inl f → ∀ W, rdO N W → flt W f → rdS W n → zK (zg E) rmX12_readGate 4 (Qp, 0, 0) X (0, 0) 140 [some (zR 180), some (zI g), some (zI (7 * (gg : Int))), some (zI ms)] [] W := by
        intro f hq W oW fW rW
        rw [tN] at hQ
        have f0 := pGoal_0 hq
        rw [tN] at hq
        rw [hq] at hQ
        exact rb140 S hQ ⟨oN.tr oW, fW, f0, rW⟩
      have k140y : ∀ a b q, pGoal (N 184) n (tE (U 184) n p) = .inr ((a, b), q) → ∀ W, rdO N W → curT W n q → W 185 (7 * gg + 3) = a → W 185 (7 * gg + 3 + 1) = b → (∀ j, j ≠ 7 * gg + 3 → j ≠ 7 * gg + 3 + 1 → W 185 j = N 185 j) → zK (zg E) rmX12_readGate 4 (Qp, 0, 0) X (0, 0) 140 [some (zR 180), some (zI g), some (zI (7 * (gg : Int))), some (zI ms)] [] W := by
        intro a b q hq W oW cW wa wb wj
        have tW : W 184 = N 184 := oW.1 _ (by decide) (by decide)
        refine rg140 (L := L ++ [a, b]) S hg (oN.tr oW) cW (hf.app (by omega) (by rw [hL]; exact wa) (by rw [hL]; exact wb) (fun j j1 j2 => by rw [hL] at j1 j2; rw [wj j j1 j2, fN])) (by rw [List.length_append, hL]; rfl) ?_
        rw [tN] at hQ hq
        rw [hq] at hQ
        rw [tW, tN]
        exact hQ
      rcases hG : pGoal (N 184) n (tE (U 184) n p) with f | ⟨⟨a, b⟩, q⟩
      · refine zr_aload_n (pc := 126) S dX12_readGate_126 rfl ?_
        refine zr_getI (pc := 127) S fX12_readGate_163 dX12_readGate_127 rfl (Nat.le_of_ble_eq_true rfl) rfl ?_
        refine zr_if_ne (pc := 130) (tgt := 140) S dX12_readGate_130 (by decide) (fun c130 => absurd c130 (by omega)) (fun c130 => ?_)
        refine zr_aload_n (pc := 133) S dX12_readGate_133 rfl ?_
        refine zr_iload_n (pc := 134) S dX12_readGate_134 rfl ?_
        refine zr_iconst (pc := 135) S dX12_readGate_135 (by unfold zrI; omega) ?_
        refine zr_iadd (pc := 136) S dX12_readGate_136 (by unfold zrI; omega) ?_
        rw [ek]
        refine zr_invV (pc := 137) S [zI _] (m_X12_readGoal _) kX12_readGate_214 dX12_readGate_137 rfl (Nat.le_of_ble_eq_true rfl) rfl (Nat.le_of_ble_eq_true rfl) ⟨Nat.le_of_ble_eq_true rfl, Nat.le_of_ble_eq_true rfl⟩ (us_X12_readGoal (w := 7 * gg + 3) (n := n) (p := tE (U 184) n p) cN (by omega) (fun f hf W oW fW rW => ?_) (fun a b q hq => absurd (hG.symm.trans hq) (by simp)))
        dsimp only [zaft, Option.toList, List.cons_append, List.nil_append, Nat.add_zero]
        exact k140f f hf W oW fW rW
      · refine zr_aload_n (pc := 126) S dX12_readGate_126 rfl ?_
        refine zr_getI (pc := 127) S fX12_readGate_163 dX12_readGate_127 rfl (Nat.le_of_ble_eq_true rfl) rfl ?_
        refine zr_if_ne (pc := 130) (tgt := 140) S dX12_readGate_130 (by decide) (fun c130 => absurd c130 (by omega)) (fun c130 => ?_)
        refine zr_aload_n (pc := 133) S dX12_readGate_133 rfl ?_
        refine zr_iload_n (pc := 134) S dX12_readGate_134 rfl ?_
        refine zr_iconst (pc := 135) S dX12_readGate_135 (by unfold zrI; omega) ?_
        refine zr_iadd (pc := 136) S dX12_readGate_136 (by unfold zrI; omega) ?_
        rw [ek]
        refine zr_invV (pc := 137) S [zI _] (m_X12_readGoal _) kX12_readGate_214 dX12_readGate_137 rfl (Nat.le_of_ble_eq_true rfl) rfl (Nat.le_of_ble_eq_true rfl) ⟨Nat.le_of_ble_eq_true rfl, Nat.le_of_ble_eq_true rfl⟩ (us_X12_readGoal (w := 7 * gg + 3) (n := n) (p := tE (U 184) n p) cN (by omega) (fun f hf => absurd (hG.symm.trans hf) (by simp)) (fun a b q hq W oW cW wa wb wj => ?_))
        dsimp only [zaft, Option.toList, List.cons_append, List.nil_append, Nat.add_zero]
        exact k140y a b q hq W oW cW wa wb wj
    refine zr_aload_n (pc := 120) S dX12_readGate_120 rfl ?_
    refine zr_ldcS (pc := 121) (k9 := 5) S (List.mem_of_getElem? (i := 15) rfl) dX12_readGate_121 ?_
    refine zr_invV (pc := 123) S [zR _] (m_X12_needs _) kX12_readGate_202 dX12_readGate_123 rfl (Nat.le_of_ble_eq_true rfl) rfl (Nat.le_of_ble_eq_true rfl) ⟨Nat.le_of_ble_eq_true rfl, Nat.le_of_ble_eq_true rfl⟩ (us_X12_needs (i := 5) (by decide) h4 h5 ⟨r.1, r.2.1⟩ h1 h2 (fun z => absurd h8 z) (fun _ z => absurd ⟨h6.trans c.1, c.2⟩ z) (fun _ _ N hN => ?_))
    dsimp only [zaft, Option.toList, List.cons_append, List.nil_append, Nat.add_zero]
    exact kk N hN
  · rw [if_neg c] at hQ
    have l := rb140 (E := E) (X := X) (g := g) (k := 7 * (gg : Int)) (ms := ms) S hQ (curT.f oU hc (k := 2) (by decide))
    have b := blM_b (M := U) (k := 2) (by decide)
    refine zr_aload_n (pc := 120) S dX12_readGate_120 rfl ?_
    refine zr_ldcS (pc := 121) (k9 := 5) S (List.mem_of_getElem? (i := 15) rfl) dX12_readGate_121 ?_
    refine zr_invV (pc := 123) S [zR _] (m_X12_needs _) kX12_readGate_202 dX12_readGate_123 rfl (Nat.le_of_ble_eq_true rfl) rfl (Nat.le_of_ble_eq_true rfl) ⟨Nat.le_of_ble_eq_true rfl, Nat.le_of_ble_eq_true rfl⟩ (us_X12_needs (i := 5) (by decide) h4 h5 ⟨r.1, r.2.1⟩ h1 h2 (fun z => absurd h8 z) (fun _ _ => ?_) (fun _ z => absurd ⟨h6.symm.trans z.1, z.2⟩ c))
    dsimp only [zaft, Option.toList, List.cons_append, List.nil_append, Nat.add_zero]
    refine zr_aload_n (pc := 126) S dX12_readGate_126 rfl ?_
    refine zr_getI (pc := 127) S fX12_readGate_163 dX12_readGate_127 rfl (Nat.le_of_ble_eq_true rfl) rfl ?_
    refine zr_if_ne (pc := 130) (tgt := 140) S dX12_readGate_130 (by decide) (fun c130 => ?_) (fun c130 => absurd c130 (by omega))
    exact l
end
