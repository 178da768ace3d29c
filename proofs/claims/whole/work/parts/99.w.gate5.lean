section
theorem frs.one {M U U' : zM} {o : Nat} {L : List Int} {a : Int} (h : frs M U o L) (hl : L.length < 7) (ha : U' 185 (o + L.length) = a) (hj : ∀ j, j ≠ o + L.length → U' 185 j = U 185 j) : frs M U' o (L ++ [a]) := by
  refine ⟨fun j h9 => ?_, fun j h9 => by rw [hj j (by omega)]; exact h.2 j h9⟩
  rw [List.length_append] at h9
  simp only [List.length_cons, List.length_nil] at h9
  by_cases c : j < L.length
  · rw [hj _ (by omega), h.1 j c, List.getD_eq_getElem?_getD, List.getD_eq_getElem?_getD, List.getElem?_append_left c]
  · rw [List.getD_eq_getElem?_getD, List.getElem?_append_right (by omega), show j = L.length by omega, ha, Nat.sub_self]; rfl
theorem curT.fr {U : zM} {n p o : Nat} {v : Int} (h : curT U n p) : curT (zup U 185 o v) n p := by
  unfold curT
  rw [zup_o 180 (by decide), zup_o 184 (by decide)]
  exact h
theorem rdO.fr (U : zM) (o : Nat) (v : Int) : rdO U (zup U 185 o v) := ⟨fun k _ k2 => zup_o k k2, fun j _ _ _ _ _ _ => by rw [zup_o _ (by decide)]⟩
theorem rg97 {E : zE} {X : zX} {Qp : Option zV → zM → Prop} {M U : zM} {n p gg : Nat} {m0 lo : Int} {g ms : Int} (S : zS (zg E) X cX12_readGate 4 wzX12_readGate RX12 none) (hg : gg < 8) (oU : rdO M U) (hc : curT U n p) (hf : frs M U (7 * gg) [m0, lo]) (hQ : gPost M n (7 * gg) (pHi (U 184) n m0 lo p) (Qp none)) : zK (zg E) rmX12_readGate 4 (Qp, 0, 0) X (0, 0) 97 [some (zR 180), some (zI g), some (zI (7 * (gg : Int))), some (zI ms)] [] U := by
  have hc0 := hc
  obtain ⟨h1, h2, h3, h4, h5, h6, h7, h8⟩ := hc0
  have r := tE_r (t := U 184) h3
  have e2 : ((7 * (gg : Int)) + 2).toNat = 7 * gg + 2 := by omega
  have e1 : U 185 ((7 * (gg : Int)) + 1).toNat = lo := by rw [show ((7 * (gg : Int)) + 1).toNat = 7 * gg + 1 by omega]; exact hf.1 1 (by simp)
  have bad : ∀ kd : Int, kd ≠ 0 → (∀ M', rdO M M' → flt M' (blP (U 184) n p kd) → Qp none M') → zK (zg E) rmX12_readGate 4 (Qp, 0, 0) X (0, 0) 120 [some (zR 180), some (zI g), some (zI (7 * (gg : Int))), some (zI ms)] [] (zup (blM U kd) 185 (7 * gg + 2) (U 180 11)) := fun kd hk q => rb120 S q ((curT.f oU hc hk).up _ _)
  unfold pHi at hQ
  by_cases tk : tK (U 184) n p = 2
  · have vr := tV_r tk
    have ev := h7 tk
    rw [if_pos tk] at hQ
    rw [tk] at h6
    by_cases c : lo ≤ tV (U 184) (tS (U 184) n p) (tE (U 184) n p)
    · rw [if_pos c] at hQ
      have l : ∀ N, nxM U N n (tE (U 184) n p) → zK (zg E) rmX12_readGate 4 (Qp, 0, 0) X (0, 0) 120 [some (zR 180), some (zI g), some (zI (7 * (gg : Int))), some (zI ms)] [] (zup N 185 (7 * gg + 2) (U 180 11)) := fun N hN => by
        have tN : zup N 185 (7 * gg + 2) (U 180 11) 184 = U 184 := by rw [zup_o _ (by decide)]; exact hN.1 _ (by decide)
        refine rg120 (L := [m0, lo] ++ [U 180 11]) S hg ((oU.tr hN.o).tr (rdO.fr N _ _)) (hc.nx hN).fr (hf.one (by simp) zup_e (fun j hj => (zup_j (show j ≠ 7 * gg + 2 from hj)).trans (by rw [hN.1 _ (by decide)]))) rfl ?_
        rw [tN, ev]
        exact hQ
      refine zr_aload_n (pc := 97) S dX12_readGate_97 rfl ?_
      refine zr_getR (pc := 98) S fX12_readGate_23 dX12_readGate_98 rfl (Nat.le_of_ble_eq_true rfl) rfl ?_
      refine zr_iload_n (pc := 101) S dX12_readGate_101 rfl ?_
      refine zr_iconst (pc := 102) S dX12_readGate_102 (by unfold zrI; omega) ?_
      refine zr_iadd (pc := 103) S dX12_readGate_103 (by unfold zrI; omega) ?_
      refine zr_aload_n (pc := 104) S dX12_readGate_104 rfl ?_
      refine zr_aload_n (pc := 105) S dX12_readGate_105 rfl ?_
      refine zr_getR (pc := 106) S fX12_readGate_23 dX12_readGate_106 rfl (Nat.le_of_ble_eq_true rfl) rfl ?_
      refine zr_iload_n (pc := 109) S dX12_readGate_109 rfl ?_
      refine zr_iconst (pc := 110) S dX12_readGate_110 (by unfold zrI; omega) ?_
      refine zr_iadd (pc := 111) S dX12_readGate_111 (by unfold zrI; omega) ?_
      refine zr_iaload (pc := 112) S dX12_readGate_112 rfl (Nat.le_of_ble_eq_true rfl) (by omega) (by omega) ?_
      rw [e1]
      refine zr_bipush (pc := 113) S dX12_readGate_113 ⟨by unfold zrI; omega, by decide⟩ ?_
      refine zr_iconst (pc := 115) S dX12_readGate_115 (by unfold zrI; omega) ?_
      refine zr_invV (pc := 116) S [zI _, zI _, zI _] (m_X12_number _) kX12_readGate_197 dX12_readGate_116 rfl (Nat.le_of_ble_eq_true rfl) rfl (Nat.le_of_ble_eq_true rfl) ⟨Nat.le_of_ble_eq_true rfl, Nat.le_of_ble_eq_true rfl⟩ (us_X12_number (by decide) h5 r.2.1 h1 h2 (fun z => absurd h8 z) (fun _ z => absurd h6 z) (fun _ _ z => absurd ⟨by omega, by omega⟩ z) (fun _ _ _ N hN => ?_))
      dsimp only [zaft, Option.toList, List.cons_append, List.nil_append, Nat.add_zero]
      refine zr_iastore (pc := 119) S dX12_readGate_119 rfl (Nat.le_of_ble_eq_true rfl) (by omega) (by omega) ?_
      rw [e2]
      exact l N hN
    · rw [if_neg c] at hQ
      have l := bad 4 (by decide) hQ
      refine zr_aload_n (pc := 97) S dX12_readGate_97 rfl ?_
      refine zr_getR (pc := 98) S fX12_readGate_23 dX12_readGate_98 rfl (Nat.le_of_ble_eq_true rfl) rfl ?_
      refine zr_iload_n (pc := 101) S dX12_readGate_101 rfl ?_
      refine zr_iconst (pc := 102) S dX12_readGate_102 (by unfold zrI; omega) ?_
      refine zr_iadd (pc := 103) S dX12_readGate_103 (by unfold zrI; omega) ?_
      refine zr_aload_n (pc := 104) S dX12_readGate_104 rfl ?_
      refine zr_aload_n (pc := 105) S dX12_readGate_105 rfl ?_
      refine zr_getR (pc := 106) S fX12_readGate_23 dX12_readGate_106 rfl (Nat.le_of_ble_eq_true rfl) rfl ?_
      refine zr_iload_n (pc := 109) S dX12_readGate_109 rfl ?_
      refine zr_iconst (pc := 110) S dX12_readGate_110 (by unfold zrI; omega) ?_
      refine zr_iadd (pc := 111) S dX12_readGate_111 (by unfold zrI; omega) ?_
      refine zr_iaload (pc := 112) S dX12_readGate_112 rfl (Nat.le_of_ble_eq_true rfl) (by omega) (by omega) ?_
      rw [e1]
      refine zr_bipush (pc := 113) S dX12_readGate_113 ⟨by unfold zrI; omega, by decide⟩ ?_
      refine zr_iconst (pc := 115) S dX12_readGate_115 (by unfold zrI; omega) ?_
      refine zr_invV (pc := 116) S [zI _, zI _, zI _] (m_X12_number _) kX12_readGate_197 dX12_readGate_116 rfl (Nat.le_of_ble_eq_true rfl) rfl (Nat.le_of_ble_eq_true rfl) ⟨Nat.le_of_ble_eq_true rfl, Nat.le_of_ble_eq_true rfl⟩ (us_X12_number (by decide) h5 r.2.1 h1 h2 (fun z => absurd h8 z) (fun _ z => absurd h6 z) (fun _ _ _ => ?_) (fun _ _ z => absurd z (by omega)))
      dsimp only [zaft, Option.toList, List.cons_append, List.nil_append, Nat.add_zero]
      refine zr_iastore (pc := 119) S dX12_readGate_119 rfl (Nat.le_of_ble_eq_true rfl) (by omega) (by omega) ?_
      rw [e2]
      exact l
  · rw [if_neg tk] at hQ
    rw [← h6] at tk
    have l := bad 2 (by decide) hQ
    refine zr_aload_n (pc := 97) S dX12_readGate_97 rfl ?_
    refine zr_getR (pc := 98) S fX12_readGate_23 dX12_readGate_98 rfl (Nat.le_of_ble_eq_true rfl) rfl ?_
    refine zr_iload_n (pc := 101) S dX12_readGate_101 rfl ?_
    refine zr_iconst (pc := 102) S dX12_readGate_102 (by unfold zrI; omega) ?_
    refine zr_iadd (pc := 103) S dX12_readGate_103 (by unfold zrI; omega) ?_
    refine zr_aload_n (pc := 104) S dX12_readGate_104 rfl ?_
    refine zr_aload_n (pc := 105) S dX12_readGate_105 rfl ?_
    refine zr_getR (pc := 106) S fX12_readGate_23 dX12_readGate_106 rfl (Nat.le_of_ble_eq_true rfl) rfl ?_
    refine zr_iload_n (pc := 109) S dX12_readGate_109 rfl ?_
    refine zr_iconst (pc := 110) S dX12_readGate_110 (by unfold zrI; omega) ?_
    refine zr_iadd (pc := 111) S dX12_readGate_111 (by unfold zrI; omega) ?_
    refine zr_iaload (pc := 112) S dX12_readGate_112 rfl (Nat.le_of_ble_eq_true rfl) (by omega) (by omega) ?_
    rw [e1]
    refine zr_bipush (pc := 113) S dX12_readGate_113 ⟨by unfold zrI; omega, by decide⟩ ?_
    refine zr_iconst (pc := 115) S dX12_readGate_115 (by unfold zrI; omega) ?_
    refine zr_invV (pc := 116) S [zI _, zI _, zI _] (m_X12_number _) kX12_readGate_197 dX12_readGate_116 rfl (Nat.le_of_ble_eq_true rfl) rfl (Nat.le_of_ble_eq_true rfl) ⟨Nat.le_of_ble_eq_true rfl, Nat.le_of_ble_eq_true rfl⟩ (us_X12_number (by decide) h5 r.2.1 h1 h2 (fun z => absurd h8 z) (fun _ _ => ?_) (fun _ z => absurd z tk) (fun _ z => absurd z tk))
    dsimp only [zaft, Option.toList, List.cons_append, List.nil_append, Nat.add_zero]
    refine zr_iastore (pc := 119) S dX12_readGate_119 rfl (Nat.le_of_ble_eq_true rfl) (by omega) (by omega) ?_
    rw [e2]
    exact l
theorem rg81 {E : zE} {X : zX} {Qp : Option zV → zM → Prop} {M U : zM} {n p gg : Nat} {m0 : Int} {g ms : Int} (S : zS (zg E) X cX12_readGate 4 wzX12_readGate RX12 none) (hg : gg < 8) (oU : rdO M U) (hc : curT U n p) (hf : frs M U (7 * gg) [m0]) (hQ : gPost M n (7 * gg) (pLo (U 184) n m0 p) (Qp none)) : zK (zg E) rmX12_readGate 4 (Qp, 0, 0) X (0, 0) 81 [some (zR 180), some (zI g), some (zI (7 * (gg : Int))), some (zI ms)] [] U := by
  have hc0 := hc
  obtain ⟨h1, h2, h3, h4, h5, h6, h7, h8⟩ := hc0
  have r := tE_r (t := U 184) h3
  have e2 : ((7 * (gg : Int)) + 1).toNat = 7 * gg + 1 := by omega
  unfold pLo at hQ
  by_cases tk : tK (U 184) n p = 2
  · have vr := tV_r tk
    have ev := h7 tk
    rw [if_pos tk] at hQ
    rw [tk] at h6
    have l : ∀ N, nxM U N n (tE (U 184) n p) → zK (zg E) rmX12_readGate 4 (Qp, 0, 0) X (0, 0) 97 [some (zR 180), some (zI g), some (zI (7 * (gg : Int))), some (zI ms)] [] (zup N 185 (7 * gg + 1) (U 180 11)) := fun N hN => by
      have tN : zup N 185 (7 * gg + 1) (U 180 11) 184 = U 184 := by rw [zup_o _ (by decide)]; exact hN.1 _ (by decide)
      refine rg97 (m0 := m0) (lo := U 180 11) S hg ((oU.tr hN.o).tr (rdO.fr N _ _)) (hc.nx hN).fr (hf.one (by simp) zup_e (fun j hj => (zup_j (show j ≠ 7 * gg + 1 from hj)).trans (by rw [hN.1 _ (by decide)]))) ?_
      rw [tN, ev]
      exact hQ
    refine zr_aload_n (pc := 81) S dX12_readGate_81 rfl ?_
    refine zr_getR (pc := 82) S fX12_readGate_23 dX12_readGate_82 rfl (Nat.le_of_ble_eq_true rfl) rfl ?_
    refine zr_iload_n (pc := 85) S dX12_readGate_85 rfl ?_
    refine zr_iconst (pc := 86) S dX12_readGate_86 (by unfold zrI; omega) ?_
    refine zr_iadd (pc := 87) S dX12_readGate_87 (by unfold zrI; omega) ?_
    refine zr_aload_n (pc := 88) S dX12_readGate_88 rfl ?_
    refine zr_iconst (pc := 89) S dX12_readGate_89 (by unfold zrI; omega) ?_
    refine zr_bipush (pc := 90) S dX12_readGate_90 ⟨by unfold zrI; omega, by decide⟩ ?_
    refine zr_iconst (pc := 92) S dX12_readGate_92 (by unfold zrI; omega) ?_
    refine zr_invV (pc := 93) S [zI _, zI _, zI _] (m_X12_number _) kX12_readGate_197 dX12_readGate_93 rfl (Nat.le_of_ble_eq_true rfl) rfl (Nat.le_of_ble_eq_true rfl) ⟨Nat.le_of_ble_eq_true rfl, Nat.le_of_ble_eq_true rfl⟩ (us_X12_number (by decide) h5 r.2.1 h1 h2 (fun z => absurd h8 z) (fun _ z => absurd h6 z) (fun _ _ z => absurd ⟨by omega, by omega⟩ z) (fun _ _ _ N hN => ?_))
    dsimp only [zaft, Option.toList, List.cons_append, List.nil_append, Nat.add_zero]
    refine zr_iastore (pc := 96) S dX12_readGate_96 rfl (Nat.le_of_ble_eq_true rfl) (by omega) (by omega) ?_
    rw [e2]
    exact l N hN
  · rw [if_neg tk] at hQ
    rw [← h6] at tk
    have l := rb97 (E := E) (X := X) (Qp := Qp) (gg := gg) (g := g) (ms := ms) S hg hQ ((curT.f oU hc (k := 2) (by decide)).up (7 * gg + 1) (U 180 11))
    refine zr_aload_n (pc := 81) S dX12_readGate_81 rfl ?_
    refine zr_getR (pc := 82) S fX12_readGate_23 dX12_readGate_82 rfl (Nat.le_of_ble_eq_true rfl) rfl ?_
    refine zr_iload_n (pc := 85) S dX12_readGate_85 rfl ?_
    refine zr_iconst (pc := 86) S dX12_readGate_86 (by unfold zrI; omega) ?_
    refine zr_iadd (pc := 87) S dX12_readGate_87 (by unfold zrI; omega) ?_
    refine zr_aload_n (pc := 88) S dX12_readGate_88 rfl ?_
    refine zr_iconst (pc := 89) S dX12_readGate_89 (by unfold zrI; omega) ?_
    refine zr_bipush (pc := 90) S dX12_readGate_90 ⟨by unfold zrI; omega, by decide⟩ ?_
    refine zr_iconst (pc := 92) S dX12_readGate_92 (by unfold zrI; omega) ?_
    refine zr_invV (pc := 93) S [zI _, zI _, zI _] (m_X12_number _) kX12_readGate_197 dX12_readGate_93 rfl (Nat.le_of_ble_eq_true rfl) rfl (Nat.le_of_ble_eq_true rfl) ⟨Nat.le_of_ble_eq_true rfl, Nat.le_of_ble_eq_true rfl⟩ (us_X12_number (by decide) h5 r.2.1 h1 h2 (fun z => absurd h8 z) (fun _ _ => ?_) (fun _ z => absurd z tk) (fun _ z => absurd z tk))
    dsimp only [zaft, Option.toList, List.cons_append, List.nil_append, Nat.add_zero]
    refine zr_iastore (pc := 96) S dX12_readGate_96 rfl (Nat.le_of_ble_eq_true rfl) (by omega) (by omega) ?_
    rw [e2]
    exact l
end
