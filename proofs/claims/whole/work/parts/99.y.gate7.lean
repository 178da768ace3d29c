section
def sp_X12_readGate (as : List zV) (M : zM) (Q : Option zV → zM → Prop) : Prop := ∃ (gg n p : Nat), as = [zR 180, zI gg] ∧ (gg < 8) ∧ (curT M n p) ∧ (gPost M n (7 * gg) (pGate (M 184) n p) (Q none))
theorem us_X12_readGate {gg n p : Nat} {M : zM} {Q : Option zV → zM → Prop} (hg : gg < 8) (hc : curT M n p) (hQ : gPost M n (7 * gg) (pGate (M 184) n p) (Q none)) : sp_X12_readGate [zR 180, zI gg] M Q := ⟨gg, n, p, rfl, hg, hc, hQ⟩
set_option maxRecDepth 20000 in
set_option maxHeartbeats 4000000 in
theorem m_X12_readGate (l : Launch) : zC l yX12_readGate wzX12_readGate rmX12_readGate sp_X12_readGate := by
  refine zMet.of RX12 (by decide +kernel) rfl rfl ?_
  intro E X as M Qp hX S hsp
  obtain ⟨gg, n, p, rfl, hg, hc, hQ⟩ := hsp
  refine ⟨Nat.le_of_ble_eq_true rfl, ?_⟩
  dsimp only [zpad, zargs]
  have hc0 := hc
  obtain ⟨h1, h2, h3, h4, h5, h6, h7, h8⟩ := hc0
  have r := tE_r (t := M 184) h3
  unfold pGate at hQ
  by_cases c : wrd (M 184) n p 0
  · rw [if_pos c] at hQ
    have l : ∀ N, nxM M N n (tE (M 184) n p) → zK (zg E) rmX12_readGate 4 (Qp, 0, 0) X (0, 0) 11 [some (zR 180), some (zI gg), some (zI (7 * (gg : Int))), none] [] N := fun N hN => by
      have tN : N 184 = M 184 := hN.1 _ (by decide)
      exact rg11 S hg hN.o (hN.1 _ (by decide)) (hc.nx hN) (by rw [tN]; exact hQ)
    refine zr_bipush (pc := 0) S dX12_readGate_0 ⟨by unfold zrI; omega, by decide⟩ ?_
    refine zr_iload_n (pc := 2) S dX12_readGate_2 rfl ?_
    refine zr_imul (pc := 3) S dX12_readGate_3 (by unfold zrI; omega) ?_
    refine zr_istore_n (pc := 4) S 2 dX12_readGate_4 rfl (by decide) ?_
    dsimp only [zst1, zst2, zset, zget, zlong]
    refine zr_aload_n (pc := 5) S dX12_readGate_5 rfl ?_
    refine zr_ldcS (pc := 6) (k9 := 0) S (List.mem_of_getElem? (i := 10) rfl) dX12_readGate_6 ?_
    refine zr_invV (pc := 8) S [zR _] (m_X12_needs _) kX12_readGate_202 dX12_readGate_8 rfl (Nat.le_of_ble_eq_true rfl) rfl (Nat.le_of_ble_eq_true rfl) ⟨Nat.le_of_ble_eq_true rfl, Nat.le_of_ble_eq_true rfl⟩ (us_X12_needs (i := 0) (by decide) h4 h5 ⟨r.1, r.2.1⟩ h1 h2 (fun z => absurd h8 z) (fun _ z => absurd ⟨h6.trans c.1, c.2⟩ z) (fun _ _ N hN => ?_))
    dsimp only [zaft, Option.toList, List.cons_append, List.nil_append, Nat.add_zero]
    exact l N hN
  · rw [if_neg c] at hQ
    have q := hQ (blM M 2) (blM.o M 2) (hc.bl 2)
    have b := blM_b (M := M) (k := 2) (by decide)
    have h4' : blM M 2 180 9 = (tS (M 184) n p : Nat) := by rw [blM_j (by decide)]; exact h4
    have h5' : blM M 2 180 8 = (tE (M 184) n p : Nat) := by rw [blM_j (by decide)]; exact h5
    have bi : blM (blM M 2) 2 = blM M 2 := by rw [blM.eq_1 (blM M 2) 2, if_neg b]
    have r4 : tS (M 184) n p ≤ tE (M 184) n p ∧ tE (M 184) n p ≤ 400 := by omega
    refine zr_bipush (pc := 0) S dX12_readGate_0 ⟨by unfold zrI; omega, by decide⟩ ?_
    refine zr_iload_n (pc := 2) S dX12_readGate_2 rfl ?_
    refine zr_imul (pc := 3) S dX12_readGate_3 (by unfold zrI; omega) ?_
    refine zr_istore_n (pc := 4) S 2 dX12_readGate_4 rfl (by decide) ?_
    dsimp only [zst1, zst2, zset, zget, zlong]
    refine zr_aload_n (pc := 5) S dX12_readGate_5 rfl ?_
    refine zr_ldcS (pc := 6) (k9 := 0) S (List.mem_of_getElem? (i := 10) rfl) dX12_readGate_6 ?_
    refine zr_invV (pc := 8) S [zR _] (m_X12_needs _) kX12_readGate_202 dX12_readGate_8 rfl (Nat.le_of_ble_eq_true rfl) rfl (Nat.le_of_ble_eq_true rfl) ⟨Nat.le_of_ble_eq_true rfl, Nat.le_of_ble_eq_true rfl⟩ (us_X12_needs (i := 0) (by decide) h4 h5 ⟨r.1, r.2.1⟩ h1 h2 (fun z => absurd h8 z) (fun _ _ => ?_) (fun _ z => absurd ⟨h6.symm.trans z.1, z.2⟩ c))
    dsimp only [zaft, Option.toList, List.cons_append, List.nil_append, Nat.add_zero]
    refine zr_aload_n (pc := 11) S dX12_readGate_11 rfl ?_
    refine zr_ldcS (pc := 12) (k9 := 7) S (List.mem_of_getElem? (i := 17) rfl) dX12_readGate_12 ?_
    refine zr_invV (pc := 14) S [zR _] (m_X12_isWord _) kX12_readGate_179 dX12_readGate_14 rfl (Nat.le_of_ble_eq_true rfl) rfl (Nat.le_of_ble_eq_true rfl) ⟨Nat.le_of_ble_eq_true rfl, Nat.le_of_ble_eq_true rfl⟩ (us_X12_isWord (i := 7) (by decide) h4' h5' r4 ?_)
    dsimp only [zaft, Option.toList, List.cons_append, List.nil_append, Nat.add_zero]
    rw [b01_f (fun z => b z.1)]
    refine zr_if_eq (pc := 17) (tgt := 24) S dX12_readGate_17 (by decide) (fun c17 => ?_) (fun c17 => absurd c17 (by omega))
    refine zr_aload_n (pc := 24) S dX12_readGate_24 rfl ?_
    refine zr_ldcS (pc := 25) (k9 := 8) S (List.mem_of_getElem? (i := 18) rfl) dX12_readGate_25 ?_
    refine zr_invV (pc := 27) S [zR _] (m_X12_isWord _) kX12_readGate_179 dX12_readGate_27 rfl (Nat.le_of_ble_eq_true rfl) rfl (Nat.le_of_ble_eq_true rfl) ⟨Nat.le_of_ble_eq_true rfl, Nat.le_of_ble_eq_true rfl⟩ (us_X12_isWord (i := 8) (by decide) h4' h5' r4 ?_)
    dsimp only [zaft, Option.toList, List.cons_append, List.nil_append, Nat.add_zero]
    rw [b01_f (fun z => b z.1)]
    refine zr_if_eq (pc := 30) (tgt := 37) S dX12_readGate_30 (by decide) (fun c30 => ?_) (fun c30 => absurd c30 (by omega))
    refine zr_aload_n (pc := 37) S dX12_readGate_37 rfl ?_
    refine zr_ldcS (pc := 38) (k9 := 9) S (List.mem_of_getElem? (i := 19) rfl) dX12_readGate_38 ?_
    refine zr_invV (pc := 40) S [zR _] (m_X12_isWord _) kX12_readGate_179 dX12_readGate_40 rfl (Nat.le_of_ble_eq_true rfl) rfl (Nat.le_of_ble_eq_true rfl) ⟨Nat.le_of_ble_eq_true rfl, Nat.le_of_ble_eq_true rfl⟩ (us_X12_isWord (i := 9) (by decide) h4' h5' r4 ?_)
    dsimp only [zaft, Option.toList, List.cons_append, List.nil_append, Nat.add_zero]
    rw [b01_f (fun z => b z.1)]
    refine zr_if_eq (pc := 43) (tgt := 50) S dX12_readGate_43 (by decide) (fun c43 => ?_) (fun c43 => absurd c43 (by omega))
    refine zr_iconst (pc := 50) S dX12_readGate_50 (by unfold zrI; omega) ?_
    refine zr_istore_n (pc := 51) S 3 dX12_readGate_51 rfl (by decide) ?_
    dsimp only [zst1, zst2, zset, zget, zlong]
    refine zr_iload_n (pc := 52) S dX12_readGate_52 rfl ?_
    refine zr_iconst (pc := 53) S dX12_readGate_53 (by unfold zrI; omega) ?_
    refine zr_icmp_ne (pc := 54) (tgt := 62) S dX12_readGate_54 (by decide) (fun c54 => absurd c54 (by omega)) (fun c54 => ?_)
    refine zr_aload_n (pc := 57) S dX12_readGate_57 rfl ?_
    refine zr_iconst (pc := 58) S dX12_readGate_58 (by unfold zrI; omega) ?_
    refine zr_invV (pc := 59) S [zI _] (m_X12_blames _) kX12_readGate_183 dX12_readGate_59 rfl (Nat.le_of_ble_eq_true rfl) rfl (Nat.le_of_ble_eq_true rfl) ⟨Nat.le_of_ble_eq_true rfl, Nat.le_of_ble_eq_true rfl⟩ (us_X12_blames ?_)
    dsimp only [zaft, Option.toList, List.cons_append, List.nil_append, Nat.add_zero]
    rw [bi]
    refine zr_aload_n (pc := 62) S dX12_readGate_62 rfl ?_
    refine zr_getI (pc := 63) S fX12_readGate_163 dX12_readGate_63 rfl (Nat.le_of_ble_eq_true rfl) rfl ?_
    refine zr_if_eq (pc := 66) (tgt := 70) S dX12_readGate_66 (by decide) (fun c66 => absurd c66 (by omega)) (fun c66 => ?_)
    exact zr_vret (pc := 69) S dX12_readGate_69 rfl ⟨Nat.le_refl _, Nat.le_refl _⟩ (q)
end
