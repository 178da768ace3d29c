section
theorem rg70 {E : zE} {X : zX} {Qp : Option zV → zM → Prop} {M U : zM} {n p gg : Nat} {g ms : Int} (S : zS (zg E) X cX12_readGate 4 wzX12_readGate RX12 none) (hg : gg < 8) (oU : rdO M U) (fU : U 185 = M 185) (hc : curT U n p) (hQ : gPost M n (7 * gg) (pLo (U 184) n ms (tE (U 184) n p)) (Qp none)) : zK (zg E) rmX12_readGate 4 (Qp, 0, 0) X (0, 0) 70 [some (zR 180), some (zI g), some (zI (7 * (gg : Int))), some (zI ms)] [] U := by
  have hc0 := hc
  obtain ⟨h1, h2, h3, h4, h5, h6, h7, h8⟩ := hc0
  have r := tE_r (t := U 184) h3
  have e2 : (7 * (gg : Int)).toNat = 7 * gg := by omega
  have l : ∀ N, nxM U N n (tE (U 184) n p) → zK (zg E) rmX12_readGate 4 (Qp, 0, 0) X (0, 0) 81 [some (zR 180), some (zI g), some (zI (7 * (gg : Int))), some (zI ms)] [] (zup N 185 (7 * gg) ms) := fun N hN => by
    have tN : zup N 185 (7 * gg) ms 184 = U 184 := by rw [zup_o _ (by decide)]; exact hN.1 _ (by decide)
    refine rg81 (m0 := ms) S hg ((oU.tr hN.o).tr (rdO.fr N _ _)) (hc.nx hN).fr ⟨fun j hj => ?_, fun j hj => ?_⟩ ?_
    · have : j = 0 := by simp only [List.length_cons, List.length_nil] at hj; omega
      subst this
      rw [Nat.add_zero, zup_e]; rfl
    · rw [zup_j (by omega), hN.1 _ (by decide), fU]
    · rw [tN]; exact hQ
  refine zr_aload_n (pc := 70) S dX12_readGate_70 rfl ?_
  refine zr_invV (pc := 71) S [] (m_X12_next _) kX12_readGate_187 dX12_readGate_71 rfl (Nat.le_of_ble_eq_true rfl) rfl (Nat.le_of_ble_eq_true rfl) ⟨Nat.le_of_ble_eq_true rfl, Nat.le_of_ble_eq_true rfl⟩ (us_X12_next h1 h2 h5 r.2.1 ?_)
  dsimp only [zaft, Option.toList, List.cons_append, List.nil_append, Nat.add_zero]
  intro N hN
  refine zr_aload_n (pc := 74) S dX12_readGate_74 rfl ?_
  refine zr_getR (pc := 75) S fX12_readGate_23 dX12_readGate_75 rfl (Nat.le_of_ble_eq_true rfl) rfl ?_
  refine zr_iload_n (pc := 78) S dX12_readGate_78 rfl ?_
  refine zr_iload_n (pc := 79) S dX12_readGate_79 rfl ?_
  refine zr_iastore (pc := 80) S dX12_readGate_80 rfl (Nat.le_of_ble_eq_true rfl) (by omega) (by omega) ?_
  rw [e2]
  exact l N hN
theorem rg11 {E : zE} {X : zX} {Qp : Option zV → zM → Prop} {M U : zM} {n p gg : Nat} {g : Int} (S : zS (zg E) X cX12_readGate 4 wzX12_readGate RX12 none) (hg : gg < 8) (oU : rdO M U) (fU : U 185 = M 185) (hc : curT U n p) (hQ : gPost M n (7 * gg) (pMs (U 184) n p) (Qp none)) : zK (zg E) rmX12_readGate 4 (Qp, 0, 0) X (0, 0) 11 [some (zR 180), some (zI g), some (zI (7 * (gg : Int))), none] [] U := by
  have b0 := hc.2.2.2.2.2.2.2
  have bb := blM_b (M := U) (k := 2) (by decide)
  unfold pMs at hQ
  have k70 : ∀ m, msr (U 184) n p = m → ¬ m = -1 → zK (zg E) rmX12_readGate 4 (Qp, 0, 0) X (0, 0) 70 [some (zR 180), some (zI g), some (zI (7 * (gg : Int))), some (zI m)] [] U := fun m hm h1 => by
    rw [hm, if_neg h1] at hQ
    exact rg70 S hg oU fU hc hQ
  unfold msr at k70 hQ
  by_cases c7 : wrd (U 184) n p 7
  · have l := k70 0 (if_pos c7) (by decide)
    refine zr_aload_n (pc := 11) S dX12_readGate_11 rfl ?_
    refine zr_ldcS (pc := 12) (k9 := 7) S (List.mem_of_getElem? (i := 17) rfl) dX12_readGate_12 ?_
    refine zr_invV (pc := 14) S [zR _] (m_X12_isWord _) kX12_readGate_179 dX12_readGate_14 rfl (Nat.le_of_ble_eq_true rfl) rfl (Nat.le_of_ble_eq_true rfl) ⟨Nat.le_of_ble_eq_true rfl, Nat.le_of_ble_eq_true rfl⟩ (us_word (i := 7) (by decide) hc ?_)
    dsimp only [zaft, Option.toList, List.cons_append, List.nil_append, Nat.add_zero]
    rw [b01_t c7]
    refine zr_if_eq (pc := 17) (tgt := 24) S dX12_readGate_17 (by decide) (fun c17 => absurd c17 (by omega)) (fun c17 => ?_)
    refine zr_iconst (pc := 20) S dX12_readGate_20 (by unfold zrI; omega) ?_
    refine zr_goto (pc := 21) (tgt := 51) S dX12_readGate_21 (by decide) ?_
    refine zr_istore_n (pc := 51) S 3 dX12_readGate_51 rfl (by decide) ?_
    dsimp only [zst1, zst2, zset, zget, zlong]
    refine zr_iload_n (pc := 52) S dX12_readGate_52 rfl ?_
    refine zr_iconst (pc := 53) S dX12_readGate_53 (by unfold zrI; omega) ?_
    refine zr_icmp_ne (pc := 54) (tgt := 62) S dX12_readGate_54 (by decide) (fun c54 => ?_) (fun c54 => absurd c54 (by omega))
    refine zr_aload_n (pc := 62) S dX12_readGate_62 rfl ?_
    refine zr_getI (pc := 63) S fX12_readGate_163 dX12_readGate_63 rfl (Nat.le_of_ble_eq_true rfl) rfl ?_
    refine zr_if_eq (pc := 66) (tgt := 70) S dX12_readGate_66 (by decide) (fun c66 => ?_) (fun c66 => absurd c66 (by omega))
    exact l
  · by_cases c8 : wrd (U 184) n p 8
    · have l := k70 1 (by rw [if_neg c7, if_pos c8]) (by decide)
      refine zr_aload_n (pc := 11) S dX12_readGate_11 rfl ?_
      refine zr_ldcS (pc := 12) (k9 := 7) S (List.mem_of_getElem? (i := 17) rfl) dX12_readGate_12 ?_
      refine zr_invV (pc := 14) S [zR _] (m_X12_isWord _) kX12_readGate_179 dX12_readGate_14 rfl (Nat.le_of_ble_eq_true rfl) rfl (Nat.le_of_ble_eq_true rfl) ⟨Nat.le_of_ble_eq_true rfl, Nat.le_of_ble_eq_true rfl⟩ (us_word (i := 7) (by decide) hc ?_)
      dsimp only [zaft, Option.toList, List.cons_append, List.nil_append, Nat.add_zero]
      rw [b01_f c7]
      refine zr_if_eq (pc := 17) (tgt := 24) S dX12_readGate_17 (by decide) (fun c17 => ?_) (fun c17 => absurd c17 (by omega))
      refine zr_aload_n (pc := 24) S dX12_readGate_24 rfl ?_
      refine zr_ldcS (pc := 25) (k9 := 8) S (List.mem_of_getElem? (i := 18) rfl) dX12_readGate_25 ?_
      refine zr_invV (pc := 27) S [zR _] (m_X12_isWord _) kX12_readGate_179 dX12_readGate_27 rfl (Nat.le_of_ble_eq_true rfl) rfl (Nat.le_of_ble_eq_true rfl) ⟨Nat.le_of_ble_eq_true rfl, Nat.le_of_ble_eq_true rfl⟩ (us_word (i := 8) (by decide) hc ?_)
      dsimp only [zaft, Option.toList, List.cons_append, List.nil_append, Nat.add_zero]
      rw [b01_t c8]
      refine zr_if_eq (pc := 30) (tgt := 37) S dX12_readGate_30 (by decide) (fun c30 => absurd c30 (by omega)) (fun c30 => ?_)
      refine zr_iconst (pc := 33) S dX12_readGate_33 (by unfold zrI; omega) ?_
      refine zr_goto (pc := 34) (tgt := 51) S dX12_readGate_34 (by decide) ?_
      refine zr_istore_n (pc := 51) S 3 dX12_readGate_51 rfl (by decide) ?_
      dsimp only [zst1, zst2, zset, zget, zlong]
      refine zr_iload_n (pc := 52) S dX12_readGate_52 rfl ?_
      refine zr_iconst (pc := 53) S dX12_readGate_53 (by unfold zrI; omega) ?_
      refine zr_icmp_ne (pc := 54) (tgt := 62) S dX12_readGate_54 (by decide) (fun c54 => ?_) (fun c54 => absurd c54 (by omega))
      refine zr_aload_n (pc := 62) S dX12_readGate_62 rfl ?_
      refine zr_getI (pc := 63) S fX12_readGate_163 dX12_readGate_63 rfl (Nat.le_of_ble_eq_true rfl) rfl ?_
      refine zr_if_eq (pc := 66) (tgt := 70) S dX12_readGate_66 (by decide) (fun c66 => ?_) (fun c66 => absurd c66 (by omega))
      exact l
    · by_cases c9 : wrd (U 184) n p 9
      · have l := k70 2 (by rw [if_neg c7, if_neg c8, if_pos c9]) (by decide)
        refine zr_aload_n (pc := 11) S dX12_readGate_11 rfl ?_
        refine zr_ldcS (pc := 12) (k9 := 7) S (List.mem_of_getElem? (i := 17) rfl) dX12_readGate_12 ?_
        refine zr_invV (pc := 14) S [zR _] (m_X12_isWord _) kX12_readGate_179 dX12_readGate_14 rfl (Nat.le_of_ble_eq_true rfl) rfl (Nat.le_of_ble_eq_true rfl) ⟨Nat.le_of_ble_eq_true rfl, Nat.le_of_ble_eq_true rfl⟩ (us_word (i := 7) (by decide) hc ?_)
        dsimp only [zaft, Option.toList, List.cons_append, List.nil_append, Nat.add_zero]
        rw [b01_f c7]
        refine zr_if_eq (pc := 17) (tgt := 24) S dX12_readGate_17 (by decide) (fun c17 => ?_) (fun c17 => absurd c17 (by omega))
        refine zr_aload_n (pc := 24) S dX12_readGate_24 rfl ?_
        refine zr_ldcS (pc := 25) (k9 := 8) S (List.mem_of_getElem? (i := 18) rfl) dX12_readGate_25 ?_
        refine zr_invV (pc := 27) S [zR _] (m_X12_isWord _) kX12_readGate_179 dX12_readGate_27 rfl (Nat.le_of_ble_eq_true rfl) rfl (Nat.le_of_ble_eq_true rfl) ⟨Nat.le_of_ble_eq_true rfl, Nat.le_of_ble_eq_true rfl⟩ (us_word (i := 8) (by decide) hc ?_)
        dsimp only [zaft, Option.toList, List.cons_append, List.nil_append, Nat.add_zero]
        rw [b01_f c8]
        refine zr_if_eq (pc := 30) (tgt := 37) S dX12_readGate_30 (by decide) (fun c30 => ?_) (fun c30 => absurd c30 (by omega))
        refine zr_aload_n (pc := 37) S dX12_readGate_37 rfl ?_
        refine zr_ldcS (pc := 38) (k9 := 9) S (List.mem_of_getElem? (i := 19) rfl) dX12_readGate_38 ?_
        refine zr_invV (pc := 40) S [zR _] (m_X12_isWord _) kX12_readGate_179 dX12_readGate_40 rfl (Nat.le_of_ble_eq_true rfl) rfl (Nat.le_of_ble_eq_true rfl) ⟨Nat.le_of_ble_eq_true rfl, Nat.le_of_ble_eq_true rfl⟩ (us_word (i := 9) (by decide) hc ?_)
        dsimp only [zaft, Option.toList, List.cons_append, List.nil_append, Nat.add_zero]
        rw [b01_t c9]
        refine zr_if_eq (pc := 43) (tgt := 50) S dX12_readGate_43 (by decide) (fun c43 => absurd c43 (by omega)) (fun c43 => ?_)
        refine zr_iconst (pc := 46) S dX12_readGate_46 (by unfold zrI; omega) ?_
        refine zr_goto (pc := 47) (tgt := 51) S dX12_readGate_47 (by decide) ?_
        refine zr_istore_n (pc := 51) S 3 dX12_readGate_51 rfl (by decide) ?_
        dsimp only [zst1, zst2, zset, zget, zlong]
        refine zr_iload_n (pc := 52) S dX12_readGate_52 rfl ?_
        refine zr_iconst (pc := 53) S dX12_readGate_53 (by unfold zrI; omega) ?_
        refine zr_icmp_ne (pc := 54) (tgt := 62) S dX12_readGate_54 (by decide) (fun c54 => ?_) (fun c54 => absurd c54 (by omega))
        refine zr_aload_n (pc := 62) S dX12_readGate_62 rfl ?_
        refine zr_getI (pc := 63) S fX12_readGate_163 dX12_readGate_63 rfl (Nat.le_of_ble_eq_true rfl) rfl ?_
        refine zr_if_eq (pc := 66) (tgt := 70) S dX12_readGate_66 (by decide) (fun c66 => ?_) (fun c66 => absurd c66 (by omega))
        exact l
      · rw [if_neg c7, if_neg c8, if_neg c9, if_pos rfl] at hQ
        have q := hQ (blM U 2) (oU.tr (blM.o U 2)) (hc.bl 2)
        refine zr_aload_n (pc := 11) S dX12_readGate_11 rfl ?_
        refine zr_ldcS (pc := 12) (k9 := 7) S (List.mem_of_getElem? (i := 17) rfl) dX12_readGate_12 ?_
        refine zr_invV (pc := 14) S [zR _] (m_X12_isWord _) kX12_readGate_179 dX12_readGate_14 rfl (Nat.le_of_ble_eq_true rfl) rfl (Nat.le_of_ble_eq_true rfl) ⟨Nat.le_of_ble_eq_true rfl, Nat.le_of_ble_eq_true rfl⟩ (us_word (i := 7) (by decide) hc ?_)
        dsimp only [zaft, Option.toList, List.cons_append, List.nil_append, Nat.add_zero]
        rw [b01_f c7]
        refine zr_if_eq (pc := 17) (tgt := 24) S dX12_readGate_17 (by decide) (fun c17 => ?_) (fun c17 => absurd c17 (by omega))
        refine zr_aload_n (pc := 24) S dX12_readGate_24 rfl ?_
        refine zr_ldcS (pc := 25) (k9 := 8) S (List.mem_of_getElem? (i := 18) rfl) dX12_readGate_25 ?_
        refine zr_invV (pc := 27) S [zR _] (m_X12_isWord _) kX12_readGate_179 dX12_readGate_27 rfl (Nat.le_of_ble_eq_true rfl) rfl (Nat.le_of_ble_eq_true rfl) ⟨Nat.le_of_ble_eq_true rfl, Nat.le_of_ble_eq_true rfl⟩ (us_word (i := 8) (by decide) hc ?_)
        dsimp only [zaft, Option.toList, List.cons_append, List.nil_append, Nat.add_zero]
        rw [b01_f c8]
        refine zr_if_eq (pc := 30) (tgt := 37) S dX12_readGate_30 (by decide) (fun c30 => ?_) (fun c30 => absurd c30 (by omega))
        refine zr_aload_n (pc := 37) S dX12_readGate_37 rfl ?_
        refine zr_ldcS (pc := 38) (k9 := 9) S (List.mem_of_getElem? (i := 19) rfl) dX12_readGate_38 ?_
        refine zr_invV (pc := 40) S [zR _] (m_X12_isWord _) kX12_readGate_179 dX12_readGate_40 rfl (Nat.le_of_ble_eq_true rfl) rfl (Nat.le_of_ble_eq_true rfl) ⟨Nat.le_of_ble_eq_true rfl, Nat.le_of_ble_eq_true rfl⟩ (us_word (i := 9) (by decide) hc ?_)
        dsimp only [zaft, Option.toList, List.cons_append, List.nil_append, Nat.add_zero]
        rw [b01_f c9]
        refine zr_if_eq (pc := 43) (tgt := 50) S dX12_readGate_43 (by decide) (fun c43 => ?_) (fun c43 => absurd c43 (by omega))
        refine zr_iconst (pc := 50) S dX12_readGate_50 (by unfold zrI; omega) ?_
        refine zr_istore_n (pc := 51) S 3 dX12_readGate_51 rfl (by decide) ?_
        dsimp only [zst1, zst2, zset, zget, zlong]
        refine zr_iload_n (pc := 52) S dX12_readGate_52 rfl ?_
        refine zr_iconst (pc := 53) S dX12_readGate_53 (by unfold zrI; omega) ?_
        refine zr_icmp_ne (pc := 54) (tgt := 62) S dX12_readGate_54 (by decide) (fun c54 => absurd c54 (by omega)) (fun c54 => ?_)
        refine zr_aload_n (pc := 57) S dX12_readGate_57 rfl ?_
        refine zr_iconst (pc := 58) S dX12_readGate_58 (by unfold zrI; omega) ?_
        refine zr_invV (pc := 59) S [zI _] (m_X12_blames _) kX12_readGate_183 dX12_readGate_59 rfl (Nat.le_of_ble_eq_true rfl) rfl (Nat.le_of_ble_eq_true rfl) ⟨Nat.le_of_ble_eq_true rfl, Nat.le_of_ble_eq_true rfl⟩ (us_X12_blames ?_)
        dsimp only [zaft, Option.toList, List.cons_append, List.nil_append, Nat.add_zero]
        refine zr_aload_n (pc := 62) S dX12_readGate_62 rfl ?_
        refine zr_getI (pc := 63) S fX12_readGate_163 dX12_readGate_63 rfl (Nat.le_of_ble_eq_true rfl) rfl ?_
        refine zr_if_eq (pc := 66) (tgt := 70) S dX12_readGate_66 (by decide) (fun c66 => absurd c66 (by omega)) (fun c66 => ?_)
        exact zr_vret (pc := 69) S dX12_readGate_69 rfl ⟨Nat.le_refl _, Nat.le_refl _⟩ (q)
end
