section
theorem msr_r {t : Nat → Int} {n p : Nat} (h : ¬ msr t n p = -1) : 0 ≤ msr t n p ∧ msr t n p ≤ 2 := by
  unfold msr at h ⊢
  split
  · decide
  · split
    · decide
    · split
      · decide
      · rename_i a b c
        rw [if_neg a, if_neg b, if_neg c] at h
        exact absurd rfl h
def sp_X4_readGate (as : List zV) (M : zM) (Q : Option zV → zM → Prop) : Prop := ∃ (gg n p : Nat), as = [zR 39] ∧ (gg ≤ 8) ∧ (M 41 0 = gg) ∧ (curR M n p) ∧ (gg = 8 → ∀ M', rO M M' → flR M' (blP (cT M) n p (if wrd (cT M) n p 0 then 5 else 2)) → Q (some (zI 0)) M') ∧ (gg < 8 → gPostR M n gg (pGate (cT M) n p) Q)
theorem us_X4_readGate {gg n p : Nat} {M : zM} {Q : Option zV → zM → Prop} (hg : gg ≤ 8) (hm : M 41 0 = gg) (hc : curR M n p) (hE : gg = 8 → ∀ M', rO M M' → flR M' (blP (cT M) n p (if wrd (cT M) n p 0 then 5 else 2)) → Q (some (zI 0)) M') (hQ : gg < 8 → gPostR M n gg (pGate (cT M) n p) Q) : sp_X4_readGate [zR 39] M Q := ⟨gg, n, p, rfl, hg, hm, hc, hE, hQ⟩
set_option maxRecDepth 20000 in
set_option maxHeartbeats 4000000 in
theorem m_X4_readGate (l : Launch) : zC l yX4_readGate wzX4_readGate rmX4_readGate sp_X4_readGate := by
  refine zMet.of RX4 (by decide +kernel) rfl rfl ?_
  intro E X as M Qp hX S hsp
  obtain ⟨gg, n, p, rfl, hg, hm, hc, hE, hQ⟩ := hsp
  refine ⟨Nat.le_of_ble_eq_true rfl, ?_⟩
  dsimp only [zpad, zargs]
  have r := tE_r (t := cT M) hc.2.2.1
  unfold pGate at hQ
  by_cases c : wrd (cT M) n p 0
  · rw [if_pos c] at hQ hE
    by_cases g8 : gg < 8
    · have hQ := hQ g8
      have k45 : ∀ N, axM M N n (tE (cT M) n p) → zK (zg E) rmX4_readGate 2 (Qp, 0, 0) X (0, 0) 45 [some (zR 39), some (zI gg)] [] N := by
        intro N hN
        have cN := hc.nx hN
        have tN := hN.c
        have mN : N 41 0 = gg := by rw [hN.1 _ (by decide)]; exact hm
        unfold pMs at hQ
        rw [← tN] at hQ
        by_cases hms : msr (cT N) n (tE (cT M) n p) = -1
        · have q9 : Qp (some (zI 0)) (rblM N 2) := by
            rw [tN] at hms hQ
            rw [if_pos hms] at hQ
            exact hQ _ (hN.o.tr (rblM.o N 2)) (by have z := cN.bl 2; rw [tN] at z; exact z)
          refine zr_aload_n (pc := 45) S dX4_readGate_45 rfl ?_
          refine zr_iload_n (pc := 46) S dX4_readGate_46 rfl ?_
          refine zr_invV (pc := 47) S [zI _] (m_X4_readMeasure _) kX4_readGate_67 dX4_readGate_47 rfl (Nat.le_of_ble_eq_true rfl) rfl (Nat.le_of_ble_eq_true rfl) ⟨Nat.le_of_ble_eq_true rfl, Nat.le_of_ble_eq_true rfl⟩ (us_X4_readMeasure (g := gg) (n := n) (p := tE (cT M) n p) g8 cN (fun _ => ?_) (fun z => absurd hms z))
          dsimp only [zaft, Option.toList, List.cons_append, List.nil_append, Nat.add_zero]
          refine zr_if_eq (pc := 50) (tgt := 61) S dX4_readGate_50 (by decide) (fun c50 => ?_) (fun c50 => absurd c50 (by omega))
          refine zr_iconst (pc := 61) S dX4_readGate_61 (by unfold zrI; omega) ?_
          exact zr_zret (pc := 62) S dX4_readGate_62 rfl (by first | omega | exact b01_r) ⟨Nat.le_refl _, Nat.le_refl _⟩ (q9)
        · have cV := cN.dr gg (msr (cT N) n (tE (cT M) n p)) (c := 42) (by decide)
          have oV := rO.dr N gg (msr (cT N) n (tE (cT M) n p)) (c := 42) (by decide) ⟨fun _ => msr_r hms, fun z => absurd z (by decide), fun z => absurd z (by decide), fun z => absurd z (by decide), fun z => absurd z (by decide)⟩
          have hQ2 : gPostR M n gg (pLo (cT M) n (msr (cT M) n (tE (cT M) n p)) (tE (cT M) n (tE (cT M) n p))) Qp := by
            rw [tN] at hms hQ
            rw [if_neg hms] at hQ
            exact hQ
          have k53 : ∀ W, axM (zup N 42 gg (msr (cT N) n (tE (cT M) n p))) W n (tE (cT N) n (tE (cT M) n p)) → zK (zg E) rmX4_readGate 2 (Qp, 0, 0) X (0, 0) 53 [some (zR 39), some (zI gg)] [] W := by
            intro W hW
            have tV9 : cT (zup N 42 gg (msr (cT N) n (tE (cT M) n p))) = cT N := oV.c
            have cW := cV.nx (by rw [tV9]; exact hW)
            rw [tV9, tN] at cW
            have tW : cT W = cT M := (hW.c.trans tV9).trans tN
            have oW := (hN.o.tr oV).tr hW.o
            rw [tN] at hW
            have w42 : W 42 gg = msr (cT M) n (tE (cT M) n p) := by rw [hW.1 _ (by decide), zup_e]
            have wo : ∀ k j, 41 ≤ k → k ≤ 46 → (k ≠ 42 ∨ j ≠ gg) → W k j = M k j := fun k j k1 k2 hj => by
              rw [hW.1 _ (by omega)]
              by_cases e : k = 42
              · rw [e, zup_j (by omega), hN.1 _ (by decide)]
              · rw [zup_o _ e, hN.1 _ (by omega)]
            rw [pLo_bd] at hQ2
            rcases hB : pBd (cT M) n (tE (cT M) n (tE (cT M) n p)) with f | ⟨⟨a, b⟩, q⟩
            · rw [hB] at hQ2
              have hB : pBd (cT W) n (tE (cT M) n (tE (cT M) n p)) = .inl f := by rw [tW]; exact hB
              have q9 : ∀ V, rO W V → flR V f → Qp (some (zI 0)) V := fun V oV fV => hQ2 V (oW.tr oV) fV
              refine zr_aload_n (pc := 53) S dX4_readGate_53 rfl ?_
              refine zr_iload_n (pc := 54) S dX4_readGate_54 rfl ?_
              refine zr_invV (pc := 55) S [zI _] (m_X4_readBounds _) kX4_readGate_70 dX4_readGate_55 rfl (Nat.le_of_ble_eq_true rfl) rfl (Nat.le_of_ble_eq_true rfl) ⟨Nat.le_of_ble_eq_true rfl, Nat.le_of_ble_eq_true rfl⟩ (us_X4_readBounds (g := gg) (n := n) (p := tE (cT M) n (tE (cT M) n p)) g8 cW (fun f' hf V oV fV => ?_) (fun a b q hq => absurd (hB.symm.trans hq) (by simp)))
              dsimp only [zaft, Option.toList, List.cons_append, List.nil_append, Nat.add_zero]
              refine zr_if_ne (pc := 58) (tgt := 63) S dX4_readGate_58 (by decide) (fun c58 => absurd c58 (by omega)) (fun c58 => ?_)
              refine zr_iconst (pc := 61) S dX4_readGate_61 (by unfold zrI; omega) ?_
              exact zr_zret (pc := 62) S dX4_readGate_62 rfl (by first | omega | exact b01_r) ⟨Nat.le_refl _, Nat.le_refl _⟩ (q9 V oV (by cases hB.symm.trans hf; exact fV))
            · rw [hB] at hQ2
              have hB : pBd (cT W) n (tE (cT M) n (tE (cT M) n p)) = .inr ((a, b), q) := by rw [tW]; exact hB
              have l : ∀ V, rO W V → curR V n q → V 43 gg = a → V 44 gg = b → (∀ k j, 41 ≤ k → k ≤ 46 → ((k ≠ 43 ∧ k ≠ 44) ∨ j ≠ gg) → V k j = W k j) → zK (zg E) rmX4_readGate 2 (Qp, 0, 0) X (0, 0) 63 [some (zR 39), some (zI gg)] [] V := fun V oV cV va vb vj => by
                refine cg63 (L := [msr (cT M) n (tE (cT M) n p), a, b]) S g8 (oW.tr oV) cV (by rw [vj 41 0 (by decide) (by decide) (by omega), wo 41 0 (by decide) (by decide) (by omega)]; exact hm) ⟨fun _ => by rw [vj 42 gg (by decide) (by decide) (by omega)]; exact w42, fun _ => va, fun _ => vb, fun z => absurd z (by simp), fun z => absurd z (by simp), fun c j c1 c2 hj => by rw [vj c j (by omega) c2 (by omega), wo c j (by omega) c2 (by omega)]⟩ rfl ?_
                rw [oV.c, tW]
                exact hQ2
              refine zr_aload_n (pc := 53) S dX4_readGate_53 rfl ?_
              refine zr_iload_n (pc := 54) S dX4_readGate_54 rfl ?_
              refine zr_invV (pc := 55) S [zI _] (m_X4_readBounds _) kX4_readGate_70 dX4_readGate_55 rfl (Nat.le_of_ble_eq_true rfl) rfl (Nat.le_of_ble_eq_true rfl) ⟨Nat.le_of_ble_eq_true rfl, Nat.le_of_ble_eq_true rfl⟩ (us_X4_readBounds (g := gg) (n := n) (p := tE (cT M) n (tE (cT M) n p)) g8 cW (fun f' hf => absurd (hB.symm.trans hf) (by simp)) (fun a' b' q' hq V oV cV va vb vj => ?_))
              dsimp only [zaft, Option.toList, List.cons_append, List.nil_append, Nat.add_zero]
              refine zr_if_ne (pc := 58) (tgt := 63) S dX4_readGate_58 (by decide) (fun c58 => ?_) (fun c58 => absurd c58 (by omega))
              cases hB.symm.trans hq
              exact l V oV cV va vb vj
          refine zr_aload_n (pc := 45) S dX4_readGate_45 rfl ?_
          refine zr_iload_n (pc := 46) S dX4_readGate_46 rfl ?_
          refine zr_invV (pc := 47) S [zI _] (m_X4_readMeasure _) kX4_readGate_67 dX4_readGate_47 rfl (Nat.le_of_ble_eq_true rfl) rfl (Nat.le_of_ble_eq_true rfl) ⟨Nat.le_of_ble_eq_true rfl, Nat.le_of_ble_eq_true rfl⟩ (us_X4_readMeasure (g := gg) (n := n) (p := tE (cT M) n p) g8 cN (fun z => absurd z hms) (fun _ W hW => ?_))
          dsimp only [zaft, Option.toList, List.cons_append, List.nil_append, Nat.add_zero]
          refine zr_if_eq (pc := 50) (tgt := 61) S dX4_readGate_50 (by decide) (fun c50 => absurd c50 (by omega)) (fun c50 => ?_)
          exact k53 W hW
      refine zr_aload_n (pc := 0) S dX4_readGate_0 rfl ?_
      refine zr_ldcS (pc := 1) (k9 := 0) S (List.mem_of_getElem? (i := 0) rfl) dX4_readGate_1 ?_
      refine zr_invV (pc := 3) S [zR _] (m_X4_isWord _) kX4_readGate_59 dX4_readGate_3 rfl (Nat.le_of_ble_eq_true rfl) rfl (Nat.le_of_ble_eq_true rfl) ⟨Nat.le_of_ble_eq_true rfl, Nat.le_of_ble_eq_true rfl⟩ (us_rword (i := 0) (by decide) hc ?_)
      dsimp only [zaft, Option.toList, List.cons_append, List.nil_append, Nat.add_zero]
      rw [b01_t c]
      refine zr_if_ne (pc := 6) (tgt := 15) S dX4_readGate_6 (by decide) (fun c6 => ?_) (fun c6 => absurd c6 (by omega))
      refine zr_aload_n (pc := 15) S dX4_readGate_15 rfl ?_
      refine zr_getR (pc := 16) S fX4_readGate_22 dX4_readGate_16 rfl (Nat.le_of_ble_eq_true rfl) rfl ?_
      refine zr_getI (pc := 19) S fX4_readGate_44 dX4_readGate_19 rfl (Nat.le_of_ble_eq_true rfl) rfl ?_
      rw [hm]
      refine zr_bipush (pc := 22) S dX4_readGate_22 ⟨by unfold zrI; omega, by decide⟩ ?_
      refine zr_icmp_lt (pc := 24) (tgt := 33) S dX4_readGate_24 (by decide) (fun c24 => ?_) (fun c24 => absurd c24 (by omega))
      refine zr_aload_n (pc := 33) S dX4_readGate_33 rfl ?_
      refine zr_getR (pc := 34) S fX4_readGate_22 dX4_readGate_34 rfl (Nat.le_of_ble_eq_true rfl) rfl ?_
      refine zr_getI (pc := 37) S fX4_readGate_44 dX4_readGate_37 rfl (Nat.le_of_ble_eq_true rfl) rfl ?_
      rw [hm]
      refine zr_istore_n (pc := 40) S 1 dX4_readGate_40 rfl (by decide) ?_
      dsimp only [zst1, zst2, zset, zget, zlong]
      refine zr_aload_n (pc := 41) S dX4_readGate_41 rfl ?_
      refine zr_invV (pc := 42) S [] (m_X4_advance _) kX4_readGate_47 dX4_readGate_42 rfl (Nat.le_of_ble_eq_true rfl) rfl (Nat.le_of_ble_eq_true rfl) ⟨Nat.le_of_ble_eq_true rfl, Nat.le_of_ble_eq_true rfl⟩ (us_X4_advance hc.1 hc.2.1 hc.2.2.2.2.1 r.2.1 ?_)
      dsimp only [zaft, Option.toList, List.cons_append, List.nil_append, Nat.add_zero]
      intro N hN
      exact k45 N hN
    · have q := hE (by omega) (rblM M 5) (rblM.o M 5) (hc.bl 5)
      refine zr_aload_n (pc := 0) S dX4_readGate_0 rfl ?_
      refine zr_ldcS (pc := 1) (k9 := 0) S (List.mem_of_getElem? (i := 0) rfl) dX4_readGate_1 ?_
      refine zr_invV (pc := 3) S [zR _] (m_X4_isWord _) kX4_readGate_59 dX4_readGate_3 rfl (Nat.le_of_ble_eq_true rfl) rfl (Nat.le_of_ble_eq_true rfl) ⟨Nat.le_of_ble_eq_true rfl, Nat.le_of_ble_eq_true rfl⟩ (us_rword (i := 0) (by decide) hc ?_)
      dsimp only [zaft, Option.toList, List.cons_append, List.nil_append, Nat.add_zero]
      rw [b01_t c]
      refine zr_if_ne (pc := 6) (tgt := 15) S dX4_readGate_6 (by decide) (fun c6 => ?_) (fun c6 => absurd c6 (by omega))
      refine zr_aload_n (pc := 15) S dX4_readGate_15 rfl ?_
      refine zr_getR (pc := 16) S fX4_readGate_22 dX4_readGate_16 rfl (Nat.le_of_ble_eq_true rfl) rfl ?_
      refine zr_getI (pc := 19) S fX4_readGate_44 dX4_readGate_19 rfl (Nat.le_of_ble_eq_true rfl) rfl ?_
      rw [hm]
      refine zr_bipush (pc := 22) S dX4_readGate_22 ⟨by unfold zrI; omega, by decide⟩ ?_
      refine zr_icmp_lt (pc := 24) (tgt := 33) S dX4_readGate_24 (by decide) (fun c24 => absurd c24 (by omega)) (fun c24 => ?_)
      refine zr_aload_n (pc := 27) S dX4_readGate_27 rfl ?_
      refine zr_iconst (pc := 28) S dX4_readGate_28 (by unfold zrI; omega) ?_
      refine zr_invV (pc := 29) S [zI _] (m_X4_blame _) kX4_readGate_63 dX4_readGate_29 rfl (Nat.le_of_ble_eq_true rfl) rfl (Nat.le_of_ble_eq_true rfl) ⟨Nat.le_of_ble_eq_true rfl, Nat.le_of_ble_eq_true rfl⟩ (us_X4_blame ?_)
      dsimp only [zaft, Option.toList, List.cons_append, List.nil_append, Nat.add_zero]
      exact zr_zret (pc := 32) S dX4_readGate_32 rfl (by first | omega | exact b01_r) ⟨Nat.le_refl _, Nat.le_refl _⟩ (q)
  · rw [if_neg c] at hQ hE
    have q : Qp (some (zI 0)) (rblM M 2) := by
      by_cases g8 : gg < 8
      · exact hQ g8 (rblM M 2) (rblM.o M 2) (hc.bl 2)
      · exact hE (by omega) (rblM M 2) (rblM.o M 2) (hc.bl 2)
    refine zr_aload_n (pc := 0) S dX4_readGate_0 rfl ?_
    refine zr_ldcS (pc := 1) (k9 := 0) S (List.mem_of_getElem? (i := 0) rfl) dX4_readGate_1 ?_
    refine zr_invV (pc := 3) S [zR _] (m_X4_isWord _) kX4_readGate_59 dX4_readGate_3 rfl (Nat.le_of_ble_eq_true rfl) rfl (Nat.le_of_ble_eq_true rfl) ⟨Nat.le_of_ble_eq_true rfl, Nat.le_of_ble_eq_true rfl⟩ (us_rword (i := 0) (by decide) hc ?_)
    dsimp only [zaft, Option.toList, List.cons_append, List.nil_append, Nat.add_zero]
    rw [b01_f c]
    refine zr_if_ne (pc := 6) (tgt := 15) S dX4_readGate_6 (by decide) (fun c6 => absurd c6 (by omega)) (fun c6 => ?_)
    refine zr_aload_n (pc := 9) S dX4_readGate_9 rfl ?_
    refine zr_iconst (pc := 10) S dX4_readGate_10 (by unfold zrI; omega) ?_
    refine zr_invV (pc := 11) S [zI _] (m_X4_blame _) kX4_readGate_63 dX4_readGate_11 rfl (Nat.le_of_ble_eq_true rfl) rfl (Nat.le_of_ble_eq_true rfl) ⟨Nat.le_of_ble_eq_true rfl, Nat.le_of_ble_eq_true rfl⟩ (us_X4_blame ?_)
    dsimp only [zaft, Option.toList, List.cons_append, List.nil_append, Nat.add_zero]
    exact zr_zret (pc := 14) S dX4_readGate_14 rfl (by first | omega | exact b01_r) ⟨Nat.le_refl _, Nat.le_refl _⟩ (q)
end
