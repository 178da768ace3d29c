section
theorem mo1 {E : zE} {X : zX} {Qp : Option zV → zM → Prop} {M V : zM} {n e : Nat} (S : zS (zg E) X cX12_mostOf 7 wzX12_mostOf RX12 (some .long)) (IH : zC X.2.1 yX12_mostOf wzX12_mostOf (rmX12_mostOf e) (sp_X12_mostOf e)) (IW : zC X.2.1 yX12_without wzX12_without (rmX12_without e) (sp_X12_without e)) (hn : n < 3) (he : 2 * n + 1 ≤ e) (hS : SPm V M) (hr : rwk M (n + 1))
    (hQ : ∀ M', sts M M' (n + 1) → Qp (some (zL (mostR V (n + 1) (nh (M 194) (8 * (n + 1)))))) M') : ∀ (r b : Nat) (U : zM) (u5 u6 : Option zV), (r : Int) + b = V 1 5 → sts M U (n + 1) → zK (zg E) (rmX12_mostOf (e + 1)) 7 (Qp, 0, 0) X (0, 0) 11 [some (zR 180), some (zI ((n : Int) + 1)), some (zL (sumU (trm V n (nh (M 194) (8 * (n + 1)))) b)), none, some (zI b), u5, u6] [] U := by
  have hb := hS.2.2.1
  have h1 := hb.1
  intro r
  induction r with
  | zero =>
    intro b U u5 u6 hi hU
    have q := hQ U hU
    have e4 : U 181 4 = V 1 5 := (hS.s hU).2.2.2.1
    have ev : sumU (trm V n (nh (M 194) (8 * (n + 1)))) b = mostR V (n + 1) (nh (M 194) (8 * (n + 1))) := by
      show _ = sumU (trm V n (nh (M 194) (8 * (n + 1)))) (V 1 5).toNat
      congr 1
      omega
    refine zr_iload (pc := 11) S dX12_mostOf_11 rfl ?_
    refine zr_aload_n (pc := 13) S dX12_mostOf_13 rfl ?_
    refine zr_getR (pc := 14) S fX12_mostOf_9 dX12_mostOf_14 rfl (Nat.le_of_ble_eq_true rfl) rfl ?_
    refine zr_iconst (pc := 17) S dX12_mostOf_17 (by unfold zrI; omega) ?_
    refine zr_iaload (pc := 18) S dX12_mostOf_18 rfl (Nat.le_of_ble_eq_true rfl) (by omega) (by omega) ?_
    dsimp only [Int.reduceToNat]
    rw [e4]
    refine zr_icmp_ge (pc := 19) (tgt := 95) S dX12_mostOf_19 (by decide) (fun c19 => ?_) (fun c19 => absurd c19 (by omega))
    refine zr_lload_n (pc := 95) S dX12_mostOf_95 rfl ?_
    exact zr_lret (pc := 96) S dX12_mostOf_96 rfl ⟨Nat.le_refl _, Nat.le_refl _⟩ (zql q ev)
  | succ r ih =>
    intro b U u5 u6 hi hU
    have b5 : b < 5 := by omega
    have hSU := hS.s hU
    have e4 : U 181 4 = V 1 5 := hSU.2.2.2.1
    have agU := hSU.1
    obtain ⟨hq, hp⟩ := hSU.2.2.2.2 b (by omega)
    have en := sts_nh hU
    have tr := trm_r hb hn (nh (M 194) (8 * (n + 1))) b5
    have mr := mostR_r hb n (by omega)
    have br := Bq_r n (by omega)
    have pr := powM_r hb n (by omega)
    have sr := sumU_r (f := trm V n (nh (M 194) (8 * (n + 1)))) (c := 90000900000) (N := 5) (fun i hi => (trm_r hb hn _ hi).2) b (by omega)
    have chr := hb.2.2 b b5
    have e1 : (n : Int) + 1 - 1 = n := by omega
    have ech : vm U 33 b = V 33 b := by rw [agU _ (by decide)]
    have vc := vm_chc (M := U) (b := b) (by omega)
    have ecU : ∀ U', sts U U' (n + 1) → U' 181 ((577 : Int) + 6 * (b : Int) + 5).toNat = V 33 b := fun U' h => by
      rw [h.1 _ (by decide) (by decide) (by decide) (by decide), show ((577 : Int) + 6 * (b : Int) + 5).toNat = 582 + 6 * b by omega, ← vc, ech]
    have et : trm V n (nh (M 194) (8 * (n + 1))) b = V 33 b * mxB (chg (cap V (nh (M 194) (8 * (n + 1)))) (val V) (abv V b)) (mostR V n (nh (M 194) (8 * (n + 1)))) (fun x => powM V n + mostR V n (sold V b (nh (M 194) (8 * (n + 1))) x)) := rfl
    have hpU : 1 ≤ vm U 29 (vm U 30 b).toNat := by rw [agU 29 (by decide), agU 30 (by decide)]; exact hp
    have ecg : chg (cap (vm U) (nh (U 194) (8 * (n + 1)))) (val (vm U)) (abv (vm U) b) = chg (cap V (nh (M 194) (8 * (n + 1)))) (val V) (abv V b) := by rw [en, ag_cap agU, ag_val agU, ag_abv agU]
    have l := fun U' (h : sts M U' (n + 1)) u5 u6 => ih (b + 1) U' u5 u6 (by omega) h
    simp only [sumU] at l
    rw [Int.natCast_add, Int.natCast_one] at l
    have k58 : ∀ (U1 : zM) (w : Int), sts U U1 (n + 1) → -1 ≤ w → w ≤ 10000100000 → max w (mostR V n (nh (M 194) (8 * (n + 1)))) = mxB (chg (cap V (nh (M 194) (8 * (n + 1)))) (val V) (abv V b)) (mostR V n (nh (M 194) (8 * (n + 1)))) (fun x => powM V n + mostR V n (sold V b (nh (M 194) (8 * (n + 1))) x)) → zK (zg E) (rmX12_mostOf (e + 1)) 7 (Qp, 0, 0) X (0, 0) 58 [some (zR 180), some (zI ((n : Int) + 1)), some (zL (sumU (trm V n (nh (M 194) (8 * (n + 1)))) b)), none, some (zI b), some (zL w), none] [] U1 := by
      intro U1 w hU1 w1 w2 hw
      have hM1 := hU.tr hU1
      have ec := ecU U1 hU1
      have en1 := sts_nh hM1
      have q := fun U' (h : sts U1 U' (n + 1)) u5 u6 => l U' (hM1.tr h) u5 u6
      rw [et, ← hw] at q tr
      refine zr_lload_n (pc := 58) S dX12_mostOf_58 rfl ?_
      refine zr_aload_n (pc := 59) S dX12_mostOf_59 rfl ?_
      refine zr_getR (pc := 60) S fX12_mostOf_9 dX12_mostOf_60 rfl (Nat.le_of_ble_eq_true rfl) rfl ?_
      refine zr_sipush (pc := 63) S dX12_mostOf_63 ⟨by unfold zrI; omega, by decide⟩ ?_
      refine zr_bipush (pc := 66) S dX12_mostOf_66 ⟨by unfold zrI; omega, by decide⟩ ?_
      refine zr_iload (pc := 68) S dX12_mostOf_68 rfl ?_
      refine zr_imul (pc := 70) S dX12_mostOf_70 (by unfold zrI; omega) ?_
      refine zr_iadd (pc := 71) S dX12_mostOf_71 (by unfold zrI; omega) ?_
      refine zr_iconst (pc := 72) S dX12_mostOf_72 (by unfold zrI; omega) ?_
      refine zr_iadd (pc := 73) S dX12_mostOf_73 (by unfold zrI; omega) ?_
      refine zr_iaload (pc := 74) S dX12_mostOf_74 rfl (Nat.le_of_ble_eq_true rfl) (by omega) (by omega) ?_
      rw [ec]
      refine zr_i2l (pc := 75) S dX12_mostOf_75 ?_
      refine zr_lload (pc := 76) S dX12_mostOf_76 rfl ?_
      refine zr_aload_n (pc := 78) S dX12_mostOf_78 rfl ?_
      refine zr_iload_n (pc := 79) S dX12_mostOf_79 rfl ?_
      refine zr_invV (pc := 80) S [zI _] IW (kX12_mostOf_351 (e)) dX12_mostOf_80 rfl (Nat.le_of_ble_eq_true rfl) rfl (Nat.le_of_ble_eq_true rfl) ⟨Nat.le_of_ble_eq_true rfl, Nat.le_of_ble_eq_true rfl⟩ (us_X12_without (n := n) (V := V) he hn (hS.s hM1) (hM1.r hr) ?_)
      dsimp only [zaft, Option.toList, List.cons_append, List.nil_append, Nat.add_zero]
      intro U2 hU2
      rw [en1]
      refine zr_mmaxL (pc := 83) S kX12_mostOf_354 dX12_mostOf_83 (by simp only [rmX12_mostOf, zdep, zcat2]; omega) (by simp only [rmX12_mostOf, zdep, zcat2]; omega) ⟨Nat.le_of_ble_eq_true rfl, Nat.le_of_ble_eq_true rfl⟩ ?_
      refine zr_lmul (pc := 86) S dX12_mostOf_86 (by unfold zrL; omega) ?_
      refine zr_ladd (pc := 87) S dX12_mostOf_87 (by unfold zrL; omega) ?_
      refine zr_lstore_n (pc := 88) S 2 dX12_mostOf_88 rfl (by decide) ?_
      dsimp only [zst1, zst2, zset, zget, zlong]
      refine zr_iinc (pc := 89) S dX12_mostOf_89 rfl (by unfold zrI; omega) (by decide) ?_
      dsimp only [zst1, zst2, zset, zget, zlong]
      refine zr_goto (pc := 92) (tgt := 11) S dX12_mostOf_92 (by decide) ?_
      exact q U2 hU2 _ _
    by_cases hc : chg (cap V (nh (M 194) (8 * (n + 1)))) (val V) (abv V b) = none
    · have k1 := fun U1 (h : sts U U1 (n + 1)) => k58 U1 (-1) h (by omega) (by omega) (by
        rw [hc]
        show _ = mostR V n _
        have := mr (nh (M 194) (8 * (n + 1)))
        omega)
      refine zr_iload (pc := 11) S dX12_mostOf_11 rfl ?_
      refine zr_aload_n (pc := 13) S dX12_mostOf_13 rfl ?_
      refine zr_getR (pc := 14) S fX12_mostOf_9 dX12_mostOf_14 rfl (Nat.le_of_ble_eq_true rfl) rfl ?_
      refine zr_iconst (pc := 17) S dX12_mostOf_17 (by unfold zrI; omega) ?_
      refine zr_iaload (pc := 18) S dX12_mostOf_18 rfl (Nat.le_of_ble_eq_true rfl) (by omega) (by omega) ?_
      dsimp only [Int.reduceToNat]
      rw [e4]
      refine zr_icmp_ge (pc := 19) (tgt := 95) S dX12_mostOf_19 (by decide) (fun c19 => absurd c19 (by omega)) (fun c19 => ?_)
      refine zr_aload_n (pc := 22) S dX12_mostOf_22 rfl ?_
      refine zr_iload (pc := 23) S dX12_mostOf_23 rfl ?_
      refine zr_iload_n (pc := 25) S dX12_mostOf_25 rfl ?_
      refine zr_iload_n (pc := 26) S dX12_mostOf_26 rfl ?_
      refine zr_iconst (pc := 27) S dX12_mostOf_27 (by unfold zrI; omega) ?_
      refine zr_isub (pc := 28) S dX12_mostOf_28 (by unfold zrI; omega) ?_
      rw [e1]
      refine zr_invV (pc := 29) S [zI _, zI _, zI _] (m_X12_served _) (kX12_mostOf_339 (e + 1)) dX12_mostOf_29 rfl (Nat.le_of_ble_eq_true rfl) rfl (Nat.le_of_ble_eq_true rfl) ⟨Nat.le_of_ble_eq_true rfl, Nat.le_of_ble_eq_true rfl⟩ (us_X12_served (b := b) (f := n + 1) (t := n) (by omega) (by omega) (agU.s hS.2.1) (agU.b hb) (by omega) hq hpU (hU.r hr) (fun _ U1 h1 => ?_) (fun x hx => absurd (hx.symm.trans (ecg.trans hc)) (by simp)))
      dsimp only [zaft, Option.toList, List.cons_append, List.nil_append, Nat.add_zero]
      refine zr_if_eq (pc := 32) (tgt := 53) S dX12_mostOf_32 (by decide) (fun c32 => ?_) (fun c32 => absurd c32 (by omega))
      refine zr_ldc2 (pc := 53) S (-1) dX12_mostOf_53 (List.mem_cons_of_mem _ (zWi_7 _ (List.mem_of_getElem? (i := 29) rfl))) (by unfold zrL; omega) ?_
      refine zr_lstore (pc := 56) S dX12_mostOf_56 (by decide) ?_
      dsimp only [zst1, zst2, zset, zget, zlong]
      exact k1 U1 h1.s
    · obtain ⟨x, hx⟩ := Option.ne_none_iff_exists'.mp hc
      have k1 := fun U1 (h : sts U U1 (n + 1)) => k58 U1 (powM V n + mostR V n (sold V b (nh (M 194) (8 * (n + 1))) x)) h (by have := mr (sold V b (nh (M 194) (8 * (n + 1))) x); omega) (by have := mr (sold V b (nh (M 194) (8 * (n + 1))) x); omega) (by
        rw [hx]
        show _ = max (mostR V n _) (powM V n + mostR V n (sold V b (nh (M 194) (8 * (n + 1))) x))
        omega)
      have k2 : ∀ U1, stk U U1 n → (∀ k, k < 8 → U1 194 (8 * n + k) = sold (vm U) b (nh (U 194) (8 * (n + 1))) x k) → zK (zg E) (rmX12_mostOf (e + 1)) 7 (Qp, 0, 0) X (0, 0) 35 [some (zR 180), some (zI ((n : Int) + 1)), some (zL (sumU (trm V n (nh (M 194) (8 * (n + 1)))) b)), none, some (zI b), u5, u6] [] U1 := by
        intro U1 h1 h2
        have s1 := h1.s
        have hS1 := hSU.s s1
        have ag1 := hS1.1
        have eso : nh (U1 194) (8 * n) = sold V b (nh (M 194) (8 * (n + 1))) x := by
          funext k
          unfold nh
          split
          · rename_i hk
            rw [h2 k hk, ag_sold agU, en]
            rfl
          · rw [sold_8 hb b5 (by omega)]
        have r1 : rwk U1 n := fun k hk => by
          rw [h2 k hk, ag_sold agU, en]
          unfold sold
          have ci := chg_inv hx
          have nn : ∀ k, k < 8 → 0 ≤ nh (M 194) (8 * (n + 1)) k ∧ nh (M 194) (8 * (n + 1)) k ≤ 20 := fun k hk => by unfold nh; rw [if_pos hk]; exact hr k hk
          refine addC_r (lessC_r (c := x) nn (fun i hi => ?_)) _ k hk
          have cx := ci.2.1.1 i hi
          have := nn i hi
          unfold cap at cx
          split at cx <;> omega
        have epw : powM (vm U1) n = powM V n := ag_powM ag1 n
        have ms := mr (sold V b (nh (M 194) (8 * (n + 1))) x)
        refine zr_aload_n (pc := 35) S dX12_mostOf_35 rfl ?_
        refine zr_iload_n (pc := 36) S dX12_mostOf_36 rfl ?_
        refine zr_iconst (pc := 37) S dX12_mostOf_37 (by unfold zrI; omega) ?_
        refine zr_isub (pc := 38) S dX12_mostOf_38 (by unfold zrI; omega) ?_
        rw [e1]
        refine zr_invV (pc := 39) S [zI _] (m_X12_power _) (kX12_mostOf_343 (e + 1)) dX12_mostOf_39 rfl (Nat.le_of_ble_eq_true rfl) rfl (Nat.le_of_ble_eq_true rfl) ⟨Nat.le_of_ble_eq_true rfl, Nat.le_of_ble_eq_true rfl⟩ (us_X12_power (ag1.b hb) (by omega) ?_)
        dsimp only [zaft, Option.toList, List.cons_append, List.nil_append, Nat.add_zero]
        rw [epw]
        refine zr_aload_n (pc := 42) S dX12_mostOf_42 rfl ?_
        refine zr_iload_n (pc := 43) S dX12_mostOf_43 rfl ?_
        refine zr_iconst (pc := 44) S dX12_mostOf_44 (by unfold zrI; omega) ?_
        refine zr_isub (pc := 45) S dX12_mostOf_45 (by unfold zrI; omega) ?_
        rw [e1]
        refine zr_invV (pc := 46) S [zI _] IH (kX12_mostOf_346 (e)) dX12_mostOf_46 rfl (Nat.le_of_ble_eq_true rfl) rfl (Nat.le_of_ble_eq_true rfl) ⟨Nat.le_of_ble_eq_true rfl, Nat.le_of_ble_eq_true rfl⟩ (us_X12_mostOf (n := n) (V := V) (by omega) (by omega) hS1 r1 ?_)
        dsimp only [zaft, Option.toList, List.cons_append, List.nil_append, Nat.add_zero]
        intro U2 hU2
        rw [eso]
        refine zr_ladd (pc := 49) S dX12_mostOf_49 (by unfold zrL; omega) ?_
        refine zr_goto (pc := 50) (tgt := 56) S dX12_mostOf_50 (by decide) ?_
        refine zr_lstore (pc := 56) S dX12_mostOf_56 (by decide) ?_
        dsimp only [zst1, zst2, zset, zget, zlong]
        exact k1 U2 (s1.tr (hU2.w (by omega)))
      refine zr_iload (pc := 11) S dX12_mostOf_11 rfl ?_
      refine zr_aload_n (pc := 13) S dX12_mostOf_13 rfl ?_
      refine zr_getR (pc := 14) S fX12_mostOf_9 dX12_mostOf_14 rfl (Nat.le_of_ble_eq_true rfl) rfl ?_
      refine zr_iconst (pc := 17) S dX12_mostOf_17 (by unfold zrI; omega) ?_
      refine zr_iaload (pc := 18) S dX12_mostOf_18 rfl (Nat.le_of_ble_eq_true rfl) (by omega) (by omega) ?_
      dsimp only [Int.reduceToNat]
      rw [e4]
      refine zr_icmp_ge (pc := 19) (tgt := 95) S dX12_mostOf_19 (by decide) (fun c19 => absurd c19 (by omega)) (fun c19 => ?_)
      refine zr_aload_n (pc := 22) S dX12_mostOf_22 rfl ?_
      refine zr_iload (pc := 23) S dX12_mostOf_23 rfl ?_
      refine zr_iload_n (pc := 25) S dX12_mostOf_25 rfl ?_
      refine zr_iload_n (pc := 26) S dX12_mostOf_26 rfl ?_
      refine zr_iconst (pc := 27) S dX12_mostOf_27 (by unfold zrI; omega) ?_
      refine zr_isub (pc := 28) S dX12_mostOf_28 (by unfold zrI; omega) ?_
      rw [e1]
      refine zr_invV (pc := 29) S [zI _, zI _, zI _] (m_X12_served _) (kX12_mostOf_339 (e + 1)) dX12_mostOf_29 rfl (Nat.le_of_ble_eq_true rfl) rfl (Nat.le_of_ble_eq_true rfl) ⟨Nat.le_of_ble_eq_true rfl, Nat.le_of_ble_eq_true rfl⟩ (us_X12_served (b := b) (f := n + 1) (t := n) (by omega) (by omega) (agU.s hS.2.1) (agU.b hb) (by omega) hq hpU (hU.r hr) (fun hx2 => absurd (hx.symm.trans (ecg.symm.trans hx2)) (by simp)) (fun y hy U1 h1 h2 => ?_))
      dsimp only [zaft, Option.toList, List.cons_append, List.nil_append, Nat.add_zero]
      refine zr_if_eq (pc := 32) (tgt := 53) S dX12_mostOf_32 (by decide) (fun c32 => absurd c32 (by omega)) (fun c32 => ?_)
      obtain rfl : y = x := Option.some.inj (hy.symm.trans (ecg.trans hx))
      exact k2 U1 h1 h2
end
