section
/-- what the tubes give as change, as the reference reckons it -/
theorem gvc {M N : zM} {s : Nat} (a : AG (vm M) (vm N)) (hh : ∀ k, k < 8 → N 189 k = vm M 19 k) : fwD (cH N) (vW (vm N)) 8 s = fwD (capT (vm M)) (vW (vm M)) 8 s ∧ ∀ k, gv (cH N) (vW (vm N)) 8 s k = gv (capT (vm M)) (vW (vm M)) 8 s k := by
  have ev : vW (vm N) = vW (vm M) := by funext k; unfold vW; rw [ag_worth a]
  have ec : ∀ k, k < 8 → vW (vm M) k ≠ 0 → cH N k = capT (vm M) k := fun k hk w => by
    have := cH_cap (M := N) (h := nh (vm M 19) 0) (fun k hk => by unfold nh; rw [if_pos hk, Nat.zero_add]; exact hh k hk) k hk (by rw [ev]; exact w)
    rw [this, ag_cap a]
  rw [ev]
  exact ⟨fwD_cap ec 8 (by omega) s, fun k => gv_cap ec 8 (by omega) s k⟩
/-- the till's bounds, read from the told row -/
theorem tld {B : Int} {M : zM} (h : ICt B (vm M)) : (0 ≤ M 181 3 ∧ M 181 3 ≤ 12) ∧ (∀ j, j < 12 → (0 ≤ M 181 (357 + 4 * j) ∧ M 181 (357 + 4 * j) < 8) ∧ (-1 ≤ M 181 (358 + 4 * j) ∧ M 181 (358 + 4 * j) < 8)) ∧ (∀ i, i < 8 → (0 ≤ M 181 (159 + 21 * i) ∧ M 181 (159 + 21 * i) ≤ 20) ∧ (0 ≤ M 181 (327 + i) ∧ M 181 (327 + i) ≤ B) ∧ (-B ≤ M 181 (343 + i) ∧ M 181 (343 + i) ≤ B)) := by
  obtain ⟨a, b, c, d, e⟩ := h
  refine ⟨a, fun j hj => ?_, fun i hi => ?_⟩
  · have := e j hj
    rw [vm_scn hj, vm_sas hj] at this
    omega
  · have := c i hi
    rw [vm_hgt hi, vm_bag hi, vm_whl hi] at this
    omega
def sp_X12_sale (as : List zV) (M : zM) (Q : Option zV → zM → Prop) : Prop := ∃ (B g : Int), as = [zR 180, zI g] ∧ (0 ≤ M 181 2 ∧ M 181 2 ≤ 6) ∧ (ICs (vm M)) ∧ (ICb (vm M)) ∧ (ICt B (vm M)) ∧ (B ≤ 900000) ∧ (ICe (vm M)) ∧ ((0 ≤ g ∧ g < M 181 2) → ∀ x, chg (capT (vm M)) (val (vm M)) (credit (vm M) - M 181 (351 + g).toNat) = some x → ∀ M', offY (zrow (tz M 0) 181 (saleT (M 181) x)) M' → Q (some (zI (gaT (rUp (M 181) 6 0) x 8 6))) M') ∧ ((0 ≤ g ∧ g < M 181 2) → chg (capT (vm M)) (val (vm M)) (credit (vm M) - M 181 (351 + g).toNat) = none → ∀ M', offY (tz M 0) M' → Q (some (zI (-1))) M') ∧ (¬ (0 ≤ g ∧ g < M 181 2) → Q (some (zI 0)) (tz (tz M 0) 1))
theorem us_X12_sale {B g : Int} {M : zM} {Q : Option zV → zM → Prop} (h0 : 0 ≤ M 181 2 ∧ M 181 2 ≤ 6) (hs : ICs (vm M)) (hb : ICb (vm M)) (ht : ICt B (vm M)) (hB : B ≤ 900000) (he : ICe (vm M)) (hQ : (0 ≤ g ∧ g < M 181 2) → ∀ x, chg (capT (vm M)) (val (vm M)) (credit (vm M) - M 181 (351 + g).toNat) = some x → ∀ M', offY (zrow (tz M 0) 181 (saleT (M 181) x)) M' → Q (some (zI (gaT (rUp (M 181) 6 0) x 8 6))) M') (hF : (0 ≤ g ∧ g < M 181 2) → chg (capT (vm M)) (val (vm M)) (credit (vm M) - M 181 (351 + g).toNat) = none → ∀ M', offY (tz M 0) M' → Q (some (zI (-1))) M') (hT : ¬ (0 ≤ g ∧ g < M 181 2) → Q (some (zI 0)) (tz (tz M 0) 1)) : sp_X12_sale [zR 180, zI g] M Q := ⟨B, g, rfl, h0, hs, hb, ht, hB, he, hQ, hF, hT⟩
set_option maxRecDepth 20000 in
set_option maxHeartbeats 4000000 in
theorem m_X12_sale (l : Launch) : zC l yX12_sale wzX12_sale rmX12_sale sp_X12_sale := by
  refine zMet.of RX12 (by decide +kernel) rfl rfl ?_
  intro E X as M Qp hX S hsp
  obtain ⟨B, g, rfl, h0, hs, hb, ht, hB, he, hQ, hF, hT⟩ := hsp
  refine ⟨Nat.le_of_ble_eq_true rfl, ?_⟩
  dsimp only [zpad, zargs]
  have et : tz M 0 181 = M 181 := zup_o _ (by decide)
  have t8 : 0 ≤ M 181 0 ∧ M 181 0 ≤ 8 := hs.1
  have cr := credit_r ht
  have key : (0 ≤ g ∧ g < M 181 2) → zK (zg E) rmX12_sale 6 (Qp, 0, 0) X (0, 0) 19 [some (zR 180), some (zI g), none, none, none, none] [] (tz M 0) := by
    intro c1
    have f1 := hQ c1
    have f2 := hF c1
    have pr : 0 ≤ M 181 (351 + g).toNat ∧ M 181 (351 + g).toNat ≤ 500 := by
      have := hb.2.1 g.toNat (by omega)
      rw [show vm M 29 g.toNat = M 181 (351 + g.toNat) from if_pos (by omega)] at this
      rw [show (351 + g).toNat = 351 + g.toNat by omega]
      exact this
    have eP : tz M 0 181 (351 + g).toNat = M 181 (351 + g).toNat := by rw [et]
    have ecr := ag_credit (tz_ag M 0)
    generalize hab : credit (vm M) - M 181 (351 + g).toNat = ab at *
    have kk : ∀ H : Nat → Int, (∀ k, k < 8 → H k = vm (tz M 0) 19 k) → zK (zg E) rmX12_sale 6 (Qp, 0, 0) X (0, 0) 39 [some (zR 180), some (zI g), some (zI ab), none, none, none] [] (zrow (tz M 0) 189 H) := by
      intro H hH
      have oy : offY (tz M 0) (zrow (tz M 0) 189 H) := (offY.rf _).scr H (by decide)
      have aN : AG (vm M) (vm (zrow (tz M 0) 189 H)) := fun k hk => (oy.ag k hk).trans (tz_ag M 0 k hk)
      have eH : ∀ k, k < 8 → zrow (tz M 0) 189 H 189 k = vm M 19 k := fun k hk => by rw [zrow_e, hH k hk, tz_ag M 0 19 (by decide)]
      by_cases ab0 : ab < 0
      · have ff := f2 (chg_none (fun z => by omega))
        refine zr_iload_n (pc := 39) S dX12_sale_39 rfl ?_
        refine zr_if_lt (pc := 40) (tgt := 52) S dX12_sale_40 (by decide) (fun c40 => ?_) (fun c40 => absurd c40 (by omega))
        refine zr_iconst (pc := 52) S dX12_sale_52 (by unfold zrI; omega) ?_
        exact zr_iret (pc := 53) S dX12_sale_53 rfl ⟨Nat.le_refl _, Nat.le_refl _⟩ (ff _ oy)
      · obtain ⟨top, rfl⟩ : ∃ n : Nat, ab = n := ⟨ab.toNat, by omega⟩
        have gc := gvc (s := top) aN eH
        have c20 : ∀ i, i < 8 → capT (vm M) i ≤ 20 := fun i hi => (capT_r ht i hi).1
        have hh : ∀ k, k < 8 → 0 ≤ zrow (tz M 0) 189 H 189 k ∧ zrow (tz M 0) 189 H 189 k ≤ 20 := fun k hk => by
          rw [eH k hk]
          have := ht.2.2.1 k hk
          omega
        by_cases hf : fwD (capT (vm M)) (vW (vm M)) 8 top < 1000000
        · have ec := chg_gv c20 hf
          have q := f1 _ ec
          have fr := fwD_r (cH (zrow (tz M 0) 189 H)) (vW (vm (zrow (tz M 0) 189 H))) 8 top
          have k2 : ∀ F G : Nat → Int, (∀ k, k < 8 → G k = (gv (cH (zrow (tz M 0) 189 H)) (vW (vm (zrow (tz M 0) 189 H))) 8 top k : Nat)) → zK (zg E) rmX12_sale 6 (Qp, 0, 0) X (0, 0) 54 [some (zR 180), some (zI g), some (zI top), none, none, none] [] (zrow (FM (zrow (tz M 0) 189 H) F) 190 G) := by
            intro F G hG
            have o2 : offY (tz M 0) (zrow (FM (zrow (tz M 0) 189 H) F) 190 G) := (oy.scr F (by decide)).scr G (by decide)
            have e2 : zrow (FM (zrow (tz M 0) 189 H) F) 190 G 181 = M 181 := (o2 181 (by decide)).trans et
            have eg : zrow (FM (zrow (tz M 0) 189 H) F) 190 G 190 = G := zrow_e
            generalize zrow (FM (zrow (tz M 0) 189 H) F) 190 G = N at *
            have td := tld ht
            generalize hx : nrm (gv (capT (vm M)) (vW (vm M)) 8 top) = x at *
            have xe : ∀ u, u < 8 → x u = gv (capT (vm M)) (vW (vm M)) 8 top u := fun u hu => by rw [← hx]; unfold nrm; rw [if_pos hu]
            have xc : ∀ u, u < 8 → x u ≤ capT (vm M) u := fun u hu => by rw [xe u hu]; exact gv_c 8 top u
            have x20 : ∀ u, u < 8 → x u ≤ 20 := fun u hu => Nat.le_trans (xc u hu) (c20 u hu)
            have xh : ∀ u, u < 8 → (x u : Int) ≤ M 181 (159 + 21 * u) := fun u hu => by
              have := (capT_r ht u hu).2
              have := xc u hu
              rw [← vm_hgt (M := M) hu]
              omega
            have o3 := o2.row 181 (saleT (M 181) x)
            have q3 := q _ o3
            have g3 : ∀ i, i = 3 ∨ (357 ≤ i ∧ i < 405) ∨ (327 ≤ i ∧ i < 335) → gaT (rUp (M 181) 6 0) x 8 i = M 181 i := fun i hi => by
              rw [gaT_o (by omega) 8 (by omega) (fun k hk => by omega), rUp_o (by omega)]
            have l1 := fun u4 u5 => sl1 (E := E) (X := X) (Qp := Qp) (N := N) (t := gaT (rUp (M 181) 6 0) x 8) (g := g) (ab := top) (u4 := u4) (u5 := u5) S (by rw [g3 3 (by omega)]; exact td.1) (fun j hj => by rw [g3 _ (by omega), g3 _ (by omega)]; exact td.2.1 j hj) (fun i hi => by
              have a := td.2.2 i hi
              have b := xh i hi
              rw [gaT_h 8 (by omega) i hi, g3 _ (by omega), rUp_o (by omega)]
              omega) (by rw [g3 3 (by omega)]; exact q3) (M 181 3).toNat 0 (by rw [g3 3 (by omega)]; have := td.1; omega)
            have l2 := fun u4 u5 => sl2 (E := E) (X := X) (Qp := Qp) (N := N) (t := rUp (M 181) 6 0) (x := x) (g := g) (ab := top) S (fun u hu => by rw [eg, hG u hu, gc.2, xe u hu]) x20 rUp_e (fun u hu => by rw [rUp_o (by omega)]; exact ⟨xh u hu, (td.2.2 u hu).1.2⟩) (fun u hu => by rw [rUp_o (by omega)]; have := (td.2.2 u hu).2.2; omega) (fun u4 u5 => by
              have l := l1 u4 u5
              refine zr_iconst (pc := 147) S dX12_sale_147 (by unfold zrI; omega) ?_
              refine zr_istore_n (pc := 148) S 3 dX12_sale_148 rfl (by decide) ?_
              dsimp only [zst1, zst2, zset, zget, zlong]
              exact l) 8 0 u4 u5 (by omega)
            refine zr_aload_n (pc := 54) S dX12_sale_54 rfl ?_
            refine zr_getR (pc := 55) S fX12_sale_9 dX12_sale_55 rfl (Nat.le_of_ble_eq_true rfl) rfl ?_
            refine zr_bipush (pc := 58) S dX12_sale_58 ⟨by unfold zrI; omega, by decide⟩ ?_
            refine zr_iconst (pc := 60) S dX12_sale_60 (by unfold zrI; omega) ?_
            refine zr_iastore (pc := 61) S dX12_sale_61 rfl (Nat.le_of_ble_eq_true rfl) (by omega) (by omega) ?_
            rw [up_zrow, e2]
            refine zr_iconst (pc := 62) S dX12_sale_62 (by unfold zrI; omega) ?_
            refine zr_istore_n (pc := 63) S 3 dX12_sale_63 rfl (by decide) ?_
            dsimp only [zst1, zst2, zset, zget, zlong]
            exact l2 _ _
          refine zr_iload_n (pc := 39) S dX12_sale_39 rfl ?_
          refine zr_if_lt (pc := 40) (tgt := 52) S dX12_sale_40 (by decide) (fun c40 => absurd c40 (by omega)) (fun c40 => ?_)
          refine zr_aload_n (pc := 43) S dX12_sale_43 rfl ?_
          refine zr_iload_n (pc := 44) S dX12_sale_44 rfl ?_
          refine zr_invV (pc := 45) S [zI _] (m_X12_changes _) kX12_sale_321 dX12_sale_45 rfl (Nat.le_of_ble_eq_true rfl) rfl (Nat.le_of_ble_eq_true rfl) ⟨Nat.le_of_ble_eq_true rfl, Nat.le_of_ble_eq_true rfl⟩ (us_X12_changes (top := top) (by omega) (aN.s hs) hh (fun hn F => absurd (gc.1 ▸ hf) hn) (fun hy F G hG => ?_))
          dsimp only [zaft, Option.toList, List.cons_append, List.nil_append, Nat.add_zero]
          refine zr_iconst (pc := 48) S dX12_sale_48 (by unfold zrI; omega) ?_
          refine zr_icmp_ne (pc := 49) (tgt := 54) S dX12_sale_49 (by decide) (fun c49 => ?_) (fun c49 => absurd c49 (by omega))
          exact k2 F G hG
        · have ff := f2 (chg_no c20 hf).1
          refine zr_iload_n (pc := 39) S dX12_sale_39 rfl ?_
          refine zr_if_lt (pc := 40) (tgt := 52) S dX12_sale_40 (by decide) (fun c40 => absurd c40 (by omega)) (fun c40 => ?_)
          refine zr_aload_n (pc := 43) S dX12_sale_43 rfl ?_
          refine zr_iload_n (pc := 44) S dX12_sale_44 rfl ?_
          refine zr_invV (pc := 45) S [zI _] (m_X12_changes _) kX12_sale_321 dX12_sale_45 rfl (Nat.le_of_ble_eq_true rfl) rfl (Nat.le_of_ble_eq_true rfl) ⟨Nat.le_of_ble_eq_true rfl, Nat.le_of_ble_eq_true rfl⟩ (us_X12_changes (top := top) (by omega) (aN.s hs) hh (fun hn F => ?_) (fun hy F G hG => absurd (gc.1 ▸ hy) hf))
          dsimp only [zaft, Option.toList, List.cons_append, List.nil_append, Nat.add_zero]
          refine zr_iconst (pc := 48) S dX12_sale_48 (by unfold zrI; omega) ?_
          refine zr_icmp_ne (pc := 49) (tgt := 54) S dX12_sale_49 (by decide) (fun c49 => absurd c49 (by omega)) (fun c49 => ?_)
          refine zr_iconst (pc := 52) S dX12_sale_52 (by unfold zrI; omega) ?_
          exact zr_iret (pc := 53) S dX12_sale_53 rfl ⟨Nat.le_refl _, Nat.le_refl _⟩ (ff _ (oy.scr F (by decide)))
    refine zr_aload_n (pc := 19) S dX12_sale_19 rfl ?_
    refine zr_invV (pc := 20) S [] (m_X12_creditOf _) kX12_sale_315 dX12_sale_20 rfl (Nat.le_of_ble_eq_true rfl) rfl (Nat.le_of_ble_eq_true rfl) ⟨Nat.le_of_ble_eq_true rfl, Nat.le_of_ble_eq_true rfl⟩ (us_X12_creditOf ((tz_ag M 0).t ht) ?_)
    dsimp only [zaft, Option.toList, List.cons_append, List.nil_append, Nat.add_zero]
    rw [ecr]
    refine zr_aload_n (pc := 23) S dX12_sale_23 rfl ?_
    refine zr_getR (pc := 24) S fX12_sale_9 dX12_sale_24 rfl (Nat.le_of_ble_eq_true rfl) rfl ?_
    refine zr_sipush (pc := 27) S dX12_sale_27 ⟨by unfold zrI; omega, by decide⟩ ?_
    refine zr_iload_n (pc := 30) S dX12_sale_30 rfl ?_
    refine zr_iadd (pc := 31) S dX12_sale_31 (by unfold zrI; omega) ?_
    refine zr_iaload (pc := 32) S dX12_sale_32 rfl (Nat.le_of_ble_eq_true rfl) (by omega) (by omega) ?_
    rw [eP]
    refine zr_isub (pc := 33) S dX12_sale_33 (by unfold zrI; omega) ?_
    rw [hab]
    refine zr_istore_n (pc := 34) S 2 dX12_sale_34 rfl (by decide) ?_
    dsimp only [zst1, zst2, zset, zget, zlong]
    refine zr_aload_n (pc := 35) S dX12_sale_35 rfl ?_
    refine zr_invV (pc := 36) S [] (m_X12_haveTubes _) kX12_sale_318 dX12_sale_36 rfl (Nat.le_of_ble_eq_true rfl) rfl (Nat.le_of_ble_eq_true rfl) ⟨Nat.le_of_ble_eq_true rfl, Nat.le_of_ble_eq_true rfl⟩ (us_X12_haveTubes ((tz_ag M 0).e he) (by rw [et]; exact t8) ?_)
    dsimp only [zaft, Option.toList, List.cons_append, List.nil_append, Nat.add_zero]
    intro H hH
    exact kk H hH
  refine zr_aload_n (pc := 0) S dX12_sale_0 rfl ?_
  refine zr_iconst (pc := 1) S dX12_sale_1 (by unfold zrI; omega) ?_
  refine zr_putI (pc := 2) S pX12_sale_80 dX12_sale_2 rfl (Nat.le_of_ble_eq_true rfl) rfl ?_
  refine zr_aload_n (pc := 5) S dX12_sale_5 rfl ?_
  refine zr_iload_n (pc := 6) S dX12_sale_6 rfl ?_
  refine zr_invV (pc := 7) S [zI _] (m_X12_isOffer _) kX12_sale_290 dX12_sale_7 rfl (Nat.le_of_ble_eq_true rfl) rfl (Nat.le_of_ble_eq_true rfl) ⟨Nat.le_of_ble_eq_true rfl, Nat.le_of_ble_eq_true rfl⟩ (us_X12_isOffer h0.1 ?_)
  dsimp only [zaft, Option.toList, List.cons_append, List.nil_append, Nat.add_zero]
  refine zr_if_ne (pc := 10) (tgt := 19) S dX12_sale_10 (by decide) (fun c10 => ?_) (fun c10 => ?_)
  · rw [b01_0, Classical.not_not] at c10
    have c10' : 0 ≤ g ∧ g ≤ M 181 2 - 1 := c10
    exact key (by omega)
  · rw [b01_0] at c10
    have f := hT (fun z => c10 (by show _ ∧ _ ≤ M 181 2 - 1; omega))
    refine zr_aload_n (pc := 13) S dX12_sale_13 rfl ?_
    refine zr_iconst (pc := 14) S dX12_sale_14 (by unfold zrI; omega) ?_
    refine zr_invV (pc := 15) S [zI _] (m_X12_fails _) kX12_sale_95 dX12_sale_15 rfl (Nat.le_of_ble_eq_true rfl) rfl (Nat.le_of_ble_eq_true rfl) ⟨Nat.le_of_ble_eq_true rfl, Nat.le_of_ble_eq_true rfl⟩ (us_X12_fails ?_)
    dsimp only [zaft, Option.toList, List.cons_append, List.nil_append, Nat.add_zero]
    exact zr_iret (pc := 18) S dX12_sale_18 rfl ⟨Nat.le_refl _, Nat.le_refl _⟩ (f)
end
