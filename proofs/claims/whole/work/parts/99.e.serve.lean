section
def sp_X12_serve (as : List zV) (M : zM) (Q : Option zV → zM → Prop) : Prop := ∃ (B n b : Int), as = [zR 180, zI n, zI b] ∧ (ICs (vm M)) ∧ (ICb (vm M)) ∧ (ICt B (vm M)) ∧ (ICe (vm M)) ∧ (∀ b : Nat, (b : Int) < M 181 4 → bqT (M 181) b ∧ 1 ≤ vm M 29 (vm M 30 b).toNat) ∧ ((0 ≤ b ∧ b < M 181 4) → (1 ≤ n ∧ n ≤ 3) → ∀ M', offY (tz M 0) M' → Q (some (zI (advN (vm M) (n - 1).toNat b.toNat))) M') ∧ (¬ (0 ≤ b ∧ b < M 181 4) → Q (some (zI 0)) (tz (tz M 0) 1)) ∧ ((0 ≤ b ∧ b < M 181 4) → ¬ (1 ≤ n ∧ n ≤ 3) → Q (some (zI 0)) (tz (tz M 0) 2))
theorem us_X12_serve {B n b : Int} {M : zM} {Q : Option zV → zM → Prop} (hs : ICs (vm M)) (hb : ICb (vm M)) (ht : ICt B (vm M)) (he : ICe (vm M)) (hT : ∀ b : Nat, (b : Int) < M 181 4 → bqT (M 181) b ∧ 1 ≤ vm M 29 (vm M 30 b).toNat) (hQ : (0 ≤ b ∧ b < M 181 4) → (1 ≤ n ∧ n ≤ 3) → ∀ M', offY (tz M 0) M' → Q (some (zI (advN (vm M) (n - 1).toNat b.toNat))) M') (hF : ¬ (0 ≤ b ∧ b < M 181 4) → Q (some (zI 0)) (tz (tz M 0) 1)) (hU : (0 ≤ b ∧ b < M 181 4) → ¬ (1 ≤ n ∧ n ≤ 3) → Q (some (zI 0)) (tz (tz M 0) 2)) : sp_X12_serve [zR 180, zI n, zI b] M Q := ⟨B, n, b, rfl, hs, hb, ht, he, hT, hQ, hF, hU⟩
set_option maxRecDepth 20000 in
set_option maxHeartbeats 4000000 in
theorem m_X12_serve (l : Launch) : zC l yX12_serve wzX12_serve rmX12_serve sp_X12_serve := by
  refine zMet.of RX12 (by decide +kernel) rfl rfl ?_
  intro E X as M Qp hX S hsp
  obtain ⟨B, n, b, rfl, hs, hb, ht, he, hT, hQ, hF, hU⟩ := hsp
  refine ⟨Nat.le_of_ble_eq_true rfl, ?_⟩
  dsimp only [zpad, zargs]
  have t8 : 0 ≤ M 181 0 ∧ M 181 0 ≤ 8 := hs.1
  have az := tz_ag M 0
  have h4 : 0 ≤ M 181 4 ∧ M 181 4 ≤ 5 := hb.1
  have key : (0 ≤ b ∧ b < M 181 4) → (1 ≤ n ∧ n ≤ 3) → zK (zg E) rmX12_serve 5 (Qp, 0, 0) X (0, 0) 38 [some (zR 180), some (zI n), some (zI b), none, none] [] (tz M 0) := by
    intro c1 c2
    have f := hQ c1 c2
    obtain ⟨n, rfl⟩ : ∃ k : Nat, n = (k : Int) + 1 := ⟨(n - 1).toNat, by omega⟩
    obtain ⟨b, rfl⟩ : ∃ k : Nat, b = k := ⟨b.toNat, by omega⟩
    rw [show ((n : Int) + 1 - 1).toNat = n by omega, Int.toNat_natCast] at f
    have b5 : b < 5 := by omega
    have e1 : (n : Int) + 1 - 1 = n := by omega
    have ec : ((n + 1 : Nat) : Int) = (n : Int) + 1 := by omega
    have kH : ∀ H : Nat → Int, (∀ k, k < 8 → H (8 * (n + 1) + k) = vm (tz M 0) 19 k) → zK (zg E) rmX12_serve 5 (Qp, 0, 0) X (0, 0) 43 [some (zR 180), some (zI ((n : Int) + 1)), some (zI b), none, none] [] (zrow (tz M 0) 194 H) := by
      intro H hH
      have oy : offY (tz M 0) (zrow (tz M 0) 194 H) := (offY.rf _).scr H (by decide)
      have hS := SPm_0 hs hb hT (H := H)
      have en : nh (zrow (tz M 0) 194 H 194) (8 * (n + 1)) = nh (vm M 19) 0 := by
        funext k
        unfold nh
        split
        · rename_i hk
          rw [zrow_e, hH k hk, az 19 (by decide), Nat.zero_add]
        · rfl
      have hr : rwk (zrow (tz M 0) 194 H) (n + 1) := fun k hk => by
        rw [zrow_e, hH k hk, az 19 (by decide)]
        have := ht.2.2.1 k hk
        omega
      have et : zrow (tz M 0) 194 H 181 = M 181 := by rw [zrow_o (by decide)]; exact zup_o _ (by decide)
      generalize zrow (tz M 0) 194 H = U at *
      have agU := hS.1
      obtain ⟨hq, hp⟩ := hS.2.2.2.2 b (by rw [et]; exact c1.2)
      have hpU : 1 ≤ vm U 29 (vm U 30 b).toNat := by rw [agU 29 (by decide), agU 30 (by decide)]; exact hp
      have ecg : chg (cap (vm U) (nh (U 194) (8 * (n + 1)))) (val (vm U)) (abv (vm U) b) = chg (cap (vm M) (nh (vm M 19) 0)) (val (vm M)) (abv (vm M) b) := by rw [en, ag_cap agU, ag_val agU, ag_abv agU]
      have mr := mostR_r hb n (by omega)
      have br := Bq_r n (by omega)
      have pr := powM_r hb n (by omega)
      by_cases hc : chg (cap (vm M) (nh (vm M 19) 0)) (val (vm M)) (abv (vm M) b) = none
      · have ea : advN (vm M) n b = -1 := by unfold advN; rw [hc]
        rw [ea] at f
        refine zr_aload_n (pc := 43) S dX12_serve_43 rfl ?_
        refine zr_iload_n (pc := 44) S dX12_serve_44 rfl ?_
        refine zr_iload_n (pc := 45) S dX12_serve_45 rfl ?_
        refine zr_iload_n (pc := 46) S dX12_serve_46 rfl ?_
        refine zr_iconst (pc := 47) S dX12_serve_47 (by unfold zrI; omega) ?_
        refine zr_isub (pc := 48) S dX12_serve_48 (by unfold zrI; omega) ?_
        rw [e1]
        refine zr_invV (pc := 49) S [zI _, zI _, zI _] (m_X12_served _) kX12_serve_339 dX12_serve_49 rfl (Nat.le_of_ble_eq_true rfl) rfl (Nat.le_of_ble_eq_true rfl) ⟨Nat.le_of_ble_eq_true rfl, Nat.le_of_ble_eq_true rfl⟩ (us_X12_served (b := b) (f := n + 1) (t := n) (by omega) (by omega) (agU.s hs) (agU.b hb) (by rw [et]; exact c1.2) hq hpU hr (fun _ U1 h1 => ?_) (fun x hx => absurd (hx.symm.trans (ecg.trans hc)) (by simp)))
        dsimp only [zaft, Option.toList, List.cons_append, List.nil_append, Nat.add_zero]
        refine zr_if_ne (pc := 52) (tgt := 57) S dX12_serve_52 (by decide) (fun c52 => absurd c52 (by omega)) (fun c52 => ?_)
        refine zr_iconst (pc := 55) S dX12_serve_55 (by unfold zrI; omega) ?_
        exact zr_iret (pc := 56) S dX12_serve_56 rfl ⟨Nat.le_refl _, Nat.le_refl _⟩ (f U1 (oy.tr h1.s.y))
      · obtain ⟨x, hx⟩ := Option.ne_none_iff_exists'.mp hc
        have ea : advN (vm M) n b = if mostR (vm M) n (nh (vm M 19) 0) ≤ mostR (vm M) n (sold (vm M) b (nh (vm M 19) 0) x) + powM (vm M) n then 1 else 0 := by unfold advN; rw [hx]
        rw [ea] at f
        have k2 : ∀ U1, stk U U1 n → (∀ k, k < 8 → U1 194 (8 * n + k) = sold (vm U) b (nh (U 194) (8 * (n + 1))) x k) → zK (zg E) rmX12_serve 5 (Qp, 0, 0) X (0, 0) 57 [some (zR 180), some (zI ((n : Int) + 1)), some (zI b), none, none] [] U1 := by
          intro U1 h1 h2
          have s1 := h1.s
          have hS1 := hS.s s1
          have ag1 := hS1.1
          have eso : nh (U1 194) (8 * n) = sold (vm M) b (nh (vm M 19) 0) x := by
            funext k
            unfold nh
            split
            · rename_i hk
              rw [h2 k hk, ag_sold agU, en]
              rfl
            · rw [sold_8 hb b5 (by omega)]
          have r1 : rwk U1 n := fun k hk => by
            rw [h2 k hk, ag_sold agU, en]
            unfold sold
            have ci := chg_inv hx
            have nn : ∀ k, k < 8 → 0 ≤ nh (vm M 19) 0 k ∧ nh (vm M 19) 0 k ≤ 20 := fun k hk => by unfold nh; rw [if_pos hk, Nat.zero_add]; have := ht.2.2.1 k hk; omega
            refine addC_r (lessC_r (c := x) nn (fun i hi => ?_)) _ k hk
            have cx := ci.2.1.1 i hi
            have := nn i hi
            unfold cap at cx
            split at cx <;> omega
          have epw : powM (vm U1) n = powM (vm M) n := ag_powM ag1 n
          have ms := mr (sold (vm M) b (nh (vm M 19) 0) x)
          have k3 : ∀ U2, sts U1 U2 n → zK (zg E) rmX12_serve 5 (Qp, 0, 0) X (0, 0) 73 [some (zR 180), some (zI ((n : Int) + 1)), some (zI b), some (zL (powM (vm M) n + mostR (vm M) n (sold (vm M) b (nh (vm M 19) 0) x))), none] [] U2 := by
            intro U2 h3
            have s2 := s1.tr (h3.w (m := n + 1) (by omega))
            have en2 := (sts_nh s2).trans en
            have k4 : ∀ U3, sts U2 U3 (n + 1) → zK (zg E) rmX12_serve 5 (Qp, 0, 0) X (0, 0) 79 [some (zR 180), some (zI ((n : Int) + 1)), some (zI b), some (zL (powM (vm M) n + mostR (vm M) n (sold (vm M) b (nh (vm M 19) 0) x))), none] [zL (mostR (vm M) n (nh (vm M 19) 0)), zL (powM (vm M) n + mostR (vm M) n (sold (vm M) b (nh (vm M 19) 0) x))] U3 := by
              intro U3 h4
              have q := f U3 (oy.tr (s2.tr h4).y)
              by_cases d : mostR (vm M) n (nh (vm M 19) 0) ≤ mostR (vm M) n (sold (vm M) b (nh (vm M 19) 0) x) + powM (vm M) n
              · rw [if_pos d] at q
                refine zr_lcmp_lt (pc := 79) (tgt := 87) S dX12_serve_79 dX12_serve_80 (by decide) (fun c79 => absurd c79 (by omega)) (fun c79 => ?_)
                refine zr_iconst (pc := 83) S dX12_serve_83 (by unfold zrI; omega) ?_
                refine zr_goto (pc := 84) (tgt := 88) S dX12_serve_84 (by decide) ?_
                exact zr_iret (pc := 88) S dX12_serve_88 rfl ⟨Nat.le_refl _, Nat.le_refl _⟩ (q)
              · rw [if_neg d] at q
                refine zr_lcmp_lt (pc := 79) (tgt := 87) S dX12_serve_79 dX12_serve_80 (by decide) (fun c79 => ?_) (fun c79 => absurd c79 (by omega))
                refine zr_iconst (pc := 87) S dX12_serve_87 (by unfold zrI; omega) ?_
                exact zr_iret (pc := 88) S dX12_serve_88 rfl ⟨Nat.le_refl _, Nat.le_refl _⟩ (q)
            refine zr_lload_n (pc := 73) S dX12_serve_73 rfl ?_
            refine zr_aload_n (pc := 74) S dX12_serve_74 rfl ?_
            refine zr_iload_n (pc := 75) S dX12_serve_75 rfl ?_
            refine zr_invV (pc := 76) S [zI _] (m_X12_without _ 5) kX12_serve_351 dX12_serve_76 rfl (Nat.le_of_ble_eq_true rfl) rfl (Nat.le_of_ble_eq_true rfl) ⟨Nat.le_of_ble_eq_true rfl, Nat.le_of_ble_eq_true rfl⟩ (us_X12_without (n := n) (V := vm M) (by omega) (by omega) (hS.s s2) (s2.r hr) ?_)
            dsimp only [zaft, Option.toList, List.cons_append, List.nil_append, Nat.add_zero]
            intro U3 hU3
            rw [en2]
            exact k4 U3 hU3
          refine zr_aload_n (pc := 57) S dX12_serve_57 rfl ?_
          refine zr_iload_n (pc := 58) S dX12_serve_58 rfl ?_
          refine zr_iconst (pc := 59) S dX12_serve_59 (by unfold zrI; omega) ?_
          refine zr_isub (pc := 60) S dX12_serve_60 (by unfold zrI; omega) ?_
          rw [e1]
          refine zr_invV (pc := 61) S [zI _] (m_X12_power _) kX12_serve_343 dX12_serve_61 rfl (Nat.le_of_ble_eq_true rfl) rfl (Nat.le_of_ble_eq_true rfl) ⟨Nat.le_of_ble_eq_true rfl, Nat.le_of_ble_eq_true rfl⟩ (us_X12_power (ag1.b hb) (by omega) ?_)
          dsimp only [zaft, Option.toList, List.cons_append, List.nil_append, Nat.add_zero]
          rw [epw]
          refine zr_aload_n (pc := 64) S dX12_serve_64 rfl ?_
          refine zr_iload_n (pc := 65) S dX12_serve_65 rfl ?_
          refine zr_iconst (pc := 66) S dX12_serve_66 (by unfold zrI; omega) ?_
          refine zr_isub (pc := 67) S dX12_serve_67 (by unfold zrI; omega) ?_
          rw [e1]
          refine zr_invV (pc := 68) S [zI _] (m_X12_mostOf _ 6) kX12_serve_346 dX12_serve_68 rfl (Nat.le_of_ble_eq_true rfl) rfl (Nat.le_of_ble_eq_true rfl) ⟨Nat.le_of_ble_eq_true rfl, Nat.le_of_ble_eq_true rfl⟩ (us_X12_mostOf (n := n) (V := vm M) (by omega) (by omega) hS1 r1 ?_)
          dsimp only [zaft, Option.toList, List.cons_append, List.nil_append, Nat.add_zero]
          intro U2 hU2
          rw [eso]
          refine zr_ladd (pc := 71) S dX12_serve_71 (by unfold zrL; omega) ?_
          refine zr_lstore_n (pc := 72) S 3 dX12_serve_72 rfl (by decide) ?_
          dsimp only [zst1, zst2, zset, zget, zlong]
          exact k3 U2 hU2
        refine zr_aload_n (pc := 43) S dX12_serve_43 rfl ?_
        refine zr_iload_n (pc := 44) S dX12_serve_44 rfl ?_
        refine zr_iload_n (pc := 45) S dX12_serve_45 rfl ?_
        refine zr_iload_n (pc := 46) S dX12_serve_46 rfl ?_
        refine zr_iconst (pc := 47) S dX12_serve_47 (by unfold zrI; omega) ?_
        refine zr_isub (pc := 48) S dX12_serve_48 (by unfold zrI; omega) ?_
        rw [e1]
        refine zr_invV (pc := 49) S [zI _, zI _, zI _] (m_X12_served _) kX12_serve_339 dX12_serve_49 rfl (Nat.le_of_ble_eq_true rfl) rfl (Nat.le_of_ble_eq_true rfl) ⟨Nat.le_of_ble_eq_true rfl, Nat.le_of_ble_eq_true rfl⟩ (us_X12_served (b := b) (f := n + 1) (t := n) (by omega) (by omega) (agU.s hs) (agU.b hb) (by rw [et]; exact c1.2) hq hpU hr (fun hx2 => absurd (hx.symm.trans (ecg.symm.trans hx2)) (by simp)) (fun y hy U1 h1 h2 => ?_))
        dsimp only [zaft, Option.toList, List.cons_append, List.nil_append, Nat.add_zero]
        refine zr_if_ne (pc := 52) (tgt := 57) S dX12_serve_52 (by decide) (fun c52 => ?_) (fun c52 => absurd c52 (by omega))
        obtain rfl : y = x := Option.some.inj (hy.symm.trans (ecg.trans hx))
        exact k2 U1 h1 h2
    refine zr_aload_n (pc := 38) S dX12_serve_38 rfl ?_
    refine zr_iload_n (pc := 39) S dX12_serve_39 rfl ?_
    refine zr_invV (pc := 40) S [zI _] (m_X12_stocks _) kX12_serve_357 dX12_serve_40 rfl (Nat.le_of_ble_eq_true rfl) rfl (Nat.le_of_ble_eq_true rfl) ⟨Nat.le_of_ble_eq_true rfl, Nat.le_of_ble_eq_true rfl⟩ (us_X12_stocks (n := n + 1) (by omega) (az.e he) t8 ?_)
    dsimp only [zaft, Option.toList, List.cons_append, List.nil_append, Nat.add_zero]
    intro H hH
    exact kH H hH
  refine zr_aload_n (pc := 0) S dX12_serve_0 rfl ?_
  refine zr_iconst (pc := 1) S dX12_serve_1 (by unfold zrI; omega) ?_
  refine zr_putI (pc := 2) S pX12_serve_80 dX12_serve_2 rfl (Nat.le_of_ble_eq_true rfl) rfl ?_
  refine zr_aload_n (pc := 5) S dX12_serve_5 rfl ?_
  refine zr_iconst (pc := 6) S dX12_serve_6 (by unfold zrI; omega) ?_
  refine zr_iload_n (pc := 7) S dX12_serve_7 rfl ?_
  refine zr_invV (pc := 8) S [zI _, zI _] (m_X12_is _) kX12_serve_87 dX12_serve_8 rfl (Nat.le_of_ble_eq_true rfl) rfl (Nat.le_of_ble_eq_true rfl) ⟨Nat.le_of_ble_eq_true rfl, Nat.le_of_ble_eq_true rfl⟩ (us_X12_is (by decide) (by decide) h4.1 ?_)
  dsimp only [zaft, Option.toList, List.cons_append, List.nil_append, Nat.add_zero]
  refine zr_if_ne (pc := 11) (tgt := 20) S dX12_serve_11 (by decide) (fun c11 => ?_) (fun c11 => ?_)
  · rw [b01_0, Classical.not_not] at c11
    have c11' : 0 ≤ b ∧ b ≤ M 181 4 - 1 := c11
    refine zr_iload_n (pc := 20) S dX12_serve_20 rfl ?_
    refine zr_i2l (pc := 21) S dX12_serve_21 ?_
    refine zr_lconst1 (pc := 22) S dX12_serve_22 ?_
    refine zr_ldc2 (pc := 23) S (3) dX12_serve_23 (List.mem_cons_of_mem _ (zWi_7 _ (List.mem_of_getElem? (i := 24) rfl))) (by unfold zrL; omega) ?_
    refine zr_invS (pc := 26) S [zL _, zL _, zL _] (m_X12_within _) kX12_serve_83 dX12_serve_26 (Nat.le_of_ble_eq_true rfl) ⟨Nat.le_of_ble_eq_true rfl, Nat.le_of_ble_eq_true rfl⟩ (us_X12_within ?_)
    dsimp only [zaft, Option.toList, List.cons_append, List.nil_append, Nat.add_zero]
    refine zr_if_ne (pc := 29) (tgt := 38) S dX12_serve_29 (by decide) (fun c29 => ?_) (fun c29 => ?_)
    · rw [b01_0, Classical.not_not] at c29
      exact key (by omega) c29
    · rw [b01_0] at c29
      have f := hU (by omega) c29
      refine zr_aload_n (pc := 32) S dX12_serve_32 rfl ?_
      refine zr_iconst (pc := 33) S dX12_serve_33 (by unfold zrI; omega) ?_
      refine zr_invV (pc := 34) S [zI _] (m_X12_fails _) kX12_serve_95 dX12_serve_34 rfl (Nat.le_of_ble_eq_true rfl) rfl (Nat.le_of_ble_eq_true rfl) ⟨Nat.le_of_ble_eq_true rfl, Nat.le_of_ble_eq_true rfl⟩ (us_X12_fails ?_)
      dsimp only [zaft, Option.toList, List.cons_append, List.nil_append, Nat.add_zero]
      exact zr_iret (pc := 37) S dX12_serve_37 rfl ⟨Nat.le_refl _, Nat.le_refl _⟩ (f)
  · rw [b01_0] at c11
    have f := hF (fun z => c11 (by show _ ∧ _ ≤ M 181 4 - 1; omega))
    refine zr_aload_n (pc := 14) S dX12_serve_14 rfl ?_
    refine zr_iconst (pc := 15) S dX12_serve_15 (by unfold zrI; omega) ?_
    refine zr_invV (pc := 16) S [zI _] (m_X12_fails _) kX12_serve_95 dX12_serve_16 rfl (Nat.le_of_ble_eq_true rfl) rfl (Nat.le_of_ble_eq_true rfl) ⟨Nat.le_of_ble_eq_true rfl, Nat.le_of_ble_eq_true rfl⟩ (us_X12_fails ?_)
    dsimp only [zaft, Option.toList, List.cons_append, List.nil_append, Nat.add_zero]
    exact zr_iret (pc := 19) S dX12_serve_19 rfl ⟨Nat.le_refl _, Nat.le_refl _⟩ (f)
end
