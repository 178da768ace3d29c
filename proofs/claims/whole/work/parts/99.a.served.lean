section
theorem gvh {M N : zM} {h : Nat → Int} {s : Nat} (a : AG (vm M) (vm N)) (hh : ∀ k, k < 8 → N 189 k = h k) : fwD (cH N) (vW (vm N)) 8 s = fwD (cap (vm M) h) (vW (vm M)) 8 s ∧ ∀ k, gv (cH N) (vW (vm N)) 8 s k = gv (cap (vm M) h) (vW (vm M)) 8 s k := by
  have ev : vW (vm N) = vW (vm M) := by funext k; unfold vW; rw [ag_worth a]
  have ec : ∀ k, k < 8 → vW (vm M) k ≠ 0 → cH N k = cap (vm M) h k := fun k hk w => by
    have := cH_cap (M := N) (h := h) hh k hk (by rw [ev]; exact w)
    rw [this, ag_cap a]
  rw [ev]
  exact ⟨fwD_cap ec 8 (by omega) s, fun k => gv_cap ec 8 (by omega) s k⟩
/-- only the season's scratch has changed, and one row of the stock -/
def stk (M M' : zM) (t : Nat) : Prop := (∀ k, k ≠ 189 → k ≠ 188 → k ≠ 190 → k ≠ 194 → M' k = M k) ∧ ∀ j, (j < 8 * t ∨ 8 * t + 8 ≤ j) → M' 194 j = M 194 j
def sp_X12_served (as : List zV) (M : zM) (Q : Option zV → zM → Prop) : Prop := ∃ (b f t : Nat), as = [zR 180, zI b, zI f, zI t] ∧ (f ≤ 3) ∧ (t ≤ 3) ∧ (ICs (vm M)) ∧ (ICb (vm M)) ∧ ((b : Int) < M 181 4) ∧ (bqT (M 181) b) ∧ (1 ≤ vm M 29 (vm M 30 b).toNat) ∧ (∀ k, k < 8 → 0 ≤ M 194 (8 * f + k) ∧ M 194 (8 * f + k) ≤ 20) ∧ (chg (cap (vm M) (nh (M 194) (8 * f))) (val (vm M)) (abv (vm M) b) = none → ∀ M', stk M M' t → Q (some (zI 0)) M') ∧ (∀ x, chg (cap (vm M) (nh (M 194) (8 * f))) (val (vm M)) (abv (vm M) b) = some x → ∀ M', stk M M' t → (∀ k, k < 8 → M' 194 (8 * t + k) = sold (vm M) b (nh (M 194) (8 * f)) x k) → Q (some (zI 1)) M')
theorem us_X12_served {b f t : Nat} {M : zM} {Q : Option zV → zM → Prop} (hf : f ≤ 3) (ht : t ≤ 3) (hs : ICs (vm M)) (hb : ICb (vm M)) (h5 : (b : Int) < M 181 4) (hq : bqT (M 181) b) (hp : 1 ≤ vm M 29 (vm M 30 b).toNat) (hh : ∀ k, k < 8 → 0 ≤ M 194 (8 * f + k) ∧ M 194 (8 * f + k) ≤ 20) (hN : chg (cap (vm M) (nh (M 194) (8 * f))) (val (vm M)) (abv (vm M) b) = none → ∀ M', stk M M' t → Q (some (zI 0)) M') (hY : ∀ x, chg (cap (vm M) (nh (M 194) (8 * f))) (val (vm M)) (abv (vm M) b) = some x → ∀ M', stk M M' t → (∀ k, k < 8 → M' 194 (8 * t + k) = sold (vm M) b (nh (M 194) (8 * f)) x k) → Q (some (zI 1)) M') : sp_X12_served [zR 180, zI b, zI f, zI t] M Q := ⟨b, f, t, rfl, hf, ht, hs, hb, h5, hq, hp, hh, hN, hY⟩
set_option maxRecDepth 20000 in
set_option maxHeartbeats 4000000 in
theorem m_X12_served (l : Launch) : zC l yX12_served wzX12_served rmX12_served sp_X12_served := by
  refine zMet.of RX12 (by decide +kernel) rfl rfl ?_
  intro E X as M Qp hX S hsp
  obtain ⟨b, f, t, rfl, hf, ht, hs, hb, h5, hq, hp, hh, hN, hY⟩ := hsp
  refine ⟨Nat.le_of_ble_eq_true rfl, ?_⟩
  dsimp only [zpad, zargs]
  have b5 : b < 5 := by have := hb.1; rw [vm_buy] at this; omega
  have h4 : M 181 4 ≤ 5 := by have := hb.1; rw [vm_buy] at this; omega
  have ew := vm_wsh h5
  have wr := hb.2.2 b b5
  have ar := abv_r hs hb b5
  have cr := cnB_r (M 181) b
  have ecn := vm_cns h5
  have ep : vm M 29 (vm M 30 b).toNat = M 181 (351 + (vm M 30 b).toNat) := if_pos (by omega)
  have prr := hb.2.1 (vm M 30 b).toNat (by omega)
  have hcap : ∀ i, i < 8 → cap (vm M) (nh (M 194) (8 * f)) i ≤ 20 ∧ (cap (vm M) (nh (M 194) (8 * f)) i : Int) ≤ nh (M 194) (8 * f) i := fun i hi => by
    have := hh i hi
    unfold cap nh
    rw [if_pos hi]
    split <;> omega
  have c20 := fun i hi => (hcap i hi).1
  have hN0 : ¬ (∀ i, i < (cnB (M 181) b).toNat → isGood (vm M) (vm M 31 (b * 4 + i))) → Qp (some (zI 0)) M := fun z => by
    refine hN (chg_none (fun y => ?_)) M ⟨fun _ _ _ _ _ => rfl, fun _ _ => rfl⟩
    have : abv (vm M) b = 0 - vm M 29 (vm M 30 b).toNat := by
      unfold abv paid
      rw [ecn, if_neg z]
    omega
  have k83 : (∀ i, i < (cnB (M 181) b).toNat → isGood (vm M) (vm M 31 (b * 4 + i))) → ∀ u7, zK (zg E) rmX12_served 8 (Qp, 0, 0) X (0, 0) 83 [some (zR 180), some (zI b), some (zI f), some (zI t), some (zI (577 + 6 * (b : Int))), some (zI (payU (vm M) b (cnB (M 181) b).toNat)), some (zI 5), u7] [] M := by
    intro ag u7
    have eab : payU (vm M) b (cnB (M 181) b).toNat - vm M 29 (vm M 30 b).toNat = abv (vm M) b := by
      unfold abv paid
      rw [ecn, if_pos ag]
    have pr := payU_r hs hb b5 (cnB (M 181) b).toNat (by omega)
    have i1 : ((577 : Int) + 6 * (b : Int)).toNat = 577 + 6 * b := by omega
    have i2 : ((351 : Int) + vm M 30 b).toNat = 351 + (vm M 30 b).toNat := by omega
    have k139 : ∀ H : Nat → Int, (∀ s, s < 8 → H s = M 194 (8 * f + s)) → zK (zg E) rmX12_served 8 (Qp, 0, 0) X (0, 0) 139 [some (zR 180), some (zI b), some (zI f), some (zI t), some (zI (577 + 6 * (b : Int))), some (zI (payU (vm M) b (cnB (M 181) b).toNat)), some (zI (abv (vm M) b)), some (zI 8)] [] (zrow M 189 H) := by
      intro H hH
      have aN : AG (vm M) (vm (zrow M 189 H)) := vm_zr (by decide) (by decide)
      have eH : ∀ k, k < 8 → zrow M 189 H 189 k = nh (M 194) (8 * f) k := fun k hk => by rw [zrow_e, hH k hk]; unfold nh; rw [if_pos hk]
      have s0 : stk M (zrow M 189 H) t := ⟨fun k k1 _ _ _ => zrow_o k1, fun j _ => by rw [zrow_o (by decide)]⟩
      have hh2 : ∀ k, k < 8 → 0 ≤ zrow M 189 H 189 k ∧ zrow M 189 H 189 k ≤ 20 := fun k hk => by rw [zrow_e, hH k hk]; exact hh k hk
      generalize hab : abv (vm M) b = ab at *
      by_cases ab0 : ab < 0
      · have ff := hN (chg_none (fun z => by omega)) _ s0
        refine zr_iload (pc := 139) S dX12_served_139 rfl ?_
        refine zr_if_lt (pc := 141) (tgt := 154) S dX12_served_141 (by decide) (fun c141 => ?_) (fun c141 => absurd c141 (by omega))
        refine zr_iconst (pc := 154) S dX12_served_154 (by unfold zrI; omega) ?_
        exact zr_zret (pc := 155) S dX12_served_155 rfl (by first | omega | exact b01_r) ⟨Nat.le_refl _, Nat.le_refl _⟩ (ff)
      · obtain ⟨top, rfl⟩ : ∃ n : Nat, ab = n := ⟨ab.toNat, by omega⟩
        have gc := gvh (s := top) aN eH
        by_cases hfw : fwD (cap (vm M) (nh (M 194) (8 * f))) (vW (vm M)) 8 top < 1000000
        · have ec := chg_gv c20 hfw
          have q := hY _ ec
          have k2 : ∀ F G : Nat → Int, (∀ k, k < 8 → G k = (gv (cH (zrow M 189 H)) (vW (vm (zrow M 189 H))) 8 top k : Nat)) → zK (zg E) rmX12_served 8 (Qp, 0, 0) X (0, 0) 156 [some (zR 180), some (zI b), some (zI f), some (zI t), some (zI (577 + 6 * (b : Int))), some (zI (payU (vm M) b (cnB (M 181) b).toNat)), some (zI top), some (zI 8)] [] (zrow (FM (zrow M 189 H) F) 190 G) := by
            intro F G hG
            have s2 : stk M (zrow (FM (zrow M 189 H) F) 190 G) t := ⟨fun k k1 k2 k3 _ => by rw [zrow_o k3, FM_o k2, zrow_o k1], fun j _ => by rw [zrow_o (by decide), FM_o (by decide), zrow_o (by decide)]⟩
            have eh : zrow (FM (zrow M 189 H) F) 190 G 189 = H := by rw [zrow_o (by decide), FM_o (by decide), zrow_e]
            have eg : zrow (FM (zrow M 189 H) F) 190 G 190 = G := zrow_e
            have est : zrow (FM (zrow M 189 H) F) 190 G 194 = M 194 := by rw [zrow_o (by decide), FM_o (by decide), zrow_o (by decide)]
            generalize zrow (FM (zrow M 189 H) F) 190 G = N at *
            have eN : N 181 = M 181 := s2.1 _ (by decide) (by decide) (by decide) (by decide)
            generalize hx : nrm (gv (cap (vm M) (nh (M 194) (8 * f))) (vW (vm M)) 8 top) = x at *
            have xe : ∀ u, u < 8 → x u = gv (cap (vm M) (nh (M 194) (8 * f))) (vW (vm M)) 8 top u := fun u hu => by rw [← hx]; unfold nrm; rw [if_pos hu]
            have xc : ∀ u, u < 8 → x u ≤ cap (vm M) (nh (M 194) (8 * f)) u := fun u hu => by rw [xe u hu]; exact gv_c 8 top u
            have xh : ∀ u, u < 8 → (x u : Int) ≤ nh (M 194) (8 * f) u := fun u hu => by have := (hcap u hu).2; have := xc u hu; omega
            have gx : ∀ u, u < 8 → G u = x u := fun u hu => by rw [hG u hu, gc.2, xe u hu]
            have hn8 : ∀ k, k < 8 → 0 ≤ nh (M 194) (8 * f) k ∧ nh (M 194) (8 * f) k ≤ 20 := fun k hk => by unfold nh; rw [if_pos hk]; exact hh k hk
            have hl := lessC_r (c := x) hn8 xh
            have kk : ∀ K : Nat → Int, (∀ s, s < 8 → K (8 * t + s) = N 189 s - N 190 s) → (∀ j, (j < 8 * t ∨ 8 * t + 8 ≤ j) → K j = N 194 j) → zK (zg E) rmX12_served 8 (Qp, 0, 0) X (0, 0) 199 [some (zR 180), some (zI b), some (zI f), some (zI t), some (zI (577 + 6 * (b : Int))), some (zI (payU (vm M) b (cnB (M 181) b).toNat)), some (zI top), some (zI 8)] [] (zrow N 194 K) := by
              intro K h1 h2
              have l4 := sv4 (E := E) (X := X) (Qp := Qp) (N := N) (V := vm M) (t := t) (b := b) (g := lessC (nh (M 194) (8 * f)) x) (f := f) (l5 := payU (vm M) b (cnB (M 181) b).toNat) (l6 := top) S ht hb (by rw [eN]; exact h5) (by rw [eN]; exact hq) (by rw [eN]; exact h4) (fun i hi => by rw [eN] at hi ⊢; exact vm_cn h5 (by omega) hi) (by rw [eN]; exact ecn) hl (fun K g1 g2 => by
                refine q _ ⟨fun k k1 k2 k3 k4 => by rw [zrow_o k4]; exact s2.1 k k1 k2 k3 k4, fun j hj => by rw [zrow_e, g2 j hj, est]⟩ (fun k hk => ?_)
                rw [zrow_e, g1 k hk, eN]
                unfold sold
                rw [ecn]) 4 0 K (by omega) (fun s hs => by
                rw [h1 s hs, eh, eg, hH s hs, gx s hs, show mc (N 181) b 0 = 0 by unfold mc; omega]
                show _ = lessC _ _ s
                unfold lessC nh
                rw [if_pos hs, if_pos hs]) h2
              refine zr_iconst (pc := 199) S dX12_served_199 (by unfold zrI; omega) ?_
              refine zr_istore (pc := 200) S dX12_served_200 (by decide) ?_
              dsimp only [zst1, zst2, zset, zget, zlong]
              exact l4
            have l3 := sv3 (E := E) (X := X) (Qp := Qp) (N := N) (t := t) (b := b) (f := f) (l4 := 577 + 6 * (b : Int)) (l5 := payU (vm M) b (cnB (M 181) b).toNat) (l6 := top) S ht (fun s hs => by
              rw [eh, eg, hH s hs, gx s hs]
              have := hh s hs
              have := c20 s hs
              have := xc s hs
              omega) kk 8 0 (N 194) (by omega) (fun s hs => absurd hs (by omega)) (fun _ _ => rfl)
            rw [zrow_s] at l3
            refine zr_iconst (pc := 156) S dX12_served_156 (by unfold zrI; omega) ?_
            refine zr_istore (pc := 157) S dX12_served_157 (by decide) ?_
            dsimp only [zst1, zst2, zset, zget, zlong]
            exact l3
          refine zr_iload (pc := 139) S dX12_served_139 rfl ?_
          refine zr_if_lt (pc := 141) (tgt := 154) S dX12_served_141 (by decide) (fun c141 => absurd c141 (by omega)) (fun c141 => ?_)
          refine zr_aload_n (pc := 144) S dX12_served_144 rfl ?_
          refine zr_iload (pc := 145) S dX12_served_145 rfl ?_
          refine zr_invV (pc := 147) S [zI _] (m_X12_changes _) kX12_served_321 dX12_served_147 rfl (Nat.le_of_ble_eq_true rfl) rfl (Nat.le_of_ble_eq_true rfl) ⟨Nat.le_of_ble_eq_true rfl, Nat.le_of_ble_eq_true rfl⟩ (us_X12_changes (top := top) (by omega) (aN.s hs) hh2 (fun hn F => absurd (gc.1 ▸ hfw) hn) (fun hy F G hG => ?_))
          dsimp only [zaft, Option.toList, List.cons_append, List.nil_append, Nat.add_zero]
          refine zr_iconst (pc := 150) S dX12_served_150 (by unfold zrI; omega) ?_
          refine zr_icmp_ne (pc := 151) (tgt := 156) S dX12_served_151 (by decide) (fun c151 => ?_) (fun c151 => absurd c151 (by omega))
          exact k2 F G hG
        · have ff := hN (chg_no c20 hfw).1
          refine zr_iload (pc := 139) S dX12_served_139 rfl ?_
          refine zr_if_lt (pc := 141) (tgt := 154) S dX12_served_141 (by decide) (fun c141 => absurd c141 (by omega)) (fun c141 => ?_)
          refine zr_aload_n (pc := 144) S dX12_served_144 rfl ?_
          refine zr_iload (pc := 145) S dX12_served_145 rfl ?_
          refine zr_invV (pc := 147) S [zI _] (m_X12_changes _) kX12_served_321 dX12_served_147 rfl (Nat.le_of_ble_eq_true rfl) rfl (Nat.le_of_ble_eq_true rfl) ⟨Nat.le_of_ble_eq_true rfl, Nat.le_of_ble_eq_true rfl⟩ (us_X12_changes (top := top) (by omega) (aN.s hs) hh2 (fun hn F => ?_) (fun hy F G hG => absurd (gc.1 ▸ hy) hfw))
          dsimp only [zaft, Option.toList, List.cons_append, List.nil_append, Nat.add_zero]
          refine zr_iconst (pc := 150) S dX12_served_150 (by unfold zrI; omega) ?_
          refine zr_icmp_ne (pc := 151) (tgt := 156) S dX12_served_151 (by decide) (fun c151 => absurd c151 (by omega)) (fun c151 => ?_)
          refine zr_iconst (pc := 154) S dX12_served_154 (by unfold zrI; omega) ?_
          exact zr_zret (pc := 155) S dX12_served_155 rfl (by first | omega | exact b01_r) ⟨Nat.le_refl _, Nat.le_refl _⟩ (ff _ ⟨fun k k1 k2 _ _ => by rw [FM_o k2, zrow_o k1], fun j _ => by rw [FM_o (by decide), zrow_o (by decide)]⟩)
    have l2 := sv2 (E := E) (X := X) (Qp := Qp) (M := M) (f := f) (b := b) (t := t) (l4 := 577 + 6 * (b : Int)) (l5 := payU (vm M) b (cnB (M 181) b).toNat) (l6 := abv (vm M) b) S hf k139 8 0 (M 189) (by omega) (fun s hs => absurd hs (by omega))
    rw [zrow_s] at l2
    refine zr_iload (pc := 83) S dX12_served_83 rfl ?_
    refine zr_aload_n (pc := 85) S dX12_served_85 rfl ?_
    refine zr_getR (pc := 86) S fX12_served_9 dX12_served_86 rfl (Nat.le_of_ble_eq_true rfl) rfl ?_
    refine zr_sipush (pc := 89) S dX12_served_89 ⟨by unfold zrI; omega, by decide⟩ ?_
    refine zr_aload_n (pc := 92) S dX12_served_92 rfl ?_
    refine zr_getR (pc := 93) S fX12_served_9 dX12_served_93 rfl (Nat.le_of_ble_eq_true rfl) rfl ?_
    refine zr_iload (pc := 96) S dX12_served_96 rfl ?_
    refine zr_iaload (pc := 98) S dX12_served_98 rfl (Nat.le_of_ble_eq_true rfl) (by omega) (by omega) ?_
    rw [i1, ← ew]
    refine zr_iadd (pc := 99) S dX12_served_99 (by unfold zrI; omega) ?_
    refine zr_iaload (pc := 100) S dX12_served_100 rfl (Nat.le_of_ble_eq_true rfl) (by omega) (by omega) ?_
    rw [i2, ← ep]
    refine zr_isub (pc := 101) S dX12_served_101 (by rw [eab]; unfold zrI; omega) ?_
    rw [eab]
    refine zr_istore (pc := 102) S dX12_served_102 (by decide) ?_
    dsimp only [zst1, zst2, zset, zget, zlong]
    refine zr_iconst (pc := 104) S dX12_served_104 (by unfold zrI; omega) ?_
    refine zr_istore (pc := 105) S dX12_served_105 (by decide) ?_
    dsimp only [zst1, zst2, zset, zget, zlong]
    exact l2
  have l1 := fun u7 => sv1 (E := E) (X := X) (Qp := Qp) (M := M) (b := b) (f := f) (t := t) S hs hb h5 hq hN0 k83 4 0 u7 (by omega) (fun i hi => absurd hi (by unfold mc; omega))
  rw [show mc (M 181) b 0 = 0 by unfold mc; omega] at l1
  refine zr_sipush (pc := 0) S dX12_served_0 ⟨by unfold zrI; omega, by decide⟩ ?_
  refine zr_bipush (pc := 3) S dX12_served_3 ⟨by unfold zrI; omega, by decide⟩ ?_
  refine zr_iload_n (pc := 5) S dX12_served_5 rfl ?_
  refine zr_imul (pc := 6) S dX12_served_6 (by unfold zrI; omega) ?_
  refine zr_iadd (pc := 7) S dX12_served_7 (by unfold zrI; omega) ?_
  refine zr_istore (pc := 8) S dX12_served_8 (by decide) ?_
  dsimp only [zst1, zst2, zset, zget, zlong]
  refine zr_iconst (pc := 10) S dX12_served_10 (by unfold zrI; omega) ?_
  refine zr_istore (pc := 11) S dX12_served_11 (by decide) ?_
  dsimp only [zst1, zst2, zset, zget, zlong]
  refine zr_iconst (pc := 13) S dX12_served_13 (by unfold zrI; omega) ?_
  refine zr_istore (pc := 14) S dX12_served_14 (by decide) ?_
  dsimp only [zst1, zst2, zset, zget, zlong]
  exact l1 _
end
