section
def rmX0_spread : Room := { frames := 2, cells := 0, slots := 0, locals := 53 }
abbrev wzX0_spread : List Cond := .code yX0_spread cX0_spread 7 none :: zW
theorem fX0_spread_11 : zfl wzX0_spread RX0 vwCl 11 0 1 := ⟨_, _, _, rfl, (fun w h => List.mem_cons_of_mem _ (zWuX0 w h)), by decide, List.mem_cons_of_mem _ (zWi_7 _ (List.mem_of_getElem? (i := 43) rfl))⟩
theorem fX0_spread_19 : zfl wzX0_spread RX0 vwCl 19 0 0 := ⟨_, _, _, rfl, (fun w h => List.mem_cons_of_mem _ (zWuX0 w h)), by decide, List.mem_cons_of_mem _ (zWi_7 _ (List.mem_of_getElem? (i := 45) rfl))⟩
theorem fX0_spread_34 : zfl wzX0_spread RX0 vwCl 34 7 0 := ⟨_, _, _, rfl, (fun w h => List.mem_cons_of_mem _ (zWuX7 w h)), by decide, List.mem_cons_of_mem _ (zWi_7 _ (List.mem_of_getElem? (i := 46) rfl))⟩
theorem kX0_spread_23 : zml_mmin wzX0_spread RX0 23 := ⟨List.mem_cons_of_mem _ (zWi_20 _ (List.mem_of_getElem? (i := 29) rfl)), List.mem_cons_of_mem _ (zWi_30 _ (List.mem_of_getElem? (i := 3) rfl)), List.mem_cons_of_mem _ (zWi_12 _ (List.mem_of_getElem? (i := 0) rfl)), List.mem_cons_of_mem _ (zWi_0 _ (List.mem_of_getElem? (i := 28) rfl))⟩
theorem kX0_spread_29 : zml_mmax wzX0_spread RX0 29 := ⟨List.mem_cons_of_mem _ (zWi_20 _ (List.mem_of_getElem? (i := 30) rfl)), List.mem_cons_of_mem _ (zWi_30 _ (List.mem_of_getElem? (i := 2) rfl)), List.mem_cons_of_mem _ (zWi_12 _ (List.mem_of_getElem? (i := 0) rfl)), List.mem_cons_of_mem _ (zWi_0 _ (List.mem_of_getElem? (i := 27) rfl))⟩
theorem kX0_spread_40 : ∀ (s9 : State) (a9 : Array Value), (∀ w ∈ wzX0_spread, w.before a9 s9 = true) → CallW rmX0_spread s9 a9 RX0 RX7 40 yX7_isGood cX7_isGood 2 (some .boolean) wzX7_isGood rmX7_isGood 0 0 1 := zcV (zWi_20 _ (List.mem_of_getElem? (i := 32) rfl)) (zWi_16 _ (List.mem_of_getElem? (i := 48) rfl)) (zWi_29 _ (List.mem_of_getElem? (i := 24) rfl)) (zWi_12 _ (List.mem_of_getElem? (i := 19) rfl)) (zWi_5 _ (List.mem_of_getElem? (i := 32) rfl)) (by decide +kernel) rfl rfl ⟨Nat.le_of_ble_eq_true rfl, Nat.le_of_ble_eq_true rfl⟩
theorem kX0_spread_44 : ∀ (s9 : State) (a9 : Array Value), (∀ w ∈ wzX0_spread, w.before a9 s9 = true) → CallW rmX0_spread s9 a9 RX0 RX0 44 yX0_spreadSort cX0_spreadSort 13 (some .int) wzX0_spreadSort rmX0_spreadSort 0 0 4 := zcV (zWi_20 _ (List.mem_of_getElem? (i := 33) rfl)) (zWi_12 _ (List.mem_of_getElem? (i := 36) rfl)) (zWi_25 _ (List.mem_of_getElem? (i := 22) rfl)) (zWi_12 _ (List.mem_of_getElem? (i := 9) rfl)) (zWi_1 _ (List.mem_of_getElem? (i := 10) rfl)) (by decide +kernel) rfl rfl ⟨Nat.le_of_ble_eq_true rfl, Nat.le_of_ble_eq_true rfl⟩
def offL (M N : zM) : Prop := ∀ k, k ≠ 54 → N k = M k
/-- what one sort's bundles come to -/
def spS (f g : Nat → Int) (v : Nat) (W : Int) (t top rc : Nat) : Prop := Bst f g v W t top ∧ (∀ j, j ≤ top → 0 ≤ g j ∧ g j ≤ 1152921504606846976) ∧ (∀ j, rc < j → j ≤ top → g j = 1152921504606846976)
theorem spS_step {f g g' : Nat → Int} {v t b top rc : Nat} {W : Int} (h : spS f g v W t top rc) (hb : b ≤ t + 1) (hW : 0 ≤ W) (hg : ∀ s, s ≤ top → g' s = if b * v ≤ s ∧ s ≤ min top (rc + b * v) then min (g s) (g (s - b * v) + b * W) else g s) : spS f g' v W (t + b) top (min top (rc + b * v)) := by
  have hw : 0 ≤ (b : Int) * W := Int.mul_nonneg (by omega) hW
  have key : ∀ s, s ≤ top → g' s = if b * v ≤ s then min (g s) (g (s - b * v) + b * W) else g s := fun s hs => by
    rw [hg s hs]
    by_cases h1 : b * v ≤ s
    · by_cases h2 : s ≤ min top (rc + b * v)
      · rw [if_pos ⟨h1, h2⟩, if_pos h1]
      · rw [if_neg (fun z => h2 z.2), if_pos h1]
        have u1 := h.2.2 s (by omega) hs
        have u2 := h.2.2 (s - b * v) (by omega) (by omega)
        omega
    · rw [if_neg (fun z => h1 z.1), if_neg h1]
  refine ⟨Bst_step h.1 hb key, fun j hj => ?_, fun j h1 h2 => ?_⟩
  · rw [key j hj]
    have u1 := h.2.1 j hj
    split
    · have u2 := h.2.1 (j - b * v) (by omega)
      omega
    · exact u1
  · rw [hg j h2, if_neg (by omega)]
    exact h.2.2 j (by omega) h2
theorem mulN (a b : Nat) : ((a : Int) * (b : Int)).toNat = a * b := by rw [← Int.natCast_mul]; exact Int.toNat_natCast _
set_option maxHeartbeats 1000000 in
theorem lp_X0_bundle {E : zE} {X : zX} {Qp : Option zV → zM → Prop} {M : zM} {k v top many : Nat} {l3 : Option zV} (S : zS (zg E) X cX0_spreadSort 13 wzX0_spreadSort RX0 (some .int)) (hk8 : k < 8) (hv : 1 ≤ v) (hv2 : v ≤ 200) (htop : top ≤ 4800) (hmany : many ≤ 20) (hval : M 4 k = v) (hQ : ∀ (r : Option zV) (M' : zM), (∃ rc : Nat, r = some (zI rc) ∧ rc ≤ top ∧ offL M M' ∧ spS (M 54) (M' 54) v (wgt k) many top rc) → Qp r M') : ∀ (n t rest bun rc : Nat) (T : zM) (l8 l9 l10 l12 : Option zV), rest ≤ n → t + rest = many → (0 < rest → bun = t + 1) → 1 ≤ bun → bun ≤ 40 → rc ≤ top → offL M T → spS (M 54) (T 54) v (wgt k) t top rc → zK (zg E) rmX0_spreadSort 13 (Qp, 0, 0) X (0, 0) 9 [some (zR 53), some (zI k), some (zI many), l3, some (zI top), some (zI rc), some (zI rest), some (zI bun), l8, l9, l10, none, l12] [] T := by
  have w := wgt_r k hk8
  have d := dgt_r k hk8
  have ek : (k : Int).toNat = k := Int.toNat_natCast k
  have ew : 1099511627776 - dgt k = wgt k := rfl
  intro n
  induction n with
  | zero =>
    intro t rest bun rc T l8 l9 l10 l12 h1 h2 h3 h4 h5 h6 h7 h8
    have e : t = many := by omega
    subst e
    have q := hQ _ T ⟨rc, rfl, h6, h7, h8⟩
    refine zr_iload (pc := 9) S dX0_spreadSort_9 rfl ?_
    refine zr_bipush (pc := 11) S dX0_spreadSort_11 ⟨by unfold zrI; omega, by decide⟩ ?_
    refine zr_icmp_gt (pc := 13) (tgt := 133) S dX0_spreadSort_13 (by decide) (fun c13 => ?_) (fun c13 => ?_)
    · refine zr_iload (pc := 133) S dX0_spreadSort_133 rfl ?_
      exact zr_iret (pc := 135) S dX0_spreadSort_135 rfl ⟨Nat.le_refl _, Nat.le_refl _⟩ (q)
    · refine zr_iload (pc := 16) S dX0_spreadSort_16 rfl ?_
      refine zr_if_le (pc := 18) (tgt := 133) S dX0_spreadSort_18 (by decide) (fun c18 => ?_) (fun c18 => absurd c18 (by omega))
      refine zr_iload (pc := 133) S dX0_spreadSort_133 rfl ?_
      exact zr_iret (pc := 135) S dX0_spreadSort_135 rfl ⟨Nat.le_refl _, Nat.le_refl _⟩ (q)
  | succ n ih =>
    intro t rest bun rc T l8 l9 l10 l12 h1 h2 h3 h4 h5 h6 h7 h8
    by_cases h0 : rest = 0
    · subst h0
      have e : t = many := by omega
      subst e
      have q := hQ _ T ⟨rc, rfl, h6, h7, h8⟩
      refine zr_iload (pc := 9) S dX0_spreadSort_9 rfl ?_
      refine zr_bipush (pc := 11) S dX0_spreadSort_11 ⟨by unfold zrI; omega, by decide⟩ ?_
      refine zr_icmp_gt (pc := 13) (tgt := 133) S dX0_spreadSort_13 (by decide) (fun c13 => ?_) (fun c13 => ?_)
      · refine zr_iload (pc := 133) S dX0_spreadSort_133 rfl ?_
        exact zr_iret (pc := 135) S dX0_spreadSort_135 rfl ⟨Nat.le_refl _, Nat.le_refl _⟩ (q)
      · refine zr_iload (pc := 16) S dX0_spreadSort_16 rfl ?_
        refine zr_if_le (pc := 18) (tgt := 133) S dX0_spreadSort_18 (by decide) (fun c18 => ?_) (fun c18 => absurd c18 (by omega))
        refine zr_iload (pc := 133) S dX0_spreadSort_133 rfl ?_
        exact zr_iret (pc := 135) S dX0_spreadSort_135 rfl ⟨Nat.le_refl _, Nat.le_refl _⟩ (q)
    · have hb := h3 (by omega)
      obtain ⟨b, hbe⟩ : ∃ b : Nat, (b : Int) = min (bun : Int) (rest : Int) := ⟨min bun rest, by omega⟩
      have ec : T 4 k = v := by rw [h7 4 (by decide)]; exact hval
      have em : (b : Int) * (v : Int) = ((b * v : Nat) : Int) := by rw [Int.natCast_mul]
      have bv : b * v ≤ 20 * 200 := Nat.mul_le_mul (by omega) hv2
      have bv1 : 1 * 1 ≤ b * v := Nat.mul_le_mul (by omega) hv
      have pw := zmulr (a := (b : Int)) (A := 20) (b := wgt k) (B := 1099511627776) (by omega) (by omega) (by omega) (by omega)
      have er : min (top : Int) ((rc : Int) + ((b * v : Nat) : Int)) = (min top (rc + b * v) : Nat) := by omega
      have e2 : (rest : Int) - b = ((rest - b : Nat) : Int) := by omega
      have e3 : (bun : Int) * 2 = ((bun * 2 : Nat) : Int) := by omega
      have hpass := lp_X0_pass (M := T) (k := k) (top := top) (many := many) (v := b * v) (rc := min top (rc + b * v)) (w := b * wgt k) (l3 := l3) (l6 := some (zI (rest - b : Nat))) (l7 := some (zI bun)) (l8 := some (zI b)) (Qp := Qp) S (by omega) (by omega) ⟨pw.1, by omega⟩ (fun j hj => h8.2.1 j (by omega)) (fun x u12 hx => by
        have q := fun l8 l9 l10 l12 => ih (t + b) (rest - b) (bun * 2) (min top (rc + b * v)) (knG T (b * v) (b * wgt k) x (min top (rc + b * v))) l8 l9 l10 l12 (by omega) (by omega) (by omega) (by omega) (by omega) (by omega) (fun k' hk' => by rw [knG_o k' hk', h7 k' hk']) (spS_step h8 (by omega) (by omega) (fun s hs => knG_end hx))
        refine zr_iload (pc := 124) S dX0_spreadSort_124 rfl ?_
        refine zr_iconst (pc := 126) S dX0_spreadSort_126 (by unfold zrI; omega) ?_
        refine zr_imul (pc := 127) S dX0_spreadSort_127 (by unfold zrI; omega) ?_
        rw [e3]
        refine zr_istore (pc := 128) S dX0_spreadSort_128 (by decide) ?_
        dsimp only [zst1, zst2, zset, zget, zlong]
        refine zr_goto (pc := 130) (tgt := 9) S dX0_spreadSort_130 (by decide) ?_
        exact q _ _ _ _)
      have q := hpass (min top (rc + b * v)) (Nat.le_refl _)
      rw [knG_0] at q
      refine zr_iload (pc := 9) S dX0_spreadSort_9 rfl ?_
      refine zr_bipush (pc := 11) S dX0_spreadSort_11 ⟨by unfold zrI; omega, by decide⟩ ?_
      refine zr_icmp_gt (pc := 13) (tgt := 133) S dX0_spreadSort_13 (by decide) (fun c13 => absurd c13 (by omega)) (fun c13 => ?_)
      refine zr_iload (pc := 16) S dX0_spreadSort_16 rfl ?_
      refine zr_if_le (pc := 18) (tgt := 133) S dX0_spreadSort_18 (by decide) (fun c18 => absurd c18 (by omega)) (fun c18 => ?_)
      refine zr_iload (pc := 21) S dX0_spreadSort_21 rfl ?_
      refine zr_iload (pc := 23) S dX0_spreadSort_23 rfl ?_
      refine zr_mmin (pc := 25) S kX0_spreadSort_23 dX0_spreadSort_25 (Nat.le_of_ble_eq_true rfl) (Nat.le_of_ble_eq_true rfl) ⟨Nat.le_of_ble_eq_true rfl, Nat.le_of_ble_eq_true rfl⟩ ?_
      rw [← hbe]
      refine zr_istore (pc := 28) S dX0_spreadSort_28 (by decide) ?_
      dsimp only [zst1, zst2, zset, zget, zlong]
      refine zr_iload (pc := 30) S dX0_spreadSort_30 rfl ?_
      refine zr_iload (pc := 32) S dX0_spreadSort_32 rfl ?_
      refine zr_isub (pc := 34) S dX0_spreadSort_34 (by unfold zrI; omega) ?_
      rw [e2]
      refine zr_istore (pc := 35) S dX0_spreadSort_35 (by decide) ?_
      dsimp only [zst1, zst2, zset, zget, zlong]
      refine zr_iload (pc := 37) S dX0_spreadSort_37 rfl ?_
      refine zr_aload_n (pc := 39) S dX0_spreadSort_39 rfl ?_
      refine zr_getR (pc := 40) S fX0_spreadSort_19 dX0_spreadSort_40 rfl (Nat.le_of_ble_eq_true rfl) rfl ?_
      refine zr_getR (pc := 43) S fX0_spreadSort_48 dX0_spreadSort_43 rfl (Nat.le_of_ble_eq_true rfl) rfl ?_
      refine zr_iload_n (pc := 46) S dX0_spreadSort_46 rfl ?_
      refine zr_iaload (pc := 47) S dX0_spreadSort_47 rfl (Nat.le_of_ble_eq_true rfl) (by omega) (by omega) ?_
      rw [ek, ec]
      refine zr_imul (pc := 48) S dX0_spreadSort_48 (by rw [em]; unfold zrI; omega) ?_
      rw [em]
      refine zr_istore (pc := 49) S dX0_spreadSort_49 (by decide) ?_
      dsimp only [zst1, zst2, zset, zget, zlong]
      refine zr_iload (pc := 51) S dX0_spreadSort_51 rfl ?_
      refine zr_i2l (pc := 53) S dX0_spreadSort_53 ?_
      refine zr_ldc2 (pc := 54) S (1099511627776) dX0_spreadSort_54 (List.mem_cons_of_mem _ (zWi_7 _ (List.mem_of_getElem? (i := 3) rfl))) (by unfold zrL; omega) ?_
      refine zr_iload_n (pc := 57) S dX0_spreadSort_57 rfl ?_
      refine zr_invS (pc := 58) S [zI _] (m_X0_digit _) kX0_spreadSort_54 dX0_spreadSort_58 (Nat.le_of_ble_eq_true rfl) ⟨Nat.le_of_ble_eq_true rfl, Nat.le_of_ble_eq_true rfl⟩ (us_X0_digit hk8 ?_)
      dsimp only [zaft, Option.toList, List.cons_append, List.nil_append, Nat.add_zero]
      refine zr_lsub (pc := 61) S dX0_spreadSort_61 (by unfold zrL; omega) ?_
      rw [ew]
      refine zr_lmul (pc := 62) S dX0_spreadSort_62 (by unfold zrL; omega) ?_
      refine zr_lstore (pc := 63) S dX0_spreadSort_63 (by decide) ?_
      dsimp only [zst1, zst2, zset, zget, zlong]
      refine zr_iload (pc := 65) S dX0_spreadSort_65 rfl ?_
      refine zr_iload (pc := 67) S dX0_spreadSort_67 rfl ?_
      refine zr_iload (pc := 69) S dX0_spreadSort_69 rfl ?_
      refine zr_iadd (pc := 71) S dX0_spreadSort_71 (by unfold zrI; omega) ?_
      refine zr_mmin (pc := 72) S kX0_spreadSort_23 dX0_spreadSort_72 (Nat.le_of_ble_eq_true rfl) (Nat.le_of_ble_eq_true rfl) ⟨Nat.le_of_ble_eq_true rfl, Nat.le_of_ble_eq_true rfl⟩ ?_
      rw [er]
      refine zr_istore (pc := 75) S dX0_spreadSort_75 (by decide) ?_
      dsimp only [zst1, zst2, zset, zget, zlong]
      refine zr_iload (pc := 77) S dX0_spreadSort_77 rfl ?_
      refine zr_istore (pc := 79) S dX0_spreadSort_79 (by decide) ?_
      dsimp only [zst1, zst2, zset, zget, zlong]
      exact q
def sp_X0_spreadSort (as : List zV) (M : zM) (Q : Option zV → zM → Prop) : Prop := ∃ (k v top many bef : Nat), as = [zR 53, zI k, zI many, zI bef, zI top] ∧ (k < 8) ∧ (1 ≤ v) ∧ (v ≤ 200) ∧ (top ≤ 4800) ∧ (many ≤ 20) ∧ (M 4 k = v) ∧ (bef ≤ top) ∧ (∀ j, j ≤ top → 0 ≤ M 54 j ∧ M 54 j ≤ 1152921504606846976) ∧ (∀ j, bef < j → j ≤ top → M 54 j = 1152921504606846976) ∧ (∀ (r : Option zV) (M' : zM), (∃ rc : Nat, r = some (zI rc) ∧ rc ≤ top ∧ offL M M' ∧ spS (M 54) (M' 54) v (wgt k) many top rc) → Q r M')
theorem us_X0_spreadSort {k v top many bef : Nat} {M : zM} {Q : Option zV → zM → Prop} (hk8 : k < 8) (hv : 1 ≤ v) (hv2 : v ≤ 200) (htop : top ≤ 4800) (hmany : many ≤ 20) (hval : M 4 k = v) (hbf : bef ≤ top) (hf : ∀ j, j ≤ top → 0 ≤ M 54 j ∧ M 54 j ≤ 1152921504606846976) (hb : ∀ j, bef < j → j ≤ top → M 54 j = 1152921504606846976) (h99 : (∀ (r : Option zV) (M' : zM), (∃ rc : Nat, r = some (zI rc) ∧ rc ≤ top ∧ offL M M' ∧ spS (M 54) (M' 54) v (wgt k) many top rc) → Q r M')) : sp_X0_spreadSort [zR 53, zI k, zI many, zI bef, zI top] M Q := ⟨k, v, top, many, bef, rfl, hk8, hv, hv2, htop, hmany, hval, hbf, hf, hb, h99⟩
set_option maxRecDepth 20000 in
set_option maxHeartbeats 4000000 in
theorem m_X0_spreadSort (l : Launch) : zC l yX0_spreadSort wzX0_spreadSort rmX0_spreadSort sp_X0_spreadSort := by
  refine zMet.of RX0 (by decide +kernel) rfl rfl ?_
  intro E X as M Qp hX S hsp
  obtain ⟨k, v, top, many, bef, rfl, hk8, hv, hv2, htop, hmany, hval, hbf, hf, hb, hQ⟩ := hsp
  refine ⟨Nat.le_of_ble_eq_true rfl, ?_⟩
  dsimp only [zpad, zargs]
  have q := fun l8 l9 l10 l12 => lp_X0_bundle (l3 := some (zI bef)) S hk8 hv hv2 htop hmany hval hQ many 0 many 1 bef M l8 l9 l10 l12 (Nat.le_refl _) (by omega) (by omega) (by omega) (by omega) hbf (fun _ _ => rfl) ⟨Bst_0 _ _ _ _, hf, hb⟩
  refine zr_iload_n (pc := 0) S dX0_spreadSort_0 rfl ?_
  refine zr_istore (pc := 1) S dX0_spreadSort_1 (by decide) ?_
  dsimp only [zst1, zst2, zset, zget, zlong]
  refine zr_iload_n (pc := 3) S dX0_spreadSort_3 rfl ?_
  refine zr_istore (pc := 4) S dX0_spreadSort_4 (by decide) ?_
  dsimp only [zst1, zst2, zset, zget, zlong]
  refine zr_iconst (pc := 6) S dX0_spreadSort_6 (by unfold zrI; omega) ?_
  refine zr_istore (pc := 7) S dX0_spreadSort_7 (by decide) ?_
  dsimp only [zst1, zst2, zset, zget, zlong]
  exact q _ _ _ _
end
