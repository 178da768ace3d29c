section
theorem lc3 {E : zE} {X : zX} {Qp : Option zV → zM → Prop} {M : zM} {F : Nat → Int} {top j s : Nat} {v : Int} (S : zS (zg E) X cX12_layChange 7 wzX12_layChange RX12 none) (ht : top ≤ 4800) (hj : j < 8) (hs : s ≤ top) (hv : v = (vW (vm M) (7 - j) : Nat)) (hv2 : v ≤ 200) (hh : 0 ≤ M 189 (7 - j) ∧ M 189 (7 - j) ≤ 20) (hF : FWok M F top j)
    (k : zK (zg E) rmX12_layChange 7 (Qp, 0, 0) X (0, 0) 136 [some (zR 180), some (zI top), some (zI (7 - (j : Int))), some (zI v), some (zI s), some (zI (fwD (cH M) (vW (vm M)) (j + 1) s : Nat)), some (zI ((nmx (cH M (7 - j)) (vW (vm M) (7 - j)) s : Nat) + 1 : Int))] [] (FM M F)) : ∀ r n : Nat, r + n = nmx (cH M (7 - j)) (vW (vm M) (7 - j)) s → zK (zg E) rmX12_layChange 7 (Qp, 0, 0) X (0, 0) 77 [some (zR 180), some (zI top), some (zI (7 - (j : Int))), some (zI v), some (zI s), some (zI (mnF (fwD (cH M) (vW (vm M)) j) (vW (vm M) (7 - j)) s n : Nat)), some (zI ((n : Int) + 1))] [] (FM M F) := by
  have eh : FM M F 189 (7 - (j : Int)).toNat = M 189 (7 - j) := by rw [FM_o (by decide), show (7 - (j : Int)).toNat = 7 - j by omega]
  have nm := nmx_r (cH M (7 - j)) (vW (vm M) (7 - j)) s
  have c20 : cH M (7 - j) ≤ 20 := by show (M 189 (7 - j)).toNat ≤ 20; omega
  have chh : (cH M (7 - j) : Int) = M 189 (7 - j) := by show ((M 189 (7 - j)).toNat : Int) = _; omega
  intro r
  induction r with
  | zero =>
    intro n hn
    obtain rfl : n = nmx (cH M (7 - j)) (vW (vm M) (7 - j)) s := by omega
    have ef : fwD (cH M) (vW (vm M)) (j + 1) s = mnF (fwD (cH M) (vW (vm M)) j) (vW (vm M) (7 - j)) s (nmx (cH M (7 - j)) (vW (vm M) (7 - j)) s) := rfl
    rw [ef] at k
    by_cases hz : vW (vm M) (7 - j) = 0
    · refine zr_iload_n (pc := 77) S dX12_layChange_77 rfl ?_
      refine zr_if_le (pc := 78) (tgt := 136) S dX12_layChange_78 (by decide) (fun c78 => ?_) (fun c78 => absurd c78 (by omega))
      exact k
    · have en := nmx_en (c := cH M (7 - j)) (s := s) (show 0 < vW (vm M) (7 - j) by omega)
      by_cases c1 : nmx (cH M (7 - j)) (vW (vm M) (7 - j)) s + 1 ≤ cH M (7 - j)
      · have mu : (s : Int) < ((nmx (cH M (7 - j)) (vW (vm M) (7 - j)) s : Nat) + 1 : Int) * v := by
          have : s < (nmx (cH M (7 - j)) (vW (vm M) (7 - j)) s + 1) * vW (vm M) (7 - j) := by omega
          rw [hv]
          exact_mod_cast this
        have mb := zmulr (a := ((nmx (cH M (7 - j)) (vW (vm M) (7 - j)) s : Nat) + 1 : Int)) (A := 21) (b := v) (B := 200) (by omega) (by omega) (by omega) hv2
        refine zr_iload_n (pc := 77) S dX12_layChange_77 rfl ?_
        refine zr_if_le (pc := 78) (tgt := 136) S dX12_layChange_78 (by decide) (fun c78 => absurd c78 (by omega)) (fun c78 => ?_)
        refine zr_iload (pc := 81) S dX12_layChange_81 rfl ?_
        refine zr_aload_n (pc := 83) S dX12_layChange_83 rfl ?_
        refine zr_getR (pc := 84) S fX12_layChange_44 dX12_layChange_84 rfl (Nat.le_of_ble_eq_true rfl) rfl ?_
        refine zr_iload_n (pc := 87) S dX12_layChange_87 rfl ?_
        refine zr_iaload (pc := 88) S dX12_layChange_88 rfl (Nat.le_of_ble_eq_true rfl) (by omega) (by omega) ?_
        rw [eh]
        refine zr_icmp_gt (pc := 89) (tgt := 136) S dX12_layChange_89 (by decide) (fun c89 => absurd c89 (by omega)) (fun c89 => ?_)
        refine zr_iload (pc := 92) S dX12_layChange_92 rfl ?_
        refine zr_iload_n (pc := 94) S dX12_layChange_94 rfl ?_
        refine zr_imul (pc := 95) S dX12_layChange_95 (by unfold zrI; omega) ?_
        refine zr_iload (pc := 96) S dX12_layChange_96 rfl ?_
        refine zr_icmp_gt (pc := 98) (tgt := 136) S dX12_layChange_98 (by decide) (fun c98 => ?_) (fun c98 => absurd c98 (by omega))
        exact k
      · refine zr_iload_n (pc := 77) S dX12_layChange_77 rfl ?_
        refine zr_if_le (pc := 78) (tgt := 136) S dX12_layChange_78 (by decide) (fun c78 => absurd c78 (by omega)) (fun c78 => ?_)
        refine zr_iload (pc := 81) S dX12_layChange_81 rfl ?_
        refine zr_aload_n (pc := 83) S dX12_layChange_83 rfl ?_
        refine zr_getR (pc := 84) S fX12_layChange_44 dX12_layChange_84 rfl (Nat.le_of_ble_eq_true rfl) rfl ?_
        refine zr_iload_n (pc := 87) S dX12_layChange_87 rfl ?_
        refine zr_iaload (pc := 88) S dX12_layChange_88 rfl (Nat.le_of_ble_eq_true rfl) (by omega) (by omega) ?_
        rw [eh]
        refine zr_icmp_gt (pc := 89) (tgt := 136) S dX12_layChange_89 (by decide) (fun c89 => ?_) (fun c89 => absurd c89 (by omega))
        exact k
  | succ r ih =>
    intro n hn
    obtain ⟨w0, w1, w2⟩ := nmx_st (c := cH M (7 - j)) (w := vW (vm M) (7 - j)) (s := s) (n := n) (by omega)
    have l := ih (n + 1) (by omega)
    have em : mnF (fwD (cH M) (vW (vm M)) j) (vW (vm M) (7 - j)) s (n + 1) = min (mnF (fwD (cH M) (vW (vm M)) j) (vW (vm M) (7 - j)) s n) (n + 1 + fwD (cH M) (vW (vm M)) j (s - (n + 1) * vW (vm M) (7 - j))) := rfl
    have mw : ((n : Int) + 1) * v = ((n + 1) * vW (vm M) (7 - j) : Nat) := by rw [hv, Int.natCast_mul, Int.natCast_add, Int.natCast_one]
    have sm : (s : Int) - ((n : Int) + 1) * v = ((s - (n + 1) * vW (vm M) (7 - j) : Nat) : Int) := by rw [mw]; omega
    have fr1 := fwD_r (cH M) (vW (vm M)) j (s - (n + 1) * vW (vm M) (7 - j))
    have m0 := mnF_le (f := fwD (cH M) (vW (vm M)) j) (w := vW (vm M) (7 - j)) (s := s) n 0 (by omega)
    have m00 := fwD_r (cH M) (vW (vm M)) j s
    rw [Nat.zero_mul, Nat.sub_zero] at m0
    have e7 : (7 - (j : Int) + 1) = 8 - (j : Int) := by omega
    have ia : ((4801 : Int) * (7 - (j : Int) + 1) + ((s - (n + 1) * vW (vm M) (7 - j) : Nat) : Int)).toNat = 4801 * (8 - j) + (s - (n + 1) * vW (vm M) (7 - j)) := by omega
    have fe : FM M F 188 (4801 * (8 - j) + (s - (n + 1) * vW (vm M) (7 - j))) = (fwD (cH M) (vW (vm M)) j (s - (n + 1) * vW (vm M) (7 - j)) : Nat) := by rw [FM_e]; exact hF j (Nat.le_refl _) _ (by omega)
    rw [em] at l
    rw [show ((min (mnF (fwD (cH M) (vW (vm M)) j) (vW (vm M) (7 - j)) s n) (n + 1 + fwD (cH M) (vW (vm M)) j (s - (n + 1) * vW (vm M) (7 - j))) : Nat) : Int) = min ((mnF (fwD (cH M) (vW (vm M)) j) (vW (vm M) (7 - j)) s n : Nat) : Int) ((n : Int) + 1 + (fwD (cH M) (vW (vm M)) j (s - (n + 1) * vW (vm M) (7 - j)) : Nat)) by omega, Int.natCast_add, Int.natCast_one] at l
    refine zr_iload_n (pc := 77) S dX12_layChange_77 rfl ?_
    refine zr_if_le (pc := 78) (tgt := 136) S dX12_layChange_78 (by decide) (fun c78 => absurd c78 (by omega)) (fun c78 => ?_)
    refine zr_iload (pc := 81) S dX12_layChange_81 rfl ?_
    refine zr_aload_n (pc := 83) S dX12_layChange_83 rfl ?_
    refine zr_getR (pc := 84) S fX12_layChange_44 dX12_layChange_84 rfl (Nat.le_of_ble_eq_true rfl) rfl ?_
    refine zr_iload_n (pc := 87) S dX12_layChange_87 rfl ?_
    refine zr_iaload (pc := 88) S dX12_layChange_88 rfl (Nat.le_of_ble_eq_true rfl) (by omega) (by omega) ?_
    rw [eh]
    refine zr_icmp_gt (pc := 89) (tgt := 136) S dX12_layChange_89 (by decide) (fun c89 => absurd c89 (by omega)) (fun c89 => ?_)
    refine zr_iload (pc := 92) S dX12_layChange_92 rfl ?_
    refine zr_iload_n (pc := 94) S dX12_layChange_94 rfl ?_
    refine zr_imul (pc := 95) S dX12_layChange_95 (by rw [mw]; unfold zrI; omega) ?_
    rw [mw]
    refine zr_iload (pc := 96) S dX12_layChange_96 rfl ?_
    refine zr_icmp_gt (pc := 98) (tgt := 136) S dX12_layChange_98 (by decide) (fun c98 => absurd c98 (by omega)) (fun c98 => ?_)
    refine zr_iload (pc := 101) S dX12_layChange_101 rfl ?_
    refine zr_iload (pc := 103) S dX12_layChange_103 rfl ?_
    refine zr_aload_n (pc := 105) S dX12_layChange_105 rfl ?_
    refine zr_getR (pc := 106) S fX12_layChange_41 dX12_layChange_106 rfl (Nat.le_of_ble_eq_true rfl) rfl ?_
    refine zr_aload_n (pc := 109) S dX12_layChange_109 rfl ?_
    refine zr_iload_n (pc := 110) S dX12_layChange_110 rfl ?_
    refine zr_iconst (pc := 111) S dX12_layChange_111 (by unfold zrI; omega) ?_
    refine zr_iadd (pc := 112) S dX12_layChange_112 (by unfold zrI; omega) ?_
    refine zr_iload (pc := 113) S dX12_layChange_113 rfl ?_
    refine zr_iload (pc := 115) S dX12_layChange_115 rfl ?_
    refine zr_iload_n (pc := 117) S dX12_layChange_117 rfl ?_
    refine zr_imul (pc := 118) S dX12_layChange_118 (by rw [mw]; unfold zrI; omega) ?_
    refine zr_isub (pc := 119) S dX12_layChange_119 (by rw [sm]; unfold zrI; omega) ?_
    rw [sm]
    refine zr_invV (pc := 120) S [zI _, zI _] (m_X12_at _) kX12_layChange_302 dX12_layChange_120 rfl (Nat.le_of_ble_eq_true rfl) rfl (Nat.le_of_ble_eq_true rfl) ⟨Nat.le_of_ble_eq_true rfl, Nat.le_of_ble_eq_true rfl⟩ (us_X12_at (by omega) (by omega) ?_)
    dsimp only [zaft, Option.toList, List.cons_append, List.nil_append, Nat.add_zero]
    refine zr_iaload (pc := 123) S dX12_layChange_123 rfl (Nat.le_of_ble_eq_true rfl) (by omega) (by omega) ?_
    rw [ia, fe]
    refine zr_iadd (pc := 124) S dX12_layChange_124 (by unfold zrI; omega) ?_
    refine zr_mmin (pc := 125) S kX12_layChange_228 dX12_layChange_125 (Nat.le_of_ble_eq_true rfl) (Nat.le_of_ble_eq_true rfl) ⟨Nat.le_of_ble_eq_true rfl, Nat.le_of_ble_eq_true rfl⟩ ?_
    refine zr_istore (pc := 128) S dX12_layChange_128 (by decide) ?_
    dsimp only [zst1, zst2, zset, zget, zlong]
    refine zr_iinc (pc := 130) S dX12_layChange_130 rfl (by unfold zrI; omega) (by decide) ?_
    dsimp only [zst1, zst2, zset, zget, zlong]
    refine zr_goto (pc := 133) (tgt := 77) S dX12_layChange_133 (by decide) ?_
    exact l
theorem lc2 {E : zE} {X : zX} {Qp : Option zV → zM → Prop} {M : zM} {top j : Nat} {v : Int} (S : zS (zg E) X cX12_layChange 7 wzX12_layChange RX12 none) (ht : top ≤ 4800) (hj : j < 8) (hv : v = (vW (vm M) (7 - j) : Nat)) (hv2 : v ≤ 200) (hh : 0 ≤ M 189 (7 - j) ∧ M 189 (7 - j) ≤ 20)
    (k : ∀ (F : Nat → Int) (u5 u6 : Option zV), FWok M F top (j + 1) → zK (zg E) rmX12_layChange 7 (Qp, 0, 0) X (0, 0) 156 [some (zR 180), some (zI top), some (zI (7 - (j : Int))), some (zI v), some (zI ((top : Int) + 1)), u5, u6] [] (FM M F)) : ∀ (r s : Nat) (F : Nat → Int) (u5 u6 : Option zV), r + s = top + 1 → FWok M F top j → (∀ t, t < s → F (4801 * (8 - (j + 1)) + t) = (fwD (cH M) (vW (vm M)) (j + 1) t : Nat)) → zK (zg E) rmX12_layChange 7 (Qp, 0, 0) X (0, 0) 52 [some (zR 180), some (zI top), some (zI (7 - (j : Int))), some (zI v), some (zI s), u5, u6] [] (FM M F) := by
  intro r
  induction r with
  | zero =>
    intro s F u5 u6 hs hF hR
    obtain rfl : s = top + 1 := by omega
    have kk := k F u5 u6 (fun i hi t ht9 => by
      by_cases e : i = j + 1
      · subst e; exact hR t (by omega)
      · exact hF i (by omega) t ht9)
    rw [Int.natCast_add, Int.natCast_one]
    refine zr_iload (pc := 52) S dX12_layChange_52 rfl ?_
    refine zr_iload_n (pc := 54) S dX12_layChange_54 rfl ?_
    refine zr_icmp_gt (pc := 55) (tgt := 156) S dX12_layChange_55 (by decide) (fun c55 => ?_) (fun c55 => absurd c55 (by omega))
    exact kk
  | succ r ih =>
    intro s F u5 u6 hs hF hR
    have ia : ((4801 : Int) * (7 - (j : Int) + 1) + (s : Int)).toNat = 4801 * (8 - j) + s := by omega
    have fe : FM M F 188 (4801 * (8 - j) + s) = (mnF (fwD (cH M) (vW (vm M)) j) (vW (vm M) (7 - j)) s 0 : Nat) := by rw [FM_e]; exact hF j (Nat.le_refl _) _ (by omega)
    have fr2 := fwD_r (cH M) (vW (vm M)) (j + 1) s
    have ib : ((4801 : Int) * (7 - (j : Int)) + (s : Int)).toNat = 4801 * (8 - (j + 1)) + s := by omega
    have l := ih (s + 1) (rUp F (4801 * (8 - (j + 1)) + s) (fwD (cH M) (vW (vm M)) (j + 1) s : Nat)) (some (zI (fwD (cH M) (vW (vm M)) (j + 1) s : Nat))) (some (zI ((nmx (cH M (7 - j)) (vW (vm M) (7 - j)) s : Nat) + 1 : Int))) (by omega) (fun i hi t ht9 => by rw [rUp_o (by omega)]; exact hF i hi t ht9) (fun t ht9 => by
      by_cases e : t = s
      · subst e; rw [rUp_e]
      · rw [rUp_o (by omega)]; exact hR t (by omega))
    rw [Int.natCast_add, Int.natCast_one] at l
    have k3 := lc3 (E := E) (X := X) (Qp := Qp) (F := F) (top := top) (j := j) (s := s) (v := v) S ht hj (by omega) hv hv2 hh hF (by
      refine zr_aload_n (pc := 136) S dX12_layChange_136 rfl ?_
      refine zr_getR (pc := 137) S fX12_layChange_41 dX12_layChange_137 rfl (Nat.le_of_ble_eq_true rfl) rfl ?_
      refine zr_aload_n (pc := 140) S dX12_layChange_140 rfl ?_
      refine zr_iload_n (pc := 141) S dX12_layChange_141 rfl ?_
      refine zr_iload (pc := 142) S dX12_layChange_142 rfl ?_
      refine zr_invV (pc := 144) S [zI _, zI _] (m_X12_at _) kX12_layChange_302 dX12_layChange_144 rfl (Nat.le_of_ble_eq_true rfl) rfl (Nat.le_of_ble_eq_true rfl) ⟨Nat.le_of_ble_eq_true rfl, Nat.le_of_ble_eq_true rfl⟩ (us_X12_at (by omega) (by omega) ?_)
      dsimp only [zaft, Option.toList, List.cons_append, List.nil_append, Nat.add_zero]
      refine zr_iload (pc := 147) S dX12_layChange_147 rfl ?_
      refine zr_iastore (pc := 149) S dX12_layChange_149 rfl (Nat.le_of_ble_eq_true rfl) (by omega) (by omega) ?_
      rw [ib, zrow_up]
      refine zr_iinc (pc := 150) S dX12_layChange_150 rfl (by unfold zrI; omega) (by decide) ?_
      dsimp only [zst1, zst2, zset, zget, zlong]
      refine zr_goto (pc := 153) (tgt := 52) S dX12_layChange_153 (by decide) ?_
      exact l) (nmx (cH M (7 - j)) (vW (vm M) (7 - j)) s) 0 (by omega)
    refine zr_iload (pc := 52) S dX12_layChange_52 rfl ?_
    refine zr_iload_n (pc := 54) S dX12_layChange_54 rfl ?_
    refine zr_icmp_gt (pc := 55) (tgt := 156) S dX12_layChange_55 (by decide) (fun c55 => absurd c55 (by omega)) (fun c55 => ?_)
    refine zr_aload_n (pc := 58) S dX12_layChange_58 rfl ?_
    refine zr_getR (pc := 59) S fX12_layChange_41 dX12_layChange_59 rfl (Nat.le_of_ble_eq_true rfl) rfl ?_
    refine zr_aload_n (pc := 62) S dX12_layChange_62 rfl ?_
    refine zr_iload_n (pc := 63) S dX12_layChange_63 rfl ?_
    refine zr_iconst (pc := 64) S dX12_layChange_64 (by unfold zrI; omega) ?_
    refine zr_iadd (pc := 65) S dX12_layChange_65 (by unfold zrI; omega) ?_
    refine zr_iload (pc := 66) S dX12_layChange_66 rfl ?_
    refine zr_invV (pc := 68) S [zI _, zI _] (m_X12_at _) kX12_layChange_302 dX12_layChange_68 rfl (Nat.le_of_ble_eq_true rfl) rfl (Nat.le_of_ble_eq_true rfl) ⟨Nat.le_of_ble_eq_true rfl, Nat.le_of_ble_eq_true rfl⟩ (us_X12_at (by omega) (by omega) ?_)
    dsimp only [zaft, Option.toList, List.cons_append, List.nil_append, Nat.add_zero]
    refine zr_iaload (pc := 71) S dX12_layChange_71 rfl (Nat.le_of_ble_eq_true rfl) (by omega) (by omega) ?_
    rw [ia, fe]
    refine zr_istore (pc := 72) S dX12_layChange_72 (by decide) ?_
    dsimp only [zst1, zst2, zset, zget, zlong]
    refine zr_iconst (pc := 74) S dX12_layChange_74 (by unfold zrI; omega) ?_
    refine zr_istore (pc := 75) S dX12_layChange_75 (by decide) ?_
    dsimp only [zst1, zst2, zset, zget, zlong]
    exact k3
theorem lc1 {E : zE} {X : zX} {Qp : Option zV → zM → Prop} {M : zM} {top : Nat} (S : zS (zg E) X cX12_layChange 7 wzX12_layChange RX12 none) (ht : top ≤ 4800) (hs : ICs (vm M)) (hh : ∀ k, k < 8 → 0 ≤ M 189 k ∧ M 189 k ≤ 20)
    (hQ : ∀ F : Nat → Int, FWok M F top 8 → Qp none (FM M F)) : ∀ (r j : Nat) (F : Nat → Int) (u3 u4 u5 u6 : Option zV), r + j = 8 → FWok M F top j → zK (zg E) rmX12_layChange 7 (Qp, 0, 0) X (0, 0) 39 [some (zR 180), some (zI top), some (zI (7 - (j : Int))), u3, u4, u5, u6] [] (FM M F) := by
  intro r
  induction r with
  | zero =>
    intro j F u3 u4 u5 u6 hj hF
    obtain rfl : j = 8 := by omega
    refine zr_iload_n (pc := 39) S dX12_layChange_39 rfl ?_
    refine zr_if_lt (pc := 40) (tgt := 162) S dX12_layChange_40 (by decide) (fun c40 => ?_) (fun c40 => absurd c40 (by omega))
    exact zr_vret (pc := 162) S dX12_layChange_162 rfl ⟨Nat.le_refl _, Nat.le_refl _⟩ (hQ F hF)
  | succ r ih =>
    intro j F u3 u4 u5 u6 hj hF
    have t8 : 0 ≤ M 181 0 ∧ M 181 0 ≤ 8 := hs.1
    have et : FM M F 181 = M 181 := zrow_o (by decide)
    have wr := worth_r2 hs (7 - (j : Int))
    have ev : worth (vm (FM M F)) (7 - (j : Int)) = ((vW (vm M) (7 - j) : Nat) : Int) := by
      rw [ag_worth (FM_vm M F)]
      unfold vW
      rw [show (((7 - j : Nat) : Nat) : Int) = 7 - (j : Int) by omega]
      omega
    have vr : ((vW (vm M) (7 - j) : Nat) : Int) ≤ 200 := by rw [← ev, ag_worth (FM_vm M F)]; omega
    have l := fun u5 u6 => lc2 (E := E) (X := X) (Qp := Qp) (M := M) (top := top) (j := j) S ht (by omega) rfl vr (hh (7 - j) (by omega)) (fun F' u5 u6 hF' => by
      have kk := ih (j + 1) F' (some (zI (vW (vm M) (7 - j) : Nat))) (some (zI ((top : Int) + 1))) u5 u6 (by omega) hF'
      rw [show (7 : Int) - ((j + 1 : Nat) : Int) = 7 - (j : Int) + -1 by omega] at kk
      refine zr_iinc (pc := 156) S dX12_layChange_156 rfl (by unfold zrI; omega) (by decide) ?_
      dsimp only [zst1, zst2, zset, zget, zlong]
      refine zr_goto (pc := 159) (tgt := 39) S dX12_layChange_159 (by decide) ?_
      exact kk) (top + 1) 0 F u5 u6 (by omega) hF (fun t h9 => absurd h9 (by omega))
    refine zr_iload_n (pc := 39) S dX12_layChange_39 rfl ?_
    refine zr_if_lt (pc := 40) (tgt := 162) S dX12_layChange_40 (by decide) (fun c40 => absurd c40 (by omega)) (fun c40 => ?_)
    refine zr_aload_n (pc := 43) S dX12_layChange_43 rfl ?_
    refine zr_iload_n (pc := 44) S dX12_layChange_44 rfl ?_
    refine zr_invV (pc := 45) S [zI _] (m_X12_valueOf _) kX12_layChange_264 dX12_layChange_45 rfl (Nat.le_of_ble_eq_true rfl) rfl (Nat.le_of_ble_eq_true rfl) ⟨Nat.le_of_ble_eq_true rfl, Nat.le_of_ble_eq_true rfl⟩ (us_X12_valueOf (by rw [et]; exact t8.1) (by rw [et]; exact t8.2) ?_)
    dsimp only [zaft, Option.toList, List.cons_append, List.nil_append, Nat.add_zero]
    rw [ev]
    refine zr_istore_n (pc := 48) S 3 dX12_layChange_48 rfl (by decide) ?_
    dsimp only [zst1, zst2, zset, zget, zlong]
    refine zr_iconst (pc := 49) S dX12_layChange_49 (by unfold zrI; omega) ?_
    refine zr_istore (pc := 50) S dX12_layChange_50 (by decide) ?_
    dsimp only [zst1, zst2, zset, zget, zlong]
    exact l _ _
theorem lc0 {E : zE} {X : zX} {Qp : Option zV → zM → Prop} {M : zM} {top : Nat} (S : zS (zg E) X cX12_layChange 7 wzX12_layChange RX12 none) (ht : top ≤ 4800)
    (k : ∀ F : Nat → Int, FWok M F top 0 → zK (zg E) rmX12_layChange 7 (Qp, 0, 0) X (0, 0) 36 [some (zR 180), some (zI top), some (zI ((top : Int) + 1)), none, none, none, none] [] (FM M F)) : ∀ (r s : Nat) (F : Nat → Int), r + s = top + 1 → (∀ t, t < s → F (4801 * 8 + t) = (fwD (cH M) (vW (vm M)) 0 t : Nat)) → zK (zg E) rmX12_layChange 7 (Qp, 0, 0) X (0, 0) 2 [some (zR 180), some (zI top), some (zI s), none, none, none, none] [] (FM M F) := by
  intro r
  induction r with
  | zero =>
    intro s F hs hR
    obtain rfl : s = top + 1 := by omega
    have kk := k F (fun i hi t h9 => by
      obtain rfl : i = 0 := by omega
      exact hR t (by omega))
    rw [Int.natCast_add, Int.natCast_one]
    refine zr_iload_n (pc := 2) S dX12_layChange_2 rfl ?_
    refine zr_iload_n (pc := 3) S dX12_layChange_3 rfl ?_
    refine zr_icmp_gt (pc := 4) (tgt := 36) S dX12_layChange_4 (by decide) (fun c4 => ?_) (fun c4 => absurd c4 (by omega))
    exact kk
  | succ r ih =>
    intro s F hs hR
    have ib : ((4801 : Int) * 8 + (s : Int)).toNat = 4801 * 8 + s := by omega
    have l := ih (s + 1) (rUp F (4801 * 8 + s) (fwD (cH M) (vW (vm M)) 0 s : Nat)) (by omega) (fun t h9 => by
      by_cases e : t = s
      · subst e; rw [rUp_e]
      · rw [rUp_o (by omega)]; exact hR t (by omega))
    rw [Int.natCast_add, Int.natCast_one] at l
    have f0 : (s : Int) = 0 → fwD (cH M) (vW (vm M)) 0 s = 0 := fun z => by simp only [fwD]; rw [if_pos (by omega)]
    have f1 : ¬ (s : Int) = 0 → fwD (cH M) (vW (vm M)) 0 s = 1000000 := fun z => by simp only [fwD]; rw [if_neg (by omega)]
    refine zr_iload_n (pc := 2) S dX12_layChange_2 rfl ?_
    refine zr_iload_n (pc := 3) S dX12_layChange_3 rfl ?_
    refine zr_icmp_gt (pc := 4) (tgt := 36) S dX12_layChange_4 (by decide) (fun c4 => absurd c4 (by omega)) (fun c4 => ?_)
    refine zr_aload_n (pc := 7) S dX12_layChange_7 rfl ?_
    refine zr_getR (pc := 8) S fX12_layChange_41 dX12_layChange_8 rfl (Nat.le_of_ble_eq_true rfl) rfl ?_
    refine zr_aload_n (pc := 11) S dX12_layChange_11 rfl ?_
    refine zr_bipush (pc := 12) S dX12_layChange_12 ⟨by unfold zrI; omega, by decide⟩ ?_
    refine zr_iload_n (pc := 14) S dX12_layChange_14 rfl ?_
    refine zr_invV (pc := 15) S [zI _, zI _] (m_X12_at _) kX12_layChange_302 dX12_layChange_15 rfl (Nat.le_of_ble_eq_true rfl) rfl (Nat.le_of_ble_eq_true rfl) ⟨Nat.le_of_ble_eq_true rfl, Nat.le_of_ble_eq_true rfl⟩ (us_X12_at (by omega) (by omega) ?_)
    dsimp only [zaft, Option.toList, List.cons_append, List.nil_append, Nat.add_zero]
    refine zr_iload_n (pc := 18) S dX12_layChange_18 rfl ?_
    refine zr_if_ne (pc := 19) (tgt := 26) S dX12_layChange_19 (by decide) (fun c19 => ?_) (fun c19 => ?_)
    · rw [f1 c19] at l
      refine zr_ldcw (pc := 26) S (1000000) dX12_layChange_26 (List.mem_cons_of_mem _ (zWi_6 _ (List.mem_of_getElem? (i := 49) rfl))) (by unfold zrI; omega) ?_
      refine zr_iastore (pc := 29) S dX12_layChange_29 rfl (Nat.le_of_ble_eq_true rfl) (by omega) (by omega) ?_
      rw [ib, zrow_up]
      refine zr_iinc (pc := 30) S dX12_layChange_30 rfl (by unfold zrI; omega) (by decide) ?_
      dsimp only [zst1, zst2, zset, zget, zlong]
      refine zr_goto (pc := 33) (tgt := 2) S dX12_layChange_33 (by decide) ?_
      exact l
    · rw [f0 c19] at l
      refine zr_iconst (pc := 22) S dX12_layChange_22 (by unfold zrI; omega) ?_
      refine zr_goto (pc := 23) (tgt := 29) S dX12_layChange_23 (by decide) ?_
      refine zr_iastore (pc := 29) S dX12_layChange_29 rfl (Nat.le_of_ble_eq_true rfl) (by omega) (by omega) ?_
      rw [ib, zrow_up]
      refine zr_iinc (pc := 30) S dX12_layChange_30 rfl (by unfold zrI; omega) (by decide) ?_
      dsimp only [zst1, zst2, zset, zget, zlong]
      refine zr_goto (pc := 33) (tgt := 2) S dX12_layChange_33 (by decide) ?_
      exact l
def sp_X12_layChange (as : List zV) (M : zM) (Q : Option zV → zM → Prop) : Prop := ∃ (top : Nat), as = [zR 180, zI top] ∧ (top ≤ 4800) ∧ (ICs (vm M)) ∧ (∀ k, k < 8 → 0 ≤ M 189 k ∧ M 189 k ≤ 20) ∧ (∀ F : Nat → Int, FWok M F top 8 → Q none (FM M F))
theorem us_X12_layChange {top : Nat} {M : zM} {Q : Option zV → zM → Prop} (ht : top ≤ 4800) (hs : ICs (vm M)) (hh : ∀ k, k < 8 → 0 ≤ M 189 k ∧ M 189 k ≤ 20) (hQ : ∀ F : Nat → Int, FWok M F top 8 → Q none (FM M F)) : sp_X12_layChange [zR 180, zI top] M Q := ⟨top, rfl, ht, hs, hh, hQ⟩
set_option maxRecDepth 20000 in
set_option maxHeartbeats 4000000 in
theorem m_X12_layChange (l : Launch) : zC l yX12_layChange wzX12_layChange rmX12_layChange sp_X12_layChange := by
  refine zMet.of RX12 (by decide +kernel) rfl rfl ?_
  intro E X as M Qp hX S hsp
  obtain ⟨top, rfl, ht, hs, hh, hQ⟩ := hsp
  refine ⟨Nat.le_of_ble_eq_true rfl, ?_⟩
  dsimp only [zpad, zargs]
  have l := lc0 (E := E) (X := X) (Qp := Qp) (M := M) (top := top) S ht (fun F hF => by
    have l1 := lc1 (E := E) (X := X) (Qp := Qp) (M := M) (top := top) S ht hs hh hQ 8 0 F none none none none (by omega) hF
    rw [show (7 : Int) - ((0 : Nat) : Int) = 7 by omega] at l1
    refine zr_bipush (pc := 36) S dX12_layChange_36 ⟨by unfold zrI; omega, by decide⟩ ?_
    refine zr_istore_n (pc := 38) S 2 dX12_layChange_38 rfl (by decide) ?_
    dsimp only [zst1, zst2, zset, zget, zlong]
    exact l1) (top + 1) 0 (M 188) (by omega) (fun t h9 => absurd h9 (by omega))
  have ez : FM M (M 188) = M := zrow_s
  rw [ez] at l
  refine zr_iconst (pc := 0) S dX12_layChange_0 (by unfold zrI; omega) ?_
  refine zr_istore_n (pc := 1) S 2 dX12_layChange_1 rfl (by decide) ?_
  dsimp only [zst1, zst2, zset, zget, zlong]
  exact l
end
