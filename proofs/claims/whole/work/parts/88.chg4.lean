section
theorem lp_X12_haveTubes {E : zE} {X : zX} {Qp : Option zV → zM → Prop} {M : zM} (S : zS (zg E) X cX12_haveTubes 2 wzX12_haveTubes RX12 none) (he : ICe (vm M)) (t8 : 0 ≤ M 181 0 ∧ M 181 0 ≤ 8)
    (hQ : ∀ H : Nat → Int, (∀ k, k < 8 → H k = vm M 19 k) → Qp none (zrow M 189 H)) : ∀ (r i : Nat) (H : Nat → Int), r + i = 8 → (∀ k, k < i → H k = vm M 19 k) → zK (zg E) rmX12_haveTubes 2 (Qp, 0, 0) X (0, 0) 2 [some (zR 180), some (zI i)] [] (zrow M 189 H) := by
  intro r
  induction r with
  | zero =>
    intro i H hi hH
    obtain rfl : i = 8 := by omega
    refine zr_iload_n (pc := 2) S dX12_haveTubes_2 rfl ?_
    refine zr_bipush (pc := 3) S dX12_haveTubes_3 ⟨by unfold zrI; omega, by decide⟩ ?_
    refine zr_icmp_ge (pc := 5) (tgt := 44) S dX12_haveTubes_5 (by decide) (fun c5 => ?_) (fun c5 => absurd c5 (by omega))
    exact zr_vret (pc := 44) S dX12_haveTubes_44 rfl ⟨Nat.le_refl _, Nat.le_refl _⟩ (hQ H hH)
  | succ r ih =>
    intro i H hi hH
    have l := ih (i + 1) (rUp H i (vm M 19 i)) (by omega) (fun k hk => by
      by_cases e : k = i
      · subst e; rw [rUp_e]
      · rw [rUp_o e]; exact hH k (by omega))
    rw [Int.natCast_add, Int.natCast_one] at l
    have et : zrow M 189 H 181 = M 181 := zrow_o (by decide)
    have et0 : zrow M 189 H 181 0 = M 181 0 := by rw [et]
    have eh := vm_hgt (M := M) (j := i) (by omega)
    have e1 : zrow M 189 H 181 ((159 : Int) + 21 * (i : Int)).toNat = vm M 19 i := by rw [et, eh, show ((159 : Int) + 21 * (i : Int)).toNat = 159 + 21 * i by omega]
    have e2 : M 181 0 ≤ (i : Int) → vm M 19 i = 0 := fun z => he i (by omega) (by rw [vm_many]; exact z)
    refine zr_iload_n (pc := 2) S dX12_haveTubes_2 rfl ?_
    refine zr_bipush (pc := 3) S dX12_haveTubes_3 ⟨by unfold zrI; omega, by decide⟩ ?_
    refine zr_icmp_ge (pc := 5) (tgt := 44) S dX12_haveTubes_5 (by decide) (fun c5 => absurd c5 (by omega)) (fun c5 => ?_)
    refine zr_aload_n (pc := 8) S dX12_haveTubes_8 rfl ?_
    refine zr_getR (pc := 9) S fX12_haveTubes_44 dX12_haveTubes_9 rfl (Nat.le_of_ble_eq_true rfl) rfl ?_
    refine zr_iload_n (pc := 12) S dX12_haveTubes_12 rfl ?_
    refine zr_iload_n (pc := 13) S dX12_haveTubes_13 rfl ?_
    refine zr_aload_n (pc := 14) S dX12_haveTubes_14 rfl ?_
    refine zr_getR (pc := 15) S fX12_haveTubes_9 dX12_haveTubes_15 rfl (Nat.le_of_ble_eq_true rfl) rfl ?_
    refine zr_iconst (pc := 18) S dX12_haveTubes_18 (by unfold zrI; omega) ?_
    refine zr_iaload (pc := 19) S dX12_haveTubes_19 rfl (Nat.le_of_ble_eq_true rfl) (by omega) (by omega) ?_
    dsimp only [Int.reduceToNat]
    rw [et0]
    refine zr_icmp_ge (pc := 20) (tgt := 36) S dX12_haveTubes_20 (by decide) (fun c20 => ?_) (fun c20 => ?_)
    · rw [e2 c20] at l
      refine zr_iconst (pc := 36) S dX12_haveTubes_36 (by unfold zrI; omega) ?_
      refine zr_iastore (pc := 37) S dX12_haveTubes_37 rfl (Nat.le_of_ble_eq_true rfl) (by omega) (by omega) ?_
      rw [Int.toNat_natCast, zrow_up]
      refine zr_iinc (pc := 38) S dX12_haveTubes_38 rfl (by unfold zrI; omega) (by decide) ?_
      dsimp only [zst1, zst2, zset, zget, zlong]
      refine zr_goto (pc := 41) (tgt := 2) S dX12_haveTubes_41 (by decide) ?_
      exact l
    · refine zr_aload_n (pc := 23) S dX12_haveTubes_23 rfl ?_
      refine zr_getR (pc := 24) S fX12_haveTubes_9 dX12_haveTubes_24 rfl (Nat.le_of_ble_eq_true rfl) rfl ?_
      refine zr_aload_n (pc := 27) S dX12_haveTubes_27 rfl ?_
      refine zr_iload_n (pc := 28) S dX12_haveTubes_28 rfl ?_
      refine zr_invV (pc := 29) S [zI _] (m_X12_tubeAt _) kX12_haveTubes_293 dX12_haveTubes_29 rfl (Nat.le_of_ble_eq_true rfl) rfl (Nat.le_of_ble_eq_true rfl) ⟨Nat.le_of_ble_eq_true rfl, Nat.le_of_ble_eq_true rfl⟩ (us_X12_tubeAt (by omega) (by omega) ?_)
      dsimp only [zaft, Option.toList, List.cons_append, List.nil_append, Nat.add_zero]
      refine zr_iaload (pc := 32) S dX12_haveTubes_32 rfl (Nat.le_of_ble_eq_true rfl) (by omega) (by omega) ?_
      rw [e1]
      refine zr_goto (pc := 33) (tgt := 37) S dX12_haveTubes_33 (by decide) ?_
      refine zr_iastore (pc := 37) S dX12_haveTubes_37 rfl (Nat.le_of_ble_eq_true rfl) (by omega) (by omega) ?_
      rw [Int.toNat_natCast, zrow_up]
      refine zr_iinc (pc := 38) S dX12_haveTubes_38 rfl (by unfold zrI; omega) (by decide) ?_
      dsimp only [zst1, zst2, zset, zget, zlong]
      refine zr_goto (pc := 41) (tgt := 2) S dX12_haveTubes_41 (by decide) ?_
      exact l
def sp_X12_haveTubes (as : List zV) (M : zM) (Q : Option zV → zM → Prop) : Prop := as = [zR 180] ∧ (ICe (vm M)) ∧ (0 ≤ M 181 0 ∧ M 181 0 ≤ 8) ∧ (∀ H : Nat → Int, (∀ k, k < 8 → H k = vm M 19 k) → Q none (zrow M 189 H))
theorem us_X12_haveTubes  {M : zM} {Q : Option zV → zM → Prop} (he : ICe (vm M)) (t8 : 0 ≤ M 181 0 ∧ M 181 0 ≤ 8) (hQ : ∀ H : Nat → Int, (∀ k, k < 8 → H k = vm M 19 k) → Q none (zrow M 189 H)) : sp_X12_haveTubes [zR 180] M Q := ⟨rfl, he, t8, hQ⟩
set_option maxRecDepth 20000 in
set_option maxHeartbeats 4000000 in
theorem m_X12_haveTubes (l : Launch) : zC l yX12_haveTubes wzX12_haveTubes rmX12_haveTubes sp_X12_haveTubes := by
  refine zMet.of RX12 (by decide +kernel) rfl rfl ?_
  intro E X as M Qp hX S hsp
  obtain ⟨rfl, he, t8, hQ⟩ := hsp
  refine ⟨Nat.le_of_ble_eq_true rfl, ?_⟩
  dsimp only [zpad, zargs]
  have l := lp_X12_haveTubes (E := E) (X := X) (Qp := Qp) (M := M) S he t8 hQ 8 0 (M 189) (by omega) (fun k hk => absurd hk (by omega))
  rw [zrow_s] at l
  refine zr_iconst (pc := 0) S dX12_haveTubes_0 (by unfold zrI; omega) ?_
  refine zr_istore_n (pc := 1) S 1 dX12_haveTubes_1 rfl (by decide) ?_
  dsimp only [zst1, zst2, zset, zget, zlong]
  exact l
theorem fwD_cap {c c' v : Nat → Nat} (h : ∀ k, k < 8 → v k ≠ 0 → c k = c' k) : ∀ j, j ≤ 8 → ∀ s, fwD c v j s = fwD c' v j s
  | 0, _, _ => rfl
  | j + 1, hj, s => by
    have e : fwD c v j = fwD c' v j := by funext t; exact fwD_cap h j (by omega) t
    simp only [fwD]
    rw [e]
    congr 1
    unfold nmx
    split
    · rfl
    · rename_i w; rw [h (7 - j) (by omega) w]
theorem gv_cap {c c' v : Nat → Nat} (h : ∀ k, k < 8 → v k ≠ 0 → c k = c' k) : ∀ j, j ≤ 8 → ∀ s k, gv c v j s k = gv c' v j s k
  | 0, _, _, _ => rfl
  | j + 1, hj, s, k => by
    have e : fwD c v j = fwD c' v j := by funext t; exact fwD_cap h j (by omega) t
    have en : nmx (c (7 - j)) (v (7 - j)) s = nmx (c' (7 - j)) (v (7 - j)) s := by
      unfold nmx
      split
      · rfl
      · rename_i w; rw [h (7 - j) (by omega) w]
    have eg : gN c v j s = gN c' v j s := by
      unfold gN
      rw [e, fwD_cap h (j + 1) hj, en]
    simp only [gv]
    rw [eg, gv_cap h j (by omega)]
theorem cH_cap {M : zM} {h : Nat → Int} (hh : ∀ k, k < 8 → M 189 k = h k) : ∀ k, k < 8 → vW (vm M) k ≠ 0 → cH M k = cap (vm M) h k := fun k hk w => by
  unfold cap
  have g : isGood (vm M) k := by
    refine Classical.byContradiction (fun z => w ?_)
    unfold vW worth
    rw [if_neg z]
    rfl
  rw [if_pos g, ← hh k hk]
theorem cg2 {E : zE} {X : zX} {Qp : Option zV → zM → Prop} {M : zM} {F G : Nat → Int} {top j left : Nat} {sum v : Int} (S : zS (zg E) X cX12_changes 6 wzX12_changes RX12 (some .int)) (ht : top ≤ 4800) (hj : j < 8) (hl : left ≤ top) (hv : v = (vW (vm M) (7 - j) : Nat)) (hv2 : v ≤ 200) (hF : FWok M F top 8) (hc : cH M (7 - j) ≤ 20)
    (k : zK (zg E) rmX12_changes 6 (Qp, 0, 0) X (0, 0) 107 [some (zR 180), some (zI sum), some (zI left), some (zI (7 - (j : Int))), some (zI v), some (zI (gN (cH M) (vW (vm M)) j left : Nat))] [] (zrow (FM M F) 190 G)) : ∀ n : Nat, n ≤ nmx (cH M (7 - j)) (vW (vm M) (7 - j)) left → (∃ n', n' ≤ n ∧ n' + fwD (cH M) (vW (vm M)) j (left - n' * vW (vm M) (7 - j)) = fwD (cH M) (vW (vm M)) (j + 1) left) → grd (fwD (cH M) (vW (vm M)) j) (vW (vm M) (7 - j)) left (fwD (cH M) (vW (vm M)) (j + 1) left) n = gN (cH M) (vW (vm M)) j left → zK (zg E) rmX12_changes 6 (Qp, 0, 0) X (0, 0) 65 [some (zR 180), some (zI sum), some (zI left), some (zI (7 - (j : Int))), some (zI v), some (zI n)] [] (zrow (FM M F) 190 G) := by
  have nr := nmx_r (cH M (7 - j)) (vW (vm M) (7 - j)) left
  have fr0 := fwD_r (cH M) (vW (vm M)) (j + 1) left
  have ef : zrow (FM M F) 190 G 188 = F := by rw [zrow_o (by decide), FM_e]
  have ib : ((4801 : Int) * (7 - (j : Int)) + (left : Int)).toNat = 4801 * (8 - (j + 1)) + left := by omega
  have fb : zrow (FM M F) 190 G 188 (4801 * (8 - (j + 1)) + left) = (fwD (cH M) (vW (vm M)) (j + 1) left : Nat) := by rw [ef]; exact hF (j + 1) (by omega) _ hl
  intro n
  induction n with
  | zero =>
    intro hn hex hg
    obtain ⟨n', h1, h2⟩ := hex
    obtain rfl : n' = 0 := by omega
    have fr1 := fwD_r (cH M) (vW (vm M)) j (left - 0 * vW (vm M) (7 - j))
    have g0 : gN (cH M) (vW (vm M)) j left = 0 := hg.symm
    rw [g0] at k
    have mw : ((0 : Nat) : Int) * v = 0 := by simp
    have ia : ((4801 : Int) * (7 - (j : Int) + 1) + ((left : Int) - 0)).toNat = 4801 * (8 - j) + left := by omega
    have fa : zrow (FM M F) 190 G 188 (4801 * (8 - j) + left) = (fwD (cH M) (vW (vm M)) j (left - 0 * vW (vm M) (7 - j)) : Nat) := by rw [ef, Nat.zero_mul, Nat.sub_zero]; exact hF j (by omega) _ hl
    refine zr_iload (pc := 65) S dX12_changes_65 rfl ?_
    refine zr_aload_n (pc := 67) S dX12_changes_67 rfl ?_
    refine zr_getR (pc := 68) S fX12_changes_41 dX12_changes_68 rfl (Nat.le_of_ble_eq_true rfl) rfl ?_
    refine zr_aload_n (pc := 71) S dX12_changes_71 rfl ?_
    refine zr_iload_n (pc := 72) S dX12_changes_72 rfl ?_
    refine zr_iconst (pc := 73) S dX12_changes_73 (by unfold zrI; omega) ?_
    refine zr_iadd (pc := 74) S dX12_changes_74 (by unfold zrI; omega) ?_
    refine zr_iload_n (pc := 75) S dX12_changes_75 rfl ?_
    refine zr_iload (pc := 76) S dX12_changes_76 rfl ?_
    refine zr_iload (pc := 78) S dX12_changes_78 rfl ?_
    refine zr_imul (pc := 80) S dX12_changes_80 (by rw [mw]; unfold zrI; omega) ?_
    rw [mw]
    refine zr_isub (pc := 81) S dX12_changes_81 (by unfold zrI; omega) ?_
    refine zr_invV (pc := 82) S [zI _, zI _] (m_X12_at _) kX12_changes_302 dX12_changes_82 rfl (Nat.le_of_ble_eq_true rfl) rfl (Nat.le_of_ble_eq_true rfl) ⟨Nat.le_of_ble_eq_true rfl, Nat.le_of_ble_eq_true rfl⟩ (us_X12_at (by omega) (by omega) ?_)
    dsimp only [zaft, Option.toList, List.cons_append, List.nil_append, Nat.add_zero]
    refine zr_iaload (pc := 85) S dX12_changes_85 rfl (Nat.le_of_ble_eq_true rfl) (by omega) (by omega) ?_
    rw [ia, fa]
    refine zr_iadd (pc := 86) S dX12_changes_86 (by unfold zrI; omega) ?_
    refine zr_aload_n (pc := 87) S dX12_changes_87 rfl ?_
    refine zr_getR (pc := 88) S fX12_changes_41 dX12_changes_88 rfl (Nat.le_of_ble_eq_true rfl) rfl ?_
    refine zr_aload_n (pc := 91) S dX12_changes_91 rfl ?_
    refine zr_iload_n (pc := 92) S dX12_changes_92 rfl ?_
    refine zr_iload_n (pc := 93) S dX12_changes_93 rfl ?_
    refine zr_invV (pc := 94) S [zI _, zI _] (m_X12_at _) kX12_changes_302 dX12_changes_94 rfl (Nat.le_of_ble_eq_true rfl) rfl (Nat.le_of_ble_eq_true rfl) ⟨Nat.le_of_ble_eq_true rfl, Nat.le_of_ble_eq_true rfl⟩ (us_X12_at (by omega) (by omega) ?_)
    dsimp only [zaft, Option.toList, List.cons_append, List.nil_append, Nat.add_zero]
    refine zr_iaload (pc := 97) S dX12_changes_97 rfl (Nat.le_of_ble_eq_true rfl) (by omega) (by omega) ?_
    rw [ib, fb]
    refine zr_icmp_eq (pc := 98) (tgt := 107) S dX12_changes_98 (by decide) (fun c98 => ?_) (fun c98 => absurd c98 (by omega))
    exact k
  | succ n ih =>
    intro hn hex hg
    have nw : (n + 1) * vW (vm M) (7 - j) ≤ left := Nat.le_trans (Nat.mul_le_mul_right _ hn) nr.2
    have fr1 := fwD_r (cH M) (vW (vm M)) j (left - (n + 1) * vW (vm M) (7 - j))
    have mw : ((n + 1 : Nat) : Int) * v = (((n + 1) * vW (vm M) (7 - j) : Nat) : Int) := by rw [hv, Int.natCast_mul]
    have sm : (left : Int) - (((n + 1) * vW (vm M) (7 - j) : Nat) : Int) = ((left - (n + 1) * vW (vm M) (7 - j) : Nat) : Int) := by omega
    have ia : ((4801 : Int) * (7 - (j : Int) + 1) + ((left - (n + 1) * vW (vm M) (7 - j) : Nat) : Int)).toNat = 4801 * (8 - j) + (left - (n + 1) * vW (vm M) (7 - j)) := by omega
    have fa : zrow (FM M F) 190 G 188 (4801 * (8 - j) + (left - (n + 1) * vW (vm M) (7 - j))) = (fwD (cH M) (vW (vm M)) j (left - (n + 1) * vW (vm M) (7 - j)) : Nat) := by rw [ef]; exact hF j (by omega) _ (by omega)
    have hc20 : n + 1 ≤ 20 := by have := nr.1; omega
    simp only [grd] at hg
    by_cases c : n + 1 + fwD (cH M) (vW (vm M)) j (left - (n + 1) * vW (vm M) (7 - j)) = fwD (cH M) (vW (vm M)) (j + 1) left
    · rw [if_pos c] at hg
      rw [← hg] at k
      refine zr_iload (pc := 65) S dX12_changes_65 rfl ?_
      refine zr_aload_n (pc := 67) S dX12_changes_67 rfl ?_
      refine zr_getR (pc := 68) S fX12_changes_41 dX12_changes_68 rfl (Nat.le_of_ble_eq_true rfl) rfl ?_
      refine zr_aload_n (pc := 71) S dX12_changes_71 rfl ?_
      refine zr_iload_n (pc := 72) S dX12_changes_72 rfl ?_
      refine zr_iconst (pc := 73) S dX12_changes_73 (by unfold zrI; omega) ?_
      refine zr_iadd (pc := 74) S dX12_changes_74 (by unfold zrI; omega) ?_
      refine zr_iload_n (pc := 75) S dX12_changes_75 rfl ?_
      refine zr_iload (pc := 76) S dX12_changes_76 rfl ?_
      refine zr_iload (pc := 78) S dX12_changes_78 rfl ?_
      refine zr_imul (pc := 80) S dX12_changes_80 (by rw [mw]; unfold zrI; omega) ?_
      rw [mw]
      refine zr_isub (pc := 81) S dX12_changes_81 (by unfold zrI; omega) ?_
      rw [sm]
      refine zr_invV (pc := 82) S [zI _, zI _] (m_X12_at _) kX12_changes_302 dX12_changes_82 rfl (Nat.le_of_ble_eq_true rfl) rfl (Nat.le_of_ble_eq_true rfl) ⟨Nat.le_of_ble_eq_true rfl, Nat.le_of_ble_eq_true rfl⟩ (us_X12_at (by omega) (by omega) ?_)
      dsimp only [zaft, Option.toList, List.cons_append, List.nil_append, Nat.add_zero]
      refine zr_iaload (pc := 85) S dX12_changes_85 rfl (Nat.le_of_ble_eq_true rfl) (by omega) (by omega) ?_
      rw [ia, fa]
      refine zr_iadd (pc := 86) S dX12_changes_86 (by unfold zrI; omega) ?_
      refine zr_aload_n (pc := 87) S dX12_changes_87 rfl ?_
      refine zr_getR (pc := 88) S fX12_changes_41 dX12_changes_88 rfl (Nat.le_of_ble_eq_true rfl) rfl ?_
      refine zr_aload_n (pc := 91) S dX12_changes_91 rfl ?_
      refine zr_iload_n (pc := 92) S dX12_changes_92 rfl ?_
      refine zr_iload_n (pc := 93) S dX12_changes_93 rfl ?_
      refine zr_invV (pc := 94) S [zI _, zI _] (m_X12_at _) kX12_changes_302 dX12_changes_94 rfl (Nat.le_of_ble_eq_true rfl) rfl (Nat.le_of_ble_eq_true rfl) ⟨Nat.le_of_ble_eq_true rfl, Nat.le_of_ble_eq_true rfl⟩ (us_X12_at (by omega) (by omega) ?_)
      dsimp only [zaft, Option.toList, List.cons_append, List.nil_append, Nat.add_zero]
      refine zr_iaload (pc := 97) S dX12_changes_97 rfl (Nat.le_of_ble_eq_true rfl) (by omega) (by omega) ?_
      rw [ib, fb]
      refine zr_icmp_eq (pc := 98) (tgt := 107) S dX12_changes_98 (by decide) (fun c98 => ?_) (fun c98 => absurd c98 (by omega))
      exact k
    · rw [if_neg c] at hg
      have l := ih (by omega) (by
        obtain ⟨n', h1, h2⟩ := hex
        by_cases e : n' = n + 1
        · subst e; exact absurd h2 c
        · exact ⟨n', by omega, h2⟩) hg
      rw [show (n : Int) = ((n + 1 : Nat) : Int) + -1 by omega] at l
      refine zr_iload (pc := 65) S dX12_changes_65 rfl ?_
      refine zr_aload_n (pc := 67) S dX12_changes_67 rfl ?_
      refine zr_getR (pc := 68) S fX12_changes_41 dX12_changes_68 rfl (Nat.le_of_ble_eq_true rfl) rfl ?_
      refine zr_aload_n (pc := 71) S dX12_changes_71 rfl ?_
      refine zr_iload_n (pc := 72) S dX12_changes_72 rfl ?_
      refine zr_iconst (pc := 73) S dX12_changes_73 (by unfold zrI; omega) ?_
      refine zr_iadd (pc := 74) S dX12_changes_74 (by unfold zrI; omega) ?_
      refine zr_iload_n (pc := 75) S dX12_changes_75 rfl ?_
      refine zr_iload (pc := 76) S dX12_changes_76 rfl ?_
      refine zr_iload (pc := 78) S dX12_changes_78 rfl ?_
      refine zr_imul (pc := 80) S dX12_changes_80 (by rw [mw]; unfold zrI; omega) ?_
      rw [mw]
      refine zr_isub (pc := 81) S dX12_changes_81 (by unfold zrI; omega) ?_
      rw [sm]
      refine zr_invV (pc := 82) S [zI _, zI _] (m_X12_at _) kX12_changes_302 dX12_changes_82 rfl (Nat.le_of_ble_eq_true rfl) rfl (Nat.le_of_ble_eq_true rfl) ⟨Nat.le_of_ble_eq_true rfl, Nat.le_of_ble_eq_true rfl⟩ (us_X12_at (by omega) (by omega) ?_)
      dsimp only [zaft, Option.toList, List.cons_append, List.nil_append, Nat.add_zero]
      refine zr_iaload (pc := 85) S dX12_changes_85 rfl (Nat.le_of_ble_eq_true rfl) (by omega) (by omega) ?_
      rw [ia, fa]
      refine zr_iadd (pc := 86) S dX12_changes_86 (by unfold zrI; omega) ?_
      refine zr_aload_n (pc := 87) S dX12_changes_87 rfl ?_
      refine zr_getR (pc := 88) S fX12_changes_41 dX12_changes_88 rfl (Nat.le_of_ble_eq_true rfl) rfl ?_
      refine zr_aload_n (pc := 91) S dX12_changes_91 rfl ?_
      refine zr_iload_n (pc := 92) S dX12_changes_92 rfl ?_
      refine zr_iload_n (pc := 93) S dX12_changes_93 rfl ?_
      refine zr_invV (pc := 94) S [zI _, zI _] (m_X12_at _) kX12_changes_302 dX12_changes_94 rfl (Nat.le_of_ble_eq_true rfl) rfl (Nat.le_of_ble_eq_true rfl) ⟨Nat.le_of_ble_eq_true rfl, Nat.le_of_ble_eq_true rfl⟩ (us_X12_at (by omega) (by omega) ?_)
      dsimp only [zaft, Option.toList, List.cons_append, List.nil_append, Nat.add_zero]
      refine zr_iaload (pc := 97) S dX12_changes_97 rfl (Nat.le_of_ble_eq_true rfl) (by omega) (by omega) ?_
      rw [ib, fb]
      refine zr_icmp_eq (pc := 98) (tgt := 107) S dX12_changes_98 (by decide) (fun c98 => absurd c98 (by omega)) (fun c98 => ?_)
      refine zr_iinc (pc := 101) S dX12_changes_101 rfl (by unfold zrI; omega) (by decide) ?_
      dsimp only [zst1, zst2, zset, zget, zlong]
      refine zr_goto (pc := 104) (tgt := 65) S dX12_changes_104 (by decide) ?_
      exact l
end
