section
theorem cg1 {E : zE} {X : zX} {Qp : Option zV → zM → Prop} {M : zM} {F : Nat → Int} {top : Nat} (S : zS (zg E) X cX12_changes 6 wzX12_changes RX12 (some .int)) (ht : top ≤ 4800) (hs : ICs (vm M)) (hh : ∀ k, k < 8 → 0 ≤ M 189 k ∧ M 189 k ≤ 20) (hF : FWok M F top 8)
    (hQ : ∀ G : Nat → Int, (∀ k, k < 8 → G k = (gv (cH M) (vW (vm M)) 8 top k : Nat)) → Qp (some (zI (fwD (cH M) (vW (vm M)) 8 top : Nat))) (zrow (FM M F) 190 G)) : ∀ (j left : Nat) (G : Nat → Int) (u4 u5 : Option zV), j ≤ 8 → left ≤ top → (∀ k, k < 8 - j → G k = (gv (cH M) (vW (vm M)) 8 top k : Nat)) → (∀ k, 8 - j ≤ k → k < 8 → gv (cH M) (vW (vm M)) 8 top k = gv (cH M) (vW (vm M)) j left k) → zK (zg E) rmX12_changes 6 (Qp, 0, 0) X (0, 0) 28 [some (zR 180), some (zI top), some (zI left), some (zI (8 - (j : Int))), u4, u5] [] (zrow (FM M F) 190 G) := by
  intro j
  induction j with
  | zero =>
    intro left G u4 u5 hj hl h1 h2
    have q := hQ G (fun k hk => h1 k (by omega))
    have ef : zrow (FM M F) 190 G 188 = F := by rw [zrow_o (by decide), FM_e]
    have ib : ((4801 : Int) * 0 + (top : Int)).toNat = 4801 * (8 - 8) + top := by omega
    have fb : zrow (FM M F) 190 G 188 (4801 * (8 - 8) + top) = (fwD (cH M) (vW (vm M)) 8 top : Nat) := by rw [ef]; exact hF 8 (by omega) _ (by omega)
    refine zr_iload_n (pc := 28) S dX12_changes_28 rfl ?_
    refine zr_bipush (pc := 29) S dX12_changes_29 ⟨by unfold zrI; omega, by decide⟩ ?_
    refine zr_icmp_ge (pc := 31) (tgt := 129) S dX12_changes_31 (by decide) (fun c31 => ?_) (fun c31 => absurd c31 (by omega))
    refine zr_aload_n (pc := 129) S dX12_changes_129 rfl ?_
    refine zr_getR (pc := 130) S fX12_changes_41 dX12_changes_130 rfl (Nat.le_of_ble_eq_true rfl) rfl ?_
    refine zr_aload_n (pc := 133) S dX12_changes_133 rfl ?_
    refine zr_iconst (pc := 134) S dX12_changes_134 (by unfold zrI; omega) ?_
    refine zr_iload_n (pc := 135) S dX12_changes_135 rfl ?_
    refine zr_invV (pc := 136) S [zI _, zI _] (m_X12_at _) kX12_changes_302 dX12_changes_136 rfl (Nat.le_of_ble_eq_true rfl) rfl (Nat.le_of_ble_eq_true rfl) ⟨Nat.le_of_ble_eq_true rfl, Nat.le_of_ble_eq_true rfl⟩ (us_X12_at (by omega) (by omega) ?_)
    dsimp only [zaft, Option.toList, List.cons_append, List.nil_append, Nat.add_zero]
    refine zr_iaload (pc := 139) S dX12_changes_139 rfl (Nat.le_of_ble_eq_true rfl) (by omega) (by omega) ?_
    rw [ib, fb]
    exact zr_iret (pc := 140) S dX12_changes_140 rfl ⟨Nat.le_refl _, Nat.le_refl _⟩ (q)
  | succ j ih =>
    intro left G u4 u5 hj hl h1 h2
    have t8 : 0 ≤ M 181 0 ∧ M 181 0 ≤ 8 := hs.1
    have et : zrow (FM M F) 190 G 181 = M 181 := by rw [zrow_o (by decide), FM_o (by decide)]
    have eh : zrow (FM M F) 190 G 189 = M 189 := by rw [zrow_o (by decide), FM_o (by decide)]
    have av : AG (vm M) (vm (zrow (FM M F) 190 G)) := fun k hk => ((vm_zr (M := FM M F) (F := G) (by decide) (by decide)) k hk).trans (FM_vm M F k hk)
    have wr := worth_r2 hs (7 - (j : Int))
    have ev : worth (vm (zrow (FM M F) 190 G)) (8 - ((j + 1 : Nat) : Int)) = ((vW (vm M) (7 - j) : Nat) : Int) := by
      rw [ag_worth av]
      unfold vW
      rw [show (((7 - j : Nat) : Nat) : Int) = 7 - (j : Int) by omega, show (8 : Int) - ((j + 1 : Nat) : Int) = 7 - (j : Int) by omega]
      omega
    have vr : ((vW (vm M) (7 - j) : Nat) : Int) ≤ 200 := by
      rw [← ev, ag_worth av, show (8 : Int) - ((j + 1 : Nat) : Int) = 7 - (j : Int) by omega]; omega
    have hj7 := hh (7 - j) (by omega)
    have c20 : cH M (7 - j) ≤ 20 := by unfold cH; omega
    have gok := gN_ok (cH M) (vW (vm M)) j left
    have nr := nmx_r (cH M (7 - j)) (vW (vm M) (7 - j)) left
    have gw : gN (cH M) (vW (vm M)) j left * vW (vm M) (7 - j) ≤ left := Nat.le_trans (Nat.mul_le_mul_right _ gok.1) nr.2
    have g20 : gN (cH M) (vW (vm M)) j left ≤ 20 := by have := nr.1; omega
    have e7 : gv (cH M) (vW (vm M)) 8 top (7 - j) = gN (cH M) (vW (vm M)) j left := by
      rw [h2 (7 - j) (by omega) (by omega)]; simp only [gv]; rw [if_pos trivial]
    have l := ih (left - gN (cH M) (vW (vm M)) j left * vW (vm M) (7 - j)) (rUp G (7 - j) (gN (cH M) (vW (vm M)) j left : Nat)) (some (zI (vW (vm M) (7 - j) : Nat))) (some (zI (gN (cH M) (vW (vm M)) j left : Nat))) (by omega) (by omega) (fun k hk => by
        by_cases e : k = 7 - j
        · subst e; rw [rUp_e, e7]
        · rw [rUp_o e]; exact h1 k (by omega)) (fun k h8 h9 => by
        rw [h2 k (by omega) h9]; simp only [gv]; rw [if_neg (by omega)])
    rw [show (8 : Int) - (j : Int) = 8 - ((j + 1 : Nat) : Int) + 1 by omega] at l
    have mw : ((gN (cH M) (vW (vm M)) j left : Nat) : Int) * ((vW (vm M) (7 - j) : Nat) : Int) = ((gN (cH M) (vW (vm M)) j left * vW (vm M) (7 - j) : Nat) : Int) := by rw [Int.natCast_mul]
    have sm : (left : Int) - ((gN (cH M) (vW (vm M)) j left * vW (vm M) (7 - j) : Nat) : Int) = ((left - gN (cH M) (vW (vm M)) j left * vW (vm M) (7 - j) : Nat) : Int) := by omega
    have is7 : ((8 : Int) - ((j + 1 : Nat) : Int)).toNat = 7 - j := by omega
    have k2 := cg2 (E := E) (X := X) (Qp := Qp) (M := M) (F := F) (G := G) (top := top) (j := j) (left := left) (sum := top) (v := (vW (vm M) (7 - j) : Nat)) S ht (by omega) hl rfl vr hF c20 (by
      rw [show (7 : Int) - (j : Int) = 8 - ((j + 1 : Nat) : Int) by omega]
      refine zr_aload_n (pc := 107) S dX12_changes_107 rfl ?_
      refine zr_getR (pc := 108) S fX12_changes_47 dX12_changes_108 rfl (Nat.le_of_ble_eq_true rfl) rfl ?_
      refine zr_iload_n (pc := 111) S dX12_changes_111 rfl ?_
      refine zr_iload (pc := 112) S dX12_changes_112 rfl ?_
      refine zr_iastore (pc := 114) S dX12_changes_114 rfl (Nat.le_of_ble_eq_true rfl) (by omega) (by omega) ?_
      rw [is7, zrow_up]
      refine zr_iload_n (pc := 115) S dX12_changes_115 rfl ?_
      refine zr_iload (pc := 116) S dX12_changes_116 rfl ?_
      refine zr_iload (pc := 118) S dX12_changes_118 rfl ?_
      refine zr_imul (pc := 120) S dX12_changes_120 (by rw [mw]; unfold zrI; omega) ?_
      rw [mw]
      refine zr_isub (pc := 121) S dX12_changes_121 (by unfold zrI; omega) ?_
      rw [sm]
      refine zr_istore_n (pc := 122) S 2 dX12_changes_122 rfl (by decide) ?_
      dsimp only [zst1, zst2, zset, zget, zlong]
      refine zr_iinc (pc := 123) S dX12_changes_123 rfl (by unfold zrI; omega) (by decide) ?_
      dsimp only [zst1, zst2, zset, zget, zlong]
      refine zr_goto (pc := 126) (tgt := 28) S dX12_changes_126 (by decide) ?_
      exact l) (nmx (cH M (7 - j)) (vW (vm M) (7 - j)) left) (Nat.le_refl _) ⟨_, gok.1, gok.2⟩ rfl
    rw [show (7 : Int) - (j : Int) = 8 - ((j + 1 : Nat) : Int) by omega] at k2
    have n0 : ((vW (vm M) (7 - j) : Nat) : Int) = 0 → ((nmx (cH M (7 - j)) (vW (vm M) (7 - j)) left : Nat) : Int) = 0 := fun z => by
      unfold nmx; rw [if_pos (by omega)]; rfl
    have n1 : ¬ ((vW (vm M) (7 - j) : Nat) : Int) = 0 → ((nmx (cH M (7 - j)) (vW (vm M) (7 - j)) left : Nat) : Int) = min (M 189 (7 - j)) ((left : Int) / ((vW (vm M) (7 - j) : Nat) : Int)) := fun z => by
      unfold nmx; rw [if_neg (by omega), ← Int.natCast_ediv]
      unfold cH
      omega
    refine zr_iload_n (pc := 28) S dX12_changes_28 rfl ?_
    refine zr_bipush (pc := 29) S dX12_changes_29 ⟨by unfold zrI; omega, by decide⟩ ?_
    refine zr_icmp_ge (pc := 31) (tgt := 129) S dX12_changes_31 (by decide) (fun c31 => absurd c31 (by omega)) (fun c31 => ?_)
    refine zr_aload_n (pc := 34) S dX12_changes_34 rfl ?_
    refine zr_iload_n (pc := 35) S dX12_changes_35 rfl ?_
    refine zr_invV (pc := 36) S [zI _] (m_X12_valueOf _) kX12_changes_264 dX12_changes_36 rfl (Nat.le_of_ble_eq_true rfl) rfl (Nat.le_of_ble_eq_true rfl) ⟨Nat.le_of_ble_eq_true rfl, Nat.le_of_ble_eq_true rfl⟩ (us_X12_valueOf (by rw [et]; exact t8.1) (by rw [et]; exact t8.2) ?_)
    dsimp only [zaft, Option.toList, List.cons_append, List.nil_append, Nat.add_zero]
    rw [ev]
    refine zr_istore (pc := 39) S dX12_changes_39 (by decide) ?_
    dsimp only [zst1, zst2, zset, zget, zlong]
    refine zr_iload (pc := 41) S dX12_changes_41 rfl ?_
    refine zr_if_ne (pc := 43) (tgt := 50) S dX12_changes_43 (by decide) (fun c43 => ?_) (fun c43 => ?_)
    · rw [n1 c43] at k2
      refine zr_aload_n (pc := 50) S dX12_changes_50 rfl ?_
      refine zr_getR (pc := 51) S fX12_changes_44 dX12_changes_51 rfl (Nat.le_of_ble_eq_true rfl) rfl ?_
      refine zr_iload_n (pc := 54) S dX12_changes_54 rfl ?_
      refine zr_iaload (pc := 55) S dX12_changes_55 rfl (Nat.le_of_ble_eq_true rfl) (by omega) (by omega) ?_
      rw [is7, eh]
      refine zr_iload_n (pc := 56) S dX12_changes_56 rfl ?_
      refine zr_iload (pc := 57) S dX12_changes_57 rfl ?_
      refine zr_idiv (pc := 59) S dX12_changes_59 (by omega) (by omega) ?_
      refine zr_mmin (pc := 60) S kX12_changes_228 dX12_changes_60 (Nat.le_of_ble_eq_true rfl) (Nat.le_of_ble_eq_true rfl) ⟨Nat.le_of_ble_eq_true rfl, Nat.le_of_ble_eq_true rfl⟩ ?_
      refine zr_istore (pc := 63) S dX12_changes_63 (by decide) ?_
      dsimp only [zst1, zst2, zset, zget, zlong]
      exact k2
    · rw [n0 c43] at k2
      refine zr_iconst (pc := 46) S dX12_changes_46 (by unfold zrI; omega) ?_
      refine zr_goto (pc := 47) (tgt := 63) S dX12_changes_47 (by decide) ?_
      refine zr_istore (pc := 63) S dX12_changes_63 (by decide) ?_
      dsimp only [zst1, zst2, zset, zget, zlong]
      exact k2
def sp_X12_changes (as : List zV) (M : zM) (Q : Option zV → zM → Prop) : Prop := ∃ (top : Nat), as = [zR 180, zI top] ∧ (top ≤ 4800) ∧ (ICs (vm M)) ∧ (∀ k, k < 8 → 0 ≤ M 189 k ∧ M 189 k ≤ 20) ∧ (¬ fwD (cH M) (vW (vm M)) 8 top < 1000000 → ∀ F : Nat → Int, Q (some (zI (-1))) (FM M F)) ∧ (fwD (cH M) (vW (vm M)) 8 top < 1000000 → ∀ F G : Nat → Int, (∀ k, k < 8 → G k = (gv (cH M) (vW (vm M)) 8 top k : Nat)) → Q (some (zI (fwD (cH M) (vW (vm M)) 8 top : Nat))) (zrow (FM M F) 190 G))
theorem us_X12_changes {top : Nat} {M : zM} {Q : Option zV → zM → Prop} (ht : top ≤ 4800) (hs : ICs (vm M)) (hh : ∀ k, k < 8 → 0 ≤ M 189 k ∧ M 189 k ≤ 20) (hN : ¬ fwD (cH M) (vW (vm M)) 8 top < 1000000 → ∀ F : Nat → Int, Q (some (zI (-1))) (FM M F)) (hY : fwD (cH M) (vW (vm M)) 8 top < 1000000 → ∀ F G : Nat → Int, (∀ k, k < 8 → G k = (gv (cH M) (vW (vm M)) 8 top k : Nat)) → Q (some (zI (fwD (cH M) (vW (vm M)) 8 top : Nat))) (zrow (FM M F) 190 G)) : sp_X12_changes [zR 180, zI top] M Q := ⟨top, rfl, ht, hs, hh, hN, hY⟩
set_option maxRecDepth 20000 in
set_option maxHeartbeats 4000000 in
theorem m_X12_changes (l : Launch) : zC l yX12_changes wzX12_changes rmX12_changes sp_X12_changes := by
  refine zMet.of RX12 (by decide +kernel) rfl rfl ?_
  intro E X as M Qp hX S hsp
  obtain ⟨top, rfl, ht, hs, hh, hN, hY⟩ := hsp
  refine ⟨Nat.le_of_ble_eq_true rfl, ?_⟩
  dsimp only [zpad, zargs]
  have fr := fwD_r (cH M) (vW (vm M)) 8 top
  have ib : ((4801 : Int) * 0 + (top : Int)).toNat = 4801 * (8 - 8) + top := by omega
  have k1 : ∀ F : Nat → Int, FWok M F top 8 → fwD (cH M) (vW (vm M)) 8 top < 1000000 → zK (zg E) rmX12_changes 6 (Qp, 0, 0) X (0, 0) 24 [some (zR 180), some (zI top), none, none, none, none] [] (FM M F) := fun F hF hlt => by
    have l := fun u4 u5 => cg1 (E := E) (X := X) (Qp := Qp) (M := M) (F := F) (top := top) S ht hs hh hF (hY hlt F) 8 top (FM M F 190) u4 u5 (by omega) (by omega) (fun k hk => absurd hk (by omega)) (fun k _ _ => rfl)
    rw [zrow_s] at l
    refine zr_iload_n (pc := 24) S dX12_changes_24 rfl ?_
    refine zr_istore_n (pc := 25) S 2 dX12_changes_25 rfl (by decide) ?_
    dsimp only [zst1, zst2, zset, zget, zlong]
    refine zr_iconst (pc := 26) S dX12_changes_26 (by unfold zrI; omega) ?_
    refine zr_istore_n (pc := 27) S 3 dX12_changes_27 rfl (by decide) ?_
    dsimp only [zst1, zst2, zset, zget, zlong]
    exact l _ _
  have k0 : ∀ F : Nat → Int, FWok M F top 8 → zK (zg E) rmX12_changes 6 (Qp, 0, 0) X (0, 0) 5 [some (zR 180), some (zI top), none, none, none, none] [] (FM M F) := fun F hF => by
    have k1' := k1 F hF
    have fb : FM M F 188 (4801 * (8 - 8) + top) = (fwD (cH M) (vW (vm M)) 8 top : Nat) := by rw [FM_e]; exact hF 8 (by omega) _ (by omega)
    refine zr_aload_n (pc := 5) S dX12_changes_5 rfl ?_
    refine zr_getR (pc := 6) S fX12_changes_41 dX12_changes_6 rfl (Nat.le_of_ble_eq_true rfl) rfl ?_
    refine zr_aload_n (pc := 9) S dX12_changes_9 rfl ?_
    refine zr_iconst (pc := 10) S dX12_changes_10 (by unfold zrI; omega) ?_
    refine zr_iload_n (pc := 11) S dX12_changes_11 rfl ?_
    refine zr_invV (pc := 12) S [zI _, zI _] (m_X12_at _) kX12_changes_302 dX12_changes_12 rfl (Nat.le_of_ble_eq_true rfl) rfl (Nat.le_of_ble_eq_true rfl) ⟨Nat.le_of_ble_eq_true rfl, Nat.le_of_ble_eq_true rfl⟩ (us_X12_at (by omega) (by omega) ?_)
    dsimp only [zaft, Option.toList, List.cons_append, List.nil_append, Nat.add_zero]
    refine zr_iaload (pc := 15) S dX12_changes_15 rfl (Nat.le_of_ble_eq_true rfl) (by omega) (by omega) ?_
    rw [ib, fb]
    refine zr_ldcw (pc := 16) S (1000000) dX12_changes_16 (List.mem_cons_of_mem _ (zWi_6 _ (List.mem_of_getElem? (i := 49) rfl))) (by unfold zrI; omega) ?_
    refine zr_icmp_lt (pc := 19) (tgt := 24) S dX12_changes_19 (by decide) (fun c19 => ?_) (fun c19 => ?_)
    · exact k1' (by omega)
    · refine zr_iconst (pc := 22) S dX12_changes_22 (by unfold zrI; omega) ?_
      exact zr_iret (pc := 23) S dX12_changes_23 rfl ⟨Nat.le_refl _, Nat.le_refl _⟩ (hN (by omega) F)
  refine zr_aload_n (pc := 0) S dX12_changes_0 rfl ?_
  refine zr_iload_n (pc := 1) S dX12_changes_1 rfl ?_
  refine zr_invV (pc := 2) S [zI _] (m_X12_layChange _) kX12_changes_305 dX12_changes_2 rfl (Nat.le_of_ble_eq_true rfl) rfl (Nat.le_of_ble_eq_true rfl) ⟨Nat.le_of_ble_eq_true rfl, Nat.le_of_ble_eq_true rfl⟩ (us_X12_layChange ht hs hh ?_)
  dsimp only [zaft, Option.toList, List.cons_append, List.nil_append, Nat.add_zero]
  intro F hF
  exact k0 F hF
end
