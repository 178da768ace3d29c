section
theorem vm_zr {M : zM} {c : Nat} {F : Nat → Int} (hc : 36 ≤ c) (ht : c ≠ 181) : AG (vm M) (vm (zrow M c F)) := fun k hk => by
  show vw (zrow M c F 181) (zrow M c F) k = vw (M 181) M k
  have e : ∀ d, d < 36 → zrow M c F d = M d := fun d hd => zrow_o (by omega)
  rw [zrow_o (fun z => ht z.symm)]
  funext j
  unfold vw
  split <;> first | rfl | (rw [e _ (by omega)])
theorem vv_ag {M N : zM} (h : AG (vm M) (vm N)) (hm : N 180 = M 180) : AG (vv M) (vv N) := fun k hk => by
  unfold vv
  rw [hm]
  split
  · exact h k hk
  · funext j
    unfold zup
    rw [h k hk]
abbrev TM (M : zM) (G R : Nat → Int) : zM := zrow (zrow M 187 G) 186 R
theorem TM_vm (M : zM) (G R : Nat → Int) : AG (vm M) (vm (TM M G R)) := fun k hk => by
  rw [vm_zr (M := zrow M 187 G) (c := 186) (by decide) (by decide) k hk]
  exact vm_zr (by decide) (by decide) k hk
theorem TM_vv (M : zM) (G R : Nat → Int) : AG (vv M) (vv (TM M G R)) := vv_ag (TM_vm M G R) (by unfold TM; rw [zrow_o (by decide), zrow_o (by decide)])
theorem TM_o {M : zM} {G R : Nat → Int} {k : Nat} (h : k ≠ 187 ∧ k ≠ 186) : TM M G R k = M k := by unfold TM; rw [zrow_o h.2, zrow_o h.1]
theorem TM_g {M : zM} {G R : Nat → Int} : TM M G R 187 = G := by unfold TM; rw [zrow_o (by decide), zrow_e]
theorem TM_r {M : zM} {G R : Nat → Int} : TM M G R 186 = R := zrow_e
theorem TM_ug {M : zM} {G R : Nat → Int} {o : Nat} {v : Int} : zup (TM M G R) 187 o v = TM M (rUp G o v) R := by
  funext k j
  unfold zup TM zrow rUp
  by_cases h : k = 187
  · subst h
    simp
  · rw [if_neg h, if_neg h]
    by_cases h2 : k = 186
    · rw [if_pos h2, if_pos h2]
    · rw [if_neg h2, if_neg h2, if_neg h]
theorem TM_ur {M : zM} {G R : Nat → Int} {o : Nat} {v : Int} : zup (TM M G R) 186 o v = TM M G (rUp R o v) := zrow_up
theorem TM_s (M : zM) : TM M (M 187) (M 186) = M := by
  unfold TM
  rw [zrow_s]
  exact zrow_s
theorem tl4 {E : zE} {X : zX} {Qp : Option zV → zM → Prop} {M V : zM} {G : Nat → Int} {s lo : Int} {n : Nat} (S : zS (zg E) X cX12_tally 3 wzX12_tally RX12 none) (hn : n ≤ 100)
    (k : ∀ R : Nat → Int, (∀ y : Nat, y ≤ 100 → R y = hpN V lo y n) → zK (zg E) rmX12_tally 3 (Qp, 0, 0) X (0, 0) 114 [some (zR 180), some (zI s), some (zI 101)] [] (TM M G R)) : ∀ (m x : Nat) (R : Nat → Int), m + x = 101 → 1 ≤ x → (∀ y : Nat, y < x → R y = hpN V lo y n) → (∀ y : Nat, x ≤ y → y ≤ 100 → R y = hcN V lo y n) → zK (zg E) rmX12_tally 3 (Qp, 0, 0) X (0, 0) 85 [some (zR 180), some (zI s), some (zI x)] [] (TM M G R) := by
  intro m
  induction m with
  | zero =>
    intro x R hx h1 h2 h3
    obtain rfl : x = 101 := by omega
    have kk := k R (fun y hy => h2 y (by omega))
    refine zr_iload_n (pc := 85) S dX12_tally_85 rfl ?_
    refine zr_bipush (pc := 86) S dX12_tally_86 ⟨by unfold zrI; omega, by decide⟩ ?_
    refine zr_icmp_gt (pc := 88) (tgt := 114) S dX12_tally_88 (by decide) (fun c88 => ?_) (fun c88 => absurd c88 (by omega))
    exact kk
  | succ m ih =>
    intro x R hx h1 h2 h3
    have e1 : TM M G R 186 (x : Int).toNat = hcN V lo x n := by rw [TM_r, Int.toNat_natCast, h3 x (Nat.le_refl _) (by omega)]
    have e2 : TM M G R 186 ((x : Int) - 1).toNat = hpN V lo ((x : Int) - 1) n := by
      rw [TM_r, show ((x : Int) - 1).toNat = x - 1 by omega, h2 (x - 1) (by omega), show ((x - 1 : Nat) : Int) = (x : Int) - 1 by omega]
    have r1 := hp_r V lo x n
    have r2 := hp_r V lo ((x : Int) - 1) n
    have st := hp_s V lo ((x : Int) - 1) n
    rw [show (x : Int) - 1 + 1 = x by omega] at st
    have l := ih (x + 1) (rUp R x (hcN V lo x n + hpN V lo ((x : Int) - 1) n)) (by omega) (by omega) (fun y hy => by
      by_cases e : y = x
      · rw [e, rUp_e, st]
      · rw [rUp_o e, h2 y (by omega)]) (fun y h4 h5 => by rw [rUp_o (by omega), h3 y (by omega) h5])
    rw [Int.natCast_add, Int.natCast_one] at l
    refine zr_iload_n (pc := 85) S dX12_tally_85 rfl ?_
    refine zr_bipush (pc := 86) S dX12_tally_86 ⟨by unfold zrI; omega, by decide⟩ ?_
    refine zr_icmp_gt (pc := 88) (tgt := 114) S dX12_tally_88 (by decide) (fun c88 => absurd c88 (by omega)) (fun c88 => ?_)
    refine zr_aload_n (pc := 91) S dX12_tally_91 rfl ?_
    refine zr_getR (pc := 92) S fX12_tally_33 dX12_tally_92 rfl (Nat.le_of_ble_eq_true rfl) rfl ?_
    refine zr_iload_n (pc := 95) S dX12_tally_95 rfl ?_
    refine zr_dup2 (pc := 96) S dX12_tally_96 rfl rfl ?_
    refine zr_iaload (pc := 97) S dX12_tally_97 rfl (Nat.le_of_ble_eq_true rfl) (by omega) (by omega) ?_
    rw [e1]
    refine zr_aload_n (pc := 98) S dX12_tally_98 rfl ?_
    refine zr_getR (pc := 99) S fX12_tally_33 dX12_tally_99 rfl (Nat.le_of_ble_eq_true rfl) rfl ?_
    refine zr_iload_n (pc := 102) S dX12_tally_102 rfl ?_
    refine zr_iconst (pc := 103) S dX12_tally_103 (by unfold zrI; omega) ?_
    refine zr_isub (pc := 104) S dX12_tally_104 (by unfold zrI; omega) ?_
    refine zr_iaload (pc := 105) S dX12_tally_105 rfl (Nat.le_of_ble_eq_true rfl) (by omega) (by omega) ?_
    rw [e2]
    refine zr_iadd (pc := 106) S dX12_tally_106 (by unfold zrI; omega) ?_
    refine zr_iastore (pc := 107) S dX12_tally_107 rfl (Nat.le_of_ble_eq_true rfl) (by omega) (by omega) ?_
    rw [Int.toNat_natCast, TM_ur]
    refine zr_iinc (pc := 108) S dX12_tally_108 rfl (by unfold zrI; omega) (by decide) ?_
    dsimp only [zst1, zst2, zset, zget, zlong]
    refine zr_goto (pc := 111) (tgt := 85) S dX12_tally_111 (by decide) ?_
    exact l
theorem tl3 {E : zE} {X : zX} {Qp : Option zV → zM → Prop} {M : zM} {G : Nat → Int} {s : Int} {n : Nat} (S : zS (zg E) X cX12_tally 3 wzX12_tally RX12 none) (hs : ICs (vm M)) (h0 : 0 ≤ s) (h1 : s < 8) (hn : highOf (vm M) s 2 + 1 - lowOf (vm M) s 2 = n)
    (k : ∀ (R : Nat → Int) (l2 : Int), (∀ y : Nat, y ≤ 100 → R y = hcN (vm M) (lowOf (vm M) s 2) y n) → zK (zg E) rmX12_tally 3 (Qp, 0, 0) X (0, 0) 83 [some (zR 180), some (zI s), some (zI l2)] [] (TM M G R)) : ∀ (m i : Nat) (R : Nat → Int), m + i = n → (∀ y : Nat, y ≤ 100 → R y = hcN (vm M) (lowOf (vm M) s 2) y i) → zK (zg E) rmX12_tally 3 (Qp, 0, 0) X (0, 0) 50 [some (zR 180), some (zI s), some (zI (lowOf (vm M) s 2 + i))] [] (TM M G R) := by
  have s2 := span_r hs h0 h1 (m := 2) (by omega) (by omega)
  have e1 : ∀ R, endM (vm (TM M G R)) s 2 1 = highOf (vm M) s 2 := fun R => by unfold endM; rw [if_neg (by decide), ag_highOf (TM_vm M G R)]
  have w := hs.2.1
  intro m
  induction m with
  | zero =>
    intro i R hi hR
    obtain rfl : i = n := by omega
    have kk := k R (lowOf (vm M) s 2 + i) hR
    refine zr_iload_n (pc := 50) S dX12_tally_50 rfl ?_
    refine zr_aload_n (pc := 51) S dX12_tally_51 rfl ?_
    refine zr_iload_n (pc := 52) S dX12_tally_52 rfl ?_
    refine zr_iconst (pc := 53) S dX12_tally_53 (by unfold zrI; omega) ?_
    refine zr_iconst (pc := 54) S dX12_tally_54 (by unfold zrI; omega) ?_
    refine zr_invV (pc := 55) S [zI _, zI _, zI _] (m_X12_endOf _) kX12_tally_128 dX12_tally_55 rfl (Nat.le_of_ble_eq_true rfl) rfl (Nat.le_of_ble_eq_true rfl) ⟨Nat.le_of_ble_eq_true rfl, Nat.le_of_ble_eq_true rfl⟩ (us_X12_endOf ((TM_vm M G R).s hs) h0 h1 (by decide) (by decide) (Or.inr rfl) ?_)
    dsimp only [zaft, Option.toList, List.cons_append, List.nil_append, Nat.add_zero]
    rw [e1]
    refine zr_icmp_gt (pc := 58) (tgt := 83) S dX12_tally_58 (by decide) (fun c58 => ?_) (fun c58 => absurd c58 (by omega))
    exact kk
  | succ m ih =>
    intro i R hi hR
    have eh : heardR (vm (TM M G R)) (lowOf (vm M) s 2 + i) = heardR (vm M) (lowOf (vm M) s 2 + i) := by unfold heardR; rw [TM_vm M G R 3 (by decide)]
    have hr : 0 ≤ heardR (vm M) (lowOf (vm M) s 2 + i) ∧ heardR (vm M) (lowOf (vm M) s 2 + i) ≤ 99 := by unfold heardR; omega
    obtain ⟨x, hx⟩ : ∃ x : Nat, heardR (vm M) (lowOf (vm M) s 2 + i) + 1 = x := ⟨(heardR (vm M) (lowOf (vm M) s 2 + i) + 1).toNat, by omega⟩
    have ex : TM M G R 186 (x : Int).toNat = hcN (vm M) (lowOf (vm M) s 2) x i := by rw [TM_r, Int.toNat_natCast, hR x (by omega)]
    have rr := hp_r (vm M) (lowOf (vm M) s 2) x i
    have l := ih (i + 1) (rUp R x (hcN (vm M) (lowOf (vm M) s 2) x i + 1)) (by omega) (fun y hy => by
      have ec : hcN (vm M) (lowOf (vm M) s 2) y (i + 1) = hcN (vm M) (lowOf (vm M) s 2) y i + (if heardR (vm M) (lowOf (vm M) s 2 + i) + 1 = y then 1 else 0) := rfl
      rw [ec]
      by_cases e : y = x
      · rw [e, rUp_e, if_pos hx]
      · rw [rUp_o e, hR y hy, if_neg (by omega), Int.add_zero])
    rw [Int.natCast_add, Int.natCast_one, ← Int.add_assoc] at l
    refine zr_iload_n (pc := 50) S dX12_tally_50 rfl ?_
    refine zr_aload_n (pc := 51) S dX12_tally_51 rfl ?_
    refine zr_iload_n (pc := 52) S dX12_tally_52 rfl ?_
    refine zr_iconst (pc := 53) S dX12_tally_53 (by unfold zrI; omega) ?_
    refine zr_iconst (pc := 54) S dX12_tally_54 (by unfold zrI; omega) ?_
    refine zr_invV (pc := 55) S [zI _, zI _, zI _] (m_X12_endOf _) kX12_tally_128 dX12_tally_55 rfl (Nat.le_of_ble_eq_true rfl) rfl (Nat.le_of_ble_eq_true rfl) ⟨Nat.le_of_ble_eq_true rfl, Nat.le_of_ble_eq_true rfl⟩ (us_X12_endOf ((TM_vm M G R).s hs) h0 h1 (by decide) (by decide) (Or.inr rfl) ?_)
    dsimp only [zaft, Option.toList, List.cons_append, List.nil_append, Nat.add_zero]
    rw [e1]
    refine zr_icmp_gt (pc := 58) (tgt := 83) S dX12_tally_58 (by decide) (fun c58 => absurd c58 (by omega)) (fun c58 => ?_)
    refine zr_aload_n (pc := 61) S dX12_tally_61 rfl ?_
    refine zr_getR (pc := 62) S fX12_tally_33 dX12_tally_62 rfl (Nat.le_of_ble_eq_true rfl) rfl ?_
    refine zr_aload_n (pc := 65) S dX12_tally_65 rfl ?_
    refine zr_iload_n (pc := 66) S dX12_tally_66 rfl ?_
    refine zr_invV (pc := 67) S [zI _] (m_X12_heard _) kX12_tally_237 dX12_tally_67 rfl (Nat.le_of_ble_eq_true rfl) rfl (Nat.le_of_ble_eq_true rfl) ⟨Nat.le_of_ble_eq_true rfl, Nat.le_of_ble_eq_true rfl⟩ (us_X12_heard (by omega) ((TM_vm M G R).s hs) ?_)
    dsimp only [zaft, Option.toList, List.cons_append, List.nil_append, Nat.add_zero]
    rw [eh]
    refine zr_iconst (pc := 70) S dX12_tally_70 (by unfold zrI; omega) ?_
    refine zr_iadd (pc := 71) S dX12_tally_71 (by unfold zrI; omega) ?_
    rw [hx]
    refine zr_dup2 (pc := 72) S dX12_tally_72 rfl rfl ?_
    refine zr_iaload (pc := 73) S dX12_tally_73 rfl (Nat.le_of_ble_eq_true rfl) (by omega) (by omega) ?_
    rw [ex]
    refine zr_iconst (pc := 74) S dX12_tally_74 (by unfold zrI; omega) ?_
    refine zr_iadd (pc := 75) S dX12_tally_75 (by unfold zrI; omega) ?_
    refine zr_iastore (pc := 76) S dX12_tally_76 rfl (Nat.le_of_ble_eq_true rfl) (by omega) (by omega) ?_
    rw [Int.toNat_natCast, TM_ur]
    refine zr_iinc (pc := 77) S dX12_tally_77 rfl (by unfold zrI; omega) (by decide) ?_
    dsimp only [zst1, zst2, zset, zget, zlong]
    refine zr_goto (pc := 80) (tgt := 50) S dX12_tally_80 (by decide) ?_
    exact l
theorem tl2 {E : zE} {X : zX} {Qp : Option zV → zM → Prop} {M : zM} {G : Nat → Int} {s : Int} (S : zS (zg E) X cX12_tally 3 wzX12_tally RX12 none)
    (k : ∀ (R : Nat → Int), (∀ y : Nat, y ≤ 100 → R y = 0) → zK (zg E) rmX12_tally 3 (Qp, 0, 0) X (0, 0) 42 [some (zR 180), some (zI s), some (zI 101)] [] (TM M G R)) : ∀ (m i : Nat) (R : Nat → Int), m + i = 101 → (∀ y : Nat, y < i → R y = 0) → zK (zg E) rmX12_tally 3 (Qp, 0, 0) X (0, 0) 23 [some (zR 180), some (zI s), some (zI i)] [] (TM M G R) := by
  intro m
  induction m with
  | zero =>
    intro i R hi hR
    obtain rfl : i = 101 := by omega
    have kk := k R (fun y hy => hR y (by omega))
    refine zr_iload_n (pc := 23) S dX12_tally_23 rfl ?_
    refine zr_bipush (pc := 24) S dX12_tally_24 ⟨by unfold zrI; omega, by decide⟩ ?_
    refine zr_icmp_gt (pc := 26) (tgt := 42) S dX12_tally_26 (by decide) (fun c26 => ?_) (fun c26 => absurd c26 (by omega))
    exact kk
  | succ m ih =>
    intro i R hi hR
    have l := ih (i + 1) (rUp R i 0) (by omega) (fun y hy => by
      by_cases e : y = i
      · rw [e, rUp_e]
      · rw [rUp_o e, hR y (by omega)])
    rw [Int.natCast_add, Int.natCast_one] at l
    refine zr_iload_n (pc := 23) S dX12_tally_23 rfl ?_
    refine zr_bipush (pc := 24) S dX12_tally_24 ⟨by unfold zrI; omega, by decide⟩ ?_
    refine zr_icmp_gt (pc := 26) (tgt := 42) S dX12_tally_26 (by decide) (fun c26 => absurd c26 (by omega)) (fun c26 => ?_)
    refine zr_aload_n (pc := 29) S dX12_tally_29 rfl ?_
    refine zr_getR (pc := 30) S fX12_tally_33 dX12_tally_30 rfl (Nat.le_of_ble_eq_true rfl) rfl ?_
    refine zr_iload_n (pc := 33) S dX12_tally_33 rfl ?_
    refine zr_iconst (pc := 34) S dX12_tally_34 (by unfold zrI; omega) ?_
    refine zr_iastore (pc := 35) S dX12_tally_35 rfl (Nat.le_of_ble_eq_true rfl) (by omega) (by omega) ?_
    rw [Int.toNat_natCast, TM_ur]
    refine zr_iinc (pc := 36) S dX12_tally_36 rfl (by unfold zrI; omega) (by decide) ?_
    dsimp only [zst1, zst2, zset, zget, zlong]
    refine zr_goto (pc := 39) (tgt := 23) S dX12_tally_39 (by decide) ?_
    exact l
theorem tl1 {E : zE} {X : zX} {Qp : Option zV → zM → Prop} {M : zM} {R : Nat → Int} {s : Int} (S : zS (zg E) X cX12_tally 3 wzX12_tally RX12 none)
    (k : ∀ (G : Nat → Int), (∀ y : Nat, y < 9 → G y = 0) → zK (zg E) rmX12_tally 3 (Qp, 0, 0) X (0, 0) 21 [some (zR 180), some (zI s), some (zI 9)] [] (TM M G R)) : ∀ (m i : Nat) (G : Nat → Int), m + i = 9 → (∀ y : Nat, y < i → G y = 0) → zK (zg E) rmX12_tally 3 (Qp, 0, 0) X (0, 0) 2 [some (zR 180), some (zI s), some (zI i)] [] (TM M G R) := by
  intro m
  induction m with
  | zero =>
    intro i G hi hG
    obtain rfl : i = 9 := by omega
    have kk := k G (fun y hy => hG y hy)
    refine zr_iload_n (pc := 2) S dX12_tally_2 rfl ?_
    refine zr_bipush (pc := 3) S dX12_tally_3 ⟨by unfold zrI; omega, by decide⟩ ?_
    refine zr_icmp_gt (pc := 5) (tgt := 21) S dX12_tally_5 (by decide) (fun c5 => ?_) (fun c5 => absurd c5 (by omega))
    exact kk
  | succ m ih =>
    intro i G hi hG
    have l := ih (i + 1) (rUp G i 0) (by omega) (fun y hy => by
      by_cases e : y = i
      · rw [e, rUp_e]
      · rw [rUp_o e, hG y (by omega)])
    rw [Int.natCast_add, Int.natCast_one] at l
    refine zr_iload_n (pc := 2) S dX12_tally_2 rfl ?_
    refine zr_bipush (pc := 3) S dX12_tally_3 ⟨by unfold zrI; omega, by decide⟩ ?_
    refine zr_icmp_gt (pc := 5) (tgt := 21) S dX12_tally_5 (by decide) (fun c5 => absurd c5 (by omega)) (fun c5 => ?_)
    refine zr_aload_n (pc := 8) S dX12_tally_8 rfl ?_
    refine zr_getR (pc := 9) S fX12_tally_36 dX12_tally_9 rfl (Nat.le_of_ble_eq_true rfl) rfl ?_
    refine zr_iload_n (pc := 12) S dX12_tally_12 rfl ?_
    refine zr_lconst0 (pc := 13) S dX12_tally_13 ?_
    refine zr_lastore (pc := 14) S dX12_tally_14 rfl (Nat.le_of_ble_eq_true rfl) (by omega) (by omega) ?_
    rw [Int.toNat_natCast, TM_ug]
    refine zr_iinc (pc := 15) S dX12_tally_15 rfl (by unfold zrI; omega) (by decide) ?_
    dsimp only [zst1, zst2, zset, zget, zlong]
    refine zr_goto (pc := 18) (tgt := 2) S dX12_tally_18 (by decide) ?_
    exact l
theorem vv_low {M : zM} (s m : Int) : lowOf (vv M) s m = lowOf (vm M) s m ∧ highOf (vv M) s m = highOf (vm M) s m := by
  unfold lowOf highOf worn
  rw [vv_o (by decide), vv_o (by decide), vv_o (by decide), vv_o (by decide)]
  exact ⟨rfl, rfl⟩
theorem vv_ICs {M : zM} (hs : ICs (vm M)) : ICs (vv M) := by
  unfold ICs at *
  rw [vv_o (by decide), vv_o (by decide), vv_o (by decide), vv_o (by decide), vv_o (by decide), vv_o (by decide), vv_o (by decide)]
  exact hs
set_option maxRecDepth 20000 in
def sp_X12_tally (as : List zV) (M : zM) (Q : Option zV → zM → Prop) : Prop := ∃ (s : Int), as = [zR 180, zI s] ∧ (ICs (vm M)) ∧ (ICg (vv M)) ∧ (ICk (M 181)) ∧ (-1 ≤ M 180 16) ∧ (0 ≤ s) ∧ (s < 8) ∧ (∀ G R : Nat → Int, (∀ k, k < 9 → G k = cnt3 (vv M) s (ocG k)) → Q none (TM M G R))
theorem us_X12_tally {s : Int} {M : zM} {Q : Option zV → zM → Prop} (hs : ICs (vm M)) (hg : ICg (vv M)) (hk : ICk (M 181)) (hm : -1 ≤ M 180 16) (h0 : 0 ≤ s) (h1 : s < 8) (hQ : ∀ G R : Nat → Int, (∀ k, k < 9 → G k = cnt3 (vv M) s (ocG k)) → Q none (TM M G R)) : sp_X12_tally [zR 180, zI s] M Q := ⟨s, rfl, hs, hg, hk, hm, h0, h1, hQ⟩
set_option maxRecDepth 20000 in
set_option maxHeartbeats 4000000 in
theorem m_X12_tally (l : Launch) : zC l yX12_tally wzX12_tally rmX12_tally sp_X12_tally := by
  refine zMet.of RX12 (by decide +kernel) rfl rfl ?_
  intro E X as M Qp hX S hsp
  obtain ⟨s, rfl, hs, hg, hk, hm, h0, h1, hQ⟩ := hsp
  refine ⟨Nat.le_of_ble_eq_true rfl, ?_⟩
  dsimp only [zpad, zargs]
  have hsv := vv_ICs hs
  have s0 := span_r hs h0 h1 (m := 0) (by omega) (by omega)
  have s1 := span_r hs h0 h1 (m := 1) (by omega) (by omega)
  have s2 := span_r hs h0 h1 (m := 2) (by omega) (by omega)
  obtain ⟨n, hn⟩ : ∃ n : Nat, highOf (vm M) s 2 + 1 - lowOf (vm M) s 2 = n := ⟨(highOf (vm M) s 2 + 1 - lowOf (vm M) s 2).toNat, by omega⟩
  have heq : ∀ r, heardR (vv M) r = heardR (vm M) r := fun r => by unfold heardR; rw [vv_o (by decide)]
  have k5 : ∀ (G R : Nat → Int), (∀ y : Nat, y < 9 → G y = 0) → (∀ y : Nat, y ≤ 100 → R y = hpN (vm M) (lowOf (vm M) s 2) y n) → zK (zg E) rmX12_tally 3 (Qp, 0, 0) X (0, 0) 114 [some (zR 180), some (zI s), some (zI 101)] [] (TM M G R) := by
    intro G R hG hR
    have e0 : ∀ m : Int, endM (vm (TM M G R)) s m 0 = lowOf (vm M) s m := fun m => by unfold endM; rw [if_pos rfl, ag_lowOf (TM_vm M G R)]
    have e1 : ∀ m : Int, endM (vm (TM M G R)) s m 1 = highOf (vm M) s m := fun m => by unfold endM; rw [if_neg (by decide), ag_highOf (TM_vm M G R)]
    have hBP : BP (vv M) (TM M G R) (lowOf (vm M) s 2) (highOf (vm M) s 2) := by
      refine ⟨TM_vv M G R, hg, hsv, by rw [TM_o (by decide)]; exact hk, by rw [TM_o (by decide)]; exact hm, by omega, fun c0 c1 q0 q1 q2 => ?_, fun x hx => ?_⟩
      · have er : rcN (vv M) (lowOf (vm M) s 2) (highOf (vm M) s 2) c0 c1 = rcN (vm M) (lowOf (vm M) s 2) (highOf (vm M) s 2) c0 c1 := by unfold rcN; simp only [heq]
        rw [er, ← hp_rc (by omega) (by omega) (by omega) q1, TM_r, hR _ (by omega), hR _ (by omega), hn, Int.toNat_natCast, show (((c1 + 1).toNat : Nat) : Int) = c1 + 1 by omega, show ((c0.toNat : Nat) : Int) = c0 by omega]
      · have := hp_r (vm M) (lowOf (vm M) s 2) x n
        rw [TM_r, hR x hx]
        omega
    have fin : ∀ H : Nat → Int, (∀ k, k < 9 → H k = TM M G R 187 k + bxS (vv M) (lowOf (vm M) s 2) (highOf (vm M) s 2) (fun w b r => gw (vv M) (inG (vv M) w b r) 9 0) k (lowOf (vm M) s 0) (highOf (vm M) s 0) (lowOf (vm M) s 1) (highOf (vm M) s 1) 0 99) → Qp none (zrow (TM M G R) 187 H) := by
      intro H hH
      have em : zrow (TM M G R) 187 H = TM M H R := by
        funext k
        unfold TM zrow
        by_cases h : k = 187
        · subst h; rfl
        · rw [if_neg h]
          by_cases h2 : k = 186
          · rw [if_pos h2, if_pos h2]
          · rw [if_neg h2, if_neg h2, if_neg h, if_neg h]
      rw [em]
      refine hQ H R (fun k hk9 => ?_)
      have c := bxS_cnt hg hsv h0 h1 hk9
      rw [(vv_low s 2).1, (vv_low s 2).2, (vv_low s 0).1, (vv_low s 0).2, (vv_low s 1).1, (vv_low s 1).2] at c
      rw [hH k hk9, TM_g, hG k hk9, ← c, Int.zero_add]
      rfl
    refine zr_aload_n (pc := 114) S dX12_tally_114 rfl ?_
    refine zr_iconst (pc := 115) S dX12_tally_115 (by unfold zrI; omega) ?_
    refine zr_aload_n (pc := 116) S dX12_tally_116 rfl ?_
    refine zr_iload_n (pc := 117) S dX12_tally_117 rfl ?_
    refine zr_iconst (pc := 118) S dX12_tally_118 (by unfold zrI; omega) ?_
    refine zr_iconst (pc := 119) S dX12_tally_119 (by unfold zrI; omega) ?_
    refine zr_invV (pc := 120) S [zI _, zI _, zI _] (m_X12_endOf _) kX12_tally_128 dX12_tally_120 rfl (Nat.le_of_ble_eq_true rfl) rfl (Nat.le_of_ble_eq_true rfl) ⟨Nat.le_of_ble_eq_true rfl, Nat.le_of_ble_eq_true rfl⟩ (us_X12_endOf ((TM_vm M G R).s hs) h0 h1 (by decide) (by decide) (Or.inl rfl) ?_)
    dsimp only [zaft, Option.toList, List.cons_append, List.nil_append, Nat.add_zero]
    rw [e0]
    refine zr_aload_n (pc := 123) S dX12_tally_123 rfl ?_
    refine zr_iload_n (pc := 124) S dX12_tally_124 rfl ?_
    refine zr_iconst (pc := 125) S dX12_tally_125 (by unfold zrI; omega) ?_
    refine zr_iconst (pc := 126) S dX12_tally_126 (by unfold zrI; omega) ?_
    refine zr_invV (pc := 127) S [zI _, zI _, zI _] (m_X12_endOf _) kX12_tally_128 dX12_tally_127 rfl (Nat.le_of_ble_eq_true rfl) rfl (Nat.le_of_ble_eq_true rfl) ⟨Nat.le_of_ble_eq_true rfl, Nat.le_of_ble_eq_true rfl⟩ (us_X12_endOf ((TM_vm M G R).s hs) h0 h1 (by decide) (by decide) (Or.inr rfl) ?_)
    dsimp only [zaft, Option.toList, List.cons_append, List.nil_append, Nat.add_zero]
    rw [e1]
    refine zr_aload_n (pc := 130) S dX12_tally_130 rfl ?_
    refine zr_iload_n (pc := 131) S dX12_tally_131 rfl ?_
    refine zr_iconst (pc := 132) S dX12_tally_132 (by unfold zrI; omega) ?_
    refine zr_iconst (pc := 133) S dX12_tally_133 (by unfold zrI; omega) ?_
    refine zr_invV (pc := 134) S [zI _, zI _, zI _] (m_X12_endOf _) kX12_tally_128 dX12_tally_134 rfl (Nat.le_of_ble_eq_true rfl) rfl (Nat.le_of_ble_eq_true rfl) ⟨Nat.le_of_ble_eq_true rfl, Nat.le_of_ble_eq_true rfl⟩ (us_X12_endOf ((TM_vm M G R).s hs) h0 h1 (by decide) (by decide) (Or.inl rfl) ?_)
    dsimp only [zaft, Option.toList, List.cons_append, List.nil_append, Nat.add_zero]
    rw [e0]
    refine zr_aload_n (pc := 137) S dX12_tally_137 rfl ?_
    refine zr_iload_n (pc := 138) S dX12_tally_138 rfl ?_
    refine zr_iconst (pc := 139) S dX12_tally_139 (by unfold zrI; omega) ?_
    refine zr_iconst (pc := 140) S dX12_tally_140 (by unfold zrI; omega) ?_
    refine zr_invV (pc := 141) S [zI _, zI _, zI _] (m_X12_endOf _) kX12_tally_128 dX12_tally_141 rfl (Nat.le_of_ble_eq_true rfl) rfl (Nat.le_of_ble_eq_true rfl) ⟨Nat.le_of_ble_eq_true rfl, Nat.le_of_ble_eq_true rfl⟩ (us_X12_endOf ((TM_vm M G R).s hs) h0 h1 (by decide) (by decide) (Or.inr rfl) ?_)
    dsimp only [zaft, Option.toList, List.cons_append, List.nil_append, Nat.add_zero]
    rw [e1]
    refine zr_iconst (pc := 144) S dX12_tally_144 (by unfold zrI; omega) ?_
    refine zr_bipush (pc := 145) S dX12_tally_145 ⟨by unfold zrI; omega, by decide⟩ ?_
    refine zr_invV (pc := 147) S [zI _, zI _, zI _, zI _, zI _, zI _, zI _] (m_X12_box _ 18) kX12_tally_240 dX12_tally_147 rfl (Nat.le_of_ble_eq_true rfl) rfl (Nat.le_of_ble_eq_true rfl) ⟨Nat.le_of_ble_eq_true rfl, Nat.le_of_ble_eq_true rfl⟩ (us_X12_box (f := 9) (g := 0) (V := vv M) (C := 0) (by omega) hBP (by omega) (by omega) (by omega) (by omega) (fun k hk9 => by rw [TM_g, hG k hk9]; omega) (by omega) ?_)
    dsimp only [zaft, Option.toList, List.cons_append, List.nil_append, Nat.add_zero]
    intro H hH
    have ff := fin H hH
    exact zr_vret (pc := 150) S dX12_tally_150 rfl ⟨Nat.le_refl _, Nat.le_refl _⟩ (ff)
  have k4 : ∀ (G : Nat → Int), (∀ y : Nat, y < 9 → G y = 0) → ∀ (R : Nat → Int) (l2 : Int), (∀ y : Nat, y ≤ 100 → R y = hcN (vm M) (lowOf (vm M) s 2) y n) → zK (zg E) rmX12_tally 3 (Qp, 0, 0) X (0, 0) 83 [some (zR 180), some (zI s), some (zI l2)] [] (TM M G R) := by
    intro G hG R l2 hR
    have z := hp_0 (vm M) (lowOf (vm M) s 2) n
    have l := tl4 (E := E) (X := X) (Qp := Qp) (M := M) (V := vm M) (G := G) (s := s) (lo := lowOf (vm M) s 2) (n := n) S (by omega) (fun R hR => k5 G R hG hR) 100 1 R (by omega) (by omega) (fun y hy => by
      obtain rfl : y = 0 := by omega
      rw [hR 0 (by omega)]
      show hcN (vm M) (lowOf (vm M) s 2) 0 n = hpN (vm M) (lowOf (vm M) s 2) 0 n
      rw [z.1, z.2]) (fun y _ hy => hR y hy)
    refine zr_iconst (pc := 83) S dX12_tally_83 (by unfold zrI; omega) ?_
    refine zr_istore_n (pc := 84) S 2 dX12_tally_84 rfl (by decide) ?_
    dsimp only [zst1, zst2, zset, zget, zlong]
    exact l
  have k3 : ∀ (G : Nat → Int), (∀ y : Nat, y < 9 → G y = 0) → ∀ (R : Nat → Int), (∀ y : Nat, y ≤ 100 → R y = 0) → zK (zg E) rmX12_tally 3 (Qp, 0, 0) X (0, 0) 42 [some (zR 180), some (zI s), some (zI 101)] [] (TM M G R) := by
    intro G hG R hR
    have e0 : endM (vm (TM M G R)) s 2 0 = lowOf (vm M) s 2 := by unfold endM; rw [if_pos rfl, ag_lowOf (TM_vm M G R)]
    have l := tl3 (E := E) (X := X) (Qp := Qp) (M := M) (G := G) (n := n) S hs h0 h1 hn (k4 G hG) n 0 R (by omega) (fun y hy => by rw [hR y hy]; rfl)
    rw [show lowOf (vm M) s 2 + ((0 : Nat) : Int) = lowOf (vm M) s 2 by omega] at l
    refine zr_aload_n (pc := 42) S dX12_tally_42 rfl ?_
    refine zr_iload_n (pc := 43) S dX12_tally_43 rfl ?_
    refine zr_iconst (pc := 44) S dX12_tally_44 (by unfold zrI; omega) ?_
    refine zr_iconst (pc := 45) S dX12_tally_45 (by unfold zrI; omega) ?_
    refine zr_invV (pc := 46) S [zI _, zI _, zI _] (m_X12_endOf _) kX12_tally_128 dX12_tally_46 rfl (Nat.le_of_ble_eq_true rfl) rfl (Nat.le_of_ble_eq_true rfl) ⟨Nat.le_of_ble_eq_true rfl, Nat.le_of_ble_eq_true rfl⟩ (us_X12_endOf ((TM_vm M G R).s hs) h0 h1 (by decide) (by decide) (Or.inl rfl) ?_)
    dsimp only [zaft, Option.toList, List.cons_append, List.nil_append, Nat.add_zero]
    rw [e0]
    refine zr_istore_n (pc := 49) S 2 dX12_tally_49 rfl (by decide) ?_
    dsimp only [zst1, zst2, zset, zget, zlong]
    exact l
  have k2 : ∀ (G : Nat → Int), (∀ y : Nat, y < 9 → G y = 0) → zK (zg E) rmX12_tally 3 (Qp, 0, 0) X (0, 0) 21 [some (zR 180), some (zI s), some (zI 9)] [] (TM M G (M 186)) := by
    intro G hG
    have l := tl2 (E := E) (X := X) (Qp := Qp) (M := M) (G := G) (s := s) S (k3 G hG) 101 0 (M 186) (by omega) (fun y hy => absurd hy (by omega))
    refine zr_iconst (pc := 21) S dX12_tally_21 (by unfold zrI; omega) ?_
    refine zr_istore_n (pc := 22) S 2 dX12_tally_22 rfl (by decide) ?_
    dsimp only [zst1, zst2, zset, zget, zlong]
    exact l
  have l := tl1 (E := E) (X := X) (Qp := Qp) (M := M) (R := M 186) (s := s) S k2 9 0 (M 187) (by omega) (fun y hy => absurd hy (by omega))
  rw [TM_s] at l
  refine zr_iconst (pc := 0) S dX12_tally_0 (by unfold zrI; omega) ?_
  refine zr_istore_n (pc := 1) S 2 dX12_tally_1 rfl (by decide) ?_
  dsimp only [zst1, zst2, zset, zget, zlong]
  exact l
end
