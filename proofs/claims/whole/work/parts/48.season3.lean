section
/-- only the next turn's tubes differ -/
def hOff (M U : zM) (t : Nat) : Prop := (∀ k, k ≠ 60 → U k = M k) ∧ (∀ j, (j < t * 8 + 8 ∨ t * 8 + 16 ≤ j) → U 60 j = M 60 j)
theorem hOff.up {M U : zM} {t k : Nat} {v : Int} (h : hOff M U t) (hk : k < 8) : hOff M (zup U 60 (t * 8 + 8 + k) v) t := ⟨fun k' hk' => by rw [zup_o k' hk']; exact h.1 k' hk', fun j hj => by rw [zup_j (by omega)]; exact h.2 j hj⟩
theorem lp_X5_sell2 {E : zE} {X : zX} {Qp : Option zV → zM → Prop} {M : zM} {t b : Nat} {g : Nat → Int} {l5 : Option zV} (S : zS (zg E) X cX5_sell 9 wzX5_sell RX5 none) (ht : t < 3) (h5 : b < 5) (hb : ICb M) (hg : ∀ k, k < 8 → 0 ≤ g k ∧ g k ≤ 20) (hQ : ∀ (r : Option zV) (M' : zM), (r = none ∧ hOff M M' t ∧ ∀ k, k < 8 → M' 60 (t * 8 + 8 + k) = addC M b g (M 32 b).toNat k) → Qp r M') : ∀ (m i : Nat) (U : zM) (u8 : Option zV), (m : Int) + i = M 32 b → hOff M U t → (∀ k, k < 8 → U 60 (t * 8 + 8 + k) = addC M b g i k) → zK (zg E) rmX5_sell 9 (Qp, 0, 0) X (0, 0) 69 [some (zR 59), some (zI t), some (zI b), some (zI ((t : Int) * 8)), some (zI ((t : Int) * 8 + 8)), l5, none, some (zI i), u8] [] U := by
  have c := hb.2.2 b h5
  have eb : (b : Int).toNat = b := Int.toNat_natCast b
  intro m
  induction m with
  | zero =>
    intro i U u8 hi hU hA
    have e : i = (M 32 b).toNat := by omega
    have ec : U 32 = M 32 := hU.1 _ (by decide)
    have q := hQ none U ⟨rfl, hU, by rw [← e]; exact hA⟩
    refine zr_iload (pc := 69) S dX5_sell_69 rfl ?_
    refine zr_aload_n (pc := 71) S dX5_sell_71 rfl ?_
    refine zr_getR (pc := 72) S fX5_sell_28 dX5_sell_72 rfl (Nat.le_of_ble_eq_true rfl) rfl ?_
    refine zr_getR (pc := 75) S fX5_sell_84 dX5_sell_75 rfl (Nat.le_of_ble_eq_true rfl) rfl ?_
    refine zr_iload_n (pc := 78) S dX5_sell_78 rfl ?_
    refine zr_iaload (pc := 79) S dX5_sell_79 rfl (Nat.le_of_ble_eq_true rfl) (by omega) (by omega) ?_
    rw [eb, ec]
    refine zr_icmp_ge (pc := 80) (tgt := 132) S dX5_sell_80 (by decide) (fun c80 => ?_) (fun c80 => absurd c80 (by omega))
    exact zr_vret (pc := 132) S dX5_sell_132 rfl ⟨Nat.le_refl _, Nat.le_refl _⟩ (q)
  | succ m ih =>
    intro i U u8 hi hU hA
    have ec : U 32 = M 32 := hU.1 _ (by decide)
    have ed : U 31 = M 31 := hU.1 _ (by decide)
    have ci := c.2.2.2.2.2.2 i (by omega)
    have ej : ((b : Int) * 4 + i).toNat = b * 4 + i := by omega
    obtain ⟨k, hk⟩ : ∃ k : Nat, M 31 (b * 4 + i) = k := ⟨(M 31 (b * 4 + i)).toNat, by omega⟩
    rw [hk] at ci
    have ek : ((t : Int) * 8 + 8 + (k : Int)).toNat = t * 8 + 8 + k := by omega
    have ea := hA k (by omega)
    have er := addC_r (M := M) (b := b) hg i k (by omega)
    have q := ih (i + 1) (zup U 60 (t * 8 + 8 + k) (min 20 (addC M b g i k + 1))) (some (zI k)) (by omega) (hU.up (by omega)) (fun k' hk' => by
      simp only [addC]
      rw [hk, Int.toNat_natCast]
      by_cases e : k' = k
      · rw [e, zup_e, if_pos rfl]
      · rw [zup_j (by omega), if_neg e]; exact hA k' hk')
    refine zr_iload (pc := 69) S dX5_sell_69 rfl ?_
    refine zr_aload_n (pc := 71) S dX5_sell_71 rfl ?_
    refine zr_getR (pc := 72) S fX5_sell_28 dX5_sell_72 rfl (Nat.le_of_ble_eq_true rfl) rfl ?_
    refine zr_getR (pc := 75) S fX5_sell_84 dX5_sell_75 rfl (Nat.le_of_ble_eq_true rfl) rfl ?_
    refine zr_iload_n (pc := 78) S dX5_sell_78 rfl ?_
    refine zr_iaload (pc := 79) S dX5_sell_79 rfl (Nat.le_of_ble_eq_true rfl) (by omega) (by omega) ?_
    rw [eb, ec]
    refine zr_icmp_ge (pc := 80) (tgt := 132) S dX5_sell_80 (by decide) (fun c80 => absurd c80 (by omega)) (fun c80 => ?_)
    refine zr_aload_n (pc := 83) S dX5_sell_83 rfl ?_
    refine zr_getR (pc := 84) S fX5_sell_28 dX5_sell_84 rfl (Nat.le_of_ble_eq_true rfl) rfl ?_
    refine zr_getR (pc := 87) S fX5_sell_87 dX5_sell_87 rfl (Nat.le_of_ble_eq_true rfl) rfl ?_
    refine zr_iload_n (pc := 90) S dX5_sell_90 rfl ?_
    refine zr_iconst (pc := 91) S dX5_sell_91 (by unfold zrI; omega) ?_
    refine zr_imul (pc := 92) S dX5_sell_92 (by unfold zrI; omega) ?_
    refine zr_iload (pc := 93) S dX5_sell_93 rfl ?_
    refine zr_iadd (pc := 95) S dX5_sell_95 (by unfold zrI; omega) ?_
    refine zr_iaload (pc := 96) S dX5_sell_96 rfl (Nat.le_of_ble_eq_true rfl) (by omega) (by omega) ?_
    rw [ej, ed, hk]
    refine zr_istore (pc := 97) S dX5_sell_97 (by decide) ?_
    dsimp only [zst1, zst2, zset, zget, zlong]
    refine zr_aload_n (pc := 99) S dX5_sell_99 rfl ?_
    refine zr_getR (pc := 100) S fX5_sell_9 dX5_sell_100 rfl (Nat.le_of_ble_eq_true rfl) rfl ?_
    refine zr_iload (pc := 103) S dX5_sell_103 rfl ?_
    refine zr_iload (pc := 105) S dX5_sell_105 rfl ?_
    refine zr_iadd (pc := 107) S dX5_sell_107 (by unfold zrI; omega) ?_
    refine zr_bipush (pc := 108) S dX5_sell_108 ⟨by unfold zrI; omega, by decide⟩ ?_
    refine zr_aload_n (pc := 110) S dX5_sell_110 rfl ?_
    refine zr_getR (pc := 111) S fX5_sell_9 dX5_sell_111 rfl (Nat.le_of_ble_eq_true rfl) rfl ?_
    refine zr_iload (pc := 114) S dX5_sell_114 rfl ?_
    refine zr_iload (pc := 116) S dX5_sell_116 rfl ?_
    refine zr_iadd (pc := 118) S dX5_sell_118 (by unfold zrI; omega) ?_
    refine zr_iaload (pc := 119) S dX5_sell_119 rfl (Nat.le_of_ble_eq_true rfl) (by omega) (by omega) ?_
    rw [ek, ea]
    refine zr_iconst (pc := 120) S dX5_sell_120 (by unfold zrI; omega) ?_
    refine zr_iadd (pc := 121) S dX5_sell_121 (by unfold zrI; omega) ?_
    refine zr_mmin (pc := 122) S kX5_sell_135 dX5_sell_122 (Nat.le_of_ble_eq_true rfl) (Nat.le_of_ble_eq_true rfl) ⟨Nat.le_of_ble_eq_true rfl, Nat.le_of_ble_eq_true rfl⟩ ?_
    refine zr_iastore (pc := 125) S dX5_sell_125 rfl (Nat.le_of_ble_eq_true rfl) (by omega) (by omega) ?_
    rw [ek]
    refine zr_iinc (pc := 126) S dX5_sell_126 rfl (by unfold zrI; omega) (by decide) ?_
    dsimp only [zst1, zst2, zset, zget, zlong]
    refine zr_goto (pc := 129) (tgt := 69) S dX5_sell_129 (by decide) ?_
    exact q
theorem lp_X5_sell1 {E : zE} {X : zX} {Qp : Option zV → zM → Prop} {M : zM} {t b : Nat} {x : Nat → Nat} {row : Int} (S : zS (zg E) X cX5_sell 9 wzX5_sell RX5 none) (ht : t < 3) (h5 : b < 5) (hb : ICb M) (w : 0 ≤ row ∧ row ≤ 175921860444160) (hsh : ∀ k, k < 8 → shr row k = x k) (hx : ∀ k, k < 8 → x k ≤ 20) (hh : ∀ k, k < 8 → (x k : Int) ≤ M 60 (t * 8 + k) ∧ M 60 (t * 8 + k) ≤ 20) (hQ : ∀ (r : Option zV) (M' : zM), (r = none ∧ hOff M M' t ∧ ∀ k, k < 8 → M' 60 (t * 8 + 8 + k) = sold M b (nh (M 60) (t * 8)) x k) → Qp r M') : ∀ (m i : Nat) (U : zM) (u8 : Option zV), m + i = 8 → hOff M U t → (∀ k, k < i → U 60 (t * 8 + 8 + k) = lessC (nh (M 60) (t * 8)) x k) → zK (zg E) rmX5_sell 9 (Qp, 0, 0) X (0, 0) 26 [some (zR 59), some (zI t), some (zI b), some (zI ((t : Int) * 8)), some (zI ((t : Int) * 8 + 8)), some (zL (row)), none, some (zI i), u8] [] U := by
  intro m
  induction m with
  | zero =>
    intro i U u8 hi hU hA
    have e : i = 8 := by omega
    subst e
    have q := fun u8 => lp_X5_sell2 (l5 := some (zL (row))) (g := lessC (nh (M 60) (t * 8)) x) S ht h5 hb (fun k hk => by
      have := hh k hk
      unfold lessC nh
      simp only [hk, if_true]
      omega) hQ (M 32 b).toNat 0 U u8 (by have := hb.2.2 b h5; omega) hU hA
    refine zr_iload (pc := 26) S dX5_sell_26 rfl ?_
    refine zr_bipush (pc := 28) S dX5_sell_28 ⟨by unfold zrI; omega, by decide⟩ ?_
    refine zr_icmp_ge (pc := 30) (tgt := 66) S dX5_sell_30 (by decide) (fun c30 => ?_) (fun c30 => absurd c30 (by omega))
    refine zr_iconst (pc := 66) S dX5_sell_66 (by unfold zrI; omega) ?_
    refine zr_istore (pc := 67) S dX5_sell_67 (by decide) ?_
    dsimp only [zst1, zst2, zset, zget, zlong]
    exact q _
  | succ m ih =>
    intro i U u8 hi hU hA
    have hi8 : i < 8 := by omega
    have h9 := hh i hi8
    have e1 : ((t : Int) * 8 + i).toNat = t * 8 + i := by omega
    have e2 : ((t : Int) * 8 + 8 + i).toNat = t * 8 + 8 + i := by omega
    have e3 : U 60 (t * 8 + i) = M 60 (t * 8 + i) := hU.2 _ (by omega)
    have e4 := hsh i hi8
    have hsub : zrI (M 60 (t * 8 + i) - x i) := by unfold zrI; omega
    have q := ih (i + 1) (zup U 60 (t * 8 + 8 + i) (M 60 (t * 8 + i) - x i)) u8 (by omega) (hU.up hi8) (fun k hk => by
      by_cases e : k = i
      · rw [e, zup_e]
        unfold lessC nh
        simp only [hi8, if_true]
      · rw [zup_j (by omega)]; exact hA k (by omega))
    refine zr_iload (pc := 26) S dX5_sell_26 rfl ?_
    refine zr_bipush (pc := 28) S dX5_sell_28 ⟨by unfold zrI; omega, by decide⟩ ?_
    refine zr_icmp_ge (pc := 30) (tgt := 66) S dX5_sell_30 (by decide) (fun c30 => absurd c30 (by omega)) (fun c30 => ?_)
    refine zr_aload_n (pc := 33) S dX5_sell_33 rfl ?_
    refine zr_getR (pc := 34) S fX5_sell_9 dX5_sell_34 rfl (Nat.le_of_ble_eq_true rfl) rfl ?_
    refine zr_iload (pc := 37) S dX5_sell_37 rfl ?_
    refine zr_iload (pc := 39) S dX5_sell_39 rfl ?_
    refine zr_iadd (pc := 41) S dX5_sell_41 (by unfold zrI; omega) ?_
    refine zr_aload_n (pc := 42) S dX5_sell_42 rfl ?_
    refine zr_getR (pc := 43) S fX5_sell_9 dX5_sell_43 rfl (Nat.le_of_ble_eq_true rfl) rfl ?_
    refine zr_iload_n (pc := 46) S dX5_sell_46 rfl ?_
    refine zr_iload (pc := 47) S dX5_sell_47 rfl ?_
    refine zr_iadd (pc := 49) S dX5_sell_49 (by unfold zrI; omega) ?_
    refine zr_iaload (pc := 50) S dX5_sell_50 rfl (Nat.le_of_ble_eq_true rfl) (by omega) (by omega) ?_
    rw [e1, e3]
    refine zr_lload (pc := 51) S dX5_sell_51 rfl ?_
    refine zr_iload (pc := 53) S dX5_sell_53 rfl ?_
    refine zr_invS (pc := 55) S [zL _, zI _] (m_X0_shareOf _) kX5_sell_131 dX5_sell_55 (Nat.le_of_ble_eq_true rfl) ⟨Nat.le_of_ble_eq_true rfl, Nat.le_of_ble_eq_true rfl⟩ (us_X0_shareOf hi8 (by omega) ?_)
    dsimp only [zaft, Option.toList, List.cons_append, List.nil_append, Nat.add_zero]
    rw [e4]
    refine zr_isub (pc := 58) S dX5_sell_58 hsub ?_
    refine zr_iastore (pc := 59) S dX5_sell_59 rfl (Nat.le_of_ble_eq_true rfl) (by omega) (by omega) ?_
    rw [e2]
    refine zr_iinc (pc := 60) S dX5_sell_60 rfl (by unfold zrI; omega) (by decide) ?_
    dsimp only [zst1, zst2, zset, zget, zlong]
    refine zr_goto (pc := 63) (tgt := 26) S dX5_sell_63 (by decide) ?_
    exact q
def sp_X5_sell (as : List zV) (M : zM) (Q : Option zV → zM → Prop) : Prop := ∃ (t b : Nat) (x : Nat → Nat), as = [zR 59, zI t, zI b] ∧ (t < 3) ∧ (b < 5) ∧ (ICb M) ∧ (M 62 (t * 5 + b) = wV x 8) ∧ (∀ k, k < 8 → x k ≤ 20) ∧ (∀ k, k < 8 → (x k : Int) ≤ M 60 (t * 8 + k) ∧ M 60 (t * 8 + k) ≤ 20) ∧ (∀ (r : Option zV) (M' : zM), (r = none ∧ hOff M M' t ∧ ∀ k, k < 8 → M' 60 (t * 8 + 8 + k) = sold M b (nh (M 60) (t * 8)) x k) → Q r M')
theorem us_X5_sell {t b : Nat} {x : Nat → Nat} {M : zM} {Q : Option zV → zM → Prop} (ht : t < 3) (h5 : b < 5) (hb : ICb M) (hr : M 62 (t * 5 + b) = wV x 8) (hx : ∀ k, k < 8 → x k ≤ 20) (hh : ∀ k, k < 8 → (x k : Int) ≤ M 60 (t * 8 + k) ∧ M 60 (t * 8 + k) ≤ 20) (h99 : (∀ (r : Option zV) (M' : zM), (r = none ∧ hOff M M' t ∧ ∀ k, k < 8 → M' 60 (t * 8 + 8 + k) = sold M b (nh (M 60) (t * 8)) x k) → Q r M')) : sp_X5_sell [zR 59, zI t, zI b] M Q := ⟨t, b, x, rfl, ht, h5, hb, hr, hx, hh, h99⟩
set_option maxRecDepth 20000 in
set_option maxHeartbeats 4000000 in
theorem m_X5_sell (l : Launch) : zC l yX5_sell wzX5_sell rmX5_sell sp_X5_sell := by
  refine zMet.of RX5 (by decide +kernel) rfl rfl ?_
  intro E X as M Qp hX S hsp
  obtain ⟨t, b, x, rfl, ht, h5, hb, hr, hx, hh, hQ⟩ := hsp
  refine ⟨Nat.le_of_ble_eq_true rfl, ?_⟩
  dsimp only [zpad, zargs]
  have ej : ((t : Int) * 5 + b).toNat = t * 5 + b := by omega
  have q := fun u8 => lp_X5_sell1 S ht h5 hb (wV_r hx) (shr_wV hx) hx hh hQ 8 0 M u8 (by omega) ⟨fun _ _ => rfl, fun _ _ => rfl⟩ (fun k hk => by omega)
  refine zr_iload_n (pc := 0) S dX5_sell_0 rfl ?_
  refine zr_bipush (pc := 1) S dX5_sell_1 ⟨by unfold zrI; omega, by decide⟩ ?_
  refine zr_imul (pc := 3) S dX5_sell_3 (by unfold zrI; omega) ?_
  refine zr_istore_n (pc := 4) S 3 dX5_sell_4 rfl (by decide) ?_
  dsimp only [zst1, zst2, zset, zget, zlong]
  refine zr_iload_n (pc := 5) S dX5_sell_5 rfl ?_
  refine zr_bipush (pc := 6) S dX5_sell_6 ⟨by unfold zrI; omega, by decide⟩ ?_
  refine zr_iadd (pc := 8) S dX5_sell_8 (by unfold zrI; omega) ?_
  refine zr_istore (pc := 9) S dX5_sell_9 (by decide) ?_
  dsimp only [zst1, zst2, zset, zget, zlong]
  refine zr_aload_n (pc := 11) S dX5_sell_11 rfl ?_
  refine zr_getR (pc := 12) S fX5_sell_18 dX5_sell_12 rfl (Nat.le_of_ble_eq_true rfl) rfl ?_
  refine zr_iload_n (pc := 15) S dX5_sell_15 rfl ?_
  refine zr_iconst (pc := 16) S dX5_sell_16 (by unfold zrI; omega) ?_
  refine zr_imul (pc := 17) S dX5_sell_17 (by unfold zrI; omega) ?_
  refine zr_iload_n (pc := 18) S dX5_sell_18 rfl ?_
  refine zr_iadd (pc := 19) S dX5_sell_19 (by unfold zrI; omega) ?_
  refine zr_laload (pc := 20) S dX5_sell_20 rfl (Nat.le_of_ble_eq_true rfl) (by omega) (by omega) ?_
  rw [ej, hr]
  refine zr_lstore (pc := 21) S dX5_sell_21 (by decide) ?_
  dsimp only [zst1, zst2, zset, zget, zlong]
  refine zr_iconst (pc := 23) S dX5_sell_23 (by unfold zrI; omega) ?_
  refine zr_istore (pc := 24) S dX5_sell_24 (by decide) ?_
  dsimp only [zst1, zst2, zset, zget, zlong]
  exact q _
/-- the rows of a turn, as far as told -/
noncomputable def trm (M : zM) (n : Nat) (h : Nat → Int) (b : Nat) : Int := M 33 b * mxB (chg (cap M h) (val M) (abv M b)) (mostR M n h) (fun x => powM M n + mostR M n (sold M b h x))
theorem trm_r {M : zM} (hb : ICb M) {n : Nat} (hn : n < 3) (h : Nat → Int) {b : Nat} (h5 : b < 5) : (0 ≤ mxB (chg (cap M h) (val M) (abv M b)) (mostR M n h) (fun x => powM M n + mostR M n (sold M b h x)) ∧ mxB (chg (cap M h) (val M) (abv M b)) (mostR M n h) (fun x => powM M n + mostR M n (sold M b h x)) ≤ 10000100000) ∧ (0 ≤ trm M n h b ∧ trm M n h b ≤ 90000900000) := by
  have a := mostR_r hb n (by omega)
  have p := powM_r hb n (by omega)
  have q := Bq_r n (by omega)
  have c := hb.2.2 b h5
  have w := mxB_r (o := chg (cap M h) (val M) (abv M b)) (w := mostR M n h) (c := 10000100000) (f := fun x => powM M n + mostR M n (sold M b h x)) (by have := a h; omega) (fun x => by have := a (sold M b h x); omega)
  have z := zmulr c.2.2.2.2.1 c.2.2.2.2.2.1 w.1 w.2
  exact ⟨w, by unfold trm; omega⟩
theorem lp_X5_mean {E : zE} {X : zX} {Qp : Option zV → zM → Prop} {M U : zM} {t n : Nat} {h : Nat → Int} (S : zS (zg E) X cX5_meanOf 13 wzX5_meanOf RX5 (some .long)) (ht : t < 3) (hn : n < 3) (hb : ICb M) (ag : AG M U) (hr : ∀ b, b < (M 1 5).toNat → rowOk (U 62 (t * 5 + b)) (chg (cap M h) (val M) (abv M b))) (hh : ∀ k, k < 8 → 0 ≤ h k ∧ h k ≤ 20) (hv : ∀ b x, b < (M 1 5).toNat → chg (cap M h) (val M) (abv M b) = some x → U 64 ((t * 5 + b) * 3 + n) = mostR M n (sold M b h x)) (hQ : Qp (some (zL (mostR M (n + 1) h))) U) : ∀ (m b : Nat) (u10 u11 u12 : Option zV), (m : Int) + b = M 1 5 → zK (zg E) rmX5_meanOf 13 (Qp, 0, 0) X (0, 0) 28 [some (zR 59), some (zI t), some (zI ((n : Int) + 1)), some (zL (mostR M n h)), none, some (zL (powM M n)), none, some (zL (sumU (trm M n h) b)), none, some (zI b), u10, u11, u12] [] U := by
  have h1 := hb.1
  have e2 : U 1 = M 1 := ag _ (by decide)
  have e3 : U 33 = M 33 := ag _ (by decide)
  intro m
  induction m with
  | zero =>
    intro b u10 u11 u12 hm
    have e : b = (M 1 5).toNat := by omega
    have ev : sumU (trm M n h) b = mostR M (n + 1) h := by
      simp only [mostR]
      rw [← e]
      rfl
    rw [ev]
    refine zr_iload (pc := 28) S dX5_meanOf_28 rfl ?_
    refine zr_aload_n (pc := 30) S dX5_meanOf_30 rfl ?_
    refine zr_getR (pc := 31) S fX5_meanOf_28 dX5_meanOf_31 rfl (Nat.le_of_ble_eq_true rfl) rfl ?_
    refine zr_getI (pc := 34) S fX5_meanOf_70 dX5_meanOf_34 rfl (Nat.le_of_ble_eq_true rfl) rfl ?_
    rw [e2]
    refine zr_icmp_ge (pc := 37) (tgt := 113) S dX5_meanOf_37 (by decide) (fun c37 => ?_) (fun c37 => absurd c37 (by omega))
    refine zr_lload (pc := 113) S dX5_meanOf_113 rfl ?_
    exact zr_lret (pc := 115) S dX5_meanOf_115 rfl ⟨Nat.le_refl _, Nat.le_refl _⟩ (hQ)
  | succ m ih =>
    intro b u10 u11 u12 hm
    have hb5 : b < 5 := by omega
    have e : (b : Int).toNat = b := Int.toNat_natCast b
    have ej : ((t : Int) * 5 + b).toNat = t * 5 + b := by omega
    have es : (((t : Int) * 5 + b) * 3 + ((n : Int) + 1) - 1).toNat = (t * 5 + b) * 3 + n := by omega
    have a := mostR_r hb n (by omega)
    have p := powM_r hb n (by omega)
    have qn := Bq_r n (by omega)
    have tr := trm_r hb hn h hb5
    have sr := sumU_r (f := trm M n h) (c := 90000900000) (N := 5) (fun i hi => (trm_r hb hn h hi).2) b (by omega)
    have c := hb.2.2 b hb5
    have q := fun u10 u11 u12 => ih (b + 1) u10 u11 u12 (by omega)
    simp only [sumU] at q
    have et : trm M n h b = M 33 b * mxB (chg (cap M h) (val M) (abv M b)) (mostR M n h) (fun x => powM M n + mostR M n (sold M b h x)) := rfl
    have hrb := hr b (by omega)
    cases hc : chg (cap M h) (val M) (abv M b) with
    | none =>
      rw [hc] at hrb et tr
      have hrb2 : U 62 (t * 5 + b) = -1 := hrb
      have et2 : trm M n h b = M 33 b * mostR M n h := et
      have am := a h
      rw [et2] at q tr
      refine zr_iload (pc := 28) S dX5_meanOf_28 rfl ?_
      refine zr_aload_n (pc := 30) S dX5_meanOf_30 rfl ?_
      refine zr_getR (pc := 31) S fX5_meanOf_28 dX5_meanOf_31 rfl (Nat.le_of_ble_eq_true rfl) rfl ?_
      refine zr_getI (pc := 34) S fX5_meanOf_70 dX5_meanOf_34 rfl (Nat.le_of_ble_eq_true rfl) rfl ?_
      rw [e2]
      refine zr_icmp_ge (pc := 37) (tgt := 113) S dX5_meanOf_37 (by decide) (fun c37 => absurd c37 (by omega)) (fun c37 => ?_)
      refine zr_lload_n (pc := 40) S dX5_meanOf_40 rfl ?_
      refine zr_lstore (pc := 41) S dX5_meanOf_41 (by decide) ?_
      dsimp only [zst1, zst2, zset, zget, zlong]
      refine zr_iload_n (pc := 43) S dX5_meanOf_43 rfl ?_
      refine zr_iconst (pc := 44) S dX5_meanOf_44 (by unfold zrI; omega) ?_
      refine zr_imul (pc := 45) S dX5_meanOf_45 (by unfold zrI; omega) ?_
      refine zr_iload (pc := 46) S dX5_meanOf_46 rfl ?_
      refine zr_iadd (pc := 48) S dX5_meanOf_48 (by unfold zrI; omega) ?_
      refine zr_istore (pc := 49) S dX5_meanOf_49 (by decide) ?_
      dsimp only [zst1, zst2, zset, zget, zlong]
      refine zr_aload_n (pc := 51) S dX5_meanOf_51 rfl ?_
      refine zr_getR (pc := 52) S fX5_meanOf_18 dX5_meanOf_52 rfl (Nat.le_of_ble_eq_true rfl) rfl ?_
      refine zr_iload (pc := 55) S dX5_meanOf_55 rfl ?_
      refine zr_laload (pc := 57) S dX5_meanOf_57 rfl (Nat.le_of_ble_eq_true rfl) (by omega) (by omega) ?_
      rw [ej, hrb2]
      refine zr_ldc2 (pc := 58) S (-1) dX5_meanOf_58 (List.mem_cons_of_mem _ (zWi_7 _ (List.mem_of_getElem? (i := 34) rfl))) (by unfold zrL; omega) ?_
      refine zr_lcmp_eq (pc := 61) (tgt := 88) S dX5_meanOf_61 dX5_meanOf_62 (by decide) (fun c61 => ?_) (fun c61 => absurd c61 (by omega))
      refine zr_lload (pc := 88) S dX5_meanOf_88 rfl ?_
      refine zr_aload_n (pc := 90) S dX5_meanOf_90 rfl ?_
      refine zr_getR (pc := 91) S fX5_meanOf_28 dX5_meanOf_91 rfl (Nat.le_of_ble_eq_true rfl) rfl ?_
      refine zr_getR (pc := 94) S fX5_meanOf_113 dX5_meanOf_94 rfl (Nat.le_of_ble_eq_true rfl) rfl ?_
      refine zr_iload (pc := 97) S dX5_meanOf_97 rfl ?_
      refine zr_iaload (pc := 99) S dX5_meanOf_99 rfl (Nat.le_of_ble_eq_true rfl) (by omega) (by omega) ?_
      rw [e, e3]
      refine zr_i2l (pc := 100) S dX5_meanOf_100 ?_
      refine zr_lload (pc := 101) S dX5_meanOf_101 rfl ?_
      refine zr_lmul (pc := 103) S dX5_meanOf_103 (by unfold zrL; omega) ?_
      refine zr_ladd (pc := 104) S dX5_meanOf_104 (by unfold zrL; omega) ?_
      refine zr_lstore (pc := 105) S dX5_meanOf_105 (by decide) ?_
      dsimp only [zst1, zst2, zset, zget, zlong]
      refine zr_iinc (pc := 107) S dX5_meanOf_107 rfl (by unfold zrI; omega) (by decide) ?_
      dsimp only [zst1, zst2, zset, zget, zlong]
      refine zr_goto (pc := 110) (tgt := 28) S dX5_meanOf_110 (by decide) ?_
      exact q _ _ _
    | some x =>
      rw [hc] at hrb et tr
      have hrb2 : U 62 (t * 5 + b) = wV x 8 := hrb
      have ho := (chg_inv hc).2.1.1
      have wr := wV_r (x := x) (fun i hi => by
        have := ho i hi
        have h9 := hh i hi
        unfold cap at this
        split at this <;> omega)
      have et2 : trm M n h b = M 33 b * max (mostR M n h) (powM M n + mostR M n (sold M b h x)) := et
      have am := a h
      have am2 := a (sold M b h x)
      have sv := hv b x (by omega) hc
      rw [et2] at q tr
      refine zr_iload (pc := 28) S dX5_meanOf_28 rfl ?_
      refine zr_aload_n (pc := 30) S dX5_meanOf_30 rfl ?_
      refine zr_getR (pc := 31) S fX5_meanOf_28 dX5_meanOf_31 rfl (Nat.le_of_ble_eq_true rfl) rfl ?_
      refine zr_getI (pc := 34) S fX5_meanOf_70 dX5_meanOf_34 rfl (Nat.le_of_ble_eq_true rfl) rfl ?_
      rw [e2]
      refine zr_icmp_ge (pc := 37) (tgt := 113) S dX5_meanOf_37 (by decide) (fun c37 => absurd c37 (by omega)) (fun c37 => ?_)
      refine zr_lload_n (pc := 40) S dX5_meanOf_40 rfl ?_
      refine zr_lstore (pc := 41) S dX5_meanOf_41 (by decide) ?_
      dsimp only [zst1, zst2, zset, zget, zlong]
      refine zr_iload_n (pc := 43) S dX5_meanOf_43 rfl ?_
      refine zr_iconst (pc := 44) S dX5_meanOf_44 (by unfold zrI; omega) ?_
      refine zr_imul (pc := 45) S dX5_meanOf_45 (by unfold zrI; omega) ?_
      refine zr_iload (pc := 46) S dX5_meanOf_46 rfl ?_
      refine zr_iadd (pc := 48) S dX5_meanOf_48 (by unfold zrI; omega) ?_
      refine zr_istore (pc := 49) S dX5_meanOf_49 (by decide) ?_
      dsimp only [zst1, zst2, zset, zget, zlong]
      refine zr_aload_n (pc := 51) S dX5_meanOf_51 rfl ?_
      refine zr_getR (pc := 52) S fX5_meanOf_18 dX5_meanOf_52 rfl (Nat.le_of_ble_eq_true rfl) rfl ?_
      refine zr_iload (pc := 55) S dX5_meanOf_55 rfl ?_
      refine zr_laload (pc := 57) S dX5_meanOf_57 rfl (Nat.le_of_ble_eq_true rfl) (by omega) (by omega) ?_
      rw [ej, hrb2]
      refine zr_ldc2 (pc := 58) S (-1) dX5_meanOf_58 (List.mem_cons_of_mem _ (zWi_7 _ (List.mem_of_getElem? (i := 34) rfl))) (by unfold zrL; omega) ?_
      refine zr_lcmp_eq (pc := 61) (tgt := 88) S dX5_meanOf_61 dX5_meanOf_62 (by decide) (fun c61 => absurd c61 (by omega)) (fun c61 => ?_)
      refine zr_lload (pc := 65) S dX5_meanOf_65 rfl ?_
      refine zr_lload (pc := 67) S dX5_meanOf_67 rfl ?_
      refine zr_aload_n (pc := 69) S dX5_meanOf_69 rfl ?_
      refine zr_getR (pc := 70) S fX5_meanOf_25 dX5_meanOf_70 rfl (Nat.le_of_ble_eq_true rfl) rfl ?_
      refine zr_iload (pc := 73) S dX5_meanOf_73 rfl ?_
      refine zr_iconst (pc := 75) S dX5_meanOf_75 (by unfold zrI; omega) ?_
      refine zr_imul (pc := 76) S dX5_meanOf_76 (by unfold zrI; omega) ?_
      refine zr_iload_n (pc := 77) S dX5_meanOf_77 rfl ?_
      refine zr_iadd (pc := 78) S dX5_meanOf_78 (by unfold zrI; omega) ?_
      refine zr_iconst (pc := 79) S dX5_meanOf_79 (by unfold zrI; omega) ?_
      refine zr_isub (pc := 80) S dX5_meanOf_80 (by unfold zrI; omega) ?_
      refine zr_laload (pc := 81) S dX5_meanOf_81 rfl (Nat.le_of_ble_eq_true rfl) (by omega) (by omega) ?_
      rw [es, sv]
      refine zr_ladd (pc := 82) S dX5_meanOf_82 (by unfold zrL; omega) ?_
      refine zr_mmaxL (pc := 83) S kX5_meanOf_107 dX5_meanOf_83 (Nat.le_of_ble_eq_true rfl) (Nat.le_of_ble_eq_true rfl) ⟨Nat.le_of_ble_eq_true rfl, Nat.le_of_ble_eq_true rfl⟩ ?_
      refine zr_lstore (pc := 86) S dX5_meanOf_86 (by decide) ?_
      dsimp only [zst1, zst2, zset, zget, zlong]
      refine zr_lload (pc := 88) S dX5_meanOf_88 rfl ?_
      refine zr_aload_n (pc := 90) S dX5_meanOf_90 rfl ?_
      refine zr_getR (pc := 91) S fX5_meanOf_28 dX5_meanOf_91 rfl (Nat.le_of_ble_eq_true rfl) rfl ?_
      refine zr_getR (pc := 94) S fX5_meanOf_113 dX5_meanOf_94 rfl (Nat.le_of_ble_eq_true rfl) rfl ?_
      refine zr_iload (pc := 97) S dX5_meanOf_97 rfl ?_
      refine zr_iaload (pc := 99) S dX5_meanOf_99 rfl (Nat.le_of_ble_eq_true rfl) (by omega) (by omega) ?_
      rw [e, e3]
      refine zr_i2l (pc := 100) S dX5_meanOf_100 ?_
      refine zr_lload (pc := 101) S dX5_meanOf_101 rfl ?_
      refine zr_lmul (pc := 103) S dX5_meanOf_103 (by unfold zrL; omega) ?_
      refine zr_ladd (pc := 104) S dX5_meanOf_104 (by unfold zrL; omega) ?_
      refine zr_lstore (pc := 105) S dX5_meanOf_105 (by decide) ?_
      dsimp only [zst1, zst2, zset, zget, zlong]
      refine zr_iinc (pc := 107) S dX5_meanOf_107 rfl (by unfold zrI; omega) (by decide) ?_
      dsimp only [zst1, zst2, zset, zget, zlong]
      refine zr_goto (pc := 110) (tgt := 28) S dX5_meanOf_110 (by decide) ?_
      exact q _ _ _
theorem ag_powM {M N : zM} (h : AG M N) (n : Nat) : powM N n = powM M n := by
  unfold powM allCh
  rw [h 33 (by decide), h 1 (by decide)]
def sp_X5_meanOf (as : List zV) (M : zM) (Q : Option zV → zM → Prop) : Prop := ∃ (t n : Nat) (N : zM) (g : Nat → Int), as = [zR 59, zI t, zI ((n : Int) + 1)] ∧ (t < 3) ∧ (n < 3) ∧ (ICb N) ∧ (AG N M) ∧ (M 63 (t * 4 + n) = mostR N n g) ∧ (∀ b, b < (N 1 5).toNat → rowOk (M 62 (t * 5 + b)) (chg (cap N g) (val N) (abv N b))) ∧ (∀ k, k < 8 → 0 ≤ g k ∧ g k ≤ 20) ∧ (∀ b x, b < (N 1 5).toNat → chg (cap N g) (val N) (abv N b) = some x → M 64 ((t * 5 + b) * 3 + n) = mostR N n (sold N b g x)) ∧ Q (some (zL (mostR N (n + 1) g))) (M)
theorem us_X5_meanOf {t n : Nat} {N : zM} {g : Nat → Int} {M : zM} {Q : Option zV → zM → Prop} (ht : t < 3) (hn : n < 3) (hb : ICb N) (ag : AG N M) (hm : M 63 (t * 4 + n) = mostR N n g) (hr : ∀ b, b < (N 1 5).toNat → rowOk (M 62 (t * 5 + b)) (chg (cap N g) (val N) (abv N b))) (hh : ∀ k, k < 8 → 0 ≤ g k ∧ g k ≤ 20) (hv : ∀ b x, b < (N 1 5).toNat → chg (cap N g) (val N) (abv N b) = some x → M 64 ((t * 5 + b) * 3 + n) = mostR N n (sold N b g x)) (h99 : Q (some (zL (mostR N (n + 1) g))) (M)) : sp_X5_meanOf [zR 59, zI t, zI ((n : Int) + 1)] M Q := ⟨t, n, N, g, rfl, ht, hn, hb, ag, hm, hr, hh, hv, h99⟩
set_option maxRecDepth 20000 in
set_option maxHeartbeats 4000000 in
theorem m_X5_meanOf (l : Launch) : zC l yX5_meanOf wzX5_meanOf rmX5_meanOf sp_X5_meanOf := by
  refine zMet.of RX5 (by decide +kernel) rfl rfl ?_
  intro E X as M Qp hX S hsp
  obtain ⟨t, n, N, g, rfl, ht, hn, hb, ag, hm, hr, hh, hv, hQ⟩ := hsp
  refine ⟨Nat.le_of_ble_eq_true rfl, ?_⟩
  dsimp only [zpad, zargs]
  have e1 : ((t : Int) * 4 + ((n : Int) + 1) - 1).toNat = t * 4 + n := by omega
  have e2 : (n : Int) + 1 - 1 = n := by omega
  have q := fun u10 u11 u12 => lp_X5_mean S ht hn hb ag hr hh hv hQ (N 1 5).toNat 0 u10 u11 u12 (by have := hb.1; omega)
  rw [← ag_powM ag] at q
  refine zr_aload_n (pc := 0) S dX5_meanOf_0 rfl ?_
  refine zr_getR (pc := 1) S fX5_meanOf_22 dX5_meanOf_1 rfl (Nat.le_of_ble_eq_true rfl) rfl ?_
  refine zr_iload_n (pc := 4) S dX5_meanOf_4 rfl ?_
  refine zr_iconst (pc := 5) S dX5_meanOf_5 (by unfold zrI; omega) ?_
  refine zr_imul (pc := 6) S dX5_meanOf_6 (by unfold zrI; omega) ?_
  refine zr_iload_n (pc := 7) S dX5_meanOf_7 rfl ?_
  refine zr_iadd (pc := 8) S dX5_meanOf_8 (by unfold zrI; omega) ?_
  refine zr_iconst (pc := 9) S dX5_meanOf_9 (by unfold zrI; omega) ?_
  refine zr_isub (pc := 10) S dX5_meanOf_10 (by unfold zrI; omega) ?_
  refine zr_laload (pc := 11) S dX5_meanOf_11 rfl (Nat.le_of_ble_eq_true rfl) (by omega) (by omega) ?_
  rw [e1, hm]
  refine zr_lstore_n (pc := 12) S 3 dX5_meanOf_12 rfl (by decide) ?_
  dsimp only [zst1, zst2, zset, zget, zlong]
  refine zr_aload_n (pc := 13) S dX5_meanOf_13 rfl ?_
  refine zr_iload_n (pc := 14) S dX5_meanOf_14 rfl ?_
  refine zr_iconst (pc := 15) S dX5_meanOf_15 (by unfold zrI; omega) ?_
  refine zr_isub (pc := 16) S dX5_meanOf_16 (by unfold zrI; omega) ?_
  rw [e2]
  refine zr_invV (pc := 17) S [zI _] (m_X5_power _) kX5_meanOf_59 dX5_meanOf_17 rfl (Nat.le_of_ble_eq_true rfl) rfl (Nat.le_of_ble_eq_true rfl) ⟨Nat.le_of_ble_eq_true rfl, Nat.le_of_ble_eq_true rfl⟩ (us_X5_power (ag.b hb) (by omega) ?_)
  dsimp only [zaft, Option.toList, List.cons_append, List.nil_append, Nat.add_zero]
  refine zr_lstore (pc := 20) S dX5_meanOf_20 (by decide) ?_
  dsimp only [zst1, zst2, zset, zget, zlong]
  refine zr_lconst0 (pc := 22) S dX5_meanOf_22 ?_
  refine zr_lstore (pc := 23) S dX5_meanOf_23 (by decide) ?_
  dsimp only [zst1, zst2, zset, zget, zlong]
  refine zr_iconst (pc := 25) S dX5_meanOf_25 (by unfold zrI; omega) ?_
  refine zr_istore (pc := 26) S dX5_meanOf_26 (by decide) ?_
  dsimp only [zst1, zst2, zset, zget, zlong]
  exact q _ _ _
end
