section
theorem lp_X6_tell_i {E : zE} {X : zX} {Qp : Option zV → zM → Prop} {M N : zM} {s : Int} {c0 c1 c2 : Nat} (S : zS (zg E) X cX6_tell 4 wzX6_tell RX6 none) (hg : ICg M) (h0 : blk M N s 0 c0) (h1 : blk M N s 1 c1) (h2 : blk M N s 2 c2) (hl : ∀ n, n < 2 ^ (M 11 0).toNat → N 49 n = gl M n) (hQ : ∀ T : zM, (∀ k, k ≠ 48 → T k = N k) → (∀ o, T 48 o = N 48 o + rowI N c1 c2 o c0) → Qp none T) : ∀ (m i : Nat) (u : Option zV) (T : zM), m + i = c0 → (∀ k, k ≠ 48 → T k = N k) → (∀ o, T 48 o = N 48 o + rowI N c1 c2 o i) → (∀ o, o < 9 → 0 ≤ T 48 o ∧ T 48 o ≤ 17000000 * (17 * i)) → zK (zg E) rmX6_tell 4 (Qp, 0, 0) X (0, 0) 46 [some (zR 47), some (zI s), some (zI i), u] [] T := by
  have hc0 := h0.2.1
  have hc1 := h1.2.1
  intro m
  induction m with
  | zero =>
    intro i u T hi hT hv hb
    have e : i = c0 := by omega
    subst e
    have es := hT 50 (by decide)
    have e1 := h0.1
    have q := hQ T hT hv
    refine zr_iload_n (pc := 46) S dX6_tell_46 rfl ?_
    refine zr_aload_n (pc := 47) S dX6_tell_47 rfl ?_
    refine zr_getR (pc := 48) S fX6_tell_19 dX6_tell_48 rfl (Nat.le_of_ble_eq_true rfl) rfl ?_
    refine zr_iconst (pc := 51) S dX6_tell_51 (by unfold zrI; omega) ?_
    refine zr_iaload (pc := 52) S dX6_tell_52 rfl (Nat.le_of_ble_eq_true rfl) (by omega) (by omega) ?_
    dsimp only [Int.reduceToNat]
    rw [es, e1]
    refine zr_icmp_ge (pc := 53) (tgt := 116) S dX6_tell_53 (by decide) (fun c53 => ?_) (fun c53 => absurd c53 (by omega))
    exact zr_vret (pc := 116) S dX6_tell_116 rfl ⟨Nat.le_refl _, Nat.le_refl _⟩ (q)
  | succ m ih =>
    intro i u T hi hT hv hb
    have es := hT 50 (by decide)
    have e1 := h0.1
    have nx : ∀ T : zM, (∀ k, k ≠ 48 → T k = N k) → (∀ o, T 48 o = N 48 o + rowI N c1 c2 o i + N 52 i * rowJ N c2 o i c1) → (∀ o, o < 9 → 0 ≤ T 48 o ∧ T 48 o ≤ 17000000 * (17 * i + 17)) → zK (zg E) rmX6_tell 4 (Qp, 0, 0) X (0, 0) 110 [some (zR 47), some (zI s), some (zI i), some (zI (17 + c1 : Nat))] [] T := fun T hT hv hb => by
      have q := fun u => ih (i + 1) u T (by omega) hT (fun o => by rw [hv o]; unfold rowI; rw [sumU]; omega) (fun o ho => by have := hb o ho; omega)
      refine zr_iinc (pc := 110) S dX6_tell_110 rfl (by unfold zrI; omega) (by decide) ?_
      dsimp only [zst1, zst2, zset, zget, zlong]
      refine zr_goto (pc := 113) (tgt := 46) S dX6_tell_113 (by decide) ?_
      exact q _
    have q := lp_X6_tell_j S hg h0 h1 h2 hl (by omega) nx c1 0 T (by omega) hT (fun o => by rw [hv o]; unfold rowJ; rw [sumU]; omega) (fun o ho => by have := hb o ho; omega)
    refine zr_iload_n (pc := 46) S dX6_tell_46 rfl ?_
    refine zr_aload_n (pc := 47) S dX6_tell_47 rfl ?_
    refine zr_getR (pc := 48) S fX6_tell_19 dX6_tell_48 rfl (Nat.le_of_ble_eq_true rfl) rfl ?_
    refine zr_iconst (pc := 51) S dX6_tell_51 (by unfold zrI; omega) ?_
    refine zr_iaload (pc := 52) S dX6_tell_52 rfl (Nat.le_of_ble_eq_true rfl) (by omega) (by omega) ?_
    dsimp only [Int.reduceToNat]
    rw [es, e1]
    refine zr_icmp_ge (pc := 53) (tgt := 116) S dX6_tell_53 (by decide) (fun c53 => absurd c53 (by omega)) (fun c53 => ?_)
    refine zr_bipush (pc := 56) S dX6_tell_56 ⟨by unfold zrI; omega, by decide⟩ ?_
    refine zr_istore_n (pc := 58) S 3 dX6_tell_58 rfl (by decide) ?_
    dsimp only [zst1, zst2, zset, zget, zlong]
    exact q
theorem lp_X6_tell_m {E : zE} {X : zX} {Qp : Option zV → zM → Prop} {M : zM} {s : Int} (S : zS (zg E) X cX6_tell 4 wzX6_tell RX6 none) (hg : ICg M) (hs : ICs M) (h0 : 0 ≤ s) (h1 : s < 8) (hl : ∀ n, n < 2 ^ (M 11 0).toNat → M 49 n = gl M n) (hQ : ∀ T : zM, offS M T → (∀ o, o < 9 → T 48 o = cnt3 M s o) → Qp none T) : ∀ (n m : Nat) (u : Option zV) (N : zM), n + m = 3 → tlI M N s m → zK (zg E) rmX6_tell 4 (Qp, 0, 0) X (0, 0) 10 [some (zR 47), some (zI s), some (zI m), u] [] N := by
  intro n
  induction n with
  | zero =>
    intro m u N hm hI
    have e : m = 3 := by omega
    subst e
    obtain ⟨a, b, d⟩ := hI
    obtain ⟨c0, b0⟩ := d 0 (by omega)
    obtain ⟨c1, b1⟩ := d 1 (by omega)
    obtain ⟨c2, b2⟩ := d 2 (by omega)
    have hl2 : ∀ n, n < 2 ^ (M 11 0).toNat → N 49 n = gl M n := fun n hn => by rw [a 49 (by decide) (by decide) (by decide) (by decide)]; exact hl n hn
    have q := fun u => lp_X6_tell_i S hg b0 b1 b2 hl2 (Qp := Qp) (fun T hT hv => hQ T (fun k k1 k2 k3 k4 => by rw [hT k k1]; exact a k k1 k2 k3 k4) (fun o ho => by rw [hv o, b o ho, tell_sum b0 b1 b2 hl2 o]; omega)) c0 0 u N (by omega) (fun _ _ => rfl) (fun o => by unfold rowI; rw [sumU]; omega) (fun o ho => by rw [b o ho]; omega)
    refine zr_iload_n (pc := 10) S dX6_tell_10 rfl ?_
    refine zr_iconst (pc := 11) S dX6_tell_11 (by unfold zrI; omega) ?_
    refine zr_icmp_ge (pc := 12) (tgt := 44) S dX6_tell_12 (by decide) (fun c12 => ?_) (fun c12 => absurd c12 (by omega))
    refine zr_iconst (pc := 44) S dX6_tell_44 (by unfold zrI; omega) ?_
    refine zr_istore_n (pc := 45) S 2 dX6_tell_45 rfl (by decide) ?_
    dsimp only [zst1, zst2, zset, zget, zlong]
    exact q _
  | succ n ih =>
    intro m u N hm hI
    have ag := hI.1.ag
    have el := ag_lowOf ag s m
    have eh := ag_highOf ag s m
    have sp := span_r hs h0 h1 (m := m) (by omega) (by omega)
    refine zr_iload_n (pc := 10) S dX6_tell_10 rfl ?_
    refine zr_iconst (pc := 11) S dX6_tell_11 (by unfold zrI; omega) ?_
    refine zr_icmp_ge (pc := 12) (tgt := 44) S dX6_tell_12 (by decide) (fun c12 => absurd c12 (by omega)) (fun c12 => ?_)
    refine zr_aload_n (pc := 15) S dX6_tell_15 rfl ?_
    refine zr_iload_n (pc := 16) S dX6_tell_16 rfl ?_
    refine zr_aload_n (pc := 17) S dX6_tell_17 rfl ?_
    refine zr_getR (pc := 18) S fX6_tell_28 dX6_tell_18 rfl (Nat.le_of_ble_eq_true rfl) rfl ?_
    refine zr_iload_n (pc := 21) S dX6_tell_21 rfl ?_
    refine zr_iload_n (pc := 22) S dX6_tell_22 rfl ?_
    refine zr_invV (pc := 23) S [zI _, zI _] (m_X7_lowOf _) kX6_tell_82 dX6_tell_23 rfl (Nat.le_of_ble_eq_true rfl) rfl (Nat.le_of_ble_eq_true rfl) ⟨Nat.le_of_ble_eq_true rfl, Nat.le_of_ble_eq_true rfl⟩ (us_X7_lowOf (ag.s hs) h0 h1 (by omega) (by omega) ?_)
    dsimp only [zaft, Option.toList, List.cons_append, List.nil_append, Nat.add_zero]
    rw [el]
    refine zr_aload_n (pc := 26) S dX6_tell_26 rfl ?_
    refine zr_getR (pc := 27) S fX6_tell_28 dX6_tell_27 rfl (Nat.le_of_ble_eq_true rfl) rfl ?_
    refine zr_iload_n (pc := 30) S dX6_tell_30 rfl ?_
    refine zr_iload_n (pc := 31) S dX6_tell_31 rfl ?_
    refine zr_invV (pc := 32) S [zI _, zI _] (m_X7_highOf _) kX6_tell_86 dX6_tell_32 rfl (Nat.le_of_ble_eq_true rfl) rfl (Nat.le_of_ble_eq_true rfl) ⟨Nat.le_of_ble_eq_true rfl, Nat.le_of_ble_eq_true rfl⟩ (us_X7_highOf (ag.s hs) h0 h1 (by omega) (by omega) ?_)
    dsimp only [zaft, Option.toList, List.cons_append, List.nil_append, Nat.add_zero]
    rw [eh]
    refine zr_invV (pc := 35) S [zI _, zI _, zI _] (m_X6_stretch _) kX6_tell_89 dX6_tell_35 rfl (Nat.le_of_ble_eq_true rfl) rfl (Nat.le_of_ble_eq_true rfl) ⟨Nat.le_of_ble_eq_true rfl, Nat.le_of_ble_eq_true rfl⟩ (us_X6_stretch (m := m) (ag.g hg) (ag.s hs) (by omega) (by omega) (by omega) (by omega) ?_)
    dsimp only [zaft, Option.toList, List.cons_append, List.nil_append, Nat.add_zero]
    rintro r M' ⟨rfl, N2, c, hc, hI2, rfl⟩
    dsimp only [zaft, Option.toList, List.nil_append]
    have q := fun u => ih (m + 1) u _ (by omega) (tlI_step hI (by omega) hc hI2)
    refine zr_iinc (pc := 38) S dX6_tell_38 rfl (by unfold zrI; omega) (by decide) ?_
    dsimp only [zst1, zst2, zset, zget, zlong]
    refine zr_goto (pc := 41) (tgt := 10) S dX6_tell_41 (by decide) ?_
    exact q _
def sp_X6_tell (as : List zV) (M : zM) (Q : Option zV → zM → Prop) : Prop := ∃ (s : Int), as = [zR 47, zI s] ∧ (ICg M) ∧ (ICs M) ∧ (0 ≤ s) ∧ (s < 8) ∧ (∀ n, n < 2 ^ (M 11 0).toNat → M 49 n = gl M n) ∧ (∀ (r : Option zV) (M' : zM), (r = none ∧ offS M M' ∧ ∀ o, o < 9 → M' 48 o = cnt3 M s o) → Q r M')
theorem us_X6_tell {s : Int} {M : zM} {Q : Option zV → zM → Prop} (hg : ICg M) (hs : ICs M) (h0 : 0 ≤ s) (h1 : s < 8) (hl : ∀ n, n < 2 ^ (M 11 0).toNat → M 49 n = gl M n) (h99 : (∀ (r : Option zV) (M' : zM), (r = none ∧ offS M M' ∧ ∀ o, o < 9 → M' 48 o = cnt3 M s o) → Q r M')) : sp_X6_tell [zR 47, zI s] M Q := ⟨s, rfl, hg, hs, h0, h1, hl, h99⟩
set_option maxRecDepth 20000 in
set_option maxHeartbeats 4000000 in
theorem m_X6_tell (l : Launch) : zC l yX6_tell wzX6_tell rmX6_tell sp_X6_tell := by
  refine zMet.of RX6 (by decide +kernel) rfl rfl ?_
  intro E X as M Qp hX S hsp
  obtain ⟨s, rfl, hg, hs, h0, h1, hl, hQ⟩ := hsp
  refine ⟨Nat.le_of_ble_eq_true rfl, ?_⟩
  dsimp only [zpad, zargs]
  have i0 : tlI M (fillR M 48 9 0) s 0 := ⟨fun k h1 h2 h3 h4 => fillR_o k h1, fun o ho => fillR_e ho, fun m' hm' => absurd hm' (by omega)⟩
  have q := fun u => lp_X6_tell_m S hg hs h0 h1 hl (fun T h2 h3 => hQ none T ⟨rfl, h2, h3⟩) 3 0 u _ (by omega) i0
  refine zr_aload_n (pc := 0) S dX6_tell_0 rfl ?_
  refine zr_getR (pc := 1) S fX6_tell_9 dX6_tell_1 rfl (Nat.le_of_ble_eq_true rfl) rfl ?_
  refine zr_lconst0 (pc := 4) S dX6_tell_4 ?_
  refine zr_invS (pc := 5) S [zR _, zL _] (m_J7_fill_d0a16 _) kX6_tell_76 dX6_tell_5 (Nat.le_of_ble_eq_true rfl) ⟨Nat.le_of_ble_eq_true rfl, Nat.le_of_ble_eq_true rfl⟩ (us_J7_fill_d0a16 rfl (Nat.le_of_ble_eq_true rfl) (by decide) ?_)
  dsimp only [zaft, Option.toList, List.cons_append, List.nil_append, Nat.add_zero]
  refine zr_iconst (pc := 8) S dX6_tell_8 (by unfold zrI; omega) ?_
  refine zr_istore_n (pc := 9) S 2 dX6_tell_9 rfl (by decide) ?_
  dsimp only [zst1, zst2, zset, zget, zlong]
  exact q _
end
