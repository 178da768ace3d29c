section
/-- the class's draft holds the gates of L -/
def drL (U : zM) (L : List Int) : Prop := ∀ g, 7 * g + 7 ≤ L.length → U 42 g = L.getD (7 * g) 0 ∧ U 43 g = L.getD (7 * g + 1) 0 ∧ U 44 g = L.getD (7 * g + 2) 0 ∧ U 45 g = gcode (L.getD (7 * g + 3) 0) (L.getD (7 * g + 4) 0) ∧ U 46 g = gcode (L.getD (7 * g + 5) 0) (L.getD (7 * g + 6) 0)
theorem drL.app {U W : zM} {L G : List Int} {k : Nat} (h : drL U L) (hL : L.length = 7 * k) (hG : G.length = 7) (d : drP U W k G) : drL W (L ++ G) := by
  intro g hg
  rw [List.length_append] at hg
  have gl : ∀ i, i < L.length → (L ++ G).getD i 0 = L.getD i 0 := fun i hi => by rw [List.getD_eq_getElem?_getD, List.getD_eq_getElem?_getD, List.getElem?_append_left hi]
  have gr : ∀ i, (L ++ G).getD (7 * k + i) 0 = G.getD i 0 := fun i => by rw [List.getD_eq_getElem?_getD, List.getD_eq_getElem?_getD, List.getElem?_append_right (by omega), hL, show 7 * k + i - 7 * k = i by omega]
  obtain ⟨d0, d1, d2, d3, d4, d5⟩ := d
  by_cases c : g = k
  · subst c
    have g0 := gr 0
    rw [Nat.add_zero] at g0
    rw [g0, gr 1, gr 2, gr 3, gr 4, gr 5, gr 6]
    exact ⟨d0 (by omega), d1 (by omega), d2 (by omega), d3 (by omega), d4 (by omega)⟩
  · obtain ⟨h0, h1, h2, h3, h4⟩ := h g (by omega)
    rw [gl _ (by omega), gl _ (by omega), gl _ (by omega), gl _ (by omega), gl _ (by omega), gl _ (by omega), gl _ (by omega), d5 42 g (by decide) (by decide) c, d5 43 g (by decide) (by decide) c, d5 44 g (by decide) (by decide) c, d5 45 g (by decide) (by decide) c, d5 46 g (by decide) (by decide) c]
    exact ⟨h0, h1, h2, h3, h4⟩
theorem us_rgateF {M : zM} {n p gg : Nat} {z : Int × Int} {Q : Option zV → zM → Prop} (hg : gg < 8) (hm : M 41 0 = gg) (hc : curR M n p) (hG : pGate (cT M) n p = .inl z) (h : ∀ M', rO M M' → flR M' z → Q (some (zI 0)) M') : sp_X4_readGate [zR 39] M Q := us_X4_readGate (Nat.le_of_lt hg) hm hc (fun e => absurd e (by omega)) (fun _ => by rw [hG]; exact h)
theorem us_rgateY {M : zM} {n p gg q : Nat} {G : List Int} {Q : Option zV → zM → Prop} (hg : gg < 8) (hm : M 41 0 = gg) (hc : curR M n p) (hG : pGate (cT M) n p = .inr (G, q)) (h : ∀ M', rO M M' → curR M' n q → M' 41 0 = (gg : Int) + 1 → drP M M' gg G → Q (some (zI 1)) M') : sp_X4_readGate [zR 39] M Q := us_X4_readGate (Nat.le_of_lt hg) hm hc (fun e => absurd e (by omega)) (fun _ => by rw [hG]; exact h)
theorem rd46 {E : zE} {X : zX} {Qp : Option zV → zM → Prop} {M : zM} {n : Nat} {nn : Int} (S : zS (zg E) X cX4_read 3 wzX4_read RX4 (some .boolean)) {r : (Int × Int) ⊕ List Int} (kF : ∀ f U, r = .inl f → rO M U → flR U f → Qp (some (zI 0)) U) (kY : ∀ L U (k : Nat), r = .inr L → rO M U → flR U (0, -1) → k ≤ 8 → L.length = 7 * k → U 41 0 = k → drL U L → Qp (some (zI 1)) U) : ∀ (f k : Nat) (L : List Int) (p : Nat) (U : zM), k + f = 8 → L.length = 7 * k → rO M U → curR U n p → U 41 0 = k → drL U L → pText (cT M) n f L p = r → zK (zg E) rmX4_read 3 (Qp, 0, 0) X (0, 0) 46 [some (zR 39), some (zI nn), some (zI k)] [] U := by
  have kE : ∀ (k : Nat) L p U, k ≤ 8 → L.length = 7 * k → rO M U → curR U n p → U 41 0 = k → drL U L → tK (cT M) n p = 0 → r = .inr L → zK (zg E) rmX4_read 3 (Qp, 0, 0) X (0, 0) 46 [some (zR 39), some (zI nn), some (zI k)] [] U := by
    intro k L p U h8 hL oU hc hm hd ht hr
    obtain ⟨h1, h2, h3, h4, h5, h6, h7, hb, hb2⟩ := hc
    have l := kY L U k hr oU ⟨hb, hb2⟩ h8 hL hm hd
    rw [oU.c, ht] at h6
    refine zr_iload_n (pc := 46) S dX4_read_46 rfl ?_
    refine zr_bipush (pc := 47) S dX4_read_47 ⟨by unfold zrI; omega, by decide⟩ ?_
    refine zr_icmp_gt (pc := 49) (tgt := 74) S dX4_read_49 (by decide) (fun c49 => absurd c49 (by omega)) (fun c49 => ?_)
    refine zr_aload_n (pc := 52) S dX4_read_52 rfl ?_
    refine zr_getI (pc := 53) S fX4_read_50 dX4_read_53 rfl (Nat.le_of_ble_eq_true rfl) rfl ?_
    refine zr_if_eq (pc := 56) (tgt := 74) S dX4_read_56 (by decide) (fun c56 => ?_) (fun c56 => absurd c56 (by omega))
    refine zr_iconst (pc := 74) S dX4_read_74 (by unfold zrI; omega) ?_
    exact zr_zret (pc := 75) S dX4_read_75 rfl (by first | omega | exact b01_r) ⟨Nat.le_refl _, Nat.le_refl _⟩ (l)
  intro f
  induction f with
  | zero =>
    intro k L p U hk hL oU hc hm hd hr
    obtain rfl : k = 8 := by omega
    unfold pText at hr
    by_cases c0 : tK (cT M) n p = 0
    · rw [if_pos c0] at hr
      exact kE 8 L p U (by omega) hL oU hc hm hd c0 hr.symm
    · rw [if_neg c0] at hr
      have tU := oU.c
      have h6 := hc.2.2.2.2.2.1
      rw [tU] at h6
      have q := fun W (oW : rO U W) (fW : flR W (blP (cT U) n p (if wrd (cT U) n p 0 then 5 else 2))) => kF _ W hr.symm (oU.tr oW) (by rw [← tU]; exact fW)
      refine zr_iload_n (pc := 46) S dX4_read_46 rfl ?_
      refine zr_bipush (pc := 47) S dX4_read_47 ⟨by unfold zrI; omega, by decide⟩ ?_
      refine zr_icmp_gt (pc := 49) (tgt := 74) S dX4_read_49 (by decide) (fun c49 => absurd c49 (by omega)) (fun c49 => ?_)
      refine zr_aload_n (pc := 52) S dX4_read_52 rfl ?_
      refine zr_getI (pc := 53) S fX4_read_50 dX4_read_53 rfl (Nat.le_of_ble_eq_true rfl) rfl ?_
      refine zr_if_eq (pc := 56) (tgt := 74) S dX4_read_56 (by decide) (fun c56 => absurd c56 (by omega)) (fun c56 => ?_)
      refine zr_aload_n (pc := 59) S dX4_read_59 rfl ?_
      refine zr_invV (pc := 60) S [] (m_X4_readGate _) kX4_read_53 dX4_read_60 rfl (Nat.le_of_ble_eq_true rfl) rfl (Nat.le_of_ble_eq_true rfl) ⟨Nat.le_of_ble_eq_true rfl, Nat.le_of_ble_eq_true rfl⟩ (us_X4_readGate (gg := 8) (n := n) (p := p) (by decide) hm hc (fun _ W oW fW => ?_) (fun z => absurd z (by decide)))
      dsimp only [zaft, Option.toList, List.cons_append, List.nil_append, Nat.add_zero]
      refine zr_if_ne (pc := 63) (tgt := 68) S dX4_read_63 (by decide) (fun c63 => absurd c63 (by omega)) (fun c63 => ?_)
      refine zr_iconst (pc := 66) S dX4_read_66 (by unfold zrI; omega) ?_
      exact zr_zret (pc := 67) S dX4_read_67 rfl (by first | omega | exact b01_r) ⟨Nat.le_refl _, Nat.le_refl _⟩ (q W oW fW)
  | succ f ih =>
    intro k L p U hk hL oU hc hm hd hr
    unfold pText at hr
    by_cases c0 : tK (cT M) n p = 0
    · rw [if_pos c0] at hr
      exact kE k L p U (by omega) hL oU hc hm hd c0 hr.symm
    · rw [if_neg c0] at hr
      have tU := oU.c
      have h6 := hc.2.2.2.2.2.1
      rw [tU] at h6
      have ok := pGate_ok (cT M) n p
      rcases hG : pGate (cT M) n p with z | ⟨G, q⟩
      · rw [hG] at hr ok
        rw [← tU] at hG
        have l : ∀ W, rO U W → flR W z → Qp (some (zI 0)) W := fun W oW fW => kF z W hr.symm (oU.tr oW) fW
        refine zr_iload_n (pc := 46) S dX4_read_46 rfl ?_
        refine zr_bipush (pc := 47) S dX4_read_47 ⟨by unfold zrI; omega, by decide⟩ ?_
        refine zr_icmp_gt (pc := 49) (tgt := 74) S dX4_read_49 (by decide) (fun c49 => absurd c49 (by omega)) (fun c49 => ?_)
        refine zr_aload_n (pc := 52) S dX4_read_52 rfl ?_
        refine zr_getI (pc := 53) S fX4_read_50 dX4_read_53 rfl (Nat.le_of_ble_eq_true rfl) rfl ?_
        refine zr_if_eq (pc := 56) (tgt := 74) S dX4_read_56 (by decide) (fun c56 => absurd c56 (by omega)) (fun c56 => ?_)
        refine zr_aload_n (pc := 59) S dX4_read_59 rfl ?_
        refine zr_invV (pc := 60) S [] (m_X4_readGate _) kX4_read_53 dX4_read_60 rfl (Nat.le_of_ble_eq_true rfl) rfl (Nat.le_of_ble_eq_true rfl) ⟨Nat.le_of_ble_eq_true rfl, Nat.le_of_ble_eq_true rfl⟩ (us_rgateF (gg := k) (n := n) (p := p) (by omega) hm hc hG (fun W oW fW => ?_))
        dsimp only [zaft, Option.toList, List.cons_append, List.nil_append, Nat.add_zero]
        refine zr_if_ne (pc := 63) (tgt := 68) S dX4_read_63 (by decide) (fun c63 => absurd c63 (by omega)) (fun c63 => ?_)
        refine zr_iconst (pc := 66) S dX4_read_66 (by unfold zrI; omega) ?_
        exact zr_zret (pc := 67) S dX4_read_67 rfl (by first | omega | exact b01_r) ⟨Nat.le_refl _, Nat.le_refl _⟩ (l W oW fW)
      · rw [hG] at hr ok
        rw [← tU] at hG
        have ok7 : G.length = 7 := ok
        have l : ∀ W, rO U W → curR W n q → W 41 0 = (k : Int) + 1 → drP U W k G → zK (zg E) rmX4_read 3 (Qp, 0, 0) X (0, 0) 46 [some (zR 39), some (zI nn), some (zI ((k : Int) + 1))] [] W := fun W oW cW mW dW => by
          have := ih (k + 1) (L ++ G) q W (by omega) (by rw [List.length_append]; omega) (oU.tr oW) cW (by omega) (hd.app hL ok7 dW) hr
          rw [Int.natCast_add, Int.natCast_one] at this
          exact this
        refine zr_iload_n (pc := 46) S dX4_read_46 rfl ?_
        refine zr_bipush (pc := 47) S dX4_read_47 ⟨by unfold zrI; omega, by decide⟩ ?_
        refine zr_icmp_gt (pc := 49) (tgt := 74) S dX4_read_49 (by decide) (fun c49 => absurd c49 (by omega)) (fun c49 => ?_)
        refine zr_aload_n (pc := 52) S dX4_read_52 rfl ?_
        refine zr_getI (pc := 53) S fX4_read_50 dX4_read_53 rfl (Nat.le_of_ble_eq_true rfl) rfl ?_
        refine zr_if_eq (pc := 56) (tgt := 74) S dX4_read_56 (by decide) (fun c56 => absurd c56 (by omega)) (fun c56 => ?_)
        refine zr_aload_n (pc := 59) S dX4_read_59 rfl ?_
        refine zr_invV (pc := 60) S [] (m_X4_readGate _) kX4_read_53 dX4_read_60 rfl (Nat.le_of_ble_eq_true rfl) rfl (Nat.le_of_ble_eq_true rfl) ⟨Nat.le_of_ble_eq_true rfl, Nat.le_of_ble_eq_true rfl⟩ (us_rgateY (gg := k) (n := n) (p := p) (by omega) hm hc hG (fun W oW cW mW dW => ?_))
        dsimp only [zaft, Option.toList, List.cons_append, List.nil_append, Nat.add_zero]
        refine zr_if_ne (pc := 63) (tgt := 68) S dX4_read_63 (by decide) (fun c63 => ?_) (fun c63 => absurd c63 (by omega))
        refine zr_iinc (pc := 68) S dX4_read_68 rfl (by unfold zrI; omega) (by decide) ?_
        dsimp only [zst1, zst2, zset, zget, zlong]
        refine zr_goto (pc := 71) (tgt := 46) S dX4_read_71 (by decide) ?_
        exact l W oW cW mW dW
/-- outside the reader nothing has changed, and its tape is empty -/
def rX (M M' : zM) : Prop := (∀ k, k ≠ 39 → (k < 41 ∨ 46 < k) → M' k = M k) ∧ M' 39 1 = 0 ∧ (drV M → drV M')
def sp_X4_read (as : List zV) (M : zM) (Q : Option zV → zM → Prop) : Prop := ∃ (nn F : Nat), as = [zR 39, zI nn] ∧ (M 39 1 = F) ∧ (F ≤ 400) ∧ (nn ≤ F) ∧ (∀ f, pText (cT M) nn 8 [] 0 = .inl f → ∀ M', rX M M' → flR M' f → Q (some (zI 0)) M') ∧ (∀ L, pText (cT M) nn 8 [] 0 = .inr L → ∀ (k : Nat) M', k ≤ 8 → L.length = 7 * k → rX M M' → flR M' (0, -1) → M' 41 0 = k → drL M' L → Q (some (zI 1)) M')
theorem us_X4_read {nn F : Nat} {M : zM} {Q : Option zV → zM → Prop} (hf : M 39 1 = F) (hF4 : F ≤ 400) (hn : nn ≤ F) (hF : ∀ f, pText (cT M) nn 8 [] 0 = .inl f → ∀ M', rX M M' → flR M' f → Q (some (zI 0)) M') (hY : ∀ L, pText (cT M) nn 8 [] 0 = .inr L → ∀ (k : Nat) M', k ≤ 8 → L.length = 7 * k → rX M M' → flR M' (0, -1) → M' 41 0 = k → drL M' L → Q (some (zI 1)) M') : sp_X4_read [zR 39, zI nn] M Q := ⟨nn, F, rfl, hf, hF4, hn, hF, hY⟩
set_option maxRecDepth 20000 in
set_option maxHeartbeats 4000000 in
theorem m_X4_read (l : Launch) : zC l yX4_read wzX4_read rmX4_read sp_X4_read := by
  refine zMet.of RX4 (by decide +kernel) rfl rfl ?_
  intro E X as M Qp hX S hsp
  obtain ⟨nn, F, rfl, hf, hF4, hn, hF, hY⟩ := hsp
  refine ⟨Nat.le_of_ble_eq_true rfl, ?_⟩
  dsimp only [zpad, zargs]
  have key : ∀ N, N = zup (zup (zup (zup (zup (zup M 39 5 nn) 39 1 0) 39 8 0) 39 2 0) 39 3 (-1)) 41 0 0 → ∀ N', axM N N' nn 0 → zK (zg E) rmX4_read 3 (Qp, 0, 0) X (0, 0) 44 [some (zR 39), some (zI nn), none] [] N' := by
    intro N hN N' hx
    have eo : ∀ k, k ≠ 39 → k ≠ 41 → N k = M k := fun k hk h2 => by rw [hN, zup_o k h2, zup_o k hk, zup_o k hk, zup_o k hk, zup_o k hk, zup_o k hk]
    have e1 : N 39 1 = 0 := by rw [hN, zup_o _ (by decide), zup_j (by decide), zup_j (by decide), zup_j (by decide), zup_e]
    have e5 : N 39 5 = nn := by rw [hN, zup_o _ (by decide), zup_j (by decide), zup_j (by decide), zup_j (by decide), zup_j (by decide), zup_e]
    have e2 : N 39 2 = 0 := by rw [hN, zup_o _ (by decide), zup_j (by decide), zup_e]
    have e3 : N 39 3 = -1 := by rw [hN, zup_o _ (by decide), zup_e]
    have e41 : N 41 0 = 0 := by rw [hN, zup_e]
    have tN : cT N = cT M := cT_o (eo _ (by decide) (by decide))
    have cN := hx.cur e5 (by omega) (by omega) e2 e3
    have ba : ∀ U, rO N' U → rX M U := fun U oU => ⟨fun k k1 k2 => by rw [oU.1 k k1 k2, hx.1 k k1]; exact eo k k1 (by omega), by rw [oU.2.1 _ (by decide) (by decide) (by decide) (by decide) (by decide) (by decide), hx.2.1 _ (by decide) (by decide) (by decide) (by decide)]; exact e1, fun z => oU.2.2 (drV.o (fun k a b => by rw [hx.1 k (by omega)]; exact eo k (by omega) (by omega)) z)⟩
    have l := rd46 (E := E) (X := X) (Qp := Qp) (M := N') (n := nn) (nn := nn) (r := pText (cT M) nn 8 [] 0) S (fun f U hr oU fU => hF f hr U (ba U oU) fU) (fun L U k hr oU fU h8 hL hm hd => hY L hr k U h8 hL (ba U oU) fU hm hd) 8 0 [] 0 N' (by omega) rfl (rO.rf N') cN (by rw [hx.1 _ (by decide)]; exact e41) (fun g hg => absurd hg (by simp)) (by rw [hx.c, tN])
    refine zr_iconst (pc := 44) S dX4_read_44 (by unfold zrI; omega) ?_
    refine zr_istore_n (pc := 45) S 2 dX4_read_45 rfl (by decide) ?_
    dsimp only [zst1, zst2, zset, zget, zlong]
    exact l
  have k0 := key _ rfl
  have em : min (nn : Int) (F : Int) = nn := by omega
  refine zr_aload_n (pc := 0) S dX4_read_0 rfl ?_
  refine zr_iload_n (pc := 1) S dX4_read_1 rfl ?_
  refine zr_aload_n (pc := 2) S dX4_read_2 rfl ?_
  refine zr_getI (pc := 3) S fX4_read_26 dX4_read_3 rfl (Nat.le_of_ble_eq_true rfl) rfl ?_
  rw [hf]
  refine zr_mmin (pc := 6) S kX4_read_29 dX4_read_6 (Nat.le_of_ble_eq_true rfl) (Nat.le_of_ble_eq_true rfl) ⟨Nat.le_of_ble_eq_true rfl, Nat.le_of_ble_eq_true rfl⟩ ?_
  rw [em]
  refine zr_putI (pc := 9) S pX4_read_35 dX4_read_9 rfl (Nat.le_of_ble_eq_true rfl) rfl ?_
  refine zr_aload_n (pc := 12) S dX4_read_12 rfl ?_
  refine zr_iconst (pc := 13) S dX4_read_13 (by unfold zrI; omega) ?_
  refine zr_putI (pc := 14) S pX4_read_26 dX4_read_14 rfl (Nat.le_of_ble_eq_true rfl) rfl ?_
  refine zr_aload_n (pc := 17) S dX4_read_17 rfl ?_
  refine zr_iconst (pc := 18) S dX4_read_18 (by unfold zrI; omega) ?_
  refine zr_putI (pc := 19) S pX4_read_38 dX4_read_19 rfl (Nat.le_of_ble_eq_true rfl) rfl ?_
  refine zr_aload_n (pc := 22) S dX4_read_22 rfl ?_
  refine zr_iconst (pc := 23) S dX4_read_23 (by unfold zrI; omega) ?_
  refine zr_putI (pc := 24) S pX4_read_41 dX4_read_24 rfl (Nat.le_of_ble_eq_true rfl) rfl ?_
  refine zr_aload_n (pc := 27) S dX4_read_27 rfl ?_
  refine zr_iconst (pc := 28) S dX4_read_28 (by unfold zrI; omega) ?_
  refine zr_putI (pc := 29) S pX4_read_15 dX4_read_29 rfl (Nat.le_of_ble_eq_true rfl) rfl ?_
  refine zr_aload_n (pc := 32) S dX4_read_32 rfl ?_
  refine zr_getR (pc := 33) S fX4_read_22 dX4_read_33 rfl (Nat.le_of_ble_eq_true rfl) rfl ?_
  try simp only [zup_k, zup_e, ne_eq, Nat.reduceEqDiff, not_false_eq_true, zup_j]
  refine zr_iconst (pc := 36) S dX4_read_36 (by unfold zrI; omega) ?_
  refine zr_putI (pc := 37) S pX4_read_44 dX4_read_37 rfl (Nat.le_of_ble_eq_true rfl) rfl ?_
  refine zr_aload_n (pc := 40) S dX4_read_40 rfl ?_
  refine zr_invV (pc := 41) S [] (m_X4_advance _) kX4_read_47 dX4_read_41 rfl (Nat.le_of_ble_eq_true rfl) rfl (Nat.le_of_ble_eq_true rfl) ⟨Nat.le_of_ble_eq_true rfl, Nat.le_of_ble_eq_true rfl⟩ (us_X4_advance (n := nn) (p := 0) (by rw [zup_o _ (by decide), zup_j (by decide), zup_j (by decide), zup_j (by decide), zup_j (by decide), zup_e]) (by omega) (by rw [zup_o _ (by decide), zup_j (by decide), zup_j (by decide), zup_e]; rfl) (by omega) (fun N' hN' => ?_))
  dsimp only [zaft, Option.toList, List.cons_append, List.nil_append, Nat.add_zero]
  exact k0 N' hN'
end
