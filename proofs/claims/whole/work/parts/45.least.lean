section
/-- how many coins of a sort may be given, rows of coins, their value and their weight -/
def cap (M : zM) (h : Nat → Int) (k : Nat) : Nat := if isGood M k then (h k).toNat else 0
def val (M : zM) (k : Nat) : Nat := (M 4 k).toNat
def sumN (f : Nat → Nat) : Nat → Nat
  | 0 => 0
  | n + 1 => sumN f n + f n
def wV (x : Nat → Nat) (n : Nat) : Int := sumU (fun i => (x i : Int) * wgt i) n
def FV (c v : Nat → Nat) (n : Nat) (x : Nat → Nat) (s : Nat) : Prop := (∀ i, i < n → x i ≤ c i) ∧ sumN (fun i => x i * v i) n = s
def lsL (f : Nat → Int) (c v : Nat → Nat) (n top : Nat) : Prop := ∀ s, s ≤ top → (0 ≤ f s ∧ f s ≤ 1152921504606846976) ∧ (∀ x, FV c v n x s → f s ≤ wV x n) ∧ (f s = 1152921504606846976 ∨ ∃ x, FV c v n x s ∧ f s = wV x n)
theorem sumN_c {f g : Nat → Nat} : ∀ n, (∀ i, i < n → f i = g i) → sumN f n = sumN g n
  | 0, _ => rfl
  | n + 1, h => by
    simp only [sumN]
    rw [sumN_c n (fun i hi => h i (by omega)), h n (by omega)]
theorem sumU_c {f g : Nat → Int} : ∀ n, (∀ i, i < n → f i = g i) → sumU f n = sumU g n
  | 0, _ => rfl
  | n + 1, h => by
    simp only [sumU]
    rw [sumU_c n (fun i hi => h i (by omega)), h n (by omega)]
theorem lsL_step {f g : Nat → Int} {c v : Nat → Nat} {n top : Nat} (h : lsL f c v n top) (hn : n < 8) (hb : Bst f g (v n) (wgt n) (c n) top) : lsL g c v (n + 1) top := fun s hs => by
  have w := wgt_r n hn
  obtain ⟨u, m, m1, m2, m3⟩ := hb s hs
  have u0 := u 0 (by omega) (by omega)
  have u1 : g s ≤ f s := by simpa using u0
  have a := h s hs
  have b := h (s - m * v n) (by omega)
  have wm : 0 ≤ (m : Int) * wgt n := Int.mul_nonneg (by omega) (by omega)
  refine ⟨⟨by omega, by omega⟩, fun x hx => ?_, ?_⟩
  · obtain ⟨x1, x2⟩ := hx
    simp only [sumN] at x2
    have u2 := u (x n) (x1 n (by omega)) (by omega)
    have u3 := (h (s - x n * v n) (by omega)).2.1 x ⟨fun i hi => x1 i (by omega), by omega⟩
    unfold wV at u3 ⊢
    simp only [sumU]
    omega
  · rcases b.2.2 with b1 | ⟨x, hx, b1⟩
    · left
      omega
    · right
      refine ⟨fun i => if i = n then m else x i, ⟨fun i hi => ?_, ?_⟩, ?_⟩
      · show (if i = n then m else x i) ≤ c i
        split
        · rename_i e; rw [e]; exact m1
        · exact hx.1 i (by omega)
      · simp only [sumN, if_true]
        rw [sumN_c (g := fun i => x i * v i) n (fun i hi => by rw [if_neg (by omega)]), hx.2]
        omega
      · unfold wV at b1 ⊢
        simp only [sumU, if_true]
        rw [sumU_c (g := fun i => (x i : Int) * wgt i) n (fun i hi => by rw [if_neg (by omega)]), ← b1]
        exact m3
theorem lsL_0 {f : Nat → Int} {c v : Nat → Nat} {top : Nat} (h0 : f 0 = 0) (h1 : ∀ j, 1 ≤ j → j ≤ top → f j = 1152921504606846976) : lsL f c v 0 top := fun s hs => by
  by_cases e : s = 0
  · subst e
    refine ⟨by omega, fun x _ => ?_, Or.inr ⟨fun _ => 0, ⟨fun i hi => by omega, rfl⟩, ?_⟩⟩
    · rw [h0]; exact Int.le_refl _
    · rw [h0]; rfl
  · have := h1 s (by omega) hs
    refine ⟨by omega, fun x hx => ?_, Or.inl this⟩
    have := hx.2
    simp only [sumN] at this
    omega
theorem lsL_up {f : Nat → Int} {c v : Nat → Nat} {top n : Nat} (h : lsL f c v n top) : ∀ m, n + m ≤ 8 → (∀ i, n ≤ i → i < 8 → c i = 0) → lsL f c v (n + m) top
  | 0, _, _ => h
  | m + 1, h8, h0 => by
    have a := lsL_up h m (by omega) h0
    show lsL f c v (n + m + 1) top
    refine lsL_step a (by omega) ?_
    rw [h0 (n + m) (by omega) (by omega)]
    exact Bst_0 _ _ _ _
theorem ag_isGood {M N : zM} (h : ∀ k, k < 11 → N k = M k) (k : Int) : isGood N k ↔ isGood M k := by
  unfold isGood
  rw [h 2 (by decide), h 4 (by decide), h 5 (by decide), h 6 (by decide), h 3 (by decide)]
theorem lp_X0_fill {E : zE} {X : zX} {Qp : Option zV → zM → Prop} {M : zM} {l1 l2 l3 l6 : Option zV} {top : Nat} (S : zS (zg E) X cX0_spread 7 wzX0_spread RX0 none) (htop : top ≤ 4800) (hk : ∀ l5, zK (zg E) rmX0_spread 7 (Qp, 0, 0) X (0, 0) 39 [some (zR 53), l1, l2, l3, some (zI top), l5, l6] [] (fillR M 54 (top + 1) 1152921504606846976)) : ∀ (m i : Nat), m + i = top + 1 → zK (zg E) rmX0_spread 7 (Qp, 0, 0) X (0, 0) 16 [some (zR 53), l1, l2, l3, some (zI top), some (zI i), l6] [] (fillR M 54 i 1152921504606846976) := by
  intro m
  induction m with
  | zero =>
    intro i hi
    have e : i = top + 1 := by omega
    subst e
    refine zr_iload (pc := 16) S dX0_spread_16 rfl ?_
    refine zr_iload (pc := 18) S dX0_spread_18 rfl ?_
    refine zr_icmp_gt (pc := 20) (tgt := 39) S dX0_spread_20 (by decide) (fun c20 => ?_) (fun c20 => absurd c20 (by omega))
    exact hk _
  | succ m ih =>
    intro i hi
    have e : (i : Int).toNat = i := Int.toNat_natCast i
    have q := ih (i + 1) (by omega)
    rw [← fillR_s] at q
    refine zr_iload (pc := 16) S dX0_spread_16 rfl ?_
    refine zr_iload (pc := 18) S dX0_spread_18 rfl ?_
    refine zr_icmp_gt (pc := 20) (tgt := 39) S dX0_spread_20 (by decide) (fun c20 => absurd c20 (by omega)) (fun c20 => ?_)
    refine zr_aload_n (pc := 23) S dX0_spread_23 rfl ?_
    refine zr_getR (pc := 24) S fX0_spread_11 dX0_spread_24 rfl (Nat.le_of_ble_eq_true rfl) rfl ?_
    refine zr_iload (pc := 27) S dX0_spread_27 rfl ?_
    refine zr_ldc2 (pc := 29) S (1152921504606846976) dX0_spread_29 (List.mem_cons_of_mem _ (zWi_7 _ (List.mem_of_getElem? (i := 2) rfl))) (by unfold zrL; omega) ?_
    refine zr_lastore (pc := 32) S dX0_spread_32 rfl (Nat.le_of_ble_eq_true rfl) (by omega) (by omega) ?_
    rw [e]
    refine zr_iinc (pc := 33) S dX0_spread_33 rfl (by unfold zrI; omega) (by decide) ?_
    dsimp only [zst1, zst2, zset, zget, zlong]
    refine zr_goto (pc := 36) (tgt := 16) S dX0_spread_36 (by decide) ?_
    exact q
theorem lp_X0_spread {E : zE} {X : zX} {Qp : Option zV → zM → Prop} {M : zM} {c n at_ top : Nat} {l3 : Option zV} (S : zS (zg E) X cX0_spread 7 wzX0_spread RX0 none) (hY : zly c = .inl (0, n)) (hc : c < zNC) (hcl : c ≠ 54) (hat : at_ + 8 ≤ n) (hn : n ≤ 1000) (hs : ICs M) (htop : top ≤ 4800) (hh : ∀ k, k < 8 → 0 ≤ M c (at_ + k) ∧ M c (at_ + k) ≤ 20) (hQ : ∀ (r : Option zV) (M' : zM), (r = none ∧ offL M M' ∧ lsL (M' 54) (cap M (fun k => M c (at_ + k))) (val M) 8 top) → Qp r M') : ∀ (m k rc : Nat) (T : zM), (m : Int) + k = M 2 0 → rc ≤ top → offL M T → lsL (T 54) (cap M (fun k => M c (at_ + k))) (val M) k top → (∀ j, rc < j → j ≤ top → T 54 j = 1152921504606846976) → zK (zg E) rmX0_spread 7 (Qp, 0, 0) X (0, 0) 52 [some (zR 53), some (zR c), some (zI at_), l3, some (zI top), some (zI rc), some (zI k)] [] T := by
  have h8 := hs.1
  intro m
  induction m with
  | zero =>
    intro k rc T hk hrc hT hL hF
    have e2 : T 2 = M 2 := hT 2 (by decide)
    have q := hQ none T ⟨rfl, hT, by
      have := lsL_up hL (8 - k) (by omega) (fun i h1 h2 => by unfold cap; rw [if_neg (by omega)])
      rw [show k + (8 - k) = 8 by omega] at this
      exact this⟩
    refine zr_iload (pc := 52) S dX0_spread_52 rfl ?_
    refine zr_aload_n (pc := 54) S dX0_spread_54 rfl ?_
    refine zr_getR (pc := 55) S fX0_spread_19 dX0_spread_55 rfl (Nat.le_of_ble_eq_true rfl) rfl ?_
    refine zr_getI (pc := 58) S fX0_spread_34 dX0_spread_58 rfl (Nat.le_of_ble_eq_true rfl) rfl ?_
    rw [e2]
    refine zr_icmp_ge (pc := 61) (tgt := 100) S dX0_spread_61 (by decide) (fun c61 => ?_) (fun c61 => absurd c61 (by omega))
    exact zr_vret (pc := 100) S dX0_spread_100 rfl ⟨Nat.le_refl _, Nat.le_refl _⟩ (q)
  | succ m ih =>
    intro k rc T hk hrc hT hL hF
    have e2 : T 2 = M 2 := hT 2 (by decide)
    have e : (k : Int).toNat = k := Int.toNat_natCast k
    have h9 := hh k (by omega)
    have ag : ∀ k', k' < 11 → T k' = M k' := fun k' hk' => hT k' (by omega)
    have hsT : ICs T := by
      unfold ICs at *
      rw [ag 2 (by decide), ag 3 (by decide), ag 4 (by decide), ag 9 (by decide), ag 10 (by decide), ag 7 (by decide), ag 8 (by decide)]
      exact hs
    have eg := ag_isGood ag (k : Int)
    have hv := hs.v (k := (k : Int)) (by omega) (by omega)
    rw [e] at hv
    have ea : ((at_ : Int) + k).toNat = at_ + k := by omega
    have eT : T c = M c := hT c hcl
    have ev : M 4 k = (val M k : Nat) := by unfold val; omega
    refine zr_iload (pc := 52) S dX0_spread_52 rfl ?_
    refine zr_aload_n (pc := 54) S dX0_spread_54 rfl ?_
    refine zr_getR (pc := 55) S fX0_spread_19 dX0_spread_55 rfl (Nat.le_of_ble_eq_true rfl) rfl ?_
    refine zr_getI (pc := 58) S fX0_spread_34 dX0_spread_58 rfl (Nat.le_of_ble_eq_true rfl) rfl ?_
    rw [e2]
    refine zr_icmp_ge (pc := 61) (tgt := 100) S dX0_spread_61 (by decide) (fun c61 => absurd c61 (by omega)) (fun c61 => ?_)
    refine zr_aload_n (pc := 64) S dX0_spread_64 rfl ?_
    refine zr_getR (pc := 65) S fX0_spread_19 dX0_spread_65 rfl (Nat.le_of_ble_eq_true rfl) rfl ?_
    refine zr_iload (pc := 68) S dX0_spread_68 rfl ?_
    refine zr_invV (pc := 70) S [zI _] (m_X7_isGood _) kX0_spread_40 dX0_spread_70 rfl (Nat.le_of_ble_eq_true rfl) rfl (Nat.le_of_ble_eq_true rfl) ⟨Nat.le_of_ble_eq_true rfl, Nat.le_of_ble_eq_true rfl⟩ (us_X7_isGood hsT ?_)
    dsimp only [zaft, Option.toList, List.cons_append, List.nil_append, Nat.add_zero]
    refine zr_if_eq (pc := 73) (tgt := 94) S dX0_spread_73 (by decide) (fun c73 => ?_) (fun c73 => ?_)
    · rw [b01_0] at c73
      rw [eg] at c73
      have cz : cap M (fun k => M c (at_ + k)) k = 0 := by unfold cap; rw [if_neg c73]
      have q := ih (k + 1) rc T (by omega) hrc hT (lsL_step hL (by omega) (by rw [cz]; exact Bst_0 _ _ _ _)) hF
      refine zr_iinc (pc := 94) S dX0_spread_94 rfl (by unfold zrI; omega) (by decide) ?_
      dsimp only [zst1, zst2, zset, zget, zlong]
      refine zr_goto (pc := 97) (tgt := 52) S dX0_spread_97 (by decide) ?_
      exact q
    · rw [b01_0, Classical.not_not] at c73
      rw [eg] at c73
      have hv1 := c73.2.1
      rw [e] at hv1
      have cz : (cap M (fun k => M c (at_ + k)) k : Int) = M c (at_ + k) := by unfold cap; rw [if_pos c73]; exact Int.toNat_of_nonneg h9.1
      refine zr_aload_n (pc := 76) S dX0_spread_76 rfl ?_
      refine zr_iload (pc := 77) S dX0_spread_77 rfl ?_
      refine zr_aload_n (pc := 79) S dX0_spread_79 rfl ?_
      refine zr_iload_n (pc := 80) S dX0_spread_80 rfl ?_
      refine zr_iload (pc := 81) S dX0_spread_81 rfl ?_
      refine zr_iadd (pc := 83) S dX0_spread_83 (by unfold zrI; omega) ?_
      refine zr_iaload (pc := 84) S dX0_spread_84 hY hc (by omega) (by omega) ?_
      rw [ea, eT, ← cz]
      refine zr_iload (pc := 85) S dX0_spread_85 rfl ?_
      refine zr_iload (pc := 87) S dX0_spread_87 rfl ?_
      refine zr_invV (pc := 89) S [zI _, zI _, zI _, zI _] (m_X0_spreadSort _) kX0_spread_44 dX0_spread_89 rfl (Nat.le_of_ble_eq_true rfl) rfl (Nat.le_of_ble_eq_true rfl) ⟨Nat.le_of_ble_eq_true rfl, Nat.le_of_ble_eq_true rfl⟩ (us_X0_spreadSort (v := val M k) (by omega) (by omega) (by omega) htop (by omega) (by rw [ag 4 (by decide)]; exact ev) hrc (fun j hj => (hL j hj).1) hF ?_)
      dsimp only [zaft, Option.toList, List.cons_append, List.nil_append, Nat.add_zero]
      rintro r T2 ⟨rc2, rfl, r1, r2, r3⟩
      dsimp only [zaft, Option.toList, List.cons_append, List.nil_append]
      have q := ih (k + 1) rc2 T2 (by omega) r1 (fun k' hk' => by rw [r2 k' hk', hT k' hk']) (lsL_step hL (by omega) r3.1) r3.2.2
      refine zr_istore (pc := 92) S dX0_spread_92 (by decide) ?_
      dsimp only [zst1, zst2, zset, zget, zlong]
      refine zr_iinc (pc := 94) S dX0_spread_94 rfl (by unfold zrI; omega) (by decide) ?_
      dsimp only [zst1, zst2, zset, zget, zlong]
      refine zr_goto (pc := 97) (tgt := 52) S dX0_spread_97 (by decide) ?_
      exact q
def sp_X0_spread (as : List zV) (M : zM) (Q : Option zV → zM → Prop) : Prop := ∃ (c n at_ : Nat) (w : Int), as = [zR 53, zR c, zI at_, zI w] ∧ (zly c = .inl (0, n)) ∧ (c < zNC) ∧ (c ≠ 54) ∧ (at_ + 8 ≤ n) ∧ (n ≤ 1000) ∧ (ICs M) ∧ (∀ k, k < 8 → 0 ≤ M c (at_ + k) ∧ M c (at_ + k) ≤ 20) ∧ (∀ (r : Option zV) (M' : zM), (r = none ∧ offL M M' ∧ lsL (M' 54) (cap M (fun k => M c (at_ + k))) (val M) 8 (max 0 (min w 4800)).toNat) → Q r M')
theorem us_X0_spread {c n at_ : Nat} {w : Int} {M : zM} {Q : Option zV → zM → Prop} (hY : zly c = .inl (0, n)) (hc : c < zNC) (hcl : c ≠ 54) (hat : at_ + 8 ≤ n) (hn : n ≤ 1000) (hs : ICs M) (hh : ∀ k, k < 8 → 0 ≤ M c (at_ + k) ∧ M c (at_ + k) ≤ 20) (h99 : (∀ (r : Option zV) (M' : zM), (r = none ∧ offL M M' ∧ lsL (M' 54) (cap M (fun k => M c (at_ + k))) (val M) 8 (max 0 (min w 4800)).toNat) → Q r M')) : sp_X0_spread [zR 53, zR c, zI at_, zI w] M Q := ⟨c, n, at_, w, rfl, hY, hc, hcl, hat, hn, hs, hh, h99⟩
set_option maxRecDepth 20000 in
set_option maxHeartbeats 4000000 in
theorem m_X0_spread (l : Launch) : zC l yX0_spread wzX0_spread rmX0_spread sp_X0_spread := by
  refine zMet.of RX0 (by decide +kernel) rfl rfl ?_
  intro E X as M Qp hX S hsp
  obtain ⟨c, n, at_, w, rfl, hY, hc, hcl, hat, hn, hs, hh, hQ⟩ := hsp
  refine ⟨Nat.le_of_ble_eq_true rfl, ?_⟩
  dsimp only [zpad, zargs]
  have et : max 0 (min w 4800) = ((max 0 (min w 4800)).toNat : Nat) := by omega
  have e0 : fillR M 54 0 1152921504606846976 = M := by funext k' j; simp [fillR]
  have q1 := lp_X0_spread (l3 := some (zI w)) S hY hc hcl hat hn hs (top := (max 0 (min w 4800)).toNat) (by omega) hh hQ (M 2 0).toNat 0 0 (zup (fillR M 54 ((max 0 (min w 4800)).toNat + 1) 1152921504606846976) 54 0 0) (by have := hs.1; omega) (by omega) (fun k hk => by rw [zup_o k hk, fillR_o k hk]) (lsL_0 zup_e (fun j h1 h2 => by rw [zup_j (by omega), fillR_e (by omega)])) (fun j h1 h2 => by rw [zup_j (by omega), fillR_e (by omega)])
  generalize (max 0 (min w 4800)).toNat = top at *
  have q := fun l6 => lp_X0_fill (M := M) (l1 := some (zR c)) (l2 := some (zI at_)) (l3 := some (zI w)) (l6 := l6) (top := top) (Qp := Qp) S (by omega) (fun l5 => by
    refine zr_aload_n (pc := 39) S dX0_spread_39 rfl ?_
    refine zr_getR (pc := 40) S fX0_spread_11 dX0_spread_40 rfl (Nat.le_of_ble_eq_true rfl) rfl ?_
    refine zr_iconst (pc := 43) S dX0_spread_43 (by unfold zrI; omega) ?_
    refine zr_lconst0 (pc := 44) S dX0_spread_44 ?_
    refine zr_lastore (pc := 45) S dX0_spread_45 rfl (Nat.le_of_ble_eq_true rfl) (by omega) (by omega) ?_
    refine zr_iconst (pc := 46) S dX0_spread_46 (by unfold zrI; omega) ?_
    refine zr_istore (pc := 47) S dX0_spread_47 (by decide) ?_
    dsimp only [zst1, zst2, zset, zget, zlong]
    refine zr_iconst (pc := 49) S dX0_spread_49 (by unfold zrI; omega) ?_
    refine zr_istore (pc := 50) S dX0_spread_50 (by decide) ?_
    dsimp only [zst1, zst2, zset, zget, zlong]
    exact q1)
  have q2 := fun l6 => q l6 (top + 1) 0 (by omega)
  rw [e0] at q2
  refine zr_iconst (pc := 0) S dX0_spread_0 (by unfold zrI; omega) ?_
  refine zr_iload_n (pc := 1) S dX0_spread_1 rfl ?_
  refine zr_sipush (pc := 2) S dX0_spread_2 ⟨by unfold zrI; omega, by decide⟩ ?_
  refine zr_mmin (pc := 5) S kX0_spread_23 dX0_spread_5 (Nat.le_of_ble_eq_true rfl) (Nat.le_of_ble_eq_true rfl) ⟨Nat.le_of_ble_eq_true rfl, Nat.le_of_ble_eq_true rfl⟩ ?_
  refine zr_mmax (pc := 8) S kX0_spread_29 dX0_spread_8 (Nat.le_of_ble_eq_true rfl) (Nat.le_of_ble_eq_true rfl) ⟨Nat.le_of_ble_eq_true rfl, Nat.le_of_ble_eq_true rfl⟩ ?_
  rw [et]
  refine zr_istore (pc := 11) S dX0_spread_11 (by decide) ?_
  dsimp only [zst1, zst2, zset, zget, zlong]
  refine zr_iconst (pc := 13) S dX0_spread_13 (by unfold zrI; omega) ?_
  refine zr_istore (pc := 14) S dX0_spread_14 (by decide) ?_
  dsimp only [zst1, zst2, zset, zget, zlong]
  exact q2 _
end
