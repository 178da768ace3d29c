section
theorem layOn_I {B : Int} {M : zM} {t s : Int} (hI : ICt B M) (h0 : 0 ≤ t) (h1 : t < 8) (h2 : 0 ≤ s) (h3 : s < 8) : ICt (B + 1) (layOn M t s) := by
  obtain ⟨a, b, c, d, e⟩ := hI
  refine ⟨?_, ?_, fun t' ht' => ?_, fun j hj => ?_, fun i hi => ?_⟩
  · rw [layOn_o (by decide)]; exact a
  · rw [layOn_o (by decide)]; exact b
  · have c1 := c t' ht'
    rw [layOn_o (k := 21) (by decide), layOn_o (k := 22) (by decide)]
    unfold layOn
    split
    · rename_i hh
      have c2 := c t.toNat (by omega)
      simp only [zup, Nat.reduceEqDiff, if_true, if_false]
      split <;> omega
    · simp only [zup, Nat.reduceEqDiff, if_true, if_false]
      have c3 := c s.toNat (by omega)
      split
      · rename_i hh; omega
      · omega
  · have d1 := d j hj
    unfold layOn
    split
    · simp only [zup, Nat.reduceEqDiff, if_true, if_false]
      split <;> omega
    · simp only [zup, Nat.reduceEqDiff, if_false]
      exact d1
  · rw [layOn_o (by decide), layOn_o (by decide), layOn_o (by decide), layOn_o (by decide)]
    exact e i hi
theorem ICt.w {B B' : Int} {M : zM} (h : ICt B M) (hb : B ≤ B') : ICt B' M := by
  obtain ⟨a, b, c, d, e⟩ := h
  exact ⟨a, b, fun t ht => by have := c t ht; omega, d, e⟩
/-- the coins of the slide come to the tubes -/
def s2t (M : zM) : Nat → zM
  | 0 => M
  | n + 1 => if M 24 n = -1 then s2t M n else layOn (s2t M n) (M 25 n) (M 24 n)
theorem s2t_o {M : zM} {k : Nat} (h : k ≠ 18 ∧ k ≠ 19 ∧ k ≠ 20) : ∀ n, s2t M n k = M k
  | 0 => rfl
  | n + 1 => by
    simp only [s2t]
    split
    · exact s2t_o h n
    · rw [layOn_o h, s2t_o h n]
theorem s2t_I {B : Int} {M : zM} (hI : ICt B M) : ∀ n : Nat, n ≤ 12 → ICt (B + n) (s2t M n)
  | 0, _ => by simp only [s2t]; exact hI.w (by omega)
  | n + 1, hn => by
    have a := s2t_I hI n (by omega)
    have b := hI.2.2.2.2 n (by omega)
    simp only [s2t]
    split
    · exact a.w (by omega)
    · rename_i hh
      exact (layOn_I a b.2.2.1 b.2.2.2.1 (by omega) b.2.1).w (by omega)
theorem lp_X9_slideToTubes {E : zE} {X : zX} {Qp : Option zV → zM → Prop} {M : zM} {B : Int} (S : zS (zg E) X cX9_slideToTubes 2 wzX9_slideToTubes RX9 none) (hI : ICt B M) (hB : B ≤ 999000) (hQ : Qp none (zup (s2t M (M 17 6).toNat) 17 6 0)) : ∀ (n i : Nat), (n : Int) + i = M 17 6 → zK (zg E) rmX9_slideToTubes 2 (Qp, 0, 0) X (0, 0) 2 [some (zR 17), some (zI i)] [] (s2t M i) := by
  have a := hI.1
  have e6 : ∀ i, s2t M i 17 = M 17 := s2t_o (by decide)
  have ec : ∀ i, s2t M i 24 = M 24 := s2t_o (by decide)
  have ea : ∀ i, s2t M i 25 = M 25 := s2t_o (by decide)
  intro n
  induction n with
  | zero =>
    intro i hi
    have e : i = (M 17 6).toNat := by omega
    rw [← e] at hQ
    refine zr_iload_n (pc := 2) S dX9_slideToTubes_2 rfl ?_
    refine zr_aload_n (pc := 3) S dX9_slideToTubes_3 rfl ?_
    refine zr_getI (pc := 4) S fX9_slideToTubes_53 dX9_slideToTubes_4 rfl (Nat.le_of_ble_eq_true rfl) rfl ?_
    rw [e6]
    refine zr_icmp_ge (pc := 7) (tgt := 42) S dX9_slideToTubes_7 (by decide) (fun c7 => ?_) (fun c7 => absurd c7 (by omega))
    refine zr_aload_n (pc := 42) S dX9_slideToTubes_42 rfl ?_
    refine zr_iconst (pc := 43) S dX9_slideToTubes_43 (by unfold zrI; omega) ?_
    refine zr_putI (pc := 44) S pX9_slideToTubes_53 dX9_slideToTubes_44 rfl (Nat.le_of_ble_eq_true rfl) rfl ?_
    exact zr_vret (pc := 47) S dX9_slideToTubes_47 rfl ⟨Nat.le_refl _, Nat.le_refl _⟩ (hQ)
  | succ n ih =>
    intro i hi
    have b := hI.2.2.2.2 i (by omega)
    have c := s2t_I hI i (by omega)
    have e : (i : Int).toNat = i := Int.toNat_natCast i
    have k := ih (i + 1) (by omega)
    refine zr_iload_n (pc := 2) S dX9_slideToTubes_2 rfl ?_
    refine zr_aload_n (pc := 3) S dX9_slideToTubes_3 rfl ?_
    refine zr_getI (pc := 4) S fX9_slideToTubes_53 dX9_slideToTubes_4 rfl (Nat.le_of_ble_eq_true rfl) rfl ?_
    rw [e6]
    refine zr_icmp_ge (pc := 7) (tgt := 42) S dX9_slideToTubes_7 (by decide) (fun c7 => absurd c7 (by omega)) (fun c7 => ?_)
    refine zr_aload_n (pc := 10) S dX9_slideToTubes_10 rfl ?_
    refine zr_getR (pc := 11) S fX9_slideToTubes_30 dX9_slideToTubes_11 rfl (Nat.le_of_ble_eq_true rfl) rfl ?_
    refine zr_iload_n (pc := 14) S dX9_slideToTubes_14 rfl ?_
    refine zr_iaload (pc := 15) S dX9_slideToTubes_15 rfl (Nat.le_of_ble_eq_true rfl) (by omega) (by omega) ?_
    rw [ec, e]
    refine zr_iconst (pc := 16) S dX9_slideToTubes_16 (by unfold zrI; omega) ?_
    refine zr_icmp_eq (pc := 17) (tgt := 36) S dX9_slideToTubes_17 (by decide) (fun c17 => ?_) (fun c17 => ?_)
    · simp only [s2t] at k
      rw [if_pos c17] at k
      refine zr_iinc (pc := 36) S dX9_slideToTubes_36 rfl (by unfold zrI; omega) (by decide) ?_
      dsimp only [zst1, zst2, zset, zget, zlong]
      refine zr_goto (pc := 39) (tgt := 2) S dX9_slideToTubes_39 (by decide) ?_
      exact k
    · simp only [s2t] at k
      rw [if_neg c17] at k
      refine zr_aload_n (pc := 20) S dX9_slideToTubes_20 rfl ?_
      refine zr_aload_n (pc := 21) S dX9_slideToTubes_21 rfl ?_
      refine zr_getR (pc := 22) S fX9_slideToTubes_33 dX9_slideToTubes_22 rfl (Nat.le_of_ble_eq_true rfl) rfl ?_
      refine zr_iload_n (pc := 25) S dX9_slideToTubes_25 rfl ?_
      refine zr_iaload (pc := 26) S dX9_slideToTubes_26 rfl (Nat.le_of_ble_eq_true rfl) (by omega) (by omega) ?_
      rw [ea, e]
      refine zr_aload_n (pc := 27) S dX9_slideToTubes_27 rfl ?_
      refine zr_getR (pc := 28) S fX9_slideToTubes_30 dX9_slideToTubes_28 rfl (Nat.le_of_ble_eq_true rfl) rfl ?_
      refine zr_iload_n (pc := 31) S dX9_slideToTubes_31 rfl ?_
      refine zr_iaload (pc := 32) S dX9_slideToTubes_32 rfl (Nat.le_of_ble_eq_true rfl) (by omega) (by omega) ?_
      rw [ec, e]
      refine zr_invV (pc := 33) S [zI _, zI _] (m_X9_layOn _) kX9_slideToTubes_45 dX9_slideToTubes_33 rfl (Nat.le_of_ble_eq_true rfl) rfl (Nat.le_of_ble_eq_true rfl) ⟨Nat.le_of_ble_eq_true rfl, Nat.le_of_ble_eq_true rfl⟩ (us_X9_layOn c (by omega) (by omega) (by omega) (by omega) (by omega) ?_)
      dsimp only [zaft, Option.toList, List.cons_append, List.nil_append, Nat.add_zero]
      refine zr_iinc (pc := 36) S dX9_slideToTubes_36 rfl (by unfold zrI; omega) (by decide) ?_
      dsimp only [zst1, zst2, zset, zget, zlong]
      refine zr_goto (pc := 39) (tgt := 2) S dX9_slideToTubes_39 (by decide) ?_
      exact k
def sp_X9_slideToTubes (as : List zV) (M : zM) (Q : Option zV → zM → Prop) : Prop := ∃ (B : Int), as = [zR 17] ∧ (ICt B M) ∧ (B ≤ 999000) ∧ Q (none) (zup (s2t M (M 17 6).toNat) 17 6 0)
theorem us_X9_slideToTubes {B : Int} {M : zM} {Q : Option zV → zM → Prop} (hI : ICt B M) (hB : B ≤ 999000) (h99 : Q (none) (zup (s2t M (M 17 6).toNat) 17 6 0)) : sp_X9_slideToTubes [zR 17] M Q := ⟨B, rfl, hI, hB, h99⟩
set_option maxRecDepth 20000 in
set_option maxHeartbeats 4000000 in
theorem m_X9_slideToTubes (l : Launch) : zC l yX9_slideToTubes wzX9_slideToTubes rmX9_slideToTubes sp_X9_slideToTubes := by
  refine zMet.of RX9 (by decide +kernel) rfl rfl ?_
  intro E X as M Qp hX S hsp
  obtain ⟨B, rfl, hI, hB, hQ⟩ := hsp
  refine ⟨Nat.le_of_ble_eq_true rfl, ?_⟩
  dsimp only [zpad, zargs]
  have a := hI.1
  refine zr_iconst (pc := 0) S dX9_slideToTubes_0 (by unfold zrI; omega) ?_
  refine zr_istore_n (pc := 1) S 1 dX9_slideToTubes_1 rfl (by decide) ?_
  dsimp only [zst1, zst2, zset, zget, zlong]
  exact lp_X9_slideToTubes S hI hB hQ (M 17 6).toNat 0 (by omega)
/-- change out of a tube -/
def gvF (M : zM) (t : Int) : Nat → zM
  | 0 => M
  | n + 1 => zup (zup (giveOut (gvF M t n) (topOf (gvF M t n) t)) 19 t.toNat (gvF M t n 19 t.toNat - 1)) 22 t.toNat (gvF M t n 22 t.toNat - 1)
theorem gvF_o {M : zM} {t : Int} {k : Nat} (h : k ≠ 28 ∧ k ≠ 17 ∧ k ≠ 19 ∧ k ≠ 22) : ∀ n, gvF M t n k = M k
  | 0 => rfl
  | n + 1 => by
    simp only [gvF]
    rw [zup_o k h.2.2.2, zup_o k h.2.2.1, giveOut_o ⟨h.1, h.2.1⟩, gvF_o h n]
theorem gvF_6 {M : zM} {t : Int} : ∀ n, gvF M t n 17 6 = M 17 6
  | 0 => rfl
  | n + 1 => by
    simp only [gvF]
    rw [zup_k (by decide), zup_k (by decide), giveOut_m, gvF_6 n]
theorem gvF_g {B : Int} {M : zM} {t : Int} (hI : ICt B M) : ∀ n, 0 ≤ gvF M t n 17 11 ∧ gvF M t n 17 11 ≤ 160
  | 0 => hI.2.1
  | n + 1 => by
    simp only [gvF]
    rw [zup_k (by decide), zup_k (by decide)]
    exact giveOut_g (gvF_g hI n)
theorem gvF_h {M : zM} {t : Int} : ∀ n, gvF M t n 19 t.toNat = M 19 t.toNat - n
  | 0 => by simp [gvF]
  | n + 1 => by
    simp only [gvF]
    rw [zup_k (by decide), zup_e, gvF_h n]
    omega
theorem gvF_hs {M : zM} {t : Int} {s : Nat} (h : s ≠ t.toNat) : ∀ n, gvF M t n 19 s = M 19 s ∧ gvF M t n 22 s = M 22 s
  | 0 => ⟨rfl, rfl⟩
  | n + 1 => by
    have a := gvF_hs (M := M) h n
    simp only [gvF]
    rw [zup_k (by decide), zup_j h, zup_j h, zup_k (by decide), giveOut_o (by decide), giveOut_o (by decide)]
    exact a
theorem gvF_w {M : zM} {t : Int} : ∀ n, gvF M t n 22 t.toNat = M 22 t.toNat - n
  | 0 => by simp [gvF]
  | n + 1 => by
    simp only [gvF]
    rw [zup_e, gvF_w n]
    omega
theorem gvF_I {B : Int} {M : zM} {t : Int} (hI : ICt B M) (h0 : 0 ≤ t) (h1 : t < 8) (n : Nat) (hn : (n : Int) ≤ M 19 t.toNat) : ICt (B + n) (gvF M t n) := by
  have hg := gvF_g (t := t) hI n
  obtain ⟨a, b, c, d, e⟩ := hI
  refine ⟨by rw [gvF_6]; exact a, hg, fun s hs => ?_, fun j hj => ?_, fun i hi => ?_⟩
  · have c1 := c s hs
    rw [gvF_o (k := 20) (by decide), gvF_o (k := 21) (by decide)]
    by_cases hst : s = t.toNat
    · rw [hst, gvF_h, gvF_w]
      rw [hst] at c1
      omega
    · have q := gvF_hs (M := M) hst n
      rw [q.1, q.2]
      omega
  · rw [gvF_o (by decide)]; exact d j hj
  · rw [gvF_o (by decide), gvF_o (by decide), gvF_o (by decide), gvF_o (by decide)]; exact e i hi
theorem lp_X9_giveFrom {E : zE} {X : zX} {Qp : Option zV → zM → Prop} {M : zM} {B t : Int} {m : Nat} (S : zS (zg E) X cX9_giveFrom 4 wzX9_giveFrom RX9 none) (hI : ICt B M) (hB : B ≤ 999000) (h0 : 0 ≤ t) (h1 : t < 8) (hm : (m : Int) ≤ M 19 t.toNat) (hQ : Qp none (gvF M t m)) : ∀ (n i : Nat), n + i = m → zK (zg E) rmX9_giveFrom 4 (Qp, 0, 0) X (0, 0) 2 [some (zR 17), some (zI t), some (zI m), some (zI i)] [] (gvF M t i) := by
  have a := hI.b h0 h1
  intro n
  induction n with
  | zero =>
    intro i hi
    have e : i = m := by omega
    subst e
    refine zr_iload_n (pc := 2) S dX9_giveFrom_2 rfl ?_
    refine zr_iload_n (pc := 3) S dX9_giveFrom_3 rfl ?_
    refine zr_icmp_ge (pc := 4) (tgt := 51) S dX9_giveFrom_4 (by decide) (fun c4 => ?_) (fun c4 => absurd c4 (by omega))
    exact zr_vret (pc := 51) S dX9_giveFrom_51 rfl ⟨Nat.le_refl _, Nat.le_refl _⟩ (hQ)
  | succ n ih =>
    intro i hi
    have k := ih (i + 1) (by omega)
    have hh := gvF_h (M := M) (t := t) i
    have hw := gvF_w (M := M) (t := t) i
    have hg := gvF_g (t := t) hI i
    have hi2 := gvF_I hI h0 h1 i (by omega)
    have eg := giveOut_o (M := gvF M t i) (s := topOf (gvF M t i) t) (k := 19) (by decide)
    have ew := giveOut_o (M := gvF M t i) (s := topOf (gvF M t i) t) (k := 22) (by decide)
    simp only [gvF] at k
    refine zr_iload_n (pc := 2) S dX9_giveFrom_2 rfl ?_
    refine zr_iload_n (pc := 3) S dX9_giveFrom_3 rfl ?_
    refine zr_icmp_ge (pc := 4) (tgt := 51) S dX9_giveFrom_4 (by decide) (fun c4 => absurd c4 (by omega)) (fun c4 => ?_)
    refine zr_aload_n (pc := 7) S dX9_giveFrom_7 rfl ?_
    refine zr_getR (pc := 8) S fX9_giveFrom_15 dX9_giveFrom_8 rfl (Nat.le_of_ble_eq_true rfl) rfl ?_
    refine zr_iload_n (pc := 11) S dX9_giveFrom_11 rfl ?_
    refine zr_iaload (pc := 12) S dX9_giveFrom_12 rfl (Nat.le_of_ble_eq_true rfl) (by omega) (by omega) ?_
    refine zr_if_le (pc := 13) (tgt := 51) S dX9_giveFrom_13 (by decide) (fun c13 => absurd c13 (by omega)) (fun c13 => ?_)
    refine zr_aload_n (pc := 16) S dX9_giveFrom_16 rfl ?_
    refine zr_aload_n (pc := 17) S dX9_giveFrom_17 rfl ?_
    refine zr_iload_n (pc := 18) S dX9_giveFrom_18 rfl ?_
    refine zr_invV (pc := 19) S [zI _] (m_X9_top _) kX9_giveFrom_57 dX9_giveFrom_19 rfl (Nat.le_of_ble_eq_true rfl) rfl (Nat.le_of_ble_eq_true rfl) ⟨Nat.le_of_ble_eq_true rfl, Nat.le_of_ble_eq_true rfl⟩ (us_X9_top hi2 h0 h1 ?_)
    dsimp only [zaft, Option.toList, List.cons_append, List.nil_append, Nat.add_zero]
    refine zr_invV (pc := 22) S [zI _] (m_X9_giveOut _) kX9_giveFrom_61 dX9_giveFrom_22 rfl (Nat.le_of_ble_eq_true rfl) rfl (Nat.le_of_ble_eq_true rfl) ⟨Nat.le_of_ble_eq_true rfl, Nat.le_of_ble_eq_true rfl⟩ (us_X9_giveOut hg ?_)
    dsimp only [zaft, Option.toList, List.cons_append, List.nil_append, Nat.add_zero]
    refine zr_aload_n (pc := 25) S dX9_giveFrom_25 rfl ?_
    refine zr_getR (pc := 26) S fX9_giveFrom_15 dX9_giveFrom_26 rfl (Nat.le_of_ble_eq_true rfl) rfl ?_
    refine zr_iload_n (pc := 29) S dX9_giveFrom_29 rfl ?_
    refine zr_dup2 (pc := 30) S dX9_giveFrom_30 rfl rfl ?_
    refine zr_iaload (pc := 31) S dX9_giveFrom_31 rfl (Nat.le_of_ble_eq_true rfl) (by omega) (by omega) ?_
    rw [eg]
    refine zr_iconst (pc := 32) S dX9_giveFrom_32 (by unfold zrI; omega) ?_
    refine zr_isub (pc := 33) S dX9_giveFrom_33 (by unfold zrI; omega) ?_
    refine zr_iastore (pc := 34) S dX9_giveFrom_34 rfl (Nat.le_of_ble_eq_true rfl) (by omega) (by omega) ?_
    refine zr_aload_n (pc := 35) S dX9_giveFrom_35 rfl ?_
    refine zr_getR (pc := 36) S fX9_giveFrom_24 dX9_giveFrom_36 rfl (Nat.le_of_ble_eq_true rfl) rfl ?_
    try simp only [zup_k, zup_e, ne_eq, Nat.reduceEqDiff, not_false_eq_true, zup_j]
    refine zr_iload_n (pc := 39) S dX9_giveFrom_39 rfl ?_
    refine zr_dup2 (pc := 40) S dX9_giveFrom_40 rfl rfl ?_
    refine zr_iaload (pc := 41) S dX9_giveFrom_41 rfl (Nat.le_of_ble_eq_true rfl) (by omega) (by omega) ?_
    try simp only [zup_k, zup_e, ne_eq, Nat.reduceEqDiff, not_false_eq_true]
    rw [ew]
    refine zr_iconst (pc := 42) S dX9_giveFrom_42 (by unfold zrI; omega) ?_
    refine zr_isub (pc := 43) S dX9_giveFrom_43 (by unfold zrI; omega) ?_
    refine zr_iastore (pc := 44) S dX9_giveFrom_44 rfl (Nat.le_of_ble_eq_true rfl) (by omega) (by omega) ?_
    refine zr_iinc (pc := 45) S dX9_giveFrom_45 rfl (by unfold zrI; omega) (by decide) ?_
    dsimp only [zst1, zst2, zset, zget, zlong]
    refine zr_goto (pc := 48) (tgt := 2) S dX9_giveFrom_48 (by decide) ?_
    exact k
def sp_X9_giveFrom (as : List zV) (M : zM) (Q : Option zV → zM → Prop) : Prop := ∃ (B t : Int) (m : Nat), as = [zR 17, zI t, zI m] ∧ (ICt B M) ∧ (B ≤ 999000) ∧ (0 ≤ t) ∧ (t < 8) ∧ ((m : Int) ≤ M 19 t.toNat) ∧ Q (none) (gvF M t m)
theorem us_X9_giveFrom {B t : Int} {m : Nat} {M : zM} {Q : Option zV → zM → Prop} (hI : ICt B M) (hB : B ≤ 999000) (h0 : 0 ≤ t) (h1 : t < 8) (h2 : (m : Int) ≤ M 19 t.toNat) (h99 : Q (none) (gvF M t m)) : sp_X9_giveFrom [zR 17, zI t, zI m] M Q := ⟨B, t, m, rfl, hI, hB, h0, h1, h2, h99⟩
set_option maxRecDepth 20000 in
set_option maxHeartbeats 4000000 in
theorem m_X9_giveFrom (l : Launch) : zC l yX9_giveFrom wzX9_giveFrom rmX9_giveFrom sp_X9_giveFrom := by
  refine zMet.of RX9 (by decide +kernel) rfl rfl ?_
  intro E X as M Qp hX S hsp
  obtain ⟨B, t, m, rfl, hI, hB, h0, h1, h2, hQ⟩ := hsp
  refine ⟨Nat.le_of_ble_eq_true rfl, ?_⟩
  dsimp only [zpad, zargs]
  have a := hI.b h0 h1
  refine zr_iconst (pc := 0) S dX9_giveFrom_0 (by unfold zrI; omega) ?_
  refine zr_istore_n (pc := 1) S 3 dX9_giveFrom_1 rfl (by decide) ?_
  dsimp only [zst1, zst2, zset, zget, zlong]
  exact lp_X9_giveFrom S hI hB h0 h1 h2 hQ m 0 (by omega)
/-- the slide is given back -/
def sbU (M : zM) : Nat → zM
  | 0 => zup M 17 11 0
  | n + 1 => if M 24 n = -1 then zup (sbU M n) 22 (M 25 n).toNat (sbU M n 22 (M 25 n).toNat - M 26 n) else giveOut (zup (sbU M n) 22 (M 25 n).toNat (sbU M n 22 (M 25 n).toNat - M 26 n)) (M 24 n)
theorem sbU_o {M : zM} {k : Nat} (h : k ≠ 28 ∧ k ≠ 17 ∧ k ≠ 22) : ∀ n, sbU M n k = M k
  | 0 => zup_o k h.2.1
  | n + 1 => by
    simp only [sbU]
    split
    · rw [zup_o k h.2.2, sbU_o h n]
    · rw [giveOut_o ⟨h.1, h.2.1⟩, zup_o k h.2.2, sbU_o h n]
theorem sbU_6 {M : zM} : ∀ n, sbU M n 17 6 = M 17 6
  | 0 => zup_j (by decide)
  | n + 1 => by
    simp only [sbU]
    split
    · rw [zup_k (by decide), sbU_6 n]
    · rw [giveOut_m, zup_k (by decide), sbU_6 n]
theorem sbU_g {M : zM} : ∀ n, 0 ≤ sbU M n 17 11 ∧ sbU M n 17 11 ≤ 160
  | 0 => by simp only [sbU]; rw [zup_e]; omega
  | n + 1 => by
    have a := sbU_g (M := M) n
    simp only [sbU]
    split
    · rw [zup_k (by decide)]; exact a
    · refine giveOut_g ?_
      rw [zup_k (by decide)]; exact a
theorem sbU_w {B : Int} {M : zM} (hI : ICt B M) : ∀ n : Nat, n ≤ 12 → ∀ s : Nat, s < 8 → -B - 2 * n ≤ sbU M n 22 s ∧ sbU M n 22 s ≤ B
  | 0, _, s, hs => by
    have a := hI.2.2.1 s hs
    simp only [sbU]
    rw [zup_k (by decide)]
    omega
  | n + 1, hn, s, hs => by
    have a := sbU_w hI n (by omega) s hs
    have b := hI.2.2.2.2 n (by omega)
    have e : ∀ M' c, giveOut M' c 22 = M' 22 := fun M' c => giveOut_o (by decide)
    simp only [sbU]
    split
    · by_cases hq : s = (M 25 n).toNat
      · rw [hq, zup_e, ← hq]; omega
      · rw [zup_j hq]; omega
    · rw [e]
      by_cases hq : s = (M 25 n).toNat
      · rw [hq, zup_e, ← hq]; omega
      · rw [zup_j hq]; omega
theorem lp_X9_slideBack {E : zE} {X : zX} {Qp : Option zV → zM → Prop} {M : zM} {B : Int} (S : zS (zg E) X cX9_slideBack 2 wzX9_slideBack RX9 none) (hI : ICt B M) (hB : B ≤ 999000) (hQ : Qp none (zup (sbU M (M 17 6).toNat) 17 6 0)) : ∀ (n i : Nat), (n : Int) + i = M 17 6 → zK (zg E) rmX9_slideBack 2 (Qp, 0, 0) X (0, 0) 7 [some (zR 17), some (zI i)] [] (sbU M i) := by
  have a := hI.1
  have ec : ∀ i, sbU M i 24 = M 24 := sbU_o (by decide)
  have ea : ∀ i, sbU M i 25 = M 25 := sbU_o (by decide)
  have er : ∀ i, sbU M i 26 = M 26 := sbU_o (by decide)
  intro n
  induction n with
  | zero =>
    intro i hi
    have e : i = (M 17 6).toNat := by omega
    rw [← e] at hQ
    refine zr_iload_n (pc := 7) S dX9_slideBack_7 rfl ?_
    refine zr_aload_n (pc := 8) S dX9_slideBack_8 rfl ?_
    refine zr_getI (pc := 9) S fX9_slideBack_53 dX9_slideBack_9 rfl (Nat.le_of_ble_eq_true rfl) rfl ?_
    rw [sbU_6]
    refine zr_icmp_ge (pc := 12) (tgt := 61) S dX9_slideBack_12 (by decide) (fun c12 => ?_) (fun c12 => absurd c12 (by omega))
    refine zr_aload_n (pc := 61) S dX9_slideBack_61 rfl ?_
    refine zr_iconst (pc := 62) S dX9_slideBack_62 (by unfold zrI; omega) ?_
    refine zr_putI (pc := 63) S pX9_slideBack_53 dX9_slideBack_63 rfl (Nat.le_of_ble_eq_true rfl) rfl ?_
    exact zr_vret (pc := 66) S dX9_slideBack_66 rfl ⟨Nat.le_refl _, Nat.le_refl _⟩ (hQ)
  | succ n ih =>
    intro i hi
    have b := hI.2.2.2.2 i (by omega)
    have w := sbU_w hI i (by omega) (M 25 i).toNat (by omega)
    have g := sbU_g (M := M) i
    have e : (i : Int).toNat = i := Int.toNat_natCast i
    have k := ih (i + 1) (by omega)
    simp only [sbU] at k
    refine zr_iload_n (pc := 7) S dX9_slideBack_7 rfl ?_
    refine zr_aload_n (pc := 8) S dX9_slideBack_8 rfl ?_
    refine zr_getI (pc := 9) S fX9_slideBack_53 dX9_slideBack_9 rfl (Nat.le_of_ble_eq_true rfl) rfl ?_
    rw [sbU_6]
    refine zr_icmp_ge (pc := 12) (tgt := 61) S dX9_slideBack_12 (by decide) (fun c12 => absurd c12 (by omega)) (fun c12 => ?_)
    refine zr_aload_n (pc := 15) S dX9_slideBack_15 rfl ?_
    refine zr_getR (pc := 16) S fX9_slideBack_24 dX9_slideBack_16 rfl (Nat.le_of_ble_eq_true rfl) rfl ?_
    refine zr_aload_n (pc := 19) S dX9_slideBack_19 rfl ?_
    refine zr_getR (pc := 20) S fX9_slideBack_33 dX9_slideBack_20 rfl (Nat.le_of_ble_eq_true rfl) rfl ?_
    refine zr_iload_n (pc := 23) S dX9_slideBack_23 rfl ?_
    refine zr_iaload (pc := 24) S dX9_slideBack_24 rfl (Nat.le_of_ble_eq_true rfl) (by omega) (by omega) ?_
    rw [ea, e]
    refine zr_dup2 (pc := 25) S dX9_slideBack_25 rfl rfl ?_
    refine zr_iaload (pc := 26) S dX9_slideBack_26 rfl (Nat.le_of_ble_eq_true rfl) (by omega) (by omega) ?_
    refine zr_aload_n (pc := 27) S dX9_slideBack_27 rfl ?_
    refine zr_getR (pc := 28) S fX9_slideBack_36 dX9_slideBack_28 rfl (Nat.le_of_ble_eq_true rfl) rfl ?_
    refine zr_iload_n (pc := 31) S dX9_slideBack_31 rfl ?_
    refine zr_iaload (pc := 32) S dX9_slideBack_32 rfl (Nat.le_of_ble_eq_true rfl) (by omega) (by omega) ?_
    rw [er, e]
    refine zr_isub (pc := 33) S dX9_slideBack_33 (by unfold zrI; omega) ?_
    refine zr_iastore (pc := 34) S dX9_slideBack_34 rfl (Nat.le_of_ble_eq_true rfl) (by omega) (by omega) ?_
    refine zr_aload_n (pc := 35) S dX9_slideBack_35 rfl ?_
    refine zr_getR (pc := 36) S fX9_slideBack_30 dX9_slideBack_36 rfl (Nat.le_of_ble_eq_true rfl) rfl ?_
    try simp only [zup_k, zup_e, ne_eq, Nat.reduceEqDiff, not_false_eq_true, zup_j]
    refine zr_iload_n (pc := 39) S dX9_slideBack_39 rfl ?_
    refine zr_iaload (pc := 40) S dX9_slideBack_40 rfl (Nat.le_of_ble_eq_true rfl) (by omega) (by omega) ?_
    try simp only [zup_k, zup_e, ne_eq, Nat.reduceEqDiff, not_false_eq_true]
    rw [ec, e]
    refine zr_iconst (pc := 41) S dX9_slideBack_41 (by unfold zrI; omega) ?_
    refine zr_icmp_eq (pc := 42) (tgt := 55) S dX9_slideBack_42 (by decide) (fun c42 => ?_) (fun c42 => ?_)
    · rw [if_pos c42] at k
      refine zr_iinc (pc := 55) S dX9_slideBack_55 rfl (by unfold zrI; omega) (by decide) ?_
      dsimp only [zst1, zst2, zset, zget, zlong]
      refine zr_goto (pc := 58) (tgt := 7) S dX9_slideBack_58 (by decide) ?_
      exact k
    · rw [if_neg c42] at k
      refine zr_aload_n (pc := 45) S dX9_slideBack_45 rfl ?_
      refine zr_aload_n (pc := 46) S dX9_slideBack_46 rfl ?_
      refine zr_getR (pc := 47) S fX9_slideBack_30 dX9_slideBack_47 rfl (Nat.le_of_ble_eq_true rfl) rfl ?_
      try simp only [zup_k, zup_e, ne_eq, Nat.reduceEqDiff, not_false_eq_true, zup_j]
      refine zr_iload_n (pc := 50) S dX9_slideBack_50 rfl ?_
      refine zr_iaload (pc := 51) S dX9_slideBack_51 rfl (Nat.le_of_ble_eq_true rfl) (by omega) (by omega) ?_
      try simp only [zup_k, zup_e, ne_eq, Nat.reduceEqDiff, not_false_eq_true]
      rw [ec, e]
      refine zr_invV (pc := 52) S [zI _] (m_X9_giveOut _) kX9_slideBack_61 dX9_slideBack_52 rfl (Nat.le_of_ble_eq_true rfl) rfl (Nat.le_of_ble_eq_true rfl) ⟨Nat.le_of_ble_eq_true rfl, Nat.le_of_ble_eq_true rfl⟩ (us_X9_giveOut (by rw [zup_k (by decide)]; exact g) ?_)
      dsimp only [zaft, Option.toList, List.cons_append, List.nil_append, Nat.add_zero]
      refine zr_iinc (pc := 55) S dX9_slideBack_55 rfl (by unfold zrI; omega) (by decide) ?_
      dsimp only [zst1, zst2, zset, zget, zlong]
      refine zr_goto (pc := 58) (tgt := 7) S dX9_slideBack_58 (by decide) ?_
      exact k
def sp_X9_slideBack (as : List zV) (M : zM) (Q : Option zV → zM → Prop) : Prop := ∃ (B : Int), as = [zR 17] ∧ (ICt B M) ∧ (B ≤ 999000) ∧ Q (none) (zup (sbU M (M 17 6).toNat) 17 6 0)
theorem us_X9_slideBack {B : Int} {M : zM} {Q : Option zV → zM → Prop} (hI : ICt B M) (hB : B ≤ 999000) (h99 : Q (none) (zup (sbU M (M 17 6).toNat) 17 6 0)) : sp_X9_slideBack [zR 17] M Q := ⟨B, rfl, hI, hB, h99⟩
set_option maxRecDepth 20000 in
set_option maxHeartbeats 4000000 in
theorem m_X9_slideBack (l : Launch) : zC l yX9_slideBack wzX9_slideBack rmX9_slideBack sp_X9_slideBack := by
  refine zMet.of RX9 (by decide +kernel) rfl rfl ?_
  intro E X as M Qp hX S hsp
  obtain ⟨B, rfl, hI, hB, hQ⟩ := hsp
  refine ⟨Nat.le_of_ble_eq_true rfl, ?_⟩
  dsimp only [zpad, zargs]
  have a := hI.1
  refine zr_aload_n (pc := 0) S dX9_slideBack_0 rfl ?_
  refine zr_iconst (pc := 1) S dX9_slideBack_1 (by unfold zrI; omega) ?_
  refine zr_putI (pc := 2) S pX9_slideBack_65 dX9_slideBack_2 rfl (Nat.le_of_ble_eq_true rfl) rfl ?_
  refine zr_iconst (pc := 5) S dX9_slideBack_5 (by unfold zrI; omega) ?_
  refine zr_istore_n (pc := 6) S 1 dX9_slideBack_6 rfl (by decide) ?_
  dsimp only [zst1, zst2, zset, zget, zlong]
  exact lp_X9_slideBack S hI hB hQ (M 17 6).toNat 0 (by omega)
end
