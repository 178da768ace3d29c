section
/-- prices that can be made -/
def mdU (M : zM) (pr : Nat → Int) (s : Int) : Nat → Int
  | 0 => 0
  | n + 1 => if mdU M pr s n = 1 ∨ (isGood M n ∧ M 4 n ≤ s ∧ pr (s - M 4 n).toNat = 1) then 1 else 0
def mdT (M : zM) : Nat → Nat → Int
  | 0, s => if s = 0 then 1 else 0
  | n + 1, s => if s = n + 1 then mdU M (mdT M n) (n + 1 : Nat) (M 2 0).toNat else mdT M n s
def md (M : zM) (n : Nat) : Int := mdT M n n
theorem mdU_r (M : zM) (pr : Nat → Int) (s : Int) : ∀ n, mdU M pr s n = 0 ∨ mdU M pr s n = 1
  | 0 => Or.inl rfl
  | n + 1 => by
    simp only [mdU]
    split
    · exact Or.inr rfl
    · exact Or.inl rfl
theorem mdU_c {M : zM} {p q : Nat → Int} {s : Int} (h : ∀ j : Nat, (j : Int) < s → p j = q j) : ∀ n, mdU M p s n = mdU M q s n
  | 0 => rfl
  | n + 1 => by
    simp only [mdU]
    rw [mdU_c h n]
    by_cases g : isGood M n ∧ M 4 n ≤ s
    · have e : (n : Int).toNat = n := Int.toNat_natCast n
      have gv := g.1.2.1
      rw [e] at gv
      rw [h (s - M 4 n).toNat (by omega)]
    · have g1 : ∀ z : Prop, ¬ (isGood M n ∧ M 4 n ≤ s ∧ z) := fun z y => g ⟨y.1, y.2.1⟩
      simp only [g1]
theorem mdU_1 {M : zM} {p : Nat → Int} {s : Int} {i : Nat} (h : mdU M p s i = 1) : ∀ n, i ≤ n → mdU M p s n = 1
  | 0, hn => by have : i = 0 := by omega
                rw [this] at h; exact h
  | n + 1, hn => by
    by_cases e : i = n + 1
    · rw [← e]; exact h
    · simp only [mdU]
      rw [if_pos (Or.inl (mdU_1 h n (by omega)))]
theorem mdT_e (M : zM) {s : Nat} : ∀ n, s ≤ n → mdT M n s = md M s
  | 0, h => by have : s = 0 := by omega
               rw [this]; rfl
  | n + 1, h => by
    by_cases e : s = n + 1
    · rw [e]; rfl
    · have a := mdT_e M (s := s) n (by omega)
      simp only [mdT]
      rw [if_neg e, a]
theorem md_0 (M : zM) : md M 0 = 1 := rfl
theorem md_s (M : zM) (n : Nat) : md M (n + 1) = mdU M (md M) (n + 1 : Nat) (M 2 0).toNat := by
  unfold md
  simp only [mdT, if_true]
  exact mdU_c (fun j hj => mdT_e M n (by omega)) _
theorem md_r (M : zM) (n : Nat) : md M n = 0 ∨ md M n = 1 := by
  cases n with
  | zero => exact Or.inr rfl
  | succ n => rw [md_s]; exact mdU_r _ _ _ _
def mdS (M : zM) (s : Nat) : Nat → Int
  | 0 => -1
  | m + 1 => if md M s = 1 then s else mdS M (s + 1) m
theorem lp_X0_isMade {E : zE} {X : zX} {Qp : Option zV → zM → Prop} {M : zM} {s : Nat} (S : zS (zg E) X cX0_isMade 4 wzX0_isMade RX0 (some .boolean)) (hs : ICs M) (h1 : 1 ≤ s) (h2 : s ≤ 1000) (hp : ∀ j, 1 ≤ j → j < s → M 55 j = md M j) (hQ : Qp (some (zI (md M s))) M) : ∀ (m k : Nat) (u3 : Option zV), (m : Int) + k = M 2 0 → mdU M (md M) s k = 0 → zK (zg E) rmX0_isMade 4 (Qp, 0, 0) X (0, 0) 2 [some (zR 53), some (zI s), some (zI k), u3] [] M := by
  have h8 := hs.1
  have es : md M s = mdU M (md M) s (M 2 0).toNat := by
    obtain ⟨n, rfl⟩ : ∃ n, s = n + 1 := ⟨s - 1, by omega⟩
    exact md_s M n
  intro m
  induction m with
  | zero =>
    intro k u3 hk h0
    have e : k = (M 2 0).toNat := by omega
    rw [es, ← e, h0] at hQ
    refine zr_iload_n (pc := 2) S dX0_isMade_2 rfl ?_
    refine zr_aload_n (pc := 3) S dX0_isMade_3 rfl ?_
    refine zr_getR (pc := 4) S fX0_isMade_19 dX0_isMade_4 rfl (Nat.le_of_ble_eq_true rfl) rfl ?_
    refine zr_getI (pc := 7) S fX0_isMade_34 dX0_isMade_7 rfl (Nat.le_of_ble_eq_true rfl) rfl ?_
    refine zr_icmp_ge (pc := 10) (tgt := 61) S dX0_isMade_10 (by decide) (fun c10 => ?_) (fun c10 => absurd c10 (by omega))
    refine zr_iconst (pc := 61) S dX0_isMade_61 (by unfold zrI; omega) ?_
    exact zr_zret (pc := 62) S dX0_isMade_62 rfl (by first | omega | exact b01_r) ⟨Nat.le_refl _, Nat.le_refl _⟩ (hQ)
  | succ m ih =>
    intro k u3 hk h0
    have e : (k : Int).toNat = k := Int.toNat_natCast k
    have hv := hs.v (k := (k : Int)) (by omega) (by omega)
    rw [e] at hv
    have q := fun u3 => ih (k + 1) u3 (by omega)
    have yes : (isGood M k ∧ M 4 k ≤ s ∧ md M ((s : Int) - M 4 k).toNat = 1) → md M s = 1 := fun z => by
      rw [es]
      refine mdU_1 (i := k + 1) ?_ _ (by omega)
      simp only [mdU]
      rw [if_pos (Or.inr z)]
    have no : ¬ (isGood M k ∧ M 4 k ≤ s ∧ md M ((s : Int) - M 4 k).toNat = 1) → mdU M (md M) s (k + 1) = 0 := fun z => by
      simp only [mdU]
      rw [if_neg (fun y => y.elim (fun y => by omega) z)]
    have ez : (s : Int) - M 4 k = 0 → md M ((s : Int) - M 4 k).toNat = 1 := fun z => by rw [z]; rfl
    refine zr_iload_n (pc := 2) S dX0_isMade_2 rfl ?_
    refine zr_aload_n (pc := 3) S dX0_isMade_3 rfl ?_
    refine zr_getR (pc := 4) S fX0_isMade_19 dX0_isMade_4 rfl (Nat.le_of_ble_eq_true rfl) rfl ?_
    refine zr_getI (pc := 7) S fX0_isMade_34 dX0_isMade_7 rfl (Nat.le_of_ble_eq_true rfl) rfl ?_
    refine zr_icmp_ge (pc := 10) (tgt := 61) S dX0_isMade_10 (by decide) (fun c10 => absurd c10 (by omega)) (fun c10 => ?_)
    refine zr_iload_n (pc := 13) S dX0_isMade_13 rfl ?_
    refine zr_aload_n (pc := 14) S dX0_isMade_14 rfl ?_
    refine zr_getR (pc := 15) S fX0_isMade_19 dX0_isMade_15 rfl (Nat.le_of_ble_eq_true rfl) rfl ?_
    refine zr_getR (pc := 18) S fX0_isMade_48 dX0_isMade_18 rfl (Nat.le_of_ble_eq_true rfl) rfl ?_
    refine zr_iload_n (pc := 21) S dX0_isMade_21 rfl ?_
    refine zr_iaload (pc := 22) S dX0_isMade_22 rfl (Nat.le_of_ble_eq_true rfl) (by omega) (by omega) ?_
    rw [e]
    refine zr_isub (pc := 23) S dX0_isMade_23 (by unfold zrI; omega) ?_
    refine zr_istore_n (pc := 24) S 3 dX0_isMade_24 rfl (by decide) ?_
    dsimp only [zst1, zst2, zset, zget, zlong]
    refine zr_aload_n (pc := 25) S dX0_isMade_25 rfl ?_
    refine zr_getR (pc := 26) S fX0_isMade_19 dX0_isMade_26 rfl (Nat.le_of_ble_eq_true rfl) rfl ?_
    refine zr_iload_n (pc := 29) S dX0_isMade_29 rfl ?_
    refine zr_invV (pc := 30) S [zI _] (m_X7_isGood _) kX0_isMade_40 dX0_isMade_30 rfl (Nat.le_of_ble_eq_true rfl) rfl (Nat.le_of_ble_eq_true rfl) ⟨Nat.le_of_ble_eq_true rfl, Nat.le_of_ble_eq_true rfl⟩ (us_X7_isGood hs ?_)
    dsimp only [zaft, Option.toList, List.cons_append, List.nil_append, Nat.add_zero]
    refine zr_if_eq (pc := 33) (tgt := 55) S dX0_isMade_33 (by decide) (fun c33 => ?_) (fun c33 => ?_)
    · rw [b01_0] at c33
      have q0 := no (fun z => c33 z.1)
      refine zr_iinc (pc := 55) S dX0_isMade_55 rfl (by unfold zrI; omega) (by decide) ?_
      dsimp only [zst1, zst2, zset, zget, zlong]
      refine zr_goto (pc := 58) (tgt := 2) S dX0_isMade_58 (by decide) ?_
      exact q _ q0
    · rw [b01_0, Classical.not_not] at c33
      have gv := c33.2.1
      rw [e] at gv
      refine zr_iload_n (pc := 36) S dX0_isMade_36 rfl ?_
      refine zr_if_lt (pc := 37) (tgt := 55) S dX0_isMade_37 (by decide) (fun c37 => ?_) (fun c37 => ?_)
      · have q0 := no (fun z => by omega)
        refine zr_iinc (pc := 55) S dX0_isMade_55 rfl (by unfold zrI; omega) (by decide) ?_
        dsimp only [zst1, zst2, zset, zget, zlong]
        refine zr_goto (pc := 58) (tgt := 2) S dX0_isMade_58 (by decide) ?_
        exact q _ q0
      · skip
        refine zr_iload_n (pc := 40) S dX0_isMade_40 rfl ?_
        refine zr_if_eq (pc := 41) (tgt := 53) S dX0_isMade_41 (by decide) (fun c41 => ?_) (fun c41 => ?_)
        · rw [yes ⟨c33, by omega, ez (by omega)⟩] at hQ
          refine zr_iconst (pc := 53) S dX0_isMade_53 (by unfold zrI; omega) ?_
          exact zr_zret (pc := 54) S dX0_isMade_54 rfl (by first | omega | exact b01_r) ⟨Nat.le_refl _, Nat.le_refl _⟩ (hQ)
        · have hpp := hp ((s : Int) - M 4 k).toNat (by omega) (by omega)
          have hmr := md_r M ((s : Int) - M 4 k).toNat
          refine zr_aload_n (pc := 44) S dX0_isMade_44 rfl ?_
          refine zr_getR (pc := 45) S fX0_isMade_15 dX0_isMade_45 rfl (Nat.le_of_ble_eq_true rfl) rfl ?_
          refine zr_iload_n (pc := 48) S dX0_isMade_48 rfl ?_
          refine zr_zaload (pc := 49) S dX0_isMade_49 rfl (Nat.le_of_ble_eq_true rfl) (by omega) (by omega) ?_
          rw [hpp]
          refine zr_if_eq (pc := 50) (tgt := 55) S dX0_isMade_50 (by decide) (fun c50 => ?_) (fun c50 => ?_)
          · have q0 := no (fun z => by have := z.2.2; omega)
            refine zr_iinc (pc := 55) S dX0_isMade_55 rfl (by unfold zrI; omega) (by decide) ?_
            dsimp only [zst1, zst2, zset, zget, zlong]
            refine zr_goto (pc := 58) (tgt := 2) S dX0_isMade_58 (by decide) ?_
            exact q _ q0
          · rw [yes ⟨c33, by omega, by omega⟩] at hQ
            refine zr_iconst (pc := 53) S dX0_isMade_53 (by unfold zrI; omega) ?_
            exact zr_zret (pc := 54) S dX0_isMade_54 rfl (by first | omega | exact b01_r) ⟨Nat.le_refl _, Nat.le_refl _⟩ (hQ)
def sp_X0_isMade (as : List zV) (M : zM) (Q : Option zV → zM → Prop) : Prop := ∃ (s : Nat), as = [zR 53, zI s] ∧ (ICs M) ∧ (1 ≤ s) ∧ (s ≤ 1000) ∧ (∀ j, 1 ≤ j → j < s → M 55 j = md M j) ∧ Q (some (zI (md M s))) (M)
theorem us_X0_isMade {s : Nat} {M : zM} {Q : Option zV → zM → Prop} (hs : ICs M) (h1 : 1 ≤ s) (h2 : s ≤ 1000) (hp : ∀ j, 1 ≤ j → j < s → M 55 j = md M j) (h99 : Q (some (zI (md M s))) (M)) : sp_X0_isMade [zR 53, zI s] M Q := ⟨s, rfl, hs, h1, h2, hp, h99⟩
set_option maxRecDepth 20000 in
set_option maxHeartbeats 4000000 in
theorem m_X0_isMade (l : Launch) : zC l yX0_isMade wzX0_isMade rmX0_isMade sp_X0_isMade := by
  refine zMet.of RX0 (by decide +kernel) rfl rfl ?_
  intro E X as M Qp hX S hsp
  obtain ⟨s, rfl, hs, h1, h2, hp, hQ⟩ := hsp
  refine ⟨Nat.le_of_ble_eq_true rfl, ?_⟩
  dsimp only [zpad, zargs]
  have q := fun u3 => lp_X0_isMade S hs h1 h2 hp hQ (M 2 0).toNat 0 u3 (by have := hs.1; omega) rfl
  refine zr_iconst (pc := 0) S dX0_isMade_0 (by unfold zrI; omega) ?_
  refine zr_istore_n (pc := 1) S 2 dX0_isMade_1 rfl (by decide) ?_
  dsimp only [zst1, zst2, zset, zget, zlong]
  exact q _
theorem ag_mdU {M N : zM} (h : ∀ k, k < 11 → N k = M k) (p : Nat → Int) (s : Int) : ∀ n, mdU N p s n = mdU M p s n
  | 0 => rfl
  | n + 1 => by
    simp only [mdU]
    rw [ag_mdU h p s n]
    have g := ag_isGood h (n : Int)
    have e := h 4 (by decide)
    simp only [g, e]
theorem ag_mdT {M N : zM} (h : ∀ k, k < 11 → N k = M k) : ∀ n, mdT N n = mdT M n
  | 0 => rfl
  | n + 1 => by
    funext s
    simp only [mdT]
    rw [ag_mdT h n, ag_mdU h, h 2 (by decide)]
theorem ag_md {M N : zM} (h : ∀ k, k < 11 → N k = M k) (n : Nat) : md N n = md M n := by
  unfold md
  rw [ag_mdT h n]
def offP (M N : zM) : Prop := ∀ k, k ≠ 55 → N k = M k
theorem lp_X0_madeFrom {E : zE} {X : zX} {Qp : Option zV → zM → Prop} {M : zM} {p : Nat} (S : zS (zg E) X cX0_madeFrom 3 wzX0_madeFrom RX0 (some .int)) (hs : ICs M) (h1 : 1 ≤ p) (h2 : p ≤ 1000) (hQ : ∀ (r : Option zV) (M' : zM), (r = some (zI (mdS M p (1001 - p))) ∧ offP M M') → Qp r M') : ∀ (m i : Nat) (T : zM), m + i = 1001 → 1 ≤ i → offP M T → (∀ j, 1 ≤ j → j < i → T 55 j = md M j) → mdS M p (1001 - p) = mdS M (max p i) (1001 - max p i) → zK (zg E) rmX0_madeFrom 3 (Qp, 0, 0) X (0, 0) 2 [some (zR 53), some (zI p), some (zI i)] [] T := by
  intro m
  induction m with
  | zero =>
    intro i T hi hi1 hT hp hm
    have e : i = 1001 := by omega
    subst e
    rw [show max p 1001 = 1001 by omega] at hm
    have q := hQ _ T ⟨rfl, hT⟩
    rw [hm] at q
    refine zr_iload_n (pc := 2) S dX0_madeFrom_2 rfl ?_
    refine zr_sipush (pc := 3) S dX0_madeFrom_3 ⟨by unfold zrI; omega, by decide⟩ ?_
    refine zr_icmp_gt (pc := 6) (tgt := 42) S dX0_madeFrom_6 (by decide) (fun c6 => ?_) (fun c6 => absurd c6 (by omega))
    refine zr_iconst (pc := 42) S dX0_madeFrom_42 (by unfold zrI; omega) ?_
    exact zr_iret (pc := 43) S dX0_madeFrom_43 rfl ⟨Nat.le_refl _, Nat.le_refl _⟩ (q)
  | succ m ih =>
    intro i T hi hi1 hT hp hm
    have ag : ∀ k, k < 11 → T k = M k := fun k hk => hT k (by omega)
    have e : (i : Int).toNat = i := Int.toNat_natCast i
    have hsT : ICs T := by
      unfold ICs at *
      rw [ag 2 (by decide), ag 3 (by decide), ag 4 (by decide), ag 9 (by decide), ag 10 (by decide), ag 7 (by decide), ag 8 (by decide)]
      exact hs
    have em := ag_md ag
    have hr := md_r M i
    have q := ih (i + 1) (zup T 55 i (md M i)) (by omega) (by omega) (fun k hk => by rw [zup_o k hk, hT k hk]) (fun j j1 j2 => by
      by_cases ej : j = i
      · rw [ej, zup_e]
      · rw [zup_j ej]; exact hp j j1 (by omega))
    have fin := hQ (some (zI (mdS M p (1001 - p)))) (zup T 55 i (md M i)) ⟨rfl, fun k hk => by rw [zup_o k hk, hT k hk]⟩
    have s1 : p ≤ i → mdS M (max p i) (1001 - max p i) = if md M i = 1 then (i : Int) else mdS M (i + 1) (1001 - (i + 1)) := fun h => by
      rw [show max p i = i by omega, show 1001 - i = 1001 - (i + 1) + 1 by omega]
      rfl
    refine zr_iload_n (pc := 2) S dX0_madeFrom_2 rfl ?_
    refine zr_sipush (pc := 3) S dX0_madeFrom_3 ⟨by unfold zrI; omega, by decide⟩ ?_
    refine zr_icmp_gt (pc := 6) (tgt := 42) S dX0_madeFrom_6 (by decide) (fun c6 => absurd c6 (by omega)) (fun c6 => ?_)
    refine zr_aload_n (pc := 9) S dX0_madeFrom_9 rfl ?_
    refine zr_getR (pc := 10) S fX0_madeFrom_15 dX0_madeFrom_10 rfl (Nat.le_of_ble_eq_true rfl) rfl ?_
    refine zr_iload_n (pc := 13) S dX0_madeFrom_13 rfl ?_
    refine zr_aload_n (pc := 14) S dX0_madeFrom_14 rfl ?_
    refine zr_iload_n (pc := 15) S dX0_madeFrom_15 rfl ?_
    refine zr_invV (pc := 16) S [zI _] (m_X0_isMade _) kX0_madeFrom_70 dX0_madeFrom_16 rfl (Nat.le_of_ble_eq_true rfl) rfl (Nat.le_of_ble_eq_true rfl) ⟨Nat.le_of_ble_eq_true rfl, Nat.le_of_ble_eq_true rfl⟩ (us_X0_isMade hsT hi1 (by omega) (fun j j1 j2 => by rw [hp j j1 j2, em]) ?_)
    dsimp only [zaft, Option.toList, List.cons_append, List.nil_append, Nat.add_zero]
    rw [em]
    refine zr_zastore (pc := 19) S dX0_madeFrom_19 rfl (Nat.le_of_ble_eq_true rfl) (by omega) (by omega) (by omega) ?_
    rw [e]
    refine zr_iload_n (pc := 20) S dX0_madeFrom_20 rfl ?_
    refine zr_iload_n (pc := 21) S dX0_madeFrom_21 rfl ?_
    refine zr_icmp_lt (pc := 22) (tgt := 36) S dX0_madeFrom_22 (by decide) (fun c22 => ?_) (fun c22 => ?_)
    · have q0 : mdS M p (1001 - p) = mdS M (max p (i + 1)) (1001 - max p (i + 1)) := by rw [hm, show max p i = max p (i + 1) by omega]
      refine zr_iinc (pc := 36) S dX0_madeFrom_36 rfl (by unfold zrI; omega) (by decide) ?_
      dsimp only [zst1, zst2, zset, zget, zlong]
      refine zr_goto (pc := 39) (tgt := 2) S dX0_madeFrom_39 (by decide) ?_
      exact q q0
    · have s2 := s1 (by omega)
      refine zr_aload_n (pc := 25) S dX0_madeFrom_25 rfl ?_
      refine zr_getR (pc := 26) S fX0_madeFrom_15 dX0_madeFrom_26 rfl (Nat.le_of_ble_eq_true rfl) rfl ?_
      try simp only [zup_k, zup_e, ne_eq, Nat.reduceEqDiff, not_false_eq_true, zup_j]
      refine zr_iload_n (pc := 29) S dX0_madeFrom_29 rfl ?_
      refine zr_zaload (pc := 30) S dX0_madeFrom_30 rfl (Nat.le_of_ble_eq_true rfl) (by omega) (by omega) ?_
      try simp only [zup_k, zup_e, ne_eq, Nat.reduceEqDiff, not_false_eq_true]
      rw [e, zup_e]
      refine zr_if_eq (pc := 31) (tgt := 36) S dX0_madeFrom_31 (by decide) (fun c31 => ?_) (fun c31 => ?_)
      · rw [if_neg (by omega)] at s2
        have q0 : mdS M p (1001 - p) = mdS M (max p (i + 1)) (1001 - max p (i + 1)) := by rw [hm, s2, show max p (i + 1) = i + 1 by omega]
        refine zr_iinc (pc := 36) S dX0_madeFrom_36 rfl (by unfold zrI; omega) (by decide) ?_
        dsimp only [zst1, zst2, zset, zget, zlong]
        refine zr_goto (pc := 39) (tgt := 2) S dX0_madeFrom_39 (by decide) ?_
        exact q q0
      · rw [if_pos (by omega)] at s2
        rw [hm, s2] at fin
        refine zr_iload_n (pc := 34) S dX0_madeFrom_34 rfl ?_
        exact zr_iret (pc := 35) S dX0_madeFrom_35 rfl ⟨Nat.le_refl _, Nat.le_refl _⟩ (fin)
def sp_X0_madeFrom (as : List zV) (M : zM) (Q : Option zV → zM → Prop) : Prop := ∃ (p : Nat), as = [zR 53, zI p] ∧ (ICs M) ∧ (1 ≤ p) ∧ (p ≤ 1000) ∧ (∀ (r : Option zV) (M' : zM), (r = some (zI (mdS M p (1001 - p))) ∧ offP M M') → Q r M')
theorem us_X0_madeFrom {p : Nat} {M : zM} {Q : Option zV → zM → Prop} (hs : ICs M) (h1 : 1 ≤ p) (h2 : p ≤ 1000) (h99 : (∀ (r : Option zV) (M' : zM), (r = some (zI (mdS M p (1001 - p))) ∧ offP M M') → Q r M')) : sp_X0_madeFrom [zR 53, zI p] M Q := ⟨p, rfl, hs, h1, h2, h99⟩
set_option maxRecDepth 20000 in
set_option maxHeartbeats 4000000 in
theorem m_X0_madeFrom (l : Launch) : zC l yX0_madeFrom wzX0_madeFrom rmX0_madeFrom sp_X0_madeFrom := by
  refine zMet.of RX0 (by decide +kernel) rfl rfl ?_
  intro E X as M Qp hX S hsp
  obtain ⟨p, rfl, hs, h1, h2, hQ⟩ := hsp
  refine ⟨Nat.le_of_ble_eq_true rfl, ?_⟩
  dsimp only [zpad, zargs]
  have q := lp_X0_madeFrom S hs h1 h2 hQ 1000 1 M (by omega) (by omega) (fun _ _ => rfl) (fun j j1 j2 => by omega) (by rw [show max p 1 = p by omega])
  refine zr_iconst (pc := 0) S dX0_madeFrom_0 (by unfold zrI; omega) ?_
  refine zr_istore_n (pc := 1) S 2 dX0_madeFrom_1 rfl (by decide) ?_
  dsimp only [zst1, zst2, zset, zget, zlong]
  exact q
end
