section
def rmX3_mostPairs : Room := { frames := 4, cells := 0, slots := 0, locals := 98 }
abbrev wzX3_mostPairs : List Cond := .code yX3_mostPairs cX3_mostPairs 3 (some .int) :: zW
theorem fX3_mostPairs_22 : zfl wzX3_mostPairs RX3 vwCl 22 3 1 := ⟨_, _, _, rfl, (fun w h => List.mem_cons_of_mem _ (zWuX3 w h)), by decide, List.mem_cons_of_mem _ (zWi_9 _ (List.mem_of_getElem? (i := 48) rfl))⟩
theorem fX3_mostPairs_18 : zfl wzX3_mostPairs RX3 vwCl 18 3 0 := ⟨_, _, _, rfl, (fun w h => List.mem_cons_of_mem _ (zWuX3 w h)), by decide, List.mem_cons_of_mem _ (zWi_9 _ (List.mem_of_getElem? (i := 47) rfl))⟩
theorem fX3_mostPairs_26 : zfl wzX3_mostPairs RX3 vwCl 26 8 0 := ⟨_, _, _, rfl, (fun w h => List.mem_cons_of_mem _ (zWuX8 w h)), by decide, List.mem_cons_of_mem _ (zWi_9 _ (List.mem_of_getElem? (i := 49) rfl))⟩
theorem fX3_mostPairs_32 : zfl wzX3_mostPairs RX3 vwCl 32 7 0 := ⟨_, _, _, rfl, (fun w h => List.mem_cons_of_mem _ (zWuX7 w h)), by decide, List.mem_cons_of_mem _ (zWi_10 _ (List.mem_of_getElem? (i := 0) rfl))⟩
theorem fX3_mostPairs_15 : zfl wzX3_mostPairs RX3 vwCl 15 3 3 := ⟨_, _, _, rfl, (fun w h => List.mem_cons_of_mem _ (zWuX3 w h)), by decide, List.mem_cons_of_mem _ (zWi_9 _ (List.mem_of_getElem? (i := 46) rfl))⟩
theorem fX3_mostPairs_9 : zfl wzX3_mostPairs RX3 vwCl 9 3 2 := ⟨_, _, _, rfl, (fun w h => List.mem_cons_of_mem _ (zWuX3 w h)), by decide, List.mem_cons_of_mem _ (zWi_10 _ (List.mem_of_getElem? (i := 7) rfl))⟩
theorem kX3_mostPairs_72 : ∀ (s9 : State) (a9 : Array Value), (∀ w ∈ wzX3_mostPairs, w.before a9 s9 = true) → CallW rmX3_mostPairs s9 a9 RX3 RX6 72 yX6_learn cX6_learn 2 none wzX6_learn rmX6_learn 0 0 0 := zcV (zWi_23 _ (List.mem_of_getElem? (i := 36) rfl)) (zWi_16 _ (List.mem_of_getElem? (i := 35) rfl)) (zWi_29 _ (List.mem_of_getElem? (i := 12) rfl)) (zWi_12 _ (List.mem_of_getElem? (i := 18) rfl)) (zWi_5 _ (List.mem_of_getElem? (i := 19) rfl)) (by decide +kernel) rfl rfl ⟨Nat.le_of_ble_eq_true rfl, Nat.le_of_ble_eq_true rfl⟩
theorem kX3_mostPairs_77 : ∀ (s9 : State) (a9 : Array Value), (∀ w ∈ wzX3_mostPairs, w.before a9 s9 = true) → CallW rmX3_mostPairs s9 a9 RX3 RX3 77 yX3_passingSet cX3_passingSet 4 (some .int) wzX3_passingSet rmX3_passingSet 0 0 1 := zcV (zWi_23 _ (List.mem_of_getElem? (i := 37) rfl)) (zWi_16 _ (List.mem_of_getElem? (i := 2) rfl)) (zWi_28 _ (List.mem_of_getElem? (i := 32) rfl)) (zWi_12 _ (List.mem_of_getElem? (i := 15) rfl)) (zWi_4 _ (List.mem_of_getElem? (i := 36) rfl)) (by decide +kernel) rfl rfl ⟨Nat.le_of_ble_eq_true rfl, Nat.le_of_ble_eq_true rfl⟩
theorem kX3_mostPairs_80 : ∀ (s9 : State) (a9 : Array Value), (∀ w ∈ wzX3_mostPairs, w.before a9 s9 = true) → CallW rmX3_mostPairs s9 a9 RX3 RX3 80 yX3_cutOf cX3_cutOf 5 (some .int) wzX3_cutOf rmX3_cutOf 0 0 1 := zcV (zWi_23 _ (List.mem_of_getElem? (i := 38) rfl)) (zWi_15 _ (List.mem_of_getElem? (i := 49) rfl)) (zWi_28 _ (List.mem_of_getElem? (i := 30) rfl)) (zWi_12 _ (List.mem_of_getElem? (i := 15) rfl)) (zWi_4 _ (List.mem_of_getElem? (i := 33) rfl)) (by decide +kernel) rfl rfl ⟨Nat.le_of_ble_eq_true rfl, Nat.le_of_ble_eq_true rfl⟩
theorem kX3_mostPairs_56 : zml_mmin wzX3_mostPairs RX3 56 := ⟨List.mem_cons_of_mem _ (zWi_23 _ (List.mem_of_getElem? (i := 34) rfl)), List.mem_cons_of_mem _ (zWi_30 _ (List.mem_of_getElem? (i := 3) rfl)), List.mem_cons_of_mem _ (zWi_12 _ (List.mem_of_getElem? (i := 0) rfl)), List.mem_cons_of_mem _ (zWi_0 _ (List.mem_of_getElem? (i := 28) rfl))⟩
def minU (f : Nat → Int) : Nat → Int
  | 0 => f 0
  | t + 1 => min (minU f t) (f (t + 1))
theorem cutP_cong {p q : Nat → Nat} {set : Nat} : ∀ n, (∀ i, i < n → p i = q i) → cutP p set n = cutP q set n
  | 0, _ => rfl
  | n + 1, h => by
    simp only [cutP]
    rw [cutP_cong n (fun i hi => h i (by omega)), h n (by omega)]
theorem cutF_r {od : Nat → Int} {pa : Nat → Nat} {c : Int} {n set : Nat} (hc0 : 0 ≤ c) (hn : n ≤ 8) (h : ∀ i, i < n → -c ≤ od i ∧ od i ≤ c) : 0 ≤ cutF od pa n set ∧ cutF od pa n set ≤ 16 * c := by
  have a := cutA_r (set := set) h n (Nat.le_refl _)
  have b := cutB_r (ps := cutP pa set n) h n (Nat.le_refl _)
  have d : c * (n : Int) ≤ c * 8 := Int.mul_le_mul_of_nonneg_left (by omega) hc0
  unfold cutF
  omega
theorem minU_r {f : Nat → Int} {c : Int} (h : ∀ t, 0 ≤ f t ∧ f t ≤ c) : ∀ t, 0 ≤ minU f t ∧ minU f t ≤ c
  | 0 => h 0
  | t + 1 => by
    have a := minU_r h t
    have b := h (t + 1)
    simp only [minU]
    omega
def paN (M : zM) (i : Nat) : Nat := if 0 < M 57 i then pst M i else 0
def mostP (M : zM) : Int := minU (fun set => cutF (M 57) (paN M) (M 2 0).toNat set) (2 ^ (M 2 0).toNat - 1)
theorem pst_lt {M : zM} (hs : ICs M) (s : Int) : pst M s < 256 := by
  have h8 := hs.1
  have a := bitsU_lt (pstB M s) (M 2 0).toNat
  have : 2 ^ (M 2 0).toNat ≤ 2 ^ 8 := Nat.pow_le_pow_right (by omega) (by omega)
  unfold pst
  omega
theorem ag_pst {M N : zM} (h : AG M N) (s : Int) : pst N s = pst M s := by
  have e : pstB N s = pstB M s := by
    funext k
    unfold pstB
    rw [ag_cnt3 h]
  unfold pst
  rw [e, h 2 (by decide)]
def offM (M N : zM) : Prop := ∀ k, k ≠ 49 → k ≠ 48 → k ≠ 50 → k ≠ 51 → k ≠ 52 → k ≠ 58 → N k = M k
theorem offM.ag {M N : zM} (h : offM M N) : AG M N := fun k hk => h k (by omega) (by omega) (by omega) (by omega) (by omega) (by omega)
theorem lp_X3_mostPairs_2 {E : zE} {X : zX} {Qp : Option zV → zM → Prop} {M T : zM} {c : Int} (S : zS (zg E) X cX3_mostPairs 3 wzX3_mostPairs RX3 (some .int)) (hs : ICs M) (hc : c ≤ 10000000) (hc0 : 0 ≤ c) (ho : ∀ i, i < (M 2 0).toNat → -c ≤ M 57 i ∧ M 57 i ≤ c) (hT : offM M T) (hp : ∀ i, i < (M 2 0).toNat → T 58 i = (paN M i : Nat)) (hQ : Qp (some (zI (mostP M))) T) : ∀ (m t : Nat), m + (t + 1) = 2 ^ (M 2 0).toNat → zK (zg E) rmX3_mostPairs 3 (Qp, 0, 0) X (0, 0) 61 [some (zR 56), some (zI (minU (fun set => cutF (M 57) (paN M) (M 2 0).toNat set) t)), some (zI (t + 1 : Nat))] [] T := by
  have h8 := hs.1
  have e2 := hT.ag 2 (by decide)
  have eo : T 57 = M 57 := hT _ (by decide) (by decide) (by decide) (by decide) (by decide) (by decide)
  have hp256 : 2 ^ (M 2 0).toNat ≤ 256 := by
    have : 2 ^ (M 2 0).toNat ≤ 2 ^ 8 := Nat.pow_le_pow_right (by omega) (by omega)
    omega
  have hp2 : 1 * (2 : Int) ^ (M 2 0).toNat = ((2 ^ (M 2 0).toNat : Nat) : Int) := by simp
  have hpl : ∀ i, i < (M 2 0).toNat → 0 ≤ T 58 i ∧ T 58 i < 256 := fun i hi => by
    rw [hp i hi]
    have := pst_lt hs i
    unfold paN
    split <;> omega
  have ecf : ∀ set, cutF (T 57) (fun i => (T 58 i).toNat) (M 2 0).toNat set = cutF (M 57) (paN M) (M 2 0).toNat set := fun set => by
    unfold cutF
    rw [eo, cutP_cong (q := paN M) (M 2 0).toNat (fun i hi => by rw [hp i hi, Int.toNat_natCast])]
  intro m
  induction m with
  | zero =>
    intro t ht
    have ev : minU (fun set => cutF (M 57) (paN M) (M 2 0).toNat set) t = mostP M := by
      unfold mostP
      rw [show t = 2 ^ (M 2 0).toNat - 1 by omega]
    refine zr_iload_n (pc := 61) S dX3_mostPairs_61 rfl ?_
    refine zr_iconst (pc := 62) S dX3_mostPairs_62 (by unfold zrI; omega) ?_
    refine zr_aload_n (pc := 63) S dX3_mostPairs_63 rfl ?_
    refine zr_getR (pc := 64) S fX3_mostPairs_18 dX3_mostPairs_64 rfl (Nat.le_of_ble_eq_true rfl) rfl ?_
    refine zr_getR (pc := 67) S fX3_mostPairs_26 dX3_mostPairs_67 rfl (Nat.le_of_ble_eq_true rfl) rfl ?_
    refine zr_getI (pc := 70) S fX3_mostPairs_32 dX3_mostPairs_70 rfl (Nat.le_of_ble_eq_true rfl) rfl ?_
    rw [e2]
    refine zr_ishl (pc := 73) S dX3_mostPairs_73 (by decide) (by omega) (by omega) (by omega) ?_
    rw [hp2]
    refine zr_icmp_ge (pc := 74) (tgt := 93) S dX3_mostPairs_74 (by decide) (fun c74 => ?_) (fun c74 => absurd c74 (by omega))
    refine zr_iload_n (pc := 93) S dX3_mostPairs_93 rfl ?_
    exact zr_iret (pc := 94) S dX3_mostPairs_94 rfl ⟨Nat.le_refl _, Nat.le_refl _⟩ (zqi hQ ev)
  | succ m ih =>
    intro t ht
    have q := ih (t + 1) (by omega)
    simp only [minU] at q
    refine zr_iload_n (pc := 61) S dX3_mostPairs_61 rfl ?_
    refine zr_iconst (pc := 62) S dX3_mostPairs_62 (by unfold zrI; omega) ?_
    refine zr_aload_n (pc := 63) S dX3_mostPairs_63 rfl ?_
    refine zr_getR (pc := 64) S fX3_mostPairs_18 dX3_mostPairs_64 rfl (Nat.le_of_ble_eq_true rfl) rfl ?_
    refine zr_getR (pc := 67) S fX3_mostPairs_26 dX3_mostPairs_67 rfl (Nat.le_of_ble_eq_true rfl) rfl ?_
    refine zr_getI (pc := 70) S fX3_mostPairs_32 dX3_mostPairs_70 rfl (Nat.le_of_ble_eq_true rfl) rfl ?_
    rw [e2]
    refine zr_ishl (pc := 73) S dX3_mostPairs_73 (by decide) (by omega) (by omega) (by omega) ?_
    rw [hp2]
    refine zr_icmp_ge (pc := 74) (tgt := 93) S dX3_mostPairs_74 (by decide) (fun c74 => absurd c74 (by omega)) (fun c74 => ?_)
    refine zr_iload_n (pc := 77) S dX3_mostPairs_77 rfl ?_
    refine zr_aload_n (pc := 78) S dX3_mostPairs_78 rfl ?_
    refine zr_iload_n (pc := 79) S dX3_mostPairs_79 rfl ?_
    refine zr_invV (pc := 80) S [zI _] (m_X3_cutOf _) kX3_mostPairs_80 dX3_mostPairs_80 rfl (Nat.le_of_ble_eq_true rfl) rfl (Nat.le_of_ble_eq_true rfl) ⟨Nat.le_of_ble_eq_true rfl, Nat.le_of_ble_eq_true rfl⟩ (us_X3_cutOf (n := (M 2 0).toNat) (c := c) (by rw [e2]; omega) (by omega) hc hc0 (by rw [eo]; exact ho) hpl ?_)
    dsimp only [zaft, Option.toList, List.cons_append, List.nil_append, Nat.add_zero]
    rw [ecf]
    refine zr_mmin (pc := 83) S kX3_mostPairs_56 dX3_mostPairs_83 (Nat.le_of_ble_eq_true rfl) (Nat.le_of_ble_eq_true rfl) ⟨Nat.le_of_ble_eq_true rfl, Nat.le_of_ble_eq_true rfl⟩ ?_
    refine zr_istore_n (pc := 86) S 1 dX3_mostPairs_86 rfl (by decide) ?_
    dsimp only [zst1, zst2, zset, zget, zlong]
    refine zr_iinc (pc := 87) S dX3_mostPairs_87 rfl (by unfold zrI; omega) (by decide) ?_
    dsimp only [zst1, zst2, zset, zget, zlong]
    refine zr_goto (pc := 90) (tgt := 61) S dX3_mostPairs_90 (by decide) ?_
    exact q
theorem lp_X3_mostPairs_1 {E : zE} {X : zX} {Qp : Option zV → zM → Prop} {M : zM} {c : Int} (S : zS (zg E) X cX3_mostPairs 3 wzX3_mostPairs RX3 (some .int)) (hg : ICg M) (hs : ICs M) (hc : c ≤ 10000000) (hc0 : 0 ≤ c) (ho : ∀ i, i < (M 2 0).toNat → -c ≤ M 57 i ∧ M 57 i ≤ c) (hQ : ∀ T, offM M T → Qp (some (zI (mostP M))) T) : ∀ (n i : Nat) (T : zM) (u : Option zV), (n : Int) + i = M 2 0 → offM M T → lrnd T → (∀ j, j < i → T 58 j = (paN M j : Nat)) → zK (zg E) rmX3_mostPairs 3 (Qp, 0, 0) X (0, 0) 9 [some (zR 56), some (zI i), u] [] T := by
  have h8 := hs.1
  intro n
  induction n with
  | zero =>
    intro i T u hi hT hl hp
    have e2 := hT.ag 2 (by decide)
    have eo : T 57 = M 57 := hT _ (by decide) (by decide) (by decide) (by decide) (by decide) (by decide)
    have hp' : ∀ i, i < (M 2 0).toNat → T 58 i = (paN M i : Nat) := fun j hj => hp j (by omega)
    have hpl : ∀ i, i < (M 2 0).toNat → 0 ≤ T 58 i ∧ T 58 i < 256 := fun i hi => by
      rw [hp' i hi]
      have := pst_lt hs i
      unfold paN
      split <;> omega
    have ecf : cutF (T 57) (fun i => (T 58 i).toNat) (M 2 0).toNat 0 = cutF (M 57) (paN M) (M 2 0).toNat 0 := by
      unfold cutF
      rw [eo, cutP_cong (q := paN M) (M 2 0).toNat (fun i hi => by rw [hp' i hi, Int.toNat_natCast])]
    have hpos : 0 < 2 ^ (M 2 0).toNat := Nat.two_pow_pos _
    have q := lp_X3_mostPairs_2 S hs hc hc0 ho hT hp' (hQ T hT) (2 ^ (M 2 0).toNat - 1) 0 (by omega)
    refine zr_iload_n (pc := 9) S dX3_mostPairs_9 rfl ?_
    refine zr_aload_n (pc := 10) S dX3_mostPairs_10 rfl ?_
    refine zr_getR (pc := 11) S fX3_mostPairs_18 dX3_mostPairs_11 rfl (Nat.le_of_ble_eq_true rfl) rfl ?_
    refine zr_getR (pc := 14) S fX3_mostPairs_26 dX3_mostPairs_14 rfl (Nat.le_of_ble_eq_true rfl) rfl ?_
    refine zr_getI (pc := 17) S fX3_mostPairs_32 dX3_mostPairs_17 rfl (Nat.le_of_ble_eq_true rfl) rfl ?_
    rw [e2]
    refine zr_icmp_ge (pc := 20) (tgt := 53) S dX3_mostPairs_20 (by decide) (fun c20 => ?_) (fun c20 => absurd c20 (by omega))
    refine zr_aload_n (pc := 53) S dX3_mostPairs_53 rfl ?_
    refine zr_iconst (pc := 54) S dX3_mostPairs_54 (by unfold zrI; omega) ?_
    refine zr_invV (pc := 55) S [zI _] (m_X3_cutOf _) kX3_mostPairs_80 dX3_mostPairs_55 rfl (Nat.le_of_ble_eq_true rfl) rfl (Nat.le_of_ble_eq_true rfl) ⟨Nat.le_of_ble_eq_true rfl, Nat.le_of_ble_eq_true rfl⟩ (us_X3_cutOf (set := 0) (n := (M 2 0).toNat) (c := c) (by rw [e2]; omega) (by omega) hc hc0 (by rw [eo]; exact ho) hpl ?_)
    dsimp only [zaft, Option.toList, List.cons_append, List.nil_append, Nat.add_zero]
    rw [ecf]
    refine zr_istore_n (pc := 58) S 1 dX3_mostPairs_58 rfl (by decide) ?_
    dsimp only [zst1, zst2, zset, zget, zlong]
    refine zr_iconst (pc := 59) S dX3_mostPairs_59 (by unfold zrI; omega) ?_
    refine zr_istore_n (pc := 60) S 2 dX3_mostPairs_60 rfl (by decide) ?_
    dsimp only [zst1, zst2, zset, zget, zlong]
    exact q
  | succ n ih =>
    intro i T u hi hT hl hp
    have ag := hT.ag
    have e2 := ag 2 (by decide)
    have eo : T 57 = M 57 := hT _ (by decide) (by decide) (by decide) (by decide) (by decide) (by decide)
    have e : (i : Int).toNat = i := Int.toNat_natCast i
    have ep := ag_pst ag i
    have nx : ∀ (T2 : zM) (v : Int), offS T T2 → v = (paN M i : Nat) → zK (zg E) rmX3_mostPairs 3 (Qp, 0, 0) X (0, 0) 9 [some (zR 56), some (zI (i + 1 : Nat)), u] [] (zup T2 58 i v) := fun T2 v h2 hv => by
      refine ih (i + 1) _ u (by omega) (fun k k1 k2 k3 k4 k5 k6 => by rw [zup_o k k6, h2 k k2 k3 k4 k5]; exact hT k k1 k2 k3 k4 k5 k6) ?_ (fun j hj => ?_)
      · refine lrnd_ag (M := T) (fun k hk => by rw [zup_o k (by omega)]; exact h2.ag k hk) hl ?_
        rw [zup_o _ (by decide)]
        exact h2 _ (by decide) (by decide) (by decide) (by decide)
      · by_cases hj2 : j = i
        · subst hj2; rw [zup_e]; exact hv
        · rw [zup_j hj2, h2 _ (by decide) (by decide) (by decide) (by decide)]; exact hp j (by omega)
    have pa1 : 0 < M 57 i → paN M i = pst M i := fun h => by unfold paN; rw [if_pos h]
    have pa0 : M 57 i ≤ 0 → paN M i = 0 := fun h => by unfold paN; rw [if_neg (by omega)]
    refine zr_iload_n (pc := 9) S dX3_mostPairs_9 rfl ?_
    refine zr_aload_n (pc := 10) S dX3_mostPairs_10 rfl ?_
    refine zr_getR (pc := 11) S fX3_mostPairs_18 dX3_mostPairs_11 rfl (Nat.le_of_ble_eq_true rfl) rfl ?_
    refine zr_getR (pc := 14) S fX3_mostPairs_26 dX3_mostPairs_14 rfl (Nat.le_of_ble_eq_true rfl) rfl ?_
    refine zr_getI (pc := 17) S fX3_mostPairs_32 dX3_mostPairs_17 rfl (Nat.le_of_ble_eq_true rfl) rfl ?_
    rw [e2]
    refine zr_icmp_ge (pc := 20) (tgt := 53) S dX3_mostPairs_20 (by decide) (fun c20 => absurd c20 (by omega)) (fun c20 => ?_)
    refine zr_aload_n (pc := 23) S dX3_mostPairs_23 rfl ?_
    refine zr_getR (pc := 24) S fX3_mostPairs_15 dX3_mostPairs_24 rfl (Nat.le_of_ble_eq_true rfl) rfl ?_
    refine zr_iload_n (pc := 27) S dX3_mostPairs_27 rfl ?_
    refine zr_aload_n (pc := 28) S dX3_mostPairs_28 rfl ?_
    refine zr_getR (pc := 29) S fX3_mostPairs_9 dX3_mostPairs_29 rfl (Nat.le_of_ble_eq_true rfl) rfl ?_
    refine zr_iload_n (pc := 32) S dX3_mostPairs_32 rfl ?_
    refine zr_iaload (pc := 33) S dX3_mostPairs_33 rfl (Nat.le_of_ble_eq_true rfl) (by omega) (by omega) ?_
    rw [eo, e]
    refine zr_if_le (pc := 34) (tgt := 45) S dX3_mostPairs_34 (by decide) (fun c34 => ?_) (fun c34 => ?_)
    · have q := nx T 0 (fun _ _ _ _ _ => rfl) (by rw [pa0 c34]; rfl)
      refine zr_iconst (pc := 45) S dX3_mostPairs_45 (by unfold zrI; omega) ?_
      refine zr_iastore (pc := 46) S dX3_mostPairs_46 rfl (Nat.le_of_ble_eq_true rfl) (by omega) (by omega) ?_
      rw [e]
      refine zr_iinc (pc := 47) S dX3_mostPairs_47 rfl (by unfold zrI; omega) (by decide) ?_
      dsimp only [zst1, zst2, zset, zget, zlong]
      refine zr_goto (pc := 50) (tgt := 9) S dX3_mostPairs_50 (by decide) ?_
      exact q
    · skip
      refine zr_aload_n (pc := 37) S dX3_mostPairs_37 rfl ?_
      refine zr_iload_n (pc := 38) S dX3_mostPairs_38 rfl ?_
      refine zr_invV (pc := 39) S [zI _] (m_X3_passingSet _) kX3_mostPairs_77 dX3_mostPairs_39 rfl (Nat.le_of_ble_eq_true rfl) rfl (Nat.le_of_ble_eq_true rfl) ⟨Nat.le_of_ble_eq_true rfl, Nat.le_of_ble_eq_true rfl⟩ (us_X3_passingSet (ag.g hg) (ag.s hs) (by omega) (by omega) hl ?_)
      dsimp only [zaft, Option.toList, List.cons_append, List.nil_append, Nat.add_zero]
      rintro r T2 ⟨rfl, h2⟩
      dsimp only [zaft, Option.toList, List.cons_append, List.nil_append]
      rw [ep]
      have q := nx T2 (pst M i : Nat) h2 (by rw [pa1 c34])
      refine zr_goto (pc := 42) (tgt := 46) S dX3_mostPairs_42 (by decide) ?_
      refine zr_iastore (pc := 46) S dX3_mostPairs_46 rfl (Nat.le_of_ble_eq_true rfl) (by omega) (by omega) ?_
      rw [e]
      refine zr_iinc (pc := 47) S dX3_mostPairs_47 rfl (by unfold zrI; omega) (by decide) ?_
      dsimp only [zst1, zst2, zset, zget, zlong]
      refine zr_goto (pc := 50) (tgt := 9) S dX3_mostPairs_50 (by decide) ?_
      exact q
def sp_X3_mostPairs (as : List zV) (M : zM) (Q : Option zV → zM → Prop) : Prop := ∃ (c : Int), as = [zR 56] ∧ (ICg M) ∧ (ICs M) ∧ (c ≤ 10000000) ∧ (0 ≤ c) ∧ (∀ i, i < (M 2 0).toNat → -c ≤ M 57 i ∧ M 57 i ≤ c) ∧ (∀ (r : Option zV) (M' : zM), (r = some (zI (mostP M)) ∧ offM M M') → Q r M')
theorem us_X3_mostPairs {c : Int} {M : zM} {Q : Option zV → zM → Prop} (hg : ICg M) (hs : ICs M) (hc : c ≤ 10000000) (hc0 : 0 ≤ c) (ho : ∀ i, i < (M 2 0).toNat → -c ≤ M 57 i ∧ M 57 i ≤ c) (h99 : (∀ (r : Option zV) (M' : zM), (r = some (zI (mostP M)) ∧ offM M M') → Q r M')) : sp_X3_mostPairs [zR 56] M Q := ⟨c, rfl, hg, hs, hc, hc0, ho, h99⟩
set_option maxRecDepth 20000 in
set_option maxHeartbeats 4000000 in
theorem m_X3_mostPairs (l : Launch) : zC l yX3_mostPairs wzX3_mostPairs rmX3_mostPairs sp_X3_mostPairs := by
  refine zMet.of RX3 (by decide +kernel) rfl rfl ?_
  intro E X as M Qp hX S hsp
  obtain ⟨c, rfl, hg, hs, hc, hc0, ho, hQ⟩ := hsp
  refine ⟨Nat.le_of_ble_eq_true rfl, ?_⟩
  dsimp only [zpad, zargs]
  have h8 := hs.1
  have ag : AG M (lrnU M (2 ^ (M 11 0).toNat)) := lrnU_ag
  have ld : lrnd (lrnU M (2 ^ (M 11 0).toNat)) := fun n hn => by
    rw [ag 11 (by decide)] at hn
    have e : gl (lrnU M (2 ^ (M 11 0).toNat)) n = gl M n := by unfold gl; exact ag_gw ag _ _ _
    rw [e]
    simp [lrnU, hn]
  have q := fun u => lp_X3_mostPairs_1 S hg hs hc hc0 ho (fun T hT => hQ _ T ⟨rfl, hT⟩) (M 2 0).toNat 0 (lrnU M (2 ^ (M 11 0).toNat)) u (by omega) (fun k k1 _ _ _ _ _ => lrnU_o k k1) ld (fun j hj => absurd hj (by omega))
  refine zr_aload_n (pc := 0) S dX3_mostPairs_0 rfl ?_
  refine zr_getR (pc := 1) S fX3_mostPairs_22 dX3_mostPairs_1 rfl (Nat.le_of_ble_eq_true rfl) rfl ?_
  refine zr_invV (pc := 4) S [] (m_X6_learn _) kX3_mostPairs_72 dX3_mostPairs_4 rfl (Nat.le_of_ble_eq_true rfl) rfl (Nat.le_of_ble_eq_true rfl) ⟨Nat.le_of_ble_eq_true rfl, Nat.le_of_ble_eq_true rfl⟩ (us_X6_learn hg hs ?_)
  dsimp only [zaft, Option.toList, List.cons_append, List.nil_append, Nat.add_zero]
  refine zr_iconst (pc := 7) S dX3_mostPairs_7 (by unfold zrI; omega) ?_
  refine zr_istore_n (pc := 8) S 1 dX3_mostPairs_8 rfl (by decide) ?_
  dsimp only [zst1, zst2, zset, zget, zlong]
  exact q _
end
