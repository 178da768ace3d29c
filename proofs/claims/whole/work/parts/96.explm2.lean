section
theorem cutF_cong {od od' : Nat → Int} {pa pa' : Nat → Nat} {n set : Nat} (h : ∀ i, i < n → od i = od' i) (hp : ∀ i, i < n → pa i = pa' i) : cutF od pa n set = cutF od' pa' n set := by
  have ca : ∀ m, m ≤ n → cutA od set m = cutA od' set m := fun m => by
    induction m with
    | zero => intro _; rfl
    | succ m ih => intro hm; simp only [cutA]; rw [ih (by omega), h m (by omega)]
  have cb : ∀ ps m, m ≤ n → cutB od ps m = cutB od' ps m := fun ps m => by
    induction m with
    | zero => intro _; rfl
    | succ m ih => intro hm; simp only [cutB]; rw [ih (by omega), h m (by omega)]
  unfold cutF
  rw [ca n (Nat.le_refl _), cutP_cong (q := pa') n hp, cb _ n (Nat.le_refl _)]
theorem minU_le {f : Nat → Int} : ∀ t i, i ≤ t → minU f t ≤ f i
  | 0, i, h => by have : i = 0 := by omega
                  rw [this]; exact Int.le_refl _
  | t + 1, i, h => by
    simp only [minU]
    by_cases e : i = t + 1
    · rw [e]; omega
    · have := minU_le (f := f) t i (by omega); omega
theorem cut_more {od : Nat → Int} {pa : Nat → Nat} {n : Nat} (h : ∀ i, i < n → od i ≤ 0) : cutF od pa n 0 = 0 := by
  have ca : ∀ m, m ≤ n → cutA od 0 m = 0 := fun m => by
    induction m with
    | zero => intro _; rfl
    | succ m ih => intro hm; simp only [cutA, Nat.zero_testBit, Bool.false_eq_true, if_false]; rw [ih (by omega)]; have := h m (by omega); omega
  have cp : ∀ m, cutP pa 0 m = 0 := fun m => by
    induction m with
    | zero => rfl
    | succ m ih => simp only [cutP, Nat.zero_testBit, Bool.false_eq_true, if_false]; exact ih
  have cb : ∀ m, cutB od 0 m = 0 := fun m => by
    induction m with
    | zero => rfl
    | succ m ih => simp only [cutB, Nat.zero_testBit, Bool.false_eq_true, if_false]; rw [ih]; rfl
  unfold cutF
  rw [ca n (Nat.le_refl _), cp, cb]; rfl
theorem cut_less {od : Nat → Int} {pa : Nat → Nat} {n : Nat} (h : ∀ i, i < n → 0 ≤ od i) : cutF od pa n (2 ^ n - 1) = 0 := by
  have ca : ∀ m, m ≤ n → cutA od (2 ^ n - 1) m = 0 := fun m => by
    induction m with
    | zero => intro _; rfl
    | succ m ih =>
      intro hm
      have tb : (2 ^ n - 1).testBit m = true := by rw [Nat.testBit_two_pow_sub_one]; exact decide_eq_true (by omega)
      simp only [cutA, tb, if_true]; rw [ih (by omega)]; rfl
  have cb : ∀ ps m, m ≤ n → cutB od ps m = 0 := fun ps m => by
    induction m with
    | zero => intro _; rfl
    | succ m ih =>
      intro hm
      simp only [cutB]
      rw [ih (by omega)]
      have := h m (by omega)
      split <;> omega
  unfold cutF
  rw [ca n (Nat.le_refl _), cb _ n (Nat.le_refl _)]; rfl
theorem moreU_0 {M : zM} : ∀ n : Nat, moreU M n = 0 → (∀ i : Nat, i < n → odd M i ≤ 0)
  | 0, _, i, hi => absurd hi (by omega)
  | n + 1, h, i, hi => by
    have nn : ∀ m, 0 ≤ moreU M m := fun m => by
      induction m with
      | zero => simp [moreU]
      | succ m ih => simp only [moreU]; omega
    have a := nn n
    simp only [moreU] at h
    by_cases e : i = n
    · rw [e]; omega
    · exact moreU_0 n (by omega) i (by omega)
theorem lessU_0 {M : zM} : ∀ n : Nat, lessU M n = 0 → (∀ i : Nat, i < n → 0 ≤ odd M i)
  | 0, _, i, hi => absurd hi (by omega)
  | n + 1, h, i, hi => by
    have nn : ∀ m, 0 ≤ lessU M m := fun m => by
      induction m with
      | zero => simp [lessU]
      | succ m ih => simp only [lessU]; omega
    have a := nn n
    simp only [lessU] at h
    by_cases e : i = n
    · rw [e]; omega
    · exact lessU_0 n (by omega) i (by omega)
/-- the reference's slugs are the class's -/
theorem slug_e {V W : zM} {O : Nat → Int} {n : Nat} {c : Int} (hn : V 2 0 = n) (hn8 : n ≤ 8) (a : AG V W) (hO : ∀ i, i < n → O i = odd V i) (hc0 : 0 ≤ c) (hc : ∀ i, i < n → -c ≤ O i ∧ O i ≤ c) : minU (cutF O (paV W O) n) (2 ^ n - 1) = mostW V := by
  have en : (V 2 0).toNat = n := by rw [hn, Int.toNat_natCast]
  have cf : ∀ set, 0 ≤ cutF O (paV W O) n set ∧ cutF O (paV W O) n set ≤ 16 * c := fun set => cutF_r hc0 hn8 hc
  have nn := (minU_r cf (2 ^ n - 1)).1
  unfold mostW
  rw [en]
  split
  · rename_i h
    rcases h with h | h
    · have z := cut_more (od := O) (pa := paV W O) (fun i hi => by rw [hO i hi]; exact moreU_0 n h i hi)
      have := minU_le (f := cutF O (paV W O) n) (2 ^ n - 1) 0 (by omega)
      omega
    · have z := cut_less (od := O) (pa := paV W O) (fun i hi => by rw [hO i hi]; exact lessU_0 n h i hi)
      have := minU_le (f := cutF O (paV W O) n) (2 ^ n - 1) (2 ^ n - 1) (by omega)
      omega
  · have ag0 : AG V (oddR V n) := oddR_ag
    unfold mostP
    rw [ag0 2 (by decide), en]
    congr 1
    funext set
    refine cutF_cong (fun i hi => by rw [oddR_e hi, hO i hi]) (fun i hi => ?_)
    unfold paV paN
    rw [oddR_e hi, hO i hi, ag_pst a, ag_pst ag0]
theorem xp1 {E : zE} {X : zX} {Qp : Option zV → zM → Prop} {M : zM} {B w : Int} {n : Nat} (S : zS (zg E) X cX12_explain 8 wzX12_explain RX12 (some .int)) (hn : M 181 0 = n) (hn8 : n ≤ 8) (ht : ICt B (vm M)) (hB0 : 0 ≤ B) (hB : B ≤ 13000) (he : ICe (vm M))
    (k : ∀ O : Nat → Int, (∀ i, i < n → O i = odd (vm M) i) → ∀ u5 u6 u7, zK (zg E) rmX12_explain 8 (Qp, 0, 0) X (0, 0) 96 [some (zR 180), some (zI w), some (zI (moreU (vm M) n)), some (zI (lessU (vm M) n)), some (zI n), u5, u6, u7] [] (zrow M 192 O)) : ∀ (r i : Nat) (O : Nat → Int) (u5 u6 u7 : Option zV), r + i = n → (∀ j, j < i → O j = odd (vm M) j) → zK (zg E) rmX12_explain 8 (Qp, 0, 0) X (0, 0) 30 [some (zR 180), some (zI w), some (zI (moreU (vm M) i)), some (zI (lessU (vm M) i)), some (zI i), u5, u6, u7] [] (zrow M 192 O) := by
  have et : ∀ O, zrow M 192 O 181 = M 181 := fun O => zrow_o (by decide)
  have et0 : ∀ O, zrow M 192 O 181 0 = n := fun O => by rw [et, hn]
  intro r
  induction r with
  | zero =>
    intro i O u5 u6 u7 hi hO
    obtain rfl : i = n := by omega
    refine zr_iload (pc := 30) S dX12_explain_30 rfl ?_
    refine zr_aload_n (pc := 32) S dX12_explain_32 rfl ?_
    refine zr_getR (pc := 33) S fX12_explain_9 dX12_explain_33 rfl (Nat.le_of_ble_eq_true rfl) rfl ?_
    refine zr_iconst (pc := 36) S dX12_explain_36 (by unfold zrI; omega) ?_
    refine zr_iaload (pc := 37) S dX12_explain_37 rfl (Nat.le_of_ble_eq_true rfl) (by omega) (by omega) ?_
    dsimp only [Int.reduceToNat]
    rw [et0]
    refine zr_icmp_ge (pc := 38) (tgt := 96) S dX12_explain_38 (by decide) (fun c38 => ?_) (fun c38 => absurd c38 (by omega))
    exact k O hO _ _ _
  | succ r ih =>
    intro i O u5 u6 u7 hi hO
    have e : (i : Int).toNat = i := Int.toNat_natCast i
    have a := moreU_r ht hB0 i (by omega)
    have hm : (2 * B + 160) * (i : Int) ≤ (2 * B + 160) * 8 := Int.mul_le_mul_of_nonneg_left (by omega) (by omega)
    have b := odd_r ht (s := i) (by omega) (by omega)
    have bt := ht.b (t := i) (by omega) (by omega)
    rw [e] at bt
    have av : AG (vm M) (vm (zrow M 192 O)) := vm_zr (by decide) (by decide)
    have eth := ag_there av i
    have ed : zrow M 192 O 181 ((335 : Int) + (i : Int)).toNat + zrow M 192 O 181 ((343 : Int) + (i : Int)).toNat = vm M 21 i + vm M 22 i := by
      rw [et, show ((335 : Int) + (i : Int)).toNat = 335 + i by omega, show ((343 : Int) + (i : Int)).toNat = 343 + i by omega, vm_ldd (by omega), vm_whl (by omega)]
    have er : zrI (zrow M 192 O 181 ((335 : Int) + (i : Int)).toNat + zrow M 192 O 181 ((343 : Int) + (i : Int)).toNat) := by rw [ed]; unfold zrI; omega
    have eo : there (vm M) i - (vm M 21 i + vm M 22 i) = odd (vm M) i := by show _ = there (vm M) i - (vm M 21 (i : Int).toNat + vm M 22 (i : Int).toNat); rw [e]
    have l := fun u5 u6 u7 => ih (i + 1) (rUp O i (odd (vm M) i)) u5 u6 u7 (by omega) (fun j hj => by
      by_cases ej : j = i
      · rw [ej, rUp_e]
      · rw [rUp_o ej]; exact hO j (by omega))
    simp only [moreU, lessU] at l
    rw [Int.natCast_add, Int.natCast_one] at l
    refine zr_iload (pc := 30) S dX12_explain_30 rfl ?_
    refine zr_aload_n (pc := 32) S dX12_explain_32 rfl ?_
    refine zr_getR (pc := 33) S fX12_explain_9 dX12_explain_33 rfl (Nat.le_of_ble_eq_true rfl) rfl ?_
    refine zr_iconst (pc := 36) S dX12_explain_36 (by unfold zrI; omega) ?_
    refine zr_iaload (pc := 37) S dX12_explain_37 rfl (Nat.le_of_ble_eq_true rfl) (by omega) (by omega) ?_
    dsimp only [Int.reduceToNat]
    rw [et0]
    refine zr_icmp_ge (pc := 38) (tgt := 96) S dX12_explain_38 (by decide) (fun c38 => absurd c38 (by omega)) (fun c38 => ?_)
    refine zr_aload_n (pc := 41) S dX12_explain_41 rfl ?_
    refine zr_getR (pc := 42) S fX12_explain_53 dX12_explain_42 rfl (Nat.le_of_ble_eq_true rfl) rfl ?_
    refine zr_iload (pc := 45) S dX12_explain_45 rfl ?_
    refine zr_aload_n (pc := 47) S dX12_explain_47 rfl ?_
    refine zr_iload (pc := 48) S dX12_explain_48 rfl ?_
    refine zr_invV (pc := 50) S [zI _] (m_X12_there _) kX12_explain_329 dX12_explain_50 rfl (Nat.le_of_ble_eq_true rfl) rfl (Nat.le_of_ble_eq_true rfl) ⟨Nat.le_of_ble_eq_true rfl, Nat.le_of_ble_eq_true rfl⟩ (us_X12_there (by omega) (av.t ht) (by omega) (av.e he) (by rw [et0]; omega) ?_)
    dsimp only [zaft, Option.toList, List.cons_append, List.nil_append, Nat.add_zero]
    rw [eth]
    refine zr_aload_n (pc := 53) S dX12_explain_53 rfl ?_
    refine zr_iload (pc := 54) S dX12_explain_54 rfl ?_
    refine zr_invV (pc := 56) S [zI _] (m_X12_due _) kX12_explain_326 dX12_explain_56 rfl (Nat.le_of_ble_eq_true rfl) rfl (Nat.le_of_ble_eq_true rfl) ⟨Nat.le_of_ble_eq_true rfl, Nat.le_of_ble_eq_true rfl⟩ (us_X12_due (by omega) (by omega) er ?_)
    dsimp only [zaft, Option.toList, List.cons_append, List.nil_append, Nat.add_zero]
    rw [ed]
    refine zr_isub (pc := 59) S dX12_explain_59 (by rw [eo]; unfold zrI; omega) ?_
    rw [eo]
    refine zr_iastore (pc := 60) S dX12_explain_60 rfl (Nat.le_of_ble_eq_true rfl) (by omega) (by omega) ?_
    rw [e, zrow_up]
    refine zr_iload_n (pc := 61) S dX12_explain_61 rfl ?_
    refine zr_iconst (pc := 62) S dX12_explain_62 (by unfold zrI; omega) ?_
    refine zr_aload_n (pc := 63) S dX12_explain_63 rfl ?_
    refine zr_getR (pc := 64) S fX12_explain_53 dX12_explain_64 rfl (Nat.le_of_ble_eq_true rfl) rfl ?_
    try simp only [zup_k, zup_e, ne_eq, Nat.reduceEqDiff, not_false_eq_true, zup_j]
    refine zr_iload (pc := 67) S dX12_explain_67 rfl ?_
    refine zr_iaload (pc := 69) S dX12_explain_69 rfl (Nat.le_of_ble_eq_true rfl) (by omega) (by omega) ?_
    try simp only [zup_k, zup_e, ne_eq, Nat.reduceEqDiff, not_false_eq_true]
    rw [e, zrow_e, rUp_e]
    refine zr_mmax (pc := 70) S kX12_explain_123 dX12_explain_70 (Nat.le_of_ble_eq_true rfl) (Nat.le_of_ble_eq_true rfl) ⟨Nat.le_of_ble_eq_true rfl, Nat.le_of_ble_eq_true rfl⟩ ?_
    refine zr_iadd (pc := 73) S dX12_explain_73 (by unfold zrI; omega) ?_
    refine zr_istore_n (pc := 74) S 2 dX12_explain_74 rfl (by decide) ?_
    dsimp only [zst1, zst2, zset, zget, zlong]
    refine zr_iload_n (pc := 75) S dX12_explain_75 rfl ?_
    refine zr_iconst (pc := 76) S dX12_explain_76 (by unfold zrI; omega) ?_
    refine zr_aload_n (pc := 77) S dX12_explain_77 rfl ?_
    refine zr_getR (pc := 78) S fX12_explain_53 dX12_explain_78 rfl (Nat.le_of_ble_eq_true rfl) rfl ?_
    try simp only [zup_k, zup_e, ne_eq, Nat.reduceEqDiff, not_false_eq_true, zup_j]
    refine zr_iload (pc := 81) S dX12_explain_81 rfl ?_
    refine zr_iaload (pc := 83) S dX12_explain_83 rfl (Nat.le_of_ble_eq_true rfl) (by omega) (by omega) ?_
    try simp only [zup_k, zup_e, ne_eq, Nat.reduceEqDiff, not_false_eq_true]
    rw [e, zrow_e, rUp_e]
    refine zr_ineg (pc := 84) S dX12_explain_84 (by unfold zrI; omega) ?_
    refine zr_mmax (pc := 85) S kX12_explain_123 dX12_explain_85 (Nat.le_of_ble_eq_true rfl) (Nat.le_of_ble_eq_true rfl) ⟨Nat.le_of_ble_eq_true rfl, Nat.le_of_ble_eq_true rfl⟩ ?_
    refine zr_iadd (pc := 88) S dX12_explain_88 (by unfold zrI; omega) ?_
    refine zr_istore_n (pc := 89) S 3 dX12_explain_89 rfl (by decide) ?_
    dsimp only [zst1, zst2, zset, zget, zlong]
    refine zr_iinc (pc := 90) S dX12_explain_90 rfl (by unfold zrI; omega) (by decide) ?_
    dsimp only [zst1, zst2, zset, zget, zlong]
    refine zr_goto (pc := 93) (tgt := 30) S dX12_explain_93 (by decide) ?_
    exact l _ _ _
def sp_X12_explain (as : List zV) (M : zM) (Q : Option zV → zM → Prop) : Prop := ∃ (B w : Int), as = [zR 180, zI w] ∧ (ICg (vm M)) ∧ (ICs (vm M)) ∧ (ICt B (vm M)) ∧ (0 ≤ B) ∧ (B ≤ 13000) ∧ (∀ i : Nat, i < 4 → 0 ≤ vm M 23 i ∧ vm M 23 i ≤ 999) ∧ (ICk (M 181)) ∧ (M 180 16 = -1) ∧ (ICe (vm M)) ∧ ((0 ≤ w ∧ w ≤ 2) → ∀ M', offY (tz M 0) M' → Q (some (zI (if w = 0 then costW (vm M) else if w = 1 then fewW (vm M) else manyW (vm M)))) M') ∧ (¬ (0 ≤ w ∧ w ≤ 2) → Q (some (zI 0)) (tz (tz M 0) 1))
theorem us_X12_explain {B w : Int} {M : zM} {Q : Option zV → zM → Prop} (hg : ICg (vm M)) (hs : ICs (vm M)) (ht : ICt B (vm M)) (hB0 : 0 ≤ B) (hB : B ≤ 13000) (hc : ∀ i : Nat, i < 4 → 0 ≤ vm M 23 i ∧ vm M 23 i ≤ 999) (hk : ICk (M 181)) (hm : M 180 16 = -1) (he : ICe (vm M)) (hQ : (0 ≤ w ∧ w ≤ 2) → ∀ M', offY (tz M 0) M' → Q (some (zI (if w = 0 then costW (vm M) else if w = 1 then fewW (vm M) else manyW (vm M)))) M') (hT : ¬ (0 ≤ w ∧ w ≤ 2) → Q (some (zI 0)) (tz (tz M 0) 1)) : sp_X12_explain [zR 180, zI w] M Q := ⟨B, w, rfl, hg, hs, ht, hB0, hB, hc, hk, hm, he, hQ, hT⟩
set_option maxRecDepth 20000 in
set_option maxHeartbeats 4000000 in
theorem m_X12_explain (l : Launch) : zC l yX12_explain wzX12_explain rmX12_explain sp_X12_explain := by
  refine zMet.of RX12 (by decide +kernel) rfl rfl ?_
  intro E X as M Qp hX S hsp
  obtain ⟨B, w, rfl, hg, hs, ht, hB0, hB, hc, hk, hm, he, hQ, hT⟩ := hsp
  refine ⟨Nat.le_of_ble_eq_true rfl, ?_⟩
  dsimp only [zpad, zargs]
  have t8 : 0 ≤ M 181 0 ∧ M 181 0 ≤ 8 := hs.1
  have et : tz M 0 181 = M 181 := zup_o _ (by decide)
  have az := tz_ag M 0
  obtain ⟨n, hn⟩ : ∃ n : Nat, M 181 0 = n := ⟨(M 181 0).toNat, by omega⟩
  have em : ∀ i, moreU (vm (tz M 0)) i = moreU (vm M) i ∧ lessU (vm (tz M 0)) i = lessU (vm M) i := fun i => by
    induction i with
    | zero => exact ⟨rfl, rfl⟩
    | succ i ih => simp only [moreU, lessU]; rw [ih.1, ih.2, ag_odd az]; exact ⟨rfl, rfl⟩
  have key : (0 ≤ w ∧ w ≤ 2) → ∀ O : Nat → Int, (∀ i, i < n → O i = odd (vm (tz M 0)) i) → ∀ u5 u6 u7, zK (zg E) rmX12_explain 8 (Qp, 0, 0) X (0, 0) 96 [some (zR 180), some (zI w), some (zI (moreU (vm (tz M 0)) n)), some (zI (lessU (vm (tz M 0)) n)), some (zI n), u5, u6, u7] [] (zrow (tz M 0) 192 O) := by
    intro c1 O hO u5 u6 u7
    rw [(em n).1, (em n).2]
    have hO' : ∀ i, i < n → O i = odd (vm M) i := fun i hi => by rw [hO i hi, ag_odd az]
    have f := hQ c1
    have hc0 := hc 0 (by omega)
    have hc1 := hc 1 (by omega)
    have hc2 := hc 2 (by omega)
    have hc3 := hc 3 (by omega)
    have a := moreU_r ht hB0 n (by omega)
    have hmm : (2 * B + 160) * (n : Int) ≤ (2 * B + 160) * 8 := Int.mul_le_mul_of_nonneg_left (by omega) (by omega)
    have oy : offY (tz M 0) (zrow (tz M 0) 192 O) := (offY.rf _).scr O (by decide)
    have aN : AG (vm M) (vm (zrow (tz M 0) 192 O)) := fun k hk => (oy.ag k hk).trans (az k hk)
    have eO : zrow (tz M 0) 192 O 192 = O := zrow_e
    have hO2 : ∀ i, i < n → -(2 * B + 160) ≤ O i ∧ O i ≤ 2 * B + 160 := fun i hi => by
      rw [hO' i hi]
      have := odd_r ht (s := i) (by omega) (by omega)
      omega
    have sl := slug_e (V := vm M) (W := vm (zrow (tz M 0) 192 O)) (O := O) (n := n) (c := 2 * B + 160) (by rw [vm_many, hn]) (by omega) aN hO' (by omega) hO2
    have mw : 0 ≤ mostW (vm M) ∧ mostW (vm M) ≤ 16 * (2 * B + 160) := by
      rw [← sl]
      exact minU_r (fun t => cutF_r (by omega) (by omega) hO2) _
    have v0 : vm M 23 0 = M 181 11 := rfl
    have v1 : vm M 23 1 = M 181 12 := rfl
    have v2 : vm M 23 2 = M 181 13 := rfl
    have v3 : vm M 23 3 = M 181 14 := rfl
    have ms : missW (vm M) = min (M 181 12) (M 181 13) := rfl
    have dw : dearW (vm M) = M 181 14 - M 181 11 - missW (vm M) := rfl
    have cw : costW (vm M) = moreU (vm M) n * M 181 11 + lessU (vm M) n * missW (vm M) + fewW (vm M) * dearW (vm M) := by
      show moreU (vm M) (vm M 2 0).toNat * _ + lessU (vm M) (vm M 2 0).toNat * _ + _ = _
      rw [vm_many, hn, Int.toNat_natCast, v0]
    have fw : fewW (vm M) = if dearW (vm M) < 0 then mostW (vm M) else 0 := rfl
    have yw : manyW (vm M) = if dearW (vm M) ≤ 0 then mostW (vm M) else 0 := rfl
    have kk : ∀ T, offU (zrow (tz M 0) 192 O) T → zK (zg E) rmX12_explain 8 (Qp, 0, 0) X (0, 0) 100 [some (zR 180), some (zI w), some (zI (moreU (vm M) n)), some (zI (lessU (vm M) n)), some (zI n), u5, u6, u7] [zI (mostW (vm M))] T := by
      intro T hT
      have oT : offY (tz M 0) T := oy.tr hT.y
      have q := f T oT
      have tT : T 181 = M 181 := (oT 181 (by decide)).trans et
      rw [v0] at hc0
      rw [v1] at hc1
      rw [v2] at hc2
      rw [v3] at hc3
      have p1 := zmulr a.1.1 (Int.le_trans a.1.2 hmm) hc0.1 hc0.2
      have p2 := zmulr (b := missW (vm M)) (B := 999) a.2.1 (Int.le_trans a.2.2 hmm) (by omega) (by omega)
      have p3 := zmulr (a := max 0 (-dearW (vm M))) (A := 1998) (b := mostW (vm M)) (B := 16 * (2 * B + 160)) (by omega) (by omega) mw.1 mw.2
      have e6 : M 181 11 + missW (vm M) - M 181 14 = -dearW (vm M) := by omega
      have q0 : moreU (vm M) n * M 181 11 + lessU (vm M) n * missW (vm M) - max 0 (-dearW (vm M)) * mostW (vm M) = costW (vm M) := by
        rw [cw, fw]
        split
        · rw [show max 0 (-dearW (vm M)) = -dearW (vm M) by omega, Int.neg_mul, Int.mul_comm (mostW (vm M))]; omega
        · rw [show max 0 (-dearW (vm M)) = 0 by omega, Int.zero_mul, Int.zero_mul]; omega
      generalize hd : dearW (vm M) = dd at *
      generalize hmi : missW (vm M) = mi at *
      rw [fw, yw] at q
      refine zr_istore (pc := 100) S dX12_explain_100 (by decide) ?_
      dsimp only [zst1, zst2, zset, zget, zlong]
      refine zr_aload_n (pc := 102) S dX12_explain_102 rfl ?_
      refine zr_getR (pc := 103) S fX12_explain_9 dX12_explain_103 rfl (Nat.le_of_ble_eq_true rfl) rfl ?_
      refine zr_bipush (pc := 106) S dX12_explain_106 ⟨by unfold zrI; omega, by decide⟩ ?_
      refine zr_iaload (pc := 108) S dX12_explain_108 rfl (Nat.le_of_ble_eq_true rfl) (by omega) (by omega) ?_
      dsimp only [Int.reduceToNat]
      rw [tT]
      refine zr_aload_n (pc := 109) S dX12_explain_109 rfl ?_
      refine zr_getR (pc := 110) S fX12_explain_9 dX12_explain_110 rfl (Nat.le_of_ble_eq_true rfl) rfl ?_
      refine zr_bipush (pc := 113) S dX12_explain_113 ⟨by unfold zrI; omega, by decide⟩ ?_
      refine zr_iaload (pc := 115) S dX12_explain_115 rfl (Nat.le_of_ble_eq_true rfl) (by omega) (by omega) ?_
      dsimp only [Int.reduceToNat]
      rw [tT]
      refine zr_mmin (pc := 116) S kX12_explain_228 dX12_explain_116 (Nat.le_of_ble_eq_true rfl) (Nat.le_of_ble_eq_true rfl) ⟨Nat.le_of_ble_eq_true rfl, Nat.le_of_ble_eq_true rfl⟩ ?_
      rw [← ms]
      refine zr_istore (pc := 119) S dX12_explain_119 (by decide) ?_
      dsimp only [zst1, zst2, zset, zget, zlong]
      refine zr_aload_n (pc := 121) S dX12_explain_121 rfl ?_
      refine zr_getR (pc := 122) S fX12_explain_9 dX12_explain_122 rfl (Nat.le_of_ble_eq_true rfl) rfl ?_
      refine zr_bipush (pc := 125) S dX12_explain_125 ⟨by unfold zrI; omega, by decide⟩ ?_
      refine zr_iaload (pc := 127) S dX12_explain_127 rfl (Nat.le_of_ble_eq_true rfl) (by omega) (by omega) ?_
      dsimp only [Int.reduceToNat]
      rw [tT]
      refine zr_iload (pc := 128) S dX12_explain_128 rfl ?_
      refine zr_iadd (pc := 130) S dX12_explain_130 (by unfold zrI; omega) ?_
      refine zr_aload_n (pc := 131) S dX12_explain_131 rfl ?_
      refine zr_getR (pc := 132) S fX12_explain_9 dX12_explain_132 rfl (Nat.le_of_ble_eq_true rfl) rfl ?_
      refine zr_bipush (pc := 135) S dX12_explain_135 ⟨by unfold zrI; omega, by decide⟩ ?_
      refine zr_iaload (pc := 137) S dX12_explain_137 rfl (Nat.le_of_ble_eq_true rfl) (by omega) (by omega) ?_
      dsimp only [Int.reduceToNat]
      rw [tT]
      refine zr_isub (pc := 138) S dX12_explain_138 (by unfold zrI; omega) ?_
      rw [e6]
      refine zr_istore (pc := 139) S dX12_explain_139 (by decide) ?_
      dsimp only [zst1, zst2, zset, zget, zlong]
      refine zr_iload_n (pc := 141) S dX12_explain_141 rfl ?_
      refine zr_aload_n (pc := 142) S dX12_explain_142 rfl ?_
      refine zr_getR (pc := 143) S fX12_explain_9 dX12_explain_143 rfl (Nat.le_of_ble_eq_true rfl) rfl ?_
      refine zr_bipush (pc := 146) S dX12_explain_146 ⟨by unfold zrI; omega, by decide⟩ ?_
      refine zr_iaload (pc := 148) S dX12_explain_148 rfl (Nat.le_of_ble_eq_true rfl) (by omega) (by omega) ?_
      dsimp only [Int.reduceToNat]
      rw [tT]
      refine zr_imul (pc := 149) S dX12_explain_149 (by unfold zrI; omega) ?_
      refine zr_iload_n (pc := 150) S dX12_explain_150 rfl ?_
      refine zr_iload (pc := 151) S dX12_explain_151 rfl ?_
      refine zr_imul (pc := 153) S dX12_explain_153 (by unfold zrI; omega) ?_
      refine zr_iadd (pc := 154) S dX12_explain_154 (by unfold zrI; omega) ?_
      refine zr_istore (pc := 155) S dX12_explain_155 (by decide) ?_
      dsimp only [zst1, zst2, zset, zget, zlong]
      refine zr_iload_n (pc := 157) S dX12_explain_157 rfl ?_
      refine zr_if_ne (pc := 158) (tgt := 176) S dX12_explain_158 (by decide) (fun c158 => ?_) (fun c158 => ?_)
      · rw [if_neg c158] at q
        refine zr_iload_n (pc := 176) S dX12_explain_176 rfl ?_
        refine zr_iconst (pc := 177) S dX12_explain_177 (by unfold zrI; omega) ?_
        refine zr_icmp_ne (pc := 178) (tgt := 195) S dX12_explain_178 (by decide) (fun c178 => ?_) (fun c178 => ?_)
        · rw [if_neg c178] at q
          refine zr_iload (pc := 195) S dX12_explain_195 rfl ?_
          refine zr_if_lt (pc := 197) (tgt := 205) S dX12_explain_197 (by decide) (fun c197 => ?_) (fun c197 => ?_)
          · rw [if_neg (by omega)] at q
            refine zr_iconst (pc := 205) S dX12_explain_205 (by unfold zrI; omega) ?_
            exact zr_iret (pc := 206) S dX12_explain_206 rfl ⟨Nat.le_refl _, Nat.le_refl _⟩ (q)
          · rw [if_pos (by omega)] at q
            refine zr_iload (pc := 200) S dX12_explain_200 rfl ?_
            refine zr_goto (pc := 202) (tgt := 206) S dX12_explain_202 (by decide) ?_
            exact zr_iret (pc := 206) S dX12_explain_206 rfl ⟨Nat.le_refl _, Nat.le_refl _⟩ (q)
        · rw [if_pos c178] at q
          refine zr_iload (pc := 181) S dX12_explain_181 rfl ?_
          refine zr_if_le (pc := 183) (tgt := 191) S dX12_explain_183 (by decide) (fun c183 => ?_) (fun c183 => ?_)
          · rw [if_neg (by omega)] at q
            refine zr_iconst (pc := 191) S dX12_explain_191 (by unfold zrI; omega) ?_
            refine zr_goto (pc := 192) (tgt := 206) S dX12_explain_192 (by decide) ?_
            exact zr_iret (pc := 206) S dX12_explain_206 rfl ⟨Nat.le_refl _, Nat.le_refl _⟩ (q)
          · rw [if_pos (by omega)] at q
            refine zr_iload (pc := 186) S dX12_explain_186 rfl ?_
            refine zr_goto (pc := 188) (tgt := 206) S dX12_explain_188 (by decide) ?_
            exact zr_iret (pc := 206) S dX12_explain_206 rfl ⟨Nat.le_refl _, Nat.le_refl _⟩ (q)
      · rw [if_pos c158] at q
        refine zr_iload (pc := 161) S dX12_explain_161 rfl ?_
        refine zr_iconst (pc := 163) S dX12_explain_163 (by unfold zrI; omega) ?_
        refine zr_iload (pc := 164) S dX12_explain_164 rfl ?_
        refine zr_mmax (pc := 166) S kX12_explain_123 dX12_explain_166 (Nat.le_of_ble_eq_true rfl) (Nat.le_of_ble_eq_true rfl) ⟨Nat.le_of_ble_eq_true rfl, Nat.le_of_ble_eq_true rfl⟩ ?_
        refine zr_iload (pc := 169) S dX12_explain_169 rfl ?_
        refine zr_imul (pc := 171) S dX12_explain_171 (by unfold zrI; omega) ?_
        refine zr_isub (pc := 172) S dX12_explain_172 (by unfold zrI; omega) ?_
        rw [q0]
        refine zr_goto (pc := 173) (tgt := 206) S dX12_explain_173 (by decide) ?_
        exact zr_iret (pc := 206) S dX12_explain_206 rfl ⟨Nat.le_refl _, Nat.le_refl _⟩ (q)
    refine zr_aload_n (pc := 96) S dX12_explain_96 rfl ?_
    refine zr_invV (pc := 97) S [] (m_X12_slugs _) kX12_explain_332 dX12_explain_97 rfl (Nat.le_of_ble_eq_true rfl) rfl (Nat.le_of_ble_eq_true rfl) ⟨Nat.le_of_ble_eq_true rfl, Nat.le_of_ble_eq_true rfl⟩ (us_X12_slugs (n := n) (c := 2 * B + 160) (by rw [oy 181 (by decide), et, hn]) (aN.s hs) (aN.g hg) (by rw [oy 181 (by decide), et]; exact hk) (by rw [oy 180 (by decide)]; show zup M 180 3 0 180 16 = -1; rw [zup_j (by decide)]; exact hm) (by omega) (by omega) (by rw [eO]; exact hO2) ?_)
    dsimp only [zaft, Option.toList, List.cons_append, List.nil_append, Nat.add_zero]
    intro T hT
    rw [eO, sl]
    exact kk T hT
  have l := fun c1 u5 u6 u7 => xp1 (E := E) (X := X) (Qp := Qp) (M := tz M 0) (B := B) (w := w) (n := n) S (by rw [et, hn]) (by omega) (az.t ht) hB0 hB (az.e he) (key c1) n 0 (tz M 0 192) u5 u6 u7 (by omega) (fun j hj => absurd hj (by omega))
  rw [zrow_s] at l
  refine zr_aload_n (pc := 0) S dX12_explain_0 rfl ?_
  refine zr_iconst (pc := 1) S dX12_explain_1 (by unfold zrI; omega) ?_
  refine zr_putI (pc := 2) S pX12_explain_80 dX12_explain_2 rfl (Nat.le_of_ble_eq_true rfl) rfl ?_
  refine zr_iload_n (pc := 5) S dX12_explain_5 rfl ?_
  refine zr_i2l (pc := 6) S dX12_explain_6 ?_
  refine zr_lconst0 (pc := 7) S dX12_explain_7 ?_
  refine zr_ldc2 (pc := 8) S (2) dX12_explain_8 (List.mem_cons_of_mem _ (zWi_7 _ (List.mem_of_getElem? (i := 20) rfl))) (by unfold zrL; omega) ?_
  refine zr_invS (pc := 11) S [zL _, zL _, zL _] (m_X12_within _) kX12_explain_83 dX12_explain_11 (Nat.le_of_ble_eq_true rfl) ⟨Nat.le_of_ble_eq_true rfl, Nat.le_of_ble_eq_true rfl⟩ (us_X12_within ?_)
  dsimp only [zaft, Option.toList, List.cons_append, List.nil_append, Nat.add_zero]
  refine zr_if_ne (pc := 14) (tgt := 23) S dX12_explain_14 (by decide) (fun c14 => ?_) (fun c14 => ?_)
  · rw [b01_0, Classical.not_not] at c14
    refine zr_iconst (pc := 23) S dX12_explain_23 (by unfold zrI; omega) ?_
    refine zr_istore_n (pc := 24) S 2 dX12_explain_24 rfl (by decide) ?_
    dsimp only [zst1, zst2, zset, zget, zlong]
    refine zr_iconst (pc := 25) S dX12_explain_25 (by unfold zrI; omega) ?_
    refine zr_istore_n (pc := 26) S 3 dX12_explain_26 rfl (by decide) ?_
    dsimp only [zst1, zst2, zset, zget, zlong]
    refine zr_iconst (pc := 27) S dX12_explain_27 (by unfold zrI; omega) ?_
    refine zr_istore (pc := 28) S dX12_explain_28 (by decide) ?_
    dsimp only [zst1, zst2, zset, zget, zlong]
    exact l c14 _ _ _
  · rw [b01_0] at c14
    have f := hT c14
    refine zr_aload_n (pc := 17) S dX12_explain_17 rfl ?_
    refine zr_iconst (pc := 18) S dX12_explain_18 (by unfold zrI; omega) ?_
    refine zr_invV (pc := 19) S [zI _] (m_X12_fails _) kX12_explain_95 dX12_explain_19 rfl (Nat.le_of_ble_eq_true rfl) rfl (Nat.le_of_ble_eq_true rfl) ⟨Nat.le_of_ble_eq_true rfl, Nat.le_of_ble_eq_true rfl⟩ (us_X12_fails ?_)
    dsimp only [zaft, Option.toList, List.cons_append, List.nil_append, Nat.add_zero]
    exact zr_iret (pc := 22) S dX12_explain_22 rfl ⟨Nat.le_refl _, Nat.le_refl _⟩ (f)
end
