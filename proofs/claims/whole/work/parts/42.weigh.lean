section
def rmX3_weigh : Room := { frames := 5, cells := 0, slots := 0, locals := 120 }
abbrev wzX3_weigh : List Cond := .code yX3_weigh cX3_weigh 7 none :: zW
theorem fX3_weigh_18 : zfl wzX3_weigh RX3 vwCl 18 3 0 := ⟨_, _, _, rfl, (fun w h => List.mem_cons_of_mem _ (zWuX3 w h)), by decide, List.mem_cons_of_mem _ (zWi_9 _ (List.mem_of_getElem? (i := 47) rfl))⟩
theorem fX3_weigh_26 : zfl wzX3_weigh RX3 vwCl 26 8 0 := ⟨_, _, _, rfl, (fun w h => List.mem_cons_of_mem _ (zWuX8 w h)), by decide, List.mem_cons_of_mem _ (zWi_9 _ (List.mem_of_getElem? (i := 49) rfl))⟩
theorem fX3_weigh_32 : zfl wzX3_weigh RX3 vwCl 32 7 0 := ⟨_, _, _, rfl, (fun w h => List.mem_cons_of_mem _ (zWuX7 w h)), by decide, List.mem_cons_of_mem _ (zWi_10 _ (List.mem_of_getElem? (i := 0) rfl))⟩
theorem fX3_weigh_9 : zfl wzX3_weigh RX3 vwCl 9 3 2 := ⟨_, _, _, rfl, (fun w h => List.mem_cons_of_mem _ (zWuX3 w h)), by decide, List.mem_cons_of_mem _ (zWi_10 _ (List.mem_of_getElem? (i := 7) rfl))⟩
theorem fX3_weigh_38 : zfl wzX3_weigh RX3 vwCl 38 8 2 := ⟨_, _, _, rfl, (fun w h => List.mem_cons_of_mem _ (zWuX8 w h)), by decide, List.mem_cons_of_mem _ (zWi_10 _ (List.mem_of_getElem? (i := 1) rfl))⟩
theorem fX3_weigh_53 : zfl wzX3_weigh RX3 vwCl 53 9 5 := ⟨_, _, _, rfl, (fun w h => List.mem_cons_of_mem _ (zWuX9 w h)), by decide, List.mem_cons_of_mem _ (zWi_10 _ (List.mem_of_getElem? (i := 2) rfl))⟩
theorem pX3_weigh_63 : zfp wzX3_weigh RX3 vwCl 63 3 5 := ⟨_, _, _, _, rfl, (fun w h => List.mem_cons_of_mem _ (zWuX3 w h)), by decide, List.mem_cons_of_mem _ (zWi_10 _ (List.mem_of_getElem? (i := 3) rfl)), tyX3_ok, nmX3, rfl, by decide +kernel⟩
theorem pX3_weigh_66 : zfp wzX3_weigh RX3 vwCl 66 3 6 := ⟨_, _, _, _, rfl, (fun w h => List.mem_cons_of_mem _ (zWuX3 w h)), by decide, List.mem_cons_of_mem _ (zWi_10 _ (List.mem_of_getElem? (i := 4) rfl)), tyX3_ok, nmX3, rfl, by decide +kernel⟩
theorem fX3_weigh_63 : zfl wzX3_weigh RX3 vwCl 63 3 5 := ⟨_, _, _, rfl, (fun w h => List.mem_cons_of_mem _ (zWuX3 w h)), by decide, List.mem_cons_of_mem _ (zWi_10 _ (List.mem_of_getElem? (i := 3) rfl))⟩
theorem pX3_weigh_69 : zfp wzX3_weigh RX3 vwCl 69 3 4 := ⟨_, _, _, _, rfl, (fun w h => List.mem_cons_of_mem _ (zWuX3 w h)), by decide, List.mem_cons_of_mem _ (zWi_10 _ (List.mem_of_getElem? (i := 5) rfl)), tyX3_ok, nmX3, rfl, by decide +kernel⟩
theorem kX3_weigh_42 : ∀ (s9 : State) (a9 : Array Value), (∀ w ∈ wzX3_weigh, w.before a9 s9 = true) → CallW rmX3_weigh s9 a9 RX3 RX9 42 yX9_odd cX9_odd 2 (some .int) wzX9_odd rmX9_odd 0 0 1 := zcV (zWi_23 _ (List.mem_of_getElem? (i := 32) rfl)) (zWi_17 _ (List.mem_of_getElem? (i := 19) rfl)) (zWi_29 _ (List.mem_of_getElem? (i := 43) rfl)) (zWi_12 _ (List.mem_of_getElem? (i := 21) rfl)) (zWi_6 _ (List.mem_of_getElem? (i := 3) rfl)) (by decide +kernel) rfl rfl ⟨Nat.le_of_ble_eq_true rfl, Nat.le_of_ble_eq_true rfl⟩
theorem kX3_weigh_47 : zml_mmax wzX3_weigh RX3 47 := ⟨List.mem_cons_of_mem _ (zWi_23 _ (List.mem_of_getElem? (i := 33) rfl)), List.mem_cons_of_mem _ (zWi_30 _ (List.mem_of_getElem? (i := 2) rfl)), List.mem_cons_of_mem _ (zWi_12 _ (List.mem_of_getElem? (i := 0) rfl)), List.mem_cons_of_mem _ (zWi_0 _ (List.mem_of_getElem? (i := 27) rfl))⟩
theorem kX3_weigh_56 : zml_mmin wzX3_weigh RX3 56 := ⟨List.mem_cons_of_mem _ (zWi_23 _ (List.mem_of_getElem? (i := 34) rfl)), List.mem_cons_of_mem _ (zWi_30 _ (List.mem_of_getElem? (i := 3) rfl)), List.mem_cons_of_mem _ (zWi_12 _ (List.mem_of_getElem? (i := 0) rfl)), List.mem_cons_of_mem _ (zWi_0 _ (List.mem_of_getElem? (i := 28) rfl))⟩
theorem kX3_weigh_59 : ∀ (s9 : State) (a9 : Array Value), (∀ w ∈ wzX3_weigh, w.before a9 s9 = true) → CallW rmX3_weigh s9 a9 RX3 RX3 59 yX3_mostPairs cX3_mostPairs 3 (some .int) wzX3_mostPairs rmX3_mostPairs 0 0 0 := zcV (zWi_23 _ (List.mem_of_getElem? (i := 35) rfl)) (zWi_16 _ (List.mem_of_getElem? (i := 1) rfl)) (zWi_28 _ (List.mem_of_getElem? (i := 31) rfl)) (zWi_12 _ (List.mem_of_getElem? (i := 15) rfl)) (zWi_4 _ (List.mem_of_getElem? (i := 35) rfl)) (by decide +kernel) rfl rfl ⟨Nat.le_of_ble_eq_true rfl, Nat.le_of_ble_eq_true rfl⟩
def moreU (M : zM) : Nat → Int
  | 0 => 0
  | i + 1 => moreU M i + max 0 (odd M i)
def lessU (M : zM) : Nat → Int
  | 0 => 0
  | i + 1 => lessU M i + max 0 (-odd M i)
theorem moreU_r {B : Int} {M : zM} (h : ICt B M) (hB : 0 ≤ B) : ∀ n : Nat, n ≤ 8 → (0 ≤ moreU M n ∧ moreU M n ≤ (2 * B + 160) * n) ∧ (0 ≤ lessU M n ∧ lessU M n ≤ (2 * B + 160) * n)
  | 0, _ => by simp [moreU, lessU]
  | n + 1, hn => by
    have a := moreU_r h hB n (by omega)
    have b := odd_r h (s := n) (by omega) (by omega)
    have e : (2 * B + 160) * ((n + 1 : Nat) : Int) = (2 * B + 160) * n + (2 * B + 160) := by rw [Int.natCast_add, Int.mul_add]; simp
    simp only [moreU, lessU]
    omega
/-- the odd numbers are told -/
def oddR (M : zM) (n : Nat) : zM := fun k j => if k = 57 ∧ j < n then odd M j else M k j
theorem oddR_o {M : zM} {n : Nat} (k : Nat) (h : k ≠ 57) : oddR M n k = M k := by
  funext j
  simp [oddR, h]
theorem oddR_e {M : zM} {n j : Nat} (h : j < n) : oddR M n 57 j = odd M j := by simp [oddR, h]
theorem oddR_s (M : zM) (i : Nat) : zup (oddR M i) 57 i (odd M i) = oddR M (i + 1) := by
  funext k' j
  simp only [zup, oddR]
  by_cases h : k' = 57
  · subst h
    by_cases h2 : j = i
    · subst h2; simp
    · by_cases h3 : j < i
      · have : j < i + 1 := by omega
        simp [h2, h3, this]
      · have : ¬ j < i + 1 := by omega
        simp [h2, h3, this]
  · simp [h]
theorem oddR_ag {M : zM} {n : Nat} : AG M (oddR M n) := fun k hk => oddR_o k (by omega)
theorem ag_coinsIn {M N : zM} (h : AG M N) (t s : Int) : coinsIn N t s = coinsIn M t s := by
  unfold coinsIn
  rw [h 18 (by decide), h 19 (by decide)]
theorem ag_thereU {M N : zM} (h : AG M N) (s : Int) : ∀ n, thereU N s n = thereU M s n
  | 0 => by simp only [thereU]; rw [h 20 (by decide)]
  | n + 1 => by simp only [thereU]; rw [ag_thereU h s n, ag_coinsIn h]
theorem ag_odd {M N : zM} (h : AG M N) (s : Int) : odd N s = odd M s := by
  unfold odd there
  rw [ag_thereU h, h 21 (by decide), h 22 (by decide)]
theorem AG.t {B : Int} {M N : zM} (h : AG M N) (ht : ICt B M) : ICt B N := by
  unfold ICt at *
  rw [h 17 (by decide), h 19 (by decide), h 20 (by decide), h 21 (by decide), h 22 (by decide), h 18 (by decide), h 24 (by decide), h 25 (by decide), h 26 (by decide), h 27 (by decide)]
  exact ht
def mostW (M : zM) : Int := if moreU M (M 2 0).toNat = 0 ∨ lessU M (M 2 0).toNat = 0 then 0 else mostP (oddR M (M 2 0).toNat)
def missW (M : zM) : Int := min (M 23 1) (M 23 2)
def dearW (M : zM) : Int := M 23 3 - M 23 0 - missW M
def fewW (M : zM) : Int := if dearW M < 0 then mostW M else 0
def manyW (M : zM) : Int := if dearW M ≤ 0 then mostW M else 0
def costW (M : zM) : Int := moreU M (M 2 0).toNat * M 23 0 + lessU M (M 2 0).toNat * missW M + fewW M * dearW M
def offW (M N : zM) : Prop := ∀ k, k ≠ 49 → k ≠ 48 → k ≠ 50 → k ≠ 51 → k ≠ 52 → k ≠ 58 → k ≠ 57 → k ≠ 56 → N k = M k
theorem lp_X3_weigh {E : zE} {X : zX} {Qp : Option zV → zM → Prop} {M : zM} {B : Int} (S : zS (zg E) X cX3_weigh 7 wzX3_weigh RX3 none) (hs : ICs M) (ht : ICt B M) (hB0 : 0 ≤ B) (hB : B ≤ 13000) (hk : ∀ u4 u5 u6, zK (zg E) rmX3_weigh 7 (Qp, 0, 0) X (0, 0) 70 [some (zR 56), some (zI (moreU M (M 2 0).toNat)), some (zI (lessU M (M 2 0).toNat)), some (zI (M 2 0)), u4, u5, u6] [] (oddR M (M 2 0).toNat)) : ∀ (n i : Nat) (u4 u5 u6 : Option zV), (n : Int) + i = M 2 0 → zK (zg E) rmX3_weigh 7 (Qp, 0, 0) X (0, 0) 6 [some (zR 56), some (zI (moreU M i)), some (zI (lessU M i)), some (zI i), u4, u5, u6] [] (oddR M i) := by
  have h8 := hs.1
  intro n
  induction n with
  | zero =>
    intro i u4 u5 u6 hi
    have e : i = (M 2 0).toNat := by omega
    have e2 : oddR M i 2 = M 2 := oddR_o _ (by decide)
    have q := hk u4 u5 u6
    rw [← e, show M 2 0 = (i : Int) by omega] at q
    refine zr_iload_n (pc := 6) S dX3_weigh_6 rfl ?_
    refine zr_aload_n (pc := 7) S dX3_weigh_7 rfl ?_
    refine zr_getR (pc := 8) S fX3_weigh_18 dX3_weigh_8 rfl (Nat.le_of_ble_eq_true rfl) rfl ?_
    refine zr_getR (pc := 11) S fX3_weigh_26 dX3_weigh_11 rfl (Nat.le_of_ble_eq_true rfl) rfl ?_
    refine zr_getI (pc := 14) S fX3_weigh_32 dX3_weigh_14 rfl (Nat.le_of_ble_eq_true rfl) rfl ?_
    rw [e2]
    refine zr_icmp_ge (pc := 17) (tgt := 70) S dX3_weigh_17 (by decide) (fun c17 => ?_) (fun c17 => absurd c17 (by omega))
    exact q
  | succ n ih =>
    intro i u4 u5 u6 hi
    have e : (i : Int).toNat = i := Int.toNat_natCast i
    have e2 : oddR M i 2 = M 2 := oddR_o _ (by decide)
    have ag : AG M (oddR M i) := oddR_ag
    have a := moreU_r ht hB0 i (by omega)
    have hm : (2 * B + 160) * (i : Int) ≤ (2 * B + 160) * 8 := Int.mul_le_mul_of_nonneg_left (by omega) (by omega)
    have b := odd_r ht (s := i) (by omega) (by omega)
    have eo := ag_odd ag i
    have q := fun u4 u5 u6 => ih (i + 1) u4 u5 u6 (by omega)
    simp only [moreU, lessU] at q
    rw [← oddR_s] at q
    refine zr_iload_n (pc := 6) S dX3_weigh_6 rfl ?_
    refine zr_aload_n (pc := 7) S dX3_weigh_7 rfl ?_
    refine zr_getR (pc := 8) S fX3_weigh_18 dX3_weigh_8 rfl (Nat.le_of_ble_eq_true rfl) rfl ?_
    refine zr_getR (pc := 11) S fX3_weigh_26 dX3_weigh_11 rfl (Nat.le_of_ble_eq_true rfl) rfl ?_
    refine zr_getI (pc := 14) S fX3_weigh_32 dX3_weigh_14 rfl (Nat.le_of_ble_eq_true rfl) rfl ?_
    rw [e2]
    refine zr_icmp_ge (pc := 17) (tgt := 70) S dX3_weigh_17 (by decide) (fun c17 => absurd c17 (by omega)) (fun c17 => ?_)
    refine zr_aload_n (pc := 20) S dX3_weigh_20 rfl ?_
    refine zr_getR (pc := 21) S fX3_weigh_9 dX3_weigh_21 rfl (Nat.le_of_ble_eq_true rfl) rfl ?_
    refine zr_iload_n (pc := 24) S dX3_weigh_24 rfl ?_
    refine zr_aload_n (pc := 25) S dX3_weigh_25 rfl ?_
    refine zr_getR (pc := 26) S fX3_weigh_18 dX3_weigh_26 rfl (Nat.le_of_ble_eq_true rfl) rfl ?_
    refine zr_getR (pc := 29) S fX3_weigh_38 dX3_weigh_29 rfl (Nat.le_of_ble_eq_true rfl) rfl ?_
    refine zr_iload_n (pc := 32) S dX3_weigh_32 rfl ?_
    refine zr_invV (pc := 33) S [zI _] (m_X9_odd _) kX3_weigh_42 dX3_weigh_33 rfl (Nat.le_of_ble_eq_true rfl) rfl (Nat.le_of_ble_eq_true rfl) ⟨Nat.le_of_ble_eq_true rfl, Nat.le_of_ble_eq_true rfl⟩ (us_X9_odd (ag.t ht) (by omega) (by omega) (by omega) ?_)
    dsimp only [zaft, Option.toList, List.cons_append, List.nil_append, Nat.add_zero]
    rw [eo]
    refine zr_iastore (pc := 36) S dX3_weigh_36 rfl (Nat.le_of_ble_eq_true rfl) (by omega) (by omega) ?_
    rw [e]
    refine zr_iload_n (pc := 37) S dX3_weigh_37 rfl ?_
    refine zr_iconst (pc := 38) S dX3_weigh_38 (by unfold zrI; omega) ?_
    refine zr_aload_n (pc := 39) S dX3_weigh_39 rfl ?_
    refine zr_getR (pc := 40) S fX3_weigh_9 dX3_weigh_40 rfl (Nat.le_of_ble_eq_true rfl) rfl ?_
    try simp only [zup_k, zup_e, ne_eq, Nat.reduceEqDiff, not_false_eq_true, zup_j]
    refine zr_iload_n (pc := 43) S dX3_weigh_43 rfl ?_
    refine zr_iaload (pc := 44) S dX3_weigh_44 rfl (Nat.le_of_ble_eq_true rfl) (by omega) (by omega) ?_
    try simp only [zup_k, zup_e, ne_eq, Nat.reduceEqDiff, not_false_eq_true]
    rw [e, zup_e]
    refine zr_mmax (pc := 45) S kX3_weigh_47 dX3_weigh_45 (Nat.le_of_ble_eq_true rfl) (Nat.le_of_ble_eq_true rfl) ⟨Nat.le_of_ble_eq_true rfl, Nat.le_of_ble_eq_true rfl⟩ ?_
    refine zr_iadd (pc := 48) S dX3_weigh_48 (by unfold zrI; omega) ?_
    refine zr_istore_n (pc := 49) S 1 dX3_weigh_49 rfl (by decide) ?_
    dsimp only [zst1, zst2, zset, zget, zlong]
    refine zr_iload_n (pc := 50) S dX3_weigh_50 rfl ?_
    refine zr_iconst (pc := 51) S dX3_weigh_51 (by unfold zrI; omega) ?_
    refine zr_aload_n (pc := 52) S dX3_weigh_52 rfl ?_
    refine zr_getR (pc := 53) S fX3_weigh_9 dX3_weigh_53 rfl (Nat.le_of_ble_eq_true rfl) rfl ?_
    try simp only [zup_k, zup_e, ne_eq, Nat.reduceEqDiff, not_false_eq_true, zup_j]
    refine zr_iload_n (pc := 56) S dX3_weigh_56 rfl ?_
    refine zr_iaload (pc := 57) S dX3_weigh_57 rfl (Nat.le_of_ble_eq_true rfl) (by omega) (by omega) ?_
    try simp only [zup_k, zup_e, ne_eq, Nat.reduceEqDiff, not_false_eq_true]
    rw [e, zup_e]
    refine zr_ineg (pc := 58) S dX3_weigh_58 (by unfold zrI; omega) ?_
    refine zr_mmax (pc := 59) S kX3_weigh_47 dX3_weigh_59 (Nat.le_of_ble_eq_true rfl) (Nat.le_of_ble_eq_true rfl) ⟨Nat.le_of_ble_eq_true rfl, Nat.le_of_ble_eq_true rfl⟩ ?_
    refine zr_iadd (pc := 62) S dX3_weigh_62 (by unfold zrI; omega) ?_
    refine zr_istore_n (pc := 63) S 2 dX3_weigh_63 rfl (by decide) ?_
    dsimp only [zst1, zst2, zset, zget, zlong]
    refine zr_iinc (pc := 64) S dX3_weigh_64 rfl (by unfold zrI; omega) (by decide) ?_
    dsimp only [zst1, zst2, zset, zget, zlong]
    refine zr_goto (pc := 67) (tgt := 6) S dX3_weigh_67 (by decide) ?_
    exact q _ _ _
def sp_X3_weigh (as : List zV) (M : zM) (Q : Option zV → zM → Prop) : Prop := ∃ (B : Int), as = [zR 56] ∧ (ICg M) ∧ (ICs M) ∧ (ICt B M) ∧ (0 ≤ B) ∧ (B ≤ 13000) ∧ (∀ i : Nat, i < 4 → 0 ≤ M 23 i ∧ M 23 i ≤ 999) ∧ (∀ (r : Option zV) (M' : zM), (r = none ∧ offW M M' ∧ M' 56 4 = costW M ∧ M' 56 5 = fewW M ∧ M' 56 6 = manyW M) → Q r M')
theorem us_X3_weigh {B : Int} {M : zM} {Q : Option zV → zM → Prop} (hg : ICg M) (hs : ICs M) (ht : ICt B M) (hB0 : 0 ≤ B) (hB : B ≤ 13000) (hc : ∀ i : Nat, i < 4 → 0 ≤ M 23 i ∧ M 23 i ≤ 999) (h99 : (∀ (r : Option zV) (M' : zM), (r = none ∧ offW M M' ∧ M' 56 4 = costW M ∧ M' 56 5 = fewW M ∧ M' 56 6 = manyW M) → Q r M')) : sp_X3_weigh [zR 56] M Q := ⟨B, rfl, hg, hs, ht, hB0, hB, hc, h99⟩
set_option maxRecDepth 20000 in
set_option maxHeartbeats 4000000 in
theorem m_X3_weigh (l : Launch) : zC l yX3_weigh wzX3_weigh rmX3_weigh sp_X3_weigh := by
  refine zMet.of RX3 (by decide +kernel) rfl rfl ?_
  intro E X as M Qp hX S hsp
  obtain ⟨B, rfl, hg, hs, ht, hB0, hB, hc, hQ⟩ := hsp
  refine ⟨Nat.le_of_ble_eq_true rfl, ?_⟩
  dsimp only [zpad, zargs]
  have h8 := hs.1
  have a := moreU_r ht hB0 (M 2 0).toNat (by omega)
  have hm : (2 * B + 160) * ((M 2 0).toNat : Int) ≤ (2 * B + 160) * 8 := Int.mul_le_mul_of_nonneg_left (by omega) (by omega)
  have c0 := hc 0 (by omega)
  have c1 := hc 1 (by omega)
  have c2 := hc 2 (by omega)
  have c3 := hc 3 (by omega)
  have ag0 : AG M (oddR M (M 2 0).toNat) := oddR_ag
  have ecst : oddR M (M 2 0).toNat 23 = M 23 := oddR_o _ (by decide)
  have hod : ∀ i, i < (oddR M (M 2 0).toNat 2 0).toNat → -(2 * B + 160) ≤ oddR M (M 2 0).toNat 57 i ∧ oddR M (M 2 0).toNat 57 i ≤ 2 * B + 160 := fun i hi => by
    rw [ag0 2 (by decide)] at hi
    rw [oddR_e hi]
    have := odd_r ht (s := i) (by omega) (by omega)
    omega
  have mr : 0 ≤ mostP (oddR M (M 2 0).toNat) ∧ mostP (oddR M (M 2 0).toNat) ≤ 16 * (2 * B + 160) := by
    unfold mostP
    exact minU_r (fun t => cutF_r (by omega) (by rw [ag0 2 (by decide)]; omega) hod) _
  have mw : 0 ≤ mostW M ∧ mostW M ≤ 16 * (2 * B + 160) := by
    unfold mostW
    split
    · omega
    · exact mr
  have ms : missW M = min (M 23 1) (M 23 2) := rfl
  have dw : dearW M = M 23 3 - M 23 0 - missW M := rfl
  have fr : 0 ≤ fewW M ∧ fewW M ≤ 16 * (2 * B + 160) := by
    unfold fewW
    split <;> omega
  have p1 := zmulr a.1.1 (Int.le_trans a.1.2 hm) c0.1 c0.2
  have p2 := zmulr (b := missW M) (B := 999) a.2.1 (Int.le_trans a.2.2 hm) (by omega) (by omega)
  have p3 : -(16 * (2 * B + 160) * 1998) ≤ fewW M * dearW M ∧ fewW M * dearW M ≤ 16 * (2 * B + 160) * 1998 := by
    have u1 := Int.mul_le_mul fr.2 (show (dearW M).natAbs ≤ (1998 : Int) by omega) (by omega) (by omega)
    have u2 : fewW M * dearW M ≤ fewW M * ((dearW M).natAbs : Int) := Int.mul_le_mul_of_nonneg_left (by omega) fr.1
    have u3 : fewW M * (-((dearW M).natAbs : Int)) ≤ fewW M * dearW M := Int.mul_le_mul_of_nonneg_left (by omega) fr.1
    rw [Int.mul_neg] at u3
    omega
  have tail : ∀ (T : zM), offM (oddR M (M 2 0).toNat) T → ∀ u6, zK (zg E) rmX3_weigh 7 (Qp, 0, 0) X (0, 0) 120 [some (zR 56), some (zI (moreU M (M 2 0).toNat)), some (zI (lessU M (M 2 0).toNat)), some (zR 23), some (zI (missW M)), some (zI (dearW M)), u6] [zI (mostW M)] T := fun T hT u6 => by
    have et : T 23 = M 23 := by rw [hT.ag 23 (by decide), ecst]
    have fin : ∀ f m : Int, f = fewW M → m = manyW M → Qp none (zup (zup (zup T 56 5 f) 56 6 m) 56 4 (moreU M (M 2 0).toNat * M 23 0 + lessU M (M 2 0).toNat * missW M + f * dearW M)) := fun f m hf hm => by
      refine hQ _ _ ⟨rfl, fun k k1 k2 k3 k4 k5 k6 k7 k8 => by rw [zup_o k k8, zup_o k k8, zup_o k k8, hT k k1 k2 k3 k4 k5 k6]; exact oddR_o k k7, ?_, ?_, ?_⟩
      · rw [zup_e, hf]; rfl
      · rw [zup_j (by decide), zup_j (by decide), zup_e, hf]
      · rw [zup_j (by decide), zup_e, hm]
    have q0 : fewW M = mostW M ∨ fewW M = 0 := by unfold fewW; split <;> omega
    have f1 : dearW M < 0 → fewW M = mostW M := fun h => by unfold fewW; rw [if_pos h]
    have f2 : 0 ≤ dearW M → fewW M = 0 := fun h => by unfold fewW; rw [if_neg (by omega)]
    have g1 : dearW M ≤ 0 → manyW M = mostW M := fun h => by unfold manyW; rw [if_pos h]
    have g2 : 0 < dearW M → manyW M = 0 := fun h => by unfold manyW; rw [if_neg (by omega)]
    generalize hf : fewW M = ff at *
    refine zr_istore (pc := 120) S dX3_weigh_120 (by decide) ?_
    dsimp only [zst1, zst2, zset, zget, zlong]
    refine zr_aload_n (pc := 122) S dX3_weigh_122 rfl ?_
    refine zr_iload (pc := 123) S dX3_weigh_123 rfl ?_
    refine zr_if_ge (pc := 125) (tgt := 133) S dX3_weigh_125 (by decide) (fun c125 => ?_) (fun c125 => ?_)
    · have ff0 := f2 c125
      refine zr_iconst (pc := 133) S dX3_weigh_133 (by unfold zrI; omega) ?_
      refine zr_putI (pc := 134) S pX3_weigh_63 dX3_weigh_134 rfl (Nat.le_of_ble_eq_true rfl) rfl ?_
      refine zr_aload_n (pc := 137) S dX3_weigh_137 rfl ?_
      refine zr_iload (pc := 138) S dX3_weigh_138 rfl ?_
      refine zr_if_gt (pc := 140) (tgt := 148) S dX3_weigh_140 (by decide) (fun c140 => ?_) (fun c140 => ?_)
      · have mm0 := g2 c140
        refine zr_iconst (pc := 148) S dX3_weigh_148 (by unfold zrI; omega) ?_
        refine zr_putI (pc := 149) S pX3_weigh_66 dX3_weigh_149 rfl (Nat.le_of_ble_eq_true rfl) rfl ?_
        refine zr_aload_n (pc := 152) S dX3_weigh_152 rfl ?_
        refine zr_iload_n (pc := 153) S dX3_weigh_153 rfl ?_
        refine zr_aload_n (pc := 154) S dX3_weigh_154 rfl ?_
        refine zr_iconst (pc := 155) S dX3_weigh_155 (by unfold zrI; omega) ?_
        refine zr_iaload (pc := 156) S dX3_weigh_156 rfl (Nat.le_of_ble_eq_true rfl) (by omega) (by omega) ?_
        dsimp only [Int.reduceToNat]
        try simp only [zup_k, zup_e, ne_eq, Nat.reduceEqDiff, not_false_eq_true]
        rw [et]
        refine zr_imul (pc := 157) S dX3_weigh_157 (by unfold zrI; omega) ?_
        refine zr_iload_n (pc := 158) S dX3_weigh_158 rfl ?_
        refine zr_iload (pc := 159) S dX3_weigh_159 rfl ?_
        refine zr_imul (pc := 161) S dX3_weigh_161 (by unfold zrI; omega) ?_
        refine zr_iadd (pc := 162) S dX3_weigh_162 (by unfold zrI; omega) ?_
        refine zr_aload_n (pc := 163) S dX3_weigh_163 rfl ?_
        refine zr_getI (pc := 164) S fX3_weigh_63 dX3_weigh_164 rfl (Nat.le_of_ble_eq_true rfl) rfl ?_
        try simp only [zup_k, zup_e, ne_eq, Nat.reduceEqDiff, not_false_eq_true, zup_j]
        refine zr_iload (pc := 167) S dX3_weigh_167 rfl ?_
        refine zr_imul (pc := 169) S dX3_weigh_169 (by unfold zrI; omega) ?_
        refine zr_iadd (pc := 170) S dX3_weigh_170 (by unfold zrI; omega) ?_
        refine zr_putI (pc := 171) S pX3_weigh_69 dX3_weigh_171 rfl (Nat.le_of_ble_eq_true rfl) rfl ?_
        exact zr_vret (pc := 174) S dX3_weigh_174 rfl ⟨Nat.le_refl _, Nat.le_refl _⟩ (fin _ _ ff0.symm mm0.symm)
      · have mm0 := g1 c140
        refine zr_iload (pc := 143) S dX3_weigh_143 rfl ?_
        refine zr_goto (pc := 145) (tgt := 149) S dX3_weigh_145 (by decide) ?_
        refine zr_putI (pc := 149) S pX3_weigh_66 dX3_weigh_149 rfl (Nat.le_of_ble_eq_true rfl) rfl ?_
        refine zr_aload_n (pc := 152) S dX3_weigh_152 rfl ?_
        refine zr_iload_n (pc := 153) S dX3_weigh_153 rfl ?_
        refine zr_aload_n (pc := 154) S dX3_weigh_154 rfl ?_
        refine zr_iconst (pc := 155) S dX3_weigh_155 (by unfold zrI; omega) ?_
        refine zr_iaload (pc := 156) S dX3_weigh_156 rfl (Nat.le_of_ble_eq_true rfl) (by omega) (by omega) ?_
        dsimp only [Int.reduceToNat]
        try simp only [zup_k, zup_e, ne_eq, Nat.reduceEqDiff, not_false_eq_true]
        rw [et]
        refine zr_imul (pc := 157) S dX3_weigh_157 (by unfold zrI; omega) ?_
        refine zr_iload_n (pc := 158) S dX3_weigh_158 rfl ?_
        refine zr_iload (pc := 159) S dX3_weigh_159 rfl ?_
        refine zr_imul (pc := 161) S dX3_weigh_161 (by unfold zrI; omega) ?_
        refine zr_iadd (pc := 162) S dX3_weigh_162 (by unfold zrI; omega) ?_
        refine zr_aload_n (pc := 163) S dX3_weigh_163 rfl ?_
        refine zr_getI (pc := 164) S fX3_weigh_63 dX3_weigh_164 rfl (Nat.le_of_ble_eq_true rfl) rfl ?_
        try simp only [zup_k, zup_e, ne_eq, Nat.reduceEqDiff, not_false_eq_true, zup_j]
        refine zr_iload (pc := 167) S dX3_weigh_167 rfl ?_
        refine zr_imul (pc := 169) S dX3_weigh_169 (by unfold zrI; omega) ?_
        refine zr_iadd (pc := 170) S dX3_weigh_170 (by unfold zrI; omega) ?_
        refine zr_putI (pc := 171) S pX3_weigh_69 dX3_weigh_171 rfl (Nat.le_of_ble_eq_true rfl) rfl ?_
        exact zr_vret (pc := 174) S dX3_weigh_174 rfl ⟨Nat.le_refl _, Nat.le_refl _⟩ (fin _ _ ff0.symm mm0.symm)
    · have ff0 := f1 c125
      have p4 := p3
      rw [ff0] at p4
      refine zr_iload (pc := 128) S dX3_weigh_128 rfl ?_
      refine zr_goto (pc := 130) (tgt := 134) S dX3_weigh_130 (by decide) ?_
      refine zr_putI (pc := 134) S pX3_weigh_63 dX3_weigh_134 rfl (Nat.le_of_ble_eq_true rfl) rfl ?_
      refine zr_aload_n (pc := 137) S dX3_weigh_137 rfl ?_
      refine zr_iload (pc := 138) S dX3_weigh_138 rfl ?_
      refine zr_if_gt (pc := 140) (tgt := 148) S dX3_weigh_140 (by decide) (fun c140 => ?_) (fun c140 => ?_)
      · have mm0 := g2 c140
        refine zr_iconst (pc := 148) S dX3_weigh_148 (by unfold zrI; omega) ?_
        refine zr_putI (pc := 149) S pX3_weigh_66 dX3_weigh_149 rfl (Nat.le_of_ble_eq_true rfl) rfl ?_
        refine zr_aload_n (pc := 152) S dX3_weigh_152 rfl ?_
        refine zr_iload_n (pc := 153) S dX3_weigh_153 rfl ?_
        refine zr_aload_n (pc := 154) S dX3_weigh_154 rfl ?_
        refine zr_iconst (pc := 155) S dX3_weigh_155 (by unfold zrI; omega) ?_
        refine zr_iaload (pc := 156) S dX3_weigh_156 rfl (Nat.le_of_ble_eq_true rfl) (by omega) (by omega) ?_
        dsimp only [Int.reduceToNat]
        try simp only [zup_k, zup_e, ne_eq, Nat.reduceEqDiff, not_false_eq_true]
        rw [et]
        refine zr_imul (pc := 157) S dX3_weigh_157 (by unfold zrI; omega) ?_
        refine zr_iload_n (pc := 158) S dX3_weigh_158 rfl ?_
        refine zr_iload (pc := 159) S dX3_weigh_159 rfl ?_
        refine zr_imul (pc := 161) S dX3_weigh_161 (by unfold zrI; omega) ?_
        refine zr_iadd (pc := 162) S dX3_weigh_162 (by unfold zrI; omega) ?_
        refine zr_aload_n (pc := 163) S dX3_weigh_163 rfl ?_
        refine zr_getI (pc := 164) S fX3_weigh_63 dX3_weigh_164 rfl (Nat.le_of_ble_eq_true rfl) rfl ?_
        try simp only [zup_k, zup_e, ne_eq, Nat.reduceEqDiff, not_false_eq_true, zup_j]
        refine zr_iload (pc := 167) S dX3_weigh_167 rfl ?_
        refine zr_imul (pc := 169) S dX3_weigh_169 (by unfold zrI; omega) ?_
        refine zr_iadd (pc := 170) S dX3_weigh_170 (by unfold zrI; omega) ?_
        refine zr_putI (pc := 171) S pX3_weigh_69 dX3_weigh_171 rfl (Nat.le_of_ble_eq_true rfl) rfl ?_
        exact zr_vret (pc := 174) S dX3_weigh_174 rfl ⟨Nat.le_refl _, Nat.le_refl _⟩ (fin _ _ ff0.symm mm0.symm)
      · have mm0 := g1 c140
        refine zr_iload (pc := 143) S dX3_weigh_143 rfl ?_
        refine zr_goto (pc := 145) (tgt := 149) S dX3_weigh_145 (by decide) ?_
        refine zr_putI (pc := 149) S pX3_weigh_66 dX3_weigh_149 rfl (Nat.le_of_ble_eq_true rfl) rfl ?_
        refine zr_aload_n (pc := 152) S dX3_weigh_152 rfl ?_
        refine zr_iload_n (pc := 153) S dX3_weigh_153 rfl ?_
        refine zr_aload_n (pc := 154) S dX3_weigh_154 rfl ?_
        refine zr_iconst (pc := 155) S dX3_weigh_155 (by unfold zrI; omega) ?_
        refine zr_iaload (pc := 156) S dX3_weigh_156 rfl (Nat.le_of_ble_eq_true rfl) (by omega) (by omega) ?_
        dsimp only [Int.reduceToNat]
        try simp only [zup_k, zup_e, ne_eq, Nat.reduceEqDiff, not_false_eq_true]
        rw [et]
        refine zr_imul (pc := 157) S dX3_weigh_157 (by unfold zrI; omega) ?_
        refine zr_iload_n (pc := 158) S dX3_weigh_158 rfl ?_
        refine zr_iload (pc := 159) S dX3_weigh_159 rfl ?_
        refine zr_imul (pc := 161) S dX3_weigh_161 (by unfold zrI; omega) ?_
        refine zr_iadd (pc := 162) S dX3_weigh_162 (by unfold zrI; omega) ?_
        refine zr_aload_n (pc := 163) S dX3_weigh_163 rfl ?_
        refine zr_getI (pc := 164) S fX3_weigh_63 dX3_weigh_164 rfl (Nat.le_of_ble_eq_true rfl) rfl ?_
        try simp only [zup_k, zup_e, ne_eq, Nat.reduceEqDiff, not_false_eq_true, zup_j]
        refine zr_iload (pc := 167) S dX3_weigh_167 rfl ?_
        refine zr_imul (pc := 169) S dX3_weigh_169 (by unfold zrI; omega) ?_
        refine zr_iadd (pc := 170) S dX3_weigh_170 (by unfold zrI; omega) ?_
        refine zr_putI (pc := 171) S pX3_weigh_69 dX3_weigh_171 rfl (Nat.le_of_ble_eq_true rfl) rfl ?_
        exact zr_vret (pc := 174) S dX3_weigh_174 rfl ⟨Nat.le_refl _, Nat.le_refl _⟩ (fin _ _ ff0.symm mm0.symm)
  have cr : missW M ≤ 999 ∧ 0 ≤ missW M := by omega
  have m0 : moreU M (M 2 0).toNat = 0 ∨ lessU M (M 2 0).toNat = 0 → mostW M = 0 := fun h => by unfold mostW; rw [if_pos h]
  have m1 : ¬ moreU M (M 2 0).toNat = 0 → ¬ lessU M (M 2 0).toNat = 0 → mostW M = mostP (oddR M (M 2 0).toNat) := fun h1 h2 => by unfold mostW; rw [if_neg (by omega)]
  have mid : ∀ u4 u5 u6, zK (zg E) rmX3_weigh 7 (Qp, 0, 0) X (0, 0) 70 [some (zR 56), some (zI (moreU M (M 2 0).toNat)), some (zI (lessU M (M 2 0).toNat)), some (zI (M 2 0)), u4, u5, u6] [] (oddR M (M 2 0).toNat) := fun u4 u5 u6 => by
    have r0 := fun u6 => tail _ (fun _ _ _ _ _ _ _ => rfl) u6
    refine zr_aload_n (pc := 70) S dX3_weigh_70 rfl ?_
    refine zr_getR (pc := 71) S fX3_weigh_18 dX3_weigh_71 rfl (Nat.le_of_ble_eq_true rfl) rfl ?_
    refine zr_getR (pc := 74) S fX3_weigh_38 dX3_weigh_74 rfl (Nat.le_of_ble_eq_true rfl) rfl ?_
    refine zr_getR (pc := 77) S fX3_weigh_53 dX3_weigh_77 rfl (Nat.le_of_ble_eq_true rfl) rfl ?_
    refine zr_astore_n (pc := 80) S 3 dX3_weigh_80 rfl (by decide) ?_
    dsimp only [zst1, zst2, zset, zget, zlong]
    refine zr_aload_n (pc := 81) S dX3_weigh_81 rfl ?_
    refine zr_iconst (pc := 82) S dX3_weigh_82 (by unfold zrI; omega) ?_
    refine zr_iaload (pc := 83) S dX3_weigh_83 rfl (Nat.le_of_ble_eq_true rfl) (by omega) (by omega) ?_
    dsimp only [Int.reduceToNat]
    rw [ecst]
    refine zr_aload_n (pc := 84) S dX3_weigh_84 rfl ?_
    refine zr_iconst (pc := 85) S dX3_weigh_85 (by unfold zrI; omega) ?_
    refine zr_iaload (pc := 86) S dX3_weigh_86 rfl (Nat.le_of_ble_eq_true rfl) (by omega) (by omega) ?_
    dsimp only [Int.reduceToNat]
    rw [ecst]
    refine zr_mmin (pc := 87) S kX3_weigh_56 dX3_weigh_87 (Nat.le_of_ble_eq_true rfl) (Nat.le_of_ble_eq_true rfl) ⟨Nat.le_of_ble_eq_true rfl, Nat.le_of_ble_eq_true rfl⟩ ?_
    refine zr_istore (pc := 90) S dX3_weigh_90 (by decide) ?_
    dsimp only [zst1, zst2, zset, zget, zlong]
    refine zr_aload_n (pc := 92) S dX3_weigh_92 rfl ?_
    refine zr_iconst (pc := 93) S dX3_weigh_93 (by unfold zrI; omega) ?_
    refine zr_iaload (pc := 94) S dX3_weigh_94 rfl (Nat.le_of_ble_eq_true rfl) (by omega) (by omega) ?_
    dsimp only [Int.reduceToNat]
    rw [ecst]
    refine zr_aload_n (pc := 95) S dX3_weigh_95 rfl ?_
    refine zr_iconst (pc := 96) S dX3_weigh_96 (by unfold zrI; omega) ?_
    refine zr_iaload (pc := 97) S dX3_weigh_97 rfl (Nat.le_of_ble_eq_true rfl) (by omega) (by omega) ?_
    dsimp only [Int.reduceToNat]
    rw [ecst]
    refine zr_isub (pc := 98) S dX3_weigh_98 (by unfold zrI; omega) ?_
    refine zr_iload (pc := 99) S dX3_weigh_99 rfl ?_
    refine zr_isub (pc := 101) S dX3_weigh_101 (by unfold zrI; omega) ?_
    refine zr_istore (pc := 102) S dX3_weigh_102 (by decide) ?_
    dsimp only [zst1, zst2, zset, zget, zlong]
    refine zr_iload_n (pc := 104) S dX3_weigh_104 rfl ?_
    refine zr_if_eq (pc := 105) (tgt := 112) S dX3_weigh_105 (by decide) (fun c105 => ?_) (fun c105 => ?_)
    · rw [m0 (Or.inl c105)] at r0
      refine zr_iconst (pc := 112) S dX3_weigh_112 (by unfold zrI; omega) ?_
      refine zr_goto (pc := 113) (tgt := 120) S dX3_weigh_113 (by decide) ?_
      exact r0 _
    · skip
      refine zr_iload_n (pc := 108) S dX3_weigh_108 rfl ?_
      refine zr_if_ne (pc := 109) (tgt := 116) S dX3_weigh_109 (by decide) (fun c109 => ?_) (fun c109 => ?_)
      · skip
        refine zr_aload_n (pc := 116) S dX3_weigh_116 rfl ?_
        refine zr_invV (pc := 117) S [] (m_X3_mostPairs _) kX3_weigh_59 dX3_weigh_117 rfl (Nat.le_of_ble_eq_true rfl) rfl (Nat.le_of_ble_eq_true rfl) ⟨Nat.le_of_ble_eq_true rfl, Nat.le_of_ble_eq_true rfl⟩ (us_X3_mostPairs (c := 2 * B + 160) (ag0.g hg) (ag0.s hs) (by omega) (by omega) hod ?_)
        dsimp only [zaft, Option.toList, List.cons_append, List.nil_append, Nat.add_zero]
        rintro r T ⟨rfl, hT⟩
        dsimp only [zaft, Option.toList, List.cons_append, List.nil_append]
        rw [← m1 c105 c109]
        have r0 := fun u6 => tail T hT u6
        exact r0 _
      · rw [m0 (Or.inr c109)] at r0
        refine zr_iconst (pc := 112) S dX3_weigh_112 (by unfold zrI; omega) ?_
        refine zr_goto (pc := 113) (tgt := 120) S dX3_weigh_113 (by decide) ?_
        exact r0 _
  have q := lp_X3_weigh S hs ht hB0 hB mid (M 2 0).toNat 0
  have q0 : oddR M 0 = M := by funext k j; simp [oddR]
  rw [q0] at q
  refine zr_iconst (pc := 0) S dX3_weigh_0 (by unfold zrI; omega) ?_
  refine zr_istore_n (pc := 1) S 1 dX3_weigh_1 rfl (by decide) ?_
  dsimp only [zst1, zst2, zset, zget, zlong]
  refine zr_iconst (pc := 2) S dX3_weigh_2 (by unfold zrI; omega) ?_
  refine zr_istore_n (pc := 3) S 2 dX3_weigh_3 rfl (by decide) ?_
  dsimp only [zst1, zst2, zset, zget, zlong]
  refine zr_iconst (pc := 4) S dX3_weigh_4 (by unfold zrI; omega) ?_
  refine zr_istore_n (pc := 5) S 3 dX3_weigh_5 rfl (by decide) ?_
  dsimp only [zst1, zst2, zset, zget, zlong]
  exact q _ _ _ (by omega)
end
