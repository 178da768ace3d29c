section
def rmX5_look (d : Nat) : Room := { frames := d + 4, cells := 0, slots := 0, locals := 24 * d + 102 }
abbrev wzX5_look : List Cond := .code yX5_look cX5_look 5 none :: zW
def rmX5_mostOf : Room := { frames := 8, cells := 0, slots := 0, locals := 198 }
abbrev wzX5_mostOf : List Cond := .code yX5_mostOf cX5_mostOf 2 (some .long) :: zW
def rmX5_advice : Room := { frames := 8, cells := 0, slots := 0, locals := 198 }
abbrev wzX5_advice : List Cond := .code yX5_advice cX5_advice 7 (some .int) :: zW
theorem fX5_look_22 : zfl wzX5_look RX5 vwCl 22 5 6 := ⟨_, _, _, rfl, (fun w h => List.mem_cons_of_mem _ (zWuX5 w h)), by decide, List.mem_cons_of_mem _ (zWi_10 _ (List.mem_of_getElem? (i := 28) rfl))⟩
theorem fX5_look_28 : zfl wzX5_look RX5 vwCl 28 5 0 := ⟨_, _, _, rfl, (fun w h => List.mem_cons_of_mem _ (zWuX5 w h)), by decide, List.mem_cons_of_mem _ (zWi_10 _ (List.mem_of_getElem? (i := 30) rfl))⟩
theorem fX5_look_70 : zfl wzX5_look RX5 vwCl 70 8 5 := ⟨_, _, _, rfl, (fun w h => List.mem_cons_of_mem _ (zWuX8 w h)), by decide, List.mem_cons_of_mem _ (zWi_10 _ (List.mem_of_getElem? (i := 36) rfl))⟩
theorem fX5_look_18 : zfl wzX5_look RX5 vwCl 18 5 5 := ⟨_, _, _, rfl, (fun w h => List.mem_cons_of_mem _ (zWuX5 w h)), by decide, List.mem_cons_of_mem _ (zWi_10 _ (List.mem_of_getElem? (i := 27) rfl))⟩
theorem kX5_look_50 (d : Nat) : ∀ (s9 : State) (a9 : Array Value), (∀ w ∈ wzX5_look, w.before a9 s9 = true) → CallW (rmX5_look d) s9 a9 RX5 RX5 50 yX5_findChange cX5_findChange 4 none wzX5_findChange rmX5_findChange 0 0 1 := zcV (zWi_24 _ (List.mem_of_getElem? (i := 15) rfl)) (zWi_16 _ (List.mem_of_getElem? (i := 21) rfl)) (zWi_29 _ (List.mem_of_getElem? (i := 0) rfl)) (zWi_12 _ (List.mem_of_getElem? (i := 17) rfl)) (zWi_5 _ (List.mem_of_getElem? (i := 5) rfl)) (by decide +kernel) rfl rfl ⟨(by simp only [rmX5_look, rmX5_findChange]; omega), (by simp only [rmX5_look, rmX5_findChange]; omega)⟩
theorem kX5_look_56 (d : Nat) : ∀ (s9 : State) (a9 : Array Value), (∀ w ∈ wzX5_look, w.before a9 s9 = true) → CallW (rmX5_look d) s9 a9 RX5 RX5 56 yX5_sell cX5_sell 9 none wzX5_sell rmX5_sell 0 0 2 := zcV (zWi_24 _ (List.mem_of_getElem? (i := 16) rfl)) (zWi_16 _ (List.mem_of_getElem? (i := 29) rfl)) (zWi_29 _ (List.mem_of_getElem? (i := 7) rfl)) (zWi_12 _ (List.mem_of_getElem? (i := 17) rfl)) (zWi_5 _ (List.mem_of_getElem? (i := 13) rfl)) (by decide +kernel) rfl rfl ⟨(by simp only [rmX5_look, rmX5_sell]; omega), (by simp only [rmX5_look, rmX5_sell]; omega)⟩
theorem kX5_look_46 (d : Nat) : ∀ (s9 : State) (a9 : Array Value), (∀ w ∈ wzX5_look, w.before a9 s9 = true) → CallW (rmX5_look (d + 1)) s9 a9 RX5 RX5 46 yX5_look cX5_look 5 none wzX5_look (rmX5_look d) 0 0 2 := zcV (zWi_24 _ (List.mem_of_getElem? (i := 14) rfl)) (zWi_16 _ (List.mem_of_getElem? (i := 24) rfl)) (zWi_29 _ (List.mem_of_getElem? (i := 2) rfl)) (zWi_12 _ (List.mem_of_getElem? (i := 17) rfl)) (zWi_5 _ (List.mem_of_getElem? (i := 8) rfl)) (by decide +kernel) rfl rfl ⟨(by simp only [rmX5_look, rmX5_look]; omega), (by simp only [rmX5_look, rmX5_look]; omega)⟩
theorem kX5_look_99 (d : Nat) : ∀ (s9 : State) (a9 : Array Value), (∀ w ∈ wzX5_look, w.before a9 s9 = true) → CallW (rmX5_look d) s9 a9 RX5 RX5 99 yX5_keepServed cX5_keepServed 7 none wzX5_keepServed rmX5_keepServed 0 0 3 := zcV (zWi_24 _ (List.mem_of_getElem? (i := 20) rfl)) (zWi_16 _ (List.mem_of_getElem? (i := 23) rfl)) (zWi_29 _ (List.mem_of_getElem? (i := 1) rfl)) (zWi_12 _ (List.mem_of_getElem? (i := 17) rfl)) (zWi_5 _ (List.mem_of_getElem? (i := 7) rfl)) (by decide +kernel) rfl rfl ⟨(by simp only [rmX5_look, rmX5_keepServed]; omega), (by simp only [rmX5_look, rmX5_keepServed]; omega)⟩
theorem kX5_look_103 (d : Nat) : ∀ (s9 : State) (a9 : Array Value), (∀ w ∈ wzX5_look, w.before a9 s9 = true) → CallW (rmX5_look d) s9 a9 RX5 RX5 103 yX5_meanOf cX5_meanOf 13 (some .long) wzX5_meanOf rmX5_meanOf 0 0 2 := zcV (zWi_24 _ (List.mem_of_getElem? (i := 5) rfl)) (zWi_16 _ (List.mem_of_getElem? (i := 25) rfl)) (zWi_29 _ (List.mem_of_getElem? (i := 3) rfl)) (zWi_12 _ (List.mem_of_getElem? (i := 17) rfl)) (zWi_5 _ (List.mem_of_getElem? (i := 9) rfl)) (by decide +kernel) rfl rfl ⟨(by simp only [rmX5_look, rmX5_meanOf]; omega), (by simp only [rmX5_look, rmX5_meanOf]; omega)⟩
theorem fX5_mostOf_22 : zfl wzX5_mostOf RX5 vwCl 22 5 6 := ⟨_, _, _, rfl, (fun w h => List.mem_cons_of_mem _ (zWuX5 w h)), by decide, List.mem_cons_of_mem _ (zWi_10 _ (List.mem_of_getElem? (i := 28) rfl))⟩
theorem kX5_mostOf_43 : ∀ (s9 : State) (a9 : Array Value), (∀ w ∈ wzX5_mostOf, w.before a9 s9 = true) → CallW rmX5_mostOf s9 a9 RX5 RX5 43 yX5_begin cX5_begin 2 none wzX5_begin rmX5_begin 0 0 0 := zcV (zWi_24 _ (List.mem_of_getElem? (i := 13) rfl)) (zWi_16 _ (List.mem_of_getElem? (i := 20) rfl)) (zWi_28 _ (List.mem_of_getElem? (i := 49) rfl)) (zWi_12 _ (List.mem_of_getElem? (i := 17) rfl)) (zWi_5 _ (List.mem_of_getElem? (i := 4) rfl)) (by decide +kernel) rfl rfl ⟨Nat.le_of_ble_eq_true rfl, Nat.le_of_ble_eq_true rfl⟩
theorem kX5_mostOf_46 : ∀ (s9 : State) (a9 : Array Value), (∀ w ∈ wzX5_mostOf, w.before a9 s9 = true) → CallW rmX5_mostOf s9 a9 RX5 RX5 46 yX5_look cX5_look 5 none wzX5_look (rmX5_look 3) 0 0 2 := zcV (zWi_24 _ (List.mem_of_getElem? (i := 14) rfl)) (zWi_16 _ (List.mem_of_getElem? (i := 24) rfl)) (zWi_29 _ (List.mem_of_getElem? (i := 2) rfl)) (zWi_12 _ (List.mem_of_getElem? (i := 17) rfl)) (zWi_5 _ (List.mem_of_getElem? (i := 8) rfl)) (by decide +kernel) rfl rfl ⟨Nat.le_of_ble_eq_true rfl, Nat.le_of_ble_eq_true rfl⟩
theorem fX5_advice_22 : zfl wzX5_advice RX5 vwCl 22 5 6 := ⟨_, _, _, rfl, (fun w h => List.mem_cons_of_mem _ (zWuX5 w h)), by decide, List.mem_cons_of_mem _ (zWi_10 _ (List.mem_of_getElem? (i := 28) rfl))⟩
theorem fX5_advice_18 : zfl wzX5_advice RX5 vwCl 18 5 5 := ⟨_, _, _, rfl, (fun w h => List.mem_cons_of_mem _ (zWuX5 w h)), by decide, List.mem_cons_of_mem _ (zWi_10 _ (List.mem_of_getElem? (i := 27) rfl))⟩
theorem kX5_advice_43 : ∀ (s9 : State) (a9 : Array Value), (∀ w ∈ wzX5_advice, w.before a9 s9 = true) → CallW rmX5_advice s9 a9 RX5 RX5 43 yX5_begin cX5_begin 2 none wzX5_begin rmX5_begin 0 0 0 := zcV (zWi_24 _ (List.mem_of_getElem? (i := 13) rfl)) (zWi_16 _ (List.mem_of_getElem? (i := 20) rfl)) (zWi_28 _ (List.mem_of_getElem? (i := 49) rfl)) (zWi_12 _ (List.mem_of_getElem? (i := 17) rfl)) (zWi_5 _ (List.mem_of_getElem? (i := 4) rfl)) (by decide +kernel) rfl rfl ⟨Nat.le_of_ble_eq_true rfl, Nat.le_of_ble_eq_true rfl⟩
theorem kX5_advice_46 : ∀ (s9 : State) (a9 : Array Value), (∀ w ∈ wzX5_advice, w.before a9 s9 = true) → CallW rmX5_advice s9 a9 RX5 RX5 46 yX5_look cX5_look 5 none wzX5_look (rmX5_look 3) 0 0 2 := zcV (zWi_24 _ (List.mem_of_getElem? (i := 14) rfl)) (zWi_16 _ (List.mem_of_getElem? (i := 24) rfl)) (zWi_29 _ (List.mem_of_getElem? (i := 2) rfl)) (zWi_12 _ (List.mem_of_getElem? (i := 17) rfl)) (zWi_5 _ (List.mem_of_getElem? (i := 8) rfl)) (by decide +kernel) rfl rfl ⟨Nat.le_of_ble_eq_true rfl, Nat.le_of_ble_eq_true rfl⟩
theorem kX5_advice_50 : ∀ (s9 : State) (a9 : Array Value), (∀ w ∈ wzX5_advice, w.before a9 s9 = true) → CallW rmX5_advice s9 a9 RX5 RX5 50 yX5_findChange cX5_findChange 4 none wzX5_findChange rmX5_findChange 0 0 1 := zcV (zWi_24 _ (List.mem_of_getElem? (i := 15) rfl)) (zWi_16 _ (List.mem_of_getElem? (i := 21) rfl)) (zWi_29 _ (List.mem_of_getElem? (i := 0) rfl)) (zWi_12 _ (List.mem_of_getElem? (i := 17) rfl)) (zWi_5 _ (List.mem_of_getElem? (i := 5) rfl)) (by decide +kernel) rfl rfl ⟨Nat.le_of_ble_eq_true rfl, Nat.le_of_ble_eq_true rfl⟩
theorem kX5_advice_56 : ∀ (s9 : State) (a9 : Array Value), (∀ w ∈ wzX5_advice, w.before a9 s9 = true) → CallW rmX5_advice s9 a9 RX5 RX5 56 yX5_sell cX5_sell 9 none wzX5_sell rmX5_sell 0 0 2 := zcV (zWi_24 _ (List.mem_of_getElem? (i := 16) rfl)) (zWi_16 _ (List.mem_of_getElem? (i := 29) rfl)) (zWi_29 _ (List.mem_of_getElem? (i := 7) rfl)) (zWi_12 _ (List.mem_of_getElem? (i := 17) rfl)) (zWi_5 _ (List.mem_of_getElem? (i := 13) rfl)) (by decide +kernel) rfl rfl ⟨Nat.le_of_ble_eq_true rfl, Nat.le_of_ble_eq_true rfl⟩
theorem kX5_advice_59 : ∀ (s9 : State) (a9 : Array Value), (∀ w ∈ wzX5_advice, w.before a9 s9 = true) → CallW rmX5_advice s9 a9 RX5 RX5 59 yX5_power cX5_power 6 (some .long) wzX5_power rmX5_power 0 0 1 := zcV (zWi_24 _ (List.mem_of_getElem? (i := 17) rfl)) (zWi_16 _ (List.mem_of_getElem? (i := 28) rfl)) (zWi_29 _ (List.mem_of_getElem? (i := 6) rfl)) (zWi_12 _ (List.mem_of_getElem? (i := 17) rfl)) (zWi_5 _ (List.mem_of_getElem? (i := 12) rfl)) (by decide +kernel) rfl rfl ⟨Nat.le_of_ble_eq_true rfl, Nat.le_of_ble_eq_true rfl⟩
def lkO (T U : zM) (t : Nat) : Prop := (∀ k, k ≠ 54 → k ≠ 60 → k ≠ 62 → k ≠ 63 → k ≠ 64 → U k = T k) ∧ (∀ j, j < t * 8 + 8 → U 60 j = T 60 j) ∧ (∀ j, j < t * 5 → U 62 j = T 62 j) ∧ (∀ j, j < t * 4 → U 63 j = T 63 j) ∧ (∀ j, j < t * 15 → U 64 j = T 64 j)
theorem lkO.tr {T U V : zM} {t : Nat} (h : lkO T U t) (g : lkO U V t) : lkO T V t := ⟨fun k k1 k2 k3 k4 k5 => by rw [g.1 k k1 k2 k3 k4 k5, h.1 k k1 k2 k3 k4 k5], fun j hj => by rw [g.2.1 j hj, h.2.1 j hj], fun j hj => by rw [g.2.2.1 j hj, h.2.2.1 j hj], fun j hj => by rw [g.2.2.2.1 j hj, h.2.2.2.1 j hj], fun j hj => by rw [g.2.2.2.2 j hj, h.2.2.2.2 j hj]⟩
theorem lkO.dn {U V : zM} {t : Nat} (g : lkO U V (t + 1)) : lkO U V t := ⟨g.1, fun j hj => g.2.1 j (by omega), fun j hj => g.2.2.1 j (by omega), fun j hj => g.2.2.2.1 j (by omega), fun j hj => g.2.2.2.2 j (by omega)⟩
theorem lkO.rf (T : zM) (t : Nat) : lkO T T t := ⟨fun _ _ _ _ _ _ => rfl, fun _ _ => rfl, fun _ _ => rfl, fun _ _ => rfl, fun _ _ => rfl⟩
theorem lkO.mn {T : zM} {t m : Nat} {v : Int} : lkO T (zup T 63 (t * 4 + m) v) t := ⟨fun k _ _ _ k4 _ => by rw [zup_o k k4], fun j hj => by rw [zup_o _ (by decide)], fun j hj => by rw [zup_o _ (by decide)], fun j hj => by rw [zup_j (by omega)], fun j hj => by rw [zup_o _ (by decide)]⟩
theorem lkO.ag {N T U : zM} {t : Nat} (h : lkO T U t) (a : AG N T) : AG N U := fun k hk => by rw [h.1 k (by omega) (by omega) (by omega) (by omega) (by omega)]; exact a k hk
theorem hOff.lk {M U : zM} {t : Nat} (h : hOff M U t) : lkO M U t := ⟨fun k _ k2 _ _ _ => h.1 k k2, fun j hj => h.2 j (by omega), fun j _ => by rw [h.1 _ (by decide)], fun j _ => by rw [h.1 _ (by decide)], fun j _ => by rw [h.1 _ (by decide)]⟩
theorem ksM_lk {M : zM} {t b n : Nat} : lkO M (ksM M t b n) t := ⟨fun k _ _ _ _ k5 => ksM_o k k5, fun j _ => by rw [ksM_o _ (by decide)], fun j _ => by rw [ksM_o _ (by decide)], fun j _ => by rw [ksM_o _ (by decide)], fun j hj => by
  simp only [ksM]
  rw [if_neg (by omega)]⟩
theorem addC_8 {M : zM} {b : Nat} {h : Nat → Int} (hb : ICb M) (h5 : b < 5) : ∀ n : Nat, (n : Int) ≤ M 32 b → ∀ k, 8 ≤ k → addC M b h n k = h k
  | 0, _, k, _ => rfl
  | n + 1, hn, k, hk => by
    have := (hb.2.2 b h5).2.2.2.2.2.2 n (by omega)
    simp only [addC]
    rw [if_neg (by omega)]
    exact addC_8 hb h5 n (by omega) k hk
theorem sold_8 {M : zM} {b : Nat} {h : Nat → Int} {x : Nat → Nat} (hb : ICb M) (h5 : b < 5) {k : Nat} (hk : 8 ≤ k) : sold M b h x k = 0 := by
  have := hb.2.2 b h5
  unfold sold
  rw [addC_8 hb h5 _ (by omega) k hk]
  unfold lessC
  rw [if_neg (by omega)]
theorem ag_addC {M N : zM} (h : AG M N) (b : Nat) (g : Nat → Int) : ∀ n k, addC N b g n k = addC M b g n k
  | 0, k => rfl
  | n + 1, k => by
    simp only [addC]
    rw [ag_addC h b g n k, h 31 (by decide)]
theorem ag_sold {M N : zM} (h : AG M N) (b : Nat) (g : Nat → Int) (x : Nat → Nat) : sold N b g x = sold M b g x := by
  funext k
  unfold sold
  rw [ag_addC h, h 32 (by decide)]
theorem ag_cap {M N : zM} (h : AG M N) (g : Nat → Int) : cap N g = cap M g := by
  funext k
  unfold cap
  have := ag_isGood h.k (k : Int)
  by_cases c : isGood M k
  · rw [if_pos c, if_pos (this.mpr c)]
  · rw [if_neg c, if_neg (fun z => c (this.mp z))]
theorem ag_val {M N : zM} (h : AG M N) : val N = val M := by
  funext k
  unfold val
  rw [h 4 (by decide)]
theorem cap_le {M : zM} {h : Nat → Int} (hh : ∀ k, k < 8 → 0 ≤ h k ∧ h k ≤ 20) : ∀ i, i < 8 → (cap M h i : Int) ≤ h i ∧ cap M h i ≤ 20 := fun i hi => by
  have := hh i hi
  unfold cap
  split <;> omega
theorem lessC_r {c : Nat → Nat} {h : Nat → Int} {x : Nat → Nat} (hh : ∀ k, k < 8 → 0 ≤ h k ∧ h k ≤ 20) (hx : ∀ i, i < 8 → (x i : Int) ≤ h i) : ∀ k, k < 8 → 0 ≤ lessC h x k ∧ lessC h x k ≤ 20 := fun k hk => by
  have := hh k hk
  have := hx k hk
  unfold lessC
  rw [if_pos hk]
  omega
/-- the buyers of a turn, as far as looked at -/
def lkB (N T U : zM) (h : Nat → Int) (t n b : Nat) : Prop := lkO T U t ∧ U 63 (t * 4) = 0 ∧ (∀ b', b' < (N 1 5).toNat → rowOk (U 62 (t * 5 + b')) (chg (cap N h) (val N) (abv N b'))) ∧ ∀ b' x, b' < b → chg (cap N h) (val N) (abv N b') = some x → ∀ m, m < n → U 64 ((t * 5 + b') * 3 + m) = mostR N m (sold N b' h x)
def lookQ (N T T' : zM) (t n : Nat) : Prop := lkO T T' t ∧ ∀ m, m ≤ n → T' 63 (t * 4 + m) = mostR N m (nh (T 60) (t * 8))
def sp_X5_look (d : Nat) (as : List zV) (M : zM) (Q : Option zV → zM → Prop) : Prop := ∃ (t n : Nat) (N : zM), as = [zR 59, zI t, zI n] ∧ n ≤ d ∧ t + n ≤ 3 ∧ ICs N ∧ ICb N ∧ AG N M ∧ (∀ j, j < (N 1 5).toNat → M 61 j = abv N j) ∧ (∀ k, k < 8 → 0 ≤ M 60 (t * 8 + k) ∧ M 60 (t * 8 + k) ≤ 20) ∧ ∀ (r : Option zV) (M' : zM), (r = none ∧ lookQ N M M' t n) → Q r M'
theorem us_X5_look {d t n : Nat} {N M : zM} {Q : Option zV → zM → Prop} (h1 : n ≤ d) (h2 : t + n ≤ 3) (hs : ICs N) (hb : ICb N) (ag : AG N M) (ha : ∀ j, j < (N 1 5).toNat → M 61 j = abv N j) (hh : ∀ k, k < 8 → 0 ≤ M 60 (t * 8 + k) ∧ M 60 (t * 8 + k) ≤ 20) (h : ∀ (r : Option zV) (M' : zM), (r = none ∧ lookQ N M M' t n) → Q r M') : sp_X5_look d [zR 59, zI t, zI n] M Q := ⟨t, n, N, rfl, h1, h2, hs, hb, ag, ha, hh, h⟩
theorem lp_X5_look2 {E : zE} {X : zX} {Qp : Option zV → zM → Prop} {N T : zM} {t n d : Nat} (S : zS (zg E) X cX5_look 5 wzX5_look RX5 none) (ht : t + n ≤ 3) (hn : 1 ≤ n) (hs : ICs N) (hb : ICb N) (ag : AG N T) (hh : ∀ k, k < 8 → 0 ≤ nh (T 60) (t * 8) k ∧ nh (T 60) (t * 8) k ≤ 20) (hQ : ∀ (r : Option zV) (M' : zM), (r = none ∧ lookQ N T M' t n) → Qp r M') : ∀ (m i : Nat) (U : zM), m + i = n + 1 → 1 ≤ i → lkB N T U (nh (T 60) (t * 8)) t n (N 1 5).toNat → (∀ m', m' < i → U 63 (t * 4 + m') = mostR N m' (nh (T 60) (t * 8))) → zK (zg E) (rmX5_look d) 5 (Qp, 0, 0) X (0, 0) 93 [some (zR 59), some (zI t), some (zI n), some (zI ((t : Int) * 4)), some (zI i)] [] U := by
  intro m
  induction m with
  | zero =>
    intro i U hi hi1 hU hm
    have q := hQ none U ⟨rfl, hU.1, fun m' hm' => hm m' (by omega)⟩
    refine zr_iload (pc := 93) S dX5_look_93 rfl ?_
    refine zr_iload_n (pc := 95) S dX5_look_95 rfl ?_
    refine zr_icmp_gt (pc := 96) (tgt := 121) S dX5_look_96 (by decide) (fun c96 => ?_) (fun c96 => absurd c96 (by omega))
    exact zr_vret (pc := 121) S dX5_look_121 rfl ⟨Nat.le_refl _, Nat.le_refl _⟩ (q)
  | succ m ih =>
    intro i U hi hi1 hU hm
    obtain ⟨j, rfl⟩ : ∃ j, i = j + 1 := ⟨i - 1, by omega⟩
    have ej : ((t : Int) * 4 + ((j : Int) + 1)).toNat = t * 4 + (j + 1) := by omega
    have q := ih (j + 1 + 1) (zup U 63 (t * 4 + (j + 1)) (mostR N (j + 1) (nh (T 60) (t * 8)))) (by omega) (by omega) ⟨hU.1.tr lkO.mn, by rw [zup_j (by omega)]; exact hU.2.1, fun b' hb' => by rw [zup_o _ (by decide)]; exact hU.2.2.1 b' hb', fun b' x hb' hx m' hm' => by rw [zup_o _ (by decide)]; exact hU.2.2.2 b' x hb' hx m' hm'⟩ (fun m' hm' => by
      by_cases e : m' = j + 1
      · rw [e, zup_e]
      · rw [zup_j (by omega)]; exact hm m' (by omega))
    have ei : ((j + 1 : Nat) : Int) = (j : Int) + 1 := by omega
    rw [ei]
    refine zr_iload (pc := 93) S dX5_look_93 rfl ?_
    refine zr_iload_n (pc := 95) S dX5_look_95 rfl ?_
    refine zr_icmp_gt (pc := 96) (tgt := 121) S dX5_look_96 (by decide) (fun c96 => absurd c96 (by omega)) (fun c96 => ?_)
    refine zr_aload_n (pc := 99) S dX5_look_99 rfl ?_
    refine zr_getR (pc := 100) S fX5_look_22 dX5_look_100 rfl (Nat.le_of_ble_eq_true rfl) rfl ?_
    refine zr_iload_n (pc := 103) S dX5_look_103 rfl ?_
    refine zr_iload (pc := 104) S dX5_look_104 rfl ?_
    refine zr_iadd (pc := 106) S dX5_look_106 (by unfold zrI; omega) ?_
    refine zr_aload_n (pc := 107) S dX5_look_107 rfl ?_
    refine zr_iload_n (pc := 108) S dX5_look_108 rfl ?_
    refine zr_iload (pc := 109) S dX5_look_109 rfl ?_
    refine zr_invV (pc := 111) S [zI _, zI _] (m_X5_meanOf _) (kX5_look_103 (d)) dX5_look_111 rfl (Nat.le_of_ble_eq_true rfl) rfl (Nat.le_of_ble_eq_true rfl) ⟨Nat.le_of_ble_eq_true rfl, Nat.le_of_ble_eq_true rfl⟩ (us_X5_meanOf (N := N) (g := nh (T 60) (t * 8)) (by omega) (by omega) hb (hU.1.ag ag) (hm j (by omega)) hU.2.2.1 hh (fun b' x hb' hx => hU.2.2.2 b' x hb' hx j (by omega)) ?_)
    dsimp only [zaft, Option.toList, List.cons_append, List.nil_append, Nat.add_zero]
    refine zr_lastore (pc := 114) S dX5_look_114 rfl (Nat.le_of_ble_eq_true rfl) (by omega) (by omega) ?_
    rw [ej]
    refine zr_iinc (pc := 115) S dX5_look_115 rfl (by unfold zrI; omega) (by decide) ?_
    dsimp only [zst1, zst2, zset, zget, zlong]
    refine zr_goto (pc := 118) (tgt := 93) S dX5_look_118 (by decide) ?_
    exact q
theorem lp_X5_look1 {E : zE} {X : zX} {Qp : Option zV → zM → Prop} {N T : zM} {t n d : Nat} (S : zS (zg E) X cX5_look 5 wzX5_look RX5 none) (IH : zC X.2.1 yX5_look wzX5_look (rmX5_look d) (sp_X5_look d)) (hd : n ≤ d + 1) (ht : t + n ≤ 3) (hn : 1 ≤ n) (hs : ICs N) (hb : ICb N) (ag : AG N T) (ha : ∀ j, j < (N 1 5).toNat → T 61 j = abv N j) (hh : ∀ k, k < 8 → 0 ≤ nh (T 60) (t * 8) k ∧ nh (T 60) (t * 8) k ≤ 20) (hQ : ∀ (r : Option zV) (M' : zM), (r = none ∧ lookQ N T M' t n) → Qp r M') : ∀ (m b : Nat) (U : zM), (m : Int) + b = N 1 5 → lkB N T U (nh (T 60) (t * 8)) t n b → zK (zg E) (rmX5_look (d + 1)) 5 (Qp, 0, 0) X (0, 0) 29 [some (zR 59), some (zI t), some (zI n), some (zI ((t : Int) * 4)), some (zI b)] [] U := by
  have h1 := hb.1
  intro m
  induction m with
  | zero =>
    intro b U hm hU
    have e : b = (N 1 5).toNat := by omega
    have e2 : U 1 = N 1 := (hU.1.ag ag) _ (by decide)
    rw [e] at hU
    have q := lp_X5_look2 (d := d + 1) S ht hn hs hb ag hh hQ n 1 U (by omega) (by omega) hU (fun m' hm' => by
      have : m' = 0 := by omega
      subst this
      exact hU.2.1)
    refine zr_iload (pc := 29) S dX5_look_29 rfl ?_
    refine zr_aload_n (pc := 31) S dX5_look_31 rfl ?_
    refine zr_getR (pc := 32) S fX5_look_28 dX5_look_32 rfl (Nat.le_of_ble_eq_true rfl) rfl ?_
    refine zr_getI (pc := 35) S fX5_look_70 dX5_look_35 rfl (Nat.le_of_ble_eq_true rfl) rfl ?_
    rw [e2]
    refine zr_icmp_ge (pc := 38) (tgt := 90) S dX5_look_38 (by decide) (fun c38 => ?_) (fun c38 => absurd c38 (by omega))
    refine zr_iconst (pc := 90) S dX5_look_90 (by unfold zrI; omega) ?_
    refine zr_istore (pc := 91) S dX5_look_91 (by decide) ?_
    dsimp only [zst1, zst2, zset, zget, zlong]
    exact q
  | succ m ih =>
    intro b U hm hU
    have b5 : b < 5 := by omega
    have agU := hU.1.ag ag
    have e2 : U 1 = N 1 := agU _ (by decide)
    have ej : ((t : Int) * 5 + b).toNat = t * 5 + b := by omega
    have et : (t : Int) + 1 = ((t + 1 : Nat) : Int) := by omega
    have en : (n : Int) - 1 = ((n - 1 : Nat) : Int) := by omega
    have hr := hU.2.2.1 b (by omega)
    cases hc : chg (cap N (nh (T 60) (t * 8))) (val N) (abv N b) with
    | none =>
      rw [hc] at hr
      have hr2 : U 62 (t * 5 + b) = -1 := hr
      have q := ih (b + 1) U (by omega) ⟨hU.1, hU.2.1, hU.2.2.1, fun b' x hb' hx m' hm' => by
        by_cases e : b' = b
        · rw [e, hc] at hx
          cases hx
        · exact hU.2.2.2 b' x (by omega) hx m' hm'⟩
      refine zr_iload (pc := 29) S dX5_look_29 rfl ?_
      refine zr_aload_n (pc := 31) S dX5_look_31 rfl ?_
      refine zr_getR (pc := 32) S fX5_look_28 dX5_look_32 rfl (Nat.le_of_ble_eq_true rfl) rfl ?_
      refine zr_getI (pc := 35) S fX5_look_70 dX5_look_35 rfl (Nat.le_of_ble_eq_true rfl) rfl ?_
      rw [e2]
      refine zr_icmp_ge (pc := 38) (tgt := 90) S dX5_look_38 (by decide) (fun c38 => absurd c38 (by omega)) (fun c38 => ?_)
      refine zr_aload_n (pc := 41) S dX5_look_41 rfl ?_
      refine zr_getR (pc := 42) S fX5_look_18 dX5_look_42 rfl (Nat.le_of_ble_eq_true rfl) rfl ?_
      refine zr_iload_n (pc := 45) S dX5_look_45 rfl ?_
      refine zr_iconst (pc := 46) S dX5_look_46 (by unfold zrI; omega) ?_
      refine zr_imul (pc := 47) S dX5_look_47 (by unfold zrI; omega) ?_
      refine zr_iload (pc := 48) S dX5_look_48 rfl ?_
      refine zr_iadd (pc := 50) S dX5_look_50 (by unfold zrI; omega) ?_
      refine zr_laload (pc := 51) S dX5_look_51 rfl (Nat.le_of_ble_eq_true rfl) (by omega) (by omega) ?_
      rw [ej, hr2]
      refine zr_ldc2 (pc := 52) S (-1) dX5_look_52 (List.mem_cons_of_mem _ (zWi_7 _ (List.mem_of_getElem? (i := 34) rfl))) (by unfold zrL; omega) ?_
      refine zr_lcmp_eq (pc := 55) (tgt := 84) S dX5_look_55 dX5_look_56 (by decide) (fun c55 => ?_) (fun c55 => absurd c55 (by omega))
      refine zr_iinc (pc := 84) S dX5_look_84 rfl (by unfold zrI; omega) (by decide) ?_
      dsimp only [zst1, zst2, zset, zget, zlong]
      refine zr_goto (pc := 87) (tgt := 29) S dX5_look_87 (by decide) ?_
      exact q
    | some x =>
      rw [hc] at hr
      have hr2 : U 62 (t * 5 + b) = wV x 8 := hr
      have ho := (chg_inv hc).2.1.1
      have cl := cap_le (M := N) hh
      have hx : ∀ k, k < 8 → x k ≤ 20 := fun k hk => Nat.le_trans (ho k hk) (cl k hk).2
      have hx2 : ∀ k, k < 8 → (x k : Int) ≤ nh (T 60) (t * 8) k := fun k hk => by
        have := ho k hk
        have := cl k hk
        omega
      have wr := wV_r hx
      have hne : ¬ wV x 8 = -1 := by omega
      clear wr
      generalize hrow : wV x 8 = row at *
      have eU : nh (U 60) (t * 8) = nh (T 60) (t * 8) := by
        funext k
        unfold nh
        split
        · exact hU.1.2.1 _ (by omega)
        · rfl
      have nhU : ∀ k, k < 8 → U 60 (t * 8 + k) = nh (T 60) (t * 8) k := fun k hk => by
        rw [← eU]
        unfold nh
        rw [if_pos hk]
      refine zr_iload (pc := 29) S dX5_look_29 rfl ?_
      refine zr_aload_n (pc := 31) S dX5_look_31 rfl ?_
      refine zr_getR (pc := 32) S fX5_look_28 dX5_look_32 rfl (Nat.le_of_ble_eq_true rfl) rfl ?_
      refine zr_getI (pc := 35) S fX5_look_70 dX5_look_35 rfl (Nat.le_of_ble_eq_true rfl) rfl ?_
      rw [e2]
      refine zr_icmp_ge (pc := 38) (tgt := 90) S dX5_look_38 (by decide) (fun c38 => absurd c38 (by omega)) (fun c38 => ?_)
      refine zr_aload_n (pc := 41) S dX5_look_41 rfl ?_
      refine zr_getR (pc := 42) S fX5_look_18 dX5_look_42 rfl (Nat.le_of_ble_eq_true rfl) rfl ?_
      refine zr_iload_n (pc := 45) S dX5_look_45 rfl ?_
      refine zr_iconst (pc := 46) S dX5_look_46 (by unfold zrI; omega) ?_
      refine zr_imul (pc := 47) S dX5_look_47 (by unfold zrI; omega) ?_
      refine zr_iload (pc := 48) S dX5_look_48 rfl ?_
      refine zr_iadd (pc := 50) S dX5_look_50 (by unfold zrI; omega) ?_
      refine zr_laload (pc := 51) S dX5_look_51 rfl (Nat.le_of_ble_eq_true rfl) (by omega) (by omega) ?_
      rw [ej, hr2]
      refine zr_ldc2 (pc := 52) S (-1) dX5_look_52 (List.mem_cons_of_mem _ (zWi_7 _ (List.mem_of_getElem? (i := 34) rfl))) (by unfold zrL; omega) ?_
      refine zr_lcmp_eq (pc := 55) (tgt := 84) S dX5_look_55 dX5_look_56 (by decide) (fun c55 => absurd c55 (by omega)) (fun c55 => ?_)
      refine zr_aload_n (pc := 59) S dX5_look_59 rfl ?_
      refine zr_iload_n (pc := 60) S dX5_look_60 rfl ?_
      refine zr_iload (pc := 61) S dX5_look_61 rfl ?_
      refine zr_invV (pc := 63) S [zI _, zI _] (m_X5_sell _) (kX5_look_56 (d + 1)) dX5_look_63 rfl (Nat.le_of_ble_eq_true rfl) rfl (Nat.le_of_ble_eq_true rfl) ⟨Nat.le_of_ble_eq_true rfl, Nat.le_of_ble_eq_true rfl⟩ (us_X5_sell (x := x) (by omega) b5 (agU.b hb) (by rw [hr2, hrow]) hx (fun k hk => by rw [nhU k hk]; exact ⟨hx2 k hk, (hh k hk).2⟩) ?_)
      dsimp only [zaft, Option.toList, List.cons_append, List.nil_append, Nat.add_zero]
      rintro r V ⟨rfl, hV, hV2⟩
      dsimp only [zaft, Option.toList, List.nil_append]
      rw [eU, ag_sold agU] at hV2
      have agV := hV.lk.ag agU
      have eV : nh (V 60) ((t + 1) * 8) = sold N b (nh (T 60) (t * 8)) x := by
        funext k
        unfold nh
        split
        · rename_i hk
          rw [show (t + 1) * 8 + k = t * 8 + 8 + k by omega]
          exact hV2 k hk
        · rw [sold_8 hb b5 (by omega)]
      have hV3 : ∀ k, k < 8 → 0 ≤ V 60 ((t + 1) * 8 + k) ∧ V 60 ((t + 1) * 8 + k) ≤ 20 := fun k hk => by
        rw [show (t + 1) * 8 + k = t * 8 + 8 + k by omega, hV2 k hk]
        unfold sold
        exact addC_r (lessC_r (c := cap N (nh (T 60) (t * 8))) hh hx2) _ k hk
      refine zr_aload_n (pc := 66) S dX5_look_66 rfl ?_
      refine zr_iload_n (pc := 67) S dX5_look_67 rfl ?_
      refine zr_iconst (pc := 68) S dX5_look_68 (by unfold zrI; omega) ?_
      refine zr_iadd (pc := 69) S dX5_look_69 (by unfold zrI; omega) ?_
      rw [et]
      refine zr_iload_n (pc := 70) S dX5_look_70 rfl ?_
      refine zr_iconst (pc := 71) S dX5_look_71 (by unfold zrI; omega) ?_
      refine zr_isub (pc := 72) S dX5_look_72 (by unfold zrI; omega) ?_
      rw [en]
      refine zr_invV (pc := 73) S [zI _, zI _] IH (kX5_look_46 (d)) dX5_look_73 rfl (Nat.le_of_ble_eq_true rfl) rfl (Nat.le_of_ble_eq_true rfl) ⟨Nat.le_of_ble_eq_true rfl, Nat.le_of_ble_eq_true rfl⟩ (us_X5_look (N := N) (by omega) (by omega) hs hb agV (fun j hj => by rw [hV.1 _ (by decide), hU.1.1 _ (by decide) (by decide) (by decide) (by decide) (by decide)]; exact ha j hj) hV3 ?_)
      dsimp only [zaft, Option.toList, List.cons_append, List.nil_append, Nat.add_zero]
      rintro r W ⟨rfl, hW, hW2⟩
      dsimp only [zaft, Option.toList, List.nil_append]
      rw [eV] at hW2
      refine zr_aload_n (pc := 76) S dX5_look_76 rfl ?_
      refine zr_iload_n (pc := 77) S dX5_look_77 rfl ?_
      refine zr_iload (pc := 78) S dX5_look_78 rfl ?_
      refine zr_iload_n (pc := 80) S dX5_look_80 rfl ?_
      refine zr_invV (pc := 81) S [zI _, zI _, zI _] (m_X5_keepServed _) (kX5_look_99 (d + 1)) dX5_look_81 rfl (Nat.le_of_ble_eq_true rfl) rfl (Nat.le_of_ble_eq_true rfl) ⟨Nat.le_of_ble_eq_true rfl, Nat.le_of_ble_eq_true rfl⟩ (us_X5_keepServed (by omega) b5 (by omega) ?_)
      dsimp only [zaft, Option.toList, List.cons_append, List.nil_append, Nat.add_zero]
      have q := ih (b + 1) (ksM W t b n) (by omega) ⟨hU.1.tr (hV.lk.tr (hW.dn.tr ksM_lk)), by rw [ksM_o _ (by decide), hW.2.2.2.1 _ (by omega), hV.1 _ (by decide)]; exact hU.2.1, fun b' hb' => by rw [ksM_o _ (by decide), hW.2.2.1 _ (by omega), hV.1 _ (by decide)]; exact hU.2.2.1 b' hb', fun b' y hb' hy m' hm' => by
        by_cases e : b' = b
        · subst e
          rw [hc] at hy
          have ey := Option.some.inj hy
          subst ey
          simp only [ksM]
          rw [if_pos ⟨trivial, by omega, by omega⟩, show (t * 5 + b') * 3 + m' - (t * 5 + b') * 3 = m' by omega]
          exact hW2 m' (by omega)
        · simp only [ksM]
          rw [if_neg (by omega), hW.2.2.2.2 _ (by omega), hV.1 _ (by decide)]
          exact hU.2.2.2 b' y (by omega) hy m' hm'⟩
      refine zr_iinc (pc := 84) S dX5_look_84 rfl (by unfold zrI; omega) (by decide) ?_
      dsimp only [zst1, zst2, zset, zget, zlong]
      refine zr_goto (pc := 87) (tgt := 29) S dX5_look_87 (by decide) ?_
      exact q
set_option maxRecDepth 20000 in
theorem m_X5_look (l : Launch) : ∀ d, zC l yX5_look wzX5_look (rmX5_look d) (sp_X5_look d) := by
  intro d
  induction d with
  | zero =>
    refine zMet.of RX5 (by decide +kernel) rfl rfl ?_
    intro E X as M Qp hX S hsp
    obtain ⟨t, n, N, rfl, h1, h2, hs, hb, ag, ha, hh, hQ⟩ := hsp
    refine ⟨Nat.le_of_ble_eq_true rfl, ?_⟩
    dsimp only [zpad, zargs]
    have e0 : n = 0 := by omega
    subst e0
    have ej : ((t : Int) * 4).toNat = t * 4 := by omega
    have q := hQ none (zup M 63 (t * 4) 0) ⟨rfl, lkO.mn (m := 0), fun m hm => by
      have : m = 0 := by omega
      subst this
      rw [Nat.add_zero, zup_e]
      rfl⟩
    refine zr_iload_n (pc := 0) S dX5_look_0 rfl ?_
    refine zr_iconst (pc := 1) S dX5_look_1 (by unfold zrI; omega) ?_
    refine zr_imul (pc := 2) S dX5_look_2 (by unfold zrI; omega) ?_
    refine zr_istore_n (pc := 3) S 3 dX5_look_3 rfl (by decide) ?_
    dsimp only [zst1, zst2, zset, zget, zlong]
    refine zr_aload_n (pc := 4) S dX5_look_4 rfl ?_
    refine zr_getR (pc := 5) S fX5_look_22 dX5_look_5 rfl (Nat.le_of_ble_eq_true rfl) rfl ?_
    refine zr_iload_n (pc := 8) S dX5_look_8 rfl ?_
    refine zr_lconst0 (pc := 9) S dX5_look_9 ?_
    refine zr_lastore (pc := 10) S dX5_look_10 rfl (Nat.le_of_ble_eq_true rfl) (by omega) (by omega) ?_
    rw [ej]
    refine zr_iload_n (pc := 11) S dX5_look_11 rfl ?_
    refine zr_if_le (pc := 12) (tgt := 20) S dX5_look_12 (by decide) (fun c12 => ?_) (fun c12 => absurd c12 (by omega))
    exact zr_vret (pc := 20) S dX5_look_20 rfl ⟨Nat.le_refl _, Nat.le_refl _⟩ (q)
  | succ d ih =>
    refine zMet.of RX5 (by decide +kernel) rfl rfl ?_
    intro E X as M Qp hX S hsp
    obtain ⟨t, n, N, rfl, h1, h2, hs, hb, ag, ha, hh, hQ⟩ := hsp
    refine ⟨Nat.le_of_ble_eq_true rfl, ?_⟩
    dsimp only [zpad, zargs]
    have ej : ((t : Int) * 4).toNat = t * 4 := by omega
    by_cases e0 : n = 0
    · subst e0
      have q := hQ none (zup M 63 (t * 4) 0) ⟨rfl, lkO.mn (m := 0), fun m hm => by
        have : m = 0 := by omega
        subst this
        rw [Nat.add_zero, zup_e]
        rfl⟩
      refine zr_iload_n (pc := 0) S dX5_look_0 rfl ?_
      refine zr_iconst (pc := 1) S dX5_look_1 (by unfold zrI; omega) ?_
      refine zr_imul (pc := 2) S dX5_look_2 (by unfold zrI; omega) ?_
      refine zr_istore_n (pc := 3) S 3 dX5_look_3 rfl (by decide) ?_
      dsimp only [zst1, zst2, zset, zget, zlong]
      refine zr_aload_n (pc := 4) S dX5_look_4 rfl ?_
      refine zr_getR (pc := 5) S fX5_look_22 dX5_look_5 rfl (Nat.le_of_ble_eq_true rfl) rfl ?_
      refine zr_iload_n (pc := 8) S dX5_look_8 rfl ?_
      refine zr_lconst0 (pc := 9) S dX5_look_9 ?_
      refine zr_lastore (pc := 10) S dX5_look_10 rfl (Nat.le_of_ble_eq_true rfl) (by omega) (by omega) ?_
      rw [ej]
      refine zr_iload_n (pc := 11) S dX5_look_11 rfl ?_
      refine zr_if_le (pc := 12) (tgt := 20) S dX5_look_12 (by decide) (fun c12 => ?_) (fun c12 => absurd c12 (by omega))
      exact zr_vret (pc := 20) S dX5_look_20 rfl ⟨Nat.le_refl _, Nat.le_refl _⟩ (q)
    · have IH : zC X.2.1 yX5_look wzX5_look (rmX5_look d) (sp_X5_look d) := by rw [hX]; exact ih
      have hl : lkO M (zup M 63 (t * 4) 0) t := lkO.mn (m := 0)
      have ag1 := hl.ag ag
      have hhN : ∀ k, k < 8 → 0 ≤ nh (M 60) (t * 8) k ∧ nh (M 60) (t * 8) k ≤ 20 := fun k hk => by
        unfold nh
        rw [if_pos hk]
        exact hh k hk
      have e2 : (zup M 63 (t * 4) 0) 1 = N 1 := ag1 _ (by decide)
      refine zr_iload_n (pc := 0) S dX5_look_0 rfl ?_
      refine zr_iconst (pc := 1) S dX5_look_1 (by unfold zrI; omega) ?_
      refine zr_imul (pc := 2) S dX5_look_2 (by unfold zrI; omega) ?_
      refine zr_istore_n (pc := 3) S 3 dX5_look_3 rfl (by decide) ?_
      dsimp only [zst1, zst2, zset, zget, zlong]
      refine zr_aload_n (pc := 4) S dX5_look_4 rfl ?_
      refine zr_getR (pc := 5) S fX5_look_22 dX5_look_5 rfl (Nat.le_of_ble_eq_true rfl) rfl ?_
      refine zr_iload_n (pc := 8) S dX5_look_8 rfl ?_
      refine zr_lconst0 (pc := 9) S dX5_look_9 ?_
      refine zr_lastore (pc := 10) S dX5_look_10 rfl (Nat.le_of_ble_eq_true rfl) (by omega) (by omega) ?_
      rw [ej]
      refine zr_iload_n (pc := 11) S dX5_look_11 rfl ?_
      refine zr_if_le (pc := 12) (tgt := 20) S dX5_look_12 (by decide) (fun c12 => absurd c12 (by omega)) (fun c12 => ?_)
      refine zr_iload_n (pc := 15) S dX5_look_15 rfl ?_
      refine zr_iconst (pc := 16) S dX5_look_16 (by unfold zrI; omega) ?_
      refine zr_icmp_lt (pc := 17) (tgt := 21) S dX5_look_17 (by decide) (fun c17 => ?_) (fun c17 => absurd c17 (by omega))
      refine zr_aload_n (pc := 21) S dX5_look_21 rfl ?_
      refine zr_iload_n (pc := 22) S dX5_look_22 rfl ?_
      refine zr_invV (pc := 23) S [zI _] (m_X5_findChange _) (kX5_look_50 (d + 1)) dX5_look_23 rfl (Nat.le_of_ble_eq_true rfl) rfl (Nat.le_of_ble_eq_true rfl) ⟨Nat.le_of_ble_eq_true rfl, Nat.le_of_ble_eq_true rfl⟩ (us_X5_findChange (by omega) (ag1.s hs) (ag1.b hb) (fun j hj => by rw [e2] at hj; rw [zup_o _ (by decide), ha j hj, ag_abv ag1]) (fun k hk => by rw [zup_o _ (by decide)]; exact hh k hk) ?_)
      dsimp only [zaft, Option.toList, List.cons_append, List.nil_append, Nat.add_zero]
      rintro r U ⟨rfl, hU1, hU2, hU3⟩
      dsimp only [zaft, Option.toList, List.nil_append]
      rw [e2, ag_cap ag1, ag_val ag1, show zup M 63 (t * 4) 0 60 = M 60 from zup_o _ (by decide)] at hU3
      have hU : lkB N M U (nh (M 60) (t * 8)) t n 0 := ⟨hl.tr ⟨fun k k1 _ k3 _ _ => hU1 k k1 k3, fun j _ => by rw [hU1 _ (by decide) (by decide)], fun j hj => hU2 j (by omega), fun j _ => by rw [hU1 _ (by decide) (by decide)], fun j _ => by rw [hU1 _ (by decide) (by decide)]⟩, by rw [hU1 _ (by decide) (by decide), zup_e], fun b' hb' => by have := hU3 b' hb'; rw [ag_abv ag1] at this; exact this, fun b' x hb' => by omega⟩
      have q := lp_X5_look1 S IH h1 h2 (by omega) hs hb ag ha hhN hQ (N 1 5).toNat 0 U (by have := hb.1; omega) hU
      refine zr_iconst (pc := 26) S dX5_look_26 (by unfold zrI; omega) ?_
      refine zr_istore (pc := 27) S dX5_look_27 (by decide) ?_
      dsimp only [zst1, zst2, zset, zget, zlong]
      exact q
def offN (M N : zM) : Prop := ∀ k, k ≠ 54 → k ≠ 60 → k ≠ 61 → k ≠ 62 → k ≠ 63 → k ≠ 64 → N k = M k
theorem beg_off (M : zM) (a b : Nat) : offN M (begM M a b) := fun k _ k2 k3 _ _ _ => begM_o k k2 k3
theorem lkO.off {M T U : zM} {t : Nat} (h : offN M T) (g : lkO T U t) : offN M U := fun k k1 k2 k3 k4 k5 k6 => by rw [g.1 k k1 k2 k4 k5 k6, h k k1 k2 k3 k4 k5 k6]
theorem beg_h {M : zM} {B : Int} {b : Nat} (ht : ICt B M) : ∀ k, k < 8 → 0 ≤ begM M 8 b 60 (0 * 8 + k) ∧ begM M 8 b 60 (0 * 8 + k) ≤ 20 := fun k hk => by
  have := ht.2.2.1 k hk
  rw [show 0 * 8 + k = k by omega]
  simp only [begM]
  rw [if_pos ⟨trivial, hk⟩]
  omega
theorem beg_n (M : zM) (b : Nat) : nh (begM M 8 b 60) (0 * 8) = nh (M 19) 0 := by
  funext k
  unfold nh
  split
  · rename_i hk
    simp only [begM]
    rw [if_pos ⟨trivial, by omega⟩, show 0 * 8 + k = 0 + k by omega]
  · rfl
theorem beg_a {M : zM} : ∀ j, j < (M 1 5).toNat → begM M 8 (M 1 5).toNat 61 j = abv M j := fun j hj => by
  simp only [begM]
  rw [if_neg (by omega), if_pos ⟨trivial, hj⟩]
def sp_X5_mostOf (as : List zV) (M : zM) (Q : Option zV → zM → Prop) : Prop := ∃ (n : Nat) (B : Int), as = [zR 59, zI n] ∧ (n ≤ 3) ∧ (ICs M) ∧ (ICb M) ∧ (ICt B M) ∧ (∀ (r : Option zV) (M' : zM), (r = some (zL (mostR M n (nh (M 19) 0))) ∧ offN M M') → Q r M')
theorem us_X5_mostOf {n : Nat} {B : Int} {M : zM} {Q : Option zV → zM → Prop} (hn : n ≤ 3) (hs : ICs M) (hb : ICb M) (ht : ICt B M) (h99 : (∀ (r : Option zV) (M' : zM), (r = some (zL (mostR M n (nh (M 19) 0))) ∧ offN M M') → Q r M')) : sp_X5_mostOf [zR 59, zI n] M Q := ⟨n, B, rfl, hn, hs, hb, ht, h99⟩
set_option maxRecDepth 20000 in
set_option maxHeartbeats 4000000 in
theorem m_X5_mostOf (l : Launch) : zC l yX5_mostOf wzX5_mostOf rmX5_mostOf sp_X5_mostOf := by
  refine zMet.of RX5 (by decide +kernel) rfl rfl ?_
  intro E X as M Qp hX S hsp
  obtain ⟨n, B, rfl, hn, hs, hb, ht, hQ⟩ := hsp
  refine ⟨Nat.le_of_ble_eq_true rfl, ?_⟩
  dsimp only [zpad, zargs]
  have en : (n : Int).toNat = n := Int.toNat_natCast n
  have e4 : 0 * 4 + n = n := by omega
  refine zr_aload_n (pc := 0) S dX5_mostOf_0 rfl ?_
  refine zr_invV (pc := 1) S [] (m_X5_begin _) kX5_mostOf_43 dX5_mostOf_1 rfl (Nat.le_of_ble_eq_true rfl) rfl (Nat.le_of_ble_eq_true rfl) ⟨Nat.le_of_ble_eq_true rfl, Nat.le_of_ble_eq_true rfl⟩ (us_X5_begin hs hb ?_)
  dsimp only [zaft, Option.toList, List.cons_append, List.nil_append, Nat.add_zero]
  refine zr_aload_n (pc := 4) S dX5_mostOf_4 rfl ?_
  refine zr_iconst (pc := 5) S dX5_mostOf_5 (by unfold zrI; omega) ?_
  refine zr_iload_n (pc := 6) S dX5_mostOf_6 rfl ?_
  refine zr_invV (pc := 7) S [zI _, zI _] (m_X5_look _ 3) kX5_mostOf_46 dX5_mostOf_7 rfl (Nat.le_of_ble_eq_true rfl) rfl (Nat.le_of_ble_eq_true rfl) ⟨Nat.le_of_ble_eq_true rfl, Nat.le_of_ble_eq_true rfl⟩ (us_X5_look (t := 0) (N := M) (by omega) (by omega) hs hb ag_beg beg_a (beg_h ht) ?_)
  dsimp only [zaft, Option.toList, List.cons_append, List.nil_append, Nat.add_zero]
  rintro r U ⟨rfl, hU1, hU2⟩
  dsimp only [zaft, Option.toList, List.nil_append]
  have hm := hU2 n (Nat.le_refl _)
  rw [beg_n, e4] at hm
  have q := hQ _ U ⟨rfl, lkO.off (beg_off M 8 (M 1 5).toNat) hU1⟩
  refine zr_aload_n (pc := 10) S dX5_mostOf_10 rfl ?_
  refine zr_getR (pc := 11) S fX5_mostOf_22 dX5_mostOf_11 rfl (Nat.le_of_ble_eq_true rfl) rfl ?_
  refine zr_iload_n (pc := 14) S dX5_mostOf_14 rfl ?_
  refine zr_laload (pc := 15) S dX5_mostOf_15 rfl (Nat.le_of_ble_eq_true rfl) (by omega) (by omega) ?_
  rw [en, hm]
  exact zr_lret (pc := 16) S dX5_mostOf_16 rfl ⟨Nat.le_refl _, Nat.le_refl _⟩ (q)
/-- what is advised -/
noncomputable def advN (M : zM) (n b : Nat) : Int := match chg (cap M (nh (M 19) 0)) (val M) (abv M b) with
  | none => -1
  | some x => if mostR M n (nh (M 19) 0) ≤ mostR M n (sold M b (nh (M 19) 0) x) + powM M n then 1 else 0
theorem adv_k {E : zE} {X : zX} {Qp : Option zV → zM → Prop} {M V : zM} {n b : Nat} {B : Int} {u5 u6 : Option zV} (S : zS (zg E) X cX5_advice 7 wzX5_advice RX5 (some .int)) (hs : ICs M) (hb : ICb M) (ht : ICt B M) (h5 : b < (M 1 5).toNat) (hn : n < 3) (oV : offN M V) (hV4 : ∀ k, k < 8 → V 60 (0 * 8 + k) = nh (M 19) 0 k) (hVa : ∀ j, j < (M 1 5).toNat → V 61 j = abv M j) (hr : rowOk (V 62 b) (chg (cap M (nh (M 19) 0)) (val M) (abv M b))) (hQ : ∀ (r : Option zV) (M' : zM), (r = some (zI (advN M n b)) ∧ offN M M') → Qp r M') : zK (zg E) rmX5_advice 7 (Qp, 0, 0) X (0, 0) 26 [some (zR 59), some (zI ((n : Int) + 1)), some (zI b), some (zL (mostR M n (nh (M 19) 0))), none, u5, u6] [] V := by
  have hb1 := hb.1
  have b5 : b < 5 := by omega
  have e1 : (n : Int) + 1 - 1 = n := by omega
  have ebb : (b : Int).toNat = b := Int.toNat_natCast b
  have e6 : ((4 : Int) + ((n : Int) + 1) - 1).toNat = 1 * 4 + n := by omega
  have hh0 : ∀ k, k < 8 → 0 ≤ nh (M 19) 0 k ∧ nh (M 19) 0 k ≤ 20 := fun k hk => by
    have := ht.2.2.1 k hk
    unfold nh
    rw [if_pos hk, Nat.zero_add]
    omega
  have mr := mostR_r hb n (by omega)
  have bq := Bq_r n (by omega)
  have pr := powM_r hb n (by omega)
  have agV : AG M V := fun k hk => oV k (by omega) (by omega) (by omega) (by omega) (by omega) (by omega)
  cases hc : chg (cap M (nh (M 19) 0)) (val M) (abv M b) with
  | none =>
    rw [hc] at hr
    have hr2 : V 62 b = -1 := hr
    have ea : advN M n b = -1 := by unfold advN; rw [hc]
    have q := hQ _ V ⟨rfl, oV⟩
    rw [ea] at q
    refine zr_aload_n (pc := 26) S dX5_advice_26 rfl ?_
    refine zr_getR (pc := 27) S fX5_advice_18 dX5_advice_27 rfl (Nat.le_of_ble_eq_true rfl) rfl ?_
    refine zr_iload_n (pc := 30) S dX5_advice_30 rfl ?_
    refine zr_laload (pc := 31) S dX5_advice_31 rfl (Nat.le_of_ble_eq_true rfl) (by omega) (by omega) ?_
    rw [ebb, hr2]
    refine zr_ldc2 (pc := 32) S (-1) dX5_advice_32 (List.mem_cons_of_mem _ (zWi_7 _ (List.mem_of_getElem? (i := 34) rfl))) (by unfold zrL; omega) ?_
    refine zr_lcmp_ne (pc := 35) (tgt := 41) S dX5_advice_35 dX5_advice_36 (by decide) (fun c35 => absurd c35 (by omega)) (fun c35 => ?_)
    refine zr_iconst (pc := 39) S dX5_advice_39 (by unfold zrI; omega) ?_
    exact zr_iret (pc := 40) S dX5_advice_40 rfl ⟨Nat.le_refl _, Nat.le_refl _⟩ (q)
  | some x =>
    rw [hc] at hr
    have hr2 : V 62 b = wV x 8 := hr
    have ea : advN M n b = if mostR M n (nh (M 19) 0) ≤ mostR M n (sold M b (nh (M 19) 0) x) + powM M n then 1 else 0 := by unfold advN; rw [hc]
    have ho := (chg_inv hc).2.1.1
    have cl := cap_le (M := M) hh0
    have hx : ∀ k, k < 8 → x k ≤ 20 := fun k hk => Nat.le_trans (ho k hk) (cl k hk).2
    have hx2 : ∀ k, k < 8 → (x k : Int) ≤ nh (M 19) 0 k := fun k hk => by
      have := ho k hk
      have := cl k hk
      omega
    have wr := wV_r hx
    have hne : ¬ wV x 8 = -1 := by omega
    clear wr
    generalize hrow : wV x 8 = row at *
    have enV : nh (V 60) (0 * 8) = nh (M 19) 0 := by
      funext k
      by_cases hk : k < 8
      · rw [← hV4 k hk]
        unfold nh
        rw [if_pos hk]
      · unfold nh
        rw [if_neg hk, if_neg hk]
    have m1 := mr (nh (M 19) 0)
    have m2 := mr (sold M b (nh (M 19) 0) x)
    refine zr_aload_n (pc := 26) S dX5_advice_26 rfl ?_
    refine zr_getR (pc := 27) S fX5_advice_18 dX5_advice_27 rfl (Nat.le_of_ble_eq_true rfl) rfl ?_
    refine zr_iload_n (pc := 30) S dX5_advice_30 rfl ?_
    refine zr_laload (pc := 31) S dX5_advice_31 rfl (Nat.le_of_ble_eq_true rfl) (by omega) (by omega) ?_
    rw [ebb, hr2]
    refine zr_ldc2 (pc := 32) S (-1) dX5_advice_32 (List.mem_cons_of_mem _ (zWi_7 _ (List.mem_of_getElem? (i := 34) rfl))) (by unfold zrL; omega) ?_
    refine zr_lcmp_ne (pc := 35) (tgt := 41) S dX5_advice_35 dX5_advice_36 (by decide) (fun c35 => ?_) (fun c35 => absurd c35 (by omega))
    refine zr_aload_n (pc := 41) S dX5_advice_41 rfl ?_
    refine zr_iconst (pc := 42) S dX5_advice_42 (by unfold zrI; omega) ?_
    refine zr_iload_n (pc := 43) S dX5_advice_43 rfl ?_
    refine zr_invV (pc := 44) S [zI _, zI _] (m_X5_sell _) kX5_advice_56 dX5_advice_44 rfl (Nat.le_of_ble_eq_true rfl) rfl (Nat.le_of_ble_eq_true rfl) ⟨Nat.le_of_ble_eq_true rfl, Nat.le_of_ble_eq_true rfl⟩ (us_X5_sell (t := 0) (x := x) (by omega) b5 (agV.b hb) (by rw [show 0 * 5 + b = b by omega, hr2, hrow]) hx (fun k hk => by rw [hV4 k hk]; exact ⟨hx2 k hk, (hh0 k hk).2⟩) ?_)
    dsimp only [zaft, Option.toList, List.cons_append, List.nil_append, Nat.add_zero]
    rintro r W ⟨rfl, hW, hW2⟩
    dsimp only [zaft, Option.toList, List.nil_append]
    rw [enV, ag_sold agV] at hW2
    have agW := hW.lk.ag agV
    have eW : nh (W 60) (1 * 8) = sold M b (nh (M 19) 0) x := by
      funext k
      unfold nh
      split
      · rename_i hk
        rw [show 1 * 8 + k = 0 * 8 + 8 + k by omega]
        exact hW2 k hk
      · rw [sold_8 hb b5 (by omega)]
    have hW3 : ∀ k, k < 8 → 0 ≤ W 60 (1 * 8 + k) ∧ W 60 (1 * 8 + k) ≤ 20 := fun k hk => by
      rw [show 1 * 8 + k = 0 * 8 + 8 + k by omega, hW2 k hk]
      unfold sold
      exact addC_r (lessC_r (c := cap M (nh (M 19) 0)) hh0 hx2) _ k hk
    have oW : offN M W := lkO.off oV hW.lk
    refine zr_aload_n (pc := 47) S dX5_advice_47 rfl ?_
    refine zr_iconst (pc := 48) S dX5_advice_48 (by unfold zrI; omega) ?_
    refine zr_iload_n (pc := 49) S dX5_advice_49 rfl ?_
    refine zr_iconst (pc := 50) S dX5_advice_50 (by unfold zrI; omega) ?_
    refine zr_isub (pc := 51) S dX5_advice_51 (by unfold zrI; omega) ?_
    rw [e1]
    refine zr_invV (pc := 52) S [zI _, zI _] (m_X5_look _ 3) kX5_advice_46 dX5_advice_52 rfl (Nat.le_of_ble_eq_true rfl) rfl (Nat.le_of_ble_eq_true rfl) ⟨Nat.le_of_ble_eq_true rfl, Nat.le_of_ble_eq_true rfl⟩ (us_X5_look (t := 1) (N := M) (by omega) (by omega) hs hb agW (fun j hj => by rw [hW.1 _ (by decide)]; exact hVa j hj) hW3 ?_)
    dsimp only [zaft, Option.toList, List.cons_append, List.nil_append, Nat.add_zero]
    rintro r Y ⟨rfl, hY, hY2⟩
    dsimp only [zaft, Option.toList, List.nil_append]
    have hm := hY2 n (Nat.le_refl _)
    rw [eW] at hm
    have agY := hY.ag agW
    have oY : offN M Y := lkO.off oW hY
    have q := hQ _ Y ⟨rfl, oY⟩
    rw [ea] at q
    refine zr_aload_n (pc := 55) S dX5_advice_55 rfl ?_
    refine zr_getR (pc := 56) S fX5_advice_22 dX5_advice_56 rfl (Nat.le_of_ble_eq_true rfl) rfl ?_
    refine zr_iconst (pc := 59) S dX5_advice_59 (by unfold zrI; omega) ?_
    refine zr_iload_n (pc := 60) S dX5_advice_60 rfl ?_
    refine zr_iadd (pc := 61) S dX5_advice_61 (by unfold zrI; omega) ?_
    refine zr_iconst (pc := 62) S dX5_advice_62 (by unfold zrI; omega) ?_
    refine zr_isub (pc := 63) S dX5_advice_63 (by unfold zrI; omega) ?_
    refine zr_laload (pc := 64) S dX5_advice_64 rfl (Nat.le_of_ble_eq_true rfl) (by omega) (by omega) ?_
    rw [e6, hm]
    refine zr_aload_n (pc := 65) S dX5_advice_65 rfl ?_
    refine zr_iload_n (pc := 66) S dX5_advice_66 rfl ?_
    refine zr_iconst (pc := 67) S dX5_advice_67 (by unfold zrI; omega) ?_
    refine zr_isub (pc := 68) S dX5_advice_68 (by unfold zrI; omega) ?_
    rw [e1]
    refine zr_invV (pc := 69) S [zI _] (m_X5_power _) kX5_advice_59 dX5_advice_69 rfl (Nat.le_of_ble_eq_true rfl) rfl (Nat.le_of_ble_eq_true rfl) ⟨Nat.le_of_ble_eq_true rfl, Nat.le_of_ble_eq_true rfl⟩ (us_X5_power (agY.b hb) (by omega) ?_)
    dsimp only [zaft, Option.toList, List.cons_append, List.nil_append, Nat.add_zero]
    rw [ag_powM agY]
    refine zr_ladd (pc := 72) S dX5_advice_72 (by unfold zrL; omega) ?_
    refine zr_lstore (pc := 73) S dX5_advice_73 (by decide) ?_
    dsimp only [zst1, zst2, zset, zget, zlong]
    refine zr_lload (pc := 75) S dX5_advice_75 rfl ?_
    refine zr_lload_n (pc := 77) S dX5_advice_77 rfl ?_
    refine zr_lcmp_lt (pc := 78) (tgt := 86) S dX5_advice_78 dX5_advice_79 (by decide) (fun c78 => ?_) (fun c78 => ?_)
    · rw [if_neg (by omega)] at q
      refine zr_iconst (pc := 86) S dX5_advice_86 (by unfold zrI; omega) ?_
      exact zr_iret (pc := 87) S dX5_advice_87 rfl ⟨Nat.le_refl _, Nat.le_refl _⟩ (q)
    · rw [if_pos (by omega)] at q
      refine zr_iconst (pc := 82) S dX5_advice_82 (by unfold zrI; omega) ?_
      refine zr_goto (pc := 83) (tgt := 87) S dX5_advice_83 (by decide) ?_
      exact zr_iret (pc := 87) S dX5_advice_87 rfl ⟨Nat.le_refl _, Nat.le_refl _⟩ (q)
def sp_X5_advice (as : List zV) (M : zM) (Q : Option zV → zM → Prop) : Prop := ∃ (n b : Nat) (B : Int), as = [zR 59, zI ((n : Int) + 1), zI b] ∧ (n < 3) ∧ (ICs M) ∧ (ICb M) ∧ (ICt B M) ∧ (b < (M 1 5).toNat) ∧ (∀ (r : Option zV) (M' : zM), (r = some (zI (advN M n b)) ∧ offN M M') → Q r M')
theorem us_X5_advice {n b : Nat} {B : Int} {M : zM} {Q : Option zV → zM → Prop} (hn : n < 3) (hs : ICs M) (hb : ICb M) (ht : ICt B M) (h5 : b < (M 1 5).toNat) (h99 : (∀ (r : Option zV) (M' : zM), (r = some (zI (advN M n b)) ∧ offN M M') → Q r M')) : sp_X5_advice [zR 59, zI ((n : Int) + 1), zI b] M Q := ⟨n, b, B, rfl, hn, hs, hb, ht, h5, h99⟩
set_option maxRecDepth 20000 in
set_option maxHeartbeats 4000000 in
theorem m_X5_advice (l : Launch) : zC l yX5_advice wzX5_advice rmX5_advice sp_X5_advice := by
  refine zMet.of RX5 (by decide +kernel) rfl rfl ?_
  intro E X as M Qp hX S hsp
  obtain ⟨n, b, B, rfl, hn, hs, hb, ht, h5, hQ⟩ := hsp
  refine ⟨Nat.le_of_ble_eq_true rfl, ?_⟩
  dsimp only [zpad, zargs]
  have hb1 := hb.1
  have b5 : b < 5 := by omega
  have e1 : (n : Int) + 1 - 1 = n := by omega
  have en : (n : Int).toNat = n := Int.toNat_natCast n
  have ebb : (b : Int).toNat = b := Int.toNat_natCast b
  have e4 : 0 * 4 + n = n := by omega
  have e6 : ((4 : Int) + ((n : Int) + 1) - 1).toNat = 1 * 4 + n := by omega
  have hh0 : ∀ k, k < 8 → 0 ≤ nh (M 19) 0 k ∧ nh (M 19) 0 k ≤ 20 := fun k hk => by
    have := ht.2.2.1 k hk
    unfold nh
    rw [if_pos hk, Nat.zero_add]
    omega
  have hc0 : ∀ i, i < 8 → cap M (nh (M 19) 0) i ≤ 20 := fun i hi => (cap_le hh0 i hi).2
  have mr := mostR_r hb n (by omega)
  have bq := Bq_r n (by omega)
  have pr := powM_r hb n (by omega)
  refine zr_aload_n (pc := 0) S dX5_advice_0 rfl ?_
  refine zr_invV (pc := 1) S [] (m_X5_begin _) kX5_advice_43 dX5_advice_1 rfl (Nat.le_of_ble_eq_true rfl) rfl (Nat.le_of_ble_eq_true rfl) ⟨Nat.le_of_ble_eq_true rfl, Nat.le_of_ble_eq_true rfl⟩ (us_X5_begin hs hb ?_)
  dsimp only [zaft, Option.toList, List.cons_append, List.nil_append, Nat.add_zero]
  refine zr_aload_n (pc := 4) S dX5_advice_4 rfl ?_
  refine zr_iconst (pc := 5) S dX5_advice_5 (by unfold zrI; omega) ?_
  refine zr_iload_n (pc := 6) S dX5_advice_6 rfl ?_
  refine zr_iconst (pc := 7) S dX5_advice_7 (by unfold zrI; omega) ?_
  refine zr_isub (pc := 8) S dX5_advice_8 (by unfold zrI; omega) ?_
  rw [e1]
  refine zr_invV (pc := 9) S [zI _, zI _] (m_X5_look _ 3) kX5_advice_46 dX5_advice_9 rfl (Nat.le_of_ble_eq_true rfl) rfl (Nat.le_of_ble_eq_true rfl) ⟨Nat.le_of_ble_eq_true rfl, Nat.le_of_ble_eq_true rfl⟩ (us_X5_look (t := 0) (N := M) (by omega) (by omega) hs hb ag_beg beg_a (beg_h ht) ?_)
  dsimp only [zaft, Option.toList, List.cons_append, List.nil_append, Nat.add_zero]
  rintro r U ⟨rfl, hU1, hU2⟩
  dsimp only [zaft, Option.toList, List.nil_append]
  have hm := hU2 n (Nat.le_refl _)
  rw [beg_n, e4] at hm
  have agU := hU1.ag (ag_beg (M := M))
  have e2 : U 1 = M 1 := agU _ (by decide)
  have hU3 : ∀ k, k < 8 → U 60 (0 * 8 + k) = nh (M 19) 0 k := fun k hk => by
    rw [hU1.2.1 _ (by omega), ← beg_n M (M 1 5).toNat]
    unfold nh
    rw [if_pos hk]
  refine zr_aload_n (pc := 12) S dX5_advice_12 rfl ?_
  refine zr_getR (pc := 13) S fX5_advice_22 dX5_advice_13 rfl (Nat.le_of_ble_eq_true rfl) rfl ?_
  refine zr_iload_n (pc := 16) S dX5_advice_16 rfl ?_
  refine zr_iconst (pc := 17) S dX5_advice_17 (by unfold zrI; omega) ?_
  refine zr_isub (pc := 18) S dX5_advice_18 (by unfold zrI; omega) ?_
  rw [e1]
  refine zr_laload (pc := 19) S dX5_advice_19 rfl (Nat.le_of_ble_eq_true rfl) (by omega) (by omega) ?_
  rw [en, hm]
  refine zr_lstore_n (pc := 20) S 3 dX5_advice_20 rfl (by decide) ?_
  dsimp only [zst1, zst2, zset, zget, zlong]
  refine zr_aload_n (pc := 21) S dX5_advice_21 rfl ?_
  refine zr_iconst (pc := 22) S dX5_advice_22 (by unfold zrI; omega) ?_
  refine zr_invV (pc := 23) S [zI _] (m_X5_findChange _) kX5_advice_50 dX5_advice_23 rfl (Nat.le_of_ble_eq_true rfl) rfl (Nat.le_of_ble_eq_true rfl) ⟨Nat.le_of_ble_eq_true rfl, Nat.le_of_ble_eq_true rfl⟩ (us_X5_findChange (t := 0) (by decide) (agU.s hs) (agU.b hb) (fun j hj => by rw [e2] at hj; rw [hU1.1 _ (by decide) (by decide) (by decide) (by decide) (by decide), beg_a j hj, ag_abv agU]) (fun k hk => by rw [hU3 k hk]; exact hh0 k hk) ?_)
  dsimp only [zaft, Option.toList, List.cons_append, List.nil_append, Nat.add_zero]
  rintro r V ⟨rfl, hV1, hV2, hV3⟩
  dsimp only [zaft, Option.toList, List.nil_append]
  rw [e2, ag_cap agU, ag_val agU] at hV3
  have enh : nh (U 60) (0 * 8) = nh (M 19) 0 := by
    funext k
    by_cases hk : k < 8
    · rw [← hU3 k hk]
      unfold nh
      rw [if_pos hk]
    · unfold nh
      rw [if_neg hk, if_neg hk]
  rw [enh] at hV3
  have hr := hV3 b h5
  rw [ag_abv agU, show 0 * 5 + b = b by omega] at hr
  have oV : offN M V := fun k k1 k2 k3 k4 k5 k6 => by rw [hV1 k k1 k4]; exact lkO.off (beg_off M 8 (M 1 5).toNat) hU1 k k1 k2 k3 k4 k5 k6
  have agV : AG M V := fun k hk => oV k (by omega) (by omega) (by omega) (by omega) (by omega) (by omega)
  have hV4 : ∀ k, k < 8 → V 60 (0 * 8 + k) = nh (M 19) 0 k := fun k hk => by rw [hV1 _ (by decide) (by decide)]; exact hU3 k hk
  have hVa : ∀ j, j < (M 1 5).toNat → V 61 j = abv M j := fun j hj => by rw [hV1 _ (by decide) (by decide), hU1.1 _ (by decide) (by decide) (by decide) (by decide) (by decide), beg_a j hj]
  exact adv_k S hs hb ht h5 hn oV hV4 hVa hr hQ
end
