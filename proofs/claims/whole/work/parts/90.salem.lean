section
/-- the reference's scratch cells apart, the same memory -/
def offY (M N : zM) : Prop := ∀ k, (k < 186 ∨ 197 < k) → N k = M k
theorem offY.rf (M : zM) : offY M M := fun _ _ => rfl
theorem offY.tr {A B C : zM} (h : offY A B) (g : offY B C) : offY A C := fun k hk => (g k hk).trans (h k hk)
theorem offY.row {A B : zM} (h : offY A B) (c : Nat) (f : Nat → Int) : offY (zrow A c f) (zrow B c f) := fun k hk => by
  unfold zrow
  split
  · rfl
  · exact h k hk
theorem offY.scr {A B : zM} (h : offY A B) {c : Nat} (f : Nat → Int) (hc : 186 ≤ c ∧ c ≤ 197) : offY A (zrow B c f) := fun k hk => by
  rw [zrow_o (by omega)]; exact h k hk
theorem offY.ag {A B : zM} (h : offY A B) : AG (vm A) (vm B) := fun k hk => by
  show vw (B 181) B k = vw (A 181) A k
  have e : ∀ d, d < 36 → B d = A d := fun d hd => h d (by omega)
  rw [h 181 (by decide)]
  funext j
  unfold vw
  split <;> first | rfl | (rw [e _ (by omega)])
/-- the told row when n coins of a tube have been given -/
def gvT (t : Nat → Int) (u : Nat) : Nat → Nat → Int
  | 0 => t
  | n + 1 => rUp (rUp (rUp (rUp (gvT t u n) (405 + (gvT t u n 6).toNat) (gvT t u n (159 + 21 * u + (gvT t u n (159 + 21 * u)).toNat))) 6 (gvT t u n 6 + 1)) (159 + 21 * u) (gvT t u n (159 + 21 * u) - 1)) (343 + u) (gvT t u n (343 + u) - 1)
theorem gvT_o {t : Nat → Int} {u : Nat} (hu : u < 8) {i : Nat} (hi : i < 405 ∧ i ≠ 6 ∧ i ≠ 159 + 21 * u ∧ i ≠ 343 + u) : ∀ n, gvT t u n i = t i
  | 0 => rfl
  | n + 1 => by
    simp only [gvT]
    rw [rUp_o (by omega), rUp_o (by omega), rUp_o (by omega), rUp_o (by omega), gvT_o hu hi n]
theorem gvT_6 {t : Nat → Int} {u : Nat} (hu : u < 8) : ∀ n : Nat, gvT t u n 6 = t 6 + n
  | 0 => by simp [gvT]
  | n + 1 => by
    simp only [gvT]
    rw [rUp_o (by omega), rUp_o (by omega), rUp_e, gvT_6 hu n]
    omega
theorem gvT_h {t : Nat → Int} {u : Nat} (hu : u < 8) : ∀ n : Nat, gvT t u n (159 + 21 * u) = t (159 + 21 * u) - n
  | 0 => by simp [gvT]
  | n + 1 => by
    simp only [gvT]
    rw [rUp_o (by omega), rUp_e, gvT_h hu n]
    omega
theorem gvT_w {t : Nat → Int} {u : Nat} (hu : u < 8) : ∀ n : Nat, gvT t u n (343 + u) = t (343 + u) - n
  | 0 => by simp [gvT]
  | n + 1 => by
    simp only [gvT]
    rw [rUp_e, gvT_w hu n]
    omega
/-- the told row when the tubes below n have given their shares -/
def gaT (t : Nat → Int) (x : Nat → Nat) : Nat → Nat → Int
  | 0 => t
  | n + 1 => gvT (gaT t x n) n (x n)
theorem gaT_o {t : Nat → Int} {x : Nat → Nat} {i : Nat} (hi : i < 405 ∧ i ≠ 6) : ∀ n, n ≤ 8 → (∀ k, k < n → i ≠ 159 + 21 * k ∧ i ≠ 343 + k) → gaT t x n i = t i
  | 0, _, _ => rfl
  | n + 1, hn, h => by
    simp only [gaT]
    have := h n (by omega)
    rw [gvT_o (by omega) (by omega), gaT_o hi n (by omega) (fun k hk => h k (by omega))]
theorem gaT_6 {t : Nat → Int} {x : Nat → Nat} (hx : ∀ k, k < 8 → x k ≤ 20) : ∀ n : Nat, n ≤ 8 → t 6 ≤ gaT t x n 6 ∧ gaT t x n 6 ≤ t 6 + 20 * n
  | 0, _ => by simp [gaT]
  | n + 1, hn => by
    have a := gaT_6 (t := t) hx n (by omega)
    have b := hx n (by omega)
    simp only [gaT]
    rw [gvT_6 (by omega)]
    omega
theorem gaT_h {t : Nat → Int} {x : Nat → Nat} : ∀ n : Nat, n ≤ 8 → ∀ k, k < n → gaT t x n (159 + 21 * k) = t (159 + 21 * k) - x k
  | 0, _, k, hk => absurd hk (by omega)
  | n + 1, hn, k, hk => by
    simp only [gaT]
    by_cases e : k = n
    · subst e
      rw [gvT_h (by omega), gaT_o (by omega) k (by omega) (fun i hi => by omega)]
    · rw [gvT_o (by omega) (by omega), gaT_h n (by omega) k (by omega)]
/-- the told row when the first n coins of the slide have fallen -/
def slT (t : Nat → Int) : Nat → Nat → Int
  | 0 => t
  | n + 1 => if t (358 + 4 * n) = -1 then slT t n else dropT (slT t n) (t (357 + 4 * n)).toNat (t (358 + 4 * n)).toNat
theorem dropT_o {t : Nat → Int} {u s i : Nat} (hu : u < 8) (hs : s < 8) (h : 0 ≤ t (159 + 21 * u) ∧ t (159 + 21 * u) ≤ 20) (hi : i < 159 ∨ 334 < i) : dropT t u s i = t i := by
  unfold dropT
  split
  · rw [rUp_o (by omega)]
  · rw [rUp_o (by omega), rUp_o (by omega)]
theorem dropT_r {t : Nat → Int} {u s : Nat} {B : Int} (hu : u < 8) (hs : s < 8) (h : ∀ i, i < 8 → (0 ≤ t (159 + 21 * i) ∧ t (159 + 21 * i) ≤ 20) ∧ (0 ≤ t (327 + i) ∧ t (327 + i) ≤ B)) : ∀ i, i < 8 → (0 ≤ dropT t u s (159 + 21 * i) ∧ dropT t u s (159 + 21 * i) ≤ 20) ∧ (0 ≤ dropT t u s (327 + i) ∧ dropT t u s (327 + i) ≤ B + 1) := fun i hi => by
  have a := h i hi
  have b := h u hu
  have c := h s hs
  unfold dropT
  split
  · rw [rUp_o (by omega)]
    by_cases e : i = s
    · subst e; rw [rUp_e]; omega
    · rw [rUp_o (by omega)]; omega
  · rw [rUp_o (i := 327 + i) (by omega), rUp_o (i := 327 + i) (by omega), rUp_o (i := 159 + 21 * i) (by omega)]
    by_cases e : i = u
    · subst e; rw [rUp_e]; omega
    · rw [rUp_o (by omega)]; omega
theorem slT_r {t : Nat → Int} {B : Int} (ha : ∀ j, j < 12 → (0 ≤ t (357 + 4 * j) ∧ t (357 + 4 * j) < 8) ∧ (-1 ≤ t (358 + 4 * j) ∧ t (358 + 4 * j) < 8)) (h : ∀ i, i < 8 → (0 ≤ t (159 + 21 * i) ∧ t (159 + 21 * i) ≤ 20) ∧ (0 ≤ t (327 + i) ∧ t (327 + i) ≤ B)) : ∀ n : Nat, n ≤ 12 → (∀ i, i < 8 → (0 ≤ slT t n (159 + 21 * i) ∧ slT t n (159 + 21 * i) ≤ 20) ∧ (0 ≤ slT t n (327 + i) ∧ slT t n (327 + i) ≤ B + n)) ∧ ∀ i, i < 159 ∨ 334 < i → slT t n i = t i
  | 0, _ => ⟨fun i hi => by have := h i hi; simp only [slT]; omega, fun _ _ => rfl⟩
  | n + 1, hn => by
    obtain ⟨a, b⟩ := slT_r ha h n (by omega)
    have c := ha n (by omega)
    simp only [slT]
    split
    · exact ⟨fun i hi => by have := a i hi; omega, b⟩
    · have d := dropT_r (u := (t (357 + 4 * n)).toNat) (s := (t (358 + 4 * n)).toNat) (by omega) (by omega) a
      refine ⟨fun i hi => by have := d i hi; omega, fun i hi => ?_⟩
      rw [dropT_o (by omega) (by omega) (a _ (by omega)).1 hi, b i hi]
/-- the told row after a sale -/
def saleT (t : Nat → Int) (x : Nat → Nat) : Nat → Int := rUp (slT (gaT (rUp t 6 0) x 8) (t 3).toNat) 3 0
def rmX12_sale : Room := { frames := 7, cells := 0, slots := 0, locals := 161 }
abbrev wzX12_sale : List Cond := .code yX12_sale cX12_sale 6 (some .int) :: zW
def rmX12_lacks : Room := { frames := 6, cells := 0, slots := 0, locals := 136 }
abbrev wzX12_lacks : List Cond := .code yX12_lacks cX12_lacks 9 (some .int) :: zW
def rmX12_made : Room := { frames := 5, cells := 0, slots := 0, locals := 110 }
abbrev wzX12_made : List Cond := .code yX12_made cX12_made 4 (some .int) :: zW
theorem pX12_sale_80 : zfp wzX12_sale RX12 vwCl 80 12 3 := ⟨_, _, _, _, rfl, (fun w h => List.mem_cons_of_mem _ (zWuX12 w h)), by decide, List.mem_cons_of_mem _ (zWi_9 _ (List.mem_of_getElem? (i := 38) rfl)), tyX12_ok, nmX12, rfl, by decide +kernel⟩
theorem fX12_sale_9 : zfl wzX12_sale RX12 vwCl 9 12 0 := ⟨_, _, _, rfl, (fun w h => List.mem_cons_of_mem _ (zWuX12 w h)), by decide, List.mem_cons_of_mem _ (zWi_9 _ (List.mem_of_getElem? (i := 39) rfl))⟩
theorem fX12_sale_47 : zfl wzX12_sale RX12 vwCl 47 12 23 := ⟨_, _, _, rfl, (fun w h => List.mem_cons_of_mem _ (zWuX12 w h)), by decide, List.mem_cons_of_mem _ (zWi_9 _ (List.mem_of_getElem? (i := 27) rfl))⟩
theorem kX12_sale_290 : ∀ (s9 : State) (a9 : Array Value), (∀ w ∈ wzX12_sale, w.before a9 s9 = true) → CallW rmX12_sale s9 a9 RX12 RX12 290 yX12_isOffer cX12_isOffer 2 (some .boolean) wzX12_isOffer rmX12_isOffer 0 0 1 := zcV (zWi_23 _ (List.mem_of_getElem? (i := 1) rfl)) (zWi_14 _ (List.mem_of_getElem? (i := 29) rfl)) (zWi_27 _ (List.mem_of_getElem? (i := 20) rfl)) (zWi_12 _ (List.mem_of_getElem? (i := 13) rfl)) (zWi_3 _ (List.mem_of_getElem? (i := 10) rfl)) (by decide +kernel) rfl rfl ⟨Nat.le_of_ble_eq_true rfl, Nat.le_of_ble_eq_true rfl⟩
theorem kX12_sale_95 : ∀ (s9 : State) (a9 : Array Value), (∀ w ∈ wzX12_sale, w.before a9 s9 = true) → CallW rmX12_sale s9 a9 RX12 RX12 95 yX12_fails cX12_fails 2 (some .int) wzX12_fails rmX12_fails 0 0 1 := zcV (zWi_23 _ (List.mem_of_getElem? (i := 26) rfl)) (zWi_14 _ (List.mem_of_getElem? (i := 10) rfl)) (zWi_27 _ (List.mem_of_getElem? (i := 2) rfl)) (zWi_12 _ (List.mem_of_getElem? (i := 13) rfl)) (zWi_2 _ (List.mem_of_getElem? (i := 39) rfl)) (by decide +kernel) rfl rfl ⟨Nat.le_of_ble_eq_true rfl, Nat.le_of_ble_eq_true rfl⟩
theorem kX12_sale_315 : ∀ (s9 : State) (a9 : Array Value), (∀ w ∈ wzX12_sale, w.before a9 s9 = true) → CallW rmX12_sale s9 a9 RX12 RX12 315 yX12_creditOf cX12_creditOf 3 (some .int) wzX12_creditOf rmX12_creditOf 0 0 0 := zcV (zWi_23 _ (List.mem_of_getElem? (i := 8) rfl)) (zWi_14 _ (List.mem_of_getElem? (i := 4) rfl)) (zWi_26 _ (List.mem_of_getElem? (i := 46) rfl)) (zWi_12 _ (List.mem_of_getElem? (i := 13) rfl)) (zWi_2 _ (List.mem_of_getElem? (i := 33) rfl)) (by decide +kernel) rfl rfl ⟨Nat.le_of_ble_eq_true rfl, Nat.le_of_ble_eq_true rfl⟩
theorem kX12_sale_318 : ∀ (s9 : State) (a9 : Array Value), (∀ w ∈ wzX12_sale, w.before a9 s9 = true) → CallW rmX12_sale s9 a9 RX12 RX12 318 yX12_haveTubes cX12_haveTubes 2 none wzX12_haveTubes rmX12_haveTubes 0 0 0 := zcV (zWi_23 _ (List.mem_of_getElem? (i := 9) rfl)) (zWi_14 _ (List.mem_of_getElem? (i := 20) rfl)) (zWi_27 _ (List.mem_of_getElem? (i := 12) rfl)) (zWi_12 _ (List.mem_of_getElem? (i := 13) rfl)) (zWi_2 _ (List.mem_of_getElem? (i := 49) rfl)) (by decide +kernel) rfl rfl ⟨Nat.le_of_ble_eq_true rfl, Nat.le_of_ble_eq_true rfl⟩
theorem kX12_sale_321 : ∀ (s9 : State) (a9 : Array Value), (∀ w ∈ wzX12_sale, w.before a9 s9 = true) → CallW rmX12_sale s9 a9 RX12 RX12 321 yX12_changes cX12_changes 6 (some .int) wzX12_changes rmX12_changes 0 0 1 := zcV (zWi_23 _ (List.mem_of_getElem? (i := 10) rfl)) (zWi_13 _ (List.mem_of_getElem? (i := 49) rfl)) (zWi_26 _ (List.mem_of_getElem? (i := 41) rfl)) (zWi_12 _ (List.mem_of_getElem? (i := 13) rfl)) (zWi_2 _ (List.mem_of_getElem? (i := 28) rfl)) (by decide +kernel) rfl rfl ⟨Nat.le_of_ble_eq_true rfl, Nat.le_of_ble_eq_true rfl⟩
theorem kX12_sale_293 : ∀ (s9 : State) (a9 : Array Value), (∀ w ∈ wzX12_sale, w.before a9 s9 = true) → CallW rmX12_sale s9 a9 RX12 RX12 293 yX12_tubeAt cX12_tubeAt 2 (some .int) wzX12_tubeAt rmX12_tubeAt 0 0 1 := zcV (zWi_23 _ (List.mem_of_getElem? (i := 2) rfl)) (zWi_15 _ (List.mem_of_getElem? (i := 30) rfl)) (zWi_28 _ (List.mem_of_getElem? (i := 21) rfl)) (zWi_12 _ (List.mem_of_getElem? (i := 13) rfl)) (zWi_4 _ (List.mem_of_getElem? (i := 12) rfl)) (by decide +kernel) rfl rfl ⟨Nat.le_of_ble_eq_true rfl, Nat.le_of_ble_eq_true rfl⟩
theorem kX12_sale_324 : ∀ (s9 : State) (a9 : Array Value), (∀ w ∈ wzX12_sale, w.before a9 s9 = true) → CallW rmX12_sale s9 a9 RX12 RX12 324 yX12_gives cX12_gives 2 none wzX12_gives rmX12_gives 0 0 1 := zcV (zWi_23 _ (List.mem_of_getElem? (i := 11) rfl)) (zWi_14 _ (List.mem_of_getElem? (i := 17) rfl)) (zWi_27 _ (List.mem_of_getElem? (i := 9) rfl)) (zWi_12 _ (List.mem_of_getElem? (i := 13) rfl)) (zWi_2 _ (List.mem_of_getElem? (i := 46) rfl)) (by decide +kernel) rfl rfl ⟨Nat.le_of_ble_eq_true rfl, Nat.le_of_ble_eq_true rfl⟩
theorem kX12_sale_312 : ∀ (s9 : State) (a9 : Array Value), (∀ w ∈ wzX12_sale, w.before a9 s9 = true) → CallW rmX12_sale s9 a9 RX12 RX12 312 yX12_lies cX12_lies 3 (some .int) wzX12_lies rmX12_lies 0 0 2 := zcV (zWi_23 _ (List.mem_of_getElem? (i := 7) rfl)) (zWi_14 _ (List.mem_of_getElem? (i := 34) rfl)) (zWi_27 _ (List.mem_of_getElem? (i := 25) rfl)) (zWi_12 _ (List.mem_of_getElem? (i := 13) rfl)) (zWi_3 _ (List.mem_of_getElem? (i := 16) rfl)) (by decide +kernel) rfl rfl ⟨Nat.le_of_ble_eq_true rfl, Nat.le_of_ble_eq_true rfl⟩
theorem kX12_sale_298 : ∀ (s9 : State) (a9 : Array Value), (∀ w ∈ wzX12_sale, w.before a9 s9 = true) → CallW rmX12_sale s9 a9 RX12 RX12 298 yX12_drops cX12_drops 4 none wzX12_drops rmX12_drops 0 0 2 := zcV (zWi_23 _ (List.mem_of_getElem? (i := 3) rfl)) (zWi_14 _ (List.mem_of_getElem? (i := 5) rfl)) (zWi_26 _ (List.mem_of_getElem? (i := 47) rfl)) (zWi_12 _ (List.mem_of_getElem? (i := 13) rfl)) (zWi_2 _ (List.mem_of_getElem? (i := 34) rfl)) (by decide +kernel) rfl rfl ⟨Nat.le_of_ble_eq_true rfl, Nat.le_of_ble_eq_true rfl⟩
theorem pX12_lacks_80 : zfp wzX12_lacks RX12 vwCl 80 12 3 := ⟨_, _, _, _, rfl, (fun w h => List.mem_cons_of_mem _ (zWuX12 w h)), by decide, List.mem_cons_of_mem _ (zWi_9 _ (List.mem_of_getElem? (i := 38) rfl)), tyX12_ok, nmX12, rfl, by decide +kernel⟩
theorem fX12_lacks_41 : zfl wzX12_lacks RX12 vwCl 41 12 21 := ⟨_, _, _, rfl, (fun w h => List.mem_cons_of_mem _ (zWuX12 w h)), by decide, List.mem_cons_of_mem _ (zWi_9 _ (List.mem_of_getElem? (i := 25) rfl))⟩
theorem fX12_lacks_9 : zfl wzX12_lacks RX12 vwCl 9 12 0 := ⟨_, _, _, rfl, (fun w h => List.mem_cons_of_mem _ (zWuX12 w h)), by decide, List.mem_cons_of_mem _ (zWi_9 _ (List.mem_of_getElem? (i := 39) rfl))⟩
theorem kX12_lacks_290 : ∀ (s9 : State) (a9 : Array Value), (∀ w ∈ wzX12_lacks, w.before a9 s9 = true) → CallW rmX12_lacks s9 a9 RX12 RX12 290 yX12_isOffer cX12_isOffer 2 (some .boolean) wzX12_isOffer rmX12_isOffer 0 0 1 := zcV (zWi_23 _ (List.mem_of_getElem? (i := 1) rfl)) (zWi_14 _ (List.mem_of_getElem? (i := 29) rfl)) (zWi_27 _ (List.mem_of_getElem? (i := 20) rfl)) (zWi_12 _ (List.mem_of_getElem? (i := 13) rfl)) (zWi_3 _ (List.mem_of_getElem? (i := 10) rfl)) (by decide +kernel) rfl rfl ⟨Nat.le_of_ble_eq_true rfl, Nat.le_of_ble_eq_true rfl⟩
theorem kX12_lacks_95 : ∀ (s9 : State) (a9 : Array Value), (∀ w ∈ wzX12_lacks, w.before a9 s9 = true) → CallW rmX12_lacks s9 a9 RX12 RX12 95 yX12_fails cX12_fails 2 (some .int) wzX12_fails rmX12_fails 0 0 1 := zcV (zWi_23 _ (List.mem_of_getElem? (i := 26) rfl)) (zWi_14 _ (List.mem_of_getElem? (i := 10) rfl)) (zWi_27 _ (List.mem_of_getElem? (i := 2) rfl)) (zWi_12 _ (List.mem_of_getElem? (i := 13) rfl)) (zWi_2 _ (List.mem_of_getElem? (i := 39) rfl)) (by decide +kernel) rfl rfl ⟨Nat.le_of_ble_eq_true rfl, Nat.le_of_ble_eq_true rfl⟩
theorem kX12_lacks_83 : ∀ (s9 : State) (a9 : Array Value), (∀ w ∈ wzX12_lacks, w.before a9 s9 = true) → CallB rmX12_lacks s9 a9 RX12 83 yX12_within cX12_within 6 (some .boolean) wzX12_within rmX12_within 0 0 3 ∧ (Cond.static yX12_within).before a9 s9 = true := zcS (zWi_23 _ (List.mem_of_getElem? (i := 24) rfl)) (zWi_31 _ (List.mem_of_getElem? (i := 13) rfl)) (zWi_12 _ (List.mem_of_getElem? (i := 13) rfl)) (zWi_4 _ (List.mem_of_getElem? (i := 16) rfl)) (by decide +kernel) rfl rfl ⟨Nat.le_of_ble_eq_true rfl, Nat.le_of_ble_eq_true rfl⟩
theorem kX12_lacks_318 : ∀ (s9 : State) (a9 : Array Value), (∀ w ∈ wzX12_lacks, w.before a9 s9 = true) → CallW rmX12_lacks s9 a9 RX12 RX12 318 yX12_haveTubes cX12_haveTubes 2 none wzX12_haveTubes rmX12_haveTubes 0 0 0 := zcV (zWi_23 _ (List.mem_of_getElem? (i := 9) rfl)) (zWi_14 _ (List.mem_of_getElem? (i := 20) rfl)) (zWi_27 _ (List.mem_of_getElem? (i := 12) rfl)) (zWi_12 _ (List.mem_of_getElem? (i := 13) rfl)) (zWi_2 _ (List.mem_of_getElem? (i := 49) rfl)) (by decide +kernel) rfl rfl ⟨Nat.le_of_ble_eq_true rfl, Nat.le_of_ble_eq_true rfl⟩
theorem kX12_lacks_305 : ∀ (s9 : State) (a9 : Array Value), (∀ w ∈ wzX12_lacks, w.before a9 s9 = true) → CallW rmX12_lacks s9 a9 RX12 RX12 305 yX12_layChange cX12_layChange 7 none wzX12_layChange rmX12_layChange 0 0 1 := zcV (zWi_23 _ (List.mem_of_getElem? (i := 5) rfl)) (zWi_14 _ (List.mem_of_getElem? (i := 33) rfl)) (zWi_27 _ (List.mem_of_getElem? (i := 24) rfl)) (zWi_12 _ (List.mem_of_getElem? (i := 13) rfl)) (zWi_3 _ (List.mem_of_getElem? (i := 15) rfl)) (by decide +kernel) rfl rfl ⟨Nat.le_of_ble_eq_true rfl, Nat.le_of_ble_eq_true rfl⟩
theorem kX12_lacks_302 : ∀ (s9 : State) (a9 : Array Value), (∀ w ∈ wzX12_lacks, w.before a9 s9 = true) → CallW rmX12_lacks s9 a9 RX12 RX12 302 yX12_at cX12_at 3 (some .int) wzX12_at rmX12_at 0 0 2 := zcV (zWi_23 _ (List.mem_of_getElem? (i := 4) rfl)) (zWi_13 _ (List.mem_of_getElem? (i := 41) rfl)) (zWi_26 _ (List.mem_of_getElem? (i := 33) rfl)) (zWi_12 _ (List.mem_of_getElem? (i := 13) rfl)) (zWi_2 _ (List.mem_of_getElem? (i := 20) rfl)) (by decide +kernel) rfl rfl ⟨Nat.le_of_ble_eq_true rfl, Nat.le_of_ble_eq_true rfl⟩
theorem kX12_lacks_123 : zml_mmax wzX12_lacks RX12 123 := ⟨List.mem_cons_of_mem _ (zWi_22 _ (List.mem_of_getElem? (i := 20) rfl)), List.mem_cons_of_mem _ (zWi_30 _ (List.mem_of_getElem? (i := 2) rfl)), List.mem_cons_of_mem _ (zWi_12 _ (List.mem_of_getElem? (i := 0) rfl)), List.mem_cons_of_mem _ (zWi_0 _ (List.mem_of_getElem? (i := 27) rfl))⟩
theorem pX12_made_80 : zfp wzX12_made RX12 vwCl 80 12 3 := ⟨_, _, _, _, rfl, (fun w h => List.mem_cons_of_mem _ (zWuX12 w h)), by decide, List.mem_cons_of_mem _ (zWi_9 _ (List.mem_of_getElem? (i := 38) rfl)), tyX12_ok, nmX12, rfl, by decide +kernel⟩
theorem fX12_made_50 : zfl wzX12_made RX12 vwCl 50 12 24 := ⟨_, _, _, rfl, (fun w h => List.mem_cons_of_mem _ (zWuX12 w h)), by decide, List.mem_cons_of_mem _ (zWi_9 _ (List.mem_of_getElem? (i := 28) rfl))⟩
theorem fX12_made_9 : zfl wzX12_made RX12 vwCl 9 12 0 := ⟨_, _, _, rfl, (fun w h => List.mem_cons_of_mem _ (zWuX12 w h)), by decide, List.mem_cons_of_mem _ (zWi_9 _ (List.mem_of_getElem? (i := 39) rfl))⟩
theorem kX12_made_83 : ∀ (s9 : State) (a9 : Array Value), (∀ w ∈ wzX12_made, w.before a9 s9 = true) → CallB rmX12_made s9 a9 RX12 83 yX12_within cX12_within 6 (some .boolean) wzX12_within rmX12_within 0 0 3 ∧ (Cond.static yX12_within).before a9 s9 = true := zcS (zWi_23 _ (List.mem_of_getElem? (i := 24) rfl)) (zWi_31 _ (List.mem_of_getElem? (i := 13) rfl)) (zWi_12 _ (List.mem_of_getElem? (i := 13) rfl)) (zWi_4 _ (List.mem_of_getElem? (i := 16) rfl)) (by decide +kernel) rfl rfl ⟨Nat.le_of_ble_eq_true rfl, Nat.le_of_ble_eq_true rfl⟩
theorem kX12_made_95 : ∀ (s9 : State) (a9 : Array Value), (∀ w ∈ wzX12_made, w.before a9 s9 = true) → CallW rmX12_made s9 a9 RX12 RX12 95 yX12_fails cX12_fails 2 (some .int) wzX12_fails rmX12_fails 0 0 1 := zcV (zWi_23 _ (List.mem_of_getElem? (i := 26) rfl)) (zWi_14 _ (List.mem_of_getElem? (i := 10) rfl)) (zWi_27 _ (List.mem_of_getElem? (i := 2) rfl)) (zWi_12 _ (List.mem_of_getElem? (i := 13) rfl)) (zWi_2 _ (List.mem_of_getElem? (i := 39) rfl)) (by decide +kernel) rfl rfl ⟨Nat.le_of_ble_eq_true rfl, Nat.le_of_ble_eq_true rfl⟩
theorem kX12_made_264 : ∀ (s9 : State) (a9 : Array Value), (∀ w ∈ wzX12_made, w.before a9 s9 = true) → CallW rmX12_made s9 a9 RX12 RX12 264 yX12_valueOf cX12_valueOf 2 (some .int) wzX12_valueOf rmX12_valueOf 0 0 1 := zcV (zWi_22 _ (List.mem_of_getElem? (i := 45) rfl)) (zWi_15 _ (List.mem_of_getElem? (i := 31) rfl)) (zWi_28 _ (List.mem_of_getElem? (i := 22) rfl)) (zWi_12 _ (List.mem_of_getElem? (i := 13) rfl)) (zWi_4 _ (List.mem_of_getElem? (i := 13) rfl)) (by decide +kernel) rfl rfl ⟨Nat.le_of_ble_eq_true rfl, Nat.le_of_ble_eq_true rfl⟩
theorem sl3 {E : zE} {X : zX} {Qp : Option zV → zM → Prop} {N : zM} {t : Nat → Int} {u m : Nat} {g ab : Int} (S : zS (zg E) X cX12_sale 6 wzX12_sale RX12 (some .int)) (hu : u < 8) (hm : m ≤ 20) (hg : N 190 u = m) (h6 : 0 ≤ t 6 ∧ t 6 ≤ 140) (hh : (m : Int) ≤ t (159 + 21 * u) ∧ t (159 + 21 * u) ≤ 20) (hw : -1000000 ≤ t (343 + u) ∧ t (343 + u) ≤ 1000000)
    (k : ∀ u5, zK (zg E) rmX12_sale 6 (Qp, 0, 0) X (0, 0) 141 [some (zR 180), some (zI g), some (zI ab), some (zI u), some (zI m), u5] [] (zrow N 181 (gvT t u m))) : ∀ (r n : Nat) (u5 : Option zV), r + n = m → zK (zg E) rmX12_sale 6 (Qp, 0, 0) X (0, 0) 73 [some (zR 180), some (zI g), some (zI ab), some (zI u), some (zI n), u5] [] (zrow N 181 (gvT t u n)) := by
  have eg : ∀ n, zrow N 181 (gvT t u n) 190 u = m := fun n => by rw [zrow_o (by decide), hg]
  intro r
  induction r with
  | zero =>
    intro n u5 hn
    obtain rfl : n = m := by omega
    refine zr_iload (pc := 73) S dX12_sale_73 rfl ?_
    refine zr_aload_n (pc := 75) S dX12_sale_75 rfl ?_
    refine zr_getR (pc := 76) S fX12_sale_47 dX12_sale_76 rfl (Nat.le_of_ble_eq_true rfl) rfl ?_
    refine zr_iload_n (pc := 79) S dX12_sale_79 rfl ?_
    refine zr_iaload (pc := 80) S dX12_sale_80 rfl (Nat.le_of_ble_eq_true rfl) (by omega) (by omega) ?_
    rw [Int.toNat_natCast, eg]
    refine zr_icmp_ge (pc := 81) (tgt := 141) S dX12_sale_81 (by decide) (fun c81 => ?_) (fun c81 => absurd c81 (by omega))
    exact k _
  | succ r ih =>
    intro n u5 hn
    have l := ih (n + 1) (some (zI (159 + 21 * (u : Int)))) (by omega)
    rw [Int.natCast_add, Int.natCast_one] at l
    simp only [gvT] at l
    have a6 := gvT_6 (t := t) hu n
    have ah := gvT_h (t := t) hu n
    have aw := gvT_w (t := t) hu n
    have e0 : ((159 : Int) + 21 * (u : Int)).toNat = 159 + 21 * u := by omega
    have b0 : zrow N 181 (gvT t u n) 181 (159 + 21 * u) = gvT t u n (159 + 21 * u) := by rw [zrow_e]
    have i1 : ((159 : Int) + 21 * (u : Int) + gvT t u n (159 + 21 * u)).toNat = 159 + 21 * u + (gvT t u n (159 + 21 * u)).toNat := by omega
    have g6 : zrow N 181 (gvT t u n) 181 6 = gvT t u n 6 := by rw [zrow_e]
    have q5 : ((405 : Int) + gvT t u n 6).toNat = 405 + (gvT t u n 6).toNat := by omega
    have qw : ((343 : Int) + (u : Int)).toNat = 343 + u := by omega
    have em : ∀ v : Int, zup (zup (zrow N 181 (gvT t u n)) 181 (405 + (gvT t u n 6).toNat) v) 181 6 (gvT t u n 6 + 1) = zrow N 181 (rUp (rUp (gvT t u n) (405 + (gvT t u n 6).toNat) v) 6 (gvT t u n 6 + 1)) := fun v => by rw [zrow_up, zrow_up]
    have y : ∀ v : Int, rUp (rUp (gvT t u n) (405 + (gvT t u n 6).toNat) v) 6 (gvT t u n 6 + 1) (159 + 21 * u) = gvT t u n (159 + 21 * u) := fun v => by rw [rUp_o (by omega), rUp_o (by omega)]
    have yw : ∀ v w : Int, rUp (rUp (rUp (gvT t u n) (405 + (gvT t u n 6).toNat) v) 6 (gvT t u n 6 + 1)) (159 + 21 * u) w (343 + u) = gvT t u n (343 + u) := fun v w => by rw [rUp_o (by omega), rUp_o (by omega), rUp_o (by omega)]
    refine zr_iload (pc := 73) S dX12_sale_73 rfl ?_
    refine zr_aload_n (pc := 75) S dX12_sale_75 rfl ?_
    refine zr_getR (pc := 76) S fX12_sale_47 dX12_sale_76 rfl (Nat.le_of_ble_eq_true rfl) rfl ?_
    refine zr_iload_n (pc := 79) S dX12_sale_79 rfl ?_
    refine zr_iaload (pc := 80) S dX12_sale_80 rfl (Nat.le_of_ble_eq_true rfl) (by omega) (by omega) ?_
    rw [Int.toNat_natCast, eg]
    refine zr_icmp_ge (pc := 81) (tgt := 141) S dX12_sale_81 (by decide) (fun c81 => absurd c81 (by omega)) (fun c81 => ?_)
    refine zr_aload_n (pc := 84) S dX12_sale_84 rfl ?_
    refine zr_iload_n (pc := 85) S dX12_sale_85 rfl ?_
    refine zr_invV (pc := 86) S [zI _] (m_X12_tubeAt _) kX12_sale_293 dX12_sale_86 rfl (Nat.le_of_ble_eq_true rfl) rfl (Nat.le_of_ble_eq_true rfl) ⟨Nat.le_of_ble_eq_true rfl, Nat.le_of_ble_eq_true rfl⟩ (us_X12_tubeAt (by omega) (by omega) ?_)
    dsimp only [zaft, Option.toList, List.cons_append, List.nil_append, Nat.add_zero]
    refine zr_istore (pc := 89) S dX12_sale_89 (by decide) ?_
    dsimp only [zst1, zst2, zset, zget, zlong]
    refine zr_aload_n (pc := 91) S dX12_sale_91 rfl ?_
    refine zr_aload_n (pc := 92) S dX12_sale_92 rfl ?_
    refine zr_getR (pc := 93) S fX12_sale_9 dX12_sale_93 rfl (Nat.le_of_ble_eq_true rfl) rfl ?_
    refine zr_iload (pc := 96) S dX12_sale_96 rfl ?_
    refine zr_aload_n (pc := 98) S dX12_sale_98 rfl ?_
    refine zr_getR (pc := 99) S fX12_sale_9 dX12_sale_99 rfl (Nat.le_of_ble_eq_true rfl) rfl ?_
    refine zr_iload (pc := 102) S dX12_sale_102 rfl ?_
    refine zr_iaload (pc := 104) S dX12_sale_104 rfl (Nat.le_of_ble_eq_true rfl) (by omega) (by omega) ?_
    rw [e0, b0]
    refine zr_iadd (pc := 105) S dX12_sale_105 (by unfold zrI; omega) ?_
    refine zr_iaload (pc := 106) S dX12_sale_106 rfl (Nat.le_of_ble_eq_true rfl) (by omega) (by omega) ?_
    rw [i1, zrow_e]
    refine zr_invV (pc := 107) S [zI _] (m_X12_gives _) kX12_sale_324 dX12_sale_107 rfl (Nat.le_of_ble_eq_true rfl) rfl (Nat.le_of_ble_eq_true rfl) ⟨Nat.le_of_ble_eq_true rfl, Nat.le_of_ble_eq_true rfl⟩ (us_X12_gives (by rw [g6]; omega) ?_)
    dsimp only [zaft, Option.toList, List.cons_append, List.nil_append, Nat.add_zero]
    rw [g6, q5, em]
    refine zr_aload_n (pc := 110) S dX12_sale_110 rfl ?_
    refine zr_getR (pc := 111) S fX12_sale_9 dX12_sale_111 rfl (Nat.le_of_ble_eq_true rfl) rfl ?_
    refine zr_iload (pc := 114) S dX12_sale_114 rfl ?_
    refine zr_dup2 (pc := 116) S dX12_sale_116 rfl rfl ?_
    refine zr_iaload (pc := 117) S dX12_sale_117 rfl (Nat.le_of_ble_eq_true rfl) (by omega) (by omega) ?_
    rw [e0, zrow_e, y]
    refine zr_iconst (pc := 118) S dX12_sale_118 (by unfold zrI; omega) ?_
    refine zr_isub (pc := 119) S dX12_sale_119 (by unfold zrI; omega) ?_
    refine zr_iastore (pc := 120) S dX12_sale_120 rfl (Nat.le_of_ble_eq_true rfl) (by omega) (by omega) ?_
    rw [e0, zrow_up]
    refine zr_aload_n (pc := 121) S dX12_sale_121 rfl ?_
    refine zr_getR (pc := 122) S fX12_sale_9 dX12_sale_122 rfl (Nat.le_of_ble_eq_true rfl) rfl ?_
    try simp only [zup_k, zup_e, ne_eq, Nat.reduceEqDiff, not_false_eq_true, zup_j]
    refine zr_sipush (pc := 125) S dX12_sale_125 ⟨by unfold zrI; omega, by decide⟩ ?_
    refine zr_iload_n (pc := 128) S dX12_sale_128 rfl ?_
    refine zr_iadd (pc := 129) S dX12_sale_129 (by unfold zrI; omega) ?_
    refine zr_dup2 (pc := 130) S dX12_sale_130 rfl rfl ?_
    refine zr_iaload (pc := 131) S dX12_sale_131 rfl (Nat.le_of_ble_eq_true rfl) (by omega) (by omega) ?_
    try simp only [zup_k, zup_e, ne_eq, Nat.reduceEqDiff, not_false_eq_true]
    rw [qw, zrow_e, yw]
    refine zr_iconst (pc := 132) S dX12_sale_132 (by unfold zrI; omega) ?_
    refine zr_isub (pc := 133) S dX12_sale_133 (by unfold zrI; omega) ?_
    refine zr_iastore (pc := 134) S dX12_sale_134 rfl (Nat.le_of_ble_eq_true rfl) (by omega) (by omega) ?_
    rw [qw, zrow_up]
    refine zr_iinc (pc := 135) S dX12_sale_135 rfl (by unfold zrI; omega) (by decide) ?_
    dsimp only [zst1, zst2, zset, zget, zlong]
    refine zr_goto (pc := 138) (tgt := 73) S dX12_sale_138 (by decide) ?_
    exact l
theorem sl2 {E : zE} {X : zX} {Qp : Option zV → zM → Prop} {N : zM} {t : Nat → Int} {x : Nat → Nat} {g ab : Int} (S : zS (zg E) X cX12_sale 6 wzX12_sale RX12 (some .int)) (hg : ∀ u, u < 8 → N 190 u = x u) (hx : ∀ u, u < 8 → x u ≤ 20) (h6 : t 6 = 0) (hh : ∀ u, u < 8 → (x u : Int) ≤ t (159 + 21 * u) ∧ t (159 + 21 * u) ≤ 20) (hw : ∀ u, u < 8 → -1000000 ≤ t (343 + u) ∧ t (343 + u) ≤ 1000000)
    (k : ∀ u4 u5, zK (zg E) rmX12_sale 6 (Qp, 0, 0) X (0, 0) 147 [some (zR 180), some (zI g), some (zI ab), some (zI 8), u4, u5] [] (zrow N 181 (gaT t x 8))) : ∀ (r u : Nat) (u4 u5 : Option zV), r + u = 8 → zK (zg E) rmX12_sale 6 (Qp, 0, 0) X (0, 0) 64 [some (zR 180), some (zI g), some (zI ab), some (zI u), u4, u5] [] (zrow N 181 (gaT t x u)) := by
  intro r
  induction r with
  | zero =>
    intro u u4 u5 hu
    obtain rfl : u = 8 := by omega
    refine zr_iload_n (pc := 64) S dX12_sale_64 rfl ?_
    refine zr_bipush (pc := 65) S dX12_sale_65 ⟨by unfold zrI; omega, by decide⟩ ?_
    refine zr_icmp_ge (pc := 67) (tgt := 147) S dX12_sale_67 (by decide) (fun c67 => ?_) (fun c67 => absurd c67 (by omega))
    exact k _ _
  | succ r ih =>
    intro u u4 u5 hu
    have a6 := gaT_6 (t := t) hx u (by omega)
    have ah : gaT t x u (159 + 21 * u) = t (159 + 21 * u) := gaT_o (by omega) u (by omega) (fun k hk => by omega)
    have aw : gaT t x u (343 + u) = t (343 + u) := gaT_o (by omega) u (by omega) (fun k hk => by omega)
    have h1 := hh u (by omega)
    have h2 := hw u (by omega)
    have l := sl3 (E := E) (X := X) (Qp := Qp) (N := N) (t := gaT t x u) (u := u) (m := x u) (g := g) (ab := ab) S (by omega) (hx u (by omega)) (hg u (by omega)) (by omega) (by rw [ah]; exact h1) (by rw [aw]; exact h2) (fun u5 => by
      have kk := ih (u + 1) (some (zI (x u))) u5 (by omega)
      rw [Int.natCast_add, Int.natCast_one] at kk
      refine zr_iinc (pc := 141) S dX12_sale_141 rfl (by unfold zrI; omega) (by decide) ?_
      dsimp only [zst1, zst2, zset, zget, zlong]
      refine zr_goto (pc := 144) (tgt := 64) S dX12_sale_144 (by decide) ?_
      exact kk) (x u) 0 u5 (by omega)
    refine zr_iload_n (pc := 64) S dX12_sale_64 rfl ?_
    refine zr_bipush (pc := 65) S dX12_sale_65 ⟨by unfold zrI; omega, by decide⟩ ?_
    refine zr_icmp_ge (pc := 67) (tgt := 147) S dX12_sale_67 (by decide) (fun c67 => absurd c67 (by omega)) (fun c67 => ?_)
    refine zr_iconst (pc := 70) S dX12_sale_70 (by unfold zrI; omega) ?_
    refine zr_istore (pc := 71) S dX12_sale_71 (by decide) ?_
    dsimp only [zst1, zst2, zset, zget, zlong]
    exact l
theorem sl1 {E : zE} {X : zX} {Qp : Option zV → zM → Prop} {N : zM} {t : Nat → Int} {g ab : Int} {u4 u5 : Option zV} (S : zS (zg E) X cX12_sale 6 wzX12_sale RX12 (some .int)) (h3 : 0 ≤ t 3 ∧ t 3 ≤ 12) (ha : ∀ j, j < 12 → (0 ≤ t (357 + 4 * j) ∧ t (357 + 4 * j) < 8) ∧ (-1 ≤ t (358 + 4 * j) ∧ t (358 + 4 * j) < 8)) (h : ∀ i, i < 8 → (0 ≤ t (159 + 21 * i) ∧ t (159 + 21 * i) ≤ 20) ∧ (0 ≤ t (327 + i) ∧ t (327 + i) ≤ 999000))
    (hQ : Qp (some (zI (t 6))) (zrow N 181 (rUp (slT t (t 3).toNat) 3 0))) : ∀ (r i : Nat), (r : Int) + i = t 3 → zK (zg E) rmX12_sale 6 (Qp, 0, 0) X (0, 0) 149 [some (zR 180), some (zI g), some (zI ab), some (zI i), u4, u5] [] (zrow N 181 (slT t i)) := by
  intro r
  induction r with
  | zero =>
    intro i hi
    obtain rfl : i = (t 3).toNat := by omega
    have b := slT_r ha h (t 3).toNat (by omega)
    have e3 : zrow N 181 (slT t (t 3).toNat) 181 3 = t 3 := by rw [zrow_e, b.2 3 (by omega)]
    have e6 : rUp (slT t (t 3).toNat) 3 0 6 = t 6 := by rw [rUp_o (by decide), b.2 6 (by omega)]
    refine zr_iload_n (pc := 149) S dX12_sale_149 rfl ?_
    refine zr_aload_n (pc := 150) S dX12_sale_150 rfl ?_
    refine zr_getR (pc := 151) S fX12_sale_9 dX12_sale_151 rfl (Nat.le_of_ble_eq_true rfl) rfl ?_
    refine zr_iconst (pc := 154) S dX12_sale_154 (by unfold zrI; omega) ?_
    refine zr_iaload (pc := 155) S dX12_sale_155 rfl (Nat.le_of_ble_eq_true rfl) (by omega) (by omega) ?_
    dsimp only [Int.reduceToNat]
    rw [e3]
    refine zr_icmp_ge (pc := 156) (tgt := 191) S dX12_sale_156 (by decide) (fun c156 => ?_) (fun c156 => absurd c156 (by omega))
    refine zr_aload_n (pc := 191) S dX12_sale_191 rfl ?_
    refine zr_getR (pc := 192) S fX12_sale_9 dX12_sale_192 rfl (Nat.le_of_ble_eq_true rfl) rfl ?_
    refine zr_iconst (pc := 195) S dX12_sale_195 (by unfold zrI; omega) ?_
    refine zr_iconst (pc := 196) S dX12_sale_196 (by unfold zrI; omega) ?_
    refine zr_iastore (pc := 197) S dX12_sale_197 rfl (Nat.le_of_ble_eq_true rfl) (by omega) (by omega) ?_
    rw [show Int.toNat 3 = 3 from rfl, zrow_up]
    refine zr_aload_n (pc := 198) S dX12_sale_198 rfl ?_
    refine zr_getR (pc := 199) S fX12_sale_9 dX12_sale_199 rfl (Nat.le_of_ble_eq_true rfl) rfl ?_
    try simp only [zup_k, zup_e, ne_eq, Nat.reduceEqDiff, not_false_eq_true, zup_j]
    refine zr_bipush (pc := 202) S dX12_sale_202 ⟨by unfold zrI; omega, by decide⟩ ?_
    refine zr_iaload (pc := 204) S dX12_sale_204 rfl (Nat.le_of_ble_eq_true rfl) (by omega) (by omega) ?_
    dsimp only [Int.reduceToNat]
    try simp only [zup_k, zup_e, ne_eq, Nat.reduceEqDiff, not_false_eq_true]
    rw [zrow_e, e6]
    exact zr_iret (pc := 205) S dX12_sale_205 rfl ⟨Nat.le_refl _, Nat.le_refl _⟩ (hQ)
  | succ r ih =>
    intro i hi
    have b := slT_r ha h i (by omega)
    have c := ha i (by omega)
    have e3 : zrow N 181 (slT t i) 181 3 = t 3 := by rw [zrow_e, b.2 3 (by omega)]
    have q1 : ((357 : Int) + 4 * (i : Int) + 1).toNat = 358 + 4 * i := by omega
    have q0 : ((357 : Int) + 4 * (i : Int) + 0).toNat = 357 + 4 * i := by omega
    have x1 : zrow N 181 (slT t i) 181 (358 + 4 * i) = t (358 + 4 * i) := by rw [zrow_e, b.2 _ (by omega)]
    have x0 : zrow N 181 (slT t i) 181 (357 + 4 * i) = t (357 + 4 * i) := by rw [zrow_e, b.2 _ (by omega)]
    have l := ih (i + 1) (by omega)
    rw [Int.natCast_add, Int.natCast_one] at l
    simp only [slT] at l
    by_cases hc : t (358 + 4 * i) = -1
    · rw [if_pos hc] at l
      refine zr_iload_n (pc := 149) S dX12_sale_149 rfl ?_
      refine zr_aload_n (pc := 150) S dX12_sale_150 rfl ?_
      refine zr_getR (pc := 151) S fX12_sale_9 dX12_sale_151 rfl (Nat.le_of_ble_eq_true rfl) rfl ?_
      refine zr_iconst (pc := 154) S dX12_sale_154 (by unfold zrI; omega) ?_
      refine zr_iaload (pc := 155) S dX12_sale_155 rfl (Nat.le_of_ble_eq_true rfl) (by omega) (by omega) ?_
      dsimp only [Int.reduceToNat]
      rw [e3]
      refine zr_icmp_ge (pc := 156) (tgt := 191) S dX12_sale_156 (by decide) (fun c156 => absurd c156 (by omega)) (fun c156 => ?_)
      refine zr_aload_n (pc := 159) S dX12_sale_159 rfl ?_
      refine zr_iload_n (pc := 160) S dX12_sale_160 rfl ?_
      refine zr_iconst (pc := 161) S dX12_sale_161 (by unfold zrI; omega) ?_
      refine zr_invV (pc := 162) S [zI _, zI _] (m_X12_lies _) kX12_sale_312 dX12_sale_162 rfl (Nat.le_of_ble_eq_true rfl) rfl (Nat.le_of_ble_eq_true rfl) ⟨Nat.le_of_ble_eq_true rfl, Nat.le_of_ble_eq_true rfl⟩ (us_X12_lies (by omega) (by omega) (by omega) (by omega) ?_)
      dsimp only [zaft, Option.toList, List.cons_append, List.nil_append, Nat.add_zero]
      rw [q1, x1]
      refine zr_iconst (pc := 165) S dX12_sale_165 (by unfold zrI; omega) ?_
      refine zr_icmp_eq (pc := 166) (tgt := 185) S dX12_sale_166 (by decide) (fun c166 => ?_) (fun c166 => absurd c166 (by omega))
      refine zr_iinc (pc := 185) S dX12_sale_185 rfl (by unfold zrI; omega) (by decide) ?_
      dsimp only [zst1, zst2, zset, zget, zlong]
      refine zr_goto (pc := 188) (tgt := 149) S dX12_sale_188 (by decide) ?_
      exact l
    · rw [if_neg hc] at l
      have z1 : t (358 + 4 * i) = ((t (358 + 4 * i)).toNat : Int) := by omega
      have z0 : t (357 + 4 * i) = ((t (357 + 4 * i)).toNat : Int) := by omega
      have d1 := b.1 (t (357 + 4 * i)).toNat (by omega)
      have d2 := b.1 (t (358 + 4 * i)).toNat (by omega)
      refine zr_iload_n (pc := 149) S dX12_sale_149 rfl ?_
      refine zr_aload_n (pc := 150) S dX12_sale_150 rfl ?_
      refine zr_getR (pc := 151) S fX12_sale_9 dX12_sale_151 rfl (Nat.le_of_ble_eq_true rfl) rfl ?_
      refine zr_iconst (pc := 154) S dX12_sale_154 (by unfold zrI; omega) ?_
      refine zr_iaload (pc := 155) S dX12_sale_155 rfl (Nat.le_of_ble_eq_true rfl) (by omega) (by omega) ?_
      dsimp only [Int.reduceToNat]
      rw [e3]
      refine zr_icmp_ge (pc := 156) (tgt := 191) S dX12_sale_156 (by decide) (fun c156 => absurd c156 (by omega)) (fun c156 => ?_)
      refine zr_aload_n (pc := 159) S dX12_sale_159 rfl ?_
      refine zr_iload_n (pc := 160) S dX12_sale_160 rfl ?_
      refine zr_iconst (pc := 161) S dX12_sale_161 (by unfold zrI; omega) ?_
      refine zr_invV (pc := 162) S [zI _, zI _] (m_X12_lies _) kX12_sale_312 dX12_sale_162 rfl (Nat.le_of_ble_eq_true rfl) rfl (Nat.le_of_ble_eq_true rfl) ⟨Nat.le_of_ble_eq_true rfl, Nat.le_of_ble_eq_true rfl⟩ (us_X12_lies (by omega) (by omega) (by omega) (by omega) ?_)
      dsimp only [zaft, Option.toList, List.cons_append, List.nil_append, Nat.add_zero]
      rw [q1, x1]
      refine zr_iconst (pc := 165) S dX12_sale_165 (by unfold zrI; omega) ?_
      refine zr_icmp_eq (pc := 166) (tgt := 185) S dX12_sale_166 (by decide) (fun c166 => absurd c166 (by omega)) (fun c166 => ?_)
      refine zr_aload_n (pc := 169) S dX12_sale_169 rfl ?_
      refine zr_aload_n (pc := 170) S dX12_sale_170 rfl ?_
      refine zr_iload_n (pc := 171) S dX12_sale_171 rfl ?_
      refine zr_iconst (pc := 172) S dX12_sale_172 (by unfold zrI; omega) ?_
      refine zr_invV (pc := 173) S [zI _, zI _] (m_X12_lies _) kX12_sale_312 dX12_sale_173 rfl (Nat.le_of_ble_eq_true rfl) rfl (Nat.le_of_ble_eq_true rfl) ⟨Nat.le_of_ble_eq_true rfl, Nat.le_of_ble_eq_true rfl⟩ (us_X12_lies (by omega) (by omega) (by omega) (by omega) ?_)
      dsimp only [zaft, Option.toList, List.cons_append, List.nil_append, Nat.add_zero]
      rw [q0, x0]
      refine zr_aload_n (pc := 176) S dX12_sale_176 rfl ?_
      refine zr_iload_n (pc := 177) S dX12_sale_177 rfl ?_
      refine zr_iconst (pc := 178) S dX12_sale_178 (by unfold zrI; omega) ?_
      refine zr_invV (pc := 179) S [zI _, zI _] (m_X12_lies _) kX12_sale_312 dX12_sale_179 rfl (Nat.le_of_ble_eq_true rfl) rfl (Nat.le_of_ble_eq_true rfl) ⟨Nat.le_of_ble_eq_true rfl, Nat.le_of_ble_eq_true rfl⟩ (us_X12_lies (by omega) (by omega) (by omega) (by omega) ?_)
      dsimp only [zaft, Option.toList, List.cons_append, List.nil_append, Nat.add_zero]
      rw [q1, x1, z0, z1]
      refine zr_invV (pc := 182) S [zI _, zI _] (m_X12_drops _) kX12_sale_298 dX12_sale_182 rfl (Nat.le_of_ble_eq_true rfl) rfl (Nat.le_of_ble_eq_true rfl) ⟨Nat.le_of_ble_eq_true rfl, Nat.le_of_ble_eq_true rfl⟩ (us_X12_drops (u := (t (357 + 4 * i)).toNat) (s := (t (358 + 4 * i)).toNat) (by omega) (by omega) (by rw [zrow_e]; exact d1.1) (by rw [zrow_e]; have := d2.2; omega) ?_)
      dsimp only [zaft, Option.toList, List.cons_append, List.nil_append, Nat.add_zero]
      rw [zrow_e, zrow_r]
      refine zr_iinc (pc := 185) S dX12_sale_185 rfl (by unfold zrI; omega) (by decide) ?_
      dsimp only [zst1, zst2, zset, zget, zlong]
      refine zr_goto (pc := 188) (tgt := 149) S dX12_sale_188 (by decide) ?_
      exact l
end
