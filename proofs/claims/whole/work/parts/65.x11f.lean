section
/-- whether a sum can be given -/
noncomputable def hasC (c v : Nat → Nat) (s : Nat) : Int := @ite Int (∃ x, FV c v 8 x s) (Classical.propDecidable _) 1 0
theorem hasC_1 {c v : Nat → Nat} {s : Nat} (h : ∃ x, FV c v 8 x s) : hasC c v s = 1 := by unfold hasC; rw [if_pos h]
theorem hasC_0 {c v : Nat → Nat} {s : Nat} (h : ¬ ∃ x, FV c v 8 x s) : hasC c v s = 0 := by unfold hasC; rw [if_neg h]
theorem FV_c {c c' v x : Nat → Nat} {s : Nat} (h : ∀ i, i < 8 → c i = c' i) : FV c v 8 x s ↔ FV c' v 8 x s := by
  unfold FV
  exact ⟨fun z => ⟨fun i hi => by rw [← h i hi]; exact z.1 i hi, z.2⟩, fun z => ⟨fun i hi => by rw [h i hi]; exact z.1 i hi, z.2⟩⟩
theorem lsL_cc {f : Nat → Int} {c c' v : Nat → Nat} {top : Nat} (h : ∀ i, i < 8 → c i = c' i) (hl : lsL f c v 8 top) : lsL f c' v 8 top := fun s hs => by
  obtain ⟨a, b, d⟩ := hl s hs
  exact ⟨a, fun x hx => b x ((FV_c h).mpr hx), d.imp (fun z => z) (fun ⟨x, hx, e⟩ => ⟨x, (FV_c h).mp hx, e⟩)⟩
theorem hasP_c {M : zM} {c v : Nat → Nat} {top s : Nat} (hl : lsL (M 54) c v 8 top) (hc : ∀ i, i < 8 → c i ≤ 20) (hs : s ≤ top) : hasP M s = hasC c v s := by
  obtain ⟨a, b, d⟩ := hl s hs
  unfold hasP
  by_cases h : ∃ x, FV c v 8 x s
  · rw [hasC_1 h]
    obtain ⟨x, hx⟩ := h
    have w := wV_r (x := x) (fun i hi => Nat.le_trans (hx.1 i hi) (hc i hi))
    have := b x hx
    exact b01_t (by omega)
  · rw [hasC_0 h]
    rcases d with d | ⟨x, hx, -⟩
    · exact b01_f (by omega)
    · exact absurd ⟨x, hx⟩ h
theorem lkN_c {p q : Nat → Int} : ∀ n, (∀ i, i < n → p i = q i) → lkN p n = lkN q n
  | 0, _ => rfl
  | n + 1, h => by simp only [lkN]; rw [lkN_c n (fun i hi => h i (by omega)), h n (by omega)]
theorem lkF_c {p q : Nat → Int} : ∀ n, (∀ i, i < n → p i = q i) → lkF p n = lkF q n
  | 0, _ => rfl
  | n + 1, h => by simp only [lkF]; rw [lkF_c n (fun i hi => h i (by omega)), h n (by omega)]
theorem lkR_c {p q : Nat → Int} : ∀ n, (∀ i, i < n → p i = q i) → lkR p n = lkR q n
  | 0, _ => rfl
  | n + 1, h => by simp only [lkR]; rw [lkR_c n (fun i hi => h i (by omega)), h n (by omega)]
abbrev capT (M : zM) : Nat → Nat := cap M (nh (M 19) 0)
theorem capT_r {B : Int} {M : zM} (ht : ICt B M) : ∀ i, i < 8 → capT M i ≤ 20 ∧ (capT M i : Int) ≤ M 19 i := fun i hi => by
  have a := ht.2.2.1 i hi
  unfold capT cap nh
  rw [if_pos hi, Nat.zero_add]
  split <;> omega
theorem capT_e {M : zM} : ∀ i, i < 8 → cap M (fun k => M 19 (0 + k)) i = capT M i := fun i hi => by
  unfold capT cap nh
  rw [if_pos hi]
noncomputable def lackA (M : zM) (g w : Int) : Int := if w = 0 then lkN (hasC (capT M) (val M)) 201 else if w = 2 then (lkR (hasC (capT M) (val M)) 201).1 else if lkF (hasC (capT M) (val M)) 201 = -1 then -1 else M 29 g.toNat + lkF (hasC (capT M) (val M)) 201
theorem lkF_r (p : Nat → Int) : ∀ n, -1 ≤ lkF p n ∧ lkF p n < max 1 n
  | 0 => by simp [lkF]
  | n + 1 => by
    have := lkF_r p n
    simp only [lkF]
    split
    · split <;> omega
    · omega
def rmX11_lacks : Room := { frames := 8, cells := 2, slots := 12, locals := 131 }
abbrev wzX11_lacks : List Cond := .code yX11_lacks cX11_lacks 4 (some .int) :: zW
def rmX11_sale : Room := { frames := 8, cells := 1, slots := 6, locals := 131 }
abbrev wzX11_sale : List Cond := .code yX11_sale cX11_sale 4 (some .int) :: zW
theorem fX11_lacks_59 : zfl wzX11_lacks RX11 vwCl 59 11 6 := ⟨_, _, _, rfl, (fun w h => List.mem_cons_of_mem _ (zWuX11 w h)), by decide, List.mem_cons_of_mem _ (zWi_9 _ (List.mem_of_getElem? (i := 1) rfl))⟩
theorem fX11_lacks_10 : zfl wzX11_lacks RX11 vwCl 10 11 0 := ⟨_, _, _, rfl, (fun w h => List.mem_cons_of_mem _ (zWuX11 w h)), by decide, List.mem_cons_of_mem _ (zWi_8 _ (List.mem_of_getElem? (i := 6) rfl))⟩
theorem fX11_lacks_255 : zfl wzX11_lacks RX11 vwCl 255 8 2 := ⟨_, _, _, rfl, (fun w h => List.mem_cons_of_mem _ (zWuX8 w h)), by decide, List.mem_cons_of_mem _ (zWi_8 _ (List.mem_of_getElem? (i := 27) rfl))⟩
theorem fX11_lacks_268 : zfl wzX11_lacks RX11 vwCl 268 9 1 := ⟨_, _, _, rfl, (fun w h => List.mem_cons_of_mem _ (zWuX9 w h)), by decide, List.mem_cons_of_mem _ (zWi_8 _ (List.mem_of_getElem? (i := 29) rfl))⟩
theorem fX11_lacks_252 : zfl wzX11_lacks RX11 vwCl 252 8 4 := ⟨_, _, _, rfl, (fun w h => List.mem_cons_of_mem _ (zWuX8 w h)), by decide, List.mem_cons_of_mem _ (zWi_8 _ (List.mem_of_getElem? (i := 26) rfl))⟩
theorem kX11_lacks_249 : ∀ (s9 : State) (a9 : Array Value), (∀ w ∈ wzX11_lacks, w.before a9 s9 = true) → CallW rmX11_lacks s9 a9 RX11 RX11 249 yX11_needGood cX11_needGood 2 none wzX11_needGood rmX11_needGood 1 6 1 := zcV (zWi_21 _ (List.mem_of_getElem? (i := 22) rfl)) (zWi_13 _ (List.mem_of_getElem? (i := 16) rfl)) (zWi_26 _ (List.mem_of_getElem? (i := 8) rfl)) (zWi_12 _ (List.mem_of_getElem? (i := 12) rfl)) (zWi_1 _ (List.mem_of_getElem? (i := 42) rfl)) (by decide +kernel) rfl rfl ⟨Nat.le_of_ble_eq_true rfl, Nat.le_of_ble_eq_true rfl⟩
theorem kX11_lacks_93 : ∀ (s9 : State) (a9 : Array Value), (∀ w ∈ wzX11_lacks, w.before a9 s9 = true) → CallB rmX11_lacks s9 a9 RX11 93 yX11_within cX11_within 6 (some .boolean) wzX11_within rmX11_within 0 0 3 ∧ (Cond.static yX11_within).before a9 s9 = true := zcS (zWi_22 _ (List.mem_of_getElem? (i := 14) rfl)) (zWi_31 _ (List.mem_of_getElem? (i := 9) rfl)) (zWi_12 _ (List.mem_of_getElem? (i := 12) rfl)) (zWi_2 _ (List.mem_of_getElem? (i := 17) rfl)) (by decide +kernel) rfl rfl ⟨Nat.le_of_ble_eq_true rfl, Nat.le_of_ble_eq_true rfl⟩
theorem kX11_lacks_97 : ∀ (s9 : State) (a9 : Array Value), (∀ w ∈ wzX11_lacks, w.before a9 s9 = true) → CallB rmX11_lacks s9 a9 RX11 97 yX11_need cX11_need 1 none wzX11_need rmX11_need 1 6 1 ∧ (Cond.static yX11_need).before a9 s9 = true := zcS (zWi_22 _ (List.mem_of_getElem? (i := 15) rfl)) (zWi_31 _ (List.mem_of_getElem? (i := 6) rfl)) (zWi_12 _ (List.mem_of_getElem? (i := 12) rfl)) (zWi_1 _ (List.mem_of_getElem? (i := 40) rfl)) (by decide +kernel) rfl rfl ⟨Nat.le_of_ble_eq_true rfl, Nat.le_of_ble_eq_true rfl⟩
theorem kX11_lacks_292 : ∀ (s9 : State) (a9 : Array Value), (∀ w ∈ wzX11_lacks, w.before a9 s9 = true) → CallW rmX11_lacks s9 a9 RX11 RX0 292 yX0_spread cX0_spread 7 none wzX0_spread rmX0_spread 0 0 3 := zcV (zWi_21 _ (List.mem_of_getElem? (i := 28) rfl)) (zWi_12 _ (List.mem_of_getElem? (i := 35) rfl)) (zWi_25 _ (List.mem_of_getElem? (i := 21) rfl)) (zWi_12 _ (List.mem_of_getElem? (i := 9) rfl)) (zWi_1 _ (List.mem_of_getElem? (i := 9) rfl)) (by decide +kernel) rfl rfl ⟨Nat.le_of_ble_eq_true rfl, Nat.le_of_ble_eq_true rfl⟩
theorem kX11_lacks_328 : ∀ (s9 : State) (a9 : Array Value), (∀ w ∈ wzX11_lacks, w.before a9 s9 = true) → CallW rmX11_lacks s9 a9 RX11 RX0 328 yX0_lackMany cX0_lackMany 4 (some .int) wzX0_lackMany rmX0_lackMany 0 0 1 := zcV (zWi_21 _ (List.mem_of_getElem? (i := 37) rfl)) (zWi_12 _ (List.mem_of_getElem? (i := 31) rfl)) (zWi_25 _ (List.mem_of_getElem? (i := 17) rfl)) (zWi_12 _ (List.mem_of_getElem? (i := 9) rfl)) (zWi_1 _ (List.mem_of_getElem? (i := 4) rfl)) (by decide +kernel) rfl rfl ⟨Nat.le_of_ble_eq_true rfl, Nat.le_of_ble_eq_true rfl⟩
theorem kX11_lacks_331 : ∀ (s9 : State) (a9 : Array Value), (∀ w ∈ wzX11_lacks, w.before a9 s9 = true) → CallW rmX11_lacks s9 a9 RX11 RX0 331 yX0_lackRow cX0_lackRow 5 (some .int) wzX0_lackRow rmX0_lackRow 0 0 1 := zcV (zWi_21 _ (List.mem_of_getElem? (i := 38) rfl)) (zWi_12 _ (List.mem_of_getElem? (i := 32) rfl)) (zWi_25 _ (List.mem_of_getElem? (i := 18) rfl)) (zWi_12 _ (List.mem_of_getElem? (i := 9) rfl)) (zWi_1 _ (List.mem_of_getElem? (i := 5) rfl)) (by decide +kernel) rfl rfl ⟨Nat.le_of_ble_eq_true rfl, Nat.le_of_ble_eq_true rfl⟩
theorem kX11_lacks_334 : ∀ (s9 : State) (a9 : Array Value), (∀ w ∈ wzX11_lacks, w.before a9 s9 = true) → CallW rmX11_lacks s9 a9 RX11 RX0 334 yX0_lackLeast cX0_lackLeast 3 (some .int) wzX0_lackLeast rmX0_lackLeast 0 0 1 := zcV (zWi_21 _ (List.mem_of_getElem? (i := 39) rfl)) (zWi_12 _ (List.mem_of_getElem? (i := 30) rfl)) (zWi_25 _ (List.mem_of_getElem? (i := 16) rfl)) (zWi_12 _ (List.mem_of_getElem? (i := 9) rfl)) (zWi_1 _ (List.mem_of_getElem? (i := 3) rfl)) (by decide +kernel) rfl rfl ⟨Nat.le_of_ble_eq_true rfl, Nat.le_of_ble_eq_true rfl⟩
theorem fX11_sale_10 : zfl wzX11_sale RX11 vwCl 10 11 0 := ⟨_, _, _, rfl, (fun w h => List.mem_cons_of_mem _ (zWuX11 w h)), by decide, List.mem_cons_of_mem _ (zWi_8 _ (List.mem_of_getElem? (i := 6) rfl))⟩
theorem fX11_sale_255 : zfl wzX11_sale RX11 vwCl 255 8 2 := ⟨_, _, _, rfl, (fun w h => List.mem_cons_of_mem _ (zWuX8 w h)), by decide, List.mem_cons_of_mem _ (zWi_8 _ (List.mem_of_getElem? (i := 27) rfl))⟩
theorem fX11_sale_252 : zfl wzX11_sale RX11 vwCl 252 8 4 := ⟨_, _, _, rfl, (fun w h => List.mem_cons_of_mem _ (zWuX8 w h)), by decide, List.mem_cons_of_mem _ (zWi_8 _ (List.mem_of_getElem? (i := 26) rfl))⟩
theorem fX11_sale_59 : zfl wzX11_sale RX11 vwCl 59 11 6 := ⟨_, _, _, rfl, (fun w h => List.mem_cons_of_mem _ (zWuX11 w h)), by decide, List.mem_cons_of_mem _ (zWi_9 _ (List.mem_of_getElem? (i := 1) rfl))⟩
theorem fX11_sale_268 : zfl wzX11_sale RX11 vwCl 268 9 1 := ⟨_, _, _, rfl, (fun w h => List.mem_cons_of_mem _ (zWuX9 w h)), by decide, List.mem_cons_of_mem _ (zWi_8 _ (List.mem_of_getElem? (i := 29) rfl))⟩
theorem pX11_sale_299 : zfp wzX11_sale RX11 vwCl 299 9 11 := ⟨_, _, _, _, rfl, (fun w h => List.mem_cons_of_mem _ (zWuX9 w h)), by decide, List.mem_cons_of_mem _ (zWi_8 _ (List.mem_of_getElem? (i := 33) rfl)), tyX9_ok, nmX9, rfl, by decide +kernel⟩
theorem fX11_sale_39 : zfl wzX11_sale RX11 vwCl 39 8 0 := ⟨_, _, _, rfl, (fun w h => List.mem_cons_of_mem _ (zWuX8 w h)), by decide, List.mem_cons_of_mem _ (zWi_8 _ (List.mem_of_getElem? (i := 43) rfl))⟩
theorem fX11_sale_302 : zfl wzX11_sale RX11 vwCl 302 7 0 := ⟨_, _, _, rfl, (fun w h => List.mem_cons_of_mem _ (zWuX7 w h)), by decide, List.mem_cons_of_mem _ (zWi_8 _ (List.mem_of_getElem? (i := 34) rfl))⟩
theorem fX11_sale_299 : zfl wzX11_sale RX11 vwCl 299 9 11 := ⟨_, _, _, rfl, (fun w h => List.mem_cons_of_mem _ (zWuX9 w h)), by decide, List.mem_cons_of_mem _ (zWi_8 _ (List.mem_of_getElem? (i := 33) rfl))⟩
theorem kX11_sale_249 : ∀ (s9 : State) (a9 : Array Value), (∀ w ∈ wzX11_sale, w.before a9 s9 = true) → CallW rmX11_sale s9 a9 RX11 RX11 249 yX11_needGood cX11_needGood 2 none wzX11_needGood rmX11_needGood 1 6 1 := zcV (zWi_21 _ (List.mem_of_getElem? (i := 22) rfl)) (zWi_13 _ (List.mem_of_getElem? (i := 16) rfl)) (zWi_26 _ (List.mem_of_getElem? (i := 8) rfl)) (zWi_12 _ (List.mem_of_getElem? (i := 12) rfl)) (zWi_1 _ (List.mem_of_getElem? (i := 42) rfl)) (by decide +kernel) rfl rfl ⟨Nat.le_of_ble_eq_true rfl, Nat.le_of_ble_eq_true rfl⟩
theorem kX11_sale_288 : ∀ (s9 : State) (a9 : Array Value), (∀ w ∈ wzX11_sale, w.before a9 s9 = true) → CallW rmX11_sale s9 a9 RX11 RX9 288 yX9_allCredit cX9_allCredit 3 (some .int) wzX9_allCredit rmX9_allCredit 0 0 0 := zcV (zWi_21 _ (List.mem_of_getElem? (i := 27) rfl)) (zWi_17 _ (List.mem_of_getElem? (i := 9) rfl)) (zWi_29 _ (List.mem_of_getElem? (i := 34) rfl)) (zWi_12 _ (List.mem_of_getElem? (i := 21) rfl)) (zWi_5 _ (List.mem_of_getElem? (i := 43) rfl)) (by decide +kernel) rfl rfl ⟨Nat.le_of_ble_eq_true rfl, Nat.le_of_ble_eq_true rfl⟩
theorem kX11_sale_292 : ∀ (s9 : State) (a9 : Array Value), (∀ w ∈ wzX11_sale, w.before a9 s9 = true) → CallW rmX11_sale s9 a9 RX11 RX0 292 yX0_spread cX0_spread 7 none wzX0_spread rmX0_spread 0 0 3 := zcV (zWi_21 _ (List.mem_of_getElem? (i := 28) rfl)) (zWi_12 _ (List.mem_of_getElem? (i := 35) rfl)) (zWi_25 _ (List.mem_of_getElem? (i := 21) rfl)) (zWi_12 _ (List.mem_of_getElem? (i := 9) rfl)) (zWi_1 _ (List.mem_of_getElem? (i := 9) rfl)) (by decide +kernel) rfl rfl ⟨Nat.le_of_ble_eq_true rfl, Nat.le_of_ble_eq_true rfl⟩
theorem kX11_sale_296 : ∀ (s9 : State) (a9 : Array Value), (∀ w ∈ wzX11_sale, w.before a9 s9 = true) → CallW rmX11_sale s9 a9 RX11 RX0 296 yX0_hasFor cX0_hasFor 2 (some .boolean) wzX0_hasFor rmX0_hasFor 0 0 1 := zcV (zWi_21 _ (List.mem_of_getElem? (i := 29) rfl)) (zWi_12 _ (List.mem_of_getElem? (i := 27) rfl)) (zWi_25 _ (List.mem_of_getElem? (i := 14) rfl)) (zWi_12 _ (List.mem_of_getElem? (i := 9) rfl)) (zWi_1 _ (List.mem_of_getElem? (i := 0) rfl)) (by decide +kernel) rfl rfl ⟨Nat.le_of_ble_eq_true rfl, Nat.le_of_ble_eq_true rfl⟩
theorem kX11_sale_303 : ∀ (s9 : State) (a9 : Array Value), (∀ w ∈ wzX11_sale, w.before a9 s9 = true) → CallW rmX11_sale s9 a9 RX11 RX0 303 yX0_share cX0_share 3 (some .int) wzX0_share rmX0_share 0 0 2 := zcV (zWi_21 _ (List.mem_of_getElem? (i := 30) rfl)) (zWi_12 _ (List.mem_of_getElem? (i := 34) rfl)) (zWi_25 _ (List.mem_of_getElem? (i := 20) rfl)) (zWi_12 _ (List.mem_of_getElem? (i := 9) rfl)) (zWi_1 _ (List.mem_of_getElem? (i := 7) rfl)) (by decide +kernel) rfl rfl ⟨Nat.le_of_ble_eq_true rfl, Nat.le_of_ble_eq_true rfl⟩
theorem kX11_sale_307 : ∀ (s9 : State) (a9 : Array Value), (∀ w ∈ wzX11_sale, w.before a9 s9 = true) → CallW rmX11_sale s9 a9 RX11 RX9 307 yX9_giveFrom cX9_giveFrom 4 none wzX9_giveFrom rmX9_giveFrom 0 0 2 := zcV (zWi_21 _ (List.mem_of_getElem? (i := 31) rfl)) (zWi_17 _ (List.mem_of_getElem? (i := 13) rfl)) (zWi_29 _ (List.mem_of_getElem? (i := 38) rfl)) (zWi_12 _ (List.mem_of_getElem? (i := 21) rfl)) (zWi_5 _ (List.mem_of_getElem? (i := 47) rfl)) (by decide +kernel) rfl rfl ⟨Nat.le_of_ble_eq_true rfl, Nat.le_of_ble_eq_true rfl⟩
theorem kX11_sale_310 : ∀ (s9 : State) (a9 : Array Value), (∀ w ∈ wzX11_sale, w.before a9 s9 = true) → CallW rmX11_sale s9 a9 RX11 RX9 310 yX9_slideToTubes cX9_slideToTubes 2 none wzX9_slideToTubes rmX9_slideToTubes 0 0 0 := zcV (zWi_21 _ (List.mem_of_getElem? (i := 32) rfl)) (zWi_17 _ (List.mem_of_getElem? (i := 22) rfl)) (zWi_29 _ (List.mem_of_getElem? (i := 46) rfl)) (zWi_12 _ (List.mem_of_getElem? (i := 21) rfl)) (zWi_6 _ (List.mem_of_getElem? (i := 6) rfl)) (by decide +kernel) rfl rfl ⟨Nat.le_of_ble_eq_true rfl, Nat.le_of_ble_eq_true rfl⟩
def sp_X11_lacks (as : List zV) (M : zM) (Q : Option zV → zM → Prop) : Prop := ∃ (B g w : Int), as = [zR 0, zI g, zI w] ∧ (0 ≤ M 1 3 ∧ M 1 3 ≤ 6) ∧ (ICs M) ∧ (ICb M) ∧ (ICt B M) ∧ ((0 ≤ g ∧ g < M 1 3) → (0 ≤ w ∧ w ≤ 2) → ∀ M', offX M M' → Q (some (zI (lackA M g w))) M') ∧ (¬ (0 ≤ g ∧ g < M 1 3) → Q (some (zR 3000)) M) ∧ ((0 ≤ g ∧ g < M 1 3) → ¬ (0 ≤ w ∧ w ≤ 2) → Q (some (zR 3001)) M)
theorem us_X11_lacks {B g w : Int} {M : zM} {Q : Option zV → zM → Prop} (h0 : 0 ≤ M 1 3 ∧ M 1 3 ≤ 6) (hs : ICs M) (hb : ICb M) (ht : ICt B M) (hQ : (0 ≤ g ∧ g < M 1 3) → (0 ≤ w ∧ w ≤ 2) → ∀ M', offX M M' → Q (some (zI (lackA M g w))) M') (hT : ¬ (0 ≤ g ∧ g < M 1 3) → Q (some (zR 3000)) M) (hU : (0 ≤ g ∧ g < M 1 3) → ¬ (0 ≤ w ∧ w ≤ 2) → Q (some (zR 3001)) M) : sp_X11_lacks [zR 0, zI g, zI w] M Q := ⟨B, g, w, rfl, h0, hs, hb, ht, hQ, hT, hU⟩
set_option maxRecDepth 20000 in
set_option maxHeartbeats 4000000 in
theorem m_X11_lacks (l : Launch) : zCx l yX11_lacks wzX11_lacks rmX11_lacks 2 sp_X11_lacks := by
  refine zMet.of RX11 (by decide +kernel) rfl rfl ?_
  intro E X as M Qp hX S hsp
  obtain ⟨B, g, w, rfl, h0, hs, hb, ht, hQ, hT, hU⟩ := hsp
  refine ⟨Nat.le_of_ble_eq_true rfl, ?_⟩
  dsimp only [zpad, zargs]
  have hh : ∀ k, k < 8 → 0 ≤ M 19 (0 + k) ∧ M 19 (0 + k) ≤ 20 := fun k hk => by have := ht.2.2.1 k hk; rw [Nat.zero_add]; omega
  have key : (0 ≤ g ∧ g < M 1 3) → (0 ≤ w ∧ w ≤ 2) → ∀ N, offL M N → lsL (N 54) (capT M) (val M) 8 200 → zK (zg E) rmX11_lacks 4 (Qp, 2, 6 * 2) X (0 + 1 + 1, 0 + 6 * 1 + 6 * 1) 38 [some (zR 0), some (zI g), some (zI w), none] [] N := by
    intro c1 c2 N hN hl
    have f := hQ c1 c2 N (fun k hk => hN k (by omega))
    have e : ∀ i, i < 201 → hasP N i = hasC (capT M) (val M) i := fun i hi => hasP_c hl (fun i hi => (capT_r ht i hi).1) (by omega)
    have e1 := lkN_c 201 e
    have e2 := lkF_c 201 e
    have e3 := lkR_c 201 e
    have ep : N 29 = M 29 := hN _ (by decide)
    have pr := hb.2.1 g.toNat (by omega)
    have lr := lkF_r (hasC (capT M) (val M)) 201
    unfold lackA at f
    refine zr_iload_n (pc := 38) S dX11_lacks_38 rfl ?_
    refine zr_if_ne (pc := 39) (tgt := 53) S dX11_lacks_39 (by decide) (fun c39 => ?_) (fun c39 => ?_)
    · rw [if_neg c39] at f
      refine zr_iload_n (pc := 53) S dX11_lacks_53 rfl ?_
      refine zr_iconst (pc := 54) S dX11_lacks_54 (by unfold zrI; omega) ?_
      refine zr_icmp_ne (pc := 55) (tgt := 69) S dX11_lacks_55 (by decide) (fun c55 => ?_) (fun c55 => ?_)
      · rw [if_neg c55] at f
        refine zr_aload_n (pc := 69) S dX11_lacks_69 rfl ?_
        refine zr_getR (pc := 70) S fX11_lacks_59 dX11_lacks_70 rfl (Nat.le_of_ble_eq_true rfl) rfl ?_
        refine zr_sipush (pc := 73) S dX11_lacks_73 ⟨by unfold zrI; omega, by decide⟩ ?_
        refine zr_invV (pc := 76) S [zI _] (m_X0_lackLeast _) kX11_lacks_334 dX11_lacks_76 rfl (Nat.le_of_ble_eq_true rfl) rfl (Nat.le_of_ble_eq_true rfl) ⟨Nat.le_of_ble_eq_true rfl, Nat.le_of_ble_eq_true rfl⟩ (us_X0_lackLeast (top := 200) (by omega) ?_)
        dsimp only [zaft, Option.toList, List.cons_append, List.nil_append, Nat.add_zero]
        rw [e2]
        refine zr_istore_n (pc := 79) S 3 dX11_lacks_79 rfl (by decide) ?_
        dsimp only [zst1, zst2, zset, zget, zlong]
        refine zr_iload_n (pc := 80) S dX11_lacks_80 rfl ?_
        refine zr_iconst (pc := 81) S dX11_lacks_81 (by unfold zrI; omega) ?_
        refine zr_icmp_ne (pc := 82) (tgt := 89) S dX11_lacks_82 (by decide) (fun c82 => ?_) (fun c82 => ?_)
        · rw [if_neg c82] at f
          refine zr_aload_n (pc := 89) S dX11_lacks_89 rfl ?_
          refine zr_getR (pc := 90) S fX11_lacks_10 dX11_lacks_90 rfl (Nat.le_of_ble_eq_true rfl) rfl ?_
          refine zr_getR (pc := 93) S fX11_lacks_252 dX11_lacks_93 rfl (Nat.le_of_ble_eq_true rfl) rfl ?_
          refine zr_iload_n (pc := 96) S dX11_lacks_96 rfl ?_
          refine zr_iaload (pc := 97) S dX11_lacks_97 rfl (Nat.le_of_ble_eq_true rfl) (by omega) (by omega) ?_
          rw [ep]
          refine zr_iload_n (pc := 98) S dX11_lacks_98 rfl ?_
          refine zr_iadd (pc := 99) S dX11_lacks_99 (by unfold zrI; omega) ?_
          exact zr_iret (pc := 100) S dX11_lacks_100 rfl ⟨Nat.le_of_ble_eq_true rfl, Nat.le_of_ble_eq_true rfl⟩ (f)
        · rw [if_pos c82] at f
          refine zr_iconst (pc := 85) S dX11_lacks_85 (by unfold zrI; omega) ?_
          refine zr_goto (pc := 86) (tgt := 100) S dX11_lacks_86 (by decide) ?_
          exact zr_iret (pc := 100) S dX11_lacks_100 rfl ⟨Nat.le_of_ble_eq_true rfl, Nat.le_of_ble_eq_true rfl⟩ (f)
      · rw [if_pos c55] at f
        refine zr_aload_n (pc := 58) S dX11_lacks_58 rfl ?_
        refine zr_getR (pc := 59) S fX11_lacks_59 dX11_lacks_59 rfl (Nat.le_of_ble_eq_true rfl) rfl ?_
        refine zr_sipush (pc := 62) S dX11_lacks_62 ⟨by unfold zrI; omega, by decide⟩ ?_
        refine zr_invV (pc := 65) S [zI _] (m_X0_lackRow _) kX11_lacks_331 dX11_lacks_65 rfl (Nat.le_of_ble_eq_true rfl) rfl (Nat.le_of_ble_eq_true rfl) ⟨Nat.le_of_ble_eq_true rfl, Nat.le_of_ble_eq_true rfl⟩ (us_X0_lackRow (top := 200) (by omega) ?_)
        dsimp only [zaft, Option.toList, List.cons_append, List.nil_append, Nat.add_zero]
        rw [e3]
        exact zr_iret (pc := 68) S dX11_lacks_68 rfl ⟨Nat.le_of_ble_eq_true rfl, Nat.le_of_ble_eq_true rfl⟩ (f)
    · rw [if_pos c39] at f
      refine zr_aload_n (pc := 42) S dX11_lacks_42 rfl ?_
      refine zr_getR (pc := 43) S fX11_lacks_59 dX11_lacks_43 rfl (Nat.le_of_ble_eq_true rfl) rfl ?_
      refine zr_sipush (pc := 46) S dX11_lacks_46 ⟨by unfold zrI; omega, by decide⟩ ?_
      refine zr_invV (pc := 49) S [zI _] (m_X0_lackMany _) kX11_lacks_328 dX11_lacks_49 rfl (Nat.le_of_ble_eq_true rfl) rfl (Nat.le_of_ble_eq_true rfl) ⟨Nat.le_of_ble_eq_true rfl, Nat.le_of_ble_eq_true rfl⟩ (us_X0_lackMany (top := 200) (by omega) ?_)
      dsimp only [zaft, Option.toList, List.cons_append, List.nil_append, Nat.add_zero]
      rw [e1]
      exact zr_iret (pc := 52) S dX11_lacks_52 rfl ⟨Nat.le_of_ble_eq_true rfl, Nat.le_of_ble_eq_true rfl⟩ (f)
  refine zr_aload_n (pc := 0) S dX11_lacks_0 rfl ?_
  refine zr_iload_n (pc := 1) S dX11_lacks_1 rfl ?_
  refine zr_invV (pc := 2) S [zI _] (m_X11_needGood _) kX11_lacks_249 dX11_lacks_2 rfl (Nat.le_of_ble_eq_true rfl) rfl (Nat.le_of_ble_eq_true rfl) ⟨Nat.le_of_ble_eq_true rfl, Nat.le_of_ble_eq_true rfl⟩ (us_X11_needGood h0.1 (fun c2 => ?_) (fun c2 => zaft_thr (by omega) ⟨Nat.le_of_ble_eq_true rfl, Nat.le_of_ble_eq_true rfl⟩ (hT c2)))
  dsimp only [zaft, Option.toList, List.cons_append, List.nil_append, Nat.add_zero]
  refine zr_iload_n (pc := 5) S dX11_lacks_5 rfl ?_
  refine zr_i2l (pc := 6) S dX11_lacks_6 ?_
  refine zr_lconst0 (pc := 7) S dX11_lacks_7 ?_
  refine zr_ldc2 (pc := 8) S (2) dX11_lacks_8 (List.mem_cons_of_mem _ (zWi_7 _ (List.mem_of_getElem? (i := 7) rfl))) (by unfold zrL; omega) ?_
  refine zr_invS (pc := 11) S [zL _, zL _, zL _] (m_X11_within _) kX11_lacks_93 dX11_lacks_11 (Nat.le_of_ble_eq_true rfl) ⟨Nat.le_of_ble_eq_true rfl, Nat.le_of_ble_eq_true rfl⟩ (us_X11_within ?_)
  dsimp only [zaft, Option.toList, List.cons_append, List.nil_append, Nat.add_zero]
  refine zr_invS (pc := 14) S [zI _] (m_X11_need _) kX11_lacks_97 dX11_lacks_14 (Nat.le_of_ble_eq_true rfl) ⟨Nat.le_of_ble_eq_true rfl, Nat.le_of_ble_eq_true rfl⟩ (us_X11_need (fun c14 => ?_) (fun c14 => zaft_thr (by omega) ⟨Nat.le_of_ble_eq_true rfl, Nat.le_of_ble_eq_true rfl⟩ (hU c2 (b01_0.mp c14))))
  dsimp only [zaft, Option.toList, List.cons_append, List.nil_append, Nat.add_zero]
  rw [b01_0, Classical.not_not] at c14
  refine zr_aload_n (pc := 17) S dX11_lacks_17 rfl ?_
  refine zr_getR (pc := 18) S fX11_lacks_59 dX11_lacks_18 rfl (Nat.le_of_ble_eq_true rfl) rfl ?_
  refine zr_aload_n (pc := 21) S dX11_lacks_21 rfl ?_
  refine zr_getR (pc := 22) S fX11_lacks_10 dX11_lacks_22 rfl (Nat.le_of_ble_eq_true rfl) rfl ?_
  refine zr_getR (pc := 25) S fX11_lacks_255 dX11_lacks_25 rfl (Nat.le_of_ble_eq_true rfl) rfl ?_
  refine zr_getR (pc := 28) S fX11_lacks_268 dX11_lacks_28 rfl (Nat.le_of_ble_eq_true rfl) rfl ?_
  refine zr_iconst (pc := 31) S dX11_lacks_31 (by unfold zrI; omega) ?_
  refine zr_sipush (pc := 32) S dX11_lacks_32 ⟨by unfold zrI; omega, by decide⟩ ?_
  refine zr_invV (pc := 35) S [zR _, zI _, zI _] (m_X0_spread _) kX11_lacks_292 dX11_lacks_35 rfl (Nat.le_of_ble_eq_true rfl) rfl (Nat.le_of_ble_eq_true rfl) ⟨Nat.le_of_ble_eq_true rfl, Nat.le_of_ble_eq_true rfl⟩ (us_X0_spread (n := 8) (at_ := 0) (w := 200) rfl (Nat.le_of_ble_eq_true rfl) (by decide) (by omega) (by decide) hs hh ?_)
  dsimp only [zaft, Option.toList, List.cons_append, List.nil_append, Nat.add_zero]
  rintro r N ⟨rfl, hN, hl⟩
  dsimp only [zaft, Option.toList, List.nil_append]
  exact key c2 c14 N hN (lsL_cc capT_e hl)
theorem offX.up {A B : zM} (h : offX A B) (c j : Nat) (v : Int) : offX (zup A c j v) (zup B c j v) := fun k hk => by
  funext i
  unfold zup
  rw [h k hk]
theorem ox_give {A B : zM} (h : offX A B) (s : Int) : offX (giveOut A s) (giveOut B s) := by
  unfold giveOut
  rw [h 17 (by omega)]
  split
  · exact (h.up _ _ _).up _ _ _
  · exact h
theorem ox_lay {A B : zM} (h : offX A B) (t s : Int) : offX (layOn A t s) (layOn B t s) := by
  unfold layOn
  rw [h 19 (by omega), h 20 (by omega)]
  split
  · exact (h.up _ _ _).up _ _ _
  · exact h.up _ _ _
theorem ox_gvF {A B : zM} (h : offX A B) (t : Int) : ∀ n, offX (gvF A t n) (gvF B t n)
  | 0 => h
  | n + 1 => by
    have ih := ox_gvF h t n
    simp only [gvF]
    have e1 : topOf (gvF B t n) t = topOf (gvF A t n) t := by unfold topOf; rw [ih 19 (by omega), ih 18 (by omega)]
    rw [e1, ih 19 (by omega), ih 22 (by omega)]
    exact ((ox_give ih _).up _ _ _).up _ _ _
theorem ox_s2t {A B : zM} (h : offX A B) : ∀ n, offX (s2t A n) (s2t B n)
  | 0 => h
  | n + 1 => by
    have ih := ox_s2t h n
    simp only [s2t]
    rw [h 24 (by omega), h 25 (by omega)]
    split
    · exact ih
    · exact ox_lay ih _ _
/-- of every tube its share is given -/
def gvA (M : zM) (x : Nat → Nat) : Nat → zM
  | 0 => M
  | n + 1 => gvF (gvA M x n) n (x n)
theorem ox_gvA {A B : zM} (h : offX A B) (x : Nat → Nat) : ∀ n, offX (gvA A x n) (gvA B x n)
  | 0 => h
  | n + 1 => ox_gvF (ox_gvA h x n) _ _
def saleM (M : zM) (x : Nat → Nat) : zM := zup (s2t (gvA (zup M 17 11 0) x (M 2 0).toNat) (M 17 6).toNat) 17 6 0
theorem gvA_h {M : zM} {x : Nat → Nat} {k : Nat} : ∀ n, n ≤ k → gvA M x n 19 k = M 19 k
  | 0, _ => rfl
  | n + 1, hn => by
    simp only [gvA]
    rw [(gvF_hs (by omega) _).1, gvA_h n (by omega)]
theorem gvA_o {M : zM} {x : Nat → Nat} {k : Nat} (h : k ≠ 28 ∧ k ≠ 17 ∧ k ≠ 19 ∧ k ≠ 22) : ∀ n, gvA M x n k = M k
  | 0 => rfl
  | n + 1 => by
    simp only [gvA]
    rw [gvF_o h, gvA_o h n]
theorem gvA_6 {M : zM} {x : Nat → Nat} : ∀ n, gvA M x n 17 6 = M 17 6
  | 0 => rfl
  | n + 1 => by
    simp only [gvA]
    rw [gvF_6, gvA_6 n]
theorem gvA_I {B : Int} {M : zM} {x : Nat → Nat} (hI : ICt B M) (hx : ∀ i, i < 8 → (x i : Int) ≤ M 19 i ∧ x i ≤ 20) : ∀ n : Nat, n ≤ 8 → ICt (B + 20 * n) (gvA M x n)
  | 0, _ => by
    exact hI.w (by omega)
  | n + 1, hn => by
    have a := gvA_I hI hx n (by omega)
    have b := hx n (by omega)
    simp only [gvA]
    have c := gvF_I a (t := n) (by omega) (by omega) (x n) (by rw [Int.toNat_natCast, gvA_h n (Nat.le_refl _)]; exact b.1)
    exact c.w (by omega)
theorem ICt_11 {B : Int} {M : zM} (hI : ICt B M) : ICt B (zup M 17 11 0) := by
  unfold ICt at *
  exact ⟨hI.1, ⟨by show (0 : Int) ≤ 0; omega, by show (0 : Int) ≤ 160; omega⟩, hI.2.2⟩
theorem ls_chg {f : Nat → Int} {c v : Nat → Nat} {top : Nat} {s : Int} (hl : lsL f c v 8 top) (hc : ∀ i, i < 8 → c i ≤ 20) (h0 : 0 ≤ s) (hs : s.toNat ≤ top) : (f s.toNat < 1152921504606846976 → ∃ x, chg c v s = some x ∧ FV c v 8 x s.toNat ∧ f s.toNat = wV x 8) ∧ (¬ f s.toNat < 1152921504606846976 → chg c v s = none) := by
  obtain ⟨a, b, d⟩ := hl s.toNat hs
  refine ⟨fun z => ?_, fun z => chg_none (fun ⟨_, x, hx⟩ => ?_)⟩
  · rcases d with d | ⟨x, hx, e⟩
    · omega
    · exact ⟨nrm x, chg_some hc h0 ⟨hx, fun y hy => by rw [← e]; exact b y hy⟩, FV_nrm hx, by rw [e, wV_nrm]⟩
  · have w := wV_r (x := x) (fun i hi => Nat.le_trans (hx.1 i hi) (hc i hi))
    have := b x hx
    omega
end
section
theorem lp_X11_sale {E : zE} {X : zX} {Qp : Option zV → zM → Prop} {M T : zM} {B g ab : Int} {x : Nat → Nat} (S : zS (zg E) X cX11_sale 4 wzX11_sale RX11 (some .int)) (hs : ICs M) (hI : ICt B T) (hB : B ≤ 998000) (hT : ∀ k, k ≠ 54 → k ≠ 17 → T k = M k) (h0 : 0 ≤ ab ∧ ab ≤ 4800) (hf : T 54 ab.toNat = wV x 8) (hx : ∀ i, i < 8 → (x i : Int) ≤ T 19 i ∧ x i ≤ 20) (hQ : Qp (some (zI (zup (s2t (gvA T x (M 2 0).toNat) (T 17 6).toNat) 17 6 0 17 11))) (zup (s2t (gvA T x (M 2 0).toNat) (T 17 6).toNat) 17 6 0)) : ∀ n i : Nat, (n : Int) + i = M 2 0 → zK (zg E) rmX11_sale 4 (Qp, 1, 6 * 1) X (0 + 1, 0 + 6 * 1) 77 [some (zR 0), some (zI g), some (zI ab), some (zI i)] [] (gvA T x i) := by
  have h8 := hs.1
  have es : ∀ i, gvA T x i 2 = M 2 := fun i => by rw [gvA_o (by decide), hT _ (by decide) (by decide)]
  have el : ∀ i, gvA T x i 54 = T 54 := fun i => gvA_o (by decide) i
  have w := wV_r (x := x) (fun i hi => (hx i hi).2)
  intro n
  induction n with
  | zero =>
    intro i hi
    obtain rfl : i = (M 2 0).toNat := by omega
    have a := gvA_I hI hx (M 2 0).toNat (by omega)
    refine zr_iload_n (pc := 77) S dX11_sale_77 rfl ?_
    refine zr_aload_n (pc := 78) S dX11_sale_78 rfl ?_
    refine zr_getR (pc := 79) S fX11_sale_10 dX11_sale_79 rfl (Nat.le_of_ble_eq_true rfl) rfl ?_
    refine zr_getR (pc := 82) S fX11_sale_39 dX11_sale_82 rfl (Nat.le_of_ble_eq_true rfl) rfl ?_
    refine zr_getI (pc := 85) S fX11_sale_302 dX11_sale_85 rfl (Nat.le_of_ble_eq_true rfl) rfl ?_
    rw [es]
    refine zr_icmp_ge (pc := 88) (tgt := 117) S dX11_sale_88 (by decide) (fun c88 => ?_) (fun c88 => absurd c88 (by omega))
    refine zr_aload_n (pc := 117) S dX11_sale_117 rfl ?_
    refine zr_getR (pc := 118) S fX11_sale_10 dX11_sale_118 rfl (Nat.le_of_ble_eq_true rfl) rfl ?_
    refine zr_getR (pc := 121) S fX11_sale_255 dX11_sale_121 rfl (Nat.le_of_ble_eq_true rfl) rfl ?_
    refine zr_invV (pc := 124) S [] (m_X9_slideToTubes _) kX11_sale_310 dX11_sale_124 rfl (Nat.le_of_ble_eq_true rfl) rfl (Nat.le_of_ble_eq_true rfl) ⟨Nat.le_of_ble_eq_true rfl, Nat.le_of_ble_eq_true rfl⟩ (us_X9_slideToTubes a (by omega) ?_)
    dsimp only [zaft, Option.toList, List.cons_append, List.nil_append, Nat.add_zero]
    rw [gvA_6]
    refine zr_aload_n (pc := 127) S dX11_sale_127 rfl ?_
    refine zr_getR (pc := 128) S fX11_sale_10 dX11_sale_128 rfl (Nat.le_of_ble_eq_true rfl) rfl ?_
    refine zr_getR (pc := 131) S fX11_sale_255 dX11_sale_131 rfl (Nat.le_of_ble_eq_true rfl) rfl ?_
    refine zr_getI (pc := 134) S fX11_sale_299 dX11_sale_134 rfl (Nat.le_of_ble_eq_true rfl) rfl ?_
    exact zr_iret (pc := 137) S dX11_sale_137 rfl ⟨Nat.le_of_ble_eq_true rfl, Nat.le_of_ble_eq_true rfl⟩ (hQ)
  | succ n ih =>
    intro i hi
    have a := gvA_I hI hx i (by omega)
    have b := hx i (by omega)
    have k := ih (i + 1) (by omega)
    rw [Int.natCast_add, Int.natCast_one] at k
    have e1 : (if 0 ≤ ab ∧ ab ≤ 4800 ∧ gvA T x i 54 ab.toNat < 1152921504606846976 then shr (gvA T x i 54 ab.toNat) i else 0) = ((x i : Nat) : Int) := by
      rw [el, hf, if_pos ⟨h0.1, h0.2, by omega⟩, shr_wV (fun i hi => (hx i hi).2) i (by omega)]
    refine zr_iload_n (pc := 77) S dX11_sale_77 rfl ?_
    refine zr_aload_n (pc := 78) S dX11_sale_78 rfl ?_
    refine zr_getR (pc := 79) S fX11_sale_10 dX11_sale_79 rfl (Nat.le_of_ble_eq_true rfl) rfl ?_
    refine zr_getR (pc := 82) S fX11_sale_39 dX11_sale_82 rfl (Nat.le_of_ble_eq_true rfl) rfl ?_
    refine zr_getI (pc := 85) S fX11_sale_302 dX11_sale_85 rfl (Nat.le_of_ble_eq_true rfl) rfl ?_
    rw [es]
    refine zr_icmp_ge (pc := 88) (tgt := 117) S dX11_sale_88 (by decide) (fun c88 => absurd c88 (by omega)) (fun c88 => ?_)
    refine zr_aload_n (pc := 91) S dX11_sale_91 rfl ?_
    refine zr_getR (pc := 92) S fX11_sale_10 dX11_sale_92 rfl (Nat.le_of_ble_eq_true rfl) rfl ?_
    refine zr_getR (pc := 95) S fX11_sale_255 dX11_sale_95 rfl (Nat.le_of_ble_eq_true rfl) rfl ?_
    refine zr_iload_n (pc := 98) S dX11_sale_98 rfl ?_
    refine zr_aload_n (pc := 99) S dX11_sale_99 rfl ?_
    refine zr_getR (pc := 100) S fX11_sale_59 dX11_sale_100 rfl (Nat.le_of_ble_eq_true rfl) rfl ?_
    refine zr_iload_n (pc := 103) S dX11_sale_103 rfl ?_
    refine zr_iload_n (pc := 104) S dX11_sale_104 rfl ?_
    refine zr_invV (pc := 105) S [zI _, zI _] (m_X0_share _) kX11_sale_303 dX11_sale_105 rfl (Nat.le_of_ble_eq_true rfl) rfl (Nat.le_of_ble_eq_true rfl) ⟨Nat.le_of_ble_eq_true rfl, Nat.le_of_ble_eq_true rfl⟩ (us_X0_share (k := i) (by omega) (fun _ _ => by rw [el, hf]; omega) ?_)
    dsimp only [zaft, Option.toList, List.cons_append, List.nil_append, Nat.add_zero]
    rw [e1]
    refine zr_invV (pc := 108) S [zI _, zI _] (m_X9_giveFrom _) kX11_sale_307 dX11_sale_108 rfl (Nat.le_of_ble_eq_true rfl) rfl (Nat.le_of_ble_eq_true rfl) ⟨Nat.le_of_ble_eq_true rfl, Nat.le_of_ble_eq_true rfl⟩ (us_X9_giveFrom (t := i) (m := x i) a (by omega) (by omega) (by omega) (by rw [Int.toNat_natCast, gvA_h i (Nat.le_refl _)]; exact b.1) ?_)
    dsimp only [zaft, Option.toList, List.cons_append, List.nil_append, Nat.add_zero]
    refine zr_iinc (pc := 111) S dX11_sale_111 rfl (by unfold zrI; omega) (by decide) ?_
    dsimp only [zst1, zst2, zset, zget, zlong]
    refine zr_goto (pc := 114) (tgt := 77) S dX11_sale_114 (by decide) ?_
    exact k
def sp_X11_sale (as : List zV) (M : zM) (Q : Option zV → zM → Prop) : Prop := ∃ (B g : Int), as = [zR 0, zI g] ∧ (0 ≤ M 1 3 ∧ M 1 3 ≤ 6) ∧ (ICs M) ∧ (ICb M) ∧ (ICt B M) ∧ (B ≤ 998000) ∧ ((0 ≤ g ∧ g < M 1 3) → ∀ x, chg (capT M) (val M) (credit M - M 29 g.toNat) = some x → ∀ M', offX (saleM M x) M' → Q (some (zI (saleM M x 17 11))) M') ∧ ((0 ≤ g ∧ g < M 1 3) → chg (capT M) (val M) (credit M - M 29 g.toNat) = none → ∀ M', offX M M' → Q (some (zI (-1))) M') ∧ (¬ (0 ≤ g ∧ g < M 1 3) → Q (some (zR 3000)) M)
theorem us_X11_sale {B g : Int} {M : zM} {Q : Option zV → zM → Prop} (h0 : 0 ≤ M 1 3 ∧ M 1 3 ≤ 6) (hs : ICs M) (hb : ICb M) (ht : ICt B M) (hB : B ≤ 998000) (hQ : (0 ≤ g ∧ g < M 1 3) → ∀ x, chg (capT M) (val M) (credit M - M 29 g.toNat) = some x → ∀ M', offX (saleM M x) M' → Q (some (zI (saleM M x 17 11))) M') (hF : (0 ≤ g ∧ g < M 1 3) → chg (capT M) (val M) (credit M - M 29 g.toNat) = none → ∀ M', offX M M' → Q (some (zI (-1))) M') (hT : ¬ (0 ≤ g ∧ g < M 1 3) → Q (some (zR 3000)) M) : sp_X11_sale [zR 0, zI g] M Q := ⟨B, g, rfl, h0, hs, hb, ht, hB, hQ, hF, hT⟩
set_option maxRecDepth 20000 in
set_option maxHeartbeats 4000000 in
theorem m_X11_sale (l : Launch) : zCx l yX11_sale wzX11_sale rmX11_sale 1 sp_X11_sale := by
  refine zMet.of RX11 (by decide +kernel) rfl rfl ?_
  intro E X as M Qp hX S hsp
  obtain ⟨B, g, rfl, h0, hs, hb, ht, hB, hQ, hF, hT⟩ := hsp
  refine ⟨Nat.le_of_ble_eq_true rfl, ?_⟩
  dsimp only [zpad, zargs]
  have hh : ∀ k, k < 8 → 0 ≤ M 19 (0 + k) ∧ M 19 (0 + k) ≤ 20 := fun k hk => by have := ht.2.2.1 k hk; rw [Nat.zero_add]; omega
  have cr := credit_r ht
  have key : (0 ≤ g ∧ g < M 1 3) → ∀ ab : Int, ab = credit M - M 29 g.toNat → 0 ≤ ab → ab ≤ 4800 → ∀ N, offL M N → lsL (N 54) (capT M) (val M) 8 ab.toNat → zK (zg E) rmX11_sale 4 (Qp, 1, 6 * 1) X (0 + 1, 0 + 6 * 1) 51 [some (zR 0), some (zI g), some (zI ab), none] [] N := by
    intro c1 ab eab p1 p2 N hN hl
    have q := ls_chg hl (fun i hi => (capT_r ht i hi).1) p1 (Nat.le_refl _)
    have hTt : ICt B (zup N 17 11 0) := ICt_11 (AG.t (fun k hk => hN k (by omega)) ht)
    have es : N 2 = M 2 := hN _ (by decide)
    refine zr_aload_n (pc := 51) S dX11_sale_51 rfl ?_
    refine zr_getR (pc := 52) S fX11_sale_59 dX11_sale_52 rfl (Nat.le_of_ble_eq_true rfl) rfl ?_
    refine zr_iload_n (pc := 55) S dX11_sale_55 rfl ?_
    refine zr_invV (pc := 56) S [zI _] (m_X0_hasFor _) kX11_sale_296 dX11_sale_56 rfl (Nat.le_of_ble_eq_true rfl) rfl (Nat.le_of_ble_eq_true rfl) ⟨Nat.le_of_ble_eq_true rfl, Nat.le_of_ble_eq_true rfl⟩ (us_X0_hasFor ?_)
    dsimp only [zaft, Option.toList, List.cons_append, List.nil_append, Nat.add_zero]
    by_cases hf : N 54 ab.toNat < 1152921504606846976
    · obtain ⟨x, hx, hv, hw⟩ := q.1 hf
      rw [eab] at hx
      have f := hQ c1 x hx
      have hxx : ∀ i, i < 8 → (x i : Int) ≤ zup N 17 11 0 19 i ∧ x i ≤ 20 := fun i hi => by
        have a := capT_r ht i hi
        have b := hv.1 i hi
        show (x i : Int) ≤ N 19 i ∧ _
        rw [hN 19 (by decide)]
        omega
      rw [b01_t ⟨p1, p2, hf⟩]
      refine zr_if_ne (pc := 59) (tgt := 64) S dX11_sale_59 (by decide) (fun c => ?_) (fun c => absurd c (by omega))
      have oo : offX M N := fun k hk => hN k (by omega)
      have o2 : offX (saleM M x) (zup (s2t (gvA (zup N 17 11 0) x (M 2 0).toNat) (M 17 6).toNat) 17 6 0) := (ox_s2t (ox_gvA (oo.up _ _ _) x _) _).up _ _ _
      have e11 : zup (s2t (gvA (zup N 17 11 0) x (M 2 0).toNat) (M 17 6).toNat) 17 6 0 17 11 = saleM M x 17 11 := by rw [o2 17 (by omega)]
      have ff := f _ o2
      rw [← e11] at ff
      have e6 : zup N 17 11 0 17 6 = M 17 6 := by show N 17 6 = _; rw [hN 17 (by decide)]
      rw [← e6] at ff
      refine zr_aload_n (pc := 64) S dX11_sale_64 rfl ?_
      refine zr_getR (pc := 65) S fX11_sale_10 dX11_sale_65 rfl (Nat.le_of_ble_eq_true rfl) rfl ?_
      refine zr_getR (pc := 68) S fX11_sale_255 dX11_sale_68 rfl (Nat.le_of_ble_eq_true rfl) rfl ?_
      refine zr_iconst (pc := 71) S dX11_sale_71 (by unfold zrI; omega) ?_
      refine zr_putI (pc := 72) S pX11_sale_299 dX11_sale_72 rfl (Nat.le_of_ble_eq_true rfl) rfl ?_
      refine zr_iconst (pc := 75) S dX11_sale_75 (by unfold zrI; omega) ?_
      refine zr_istore_n (pc := 76) S 3 dX11_sale_76 rfl (by decide) ?_
      dsimp only [zst1, zst2, zset, zget, zlong]
      exact lp_X11_sale S hs hTt hB (fun k k1 k2 => by rw [zup_o k k2, hN k k1]) ⟨p1, p2⟩ (by show N 54 ab.toNat = _; exact hw) hxx ff (M 2 0).toNat 0 (by have := hs.1; omega)
    · have f := hF c1 (by rw [← eab]; exact q.2 hf) N (fun k hk => hN k (by omega))
      rw [b01_f (fun z => hf z.2.2)]
      refine zr_if_ne (pc := 59) (tgt := 64) S dX11_sale_59 (by decide) (fun c => absurd rfl c) (fun c => ?_)
      refine zr_iconst (pc := 62) S dX11_sale_62 (by unfold zrI; omega) ?_
      exact zr_iret (pc := 63) S dX11_sale_63 rfl ⟨Nat.le_of_ble_eq_true rfl, Nat.le_of_ble_eq_true rfl⟩ (f)
  have pr : (0 ≤ g ∧ g < M 1 3) → 0 ≤ M 29 g.toNat ∧ M 29 g.toNat ≤ 500 := fun c => hb.2.1 g.toNat (by omega)
  refine zr_aload_n (pc := 0) S dX11_sale_0 rfl ?_
  refine zr_iload_n (pc := 1) S dX11_sale_1 rfl ?_
  refine zr_invV (pc := 2) S [zI _] (m_X11_needGood _) kX11_sale_249 dX11_sale_2 rfl (Nat.le_of_ble_eq_true rfl) rfl (Nat.le_of_ble_eq_true rfl) ⟨Nat.le_of_ble_eq_true rfl, Nat.le_of_ble_eq_true rfl⟩ (us_X11_needGood h0.1 (fun c2 => ?_) (fun c2 => zaft_thr (by omega) ⟨Nat.le_of_ble_eq_true rfl, Nat.le_of_ble_eq_true rfl⟩ (hT c2)))
  dsimp only [zaft, Option.toList, List.cons_append, List.nil_append, Nat.add_zero]
  have pp := pr c2
  refine zr_aload_n (pc := 5) S dX11_sale_5 rfl ?_
  refine zr_getR (pc := 6) S fX11_sale_10 dX11_sale_6 rfl (Nat.le_of_ble_eq_true rfl) rfl ?_
  refine zr_getR (pc := 9) S fX11_sale_255 dX11_sale_9 rfl (Nat.le_of_ble_eq_true rfl) rfl ?_
  refine zr_invV (pc := 12) S [] (m_X9_allCredit _) kX11_sale_288 dX11_sale_12 rfl (Nat.le_of_ble_eq_true rfl) rfl (Nat.le_of_ble_eq_true rfl) ⟨Nat.le_of_ble_eq_true rfl, Nat.le_of_ble_eq_true rfl⟩ (us_X9_allCredit ht ?_)
  dsimp only [zaft, Option.toList, List.cons_append, List.nil_append, Nat.add_zero]
  refine zr_aload_n (pc := 15) S dX11_sale_15 rfl ?_
  refine zr_getR (pc := 16) S fX11_sale_10 dX11_sale_16 rfl (Nat.le_of_ble_eq_true rfl) rfl ?_
  refine zr_getR (pc := 19) S fX11_sale_252 dX11_sale_19 rfl (Nat.le_of_ble_eq_true rfl) rfl ?_
  refine zr_iload_n (pc := 22) S dX11_sale_22 rfl ?_
  refine zr_iaload (pc := 23) S dX11_sale_23 rfl (Nat.le_of_ble_eq_true rfl) (by omega) (by omega) ?_
  refine zr_isub (pc := 24) S dX11_sale_24 (by unfold zrI; omega) ?_
  refine zr_istore_n (pc := 25) S 2 dX11_sale_25 rfl (by decide) ?_
  dsimp only [zst1, zst2, zset, zget, zlong]
  refine zr_iload_n (pc := 26) S dX11_sale_26 rfl ?_
  refine zr_if_ge (pc := 27) (tgt := 32) S dX11_sale_27 (by decide) (fun c27 => ?_) (fun c27 => ?_)
  · refine zr_aload_n (pc := 32) S dX11_sale_32 rfl ?_
    refine zr_getR (pc := 33) S fX11_sale_59 dX11_sale_33 rfl (Nat.le_of_ble_eq_true rfl) rfl ?_
    refine zr_aload_n (pc := 36) S dX11_sale_36 rfl ?_
    refine zr_getR (pc := 37) S fX11_sale_10 dX11_sale_37 rfl (Nat.le_of_ble_eq_true rfl) rfl ?_
    refine zr_getR (pc := 40) S fX11_sale_255 dX11_sale_40 rfl (Nat.le_of_ble_eq_true rfl) rfl ?_
    refine zr_getR (pc := 43) S fX11_sale_268 dX11_sale_43 rfl (Nat.le_of_ble_eq_true rfl) rfl ?_
    refine zr_iconst (pc := 46) S dX11_sale_46 (by unfold zrI; omega) ?_
    refine zr_iload_n (pc := 47) S dX11_sale_47 rfl ?_
    refine zr_invV (pc := 48) S [zR _, zI _, zI _] (m_X0_spread _) kX11_sale_292 dX11_sale_48 rfl (Nat.le_of_ble_eq_true rfl) rfl (Nat.le_of_ble_eq_true rfl) ⟨Nat.le_of_ble_eq_true rfl, Nat.le_of_ble_eq_true rfl⟩ (us_X0_spread (n := 8) (at_ := 0) rfl (Nat.le_of_ble_eq_true rfl) (by decide) (by omega) (by decide) hs hh ?_)
    dsimp only [zaft, Option.toList, List.cons_append, List.nil_append, Nat.add_zero]
    rintro r N ⟨rfl, hN, hl⟩
    dsimp only [zaft, Option.toList, List.nil_append]
    exact key c2 _ rfl c27 (by omega) N hN (lsL_cc capT_e (by rw [show max 0 (min (credit M - M 29 g.toNat) 4800) = credit M - M 29 g.toNat by omega] at hl; exact hl))
  · have f := hF c2 (chg_none (fun z => by omega)) M (offX.rf M)
    refine zr_iconst (pc := 30) S dX11_sale_30 (by unfold zrI; omega) ?_
    exact zr_iret (pc := 31) S dX11_sale_31 rfl ⟨Nat.le_of_ble_eq_true rfl, Nat.le_of_ble_eq_true rfl⟩ (f)
end
