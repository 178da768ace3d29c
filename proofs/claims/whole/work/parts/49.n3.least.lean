section
def rmX1_dryWith (d : Nat) : Room := { frames := d + 1, cells := 0, slots := 0, locals := 26 * d + 27 }
abbrev wzX1_dryWith : List Cond := .code yX1_dryWith cX1_dryWith 5 (some .int) :: zW
def rmX1_least (d : Nat) : Room := { frames := d + 1, cells := 0, slots := 0, locals := 26 * d + 27 }
abbrev wzX1_least : List Cond := .code yX1_least cX1_least 7 (some .int) :: zW
def rmX1_firstFilled : Room := { frames := 18, cells := 0, slots := 0, locals := 469 }
abbrev wzX1_firstFilled : List Cond := .code yX1_firstFilled cX1_firstFilled 5 (some .int) :: zW
def rmX1_filledOn : Room := { frames := 19, cells := 0, slots := 0, locals := 493 }
abbrev wzX1_filledOn : List Cond := .code yX1_filledOn cX1_filledOn 5 (some .int) :: zW
def rmX1_leastDry : Room := { frames := 18, cells := 0, slots := 0, locals := 469 }
abbrev wzX1_leastDry : List Cond := .code yX1_leastDry cX1_leastDry 2 (some .int) :: zW
theorem kX1_dryWith_33 (d : Nat) : ∀ (s9 : State) (a9 : Array Value), (∀ w ∈ wzX1_dryWith, w.before a9 s9 = true) → CallW (rmX1_dryWith d) s9 a9 RX1 RX1 33 yX1_step cX1_step 8 (some .int) wzX1_step rmX1_step 0 0 2 := zcV (zWi_20 _ (List.mem_of_getElem? (i := 43) rfl)) (zWi_15 _ (List.mem_of_getElem? (i := 46) rfl)) (zWi_25 _ (List.mem_of_getElem? (i := 30) rfl)) (zWi_12 _ (List.mem_of_getElem? (i := 10) rfl)) (zWi_4 _ (List.mem_of_getElem? (i := 29) rfl)) (by decide +kernel) rfl rfl ⟨(by simp only [rmX1_dryWith, rmX1_step]; omega), (by simp only [rmX1_dryWith, rmX1_step]; omega)⟩
theorem kX1_dryWith_26 (d : Nat) : ∀ (s9 : State) (a9 : Array Value), (∀ w ∈ wzX1_dryWith, w.before a9 s9 = true) → CallW (rmX1_dryWith (d + 1)) s9 a9 RX1 RX1 26 yX1_least cX1_least 7 (some .int) wzX1_least (rmX1_least d) 0 0 2 := zcV (zWi_20 _ (List.mem_of_getElem? (i := 41) rfl)) (zWi_15 _ (List.mem_of_getElem? (i := 44) rfl)) (zWi_25 _ (List.mem_of_getElem? (i := 28) rfl)) (zWi_12 _ (List.mem_of_getElem? (i := 10) rfl)) (zWi_4 _ (List.mem_of_getElem? (i := 27) rfl)) (by decide +kernel) rfl rfl ⟨(by simp only [rmX1_dryWith, rmX1_least]; omega), (by simp only [rmX1_dryWith, rmX1_least]; omega)⟩
theorem fX1_least_11 : zfl wzX1_least RX1 vwCl 11 1 1 := ⟨_, _, _, rfl, (fun w h => List.mem_cons_of_mem _ (zWuX1 w h)), by decide, List.mem_cons_of_mem _ (zWi_7 _ (List.mem_of_getElem? (i := 48) rfl))⟩
theorem fX1_least_15 : zfl wzX1_least RX1 vwCl 15 1 0 := ⟨_, _, _, rfl, (fun w h => List.mem_cons_of_mem _ (zWuX1 w h)), by decide, List.mem_cons_of_mem _ (zWi_7 _ (List.mem_of_getElem? (i := 49) rfl))⟩
theorem fX1_least_44 : zfl wzX1_least RX1 vwCl 44 8 10 := ⟨_, _, _, rfl, (fun w h => List.mem_cons_of_mem _ (zWuX8 w h)), by decide, List.mem_cons_of_mem _ (zWi_8 _ (List.mem_of_getElem? (i := 0) rfl))⟩
theorem kX1_least_54 (d : Nat) : ∀ (s9 : State) (a9 : Array Value), (∀ w ∈ wzX1_least, w.before a9 s9 = true) → CallW (rmX1_least (d + 1)) s9 a9 RX1 RX1 54 yX1_dryWith cX1_dryWith 5 (some .int) wzX1_dryWith (rmX1_dryWith d) 0 0 3 := zcV (zWi_20 _ (List.mem_of_getElem? (i := 46) rfl)) (zWi_15 _ (List.mem_of_getElem? (i := 39) rfl)) (zWi_25 _ (List.mem_of_getElem? (i := 24) rfl)) (zWi_12 _ (List.mem_of_getElem? (i := 10) rfl)) (zWi_4 _ (List.mem_of_getElem? (i := 22) rfl)) (by decide +kernel) rfl rfl ⟨(by simp only [rmX1_least, rmX1_dryWith]; omega), (by simp only [rmX1_least, rmX1_dryWith]; omega)⟩
theorem kX1_least_58 : zml_mmin wzX1_least RX1 58 := ⟨List.mem_cons_of_mem _ (zWi_20 _ (List.mem_of_getElem? (i := 47) rfl)), List.mem_cons_of_mem _ (zWi_30 _ (List.mem_of_getElem? (i := 3) rfl)), List.mem_cons_of_mem _ (zWi_12 _ (List.mem_of_getElem? (i := 0) rfl)), List.mem_cons_of_mem _ (zWi_0 _ (List.mem_of_getElem? (i := 28) rfl))⟩
theorem fX1_firstFilled_15 : zfl wzX1_firstFilled RX1 vwCl 15 1 0 := ⟨_, _, _, rfl, (fun w h => List.mem_cons_of_mem _ (zWuX1 w h)), by decide, List.mem_cons_of_mem _ (zWi_7 _ (List.mem_of_getElem? (i := 49) rfl))⟩
theorem fX1_firstFilled_44 : zfl wzX1_firstFilled RX1 vwCl 44 8 10 := ⟨_, _, _, rfl, (fun w h => List.mem_cons_of_mem _ (zWuX8 w h)), by decide, List.mem_cons_of_mem _ (zWi_8 _ (List.mem_of_getElem? (i := 0) rfl))⟩
theorem kX1_firstFilled_26 : ∀ (s9 : State) (a9 : Array Value), (∀ w ∈ wzX1_firstFilled, w.before a9 s9 = true) → CallW rmX1_firstFilled s9 a9 RX1 RX1 26 yX1_least cX1_least 7 (some .int) wzX1_least (rmX1_least 16) 0 0 2 := zcV (zWi_20 _ (List.mem_of_getElem? (i := 41) rfl)) (zWi_15 _ (List.mem_of_getElem? (i := 44) rfl)) (zWi_25 _ (List.mem_of_getElem? (i := 28) rfl)) (zWi_12 _ (List.mem_of_getElem? (i := 10) rfl)) (zWi_4 _ (List.mem_of_getElem? (i := 27) rfl)) (by decide +kernel) rfl rfl ⟨Nat.le_of_ble_eq_true rfl, Nat.le_of_ble_eq_true rfl⟩
theorem kX1_firstFilled_54 : ∀ (s9 : State) (a9 : Array Value), (∀ w ∈ wzX1_firstFilled, w.before a9 s9 = true) → CallW rmX1_firstFilled s9 a9 RX1 RX1 54 yX1_dryWith cX1_dryWith 5 (some .int) wzX1_dryWith (rmX1_dryWith 15) 0 0 3 := zcV (zWi_20 _ (List.mem_of_getElem? (i := 46) rfl)) (zWi_15 _ (List.mem_of_getElem? (i := 39) rfl)) (zWi_25 _ (List.mem_of_getElem? (i := 24) rfl)) (zWi_12 _ (List.mem_of_getElem? (i := 10) rfl)) (zWi_4 _ (List.mem_of_getElem? (i := 22) rfl)) (by decide +kernel) rfl rfl ⟨Nat.le_of_ble_eq_true rfl, Nat.le_of_ble_eq_true rfl⟩
theorem kX1_filledOn_19 : ∀ (s9 : State) (a9 : Array Value), (∀ w ∈ wzX1_filledOn, w.before a9 s9 = true) → CallW rmX1_filledOn s9 a9 RX1 RX1 19 yX1_forget cX1_forget 1 none wzX1_forget rmX1_forget 0 0 0 := zcV (zWi_20 _ (List.mem_of_getElem? (i := 39) rfl)) (zWi_15 _ (List.mem_of_getElem? (i := 42) rfl)) (zWi_25 _ (List.mem_of_getElem? (i := 27) rfl)) (zWi_12 _ (List.mem_of_getElem? (i := 10) rfl)) (zWi_4 _ (List.mem_of_getElem? (i := 25) rfl)) (by decide +kernel) rfl rfl ⟨Nat.le_of_ble_eq_true rfl, Nat.le_of_ble_eq_true rfl⟩
theorem kX1_filledOn_22 : ∀ (s9 : State) (a9 : Array Value), (∀ w ∈ wzX1_filledOn, w.before a9 s9 = true) → CallW rmX1_filledOn s9 a9 RX1 RX1 22 yX1_atFirst cX1_atFirst 3 (some .int) wzX1_atFirst rmX1_atFirst 0 0 0 := zcV (zWi_20 _ (List.mem_of_getElem? (i := 40) rfl)) (zWi_15 _ (List.mem_of_getElem? (i := 38) rfl)) (zWi_25 _ (List.mem_of_getElem? (i := 23) rfl)) (zWi_12 _ (List.mem_of_getElem? (i := 10) rfl)) (zWi_4 _ (List.mem_of_getElem? (i := 21) rfl)) (by decide +kernel) rfl rfl ⟨Nat.le_of_ble_eq_true rfl, Nat.le_of_ble_eq_true rfl⟩
theorem kX1_filledOn_30 : ∀ (s9 : State) (a9 : Array Value), (∀ w ∈ wzX1_filledOn, w.before a9 s9 = true) → CallW rmX1_filledOn s9 a9 RX1 RX1 30 yX1_firstFilled cX1_firstFilled 5 (some .int) wzX1_firstFilled rmX1_firstFilled 0 0 2 := zcV (zWi_20 _ (List.mem_of_getElem? (i := 42) rfl)) (zWi_15 _ (List.mem_of_getElem? (i := 41) rfl)) (zWi_25 _ (List.mem_of_getElem? (i := 26) rfl)) (zWi_12 _ (List.mem_of_getElem? (i := 10) rfl)) (zWi_4 _ (List.mem_of_getElem? (i := 24) rfl)) (by decide +kernel) rfl rfl ⟨Nat.le_of_ble_eq_true rfl, Nat.le_of_ble_eq_true rfl⟩
theorem kX1_filledOn_33 : ∀ (s9 : State) (a9 : Array Value), (∀ w ∈ wzX1_filledOn, w.before a9 s9 = true) → CallW rmX1_filledOn s9 a9 RX1 RX1 33 yX1_step cX1_step 8 (some .int) wzX1_step rmX1_step 0 0 2 := zcV (zWi_20 _ (List.mem_of_getElem? (i := 43) rfl)) (zWi_15 _ (List.mem_of_getElem? (i := 46) rfl)) (zWi_25 _ (List.mem_of_getElem? (i := 30) rfl)) (zWi_12 _ (List.mem_of_getElem? (i := 10) rfl)) (zWi_4 _ (List.mem_of_getElem? (i := 29) rfl)) (by decide +kernel) rfl rfl ⟨Nat.le_of_ble_eq_true rfl, Nat.le_of_ble_eq_true rfl⟩
theorem kX1_leastDry_19 : ∀ (s9 : State) (a9 : Array Value), (∀ w ∈ wzX1_leastDry, w.before a9 s9 = true) → CallW rmX1_leastDry s9 a9 RX1 RX1 19 yX1_forget cX1_forget 1 none wzX1_forget rmX1_forget 0 0 0 := zcV (zWi_20 _ (List.mem_of_getElem? (i := 39) rfl)) (zWi_15 _ (List.mem_of_getElem? (i := 42) rfl)) (zWi_25 _ (List.mem_of_getElem? (i := 27) rfl)) (zWi_12 _ (List.mem_of_getElem? (i := 10) rfl)) (zWi_4 _ (List.mem_of_getElem? (i := 25) rfl)) (by decide +kernel) rfl rfl ⟨Nat.le_of_ble_eq_true rfl, Nat.le_of_ble_eq_true rfl⟩
theorem kX1_leastDry_22 : ∀ (s9 : State) (a9 : Array Value), (∀ w ∈ wzX1_leastDry, w.before a9 s9 = true) → CallW rmX1_leastDry s9 a9 RX1 RX1 22 yX1_atFirst cX1_atFirst 3 (some .int) wzX1_atFirst rmX1_atFirst 0 0 0 := zcV (zWi_20 _ (List.mem_of_getElem? (i := 40) rfl)) (zWi_15 _ (List.mem_of_getElem? (i := 38) rfl)) (zWi_25 _ (List.mem_of_getElem? (i := 23) rfl)) (zWi_12 _ (List.mem_of_getElem? (i := 10) rfl)) (zWi_4 _ (List.mem_of_getElem? (i := 21) rfl)) (by decide +kernel) rfl rfl ⟨Nat.le_of_ble_eq_true rfl, Nat.le_of_ble_eq_true rfl⟩
theorem kX1_leastDry_26 : ∀ (s9 : State) (a9 : Array Value), (∀ w ∈ wzX1_leastDry, w.before a9 s9 = true) → CallW rmX1_leastDry s9 a9 RX1 RX1 26 yX1_least cX1_least 7 (some .int) wzX1_least (rmX1_least 16) 0 0 2 := zcV (zWi_20 _ (List.mem_of_getElem? (i := 41) rfl)) (zWi_15 _ (List.mem_of_getElem? (i := 44) rfl)) (zWi_25 _ (List.mem_of_getElem? (i := 28) rfl)) (zWi_12 _ (List.mem_of_getElem? (i := 10) rfl)) (zWi_4 _ (List.mem_of_getElem? (i := 27) rfl)) (by decide +kernel) rfl rfl ⟨Nat.le_of_ble_eq_true rfl, Nat.le_of_ble_eq_true rfl⟩
def mnU (f : Nat → Nat) : Nat → Nat
  | 0 => 63
  | k + 1 => min (mnU f k) (f k)
/-- the least dry machines of d days -/
def lst (M : zM) : Nat → Nat → Nat
  | 0, _ => 0
  | d + 1, c => mnU (fun m => drU M c m (nM M) + lst M d (nxU M c m (nM M))) (nM M)
def dryW (M : zM) (d c m : Nat) : Nat := drU M c m (nM M) + lst M d (nxU M c m (nM M))
theorem mnU_le {f : Nat → Nat} {i : Nat} : ∀ n, i < n → mnU f n ≤ f i
  | 0, h => by omega
  | n + 1, h => by
    simp only [mnU]
    by_cases e : i = n
    · rw [e]; omega
    · have := mnU_le (f := f) (i := i) n (by omega)
      omega
theorem mnU_63 (f : Nat → Nat) : ∀ n, mnU f n ≤ 63
  | 0 => Nat.le_refl _
  | n + 1 => by
    have := mnU_63 f n
    simp only [mnU]
    omega
theorem lst_r {M : zM} (hm : ICm M) (h1 : 1 ≤ nM M) : ∀ d c, lst M d c ≤ 4 * d
  | 0, c => by simp [lst]
  | d + 1, c => by
    have a := mnU_le (f := fun m => drU M c m (nM M) + lst M d (nxU M c m (nM M))) (i := 0) (nM M) (by omega)
    have b := dr_r M c 0 (nM M)
    have e := lst_r hm h1 d (nxU M c 0 (nM M))
    have h4 : nM M ≤ 4 := by have := hm.1; unfold nM; omega
    simp only [lst]
    omega
theorem dryW_r {M : zM} (hm : ICm M) (h1 : 1 ≤ nM M) (d c m : Nat) : dryW M d c m ≤ 4 * d + 4 := by
  have b := dr_r M c m (nM M)
  have e := lst_r hm h1 d (nxU M c m (nM M))
  have h4 : nM M ≤ 4 := by have := hm.1; unfold nM; omega
  unfold dryW
  omega
def KI (N T : zM) : Prop := ∀ c, c < 1296 → ∀ e, e < 8 → fld (T 66 c) (6 * e) = 63 ∨ fld (T 66 c) (6 * e) = (lst N (e + 1) c : Nat)
def lsQ (N M M' : zM) (d : Nat) : Prop := (∀ k, k ≠ 66 → M' k = M k) ∧ KI N M' ∧ ∀ c, c < 1296 → ∀ e, d ≤ e → e < 8 → fld (M' 66 c) (6 * e) = fld (M 66 c) (6 * e)
theorem lsQ.rf {N M : zM} {d : Nat} (h : KI N M) : lsQ N M M d := ⟨fun _ _ => rfl, h, fun _ _ _ _ _ => rfl⟩
theorem lsQ.tr {N M T U : zM} {d : Nat} (h : lsQ N M T d) (g : lsQ N T U d) : lsQ N M U d := ⟨fun k hk => by rw [g.1 k hk, h.1 k hk], g.2.1, fun c hc e h1 h2 => by rw [g.2.2 c hc e h1 h2, h.2.2 c hc e h1 h2]⟩
theorem lsQ.up {N M T : zM} {d d' : Nat} (h : lsQ N M T d) (hd : d ≤ d') : lsQ N M T d' := ⟨h.1, h.2.1, fun c hc e h1 h2 => h.2.2 c hc e (by omega) h2⟩
theorem lsQ.ag {N M T : zM} {d : Nat} (h : lsQ N M T d) (a : AG N M) : AG N T := fun k hk => by rw [h.1 k (by omega)]; exact a k hk
theorem AG.m {M N : zM} (h : AG M N) (hm : ICm M) : ICm N := by
  unfold ICm at *
  rw [h 1 (by decide), h 34 (by decide), h 35 (by decide)]
  exact hm
theorem ag_nM {M N : zM} (h : AG M N) : nM N = nM M := by unfold nM; rw [h 1 (by decide)]
theorem ag_lfA {M N : zM} (h : AG M N) (c m k : Nat) : lfA N c m k = lfA M c m k := by unfold lfA; rw [h 35 (by decide)]
theorem ag_drU {M N : zM} (h : AG M N) (c m : Nat) : ∀ k, drU N c m k = drU M c m k
  | 0 => rfl
  | k + 1 => by simp only [drU]; rw [ag_drU h c m k, ag_lfA h]
theorem ag_nxU {M N : zM} (h : AG M N) (c m : Nat) : ∀ k, nxU N c m k = nxU M c m k
  | 0 => rfl
  | k + 1 => by simp only [nxU]; rw [ag_nxU h c m k, ag_lfA h]
theorem bmod64 (x : Int) : (x.bmod 4294967296) % 64 = x % 64 := by
  rw [Int.bmod_def]
  split <;> omega
theorem xor63 : ∀ f, f < 64 → 63 ^^^ f = 63 - f := by decide
def sp_X1_least (e : Nat) (as : List zV) (M : zM) (Q : Option zV → zM → Prop) : Prop := ∃ (d c : Nat) (N : zM), as = [zR 65, zI d, zI c] ∧ 2 * d ≤ e ∧ d ≤ 8 ∧ c < 1296 ∧ ICm N ∧ 1 ≤ nM N ∧ AG N M ∧ KI N M ∧ ∀ (r : Option zV) (M' : zM), (r = some (zI (lst N d c : Nat)) ∧ lsQ N M M' d) → Q r M'
theorem us_X1_least {e d c : Nat} {N M : zM} {Q : Option zV → zM → Prop} (h1 : 2 * d ≤ e) (h2 : d ≤ 8) (h3 : c < 1296) (hm : ICm N) (hn : 1 ≤ nM N) (ag : AG N M) (hk : KI N M) (h : ∀ (r : Option zV) (M' : zM), (r = some (zI (lst N d c : Nat)) ∧ lsQ N M M' d) → Q r M') : sp_X1_least e [zR 65, zI d, zI c] M Q := ⟨d, c, N, rfl, h1, h2, h3, hm, hn, ag, hk, h⟩
def sp_X1_dryWith (e : Nat) (as : List zV) (M : zM) (Q : Option zV → zM → Prop) : Prop := ∃ (d c m : Nat) (N : zM), as = [zR 65, zI ((d : Int) + 1), zI c, zI m] ∧ 2 * d + 1 ≤ e ∧ d < 8 ∧ c < 1296 ∧ ICm N ∧ 1 ≤ nM N ∧ AG N M ∧ KI N M ∧ ∀ (r : Option zV) (M' : zM), (r = some (zI (dryW N d c m : Nat)) ∧ lsQ N M M' d) → Q r M'
theorem us_X1_dryWith {e d c m : Nat} {N M : zM} {Q : Option zV → zM → Prop} (h1 : 2 * d + 1 ≤ e) (h2 : d < 8) (h3 : c < 1296) (hm : ICm N) (hn : 1 ≤ nM N) (ag : AG N M) (hk : KI N M) (h : ∀ (r : Option zV) (M' : zM), (r = some (zI (dryW N d c m : Nat)) ∧ lsQ N M M' d) → Q r M') : sp_X1_dryWith e [zR 65, zI ((d : Int) + 1), zI c, zI m] M Q := ⟨d, c, m, N, rfl, h1, h2, h3, hm, hn, ag, hk, h⟩
theorem st_X1_dryWith (l : Launch) (e : Nat) (IH : zC l yX1_least wzX1_least (rmX1_least e) (sp_X1_least e)) : zC l yX1_dryWith wzX1_dryWith (rmX1_dryWith (e + 1)) (sp_X1_dryWith (e + 1)) := by
  refine zMet.of RX1 (by decide +kernel) rfl rfl ?_
  intro E X as M Qp hX S hsp
  obtain ⟨d, c, m, N, rfl, h1, h2, h3, hm, hn, ag, hk, hQ⟩ := hsp
  refine ⟨Nat.le_of_ble_eq_true rfl, ?_⟩
  dsimp only [zpad, zargs]
  have IH2 : zC X.2.1 yX1_least wzX1_least (rmX1_least e) (sp_X1_least e) := by rw [hX]; exact IH
  have b := dr_r N c m (nM N)
  have x := nx_1296 hm c m
  have h4 : nM N ≤ 4 := by have := hm.1; unfold nM; omega
  have lr := lst_r hm hn d (nxU N c m (nM N))
  have es : 1296 * drU M c m (nM M) + nxU M c m (nM M) = 1296 * drU N c m (nM N) + nxU N c m (nM N) := by rw [ag_nM ag, ag_drU ag, ag_nxU ag]
  have ed : ((1296 * drU N c m (nM N) + nxU N c m (nM N) : Nat) : Int) / 1296 = (drU N c m (nM N) : Nat) := by omega
  have ex : ((1296 * drU N c m (nM N) + nxU N c m (nM N) : Nat) : Int) % 1296 = (nxU N c m (nM N) : Nat) := by omega
  have e1 : (d : Int) + 1 - 1 = d := by omega
  have ef : ((drU N c m (nM N) : Nat) : Int) + (lst N d (nxU N c m (nM N)) : Nat) = (dryW N d c m : Nat) := by unfold dryW; omega
  refine zr_aload_n (pc := 0) S dX1_dryWith_0 rfl ?_
  refine zr_iload_n (pc := 1) S dX1_dryWith_1 rfl ?_
  refine zr_iload_n (pc := 2) S dX1_dryWith_2 rfl ?_
  refine zr_invV (pc := 3) S [zI _, zI _] (m_X1_step _) (kX1_dryWith_33 (e + 1)) dX1_dryWith_3 rfl (Nat.le_of_ble_eq_true rfl) rfl (Nat.le_of_ble_eq_true rfl) ⟨Nat.le_of_ble_eq_true rfl, Nat.le_of_ble_eq_true rfl⟩ (us_X1_step (ag.m hm) h3 ?_)
  dsimp only [zaft, Option.toList, List.cons_append, List.nil_append, Nat.add_zero]
  rw [es]
  refine zr_istore (pc := 6) S dX1_dryWith_6 (by decide) ?_
  dsimp only [zst1, zst2, zset, zget, zlong]
  refine zr_iload (pc := 8) S dX1_dryWith_8 rfl ?_
  refine zr_sipush (pc := 10) S dX1_dryWith_10 ⟨by unfold zrI; omega, by decide⟩ ?_
  refine zr_idiv (pc := 13) S dX1_dryWith_13 (by omega) (by omega) ?_
  rw [ed]
  refine zr_aload_n (pc := 14) S dX1_dryWith_14 rfl ?_
  refine zr_iload_n (pc := 15) S dX1_dryWith_15 rfl ?_
  refine zr_iconst (pc := 16) S dX1_dryWith_16 (by unfold zrI; omega) ?_
  refine zr_isub (pc := 17) S dX1_dryWith_17 (by unfold zrI; omega) ?_
  rw [e1]
  refine zr_iload (pc := 18) S dX1_dryWith_18 rfl ?_
  refine zr_sipush (pc := 20) S dX1_dryWith_20 ⟨by unfold zrI; omega, by decide⟩ ?_
  refine zr_irem (pc := 23) S dX1_dryWith_23 (by omega) (by omega) ?_
  rw [ex]
  refine zr_invV (pc := 24) S [zI _, zI _] IH2 (kX1_dryWith_26 (e)) dX1_dryWith_24 rfl (Nat.le_of_ble_eq_true rfl) rfl (Nat.le_of_ble_eq_true rfl) ⟨Nat.le_of_ble_eq_true rfl, Nat.le_of_ble_eq_true rfl⟩ (us_X1_least (N := N) (by omega) (by omega) x hm hn ag hk ?_)
  dsimp only [zaft, Option.toList, List.cons_append, List.nil_append, Nat.add_zero]
  rintro r T ⟨rfl, hT⟩
  dsimp only [zaft, Option.toList, List.cons_append, List.nil_append]
  have q := hQ _ T ⟨rfl, hT⟩
  refine zr_iadd (pc := 27) S dX1_dryWith_27 (by unfold zrI; omega) ?_
  rw [ef]
  exact zr_iret (pc := 28) S dX1_dryWith_28 rfl ⟨Nat.le_refl _, Nat.le_refl _⟩ (q)
theorem lp_X1_least {E : zE} {X : zX} {Qp : Option zV → zM → Prop} {N M : zM} {e d c : Nat} {l3 : Option zV} {x4 : Int} (S : zS (zg E) X cX1_least 7 wzX1_least RX1 (some .int)) (IH : zC X.2.1 yX1_dryWith wzX1_dryWith (rmX1_dryWith e) (sp_X1_dryWith e)) (h1 : 2 * d + 1 ≤ e) (h2 : d < 8) (h3 : c < 1296) (hm : ICm N) (hn : 1 ≤ nM N) (ag : AG N M) (hk : ∀ (T : zM) (u6 : Option zV), lsQ N M T d → zK (zg E) (rmX1_least (e + 1)) 7 (Qp, 0, 0) X (0, 0) 77 [some (zR 65), some (zI ((d : Int) + 1)), some (zI c), l3, some (zI x4), some (zI (lst N (d + 1) c : Nat)), u6] [] T) : ∀ (n k : Nat) (T : zM), n + k = nM N → lsQ N M T d → zK (zg E) (rmX1_least (e + 1)) 7 (Qp, 0, 0) X (0, 0) 44 [some (zR 65), some (zI ((d : Int) + 1)), some (zI c), l3, some (zI x4), some (zI (mnU (dryW N d c) k : Nat)), some (zI k)] [] T := by
  have h4 := hm.1
  intro n
  induction n with
  | zero =>
    intro k T hkk hT
    have e2 : T 1 = N 1 := hT.ag ag _ (by decide)
    have q := hk T (some (zI k)) hT
    have ee : lst N (d + 1) c = mnU (dryW N d c) k := by
      rw [show k = nM N by omega]
      rfl
    rw [ee] at q
    refine zr_iload (pc := 44) S dX1_least_44 rfl ?_
    refine zr_aload_n (pc := 46) S dX1_least_46 rfl ?_
    refine zr_getR (pc := 47) S fX1_least_15 dX1_least_47 rfl (Nat.le_of_ble_eq_true rfl) rfl ?_
    refine zr_getI (pc := 50) S fX1_least_44 dX1_least_50 rfl (Nat.le_of_ble_eq_true rfl) rfl ?_
    rw [e2]
    have hmm : N 1 10 = (nM N : Nat) := by unfold nM; omega
    refine zr_icmp_ge (pc := 53) (tgt := 77) S dX1_least_53 (by decide) (fun c53 => ?_) (fun c53 => absurd c53 (by omega))
    exact q
  | succ n ih =>
    intro k T hkk hT
    have e2 : T 1 = N 1 := hT.ag ag _ (by decide)
    have hmm : N 1 10 = (nM N : Nat) := by unfold nM; omega
    have b := dryW_r hm hn d c k
    have m63 := mnU_63 (dryW N d c) k
    have em : min ((mnU (dryW N d c) k : Nat) : Int) ((dryW N d c k : Nat) : Int) = (mnU (dryW N d c) (k + 1) : Nat) := by simp only [mnU]; omega
    refine zr_iload (pc := 44) S dX1_least_44 rfl ?_
    refine zr_aload_n (pc := 46) S dX1_least_46 rfl ?_
    refine zr_getR (pc := 47) S fX1_least_15 dX1_least_47 rfl (Nat.le_of_ble_eq_true rfl) rfl ?_
    refine zr_getI (pc := 50) S fX1_least_44 dX1_least_50 rfl (Nat.le_of_ble_eq_true rfl) rfl ?_
    rw [e2]
    refine zr_icmp_ge (pc := 53) (tgt := 77) S dX1_least_53 (by decide) (fun c53 => absurd c53 (by omega)) (fun c53 => ?_)
    refine zr_iload (pc := 56) S dX1_least_56 rfl ?_
    refine zr_aload_n (pc := 58) S dX1_least_58 rfl ?_
    refine zr_iload_n (pc := 59) S dX1_least_59 rfl ?_
    refine zr_iload_n (pc := 60) S dX1_least_60 rfl ?_
    refine zr_iload (pc := 61) S dX1_least_61 rfl ?_
    refine zr_invV (pc := 63) S [zI _, zI _, zI _] IH (kX1_least_54 (e)) dX1_least_63 rfl (Nat.le_of_ble_eq_true rfl) rfl (Nat.le_of_ble_eq_true rfl) ⟨Nat.le_of_ble_eq_true rfl, Nat.le_of_ble_eq_true rfl⟩ (us_X1_dryWith (N := N) h1 h2 h3 hm hn (hT.ag ag) hT.2.1 ?_)
    dsimp only [zaft, Option.toList, List.cons_append, List.nil_append, Nat.add_zero]
    rintro r T2 ⟨rfl, hT2⟩
    dsimp only [zaft, Option.toList, List.cons_append, List.nil_append]
    have q := ih (k + 1) T2 (by omega) (hT.tr hT2)
    refine zr_mmin (pc := 66) S kX1_least_58 dX1_least_66 (by simp only [rmX1_least, zdep, zcat2]; omega) (by simp only [rmX1_least, zdep, zcat2]; omega) ⟨Nat.le_of_ble_eq_true rfl, Nat.le_of_ble_eq_true rfl⟩ ?_
    rw [em]
    refine zr_istore (pc := 69) S dX1_least_69 (by decide) ?_
    dsimp only [zst1, zst2, zset, zget, zlong]
    refine zr_iinc (pc := 71) S dX1_least_71 rfl (by unfold zrI; omega) (by decide) ?_
    dsimp only [zst1, zst2, zset, zget, zlong]
    refine zr_goto (pc := 74) (tgt := 44) S dX1_least_74 (by decide) ?_
    exact q
theorem st_X1_least (l : Launch) (e : Nat) (IH : zC l yX1_dryWith wzX1_dryWith (rmX1_dryWith e) (sp_X1_dryWith e)) : zC l yX1_least wzX1_least (rmX1_least (e + 1)) (sp_X1_least (e + 1)) := by
  refine zMet.of RX1 (by decide +kernel) rfl rfl ?_
  intro E X as M Qp hX S hsp
  obtain ⟨d, c, N, rfl, h1, h2, h3, hm, hn, ag, hk, hQ⟩ := hsp
  refine ⟨Nat.le_of_ble_eq_true rfl, ?_⟩
  dsimp only [zpad, zargs]
  have IH2 : zC X.2.1 yX1_dryWith wzX1_dryWith (rmX1_dryWith e) (sp_X1_dryWith e) := by rw [hX]; exact IH
  by_cases h0 : d = 0
  · subst h0
    have q := hQ _ M ⟨rfl, lsQ.rf hk⟩
    refine zr_iload_n (pc := 0) S dX1_least_0 rfl ?_
    refine zr_if_gt (pc := 1) (tgt := 6) S dX1_least_1 (by decide) (fun c1 => absurd c1 (by omega)) (fun c1 => ?_)
    refine zr_iconst (pc := 4) S dX1_least_4 (by unfold zrI; omega) ?_
    exact zr_iret (pc := 5) S dX1_least_5 rfl ⟨Nat.le_refl _, Nat.le_refl _⟩ (q)
  · obtain ⟨d, rfl⟩ : ∃ k, d = k + 1 := ⟨d - 1, by omega⟩
    have ed : ((d + 1 : Nat) : Int) = (d : Int) + 1 := by omega
    have es : ((6 : Int) * ((d : Int) + 1 - 1)).toNat = 6 * d := by omega
    have ecn : (c : Int).toNat = c := Int.toNat_natCast c
    have ep6 : (2 : Int) ^ 6 = 64 := by decide
    have lr := lst_r hm hn (d + 1) c
    have kc := hk c h3 d (by omega)
    have ef : M 66 c / 2 ^ (6 * d) % 64 = fld (M 66 c) (6 * d) := rfl
    rw [ed]
    have tail : fld (M 66 c) (6 * d) = 63 → ∀ (T : zM) (u6 : Option zV), lsQ N M T d → zK (zg E) (rmX1_least (e + 1)) 7 (Qp, 0, 0) X (0, 0) 77 [some (zR 65), some (zI ((d : Int) + 1)), some (zI c), some (zI ((6 : Int) * ((d : Int) + 1 - 1))), some (zI (fld (M 66 c) (6 * d))), some (zI (lst N (d + 1) c : Nat)), u6] [] T := fun h63 T u6 hT => by
      have f63 : fld (T 66 c) (6 * d) = 63 := by rw [hT.2.2 c h3 d (Nat.le_refl _) (by omega)]; exact h63
      have ex : ((Int.toNat 63 ^^^ ((lst N (d + 1) c : Nat) : Int).toNat : Nat) : Int) = 63 - (lst N (d + 1) c : Nat) := by
        rw [Int.toNat_natCast]
        show ((63 ^^^ lst N (d + 1) c : Nat) : Int) = _
        rw [xor63 _ (by omega)]
        omega
      have q := hQ (some (zI (lst N (d + 1) c : Nat))) (zup T 66 c (T 66 c - (63 - (lst N (d + 1) c : Nat)) * 2 ^ (6 * d))) ⟨rfl, fun k hk' => by rw [zup_o k hk']; exact hT.1 k hk', fun c' hc' e' he' => by
        by_cases ec : c' = c
        · subst ec
          rw [zup_e]
          by_cases ee : e' = d
          · subst ee
            right
            rw [fld_n (by omega) (by omega) f63]
            omega
          · have same : fld (T 66 c' - (63 - (lst N (d + 1) c' : Nat)) * 2 ^ (6 * d)) (6 * e') = fld (T 66 c') (6 * e') := by
              by_cases el : e' < d
              · exact fld_l (by omega)
              · exact fld_h (by omega) (by omega) f63 (by omega)
            rw [same]
            exact hT.2.1 c' h3 e' he'
        · rw [zup_j ec]
          exact hT.2.1 c' hc' e' he', fun c' hc' e' h1' h2' => by
        by_cases ec : c' = c
        · subst ec
          rw [zup_e, fld_h (by omega) (by omega) f63 (by omega)]
          exact hT.2.2 c' hc' e' (by omega) h2'
        · rw [zup_j ec]
          exact hT.2.2 c' hc' e' (by omega) h2'⟩
      have pl : (63 - ((lst N (d + 1) c : Nat) : Int)) * 2 ^ (6 * d) ≤ 63 * 4398046511104 ∧ 0 ≤ (63 - ((lst N (d + 1) c : Nat) : Int)) * 2 ^ (6 * d) := by
        have p1 : (2 : Nat) ^ (6 * d) ≤ 2 ^ 42 := Nat.pow_le_pow_right (by omega) (by omega)
        have p2 : ((2 ^ (6 * d) : Nat) : Int) = (2 : Int) ^ (6 * d) := by simp
        have p3 : (0 : Int) < 2 ^ (6 * d) := Int.pow_pos (by omega)
        have := zmulr (a := 63 - ((lst N (d + 1) c : Nat) : Int)) (A := 63) (b := (2 : Int) ^ (6 * d)) (B := 4398046511104) (by omega) (by omega) (by omega) (by omega)
        omega
      refine zr_aload_n (pc := 77) S dX1_least_77 rfl ?_
      refine zr_getR (pc := 78) S fX1_least_11 dX1_least_78 rfl (Nat.le_of_ble_eq_true rfl) rfl ?_
      refine zr_iload_n (pc := 81) S dX1_least_81 rfl ?_
      refine zr_dup2 (pc := 82) S dX1_least_82 rfl rfl ?_
      refine zr_laload (pc := 83) S dX1_least_83 rfl (Nat.le_of_ble_eq_true rfl) (by omega) (by omega) ?_
      rw [ecn]
      refine zr_bipush (pc := 84) S dX1_least_84 ⟨by unfold zrI; omega, by decide⟩ ?_
      refine zr_iload (pc := 86) S dX1_least_86 rfl ?_
      refine zr_ixor (pc := 88) S dX1_least_88 (by omega) (by omega) ?_
      rw [ex]
      refine zr_i2l (pc := 89) S dX1_least_89 ?_
      refine zr_iload_n (pc := 90) S dX1_least_90 rfl ?_
      refine zr_lshl (pc := 91) S dX1_least_91 (by omega) (by omega) (by rw [es]; unfold zrL; omega) ?_
      rw [es]
      refine zr_lxorm (pc := 92) S dX1_least_92 (by omega) (by omega) (by omega) f63 ?_
      intro hxr
      refine zr_lastore (pc := 93) S dX1_least_93 rfl (Nat.le_of_ble_eq_true rfl) (by omega) (by omega) ?_
      rw [ecn]
      refine zr_iload (pc := 94) S dX1_least_94 rfl ?_
      exact zr_iret (pc := 96) S dX1_least_96 rfl ⟨Nat.le_refl _, Nat.le_refl _⟩ (q)
    have q0 := fun h63 => lp_X1_least S IH2 (by omega) (by omega) h3 hm hn ag (tail h63) (nM N) 0 M (by omega) (lsQ.rf hk)
    refine zr_iload_n (pc := 0) S dX1_least_0 rfl ?_
    refine zr_if_gt (pc := 1) (tgt := 6) S dX1_least_1 (by decide) (fun c1 => ?_) (fun c1 => absurd c1 (by omega))
    refine zr_bipush (pc := 6) S dX1_least_6 ⟨by unfold zrI; omega, by decide⟩ ?_
    refine zr_iload_n (pc := 8) S dX1_least_8 rfl ?_
    refine zr_iconst (pc := 9) S dX1_least_9 (by unfold zrI; omega) ?_
    refine zr_isub (pc := 10) S dX1_least_10 (by unfold zrI; omega) ?_
    refine zr_imul (pc := 11) S dX1_least_11 (by unfold zrI; omega) ?_
    refine zr_istore_n (pc := 12) S 3 dX1_least_12 rfl (by decide) ?_
    dsimp only [zst1, zst2, zset, zget, zlong]
    refine zr_aload_n (pc := 13) S dX1_least_13 rfl ?_
    refine zr_getR (pc := 14) S fX1_least_11 dX1_least_14 rfl (Nat.le_of_ble_eq_true rfl) rfl ?_
    refine zr_iload_n (pc := 17) S dX1_least_17 rfl ?_
    refine zr_laload (pc := 18) S dX1_least_18 rfl (Nat.le_of_ble_eq_true rfl) (by omega) (by omega) ?_
    rw [ecn]
    refine zr_iload_n (pc := 19) S dX1_least_19 rfl ?_
    refine zr_lshr (pc := 20) S dX1_least_20 (by omega) (by omega) ?_
    rw [es]
    refine zr_l2iw (pc := 21) S dX1_least_21 ?_
    refine zr_bipush (pc := 22) S dX1_least_22 ⟨by unfold zrI; omega, by decide⟩ ?_
    refine zr_iandm (pc := 24) S 6 dX1_least_24 (by decide) (by decide) ?_
    rw [ep6, bmod64, ef]
    refine zr_istore (pc := 25) S dX1_least_25 (by decide) ?_
    dsimp only [zst1, zst2, zset, zget, zlong]
    refine zr_iload (pc := 27) S dX1_least_27 rfl ?_
    refine zr_bipush (pc := 29) S dX1_least_29 ⟨by unfold zrI; omega, by decide⟩ ?_
    refine zr_icmp_eq (pc := 31) (tgt := 37) S dX1_least_31 (by decide) (fun c31 => ?_) (fun c31 => ?_)
    · have q1 := q0 c31
      refine zr_bipush (pc := 37) S dX1_least_37 ⟨by unfold zrI; omega, by decide⟩ ?_
      refine zr_istore (pc := 39) S dX1_least_39 (by decide) ?_
      dsimp only [zst1, zst2, zset, zget, zlong]
      refine zr_iconst (pc := 41) S dX1_least_41 (by unfold zrI; omega) ?_
      refine zr_istore (pc := 42) S dX1_least_42 (by decide) ?_
      dsimp only [zst1, zst2, zset, zget, zlong]
      exact q1
    · have q := hQ (some (zI (lst N (d + 1) c : Nat))) M ⟨rfl, lsQ.rf hk⟩
      rw [← (kc.resolve_left c31)] at q
      refine zr_iload (pc := 34) S dX1_least_34 rfl ?_
      exact zr_iret (pc := 36) S dX1_least_36 rfl ⟨Nat.le_refl _, Nat.le_refl _⟩ (q)
theorem m_X1_both (l : Launch) : ∀ e, zC l yX1_least wzX1_least (rmX1_least e) (sp_X1_least e) ∧ zC l yX1_dryWith wzX1_dryWith (rmX1_dryWith e) (sp_X1_dryWith e) := by
  intro e
  induction e with
  | zero =>
    constructor
    · refine zMet.of RX1 (by decide +kernel) rfl rfl ?_
      intro E X as M Qp hX S hsp
      obtain ⟨d, c, N, rfl, h1, h2, h3, hm, hn, ag, hk, hQ⟩ := hsp
      refine ⟨Nat.le_of_ble_eq_true rfl, ?_⟩
      dsimp only [zpad, zargs]
      have e0 : d = 0 := by omega
      subst e0
      have q := hQ _ M ⟨rfl, lsQ.rf hk⟩
      refine zr_iload_n (pc := 0) S dX1_least_0 rfl ?_
      refine zr_if_gt (pc := 1) (tgt := 6) S dX1_least_1 (by decide) (fun c1 => absurd c1 (by omega)) (fun c1 => ?_)
      refine zr_iconst (pc := 4) S dX1_least_4 (by unfold zrI; omega) ?_
      exact zr_iret (pc := 5) S dX1_least_5 rfl ⟨Nat.le_refl _, Nat.le_refl _⟩ (q)
    · refine zMet.of RX1 (by decide +kernel) rfl rfl ?_
      intro E X as M Qp hX S hsp
      obtain ⟨d, c, m, N, rfl, h1, h2, h3, hm, hn, ag, hk, hQ⟩ := hsp
      omega
  | succ e ih => exact ⟨st_X1_least l e ih.2, st_X1_dryWith l e ih.1⟩
theorem m_X1_least (l : Launch) (e : Nat) : zC l yX1_least wzX1_least (rmX1_least e) (sp_X1_least e) := (m_X1_both l e).1
theorem m_X1_dryWith (l : Launch) (e : Nat) : zC l yX1_dryWith wzX1_dryWith (rmX1_dryWith e) (sp_X1_dryWith e) := (m_X1_both l e).2
end
