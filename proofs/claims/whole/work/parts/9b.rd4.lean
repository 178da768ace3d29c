section
/-- the token behind place p is before the class's reader, and no fault is found -/
def curR (M : zM) (n p : Nat) : Prop := M 39 5 = n ∧ n ≤ 400 ∧ p ≤ n ∧ M 39 7 = (tS (cT M) n p : Nat) ∧ M 39 8 = (tE (cT M) n p : Nat) ∧ M 39 6 = tK (cT M) n p ∧ (tK (cT M) n p = 2 → M 39 9 = tV (cT M) (tS (cT M) n p) (tE (cT M) n p)) ∧ M 39 2 = 0 ∧ M 39 3 = -1
theorem axM.c {M M' : zM} {n p : Nat} (h : axM M M' n p) : cT M' = cT M := cT_o (h.1 _ (by decide))
theorem axM.cur {M M' : zM} {n p : Nat} (g : axM M M' n p) (h1 : M 39 5 = n) (h2 : n ≤ 400) (h3 : p ≤ n) (h8 : M 39 2 = 0) (h9 : M 39 3 = -1) : curR M' n p := by
  unfold curR
  rw [g.c]
  exact ⟨by rw [g.2.1 _ (by decide) (by decide) (by decide) (by decide)]; exact h1, h2, h3, g.2.2.1, g.2.2.2.1, g.2.2.2.2.1, g.2.2.2.2.2, by rw [g.2.1 _ (by decide) (by decide) (by decide) (by decide)]; exact h8, by rw [g.2.1 _ (by decide) (by decide) (by decide) (by decide)]; exact h9⟩
theorem curR.nx {M M' : zM} {n p : Nat} (h : curR M n p) (g : axM M M' n (tE (cT M) n p)) : curR M' n (tE (cT M) n p) :=
  g.cur h.1 h.2.1 (tE_r (t := cT M) h.2.2.1).2.1 h.2.2.2.2.2.2.2.1 h.2.2.2.2.2.2.2.2
/-- the draft's entries are of their kinds -/
def drV (M : zM) : Prop := ∀ g : Nat, g < 8 → 0 ≤ M 42 g ∧ M 42 g ≤ 2 ∧ 0 ≤ M 43 g ∧ M 43 g ≤ 99 ∧ 0 ≤ M 44 g ∧ M 44 g ≤ 99 ∧ -3 ≤ M 45 g ∧ M 45 g ≤ 7 ∧ -3 ≤ M 46 g ∧ M 46 g ≤ 7
def vld (c : Nat) (v : Int) : Prop := (c = 42 → 0 ≤ v ∧ v ≤ 2) ∧ (c = 43 → 0 ≤ v ∧ v ≤ 99) ∧ (c = 44 → 0 ≤ v ∧ v ≤ 99) ∧ (c = 45 → -3 ≤ v ∧ v ≤ 7) ∧ (c = 46 → -3 ≤ v ∧ v ≤ 7)
theorem drV.o {M M' : zM} (h : ∀ k, 42 ≤ k → k ≤ 46 → M' k = M k) (g : drV M) : drV M' := fun j hj => by
  have := g j hj
  rw [h 42 (by decide) (by decide), h 43 (by decide) (by decide), h 44 (by decide) (by decide), h 45 (by decide) (by decide), h 46 (by decide) (by decide)]
  exact this
theorem drV.up {M : zM} {c o : Nat} {v : Int} (hv : vld c v) (g : drV M) : drV (zup M c o v) := fun j hj => by
  have h := g j hj
  obtain ⟨v1, v2, v3, v4, v5⟩ := hv
  have e : ∀ k, zup M c o v k j = M k j ∨ (k = c ∧ zup M c o v k j = v) := fun k => by
    unfold zup
    by_cases c1 : k = c
    · by_cases c2 : j = o
      · exact Or.inr ⟨c1, by rw [if_pos c1, if_pos c2]⟩
      · exact Or.inl (by rw [if_pos c1, if_neg c2])
    · exact Or.inl (if_neg c1)
  have e42 := e 42
  have e43 := e 43
  have e44 := e 44
  have e45 := e 45
  have e46 := e 46
  refine ⟨?_, ?_, ?_, ?_, ?_, ?_, ?_, ?_, ?_, ?_⟩ <;> omega
/-- only the reader and its draft have changed -/
def rO (M M' : zM) : Prop := (∀ k, k ≠ 39 → (k < 41 ∨ 46 < k) → M' k = M k) ∧ (∀ j, j ≠ 7 → j ≠ 8 → j ≠ 6 → j ≠ 9 → j ≠ 2 → j ≠ 3 → M' 39 j = M 39 j) ∧ (drV M → drV M')
theorem rO.tr {A B C : zM} (h : rO A B) (g : rO B C) : rO A C := ⟨fun k a b => (g.1 k a b).trans (h.1 k a b), fun j a b c d e f => (g.2.1 j a b c d e f).trans (h.2.1 j a b c d e f), fun z => g.2.2 (h.2.2 z)⟩
theorem rO.rf (A : zM) : rO A A := ⟨fun _ _ _ => rfl, fun _ _ _ _ _ _ _ => rfl, fun z => z⟩
theorem rO.c {M M' : zM} (h : rO M M') : cT M' = cT M := cT_o (h.1 _ (by decide) (by decide))
theorem axM.o {M M' : zM} {n p : Nat} (h : axM M M' n p) : rO M M' := ⟨fun k a _ => h.1 k a, fun j a b c d _ _ => h.2.1 j a b c d, drV.o (fun k a b => h.1 k (by omega))⟩
theorem rblM.o (M : zM) (k : Int) : rO M (rblM M k) := ⟨fun c a _ => by unfold rblM; rw [zup_o c a, zup_o c a], fun j _ _ _ _ e f => by unfold rblM; rw [zup_j f, zup_j e], drV.o (fun c a b => by unfold rblM; rw [zup_o c (by omega), zup_o c (by omega)])⟩
theorem rO.dr (U : zM) {c : Nat} (o : Nat) (v : Int) (h : 41 ≤ c ∧ c ≤ 46) (hv : vld c v) : rO U (zup U c o v) := ⟨fun k _ k2 => zup_o k (by omega), fun j _ _ _ _ _ _ => by rw [zup_o _ (show (39 : Nat) ≠ c by omega)], drV.up hv⟩
theorem vld45 {c : Nat} {v : Int} (h : c = 45 ∨ c = 46) (hv : -3 ≤ v ∧ v ≤ 7) : vld c v := ⟨fun z => absurd z (by omega), fun z => absurd z (by omega), fun z => absurd z (by omega), fun _ => hv, fun _ => hv⟩
theorem curR.dr {U : zM} {n p c : Nat} (h : curR U n p) (o : Nat) (v : Int) (hc : 41 ≤ c ∧ c ≤ 46) : curR (zup U c o v) n p := by
  unfold curR
  rw [cT_o (zup_o _ (show (40 : Nat) ≠ c by omega)), zup_o _ (show (39 : Nat) ≠ c by omega)]
  exact h
def flR (M' : zM) (f : Int × Int) : Prop := M' 39 2 = f.1 ∧ M' 39 3 = f.2
theorem curR.bl {M : zM} {n p : Nat} (h : curR M n p) (k : Int) : flR (rblM M k) (blP (cT M) n p k) := by
  obtain ⟨h1, h2, h3, h4, h5, h6, h7, h8, h9⟩ := h
  unfold flR rblM blP
  exact ⟨by rw [zup_j (by decide), zup_e, h6], by rw [zup_e, h4]⟩
theorem us_rword {M : zM} {n p i : Nat} {Q : Option zV → zM → Prop} (hk : i < 10) (h : curR M n p) (hQ : Q (some (zI (b01 (wrd (cT M) n p i)))) M) : sp_X4_isWord [zR 39, zR (1000 + i)] M Q := by
  have r := tE_r (t := cT M) h.2.2.1
  have := h.2.1
  refine us_X4_isWord hk h.2.2.2.1 h.2.2.2.2.1 ⟨r.1, by omega⟩ ?_
  rw [h.2.2.2.2.2.1]
  exact hQ
def rmX4_readMeasure : Room := { frames := 5, cells := 0, slots := 0, locals := 107 }
abbrev wzX4_readMeasure : List Cond := .code yX4_readMeasure cX4_readMeasure 2 (some .boolean) :: zW
def rmX4_readBounds : Room := { frames := 3, cells := 0, slots := 0, locals := 61 }
abbrev wzX4_readBounds : List Cond := .code yX4_readBounds cX4_readBounds 2 (some .boolean) :: zW
def rmX4_readGoal : Room := { frames := 5, cells := 0, slots := 0, locals := 107 }
abbrev wzX4_readGoal : List Cond := .code yX4_readGoal cX4_readGoal 3 (some .boolean) :: zW
theorem fX4_readMeasure_22 : zfl wzX4_readMeasure RX4 vwCl 22 4 4 := ⟨_, _, _, rfl, (fun w h => List.mem_cons_of_mem _ (zWuX4 w h)), by decide, List.mem_cons_of_mem _ (zWi_10 _ (List.mem_of_getElem? (i := 12) rfl))⟩
theorem fX4_readMeasure_91 : zfl wzX4_readMeasure RX4 vwCl 91 2 1 := ⟨_, _, _, rfl, (fun w h => List.mem_cons_of_mem _ (zWuX2 w h)), by decide, List.mem_cons_of_mem _ (zWi_10 _ (List.mem_of_getElem? (i := 22) rfl))⟩
theorem kX4_readMeasure_59 : ∀ (s9 : State) (a9 : Array Value), (∀ w ∈ wzX4_readMeasure, w.before a9 s9 = true) → CallW rmX4_readMeasure s9 a9 RX4 RX4 59 yX4_isWord cX4_isWord 3 (some .boolean) wzX4_isWord rmX4_isWord 0 0 1 := zcV (zWi_23 _ (List.mem_of_getElem? (i := 49) rfl)) (zWi_16 _ (List.mem_of_getElem? (i := 11) rfl)) (zWi_28 _ (List.mem_of_getElem? (i := 40) rfl)) (zWi_12 _ (List.mem_of_getElem? (i := 16) rfl)) (zWi_4 _ (List.mem_of_getElem? (i := 45) rfl)) (by decide +kernel) rfl rfl ⟨Nat.le_of_ble_eq_true rfl, Nat.le_of_ble_eq_true rfl⟩
theorem kX4_readMeasure_63 : ∀ (s9 : State) (a9 : Array Value), (∀ w ∈ wzX4_readMeasure, w.before a9 s9 = true) → CallW rmX4_readMeasure s9 a9 RX4 RX4 63 yX4_blame cX4_blame 2 (some .boolean) wzX4_blame rmX4_blame 0 0 1 := zcV (zWi_24 _ (List.mem_of_getElem? (i := 0) rfl)) (zWi_16 _ (List.mem_of_getElem? (i := 6) rfl)) (zWi_28 _ (List.mem_of_getElem? (i := 36) rfl)) (zWi_12 _ (List.mem_of_getElem? (i := 16) rfl)) (zWi_4 _ (List.mem_of_getElem? (i := 40) rfl)) (by decide +kernel) rfl rfl ⟨Nat.le_of_ble_eq_true rfl, Nat.le_of_ble_eq_true rfl⟩
theorem kX4_readMeasure_47 : ∀ (s9 : State) (a9 : Array Value), (∀ w ∈ wzX4_readMeasure, w.before a9 s9 = true) → CallW rmX4_readMeasure s9 a9 RX4 RX4 47 yX4_advance cX4_advance 1 none wzX4_advance rmX4_advance 0 0 0 := zcV (zWi_23 _ (List.mem_of_getElem? (i := 47) rfl)) (zWi_16 _ (List.mem_of_getElem? (i := 4) rfl)) (zWi_28 _ (List.mem_of_getElem? (i := 34) rfl)) (zWi_12 _ (List.mem_of_getElem? (i := 16) rfl)) (zWi_4 _ (List.mem_of_getElem? (i := 38) rfl)) (by decide +kernel) rfl rfl ⟨Nat.le_of_ble_eq_true rfl, Nat.le_of_ble_eq_true rfl⟩
theorem fX4_readBounds_50 : zfl wzX4_readBounds RX4 vwCl 50 4 6 := ⟨_, _, _, rfl, (fun w h => List.mem_cons_of_mem _ (zWuX4 w h)), by decide, List.mem_cons_of_mem _ (zWi_10 _ (List.mem_of_getElem? (i := 18) rfl))⟩
theorem fX4_readBounds_22 : zfl wzX4_readBounds RX4 vwCl 22 4 4 := ⟨_, _, _, rfl, (fun w h => List.mem_cons_of_mem _ (zWuX4 w h)), by decide, List.mem_cons_of_mem _ (zWi_10 _ (List.mem_of_getElem? (i := 12) rfl))⟩
theorem fX4_readBounds_98 : zfl wzX4_readBounds RX4 vwCl 98 2 2 := ⟨_, _, _, rfl, (fun w h => List.mem_cons_of_mem _ (zWuX2 w h)), by decide, List.mem_cons_of_mem _ (zWi_10 _ (List.mem_of_getElem? (i := 23) rfl))⟩
theorem fX4_readBounds_101 : zfl wzX4_readBounds RX4 vwCl 101 4 9 := ⟨_, _, _, rfl, (fun w h => List.mem_cons_of_mem _ (zWuX4 w h)), by decide, List.mem_cons_of_mem _ (zWi_10 _ (List.mem_of_getElem? (i := 8) rfl))⟩
theorem fX4_readBounds_104 : zfl wzX4_readBounds RX4 vwCl 104 2 3 := ⟨_, _, _, rfl, (fun w h => List.mem_cons_of_mem _ (zWuX2 w h)), by decide, List.mem_cons_of_mem _ (zWi_10 _ (List.mem_of_getElem? (i := 9) rfl))⟩
theorem kX4_readBounds_63 : ∀ (s9 : State) (a9 : Array Value), (∀ w ∈ wzX4_readBounds, w.before a9 s9 = true) → CallW rmX4_readBounds s9 a9 RX4 RX4 63 yX4_blame cX4_blame 2 (some .boolean) wzX4_blame rmX4_blame 0 0 1 := zcV (zWi_24 _ (List.mem_of_getElem? (i := 0) rfl)) (zWi_16 _ (List.mem_of_getElem? (i := 6) rfl)) (zWi_28 _ (List.mem_of_getElem? (i := 36) rfl)) (zWi_12 _ (List.mem_of_getElem? (i := 16) rfl)) (zWi_4 _ (List.mem_of_getElem? (i := 40) rfl)) (by decide +kernel) rfl rfl ⟨Nat.le_of_ble_eq_true rfl, Nat.le_of_ble_eq_true rfl⟩
theorem kX4_readBounds_47 : ∀ (s9 : State) (a9 : Array Value), (∀ w ∈ wzX4_readBounds, w.before a9 s9 = true) → CallW rmX4_readBounds s9 a9 RX4 RX4 47 yX4_advance cX4_advance 1 none wzX4_advance rmX4_advance 0 0 0 := zcV (zWi_23 _ (List.mem_of_getElem? (i := 47) rfl)) (zWi_16 _ (List.mem_of_getElem? (i := 4) rfl)) (zWi_28 _ (List.mem_of_getElem? (i := 34) rfl)) (zWi_12 _ (List.mem_of_getElem? (i := 16) rfl)) (zWi_4 _ (List.mem_of_getElem? (i := 38) rfl)) (by decide +kernel) rfl rfl ⟨Nat.le_of_ble_eq_true rfl, Nat.le_of_ble_eq_true rfl⟩
theorem fX4_readGoal_50 : zfl wzX4_readGoal RX4 vwCl 50 4 6 := ⟨_, _, _, rfl, (fun w h => List.mem_cons_of_mem _ (zWuX4 w h)), by decide, List.mem_cons_of_mem _ (zWi_10 _ (List.mem_of_getElem? (i := 18) rfl))⟩
theorem fX4_readGoal_101 : zfl wzX4_readGoal RX4 vwCl 101 4 9 := ⟨_, _, _, rfl, (fun w h => List.mem_cons_of_mem _ (zWuX4 w h)), by decide, List.mem_cons_of_mem _ (zWi_10 _ (List.mem_of_getElem? (i := 8) rfl))⟩
theorem kX4_readGoal_59 : ∀ (s9 : State) (a9 : Array Value), (∀ w ∈ wzX4_readGoal, w.before a9 s9 = true) → CallW rmX4_readGoal s9 a9 RX4 RX4 59 yX4_isWord cX4_isWord 3 (some .boolean) wzX4_isWord rmX4_isWord 0 0 1 := zcV (zWi_23 _ (List.mem_of_getElem? (i := 49) rfl)) (zWi_16 _ (List.mem_of_getElem? (i := 11) rfl)) (zWi_28 _ (List.mem_of_getElem? (i := 40) rfl)) (zWi_12 _ (List.mem_of_getElem? (i := 16) rfl)) (zWi_4 _ (List.mem_of_getElem? (i := 45) rfl)) (by decide +kernel) rfl rfl ⟨Nat.le_of_ble_eq_true rfl, Nat.le_of_ble_eq_true rfl⟩
theorem kX4_readGoal_47 : ∀ (s9 : State) (a9 : Array Value), (∀ w ∈ wzX4_readGoal, w.before a9 s9 = true) → CallW rmX4_readGoal s9 a9 RX4 RX4 47 yX4_advance cX4_advance 1 none wzX4_advance rmX4_advance 0 0 0 := zcV (zWi_23 _ (List.mem_of_getElem? (i := 47) rfl)) (zWi_16 _ (List.mem_of_getElem? (i := 4) rfl)) (zWi_28 _ (List.mem_of_getElem? (i := 34) rfl)) (zWi_12 _ (List.mem_of_getElem? (i := 16) rfl)) (zWi_4 _ (List.mem_of_getElem? (i := 38) rfl)) (by decide +kernel) rfl rfl ⟨Nat.le_of_ble_eq_true rfl, Nat.le_of_ble_eq_true rfl⟩
theorem kX4_readGoal_63 : ∀ (s9 : State) (a9 : Array Value), (∀ w ∈ wzX4_readGoal, w.before a9 s9 = true) → CallW rmX4_readGoal s9 a9 RX4 RX4 63 yX4_blame cX4_blame 2 (some .boolean) wzX4_blame rmX4_blame 0 0 1 := zcV (zWi_24 _ (List.mem_of_getElem? (i := 0) rfl)) (zWi_16 _ (List.mem_of_getElem? (i := 6) rfl)) (zWi_28 _ (List.mem_of_getElem? (i := 36) rfl)) (zWi_12 _ (List.mem_of_getElem? (i := 16) rfl)) (zWi_4 _ (List.mem_of_getElem? (i := 40) rfl)) (by decide +kernel) rfl rfl ⟨Nat.le_of_ble_eq_true rfl, Nat.le_of_ble_eq_true rfl⟩
def sp_X4_passWord (as : List zV) (M : zM) (Q : Option zV → zM → Prop) : Prop := ∃ (i n p : Nat), as = [zR 39, zR (1000 + i)] ∧ (i < 10) ∧ (curR M n p) ∧ (¬ wrd (cT M) n p i → Q (some (zI 0)) (rblM M 2)) ∧ (wrd (cT M) n p i → ∀ M', axM M M' n (tE (cT M) n p) → Q (some (zI 1)) M')
theorem us_X4_passWord {i n p : Nat} {M : zM} {Q : Option zV → zM → Prop} (hk : i < 10) (hc : curR M n p) (hN : ¬ wrd (cT M) n p i → Q (some (zI 0)) (rblM M 2)) (hY : wrd (cT M) n p i → ∀ M', axM M M' n (tE (cT M) n p) → Q (some (zI 1)) M') : sp_X4_passWord [zR 39, zR (1000 + i)] M Q := ⟨i, n, p, rfl, hk, hc, hN, hY⟩
set_option maxRecDepth 20000 in
set_option maxHeartbeats 4000000 in
theorem m_X4_passWord (l : Launch) : zC l yX4_passWord wzX4_passWord rmX4_passWord sp_X4_passWord := by
  refine zMet.of RX4 (by decide +kernel) rfl rfl ?_
  intro E X as M Qp hX S hsp
  obtain ⟨i, n, p, rfl, hk, hc, hN, hY⟩ := hsp
  refine ⟨Nat.le_of_ble_eq_true rfl, ?_⟩
  dsimp only [zpad, zargs]
  have r := tE_r (t := cT M) hc.2.2.1
  by_cases w : wrd (cT M) n p i
  · have q := hY w
    refine zr_aload_n (pc := 0) S dX4_passWord_0 rfl ?_
    refine zr_aload_n (pc := 1) S dX4_passWord_1 rfl ?_
    refine zr_invV (pc := 2) S [zR _] (m_X4_isWord _) kX4_passWord_59 dX4_passWord_2 rfl (Nat.le_of_ble_eq_true rfl) rfl (Nat.le_of_ble_eq_true rfl) ⟨Nat.le_of_ble_eq_true rfl, Nat.le_of_ble_eq_true rfl⟩ (us_rword (i := i) hk hc ?_)
    dsimp only [zaft, Option.toList, List.cons_append, List.nil_append, Nat.add_zero]
    rw [b01_t w]
    refine zr_if_ne (pc := 5) (tgt := 14) S dX4_passWord_5 (by decide) (fun c5 => ?_) (fun c5 => absurd c5 (by omega))
    refine zr_aload_n (pc := 14) S dX4_passWord_14 rfl ?_
    refine zr_invV (pc := 15) S [] (m_X4_advance _) kX4_passWord_47 dX4_passWord_15 rfl (Nat.le_of_ble_eq_true rfl) rfl (Nat.le_of_ble_eq_true rfl) ⟨Nat.le_of_ble_eq_true rfl, Nat.le_of_ble_eq_true rfl⟩ (us_X4_advance hc.1 hc.2.1 hc.2.2.2.2.1 r.2.1 ?_)
    dsimp only [zaft, Option.toList, List.cons_append, List.nil_append, Nat.add_zero]
    intro M' hM'
    refine zr_iconst (pc := 18) S dX4_passWord_18 (by unfold zrI; omega) ?_
    exact zr_zret (pc := 19) S dX4_passWord_19 rfl (by first | omega | exact b01_r) ⟨Nat.le_refl _, Nat.le_refl _⟩ (q M' hM')
  · have q := hN w
    refine zr_aload_n (pc := 0) S dX4_passWord_0 rfl ?_
    refine zr_aload_n (pc := 1) S dX4_passWord_1 rfl ?_
    refine zr_invV (pc := 2) S [zR _] (m_X4_isWord _) kX4_passWord_59 dX4_passWord_2 rfl (Nat.le_of_ble_eq_true rfl) rfl (Nat.le_of_ble_eq_true rfl) ⟨Nat.le_of_ble_eq_true rfl, Nat.le_of_ble_eq_true rfl⟩ (us_rword (i := i) hk hc ?_)
    dsimp only [zaft, Option.toList, List.cons_append, List.nil_append, Nat.add_zero]
    rw [b01_f w]
    refine zr_if_ne (pc := 5) (tgt := 14) S dX4_passWord_5 (by decide) (fun c5 => absurd c5 (by omega)) (fun c5 => ?_)
    refine zr_aload_n (pc := 8) S dX4_passWord_8 rfl ?_
    refine zr_iconst (pc := 9) S dX4_passWord_9 (by unfold zrI; omega) ?_
    refine zr_invV (pc := 10) S [zI _] (m_X4_blame _) kX4_passWord_63 dX4_passWord_10 rfl (Nat.le_of_ble_eq_true rfl) rfl (Nat.le_of_ble_eq_true rfl) ⟨Nat.le_of_ble_eq_true rfl, Nat.le_of_ble_eq_true rfl⟩ (us_X4_blame ?_)
    dsimp only [zaft, Option.toList, List.cons_append, List.nil_append, Nat.add_zero]
    exact zr_zret (pc := 13) S dX4_passWord_13 rfl (by first | omega | exact b01_r) ⟨Nat.le_refl _, Nat.le_refl _⟩ (q)
theorem wrd_x {t : Nat → Int} {n p i j : Nat} (h1 : wrd t n p i) (h2 : wrd t n p j) (hi : 0 < zSl.getD i 0) (hj : 0 < zSl.getD j 0) : zch i (0 : Nat) = zch j (0 : Nat) := (h1.2.2 0 hi).symm.trans (h2.2.2 0 hj)
def sp_X4_readGoal (as : List zV) (M : zM) (Q : Option zV → zM → Prop) : Prop := ∃ (c g n p : Nat), as = [zR 39, zR c, zI g] ∧ (c = 45 ∨ c = 46) ∧ (g < 8) ∧ (curR M n p) ∧ (∀ f, pGoal (cT M) n p = .inl f → ∀ M', rO M M' → flR M' f → Q (some (zI 0)) M') ∧ (∀ a b q, pGoal (cT M) n p = .inr ((a, b), q) → ∀ M', rO M M' → curR M' n q → M' c g = gcode a b → (∀ k j, 41 ≤ k → k ≤ 46 → (k ≠ c ∨ j ≠ g) → M' k j = M k j) → Q (some (zI 1)) M')
theorem us_X4_readGoal {c g n p : Nat} {M : zM} {Q : Option zV → zM → Prop} (hcc : c = 45 ∨ c = 46) (hg : g < 8) (hc : curR M n p) (hF : ∀ f, pGoal (cT M) n p = .inl f → ∀ M', rO M M' → flR M' f → Q (some (zI 0)) M') (hY : ∀ a b q, pGoal (cT M) n p = .inr ((a, b), q) → ∀ M', rO M M' → curR M' n q → M' c g = gcode a b → (∀ k j, 41 ≤ k → k ≤ 46 → (k ≠ c ∨ j ≠ g) → M' k j = M k j) → Q (some (zI 1)) M') : sp_X4_readGoal [zR 39, zR c, zI g] M Q := ⟨c, g, n, p, rfl, hcc, hg, hc, hF, hY⟩
set_option maxRecDepth 20000 in
set_option maxHeartbeats 4000000 in
theorem m_X4_readGoal (l : Launch) : zC l yX4_readGoal wzX4_readGoal rmX4_readGoal sp_X4_readGoal := by
  refine zMet.of RX4 (by decide +kernel) rfl rfl ?_
  intro E X as M Qp hX S hsp
  obtain ⟨c, g, n, p, rfl, hcc, hg, hc, hF, hY⟩ := hsp
  refine ⟨Nat.le_of_ble_eq_true rfl, ?_⟩
  dsimp only [zpad, zargs]
  have hcY : (zg E).1 c = .inl (0, 8) := by rcases hcc with rfl | rfl <;> rfl
  have hcN : c < (zg E).2.2.1 := by rcases hcc with rfl | rfl <;> exact Nat.le_of_ble_eq_true rfl
  have eg : (g : Int).toNat = g := Int.toNat_natCast g
  have r := tE_r (t := cT M) hc.2.2.1
  have hce : 41 ≤ c ∧ c ≤ 46 := by omega
  have k108 : ∀ U p' a b, rO M U → (∀ k, 41 ≤ k → k ≤ 46 → U k = M k) → curR U n p' → pGoal (cT M) n p = .inr ((a, b), tE (cT M) n p') → ∀ v, v = gcode a b → (-3 ≤ v ∧ v ≤ 7) → zK (zg E) rmX4_readGoal 3 (Qp, 0, 0) X (0, 0) 108 [some (zR 39), some (zR c), some (zI g)] [] (zup U c g v) := by
    intro U p' a b oU dU cU hp v hv hr9
    have vd := vld45 hcc hr9
    have cV := cU.dr g v hce
    have tV9 : cT (zup U c g v) = cT M := (rO.dr U g v hce vd).c.trans oU.c
    have r2 := tE_r (t := cT M) cU.2.2.1
    have q := fun W (h : axM (zup U c g v) W n (tE (cT M) n p')) => hY a b _ hp W ((oU.tr (rO.dr U g v hce vd)).tr h.o) (by
      have := cV.nx (by rw [tV9]; exact h)
      rw [tV9] at this
      exact this) (by rw [h.1 _ (by omega), zup_e]; exact hv) (fun k j k1 k2 hj => by
      rw [h.1 _ (by omega)]
      by_cases e : k = c
      · rw [e, zup_j (by omega), dU c hce.1 hce.2]
      · rw [zup_o _ e, dU k k1 k2])
    have v5 := cV.2.2.2.2.1
    rw [tV9] at v5
    refine zr_aload_n (pc := 108) S dX4_readGoal_108 rfl ?_
    refine zr_invV (pc := 109) S [] (m_X4_advance _) kX4_readGoal_47 dX4_readGoal_109 rfl (Nat.le_of_ble_eq_true rfl) rfl (Nat.le_of_ble_eq_true rfl) ⟨Nat.le_of_ble_eq_true rfl, Nat.le_of_ble_eq_true rfl⟩ (us_X4_advance cV.1 cV.2.1 v5 r2.2.1 ?_)
    dsimp only [zaft, Option.toList, List.cons_append, List.nil_append, Nat.add_zero]
    intro W hW
    refine zr_iconst (pc := 112) S dX4_readGoal_112 (by unfold zrI; omega) ?_
    exact zr_zret (pc := 113) S dX4_readGoal_113 rfl (by first | omega | exact b01_r) ⟨Nat.le_refl _, Nat.le_refl _⟩ (q W hW)
  have kN : pGoal (cT M) n p = .inl (blP (cT M) n p 2) → Qp (some (zI 0)) (rblM M 2) := fun hp => hF _ hp _ (rblM.o M 2) (hc.bl 2)
  have kT : (pGoal (cT M) n p = (if tK (cT M) n (tE (cT M) n p) = 2 then (if tV (cT M) (tS (cT M) n (tE (cT M) n p)) (tE (cT M) n (tE (cT M) n p)) ≤ 7 then .inr ((2, tV (cT M) (tS (cT M) n (tE (cT M) n p)) (tE (cT M) n (tE (cT M) n p))), tE (cT M) n (tE (cT M) n p)) else .inl (blP (cT M) n (tE (cT M) n p) 3)) else .inl (blP (cT M) n (tE (cT M) n p) 2))) → ∀ N, axM M N n (tE (cT M) n p) → zK (zg E) rmX4_readGoal 3 (Qp, 0, 0) X (0, 0) 13 [some (zR 39), some (zR c), some (zI g)] [] N := by
    intro hp N hN
    have cN := hc.nx hN
    have tN := hN.c
    have cN0 := cN
    obtain ⟨u1, u2, u3, u4, u5, u6, u7, u8, u9⟩ := cN0
    rw [tN] at u4 u5 u6 u7
    have hbl := fun k => cN.bl k
    rw [tN] at hbl
    by_cases tk : tK (cT M) n (tE (cT M) n p) = 2
    · have vr := tV_r tk
      have ev := u7 tk
      rw [tk] at u6
      rw [if_pos tk] at hp
      by_cases v7 : tV (cT M) (tS (cT M) n (tE (cT M) n p)) (tE (cT M) n (tE (cT M) n p)) ≤ 7
      · rw [if_pos v7] at hp
        have l := k108 N (tE (cT M) n p) _ _ hN.o (fun k k1 k2 => hN.1 k (by omega)) cN hp (N 39 9) (by rw [ev]; unfold gcode; rw [if_neg (by decide), if_neg (by decide), if_pos rfl]) (by omega)
        refine zr_aload_n (pc := 13) S dX4_readGoal_13 rfl ?_
        refine zr_getI (pc := 14) S fX4_readGoal_50 dX4_readGoal_14 rfl (Nat.le_of_ble_eq_true rfl) rfl ?_
        refine zr_iconst (pc := 17) S dX4_readGoal_17 (by unfold zrI; omega) ?_
        refine zr_icmp_eq (pc := 18) (tgt := 27) S dX4_readGoal_18 (by decide) (fun c18 => ?_) (fun c18 => absurd c18 (by omega))
        refine zr_aload_n (pc := 27) S dX4_readGoal_27 rfl ?_
        refine zr_getI (pc := 28) S fX4_readGoal_101 dX4_readGoal_28 rfl (Nat.le_of_ble_eq_true rfl) rfl ?_
        refine zr_bipush (pc := 31) S dX4_readGoal_31 ⟨by unfold zrI; omega, by decide⟩ ?_
        refine zr_icmp_lt (pc := 33) (tgt := 42) S dX4_readGoal_33 (by decide) (fun c33 => ?_) (fun c33 => absurd c33 (by omega))
        refine zr_aload_n (pc := 42) S dX4_readGoal_42 rfl ?_
        refine zr_iload_n (pc := 43) S dX4_readGoal_43 rfl ?_
        refine zr_aload_n (pc := 44) S dX4_readGoal_44 rfl ?_
        refine zr_getI (pc := 45) S fX4_readGoal_101 dX4_readGoal_45 rfl (Nat.le_of_ble_eq_true rfl) rfl ?_
        refine zr_iastore (pc := 48) S dX4_readGoal_48 hcY hcN (by omega) (by omega) ?_
        rw [eg]
        refine zr_goto (pc := 49) (tgt := 108) S dX4_readGoal_49 (by decide) ?_
        exact l
      · rw [if_neg v7] at hp
        have q := hF _ hp (rblM N 3) (hN.o.tr (rblM.o N 3)) (hbl 3)
        refine zr_aload_n (pc := 13) S dX4_readGoal_13 rfl ?_
        refine zr_getI (pc := 14) S fX4_readGoal_50 dX4_readGoal_14 rfl (Nat.le_of_ble_eq_true rfl) rfl ?_
        refine zr_iconst (pc := 17) S dX4_readGoal_17 (by unfold zrI; omega) ?_
        refine zr_icmp_eq (pc := 18) (tgt := 27) S dX4_readGoal_18 (by decide) (fun c18 => ?_) (fun c18 => absurd c18 (by omega))
        refine zr_aload_n (pc := 27) S dX4_readGoal_27 rfl ?_
        refine zr_getI (pc := 28) S fX4_readGoal_101 dX4_readGoal_28 rfl (Nat.le_of_ble_eq_true rfl) rfl ?_
        refine zr_bipush (pc := 31) S dX4_readGoal_31 ⟨by unfold zrI; omega, by decide⟩ ?_
        refine zr_icmp_lt (pc := 33) (tgt := 42) S dX4_readGoal_33 (by decide) (fun c33 => absurd c33 (by omega)) (fun c33 => ?_)
        refine zr_aload_n (pc := 36) S dX4_readGoal_36 rfl ?_
        refine zr_iconst (pc := 37) S dX4_readGoal_37 (by unfold zrI; omega) ?_
        refine zr_invV (pc := 38) S [zI _] (m_X4_blame _) kX4_readGoal_63 dX4_readGoal_38 rfl (Nat.le_of_ble_eq_true rfl) rfl (Nat.le_of_ble_eq_true rfl) ⟨Nat.le_of_ble_eq_true rfl, Nat.le_of_ble_eq_true rfl⟩ (us_X4_blame ?_)
        dsimp only [zaft, Option.toList, List.cons_append, List.nil_append, Nat.add_zero]
        exact zr_zret (pc := 41) S dX4_readGoal_41 rfl (by first | omega | exact b01_r) ⟨Nat.le_refl _, Nat.le_refl _⟩ (q)
    · rw [if_neg tk] at hp
      rw [← u6] at tk
      have q := hF _ hp (rblM N 2) (hN.o.tr (rblM.o N 2)) (hbl 2)
      refine zr_aload_n (pc := 13) S dX4_readGoal_13 rfl ?_
      refine zr_getI (pc := 14) S fX4_readGoal_50 dX4_readGoal_14 rfl (Nat.le_of_ble_eq_true rfl) rfl ?_
      refine zr_iconst (pc := 17) S dX4_readGoal_17 (by unfold zrI; omega) ?_
      refine zr_icmp_eq (pc := 18) (tgt := 27) S dX4_readGoal_18 (by decide) (fun c18 => absurd c18 (by omega)) (fun c18 => ?_)
      refine zr_aload_n (pc := 21) S dX4_readGoal_21 rfl ?_
      refine zr_iconst (pc := 22) S dX4_readGoal_22 (by unfold zrI; omega) ?_
      refine zr_invV (pc := 23) S [zI _] (m_X4_blame _) kX4_readGoal_63 dX4_readGoal_23 rfl (Nat.le_of_ble_eq_true rfl) rfl (Nat.le_of_ble_eq_true rfl) ⟨Nat.le_of_ble_eq_true rfl, Nat.le_of_ble_eq_true rfl⟩ (us_X4_blame ?_)
      dsimp only [zaft, Option.toList, List.cons_append, List.nil_append, Nat.add_zero]
      exact zr_zret (pc := 26) S dX4_readGoal_26 rfl (by first | omega | exact b01_r) ⟨Nat.le_refl _, Nat.le_refl _⟩ (q)
  have k108' := fun v a b hp hv h9 => k108 M p a b (rO.rf M) (fun _ _ _ => rfl) hc hp v hv h9
  unfold pGoal at k108' kT kN
  by_cases c1 : wrd (cT M) n p 1
  · have l := kT (by rw [if_neg (fun z => absurd (wrd_x c1 z (by decide) (by decide)) (by decide)), if_neg (fun z => absurd (wrd_x c1 z (by decide) (by decide)) (by decide)), if_pos c1])
    refine zr_aload_n (pc := 0) S dX4_readGoal_0 rfl ?_
    refine zr_ldcS (pc := 1) (k9 := 1) S (List.mem_of_getElem? (i := 1) rfl) dX4_readGoal_1 ?_
    refine zr_invV (pc := 3) S [zR _] (m_X4_isWord _) kX4_readGoal_59 dX4_readGoal_3 rfl (Nat.le_of_ble_eq_true rfl) rfl (Nat.le_of_ble_eq_true rfl) ⟨Nat.le_of_ble_eq_true rfl, Nat.le_of_ble_eq_true rfl⟩ (us_rword (i := 1) (by decide) hc ?_)
    dsimp only [zaft, Option.toList, List.cons_append, List.nil_append, Nat.add_zero]
    rw [b01_t c1]
    refine zr_if_eq (pc := 6) (tgt := 52) S dX4_readGoal_6 (by decide) (fun c6 => absurd c6 (by omega)) (fun c6 => ?_)
    refine zr_aload_n (pc := 9) S dX4_readGoal_9 rfl ?_
    refine zr_invV (pc := 10) S [] (m_X4_advance _) kX4_readGoal_47 dX4_readGoal_10 rfl (Nat.le_of_ble_eq_true rfl) rfl (Nat.le_of_ble_eq_true rfl) ⟨Nat.le_of_ble_eq_true rfl, Nat.le_of_ble_eq_true rfl⟩ (us_X4_advance hc.1 hc.2.1 hc.2.2.2.2.1 r.2.1 ?_)
    dsimp only [zaft, Option.toList, List.cons_append, List.nil_append, Nat.add_zero]
    intro N hN
    exact l N hN
  · by_cases c2 : wrd (cT M) n p 2
    · have l := k108' (-2) 0 0 (by rw [if_pos c2]) (by decide) (by decide)
      refine zr_aload_n (pc := 0) S dX4_readGoal_0 rfl ?_
      refine zr_ldcS (pc := 1) (k9 := 1) S (List.mem_of_getElem? (i := 1) rfl) dX4_readGoal_1 ?_
      refine zr_invV (pc := 3) S [zR _] (m_X4_isWord _) kX4_readGoal_59 dX4_readGoal_3 rfl (Nat.le_of_ble_eq_true rfl) rfl (Nat.le_of_ble_eq_true rfl) ⟨Nat.le_of_ble_eq_true rfl, Nat.le_of_ble_eq_true rfl⟩ (us_rword (i := 1) (by decide) hc ?_)
      dsimp only [zaft, Option.toList, List.cons_append, List.nil_append, Nat.add_zero]
      rw [b01_f c1]
      refine zr_if_eq (pc := 6) (tgt := 52) S dX4_readGoal_6 (by decide) (fun c6 => ?_) (fun c6 => absurd c6 (by omega))
      refine zr_aload_n (pc := 52) S dX4_readGoal_52 rfl ?_
      refine zr_ldcS (pc := 53) (k9 := 2) S (List.mem_of_getElem? (i := 2) rfl) dX4_readGoal_53 ?_
      refine zr_invV (pc := 55) S [zR _] (m_X4_isWord _) kX4_readGoal_59 dX4_readGoal_55 rfl (Nat.le_of_ble_eq_true rfl) rfl (Nat.le_of_ble_eq_true rfl) ⟨Nat.le_of_ble_eq_true rfl, Nat.le_of_ble_eq_true rfl⟩ (us_rword (i := 2) (by decide) hc ?_)
      dsimp only [zaft, Option.toList, List.cons_append, List.nil_append, Nat.add_zero]
      rw [b01_t c2]
      refine zr_if_eq (pc := 58) (tgt := 69) S dX4_readGoal_58 (by decide) (fun c58 => absurd c58 (by omega)) (fun c58 => ?_)
      refine zr_aload_n (pc := 61) S dX4_readGoal_61 rfl ?_
      refine zr_iload_n (pc := 62) S dX4_readGoal_62 rfl ?_
      refine zr_bipush (pc := 63) S dX4_readGoal_63 ⟨by unfold zrI; omega, by decide⟩ ?_
      refine zr_iastore (pc := 65) S dX4_readGoal_65 hcY hcN (by omega) (by omega) ?_
      rw [eg]
      refine zr_goto (pc := 66) (tgt := 108) S dX4_readGoal_66 (by decide) ?_
      exact l
    · by_cases c3 : wrd (cT M) n p 3
      · have l := k108' (-3) 1 0 (by rw [if_neg c2, if_pos c3]) (by decide) (by decide)
        refine zr_aload_n (pc := 0) S dX4_readGoal_0 rfl ?_
        refine zr_ldcS (pc := 1) (k9 := 1) S (List.mem_of_getElem? (i := 1) rfl) dX4_readGoal_1 ?_
        refine zr_invV (pc := 3) S [zR _] (m_X4_isWord _) kX4_readGoal_59 dX4_readGoal_3 rfl (Nat.le_of_ble_eq_true rfl) rfl (Nat.le_of_ble_eq_true rfl) ⟨Nat.le_of_ble_eq_true rfl, Nat.le_of_ble_eq_true rfl⟩ (us_rword (i := 1) (by decide) hc ?_)
        dsimp only [zaft, Option.toList, List.cons_append, List.nil_append, Nat.add_zero]
        rw [b01_f c1]
        refine zr_if_eq (pc := 6) (tgt := 52) S dX4_readGoal_6 (by decide) (fun c6 => ?_) (fun c6 => absurd c6 (by omega))
        refine zr_aload_n (pc := 52) S dX4_readGoal_52 rfl ?_
        refine zr_ldcS (pc := 53) (k9 := 2) S (List.mem_of_getElem? (i := 2) rfl) dX4_readGoal_53 ?_
        refine zr_invV (pc := 55) S [zR _] (m_X4_isWord _) kX4_readGoal_59 dX4_readGoal_55 rfl (Nat.le_of_ble_eq_true rfl) rfl (Nat.le_of_ble_eq_true rfl) ⟨Nat.le_of_ble_eq_true rfl, Nat.le_of_ble_eq_true rfl⟩ (us_rword (i := 2) (by decide) hc ?_)
        dsimp only [zaft, Option.toList, List.cons_append, List.nil_append, Nat.add_zero]
        rw [b01_f c2]
        refine zr_if_eq (pc := 58) (tgt := 69) S dX4_readGoal_58 (by decide) (fun c58 => ?_) (fun c58 => absurd c58 (by omega))
        refine zr_aload_n (pc := 69) S dX4_readGoal_69 rfl ?_
        refine zr_ldcS (pc := 70) (k9 := 3) S (List.mem_of_getElem? (i := 3) rfl) dX4_readGoal_70 ?_
        refine zr_invV (pc := 72) S [zR _] (m_X4_isWord _) kX4_readGoal_59 dX4_readGoal_72 rfl (Nat.le_of_ble_eq_true rfl) rfl (Nat.le_of_ble_eq_true rfl) ⟨Nat.le_of_ble_eq_true rfl, Nat.le_of_ble_eq_true rfl⟩ (us_rword (i := 3) (by decide) hc ?_)
        dsimp only [zaft, Option.toList, List.cons_append, List.nil_append, Nat.add_zero]
        rw [b01_t c3]
        refine zr_if_eq (pc := 75) (tgt := 86) S dX4_readGoal_75 (by decide) (fun c75 => absurd c75 (by omega)) (fun c75 => ?_)
        refine zr_aload_n (pc := 78) S dX4_readGoal_78 rfl ?_
        refine zr_iload_n (pc := 79) S dX4_readGoal_79 rfl ?_
        refine zr_bipush (pc := 80) S dX4_readGoal_80 ⟨by unfold zrI; omega, by decide⟩ ?_
        refine zr_iastore (pc := 82) S dX4_readGoal_82 hcY hcN (by omega) (by omega) ?_
        rw [eg]
        refine zr_goto (pc := 83) (tgt := 108) S dX4_readGoal_83 (by decide) ?_
        exact l
      · by_cases c4 : wrd (cT M) n p 4
        · have l := k108' (-1) 3 0 (by rw [if_neg c2, if_neg c3, if_neg c1, if_pos c4]) (by decide) (by decide)
          refine zr_aload_n (pc := 0) S dX4_readGoal_0 rfl ?_
          refine zr_ldcS (pc := 1) (k9 := 1) S (List.mem_of_getElem? (i := 1) rfl) dX4_readGoal_1 ?_
          refine zr_invV (pc := 3) S [zR _] (m_X4_isWord _) kX4_readGoal_59 dX4_readGoal_3 rfl (Nat.le_of_ble_eq_true rfl) rfl (Nat.le_of_ble_eq_true rfl) ⟨Nat.le_of_ble_eq_true rfl, Nat.le_of_ble_eq_true rfl⟩ (us_rword (i := 1) (by decide) hc ?_)
          dsimp only [zaft, Option.toList, List.cons_append, List.nil_append, Nat.add_zero]
          rw [b01_f c1]
          refine zr_if_eq (pc := 6) (tgt := 52) S dX4_readGoal_6 (by decide) (fun c6 => ?_) (fun c6 => absurd c6 (by omega))
          refine zr_aload_n (pc := 52) S dX4_readGoal_52 rfl ?_
          refine zr_ldcS (pc := 53) (k9 := 2) S (List.mem_of_getElem? (i := 2) rfl) dX4_readGoal_53 ?_
          refine zr_invV (pc := 55) S [zR _] (m_X4_isWord _) kX4_readGoal_59 dX4_readGoal_55 rfl (Nat.le_of_ble_eq_true rfl) rfl (Nat.le_of_ble_eq_true rfl) ⟨Nat.le_of_ble_eq_true rfl, Nat.le_of_ble_eq_true rfl⟩ (us_rword (i := 2) (by decide) hc ?_)
          dsimp only [zaft, Option.toList, List.cons_append, List.nil_append, Nat.add_zero]
          rw [b01_f c2]
          refine zr_if_eq (pc := 58) (tgt := 69) S dX4_readGoal_58 (by decide) (fun c58 => ?_) (fun c58 => absurd c58 (by omega))
          refine zr_aload_n (pc := 69) S dX4_readGoal_69 rfl ?_
          refine zr_ldcS (pc := 70) (k9 := 3) S (List.mem_of_getElem? (i := 3) rfl) dX4_readGoal_70 ?_
          refine zr_invV (pc := 72) S [zR _] (m_X4_isWord _) kX4_readGoal_59 dX4_readGoal_72 rfl (Nat.le_of_ble_eq_true rfl) rfl (Nat.le_of_ble_eq_true rfl) ⟨Nat.le_of_ble_eq_true rfl, Nat.le_of_ble_eq_true rfl⟩ (us_rword (i := 3) (by decide) hc ?_)
          dsimp only [zaft, Option.toList, List.cons_append, List.nil_append, Nat.add_zero]
          rw [b01_f c3]
          refine zr_if_eq (pc := 75) (tgt := 86) S dX4_readGoal_75 (by decide) (fun c75 => ?_) (fun c75 => absurd c75 (by omega))
          refine zr_aload_n (pc := 86) S dX4_readGoal_86 rfl ?_
          refine zr_ldcS (pc := 87) (k9 := 4) S (List.mem_of_getElem? (i := 4) rfl) dX4_readGoal_87 ?_
          refine zr_invV (pc := 89) S [zR _] (m_X4_isWord _) kX4_readGoal_59 dX4_readGoal_89 rfl (Nat.le_of_ble_eq_true rfl) rfl (Nat.le_of_ble_eq_true rfl) ⟨Nat.le_of_ble_eq_true rfl, Nat.le_of_ble_eq_true rfl⟩ (us_rword (i := 4) (by decide) hc ?_)
          dsimp only [zaft, Option.toList, List.cons_append, List.nil_append, Nat.add_zero]
          rw [b01_t c4]
          refine zr_if_eq (pc := 92) (tgt := 102) S dX4_readGoal_92 (by decide) (fun c92 => absurd c92 (by omega)) (fun c92 => ?_)
          refine zr_aload_n (pc := 95) S dX4_readGoal_95 rfl ?_
          refine zr_iload_n (pc := 96) S dX4_readGoal_96 rfl ?_
          refine zr_iconst (pc := 97) S dX4_readGoal_97 (by unfold zrI; omega) ?_
          refine zr_iastore (pc := 98) S dX4_readGoal_98 hcY hcN (by omega) (by omega) ?_
          rw [eg]
          refine zr_goto (pc := 99) (tgt := 108) S dX4_readGoal_99 (by decide) ?_
          exact l
        · have q := kN (by rw [if_neg c2, if_neg c3, if_neg c1, if_neg c4])
          refine zr_aload_n (pc := 0) S dX4_readGoal_0 rfl ?_
          refine zr_ldcS (pc := 1) (k9 := 1) S (List.mem_of_getElem? (i := 1) rfl) dX4_readGoal_1 ?_
          refine zr_invV (pc := 3) S [zR _] (m_X4_isWord _) kX4_readGoal_59 dX4_readGoal_3 rfl (Nat.le_of_ble_eq_true rfl) rfl (Nat.le_of_ble_eq_true rfl) ⟨Nat.le_of_ble_eq_true rfl, Nat.le_of_ble_eq_true rfl⟩ (us_rword (i := 1) (by decide) hc ?_)
          dsimp only [zaft, Option.toList, List.cons_append, List.nil_append, Nat.add_zero]
          rw [b01_f c1]
          refine zr_if_eq (pc := 6) (tgt := 52) S dX4_readGoal_6 (by decide) (fun c6 => ?_) (fun c6 => absurd c6 (by omega))
          refine zr_aload_n (pc := 52) S dX4_readGoal_52 rfl ?_
          refine zr_ldcS (pc := 53) (k9 := 2) S (List.mem_of_getElem? (i := 2) rfl) dX4_readGoal_53 ?_
          refine zr_invV (pc := 55) S [zR _] (m_X4_isWord _) kX4_readGoal_59 dX4_readGoal_55 rfl (Nat.le_of_ble_eq_true rfl) rfl (Nat.le_of_ble_eq_true rfl) ⟨Nat.le_of_ble_eq_true rfl, Nat.le_of_ble_eq_true rfl⟩ (us_rword (i := 2) (by decide) hc ?_)
          dsimp only [zaft, Option.toList, List.cons_append, List.nil_append, Nat.add_zero]
          rw [b01_f c2]
          refine zr_if_eq (pc := 58) (tgt := 69) S dX4_readGoal_58 (by decide) (fun c58 => ?_) (fun c58 => absurd c58 (by omega))
          refine zr_aload_n (pc := 69) S dX4_readGoal_69 rfl ?_
          refine zr_ldcS (pc := 70) (k9 := 3) S (List.mem_of_getElem? (i := 3) rfl) dX4_readGoal_70 ?_
          refine zr_invV (pc := 72) S [zR _] (m_X4_isWord _) kX4_readGoal_59 dX4_readGoal_72 rfl (Nat.le_of_ble_eq_true rfl) rfl (Nat.le_of_ble_eq_true rfl) ⟨Nat.le_of_ble_eq_true rfl, Nat.le_of_ble_eq_true rfl⟩ (us_rword (i := 3) (by decide) hc ?_)
          dsimp only [zaft, Option.toList, List.cons_append, List.nil_append, Nat.add_zero]
          rw [b01_f c3]
          refine zr_if_eq (pc := 75) (tgt := 86) S dX4_readGoal_75 (by decide) (fun c75 => ?_) (fun c75 => absurd c75 (by omega))
          refine zr_aload_n (pc := 86) S dX4_readGoal_86 rfl ?_
          refine zr_ldcS (pc := 87) (k9 := 4) S (List.mem_of_getElem? (i := 4) rfl) dX4_readGoal_87 ?_
          refine zr_invV (pc := 89) S [zR _] (m_X4_isWord _) kX4_readGoal_59 dX4_readGoal_89 rfl (Nat.le_of_ble_eq_true rfl) rfl (Nat.le_of_ble_eq_true rfl) ⟨Nat.le_of_ble_eq_true rfl, Nat.le_of_ble_eq_true rfl⟩ (us_rword (i := 4) (by decide) hc ?_)
          dsimp only [zaft, Option.toList, List.cons_append, List.nil_append, Nat.add_zero]
          rw [b01_f c4]
          refine zr_if_eq (pc := 92) (tgt := 102) S dX4_readGoal_92 (by decide) (fun c92 => ?_) (fun c92 => absurd c92 (by omega))
          refine zr_aload_n (pc := 102) S dX4_readGoal_102 rfl ?_
          refine zr_iconst (pc := 103) S dX4_readGoal_103 (by unfold zrI; omega) ?_
          refine zr_invV (pc := 104) S [zI _] (m_X4_blame _) kX4_readGoal_63 dX4_readGoal_104 rfl (Nat.le_of_ble_eq_true rfl) rfl (Nat.le_of_ble_eq_true rfl) ⟨Nat.le_of_ble_eq_true rfl, Nat.le_of_ble_eq_true rfl⟩ (us_X4_blame ?_)
          dsimp only [zaft, Option.toList, List.cons_append, List.nil_append, Nat.add_zero]
          exact zr_zret (pc := 107) S dX4_readGoal_107 rfl (by first | omega | exact b01_r) ⟨Nat.le_refl _, Nat.le_refl _⟩ (q)
end
