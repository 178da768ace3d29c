section
def cpy (M : zM) (k0 k1 n : Nat) : zM := fun k j => if k = k1 then (if j < n then M k0 j else M k1 j) else M k j
/-- places of a block of cells come from another block -/
def cpS (M : zM) (a b : Nat) (s : Nat → Nat → Bool) : zM := fun k j => if a ≤ k ∧ s (k - a) j = true then M (b + (k - a)) j else M k j
def cpP (M : zM) (a b n : Nat) (N : zM) (s : Nat → Nat → Bool) : Prop := N = cpS M a b s ∧ (∀ i j, s i j = true → i < n) ∧ (a + n ≤ b ∨ b + n ≤ a)
theorem cpP.z {M : zM} {a b n : Nat} (h : a + n ≤ b ∨ b + n ≤ a) : cpP M a b n M (fun _ _ => false) := ⟨by funext k j; simp [cpS], fun i j h => by simp at h, h⟩
theorem cpP.r {M : zM} {a b n : Nat} {N : zM} {s : Nat → Nat → Bool} (h : cpP M a b n N s) (i len : Nat) (hi : i < n) : cpP M a b n (cpy N (b + i) (a + i) len) (fun i' j => s i' j || (i' == i && decide (j < len))) := by
  obtain ⟨h1, h2, h3⟩ := h
  refine ⟨?_, fun i' j hh => ?_, h3⟩
  · subst h1
    funext k j
    simp only [cpy, cpS]
    by_cases hk : k = a + i
    · subst hk
      have e1 : a + i - a = i := by omega
      have e2 : ¬ (a ≤ b + i ∧ s (b + i - a) j = true) := fun q => by have := h2 _ _ q.2; omega
      simp only [if_true, e1, Nat.le_add_right, true_and, if_neg e2]
      by_cases hj : j < len
      · simp [hj]
      · simp [hj]
    · have e3 : a ≤ k → (k - a == i) = false := fun q => by simp; omega
      simp only [hk, if_false]
      by_cases ha : a ≤ k
      · simp [ha, e3 ha]
      · simp [ha]
  · simp only [Bool.or_eq_true, Bool.and_eq_true, beq_iff_eq] at hh
    rcases hh with hh | hh
    · exact h2 _ _ hh
    · omega
theorem cpP.p {M : zM} {a b n : Nat} {N : zM} {s : Nat → Nat → Bool} (h : cpP M a b n N s) (i j0 : Nat) (hi : i < n) : cpP M a b n (zup N (a + i) j0 (N (b + i) j0)) (fun i' j => s i' j || (i' == i && j == j0)) := by
  obtain ⟨h1, h2, h3⟩ := h
  refine ⟨?_, fun i' j hh => ?_, h3⟩
  · subst h1
    funext k j
    simp only [zup, cpS]
    by_cases hk : k = a + i
    · subst hk
      have e1 : a + i - a = i := by omega
      have e2 : ∀ j, ¬ (a ≤ b + i ∧ s (b + i - a) j = true) := fun j q => by have := h2 _ _ q.2; omega
      simp only [if_true, e1, Nat.le_add_right, true_and, if_neg (e2 j0)]
      by_cases hj : j = j0
      · subst hj; simp
      · simp [hj]
    · have e3 : a ≤ k → (k - a == i) = false := fun q => by simp; omega
      simp only [hk, if_false]
      by_cases ha : a ≤ k
      · simp [ha, e3 ha]
      · simp [ha]
  · simp only [Bool.or_eq_true, Bool.and_eq_true, beq_iff_eq] at hh
    rcases hh with hh | hh
    · exact h2 _ _ hh
    · omega
theorem cpP.b {M : zM} {a b n : Nat} {N : zM} {s t : Nat → Nat → Bool} (h : cpP M a b n N s) (o m : Nat) (ht : ∀ i j, t i j = true → i < m) (hi : o + m ≤ n) : cpP M a b n (cpS N (a + o) (b + o) t) (fun i' j => s i' j || (decide (o ≤ i') && t (i' - o) j)) := by
  obtain ⟨h1, h2, h3⟩ := h
  refine ⟨?_, fun i' j hh => ?_, h3⟩
  · subst h1
    funext k j
    simp only [cpS]
    by_cases hk : a + o ≤ k ∧ t (k - (a + o)) j = true
    · have e0 := ht _ _ hk.2
      have e1 : a ≤ k := by omega
      have e2 : k - a - o = k - (a + o) := by omega
      have e3 : o ≤ k - a := by omega
      have e4 : b + o + (k - (a + o)) = b + (k - a) := by omega
      have e5 : ¬ (a ≤ b + (k - a) ∧ s (b + (k - a) - a) j = true) := fun q => by have := h2 _ _ q.2; omega
      rw [if_pos hk, e4, if_neg e5, if_pos]
      exact ⟨e1, by rw [e2, hk.2]; simp [e3]⟩
    · rw [if_neg hk]
      by_cases ha : a ≤ k
      · by_cases ho : o ≤ k - a
        · have e2 : k - a - o = k - (a + o) := by omega
          have e6 : t (k - (a + o)) j = false := by
            cases hq : t (k - (a + o)) j
            · rfl
            · exact absurd ⟨by omega, hq⟩ hk
          simp [ha, ho, e2, e6]
        · simp [ha, ho]
      · simp [ha]
  · simp only [Bool.or_eq_true, Bool.and_eq_true, decide_eq_true_eq] at hh
    rcases hh with hh | hh
    · exact h2 _ _ hh
    · have := ht _ _ hh.2
      omega
def rmX11_copyRow : Room := { frames := 1, cells := 0, slots := 0, locals := 26 }

abbrev wzX11_copyRow : List Cond := .code yX11_copyRow cX11_copyRow 2 none :: zW
theorem kX11_copyRow_451 : zml_mmin wzX11_copyRow RX11 451 := ⟨List.mem_cons_of_mem _ (zWi_22 _ (List.mem_of_getElem? (i := 7) rfl)), List.mem_cons_of_mem _ (zWi_30 _ (List.mem_of_getElem? (i := 3) rfl)), List.mem_cons_of_mem _ (zWi_12 _ (List.mem_of_getElem? (i := 0) rfl)), List.mem_cons_of_mem _ (zWi_0 _ (List.mem_of_getElem? (i := 28) rfl))⟩
theorem kX11_copyRow_456 : zml_acopy wzX11_copyRow RX11 456 := ⟨List.mem_cons_of_mem _ (zWi_22 _ (List.mem_of_getElem? (i := 8) rfl)), List.mem_cons_of_mem _ (zWi_25 _ (List.mem_of_getElem? (i := 9) rfl)), List.mem_cons_of_mem _ (zWi_30 _ (List.mem_of_getElem? (i := 6) rfl)), List.mem_cons_of_mem _ (zWi_12 _ (List.mem_of_getElem? (i := 1) rfl))⟩
def sp_X11_copyRow (as : List zV) (M : zM) (Q : Option zV → zM → Prop) : Prop := ∃ (k0 k1 n : Nat), as = [zR k0, zR k1] ∧ (zly k0 = .inl (0, n)) ∧ (zly k1 = .inl (0, n)) ∧ (k0 < zNC) ∧ (k1 < zNC) ∧ (n ≤ 1000) ∧ Q (none) (cpy M k0 k1 n)
theorem us_X11_copyRow {k0 k1 n : Nat} {M : zM} {Q : Option zV → zM → Prop} (hY0 : zly k0 = .inl (0, n)) (hY1 : zly k1 = .inl (0, n)) (hk0 : k0 < zNC) (hk1 : k1 < zNC) (hn : n ≤ 1000) (h99 : Q (none) (cpy M k0 k1 n)) : sp_X11_copyRow [zR k0, zR k1] M Q := ⟨k0, k1, n, rfl, hY0, hY1, hk0, hk1, hn, h99⟩
set_option maxRecDepth 20000 in
set_option maxHeartbeats 4000000 in
theorem m_X11_copyRow (l : Launch) : zC l yX11_copyRow wzX11_copyRow rmX11_copyRow sp_X11_copyRow := by
  refine zMet.of RX11 (by decide +kernel) rfl rfl ?_
  intro E X as M Qp hX S hsp
  obtain ⟨k0, k1, n, rfl, hY0, hY1, hk0, hk1, hn, hQ⟩ := hsp
  refine ⟨Nat.le_of_ble_eq_true rfl, ?_⟩
  dsimp only [zpad, zargs]
  refine zr_aload_n (pc := 0) S dX11_copyRow_0 rfl ?_
  refine zr_iconst (pc := 1) S dX11_copyRow_1 (by unfold zrI; omega) ?_
  refine zr_aload_n (pc := 2) S dX11_copyRow_2 rfl ?_
  refine zr_iconst (pc := 3) S dX11_copyRow_3 (by unfold zrI; omega) ?_
  refine zr_aload_n (pc := 4) S dX11_copyRow_4 rfl ?_
  refine zr_alen (pc := 5) S dX11_copyRow_5 hY0 hk0 ⟨_, rfl⟩ (by unfold zrI; omega) ?_
  refine zr_aload_n (pc := 6) S dX11_copyRow_6 rfl ?_
  refine zr_alen (pc := 7) S dX11_copyRow_7 hY1 hk1 ⟨_, rfl⟩ (by unfold zrI; omega) ?_
  refine zr_mmin (pc := 8) S kX11_copyRow_451 dX11_copyRow_8 (Nat.le_of_ble_eq_true rfl) (Nat.le_of_ble_eq_true rfl) ⟨Nat.le_of_ble_eq_true rfl, Nat.le_of_ble_eq_true rfl⟩ ?_
  have e : min (n : Int) n = n := by omega
  rw [e]
  refine zr_acopy (pc := 11) S kX11_copyRow_456 dX11_copyRow_11 hY0 hY1 hk0 hk1 (by omega) (by omega) (by omega) (Nat.le_of_ble_eq_true rfl) (Nat.le_of_ble_eq_true rfl) ?_
  refine zr_vret (pc := 14) S dX11_copyRow_14 rfl ⟨Nat.le_refl _, Nat.le_refl _⟩ (zqm hQ ?_)
  funext k j
  rw [Int.toNat_natCast]
  rfl

def rmX2_copyFrom : Room := { frames := 2, cells := 0, slots := 0, locals := 47 }
abbrev wzX2_copyFrom : List Cond := .code yX2_copyFrom cX2_copyFrom 2 none :: zW
def rmX7_copyFrom : Room := { frames := 2, cells := 0, slots := 0, locals := 47 }
abbrev wzX7_copyFrom : List Cond := .code yX7_copyFrom cX7_copyFrom 2 none :: zW
def rmX9_copyFrom : Room := { frames := 2, cells := 0, slots := 0, locals := 47 }
abbrev wzX9_copyFrom : List Cond := .code yX9_copyFrom cX9_copyFrom 2 none :: zW
def rmX8_copyFrom : Room := { frames := 3, cells := 0, slots := 0, locals := 68 }
abbrev wzX8_copyFrom : List Cond := .code yX8_copyFrom cX8_copyFrom 2 none :: zW
theorem fX2_copyFrom_36 : zfl wzX2_copyFrom RX2 vwCl 36 2 0 := ⟨_, _, _, rfl, (fun w h => List.mem_cons_of_mem _ (zWuX2 w h)), by decide, List.mem_cons_of_mem _ (zWi_9 _ (List.mem_of_getElem? (i := 44) rfl))⟩
theorem pX2_copyFrom_36 : zfp wzX2_copyFrom RX2 vwCl 36 2 0 := ⟨_, _, _, _, rfl, (fun w h => List.mem_cons_of_mem _ (zWuX2 w h)), by decide, List.mem_cons_of_mem _ (zWi_9 _ (List.mem_of_getElem? (i := 44) rfl)), tyX2_ok, nmX2, rfl, by decide +kernel⟩
theorem fX2_copyFrom_9 : zfl wzX2_copyFrom RX2 vwCl 9 2 1 := ⟨_, _, _, rfl, (fun w h => List.mem_cons_of_mem _ (zWuX2 w h)), by decide, List.mem_cons_of_mem _ (zWi_9 _ (List.mem_of_getElem? (i := 45) rfl))⟩
theorem fX2_copyFrom_15 : zfl wzX2_copyFrom RX2 vwCl 15 2 2 := ⟨_, _, _, rfl, (fun w h => List.mem_cons_of_mem _ (zWuX2 w h)), by decide, List.mem_cons_of_mem _ (zWi_9 _ (List.mem_of_getElem? (i := 40) rfl))⟩
theorem fX2_copyFrom_18 : zfl wzX2_copyFrom RX2 vwCl 18 2 3 := ⟨_, _, _, rfl, (fun w h => List.mem_cons_of_mem _ (zWuX2 w h)), by decide, List.mem_cons_of_mem _ (zWi_9 _ (List.mem_of_getElem? (i := 41) rfl))⟩
theorem fX2_copyFrom_21 : zfl wzX2_copyFrom RX2 vwCl 21 2 4 := ⟨_, _, _, rfl, (fun w h => List.mem_cons_of_mem _ (zWuX2 w h)), by decide, List.mem_cons_of_mem _ (zWi_9 _ (List.mem_of_getElem? (i := 42) rfl))⟩
theorem fX2_copyFrom_24 : zfl wzX2_copyFrom RX2 vwCl 24 2 5 := ⟨_, _, _, rfl, (fun w h => List.mem_cons_of_mem _ (zWuX2 w h)), by decide, List.mem_cons_of_mem _ (zWi_9 _ (List.mem_of_getElem? (i := 43) rfl))⟩
theorem kX2_copyFrom_40 : ∀ (s9 : State) (a9 : Array Value), (∀ w ∈ wzX2_copyFrom, w.before a9 s9 = true) → va_Nw (.methodLinkNest RX2 40 yX11_copyRow RX11) s9 → va_CN rmX2_copyFrom s9 a9 RX2 40 yX11_copyRow RX11 cX11_copyRow 2 none wzX11_copyRow rmX11_copyRow 0 0 2 ∧ (Cond.static yX11_copyRow).before a9 s9 = true ∧ True := zcN (zWi_31 _ (List.mem_of_getElem? (i := 5) rfl)) (zWi_12 _ (List.mem_of_getElem? (i := 12) rfl)) (zWi_1 _ (List.mem_of_getElem? (i := 19) rfl)) (by decide +kernel) rfl rfl ⟨Nat.le_of_ble_eq_true rfl, Nat.le_of_ble_eq_true rfl⟩
theorem fX7_copyFrom_36 : zfl wzX7_copyFrom RX7 vwCl 36 7 0 := ⟨_, _, _, rfl, (fun w h => List.mem_cons_of_mem _ (zWuX7 w h)), by decide, List.mem_cons_of_mem _ (zWi_11 _ (List.mem_of_getElem? (i := 19) rfl))⟩
theorem pX7_copyFrom_36 : zfp wzX7_copyFrom RX7 vwCl 36 7 0 := ⟨_, _, _, _, rfl, (fun w h => List.mem_cons_of_mem _ (zWuX7 w h)), by decide, List.mem_cons_of_mem _ (zWi_11 _ (List.mem_of_getElem? (i := 19) rfl)), tyX7_ok, nmX7, rfl, by decide +kernel⟩
theorem fX7_copyFrom_9 : zfl wzX7_copyFrom RX7 vwCl 9 7 1 := ⟨_, _, _, rfl, (fun w h => List.mem_cons_of_mem _ (zWuX7 w h)), by decide, List.mem_cons_of_mem _ (zWi_11 _ (List.mem_of_getElem? (i := 20) rfl))⟩
theorem fX7_copyFrom_15 : zfl wzX7_copyFrom RX7 vwCl 15 7 2 := ⟨_, _, _, rfl, (fun w h => List.mem_cons_of_mem _ (zWuX7 w h)), by decide, List.mem_cons_of_mem _ (zWi_11 _ (List.mem_of_getElem? (i := 12) rfl))⟩
theorem fX7_copyFrom_18 : zfl wzX7_copyFrom RX7 vwCl 18 7 3 := ⟨_, _, _, rfl, (fun w h => List.mem_cons_of_mem _ (zWuX7 w h)), by decide, List.mem_cons_of_mem _ (zWi_11 _ (List.mem_of_getElem? (i := 13) rfl))⟩
theorem fX7_copyFrom_21 : zfl wzX7_copyFrom RX7 vwCl 21 7 4 := ⟨_, _, _, rfl, (fun w h => List.mem_cons_of_mem _ (zWuX7 w h)), by decide, List.mem_cons_of_mem _ (zWi_11 _ (List.mem_of_getElem? (i := 14) rfl))⟩
theorem fX7_copyFrom_24 : zfl wzX7_copyFrom RX7 vwCl 24 7 5 := ⟨_, _, _, rfl, (fun w h => List.mem_cons_of_mem _ (zWuX7 w h)), by decide, List.mem_cons_of_mem _ (zWi_11 _ (List.mem_of_getElem? (i := 15) rfl))⟩
theorem fX7_copyFrom_27 : zfl wzX7_copyFrom RX7 vwCl 27 7 6 := ⟨_, _, _, rfl, (fun w h => List.mem_cons_of_mem _ (zWuX7 w h)), by decide, List.mem_cons_of_mem _ (zWi_11 _ (List.mem_of_getElem? (i := 16) rfl))⟩
theorem fX7_copyFrom_30 : zfl wzX7_copyFrom RX7 vwCl 30 7 7 := ⟨_, _, _, rfl, (fun w h => List.mem_cons_of_mem _ (zWuX7 w h)), by decide, List.mem_cons_of_mem _ (zWi_11 _ (List.mem_of_getElem? (i := 17) rfl))⟩
theorem fX7_copyFrom_33 : zfl wzX7_copyFrom RX7 vwCl 33 7 8 := ⟨_, _, _, rfl, (fun w h => List.mem_cons_of_mem _ (zWuX7 w h)), by decide, List.mem_cons_of_mem _ (zWi_11 _ (List.mem_of_getElem? (i := 18) rfl))⟩
theorem kX7_copyFrom_67 : ∀ (s9 : State) (a9 : Array Value), (∀ w ∈ wzX7_copyFrom, w.before a9 s9 = true) → va_Nw (.methodLinkNest RX7 67 yX11_copyRow RX11) s9 → va_CN rmX7_copyFrom s9 a9 RX7 67 yX11_copyRow RX11 cX11_copyRow 2 none wzX11_copyRow rmX11_copyRow 0 0 2 ∧ (Cond.static yX11_copyRow).before a9 s9 = true ∧ True := zcN (zWi_31 _ (List.mem_of_getElem? (i := 5) rfl)) (zWi_12 _ (List.mem_of_getElem? (i := 12) rfl)) (zWi_1 _ (List.mem_of_getElem? (i := 19) rfl)) (by decide +kernel) rfl rfl ⟨Nat.le_of_ble_eq_true rfl, Nat.le_of_ble_eq_true rfl⟩
theorem fX9_copyFrom_9 : zfl wzX9_copyFrom RX9 vwCl 9 9 0 := ⟨_, _, _, rfl, (fun w h => List.mem_cons_of_mem _ (zWuX9 w h)), by decide, List.mem_cons_of_mem _ (zWi_11 _ (List.mem_of_getElem? (i := 46) rfl))⟩
theorem fX9_copyFrom_15 : zfl wzX9_copyFrom RX9 vwCl 15 9 1 := ⟨_, _, _, rfl, (fun w h => List.mem_cons_of_mem _ (zWuX9 w h)), by decide, List.mem_cons_of_mem _ (zWi_11 _ (List.mem_of_getElem? (i := 34) rfl))⟩
theorem fX9_copyFrom_18 : zfl wzX9_copyFrom RX9 vwCl 18 9 2 := ⟨_, _, _, rfl, (fun w h => List.mem_cons_of_mem _ (zWuX9 w h)), by decide, List.mem_cons_of_mem _ (zWi_11 _ (List.mem_of_getElem? (i := 35) rfl))⟩
theorem fX9_copyFrom_21 : zfl wzX9_copyFrom RX9 vwCl 21 9 3 := ⟨_, _, _, rfl, (fun w h => List.mem_cons_of_mem _ (zWuX9 w h)), by decide, List.mem_cons_of_mem _ (zWi_11 _ (List.mem_of_getElem? (i := 36) rfl))⟩
theorem fX9_copyFrom_24 : zfl wzX9_copyFrom RX9 vwCl 24 9 4 := ⟨_, _, _, rfl, (fun w h => List.mem_cons_of_mem _ (zWuX9 w h)), by decide, List.mem_cons_of_mem _ (zWi_11 _ (List.mem_of_getElem? (i := 37) rfl))⟩
theorem fX9_copyFrom_27 : zfl wzX9_copyFrom RX9 vwCl 27 9 5 := ⟨_, _, _, rfl, (fun w h => List.mem_cons_of_mem _ (zWuX9 w h)), by decide, List.mem_cons_of_mem _ (zWi_11 _ (List.mem_of_getElem? (i := 38) rfl))⟩
theorem fX9_copyFrom_53 : zfl wzX9_copyFrom RX9 vwCl 53 9 6 := ⟨_, _, _, rfl, (fun w h => List.mem_cons_of_mem _ (zWuX9 w h)), by decide, List.mem_cons_of_mem _ (zWi_11 _ (List.mem_of_getElem? (i := 44) rfl))⟩
theorem pX9_copyFrom_53 : zfp wzX9_copyFrom RX9 vwCl 53 9 6 := ⟨_, _, _, _, rfl, (fun w h => List.mem_cons_of_mem _ (zWuX9 w h)), by decide, List.mem_cons_of_mem _ (zWi_11 _ (List.mem_of_getElem? (i := 44) rfl)), tyX9_ok, nmX9, rfl, by decide +kernel⟩
theorem fX9_copyFrom_30 : zfl wzX9_copyFrom RX9 vwCl 30 9 7 := ⟨_, _, _, rfl, (fun w h => List.mem_cons_of_mem _ (zWuX9 w h)), by decide, List.mem_cons_of_mem _ (zWi_11 _ (List.mem_of_getElem? (i := 39) rfl))⟩
theorem fX9_copyFrom_33 : zfl wzX9_copyFrom RX9 vwCl 33 9 8 := ⟨_, _, _, rfl, (fun w h => List.mem_cons_of_mem _ (zWuX9 w h)), by decide, List.mem_cons_of_mem _ (zWi_11 _ (List.mem_of_getElem? (i := 40) rfl))⟩
theorem fX9_copyFrom_36 : zfl wzX9_copyFrom RX9 vwCl 36 9 9 := ⟨_, _, _, rfl, (fun w h => List.mem_cons_of_mem _ (zWuX9 w h)), by decide, List.mem_cons_of_mem _ (zWi_11 _ (List.mem_of_getElem? (i := 41) rfl))⟩
theorem fX9_copyFrom_39 : zfl wzX9_copyFrom RX9 vwCl 39 9 10 := ⟨_, _, _, rfl, (fun w h => List.mem_cons_of_mem _ (zWuX9 w h)), by decide, List.mem_cons_of_mem _ (zWi_11 _ (List.mem_of_getElem? (i := 42) rfl))⟩
theorem fX9_copyFrom_65 : zfl wzX9_copyFrom RX9 vwCl 65 9 11 := ⟨_, _, _, rfl, (fun w h => List.mem_cons_of_mem _ (zWuX9 w h)), by decide, List.mem_cons_of_mem _ (zWi_11 _ (List.mem_of_getElem? (i := 45) rfl))⟩
theorem pX9_copyFrom_65 : zfp wzX9_copyFrom RX9 vwCl 65 9 11 := ⟨_, _, _, _, rfl, (fun w h => List.mem_cons_of_mem _ (zWuX9 w h)), by decide, List.mem_cons_of_mem _ (zWi_11 _ (List.mem_of_getElem? (i := 45) rfl)), tyX9_ok, nmX9, rfl, by decide +kernel⟩
theorem fX9_copyFrom_42 : zfl wzX9_copyFrom RX9 vwCl 42 9 12 := ⟨_, _, _, rfl, (fun w h => List.mem_cons_of_mem _ (zWuX9 w h)), by decide, List.mem_cons_of_mem _ (zWi_11 _ (List.mem_of_getElem? (i := 43) rfl))⟩
theorem kX9_copyFrom_74 : ∀ (s9 : State) (a9 : Array Value), (∀ w ∈ wzX9_copyFrom, w.before a9 s9 = true) → va_Nw (.methodLinkNest RX9 74 yX11_copyRow RX11) s9 → va_CN rmX9_copyFrom s9 a9 RX9 74 yX11_copyRow RX11 cX11_copyRow 2 none wzX11_copyRow rmX11_copyRow 0 0 2 ∧ (Cond.static yX11_copyRow).before a9 s9 = true ∧ True := zcN (zWi_31 _ (List.mem_of_getElem? (i := 5) rfl)) (zWi_12 _ (List.mem_of_getElem? (i := 12) rfl)) (zWi_1 _ (List.mem_of_getElem? (i := 19) rfl)) (by decide +kernel) rfl rfl ⟨Nat.le_of_ble_eq_true rfl, Nat.le_of_ble_eq_true rfl⟩
theorem fX8_copyFrom_12 : zfl wzX8_copyFrom RX8 vwCl 12 8 0 := ⟨_, _, _, rfl, (fun w h => List.mem_cons_of_mem _ (zWuX8 w h)), by decide, List.mem_cons_of_mem _ (zWi_11 _ (List.mem_of_getElem? (i := 21) rfl))⟩
theorem fX8_copyFrom_21 : zfl wzX8_copyFrom RX8 vwCl 21 8 1 := ⟨_, _, _, rfl, (fun w h => List.mem_cons_of_mem _ (zWuX8 w h)), by decide, List.mem_cons_of_mem _ (zWi_11 _ (List.mem_of_getElem? (i := 22) rfl))⟩
theorem fX8_copyFrom_28 : zfl wzX8_copyFrom RX8 vwCl 28 8 2 := ⟨_, _, _, rfl, (fun w h => List.mem_cons_of_mem _ (zWuX8 w h)), by decide, List.mem_cons_of_mem _ (zWi_11 _ (List.mem_of_getElem? (i := 23) rfl))⟩
theorem fX8_copyFrom_54 : zfl wzX8_copyFrom RX8 vwCl 54 8 3 := ⟨_, _, _, rfl, (fun w h => List.mem_cons_of_mem _ (zWuX8 w h)), by decide, List.mem_cons_of_mem _ (zWi_11 _ (List.mem_of_getElem? (i := 31) rfl))⟩
theorem pX8_copyFrom_54 : zfp wzX8_copyFrom RX8 vwCl 54 8 3 := ⟨_, _, _, _, rfl, (fun w h => List.mem_cons_of_mem _ (zWuX8 w h)), by decide, List.mem_cons_of_mem _ (zWi_11 _ (List.mem_of_getElem? (i := 31) rfl)), tyX8_ok, nmX8, rfl, by decide +kernel⟩
theorem fX8_copyFrom_32 : zfl wzX8_copyFrom RX8 vwCl 32 8 4 := ⟨_, _, _, rfl, (fun w h => List.mem_cons_of_mem _ (zWuX8 w h)), by decide, List.mem_cons_of_mem _ (zWi_11 _ (List.mem_of_getElem? (i := 24) rfl))⟩
theorem fX8_copyFrom_58 : zfl wzX8_copyFrom RX8 vwCl 58 8 5 := ⟨_, _, _, rfl, (fun w h => List.mem_cons_of_mem _ (zWuX8 w h)), by decide, List.mem_cons_of_mem _ (zWi_11 _ (List.mem_of_getElem? (i := 32) rfl))⟩
theorem pX8_copyFrom_58 : zfp wzX8_copyFrom RX8 vwCl 58 8 5 := ⟨_, _, _, _, rfl, (fun w h => List.mem_cons_of_mem _ (zWuX8 w h)), by decide, List.mem_cons_of_mem _ (zWi_11 _ (List.mem_of_getElem? (i := 32) rfl)), tyX8_ok, nmX8, rfl, by decide +kernel⟩
theorem fX8_copyFrom_36 : zfl wzX8_copyFrom RX8 vwCl 36 8 6 := ⟨_, _, _, rfl, (fun w h => List.mem_cons_of_mem _ (zWuX8 w h)), by decide, List.mem_cons_of_mem _ (zWi_11 _ (List.mem_of_getElem? (i := 25) rfl))⟩
theorem fX8_copyFrom_39 : zfl wzX8_copyFrom RX8 vwCl 39 8 7 := ⟨_, _, _, rfl, (fun w h => List.mem_cons_of_mem _ (zWuX8 w h)), by decide, List.mem_cons_of_mem _ (zWi_11 _ (List.mem_of_getElem? (i := 26) rfl))⟩
theorem fX8_copyFrom_42 : zfl wzX8_copyFrom RX8 vwCl 42 8 8 := ⟨_, _, _, rfl, (fun w h => List.mem_cons_of_mem _ (zWuX8 w h)), by decide, List.mem_cons_of_mem _ (zWi_11 _ (List.mem_of_getElem? (i := 27) rfl))⟩
theorem fX8_copyFrom_45 : zfl wzX8_copyFrom RX8 vwCl 45 8 9 := ⟨_, _, _, rfl, (fun w h => List.mem_cons_of_mem _ (zWuX8 w h)), by decide, List.mem_cons_of_mem _ (zWi_11 _ (List.mem_of_getElem? (i := 28) rfl))⟩
theorem fX8_copyFrom_61 : zfl wzX8_copyFrom RX8 vwCl 61 8 10 := ⟨_, _, _, rfl, (fun w h => List.mem_cons_of_mem _ (zWuX8 w h)), by decide, List.mem_cons_of_mem _ (zWi_11 _ (List.mem_of_getElem? (i := 33) rfl))⟩
theorem pX8_copyFrom_61 : zfp wzX8_copyFrom RX8 vwCl 61 8 10 := ⟨_, _, _, _, rfl, (fun w h => List.mem_cons_of_mem _ (zWuX8 w h)), by decide, List.mem_cons_of_mem _ (zWi_11 _ (List.mem_of_getElem? (i := 33) rfl)), tyX8_ok, nmX8, rfl, by decide +kernel⟩
theorem fX8_copyFrom_48 : zfl wzX8_copyFrom RX8 vwCl 48 8 11 := ⟨_, _, _, rfl, (fun w h => List.mem_cons_of_mem _ (zWuX8 w h)), by decide, List.mem_cons_of_mem _ (zWi_11 _ (List.mem_of_getElem? (i := 29) rfl))⟩
theorem fX8_copyFrom_51 : zfl wzX8_copyFrom RX8 vwCl 51 8 12 := ⟨_, _, _, rfl, (fun w h => List.mem_cons_of_mem _ (zWuX8 w h)), by decide, List.mem_cons_of_mem _ (zWi_11 _ (List.mem_of_getElem? (i := 30) rfl))⟩
theorem kX8_copyFrom_64 : ∀ (s9 : State) (a9 : Array Value), (∀ w ∈ wzX8_copyFrom, w.before a9 s9 = true) → CallW rmX8_copyFrom s9 a9 RX8 RX7 64 yX7_copyFrom cX7_copyFrom 2 none wzX7_copyFrom rmX7_copyFrom 0 0 1 := zcV (zWi_24 _ (List.mem_of_getElem? (i := 49) rfl)) (zWi_16 _ (List.mem_of_getElem? (i := 43) rfl)) (zWi_29 _ (List.mem_of_getElem? (i := 20) rfl)) (zWi_12 _ (List.mem_of_getElem? (i := 19) rfl)) (zWi_5 _ (List.mem_of_getElem? (i := 27) rfl)) (by decide +kernel) rfl rfl ⟨Nat.le_of_ble_eq_true rfl, Nat.le_of_ble_eq_true rfl⟩
theorem kX8_copyFrom_68 : ∀ (s9 : State) (a9 : Array Value), (∀ w ∈ wzX8_copyFrom, w.before a9 s9 = true) → CallW rmX8_copyFrom s9 a9 RX8 RX2 68 yX2_copyFrom cX2_copyFrom 2 none wzX2_copyFrom rmX2_copyFrom 0 0 1 := zcV (zWi_25 _ (List.mem_of_getElem? (i := 0) rfl)) (zWi_15 _ (List.mem_of_getElem? (i := 47) rfl)) (zWi_28 _ (List.mem_of_getElem? (i := 29) rfl)) (zWi_12 _ (List.mem_of_getElem? (i := 14) rfl)) (zWi_4 _ (List.mem_of_getElem? (i := 30) rfl)) (by decide +kernel) rfl rfl ⟨Nat.le_of_ble_eq_true rfl, Nat.le_of_ble_eq_true rfl⟩
theorem kX8_copyFrom_71 : ∀ (s9 : State) (a9 : Array Value), (∀ w ∈ wzX8_copyFrom, w.before a9 s9 = true) → CallW rmX8_copyFrom s9 a9 RX8 RX9 71 yX9_copyFrom cX9_copyFrom 2 none wzX9_copyFrom rmX9_copyFrom 0 0 1 := zcV (zWi_25 _ (List.mem_of_getElem? (i := 1) rfl)) (zWi_17 _ (List.mem_of_getElem? (i := 11) rfl)) (zWi_29 _ (List.mem_of_getElem? (i := 36) rfl)) (zWi_12 _ (List.mem_of_getElem? (i := 21) rfl)) (zWi_5 _ (List.mem_of_getElem? (i := 45) rfl)) (by decide +kernel) rfl rfl ⟨Nat.le_of_ble_eq_true rfl, Nat.le_of_ble_eq_true rfl⟩
theorem kX8_copyFrom_74 : ∀ (s9 : State) (a9 : Array Value), (∀ w ∈ wzX8_copyFrom, w.before a9 s9 = true) → va_Nw (.methodLinkNest RX8 74 yX11_copyRow RX11) s9 → va_CN rmX8_copyFrom s9 a9 RX8 74 yX11_copyRow RX11 cX11_copyRow 2 none wzX11_copyRow rmX11_copyRow 0 0 2 ∧ (Cond.static yX11_copyRow).before a9 s9 = true ∧ True := zcN (zWi_31 _ (List.mem_of_getElem? (i := 5) rfl)) (zWi_12 _ (List.mem_of_getElem? (i := 12) rfl)) (zWi_1 _ (List.mem_of_getElem? (i := 19) rfl)) (by decide +kernel) rfl rfl ⟨Nat.le_of_ble_eq_true rfl, Nat.le_of_ble_eq_true rfl⟩
def csG (i j : Nat) : Bool := false || (i == 0 && j == 0) || (i == 1 && decide (j < 8)) || (i == 2 && decide (j < 8)) || (i == 3 && decide (j < 8)) || (i == 4 && decide (j < 8)) || (i == 5 && decide (j < 8))
theorem csG_r : ∀ i j, csG i j = true → i < 6 := by
  intro i j h
  simp only [csG, Bool.or_eq_true, Bool.and_eq_true, beq_iff_eq, Bool.false_eq_true, false_or] at h
  omega
def sp_X2_copyFrom (as : List zV) (M : zM) (Q : Option zV → zM → Prop) : Prop := ∃ (a b : Nat), as = [zR a, zR b] ∧ ((a = 11 ∧ b = 77) ∨ (a = 11 ∧ b = 112) ∨ (a = 11 ∧ b = 147) ∨ (a = 77 ∧ b = 11) ∨ (a = 112 ∧ b = 11) ∨ (a = 147 ∧ b = 11) ∨ (a = 11 ∧ b = 41)) ∧ Q (none) (cpS M a b csG)
theorem us_X2_copyFrom {a b : Nat} {M : zM} {Q : Option zV → zM → Prop} (hab : (a = 11 ∧ b = 77) ∨ (a = 11 ∧ b = 112) ∨ (a = 11 ∧ b = 147) ∨ (a = 77 ∧ b = 11) ∨ (a = 112 ∧ b = 11) ∨ (a = 147 ∧ b = 11) ∨ (a = 11 ∧ b = 41)) (h99 : Q (none) (cpS M a b csG)) : sp_X2_copyFrom [zR a, zR b] M Q := ⟨a, b, rfl, hab, h99⟩
set_option maxRecDepth 20000 in
set_option maxHeartbeats 4000000 in
theorem m_X2_copyFrom (l : Launch) : zC l yX2_copyFrom wzX2_copyFrom rmX2_copyFrom sp_X2_copyFrom := by
  refine zMet.of RX2 (by decide +kernel) rfl rfl ?_
  intro E X as M Qp hX S hsp
  obtain ⟨a, b, rfl, hab, hQ⟩ := hsp
  refine ⟨Nat.le_of_ble_eq_true rfl, ?_⟩
  dsimp only [zpad, zargs]
  rcases hab with ⟨rfl, rfl⟩ | ⟨rfl, rfl⟩ | ⟨rfl, rfl⟩ | ⟨rfl, rfl⟩ | ⟨rfl, rfl⟩ | ⟨rfl, rfl⟩ | ⟨rfl, rfl⟩
  · refine zr_aload_n (pc := 0) S dX2_copyFrom_0 rfl ?_
    refine zr_aload_n (pc := 1) S dX2_copyFrom_1 rfl ?_
    refine zr_getI (pc := 2) S fX2_copyFrom_36 dX2_copyFrom_2 rfl (Nat.le_of_ble_eq_true rfl) rfl ?_
    refine zr_putI (pc := 5) S pX2_copyFrom_36 dX2_copyFrom_5 rfl (Nat.le_of_ble_eq_true rfl) rfl ?_
    refine zr_aload_n (pc := 8) S dX2_copyFrom_8 rfl ?_
    refine zr_getR (pc := 9) S fX2_copyFrom_9 dX2_copyFrom_9 rfl (Nat.le_of_ble_eq_true rfl) rfl ?_
    try simp only [zup_k, zup_e, ne_eq, Nat.reduceEqDiff, not_false_eq_true, zup_j]
    refine zr_aload_n (pc := 12) S dX2_copyFrom_12 rfl ?_
    refine zr_getR (pc := 13) S fX2_copyFrom_9 dX2_copyFrom_13 rfl (Nat.le_of_ble_eq_true rfl) rfl ?_
    try simp only [zup_k, zup_e, ne_eq, Nat.reduceEqDiff, not_false_eq_true, zup_j]
    refine zr_invN (pc := 16) S [zR _, zR _] (m_X11_copyRow _) (List.mem_of_getElem? (i := 0) rfl) kX2_copyFrom_40 dX2_copyFrom_16 (Nat.le_of_ble_eq_true rfl) ⟨Nat.le_of_ble_eq_true rfl, Nat.le_of_ble_eq_true rfl⟩ (us_X11_copyRow rfl rfl (Nat.le_of_ble_eq_true rfl) (Nat.le_of_ble_eq_true rfl) (by decide) ?_)
    dsimp only [zaft, Option.toList, List.cons_append, List.nil_append, Nat.add_zero]
    refine zr_aload_n (pc := 19) S dX2_copyFrom_19 rfl ?_
    refine zr_getR (pc := 20) S fX2_copyFrom_15 dX2_copyFrom_20 rfl (Nat.le_of_ble_eq_true rfl) rfl ?_
    try simp only [zup_k, zup_e, ne_eq, Nat.reduceEqDiff, not_false_eq_true, zup_j]
    refine zr_aload_n (pc := 23) S dX2_copyFrom_23 rfl ?_
    refine zr_getR (pc := 24) S fX2_copyFrom_15 dX2_copyFrom_24 rfl (Nat.le_of_ble_eq_true rfl) rfl ?_
    try simp only [zup_k, zup_e, ne_eq, Nat.reduceEqDiff, not_false_eq_true, zup_j]
    refine zr_invN (pc := 27) S [zR _, zR _] (m_X11_copyRow _) (List.mem_of_getElem? (i := 0) rfl) kX2_copyFrom_40 dX2_copyFrom_27 (Nat.le_of_ble_eq_true rfl) ⟨Nat.le_of_ble_eq_true rfl, Nat.le_of_ble_eq_true rfl⟩ (us_X11_copyRow rfl rfl (Nat.le_of_ble_eq_true rfl) (Nat.le_of_ble_eq_true rfl) (by decide) ?_)
    dsimp only [zaft, Option.toList, List.cons_append, List.nil_append, Nat.add_zero]
    refine zr_aload_n (pc := 30) S dX2_copyFrom_30 rfl ?_
    refine zr_getR (pc := 31) S fX2_copyFrom_18 dX2_copyFrom_31 rfl (Nat.le_of_ble_eq_true rfl) rfl ?_
    try simp only [zup_k, zup_e, ne_eq, Nat.reduceEqDiff, not_false_eq_true, zup_j]
    refine zr_aload_n (pc := 34) S dX2_copyFrom_34 rfl ?_
    refine zr_getR (pc := 35) S fX2_copyFrom_18 dX2_copyFrom_35 rfl (Nat.le_of_ble_eq_true rfl) rfl ?_
    try simp only [zup_k, zup_e, ne_eq, Nat.reduceEqDiff, not_false_eq_true, zup_j]
    refine zr_invN (pc := 38) S [zR _, zR _] (m_X11_copyRow _) (List.mem_of_getElem? (i := 0) rfl) kX2_copyFrom_40 dX2_copyFrom_38 (Nat.le_of_ble_eq_true rfl) ⟨Nat.le_of_ble_eq_true rfl, Nat.le_of_ble_eq_true rfl⟩ (us_X11_copyRow rfl rfl (Nat.le_of_ble_eq_true rfl) (Nat.le_of_ble_eq_true rfl) (by decide) ?_)
    dsimp only [zaft, Option.toList, List.cons_append, List.nil_append, Nat.add_zero]
    refine zr_aload_n (pc := 41) S dX2_copyFrom_41 rfl ?_
    refine zr_getR (pc := 42) S fX2_copyFrom_21 dX2_copyFrom_42 rfl (Nat.le_of_ble_eq_true rfl) rfl ?_
    try simp only [zup_k, zup_e, ne_eq, Nat.reduceEqDiff, not_false_eq_true, zup_j]
    refine zr_aload_n (pc := 45) S dX2_copyFrom_45 rfl ?_
    refine zr_getR (pc := 46) S fX2_copyFrom_21 dX2_copyFrom_46 rfl (Nat.le_of_ble_eq_true rfl) rfl ?_
    try simp only [zup_k, zup_e, ne_eq, Nat.reduceEqDiff, not_false_eq_true, zup_j]
    refine zr_invN (pc := 49) S [zR _, zR _] (m_X11_copyRow _) (List.mem_of_getElem? (i := 0) rfl) kX2_copyFrom_40 dX2_copyFrom_49 (Nat.le_of_ble_eq_true rfl) ⟨Nat.le_of_ble_eq_true rfl, Nat.le_of_ble_eq_true rfl⟩ (us_X11_copyRow rfl rfl (Nat.le_of_ble_eq_true rfl) (Nat.le_of_ble_eq_true rfl) (by decide) ?_)
    dsimp only [zaft, Option.toList, List.cons_append, List.nil_append, Nat.add_zero]
    refine zr_aload_n (pc := 52) S dX2_copyFrom_52 rfl ?_
    refine zr_getR (pc := 53) S fX2_copyFrom_24 dX2_copyFrom_53 rfl (Nat.le_of_ble_eq_true rfl) rfl ?_
    try simp only [zup_k, zup_e, ne_eq, Nat.reduceEqDiff, not_false_eq_true, zup_j]
    refine zr_aload_n (pc := 56) S dX2_copyFrom_56 rfl ?_
    refine zr_getR (pc := 57) S fX2_copyFrom_24 dX2_copyFrom_57 rfl (Nat.le_of_ble_eq_true rfl) rfl ?_
    try simp only [zup_k, zup_e, ne_eq, Nat.reduceEqDiff, not_false_eq_true, zup_j]
    refine zr_invN (pc := 60) S [zR _, zR _] (m_X11_copyRow _) (List.mem_of_getElem? (i := 0) rfl) kX2_copyFrom_40 dX2_copyFrom_60 (Nat.le_of_ble_eq_true rfl) ⟨Nat.le_of_ble_eq_true rfl, Nat.le_of_ble_eq_true rfl⟩ (us_X11_copyRow rfl rfl (Nat.le_of_ble_eq_true rfl) (Nat.le_of_ble_eq_true rfl) (by decide) ?_)
    dsimp only [zaft, Option.toList, List.cons_append, List.nil_append, Nat.add_zero]
    exact zr_vret (pc := 63) S dX2_copyFrom_63 rfl ⟨Nat.le_refl _, Nat.le_refl _⟩ (zqm hQ (((((((cpP.z (M := M) (a := 11) (b := 77) (n := 6) (by omega)).p 0 0 (by omega)).r 1 8 (by omega)).r 2 8 (by omega)).r 3 8 (by omega)).r 4 8 (by omega)).r 5 8 (by omega)).1)
  · refine zr_aload_n (pc := 0) S dX2_copyFrom_0 rfl ?_
    refine zr_aload_n (pc := 1) S dX2_copyFrom_1 rfl ?_
    refine zr_getI (pc := 2) S fX2_copyFrom_36 dX2_copyFrom_2 rfl (Nat.le_of_ble_eq_true rfl) rfl ?_
    refine zr_putI (pc := 5) S pX2_copyFrom_36 dX2_copyFrom_5 rfl (Nat.le_of_ble_eq_true rfl) rfl ?_
    refine zr_aload_n (pc := 8) S dX2_copyFrom_8 rfl ?_
    refine zr_getR (pc := 9) S fX2_copyFrom_9 dX2_copyFrom_9 rfl (Nat.le_of_ble_eq_true rfl) rfl ?_
    try simp only [zup_k, zup_e, ne_eq, Nat.reduceEqDiff, not_false_eq_true, zup_j]
    refine zr_aload_n (pc := 12) S dX2_copyFrom_12 rfl ?_
    refine zr_getR (pc := 13) S fX2_copyFrom_9 dX2_copyFrom_13 rfl (Nat.le_of_ble_eq_true rfl) rfl ?_
    try simp only [zup_k, zup_e, ne_eq, Nat.reduceEqDiff, not_false_eq_true, zup_j]
    refine zr_invN (pc := 16) S [zR _, zR _] (m_X11_copyRow _) (List.mem_of_getElem? (i := 0) rfl) kX2_copyFrom_40 dX2_copyFrom_16 (Nat.le_of_ble_eq_true rfl) ⟨Nat.le_of_ble_eq_true rfl, Nat.le_of_ble_eq_true rfl⟩ (us_X11_copyRow rfl rfl (Nat.le_of_ble_eq_true rfl) (Nat.le_of_ble_eq_true rfl) (by decide) ?_)
    dsimp only [zaft, Option.toList, List.cons_append, List.nil_append, Nat.add_zero]
    refine zr_aload_n (pc := 19) S dX2_copyFrom_19 rfl ?_
    refine zr_getR (pc := 20) S fX2_copyFrom_15 dX2_copyFrom_20 rfl (Nat.le_of_ble_eq_true rfl) rfl ?_
    try simp only [zup_k, zup_e, ne_eq, Nat.reduceEqDiff, not_false_eq_true, zup_j]
    refine zr_aload_n (pc := 23) S dX2_copyFrom_23 rfl ?_
    refine zr_getR (pc := 24) S fX2_copyFrom_15 dX2_copyFrom_24 rfl (Nat.le_of_ble_eq_true rfl) rfl ?_
    try simp only [zup_k, zup_e, ne_eq, Nat.reduceEqDiff, not_false_eq_true, zup_j]
    refine zr_invN (pc := 27) S [zR _, zR _] (m_X11_copyRow _) (List.mem_of_getElem? (i := 0) rfl) kX2_copyFrom_40 dX2_copyFrom_27 (Nat.le_of_ble_eq_true rfl) ⟨Nat.le_of_ble_eq_true rfl, Nat.le_of_ble_eq_true rfl⟩ (us_X11_copyRow rfl rfl (Nat.le_of_ble_eq_true rfl) (Nat.le_of_ble_eq_true rfl) (by decide) ?_)
    dsimp only [zaft, Option.toList, List.cons_append, List.nil_append, Nat.add_zero]
    refine zr_aload_n (pc := 30) S dX2_copyFrom_30 rfl ?_
    refine zr_getR (pc := 31) S fX2_copyFrom_18 dX2_copyFrom_31 rfl (Nat.le_of_ble_eq_true rfl) rfl ?_
    try simp only [zup_k, zup_e, ne_eq, Nat.reduceEqDiff, not_false_eq_true, zup_j]
    refine zr_aload_n (pc := 34) S dX2_copyFrom_34 rfl ?_
    refine zr_getR (pc := 35) S fX2_copyFrom_18 dX2_copyFrom_35 rfl (Nat.le_of_ble_eq_true rfl) rfl ?_
    try simp only [zup_k, zup_e, ne_eq, Nat.reduceEqDiff, not_false_eq_true, zup_j]
    refine zr_invN (pc := 38) S [zR _, zR _] (m_X11_copyRow _) (List.mem_of_getElem? (i := 0) rfl) kX2_copyFrom_40 dX2_copyFrom_38 (Nat.le_of_ble_eq_true rfl) ⟨Nat.le_of_ble_eq_true rfl, Nat.le_of_ble_eq_true rfl⟩ (us_X11_copyRow rfl rfl (Nat.le_of_ble_eq_true rfl) (Nat.le_of_ble_eq_true rfl) (by decide) ?_)
    dsimp only [zaft, Option.toList, List.cons_append, List.nil_append, Nat.add_zero]
    refine zr_aload_n (pc := 41) S dX2_copyFrom_41 rfl ?_
    refine zr_getR (pc := 42) S fX2_copyFrom_21 dX2_copyFrom_42 rfl (Nat.le_of_ble_eq_true rfl) rfl ?_
    try simp only [zup_k, zup_e, ne_eq, Nat.reduceEqDiff, not_false_eq_true, zup_j]
    refine zr_aload_n (pc := 45) S dX2_copyFrom_45 rfl ?_
    refine zr_getR (pc := 46) S fX2_copyFrom_21 dX2_copyFrom_46 rfl (Nat.le_of_ble_eq_true rfl) rfl ?_
    try simp only [zup_k, zup_e, ne_eq, Nat.reduceEqDiff, not_false_eq_true, zup_j]
    refine zr_invN (pc := 49) S [zR _, zR _] (m_X11_copyRow _) (List.mem_of_getElem? (i := 0) rfl) kX2_copyFrom_40 dX2_copyFrom_49 (Nat.le_of_ble_eq_true rfl) ⟨Nat.le_of_ble_eq_true rfl, Nat.le_of_ble_eq_true rfl⟩ (us_X11_copyRow rfl rfl (Nat.le_of_ble_eq_true rfl) (Nat.le_of_ble_eq_true rfl) (by decide) ?_)
    dsimp only [zaft, Option.toList, List.cons_append, List.nil_append, Nat.add_zero]
    refine zr_aload_n (pc := 52) S dX2_copyFrom_52 rfl ?_
    refine zr_getR (pc := 53) S fX2_copyFrom_24 dX2_copyFrom_53 rfl (Nat.le_of_ble_eq_true rfl) rfl ?_
    try simp only [zup_k, zup_e, ne_eq, Nat.reduceEqDiff, not_false_eq_true, zup_j]
    refine zr_aload_n (pc := 56) S dX2_copyFrom_56 rfl ?_
    refine zr_getR (pc := 57) S fX2_copyFrom_24 dX2_copyFrom_57 rfl (Nat.le_of_ble_eq_true rfl) rfl ?_
    try simp only [zup_k, zup_e, ne_eq, Nat.reduceEqDiff, not_false_eq_true, zup_j]
    refine zr_invN (pc := 60) S [zR _, zR _] (m_X11_copyRow _) (List.mem_of_getElem? (i := 0) rfl) kX2_copyFrom_40 dX2_copyFrom_60 (Nat.le_of_ble_eq_true rfl) ⟨Nat.le_of_ble_eq_true rfl, Nat.le_of_ble_eq_true rfl⟩ (us_X11_copyRow rfl rfl (Nat.le_of_ble_eq_true rfl) (Nat.le_of_ble_eq_true rfl) (by decide) ?_)
    dsimp only [zaft, Option.toList, List.cons_append, List.nil_append, Nat.add_zero]
    exact zr_vret (pc := 63) S dX2_copyFrom_63 rfl ⟨Nat.le_refl _, Nat.le_refl _⟩ (zqm hQ (((((((cpP.z (M := M) (a := 11) (b := 112) (n := 6) (by omega)).p 0 0 (by omega)).r 1 8 (by omega)).r 2 8 (by omega)).r 3 8 (by omega)).r 4 8 (by omega)).r 5 8 (by omega)).1)
  · refine zr_aload_n (pc := 0) S dX2_copyFrom_0 rfl ?_
    refine zr_aload_n (pc := 1) S dX2_copyFrom_1 rfl ?_
    refine zr_getI (pc := 2) S fX2_copyFrom_36 dX2_copyFrom_2 rfl (Nat.le_of_ble_eq_true rfl) rfl ?_
    refine zr_putI (pc := 5) S pX2_copyFrom_36 dX2_copyFrom_5 rfl (Nat.le_of_ble_eq_true rfl) rfl ?_
    refine zr_aload_n (pc := 8) S dX2_copyFrom_8 rfl ?_
    refine zr_getR (pc := 9) S fX2_copyFrom_9 dX2_copyFrom_9 rfl (Nat.le_of_ble_eq_true rfl) rfl ?_
    try simp only [zup_k, zup_e, ne_eq, Nat.reduceEqDiff, not_false_eq_true, zup_j]
    refine zr_aload_n (pc := 12) S dX2_copyFrom_12 rfl ?_
    refine zr_getR (pc := 13) S fX2_copyFrom_9 dX2_copyFrom_13 rfl (Nat.le_of_ble_eq_true rfl) rfl ?_
    try simp only [zup_k, zup_e, ne_eq, Nat.reduceEqDiff, not_false_eq_true, zup_j]
    refine zr_invN (pc := 16) S [zR _, zR _] (m_X11_copyRow _) (List.mem_of_getElem? (i := 0) rfl) kX2_copyFrom_40 dX2_copyFrom_16 (Nat.le_of_ble_eq_true rfl) ⟨Nat.le_of_ble_eq_true rfl, Nat.le_of_ble_eq_true rfl⟩ (us_X11_copyRow rfl rfl (Nat.le_of_ble_eq_true rfl) (Nat.le_of_ble_eq_true rfl) (by decide) ?_)
    dsimp only [zaft, Option.toList, List.cons_append, List.nil_append, Nat.add_zero]
    refine zr_aload_n (pc := 19) S dX2_copyFrom_19 rfl ?_
    refine zr_getR (pc := 20) S fX2_copyFrom_15 dX2_copyFrom_20 rfl (Nat.le_of_ble_eq_true rfl) rfl ?_
    try simp only [zup_k, zup_e, ne_eq, Nat.reduceEqDiff, not_false_eq_true, zup_j]
    refine zr_aload_n (pc := 23) S dX2_copyFrom_23 rfl ?_
    refine zr_getR (pc := 24) S fX2_copyFrom_15 dX2_copyFrom_24 rfl (Nat.le_of_ble_eq_true rfl) rfl ?_
    try simp only [zup_k, zup_e, ne_eq, Nat.reduceEqDiff, not_false_eq_true, zup_j]
    refine zr_invN (pc := 27) S [zR _, zR _] (m_X11_copyRow _) (List.mem_of_getElem? (i := 0) rfl) kX2_copyFrom_40 dX2_copyFrom_27 (Nat.le_of_ble_eq_true rfl) ⟨Nat.le_of_ble_eq_true rfl, Nat.le_of_ble_eq_true rfl⟩ (us_X11_copyRow rfl rfl (Nat.le_of_ble_eq_true rfl) (Nat.le_of_ble_eq_true rfl) (by decide) ?_)
    dsimp only [zaft, Option.toList, List.cons_append, List.nil_append, Nat.add_zero]
    refine zr_aload_n (pc := 30) S dX2_copyFrom_30 rfl ?_
    refine zr_getR (pc := 31) S fX2_copyFrom_18 dX2_copyFrom_31 rfl (Nat.le_of_ble_eq_true rfl) rfl ?_
    try simp only [zup_k, zup_e, ne_eq, Nat.reduceEqDiff, not_false_eq_true, zup_j]
    refine zr_aload_n (pc := 34) S dX2_copyFrom_34 rfl ?_
    refine zr_getR (pc := 35) S fX2_copyFrom_18 dX2_copyFrom_35 rfl (Nat.le_of_ble_eq_true rfl) rfl ?_
    try simp only [zup_k, zup_e, ne_eq, Nat.reduceEqDiff, not_false_eq_true, zup_j]
    refine zr_invN (pc := 38) S [zR _, zR _] (m_X11_copyRow _) (List.mem_of_getElem? (i := 0) rfl) kX2_copyFrom_40 dX2_copyFrom_38 (Nat.le_of_ble_eq_true rfl) ⟨Nat.le_of_ble_eq_true rfl, Nat.le_of_ble_eq_true rfl⟩ (us_X11_copyRow rfl rfl (Nat.le_of_ble_eq_true rfl) (Nat.le_of_ble_eq_true rfl) (by decide) ?_)
    dsimp only [zaft, Option.toList, List.cons_append, List.nil_append, Nat.add_zero]
    refine zr_aload_n (pc := 41) S dX2_copyFrom_41 rfl ?_
    refine zr_getR (pc := 42) S fX2_copyFrom_21 dX2_copyFrom_42 rfl (Nat.le_of_ble_eq_true rfl) rfl ?_
    try simp only [zup_k, zup_e, ne_eq, Nat.reduceEqDiff, not_false_eq_true, zup_j]
    refine zr_aload_n (pc := 45) S dX2_copyFrom_45 rfl ?_
    refine zr_getR (pc := 46) S fX2_copyFrom_21 dX2_copyFrom_46 rfl (Nat.le_of_ble_eq_true rfl) rfl ?_
    try simp only [zup_k, zup_e, ne_eq, Nat.reduceEqDiff, not_false_eq_true, zup_j]
    refine zr_invN (pc := 49) S [zR _, zR _] (m_X11_copyRow _) (List.mem_of_getElem? (i := 0) rfl) kX2_copyFrom_40 dX2_copyFrom_49 (Nat.le_of_ble_eq_true rfl) ⟨Nat.le_of_ble_eq_true rfl, Nat.le_of_ble_eq_true rfl⟩ (us_X11_copyRow rfl rfl (Nat.le_of_ble_eq_true rfl) (Nat.le_of_ble_eq_true rfl) (by decide) ?_)
    dsimp only [zaft, Option.toList, List.cons_append, List.nil_append, Nat.add_zero]
    refine zr_aload_n (pc := 52) S dX2_copyFrom_52 rfl ?_
    refine zr_getR (pc := 53) S fX2_copyFrom_24 dX2_copyFrom_53 rfl (Nat.le_of_ble_eq_true rfl) rfl ?_
    try simp only [zup_k, zup_e, ne_eq, Nat.reduceEqDiff, not_false_eq_true, zup_j]
    refine zr_aload_n (pc := 56) S dX2_copyFrom_56 rfl ?_
    refine zr_getR (pc := 57) S fX2_copyFrom_24 dX2_copyFrom_57 rfl (Nat.le_of_ble_eq_true rfl) rfl ?_
    try simp only [zup_k, zup_e, ne_eq, Nat.reduceEqDiff, not_false_eq_true, zup_j]
    refine zr_invN (pc := 60) S [zR _, zR _] (m_X11_copyRow _) (List.mem_of_getElem? (i := 0) rfl) kX2_copyFrom_40 dX2_copyFrom_60 (Nat.le_of_ble_eq_true rfl) ⟨Nat.le_of_ble_eq_true rfl, Nat.le_of_ble_eq_true rfl⟩ (us_X11_copyRow rfl rfl (Nat.le_of_ble_eq_true rfl) (Nat.le_of_ble_eq_true rfl) (by decide) ?_)
    dsimp only [zaft, Option.toList, List.cons_append, List.nil_append, Nat.add_zero]
    exact zr_vret (pc := 63) S dX2_copyFrom_63 rfl ⟨Nat.le_refl _, Nat.le_refl _⟩ (zqm hQ (((((((cpP.z (M := M) (a := 11) (b := 147) (n := 6) (by omega)).p 0 0 (by omega)).r 1 8 (by omega)).r 2 8 (by omega)).r 3 8 (by omega)).r 4 8 (by omega)).r 5 8 (by omega)).1)
  · refine zr_aload_n (pc := 0) S dX2_copyFrom_0 rfl ?_
    refine zr_aload_n (pc := 1) S dX2_copyFrom_1 rfl ?_
    refine zr_getI (pc := 2) S fX2_copyFrom_36 dX2_copyFrom_2 rfl (Nat.le_of_ble_eq_true rfl) rfl ?_
    refine zr_putI (pc := 5) S pX2_copyFrom_36 dX2_copyFrom_5 rfl (Nat.le_of_ble_eq_true rfl) rfl ?_
    refine zr_aload_n (pc := 8) S dX2_copyFrom_8 rfl ?_
    refine zr_getR (pc := 9) S fX2_copyFrom_9 dX2_copyFrom_9 rfl (Nat.le_of_ble_eq_true rfl) rfl ?_
    try simp only [zup_k, zup_e, ne_eq, Nat.reduceEqDiff, not_false_eq_true, zup_j]
    refine zr_aload_n (pc := 12) S dX2_copyFrom_12 rfl ?_
    refine zr_getR (pc := 13) S fX2_copyFrom_9 dX2_copyFrom_13 rfl (Nat.le_of_ble_eq_true rfl) rfl ?_
    try simp only [zup_k, zup_e, ne_eq, Nat.reduceEqDiff, not_false_eq_true, zup_j]
    refine zr_invN (pc := 16) S [zR _, zR _] (m_X11_copyRow _) (List.mem_of_getElem? (i := 0) rfl) kX2_copyFrom_40 dX2_copyFrom_16 (Nat.le_of_ble_eq_true rfl) ⟨Nat.le_of_ble_eq_true rfl, Nat.le_of_ble_eq_true rfl⟩ (us_X11_copyRow rfl rfl (Nat.le_of_ble_eq_true rfl) (Nat.le_of_ble_eq_true rfl) (by decide) ?_)
    dsimp only [zaft, Option.toList, List.cons_append, List.nil_append, Nat.add_zero]
    refine zr_aload_n (pc := 19) S dX2_copyFrom_19 rfl ?_
    refine zr_getR (pc := 20) S fX2_copyFrom_15 dX2_copyFrom_20 rfl (Nat.le_of_ble_eq_true rfl) rfl ?_
    try simp only [zup_k, zup_e, ne_eq, Nat.reduceEqDiff, not_false_eq_true, zup_j]
    refine zr_aload_n (pc := 23) S dX2_copyFrom_23 rfl ?_
    refine zr_getR (pc := 24) S fX2_copyFrom_15 dX2_copyFrom_24 rfl (Nat.le_of_ble_eq_true rfl) rfl ?_
    try simp only [zup_k, zup_e, ne_eq, Nat.reduceEqDiff, not_false_eq_true, zup_j]
    refine zr_invN (pc := 27) S [zR _, zR _] (m_X11_copyRow _) (List.mem_of_getElem? (i := 0) rfl) kX2_copyFrom_40 dX2_copyFrom_27 (Nat.le_of_ble_eq_true rfl) ⟨Nat.le_of_ble_eq_true rfl, Nat.le_of_ble_eq_true rfl⟩ (us_X11_copyRow rfl rfl (Nat.le_of_ble_eq_true rfl) (Nat.le_of_ble_eq_true rfl) (by decide) ?_)
    dsimp only [zaft, Option.toList, List.cons_append, List.nil_append, Nat.add_zero]
    refine zr_aload_n (pc := 30) S dX2_copyFrom_30 rfl ?_
    refine zr_getR (pc := 31) S fX2_copyFrom_18 dX2_copyFrom_31 rfl (Nat.le_of_ble_eq_true rfl) rfl ?_
    try simp only [zup_k, zup_e, ne_eq, Nat.reduceEqDiff, not_false_eq_true, zup_j]
    refine zr_aload_n (pc := 34) S dX2_copyFrom_34 rfl ?_
    refine zr_getR (pc := 35) S fX2_copyFrom_18 dX2_copyFrom_35 rfl (Nat.le_of_ble_eq_true rfl) rfl ?_
    try simp only [zup_k, zup_e, ne_eq, Nat.reduceEqDiff, not_false_eq_true, zup_j]
    refine zr_invN (pc := 38) S [zR _, zR _] (m_X11_copyRow _) (List.mem_of_getElem? (i := 0) rfl) kX2_copyFrom_40 dX2_copyFrom_38 (Nat.le_of_ble_eq_true rfl) ⟨Nat.le_of_ble_eq_true rfl, Nat.le_of_ble_eq_true rfl⟩ (us_X11_copyRow rfl rfl (Nat.le_of_ble_eq_true rfl) (Nat.le_of_ble_eq_true rfl) (by decide) ?_)
    dsimp only [zaft, Option.toList, List.cons_append, List.nil_append, Nat.add_zero]
    refine zr_aload_n (pc := 41) S dX2_copyFrom_41 rfl ?_
    refine zr_getR (pc := 42) S fX2_copyFrom_21 dX2_copyFrom_42 rfl (Nat.le_of_ble_eq_true rfl) rfl ?_
    try simp only [zup_k, zup_e, ne_eq, Nat.reduceEqDiff, not_false_eq_true, zup_j]
    refine zr_aload_n (pc := 45) S dX2_copyFrom_45 rfl ?_
    refine zr_getR (pc := 46) S fX2_copyFrom_21 dX2_copyFrom_46 rfl (Nat.le_of_ble_eq_true rfl) rfl ?_
    try simp only [zup_k, zup_e, ne_eq, Nat.reduceEqDiff, not_false_eq_true, zup_j]
    refine zr_invN (pc := 49) S [zR _, zR _] (m_X11_copyRow _) (List.mem_of_getElem? (i := 0) rfl) kX2_copyFrom_40 dX2_copyFrom_49 (Nat.le_of_ble_eq_true rfl) ⟨Nat.le_of_ble_eq_true rfl, Nat.le_of_ble_eq_true rfl⟩ (us_X11_copyRow rfl rfl (Nat.le_of_ble_eq_true rfl) (Nat.le_of_ble_eq_true rfl) (by decide) ?_)
    dsimp only [zaft, Option.toList, List.cons_append, List.nil_append, Nat.add_zero]
    refine zr_aload_n (pc := 52) S dX2_copyFrom_52 rfl ?_
    refine zr_getR (pc := 53) S fX2_copyFrom_24 dX2_copyFrom_53 rfl (Nat.le_of_ble_eq_true rfl) rfl ?_
    try simp only [zup_k, zup_e, ne_eq, Nat.reduceEqDiff, not_false_eq_true, zup_j]
    refine zr_aload_n (pc := 56) S dX2_copyFrom_56 rfl ?_
    refine zr_getR (pc := 57) S fX2_copyFrom_24 dX2_copyFrom_57 rfl (Nat.le_of_ble_eq_true rfl) rfl ?_
    try simp only [zup_k, zup_e, ne_eq, Nat.reduceEqDiff, not_false_eq_true, zup_j]
    refine zr_invN (pc := 60) S [zR _, zR _] (m_X11_copyRow _) (List.mem_of_getElem? (i := 0) rfl) kX2_copyFrom_40 dX2_copyFrom_60 (Nat.le_of_ble_eq_true rfl) ⟨Nat.le_of_ble_eq_true rfl, Nat.le_of_ble_eq_true rfl⟩ (us_X11_copyRow rfl rfl (Nat.le_of_ble_eq_true rfl) (Nat.le_of_ble_eq_true rfl) (by decide) ?_)
    dsimp only [zaft, Option.toList, List.cons_append, List.nil_append, Nat.add_zero]
    exact zr_vret (pc := 63) S dX2_copyFrom_63 rfl ⟨Nat.le_refl _, Nat.le_refl _⟩ (zqm hQ (((((((cpP.z (M := M) (a := 77) (b := 11) (n := 6) (by omega)).p 0 0 (by omega)).r 1 8 (by omega)).r 2 8 (by omega)).r 3 8 (by omega)).r 4 8 (by omega)).r 5 8 (by omega)).1)
  · refine zr_aload_n (pc := 0) S dX2_copyFrom_0 rfl ?_
    refine zr_aload_n (pc := 1) S dX2_copyFrom_1 rfl ?_
    refine zr_getI (pc := 2) S fX2_copyFrom_36 dX2_copyFrom_2 rfl (Nat.le_of_ble_eq_true rfl) rfl ?_
    refine zr_putI (pc := 5) S pX2_copyFrom_36 dX2_copyFrom_5 rfl (Nat.le_of_ble_eq_true rfl) rfl ?_
    refine zr_aload_n (pc := 8) S dX2_copyFrom_8 rfl ?_
    refine zr_getR (pc := 9) S fX2_copyFrom_9 dX2_copyFrom_9 rfl (Nat.le_of_ble_eq_true rfl) rfl ?_
    try simp only [zup_k, zup_e, ne_eq, Nat.reduceEqDiff, not_false_eq_true, zup_j]
    refine zr_aload_n (pc := 12) S dX2_copyFrom_12 rfl ?_
    refine zr_getR (pc := 13) S fX2_copyFrom_9 dX2_copyFrom_13 rfl (Nat.le_of_ble_eq_true rfl) rfl ?_
    try simp only [zup_k, zup_e, ne_eq, Nat.reduceEqDiff, not_false_eq_true, zup_j]
    refine zr_invN (pc := 16) S [zR _, zR _] (m_X11_copyRow _) (List.mem_of_getElem? (i := 0) rfl) kX2_copyFrom_40 dX2_copyFrom_16 (Nat.le_of_ble_eq_true rfl) ⟨Nat.le_of_ble_eq_true rfl, Nat.le_of_ble_eq_true rfl⟩ (us_X11_copyRow rfl rfl (Nat.le_of_ble_eq_true rfl) (Nat.le_of_ble_eq_true rfl) (by decide) ?_)
    dsimp only [zaft, Option.toList, List.cons_append, List.nil_append, Nat.add_zero]
    refine zr_aload_n (pc := 19) S dX2_copyFrom_19 rfl ?_
    refine zr_getR (pc := 20) S fX2_copyFrom_15 dX2_copyFrom_20 rfl (Nat.le_of_ble_eq_true rfl) rfl ?_
    try simp only [zup_k, zup_e, ne_eq, Nat.reduceEqDiff, not_false_eq_true, zup_j]
    refine zr_aload_n (pc := 23) S dX2_copyFrom_23 rfl ?_
    refine zr_getR (pc := 24) S fX2_copyFrom_15 dX2_copyFrom_24 rfl (Nat.le_of_ble_eq_true rfl) rfl ?_
    try simp only [zup_k, zup_e, ne_eq, Nat.reduceEqDiff, not_false_eq_true, zup_j]
    refine zr_invN (pc := 27) S [zR _, zR _] (m_X11_copyRow _) (List.mem_of_getElem? (i := 0) rfl) kX2_copyFrom_40 dX2_copyFrom_27 (Nat.le_of_ble_eq_true rfl) ⟨Nat.le_of_ble_eq_true rfl, Nat.le_of_ble_eq_true rfl⟩ (us_X11_copyRow rfl rfl (Nat.le_of_ble_eq_true rfl) (Nat.le_of_ble_eq_true rfl) (by decide) ?_)
    dsimp only [zaft, Option.toList, List.cons_append, List.nil_append, Nat.add_zero]
    refine zr_aload_n (pc := 30) S dX2_copyFrom_30 rfl ?_
    refine zr_getR (pc := 31) S fX2_copyFrom_18 dX2_copyFrom_31 rfl (Nat.le_of_ble_eq_true rfl) rfl ?_
    try simp only [zup_k, zup_e, ne_eq, Nat.reduceEqDiff, not_false_eq_true, zup_j]
    refine zr_aload_n (pc := 34) S dX2_copyFrom_34 rfl ?_
    refine zr_getR (pc := 35) S fX2_copyFrom_18 dX2_copyFrom_35 rfl (Nat.le_of_ble_eq_true rfl) rfl ?_
    try simp only [zup_k, zup_e, ne_eq, Nat.reduceEqDiff, not_false_eq_true, zup_j]
    refine zr_invN (pc := 38) S [zR _, zR _] (m_X11_copyRow _) (List.mem_of_getElem? (i := 0) rfl) kX2_copyFrom_40 dX2_copyFrom_38 (Nat.le_of_ble_eq_true rfl) ⟨Nat.le_of_ble_eq_true rfl, Nat.le_of_ble_eq_true rfl⟩ (us_X11_copyRow rfl rfl (Nat.le_of_ble_eq_true rfl) (Nat.le_of_ble_eq_true rfl) (by decide) ?_)
    dsimp only [zaft, Option.toList, List.cons_append, List.nil_append, Nat.add_zero]
    refine zr_aload_n (pc := 41) S dX2_copyFrom_41 rfl ?_
    refine zr_getR (pc := 42) S fX2_copyFrom_21 dX2_copyFrom_42 rfl (Nat.le_of_ble_eq_true rfl) rfl ?_
    try simp only [zup_k, zup_e, ne_eq, Nat.reduceEqDiff, not_false_eq_true, zup_j]
    refine zr_aload_n (pc := 45) S dX2_copyFrom_45 rfl ?_
    refine zr_getR (pc := 46) S fX2_copyFrom_21 dX2_copyFrom_46 rfl (Nat.le_of_ble_eq_true rfl) rfl ?_
    try simp only [zup_k, zup_e, ne_eq, Nat.reduceEqDiff, not_false_eq_true, zup_j]
    refine zr_invN (pc := 49) S [zR _, zR _] (m_X11_copyRow _) (List.mem_of_getElem? (i := 0) rfl) kX2_copyFrom_40 dX2_copyFrom_49 (Nat.le_of_ble_eq_true rfl) ⟨Nat.le_of_ble_eq_true rfl, Nat.le_of_ble_eq_true rfl⟩ (us_X11_copyRow rfl rfl (Nat.le_of_ble_eq_true rfl) (Nat.le_of_ble_eq_true rfl) (by decide) ?_)
    dsimp only [zaft, Option.toList, List.cons_append, List.nil_append, Nat.add_zero]
    refine zr_aload_n (pc := 52) S dX2_copyFrom_52 rfl ?_
    refine zr_getR (pc := 53) S fX2_copyFrom_24 dX2_copyFrom_53 rfl (Nat.le_of_ble_eq_true rfl) rfl ?_
    try simp only [zup_k, zup_e, ne_eq, Nat.reduceEqDiff, not_false_eq_true, zup_j]
    refine zr_aload_n (pc := 56) S dX2_copyFrom_56 rfl ?_
    refine zr_getR (pc := 57) S fX2_copyFrom_24 dX2_copyFrom_57 rfl (Nat.le_of_ble_eq_true rfl) rfl ?_
    try simp only [zup_k, zup_e, ne_eq, Nat.reduceEqDiff, not_false_eq_true, zup_j]
    refine zr_invN (pc := 60) S [zR _, zR _] (m_X11_copyRow _) (List.mem_of_getElem? (i := 0) rfl) kX2_copyFrom_40 dX2_copyFrom_60 (Nat.le_of_ble_eq_true rfl) ⟨Nat.le_of_ble_eq_true rfl, Nat.le_of_ble_eq_true rfl⟩ (us_X11_copyRow rfl rfl (Nat.le_of_ble_eq_true rfl) (Nat.le_of_ble_eq_true rfl) (by decide) ?_)
    dsimp only [zaft, Option.toList, List.cons_append, List.nil_append, Nat.add_zero]
    exact zr_vret (pc := 63) S dX2_copyFrom_63 rfl ⟨Nat.le_refl _, Nat.le_refl _⟩ (zqm hQ (((((((cpP.z (M := M) (a := 112) (b := 11) (n := 6) (by omega)).p 0 0 (by omega)).r 1 8 (by omega)).r 2 8 (by omega)).r 3 8 (by omega)).r 4 8 (by omega)).r 5 8 (by omega)).1)
  · refine zr_aload_n (pc := 0) S dX2_copyFrom_0 rfl ?_
    refine zr_aload_n (pc := 1) S dX2_copyFrom_1 rfl ?_
    refine zr_getI (pc := 2) S fX2_copyFrom_36 dX2_copyFrom_2 rfl (Nat.le_of_ble_eq_true rfl) rfl ?_
    refine zr_putI (pc := 5) S pX2_copyFrom_36 dX2_copyFrom_5 rfl (Nat.le_of_ble_eq_true rfl) rfl ?_
    refine zr_aload_n (pc := 8) S dX2_copyFrom_8 rfl ?_
    refine zr_getR (pc := 9) S fX2_copyFrom_9 dX2_copyFrom_9 rfl (Nat.le_of_ble_eq_true rfl) rfl ?_
    try simp only [zup_k, zup_e, ne_eq, Nat.reduceEqDiff, not_false_eq_true, zup_j]
    refine zr_aload_n (pc := 12) S dX2_copyFrom_12 rfl ?_
    refine zr_getR (pc := 13) S fX2_copyFrom_9 dX2_copyFrom_13 rfl (Nat.le_of_ble_eq_true rfl) rfl ?_
    try simp only [zup_k, zup_e, ne_eq, Nat.reduceEqDiff, not_false_eq_true, zup_j]
    refine zr_invN (pc := 16) S [zR _, zR _] (m_X11_copyRow _) (List.mem_of_getElem? (i := 0) rfl) kX2_copyFrom_40 dX2_copyFrom_16 (Nat.le_of_ble_eq_true rfl) ⟨Nat.le_of_ble_eq_true rfl, Nat.le_of_ble_eq_true rfl⟩ (us_X11_copyRow rfl rfl (Nat.le_of_ble_eq_true rfl) (Nat.le_of_ble_eq_true rfl) (by decide) ?_)
    dsimp only [zaft, Option.toList, List.cons_append, List.nil_append, Nat.add_zero]
    refine zr_aload_n (pc := 19) S dX2_copyFrom_19 rfl ?_
    refine zr_getR (pc := 20) S fX2_copyFrom_15 dX2_copyFrom_20 rfl (Nat.le_of_ble_eq_true rfl) rfl ?_
    try simp only [zup_k, zup_e, ne_eq, Nat.reduceEqDiff, not_false_eq_true, zup_j]
    refine zr_aload_n (pc := 23) S dX2_copyFrom_23 rfl ?_
    refine zr_getR (pc := 24) S fX2_copyFrom_15 dX2_copyFrom_24 rfl (Nat.le_of_ble_eq_true rfl) rfl ?_
    try simp only [zup_k, zup_e, ne_eq, Nat.reduceEqDiff, not_false_eq_true, zup_j]
    refine zr_invN (pc := 27) S [zR _, zR _] (m_X11_copyRow _) (List.mem_of_getElem? (i := 0) rfl) kX2_copyFrom_40 dX2_copyFrom_27 (Nat.le_of_ble_eq_true rfl) ⟨Nat.le_of_ble_eq_true rfl, Nat.le_of_ble_eq_true rfl⟩ (us_X11_copyRow rfl rfl (Nat.le_of_ble_eq_true rfl) (Nat.le_of_ble_eq_true rfl) (by decide) ?_)
    dsimp only [zaft, Option.toList, List.cons_append, List.nil_append, Nat.add_zero]
    refine zr_aload_n (pc := 30) S dX2_copyFrom_30 rfl ?_
    refine zr_getR (pc := 31) S fX2_copyFrom_18 dX2_copyFrom_31 rfl (Nat.le_of_ble_eq_true rfl) rfl ?_
    try simp only [zup_k, zup_e, ne_eq, Nat.reduceEqDiff, not_false_eq_true, zup_j]
    refine zr_aload_n (pc := 34) S dX2_copyFrom_34 rfl ?_
    refine zr_getR (pc := 35) S fX2_copyFrom_18 dX2_copyFrom_35 rfl (Nat.le_of_ble_eq_true rfl) rfl ?_
    try simp only [zup_k, zup_e, ne_eq, Nat.reduceEqDiff, not_false_eq_true, zup_j]
    refine zr_invN (pc := 38) S [zR _, zR _] (m_X11_copyRow _) (List.mem_of_getElem? (i := 0) rfl) kX2_copyFrom_40 dX2_copyFrom_38 (Nat.le_of_ble_eq_true rfl) ⟨Nat.le_of_ble_eq_true rfl, Nat.le_of_ble_eq_true rfl⟩ (us_X11_copyRow rfl rfl (Nat.le_of_ble_eq_true rfl) (Nat.le_of_ble_eq_true rfl) (by decide) ?_)
    dsimp only [zaft, Option.toList, List.cons_append, List.nil_append, Nat.add_zero]
    refine zr_aload_n (pc := 41) S dX2_copyFrom_41 rfl ?_
    refine zr_getR (pc := 42) S fX2_copyFrom_21 dX2_copyFrom_42 rfl (Nat.le_of_ble_eq_true rfl) rfl ?_
    try simp only [zup_k, zup_e, ne_eq, Nat.reduceEqDiff, not_false_eq_true, zup_j]
    refine zr_aload_n (pc := 45) S dX2_copyFrom_45 rfl ?_
    refine zr_getR (pc := 46) S fX2_copyFrom_21 dX2_copyFrom_46 rfl (Nat.le_of_ble_eq_true rfl) rfl ?_
    try simp only [zup_k, zup_e, ne_eq, Nat.reduceEqDiff, not_false_eq_true, zup_j]
    refine zr_invN (pc := 49) S [zR _, zR _] (m_X11_copyRow _) (List.mem_of_getElem? (i := 0) rfl) kX2_copyFrom_40 dX2_copyFrom_49 (Nat.le_of_ble_eq_true rfl) ⟨Nat.le_of_ble_eq_true rfl, Nat.le_of_ble_eq_true rfl⟩ (us_X11_copyRow rfl rfl (Nat.le_of_ble_eq_true rfl) (Nat.le_of_ble_eq_true rfl) (by decide) ?_)
    dsimp only [zaft, Option.toList, List.cons_append, List.nil_append, Nat.add_zero]
    refine zr_aload_n (pc := 52) S dX2_copyFrom_52 rfl ?_
    refine zr_getR (pc := 53) S fX2_copyFrom_24 dX2_copyFrom_53 rfl (Nat.le_of_ble_eq_true rfl) rfl ?_
    try simp only [zup_k, zup_e, ne_eq, Nat.reduceEqDiff, not_false_eq_true, zup_j]
    refine zr_aload_n (pc := 56) S dX2_copyFrom_56 rfl ?_
    refine zr_getR (pc := 57) S fX2_copyFrom_24 dX2_copyFrom_57 rfl (Nat.le_of_ble_eq_true rfl) rfl ?_
    try simp only [zup_k, zup_e, ne_eq, Nat.reduceEqDiff, not_false_eq_true, zup_j]
    refine zr_invN (pc := 60) S [zR _, zR _] (m_X11_copyRow _) (List.mem_of_getElem? (i := 0) rfl) kX2_copyFrom_40 dX2_copyFrom_60 (Nat.le_of_ble_eq_true rfl) ⟨Nat.le_of_ble_eq_true rfl, Nat.le_of_ble_eq_true rfl⟩ (us_X11_copyRow rfl rfl (Nat.le_of_ble_eq_true rfl) (Nat.le_of_ble_eq_true rfl) (by decide) ?_)
    dsimp only [zaft, Option.toList, List.cons_append, List.nil_append, Nat.add_zero]
    exact zr_vret (pc := 63) S dX2_copyFrom_63 rfl ⟨Nat.le_refl _, Nat.le_refl _⟩ (zqm hQ (((((((cpP.z (M := M) (a := 147) (b := 11) (n := 6) (by omega)).p 0 0 (by omega)).r 1 8 (by omega)).r 2 8 (by omega)).r 3 8 (by omega)).r 4 8 (by omega)).r 5 8 (by omega)).1)
  · refine zr_aload_n (pc := 0) S dX2_copyFrom_0 rfl ?_
    refine zr_aload_n (pc := 1) S dX2_copyFrom_1 rfl ?_
    refine zr_getI (pc := 2) S fX2_copyFrom_36 dX2_copyFrom_2 rfl (Nat.le_of_ble_eq_true rfl) rfl ?_
    refine zr_putI (pc := 5) S pX2_copyFrom_36 dX2_copyFrom_5 rfl (Nat.le_of_ble_eq_true rfl) rfl ?_
    refine zr_aload_n (pc := 8) S dX2_copyFrom_8 rfl ?_
    refine zr_getR (pc := 9) S fX2_copyFrom_9 dX2_copyFrom_9 rfl (Nat.le_of_ble_eq_true rfl) rfl ?_
    try simp only [zup_k, zup_e, ne_eq, Nat.reduceEqDiff, not_false_eq_true, zup_j]
    refine zr_aload_n (pc := 12) S dX2_copyFrom_12 rfl ?_
    refine zr_getR (pc := 13) S fX2_copyFrom_9 dX2_copyFrom_13 rfl (Nat.le_of_ble_eq_true rfl) rfl ?_
    try simp only [zup_k, zup_e, ne_eq, Nat.reduceEqDiff, not_false_eq_true, zup_j]
    refine zr_invN (pc := 16) S [zR _, zR _] (m_X11_copyRow _) (List.mem_of_getElem? (i := 0) rfl) kX2_copyFrom_40 dX2_copyFrom_16 (Nat.le_of_ble_eq_true rfl) ⟨Nat.le_of_ble_eq_true rfl, Nat.le_of_ble_eq_true rfl⟩ (us_X11_copyRow rfl rfl (Nat.le_of_ble_eq_true rfl) (Nat.le_of_ble_eq_true rfl) (by decide) ?_)
    dsimp only [zaft, Option.toList, List.cons_append, List.nil_append, Nat.add_zero]
    refine zr_aload_n (pc := 19) S dX2_copyFrom_19 rfl ?_
    refine zr_getR (pc := 20) S fX2_copyFrom_15 dX2_copyFrom_20 rfl (Nat.le_of_ble_eq_true rfl) rfl ?_
    try simp only [zup_k, zup_e, ne_eq, Nat.reduceEqDiff, not_false_eq_true, zup_j]
    refine zr_aload_n (pc := 23) S dX2_copyFrom_23 rfl ?_
    refine zr_getR (pc := 24) S fX2_copyFrom_15 dX2_copyFrom_24 rfl (Nat.le_of_ble_eq_true rfl) rfl ?_
    try simp only [zup_k, zup_e, ne_eq, Nat.reduceEqDiff, not_false_eq_true, zup_j]
    refine zr_invN (pc := 27) S [zR _, zR _] (m_X11_copyRow _) (List.mem_of_getElem? (i := 0) rfl) kX2_copyFrom_40 dX2_copyFrom_27 (Nat.le_of_ble_eq_true rfl) ⟨Nat.le_of_ble_eq_true rfl, Nat.le_of_ble_eq_true rfl⟩ (us_X11_copyRow rfl rfl (Nat.le_of_ble_eq_true rfl) (Nat.le_of_ble_eq_true rfl) (by decide) ?_)
    dsimp only [zaft, Option.toList, List.cons_append, List.nil_append, Nat.add_zero]
    refine zr_aload_n (pc := 30) S dX2_copyFrom_30 rfl ?_
    refine zr_getR (pc := 31) S fX2_copyFrom_18 dX2_copyFrom_31 rfl (Nat.le_of_ble_eq_true rfl) rfl ?_
    try simp only [zup_k, zup_e, ne_eq, Nat.reduceEqDiff, not_false_eq_true, zup_j]
    refine zr_aload_n (pc := 34) S dX2_copyFrom_34 rfl ?_
    refine zr_getR (pc := 35) S fX2_copyFrom_18 dX2_copyFrom_35 rfl (Nat.le_of_ble_eq_true rfl) rfl ?_
    try simp only [zup_k, zup_e, ne_eq, Nat.reduceEqDiff, not_false_eq_true, zup_j]
    refine zr_invN (pc := 38) S [zR _, zR _] (m_X11_copyRow _) (List.mem_of_getElem? (i := 0) rfl) kX2_copyFrom_40 dX2_copyFrom_38 (Nat.le_of_ble_eq_true rfl) ⟨Nat.le_of_ble_eq_true rfl, Nat.le_of_ble_eq_true rfl⟩ (us_X11_copyRow rfl rfl (Nat.le_of_ble_eq_true rfl) (Nat.le_of_ble_eq_true rfl) (by decide) ?_)
    dsimp only [zaft, Option.toList, List.cons_append, List.nil_append, Nat.add_zero]
    refine zr_aload_n (pc := 41) S dX2_copyFrom_41 rfl ?_
    refine zr_getR (pc := 42) S fX2_copyFrom_21 dX2_copyFrom_42 rfl (Nat.le_of_ble_eq_true rfl) rfl ?_
    try simp only [zup_k, zup_e, ne_eq, Nat.reduceEqDiff, not_false_eq_true, zup_j]
    refine zr_aload_n (pc := 45) S dX2_copyFrom_45 rfl ?_
    refine zr_getR (pc := 46) S fX2_copyFrom_21 dX2_copyFrom_46 rfl (Nat.le_of_ble_eq_true rfl) rfl ?_
    try simp only [zup_k, zup_e, ne_eq, Nat.reduceEqDiff, not_false_eq_true, zup_j]
    refine zr_invN (pc := 49) S [zR _, zR _] (m_X11_copyRow _) (List.mem_of_getElem? (i := 0) rfl) kX2_copyFrom_40 dX2_copyFrom_49 (Nat.le_of_ble_eq_true rfl) ⟨Nat.le_of_ble_eq_true rfl, Nat.le_of_ble_eq_true rfl⟩ (us_X11_copyRow rfl rfl (Nat.le_of_ble_eq_true rfl) (Nat.le_of_ble_eq_true rfl) (by decide) ?_)
    dsimp only [zaft, Option.toList, List.cons_append, List.nil_append, Nat.add_zero]
    refine zr_aload_n (pc := 52) S dX2_copyFrom_52 rfl ?_
    refine zr_getR (pc := 53) S fX2_copyFrom_24 dX2_copyFrom_53 rfl (Nat.le_of_ble_eq_true rfl) rfl ?_
    try simp only [zup_k, zup_e, ne_eq, Nat.reduceEqDiff, not_false_eq_true, zup_j]
    refine zr_aload_n (pc := 56) S dX2_copyFrom_56 rfl ?_
    refine zr_getR (pc := 57) S fX2_copyFrom_24 dX2_copyFrom_57 rfl (Nat.le_of_ble_eq_true rfl) rfl ?_
    try simp only [zup_k, zup_e, ne_eq, Nat.reduceEqDiff, not_false_eq_true, zup_j]
    refine zr_invN (pc := 60) S [zR _, zR _] (m_X11_copyRow _) (List.mem_of_getElem? (i := 0) rfl) kX2_copyFrom_40 dX2_copyFrom_60 (Nat.le_of_ble_eq_true rfl) ⟨Nat.le_of_ble_eq_true rfl, Nat.le_of_ble_eq_true rfl⟩ (us_X11_copyRow rfl rfl (Nat.le_of_ble_eq_true rfl) (Nat.le_of_ble_eq_true rfl) (by decide) ?_)
    dsimp only [zaft, Option.toList, List.cons_append, List.nil_append, Nat.add_zero]
    exact zr_vret (pc := 63) S dX2_copyFrom_63 rfl ⟨Nat.le_refl _, Nat.le_refl _⟩ (zqm hQ (((((((cpP.z (M := M) (a := 11) (b := 41) (n := 6) (by omega)).p 0 0 (by omega)).r 1 8 (by omega)).r 2 8 (by omega)).r 3 8 (by omega)).r 4 8 (by omega)).r 5 8 (by omega)).1)
def csS (i j : Nat) : Bool := false || (i == 0 && j == 0) || (i == 1 && decide (j < 4)) || (i == 2 && decide (j < 8)) || (i == 3 && decide (j < 8)) || (i == 4 && decide (j < 8)) || (i == 5 && decide (j < 24)) || (i == 6 && decide (j < 24)) || (i == 7 && decide (j < 8)) || (i == 8 && decide (j < 8))
theorem csS_r : ∀ i j, csS i j = true → i < 9 := by
  intro i j h
  simp only [csS, Bool.or_eq_true, Bool.and_eq_true, beq_iff_eq, Bool.false_eq_true, false_or] at h
  omega
def sp_X7_copyFrom (as : List zV) (M : zM) (Q : Option zV → zM → Prop) : Prop := ∃ (a b : Nat), as = [zR a, zR b] ∧ ((a = 2 ∧ b = 68) ∨ (a = 2 ∧ b = 103) ∨ (a = 2 ∧ b = 138) ∨ (a = 68 ∧ b = 2) ∨ (a = 103 ∧ b = 2) ∨ (a = 138 ∧ b = 2)) ∧ Q (none) (cpS M a b csS)
theorem us_X7_copyFrom {a b : Nat} {M : zM} {Q : Option zV → zM → Prop} (hab : (a = 2 ∧ b = 68) ∨ (a = 2 ∧ b = 103) ∨ (a = 2 ∧ b = 138) ∨ (a = 68 ∧ b = 2) ∨ (a = 103 ∧ b = 2) ∨ (a = 138 ∧ b = 2)) (h99 : Q (none) (cpS M a b csS)) : sp_X7_copyFrom [zR a, zR b] M Q := ⟨a, b, rfl, hab, h99⟩
set_option maxRecDepth 20000 in
set_option maxHeartbeats 4000000 in
theorem m_X7_copyFrom (l : Launch) : zC l yX7_copyFrom wzX7_copyFrom rmX7_copyFrom sp_X7_copyFrom := by
  refine zMet.of RX7 (by decide +kernel) rfl rfl ?_
  intro E X as M Qp hX S hsp
  obtain ⟨a, b, rfl, hab, hQ⟩ := hsp
  refine ⟨Nat.le_of_ble_eq_true rfl, ?_⟩
  dsimp only [zpad, zargs]
  rcases hab with ⟨rfl, rfl⟩ | ⟨rfl, rfl⟩ | ⟨rfl, rfl⟩ | ⟨rfl, rfl⟩ | ⟨rfl, rfl⟩ | ⟨rfl, rfl⟩
  · refine zr_aload_n (pc := 0) S dX7_copyFrom_0 rfl ?_
    refine zr_aload_n (pc := 1) S dX7_copyFrom_1 rfl ?_
    refine zr_getI (pc := 2) S fX7_copyFrom_36 dX7_copyFrom_2 rfl (Nat.le_of_ble_eq_true rfl) rfl ?_
    refine zr_putI (pc := 5) S pX7_copyFrom_36 dX7_copyFrom_5 rfl (Nat.le_of_ble_eq_true rfl) rfl ?_
    refine zr_aload_n (pc := 8) S dX7_copyFrom_8 rfl ?_
    refine zr_getR (pc := 9) S fX7_copyFrom_9 dX7_copyFrom_9 rfl (Nat.le_of_ble_eq_true rfl) rfl ?_
    try simp only [zup_k, zup_e, ne_eq, Nat.reduceEqDiff, not_false_eq_true, zup_j]
    refine zr_aload_n (pc := 12) S dX7_copyFrom_12 rfl ?_
    refine zr_getR (pc := 13) S fX7_copyFrom_9 dX7_copyFrom_13 rfl (Nat.le_of_ble_eq_true rfl) rfl ?_
    try simp only [zup_k, zup_e, ne_eq, Nat.reduceEqDiff, not_false_eq_true, zup_j]
    refine zr_invN (pc := 16) S [zR _, zR _] (m_X11_copyRow _) (List.mem_of_getElem? (i := 4) rfl) kX7_copyFrom_67 dX7_copyFrom_16 (Nat.le_of_ble_eq_true rfl) ⟨Nat.le_of_ble_eq_true rfl, Nat.le_of_ble_eq_true rfl⟩ (us_X11_copyRow rfl rfl (Nat.le_of_ble_eq_true rfl) (Nat.le_of_ble_eq_true rfl) (by decide) ?_)
    dsimp only [zaft, Option.toList, List.cons_append, List.nil_append, Nat.add_zero]
    refine zr_aload_n (pc := 19) S dX7_copyFrom_19 rfl ?_
    refine zr_getR (pc := 20) S fX7_copyFrom_15 dX7_copyFrom_20 rfl (Nat.le_of_ble_eq_true rfl) rfl ?_
    try simp only [zup_k, zup_e, ne_eq, Nat.reduceEqDiff, not_false_eq_true, zup_j]
    refine zr_aload_n (pc := 23) S dX7_copyFrom_23 rfl ?_
    refine zr_getR (pc := 24) S fX7_copyFrom_15 dX7_copyFrom_24 rfl (Nat.le_of_ble_eq_true rfl) rfl ?_
    try simp only [zup_k, zup_e, ne_eq, Nat.reduceEqDiff, not_false_eq_true, zup_j]
    refine zr_invN (pc := 27) S [zR _, zR _] (m_X11_copyRow _) (List.mem_of_getElem? (i := 4) rfl) kX7_copyFrom_67 dX7_copyFrom_27 (Nat.le_of_ble_eq_true rfl) ⟨Nat.le_of_ble_eq_true rfl, Nat.le_of_ble_eq_true rfl⟩ (us_X11_copyRow rfl rfl (Nat.le_of_ble_eq_true rfl) (Nat.le_of_ble_eq_true rfl) (by decide) ?_)
    dsimp only [zaft, Option.toList, List.cons_append, List.nil_append, Nat.add_zero]
    refine zr_aload_n (pc := 30) S dX7_copyFrom_30 rfl ?_
    refine zr_getR (pc := 31) S fX7_copyFrom_18 dX7_copyFrom_31 rfl (Nat.le_of_ble_eq_true rfl) rfl ?_
    try simp only [zup_k, zup_e, ne_eq, Nat.reduceEqDiff, not_false_eq_true, zup_j]
    refine zr_aload_n (pc := 34) S dX7_copyFrom_34 rfl ?_
    refine zr_getR (pc := 35) S fX7_copyFrom_18 dX7_copyFrom_35 rfl (Nat.le_of_ble_eq_true rfl) rfl ?_
    try simp only [zup_k, zup_e, ne_eq, Nat.reduceEqDiff, not_false_eq_true, zup_j]
    refine zr_invN (pc := 38) S [zR _, zR _] (m_X11_copyRow _) (List.mem_of_getElem? (i := 4) rfl) kX7_copyFrom_67 dX7_copyFrom_38 (Nat.le_of_ble_eq_true rfl) ⟨Nat.le_of_ble_eq_true rfl, Nat.le_of_ble_eq_true rfl⟩ (us_X11_copyRow rfl rfl (Nat.le_of_ble_eq_true rfl) (Nat.le_of_ble_eq_true rfl) (by decide) ?_)
    dsimp only [zaft, Option.toList, List.cons_append, List.nil_append, Nat.add_zero]
    refine zr_aload_n (pc := 41) S dX7_copyFrom_41 rfl ?_
    refine zr_getR (pc := 42) S fX7_copyFrom_21 dX7_copyFrom_42 rfl (Nat.le_of_ble_eq_true rfl) rfl ?_
    try simp only [zup_k, zup_e, ne_eq, Nat.reduceEqDiff, not_false_eq_true, zup_j]
    refine zr_aload_n (pc := 45) S dX7_copyFrom_45 rfl ?_
    refine zr_getR (pc := 46) S fX7_copyFrom_21 dX7_copyFrom_46 rfl (Nat.le_of_ble_eq_true rfl) rfl ?_
    try simp only [zup_k, zup_e, ne_eq, Nat.reduceEqDiff, not_false_eq_true, zup_j]
    refine zr_invN (pc := 49) S [zR _, zR _] (m_X11_copyRow _) (List.mem_of_getElem? (i := 4) rfl) kX7_copyFrom_67 dX7_copyFrom_49 (Nat.le_of_ble_eq_true rfl) ⟨Nat.le_of_ble_eq_true rfl, Nat.le_of_ble_eq_true rfl⟩ (us_X11_copyRow rfl rfl (Nat.le_of_ble_eq_true rfl) (Nat.le_of_ble_eq_true rfl) (by decide) ?_)
    dsimp only [zaft, Option.toList, List.cons_append, List.nil_append, Nat.add_zero]
    refine zr_aload_n (pc := 52) S dX7_copyFrom_52 rfl ?_
    refine zr_getR (pc := 53) S fX7_copyFrom_24 dX7_copyFrom_53 rfl (Nat.le_of_ble_eq_true rfl) rfl ?_
    try simp only [zup_k, zup_e, ne_eq, Nat.reduceEqDiff, not_false_eq_true, zup_j]
    refine zr_aload_n (pc := 56) S dX7_copyFrom_56 rfl ?_
    refine zr_getR (pc := 57) S fX7_copyFrom_24 dX7_copyFrom_57 rfl (Nat.le_of_ble_eq_true rfl) rfl ?_
    try simp only [zup_k, zup_e, ne_eq, Nat.reduceEqDiff, not_false_eq_true, zup_j]
    refine zr_invN (pc := 60) S [zR _, zR _] (m_X11_copyRow _) (List.mem_of_getElem? (i := 4) rfl) kX7_copyFrom_67 dX7_copyFrom_60 (Nat.le_of_ble_eq_true rfl) ⟨Nat.le_of_ble_eq_true rfl, Nat.le_of_ble_eq_true rfl⟩ (us_X11_copyRow rfl rfl (Nat.le_of_ble_eq_true rfl) (Nat.le_of_ble_eq_true rfl) (by decide) ?_)
    dsimp only [zaft, Option.toList, List.cons_append, List.nil_append, Nat.add_zero]
    refine zr_aload_n (pc := 63) S dX7_copyFrom_63 rfl ?_
    refine zr_getR (pc := 64) S fX7_copyFrom_27 dX7_copyFrom_64 rfl (Nat.le_of_ble_eq_true rfl) rfl ?_
    try simp only [zup_k, zup_e, ne_eq, Nat.reduceEqDiff, not_false_eq_true, zup_j]
    refine zr_aload_n (pc := 67) S dX7_copyFrom_67 rfl ?_
    refine zr_getR (pc := 68) S fX7_copyFrom_27 dX7_copyFrom_68 rfl (Nat.le_of_ble_eq_true rfl) rfl ?_
    try simp only [zup_k, zup_e, ne_eq, Nat.reduceEqDiff, not_false_eq_true, zup_j]
    refine zr_invN (pc := 71) S [zR _, zR _] (m_X11_copyRow _) (List.mem_of_getElem? (i := 4) rfl) kX7_copyFrom_67 dX7_copyFrom_71 (Nat.le_of_ble_eq_true rfl) ⟨Nat.le_of_ble_eq_true rfl, Nat.le_of_ble_eq_true rfl⟩ (us_X11_copyRow rfl rfl (Nat.le_of_ble_eq_true rfl) (Nat.le_of_ble_eq_true rfl) (by decide) ?_)
    dsimp only [zaft, Option.toList, List.cons_append, List.nil_append, Nat.add_zero]
    refine zr_aload_n (pc := 74) S dX7_copyFrom_74 rfl ?_
    refine zr_getR (pc := 75) S fX7_copyFrom_30 dX7_copyFrom_75 rfl (Nat.le_of_ble_eq_true rfl) rfl ?_
    try simp only [zup_k, zup_e, ne_eq, Nat.reduceEqDiff, not_false_eq_true, zup_j]
    refine zr_aload_n (pc := 78) S dX7_copyFrom_78 rfl ?_
    refine zr_getR (pc := 79) S fX7_copyFrom_30 dX7_copyFrom_79 rfl (Nat.le_of_ble_eq_true rfl) rfl ?_
    try simp only [zup_k, zup_e, ne_eq, Nat.reduceEqDiff, not_false_eq_true, zup_j]
    refine zr_invN (pc := 82) S [zR _, zR _] (m_X11_copyRow _) (List.mem_of_getElem? (i := 4) rfl) kX7_copyFrom_67 dX7_copyFrom_82 (Nat.le_of_ble_eq_true rfl) ⟨Nat.le_of_ble_eq_true rfl, Nat.le_of_ble_eq_true rfl⟩ (us_X11_copyRow rfl rfl (Nat.le_of_ble_eq_true rfl) (Nat.le_of_ble_eq_true rfl) (by decide) ?_)
    dsimp only [zaft, Option.toList, List.cons_append, List.nil_append, Nat.add_zero]
    refine zr_aload_n (pc := 85) S dX7_copyFrom_85 rfl ?_
    refine zr_getR (pc := 86) S fX7_copyFrom_33 dX7_copyFrom_86 rfl (Nat.le_of_ble_eq_true rfl) rfl ?_
    try simp only [zup_k, zup_e, ne_eq, Nat.reduceEqDiff, not_false_eq_true, zup_j]
    refine zr_aload_n (pc := 89) S dX7_copyFrom_89 rfl ?_
    refine zr_getR (pc := 90) S fX7_copyFrom_33 dX7_copyFrom_90 rfl (Nat.le_of_ble_eq_true rfl) rfl ?_
    try simp only [zup_k, zup_e, ne_eq, Nat.reduceEqDiff, not_false_eq_true, zup_j]
    refine zr_invN (pc := 93) S [zR _, zR _] (m_X11_copyRow _) (List.mem_of_getElem? (i := 4) rfl) kX7_copyFrom_67 dX7_copyFrom_93 (Nat.le_of_ble_eq_true rfl) ⟨Nat.le_of_ble_eq_true rfl, Nat.le_of_ble_eq_true rfl⟩ (us_X11_copyRow rfl rfl (Nat.le_of_ble_eq_true rfl) (Nat.le_of_ble_eq_true rfl) (by decide) ?_)
    dsimp only [zaft, Option.toList, List.cons_append, List.nil_append, Nat.add_zero]
    exact zr_vret (pc := 96) S dX7_copyFrom_96 rfl ⟨Nat.le_refl _, Nat.le_refl _⟩ (zqm hQ ((((((((((cpP.z (M := M) (a := 2) (b := 68) (n := 9) (by omega)).p 0 0 (by omega)).r 1 4 (by omega)).r 2 8 (by omega)).r 3 8 (by omega)).r 4 8 (by omega)).r 5 24 (by omega)).r 6 24 (by omega)).r 7 8 (by omega)).r 8 8 (by omega)).1)
  · refine zr_aload_n (pc := 0) S dX7_copyFrom_0 rfl ?_
    refine zr_aload_n (pc := 1) S dX7_copyFrom_1 rfl ?_
    refine zr_getI (pc := 2) S fX7_copyFrom_36 dX7_copyFrom_2 rfl (Nat.le_of_ble_eq_true rfl) rfl ?_
    refine zr_putI (pc := 5) S pX7_copyFrom_36 dX7_copyFrom_5 rfl (Nat.le_of_ble_eq_true rfl) rfl ?_
    refine zr_aload_n (pc := 8) S dX7_copyFrom_8 rfl ?_
    refine zr_getR (pc := 9) S fX7_copyFrom_9 dX7_copyFrom_9 rfl (Nat.le_of_ble_eq_true rfl) rfl ?_
    try simp only [zup_k, zup_e, ne_eq, Nat.reduceEqDiff, not_false_eq_true, zup_j]
    refine zr_aload_n (pc := 12) S dX7_copyFrom_12 rfl ?_
    refine zr_getR (pc := 13) S fX7_copyFrom_9 dX7_copyFrom_13 rfl (Nat.le_of_ble_eq_true rfl) rfl ?_
    try simp only [zup_k, zup_e, ne_eq, Nat.reduceEqDiff, not_false_eq_true, zup_j]
    refine zr_invN (pc := 16) S [zR _, zR _] (m_X11_copyRow _) (List.mem_of_getElem? (i := 4) rfl) kX7_copyFrom_67 dX7_copyFrom_16 (Nat.le_of_ble_eq_true rfl) ⟨Nat.le_of_ble_eq_true rfl, Nat.le_of_ble_eq_true rfl⟩ (us_X11_copyRow rfl rfl (Nat.le_of_ble_eq_true rfl) (Nat.le_of_ble_eq_true rfl) (by decide) ?_)
    dsimp only [zaft, Option.toList, List.cons_append, List.nil_append, Nat.add_zero]
    refine zr_aload_n (pc := 19) S dX7_copyFrom_19 rfl ?_
    refine zr_getR (pc := 20) S fX7_copyFrom_15 dX7_copyFrom_20 rfl (Nat.le_of_ble_eq_true rfl) rfl ?_
    try simp only [zup_k, zup_e, ne_eq, Nat.reduceEqDiff, not_false_eq_true, zup_j]
    refine zr_aload_n (pc := 23) S dX7_copyFrom_23 rfl ?_
    refine zr_getR (pc := 24) S fX7_copyFrom_15 dX7_copyFrom_24 rfl (Nat.le_of_ble_eq_true rfl) rfl ?_
    try simp only [zup_k, zup_e, ne_eq, Nat.reduceEqDiff, not_false_eq_true, zup_j]
    refine zr_invN (pc := 27) S [zR _, zR _] (m_X11_copyRow _) (List.mem_of_getElem? (i := 4) rfl) kX7_copyFrom_67 dX7_copyFrom_27 (Nat.le_of_ble_eq_true rfl) ⟨Nat.le_of_ble_eq_true rfl, Nat.le_of_ble_eq_true rfl⟩ (us_X11_copyRow rfl rfl (Nat.le_of_ble_eq_true rfl) (Nat.le_of_ble_eq_true rfl) (by decide) ?_)
    dsimp only [zaft, Option.toList, List.cons_append, List.nil_append, Nat.add_zero]
    refine zr_aload_n (pc := 30) S dX7_copyFrom_30 rfl ?_
    refine zr_getR (pc := 31) S fX7_copyFrom_18 dX7_copyFrom_31 rfl (Nat.le_of_ble_eq_true rfl) rfl ?_
    try simp only [zup_k, zup_e, ne_eq, Nat.reduceEqDiff, not_false_eq_true, zup_j]
    refine zr_aload_n (pc := 34) S dX7_copyFrom_34 rfl ?_
    refine zr_getR (pc := 35) S fX7_copyFrom_18 dX7_copyFrom_35 rfl (Nat.le_of_ble_eq_true rfl) rfl ?_
    try simp only [zup_k, zup_e, ne_eq, Nat.reduceEqDiff, not_false_eq_true, zup_j]
    refine zr_invN (pc := 38) S [zR _, zR _] (m_X11_copyRow _) (List.mem_of_getElem? (i := 4) rfl) kX7_copyFrom_67 dX7_copyFrom_38 (Nat.le_of_ble_eq_true rfl) ⟨Nat.le_of_ble_eq_true rfl, Nat.le_of_ble_eq_true rfl⟩ (us_X11_copyRow rfl rfl (Nat.le_of_ble_eq_true rfl) (Nat.le_of_ble_eq_true rfl) (by decide) ?_)
    dsimp only [zaft, Option.toList, List.cons_append, List.nil_append, Nat.add_zero]
    refine zr_aload_n (pc := 41) S dX7_copyFrom_41 rfl ?_
    refine zr_getR (pc := 42) S fX7_copyFrom_21 dX7_copyFrom_42 rfl (Nat.le_of_ble_eq_true rfl) rfl ?_
    try simp only [zup_k, zup_e, ne_eq, Nat.reduceEqDiff, not_false_eq_true, zup_j]
    refine zr_aload_n (pc := 45) S dX7_copyFrom_45 rfl ?_
    refine zr_getR (pc := 46) S fX7_copyFrom_21 dX7_copyFrom_46 rfl (Nat.le_of_ble_eq_true rfl) rfl ?_
    try simp only [zup_k, zup_e, ne_eq, Nat.reduceEqDiff, not_false_eq_true, zup_j]
    refine zr_invN (pc := 49) S [zR _, zR _] (m_X11_copyRow _) (List.mem_of_getElem? (i := 4) rfl) kX7_copyFrom_67 dX7_copyFrom_49 (Nat.le_of_ble_eq_true rfl) ⟨Nat.le_of_ble_eq_true rfl, Nat.le_of_ble_eq_true rfl⟩ (us_X11_copyRow rfl rfl (Nat.le_of_ble_eq_true rfl) (Nat.le_of_ble_eq_true rfl) (by decide) ?_)
    dsimp only [zaft, Option.toList, List.cons_append, List.nil_append, Nat.add_zero]
    refine zr_aload_n (pc := 52) S dX7_copyFrom_52 rfl ?_
    refine zr_getR (pc := 53) S fX7_copyFrom_24 dX7_copyFrom_53 rfl (Nat.le_of_ble_eq_true rfl) rfl ?_
    try simp only [zup_k, zup_e, ne_eq, Nat.reduceEqDiff, not_false_eq_true, zup_j]
    refine zr_aload_n (pc := 56) S dX7_copyFrom_56 rfl ?_
    refine zr_getR (pc := 57) S fX7_copyFrom_24 dX7_copyFrom_57 rfl (Nat.le_of_ble_eq_true rfl) rfl ?_
    try simp only [zup_k, zup_e, ne_eq, Nat.reduceEqDiff, not_false_eq_true, zup_j]
    refine zr_invN (pc := 60) S [zR _, zR _] (m_X11_copyRow _) (List.mem_of_getElem? (i := 4) rfl) kX7_copyFrom_67 dX7_copyFrom_60 (Nat.le_of_ble_eq_true rfl) ⟨Nat.le_of_ble_eq_true rfl, Nat.le_of_ble_eq_true rfl⟩ (us_X11_copyRow rfl rfl (Nat.le_of_ble_eq_true rfl) (Nat.le_of_ble_eq_true rfl) (by decide) ?_)
    dsimp only [zaft, Option.toList, List.cons_append, List.nil_append, Nat.add_zero]
    refine zr_aload_n (pc := 63) S dX7_copyFrom_63 rfl ?_
    refine zr_getR (pc := 64) S fX7_copyFrom_27 dX7_copyFrom_64 rfl (Nat.le_of_ble_eq_true rfl) rfl ?_
    try simp only [zup_k, zup_e, ne_eq, Nat.reduceEqDiff, not_false_eq_true, zup_j]
    refine zr_aload_n (pc := 67) S dX7_copyFrom_67 rfl ?_
    refine zr_getR (pc := 68) S fX7_copyFrom_27 dX7_copyFrom_68 rfl (Nat.le_of_ble_eq_true rfl) rfl ?_
    try simp only [zup_k, zup_e, ne_eq, Nat.reduceEqDiff, not_false_eq_true, zup_j]
    refine zr_invN (pc := 71) S [zR _, zR _] (m_X11_copyRow _) (List.mem_of_getElem? (i := 4) rfl) kX7_copyFrom_67 dX7_copyFrom_71 (Nat.le_of_ble_eq_true rfl) ⟨Nat.le_of_ble_eq_true rfl, Nat.le_of_ble_eq_true rfl⟩ (us_X11_copyRow rfl rfl (Nat.le_of_ble_eq_true rfl) (Nat.le_of_ble_eq_true rfl) (by decide) ?_)
    dsimp only [zaft, Option.toList, List.cons_append, List.nil_append, Nat.add_zero]
    refine zr_aload_n (pc := 74) S dX7_copyFrom_74 rfl ?_
    refine zr_getR (pc := 75) S fX7_copyFrom_30 dX7_copyFrom_75 rfl (Nat.le_of_ble_eq_true rfl) rfl ?_
    try simp only [zup_k, zup_e, ne_eq, Nat.reduceEqDiff, not_false_eq_true, zup_j]
    refine zr_aload_n (pc := 78) S dX7_copyFrom_78 rfl ?_
    refine zr_getR (pc := 79) S fX7_copyFrom_30 dX7_copyFrom_79 rfl (Nat.le_of_ble_eq_true rfl) rfl ?_
    try simp only [zup_k, zup_e, ne_eq, Nat.reduceEqDiff, not_false_eq_true, zup_j]
    refine zr_invN (pc := 82) S [zR _, zR _] (m_X11_copyRow _) (List.mem_of_getElem? (i := 4) rfl) kX7_copyFrom_67 dX7_copyFrom_82 (Nat.le_of_ble_eq_true rfl) ⟨Nat.le_of_ble_eq_true rfl, Nat.le_of_ble_eq_true rfl⟩ (us_X11_copyRow rfl rfl (Nat.le_of_ble_eq_true rfl) (Nat.le_of_ble_eq_true rfl) (by decide) ?_)
    dsimp only [zaft, Option.toList, List.cons_append, List.nil_append, Nat.add_zero]
    refine zr_aload_n (pc := 85) S dX7_copyFrom_85 rfl ?_
    refine zr_getR (pc := 86) S fX7_copyFrom_33 dX7_copyFrom_86 rfl (Nat.le_of_ble_eq_true rfl) rfl ?_
    try simp only [zup_k, zup_e, ne_eq, Nat.reduceEqDiff, not_false_eq_true, zup_j]
    refine zr_aload_n (pc := 89) S dX7_copyFrom_89 rfl ?_
    refine zr_getR (pc := 90) S fX7_copyFrom_33 dX7_copyFrom_90 rfl (Nat.le_of_ble_eq_true rfl) rfl ?_
    try simp only [zup_k, zup_e, ne_eq, Nat.reduceEqDiff, not_false_eq_true, zup_j]
    refine zr_invN (pc := 93) S [zR _, zR _] (m_X11_copyRow _) (List.mem_of_getElem? (i := 4) rfl) kX7_copyFrom_67 dX7_copyFrom_93 (Nat.le_of_ble_eq_true rfl) ⟨Nat.le_of_ble_eq_true rfl, Nat.le_of_ble_eq_true rfl⟩ (us_X11_copyRow rfl rfl (Nat.le_of_ble_eq_true rfl) (Nat.le_of_ble_eq_true rfl) (by decide) ?_)
    dsimp only [zaft, Option.toList, List.cons_append, List.nil_append, Nat.add_zero]
    exact zr_vret (pc := 96) S dX7_copyFrom_96 rfl ⟨Nat.le_refl _, Nat.le_refl _⟩ (zqm hQ ((((((((((cpP.z (M := M) (a := 2) (b := 103) (n := 9) (by omega)).p 0 0 (by omega)).r 1 4 (by omega)).r 2 8 (by omega)).r 3 8 (by omega)).r 4 8 (by omega)).r 5 24 (by omega)).r 6 24 (by omega)).r 7 8 (by omega)).r 8 8 (by omega)).1)
  · refine zr_aload_n (pc := 0) S dX7_copyFrom_0 rfl ?_
    refine zr_aload_n (pc := 1) S dX7_copyFrom_1 rfl ?_
    refine zr_getI (pc := 2) S fX7_copyFrom_36 dX7_copyFrom_2 rfl (Nat.le_of_ble_eq_true rfl) rfl ?_
    refine zr_putI (pc := 5) S pX7_copyFrom_36 dX7_copyFrom_5 rfl (Nat.le_of_ble_eq_true rfl) rfl ?_
    refine zr_aload_n (pc := 8) S dX7_copyFrom_8 rfl ?_
    refine zr_getR (pc := 9) S fX7_copyFrom_9 dX7_copyFrom_9 rfl (Nat.le_of_ble_eq_true rfl) rfl ?_
    try simp only [zup_k, zup_e, ne_eq, Nat.reduceEqDiff, not_false_eq_true, zup_j]
    refine zr_aload_n (pc := 12) S dX7_copyFrom_12 rfl ?_
    refine zr_getR (pc := 13) S fX7_copyFrom_9 dX7_copyFrom_13 rfl (Nat.le_of_ble_eq_true rfl) rfl ?_
    try simp only [zup_k, zup_e, ne_eq, Nat.reduceEqDiff, not_false_eq_true, zup_j]
    refine zr_invN (pc := 16) S [zR _, zR _] (m_X11_copyRow _) (List.mem_of_getElem? (i := 4) rfl) kX7_copyFrom_67 dX7_copyFrom_16 (Nat.le_of_ble_eq_true rfl) ⟨Nat.le_of_ble_eq_true rfl, Nat.le_of_ble_eq_true rfl⟩ (us_X11_copyRow rfl rfl (Nat.le_of_ble_eq_true rfl) (Nat.le_of_ble_eq_true rfl) (by decide) ?_)
    dsimp only [zaft, Option.toList, List.cons_append, List.nil_append, Nat.add_zero]
    refine zr_aload_n (pc := 19) S dX7_copyFrom_19 rfl ?_
    refine zr_getR (pc := 20) S fX7_copyFrom_15 dX7_copyFrom_20 rfl (Nat.le_of_ble_eq_true rfl) rfl ?_
    try simp only [zup_k, zup_e, ne_eq, Nat.reduceEqDiff, not_false_eq_true, zup_j]
    refine zr_aload_n (pc := 23) S dX7_copyFrom_23 rfl ?_
    refine zr_getR (pc := 24) S fX7_copyFrom_15 dX7_copyFrom_24 rfl (Nat.le_of_ble_eq_true rfl) rfl ?_
    try simp only [zup_k, zup_e, ne_eq, Nat.reduceEqDiff, not_false_eq_true, zup_j]
    refine zr_invN (pc := 27) S [zR _, zR _] (m_X11_copyRow _) (List.mem_of_getElem? (i := 4) rfl) kX7_copyFrom_67 dX7_copyFrom_27 (Nat.le_of_ble_eq_true rfl) ⟨Nat.le_of_ble_eq_true rfl, Nat.le_of_ble_eq_true rfl⟩ (us_X11_copyRow rfl rfl (Nat.le_of_ble_eq_true rfl) (Nat.le_of_ble_eq_true rfl) (by decide) ?_)
    dsimp only [zaft, Option.toList, List.cons_append, List.nil_append, Nat.add_zero]
    refine zr_aload_n (pc := 30) S dX7_copyFrom_30 rfl ?_
    refine zr_getR (pc := 31) S fX7_copyFrom_18 dX7_copyFrom_31 rfl (Nat.le_of_ble_eq_true rfl) rfl ?_
    try simp only [zup_k, zup_e, ne_eq, Nat.reduceEqDiff, not_false_eq_true, zup_j]
    refine zr_aload_n (pc := 34) S dX7_copyFrom_34 rfl ?_
    refine zr_getR (pc := 35) S fX7_copyFrom_18 dX7_copyFrom_35 rfl (Nat.le_of_ble_eq_true rfl) rfl ?_
    try simp only [zup_k, zup_e, ne_eq, Nat.reduceEqDiff, not_false_eq_true, zup_j]
    refine zr_invN (pc := 38) S [zR _, zR _] (m_X11_copyRow _) (List.mem_of_getElem? (i := 4) rfl) kX7_copyFrom_67 dX7_copyFrom_38 (Nat.le_of_ble_eq_true rfl) ⟨Nat.le_of_ble_eq_true rfl, Nat.le_of_ble_eq_true rfl⟩ (us_X11_copyRow rfl rfl (Nat.le_of_ble_eq_true rfl) (Nat.le_of_ble_eq_true rfl) (by decide) ?_)
    dsimp only [zaft, Option.toList, List.cons_append, List.nil_append, Nat.add_zero]
    refine zr_aload_n (pc := 41) S dX7_copyFrom_41 rfl ?_
    refine zr_getR (pc := 42) S fX7_copyFrom_21 dX7_copyFrom_42 rfl (Nat.le_of_ble_eq_true rfl) rfl ?_
    try simp only [zup_k, zup_e, ne_eq, Nat.reduceEqDiff, not_false_eq_true, zup_j]
    refine zr_aload_n (pc := 45) S dX7_copyFrom_45 rfl ?_
    refine zr_getR (pc := 46) S fX7_copyFrom_21 dX7_copyFrom_46 rfl (Nat.le_of_ble_eq_true rfl) rfl ?_
    try simp only [zup_k, zup_e, ne_eq, Nat.reduceEqDiff, not_false_eq_true, zup_j]
    refine zr_invN (pc := 49) S [zR _, zR _] (m_X11_copyRow _) (List.mem_of_getElem? (i := 4) rfl) kX7_copyFrom_67 dX7_copyFrom_49 (Nat.le_of_ble_eq_true rfl) ⟨Nat.le_of_ble_eq_true rfl, Nat.le_of_ble_eq_true rfl⟩ (us_X11_copyRow rfl rfl (Nat.le_of_ble_eq_true rfl) (Nat.le_of_ble_eq_true rfl) (by decide) ?_)
    dsimp only [zaft, Option.toList, List.cons_append, List.nil_append, Nat.add_zero]
    refine zr_aload_n (pc := 52) S dX7_copyFrom_52 rfl ?_
    refine zr_getR (pc := 53) S fX7_copyFrom_24 dX7_copyFrom_53 rfl (Nat.le_of_ble_eq_true rfl) rfl ?_
    try simp only [zup_k, zup_e, ne_eq, Nat.reduceEqDiff, not_false_eq_true, zup_j]
    refine zr_aload_n (pc := 56) S dX7_copyFrom_56 rfl ?_
    refine zr_getR (pc := 57) S fX7_copyFrom_24 dX7_copyFrom_57 rfl (Nat.le_of_ble_eq_true rfl) rfl ?_
    try simp only [zup_k, zup_e, ne_eq, Nat.reduceEqDiff, not_false_eq_true, zup_j]
    refine zr_invN (pc := 60) S [zR _, zR _] (m_X11_copyRow _) (List.mem_of_getElem? (i := 4) rfl) kX7_copyFrom_67 dX7_copyFrom_60 (Nat.le_of_ble_eq_true rfl) ⟨Nat.le_of_ble_eq_true rfl, Nat.le_of_ble_eq_true rfl⟩ (us_X11_copyRow rfl rfl (Nat.le_of_ble_eq_true rfl) (Nat.le_of_ble_eq_true rfl) (by decide) ?_)
    dsimp only [zaft, Option.toList, List.cons_append, List.nil_append, Nat.add_zero]
    refine zr_aload_n (pc := 63) S dX7_copyFrom_63 rfl ?_
    refine zr_getR (pc := 64) S fX7_copyFrom_27 dX7_copyFrom_64 rfl (Nat.le_of_ble_eq_true rfl) rfl ?_
    try simp only [zup_k, zup_e, ne_eq, Nat.reduceEqDiff, not_false_eq_true, zup_j]
    refine zr_aload_n (pc := 67) S dX7_copyFrom_67 rfl ?_
    refine zr_getR (pc := 68) S fX7_copyFrom_27 dX7_copyFrom_68 rfl (Nat.le_of_ble_eq_true rfl) rfl ?_
    try simp only [zup_k, zup_e, ne_eq, Nat.reduceEqDiff, not_false_eq_true, zup_j]
    refine zr_invN (pc := 71) S [zR _, zR _] (m_X11_copyRow _) (List.mem_of_getElem? (i := 4) rfl) kX7_copyFrom_67 dX7_copyFrom_71 (Nat.le_of_ble_eq_true rfl) ⟨Nat.le_of_ble_eq_true rfl, Nat.le_of_ble_eq_true rfl⟩ (us_X11_copyRow rfl rfl (Nat.le_of_ble_eq_true rfl) (Nat.le_of_ble_eq_true rfl) (by decide) ?_)
    dsimp only [zaft, Option.toList, List.cons_append, List.nil_append, Nat.add_zero]
    refine zr_aload_n (pc := 74) S dX7_copyFrom_74 rfl ?_
    refine zr_getR (pc := 75) S fX7_copyFrom_30 dX7_copyFrom_75 rfl (Nat.le_of_ble_eq_true rfl) rfl ?_
    try simp only [zup_k, zup_e, ne_eq, Nat.reduceEqDiff, not_false_eq_true, zup_j]
    refine zr_aload_n (pc := 78) S dX7_copyFrom_78 rfl ?_
    refine zr_getR (pc := 79) S fX7_copyFrom_30 dX7_copyFrom_79 rfl (Nat.le_of_ble_eq_true rfl) rfl ?_
    try simp only [zup_k, zup_e, ne_eq, Nat.reduceEqDiff, not_false_eq_true, zup_j]
    refine zr_invN (pc := 82) S [zR _, zR _] (m_X11_copyRow _) (List.mem_of_getElem? (i := 4) rfl) kX7_copyFrom_67 dX7_copyFrom_82 (Nat.le_of_ble_eq_true rfl) ⟨Nat.le_of_ble_eq_true rfl, Nat.le_of_ble_eq_true rfl⟩ (us_X11_copyRow rfl rfl (Nat.le_of_ble_eq_true rfl) (Nat.le_of_ble_eq_true rfl) (by decide) ?_)
    dsimp only [zaft, Option.toList, List.cons_append, List.nil_append, Nat.add_zero]
    refine zr_aload_n (pc := 85) S dX7_copyFrom_85 rfl ?_
    refine zr_getR (pc := 86) S fX7_copyFrom_33 dX7_copyFrom_86 rfl (Nat.le_of_ble_eq_true rfl) rfl ?_
    try simp only [zup_k, zup_e, ne_eq, Nat.reduceEqDiff, not_false_eq_true, zup_j]
    refine zr_aload_n (pc := 89) S dX7_copyFrom_89 rfl ?_
    refine zr_getR (pc := 90) S fX7_copyFrom_33 dX7_copyFrom_90 rfl (Nat.le_of_ble_eq_true rfl) rfl ?_
    try simp only [zup_k, zup_e, ne_eq, Nat.reduceEqDiff, not_false_eq_true, zup_j]
    refine zr_invN (pc := 93) S [zR _, zR _] (m_X11_copyRow _) (List.mem_of_getElem? (i := 4) rfl) kX7_copyFrom_67 dX7_copyFrom_93 (Nat.le_of_ble_eq_true rfl) ⟨Nat.le_of_ble_eq_true rfl, Nat.le_of_ble_eq_true rfl⟩ (us_X11_copyRow rfl rfl (Nat.le_of_ble_eq_true rfl) (Nat.le_of_ble_eq_true rfl) (by decide) ?_)
    dsimp only [zaft, Option.toList, List.cons_append, List.nil_append, Nat.add_zero]
    exact zr_vret (pc := 96) S dX7_copyFrom_96 rfl ⟨Nat.le_refl _, Nat.le_refl _⟩ (zqm hQ ((((((((((cpP.z (M := M) (a := 2) (b := 138) (n := 9) (by omega)).p 0 0 (by omega)).r 1 4 (by omega)).r 2 8 (by omega)).r 3 8 (by omega)).r 4 8 (by omega)).r 5 24 (by omega)).r 6 24 (by omega)).r 7 8 (by omega)).r 8 8 (by omega)).1)
  · refine zr_aload_n (pc := 0) S dX7_copyFrom_0 rfl ?_
    refine zr_aload_n (pc := 1) S dX7_copyFrom_1 rfl ?_
    refine zr_getI (pc := 2) S fX7_copyFrom_36 dX7_copyFrom_2 rfl (Nat.le_of_ble_eq_true rfl) rfl ?_
    refine zr_putI (pc := 5) S pX7_copyFrom_36 dX7_copyFrom_5 rfl (Nat.le_of_ble_eq_true rfl) rfl ?_
    refine zr_aload_n (pc := 8) S dX7_copyFrom_8 rfl ?_
    refine zr_getR (pc := 9) S fX7_copyFrom_9 dX7_copyFrom_9 rfl (Nat.le_of_ble_eq_true rfl) rfl ?_
    try simp only [zup_k, zup_e, ne_eq, Nat.reduceEqDiff, not_false_eq_true, zup_j]
    refine zr_aload_n (pc := 12) S dX7_copyFrom_12 rfl ?_
    refine zr_getR (pc := 13) S fX7_copyFrom_9 dX7_copyFrom_13 rfl (Nat.le_of_ble_eq_true rfl) rfl ?_
    try simp only [zup_k, zup_e, ne_eq, Nat.reduceEqDiff, not_false_eq_true, zup_j]
    refine zr_invN (pc := 16) S [zR _, zR _] (m_X11_copyRow _) (List.mem_of_getElem? (i := 4) rfl) kX7_copyFrom_67 dX7_copyFrom_16 (Nat.le_of_ble_eq_true rfl) ⟨Nat.le_of_ble_eq_true rfl, Nat.le_of_ble_eq_true rfl⟩ (us_X11_copyRow rfl rfl (Nat.le_of_ble_eq_true rfl) (Nat.le_of_ble_eq_true rfl) (by decide) ?_)
    dsimp only [zaft, Option.toList, List.cons_append, List.nil_append, Nat.add_zero]
    refine zr_aload_n (pc := 19) S dX7_copyFrom_19 rfl ?_
    refine zr_getR (pc := 20) S fX7_copyFrom_15 dX7_copyFrom_20 rfl (Nat.le_of_ble_eq_true rfl) rfl ?_
    try simp only [zup_k, zup_e, ne_eq, Nat.reduceEqDiff, not_false_eq_true, zup_j]
    refine zr_aload_n (pc := 23) S dX7_copyFrom_23 rfl ?_
    refine zr_getR (pc := 24) S fX7_copyFrom_15 dX7_copyFrom_24 rfl (Nat.le_of_ble_eq_true rfl) rfl ?_
    try simp only [zup_k, zup_e, ne_eq, Nat.reduceEqDiff, not_false_eq_true, zup_j]
    refine zr_invN (pc := 27) S [zR _, zR _] (m_X11_copyRow _) (List.mem_of_getElem? (i := 4) rfl) kX7_copyFrom_67 dX7_copyFrom_27 (Nat.le_of_ble_eq_true rfl) ⟨Nat.le_of_ble_eq_true rfl, Nat.le_of_ble_eq_true rfl⟩ (us_X11_copyRow rfl rfl (Nat.le_of_ble_eq_true rfl) (Nat.le_of_ble_eq_true rfl) (by decide) ?_)
    dsimp only [zaft, Option.toList, List.cons_append, List.nil_append, Nat.add_zero]
    refine zr_aload_n (pc := 30) S dX7_copyFrom_30 rfl ?_
    refine zr_getR (pc := 31) S fX7_copyFrom_18 dX7_copyFrom_31 rfl (Nat.le_of_ble_eq_true rfl) rfl ?_
    try simp only [zup_k, zup_e, ne_eq, Nat.reduceEqDiff, not_false_eq_true, zup_j]
    refine zr_aload_n (pc := 34) S dX7_copyFrom_34 rfl ?_
    refine zr_getR (pc := 35) S fX7_copyFrom_18 dX7_copyFrom_35 rfl (Nat.le_of_ble_eq_true rfl) rfl ?_
    try simp only [zup_k, zup_e, ne_eq, Nat.reduceEqDiff, not_false_eq_true, zup_j]
    refine zr_invN (pc := 38) S [zR _, zR _] (m_X11_copyRow _) (List.mem_of_getElem? (i := 4) rfl) kX7_copyFrom_67 dX7_copyFrom_38 (Nat.le_of_ble_eq_true rfl) ⟨Nat.le_of_ble_eq_true rfl, Nat.le_of_ble_eq_true rfl⟩ (us_X11_copyRow rfl rfl (Nat.le_of_ble_eq_true rfl) (Nat.le_of_ble_eq_true rfl) (by decide) ?_)
    dsimp only [zaft, Option.toList, List.cons_append, List.nil_append, Nat.add_zero]
    refine zr_aload_n (pc := 41) S dX7_copyFrom_41 rfl ?_
    refine zr_getR (pc := 42) S fX7_copyFrom_21 dX7_copyFrom_42 rfl (Nat.le_of_ble_eq_true rfl) rfl ?_
    try simp only [zup_k, zup_e, ne_eq, Nat.reduceEqDiff, not_false_eq_true, zup_j]
    refine zr_aload_n (pc := 45) S dX7_copyFrom_45 rfl ?_
    refine zr_getR (pc := 46) S fX7_copyFrom_21 dX7_copyFrom_46 rfl (Nat.le_of_ble_eq_true rfl) rfl ?_
    try simp only [zup_k, zup_e, ne_eq, Nat.reduceEqDiff, not_false_eq_true, zup_j]
    refine zr_invN (pc := 49) S [zR _, zR _] (m_X11_copyRow _) (List.mem_of_getElem? (i := 4) rfl) kX7_copyFrom_67 dX7_copyFrom_49 (Nat.le_of_ble_eq_true rfl) ⟨Nat.le_of_ble_eq_true rfl, Nat.le_of_ble_eq_true rfl⟩ (us_X11_copyRow rfl rfl (Nat.le_of_ble_eq_true rfl) (Nat.le_of_ble_eq_true rfl) (by decide) ?_)
    dsimp only [zaft, Option.toList, List.cons_append, List.nil_append, Nat.add_zero]
    refine zr_aload_n (pc := 52) S dX7_copyFrom_52 rfl ?_
    refine zr_getR (pc := 53) S fX7_copyFrom_24 dX7_copyFrom_53 rfl (Nat.le_of_ble_eq_true rfl) rfl ?_
    try simp only [zup_k, zup_e, ne_eq, Nat.reduceEqDiff, not_false_eq_true, zup_j]
    refine zr_aload_n (pc := 56) S dX7_copyFrom_56 rfl ?_
    refine zr_getR (pc := 57) S fX7_copyFrom_24 dX7_copyFrom_57 rfl (Nat.le_of_ble_eq_true rfl) rfl ?_
    try simp only [zup_k, zup_e, ne_eq, Nat.reduceEqDiff, not_false_eq_true, zup_j]
    refine zr_invN (pc := 60) S [zR _, zR _] (m_X11_copyRow _) (List.mem_of_getElem? (i := 4) rfl) kX7_copyFrom_67 dX7_copyFrom_60 (Nat.le_of_ble_eq_true rfl) ⟨Nat.le_of_ble_eq_true rfl, Nat.le_of_ble_eq_true rfl⟩ (us_X11_copyRow rfl rfl (Nat.le_of_ble_eq_true rfl) (Nat.le_of_ble_eq_true rfl) (by decide) ?_)
    dsimp only [zaft, Option.toList, List.cons_append, List.nil_append, Nat.add_zero]
    refine zr_aload_n (pc := 63) S dX7_copyFrom_63 rfl ?_
    refine zr_getR (pc := 64) S fX7_copyFrom_27 dX7_copyFrom_64 rfl (Nat.le_of_ble_eq_true rfl) rfl ?_
    try simp only [zup_k, zup_e, ne_eq, Nat.reduceEqDiff, not_false_eq_true, zup_j]
    refine zr_aload_n (pc := 67) S dX7_copyFrom_67 rfl ?_
    refine zr_getR (pc := 68) S fX7_copyFrom_27 dX7_copyFrom_68 rfl (Nat.le_of_ble_eq_true rfl) rfl ?_
    try simp only [zup_k, zup_e, ne_eq, Nat.reduceEqDiff, not_false_eq_true, zup_j]
    refine zr_invN (pc := 71) S [zR _, zR _] (m_X11_copyRow _) (List.mem_of_getElem? (i := 4) rfl) kX7_copyFrom_67 dX7_copyFrom_71 (Nat.le_of_ble_eq_true rfl) ⟨Nat.le_of_ble_eq_true rfl, Nat.le_of_ble_eq_true rfl⟩ (us_X11_copyRow rfl rfl (Nat.le_of_ble_eq_true rfl) (Nat.le_of_ble_eq_true rfl) (by decide) ?_)
    dsimp only [zaft, Option.toList, List.cons_append, List.nil_append, Nat.add_zero]
    refine zr_aload_n (pc := 74) S dX7_copyFrom_74 rfl ?_
    refine zr_getR (pc := 75) S fX7_copyFrom_30 dX7_copyFrom_75 rfl (Nat.le_of_ble_eq_true rfl) rfl ?_
    try simp only [zup_k, zup_e, ne_eq, Nat.reduceEqDiff, not_false_eq_true, zup_j]
    refine zr_aload_n (pc := 78) S dX7_copyFrom_78 rfl ?_
    refine zr_getR (pc := 79) S fX7_copyFrom_30 dX7_copyFrom_79 rfl (Nat.le_of_ble_eq_true rfl) rfl ?_
    try simp only [zup_k, zup_e, ne_eq, Nat.reduceEqDiff, not_false_eq_true, zup_j]
    refine zr_invN (pc := 82) S [zR _, zR _] (m_X11_copyRow _) (List.mem_of_getElem? (i := 4) rfl) kX7_copyFrom_67 dX7_copyFrom_82 (Nat.le_of_ble_eq_true rfl) ⟨Nat.le_of_ble_eq_true rfl, Nat.le_of_ble_eq_true rfl⟩ (us_X11_copyRow rfl rfl (Nat.le_of_ble_eq_true rfl) (Nat.le_of_ble_eq_true rfl) (by decide) ?_)
    dsimp only [zaft, Option.toList, List.cons_append, List.nil_append, Nat.add_zero]
    refine zr_aload_n (pc := 85) S dX7_copyFrom_85 rfl ?_
    refine zr_getR (pc := 86) S fX7_copyFrom_33 dX7_copyFrom_86 rfl (Nat.le_of_ble_eq_true rfl) rfl ?_
    try simp only [zup_k, zup_e, ne_eq, Nat.reduceEqDiff, not_false_eq_true, zup_j]
    refine zr_aload_n (pc := 89) S dX7_copyFrom_89 rfl ?_
    refine zr_getR (pc := 90) S fX7_copyFrom_33 dX7_copyFrom_90 rfl (Nat.le_of_ble_eq_true rfl) rfl ?_
    try simp only [zup_k, zup_e, ne_eq, Nat.reduceEqDiff, not_false_eq_true, zup_j]
    refine zr_invN (pc := 93) S [zR _, zR _] (m_X11_copyRow _) (List.mem_of_getElem? (i := 4) rfl) kX7_copyFrom_67 dX7_copyFrom_93 (Nat.le_of_ble_eq_true rfl) ⟨Nat.le_of_ble_eq_true rfl, Nat.le_of_ble_eq_true rfl⟩ (us_X11_copyRow rfl rfl (Nat.le_of_ble_eq_true rfl) (Nat.le_of_ble_eq_true rfl) (by decide) ?_)
    dsimp only [zaft, Option.toList, List.cons_append, List.nil_append, Nat.add_zero]
    exact zr_vret (pc := 96) S dX7_copyFrom_96 rfl ⟨Nat.le_refl _, Nat.le_refl _⟩ (zqm hQ ((((((((((cpP.z (M := M) (a := 68) (b := 2) (n := 9) (by omega)).p 0 0 (by omega)).r 1 4 (by omega)).r 2 8 (by omega)).r 3 8 (by omega)).r 4 8 (by omega)).r 5 24 (by omega)).r 6 24 (by omega)).r 7 8 (by omega)).r 8 8 (by omega)).1)
  · refine zr_aload_n (pc := 0) S dX7_copyFrom_0 rfl ?_
    refine zr_aload_n (pc := 1) S dX7_copyFrom_1 rfl ?_
    refine zr_getI (pc := 2) S fX7_copyFrom_36 dX7_copyFrom_2 rfl (Nat.le_of_ble_eq_true rfl) rfl ?_
    refine zr_putI (pc := 5) S pX7_copyFrom_36 dX7_copyFrom_5 rfl (Nat.le_of_ble_eq_true rfl) rfl ?_
    refine zr_aload_n (pc := 8) S dX7_copyFrom_8 rfl ?_
    refine zr_getR (pc := 9) S fX7_copyFrom_9 dX7_copyFrom_9 rfl (Nat.le_of_ble_eq_true rfl) rfl ?_
    try simp only [zup_k, zup_e, ne_eq, Nat.reduceEqDiff, not_false_eq_true, zup_j]
    refine zr_aload_n (pc := 12) S dX7_copyFrom_12 rfl ?_
    refine zr_getR (pc := 13) S fX7_copyFrom_9 dX7_copyFrom_13 rfl (Nat.le_of_ble_eq_true rfl) rfl ?_
    try simp only [zup_k, zup_e, ne_eq, Nat.reduceEqDiff, not_false_eq_true, zup_j]
    refine zr_invN (pc := 16) S [zR _, zR _] (m_X11_copyRow _) (List.mem_of_getElem? (i := 4) rfl) kX7_copyFrom_67 dX7_copyFrom_16 (Nat.le_of_ble_eq_true rfl) ⟨Nat.le_of_ble_eq_true rfl, Nat.le_of_ble_eq_true rfl⟩ (us_X11_copyRow rfl rfl (Nat.le_of_ble_eq_true rfl) (Nat.le_of_ble_eq_true rfl) (by decide) ?_)
    dsimp only [zaft, Option.toList, List.cons_append, List.nil_append, Nat.add_zero]
    refine zr_aload_n (pc := 19) S dX7_copyFrom_19 rfl ?_
    refine zr_getR (pc := 20) S fX7_copyFrom_15 dX7_copyFrom_20 rfl (Nat.le_of_ble_eq_true rfl) rfl ?_
    try simp only [zup_k, zup_e, ne_eq, Nat.reduceEqDiff, not_false_eq_true, zup_j]
    refine zr_aload_n (pc := 23) S dX7_copyFrom_23 rfl ?_
    refine zr_getR (pc := 24) S fX7_copyFrom_15 dX7_copyFrom_24 rfl (Nat.le_of_ble_eq_true rfl) rfl ?_
    try simp only [zup_k, zup_e, ne_eq, Nat.reduceEqDiff, not_false_eq_true, zup_j]
    refine zr_invN (pc := 27) S [zR _, zR _] (m_X11_copyRow _) (List.mem_of_getElem? (i := 4) rfl) kX7_copyFrom_67 dX7_copyFrom_27 (Nat.le_of_ble_eq_true rfl) ⟨Nat.le_of_ble_eq_true rfl, Nat.le_of_ble_eq_true rfl⟩ (us_X11_copyRow rfl rfl (Nat.le_of_ble_eq_true rfl) (Nat.le_of_ble_eq_true rfl) (by decide) ?_)
    dsimp only [zaft, Option.toList, List.cons_append, List.nil_append, Nat.add_zero]
    refine zr_aload_n (pc := 30) S dX7_copyFrom_30 rfl ?_
    refine zr_getR (pc := 31) S fX7_copyFrom_18 dX7_copyFrom_31 rfl (Nat.le_of_ble_eq_true rfl) rfl ?_
    try simp only [zup_k, zup_e, ne_eq, Nat.reduceEqDiff, not_false_eq_true, zup_j]
    refine zr_aload_n (pc := 34) S dX7_copyFrom_34 rfl ?_
    refine zr_getR (pc := 35) S fX7_copyFrom_18 dX7_copyFrom_35 rfl (Nat.le_of_ble_eq_true rfl) rfl ?_
    try simp only [zup_k, zup_e, ne_eq, Nat.reduceEqDiff, not_false_eq_true, zup_j]
    refine zr_invN (pc := 38) S [zR _, zR _] (m_X11_copyRow _) (List.mem_of_getElem? (i := 4) rfl) kX7_copyFrom_67 dX7_copyFrom_38 (Nat.le_of_ble_eq_true rfl) ⟨Nat.le_of_ble_eq_true rfl, Nat.le_of_ble_eq_true rfl⟩ (us_X11_copyRow rfl rfl (Nat.le_of_ble_eq_true rfl) (Nat.le_of_ble_eq_true rfl) (by decide) ?_)
    dsimp only [zaft, Option.toList, List.cons_append, List.nil_append, Nat.add_zero]
    refine zr_aload_n (pc := 41) S dX7_copyFrom_41 rfl ?_
    refine zr_getR (pc := 42) S fX7_copyFrom_21 dX7_copyFrom_42 rfl (Nat.le_of_ble_eq_true rfl) rfl ?_
    try simp only [zup_k, zup_e, ne_eq, Nat.reduceEqDiff, not_false_eq_true, zup_j]
    refine zr_aload_n (pc := 45) S dX7_copyFrom_45 rfl ?_
    refine zr_getR (pc := 46) S fX7_copyFrom_21 dX7_copyFrom_46 rfl (Nat.le_of_ble_eq_true rfl) rfl ?_
    try simp only [zup_k, zup_e, ne_eq, Nat.reduceEqDiff, not_false_eq_true, zup_j]
    refine zr_invN (pc := 49) S [zR _, zR _] (m_X11_copyRow _) (List.mem_of_getElem? (i := 4) rfl) kX7_copyFrom_67 dX7_copyFrom_49 (Nat.le_of_ble_eq_true rfl) ⟨Nat.le_of_ble_eq_true rfl, Nat.le_of_ble_eq_true rfl⟩ (us_X11_copyRow rfl rfl (Nat.le_of_ble_eq_true rfl) (Nat.le_of_ble_eq_true rfl) (by decide) ?_)
    dsimp only [zaft, Option.toList, List.cons_append, List.nil_append, Nat.add_zero]
    refine zr_aload_n (pc := 52) S dX7_copyFrom_52 rfl ?_
    refine zr_getR (pc := 53) S fX7_copyFrom_24 dX7_copyFrom_53 rfl (Nat.le_of_ble_eq_true rfl) rfl ?_
    try simp only [zup_k, zup_e, ne_eq, Nat.reduceEqDiff, not_false_eq_true, zup_j]
    refine zr_aload_n (pc := 56) S dX7_copyFrom_56 rfl ?_
    refine zr_getR (pc := 57) S fX7_copyFrom_24 dX7_copyFrom_57 rfl (Nat.le_of_ble_eq_true rfl) rfl ?_
    try simp only [zup_k, zup_e, ne_eq, Nat.reduceEqDiff, not_false_eq_true, zup_j]
    refine zr_invN (pc := 60) S [zR _, zR _] (m_X11_copyRow _) (List.mem_of_getElem? (i := 4) rfl) kX7_copyFrom_67 dX7_copyFrom_60 (Nat.le_of_ble_eq_true rfl) ⟨Nat.le_of_ble_eq_true rfl, Nat.le_of_ble_eq_true rfl⟩ (us_X11_copyRow rfl rfl (Nat.le_of_ble_eq_true rfl) (Nat.le_of_ble_eq_true rfl) (by decide) ?_)
    dsimp only [zaft, Option.toList, List.cons_append, List.nil_append, Nat.add_zero]
    refine zr_aload_n (pc := 63) S dX7_copyFrom_63 rfl ?_
    refine zr_getR (pc := 64) S fX7_copyFrom_27 dX7_copyFrom_64 rfl (Nat.le_of_ble_eq_true rfl) rfl ?_
    try simp only [zup_k, zup_e, ne_eq, Nat.reduceEqDiff, not_false_eq_true, zup_j]
    refine zr_aload_n (pc := 67) S dX7_copyFrom_67 rfl ?_
    refine zr_getR (pc := 68) S fX7_copyFrom_27 dX7_copyFrom_68 rfl (Nat.le_of_ble_eq_true rfl) rfl ?_
    try simp only [zup_k, zup_e, ne_eq, Nat.reduceEqDiff, not_false_eq_true, zup_j]
    refine zr_invN (pc := 71) S [zR _, zR _] (m_X11_copyRow _) (List.mem_of_getElem? (i := 4) rfl) kX7_copyFrom_67 dX7_copyFrom_71 (Nat.le_of_ble_eq_true rfl) ⟨Nat.le_of_ble_eq_true rfl, Nat.le_of_ble_eq_true rfl⟩ (us_X11_copyRow rfl rfl (Nat.le_of_ble_eq_true rfl) (Nat.le_of_ble_eq_true rfl) (by decide) ?_)
    dsimp only [zaft, Option.toList, List.cons_append, List.nil_append, Nat.add_zero]
    refine zr_aload_n (pc := 74) S dX7_copyFrom_74 rfl ?_
    refine zr_getR (pc := 75) S fX7_copyFrom_30 dX7_copyFrom_75 rfl (Nat.le_of_ble_eq_true rfl) rfl ?_
    try simp only [zup_k, zup_e, ne_eq, Nat.reduceEqDiff, not_false_eq_true, zup_j]
    refine zr_aload_n (pc := 78) S dX7_copyFrom_78 rfl ?_
    refine zr_getR (pc := 79) S fX7_copyFrom_30 dX7_copyFrom_79 rfl (Nat.le_of_ble_eq_true rfl) rfl ?_
    try simp only [zup_k, zup_e, ne_eq, Nat.reduceEqDiff, not_false_eq_true, zup_j]
    refine zr_invN (pc := 82) S [zR _, zR _] (m_X11_copyRow _) (List.mem_of_getElem? (i := 4) rfl) kX7_copyFrom_67 dX7_copyFrom_82 (Nat.le_of_ble_eq_true rfl) ⟨Nat.le_of_ble_eq_true rfl, Nat.le_of_ble_eq_true rfl⟩ (us_X11_copyRow rfl rfl (Nat.le_of_ble_eq_true rfl) (Nat.le_of_ble_eq_true rfl) (by decide) ?_)
    dsimp only [zaft, Option.toList, List.cons_append, List.nil_append, Nat.add_zero]
    refine zr_aload_n (pc := 85) S dX7_copyFrom_85 rfl ?_
    refine zr_getR (pc := 86) S fX7_copyFrom_33 dX7_copyFrom_86 rfl (Nat.le_of_ble_eq_true rfl) rfl ?_
    try simp only [zup_k, zup_e, ne_eq, Nat.reduceEqDiff, not_false_eq_true, zup_j]
    refine zr_aload_n (pc := 89) S dX7_copyFrom_89 rfl ?_
    refine zr_getR (pc := 90) S fX7_copyFrom_33 dX7_copyFrom_90 rfl (Nat.le_of_ble_eq_true rfl) rfl ?_
    try simp only [zup_k, zup_e, ne_eq, Nat.reduceEqDiff, not_false_eq_true, zup_j]
    refine zr_invN (pc := 93) S [zR _, zR _] (m_X11_copyRow _) (List.mem_of_getElem? (i := 4) rfl) kX7_copyFrom_67 dX7_copyFrom_93 (Nat.le_of_ble_eq_true rfl) ⟨Nat.le_of_ble_eq_true rfl, Nat.le_of_ble_eq_true rfl⟩ (us_X11_copyRow rfl rfl (Nat.le_of_ble_eq_true rfl) (Nat.le_of_ble_eq_true rfl) (by decide) ?_)
    dsimp only [zaft, Option.toList, List.cons_append, List.nil_append, Nat.add_zero]
    exact zr_vret (pc := 96) S dX7_copyFrom_96 rfl ⟨Nat.le_refl _, Nat.le_refl _⟩ (zqm hQ ((((((((((cpP.z (M := M) (a := 103) (b := 2) (n := 9) (by omega)).p 0 0 (by omega)).r 1 4 (by omega)).r 2 8 (by omega)).r 3 8 (by omega)).r 4 8 (by omega)).r 5 24 (by omega)).r 6 24 (by omega)).r 7 8 (by omega)).r 8 8 (by omega)).1)
  · refine zr_aload_n (pc := 0) S dX7_copyFrom_0 rfl ?_
    refine zr_aload_n (pc := 1) S dX7_copyFrom_1 rfl ?_
    refine zr_getI (pc := 2) S fX7_copyFrom_36 dX7_copyFrom_2 rfl (Nat.le_of_ble_eq_true rfl) rfl ?_
    refine zr_putI (pc := 5) S pX7_copyFrom_36 dX7_copyFrom_5 rfl (Nat.le_of_ble_eq_true rfl) rfl ?_
    refine zr_aload_n (pc := 8) S dX7_copyFrom_8 rfl ?_
    refine zr_getR (pc := 9) S fX7_copyFrom_9 dX7_copyFrom_9 rfl (Nat.le_of_ble_eq_true rfl) rfl ?_
    try simp only [zup_k, zup_e, ne_eq, Nat.reduceEqDiff, not_false_eq_true, zup_j]
    refine zr_aload_n (pc := 12) S dX7_copyFrom_12 rfl ?_
    refine zr_getR (pc := 13) S fX7_copyFrom_9 dX7_copyFrom_13 rfl (Nat.le_of_ble_eq_true rfl) rfl ?_
    try simp only [zup_k, zup_e, ne_eq, Nat.reduceEqDiff, not_false_eq_true, zup_j]
    refine zr_invN (pc := 16) S [zR _, zR _] (m_X11_copyRow _) (List.mem_of_getElem? (i := 4) rfl) kX7_copyFrom_67 dX7_copyFrom_16 (Nat.le_of_ble_eq_true rfl) ⟨Nat.le_of_ble_eq_true rfl, Nat.le_of_ble_eq_true rfl⟩ (us_X11_copyRow rfl rfl (Nat.le_of_ble_eq_true rfl) (Nat.le_of_ble_eq_true rfl) (by decide) ?_)
    dsimp only [zaft, Option.toList, List.cons_append, List.nil_append, Nat.add_zero]
    refine zr_aload_n (pc := 19) S dX7_copyFrom_19 rfl ?_
    refine zr_getR (pc := 20) S fX7_copyFrom_15 dX7_copyFrom_20 rfl (Nat.le_of_ble_eq_true rfl) rfl ?_
    try simp only [zup_k, zup_e, ne_eq, Nat.reduceEqDiff, not_false_eq_true, zup_j]
    refine zr_aload_n (pc := 23) S dX7_copyFrom_23 rfl ?_
    refine zr_getR (pc := 24) S fX7_copyFrom_15 dX7_copyFrom_24 rfl (Nat.le_of_ble_eq_true rfl) rfl ?_
    try simp only [zup_k, zup_e, ne_eq, Nat.reduceEqDiff, not_false_eq_true, zup_j]
    refine zr_invN (pc := 27) S [zR _, zR _] (m_X11_copyRow _) (List.mem_of_getElem? (i := 4) rfl) kX7_copyFrom_67 dX7_copyFrom_27 (Nat.le_of_ble_eq_true rfl) ⟨Nat.le_of_ble_eq_true rfl, Nat.le_of_ble_eq_true rfl⟩ (us_X11_copyRow rfl rfl (Nat.le_of_ble_eq_true rfl) (Nat.le_of_ble_eq_true rfl) (by decide) ?_)
    dsimp only [zaft, Option.toList, List.cons_append, List.nil_append, Nat.add_zero]
    refine zr_aload_n (pc := 30) S dX7_copyFrom_30 rfl ?_
    refine zr_getR (pc := 31) S fX7_copyFrom_18 dX7_copyFrom_31 rfl (Nat.le_of_ble_eq_true rfl) rfl ?_
    try simp only [zup_k, zup_e, ne_eq, Nat.reduceEqDiff, not_false_eq_true, zup_j]
    refine zr_aload_n (pc := 34) S dX7_copyFrom_34 rfl ?_
    refine zr_getR (pc := 35) S fX7_copyFrom_18 dX7_copyFrom_35 rfl (Nat.le_of_ble_eq_true rfl) rfl ?_
    try simp only [zup_k, zup_e, ne_eq, Nat.reduceEqDiff, not_false_eq_true, zup_j]
    refine zr_invN (pc := 38) S [zR _, zR _] (m_X11_copyRow _) (List.mem_of_getElem? (i := 4) rfl) kX7_copyFrom_67 dX7_copyFrom_38 (Nat.le_of_ble_eq_true rfl) ⟨Nat.le_of_ble_eq_true rfl, Nat.le_of_ble_eq_true rfl⟩ (us_X11_copyRow rfl rfl (Nat.le_of_ble_eq_true rfl) (Nat.le_of_ble_eq_true rfl) (by decide) ?_)
    dsimp only [zaft, Option.toList, List.cons_append, List.nil_append, Nat.add_zero]
    refine zr_aload_n (pc := 41) S dX7_copyFrom_41 rfl ?_
    refine zr_getR (pc := 42) S fX7_copyFrom_21 dX7_copyFrom_42 rfl (Nat.le_of_ble_eq_true rfl) rfl ?_
    try simp only [zup_k, zup_e, ne_eq, Nat.reduceEqDiff, not_false_eq_true, zup_j]
    refine zr_aload_n (pc := 45) S dX7_copyFrom_45 rfl ?_
    refine zr_getR (pc := 46) S fX7_copyFrom_21 dX7_copyFrom_46 rfl (Nat.le_of_ble_eq_true rfl) rfl ?_
    try simp only [zup_k, zup_e, ne_eq, Nat.reduceEqDiff, not_false_eq_true, zup_j]
    refine zr_invN (pc := 49) S [zR _, zR _] (m_X11_copyRow _) (List.mem_of_getElem? (i := 4) rfl) kX7_copyFrom_67 dX7_copyFrom_49 (Nat.le_of_ble_eq_true rfl) ⟨Nat.le_of_ble_eq_true rfl, Nat.le_of_ble_eq_true rfl⟩ (us_X11_copyRow rfl rfl (Nat.le_of_ble_eq_true rfl) (Nat.le_of_ble_eq_true rfl) (by decide) ?_)
    dsimp only [zaft, Option.toList, List.cons_append, List.nil_append, Nat.add_zero]
    refine zr_aload_n (pc := 52) S dX7_copyFrom_52 rfl ?_
    refine zr_getR (pc := 53) S fX7_copyFrom_24 dX7_copyFrom_53 rfl (Nat.le_of_ble_eq_true rfl) rfl ?_
    try simp only [zup_k, zup_e, ne_eq, Nat.reduceEqDiff, not_false_eq_true, zup_j]
    refine zr_aload_n (pc := 56) S dX7_copyFrom_56 rfl ?_
    refine zr_getR (pc := 57) S fX7_copyFrom_24 dX7_copyFrom_57 rfl (Nat.le_of_ble_eq_true rfl) rfl ?_
    try simp only [zup_k, zup_e, ne_eq, Nat.reduceEqDiff, not_false_eq_true, zup_j]
    refine zr_invN (pc := 60) S [zR _, zR _] (m_X11_copyRow _) (List.mem_of_getElem? (i := 4) rfl) kX7_copyFrom_67 dX7_copyFrom_60 (Nat.le_of_ble_eq_true rfl) ⟨Nat.le_of_ble_eq_true rfl, Nat.le_of_ble_eq_true rfl⟩ (us_X11_copyRow rfl rfl (Nat.le_of_ble_eq_true rfl) (Nat.le_of_ble_eq_true rfl) (by decide) ?_)
    dsimp only [zaft, Option.toList, List.cons_append, List.nil_append, Nat.add_zero]
    refine zr_aload_n (pc := 63) S dX7_copyFrom_63 rfl ?_
    refine zr_getR (pc := 64) S fX7_copyFrom_27 dX7_copyFrom_64 rfl (Nat.le_of_ble_eq_true rfl) rfl ?_
    try simp only [zup_k, zup_e, ne_eq, Nat.reduceEqDiff, not_false_eq_true, zup_j]
    refine zr_aload_n (pc := 67) S dX7_copyFrom_67 rfl ?_
    refine zr_getR (pc := 68) S fX7_copyFrom_27 dX7_copyFrom_68 rfl (Nat.le_of_ble_eq_true rfl) rfl ?_
    try simp only [zup_k, zup_e, ne_eq, Nat.reduceEqDiff, not_false_eq_true, zup_j]
    refine zr_invN (pc := 71) S [zR _, zR _] (m_X11_copyRow _) (List.mem_of_getElem? (i := 4) rfl) kX7_copyFrom_67 dX7_copyFrom_71 (Nat.le_of_ble_eq_true rfl) ⟨Nat.le_of_ble_eq_true rfl, Nat.le_of_ble_eq_true rfl⟩ (us_X11_copyRow rfl rfl (Nat.le_of_ble_eq_true rfl) (Nat.le_of_ble_eq_true rfl) (by decide) ?_)
    dsimp only [zaft, Option.toList, List.cons_append, List.nil_append, Nat.add_zero]
    refine zr_aload_n (pc := 74) S dX7_copyFrom_74 rfl ?_
    refine zr_getR (pc := 75) S fX7_copyFrom_30 dX7_copyFrom_75 rfl (Nat.le_of_ble_eq_true rfl) rfl ?_
    try simp only [zup_k, zup_e, ne_eq, Nat.reduceEqDiff, not_false_eq_true, zup_j]
    refine zr_aload_n (pc := 78) S dX7_copyFrom_78 rfl ?_
    refine zr_getR (pc := 79) S fX7_copyFrom_30 dX7_copyFrom_79 rfl (Nat.le_of_ble_eq_true rfl) rfl ?_
    try simp only [zup_k, zup_e, ne_eq, Nat.reduceEqDiff, not_false_eq_true, zup_j]
    refine zr_invN (pc := 82) S [zR _, zR _] (m_X11_copyRow _) (List.mem_of_getElem? (i := 4) rfl) kX7_copyFrom_67 dX7_copyFrom_82 (Nat.le_of_ble_eq_true rfl) ⟨Nat.le_of_ble_eq_true rfl, Nat.le_of_ble_eq_true rfl⟩ (us_X11_copyRow rfl rfl (Nat.le_of_ble_eq_true rfl) (Nat.le_of_ble_eq_true rfl) (by decide) ?_)
    dsimp only [zaft, Option.toList, List.cons_append, List.nil_append, Nat.add_zero]
    refine zr_aload_n (pc := 85) S dX7_copyFrom_85 rfl ?_
    refine zr_getR (pc := 86) S fX7_copyFrom_33 dX7_copyFrom_86 rfl (Nat.le_of_ble_eq_true rfl) rfl ?_
    try simp only [zup_k, zup_e, ne_eq, Nat.reduceEqDiff, not_false_eq_true, zup_j]
    refine zr_aload_n (pc := 89) S dX7_copyFrom_89 rfl ?_
    refine zr_getR (pc := 90) S fX7_copyFrom_33 dX7_copyFrom_90 rfl (Nat.le_of_ble_eq_true rfl) rfl ?_
    try simp only [zup_k, zup_e, ne_eq, Nat.reduceEqDiff, not_false_eq_true, zup_j]
    refine zr_invN (pc := 93) S [zR _, zR _] (m_X11_copyRow _) (List.mem_of_getElem? (i := 4) rfl) kX7_copyFrom_67 dX7_copyFrom_93 (Nat.le_of_ble_eq_true rfl) ⟨Nat.le_of_ble_eq_true rfl, Nat.le_of_ble_eq_true rfl⟩ (us_X11_copyRow rfl rfl (Nat.le_of_ble_eq_true rfl) (Nat.le_of_ble_eq_true rfl) (by decide) ?_)
    dsimp only [zaft, Option.toList, List.cons_append, List.nil_append, Nat.add_zero]
    exact zr_vret (pc := 96) S dX7_copyFrom_96 rfl ⟨Nat.le_refl _, Nat.le_refl _⟩ (zqm hQ ((((((((((cpP.z (M := M) (a := 138) (b := 2) (n := 9) (by omega)).p 0 0 (by omega)).r 1 4 (by omega)).r 2 8 (by omega)).r 3 8 (by omega)).r 4 8 (by omega)).r 5 24 (by omega)).r 6 24 (by omega)).r 7 8 (by omega)).r 8 8 (by omega)).1)
def csT (i j : Nat) : Bool := false || (i == 1 && decide (j < 160)) || (i == 2 && decide (j < 8)) || (i == 3 && decide (j < 8)) || (i == 4 && decide (j < 8)) || (i == 5 && decide (j < 8)) || (i == 6 && decide (j < 4)) || (i == 0 && j == 6) || (i == 7 && decide (j < 12)) || (i == 8 && decide (j < 12)) || (i == 9 && decide (j < 12)) || (i == 10 && decide (j < 12)) || (i == 0 && j == 11) || (i == 11 && decide (j < 160))
theorem csT_r : ∀ i j, csT i j = true → i < 12 := by
  intro i j h
  simp only [csT, Bool.or_eq_true, Bool.and_eq_true, beq_iff_eq, Bool.false_eq_true, false_or] at h
  omega
def sp_X9_copyFrom (as : List zV) (M : zM) (Q : Option zV → zM → Prop) : Prop := ∃ (a b : Nat), as = [zR a, zR b] ∧ ((a = 17 ∧ b = 83) ∨ (a = 17 ∧ b = 118) ∨ (a = 17 ∧ b = 153) ∨ (a = 83 ∧ b = 17) ∨ (a = 118 ∧ b = 17) ∨ (a = 153 ∧ b = 17)) ∧ Q (none) (cpS M a b csT)
theorem us_X9_copyFrom {a b : Nat} {M : zM} {Q : Option zV → zM → Prop} (hab : (a = 17 ∧ b = 83) ∨ (a = 17 ∧ b = 118) ∨ (a = 17 ∧ b = 153) ∨ (a = 83 ∧ b = 17) ∨ (a = 118 ∧ b = 17) ∨ (a = 153 ∧ b = 17)) (h99 : Q (none) (cpS M a b csT)) : sp_X9_copyFrom [zR a, zR b] M Q := ⟨a, b, rfl, hab, h99⟩
set_option maxRecDepth 20000 in
set_option maxHeartbeats 4000000 in
theorem m_X9_copyFrom (l : Launch) : zC l yX9_copyFrom wzX9_copyFrom rmX9_copyFrom sp_X9_copyFrom := by
  refine zMet.of RX9 (by decide +kernel) rfl rfl ?_
  intro E X as M Qp hX S hsp
  obtain ⟨a, b, rfl, hab, hQ⟩ := hsp
  refine ⟨Nat.le_of_ble_eq_true rfl, ?_⟩
  dsimp only [zpad, zargs]
  rcases hab with ⟨rfl, rfl⟩ | ⟨rfl, rfl⟩ | ⟨rfl, rfl⟩ | ⟨rfl, rfl⟩ | ⟨rfl, rfl⟩ | ⟨rfl, rfl⟩
  · refine zr_aload_n (pc := 0) S dX9_copyFrom_0 rfl ?_
    refine zr_getR (pc := 1) S fX9_copyFrom_9 dX9_copyFrom_1 rfl (Nat.le_of_ble_eq_true rfl) rfl ?_
    refine zr_aload_n (pc := 4) S dX9_copyFrom_4 rfl ?_
    refine zr_getR (pc := 5) S fX9_copyFrom_9 dX9_copyFrom_5 rfl (Nat.le_of_ble_eq_true rfl) rfl ?_
    refine zr_invN (pc := 8) S [zR _, zR _] (m_X11_copyRow _) (List.mem_of_getElem? (i := 9) rfl) kX9_copyFrom_74 dX9_copyFrom_8 (Nat.le_of_ble_eq_true rfl) ⟨Nat.le_of_ble_eq_true rfl, Nat.le_of_ble_eq_true rfl⟩ (us_X11_copyRow rfl rfl (Nat.le_of_ble_eq_true rfl) (Nat.le_of_ble_eq_true rfl) (by decide) ?_)
    dsimp only [zaft, Option.toList, List.cons_append, List.nil_append, Nat.add_zero]
    refine zr_aload_n (pc := 11) S dX9_copyFrom_11 rfl ?_
    refine zr_getR (pc := 12) S fX9_copyFrom_15 dX9_copyFrom_12 rfl (Nat.le_of_ble_eq_true rfl) rfl ?_
    refine zr_aload_n (pc := 15) S dX9_copyFrom_15 rfl ?_
    refine zr_getR (pc := 16) S fX9_copyFrom_15 dX9_copyFrom_16 rfl (Nat.le_of_ble_eq_true rfl) rfl ?_
    refine zr_invN (pc := 19) S [zR _, zR _] (m_X11_copyRow _) (List.mem_of_getElem? (i := 9) rfl) kX9_copyFrom_74 dX9_copyFrom_19 (Nat.le_of_ble_eq_true rfl) ⟨Nat.le_of_ble_eq_true rfl, Nat.le_of_ble_eq_true rfl⟩ (us_X11_copyRow rfl rfl (Nat.le_of_ble_eq_true rfl) (Nat.le_of_ble_eq_true rfl) (by decide) ?_)
    dsimp only [zaft, Option.toList, List.cons_append, List.nil_append, Nat.add_zero]
    refine zr_aload_n (pc := 22) S dX9_copyFrom_22 rfl ?_
    refine zr_getR (pc := 23) S fX9_copyFrom_18 dX9_copyFrom_23 rfl (Nat.le_of_ble_eq_true rfl) rfl ?_
    refine zr_aload_n (pc := 26) S dX9_copyFrom_26 rfl ?_
    refine zr_getR (pc := 27) S fX9_copyFrom_18 dX9_copyFrom_27 rfl (Nat.le_of_ble_eq_true rfl) rfl ?_
    refine zr_invN (pc := 30) S [zR _, zR _] (m_X11_copyRow _) (List.mem_of_getElem? (i := 9) rfl) kX9_copyFrom_74 dX9_copyFrom_30 (Nat.le_of_ble_eq_true rfl) ⟨Nat.le_of_ble_eq_true rfl, Nat.le_of_ble_eq_true rfl⟩ (us_X11_copyRow rfl rfl (Nat.le_of_ble_eq_true rfl) (Nat.le_of_ble_eq_true rfl) (by decide) ?_)
    dsimp only [zaft, Option.toList, List.cons_append, List.nil_append, Nat.add_zero]
    refine zr_aload_n (pc := 33) S dX9_copyFrom_33 rfl ?_
    refine zr_getR (pc := 34) S fX9_copyFrom_21 dX9_copyFrom_34 rfl (Nat.le_of_ble_eq_true rfl) rfl ?_
    refine zr_aload_n (pc := 37) S dX9_copyFrom_37 rfl ?_
    refine zr_getR (pc := 38) S fX9_copyFrom_21 dX9_copyFrom_38 rfl (Nat.le_of_ble_eq_true rfl) rfl ?_
    refine zr_invN (pc := 41) S [zR _, zR _] (m_X11_copyRow _) (List.mem_of_getElem? (i := 9) rfl) kX9_copyFrom_74 dX9_copyFrom_41 (Nat.le_of_ble_eq_true rfl) ⟨Nat.le_of_ble_eq_true rfl, Nat.le_of_ble_eq_true rfl⟩ (us_X11_copyRow rfl rfl (Nat.le_of_ble_eq_true rfl) (Nat.le_of_ble_eq_true rfl) (by decide) ?_)
    dsimp only [zaft, Option.toList, List.cons_append, List.nil_append, Nat.add_zero]
    refine zr_aload_n (pc := 44) S dX9_copyFrom_44 rfl ?_
    refine zr_getR (pc := 45) S fX9_copyFrom_24 dX9_copyFrom_45 rfl (Nat.le_of_ble_eq_true rfl) rfl ?_
    refine zr_aload_n (pc := 48) S dX9_copyFrom_48 rfl ?_
    refine zr_getR (pc := 49) S fX9_copyFrom_24 dX9_copyFrom_49 rfl (Nat.le_of_ble_eq_true rfl) rfl ?_
    refine zr_invN (pc := 52) S [zR _, zR _] (m_X11_copyRow _) (List.mem_of_getElem? (i := 9) rfl) kX9_copyFrom_74 dX9_copyFrom_52 (Nat.le_of_ble_eq_true rfl) ⟨Nat.le_of_ble_eq_true rfl, Nat.le_of_ble_eq_true rfl⟩ (us_X11_copyRow rfl rfl (Nat.le_of_ble_eq_true rfl) (Nat.le_of_ble_eq_true rfl) (by decide) ?_)
    dsimp only [zaft, Option.toList, List.cons_append, List.nil_append, Nat.add_zero]
    refine zr_aload_n (pc := 55) S dX9_copyFrom_55 rfl ?_
    refine zr_getR (pc := 56) S fX9_copyFrom_27 dX9_copyFrom_56 rfl (Nat.le_of_ble_eq_true rfl) rfl ?_
    refine zr_aload_n (pc := 59) S dX9_copyFrom_59 rfl ?_
    refine zr_getR (pc := 60) S fX9_copyFrom_27 dX9_copyFrom_60 rfl (Nat.le_of_ble_eq_true rfl) rfl ?_
    refine zr_invN (pc := 63) S [zR _, zR _] (m_X11_copyRow _) (List.mem_of_getElem? (i := 9) rfl) kX9_copyFrom_74 dX9_copyFrom_63 (Nat.le_of_ble_eq_true rfl) ⟨Nat.le_of_ble_eq_true rfl, Nat.le_of_ble_eq_true rfl⟩ (us_X11_copyRow rfl rfl (Nat.le_of_ble_eq_true rfl) (Nat.le_of_ble_eq_true rfl) (by decide) ?_)
    dsimp only [zaft, Option.toList, List.cons_append, List.nil_append, Nat.add_zero]
    refine zr_aload_n (pc := 66) S dX9_copyFrom_66 rfl ?_
    refine zr_aload_n (pc := 67) S dX9_copyFrom_67 rfl ?_
    refine zr_getI (pc := 68) S fX9_copyFrom_53 dX9_copyFrom_68 rfl (Nat.le_of_ble_eq_true rfl) rfl ?_
    refine zr_putI (pc := 71) S pX9_copyFrom_53 dX9_copyFrom_71 rfl (Nat.le_of_ble_eq_true rfl) rfl ?_
    refine zr_aload_n (pc := 74) S dX9_copyFrom_74 rfl ?_
    refine zr_getR (pc := 75) S fX9_copyFrom_30 dX9_copyFrom_75 rfl (Nat.le_of_ble_eq_true rfl) rfl ?_
    try simp only [zup_k, zup_e, ne_eq, Nat.reduceEqDiff, not_false_eq_true, zup_j]
    refine zr_aload_n (pc := 78) S dX9_copyFrom_78 rfl ?_
    refine zr_getR (pc := 79) S fX9_copyFrom_30 dX9_copyFrom_79 rfl (Nat.le_of_ble_eq_true rfl) rfl ?_
    try simp only [zup_k, zup_e, ne_eq, Nat.reduceEqDiff, not_false_eq_true, zup_j]
    refine zr_invN (pc := 82) S [zR _, zR _] (m_X11_copyRow _) (List.mem_of_getElem? (i := 9) rfl) kX9_copyFrom_74 dX9_copyFrom_82 (Nat.le_of_ble_eq_true rfl) ⟨Nat.le_of_ble_eq_true rfl, Nat.le_of_ble_eq_true rfl⟩ (us_X11_copyRow rfl rfl (Nat.le_of_ble_eq_true rfl) (Nat.le_of_ble_eq_true rfl) (by decide) ?_)
    dsimp only [zaft, Option.toList, List.cons_append, List.nil_append, Nat.add_zero]
    refine zr_aload_n (pc := 85) S dX9_copyFrom_85 rfl ?_
    refine zr_getR (pc := 86) S fX9_copyFrom_33 dX9_copyFrom_86 rfl (Nat.le_of_ble_eq_true rfl) rfl ?_
    try simp only [zup_k, zup_e, ne_eq, Nat.reduceEqDiff, not_false_eq_true, zup_j]
    refine zr_aload_n (pc := 89) S dX9_copyFrom_89 rfl ?_
    refine zr_getR (pc := 90) S fX9_copyFrom_33 dX9_copyFrom_90 rfl (Nat.le_of_ble_eq_true rfl) rfl ?_
    try simp only [zup_k, zup_e, ne_eq, Nat.reduceEqDiff, not_false_eq_true, zup_j]
    refine zr_invN (pc := 93) S [zR _, zR _] (m_X11_copyRow _) (List.mem_of_getElem? (i := 9) rfl) kX9_copyFrom_74 dX9_copyFrom_93 (Nat.le_of_ble_eq_true rfl) ⟨Nat.le_of_ble_eq_true rfl, Nat.le_of_ble_eq_true rfl⟩ (us_X11_copyRow rfl rfl (Nat.le_of_ble_eq_true rfl) (Nat.le_of_ble_eq_true rfl) (by decide) ?_)
    dsimp only [zaft, Option.toList, List.cons_append, List.nil_append, Nat.add_zero]
    refine zr_aload_n (pc := 96) S dX9_copyFrom_96 rfl ?_
    refine zr_getR (pc := 97) S fX9_copyFrom_36 dX9_copyFrom_97 rfl (Nat.le_of_ble_eq_true rfl) rfl ?_
    try simp only [zup_k, zup_e, ne_eq, Nat.reduceEqDiff, not_false_eq_true, zup_j]
    refine zr_aload_n (pc := 100) S dX9_copyFrom_100 rfl ?_
    refine zr_getR (pc := 101) S fX9_copyFrom_36 dX9_copyFrom_101 rfl (Nat.le_of_ble_eq_true rfl) rfl ?_
    try simp only [zup_k, zup_e, ne_eq, Nat.reduceEqDiff, not_false_eq_true, zup_j]
    refine zr_invN (pc := 104) S [zR _, zR _] (m_X11_copyRow _) (List.mem_of_getElem? (i := 9) rfl) kX9_copyFrom_74 dX9_copyFrom_104 (Nat.le_of_ble_eq_true rfl) ⟨Nat.le_of_ble_eq_true rfl, Nat.le_of_ble_eq_true rfl⟩ (us_X11_copyRow rfl rfl (Nat.le_of_ble_eq_true rfl) (Nat.le_of_ble_eq_true rfl) (by decide) ?_)
    dsimp only [zaft, Option.toList, List.cons_append, List.nil_append, Nat.add_zero]
    refine zr_aload_n (pc := 107) S dX9_copyFrom_107 rfl ?_
    refine zr_getR (pc := 108) S fX9_copyFrom_39 dX9_copyFrom_108 rfl (Nat.le_of_ble_eq_true rfl) rfl ?_
    try simp only [zup_k, zup_e, ne_eq, Nat.reduceEqDiff, not_false_eq_true, zup_j]
    refine zr_aload_n (pc := 111) S dX9_copyFrom_111 rfl ?_
    refine zr_getR (pc := 112) S fX9_copyFrom_39 dX9_copyFrom_112 rfl (Nat.le_of_ble_eq_true rfl) rfl ?_
    try simp only [zup_k, zup_e, ne_eq, Nat.reduceEqDiff, not_false_eq_true, zup_j]
    refine zr_invN (pc := 115) S [zR _, zR _] (m_X11_copyRow _) (List.mem_of_getElem? (i := 9) rfl) kX9_copyFrom_74 dX9_copyFrom_115 (Nat.le_of_ble_eq_true rfl) ⟨Nat.le_of_ble_eq_true rfl, Nat.le_of_ble_eq_true rfl⟩ (us_X11_copyRow rfl rfl (Nat.le_of_ble_eq_true rfl) (Nat.le_of_ble_eq_true rfl) (by decide) ?_)
    dsimp only [zaft, Option.toList, List.cons_append, List.nil_append, Nat.add_zero]
    refine zr_aload_n (pc := 118) S dX9_copyFrom_118 rfl ?_
    refine zr_aload_n (pc := 119) S dX9_copyFrom_119 rfl ?_
    refine zr_getI (pc := 120) S fX9_copyFrom_65 dX9_copyFrom_120 rfl (Nat.le_of_ble_eq_true rfl) rfl ?_
    try simp only [zup_k, zup_e, ne_eq, Nat.reduceEqDiff, not_false_eq_true, zup_j]
    refine zr_putI (pc := 123) S pX9_copyFrom_65 dX9_copyFrom_123 rfl (Nat.le_of_ble_eq_true rfl) rfl ?_
    refine zr_aload_n (pc := 126) S dX9_copyFrom_126 rfl ?_
    refine zr_getR (pc := 127) S fX9_copyFrom_42 dX9_copyFrom_127 rfl (Nat.le_of_ble_eq_true rfl) rfl ?_
    try simp only [zup_k, zup_e, ne_eq, Nat.reduceEqDiff, not_false_eq_true, zup_j]
    refine zr_aload_n (pc := 130) S dX9_copyFrom_130 rfl ?_
    refine zr_getR (pc := 131) S fX9_copyFrom_42 dX9_copyFrom_131 rfl (Nat.le_of_ble_eq_true rfl) rfl ?_
    try simp only [zup_k, zup_e, ne_eq, Nat.reduceEqDiff, not_false_eq_true, zup_j]
    refine zr_invN (pc := 134) S [zR _, zR _] (m_X11_copyRow _) (List.mem_of_getElem? (i := 9) rfl) kX9_copyFrom_74 dX9_copyFrom_134 (Nat.le_of_ble_eq_true rfl) ⟨Nat.le_of_ble_eq_true rfl, Nat.le_of_ble_eq_true rfl⟩ (us_X11_copyRow rfl rfl (Nat.le_of_ble_eq_true rfl) (Nat.le_of_ble_eq_true rfl) (by decide) ?_)
    dsimp only [zaft, Option.toList, List.cons_append, List.nil_append, Nat.add_zero]
    exact zr_vret (pc := 137) S dX9_copyFrom_137 rfl ⟨Nat.le_refl _, Nat.le_refl _⟩ (zqm hQ ((((((((((((((cpP.z (M := M) (a := 17) (b := 83) (n := 12) (by omega)).r 1 160 (by omega)).r 2 8 (by omega)).r 3 8 (by omega)).r 4 8 (by omega)).r 5 8 (by omega)).r 6 4 (by omega)).p 0 6 (by omega)).r 7 12 (by omega)).r 8 12 (by omega)).r 9 12 (by omega)).r 10 12 (by omega)).p 0 11 (by omega)).r 11 160 (by omega)).1)
  · refine zr_aload_n (pc := 0) S dX9_copyFrom_0 rfl ?_
    refine zr_getR (pc := 1) S fX9_copyFrom_9 dX9_copyFrom_1 rfl (Nat.le_of_ble_eq_true rfl) rfl ?_
    refine zr_aload_n (pc := 4) S dX9_copyFrom_4 rfl ?_
    refine zr_getR (pc := 5) S fX9_copyFrom_9 dX9_copyFrom_5 rfl (Nat.le_of_ble_eq_true rfl) rfl ?_
    refine zr_invN (pc := 8) S [zR _, zR _] (m_X11_copyRow _) (List.mem_of_getElem? (i := 9) rfl) kX9_copyFrom_74 dX9_copyFrom_8 (Nat.le_of_ble_eq_true rfl) ⟨Nat.le_of_ble_eq_true rfl, Nat.le_of_ble_eq_true rfl⟩ (us_X11_copyRow rfl rfl (Nat.le_of_ble_eq_true rfl) (Nat.le_of_ble_eq_true rfl) (by decide) ?_)
    dsimp only [zaft, Option.toList, List.cons_append, List.nil_append, Nat.add_zero]
    refine zr_aload_n (pc := 11) S dX9_copyFrom_11 rfl ?_
    refine zr_getR (pc := 12) S fX9_copyFrom_15 dX9_copyFrom_12 rfl (Nat.le_of_ble_eq_true rfl) rfl ?_
    refine zr_aload_n (pc := 15) S dX9_copyFrom_15 rfl ?_
    refine zr_getR (pc := 16) S fX9_copyFrom_15 dX9_copyFrom_16 rfl (Nat.le_of_ble_eq_true rfl) rfl ?_
    refine zr_invN (pc := 19) S [zR _, zR _] (m_X11_copyRow _) (List.mem_of_getElem? (i := 9) rfl) kX9_copyFrom_74 dX9_copyFrom_19 (Nat.le_of_ble_eq_true rfl) ⟨Nat.le_of_ble_eq_true rfl, Nat.le_of_ble_eq_true rfl⟩ (us_X11_copyRow rfl rfl (Nat.le_of_ble_eq_true rfl) (Nat.le_of_ble_eq_true rfl) (by decide) ?_)
    dsimp only [zaft, Option.toList, List.cons_append, List.nil_append, Nat.add_zero]
    refine zr_aload_n (pc := 22) S dX9_copyFrom_22 rfl ?_
    refine zr_getR (pc := 23) S fX9_copyFrom_18 dX9_copyFrom_23 rfl (Nat.le_of_ble_eq_true rfl) rfl ?_
    refine zr_aload_n (pc := 26) S dX9_copyFrom_26 rfl ?_
    refine zr_getR (pc := 27) S fX9_copyFrom_18 dX9_copyFrom_27 rfl (Nat.le_of_ble_eq_true rfl) rfl ?_
    refine zr_invN (pc := 30) S [zR _, zR _] (m_X11_copyRow _) (List.mem_of_getElem? (i := 9) rfl) kX9_copyFrom_74 dX9_copyFrom_30 (Nat.le_of_ble_eq_true rfl) ⟨Nat.le_of_ble_eq_true rfl, Nat.le_of_ble_eq_true rfl⟩ (us_X11_copyRow rfl rfl (Nat.le_of_ble_eq_true rfl) (Nat.le_of_ble_eq_true rfl) (by decide) ?_)
    dsimp only [zaft, Option.toList, List.cons_append, List.nil_append, Nat.add_zero]
    refine zr_aload_n (pc := 33) S dX9_copyFrom_33 rfl ?_
    refine zr_getR (pc := 34) S fX9_copyFrom_21 dX9_copyFrom_34 rfl (Nat.le_of_ble_eq_true rfl) rfl ?_
    refine zr_aload_n (pc := 37) S dX9_copyFrom_37 rfl ?_
    refine zr_getR (pc := 38) S fX9_copyFrom_21 dX9_copyFrom_38 rfl (Nat.le_of_ble_eq_true rfl) rfl ?_
    refine zr_invN (pc := 41) S [zR _, zR _] (m_X11_copyRow _) (List.mem_of_getElem? (i := 9) rfl) kX9_copyFrom_74 dX9_copyFrom_41 (Nat.le_of_ble_eq_true rfl) ⟨Nat.le_of_ble_eq_true rfl, Nat.le_of_ble_eq_true rfl⟩ (us_X11_copyRow rfl rfl (Nat.le_of_ble_eq_true rfl) (Nat.le_of_ble_eq_true rfl) (by decide) ?_)
    dsimp only [zaft, Option.toList, List.cons_append, List.nil_append, Nat.add_zero]
    refine zr_aload_n (pc := 44) S dX9_copyFrom_44 rfl ?_
    refine zr_getR (pc := 45) S fX9_copyFrom_24 dX9_copyFrom_45 rfl (Nat.le_of_ble_eq_true rfl) rfl ?_
    refine zr_aload_n (pc := 48) S dX9_copyFrom_48 rfl ?_
    refine zr_getR (pc := 49) S fX9_copyFrom_24 dX9_copyFrom_49 rfl (Nat.le_of_ble_eq_true rfl) rfl ?_
    refine zr_invN (pc := 52) S [zR _, zR _] (m_X11_copyRow _) (List.mem_of_getElem? (i := 9) rfl) kX9_copyFrom_74 dX9_copyFrom_52 (Nat.le_of_ble_eq_true rfl) ⟨Nat.le_of_ble_eq_true rfl, Nat.le_of_ble_eq_true rfl⟩ (us_X11_copyRow rfl rfl (Nat.le_of_ble_eq_true rfl) (Nat.le_of_ble_eq_true rfl) (by decide) ?_)
    dsimp only [zaft, Option.toList, List.cons_append, List.nil_append, Nat.add_zero]
    refine zr_aload_n (pc := 55) S dX9_copyFrom_55 rfl ?_
    refine zr_getR (pc := 56) S fX9_copyFrom_27 dX9_copyFrom_56 rfl (Nat.le_of_ble_eq_true rfl) rfl ?_
    refine zr_aload_n (pc := 59) S dX9_copyFrom_59 rfl ?_
    refine zr_getR (pc := 60) S fX9_copyFrom_27 dX9_copyFrom_60 rfl (Nat.le_of_ble_eq_true rfl) rfl ?_
    refine zr_invN (pc := 63) S [zR _, zR _] (m_X11_copyRow _) (List.mem_of_getElem? (i := 9) rfl) kX9_copyFrom_74 dX9_copyFrom_63 (Nat.le_of_ble_eq_true rfl) ⟨Nat.le_of_ble_eq_true rfl, Nat.le_of_ble_eq_true rfl⟩ (us_X11_copyRow rfl rfl (Nat.le_of_ble_eq_true rfl) (Nat.le_of_ble_eq_true rfl) (by decide) ?_)
    dsimp only [zaft, Option.toList, List.cons_append, List.nil_append, Nat.add_zero]
    refine zr_aload_n (pc := 66) S dX9_copyFrom_66 rfl ?_
    refine zr_aload_n (pc := 67) S dX9_copyFrom_67 rfl ?_
    refine zr_getI (pc := 68) S fX9_copyFrom_53 dX9_copyFrom_68 rfl (Nat.le_of_ble_eq_true rfl) rfl ?_
    refine zr_putI (pc := 71) S pX9_copyFrom_53 dX9_copyFrom_71 rfl (Nat.le_of_ble_eq_true rfl) rfl ?_
    refine zr_aload_n (pc := 74) S dX9_copyFrom_74 rfl ?_
    refine zr_getR (pc := 75) S fX9_copyFrom_30 dX9_copyFrom_75 rfl (Nat.le_of_ble_eq_true rfl) rfl ?_
    try simp only [zup_k, zup_e, ne_eq, Nat.reduceEqDiff, not_false_eq_true, zup_j]
    refine zr_aload_n (pc := 78) S dX9_copyFrom_78 rfl ?_
    refine zr_getR (pc := 79) S fX9_copyFrom_30 dX9_copyFrom_79 rfl (Nat.le_of_ble_eq_true rfl) rfl ?_
    try simp only [zup_k, zup_e, ne_eq, Nat.reduceEqDiff, not_false_eq_true, zup_j]
    refine zr_invN (pc := 82) S [zR _, zR _] (m_X11_copyRow _) (List.mem_of_getElem? (i := 9) rfl) kX9_copyFrom_74 dX9_copyFrom_82 (Nat.le_of_ble_eq_true rfl) ⟨Nat.le_of_ble_eq_true rfl, Nat.le_of_ble_eq_true rfl⟩ (us_X11_copyRow rfl rfl (Nat.le_of_ble_eq_true rfl) (Nat.le_of_ble_eq_true rfl) (by decide) ?_)
    dsimp only [zaft, Option.toList, List.cons_append, List.nil_append, Nat.add_zero]
    refine zr_aload_n (pc := 85) S dX9_copyFrom_85 rfl ?_
    refine zr_getR (pc := 86) S fX9_copyFrom_33 dX9_copyFrom_86 rfl (Nat.le_of_ble_eq_true rfl) rfl ?_
    try simp only [zup_k, zup_e, ne_eq, Nat.reduceEqDiff, not_false_eq_true, zup_j]
    refine zr_aload_n (pc := 89) S dX9_copyFrom_89 rfl ?_
    refine zr_getR (pc := 90) S fX9_copyFrom_33 dX9_copyFrom_90 rfl (Nat.le_of_ble_eq_true rfl) rfl ?_
    try simp only [zup_k, zup_e, ne_eq, Nat.reduceEqDiff, not_false_eq_true, zup_j]
    refine zr_invN (pc := 93) S [zR _, zR _] (m_X11_copyRow _) (List.mem_of_getElem? (i := 9) rfl) kX9_copyFrom_74 dX9_copyFrom_93 (Nat.le_of_ble_eq_true rfl) ⟨Nat.le_of_ble_eq_true rfl, Nat.le_of_ble_eq_true rfl⟩ (us_X11_copyRow rfl rfl (Nat.le_of_ble_eq_true rfl) (Nat.le_of_ble_eq_true rfl) (by decide) ?_)
    dsimp only [zaft, Option.toList, List.cons_append, List.nil_append, Nat.add_zero]
    refine zr_aload_n (pc := 96) S dX9_copyFrom_96 rfl ?_
    refine zr_getR (pc := 97) S fX9_copyFrom_36 dX9_copyFrom_97 rfl (Nat.le_of_ble_eq_true rfl) rfl ?_
    try simp only [zup_k, zup_e, ne_eq, Nat.reduceEqDiff, not_false_eq_true, zup_j]
    refine zr_aload_n (pc := 100) S dX9_copyFrom_100 rfl ?_
    refine zr_getR (pc := 101) S fX9_copyFrom_36 dX9_copyFrom_101 rfl (Nat.le_of_ble_eq_true rfl) rfl ?_
    try simp only [zup_k, zup_e, ne_eq, Nat.reduceEqDiff, not_false_eq_true, zup_j]
    refine zr_invN (pc := 104) S [zR _, zR _] (m_X11_copyRow _) (List.mem_of_getElem? (i := 9) rfl) kX9_copyFrom_74 dX9_copyFrom_104 (Nat.le_of_ble_eq_true rfl) ⟨Nat.le_of_ble_eq_true rfl, Nat.le_of_ble_eq_true rfl⟩ (us_X11_copyRow rfl rfl (Nat.le_of_ble_eq_true rfl) (Nat.le_of_ble_eq_true rfl) (by decide) ?_)
    dsimp only [zaft, Option.toList, List.cons_append, List.nil_append, Nat.add_zero]
    refine zr_aload_n (pc := 107) S dX9_copyFrom_107 rfl ?_
    refine zr_getR (pc := 108) S fX9_copyFrom_39 dX9_copyFrom_108 rfl (Nat.le_of_ble_eq_true rfl) rfl ?_
    try simp only [zup_k, zup_e, ne_eq, Nat.reduceEqDiff, not_false_eq_true, zup_j]
    refine zr_aload_n (pc := 111) S dX9_copyFrom_111 rfl ?_
    refine zr_getR (pc := 112) S fX9_copyFrom_39 dX9_copyFrom_112 rfl (Nat.le_of_ble_eq_true rfl) rfl ?_
    try simp only [zup_k, zup_e, ne_eq, Nat.reduceEqDiff, not_false_eq_true, zup_j]
    refine zr_invN (pc := 115) S [zR _, zR _] (m_X11_copyRow _) (List.mem_of_getElem? (i := 9) rfl) kX9_copyFrom_74 dX9_copyFrom_115 (Nat.le_of_ble_eq_true rfl) ⟨Nat.le_of_ble_eq_true rfl, Nat.le_of_ble_eq_true rfl⟩ (us_X11_copyRow rfl rfl (Nat.le_of_ble_eq_true rfl) (Nat.le_of_ble_eq_true rfl) (by decide) ?_)
    dsimp only [zaft, Option.toList, List.cons_append, List.nil_append, Nat.add_zero]
    refine zr_aload_n (pc := 118) S dX9_copyFrom_118 rfl ?_
    refine zr_aload_n (pc := 119) S dX9_copyFrom_119 rfl ?_
    refine zr_getI (pc := 120) S fX9_copyFrom_65 dX9_copyFrom_120 rfl (Nat.le_of_ble_eq_true rfl) rfl ?_
    try simp only [zup_k, zup_e, ne_eq, Nat.reduceEqDiff, not_false_eq_true, zup_j]
    refine zr_putI (pc := 123) S pX9_copyFrom_65 dX9_copyFrom_123 rfl (Nat.le_of_ble_eq_true rfl) rfl ?_
    refine zr_aload_n (pc := 126) S dX9_copyFrom_126 rfl ?_
    refine zr_getR (pc := 127) S fX9_copyFrom_42 dX9_copyFrom_127 rfl (Nat.le_of_ble_eq_true rfl) rfl ?_
    try simp only [zup_k, zup_e, ne_eq, Nat.reduceEqDiff, not_false_eq_true, zup_j]
    refine zr_aload_n (pc := 130) S dX9_copyFrom_130 rfl ?_
    refine zr_getR (pc := 131) S fX9_copyFrom_42 dX9_copyFrom_131 rfl (Nat.le_of_ble_eq_true rfl) rfl ?_
    try simp only [zup_k, zup_e, ne_eq, Nat.reduceEqDiff, not_false_eq_true, zup_j]
    refine zr_invN (pc := 134) S [zR _, zR _] (m_X11_copyRow _) (List.mem_of_getElem? (i := 9) rfl) kX9_copyFrom_74 dX9_copyFrom_134 (Nat.le_of_ble_eq_true rfl) ⟨Nat.le_of_ble_eq_true rfl, Nat.le_of_ble_eq_true rfl⟩ (us_X11_copyRow rfl rfl (Nat.le_of_ble_eq_true rfl) (Nat.le_of_ble_eq_true rfl) (by decide) ?_)
    dsimp only [zaft, Option.toList, List.cons_append, List.nil_append, Nat.add_zero]
    exact zr_vret (pc := 137) S dX9_copyFrom_137 rfl ⟨Nat.le_refl _, Nat.le_refl _⟩ (zqm hQ ((((((((((((((cpP.z (M := M) (a := 17) (b := 118) (n := 12) (by omega)).r 1 160 (by omega)).r 2 8 (by omega)).r 3 8 (by omega)).r 4 8 (by omega)).r 5 8 (by omega)).r 6 4 (by omega)).p 0 6 (by omega)).r 7 12 (by omega)).r 8 12 (by omega)).r 9 12 (by omega)).r 10 12 (by omega)).p 0 11 (by omega)).r 11 160 (by omega)).1)
  · refine zr_aload_n (pc := 0) S dX9_copyFrom_0 rfl ?_
    refine zr_getR (pc := 1) S fX9_copyFrom_9 dX9_copyFrom_1 rfl (Nat.le_of_ble_eq_true rfl) rfl ?_
    refine zr_aload_n (pc := 4) S dX9_copyFrom_4 rfl ?_
    refine zr_getR (pc := 5) S fX9_copyFrom_9 dX9_copyFrom_5 rfl (Nat.le_of_ble_eq_true rfl) rfl ?_
    refine zr_invN (pc := 8) S [zR _, zR _] (m_X11_copyRow _) (List.mem_of_getElem? (i := 9) rfl) kX9_copyFrom_74 dX9_copyFrom_8 (Nat.le_of_ble_eq_true rfl) ⟨Nat.le_of_ble_eq_true rfl, Nat.le_of_ble_eq_true rfl⟩ (us_X11_copyRow rfl rfl (Nat.le_of_ble_eq_true rfl) (Nat.le_of_ble_eq_true rfl) (by decide) ?_)
    dsimp only [zaft, Option.toList, List.cons_append, List.nil_append, Nat.add_zero]
    refine zr_aload_n (pc := 11) S dX9_copyFrom_11 rfl ?_
    refine zr_getR (pc := 12) S fX9_copyFrom_15 dX9_copyFrom_12 rfl (Nat.le_of_ble_eq_true rfl) rfl ?_
    refine zr_aload_n (pc := 15) S dX9_copyFrom_15 rfl ?_
    refine zr_getR (pc := 16) S fX9_copyFrom_15 dX9_copyFrom_16 rfl (Nat.le_of_ble_eq_true rfl) rfl ?_
    refine zr_invN (pc := 19) S [zR _, zR _] (m_X11_copyRow _) (List.mem_of_getElem? (i := 9) rfl) kX9_copyFrom_74 dX9_copyFrom_19 (Nat.le_of_ble_eq_true rfl) ⟨Nat.le_of_ble_eq_true rfl, Nat.le_of_ble_eq_true rfl⟩ (us_X11_copyRow rfl rfl (Nat.le_of_ble_eq_true rfl) (Nat.le_of_ble_eq_true rfl) (by decide) ?_)
    dsimp only [zaft, Option.toList, List.cons_append, List.nil_append, Nat.add_zero]
    refine zr_aload_n (pc := 22) S dX9_copyFrom_22 rfl ?_
    refine zr_getR (pc := 23) S fX9_copyFrom_18 dX9_copyFrom_23 rfl (Nat.le_of_ble_eq_true rfl) rfl ?_
    refine zr_aload_n (pc := 26) S dX9_copyFrom_26 rfl ?_
    refine zr_getR (pc := 27) S fX9_copyFrom_18 dX9_copyFrom_27 rfl (Nat.le_of_ble_eq_true rfl) rfl ?_
    refine zr_invN (pc := 30) S [zR _, zR _] (m_X11_copyRow _) (List.mem_of_getElem? (i := 9) rfl) kX9_copyFrom_74 dX9_copyFrom_30 (Nat.le_of_ble_eq_true rfl) ⟨Nat.le_of_ble_eq_true rfl, Nat.le_of_ble_eq_true rfl⟩ (us_X11_copyRow rfl rfl (Nat.le_of_ble_eq_true rfl) (Nat.le_of_ble_eq_true rfl) (by decide) ?_)
    dsimp only [zaft, Option.toList, List.cons_append, List.nil_append, Nat.add_zero]
    refine zr_aload_n (pc := 33) S dX9_copyFrom_33 rfl ?_
    refine zr_getR (pc := 34) S fX9_copyFrom_21 dX9_copyFrom_34 rfl (Nat.le_of_ble_eq_true rfl) rfl ?_
    refine zr_aload_n (pc := 37) S dX9_copyFrom_37 rfl ?_
    refine zr_getR (pc := 38) S fX9_copyFrom_21 dX9_copyFrom_38 rfl (Nat.le_of_ble_eq_true rfl) rfl ?_
    refine zr_invN (pc := 41) S [zR _, zR _] (m_X11_copyRow _) (List.mem_of_getElem? (i := 9) rfl) kX9_copyFrom_74 dX9_copyFrom_41 (Nat.le_of_ble_eq_true rfl) ⟨Nat.le_of_ble_eq_true rfl, Nat.le_of_ble_eq_true rfl⟩ (us_X11_copyRow rfl rfl (Nat.le_of_ble_eq_true rfl) (Nat.le_of_ble_eq_true rfl) (by decide) ?_)
    dsimp only [zaft, Option.toList, List.cons_append, List.nil_append, Nat.add_zero]
    refine zr_aload_n (pc := 44) S dX9_copyFrom_44 rfl ?_
    refine zr_getR (pc := 45) S fX9_copyFrom_24 dX9_copyFrom_45 rfl (Nat.le_of_ble_eq_true rfl) rfl ?_
    refine zr_aload_n (pc := 48) S dX9_copyFrom_48 rfl ?_
    refine zr_getR (pc := 49) S fX9_copyFrom_24 dX9_copyFrom_49 rfl (Nat.le_of_ble_eq_true rfl) rfl ?_
    refine zr_invN (pc := 52) S [zR _, zR _] (m_X11_copyRow _) (List.mem_of_getElem? (i := 9) rfl) kX9_copyFrom_74 dX9_copyFrom_52 (Nat.le_of_ble_eq_true rfl) ⟨Nat.le_of_ble_eq_true rfl, Nat.le_of_ble_eq_true rfl⟩ (us_X11_copyRow rfl rfl (Nat.le_of_ble_eq_true rfl) (Nat.le_of_ble_eq_true rfl) (by decide) ?_)
    dsimp only [zaft, Option.toList, List.cons_append, List.nil_append, Nat.add_zero]
    refine zr_aload_n (pc := 55) S dX9_copyFrom_55 rfl ?_
    refine zr_getR (pc := 56) S fX9_copyFrom_27 dX9_copyFrom_56 rfl (Nat.le_of_ble_eq_true rfl) rfl ?_
    refine zr_aload_n (pc := 59) S dX9_copyFrom_59 rfl ?_
    refine zr_getR (pc := 60) S fX9_copyFrom_27 dX9_copyFrom_60 rfl (Nat.le_of_ble_eq_true rfl) rfl ?_
    refine zr_invN (pc := 63) S [zR _, zR _] (m_X11_copyRow _) (List.mem_of_getElem? (i := 9) rfl) kX9_copyFrom_74 dX9_copyFrom_63 (Nat.le_of_ble_eq_true rfl) ⟨Nat.le_of_ble_eq_true rfl, Nat.le_of_ble_eq_true rfl⟩ (us_X11_copyRow rfl rfl (Nat.le_of_ble_eq_true rfl) (Nat.le_of_ble_eq_true rfl) (by decide) ?_)
    dsimp only [zaft, Option.toList, List.cons_append, List.nil_append, Nat.add_zero]
    refine zr_aload_n (pc := 66) S dX9_copyFrom_66 rfl ?_
    refine zr_aload_n (pc := 67) S dX9_copyFrom_67 rfl ?_
    refine zr_getI (pc := 68) S fX9_copyFrom_53 dX9_copyFrom_68 rfl (Nat.le_of_ble_eq_true rfl) rfl ?_
    refine zr_putI (pc := 71) S pX9_copyFrom_53 dX9_copyFrom_71 rfl (Nat.le_of_ble_eq_true rfl) rfl ?_
    refine zr_aload_n (pc := 74) S dX9_copyFrom_74 rfl ?_
    refine zr_getR (pc := 75) S fX9_copyFrom_30 dX9_copyFrom_75 rfl (Nat.le_of_ble_eq_true rfl) rfl ?_
    try simp only [zup_k, zup_e, ne_eq, Nat.reduceEqDiff, not_false_eq_true, zup_j]
    refine zr_aload_n (pc := 78) S dX9_copyFrom_78 rfl ?_
    refine zr_getR (pc := 79) S fX9_copyFrom_30 dX9_copyFrom_79 rfl (Nat.le_of_ble_eq_true rfl) rfl ?_
    try simp only [zup_k, zup_e, ne_eq, Nat.reduceEqDiff, not_false_eq_true, zup_j]
    refine zr_invN (pc := 82) S [zR _, zR _] (m_X11_copyRow _) (List.mem_of_getElem? (i := 9) rfl) kX9_copyFrom_74 dX9_copyFrom_82 (Nat.le_of_ble_eq_true rfl) ⟨Nat.le_of_ble_eq_true rfl, Nat.le_of_ble_eq_true rfl⟩ (us_X11_copyRow rfl rfl (Nat.le_of_ble_eq_true rfl) (Nat.le_of_ble_eq_true rfl) (by decide) ?_)
    dsimp only [zaft, Option.toList, List.cons_append, List.nil_append, Nat.add_zero]
    refine zr_aload_n (pc := 85) S dX9_copyFrom_85 rfl ?_
    refine zr_getR (pc := 86) S fX9_copyFrom_33 dX9_copyFrom_86 rfl (Nat.le_of_ble_eq_true rfl) rfl ?_
    try simp only [zup_k, zup_e, ne_eq, Nat.reduceEqDiff, not_false_eq_true, zup_j]
    refine zr_aload_n (pc := 89) S dX9_copyFrom_89 rfl ?_
    refine zr_getR (pc := 90) S fX9_copyFrom_33 dX9_copyFrom_90 rfl (Nat.le_of_ble_eq_true rfl) rfl ?_
    try simp only [zup_k, zup_e, ne_eq, Nat.reduceEqDiff, not_false_eq_true, zup_j]
    refine zr_invN (pc := 93) S [zR _, zR _] (m_X11_copyRow _) (List.mem_of_getElem? (i := 9) rfl) kX9_copyFrom_74 dX9_copyFrom_93 (Nat.le_of_ble_eq_true rfl) ⟨Nat.le_of_ble_eq_true rfl, Nat.le_of_ble_eq_true rfl⟩ (us_X11_copyRow rfl rfl (Nat.le_of_ble_eq_true rfl) (Nat.le_of_ble_eq_true rfl) (by decide) ?_)
    dsimp only [zaft, Option.toList, List.cons_append, List.nil_append, Nat.add_zero]
    refine zr_aload_n (pc := 96) S dX9_copyFrom_96 rfl ?_
    refine zr_getR (pc := 97) S fX9_copyFrom_36 dX9_copyFrom_97 rfl (Nat.le_of_ble_eq_true rfl) rfl ?_
    try simp only [zup_k, zup_e, ne_eq, Nat.reduceEqDiff, not_false_eq_true, zup_j]
    refine zr_aload_n (pc := 100) S dX9_copyFrom_100 rfl ?_
    refine zr_getR (pc := 101) S fX9_copyFrom_36 dX9_copyFrom_101 rfl (Nat.le_of_ble_eq_true rfl) rfl ?_
    try simp only [zup_k, zup_e, ne_eq, Nat.reduceEqDiff, not_false_eq_true, zup_j]
    refine zr_invN (pc := 104) S [zR _, zR _] (m_X11_copyRow _) (List.mem_of_getElem? (i := 9) rfl) kX9_copyFrom_74 dX9_copyFrom_104 (Nat.le_of_ble_eq_true rfl) ⟨Nat.le_of_ble_eq_true rfl, Nat.le_of_ble_eq_true rfl⟩ (us_X11_copyRow rfl rfl (Nat.le_of_ble_eq_true rfl) (Nat.le_of_ble_eq_true rfl) (by decide) ?_)
    dsimp only [zaft, Option.toList, List.cons_append, List.nil_append, Nat.add_zero]
    refine zr_aload_n (pc := 107) S dX9_copyFrom_107 rfl ?_
    refine zr_getR (pc := 108) S fX9_copyFrom_39 dX9_copyFrom_108 rfl (Nat.le_of_ble_eq_true rfl) rfl ?_
    try simp only [zup_k, zup_e, ne_eq, Nat.reduceEqDiff, not_false_eq_true, zup_j]
    refine zr_aload_n (pc := 111) S dX9_copyFrom_111 rfl ?_
    refine zr_getR (pc := 112) S fX9_copyFrom_39 dX9_copyFrom_112 rfl (Nat.le_of_ble_eq_true rfl) rfl ?_
    try simp only [zup_k, zup_e, ne_eq, Nat.reduceEqDiff, not_false_eq_true, zup_j]
    refine zr_invN (pc := 115) S [zR _, zR _] (m_X11_copyRow _) (List.mem_of_getElem? (i := 9) rfl) kX9_copyFrom_74 dX9_copyFrom_115 (Nat.le_of_ble_eq_true rfl) ⟨Nat.le_of_ble_eq_true rfl, Nat.le_of_ble_eq_true rfl⟩ (us_X11_copyRow rfl rfl (Nat.le_of_ble_eq_true rfl) (Nat.le_of_ble_eq_true rfl) (by decide) ?_)
    dsimp only [zaft, Option.toList, List.cons_append, List.nil_append, Nat.add_zero]
    refine zr_aload_n (pc := 118) S dX9_copyFrom_118 rfl ?_
    refine zr_aload_n (pc := 119) S dX9_copyFrom_119 rfl ?_
    refine zr_getI (pc := 120) S fX9_copyFrom_65 dX9_copyFrom_120 rfl (Nat.le_of_ble_eq_true rfl) rfl ?_
    try simp only [zup_k, zup_e, ne_eq, Nat.reduceEqDiff, not_false_eq_true, zup_j]
    refine zr_putI (pc := 123) S pX9_copyFrom_65 dX9_copyFrom_123 rfl (Nat.le_of_ble_eq_true rfl) rfl ?_
    refine zr_aload_n (pc := 126) S dX9_copyFrom_126 rfl ?_
    refine zr_getR (pc := 127) S fX9_copyFrom_42 dX9_copyFrom_127 rfl (Nat.le_of_ble_eq_true rfl) rfl ?_
    try simp only [zup_k, zup_e, ne_eq, Nat.reduceEqDiff, not_false_eq_true, zup_j]
    refine zr_aload_n (pc := 130) S dX9_copyFrom_130 rfl ?_
    refine zr_getR (pc := 131) S fX9_copyFrom_42 dX9_copyFrom_131 rfl (Nat.le_of_ble_eq_true rfl) rfl ?_
    try simp only [zup_k, zup_e, ne_eq, Nat.reduceEqDiff, not_false_eq_true, zup_j]
    refine zr_invN (pc := 134) S [zR _, zR _] (m_X11_copyRow _) (List.mem_of_getElem? (i := 9) rfl) kX9_copyFrom_74 dX9_copyFrom_134 (Nat.le_of_ble_eq_true rfl) ⟨Nat.le_of_ble_eq_true rfl, Nat.le_of_ble_eq_true rfl⟩ (us_X11_copyRow rfl rfl (Nat.le_of_ble_eq_true rfl) (Nat.le_of_ble_eq_true rfl) (by decide) ?_)
    dsimp only [zaft, Option.toList, List.cons_append, List.nil_append, Nat.add_zero]
    exact zr_vret (pc := 137) S dX9_copyFrom_137 rfl ⟨Nat.le_refl _, Nat.le_refl _⟩ (zqm hQ ((((((((((((((cpP.z (M := M) (a := 17) (b := 153) (n := 12) (by omega)).r 1 160 (by omega)).r 2 8 (by omega)).r 3 8 (by omega)).r 4 8 (by omega)).r 5 8 (by omega)).r 6 4 (by omega)).p 0 6 (by omega)).r 7 12 (by omega)).r 8 12 (by omega)).r 9 12 (by omega)).r 10 12 (by omega)).p 0 11 (by omega)).r 11 160 (by omega)).1)
  · refine zr_aload_n (pc := 0) S dX9_copyFrom_0 rfl ?_
    refine zr_getR (pc := 1) S fX9_copyFrom_9 dX9_copyFrom_1 rfl (Nat.le_of_ble_eq_true rfl) rfl ?_
    refine zr_aload_n (pc := 4) S dX9_copyFrom_4 rfl ?_
    refine zr_getR (pc := 5) S fX9_copyFrom_9 dX9_copyFrom_5 rfl (Nat.le_of_ble_eq_true rfl) rfl ?_
    refine zr_invN (pc := 8) S [zR _, zR _] (m_X11_copyRow _) (List.mem_of_getElem? (i := 9) rfl) kX9_copyFrom_74 dX9_copyFrom_8 (Nat.le_of_ble_eq_true rfl) ⟨Nat.le_of_ble_eq_true rfl, Nat.le_of_ble_eq_true rfl⟩ (us_X11_copyRow rfl rfl (Nat.le_of_ble_eq_true rfl) (Nat.le_of_ble_eq_true rfl) (by decide) ?_)
    dsimp only [zaft, Option.toList, List.cons_append, List.nil_append, Nat.add_zero]
    refine zr_aload_n (pc := 11) S dX9_copyFrom_11 rfl ?_
    refine zr_getR (pc := 12) S fX9_copyFrom_15 dX9_copyFrom_12 rfl (Nat.le_of_ble_eq_true rfl) rfl ?_
    refine zr_aload_n (pc := 15) S dX9_copyFrom_15 rfl ?_
    refine zr_getR (pc := 16) S fX9_copyFrom_15 dX9_copyFrom_16 rfl (Nat.le_of_ble_eq_true rfl) rfl ?_
    refine zr_invN (pc := 19) S [zR _, zR _] (m_X11_copyRow _) (List.mem_of_getElem? (i := 9) rfl) kX9_copyFrom_74 dX9_copyFrom_19 (Nat.le_of_ble_eq_true rfl) ⟨Nat.le_of_ble_eq_true rfl, Nat.le_of_ble_eq_true rfl⟩ (us_X11_copyRow rfl rfl (Nat.le_of_ble_eq_true rfl) (Nat.le_of_ble_eq_true rfl) (by decide) ?_)
    dsimp only [zaft, Option.toList, List.cons_append, List.nil_append, Nat.add_zero]
    refine zr_aload_n (pc := 22) S dX9_copyFrom_22 rfl ?_
    refine zr_getR (pc := 23) S fX9_copyFrom_18 dX9_copyFrom_23 rfl (Nat.le_of_ble_eq_true rfl) rfl ?_
    refine zr_aload_n (pc := 26) S dX9_copyFrom_26 rfl ?_
    refine zr_getR (pc := 27) S fX9_copyFrom_18 dX9_copyFrom_27 rfl (Nat.le_of_ble_eq_true rfl) rfl ?_
    refine zr_invN (pc := 30) S [zR _, zR _] (m_X11_copyRow _) (List.mem_of_getElem? (i := 9) rfl) kX9_copyFrom_74 dX9_copyFrom_30 (Nat.le_of_ble_eq_true rfl) ⟨Nat.le_of_ble_eq_true rfl, Nat.le_of_ble_eq_true rfl⟩ (us_X11_copyRow rfl rfl (Nat.le_of_ble_eq_true rfl) (Nat.le_of_ble_eq_true rfl) (by decide) ?_)
    dsimp only [zaft, Option.toList, List.cons_append, List.nil_append, Nat.add_zero]
    refine zr_aload_n (pc := 33) S dX9_copyFrom_33 rfl ?_
    refine zr_getR (pc := 34) S fX9_copyFrom_21 dX9_copyFrom_34 rfl (Nat.le_of_ble_eq_true rfl) rfl ?_
    refine zr_aload_n (pc := 37) S dX9_copyFrom_37 rfl ?_
    refine zr_getR (pc := 38) S fX9_copyFrom_21 dX9_copyFrom_38 rfl (Nat.le_of_ble_eq_true rfl) rfl ?_
    refine zr_invN (pc := 41) S [zR _, zR _] (m_X11_copyRow _) (List.mem_of_getElem? (i := 9) rfl) kX9_copyFrom_74 dX9_copyFrom_41 (Nat.le_of_ble_eq_true rfl) ⟨Nat.le_of_ble_eq_true rfl, Nat.le_of_ble_eq_true rfl⟩ (us_X11_copyRow rfl rfl (Nat.le_of_ble_eq_true rfl) (Nat.le_of_ble_eq_true rfl) (by decide) ?_)
    dsimp only [zaft, Option.toList, List.cons_append, List.nil_append, Nat.add_zero]
    refine zr_aload_n (pc := 44) S dX9_copyFrom_44 rfl ?_
    refine zr_getR (pc := 45) S fX9_copyFrom_24 dX9_copyFrom_45 rfl (Nat.le_of_ble_eq_true rfl) rfl ?_
    refine zr_aload_n (pc := 48) S dX9_copyFrom_48 rfl ?_
    refine zr_getR (pc := 49) S fX9_copyFrom_24 dX9_copyFrom_49 rfl (Nat.le_of_ble_eq_true rfl) rfl ?_
    refine zr_invN (pc := 52) S [zR _, zR _] (m_X11_copyRow _) (List.mem_of_getElem? (i := 9) rfl) kX9_copyFrom_74 dX9_copyFrom_52 (Nat.le_of_ble_eq_true rfl) ⟨Nat.le_of_ble_eq_true rfl, Nat.le_of_ble_eq_true rfl⟩ (us_X11_copyRow rfl rfl (Nat.le_of_ble_eq_true rfl) (Nat.le_of_ble_eq_true rfl) (by decide) ?_)
    dsimp only [zaft, Option.toList, List.cons_append, List.nil_append, Nat.add_zero]
    refine zr_aload_n (pc := 55) S dX9_copyFrom_55 rfl ?_
    refine zr_getR (pc := 56) S fX9_copyFrom_27 dX9_copyFrom_56 rfl (Nat.le_of_ble_eq_true rfl) rfl ?_
    refine zr_aload_n (pc := 59) S dX9_copyFrom_59 rfl ?_
    refine zr_getR (pc := 60) S fX9_copyFrom_27 dX9_copyFrom_60 rfl (Nat.le_of_ble_eq_true rfl) rfl ?_
    refine zr_invN (pc := 63) S [zR _, zR _] (m_X11_copyRow _) (List.mem_of_getElem? (i := 9) rfl) kX9_copyFrom_74 dX9_copyFrom_63 (Nat.le_of_ble_eq_true rfl) ⟨Nat.le_of_ble_eq_true rfl, Nat.le_of_ble_eq_true rfl⟩ (us_X11_copyRow rfl rfl (Nat.le_of_ble_eq_true rfl) (Nat.le_of_ble_eq_true rfl) (by decide) ?_)
    dsimp only [zaft, Option.toList, List.cons_append, List.nil_append, Nat.add_zero]
    refine zr_aload_n (pc := 66) S dX9_copyFrom_66 rfl ?_
    refine zr_aload_n (pc := 67) S dX9_copyFrom_67 rfl ?_
    refine zr_getI (pc := 68) S fX9_copyFrom_53 dX9_copyFrom_68 rfl (Nat.le_of_ble_eq_true rfl) rfl ?_
    refine zr_putI (pc := 71) S pX9_copyFrom_53 dX9_copyFrom_71 rfl (Nat.le_of_ble_eq_true rfl) rfl ?_
    refine zr_aload_n (pc := 74) S dX9_copyFrom_74 rfl ?_
    refine zr_getR (pc := 75) S fX9_copyFrom_30 dX9_copyFrom_75 rfl (Nat.le_of_ble_eq_true rfl) rfl ?_
    try simp only [zup_k, zup_e, ne_eq, Nat.reduceEqDiff, not_false_eq_true, zup_j]
    refine zr_aload_n (pc := 78) S dX9_copyFrom_78 rfl ?_
    refine zr_getR (pc := 79) S fX9_copyFrom_30 dX9_copyFrom_79 rfl (Nat.le_of_ble_eq_true rfl) rfl ?_
    try simp only [zup_k, zup_e, ne_eq, Nat.reduceEqDiff, not_false_eq_true, zup_j]
    refine zr_invN (pc := 82) S [zR _, zR _] (m_X11_copyRow _) (List.mem_of_getElem? (i := 9) rfl) kX9_copyFrom_74 dX9_copyFrom_82 (Nat.le_of_ble_eq_true rfl) ⟨Nat.le_of_ble_eq_true rfl, Nat.le_of_ble_eq_true rfl⟩ (us_X11_copyRow rfl rfl (Nat.le_of_ble_eq_true rfl) (Nat.le_of_ble_eq_true rfl) (by decide) ?_)
    dsimp only [zaft, Option.toList, List.cons_append, List.nil_append, Nat.add_zero]
    refine zr_aload_n (pc := 85) S dX9_copyFrom_85 rfl ?_
    refine zr_getR (pc := 86) S fX9_copyFrom_33 dX9_copyFrom_86 rfl (Nat.le_of_ble_eq_true rfl) rfl ?_
    try simp only [zup_k, zup_e, ne_eq, Nat.reduceEqDiff, not_false_eq_true, zup_j]
    refine zr_aload_n (pc := 89) S dX9_copyFrom_89 rfl ?_
    refine zr_getR (pc := 90) S fX9_copyFrom_33 dX9_copyFrom_90 rfl (Nat.le_of_ble_eq_true rfl) rfl ?_
    try simp only [zup_k, zup_e, ne_eq, Nat.reduceEqDiff, not_false_eq_true, zup_j]
    refine zr_invN (pc := 93) S [zR _, zR _] (m_X11_copyRow _) (List.mem_of_getElem? (i := 9) rfl) kX9_copyFrom_74 dX9_copyFrom_93 (Nat.le_of_ble_eq_true rfl) ⟨Nat.le_of_ble_eq_true rfl, Nat.le_of_ble_eq_true rfl⟩ (us_X11_copyRow rfl rfl (Nat.le_of_ble_eq_true rfl) (Nat.le_of_ble_eq_true rfl) (by decide) ?_)
    dsimp only [zaft, Option.toList, List.cons_append, List.nil_append, Nat.add_zero]
    refine zr_aload_n (pc := 96) S dX9_copyFrom_96 rfl ?_
    refine zr_getR (pc := 97) S fX9_copyFrom_36 dX9_copyFrom_97 rfl (Nat.le_of_ble_eq_true rfl) rfl ?_
    try simp only [zup_k, zup_e, ne_eq, Nat.reduceEqDiff, not_false_eq_true, zup_j]
    refine zr_aload_n (pc := 100) S dX9_copyFrom_100 rfl ?_
    refine zr_getR (pc := 101) S fX9_copyFrom_36 dX9_copyFrom_101 rfl (Nat.le_of_ble_eq_true rfl) rfl ?_
    try simp only [zup_k, zup_e, ne_eq, Nat.reduceEqDiff, not_false_eq_true, zup_j]
    refine zr_invN (pc := 104) S [zR _, zR _] (m_X11_copyRow _) (List.mem_of_getElem? (i := 9) rfl) kX9_copyFrom_74 dX9_copyFrom_104 (Nat.le_of_ble_eq_true rfl) ⟨Nat.le_of_ble_eq_true rfl, Nat.le_of_ble_eq_true rfl⟩ (us_X11_copyRow rfl rfl (Nat.le_of_ble_eq_true rfl) (Nat.le_of_ble_eq_true rfl) (by decide) ?_)
    dsimp only [zaft, Option.toList, List.cons_append, List.nil_append, Nat.add_zero]
    refine zr_aload_n (pc := 107) S dX9_copyFrom_107 rfl ?_
    refine zr_getR (pc := 108) S fX9_copyFrom_39 dX9_copyFrom_108 rfl (Nat.le_of_ble_eq_true rfl) rfl ?_
    try simp only [zup_k, zup_e, ne_eq, Nat.reduceEqDiff, not_false_eq_true, zup_j]
    refine zr_aload_n (pc := 111) S dX9_copyFrom_111 rfl ?_
    refine zr_getR (pc := 112) S fX9_copyFrom_39 dX9_copyFrom_112 rfl (Nat.le_of_ble_eq_true rfl) rfl ?_
    try simp only [zup_k, zup_e, ne_eq, Nat.reduceEqDiff, not_false_eq_true, zup_j]
    refine zr_invN (pc := 115) S [zR _, zR _] (m_X11_copyRow _) (List.mem_of_getElem? (i := 9) rfl) kX9_copyFrom_74 dX9_copyFrom_115 (Nat.le_of_ble_eq_true rfl) ⟨Nat.le_of_ble_eq_true rfl, Nat.le_of_ble_eq_true rfl⟩ (us_X11_copyRow rfl rfl (Nat.le_of_ble_eq_true rfl) (Nat.le_of_ble_eq_true rfl) (by decide) ?_)
    dsimp only [zaft, Option.toList, List.cons_append, List.nil_append, Nat.add_zero]
    refine zr_aload_n (pc := 118) S dX9_copyFrom_118 rfl ?_
    refine zr_aload_n (pc := 119) S dX9_copyFrom_119 rfl ?_
    refine zr_getI (pc := 120) S fX9_copyFrom_65 dX9_copyFrom_120 rfl (Nat.le_of_ble_eq_true rfl) rfl ?_
    try simp only [zup_k, zup_e, ne_eq, Nat.reduceEqDiff, not_false_eq_true, zup_j]
    refine zr_putI (pc := 123) S pX9_copyFrom_65 dX9_copyFrom_123 rfl (Nat.le_of_ble_eq_true rfl) rfl ?_
    refine zr_aload_n (pc := 126) S dX9_copyFrom_126 rfl ?_
    refine zr_getR (pc := 127) S fX9_copyFrom_42 dX9_copyFrom_127 rfl (Nat.le_of_ble_eq_true rfl) rfl ?_
    try simp only [zup_k, zup_e, ne_eq, Nat.reduceEqDiff, not_false_eq_true, zup_j]
    refine zr_aload_n (pc := 130) S dX9_copyFrom_130 rfl ?_
    refine zr_getR (pc := 131) S fX9_copyFrom_42 dX9_copyFrom_131 rfl (Nat.le_of_ble_eq_true rfl) rfl ?_
    try simp only [zup_k, zup_e, ne_eq, Nat.reduceEqDiff, not_false_eq_true, zup_j]
    refine zr_invN (pc := 134) S [zR _, zR _] (m_X11_copyRow _) (List.mem_of_getElem? (i := 9) rfl) kX9_copyFrom_74 dX9_copyFrom_134 (Nat.le_of_ble_eq_true rfl) ⟨Nat.le_of_ble_eq_true rfl, Nat.le_of_ble_eq_true rfl⟩ (us_X11_copyRow rfl rfl (Nat.le_of_ble_eq_true rfl) (Nat.le_of_ble_eq_true rfl) (by decide) ?_)
    dsimp only [zaft, Option.toList, List.cons_append, List.nil_append, Nat.add_zero]
    exact zr_vret (pc := 137) S dX9_copyFrom_137 rfl ⟨Nat.le_refl _, Nat.le_refl _⟩ (zqm hQ ((((((((((((((cpP.z (M := M) (a := 83) (b := 17) (n := 12) (by omega)).r 1 160 (by omega)).r 2 8 (by omega)).r 3 8 (by omega)).r 4 8 (by omega)).r 5 8 (by omega)).r 6 4 (by omega)).p 0 6 (by omega)).r 7 12 (by omega)).r 8 12 (by omega)).r 9 12 (by omega)).r 10 12 (by omega)).p 0 11 (by omega)).r 11 160 (by omega)).1)
  · refine zr_aload_n (pc := 0) S dX9_copyFrom_0 rfl ?_
    refine zr_getR (pc := 1) S fX9_copyFrom_9 dX9_copyFrom_1 rfl (Nat.le_of_ble_eq_true rfl) rfl ?_
    refine zr_aload_n (pc := 4) S dX9_copyFrom_4 rfl ?_
    refine zr_getR (pc := 5) S fX9_copyFrom_9 dX9_copyFrom_5 rfl (Nat.le_of_ble_eq_true rfl) rfl ?_
    refine zr_invN (pc := 8) S [zR _, zR _] (m_X11_copyRow _) (List.mem_of_getElem? (i := 9) rfl) kX9_copyFrom_74 dX9_copyFrom_8 (Nat.le_of_ble_eq_true rfl) ⟨Nat.le_of_ble_eq_true rfl, Nat.le_of_ble_eq_true rfl⟩ (us_X11_copyRow rfl rfl (Nat.le_of_ble_eq_true rfl) (Nat.le_of_ble_eq_true rfl) (by decide) ?_)
    dsimp only [zaft, Option.toList, List.cons_append, List.nil_append, Nat.add_zero]
    refine zr_aload_n (pc := 11) S dX9_copyFrom_11 rfl ?_
    refine zr_getR (pc := 12) S fX9_copyFrom_15 dX9_copyFrom_12 rfl (Nat.le_of_ble_eq_true rfl) rfl ?_
    refine zr_aload_n (pc := 15) S dX9_copyFrom_15 rfl ?_
    refine zr_getR (pc := 16) S fX9_copyFrom_15 dX9_copyFrom_16 rfl (Nat.le_of_ble_eq_true rfl) rfl ?_
    refine zr_invN (pc := 19) S [zR _, zR _] (m_X11_copyRow _) (List.mem_of_getElem? (i := 9) rfl) kX9_copyFrom_74 dX9_copyFrom_19 (Nat.le_of_ble_eq_true rfl) ⟨Nat.le_of_ble_eq_true rfl, Nat.le_of_ble_eq_true rfl⟩ (us_X11_copyRow rfl rfl (Nat.le_of_ble_eq_true rfl) (Nat.le_of_ble_eq_true rfl) (by decide) ?_)
    dsimp only [zaft, Option.toList, List.cons_append, List.nil_append, Nat.add_zero]
    refine zr_aload_n (pc := 22) S dX9_copyFrom_22 rfl ?_
    refine zr_getR (pc := 23) S fX9_copyFrom_18 dX9_copyFrom_23 rfl (Nat.le_of_ble_eq_true rfl) rfl ?_
    refine zr_aload_n (pc := 26) S dX9_copyFrom_26 rfl ?_
    refine zr_getR (pc := 27) S fX9_copyFrom_18 dX9_copyFrom_27 rfl (Nat.le_of_ble_eq_true rfl) rfl ?_
    refine zr_invN (pc := 30) S [zR _, zR _] (m_X11_copyRow _) (List.mem_of_getElem? (i := 9) rfl) kX9_copyFrom_74 dX9_copyFrom_30 (Nat.le_of_ble_eq_true rfl) ⟨Nat.le_of_ble_eq_true rfl, Nat.le_of_ble_eq_true rfl⟩ (us_X11_copyRow rfl rfl (Nat.le_of_ble_eq_true rfl) (Nat.le_of_ble_eq_true rfl) (by decide) ?_)
    dsimp only [zaft, Option.toList, List.cons_append, List.nil_append, Nat.add_zero]
    refine zr_aload_n (pc := 33) S dX9_copyFrom_33 rfl ?_
    refine zr_getR (pc := 34) S fX9_copyFrom_21 dX9_copyFrom_34 rfl (Nat.le_of_ble_eq_true rfl) rfl ?_
    refine zr_aload_n (pc := 37) S dX9_copyFrom_37 rfl ?_
    refine zr_getR (pc := 38) S fX9_copyFrom_21 dX9_copyFrom_38 rfl (Nat.le_of_ble_eq_true rfl) rfl ?_
    refine zr_invN (pc := 41) S [zR _, zR _] (m_X11_copyRow _) (List.mem_of_getElem? (i := 9) rfl) kX9_copyFrom_74 dX9_copyFrom_41 (Nat.le_of_ble_eq_true rfl) ⟨Nat.le_of_ble_eq_true rfl, Nat.le_of_ble_eq_true rfl⟩ (us_X11_copyRow rfl rfl (Nat.le_of_ble_eq_true rfl) (Nat.le_of_ble_eq_true rfl) (by decide) ?_)
    dsimp only [zaft, Option.toList, List.cons_append, List.nil_append, Nat.add_zero]
    refine zr_aload_n (pc := 44) S dX9_copyFrom_44 rfl ?_
    refine zr_getR (pc := 45) S fX9_copyFrom_24 dX9_copyFrom_45 rfl (Nat.le_of_ble_eq_true rfl) rfl ?_
    refine zr_aload_n (pc := 48) S dX9_copyFrom_48 rfl ?_
    refine zr_getR (pc := 49) S fX9_copyFrom_24 dX9_copyFrom_49 rfl (Nat.le_of_ble_eq_true rfl) rfl ?_
    refine zr_invN (pc := 52) S [zR _, zR _] (m_X11_copyRow _) (List.mem_of_getElem? (i := 9) rfl) kX9_copyFrom_74 dX9_copyFrom_52 (Nat.le_of_ble_eq_true rfl) ⟨Nat.le_of_ble_eq_true rfl, Nat.le_of_ble_eq_true rfl⟩ (us_X11_copyRow rfl rfl (Nat.le_of_ble_eq_true rfl) (Nat.le_of_ble_eq_true rfl) (by decide) ?_)
    dsimp only [zaft, Option.toList, List.cons_append, List.nil_append, Nat.add_zero]
    refine zr_aload_n (pc := 55) S dX9_copyFrom_55 rfl ?_
    refine zr_getR (pc := 56) S fX9_copyFrom_27 dX9_copyFrom_56 rfl (Nat.le_of_ble_eq_true rfl) rfl ?_
    refine zr_aload_n (pc := 59) S dX9_copyFrom_59 rfl ?_
    refine zr_getR (pc := 60) S fX9_copyFrom_27 dX9_copyFrom_60 rfl (Nat.le_of_ble_eq_true rfl) rfl ?_
    refine zr_invN (pc := 63) S [zR _, zR _] (m_X11_copyRow _) (List.mem_of_getElem? (i := 9) rfl) kX9_copyFrom_74 dX9_copyFrom_63 (Nat.le_of_ble_eq_true rfl) ⟨Nat.le_of_ble_eq_true rfl, Nat.le_of_ble_eq_true rfl⟩ (us_X11_copyRow rfl rfl (Nat.le_of_ble_eq_true rfl) (Nat.le_of_ble_eq_true rfl) (by decide) ?_)
    dsimp only [zaft, Option.toList, List.cons_append, List.nil_append, Nat.add_zero]
    refine zr_aload_n (pc := 66) S dX9_copyFrom_66 rfl ?_
    refine zr_aload_n (pc := 67) S dX9_copyFrom_67 rfl ?_
    refine zr_getI (pc := 68) S fX9_copyFrom_53 dX9_copyFrom_68 rfl (Nat.le_of_ble_eq_true rfl) rfl ?_
    refine zr_putI (pc := 71) S pX9_copyFrom_53 dX9_copyFrom_71 rfl (Nat.le_of_ble_eq_true rfl) rfl ?_
    refine zr_aload_n (pc := 74) S dX9_copyFrom_74 rfl ?_
    refine zr_getR (pc := 75) S fX9_copyFrom_30 dX9_copyFrom_75 rfl (Nat.le_of_ble_eq_true rfl) rfl ?_
    try simp only [zup_k, zup_e, ne_eq, Nat.reduceEqDiff, not_false_eq_true, zup_j]
    refine zr_aload_n (pc := 78) S dX9_copyFrom_78 rfl ?_
    refine zr_getR (pc := 79) S fX9_copyFrom_30 dX9_copyFrom_79 rfl (Nat.le_of_ble_eq_true rfl) rfl ?_
    try simp only [zup_k, zup_e, ne_eq, Nat.reduceEqDiff, not_false_eq_true, zup_j]
    refine zr_invN (pc := 82) S [zR _, zR _] (m_X11_copyRow _) (List.mem_of_getElem? (i := 9) rfl) kX9_copyFrom_74 dX9_copyFrom_82 (Nat.le_of_ble_eq_true rfl) ⟨Nat.le_of_ble_eq_true rfl, Nat.le_of_ble_eq_true rfl⟩ (us_X11_copyRow rfl rfl (Nat.le_of_ble_eq_true rfl) (Nat.le_of_ble_eq_true rfl) (by decide) ?_)
    dsimp only [zaft, Option.toList, List.cons_append, List.nil_append, Nat.add_zero]
    refine zr_aload_n (pc := 85) S dX9_copyFrom_85 rfl ?_
    refine zr_getR (pc := 86) S fX9_copyFrom_33 dX9_copyFrom_86 rfl (Nat.le_of_ble_eq_true rfl) rfl ?_
    try simp only [zup_k, zup_e, ne_eq, Nat.reduceEqDiff, not_false_eq_true, zup_j]
    refine zr_aload_n (pc := 89) S dX9_copyFrom_89 rfl ?_
    refine zr_getR (pc := 90) S fX9_copyFrom_33 dX9_copyFrom_90 rfl (Nat.le_of_ble_eq_true rfl) rfl ?_
    try simp only [zup_k, zup_e, ne_eq, Nat.reduceEqDiff, not_false_eq_true, zup_j]
    refine zr_invN (pc := 93) S [zR _, zR _] (m_X11_copyRow _) (List.mem_of_getElem? (i := 9) rfl) kX9_copyFrom_74 dX9_copyFrom_93 (Nat.le_of_ble_eq_true rfl) ⟨Nat.le_of_ble_eq_true rfl, Nat.le_of_ble_eq_true rfl⟩ (us_X11_copyRow rfl rfl (Nat.le_of_ble_eq_true rfl) (Nat.le_of_ble_eq_true rfl) (by decide) ?_)
    dsimp only [zaft, Option.toList, List.cons_append, List.nil_append, Nat.add_zero]
    refine zr_aload_n (pc := 96) S dX9_copyFrom_96 rfl ?_
    refine zr_getR (pc := 97) S fX9_copyFrom_36 dX9_copyFrom_97 rfl (Nat.le_of_ble_eq_true rfl) rfl ?_
    try simp only [zup_k, zup_e, ne_eq, Nat.reduceEqDiff, not_false_eq_true, zup_j]
    refine zr_aload_n (pc := 100) S dX9_copyFrom_100 rfl ?_
    refine zr_getR (pc := 101) S fX9_copyFrom_36 dX9_copyFrom_101 rfl (Nat.le_of_ble_eq_true rfl) rfl ?_
    try simp only [zup_k, zup_e, ne_eq, Nat.reduceEqDiff, not_false_eq_true, zup_j]
    refine zr_invN (pc := 104) S [zR _, zR _] (m_X11_copyRow _) (List.mem_of_getElem? (i := 9) rfl) kX9_copyFrom_74 dX9_copyFrom_104 (Nat.le_of_ble_eq_true rfl) ⟨Nat.le_of_ble_eq_true rfl, Nat.le_of_ble_eq_true rfl⟩ (us_X11_copyRow rfl rfl (Nat.le_of_ble_eq_true rfl) (Nat.le_of_ble_eq_true rfl) (by decide) ?_)
    dsimp only [zaft, Option.toList, List.cons_append, List.nil_append, Nat.add_zero]
    refine zr_aload_n (pc := 107) S dX9_copyFrom_107 rfl ?_
    refine zr_getR (pc := 108) S fX9_copyFrom_39 dX9_copyFrom_108 rfl (Nat.le_of_ble_eq_true rfl) rfl ?_
    try simp only [zup_k, zup_e, ne_eq, Nat.reduceEqDiff, not_false_eq_true, zup_j]
    refine zr_aload_n (pc := 111) S dX9_copyFrom_111 rfl ?_
    refine zr_getR (pc := 112) S fX9_copyFrom_39 dX9_copyFrom_112 rfl (Nat.le_of_ble_eq_true rfl) rfl ?_
    try simp only [zup_k, zup_e, ne_eq, Nat.reduceEqDiff, not_false_eq_true, zup_j]
    refine zr_invN (pc := 115) S [zR _, zR _] (m_X11_copyRow _) (List.mem_of_getElem? (i := 9) rfl) kX9_copyFrom_74 dX9_copyFrom_115 (Nat.le_of_ble_eq_true rfl) ⟨Nat.le_of_ble_eq_true rfl, Nat.le_of_ble_eq_true rfl⟩ (us_X11_copyRow rfl rfl (Nat.le_of_ble_eq_true rfl) (Nat.le_of_ble_eq_true rfl) (by decide) ?_)
    dsimp only [zaft, Option.toList, List.cons_append, List.nil_append, Nat.add_zero]
    refine zr_aload_n (pc := 118) S dX9_copyFrom_118 rfl ?_
    refine zr_aload_n (pc := 119) S dX9_copyFrom_119 rfl ?_
    refine zr_getI (pc := 120) S fX9_copyFrom_65 dX9_copyFrom_120 rfl (Nat.le_of_ble_eq_true rfl) rfl ?_
    try simp only [zup_k, zup_e, ne_eq, Nat.reduceEqDiff, not_false_eq_true, zup_j]
    refine zr_putI (pc := 123) S pX9_copyFrom_65 dX9_copyFrom_123 rfl (Nat.le_of_ble_eq_true rfl) rfl ?_
    refine zr_aload_n (pc := 126) S dX9_copyFrom_126 rfl ?_
    refine zr_getR (pc := 127) S fX9_copyFrom_42 dX9_copyFrom_127 rfl (Nat.le_of_ble_eq_true rfl) rfl ?_
    try simp only [zup_k, zup_e, ne_eq, Nat.reduceEqDiff, not_false_eq_true, zup_j]
    refine zr_aload_n (pc := 130) S dX9_copyFrom_130 rfl ?_
    refine zr_getR (pc := 131) S fX9_copyFrom_42 dX9_copyFrom_131 rfl (Nat.le_of_ble_eq_true rfl) rfl ?_
    try simp only [zup_k, zup_e, ne_eq, Nat.reduceEqDiff, not_false_eq_true, zup_j]
    refine zr_invN (pc := 134) S [zR _, zR _] (m_X11_copyRow _) (List.mem_of_getElem? (i := 9) rfl) kX9_copyFrom_74 dX9_copyFrom_134 (Nat.le_of_ble_eq_true rfl) ⟨Nat.le_of_ble_eq_true rfl, Nat.le_of_ble_eq_true rfl⟩ (us_X11_copyRow rfl rfl (Nat.le_of_ble_eq_true rfl) (Nat.le_of_ble_eq_true rfl) (by decide) ?_)
    dsimp only [zaft, Option.toList, List.cons_append, List.nil_append, Nat.add_zero]
    exact zr_vret (pc := 137) S dX9_copyFrom_137 rfl ⟨Nat.le_refl _, Nat.le_refl _⟩ (zqm hQ ((((((((((((((cpP.z (M := M) (a := 118) (b := 17) (n := 12) (by omega)).r 1 160 (by omega)).r 2 8 (by omega)).r 3 8 (by omega)).r 4 8 (by omega)).r 5 8 (by omega)).r 6 4 (by omega)).p 0 6 (by omega)).r 7 12 (by omega)).r 8 12 (by omega)).r 9 12 (by omega)).r 10 12 (by omega)).p 0 11 (by omega)).r 11 160 (by omega)).1)
  · refine zr_aload_n (pc := 0) S dX9_copyFrom_0 rfl ?_
    refine zr_getR (pc := 1) S fX9_copyFrom_9 dX9_copyFrom_1 rfl (Nat.le_of_ble_eq_true rfl) rfl ?_
    refine zr_aload_n (pc := 4) S dX9_copyFrom_4 rfl ?_
    refine zr_getR (pc := 5) S fX9_copyFrom_9 dX9_copyFrom_5 rfl (Nat.le_of_ble_eq_true rfl) rfl ?_
    refine zr_invN (pc := 8) S [zR _, zR _] (m_X11_copyRow _) (List.mem_of_getElem? (i := 9) rfl) kX9_copyFrom_74 dX9_copyFrom_8 (Nat.le_of_ble_eq_true rfl) ⟨Nat.le_of_ble_eq_true rfl, Nat.le_of_ble_eq_true rfl⟩ (us_X11_copyRow rfl rfl (Nat.le_of_ble_eq_true rfl) (Nat.le_of_ble_eq_true rfl) (by decide) ?_)
    dsimp only [zaft, Option.toList, List.cons_append, List.nil_append, Nat.add_zero]
    refine zr_aload_n (pc := 11) S dX9_copyFrom_11 rfl ?_
    refine zr_getR (pc := 12) S fX9_copyFrom_15 dX9_copyFrom_12 rfl (Nat.le_of_ble_eq_true rfl) rfl ?_
    refine zr_aload_n (pc := 15) S dX9_copyFrom_15 rfl ?_
    refine zr_getR (pc := 16) S fX9_copyFrom_15 dX9_copyFrom_16 rfl (Nat.le_of_ble_eq_true rfl) rfl ?_
    refine zr_invN (pc := 19) S [zR _, zR _] (m_X11_copyRow _) (List.mem_of_getElem? (i := 9) rfl) kX9_copyFrom_74 dX9_copyFrom_19 (Nat.le_of_ble_eq_true rfl) ⟨Nat.le_of_ble_eq_true rfl, Nat.le_of_ble_eq_true rfl⟩ (us_X11_copyRow rfl rfl (Nat.le_of_ble_eq_true rfl) (Nat.le_of_ble_eq_true rfl) (by decide) ?_)
    dsimp only [zaft, Option.toList, List.cons_append, List.nil_append, Nat.add_zero]
    refine zr_aload_n (pc := 22) S dX9_copyFrom_22 rfl ?_
    refine zr_getR (pc := 23) S fX9_copyFrom_18 dX9_copyFrom_23 rfl (Nat.le_of_ble_eq_true rfl) rfl ?_
    refine zr_aload_n (pc := 26) S dX9_copyFrom_26 rfl ?_
    refine zr_getR (pc := 27) S fX9_copyFrom_18 dX9_copyFrom_27 rfl (Nat.le_of_ble_eq_true rfl) rfl ?_
    refine zr_invN (pc := 30) S [zR _, zR _] (m_X11_copyRow _) (List.mem_of_getElem? (i := 9) rfl) kX9_copyFrom_74 dX9_copyFrom_30 (Nat.le_of_ble_eq_true rfl) ⟨Nat.le_of_ble_eq_true rfl, Nat.le_of_ble_eq_true rfl⟩ (us_X11_copyRow rfl rfl (Nat.le_of_ble_eq_true rfl) (Nat.le_of_ble_eq_true rfl) (by decide) ?_)
    dsimp only [zaft, Option.toList, List.cons_append, List.nil_append, Nat.add_zero]
    refine zr_aload_n (pc := 33) S dX9_copyFrom_33 rfl ?_
    refine zr_getR (pc := 34) S fX9_copyFrom_21 dX9_copyFrom_34 rfl (Nat.le_of_ble_eq_true rfl) rfl ?_
    refine zr_aload_n (pc := 37) S dX9_copyFrom_37 rfl ?_
    refine zr_getR (pc := 38) S fX9_copyFrom_21 dX9_copyFrom_38 rfl (Nat.le_of_ble_eq_true rfl) rfl ?_
    refine zr_invN (pc := 41) S [zR _, zR _] (m_X11_copyRow _) (List.mem_of_getElem? (i := 9) rfl) kX9_copyFrom_74 dX9_copyFrom_41 (Nat.le_of_ble_eq_true rfl) ⟨Nat.le_of_ble_eq_true rfl, Nat.le_of_ble_eq_true rfl⟩ (us_X11_copyRow rfl rfl (Nat.le_of_ble_eq_true rfl) (Nat.le_of_ble_eq_true rfl) (by decide) ?_)
    dsimp only [zaft, Option.toList, List.cons_append, List.nil_append, Nat.add_zero]
    refine zr_aload_n (pc := 44) S dX9_copyFrom_44 rfl ?_
    refine zr_getR (pc := 45) S fX9_copyFrom_24 dX9_copyFrom_45 rfl (Nat.le_of_ble_eq_true rfl) rfl ?_
    refine zr_aload_n (pc := 48) S dX9_copyFrom_48 rfl ?_
    refine zr_getR (pc := 49) S fX9_copyFrom_24 dX9_copyFrom_49 rfl (Nat.le_of_ble_eq_true rfl) rfl ?_
    refine zr_invN (pc := 52) S [zR _, zR _] (m_X11_copyRow _) (List.mem_of_getElem? (i := 9) rfl) kX9_copyFrom_74 dX9_copyFrom_52 (Nat.le_of_ble_eq_true rfl) ⟨Nat.le_of_ble_eq_true rfl, Nat.le_of_ble_eq_true rfl⟩ (us_X11_copyRow rfl rfl (Nat.le_of_ble_eq_true rfl) (Nat.le_of_ble_eq_true rfl) (by decide) ?_)
    dsimp only [zaft, Option.toList, List.cons_append, List.nil_append, Nat.add_zero]
    refine zr_aload_n (pc := 55) S dX9_copyFrom_55 rfl ?_
    refine zr_getR (pc := 56) S fX9_copyFrom_27 dX9_copyFrom_56 rfl (Nat.le_of_ble_eq_true rfl) rfl ?_
    refine zr_aload_n (pc := 59) S dX9_copyFrom_59 rfl ?_
    refine zr_getR (pc := 60) S fX9_copyFrom_27 dX9_copyFrom_60 rfl (Nat.le_of_ble_eq_true rfl) rfl ?_
    refine zr_invN (pc := 63) S [zR _, zR _] (m_X11_copyRow _) (List.mem_of_getElem? (i := 9) rfl) kX9_copyFrom_74 dX9_copyFrom_63 (Nat.le_of_ble_eq_true rfl) ⟨Nat.le_of_ble_eq_true rfl, Nat.le_of_ble_eq_true rfl⟩ (us_X11_copyRow rfl rfl (Nat.le_of_ble_eq_true rfl) (Nat.le_of_ble_eq_true rfl) (by decide) ?_)
    dsimp only [zaft, Option.toList, List.cons_append, List.nil_append, Nat.add_zero]
    refine zr_aload_n (pc := 66) S dX9_copyFrom_66 rfl ?_
    refine zr_aload_n (pc := 67) S dX9_copyFrom_67 rfl ?_
    refine zr_getI (pc := 68) S fX9_copyFrom_53 dX9_copyFrom_68 rfl (Nat.le_of_ble_eq_true rfl) rfl ?_
    refine zr_putI (pc := 71) S pX9_copyFrom_53 dX9_copyFrom_71 rfl (Nat.le_of_ble_eq_true rfl) rfl ?_
    refine zr_aload_n (pc := 74) S dX9_copyFrom_74 rfl ?_
    refine zr_getR (pc := 75) S fX9_copyFrom_30 dX9_copyFrom_75 rfl (Nat.le_of_ble_eq_true rfl) rfl ?_
    try simp only [zup_k, zup_e, ne_eq, Nat.reduceEqDiff, not_false_eq_true, zup_j]
    refine zr_aload_n (pc := 78) S dX9_copyFrom_78 rfl ?_
    refine zr_getR (pc := 79) S fX9_copyFrom_30 dX9_copyFrom_79 rfl (Nat.le_of_ble_eq_true rfl) rfl ?_
    try simp only [zup_k, zup_e, ne_eq, Nat.reduceEqDiff, not_false_eq_true, zup_j]
    refine zr_invN (pc := 82) S [zR _, zR _] (m_X11_copyRow _) (List.mem_of_getElem? (i := 9) rfl) kX9_copyFrom_74 dX9_copyFrom_82 (Nat.le_of_ble_eq_true rfl) ⟨Nat.le_of_ble_eq_true rfl, Nat.le_of_ble_eq_true rfl⟩ (us_X11_copyRow rfl rfl (Nat.le_of_ble_eq_true rfl) (Nat.le_of_ble_eq_true rfl) (by decide) ?_)
    dsimp only [zaft, Option.toList, List.cons_append, List.nil_append, Nat.add_zero]
    refine zr_aload_n (pc := 85) S dX9_copyFrom_85 rfl ?_
    refine zr_getR (pc := 86) S fX9_copyFrom_33 dX9_copyFrom_86 rfl (Nat.le_of_ble_eq_true rfl) rfl ?_
    try simp only [zup_k, zup_e, ne_eq, Nat.reduceEqDiff, not_false_eq_true, zup_j]
    refine zr_aload_n (pc := 89) S dX9_copyFrom_89 rfl ?_
    refine zr_getR (pc := 90) S fX9_copyFrom_33 dX9_copyFrom_90 rfl (Nat.le_of_ble_eq_true rfl) rfl ?_
    try simp only [zup_k, zup_e, ne_eq, Nat.reduceEqDiff, not_false_eq_true, zup_j]
    refine zr_invN (pc := 93) S [zR _, zR _] (m_X11_copyRow _) (List.mem_of_getElem? (i := 9) rfl) kX9_copyFrom_74 dX9_copyFrom_93 (Nat.le_of_ble_eq_true rfl) ⟨Nat.le_of_ble_eq_true rfl, Nat.le_of_ble_eq_true rfl⟩ (us_X11_copyRow rfl rfl (Nat.le_of_ble_eq_true rfl) (Nat.le_of_ble_eq_true rfl) (by decide) ?_)
    dsimp only [zaft, Option.toList, List.cons_append, List.nil_append, Nat.add_zero]
    refine zr_aload_n (pc := 96) S dX9_copyFrom_96 rfl ?_
    refine zr_getR (pc := 97) S fX9_copyFrom_36 dX9_copyFrom_97 rfl (Nat.le_of_ble_eq_true rfl) rfl ?_
    try simp only [zup_k, zup_e, ne_eq, Nat.reduceEqDiff, not_false_eq_true, zup_j]
    refine zr_aload_n (pc := 100) S dX9_copyFrom_100 rfl ?_
    refine zr_getR (pc := 101) S fX9_copyFrom_36 dX9_copyFrom_101 rfl (Nat.le_of_ble_eq_true rfl) rfl ?_
    try simp only [zup_k, zup_e, ne_eq, Nat.reduceEqDiff, not_false_eq_true, zup_j]
    refine zr_invN (pc := 104) S [zR _, zR _] (m_X11_copyRow _) (List.mem_of_getElem? (i := 9) rfl) kX9_copyFrom_74 dX9_copyFrom_104 (Nat.le_of_ble_eq_true rfl) ⟨Nat.le_of_ble_eq_true rfl, Nat.le_of_ble_eq_true rfl⟩ (us_X11_copyRow rfl rfl (Nat.le_of_ble_eq_true rfl) (Nat.le_of_ble_eq_true rfl) (by decide) ?_)
    dsimp only [zaft, Option.toList, List.cons_append, List.nil_append, Nat.add_zero]
    refine zr_aload_n (pc := 107) S dX9_copyFrom_107 rfl ?_
    refine zr_getR (pc := 108) S fX9_copyFrom_39 dX9_copyFrom_108 rfl (Nat.le_of_ble_eq_true rfl) rfl ?_
    try simp only [zup_k, zup_e, ne_eq, Nat.reduceEqDiff, not_false_eq_true, zup_j]
    refine zr_aload_n (pc := 111) S dX9_copyFrom_111 rfl ?_
    refine zr_getR (pc := 112) S fX9_copyFrom_39 dX9_copyFrom_112 rfl (Nat.le_of_ble_eq_true rfl) rfl ?_
    try simp only [zup_k, zup_e, ne_eq, Nat.reduceEqDiff, not_false_eq_true, zup_j]
    refine zr_invN (pc := 115) S [zR _, zR _] (m_X11_copyRow _) (List.mem_of_getElem? (i := 9) rfl) kX9_copyFrom_74 dX9_copyFrom_115 (Nat.le_of_ble_eq_true rfl) ⟨Nat.le_of_ble_eq_true rfl, Nat.le_of_ble_eq_true rfl⟩ (us_X11_copyRow rfl rfl (Nat.le_of_ble_eq_true rfl) (Nat.le_of_ble_eq_true rfl) (by decide) ?_)
    dsimp only [zaft, Option.toList, List.cons_append, List.nil_append, Nat.add_zero]
    refine zr_aload_n (pc := 118) S dX9_copyFrom_118 rfl ?_
    refine zr_aload_n (pc := 119) S dX9_copyFrom_119 rfl ?_
    refine zr_getI (pc := 120) S fX9_copyFrom_65 dX9_copyFrom_120 rfl (Nat.le_of_ble_eq_true rfl) rfl ?_
    try simp only [zup_k, zup_e, ne_eq, Nat.reduceEqDiff, not_false_eq_true, zup_j]
    refine zr_putI (pc := 123) S pX9_copyFrom_65 dX9_copyFrom_123 rfl (Nat.le_of_ble_eq_true rfl) rfl ?_
    refine zr_aload_n (pc := 126) S dX9_copyFrom_126 rfl ?_
    refine zr_getR (pc := 127) S fX9_copyFrom_42 dX9_copyFrom_127 rfl (Nat.le_of_ble_eq_true rfl) rfl ?_
    try simp only [zup_k, zup_e, ne_eq, Nat.reduceEqDiff, not_false_eq_true, zup_j]
    refine zr_aload_n (pc := 130) S dX9_copyFrom_130 rfl ?_
    refine zr_getR (pc := 131) S fX9_copyFrom_42 dX9_copyFrom_131 rfl (Nat.le_of_ble_eq_true rfl) rfl ?_
    try simp only [zup_k, zup_e, ne_eq, Nat.reduceEqDiff, not_false_eq_true, zup_j]
    refine zr_invN (pc := 134) S [zR _, zR _] (m_X11_copyRow _) (List.mem_of_getElem? (i := 9) rfl) kX9_copyFrom_74 dX9_copyFrom_134 (Nat.le_of_ble_eq_true rfl) ⟨Nat.le_of_ble_eq_true rfl, Nat.le_of_ble_eq_true rfl⟩ (us_X11_copyRow rfl rfl (Nat.le_of_ble_eq_true rfl) (Nat.le_of_ble_eq_true rfl) (by decide) ?_)
    dsimp only [zaft, Option.toList, List.cons_append, List.nil_append, Nat.add_zero]
    exact zr_vret (pc := 137) S dX9_copyFrom_137 rfl ⟨Nat.le_refl _, Nat.le_refl _⟩ (zqm hQ ((((((((((((((cpP.z (M := M) (a := 153) (b := 17) (n := 12) (by omega)).r 1 160 (by omega)).r 2 8 (by omega)).r 3 8 (by omega)).r 4 8 (by omega)).r 5 8 (by omega)).r 6 4 (by omega)).p 0 6 (by omega)).r 7 12 (by omega)).r 8 12 (by omega)).r 9 12 (by omega)).r 10 12 (by omega)).p 0 11 (by omega)).r 11 160 (by omega)).1)
def csA (i j : Nat) : Bool := false || (decide (1 ≤ i) && csS (i - 1) j) || (decide (10 ≤ i) && csG (i - 10) j) || (decide (16 ≤ i) && csT (i - 16) j) || (i == 0 && j == 3) || (i == 28 && decide (j < 6)) || (i == 0 && j == 5) || (i == 29 && decide (j < 5)) || (i == 30 && decide (j < 20)) || (i == 31 && decide (j < 5)) || (i == 32 && decide (j < 5)) || (i == 0 && j == 10) || (i == 33 && decide (j < 4)) || (i == 34 && decide (j < 4))
def sp_X8_copyFrom (as : List zV) (M : zM) (Q : Option zV → zM → Prop) : Prop := ∃ (a b : Nat), as = [zR a, zR b] ∧ ((a = 1 ∧ b = 67) ∨ (a = 1 ∧ b = 102) ∨ (a = 1 ∧ b = 137) ∨ (a = 67 ∧ b = 1) ∨ (a = 102 ∧ b = 1) ∨ (a = 137 ∧ b = 1)) ∧ Q (none) (cpS M a b csA)
theorem us_X8_copyFrom {a b : Nat} {M : zM} {Q : Option zV → zM → Prop} (hab : (a = 1 ∧ b = 67) ∨ (a = 1 ∧ b = 102) ∨ (a = 1 ∧ b = 137) ∨ (a = 67 ∧ b = 1) ∨ (a = 102 ∧ b = 1) ∨ (a = 137 ∧ b = 1)) (h99 : Q (none) (cpS M a b csA)) : sp_X8_copyFrom [zR a, zR b] M Q := ⟨a, b, rfl, hab, h99⟩
set_option maxRecDepth 20000 in
set_option maxHeartbeats 4000000 in
theorem m_X8_copyFrom (l : Launch) : zC l yX8_copyFrom wzX8_copyFrom rmX8_copyFrom sp_X8_copyFrom := by
  refine zMet.of RX8 (by decide +kernel) rfl rfl ?_
  intro E X as M Qp hX S hsp
  obtain ⟨a, b, rfl, hab, hQ⟩ := hsp
  refine ⟨Nat.le_of_ble_eq_true rfl, ?_⟩
  dsimp only [zpad, zargs]
  rcases hab with ⟨rfl, rfl⟩ | ⟨rfl, rfl⟩ | ⟨rfl, rfl⟩ | ⟨rfl, rfl⟩ | ⟨rfl, rfl⟩ | ⟨rfl, rfl⟩
  · refine zr_aload_n (pc := 0) S dX8_copyFrom_0 rfl ?_
    refine zr_getR (pc := 1) S fX8_copyFrom_12 dX8_copyFrom_1 rfl (Nat.le_of_ble_eq_true rfl) rfl ?_
    refine zr_aload_n (pc := 4) S dX8_copyFrom_4 rfl ?_
    refine zr_getR (pc := 5) S fX8_copyFrom_12 dX8_copyFrom_5 rfl (Nat.le_of_ble_eq_true rfl) rfl ?_
    refine zr_invV (pc := 8) S [zR _] (m_X7_copyFrom _) kX8_copyFrom_64 dX8_copyFrom_8 rfl (Nat.le_of_ble_eq_true rfl) rfl (Nat.le_of_ble_eq_true rfl) ⟨Nat.le_of_ble_eq_true rfl, Nat.le_of_ble_eq_true rfl⟩ (us_X7_copyFrom (by decide) ?_)
    dsimp only [zaft, Option.toList, List.cons_append, List.nil_append, Nat.add_zero]
    refine zr_aload_n (pc := 11) S dX8_copyFrom_11 rfl ?_
    refine zr_getR (pc := 12) S fX8_copyFrom_21 dX8_copyFrom_12 rfl (Nat.le_of_ble_eq_true rfl) rfl ?_
    refine zr_aload_n (pc := 15) S dX8_copyFrom_15 rfl ?_
    refine zr_getR (pc := 16) S fX8_copyFrom_21 dX8_copyFrom_16 rfl (Nat.le_of_ble_eq_true rfl) rfl ?_
    refine zr_invV (pc := 19) S [zR _] (m_X2_copyFrom _) kX8_copyFrom_68 dX8_copyFrom_19 rfl (Nat.le_of_ble_eq_true rfl) rfl (Nat.le_of_ble_eq_true rfl) ⟨Nat.le_of_ble_eq_true rfl, Nat.le_of_ble_eq_true rfl⟩ (us_X2_copyFrom (by decide) ?_)
    dsimp only [zaft, Option.toList, List.cons_append, List.nil_append, Nat.add_zero]
    refine zr_aload_n (pc := 22) S dX8_copyFrom_22 rfl ?_
    refine zr_getR (pc := 23) S fX8_copyFrom_28 dX8_copyFrom_23 rfl (Nat.le_of_ble_eq_true rfl) rfl ?_
    refine zr_aload_n (pc := 26) S dX8_copyFrom_26 rfl ?_
    refine zr_getR (pc := 27) S fX8_copyFrom_28 dX8_copyFrom_27 rfl (Nat.le_of_ble_eq_true rfl) rfl ?_
    refine zr_invV (pc := 30) S [zR _] (m_X9_copyFrom _) kX8_copyFrom_71 dX8_copyFrom_30 rfl (Nat.le_of_ble_eq_true rfl) rfl (Nat.le_of_ble_eq_true rfl) ⟨Nat.le_of_ble_eq_true rfl, Nat.le_of_ble_eq_true rfl⟩ (us_X9_copyFrom (by decide) ?_)
    dsimp only [zaft, Option.toList, List.cons_append, List.nil_append, Nat.add_zero]
    refine zr_aload_n (pc := 33) S dX8_copyFrom_33 rfl ?_
    refine zr_aload_n (pc := 34) S dX8_copyFrom_34 rfl ?_
    refine zr_getI (pc := 35) S fX8_copyFrom_54 dX8_copyFrom_35 rfl (Nat.le_of_ble_eq_true rfl) rfl ?_
    refine zr_putI (pc := 38) S pX8_copyFrom_54 dX8_copyFrom_38 rfl (Nat.le_of_ble_eq_true rfl) rfl ?_
    refine zr_aload_n (pc := 41) S dX8_copyFrom_41 rfl ?_
    refine zr_getR (pc := 42) S fX8_copyFrom_32 dX8_copyFrom_42 rfl (Nat.le_of_ble_eq_true rfl) rfl ?_
    try simp only [zup_k, zup_e, ne_eq, Nat.reduceEqDiff, not_false_eq_true, zup_j]
    refine zr_aload_n (pc := 45) S dX8_copyFrom_45 rfl ?_
    refine zr_getR (pc := 46) S fX8_copyFrom_32 dX8_copyFrom_46 rfl (Nat.le_of_ble_eq_true rfl) rfl ?_
    try simp only [zup_k, zup_e, ne_eq, Nat.reduceEqDiff, not_false_eq_true, zup_j]
    refine zr_invN (pc := 49) S [zR _, zR _] (m_X11_copyRow _) (List.mem_of_getElem? (i := 8) rfl) kX8_copyFrom_74 dX8_copyFrom_49 (Nat.le_of_ble_eq_true rfl) ⟨Nat.le_of_ble_eq_true rfl, Nat.le_of_ble_eq_true rfl⟩ (us_X11_copyRow rfl rfl (Nat.le_of_ble_eq_true rfl) (Nat.le_of_ble_eq_true rfl) (by decide) ?_)
    dsimp only [zaft, Option.toList, List.cons_append, List.nil_append, Nat.add_zero]
    refine zr_aload_n (pc := 52) S dX8_copyFrom_52 rfl ?_
    refine zr_aload_n (pc := 53) S dX8_copyFrom_53 rfl ?_
    refine zr_getI (pc := 54) S fX8_copyFrom_58 dX8_copyFrom_54 rfl (Nat.le_of_ble_eq_true rfl) rfl ?_
    try simp only [zup_k, zup_e, ne_eq, Nat.reduceEqDiff, not_false_eq_true, zup_j]
    refine zr_putI (pc := 57) S pX8_copyFrom_58 dX8_copyFrom_57 rfl (Nat.le_of_ble_eq_true rfl) rfl ?_
    refine zr_aload_n (pc := 60) S dX8_copyFrom_60 rfl ?_
    refine zr_getR (pc := 61) S fX8_copyFrom_36 dX8_copyFrom_61 rfl (Nat.le_of_ble_eq_true rfl) rfl ?_
    try simp only [zup_k, zup_e, ne_eq, Nat.reduceEqDiff, not_false_eq_true, zup_j]
    refine zr_aload_n (pc := 64) S dX8_copyFrom_64 rfl ?_
    refine zr_getR (pc := 65) S fX8_copyFrom_36 dX8_copyFrom_65 rfl (Nat.le_of_ble_eq_true rfl) rfl ?_
    try simp only [zup_k, zup_e, ne_eq, Nat.reduceEqDiff, not_false_eq_true, zup_j]
    refine zr_invN (pc := 68) S [zR _, zR _] (m_X11_copyRow _) (List.mem_of_getElem? (i := 8) rfl) kX8_copyFrom_74 dX8_copyFrom_68 (Nat.le_of_ble_eq_true rfl) ⟨Nat.le_of_ble_eq_true rfl, Nat.le_of_ble_eq_true rfl⟩ (us_X11_copyRow rfl rfl (Nat.le_of_ble_eq_true rfl) (Nat.le_of_ble_eq_true rfl) (by decide) ?_)
    dsimp only [zaft, Option.toList, List.cons_append, List.nil_append, Nat.add_zero]
    refine zr_aload_n (pc := 71) S dX8_copyFrom_71 rfl ?_
    refine zr_getR (pc := 72) S fX8_copyFrom_39 dX8_copyFrom_72 rfl (Nat.le_of_ble_eq_true rfl) rfl ?_
    try simp only [zup_k, zup_e, ne_eq, Nat.reduceEqDiff, not_false_eq_true, zup_j]
    refine zr_aload_n (pc := 75) S dX8_copyFrom_75 rfl ?_
    refine zr_getR (pc := 76) S fX8_copyFrom_39 dX8_copyFrom_76 rfl (Nat.le_of_ble_eq_true rfl) rfl ?_
    try simp only [zup_k, zup_e, ne_eq, Nat.reduceEqDiff, not_false_eq_true, zup_j]
    refine zr_invN (pc := 79) S [zR _, zR _] (m_X11_copyRow _) (List.mem_of_getElem? (i := 8) rfl) kX8_copyFrom_74 dX8_copyFrom_79 (Nat.le_of_ble_eq_true rfl) ⟨Nat.le_of_ble_eq_true rfl, Nat.le_of_ble_eq_true rfl⟩ (us_X11_copyRow rfl rfl (Nat.le_of_ble_eq_true rfl) (Nat.le_of_ble_eq_true rfl) (by decide) ?_)
    dsimp only [zaft, Option.toList, List.cons_append, List.nil_append, Nat.add_zero]
    refine zr_aload_n (pc := 82) S dX8_copyFrom_82 rfl ?_
    refine zr_getR (pc := 83) S fX8_copyFrom_42 dX8_copyFrom_83 rfl (Nat.le_of_ble_eq_true rfl) rfl ?_
    try simp only [zup_k, zup_e, ne_eq, Nat.reduceEqDiff, not_false_eq_true, zup_j]
    refine zr_aload_n (pc := 86) S dX8_copyFrom_86 rfl ?_
    refine zr_getR (pc := 87) S fX8_copyFrom_42 dX8_copyFrom_87 rfl (Nat.le_of_ble_eq_true rfl) rfl ?_
    try simp only [zup_k, zup_e, ne_eq, Nat.reduceEqDiff, not_false_eq_true, zup_j]
    refine zr_invN (pc := 90) S [zR _, zR _] (m_X11_copyRow _) (List.mem_of_getElem? (i := 8) rfl) kX8_copyFrom_74 dX8_copyFrom_90 (Nat.le_of_ble_eq_true rfl) ⟨Nat.le_of_ble_eq_true rfl, Nat.le_of_ble_eq_true rfl⟩ (us_X11_copyRow rfl rfl (Nat.le_of_ble_eq_true rfl) (Nat.le_of_ble_eq_true rfl) (by decide) ?_)
    dsimp only [zaft, Option.toList, List.cons_append, List.nil_append, Nat.add_zero]
    refine zr_aload_n (pc := 93) S dX8_copyFrom_93 rfl ?_
    refine zr_getR (pc := 94) S fX8_copyFrom_45 dX8_copyFrom_94 rfl (Nat.le_of_ble_eq_true rfl) rfl ?_
    try simp only [zup_k, zup_e, ne_eq, Nat.reduceEqDiff, not_false_eq_true, zup_j]
    refine zr_aload_n (pc := 97) S dX8_copyFrom_97 rfl ?_
    refine zr_getR (pc := 98) S fX8_copyFrom_45 dX8_copyFrom_98 rfl (Nat.le_of_ble_eq_true rfl) rfl ?_
    try simp only [zup_k, zup_e, ne_eq, Nat.reduceEqDiff, not_false_eq_true, zup_j]
    refine zr_invN (pc := 101) S [zR _, zR _] (m_X11_copyRow _) (List.mem_of_getElem? (i := 8) rfl) kX8_copyFrom_74 dX8_copyFrom_101 (Nat.le_of_ble_eq_true rfl) ⟨Nat.le_of_ble_eq_true rfl, Nat.le_of_ble_eq_true rfl⟩ (us_X11_copyRow rfl rfl (Nat.le_of_ble_eq_true rfl) (Nat.le_of_ble_eq_true rfl) (by decide) ?_)
    dsimp only [zaft, Option.toList, List.cons_append, List.nil_append, Nat.add_zero]
    refine zr_aload_n (pc := 104) S dX8_copyFrom_104 rfl ?_
    refine zr_aload_n (pc := 105) S dX8_copyFrom_105 rfl ?_
    refine zr_getI (pc := 106) S fX8_copyFrom_61 dX8_copyFrom_106 rfl (Nat.le_of_ble_eq_true rfl) rfl ?_
    try simp only [zup_k, zup_e, ne_eq, Nat.reduceEqDiff, not_false_eq_true, zup_j]
    refine zr_putI (pc := 109) S pX8_copyFrom_61 dX8_copyFrom_109 rfl (Nat.le_of_ble_eq_true rfl) rfl ?_
    refine zr_aload_n (pc := 112) S dX8_copyFrom_112 rfl ?_
    refine zr_getR (pc := 113) S fX8_copyFrom_48 dX8_copyFrom_113 rfl (Nat.le_of_ble_eq_true rfl) rfl ?_
    try simp only [zup_k, zup_e, ne_eq, Nat.reduceEqDiff, not_false_eq_true, zup_j]
    refine zr_aload_n (pc := 116) S dX8_copyFrom_116 rfl ?_
    refine zr_getR (pc := 117) S fX8_copyFrom_48 dX8_copyFrom_117 rfl (Nat.le_of_ble_eq_true rfl) rfl ?_
    try simp only [zup_k, zup_e, ne_eq, Nat.reduceEqDiff, not_false_eq_true, zup_j]
    refine zr_invN (pc := 120) S [zR _, zR _] (m_X11_copyRow _) (List.mem_of_getElem? (i := 8) rfl) kX8_copyFrom_74 dX8_copyFrom_120 (Nat.le_of_ble_eq_true rfl) ⟨Nat.le_of_ble_eq_true rfl, Nat.le_of_ble_eq_true rfl⟩ (us_X11_copyRow rfl rfl (Nat.le_of_ble_eq_true rfl) (Nat.le_of_ble_eq_true rfl) (by decide) ?_)
    dsimp only [zaft, Option.toList, List.cons_append, List.nil_append, Nat.add_zero]
    refine zr_aload_n (pc := 123) S dX8_copyFrom_123 rfl ?_
    refine zr_getR (pc := 124) S fX8_copyFrom_51 dX8_copyFrom_124 rfl (Nat.le_of_ble_eq_true rfl) rfl ?_
    try simp only [zup_k, zup_e, ne_eq, Nat.reduceEqDiff, not_false_eq_true, zup_j]
    refine zr_aload_n (pc := 127) S dX8_copyFrom_127 rfl ?_
    refine zr_getR (pc := 128) S fX8_copyFrom_51 dX8_copyFrom_128 rfl (Nat.le_of_ble_eq_true rfl) rfl ?_
    try simp only [zup_k, zup_e, ne_eq, Nat.reduceEqDiff, not_false_eq_true, zup_j]
    refine zr_invN (pc := 131) S [zR _, zR _] (m_X11_copyRow _) (List.mem_of_getElem? (i := 8) rfl) kX8_copyFrom_74 dX8_copyFrom_131 (Nat.le_of_ble_eq_true rfl) ⟨Nat.le_of_ble_eq_true rfl, Nat.le_of_ble_eq_true rfl⟩ (us_X11_copyRow rfl rfl (Nat.le_of_ble_eq_true rfl) (Nat.le_of_ble_eq_true rfl) (by decide) ?_)
    dsimp only [zaft, Option.toList, List.cons_append, List.nil_append, Nat.add_zero]
    exact zr_vret (pc := 134) S dX8_copyFrom_134 rfl ⟨Nat.le_refl _, Nat.le_refl _⟩ (zqm hQ ((((((((((((((cpP.z (M := M) (a := 1) (b := 67) (n := 35) (by omega)).b 1 9 csS_r (by omega)).b 10 6 csG_r (by omega)).b 16 12 csT_r (by omega)).p 0 3 (by omega)).r 28 6 (by omega)).p 0 5 (by omega)).r 29 5 (by omega)).r 30 20 (by omega)).r 31 5 (by omega)).r 32 5 (by omega)).p 0 10 (by omega)).r 33 4 (by omega)).r 34 4 (by omega)).1)
  · refine zr_aload_n (pc := 0) S dX8_copyFrom_0 rfl ?_
    refine zr_getR (pc := 1) S fX8_copyFrom_12 dX8_copyFrom_1 rfl (Nat.le_of_ble_eq_true rfl) rfl ?_
    refine zr_aload_n (pc := 4) S dX8_copyFrom_4 rfl ?_
    refine zr_getR (pc := 5) S fX8_copyFrom_12 dX8_copyFrom_5 rfl (Nat.le_of_ble_eq_true rfl) rfl ?_
    refine zr_invV (pc := 8) S [zR _] (m_X7_copyFrom _) kX8_copyFrom_64 dX8_copyFrom_8 rfl (Nat.le_of_ble_eq_true rfl) rfl (Nat.le_of_ble_eq_true rfl) ⟨Nat.le_of_ble_eq_true rfl, Nat.le_of_ble_eq_true rfl⟩ (us_X7_copyFrom (by decide) ?_)
    dsimp only [zaft, Option.toList, List.cons_append, List.nil_append, Nat.add_zero]
    refine zr_aload_n (pc := 11) S dX8_copyFrom_11 rfl ?_
    refine zr_getR (pc := 12) S fX8_copyFrom_21 dX8_copyFrom_12 rfl (Nat.le_of_ble_eq_true rfl) rfl ?_
    refine zr_aload_n (pc := 15) S dX8_copyFrom_15 rfl ?_
    refine zr_getR (pc := 16) S fX8_copyFrom_21 dX8_copyFrom_16 rfl (Nat.le_of_ble_eq_true rfl) rfl ?_
    refine zr_invV (pc := 19) S [zR _] (m_X2_copyFrom _) kX8_copyFrom_68 dX8_copyFrom_19 rfl (Nat.le_of_ble_eq_true rfl) rfl (Nat.le_of_ble_eq_true rfl) ⟨Nat.le_of_ble_eq_true rfl, Nat.le_of_ble_eq_true rfl⟩ (us_X2_copyFrom (by decide) ?_)
    dsimp only [zaft, Option.toList, List.cons_append, List.nil_append, Nat.add_zero]
    refine zr_aload_n (pc := 22) S dX8_copyFrom_22 rfl ?_
    refine zr_getR (pc := 23) S fX8_copyFrom_28 dX8_copyFrom_23 rfl (Nat.le_of_ble_eq_true rfl) rfl ?_
    refine zr_aload_n (pc := 26) S dX8_copyFrom_26 rfl ?_
    refine zr_getR (pc := 27) S fX8_copyFrom_28 dX8_copyFrom_27 rfl (Nat.le_of_ble_eq_true rfl) rfl ?_
    refine zr_invV (pc := 30) S [zR _] (m_X9_copyFrom _) kX8_copyFrom_71 dX8_copyFrom_30 rfl (Nat.le_of_ble_eq_true rfl) rfl (Nat.le_of_ble_eq_true rfl) ⟨Nat.le_of_ble_eq_true rfl, Nat.le_of_ble_eq_true rfl⟩ (us_X9_copyFrom (by decide) ?_)
    dsimp only [zaft, Option.toList, List.cons_append, List.nil_append, Nat.add_zero]
    refine zr_aload_n (pc := 33) S dX8_copyFrom_33 rfl ?_
    refine zr_aload_n (pc := 34) S dX8_copyFrom_34 rfl ?_
    refine zr_getI (pc := 35) S fX8_copyFrom_54 dX8_copyFrom_35 rfl (Nat.le_of_ble_eq_true rfl) rfl ?_
    refine zr_putI (pc := 38) S pX8_copyFrom_54 dX8_copyFrom_38 rfl (Nat.le_of_ble_eq_true rfl) rfl ?_
    refine zr_aload_n (pc := 41) S dX8_copyFrom_41 rfl ?_
    refine zr_getR (pc := 42) S fX8_copyFrom_32 dX8_copyFrom_42 rfl (Nat.le_of_ble_eq_true rfl) rfl ?_
    try simp only [zup_k, zup_e, ne_eq, Nat.reduceEqDiff, not_false_eq_true, zup_j]
    refine zr_aload_n (pc := 45) S dX8_copyFrom_45 rfl ?_
    refine zr_getR (pc := 46) S fX8_copyFrom_32 dX8_copyFrom_46 rfl (Nat.le_of_ble_eq_true rfl) rfl ?_
    try simp only [zup_k, zup_e, ne_eq, Nat.reduceEqDiff, not_false_eq_true, zup_j]
    refine zr_invN (pc := 49) S [zR _, zR _] (m_X11_copyRow _) (List.mem_of_getElem? (i := 8) rfl) kX8_copyFrom_74 dX8_copyFrom_49 (Nat.le_of_ble_eq_true rfl) ⟨Nat.le_of_ble_eq_true rfl, Nat.le_of_ble_eq_true rfl⟩ (us_X11_copyRow rfl rfl (Nat.le_of_ble_eq_true rfl) (Nat.le_of_ble_eq_true rfl) (by decide) ?_)
    dsimp only [zaft, Option.toList, List.cons_append, List.nil_append, Nat.add_zero]
    refine zr_aload_n (pc := 52) S dX8_copyFrom_52 rfl ?_
    refine zr_aload_n (pc := 53) S dX8_copyFrom_53 rfl ?_
    refine zr_getI (pc := 54) S fX8_copyFrom_58 dX8_copyFrom_54 rfl (Nat.le_of_ble_eq_true rfl) rfl ?_
    try simp only [zup_k, zup_e, ne_eq, Nat.reduceEqDiff, not_false_eq_true, zup_j]
    refine zr_putI (pc := 57) S pX8_copyFrom_58 dX8_copyFrom_57 rfl (Nat.le_of_ble_eq_true rfl) rfl ?_
    refine zr_aload_n (pc := 60) S dX8_copyFrom_60 rfl ?_
    refine zr_getR (pc := 61) S fX8_copyFrom_36 dX8_copyFrom_61 rfl (Nat.le_of_ble_eq_true rfl) rfl ?_
    try simp only [zup_k, zup_e, ne_eq, Nat.reduceEqDiff, not_false_eq_true, zup_j]
    refine zr_aload_n (pc := 64) S dX8_copyFrom_64 rfl ?_
    refine zr_getR (pc := 65) S fX8_copyFrom_36 dX8_copyFrom_65 rfl (Nat.le_of_ble_eq_true rfl) rfl ?_
    try simp only [zup_k, zup_e, ne_eq, Nat.reduceEqDiff, not_false_eq_true, zup_j]
    refine zr_invN (pc := 68) S [zR _, zR _] (m_X11_copyRow _) (List.mem_of_getElem? (i := 8) rfl) kX8_copyFrom_74 dX8_copyFrom_68 (Nat.le_of_ble_eq_true rfl) ⟨Nat.le_of_ble_eq_true rfl, Nat.le_of_ble_eq_true rfl⟩ (us_X11_copyRow rfl rfl (Nat.le_of_ble_eq_true rfl) (Nat.le_of_ble_eq_true rfl) (by decide) ?_)
    dsimp only [zaft, Option.toList, List.cons_append, List.nil_append, Nat.add_zero]
    refine zr_aload_n (pc := 71) S dX8_copyFrom_71 rfl ?_
    refine zr_getR (pc := 72) S fX8_copyFrom_39 dX8_copyFrom_72 rfl (Nat.le_of_ble_eq_true rfl) rfl ?_
    try simp only [zup_k, zup_e, ne_eq, Nat.reduceEqDiff, not_false_eq_true, zup_j]
    refine zr_aload_n (pc := 75) S dX8_copyFrom_75 rfl ?_
    refine zr_getR (pc := 76) S fX8_copyFrom_39 dX8_copyFrom_76 rfl (Nat.le_of_ble_eq_true rfl) rfl ?_
    try simp only [zup_k, zup_e, ne_eq, Nat.reduceEqDiff, not_false_eq_true, zup_j]
    refine zr_invN (pc := 79) S [zR _, zR _] (m_X11_copyRow _) (List.mem_of_getElem? (i := 8) rfl) kX8_copyFrom_74 dX8_copyFrom_79 (Nat.le_of_ble_eq_true rfl) ⟨Nat.le_of_ble_eq_true rfl, Nat.le_of_ble_eq_true rfl⟩ (us_X11_copyRow rfl rfl (Nat.le_of_ble_eq_true rfl) (Nat.le_of_ble_eq_true rfl) (by decide) ?_)
    dsimp only [zaft, Option.toList, List.cons_append, List.nil_append, Nat.add_zero]
    refine zr_aload_n (pc := 82) S dX8_copyFrom_82 rfl ?_
    refine zr_getR (pc := 83) S fX8_copyFrom_42 dX8_copyFrom_83 rfl (Nat.le_of_ble_eq_true rfl) rfl ?_
    try simp only [zup_k, zup_e, ne_eq, Nat.reduceEqDiff, not_false_eq_true, zup_j]
    refine zr_aload_n (pc := 86) S dX8_copyFrom_86 rfl ?_
    refine zr_getR (pc := 87) S fX8_copyFrom_42 dX8_copyFrom_87 rfl (Nat.le_of_ble_eq_true rfl) rfl ?_
    try simp only [zup_k, zup_e, ne_eq, Nat.reduceEqDiff, not_false_eq_true, zup_j]
    refine zr_invN (pc := 90) S [zR _, zR _] (m_X11_copyRow _) (List.mem_of_getElem? (i := 8) rfl) kX8_copyFrom_74 dX8_copyFrom_90 (Nat.le_of_ble_eq_true rfl) ⟨Nat.le_of_ble_eq_true rfl, Nat.le_of_ble_eq_true rfl⟩ (us_X11_copyRow rfl rfl (Nat.le_of_ble_eq_true rfl) (Nat.le_of_ble_eq_true rfl) (by decide) ?_)
    dsimp only [zaft, Option.toList, List.cons_append, List.nil_append, Nat.add_zero]
    refine zr_aload_n (pc := 93) S dX8_copyFrom_93 rfl ?_
    refine zr_getR (pc := 94) S fX8_copyFrom_45 dX8_copyFrom_94 rfl (Nat.le_of_ble_eq_true rfl) rfl ?_
    try simp only [zup_k, zup_e, ne_eq, Nat.reduceEqDiff, not_false_eq_true, zup_j]
    refine zr_aload_n (pc := 97) S dX8_copyFrom_97 rfl ?_
    refine zr_getR (pc := 98) S fX8_copyFrom_45 dX8_copyFrom_98 rfl (Nat.le_of_ble_eq_true rfl) rfl ?_
    try simp only [zup_k, zup_e, ne_eq, Nat.reduceEqDiff, not_false_eq_true, zup_j]
    refine zr_invN (pc := 101) S [zR _, zR _] (m_X11_copyRow _) (List.mem_of_getElem? (i := 8) rfl) kX8_copyFrom_74 dX8_copyFrom_101 (Nat.le_of_ble_eq_true rfl) ⟨Nat.le_of_ble_eq_true rfl, Nat.le_of_ble_eq_true rfl⟩ (us_X11_copyRow rfl rfl (Nat.le_of_ble_eq_true rfl) (Nat.le_of_ble_eq_true rfl) (by decide) ?_)
    dsimp only [zaft, Option.toList, List.cons_append, List.nil_append, Nat.add_zero]
    refine zr_aload_n (pc := 104) S dX8_copyFrom_104 rfl ?_
    refine zr_aload_n (pc := 105) S dX8_copyFrom_105 rfl ?_
    refine zr_getI (pc := 106) S fX8_copyFrom_61 dX8_copyFrom_106 rfl (Nat.le_of_ble_eq_true rfl) rfl ?_
    try simp only [zup_k, zup_e, ne_eq, Nat.reduceEqDiff, not_false_eq_true, zup_j]
    refine zr_putI (pc := 109) S pX8_copyFrom_61 dX8_copyFrom_109 rfl (Nat.le_of_ble_eq_true rfl) rfl ?_
    refine zr_aload_n (pc := 112) S dX8_copyFrom_112 rfl ?_
    refine zr_getR (pc := 113) S fX8_copyFrom_48 dX8_copyFrom_113 rfl (Nat.le_of_ble_eq_true rfl) rfl ?_
    try simp only [zup_k, zup_e, ne_eq, Nat.reduceEqDiff, not_false_eq_true, zup_j]
    refine zr_aload_n (pc := 116) S dX8_copyFrom_116 rfl ?_
    refine zr_getR (pc := 117) S fX8_copyFrom_48 dX8_copyFrom_117 rfl (Nat.le_of_ble_eq_true rfl) rfl ?_
    try simp only [zup_k, zup_e, ne_eq, Nat.reduceEqDiff, not_false_eq_true, zup_j]
    refine zr_invN (pc := 120) S [zR _, zR _] (m_X11_copyRow _) (List.mem_of_getElem? (i := 8) rfl) kX8_copyFrom_74 dX8_copyFrom_120 (Nat.le_of_ble_eq_true rfl) ⟨Nat.le_of_ble_eq_true rfl, Nat.le_of_ble_eq_true rfl⟩ (us_X11_copyRow rfl rfl (Nat.le_of_ble_eq_true rfl) (Nat.le_of_ble_eq_true rfl) (by decide) ?_)
    dsimp only [zaft, Option.toList, List.cons_append, List.nil_append, Nat.add_zero]
    refine zr_aload_n (pc := 123) S dX8_copyFrom_123 rfl ?_
    refine zr_getR (pc := 124) S fX8_copyFrom_51 dX8_copyFrom_124 rfl (Nat.le_of_ble_eq_true rfl) rfl ?_
    try simp only [zup_k, zup_e, ne_eq, Nat.reduceEqDiff, not_false_eq_true, zup_j]
    refine zr_aload_n (pc := 127) S dX8_copyFrom_127 rfl ?_
    refine zr_getR (pc := 128) S fX8_copyFrom_51 dX8_copyFrom_128 rfl (Nat.le_of_ble_eq_true rfl) rfl ?_
    try simp only [zup_k, zup_e, ne_eq, Nat.reduceEqDiff, not_false_eq_true, zup_j]
    refine zr_invN (pc := 131) S [zR _, zR _] (m_X11_copyRow _) (List.mem_of_getElem? (i := 8) rfl) kX8_copyFrom_74 dX8_copyFrom_131 (Nat.le_of_ble_eq_true rfl) ⟨Nat.le_of_ble_eq_true rfl, Nat.le_of_ble_eq_true rfl⟩ (us_X11_copyRow rfl rfl (Nat.le_of_ble_eq_true rfl) (Nat.le_of_ble_eq_true rfl) (by decide) ?_)
    dsimp only [zaft, Option.toList, List.cons_append, List.nil_append, Nat.add_zero]
    exact zr_vret (pc := 134) S dX8_copyFrom_134 rfl ⟨Nat.le_refl _, Nat.le_refl _⟩ (zqm hQ ((((((((((((((cpP.z (M := M) (a := 1) (b := 102) (n := 35) (by omega)).b 1 9 csS_r (by omega)).b 10 6 csG_r (by omega)).b 16 12 csT_r (by omega)).p 0 3 (by omega)).r 28 6 (by omega)).p 0 5 (by omega)).r 29 5 (by omega)).r 30 20 (by omega)).r 31 5 (by omega)).r 32 5 (by omega)).p 0 10 (by omega)).r 33 4 (by omega)).r 34 4 (by omega)).1)
  · refine zr_aload_n (pc := 0) S dX8_copyFrom_0 rfl ?_
    refine zr_getR (pc := 1) S fX8_copyFrom_12 dX8_copyFrom_1 rfl (Nat.le_of_ble_eq_true rfl) rfl ?_
    refine zr_aload_n (pc := 4) S dX8_copyFrom_4 rfl ?_
    refine zr_getR (pc := 5) S fX8_copyFrom_12 dX8_copyFrom_5 rfl (Nat.le_of_ble_eq_true rfl) rfl ?_
    refine zr_invV (pc := 8) S [zR _] (m_X7_copyFrom _) kX8_copyFrom_64 dX8_copyFrom_8 rfl (Nat.le_of_ble_eq_true rfl) rfl (Nat.le_of_ble_eq_true rfl) ⟨Nat.le_of_ble_eq_true rfl, Nat.le_of_ble_eq_true rfl⟩ (us_X7_copyFrom (by decide) ?_)
    dsimp only [zaft, Option.toList, List.cons_append, List.nil_append, Nat.add_zero]
    refine zr_aload_n (pc := 11) S dX8_copyFrom_11 rfl ?_
    refine zr_getR (pc := 12) S fX8_copyFrom_21 dX8_copyFrom_12 rfl (Nat.le_of_ble_eq_true rfl) rfl ?_
    refine zr_aload_n (pc := 15) S dX8_copyFrom_15 rfl ?_
    refine zr_getR (pc := 16) S fX8_copyFrom_21 dX8_copyFrom_16 rfl (Nat.le_of_ble_eq_true rfl) rfl ?_
    refine zr_invV (pc := 19) S [zR _] (m_X2_copyFrom _) kX8_copyFrom_68 dX8_copyFrom_19 rfl (Nat.le_of_ble_eq_true rfl) rfl (Nat.le_of_ble_eq_true rfl) ⟨Nat.le_of_ble_eq_true rfl, Nat.le_of_ble_eq_true rfl⟩ (us_X2_copyFrom (by decide) ?_)
    dsimp only [zaft, Option.toList, List.cons_append, List.nil_append, Nat.add_zero]
    refine zr_aload_n (pc := 22) S dX8_copyFrom_22 rfl ?_
    refine zr_getR (pc := 23) S fX8_copyFrom_28 dX8_copyFrom_23 rfl (Nat.le_of_ble_eq_true rfl) rfl ?_
    refine zr_aload_n (pc := 26) S dX8_copyFrom_26 rfl ?_
    refine zr_getR (pc := 27) S fX8_copyFrom_28 dX8_copyFrom_27 rfl (Nat.le_of_ble_eq_true rfl) rfl ?_
    refine zr_invV (pc := 30) S [zR _] (m_X9_copyFrom _) kX8_copyFrom_71 dX8_copyFrom_30 rfl (Nat.le_of_ble_eq_true rfl) rfl (Nat.le_of_ble_eq_true rfl) ⟨Nat.le_of_ble_eq_true rfl, Nat.le_of_ble_eq_true rfl⟩ (us_X9_copyFrom (by decide) ?_)
    dsimp only [zaft, Option.toList, List.cons_append, List.nil_append, Nat.add_zero]
    refine zr_aload_n (pc := 33) S dX8_copyFrom_33 rfl ?_
    refine zr_aload_n (pc := 34) S dX8_copyFrom_34 rfl ?_
    refine zr_getI (pc := 35) S fX8_copyFrom_54 dX8_copyFrom_35 rfl (Nat.le_of_ble_eq_true rfl) rfl ?_
    refine zr_putI (pc := 38) S pX8_copyFrom_54 dX8_copyFrom_38 rfl (Nat.le_of_ble_eq_true rfl) rfl ?_
    refine zr_aload_n (pc := 41) S dX8_copyFrom_41 rfl ?_
    refine zr_getR (pc := 42) S fX8_copyFrom_32 dX8_copyFrom_42 rfl (Nat.le_of_ble_eq_true rfl) rfl ?_
    try simp only [zup_k, zup_e, ne_eq, Nat.reduceEqDiff, not_false_eq_true, zup_j]
    refine zr_aload_n (pc := 45) S dX8_copyFrom_45 rfl ?_
    refine zr_getR (pc := 46) S fX8_copyFrom_32 dX8_copyFrom_46 rfl (Nat.le_of_ble_eq_true rfl) rfl ?_
    try simp only [zup_k, zup_e, ne_eq, Nat.reduceEqDiff, not_false_eq_true, zup_j]
    refine zr_invN (pc := 49) S [zR _, zR _] (m_X11_copyRow _) (List.mem_of_getElem? (i := 8) rfl) kX8_copyFrom_74 dX8_copyFrom_49 (Nat.le_of_ble_eq_true rfl) ⟨Nat.le_of_ble_eq_true rfl, Nat.le_of_ble_eq_true rfl⟩ (us_X11_copyRow rfl rfl (Nat.le_of_ble_eq_true rfl) (Nat.le_of_ble_eq_true rfl) (by decide) ?_)
    dsimp only [zaft, Option.toList, List.cons_append, List.nil_append, Nat.add_zero]
    refine zr_aload_n (pc := 52) S dX8_copyFrom_52 rfl ?_
    refine zr_aload_n (pc := 53) S dX8_copyFrom_53 rfl ?_
    refine zr_getI (pc := 54) S fX8_copyFrom_58 dX8_copyFrom_54 rfl (Nat.le_of_ble_eq_true rfl) rfl ?_
    try simp only [zup_k, zup_e, ne_eq, Nat.reduceEqDiff, not_false_eq_true, zup_j]
    refine zr_putI (pc := 57) S pX8_copyFrom_58 dX8_copyFrom_57 rfl (Nat.le_of_ble_eq_true rfl) rfl ?_
    refine zr_aload_n (pc := 60) S dX8_copyFrom_60 rfl ?_
    refine zr_getR (pc := 61) S fX8_copyFrom_36 dX8_copyFrom_61 rfl (Nat.le_of_ble_eq_true rfl) rfl ?_
    try simp only [zup_k, zup_e, ne_eq, Nat.reduceEqDiff, not_false_eq_true, zup_j]
    refine zr_aload_n (pc := 64) S dX8_copyFrom_64 rfl ?_
    refine zr_getR (pc := 65) S fX8_copyFrom_36 dX8_copyFrom_65 rfl (Nat.le_of_ble_eq_true rfl) rfl ?_
    try simp only [zup_k, zup_e, ne_eq, Nat.reduceEqDiff, not_false_eq_true, zup_j]
    refine zr_invN (pc := 68) S [zR _, zR _] (m_X11_copyRow _) (List.mem_of_getElem? (i := 8) rfl) kX8_copyFrom_74 dX8_copyFrom_68 (Nat.le_of_ble_eq_true rfl) ⟨Nat.le_of_ble_eq_true rfl, Nat.le_of_ble_eq_true rfl⟩ (us_X11_copyRow rfl rfl (Nat.le_of_ble_eq_true rfl) (Nat.le_of_ble_eq_true rfl) (by decide) ?_)
    dsimp only [zaft, Option.toList, List.cons_append, List.nil_append, Nat.add_zero]
    refine zr_aload_n (pc := 71) S dX8_copyFrom_71 rfl ?_
    refine zr_getR (pc := 72) S fX8_copyFrom_39 dX8_copyFrom_72 rfl (Nat.le_of_ble_eq_true rfl) rfl ?_
    try simp only [zup_k, zup_e, ne_eq, Nat.reduceEqDiff, not_false_eq_true, zup_j]
    refine zr_aload_n (pc := 75) S dX8_copyFrom_75 rfl ?_
    refine zr_getR (pc := 76) S fX8_copyFrom_39 dX8_copyFrom_76 rfl (Nat.le_of_ble_eq_true rfl) rfl ?_
    try simp only [zup_k, zup_e, ne_eq, Nat.reduceEqDiff, not_false_eq_true, zup_j]
    refine zr_invN (pc := 79) S [zR _, zR _] (m_X11_copyRow _) (List.mem_of_getElem? (i := 8) rfl) kX8_copyFrom_74 dX8_copyFrom_79 (Nat.le_of_ble_eq_true rfl) ⟨Nat.le_of_ble_eq_true rfl, Nat.le_of_ble_eq_true rfl⟩ (us_X11_copyRow rfl rfl (Nat.le_of_ble_eq_true rfl) (Nat.le_of_ble_eq_true rfl) (by decide) ?_)
    dsimp only [zaft, Option.toList, List.cons_append, List.nil_append, Nat.add_zero]
    refine zr_aload_n (pc := 82) S dX8_copyFrom_82 rfl ?_
    refine zr_getR (pc := 83) S fX8_copyFrom_42 dX8_copyFrom_83 rfl (Nat.le_of_ble_eq_true rfl) rfl ?_
    try simp only [zup_k, zup_e, ne_eq, Nat.reduceEqDiff, not_false_eq_true, zup_j]
    refine zr_aload_n (pc := 86) S dX8_copyFrom_86 rfl ?_
    refine zr_getR (pc := 87) S fX8_copyFrom_42 dX8_copyFrom_87 rfl (Nat.le_of_ble_eq_true rfl) rfl ?_
    try simp only [zup_k, zup_e, ne_eq, Nat.reduceEqDiff, not_false_eq_true, zup_j]
    refine zr_invN (pc := 90) S [zR _, zR _] (m_X11_copyRow _) (List.mem_of_getElem? (i := 8) rfl) kX8_copyFrom_74 dX8_copyFrom_90 (Nat.le_of_ble_eq_true rfl) ⟨Nat.le_of_ble_eq_true rfl, Nat.le_of_ble_eq_true rfl⟩ (us_X11_copyRow rfl rfl (Nat.le_of_ble_eq_true rfl) (Nat.le_of_ble_eq_true rfl) (by decide) ?_)
    dsimp only [zaft, Option.toList, List.cons_append, List.nil_append, Nat.add_zero]
    refine zr_aload_n (pc := 93) S dX8_copyFrom_93 rfl ?_
    refine zr_getR (pc := 94) S fX8_copyFrom_45 dX8_copyFrom_94 rfl (Nat.le_of_ble_eq_true rfl) rfl ?_
    try simp only [zup_k, zup_e, ne_eq, Nat.reduceEqDiff, not_false_eq_true, zup_j]
    refine zr_aload_n (pc := 97) S dX8_copyFrom_97 rfl ?_
    refine zr_getR (pc := 98) S fX8_copyFrom_45 dX8_copyFrom_98 rfl (Nat.le_of_ble_eq_true rfl) rfl ?_
    try simp only [zup_k, zup_e, ne_eq, Nat.reduceEqDiff, not_false_eq_true, zup_j]
    refine zr_invN (pc := 101) S [zR _, zR _] (m_X11_copyRow _) (List.mem_of_getElem? (i := 8) rfl) kX8_copyFrom_74 dX8_copyFrom_101 (Nat.le_of_ble_eq_true rfl) ⟨Nat.le_of_ble_eq_true rfl, Nat.le_of_ble_eq_true rfl⟩ (us_X11_copyRow rfl rfl (Nat.le_of_ble_eq_true rfl) (Nat.le_of_ble_eq_true rfl) (by decide) ?_)
    dsimp only [zaft, Option.toList, List.cons_append, List.nil_append, Nat.add_zero]
    refine zr_aload_n (pc := 104) S dX8_copyFrom_104 rfl ?_
    refine zr_aload_n (pc := 105) S dX8_copyFrom_105 rfl ?_
    refine zr_getI (pc := 106) S fX8_copyFrom_61 dX8_copyFrom_106 rfl (Nat.le_of_ble_eq_true rfl) rfl ?_
    try simp only [zup_k, zup_e, ne_eq, Nat.reduceEqDiff, not_false_eq_true, zup_j]
    refine zr_putI (pc := 109) S pX8_copyFrom_61 dX8_copyFrom_109 rfl (Nat.le_of_ble_eq_true rfl) rfl ?_
    refine zr_aload_n (pc := 112) S dX8_copyFrom_112 rfl ?_
    refine zr_getR (pc := 113) S fX8_copyFrom_48 dX8_copyFrom_113 rfl (Nat.le_of_ble_eq_true rfl) rfl ?_
    try simp only [zup_k, zup_e, ne_eq, Nat.reduceEqDiff, not_false_eq_true, zup_j]
    refine zr_aload_n (pc := 116) S dX8_copyFrom_116 rfl ?_
    refine zr_getR (pc := 117) S fX8_copyFrom_48 dX8_copyFrom_117 rfl (Nat.le_of_ble_eq_true rfl) rfl ?_
    try simp only [zup_k, zup_e, ne_eq, Nat.reduceEqDiff, not_false_eq_true, zup_j]
    refine zr_invN (pc := 120) S [zR _, zR _] (m_X11_copyRow _) (List.mem_of_getElem? (i := 8) rfl) kX8_copyFrom_74 dX8_copyFrom_120 (Nat.le_of_ble_eq_true rfl) ⟨Nat.le_of_ble_eq_true rfl, Nat.le_of_ble_eq_true rfl⟩ (us_X11_copyRow rfl rfl (Nat.le_of_ble_eq_true rfl) (Nat.le_of_ble_eq_true rfl) (by decide) ?_)
    dsimp only [zaft, Option.toList, List.cons_append, List.nil_append, Nat.add_zero]
    refine zr_aload_n (pc := 123) S dX8_copyFrom_123 rfl ?_
    refine zr_getR (pc := 124) S fX8_copyFrom_51 dX8_copyFrom_124 rfl (Nat.le_of_ble_eq_true rfl) rfl ?_
    try simp only [zup_k, zup_e, ne_eq, Nat.reduceEqDiff, not_false_eq_true, zup_j]
    refine zr_aload_n (pc := 127) S dX8_copyFrom_127 rfl ?_
    refine zr_getR (pc := 128) S fX8_copyFrom_51 dX8_copyFrom_128 rfl (Nat.le_of_ble_eq_true rfl) rfl ?_
    try simp only [zup_k, zup_e, ne_eq, Nat.reduceEqDiff, not_false_eq_true, zup_j]
    refine zr_invN (pc := 131) S [zR _, zR _] (m_X11_copyRow _) (List.mem_of_getElem? (i := 8) rfl) kX8_copyFrom_74 dX8_copyFrom_131 (Nat.le_of_ble_eq_true rfl) ⟨Nat.le_of_ble_eq_true rfl, Nat.le_of_ble_eq_true rfl⟩ (us_X11_copyRow rfl rfl (Nat.le_of_ble_eq_true rfl) (Nat.le_of_ble_eq_true rfl) (by decide) ?_)
    dsimp only [zaft, Option.toList, List.cons_append, List.nil_append, Nat.add_zero]
    exact zr_vret (pc := 134) S dX8_copyFrom_134 rfl ⟨Nat.le_refl _, Nat.le_refl _⟩ (zqm hQ ((((((((((((((cpP.z (M := M) (a := 1) (b := 137) (n := 35) (by omega)).b 1 9 csS_r (by omega)).b 10 6 csG_r (by omega)).b 16 12 csT_r (by omega)).p 0 3 (by omega)).r 28 6 (by omega)).p 0 5 (by omega)).r 29 5 (by omega)).r 30 20 (by omega)).r 31 5 (by omega)).r 32 5 (by omega)).p 0 10 (by omega)).r 33 4 (by omega)).r 34 4 (by omega)).1)
  · refine zr_aload_n (pc := 0) S dX8_copyFrom_0 rfl ?_
    refine zr_getR (pc := 1) S fX8_copyFrom_12 dX8_copyFrom_1 rfl (Nat.le_of_ble_eq_true rfl) rfl ?_
    refine zr_aload_n (pc := 4) S dX8_copyFrom_4 rfl ?_
    refine zr_getR (pc := 5) S fX8_copyFrom_12 dX8_copyFrom_5 rfl (Nat.le_of_ble_eq_true rfl) rfl ?_
    refine zr_invV (pc := 8) S [zR _] (m_X7_copyFrom _) kX8_copyFrom_64 dX8_copyFrom_8 rfl (Nat.le_of_ble_eq_true rfl) rfl (Nat.le_of_ble_eq_true rfl) ⟨Nat.le_of_ble_eq_true rfl, Nat.le_of_ble_eq_true rfl⟩ (us_X7_copyFrom (by decide) ?_)
    dsimp only [zaft, Option.toList, List.cons_append, List.nil_append, Nat.add_zero]
    refine zr_aload_n (pc := 11) S dX8_copyFrom_11 rfl ?_
    refine zr_getR (pc := 12) S fX8_copyFrom_21 dX8_copyFrom_12 rfl (Nat.le_of_ble_eq_true rfl) rfl ?_
    refine zr_aload_n (pc := 15) S dX8_copyFrom_15 rfl ?_
    refine zr_getR (pc := 16) S fX8_copyFrom_21 dX8_copyFrom_16 rfl (Nat.le_of_ble_eq_true rfl) rfl ?_
    refine zr_invV (pc := 19) S [zR _] (m_X2_copyFrom _) kX8_copyFrom_68 dX8_copyFrom_19 rfl (Nat.le_of_ble_eq_true rfl) rfl (Nat.le_of_ble_eq_true rfl) ⟨Nat.le_of_ble_eq_true rfl, Nat.le_of_ble_eq_true rfl⟩ (us_X2_copyFrom (by decide) ?_)
    dsimp only [zaft, Option.toList, List.cons_append, List.nil_append, Nat.add_zero]
    refine zr_aload_n (pc := 22) S dX8_copyFrom_22 rfl ?_
    refine zr_getR (pc := 23) S fX8_copyFrom_28 dX8_copyFrom_23 rfl (Nat.le_of_ble_eq_true rfl) rfl ?_
    refine zr_aload_n (pc := 26) S dX8_copyFrom_26 rfl ?_
    refine zr_getR (pc := 27) S fX8_copyFrom_28 dX8_copyFrom_27 rfl (Nat.le_of_ble_eq_true rfl) rfl ?_
    refine zr_invV (pc := 30) S [zR _] (m_X9_copyFrom _) kX8_copyFrom_71 dX8_copyFrom_30 rfl (Nat.le_of_ble_eq_true rfl) rfl (Nat.le_of_ble_eq_true rfl) ⟨Nat.le_of_ble_eq_true rfl, Nat.le_of_ble_eq_true rfl⟩ (us_X9_copyFrom (by decide) ?_)
    dsimp only [zaft, Option.toList, List.cons_append, List.nil_append, Nat.add_zero]
    refine zr_aload_n (pc := 33) S dX8_copyFrom_33 rfl ?_
    refine zr_aload_n (pc := 34) S dX8_copyFrom_34 rfl ?_
    refine zr_getI (pc := 35) S fX8_copyFrom_54 dX8_copyFrom_35 rfl (Nat.le_of_ble_eq_true rfl) rfl ?_
    refine zr_putI (pc := 38) S pX8_copyFrom_54 dX8_copyFrom_38 rfl (Nat.le_of_ble_eq_true rfl) rfl ?_
    refine zr_aload_n (pc := 41) S dX8_copyFrom_41 rfl ?_
    refine zr_getR (pc := 42) S fX8_copyFrom_32 dX8_copyFrom_42 rfl (Nat.le_of_ble_eq_true rfl) rfl ?_
    try simp only [zup_k, zup_e, ne_eq, Nat.reduceEqDiff, not_false_eq_true, zup_j]
    refine zr_aload_n (pc := 45) S dX8_copyFrom_45 rfl ?_
    refine zr_getR (pc := 46) S fX8_copyFrom_32 dX8_copyFrom_46 rfl (Nat.le_of_ble_eq_true rfl) rfl ?_
    try simp only [zup_k, zup_e, ne_eq, Nat.reduceEqDiff, not_false_eq_true, zup_j]
    refine zr_invN (pc := 49) S [zR _, zR _] (m_X11_copyRow _) (List.mem_of_getElem? (i := 8) rfl) kX8_copyFrom_74 dX8_copyFrom_49 (Nat.le_of_ble_eq_true rfl) ⟨Nat.le_of_ble_eq_true rfl, Nat.le_of_ble_eq_true rfl⟩ (us_X11_copyRow rfl rfl (Nat.le_of_ble_eq_true rfl) (Nat.le_of_ble_eq_true rfl) (by decide) ?_)
    dsimp only [zaft, Option.toList, List.cons_append, List.nil_append, Nat.add_zero]
    refine zr_aload_n (pc := 52) S dX8_copyFrom_52 rfl ?_
    refine zr_aload_n (pc := 53) S dX8_copyFrom_53 rfl ?_
    refine zr_getI (pc := 54) S fX8_copyFrom_58 dX8_copyFrom_54 rfl (Nat.le_of_ble_eq_true rfl) rfl ?_
    try simp only [zup_k, zup_e, ne_eq, Nat.reduceEqDiff, not_false_eq_true, zup_j]
    refine zr_putI (pc := 57) S pX8_copyFrom_58 dX8_copyFrom_57 rfl (Nat.le_of_ble_eq_true rfl) rfl ?_
    refine zr_aload_n (pc := 60) S dX8_copyFrom_60 rfl ?_
    refine zr_getR (pc := 61) S fX8_copyFrom_36 dX8_copyFrom_61 rfl (Nat.le_of_ble_eq_true rfl) rfl ?_
    try simp only [zup_k, zup_e, ne_eq, Nat.reduceEqDiff, not_false_eq_true, zup_j]
    refine zr_aload_n (pc := 64) S dX8_copyFrom_64 rfl ?_
    refine zr_getR (pc := 65) S fX8_copyFrom_36 dX8_copyFrom_65 rfl (Nat.le_of_ble_eq_true rfl) rfl ?_
    try simp only [zup_k, zup_e, ne_eq, Nat.reduceEqDiff, not_false_eq_true, zup_j]
    refine zr_invN (pc := 68) S [zR _, zR _] (m_X11_copyRow _) (List.mem_of_getElem? (i := 8) rfl) kX8_copyFrom_74 dX8_copyFrom_68 (Nat.le_of_ble_eq_true rfl) ⟨Nat.le_of_ble_eq_true rfl, Nat.le_of_ble_eq_true rfl⟩ (us_X11_copyRow rfl rfl (Nat.le_of_ble_eq_true rfl) (Nat.le_of_ble_eq_true rfl) (by decide) ?_)
    dsimp only [zaft, Option.toList, List.cons_append, List.nil_append, Nat.add_zero]
    refine zr_aload_n (pc := 71) S dX8_copyFrom_71 rfl ?_
    refine zr_getR (pc := 72) S fX8_copyFrom_39 dX8_copyFrom_72 rfl (Nat.le_of_ble_eq_true rfl) rfl ?_
    try simp only [zup_k, zup_e, ne_eq, Nat.reduceEqDiff, not_false_eq_true, zup_j]
    refine zr_aload_n (pc := 75) S dX8_copyFrom_75 rfl ?_
    refine zr_getR (pc := 76) S fX8_copyFrom_39 dX8_copyFrom_76 rfl (Nat.le_of_ble_eq_true rfl) rfl ?_
    try simp only [zup_k, zup_e, ne_eq, Nat.reduceEqDiff, not_false_eq_true, zup_j]
    refine zr_invN (pc := 79) S [zR _, zR _] (m_X11_copyRow _) (List.mem_of_getElem? (i := 8) rfl) kX8_copyFrom_74 dX8_copyFrom_79 (Nat.le_of_ble_eq_true rfl) ⟨Nat.le_of_ble_eq_true rfl, Nat.le_of_ble_eq_true rfl⟩ (us_X11_copyRow rfl rfl (Nat.le_of_ble_eq_true rfl) (Nat.le_of_ble_eq_true rfl) (by decide) ?_)
    dsimp only [zaft, Option.toList, List.cons_append, List.nil_append, Nat.add_zero]
    refine zr_aload_n (pc := 82) S dX8_copyFrom_82 rfl ?_
    refine zr_getR (pc := 83) S fX8_copyFrom_42 dX8_copyFrom_83 rfl (Nat.le_of_ble_eq_true rfl) rfl ?_
    try simp only [zup_k, zup_e, ne_eq, Nat.reduceEqDiff, not_false_eq_true, zup_j]
    refine zr_aload_n (pc := 86) S dX8_copyFrom_86 rfl ?_
    refine zr_getR (pc := 87) S fX8_copyFrom_42 dX8_copyFrom_87 rfl (Nat.le_of_ble_eq_true rfl) rfl ?_
    try simp only [zup_k, zup_e, ne_eq, Nat.reduceEqDiff, not_false_eq_true, zup_j]
    refine zr_invN (pc := 90) S [zR _, zR _] (m_X11_copyRow _) (List.mem_of_getElem? (i := 8) rfl) kX8_copyFrom_74 dX8_copyFrom_90 (Nat.le_of_ble_eq_true rfl) ⟨Nat.le_of_ble_eq_true rfl, Nat.le_of_ble_eq_true rfl⟩ (us_X11_copyRow rfl rfl (Nat.le_of_ble_eq_true rfl) (Nat.le_of_ble_eq_true rfl) (by decide) ?_)
    dsimp only [zaft, Option.toList, List.cons_append, List.nil_append, Nat.add_zero]
    refine zr_aload_n (pc := 93) S dX8_copyFrom_93 rfl ?_
    refine zr_getR (pc := 94) S fX8_copyFrom_45 dX8_copyFrom_94 rfl (Nat.le_of_ble_eq_true rfl) rfl ?_
    try simp only [zup_k, zup_e, ne_eq, Nat.reduceEqDiff, not_false_eq_true, zup_j]
    refine zr_aload_n (pc := 97) S dX8_copyFrom_97 rfl ?_
    refine zr_getR (pc := 98) S fX8_copyFrom_45 dX8_copyFrom_98 rfl (Nat.le_of_ble_eq_true rfl) rfl ?_
    try simp only [zup_k, zup_e, ne_eq, Nat.reduceEqDiff, not_false_eq_true, zup_j]
    refine zr_invN (pc := 101) S [zR _, zR _] (m_X11_copyRow _) (List.mem_of_getElem? (i := 8) rfl) kX8_copyFrom_74 dX8_copyFrom_101 (Nat.le_of_ble_eq_true rfl) ⟨Nat.le_of_ble_eq_true rfl, Nat.le_of_ble_eq_true rfl⟩ (us_X11_copyRow rfl rfl (Nat.le_of_ble_eq_true rfl) (Nat.le_of_ble_eq_true rfl) (by decide) ?_)
    dsimp only [zaft, Option.toList, List.cons_append, List.nil_append, Nat.add_zero]
    refine zr_aload_n (pc := 104) S dX8_copyFrom_104 rfl ?_
    refine zr_aload_n (pc := 105) S dX8_copyFrom_105 rfl ?_
    refine zr_getI (pc := 106) S fX8_copyFrom_61 dX8_copyFrom_106 rfl (Nat.le_of_ble_eq_true rfl) rfl ?_
    try simp only [zup_k, zup_e, ne_eq, Nat.reduceEqDiff, not_false_eq_true, zup_j]
    refine zr_putI (pc := 109) S pX8_copyFrom_61 dX8_copyFrom_109 rfl (Nat.le_of_ble_eq_true rfl) rfl ?_
    refine zr_aload_n (pc := 112) S dX8_copyFrom_112 rfl ?_
    refine zr_getR (pc := 113) S fX8_copyFrom_48 dX8_copyFrom_113 rfl (Nat.le_of_ble_eq_true rfl) rfl ?_
    try simp only [zup_k, zup_e, ne_eq, Nat.reduceEqDiff, not_false_eq_true, zup_j]
    refine zr_aload_n (pc := 116) S dX8_copyFrom_116 rfl ?_
    refine zr_getR (pc := 117) S fX8_copyFrom_48 dX8_copyFrom_117 rfl (Nat.le_of_ble_eq_true rfl) rfl ?_
    try simp only [zup_k, zup_e, ne_eq, Nat.reduceEqDiff, not_false_eq_true, zup_j]
    refine zr_invN (pc := 120) S [zR _, zR _] (m_X11_copyRow _) (List.mem_of_getElem? (i := 8) rfl) kX8_copyFrom_74 dX8_copyFrom_120 (Nat.le_of_ble_eq_true rfl) ⟨Nat.le_of_ble_eq_true rfl, Nat.le_of_ble_eq_true rfl⟩ (us_X11_copyRow rfl rfl (Nat.le_of_ble_eq_true rfl) (Nat.le_of_ble_eq_true rfl) (by decide) ?_)
    dsimp only [zaft, Option.toList, List.cons_append, List.nil_append, Nat.add_zero]
    refine zr_aload_n (pc := 123) S dX8_copyFrom_123 rfl ?_
    refine zr_getR (pc := 124) S fX8_copyFrom_51 dX8_copyFrom_124 rfl (Nat.le_of_ble_eq_true rfl) rfl ?_
    try simp only [zup_k, zup_e, ne_eq, Nat.reduceEqDiff, not_false_eq_true, zup_j]
    refine zr_aload_n (pc := 127) S dX8_copyFrom_127 rfl ?_
    refine zr_getR (pc := 128) S fX8_copyFrom_51 dX8_copyFrom_128 rfl (Nat.le_of_ble_eq_true rfl) rfl ?_
    try simp only [zup_k, zup_e, ne_eq, Nat.reduceEqDiff, not_false_eq_true, zup_j]
    refine zr_invN (pc := 131) S [zR _, zR _] (m_X11_copyRow _) (List.mem_of_getElem? (i := 8) rfl) kX8_copyFrom_74 dX8_copyFrom_131 (Nat.le_of_ble_eq_true rfl) ⟨Nat.le_of_ble_eq_true rfl, Nat.le_of_ble_eq_true rfl⟩ (us_X11_copyRow rfl rfl (Nat.le_of_ble_eq_true rfl) (Nat.le_of_ble_eq_true rfl) (by decide) ?_)
    dsimp only [zaft, Option.toList, List.cons_append, List.nil_append, Nat.add_zero]
    exact zr_vret (pc := 134) S dX8_copyFrom_134 rfl ⟨Nat.le_refl _, Nat.le_refl _⟩ (zqm hQ ((((((((((((((cpP.z (M := M) (a := 67) (b := 1) (n := 35) (by omega)).b 1 9 csS_r (by omega)).b 10 6 csG_r (by omega)).b 16 12 csT_r (by omega)).p 0 3 (by omega)).r 28 6 (by omega)).p 0 5 (by omega)).r 29 5 (by omega)).r 30 20 (by omega)).r 31 5 (by omega)).r 32 5 (by omega)).p 0 10 (by omega)).r 33 4 (by omega)).r 34 4 (by omega)).1)
  · refine zr_aload_n (pc := 0) S dX8_copyFrom_0 rfl ?_
    refine zr_getR (pc := 1) S fX8_copyFrom_12 dX8_copyFrom_1 rfl (Nat.le_of_ble_eq_true rfl) rfl ?_
    refine zr_aload_n (pc := 4) S dX8_copyFrom_4 rfl ?_
    refine zr_getR (pc := 5) S fX8_copyFrom_12 dX8_copyFrom_5 rfl (Nat.le_of_ble_eq_true rfl) rfl ?_
    refine zr_invV (pc := 8) S [zR _] (m_X7_copyFrom _) kX8_copyFrom_64 dX8_copyFrom_8 rfl (Nat.le_of_ble_eq_true rfl) rfl (Nat.le_of_ble_eq_true rfl) ⟨Nat.le_of_ble_eq_true rfl, Nat.le_of_ble_eq_true rfl⟩ (us_X7_copyFrom (by decide) ?_)
    dsimp only [zaft, Option.toList, List.cons_append, List.nil_append, Nat.add_zero]
    refine zr_aload_n (pc := 11) S dX8_copyFrom_11 rfl ?_
    refine zr_getR (pc := 12) S fX8_copyFrom_21 dX8_copyFrom_12 rfl (Nat.le_of_ble_eq_true rfl) rfl ?_
    refine zr_aload_n (pc := 15) S dX8_copyFrom_15 rfl ?_
    refine zr_getR (pc := 16) S fX8_copyFrom_21 dX8_copyFrom_16 rfl (Nat.le_of_ble_eq_true rfl) rfl ?_
    refine zr_invV (pc := 19) S [zR _] (m_X2_copyFrom _) kX8_copyFrom_68 dX8_copyFrom_19 rfl (Nat.le_of_ble_eq_true rfl) rfl (Nat.le_of_ble_eq_true rfl) ⟨Nat.le_of_ble_eq_true rfl, Nat.le_of_ble_eq_true rfl⟩ (us_X2_copyFrom (by decide) ?_)
    dsimp only [zaft, Option.toList, List.cons_append, List.nil_append, Nat.add_zero]
    refine zr_aload_n (pc := 22) S dX8_copyFrom_22 rfl ?_
    refine zr_getR (pc := 23) S fX8_copyFrom_28 dX8_copyFrom_23 rfl (Nat.le_of_ble_eq_true rfl) rfl ?_
    refine zr_aload_n (pc := 26) S dX8_copyFrom_26 rfl ?_
    refine zr_getR (pc := 27) S fX8_copyFrom_28 dX8_copyFrom_27 rfl (Nat.le_of_ble_eq_true rfl) rfl ?_
    refine zr_invV (pc := 30) S [zR _] (m_X9_copyFrom _) kX8_copyFrom_71 dX8_copyFrom_30 rfl (Nat.le_of_ble_eq_true rfl) rfl (Nat.le_of_ble_eq_true rfl) ⟨Nat.le_of_ble_eq_true rfl, Nat.le_of_ble_eq_true rfl⟩ (us_X9_copyFrom (by decide) ?_)
    dsimp only [zaft, Option.toList, List.cons_append, List.nil_append, Nat.add_zero]
    refine zr_aload_n (pc := 33) S dX8_copyFrom_33 rfl ?_
    refine zr_aload_n (pc := 34) S dX8_copyFrom_34 rfl ?_
    refine zr_getI (pc := 35) S fX8_copyFrom_54 dX8_copyFrom_35 rfl (Nat.le_of_ble_eq_true rfl) rfl ?_
    refine zr_putI (pc := 38) S pX8_copyFrom_54 dX8_copyFrom_38 rfl (Nat.le_of_ble_eq_true rfl) rfl ?_
    refine zr_aload_n (pc := 41) S dX8_copyFrom_41 rfl ?_
    refine zr_getR (pc := 42) S fX8_copyFrom_32 dX8_copyFrom_42 rfl (Nat.le_of_ble_eq_true rfl) rfl ?_
    try simp only [zup_k, zup_e, ne_eq, Nat.reduceEqDiff, not_false_eq_true, zup_j]
    refine zr_aload_n (pc := 45) S dX8_copyFrom_45 rfl ?_
    refine zr_getR (pc := 46) S fX8_copyFrom_32 dX8_copyFrom_46 rfl (Nat.le_of_ble_eq_true rfl) rfl ?_
    try simp only [zup_k, zup_e, ne_eq, Nat.reduceEqDiff, not_false_eq_true, zup_j]
    refine zr_invN (pc := 49) S [zR _, zR _] (m_X11_copyRow _) (List.mem_of_getElem? (i := 8) rfl) kX8_copyFrom_74 dX8_copyFrom_49 (Nat.le_of_ble_eq_true rfl) ⟨Nat.le_of_ble_eq_true rfl, Nat.le_of_ble_eq_true rfl⟩ (us_X11_copyRow rfl rfl (Nat.le_of_ble_eq_true rfl) (Nat.le_of_ble_eq_true rfl) (by decide) ?_)
    dsimp only [zaft, Option.toList, List.cons_append, List.nil_append, Nat.add_zero]
    refine zr_aload_n (pc := 52) S dX8_copyFrom_52 rfl ?_
    refine zr_aload_n (pc := 53) S dX8_copyFrom_53 rfl ?_
    refine zr_getI (pc := 54) S fX8_copyFrom_58 dX8_copyFrom_54 rfl (Nat.le_of_ble_eq_true rfl) rfl ?_
    try simp only [zup_k, zup_e, ne_eq, Nat.reduceEqDiff, not_false_eq_true, zup_j]
    refine zr_putI (pc := 57) S pX8_copyFrom_58 dX8_copyFrom_57 rfl (Nat.le_of_ble_eq_true rfl) rfl ?_
    refine zr_aload_n (pc := 60) S dX8_copyFrom_60 rfl ?_
    refine zr_getR (pc := 61) S fX8_copyFrom_36 dX8_copyFrom_61 rfl (Nat.le_of_ble_eq_true rfl) rfl ?_
    try simp only [zup_k, zup_e, ne_eq, Nat.reduceEqDiff, not_false_eq_true, zup_j]
    refine zr_aload_n (pc := 64) S dX8_copyFrom_64 rfl ?_
    refine zr_getR (pc := 65) S fX8_copyFrom_36 dX8_copyFrom_65 rfl (Nat.le_of_ble_eq_true rfl) rfl ?_
    try simp only [zup_k, zup_e, ne_eq, Nat.reduceEqDiff, not_false_eq_true, zup_j]
    refine zr_invN (pc := 68) S [zR _, zR _] (m_X11_copyRow _) (List.mem_of_getElem? (i := 8) rfl) kX8_copyFrom_74 dX8_copyFrom_68 (Nat.le_of_ble_eq_true rfl) ⟨Nat.le_of_ble_eq_true rfl, Nat.le_of_ble_eq_true rfl⟩ (us_X11_copyRow rfl rfl (Nat.le_of_ble_eq_true rfl) (Nat.le_of_ble_eq_true rfl) (by decide) ?_)
    dsimp only [zaft, Option.toList, List.cons_append, List.nil_append, Nat.add_zero]
    refine zr_aload_n (pc := 71) S dX8_copyFrom_71 rfl ?_
    refine zr_getR (pc := 72) S fX8_copyFrom_39 dX8_copyFrom_72 rfl (Nat.le_of_ble_eq_true rfl) rfl ?_
    try simp only [zup_k, zup_e, ne_eq, Nat.reduceEqDiff, not_false_eq_true, zup_j]
    refine zr_aload_n (pc := 75) S dX8_copyFrom_75 rfl ?_
    refine zr_getR (pc := 76) S fX8_copyFrom_39 dX8_copyFrom_76 rfl (Nat.le_of_ble_eq_true rfl) rfl ?_
    try simp only [zup_k, zup_e, ne_eq, Nat.reduceEqDiff, not_false_eq_true, zup_j]
    refine zr_invN (pc := 79) S [zR _, zR _] (m_X11_copyRow _) (List.mem_of_getElem? (i := 8) rfl) kX8_copyFrom_74 dX8_copyFrom_79 (Nat.le_of_ble_eq_true rfl) ⟨Nat.le_of_ble_eq_true rfl, Nat.le_of_ble_eq_true rfl⟩ (us_X11_copyRow rfl rfl (Nat.le_of_ble_eq_true rfl) (Nat.le_of_ble_eq_true rfl) (by decide) ?_)
    dsimp only [zaft, Option.toList, List.cons_append, List.nil_append, Nat.add_zero]
    refine zr_aload_n (pc := 82) S dX8_copyFrom_82 rfl ?_
    refine zr_getR (pc := 83) S fX8_copyFrom_42 dX8_copyFrom_83 rfl (Nat.le_of_ble_eq_true rfl) rfl ?_
    try simp only [zup_k, zup_e, ne_eq, Nat.reduceEqDiff, not_false_eq_true, zup_j]
    refine zr_aload_n (pc := 86) S dX8_copyFrom_86 rfl ?_
    refine zr_getR (pc := 87) S fX8_copyFrom_42 dX8_copyFrom_87 rfl (Nat.le_of_ble_eq_true rfl) rfl ?_
    try simp only [zup_k, zup_e, ne_eq, Nat.reduceEqDiff, not_false_eq_true, zup_j]
    refine zr_invN (pc := 90) S [zR _, zR _] (m_X11_copyRow _) (List.mem_of_getElem? (i := 8) rfl) kX8_copyFrom_74 dX8_copyFrom_90 (Nat.le_of_ble_eq_true rfl) ⟨Nat.le_of_ble_eq_true rfl, Nat.le_of_ble_eq_true rfl⟩ (us_X11_copyRow rfl rfl (Nat.le_of_ble_eq_true rfl) (Nat.le_of_ble_eq_true rfl) (by decide) ?_)
    dsimp only [zaft, Option.toList, List.cons_append, List.nil_append, Nat.add_zero]
    refine zr_aload_n (pc := 93) S dX8_copyFrom_93 rfl ?_
    refine zr_getR (pc := 94) S fX8_copyFrom_45 dX8_copyFrom_94 rfl (Nat.le_of_ble_eq_true rfl) rfl ?_
    try simp only [zup_k, zup_e, ne_eq, Nat.reduceEqDiff, not_false_eq_true, zup_j]
    refine zr_aload_n (pc := 97) S dX8_copyFrom_97 rfl ?_
    refine zr_getR (pc := 98) S fX8_copyFrom_45 dX8_copyFrom_98 rfl (Nat.le_of_ble_eq_true rfl) rfl ?_
    try simp only [zup_k, zup_e, ne_eq, Nat.reduceEqDiff, not_false_eq_true, zup_j]
    refine zr_invN (pc := 101) S [zR _, zR _] (m_X11_copyRow _) (List.mem_of_getElem? (i := 8) rfl) kX8_copyFrom_74 dX8_copyFrom_101 (Nat.le_of_ble_eq_true rfl) ⟨Nat.le_of_ble_eq_true rfl, Nat.le_of_ble_eq_true rfl⟩ (us_X11_copyRow rfl rfl (Nat.le_of_ble_eq_true rfl) (Nat.le_of_ble_eq_true rfl) (by decide) ?_)
    dsimp only [zaft, Option.toList, List.cons_append, List.nil_append, Nat.add_zero]
    refine zr_aload_n (pc := 104) S dX8_copyFrom_104 rfl ?_
    refine zr_aload_n (pc := 105) S dX8_copyFrom_105 rfl ?_
    refine zr_getI (pc := 106) S fX8_copyFrom_61 dX8_copyFrom_106 rfl (Nat.le_of_ble_eq_true rfl) rfl ?_
    try simp only [zup_k, zup_e, ne_eq, Nat.reduceEqDiff, not_false_eq_true, zup_j]
    refine zr_putI (pc := 109) S pX8_copyFrom_61 dX8_copyFrom_109 rfl (Nat.le_of_ble_eq_true rfl) rfl ?_
    refine zr_aload_n (pc := 112) S dX8_copyFrom_112 rfl ?_
    refine zr_getR (pc := 113) S fX8_copyFrom_48 dX8_copyFrom_113 rfl (Nat.le_of_ble_eq_true rfl) rfl ?_
    try simp only [zup_k, zup_e, ne_eq, Nat.reduceEqDiff, not_false_eq_true, zup_j]
    refine zr_aload_n (pc := 116) S dX8_copyFrom_116 rfl ?_
    refine zr_getR (pc := 117) S fX8_copyFrom_48 dX8_copyFrom_117 rfl (Nat.le_of_ble_eq_true rfl) rfl ?_
    try simp only [zup_k, zup_e, ne_eq, Nat.reduceEqDiff, not_false_eq_true, zup_j]
    refine zr_invN (pc := 120) S [zR _, zR _] (m_X11_copyRow _) (List.mem_of_getElem? (i := 8) rfl) kX8_copyFrom_74 dX8_copyFrom_120 (Nat.le_of_ble_eq_true rfl) ⟨Nat.le_of_ble_eq_true rfl, Nat.le_of_ble_eq_true rfl⟩ (us_X11_copyRow rfl rfl (Nat.le_of_ble_eq_true rfl) (Nat.le_of_ble_eq_true rfl) (by decide) ?_)
    dsimp only [zaft, Option.toList, List.cons_append, List.nil_append, Nat.add_zero]
    refine zr_aload_n (pc := 123) S dX8_copyFrom_123 rfl ?_
    refine zr_getR (pc := 124) S fX8_copyFrom_51 dX8_copyFrom_124 rfl (Nat.le_of_ble_eq_true rfl) rfl ?_
    try simp only [zup_k, zup_e, ne_eq, Nat.reduceEqDiff, not_false_eq_true, zup_j]
    refine zr_aload_n (pc := 127) S dX8_copyFrom_127 rfl ?_
    refine zr_getR (pc := 128) S fX8_copyFrom_51 dX8_copyFrom_128 rfl (Nat.le_of_ble_eq_true rfl) rfl ?_
    try simp only [zup_k, zup_e, ne_eq, Nat.reduceEqDiff, not_false_eq_true, zup_j]
    refine zr_invN (pc := 131) S [zR _, zR _] (m_X11_copyRow _) (List.mem_of_getElem? (i := 8) rfl) kX8_copyFrom_74 dX8_copyFrom_131 (Nat.le_of_ble_eq_true rfl) ⟨Nat.le_of_ble_eq_true rfl, Nat.le_of_ble_eq_true rfl⟩ (us_X11_copyRow rfl rfl (Nat.le_of_ble_eq_true rfl) (Nat.le_of_ble_eq_true rfl) (by decide) ?_)
    dsimp only [zaft, Option.toList, List.cons_append, List.nil_append, Nat.add_zero]
    exact zr_vret (pc := 134) S dX8_copyFrom_134 rfl ⟨Nat.le_refl _, Nat.le_refl _⟩ (zqm hQ ((((((((((((((cpP.z (M := M) (a := 102) (b := 1) (n := 35) (by omega)).b 1 9 csS_r (by omega)).b 10 6 csG_r (by omega)).b 16 12 csT_r (by omega)).p 0 3 (by omega)).r 28 6 (by omega)).p 0 5 (by omega)).r 29 5 (by omega)).r 30 20 (by omega)).r 31 5 (by omega)).r 32 5 (by omega)).p 0 10 (by omega)).r 33 4 (by omega)).r 34 4 (by omega)).1)
  · refine zr_aload_n (pc := 0) S dX8_copyFrom_0 rfl ?_
    refine zr_getR (pc := 1) S fX8_copyFrom_12 dX8_copyFrom_1 rfl (Nat.le_of_ble_eq_true rfl) rfl ?_
    refine zr_aload_n (pc := 4) S dX8_copyFrom_4 rfl ?_
    refine zr_getR (pc := 5) S fX8_copyFrom_12 dX8_copyFrom_5 rfl (Nat.le_of_ble_eq_true rfl) rfl ?_
    refine zr_invV (pc := 8) S [zR _] (m_X7_copyFrom _) kX8_copyFrom_64 dX8_copyFrom_8 rfl (Nat.le_of_ble_eq_true rfl) rfl (Nat.le_of_ble_eq_true rfl) ⟨Nat.le_of_ble_eq_true rfl, Nat.le_of_ble_eq_true rfl⟩ (us_X7_copyFrom (by decide) ?_)
    dsimp only [zaft, Option.toList, List.cons_append, List.nil_append, Nat.add_zero]
    refine zr_aload_n (pc := 11) S dX8_copyFrom_11 rfl ?_
    refine zr_getR (pc := 12) S fX8_copyFrom_21 dX8_copyFrom_12 rfl (Nat.le_of_ble_eq_true rfl) rfl ?_
    refine zr_aload_n (pc := 15) S dX8_copyFrom_15 rfl ?_
    refine zr_getR (pc := 16) S fX8_copyFrom_21 dX8_copyFrom_16 rfl (Nat.le_of_ble_eq_true rfl) rfl ?_
    refine zr_invV (pc := 19) S [zR _] (m_X2_copyFrom _) kX8_copyFrom_68 dX8_copyFrom_19 rfl (Nat.le_of_ble_eq_true rfl) rfl (Nat.le_of_ble_eq_true rfl) ⟨Nat.le_of_ble_eq_true rfl, Nat.le_of_ble_eq_true rfl⟩ (us_X2_copyFrom (by decide) ?_)
    dsimp only [zaft, Option.toList, List.cons_append, List.nil_append, Nat.add_zero]
    refine zr_aload_n (pc := 22) S dX8_copyFrom_22 rfl ?_
    refine zr_getR (pc := 23) S fX8_copyFrom_28 dX8_copyFrom_23 rfl (Nat.le_of_ble_eq_true rfl) rfl ?_
    refine zr_aload_n (pc := 26) S dX8_copyFrom_26 rfl ?_
    refine zr_getR (pc := 27) S fX8_copyFrom_28 dX8_copyFrom_27 rfl (Nat.le_of_ble_eq_true rfl) rfl ?_
    refine zr_invV (pc := 30) S [zR _] (m_X9_copyFrom _) kX8_copyFrom_71 dX8_copyFrom_30 rfl (Nat.le_of_ble_eq_true rfl) rfl (Nat.le_of_ble_eq_true rfl) ⟨Nat.le_of_ble_eq_true rfl, Nat.le_of_ble_eq_true rfl⟩ (us_X9_copyFrom (by decide) ?_)
    dsimp only [zaft, Option.toList, List.cons_append, List.nil_append, Nat.add_zero]
    refine zr_aload_n (pc := 33) S dX8_copyFrom_33 rfl ?_
    refine zr_aload_n (pc := 34) S dX8_copyFrom_34 rfl ?_
    refine zr_getI (pc := 35) S fX8_copyFrom_54 dX8_copyFrom_35 rfl (Nat.le_of_ble_eq_true rfl) rfl ?_
    refine zr_putI (pc := 38) S pX8_copyFrom_54 dX8_copyFrom_38 rfl (Nat.le_of_ble_eq_true rfl) rfl ?_
    refine zr_aload_n (pc := 41) S dX8_copyFrom_41 rfl ?_
    refine zr_getR (pc := 42) S fX8_copyFrom_32 dX8_copyFrom_42 rfl (Nat.le_of_ble_eq_true rfl) rfl ?_
    try simp only [zup_k, zup_e, ne_eq, Nat.reduceEqDiff, not_false_eq_true, zup_j]
    refine zr_aload_n (pc := 45) S dX8_copyFrom_45 rfl ?_
    refine zr_getR (pc := 46) S fX8_copyFrom_32 dX8_copyFrom_46 rfl (Nat.le_of_ble_eq_true rfl) rfl ?_
    try simp only [zup_k, zup_e, ne_eq, Nat.reduceEqDiff, not_false_eq_true, zup_j]
    refine zr_invN (pc := 49) S [zR _, zR _] (m_X11_copyRow _) (List.mem_of_getElem? (i := 8) rfl) kX8_copyFrom_74 dX8_copyFrom_49 (Nat.le_of_ble_eq_true rfl) ⟨Nat.le_of_ble_eq_true rfl, Nat.le_of_ble_eq_true rfl⟩ (us_X11_copyRow rfl rfl (Nat.le_of_ble_eq_true rfl) (Nat.le_of_ble_eq_true rfl) (by decide) ?_)
    dsimp only [zaft, Option.toList, List.cons_append, List.nil_append, Nat.add_zero]
    refine zr_aload_n (pc := 52) S dX8_copyFrom_52 rfl ?_
    refine zr_aload_n (pc := 53) S dX8_copyFrom_53 rfl ?_
    refine zr_getI (pc := 54) S fX8_copyFrom_58 dX8_copyFrom_54 rfl (Nat.le_of_ble_eq_true rfl) rfl ?_
    try simp only [zup_k, zup_e, ne_eq, Nat.reduceEqDiff, not_false_eq_true, zup_j]
    refine zr_putI (pc := 57) S pX8_copyFrom_58 dX8_copyFrom_57 rfl (Nat.le_of_ble_eq_true rfl) rfl ?_
    refine zr_aload_n (pc := 60) S dX8_copyFrom_60 rfl ?_
    refine zr_getR (pc := 61) S fX8_copyFrom_36 dX8_copyFrom_61 rfl (Nat.le_of_ble_eq_true rfl) rfl ?_
    try simp only [zup_k, zup_e, ne_eq, Nat.reduceEqDiff, not_false_eq_true, zup_j]
    refine zr_aload_n (pc := 64) S dX8_copyFrom_64 rfl ?_
    refine zr_getR (pc := 65) S fX8_copyFrom_36 dX8_copyFrom_65 rfl (Nat.le_of_ble_eq_true rfl) rfl ?_
    try simp only [zup_k, zup_e, ne_eq, Nat.reduceEqDiff, not_false_eq_true, zup_j]
    refine zr_invN (pc := 68) S [zR _, zR _] (m_X11_copyRow _) (List.mem_of_getElem? (i := 8) rfl) kX8_copyFrom_74 dX8_copyFrom_68 (Nat.le_of_ble_eq_true rfl) ⟨Nat.le_of_ble_eq_true rfl, Nat.le_of_ble_eq_true rfl⟩ (us_X11_copyRow rfl rfl (Nat.le_of_ble_eq_true rfl) (Nat.le_of_ble_eq_true rfl) (by decide) ?_)
    dsimp only [zaft, Option.toList, List.cons_append, List.nil_append, Nat.add_zero]
    refine zr_aload_n (pc := 71) S dX8_copyFrom_71 rfl ?_
    refine zr_getR (pc := 72) S fX8_copyFrom_39 dX8_copyFrom_72 rfl (Nat.le_of_ble_eq_true rfl) rfl ?_
    try simp only [zup_k, zup_e, ne_eq, Nat.reduceEqDiff, not_false_eq_true, zup_j]
    refine zr_aload_n (pc := 75) S dX8_copyFrom_75 rfl ?_
    refine zr_getR (pc := 76) S fX8_copyFrom_39 dX8_copyFrom_76 rfl (Nat.le_of_ble_eq_true rfl) rfl ?_
    try simp only [zup_k, zup_e, ne_eq, Nat.reduceEqDiff, not_false_eq_true, zup_j]
    refine zr_invN (pc := 79) S [zR _, zR _] (m_X11_copyRow _) (List.mem_of_getElem? (i := 8) rfl) kX8_copyFrom_74 dX8_copyFrom_79 (Nat.le_of_ble_eq_true rfl) ⟨Nat.le_of_ble_eq_true rfl, Nat.le_of_ble_eq_true rfl⟩ (us_X11_copyRow rfl rfl (Nat.le_of_ble_eq_true rfl) (Nat.le_of_ble_eq_true rfl) (by decide) ?_)
    dsimp only [zaft, Option.toList, List.cons_append, List.nil_append, Nat.add_zero]
    refine zr_aload_n (pc := 82) S dX8_copyFrom_82 rfl ?_
    refine zr_getR (pc := 83) S fX8_copyFrom_42 dX8_copyFrom_83 rfl (Nat.le_of_ble_eq_true rfl) rfl ?_
    try simp only [zup_k, zup_e, ne_eq, Nat.reduceEqDiff, not_false_eq_true, zup_j]
    refine zr_aload_n (pc := 86) S dX8_copyFrom_86 rfl ?_
    refine zr_getR (pc := 87) S fX8_copyFrom_42 dX8_copyFrom_87 rfl (Nat.le_of_ble_eq_true rfl) rfl ?_
    try simp only [zup_k, zup_e, ne_eq, Nat.reduceEqDiff, not_false_eq_true, zup_j]
    refine zr_invN (pc := 90) S [zR _, zR _] (m_X11_copyRow _) (List.mem_of_getElem? (i := 8) rfl) kX8_copyFrom_74 dX8_copyFrom_90 (Nat.le_of_ble_eq_true rfl) ⟨Nat.le_of_ble_eq_true rfl, Nat.le_of_ble_eq_true rfl⟩ (us_X11_copyRow rfl rfl (Nat.le_of_ble_eq_true rfl) (Nat.le_of_ble_eq_true rfl) (by decide) ?_)
    dsimp only [zaft, Option.toList, List.cons_append, List.nil_append, Nat.add_zero]
    refine zr_aload_n (pc := 93) S dX8_copyFrom_93 rfl ?_
    refine zr_getR (pc := 94) S fX8_copyFrom_45 dX8_copyFrom_94 rfl (Nat.le_of_ble_eq_true rfl) rfl ?_
    try simp only [zup_k, zup_e, ne_eq, Nat.reduceEqDiff, not_false_eq_true, zup_j]
    refine zr_aload_n (pc := 97) S dX8_copyFrom_97 rfl ?_
    refine zr_getR (pc := 98) S fX8_copyFrom_45 dX8_copyFrom_98 rfl (Nat.le_of_ble_eq_true rfl) rfl ?_
    try simp only [zup_k, zup_e, ne_eq, Nat.reduceEqDiff, not_false_eq_true, zup_j]
    refine zr_invN (pc := 101) S [zR _, zR _] (m_X11_copyRow _) (List.mem_of_getElem? (i := 8) rfl) kX8_copyFrom_74 dX8_copyFrom_101 (Nat.le_of_ble_eq_true rfl) ⟨Nat.le_of_ble_eq_true rfl, Nat.le_of_ble_eq_true rfl⟩ (us_X11_copyRow rfl rfl (Nat.le_of_ble_eq_true rfl) (Nat.le_of_ble_eq_true rfl) (by decide) ?_)
    dsimp only [zaft, Option.toList, List.cons_append, List.nil_append, Nat.add_zero]
    refine zr_aload_n (pc := 104) S dX8_copyFrom_104 rfl ?_
    refine zr_aload_n (pc := 105) S dX8_copyFrom_105 rfl ?_
    refine zr_getI (pc := 106) S fX8_copyFrom_61 dX8_copyFrom_106 rfl (Nat.le_of_ble_eq_true rfl) rfl ?_
    try simp only [zup_k, zup_e, ne_eq, Nat.reduceEqDiff, not_false_eq_true, zup_j]
    refine zr_putI (pc := 109) S pX8_copyFrom_61 dX8_copyFrom_109 rfl (Nat.le_of_ble_eq_true rfl) rfl ?_
    refine zr_aload_n (pc := 112) S dX8_copyFrom_112 rfl ?_
    refine zr_getR (pc := 113) S fX8_copyFrom_48 dX8_copyFrom_113 rfl (Nat.le_of_ble_eq_true rfl) rfl ?_
    try simp only [zup_k, zup_e, ne_eq, Nat.reduceEqDiff, not_false_eq_true, zup_j]
    refine zr_aload_n (pc := 116) S dX8_copyFrom_116 rfl ?_
    refine zr_getR (pc := 117) S fX8_copyFrom_48 dX8_copyFrom_117 rfl (Nat.le_of_ble_eq_true rfl) rfl ?_
    try simp only [zup_k, zup_e, ne_eq, Nat.reduceEqDiff, not_false_eq_true, zup_j]
    refine zr_invN (pc := 120) S [zR _, zR _] (m_X11_copyRow _) (List.mem_of_getElem? (i := 8) rfl) kX8_copyFrom_74 dX8_copyFrom_120 (Nat.le_of_ble_eq_true rfl) ⟨Nat.le_of_ble_eq_true rfl, Nat.le_of_ble_eq_true rfl⟩ (us_X11_copyRow rfl rfl (Nat.le_of_ble_eq_true rfl) (Nat.le_of_ble_eq_true rfl) (by decide) ?_)
    dsimp only [zaft, Option.toList, List.cons_append, List.nil_append, Nat.add_zero]
    refine zr_aload_n (pc := 123) S dX8_copyFrom_123 rfl ?_
    refine zr_getR (pc := 124) S fX8_copyFrom_51 dX8_copyFrom_124 rfl (Nat.le_of_ble_eq_true rfl) rfl ?_
    try simp only [zup_k, zup_e, ne_eq, Nat.reduceEqDiff, not_false_eq_true, zup_j]
    refine zr_aload_n (pc := 127) S dX8_copyFrom_127 rfl ?_
    refine zr_getR (pc := 128) S fX8_copyFrom_51 dX8_copyFrom_128 rfl (Nat.le_of_ble_eq_true rfl) rfl ?_
    try simp only [zup_k, zup_e, ne_eq, Nat.reduceEqDiff, not_false_eq_true, zup_j]
    refine zr_invN (pc := 131) S [zR _, zR _] (m_X11_copyRow _) (List.mem_of_getElem? (i := 8) rfl) kX8_copyFrom_74 dX8_copyFrom_131 (Nat.le_of_ble_eq_true rfl) ⟨Nat.le_of_ble_eq_true rfl, Nat.le_of_ble_eq_true rfl⟩ (us_X11_copyRow rfl rfl (Nat.le_of_ble_eq_true rfl) (Nat.le_of_ble_eq_true rfl) (by decide) ?_)
    dsimp only [zaft, Option.toList, List.cons_append, List.nil_append, Nat.add_zero]
    exact zr_vret (pc := 134) S dX8_copyFrom_134 rfl ⟨Nat.le_refl _, Nat.le_refl _⟩ (zqm hQ ((((((((((((((cpP.z (M := M) (a := 137) (b := 1) (n := 35) (by omega)).b 1 9 csS_r (by omega)).b 10 6 csG_r (by omega)).b 16 12 csT_r (by omega)).p 0 3 (by omega)).r 28 6 (by omega)).p 0 5 (by omega)).r 29 5 (by omega)).r 30 20 (by omega)).r 31 5 (by omega)).r 32 5 (by omega)).p 0 10 (by omega)).r 33 4 (by omega)).r 34 4 (by omega)).1)
end
