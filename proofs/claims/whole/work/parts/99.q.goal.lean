section
def rmX12_readGoal : Room := { frames := 5, cells := 0, slots := 0, locals := 108 }
abbrev wzX12_readGoal : List Cond := .code yX12_readGoal cX12_readGoal 3 none :: zW
theorem fX12_readGoal_23 : zfl wzX12_readGoal RX12 vwCl 23 12 5 := ⟨_, _, _, rfl, (fun w h => List.mem_cons_of_mem _ (zWuX12 w h)), by decide, List.mem_cons_of_mem _ (zWi_9 _ (List.mem_of_getElem? (i := 17) rfl))⟩
theorem kX12_readGoal_179 : ∀ (s9 : State) (a9 : Array Value), (∀ w ∈ wzX12_readGoal, w.before a9 s9 = true) → CallW rmX12_readGoal s9 a9 RX12 RX12 179 yX12_isWord cX12_isWord 4 (some .boolean) wzX12_isWord rmX12_isWord 0 0 1 := zcV (zWi_22 _ (List.mem_of_getElem? (i := 28) rfl)) (zWi_14 _ (List.mem_of_getElem? (i := 31) rfl)) (zWi_27 _ (List.mem_of_getElem? (i := 22) rfl)) (zWi_12 _ (List.mem_of_getElem? (i := 13) rfl)) (zWi_3 _ (List.mem_of_getElem? (i := 13) rfl)) (by decide +kernel) rfl rfl ⟨Nat.le_of_ble_eq_true rfl, Nat.le_of_ble_eq_true rfl⟩
theorem kX12_readGoal_183 : ∀ (s9 : State) (a9 : Array Value), (∀ w ∈ wzX12_readGoal, w.before a9 s9 = true) → CallW rmX12_readGoal s9 a9 RX12 RX12 183 yX12_blames cX12_blames 2 none wzX12_blames rmX12_blames 0 0 1 := zcV (zWi_22 _ (List.mem_of_getElem? (i := 29) rfl)) (zWi_13 _ (List.mem_of_getElem? (i := 45) rfl)) (zWi_26 _ (List.mem_of_getElem? (i := 37) rfl)) (zWi_12 _ (List.mem_of_getElem? (i := 13) rfl)) (zWi_2 _ (List.mem_of_getElem? (i := 24) rfl)) (by decide +kernel) rfl rfl ⟨Nat.le_of_ble_eq_true rfl, Nat.le_of_ble_eq_true rfl⟩
theorem kX12_readGoal_187 : ∀ (s9 : State) (a9 : Array Value), (∀ w ∈ wzX12_readGoal, w.before a9 s9 = true) → CallW rmX12_readGoal s9 a9 RX12 RX12 187 yX12_next cX12_next 2 none wzX12_next rmX12_next 0 0 0 := zcV (zWi_22 _ (List.mem_of_getElem? (i := 30) rfl)) (zWi_14 _ (List.mem_of_getElem? (i := 48) rfl)) (zWi_27 _ (List.mem_of_getElem? (i := 39) rfl)) (zWi_12 _ (List.mem_of_getElem? (i := 13) rfl)) (zWi_3 _ (List.mem_of_getElem? (i := 30) rfl)) (by decide +kernel) rfl rfl ⟨Nat.le_of_ble_eq_true rfl, Nat.le_of_ble_eq_true rfl⟩
theorem kX12_readGoal_197 : ∀ (s9 : State) (a9 : Array Value), (∀ w ∈ wzX12_readGoal, w.before a9 s9 = true) → CallW rmX12_readGoal s9 a9 RX12 RX12 197 yX12_number cX12_number 5 (some .int) wzX12_number rmX12_number 0 0 3 := zcV (zWi_22 _ (List.mem_of_getElem? (i := 31) rfl)) (zWi_14 _ (List.mem_of_getElem? (i := 49) rfl)) (zWi_27 _ (List.mem_of_getElem? (i := 40) rfl)) (zWi_12 _ (List.mem_of_getElem? (i := 13) rfl)) (zWi_3 _ (List.mem_of_getElem? (i := 31) rfl)) (by decide +kernel) rfl rfl ⟨Nat.le_of_ble_eq_true rfl, Nat.le_of_ble_eq_true rfl⟩
/-- the token behind place p is before the reader, and no fault is found -/
def curT (M : zM) (n p : Nat) : Prop := M 180 7 = n ∧ n ≤ 400 ∧ p ≤ n ∧ M 180 9 = (tS (M 184) n p : Nat) ∧ M 180 8 = (tE (M 184) n p : Nat) ∧ M 180 10 = tK (M 184) n p ∧ (tK (M 184) n p = 2 → M 180 11 = tV (M 184) (tS (M 184) n p) (tE (M 184) n p)) ∧ M 180 12 = 0
theorem curT.nx {M M' : zM} {n p : Nat} (h : curT M n p) (g : nxM M M' n (tE (M 184) n p)) : curT M' n (tE (M 184) n p) := by
  obtain ⟨h1, h2, h3, h4, h5, h6, h7, h8⟩ := h
  have r := tE_r (t := M 184) h3
  have et : M' 184 = M 184 := g.1 _ (by decide)
  unfold curT
  rw [et]
  exact ⟨by rw [g.2.1 _ (by decide) (by decide) (by decide) (by decide)]; exact h1, h2, r.2.1, g.2.2.1, g.2.2.2.1, g.2.2.2.2.1, g.2.2.2.2.2, by rw [g.2.1 _ (by decide) (by decide) (by decide) (by decide)]; exact h8⟩
abbrev wrd (t : Nat → Int) (n p i : Nat) : Prop := tK t n p = 1 ∧ isW t (tS t n p) (tE t n p) i
/-- where and how a fault is found -/
def blP (t : Nat → Int) (n p : Nat) (k : Int) : Int × Int := (if tK t n p = 4 then 1 else k, (tS t n p : Nat))
def pGoal (t : Nat → Int) (n p : Nat) : (Int × Int) ⊕ ((Int × Int) × Nat) :=
  if wrd t n p 2 then .inr ((0, 0), tE t n p) else if wrd t n p 3 then .inr ((1, 0), tE t n p) else if wrd t n p 1 then
    (if tK t n (tE t n p) = 2 then (if tV t (tS t n (tE t n p)) (tE t n (tE t n p)) ≤ 7 then .inr ((2, tV t (tS t n (tE t n p)) (tE t n (tE t n p))), tE t n (tE t n p)) else .inl (blP t n (tE t n p) 3)) else .inl (blP t n (tE t n p) 2))
  else if wrd t n p 4 then .inr ((3, 0), tE t n p) else .inl (blP t n p 2)
/-- only the reader and the draft have changed -/
def rdO (M M' : zM) : Prop := (∀ k, k ≠ 180 → k ≠ 185 → M' k = M k) ∧ ∀ j, j ≠ 8 → j ≠ 9 → j ≠ 10 → j ≠ 11 → j ≠ 12 → j ≠ 13 → M' 180 j = M 180 j
theorem rdO.tr {A B C : zM} (h : rdO A B) (g : rdO B C) : rdO A C := ⟨fun k a b => (g.1 k a b).trans (h.1 k a b), fun j a b c d e f => (g.2 j a b c d e f).trans (h.2 j a b c d e f)⟩
theorem nxM.o {M M' : zM} {n p : Nat} (h : nxM M M' n p) : rdO M M' := ⟨fun k a _ => h.1 k a, fun j a b c d _ _ => h.2.1 j a b c d⟩
theorem blM.o (M : zM) (k : Int) : rdO M (blM M k) := ⟨fun c a _ => blM_o a, fun j _ _ _ _ e f => blM_j ⟨e, f⟩⟩
/-- a fault has been told -/
def flt (M' : zM) (f : Int × Int) : Prop := M' 180 12 = f.1 ∧ M' 180 13 = f.2
theorem curT.bl {M : zM} {n p : Nat} (h : curT M n p) (k : Int) : flt (blM M k) (blP (M 184) n p k) := by
  obtain ⟨h1, h2, h3, h4, h5, h6, h7, h8⟩ := h
  unfold flt blM blP
  rw [if_pos h8]
  exact ⟨by rw [zup_j (by decide), zup_e, h6], by rw [zup_e, h4]⟩
theorem us_isW {M : zM} {n p i : Nat} (h : curT M n p) : (M 180 12 = 0 ∧ M 180 10 = 1 ∧ isW (M 184) (tS (M 184) n p) (tE (M 184) n p) i) ↔ wrd (M 184) n p i := by
  obtain ⟨h1, h2, h3, h4, h5, h6, h7, h8⟩ := h
  rw [h6]
  exact ⟨fun z => z.2, fun z => ⟨h8, z⟩⟩
theorem us_word {M : zM} {n p i : Nat} {Q : Option zV → zM → Prop} (hk : i < 10) (h : curT M n p) (hQ : Q (some (zI (b01 (wrd (M 184) n p i)))) M) : sp_X12_isWord [zR 180, zR (1000 + i)] M Q := by
  have r := tE_r (t := M 184) h.2.2.1
  have := h.2.1
  refine us_X12_isWord hk h.2.2.2.1 h.2.2.2.2.1 ⟨r.1, by omega⟩ ?_
  have e : b01 (M 180 12 = 0 ∧ M 180 10 = 1 ∧ isW (M 184) (tS (M 184) n p) (tE (M 184) n p) i) = b01 (wrd (M 184) n p i) := by
    by_cases c : wrd (M 184) n p i
    · rw [b01_t c, b01_t ((us_isW h).mpr c)]
    · rw [b01_f c, b01_f (fun z => c ((us_isW h).mp z))]
  rw [e]
  exact hQ
theorem blP_0 {t : Nat → Int} {n p : Nat} {k : Int} (hk : k ≠ 0) : (blP t n p k).1 ≠ 0 := by
  unfold blP
  dsimp only
  split
  · decide
  · exact hk
theorem curT.rd {M : zM} {n p : Nat} (h : curT M n p) : rdS M n := by
  have r := tE_r (t := M 184) h.2.2.1
  exact ⟨h.1, h.2.1, _, _, h.2.2.2.1, h.2.2.2.2.1, r.1, r.2.1⟩
theorem rdS.bl {M : zM} {n : Nat} (h : rdS M n) (k : Int) : rdS (blM M k) n := by
  unfold rdS
  rw [blM_j (by decide), blM_j (by decide), blM_j (by decide)]
  exact h
theorem pGoal_0 {t : Nat → Int} {n p : Nat} {f : Int × Int} (h : pGoal t n p = .inl f) : f.1 ≠ 0 := by
  have k2 := blP_0 (t := t) (n := n) (p := p) (k := 2) (by decide)
  have k3 := blP_0 (t := t) (n := n) (p := tE t n p) (k := 3) (by decide)
  have k4 := blP_0 (t := t) (n := n) (p := tE t n p) (k := 2) (by decide)
  unfold pGoal at h
  split at h
  · cases h
  · split at h
    · cases h
    · split at h
      · split at h
        · split at h
          · cases h
          · cases h; exact k3
        · cases h; exact k4
      · split at h
        · cases h
        · cases h; exact k2
end
