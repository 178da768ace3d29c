section
/-- the goals in a gate's numbers are of their kinds -/
def okG (L : List Int) (g : Nat) : Prop := (0 ≤ L.getD (7 * g + 3) 0 ∧ L.getD (7 * g + 3) 0 ≤ 3) ∧ (0 ≤ L.getD (7 * g + 4) 0 ∧ L.getD (7 * g + 4) 0 ≤ 7) ∧ (0 ≤ L.getD (7 * g + 5) 0 ∧ L.getD (7 * g + 5) 0 ≤ 3) ∧ (0 ≤ L.getD (7 * g + 6) 0 ∧ L.getD (7 * g + 6) 0 ≤ 7)
def okX (r : pRes) : Prop := match r with
  | .inl _ => True
  | .inr (G, _) => okG G 0
theorem pGoal_k {t : Nat → Int} {n p : Nat} {a b : Int} {q : Nat} (h : pGoal t n p = .inr ((a, b), q)) : (0 ≤ a ∧ a ≤ 3) ∧ (0 ≤ b ∧ b ≤ 7) := by
  unfold pGoal at h
  split at h
  · cases h; decide
  · split at h
    · cases h; decide
    · split at h
      · split at h
        · split at h
          · rename_i tk v7
            have := tV_r tk
            cases h
            omega
          · cases h
        · cases h
      · split at h
        · cases h; decide
        · cases h
theorem pEnd_x {t : Nat → Int} {n p : Nat} {L : List Int} (h : okG L 0) : okX (pEnd t n L p) := by
  unfold pEnd
  split
  · exact h
  · exact True.intro
theorem pNo_x {t : Nat → Int} {n p : Nat} {m lo hi a b : Int} (h : (0 ≤ a ∧ a ≤ 3) ∧ (0 ≤ b ∧ b ≤ 7)) : okX (pNo t n [m, lo, hi, a, b] p) := by
  unfold pNo
  split
  · unfold pThen
    rcases hG : pGoal t n (tE t n p) with f | ⟨⟨c, d⟩, q⟩
    · exact True.intro
    · exact pEnd_x ⟨h.1, h.2, (pGoal_k hG).1, (pGoal_k hG).2⟩
  · exact True.intro
theorem pGate_x (t : Nat → Int) (n p : Nat) : okX (pGate t n p) := by
  unfold pGate
  split
  · unfold pMs
    split
    · exact True.intro
    · unfold pLo
      split
      · unfold pHi
        split
        · split
          · unfold pYes
            split
            · unfold pThen
              rcases hG : pGoal t n _ with f | ⟨⟨c, d⟩, q⟩
              · exact True.intro
              · exact pNo_x (pGoal_k hG)
            · exact True.intro
          · exact True.intro
        · exact True.intro
      · exact True.intro
  · exact True.intro
theorem pText_k {t : Nat → Int} {n : Nat} : ∀ (f : Nat) (L : List Int) (p k : Nat) (R : List Int), L.length = 7 * k → (∀ g, g < k → okG L g) → pText t n f L p = .inr R → ∀ g, 7 * g + 7 ≤ R.length → okG R g
  | 0, L, p, k, R, hL, hk, h => by
    unfold pText at h
    split at h
    · cases h
      exact fun g hg => hk g (by omega)
    · cases h
  | f + 1, L, p, k, R, hL, hk, h => by
    unfold pText at h
    split at h
    · cases h
      exact fun g hg => hk g (by omega)
    · have ok := pGate_ok t n p
      have ox := pGate_x t n p
      rcases hG : pGate t n p with w | ⟨G, q⟩
      · rw [hG] at h; cases h
      · rw [hG] at h ok ox
        have o7 : G.length = 7 := ok
        refine pText_k f (L ++ G) q (k + 1) R (by rw [List.length_append]; omega) (fun g hg => ?_) h
        by_cases c : g < k
        · have gl : ∀ i, i < L.length → (L ++ G).getD i 0 = L.getD i 0 := fun i hi => by rw [List.getD_eq_getElem?_getD, List.getD_eq_getElem?_getD, List.getElem?_append_left hi]
          unfold okG
          rw [gl _ (by omega), gl _ (by omega), gl _ (by omega), gl _ (by omega)]
          exact hk g c
        · have gr : ∀ i, (L ++ G).getD (7 * g + i) 0 = G.getD i 0 := fun i => by rw [List.getD_eq_getElem?_getD, List.getD_eq_getElem?_getD, List.getElem?_append_right (by omega), hL, show 7 * g + i - 7 * k = i by omega]
          unfold okG
          rw [gr, gr, gr, gr]
          exact ox
theorem st_text {B : Int} {t : Nat → Int} {C D : zM} {L : List Int} {k : Nat} (h : zST B t C) (hL : L.length = 7 * k) (k8 : k ≤ 8) (ok : ∀ g, 7 * g + 7 ≤ L.length → okG L g) (hC : ∀ c, 1 ≤ c → c ≤ 35 → (c < 11 ∨ 16 < c) → D c = C c) (h11 : D 11 0 = k) (hg : gtL D L) (hv : ICg D) : zST B (txT t L L.length) D := by
  have h0 := h
  obtain ⟨hW, hs, -, ht, hb, hm, he, hkk, hq, hvv⟩ := h0
  have b4 := h.b.2
  have e1 : txT t L L.length 1 = k := by
    unfold txT
    rw [if_neg (by omega), if_pos rfl]
    omega
  have et : ∀ i, i ≠ 1 → (i < 103 ∨ 159 ≤ i) → txT t L L.length i = t i := fun i i1 i2 => by
    unfold txT
    rw [if_neg (by omega), if_neg i1]
  have eg : ∀ j, j < L.length → txT t L L.length (103 + j) = L.getD j 0 := fun j hj => by
    unfold txT
    rw [if_pos (by omega), show 103 + j - 103 = j by omega]
  generalize txT t L L.length = u at *
  obtain ⟨⟨a1, a2, a3, a4, a5, a6, a7⟩, hB, hc, hD, hE, hF, hG, hH, hI⟩ := hW
  have hcn : ∀ j, j < 5 → cnB u j = cnB t j := fun j hj => by
    unfold cnB
    rw [et _ (by omega) (by omega), et _ (by omega) (by omega), et _ (by omega) (by omega)]
  refine ⟨⟨⟨?_, ?_, ?_, ?_, ?_, ?_, ?_⟩, fun j hj => ?_, fun j hj => ?_, fun j hj => ?_, fun j hj => ?_, fun j hj => ?_, fun j hj => ?_, fun j hj => ?_, fun j hj => ?_⟩, ?_, hv, ?_, ?_, ?_, ?_, ?_, ?_, ?_⟩
  · rw [hC 1 (by decide) (by decide) (by decide), et _ (by decide) (by decide)]; exact a1
  · rw [hC 1 (by decide) (by decide) (by decide), et _ (by decide) (by decide)]; exact a2
  · rw [hC 1 (by decide) (by decide) (by decide), et _ (by decide) (by decide)]; exact a3
  · rw [hC 2 (by decide) (by decide) (by decide), et _ (by decide) (by decide)]; exact a4
  · rw [h11, e1]
  · rw [hC 17 (by decide) (by decide) (by decide), et _ (by decide) (by decide)]; exact a6
  · rw [hC 17 (by decide) (by decide) (by decide), et _ (by decide) (by decide)]; exact a7
  · rw [hC 3 (by decide) (by decide) (by decide), hC 23 (by decide) (by decide) (by decide), hC 34 (by decide) (by decide) (by decide), hC 35 (by decide) (by decide) (by decide), et _ (by omega) (by omega), et _ (by omega) (by omega), et _ (by omega) (by omega), et _ (by omega) (by omega)]
    exact hB j hj
  · rw [hC 4 (by decide) (by decide) (by decide), hC 5 (by decide) (by decide) (by decide), hC 6 (by decide) (by decide) (by decide), hC 9 (by decide) (by decide) (by decide), hC 10 (by decide) (by decide) (by decide), hC 19 (by decide) (by decide) (by decide), hC 20 (by decide) (by decide) (by decide), hC 21 (by decide) (by decide) (by decide), hC 22 (by decide) (by decide) (by decide), et _ (by omega) (by omega), et _ (by omega) (by omega), et _ (by omega) (by omega), et _ (by omega) (by omega), et _ (by omega) (by omega), et _ (by omega) (by omega), et _ (by omega) (by omega), et _ (by omega) (by omega), et _ (by omega) (by omega)]
    exact hc j hj
  · have j3 : j / 3 ≤ 7 := by omega
    rw [hC 7 (by decide) (by decide) (by decide), hC 8 (by decide) (by decide) (by decide), et _ (by omega) (by omega), et _ (by omega) (by omega)]
    exact hD j hj
  · rw [e1] at hj
    have z := hg j (by omega)
    rw [eg (7 * j) (by omega), show 104 + 7 * j = 103 + (7 * j + 1) by omega, show 105 + 7 * j = 103 + (7 * j + 2) by omega, show 106 + 7 * j = 103 + (7 * j + 3) by omega, show 107 + 7 * j = 103 + (7 * j + 4) by omega, show 108 + 7 * j = 103 + (7 * j + 5) by omega, show 109 + 7 * j = 103 + (7 * j + 6) by omega, eg _ (by omega), eg _ (by omega), eg _ (by omega), eg _ (by omega), eg _ (by omega), eg _ (by omega)]
    exact z
  · rw [hC 18 (by decide) (by decide) (by decide), hC 28 (by decide) (by decide) (by decide), et _ (by omega) (by omega), et _ (by omega) (by omega)]
    exact hF j hj
  · rw [hC 24 (by decide) (by decide) (by decide), hC 25 (by decide) (by decide) (by decide), hC 26 (by decide) (by decide) (by decide), hC 27 (by decide) (by decide) (by decide), et _ (by omega) (by omega), et _ (by omega) (by omega), et _ (by omega) (by omega), et _ (by omega) (by omega)]
    exact hG j hj
  · rw [hC 29 (by decide) (by decide) (by decide), et _ (by omega) (by omega)]
    exact hH j hj
  · rw [et 4 (by decide) (by decide)] at hj
    have z := hI j hj
    rw [hcn j (by omega), hC 30 (by decide) (by decide) (by decide), hC 31 (by decide) (by decide) (by decide), hC 32 (by decide) (by decide) (by decide), hC 33 (by decide) (by decide) (by decide), et _ (by omega) (by omega), et _ (by omega) (by omega)]
    exact ⟨z.1, z.2.1, z.2.2.1, fun i hi => by rw [et _ (by omega) (by omega)]; exact z.2.2.2 i hi⟩
  · unfold ICs
    rw [hC 2 (by decide) (by decide) (by decide), hC 3 (by decide) (by decide) (by decide), hC 4 (by decide) (by decide) (by decide), hC 9 (by decide) (by decide) (by decide), hC 10 (by decide) (by decide) (by decide), hC 7 (by decide) (by decide) (by decide), hC 8 (by decide) (by decide) (by decide)]
    exact hs
  · unfold ICt
    rw [hC 17 (by decide) (by decide) (by decide), hC 19 (by decide) (by decide) (by decide), hC 20 (by decide) (by decide) (by decide), hC 21 (by decide) (by decide) (by decide), hC 22 (by decide) (by decide) (by decide), hC 18 (by decide) (by decide) (by decide), hC 24 (by decide) (by decide) (by decide), hC 25 (by decide) (by decide) (by decide), hC 26 (by decide) (by decide) (by decide), hC 27 (by decide) (by decide) (by decide)]
    exact ht
  · unfold ICb
    rw [hC 1 (by decide) (by decide) (by decide), hC 29 (by decide) (by decide) (by decide), hC 30 (by decide) (by decide) (by decide), hC 31 (by decide) (by decide) (by decide), hC 32 (by decide) (by decide) (by decide), hC 33 (by decide) (by decide) (by decide)]
    exact hb
  · unfold ICm
    rw [hC 1 (by decide) (by decide) (by decide), hC 34 (by decide) (by decide) (by decide), hC 35 (by decide) (by decide) (by decide)]
    exact hm
  · unfold ICe
    rw [hC 2 (by decide) (by decide) (by decide), hC 19 (by decide) (by decide) (by decide)]
    exact he
  · intro j hj
    rw [e1] at hj
    rw [show 106 + 7 * j = 103 + (7 * j + 3) by omega, show 107 + 7 * j = 103 + (7 * j + 4) by omega, show 108 + 7 * j = 103 + (7 * j + 5) by omega, show 109 + 7 * j = 103 + (7 * j + 6) by omega, eg _ (by omega), eg _ (by omega), eg _ (by omega), eg _ (by omega)]
    exact ok j (by omega)
  · obtain ⟨q1, q2, q3, q4, q5⟩ := hq
    refine ⟨by rw [hC 1 (by decide) (by decide) (by decide)]; exact q1, by rw [hC 23 (by decide) (by decide) (by decide)]; exact q2, by rw [hC 1 (by decide) (by decide) (by decide), hC 29 (by decide) (by decide) (by decide)]; exact q3, fun j hj => ?_, by rw [hC 2 (by decide) (by decide) (by decide), hC 9 (by decide) (by decide) (by decide), hC 10 (by decide) (by decide) (by decide), hC 7 (by decide) (by decide) (by decide), hC 8 (by decide) (by decide) (by decide)]; exact q5⟩
    rw [hC 1 (by decide) (by decide) (by decide)] at hj ⊢
    have j5 : j < 5 := by have := hb.1; omega
    have z := q4 j hj
    rw [hC 30 (by decide) (by decide) (by decide)]
    refine ⟨z.1, fun i hi => ?_⟩
    rw [hcn j j5, et _ (by omega) (by omega)]
    exact z.2 i hi
  · unfold ICv
    rw [hC 17 (by decide) (by decide) (by decide), hC 25 (by decide) (by decide) (by decide), hC 2 (by decide) (by decide) (by decide)]
    exact hvv
end
