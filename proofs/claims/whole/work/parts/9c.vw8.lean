section
theorem VW.t {t u : Nat → Int} {C D : zM} (h : VW t C) (h1 : t 1 ≤ 8) (ht : ∀ i, i ≠ 4 → (i < 577 ∨ 607 ≤ i) → u i = t i) (hC : ∀ k, 2 ≤ k → (k < 30 ∨ 33 < k) → D k = C k) : VB u D ∧ VC u D ∧ VD u D ∧ VE u D ∧ VF u D ∧ VG u D ∧ VH u D := by
  obtain ⟨-, hB, hc, hD, hE, hF, hG, hH, -⟩ := h
  refine ⟨fun j hj => ?_, fun j hj => ?_, fun j hj => ?_, fun j hj => ?_, fun j hj => ?_, fun j hj => ?_, fun j hj => ?_⟩
  · rw [hC 3 (by decide) (by decide), hC 23 (by decide) (by decide), hC 34 (by decide) (by decide), hC 35 (by decide) (by decide), ht _ (by omega) (by omega), ht _ (by omega) (by omega), ht _ (by omega) (by omega), ht _ (by omega) (by omega)]
    exact hB j hj
  · rw [hC 4 (by decide) (by decide), hC 5 (by decide) (by decide), hC 6 (by decide) (by decide), hC 9 (by decide) (by decide), hC 10 (by decide) (by decide), hC 19 (by decide) (by decide), hC 20 (by decide) (by decide), hC 21 (by decide) (by decide), hC 22 (by decide) (by decide), ht _ (by omega) (by omega), ht _ (by omega) (by omega), ht _ (by omega) (by omega), ht _ (by omega) (by omega), ht _ (by omega) (by omega), ht _ (by omega) (by omega), ht _ (by omega) (by omega), ht _ (by omega) (by omega), ht _ (by omega) (by omega)]
    exact hc j hj
  · rw [hC 7 (by decide) (by decide), hC 8 (by decide) (by decide), ht _ (by omega) (by omega), ht _ (by omega) (by omega)]
    exact hD j hj
  · rw [ht 1 (by decide) (by decide)] at hj
    have j8 : j < 8 := by omega
    rw [hC 12 (by decide) (by decide), hC 13 (by decide) (by decide), hC 14 (by decide) (by decide), hC 15 (by decide) (by decide), hC 16 (by decide) (by decide), ht _ (by omega) (by omega), ht _ (by omega) (by omega), ht _ (by omega) (by omega), ht _ (by omega) (by omega), ht _ (by omega) (by omega), ht _ (by omega) (by omega), ht _ (by omega) (by omega)]
    exact hE j hj
  · rw [hC 18 (by decide) (by decide), hC 28 (by decide) (by decide), ht _ (by omega) (by omega), ht _ (by omega) (by omega)]
    exact hF j hj
  · rw [hC 24 (by decide) (by decide), hC 25 (by decide) (by decide), hC 26 (by decide) (by decide), hC 27 (by decide) (by decide), ht _ (by omega) (by omega), ht _ (by omega) (by omega), ht _ (by omega) (by omega), ht _ (by omega) (by omega)]
    exact hG j hj
  · rw [hC 29 (by decide) (by decide), ht _ (by omega) (by omega)]
    exact hH j hj
theorem buyT_o {t : Nat → Int} {k i : Nat} {g a b c d h : Int} (hi : i ≠ 4) (hk : i < 577 + 6 * k ∨ 582 + 6 * k < i) : buyT t k g a b c d h i = t i := by
  unfold buyT
  rw [rUp_o hi, rUp_o (by omega), rUp_o (by omega), rUp_o (by omega), rUp_o (by omega), rUp_o (by omega), rUp_o (by omega)]
theorem buyT_v {t : Nat → Int} {k : Nat} {g a b c d h : Int} : buyT t k g a b c d h 4 = (k : Int) + 1 ∧ buyT t k g a b c d h (577 + 6 * k) = g ∧ buyT t k g a b c d h (578 + 6 * k) = a ∧ buyT t k g a b c d h (579 + 6 * k) = b ∧ buyT t k g a b c d h (580 + 6 * k) = by3 b c ∧ buyT t k g a b c d h (581 + 6 * k) = by4 b c d ∧ buyT t k g a b c d h (582 + 6 * k) = h := by
  unfold buyT
  refine ⟨rUp_e, ?_, ?_, ?_, ?_, ?_, ?_⟩
  · rw [rUp_o (by omega), rUp_o (by omega), rUp_o (by omega), rUp_o (by omega), rUp_o (by omega), rUp_o (by omega), rUp_e]
  · rw [rUp_o (by omega), rUp_o (by omega), rUp_o (by omega), rUp_o (by omega), rUp_o (by omega), rUp_e]
  · rw [rUp_o (by omega), rUp_o (by omega), rUp_o (by omega), rUp_o (by omega), rUp_e]
  · rw [rUp_o (by omega), rUp_o (by omega), rUp_o (by omega), rUp_e]
  · rw [rUp_o (by omega), rUp_o (by omega), rUp_e]
  · rw [rUp_o (by omega), rUp_e]
set_option maxHeartbeats 2000000 in
theorem st_buy {B : Int} {t : Nat → Int} {C : zM} {k : Nat} {g a b c d h9 : Int} (h : zST B t C) (hk : C 1 5 = k) (k5 : k < 5) (ok : byOk C g a b c d) (hh : 1 ≤ h9 ∧ h9 ≤ 9) : zST B (buyT t k g a b c d h9) (buyM C k g a b c d h9) := by
  have h0 := h
  obtain ⟨hW, hs, hg, ht, hb, hm, he, hkk, hq, hv⟩ := h0
  have t1 := h.b.1
  have oT := fun i (hi : i ≠ 4) (h2 : i < 577 + 6 * k ∨ 582 + 6 * k < i) => buyT_o (t := t) (k := k) (i := i) (g := g) (a := a) (b := b) (c := c) (d := d) (h := h9) hi h2
  obtain ⟨v4, v0, v1, v2, v3, v5, v6⟩ := buyT_v (t := t) (k := k) (g := g) (a := a) (b := b) (c := c) (d := d) (h := h9)
  generalize hu : buyT t k g a b c d h9 = u at *
  have hD : ∀ j, buyM C k g a b c d h9 j = zup (zup (zup (zup (zup (zup (zup (zup C 30 k g) 32 k (byN b c d)) 33 k h9) 1 5 ((k : Int) + 1)) 31 (4 * k) a) 31 (4 * k + 1) b) 31 (4 * k + 2) c) 31 (4 * k + 3) d j := fun j => by
    unfold buyM
    rw [Int.toNat_natCast, show ((k : Int) * 4).toNat = 4 * k by omega, show ((k : Int) * 4 + 1).toNat = 4 * k + 1 by omega, show ((k : Int) * 4 + 2).toNat = 4 * k + 2 by omega, show ((k : Int) * 4 + 3).toNat = 4 * k + 3 by omega]
  generalize buyM C k g a b c d h9 = D at *
  have oD : ∀ j, 2 ≤ j → (j < 30 ∨ 33 < j) → D j = C j := fun j j1 j2 => by
    rw [hD, zup_o j (by omega), zup_o j (by omega), zup_o j (by omega), zup_o j (by omega), zup_o j (by omega), zup_o j (by omega), zup_o j (by omega), zup_o j (by omega)]
  have d1 : ∀ j, j ≠ 5 → D 1 j = C 1 j := fun j hj => by
    rw [hD, zup_o 1 (by decide), zup_o 1 (by decide), zup_o 1 (by decide), zup_o 1 (by decide), zup_j hj, zup_o 1 (by decide), zup_o 1 (by decide), zup_o 1 (by decide)]
  have d5 : D 1 5 = (k : Int) + 1 := by rw [hD, zup_o 1 (by decide), zup_o 1 (by decide), zup_o 1 (by decide), zup_o 1 (by decide), zup_e]
  have d30 : ∀ j, j ≠ k → D 30 j = C 30 j := fun j hj => by rw [hD, zup_o 30 (by decide), zup_o 30 (by decide), zup_o 30 (by decide), zup_o 30 (by decide), zup_o 30 (by decide), zup_o 30 (by decide), zup_o 30 (by decide), zup_j hj]
  have e30 : D 30 k = g := by rw [hD, zup_o 30 (by decide), zup_o 30 (by decide), zup_o 30 (by decide), zup_o 30 (by decide), zup_o 30 (by decide), zup_o 30 (by decide), zup_o 30 (by decide), zup_e]
  have d32 : ∀ j, j ≠ k → D 32 j = C 32 j := fun j hj => by rw [hD, zup_o 32 (by decide), zup_o 32 (by decide), zup_o 32 (by decide), zup_o 32 (by decide), zup_o 32 (by decide), zup_o 32 (by decide), zup_j hj, zup_o 32 (by decide)]
  have e32 : D 32 k = byN b c d := by rw [hD, zup_o 32 (by decide), zup_o 32 (by decide), zup_o 32 (by decide), zup_o 32 (by decide), zup_o 32 (by decide), zup_o 32 (by decide), zup_e]
  have d33 : ∀ j, j ≠ k → D 33 j = C 33 j := fun j hj => by rw [hD, zup_o 33 (by decide), zup_o 33 (by decide), zup_o 33 (by decide), zup_o 33 (by decide), zup_o 33 (by decide), zup_j hj, zup_o 33 (by decide), zup_o 33 (by decide)]
  have e33 : D 33 k = h9 := by rw [hD, zup_o 33 (by decide), zup_o 33 (by decide), zup_o 33 (by decide), zup_o 33 (by decide), zup_o 33 (by decide), zup_e]
  have d31 : ∀ j, (j < 4 * k ∨ 4 * k + 3 < j) → D 31 j = C 31 j := fun j hj => by rw [hD, zup_j (by omega), zup_j (by omega), zup_j (by omega), zup_j (by omega), zup_o 31 (by decide), zup_o 31 (by decide), zup_o 31 (by decide), zup_o 31 (by decide)]
  have e31 : D 31 (4 * k) = a ∧ D 31 (4 * k + 1) = b ∧ D 31 (4 * k + 2) = c ∧ D 31 (4 * k + 3) = d := by
    rw [hD]
    exact ⟨by rw [zup_j (by omega), zup_j (by omega), zup_j (by omega), zup_e], by rw [zup_j (by omega), zup_j (by omega), zup_e], by rw [zup_j (by omega), zup_e], zup_e⟩
  have nn : cnB u k = byN b c d := by
    unfold cnB byN
    rw [v2, v3, v5]
    unfold by4 by3
    by_cases c1 : b = -1
    · rw [if_pos c1, if_pos c1]
    · rw [if_neg c1, if_neg c1, if_neg c1]
      by_cases c2 : c = -1
      · rw [if_pos c2, if_pos c2]
      · rw [if_neg c2, if_neg c2]
        rw [if_neg c2]
  have nr : 1 ≤ byN b c d ∧ byN b c d ≤ 4 := by
    rw [← nn]
    exact cnB_r9 u k
  have no : ∀ j, j < k → cnB u j = cnB t j := fun j hj => by
    unfold cnB
    rw [oT _ (by omega) (by omega), oT _ (by omega) (by omega), oT _ (by omega) (by omega)]
  have co : ∀ i : Nat, (i : Int) < byN b c d → D 31 (4 * k + i) = u (578 + 6 * k + i) ∧ 0 ≤ D 31 (4 * k + i) ∧ D 31 (4 * k + i) ≤ 7 := fun i hi => by
    have s8 := hs.1
    unfold byN at hi
    have i4 : i = 0 ∨ i = 1 ∨ i = 2 ∨ i = 3 := by omega
    rcases i4 with rfl | rfl | rfl | rfl
    · rw [Nat.add_zero, Nat.add_zero, e31.1, v1]; omega
    · have hb1 : b ≠ -1 := fun z => by rw [if_pos z] at hi; omega
      rw [e31.2.1, show 578 + 6 * k + 1 = 579 + 6 * k by omega, v2]; omega
    · have hb1 : b ≠ -1 := fun z => by rw [if_pos z] at hi; omega
      rw [if_neg hb1] at hi
      have hc1 : c ≠ -1 := fun z => by rw [if_pos z] at hi; omega
      rw [e31.2.2.1, show 578 + 6 * k + 2 = 580 + 6 * k by omega, v3]
      unfold by3
      rw [if_neg hb1]; omega
    · have hb1 : b ≠ -1 := fun z => by rw [if_pos z] at hi; omega
      rw [if_neg hb1] at hi
      have hc1 : c ≠ -1 := fun z => by rw [if_pos z] at hi; omega
      rw [if_neg hc1] at hi
      have hd1 : d ≠ -1 := fun z => by rw [if_pos z] at hi; omega
      rw [e31.2.2.2, show 578 + 6 * k + 3 = 581 + 6 * k by omega, v5]
      unfold by4 by3
      rw [if_neg hb1, if_neg hc1]; omega
  have w := hW.t (u := u) (D := D) t1 (fun i i1 i2 => oT i i1 (by omega)) oD
  obtain ⟨a1, a2, a3, a4, a5, a6, a7⟩ := hW.1
  have qq : hs.1.1 = hs.1.1 := rfl
  refine ⟨⟨?_, w.1, w.2.1, w.2.2.1, w.2.2.2.1, w.2.2.2.2.1, w.2.2.2.2.2.1, w.2.2.2.2.2.2, ?_⟩, ?_, ?_, ?_, ?_, ?_, ?_, ?_, ?_, ?_⟩
  · exact ⟨by rw [d1 _ (by decide), oT _ (by decide) (by omega)]; exact a1, by rw [d5, v4], by rw [d1 _ (by decide), oT _ (by decide) (by omega)]; exact a3, by rw [oD 2 (by decide) (by decide), oT _ (by decide) (by omega)]; exact a4, by rw [oD 11 (by decide) (by decide), oT _ (by decide) (by omega)]; exact a5, by rw [oD 17 (by decide) (by decide), oT _ (by decide) (by omega)]; exact a6, by rw [oD 17 (by decide) (by decide), oT _ (by decide) (by omega)]; exact a7⟩
  · intro j hj
    rw [v4] at hj
    by_cases c1 : j = k
    · subst c1
      rw [nn]
      exact ⟨e30.trans v0.symm, e32, e33.trans v6.symm, fun i hi => (co i hi).1⟩
    · have z := hW.2.2.2.2.2.2.2.2 j (by omega)
      have cr := cnB_r9 t j
      rw [no j (by omega), d30 j c1, d32 j c1, d33 j c1, oT _ (by omega) (by omega), oT _ (by omega) (by omega)]
      exact ⟨z.1, z.2.1, z.2.2.1, fun i hi => by rw [d31 _ (by omega), oT _ (by omega) (by omega)]; exact z.2.2.2 i hi⟩
  · unfold ICs
    rw [oD 2 (by decide) (by decide), oD 3 (by decide) (by decide), oD 4 (by decide) (by decide), oD 9 (by decide) (by decide), oD 10 (by decide) (by decide), oD 7 (by decide) (by decide), oD 8 (by decide) (by decide)]
    exact hs
  · unfold ICg
    rw [oD 11 (by decide) (by decide), oD 12 (by decide) (by decide), oD 13 (by decide) (by decide), oD 14 (by decide) (by decide), oD 15 (by decide) (by decide), oD 16 (by decide) (by decide)]
    exact hg
  · unfold ICt
    rw [oD 17 (by decide) (by decide), oD 19 (by decide) (by decide), oD 20 (by decide) (by decide), oD 21 (by decide) (by decide), oD 22 (by decide) (by decide), oD 18 (by decide) (by decide), oD 24 (by decide) (by decide), oD 25 (by decide) (by decide), oD 26 (by decide) (by decide), oD 27 (by decide) (by decide)]
    exact ht
  · obtain ⟨b1, b2, b3⟩ := hb
    refine ⟨by rw [d5]; omega, fun j hj => by rw [oD 29 (by decide) (by decide)]; exact b2 j hj, fun j hj => ?_⟩
    by_cases c1 : j = k
    · subst c1
      have q6 := hq.1
      rw [e30, e32, e33]
      exact ⟨by omega, by omega, by omega, by omega, by omega, by omega, fun i hi => by rw [show j * 4 + i = 4 * j + i by omega]; exact (co i hi).2⟩
    · have z := b3 j hj
      rw [d30 j c1, d32 j c1, d33 j c1]
      exact ⟨z.1, z.2.1, z.2.2.1, z.2.2.2.1, z.2.2.2.2.1, z.2.2.2.2.2.1, fun i hi => by rw [d31 _ (by omega)]; exact z.2.2.2.2.2.2 i hi⟩
  · unfold ICm
    rw [d1 _ (by decide), oD 34 (by decide) (by decide), oD 35 (by decide) (by decide)]
    exact hm
  · unfold ICe
    rw [oD 2 (by decide) (by decide), oD 19 (by decide) (by decide)]
    exact he
  · intro j hj
    rw [oT 1 (by decide) (by omega)] at hj
    have j8 : j < 8 := by omega
    rw [oT _ (by omega) (by omega), oT _ (by omega) (by omega), oT _ (by omega) (by omega), oT _ (by omega) (by omega)]
    exact hkk j hj
  · obtain ⟨q1, q2, q3, q4, q5⟩ := hq
    refine ⟨by rw [d1 _ (by decide)]; exact q1, by rw [oD 23 (by decide) (by decide)]; exact q2, by rw [d1 _ (by decide), oD 29 (by decide) (by decide)]; exact q3, fun j hj => ?_, by rw [oD 2 (by decide) (by decide), oD 9 (by decide) (by decide), oD 10 (by decide) (by decide), oD 7 (by decide) (by decide), oD 8 (by decide) (by decide)]; exact q5⟩
    rw [d5] at hj
    by_cases c1 : j = k
    · subst c1
      refine ⟨by rw [e30, d1 _ (by decide)]; exact ok.1.2, fun i hi => ?_⟩
      rw [nn]
      have i4 : i = 0 ∨ i = 1 ∨ i = 2 ∨ i = 3 := by omega
      have okk := ok
      rcases i4 with rfl | rfl | rfl | rfl
      · rw [Nat.add_zero, v1]; omega
      · rw [show 578 + 6 * j + 1 = 579 + 6 * j by omega, v2]
        unfold byN
        by_cases c2 : b = -1
        · rw [if_pos c2]; omega
        · rw [if_neg c2]; split <;> (try split) <;> omega
      · rw [show 578 + 6 * j + 2 = 580 + 6 * j by omega, v3]
        unfold byN by3
        by_cases c2 : b = -1
        · rw [if_pos c2, if_pos c2]; omega
        · rw [if_neg c2, if_neg c2]
          by_cases c3 : c = -1
          · rw [if_pos c3]; omega
          · rw [if_neg c3]; split <;> omega
      · rw [show 578 + 6 * j + 3 = 581 + 6 * j by omega, v5]
        unfold byN by4 by3
        by_cases c2 : b = -1
        · rw [if_pos c2, if_pos c2, if_pos rfl]; omega
        · rw [if_neg c2, if_neg c2]
          by_cases c3 : c = -1
          · rw [if_pos c3, if_pos c3]; omega
          · rw [if_neg c3, if_neg c3]
            by_cases c4 : d = -1
            · rw [if_pos c4]; omega
            · rw [if_neg c4]; omega
    · have z := q4 j (by omega)
      refine ⟨by rw [d30 j c1, d1 _ (by decide)]; exact z.1, fun i hi => ?_⟩
      rw [no j (by omega), oT _ (by omega) (by omega)]
      exact z.2 i hi
  · unfold ICv
    rw [oD 17 (by decide) (by decide), oD 25 (by decide) (by decide), oD 2 (by decide) (by decide)]
    exact hv
end
