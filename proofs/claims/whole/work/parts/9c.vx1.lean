section
/-- a state copied: all that zST looks at -/
theorem zST.cp {B : Int} {t u : Nat → Int} {C D : zM} (h : zST B t C) (ht : ∀ j, j < 615 → u j = t j) (hC : ∀ k j, 1 ≤ k → k ≤ 35 → csA (k - 1) j = true → D k j = C k j) : zST B u D := by
  have h0 := h
  obtain ⟨hW, hs, hg, hti, hb, hm, he, hkk, hq, hvv⟩ := h0
  obtain ⟨b1, b4⟩ := h.b
  have c3 : ∀ j, j < 4 → D 3 j = C 3 j := fun j hj => hC 3 j (by decide) (by decide) (by simp [csA, csS, csG, csT, hj])
  have c4 : ∀ j, j < 8 → D 4 j = C 4 j := fun j hj => hC 4 j (by decide) (by decide) (by simp [csA, csS, csG, csT, hj])
  have c5 : ∀ j, j < 8 → D 5 j = C 5 j := fun j hj => hC 5 j (by decide) (by decide) (by simp [csA, csS, csG, csT, hj])
  have c6 : ∀ j, j < 8 → D 6 j = C 6 j := fun j hj => hC 6 j (by decide) (by decide) (by simp [csA, csS, csG, csT, hj])
  have c7 : ∀ j, j < 24 → D 7 j = C 7 j := fun j hj => hC 7 j (by decide) (by decide) (by simp [csA, csS, csG, csT, hj])
  have c8 : ∀ j, j < 24 → D 8 j = C 8 j := fun j hj => hC 8 j (by decide) (by decide) (by simp [csA, csS, csG, csT, hj])
  have c9 : ∀ j, j < 8 → D 9 j = C 9 j := fun j hj => hC 9 j (by decide) (by decide) (by simp [csA, csS, csG, csT, hj])
  have c10 : ∀ j, j < 8 → D 10 j = C 10 j := fun j hj => hC 10 j (by decide) (by decide) (by simp [csA, csS, csG, csT, hj])
  have c12 : ∀ j, j < 8 → D 12 j = C 12 j := fun j hj => hC 12 j (by decide) (by decide) (by simp [csA, csS, csG, csT, hj])
  have c13 : ∀ j, j < 8 → D 13 j = C 13 j := fun j hj => hC 13 j (by decide) (by decide) (by simp [csA, csS, csG, csT, hj])
  have c14 : ∀ j, j < 8 → D 14 j = C 14 j := fun j hj => hC 14 j (by decide) (by decide) (by simp [csA, csS, csG, csT, hj])
  have c15 : ∀ j, j < 8 → D 15 j = C 15 j := fun j hj => hC 15 j (by decide) (by decide) (by simp [csA, csS, csG, csT, hj])
  have c16 : ∀ j, j < 8 → D 16 j = C 16 j := fun j hj => hC 16 j (by decide) (by decide) (by simp [csA, csS, csG, csT, hj])
  have c18 : ∀ j, j < 160 → D 18 j = C 18 j := fun j hj => hC 18 j (by decide) (by decide) (by simp [csA, csS, csG, csT, hj])
  have c19 : ∀ j, j < 8 → D 19 j = C 19 j := fun j hj => hC 19 j (by decide) (by decide) (by simp [csA, csS, csG, csT, hj])
  have c20 : ∀ j, j < 8 → D 20 j = C 20 j := fun j hj => hC 20 j (by decide) (by decide) (by simp [csA, csS, csG, csT, hj])
  have c21 : ∀ j, j < 8 → D 21 j = C 21 j := fun j hj => hC 21 j (by decide) (by decide) (by simp [csA, csS, csG, csT, hj])
  have c22 : ∀ j, j < 8 → D 22 j = C 22 j := fun j hj => hC 22 j (by decide) (by decide) (by simp [csA, csS, csG, csT, hj])
  have c23 : ∀ j, j < 4 → D 23 j = C 23 j := fun j hj => hC 23 j (by decide) (by decide) (by simp [csA, csS, csG, csT, hj])
  have c24 : ∀ j, j < 12 → D 24 j = C 24 j := fun j hj => hC 24 j (by decide) (by decide) (by simp [csA, csS, csG, csT, hj])
  have c25 : ∀ j, j < 12 → D 25 j = C 25 j := fun j hj => hC 25 j (by decide) (by decide) (by simp [csA, csS, csG, csT, hj])
  have c26 : ∀ j, j < 12 → D 26 j = C 26 j := fun j hj => hC 26 j (by decide) (by decide) (by simp [csA, csS, csG, csT, hj])
  have c27 : ∀ j, j < 12 → D 27 j = C 27 j := fun j hj => hC 27 j (by decide) (by decide) (by simp [csA, csS, csG, csT, hj])
  have c28 : ∀ j, j < 160 → D 28 j = C 28 j := fun j hj => hC 28 j (by decide) (by decide) (by simp [csA, csS, csG, csT, hj])
  have c29 : ∀ j, j < 6 → D 29 j = C 29 j := fun j hj => hC 29 j (by decide) (by decide) (by simp [csA, csS, csG, csT, hj])
  have c30 : ∀ j, j < 5 → D 30 j = C 30 j := fun j hj => hC 30 j (by decide) (by decide) (by simp [csA, csS, csG, csT, hj])
  have c31 : ∀ j, j < 20 → D 31 j = C 31 j := fun j hj => hC 31 j (by decide) (by decide) (by simp [csA, csS, csG, csT, hj])
  have c32 : ∀ j, j < 5 → D 32 j = C 32 j := fun j hj => hC 32 j (by decide) (by decide) (by simp [csA, csS, csG, csT, hj])
  have c33 : ∀ j, j < 5 → D 33 j = C 33 j := fun j hj => hC 33 j (by decide) (by decide) (by simp [csA, csS, csG, csT, hj])
  have c34 : ∀ j, j < 4 → D 34 j = C 34 j := fun j hj => hC 34 j (by decide) (by decide) (by simp [csA, csS, csG, csT, hj])
  have c35 : ∀ j, j < 4 → D 35 j = C 35 j := fun j hj => hC 35 j (by decide) (by decide) (by simp [csA, csS, csG, csT, hj])
  have k1g : D 1 3 = C 1 3 := hC 1 3 (by decide) (by decide) (by decide)
  have k1b : D 1 5 = C 1 5 := hC 1 5 (by decide) (by decide) (by decide)
  have k1m : D 1 10 = C 1 10 := hC 1 10 (by decide) (by decide) (by decide)
  have k2 : D 2 0 = C 2 0 := hC 2 0 (by decide) (by decide) (by decide)
  have k11 : D 11 0 = C 11 0 := hC 11 0 (by decide) (by decide) (by decide)
  have k17a : D 17 6 = C 17 6 := hC 17 6 (by decide) (by decide) (by decide)
  have k17b : D 17 11 = C 17 11 := hC 17 11 (by decide) (by decide) (by decide)
  obtain ⟨⟨a1, a2, a3, a4, a5, a6, a7⟩, hB, hc, hD, hE, hF, hG, hH, hI⟩ := hW
  have hcn : ∀ j, j < 5 → cnB u j = cnB t j := fun j hj => by
    unfold cnB
    rw [ht _ (by omega), ht _ (by omega), ht _ (by omega)]
  refine ⟨⟨⟨?_, ?_, ?_, ?_, ?_, ?_, ?_⟩, fun j hj => ?_, fun j hj => ?_, fun j hj => ?_, fun j hj => ?_, fun j hj => ?_, fun j hj => ?_, fun j hj => ?_, fun j hj => ?_⟩, ?_, ?_, ?_, ?_, ?_, ?_, ?_, ?_, ?_⟩
  · rw [k1g, ht _ (by decide)]; exact a1
  · rw [k1b, ht _ (by decide)]; exact a2
  · rw [k1m, ht _ (by decide)]; exact a3
  · rw [k2, ht _ (by decide)]; exact a4
  · rw [k11, ht _ (by decide)]; exact a5
  · rw [k17a, ht _ (by decide)]; exact a6
  · rw [k17b, ht _ (by decide)]; exact a7
  · rw [c3 j hj, c23 j hj, c34 j hj, c35 j hj, ht _ (by omega), ht _ (by omega), ht _ (by omega), ht _ (by omega)]
    exact hB j hj
  · rw [c4 j hj, c5 j hj, c6 j hj, c9 j hj, c10 j hj, c19 j hj, c20 j hj, c21 j hj, c22 j hj, ht _ (by omega), ht _ (by omega), ht _ (by omega), ht _ (by omega), ht _ (by omega), ht _ (by omega), ht _ (by omega), ht _ (by omega), ht _ (by omega)]
    exact hc j hj
  · rw [c7 j hj, c8 j hj, ht _ (by omega), ht _ (by omega)]
    exact hD j hj
  · rw [ht 1 (by decide)] at hj
    have j8 : j < 8 := by omega
    rw [c12 j j8, c13 j j8, c14 j j8, c15 j j8, c16 j j8, ht _ (by omega), ht _ (by omega), ht _ (by omega), ht _ (by omega), ht _ (by omega), ht _ (by omega), ht _ (by omega)]
    exact hE j hj
  · rw [c18 j hj, c28 j hj, ht _ (by omega), ht _ (by omega)]
    exact hF j hj
  · rw [c24 j hj, c25 j hj, c26 j hj, c27 j hj, ht _ (by omega), ht _ (by omega), ht _ (by omega), ht _ (by omega)]
    exact hG j hj
  · rw [c29 j hj, ht _ (by omega)]
    exact hH j hj
  · rw [ht 4 (by decide)] at hj
    have j5 : j < 5 := by omega
    have z := hI j hj
    have cr := cnB_r9 t j
    rw [hcn j j5, c30 j j5, c32 j j5, c33 j j5, ht _ (by omega), ht _ (by omega)]
    exact ⟨z.1, z.2.1, z.2.2.1, fun i hi => by rw [c31 _ (by omega), ht _ (by omega)]; exact z.2.2.2 i hi⟩
  · obtain ⟨s1, s2, s3, s4⟩ := hs
    refine ⟨by rw [k2]; exact s1, by rw [c3 0 (by decide), c3 1 (by decide), c3 2 (by decide), c3 3 (by decide)]; exact s2, fun k hk => by rw [c4 k hk, c9 k hk, c10 k hk]; exact s3 k hk, fun j hj => by rw [c7 j hj, c8 j hj]; exact s4 j hj⟩
  · exact ⟨by rw [k11]; exact hg.1, fun j hj => by rw [c12 j hj, c13 j hj, c14 j hj, c15 j hj, c16 j hj]; exact hg.2 j hj⟩
  · obtain ⟨i1, i2, i3, i4, i5⟩ := hti
    exact ⟨by rw [k17a]; exact i1, by rw [k17b]; exact i2, fun j hj => by rw [c19 j hj, c20 j hj, c21 j hj, c22 j hj]; exact i3 j hj, fun j hj => by rw [c18 j hj]; exact i4 j hj, fun j hj => by rw [c24 j hj, c25 j hj, c26 j hj, c27 j hj]; exact i5 j hj⟩
  · obtain ⟨i1, i2, i3⟩ := hb
    refine ⟨by rw [k1b]; exact i1, fun j hj => by rw [c29 j hj]; exact i2 j hj, fun j hj => ?_⟩
    have z := i3 j hj
    rw [c30 j hj, c32 j hj, c33 j hj]
    exact ⟨z.1, z.2.1, z.2.2.1, z.2.2.2.1, z.2.2.2.2.1, z.2.2.2.2.2.1, fun i hi => by rw [c31 _ (by omega)]; exact z.2.2.2.2.2.2 i hi⟩
  · exact ⟨by rw [k1m]; exact hm.1, fun j hj => by rw [c34 j hj, c35 j hj]; exact hm.2 j hj⟩
  · exact fun j hj h9 => by rw [k2] at h9; rw [c19 j hj]; exact he j hj h9
  · intro j hj
    rw [ht 1 (by decide)] at hj
    rw [ht _ (by omega), ht _ (by omega), ht _ (by omega), ht _ (by omega)]
    exact hkk j hj
  · obtain ⟨q1, q2, q3, q4, q5⟩ := hq
    refine ⟨by rw [k1g]; exact q1, fun j hj => by rw [c23 j hj]; exact q2 j hj, fun j hj => ?_, fun j hj => ?_, fun j hj h9 => ?_⟩
    · rw [k1g] at hj
      rw [c29 j (by omega)]
      exact q3 j hj
    · rw [k1b] at hj
      have j5 : j < 5 := by have := hb.1; omega
      have z := q4 j hj
      rw [c30 j j5, k1g]
      refine ⟨z.1, fun i hi => ?_⟩
      rw [hcn j j5, ht _ (by omega)]
      exact z.2 i hi
    · rw [k2] at h9
      rw [c9 j hj, c10 j hj, c7 _ (by omega), c7 _ (by omega), c7 _ (by omega), c8 _ (by omega), c8 _ (by omega), c8 _ (by omega)]
      exact q5 j hj h9
  · intro i hi
    rw [k17a] at hi
    have := hti.1
    rw [c25 i (by omega), k2]
    exact hvv i hi
end
