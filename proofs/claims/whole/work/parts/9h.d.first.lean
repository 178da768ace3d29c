section
def M0 : zM := fun k j => if k = 3 then (if j = 3 then 10 else if j = 2 then 0 else if j = 1 then 0 else if j = 0 then 0 else 0) else if k = 23 then (if j = 3 then 1 else if j = 2 then 1 else if j = 1 then 1 else if j = 0 then 1 else 0) else if k = 36 then (((67 + 35 * j : Nat) : Int)) else if k = 38 then (((172 + 2 * j : Nat) : Int)) else if k = 39 then (if j = 3 then (-1) else 0) else if k = 69 then (if j = 3 then 10 else if j = 2 then 0 else if j = 1 then 0 else if j = 0 then 0 else 0) else if k = 89 then (if j = 3 then 1 else if j = 2 then 1 else if j = 1 then 1 else if j = 0 then 1 else 0) else if k = 104 then (if j = 3 then 10 else if j = 2 then 0 else if j = 1 then 0 else if j = 0 then 0 else 0) else if k = 124 then (if j = 3 then 1 else if j = 2 then 1 else if j = 1 then 1 else if j = 0 then 1 else 0) else if k = 139 then (if j = 3 then 10 else if j = 2 then 0 else if j = 1 then 0 else if j = 0 then 0 else 0) else if k = 159 then (if j = 3 then 1 else if j = 2 then 1 else if j = 1 then 1 else if j = 0 then 1 else 0) else if k = 172 then (if j = 0 then (-1) else 0) else if k = 174 then (if j = 0 then (-1) else 0) else if k = 176 then (if j = 0 then (-1) else 0) else if k = 178 then (if j = 0 then (-1) else 0) else if k = 180 then (if j = 15 then (-1) else if j = 16 then (-1) else 0) else if k = 181 then (if j = 14 then 1 else if j = 13 then 1 else if j = 12 then 1 else if j = 11 then 1 else if j = 10 then 10 else 0) else if k = 198 then (if j = 3 then (-1) else if j = 2 then (-1) else if j = 1 then (-1) else if j = 0 then (-1) else 0) else 0
theorem M0_0 {k : Nat} (h : k ∉ [3, 23, 36, 38, 39, 69, 89, 104, 124, 139, 159, 172, 174, 176, 178, 180, 181, 198]) (j : Nat) : M0 k j = 0 := by
  simp only [List.mem_cons, List.not_mem_nil, or_false, not_or] at h
  unfold M0
  rw [if_neg h.1, if_neg h.2.1, if_neg h.2.2.1, if_neg h.2.2.2.1, if_neg h.2.2.2.2.1, if_neg h.2.2.2.2.2.1, if_neg h.2.2.2.2.2.2.1, if_neg h.2.2.2.2.2.2.2.1, if_neg h.2.2.2.2.2.2.2.2.1, if_neg h.2.2.2.2.2.2.2.2.2.1, if_neg h.2.2.2.2.2.2.2.2.2.2.1, if_neg h.2.2.2.2.2.2.2.2.2.2.2.1, if_neg h.2.2.2.2.2.2.2.2.2.2.2.2.1, if_neg h.2.2.2.2.2.2.2.2.2.2.2.2.2.1, if_neg h.2.2.2.2.2.2.2.2.2.2.2.2.2.2.1, if_neg h.2.2.2.2.2.2.2.2.2.2.2.2.2.2.2.1, if_neg h.2.2.2.2.2.2.2.2.2.2.2.2.2.2.2.2.1, if_neg h.2.2.2.2.2.2.2.2.2.2.2.2.2.2.2.2.2]
theorem zrT_0 (t : zT) (j : Nat) : zrT t j 0 := by
  have e : zrI 0 := ⟨by omega, by omega⟩
  have e2 : zrL 0 := ⟨by omega, by omega⟩
  rcases t with ⟨t, n⟩ | ⟨ci, sl⟩
  · match t with
    | 0 => exact e
    | 1 => exact e2
    | 2 => exact ⟨by omega, by omega⟩
    | 3 => exact Or.inl rfl
    | t + 4 => exact trivial
  · show zrF (sl.getD j 0) 0
    generalize sl.getD j 0 = q
    unfold zrF
    split
    · exact e2
    · exact e
theorem M0_ok : zokM zly M0 := by
  intro k j
  by_cases h : k ∉ [3, 23, 36, 38, 39, 69, 89, 104, 124, 139, 159, 172, 174, 176, 178, 180, 181, 198]
  · rw [M0_0 h]; exact zrT_0 _ _
  have h := Decidable.not_not.mp h
  simp only [List.mem_cons, List.not_mem_nil, or_false] at h
  have zi : ∀ x : Int, -1 ≤ x → x ≤ 10 → zrI x := fun x h1 h2 => ⟨by omega, by omega⟩
  rcases h with rfl | rfl | rfl | rfl | rfl | rfl | rfl | rfl | rfl | rfl | rfl | rfl | rfl | rfl | rfl | rfl | rfl | rfl
  · show zrI (if j = 3 then 10 else if j = 2 then 0 else if j = 1 then 0 else if j = 0 then 0 else 0)
    (repeat' split) <;> exact zi _ (by omega) (by omega)
  · show zrI (if j = 3 then 1 else if j = 2 then 1 else if j = 1 then 1 else if j = 0 then 1 else 0)
    (repeat' split) <;> exact zi _ (by omega) (by omega)
  · exact trivial
  · exact trivial
  · show zrF (List.getD [43, 0, 0, 0, 44, 0, 0, 0, 0, 0] j 0) (if j = 3 then (-1) else 0)
    by_cases h3 : j = 3
    · subst h3; exact (⟨by decide, by decide⟩ : zrI (-1))
    rw [if_neg h3]
    exact zrT_0 (.inr (0, [43, 0, 0, 0, 44, 0, 0, 0, 0, 0])) j
  · show zrI (if j = 3 then 10 else if j = 2 then 0 else if j = 1 then 0 else if j = 0 then 0 else 0)
    (repeat' split) <;> exact zi _ (by omega) (by omega)
  · show zrI (if j = 3 then 1 else if j = 2 then 1 else if j = 1 then 1 else if j = 0 then 1 else 0)
    (repeat' split) <;> exact zi _ (by omega) (by omega)
  · show zrI (if j = 3 then 10 else if j = 2 then 0 else if j = 1 then 0 else if j = 0 then 0 else 0)
    (repeat' split) <;> exact zi _ (by omega) (by omega)
  · show zrI (if j = 3 then 1 else if j = 2 then 1 else if j = 1 then 1 else if j = 0 then 1 else 0)
    (repeat' split) <;> exact zi _ (by omega) (by omega)
  · show zrI (if j = 3 then 10 else if j = 2 then 0 else if j = 1 then 0 else if j = 0 then 0 else 0)
    (repeat' split) <;> exact zi _ (by omega) (by omega)
  · show zrI (if j = 3 then 1 else if j = 2 then 1 else if j = 1 then 1 else if j = 0 then 1 else 0)
    (repeat' split) <;> exact zi _ (by omega) (by omega)
  · show zrF (List.getD [0, 0, 176] j 0) (if j = 0 then (-1) else 0)
    by_cases h0 : j = 0
    · subst h0; exact (⟨by decide, by decide⟩ : zrI (-1))
    rw [if_neg h0]
    exact zrT_0 (.inr (0, [0, 0, 176])) j
  · show zrF (List.getD [0, 0, 178] j 0) (if j = 0 then (-1) else 0)
    by_cases h0 : j = 0
    · subst h0; exact (⟨by decide, by decide⟩ : zrI (-1))
    rw [if_neg h0]
    exact zrT_0 (.inr (0, [0, 0, 178])) j
  · show zrF (List.getD [0, 0, 180] j 0) (if j = 0 then (-1) else 0)
    by_cases h0 : j = 0
    · subst h0; exact (⟨by decide, by decide⟩ : zrI (-1))
    rw [if_neg h0]
    exact zrT_0 (.inr (0, [0, 0, 180])) j
  · show zrF (List.getD [0, 0, 182] j 0) (if j = 0 then (-1) else 0)
    by_cases h0 : j = 0
    · subst h0; exact (⟨by decide, by decide⟩ : zrI (-1))
    rw [if_neg h0]
    exact zrT_0 (.inr (0, [0, 0, 182])) j
  · show zrF (List.getD [184, 185, 186, 0, 187, 188, 0, 0, 0, 0, 0, 0, 0, 0, 0, 0, 0, 0, 0, 189, 190, 191, 192, 193, 194, 195, 196, 197, 198, 199, 200, 0, 201, 202, 203] j 0) (if j = 15 then (-1) else if j = 16 then (-1) else 0)
    by_cases h15 : j = 15
    · subst h15; exact (⟨by decide, by decide⟩ : zrI (-1))
    by_cases h16 : j = 16
    · subst h16; exact (⟨by decide, by decide⟩ : zrI (-1))
    rw [if_neg h15, if_neg h16]
    exact zrT_0 (.inr (0, [184, 185, 186, 0, 187, 188, 0, 0, 0, 0, 0, 0, 0, 0, 0, 0, 0, 0, 0, 189, 190, 191, 192, 193, 194, 195, 196, 197, 198, 199, 200, 0, 201, 202, 203])) j
  · show zrI (if j = 14 then 1 else if j = 13 then 1 else if j = 12 then 1 else if j = 11 then 1 else if j = 10 then 10 else 0)
    (repeat' split) <;> exact zi _ (by omega) (by omega)
  · show zrI (if j = 3 then (-1) else if j = 2 then (-1) else if j = 1 then (-1) else if j = 0 then (-1) else 0)
    (repeat' split) <;> exact zi _ (by omega) (by omega)
theorem rr0_st : zST 0 (M0 181) M0 := by
  have t1 : M0 181 1 = 0 := by decide +kernel
  have t4 : M0 181 4 = 0 := by decide +kernel
  have no : ∀ {j : Nat} {x : Int}, x = 0 → ¬ (j : Int) < x := fun e h => by omega
  refine ⟨⟨?_, ?_, ?_, ?_, ?_, ?_, ?_, ?_, ?_⟩, ?_, ?_, ?_, ?_, ?_, ?_, ?_, ?_, ?_⟩
  · unfold VA; decide +kernel
  · unfold VB; decide +kernel
  · unfold VC; decide +kernel
  · unfold VD; decide +kernel
  · exact fun j h => absurd h (no t1)
  · unfold VF; decide +kernel
  · unfold VG; decide +kernel
  · unfold VH; decide +kernel
  · exact fun j h => absurd h (no t4)
  · unfold ICs; decide +kernel
  · unfold ICg; decide +kernel
  · unfold ICt; decide +kernel
  · have h1 : (0 ≤ M0 1 5 ∧ M0 1 5 ≤ 5) ∧ (∀ g : Nat, g < 6 → 0 ≤ M0 29 g ∧ M0 29 g ≤ 500) ∧ (∀ b : Nat, b < 5 → 0 ≤ M0 30 b ∧ M0 30 b ≤ 5 ∧ 0 ≤ M0 32 b ∧ M0 32 b ≤ 4 ∧ 0 ≤ M0 33 b ∧ M0 33 b ≤ 9 ∧ M0 32 b = 0) := by decide +kernel
    refine ⟨h1.1, h1.2.1, fun b hb => ?_⟩
    obtain ⟨a1, a2, a3, a4, a5, a6, a7⟩ := h1.2.2 b hb
    exact ⟨a1, a2, a3, a4, a5, a6, fun i hi => absurd hi (no a7)⟩
  · unfold ICm; decide +kernel
  · unfold ICe; decide +kernel
  · exact fun j h => absurd h (no t1)
  · have e3 : M0 1 3 = 0 := by decide +kernel
    have e5 : M0 1 5 = 0 := by decide +kernel
    have h1 : (0 ≤ M0 1 3 ∧ M0 1 3 ≤ 6) ∧ (∀ i : Nat, i < 4 → 0 ≤ M0 23 i ∧ M0 23 i ≤ 999) ∧ (∀ s : Nat, s < 8 → M0 2 0 ≤ s → M0 9 s = 0 ∧ M0 10 s = 0 ∧ M0 7 (3 * s) = 0 ∧ M0 7 (3 * s + 1) = 0 ∧ M0 7 (3 * s + 2) = 0 ∧ M0 8 (3 * s) = 0 ∧ M0 8 (3 * s + 1) = 0 ∧ M0 8 (3 * s + 2) = 0) := by decide +kernel
    exact ⟨h1.1, h1.2.1, fun g h => absurd h (no e3), fun b h => absurd h (no e5), h1.2.2⟩
  · exact fun i h => absurd h (no (by decide +kernel))
theorem rr0 : RR 0 M0 := by
  refine ⟨rr0_st, ?_, ?_, ?_, ?_, ⟨?_, ?_⟩, ?_, ?_, Int.le_refl 0⟩
  · have h1 : ∀ i : Nat, i < 3 → M0 37 i = M0 183 i ∧ M0 37 i = 0 := by decide +kernel
    exact fun i hi => ⟨(h1 i hi).1, fun h => absurd (h1 i hi).2 h⟩
  · decide +kernel
  · unfold ICx; decide +kernel
  · decide +kernel
  · funext p
    show M0 40 p % 256 = M0 184 p
    rw [M0_0 (by decide), M0_0 (by decide)]
    rfl
  · decide +kernel
  · decide +kernel
  · unfold drV; decide +kernel
end
