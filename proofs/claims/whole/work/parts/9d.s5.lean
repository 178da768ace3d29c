section
/-- a change at a told place is not seen by the reference's view -/
theorem vw_up {t : Nat → Int} {C : zM} {c j o : Nat} {v : Int} (hp : Pl c j o) (hc : c ≠ 13 ∧ c ≠ 14) : vw t (zup C c j v) = vw t C := by
  have key : ∀ k i, ¬ (k = c ∧ i = j) → zup C c j v k i = C k i := fun k i h => zup_n h
  funext k i
  unfold vw
  split
  · split
    · rfl
    · split
      · rfl
      · split
        · rfl
        · exact key _ _ (by unfold Pl at hp; omega)
  · split
    · rfl
    · exact key _ _ (by unfold Pl at hp; omega)
  · split
    · rfl
    · exact key _ _ (by unfold Pl at hp; omega)
  · split
    · rfl
    · exact key _ _ (by unfold Pl at hp; omega)
  · split
    · rfl
    · exact key _ _ (by unfold Pl at hp; omega)
  · split
    · rfl
    · exact key _ _ (by unfold Pl at hp; omega)
  · split
    · rfl
    · exact key _ _ (by unfold Pl at hp; omega)
  · split
    · rfl
    · exact key _ _ (by unfold Pl at hp; omega)
  · split
    · rfl
    · exact key _ _ (by unfold Pl at hp; omega)
  · split
    · rfl
    · exact key _ _ (by unfold Pl at hp; omega)
  · split
    · rfl
    · exact key _ _ (by unfold Pl at hp; omega)
  · split
    · rfl
    · exact key _ _ (by unfold Pl at hp; omega)
  · split
    · rfl
    · exact key _ _ (by unfold Pl at hp; omega)
  · split
    · rfl
    · exact key _ _ (by unfold Pl at hp; omega)
  · split
    · rfl
    · exact key _ _ (by unfold Pl at hp; omega)
  · split
    · rfl
    · exact key _ _ (by unfold Pl at hp; omega)
  · split
    · rfl
    · split
      · rfl
      · exact key _ _ (by unfold Pl at hp; omega)
  · split
    · rfl
    · exact key _ _ (by unfold Pl at hp; omega)
  · split
    · rfl
    · exact key _ _ (by unfold Pl at hp; omega)
  · split
    · rfl
    · exact key _ _ (by unfold Pl at hp; omega)
  · split
    · rfl
    · exact key _ _ (by unfold Pl at hp; omega)
  · split
    · rfl
    · exact key _ _ (by unfold Pl at hp; omega)
  · split
    · rfl
    · exact key _ _ (by unfold Pl at hp; omega)
  · split
    · rfl
    · exact key _ _ (by unfold Pl at hp; omega)
  · split
    · rfl
    · exact key _ _ (by unfold Pl at hp; omega)
  · split
    · rfl
    · exact key _ _ (by unfold Pl at hp; omega)
  · split
    · rfl
    · exact key _ _ (by unfold Pl at hp; omega)
  · split
    · rfl
    · exact key _ _ (by unfold Pl at hp; omega)
  · split
    · rfl
    · exact key _ _ (by unfold Pl at hp; omega)
  · split
    · rfl
    · exact key _ _ (by unfold Pl at hp; omega)
  · split
    · rfl
    · exact key _ _ (by unfold Pl at hp; omega)
  · split
    · rfl
    · exact key _ _ (by unfold Pl at hp; omega)
  · split
    · rfl
    · exact key _ _ (by unfold Pl at hp; omega)
  · split
    · rfl
    · exact key _ _ (by unfold Pl at hp; omega)
  · split
    · rfl
    · exact key _ _ (by unfold Pl at hp; omega)
  · exact key _ _ (fun z => by
      have h9 := hp.r
      obtain ⟨z1, z2⟩ := z
      subst z1
      have hk : k = 1 ∨ k = 2 ∨ k = 3 ∨ k = 4 ∨ k = 5 ∨ k = 6 ∨ k = 7 ∨ k = 8 ∨ k = 9 ∨ k = 10 ∨ k = 11 ∨ k = 12 ∨ k = 13 ∨ k = 14 ∨ k = 15 ∨ k = 16 ∨ k = 17 ∨ k = 18 ∨ k = 19 ∨ k = 20 ∨ k = 21 ∨ k = 22 ∨ k = 23 ∨ k = 24 ∨ k = 25 ∨ k = 26 ∨ k = 27 ∨ k = 28 ∨ k = 29 ∨ k = 30 ∨ k = 31 ∨ k = 32 ∨ k = 33 ∨ k = 34 ∨ k = 35 := by omega
      simp_all)
end
