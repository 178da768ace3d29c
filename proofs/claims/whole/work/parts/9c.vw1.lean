section
/-- the class's state C is the one that the told row t tells -/
def VA (t : Nat → Int) (C : zM) : Prop := C 1 3 = t 2 ∧ C 1 5 = t 4 ∧ C 1 10 = t 5 ∧ C 2 0 = t 0 ∧ C 11 0 = t 1 ∧ C 17 6 = t 3 ∧ C 17 11 = t 6
def VB (t : Nat → Int) (C : zM) : Prop := ∀ j : Nat, j < 4 → C 3 j = t (7 + j) ∧ C 23 j = t (11 + j) ∧ C 34 j = t (607 + 2 * j) ∧ C 35 j = t (608 + 2 * j)
def VC (t : Nat → Int) (C : zM) : Prop := ∀ j : Nat, j < 8 → C 4 j = t (15 + 11 * j) ∧ C 5 j = t (16 + 11 * j) ∧ C 6 j = t (17 + 11 * j) ∧ C 9 j = t (24 + 11 * j) ∧ C 10 j = t (25 + 11 * j) ∧ C 19 j = t (159 + 21 * j) ∧ C 20 j = t (327 + j) ∧ C 21 j = t (335 + j) ∧ C 22 j = t (343 + j)
def VD (t : Nat → Int) (C : zM) : Prop := ∀ j : Nat, j < 24 → C 7 j = t (18 + 11 * (j / 3) + 2 * (j % 3)) ∧ C 8 j = t (19 + 11 * (j / 3) + 2 * (j % 3))
def VE (t : Nat → Int) (C : zM) : Prop := ∀ j : Nat, (j : Int) < t 1 → C 12 j = t (103 + 7 * j) ∧ C 13 j = t (104 + 7 * j) ∧ C 14 j = t (105 + 7 * j) ∧ C 15 j = gcode (t (106 + 7 * j)) (t (107 + 7 * j)) ∧ C 16 j = gcode (t (108 + 7 * j)) (t (109 + 7 * j))
def VF (t : Nat → Int) (C : zM) : Prop := ∀ j : Nat, j < 160 → C 18 j = t (160 + 21 * (j / 20) + j % 20) ∧ C 28 j = t (405 + j)
def VG (t : Nat → Int) (C : zM) : Prop := ∀ j : Nat, j < 12 → C 24 j = t (358 + 4 * j) ∧ C 25 j = t (357 + 4 * j) ∧ C 26 j = t (360 + 4 * j) ∧ C 27 j = t (359 + 4 * j)
def VH (t : Nat → Int) (C : zM) : Prop := ∀ j : Nat, j < 6 → C 29 j = t (351 + j)
def VJ (t : Nat → Int) (C : zM) : Prop := ∀ j : Nat, (j : Int) < t 4 → C 30 j = t (577 + 6 * j) ∧ C 32 j = cnB t j ∧ C 33 j = t (582 + 6 * j) ∧ ∀ i : Nat, (i : Int) < cnB t j → C 31 (4 * j + i) = t (578 + 6 * j + i)
def VW (t : Nat → Int) (C : zM) : Prop := VA t C ∧ VB t C ∧ VC t C ∧ VD t C ∧ VE t C ∧ VF t C ∧ VG t C ∧ VH t C ∧ VJ t C
theorem VW.c {t : Nat → Int} {C D : zM} (h : ∀ k, 1 ≤ k → k ≤ 35 → D k = C k) (g : VW t C) : VW t D := by
  unfold VW VA VB VC VD VE VF VG VH VJ
  rw [h 1 (by decide) (by decide), h 2 (by decide) (by decide), h 3 (by decide) (by decide), h 4 (by decide) (by decide), h 5 (by decide) (by decide), h 6 (by decide) (by decide), h 7 (by decide) (by decide), h 8 (by decide) (by decide), h 9 (by decide) (by decide), h 10 (by decide) (by decide), h 11 (by decide) (by decide), h 12 (by decide) (by decide), h 13 (by decide) (by decide), h 14 (by decide) (by decide), h 15 (by decide) (by decide), h 16 (by decide) (by decide), h 17 (by decide) (by decide), h 18 (by decide) (by decide), h 19 (by decide) (by decide), h 20 (by decide) (by decide), h 21 (by decide) (by decide), h 22 (by decide) (by decide), h 23 (by decide) (by decide), h 24 (by decide) (by decide), h 25 (by decide) (by decide), h 26 (by decide) (by decide), h 27 (by decide) (by decide), h 28 (by decide) (by decide), h 29 (by decide) (by decide), h 30 (by decide) (by decide), h 31 (by decide) (by decide), h 32 (by decide) (by decide), h 33 (by decide) (by decide), h 34 (by decide) (by decide), h 35 (by decide) (by decide)]
  exact g
set_option maxHeartbeats 4000000 in
theorem vw_of {t : Nat → Int} {C : zM} (h : VW t C) : vw t C = C := by
  obtain ⟨⟨a1, a2, a3, a4, a5, a6, a7⟩, hB, hC, hD, hE, hF, hG, hH, hI⟩ := h
  funext k j
  unfold vw
  split
  · split
    · rename_i c; rw [c, a1]
    · split
      · rename_i c; rw [c, a2]
      · split
        · rename_i c; rw [c, a3]
        · rfl
  · split
    · rename_i c; rw [c, a4]
    · rfl
  · split
    · rename_i c; exact (hB j (by omega)).1.symm
    · rfl
  · split
    · rename_i c; exact (hC j (by omega)).1.symm
    · rfl
  · split
    · rename_i c; exact (hC j (by omega)).2.1.symm
    · rfl
  · split
    · rename_i c; exact (hC j (by omega)).2.2.1.symm
    · rfl
  · split
    · rename_i c; exact (hD j (by omega)).1.symm
    · rfl
  · split
    · rename_i c; exact (hD j (by omega)).2.symm
    · rfl
  · split
    · rename_i c; exact (hC j (by omega)).2.2.2.1.symm
    · rfl
  · split
    · rename_i c; exact (hC j (by omega)).2.2.2.2.1.symm
    · rfl
  · split
    · rename_i c; rw [c, a5]
    · rfl
  · split
    · rename_i c; exact (hE j (by omega)).1.symm
    · rfl
  · split
    · rename_i c; exact (hE j (by omega)).2.1.symm
    · rfl
  · split
    · rename_i c; exact (hE j (by omega)).2.2.1.symm
    · rfl
  · split
    · rename_i c; exact (hE j (by omega)).2.2.2.1.symm
    · rfl
  · split
    · rename_i c; exact (hE j (by omega)).2.2.2.2.symm
    · rfl
  · split
    · rename_i c; rw [c, a6]
    · split
      · rename_i c; rw [c, a7]
      · rfl
  · split
    · rename_i c; exact (hF j (by omega)).1.symm
    · rfl
  · split
    · rename_i c; exact (hC j (by omega)).2.2.2.2.2.1.symm
    · rfl
  · split
    · rename_i c; exact (hC j (by omega)).2.2.2.2.2.2.1.symm
    · rfl
  · split
    · rename_i c; exact (hC j (by omega)).2.2.2.2.2.2.2.1.symm
    · rfl
  · split
    · rename_i c; exact (hC j (by omega)).2.2.2.2.2.2.2.2.symm
    · rfl
  · split
    · rename_i c; exact (hB j (by omega)).2.1.symm
    · rfl
  · split
    · rename_i c; exact (hG j (by omega)).1.symm
    · rfl
  · split
    · rename_i c; exact (hG j (by omega)).2.1.symm
    · rfl
  · split
    · rename_i c; exact (hG j (by omega)).2.2.1.symm
    · rfl
  · split
    · rename_i c; exact (hG j (by omega)).2.2.2.symm
    · rfl
  · split
    · rename_i c; exact (hF j (by omega)).2.symm
    · rfl
  · split
    · rename_i c; exact (hH j (by omega)).symm
    · rfl
  · split
    · rename_i c; exact (hI j (by omega)).1.symm
    · rfl
  · split
    · rename_i c
      have e := (hI (j / 4) c.1).2.2.2 (j % 4) c.2
      rw [show 4 * (j / 4) + j % 4 = j by omega] at e
      exact e.symm
    · rfl
  · split
    · rename_i c; exact (hI j (by omega)).2.1.symm
    · rfl
  · split
    · rename_i c; exact (hI j (by omega)).2.2.1.symm
    · rfl
  · split
    · rename_i c; exact (hB j (by omega)).2.2.1.symm
    · rfl
  · split
    · rename_i c; exact (hB j (by omega)).2.2.2.symm
    · rfl
  · rfl
/-- the place o of the told row is the class's cell c, j -/
def Pl (c j o : Nat) : Prop := (c = 3 ∧ j < 4 ∧ o = 7 + j) ∨ (c = 23 ∧ j < 4 ∧ o = 11 + j) ∨ (c = 34 ∧ j < 4 ∧ o = 607 + 2 * j) ∨ (c = 35 ∧ j < 4 ∧ o = 608 + 2 * j) ∨ (c = 4 ∧ j < 8 ∧ o = 15 + 11 * j) ∨ (c = 5 ∧ j < 8 ∧ o = 16 + 11 * j) ∨ (c = 6 ∧ j < 8 ∧ o = 17 + 11 * j) ∨ (c = 9 ∧ j < 8 ∧ o = 24 + 11 * j) ∨ (c = 10 ∧ j < 8 ∧ o = 25 + 11 * j) ∨ (c = 19 ∧ j < 8 ∧ o = 159 + 21 * j) ∨ (c = 20 ∧ j < 8 ∧ o = 327 + j) ∨ (c = 21 ∧ j < 8 ∧ o = 335 + j) ∨ (c = 22 ∧ j < 8 ∧ o = 343 + j) ∨ (c = 7 ∧ j < 24 ∧ o = 18 + 11 * (j / 3) + 2 * (j % 3)) ∨ (c = 8 ∧ j < 24 ∧ o = 19 + 11 * (j / 3) + 2 * (j % 3)) ∨ (c = 13 ∧ j < 8 ∧ o = 104 + 7 * j) ∨ (c = 14 ∧ j < 8 ∧ o = 105 + 7 * j) ∨ (c = 18 ∧ j < 160 ∧ o = 160 + 21 * (j / 20) + j % 20) ∨ (c = 28 ∧ j < 160 ∧ o = 405 + j) ∨ (c = 24 ∧ j < 12 ∧ o = 358 + 4 * j) ∨ (c = 25 ∧ j < 12 ∧ o = 357 + 4 * j) ∨ (c = 26 ∧ j < 12 ∧ o = 360 + 4 * j) ∨ (c = 27 ∧ j < 12 ∧ o = 359 + 4 * j) ∨ (c = 29 ∧ j < 6 ∧ o = 351 + j) ∨ (c = 1 ∧ j = 3 ∧ o = 2) ∨ (c = 1 ∧ j = 10 ∧ o = 5) ∨ (c = 2 ∧ j = 0 ∧ o = 0) ∨ (c = 17 ∧ j = 6 ∧ o = 3) ∨ (c = 17 ∧ j = 11 ∧ o = 6)
theorem Pl.r {c j o : Nat} (h : Pl c j o) : 1 ≤ c ∧ c ≤ 35 ∧ o ≠ 1 ∧ o ≠ 4 ∧ (o < 577 ∨ 607 ≤ o) := by
  unfold Pl at h
  omega
theorem zup_n {M : zM} {c j k i : Nat} {v : Int} (h : ¬ (k = c ∧ i = j)) : zup M c j v k i = M k i := by
  unfold zup
  by_cases e : k = c
  · rw [if_pos e, if_neg (fun z => h ⟨e, z⟩)]
  · rw [if_neg e]
/-- one step of the proof below -/
theorem pl1 {C : zM} {t : Nat → Int} {c j o k i q : Nat} {v : Int} (h : C k i = t q) (e : (k = c ∧ i = j) ↔ q = o) : zup C c j v k i = rUp t o v q := by
  by_cases d : q = o
  · obtain ⟨rfl, rfl⟩ := e.mpr d
    rw [d, zup_e, rUp_e]
  · rw [rUp_o d, zup_n (fun z => d (e.mp z))]
    exact h
theorem pl2 {C : zM} {c j k i : Nat} {v x y : Int} (h : C k i = x) (e : k ≠ c ∨ i ≠ j) (exy : x = y) : zup C c j v k i = y := by
  rw [zup_n (by omega), h, exy]
end
