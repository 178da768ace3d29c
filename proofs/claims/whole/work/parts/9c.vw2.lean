section
theorem VA.up {t : Nat → Int} {C : zM} {c j o : Nat} {v : Int} (hp : Pl c j o) (h : VA t C) : VA (rUp t o v) (zup C c j v) := by
  obtain ⟨a1, a2, a3, a4, a5, a6, a7⟩ := h
  exact ⟨pl1 a1 (by unfold Pl at hp; omega), pl1 a2 (by unfold Pl at hp; omega), pl1 a3 (by unfold Pl at hp; omega), pl1 a4 (by unfold Pl at hp; omega), pl1 a5 (by unfold Pl at hp; omega), pl1 a6 (by unfold Pl at hp; omega), pl1 a7 (by unfold Pl at hp; omega)⟩
theorem VB.up {t : Nat → Int} {C : zM} {c j o : Nat} {v : Int} (hp : Pl c j o) (h : VB t C) : VB (rUp t o v) (zup C c j v) := by
  intro i hi
  obtain ⟨a0, a1, a2, a3⟩ := h i hi
  exact ⟨pl1 a0 (by unfold Pl at hp; omega), pl1 a1 (by unfold Pl at hp; omega), pl1 a2 (by unfold Pl at hp; omega), pl1 a3 (by unfold Pl at hp; omega)⟩
theorem VC.up {t : Nat → Int} {C : zM} {c j o : Nat} {v : Int} (hp : Pl c j o) (h : VC t C) : VC (rUp t o v) (zup C c j v) := by
  intro i hi
  obtain ⟨a0, a1, a2, a3, a4, a5, a6, a7, a8⟩ := h i hi
  exact ⟨pl1 a0 (by unfold Pl at hp; omega), pl1 a1 (by unfold Pl at hp; omega), pl1 a2 (by unfold Pl at hp; omega), pl1 a3 (by unfold Pl at hp; omega), pl1 a4 (by unfold Pl at hp; omega), pl1 a5 (by unfold Pl at hp; omega), pl1 a6 (by unfold Pl at hp; omega), pl1 a7 (by unfold Pl at hp; omega), pl1 a8 (by unfold Pl at hp; omega)⟩
theorem VD.up {t : Nat → Int} {C : zM} {c j o : Nat} {v : Int} (hp : Pl c j o) (h : VD t C) : VD (rUp t o v) (zup C c j v) := by
  intro i hi
  obtain ⟨a0, a1⟩ := h i hi
  exact ⟨pl1 a0 (by unfold Pl at hp; omega), pl1 a1 (by unfold Pl at hp; omega)⟩
theorem VF.up {t : Nat → Int} {C : zM} {c j o : Nat} {v : Int} (hp : Pl c j o) (h : VF t C) : VF (rUp t o v) (zup C c j v) := by
  intro i hi
  obtain ⟨a0, a1⟩ := h i hi
  exact ⟨pl1 a0 (by unfold Pl at hp; omega), pl1 a1 (by unfold Pl at hp; omega)⟩
theorem VG.up {t : Nat → Int} {C : zM} {c j o : Nat} {v : Int} (hp : Pl c j o) (h : VG t C) : VG (rUp t o v) (zup C c j v) := by
  intro i hi
  obtain ⟨a0, a1, a2, a3⟩ := h i hi
  exact ⟨pl1 a0 (by unfold Pl at hp; omega), pl1 a1 (by unfold Pl at hp; omega), pl1 a2 (by unfold Pl at hp; omega), pl1 a3 (by unfold Pl at hp; omega)⟩
theorem VH.up {t : Nat → Int} {C : zM} {c j o : Nat} {v : Int} (hp : Pl c j o) (h : VH t C) : VH (rUp t o v) (zup C c j v) := by
  intro i hi
  exact pl1 (h i hi) (by unfold Pl at hp; omega)
theorem VE.up {t : Nat → Int} {C : zM} {c j o : Nat} {v : Int} (hp : Pl c j o) (h1 : t 1 ≤ 8) (h : VE t C) : VE (rUp t o v) (zup C c j v) := by
  intro i hi
  rw [rUp_o (fun z => hp.r.2.2.1 z.symm)] at hi
  obtain ⟨a0, a1, a2, a3, a4⟩ := h i hi
  have i8 : i < 8 := by omega
  exact ⟨pl1 a0 (by unfold Pl at hp; omega), pl1 a1 (by unfold Pl at hp; omega), pl1 a2 (by unfold Pl at hp; omega), pl2 a3 (by unfold Pl at hp; omega) (by rw [rUp_o (by unfold Pl at hp; omega), rUp_o (by unfold Pl at hp; omega)]), pl2 a4 (by unfold Pl at hp; omega) (by rw [rUp_o (by unfold Pl at hp; omega), rUp_o (by unfold Pl at hp; omega)])⟩
theorem cnB.up {t : Nat → Int} {c j o b : Nat} {v : Int} (hp : Pl c j o) (hb : b < 5) : cnB (rUp t o v) b = cnB t b := by
  have := hp.r
  unfold cnB
  rw [rUp_o (by omega), rUp_o (by omega), rUp_o (by omega)]
theorem cnB_r9 (t : Nat → Int) (b : Nat) : 1 ≤ cnB t b ∧ cnB t b ≤ 4 := by
  unfold cnB
  split
  · decide
  · split
    · decide
    · split <;> decide
theorem VJ.up {t : Nat → Int} {C : zM} {c j o : Nat} {v : Int} (hp : Pl c j o) (h4 : t 4 ≤ 5) (h : VJ t C) : VJ (rUp t o v) (zup C c j v) := by
  have hr := hp.r
  intro i hi
  rw [rUp_o (fun z => hr.2.2.2.1 z.symm)] at hi
  obtain ⟨a0, a1, a2, a3⟩ := h i hi
  have i5 : i < 5 := by omega
  have cr := cnB_r9 t i
  rw [cnB.up hp i5]
  refine ⟨pl2 a0 (by unfold Pl at hp; omega) (by rw [rUp_o (by omega)]), pl2 a1 (by unfold Pl at hp; omega) rfl, pl2 a2 (by unfold Pl at hp; omega) (by rw [rUp_o (by omega)]), fun u hu => pl2 (a3 u hu) (by unfold Pl at hp; omega) (by rw [rUp_o (by omega)])⟩
theorem VW.up {t : Nat → Int} {C : zM} {c j o : Nat} {v : Int} (h1 : t 1 ≤ 8) (h4 : t 4 ≤ 5) (hp : Pl c j o) (h : VW t C) : VW (rUp t o v) (zup C c j v) :=
  ⟨VA.up hp h.1, VB.up hp h.2.1, VC.up hp h.2.2.1, VD.up hp h.2.2.2.1, VE.up hp h1 h.2.2.2.2.1, VF.up hp h.2.2.2.2.2.1, VG.up hp h.2.2.2.2.2.2.1, VH.up hp h.2.2.2.2.2.2.2.1, VJ.up hp h4 h.2.2.2.2.2.2.2.2⟩
end
