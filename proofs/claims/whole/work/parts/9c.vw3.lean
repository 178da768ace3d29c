section
theorem zup_cm {M : zM} {a b c d : Nat} {u v : Int} (h : a ≠ c ∨ b ≠ d) : zup (zup M a b u) c d v = zup (zup M c d v) a b u := by
  funext k j
  by_cases e : k = c ∧ j = d
  · obtain ⟨rfl, rfl⟩ := e
    rw [zup_e, zup_n (by omega), zup_e]
  · rw [zup_n e]
    by_cases f : k = a ∧ j = b
    · obtain ⟨rfl, rfl⟩ := f
      rw [zup_e, zup_e]
    · rw [zup_n f, zup_n f, zup_n e]
theorem rUp_cm {t : Nat → Int} {a b : Nat} {u v : Int} (h : a ≠ b) : rUp (rUp t a u) b v = rUp (rUp t b v) a u := by
  funext j
  unfold rUp
  by_cases e : j = b
  · rw [if_pos e, if_neg (by omega), if_pos e]
  · rw [if_neg e]
    by_cases f : j = a
    · rw [if_pos f, if_pos f]
    · rw [if_neg f, if_neg f, if_neg e]
theorem rUp_w {t : Nat → Int} {a : Nat} {u v : Int} : rUp (rUp t a u) a v = rUp t a v := by
  funext j
  unfold rUp
  by_cases e : j = a
  · rw [if_pos e, if_pos e]
  · rw [if_neg e, if_neg e, if_neg e]
/-- what else holds of the state -/
def ICq (t : Nat → Int) (C : zM) : Prop := (0 ≤ C 1 3 ∧ C 1 3 ≤ 6) ∧ (∀ i : Nat, i < 4 → 0 ≤ C 23 i ∧ C 23 i ≤ 999) ∧ (∀ g : Nat, (g : Int) < C 1 3 → 1 ≤ C 29 g) ∧ (∀ b : Nat, (b : Int) < C 1 5 → C 30 b < C 1 3 ∧ bqT t b) ∧ (∀ s : Nat, s < 8 → C 2 0 ≤ s → C 9 s = 0 ∧ C 10 s = 0 ∧ C 7 (3 * s) = 0 ∧ C 7 (3 * s + 1) = 0 ∧ C 7 (3 * s + 2) = 0 ∧ C 8 (3 * s) = 0 ∧ C 8 (3 * s + 1) = 0 ∧ C 8 (3 * s + 2) = 0)
/-- what lies on the slide is taken as a sort -/
def ICv (C : zM) : Prop := ∀ i : Nat, (i : Int) < C 17 6 → C 25 i < C 2 0
/-- the state: told by t, and as it should be -/
def zST (B : Int) (t : Nat → Int) (C : zM) : Prop := VW t C ∧ ICs C ∧ ICg C ∧ ICt B C ∧ ICb C ∧ ICm C ∧ ICe C ∧ ICk t ∧ ICq t C ∧ ICv C
/-- a function of the cells 1 to 35 alone -/
def clip (M : zM) : zM := fun k => if 1 ≤ k ∧ k ≤ 35 then M k else fun _ => 0
theorem clip_c {M N : zM} (h : ∀ k, 1 ≤ k → k ≤ 35 → M k = N k) : clip M = clip N := by
  funext k
  unfold clip
  by_cases c : 1 ≤ k ∧ k ≤ 35
  · rw [if_pos c, if_pos c, h k c.1 c.2]
  · rw [if_neg c, if_neg c]
theorem ICs_cl {M : zM} : ICs (clip M) = ICs M := rfl
theorem ICg_cl {M : zM} : ICg (clip M) = ICg M := rfl
theorem ICt_cl {B : Int} {M : zM} : ICt B (clip M) = ICt B M := rfl
theorem ICb_cl {M : zM} : ICb (clip M) = ICb M := rfl
theorem ICm_cl {M : zM} : ICm (clip M) = ICm M := rfl
theorem ICe_cl {M : zM} : ICe (clip M) = ICe M := rfl
theorem ICq_cl {t : Nat → Int} {M : zM} : ICq t (clip M) = ICq t M := rfl
theorem ICv_cl {M : zM} : ICv (clip M) = ICv M := rfl
theorem VW_cl {t : Nat → Int} {M : zM} : VW t (clip M) = VW t M := rfl
theorem zST.c {B : Int} {t : Nat → Int} {C D : zM} (h : ∀ k, 1 ≤ k → k ≤ 35 → D k = C k) (g : zST B t C) : zST B t D := by
  have e := clip_c h
  unfold zST at *
  rw [← VW_cl, ← ICs_cl, ← ICg_cl, ← ICt_cl, ← ICb_cl, ← ICm_cl, ← ICe_cl, ← ICq_cl, ← ICv_cl] at g ⊢
  rw [e]
  exact g
theorem zST.w {B B' : Int} {t : Nat → Int} {C : zM} (h : zST B t C) (hb : B ≤ B') : zST B' t C := ⟨h.1, h.2.1, h.2.2.1, h.2.2.2.1.w hb, h.2.2.2.2⟩
theorem zST.q {B : Int} {t : Nat → Int} {C : zM} (h : zST B t C) : ICq t C := h.2.2.2.2.2.2.2.2.1
theorem zST.v {B : Int} {t : Nat → Int} {C : zM} (h : zST B t C) : ICv C := h.2.2.2.2.2.2.2.2.2
theorem zST.vm {B : Int} {t : Nat → Int} {C : zM} (h : zST B t C) : vw t C = C := vw_of h.1
/-- vw looks, at a cell, at that cell alone -/
theorem vw_k {t : Nat → Int} {C D : zM} {k : Nat} (h : C k = D k) : vw t C k = vw t D k := by
  funext j
  unfold vw
  split <;> (try rw [h])
/-- class and reference agree -/
def RR (B : Int) (M : zM) : Prop := zST B (M 181) M ∧ (∀ i : Nat, i < 3 → M 37 i = M 183 i ∧ (¬ M 37 i = 0 → zST B (fun j => M 182 (615 * i + j)) (fun k j => M (66 + 35 * i + k) j))) ∧ (∀ i : Nat, i < 4 → M (172 + 2 * i) 0 = M 198 i ∧ M (172 + 2 * i) 1 = M 199 i ∧ ∀ j : Nat, j < 20 → M (173 + 2 * i) j = M 200 (20 * i + j)) ∧ ICx M ∧ M 180 16 = -1 ∧ (cT M = M 184 ∧ M 39 1 = M 180 6 ∧ 0 ≤ M 180 6 ∧ M 180 6 ≤ 400) ∧ (M 39 2 = M 180 14 ∧ M 39 3 = M 180 15) ∧ drV M ∧ 0 ≤ B
/-- the cells that RR looks at -/
abbrev rC (k : Nat) : Prop := (1 ≤ k ∧ k ≤ 46) ∨ (67 ≤ k ∧ k ≤ 179) ∨ (181 ≤ k ∧ k ≤ 184) ∨ (198 ≤ k ∧ k ≤ 200)
theorem RR.f {B : Int} {M N : zM} (h : ∀ k, rC k → N k = M k) (h6 : N 180 6 = M 180 6) (h14 : N 180 14 = M 180 14) (h15 : N 180 15 = M 180 15) (h16 : N 180 16 = -1) (g : RR B M) : RR B N := by
  obtain ⟨g1, g2, g3, g4, g5, g6, g7, g8, g9⟩ := g
  refine ⟨?_, fun i hi => ?_, fun i hi => ?_, ?_, h16, ?_, ?_, ?_, g9⟩
  · rw [h 181 (by decide)]
    exact g1.c (fun k a b => h k (by omega))
  · rw [h 37 (by decide), h 183 (by decide), h 182 (by decide)]
    obtain ⟨a, b⟩ := g2 i hi
    exact ⟨a, fun z => (b z).c (fun k k1 k2 => by
      funext j
      show N (66 + 35 * i + k) j = M (66 + 35 * i + k) j
      rw [h _ (by omega)])⟩
  · rw [h _ (show rC (172 + 2 * i) by omega), h _ (show rC (173 + 2 * i) by omega), h 198 (by decide), h 199 (by decide), h 200 (by decide)]
    exact g3 i hi
  · unfold ICx
    rw [h 38 (by decide), h 36 (by decide)]
    exact ⟨g4.1, g4.2.1, fun i hi => by rw [h _ (show rC (172 + 2 * i) by omega)]; exact g4.2.2 i hi⟩
  · rw [cT_o (h 40 (by decide)), h 184 (by decide), h 39 (by decide), h6]
    exact g6
  · rw [h 39 (by decide), h14, h15]
    exact g7
  · exact drV.o (fun k a b => h k (by omega)) g8
theorem RR.w {B B' : Int} {M : zM} (g : RR B M) (h : B ≤ B') : RR B' M := by
  obtain ⟨g1, g2, g3, g4, g5, g6, g7, g8, g9⟩ := g
  exact ⟨g1.w h, fun i hi => ⟨(g2 i hi).1, fun z => ((g2 i hi).2 z).w h⟩, g3, g4, g5, g6, g7, g8, by omega⟩
/-- the reference's view of a memory whose class and told row are M's -/
theorem RR.v {B : Int} {M N : zM} (g : RR B M) (h : ∀ k, 1 ≤ k → k ≤ 35 → N k = M k) (ht : N 181 = M 181) : ∀ k, 1 ≤ k → k ≤ 35 → vm N k = M k := fun k a b => by
  show vw (N 181) N k = M k
  rw [ht, vw_k (D := M) (h k a b), g.1.vm]
end
