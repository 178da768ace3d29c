section
/-- only the till has changed, and its costs have not -/
def tillO (C D : zM) : Prop := ∀ k, (k < 17 ∨ 28 < k ∨ k = 23) → D k = C k
theorem tillO.rf (C : zM) : tillO C C := fun _ _ => rfl
theorem tillO.tr {A B C : zM} (h : tillO A B) (g : tillO B C) : tillO A C := fun k hk => (g k hk).trans (h k hk)
theorem tillO.up {C : zM} {c j : Nat} {v : Int} (h : 17 ≤ c ∧ c ≤ 28 ∧ c ≠ 23) : tillO C (zup C c j v) := fun k hk => zup_o k (by omega)
theorem tillO.s {C D : zM} (h : tillO C D) (g : ICs C) : ICs D := by
  unfold ICs
  rw [h 2 (by decide), h 3 (by decide), h 4 (by decide), h 9 (by decide), h 10 (by decide), h 7 (by decide), h 8 (by decide)]
  exact g
theorem tillO.g {C D : zM} (h : tillO C D) (g : ICg C) : ICg D := by
  unfold ICg
  rw [h 11 (by decide), h 12 (by decide), h 13 (by decide), h 14 (by decide), h 15 (by decide), h 16 (by decide)]
  exact g
theorem tillO.b {C D : zM} (h : tillO C D) (g : ICb C) : ICb D := by
  unfold ICb
  rw [h 1 (by decide), h 29 (by decide), h 30 (by decide), h 31 (by decide), h 32 (by decide), h 33 (by decide)]
  exact g
theorem tillO.m {C D : zM} (h : tillO C D) (g : ICm C) : ICm D := by
  unfold ICm
  rw [h 1 (by decide), h 34 (by decide), h 35 (by decide)]
  exact g
theorem tillO.q {C D : zM} {t : Nat → Int} (h : tillO C D) (g : ICq t C) : ICq t D := by
  unfold ICq
  rw [h 1 (by decide), h 23 (by decide), h 29 (by decide), h 30 (by decide), h 2 (by decide), h 9 (by decide), h 10 (by decide), h 7 (by decide), h 8 (by decide)]
  exact g
/-- the state behind a change of the till alone -/
theorem zST.ti {B B' : Int} {t u : Nat → Int} {C D : zM} (h : zST B t C) (o : tillO C D) (g : VW u D ∧ tqA t u) (ht : ICt B' D) (he : ICe D) (hv : ICv D) : zST B' u D := h.mk g.1 g.2 (o.s h.2.1) (o.g h.2.2.1) ht (o.b h.2.2.2.2.1) (o.m h.2.2.2.2.2.1) he (o.q h.q) hv
theorem VW.h {t : Nat → Int} {C : zM} (h : VW t C) {u : Nat} (hu : u < 8) : C 19 u = t (159 + 21 * u) ∧ C 20 u = t (327 + u) ∧ C 21 u = t (335 + u) ∧ C 22 u = t (343 + u) := ⟨(h.2.2.1 u hu).2.2.2.2.2.1, (h.2.2.1 u hu).2.2.2.2.2.2.1, (h.2.2.1 u hu).2.2.2.2.2.2.2.1, (h.2.2.1 u hu).2.2.2.2.2.2.2.2⟩
theorem VW.sl {t : Nat → Int} {C : zM} (h : VW t C) {j : Nat} (hj : j < 12) : C 24 j = t (358 + 4 * j) ∧ C 25 j = t (357 + 4 * j) ∧ C 26 j = t (360 + 4 * j) ∧ C 27 j = t (359 + 4 * j) := h.2.2.2.2.2.2.1 j hj
theorem VW.co {t : Nat → Int} {C : zM} (h : VW t C) {u i : Nat} (hu : u < 8) (hi : i < 20) : C 18 (20 * u + i) = t (160 + 21 * u + i) := by
  have := (h.2.2.2.2.2.1 (20 * u + i) (by omega)).1
  rw [this]
  congr 1
  omega
/-- a coin laid on a tube -/
theorem us_lay9 {t0 u : Nat → Int} {D : zM} {a s : Nat} (h1 : t0 1 ≤ 8 ∧ t0 4 ≤ 5) (g : VW u D ∧ tqA t0 u) (ha : a < 8) (hs : s < 8) (hh : 0 ≤ D 19 a ∧ D 19 a ≤ 20) : VW (dropT u a s) (layOn D a s) ∧ tqA t0 (dropT u a s) := by
  have e := g.1.h ha
  have e2 := g.1.h hs
  unfold dropT layOn
  rw [Int.toNat_natCast, Int.toNat_natCast, ← e.1, ← e2.2.1]
  by_cases c : D 19 a = 20
  · rw [if_pos c, if_neg (by omega)]
    exact u2 h1 g (pl_20 hs rfl)
  · rw [if_neg c, if_pos (by omega)]
    obtain ⟨n, hn⟩ : ∃ n : Nat, D 19 a = n := ⟨(D 19 a).toNat, by omega⟩
    rw [hn, show ((a : Int) * 20 + (n : Int)).toNat = 20 * a + n by omega, show 159 + 21 * a + ((n : Int) + 1).toNat = 160 + 21 * a + n by omega, rUp_cm (by omega)]
    exact u2 h1 (u2 h1 g (pl_18 (by omega) (by omega))) (pl_19 ha rfl)
theorem layO {D : zM} {a s : Int} : tillO D (layOn D a s) := fun k hk => layOn_o (by omega)
theorem lay19 {D : zM} {a s : Int} {v : Nat} (h : v ≠ a.toNat) : layOn D a s 19 v = D 19 v := by
  unfold layOn
  split
  · rw [zup_j h, zup_o 19 (by decide)]
  · rw [zup_o 19 (by decide)]
theorem lay21 {D : zM} {a s : Int} : layOn D a s 21 = D 21 := layOn_o (by decide)
/-- one coin of a load -/
theorem st_load1 {B : Int} {t : Nat → Int} {C : zM} {a s : Nat} (h : zST B t C) (ha : (a : Int) < C 2 0) (hs : s < 8) : zST (B + 1) (rUp (dropT t a s) (335 + a) (t (335 + a) + 1)) (zup (layOn C a s) 21 a (C 21 a + 1)) := by
  have a8 : a < 8 := by have := h.2.1.1; omega
  have hI := h.2.2.2.1
  have z := hI.2.2.1 a a8
  have l := us_lay9 h.b ⟨h.1, tqA.rf t⟩ a8 hs ⟨z.1, z.2.1⟩
  have e := h.1.h a8
  rw [← e.2.2.1]
  have g := u2 (v := C 21 a + 1) h.b l (pl_21 a8 rfl)
  have lI := layOn_I (t := (a : Int)) (s := (s : Int)) hI (by omega) (by omega) (by omega) (by omega)
  refine h.ti (layO.tr (tillO.up (by decide))) g ?_ ?_ (fun i hi => by
    rw [zup_o 17 (by decide), layOn_o (by decide)] at hi
    rw [zup_o 25 (by decide), zup_o 2 (by decide), layOn_o (by decide), layOn_o (by decide)]
    exact h.v i hi)
  · obtain ⟨i1, i2, i3, i4, i5⟩ := lI
    refine ⟨i1, i2, fun k hk => ?_, i4, i5⟩
    have w := i3 k hk
    rw [lay21] at w
    rw [zup_o 19 (by decide), zup_o 20 (by decide), zup_o 22 (by decide)]
    by_cases c : k = a
    · rw [c, zup_e]; rw [c] at w; omega
    · rw [zup_j c, lay21]; exact w
  · intro k hk h9
    have h9' : C 2 0 ≤ k := by
      rw [zup_o 2 (by decide), layO 2 (by decide)] at h9
      exact h9
    rw [zup_o 19 (by decide), lay19 (by omega)]
    exact h.2.2.2.2.2.2.1 k hk h9'
theorem dropT_335 {t : Nat → Int} {a s : Nat} {y : Int} (ha : a < 8) (hs : s < 8) (hh : 0 ≤ t (159 + 21 * a) ∧ t (159 + 21 * a) ≤ 20) : dropT (rUp t (335 + a) y) a s = rUp (dropT t a s) (335 + a) y := by
  unfold dropT
  rw [rUp_o (show 159 + 21 * a ≠ 335 + a by omega), rUp_o (show 327 + s ≠ 335 + a by omega)]
  split
  · rw [rUp_cm (by omega)]
  · rw [rUp_cm (show 335 + a ≠ 159 + 21 * a by omega), rUp_cm (show 335 + a ≠ 159 + 21 * a + (t (159 + 21 * a) + 1).toNat by omega)]
/-- a load, or a tray poured: the sorts f -/
def ldF (t : Nat → Int) (a : Nat) (f : Nat → Nat) : Nat → Nat → Int
  | 0 => t
  | n + 1 => dropT (ldF t a f n) a (f n)
def lUF (C : zM) (a : Nat) (f : Nat → Nat) : Nat → zM
  | 0 => C
  | n + 1 => zup (layOn (lUF C a f n) a (f n)) 21 a (lUF C a f n 21 a + 1)
theorem st_loads {B : Int} {t : Nat → Int} {C : zM} {a : Nat} {f : Nat → Nat} (h : zST B t C) (ha : (a : Int) < C 2 0) (hf : ∀ i, f i < 8) : ∀ n : Nat, zST (B + n) (rUp (ldF t a f n) (335 + a) (t (335 + a) + n)) (lUF C a f n) ∧ lUF C a f n 2 = C 2 ∧ ldF t a f n (335 + a) = t (335 + a)
  | 0 => by
    have a8 : a < 8 := by have := h.2.1.1; omega
    refine ⟨?_, rfl, rfl⟩
    have e : rUp (ldF t a f 0) (335 + a) (t (335 + a) + (0 : Nat)) = t := by
      funext j
      unfold ldF rUp
      split
      · rename_i c; rw [c]; omega
      · rfl
    rw [e]
    exact h.w (by omega)
  | n + 1 => by
    have a8 : a < 8 := by have := h.2.1.1; omega
    obtain ⟨i1, i2, i3⟩ := st_loads h ha hf n
    have k := st_load1 i1 (a := a) (s := f n) (by rw [i2]; exact ha) (hf n)
    have hh := i1.2.2.2.1.2.2.1 a a8
    have ev := (i1.1.h a8).1
    rw [rUp_o (show 159 + 21 * a ≠ 335 + a by omega)] at ev
    rw [dropT_335 a8 (hf n) (by omega), rUp_w, rUp_e] at k
    refine ⟨?_, ?_, ?_⟩
    · have e : t (335 + a) + (n : Int) + 1 = t (335 + a) + ((n + 1 : Nat) : Int) := by omega
      rw [e] at k
      exact k.w (by omega)
    · show zup (layOn (lUF C a f n) a (f n)) 21 a _ 2 = C 2
      rw [zup_o 2 (by decide), layO 2 (by decide), i2]
    · show dropT (ldF t a f n) a (f n) (335 + a) = t (335 + a)
      have hfn := hf n
      unfold dropT
      split
      · rw [rUp_o (by omega)]; exact i3
      · rw [rUp_o (by omega), rUp_o (by omega)]; exact i3
end
