section
theorem st_sb {B : Int} {t : Nat → Int} {C : zM} (h : zST B t C) : ∀ n : Nat, n ≤ 12 → (VW (sbT t n) (sbU C n) ∧ tqA t (sbT t n)) ∧ 0 ≤ sbU C n 17 11 ∧ sbU C n 17 11 ≤ n
  | 0, _ => ⟨h.u1 (pl_17b rfl rfl), by show 0 ≤ zup C 17 11 0 17 11 ∧ zup C 17 11 0 17 11 ≤ _; rw [zup_e]; omega⟩
  | n + 1, hn => by
    obtain ⟨i1, i2⟩ := st_sb h n (by omega)
    have li := h.2.2.2.1.2.2.2.2 n (by omega)
    have e := h.1.sl (j := n) (by omega)
    obtain ⟨a, ha⟩ : ∃ a : Nat, C 25 n = a := ⟨(C 25 n).toNat, by omega⟩
    have a8 : a < 8 := by omega
    have ew := (i1.1.h a8).2.2.2
    have e6 : sbU C n 17 11 = sbT t n 6 := i1.1.1.2.2.2.2.2.2
    obtain ⟨k, hk⟩ : ∃ k : Nat, sbU C n 17 11 = k := ⟨(sbU C n 17 11).toNat, by omega⟩
    unfold sbT sbU
    rw [← e.1, ← e.2.1, ← e.2.2.1, ha, Int.toNat_natCast, ← ew, ← e6, hk, Int.toNat_natCast]
    by_cases c : C 24 n = -1
    · rw [if_pos c, if_pos c]
      exact ⟨u2 h.b i1 (pl_22 a8 rfl), by rw [zup_o 17 (by decide)]; omega⟩
    · rw [if_neg c, if_neg c]
      unfold giveOut
      have e17 : zup (sbU C n) 22 a (sbU C n 22 a - C 26 n) 17 11 = k := by rw [zup_o 17 (by decide)]; exact hk
      rw [e17, if_pos (by omega), Int.toNat_natCast, rUp_cm (show 6 ≠ 343 + a by omega), rUp_cm (show 405 + k ≠ 343 + a by omega)]
      exact ⟨u2 h.b (u2 h.b (u2 h.b i1 (pl_22 a8 rfl)) (pl_28 (by omega) rfl)) (pl_17b rfl rfl), by rw [zup_e]; omega⟩
theorem st_refund {B : Int} {t : Nat → Int} {C : zM} (h : zST B t C) : zST (B + 24) (rUp (sbT t (t 3).toNat) 3 0) (zup (sbU C (C 17 6).toNat) 17 6 0) ∧ zup (sbU C (C 17 6).toNat) 17 6 0 17 11 = sbT t (t 3).toNat 6 := by
  have hI := h.2.2.2.1
  have e3 : C 17 6 = t 3 := h.1.1.2.2.2.2.2.1
  obtain ⟨n, hn⟩ : ∃ n : Nat, C 17 6 = n := ⟨(C 17 6).toNat, by have := hI.1; omega⟩
  have n12 : n ≤ 12 := by have := hI.1; omega
  rw [← e3, hn, Int.toNat_natCast]
  have s := st_sb h n n12
  have g := u2 (v := 0) h.b s.1 (pl_17a rfl rfl)
  have o : tillO C (zup (sbU C n) 17 6 0) := fun k hk => by rw [zup_o k (by omega), sbU_o (by omega)]
  have w := sbU_w hI n n12
  refine ⟨h.ti o g ?_ ?_ (fun i hi => ?_), ?_⟩
  · obtain ⟨i1, i2, i3, i4, i5⟩ := hI
    refine ⟨by rw [zup_e]; decide, by rw [zup_j (by decide)]; omega, fun k hk => ?_, ?_, ?_⟩
    · have a := i3 k hk
      have b := w k hk
      rw [zup_o 19 (by decide), zup_o 20 (by decide), zup_o 21 (by decide), zup_o 22 (by decide), sbU_o (k := 19) (by decide), sbU_o (k := 20) (by decide), sbU_o (k := 21) (by decide)]
      omega
    · rw [zup_o 18 (by decide), sbU_o (by decide)]; exact i4
    · rw [zup_o 24 (by decide), zup_o 25 (by decide), zup_o 26 (by decide), zup_o 27 (by decide), sbU_o (k := 24) (by decide), sbU_o (k := 25) (by decide), sbU_o (k := 26) (by decide), sbU_o (k := 27) (by decide)]; exact i5
  · intro k hk h9
    rw [zup_o 2 (by decide), sbU_o (by decide)] at h9
    rw [zup_o 19 (by decide), sbU_o (by decide)]
    exact h.2.2.2.2.2.2.1 k hk h9
  · rw [zup_e] at hi
    exact absurd hi (by omega)
  · rw [zup_j (by decide)]
    exact s.1.1.1.2.2.2.2.2.2
theorem st_ba {B : Int} {t : Nat → Int} {C : zM} {u : Nat} (h : zST B t C) (hu : u < 8) : ∀ n : Nat, n ≤ 20 → VW (bagT t u n) (bagU C u n) ∧ tqA t (bagT t u n)
  | 0, _ => ⟨h.1, tqA.rf t⟩
  | n + 1, hn => by
    have i1 := st_ba h hu n (by omega)
    have ec := h.1.co (u := u) (i := n) hu (by omega)
    have cr := h.2.2.2.1.2.2.2.1 (20 * u + n) (by omega)
    unfold bagT bagU
    rw [← ec, show ((u : Int) * 20 + (n : Int)).toNat = 20 * u + n by omega]
    obtain ⟨c, hc⟩ : ∃ c : Nat, C 18 (20 * u + n) = c := ⟨(C 18 (20 * u + n)).toNat, by omega⟩
    have c8 : c < 8 := by omega
    rw [hc, Int.toNat_natCast, ← (i1.1.h c8).2.1]
    exact u2 h.b i1 (pl_20 c8 rfl)
theorem st_empty {B : Int} {t : Nat → Int} {C : zM} {u : Nat} (h : zST B t C) (hu : u < 8) : zST (B + 24) (rUp (bagT t u (t (159 + 21 * u)).toNat) (159 + 21 * u) 0) (zup (bagU C u (C 19 u).toNat) 19 u 0) := by
  have hI := h.2.2.2.1
  have z := hI.2.2.1 u hu
  rw [← (h.1.h hu).1]
  obtain ⟨n, hn⟩ : ∃ n : Nat, C 19 u = n := ⟨(C 19 u).toNat, by omega⟩
  rw [hn, Int.toNat_natCast]
  have g := u2 (v := 0) h.b (st_ba h hu n (by omega)) (pl_19 hu rfl)
  have o : tillO C (zup (bagU C u n) 19 u 0) := fun k hk => by rw [zup_o k (by omega), bagU_o (by omega)]
  have w := bagU_r hI (t := (u : Int)) n
  refine h.ti o g ?_ ?_ (fun i hi => ?_)
  · obtain ⟨i1, i2, i3, i4, i5⟩ := hI
    refine ⟨?_, ?_, fun k hk => ?_, ?_, ?_⟩
    · rw [zup_o 17 (by decide), bagU_o (by decide)]; exact i1
    · rw [zup_o 17 (by decide), bagU_o (by decide)]; exact i2
    · have a := i3 k hk
      have b := w k hk
      rw [zup_o 20 (by decide), zup_o 21 (by decide), zup_o 22 (by decide), bagU_o (k := 21) (by decide), bagU_o (k := 22) (by decide)]
      by_cases c : k = u
      · rw [c, zup_e]; rw [c] at a b; omega
      · rw [zup_j c, bagU_o (by decide)]; omega
    · rw [zup_o 18 (by decide), bagU_o (by decide)]; exact i4
    · rw [zup_o 24 (by decide), zup_o 25 (by decide), zup_o 26 (by decide), zup_o 27 (by decide), bagU_o (k := 24) (by decide), bagU_o (k := 25) (by decide), bagU_o (k := 26) (by decide), bagU_o (k := 27) (by decide)]; exact i5
  · intro k hk h9
    rw [zup_o 2 (by decide), bagU_o (by decide)] at h9
    by_cases c : k = u
    · rw [c, zup_e]
    · rw [zup_j c, bagU_o (by decide)]
      exact h.2.2.2.2.2.2.1 k hk h9
  · rw [zup_o 17 (by decide), bagU_o (by decide)] at hi
    rw [zup_o 25 (by decide), zup_o 2 (by decide), bagU_o (k := 25) (by decide), bagU_o (k := 2) (by decide)]
    exact h.v i hi
theorem st_put {B : Int} {t : Nat → Int} {C : zM} {n s : Nat} {c r w : Int} (h : zST B t C) (hn : C 17 6 = n) (n12 : n < 12) (hs : (s : Int) < C 2 0) (hc : -1 ≤ c ∧ c < 8) (hr : 0 ≤ r ∧ r ≤ 2) (hw : 0 ≤ w ∧ w ≤ 400) : zST (B + 24) (putR t n s c r w) (slideIn C c s r w) := by
  have hI := h.2.2.2.1
  have s8 : s < 8 := by have := h.2.1.1; omega
  unfold putR slideIn
  rw [hn, Int.toNat_natCast, Int.toNat_natCast, ← (h.1.h s8).2.2.2, rUp_cm (show 343 + s ≠ 3 by omega), rUp_cm (show 359 + 4 * n ≠ 360 + 4 * n by omega), rUp_cm (show 357 + 4 * n ≠ 358 + 4 * n by omega)]
  have g := u2 (v := C 22 s + r) h.b (u2 (v := (n : Int) + 1) h.b (u2 (v := w) h.b (u2 (v := r) h.b (u2 (v := (s : Int)) h.b (h.u1 (v := c) (pl_24 n12 rfl)) (pl_25 n12 rfl)) (pl_26 n12 rfl)) (pl_27 n12 rfl)) (pl_17a rfl rfl)) (pl_22 s8 rfl)
  refine h.ti (fun k hk => by rw [zup_o k (by omega), zup_o k (by omega), zup_o k (by omega), zup_o k (by omega), zup_o k (by omega), zup_o k (by omega)]) g ?_ h.2.2.2.2.2.2.1 (fun i hi => ?_)
  · obtain ⟨i1, i2, i3, i4, i5⟩ := hI
    refine ⟨?_, i2, fun k hk => ?_, i4, fun i hi => ?_⟩
    · rw [zup_o 17 (by decide), zup_e]; omega
    · have a := i3 k hk
      show 0 ≤ C 19 k ∧ C 19 k ≤ 20 ∧ 0 ≤ C 20 k ∧ C 20 k ≤ B + 24 ∧ 0 ≤ C 21 k ∧ C 21 k ≤ B + 24 ∧ -(B + 24) ≤ zup _ 22 s (C 22 s + r) 22 k ∧ zup _ 22 s (C 22 s + r) 22 k ≤ B + 24
      by_cases e : k = s
      · rw [e, zup_e, ← e]; omega
      · rw [zup_j e]
        show 0 ≤ C 19 k ∧ C 19 k ≤ 20 ∧ 0 ≤ C 20 k ∧ C 20 k ≤ B + 24 ∧ 0 ≤ C 21 k ∧ C 21 k ≤ B + 24 ∧ -(B + 24) ≤ C 22 k ∧ C 22 k ≤ B + 24
        omega
    · have a := i5 i hi
      rw [zup_o 24 (by decide), zup_o 24 (by decide), zup_o 24 (by decide), zup_o 24 (by decide), zup_o 24 (by decide), zup_o 25 (by decide), zup_o 25 (by decide), zup_o 25 (by decide), zup_o 25 (by decide), zup_o 26 (by decide), zup_o 26 (by decide), zup_o 26 (by decide), zup_o 27 (by decide), zup_o 27 (by decide)]
      by_cases e : i = n
      · rw [e, zup_e, zup_e, zup_e, zup_e]; omega
      · rw [zup_j e, zup_j e, zup_j e, zup_j e, zup_o 25 (by decide), zup_o 26 (by decide), zup_o 26 (by decide), zup_o 27 (by decide), zup_o 27 (by decide), zup_o 27 (by decide)]
        exact a
  · rw [zup_o 17 (by decide), zup_e] at hi
    show zup (zup (zup (zup (zup (zup C 24 n c) 25 n s) 26 n r) 27 n w) 17 6 ((n : Int) + 1)) 22 s (C 22 s + r) 25 i < C 2 0
    rw [zup_o 25 (by decide), zup_o 25 (by decide), zup_o 25 (by decide), zup_o 25 (by decide)]
    by_cases e : i = n
    · rw [e, zup_e]; exact hs
    · rw [zup_j e, zup_o 25 (by decide)]
      exact h.v i (by omega)
end
