section
/-- a row of the slide goes to the tubes -/
theorem st_s2t {B : Int} {t : Nat → Int} {C : zM} (h : zST B t C) : ∀ n : Nat, n ≤ 12 → (VW (slT t n) (s2t C n) ∧ tqA t (slT t n)) ∧ tillO C (s2t C n)
  | 0, _ => ⟨⟨h.1, tqA.rf t⟩, tillO.rf C⟩
  | n + 1, hn => by
    obtain ⟨i1, i2⟩ := st_s2t h n (by omega)
    have hI := h.2.2.2.1
    have li := hI.2.2.2.2 n (by omega)
    have e := h.1.sl (j := n) (by omega)
    have nI := s2t_I hI n (by omega)
    unfold slT s2t
    rw [← e.1, ← e.2.1]
    by_cases c : C 24 n = -1
    · rw [if_pos c, if_pos c]; exact ⟨i1, i2⟩
    · rw [if_neg c, if_neg c]
      obtain ⟨a, ha⟩ : ∃ a : Nat, C 25 n = a := ⟨(C 25 n).toNat, by omega⟩
      obtain ⟨s, hs⟩ : ∃ s : Nat, C 24 n = s := ⟨(C 24 n).toNat, by omega⟩
      have z := nI.2.2.1 a (by omega)
      rw [ha, hs, Int.toNat_natCast, Int.toNat_natCast]
      exact ⟨us_lay9 h.b i1 (by omega) (by omega) ⟨z.1, z.2.1⟩, i2.tr layO⟩
/-- coins given out of one tube -/
theorem st_gv {t0 u : Nat → Int} {D : zM} {a : Nat} (h1 : t0 1 ≤ 8 ∧ t0 4 ≤ 5) (ha : a < 8) (g : VW u D ∧ tqA t0 u) (h0 : 0 ≤ D 17 11) : ∀ n : Nat, (n : Int) ≤ D 19 a → D 19 a ≤ 20 → D 17 11 + n ≤ 160 → (VW (gvT u a n) (gvF D a n) ∧ tqA t0 (gvT u a n)) ∧ gvF D a n 17 11 = D 17 11 + n
  | 0, _, _, _ => ⟨g, by show D 17 11 = _; omega⟩
  | n + 1, hn, h20, hg => by
    obtain ⟨i1, i2⟩ := st_gv h1 ha g h0 n (by omega) h20 (by omega)
    have eh := gvF_h (M := D) (t := (a : Int)) n
    rw [Int.toNat_natCast] at eh
    have e := i1.1.h ha
    have e6 : gvF D a n 17 11 = gvT u a n 6 := i1.1.1.2.2.2.2.2.2
    obtain ⟨k, hk⟩ : ∃ k : Nat, gvF D a n 17 11 = k := ⟨(gvF D a n 17 11).toNat, by omega⟩
    obtain ⟨q, hq⟩ : ∃ q : Nat, gvF D a n 19 a = q + 1 := ⟨(gvF D a n 19 a - 1).toNat, by omega⟩
    have ec := i1.1.co (u := a) (i := q) ha (by omega)
    have et : topOf (gvF D a n) a = gvF D a n 18 (20 * a + q) := by
      unfold topOf
      rw [Int.toNat_natCast, if_neg (by omega), hq]
      congr 1
      omega
    unfold gvT gvF
    rw [Int.toNat_natCast, et]
    unfold giveOut
    rw [if_pos (by omega), ← e.1, ← e.2.2.2, ← e6, hk, hq, Int.toNat_natCast, show 159 + 21 * a + ((q : Int) + 1).toNat = 160 + 21 * a + q by omega, ← ec]
    refine ⟨u2 h1 (u2 h1 (u2 h1 (u2 h1 i1 (pl_28 (by omega) rfl)) (pl_17b rfl rfl)) (pl_19 ha rfl)) (pl_22 ha rfl), ?_⟩
    rw [zup_o 17 (by decide), zup_o 17 (by decide), zup_e]
    omega
theorem st_ga {t0 u : Nat → Int} {D : zM} {x : Nat → Nat} (h1 : t0 1 ≤ 8 ∧ t0 4 ≤ 5) (g : VW u D ∧ tqA t0 u) (h0 : D 17 11 = 0) (hx : ∀ i, i < 8 → (x i : Int) ≤ D 19 i ∧ D 19 i ≤ 20) : ∀ n : Nat, n ≤ 8 → (VW (gaT u x n) (gvA D x n) ∧ tqA t0 (gaT u x n)) ∧ 0 ≤ gvA D x n 17 11 ∧ gvA D x n 17 11 ≤ 20 * n
  | 0, _ => ⟨g, by show 0 ≤ D 17 11 ∧ D 17 11 ≤ _; omega⟩
  | n + 1, hn => by
    obtain ⟨i1, i2⟩ := st_ga h1 g h0 hx n (by omega)
    have hxn := hx n (by omega)
    have eh := gvA_h (M := D) (x := x) (k := n) n (by omega)
    have k := st_gv h1 (a := n) (by omega) i1 i2.1 (x n) (by rw [eh]; exact hxn.1) (by rw [eh]; exact hxn.2) (by omega)
    unfold gaT gvA
    refine ⟨k.1, ?_⟩
    rw [k.2]
    omega
theorem gvA_z {D : zM} {x : Nat → Nat} {k : Nat} : ∀ n, k ≤ n → (∀ i, k ≤ i → i < n → x i = 0) → gvA D x n = gvA D x k
  | 0, h, _ => by rw [show k = 0 by omega]
  | n + 1, h, hz => by
    by_cases c : k = n + 1
    · rw [c]
    · rw [← gvA_z n (by omega) (fun i a b => hz i a (by omega))]
      show gvF (gvA D x n) n (x n) = _
      rw [hz n (by omega) (by omega)]
      rfl
theorem gvA_d {D : zM} {x : Nat → Nat} {k : Nat} (hk : k < 8) : ∀ n, n ≤ 8 → gvA D x n 19 k = D 19 k - (if k < n then x k else 0 : Nat) ∧ gvA D x n 22 k = D 22 k - (if k < n then x k else 0 : Nat)
  | 0, _ => by
    rw [if_neg (by omega)]
    exact ⟨by show D 19 k = _; omega, by show D 22 k = _; omega⟩
  | n + 1, hn => by
    obtain ⟨i1, i2⟩ := gvA_d (D := D) (x := x) hk n (by omega)
    show gvF (gvA D x n) n (x n) 19 k = _ ∧ gvF (gvA D x n) n (x n) 22 k = _
    by_cases c : k = n
    · have a := gvF_h (M := gvA D x n) (t := (n : Int)) (x n)
      have b := gvF_w (M := gvA D x n) (t := (n : Int)) (x n)
      rw [Int.toNat_natCast] at a b
      rw [if_neg (by omega)] at i1 i2
      rw [if_pos (by omega)]
      subst c
      rw [a, b, i1, i2]
      omega
    · have a := gvF_hs (M := gvA D x n) (t := (n : Int)) (s := k) (by rw [Int.toNat_natCast]; exact c) (x n)
      rw [a.1, a.2, i1, i2]
      by_cases d : k < n
      · rw [if_pos d, if_pos (by omega)]; exact ⟨rfl, rfl⟩
      · rw [if_neg d, if_neg (by omega)]; exact ⟨rfl, rfl⟩
theorem sl_bag {B : Int} {C : zM} (hI : ICt B C) : ∀ n : Nat, n ≤ 12 → ∀ k, k < 8 → 0 ≤ s2t C n 20 k ∧ s2t C n 20 k ≤ C 20 k + n
  | 0, _, k, hk => by
    have := hI.2.2.1 k hk
    exact ⟨by show 0 ≤ C 20 k; omega, by show C 20 k ≤ _; omega⟩
  | n + 1, hn, k, hk => by
    have i := sl_bag hI n (by omega) k hk
    unfold s2t
    split
    · omega
    · unfold layOn
      split
      · rw [zup_o 20 (by decide), zup_o 20 (by decide)]; omega
      · by_cases c : k = (C 24 n).toNat
        · rw [← c, zup_e]; omega
        · rw [zup_j c]; omega
theorem sl_e {C : zM} {k : Nat} : ∀ n : Nat, (∀ i, i < n → (C 25 i).toNat ≠ k) → s2t C n 19 k = C 19 k
  | 0, _ => rfl
  | n + 1, h => by
    have i := sl_e n (fun i hi => h i (by omega))
    unfold s2t
    split
    · exact i
    · rw [lay19 (fun z => h n (by omega) z.symm)]; exact i
theorem st_sale {B : Int} {t : Nat → Int} {C : zM} {x : Nat → Nat} (h : zST B t C) (hx : ∀ i, i < 8 → (x i : Int) ≤ C 19 i) (hz : ∀ i : Nat, i < 8 → C 2 0 ≤ i → x i = 0) : zST (B + 24) (saleT t x) (saleM C x) ∧ saleM C x 17 11 = gaT (rUp t 6 0) x 8 6 := by
  have hI := h.2.2.2.1
  have hm := h.2.1.1
  obtain ⟨m, em⟩ : ∃ m : Nat, C 2 0 = m := ⟨(C 2 0).toNat, by omega⟩
  have b0 := h.u1 (v := 0) (pl_17b rfl rfl)
  have ga := st_ga h.b b0 (by rw [zup_e]) (x := x) (fun i hi => ⟨by rw [zup_o 19 (by decide)]; exact hx i hi, by rw [zup_o 19 (by decide)]; exact (hI.2.2.1 i hi).2.1⟩) 8 (by omega)
  have ez : gvA (zup C 17 11 0) x 8 = gvA (zup C 17 11 0) x m := gvA_z 8 (by omega) (fun i a b => hz i b (by omega))
  have oD : tillO C (gvA (zup C 17 11 0) x 8) := (tillO.up (by decide)).tr (fun k hk => gvA_o (by omega) 8)
  have hD := fun {k : Nat} (hk : k < 8) => gvA_d (D := zup C 17 11 0) (x := x) hk
  have iD : ICt (B + 20) (gvA (zup C 17 11 0) x 8) := by
    obtain ⟨i1, i2, i3, i4, i5⟩ := hI
    refine ⟨?_, by omega, fun k hk => ?_, ?_, ?_⟩
    · rw [gvA_6, zup_j (by decide)]; exact i1
    · have a := hD hk 8 (by omega)
      rw [if_pos hk, zup_o 19 (by decide), zup_o 22 (by decide)] at a
      have b := i3 k hk
      have c := hx k hk
      rw [a.1, a.2, gvA_o (by decide), gvA_o (by decide), zup_o 20 (by decide), zup_o 21 (by decide)]
      omega
    · rw [gvA_o (by decide), zup_o 18 (by decide)]; exact i4
    · rw [gvA_o (by decide), gvA_o (by decide), gvA_o (by decide), gvA_o (by decide), zup_o 24 (by decide), zup_o 25 (by decide), zup_o 26 (by decide), zup_o 27 (by decide)]; exact i5
  have eD : ICe (gvA (zup C 17 11 0) x 8) := fun k hk h9 => by
    rw [oD 2 (by decide)] at h9
    have a := hD hk 8 (by omega)
    rw [if_pos hk, zup_o 19 (by decide), hz k hk h9, h.2.2.2.2.2.2.1 k hk h9] at a
    rw [a.1]
    omega
  have vD : ICv (gvA (zup C 17 11 0) x 8) := fun i hi => by
    rw [gvA_6, zup_j (by decide)] at hi
    rw [gvA_o (by decide), oD 2 (by decide), zup_o 25 (by decide)]
    exact h.v i hi
  have sD := h.ti oD ga.1 iD eD vD
  have e3 : C 17 6 = t 3 := h.1.1.2.2.2.2.2.1
  obtain ⟨n, hn⟩ : ∃ n : Nat, C 17 6 = n := ⟨(C 17 6).toNat, by have := hI.1; omega⟩
  have n12 : n ≤ 12 := by have := hI.1; omega
  have s2 := st_s2t sD n n12
  have tq := ga.1.2.tr s2.1.2
  have fin9 := u2 (v := 0) h.b ⟨s2.1.1, tq⟩ (pl_17a rfl rfl)
  have nI := s2t_I iD n n12
  unfold saleM saleT
  rw [← e3, hn, em, Int.toNat_natCast, Int.toNat_natCast, ← ez]
  refine ⟨?_, ?_⟩
  · refine h.ti ((oD.tr s2.2).tr (tillO.up (by decide))) fin9 ?_ ?_ (fun i hi => by
      rw [zup_e] at hi
      exact absurd hi (by omega))
    · obtain ⟨i1, i2, i3, i4, i5⟩ := nI
      refine ⟨by rw [zup_e]; decide, by rw [zup_j (by decide)]; exact i2, fun k hk => ?_, i4, i5⟩
      have b := i3 k hk
      have w := iD.2.2.1 k hk
      rw [zup_o 19 (by decide), zup_o 20 (by decide), zup_o 21 (by decide), zup_o 22 (by decide)]
      have e21 : s2t (gvA (zup C 17 11 0) x 8) n 21 = gvA (zup C 17 11 0) x 8 21 := s2t_o (by decide) n
      have e22 : s2t (gvA (zup C 17 11 0) x 8) n 22 = gvA (zup C 17 11 0) x 8 22 := s2t_o (by decide) n
      have bg := hI.2.2.1 k hk
      have q20 : gvA (zup C 17 11 0) x 8 20 = C 20 := by rw [gvA_o (by decide), zup_o 20 (by decide)]
      have nb := sl_bag (C := gvA (zup C 17 11 0) x 8) iD n n12 k hk
      rw [q20] at nb
      rw [e21, e22] at b ⊢
      omega
    · intro k hk h9
      have h9' : C 2 0 ≤ k := by
        rw [zup_o 2 (by decide), s2.2 2 (by decide), oD 2 (by decide)] at h9
        exact h9
      rw [zup_o 19 (by decide)]
      rw [sl_e n (fun i hi => by
        have v := vD i (by rw [gvA_6, zup_j (by decide)]; omega)
        have w := iD.2.2.2.2 i (by omega)
        rw [oD 2 (by decide)] at v
        omega)]
      exact eD k hk (by rw [oD 2 (by decide)]; exact h9')
  · rw [zup_j (by decide), s2t_o (by decide)]
    exact ga.1.1.1.2.2.2.2.2.2
end
