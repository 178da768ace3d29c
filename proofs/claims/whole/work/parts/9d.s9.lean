section
theorem step_pour {B : Int} {M : zM} {t u : Int} (g : RR B M) (hB : B ≤ 12300) : sp_X11_pour [zR 0, zI t, zI u] M (hp cdP (fun k N => sp_X12_pour [zR 180, zI t, zI u] N (fin B k))) := by
  have z := g.1
  have e := g.e0
  have m8 := z.2.1.1
  have hx := g.2.2.2.1
  have hy := g.hx
  have H := g.ht hB
  have H3 : ∀ i : Nat, i < 8 → (0 ≤ M 181 (159 + 21 * i) ∧ M 181 (159 + 21 * i) ≤ 20) ∧ (0 ≤ M 181 (327 + i) ∧ M 181 (327 + i) ≤ 1000000) ∧ (0 ≤ M 181 (335 + i) ∧ M 181 (335 + i) ≤ 1000000) := fun i hi => ⟨(H i hi).1, (H i hi).2.1, (H i hi).2.2.1⟩
  have eqh : (0 ≤ t ∧ t ≤ 3) → (holds (M (173 + 2 * t.toNat)) (M 2 0) (M (172 + 2 * t.toNat) 1).toNat ↔ holds (fun i => M 200 (20 * t.toNat + i)) (M 181 0) (M 199 t.toNat).toNat) := fun h1 => by
    have a := g.2.2.1 t.toNat (by omega)
    have b := hx.2.2 t.toNat (by omega)
    unfold holds
    rw [e, a.2.1]
    constructor
    · intro h i hi
      have := h i hi
      rw [a.2.2 i (by omega)] at this
      exact this
    · intro h i hi
      rw [a.2.2 i (by omega)]
      exact h i hi
  refine us_X11_pour hx m8 z.2.2.2.1 (by omega) (fun h1 h2 h3 h4 h5 => ?_) (fun h1 h2 h3 h4 h5 => ?_) (fun h1 => ⟨1, rfl, ?_⟩) (fun h1 h2 h3 => ⟨2, rfl, ?_⟩) (fun h1 h2 h3 h4 => ⟨3, rfl, ?_⟩)
  · obtain ⟨a, rfl⟩ : ∃ a : Nat, u = a := ⟨u.toNat, by omega⟩
    obtain ⟨n, rfl⟩ : ∃ n : Nat, t = n := ⟨t.toNat, by omega⟩
    have h4' := (eqh h1).mp h4
    simp only [Int.toNat_natCast] at h3 h4 h4' h5
    rw [Int.toNat_natCast, Int.toNat_natCast]
    have a3 := g.2.2.1 n (by omega)
    have b3 := hx.2.2 n (by omega)
    have eh := (z.1.h (u := a) (by omega)).1
    have hn : ((M (172 + 2 * n) 1).toNat : Int) = M (172 + 2 * n) 1 := Int.toNat_of_nonneg b3.1
    have hf : ∀ i, (if i < (M (172 + 2 * n) 1).toNat then (M (173 + 2 * n) i).toNat else 0) < 8 := fun i => by
      split
      · rename_i c; have := h4 i c; omega
      · omega
    rw [ptU_F (a := a) (m := 173 + 2 * n) (N := (M (172 + 2 * n) 1).toNat) (fun i hi => (h4 i hi).1) _ (Nat.le_refl _)]
    have sl := st_loads z (a := a) (f := fun i => if i < (M (172 + 2 * n) 1).toNat then (M (173 + 2 * n) i).toNat else 0) (by omega) hf (M (172 + 2 * n) 1).toNat
    have eF := lUF_h (C := M) (a := a) (f := fun i => if i < (M (172 + 2 * n) 1).toNat then (M (173 + 2 * n) i).toNat else 0) (M (172 + 2 * n) 1).toNat (by omega)
    have oF : ∀ k, k < 18 ∨ 21 < k → lUF M a (fun i => if i < (M (172 + 2 * n) 1).toNat then (M (173 + 2 * n) i).toNat else 0) (M (172 + 2 * n) 1).toNat k = M k := fun k hk => lUF_o hk _
    have eT := ptT_F (t := M 181) (a := a) (N := (M (172 + 2 * n) 1).toNat) (f := fun i => M 200 (20 * n + i)) (c := M (173 + 2 * n)) (fun i hi => (a3.2.2 i (by omega)).symm) (M (172 + 2 * n) 1).toNat (Nat.le_refl _)
    rw [eF]
    generalize lUF M a (fun i => if i < (M (172 + 2 * n) 1).toNat then (M (173 + 2 * n) i).toNat else 0) (M (172 + 2 * n) 1).toNat = D at *
    have t1 : ∀ v k, k < 18 ∨ 21 < k → k ≠ 201 → zup D 201 0 v k = M k := fun v k hk ho => by rw [zup_o k ho, oF k hk]
    generalize hv : M 19 a + ((M (172 + 2 * n) 1).toNat : Int) = v at *
    refine us_X12_pour (by rw [t1 v 181 (by decide) (by decide)]; omega) (by rw [t1 v 198 (by decide) (by decide), t1 v 199 (by decide) (by decide)]; exact hy) (by rw [t1 v 181 (by decide) (by decide)]; exact H3) (fun _ _ _ _ _ => ?_) (fun _ _ _ _ y => ?_) (fun y => ?_) (fun _ _ y => ?_) (fun _ _ _ y => ?_)
    all_goals rw [t1 v 181 (by decide) (by decide)] at *
    · rw [t1 v 200 (by decide) (by decide), t1 v 199 (by decide) (by decide), Int.toNat_natCast, Int.toNat_natCast, ← a3.2.1, eT]
      have s1 := sl.1
      rw [hn] at s1
      exact fin_w g (D := D) (fun k hk => oF k (by omega)) rfl (s1.w (by omega)) (by omega)
    · rw [t1 v 199 (by decide) (by decide), Int.toNat_natCast, Int.toNat_natCast] at y
      exact absurd (by omega) y
    · exact absurd (by omega) y
    · rw [t1 v 198 (by decide) (by decide), Int.toNat_natCast] at y
      exact absurd (by omega) h3
    · rw [t1 v 200 (by decide) (by decide), t1 v 199 (by decide) (by decide)] at y
      exact absurd h4' y
  · have q := bq.s M (-1)
    have a3 := g.2.2.1 t.toNat (by omega)
    have eh := (z.1.h (u := u.toNat) (by omega)).1
    have h4' := (eqh h1).mp h4
    have t1 : ∀ k, k ≠ 201 → zup M 201 0 (-1) k = M k := fun k ho => zup_o k ho
    refine us_X12_pour (by rw [t1 181 (by decide)]; omega) (by rw [t1 198 (by decide), t1 199 (by decide)]; exact hy) (by rw [t1 181 (by decide)]; exact H3) (fun _ _ _ _ y => ?_) (fun _ _ _ _ y => fz g q zup_e) (fun y => ?_) (fun _ _ y => ?_) (fun _ _ _ y => ?_)
    · rw [t1 181 (by decide), t1 199 (by decide)] at y
      exact absurd y (by omega)
    · rw [t1 181 (by decide)] at y
      exact absurd (by omega) y
    · rw [t1 198 (by decide)] at y
      exact absurd (by omega) h3
    · rw [t1 200 (by decide), t1 199 (by decide), t1 181 (by decide)] at y
      exact absurd h4' y
  · exact us_X12_pour (by omega) hy H3 (fun y1 y2 => absurd ⟨y1, by omega⟩ h1) (fun y1 y2 => absurd ⟨y1, by omega⟩ h1) (fun _ => fin_t g.tz (by decide) (fun n h => by cases h)) (fun y1 y2 => absurd ⟨y1, by omega⟩ h1) (fun y1 y2 => absurd ⟨y1, by omega⟩ h1)
  · have a3 := g.2.2.1 t.toNat (by omega)
    exact us_X12_pour (by omega) hy H3 (fun _ _ y => absurd (by omega) y) (fun _ _ y => absurd (by omega) y) (fun y => absurd ⟨h1, by omega⟩ y) (fun _ _ _ => fin_t g.tz (by decide) (fun n h => by cases h)) (fun _ _ y => absurd (by omega) y)
  · have a3 := g.2.2.1 t.toNat (by omega)
    exact us_X12_pour (by omega) hy H3 (fun _ _ _ y => absurd ((eqh h1).mpr y) h4) (fun _ _ _ y => absurd ((eqh h1).mpr y) h4) (fun y => absurd ⟨h1, by omega⟩ y) (fun _ _ y => absurd (by omega) h3) (fun _ _ _ _ => fin_t g.tz (by decide) (fun n h => by cases h))
theorem csA_r : ∀ i j, csA i j = true → i < 35 := by
  intro i j h
  simp only [csA, csS, csG, csT, Bool.or_eq_true, Bool.and_eq_true, beq_iff_eq, Bool.false_eq_true, false_or, decide_eq_true_eq] at h
  omega
theorem cpS_o {M : zM} {a b k : Nat} (h : k < a ∨ a + 35 ≤ k) : cpS M a b csA k = M k := by
  funext j
  unfold cpS
  rw [if_neg (fun q => by have := csA_r _ _ q.2; omega)]
theorem cpS_e {M : zM} {a b k j : Nat} (h : csA k j = true) : cpS M a b csA (a + k) j = M (b + k) j := by
  unfold cpS
  rw [if_pos ⟨by omega, by rw [show a + k - a = k by omega]; exact h⟩, show a + k - a = k by omega]
theorem cpI_e {f h : Nat → Int} {a n j : Nat} (hj : j < n) : cpI f h a n (a + j) = h j := by
  unfold cpI
  rw [if_pos (by omega), show a + j - a = j by omega]
theorem cpI_o {f h : Nat → Int} {a n j : Nat} (hj : j < a ∨ a + n ≤ j) : cpI f h a n j = f j := by
  unfold cpI
  rw [if_neg (by omega)]
theorem step_image {B : Int} {M : zM} {i : Int} (g : RR B M) : sp_X11_image [zR 0, zI i] M (hp cdN (fun k N => sp_X12_image [zR 180, zI i] N (fin B k))) := by
  have hx := g.2.2.2.1
  refine us_X11_image hx (fun h1 => ?_) (fun h1 => ⟨1, rfl, ?_⟩)
  · obtain ⟨n, rfl⟩ : ∃ n : Nat, i = n := ⟨i.toNat, by omega⟩
    rw [Int.toNat_natCast]
    refine us_X12_image (fun _ => ?_) (fun y => absurd h1 y)
    rw [Int.toNat_natCast]
    have c1 : ∀ k, (k < 67 + 35 * n ∨ 102 + 35 * n ≤ k) → k ≠ 37 → zup (cpS M (67 + 35 * n) 1 csA) 37 n 1 k = M k := fun k k1 k2 => by rw [zup_o k k2, cpS_o (by omega)]
    have c2 : ∀ k j, csA k j = true → zup (cpS M (67 + 35 * n) 1 csA) 37 n 1 (67 + 35 * n + k) j = M (1 + k) j := fun k j h => by rw [zup_o _ (by omega), cpS_e h]
    have c3 : ∀ j, zup (cpS M (67 + 35 * n) 1 csA) 37 n 1 37 j = if j = n then 1 else M 37 j := fun j => by rw [zup_s, cpS_o (by omega)]
    generalize zup (cpS M (67 + 35 * n) 1 csA) 37 n 1 = C at *
    rw [c1 182 (by omega) (by decide), c1 181 (by omega) (by decide)]
    have d1 : ∀ k, k ≠ 180 → k ≠ 182 → k ≠ 183 → zrow (zup (tz C 0) 183 n 1) 182 (cpI (M 182) (M 181) (615 * n) 615) k = C k := fun k k1 k2 k3 => by rw [zrow_o k2, zup_o k k3]; exact zup_o k k1
    have d2 : zrow (zup (tz C 0) 183 n 1) 182 (cpI (M 182) (M 181) (615 * n) 615) 182 = cpI (M 182) (M 181) (615 * n) 615 := zrow_e
    have d3 : ∀ j, zrow (zup (tz C 0) 183 n 1) 182 (cpI (M 182) (M 181) (615 * n) 615) 183 j = if j = n then 1 else M 183 j := fun j => by
      rw [zrow_o (by decide), zup_s]
      show (if j = n then 1 else tz C 0 183 j) = _
      rw [show tz C 0 183 = M 183 from (zup_o 183 (by decide)).trans (c1 183 (by omega) (by decide))]
    have d0 : ∀ j, j ≠ 3 → zrow (zup (tz C 0) 183 n 1) 182 (cpI (M 182) (M 181) (615 * n) 615) 180 j = M 180 j := fun j hj => by
      rw [zrow_o (by decide), zup_o 180 (by decide)]; dsimp only [tz]; rw [zup_j hj, c1 180 (by omega) (by decide)]
    have d4 : zrow (zup (tz C 0) 183 n 1) 182 (cpI (M 182) (M 181) (615 * n) 615) 180 3 = 0 := by
      rw [zrow_o (by decide), zup_o 180 (by decide)]; exact zup_e
    generalize zrow (zup (tz C 0) 183 n 1) 182 (cpI (M 182) (M 181) (615 * n) 615) = N at *
    have e1 : ∀ k, (k < 67 + 35 * n ∨ 102 + 35 * n ≤ k) → k ≠ 37 → k ≠ 180 → k ≠ 182 → k ≠ 183 → N k = M k := fun k k1 k2 k3 k4 k5 => by rw [d1 k k3 k4 k5, c1 k k1 k2]
    refine ⟨d4, RR.w (B := B) ?_ (by omega)⟩
    obtain ⟨g1, g2, g3, g4, g5, g6, g7, g8, g9⟩ := g
    refine ⟨?_, fun q hq => ?_, fun q hq => ?_, ?_, (d0 16 (by decide)).trans g5, ?_, ?_, ?_, g9⟩
    · rw [e1 181 (by omega) (by decide) (by decide) (by decide) (by decide)]
      exact g1.c (fun k a b => e1 k (by omega) (by omega) (by omega) (by omega) (by omega))
    · rw [d1 37 (by decide) (by decide) (by decide), c3, d3]
      by_cases w : q = n
      · subst w
        rw [if_pos rfl, if_pos rfl]
        refine ⟨rfl, fun _ => g1.cp (fun j hj => ?_) (fun k j k1 k2 hc => ?_)⟩
        · rw [d2, cpI_e hj]
        · show N (66 + 35 * q + k) j = M k j
          rw [d1 _ (by omega) (by omega) (by omega), show 66 + 35 * q + k = 67 + 35 * q + (k - 1) by omega, c2 _ _ hc, show 1 + (k - 1) = k by omega]
      · rw [if_neg w, if_neg w]
        obtain ⟨a, b⟩ := g2 q hq
        refine ⟨a, fun y => (b y).cp (fun j hj => ?_) (fun k j k1 k2 _ => ?_)⟩
        · show N 182 (615 * q + j) = M 182 (615 * q + j)
          rw [d2, cpI_o (by omega)]
        · show N (66 + 35 * q + k) j = M (66 + 35 * q + k) j
          rw [e1 _ (by omega) (by omega) (by omega) (by omega) (by omega)]
    · rw [e1 (172 + 2 * q) (by omega) (by omega) (by omega) (by omega) (by omega), e1 (173 + 2 * q) (by omega) (by omega) (by omega) (by omega) (by omega), e1 198 (by omega) (by omega) (by omega) (by omega) (by omega), e1 199 (by omega) (by omega) (by omega) (by omega) (by omega), e1 200 (by omega) (by omega) (by omega) (by omega) (by omega)]
      exact g3 q hq
    · unfold ICx
      rw [e1 38 (by omega) (by omega) (by omega) (by omega) (by omega), e1 36 (by omega) (by omega) (by omega) (by omega) (by omega)]
      exact ⟨g4.1, g4.2.1, fun q hq => by rw [e1 (172 + 2 * q) (by omega) (by omega) (by omega) (by omega) (by omega)]; exact g4.2.2 q hq⟩
    · rw [cT_o (e1 40 (by omega) (by omega) (by omega) (by omega) (by omega)), e1 184 (by omega) (by omega) (by omega) (by omega) (by omega), e1 39 (by omega) (by omega) (by omega) (by omega) (by omega), d0 6 (by decide)]
      exact g6
    · rw [e1 39 (by omega) (by omega) (by omega) (by omega) (by omega), d0 14 (by decide), d0 15 (by decide)]
      exact g7
    · exact drV.o (fun k a b => e1 k (by omega) (by omega) (by omega) (by omega) (by omega)) g8
  · exact us_X12_image (fun y => absurd y h1) (fun _ => fin_n g)
theorem step_restore {B : Int} {M : zM} {i : Int} (g : RR B M) : sp_X11_restore [zR 0, zI i] M (hp cdR (fun k N => sp_X12_restore [zR 180, zI i] N (fin B k))) := by
  have hx := g.2.2.2.1
  refine us_X11_restore hx (fun h1 h2 => ?_) (fun h1 => ⟨1, rfl, ?_⟩) (fun h1 h2 => ⟨2, rfl, ?_⟩)
  · obtain ⟨n, rfl⟩ : ∃ n : Nat, i = n := ⟨i.toNat, by omega⟩
    rw [Int.toNat_natCast] at h2 ⊢
    obtain ⟨ga, gb⟩ := g.2.1 n (by omega)
    have c1 : ∀ k, (k < 1 ∨ 36 ≤ k) → cpS M 1 (67 + 35 * n) csA k = M k := fun k k1 => cpS_o (by omega)
    have c2 : ∀ k j, csA k j = true → cpS M 1 (67 + 35 * n) csA (1 + k) j = M (67 + 35 * n + k) j := fun k j h => cpS_e h
    generalize cpS M 1 (67 + 35 * n) csA = C at *
    refine us_X12_restore (fun _ _ => ?_) (fun y => absurd h1 y) (fun _ y => absurd y (by rw [c1 183 (by decide), Int.toNat_natCast, ← ga]; exact h2))
    rw [Int.toNat_natCast, c1 181 (by decide), c1 182 (by decide)]
    refine fin_sn g (C := C) (t := cpI (M 181) (fun j => M 182 (615 * n + j)) 0 615) (fun k a b => ?_) (fun k hk => ?_) (fun j hj => ?_) zrow_e (((gb h2).w (by omega)).cp (fun j hj => ?_) (fun k j k1 k2 hc => ?_)) ?_
    · rw [zrow_o (by omega)]; exact zup_o k (by omega)
    · rw [zrow_o (by omega)]; dsimp only [tz]; rw [zup_o k (by omega)]; exact c1 k (by omega)
    · rw [zrow_o (by decide)]; dsimp only [tz]; rw [zup_j hj, c1 180 (by decide)]
    · have := cpI_e (f := M 181) (h := fun j => M 182 (615 * n + j)) (a := 0) hj
      rw [Nat.zero_add] at this
      exact this
    · show C k j = M (66 + 35 * n + k) j
      have := c2 (k - 1) j hc
      rw [show 1 + (k - 1) = k by omega, show 67 + 35 * n + (k - 1) = 66 + 35 * n + k by omega] at this
      exact this
    · rw [zrow_o (by decide)]; exact zup_e
  · exact us_X12_restore (fun y => absurd y h1) (fun _ => fin_n g) (fun y => absurd y h1)
  · have a := (g.2.1 i.toNat (by omega)).1
    exact us_X12_restore (fun _ y => absurd (by omega) y) (fun y => absurd h1 y) (fun _ _ => fin_n g)
end
