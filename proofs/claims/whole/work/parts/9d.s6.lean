section
theorem lUF_o {C : zM} {a : Nat} {f : Nat → Nat} {k : Nat} (h : k < 18 ∨ 21 < k) : ∀ n, lUF C a f n k = C k
  | 0 => rfl
  | n + 1 => by
    show zup (layOn (lUF C a f n) a (f n)) 21 a _ k = C k
    rw [zup_o k (by omega), layOn_o (by omega), lUF_o h n]
theorem lUF_h {C : zM} {a : Nat} {f : Nat → Nat} : ∀ n : Nat, C 19 a + n ≤ 20 → lUF C a f n 19 a = C 19 a + n
  | 0, _ => by show C 19 a = _; omega
  | n + 1, h => by
    have i := lUF_h (C := C) (a := a) (f := f) n (by omega)
    show zup (layOn (lUF C a f n) a (f n)) 21 a _ 19 a = _
    rw [zup_o 19 (by decide)]
    unfold layOn
    rw [Int.toNat_natCast, if_pos (by omega), zup_e]
    omega
theorem ldU_F {C : zM} {a s : Nat} : ∀ n, ldU C a s n = lUF C a (fun _ => s) n
  | 0 => rfl
  | n + 1 => by
    show zup (layOn (ldU C a s n) a s) 21 (a : Int).toNat _ = zup (layOn (lUF C a (fun _ => s) n) a s) 21 a _
    rw [ldU_F n, Int.toNat_natCast]
theorem ldT_F {t : Nat → Int} {a s : Nat} : ∀ n, ldT t a s n = ldF t a (fun _ => s) n
  | 0 => rfl
  | n + 1 => by
    show dropT (ldT t a s n) a s = dropT (ldF t a (fun _ => s) n) a s
    rw [ldT_F n]
theorem ptU_F {C : zM} {a m N : Nat} (hm : ∀ i, i < N → 0 ≤ C m i) : ∀ n, n ≤ N → ptU C a m n = lUF C a (fun i => if i < N then (C m i).toNat else 0) n
  | 0, _ => rfl
  | n + 1, hn => by
    show zup (layOn (ptU C a m n) a (C m n)) 21 (a : Int).toNat _ = zup (layOn (lUF C a _ n) a ((if n < N then (C m n).toNat else 0 : Nat) : Int)) 21 a _
    rw [ptU_F hm n (by omega), Int.toNat_natCast, if_pos (by omega), Int.toNat_of_nonneg (hm n (by omega))]
theorem ptT_F {t : Nat → Int} {a N : Nat} {f : Nat → Int} {c : Nat → Int} (hf : ∀ i, i < N → f i = c i) : ∀ n, n ≤ N → ptT t a f n = ldF t a (fun i => if i < N then (c i).toNat else 0) n
  | 0, _ => rfl
  | n + 1, hn => by
    show dropT (ptT t a f n) a (f n).toNat = dropT (ldF t a _ n) a (if n < N then (c n).toNat else 0)
    rw [ptT_F hf n (by omega), if_pos (by omega), hf n (by omega)]
/-- the told heights and so on are in their bounds -/
theorem RR.ht {B : Int} {M : zM} (g : RR B M) (hB : B ≤ 12300) : ∀ i : Nat, i < 8 → (0 ≤ M 181 (159 + 21 * i) ∧ M 181 (159 + 21 * i) ≤ 20) ∧ (0 ≤ M 181 (327 + i) ∧ M 181 (327 + i) ≤ 1000000) ∧ (0 ≤ M 181 (335 + i) ∧ M 181 (335 + i) ≤ 1000000) ∧ (-1000000 ≤ M 181 (343 + i) ∧ M 181 (343 + i) ≤ 1000000) := fun i hi => by
  have a := g.1.2.2.2.1.2.2.1 i hi
  have b := g.1.1.h hi
  omega
/-- the law's view behind a change of class and told row -/
theorem fin_w {B : Int} {M M1 D : zM} {t : Nat → Int} {v w : Int} (g : RR B M) (hD : ∀ k, rD k ∨ k = 180 → D k = M k) (h1 : M1 = zup D 201 0 v) (st : zST (B + 24) t D) (e : w = v) : fin B 0 (some (zI w)) (zrow (tz M1 0) 181 t) := by
  subst h1
  have d180 := hD 180 (Or.inr rfl)
  refine fin_r g (C := D) (t := t) (fun k a b => ?_) (fun k hk => ?_) ?_ ?_ ?_ ?_ zrow_e st ?_ ?_
  · rw [zrow_o (by omega)]; dsimp only [tz]; rw [zup_o k (by omega), zup_o k (by omega)]
  · rw [zrow_o (by omega)]; dsimp only [tz]; rw [zup_o k (by omega), zup_o k (by omega)]; exact hD k (Or.inl hk)
  · rw [zrow_o (by decide)]; dsimp only [tz]; rw [zup_j (by decide), zup_o 180 (by decide), d180]
  · rw [zrow_o (by decide)]; dsimp only [tz]; rw [zup_j (by decide), zup_o 180 (by decide), d180]
  · rw [zrow_o (by decide)]; dsimp only [tz]; rw [zup_j (by decide), zup_o 180 (by decide), d180]
  · rw [zrow_o (by decide)]; dsimp only [tz]; rw [zup_j (by decide), zup_o 180 (by decide), d180]; exact g.2.2.2.2.1
  · rw [zrow_o (by decide)]; exact zup_e
  · rw [zrow_o (by decide)]; dsimp only [tz]; rw [zup_o 201 (by decide), zup_e, e]
theorem step_load {B : Int} {M : zM} {u s m : Int} (g : RR B M) (hB : B ≤ 12300) : sp_X11_load [zR 0, zI u, zI s, zI m] M (hp cdB (fun k N => sp_X12_load [zR 180, zI u, zI s, zI m] N (fin B k))) := by
  have z := g.1
  have e := g.e0
  have m8 := z.2.1.1
  have H := g.ht hB
  have H3 : ∀ i : Nat, i < 8 → (0 ≤ M 181 (159 + 21 * i) ∧ M 181 (159 + 21 * i) ≤ 20) ∧ (0 ≤ M 181 (327 + i) ∧ M 181 (327 + i) ≤ 1000000) ∧ (0 ≤ M 181 (335 + i) ∧ M 181 (335 + i) ≤ 1000000) := fun i hi => ⟨(H i hi).1, (H i hi).2.1, (H i hi).2.2.1⟩
  refine us_X11_load m8.2 z.2.2.2.1 (by omega) (fun h1 h2 h3 h4 => ?_) (fun h1 h2 h3 h4 => ?_) (fun h1 => ⟨1, rfl, ?_⟩) (fun h1 h2 h3 => ⟨2, rfl, ?_⟩)
  · obtain ⟨a, rfl⟩ : ∃ a : Nat, u = a := ⟨u.toNat, by omega⟩
    obtain ⟨b, rfl⟩ : ∃ b : Nat, s = b := ⟨s.toNat, by omega⟩
    obtain ⟨n, rfl⟩ : ∃ n : Nat, m = n := ⟨m.toNat, by omega⟩
    rw [Int.toNat_natCast] at h4
    rw [Int.toNat_natCast, Int.toNat_natCast, ldU_F]
    have eh := (z.1.h (u := a) (by omega)).1
    have t1 : zup (lUF M a (fun _ => b) n) 201 0 (lUF M a (fun _ => b) n 19 a) 181 = M 181 := by rw [zup_o _ (by decide), lUF_o (by decide)]
    refine us_X12_load (by rw [t1]; omega) (by rw [t1]; exact H3) (fun _ _ _ _ => ?_) (fun _ _ _ y => absurd (by rw [t1, Int.toNat_natCast]; omega) y) (fun y => absurd (by rw [t1]; omega) y) (fun _ _ y => absurd h3 y)
    rw [t1, Int.toNat_natCast, Int.toNat_natCast, Int.toNat_natCast, ldT_F]
    exact fin_w g (D := lUF M a (fun _ => b) n) (fun k hk => lUF_o (by omega) n) rfl ((st_loads z (a := a) (f := fun _ => b) (by omega) (fun i => by omega) n).1.w (by omega)) (by rw [lUF_h n (by omega), eh])
  · obtain ⟨a, rfl⟩ : ∃ a : Nat, u = a := ⟨u.toNat, by omega⟩
    have eh := (z.1.h (u := a) (by omega)).1
    rw [Int.toNat_natCast] at h4
    have q := bq.s M (-1)
    have t1 : zup M 201 0 (-1) 181 = M 181 := rfl
    refine us_X12_load (by rw [t1]; omega) (by rw [t1]; exact H3) (fun _ _ _ y => absurd y (by rw [t1, Int.toNat_natCast]; omega)) (fun _ _ _ _ => fz g q zup_e) (fun y => absurd (by rw [t1]; omega) y) (fun _ _ y => absurd h3 y)
  · refine us_X12_load (by omega) H3 (by intros; exfalso; omega) (by intros; exfalso; omega) (fun _ => fin_t g.tz (by decide) (fun n h => by cases h)) (by intros; exfalso; omega)
  · refine us_X12_load (by omega) H3 (fun _ _ y => absurd y h3) (fun _ _ y => absurd y h3) (by intros; exfalso; omega) (fun _ _ _ => fin_t g.tz (by decide) (fun n h => by cases h))
theorem step_empty {B : Int} {M : zM} {u : Int} (g : RR B M) (hB : B ≤ 12300) : sp_X11_empty [zR 0, zI u] M (hp cdN (fun k N => sp_X12_empty [zR 180, zI u] N (fin B k))) := by
  have z := g.1
  have e := g.e0
  have m8 := z.2.1.1
  have H := g.ht hB
  have H3 : ∀ i : Nat, i < 8 → (0 ≤ M 181 (159 + 21 * i) ∧ M 181 (159 + 21 * i) ≤ 20) ∧ (0 ≤ M 181 (327 + i) ∧ M 181 (327 + i) ≤ 1000000) ∧ ∀ j, j < 20 → 0 ≤ M 181 (160 + 21 * i + j) ∧ M 181 (160 + 21 * i + j) < 8 := fun i hi => ⟨(H i hi).1, (H i hi).2.1, fun j hj => by rw [← z.1.co hi hj]; exact z.2.2.2.1.2.2.2.1 _ (by omega)⟩
  refine us_X11_empty m8.2 z.2.2.2.1 (by omega) (fun h1 => ?_) (fun h1 => ⟨1, rfl, ?_⟩)
  · obtain ⟨a, rfl⟩ : ∃ a : Nat, u = a := ⟨u.toNat, by omega⟩
    rw [Int.toNat_natCast]
    have eh := (z.1.h (u := a) (by omega)).1
    have bo : ∀ k, k ≠ 19 → k ≠ 20 → zup (bagU M a (M 19 a).toNat) 19 a 0 k = M k := fun k k1 k2 => by rw [zup_o k k1, bagU_o k2]
    have t1 : zup (zup (bagU M a (M 19 a).toNat) 19 a 0) 201 0 (M 19 a) 181 = M 181 := by rw [zup_o _ (by decide)]; exact bo _ (by decide) (by decide)
    refine us_X12_empty (by rw [t1]; omega) (by rw [t1]; exact H3) (fun _ => ?_) (fun y => absurd (by rw [t1]; omega) y)
    rw [t1, Int.toNat_natCast]
    exact fin_w g (D := zup (bagU M a (M 19 a).toNat) 19 a 0) (fun k hk => bo k (by omega) (by omega)) rfl (st_empty z (by omega)) eh.symm
  · refine us_X12_empty (by omega) H3 (by intros; exfalso; omega) (fun _ => fin_t g.tz (by decide) (fun n h => by cases h))
theorem step_refund {B : Int} {M : zM} (g : RR B M) (hB : B ≤ 12300) : sp_X11_refund [zR 0] M (fun r N => sp_X12_refund [zR 180] N (fid B r)) := by
  have z := g.1
  have H := g.ht hB
  have hI := z.2.2.2.1
  have e3 : M 17 6 = M 181 3 := z.1.1.2.2.2.2.2.1
  refine us_X11_refund hI (by omega) ?_
  have bo : ∀ k, k ≠ 28 → k ≠ 17 → k ≠ 22 → zup (sbU M (M 17 6).toNat) 17 6 0 k = M k := fun k k1 k2 k3 => by rw [zup_o k k2, sbU_o ⟨k1, k2, k3⟩]
  have t1 : zup (sbU M (M 17 6).toNat) 17 6 0 181 = M 181 := bo _ (by decide) (by decide) (by decide)
  have sr := st_refund z
  refine us_X12_refund (by rw [t1]; have := hI.1; omega) (by
    rw [t1]
    intro j hj
    have a := hI.2.2.2.2 j hj
    have b := z.1.sl hj
    omega) (by rw [t1]; exact fun s hs => (H s hs).2.2.2) ?_
  rw [t1]
  refine ⟨⟨_, by rw [sr.2], rfl⟩, ?_⟩
  generalize zup (sbU M (M 17 6).toNat) 17 6 0 = D at *
  have d180 := bo 180 (by decide) (by decide) (by decide)
  refine g.n (by omega) (fun k hk => ?_) ?_ ?_ ?_ ?_ ?_
  · rw [zrow_o (by omega)]; dsimp only [tz]; rw [zup_o k (by omega)]; exact bo k (by omega) (by omega) (by omega)
  · rw [zrow_o (by decide)]; dsimp only [tz]; rw [zup_j (by decide), d180]
  · rw [zrow_o (by decide)]; dsimp only [tz]; rw [zup_j (by decide), d180]
  · rw [zrow_o (by decide)]; dsimp only [tz]; rw [zup_j (by decide), d180]
  · rw [zrow_o (by decide)]; dsimp only [tz]; rw [zup_j (by decide), d180]; exact g.2.2.2.2.1
  · rw [zrow_e]
    exact sr.1.c (fun k a b => by rw [zrow_o (by omega)]; dsimp only [tz]; rw [zup_o k (by omega)])
theorem step_buyer {B : Int} {M : zM} {i a b c d h : Int} (g : RR B M) : sp_X11_buyer [zR 0, zI i, zI a, zI b, zI c, zI d, zI h] M (hp cdB (fun k N => sp_X12_buyer [zR 180, zI i, zI a, zI b, zI c, zI d, zI h] N (fin B k))) := by
  have z := g.1
  have e := g.e0
  have e2 := g.e2
  have e4 := g.e4
  have m8 := z.2.1.1
  have q6 := z.q.1
  have b5 := z.2.2.2.2.1.1
  have eq : byOk M i a b c d ↔ byT (M 181) i a b c d := by
    unfold byOk byT
    rw [← e, ← e2]
  refine us_X11_buyer q6.1 b5 (fun h1 h2 h3 => ?_) (fun h1 h2 h3 => ?_) (fun h1 => ⟨1, rfl, ?_⟩) (fun h1 h2 => ⟨2, rfl, ?_⟩)
  · obtain ⟨k, hk⟩ : ∃ k : Nat, M 1 5 = k := ⟨(M 1 5).toNat, by omega⟩
    rw [hk]
    have bo : ∀ j, 2 ≤ j → (j < 30 ∨ 33 < j) → buyM M k i a b c d h j = M j := fun j j1 j2 => by
      unfold buyM
      rw [zup_o j (by omega), zup_o j (by omega), zup_o j (by omega), zup_o j (by omega), zup_o j (by omega), zup_o j (by omega), zup_o j (by omega), zup_o j (by omega)]
    have t1 : zup (buyM M k i a b c d h) 201 0 k 181 = M 181 := by rw [zup_o _ (by decide)]; exact bo _ (by decide) (by decide)
    refine us_X12_buyer (by rw [t1]; omega) (by rw [t1]; omega) (by rw [t1]; omega) (fun _ _ _ => ?_) (fun _ _ y => absurd (by rw [t1] at y; exact y) (by omega)) (fun y => absurd (by rw [t1]; exact eq.mp h1) y) (fun _ y => absurd h2 y)
    rw [t1, ← e4, hk, Int.toNat_natCast]
    exact fin_w g (D := buyM M k i a b c d h) (fun j hj => bo j (by omega) (by omega)) rfl ((st_buy z hk (by omega) h1 h2).w (by omega)) rfl
  · have q := bq.s M (-1)
    have t1 : zup M 201 0 (-1) 181 = M 181 := rfl
    refine us_X12_buyer (by rw [t1]; omega) (by rw [t1]; omega) (by rw [t1]; omega) (fun _ _ y => absurd (show M 181 4 = 5 by omega) y) (fun _ _ _ => fz g q zup_e) (fun y => absurd (by rw [t1]; exact eq.mp h1) y) (fun _ y => absurd h2 y)
  · refine us_X12_buyer (by omega) (by omega) (by omega) (fun y => absurd (eq.mpr y) h1) (fun y => absurd (eq.mpr y) h1) (fun _ => fin_t g.tz (by decide) (fun n h => by cases h)) (fun y => absurd (eq.mpr y) h1)
  · refine us_X12_buyer (by omega) (by omega) (by omega) (fun _ y => absurd y h2) (fun _ y => absurd y h2) (fun y => absurd (eq.mp h1) y) (fun _ _ => fin_t g.tz (by decide) (fun n h => by cases h))
end
