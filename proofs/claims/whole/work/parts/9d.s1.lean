section
theorem fin_s {B : Int} {M N C : zM} {t : Nat → Int} {v : Int} (g : RR B M) (o1 : ∀ k, 1 ≤ k → k ≤ 35 → N k = C k) (o2 : ∀ k, rD k → N k = M k) (hm : ∀ j, j ≠ 3 → N 180 j = M 180 j) (ht : N 181 = t) (st : zST (B + 24) t C) (h3 : N 180 3 = 0) (ho : N 201 0 = v) : fin B 0 (some (zI v)) N :=
  ⟨h3, fun _ => ho, g.n (by omega) o2 (hm 6 (by decide)) (hm 14 (by decide)) (hm 15 (by decide)) ((hm 16 (by decide)).trans g.2.2.2.2.1) (by rw [ht]; exact st.c o1)⟩
theorem fin_sn {B : Int} {M N C : zM} {t : Nat → Int} (g : RR B M) (o1 : ∀ k, 1 ≤ k → k ≤ 35 → N k = C k) (o2 : ∀ k, rD k → N k = M k) (hm : ∀ j, j ≠ 3 → N 180 j = M 180 j) (ht : N 181 = t) (st : zST (B + 24) t C) (h3 : N 180 3 = 0) : fin B 0 none N :=
  ⟨h3, g.n (by omega) o2 (hm 6 (by decide)) (hm 14 (by decide)) (hm 15 (by decide)) ((hm 16 (by decide)).trans g.2.2.2.2.1) (by rw [ht]; exact st.c o1)⟩
theorem zup_ru {M : zM} {k j : Nat} {x : Int} : zup M k j x k = rUp (M k) j x := by rw [zup_s]; rfl
theorem fin_q {B : Int} {M N : zM} {v : Int} (g : RR B M) (h : quiet M N) (h3 : N 180 3 = 0) (ho : N 201 0 = v) : fin B 0 (some (zI v)) N := ⟨h3, fun _ => ho, g.qt h⟩
theorem fin_ql {B : Int} {M N : zM} {v : Int} (g : RR B M) (h : quiet M N) (h3 : N 180 3 = 0) (ho : N 201 0 = v) : fin B 0 (some (zL v)) N := ⟨h3, fun _ => ho, g.qt h⟩
theorem step_wear {B : Int} {M : zM} {s w : Int} (g : RR B M) : sp_X11_wear [zR 0, zI s, zI w] M (hp cdB (fun k N => sp_X12_wear [zR 180, zI s, zI w] N (fin B k))) := by
  have z := g.1
  have v := z.1.1
  have m8 := z.2.1.1
  have q6 := z.q.1
  refine us_X11_wear m8.2 (fun h1 h2 => ?_) (fun h1 => ⟨1, rfl, ?_⟩) (fun h1 h2 => ⟨2, rfl, ?_⟩)
  · obtain ⟨n, rfl⟩ : ∃ n : Nat, s = n := ⟨s.toNat, by omega⟩
    rw [Int.toNat_natCast]
    have n8 : n < 8 := by omega
    have ei : (15 + 11 * (n : Int) + 9).toNat = 24 + 11 * n := by omega
    have t0 : zup (zup M 9 n w) 201 0 (M 9 n) 181 = M 181 := rfl
    refine us_X12_wear (by (try rw [t0]); have a := v.2.2.2.1; omega) (fun _ _ => ?_) (fun q => absurd (by (try rw [t0]); have a := v.2.2.2.1; omega) q) (fun _ q => absurd h2 q)
    rw [ei]
    refine fin_s g (C := zup M 9 n w) (t := rUp (M 181) (24 + 11 * n) w) (fun k _ _ => by dsimp only [tz]; repeat rw [zup_o k (by omega)]) (fun k hk => by dsimp only [tz]; repeat rw [zup_o k (by omega)]) (fun j hj => by dsimp only [tz]; rw [zup_o 180 (by decide), zup_j hj]; rfl) (by rw [zup_ru]; rfl) ((st_wear (z.w (by omega)) (by omega) h2)) ?_ ?_
    · rfl
    · show M 9 n = M 181 (24 + 11 * n)
      exact (z.1.2.2.1 n n8).2.2.2.1
  · refine us_X12_wear (by (try rw [t0]); have a := v.2.2.2.1; omega) (fun q => absurd q (by (try rw [t0]); have a := v.2.2.2.1; omega)) (fun _ => fin_t g.tz (by decide) (fun n h => by cases h)) (fun q => absurd q (by (try rw [t0]); have a := v.2.2.2.1; omega))
  · refine us_X12_wear (by (try rw [t0]); have a := v.2.2.2.1; omega) (fun _ q => absurd q h2) (fun q => absurd (by (try rw [t0]); have a := v.2.2.2.1; omega) q) (fun _ _ => fin_t g.tz (by decide) (fun n h => by cases h))
theorem step_flow {B : Int} {M : zM} {s w : Int} (g : RR B M) : sp_X11_flow [zR 0, zI s, zI w] M (hp cdB (fun k N => sp_X12_flow [zR 180, zI s, zI w] N (fin B k))) := by
  have z := g.1
  have v := z.1.1
  have m8 := z.2.1.1
  have q6 := z.q.1
  refine us_X11_flow m8.2 (fun h1 h2 => ?_) (fun h1 => ⟨1, rfl, ?_⟩) (fun h1 h2 => ⟨2, rfl, ?_⟩)
  · obtain ⟨n, rfl⟩ : ∃ n : Nat, s = n := ⟨s.toNat, by omega⟩
    rw [Int.toNat_natCast]
    have n8 : n < 8 := by omega
    have ei : (15 + 11 * (n : Int) + 10).toNat = 25 + 11 * n := by omega
    have t0 : zup (zup M 10 n w) 201 0 (M 10 n) 181 = M 181 := rfl
    refine us_X12_flow (by (try rw [t0]); have a := v.2.2.2.1; omega) (fun _ _ => ?_) (fun q => absurd (by (try rw [t0]); have a := v.2.2.2.1; omega) q) (fun _ q => absurd h2 q)
    rw [ei]
    refine fin_s g (C := zup M 10 n w) (t := rUp (M 181) (25 + 11 * n) w) (fun k _ _ => by dsimp only [tz]; repeat rw [zup_o k (by omega)]) (fun k hk => by dsimp only [tz]; repeat rw [zup_o k (by omega)]) (fun j hj => by dsimp only [tz]; rw [zup_o 180 (by decide), zup_j hj]; rfl) (by rw [zup_ru]; rfl) ((st_flow (z.w (by omega)) (by omega) h2)) ?_ ?_
    · rfl
    · show M 10 n = M 181 (25 + 11 * n)
      exact (z.1.2.2.1 n n8).2.2.2.2.1
  · refine us_X12_flow (by (try rw [t0]); have a := v.2.2.2.1; omega) (fun q => absurd q (by (try rw [t0]); have a := v.2.2.2.1; omega)) (fun _ => fin_t g.tz (by decide) (fun n h => by cases h)) (fun q => absurd q (by (try rw [t0]); have a := v.2.2.2.1; omega))
  · refine us_X12_flow (by (try rw [t0]); have a := v.2.2.2.1; omega) (fun _ q => absurd q h2) (fun q => absurd (by (try rw [t0]); have a := v.2.2.2.1; omega) q) (fun _ _ => fin_t g.tz (by decide) (fun n h => by cases h))
theorem step_set {B : Int} {M : zM} {s w : Int} (g : RR B M) : sp_X11_set [zR 0, zI s, zI w] M (hp cdB (fun k N => sp_X12_set [zR 180, zI s, zI w] N (fin B k))) := by
  have z := g.1
  have v := z.1.1
  have m8 := z.2.1.1
  have q6 := z.q.1
  refine us_X11_set (fun h1 h2 => ?_) (fun h1 => ⟨1, rfl, ?_⟩) (fun h1 h2 => ⟨2, rfl, ?_⟩)
  · obtain ⟨n, rfl⟩ : ∃ n : Nat, s = n := ⟨s.toNat, by omega⟩
    rw [Int.toNat_natCast]
    have n8 : n < 4 := by omega
    have ei : (7 + (n : Int)).toNat = 7 + n := by omega
    have t0 : zup (zup M 3 n w) 201 0 (M 3 n) 181 = M 181 := rfl
    refine us_X12_set (fun _ _ => ?_) (fun q => absurd (by omega) q) (fun _ q => absurd h2 q)
    rw [ei]
    refine fin_s g (C := zup M 3 n w) (t := rUp (M 181) (7 + n) w) (fun k _ _ => by dsimp only [tz]; repeat rw [zup_o k (by omega)]) (fun k hk => by dsimp only [tz]; repeat rw [zup_o k (by omega)]) (fun j hj => by dsimp only [tz]; rw [zup_o 180 (by decide), zup_j hj]; rfl) (by rw [zup_ru]; rfl) ((st_set (z.w (by omega)) n8 h2)) ?_ ?_
    · rfl
    · show M 3 n = M 181 (7 + n)
      exact (z.1.2.1 n n8).1
  · refine us_X12_set (fun q => absurd q (by omega)) (fun _ => fin_t g.tz (by decide) (fun n h => by cases h)) (fun q => absurd q (by omega))
  · refine us_X12_set (fun _ q => absurd q h2) (fun q => absurd (by omega) q) (fun _ _ => fin_t g.tz (by decide) (fun n h => by cases h))
theorem step_cost {B : Int} {M : zM} {s w : Int} (g : RR B M) : sp_X11_cost [zR 0, zI s, zI w] M (hp cdB (fun k N => sp_X12_cost [zR 180, zI s, zI w] N (fin B k))) := by
  have z := g.1
  have v := z.1.1
  have m8 := z.2.1.1
  have q6 := z.q.1
  refine us_X11_cost (fun h1 h2 => ?_) (fun h1 => ⟨1, rfl, ?_⟩) (fun h1 h2 => ⟨2, rfl, ?_⟩)
  · obtain ⟨n, rfl⟩ : ∃ n : Nat, s = n := ⟨s.toNat, by omega⟩
    rw [Int.toNat_natCast]
    have n8 : n < 4 := by omega
    have ei : (11 + (n : Int)).toNat = 11 + n := by omega
    have t0 : zup (zup M 23 n w) 201 0 (M 23 n) 181 = M 181 := rfl
    refine us_X12_cost (fun _ _ => ?_) (fun q => absurd (by omega) q) (fun _ q => absurd h2 q)
    rw [ei]
    refine fin_s g (C := zup M 23 n w) (t := rUp (M 181) (11 + n) w) (fun k _ _ => by dsimp only [tz]; repeat rw [zup_o k (by omega)]) (fun k hk => by dsimp only [tz]; repeat rw [zup_o k (by omega)]) (fun j hj => by dsimp only [tz]; rw [zup_o 180 (by decide), zup_j hj]; rfl) (by rw [zup_ru]; rfl) ((st_cost (z.w (by omega)) n8 h2)) ?_ ?_
    · rfl
    · show M 23 n = M 181 (11 + n)
      exact (z.1.2.1 n n8).2.1
  · refine us_X12_cost (fun q => absurd q (by omega)) (fun _ => fin_t g.tz (by decide) (fun n h => by cases h)) (fun q => absurd q (by omega))
  · refine us_X12_cost (fun _ q => absurd q h2) (fun q => absurd (by omega) q) (fun _ _ => fin_t g.tz (by decide) (fun n h => by cases h))
theorem step_price {B : Int} {M : zM} {s w : Int} (g : RR B M) : sp_X11_price [zR 0, zI s, zI w] M (hp cdB (fun k N => sp_X12_price [zR 180, zI s, zI w] N (fin B k))) := by
  have z := g.1
  have v := z.1.1
  have m8 := z.2.1.1
  have q6 := z.q.1
  refine us_X11_price q6 (fun h1 h2 => ?_) (fun h1 => ⟨1, rfl, ?_⟩) (fun h1 h2 => ⟨2, rfl, ?_⟩)
  · obtain ⟨n, rfl⟩ : ∃ n : Nat, s = n := ⟨s.toNat, by omega⟩
    rw [Int.toNat_natCast]
    have n8 : n < 6 := by omega
    have ei : (351 + (n : Int)).toNat = 351 + n := by omega
    have t0 : zup (zup M 29 n w) 201 0 (M 29 n) 181 = M 181 := rfl
    refine us_X12_price (by (try rw [t0]); have a := v.1; omega) (fun _ _ => ?_) (fun q => absurd (by (try rw [t0]); have a := v.1; omega) q) (fun _ q => absurd h2 q)
    rw [ei]
    refine fin_s g (C := zup M 29 n w) (t := rUp (M 181) (351 + n) w) (fun k _ _ => by dsimp only [tz]; repeat rw [zup_o k (by omega)]) (fun k hk => by dsimp only [tz]; repeat rw [zup_o k (by omega)]) (fun j hj => by dsimp only [tz]; rw [zup_o 180 (by decide), zup_j hj]; rfl) (by rw [zup_ru]; rfl) ((st_price (z.w (by omega)) n8 h2)) ?_ ?_
    · rfl
    · show M 29 n = M 181 (351 + n)
      exact z.1.2.2.2.2.2.2.2.1 n n8
  · refine us_X12_price (by (try rw [t0]); have a := v.1; omega) (fun q => absurd q (by (try rw [t0]); have a := v.1; omega)) (fun _ => fin_t g.tz (by decide) (fun n h => by cases h)) (fun q => absurd q (by (try rw [t0]); have a := v.1; omega))
  · refine us_X12_price (by (try rw [t0]); have a := v.1; omega) (fun _ q => absurd q h2) (fun q => absurd (by (try rw [t0]); have a := v.1; omega) q) (fun _ _ => fin_t g.tz (by decide) (fun n h => by cases h))
end
