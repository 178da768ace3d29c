section
theorem vw_lay {t : Nat → Int} {D : zM} {a s : Nat} (ha : a < 8) (hs : s < 8) (hh : 0 ≤ D 19 a ∧ D 19 a ≤ 20) : vw t (layOn D a s) = vw t D := by
  unfold layOn
  rw [Int.toNat_natCast, Int.toNat_natCast]
  split
  · rw [vw_up (pl_19 ha rfl) (by decide), vw_up (pl_18 (by omega) rfl) (by decide)]
  · rw [vw_up (pl_20 hs rfl) (by decide)]
theorem vw_s2t {t : Nat → Int} {B : Int} {C : zM} (hI : ICt B C) : ∀ n, n ≤ 12 → vw t (s2t C n) = vw t C
  | 0, _ => rfl
  | n + 1, hn => by
    have i := vw_s2t (t := t) hI n (by omega)
    have li := hI.2.2.2.2 n (by omega)
    have nI := s2t_I hI n (by omega)
    unfold s2t
    split
    · exact i
    · rename_i c
      obtain ⟨a, ha⟩ : ∃ a : Nat, C 25 n = a := ⟨(C 25 n).toNat, by omega⟩
      obtain ⟨s, hs⟩ : ∃ s : Nat, C 24 n = s := ⟨(C 24 n).toNat, by omega⟩
      have z := nI.2.2.1 a (by omega)
      rw [ha, hs, vw_lay (by omega) (by omega) ⟨z.1, z.2.1⟩, i]
theorem vw_gv {t : Nat → Int} {D : zM} {a : Nat} (ha : a < 8) (h0 : 0 ≤ D 17 11 ∧ D 17 11 ≤ 160) : ∀ n, vw t (gvF D a n) = vw t D ∧ 0 ≤ gvF D a n 17 11 ∧ gvF D a n 17 11 ≤ 160
  | 0 => ⟨rfl, h0⟩
  | n + 1 => by
    obtain ⟨i1, i2⟩ := vw_gv (t := t) ha h0 n
    have g9 := giveOut_g (M := gvF D a n) (s := topOf (gvF D a n) a) i2
    unfold gvF
    rw [Int.toNat_natCast, vw_up (pl_22 ha rfl) (by decide), vw_up (pl_19 ha rfl) (by decide)]
    refine ⟨?_, ?_⟩
    · rw [← i1]
      unfold giveOut
      split
      · rw [vw_up (pl_17b rfl rfl) (by decide), vw_up (pl_28 (by omega) rfl) (by decide)]
      · rfl
    · rw [zup_o 17 (by decide), zup_o 17 (by decide)]
      exact g9
theorem vw_ga {t : Nat → Int} {D : zM} {x : Nat → Nat} (h0 : 0 ≤ D 17 11 ∧ D 17 11 ≤ 160) : ∀ n, n ≤ 8 → vw t (gvA D x n) = vw t D ∧ 0 ≤ gvA D x n 17 11 ∧ gvA D x n 17 11 ≤ 160
  | 0, _ => ⟨rfl, h0⟩
  | n + 1, hn => by
    obtain ⟨i1, i2⟩ := vw_ga (t := t) (x := x) h0 n (by omega)
    have k := vw_gv (t := t) (a := n) (by omega) i2 (x n)
    exact ⟨k.1.trans i1, k.2⟩
theorem vw_sale {t : Nat → Int} {B : Int} {C : zM} {x : Nat → Nat} (hI : ICt B C) (hm : 0 ≤ C 2 0 ∧ C 2 0 ≤ 8) (hx : ∀ i, i < 8 → (x i : Int) ≤ C 19 i ∧ x i ≤ 20) : vw t (saleM C x) = vw t C := by
  have i0 := ICt_11 hI
  have ga := vw_ga (t := t) (D := zup C 17 11 0) (x := x) (by rw [zup_e]; decide) (C 2 0).toNat (by omega)
  have gI := gvA_I i0 (x := x) (fun i hi => by rw [zup_o 19 (by decide)]; exact hx i hi) (C 2 0).toNat (by omega)
  unfold saleM
  rw [vw_up (pl_17a rfl rfl) (by decide), vw_s2t gI _ (by have := hI.1; omega), ga.1, vw_up (pl_17b rfl rfl) (by decide)]
theorem vw_put {t : Nat → Int} {C : zM} {n s : Nat} {c r w : Int} (hn : C 17 6 = n) (n12 : n < 12) (s8 : s < 8) : vw t (slideIn C c s r w) = vw t C := by
  unfold slideIn
  rw [hn, Int.toNat_natCast, Int.toNat_natCast, vw_up (pl_22 s8 rfl) (by decide), vw_up (pl_17a rfl rfl) (by decide), vw_up (pl_27 n12 rfl) (by decide), vw_up (pl_26 n12 rfl) (by decide), vw_up (pl_25 n12 rfl) (by decide), vw_up (pl_24 n12 rfl) (by decide)]
/-- the reference's view of a memory whose class has changed at told places alone -/
theorem RR.ag3 {B : Int} {M N D : zM} (g : RR B M) (h : ∀ k, k < 36 → N k = D k) (hD : vw (M 181) D = vw (M 181) M) (ht : N 181 = M 181) : AG M (vm N) := g.ag2 (fun k j hk => by rw [vw_k (D := D) (h k hk), hD]) ht
theorem isGood_lt {M : zM} {k : Int} (h : isGood M k) : 0 ≤ k ∧ k < M 2 0 := by
  unfold isGood at h
  omega
theorem step_put {B : Int} {M : zM} {s w b r y : Int} (g : RR B M) (hB : B ≤ 12300) (htk : ∀ w b r, takes M w b r = -1 ∨ isGood M (takes M w b r)) : sp_X11_put [zR 0, zI s, zI w, zI b, zI r, zI y] M (hp cdB (fun k N => sp_X12_put [zR 180, zI s, zI w, zI b, zI r, zI y] N (fin B k))) := by
  have z := g.1
  have e := g.e0
  have m8 := z.2.1.1
  have H := g.ht hB
  have hI := z.2.2.2.1
  have e3 : M 17 6 = M 181 3 := z.1.1.2.2.2.2.2.1
  have hk := z.2.2.2.2.2.2.2.1
  have HH : ∀ i : Nat, i < 8 → (-1000000 ≤ M 181 (343 + i) ∧ M 181 (343 + i) ≤ 1000000) ∧ (0 ≤ M 181 (327 + i) ∧ M 181 (327 + i) ≤ 1000000) := fun i hi => ⟨(H i hi).2.2.2, (H i hi).2.1⟩
  have a0 := (bq.rf M).ag g
  have ic0 := fun s => ag_isCoin a0 s w b r
  refine us_X11_put z.2.2.1 z.2.1 hI (by omega) (fun h1 h2 h3 => ?_) (fun h1 h2 h3 h4 => ?_) (fun h1 h2 h3 h4 h5 => ?_) (fun h1 => ⟨1, rfl, ?_⟩) (fun h1 h2 => ⟨2, rfl, ?_⟩)
  · obtain ⟨n, rfl⟩ : ∃ n : Nat, s = n := ⟨s.toNat, by omega⟩
    rw [Int.toNat_natCast]
    have n8 : n < 8 := by omega
    have t1 : zup (zup M 20 n (M 20 n + 1)) 201 0 n 181 = M 181 := rfl
    have a := g.ag3 (N := zup (zup M 20 n (M 20 n + 1)) 201 0 n) (D := zup M 20 n (M 20 n + 1)) (fun k hk => zup_o k (by omega)) (vw_up (pl_20 n8 rfl) (by decide)) t1
    refine us_X12_put (a.g z.2.2.1) (a.s z.2.1) (by rw [t1]; exact hk) g.2.2.2.2.1 (by rw [t1]; have := hI.1; omega) (by rw [t1]; exact HH) (fun _ _ _ => ?_) (fun _ _ q => absurd q (by omega)) (fun _ _ q => absurd q (by omega)) (fun q => absurd (by rw [t1]; omega) q) (fun _ q => absurd ⟨(ag_isCoin a _ _ _ _).mpr h2, by omega⟩ q)
    rw [t1, Int.toNat_natCast]
    have st := st_bag z n8
    exact fin_s g (C := zup M 20 n (M 20 n + 1)) (t := rUp (M 181) (327 + n) (M 181 (327 + n) + 1)) (fun k _ _ => by dsimp only [tz]; repeat rw [zup_o k (by omega)]) (fun k hk => by dsimp only [tz]; repeat rw [zup_o k (by omega)]) (fun j hj => by dsimp only [tz]; rw [zup_o 180 (by decide), zup_j hj]; rfl) (by rw [zup_ru]; rfl) (st.w (by omega)) rfl rfl
  · have q := bq.s M (-1)
    have a := q.ag g
    have t1 : zup M 201 0 (-1) 181 = M 181 := rfl
    have et := ag_takes a w b r
    refine us_X12_put (a.g z.2.2.1) (a.s z.2.1) (by rw [t1]; exact hk) (q.m g) (by rw [t1]; have := hI.1; omega) (by rw [t1]; exact HH) (fun _ _ q => absurd q (by omega)) (fun _ _ _ _ => fz g q zup_e) (fun _ _ _ q1 q2 => absurd h4 (by rw [et] at q1; rw [t1] at q2; have := hI.1; omega)) (fun q => absurd (by rw [t1]; omega) q) (fun _ q => absurd ⟨(ag_isCoin a _ _ _ _).mpr h2, by omega⟩ q)
  · have tk := (htk w b r).resolve_left h4
    have tl := isGood_lt tk
    obtain ⟨k, hkk⟩ : ∃ k : Nat, takes M w b r = k := ⟨(takes M w b r).toNat, by omega⟩
    obtain ⟨n, hn⟩ : ∃ n : Nat, M 17 6 = n := ⟨(M 17 6).toNat, by have := hI.1; omega⟩
    have k8 : k < 8 := by omega
    have pt : 1 ≤ putT y ∧ putT y ≤ 2 := by unfold putT; split <;> omega
    have vr := (z.2.1.2.2.1 k k8).1
    have vr2 := (z.2.1.2.2.1 k k8).2.1
    rw [hkk, Int.toNat_natCast]
    have bo : ∀ j, (j < 17 ∨ 27 < j) → slideIn M (if y = 2 then -1 else s) k (putT y) (putT y * M 4 k) j = M j := fun j hj => by
      unfold slideIn
      rw [zup_o j (by omega), zup_o j (by omega), zup_o j (by omega), zup_o j (by omega), zup_o j (by omega), zup_o j (by omega)]
    have t1 : zup (slideIn M (if y = 2 then -1 else s) k (putT y) (putT y * M 4 k)) 201 0 k 181 = M 181 := by rw [zup_o _ (by decide)]; exact bo _ (by decide)
    have a := g.ag3 (N := zup (slideIn M (if y = 2 then -1 else s) k (putT y) (putT y * M 4 k)) 201 0 k) (D := slideIn M (if y = 2 then -1 else s) k (putT y) (putT y * M 4 k)) (fun j hj => zup_o j (by omega)) (vw_put hn (by omega) k8) t1
    have et := ag_takes a w b r
    refine us_X12_put (a.g z.2.2.1) (a.s z.2.1) (by rw [t1]; exact hk) (by rw [zup_o _ (by decide), bo _ (by decide)]; exact g.2.2.2.2.1) (by rw [t1]; have := hI.1; omega) (by rw [t1]; exact HH) (fun _ _ q => absurd q (by omega)) (fun _ _ _ q => absurd q (by rw [et, t1]; omega)) (fun _ _ _ _ _ => ?_) (fun q => absurd (by rw [t1]; omega) q) (fun _ q => absurd ⟨(ag_isCoin a _ _ _ _).mpr h2, by omega⟩ q)
    rw [et, t1, ← e3, hn, hkk, Int.toNat_natCast, Int.toNat_natCast, a 4 (by decide)]
    have mul : 0 ≤ putT y * M 4 k ∧ putT y * M 4 k ≤ 400 := by
      have hp : putT y = 1 ∨ putT y = 2 := by omega
      rcases hp with p | p <;> rw [p] <;> omega
    exact fin_w g (D := slideIn M (if y = 2 then -1 else s) k (putT y) (putT y * M 4 k)) (fun j hj => bo j (by omega)) rfl (st_put z hn (by omega) (by omega) (by split <;> omega) (by omega) mul) rfl
  · refine us_X12_put (a0.g z.2.2.1) (a0.s z.2.1) hk g.2.2.2.2.1 (by have := hI.1; omega) HH (fun q => absurd q (by omega)) (fun q => absurd q (by omega)) (fun q => absurd q (by omega)) (fun _ => fin_t g.tz (by decide) (fun n h => by cases h)) (fun q => absurd q (by omega))
  · have nc : ¬ (isCoin (vm M) s w b r ∧ (0 ≤ y ∧ y ≤ 3)) := fun q => h2 ⟨(ic0 s).mp q.1, q.2⟩
    refine us_X12_put (a0.g z.2.2.1) (a0.s z.2.1) hk g.2.2.2.2.1 (by have := hI.1; omega) HH (fun _ q1 q2 => absurd ⟨q1, by omega⟩ nc) (fun _ q1 q2 => absurd ⟨q1, by omega⟩ nc) (fun _ q1 q2 => absurd ⟨q1, by omega⟩ nc) (fun q => absurd (by omega) q) (fun _ _ => fin_t g.tz (by decide) (fun n h => by cases h))
end
