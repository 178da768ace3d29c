section
/-- what the law finds right where it compares answers alone -/
def fid (B : Int) (r : Option zV) : Option zV → zM → Prop := fun r2 M2 => (∃ v : Int, r = some (zI v) ∧ r2 = some (zI v)) ∧ RR (B + 24) M2
theorem fid_z {B : Int} {M : zM} {v w : Int} (g : RR B M) (e : w = v) : fid B (some (zI v)) (some (zI w)) (tz M 0) := ⟨⟨v, rfl, by rw [e]⟩, g.tz.w (by omega)⟩
theorem step_credit {B : Int} {M : zM} (g : RR B M) : sp_X11_credit [zR 0] M (fun r N => sp_X12_credit [zR 180] N (fid B r)) := by
  have a := (bq.rf M).ag g
  exact us_X11_credit g.1.2.2.2.1 (us_X12_credit (a.t g.1.2.2.2.1) (fid_z g (ag_credit a)))
theorem step_given {B : Int} {M : zM} {i : Int} (g : RR B M) : sp_X11_given [zR 0, zI i] M (fun r N => sp_X12_given [zR 180, zI i] N (fid B r)) := by
  have z := g.1
  have b := z.2.2.2.1.2.1
  have e : M 17 11 = M 181 6 := z.1.1.2.2.2.2.2.2
  refine us_X11_given b (us_X12_given (by omega) (fid_z g ?_))
  by_cases c : 0 ≤ i ∧ i < M 181 6
  · rw [if_pos c, if_pos (by rw [← e] at c; exact c), (z.1.2.2.2.2.2.1 i.toNat (by omega)).2]
    congr 1 <;> omega
  · rw [if_neg c, if_neg (by rw [← e] at c; exact c)]
theorem step_count {B : Int} {M : zM} {i : Int} (g : RR B M) : sp_X11_count [zR 0, zI i] M (fun r N => sp_X12_count [zR 180, zI i] N (fid B r)) := by
  have z := g.1
  obtain ⟨a1, a2, a3, a4, a5, a6, a7⟩ := z.1.1
  have f := g.2.2.2.2.2.1.2.1
  refine us_X11_count (us_X12_count (fid_z g ?_))
  unfold cntM cntOf
  by_cases c : 0 ≤ i ∧ i ≤ 7
  · have hc : i = 0 ∨ i = 1 ∨ i = 2 ∨ i = 3 ∨ i = 4 ∨ i = 5 ∨ i = 6 ∨ i = 7 := by omega
    rcases hc with rfl | rfl | rfl | rfl | rfl | rfl | rfl | rfl
    · exact a4.symm
    · exact a5.symm
    · exact a1.symm
    · exact a6.symm
    · exact a2.symm
    · exact a3.symm
    · exact f.symm
    · exact a7.symm
  · rw [if_neg (by omega), if_neg (by omega), if_neg (by omega), if_neg (by omega), if_neg (by omega), if_neg (by omega), if_neg (by omega), if_neg (by omega), if_neg (by omega), if_neg (by omega), if_neg (by omega)]
theorem step_fault {B : Int} {M : zM} {i : Int} (g : RR B M) : sp_X11_fault [zR 0, zI i] M (fun r N => sp_X12_fault [zR 180, zI i] N (fid B r)) := by
  have f := g.2.2.2.2.2.2.1
  refine us_X11_fault (us_X12_fault (fid_z g ?_))
  rw [f.1, f.2]
theorem step_tube {B : Int} {M : zM} {s w : Int} (g : RR B M) : sp_X11_tube [zR 0, zI s, zI w] M (hp cdB (fun k N => sp_X12_tube [zR 180, zI s, zI w] N (fin B k))) := by
  have e := g.e0
  have z := g.1
  have m8 := z.2.1.1
  have a0 := (bq.rf M).ag g
  refine us_X11_tube m8.2 z.2.2.2.1 (fun h1 h2 => ?_) (fun h1 => ⟨1, rfl, ?_⟩) (fun h1 h2 => ⟨2, rfl, ?_⟩)
  · have q := bq.s M (if w = 0 then M 19 s.toNat else if w = 1 then M 19 s.toNat - coinsIn M s s else topOf M s)
    have a := q.ag g
    have t0 := q.t 0
    refine us_X12_tube (by omega) (a.t z.2.2.2.1) (fun _ _ => fz g q ?_) (fun y => absurd (by omega) y) (fun _ y => absurd h2 y)
    rw [zup_e, a 19 (by decide), ag_coinsIn a, ag_topOf a]
  · refine us_X12_tube (by omega) (a0.t z.2.2.2.1) (fun y1 => absurd y1 (by omega)) (fun _ => fin_t g.tz (by decide) (fun n h => by cases h)) (fun y1 => absurd y1 (by omega))
  · refine us_X12_tube (by omega) (a0.t z.2.2.2.1) (fun _ y1 => absurd y1 h2) (fun y => absurd (by omega) y) (fun _ _ => fin_t g.tz (by decide) (fun n h => by cases h))
theorem step_bag {B : Int} {M : zM} {s : Int} (g : RR B M) : sp_X11_bag [zR 0, zI s] M (hp cdN (fun k N => sp_X12_bag [zR 180, zI s] N (fin B k))) := by
  have e := g.e0
  have z := g.1
  have m8 := z.2.1.1
  refine us_X11_bag m8.2 (fun h1 => ?_) (fun h1 => ⟨1, rfl, ?_⟩)
  · have q := bq.s M (M 20 s.toNat)
    have t0 := q.t 0
    refine us_X12_bag (by omega) (fun _ => fz g q ?_) (fun y => absurd (by omega) y)
    rw [zup_e, q.t, (z.1.h (u := s.toNat) (by omega)).2.1]
    congr 1 <;> omega
  · refine us_X12_bag (by omega) (fun y1 => absurd y1 (by omega)) (fun _ => fin_t g.tz (by decide) (fun n h => by cases h))
theorem step_wheel {B : Int} {M : zM} {s w : Int} (g : RR B M) (hB : B ≤ 12300) : sp_X11_wheel [zR 0, zI s, zI w] M (hp cdB (fun k N => sp_X12_wheel [zR 180, zI s, zI w] N (fin B k))) := by
  have e := g.e0
  have z := g.1
  have m8 := z.2.1.1
  have a0 := (bq.rf M).ag g
  have he := z.2.2.2.2.2.2.1
  refine us_X11_wheel m8.2 z.2.2.2.1 (by omega) (fun h1 h2 => ?_) (fun h1 => ⟨1, rfl, ?_⟩) (fun h1 h2 => ⟨2, rfl, ?_⟩)
  · have q := bq.s M (if w = 0 then M 22 s.toNat else if w = 1 then M 21 s.toNat + M 22 s.toNat else if w = 2 then there M s else odd M s)
    have a := q.ag g
    have t0 := q.t 0
    refine us_X12_wheel (by omega) (a.t z.2.2.2.1) (by omega) (a.e he) (fun _ _ => fz g q ?_) (fun y => absurd (by omega) y) (fun _ y => absurd h2 y)
    rw [zup_e, a 22 (by decide), a 21 (by decide), ag_there a, ag_odd a]
  · refine us_X12_wheel (by omega) (a0.t z.2.2.2.1) (by omega) (a0.e he) (fun y1 => absurd y1 (by omega)) (fun _ => fin_t g.tz (by decide) (fun n h => by cases h)) (fun y1 => absurd y1 (by omega))
  · refine us_X12_wheel (by omega) (a0.t z.2.2.2.1) (by omega) (a0.e he) (fun _ y1 => absurd y1 h2) (fun y => absurd (by omega) y) (fun _ _ => fin_t g.tz (by decide) (fun n h => by cases h))
theorem step_lacks {B : Int} {M : zM} {s w : Int} (g : RR B M) : sp_X11_lacks [zR 0, zI s, zI w] M (hp cdB (fun k N => sp_X12_lacks [zR 180, zI s, zI w] N (fin B k))) := by
  have e := g.e2
  have z := g.1
  have q6 := z.q.1
  have a0 := (bq.rf M).ag g
  have he := z.2.2.2.2.2.2.1
  have hb := z.2.2.2.2.1
  refine us_X11_lacks q6 z.2.1 hb z.2.2.2.1 (fun h1 h2 N o => ?_) (fun h1 => ⟨1, rfl, ?_⟩) (fun h1 h2 => ⟨2, rfl, ?_⟩)
  · have q := bq.o o (lackA M s w)
    have a := q.ag g
    have t0 := q.t 2
    refine us_X12_lacks (by omega) (a.s z.2.1) (a.b hb) (a.t z.2.2.2.1) (a.e he) (fun _ _ P oP => fY g q oP (by rw [zup_e, ag_lackA a])) (fun y => absurd (by omega) y) (fun _ y => absurd h2 y)
  · refine us_X12_lacks (by omega) (a0.s z.2.1) (a0.b hb) (a0.t z.2.2.2.1) (a0.e he) (fun y1 => absurd y1 (by omega)) (fun _ => fin_t g.tz (by decide) (fun n h => by cases h)) (fun y1 => absurd y1 (by omega))
  · refine us_X12_lacks (by omega) (a0.s z.2.1) (a0.b hb) (a0.t z.2.2.2.1) (a0.e he) (fun _ y1 => absurd y1 h2) (fun y => absurd (by omega) y) (fun _ _ => fin_t g.tz (by decide) (fun n h => by cases h))
theorem step_made {B : Int} {M : zM} {p : Int} (g : RR B M) : sp_X11_made [zR 0, zI p] M (hp cdA (fun k N => sp_X12_made [zR 180, zI p] N (fin B k))) := by
  have z := g.1
  refine us_X11_made z.2.1 (fun h1 N o => ?_) (fun h1 => ⟨1, rfl, ?_⟩)
  · have q := bq.o o (mdS M p.toNat (1001 - p.toNat))
    have a := q.ag g
    refine us_X12_made (a.s z.2.1) (fun _ P oP => fY g q oP (by rw [zup_e, ag_mdS a])) (fun y => absurd h1 y)
  · refine us_X12_made (((bq.rf M).ag g).s z.2.1) (fun y1 => absurd y1 h1) (fun _ => fin_t g.tz (by decide) (fun n h => by cases h))
theorem step_explain {B : Int} {M : zM} {w : Int} (g : RR B M) (hB : B ≤ 12300) : sp_X11_explain [zR 0, zI w] M (hp cdA (fun k N => sp_X12_explain [zR 180, zI w] N (fin B k))) := by
  have z := g.1
  have b0 := g.2.2.2.2.2.2.2.2
  have hc := z.q.2.1
  have he := z.2.2.2.2.2.2.1
  refine us_X11_explain z.2.2.1 z.2.1 z.2.2.2.1 b0 (by omega) hc (fun h1 N o => ?_) (fun h1 => ⟨1, rfl, ?_⟩)
  · have q := bq.o o (if w = 0 then costW M else if w = 1 then fewW M else manyW M)
    have a := q.ag g
    refine us_X12_explain (a.g z.2.2.1) (a.s z.2.1) (a.t z.2.2.2.1) b0 (by omega) (fun i hi => by rw [a 23 (by decide)]; exact hc i hi) (by rw [q _ (by decide) (by decide)]; exact z.2.2.2.2.2.2.2.1) (q.m g) (a.e he) (fun _ P oP => fY g q oP (by rw [zup_e, (ag_W a).1, (ag_W a).2.1, (ag_W a).2.2])) (fun y => absurd h1 y)
  · have a := (bq.rf M).ag g
    refine us_X12_explain (a.g z.2.2.1) (a.s z.2.1) (a.t z.2.2.2.1) b0 (by omega) (fun i hi => by rw [a 23 (by decide)]; exact hc i hi) z.2.2.2.2.2.2.2.1 g.2.2.2.2.1 (a.e he) (fun y1 => absurd y1 h1) (fun _ => fin_t g.tz (by decide) (fun n h => by cases h))
theorem RR.bt {B : Int} {M N : zM} (g : RR B M) (q : bq M N) : ∀ b : Nat, (b : Int) < N 181 4 → bqT (N 181) b ∧ 1 ≤ vm N 29 (vm N 30 b).toNat := fun b hb => by
  have a := q.ag g
  rw [q _ (by decide) (by decide)] at hb ⊢
  have e := g.e4
  have z := g.1
  have k := z.q.2.2.2.1 b (by omega)
  have w := z.2.2.2.2.1.2.2 b (by have := z.2.2.2.2.1.1; omega)
  rw [a 29 (by decide), a 30 (by decide)]
  exact ⟨k.2, z.q.2.2.1 _ (by omega)⟩
theorem step_most {B : Int} {M : zM} {n : Int} (g : RR B M) : sp_X11_most [zR 0, zI n] M (hp cdA (fun k N => sp_X12_most [zR 180, zI n] N (fin B k))) := by
  have z := g.1
  have he := z.2.2.2.2.2.2.1
  have hb := z.2.2.2.2.1
  refine us_X11_most z.2.1 hb z.2.2.2.1 (fun h1 N o => ?_) (fun h1 => ⟨1, rfl, ?_⟩)
  · have q := bq.o o (mostR M n.toNat (nh (M 19) 0))
    have a := q.ag g
    refine us_X12_most (a.s z.2.1) (a.b hb) (a.t z.2.2.2.1) (a.e he) (g.bt q) (fun _ P oP => fYl g q oP (by rw [zup_e, a 19 (by decide), ag_mostR a])) (fun y => absurd h1 y)
  · have a := (bq.rf M).ag g
    refine us_X12_most (a.s z.2.1) (a.b hb) (a.t z.2.2.2.1) (a.e he) (g.bt (bq.rf M)) (fun y1 => absurd y1 h1) (fun _ => fin_t g.tz (by decide) (fun n h => by cases h))
theorem step_serve {B : Int} {M : zM} {n b : Int} (g : RR B M) : sp_X11_serve [zR 0, zI n, zI b] M (hp cdB (fun k N => sp_X12_serve [zR 180, zI n, zI b] N (fin B k))) := by
  have z := g.1
  have e := g.e4
  have he := z.2.2.2.2.2.2.1
  have hb := z.2.2.2.2.1
  have a0 := (bq.rf M).ag g
  refine us_X11_serve z.2.1 hb z.2.2.2.1 (fun h1 h2 N o => ?_) (fun h1 => ⟨1, rfl, ?_⟩) (fun h1 h2 => ⟨2, rfl, ?_⟩)
  · have q := bq.o o (advN M (n - 1).toNat b.toNat)
    have a := q.ag g
    have t0 := q.t 4
    refine us_X12_serve (a.s z.2.1) (a.b hb) (a.t z.2.2.2.1) (a.e he) (g.bt q) (fun _ _ P oP => fY g q oP (by rw [zup_e, ag_advN a])) (fun y => absurd (by omega) y) (fun _ y => absurd h2 y)
  · refine us_X12_serve (a0.s z.2.1) (a0.b hb) (a0.t z.2.2.2.1) (a0.e he) (g.bt (bq.rf M)) (fun y1 => absurd y1 (by omega)) (fun _ => fin_t g.tz (by decide) (fun n h => by cases h)) (fun y1 => absurd y1 (by omega))
  · refine us_X12_serve (a0.s z.2.1) (a0.b hb) (a0.t z.2.2.2.1) (a0.e he) (g.bt (bq.rf M)) (fun _ y1 => absurd y1 h2) (fun y => absurd (by omega) y) (fun _ _ => fin_t g.tz (by decide) (fun n h => by cases h))
theorem step_rounds {B : Int} {M : zM} {h d : Int} (g : RR B M) : sp_X11_rounds [zR 0, zI h, zI d] M (hp cdA (fun k N => sp_X12_rounds [zR 180, zI h, zI d] N (fin B k))) := by
  have z := g.1
  have e := g.e5
  have hm := z.2.2.2.2.2.1
  refine us_X11_rounds hm (fun h1 h2 h3 N o => ?_) (fun h1 h2 h3 N o => ?_) (fun h1 h2 => ?_) (fun h1 => ⟨1, rfl, ?_⟩)
  · have q := bq.o o (lst M h.toNat (cdU M 4) : Nat)
    have a := q.ag g
    have t0 := q.t 5
    refine us_X12_rounds (a.m hm) (fun _ _ _ P oP => fZ g q oP (by rw [zup_e, ag_cdU a, ag_lst a])) (fun _ _ y => absurd y (by omega)) (fun _ y => absurd y (by omega)) (fun y => absurd h1 y)
  · have q := bq.o o (ff M (h.toNat - d.toNat - 1) (cdD M h.toNat d.toNat))
    have a := q.ag g
    have t0 := q.t 5
    refine us_X12_rounds (a.m hm) (fun _ _ y => absurd y (by omega)) (fun _ _ _ P oP => fZ g q oP (by rw [zup_e, ag_cdD a, ag_ff a])) (fun _ y => absurd y (by omega)) (fun y => absurd h1 y)
  · have q := bq.s M (-1)
    have a := q.ag g
    have t0 := q.t 5
    refine us_X12_rounds (a.m hm) (fun _ y1 y => absurd y (by omega)) (fun _ y1 y => absurd y (by omega)) (fun _ y => fz g q zup_e) (fun y => absurd h1 y)
  · refine us_X12_rounds (((bq.rf M).ag g).m hm) (fun y => absurd y h1) (fun y => absurd y h1) (fun y => absurd y h1) (fun _ => fin_t g.tz (by decide) (fun n h => by cases h))
end
