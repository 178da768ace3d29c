section
/-- M but for scratch and the law's own row -/
def bq (M N : zM) : Prop := ∀ k, (k < 47 ∨ 66 < k) → k ≠ 201 → N k = M k
theorem bq.o {M N : zM} (h : offX M N) (v : Int) : bq M (zup N 201 0 v) := fun k hk ho => by rw [zup_o k ho]; exact h k hk
theorem bq.s (M : zM) (v : Int) : bq M (zup M 201 0 v) := fun k _ ho => zup_o k ho
theorem bq.rf (M : zM) : bq M M := fun _ _ _ => rfl
theorem bq.ag {B : Int} {M N : zM} (h : bq M N) (g : RR B M) : AG M (vm N) := g.ag (fun k hk => h k (by omega) (by omega)) (h _ (by decide) (by decide))
theorem bq.t {M N : zM} (h : bq M N) (j : Nat) : N 181 j = M 181 j := by rw [h _ (by decide) (by decide)]
theorem bq.m {B : Int} {M N : zM} (h : bq M N) (g : RR B M) : N 180 16 = -1 := by rw [h _ (by decide) (by decide)]; exact g.2.2.2.2.1
theorem bq.qz {B : Int} {M N : zM} (h : bq M N) (g : RR B M) : quiet M (tz N 0) := ⟨fun k hk => by dsimp only [tz]; rw [zup_o k (by omega)]; exact h k (by omega) (by omega), by dsimp only [tz]; rw [zup_j (by decide), h _ (by decide) (by decide)], by dsimp only [tz]; rw [zup_j (by decide), h _ (by decide) (by decide)], by dsimp only [tz]; rw [zup_j (by decide), h _ (by decide) (by decide)], by dsimp only [tz]; rw [zup_j (by decide)]; exact h.m g⟩
theorem bq.qT {B : Int} {M N P : zM} (h : bq M N) (g : RR B M) (o : offT (tz N 0) P) : quiet M P := by
  obtain ⟨q1, q2, q3, q4, q5⟩ := h.qz g
  exact ⟨fun k hk => (o.1 k (by omega) (by omega) (by omega)).trans (q1 k hk), (o.2.1 _ (by decide) (by decide) (by decide)).trans q2, (o.2.1 _ (by decide) (by decide) (by decide)).trans q3, (o.2.1 _ (by decide) (by decide) (by decide)).trans q4, o.2.2⟩
theorem bq.qY {B : Int} {M N P : zM} (h : bq M N) (g : RR B M) (o : offY (tz N 0) P) : quiet M P := by
  obtain ⟨q1, q2, q3, q4, q5⟩ := h.qz g
  have o180 := o 180 (by decide)
  exact ⟨fun k hk => (o k (by omega)).trans (q1 k hk), by rw [o180]; exact q2, by rw [o180]; exact q3, by rw [o180]; exact q4, by rw [o180]; exact q5⟩
theorem bq.qZ {B : Int} {M N P : zM} (h : bq M N) (g : RR B M) (o : offZ (tz N 0) P) : quiet M P := by
  obtain ⟨q1, q2, q3, q4, q5⟩ := h.qz g
  exact ⟨fun k hk => (o.1 k (by omega) (by omega)).trans (q1 k hk), (o.2 _ (by decide)).trans q2, (o.2 _ (by decide)).trans q3, (o.2 _ (by decide)).trans q4, (o.2 _ (by decide)).trans q5⟩
theorem fz {B : Int} {M N : zM} {v : Int} (g : RR B M) (h : bq M N) (hv : N 201 0 = v) : fin B 0 (some (zI v)) (tz N 0) := fin_q g (h.qz g) rfl (by rw [← hv]; rfl)
theorem fzl {B : Int} {M N : zM} {v : Int} (g : RR B M) (h : bq M N) (hv : N 201 0 = v) : fin B 0 (some (zL v)) (tz N 0) := fin_ql g (h.qz g) rfl (by rw [← hv]; rfl)
theorem fTl {B : Int} {M N P : zM} {v : Int} (g : RR B M) (h : bq M N) (o : offT (tz N 0) P) (hv : N 201 0 = v) : fin B 0 (some (zL v)) P := fin_ql g (h.qT g o) (by rw [o.2.1 _ (by decide) (by decide) (by decide)]; rfl) (by rw [o.1 _ (by decide) (by decide) (by decide), ← hv]; rfl)
theorem fY {B : Int} {M N P : zM} {v : Int} (g : RR B M) (h : bq M N) (o : offY (tz N 0) P) (hv : N 201 0 = v) : fin B 0 (some (zI v)) P := fin_q g (h.qY g o) (by rw [o _ (by decide)]; rfl) (by rw [o _ (by decide), ← hv]; rfl)
theorem fYl {B : Int} {M N P : zM} {v : Int} (g : RR B M) (h : bq M N) (o : offY (tz N 0) P) (hv : N 201 0 = v) : fin B 0 (some (zL v)) P := fin_ql g (h.qY g o) (by rw [o _ (by decide)]; rfl) (by rw [o _ (by decide), ← hv]; rfl)
theorem fZ {B : Int} {M N P : zM} {v : Int} (g : RR B M) (h : bq M N) (o : offZ (tz N 0) P) (hv : N 201 0 = v) : fin B 0 (some (zI v)) P := fin_q g (h.qZ g o) (by rw [o.2 _ (by decide)]; rfl) (by rw [o.1 _ (by decide) (by decide), ← hv]; rfl)
theorem b01_c {p q : Prop} [Decidable p] [Decidable q] (h : p ↔ q) : b01 p = b01 q := by
  by_cases c : p
  · rw [b01_t c, b01_t (h.mp c)]
  · rw [b01_f c, b01_f (fun z => c (h.mpr z))]
theorem RR.e0 {B : Int} {M : zM} (g : RR B M) : M 2 0 = M 181 0 := g.1.1.1.2.2.2.1
theorem RR.e1 {B : Int} {M : zM} (g : RR B M) : M 11 0 = M 181 1 := g.1.1.1.2.2.2.2.1
theorem RR.e2 {B : Int} {M : zM} (g : RR B M) : M 1 3 = M 181 2 := g.1.1.1.1
theorem RR.e4 {B : Int} {M : zM} (g : RR B M) : M 1 5 = M 181 4 := g.1.1.1.2.1
theorem RR.e5 {B : Int} {M : zM} (g : RR B M) : M 1 10 = M 181 5 := g.1.1.1.2.2.1
theorem step_good {B : Int} {M : zM} {s : Int} (g : RR B M) : sp_X11_good [zR 0, zI s] M (hp cdN (fun k N => sp_X12_good [zR 180, zI s] N (fin B k))) := by
  have e := g.e0
  have m8 := g.1.2.1.1
  refine us_X11_good g.1.2.1 (fun h1 => ?_) (fun h1 => ⟨1, rfl, ?_⟩)
  · have b := bq.s M (b01 (isGood M s))
    have t0 := b.t 0
    refine us_X12_good (by omega) (fun _ => fz g b ?_) (fun y => absurd (by omega) y)
    rw [zup_e]
    exact (b01_c ((b.ag g).good s)).symm
  · refine us_X12_good (by omega) (fun y => absurd y (by omega)) (fun _ => fin_t g (by decide) (fun n h => by cases h))
theorem step_gate {B : Int} {M : zM} {s w : Int} (g : RR B M) : sp_X11_gate [zR 0, zI s, zI w] M (hp cdB (fun k N => sp_X12_gate [zR 180, zI s, zI w] N (fin B k))) := by
  have e := g.e1
  have m8 := g.1.2.2.1.1
  refine us_X11_gate m8 (fun h1 h2 => ?_) (fun h1 => ⟨1, rfl, ?_⟩) (fun h1 h2 => ⟨2, rfl, ?_⟩)
  · obtain ⟨n, rfl⟩ : ∃ n : Nat, s = n := ⟨s.toNat, by omega⟩
    have b := bq.s M (if w = 0 then M 12 (n : Int).toNat else if w = 1 then M 13 (n : Int).toNat else M 14 (n : Int).toNat)
    have t0 := b.t 1
    refine us_X12_gate (by omega) (fun _ _ => fz g b ?_) (fun y => absurd (by omega) y) (fun _ y => absurd h2 y)
    rw [zup_e, b.t, Int.toNat_natCast]
    have a := g.1.1.2.2.2.2.1 n (by omega)
    have hw : w = 0 ∨ w = 1 ∨ w = 2 := by omega
    rcases hw with rfl | rfl | rfl
    · rw [if_pos rfl, a.1]; congr 1 <;> omega
    · rw [if_neg (by decide), if_pos rfl, a.2.1]; congr 1 <;> omega
    · rw [if_neg (by decide), if_neg (by decide), a.2.2.1]; congr 1 <;> omega
  · refine us_X12_gate (by omega) (fun y => absurd y (by omega)) (fun _ => fin_t g.tz (by decide) (fun n h => by cases h)) (fun y => absurd y (by omega))
  · refine us_X12_gate (by omega) (fun _ y => absurd y h2) (fun y => absurd (by omega) y) (fun _ _ => fin_t g.tz (by decide) (fun n h => by cases h))
theorem step_taken {B : Int} {M : zM} {w b r : Int} (g : RR B M) : sp_X11_taken [zR 0, zI w, zI b, zI r] M (hp cdA (fun k N => sp_X12_taken [zR 180, zI w, zI b, zI r] N (fin B k))) := by
  have z := g.1
  refine us_X11_taken z.2.2.1 z.2.1 (fun h1 h2 h3 => ?_) (fun h1 => ⟨1, rfl, ?_⟩)
  · have q := bq.s M (takes M w b r)
    have a := q.ag g
    refine us_X12_taken (a.g z.2.2.1) (a.s z.2.1) (by rw [q _ (by decide) (by decide)]; exact z.2.2.2.2.2.2.2.1) (q.m g) (fun _ _ _ => fz g q (by rw [zup_e, ag_takes a])) (fun y => absurd ⟨h1, h2, h3⟩ y)
  · have a := (bq.rf M).ag g
    refine us_X12_taken (a.g z.2.2.1) (a.s z.2.1) z.2.2.2.2.2.2.2.1 g.2.2.2.2.1 (fun y1 y2 y3 => absurd ⟨y1, y2, y3⟩ h1) (fun _ => fin_t g.tz (by decide) (fun n h => by cases h))
theorem step_coins {B : Int} {M : zM} {s : Int} (g : RR B M) : sp_X11_coins [zR 0, zI s] M (hp cdN (fun k N => sp_X12_coins [zR 180, zI s] N (fin B k))) := by
  have e := g.e0
  have z := g.1
  refine us_X11_coins z.2.1 (fun h1 => ?_) (fun h1 => ⟨1, rfl, ?_⟩)
  · have q := bq.s M (size3 M s)
    have a := q.ag g
    have t0 := q.t 0
    refine us_X12_coins (a.s z.2.1) (fun _ => fzl g q (by rw [zup_e, ag_size3 a])) (fun y => absurd (by omega) y)
  · have a := (bq.rf M).ag g
    refine us_X12_coins (a.s z.2.1) (fun y => absurd y (by omega)) (fun _ => fin_t g.tz (by decide) (fun n h => by cases h))
theorem step_passes {B : Int} {M : zM} {s w : Int} (g : RR B M) : sp_X11_passes [zR 0, zI s, zI w] M (hp cdN (fun k N => sp_X12_passes [zR 180, zI s, zI w] N (fin B k))) := by
  have e := g.e0
  have z := g.1
  refine us_X11_passes z.2.2.1 z.2.1 (fun h1 h2 N o => ?_) (fun h1 => ⟨1, rfl, ?_⟩)
  · have q := bq.o o (cnt3 M s (w + 1).toNat)
    have a := q.ag g
    have t0 := q.t 0
    refine us_X12_passes (a.s z.2.1) (a.g z.2.2.1) (by rw [q _ (by decide) (by decide)]; exact z.2.2.2.2.2.2.2.1) (q.m g) (fun _ _ P oP => fTl g q oP (by rw [zup_e, ag_cnt3 a])) (fun y => absurd ⟨by omega, by omega⟩ y)
  · have a := (bq.rf M).ag g
    refine us_X12_passes (a.s z.2.1) (a.g z.2.2.1) z.2.2.2.2.2.2.2.1 g.2.2.2.2.1 (fun y1 y2 => absurd ⟨by omega, by omega⟩ h1) (fun _ => fin_t g.tz (by decide) (fun n h => by cases h))
theorem step_wrong {B : Int} {M : zM} {s : Int} (g : RR B M) : sp_X11_wrong [zR 0, zI s] M (hp cdN (fun k N => sp_X12_wrong [zR 180, zI s] N (fin B k))) := by
  have e := g.e0
  have z := g.1
  refine us_X11_wrong z.2.2.1 z.2.1 (fun h1 N o => ?_) (fun h1 => ⟨1, rfl, ?_⟩)
  · have q := bq.o o (wrong M s)
    have a := q.ag g
    have t0 := q.t 0
    refine us_X12_wrong (a.s z.2.1) (a.g z.2.2.1) (by rw [q _ (by decide) (by decide)]; exact z.2.2.2.2.2.2.2.1) (q.m g) (fun _ P oP => fTl g q oP (by rw [zup_e, ag_wrong a])) (fun y => absurd (by omega) y)
  · have a := (bq.rf M).ag g
    refine us_X12_wrong (a.s z.2.1) (a.g z.2.2.1) z.2.2.2.2.2.2.2.1 g.2.2.2.2.1 (fun y1 => absurd y1 (by omega)) (fun _ => fin_t g.tz (by decide) (fun n h => by cases h))
theorem step_loss {B : Int} {M : zM} {i d e : Int} (g : RR B M) : sp_X11_loss [zR 0, zI i, zI d, zI e] M (hp cdB (fun k N => sp_X12_loss [zR 180, zI i, zI d, zI e] N (fin B k))) := by
  have e1 := g.e1
  have z := g.1
  have a0 := (bq.rf M).ag g
  refine us_X11_loss z.2.2.1 z.2.1 (fun h1 h2 h3 N o => ?_) (fun h1 => ⟨1, rfl, ?_⟩) (fun h1 h2 => ⟨2, rfl, ?_⟩)
  · have q := bq.o o (lossM M i.toNat d e)
    have a := q.ag g
    have t0 := q.t 1
    refine us_X12_loss (a.s z.2.1) (a.g z.2.2.1) (by rw [q _ (by decide) (by decide)]; exact z.2.2.2.2.2.2.2.1) (fun _ _ _ P oP => fTl g q oP (by rw [zup_e, ag_lossM a])) (fun y => absurd (by omega) y) (fun _ y => absurd ⟨h2, h3⟩ y)
  · refine us_X12_loss (a0.s z.2.1) (a0.g z.2.2.1) z.2.2.2.2.2.2.2.1 (fun y1 => absurd y1 (by omega)) (fun _ => fin_t g (by decide) (fun n h => by cases h)) (fun y1 => absurd y1 (by omega))
  · refine us_X12_loss (a0.s z.2.1) (a0.g z.2.2.1) z.2.2.2.2.2.2.2.1 (fun _ y1 y2 => absurd ⟨y1, y2⟩ h2) (fun y => absurd (by omega) y) (fun _ _ => fin_t g (by decide) (fun n h => by cases h))
theorem step_best {B : Int} {M : zM} {i w : Int} (g : RR B M) : sp_X11_best [zR 0, zI i, zI w] M (hp cdB (fun k N => sp_X12_best [zR 180, zI i, zI w] N (fin B k))) := by
  have e1 := g.e1
  have z := g.1
  have a0 := (bq.rf M).ag g
  refine us_X11_best z.2.2.1 z.2.1 (fun h1 h2 N o => ?_) (fun h1 => ⟨1, rfl, ?_⟩) (fun h1 h2 => ⟨2, rfl, ?_⟩)
  · have q := bq.o o (if w = 0 then (bst (lossM M i.toNat) 81).1 else if w = 1 then (bst (lossM M i.toNat) 81).2.1 else (bst (lossM M i.toNat) 81).2.2)
    have a := q.ag g
    have t0 := q.t 1
    have el : lossM (vm (zup N 201 0 (if w = 0 then (bst (lossM M i.toNat) 81).1 else if w = 1 then (bst (lossM M i.toNat) 81).2.1 else (bst (lossM M i.toNat) 81).2.2))) i.toNat = lossM M i.toNat := by
      funext d e
      exact ag_lossM a i.toNat d e
    refine us_X12_best (a.s z.2.1) (a.g z.2.2.1) (by rw [q _ (by decide) (by decide)]; exact z.2.2.2.2.2.2.2.1) (q.m g) (fun _ _ P oP => fTl g q oP (by rw [zup_e, el])) (fun y => absurd (by omega) y) (fun _ y => absurd h2 y)
  · refine us_X12_best (a0.s z.2.1) (a0.g z.2.2.1) z.2.2.2.2.2.2.2.1 g.2.2.2.2.1 (fun y1 => absurd y1 (by omega)) (fun _ => fin_t g (by decide) (fun n h => by cases h)) (fun y1 => absurd y1 (by omega))
  · refine us_X12_best (a0.s z.2.1) (a0.g z.2.2.1) z.2.2.2.2.2.2.2.1 g.2.2.2.2.1 (fun _ y1 => absurd y1 h2) (fun y => absurd (by omega) y) (fun _ _ => fin_t g (by decide) (fun n h => by cases h))
end
