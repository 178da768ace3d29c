section
theorem ag_bm {M N : zM} (h : AG M N) (m v : Int) : bm N m v = bm M m v := by
  unfold bm
  have e : pmG N m v = pmG M m v := by
    funext g
    unfold pmG
    rw [ag_low h, ag_high h, h 12 (by decide)]
  rw [e, h 11 (by decide)]
theorem ag_lowOf {M N : zM} (h : AG M N) (k m : Int) : lowOf N k m = lowOf M k m := by
  unfold lowOf worn
  rw [h 7 (by decide), h 9 (by decide), h 3 (by decide)]
theorem ag_highOf {M N : zM} (h : AG M N) (k m : Int) : highOf N k m = highOf M k m := by
  unfold highOf worn
  rw [h 8 (by decide), h 9 (by decide), h 3 (by decide)]
/-- the stretches of a measure of a sort, as they are held -/
def blk (M N : zM) (s : Int) (m c : Nat) : Prop := N 50 m = c ∧ c ≤ 17 ∧ (∀ i, i < c → 0 ≤ N 51 (m * 17 + i) ∧ N 51 (m * 17 + i) < ((2 ^ (M 11 0).toNat : Nat) : Int) ∧ 1 ≤ N 52 (m * 17 + i) ∧ N 52 (m * 17 + i) ≤ 100) ∧ (∀ F : Nat → Int, sumU (fun i => N 52 (m * 17 + i) * F (N 51 (m * 17 + i)).toNat) c = sumU (fun t => F (bm M m (lowOf M s m + t))) (highOf M s m + 1 - lowOf M s m).toNat)
def offS (M N : zM) : Prop := ∀ k, k ≠ 48 → k ≠ 50 → k ≠ 51 → k ≠ 52 → N k = M k
theorem offS.ag {M N : zM} (h : offS M N) : AG M N := fun k hk => h k (by omega) (by omega) (by omega) (by omega)
def tlI (M N : zM) (s : Int) (m : Nat) : Prop := offS M N ∧ (∀ o, o < 9 → N 48 o = 0) ∧ ∀ m', m' < m → ∃ c, blk M N s m' c
theorem tlI_step {M N N2 : zM} {s : Int} {m c : Nat} (h : tlI M N s m) (hm : m < 3) (hc : c ≤ 17) (hI : stI N N2 m (lowOf M s m) (highOf M s m) (highOf M s m + 1) c) : tlI M (zup N2 50 m c) s (m + 1) := by
  obtain ⟨a, b, d⟩ := h
  obtain ⟨i1, i2, i3, i4⟩ := hI
  refine ⟨fun k h1 h2 h3 h4 => by rw [zup_o k h2, i1 k h3 h4]; exact a k h1 h2 h3 h4, fun o ho => by rw [zup_k (by decide), i1 _ (by decide) (by decide)]; exact b o ho, fun m' hm' => ?_⟩
  have e0 := a.ag 11 (by decide)
  by_cases e : m' = m
  · subst e
    refine ⟨c, zup_e, hc, fun i hi => ?_, fun F => ?_⟩
    · rw [zup_k (by decide), zup_k (by decide)]
      have := i3 i hi
      rw [e0] at this
      exact this
    · have q := i4 F
      have e1 : ∀ v, bm N m' v = bm M m' v := ag_bm a.ag m'
      simp only [e1] at q
      rw [← q]
      refine sumU_cong c (fun i hi => ?_)
      rw [zup_k (by decide), zup_k (by decide)]
  · obtain ⟨c', q1, q2, q3, q4⟩ := d m' (by omega)
    have e1 : ∀ i, i < 17 → N2 51 (m' * 17 + i) = N 51 (m' * 17 + i) ∧ N2 52 (m' * 17 + i) = N 52 (m' * 17 + i) := fun i hi => i2 (m' * 17 + i) (by omega)
    refine ⟨c', ?_, q2, fun i hi => ?_, fun F => ?_⟩
    · rw [zup_j e, i1 _ (by decide) (by decide)]; exact q1
    · rw [zup_k (by decide), zup_k (by decide), (e1 i (by omega)).1, (e1 i (by omega)).2]
      exact q3 i hi
    · rw [← q4 F]
      refine sumU_cong c' (fun i hi => ?_)
      rw [zup_k (by decide), zup_k (by decide), (e1 i (by omega)).1, (e1 i (by omega)).2]
/-- of the coins of a sort, how many come to outcome o - 1, by their bits -/
def dlt (M : zM) (o n : Nat) : Int := if (gl M n + 1).toNat = o then 1 else 0
def cnt3 (M : zM) (s : Int) (o : Nat) : Int := sumU (fun a => sumU (fun b => sumU (fun c => dlt M o (bm M 0 (lowOf M s 0 + a) ||| bm M 1 (lowOf M s 1 + b) ||| bm M 2 (lowOf M s 2 + c))) (highOf M s 2 + 1 - lowOf M s 2).toNat) (highOf M s 1 + 1 - lowOf M s 1).toNat) (highOf M s 0 + 1 - lowOf M s 0).toNat
/-- what is added for a set of bits of weight and width -/
def gS (N : zM) (c2 o n : Nat) : Int := sumU (fun r => N 52 (34 + r) * (if adI N n r = o then 1 else 0)) c2
def bN (N : zM) (i : Nat) : Nat := (N 51 i).toNat
def rowJ (N : zM) (c2 o i : Nat) (j : Nat) : Int := sumU (fun j => N 52 (17 + j) * gS N c2 o (bN N i ||| bN N (17 + j))) j
def rowI (N : zM) (c1 c2 o : Nat) (i : Nat) : Int := sumU (fun i => N 52 i * rowJ N c2 o i c1) i
theorem tell_sum {M N : zM} {s : Int} {c0 c1 c2 : Nat} (h0 : blk M N s 0 c0) (h1 : blk M N s 1 c1) (h2 : blk M N s 2 c2) (hl : ∀ n, n < 2 ^ (M 11 0).toNat → N 49 n = gl M n) (o : Nat) : rowI N c1 c2 o c0 = cnt3 M s o := by
  have step2 : ∀ n, n < 2 ^ (M 11 0).toNat → gS N c2 o n = sumU (fun c => dlt M o (n ||| bm M 2 (lowOf M s 2 + c))) (highOf M s 2 + 1 - lowOf M s 2).toNat := by
    intro n hn
    refine Eq.trans ?_ (h2.2.2.2 (fun x => dlt M o (n ||| x)))
    unfold gS
    refine sumU_cong c2 (fun r hr => ?_)
    have q := h2.2.2.1 r hr
    rw [show 2 * 17 + r = 34 + r by omega] at q
    have hb : (N 51 (34 + r)).toNat < 2 ^ (M 11 0).toNat := by omega
    have e : N 49 (n ||| (N 51 (34 + r)).toNat) = gl M (n ||| (N 51 (34 + r)).toNat) := hl _ (Nat.or_lt_two_pow hn hb)
    show N 52 (34 + r) * (if adI N n r = o then 1 else 0) = N 52 (34 + r) * dlt M o (n ||| (N 51 (34 + r)).toNat)
    unfold adI dlt
    rw [e]
  have step1 : ∀ n, n < 2 ^ (M 11 0).toNat → sumU (fun j => N 52 (17 + j) * gS N c2 o (n ||| bN N (17 + j))) c1 = sumU (fun b => sumU (fun c => dlt M o (n ||| bm M 1 (lowOf M s 1 + b) ||| bm M 2 (lowOf M s 2 + c))) (highOf M s 2 + 1 - lowOf M s 2).toNat) (highOf M s 1 + 1 - lowOf M s 1).toNat := by
    intro n hn
    refine Eq.trans ?_ (h1.2.2.2 (fun x => sumU (fun c => dlt M o (n ||| x ||| bm M 2 (lowOf M s 2 + c))) (highOf M s 2 + 1 - lowOf M s 2).toNat))
    refine sumU_cong c1 (fun j hj => ?_)
    have q := h1.2.2.1 j hj
    rw [show 1 * 17 + j = 17 + j by omega] at q
    have hb : (N 51 (17 + j)).toNat < 2 ^ (M 11 0).toNat := by omega
    show N 52 (17 + j) * gS N c2 o (n ||| (N 51 (17 + j)).toNat) = N 52 (17 + j) * sumU (fun c => dlt M o (n ||| (N 51 (17 + j)).toNat ||| bm M 2 (lowOf M s 2 + c))) (highOf M s 2 + 1 - lowOf M s 2).toNat
    rw [step2 _ (Nat.or_lt_two_pow hn hb)]
  unfold cnt3
  refine Eq.trans ?_ (h0.2.2.2 (fun x => sumU (fun b => sumU (fun c => dlt M o (x ||| bm M 1 (lowOf M s 1 + b) ||| bm M 2 (lowOf M s 2 + c))) (highOf M s 2 + 1 - lowOf M s 2).toNat) (highOf M s 1 + 1 - lowOf M s 1).toNat))
  unfold rowI
  refine sumU_cong c0 (fun i hi => ?_)
  have q := h0.2.2.1 i hi
  have e : (0 * 17 + i) = i := by omega
  rw [e] at q ⊢
  have hb : (N 51 i).toNat < 2 ^ (M 11 0).toNat := by omega
  show N 52 i * rowJ N c2 o i c1 = _
  unfold rowJ
  rw [show bN N i = (N 51 i).toNat from rfl, step1 _ hb]
end
