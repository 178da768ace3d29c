section
/-- the fewest of the sorts from 8 - j on, as the reference lays them -/
def mnF (f : Nat → Nat) (w s : Nat) : Nat → Nat
  | 0 => f s
  | n + 1 => min (mnF f w s n) (n + 1 + f (s - (n + 1) * w))
def nmx (c w s : Nat) : Nat := if w = 0 then 0 else min c (s / w)
def fwD (c v : Nat → Nat) : Nat → Nat → Nat
  | 0, s => if s = 0 then 0 else 1000000
  | j + 1, s => mnF (fwD c v j) (v (7 - j)) s (nmx (c (7 - j)) (v (7 - j)) s)
theorem mnF_le {f : Nat → Nat} {w s : Nat} : ∀ N n, n ≤ N → mnF f w s N ≤ n + f (s - n * w)
  | 0, n, h => by
    obtain rfl : n = 0 := by omega
    simp [mnF]
  | N + 1, n, h => by
    simp only [mnF]
    by_cases e : n = N + 1
    · subst e; omega
    · have := mnF_le (f := f) (w := w) (s := s) N n (by omega)
      omega
theorem mnF_at {f : Nat → Nat} {w s : Nat} : ∀ N, ∃ n, n ≤ N ∧ mnF f w s N = n + f (s - n * w)
  | 0 => ⟨0, Nat.le_refl _, by simp [mnF]⟩
  | N + 1 => by
    obtain ⟨n, h1, h2⟩ := mnF_at (f := f) (w := w) (s := s) N
    simp only [mnF]
    by_cases c : mnF f w s N ≤ N + 1 + f (s - (N + 1) * w)
    · exact ⟨n, by omega, by rw [Nat.min_eq_left c]; exact h2⟩
    · exact ⟨N + 1, Nat.le_refl _, by rw [Nat.min_eq_right (by omega)]⟩
theorem fwD_r (c v : Nat → Nat) : ∀ j s, fwD c v j s ≤ 1000000
  | 0, s => by simp only [fwD]; split <;> omega
  | j + 1, s => by
    have a := mnF_le (f := fwD c v j) (w := v (7 - j)) (s := s) (nmx (c (7 - j)) (v (7 - j)) s) 0 (by omega)
    have b := fwD_r c v j s
    simp only [fwD]
    simp only [Nat.zero_mul, Nat.sub_zero] at a
    omega
/-- the largest number with which the fewest are met -/
def grd (f : Nat → Nat) (w s t : Nat) : Nat → Nat
  | 0 => 0
  | n + 1 => if n + 1 + f (s - (n + 1) * w) = t then n + 1 else grd f w s t n
theorem grd_le {f : Nat → Nat} {w s t : Nat} : ∀ N, grd f w s t N ≤ N
  | 0 => Nat.le_refl _
  | N + 1 => by
    have := grd_le (f := f) (w := w) (s := s) (t := t) N
    simp only [grd]
    split <;> omega
theorem grd_at {f : Nat → Nat} {w s t : Nat} : ∀ N, (∃ n, n ≤ N ∧ n + f (s - n * w) = t) → grd f w s t N + f (s - grd f w s t N * w) = t
  | 0, ⟨n, h1, h2⟩ => by
    obtain rfl : n = 0 := by omega
    exact h2
  | N + 1, ⟨n, h1, h2⟩ => by
    simp only [grd]
    by_cases c : N + 1 + f (s - (N + 1) * w) = t
    · rw [if_pos c]; exact c
    · rw [if_neg c]
      by_cases e : n = N + 1
      · subst e; exact absurd h2 c
      · exact grd_at N ⟨n, by omega, h2⟩
theorem grd_max {f : Nat → Nat} {w s t : Nat} : ∀ N n, n ≤ N → n + f (s - n * w) = t → n ≤ grd f w s t N
  | 0, n, h1, _ => by omega
  | N + 1, n, h1, h2 => by
    simp only [grd]
    by_cases c : N + 1 + f (s - (N + 1) * w) = t
    · rw [if_pos c]; exact h1
    · rw [if_neg c]
      by_cases e : n = N + 1
      · subst e; exact absurd h2 c
      · exact grd_max N n (by omega) h2
def gN (c v : Nat → Nat) (j s : Nat) : Nat := grd (fwD c v j) (v (7 - j)) s (fwD c v (j + 1) s) (nmx (c (7 - j)) (v (7 - j)) s)
def gv (c v : Nat → Nat) : Nat → Nat → Nat → Nat
  | 0, _, _ => 0
  | j + 1, s, k => if k = 7 - j then gN c v j s else gv c v j (s - gN c v j s * v (7 - j)) k
def cntJ (x : Nat → Nat) : Nat → Nat
  | 0 => 0
  | j + 1 => cntJ x j + x (7 - j)
def sumJ (x v : Nat → Nat) : Nat → Nat
  | 0 => 0
  | j + 1 => sumJ x v j + x (7 - j) * v (7 - j)
def lexJ (x : Nat → Nat) : Nat → Nat
  | 0 => 0
  | j + 1 => lexJ x j + x (7 - j) * 32 ^ j
theorem lexJ_lt {x : Nat → Nat} (h : ∀ i, i < 8 → x i ≤ 20) : ∀ j, j ≤ 8 → lexJ x j < 32 ^ j
  | 0, _ => by simp [lexJ]
  | j + 1, hj => by
    have a := lexJ_lt h j (by omega)
    have b : x (7 - j) * 32 ^ j ≤ 20 * 32 ^ j := Nat.mul_le_mul_right _ (h _ (by omega))
    simp only [lexJ]
    rw [Nat.pow_succ]
    omega
theorem cJ {x y : Nat → Nat} (v : Nat → Nat) : ∀ j, j ≤ 8 → (∀ i, i < j → x (7 - i) = y (7 - i)) → cntJ x j = cntJ y j ∧ sumJ x v j = sumJ y v j ∧ lexJ x j = lexJ y j
  | 0, _, _ => ⟨rfl, rfl, rfl⟩
  | j + 1, hj, h => by
    obtain ⟨a, b, c⟩ := cJ v j (by omega) (fun i hi => h i (by omega))
    simp only [cntJ, sumJ, lexJ]
    rw [a, b, c, h j (by omega)]
    exact ⟨rfl, rfl, rfl⟩
theorem nmx_ok {c v y : Nat → Nat} {j s : Nat} (hz : ∀ i, i < 8 → v i = 0 → c i = 0) (hy : ∀ i, i < 8 → y i ≤ c i) (hs : sumJ y v (j + 1) = s) : y (7 - j) ≤ nmx (c (7 - j)) (v (7 - j)) s := by
  have a := hy (7 - j) (by omega)
  unfold nmx
  by_cases w : v (7 - j) = 0
  · rw [if_pos w]
    have := hz (7 - j) (by omega) w
    omega
  · rw [if_neg w]
    have : y (7 - j) ≤ s / v (7 - j) := by
      rw [Nat.le_div_iff_mul_le (by omega)]
      simp only [sumJ] at hs
      omega
    omega
theorem fw_low {c v y : Nat → Nat} (hz : ∀ i, i < 8 → v i = 0 → c i = 0) (hy : ∀ i, i < 8 → y i ≤ c i) : ∀ j, j ≤ 8 → fwD c v j (sumJ y v j) ≤ cntJ y j
  | 0, _ => by simp [fwD, sumJ, cntJ]
  | j + 1, hj => by
    have a := fw_low hz hy j (by omega)
    have b := mnF_le (f := fwD c v j) (w := v (7 - j)) (s := sumJ y v (j + 1)) _ _ (nmx_ok (j := j) hz hy rfl)
    have e : sumJ y v (j + 1) - y (7 - j) * v (7 - j) = sumJ y v j := by simp only [sumJ]; omega
    rw [e] at b
    simp only [fwD, cntJ]
    omega
theorem gN_ok (c v : Nat → Nat) (j s : Nat) : gN c v j s ≤ nmx (c (7 - j)) (v (7 - j)) s ∧ gN c v j s + fwD c v j (s - gN c v j s * v (7 - j)) = fwD c v (j + 1) s := by
  refine ⟨grd_le _, grd_at _ ?_⟩
  obtain ⟨n, h1, h2⟩ := mnF_at (f := fwD c v j) (w := v (7 - j)) (s := s) (nmx (c (7 - j)) (v (7 - j)) s)
  exact ⟨n, h1, h2.symm⟩
theorem nmx_r (c w s : Nat) : nmx c w s ≤ c ∧ nmx c w s * w ≤ s := by
  unfold nmx
  split
  · omega
  · refine ⟨by omega, ?_⟩
    have : min c (s / w) * w ≤ s / w * w := Nat.mul_le_mul_right _ (by omega)
    have := Nat.div_mul_le_self s w
    omega
theorem gv_ok {c v : Nat → Nat} : ∀ j s, j ≤ 8 → fwD c v j s < 1000000 → sumJ (gv c v j s) v j = s ∧ cntJ (gv c v j s) j = fwD c v j s
  | 0, s, _, h => by
    simp only [fwD] at h ⊢
    split at h
    · rename_i e; simp [sumJ, cntJ, e]
    · omega
  | j + 1, s, hj, h => by
    obtain ⟨g1, g2⟩ := gN_ok c v j s
    have r := nmx_r (c (7 - j)) (v (7 - j)) s
    have gm : gN c v j s * v (7 - j) ≤ s := Nat.le_trans (Nat.mul_le_mul_right _ g1) r.2
    obtain ⟨a, b⟩ := gv_ok (c := c) (v := v) j (s - gN c v j s * v (7 - j)) (by omega) (by omega)
    have e0 : gv c v (j + 1) s (7 - j) = gN c v j s := if_pos rfl
    obtain ⟨q1, q2, q3⟩ := cJ (x := gv c v (j + 1) s) (y := gv c v j (s - gN c v j s * v (7 - j))) v j (by omega) (fun i hi => by simp only [gv]; rw [if_neg (by omega)])
    simp only [sumJ, cntJ]
    rw [e0, q1, q2, a, b]
    omega
theorem gv_c {c v : Nat → Nat} : ∀ j s k, gv c v j s k ≤ c k
  | 0, s, k => by simp [gv]
  | j + 1, s, k => by
    simp only [gv]
    split
    · rename_i e
      rw [e]
      exact Nat.le_trans (gN_ok c v j s).1 (nmx_r _ _ _).1
    · exact gv_c j _ k
theorem gv_lex {c v y : Nat → Nat} (hz : ∀ i, i < 8 → v i = 0 → c i = 0) (hc : ∀ i, i < 8 → c i ≤ 20) (hy : ∀ i, i < 8 → y i ≤ c i) : ∀ j s, j ≤ 8 → sumJ y v j = s → cntJ y j = fwD c v j s → lexJ y j ≤ lexJ (gv c v j s) j
  | 0, _, _, _, _ => Nat.le_refl _
  | j + 1, s, hj, hs, hcnt => by
    have ny := nmx_ok hz hy hs
    have es : sumJ y v j = s - y (7 - j) * v (7 - j) := by simp only [sumJ] at hs; omega
    have lo := fw_low hz hy j (by omega)
    have b := mnF_le (f := fwD c v j) (w := v (7 - j)) (s := s) _ _ ny
    have ef : fwD c v (j + 1) s = mnF (fwD c v j) (v (7 - j)) s (nmx (c (7 - j)) (v (7 - j)) s) := rfl
    simp only [cntJ] at hcnt
    rw [es] at lo
    have eq : y (7 - j) + fwD c v j (s - y (7 - j) * v (7 - j)) = fwD c v (j + 1) s := by omega
    have mx : y (7 - j) ≤ gN c v j s := grd_max _ _ ny eq
    have e0 : gv c v (j + 1) s (7 - j) = gN c v j s := if_pos rfl
    obtain ⟨q1, q2, q3⟩ := cJ (x := gv c v (j + 1) s) (y := gv c v j (s - gN c v j s * v (7 - j))) v j (by omega) (fun i hi => by simp only [gv]; rw [if_neg (by omega)])
    simp only [lexJ]
    rw [e0, q3]
    by_cases e : y (7 - j) = gN c v j s
    · have ih := gv_lex hz hc hy j (s - gN c v j s * v (7 - j)) (by omega) (by rw [es, e]) (by rw [e] at eq hcnt; omega)
      rw [e]
      omega
    · have ly := lexJ_lt (fun i hi => Nat.le_trans (hy i hi) (hc i hi)) j (by omega)
      have m1 : (y (7 - j) + 1) * 32 ^ j ≤ gN c v j s * 32 ^ j := Nat.mul_le_mul_right _ (by omega)
      rw [Nat.add_mul, Nat.one_mul] at m1
      omega
theorem sum8 (x v : Nat → Nat) : sumN (fun i => x i * v i) 8 = sumJ x v 8 := by
  simp only [sumN, sumJ, Nat.reduceSub]
  omega
theorem wV8 (x : Nat → Nat) : wV x 8 = 1099511627776 * (cntJ x 8 : Nat) - (lexJ x 8 : Nat) := by
  have e0 : wgt 0 = 1099511627776 - 34359738368 := by decide
  have e1 : wgt 1 = 1099511627776 - 1073741824 := by decide
  have e2 : wgt 2 = 1099511627776 - 33554432 := by decide
  have e3 : wgt 3 = 1099511627776 - 1048576 := by decide
  have e4 : wgt 4 = 1099511627776 - 32768 := by decide
  have e5 : wgt 5 = 1099511627776 - 1024 := by decide
  have e6 : wgt 6 = 1099511627776 - 32 := by decide
  have e7 : wgt 7 = 1099511627776 - 1 := by decide
  unfold wV
  simp only [sumU, cntJ, lexJ, Nat.reduceSub]
  rw [e0, e1, e2, e3, e4, e5, e6, e7]
  have p0 : (32 : Nat) ^ 0 = 1 := by decide
  have p1 : (32 : Nat) ^ 1 = 32 := by decide
  have p2 : (32 : Nat) ^ 2 = 1024 := by decide
  have p3 : (32 : Nat) ^ 3 = 32768 := by decide
  have p4 : (32 : Nat) ^ 4 = 1048576 := by decide
  have p5 : (32 : Nat) ^ 5 = 33554432 := by decide
  have p6 : (32 : Nat) ^ 6 = 1073741824 := by decide
  have p7 : (32 : Nat) ^ 7 = 34359738368 := by decide
  rw [p0, p1, p2, p3, p4, p5, p6, p7]
  omega
theorem gv_opt {c v : Nat → Nat} {s : Nat} (hz : ∀ i, i < 8 → v i = 0 → c i = 0) (hc : ∀ i, i < 8 → c i ≤ 20) (h : fwD c v 8 s < 1000000) : isOpt c v s (gv c v 8 s) := by
  obtain ⟨a, b⟩ := gv_ok (c := c) (v := v) 8 s (Nat.le_refl _) h
  refine ⟨⟨fun i _ => gv_c 8 s i, by rw [sum8, a]⟩, fun y hy => ?_⟩
  have ys : sumJ y v 8 = s := by rw [← sum8]; exact hy.2
  have lo := fw_low hz hy.1 8 (Nat.le_refl _)
  rw [ys] at lo
  have ly := lexJ_lt (fun i hi => Nat.le_trans (hy.1 i hi) (hc i hi)) 8 (Nat.le_refl _)
  have p8 : (32 : Nat) ^ 8 = 1099511627776 := by decide
  rw [p8] at ly
  rw [wV8, wV8, b]
  by_cases e : cntJ y 8 = fwD c v 8 s
  · have := gv_lex hz hc hy.1 8 s (Nat.le_refl _) ys e
    rw [e]
    omega
  · omega
theorem fw_none {c v : Nat → Nat} {s : Nat} (hz : ∀ i, i < 8 → v i = 0 → c i = 0) (hc : ∀ i, i < 8 → c i ≤ 20) (h : ¬ fwD c v 8 s < 1000000) : ¬ ∃ x, FV c v 8 x s := by
  rintro ⟨x, hx⟩
  have xs : sumJ x v 8 = s := by rw [← sum8]; exact hx.2
  have lo := fw_low hz hx.1 8 (Nat.le_refl _)
  rw [xs] at lo
  have cn : cntJ x 8 ≤ 160 := by
    have q : ∀ i, i < 8 → x i ≤ 20 := fun i hi => Nat.le_trans (hx.1 i hi) (hc i hi)
    have q0 := q 0 (by omega)
    have q1 := q 1 (by omega)
    have q2 := q 2 (by omega)
    have q3 := q 3 (by omega)
    have q4 := q 4 (by omega)
    have q5 := q 5 (by omega)
    have q6 := q 6 (by omega)
    have q7 := q 7 (by omega)
    simp only [cntJ, Nat.reduceSub]
    omega
  omega
/-- values of sorts that are good, 0 else -/
def vW (M : zM) (k : Nat) : Nat := (worth M k).toNat
theorem vW_z {M : zM} {h : Nat → Int} {k : Nat} (e : vW M k = 0) : cap M h k = 0 := by
  unfold vW worth at e
  unfold cap
  split
  · rename_i g
    rw [if_pos g] at e
    have := g.2.1
    rw [Int.toNat_natCast] at this e
    omega
  · rfl
theorem vW_v {M : zM} {h : Nat → Int} {x : Nat → Nat} {s : Nat} : FV (cap M h) (val M) 8 x s ↔ FV (cap M h) (vW M) 8 x s := by
  have e : (∀ i, i < 8 → x i ≤ cap M h i) → sumN (fun i => x i * val M i) 8 = sumN (fun i => x i * vW M i) 8 := fun hx => sumN_c 8 (fun i hi => by
    have a := hx i hi
    by_cases g : isGood M i
    · unfold vW worth val
      rw [if_pos g, Int.toNat_natCast]
    · unfold cap at a
      rw [if_neg g] at a
      rw [show x i = 0 by omega, Nat.zero_mul, Nat.zero_mul])
  exact ⟨fun z => ⟨z.1, by rw [← e z.1]; exact z.2⟩, fun z => ⟨z.1, by rw [e z.1]; exact z.2⟩⟩
/-- the change that the reference gives is the class's -/
theorem chg_gv {M : zM} {h : Nat → Int} {s : Nat} (hc : ∀ i, i < 8 → cap M h i ≤ 20) (hf : fwD (cap M h) (vW M) 8 s < 1000000) : chg (cap M h) (val M) s = some (nrm (gv (cap M h) (vW M) 8 s)) := by
  have o := gv_opt (c := cap M h) (v := vW M) (fun i _ e => vW_z e) hc hf
  exact chg_some hc (by omega) ⟨by rw [Int.toNat_natCast]; exact vW_v.mpr o.1, fun y hy => o.2 y (by rw [Int.toNat_natCast] at hy; exact vW_v.mp hy)⟩
theorem chg_no {M : zM} {h : Nat → Int} {s : Nat} (hc : ∀ i, i < 8 → cap M h i ≤ 20) (hf : ¬ fwD (cap M h) (vW M) 8 s < 1000000) : chg (cap M h) (val M) s = none ∧ ¬ ∃ x, FV (cap M h) (val M) 8 x s := by
  have o := fw_none (c := cap M h) (v := vW M) (fun i _ e => vW_z e) hc hf
  have o2 : ¬ ∃ x, FV (cap M h) (val M) 8 x s := fun ⟨x, hx⟩ => o ⟨x, vW_v.mp hx⟩
  exact ⟨chg_none (fun z => o2 (by obtain ⟨_, x, hx⟩ := z; rw [Int.toNat_natCast] at hx; exact ⟨x, hx⟩)), o2⟩
theorem hasC_fw {M : zM} {h : Nat → Int} {s : Nat} (hc : ∀ i, i < 8 → cap M h i ≤ 20) : hasC (cap M h) (val M) s = if fwD (cap M h) (vW M) 8 s < 1000000 then 1 else 0 := by
  by_cases hf : fwD (cap M h) (vW M) 8 s < 1000000
  · rw [if_pos hf]
    exact hasC_1 ⟨_, vW_v.mpr (gv_opt (c := cap M h) (v := vW M) (fun i _ e => vW_z e) hc hf).1⟩
  · rw [if_neg hf]
    exact hasC_0 (chg_no hc hf).2
end
