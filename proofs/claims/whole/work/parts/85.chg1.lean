section
/-- the fewest of the sorts from 8 - j on, as the reference lays them -/
def mnU (f : Nat → Nat) (w s : Nat) : Nat → Nat
  | 0 => f s
  | n + 1 => min (mnU f w s n) (n + 1 + f (s - (n + 1) * w))
def nmx (c w s : Nat) : Nat := if w = 0 then 0 else min c (s / w)
def fwD (c v : Nat → Nat) : Nat → Nat → Nat
  | 0, s => if s = 0 then 0 else 1000000
  | j + 1, s => mnU (fwD c v j) (v (7 - j)) s (nmx (c (7 - j)) (v (7 - j)) s)
theorem mnU_le {f : Nat → Nat} {w s : Nat} : ∀ N n, n ≤ N → mnU f w s N ≤ n + f (s - n * w)
  | 0, n, h => by
    obtain rfl : n = 0 := by omega
    simp [mnU]
  | N + 1, n, h => by
    simp only [mnU]
    by_cases e : n = N + 1
    · subst e; omega
    · have := mnU_le (f := f) (w := w) (s := s) N n (by omega)
      omega
theorem mnU_at {f : Nat → Nat} {w s : Nat} : ∀ N, ∃ n, n ≤ N ∧ mnU f w s N = n + f (s - n * w)
  | 0 => ⟨0, Nat.le_refl _, by simp [mnU]⟩
  | N + 1 => by
    obtain ⟨n, h1, h2⟩ := mnU_at (f := f) (w := w) (s := s) N
    simp only [mnU]
    by_cases c : mnU f w s N ≤ N + 1 + f (s - (N + 1) * w)
    · exact ⟨n, by omega, by rw [Nat.min_eq_left c]; exact h2⟩
    · exact ⟨N + 1, Nat.le_refl _, by rw [Nat.min_eq_right (by omega)]⟩
theorem fwD_r (c v : Nat → Nat) : ∀ j s, fwD c v j s ≤ 1000000
  | 0, s => by simp only [fwD]; split <;> omega
  | j + 1, s => by
    have a := mnU_le (f := fwD c v j) (w := v (7 - j)) (s := s) (nmx (c (7 - j)) (v (7 - j)) s) 0 (by omega)
    have b := fwD_r c v j s
    simp only [fwD]
    simp only [Nat.zero_mul, Nat.sub_zero] at a
    omega
/-- the largest number with which the fewest are met -/
def grd (f : Nat → Nat) (w s t : Nat) : Nat → Nat
  | 0 => 0
  | n + 1 => if n + 1 + f (s - (n + 1) * w) = t then n + 1 else grd f w s t n
theorem grd_le {f : Nat → Nat} {w s t : Nat} : ∀ N, grd f w s t N ≤ N
  | 0 => Nat.le_refl _
  | N + 1 => by
    have := grd_le (f := f) (w := w) (s := s) (t := t) N
    simp only [grd]
    split <;> omega
theorem grd_at {f : Nat → Nat} {w s t : Nat} : ∀ N, (∃ n, n ≤ N ∧ n + f (s - n * w) = t) → grd f w s t N + f (s - grd f w s t N * w) = t
  | 0, ⟨n, h1, h2⟩ => by
    obtain rfl : n = 0 := by omega
    exact h2
  | N + 1, ⟨n, h1, h2⟩ => by
    simp only [grd]
    by_cases c : N + 1 + f (s - (N + 1) * w) = t
    · rw [if_pos c]; exact c
    · rw [if_neg c]
      by_cases e : n = N + 1
      · subst e; exact absurd h2 c
      · exact grd_at N ⟨n, by omega, h2⟩
theorem grd_max {f : Nat → Nat} {w s t : Nat} : ∀ N n, n ≤ N → n + f (s - n * w) = t → n ≤ grd f w s t N
  | 0, n, h1, _ => by omega
  | N + 1, n, h1, h2 => by
    simp only [grd]
    by_cases c : N + 1 + f (s - (N + 1) * w) = t
    · rw [if_pos c]; exact h1
    · rw [if_neg c]
      by_cases e : n = N + 1
      · subst e; exact absurd h2 c
      · exact grd_max N n (by omega) h2
def gN (c v : Nat → Nat) (j s : Nat) : Nat := grd (fwD c v j) (v (7 - j)) s (fwD c v (j + 1) s) (nmx (c (7 - j)) (v (7 - j)) s)
def gv (c v : Nat → Nat) : Nat → Nat → Nat → Nat
  | 0, _, _ => 0
  | j + 1, s, k => if k = 7 - j then gN c v j s else gv c v j (s - gN c v j s * v (7 - j)) k
def cntJ (x : Nat → Nat) : Nat → Nat
  | 0 => 0
  | j + 1 => cntJ x j + x (7 - j)
def sumJ (x v : Nat → Nat) : Nat → Nat
  | 0 => 0
  | j + 1 => sumJ x v j + x (7 - j) * v (7 - j)
def lexJ (x : Nat → Nat) : Nat → Nat
  | 0 => 0
  | j + 1 => lexJ x j + x (7 - j) * 32 ^ j
theorem lexJ_lt {x : Nat → Nat} (h : ∀ i, i < 8 → x i ≤ 20) : ∀ j, j ≤ 8 → lexJ x j < 32 ^ j
  | 0, _ => by simp [lexJ]
  | j + 1, hj => by
    have a := lexJ_lt h j (by omega)
    have b : x (7 - j) * 32 ^ j ≤ 20 * 32 ^ j := Nat.mul_le_mul_right _ (h _ (by omega))
    simp only [lexJ]
    rw [Nat.pow_succ]
    omega
theorem cJ {x y : Nat → Nat} (v : Nat → Nat) : ∀ j, j ≤ 8 → (∀ i, i < j → x (7 - i) = y (7 - i)) → cntJ x j = cntJ y j ∧ sumJ x v j = sumJ y v j ∧ lexJ x j = lexJ y j
  | 0, _, _ => ⟨rfl, rfl, rfl⟩
  | j + 1, hj, h => by
    obtain ⟨a, b, c⟩ := cJ v j (by omega) (fun i hi => h i (by omega))
    simp only [cntJ, sumJ, lexJ]
    rw [a, b, c, h j (by omega)]
    exact ⟨rfl, rfl, rfl⟩
theorem nmx_ok {c v y : Nat → Nat} {j s : Nat} (hz : ∀ i, i < 8 → v i = 0 → c i = 0) (hy : ∀ i, i < 8 → y i ≤ c i) (hs : sumJ y v (j + 1) = s) : y (7 - j) ≤ nmx (c (7 - j)) (v (7 - j)) s := by
  have a := hy (7 - j) (by omega)
  unfold nmx
  by_cases w : v (7 - j) = 0
  · rw [if_pos w]
    have := hz (7 - j) (by omega) w
    omega
  · rw [if_neg w]
    have : y (7 - j) ≤ s / v (7 - j) := by
      rw [Nat.le_div_iff_mul_le (by omega)]
      simp only [sumJ] at hs
      omega
    omega
theorem fw_low {c v y : Nat → Nat} (hz : ∀ i, i < 8 → v i = 0 → c i = 0) (hy : ∀ i, i < 8 → y i ≤ c i) : ∀ j, j ≤ 8 → fwD c v j (sumJ y v j) ≤ cntJ y j
  | 0, _ => by simp [fwD, sumJ, cntJ]
  | j + 1, hj => by
    have a := fw_low hz hy j (by omega)
    have b := mnU_le (f := fwD c v j) (w := v (7 - j)) (s := sumJ y v (j + 1)) _ _ (nmx_ok hz hy rfl)
    have e : sumJ y v (j + 1) - y (7 - j) * v (7 - j) = sumJ y v j := by simp only [sumJ]; omega
    rw [e] at b
    simp only [fwD, cntJ]
    omega
theorem gN_ok (c v : Nat → Nat) (j s : Nat) : gN c v j s ≤ nmx (c (7 - j)) (v (7 - j)) s ∧ gN c v j s + fwD c v j (s - gN c v j s * v (7 - j)) = fwD c v (j + 1) s := by
  refine ⟨grd_le _, grd_at _ ?_⟩
  obtain ⟨n, h1, h2⟩ := mnU_at (f := fwD c v j) (w := v (7 - j)) (s := s) (nmx (c (7 - j)) (v (7 - j)) s)
  exact ⟨n, h1, h2.symm⟩
theorem nmx_r (c w s : Nat) : nmx c w s ≤ c ∧ nmx c w s * w ≤ s := by
  unfold nmx
  split
  · omega
  · refine ⟨by omega, ?_⟩
    have : min c (s / w) * w ≤ s / w * w := Nat.mul_le_mul_right _ (by omega)
    have := Nat.div_mul_le_self s w
    omega
theorem gv_ok {c v : Nat → Nat} : ∀ j s, j ≤ 8 → fwD c v j s < 1000000 → sumJ (gv c v j s) v j = s ∧ cntJ (gv c v j s) j = fwD c v j s
  | 0, s, _, h => by
    simp only [fwD] at h ⊢
    split at h
    · rename_i e; simp [sumJ, cntJ, e]
    · omega
  | j + 1, s, hj, h => by
    obtain ⟨g1, g2⟩ := gN_ok c v j s
    have r := nmx_r (c (7 - j)) (v (7 - j)) s
    have gm : gN c v j s * v (7 - j) ≤ s := Nat.le_trans (Nat.mul_le_mul_right _ g1) r.2
    obtain ⟨a, b⟩ := gv_ok j (s - gN c v j s * v (7 - j)) (by omega) (by omega)
    have e0 : gv c v (j + 1) s (7 - j) = gN c v j s := by simp only [gv]; rw [if_pos rfl]
    obtain ⟨q1, q2, q3⟩ := cJ (x := gv c v (j + 1) s) (y := gv c v j (s - gN c v j s * v (7 - j))) v j (by omega) (fun i hi => by simp only [gv]; rw [if_neg (by omega)])
    simp only [sumJ, cntJ]
    rw [e0, q1, q2, a, b]
    omega
theorem gv_c {c v : Nat → Nat} : ∀ j s k, gv c v j s k ≤ c k
  | 0, s, k => by simp [gv]
  | j + 1, s, k => by
    simp only [gv]
    split
    · rename_i e
      rw [e]
      exact Nat.le_trans (gN_ok c v j s).1 (nmx_r _ _ _).1
    · exact gv_c j _ k
theorem gv_lex {c v y : Nat → Nat} (hz : ∀ i, i < 8 → v i = 0 → c i = 0) (hc : ∀ i, i < 8 → c i ≤ 20) (hy : ∀ i, i < 8 → y i ≤ c i) : ∀ j s, j ≤ 8 → sumJ y v j = s → cntJ y j = fwD c v j s → lexJ y j ≤ lexJ (gv c v j s) j
  | 0, _, _, _, _ => Nat.le_refl _
  | j + 1, s, hj, hs, hcnt => by
    have ny := nmx_ok hz hy hs
    have es : sumJ y v j = s - y (7 - j) * v (7 - j) := by simp only [sumJ] at hs; omega
    have lo := fw_low hz hy j (by omega)
    have b := mnU_le (f := fwD c v j) (w := v (7 - j)) (s := s) _ _ ny
    have ef : fwD c v (j + 1) s = mnU (fwD c v j) (v (7 - j)) s (nmx (c (7 - j)) (v (7 - j)) s) := rfl
    simp only [cntJ] at hcnt
    rw [es] at lo
    have eq : y (7 - j) + fwD c v j (s - y (7 - j) * v (7 - j)) = fwD c v (j + 1) s := by omega
    have mx : y (7 - j) ≤ gN c v j s := grd_max _ _ ny eq
    have e0 : gv c v (j + 1) s (7 - j) = gN c v j s := by simp only [gv]; rw [if_pos rfl]
    obtain ⟨q1, q2, q3⟩ := cJ (x := gv c v (j + 1) s) (y := gv c v j (s - gN c v j s * v (7 - j))) v j (by omega) (fun i hi => by simp only [gv]; rw [if_neg (by omega)])
    simp only [lexJ]
    rw [e0, q3]
    by_cases e : y (7 - j) = gN c v j s
    · have ih := gv_lex hz hc hy j (s - gN c v j s * v (7 - j)) (by omega) (by rw [es, e]) (by rw [e] at eq hcnt; omega)
      rw [e]
      omega
    · have ly := lexJ_lt (fun i hi => Nat.le_trans (hy i hi) (hc i hi)) j (by omega)
      have m1 : (y (7 - j) + 1) * 32 ^ j ≤ gN c v j s * 32 ^ j := Nat.mul_le_mul_right _ (by omega)
      rw [Nat.add_mul, Nat.one_mul] at m1
      omega
end
