section
theorem sumU_add (f g : Nat → Int) : ∀ n, sumU (fun i => f i + g i) n = sumU f n + sumU g n
  | 0 => rfl
  | n + 1 => by simp only [sumU]; rw [sumU_add f g n]; omega
theorem sumU_mul (c : Int) (f : Nat → Int) : ∀ n, sumU (fun i => c * f i) n = c * sumU f n
  | 0 => by simp [sumU]
  | n + 1 => by simp only [sumU]; rw [sumU_mul c f n, Int.mul_add]
theorem sumU_0 : ∀ n, sumU (fun _ => 0) n = 0
  | 0 => rfl
  | n + 1 => by simp only [sumU]; rw [sumU_0 n]; rfl
theorem sumU_ind {a b : Int} (h0 : 0 ≤ a) (h1 : a ≤ b + 1) : ∀ n : Nat, sumU (fun i => if a ≤ (i : Int) ∧ (i : Int) ≤ b then 1 else 0) n = max 0 (min (n : Int) (b + 1) - a)
  | 0 => by simp only [sumU]; omega
  | n + 1 => by
    simp only [sumU]
    rw [sumU_ind h0 h1 n]
    split <;> omega
def sum3 (f : Nat → Nat → Nat → Int) : Int := sumU (fun w => sumU (fun b => sumU (fun r => f w b r) 100) 100) 100
theorem sum3_add (f g : Nat → Nat → Nat → Int) : sum3 (fun w b r => f w b r + g w b r) = sum3 f + sum3 g := by
  unfold sum3
  simp only [sumU_add]
theorem sum3_c {f g : Nat → Nat → Nat → Int} (h : ∀ w b r, w < 100 → b < 100 → r < 100 → f w b r = g w b r) : sum3 f = sum3 g := by
  unfold sum3
  refine sumU_c 100 (fun w hw => sumU_c 100 (fun b hb => sumU_c 100 (fun r hr => h w b r hw hb hr)))
theorem sum3_0 : sum3 (fun _ _ _ => 0) = 0 := by
  unfold sum3
  simp only [sumU_0]
theorem sum3_r {f : Nat → Nat → Nat → Int} (h : ∀ w b r, 0 ≤ f w b r ∧ f w b r ≤ 1) : 0 ≤ sum3 f ∧ sum3 f ≤ 1000000 := by
  unfold sum3
  have h1 : ∀ w b, 0 ≤ sumU (fun r => f w b r) 100 ∧ sumU (fun r => f w b r) 100 ≤ 100 := fun w b => by
    have := sumU_r (f := fun r => f w b r) (c := 1) (N := 100) (fun i _ => h w b i) 100 (Nat.le_refl _)
    omega
  have h2 : ∀ w, 0 ≤ sumU (fun b => sumU (fun r => f w b r) 100) 100 ∧ sumU (fun b => sumU (fun r => f w b r) 100) 100 ≤ 10000 := fun w => by
    have := sumU_r (f := fun b => sumU (fun r => f w b r) 100) (c := 100) (N := 100) (fun i _ => h1 w i) 100 (Nat.le_refl _)
    omega
  have := sumU_r (f := fun w => sumU (fun b => sumU (fun r => f w b r) 100) 100) (c := 10000) (N := 100) (fun i _ => h2 i) 100 (Nat.le_refl _)
  omega
theorem sum3_p (p q s : Nat → Int) (c : Int) : sum3 (fun w b r => c * (p w * (q b * s r))) = c * (sumU p 100 * (sumU q 100 * sumU s 100)) := by
  unfold sum3
  have e1 : ∀ w b, sumU (fun r => c * (p w * (q b * s r))) 100 = (c * p w * q b) * sumU s 100 := fun w b => by
    rw [← sumU_mul]
    refine sumU_c 100 (fun r _ => ?_)
    rw [Int.mul_assoc, Int.mul_assoc]
  have e2 : ∀ w, sumU (fun b => (c * p w * q b) * sumU s 100) 100 = (c * p w) * (sumU q 100 * sumU s 100) := fun w => by
    rw [show sumU (fun b => (c * p w * q b) * sumU s 100) 100 = sumU (fun b => (c * p w * sumU s 100) * q b) 100 from sumU_c 100 (fun b _ => by rw [Int.mul_assoc, Int.mul_comm (q b), ← Int.mul_assoc]), sumU_mul, Int.mul_assoc, Int.mul_comm (sumU s 100)]
  simp only [e1, e2]
  rw [show sumU (fun w => c * p w * (sumU q 100 * sumU s 100)) 100 = sumU (fun w => (c * (sumU q 100 * sumU s 100)) * p w) 100 from sumU_c 100 (fun w _ => by rw [Int.mul_assoc, Int.mul_comm (p w), ← Int.mul_assoc]), sumU_mul, Int.mul_assoc, Int.mul_comm (sumU p 100)]
/-- the place of an outcome in got -/
def ixG (o : Int) : Nat := if o = -1 then 8 else o.toNat
def dG (k : Nat) (o : Int) : Int := if ixG o = k then 1 else 0
/-- a coin lies in a box of weights, widths and heard rings, its ring between lo and hi -/
abbrev inB (V : zM) (lo hi a0 a1 b0 b1 c0 c1 : Int) (w b r : Int) : Prop := (a0 ≤ w ∧ w ≤ a1) ∧ (b0 ≤ b ∧ b ≤ b1) ∧ (lo ≤ r ∧ r ≤ hi) ∧ (c0 ≤ heardR V r ∧ heardR V r ≤ c1)
/-- where it goes from a goal on -/
def og (V : zM) (p : Nat → Bool) (f g : Nat) (cd : Int) : Int := if cd = -2 then gw V p f (g + 1) else if cd = -3 then gw V p f (g + 2) else if isGood V cd then cd else -1
theorem gw_og {V : zM} {p : Nat → Bool} {f g : Nat} (h : (g : Int) < V 11 0) : gw V p (f + 1) g = og V p f g (if p g = true then V 15 g else V 16 g) := by
  simp only [gw]
  rw [if_pos h]
  rfl
def bxS (V : zM) (lo hi : Int) (o : Int → Int → Int → Int) (k : Nat) (a0 a1 b0 b1 c0 c1 : Int) : Int := sum3 (fun w b r => if inB V lo hi a0 a1 b0 b1 c0 c1 w b r then dG k (o w b r) else 0)
theorem bxS_r (V : zM) (lo hi : Int) (o : Int → Int → Int → Int) (k : Nat) (a0 a1 b0 b1 c0 c1 : Int) : 0 ≤ bxS V lo hi o k a0 a1 b0 b1 c0 c1 ∧ bxS V lo hi o k a0 a1 b0 b1 c0 c1 ≤ 1000000 := by
  refine sum3_r (fun w b r => ?_)
  unfold dG
  split
  · split <;> omega
  · omega
theorem bxS_e {V : zM} {lo hi : Int} {o : Int → Int → Int → Int} {k : Nat} {a0 a1 b0 b1 c0 c1 : Int} (h : a1 < a0 ∨ b1 < b0 ∨ c1 < c0) : bxS V lo hi o k a0 a1 b0 b1 c0 c1 = 0 := by
  rw [← sum3_0]
  refine sum3_c (fun w b r _ _ _ => ?_)
  rw [if_neg (fun z => by omega)]
/-- how many rings are heard between c0 and c1 -/
def rcN (V : zM) (lo hi c0 c1 : Int) : Int := sumU (fun r => if (lo ≤ (r : Int) ∧ (r : Int) ≤ hi) ∧ (c0 ≤ heardR V r ∧ heardR V r ≤ c1) then 1 else 0) 100
theorem bxS_k {V : zM} {lo hi : Int} {o : Int → Int → Int → Int} {k : Nat} {a0 a1 b0 b1 c0 c1 z : Int} (ha : 0 ≤ a0 ∧ a0 ≤ a1 ∧ a1 ≤ 99) (hb : 0 ≤ b0 ∧ b0 ≤ b1 ∧ b1 ≤ 99) (ho : ∀ w b r : Nat, inB V lo hi a0 a1 b0 b1 c0 c1 w b r → o w b r = z) : bxS V lo hi o k a0 a1 b0 b1 c0 c1 = dG k z * ((a1 - a0 + 1) * (b1 - b0 + 1) * rcN V lo hi c0 c1) := by
  have e : bxS V lo hi o k a0 a1 b0 b1 c0 c1 = sum3 (fun w b r => dG k z * ((if a0 ≤ (w : Int) ∧ (w : Int) ≤ a1 then 1 else 0) * ((if b0 ≤ (b : Int) ∧ (b : Int) ≤ b1 then 1 else 0) * (if (lo ≤ (r : Int) ∧ (r : Int) ≤ hi) ∧ (c0 ≤ heardR V r ∧ heardR V r ≤ c1) then 1 else 0)))) := by
    refine sum3_c (fun w b r _ _ _ => ?_)
    by_cases h : inB V lo hi a0 a1 b0 b1 c0 c1 w b r
    · rw [if_pos h, ho w b r h, if_pos h.1, if_pos h.2.1, if_pos h.2.2, Int.one_mul, Int.one_mul, Int.mul_one]
    · rw [if_neg h]
      by_cases h1 : a0 ≤ (w : Int) ∧ (w : Int) ≤ a1
      · by_cases h2 : b0 ≤ (b : Int) ∧ (b : Int) ≤ b1
        · rw [if_neg (fun z => h ⟨h1, h2, z⟩), Int.mul_zero, Int.mul_zero, Int.mul_zero]
        · rw [if_neg h2, Int.zero_mul, Int.mul_zero, Int.mul_zero]
      · rw [if_neg h1, Int.zero_mul, Int.mul_zero]
  rw [e, sum3_p (fun w => if a0 ≤ (w : Int) ∧ (w : Int) ≤ a1 then 1 else 0) (fun b => if b0 ≤ (b : Int) ∧ (b : Int) ≤ b1 then 1 else 0) (fun r => if (lo ≤ (r : Int) ∧ (r : Int) ≤ hi) ∧ (c0 ≤ heardR V r ∧ heardR V r ≤ c1) then 1 else 0), sumU_ind ha.1 (by omega), sumU_ind hb.1 (by omega)]
  rw [show max 0 (min ((100 : Nat) : Int) (a1 + 1) - a0) = a1 - a0 + 1 by omega, show max 0 (min ((100 : Nat) : Int) (b1 + 1) - b0) = b1 - b0 + 1 by omega, Int.mul_assoc]
  rfl
theorem bxS_z {V : zM} {lo hi : Int} {o : Int → Int → Int → Int} {k : Nat} {a0 a1 b0 b1 c0 c1 : Int} (h : rcN V lo hi c0 c1 = 0) : bxS V lo hi o k a0 a1 b0 b1 c0 c1 = 0 := by
  have hz : ∀ r : Nat, r < 100 → ¬ ((lo ≤ (r : Int) ∧ (r : Int) ≤ hi) ∧ (c0 ≤ heardR V r ∧ heardR V r ≤ c1)) := by
    have gen : ∀ (p : Nat → Prop) [DecidablePred p] (n : Nat), sumU (fun r => if p r then 1 else 0) n = 0 → ∀ r, r < n → ¬ p r := by
      intro p _ n
      induction n with
      | zero => intro _ r hr; omega
      | succ n ih =>
        intro e r hr
        simp only [sumU] at e
        have nn := (sumU_r (f := fun r => if p r then (1 : Int) else 0) (c := 1) (N := n) (fun i _ => by split <;> omega) n (Nat.le_refl _)).1
        by_cases hn : p n
        · rw [if_pos hn] at e; omega
        · rw [if_neg hn] at e
          by_cases er : r = n
          · subst er; exact hn
          · exact ih (by omega) r (by omega)
    exact gen _ 100 h
  rw [← sum3_0]
  refine sum3_c (fun w b r _ _ hr => ?_)
  rw [if_neg (fun z => hz r hr z.2.2)]
/-- a box is cut by a gate -/
theorem bxS_cut {V : zM} (hg : ICg V) (hs : ICs V) {lo hi : Int} {f g k : Nat} (g8 : g < 8) (hm : (g : Int) < V 11 0) (hl : V 13 g ≤ V 14 g) {a0 a1 b0 b1 c0 c1 : Int} (hlo : 0 ≤ lo ∧ hi ≤ 99) {x0 x1 y0 y1 z0 z1 u0 u1 v0 v1 t0 t1 p0 p1 q0 q1 s0 s1 : Int}
    (hc : ∀ w b h : Int, let v := if V 12 g = 0 then w else if V 12 g = 1 then b else h
      ((x0 ≤ w ∧ w ≤ x1) ∧ (y0 ≤ b ∧ b ≤ y1) ∧ (z0 ≤ h ∧ h ≤ z1) ↔ ((a0 ≤ w ∧ w ≤ a1) ∧ (b0 ≤ b ∧ b ≤ b1) ∧ (c0 ≤ h ∧ h ≤ c1)) ∧ V 13 g ≤ v ∧ v ≤ V 14 g) ∧
      ((u0 ≤ w ∧ w ≤ u1) ∧ (v0 ≤ b ∧ b ≤ v1) ∧ (t0 ≤ h ∧ h ≤ t1) ↔ ((a0 ≤ w ∧ w ≤ a1) ∧ (b0 ≤ b ∧ b ≤ b1) ∧ (c0 ≤ h ∧ h ≤ c1)) ∧ v < V 13 g) ∧
      ((p0 ≤ w ∧ w ≤ p1) ∧ (q0 ≤ b ∧ b ≤ q1) ∧ (s0 ≤ h ∧ h ≤ s1) ↔ ((a0 ≤ w ∧ w ≤ a1) ∧ (b0 ≤ b ∧ b ≤ b1) ∧ (c0 ≤ h ∧ h ≤ c1)) ∧ V 14 g < v)) :
    bxS V lo hi (fun w b r => gw V (inG V w b r) (f + 1) g) k a0 a1 b0 b1 c0 c1 = bxS V lo hi (fun w b r => og V (inG V w b r) f g (V 15 g)) k x0 x1 y0 y1 z0 z1 + bxS V lo hi (fun w b r => og V (inG V w b r) f g (V 16 g)) k u0 u1 v0 v1 t0 t1 + bxS V lo hi (fun w b r => og V (inG V w b r) f g (V 16 g)) k p0 p1 q0 q1 s0 s1 := by
  unfold bxS
  rw [← sum3_add, ← sum3_add]
  refine sum3_c (fun w b r _ _ hr => ?_)
  obtain ⟨i1, i2, i3⟩ := hc w b (heardR V r)
  have im : mAt V w b r g = (if V 12 g = 0 then (w : Int) else if V 12 g = 1 then (b : Int) else heardR V r) := rfl
  rw [← im] at i1 i2 i3
  have ig := inG_m (w := w) (b := b) (r := r) hg hs (by omega) g8
  dsimp only
  rw [gw_og hm]
  have B : ∀ {A0 A1 B0 B1 C0 C1 : Int}, inB V lo hi A0 A1 B0 B1 C0 C1 w b r ↔ ((lo ≤ (r : Int) ∧ (r : Int) ≤ hi) ∧ ((A0 ≤ (w : Int) ∧ (w : Int) ≤ A1) ∧ (B0 ≤ (b : Int) ∧ (b : Int) ≤ B1) ∧ (C0 ≤ heardR V r ∧ heardR V r ≤ C1))) := fun {A0 A1 B0 B1 C0 C1} => ⟨fun z => ⟨z.2.2.1, z.1, z.2.1, z.2.2.2⟩, fun z => ⟨z.2.1, z.2.2.1, z.1, z.2.2.2⟩⟩
  by_cases hb : inB V lo hi a0 a1 b0 b1 c0 c1 w b r
  · have hb' := B.mp hb
    rw [if_pos hb]
    by_cases hp : inG V w b r g = true
    · have vp := ig.mp hp
      rw [if_pos hp, if_pos (B.mpr ⟨hb'.1, i1.mpr ⟨hb'.2, vp⟩⟩), if_neg (fun z => by have := (i2.mp (B.mp z).2).2; omega), if_neg (fun z => by have := (i3.mp (B.mp z).2).2; omega)]
      omega
    · rw [if_neg hp]
      have vp : ¬ (V 13 g ≤ mAt V w b r g ∧ mAt V w b r g ≤ V 14 g) := fun z => hp (ig.mpr z)
      rw [if_neg (fun z => vp (i1.mp (B.mp z).2).2)]
      by_cases hv : mAt V w b r g < V 13 g
      · rw [if_pos (B.mpr ⟨hb'.1, i2.mpr ⟨hb'.2, hv⟩⟩), if_neg (fun z => by have := (i3.mp (B.mp z).2).2; omega)]
        omega
      · rw [if_neg (fun z => by have := (i2.mp (B.mp z).2).2; omega), if_pos (B.mpr ⟨hb'.1, i3.mpr ⟨hb'.2, by omega⟩⟩)]
        omega
  · rw [if_neg hb, if_neg (fun z => hb (B.mpr ⟨(B.mp z).1, (i1.mp (B.mp z).2).1⟩)), if_neg (fun z => hb (B.mpr ⟨(B.mp z).1, (i2.mp (B.mp z).2).1⟩)), if_neg (fun z => hb (B.mpr ⟨(B.mp z).1, (i3.mp (B.mp z).2).1⟩))]
    rfl
theorem bxS_no {V : zM} (hg : ICg V) (hs : ICs V) {lo hi : Int} {f g k : Nat} (g8 : g < 8) (hm : (g : Int) < V 11 0) (hl : V 14 g < V 13 g) (hlo : 0 ≤ lo ∧ hi ≤ 99) {a0 a1 b0 b1 c0 c1 : Int} : bxS V lo hi (fun w b r => gw V (inG V w b r) (f + 1) g) k a0 a1 b0 b1 c0 c1 = bxS V lo hi (fun w b r => og V (inG V w b r) f g (V 16 g)) k a0 a1 b0 b1 c0 c1 := by
  unfold bxS
  refine sum3_c (fun w b r _ _ hr => ?_)
  have ig := inG_m (w := w) (b := b) (r := r) hg hs (by omega) g8
  dsimp only
  have hn : ¬ inG V w b r g = true := fun z => by have := ig.mp z; omega
  rw [gw_og hm, if_neg hn]
end
