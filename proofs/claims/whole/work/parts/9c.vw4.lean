section
theorem pl_3 {j o : Nat} (hj : j < 4) (ho : o = 7 + j) : Pl 3 j o := Or.inl ⟨rfl, hj, ho⟩
theorem pl_23 {j o : Nat} (hj : j < 4) (ho : o = 11 + j) : Pl 23 j o := Or.inr (Or.inl ⟨rfl, hj, ho⟩)
theorem pl_34 {j o : Nat} (hj : j < 4) (ho : o = 607 + 2 * j) : Pl 34 j o := Or.inr (Or.inr (Or.inl ⟨rfl, hj, ho⟩))
theorem pl_35 {j o : Nat} (hj : j < 4) (ho : o = 608 + 2 * j) : Pl 35 j o := Or.inr (Or.inr (Or.inr (Or.inl ⟨rfl, hj, ho⟩)))
theorem pl_4 {j o : Nat} (hj : j < 8) (ho : o = 15 + 11 * j) : Pl 4 j o := Or.inr (Or.inr (Or.inr (Or.inr (Or.inl ⟨rfl, hj, ho⟩))))
theorem pl_5 {j o : Nat} (hj : j < 8) (ho : o = 16 + 11 * j) : Pl 5 j o := Or.inr (Or.inr (Or.inr (Or.inr (Or.inr (Or.inl ⟨rfl, hj, ho⟩)))))
theorem pl_6 {j o : Nat} (hj : j < 8) (ho : o = 17 + 11 * j) : Pl 6 j o := Or.inr (Or.inr (Or.inr (Or.inr (Or.inr (Or.inr (Or.inl ⟨rfl, hj, ho⟩))))))
theorem pl_9 {j o : Nat} (hj : j < 8) (ho : o = 24 + 11 * j) : Pl 9 j o := Or.inr (Or.inr (Or.inr (Or.inr (Or.inr (Or.inr (Or.inr (Or.inl ⟨rfl, hj, ho⟩)))))))
theorem pl_10 {j o : Nat} (hj : j < 8) (ho : o = 25 + 11 * j) : Pl 10 j o := Or.inr (Or.inr (Or.inr (Or.inr (Or.inr (Or.inr (Or.inr (Or.inr (Or.inl ⟨rfl, hj, ho⟩))))))))
theorem pl_19 {j o : Nat} (hj : j < 8) (ho : o = 159 + 21 * j) : Pl 19 j o := Or.inr (Or.inr (Or.inr (Or.inr (Or.inr (Or.inr (Or.inr (Or.inr (Or.inr (Or.inl ⟨rfl, hj, ho⟩)))))))))
theorem pl_20 {j o : Nat} (hj : j < 8) (ho : o = 327 + j) : Pl 20 j o := Or.inr (Or.inr (Or.inr (Or.inr (Or.inr (Or.inr (Or.inr (Or.inr (Or.inr (Or.inr (Or.inl ⟨rfl, hj, ho⟩))))))))))
theorem pl_21 {j o : Nat} (hj : j < 8) (ho : o = 335 + j) : Pl 21 j o := Or.inr (Or.inr (Or.inr (Or.inr (Or.inr (Or.inr (Or.inr (Or.inr (Or.inr (Or.inr (Or.inr (Or.inl ⟨rfl, hj, ho⟩)))))))))))
theorem pl_22 {j o : Nat} (hj : j < 8) (ho : o = 343 + j) : Pl 22 j o := Or.inr (Or.inr (Or.inr (Or.inr (Or.inr (Or.inr (Or.inr (Or.inr (Or.inr (Or.inr (Or.inr (Or.inr (Or.inl ⟨rfl, hj, ho⟩))))))))))))
theorem pl_7 {j o : Nat} (hj : j < 24) (ho : o = 18 + 11 * (j / 3) + 2 * (j % 3)) : Pl 7 j o := Or.inr (Or.inr (Or.inr (Or.inr (Or.inr (Or.inr (Or.inr (Or.inr (Or.inr (Or.inr (Or.inr (Or.inr (Or.inr (Or.inl ⟨rfl, hj, ho⟩)))))))))))))
theorem pl_8 {j o : Nat} (hj : j < 24) (ho : o = 19 + 11 * (j / 3) + 2 * (j % 3)) : Pl 8 j o := Or.inr (Or.inr (Or.inr (Or.inr (Or.inr (Or.inr (Or.inr (Or.inr (Or.inr (Or.inr (Or.inr (Or.inr (Or.inr (Or.inr (Or.inl ⟨rfl, hj, ho⟩))))))))))))))
theorem pl_13 {j o : Nat} (hj : j < 8) (ho : o = 104 + 7 * j) : Pl 13 j o := Or.inr (Or.inr (Or.inr (Or.inr (Or.inr (Or.inr (Or.inr (Or.inr (Or.inr (Or.inr (Or.inr (Or.inr (Or.inr (Or.inr (Or.inr (Or.inl ⟨rfl, hj, ho⟩)))))))))))))))
theorem pl_14 {j o : Nat} (hj : j < 8) (ho : o = 105 + 7 * j) : Pl 14 j o := Or.inr (Or.inr (Or.inr (Or.inr (Or.inr (Or.inr (Or.inr (Or.inr (Or.inr (Or.inr (Or.inr (Or.inr (Or.inr (Or.inr (Or.inr (Or.inr (Or.inl ⟨rfl, hj, ho⟩))))))))))))))))
theorem pl_18 {j o : Nat} (hj : j < 160) (ho : o = 160 + 21 * (j / 20) + j % 20) : Pl 18 j o := Or.inr (Or.inr (Or.inr (Or.inr (Or.inr (Or.inr (Or.inr (Or.inr (Or.inr (Or.inr (Or.inr (Or.inr (Or.inr (Or.inr (Or.inr (Or.inr (Or.inr (Or.inl ⟨rfl, hj, ho⟩)))))))))))))))))
theorem pl_28 {j o : Nat} (hj : j < 160) (ho : o = 405 + j) : Pl 28 j o := Or.inr (Or.inr (Or.inr (Or.inr (Or.inr (Or.inr (Or.inr (Or.inr (Or.inr (Or.inr (Or.inr (Or.inr (Or.inr (Or.inr (Or.inr (Or.inr (Or.inr (Or.inr (Or.inl ⟨rfl, hj, ho⟩))))))))))))))))))
theorem pl_24 {j o : Nat} (hj : j < 12) (ho : o = 358 + 4 * j) : Pl 24 j o := Or.inr (Or.inr (Or.inr (Or.inr (Or.inr (Or.inr (Or.inr (Or.inr (Or.inr (Or.inr (Or.inr (Or.inr (Or.inr (Or.inr (Or.inr (Or.inr (Or.inr (Or.inr (Or.inr (Or.inl ⟨rfl, hj, ho⟩)))))))))))))))))))
theorem pl_25 {j o : Nat} (hj : j < 12) (ho : o = 357 + 4 * j) : Pl 25 j o := Or.inr (Or.inr (Or.inr (Or.inr (Or.inr (Or.inr (Or.inr (Or.inr (Or.inr (Or.inr (Or.inr (Or.inr (Or.inr (Or.inr (Or.inr (Or.inr (Or.inr (Or.inr (Or.inr (Or.inr (Or.inl ⟨rfl, hj, ho⟩))))))))))))))))))))
theorem pl_26 {j o : Nat} (hj : j < 12) (ho : o = 360 + 4 * j) : Pl 26 j o := Or.inr (Or.inr (Or.inr (Or.inr (Or.inr (Or.inr (Or.inr (Or.inr (Or.inr (Or.inr (Or.inr (Or.inr (Or.inr (Or.inr (Or.inr (Or.inr (Or.inr (Or.inr (Or.inr (Or.inr (Or.inr (Or.inl ⟨rfl, hj, ho⟩)))))))))))))))))))))
theorem pl_27 {j o : Nat} (hj : j < 12) (ho : o = 359 + 4 * j) : Pl 27 j o := Or.inr (Or.inr (Or.inr (Or.inr (Or.inr (Or.inr (Or.inr (Or.inr (Or.inr (Or.inr (Or.inr (Or.inr (Or.inr (Or.inr (Or.inr (Or.inr (Or.inr (Or.inr (Or.inr (Or.inr (Or.inr (Or.inr (Or.inl ⟨rfl, hj, ho⟩))))))))))))))))))))))
theorem pl_29 {j o : Nat} (hj : j < 6) (ho : o = 351 + j) : Pl 29 j o := Or.inr (Or.inr (Or.inr (Or.inr (Or.inr (Or.inr (Or.inr (Or.inr (Or.inr (Or.inr (Or.inr (Or.inr (Or.inr (Or.inr (Or.inr (Or.inr (Or.inr (Or.inr (Or.inr (Or.inr (Or.inr (Or.inr (Or.inr (Or.inl ⟨rfl, hj, ho⟩)))))))))))))))))))))))
theorem pl_1a {j o : Nat} (hj : j = 3) (ho : o = 2) : Pl 1 j o := Or.inr (Or.inr (Or.inr (Or.inr (Or.inr (Or.inr (Or.inr (Or.inr (Or.inr (Or.inr (Or.inr (Or.inr (Or.inr (Or.inr (Or.inr (Or.inr (Or.inr (Or.inr (Or.inr (Or.inr (Or.inr (Or.inr (Or.inr (Or.inr (Or.inl ⟨rfl, hj, ho⟩))))))))))))))))))))))))
theorem pl_1b {j o : Nat} (hj : j = 10) (ho : o = 5) : Pl 1 j o := Or.inr (Or.inr (Or.inr (Or.inr (Or.inr (Or.inr (Or.inr (Or.inr (Or.inr (Or.inr (Or.inr (Or.inr (Or.inr (Or.inr (Or.inr (Or.inr (Or.inr (Or.inr (Or.inr (Or.inr (Or.inr (Or.inr (Or.inr (Or.inr (Or.inr (Or.inl ⟨rfl, hj, ho⟩)))))))))))))))))))))))))
theorem pl_2 {j o : Nat} (hj : j = 0) (ho : o = 0) : Pl 2 j o := Or.inr (Or.inr (Or.inr (Or.inr (Or.inr (Or.inr (Or.inr (Or.inr (Or.inr (Or.inr (Or.inr (Or.inr (Or.inr (Or.inr (Or.inr (Or.inr (Or.inr (Or.inr (Or.inr (Or.inr (Or.inr (Or.inr (Or.inr (Or.inr (Or.inr (Or.inr (Or.inl ⟨rfl, hj, ho⟩))))))))))))))))))))))))))
theorem pl_17a {j o : Nat} (hj : j = 6) (ho : o = 3) : Pl 17 j o := Or.inr (Or.inr (Or.inr (Or.inr (Or.inr (Or.inr (Or.inr (Or.inr (Or.inr (Or.inr (Or.inr (Or.inr (Or.inr (Or.inr (Or.inr (Or.inr (Or.inr (Or.inr (Or.inr (Or.inr (Or.inr (Or.inr (Or.inr (Or.inr (Or.inr (Or.inr (Or.inr (Or.inl ⟨rfl, hj, ho⟩)))))))))))))))))))))))))))
theorem pl_17b {j o : Nat} (hj : j = 11) (ho : o = 6) : Pl 17 j o := Or.inr (Or.inr (Or.inr (Or.inr (Or.inr (Or.inr (Or.inr (Or.inr (Or.inr (Or.inr (Or.inr (Or.inr (Or.inr (Or.inr (Or.inr (Or.inr (Or.inr (Or.inr (Or.inr (Or.inr (Or.inr (Or.inr (Or.inr (Or.inr (Or.inr (Or.inr (Or.inr (Or.inr (⟨rfl, hj, ho⟩))))))))))))))))))))))))))))
/-- what tells the gates' kinds and the buyers' coins is the same in both rows -/
def tqA (t u : Nat → Int) : Prop := u 1 = t 1 ∧ u 4 = t 4 ∧ (∀ g : Nat, g < 8 → u (106 + 7 * g) = t (106 + 7 * g) ∧ u (107 + 7 * g) = t (107 + 7 * g) ∧ u (108 + 7 * g) = t (108 + 7 * g) ∧ u (109 + 7 * g) = t (109 + 7 * g)) ∧ ∀ b i : Nat, b < 5 → i < 4 → u (578 + 6 * b + i) = t (578 + 6 * b + i)
theorem tqA.rf (t : Nat → Int) : tqA t t := ⟨rfl, rfl, fun _ _ => ⟨rfl, rfl, rfl, rfl⟩, fun _ _ _ _ => rfl⟩
theorem tqA.tr {t u w : Nat → Int} (h : tqA t u) (g : tqA u w) : tqA t w := ⟨g.1.trans h.1, g.2.1.trans h.2.1, fun a b => ⟨(g.2.2.1 a b).1.trans (h.2.2.1 a b).1, (g.2.2.1 a b).2.1.trans (h.2.2.1 a b).2.1, (g.2.2.1 a b).2.2.1.trans (h.2.2.1 a b).2.2.1, (g.2.2.1 a b).2.2.2.trans (h.2.2.1 a b).2.2.2⟩, fun a b c d => (g.2.2.2 a b c d).trans (h.2.2.2 a b c d)⟩
theorem Pl.q {t : Nat → Int} {c j o : Nat} {v : Int} (hp : Pl c j o) : tqA t (rUp t o v) := by
  have hr := hp.r
  refine ⟨rUp_o (by omega), rUp_o (by omega), fun g hg => ⟨rUp_o ?_, rUp_o ?_, rUp_o ?_, rUp_o ?_⟩, fun b i hb hi => rUp_o (by omega)⟩ <;> unfold Pl at hp <;> omega
theorem tqA.k {t u : Nat → Int} (h : tqA t u) (h1 : t 1 ≤ 8) (g : ICk t) : ICk u := fun i hi => by
  rw [h.1] at hi
  obtain ⟨a, b, c, d⟩ := h.2.2.1 i (by omega)
  rw [a, b, c, d]
  exact g i hi
theorem tqA.n {t u : Nat → Int} (h : tqA t u) {b : Nat} (hb : b < 5) : cnB u b = cnB t b := by
  unfold cnB
  have h1 := h.2.2.2 b 1 hb (by decide)
  have h2 := h.2.2.2 b 2 hb (by decide)
  have h3 := h.2.2.2 b 3 hb (by decide)
  rw [show 578 + 6 * b + 1 = 579 + 6 * b by omega] at h1
  rw [show 578 + 6 * b + 2 = 580 + 6 * b by omega] at h2
  rw [show 578 + 6 * b + 3 = 581 + 6 * b by omega] at h3
  rw [h1, h2, h3]
theorem tqA.b {t u : Nat → Int} (h : tqA t u) {b : Nat} (hb : b < 5) (g : bqT t b) : bqT u b := fun i hi => by
  rw [h.2.2.2 b i hb hi, h.n hb]
  exact g i hi
theorem tqA.q {t u : Nat → Int} {C : zM} (h : tqA t u) (h5 : C 1 5 ≤ 5) (g : ICq t C) : ICq u C := ⟨g.1, g.2.1, g.2.2.1, fun b hb => ⟨(g.2.2.2.1 b hb).1, h.b (by omega) (g.2.2.2.1 b hb).2⟩, g.2.2.2.2⟩
/-- the state behind a change of scalars alone -/
theorem zST.mk {B B' : Int} {t u : Nat → Int} {C D : zM} (h : zST B t C) (hw : VW u D) (hq : tqA t u) (hs : ICs D) (hg : ICg D) (ht : ICt B' D) (hb : ICb D) (hm : ICm D) (he : ICe D) (hx : ICq t D) (hv : ICv D) : zST B' u D := ⟨hw, hs, hg, ht, hb, hm, he, hq.k (by have := h.2.2.1.1; have := h.1.1.2.2.2.2.1; omega) h.2.2.2.2.2.2.2.1, hq.q hb.1.2 hx, hv⟩
theorem zST.b {B : Int} {t : Nat → Int} {C : zM} (h : zST B t C) : t 1 ≤ 8 ∧ t 4 ≤ 5 := by
  have a := h.1.1
  have b := h.2.2.1.1
  have c := h.2.2.2.2.1.1
  exact ⟨by have := a.2.2.2.2.1; omega, by have := a.2.1; omega⟩
theorem zST.u1 {B : Int} {t : Nat → Int} {C : zM} (h : zST B t C) {c j o : Nat} {v : Int} (hp : Pl c j o) : VW (rUp t o v) (zup C c j v) ∧ tqA t (rUp t o v) := ⟨h.1.up h.b.1 h.b.2 hp, hp.q⟩
/-- one change more -/
theorem u2 {t u : Nat → Int} {D : zM} (h1 : t 1 ≤ 8 ∧ t 4 ≤ 5) (g : VW u D ∧ tqA t u) {c j o : Nat} {v : Int} (hp : Pl c j o) : VW (rUp u o v) (zup D c j v) ∧ tqA t (rUp u o v) := ⟨g.1.up (by rw [g.2.1]; exact h1.1) (by rw [g.2.2.1]; exact h1.2) hp, g.2.tr hp.q⟩
theorem st_wear {B : Int} {t : Nat → Int} {C : zM} {s : Nat} {w : Int} (h : zST B t C) (hs : (s : Int) < C 2 0) (hw : 0 ≤ w ∧ w ≤ 9) : zST B (rUp t (24 + 11 * s) w) (zup C 9 s w) := by
  have s8 : s < 8 := by have := h.2.1.1; omega
  have u := h.u1 (v := w) (pl_9 (by omega) (by omega) : Pl 9 s (24 + 11 * s))
  refine h.mk u.1 u.2 ?_ h.2.2.1 h.2.2.2.1 h.2.2.2.2.1 h.2.2.2.2.2.1 h.2.2.2.2.2.2.1 ?_ h.v
  · refine ⟨h.2.1.1, h.2.1.2.1, fun k hk => ?_, h.2.1.2.2.2⟩
    have a := h.2.1.2.2.1 k hk
    rw [zup_o 4 (by decide), zup_o 10 (by decide)]
    by_cases e : k = s
    · rw [e, zup_e, ← e]; omega
    · rw [zup_j e]; exact a
  · obtain ⟨q1, q2, q3, q4, q5⟩ := h.q
    refine ⟨q1, q2, q3, q4, fun k hk hm => ?_⟩
    have e : k ≠ s := fun z => by rw [z] at hm; exact absurd hm (by show ¬ C 2 0 ≤ _; omega)
    rw [zup_j e, zup_o 10 (by decide), zup_o 7 (by decide), zup_o 8 (by decide)]
    exact q5 k hk hm
theorem st_flow {B : Int} {t : Nat → Int} {C : zM} {s : Nat} {w : Int} (h : zST B t C) (hs : (s : Int) < C 2 0) (hw : 0 ≤ w ∧ w ≤ 1000) : zST B (rUp t (25 + 11 * s) w) (zup C 10 s w) := by
  have s8 : s < 8 := by have := h.2.1.1; omega
  have u := h.u1 (v := w) (pl_10 (by omega) (by omega) : Pl 10 s (25 + 11 * s))
  refine h.mk u.1 u.2 ?_ h.2.2.1 h.2.2.2.1 h.2.2.2.2.1 h.2.2.2.2.2.1 h.2.2.2.2.2.2.1 ?_ h.v
  · refine ⟨h.2.1.1, h.2.1.2.1, fun k hk => ?_, h.2.1.2.2.2⟩
    have a := h.2.1.2.2.1 k hk
    rw [zup_o 4 (by decide), zup_o 9 (by decide)]
    by_cases e : k = s
    · rw [e, zup_e, ← e]; omega
    · rw [zup_j e]; exact a
  · obtain ⟨q1, q2, q3, q4, q5⟩ := h.q
    refine ⟨q1, q2, q3, q4, fun k hk hm => ?_⟩
    have e : k ≠ s := fun z => by rw [z] at hm; exact absurd hm (by show ¬ C 2 0 ≤ _; omega)
    rw [zup_j e, zup_o 9 (by decide), zup_o 7 (by decide), zup_o 8 (by decide)]
    exact q5 k hk hm
theorem st_span {B : Int} {t : Nat → Int} {C : zM} {s m : Nat} {a b : Int} (h : zST B t C) (hs : (s : Int) < C 2 0) (hm : m < 3) (ha : 0 ≤ a ∧ a ≤ b ∧ b ≤ 99) : zST B (rUp (rUp t (18 + 11 * s + 2 * m) a) (19 + 11 * s + 2 * m) b) (zup (zup C 7 (3 * s + m) a) 8 (3 * s + m) b) := by
  have s8 : s < 8 := by have := h.2.1.1; omega
  have u := u2 (v := b) h.b (h.u1 (v := a) (pl_7 (by omega) (by omega) : Pl 7 (3 * s + m) (18 + 11 * s + 2 * m))) (pl_8 (by omega) (by omega) : Pl 8 (3 * s + m) (19 + 11 * s + 2 * m))
  refine h.mk u.1 u.2 ?_ h.2.2.1 h.2.2.2.1 h.2.2.2.2.1 h.2.2.2.2.2.1 h.2.2.2.2.2.2.1 ?_ h.v
  · refine ⟨h.2.1.1, h.2.1.2.1, h.2.1.2.2.1, fun k hk => ?_⟩
    have z := h.2.1.2.2.2 k hk
    rw [zup_o 7 (by decide)]
    by_cases e : k = 3 * s + m
    · rw [e, zup_e, zup_e]; omega
    · rw [zup_j e, zup_j e, zup_o 8 (by decide)]; exact z
  · obtain ⟨q1, q2, q3, q4, q5⟩ := h.q
    refine ⟨q1, q2, q3, q4, fun k hk h9 => ?_⟩
    have e : k ≠ s := fun z => by rw [z] at h9; exact absurd h9 (by show ¬ C 2 0 ≤ _; omega)
    rw [zup_o 7 (by decide), zup_o 9 (by decide), zup_o 9 (by decide), zup_o 10 (by decide), zup_o 10 (by decide), zup_j (by omega), zup_j (by omega), zup_j (by omega), zup_j (by omega), zup_j (by omega), zup_j (by omega), zup_o 8 (by decide)]
    exact q5 k hk h9
theorem st_set {B : Int} {t : Nat → Int} {C : zM} {w : Nat} {v : Int} (h : zST B t C) (hw : w < 4) (hv : setLo w ≤ v ∧ v ≤ setHi w) : zST B (rUp t (7 + w) v) (zup C 3 w v) := by
  have u := h.u1 (v := v) (pl_3 (by omega) (by omega) : Pl 3 w (7 + w))
  refine h.mk u.1 u.2 ?_ h.2.2.1 h.2.2.2.1 h.2.2.2.2.1 h.2.2.2.2.2.1 h.2.2.2.2.2.2.1 h.q h.v
  refine ⟨h.2.1.1, ?_, h.2.1.2.2⟩
  have z := h.2.1.2.1
  unfold setLo setHi at hv
  have hc : w = 0 ∨ w = 1 ∨ w = 2 ∨ w = 3 := by omega
  rcases hc with rfl | rfl | rfl | rfl
  · rw [zup_e, zup_j (by decide), zup_j (by decide), zup_j (by decide)]; simp at hv; omega
  · rw [zup_e, zup_j (by decide), zup_j (by decide), zup_j (by decide)]; simp at hv; omega
  · rw [zup_e, zup_j (by decide), zup_j (by decide), zup_j (by decide)]; simp at hv; omega
  · rw [zup_e, zup_j (by decide), zup_j (by decide), zup_j (by decide)]; simp at hv; omega
theorem st_move {B : Int} {t : Nat → Int} {C : zM} {g : Nat} {a b : Int} (h : zST B t C) (hg : (g : Int) < C 11 0) (ha : 0 ≤ a ∧ a ≤ 99) (hb : 0 ≤ b ∧ b ≤ 99) : zST B (rUp (rUp t (104 + 7 * g) a) (105 + 7 * g) b) (zup (zup C 13 g a) 14 g b) := by
  have g8 : g < 8 := by have := h.2.2.1.1; omega
  have u := u2 (v := b) h.b (h.u1 (v := a) (pl_13 (by omega) (by omega) : Pl 13 g (104 + 7 * g))) (pl_14 (by omega) (by omega) : Pl 14 g (105 + 7 * g))
  refine h.mk u.1 u.2 h.2.1 ?_ h.2.2.2.1 h.2.2.2.2.1 h.2.2.2.2.2.1 h.2.2.2.2.2.2.1 h.q h.v
  refine ⟨h.2.2.1.1, fun k hk => ?_⟩
  have z := h.2.2.1.2 k hk
  rw [zup_o 12 (by decide), zup_o 12 (by decide), zup_o 13 (by decide), zup_o 15 (by decide), zup_o 15 (by decide), zup_o 16 (by decide), zup_o 16 (by decide)]
  by_cases e : k = g
  · rw [e, zup_e, zup_e, ← e]; omega
  · rw [zup_j e, zup_j e, zup_o 14 (by decide)]; exact z
theorem st_price {B : Int} {t : Nat → Int} {C : zM} {g : Nat} {p : Int} (h : zST B t C) (hg : g < 6) (hp : 1 ≤ p ∧ p ≤ 500) : zST B (rUp t (351 + g) p) (zup C 29 g p) := by
  have u := h.u1 (v := p) (pl_29 (by omega) (by omega) : Pl 29 g (351 + g))
  obtain ⟨b1, b2, b3⟩ := h.2.2.2.2.1
  obtain ⟨q1, q2, q3, q4, q5⟩ := h.q
  refine h.mk u.1 u.2 h.2.1 h.2.2.1 h.2.2.2.1 ⟨b1, fun k hk => ?_, b3⟩ h.2.2.2.2.2.1 h.2.2.2.2.2.2.1 ⟨q1, q2, fun k hk => ?_, q4, q5⟩ h.v
  · by_cases e : k = g
    · rw [e, zup_e]; omega
    · rw [zup_j e]; exact b2 k hk
  · by_cases e : k = g
    · rw [e, zup_e]; omega
    · rw [zup_j e]; exact q3 k hk
theorem st_offer {B : Int} {t : Nat → Int} {C : zM} {g : Nat} {p : Int} (h : zST B t C) (hg : C 1 3 = g) (g6 : g < 6) (hp : 1 ≤ p ∧ p ≤ 500) : zST B (rUp (rUp t (351 + g) p) 2 ((g : Int) + 1)) (zup (zup C 29 g p) 1 3 ((g : Int) + 1)) := by
  have u := u2 (v := (g : Int) + 1) h.b (h.u1 (v := p) (pl_29 (by omega) (by omega) : Pl 29 g (351 + g))) (pl_1a (by omega) (by omega) : Pl 1 3 2)
  obtain ⟨b1, b2, b3⟩ := h.2.2.2.2.1
  obtain ⟨q1, q2, q3, q4, q5⟩ := h.q
  refine h.mk u.1 u.2 h.2.1 h.2.2.1 h.2.2.2.1 ⟨b1, fun k hk => ?_, b3⟩ h.2.2.2.2.2.1 h.2.2.2.2.2.2.1 ⟨?_, q2, fun k hk => ?_, fun b hb => ⟨?_, (q4 b hb).2⟩, q5⟩ h.v
  · rw [zup_o 29 (by decide)]
    by_cases e : k = g
    · rw [e, zup_e]; omega
    · rw [zup_j e]; exact b2 k hk
  · rw [zup_e]; omega
  · rw [zup_e] at hk
    rw [zup_o 29 (by decide)]
    by_cases e : k = g
    · rw [e, zup_e]; omega
    · rw [zup_j e]; exact q3 k (by omega)
  · have := (q4 b hb).1
    rw [zup_o 30 (by decide), zup_o 30 (by decide), zup_e]
    omega
theorem st_cost {B : Int} {t : Nat → Int} {C : zM} {k : Nat} {c : Int} (h : zST B t C) (hk : k < 4) (hc : 0 ≤ c ∧ c ≤ 999) : zST B (rUp t (11 + k) c) (zup C 23 k c) := by
  have u := h.u1 (v := c) (pl_23 (by omega) (by omega) : Pl 23 k (11 + k))
  obtain ⟨q1, q2, q3, q4, q5⟩ := h.q
  refine h.mk u.1 u.2 h.2.1 h.2.2.1 h.2.2.2.1 h.2.2.2.2.1 h.2.2.2.2.2.1 h.2.2.2.2.2.2.1 ⟨q1, fun i hi => ?_, q3, q4, q5⟩ h.v
  by_cases e : i = k
  · rw [e, zup_e]; omega
  · rw [zup_j e]; exact q2 i hi
theorem st_machine {B : Int} {t : Nat → Int} {C : zM} {n : Nat} {a b : Int} (h : zST B t C) (hn : C 1 10 = n) (n4 : n < 4) (ha : 0 ≤ a ∧ a ≤ 5) (hb : 1 ≤ b ∧ b ≤ 5) : zST B (rUp (rUp (rUp t (607 + 2 * n) a) (608 + 2 * n) b) 5 ((n : Int) + 1)) (zup (zup (zup C 34 n a) 35 n b) 1 10 ((n : Int) + 1)) := by
  have u := u2 (v := (n : Int) + 1) h.b (u2 (v := b) h.b (h.u1 (v := a) (pl_34 (by omega) (by omega) : Pl 34 n (607 + 2 * n))) (pl_35 (by omega) (by omega) : Pl 35 n (608 + 2 * n))) (pl_1b (by omega) (by omega) : Pl 1 10 5)
  refine h.mk u.1 u.2 h.2.1 h.2.2.1 h.2.2.2.1 h.2.2.2.2.1 ⟨by rw [zup_e]; omega, fun k hk => ?_⟩ h.2.2.2.2.2.2.1 h.q h.v
  have z := h.2.2.2.2.2.1.2 k hk
  rw [zup_o 34 (by decide), zup_o 34 (by decide), zup_o 35 (by decide)]
  by_cases e : k = n
  · rw [e, zup_e, zup_e]; omega
  · rw [zup_j e, zup_j e, zup_o 35 (by decide)]; exact z
theorem st_bag {B : Int} {t : Nat → Int} {C : zM} {s : Nat} (h : zST B t C) (hs : s < 8) : zST (B + 1) (rUp t (327 + s) (t (327 + s) + 1)) (zup C 20 s (C 20 s + 1)) := by
  have e0 : C 20 s = t (327 + s) := (h.1.2.2.1 s hs).2.2.2.2.2.2.1
  rw [← e0]
  have u := h.u1 (v := C 20 s + 1) (pl_20 (by omega) (by omega) : Pl 20 s (327 + s))
  obtain ⟨i1, i2, i3, i4, i5⟩ := h.2.2.2.1
  refine h.mk u.1 u.2 h.2.1 h.2.2.1 ⟨i1, i2, fun k hk => ?_, i4, i5⟩ h.2.2.2.2.1 h.2.2.2.2.2.1 h.2.2.2.2.2.2.1 h.q h.v
  have z := i3 k hk
  rw [zup_o 19 (by decide), zup_o 21 (by decide), zup_o 22 (by decide)]
  by_cases e : k = s
  · rw [e, zup_e, ← e]; omega
  · rw [zup_j e]; omega
theorem st_sort {B : Int} {t : Nat → Int} {C : zM} {s : Nat} {v a b : Int} (h : zST B t C) (hs : C 2 0 = s) (s8 : s < 8) (hv : 0 ≤ v ∧ v ≤ 200) : zST B (rUp (rUp (rUp (rUp t (15 + 11 * s) v) (16 + 11 * s) a) (17 + 11 * s) b) 0 ((s : Int) + 1)) (zup (zup (zup (zup C 4 s v) 5 s a) 6 s b) 2 0 ((s : Int) + 1)) := by
  have u := u2 (v := (s : Int) + 1) h.b (u2 (v := b) h.b (u2 (v := a) h.b (h.u1 (v := v) (pl_4 (by omega) (by omega) : Pl 4 s (15 + 11 * s))) (pl_5 (by omega) (by omega) : Pl 5 s (16 + 11 * s))) (pl_6 (by omega) (by omega) : Pl 6 s (17 + 11 * s))) (pl_2 (by omega) (by omega) : Pl 2 0 0)
  obtain ⟨q1, q2, q3, q4, q5⟩ := h.q
  refine h.mk u.1 u.2 ⟨by rw [zup_e]; omega, h.2.1.2.1, fun k hk => ?_, h.2.1.2.2.2⟩ h.2.2.1 h.2.2.2.1 h.2.2.2.2.1 h.2.2.2.2.2.1 (fun k hk h9 => ?_) ⟨q1, q2, q3, q4, fun k hk h9 => ?_⟩ (fun i hi => by
    have z := h.v i hi
    show C 25 i < _
    rw [zup_e]
    omega)
  · have z := h.2.1.2.2.1 k hk
    rw [zup_o 4 (by decide), zup_o 4 (by decide), zup_o 4 (by decide), zup_o 9 (by decide), zup_o 9 (by decide), zup_o 9 (by decide), zup_o 9 (by decide), zup_o 10 (by decide), zup_o 10 (by decide), zup_o 10 (by decide), zup_o 10 (by decide)]
    by_cases e : k = s
    · rw [e, zup_e, ← e]; omega
    · rw [zup_j e]; exact z
  · rw [zup_e] at h9
    exact h.2.2.2.2.2.2.1 k hk (by omega)
  · rw [zup_e] at h9
    exact q5 k hk (by omega)
end
