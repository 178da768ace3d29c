section
/-- the best change of a sum: a row of coins -/
def isOpt (c v : Nat → Nat) (s : Nat) (x : Nat → Nat) : Prop := FV c v 8 x s ∧ ∀ y, FV c v 8 y s → wV x 8 ≤ wV y 8
def nrm (x : Nat → Nat) : Nat → Nat := fun i => if i < 8 then x i else 0
noncomputable def chg (c v : Nat → Nat) (s : Int) : Option (Nat → Nat) := @dite (Option (Nat → Nat)) (∃ x, 0 ≤ s ∧ isOpt c v s.toNat x) (Classical.propDecidable _) (fun h => some (nrm (Classical.choose h))) (fun _ => none)
theorem nrm_e {x : Nat → Nat} {i : Nat} (h : i < 8) : nrm x i = x i := by unfold nrm; rw [if_pos h]
theorem FV_nrm {c v x : Nat → Nat} {s : Nat} (h : FV c v 8 x s) : FV c v 8 (nrm x) s := ⟨fun i hi => by rw [nrm_e hi]; exact h.1 i hi, by rw [← h.2]; exact sumN_c 8 (fun i hi => by rw [nrm_e hi])⟩
theorem wV_nrm (x : Nat → Nat) : wV (nrm x) 8 = wV x 8 := by
  unfold wV
  exact sumU_c 8 (fun i hi => by rw [nrm_e hi])
theorem opt_u {c v x y : Nat → Nat} {s : Nat} (hc : ∀ i, i < 8 → c i ≤ 20) (hx : isOpt c v s x) (hy : isOpt c v s y) : nrm x = nrm y := by
  have e : wV x 8 = wV y 8 := Int.le_antisymm (hx.2 y hy.1) (hy.2 x hx.1)
  funext i
  by_cases h : i < 8
  · rw [nrm_e h, nrm_e h]
    have a := shr_wV (x := x) (fun i hi => Nat.le_trans (hx.1.1 i hi) (hc i hi)) i h
    have b := shr_wV (x := y) (fun i hi => Nat.le_trans (hy.1.1 i hi) (hc i hi)) i h
    rw [e, b] at a
    omega
  · unfold nrm
    rw [if_neg h, if_neg h]
theorem chg_some {c v x : Nat → Nat} {s : Int} (hc : ∀ i, i < 8 → c i ≤ 20) (h0 : 0 ≤ s) (h : isOpt c v s.toNat x) : chg c v s = some (nrm x) := by
  unfold chg
  have H : ∃ x, 0 ≤ s ∧ isOpt c v s.toNat x := ⟨x, h0, h⟩
  rw [dif_pos H]
  congr 1
  exact opt_u hc (Classical.choose_spec H).2 h
theorem chg_none {c v : Nat → Nat} {s : Int} (h : ¬ (0 ≤ s ∧ ∃ x, FV c v 8 x s.toNat)) : chg c v s = none := by
  unfold chg
  rw [dif_neg (fun ⟨x, h0, hx⟩ => h ⟨h0, x, hx.1⟩)]
theorem wV_r {x : Nat → Nat} (h : ∀ i, i < 8 → x i ≤ 20) : 0 ≤ wV x 8 ∧ wV x 8 ≤ 175921860444160 := by
  have := sumU_r (f := fun i => (x i : Int) * wgt i) (c := 21990232555520) (N := 8) (fun i hi => by
    have w := wgt_r i hi
    have := zmulr (a := (x i : Int)) (A := 20) (b := wgt i) (B := 1099511627776) (by omega) (by have := h i hi; omega) (by omega) (by omega)
    show 0 ≤ (x i : Int) * wgt i ∧ (x i : Int) * wgt i ≤ 21990232555520
    omega) 8 (Nat.le_refl _)
  unfold wV
  omega
theorem lsL_chg {f : Nat → Int} {c v : Nat → Nat} {top s : Nat} (h : lsL f c v 8 top) (hc : ∀ i, i < 8 → c i ≤ 20) (hs : s ≤ top) : (f s = 1152921504606846976 ∧ chg c v s = none) ∨ ∃ x, chg c v s = some x ∧ isOpt c v s x ∧ f s = wV x 8 ∧ f s < 1152921504606846976 := by
  obtain ⟨a, b, d⟩ := h s hs
  rcases d with d | ⟨x, hx, d⟩
  · left
    refine ⟨d, chg_none (fun z => ?_)⟩
    obtain ⟨_, x, hx⟩ := z
    rw [Int.toNat_natCast] at hx
    have u1 := b x hx
    have u2 := wV_r (x := x) (fun i hi => Nat.le_trans (hx.1 i hi) (hc i hi))
    omega
  · right
    have hn : wV (nrm x) 8 = wV x 8 := wV_nrm x
    have ho : isOpt c v s (nrm x) := ⟨FV_nrm hx, fun y hy => by rw [hn, ← d]; exact b y hy⟩
    have u2 := wV_r (x := x) (fun i hi => Nat.le_trans (hx.1 i hi) (hc i hi))
    refine ⟨nrm x, ?_, ho, by rw [hn]; exact d, by omega⟩
    have := chg_some hc (s := (s : Int)) (by omega) (x := x) (by rw [Int.toNat_natCast]; exact ⟨hx, fun y hy => by rw [← d]; exact b y hy⟩)
    exact this
theorem lsL_c {f : Nat → Int} {c c' v : Nat → Nat} {top : Nat} (h : lsL f c v 8 top) (e : ∀ i, i < 8 → c i = c' i) : lsL f c' v 8 top := fun s hs => by
  have k : ∀ x, FV c' v 8 x s ↔ FV c v 8 x s := fun x => ⟨fun z => ⟨fun i hi => by rw [e i hi]; exact z.1 i hi, z.2⟩, fun z => ⟨fun i hi => by rw [← e i hi]; exact z.1 i hi, z.2⟩⟩
  obtain ⟨a, b, d⟩ := h s hs
  refine ⟨a, fun x hx => b x ((k x).mp hx), ?_⟩
  rcases d with d | ⟨x, hx, d⟩
  · exact Or.inl d
  · exact Or.inr ⟨x, (k x).mpr hx, d⟩
theorem chg_inv {c v x : Nat → Nat} {s : Int} (h : chg c v s = some x) : 0 ≤ s ∧ isOpt c v s.toNat x := by
  unfold chg at h
  by_cases H : ∃ x, 0 ≤ s ∧ isOpt c v s.toNat x
  · rw [dif_pos H] at h
    have e := Option.some.inj h
    have hs := Classical.choose_spec H
    refine ⟨hs.1, ?_⟩
    rw [← e]
    exact ⟨FV_nrm hs.2.1, fun y hy => by rw [wV_nrm]; exact hs.2.2 y hy⟩
  · rw [dif_neg H] at h
    cases h
/-- the tubes behind a sale, and the most sales in the mean -/
def nh (f : Nat → Int) (a : Nat) : Nat → Int := fun k => if k < 8 then f (a + k) else 0
def addC (M : zM) (b : Nat) (h : Nat → Int) : Nat → Nat → Int
  | 0, k => h k
  | i + 1, k => if k = (M 31 (b * 4 + i)).toNat then min 20 (addC M b h i k + 1) else addC M b h i k
def lessC (h : Nat → Int) (x : Nat → Nat) : Nat → Int := fun k => if k < 8 then h k - x k else 0
def sold (M : zM) (b : Nat) (h : Nat → Int) (x : Nat → Nat) : Nat → Int := addC M b (lessC h x) (M 32 b).toNat
def mxB (o : Option (Nat → Nat)) (w : Int) (f : (Nat → Nat) → Int) : Int := match o with
  | some x => max w (f x)
  | none => w
noncomputable def mostR (M : zM) : Nat → (Nat → Int) → Int
  | 0, _ => 0
  | n + 1, h => sumU (fun b => M 33 b * mxB (chg (cap M h) (val M) (abv M b)) (mostR M n h) (fun x => powM M n + mostR M n (sold M b h x))) (M 1 5).toNat
def Bq : Nat → Int
  | 0 => 0
  | n + 1 => 45 * (91125 + Bq n)
theorem Bq_r : ∀ n, n ≤ 3 → 0 ≤ Bq n ∧ Bq n ≤ 10000000000 := by decide
theorem mxB_r {o : Option (Nat → Nat)} {w c : Int} {f : (Nat → Nat) → Int} (h : 0 ≤ w ∧ w ≤ c) (hf : ∀ x, f x ≤ c) : 0 ≤ mxB o w f ∧ mxB o w f ≤ c := by
  cases o with
  | none => exact h
  | some x => have := hf x
              show 0 ≤ max w (f x) ∧ max w (f x) ≤ c
              omega
theorem mostR_r {M : zM} (hb : ICb M) : ∀ n, n ≤ 3 → ∀ h, 0 ≤ mostR M n h ∧ mostR M n h ≤ Bq n
  | 0, _, h => by simp [mostR, Bq]
  | n + 1, hn, h => by
    have a := mostR_r hb n (by omega)
    have p := powM_r hb n (by omega)
    have q := Bq_r n (by omega)
    have t := sumU_r (f := fun b => M 33 b * mxB (chg (cap M h) (val M) (abv M b)) (mostR M n h) (fun x => powM M n + mostR M n (sold M b h x))) (c := 9 * (91125 + Bq n)) (N := 5) (fun i hi => by
      have c := hb.2.2 i hi
      have w := mxB_r (o := chg (cap M h) (val M) (abv M i)) (w := mostR M n h) (c := 91125 + Bq n) (f := fun x => powM M n + mostR M n (sold M i h x)) (by have := a h; omega) (fun x => by have := a (sold M i h x); omega)
      exact zmulr c.2.2.2.2.1 c.2.2.2.2.2.1 w.1 w.2) (M 1 5).toNat (by have := hb.1; omega)
    have hn5 : ((M 1 5).toNat : Int) ≤ 5 := by have := hb.1; omega
    have t2 : 9 * (91125 + Bq n) * ((M 1 5).toNat : Int) ≤ 9 * (91125 + Bq n) * 5 := Int.mul_le_mul_of_nonneg_left hn5 (by omega)
    simp only [mostR, Bq]
    omega
theorem addC_r {M : zM} {b : Nat} {h : Nat → Int} (hh : ∀ k, k < 8 → 0 ≤ h k ∧ h k ≤ 20) : ∀ n k, k < 8 → 0 ≤ addC M b h n k ∧ addC M b h n k ≤ 20
  | 0, k, hk => hh k hk
  | n + 1, k, hk => by
    have := addC_r (M := M) (b := b) hh n k hk
    simp only [addC]
    split <;> omega
def rowOk (r : Int) (o : Option (Nat → Nat)) : Prop := match o with
  | some x => r = wV x 8
  | none => r = -1
theorem lp_X5_top {E : zE} {X : zX} {Qp : Option zV → zM → Prop} {M : zM} {t : Nat} (S : zS (zg E) X cX5_findChange 4 wzX5_findChange RX5 none) (hs : ICs M) (hb : ICb M) (ha : ∀ j, j < (M 1 5).toNat → M 61 j = abv M j) (hk : ∀ (tp : Int), 0 ≤ tp → tp ≤ 800 → (∀ j, j < (M 1 5).toNat → abv M j ≤ tp) → zK (zg E) rmX5_findChange 4 (Qp, 0, 0) X (0, 0) 32 [some (zR 59), some (zI t), some (zI tp), some (zI (M 1 5))] [] M) : ∀ (m i : Nat) (tp : Int), (m : Int) + i = M 1 5 → 0 ≤ tp → tp ≤ 800 → (∀ j, j < i → abv M j ≤ tp) → zK (zg E) rmX5_findChange 4 (Qp, 0, 0) X (0, 0) 4 [some (zR 59), some (zI t), some (zI tp), some (zI i)] [] M := by
  have h1 := hb.1
  intro m
  induction m with
  | zero =>
    intro i tp hi t0 t1 hj
    have e : i = (M 1 5).toNat := by omega
    have q := hk tp t0 t1 (by rw [← e]; exact hj)
    rw [show M 1 5 = (i : Int) by omega] at q
    refine zr_iload_n (pc := 4) S dX5_findChange_4 rfl ?_
    refine zr_aload_n (pc := 5) S dX5_findChange_5 rfl ?_
    refine zr_getR (pc := 6) S fX5_findChange_28 dX5_findChange_6 rfl (Nat.le_of_ble_eq_true rfl) rfl ?_
    refine zr_getI (pc := 9) S fX5_findChange_70 dX5_findChange_9 rfl (Nat.le_of_ble_eq_true rfl) rfl ?_
    refine zr_icmp_ge (pc := 12) (tgt := 32) S dX5_findChange_12 (by decide) (fun c12 => ?_) (fun c12 => absurd c12 (by omega))
    exact q
  | succ m ih =>
    intro i tp hi t0 t1 hj
    have e : (i : Int).toNat = i := Int.toNat_natCast i
    have a := ha i (by omega)
    have r := abv_r hs hb (b := i) (by omega)
    have q := ih (i + 1) (max tp (abv M i)) (by omega) (by omega) (by omega) (fun j h => by
      by_cases ej : j = i
      · rw [ej]; omega
      · have := hj j (by omega); omega)
    refine zr_iload_n (pc := 4) S dX5_findChange_4 rfl ?_
    refine zr_aload_n (pc := 5) S dX5_findChange_5 rfl ?_
    refine zr_getR (pc := 6) S fX5_findChange_28 dX5_findChange_6 rfl (Nat.le_of_ble_eq_true rfl) rfl ?_
    refine zr_getI (pc := 9) S fX5_findChange_70 dX5_findChange_9 rfl (Nat.le_of_ble_eq_true rfl) rfl ?_
    refine zr_icmp_ge (pc := 12) (tgt := 32) S dX5_findChange_12 (by decide) (fun c12 => absurd c12 (by omega)) (fun c12 => ?_)
    refine zr_iload_n (pc := 15) S dX5_findChange_15 rfl ?_
    refine zr_aload_n (pc := 16) S dX5_findChange_16 rfl ?_
    refine zr_getR (pc := 17) S fX5_findChange_15 dX5_findChange_17 rfl (Nat.le_of_ble_eq_true rfl) rfl ?_
    refine zr_iload_n (pc := 20) S dX5_findChange_20 rfl ?_
    refine zr_iaload (pc := 21) S dX5_findChange_21 rfl (Nat.le_of_ble_eq_true rfl) (by omega) (by omega) ?_
    rw [e, a]
    refine zr_mmax (pc := 22) S kX5_findChange_116 dX5_findChange_22 (Nat.le_of_ble_eq_true rfl) (Nat.le_of_ble_eq_true rfl) ⟨Nat.le_of_ble_eq_true rfl, Nat.le_of_ble_eq_true rfl⟩ ?_
    refine zr_istore_n (pc := 25) S 2 dX5_findChange_25 rfl (by decide) ?_
    dsimp only [zst1, zst2, zset, zget, zlong]
    refine zr_iinc (pc := 26) S dX5_findChange_26 rfl (by unfold zrI; omega) (by decide) ?_
    dsimp only [zst1, zst2, zset, zget, zlong]
    refine zr_goto (pc := 29) (tgt := 4) S dX5_findChange_29 (by decide) ?_
    exact q
theorem lp_X5_rows {E : zE} {X : zX} {Qp : Option zV → zM → Prop} {M T : zM} {t : Nat} {tp : Int} {c : Nat → Nat} (S : zS (zg E) X cX5_findChange 4 wzX5_findChange RX5 none) (ht : t < 3) (hs : ICs M) (hb : ICb M) (ha : ∀ j, j < (M 1 5).toNat → M 61 j = abv M j) (hT : offL M T) (hL : lsL (T 54) c (val M) 8 tp.toNat) (hc : ∀ i, i < 8 → c i ≤ 20) (h0 : 0 ≤ tp) (h1 : tp ≤ 800) (hj : ∀ j, j < (M 1 5).toNat → abv M j ≤ tp) (hQ : ∀ (r : Option zV) (M' : zM), (r = none ∧ (∀ k, k ≠ 54 → k ≠ 62 → M' k = M k) ∧ (∀ j, (j < t * 5 ∨ t * 5 + 5 ≤ j) → M' 62 j = M 62 j) ∧ (∀ b, b < (M 1 5).toNat → rowOk (M' 62 (t * 5 + b)) (chg c (val M) (abv M b)))) → Qp r M') : ∀ (m i : Nat) (U : zM), (m : Int) + i = M 1 5 → (∀ k, k ≠ 62 → U k = T k) → (∀ j, (j < t * 5 ∨ t * 5 + 5 ≤ j) → U 62 j = M 62 j) → (∀ b, b < i → rowOk (U 62 (t * 5 + b)) (chg c (val M) (abv M b))) → zK (zg E) rmX5_findChange 4 (Qp, 0, 0) X (0, 0) 50 [some (zR 59), some (zI t), some (zI tp), some (zI i)] [] U := by
  have h5 := hb.1
  intro m
  induction m with
  | zero =>
    intro i U hi u1 u2 u3
    have e : i = (M 1 5).toNat := by omega
    have e2 : U 1 = M 1 := by rw [u1 _ (by decide), hT _ (by decide)]
    have q := hQ none U ⟨rfl, fun k k1 k2 => by rw [u1 k k2, hT k k1], u2, by rw [← e]; exact u3⟩
    refine zr_iload_n (pc := 50) S dX5_findChange_50 rfl ?_
    refine zr_aload_n (pc := 51) S dX5_findChange_51 rfl ?_
    refine zr_getR (pc := 52) S fX5_findChange_28 dX5_findChange_52 rfl (Nat.le_of_ble_eq_true rfl) rfl ?_
    refine zr_getI (pc := 55) S fX5_findChange_70 dX5_findChange_55 rfl (Nat.le_of_ble_eq_true rfl) rfl ?_
    rw [e2]
    refine zr_icmp_ge (pc := 58) (tgt := 113) S dX5_findChange_58 (by decide) (fun c58 => ?_) (fun c58 => absurd c58 (by omega))
    exact zr_vret (pc := 113) S dX5_findChange_113 rfl ⟨Nat.le_refl _, Nat.le_refl _⟩ (q)
  | succ m ih =>
    intro i U hi u1 u2 u3
    have e : (i : Int).toNat = i := Int.toNat_natCast i
    have e2 : U 1 = M 1 := by rw [u1 _ (by decide), hT _ (by decide)]
    have e3 : U 61 i = abv M i := by rw [u1 _ (by decide), hT _ (by decide), ha i (by omega)]
    have e4 : U 54 = T 54 := u1 _ (by decide)
    have ej : ((t : Int) * 5 + i).toNat = t * 5 + i := by omega
    have r := abv_r hs hb (b := i) (by omega)
    have hji := hj i (by omega)
    have q := fun (v : Int) (hv : rowOk v (chg c (val M) (abv M i))) => ih (i + 1) (zup U 62 (t * 5 + i) v) (by omega) (fun k hk => by rw [zup_o k hk, u1 k hk]) (fun j hj => by rw [zup_j (by omega)]; exact u2 j hj) (fun b hb => by
      by_cases eb : b = i
      · rw [eb, zup_e]; exact hv
      · rw [zup_j (by omega)]; exact u3 b (by omega))
    have cn : ¬ (0 ≤ abv M i ∧ abv M i ≤ 4800 ∧ T 54 (abv M i).toNat < 1152921504606846976) → rowOk (-1) (chg c (val M) (abv M i)) := fun z => by
      by_cases z0 : 0 ≤ abv M i
      · rcases lsL_chg hL hc (s := (abv M i).toNat) (by omega) with ⟨g1, g2⟩ | ⟨x, g1, g2, g3, g4⟩
        · rw [Int.toNat_of_nonneg z0] at g2
          rw [g2]
          rfl
        · exact absurd ⟨z0, by omega, g4⟩ z
      · rw [chg_none (fun y => z0 y.1)]
        rfl
    have cs : (0 ≤ abv M i ∧ abv M i ≤ 4800 ∧ T 54 (abv M i).toNat < 1152921504606846976) → rowOk (T 54 (abv M i).toNat) (chg c (val M) (abv M i)) := fun z => by
      rcases lsL_chg hL hc (s := (abv M i).toNat) (by omega) with ⟨g1, g2⟩ | ⟨x, g1, g2, g3, g4⟩
      · exact absurd z.2.2 (by omega)
      · rw [Int.toNat_of_nonneg z.1] at g1
        rw [g1]
        exact g3
    refine zr_iload_n (pc := 50) S dX5_findChange_50 rfl ?_
    refine zr_aload_n (pc := 51) S dX5_findChange_51 rfl ?_
    refine zr_getR (pc := 52) S fX5_findChange_28 dX5_findChange_52 rfl (Nat.le_of_ble_eq_true rfl) rfl ?_
    refine zr_getI (pc := 55) S fX5_findChange_70 dX5_findChange_55 rfl (Nat.le_of_ble_eq_true rfl) rfl ?_
    rw [e2]
    refine zr_icmp_ge (pc := 58) (tgt := 113) S dX5_findChange_58 (by decide) (fun c58 => absurd c58 (by omega)) (fun c58 => ?_)
    refine zr_aload_n (pc := 61) S dX5_findChange_61 rfl ?_
    refine zr_getR (pc := 62) S fX5_findChange_18 dX5_findChange_62 rfl (Nat.le_of_ble_eq_true rfl) rfl ?_
    refine zr_iload_n (pc := 65) S dX5_findChange_65 rfl ?_
    refine zr_iconst (pc := 66) S dX5_findChange_66 (by unfold zrI; omega) ?_
    refine zr_imul (pc := 67) S dX5_findChange_67 (by unfold zrI; omega) ?_
    refine zr_iload_n (pc := 68) S dX5_findChange_68 rfl ?_
    refine zr_iadd (pc := 69) S dX5_findChange_69 (by unfold zrI; omega) ?_
    refine zr_aload_n (pc := 70) S dX5_findChange_70 rfl ?_
    refine zr_getR (pc := 71) S fX5_findChange_39 dX5_findChange_71 rfl (Nat.le_of_ble_eq_true rfl) rfl ?_
    refine zr_aload_n (pc := 74) S dX5_findChange_74 rfl ?_
    refine zr_getR (pc := 75) S fX5_findChange_15 dX5_findChange_75 rfl (Nat.le_of_ble_eq_true rfl) rfl ?_
    refine zr_iload_n (pc := 78) S dX5_findChange_78 rfl ?_
    refine zr_iaload (pc := 79) S dX5_findChange_79 rfl (Nat.le_of_ble_eq_true rfl) (by omega) (by omega) ?_
    rw [e, e3]
    refine zr_invV (pc := 80) S [zI _] (m_X0_hasFor _) kX5_findChange_125 dX5_findChange_80 rfl (Nat.le_of_ble_eq_true rfl) rfl (Nat.le_of_ble_eq_true rfl) ⟨Nat.le_of_ble_eq_true rfl, Nat.le_of_ble_eq_true rfl⟩ (us_X0_hasFor ?_)
    dsimp only [zaft, Option.toList, List.cons_append, List.nil_append, Nat.add_zero]
    refine zr_if_eq (pc := 83) (tgt := 103) S dX5_findChange_83 (by decide) (fun c83 => ?_) (fun c83 => ?_)
    · rw [b01_0] at c83
      rw [e4] at c83
      have q0 := q _ (cn c83)
      refine zr_ldc2 (pc := 103) S (-1) dX5_findChange_103 (List.mem_cons_of_mem _ (zWi_7 _ (List.mem_of_getElem? (i := 34) rfl))) (by unfold zrL; omega) ?_
      refine zr_lastore (pc := 106) S dX5_findChange_106 rfl (Nat.le_of_ble_eq_true rfl) (by omega) (by omega) ?_
      rw [ej]
      refine zr_iinc (pc := 107) S dX5_findChange_107 rfl (by unfold zrI; omega) (by decide) ?_
      dsimp only [zst1, zst2, zset, zget, zlong]
      refine zr_goto (pc := 110) (tgt := 50) S dX5_findChange_110 (by decide) ?_
      exact q0
    · rw [b01_0, Classical.not_not] at c83
      rw [e4] at c83
      have q0 := q _ (cs c83)
      refine zr_aload_n (pc := 86) S dX5_findChange_86 rfl ?_
      refine zr_getR (pc := 87) S fX5_findChange_39 dX5_findChange_87 rfl (Nat.le_of_ble_eq_true rfl) rfl ?_
      refine zr_getR (pc := 90) S fX5_findChange_128 dX5_findChange_90 rfl (Nat.le_of_ble_eq_true rfl) rfl ?_
      refine zr_aload_n (pc := 93) S dX5_findChange_93 rfl ?_
      refine zr_getR (pc := 94) S fX5_findChange_15 dX5_findChange_94 rfl (Nat.le_of_ble_eq_true rfl) rfl ?_
      refine zr_iload_n (pc := 97) S dX5_findChange_97 rfl ?_
      refine zr_iaload (pc := 98) S dX5_findChange_98 rfl (Nat.le_of_ble_eq_true rfl) (by omega) (by omega) ?_
      rw [e, e3]
      refine zr_laload (pc := 99) S dX5_findChange_99 rfl (Nat.le_of_ble_eq_true rfl) (by omega) (by omega) ?_
      rw [e4]
      refine zr_goto (pc := 100) (tgt := 106) S dX5_findChange_100 (by decide) ?_
      refine zr_lastore (pc := 106) S dX5_findChange_106 rfl (Nat.le_of_ble_eq_true rfl) (by omega) (by omega) ?_
      rw [ej]
      refine zr_iinc (pc := 107) S dX5_findChange_107 rfl (by unfold zrI; omega) (by decide) ?_
      dsimp only [zst1, zst2, zset, zget, zlong]
      refine zr_goto (pc := 110) (tgt := 50) S dX5_findChange_110 (by decide) ?_
      exact q0
def sp_X5_findChange (as : List zV) (M : zM) (Q : Option zV → zM → Prop) : Prop := ∃ (t : Nat), as = [zR 59, zI t] ∧ (t < 3) ∧ (ICs M) ∧ (ICb M) ∧ (∀ j, j < (M 1 5).toNat → M 61 j = abv M j) ∧ (∀ k, k < 8 → 0 ≤ M 60 (t * 8 + k) ∧ M 60 (t * 8 + k) ≤ 20) ∧ (∀ (r : Option zV) (M' : zM), (r = none ∧ (∀ k, k ≠ 54 → k ≠ 62 → M' k = M k) ∧ (∀ j, (j < t * 5 ∨ t * 5 + 5 ≤ j) → M' 62 j = M 62 j) ∧ (∀ b, b < (M 1 5).toNat → rowOk (M' 62 (t * 5 + b)) (chg (cap M (nh (M 60) (t * 8))) (val M) (abv M b)))) → Q r M')
theorem us_X5_findChange {t : Nat} {M : zM} {Q : Option zV → zM → Prop} (ht : t < 3) (hs : ICs M) (hb : ICb M) (ha : ∀ j, j < (M 1 5).toNat → M 61 j = abv M j) (hh : ∀ k, k < 8 → 0 ≤ M 60 (t * 8 + k) ∧ M 60 (t * 8 + k) ≤ 20) (h99 : (∀ (r : Option zV) (M' : zM), (r = none ∧ (∀ k, k ≠ 54 → k ≠ 62 → M' k = M k) ∧ (∀ j, (j < t * 5 ∨ t * 5 + 5 ≤ j) → M' 62 j = M 62 j) ∧ (∀ b, b < (M 1 5).toNat → rowOk (M' 62 (t * 5 + b)) (chg (cap M (nh (M 60) (t * 8))) (val M) (abv M b)))) → Q r M')) : sp_X5_findChange [zR 59, zI t] M Q := ⟨t, rfl, ht, hs, hb, ha, hh, h99⟩
set_option maxRecDepth 20000 in
set_option maxHeartbeats 4000000 in
theorem m_X5_findChange (l : Launch) : zC l yX5_findChange wzX5_findChange rmX5_findChange sp_X5_findChange := by
  refine zMet.of RX5 (by decide +kernel) rfl rfl ?_
  intro E X as M Qp hX S hsp
  obtain ⟨t, rfl, ht, hs, hb, ha, hh, hQ⟩ := hsp
  refine ⟨Nat.le_of_ble_eq_true rfl, ?_⟩
  dsimp only [zpad, zargs]
  have hc : ∀ i, i < 8 → cap M (nh (M 60) (t * 8)) i ≤ 20 := fun i hi => by
    have := hh i hi
    unfold cap nh
    simp only [hi, if_true]
    split <;> omega
  have q := lp_X5_top (t := t) (Qp := Qp) S hs hb ha (fun tp t0 t1 tj => by
    have et : (max 0 (min tp 4800)).toNat = tp.toNat := by omega
    have e8 : (t : Int) * 8 = ((t * 8 : Nat) : Int) := by omega
    refine zr_aload_n (pc := 32) S dX5_findChange_32 rfl ?_
    refine zr_getR (pc := 33) S fX5_findChange_39 dX5_findChange_33 rfl (Nat.le_of_ble_eq_true rfl) rfl ?_
    refine zr_aload_n (pc := 36) S dX5_findChange_36 rfl ?_
    refine zr_getR (pc := 37) S fX5_findChange_9 dX5_findChange_37 rfl (Nat.le_of_ble_eq_true rfl) rfl ?_
    refine zr_iload_n (pc := 40) S dX5_findChange_40 rfl ?_
    refine zr_bipush (pc := 41) S dX5_findChange_41 ⟨by unfold zrI; omega, by decide⟩ ?_
    refine zr_imul (pc := 43) S dX5_findChange_43 (by unfold zrI; omega) ?_
    rw [e8]
    refine zr_iload_n (pc := 44) S dX5_findChange_44 rfl ?_
    refine zr_invV (pc := 45) S [zR _, zI _, zI _] (m_X0_spread _) kX5_findChange_119 dX5_findChange_45 rfl (Nat.le_of_ble_eq_true rfl) rfl (Nat.le_of_ble_eq_true rfl) ⟨Nat.le_of_ble_eq_true rfl, Nat.le_of_ble_eq_true rfl⟩ (us_X0_spread (n := 32) rfl (Nat.le_of_ble_eq_true rfl) (by decide) (by omega) (by decide) hs hh ?_)
    dsimp only [zaft, Option.toList, List.cons_append, List.nil_append, Nat.add_zero]
    rintro r T ⟨rfl, hT, hL⟩
    dsimp only [zaft, Option.toList, List.nil_append]
    rw [et] at hL
    have q2 := lp_X5_rows S ht hs hb ha hT (lsL_c hL (fun i hi => by unfold cap nh; simp only [hi, if_true])) hc t0 t1 tj hQ (M 1 5).toNat 0 T (by have := hb.1; omega) (fun _ _ => rfl) (fun j _ => by rw [hT _ (by decide)]) (fun b hb => by omega)
    refine zr_iconst (pc := 48) S dX5_findChange_48 (by unfold zrI; omega) ?_
    refine zr_istore_n (pc := 49) S 3 dX5_findChange_49 rfl (by decide) ?_
    dsimp only [zst1, zst2, zset, zget, zlong]
    exact q2) (M 1 5).toNat 0 0 (by have := hb.1; omega) (by omega) (by omega) (fun j hj => by omega)
  refine zr_iconst (pc := 0) S dX5_findChange_0 (by unfold zrI; omega) ?_
  refine zr_istore_n (pc := 1) S 2 dX5_findChange_1 rfl (by decide) ?_
  dsimp only [zst1, zst2, zset, zget, zlong]
  refine zr_iconst (pc := 2) S dX5_findChange_2 (by unfold zrI; omega) ?_
  refine zr_istore_n (pc := 3) S 3 dX5_findChange_3 rfl (by decide) ?_
  dsimp only [zst1, zst2, zset, zget, zlong]
  exact q
end
