section
/-- what a coin is taken as is a good sort, or nothing -/
theorem gw_g {M : zM} {p : Nat → Bool} : ∀ f g, gw M p f g = -1 ∨ isGood M (gw M p f g)
  | 0, _ => Or.inl rfl
  | f + 1, g => by
    unfold gw
    generalize (if p g = true then M 15 g else M 16 g) = v
    split
    · split
      · exact gw_g f (g + 1)
      · split
        · exact gw_g f (g + 2)
        · split
          · rename_i h; exact Or.inr h
          · exact Or.inl rfl
    · exact Or.inl rfl
theorem takes_g (M : zM) (w b r : Int) : takes M w b r = -1 ∨ isGood M (takes M w b r) := gw_g 9 0
/-- .. where the reference has left its scratch -/
theorem fin_Y {B : Int} {M N1 D P : zM} {t : Nat → Int} {v w : Int} (g : RR B M) (hD : ∀ k, rD k ∨ k = 180 → D k = M k) (h1 : ∀ k, (k < 47 ∨ 66 < k) → k ≠ 201 → N1 k = D k) (ho : N1 201 0 = v) (o : offY (zrow (tz N1 0) 181 t) P) (st : zST (B + 24) t D) (e : w = v) : fin B 0 (some (zI w)) P := by
  have d180 : N1 180 = M 180 := (h1 _ (by decide) (by decide)).trans (hD _ (Or.inr rfl))
  have p180 : ∀ j, j ≠ 3 → P 180 j = M 180 j := fun j hj => by
    rw [o _ (by decide), zrow_o (by decide)]; dsimp only [tz]; rw [zup_j hj, d180]
  refine fin_r g (C := D) (t := t) (fun k a b => ?_) (fun k hk => ?_) (p180 _ (by decide)) (p180 _ (by decide)) (p180 _ (by decide)) ((p180 _ (by decide)).trans g.2.2.2.2.1) (by rw [o _ (by decide), zrow_e]) st ?_ ?_
  · rw [o k (by omega), zrow_o (by omega)]; dsimp only [tz]; rw [zup_o k (by omega)]; exact h1 k (by omega) (by omega)
  · rw [o k (by omega), zrow_o (by omega)]; dsimp only [tz]; rw [zup_o k (by omega), h1 k (by omega) (by omega)]; exact hD k (Or.inl hk)
  · rw [o _ (by decide), zrow_o (by decide)]; exact zup_e
  · rw [o _ (by decide), zrow_o (by decide)]; dsimp only [tz]; rw [zup_o 201 (by decide), ho, e]
theorem step_sale {B : Int} {M : zM} {s : Int} (g : RR B M) (hB : B ≤ 12300) : sp_X11_sale [zR 0, zI s] M (hp cdN (fun k N => sp_X12_sale [zR 180, zI s] N (fin B k))) := by
  have z := g.1
  have e2 := g.e2
  have q6 := z.q.1
  have hI := z.2.2.2.1
  have hb := z.2.2.2.2.1
  have he := z.2.2.2.2.2.2.1
  have ep : (0 ≤ s ∧ s < M 1 3) → M 181 (351 + s).toNat = M 29 s.toNat := fun h => by
    rw [z.1.2.2.2.2.2.2.2.1 s.toNat (by omega)]
    congr 1 <;> omega
  refine us_X11_sale q6 z.2.1 hb hI (by omega) (fun h1 x hx N o => ?_) (fun h1 hx N o => ?_) (fun h1 => ⟨1, rfl, ?_⟩)
  · have ci := (chg_inv hx).2.1.1
    have cr := capT_r hI
    have x1 : ∀ i, i < 8 → (x i : Int) ≤ M 19 i ∧ x i ≤ 20 := fun i hi => by
      have a := ci i hi
      have b := cr i hi
      omega
    have x2 : ∀ i : Nat, i < 8 → M 2 0 ≤ i → x i = 0 := fun i hi h9 => by
      have a := ci i hi
      have b := (cr i hi).2
      have c := he i hi h9
      omega
    obtain ⟨st, ea⟩ := st_sale z (x := x) (fun i hi => (x1 i hi).1) x2
    have sO : ∀ k, (k < 17 ∨ 28 < k) → saleM M x k = M k := fun k hk => by
      unfold saleM
      rw [zup_o k (by omega), s2t_o (by omega), gvA_o (by omega), zup_o k (by omega)]
    generalize hv : saleM M x 17 11 = v at *
    have t1 : zup N 201 0 v 181 = M 181 := by rw [zup_o _ (by decide), o _ (by decide), sO _ (by decide)]
    have a := g.ag3 (N := zup N 201 0 v) (D := saleM M x) (fun k hk => by rw [zup_o k (by omega)]; exact o k (by omega)) (vw_sale hI z.2.1.1 x1) t1
    have ec : chg (capT (vm (zup N 201 0 v))) (val (vm (zup N 201 0 v))) (credit (vm (zup N 201 0 v)) - zup N 201 0 v 181 (351 + s).toNat) = some x := by
      rw [ag_capT a, ag_val a, ag_credit a, t1, ep h1]
      exact hx
    refine us_X12_sale (by rw [t1]; omega) (a.s z.2.1) (a.b hb) (a.t hI) (by omega) (a.e he) (fun _ y hy P oP => ?_) (fun _ hy => ?_) (fun q => absurd (by rw [t1]; omega) q)
    · rw [ec] at hy
      cases hy
      rw [t1] at oP ⊢
      exact fin_Y g (D := saleM M x) (fun k hk => sO k (by omega)) (fun k hk ho => by rw [zup_o k ho]; exact o k hk) zup_e oP st ea.symm
    · rw [ec] at hy
      cases hy
  · have q := bq.o o (-1)
    have a := q.ag g
    have t2 := q.t 2
    have ec : chg (capT (vm (zup N 201 0 (-1)))) (val (vm (zup N 201 0 (-1)))) (credit (vm (zup N 201 0 (-1))) - zup N 201 0 (-1) 181 (351 + s).toNat) = none := by
      rw [ag_capT a, ag_val a, ag_credit a, q.t, ep h1]
      exact hx
    refine us_X12_sale (by omega) (a.s z.2.1) (a.b hb) (a.t hI) (by omega) (a.e he) (fun _ y hy => ?_) (fun _ _ P oP => fY g q oP zup_e) (fun y => absurd (by omega) y)
    rw [ec] at hy
    cases hy
  · have a := (bq.rf M).ag g
    refine us_X12_sale (by omega) (a.s z.2.1) (a.b hb) (a.t hI) (by omega) (a.e he) (fun y => absurd y (by omega)) (fun y => absurd y (by omega)) (fun _ => fin_t g.tz (by decide) (fun n h => by cases h))
/-- trays alone have changed -/
theorem RR.tr {B : Int} {M N : zM} (g : RR B M) (h : ∀ k, (1 ≤ k ∧ k ≤ 46) ∨ (67 ≤ k ∧ k ≤ 171) ∨ (181 ≤ k ∧ k ≤ 184) → N k = M k) (hm : ∀ j, j ≠ 3 → N 180 j = M 180 j) (h3 : ∀ i : Nat, i < 4 → (N (172 + 2 * i) 0 = N 198 i ∧ N (172 + 2 * i) 1 = N 199 i ∧ ∀ j : Nat, j < 20 → N (173 + 2 * i) j = N 200 (20 * i + j)) ∧ 0 ≤ N (172 + 2 * i) 1 ∧ N (172 + 2 * i) 1 ≤ 20 ∧ -1 ≤ N (172 + 2 * i) 0 ∧ N (172 + 2 * i) 0 ≤ 3) : RR B N := by
  obtain ⟨g1, g2, g3, g4, g5, g6, g7, g8, g9⟩ := g
  refine ⟨?_, fun i hi => ?_, fun i hi => (h3 i hi).1, ⟨?_, ?_, fun i hi => (h3 i hi).2⟩, (hm 16 (by decide)).trans g5, ?_, ?_, ?_, g9⟩
  · rw [h 181 (by decide)]
    exact g1.c (fun k a b => h k (by omega))
  · rw [h 37 (by decide), h 183 (by decide), h 182 (by decide)]
    obtain ⟨a, b⟩ := g2 i hi
    exact ⟨a, fun z => (b z).c (fun k k1 k2 => by
      funext j
      show N (66 + 35 * i + k) j = M (66 + 35 * i + k) j
      rw [h _ (by omega)])⟩
  · rw [h 38 (by decide)]; exact g4.1
  · rw [h 36 (by decide)]; exact g4.2.1
  · rw [cT_o (h 40 (by decide)), h 184 (by decide), h 39 (by decide), hm 6 (by decide)]
    exact g6
  · rw [h 39 (by decide), hm 14 (by decide), hm 15 (by decide)]
    exact g7
  · exact drV.o (fun k a b => h k (by omega)) g8
theorem zf_o {M : zM} {c a n k : Nat} (h : k ≠ c) : zfl0 M c a n k = M k := by
  funext j
  unfold zfl0
  rw [if_neg (fun q => h q.1)]
theorem step_tray {B : Int} {M : zM} {t s m : Int} (g : RR B M) : sp_X11_tray [zR 0, zI t, zI s, zI m] M (hp cdB (fun k N => sp_X12_tray [zR 180, zI t, zI s, zI m] N (fin B k))) := by
  have hx := g.2.2.2.1
  refine us_X11_tray hx (fun h1 h2 h3 => ?_) (fun h1 => ⟨1, rfl, ?_⟩) (fun h1 h2 => ⟨2, rfl, ?_⟩)
  · obtain ⟨n, rfl⟩ : ∃ n : Nat, t = n := ⟨t.toNat, by omega⟩
    rw [Int.toNat_natCast]
    refine us_X12_tray (fun _ _ _ => ?_) (fun q => absurd h1 q) (fun _ q => absurd ⟨h2, h3⟩ q)
    rw [Int.toNat_natCast]
    have c1 : ∀ k, k ≠ 172 + 2 * n → k ≠ 173 + 2 * n → fillR (zup (zup M (172 + 2 * n) 0 s) (172 + 2 * n) 1 m) (173 + 2 * n) 20 0 k = M k := fun k k1 k2 => by rw [fillR_o k k2, zup_o k k1, zup_o k k1]
    have c2 : fillR (zup (zup M (172 + 2 * n) 0 s) (172 + 2 * n) 1 m) (173 + 2 * n) 20 0 (172 + 2 * n) 0 = s := by rw [fillR_o _ (by omega), zup_j (by decide), zup_e]
    have c3 : fillR (zup (zup M (172 + 2 * n) 0 s) (172 + 2 * n) 1 m) (173 + 2 * n) 20 0 (172 + 2 * n) 1 = m := by rw [fillR_o _ (by omega), zup_e]
    have c4 : ∀ j, j < 20 → fillR (zup (zup M (172 + 2 * n) 0 s) (172 + 2 * n) 1 m) (173 + 2 * n) 20 0 (173 + 2 * n) j = 0 := fun j hj => fillR_e hj
    generalize fillR (zup (zup M (172 + 2 * n) 0 s) (172 + 2 * n) 1 m) (173 + 2 * n) 20 0 = C at *
    have d1 : ∀ k, k ≠ 180 → k < 198 → zfl0 (zup (zup (tz C 0) 198 n s) 199 n m) 200 (20 * n) 20 k = C k := fun k k1 k2 => by rw [zf_o (by omega), zup_o k (by omega), zup_o k (by omega)]; exact zup_o k k1
    have d0 : zfl0 (zup (zup (tz C 0) 198 n s) 199 n m) 200 (20 * n) 20 180 = tz C 0 180 := by rw [zf_o (by omega), zup_o 180 (by omega), zup_o 180 (by omega)]
    have d2 : ∀ j, zfl0 (zup (zup (tz C 0) 198 n s) 199 n m) 200 (20 * n) 20 198 j = if j = n then s else M 198 j := fun j => by
      rw [zf_o (by decide), zup_o 198 (by decide), zup_s]
      show (if j = n then s else tz C 0 198 j) = _
      rw [show tz C 0 198 = M 198 from (zup_o 198 (by decide)).trans (c1 198 (by omega) (by omega))]
    have d3 : ∀ j, zfl0 (zup (zup (tz C 0) 198 n s) 199 n m) 200 (20 * n) 20 199 j = if j = n then m else M 199 j := fun j => by
      rw [zf_o (by decide), zup_s]
      show (if j = n then m else zup (tz C 0) 198 n s 199 j) = _
      rw [show zup (tz C 0) 198 n s 199 = M 199 from (zup_o 199 (by decide)).trans ((zup_o 199 (by decide)).trans (c1 199 (by omega) (by omega)))]
    have d4 : ∀ j, zfl0 (zup (zup (tz C 0) 198 n s) 199 n m) 200 (20 * n) 20 200 j = if 20 * n ≤ j ∧ j < 20 * n + 20 then 0 else M 200 j := fun j => by
      show (if 200 = 200 ∧ 20 * n ≤ j ∧ j < 20 * n + 20 then 0 else zup (zup (tz C 0) 198 n s) 199 n m 200 j) = _
      rw [zup_o 200 (by decide), zup_o 200 (by decide), show tz C 0 200 = M 200 from (zup_o 200 (by decide)).trans (c1 200 (by omega) (by omega))]
      by_cases q : 20 * n ≤ j ∧ j < 20 * n + 20
      · rw [if_pos q, if_pos ⟨rfl, q⟩]
      · rw [if_neg q, if_neg (fun w => q w.2)]
    generalize zfl0 (zup (zup (tz C 0) 198 n s) 199 n m) 200 (20 * n) 20 = N at *
    refine ⟨by rw [d0]; exact zup_e, (g.tr (fun k hk => by rw [d1 k (by omega) (by omega)]; exact c1 k (by omega) (by omega)) (fun j hj => by rw [d0]; dsimp only [tz]; rw [zup_j hj, c1 180 (by omega) (by omega)]) (fun i hi => ?_)).w (by omega)⟩
    rw [d1 (172 + 2 * i) (by omega) (by omega), d1 (173 + 2 * i) (by omega) (by omega), d2, d3]
    by_cases q : i = n
    · subst q
      rw [c2, c3, if_pos rfl, if_pos rfl]
      exact ⟨⟨rfl, rfl, fun j hj => by rw [c4 j hj, d4, if_pos (by omega)]⟩, by omega, by omega, by omega, by omega⟩
    · rw [c1 (172 + 2 * i) (by omega) (by omega), c1 (173 + 2 * i) (by omega) (by omega), if_neg q, if_neg q]
      have a := g.2.2.1 i hi
      exact ⟨⟨a.1, a.2.1, fun j hj => by rw [d4, if_neg (by omega)]; exact a.2.2 j hj⟩, hx.2.2 i hi⟩
  · exact us_X12_tray (fun q => absurd q h1) (fun _ => fin_n g) (fun q => absurd q h1)
  · exact us_X12_tray (fun _ q1 q2 => absurd ⟨q1, q2⟩ h2) (fun q => absurd h1 q) (fun _ _ => fin_n g)
theorem RR.hx {B : Int} {M : zM} (g : RR B M) : ∀ i : Nat, i < 4 → (-1 ≤ M 198 i ∧ M 198 i ≤ 3) ∧ (0 ≤ M 199 i ∧ M 199 i ≤ 20) := fun i hi => by
  have a := g.2.2.1 i hi
  have b := g.2.2.2.1.2.2 i hi
  omega
theorem step_write {B : Int} {M : zM} {t p v : Int} (g : RR B M) (hv : zrL v) : sp_X11_write [zR 0, zI t, zI p, zL v] M (hp cdW (fun k N => sp_X12_write [zR 180, zI t, zI p, zL v] N (fin B k))) := by
  have hx := g.2.2.2.1
  have hy := g.hx
  refine us_X11_write hx (fun h1 h2 h3 => ?_) (fun h1 => ⟨1, rfl, ?_⟩) (fun h1 h2 => ⟨2, rfl, ?_⟩) (fun h1 h2 h3 => ⟨3, rfl, ?_⟩)
  · obtain ⟨n, rfl⟩ : ∃ n : Nat, t = n := ⟨t.toNat, by omega⟩
    obtain ⟨q, rfl⟩ : ∃ q : Nat, p = q := ⟨p.toNat, by omega⟩
    have a := g.2.2.1 n (by omega)
    have b := hx.2.2 n (by omega)
    rw [Int.toNat_natCast] at h2 h3 ⊢
    rw [Int.toNat_natCast]
    have e0 : ∀ c k, (k = 198 ∨ k = 199) → zup (zup M (173 + 2 * n) q c) 201 0 c k = M k := fun c k hk => by rw [zup_o k (by omega), zup_o k (by omega)]
    generalize hc : cutV (M (172 + 2 * n) 0) v = c
    refine us_X12_write (by rw [e0 c _ (Or.inl rfl), e0 c _ (Or.inr rfl)]; exact hy) hv (fun _ _ _ => ?_) (fun y => absurd h1 y) (fun _ y => absurd y (by rw [e0 c _ (Or.inl rfl), Int.toNat_natCast]; omega)) (fun _ _ y => absurd (by rw [e0 c _ (Or.inr rfl), Int.toNat_natCast]; omega) y)
    rw [e0 c _ (Or.inl rfl), Int.toNat_natCast, ← a.1, hc, show (20 * (n : Int) + (q : Int)).toNat = 20 * n + q by omega]
    have d1 : ∀ k, k ≠ 180 → k ≠ 200 → k ≠ 201 → k ≠ 173 + 2 * n → zup (tz (zup (zup M (173 + 2 * n) q c) 201 0 c) 0) 200 (20 * n + q) c k = M k := fun k k1 k2 k3 k4 => by rw [zup_o k k2]; dsimp only [tz]; rw [zup_o k k1, zup_o k k3, zup_o k k4]
    have d2 : ∀ j, zup (tz (zup (zup M (173 + 2 * n) q c) 201 0 c) 0) 200 (20 * n + q) c (173 + 2 * n) j = if j = q then c else M (173 + 2 * n) j := fun j => by
      rw [zup_o _ (by omega)]; dsimp only [tz]; rw [zup_o _ (by omega), zup_o _ (by omega), zup_s]
    have d3 : ∀ j, zup (tz (zup (zup M (173 + 2 * n) q c) 201 0 c) 0) 200 (20 * n + q) c 200 j = if j = 20 * n + q then c else M 200 j := fun j => by
      rw [zup_s]; dsimp only [tz]; rw [zup_o 200 (by decide), zup_o 200 (by decide), zup_o 200 (by omega)]
    refine ⟨?_, fun _ => ?_, (g.tr (fun k hk => d1 k (by omega) (by omega) (by omega) (by omega)) (fun j hj => ?_) (fun i hi => ?_)).w (by omega)⟩
    · rw [zup_o _ (by decide)]; exact zup_e
    · rw [zup_o _ (by decide)]; dsimp only [tz]; rw [zup_o _ (by decide), zup_e]
    · rw [zup_o _ (by decide)]; dsimp only [tz]; rw [zup_j hj, zup_o _ (by decide), zup_o _ (by omega)]
    · have a := g.2.2.1 i hi
      rw [d1 (172 + 2 * i) (by omega) (by omega) (by omega) (by omega), d1 198 (by decide) (by decide) (by decide) (by omega), d1 199 (by decide) (by decide) (by decide) (by omega)]
      refine ⟨⟨a.1, a.2.1, fun j hj => ?_⟩, hx.2.2 i hi⟩
      have a2 := a.2.2 j hj
      rw [d3]
      by_cases w : i = n
      · subst w
        rw [d2]
        by_cases w2 : j = q
        · rw [if_pos w2, if_pos (by omega)]
        · rw [if_neg w2, if_neg (by omega)]; exact a2
      · rw [d1 _ (by omega) (by omega) (by omega) (by omega), if_neg (by omega)]; exact a2
  · exact us_X12_write hy hv (fun y => absurd y h1) (fun _ => fin_t g.tz (by decide) (fun n h => by cases h)) (fun y => absurd y h1) (fun y => absurd y h1)
  · have a := g.2.2.1 t.toNat (by omega)
    exact us_X12_write hy hv (fun _ y => absurd (by omega) y) (fun y => absurd h1 y) (fun _ _ => fin_t g.tz (by decide) (fun n h => by cases h)) (fun _ y => absurd (by omega) y)
  · have a := g.2.2.1 t.toNat (by omega)
    exact us_X12_write hy hv (fun _ _ y => absurd (by omega) h3) (fun y => absurd h1 y) (fun _ y => absurd (by omega) h2) (fun _ _ _ => fin_t g.tz (by decide) (fun n h => by cases h))
end
