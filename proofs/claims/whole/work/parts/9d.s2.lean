section
theorem fin_r {B : Int} {M N C : zM} {t : Nat → Int} {v : Int} (g : RR B M) (o1 : ∀ k, 1 ≤ k → k ≤ 35 → N k = C k) (o2 : ∀ k, rD k → N k = M k) (h6 : N 180 6 = M 180 6) (h14 : N 180 14 = M 180 14) (h15 : N 180 15 = M 180 15) (h16 : N 180 16 = -1) (ht : N 181 = t) (st : zST (B + 24) t C) (h3 : N 180 3 = 0) (ho : N 201 0 = v) : fin B 0 (some (zI v)) N :=
  ⟨h3, fun _ => ho, g.n (by omega) o2 h6 h14 h15 h16 (by rw [ht]; exact st.c o1)⟩
theorem step_span {B : Int} {M : zM} {s m a b : Int} (g : RR B M) : sp_X11_span [zR 0, zI s, zI m, zI a, zI b] M (hp cdB (fun k N => sp_X12_span [zR 180, zI s, zI m, zI a, zI b] N (fin B k))) := by
  have z := g.1
  have e0 : M 2 0 = M 181 0 := z.1.1.2.2.2.1
  have m8 := z.2.1.1
  refine us_X11_span m8.2 (fun h1 h2 h3 h4 => ?_) (fun h1 => ⟨1, rfl, ?_⟩) (fun h1 h2 h3 => ⟨2, rfl, ?_⟩)
  · obtain ⟨n, rfl⟩ : ∃ n : Nat, s = n := ⟨s.toNat, by omega⟩
    obtain ⟨q, rfl⟩ : ∃ q : Nat, m = q := ⟨m.toNat, by omega⟩
    rw [show ((n : Int) * 3 + (q : Int)).toNat = 3 * n + q by omega]
    have t0 : zup (zup M 7 (3 * n + q) a) 8 (3 * n + q) b 181 0 = M 181 0 := rfl
    refine us_X12_span (by omega) (fun _ _ _ _ => ?_) (fun y => absurd (by omega) y) (fun _ _ y => absurd ⟨h3, h4⟩ y)
    rw [show (15 + 11 * (n : Int) + 3 + 2 * (q : Int)).toNat = 18 + 11 * n + 2 * q by omega, show (15 + 11 * (n : Int) + 3 + 2 * (q : Int) + 1).toNat = 19 + 11 * n + 2 * q by omega]
    exact fin_sn g (C := zup (zup M 7 (3 * n + q) a) 8 (3 * n + q) b) (t := rUp (rUp (M 181) (18 + 11 * n + 2 * q) a) (19 + 11 * n + 2 * q) b) (fun k _ _ => by dsimp only [tz]; repeat rw [zup_o k (by omega)]) (fun k hk => by dsimp only [tz]; repeat rw [zup_o k (by omega)]) (fun j hj => by dsimp only [tz]; rw [zup_o 180 (by decide), zup_o 180 (by decide), zup_j hj]; rfl) (by rw [zup_ru, zup_ru]; rfl) (st_span (z.w (by omega)) (by omega) (by omega) (by omega)) rfl
  · refine us_X12_span (by omega) (by intros; exfalso; omega) (fun _ => fin_n g) (by intros; exfalso; omega)
  · refine us_X12_span (by omega) (by intros; exfalso; omega) (by intros; exfalso; omega) (fun _ _ _ => fin_n g)
theorem step_offer {B : Int} {M : zM} {p : Int} (g : RR B M) : sp_X11_offer [zR 0, zI p] M (hp cdA (fun k N => sp_X12_offer [zR 180, zI p] N (fin B k))) := by
  have z := g.1
  have e0 : M 1 3 = M 181 2 := z.1.1.1
  have q6 := z.q.1
  refine us_X11_offer q6 (fun h1 => ?_) (fun h1 => ⟨1, rfl, ?_⟩)
  · by_cases c : 6 ≤ M 1 3
    · rw [if_pos c, if_pos c]
      refine us_X12_offer (by show 0 ≤ M 181 2 ∧ M 181 2 ≤ 6; omega) (fun _ y => absurd (show M 181 2 = 6 by omega) y) (fun _ _ => ?_) (fun y => absurd h1 y)
      exact ⟨rfl, fun _ => rfl, g.out.tz.w (by omega)⟩
    · rw [if_neg c, if_neg c]
      obtain ⟨n, hn⟩ : ∃ n : Nat, M 1 3 = n := ⟨(M 1 3).toNat, by omega⟩
      have e2 : M 181 2 = n := by omega
      rw [hn, Int.toNat_natCast]
      refine us_X12_offer (by show 0 ≤ M 181 2 ∧ M 181 2 ≤ 6; omega) (fun _ _ => ?_) (fun _ y => absurd (show ¬ M 181 2 = 6 by omega) (fun w => w y)) (fun y => absurd h1 y)
      have t2 : zup (zup (zup M 29 n p) 1 3 ((n : Int) + 1)) 201 0 n 181 2 = n := e2
      rw [t2, show (351 + (n : Int)).toNat = 351 + n by omega]
      exact fin_s g (C := zup (zup M 29 n p) 1 3 ((n : Int) + 1)) (t := rUp (rUp (M 181) (351 + n) p) 2 ((n : Int) + 1)) (fun k _ _ => by dsimp only [tz]; repeat rw [zup_o k (by omega)]) (fun k hk => by dsimp only [tz]; repeat rw [zup_o k (by omega)]) (fun j hj => by dsimp only [tz]; rw [zup_o 180 (by decide), zup_o 180 (by decide), zup_j hj]; rfl) (by rw [zup_ru, zup_ru]; rfl) (st_offer (z.w (by omega)) hn (by omega) h1) rfl rfl
  · refine us_X12_offer (by omega) (fun y => absurd y h1) (fun y => absurd y h1) (fun _ => fin_t g.tz (by decide) (fun n h => by cases h))
theorem step_machine {B : Int} {M : zM} {a b : Int} (g : RR B M) : sp_X11_machine [zR 0, zI a, zI b] M (hp cdA (fun k N => sp_X12_machine [zR 180, zI a, zI b] N (fin B k))) := by
  have z := g.1
  have e0 : M 1 10 = M 181 5 := z.1.1.2.2.1
  have q6 := z.2.2.2.2.2.1.1
  refine us_X11_machine q6 (fun h1 h2 => ?_) (fun h1 => ⟨1, rfl, ?_⟩)
  · by_cases c : 4 ≤ M 1 10
    · rw [if_pos c, if_pos c]
      refine us_X12_machine (by show 0 ≤ M 181 5 ∧ M 181 5 ≤ 4; omega) (fun _ _ y => absurd (show M 181 5 = 4 by omega) y) (fun _ _ _ => ?_) (fun y => absurd ⟨h1, h2⟩ y)
      exact ⟨rfl, fun _ => rfl, g.out.tz.w (by omega)⟩
    · rw [if_neg c, if_neg c]
      obtain ⟨n, hn⟩ : ∃ n : Nat, M 1 10 = n := ⟨(M 1 10).toNat, by omega⟩
      have e2 : M 181 5 = n := by omega
      rw [hn, Int.toNat_natCast]
      refine us_X12_machine (by show 0 ≤ M 181 5 ∧ M 181 5 ≤ 4; omega) (fun _ _ _ => ?_) (fun _ _ y => absurd (show ¬ M 181 5 = 4 by omega) (fun w => w y)) (fun y => absurd ⟨h1, h2⟩ y)
      have t2 : zup (zup (zup (zup M 34 n a) 35 n b) 1 10 ((n : Int) + 1)) 201 0 n 181 5 = n := e2
      rw [t2, show (607 + 2 * (n : Int)).toNat = 607 + 2 * n by omega, show (607 + 2 * (n : Int) + 1).toNat = 608 + 2 * n by omega]
      exact fin_s g (C := zup (zup (zup M 34 n a) 35 n b) 1 10 ((n : Int) + 1)) (t := rUp (rUp (rUp (M 181) (607 + 2 * n) a) (608 + 2 * n) b) 5 ((n : Int) + 1)) (fun k _ _ => by dsimp only [tz]; repeat rw [zup_o k (by omega)]) (fun k hk => by dsimp only [tz]; repeat rw [zup_o k (by omega)]) (fun j hj => by dsimp only [tz]; rw [zup_o 180 (by decide), zup_o 180 (by decide), zup_o 180 (by decide), zup_j hj]; rfl) (by rw [zup_ru, zup_ru, zup_ru]; rfl) (st_machine (z.w (by omega)) hn (by omega) h1 h2) rfl rfl
  · refine us_X12_machine (by omega) (fun y1 y2 => absurd ⟨y1, y2⟩ h1) (fun y1 y2 => absurd ⟨y1, y2⟩ h1) (fun _ => fin_t g.tz (by decide) (fun n h => by cases h))
theorem step_move {B : Int} {M : zM} {i d e : Int} (g : RR B M) : sp_X11_move [zR 0, zI i, zI d, zI e] M (hp cdB (fun k N => sp_X12_move [zR 180, zI i, zI d, zI e] N (fin B k))) := by
  have z := g.1
  have e0 : M 11 0 = M 181 1 := z.1.1.2.2.2.2.1
  have hg := z.2.2.1
  have lo : ∀ n : Nat, (n : Int) < M 11 0 → M 13 n = M 181 (104 + 7 * n) ∧ M 14 n = M 181 (105 + 7 * n) := fun n hn => by
    have a := z.1.2.2.2.2.1 n (by omega)
    exact ⟨a.2.1, a.2.2.1⟩
  have kr : ∀ x, 0 ≤ kept x ∧ kept x ≤ 99 := fun x => by unfold kept; omega
  refine us_X11_move hg (fun h1 h2 h3 h4 => ?_) (fun h1 h2 h3 h4 => ?_) (fun h1 => ⟨1, rfl, ?_⟩) (fun h1 h2 => ⟨2, rfl, ?_⟩)
  · obtain ⟨n, rfl⟩ : ∃ n : Nat, i = n := ⟨i.toNat, by omega⟩
    rw [Int.toNat_natCast] at h4 ⊢
    have l := lo n (by omega)
    rw [l.1, l.2] at h4
    have gv : AG M (vm (zup (zup (zup M 13 n (kept (M 13 n + d))) 14 n (kept (M 14 n + e))) 201 0 1)) := g.ag2 (fun k j hk => by
      rw [vw_k (D := zup (zup M 13 n (kept (M 13 n + d))) 14 n (kept (M 14 n + e))) (zup_o k (by omega))]
      by_cases c : k = 13 ∨ k = 14
      · rcases c with rfl | rfl
        · show (if (j : Int) < M 181 1 then M 181 (104 + 7 * j) else _) = (if (j : Int) < M 181 1 then M 181 (104 + 7 * j) else _)
          by_cases y : (j : Int) < M 181 1
          · rw [if_pos y, if_pos y]
          · rw [if_neg y, if_neg y, zup_o 13 (by decide), zup_j (by omega)]
        · show (if (j : Int) < M 181 1 then M 181 (105 + 7 * j) else _) = (if (j : Int) < M 181 1 then M 181 (105 + 7 * j) else _)
          by_cases y : (j : Int) < M 181 1
          · rw [if_pos y, if_pos y]
          · rw [if_neg y, if_neg y, zup_j (by omega), zup_o 14 (by decide)]
      · rw [vw_k (D := M) (by rw [zup_o k (by omega), zup_o k (by omega)])]) rfl
    refine us_X12_move (gv.g hg) (fun _ _ _ _ a b => ?_) (fun _ _ _ y => absurd (by rw [Int.toNat_natCast]; exact h4) y) (fun y => absurd (show 0 ≤ (n : Int) ∧ (n : Int) < M 181 1 by omega) y) (fun _ y => absurd ⟨h2, h3⟩ y)
    rw [Int.toNat_natCast]
    refine fin_r g (C := zup (zup M 13 n (kept (M 13 n + d))) 14 n (kept (M 14 n + e))) (t := rUp (rUp (M 181) (104 + 7 * n) (kept (M 13 n + d))) (105 + 7 * n) (kept (M 14 n + e))) (fun k _ _ => by dsimp only [tz]; repeat rw [zup_o k (by omega)]) (fun k hk => by dsimp only [tz]; repeat rw [zup_o k (by omega)]) rfl rfl rfl rfl ?_ (st_move (z.w (by omega)) (by omega) (kr _) (kr _)) rfl rfl
    rw [zup_ru, zup_ru, l.1, l.2]
    rfl
  · obtain ⟨n, rfl⟩ : ∃ n : Nat, i = n := ⟨i.toNat, by omega⟩
    rw [Int.toNat_natCast] at h4
    have l := lo n (by omega)
    rw [l.1, l.2] at h4
    have gv : AG M (vm (zup M 201 0 0)) := g.ag (fun k hk => zup_o k (by omega)) rfl
    refine us_X12_move (gv.g hg) (fun _ _ _ y => absurd (by rw [Int.toNat_natCast] at y; exact y) h4) (fun _ _ _ _ a b => ?_) (fun y => absurd (show 0 ≤ (n : Int) ∧ (n : Int) < M 181 1 by omega) y) (fun _ y => absurd ⟨h2, h3⟩ y)
    exact fin_q g ⟨fun k hk => by dsimp only [tz]; repeat rw [zup_o k (by omega)], rfl, rfl, rfl, rfl⟩ rfl rfl
  · have gv : AG M (vm M) := g.ag (fun k hk => rfl) rfl
    refine us_X12_move (gv.g hg) (by intros; exfalso; omega) (by intros; exfalso; omega) (fun _ => fin_t g (by decide) (fun n h => by cases h)) (by intros; exfalso; omega)
  · have gv : AG M (vm M) := g.ag (fun k hk => rfl) rfl
    refine us_X12_move (gv.g hg) (fun _ a b => absurd ⟨a, b⟩ h2) (fun _ a b => absurd ⟨a, b⟩ h2) (fun y => absurd (show 0 ≤ i ∧ i < M 181 1 by omega) y) (fun _ _ => fin_t g (by decide) (fun n h => by cases h))
theorem step_sort {B : Int} {M : zM} {v a b : Int} (g : RR B M) : sp_X11_sort [zR 0, zI v, zI a, zI b] M (hp cdA (fun k N => sp_X12_sort [zR 180, zI v, zI a, zI b] N (fin B k))) := by
  have z := g.1
  have e0 : M 2 0 = M 181 0 := z.1.1.2.2.2.1
  have m8 := z.2.1.1
  refine us_X11_sort m8 (fun h1 h2 h3 => ?_) (fun h1 => ⟨1, rfl, ?_⟩)
  · by_cases c : 8 ≤ M 2 0
    · rw [if_pos c, if_pos c]
      refine us_X12_sort (by show 0 ≤ M 181 0 ∧ M 181 0 ≤ 8; omega) (fun _ _ _ s hs hs8 => ?_) (fun _ _ _ _ => ?_) (fun y => absurd ⟨h1, h2, h3⟩ y)
      · have hs' : M 181 0 = s := hs
        exfalso; omega
      · exact ⟨rfl, fun _ => rfl, g.out.tz.w (by omega)⟩
    · rw [if_neg c, if_neg c]
      refine us_X12_sort (by show 0 ≤ M 181 0 ∧ M 181 0 ≤ 8; omega) (fun _ _ _ s hs hs8 => ?_) (fun _ _ _ y => absurd (show ¬ M 181 0 = 8 by omega) (fun w => w y)) (fun y => absurd ⟨h1, h2, h3⟩ y)
      have hs' : M 181 0 = s := hs
      have hn : M 2 0 = s := by omega
      have zr : ∀ j, 18 + 11 * s ≤ j → j < 26 + 11 * s → M 181 j = 0 := fun j j1 j2 => by
        have q := z.q.2.2.2.2 s hs8 (by omega)
        have d0 := z.1.2.2.2.1 (3 * s) (by omega)
        have d1 := z.1.2.2.2.1 (3 * s + 1) (by omega)
        have d2 := z.1.2.2.2.1 (3 * s + 2) (by omega)
        have w := z.1.2.2.1 s hs8
        rw [show 3 * s / 3 = s by omega, show 3 * s % 3 = 0 by omega] at d0
        rw [show (3 * s + 1) / 3 = s by omega, show (3 * s + 1) % 3 = 1 by omega] at d1
        rw [show (3 * s + 2) / 3 = s by omega, show (3 * s + 2) % 3 = 2 by omega] at d2
        have jc : j = 18 + 11 * s + 2 * 0 ∨ j = 19 + 11 * s + 2 * 0 ∨ j = 18 + 11 * s + 2 * 1 ∨ j = 19 + 11 * s + 2 * 1 ∨ j = 18 + 11 * s + 2 * 2 ∨ j = 19 + 11 * s + 2 * 2 ∨ j = 24 + 11 * s ∨ j = 25 + 11 * s := by omega
        rcases jc with e | e | e | e | e | e | e | e <;> rw [e]
        · rw [← d0.1]; exact q.2.2.1
        · rw [← d0.2]; exact q.2.2.2.2.2.1
        · rw [← d1.1]; exact q.2.2.2.1
        · rw [← d1.2]; exact q.2.2.2.2.2.2.1
        · rw [← d2.1]; exact q.2.2.2.2.1
        · rw [← d2.2]; exact q.2.2.2.2.2.2.2
        · rw [← w.2.2.2.1]; exact q.1
        · rw [← w.2.2.2.2.1]; exact q.2.1
      unfold addSort
      rw [hn, Int.toNat_natCast]
      unfold sortM
      refine fin_r g (C := zup (zup (zup (zup M 4 s v) 5 s a) 6 s b) 2 0 ((s : Int) + 1)) (t := rUp (rUp (rUp (rUp (M 181) (15 + 11 * s) v) (16 + 11 * s) a) (17 + 11 * s) b) 0 ((s : Int) + 1)) (fun k _ _ => ?_) (fun k hk => ?_) rfl rfl rfl ?_ ?_ (st_sort (z.w (by omega)) hn hs8 h1) rfl rfl
      · rw [zup_o k (by omega), zup_o k (by omega), zup_o k (by omega)]
        funext j
        unfold zfl0
        dsimp only [tz]
        rw [if_neg (by omega), zup_o k (by omega), zup_o k (by omega), zup_o k (by omega)]
      · rw [zup_o k (by omega), zup_o k (by omega), zup_o k (by omega)]
        funext j
        unfold zfl0
        dsimp only [tz]
        rw [if_neg (by omega), zup_o k (by omega), zup_o k (by omega), zup_o k (by omega)]
        repeat rw [zup_o k (by omega)]
      · exact g.2.2.2.2.1
      · rw [zup_ru, zup_ru, zup_ru]
        funext j
        unfold rUp zfl0
        dsimp only [tz]
        by_cases c1 : j = 17 + 11 * s
        · rw [if_pos c1, if_neg (by omega), if_pos c1]
        · rw [if_neg c1]
          by_cases c2 : j = 16 + 11 * s
          · rw [if_pos c2, if_neg (by omega), if_neg c1, if_pos c2]
          · rw [if_neg c2]
            by_cases c3 : j = 15 + 11 * s
            · rw [if_pos c3, if_neg (by omega), if_neg c1, if_neg c2, if_pos c3]
            · rw [if_neg c3]
              by_cases c4 : j = 0
              · rw [if_neg (by omega), if_pos c4, c4, zup_e]
              · rw [if_neg c4, if_neg c1, if_neg c2, if_neg c3]
                by_cases c5 : (181 : Nat) = 181 ∧ 15 + 11 * s ≤ j ∧ j < 15 + 11 * s + 11
                · rw [if_pos c5]
                  exact (zr j (by omega) (by omega)).symm
                · rw [if_neg c5, zup_j c4]
                  rfl
  · refine us_X12_sort (by omega) (fun y1 y2 y3 => absurd ⟨y1, y2, y3⟩ h1) (fun y1 y2 y3 => absurd ⟨y1, y2, y3⟩ h1) (fun _ => fin_t g.tz (by decide) (fun n h => by cases h))
end
