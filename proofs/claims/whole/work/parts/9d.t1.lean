section
/-- the reader and the state now have changed -/
theorem RR.rd {B : Int} {M N : zM} (g : RR B M) (h : ∀ k, (36 ≤ k ∧ k ≤ 38) ∨ (67 ≤ k ∧ k ≤ 179) ∨ (182 ≤ k ∧ k ≤ 183) ∨ (198 ≤ k ∧ k ≤ 200) → N k = M k) (h16 : N 180 16 = -1) (hst : zST B (N 181) N) (h6 : cT N = N 184 ∧ N 39 1 = N 180 6 ∧ 0 ≤ N 180 6 ∧ N 180 6 ≤ 400) (h7 : N 39 2 = N 180 14 ∧ N 39 3 = N 180 15) (h8 : drV N) : RR B N := by
  obtain ⟨g1, g2, g3, g4, g5, g6, g7, g8, g9⟩ := g
  refine ⟨hst, fun i hi => ?_, fun i hi => ?_, ?_, h16, h6, h7, h8, g9⟩
  · rw [h 37 (by decide), h 183 (by decide), h 182 (by decide)]
    obtain ⟨a, b⟩ := g2 i hi
    exact ⟨a, fun z => (b z).c (fun k k1 k2 => by
      funext j
      show N (66 + 35 * i + k) j = M (66 + 35 * i + k) j
      rw [h _ (by omega)])⟩
  · rw [h (172 + 2 * i) (by omega), h (173 + 2 * i) (by omega), h 198 (by decide), h 199 (by decide), h 200 (by decide)]
    exact g3 i hi
  · unfold ICx
    rw [h 38 (by decide), h 36 (by decide)]
    exact ⟨g4.1, g4.2.1, fun i hi => by rw [h (172 + 2 * i) (by omega)]; exact g4.2.2 i hi⟩
theorem step_feed {B : Int} {M : zM} {a b c d e : Int} (g : RR B M) : sp_X11_feed [zR 0, zI a, zI b, zI c, zI d, zI e] M (fun r N => sp_X12_feed [zR 180, zI a, zI b, zI c, zI d, zI e] N (fid B r)) := by
  have f := g.2.2.2.2.2.1
  obtain ⟨F, hF⟩ : ∃ F : Nat, M 180 6 = F := ⟨(M 180 6).toNat, by have := f.2.2.1; omega⟩
  refine us_X11_feed (F := F) (by have := f.2.1; omega) (by have := f.2.2.2; omega) (fun h1 N oN oj of oc => ?_) (fun h1 => ?_)
  · have n180 : N 180 = M 180 := oN 180 (by decide) (by decide)
    refine us_X12_feed (by rw [n180]; exact f.2.2) (fun _ => ?_) (fun y => absurd (by rw [n180]; omega) y)
    rw [n180, hF, Int.toNat_natCast]
    refine ⟨⟨_, rfl, rfl⟩, RR.w (B := B) ?_ (by omega)⟩
    unfold fdS
    have e1 : ∀ k, k ≠ 39 → k ≠ 40 → k ≠ 180 → k ≠ 184 → zrow (zup (tz N 0) 180 6 ((F : Int) + (20 : Nat))) 184 (feT (N 184) F a b c d e 20) k = M k := fun k k1 k2 k3 k4 => by rw [zrow_o k4, zup_o k k3]; dsimp only [tz]; rw [zup_o k k3, oN k k1 k2]
    have e2 : zrow (zup (tz N 0) 180 6 ((F : Int) + (20 : Nat))) 184 (feT (N 184) F a b c d e 20) 40 = N 40 := by rw [zrow_o (by decide), zup_o _ (by decide)]; exact zup_o _ (by decide)
    have e3 : zrow (zup (tz N 0) 180 6 ((F : Int) + (20 : Nat))) 184 (feT (N 184) F a b c d e 20) 39 = N 39 := by rw [zrow_o (by decide), zup_o _ (by decide)]; exact zup_o _ (by decide)
    have e4 : zrow (zup (tz N 0) 180 6 ((F : Int) + (20 : Nat))) 184 (feT (N 184) F a b c d e 20) 184 = feT (cT M) F a b c d e 20 := by rw [zrow_e, oN 184 (by decide) (by decide), f.1]
    have e5 : zrow (zup (tz N 0) 180 6 ((F : Int) + (20 : Nat))) 184 (feT (N 184) F a b c d e 20) 180 6 = (F : Int) + 20 := by rw [zrow_o (by decide), zup_e]; rfl
    have e6 : ∀ j, j ≠ 3 → j ≠ 6 → zrow (zup (tz N 0) 180 6 ((F : Int) + (20 : Nat))) 184 (feT (N 184) F a b c d e 20) 180 j = M 180 j := fun j j1 j2 => by rw [zrow_o (by decide), zup_j j2]; dsimp only [tz]; rw [zup_j j1, n180]
    generalize zrow (zup (tz N 0) 180 6 ((F : Int) + (20 : Nat))) 184 (feT (N 184) F a b c d e 20) = P at *
    have q7 := g.2.2.2.2.2.2.1
    refine g.rd (fun k hk => e1 k (by omega) (by omega) (by omega) (by omega)) ((e6 16 (by decide) (by decide)).trans g.2.2.2.2.1) ?_ ⟨?_, ?_, ?_⟩ ?_ ?_
    · rw [e1 181 (by decide) (by decide) (by decide) (by decide)]
      exact g.1.c (fun k k1 k2 => e1 k (by omega) (by omega) (by omega) (by omega))
    · rw [cT_o e2, e4]
      funext p
      exact oc p
    · rw [e3, e5, of]
    · rw [e5]; omega
    · rw [e3, oj _ (by decide), oj _ (by decide), e6 14 (by decide) (by decide), e6 15 (by decide) (by decide)]
      exact q7
    · exact drV.o (fun k k1 k2 => e1 k (by omega) (by omega) (by omega) (by omega)) g.2.2.2.2.2.2.2.1
  · exact us_X12_feed f.2.2 (fun y => absurd (by omega) h1) (fun _ => fid_z g rfl)
theorem step_text {B : Int} {M : zM} {n : Int} (g : RR B M) : sp_X11_text [zR 0, zI n] M (hp cdA (fun k N => sp_X12_text [zR 180, zI n] N (fin B k))) := by
  have f := g.2.2.2.2.2.1
  obtain ⟨F, hF⟩ : ∃ F : Nat, M 180 6 = F := ⟨(M 180 6).toNat, by have := f.2.2.1; omega⟩
  refine us_X11_text (F := F) (by have := f.2.1; omega) (by have := f.2.2.2; omega) (fun h1 => ⟨1, rfl, ?_⟩) (fun h1 z hz N oN fN => ?_) (fun h1 L hL k N k8 l7 oN n0 fN n11 gN dN cN => ?_)
  · exact us_X12_text f.2.2 (fun _ => fin_t g.tz (by decide) (fun n h => by cases h)) (fun y => absurd (by omega) h1) (fun y => absurd (by omega) h1)
  · have n180 : zup N 201 0 (-10 - z.1) 180 = M 180 := (zup_o _ (by decide)).trans (oN.1 180 (by decide) (by decide))
    have n184 : zup N 201 0 (-10 - z.1) 184 = cT M := ((zup_o _ (by decide)).trans (oN.1 184 (by decide) (by decide))).trans f.1.symm
    refine us_X12_text (by rw [n180]; exact f.2.2) (fun y => absurd (by rw [n180]; omega) y) (fun _ w hw P oP tP => ?_) (fun _ L hL => ?_)
    · rw [n184, hz] at hw
      cases hw
      obtain ⟨p1, p2, p3, p4, p5, p6⟩ := oP
      have e1 : ∀ c, c ≠ 39 → (c < 41 ∨ 46 < c) → c ≠ 180 → c ≠ 185 → c ≠ 181 → c ≠ 201 → P c = M c := fun c c1 c2 c3 c4 c5 c6 => by rw [p1 c c3 c4 c5, zup_o c c6, oN.1 c c1 c2]
      have e2 : P 181 = M 181 := by rw [tP, zup_o _ (by decide), oN.1 181 (by decide) (by decide)]
      have e3 : P 39 = N 39 := by rw [p1 39 (by decide) (by decide) (by decide), zup_o _ (by decide)]
      have e4 : ∀ c, c ≠ 180 → c ≠ 185 → c ≠ 181 → c ≠ 201 → P c = N c := fun c c3 c4 c5 c6 => by rw [p1 c c3 c4 c5, zup_o c c6]
      refine ⟨p3, fun _ => ?_, RR.w (B := B) ?_ (by omega)⟩
      · rw [p1 201 (by decide) (by decide) (by decide), zup_e]
      · refine g.rd (fun c hc => e1 c (by omega) (by omega) (by omega) (by omega) (by omega) (by omega)) ((p2 16 (by decide) (by decide)).trans (by rw [n180]; exact g.2.2.2.2.1)) ?_ ⟨?_, ?_, ?_⟩ ?_ ?_
        · rw [e2]
          exact g.1.c (fun c c1 c2 => e1 c (by omega) (by omega) (by omega) (by omega) (by omega) (by omega))
        · rw [cT_o (e1 40 (by decide) (by decide) (by decide) (by decide) (by decide) (by decide)), e1 184 (by decide) (by decide) (by decide) (by decide) (by decide) (by decide), f.1]
        · rw [e3, p4]; exact oN.2.1
        · rw [p4]; decide
        · rw [e3, p5, p6]; exact fN
        · exact drV.o (fun c c1 c2 => e4 c (by omega) (by omega) (by omega) (by omega)) (oN.2.2 g.2.2.2.2.2.2.2.1)
    · rw [n184, hz] at hL
      cases hL
  · have n180 : zup N 201 0 k 180 = M 180 := (zup_o _ (by decide)).trans (oN 180 (by decide) (by decide) (by decide))
    have n184 : zup N 201 0 k 184 = cT M := ((zup_o _ (by decide)).trans (oN 184 (by decide) (by decide) (by decide))).trans f.1.symm
    refine us_X12_text (by rw [n180]; exact f.2.2) (fun y => absurd (by rw [n180]; omega) y) (fun _ w hw => ?_) (fun _ L' hL' _ P oP tP => ?_)
    · rw [n184, hL] at hw
      cases hw
    · rw [n184, hL] at hL'
      cases hL'
      obtain ⟨p1, p2, p3, p4, p5, p6⟩ := oP
      have e1 : ∀ c, c ≠ 39 → (c < 41 ∨ 46 < c) → (c < 11 ∨ 16 < c) → c ≠ 180 → c ≠ 185 → c ≠ 181 → c ≠ 201 → P c = M c := fun c c1 c2 c9 c3 c4 c5 c6 => by rw [p1 c c3 c4 c5, zup_o c c6, oN c c1 c2 c9]
      have e4 : ∀ c, c ≠ 180 → c ≠ 185 → c ≠ 181 → c ≠ 201 → P c = N c := fun c c3 c4 c5 c6 => by rw [p1 c c3 c4 c5, zup_o c c6]
      have e2 : P 181 = txT (M 181) L L.length := by rw [tP, zup_o _ (by decide), oN 181 (by decide) (by decide) (by decide)]
      have d8 : drV P := drV.o (fun c c1 c2 => e4 c (by omega) (by omega) (by omega) (by omega)) (dN g.2.2.2.2.2.2.2.1)
      have ok := pText_k 8 [] 0 0 L rfl (fun g hg => absurd hg (by omega)) hL
      refine ⟨p3, fun _ => ?_, RR.w (B := B) ?_ (by omega)⟩
      · rw [p1 201 (by decide) (by decide) (by decide), zup_e]; omega
      · refine g.rd (fun c hc => e1 c (by omega) (by omega) (by omega) (by omega) (by omega) (by omega) (by omega)) ((p2 16 (by decide) (by decide)).trans (by rw [n180]; exact g.2.2.2.2.1)) ?_ ⟨?_, ?_, ?_⟩ ?_ d8
        · rw [e2]
          refine st_text g.1 l7 k8 ok (fun c c1 c2 c3 => e1 c (by omega) (by omega) c3 (by omega) (by omega) (by omega) (by omega)) (by rw [e4 11 (by decide) (by decide) (by decide) (by decide)]; exact n11) (fun j hj => ?_) ⟨?_, fun j hj => ?_⟩
          · rw [e4 12 (by decide) (by decide) (by decide) (by decide), e4 13 (by decide) (by decide) (by decide) (by decide), e4 14 (by decide) (by decide) (by decide) (by decide), e4 15 (by decide) (by decide) (by decide) (by decide), e4 16 (by decide) (by decide) (by decide) (by decide)]
            exact gN j hj
          · rw [e4 11 (by decide) (by decide) (by decide) (by decide), n11]; omega
          · have c9 := cN j hj
            have d9 := dN g.2.2.2.2.2.2.2.1 j hj
            rw [e4 12 (by decide) (by decide) (by decide) (by decide), e4 13 (by decide) (by decide) (by decide) (by decide), e4 14 (by decide) (by decide) (by decide) (by decide), e4 15 (by decide) (by decide) (by decide) (by decide), e4 16 (by decide) (by decide) (by decide) (by decide), c9.1, c9.2.1, c9.2.2.1, c9.2.2.2.1, c9.2.2.2.2]
            exact d9
        · rw [cT_o (e1 40 (by decide) (by decide) (by decide) (by decide) (by decide) (by decide) (by decide)), e1 184 (by decide) (by decide) (by decide) (by decide) (by decide) (by decide) (by decide), f.1]
        · rw [e4 39 (by decide) (by decide) (by decide) (by decide), p4]; exact n0
        · rw [p4]; decide
        · rw [e4 39 (by decide) (by decide) (by decide) (by decide), p5, p6]; exact fN
end
