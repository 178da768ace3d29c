section
theorem ag_moreU {M N : zM} (h : AG M N) : ∀ n, moreU N n = moreU M n ∧ lessU N n = lessU M n
  | 0 => ⟨rfl, rfl⟩
  | n + 1 => by
    have i := ag_moreU h n
    unfold moreU lessU
    rw [i.1, i.2, ag_odd h]
    exact ⟨rfl, rfl⟩
theorem ag_dearW {M N : zM} (h : AG M N) : dearW N = dearW M ∧ missW N = missW M := by
  unfold dearW missW
  rw [h 23 (by decide)]
  exact ⟨rfl, rfl⟩
theorem ag_mostW {M N : zM} (h : AG M N) : mostW N = mostW M := by
  unfold mostW
  rw [h 2 (by decide), (ag_moreU h _).1, (ag_moreU h _).2]
  have e : mostP (oddR N (M 2 0).toNat) = mostP (oddR M (M 2 0).toNat) := by
    unfold mostP
    rw [oddR_o 2 (by decide), oddR_o 2 (by decide), h 2 (by decide)]
    congr 1
    funext set
    have hA : AG (oddR M (M 2 0).toNat) (oddR N (M 2 0).toNat) := fun k hk => by rw [oddR_o k (by omega), oddR_o k (by omega)]; exact h k hk
    have od : ∀ i, i < (M 2 0).toNat → oddR N (M 2 0).toNat 57 i = oddR M (M 2 0).toNat 57 i := fun i hi => by
      unfold oddR
      rw [if_pos ⟨rfl, hi⟩, if_pos ⟨rfl, hi⟩, ag_odd h]
    exact cutF_cong od (fun i hi => by unfold paN; rw [od i hi, ag_pst hA])
  rw [e]
theorem ag_W {M N : zM} (h : AG M N) : costW N = costW M ∧ fewW N = fewW M ∧ manyW N = manyW M := by
  unfold costW fewW manyW
  rw [h 2 (by decide), (ag_moreU h _).1, (ag_moreU h _).2, (ag_dearW h).1, (ag_dearW h).2, ag_mostW h, h 23 (by decide)]
  exact ⟨rfl, rfl, rfl⟩
theorem ag_mostR {M N : zM} (h : AG M N) : ∀ n g, mostR N n g = mostR M n g
  | 0, _ => rfl
  | n + 1, g => by
    unfold mostR
    rw [h 1 (by decide), h 33 (by decide)]
    refine sumU_c _ (fun b _ => ?_)
    rw [ag_cap h, ag_val h, ag_abv h, ag_mostR h n g]
    have e : (fun x => powM N n + mostR N n (sold N b g x)) = fun x => powM M n + mostR M n (sold M b g x) := by
      funext x
      rw [ag_powM h, ag_sold h, ag_mostR h n]
    rw [e]
theorem ag_advN {M N : zM} (h : AG M N) (n b : Nat) : advN N n b = advN M n b := by
  unfold advN
  rw [h 19 (by decide), ag_cap h, ag_val h, ag_abv h]
  split
  · rfl
  · rw [ag_mostR h, ag_sold h, ag_mostR h, ag_powM h]
theorem ag_lst {M N : zM} (h : AG M N) : ∀ d c, lst N d c = lst M d c
  | 0, _ => rfl
  | d + 1, c => by
    unfold lst
    rw [ag_nM h]
    congr 1
    funext m
    rw [ag_drU h, ag_nxU h, ag_lst h d]
theorem ag_ff {M N : zM} (h : AG M N) (d c : Nat) : ff N d c = ff M d c := by
  unfold ff
  have e : dryW N d c = dryW M d c := by
    funext m
    unfold dryW
    rw [ag_nM h, ag_drU h, ag_nxU h, ag_lst h]
  rw [e, ag_lst h, ag_nM h]
theorem ag_cdD {M N : zM} (h : AG M N) (d : Nat) : ∀ i, cdD N d i = cdD M d i
  | 0 => ag_cdU h 4
  | i + 1 => by
    unfold cdD
    rw [ag_cdD h d i, ag_ff h, ag_nxU h, ag_nM h]
theorem ag_mdS {M N : zM} (h : AG M N) : ∀ m s, mdS N s m = mdS M s m
  | 0, _ => rfl
  | m + 1, s => by
    unfold mdS
    rw [ag_md h.k, ag_mdS h m]
theorem ag_capT {M N : zM} (h : AG M N) : capT N = capT M := by
  unfold capT
  rw [h 19 (by decide), ag_cap h]
theorem ag_lackA {M N : zM} (h : AG M N) (g w : Int) : lackA N g w = lackA M g w := by
  unfold lackA
  rw [ag_capT h, ag_val h, h 29 (by decide)]
/-- the reference's view of a memory whose class and told row are M's -/
theorem RR.ag {B : Int} {M N : zM} (g : RR B M) (h : ∀ k, k < 36 → N k = M k) (ht : N 181 = M 181) : AG M (vm N) := fun k hk => by
  by_cases c : k = 0
  · rw [c]
    show vw (N 181) N 0 = M 0
    rw [show vw (N 181) N 0 = N 0 from rfl, h 0 (by decide)]
  · exact g.v (fun k a b => h k (by omega)) ht k (by omega) (by omega)
/-- .. and whose class has changed at told places alone -/
theorem RR.ag2 {B : Int} {M N : zM} (g : RR B M) (h : ∀ k j, k < 36 → vw (M 181) N k j = vw (M 181) M k j) (ht : N 181 = M 181) : AG M (vm N) := fun k hk => by
  funext j
  show vw (N 181) N k j = M k j
  rw [ht, h k j hk, g.1.vm]
/-- what the law's helper makes of an answer of the class: 0 and the answer laid out, or the number of the exception -/
def hp (cd : Nat → Option Int) (F : Int → zM → Prop) : Option zV → zM → Prop
  | none, M => F 0 M
  | some (.inl v), M => F 0 (zup M 201 0 v)
  | some (.inr (.inl v)), M => F 0 (zup M 201 0 v)
  | some (.inr (.inr k)), M => ∃ c, cd k = some c ∧ F c M
/-- what the law then finds right: the same exception, or the same answer; and all is as before -/
def fin (B k : Int) : Option zV → zM → Prop
  | none, M => M 180 3 = k ∧ RR (B + 24) M
  | some (.inl v), M => M 180 3 = k ∧ (k = 0 → M 201 0 = v) ∧ RR (B + 24) M
  | some (.inr (.inl v)), M => M 180 3 = k ∧ (k = 0 → M 201 0 = v) ∧ RR (B + 24) M
  | some (.inr (.inr _)), _ => False
def cdA : Nat → Option Int | 3001 => some 1 | _ => none
def cdN : Nat → Option Int | 3000 => some 1 | _ => none
def cdB : Nat → Option Int | 3000 => some 1 | 3001 => some 2 | _ => none
def cdW : Nat → Option Int | 3000 => some 1 | 3002 => some 2 | 3003 => some 3 | _ => none
def cdP : Nat → Option Int | 3000 => some 1 | 3002 => some 2 | 3001 => some 3 | _ => none
def cdR : Nat → Option Int | 3000 => some 1 | 3002 => some 2 | _ => none
/-- the cells but the state's own that RR looks at -/
abbrev rD (k : Nat) : Prop := (36 ≤ k ∧ k ≤ 46) ∨ (67 ≤ k ∧ k ≤ 179) ∨ (182 ≤ k ∧ k ≤ 184) ∨ (198 ≤ k ∧ k ≤ 200)
theorem RR.n {B B' : Int} {M N : zM} (g : RR B M) (hb : B ≤ B') (h : ∀ k, rD k → N k = M k) (h6 : N 180 6 = M 180 6) (h14 : N 180 14 = M 180 14) (h15 : N 180 15 = M 180 15) (h16 : N 180 16 = -1) (s : zST B' (N 181) N) : RR B' N := by
  obtain ⟨g1, g2, g3, g4, g5, g6, g7, g8, g9⟩ := g
  refine ⟨s, fun i hi => ?_, fun i hi => ?_, ?_, h16, ?_, ?_, ?_, by omega⟩
  · rw [h 37 (by decide), h 183 (by decide), h 182 (by decide)]
    obtain ⟨a, b⟩ := g2 i hi
    exact ⟨a, fun z => ((b z).w hb).c (fun k k1 k2 => by
      funext j
      show N (66 + 35 * i + k) j = M (66 + 35 * i + k) j
      rw [h _ (by omega)])⟩
  · rw [h _ (show rD (172 + 2 * i) by omega), h _ (show rD (173 + 2 * i) by omega), h 198 (by decide), h 199 (by decide), h 200 (by decide)]
    exact g3 i hi
  · unfold ICx
    rw [h 38 (by decide), h 36 (by decide)]
    exact ⟨g4.1, g4.2.1, fun i hi => by rw [h _ (show rD (172 + 2 * i) by omega)]; exact g4.2.2 i hi⟩
  · rw [cT_o (h 40 (by decide)), h 184 (by decide), h 39 (by decide), h6]
    exact g6
  · rw [h 39 (by decide), h14, h15]
    exact g7
  · exact drV.o (fun k a b => h k (by omega)) g8
/-- nothing but scratch has changed -/
def quiet (M N : zM) : Prop := (∀ k, rC k → N k = M k) ∧ N 180 6 = M 180 6 ∧ N 180 14 = M 180 14 ∧ N 180 15 = M 180 15 ∧ N 180 16 = -1
theorem RR.qt {B : Int} {M N : zM} (g : RR B M) (h : quiet M N) : RR (B + 24) N := (g.f h.1 h.2.1 h.2.2.1 h.2.2.2.1 h.2.2.2.2).w (by omega)
theorem RR.tz {B : Int} {M : zM} {k : Int} (g : RR B M) : RR B (tz M k) := g.f (fun j hj => zup_o j (by omega)) (zup_j (by decide)) (zup_j (by decide)) (zup_j (by decide)) ((zup_j (by decide)).trans g.2.2.2.2.1)
theorem RR.out {B : Int} {M : zM} {v : Int} (g : RR B M) : RR B (zup M 201 0 v) := g.f (fun j hj => zup_o j (by omega)) (by rw [zup_o _ (by decide)]) (by rw [zup_o _ (by decide)]) (by rw [zup_o _ (by decide)]) (by rw [zup_o _ (by decide)]; exact g.2.2.2.2.1)
theorem fin_t {B : Int} {M : zM} {k : Int} {v : zV} (g : RR B M) (hk : k ≠ 0) (hv : ∀ n, v ≠ zR n) : fin B k (some v) (tz M k) := by
  rcases v with v | v | v
  · exact ⟨zup_e, fun z => absurd z hk, g.tz.w (by omega)⟩
  · exact ⟨zup_e, fun z => absurd z hk, g.tz.w (by omega)⟩
  · exact absurd rfl (hv v)
theorem fin_n {B : Int} {M : zM} {k : Int} (g : RR B M) : fin B k none (tz M k) := ⟨zup_e, g.tz.w (by omega)⟩
end
