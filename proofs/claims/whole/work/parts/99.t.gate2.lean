section
abbrev pRes := (Int × Int) ⊕ (List Int × Nat)
def pEnd (t : Nat → Int) (n : Nat) (L : List Int) (p : Nat) : pRes := if tK t n p = 3 then .inr (L, tE t n p) else .inl (blP t n p 2)
def pThen (t : Nat → Int) (n : Nat) (L : List Int) (k : List Int → Nat → pRes) (p : Nat) : pRes := match pGoal t n p with
  | .inl f => .inl f
  | .inr (g, q) => k (L ++ [g.1, g.2]) q
def pNo (t : Nat → Int) (n : Nat) (L : List Int) (p : Nat) : pRes := if wrd t n p 6 then pThen t n L (pEnd t n) (tE t n p) else .inl (blP t n p 2)
def pYes (t : Nat → Int) (n : Nat) (L : List Int) (p : Nat) : pRes := if wrd t n p 5 then pThen t n L (pNo t n) (tE t n p) else .inl (blP t n p 2)
def pHi (t : Nat → Int) (n : Nat) (ms lo : Int) (p : Nat) : pRes := if tK t n p = 2 then (if lo ≤ tV t (tS t n p) (tE t n p) then pYes t n [ms, lo, tV t (tS t n p) (tE t n p)] (tE t n p) else .inl (blP t n p 4)) else .inl (blP t n p 2)
def pLo (t : Nat → Int) (n : Nat) (ms : Int) (p : Nat) : pRes := if tK t n p = 2 then pHi t n ms (tV t (tS t n p) (tE t n p)) (tE t n p) else .inl (blP t n p 2)
def msr (t : Nat → Int) (n p : Nat) : Int := if wrd t n p 7 then 0 else if wrd t n p 8 then 1 else if wrd t n p 9 then 2 else -1
def pMs (t : Nat → Int) (n p : Nat) : pRes := if msr t n p = -1 then .inl (blP t n p 2) else pLo t n (msr t n p) (tE t n p)
/-- a gate's text, as both read it -/
def pGate (t : Nat → Int) (n p : Nat) : pRes := if wrd t n p 0 then pMs t n (tE t n p) else .inl (blP t n p 2)
/-- the draft holds the first of a gate's seven numbers -/
def frs (M U : zM) (o : Nat) (L : List Int) : Prop := (∀ j, j < L.length → U 185 (o + j) = L.getD j 0) ∧ ∀ j, (j < o ∨ o + 7 ≤ j) → U 185 j = M 185 j
/-- what comes of a gate's text -/
def gPost (M : zM) (n o : Nat) (r : pRes) (Q : zM → Prop) : Prop := match r with
  | .inl f => ∀ M', rdO M M' → flt M' f → Q M'
  | .inr (L, q) => ∀ M', rdO M M' → curT M' n q → frs M M' o L → Q M'
/-- a fault told at the token before the reader -/
theorem curT.f {M U : zM} {n p : Nat} {k : Int} (o : rdO M U) (h : curT U n p) (hk : k ≠ 0) : fst M (blM U k) (blP (U 184) n p k) n := ⟨o.tr (blM.o U k), h.bl k, blP_0 hk, h.rd.bl k⟩
theorem rg160 {E : zE} {X : zX} {Qp : Option zV → zM → Prop} {M U : zM} {n p o : Nat} {L : List Int} {g k ms : Int} (S : zS (zg E) X cX12_readGate 4 wzX12_readGate RX12 none) (oU : rdO M U) (hc : curT U n p) (hf : frs M U o L) (hQ : gPost M n o (pEnd (U 184) n L p) (Qp none)) : zK (zg E) rmX12_readGate 4 (Qp, 0, 0) X (0, 0) 160 [some (zR 180), some (zI g), some (zI k), some (zI ms)] [] U := by
  have hc0 := hc
  obtain ⟨h1, h2, h3, h4, h5, h6, h7, h8⟩ := hc0
  have r := tE_r (t := U 184) h3
  unfold pEnd at hQ
  by_cases c : tK (U 184) n p = 3
  · rw [if_pos c] at hQ
    rw [c] at h6
    have q := fun N (h : nxM U N n (tE (U 184) n p)) => hQ N (oU.tr h.o) (hc.nx h) (by unfold frs; rw [h.1 _ (by decide)]; exact hf)
    refine zr_aload_n (pc := 160) S dX12_readGate_160 rfl ?_
    refine zr_getI (pc := 161) S fX12_readGate_163 dX12_readGate_161 rfl (Nat.le_of_ble_eq_true rfl) rfl ?_
    refine zr_if_ne (pc := 164) (tgt := 180) S dX12_readGate_164 (by decide) (fun c164 => absurd c164 (by omega)) (fun c164 => ?_)
    refine zr_aload_n (pc := 167) S dX12_readGate_167 rfl ?_
    refine zr_getI (pc := 168) S fX12_readGate_148 dX12_readGate_168 rfl (Nat.le_of_ble_eq_true rfl) rfl ?_
    refine zr_iconst (pc := 171) S dX12_readGate_171 (by unfold zrI; omega) ?_
    refine zr_icmp_eq (pc := 172) (tgt := 180) S dX12_readGate_172 (by decide) (fun c172 => ?_) (fun c172 => absurd c172 (by omega))
    refine zr_aload_n (pc := 180) S dX12_readGate_180 rfl ?_
    refine zr_getI (pc := 181) S fX12_readGate_163 dX12_readGate_181 rfl (Nat.le_of_ble_eq_true rfl) rfl ?_
    refine zr_if_ne (pc := 184) (tgt := 191) S dX12_readGate_184 (by decide) (fun c184 => absurd c184 (by omega)) (fun c184 => ?_)
    refine zr_aload_n (pc := 187) S dX12_readGate_187 rfl ?_
    refine zr_invV (pc := 188) S [] (m_X12_next _) kX12_readGate_187 dX12_readGate_188 rfl (Nat.le_of_ble_eq_true rfl) rfl (Nat.le_of_ble_eq_true rfl) ⟨Nat.le_of_ble_eq_true rfl, Nat.le_of_ble_eq_true rfl⟩ (us_X12_next h1 h2 h5 r.2.1 ?_)
    dsimp only [zaft, Option.toList, List.cons_append, List.nil_append, Nat.add_zero]
    intro N hN
    exact zr_vret (pc := 191) S dX12_readGate_191 rfl ⟨Nat.le_refl _, Nat.le_refl _⟩ (q N hN)
  · rw [if_neg c] at hQ
    rw [← h6] at c
    have q := hQ (blM U 2) (oU.tr (blM.o U 2)) (hc.bl 2)
    have b := blM_b (M := U) (k := 2) (by decide)
    refine zr_aload_n (pc := 160) S dX12_readGate_160 rfl ?_
    refine zr_getI (pc := 161) S fX12_readGate_163 dX12_readGate_161 rfl (Nat.le_of_ble_eq_true rfl) rfl ?_
    refine zr_if_ne (pc := 164) (tgt := 180) S dX12_readGate_164 (by decide) (fun c164 => absurd c164 (by omega)) (fun c164 => ?_)
    refine zr_aload_n (pc := 167) S dX12_readGate_167 rfl ?_
    refine zr_getI (pc := 168) S fX12_readGate_148 dX12_readGate_168 rfl (Nat.le_of_ble_eq_true rfl) rfl ?_
    refine zr_iconst (pc := 171) S dX12_readGate_171 (by unfold zrI; omega) ?_
    refine zr_icmp_eq (pc := 172) (tgt := 180) S dX12_readGate_172 (by decide) (fun c172 => absurd c172 (by omega)) (fun c172 => ?_)
    refine zr_aload_n (pc := 175) S dX12_readGate_175 rfl ?_
    refine zr_iconst (pc := 176) S dX12_readGate_176 (by unfold zrI; omega) ?_
    refine zr_invV (pc := 177) S [zI _] (m_X12_blames _) kX12_readGate_183 dX12_readGate_177 rfl (Nat.le_of_ble_eq_true rfl) rfl (Nat.le_of_ble_eq_true rfl) ⟨Nat.le_of_ble_eq_true rfl, Nat.le_of_ble_eq_true rfl⟩ (us_X12_blames ?_)
    dsimp only [zaft, Option.toList, List.cons_append, List.nil_append, Nat.add_zero]
    refine zr_aload_n (pc := 180) S dX12_readGate_180 rfl ?_
    refine zr_getI (pc := 181) S fX12_readGate_163 dX12_readGate_181 rfl (Nat.le_of_ble_eq_true rfl) rfl ?_
    refine zr_if_ne (pc := 184) (tgt := 191) S dX12_readGate_184 (by decide) (fun c184 => ?_) (fun c184 => absurd c184 (by omega))
    exact zr_vret (pc := 191) S dX12_readGate_191 rfl ⟨Nat.le_refl _, Nat.le_refl _⟩ (q)
end
