section
/-- stretches of a measure, found up to s -/
def stI (M N : zM) (m : Nat) (fr to s : Int) (c : Nat) : Prop := (∀ k, k ≠ 51 → k ≠ 52 → N k = M k) ∧ (∀ j, (j < m * 17 ∨ m * 17 + 17 ≤ j) → N 51 j = M 51 j ∧ N 52 j = M 52 j) ∧ (∀ i, i < c → 0 ≤ N 51 (m * 17 + i) ∧ N 51 (m * 17 + i) < ((2 ^ (M 11 0).toNat : Nat) : Int) ∧ 1 ≤ N 52 (m * 17 + i) ∧ N 52 (m * 17 + i) ≤ 100) ∧ (∀ F : Nat → Int, sumU (fun i => N 52 (m * 17 + i) * F (N 51 (m * 17 + i)).toNat) c = sumU (fun t => F (bm M m (fr + t))) (s - fr).toNat)
theorem stI_AG {M N : zM} {m : Nat} {fr to s : Int} {c : Nat} (h : stI M N m fr to s c) : AG M N := fun k hk => h.1 k (by omega) (by omega)
theorem stI_step {M N : zM} {m c : Nat} {fr to s e : Int} (hg : ICg M) (h : stI M N m fr to s c) (hm : m < 3) (hc : c < 17) (h0 : 0 ≤ fr) (h1 : fr ≤ s) (h2 : s ≤ e) (h3 : e ≤ 99) (he : e = endU M m s to (M 11 0).toNat) : stI M (zup (zup N 51 (m * 17 + c) (bm M m s : Nat)) 52 (m * 17 + c) (e - s + 1)) m fr to (e + 1) (c + 1) := by
  obtain ⟨a, b, d, f⟩ := h
  have hb : bm M m s < 2 ^ (M 11 0).toNat := bitsU_lt (pmG M m s) (M 11 0).toNat
  refine ⟨fun k h1 h2 => by rw [zup_o k h2, zup_o k h1]; exact a k h1 h2, fun j hj => ?_, fun i hi => ?_, fun F => ?_⟩
  · rw [zup_k (by decide), zup_j (by omega), zup_j (by omega), zup_k (by decide)]
    exact b j hj
  · rw [zup_k (by decide)]
    by_cases e1 : i = c
    · subst e1
      rw [zup_e, zup_e]
      omega
    · rw [zup_j (by omega), zup_j (by omega), zup_k (by decide)]
      exact d i (by omega)
  · have q := f F
    rw [sumU, zup_e, zup_k (by decide), zup_e, Int.toNat_natCast]
    have e1 : sumU (fun i => zup (zup N 51 (m * 17 + c) (bm M m s : Nat)) 52 (m * 17 + c) (e - s + 1) 52 (m * 17 + i) * F (zup (zup N 51 (m * 17 + c) (bm M m s : Nat)) 52 (m * 17 + c) (e - s + 1) 51 (m * 17 + i)).toNat) c = sumU (fun i => N 52 (m * 17 + i) * F (N 51 (m * 17 + i)).toNat) c := by
      refine sumU_cong c (fun i hi => ?_)
      rw [zup_j (by omega), zup_k (by decide), zup_k (by decide), zup_j (by omega)]
    have e2 : (e + 1 - fr).toNat = (s - fr).toNat + (e - s + 1).toNat := by omega
    rw [e1, q, e2, sumU_app (fun t => F (bm M m (fr + t))) (s - fr).toNat (F (bm M m s)) (e - s + 1).toNat (fun t ht => ?_)]
    · rw [Int.toNat_of_nonneg (by omega)]
    · have e3 : fr + (((s - fr).toNat + t : Nat) : Int) = s + t := by omega
      show F (bm M m (fr + (((s - fr).toNat + t : Nat) : Int))) = _
      rw [e3, bm_same (s := s) (to := to) (by omega) (by omega)]
theorem lp_X6_stretch {E : zE} {X : zX} {Qp : Option zV → zM → Prop} {M : zM} {m : Nat} {fr to : Int} (S : zS (zg E) X cX6_stretch 11 wzX6_stretch RX6 none) (hg : ICg M) (hs : ICs M) (hm : m < 3) (h0 : 0 ≤ fr) (h3 : to ≤ 99) (hQ : ∀ (N : zM) (c : Nat), c ≤ 17 → stI M N m fr to (to + 1) c → Qp none (zup N 50 m c)) : ∀ (n : Nat) (N : zM) (c : Nat) (s : Int) (u6 u7 u8 u9 u10 : Option zV), (n : Int) + s = to + 1 → fr ≤ s → stI M N m fr to s c → (s ≤ to → c + pot M m s (M 11 0).toNat ≤ 16) → c ≤ 17 → zK (zg E) rmX6_stretch 11 (Qp, 0, 0) X (0, 0) 6 [some (zR 47), some (zI m), some (zI fr), some (zI to), some (zI c), some (zI s), u6, u7, u8, u9, u10] [] N := by
  have h8 := hg.1
  intro n
  induction n using Nat.strongRecOn with
  | ind n ih =>
    intro N c s u6 u7 u8 u9 u10 hn hf hI hp hc
    by_cases hc2 : s ≤ to
    · have p16 := hp hc2
      have hA := stI_AG hI
      have el := endU_le (M := M) (m := m) hc2 (M 11 0).toNat
      have e51 : ((m : Int) * 17 + c).toNat = m * 17 + c := by omega
      have q := stI_step (e := endU M m s to (M 11 0).toNat) hg hI hm (by omega) h0 hf el.1 (by omega) rfl
      have nx : ∀ u6 u7 u8 u9 u10, zK (zg E) rmX6_stretch 11 (Qp, 0, 0) X (0, 0) 6 [some (zR 47), some (zI m), some (zI fr), some (zI to), some (zI (c + 1 : Nat)), some (zI (endU M m s to (M 11 0).toNat + 1)), u6, u7, u8, u9, u10] [] (zup (zup N 51 (m * 17 + c) (bm M m s : Nat)) 52 (m * 17 + c) (endU M m s to (M 11 0).toNat - s + 1)) := fun u6 u7 u8 u9 u10 => by
        refine ih (to - endU M m s to (M 11 0).toNat).toNat (by omega) _ (c + 1) _ u6 u7 u8 u9 u10 (by omega) (by omega) q (fun hle => ?_) (by omega)
        rcases endU_bp (M := M) (m := m) (s := s) (to := to) (M 11 0).toNat with h | h
        · omega
        · have := pot_dec (M := M) (m := m) (s := s) (e := endU M m s to (M 11 0).toNat) (by omega) (M 11 0).toNat h
          omega
      refine zr_iload (pc := 6) S dX6_stretch_6 rfl ?_
      refine zr_iload_n (pc := 8) S dX6_stretch_8 rfl ?_
      refine zr_icmp_gt (pc := 9) (tgt := 167) S dX6_stretch_9 (by decide) (fun c9 => absurd c9 (by omega)) (fun c9 => ?_)
      refine zr_iload (pc := 12) S dX6_stretch_12 rfl ?_
      refine zr_bipush (pc := 14) S dX6_stretch_14 ⟨by unfold zrI; omega, by decide⟩ ?_
      refine zr_icmp_ge (pc := 16) (tgt := 167) S dX6_stretch_16 (by decide) (fun c16 => absurd c16 (by omega)) (fun c16 => ?_)
      refine zr_iconst (pc := 19) S dX6_stretch_19 (by unfold zrI; omega) ?_
      refine zr_istore (pc := 20) S dX6_stretch_20 (by decide) ?_
      dsimp only [zst1, zst2, zset, zget, zlong]
      refine zr_iload_n (pc := 22) S dX6_stretch_22 rfl ?_
      refine zr_istore (pc := 23) S dX6_stretch_23 (by decide) ?_
      dsimp only [zst1, zst2, zset, zget, zlong]
      refine zr_iconst (pc := 25) S dX6_stretch_25 (by unfold zrI; omega) ?_
      refine zr_istore (pc := 26) S dX6_stretch_26 (by decide) ?_
      dsimp only [zst1, zst2, zset, zget, zlong]
      refine lp_X6_stretch_in S hg hs hA h0 hf hc2 h3 (fun u9 u10 => ?_) (M 11 0).toNat 0 _ _ (by omega)
      refine zr_aload_n (pc := 122) S dX6_stretch_122 rfl ?_
      refine zr_getR (pc := 123) S fX6_stretch_22 dX6_stretch_123 rfl (Nat.le_of_ble_eq_true rfl) rfl ?_
      refine zr_iload_n (pc := 126) S dX6_stretch_126 rfl ?_
      refine zr_bipush (pc := 127) S dX6_stretch_127 ⟨by unfold zrI; omega, by decide⟩ ?_
      refine zr_imul (pc := 129) S dX6_stretch_129 (by unfold zrI; omega) ?_
      refine zr_iload (pc := 130) S dX6_stretch_130 rfl ?_
      refine zr_iadd (pc := 132) S dX6_stretch_132 (by unfold zrI; omega) ?_
      refine zr_iload (pc := 133) S dX6_stretch_133 rfl ?_
      refine zr_iastore (pc := 135) S dX6_stretch_135 rfl (Nat.le_of_ble_eq_true rfl) (by omega) (by omega) ?_
      rw [e51]
      refine zr_aload_n (pc := 136) S dX6_stretch_136 rfl ?_
      refine zr_getR (pc := 137) S fX6_stretch_25 dX6_stretch_137 rfl (Nat.le_of_ble_eq_true rfl) rfl ?_
      try simp only [zup_k, zup_e, ne_eq, Nat.reduceEqDiff, not_false_eq_true, zup_j]
      refine zr_iload_n (pc := 140) S dX6_stretch_140 rfl ?_
      refine zr_bipush (pc := 141) S dX6_stretch_141 ⟨by unfold zrI; omega, by decide⟩ ?_
      refine zr_imul (pc := 143) S dX6_stretch_143 (by unfold zrI; omega) ?_
      refine zr_iload (pc := 144) S dX6_stretch_144 rfl ?_
      refine zr_iadd (pc := 146) S dX6_stretch_146 (by unfold zrI; omega) ?_
      refine zr_iload (pc := 147) S dX6_stretch_147 rfl ?_
      refine zr_iload (pc := 149) S dX6_stretch_149 rfl ?_
      refine zr_isub (pc := 151) S dX6_stretch_151 (by unfold zrI; omega) ?_
      refine zr_iconst (pc := 152) S dX6_stretch_152 (by unfold zrI; omega) ?_
      refine zr_iadd (pc := 153) S dX6_stretch_153 (by unfold zrI; omega) ?_
      refine zr_iastore (pc := 154) S dX6_stretch_154 rfl (Nat.le_of_ble_eq_true rfl) (by omega) (by omega) ?_
      rw [e51]
      refine zr_iinc (pc := 155) S dX6_stretch_155 rfl (by unfold zrI; omega) (by decide) ?_
      dsimp only [zst1, zst2, zset, zget, zlong]
      refine zr_iload (pc := 158) S dX6_stretch_158 rfl ?_
      refine zr_iconst (pc := 160) S dX6_stretch_160 (by unfold zrI; omega) ?_
      refine zr_iadd (pc := 161) S dX6_stretch_161 (by unfold zrI; omega) ?_
      refine zr_istore (pc := 162) S dX6_stretch_162 (by decide) ?_
      dsimp only [zst1, zst2, zset, zget, zlong]
      refine zr_goto (pc := 164) (tgt := 6) S dX6_stretch_164 (by decide) ?_
      exact nx _ _ _ _ _
    · have e : s = to + 1 := by omega
      subst e
      have k := hQ N c hc hI
      refine zr_iload (pc := 6) S dX6_stretch_6 rfl ?_
      refine zr_iload_n (pc := 8) S dX6_stretch_8 rfl ?_
      refine zr_icmp_gt (pc := 9) (tgt := 167) S dX6_stretch_9 (by decide) (fun c9 => ?_) (fun c9 => absurd c9 (by omega))
      refine zr_aload_n (pc := 167) S dX6_stretch_167 rfl ?_
      refine zr_getR (pc := 168) S fX6_stretch_19 dX6_stretch_168 rfl (Nat.le_of_ble_eq_true rfl) rfl ?_
      refine zr_iload_n (pc := 171) S dX6_stretch_171 rfl ?_
      refine zr_iload (pc := 172) S dX6_stretch_172 rfl ?_
      refine zr_iastore (pc := 174) S dX6_stretch_174 rfl (Nat.le_of_ble_eq_true rfl) (by omega) (by omega) ?_
      exact zr_vret (pc := 175) S dX6_stretch_175 rfl ⟨Nat.le_refl _, Nat.le_refl _⟩ (k)
def sp_X6_stretch (as : List zV) (M : zM) (Q : Option zV → zM → Prop) : Prop := ∃ (m : Nat) (fr to : Int), as = [zR 47, zI m, zI fr, zI to] ∧ (ICg M) ∧ (ICs M) ∧ (m < 3) ∧ (0 ≤ fr) ∧ (fr ≤ to + 1) ∧ (to ≤ 99) ∧ (∀ (r : Option zV) (M' : zM), (r = none ∧ ∃ (N : zM) (c : Nat), c ≤ 17 ∧ stI M N m fr to (to + 1) c ∧ M' = zup N 50 m c) → Q r M')
theorem us_X6_stretch {m : Nat} {fr to : Int} {M : zM} {Q : Option zV → zM → Prop} (hg : ICg M) (hs : ICs M) (hm : m < 3) (h0 : 0 ≤ fr) (h1 : fr ≤ to + 1) (h3 : to ≤ 99) (h99 : (∀ (r : Option zV) (M' : zM), (r = none ∧ ∃ (N : zM) (c : Nat), c ≤ 17 ∧ stI M N m fr to (to + 1) c ∧ M' = zup N 50 m c) → Q r M')) : sp_X6_stretch [zR 47, zI m, zI fr, zI to] M Q := ⟨m, fr, to, rfl, hg, hs, hm, h0, h1, h3, h99⟩
set_option maxRecDepth 20000 in
set_option maxHeartbeats 4000000 in
theorem m_X6_stretch (l : Launch) : zC l yX6_stretch wzX6_stretch rmX6_stretch sp_X6_stretch := by
  refine zMet.of RX6 (by decide +kernel) rfl rfl ?_
  intro E X as M Qp hX S hsp
  obtain ⟨m, fr, to, rfl, hg, hs, hm, h0, h1, h3, hQ⟩ := hsp
  refine ⟨Nat.le_of_ble_eq_true rfl, ?_⟩
  dsimp only [zpad, zargs]
  have h8 := hg.1
  have pl := pot_le (M := M) (m := m) (s := fr) (M 11 0).toNat
  have i0 : stI M M m fr to fr 0 := ⟨fun _ _ _ => rfl, fun _ _ => ⟨rfl, rfl⟩, fun i hi => absurd hi (by omega), fun F => by rw [show (fr - fr).toNat = 0 by omega]; rfl⟩
  refine zr_iconst (pc := 0) S dX6_stretch_0 (by unfold zrI; omega) ?_
  refine zr_istore (pc := 1) S dX6_stretch_1 (by decide) ?_
  dsimp only [zst1, zst2, zset, zget, zlong]
  refine zr_iload_n (pc := 3) S dX6_stretch_3 rfl ?_
  refine zr_istore (pc := 4) S dX6_stretch_4 (by decide) ?_
  dsimp only [zst1, zst2, zset, zget, zlong]
  exact lp_X6_stretch S hg hs hm h0 h3 (fun N c hc hI => hQ _ _ ⟨rfl, N, c, hc, hI, rfl⟩) (to + 1 - fr).toNat M 0 fr _ _ _ _ _ (by omega) (by omega) i0 (by omega) (by omega)
end
