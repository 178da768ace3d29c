section
/-- the told row of a buyer's coins -/
def bqT (t : Nat → Int) (b : Nat) : Prop := ∀ i : Nat, i < 4 → (t (578 + 6 * b + i) = -1 ↔ cnB t b ≤ i)
theorem cnB_r (t : Nat → Int) (b : Nat) : 1 ≤ cnB t b ∧ cnB t b ≤ 4 := by
  unfold cnB
  split
  · omega
  · split
    · omega
    · split <;> omega
/-- the first coins of a buyer, j of them or all -/
def mc (t : Nat → Int) (b j : Nat) : Nat := min j (cnB t b).toNat
theorem sv1 {E : zE} {X : zX} {Qp : Option zV → zM → Prop} {M : zM} {b : Nat} {f t : Int} (S : zS (zg E) X cX12_served 8 wzX12_served RX12 (some .boolean)) (hs : ICs (vm M)) (hb : ICb (vm M)) (h5 : (b : Int) < M 181 4) (hq : bqT (M 181) b)
    (hN : ¬ (∀ i, i < (cnB (M 181) b).toNat → isGood (vm M) (vm M 31 (b * 4 + i))) → Qp (some (zI 0)) M)
    (k : (∀ i, i < (cnB (M 181) b).toNat → isGood (vm M) (vm M 31 (b * 4 + i))) → ∀ u7, zK (zg E) rmX12_served 8 (Qp, 0, 0) X (0, 0) 83 [some (zR 180), some (zI b), some (zI f), some (zI t), some (zI (577 + 6 * (b : Int))), some (zI (payU (vm M) b (cnB (M 181) b).toNat)), some (zI 5), u7] [] M) : ∀ (r j : Nat) (u7 : Option zV), r + j = 4 → (∀ i, i < mc (M 181) b j → isGood (vm M) (vm M 31 (b * 4 + i))) → zK (zg E) rmX12_served 8 (Qp, 0, 0) X (0, 0) 16 [some (zR 180), some (zI b), some (zI f), some (zI t), some (zI (577 + 6 * (b : Int))), some (zI (payU (vm M) b (mc (M 181) b j))), some (zI ((j : Int) + 1)), u7] [] M := by
  have t8 : 0 ≤ M 181 0 ∧ M 181 0 ≤ 8 := hs.1
  have b5 : b < 5 := by have := hb.1; rw [vm_buy] at this; omega
  have cr := cnB_r (M 181) b
  have ecn := vm_cns h5
  intro r
  induction r with
  | zero =>
    intro j u7 hj hg
    obtain rfl : j = 4 := by omega
    have e4 : mc (M 181) b 4 = (cnB (M 181) b).toNat := by unfold mc; omega
    rw [e4] at hg ⊢
    have l := k hg u7
    refine zr_iload (pc := 16) S dX12_served_16 rfl ?_
    refine zr_iconst (pc := 18) S dX12_served_18 (by unfold zrI; omega) ?_
    refine zr_icmp_gt (pc := 19) (tgt := 83) S dX12_served_19 (by decide) (fun c19 => ?_) (fun c19 => absurd c19 (by omega))
    exact l
  | succ r ih =>
    intro j u7 hj hg
    have ix : ((577 : Int) + 6 * (b : Int) + ((j : Int) + 1)).toNat = 578 + 6 * b + j := by omega
    have l := ih (j + 1) u7 (by omega)
    rw [Int.natCast_add, Int.natCast_one] at l
    by_cases c : cnB (M 181) b ≤ j
    · have em : mc (M 181) b (j + 1) = mc (M 181) b j := by unfold mc; omega
      rw [em] at l
      have e1 := (hq j (by omega)).mpr c
      have l2 := l hg
      refine zr_iload (pc := 16) S dX12_served_16 rfl ?_
      refine zr_iconst (pc := 18) S dX12_served_18 (by unfold zrI; omega) ?_
      refine zr_icmp_gt (pc := 19) (tgt := 83) S dX12_served_19 (by decide) (fun c19 => absurd c19 (by omega)) (fun c19 => ?_)
      refine zr_aload_n (pc := 22) S dX12_served_22 rfl ?_
      refine zr_getR (pc := 23) S fX12_served_9 dX12_served_23 rfl (Nat.le_of_ble_eq_true rfl) rfl ?_
      refine zr_iload (pc := 26) S dX12_served_26 rfl ?_
      refine zr_iload (pc := 28) S dX12_served_28 rfl ?_
      refine zr_iadd (pc := 30) S dX12_served_30 (by unfold zrI; omega) ?_
      refine zr_iaload (pc := 31) S dX12_served_31 rfl (Nat.le_of_ble_eq_true rfl) (by omega) (by omega) ?_
      rw [ix]
      refine zr_iconst (pc := 32) S dX12_served_32 (by unfold zrI; omega) ?_
      refine zr_icmp_ne (pc := 33) (tgt := 39) S dX12_served_33 (by decide) (fun c33 => absurd c33 (by omega)) (fun c33 => ?_)
      refine zr_goto (pc := 36) (tgt := 77) S dX12_served_36 (by decide) ?_
      refine zr_iinc (pc := 77) S dX12_served_77 rfl (by unfold zrI; omega) (by decide) ?_
      dsimp only [zst1, zst2, zset, zget, zlong]
      refine zr_goto (pc := 80) (tgt := 16) S dX12_served_80 (by decide) ?_
      exact l2
    · have em : mc (M 181) b (j + 1) = j + 1 := by unfold mc; omega
      have em0 : mc (M 181) b j = j := by unfold mc; omega
      rw [em] at l
      rw [em0] at hg ⊢
      have e1 : ¬ M 181 (578 + 6 * b + j) = -1 := fun z => c ((hq j (by omega)).mp z)
      have ec := vm_cn (i := j) h5 (by omega) (by omega)
      rw [← ec] at e1
      have ci := (hb.2.2 b b5).2.2.2.2.2.2 j (by omega)
      have v := hs.v ci.1 (by omega)
      have p := payU_r hs hb b5 j (by omega)
      have ew : isGood (vm M) (vm M 31 (b * 4 + j)) → worth (vm M) (vm M 31 (b * 4 + j)) = vm M 4 (vm M 31 (b * 4 + j)).toNat := fun z => by unfold worth; rw [if_pos z]
      have l2 := fun z => l (fun i hi => by
        by_cases e : i = j
        · rw [e]; exact z
        · exact hg i (by omega))
      simp only [payU] at l2
      refine zr_iload (pc := 16) S dX12_served_16 rfl ?_
      refine zr_iconst (pc := 18) S dX12_served_18 (by unfold zrI; omega) ?_
      refine zr_icmp_gt (pc := 19) (tgt := 83) S dX12_served_19 (by decide) (fun c19 => absurd c19 (by omega)) (fun c19 => ?_)
      refine zr_aload_n (pc := 22) S dX12_served_22 rfl ?_
      refine zr_getR (pc := 23) S fX12_served_9 dX12_served_23 rfl (Nat.le_of_ble_eq_true rfl) rfl ?_
      refine zr_iload (pc := 26) S dX12_served_26 rfl ?_
      refine zr_iload (pc := 28) S dX12_served_28 rfl ?_
      refine zr_iadd (pc := 30) S dX12_served_30 (by unfold zrI; omega) ?_
      refine zr_iaload (pc := 31) S dX12_served_31 rfl (Nat.le_of_ble_eq_true rfl) (by omega) (by omega) ?_
      rw [ix, ← ec]
      refine zr_iconst (pc := 32) S dX12_served_32 (by unfold zrI; omega) ?_
      refine zr_icmp_ne (pc := 33) (tgt := 39) S dX12_served_33 (by decide) (fun c33 => ?_) (fun c33 => absurd c33 (by omega))
      refine zr_aload_n (pc := 39) S dX12_served_39 rfl ?_
      refine zr_aload_n (pc := 40) S dX12_served_40 rfl ?_
      refine zr_getR (pc := 41) S fX12_served_9 dX12_served_41 rfl (Nat.le_of_ble_eq_true rfl) rfl ?_
      refine zr_iload (pc := 44) S dX12_served_44 rfl ?_
      refine zr_iload (pc := 46) S dX12_served_46 rfl ?_
      refine zr_iadd (pc := 48) S dX12_served_48 (by unfold zrI; omega) ?_
      refine zr_iaload (pc := 49) S dX12_served_49 rfl (Nat.le_of_ble_eq_true rfl) (by omega) (by omega) ?_
      rw [ix, ← ec]
      refine zr_invV (pc := 50) S [zI _] (m_X12_isGood _) kX12_served_120 dX12_served_50 rfl (Nat.le_of_ble_eq_true rfl) rfl (Nat.le_of_ble_eq_true rfl) ⟨Nat.le_of_ble_eq_true rfl, Nat.le_of_ble_eq_true rfl⟩ (us_X12_isGood t8.1 t8.2 ?_)
      dsimp only [zaft, Option.toList, List.cons_append, List.nil_append, Nat.add_zero]
      refine zr_if_ne (pc := 53) (tgt := 58) S dX12_served_53 (by decide) (fun c53 => ?_) (fun c53 => ?_)
      · rw [b01_0, Classical.not_not] at c53
        refine zr_iload (pc := 58) S dX12_served_58 rfl ?_
        refine zr_aload_n (pc := 60) S dX12_served_60 rfl ?_
        refine zr_aload_n (pc := 61) S dX12_served_61 rfl ?_
        refine zr_getR (pc := 62) S fX12_served_9 dX12_served_62 rfl (Nat.le_of_ble_eq_true rfl) rfl ?_
        refine zr_iload (pc := 65) S dX12_served_65 rfl ?_
        refine zr_iload (pc := 67) S dX12_served_67 rfl ?_
        refine zr_iadd (pc := 69) S dX12_served_69 (by unfold zrI; omega) ?_
        refine zr_iaload (pc := 70) S dX12_served_70 rfl (Nat.le_of_ble_eq_true rfl) (by omega) (by omega) ?_
        rw [ix, ← ec]
        refine zr_invV (pc := 71) S [zI _] (m_X12_valueOf _) kX12_served_264 dX12_served_71 rfl (Nat.le_of_ble_eq_true rfl) rfl (Nat.le_of_ble_eq_true rfl) ⟨Nat.le_of_ble_eq_true rfl, Nat.le_of_ble_eq_true rfl⟩ (us_X12_valueOf t8.1 t8.2 ?_)
        dsimp only [zaft, Option.toList, List.cons_append, List.nil_append, Nat.add_zero]
        rw [ew c53]
        refine zr_iadd (pc := 74) S dX12_served_74 (by unfold zrI; omega) ?_
        refine zr_istore (pc := 75) S dX12_served_75 (by decide) ?_
        dsimp only [zst1, zst2, zset, zget, zlong]
        refine zr_iinc (pc := 77) S dX12_served_77 rfl (by unfold zrI; omega) (by decide) ?_
        dsimp only [zst1, zst2, zset, zget, zlong]
        refine zr_goto (pc := 80) (tgt := 16) S dX12_served_80 (by decide) ?_
        exact l2 c53
      · rw [b01_0] at c53
        have q := hN (fun z => c53 (z j (by omega)))
        refine zr_iconst (pc := 56) S dX12_served_56 (by unfold zrI; omega) ?_
        exact zr_zret (pc := 57) S dX12_served_57 rfl (by first | omega | exact b01_r) ⟨Nat.le_refl _, Nat.le_refl _⟩ (q)
theorem sv2 {E : zE} {X : zX} {Qp : Option zV → zM → Prop} {M : zM} {f : Nat} {b t l4 l5 l6 : Int} (S : zS (zg E) X cX12_served 8 wzX12_served RX12 (some .boolean)) (hf : f ≤ 3)
    (k : ∀ H : Nat → Int, (∀ s, s < 8 → H s = M 194 (8 * f + s)) → zK (zg E) rmX12_served 8 (Qp, 0, 0) X (0, 0) 139 [some (zR 180), some (zI b), some (zI f), some (zI t), some (zI l4), some (zI l5), some (zI l6), some (zI 8)] [] (zrow M 189 H)) : ∀ (r i : Nat) (H : Nat → Int), r + i = 8 → (∀ s, s < i → H s = M 194 (8 * f + s)) → zK (zg E) rmX12_served 8 (Qp, 0, 0) X (0, 0) 107 [some (zR 180), some (zI b), some (zI f), some (zI t), some (zI l4), some (zI l5), some (zI l6), some (zI i)] [] (zrow M 189 H) := by
  intro r
  induction r with
  | zero =>
    intro i H hi hH
    obtain rfl : i = 8 := by omega
    refine zr_iload (pc := 107) S dX12_served_107 rfl ?_
    refine zr_bipush (pc := 109) S dX12_served_109 ⟨by unfold zrI; omega, by decide⟩ ?_
    refine zr_icmp_ge (pc := 111) (tgt := 139) S dX12_served_111 (by decide) (fun c111 => ?_) (fun c111 => absurd c111 (by omega))
    exact k H hH
  | succ r ih =>
    intro i H hi hH
    have l := ih (i + 1) (rUp H i (M 194 (8 * f + i))) (by omega) (fun s hs => by
      by_cases e : s = i
      · subst e; rw [rUp_e]
      · rw [rUp_o e]; exact hH s (by omega))
    rw [Int.natCast_add, Int.natCast_one] at l
    have e1 : zrow M 189 H 194 ((8 : Int) * (f : Int) + (i : Int)).toNat = M 194 (8 * f + i) := by rw [zrow_o (by decide), show ((8 : Int) * (f : Int) + (i : Int)).toNat = 8 * f + i by omega]
    refine zr_iload (pc := 107) S dX12_served_107 rfl ?_
    refine zr_bipush (pc := 109) S dX12_served_109 ⟨by unfold zrI; omega, by decide⟩ ?_
    refine zr_icmp_ge (pc := 111) (tgt := 139) S dX12_served_111 (by decide) (fun c111 => absurd c111 (by omega)) (fun c111 => ?_)
    refine zr_aload_n (pc := 114) S dX12_served_114 rfl ?_
    refine zr_getR (pc := 115) S fX12_served_44 dX12_served_115 rfl (Nat.le_of_ble_eq_true rfl) rfl ?_
    refine zr_iload (pc := 118) S dX12_served_118 rfl ?_
    refine zr_aload_n (pc := 120) S dX12_served_120 rfl ?_
    refine zr_getR (pc := 121) S fX12_served_59 dX12_served_121 rfl (Nat.le_of_ble_eq_true rfl) rfl ?_
    refine zr_bipush (pc := 124) S dX12_served_124 ⟨by unfold zrI; omega, by decide⟩ ?_
    refine zr_iload_n (pc := 126) S dX12_served_126 rfl ?_
    refine zr_imul (pc := 127) S dX12_served_127 (by unfold zrI; omega) ?_
    refine zr_iload (pc := 128) S dX12_served_128 rfl ?_
    refine zr_iadd (pc := 130) S dX12_served_130 (by unfold zrI; omega) ?_
    refine zr_iaload (pc := 131) S dX12_served_131 rfl (Nat.le_of_ble_eq_true rfl) (by omega) (by omega) ?_
    rw [e1]
    refine zr_iastore (pc := 132) S dX12_served_132 rfl (Nat.le_of_ble_eq_true rfl) (by omega) (by omega) ?_
    rw [Int.toNat_natCast, zrow_up]
    refine zr_iinc (pc := 133) S dX12_served_133 rfl (by unfold zrI; omega) (by decide) ?_
    dsimp only [zst1, zst2, zset, zget, zlong]
    refine zr_goto (pc := 136) (tgt := 107) S dX12_served_136 (by decide) ?_
    exact l
theorem sv3 {E : zE} {X : zX} {Qp : Option zV → zM → Prop} {N : zM} {t : Nat} {b f l4 l5 l6 : Int} (S : zS (zg E) X cX12_served 8 wzX12_served RX12 (some .boolean)) (ht : t ≤ 3) (hr : ∀ s, s < 8 → (0 ≤ N 189 s ∧ N 189 s ≤ 20) ∧ (0 ≤ N 190 s ∧ N 190 s ≤ 20))
    (k : ∀ K : Nat → Int, (∀ s, s < 8 → K (8 * t + s) = N 189 s - N 190 s) → (∀ j, (j < 8 * t ∨ 8 * t + 8 ≤ j) → K j = N 194 j) → zK (zg E) rmX12_served 8 (Qp, 0, 0) X (0, 0) 199 [some (zR 180), some (zI b), some (zI f), some (zI t), some (zI l4), some (zI l5), some (zI l6), some (zI 8)] [] (zrow N 194 K)) : ∀ (r i : Nat) (K : Nat → Int), r + i = 8 → (∀ s, s < i → K (8 * t + s) = N 189 s - N 190 s) → (∀ j, (j < 8 * t ∨ 8 * t + 8 ≤ j) → K j = N 194 j) → zK (zg E) rmX12_served 8 (Qp, 0, 0) X (0, 0) 159 [some (zR 180), some (zI b), some (zI f), some (zI t), some (zI l4), some (zI l5), some (zI l6), some (zI i)] [] (zrow N 194 K) := by
  intro r
  induction r with
  | zero =>
    intro i K hi h1 h2
    obtain rfl : i = 8 := by omega
    refine zr_iload (pc := 159) S dX12_served_159 rfl ?_
    refine zr_bipush (pc := 161) S dX12_served_161 ⟨by unfold zrI; omega, by decide⟩ ?_
    refine zr_icmp_ge (pc := 163) (tgt := 199) S dX12_served_163 (by decide) (fun c163 => ?_) (fun c163 => absurd c163 (by omega))
    exact k K h1 h2
  | succ r ih =>
    intro i K hi h1 h2
    have l := ih (i + 1) (rUp K (8 * t + i) (N 189 i - N 190 i)) (by omega) (fun s hs => by
      by_cases e : s = i
      · subst e; rw [rUp_e]
      · rw [rUp_o (by omega)]; exact h1 s (by omega)) (fun j hj => by rw [rUp_o (by omega)]; exact h2 j hj)
    rw [Int.natCast_add, Int.natCast_one] at l
    have rr := hr i (by omega)
    have e0 : ((8 : Int) * (t : Int) + (i : Int)).toNat = 8 * t + i := by omega
    have e1 : zrow N 194 K 189 i = N 189 i := by rw [zrow_o (by decide)]
    have e2 : zrow N 194 K 190 i = N 190 i := by rw [zrow_o (by decide)]
    refine zr_iload (pc := 159) S dX12_served_159 rfl ?_
    refine zr_bipush (pc := 161) S dX12_served_161 ⟨by unfold zrI; omega, by decide⟩ ?_
    refine zr_icmp_ge (pc := 163) (tgt := 199) S dX12_served_163 (by decide) (fun c163 => absurd c163 (by omega)) (fun c163 => ?_)
    refine zr_aload_n (pc := 166) S dX12_served_166 rfl ?_
    refine zr_getR (pc := 167) S fX12_served_59 dX12_served_167 rfl (Nat.le_of_ble_eq_true rfl) rfl ?_
    refine zr_bipush (pc := 170) S dX12_served_170 ⟨by unfold zrI; omega, by decide⟩ ?_
    refine zr_iload_n (pc := 172) S dX12_served_172 rfl ?_
    refine zr_imul (pc := 173) S dX12_served_173 (by unfold zrI; omega) ?_
    refine zr_iload (pc := 174) S dX12_served_174 rfl ?_
    refine zr_iadd (pc := 176) S dX12_served_176 (by unfold zrI; omega) ?_
    refine zr_aload_n (pc := 177) S dX12_served_177 rfl ?_
    refine zr_getR (pc := 178) S fX12_served_44 dX12_served_178 rfl (Nat.le_of_ble_eq_true rfl) rfl ?_
    refine zr_iload (pc := 181) S dX12_served_181 rfl ?_
    refine zr_iaload (pc := 183) S dX12_served_183 rfl (Nat.le_of_ble_eq_true rfl) (by omega) (by omega) ?_
    rw [Int.toNat_natCast, e1]
    refine zr_aload_n (pc := 184) S dX12_served_184 rfl ?_
    refine zr_getR (pc := 185) S fX12_served_47 dX12_served_185 rfl (Nat.le_of_ble_eq_true rfl) rfl ?_
    refine zr_iload (pc := 188) S dX12_served_188 rfl ?_
    refine zr_iaload (pc := 190) S dX12_served_190 rfl (Nat.le_of_ble_eq_true rfl) (by omega) (by omega) ?_
    rw [Int.toNat_natCast, e2]
    refine zr_isub (pc := 191) S dX12_served_191 (by unfold zrI; omega) ?_
    refine zr_iastore (pc := 192) S dX12_served_192 rfl (Nat.le_of_ble_eq_true rfl) (by omega) (by omega) ?_
    rw [e0, zrow_up]
    refine zr_iinc (pc := 193) S dX12_served_193 rfl (by unfold zrI; omega) (by decide) ?_
    dsimp only [zst1, zst2, zset, zget, zlong]
    refine zr_goto (pc := 196) (tgt := 159) S dX12_served_196 (by decide) ?_
    exact l
theorem sv4 {E : zE} {X : zX} {Qp : Option zV → zM → Prop} {N V : zM} {t b : Nat} {g : Nat → Int} {f l5 l6 : Int} (S : zS (zg E) X cX12_served 8 wzX12_served RX12 (some .boolean)) (ht : t ≤ 3) (hb : ICb V) (h5 : (b : Int) < N 181 4) (hq : bqT (N 181) b) (h4 : N 181 4 ≤ 5) (ec : ∀ i : Nat, (i : Int) < cnB (N 181) b → V 31 (b * 4 + i) = N 181 (578 + 6 * b + i)) (en : V 32 b = cnB (N 181) b) (hg : ∀ k, k < 8 → 0 ≤ g k ∧ g k ≤ 20)
    (hQ : ∀ K : Nat → Int, (∀ s, s < 8 → K (8 * t + s) = addC V b g (cnB (N 181) b).toNat s) → (∀ j, (j < 8 * t ∨ 8 * t + 8 ≤ j) → K j = N 194 j) → Qp (some (zI 1)) (zrow N 194 K)) : ∀ (r j : Nat) (K : Nat → Int), r + j = 4 → (∀ s, s < 8 → K (8 * t + s) = addC V b g (mc (N 181) b j) s) → (∀ j, (j < 8 * t ∨ 8 * t + 8 ≤ j) → K j = N 194 j) → zK (zg E) rmX12_served 8 (Qp, 0, 0) X (0, 0) 202 [some (zR 180), some (zI b), some (zI f), some (zI t), some (zI (577 + 6 * (b : Int))), some (zI l5), some (zI l6), some (zI ((j : Int) + 1))] [] (zrow N 194 K) := by
  have cr := cnB_r (N 181) b
  intro r
  induction r with
  | zero =>
    intro j K hj h1 h2
    obtain rfl : j = 4 := by omega
    have e4 : mc (N 181) b 4 = (cnB (N 181) b).toNat := by unfold mc; omega
    rw [e4] at h1
    refine zr_iload (pc := 202) S dX12_served_202 rfl ?_
    refine zr_iconst (pc := 204) S dX12_served_204 (by unfold zrI; omega) ?_
    refine zr_icmp_gt (pc := 205) (tgt := 275) S dX12_served_205 (by decide) (fun c205 => ?_) (fun c205 => absurd c205 (by omega))
    refine zr_iconst (pc := 275) S dX12_served_275 (by unfold zrI; omega) ?_
    exact zr_zret (pc := 276) S dX12_served_276 rfl (by first | omega | exact b01_r) ⟨Nat.le_refl _, Nat.le_refl _⟩ (hQ K h1 h2)
  | succ r ih =>
    intro j K hj h1 h2
    have ix : ((577 : Int) + 6 * (b : Int) + ((j : Int) + 1)).toNat = 578 + 6 * b + j := by omega
    have et : zrow N 194 K 181 = N 181 := zrow_o (by decide)
    have l := fun K => ih (j + 1) K (by omega)
    rw [Int.natCast_add, Int.natCast_one] at l
    by_cases c : cnB (N 181) b ≤ j
    · have em : mc (N 181) b (j + 1) = mc (N 181) b j := by unfold mc; omega
      rw [em] at l
      have e1 := (hq j (by omega)).mpr c
      have l2 := l K h1 h2
      refine zr_iload (pc := 202) S dX12_served_202 rfl ?_
      refine zr_iconst (pc := 204) S dX12_served_204 (by unfold zrI; omega) ?_
      refine zr_icmp_gt (pc := 205) (tgt := 275) S dX12_served_205 (by decide) (fun c205 => absurd c205 (by omega)) (fun c205 => ?_)
      refine zr_aload_n (pc := 208) S dX12_served_208 rfl ?_
      refine zr_getR (pc := 209) S fX12_served_9 dX12_served_209 rfl (Nat.le_of_ble_eq_true rfl) rfl ?_
      refine zr_iload (pc := 212) S dX12_served_212 rfl ?_
      refine zr_iload (pc := 214) S dX12_served_214 rfl ?_
      refine zr_iadd (pc := 216) S dX12_served_216 (by unfold zrI; omega) ?_
      refine zr_iaload (pc := 217) S dX12_served_217 rfl (Nat.le_of_ble_eq_true rfl) (by omega) (by omega) ?_
      rw [et, ix]
      refine zr_iconst (pc := 218) S dX12_served_218 (by unfold zrI; omega) ?_
      refine zr_icmp_eq (pc := 219) (tgt := 269) S dX12_served_219 (by decide) (fun c219 => ?_) (fun c219 => absurd c219 (by omega))
      refine zr_iinc (pc := 269) S dX12_served_269 rfl (by unfold zrI; omega) (by decide) ?_
      dsimp only [zst1, zst2, zset, zget, zlong]
      refine zr_goto (pc := 272) (tgt := 202) S dX12_served_272 (by decide) ?_
      exact l2
    · have em : mc (N 181) b (j + 1) = j + 1 := by unfold mc; omega
      have em0 : mc (N 181) b j = j := by unfold mc; omega
      rw [em] at l
      rw [em0] at h1
      have e1 : ¬ N 181 (578 + 6 * b + j) = -1 := fun z => c ((hq j (by omega)).mp z)
      have ecj := ec j (by omega)
      rw [← ecj] at e1
      have ci := (hb.2.2 b (by omega)).2.2.2.2.2.2 j (by omega)
      generalize hcn : V 31 (b * 4 + j) = cc at *
      have ar := addC_r (M := V) (b := b) hg j cc.toNat (by omega)
      have i2 : ((8 : Int) * (t : Int) + cc).toNat = 8 * t + cc.toNat := by omega
      have hv : zrow N 194 K 194 (8 * t + cc.toNat) = addC V b g j cc.toNat := by rw [zrow_e, h1 _ (by omega)]
      have l2 := l (rUp K (8 * t + cc.toNat) (min 20 (addC V b g j cc.toNat + 1))) (fun s hs => by
        simp only [addC]
        rw [hcn]
        by_cases e : s = cc.toNat
        · rw [if_pos e, e, rUp_e]
        · rw [if_neg e, rUp_o (by omega), h1 s hs]) (fun j hj => by rw [rUp_o (by omega)]; exact h2 j hj)
      refine zr_iload (pc := 202) S dX12_served_202 rfl ?_
      refine zr_iconst (pc := 204) S dX12_served_204 (by unfold zrI; omega) ?_
      refine zr_icmp_gt (pc := 205) (tgt := 275) S dX12_served_205 (by decide) (fun c205 => absurd c205 (by omega)) (fun c205 => ?_)
      refine zr_aload_n (pc := 208) S dX12_served_208 rfl ?_
      refine zr_getR (pc := 209) S fX12_served_9 dX12_served_209 rfl (Nat.le_of_ble_eq_true rfl) rfl ?_
      refine zr_iload (pc := 212) S dX12_served_212 rfl ?_
      refine zr_iload (pc := 214) S dX12_served_214 rfl ?_
      refine zr_iadd (pc := 216) S dX12_served_216 (by unfold zrI; omega) ?_
      refine zr_iaload (pc := 217) S dX12_served_217 rfl (Nat.le_of_ble_eq_true rfl) (by omega) (by omega) ?_
      rw [et, ix, ← ecj]
      refine zr_iconst (pc := 218) S dX12_served_218 (by unfold zrI; omega) ?_
      refine zr_icmp_eq (pc := 219) (tgt := 269) S dX12_served_219 (by decide) (fun c219 => absurd c219 (by omega)) (fun c219 => ?_)
      refine zr_aload_n (pc := 222) S dX12_served_222 rfl ?_
      refine zr_getR (pc := 223) S fX12_served_59 dX12_served_223 rfl (Nat.le_of_ble_eq_true rfl) rfl ?_
      refine zr_bipush (pc := 226) S dX12_served_226 ⟨by unfold zrI; omega, by decide⟩ ?_
      refine zr_iload_n (pc := 228) S dX12_served_228 rfl ?_
      refine zr_imul (pc := 229) S dX12_served_229 (by unfold zrI; omega) ?_
      refine zr_aload_n (pc := 230) S dX12_served_230 rfl ?_
      refine zr_getR (pc := 231) S fX12_served_9 dX12_served_231 rfl (Nat.le_of_ble_eq_true rfl) rfl ?_
      refine zr_iload (pc := 234) S dX12_served_234 rfl ?_
      refine zr_iload (pc := 236) S dX12_served_236 rfl ?_
      refine zr_iadd (pc := 238) S dX12_served_238 (by unfold zrI; omega) ?_
      refine zr_iaload (pc := 239) S dX12_served_239 rfl (Nat.le_of_ble_eq_true rfl) (by omega) (by omega) ?_
      rw [et, ix, ← ecj]
      refine zr_iadd (pc := 240) S dX12_served_240 (by unfold zrI; omega) ?_
      refine zr_bipush (pc := 241) S dX12_served_241 ⟨by unfold zrI; omega, by decide⟩ ?_
      refine zr_aload_n (pc := 243) S dX12_served_243 rfl ?_
      refine zr_getR (pc := 244) S fX12_served_59 dX12_served_244 rfl (Nat.le_of_ble_eq_true rfl) rfl ?_
      refine zr_bipush (pc := 247) S dX12_served_247 ⟨by unfold zrI; omega, by decide⟩ ?_
      refine zr_iload_n (pc := 249) S dX12_served_249 rfl ?_
      refine zr_imul (pc := 250) S dX12_served_250 (by unfold zrI; omega) ?_
      refine zr_aload_n (pc := 251) S dX12_served_251 rfl ?_
      refine zr_getR (pc := 252) S fX12_served_9 dX12_served_252 rfl (Nat.le_of_ble_eq_true rfl) rfl ?_
      refine zr_iload (pc := 255) S dX12_served_255 rfl ?_
      refine zr_iload (pc := 257) S dX12_served_257 rfl ?_
      refine zr_iadd (pc := 259) S dX12_served_259 (by unfold zrI; omega) ?_
      refine zr_iaload (pc := 260) S dX12_served_260 rfl (Nat.le_of_ble_eq_true rfl) (by omega) (by omega) ?_
      rw [et, ix, ← ecj]
      refine zr_iadd (pc := 261) S dX12_served_261 (by unfold zrI; omega) ?_
      refine zr_iaload (pc := 262) S dX12_served_262 rfl (Nat.le_of_ble_eq_true rfl) (by omega) (by omega) ?_
      rw [i2, hv]
      refine zr_iconst (pc := 263) S dX12_served_263 (by unfold zrI; omega) ?_
      refine zr_iadd (pc := 264) S dX12_served_264 (by unfold zrI; omega) ?_
      refine zr_mmin (pc := 265) S kX12_served_228 dX12_served_265 (Nat.le_of_ble_eq_true rfl) (Nat.le_of_ble_eq_true rfl) ⟨Nat.le_of_ble_eq_true rfl, Nat.le_of_ble_eq_true rfl⟩ ?_
      refine zr_iastore (pc := 268) S dX12_served_268 rfl (Nat.le_of_ble_eq_true rfl) (by omega) (by omega) ?_
      rw [i2, zrow_up]
      refine zr_iinc (pc := 269) S dX12_served_269 rfl (by unfold zrI; omega) (by decide) ?_
      dsimp only [zst1, zst2, zset, zget, zlong]
      refine zr_goto (pc := 272) (tgt := 202) S dX12_served_272 (by decide) ?_
      exact l2
end
