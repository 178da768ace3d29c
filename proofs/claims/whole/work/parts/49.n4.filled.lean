section
def ffU (f : Nat → Nat) (v : Nat) : Nat → Int
  | 0 => -1
  | n + 1 => if ffU f v n = -1 then (if f n = v then n else -1) else ffU f v n
theorem ffU_r (f : Nat → Nat) (v : Nat) : ∀ n, -1 ≤ ffU f v n ∧ ffU f v n < n
  | 0 => by simp [ffU]
  | n + 1 => by
    have := ffU_r f v n
    simp only [ffU]
    split
    · split <;> omega
    · omega
theorem ffU_i {f : Nat → Nat} {v i : Nat} (h : ffU f v i ≠ -1) : ∀ n, i ≤ n → ffU f v n = ffU f v i
  | 0, hn => by have : i = 0 := by omega
                rw [this]
  | n + 1, hn => by
    by_cases e : i = n + 1
    · rw [e]
    · have a := ffU_i h n (by omega)
      simp only [ffU]
      rw [if_neg (by rw [a]; exact h), a]
theorem ffU_n {f : Nat → Nat} {v : Nat} : ∀ n, ffU f v n = -1 → ∀ i, i < n → f i ≠ v
  | 0, _, i, hi => by omega
  | n + 1, h, i, hi => by
    simp only [ffU] at h
    by_cases c : ffU f v n = -1
    · rw [if_pos c] at h
      by_cases e : i = n
      · subst e
        intro z
        rw [if_pos z] at h
        omega
      · exact ffU_n n c i (by omega)
    · rw [if_neg c] at h
      exact absurd h c
theorem mnU_at {f : Nat → Nat} : ∀ n, mnU f n = 63 ∨ ∃ i, i < n ∧ f i = mnU f n
  | 0 => Or.inl rfl
  | n + 1 => by
    simp only [mnU]
    by_cases c : mnU f n ≤ f n
    · rw [show min (mnU f n) (f n) = mnU f n by omega]
      rcases mnU_at (f := f) n with h | ⟨i, h1, h2⟩
      · exact Or.inl h
      · exact Or.inr ⟨i, by omega, h2⟩
    · exact Or.inr ⟨n, by omega, by omega⟩
/-- the first machine to be filled on the first of d + 1 days -/
def ff (M : zM) (d c : Nat) : Int := ffU (dryW M d c) (lst M (d + 1) c) (nM M)
theorem ff_r {M : zM} (hm : ICm M) (h1 : 1 ≤ nM M) {d c : Nat} (hd : d < 8) : 0 ≤ ff M d c ∧ ff M d c < nM M := by
  have a := ffU_r (dryW M d c) (lst M (d + 1) c) (nM M)
  have b := lst_r hm h1 (d + 1) c
  unfold ff
  refine ⟨?_, a.2⟩
  apply Classical.byContradiction
  intro z
  have e : ffU (dryW M d c) (lst M (d + 1) c) (nM M) = -1 := by omega
  rcases mnU_at (f := dryW M d c) (nM M) with h | ⟨i, h2, h3⟩
  · have : lst M (d + 1) c = 63 := h
    omega
  · exact ffU_n _ e i h2 h3
theorem lp_X1_firstFilled {E : zE} {X : zX} {Qp : Option zV → zM → Prop} {N M : zM} {d c : Nat} (S : zS (zg E) X cX1_firstFilled 5 wzX1_firstFilled RX1 (some .int)) (h2 : d < 8) (h3 : c < 1296) (hm : ICm N) (hn : 1 ≤ nM N) (ag : AG N M) (hQ : ∀ (r : Option zV) (M' : zM), (r = some (zI (ff N d c)) ∧ lsQ N M M' (d + 1)) → Qp r M') : ∀ (n k : Nat) (T : zM), n + k = nM N → lsQ N M T (d + 1) → ffU (dryW N d c) (lst N (d + 1) c) k = -1 → zK (zg E) rmX1_firstFilled 5 (Qp, 0, 0) X (0, 0) 10 [some (zR 65), some (zI ((d : Int) + 1)), some (zI c), some (zI (lst N (d + 1) c : Nat)), some (zI k)] [] T := by
  have h4 := hm.1
  have hmm : N 1 10 = (nM N : Nat) := by unfold nM; omega
  have h44 : nM N ≤ 4 := by omega
  intro n
  induction n with
  | zero =>
    intro k T hk hT h0
    have fr := ff_r hm hn (c := c) h2
    have e2 : T 1 = N 1 := hT.ag ag _ (by decide)
    have : ff N d c = -1 := by unfold ff; rw [show nM N = k by omega]; exact h0
    omega
  | succ n ih =>
    intro k T hk hT h0
    have e2 : T 1 = N 1 := hT.ag ag _ (by decide)
    have es : ffU (dryW N d c) (lst N (d + 1) c) (k + 1) = if dryW N d c k = lst N (d + 1) c then (k : Int) else -1 := by simp only [ffU]; rw [if_pos h0]
    refine zr_iload (pc := 10) S dX1_firstFilled_10 rfl ?_
    refine zr_aload_n (pc := 12) S dX1_firstFilled_12 rfl ?_
    refine zr_getR (pc := 13) S fX1_firstFilled_15 dX1_firstFilled_13 rfl (Nat.le_of_ble_eq_true rfl) rfl ?_
    refine zr_getI (pc := 16) S fX1_firstFilled_44 dX1_firstFilled_16 rfl (Nat.le_of_ble_eq_true rfl) rfl ?_
    rw [e2]
    refine zr_icmp_ge (pc := 19) (tgt := 43) S dX1_firstFilled_19 (by decide) (fun c19 => absurd c19 (by omega)) (fun c19 => ?_)
    refine zr_aload_n (pc := 22) S dX1_firstFilled_22 rfl ?_
    refine zr_iload_n (pc := 23) S dX1_firstFilled_23 rfl ?_
    refine zr_iload_n (pc := 24) S dX1_firstFilled_24 rfl ?_
    refine zr_iload (pc := 25) S dX1_firstFilled_25 rfl ?_
    refine zr_invV (pc := 27) S [zI _, zI _, zI _] (m_X1_dryWith _ 15) kX1_firstFilled_54 dX1_firstFilled_27 rfl (Nat.le_of_ble_eq_true rfl) rfl (Nat.le_of_ble_eq_true rfl) ⟨Nat.le_of_ble_eq_true rfl, Nat.le_of_ble_eq_true rfl⟩ (us_X1_dryWith (N := N) (by omega) h2 h3 hm hn (hT.ag ag) hT.2.1 ?_)
    dsimp only [zaft, Option.toList, List.cons_append, List.nil_append, Nat.add_zero]
    rintro r T2 ⟨rfl, hT2⟩
    dsimp only [zaft, Option.toList, List.cons_append, List.nil_append]
    have hT3 := hT.tr (hT2.up (Nat.le_succ d))
    refine zr_iload_n (pc := 30) S dX1_firstFilled_30 rfl ?_
    refine zr_icmp_ne (pc := 31) (tgt := 37) S dX1_firstFilled_31 (by decide) (fun c31 => ?_) (fun c31 => ?_)
    · rw [if_neg (by omega)] at es
      have q := ih (k + 1) T2 (by omega) hT3 es
      refine zr_iinc (pc := 37) S dX1_firstFilled_37 rfl (by unfold zrI; omega) (by decide) ?_
      dsimp only [zst1, zst2, zset, zget, zlong]
      refine zr_goto (pc := 40) (tgt := 10) S dX1_firstFilled_40 (by decide) ?_
      exact q
    · rw [if_pos (by omega)] at es
      have ef : ff N d c = k := by unfold ff; rw [ffU_i (i := k + 1) (by omega) _ (by omega), es]
      have q2 := hQ _ T2 ⟨rfl, hT3⟩
      rw [ef] at q2
      refine zr_iload (pc := 34) S dX1_firstFilled_34 rfl ?_
      exact zr_iret (pc := 36) S dX1_firstFilled_36 rfl ⟨Nat.le_refl _, Nat.le_refl _⟩ (q2)
def sp_X1_firstFilled (as : List zV) (M : zM) (Q : Option zV → zM → Prop) : Prop := ∃ (d c : Nat) (N : zM), as = [zR 65, zI ((d : Int) + 1), zI c] ∧ (d < 8) ∧ (c < 1296) ∧ (ICm N) ∧ (1 ≤ nM N) ∧ (AG N M) ∧ (KI N M) ∧ (∀ (r : Option zV) (M' : zM), (r = some (zI (ff N d c)) ∧ lsQ N M M' (d + 1)) → Q r M')
theorem us_X1_firstFilled {d c : Nat} {N : zM} {M : zM} {Q : Option zV → zM → Prop} (h2 : d < 8) (h3 : c < 1296) (hm : ICm N) (hn : 1 ≤ nM N) (ag : AG N M) (hk : KI N M) (h99 : (∀ (r : Option zV) (M' : zM), (r = some (zI (ff N d c)) ∧ lsQ N M M' (d + 1)) → Q r M')) : sp_X1_firstFilled [zR 65, zI ((d : Int) + 1), zI c] M Q := ⟨d, c, N, rfl, h2, h3, hm, hn, ag, hk, h99⟩
set_option maxRecDepth 20000 in
set_option maxHeartbeats 4000000 in
theorem m_X1_firstFilled (l : Launch) : zC l yX1_firstFilled wzX1_firstFilled rmX1_firstFilled sp_X1_firstFilled := by
  refine zMet.of RX1 (by decide +kernel) rfl rfl ?_
  intro E X as M Qp hX S hsp
  obtain ⟨d, c, N, rfl, h2, h3, hm, hn, ag, hk, hQ⟩ := hsp
  refine ⟨Nat.le_of_ble_eq_true rfl, ?_⟩
  dsimp only [zpad, zargs]
  have ed : (d : Int) + 1 = ((d + 1 : Nat) : Int) := by omega
  have q := fun T hT => lp_X1_firstFilled S h2 h3 hm hn ag hQ (nM N) 0 T (by omega) hT rfl
  rw [ed] at q ⊢
  refine zr_aload_n (pc := 0) S dX1_firstFilled_0 rfl ?_
  refine zr_iload_n (pc := 1) S dX1_firstFilled_1 rfl ?_
  refine zr_iload_n (pc := 2) S dX1_firstFilled_2 rfl ?_
  refine zr_invV (pc := 3) S [zI _, zI _] (m_X1_least _ 16) kX1_firstFilled_26 dX1_firstFilled_3 rfl (Nat.le_of_ble_eq_true rfl) rfl (Nat.le_of_ble_eq_true rfl) ⟨Nat.le_of_ble_eq_true rfl, Nat.le_of_ble_eq_true rfl⟩ (us_X1_least (N := N) (by omega) (by omega) h3 hm hn ag hk ?_)
  dsimp only [zaft, Option.toList, List.cons_append, List.nil_append, Nat.add_zero]
  rintro r T ⟨rfl, hT⟩
  dsimp only [zaft, Option.toList, List.cons_append, List.nil_append]
  refine zr_istore_n (pc := 6) S 3 dX1_firstFilled_6 rfl (by decide) ?_
  dsimp only [zst1, zst2, zset, zget, zlong]
  refine zr_iconst (pc := 7) S dX1_firstFilled_7 (by unfold zrI; omega) ?_
  refine zr_istore (pc := 8) S dX1_firstFilled_8 (by decide) ?_
  dsimp only [zst1, zst2, zset, zget, zlong]
  exact q T hT
/-- the number on a day -/
def cdD (M : zM) (h : Nat) : Nat → Nat
  | 0 => cdU M 4
  | i + 1 => nxU M (cdD M h i) (ff M (h - i - 1) (cdD M h i)).toNat (nM M)
theorem cdD_r {M : zM} (hm : ICm M) (h : Nat) : ∀ i, cdD M h i < 1296
  | 0 => cdU_r hm 4 (by omega)
  | i + 1 => nx_1296 hm _ _
def offK (M N : zM) : Prop := ∀ k, k ≠ 66 → N k = M k
theorem KI_0 (N : zM) (M : zM) : KI N (fillR M 66 1296 (-1)) := fun c hc e he => by
  left
  rw [fillR_e hc]
  have : ∀ e, e < 8 → fld (-1) (6 * e) = 63 := by decide
  exact this e he
theorem ag_lfF {M N : zM} (h : AG M N) (k : Nat) : lfF N k = lfF M k := by unfold lfF; rw [h 1 (by decide), h 34 (by decide)]
theorem ag_cdU {M N : zM} (h : AG M N) : ∀ i, cdU N i = cdU M i
  | 0 => rfl
  | i + 1 => by simp only [cdU]; rw [ag_cdU h i, ag_lfF h]
theorem ag_fk (M : zM) : AG M (fillR M 66 1296 (-1)) := fun k hk => fillR_o k (by omega)
def sp_X1_leastDry (as : List zV) (M : zM) (Q : Option zV → zM → Prop) : Prop := ∃ (h : Nat), as = [zR 65, zI h] ∧ (h ≤ 8) ∧ (ICm M) ∧ (1 ≤ nM M) ∧ (∀ (r : Option zV) (M' : zM), (r = some (zI (lst M h (cdU M 4) : Nat)) ∧ offK M M') → Q r M')
theorem us_X1_leastDry {h : Nat} {M : zM} {Q : Option zV → zM → Prop} (hh : h ≤ 8) (hm : ICm M) (hn : 1 ≤ nM M) (h99 : (∀ (r : Option zV) (M' : zM), (r = some (zI (lst M h (cdU M 4) : Nat)) ∧ offK M M') → Q r M')) : sp_X1_leastDry [zR 65, zI h] M Q := ⟨h, rfl, hh, hm, hn, h99⟩
set_option maxRecDepth 20000 in
set_option maxHeartbeats 4000000 in
theorem m_X1_leastDry (l : Launch) : zC l yX1_leastDry wzX1_leastDry rmX1_leastDry sp_X1_leastDry := by
  refine zMet.of RX1 (by decide +kernel) rfl rfl ?_
  intro E X as M Qp hX S hsp
  obtain ⟨h, rfl, hh, hm, hn, hQ⟩ := hsp
  refine ⟨Nat.le_of_ble_eq_true rfl, ?_⟩
  dsimp only [zpad, zargs]
  refine zr_aload_n (pc := 0) S dX1_leastDry_0 rfl ?_
  refine zr_invV (pc := 1) S [] (m_X1_forget _) kX1_leastDry_19 dX1_leastDry_1 rfl (Nat.le_of_ble_eq_true rfl) rfl (Nat.le_of_ble_eq_true rfl) ⟨Nat.le_of_ble_eq_true rfl, Nat.le_of_ble_eq_true rfl⟩ (us_X1_forget ?_)
  dsimp only [zaft, Option.toList, List.cons_append, List.nil_append, Nat.add_zero]
  refine zr_aload_n (pc := 4) S dX1_leastDry_4 rfl ?_
  refine zr_iload_n (pc := 5) S dX1_leastDry_5 rfl ?_
  refine zr_aload_n (pc := 6) S dX1_leastDry_6 rfl ?_
  refine zr_invV (pc := 7) S [] (m_X1_atFirst _) kX1_leastDry_22 dX1_leastDry_7 rfl (Nat.le_of_ble_eq_true rfl) rfl (Nat.le_of_ble_eq_true rfl) ⟨Nat.le_of_ble_eq_true rfl, Nat.le_of_ble_eq_true rfl⟩ (us_X1_atFirst ((ag_fk M).m hm) ?_)
  dsimp only [zaft, Option.toList, List.cons_append, List.nil_append, Nat.add_zero]
  rw [ag_cdU (ag_fk M)]
  refine zr_invV (pc := 10) S [zI _, zI _] (m_X1_least _ 16) kX1_leastDry_26 dX1_leastDry_10 rfl (Nat.le_of_ble_eq_true rfl) rfl (Nat.le_of_ble_eq_true rfl) ⟨Nat.le_of_ble_eq_true rfl, Nat.le_of_ble_eq_true rfl⟩ (us_X1_least (N := M) (by omega) hh (cdU_r hm 4 (by omega)) hm hn (ag_fk M) (KI_0 M M) ?_)
  dsimp only [zaft, Option.toList, List.cons_append, List.nil_append, Nat.add_zero]
  rintro r T ⟨rfl, hT⟩
  dsimp only [zaft, Option.toList, List.cons_append, List.nil_append]
  have q := hQ _ T ⟨rfl, fun k hk => by rw [hT.1 k hk, fillR_o k hk]⟩
  exact zr_iret (pc := 13) S dX1_leastDry_13 rfl ⟨Nat.le_refl _, Nat.le_refl _⟩ (q)
theorem lp_X1_filledOn {E : zE} {X : zX} {Qp : Option zV → zM → Prop} {M : zM} {h day : Nat} (S : zS (zg E) X cX1_filledOn 5 wzX1_filledOn RX1 (some .int)) (hh : h ≤ 8) (hd : day < h) (hm : ICm M) (hn : 1 ≤ nM M) (hQ : ∀ (r : Option zV) (M' : zM), (r = some (zI (ff M (h - day - 1) (cdD M h day))) ∧ offK M M') → Qp r M') : ∀ (n i : Nat) (T : zM), n + i = day → offK M T → KI M T → zK (zg E) rmX1_filledOn 5 (Qp, 0, 0) X (0, 0) 12 [some (zR 65), some (zI h), some (zI day), some (zI (cdD M h i : Nat)), some (zI i)] [] T := by
  have h4 := hm.1
  have h44 : nM M ≤ 4 := by unfold nM; omega
  intro n
  induction n with
  | zero =>
    intro i T hi hT hK
    have e : i = day := by omega
    subst e
    have ag : AG M T := fun k hk => hT k (by omega)
    have ed : (h : Int) - (i : Int) = ((h - i - 1 : Nat) : Int) + 1 := by omega
    have cr := cdD_r hm h i
    refine zr_iload (pc := 12) S dX1_filledOn_12 rfl ?_
    refine zr_iload_n (pc := 14) S dX1_filledOn_14 rfl ?_
    refine zr_icmp_ge (pc := 15) (tgt := 43) S dX1_filledOn_15 (by decide) (fun c15 => ?_) (fun c15 => absurd c15 (by omega))
    refine zr_aload_n (pc := 43) S dX1_filledOn_43 rfl ?_
    refine zr_iload_n (pc := 44) S dX1_filledOn_44 rfl ?_
    refine zr_iload_n (pc := 45) S dX1_filledOn_45 rfl ?_
    refine zr_isub (pc := 46) S dX1_filledOn_46 (by unfold zrI; omega) ?_
    rw [ed]
    refine zr_iload_n (pc := 47) S dX1_filledOn_47 rfl ?_
    refine zr_invV (pc := 48) S [zI _, zI _] (m_X1_firstFilled _) kX1_filledOn_30 dX1_filledOn_48 rfl (Nat.le_of_ble_eq_true rfl) rfl (Nat.le_of_ble_eq_true rfl) ⟨Nat.le_of_ble_eq_true rfl, Nat.le_of_ble_eq_true rfl⟩ (us_X1_firstFilled (N := M) (by omega) cr hm hn ag hK ?_)
    dsimp only [zaft, Option.toList, List.cons_append, List.nil_append, Nat.add_zero]
    rintro r T2 ⟨rfl, hT2⟩
    dsimp only [zaft, Option.toList, List.cons_append, List.nil_append]
    have q := hQ _ T2 ⟨rfl, fun k hk => by rw [hT2.1 k hk, hT k hk]⟩
    exact zr_iret (pc := 51) S dX1_filledOn_51 rfl ⟨Nat.le_refl _, Nat.le_refl _⟩ (q)
  | succ n ih =>
    intro i T hi hT hK
    have ag : AG M T := fun k hk => hT k (by omega)
    have ed : (h : Int) - (i : Int) = ((h - i - 1 : Nat) : Int) + 1 := by omega
    have cr := cdD_r hm h i
    have fr := ff_r hm hn (d := h - i - 1) (c := cdD M h i) (by omega)
    obtain ⟨m, hme⟩ : ∃ m : Nat, ff M (h - i - 1) (cdD M h i) = m := ⟨(ff M (h - i - 1) (cdD M h i)).toNat, by omega⟩
    have ex : cdD M h (i + 1) = nxU M (cdD M h i) m (nM M) := by simp only [cdD]; rw [hme, Int.toNat_natCast]
    have dr := dr_r M (cdD M h i) m (nM M)
    have nx := nx_1296 hm (cdD M h i) m
    have em : ((1296 * drU M (cdD M h i) m (nM M) + nxU M (cdD M h i) m (nM M) : Nat) : Int) % 1296 = (cdD M h (i + 1) : Nat) := by rw [ex]; omega
    refine zr_iload (pc := 12) S dX1_filledOn_12 rfl ?_
    refine zr_iload_n (pc := 14) S dX1_filledOn_14 rfl ?_
    refine zr_icmp_ge (pc := 15) (tgt := 43) S dX1_filledOn_15 (by decide) (fun c15 => absurd c15 (by omega)) (fun c15 => ?_)
    refine zr_aload_n (pc := 18) S dX1_filledOn_18 rfl ?_
    refine zr_iload_n (pc := 19) S dX1_filledOn_19 rfl ?_
    refine zr_aload_n (pc := 20) S dX1_filledOn_20 rfl ?_
    refine zr_iload_n (pc := 21) S dX1_filledOn_21 rfl ?_
    refine zr_iload (pc := 22) S dX1_filledOn_22 rfl ?_
    refine zr_isub (pc := 24) S dX1_filledOn_24 (by unfold zrI; omega) ?_
    rw [ed]
    refine zr_iload_n (pc := 25) S dX1_filledOn_25 rfl ?_
    refine zr_invV (pc := 26) S [zI _, zI _] (m_X1_firstFilled _) kX1_filledOn_30 dX1_filledOn_26 rfl (Nat.le_of_ble_eq_true rfl) rfl (Nat.le_of_ble_eq_true rfl) ⟨Nat.le_of_ble_eq_true rfl, Nat.le_of_ble_eq_true rfl⟩ (us_X1_firstFilled (N := M) (by omega) cr hm hn ag hK ?_)
    dsimp only [zaft, Option.toList, List.cons_append, List.nil_append, Nat.add_zero]
    rintro r T2 ⟨rfl, hT2⟩
    dsimp only [zaft, Option.toList, List.cons_append, List.nil_append]
    rw [hme]
    have hT3 : offK M T2 := fun k hk => by rw [hT2.1 k hk, hT k hk]
    have ag2 : AG M T2 := fun k hk => hT3 k (by omega)
    have es : 1296 * drU T2 (cdD M h i) m (nM T2) + nxU T2 (cdD M h i) m (nM T2) = 1296 * drU M (cdD M h i) m (nM M) + nxU M (cdD M h i) m (nM M) := by rw [ag_nM ag2, ag_drU ag2, ag_nxU ag2]
    have q := ih (i + 1) T2 (by omega) hT3 hT2.2.1
    refine zr_invV (pc := 29) S [zI _, zI _] (m_X1_step _) kX1_filledOn_33 dX1_filledOn_29 rfl (Nat.le_of_ble_eq_true rfl) rfl (Nat.le_of_ble_eq_true rfl) ⟨Nat.le_of_ble_eq_true rfl, Nat.le_of_ble_eq_true rfl⟩ (us_X1_step (ag2.m hm) cr ?_)
    dsimp only [zaft, Option.toList, List.cons_append, List.nil_append, Nat.add_zero]
    rw [es]
    refine zr_sipush (pc := 32) S dX1_filledOn_32 ⟨by unfold zrI; omega, by decide⟩ ?_
    refine zr_irem (pc := 35) S dX1_filledOn_35 (by omega) (by omega) ?_
    rw [em]
    refine zr_istore_n (pc := 36) S 3 dX1_filledOn_36 rfl (by decide) ?_
    dsimp only [zst1, zst2, zset, zget, zlong]
    refine zr_iinc (pc := 37) S dX1_filledOn_37 rfl (by unfold zrI; omega) (by decide) ?_
    dsimp only [zst1, zst2, zset, zget, zlong]
    refine zr_goto (pc := 40) (tgt := 12) S dX1_filledOn_40 (by decide) ?_
    exact q
def sp_X1_filledOn (as : List zV) (M : zM) (Q : Option zV → zM → Prop) : Prop := ∃ (h day : Nat), as = [zR 65, zI h, zI day] ∧ (h ≤ 8) ∧ (day < h) ∧ (ICm M) ∧ (1 ≤ nM M) ∧ (∀ (r : Option zV) (M' : zM), (r = some (zI (ff M (h - day - 1) (cdD M h day))) ∧ offK M M') → Q r M')
theorem us_X1_filledOn {h day : Nat} {M : zM} {Q : Option zV → zM → Prop} (hh : h ≤ 8) (hd : day < h) (hm : ICm M) (hn : 1 ≤ nM M) (h99 : (∀ (r : Option zV) (M' : zM), (r = some (zI (ff M (h - day - 1) (cdD M h day))) ∧ offK M M') → Q r M')) : sp_X1_filledOn [zR 65, zI h, zI day] M Q := ⟨h, day, rfl, hh, hd, hm, hn, h99⟩
set_option maxRecDepth 20000 in
set_option maxHeartbeats 4000000 in
theorem m_X1_filledOn (l : Launch) : zC l yX1_filledOn wzX1_filledOn rmX1_filledOn sp_X1_filledOn := by
  refine zMet.of RX1 (by decide +kernel) rfl rfl ?_
  intro E X as M Qp hX S hsp
  obtain ⟨h, day, rfl, hh, hd, hm, hn, hQ⟩ := hsp
  refine ⟨Nat.le_of_ble_eq_true rfl, ?_⟩
  dsimp only [zpad, zargs]
  have q := lp_X1_filledOn S hh hd hm hn hQ day 0 (fillR M 66 1296 (-1)) (by omega) (fun k hk => fillR_o k hk) (KI_0 M M)
  refine zr_aload_n (pc := 0) S dX1_filledOn_0 rfl ?_
  refine zr_invV (pc := 1) S [] (m_X1_forget _) kX1_filledOn_19 dX1_filledOn_1 rfl (Nat.le_of_ble_eq_true rfl) rfl (Nat.le_of_ble_eq_true rfl) ⟨Nat.le_of_ble_eq_true rfl, Nat.le_of_ble_eq_true rfl⟩ (us_X1_forget ?_)
  dsimp only [zaft, Option.toList, List.cons_append, List.nil_append, Nat.add_zero]
  refine zr_aload_n (pc := 4) S dX1_filledOn_4 rfl ?_
  refine zr_invV (pc := 5) S [] (m_X1_atFirst _) kX1_filledOn_22 dX1_filledOn_5 rfl (Nat.le_of_ble_eq_true rfl) rfl (Nat.le_of_ble_eq_true rfl) ⟨Nat.le_of_ble_eq_true rfl, Nat.le_of_ble_eq_true rfl⟩ (us_X1_atFirst ((ag_fk M).m hm) ?_)
  dsimp only [zaft, Option.toList, List.cons_append, List.nil_append, Nat.add_zero]
  rw [ag_cdU (ag_fk M)]
  refine zr_istore_n (pc := 8) S 3 dX1_filledOn_8 rfl (by decide) ?_
  dsimp only [zst1, zst2, zset, zget, zlong]
  refine zr_iconst (pc := 9) S dX1_filledOn_9 (by unfold zrI; omega) ?_
  refine zr_istore (pc := 10) S dX1_filledOn_10 (by decide) ?_
  dsimp only [zst1, zst2, zset, zget, zlong]
  exact q
def rmX10_cut : Room := { frames := 0, cells := 0, slots := 0, locals := 0 }
abbrev wzX10_cut : List Cond := .code yX10_cut cX10_cut 3 (some .long) :: zW
theorem fX10_cut_9 : zfl wzX10_cut RX10 vwCl 9 10 0 := ⟨_, _, _, rfl, (fun w h => List.mem_cons_of_mem _ (zWuX10 w h)), by decide, List.mem_cons_of_mem _ (zWi_8 _ (List.mem_of_getElem? (i := 5) rfl))⟩
def cutV (k v : Int) : Int := if k = 0 then v.bmod 256 else if k = 1 then v.bmod 65536 else if k = 2 then v.bmod 4294967296 else v
def sp_X10_cut (as : List zV) (M : zM) (Q : Option zV → zM → Prop) : Prop := ∃ (c m : Nat) (v : Int), as = [zR c, zL v] ∧ (zly c = .inr (10, [0, 0, m + 3])) ∧ (c < zNC) ∧ (0 ≤ M c 0) ∧ Q (some (zL (cutV (M c 0) v))) (M)
theorem us_X10_cut {c m : Nat} {v : Int} {M : zM} {Q : Option zV → zM → Prop} (hYc : zly c = .inr (10, [0, 0, m + 3])) (hc : c < zNC) (h0 : 0 ≤ M c 0) (h99 : Q (some (zL (cutV (M c 0) v))) (M)) : sp_X10_cut [zR c, zL v] M Q := ⟨c, m, v, rfl, hYc, hc, h0, h99⟩
set_option maxRecDepth 20000 in
set_option maxHeartbeats 4000000 in
theorem m_X10_cut (l : Launch) : zC l yX10_cut wzX10_cut rmX10_cut sp_X10_cut := by
  refine zMet.of RX10 (by decide +kernel) rfl rfl ?_
  intro E X as M Qp hX S hsp
  obtain ⟨c, m, v, rfl, hYc, hc, h0, hQ⟩ := hsp
  refine ⟨Nat.le_of_ble_eq_true rfl, ?_⟩
  dsimp only [zpad, zargs]
  have b1 : (v.bmod 4294967296).bmod 256 = v.bmod 256 := Int.bmod_bmod_of_dvd (by decide)
  have b2 : (v.bmod 4294967296).bmod 65536 = v.bmod 65536 := Int.bmod_bmod_of_dvd (by decide)
  refine zr_aload_n (pc := 0) S dX10_cut_0 rfl ?_
  refine zr_getI (pc := 1) S fX10_cut_9 dX10_cut_1 hYc hc rfl ?_
  by_cases e0 : M c 0 = 0
  · rw [show cutV (M c 0) v = v.bmod 256 by unfold cutV; rw [if_pos e0]] at hQ
    refine zr_tswIn (pc := 4) (tgt := 32) (off := 28) S dX10_cut_4 (by omega) (by omega) (by rw [e0]; rfl) (by decide) ?_
    refine zr_lload_n (pc := 32) S dX10_cut_32 rfl ?_
    refine zr_l2iw (pc := 33) S dX10_cut_33 ?_
    refine zr_i2b (pc := 34) S dX10_cut_34 ?_
    rw [b1]
    refine zr_i2l (pc := 35) S dX10_cut_35 ?_
    exact zr_lret (pc := 36) S dX10_cut_36 rfl ⟨Nat.le_refl _, Nat.le_refl _⟩ (hQ)
  · by_cases e1 : M c 0 = 1
    · rw [show cutV (M c 0) v = v.bmod 65536 by unfold cutV; rw [if_neg e0, if_pos e1]] at hQ
      refine zr_tswIn (pc := 4) (tgt := 37) (off := 33) S dX10_cut_4 (by omega) (by omega) (by rw [e1]; rfl) (by decide) ?_
      refine zr_lload_n (pc := 37) S dX10_cut_37 rfl ?_
      refine zr_l2iw (pc := 38) S dX10_cut_38 ?_
      refine zr_i2s (pc := 39) S dX10_cut_39 ?_
      rw [b2]
      refine zr_i2l (pc := 40) S dX10_cut_40 ?_
      exact zr_lret (pc := 41) S dX10_cut_41 rfl ⟨Nat.le_refl _, Nat.le_refl _⟩ (hQ)
    · by_cases e2 : M c 0 = 2
      · rw [show cutV (M c 0) v = v.bmod 4294967296 by unfold cutV; rw [if_neg e0, if_neg e1, if_pos e2]] at hQ
        refine zr_tswIn (pc := 4) (tgt := 42) (off := 38) S dX10_cut_4 (by omega) (by omega) (by rw [e2]; rfl) (by decide) ?_
        refine zr_lload_n (pc := 42) S dX10_cut_42 rfl ?_
        refine zr_l2iw (pc := 43) S dX10_cut_43 ?_
        refine zr_i2l (pc := 44) S dX10_cut_44 ?_
        exact zr_lret (pc := 45) S dX10_cut_45 rfl ⟨Nat.le_refl _, Nat.le_refl _⟩ (hQ)
      · rw [show cutV (M c 0) v = v by unfold cutV; rw [if_neg e0, if_neg e1, if_neg e2]] at hQ
        refine zr_tswOut (pc := 4) (tgt := 46) S dX10_cut_4 (by omega) (by decide) ?_
        refine zr_lload_n (pc := 46) S dX10_cut_46 rfl ?_
        exact zr_lret (pc := 47) S dX10_cut_47 rfl ⟨Nat.le_refl _, Nat.le_refl _⟩ (hQ)
end
