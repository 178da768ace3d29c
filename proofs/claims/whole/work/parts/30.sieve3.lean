section
def rmJ7_fill_d0a16 : Room := { frames := 0, cells := 0, slots := 0, locals := 0 }
abbrev wzJ7_fill_d0a16 : List Cond := .code yJ7_fill_d0a16 cJ7_fill_d0a16 5 none :: zW
def rmX6_stretch : Room := { frames := 1, cells := 0, slots := 0, locals := 22 }
abbrev wzX6_stretch : List Cond := .code yX6_stretch cX6_stretch 11 none :: zW
def rmX10_lay : Room := { frames := 1, cells := 0, slots := 0, locals := 24 }
abbrev wzX10_lay : List Cond := .code yX10_lay cX10_lay 3 none :: zW
theorem fX6_stretch_32 : zfl wzX6_stretch RX6 vwCl 32 6 1 := ⟨_, _, _, rfl, (fun w h => List.mem_cons_of_mem _ (zWuX6 w h)), by decide, List.mem_cons_of_mem _ (zWi_11 _ (List.mem_of_getElem? (i := 3) rfl))⟩
theorem fX6_stretch_36 : zfl wzX6_stretch RX6 vwCl 36 2 0 := ⟨_, _, _, rfl, (fun w h => List.mem_cons_of_mem _ (zWuX2 w h)), by decide, List.mem_cons_of_mem _ (zWi_11 _ (List.mem_of_getElem? (i := 4) rfl))⟩
theorem fX6_stretch_42 : zfl wzX6_stretch RX6 vwCl 42 2 1 := ⟨_, _, _, rfl, (fun w h => List.mem_cons_of_mem _ (zWuX2 w h)), by decide, List.mem_cons_of_mem _ (zWi_11 _ (List.mem_of_getElem? (i := 5) rfl))⟩
theorem fX6_stretch_22 : zfl wzX6_stretch RX6 vwCl 22 6 5 := ⟨_, _, _, rfl, (fun w h => List.mem_cons_of_mem _ (zWuX6 w h)), by decide, List.mem_cons_of_mem _ (zWi_11 _ (List.mem_of_getElem? (i := 0) rfl))⟩
theorem fX6_stretch_25 : zfl wzX6_stretch RX6 vwCl 25 6 6 := ⟨_, _, _, rfl, (fun w h => List.mem_cons_of_mem _ (zWuX6 w h)), by decide, List.mem_cons_of_mem _ (zWi_11 _ (List.mem_of_getElem? (i := 1) rfl))⟩
theorem fX6_stretch_19 : zfl wzX6_stretch RX6 vwCl 19 6 4 := ⟨_, _, _, rfl, (fun w h => List.mem_cons_of_mem _ (zWuX6 w h)), by decide, List.mem_cons_of_mem _ (zWi_10 _ (List.mem_of_getElem? (i := 49) rfl))⟩
theorem kX6_stretch_45 : ∀ (s9 : State) (a9 : Array Value), (∀ w ∈ wzX6_stretch, w.before a9 s9 = true) → CallW rmX6_stretch s9 a9 RX6 RX6 45 yX6_lowAt cX6_lowAt 3 (some .int) wzX6_lowAt rmX6_lowAt 0 0 1 := zcV (zWi_24 _ (List.mem_of_getElem? (i := 31) rfl)) (zWi_16 _ (List.mem_of_getElem? (i := 37) rfl)) (zWi_29 _ (List.mem_of_getElem? (i := 14) rfl)) (zWi_12 _ (List.mem_of_getElem? (i := 18) rfl)) (zWi_5 _ (List.mem_of_getElem? (i := 21) rfl)) (by decide +kernel) rfl rfl ⟨Nat.le_of_ble_eq_true rfl, Nat.le_of_ble_eq_true rfl⟩
theorem kX6_stretch_49 : ∀ (s9 : State) (a9 : Array Value), (∀ w ∈ wzX6_stretch, w.before a9 s9 = true) → CallW rmX6_stretch s9 a9 RX6 RX6 49 yX6_highAt cX6_highAt 3 (some .int) wzX6_highAt rmX6_highAt 0 0 1 := zcV (zWi_24 _ (List.mem_of_getElem? (i := 32) rfl)) (zWi_16 _ (List.mem_of_getElem? (i := 33) rfl)) (zWi_29 _ (List.mem_of_getElem? (i := 11) rfl)) (zWi_12 _ (List.mem_of_getElem? (i := 18) rfl)) (zWi_5 _ (List.mem_of_getElem? (i := 17) rfl)) (by decide +kernel) rfl rfl ⟨Nat.le_of_ble_eq_true rfl, Nat.le_of_ble_eq_true rfl⟩
theorem kX6_stretch_97 : zml_mmin wzX6_stretch RX6 97 := ⟨List.mem_cons_of_mem _ (zWi_24 _ (List.mem_of_getElem? (i := 40) rfl)), List.mem_cons_of_mem _ (zWi_30 _ (List.mem_of_getElem? (i := 3) rfl)), List.mem_cons_of_mem _ (zWi_12 _ (List.mem_of_getElem? (i := 0) rfl)), List.mem_cons_of_mem _ (zWi_0 _ (List.mem_of_getElem? (i := 28) rfl))⟩
theorem pX10_lay_9 : zfp wzX10_lay RX10 vwCl 9 10 0 := ⟨_, _, _, _, rfl, (fun w h => List.mem_cons_of_mem _ (zWuX10 w h)), by decide, List.mem_cons_of_mem _ (zWi_8 _ (List.mem_of_getElem? (i := 5) rfl)), tyX10_ok, nmX10, rfl, by decide +kernel⟩
theorem pX10_lay_19 : zfp wzX10_lay RX10 vwCl 19 10 1 := ⟨_, _, _, _, rfl, (fun w h => List.mem_cons_of_mem _ (zWuX10 w h)), by decide, List.mem_cons_of_mem _ (zWi_8 _ (List.mem_of_getElem? (i := 4) rfl)), tyX10_ok, nmX10, rfl, by decide +kernel⟩
theorem fX10_lay_15 : zfl wzX10_lay RX10 vwCl 15 10 2 := ⟨_, _, _, rfl, (fun w h => List.mem_cons_of_mem _ (zWuX10 w h)), by decide, List.mem_cons_of_mem _ (zWi_8 _ (List.mem_of_getElem? (i := 3) rfl))⟩
theorem kX10_lay_22 : ∀ (s9 : State) (a9 : Array Value), (∀ w ∈ wzX10_lay, w.before a9 s9 = true) → CallB rmX10_lay s9 a9 RX10 22 yJ7_fill_d0a16 cJ7_fill_d0a16 5 none wzJ7_fill_d0a16 rmJ7_fill_d0a16 0 0 2 ∧ (Cond.static yJ7_fill_d0a16).before a9 s9 = true := zcS (zWi_20 _ (List.mem_of_getElem? (i := 48) rfl)) (zWi_30 _ (List.mem_of_getElem? (i := 14) rfl)) (zWi_12 _ (List.mem_of_getElem? (i := 7) rfl)) (zWi_0 _ (List.mem_of_getElem? (i := 43) rfl)) (by decide +kernel) rfl rfl ⟨Nat.le_of_ble_eq_true rfl, Nat.le_of_ble_eq_true rfl⟩
def fillR (M : zM) (k n : Nat) (v : Int) : zM := fun k' j => if k' = k ∧ j < n then v else M k' j
theorem fillR_o {M : zM} {k n : Nat} {v : Int} (k' : Nat) (h : k' ≠ k) : fillR M k n v k' = M k' := by
  funext j
  simp [fillR, h]
theorem fillR_e {M : zM} {k n j : Nat} {v : Int} (h : j < n) : fillR M k n v k j = v := by simp [fillR, h]
theorem fillR_s (M : zM) (k i : Nat) (v : Int) : zup (fillR M k i v) k i v = fillR M k (i + 1) v := by
  funext k' j
  simp only [zup, fillR]
  by_cases h : k' = k
  · subst h
    by_cases h2 : j = i
    · subst h2; simp
    · by_cases h3 : j < i
      · have : j < i + 1 := by omega
        simp [h2, h3, this]
      · have : ¬ j < i + 1 := by omega
        simp [h2, h3, this]
  · simp [h]
theorem lp_J7_fill {E : zE} {X : zX} {Qp : Option zV → zM → Prop} {M : zM} {k n : Nat} {v : Int} (S : zS (zg E) X cJ7_fill_d0a16 5 wzJ7_fill_d0a16 RJ7 none) (hY : zly k = .inl (1, n)) (hk : k < zNC) (hn : n ≤ 100000) (hQ : Qp none (fillR M k n v)) : ∀ (m i : Nat), m + i = n → zK (zg E) rmJ7_fill_d0a16 5 (Qp, 0, 0) X (0, 0) 6 [some (zR k), some (zL v), none, some (zI i), some (zI n)] [] (fillR M k i v) := by
  intro m
  induction m with
  | zero =>
    intro i hi
    have e : i = n := by omega
    subst e
    refine zr_iload_n (pc := 6) S dJ7_fill_d0a16_6 rfl ?_
    refine zr_iload (pc := 7) S dJ7_fill_d0a16_7 rfl ?_
    refine zr_icmp_ge (pc := 9) (tgt := 22) S dJ7_fill_d0a16_9 (by decide) (fun c9 => ?_) (fun c9 => absurd c9 (by omega))
    exact zr_vret (pc := 22) S dJ7_fill_d0a16_22 rfl ⟨Nat.le_refl _, Nat.le_refl _⟩ (hQ)
  | succ m ih =>
    intro i hi
    have e : (i : Int).toNat = i := Int.toNat_natCast i
    have q := ih (i + 1) (by omega)
    rw [← fillR_s] at q
    refine zr_iload_n (pc := 6) S dJ7_fill_d0a16_6 rfl ?_
    refine zr_iload (pc := 7) S dJ7_fill_d0a16_7 rfl ?_
    refine zr_icmp_ge (pc := 9) (tgt := 22) S dJ7_fill_d0a16_9 (by decide) (fun c9 => absurd c9 (by omega)) (fun c9 => ?_)
    refine zr_aload_n (pc := 12) S dJ7_fill_d0a16_12 rfl ?_
    refine zr_iload_n (pc := 13) S dJ7_fill_d0a16_13 rfl ?_
    refine zr_lload_n (pc := 14) S dJ7_fill_d0a16_14 rfl ?_
    refine zr_lastore (pc := 15) S dJ7_fill_d0a16_15 hY hk (by omega) (by omega) ?_
    rw [e]
    refine zr_iinc (pc := 16) S dJ7_fill_d0a16_16 rfl (by unfold zrI; omega) (by decide) ?_
    dsimp only [zst1, zst2, zset, zget, zlong]
    exact zr_goto (pc := 19) (tgt := 6) S dJ7_fill_d0a16_19 (by decide) q
def sp_J7_fill_d0a16 (as : List zV) (M : zM) (Q : Option zV → zM → Prop) : Prop := ∃ (k n : Nat) (v : Int), as = [zR k, zL v] ∧ (zly k = .inl (1, n)) ∧ (k < zNC) ∧ (n ≤ 100000) ∧ Q (none) (fillR M k n v)
theorem us_J7_fill_d0a16 {k n : Nat} {v : Int} {M : zM} {Q : Option zV → zM → Prop} (hY : zly k = .inl (1, n)) (hk : k < zNC) (hn : n ≤ 100000) (h99 : Q (none) (fillR M k n v)) : sp_J7_fill_d0a16 [zR k, zL v] M Q := ⟨k, n, v, rfl, hY, hk, hn, h99⟩
set_option maxRecDepth 20000 in
set_option maxHeartbeats 4000000 in
theorem m_J7_fill_d0a16 (l : Launch) : zC l yJ7_fill_d0a16 wzJ7_fill_d0a16 rmJ7_fill_d0a16 sp_J7_fill_d0a16 := by
  refine zMet.of RJ7 (by decide +kernel) rfl rfl ?_
  intro E X as M Qp hX S hsp
  obtain ⟨k, n, v, rfl, hY, hk, hn, hQ⟩ := hsp
  refine ⟨Nat.le_of_ble_eq_true rfl, ?_⟩
  dsimp only [zpad, zargs]
  refine zr_iconst (pc := 0) S dJ7_fill_d0a16_0 (by unfold zrI; omega) ?_
  refine zr_istore_n (pc := 1) S 3 dJ7_fill_d0a16_1 rfl (by decide) ?_
  dsimp only [zst1, zst2, zset, zget, zlong]
  refine zr_aload_n (pc := 2) S dJ7_fill_d0a16_2 rfl ?_
  refine zr_alen (pc := 3) S dJ7_fill_d0a16_3 hY hk ⟨_, rfl⟩ (by unfold zrI; omega) ?_
  refine zr_istore (pc := 4) S dJ7_fill_d0a16_4 (by decide) ?_
  dsimp only [zst1, zst2, zset, zget, zlong]
  have q := lp_J7_fill S hY hk hn hQ n 0 (by omega)
  have e : fillR M k 0 v = M := by funext k' j; simp [fillR]
  rw [e] at q
  exact q
def sp_X10_lay (as : List zV) (M : zM) (Q : Option zV → zM → Prop) : Prop := ∃ (c m : Nat) (s n : Int), as = [zR c, zI s, zI n] ∧ (zly c = .inr (10, [0, 0, m + 3])) ∧ (zly m = .inl (1, 20)) ∧ (c < zNC) ∧ (m < zNC) ∧ Q (none) (fillR (zup (zup M c 0 s) c 1 n) m 20 0)
theorem us_X10_lay {c m : Nat} {s n : Int} {M : zM} {Q : Option zV → zM → Prop} (hYc : zly c = .inr (10, [0, 0, m + 3])) (hYm : zly m = .inl (1, 20)) (hc : c < zNC) (hm : m < zNC) (h99 : Q (none) (fillR (zup (zup M c 0 s) c 1 n) m 20 0)) : sp_X10_lay [zR c, zI s, zI n] M Q := ⟨c, m, s, n, rfl, hYc, hYm, hc, hm, h99⟩
set_option maxRecDepth 20000 in
set_option maxHeartbeats 4000000 in
theorem m_X10_lay (l : Launch) : zC l yX10_lay wzX10_lay rmX10_lay sp_X10_lay := by
  refine zMet.of RX10 (by decide +kernel) rfl rfl ?_
  intro E X as M Qp hX S hsp
  obtain ⟨c, m, s, n, rfl, hYc, hYm, hc, hm, hQ⟩ := hsp
  refine ⟨Nat.le_of_ble_eq_true rfl, ?_⟩
  dsimp only [zpad, zargs]
  refine zr_aload_n (pc := 0) S dX10_lay_0 rfl ?_
  refine zr_iload_n (pc := 1) S dX10_lay_1 rfl ?_
  refine zr_putI (pc := 2) S pX10_lay_9 dX10_lay_2 hYc hc rfl ?_
  refine zr_aload_n (pc := 5) S dX10_lay_5 rfl ?_
  refine zr_iload_n (pc := 6) S dX10_lay_6 rfl ?_
  refine zr_putI (pc := 7) S pX10_lay_19 dX10_lay_7 hYc hc rfl ?_
  refine zr_aload_n (pc := 10) S dX10_lay_10 rfl ?_
  refine zr_getR (pc := 11) S fX10_lay_15 dX10_lay_11 hYc hc rfl ?_
  refine zr_lconst0 (pc := 14) S dX10_lay_14 ?_
  refine zr_invS (pc := 15) S [zR _, zL _] (m_J7_fill_d0a16 _) kX10_lay_22 dX10_lay_15 (Nat.le_of_ble_eq_true rfl) ⟨Nat.le_of_ble_eq_true rfl, Nat.le_of_ble_eq_true rfl⟩ (us_J7_fill_d0a16 hYm hm (by decide) ?_)
  dsimp only [zaft, Option.toList, List.cons_append, List.nil_append, Nat.add_zero]
  exact zr_vret (pc := 18) S dX10_lay_18 rfl ⟨Nat.le_refl _, Nat.le_refl _⟩ (hQ)
/-- the outcomes of all sets are learned -/
def lrnU (M : zM) (i : Nat) : zM := fun k j => if k = 49 ∧ j < i then gl M j else M k j
theorem lrnU_o {M : zM} {i : Nat} (k : Nat) (h : k ≠ 49) : lrnU M i k = M k := by
  funext j
  simp [lrnU, h]
theorem lrnU_s (M : zM) (i : Nat) : zup (lrnU M i) 49 i (gl M i) = lrnU M (i + 1) := by
  funext k' j
  simp only [zup, lrnU]
  by_cases h : k' = 49
  · subst h
    by_cases h2 : j = i
    · subst h2; simp
    · by_cases h3 : j < i
      · have : j < i + 1 := by omega
        simp [h2, h3, this]
      · have : ¬ j < i + 1 := by omega
        simp [h2, h3, this]
  · simp [h]
theorem lrnU_ag {M : zM} {i : Nat} : AG M (lrnU M i) := fun k hk => lrnU_o k (by omega)
theorem lp_X6_learn {E : zE} {X : zX} {Qp : Option zV → zM → Prop} {M : zM} (S : zS (zg E) X cX6_learn 2 wzX6_learn RX6 none) (hg : ICg M) (hs : ICs M) (hQ : Qp none (lrnU M (2 ^ (M 11 0).toNat))) : ∀ (n i : Nat), n + i = 2 ^ (M 11 0).toNat → zK (zg E) rmX6_learn 2 (Qp, 0, 0) X (0, 0) 2 [some (zR 47), some (zI i)] [] (lrnU M i) := by
  have h8 := hg.1
  have hp : 2 ^ (M 11 0).toNat ≤ 256 := by
    have : 2 ^ (M 11 0).toNat ≤ 2 ^ 8 := Nat.pow_le_pow_right (by omega) (by omega)
    omega
  have hp2 : 1 * (2 : Int) ^ (M 11 0).toNat = ((2 ^ (M 11 0).toNat : Nat) : Int) := by simp
  intro n
  induction n with
  | zero =>
    intro i hi
    have e : i = 2 ^ (M 11 0).toNat := by omega
    rw [← e] at hQ
    have eg : lrnU M i 11 = M 11 := lrnU_o 11 (by decide)
    refine zr_iload_n (pc := 2) S dX6_learn_2 rfl ?_
    refine zr_iconst (pc := 3) S dX6_learn_3 (by unfold zrI; omega) ?_
    refine zr_aload_n (pc := 4) S dX6_learn_4 rfl ?_
    refine zr_getR (pc := 5) S fX6_learn_32 dX6_learn_5 rfl (Nat.le_of_ble_eq_true rfl) rfl ?_
    refine zr_getI (pc := 8) S fX6_learn_36 dX6_learn_8 rfl (Nat.le_of_ble_eq_true rfl) rfl ?_
    rw [eg]
    refine zr_ishl (pc := 11) S dX6_learn_11 (by decide) (by omega) (by omega) (by omega) ?_
    rw [hp2]
    refine zr_icmp_ge (pc := 12) (tgt := 32) S dX6_learn_12 (by decide) (fun c12 => ?_) (fun c12 => absurd c12 (by omega))
    exact zr_vret (pc := 32) S dX6_learn_32 rfl ⟨Nat.le_refl _, Nat.le_refl _⟩ (hQ)
  | succ n ih =>
    intro i hi
    have eg : lrnU M i 11 = M 11 := lrnU_o 11 (by decide)
    have e : (i : Int).toNat = i := Int.toNat_natCast i
    have hq : gl (lrnU M i) i = gl M i := ag_gw lrnU_ag _ _ _
    have q := ih (i + 1) (by omega)
    rw [← lrnU_s] at q
    refine zr_iload_n (pc := 2) S dX6_learn_2 rfl ?_
    refine zr_iconst (pc := 3) S dX6_learn_3 (by unfold zrI; omega) ?_
    refine zr_aload_n (pc := 4) S dX6_learn_4 rfl ?_
    refine zr_getR (pc := 5) S fX6_learn_32 dX6_learn_5 rfl (Nat.le_of_ble_eq_true rfl) rfl ?_
    refine zr_getI (pc := 8) S fX6_learn_36 dX6_learn_8 rfl (Nat.le_of_ble_eq_true rfl) rfl ?_
    rw [eg]
    refine zr_ishl (pc := 11) S dX6_learn_11 (by decide) (by omega) (by omega) (by omega) ?_
    rw [hp2]
    refine zr_icmp_ge (pc := 12) (tgt := 32) S dX6_learn_12 (by decide) (fun c12 => absurd c12 (by omega)) (fun c12 => ?_)
    refine zr_aload_n (pc := 15) S dX6_learn_15 rfl ?_
    refine zr_getR (pc := 16) S fX6_learn_15 dX6_learn_16 rfl (Nat.le_of_ble_eq_true rfl) rfl ?_
    refine zr_iload_n (pc := 19) S dX6_learn_19 rfl ?_
    refine zr_aload_n (pc := 20) S dX6_learn_20 rfl ?_
    refine zr_iload_n (pc := 21) S dX6_learn_21 rfl ?_
    refine zr_invV (pc := 22) S [zI _] (m_X6_goalOf _) kX6_learn_52 dX6_learn_22 rfl (Nat.le_of_ble_eq_true rfl) rfl (Nat.le_of_ble_eq_true rfl) ⟨Nat.le_of_ble_eq_true rfl, Nat.le_of_ble_eq_true rfl⟩ (us_X6_goalOf (lrnU_ag.g hg) (lrnU_ag.s hs) (by omega) ?_)
    dsimp only [zaft, Option.toList, List.cons_append, List.nil_append, Nat.add_zero]
    rw [hq]
    refine zr_iastore (pc := 25) S dX6_learn_25 rfl (Nat.le_of_ble_eq_true rfl) (by omega) (by omega) ?_
    rw [e]
    refine zr_iinc (pc := 26) S dX6_learn_26 rfl (by unfold zrI; omega) (by decide) ?_
    dsimp only [zst1, zst2, zset, zget, zlong]
    refine zr_goto (pc := 29) (tgt := 2) S dX6_learn_29 (by decide) ?_
    exact q
def sp_X6_learn (as : List zV) (M : zM) (Q : Option zV → zM → Prop) : Prop := as = [zR 47] ∧ (ICg M) ∧ (ICs M) ∧ Q (none) (lrnU M (2 ^ (M 11 0).toNat))
theorem us_X6_learn  {M : zM} {Q : Option zV → zM → Prop} (hg : ICg M) (hs : ICs M) (h99 : Q (none) (lrnU M (2 ^ (M 11 0).toNat))) : sp_X6_learn [zR 47] M Q := ⟨rfl, hg, hs, h99⟩
set_option maxRecDepth 20000 in
set_option maxHeartbeats 4000000 in
theorem m_X6_learn (l : Launch) : zC l yX6_learn wzX6_learn rmX6_learn sp_X6_learn := by
  refine zMet.of RX6 (by decide +kernel) rfl rfl ?_
  intro E X as M Qp hX S hsp
  obtain ⟨rfl, hg, hs, hQ⟩ := hsp
  refine ⟨Nat.le_of_ble_eq_true rfl, ?_⟩
  dsimp only [zpad, zargs]
  have q0 : lrnU M 0 = M := by funext k j; simp [lrnU]
  have q := lp_X6_learn S hg hs hQ (2 ^ (M 11 0).toNat) 0 (by omega)
  rw [q0] at q
  refine zr_iconst (pc := 0) S dX6_learn_0 (by unfold zrI; omega) ?_
  refine zr_istore_n (pc := 1) S 1 dX6_learn_1 rfl (by decide) ?_
  dsimp only [zst1, zst2, zset, zget, zlong]
  exact q
end
