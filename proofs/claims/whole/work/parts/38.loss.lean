section
def rmX6_lossMoved : Room := { frames := 4, cells := 0, slots := 0, locals := 101 }
abbrev wzX6_lossMoved : List Cond := .code yX6_lossMoved cX6_lossMoved 9 (some .long) :: zW
def rmX6_findBest : Room := { frames := 5, cells := 0, slots := 0, locals := 129 }
abbrev wzX6_findBest : List Cond := .code yX6_findBest cX6_findBest 7 none :: zW
theorem fX6_lossMoved_32 : zfl wzX6_lossMoved RX6 vwCl 32 6 1 := ⟨_, _, _, rfl, (fun w h => List.mem_cons_of_mem _ (zWuX6 w h)), by decide, List.mem_cons_of_mem _ (zWi_11 _ (List.mem_of_getElem? (i := 3) rfl))⟩
theorem fX6_lossMoved_67 : zfl wzX6_lossMoved RX6 vwCl 67 2 2 := ⟨_, _, _, rfl, (fun w h => List.mem_cons_of_mem _ (zWuX2 w h)), by decide, List.mem_cons_of_mem _ (zWi_11 _ (List.mem_of_getElem? (i := 8) rfl))⟩
theorem fX6_lossMoved_73 : zfl wzX6_lossMoved RX6 vwCl 73 2 3 := ⟨_, _, _, rfl, (fun w h => List.mem_cons_of_mem _ (zWuX2 w h)), by decide, List.mem_cons_of_mem _ (zWi_11 _ (List.mem_of_getElem? (i := 10) rfl))⟩
theorem fX6_lossMoved_28 : zfl wzX6_lossMoved RX6 vwCl 28 6 0 := ⟨_, _, _, rfl, (fun w h => List.mem_cons_of_mem _ (zWuX6 w h)), by decide, List.mem_cons_of_mem _ (zWi_11 _ (List.mem_of_getElem? (i := 2) rfl))⟩
theorem fX6_lossMoved_109 : zfl wzX6_lossMoved RX6 vwCl 109 7 0 := ⟨_, _, _, rfl, (fun w h => List.mem_cons_of_mem _ (zWuX7 w h)), by decide, List.mem_cons_of_mem _ (zWi_10 _ (List.mem_of_getElem? (i := 43) rfl))⟩
theorem fX6_lossMoved_121 : zfl wzX6_lossMoved RX6 vwCl 121 7 8 := ⟨_, _, _, rfl, (fun w h => List.mem_cons_of_mem _ (zWuX7 w h)), by decide, List.mem_cons_of_mem _ (zWi_10 _ (List.mem_of_getElem? (i := 44) rfl))⟩
theorem kX6_lossMoved_118 : ∀ (s9 : State) (a9 : Array Value), (∀ w ∈ wzX6_lossMoved, w.before a9 s9 = true) → CallB rmX6_lossMoved s9 a9 RX6 118 yX2_kept cX2_kept 1 (some .int) wzX2_kept rmX2_kept 0 0 1 ∧ (Cond.static yX2_kept).before a9 s9 = true := zcS (zWi_24 _ (List.mem_of_getElem? (i := 25) rfl)) (zWi_31 _ (List.mem_of_getElem? (i := 14) rfl)) (zWi_12 _ (List.mem_of_getElem? (i := 14) rfl)) (zWi_4 _ (List.mem_of_getElem? (i := 32) rfl)) (by decide +kernel) rfl rfl ⟨Nat.le_of_ble_eq_true rfl, Nat.le_of_ble_eq_true rfl⟩
theorem kX6_lossMoved_124 : ∀ (s9 : State) (a9 : Array Value), (∀ w ∈ wzX6_lossMoved, w.before a9 s9 = true) → CallW rmX6_lossMoved s9 a9 RX6 RX6 124 yX6_wrongOf cX6_wrongOf 7 (some .long) wzX6_wrongOf rmX6_wrongOf 0 0 1 := zcV (zWi_24 _ (List.mem_of_getElem? (i := 26) rfl)) (zWi_16 _ (List.mem_of_getElem? (i := 41) rfl)) (zWi_29 _ (List.mem_of_getElem? (i := 18) rfl)) (zWi_12 _ (List.mem_of_getElem? (i := 18) rfl)) (zWi_5 _ (List.mem_of_getElem? (i := 25) rfl)) (by decide +kernel) rfl rfl ⟨Nat.le_of_ble_eq_true rfl, Nat.le_of_ble_eq_true rfl⟩
theorem pX6_findBest_130 : zfp wzX6_findBest RX6 vwCl 130 6 7 := ⟨_, _, _, _, rfl, (fun w h => List.mem_cons_of_mem _ (zWuX6 w h)), by decide, List.mem_cons_of_mem _ (zWi_10 _ (List.mem_of_getElem? (i := 45) rfl)), tyX6_ok, nmX6, rfl, by decide +kernel⟩
theorem pX6_findBest_133 : zfp wzX6_findBest RX6 vwCl 133 6 8 := ⟨_, _, _, _, rfl, (fun w h => List.mem_cons_of_mem _ (zWuX6 w h)), by decide, List.mem_cons_of_mem _ (zWi_10 _ (List.mem_of_getElem? (i := 46) rfl)), tyX6_ok, nmX6, rfl, by decide +kernel⟩
theorem pX6_findBest_140 : zfpL wzX6_findBest RX6 vwCl 140 6 9 := ⟨_, _, _, _, rfl, (fun w h => List.mem_cons_of_mem _ (zWuX6 w h)), by decide, List.mem_cons_of_mem _ (zWi_10 _ (List.mem_of_getElem? (i := 47) rfl)), tyX6_ok, nmX6, rfl, by decide +kernel⟩
theorem fX6_findBest_130 : zfl wzX6_findBest RX6 vwCl 130 6 7 := ⟨_, _, _, rfl, (fun w h => List.mem_cons_of_mem _ (zWuX6 w h)), by decide, List.mem_cons_of_mem _ (zWi_10 _ (List.mem_of_getElem? (i := 45) rfl))⟩
theorem fX6_findBest_133 : zfl wzX6_findBest RX6 vwCl 133 6 8 := ⟨_, _, _, rfl, (fun w h => List.mem_cons_of_mem _ (zWuX6 w h)), by decide, List.mem_cons_of_mem _ (zWi_10 _ (List.mem_of_getElem? (i := 46) rfl))⟩
theorem fX6_findBest_140 : zfl wzX6_findBest RX6 vwCl 140 6 9 := ⟨_, _, _, rfl, (fun w h => List.mem_cons_of_mem _ (zWuX6 w h)), by decide, List.mem_cons_of_mem _ (zWi_10 _ (List.mem_of_getElem? (i := 47) rfl))⟩
theorem kX6_findBest_127 : ∀ (s9 : State) (a9 : Array Value), (∀ w ∈ wzX6_findBest, w.before a9 s9 = true) → CallW rmX6_findBest s9 a9 RX6 RX6 127 yX6_learn cX6_learn 2 none wzX6_learn rmX6_learn 0 0 0 := zcV (zWi_24 _ (List.mem_of_getElem? (i := 27) rfl)) (zWi_16 _ (List.mem_of_getElem? (i := 35) rfl)) (zWi_29 _ (List.mem_of_getElem? (i := 12) rfl)) (zWi_12 _ (List.mem_of_getElem? (i := 18) rfl)) (zWi_5 _ (List.mem_of_getElem? (i := 19) rfl)) (by decide +kernel) rfl rfl ⟨Nat.le_of_ble_eq_true rfl, Nat.le_of_ble_eq_true rfl⟩
theorem kX6_findBest_136 : ∀ (s9 : State) (a9 : Array Value), (∀ w ∈ wzX6_findBest, w.before a9 s9 = true) → CallW rmX6_findBest s9 a9 RX6 RX6 136 yX6_lossMoved cX6_lossMoved 9 (some .long) wzX6_lossMoved rmX6_lossMoved 0 0 3 := zcV (zWi_24 _ (List.mem_of_getElem? (i := 28) rfl)) (zWi_16 _ (List.mem_of_getElem? (i := 36) rfl)) (zWi_29 _ (List.mem_of_getElem? (i := 13) rfl)) (zWi_12 _ (List.mem_of_getElem? (i := 18) rfl)) (zWi_5 _ (List.mem_of_getElem? (i := 20) rfl)) (by decide +kernel) rfl rfl ⟨Nat.le_of_ble_eq_true rfl, Nat.le_of_ble_eq_true rfl⟩
theorem kX6_findBest_144 : zml_mabs wzX6_findBest RX6 144 := ⟨List.mem_cons_of_mem _ (zWi_24 _ (List.mem_of_getElem? (i := 29) rfl)), List.mem_cons_of_mem _ (zWi_30 _ (List.mem_of_getElem? (i := 1) rfl)), List.mem_cons_of_mem _ (zWi_12 _ (List.mem_of_getElem? (i := 0) rfl)), List.mem_cons_of_mem _ (zWi_0 _ (List.mem_of_getElem? (i := 26) rfl))⟩
/-- a gate moved -/
def moved (M : zM) (g : Nat) (d e : Int) : zM := zup (zup M 13 g (kept (M 13 g + d))) 14 g (kept (M 14 g + e))
theorem moved_o {M : zM} {g : Nat} {d e : Int} (k : Nat) (h : k ≠ 13 ∧ k ≠ 14) : moved M g d e k = M k := by
  unfold moved
  rw [zup_o k h.2, zup_o k h.1]
theorem kept_r (n : Int) : 0 ≤ kept n ∧ kept n ≤ 99 := by
  unfold kept
  omega
theorem moved_g {M : zM} (h : ICg M) (g : Nat) (d e : Int) : ICg (moved M g d e) := by
  obtain ⟨a, b⟩ := h
  refine ⟨by rw [moved_o _ (by decide)]; exact a, fun i hi => ?_⟩
  have c := b i hi
  rw [moved_o (k := 12) (by decide), moved_o (k := 15) (by decide), moved_o (k := 16) (by decide)]
  have k1 := kept_r (M 13 g + d)
  have k2 := kept_r (M 14 g + e)
  unfold moved
  rw [zup_k (k' := 13) (by decide)]
  by_cases e1 : i = g
  · subst e1
    rw [zup_e, zup_e]
    omega
  · rw [zup_j e1, zup_j e1, zup_k (by decide)]
    omega
theorem moved_s {M : zM} (h : ICs M) (g : Nat) (d e : Int) : ICs (moved M g d e) := by
  unfold ICs at *
  rw [moved_o 2 (by decide), moved_o 3 (by decide), moved_o 4 (by decide), moved_o 9 (by decide), moved_o 10 (by decide), moved_o 7 (by decide), moved_o 8 (by decide)]
  exact h
theorem moved_good {M : zM} {g : Nat} {d e : Int} (k : Int) : isGood (moved M g d e) k ↔ isGood M k := by
  unfold isGood
  rw [moved_o 2 (by decide), moved_o 4 (by decide), moved_o 5 (by decide), moved_o 6 (by decide), moved_o 3 (by decide)]
theorem moved_gw {M : zM} {g : Nat} {d e : Int} (p : Nat → Bool) : ∀ f i, gw (moved M g d e) p f i = gw M p f i
  | 0, _ => rfl
  | f + 1, i => by
    have a := moved_gw (M := M) (g := g) (d := d) (e := e) p f (i + 1)
    have b := moved_gw (M := M) (g := g) (d := d) (e := e) p f (i + 2)
    simp only [gw]
    rw [moved_o 11 (by decide), moved_o 15 (by decide), moved_o 16 (by decide), a, b]
    simp only [moved_good]
theorem ag_cnt3 {M N : zM} (h : AG M N) (s : Int) (o : Nat) : cnt3 N s o = cnt3 M s o := by
  have e : ∀ n, dlt N o n = dlt M o n := fun n => by
    unfold dlt gl
    rw [ag_gw h]
  unfold cnt3
  rw [ag_lowOf h, ag_lowOf h, ag_lowOf h, ag_highOf h, ag_highOf h, ag_highOf h]
  simp only [e, ag_bm h]
theorem ag_wsum {M N : zM} (h : AG M N) (s : Int) : ∀ k, wsum N s k = wsum M s k
  | 0 => by
    simp only [wsum]
    by_cases g : isGood M s
    · rw [if_pos g, if_pos ((h.good s).mpr g), ag_cnt3 h, h 3 (by decide)]
    · rw [if_neg g, if_neg (fun z => g ((h.good s).mp z))]
  | k + 1 => by
    simp only [wsum]
    rw [ag_wsum h s k, ag_cnt3 h, ag_worth h, ag_worth h]
theorem ag_wrong {M N : zM} (h : AG M N) (s : Int) : wrong N s = wrong M s := by
  unfold wrong
  rw [ag_wsum h, ag_size3 h, h 2 (by decide)]
def lossU (M : zM) : Nat → Int
  | 0 => 0
  | k + 1 => if 0 < M 10 k then lossU M k + M 10 k * wrong M k else lossU M k
def lossM (M : zM) (g : Nat) (d e : Int) : Int := lossU (moved M g d e) (M 2 0).toNat
theorem lossU_r {M : zM} (hs : ICs M) : ∀ k : Nat, k ≤ 8 → 0 ≤ lossU M k ∧ lossU M k ≤ 2599000000000 * k
  | 0, _ => by simp [lossU]
  | k + 1, hk => by
    have a := lossU_r hs k (by omega)
    have b := hs.2.2.1 k (by omega)
    have c := wrong_r hs (s := k) (by omega) (by omega)
    have p := zmulr (a := M 10 k) (b := wrong M k) (A := 1000) (B := 2599000000) (by omega) (by omega) c.1 c.2
    simp only [lossU]
    split
    · omega
    · omega
def lrnd (M : zM) : Prop := ∀ n, n < 2 ^ (M 11 0).toNat → M 49 n = gl M n
theorem lp_X6_lossMoved {E : zE} {X : zX} {Qp : Option zV → zM → Prop} {M : zM} {g : Nat} {d e : Int} (S : zS (zg E) X cX6_lossMoved 9 wzX6_lossMoved RX6 (some .long)) (hg : ICg M) (hs : ICs M) (hl : lrnd M) (h8 : g < 8) (hQ : ∀ T : zM, offS M T → Qp (some (zL (lossM M g d e))) T) : ∀ (n k : Nat) (T : zM), (n : Int) + k = M 2 0 → offS (moved M g d e) T → zK (zg E) rmX6_lossMoved 9 (Qp, 0, 0) X (0, 0) 60 [some (zR 47), some (zI g), some (zI d), some (zI e), some (zI (M 13 g)), some (zI (M 14 g)), some (zL (lossU (moved M g d e) k)), none, some (zI k)] [] T := by
  have hm := hs.1
  have es : moved M g d e 2 = M 2 := moved_o _ (by decide)
  have ef : moved M g d e 10 = M 10 := moved_o _ (by decide)
  intro n
  induction n with
  | zero =>
    intro k T hk hT
    have ag := hT.ag
    have e2 := ag 2 (by decide)
    have ek : k = (M 2 0).toNat := by omega
    have eg : (g : Int).toNat = g := Int.toNat_natCast g
    have q := hQ (zup (zup T 13 g (M 13 g)) 14 g (M 14 g)) (fun i h1 h2 h3 h4 => by
      by_cases i1 : i = 14
      · subst i1
        rw [zup_s]
        have t1 : zup T 13 g (M 13 g) 14 = moved M g d e 14 := by rw [zup_o _ (by decide)]; exact ag _ (by decide)
        rw [t1]
        funext j
        unfold moved
        by_cases j1 : j = g
        · subst j1; simp
        · rw [if_neg j1, zup_j j1, zup_k (by decide)]
      · rw [zup_o i i1]
        by_cases i2 : i = 13
        · subst i2
          rw [zup_s]
          have t1 : T 13 = moved M g d e 13 := ag _ (by decide)
          rw [t1]
          funext j
          unfold moved
          by_cases j1 : j = g
          · subst j1; simp
          · rw [if_neg j1, zup_k (by decide), zup_j j1]
        · rw [zup_o i i2, hT i h1 h2 h3 h4, moved_o i ⟨i2, i1⟩])
    have ev : lossU (moved M g d e) k = lossM M g d e := by unfold lossM; rw [← ek]
    refine zr_iload (pc := 60) S dX6_lossMoved_60 rfl ?_
    refine zr_aload_n (pc := 62) S dX6_lossMoved_62 rfl ?_
    refine zr_getR (pc := 63) S fX6_lossMoved_28 dX6_lossMoved_63 rfl (Nat.le_of_ble_eq_true rfl) rfl ?_
    refine zr_getI (pc := 66) S fX6_lossMoved_109 dX6_lossMoved_66 rfl (Nat.le_of_ble_eq_true rfl) rfl ?_
    rw [e2, es]
    refine zr_icmp_ge (pc := 69) (tgt := 114) S dX6_lossMoved_69 (by decide) (fun c69 => ?_) (fun c69 => absurd c69 (by omega))
    refine zr_aload_n (pc := 114) S dX6_lossMoved_114 rfl ?_
    refine zr_getR (pc := 115) S fX6_lossMoved_32 dX6_lossMoved_115 rfl (Nat.le_of_ble_eq_true rfl) rfl ?_
    refine zr_getR (pc := 118) S fX6_lossMoved_67 dX6_lossMoved_118 rfl (Nat.le_of_ble_eq_true rfl) rfl ?_
    refine zr_iload_n (pc := 121) S dX6_lossMoved_121 rfl ?_
    refine zr_iload (pc := 122) S dX6_lossMoved_122 rfl ?_
    refine zr_iastore (pc := 124) S dX6_lossMoved_124 rfl (Nat.le_of_ble_eq_true rfl) (by omega) (by omega) ?_
    rw [eg]
    refine zr_aload_n (pc := 125) S dX6_lossMoved_125 rfl ?_
    refine zr_getR (pc := 126) S fX6_lossMoved_32 dX6_lossMoved_126 rfl (Nat.le_of_ble_eq_true rfl) rfl ?_
    try simp only [zup_k, zup_e, ne_eq, Nat.reduceEqDiff, not_false_eq_true, zup_j]
    refine zr_getR (pc := 129) S fX6_lossMoved_73 dX6_lossMoved_129 rfl (Nat.le_of_ble_eq_true rfl) rfl ?_
    try simp only [zup_k, zup_e, ne_eq, Nat.reduceEqDiff, not_false_eq_true, zup_j]
    refine zr_iload_n (pc := 132) S dX6_lossMoved_132 rfl ?_
    refine zr_iload (pc := 133) S dX6_lossMoved_133 rfl ?_
    refine zr_iastore (pc := 135) S dX6_lossMoved_135 rfl (Nat.le_of_ble_eq_true rfl) (by omega) (by omega) ?_
    rw [eg]
    refine zr_lload (pc := 136) S dX6_lossMoved_136 rfl ?_
    exact zr_lret (pc := 138) S dX6_lossMoved_138 rfl ⟨Nat.le_refl _, Nat.le_refl _⟩ (zql q ev)
  | succ n ih =>
    intro k T hk hT
    have ag := hT.ag
    have e2 := ag 2 (by decide)
    have e3 := ag 10 (by decide)
    have ek : (k : Int).toNat = k := Int.toNat_natCast k
    have a := lossU_r (moved_s hs g d e) k (by omega)
    have b := hs.2.2.1 k (by omega)
    have c := wrong_r (moved_s hs g d e) (s := k) (by omega) (by omega)
    have p := zmulr (a := M 10 k) (b := wrong (moved M g d e) k) (A := 1000) (B := 2599000000) (by omega) (by omega) c.1 c.2
    have ew := ag_wrong ag k
    have hlT : ∀ n, n < 2 ^ (T 11 0).toNat → T 49 n = gl T n := fun i hi => by
      rw [hT 49 (by decide) (by decide) (by decide) (by decide), moved_o 49 (by decide)]
      have t1 : gl T i = gl M i := by unfold gl; rw [ag_gw ag, moved_gw]
      rw [t1]
      rw [ag 11 (by decide), moved_o 11 (by decide)] at hi
      exact hl i hi
    have nx : ∀ T : zM, offS (moved M g d e) T → zK (zg E) rmX6_lossMoved 9 (Qp, 0, 0) X (0, 0) 60 [some (zR 47), some (zI g), some (zI d), some (zI e), some (zI (M 13 g)), some (zI (M 14 g)), some (zL (lossU (moved M g d e) (k + 1))), none, some (zI (k + 1 : Nat))] [] T := fun T hT => ih (k + 1) T (by omega) hT
    simp only [lossU] at nx
    rw [ef] at nx
    refine zr_iload (pc := 60) S dX6_lossMoved_60 rfl ?_
    refine zr_aload_n (pc := 62) S dX6_lossMoved_62 rfl ?_
    refine zr_getR (pc := 63) S fX6_lossMoved_28 dX6_lossMoved_63 rfl (Nat.le_of_ble_eq_true rfl) rfl ?_
    refine zr_getI (pc := 66) S fX6_lossMoved_109 dX6_lossMoved_66 rfl (Nat.le_of_ble_eq_true rfl) rfl ?_
    rw [e2, es]
    refine zr_icmp_ge (pc := 69) (tgt := 114) S dX6_lossMoved_69 (by decide) (fun c69 => absurd c69 (by omega)) (fun c69 => ?_)
    refine zr_aload_n (pc := 72) S dX6_lossMoved_72 rfl ?_
    refine zr_getR (pc := 73) S fX6_lossMoved_28 dX6_lossMoved_73 rfl (Nat.le_of_ble_eq_true rfl) rfl ?_
    refine zr_getR (pc := 76) S fX6_lossMoved_121 dX6_lossMoved_76 rfl (Nat.le_of_ble_eq_true rfl) rfl ?_
    refine zr_iload (pc := 79) S dX6_lossMoved_79 rfl ?_
    refine zr_iaload (pc := 81) S dX6_lossMoved_81 rfl (Nat.le_of_ble_eq_true rfl) (by omega) (by omega) ?_
    rw [e3, ef, ek]
    refine zr_if_le (pc := 82) (tgt := 108) S dX6_lossMoved_82 (by decide) (fun c82 => ?_) (fun c82 => ?_)
    · simp only [if_neg (show ¬ 0 < M 10 k by omega)] at nx
      have q := nx T hT
      refine zr_iinc (pc := 108) S dX6_lossMoved_108 rfl (by unfold zrI; omega) (by decide) ?_
      dsimp only [zst1, zst2, zset, zget, zlong]
      refine zr_goto (pc := 111) (tgt := 60) S dX6_lossMoved_111 (by decide) ?_
      exact q
    · simp only [if_pos c82] at nx
      refine zr_lload (pc := 85) S dX6_lossMoved_85 rfl ?_
      refine zr_aload_n (pc := 87) S dX6_lossMoved_87 rfl ?_
      refine zr_getR (pc := 88) S fX6_lossMoved_28 dX6_lossMoved_88 rfl (Nat.le_of_ble_eq_true rfl) rfl ?_
      refine zr_getR (pc := 91) S fX6_lossMoved_121 dX6_lossMoved_91 rfl (Nat.le_of_ble_eq_true rfl) rfl ?_
      refine zr_iload (pc := 94) S dX6_lossMoved_94 rfl ?_
      refine zr_iaload (pc := 96) S dX6_lossMoved_96 rfl (Nat.le_of_ble_eq_true rfl) (by omega) (by omega) ?_
      rw [e3, ef, ek]
      refine zr_i2l (pc := 97) S dX6_lossMoved_97 ?_
      refine zr_aload_n (pc := 98) S dX6_lossMoved_98 rfl ?_
      refine zr_iload (pc := 99) S dX6_lossMoved_99 rfl ?_
      refine zr_invV (pc := 101) S [zI _] (m_X6_wrongOf _) kX6_lossMoved_124 dX6_lossMoved_101 rfl (Nat.le_of_ble_eq_true rfl) rfl (Nat.le_of_ble_eq_true rfl) ⟨Nat.le_of_ble_eq_true rfl, Nat.le_of_ble_eq_true rfl⟩ (us_X6_wrongOf (ag.g (moved_g hg g d e)) (ag.s (moved_s hs g d e)) (by omega) (by omega) hlT ?_)
      dsimp only [zaft, Option.toList, List.cons_append, List.nil_append, Nat.add_zero]
      rintro r T2 ⟨rfl, hT2⟩
      dsimp only [zaft, Option.toList, List.cons_append, List.nil_append]
      rw [ew]
      have q := nx T2 (fun i h1 h2 h3 h4 => by rw [hT2 i h1 h2 h3 h4]; exact hT i h1 h2 h3 h4)
      refine zr_lmul (pc := 104) S dX6_lossMoved_104 (by unfold zrL; omega) ?_
      refine zr_ladd (pc := 105) S dX6_lossMoved_105 (by unfold zrL; omega) ?_
      refine zr_lstore (pc := 106) S dX6_lossMoved_106 (by decide) ?_
      dsimp only [zst1, zst2, zset, zget, zlong]
      refine zr_iinc (pc := 108) S dX6_lossMoved_108 rfl (by unfold zrI; omega) (by decide) ?_
      dsimp only [zst1, zst2, zset, zget, zlong]
      refine zr_goto (pc := 111) (tgt := 60) S dX6_lossMoved_111 (by decide) ?_
      exact q
def sp_X6_lossMoved (as : List zV) (M : zM) (Q : Option zV → zM → Prop) : Prop := ∃ (g : Nat) (d e : Int), as = [zR 47, zI g, zI d, zI e] ∧ (ICg M) ∧ (ICs M) ∧ (lrnd M) ∧ (g < 8) ∧ (-99 ≤ d ∧ d ≤ 99) ∧ (-99 ≤ e ∧ e ≤ 99) ∧ (∀ (r : Option zV) (M' : zM), (r = some (zL (lossM M g d e)) ∧ offS M M') → Q r M')
theorem us_X6_lossMoved {g : Nat} {d e : Int} {M : zM} {Q : Option zV → zM → Prop} (hg : ICg M) (hs : ICs M) (hl : lrnd M) (h8 : g < 8) (hd : -99 ≤ d ∧ d ≤ 99) (he : -99 ≤ e ∧ e ≤ 99) (h99 : (∀ (r : Option zV) (M' : zM), (r = some (zL (lossM M g d e)) ∧ offS M M') → Q r M')) : sp_X6_lossMoved [zR 47, zI g, zI d, zI e] M Q := ⟨g, d, e, rfl, hg, hs, hl, h8, hd, he, h99⟩
set_option maxRecDepth 20000 in
set_option maxHeartbeats 4000000 in
theorem m_X6_lossMoved (l : Launch) : zC l yX6_lossMoved wzX6_lossMoved rmX6_lossMoved sp_X6_lossMoved := by
  refine zMet.of RX6 (by decide +kernel) rfl rfl ?_
  intro E X as M Qp hX S hsp
  obtain ⟨g, d, e, rfl, hg, hs, hl, h8, hd, he, hQ⟩ := hsp
  refine ⟨Nat.le_of_ble_eq_true rfl, ?_⟩
  dsimp only [zpad, zargs]
  have hm := hs.1
  have b := hg.2 g h8
  have eg : (g : Int).toNat = g := Int.toNat_natCast g
  have q := lp_X6_lossMoved S hg hs hl h8 (fun T hT => hQ _ T ⟨rfl, hT⟩) (M 2 0).toNat 0 (moved M g d e) (by omega) (fun _ _ _ _ _ => rfl)
  simp only [lossU] at q
  unfold moved at q
  refine zr_aload_n (pc := 0) S dX6_lossMoved_0 rfl ?_
  refine zr_getR (pc := 1) S fX6_lossMoved_32 dX6_lossMoved_1 rfl (Nat.le_of_ble_eq_true rfl) rfl ?_
  refine zr_getR (pc := 4) S fX6_lossMoved_67 dX6_lossMoved_4 rfl (Nat.le_of_ble_eq_true rfl) rfl ?_
  refine zr_iload_n (pc := 7) S dX6_lossMoved_7 rfl ?_
  refine zr_iaload (pc := 8) S dX6_lossMoved_8 rfl (Nat.le_of_ble_eq_true rfl) (by omega) (by omega) ?_
  rw [eg]
  refine zr_istore (pc := 9) S dX6_lossMoved_9 (by decide) ?_
  dsimp only [zst1, zst2, zset, zget, zlong]
  refine zr_aload_n (pc := 11) S dX6_lossMoved_11 rfl ?_
  refine zr_getR (pc := 12) S fX6_lossMoved_32 dX6_lossMoved_12 rfl (Nat.le_of_ble_eq_true rfl) rfl ?_
  refine zr_getR (pc := 15) S fX6_lossMoved_73 dX6_lossMoved_15 rfl (Nat.le_of_ble_eq_true rfl) rfl ?_
  refine zr_iload_n (pc := 18) S dX6_lossMoved_18 rfl ?_
  refine zr_iaload (pc := 19) S dX6_lossMoved_19 rfl (Nat.le_of_ble_eq_true rfl) (by omega) (by omega) ?_
  rw [eg]
  refine zr_istore (pc := 20) S dX6_lossMoved_20 (by decide) ?_
  dsimp only [zst1, zst2, zset, zget, zlong]
  refine zr_aload_n (pc := 22) S dX6_lossMoved_22 rfl ?_
  refine zr_getR (pc := 23) S fX6_lossMoved_32 dX6_lossMoved_23 rfl (Nat.le_of_ble_eq_true rfl) rfl ?_
  refine zr_getR (pc := 26) S fX6_lossMoved_67 dX6_lossMoved_26 rfl (Nat.le_of_ble_eq_true rfl) rfl ?_
  refine zr_iload_n (pc := 29) S dX6_lossMoved_29 rfl ?_
  refine zr_iload (pc := 30) S dX6_lossMoved_30 rfl ?_
  refine zr_iload_n (pc := 32) S dX6_lossMoved_32 rfl ?_
  refine zr_iadd (pc := 33) S dX6_lossMoved_33 (by unfold zrI; omega) ?_
  refine zr_invS (pc := 34) S [zI _] (m_X2_kept _) kX6_lossMoved_118 dX6_lossMoved_34 (Nat.le_of_ble_eq_true rfl) ⟨Nat.le_of_ble_eq_true rfl, Nat.le_of_ble_eq_true rfl⟩ (us_X2_kept (by unfold zrI; omega) ?_)
  dsimp only [zaft, Option.toList, List.cons_append, List.nil_append, Nat.add_zero]
  refine zr_iastore (pc := 37) S dX6_lossMoved_37 rfl (Nat.le_of_ble_eq_true rfl) (by omega) (by omega) ?_
  rw [eg]
  refine zr_aload_n (pc := 38) S dX6_lossMoved_38 rfl ?_
  refine zr_getR (pc := 39) S fX6_lossMoved_32 dX6_lossMoved_39 rfl (Nat.le_of_ble_eq_true rfl) rfl ?_
  try simp only [zup_k, zup_e, ne_eq, Nat.reduceEqDiff, not_false_eq_true, zup_j]
  refine zr_getR (pc := 42) S fX6_lossMoved_73 dX6_lossMoved_42 rfl (Nat.le_of_ble_eq_true rfl) rfl ?_
  try simp only [zup_k, zup_e, ne_eq, Nat.reduceEqDiff, not_false_eq_true, zup_j]
  refine zr_iload_n (pc := 45) S dX6_lossMoved_45 rfl ?_
  refine zr_iload (pc := 46) S dX6_lossMoved_46 rfl ?_
  refine zr_iload_n (pc := 48) S dX6_lossMoved_48 rfl ?_
  refine zr_iadd (pc := 49) S dX6_lossMoved_49 (by unfold zrI; omega) ?_
  refine zr_invS (pc := 50) S [zI _] (m_X2_kept _) kX6_lossMoved_118 dX6_lossMoved_50 (Nat.le_of_ble_eq_true rfl) ⟨Nat.le_of_ble_eq_true rfl, Nat.le_of_ble_eq_true rfl⟩ (us_X2_kept (by unfold zrI; omega) ?_)
  dsimp only [zaft, Option.toList, List.cons_append, List.nil_append, Nat.add_zero]
  refine zr_iastore (pc := 53) S dX6_lossMoved_53 rfl (Nat.le_of_ble_eq_true rfl) (by omega) (by omega) ?_
  rw [eg]
  refine zr_lconst0 (pc := 54) S dX6_lossMoved_54 ?_
  refine zr_lstore (pc := 55) S dX6_lossMoved_55 (by decide) ?_
  dsimp only [zst1, zst2, zset, zget, zlong]
  refine zr_iconst (pc := 57) S dX6_lossMoved_57 (by unfold zrI; omega) ?_
  refine zr_istore (pc := 58) S dX6_lossMoved_58 (by decide) ?_
  dsimp only [zst1, zst2, zset, zget, zlong]
  exact q
end
