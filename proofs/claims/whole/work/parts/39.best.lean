section
/-- the best move so far, of the first t moves by d, then e -/
def bstS (l : Int → Int → Int) (d e : Int) (p : Int × Int × Int) : Int × Int × Int := if l d e < p.2.2 ∨ (l d e = p.2.2 ∧ (d.natAbs : Int) + e.natAbs < (p.1.natAbs : Int) + p.2.1.natAbs) then (d, e, l d e) else p
def bst (l : Int → Int → Int) : Nat → Int × Int × Int
  | 0 => (0, 0, l 0 0)
  | t + 1 => bstS l ((t / 9 : Nat) - 4) ((t % 9 : Nat) - 4) (bst l t)
theorem bst_r (l : Int → Int → Int) (c : Int) (hl : ∀ d e : Int, -4 ≤ d → d ≤ 4 → -4 ≤ e → e ≤ 4 → 0 ≤ l d e ∧ l d e ≤ c) : ∀ t, t ≤ 81 → (-4 ≤ (bst l t).1 ∧ (bst l t).1 ≤ 4) ∧ (-4 ≤ (bst l t).2.1 ∧ (bst l t).2.1 ≤ 4) ∧ (0 ≤ (bst l t).2.2 ∧ (bst l t).2.2 ≤ c)
  | 0, _ => by
    have := hl 0 0 (by omega) (by omega) (by omega) (by omega)
    simp only [bst]
    omega
  | t + 1, ht => by
    have a := bst_r l c hl t (by omega)
    have := hl ((t / 9 : Nat) - 4) ((t % 9 : Nat) - 4) (by omega) (by omega) (by omega) (by omega)
    simp only [bst, bstS]
    split
    · simp only
      omega
    · exact a
theorem ag_lossU {M N : zM} (h : AG M N) : ∀ k, lossU N k = lossU M k
  | 0 => rfl
  | k + 1 => by
    simp only [lossU]
    rw [ag_lossU h k, ag_wrong h, h 10 (by decide)]
theorem ag_moved {M N : zM} (h : AG M N) (g : Nat) (d e : Int) : AG (moved M g d e) (moved N g d e) := fun k hk => by
  have e1 := h 13 (by decide)
  have e2 := h 14 (by decide)
  by_cases h1 : k = 13
  · subst h1
    unfold moved
    rw [zup_o (k := 14) 13 (by decide), zup_o (k := 14) 13 (by decide), zup_s, zup_s, e1]
  · by_cases h2 : k = 14
    · subst h2
      unfold moved
      rw [zup_s, zup_s, zup_o (k := 13) 14 (by decide), zup_o (k := 13) 14 (by decide), e2]
    · rw [moved_o k ⟨h1, h2⟩, moved_o k ⟨h1, h2⟩]
      exact h k hk
theorem ag_lossM {M N : zM} (h : AG M N) (g : Nat) (d e : Int) : lossM N g d e = lossM M g d e := by
  unfold lossM
  rw [ag_lossU (ag_moved h g d e), h 2 (by decide)]
theorem lossM_r {M : zM} (hs : ICs M) (g : Nat) (d e : Int) : 0 ≤ lossM M g d e ∧ lossM M g d e ≤ 20792000000000 := by
  have h8 := hs.1
  have := lossU_r (moved_s hs g d e) (M 2 0).toNat (by omega)
  unfold lossM
  omega
/-- while the best move is sought: gates and sorts as they were, the outcomes learned, the best so far held -/
def fbI (M T : zM) (g : Nat) (t : Nat) : Prop := (∀ k, k ≠ 47 → k ≠ 49 → k ≠ 48 → k ≠ 50 → k ≠ 51 → k ≠ 52 → T k = M k) ∧ lrnd T ∧ T 47 7 = (bst (lossM M g) t).1 ∧ T 47 8 = (bst (lossM M g) t).2.1 ∧ T 47 9 = (bst (lossM M g) t).2.2
theorem fbI.ag {M T : zM} {g t : Nat} (h : fbI M T g t) : AG M T := fun k hk => h.1 k (by omega) (by omega) (by omega) (by omega) (by omega) (by omega)
theorem lrnd_ag {M T : zM} (h : AG M T) (hl : lrnd M) (ho : T 49 = M 49) : lrnd T := fun n hn => by
  have e : gl T n = gl M n := by unfold gl; exact ag_gw h _ _ _
  rw [h 11 (by decide)] at hn
  rw [ho, e]
  exact hl n hn
theorem fbI_step {M T T2 T3 : zM} {g t : Nat} (h : fbI M T g t) (h2 : offS T T2) (h3 : (∀ k, k ≠ 47 → T3 k = T2 k)) (hb : T3 47 7 = (bst (lossM M g) (t + 1)).1 ∧ T3 47 8 = (bst (lossM M g) (t + 1)).2.1 ∧ T3 47 9 = (bst (lossM M g) (t + 1)).2.2) : fbI M T3 g (t + 1) := by
  refine ⟨fun k k1 k2 k3 k4 k5 k6 => by rw [h3 k k1, h2 k k3 k4 k5 k6]; exact h.1 k k1 k2 k3 k4 k5 k6, ?_, hb⟩
  refine lrnd_ag (M := T) (fun k hk => by rw [h3 k (by omega)]; exact h2.ag k hk) h.2.1 ?_
  rw [h3 _ (by decide)]
  exact h2 _ (by decide) (by decide) (by decide) (by decide)
theorem lp_X6_findBest_e {E : zE} {X : zX} {Qp : Option zV → zM → Prop} {M : zM} {g a : Nat} (S : zS (zg E) X cX6_findBest 7 wzX6_findBest RX6 none) (hg : ICg M) (hs : ICs M) (h8 : g < 8) (ha : a < 9) (hk : ∀ (T : zM) (u4 u6 : Option zV), fbI M T g (9 * a + 9) → zK (zg E) rmX6_findBest 7 (Qp, 0, 0) X (0, 0) 131 [some (zR 47), some (zI g), some (zI ((a : Int) - 4)), some (zI 5), u4, none, u6] [] T) : ∀ (n c : Nat) (T : zM) (u4 u6 : Option zV), n + c = 9 → fbI M T g (9 * a + c) → zK (zg E) rmX6_findBest 7 (Qp, 0, 0) X (0, 0) 36 [some (zR 47), some (zI g), some (zI ((a : Int) - 4)), some (zI ((c : Int) - 4)), u4, none, u6] [] T := by
  intro n
  induction n with
  | zero =>
    intro c T u4 u6 hc hI
    have e : c = 9 := by omega
    subst e
    have q := hk T u4 u6 hI
    have e5 : ((9 : Nat) : Int) - 4 = 5 := rfl
    rw [e5]
    refine zr_iload_n (pc := 36) S dX6_findBest_36 rfl ?_
    refine zr_iconst (pc := 37) S dX6_findBest_37 (by unfold zrI; omega) ?_
    refine zr_icmp_gt (pc := 38) (tgt := 131) S dX6_findBest_38 (by decide) (fun c38 => ?_) (fun c38 => absurd c38 (by omega))
    exact q
  | succ n ih =>
    intro c T u4 u6 hc hI
    have ag := hI.ag
    have lr := lossM_r hs g ((a : Int) - 4) ((c : Int) - 4)
    have br := bst_r (lossM M g) 20792000000000 (fun d e _ _ _ _ => lossM_r hs g d e) (9 * a + c) (by omega)
    have el := ag_lossM ag g ((a : Int) - 4) ((c : Int) - 4)
    have et1 : (9 * a + c) / 9 = a := by omega
    have et2 : (9 * a + c) % 9 = c := by omega
    have eb : bst (lossM M g) (9 * a + c + 1) = bstS (lossM M g) ((a : Int) - 4) ((c : Int) - 4) (bst (lossM M g) (9 * a + c)) := by
      simp only [bst]
      rw [et1, et2]
    refine zr_iload_n (pc := 36) S dX6_findBest_36 rfl ?_
    refine zr_iconst (pc := 37) S dX6_findBest_37 (by unfold zrI; omega) ?_
    refine zr_icmp_gt (pc := 38) (tgt := 131) S dX6_findBest_38 (by decide) (fun c38 => absurd c38 (by omega)) (fun c38 => ?_)
    refine zr_aload_n (pc := 41) S dX6_findBest_41 rfl ?_
    refine zr_iload_n (pc := 42) S dX6_findBest_42 rfl ?_
    refine zr_iload_n (pc := 43) S dX6_findBest_43 rfl ?_
    refine zr_iload_n (pc := 44) S dX6_findBest_44 rfl ?_
    refine zr_invV (pc := 45) S [zI _, zI _, zI _] (m_X6_lossMoved _) kX6_findBest_136 dX6_findBest_45 rfl (Nat.le_of_ble_eq_true rfl) rfl (Nat.le_of_ble_eq_true rfl) ⟨Nat.le_of_ble_eq_true rfl, Nat.le_of_ble_eq_true rfl⟩ (us_X6_lossMoved (ag.g hg) (ag.s hs) hI.2.1 h8 (by omega) (by omega) ?_)
    rintro r T2 ⟨rfl, h2⟩
    dsimp only [zaft, Option.toList, List.cons_append, List.nil_append]
    rw [el]
    have f7 : T2 47 7 = (bst (lossM M g) (9 * a + c)).1 := by rw [h2 _ (by decide) (by decide) (by decide) (by decide)]; exact hI.2.2.1
    have f8 : T2 47 8 = (bst (lossM M g) (9 * a + c)).2.1 := by rw [h2 _ (by decide) (by decide) (by decide) (by decide)]; exact hI.2.2.2.1
    have f9 : T2 47 9 = (bst (lossM M g) (9 * a + c)).2.2 := by rw [h2 _ (by decide) (by decide) (by decide) (by decide)]; exact hI.2.2.2.2
    generalize hv : lossM M g ((a : Int) - 4) ((c : Int) - 4) = v at *
    generalize hp : bst (lossM M g) (9 * a + c) = p at *
    have keep : ¬ (v < p.2.2 ∨ (v = p.2.2 ∧ ((((a : Int) - 4).natAbs : Int) + ((c : Int) - 4).natAbs < (p.1.natAbs : Int) + p.2.1.natAbs))) → ∀ u4 u6, zK (zg E) rmX6_findBest 7 (Qp, 0, 0) X (0, 0) 36 [some (zR 47), some (zI g), some (zI ((a : Int) - 4)), some (zI (((c + 1 : Nat) : Int) - 4)), u4, none, u6] [] T2 := fun hn u4 u6 => by
      refine ih (c + 1) T2 u4 u6 (by omega) (fbI_step (t := 9 * a + c) hI h2 (fun _ _ => rfl) ?_)
      rw [eb]
      unfold bstS
      rw [hv, if_neg hn]
      exact ⟨f7, f8, f9⟩
    have take : (v < p.2.2 ∨ (v = p.2.2 ∧ ((((a : Int) - 4).natAbs : Int) + ((c : Int) - 4).natAbs < (p.1.natAbs : Int) + p.2.1.natAbs))) → ∀ u4 u6, zK (zg E) rmX6_findBest 7 (Qp, 0, 0) X (0, 0) 36 [some (zR 47), some (zI g), some (zI ((a : Int) - 4)), some (zI (((c + 1 : Nat) : Int) - 4)), u4, none, u6] [] (zup (zup (zup T2 47 7 ((a : Int) - 4)) 47 8 ((c : Int) - 4)) 47 9 v) := fun hn u4 u6 => by
      refine ih (c + 1) _ u4 u6 (by omega) (fbI_step (t := 9 * a + c) hI h2 (fun k hk => by rw [zup_o k hk, zup_o k hk, zup_o k hk]) ?_)
      rw [eb]
      unfold bstS
      rw [hv, if_pos hn]
      refine ⟨?_, ?_, ?_⟩
      · rw [zup_j (by decide), zup_j (by decide), zup_e]
      · rw [zup_j (by decide), zup_e]
      · rw [zup_e]
    have ec : ((c : Int) - 4) + 1 = ((c + 1 : Nat) : Int) - 4 := by omega
    refine zr_lstore (pc := 48) S dX6_findBest_48 (by decide) ?_
    dsimp only [zst1, zst2, zset, zget, zlong]
    refine zr_iload_n (pc := 50) S dX6_findBest_50 rfl ?_
    refine zr_mabs (pc := 51) S kX6_findBest_144 dX6_findBest_51 (Nat.le_of_ble_eq_true rfl) (Nat.le_of_ble_eq_true rfl) ⟨Nat.le_of_ble_eq_true rfl, Nat.le_of_ble_eq_true rfl⟩ (by unfold zrI; omega) ?_
    refine zr_iload_n (pc := 54) S dX6_findBest_54 rfl ?_
    refine zr_mabs (pc := 55) S kX6_findBest_144 dX6_findBest_55 (Nat.le_of_ble_eq_true rfl) (Nat.le_of_ble_eq_true rfl) ⟨Nat.le_of_ble_eq_true rfl, Nat.le_of_ble_eq_true rfl⟩ (by unfold zrI; omega) ?_
    refine zr_iadd (pc := 58) S dX6_findBest_58 (by unfold zrI; omega) ?_
    refine zr_aload_n (pc := 59) S dX6_findBest_59 rfl ?_
    refine zr_getI (pc := 60) S fX6_findBest_130 dX6_findBest_60 rfl (Nat.le_of_ble_eq_true rfl) rfl ?_
    rw [f7]
    refine zr_mabs (pc := 63) S kX6_findBest_144 dX6_findBest_63 (Nat.le_of_ble_eq_true rfl) (Nat.le_of_ble_eq_true rfl) ⟨Nat.le_of_ble_eq_true rfl, Nat.le_of_ble_eq_true rfl⟩ (by unfold zrI; omega) ?_
    refine zr_aload_n (pc := 66) S dX6_findBest_66 rfl ?_
    refine zr_getI (pc := 67) S fX6_findBest_133 dX6_findBest_67 rfl (Nat.le_of_ble_eq_true rfl) rfl ?_
    rw [f8]
    refine zr_mabs (pc := 70) S kX6_findBest_144 dX6_findBest_70 (Nat.le_of_ble_eq_true rfl) (Nat.le_of_ble_eq_true rfl) ⟨Nat.le_of_ble_eq_true rfl, Nat.le_of_ble_eq_true rfl⟩ (by unfold zrI; omega) ?_
    refine zr_iadd (pc := 73) S dX6_findBest_73 (by unfold zrI; omega) ?_
    refine zr_icmp_ge (pc := 74) (tgt := 81) S dX6_findBest_74 (by decide) (fun c74 => ?_) (fun c74 => ?_)
    · refine zr_iconst (pc := 81) S dX6_findBest_81 (by unfold zrI; omega) ?_
      refine zr_istore (pc := 82) S dX6_findBest_82 (by decide) ?_
      dsimp only [zst1, zst2, zset, zget, zlong]
      refine zr_lload (pc := 84) S dX6_findBest_84 rfl ?_
      refine zr_aload_n (pc := 86) S dX6_findBest_86 rfl ?_
      refine zr_getL (pc := 87) S fX6_findBest_140 dX6_findBest_87 rfl (Nat.le_of_ble_eq_true rfl) rfl ?_
      rw [f9]
      refine zr_lcmp_lt (pc := 90) (tgt := 109) S dX6_findBest_90 dX6_findBest_91 (by decide) (fun c90 => ?_) (fun c90 => ?_)
      · refine zr_aload_n (pc := 109) S dX6_findBest_109 rfl ?_
        refine zr_iload_n (pc := 110) S dX6_findBest_110 rfl ?_
        refine zr_putI (pc := 111) S pX6_findBest_130 dX6_findBest_111 rfl (Nat.le_of_ble_eq_true rfl) rfl ?_
        refine zr_aload_n (pc := 114) S dX6_findBest_114 rfl ?_
        refine zr_iload_n (pc := 115) S dX6_findBest_115 rfl ?_
        refine zr_putI (pc := 116) S pX6_findBest_133 dX6_findBest_116 rfl (Nat.le_of_ble_eq_true rfl) rfl ?_
        refine zr_aload_n (pc := 119) S dX6_findBest_119 rfl ?_
        refine zr_lload (pc := 120) S dX6_findBest_120 rfl ?_
        refine zr_putL (pc := 122) S pX6_findBest_140 dX6_findBest_122 rfl (Nat.le_of_ble_eq_true rfl) rfl ?_
        refine zr_iinc (pc := 125) S dX6_findBest_125 rfl (by unfold zrI; omega) (by decide) ?_
        dsimp only [zst1, zst2, zset, zget, zlong]
        rw [ec]
        refine zr_goto (pc := 128) (tgt := 36) S dX6_findBest_128 (by decide) ?_
        first
          | exact keep (by omega) _ _
          | exact take (by omega) _ _
      · refine zr_lload (pc := 94) S dX6_findBest_94 rfl ?_
        refine zr_aload_n (pc := 96) S dX6_findBest_96 rfl ?_
        refine zr_getL (pc := 97) S fX6_findBest_140 dX6_findBest_97 rfl (Nat.le_of_ble_eq_true rfl) rfl ?_
        rw [f9]
        refine zr_lcmp_ne (pc := 100) (tgt := 125) S dX6_findBest_100 dX6_findBest_101 (by decide) (fun c100 => ?_) (fun c100 => ?_)
        · refine zr_iinc (pc := 125) S dX6_findBest_125 rfl (by unfold zrI; omega) (by decide) ?_
          dsimp only [zst1, zst2, zset, zget, zlong]
          rw [ec]
          refine zr_goto (pc := 128) (tgt := 36) S dX6_findBest_128 (by decide) ?_
          first
            | exact keep (by omega) _ _
            | exact take (by omega) _ _
        · refine zr_iload (pc := 104) S dX6_findBest_104 rfl ?_
          refine zr_if_eq (pc := 106) (tgt := 125) S dX6_findBest_106 (by decide) (fun c106 => ?_) (fun c106 => ?_)
          · skip
            refine zr_iinc (pc := 125) S dX6_findBest_125 rfl (by unfold zrI; omega) (by decide) ?_
            dsimp only [zst1, zst2, zset, zget, zlong]
            rw [ec]
            refine zr_goto (pc := 128) (tgt := 36) S dX6_findBest_128 (by decide) ?_
            first
              | exact keep (by omega) _ _
              | exact take (by omega) _ _
          · skip
            refine zr_aload_n (pc := 109) S dX6_findBest_109 rfl ?_
            refine zr_iload_n (pc := 110) S dX6_findBest_110 rfl ?_
            refine zr_putI (pc := 111) S pX6_findBest_130 dX6_findBest_111 rfl (Nat.le_of_ble_eq_true rfl) rfl ?_
            refine zr_aload_n (pc := 114) S dX6_findBest_114 rfl ?_
            refine zr_iload_n (pc := 115) S dX6_findBest_115 rfl ?_
            refine zr_putI (pc := 116) S pX6_findBest_133 dX6_findBest_116 rfl (Nat.le_of_ble_eq_true rfl) rfl ?_
            refine zr_aload_n (pc := 119) S dX6_findBest_119 rfl ?_
            refine zr_lload (pc := 120) S dX6_findBest_120 rfl ?_
            refine zr_putL (pc := 122) S pX6_findBest_140 dX6_findBest_122 rfl (Nat.le_of_ble_eq_true rfl) rfl ?_
            refine zr_iinc (pc := 125) S dX6_findBest_125 rfl (by unfold zrI; omega) (by decide) ?_
            dsimp only [zst1, zst2, zset, zget, zlong]
            rw [ec]
            refine zr_goto (pc := 128) (tgt := 36) S dX6_findBest_128 (by decide) ?_
            first
              | exact keep (by omega) _ _
              | exact take (by omega) _ _
    · refine zr_iconst (pc := 77) S dX6_findBest_77 (by unfold zrI; omega) ?_
      refine zr_goto (pc := 78) (tgt := 82) S dX6_findBest_78 (by decide) ?_
      refine zr_istore (pc := 82) S dX6_findBest_82 (by decide) ?_
      dsimp only [zst1, zst2, zset, zget, zlong]
      refine zr_lload (pc := 84) S dX6_findBest_84 rfl ?_
      refine zr_aload_n (pc := 86) S dX6_findBest_86 rfl ?_
      refine zr_getL (pc := 87) S fX6_findBest_140 dX6_findBest_87 rfl (Nat.le_of_ble_eq_true rfl) rfl ?_
      rw [f9]
      refine zr_lcmp_lt (pc := 90) (tgt := 109) S dX6_findBest_90 dX6_findBest_91 (by decide) (fun c90 => ?_) (fun c90 => ?_)
      · refine zr_aload_n (pc := 109) S dX6_findBest_109 rfl ?_
        refine zr_iload_n (pc := 110) S dX6_findBest_110 rfl ?_
        refine zr_putI (pc := 111) S pX6_findBest_130 dX6_findBest_111 rfl (Nat.le_of_ble_eq_true rfl) rfl ?_
        refine zr_aload_n (pc := 114) S dX6_findBest_114 rfl ?_
        refine zr_iload_n (pc := 115) S dX6_findBest_115 rfl ?_
        refine zr_putI (pc := 116) S pX6_findBest_133 dX6_findBest_116 rfl (Nat.le_of_ble_eq_true rfl) rfl ?_
        refine zr_aload_n (pc := 119) S dX6_findBest_119 rfl ?_
        refine zr_lload (pc := 120) S dX6_findBest_120 rfl ?_
        refine zr_putL (pc := 122) S pX6_findBest_140 dX6_findBest_122 rfl (Nat.le_of_ble_eq_true rfl) rfl ?_
        refine zr_iinc (pc := 125) S dX6_findBest_125 rfl (by unfold zrI; omega) (by decide) ?_
        dsimp only [zst1, zst2, zset, zget, zlong]
        rw [ec]
        refine zr_goto (pc := 128) (tgt := 36) S dX6_findBest_128 (by decide) ?_
        first
          | exact keep (by omega) _ _
          | exact take (by omega) _ _
      · refine zr_lload (pc := 94) S dX6_findBest_94 rfl ?_
        refine zr_aload_n (pc := 96) S dX6_findBest_96 rfl ?_
        refine zr_getL (pc := 97) S fX6_findBest_140 dX6_findBest_97 rfl (Nat.le_of_ble_eq_true rfl) rfl ?_
        rw [f9]
        refine zr_lcmp_ne (pc := 100) (tgt := 125) S dX6_findBest_100 dX6_findBest_101 (by decide) (fun c100 => ?_) (fun c100 => ?_)
        · refine zr_iinc (pc := 125) S dX6_findBest_125 rfl (by unfold zrI; omega) (by decide) ?_
          dsimp only [zst1, zst2, zset, zget, zlong]
          rw [ec]
          refine zr_goto (pc := 128) (tgt := 36) S dX6_findBest_128 (by decide) ?_
          first
            | exact keep (by omega) _ _
            | exact take (by omega) _ _
        · refine zr_iload (pc := 104) S dX6_findBest_104 rfl ?_
          refine zr_if_eq (pc := 106) (tgt := 125) S dX6_findBest_106 (by decide) (fun c106 => ?_) (fun c106 => ?_)
          · skip
            refine zr_iinc (pc := 125) S dX6_findBest_125 rfl (by unfold zrI; omega) (by decide) ?_
            dsimp only [zst1, zst2, zset, zget, zlong]
            rw [ec]
            refine zr_goto (pc := 128) (tgt := 36) S dX6_findBest_128 (by decide) ?_
            first
              | exact keep (by omega) _ _
              | exact take (by omega) _ _
          · skip
            refine zr_aload_n (pc := 109) S dX6_findBest_109 rfl ?_
            refine zr_iload_n (pc := 110) S dX6_findBest_110 rfl ?_
            refine zr_putI (pc := 111) S pX6_findBest_130 dX6_findBest_111 rfl (Nat.le_of_ble_eq_true rfl) rfl ?_
            refine zr_aload_n (pc := 114) S dX6_findBest_114 rfl ?_
            refine zr_iload_n (pc := 115) S dX6_findBest_115 rfl ?_
            refine zr_putI (pc := 116) S pX6_findBest_133 dX6_findBest_116 rfl (Nat.le_of_ble_eq_true rfl) rfl ?_
            refine zr_aload_n (pc := 119) S dX6_findBest_119 rfl ?_
            refine zr_lload (pc := 120) S dX6_findBest_120 rfl ?_
            refine zr_putL (pc := 122) S pX6_findBest_140 dX6_findBest_122 rfl (Nat.le_of_ble_eq_true rfl) rfl ?_
            refine zr_iinc (pc := 125) S dX6_findBest_125 rfl (by unfold zrI; omega) (by decide) ?_
            dsimp only [zst1, zst2, zset, zget, zlong]
            rw [ec]
            refine zr_goto (pc := 128) (tgt := 36) S dX6_findBest_128 (by decide) ?_
            first
              | exact keep (by omega) _ _
              | exact take (by omega) _ _
theorem lp_X6_findBest_d {E : zE} {X : zX} {Qp : Option zV → zM → Prop} {M : zM} {g : Nat} (S : zS (zg E) X cX6_findBest 7 wzX6_findBest RX6 none) (hg : ICg M) (hs : ICs M) (h8 : g < 8) (hQ : ∀ T : zM, fbI M T g 81 → Qp none T) : ∀ (n a : Nat) (T : zM) (u3 u4 u6 : Option zV), n + a = 9 → fbI M T g (9 * a) → zK (zg E) rmX6_findBest 7 (Qp, 0, 0) X (0, 0) 28 [some (zR 47), some (zI g), some (zI ((a : Int) - 4)), u3, u4, none, u6] [] T := by
  intro n
  induction n with
  | zero =>
    intro a T u3 u4 u6 ha hI
    have e : a = 9 := by omega
    subst e
    have e5 : ((9 : Nat) : Int) - 4 = 5 := rfl
    rw [e5]
    have q := hQ T hI
    refine zr_iload_n (pc := 28) S dX6_findBest_28 rfl ?_
    refine zr_iconst (pc := 29) S dX6_findBest_29 (by unfold zrI; omega) ?_
    refine zr_icmp_gt (pc := 30) (tgt := 137) S dX6_findBest_30 (by decide) (fun c30 => ?_) (fun c30 => absurd c30 (by omega))
    exact zr_vret (pc := 137) S dX6_findBest_137 rfl ⟨Nat.le_refl _, Nat.le_refl _⟩ (q)
  | succ n ih =>
    intro a T u3 u4 u6 ha hI
    have ea : ((a : Int) - 4) + 1 = ((a + 1 : Nat) : Int) - 4 := by omega
    have nx : ∀ (T : zM) (u4 u6 : Option zV), fbI M T g (9 * a + 9) → zK (zg E) rmX6_findBest 7 (Qp, 0, 0) X (0, 0) 131 [some (zR 47), some (zI g), some (zI ((a : Int) - 4)), some (zI 5), u4, none, u6] [] T := fun T u4 u6 hI => by
      have q := fun u3 u4 u6 => ih (a + 1) T u3 u4 u6 (by omega) hI
      refine zr_iinc (pc := 131) S dX6_findBest_131 rfl (by unfold zrI; omega) (by decide) ?_
      dsimp only [zst1, zst2, zset, zget, zlong]
      rw [ea]
      refine zr_goto (pc := 134) (tgt := 28) S dX6_findBest_134 (by decide) ?_
      exact q _ _ _
    have q := fun u4 u6 => lp_X6_findBest_e S hg hs h8 (by omega) nx 9 0 T u4 u6 (by omega) hI
    refine zr_iload_n (pc := 28) S dX6_findBest_28 rfl ?_
    refine zr_iconst (pc := 29) S dX6_findBest_29 (by unfold zrI; omega) ?_
    refine zr_icmp_gt (pc := 30) (tgt := 137) S dX6_findBest_30 (by decide) (fun c30 => absurd c30 (by omega)) (fun c30 => ?_)
    refine zr_bipush (pc := 33) S dX6_findBest_33 ⟨by unfold zrI; omega, by decide⟩ ?_
    refine zr_istore_n (pc := 35) S 3 dX6_findBest_35 rfl (by decide) ?_
    dsimp only [zst1, zst2, zset, zget, zlong]
    exact q _ _
def sp_X6_findBest (as : List zV) (M : zM) (Q : Option zV → zM → Prop) : Prop := ∃ (g : Nat), as = [zR 47, zI g] ∧ (ICg M) ∧ (ICs M) ∧ (g < 8) ∧ (∀ (r : Option zV) (M' : zM), (r = none ∧ fbI M M' g 81) → Q r M')
theorem us_X6_findBest {g : Nat} {M : zM} {Q : Option zV → zM → Prop} (hg : ICg M) (hs : ICs M) (h8 : g < 8) (h99 : (∀ (r : Option zV) (M' : zM), (r = none ∧ fbI M M' g 81) → Q r M')) : sp_X6_findBest [zR 47, zI g] M Q := ⟨g, rfl, hg, hs, h8, h99⟩
set_option maxRecDepth 20000 in
set_option maxHeartbeats 4000000 in
theorem m_X6_findBest (l : Launch) : zC l yX6_findBest wzX6_findBest rmX6_findBest sp_X6_findBest := by
  refine zMet.of RX6 (by decide +kernel) rfl rfl ?_
  intro E X as M Qp hX S hsp
  obtain ⟨g, rfl, hg, hs, h8, hQ⟩ := hsp
  refine ⟨Nat.le_of_ble_eq_true rfl, ?_⟩
  dsimp only [zpad, zargs]
  refine zr_aload_n (pc := 0) S dX6_findBest_0 rfl ?_
  refine zr_invV (pc := 1) S [] (m_X6_learn _) kX6_findBest_127 dX6_findBest_1 rfl (Nat.le_of_ble_eq_true rfl) rfl (Nat.le_of_ble_eq_true rfl) ⟨Nat.le_of_ble_eq_true rfl, Nat.le_of_ble_eq_true rfl⟩ (us_X6_learn hg hs ?_)
  dsimp only [zaft, Option.toList, List.nil_append]
  have hm := hg.1
  have ag : AG M (lrnU M (2 ^ (M 11 0).toNat)) := lrnU_ag
  have ld : lrnd (lrnU M (2 ^ (M 11 0).toNat)) := fun n hn => by
    rw [ag 11 (by decide)] at hn
    have e : gl (lrnU M (2 ^ (M 11 0).toNat)) n = gl M n := by unfold gl; exact ag_gw ag _ _ _
    rw [e]
    simp [lrnU, hn]
  have ag2 : AG M (zup (zup (lrnU M (2 ^ (M 11 0).toNat)) 47 7 0) 47 8 0) := fun k hk => by rw [zup_o k (by omega), zup_o k (by omega)]; exact ag k hk
  have ld2 : lrnd (zup (zup (lrnU M (2 ^ (M 11 0).toNat)) 47 7 0) 47 8 0) := lrnd_ag (M := lrnU M (2 ^ (M 11 0).toNat)) (fun k hk => by rw [zup_o k (by omega), zup_o k (by omega)]) ld (by rw [zup_o _ (by decide), zup_o _ (by decide)])
  have el := ag_lossM ag2 g 0 0
  have lr := lossM_r hs g 0 0
  refine zr_aload_n (pc := 4) S dX6_findBest_4 rfl ?_
  refine zr_iconst (pc := 5) S dX6_findBest_5 (by unfold zrI; omega) ?_
  refine zr_putI (pc := 6) S pX6_findBest_130 dX6_findBest_6 rfl (Nat.le_of_ble_eq_true rfl) rfl ?_
  refine zr_aload_n (pc := 9) S dX6_findBest_9 rfl ?_
  refine zr_iconst (pc := 10) S dX6_findBest_10 (by unfold zrI; omega) ?_
  refine zr_putI (pc := 11) S pX6_findBest_133 dX6_findBest_11 rfl (Nat.le_of_ble_eq_true rfl) rfl ?_
  refine zr_aload_n (pc := 14) S dX6_findBest_14 rfl ?_
  refine zr_aload_n (pc := 15) S dX6_findBest_15 rfl ?_
  refine zr_iload_n (pc := 16) S dX6_findBest_16 rfl ?_
  refine zr_iconst (pc := 17) S dX6_findBest_17 (by unfold zrI; omega) ?_
  refine zr_iconst (pc := 18) S dX6_findBest_18 (by unfold zrI; omega) ?_
  refine zr_invV (pc := 19) S [zI _, zI _, zI _] (m_X6_lossMoved _) kX6_findBest_136 dX6_findBest_19 rfl (Nat.le_of_ble_eq_true rfl) rfl (Nat.le_of_ble_eq_true rfl) ⟨Nat.le_of_ble_eq_true rfl, Nat.le_of_ble_eq_true rfl⟩ (us_X6_lossMoved (ag2.g hg) (ag2.s hs) ld2 h8 (by omega) (by omega) ?_)
  rintro r T2 ⟨rfl, h2⟩
  dsimp only [zaft, Option.toList, List.cons_append, List.nil_append]
  rw [el]
  have i0 : fbI M (zup T2 47 9 (lossM M g 0 0)) g (9 * 0) := by
    refine ⟨fun k k1 k2 k3 k4 k5 k6 => by rw [zup_o k k1, h2 k k3 k4 k5 k6, zup_o k k1, zup_o k k1]; exact lrnU_o k k2, ?_, ?_, ?_, ?_⟩
    · refine lrnd_ag (M := T2) (fun k hk => zup_o k (by omega)) (lrnd_ag h2.ag ld2 (h2 _ (by decide) (by decide) (by decide) (by decide))) (zup_o _ (by decide))
    · rw [zup_j (by decide), h2 _ (by decide) (by decide) (by decide) (by decide), zup_j (by decide), zup_e]; rfl
    · rw [zup_j (by decide), h2 _ (by decide) (by decide) (by decide) (by decide), zup_e]; rfl
    · rw [zup_e]; rfl
  have q := fun u3 u4 u6 => lp_X6_findBest_d S hg hs h8 (fun T hT => hQ _ T ⟨rfl, hT⟩) 9 0 _ u3 u4 u6 (by omega) i0
  refine zr_putL (pc := 22) S pX6_findBest_140 dX6_findBest_22 rfl (Nat.le_of_ble_eq_true rfl) rfl ?_
  refine zr_bipush (pc := 25) S dX6_findBest_25 ⟨by unfold zrI; omega, by decide⟩ ?_
  refine zr_istore_n (pc := 27) S 2 dX6_findBest_27 rfl (by decide) ?_
  dsimp only [zst1, zst2, zset, zget, zlong]
  exact q _ _ _
end
